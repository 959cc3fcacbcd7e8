section
-- ===== PART A: goes FIRST, ahead of the names: the tables' words, and 'selects' of the private methods out of them =====
/-- a private method of a class that the tables say can be made, by its rows of tables_1 -/
def lw_okq (q : MethodName × Nat) : Prop := (q.1.cls ≠ "java/lang/invoke/MethodHandle" ∧ q.1.cls ≠ "java/lang/invoke/VarHandle") ∧ Cond.instantiable q.1.cls q.2 ∈ tables_1 ∧ Cond.privateMethod q.1 ∈ tables_1 ∧ Cond.instanceMethod q.1 ∈ tables_1
theorem lw_p0 : lw_okq (⟨"RoundKeepers", "resetAll", "()V"⟩, 10) := ⟨⟨by decide +kernel, by decide +kernel⟩, List.mem_of_getElem? (i := 33) (by decide +kernel), List.mem_of_getElem? (i := 432) (by decide +kernel), List.mem_of_getElem? (i := 433) (by decide +kernel)⟩
theorem lw_p1 : lw_okq (⟨"RoundKeepers$Keeping", "forget", "()V"⟩, 12) := ⟨⟨by decide +kernel, by decide +kernel⟩, List.mem_of_getElem? (i := 200) (by decide +kernel), List.mem_of_getElem? (i := 464) (by decide +kernel), List.mem_of_getElem? (i := 465) (by decide +kernel)⟩
theorem lw_p2 : lw_okq (⟨"java/lang/Throwable", "fillInStackTrace", "(I)Ljava/lang/Throwable;"⟩, 6) := ⟨⟨by decide +kernel, by decide +kernel⟩, List.mem_of_getElem? (i := 516) (by decide +kernel), List.mem_of_getElem? (i := 514) (by decide +kernel), List.mem_of_getElem? (i := 515) (by decide +kernel)⟩
theorem lw_p3 : lw_okq (⟨"RoundKeepers$Leader", "forgetRound", "()V"⟩, 17) := ⟨⟨by decide +kernel, by decide +kernel⟩, List.mem_of_getElem? (i := 194) (by decide +kernel), List.mem_of_getElem? (i := 807) (by decide +kernel), List.mem_of_getElem? (i := 808) (by decide +kernel)⟩
theorem lw_p4 : lw_okq (⟨"RoundKeepers$Leader", "forgetMatched", "()V"⟩, 17) := ⟨⟨by decide +kernel, by decide +kernel⟩, List.mem_of_getElem? (i := 194) (by decide +kernel), List.mem_of_getElem? (i := 811) (by decide +kernel), List.mem_of_getElem? (i := 812) (by decide +kernel)⟩
theorem lw_p5 : lw_okq (⟨"RoundKeepers$Keeper", "forgetReform", "()V"⟩, 12) := ⟨⟨by decide +kernel, by decide +kernel⟩, List.mem_of_getElem? (i := 361) (by decide +kernel), List.mem_of_getElem? (i := 831) (by decide +kernel), List.mem_of_getElem? (i := 832) (by decide +kernel)⟩
theorem lw_p6 : lw_okq (⟨"RoundKeepers", "leaderAt", "(I)LRoundKeepers$Leader;"⟩, 10) := ⟨⟨by decide +kernel, by decide +kernel⟩, List.mem_of_getElem? (i := 33) (by decide +kernel), List.mem_of_getElem? (i := 888) (by decide +kernel), List.mem_of_getElem? (i := 889) (by decide +kernel)⟩
theorem lw_p7 : lw_okq (⟨"RoundKeepers", "requireUp", "(I)V"⟩, 10) := ⟨⟨by decide +kernel, by decide +kernel⟩, List.mem_of_getElem? (i := 33) (by decide +kernel), List.mem_of_getElem? (i := 923) (by decide +kernel), List.mem_of_getElem? (i := 924) (by decide +kernel)⟩
theorem lw_p8 : lw_okq (⟨"RoundKeepers", "isUp", "(II)Z"⟩, 10) := ⟨⟨by decide +kernel, by decide +kernel⟩, List.mem_of_getElem? (i := 33) (by decide +kernel), List.mem_of_getElem? (i := 927) (by decide +kernel), List.mem_of_getElem? (i := 928) (by decide +kernel)⟩
theorem lw_p9 : lw_okq (⟨"RoundKeepers$Slots", "isChosen", "(I)Z"⟩, 6) := ⟨⟨by decide +kernel, by decide +kernel⟩, List.mem_of_getElem? (i := 248) (by decide +kernel), List.mem_of_getElem? (i := 998) (by decide +kernel), List.mem_of_getElem? (i := 999) (by decide +kernel)⟩
theorem lw_p10 : lw_okq (⟨"RoundKeepers$Keeping", "sendSeeds", "(I)V"⟩, 12) := ⟨⟨by decide +kernel, by decide +kernel⟩, List.mem_of_getElem? (i := 200) (by decide +kernel), List.mem_of_getElem? (i := 1022) (by decide +kernel), List.mem_of_getElem? (i := 1023) (by decide +kernel)⟩
theorem lw_p11 : lw_okq (⟨"RoundKeepers$Leader", "historyVoters", "()I"⟩, 17) := ⟨⟨by decide +kernel, by decide +kernel⟩, List.mem_of_getElem? (i := 194) (by decide +kernel), List.mem_of_getElem? (i := 1042) (by decide +kernel), List.mem_of_getElem? (i := 1043) (by decide +kernel)⟩
theorem lw_p12 : lw_okq (⟨"RoundKeepers$Leader", "sendStageAgain", "()V"⟩, 17) := ⟨⟨by decide +kernel, by decide +kernel⟩, List.mem_of_getElem? (i := 194) (by decide +kernel), List.mem_of_getElem? (i := 1054) (by decide +kernel), List.mem_of_getElem? (i := 1055) (by decide +kernel)⟩
theorem lw_p13 : lw_okq (⟨"RoundKeepers", "bring", "(LRoundKeepers$Message;)V"⟩, 10) := ⟨⟨by decide +kernel, by decide +kernel⟩, List.mem_of_getElem? (i := 33) (by decide +kernel), List.mem_of_getElem? (i := 1074) (by decide +kernel), List.mem_of_getElem? (i := 1075) (by decide +kernel)⟩
theorem lw_p14 : lw_okq (⟨"RoundKeepers$Leader", "receiveMatched", "(LRoundKeepers$Message;)V"⟩, 17) := ⟨⟨by decide +kernel, by decide +kernel⟩, List.mem_of_getElem? (i := 194) (by decide +kernel), List.mem_of_getElem? (i := 1085) (by decide +kernel), List.mem_of_getElem? (i := 1086) (by decide +kernel)⟩
theorem lw_p15 : lw_okq (⟨"RoundKeepers$Leader", "lead", "()V"⟩, 17) := ⟨⟨by decide +kernel, by decide +kernel⟩, List.mem_of_getElem? (i := 194) (by decide +kernel), List.mem_of_getElem? (i := 1102) (by decide +kernel), List.mem_of_getElem? (i := 1103) (by decide +kernel)⟩
def lw_privs_1 : List (MethodName × Nat) := [(⟨"RoundKeepers", "resetAll", "()V"⟩, 10), (⟨"RoundKeepers$Keeping", "forget", "()V"⟩, 12), (⟨"java/lang/Throwable", "fillInStackTrace", "(I)Ljava/lang/Throwable;"⟩, 6), (⟨"RoundKeepers$Leader", "forgetRound", "()V"⟩, 17), (⟨"RoundKeepers$Leader", "forgetMatched", "()V"⟩, 17), (⟨"RoundKeepers$Keeper", "forgetReform", "()V"⟩, 12), (⟨"RoundKeepers", "leaderAt", "(I)LRoundKeepers$Leader;"⟩, 10), (⟨"RoundKeepers", "requireUp", "(I)V"⟩, 10), (⟨"RoundKeepers", "isUp", "(II)Z"⟩, 10), (⟨"RoundKeepers$Slots", "isChosen", "(I)Z"⟩, 6), (⟨"RoundKeepers$Keeping", "sendSeeds", "(I)V"⟩, 12), (⟨"RoundKeepers$Leader", "historyVoters", "()I"⟩, 17), (⟨"RoundKeepers$Leader", "sendStageAgain", "()V"⟩, 17), (⟨"RoundKeepers", "bring", "(LRoundKeepers$Message;)V"⟩, 10), (⟨"RoundKeepers$Leader", "receiveMatched", "(LRoundKeepers$Message;)V"⟩, 17), (⟨"RoundKeepers$Leader", "lead", "()V"⟩, 17)]
theorem lw_r1 : ∀ q ∈ lw_privs_1, lw_okq q := List.forall_mem_cons.mpr ⟨lw_p0, List.forall_mem_cons.mpr ⟨lw_p1, List.forall_mem_cons.mpr ⟨lw_p2, List.forall_mem_cons.mpr ⟨lw_p3, List.forall_mem_cons.mpr ⟨lw_p4, List.forall_mem_cons.mpr ⟨lw_p5, List.forall_mem_cons.mpr ⟨lw_p6, List.forall_mem_cons.mpr ⟨lw_p7, List.forall_mem_cons.mpr ⟨lw_p8, List.forall_mem_cons.mpr ⟨lw_p9, List.forall_mem_cons.mpr ⟨lw_p10, List.forall_mem_cons.mpr ⟨lw_p11, List.forall_mem_cons.mpr ⟨lw_p12, List.forall_mem_cons.mpr ⟨lw_p13, List.forall_mem_cons.mpr ⟨lw_p14, List.forall_mem_cons.mpr ⟨lw_p15, fun _ h => absurd h List.not_mem_nil⟩⟩⟩⟩⟩⟩⟩⟩⟩⟩⟩⟩⟩⟩⟩⟩
theorem lw_p16 : lw_okq (⟨"RoundKeepers$Leader", "receiveAsked", "(LRoundKeepers$Message;)V"⟩, 17) := ⟨⟨by decide +kernel, by decide +kernel⟩, List.mem_of_getElem? (i := 194) (by decide +kernel), List.mem_of_getElem? (i := 1114) (by decide +kernel), List.mem_of_getElem? (i := 1115) (by decide +kernel)⟩
theorem lw_p17 : lw_okq (⟨"RoundKeepers$Leader", "hasMajorities", "()Z"⟩, 17) := ⟨⟨by decide +kernel, by decide +kernel⟩, List.mem_of_getElem? (i := 194) (by decide +kernel), List.mem_of_getElem? (i := 1122) (by decide +kernel), List.mem_of_getElem? (i := 1123) (by decide +kernel)⟩
theorem lw_p18 : lw_okq (⟨"RoundKeepers$Leader", "leadsIn", "(I)Z"⟩, 17) := ⟨⟨by decide +kernel, by decide +kernel⟩, List.mem_of_getElem? (i := 194) (by decide +kernel), List.mem_of_getElem? (i := 1129) (by decide +kernel), List.mem_of_getElem? (i := 1130) (by decide +kernel)⟩
theorem lw_p19 : lw_okq (⟨"RoundKeepers$Leader", "receiveKnown", "(LRoundKeepers$Message;)V"⟩, 17) := ⟨⟨by decide +kernel, by decide +kernel⟩, List.mem_of_getElem? (i := 194) (by decide +kernel), List.mem_of_getElem? (i := 1143) (by decide +kernel), List.mem_of_getElem? (i := 1144) (by decide +kernel)⟩
theorem lw_p20 : lw_okq (⟨"RoundKeepers$Leader", "receiveCollected", "(LRoundKeepers$Message;)V"⟩, 17) := ⟨⟨by decide +kernel, by decide +kernel⟩, List.mem_of_getElem? (i := 194) (by decide +kernel), List.mem_of_getElem? (i := 1147) (by decide +kernel), List.mem_of_getElem? (i := 1148) (by decide +kernel)⟩
theorem lw_p21 : lw_okq (⟨"RoundKeepers$Leader", "receiveReleased", "(LRoundKeepers$Message;)V"⟩, 17) := ⟨⟨by decide +kernel, by decide +kernel⟩, List.mem_of_getElem? (i := 194) (by decide +kernel), List.mem_of_getElem? (i := 1151) (by decide +kernel), List.mem_of_getElem? (i := 1152) (by decide +kernel)⟩
theorem lw_p22 : lw_okq (⟨"RoundKeepers$Leader", "goOn", "(II)V"⟩, 17) := ⟨⟨by decide +kernel, by decide +kernel⟩, List.mem_of_getElem? (i := 194) (by decide +kernel), List.mem_of_getElem? (i := 1171) (by decide +kernel), List.mem_of_getElem? (i := 1172) (by decide +kernel)⟩
theorem lw_p23 : lw_okq (⟨"RoundKeepers$Keeper", "receiveMatch", "(LRoundKeepers$Message;)V"⟩, 12) := ⟨⟨by decide +kernel, by decide +kernel⟩, List.mem_of_getElem? (i := 361) (by decide +kernel), List.mem_of_getElem? (i := 1179) (by decide +kernel), List.mem_of_getElem? (i := 1180) (by decide +kernel)⟩
theorem lw_p24 : lw_okq (⟨"RoundKeepers$Keeper", "isOnIn", "(I)Z"⟩, 12) := ⟨⟨by decide +kernel, by decide +kernel⟩, List.mem_of_getElem? (i := 361) (by decide +kernel), List.mem_of_getElem? (i := 1183) (by decide +kernel), List.mem_of_getElem? (i := 1184) (by decide +kernel)⟩
theorem lw_p25 : lw_okq (⟨"RoundKeepers$Keeper", "sendGone", "(I)V"⟩, 12) := ⟨⟨by decide +kernel, by decide +kernel⟩, List.mem_of_getElem? (i := 361) (by decide +kernel), List.mem_of_getElem? (i := 1187) (by decide +kernel), List.mem_of_getElem? (i := 1188) (by decide +kernel)⟩
theorem lw_p26 : lw_okq (⟨"RoundKeepers$Keeper", "knowsNext", "()Z"⟩, 12) := ⟨⟨by decide +kernel, by decide +kernel⟩, List.mem_of_getElem? (i := 361) (by decide +kernel), List.mem_of_getElem? (i := 1191) (by decide +kernel), List.mem_of_getElem? (i := 1192) (by decide +kernel)⟩
theorem lw_p27 : lw_okq (⟨"RoundKeepers$Keeper", "refuses", "(III)Z"⟩, 12) := ⟨⟨by decide +kernel, by decide +kernel⟩, List.mem_of_getElem? (i := 361) (by decide +kernel), List.mem_of_getElem? (i := 1204) (by decide +kernel), List.mem_of_getElem? (i := 1205) (by decide +kernel)⟩
theorem lw_p28 : lw_okq (⟨"RoundKeepers$Keeper", "receiveCollect", "(LRoundKeepers$Message;)V"⟩, 12) := ⟨⟨by decide +kernel, by decide +kernel⟩, List.mem_of_getElem? (i := 361) (by decide +kernel), List.mem_of_getElem? (i := 1220) (by decide +kernel), List.mem_of_getElem? (i := 1221) (by decide +kernel)⟩
theorem lw_p29 : lw_okq (⟨"RoundKeepers$Keeper", "receiveStop", "(LRoundKeepers$Message;)V"⟩, 12) := ⟨⟨by decide +kernel, by decide +kernel⟩, List.mem_of_getElem? (i := 361) (by decide +kernel), List.mem_of_getElem? (i := 1225) (by decide +kernel), List.mem_of_getElem? (i := 1226) (by decide +kernel)⟩
theorem lw_p30 : lw_okq (⟨"RoundKeepers$Keeper", "receiveSeed", "(LRoundKeepers$Message;)V"⟩, 12) := ⟨⟨by decide +kernel, by decide +kernel⟩, List.mem_of_getElem? (i := 361) (by decide +kernel), List.mem_of_getElem? (i := 1229) (by decide +kernel), List.mem_of_getElem? (i := 1230) (by decide +kernel)⟩
theorem lw_p31 : lw_okq (⟨"RoundKeepers$Keeper", "canBeSeeded", "(I)Z"⟩, 12) := ⟨⟨by decide +kernel, by decide +kernel⟩, List.mem_of_getElem? (i := 361) (by decide +kernel), List.mem_of_getElem? (i := 1233) (by decide +kernel), List.mem_of_getElem? (i := 1234) (by decide +kernel)⟩
def lw_privs_2 : List (MethodName × Nat) := [(⟨"RoundKeepers$Leader", "receiveAsked", "(LRoundKeepers$Message;)V"⟩, 17), (⟨"RoundKeepers$Leader", "hasMajorities", "()Z"⟩, 17), (⟨"RoundKeepers$Leader", "leadsIn", "(I)Z"⟩, 17), (⟨"RoundKeepers$Leader", "receiveKnown", "(LRoundKeepers$Message;)V"⟩, 17), (⟨"RoundKeepers$Leader", "receiveCollected", "(LRoundKeepers$Message;)V"⟩, 17), (⟨"RoundKeepers$Leader", "receiveReleased", "(LRoundKeepers$Message;)V"⟩, 17), (⟨"RoundKeepers$Leader", "goOn", "(II)V"⟩, 17), (⟨"RoundKeepers$Keeper", "receiveMatch", "(LRoundKeepers$Message;)V"⟩, 12), (⟨"RoundKeepers$Keeper", "isOnIn", "(I)Z"⟩, 12), (⟨"RoundKeepers$Keeper", "sendGone", "(I)V"⟩, 12), (⟨"RoundKeepers$Keeper", "knowsNext", "()Z"⟩, 12), (⟨"RoundKeepers$Keeper", "refuses", "(III)Z"⟩, 12), (⟨"RoundKeepers$Keeper", "receiveCollect", "(LRoundKeepers$Message;)V"⟩, 12), (⟨"RoundKeepers$Keeper", "receiveStop", "(LRoundKeepers$Message;)V"⟩, 12), (⟨"RoundKeepers$Keeper", "receiveSeed", "(LRoundKeepers$Message;)V"⟩, 12), (⟨"RoundKeepers$Keeper", "canBeSeeded", "(I)Z"⟩, 12)]
theorem lw_r2 : ∀ q ∈ lw_privs_2, lw_okq q := List.forall_mem_cons.mpr ⟨lw_p16, List.forall_mem_cons.mpr ⟨lw_p17, List.forall_mem_cons.mpr ⟨lw_p18, List.forall_mem_cons.mpr ⟨lw_p19, List.forall_mem_cons.mpr ⟨lw_p20, List.forall_mem_cons.mpr ⟨lw_p21, List.forall_mem_cons.mpr ⟨lw_p22, List.forall_mem_cons.mpr ⟨lw_p23, List.forall_mem_cons.mpr ⟨lw_p24, List.forall_mem_cons.mpr ⟨lw_p25, List.forall_mem_cons.mpr ⟨lw_p26, List.forall_mem_cons.mpr ⟨lw_p27, List.forall_mem_cons.mpr ⟨lw_p28, List.forall_mem_cons.mpr ⟨lw_p29, List.forall_mem_cons.mpr ⟨lw_p30, List.forall_mem_cons.mpr ⟨lw_p31, fun _ h => absurd h List.not_mem_nil⟩⟩⟩⟩⟩⟩⟩⟩⟩⟩⟩⟩⟩⟩⟩⟩
theorem lw_p32 : lw_okq (⟨"RoundKeepers$Keeper", "receivePick", "(LRoundKeepers$Message;)V"⟩, 12) := ⟨⟨by decide +kernel, by decide +kernel⟩, List.mem_of_getElem? (i := 361) (by decide +kernel), List.mem_of_getElem? (i := 1237) (by decide +kernel), List.mem_of_getElem? (i := 1238) (by decide +kernel)⟩
theorem lw_p33 : lw_okq (⟨"RoundKeepers$Keeper", "receiveMoved", "(LRoundKeepers$Message;)V"⟩, 12) := ⟨⟨by decide +kernel, by decide +kernel⟩, List.mem_of_getElem? (i := 361) (by decide +kernel), List.mem_of_getElem? (i := 1241) (by decide +kernel), List.mem_of_getElem? (i := 1242) (by decide +kernel)⟩
theorem lw_p34 : lw_okq (⟨"RoundKeepers$Voter", "release", "(LRoundKeepers$Message;)V"⟩, 6) := ⟨⟨by decide +kernel, by decide +kernel⟩, List.mem_of_getElem? (i := 406) (by decide +kernel), List.mem_of_getElem? (i := 1249) (by decide +kernel), List.mem_of_getElem? (i := 1250) (by decide +kernel)⟩
theorem lw_p35 : lw_okq (⟨"RoundKeepers$Voter", "castVote", "(LRoundKeepers$Message;)V"⟩, 6) := ⟨⟨by decide +kernel, by decide +kernel⟩, List.mem_of_getElem? (i := 406) (by decide +kernel), List.mem_of_getElem? (i := 1258) (by decide +kernel), List.mem_of_getElem? (i := 1259) (by decide +kernel)⟩
theorem lw_p36 : lw_okq (⟨"RoundKeepers$Tally", "agree", "(II)V"⟩, 4) := ⟨⟨by decide +kernel, by decide +kernel⟩, List.mem_of_getElem? (i := 153) (by decide +kernel), List.mem_of_getElem? (i := 1269) (by decide +kernel), List.mem_of_getElem? (i := 1270) (by decide +kernel)⟩
theorem lw_p37 : lw_okq (⟨"RoundKeepers$Message", "loadSize", "()I"⟩, 9) := ⟨⟨by decide +kernel, by decide +kernel⟩, List.mem_of_getElem? (i := 48) (by decide +kernel), List.mem_of_getElem? (i := 1326) (by decide +kernel), List.mem_of_getElem? (i := 1327) (by decide +kernel)⟩
theorem lw_p38 : lw_okq (⟨"RoundKeepers$Leader", "tellOfLeading", "(I)I"⟩, 17) := ⟨⟨by decide +kernel, by decide +kernel⟩, List.mem_of_getElem? (i := 194) (by decide +kernel), List.mem_of_getElem? (i := 1346) (by decide +kernel), List.mem_of_getElem? (i := 1347) (by decide +kernel)⟩
theorem lw_p39 : lw_okq (⟨"RoundKeepersModel", "forgetRounds", "(I)V"⟩, 67) := ⟨⟨by decide +kernel, by decide +kernel⟩, List.mem_of_getElem? (i := 1425) (by decide +kernel), List.mem_of_getElem? (i := 1436) (by decide +kernel), List.mem_of_getElem? (i := 1437) (by decide +kernel)⟩
theorem lw_p40 : lw_okq (⟨"RoundKeepersModel", "forgetMatching", "(I)V"⟩, 67) := ⟨⟨by decide +kernel, by decide +kernel⟩, List.mem_of_getElem? (i := 1425) (by decide +kernel), List.mem_of_getElem? (i := 1440) (by decide +kernel), List.mem_of_getElem? (i := 1441) (by decide +kernel)⟩
theorem lw_p41 : lw_okq (⟨"RoundKeepersModel", "forgetCollecting", "(I)V"⟩, 67) := ⟨⟨by decide +kernel, by decide +kernel⟩, List.mem_of_getElem? (i := 1425) (by decide +kernel), List.mem_of_getElem? (i := 1444) (by decide +kernel), List.mem_of_getElem? (i := 1445) (by decide +kernel)⟩
theorem lw_p42 : lw_okq (⟨"RoundKeepersModel", "forgetReform", "(I)V"⟩, 67) := ⟨⟨by decide +kernel, by decide +kernel⟩, List.mem_of_getElem? (i := 1425) (by decide +kernel), List.mem_of_getElem? (i := 1448) (by decide +kernel), List.mem_of_getElem? (i := 1449) (by decide +kernel)⟩
theorem lw_p43 : lw_okq (⟨"RoundKeepersModel", "refuses", "(ZZZ)Z"⟩, 67) := ⟨⟨by decide +kernel, by decide +kernel⟩, List.mem_of_getElem? (i := 1425) (by decide +kernel), List.mem_of_getElem? (i := 1670) (by decide +kernel), List.mem_of_getElem? (i := 1671) (by decide +kernel)⟩
theorem lw_p44 : lw_okq (⟨"RoundKeepersModel", "layAll", "(IIIIII)I"⟩, 67) := ⟨⟨by decide +kernel, by decide +kernel⟩, List.mem_of_getElem? (i := 1425) (by decide +kernel), List.mem_of_getElem? (i := 1674) (by decide +kernel), List.mem_of_getElem? (i := 1675) (by decide +kernel)⟩
theorem lw_p45 : lw_okq (⟨"RoundKeepersModel", "lay", "(IIIIII)Z"⟩, 67) := ⟨⟨by decide +kernel, by decide +kernel⟩, List.mem_of_getElem? (i := 1425) (by decide +kernel), List.mem_of_getElem? (i := 1681) (by decide +kernel), List.mem_of_getElem? (i := 1682) (by decide +kernel)⟩
theorem lw_p46 : lw_okq (⟨"RoundKeepersModel", "offer", "(III)V"⟩, 67) := ⟨⟨by decide +kernel, by decide +kernel⟩, List.mem_of_getElem? (i := 1425) (by decide +kernel), List.mem_of_getElem? (i := 1690) (by decide +kernel), List.mem_of_getElem? (i := 1691) (by decide +kernel)⟩
theorem lw_p47 : lw_okq (⟨"RoundKeepersModel", "firm", "(I)I"⟩, 67) := ⟨⟨by decide +kernel, by decide +kernel⟩, List.mem_of_getElem? (i := 1425) (by decide +kernel), List.mem_of_getElem? (i := 1698) (by decide +kernel), List.mem_of_getElem? (i := 1699) (by decide +kernel)⟩
def lw_privs_3 : List (MethodName × Nat) := [(⟨"RoundKeepers$Keeper", "receivePick", "(LRoundKeepers$Message;)V"⟩, 12), (⟨"RoundKeepers$Keeper", "receiveMoved", "(LRoundKeepers$Message;)V"⟩, 12), (⟨"RoundKeepers$Voter", "release", "(LRoundKeepers$Message;)V"⟩, 6), (⟨"RoundKeepers$Voter", "castVote", "(LRoundKeepers$Message;)V"⟩, 6), (⟨"RoundKeepers$Tally", "agree", "(II)V"⟩, 4), (⟨"RoundKeepers$Message", "loadSize", "()I"⟩, 9), (⟨"RoundKeepers$Leader", "tellOfLeading", "(I)I"⟩, 17), (⟨"RoundKeepersModel", "forgetRounds", "(I)V"⟩, 67), (⟨"RoundKeepersModel", "forgetMatching", "(I)V"⟩, 67), (⟨"RoundKeepersModel", "forgetCollecting", "(I)V"⟩, 67), (⟨"RoundKeepersModel", "forgetReform", "(I)V"⟩, 67), (⟨"RoundKeepersModel", "refuses", "(ZZZ)Z"⟩, 67), (⟨"RoundKeepersModel", "layAll", "(IIIIII)I"⟩, 67), (⟨"RoundKeepersModel", "lay", "(IIIIII)Z"⟩, 67), (⟨"RoundKeepersModel", "offer", "(III)V"⟩, 67), (⟨"RoundKeepersModel", "firm", "(I)I"⟩, 67)]
theorem lw_r3 : ∀ q ∈ lw_privs_3, lw_okq q := List.forall_mem_cons.mpr ⟨lw_p32, List.forall_mem_cons.mpr ⟨lw_p33, List.forall_mem_cons.mpr ⟨lw_p34, List.forall_mem_cons.mpr ⟨lw_p35, List.forall_mem_cons.mpr ⟨lw_p36, List.forall_mem_cons.mpr ⟨lw_p37, List.forall_mem_cons.mpr ⟨lw_p38, List.forall_mem_cons.mpr ⟨lw_p39, List.forall_mem_cons.mpr ⟨lw_p40, List.forall_mem_cons.mpr ⟨lw_p41, List.forall_mem_cons.mpr ⟨lw_p42, List.forall_mem_cons.mpr ⟨lw_p43, List.forall_mem_cons.mpr ⟨lw_p44, List.forall_mem_cons.mpr ⟨lw_p45, List.forall_mem_cons.mpr ⟨lw_p46, List.forall_mem_cons.mpr ⟨lw_p47, fun _ h => absurd h List.not_mem_nil⟩⟩⟩⟩⟩⟩⟩⟩⟩⟩⟩⟩⟩⟩⟩⟩
theorem lw_p48 : lw_okq (⟨"RoundKeepersModel", "votersOfHistory", "(I)I"⟩, 67) := ⟨⟨by decide +kernel, by decide +kernel⟩, List.mem_of_getElem? (i := 1425) (by decide +kernel), List.mem_of_getElem? (i := 1710) (by decide +kernel), List.mem_of_getElem? (i := 1711) (by decide +kernel)⟩
theorem lw_p49 : lw_okq (⟨"RoundKeepersModel", "seed", "(II)I"⟩, 67) := ⟨⟨by decide +kernel, by decide +kernel⟩, List.mem_of_getElem? (i := 1425) (by decide +kernel), List.mem_of_getElem? (i := 1714) (by decide +kernel), List.mem_of_getElem? (i := 1715) (by decide +kernel)⟩
theorem lw_p50 : lw_okq (⟨"RoundKeepersModel", "addEntry", "(III)V"⟩, 67) := ⟨⟨by decide +kernel, by decide +kernel⟩, List.mem_of_getElem? (i := 1425) (by decide +kernel), List.mem_of_getElem? (i := 1718) (by decide +kernel), List.mem_of_getElem? (i := 1719) (by decide +kernel)⟩
theorem lw_p51 : lw_okq (⟨"RoundKeepersModel", "arrive", "(I)I"⟩, 67) := ⟨⟨by decide +kernel, by decide +kernel⟩, List.mem_of_getElem? (i := 1425) (by decide +kernel), List.mem_of_getElem? (i := 1726) (by decide +kernel), List.mem_of_getElem? (i := 1727) (by decide +kernel)⟩
theorem lw_p52 : lw_okq (⟨"RoundKeepersModel", "take", "(I)I"⟩, 67) := ⟨⟨by decide +kernel, by decide +kernel⟩, List.mem_of_getElem? (i := 1425) (by decide +kernel), List.mem_of_getElem? (i := 1730) (by decide +kernel), List.mem_of_getElem? (i := 1731) (by decide +kernel)⟩
theorem lw_p53 : lw_okq (⟨"RoundKeepersModel", "toLeader", "(II)V"⟩, 67) := ⟨⟨by decide +kernel, by decide +kernel⟩, List.mem_of_getElem? (i := 1425) (by decide +kernel), List.mem_of_getElem? (i := 1740) (by decide +kernel), List.mem_of_getElem? (i := 1741) (by decide +kernel)⟩
theorem lw_p54 : lw_okq (⟨"RoundKeepersModel", "matched", "(II)V"⟩, 67) := ⟨⟨by decide +kernel, by decide +kernel⟩, List.mem_of_getElem? (i := 1425) (by decide +kernel), List.mem_of_getElem? (i := 1744) (by decide +kernel), List.mem_of_getElem? (i := 1745) (by decide +kernel)⟩
theorem lw_p55 : lw_okq (⟨"RoundKeepersModel", "entryRound", "(II)I"⟩, 67) := ⟨⟨by decide +kernel, by decide +kernel⟩, List.mem_of_getElem? (i := 1425) (by decide +kernel), List.mem_of_getElem? (i := 1748) (by decide +kernel), List.mem_of_getElem? (i := 1749) (by decide +kernel)⟩
theorem lw_p56 : lw_okq (⟨"RoundKeepersModel", "entryGroup", "(II)I"⟩, 67) := ⟨⟨by decide +kernel, by decide +kernel⟩, List.mem_of_getElem? (i := 1425) (by decide +kernel), List.mem_of_getElem? (i := 1752) (by decide +kernel), List.mem_of_getElem? (i := 1753) (by decide +kernel)⟩
theorem lw_p57 : lw_okq (⟨"RoundKeepersModel", "lead", "(I)V"⟩, 67) := ⟨⟨by decide +kernel, by decide +kernel⟩, List.mem_of_getElem? (i := 1425) (by decide +kernel), List.mem_of_getElem? (i := 1756) (by decide +kernel), List.mem_of_getElem? (i := 1757) (by decide +kernel)⟩
theorem lw_p58 : lw_okq (⟨"RoundKeepersModel", "asked", "(II)V"⟩, 67) := ⟨⟨by decide +kernel, by decide +kernel⟩, List.mem_of_getElem? (i := 1425) (by decide +kernel), List.mem_of_getElem? (i := 1760) (by decide +kernel), List.mem_of_getElem? (i := 1761) (by decide +kernel)⟩
theorem lw_p59 : lw_okq (⟨"RoundKeepersModel", "voted", "(II)V"⟩, 67) := ⟨⟨by decide +kernel, by decide +kernel⟩, List.mem_of_getElem? (i := 1425) (by decide +kernel), List.mem_of_getElem? (i := 1767) (by decide +kernel), List.mem_of_getElem? (i := 1768) (by decide +kernel)⟩
theorem lw_p60 : lw_okq (⟨"RoundKeepersModel", "told", "(II)V"⟩, 67) := ⟨⟨by decide +kernel, by decide +kernel⟩, List.mem_of_getElem? (i := 1425) (by decide +kernel), List.mem_of_getElem? (i := 1771) (by decide +kernel), List.mem_of_getElem? (i := 1772) (by decide +kernel)⟩
theorem lw_p61 : lw_okq (⟨"RoundKeepersModel", "knowing", "(II)V"⟩, 67) := ⟨⟨by decide +kernel, by decide +kernel⟩, List.mem_of_getElem? (i := 1425) (by decide +kernel), List.mem_of_getElem? (i := 1775) (by decide +kernel), List.mem_of_getElem? (i := 1776) (by decide +kernel)⟩
theorem lw_p62 : lw_okq (⟨"RoundKeepersModel", "collected", "(II)V"⟩, 67) := ⟨⟨by decide +kernel, by decide +kernel⟩, List.mem_of_getElem? (i := 1425) (by decide +kernel), List.mem_of_getElem? (i := 1779) (by decide +kernel), List.mem_of_getElem? (i := 1780) (by decide +kernel)⟩
theorem lw_p63 : lw_okq (⟨"RoundKeepersModel", "stopped", "(II)V"⟩, 67) := ⟨⟨by decide +kernel, by decide +kernel⟩, List.mem_of_getElem? (i := 1425) (by decide +kernel), List.mem_of_getElem? (i := 1783) (by decide +kernel), List.mem_of_getElem? (i := 1784) (by decide +kernel)⟩
def lw_privs_4 : List (MethodName × Nat) := [(⟨"RoundKeepersModel", "votersOfHistory", "(I)I"⟩, 67), (⟨"RoundKeepersModel", "seed", "(II)I"⟩, 67), (⟨"RoundKeepersModel", "addEntry", "(III)V"⟩, 67), (⟨"RoundKeepersModel", "arrive", "(I)I"⟩, 67), (⟨"RoundKeepersModel", "take", "(I)I"⟩, 67), (⟨"RoundKeepersModel", "toLeader", "(II)V"⟩, 67), (⟨"RoundKeepersModel", "matched", "(II)V"⟩, 67), (⟨"RoundKeepersModel", "entryRound", "(II)I"⟩, 67), (⟨"RoundKeepersModel", "entryGroup", "(II)I"⟩, 67), (⟨"RoundKeepersModel", "lead", "(I)V"⟩, 67), (⟨"RoundKeepersModel", "asked", "(II)V"⟩, 67), (⟨"RoundKeepersModel", "voted", "(II)V"⟩, 67), (⟨"RoundKeepersModel", "told", "(II)V"⟩, 67), (⟨"RoundKeepersModel", "knowing", "(II)V"⟩, 67), (⟨"RoundKeepersModel", "collected", "(II)V"⟩, 67), (⟨"RoundKeepersModel", "stopped", "(II)V"⟩, 67)]
theorem lw_r4 : ∀ q ∈ lw_privs_4, lw_okq q := List.forall_mem_cons.mpr ⟨lw_p48, List.forall_mem_cons.mpr ⟨lw_p49, List.forall_mem_cons.mpr ⟨lw_p50, List.forall_mem_cons.mpr ⟨lw_p51, List.forall_mem_cons.mpr ⟨lw_p52, List.forall_mem_cons.mpr ⟨lw_p53, List.forall_mem_cons.mpr ⟨lw_p54, List.forall_mem_cons.mpr ⟨lw_p55, List.forall_mem_cons.mpr ⟨lw_p56, List.forall_mem_cons.mpr ⟨lw_p57, List.forall_mem_cons.mpr ⟨lw_p58, List.forall_mem_cons.mpr ⟨lw_p59, List.forall_mem_cons.mpr ⟨lw_p60, List.forall_mem_cons.mpr ⟨lw_p61, List.forall_mem_cons.mpr ⟨lw_p62, List.forall_mem_cons.mpr ⟨lw_p63, fun _ h => absurd h List.not_mem_nil⟩⟩⟩⟩⟩⟩⟩⟩⟩⟩⟩⟩⟩⟩⟩⟩
theorem lw_p64 : lw_okq (⟨"RoundKeepersModel", "pick", "(I)V"⟩, 67) := ⟨⟨by decide +kernel, by decide +kernel⟩, List.mem_of_getElem? (i := 1425) (by decide +kernel), List.mem_of_getElem? (i := 1787) (by decide +kernel), List.mem_of_getElem? (i := 1788) (by decide +kernel)⟩
theorem lw_p65 : lw_okq (⟨"RoundKeepersModel", "seeded", "(II)V"⟩, 67) := ⟨⟨by decide +kernel, by decide +kernel⟩, List.mem_of_getElem? (i := 1425) (by decide +kernel), List.mem_of_getElem? (i := 1791) (by decide +kernel), List.mem_of_getElem? (i := 1792) (by decide +kernel)⟩
theorem lw_p66 : lw_okq (⟨"RoundKeepersModel", "picked", "(II)V"⟩, 67) := ⟨⟨by decide +kernel, by decide +kernel⟩, List.mem_of_getElem? (i := 1425) (by decide +kernel), List.mem_of_getElem? (i := 1795) (by decide +kernel), List.mem_of_getElem? (i := 1796) (by decide +kernel)⟩
theorem lw_p67 : lw_okq (⟨"RoundKeepersModel", "goOn", "(III)V"⟩, 67) := ⟨⟨by decide +kernel, by decide +kernel⟩, List.mem_of_getElem? (i := 1425) (by decide +kernel), List.mem_of_getElem? (i := 1799) (by decide +kernel), List.mem_of_getElem? (i := 1800) (by decide +kernel)⟩
theorem lw_p68 : lw_okq (⟨"RoundKeepersModel", "toKeeper", "(II)V"⟩, 67) := ⟨⟨by decide +kernel, by decide +kernel⟩, List.mem_of_getElem? (i := 1425) (by decide +kernel), List.mem_of_getElem? (i := 1803) (by decide +kernel), List.mem_of_getElem? (i := 1804) (by decide +kernel)⟩
theorem lw_p69 : lw_okq (⟨"RoundKeepersModel", "match", "(IIIII)V"⟩, 67) := ⟨⟨by decide +kernel, by decide +kernel⟩, List.mem_of_getElem? (i := 1425) (by decide +kernel), List.mem_of_getElem? (i := 1807) (by decide +kernel), List.mem_of_getElem? (i := 1808) (by decide +kernel)⟩
theorem lw_p70 : lw_okq (⟨"RoundKeepersModel", "isOn", "(II)Z"⟩, 67) := ⟨⟨by decide +kernel, by decide +kernel⟩, List.mem_of_getElem? (i := 1425) (by decide +kernel), List.mem_of_getElem? (i := 1811) (by decide +kernel), List.mem_of_getElem? (i := 1812) (by decide +kernel)⟩
theorem lw_p71 : lw_okq (⟨"RoundKeepersModel", "sayGone", "(II)V"⟩, 67) := ⟨⟨by decide +kernel, by decide +kernel⟩, List.mem_of_getElem? (i := 1425) (by decide +kernel), List.mem_of_getElem? (i := 1815) (by decide +kernel), List.mem_of_getElem? (i := 1816) (by decide +kernel)⟩
theorem lw_p72 : lw_okq (⟨"RoundKeepersModel", "greatestRound", "(I)I"⟩, 67) := ⟨⟨by decide +kernel, by decide +kernel⟩, List.mem_of_getElem? (i := 1425) (by decide +kernel), List.mem_of_getElem? (i := 1819) (by decide +kernel), List.mem_of_getElem? (i := 1820) (by decide +kernel)⟩
theorem lw_p73 : lw_okq (⟨"RoundKeepersModel", "countEntries", "(I)I"⟩, 67) := ⟨⟨by decide +kernel, by decide +kernel⟩, List.mem_of_getElem? (i := 1425) (by decide +kernel), List.mem_of_getElem? (i := 1823) (by decide +kernel), List.mem_of_getElem? (i := 1824) (by decide +kernel)⟩
theorem lw_p74 : lw_okq (⟨"RoundKeepersModel", "collectAt", "(IIII)V"⟩, 67) := ⟨⟨by decide +kernel, by decide +kernel⟩, List.mem_of_getElem? (i := 1425) (by decide +kernel), List.mem_of_getElem? (i := 1827) (by decide +kernel), List.mem_of_getElem? (i := 1828) (by decide +kernel)⟩
theorem lw_p75 : lw_okq (⟨"RoundKeepersModel", "stop", "(IIII)V"⟩, 67) := ⟨⟨by decide +kernel, by decide +kernel⟩, List.mem_of_getElem? (i := 1425) (by decide +kernel), List.mem_of_getElem? (i := 1831) (by decide +kernel), List.mem_of_getElem? (i := 1832) (by decide +kernel)⟩
theorem lw_p76 : lw_okq (⟨"RoundKeepersModel", "seedAt", "(II)V"⟩, 67) := ⟨⟨by decide +kernel, by decide +kernel⟩, List.mem_of_getElem? (i := 1425) (by decide +kernel), List.mem_of_getElem? (i := 1835) (by decide +kernel), List.mem_of_getElem? (i := 1836) (by decide +kernel)⟩
theorem lw_p77 : lw_okq (⟨"RoundKeepersModel", "pickAt", "(IIIII)V"⟩, 67) := ⟨⟨by decide +kernel, by decide +kernel⟩, List.mem_of_getElem? (i := 1425) (by decide +kernel), List.mem_of_getElem? (i := 1839) (by decide +kernel), List.mem_of_getElem? (i := 1840) (by decide +kernel)⟩
theorem lw_p78 : lw_okq (⟨"RoundKeepersModel", "moved", "(III)V"⟩, 67) := ⟨⟨by decide +kernel, by decide +kernel⟩, List.mem_of_getElem? (i := 1425) (by decide +kernel), List.mem_of_getElem? (i := 1843) (by decide +kernel), List.mem_of_getElem? (i := 1844) (by decide +kernel)⟩
theorem lw_p79 : lw_okq (⟨"RoundKeepersModel", "toVoter", "(II)V"⟩, 67) := ⟨⟨by decide +kernel, by decide +kernel⟩, List.mem_of_getElem? (i := 1425) (by decide +kernel), List.mem_of_getElem? (i := 1847) (by decide +kernel), List.mem_of_getElem? (i := 1848) (by decide +kernel)⟩
def lw_privs_5 : List (MethodName × Nat) := [(⟨"RoundKeepersModel", "pick", "(I)V"⟩, 67), (⟨"RoundKeepersModel", "seeded", "(II)V"⟩, 67), (⟨"RoundKeepersModel", "picked", "(II)V"⟩, 67), (⟨"RoundKeepersModel", "goOn", "(III)V"⟩, 67), (⟨"RoundKeepersModel", "toKeeper", "(II)V"⟩, 67), (⟨"RoundKeepersModel", "match", "(IIIII)V"⟩, 67), (⟨"RoundKeepersModel", "isOn", "(II)Z"⟩, 67), (⟨"RoundKeepersModel", "sayGone", "(II)V"⟩, 67), (⟨"RoundKeepersModel", "greatestRound", "(I)I"⟩, 67), (⟨"RoundKeepersModel", "countEntries", "(I)I"⟩, 67), (⟨"RoundKeepersModel", "collectAt", "(IIII)V"⟩, 67), (⟨"RoundKeepersModel", "stop", "(IIII)V"⟩, 67), (⟨"RoundKeepersModel", "seedAt", "(II)V"⟩, 67), (⟨"RoundKeepersModel", "pickAt", "(IIIII)V"⟩, 67), (⟨"RoundKeepersModel", "moved", "(III)V"⟩, 67), (⟨"RoundKeepersModel", "toVoter", "(II)V"⟩, 67)]
theorem lw_r5 : ∀ q ∈ lw_privs_5, lw_okq q := List.forall_mem_cons.mpr ⟨lw_p64, List.forall_mem_cons.mpr ⟨lw_p65, List.forall_mem_cons.mpr ⟨lw_p66, List.forall_mem_cons.mpr ⟨lw_p67, List.forall_mem_cons.mpr ⟨lw_p68, List.forall_mem_cons.mpr ⟨lw_p69, List.forall_mem_cons.mpr ⟨lw_p70, List.forall_mem_cons.mpr ⟨lw_p71, List.forall_mem_cons.mpr ⟨lw_p72, List.forall_mem_cons.mpr ⟨lw_p73, List.forall_mem_cons.mpr ⟨lw_p74, List.forall_mem_cons.mpr ⟨lw_p75, List.forall_mem_cons.mpr ⟨lw_p76, List.forall_mem_cons.mpr ⟨lw_p77, List.forall_mem_cons.mpr ⟨lw_p78, List.forall_mem_cons.mpr ⟨lw_p79, fun _ h => absurd h List.not_mem_nil⟩⟩⟩⟩⟩⟩⟩⟩⟩⟩⟩⟩⟩⟩⟩⟩
theorem lw_p80 : lw_okq (⟨"RoundKeepersModel", "ask", "(III)V"⟩, 67) := ⟨⟨by decide +kernel, by decide +kernel⟩, List.mem_of_getElem? (i := 1425) (by decide +kernel), List.mem_of_getElem? (i := 1851) (by decide +kernel), List.mem_of_getElem? (i := 1852) (by decide +kernel)⟩
theorem lw_p81 : lw_okq (⟨"RoundKeepersModel", "reckon", "(IIII)V"⟩, 67) := ⟨⟨by decide +kernel, by decide +kernel⟩, List.mem_of_getElem? (i := 1425) (by decide +kernel), List.mem_of_getElem? (i := 1855) (by decide +kernel), List.mem_of_getElem? (i := 1856) (by decide +kernel)⟩
theorem lw_p82 : lw_okq (⟨"RoundKeepersModel", "toCopy", "(II)V"⟩, 67) := ⟨⟨by decide +kernel, by decide +kernel⟩, List.mem_of_getElem? (i := 1425) (by decide +kernel), List.mem_of_getElem? (i := 1859) (by decide +kernel), List.mem_of_getElem? (i := 1860) (by decide +kernel)⟩
theorem lw_p83 : lw_okq (⟨"RoundKeepersModel", "history", "(I)I"⟩, 67) := ⟨⟨by decide +kernel, by decide +kernel⟩, List.mem_of_getElem? (i := 1425) (by decide +kernel), List.mem_of_getElem? (i := 1890) (by decide +kernel), List.mem_of_getElem? (i := 1891) (by decide +kernel)⟩
def lw_privs_6 : List (MethodName × Nat) := [(⟨"RoundKeepersModel", "ask", "(III)V"⟩, 67), (⟨"RoundKeepersModel", "reckon", "(IIII)V"⟩, 67), (⟨"RoundKeepersModel", "toCopy", "(II)V"⟩, 67), (⟨"RoundKeepersModel", "history", "(I)I"⟩, 67)]
theorem lw_r6 : ∀ q ∈ lw_privs_6, lw_okq q := List.forall_mem_cons.mpr ⟨lw_p80, List.forall_mem_cons.mpr ⟨lw_p81, List.forall_mem_cons.mpr ⟨lw_p82, List.forall_mem_cons.mpr ⟨lw_p83, fun _ h => absurd h List.not_mem_nil⟩⟩⟩⟩
def lw_privs : List (MethodName × Nat) := lw_privs_1 ++ (lw_privs_2 ++ (lw_privs_3 ++ (lw_privs_4 ++ (lw_privs_5 ++ (lw_privs_6)))))
def lw_tbl : List Cond := k2_sels lw_privs ++ tables_1
theorem lw_privs_ok : ∀ q ∈ lw_privs, lw_okq q := by
  show ∀ q ∈ lw_privs_1 ++ (lw_privs_2 ++ (lw_privs_3 ++ (lw_privs_4 ++ (lw_privs_5 ++ (lw_privs_6))))), lw_okq q
  exact List.forall_mem_append.mpr ⟨lw_r1, List.forall_mem_append.mpr ⟨lw_r2, List.forall_mem_append.mpr ⟨lw_r3, List.forall_mem_append.mpr ⟨lw_r4, List.forall_mem_append.mpr ⟨lw_r5, lw_r6⟩⟩⟩⟩⟩
end
section
/-! ===== BEGIN words of one list among another's, by their places ===== -/
theorem goodIn_r {big : List Cond} (ws : List Cond) (ps : List Nat) (hp : ws = ps.filterMap (fun i => big[i]?)) (h : ws.all goodWord = true) : GoodIn big ws := by
  intro w hw
  have h1 := List.all_eq_true.mp h w hw
  rw [hp] at hw
  obtain ⟨i, -, hi⟩ := List.mem_filterMap.mp hw
  have hm : w ∈ big := by first | exact List.mem_of_getElem? hi | exact List.getElem?_mem hi
  exact ⟨hm, good_of_word h1⟩
theorem goodIn_app {big a b : List Cond} (ha : GoodIn big a) (hb : GoodIn big b) : GoodIn big (a ++ b) := fun w h => (List.mem_append.mp h).elim (ha w) (hb w)
theorem goodIn_ca {big a b : List Cond} {c : Cond} (ha : GoodIn big (c :: a)) (hb : GoodIn big b) : GoodIn big (c :: (a ++ b)) := fun w h => (List.mem_cons.mp h).elim (fun e => ha w (List.mem_cons.mpr (Or.inl e))) (fun h => (List.mem_append.mp h).elim (fun h => ha w (List.mem_cons.mpr (Or.inr h))) (hb w))
theorem goodIn_sub {big ws : List Cond} (hm : ∀ w ∈ ws, w ∈ big) (h : ws.all goodWord = true) : GoodIn big ws := fun w hw => ⟨hm w hw, good_of_word (List.all_eq_true.mp h w hw)⟩
/-! ===== END ===== -/

/-! ===== BEGIN exceptions that leave a method, and their catching by the caller (launches without stack traces) ===== -/
section VXA
/-! The laws vx_back, vx_callV, vx_callS, vx_callSW, vx_throw0, vx_throwS follow proofs of the library, with one case more: JvmDerived/Free/Laws.lean (Back.of_free), Shelf42/LK1.lean (callV, callS), Shelf/KitTraced.lean (throwNew0V, throwNewS). -/
/-- where a method has thrown q: the class by its name, the cell, what was written, the world -/
def vx_T (XC : String → State → State → Prop) (st : State) (q : Addr) (t : State) (mc ms : Nat) (free : Addr → Prop) : Prop :=
  ∃ (E : String) (ce : Cell) (L : List Loc), XC E st t ∧ t.heap[q]? = some ce ∧ ce.vm = .none ∧ st.vm.findClass E = some ce.cls ∧ st.WarmedH t.vm ∧ st.sameButNew ({ t with vm := st.vm } : State) L mc ms ∧ ∀ z ∈ L, free z.base
def vx_Q (Qc : Array Value → State → Outcome → State → Prop) (XC : String → State → State → Prop) (mc ms : Nat) (free : Addr → Prop) : Array Value → State → Outcome → State → Prop := fun a st o t =>
  (Qc a st o t ∧ ∃ L, FrameEnd st o t L mc ms ∧ ∀ q ∈ L, free q.base) ∨ ∃ q, o = .threw q ∧ vx_T XC st q t mc ms free
/-- a callee that returns or throws -/
def vx_Met (l : Launch) (y : MethodName) (ws : List Cond) (rm : Room) (Pc : Array Value → State → Prop) (Qc : Array Value → State → Outcome → State → Prop) (XC : String → State → State → Prop) (mc ms : Nat) (free : Addr → Prop) : Prop :=
  MetFree l y (headSpec ws rm) Pc (fun _ _ _ _ _ => True) (vx_Q Qc XC mc ms free)
def vx_Post (XC : String → State → State → Prop) (mc ms : Nat) (free : Addr → Prop) : Pt → Array Value → Addr → Pt → Prop := fun A a q B =>
  ∃ (g : JFrame) (mk : MethodId) (t : State) (L : List Loc) (E : String) (ce : Cell), B.U.heap = t.heap ∧ B.U.vm = t.vm ∧ XC E (A.U.calling g mk a) t ∧ t.heap[q]? = some ce ∧ ce.vm = .none ∧ A.U.vm.findClass E = some ce.cls ∧ B.locs = A.locs ++ L ∧ (∀ z ∈ L, free z.base) ∧ B.cells = A.cells + mc ∧ B.slots = A.slots + ms
def vx_Back (l : Launch) (R : Room) (p : Program) (e : Env) (below : List Frame) (s : State) (sargs : Array Value) (y : MethodName) (len W9 : Nat)
    (Pre : Pt → Array Value → Prop) (Post : Pt → Array Value → Option Value → Pt → Prop) (PostX : Pt → Array Value → Addr → Pt → Prop) : Prop :=
  ∀ (m : MethodId) (meth : Method) (c : Code) (A : Pt) (g : JFrame) (ig : Instr) (mk : MethodId) (a : Array Value),
    Stand p l e R s m sargs below meth c A.U A.locs A.cells A.slots → g.method = m → g.locals.size = c.maxLocals → decode c.code g.pc = .ok (ig, len) →
    2 * g.monitorRoom + (g.stack.map fun v => v.category).sum ≤ W9 → A.U.methodNamed? y = some mk → Pre A a →
    (∃ (v : Option Value) (B : Pt), Stand p l e R s m sargs below meth c B.U B.locs B.cells B.slots ∧ Post A a v B ∧
      Steps p.tables e below (doInvoke e (A.U.setTop g) [] mk a).1 (B.U.setTop { g with pc := g.pc + len, stack := v.toList ++ g.stack })) ∨
    (∃ (q : Addr) (B : Pt), Stand p l e R s m sargs below meth c B.U B.locs B.cells B.slots ∧ PostX A a q B ∧
      Steps p.tables e below (doInvoke e (A.U.setTop g) [] mk a).1 ((B.U.setTop g).pushFrame (.throwing q)))
section Payer
variable {l : Launch} {R : Room} {p : Program} {e : Env} {below : List Frame} {s : State} {sargs : Array Value} {y : MethodName} {len W9 : Nat}
theorem vx_back {ws : List Cond} {rm : Room} {Pc : Array Value → State → Prop} {Qc : Array Value → State → Outcome → State → Prop} {XC : String → State → State → Prop} {mc ms : Nat} {free : Addr → Prop} {bytes : ByteArray} {maxL : Nat} {ret : Option FieldType}
    (hM : vx_Met l y ws rm Pc Qc XC mc ms free) (hblind : FrameBlind Pc) (hrc : rm.cells = mc) (hrs : rm.slots = ms)
    (hframes : rm.frames + 1 ≤ R.frames) (hlocals : W9 + (maxL + 11) + rm.locals ≤ R.locals)
    (hws : ∀ w ∈ ws, ∀ a' U, s.WarmedH U.vm → w.before a' U = true) (hcode : Cond.code y bytes maxL ret ∈ ws) (hinit : ∀ a' U, s.WarmedH U.vm → (Cond.initialized y.cls).before a' U = true) :
    vx_Back l R p e below s sargs y len W9 (PreOf R mc ms Pc) (PostOf Qc mc ms free) (vx_Post XC mc ms free) := by
  intro m meth c A g ig mk a X hg hsize hdg hW hn hp
  have h1 : (headSpec ws rm).pre.before a A.U = true := atoms_intro fun w hw => hws w hw _ _ X.warmed
  have h2 : (Cond.code y bytes maxL ret).before a A.U = true := hws _ hcode _ _ X.warmed
  have h3 : (Cond.initialized y.cls).before a A.U = true := hinit _ _ X.warmed
  have h4 : A.cells + (headSpec ws rm).room.cells ≤ R.cells := by rw [show (headSpec ws rm).room.cells = mc from hrc]; exact hp.1
  have h5 : A.slots + (headSpec ws rm).room.slots ≤ R.slots := by rw [show (headSpec ws rm).room.slots = ms from hrs]; exact hp.2.1
  have hPc : Pc a (A.U.calling g mk a) := hblind _ _ _ _ hp.2.2
  obtain ⟨U, Ls, c0, s0⟩ := A
  dsimp only [Pt.U, Pt.locs, Pt.cells, Pt.slots] at h1 h2 h3 h4 h5 X hn hPc ⊢
  obtain ⟨methY, cY, hmY, hcY, -, hlY, -, -, -, -⟩ := Cond.code_spec hn h2
  obtain ⟨kY, hkY, -⟩ := className_of_methodNamed hn
  have hinitY : kY.init = .initialized := Cond.initialized_spec (findClass_of_methodNamed hn) hkY h3
  have h : At U g.method c below := by rw [hg]; exact X.here
  have hlocals9 : W9 + (maxL + 11) + (headSpec ws rm).room.locals ≤ R.locals := hlocals
  have happ : (headSpec ws rm).appliesLoose y e.platform (U.calling g mk a) = true :=
    Spec.appliesLoose_calling (g := g) h hdg hn hkY hinitY
      (X.room_calling (g := g) (R' := (headSpec ws rm).room) hsize hmY hcY hframes (by rw [hlY]; omega) h4 h5) h1
  obtain ⟨mid, hmid⟩ := h.above
  have hfr : (U.setTop g).frames = (.java g :: mid) ++ below := by rw [State.frames_setTop' g h.top, hmid]; rfl
  obtain ⟨o, s₂, hsteps, -, hend, hq⟩ := Steps.callFree hM p X.admits X.cas X.clock (acts := []) hfr happ hPc trivial
  have hq' : vx_Q Qc XC mc ms free a (U.calling g mk a) o s₂ := hq
  rw [State.frames_setTop' g h.top] at hend
  obtain ⟨g₀, hg0⟩ := Option.isSome_iff_exists.mp h.top
  obtain ⟨r, hr⟩ := State.topJava?_eq_some.mp hg0
  have hr' : (({ U with heap := s₂.heap, slotsUsed := s₂.slotsUsed } : State).setVm s₂.vm).frames = .java g₀ :: r := hr
  rcases hq' with ⟨hqc, L, hfe, hL⟩ | ⟨q, rfl, E, ce, L, hx, hce, hcv, hcl, hW₂, hsm, hL⟩
  · obtain ⟨⟨v, rfl⟩, hW₂, e2, q2, q3, q4, q5, q6⟩ := id hfe
    have e3 : s₂ = ({ (U.calling g mk a).setFrames s₂.frames with heap := s₂.heap, slotsUsed := s₂.slotsUsed } : State).setVm s₂.vm := by
      have : s₂ = ({ s₂ with vm := (U.calling g mk a).vm } : State).setVm s₂.vm := rfl
      rw [e2] at this
      exact this
    obtain ⟨c₂, i₂, len₂, hc₂, hd₂, hf₂⟩ := hend
    have hW' : U.WarmedH s₂.vm := hW₂
    have hcc : c₂ = c := by
      have h1 : s₂.code? g.method = U.code? g.method := by
        rw [State.code?_eq, State.code?_eq, hW'.alike.method?]
      exact Option.some.inj (hc₂.symm.trans (h1.trans h.code))
    subst hcc
    have hlen : len₂ = len := by rw [hdg] at hd₂; cases hd₂; rfl
    subst hlen
    have hs₂ : s₂ = (({ U with heap := s₂.heap, slotsUsed := s₂.slotsUsed } : State).setVm s₂.vm).setTop { g with pc := g.pc + len₂, stack := v.toList ++ g.stack } := by
      refine e3.trans ?_
      rw [hf₂, State.calling_eq h.top, State.setFrames_setFrames, State.setTop_of_frames _ hr', hr]
      rfl
    have hsame : U.sameButNew ({ U with heap := s₂.heap, slotsUsed := s₂.slotsUsed } : State) L mc ms := by
      refine ⟨?_, q2, q3, q4, q5, q6⟩
      obtain ⟨t, ht, -⟩ := State.frames_cons hr
      show ({ U with heap := s₂.heap, slotsUsed := s₂.slotsUsed } : State) = { U.setFrames U.frames with heap := s₂.heap, slotsUsed := s₂.slotsUsed }
      rw [State.setFrames_self ht]
    subst hg
    refine Or.inl ⟨v, ⟨(({ U with heap := s₂.heap, slotsUsed := s₂.slotsUsed } : State).setVm s₂.vm), Ls ++ L, c0 + mc, s0 + ms⟩,
      ⟨X.admits, X.cas, X.clock, X.frames, X.room, X.hears, X.method, X.code, (X.here.setHeapUsed s₂.heap s₂.slotsUsed).setVm hW'.alike, X.tail, State.WarmedH.trans X.warmed hW', X.limits, X.bytes, X.same.trans (hsame.setVm s.vm)⟩,
      ⟨g, mk, s₂, L, rfl, rfl, hqc, rfl, hL, rfl, rfl⟩, ?_⟩
    show Steps p.tables e below _ ((({ U with heap := s₂.heap, slotsUsed := s₂.slotsUsed } : State).setVm s₂.vm).setTop { g with pc := g.pc + len₂, stack := v.toList ++ g.stack })
    rw [← hs₂]
    exact hsteps
  · obtain ⟨e2, q2, q3, q4, q5, q6⟩ := id hsm
    have e3 : s₂ = ({ (U.calling g mk a).setFrames s₂.frames with heap := s₂.heap, slotsUsed := s₂.slotsUsed } : State).setVm s₂.vm := by
      have : s₂ = ({ s₂ with vm := (U.calling g mk a).vm } : State).setVm s₂.vm := rfl
      rw [e2] at this
      exact this
    have hf₂ : s₂.frames = .throwing q :: .java g :: U.frames.tail := hend
    have hW' : U.WarmedH s₂.vm := hW₂
    have hs₂ : s₂ = ((({ U with heap := s₂.heap, slotsUsed := s₂.slotsUsed } : State).setVm s₂.vm).setTop g).pushFrame (.throwing q) := by
      refine e3.trans ?_
      rw [hf₂, State.calling_eq h.top, State.setFrames_setFrames, State.pushFrame, State.frames_setTop _ hr', State.setTop_of_frames _ hr', State.setFrames_setFrames, hr]
      rfl
    have hsame : U.sameButNew ({ U with heap := s₂.heap, slotsUsed := s₂.slotsUsed } : State) L mc ms := by
      refine ⟨?_, q2, q3, q4, q5, q6⟩
      obtain ⟨t, ht, -⟩ := State.frames_cons hr
      show ({ U with heap := s₂.heap, slotsUsed := s₂.slotsUsed } : State) = { U.setFrames U.frames with heap := s₂.heap, slotsUsed := s₂.slotsUsed }
      rw [State.setFrames_self ht]
    subst hg
    refine Or.inr ⟨q, ⟨(({ U with heap := s₂.heap, slotsUsed := s₂.slotsUsed } : State).setVm s₂.vm), Ls ++ L, c0 + mc, s0 + ms⟩,
      ⟨X.admits, X.cas, X.clock, X.frames, X.room, X.hears, X.method, X.code, (X.here.setHeapUsed s₂.heap s₂.slotsUsed).setVm hW'.alike, X.tail, State.WarmedH.trans X.warmed hW', X.limits, X.bytes, X.same.trans (hsame.setVm s.vm)⟩,
      ⟨g, mk, s₂, L, E, ce, rfl, rfl, hx, hce, hcv, hcl, rfl, hL, rfl, rfl⟩, ?_⟩
    show Steps p.tables e below _ (((({ U with heap := s₂.heap, slotsUsed := s₂.slotsUsed } : State).setVm s₂.vm).setTop g).pushFrame (.throwing q))
    rw [← hs₂]
    exact hsteps
end Payer
section Calls
variable {p : Program} {l : Launch} {e : Env} {R : Room} {s : State} {m : MethodId} {args : Array Value} {below : List Frame} {meth : Method} {c : Code} {T : State} {locs : List Loc} {cells slots : Nat}
theorem vx_callV (X : Stand p l e R s m args below meth c T locs cells slots) (hexec : p.tables.exec = Jvm.exec) {own C : String} {index : Nat} {y : MethodName} {bytes : ByteArray} {maxL : Nat} {ret : Option FieldType}
    (hown : s.vm.findClass own = some m.cls) (hlink : (Cond.methodLink own index y).before args s = true) (hinst : (Cond.instanceMethod y).before args s = true) (hsel : (Cond.selects C y y).before args s = true)
    (hcode : (Cond.code y bytes maxL ret).before args s = true) (hy : y.cls ≠ "java/lang/invoke/MethodHandle" ∧ y.cls ≠ "java/lang/invoke/VarHandle")
    {W9 : Nat} {Pre : Pt → Array Value → Prop} {Post : Pt → Array Value → Option Value → Pt → Prop} {PostX : Pt → Array Value → Addr → Pt → Prop} (hK : vx_Back l R p e below s args y 3 W9 Pre Post PostX)
    {b : Addr} {cellB : Cell} (hcell : T.heap[b]? = some cellB) (hobj : cellB.vm.isStatics = false) (hcls : s.vm.findClass C = some cellB.cls)
    {g : JFrame} (hg : g.method = m) (hsize : g.locals.size = c.maxLocals) {argsL rest : List Value} (hlen : ∀ sig, parseMethodDescriptor y.desc = some sig → argsL.length = sig.parameters.length)
    (hstack : g.stack = argsL.reverse ++ .ref b :: rest) (hW : 2 * g.monitorRoom + (rest.map fun v => v.category).sum ≤ W9) (hdg : decode c.code g.pc = .ok (.invokevirtual index, 3))
    (hpre : ∀ vm₁, s.WarmedH vm₁ → Pre ⟨T.setVm vm₁, locs, cells, slots⟩ (Value.ref b :: argsL).toArray) :
    (∃ (v : Option Value) (vm₁ : Vm) (B : Pt), s.WarmedH vm₁ ∧ Stand p l e R s m args below meth c B.U B.locs B.cells B.slots ∧ Post ⟨T.setVm vm₁, locs, cells, slots⟩ (Value.ref b :: argsL).toArray v B ∧
      ∀ target, Steps p.tables e below (B.U.setTop { g with pc := g.pc + 3, stack := v.toList ++ rest }) target → Steps p.tables e below (T.setTop g) target) ∨
    (∃ (q : Addr) (vm₁ : Vm) (B : Pt), s.WarmedH vm₁ ∧ Stand p l e R s m args below meth c B.U B.locs B.cells B.slots ∧ PostX ⟨T.setVm vm₁, locs, cells, slots⟩ (Value.ref b :: argsL).toArray q B ∧
      Steps p.tables e below (T.setTop g) ((B.U.setTop { g with stack := rest }).pushFrame (.throwing q))) := by
  obtain ⟨mk, methM, hnamed, hmethM, hstM, habM⟩ := Cond.instanceMethod_spec hinst
  obtain ⟨methM', cM, hmethM', -, -, -, -, -, -, hsigM⟩ := Cond.code_spec hnamed hcode
  cases hmethM.symm.trans hmethM'
  obtain ⟨c2, r2, m2, q1, q2, q3, q4, kP, hkP, hkPi⟩ := Cond.selects_spec hsel
  cases hcls.symm.trans q1
  cases (State.methodFound?_of_named hnamed hy).symm.trans q2
  cases hnamed.symm.trans q3
  have hselP : selectMethod e.platform s.vm cellB.cls mk = .method mk := by rw [Launch.admits_selectMethod X.admits]; exact q4
  obtain ⟨vm₁, X₁, hstep₁⟩ := X.invokevirtual hexec hown hlink hnamed hmethM hstM hkP hkPi hy (a := b) (cell := cellB) hcell
    (fun z h => by rw [h] at hobj; cases hobj) hselP hmethM habM hkP hkPi (g := g) hg (argsL := argsL) (rest := rest) (hlen _ hsigM) hstack hdg
  rcases hK m meth c ⟨T.setVm vm₁, locs, cells, slots⟩ { g with stack := rest } (.invokevirtual index) mk (Value.ref b :: argsL).toArray X₁ hg hsize hdg hW (X₁.named hnamed) (hpre vm₁ X₁.warmed) with ⟨v, B, X', hpost, hsteps⟩ | ⟨q, B, X', hpost, hsteps⟩
  · exact Or.inl ⟨v, vm₁, B, X₁.warmed, X', hpost, fun target h => hstep₁ _ fun acts => by rw [doInvoke_state]; exact hsteps.trans h⟩
  · exact Or.inr ⟨q, vm₁, B, X₁.warmed, X', hpost, hstep₁ _ fun acts => by rw [doInvoke_state]; exact hsteps⟩
theorem vx_callS (X : Stand p l e R s m args below meth c T locs cells slots) (hexec : p.tables.exec = Jvm.exec) {own : String} {index : Nat} {y : MethodName} {bytes : ByteArray} {maxL : Nat} {ret : Option FieldType}
    (hown : s.vm.findClass own = some m.cls) (hlink : (Cond.methodLink own index y).before args s = true) (hstat : (Cond.static y).before args s = true) (hinit : (Cond.initialized y.cls).before args s = true)
    (hcode : (Cond.code y bytes maxL ret).before args s = true) (hy : y.cls ≠ "java/lang/invoke/MethodHandle" ∧ y.cls ≠ "java/lang/invoke/VarHandle")
    {W9 : Nat} {Pre : Pt → Array Value → Prop} {Post : Pt → Array Value → Option Value → Pt → Prop} {PostX : Pt → Array Value → Addr → Pt → Prop} (hK : vx_Back l R p e below s args y 3 W9 Pre Post PostX)
    {g : JFrame} (hg : g.method = m) (hsize : g.locals.size = c.maxLocals) {argsL rest : List Value} (hlen : ∀ sig, parseMethodDescriptor y.desc = some sig → argsL.length = sig.parameters.length)
    (hstack : g.stack = argsL.reverse ++ rest) (hW : 2 * g.monitorRoom + (rest.map fun v => v.category).sum ≤ W9) (hdg : decode c.code g.pc = .ok (.invokestatic index, 3))
    (hpre : ∀ vm₁, s.WarmedH vm₁ → Pre ⟨T.setVm vm₁, locs, cells, slots⟩ argsL.toArray) :
    (∃ (v : Option Value) (vm₁ : Vm) (B : Pt), s.WarmedH vm₁ ∧ Stand p l e R s m args below meth c B.U B.locs B.cells B.slots ∧ Post ⟨T.setVm vm₁, locs, cells, slots⟩ argsL.toArray v B ∧
      ∀ target, Steps p.tables e below (B.U.setTop { g with pc := g.pc + 3, stack := v.toList ++ rest }) target → Steps p.tables e below (T.setTop g) target) ∨
    (∃ (q : Addr) (vm₁ : Vm) (B : Pt), s.WarmedH vm₁ ∧ Stand p l e R s m args below meth c B.U B.locs B.cells B.slots ∧ PostX ⟨T.setVm vm₁, locs, cells, slots⟩ argsL.toArray q B ∧
      Steps p.tables e below (T.setTop g) ((B.U.setTop { g with stack := rest }).pushFrame (.throwing q))) := by
  obtain ⟨mk, hnamed⟩ := Cond.code_named hcode
  obtain ⟨methM, cM, hmethM, -, -, -, -, -, -, hsigM⟩ := Cond.code_spec hnamed hcode
  have hstatic : methM.isStatic = true := Cond.static_spec hnamed hmethM hstat
  obtain ⟨kP, hkP, -⟩ := className_of_methodNamed hnamed
  have hinitP : kP.init = .initialized := Cond.initialized_spec (findClass_of_methodNamed hnamed) hkP hinit
  obtain ⟨vm₁, X₁, hstep₁⟩ := X.invokestatic hexec hown hlink hnamed hmethM hstatic hkP hinitP hy (g := g) hg (argsL := argsL) (rest := rest) (hlen _ hsigM) hstack hdg
  rcases hK m meth c ⟨T.setVm vm₁, locs, cells, slots⟩ { g with stack := rest } (.invokestatic index) mk argsL.toArray X₁ hg hsize hdg hW (X₁.named hnamed) (hpre vm₁ X₁.warmed) with ⟨v, B, X', hpost, hsteps⟩ | ⟨q, B, X', hpost, hsteps⟩
  · exact Or.inl ⟨v, vm₁, B, X₁.warmed, X', hpost, fun target h => hstep₁ _ fun acts => by rw [doInvoke_state]; exact hsteps.trans h⟩
  · exact Or.inr ⟨q, vm₁, B, X₁.warmed, X', hpost, hstep₁ _ fun acts => by rw [doInvoke_state]; exact hsteps⟩
end Calls
theorem vx_cls {s : State} {T : State} {vm₁ : Vm} {E : String} {k : ClassId} (hW : s.WarmedH vm₁) (h : (T.setVm vm₁).vm.findClass E = some k) : s.vm.findClass E = some k := by
  have h1 : vm₁.findClass E = some k := h
  rw [hW.alike.findClass] at h1
  exact h1
/-- the method's frame g, with q thrown over it -/
def vx_W (p : Program) (l : Launch) (e : Env) (R : Room) (s : State) (m : MethodId) (args : Array Value) (below : List Frame) (meth : Method) (c : Code) (H : Heap) (locs : List Loc) (cells slots : Nat) (Q : State → Prop) (g : JFrame) (q : Addr) : Prop :=
  ∀ T : State, T.heap = H → Stand p l e R s m args below meth c T locs cells slots → ∃ t, Steps p.tables e below ((T.setTop g).pushFrame (.throwing q)) t ∧ Q t
def vx_Run (p : Program) (l : Launch) (e : Env) (R : Room) (s : State) (m : MethodId) (args : Array Value) (below : List Frame) (meth : Method) (c : Code) (H : Heap) (locs : List Loc) (cells slots mc ms : Nat) (g : JFrame) (rest : List Value) (Qa : State → Outcome → State → Prop) (XC : String → State → State → Prop) (free : Addr → Prop) : Prop :=
  ∀ T : State, T.heap = H → Stand p l e R s m args below meth c T locs cells slots →
    (∃ (v : Option Value) (st₀ t T' : State) (L : List Loc), st₀.heap = H ∧ Stand p l e R s m args below meth c T' (locs ++ L) (cells + mc) (slots + ms) ∧ (∀ q ∈ L, free q.base) ∧ T'.heap = t.heap ∧ T'.vm = t.vm ∧ Qa st₀ (.returned v) t ∧
      Goes p e below T g T' { g with pc := g.pc + 3, stack := v.toList ++ rest }) ∨
    (∃ (q : Addr) (st₀ t T' : State) (L : List Loc) (E : String) (ce : Cell), st₀.heap = H ∧ Stand p l e R s m args below meth c T' (locs ++ L) (cells + mc) (slots + ms) ∧ (∀ z ∈ L, free z.base) ∧ T'.heap = t.heap ∧ T'.vm = t.vm ∧ XC E st₀ t ∧ t.heap[q]? = some ce ∧ ce.vm = .none ∧ s.vm.findClass E = some ce.cls ∧
      Steps p.tables e below (T.setTop g) ((T'.setTop { g with stack := rest }).pushFrame (.throwing q)))
def vx_X {S : Type} (px : S → Prop) (B : String → S → State → Prop) (A : Nat → Prop) : String → State → State → Prop := fun E st t => ∃ u : S, px u ∧ B E u t ∧ va_F A st t
section Runs
variable {p : Program} {l : Launch} {e : Env} {R : Room} {s : State} {m : MethodId} {args : Array Value} {below : List Frame} {meth : Method} {c : Code} {H : Heap} {locs : List Loc} {cells slots : Nat}
variable {y : MethodName} {bytes cc : ByteArray} {maxL nL mc ms n index : Nat} {ret : Option FieldType} {ws : List Cond} {rm : Room} {Pc : Array Value → State → Prop} {Qc : Array Value → State → Outcome → State → Prop} {XC : String → State → State → Prop} {free : Addr → Prop} {Ts : List Cond} {own C : String} {b : Addr} {As rest : List Value} {g : JFrame}
theorem vx_callBack (cb : CallB R s args own index y bytes maxL ret ws rm mc ms n) (hM : vx_Met l y ws rm Pc Qc XC mc ms free) (hbl : FrameBlind Pc) : vx_Back l R p e below s args y 3 8 (PreOf R mc ms Pc) (PostOf Qc mc ms free) (vx_Post XC mc ms free) := by
  obtain ⟨hrc, hrs, hfr, hlo, hws, hcw, -, hini, -⟩ := cb
  exact vx_back (bytes := bytes) (maxL := maxL) (ret := ret) hM hbl hrc hrs hfr hlo hws hcw (fun a' U hW => word_at hW (Or.inl (by first | rfl | simp [Cond.onTables, Cond.keeps, Cond.steady])) hini)
theorem vx_runV (S : CallFix p m c cc nL s args Ts own) (hM : vx_Met l y ws rm Pc Qc XC mc ms free) (cw : CallW R s args own C index y bytes maxL ret ws rm mc ms n) (hp : PreV s H C b Pc As)
    (hg : g.method = m) (hn : As.length = n) (hsize : g.locals.size = nL) (hstack : g.stack = As.reverse ++ .ref b :: rest) (hW : 2 * g.monitorRoom + (rest.map fun v => v.category).sum ≤ 8) (hdg : decode cc g.pc = .ok (.invokevirtual index, 3)) (hf : cells + mc ≤ R.cells ∧ slots + ms ≤ R.slots) :
    vx_Run p l e R s m args below meth c H locs cells slots mc ms g rest (Qc (Value.ref b :: As).toArray) XC free := by
  have hK : vx_Back l R p e below s args y 3 8 (PreOf R mc ms Pc) (PostOf Qc mc ms free) (vx_Post XC mc ms free) := vx_callBack cw.1 hM hp.1
  obtain ⟨⟨-, -, -, -, -, -, hcode, -, hy, hlen, hl⟩, hin, hse⟩ := cw
  obtain ⟨hx, hb, hml, ho, -⟩ := S
  obtain ⟨-, ⟨cellB, hcB, hoB, hclB⟩, hPc⟩ := hp
  intro T hT X
  rcases vx_callV X hx (C := C) (bytes := bytes) (maxL := maxL) (ret := ret) ho hl hin hse hcode hy hK (by rw [hT]; exact hcB) hoB hclB hg (hsize.trans hml.symm) (argsL := As) (rest := rest) (fun sig h => hn.trans (hlen sig h)) hstack hW (by rw [hb]; exact hdg)
    (fun vm₁ hW₁ => ⟨hf.1, hf.2, hPc (T.setVm vm₁) hT hW₁⟩) with ⟨v, vm₁, ⟨U', l2, c2, s2⟩, hW₁, X', ⟨g', mk, t, L, e1, e2, hq, h1, hL, h2, h3⟩, st⟩ | ⟨q, vm₁, ⟨U', l2, c2, s2⟩, hW₁, X', ⟨g', mk, t, L, E, ce, e1, e2, hq, hce, hcv, hcl, h1, hL, h2, h3⟩, st⟩
  · dsimp only [Pt.U, Pt.locs, Pt.cells, Pt.slots] at X' e1 e2 h1 h2 h3 st
    subst h1; subst h2; subst h3
    exact Or.inl ⟨v, (T.setVm vm₁).calling g' mk (Value.ref b :: As).toArray, t, U', L, hT, X', hL, e1, e2, hq, st⟩
  · dsimp only [Pt.U, Pt.locs, Pt.cells, Pt.slots] at X' e1 e2 h1 h2 h3 st hcl
    subst h1; subst h2; subst h3
    exact Or.inr ⟨q, (T.setVm vm₁).calling g' mk (Value.ref b :: As).toArray, t, U', L, E, ce, hT, X', hL, e1, e2, hq, hce, hcv, vx_cls hW₁ hcl, st⟩
theorem vx_runS (S : CallFix p m c cc nL s args Ts own) (hM : vx_Met l y ws rm Pc Qc XC mc ms free) (cw : CallB R s args own index y bytes maxL ret ws rm mc ms n ∧ (Cond.static y).before args s = true) (hp : PreS s H Pc As)
    (hg : g.method = m) (hn : As.length = n) (hsize : g.locals.size = nL) (hstack : g.stack = As.reverse ++ rest) (hW : 2 * g.monitorRoom + (rest.map fun v => v.category).sum ≤ 8) (hdg : decode cc g.pc = .ok (.invokestatic index, 3)) (hf : cells + mc ≤ R.cells ∧ slots + ms ≤ R.slots) :
    vx_Run p l e R s m args below meth c H locs cells slots mc ms g rest (Qc As.toArray) XC free := by
  have hK : vx_Back l R p e below s args y 3 8 (PreOf R mc ms Pc) (PostOf Qc mc ms free) (vx_Post XC mc ms free) := vx_callBack cw.1 hM hp.1
  obtain ⟨⟨-, -, -, -, -, -, hcode, hini, hy, hlen, hl⟩, hstt⟩ := cw
  obtain ⟨hx, hb, hml, ho, -⟩ := S
  intro T hT X
  rcases vx_callS X hx (bytes := bytes) (maxL := maxL) (ret := ret) ho hl hstt hini hcode hy hK hg (hsize.trans hml.symm) (argsL := As) (rest := rest) (fun sig h => hn.trans (hlen sig h)) hstack hW (by rw [hb]; exact hdg)
    (fun vm₁ hW₁ => ⟨hf.1, hf.2, hp.2 (T.setVm vm₁) hT hW₁⟩) with ⟨v, vm₁, ⟨U', l2, c2, s2⟩, hW₁, X', ⟨g', mk, t, L, e1, e2, hq, h1, hL, h2, h3⟩, st⟩ | ⟨q, vm₁, ⟨U', l2, c2, s2⟩, hW₁, X', ⟨g', mk, t, L, E, ce, e1, e2, hq, hce, hcv, hcl, h1, hL, h2, h3⟩, st⟩
  · dsimp only [Pt.U, Pt.locs, Pt.cells, Pt.slots] at X' e1 e2 h1 h2 h3 st
    subst h1; subst h2; subst h3
    exact Or.inl ⟨v, (T.setVm vm₁).calling g' mk As.toArray, t, U', L, hT, X', hL, e1, e2, hq, st⟩
  · dsimp only [Pt.U, Pt.locs, Pt.cells, Pt.slots] at X' e1 e2 h1 h2 h3 st hcl
    subst h1; subst h2; subst h3
    exact Or.inr ⟨q, (T.setVm vm₁).calling g' mk As.toArray, t, U', L, E, ce, hT, X', hL, e1, e2, hq, hce, hcv, vx_cls hW₁ hcl, st⟩
end Runs
section Rows
variable {p : Program} {l : Launch} {e : Env} {R : Room} {s : State} {m : MethodId} {args : Array Value} {below : List Frame} {meth : Method} {c : Code} {H : Heap} {locs : List Loc} {cells slots : Nat} {Q : State → Prop}
variable {mc ms : Nat} {free : Addr → Prop} {A0 A1 : Nat → Prop} {H0 : Heap} {a : Array Value} {pc : Nat} {ls : Array Slot} {st0 rest : List Value}
theorem vx_keep {st₀ t T' : State} {L : List Loc} (h0 : st₀.heap = H) (e1 : T'.heap = t.heap) (hS : va_S A0 H0 H locs) (hA : ∀ q, q < H.size → A1 q → A0 q) (hf : ∀ q, free q → A0 q) (hL : ∀ q ∈ L, free q.base) (hF : va_F A1 st₀ t) :
    H.size ≤ T'.heap.size ∧ (∀ q : Nat, q < H.size → ¬ A1 q → T'.heap[q]? = H[q]?) ∧ va_S A0 H0 T'.heap (locs ++ L) := by
  obtain ⟨hz, hk⟩ := hF
  rw [h0] at hz hk
  exact ⟨by rw [e1]; exact hz, fun q h1 h2 => by rw [e1]; exact hk q h1 h2,
    ⟨Nat.le_trans hS.1 (by rw [e1]; exact hz), fun q h1 h2 => by rw [e1, hk q (Nat.lt_of_lt_of_le h1 hS.1) (fun z => h2 (hA q (Nat.lt_of_lt_of_le h1 hS.1) z))]; exact hS.2.1 q h1 h2, fun q hq => by
      rcases List.mem_append.mp hq with h | h
      · exact hS.2.2 q h
      · exact hf _ (hL q h)⟩⟩
theorem vx_calli {S SX : Type} {post : Int32 → S → Prop} {px : SX → Prop} {B : S → State → Prop} {BX : String → SX → State → Prop} {AX : Nat → Prop} (hr : vx_Run p l e R s m args below meth c H locs cells slots mc ms (F0 m pc ls st0) rest (va_Qi post B A1 a) (vx_X px BX AX) free) (hS : va_S A0 H0 H locs) (hA : ∀ q, q < H.size → A1 q → A0 q) (hf : ∀ q, free q → A0 q) (hAX : ∀ q, q < H.size → AX q → A0 q)
    (kx : ∀ (E : String) (ce : Cell) (q9 : Addr) (u : SX) (t : State) (H1 : Heap) (locs1 : List Loc), t.heap = H1 → s.vm.Alike t.vm → px u → BX E u t → H.size ≤ H1.size → (∀ q : Nat, q < H.size → ¬ AX q → H1[q]? = H[q]?) → va_S A0 H0 H1 locs1 → H1[q9]? = some ce → ce.vm = .none → s.vm.findClass E = some ce.cls → vx_W p l e R s m args below meth c H1 locs1 (cells + mc) (slots + ms) Q (F0 m pc ls rest) q9)
    (kk : ∀ (r : Int32) (u : S) (t : State) (H1 : Heap) (locs1 : List Loc), t.heap = H1 → s.vm.Alike t.vm → post r u → B u t → H.size ≤ H1.size → (∀ q : Nat, q < H.size → ¬ A1 q → H1[q]? = H[q]?) → va_S A0 H0 H1 locs1 → W p l e R s m args below meth c H1 locs1 (cells + mc) (slots + ms) Q (F0 m (pc + 3) ls (.int r :: rest))) : W p l e R s m args below meth c H locs cells slots Q (F0 m pc ls st0) := by
  intro T hT X
  rcases hr T hT X with ⟨v, st₀, t, T', L, h0, X', hL, e1, e2, ⟨⟨r, u, hv, hp, hb⟩, hF⟩, st⟩ | ⟨q, st₀, t, T', L, E, ce, h0, X', hL, e1, e2, ⟨u, hp, hb, hF⟩, hce, hcv, hcl, st⟩
  · cases hv
    obtain ⟨k1, k2, k3⟩ := vx_keep h0 e1 hS hA hf hL hF
    obtain ⟨t2, a1, b1⟩ := kk r u t T'.heap (locs ++ L) e1.symm (by rw [← e2]; exact X'.warmed.alike) hp hb k1 k2 k3 T' rfl X'
    exact ⟨t2, st t2 a1, b1⟩
  · obtain ⟨k1, k2, k3⟩ := vx_keep h0 e1 hS hAX hf hL hF
    obtain ⟨t2, a1, b1⟩ := kx E ce q u t T'.heap (locs ++ L) e1.symm (by rw [← e2]; exact X'.warmed.alike) hp hb k1 k2 k3 (by rw [e1]; exact hce) hcv hcl T' rfl X'
    exact ⟨t2, st.trans a1, b1⟩
theorem vx_calll {S SX : Type} {post : Int64 → S → Prop} {px : SX → Prop} {B : S → State → Prop} {BX : String → SX → State → Prop} {AX : Nat → Prop} (hr : vx_Run p l e R s m args below meth c H locs cells slots mc ms (F0 m pc ls st0) rest (va_Ql post B A1 a) (vx_X px BX AX) free) (hS : va_S A0 H0 H locs) (hA : ∀ q, q < H.size → A1 q → A0 q) (hf : ∀ q, free q → A0 q) (hAX : ∀ q, q < H.size → AX q → A0 q)
    (kx : ∀ (E : String) (ce : Cell) (q9 : Addr) (u : SX) (t : State) (H1 : Heap) (locs1 : List Loc), t.heap = H1 → s.vm.Alike t.vm → px u → BX E u t → H.size ≤ H1.size → (∀ q : Nat, q < H.size → ¬ AX q → H1[q]? = H[q]?) → va_S A0 H0 H1 locs1 → H1[q9]? = some ce → ce.vm = .none → s.vm.findClass E = some ce.cls → vx_W p l e R s m args below meth c H1 locs1 (cells + mc) (slots + ms) Q (F0 m pc ls rest) q9)
    (kk : ∀ (r : Int64) (u : S) (t : State) (H1 : Heap) (locs1 : List Loc), t.heap = H1 → s.vm.Alike t.vm → post r u → B u t → H.size ≤ H1.size → (∀ q : Nat, q < H.size → ¬ A1 q → H1[q]? = H[q]?) → va_S A0 H0 H1 locs1 → W p l e R s m args below meth c H1 locs1 (cells + mc) (slots + ms) Q (F0 m (pc + 3) ls (.long r :: rest))) : W p l e R s m args below meth c H locs cells slots Q (F0 m pc ls st0) := by
  intro T hT X
  rcases hr T hT X with ⟨v, st₀, t, T', L, h0, X', hL, e1, e2, ⟨⟨r, u, hv, hp, hb⟩, hF⟩, st⟩ | ⟨q, st₀, t, T', L, E, ce, h0, X', hL, e1, e2, ⟨u, hp, hb, hF⟩, hce, hcv, hcl, st⟩
  · cases hv
    obtain ⟨k1, k2, k3⟩ := vx_keep h0 e1 hS hA hf hL hF
    obtain ⟨t2, a1, b1⟩ := kk r u t T'.heap (locs ++ L) e1.symm (by rw [← e2]; exact X'.warmed.alike) hp hb k1 k2 k3 T' rfl X'
    exact ⟨t2, st t2 a1, b1⟩
  · obtain ⟨k1, k2, k3⟩ := vx_keep h0 e1 hS hAX hf hL hF
    obtain ⟨t2, a1, b1⟩ := kx E ce q u t T'.heap (locs ++ L) e1.symm (by rw [← e2]; exact X'.warmed.alike) hp hb k1 k2 k3 (by rw [e1]; exact hce) hcv hcl T' rfl X'
    exact ⟨t2, st.trans a1, b1⟩
theorem vx_callf {S SX : Type} {post : UInt32 → S → Prop} {px : SX → Prop} {B : S → State → Prop} {BX : String → SX → State → Prop} {AX : Nat → Prop} (hr : vx_Run p l e R s m args below meth c H locs cells slots mc ms (F0 m pc ls st0) rest (va_Qf post B A1 a) (vx_X px BX AX) free) (hS : va_S A0 H0 H locs) (hA : ∀ q, q < H.size → A1 q → A0 q) (hf : ∀ q, free q → A0 q) (hAX : ∀ q, q < H.size → AX q → A0 q)
    (kx : ∀ (E : String) (ce : Cell) (q9 : Addr) (u : SX) (t : State) (H1 : Heap) (locs1 : List Loc), t.heap = H1 → s.vm.Alike t.vm → px u → BX E u t → H.size ≤ H1.size → (∀ q : Nat, q < H.size → ¬ AX q → H1[q]? = H[q]?) → va_S A0 H0 H1 locs1 → H1[q9]? = some ce → ce.vm = .none → s.vm.findClass E = some ce.cls → vx_W p l e R s m args below meth c H1 locs1 (cells + mc) (slots + ms) Q (F0 m pc ls rest) q9)
    (kk : ∀ (r : UInt32) (u : S) (t : State) (H1 : Heap) (locs1 : List Loc), t.heap = H1 → s.vm.Alike t.vm → post r u → B u t → H.size ≤ H1.size → (∀ q : Nat, q < H.size → ¬ A1 q → H1[q]? = H[q]?) → va_S A0 H0 H1 locs1 → W p l e R s m args below meth c H1 locs1 (cells + mc) (slots + ms) Q (F0 m (pc + 3) ls (.float r :: rest))) : W p l e R s m args below meth c H locs cells slots Q (F0 m pc ls st0) := by
  intro T hT X
  rcases hr T hT X with ⟨v, st₀, t, T', L, h0, X', hL, e1, e2, ⟨⟨r, u, hv, hp, hb⟩, hF⟩, st⟩ | ⟨q, st₀, t, T', L, E, ce, h0, X', hL, e1, e2, ⟨u, hp, hb, hF⟩, hce, hcv, hcl, st⟩
  · cases hv
    obtain ⟨k1, k2, k3⟩ := vx_keep h0 e1 hS hA hf hL hF
    obtain ⟨t2, a1, b1⟩ := kk r u t T'.heap (locs ++ L) e1.symm (by rw [← e2]; exact X'.warmed.alike) hp hb k1 k2 k3 T' rfl X'
    exact ⟨t2, st t2 a1, b1⟩
  · obtain ⟨k1, k2, k3⟩ := vx_keep h0 e1 hS hAX hf hL hF
    obtain ⟨t2, a1, b1⟩ := kx E ce q u t T'.heap (locs ++ L) e1.symm (by rw [← e2]; exact X'.warmed.alike) hp hb k1 k2 k3 (by rw [e1]; exact hce) hcv hcl T' rfl X'
    exact ⟨t2, st.trans a1, b1⟩
theorem vx_calld {S SX : Type} {post : UInt64 → S → Prop} {px : SX → Prop} {B : S → State → Prop} {BX : String → SX → State → Prop} {AX : Nat → Prop} (hr : vx_Run p l e R s m args below meth c H locs cells slots mc ms (F0 m pc ls st0) rest (va_Qd post B A1 a) (vx_X px BX AX) free) (hS : va_S A0 H0 H locs) (hA : ∀ q, q < H.size → A1 q → A0 q) (hf : ∀ q, free q → A0 q) (hAX : ∀ q, q < H.size → AX q → A0 q)
    (kx : ∀ (E : String) (ce : Cell) (q9 : Addr) (u : SX) (t : State) (H1 : Heap) (locs1 : List Loc), t.heap = H1 → s.vm.Alike t.vm → px u → BX E u t → H.size ≤ H1.size → (∀ q : Nat, q < H.size → ¬ AX q → H1[q]? = H[q]?) → va_S A0 H0 H1 locs1 → H1[q9]? = some ce → ce.vm = .none → s.vm.findClass E = some ce.cls → vx_W p l e R s m args below meth c H1 locs1 (cells + mc) (slots + ms) Q (F0 m pc ls rest) q9)
    (kk : ∀ (r : UInt64) (u : S) (t : State) (H1 : Heap) (locs1 : List Loc), t.heap = H1 → s.vm.Alike t.vm → post r u → B u t → H.size ≤ H1.size → (∀ q : Nat, q < H.size → ¬ A1 q → H1[q]? = H[q]?) → va_S A0 H0 H1 locs1 → W p l e R s m args below meth c H1 locs1 (cells + mc) (slots + ms) Q (F0 m (pc + 3) ls (.double r :: rest))) : W p l e R s m args below meth c H locs cells slots Q (F0 m pc ls st0) := by
  intro T hT X
  rcases hr T hT X with ⟨v, st₀, t, T', L, h0, X', hL, e1, e2, ⟨⟨r, u, hv, hp, hb⟩, hF⟩, st⟩ | ⟨q, st₀, t, T', L, E, ce, h0, X', hL, e1, e2, ⟨u, hp, hb, hF⟩, hce, hcv, hcl, st⟩
  · cases hv
    obtain ⟨k1, k2, k3⟩ := vx_keep h0 e1 hS hA hf hL hF
    obtain ⟨t2, a1, b1⟩ := kk r u t T'.heap (locs ++ L) e1.symm (by rw [← e2]; exact X'.warmed.alike) hp hb k1 k2 k3 T' rfl X'
    exact ⟨t2, st t2 a1, b1⟩
  · obtain ⟨k1, k2, k3⟩ := vx_keep h0 e1 hS hAX hf hL hF
    obtain ⟨t2, a1, b1⟩ := kx E ce q u t T'.heap (locs ++ L) e1.symm (by rw [← e2]; exact X'.warmed.alike) hp hb k1 k2 k3 (by rw [e1]; exact hce) hcv hcl T' rfl X'
    exact ⟨t2, st.trans a1, b1⟩
theorem vx_callv {S SX : Type} {post : S → Prop} {px : SX → Prop} {B : S → State → Prop} {BX : String → SX → State → Prop} {AX : Nat → Prop} (hr : vx_Run p l e R s m args below meth c H locs cells slots mc ms (F0 m pc ls st0) rest (va_Qv post B A1 a) (vx_X px BX AX) free) (hS : va_S A0 H0 H locs) (hA : ∀ q, q < H.size → A1 q → A0 q) (hf : ∀ q, free q → A0 q) (hAX : ∀ q, q < H.size → AX q → A0 q)
    (kx : ∀ (E : String) (ce : Cell) (q9 : Addr) (u : SX) (t : State) (H1 : Heap) (locs1 : List Loc), t.heap = H1 → s.vm.Alike t.vm → px u → BX E u t → H.size ≤ H1.size → (∀ q : Nat, q < H.size → ¬ AX q → H1[q]? = H[q]?) → va_S A0 H0 H1 locs1 → H1[q9]? = some ce → ce.vm = .none → s.vm.findClass E = some ce.cls → vx_W p l e R s m args below meth c H1 locs1 (cells + mc) (slots + ms) Q (F0 m pc ls rest) q9)
    (kk : ∀ (u : S) (t : State) (H1 : Heap) (locs1 : List Loc), t.heap = H1 → s.vm.Alike t.vm → post u → B u t → H.size ≤ H1.size → (∀ q : Nat, q < H.size → ¬ A1 q → H1[q]? = H[q]?) → va_S A0 H0 H1 locs1 → W p l e R s m args below meth c H1 locs1 (cells + mc) (slots + ms) Q (F0 m (pc + 3) ls (rest))) : W p l e R s m args below meth c H locs cells slots Q (F0 m pc ls st0) := by
  intro T hT X
  rcases hr T hT X with ⟨v, st₀, t, T', L, h0, X', hL, e1, e2, ⟨⟨u, hv, hp, hb⟩, hF⟩, st⟩ | ⟨q, st₀, t, T', L, E, ce, h0, X', hL, e1, e2, ⟨u, hp, hb, hF⟩, hce, hcv, hcl, st⟩
  · cases hv
    obtain ⟨k1, k2, k3⟩ := vx_keep h0 e1 hS hA hf hL hF
    obtain ⟨t2, a1, b1⟩ := kk u t T'.heap (locs ++ L) e1.symm (by rw [← e2]; exact X'.warmed.alike) hp hb k1 k2 k3 T' rfl X'
    exact ⟨t2, st t2 a1, b1⟩
  · obtain ⟨k1, k2, k3⟩ := vx_keep h0 e1 hS hAX hf hL hF
    obtain ⟨t2, a1, b1⟩ := kx E ce q u t T'.heap (locs ++ L) e1.symm (by rw [← e2]; exact X'.warmed.alike) hp hb k1 k2 k3 (by rw [e1]; exact hce) hcv hcl T' rfl X'
    exact ⟨t2, st.trans a1, b1⟩
end Rows
section Ends
variable {p : Program} {l : Launch} {e : Env} {R : Room} {s : State} {m : MethodId} {args : Array Value} {below : List Frame} {meth : Method} {c : Code} {H : Heap} {locs : List Loc} {cells slots : Nat} {Q : State → Prop}
variable {mc ms : Nat} {free : Addr → Prop} {A0 A1 : Nat → Prop} {H0 : Heap} {a : Array Value} {ls : Array Slot} {st0 rest : List Value}
variable {Qc : Array Value → State → Outcome → State → Prop} {XC : String → State → State → Prop}
/-- what a body that may throw owes at its end -/
def vx_MQ (below : List Frame) (Qc : Array Value → State → Outcome → State → Prop) (XC : String → State → State → Prop) (a : Array Value) (s : State) (mc ms : Nat) (free : Addr → Prop) : State → Prop := fun t =>
  ∃ o, t.status = .running ∧ Ended t below o ∧ vx_Q Qc XC mc ms free a s o t
theorem vx_ret {g : JFrame} {mc ms : Nat} (k : W p l e R s m args below meth c H locs cells slots (MQ below Qc args s mc ms free) g) : W p l e R s m args below meth c H locs cells slots (vx_MQ below Qc XC args s mc ms free) g := by
  intro T hT X
  obtain ⟨t, a1, o, b1, b2, b3, b4⟩ := k T hT X
  exact ⟨t, a1, o, b1, b2, Or.inl ⟨b3, b4⟩⟩
/-- not caught here: it goes on to the caller -/
theorem vx_widen {g : JFrame} {q : Addr} {k n : Nat} (h1 : cells ≤ k) (h2 : slots ≤ n) (kk : vx_W p l e R s m args below meth c H locs k n Q g q) : vx_W p l e R s m args below meth c H locs cells slots Q g q := fun T hT X => kk T hT (stand_widen X h1 h2)
theorem vx_out {pc : Nat} {E : String} {ce : Cell} {q : Addr} {mc ms : Nat} (hout : ∀ x ∈ c.exceptionTable.toList, covers x pc = false) (hlocks : meth.locks = false) (hcell : H[q]? = some ce) (hv : ce.vm = .none) (hcl : s.vm.findClass E = some ce.cls)
    (hx : ∀ t : State, t.heap = H → s.vm.Alike t.vm → XC E s t) (hf : ∀ z ∈ locs, free z.base) (hc : cells ≤ mc) (hs : slots ≤ ms) :
    vx_W p l e R s m args below meth c H locs cells slots (vx_MQ below Qc XC args s mc ms free) (F0 m pc ls rest) q := by
  intro T hT X
  obtain ⟨st1, hrun, hend, hW, hsm⟩ := X.leaveThrown q (g := F0 m pc ls rest) rfl rfl rfl hout hlocks
  have hcell9 : (T.setFrames (.throwing q :: below)).heap[q]? = some ce := by
    show T.heap[q]? = some ce
    rw [hT]; exact hcell
  exact ⟨_, st1, .threw q, hrun, hend, Or.inr ⟨q, rfl, E, ce, locs, hx _ hT hW.alike, hcell9, hv, hcl, hW, hsm.mono hc hs, hf⟩⟩
theorem vx_frame {U : State} {k n : Nat} (h : s.sameButNew ({ U with vm := s.vm } : State) locs k n) : s.heap.size ≤ U.heap.size ∧ ∀ q : Nat, q < s.heap.size → (∀ z ∈ locs, z.base ≠ q) → U.heap[q]? = s.heap[q]? := by
  obtain ⟨-, h2, -, -, -, h6⟩ := h
  refine ⟨h2, fun q hq hz => ?_⟩
  obtain ⟨c9, e1, e2, e3, e4⟩ := h6 q _ (Array.getElem?_eq_getElem hq)
  have hs : c9.slots = (s.heap[q]).slots := Array.ext_getElem? fun i => e4 i fun hm => hz _ hm rfl
  have h9 : c9 = s.heap[q] := by
    rw [hs] at e2
    exact e2
  have e5 : U.heap[q]? = some c9 := e1
  rw [e5, h9, Array.getElem?_eq_getElem hq]
/-- the words of a throw but the four that speak of the heap -/
def vx_no (w : Cond) : Bool := decide (w ≠ .isRef (.static Bundle.tN "UNASSIGNED_STACK" Bundle.steD)) && decide (w ≠ .isRef (.static Bundle.tN "SUPPRESSED_SENTINEL" Bundle.listD)) && decide (w ≠ .laysStatic Bundle.tN "UNASSIGNED_STACK" Bundle.steD) && decide (w ≠ .laysStatic Bundle.tN "SUPPRESSED_SENTINEL" Bundle.listD)
def vx_at0 (own : String) (ic : Nat) (X : String) (names : List String) : List Cond := (Bundle.ownAtoms0 own ic X names).filter vx_no
def vx_atS (own : String) (ic : Nat) (X : String) (names : List String) : List Cond := (Bundle.ownAtoms own ic X names).filter vx_no
/-- a word that the tables alone decide, or a good one -/
def vx_ot (w : Cond) : Bool := w.onTables || goodWord w
theorem vx_ot_at {args a' : Array Value} {s U : State} {w : Cond} (hW : s.WarmedH U.vm) (hvm : s.vm = U.vm) (hg : vx_ot w = true) (h : w.before args s = true) : w.before a' U = true := by
  simp only [vx_ot, Bool.or_eq_true] at hg
  rcases hg with hg | hg
  · exact va_tabs hg hvm h
  · exact word_at hW (good_of_word hg) h
/-- a list's words: the good ones out of the method's own list, the others by premises of their own -/
theorem vx_hat {args : Array Value} {s : State} {L B : List Cond} (h1 : ∀ w ∈ L.filter goodWord, w.before args s = true) (h2 : ∀ w ∈ L.filter (fun w => !goodWord w), w ∈ B) (h3 : ∀ w ∈ B, w.before args s = true) : ∀ w ∈ L, w.before args s = true := by
  intro w hw
  by_cases g : goodWord w = true
  · exact h1 w (List.mem_filter.mpr ⟨hw, g⟩)
  · refine h3 w (h2 w (List.mem_filter.mpr ⟨hw, ?_⟩))
    show (!goodWord w) = true
    cases hgw : goodWord w
    · rfl
    · exact absurd hgw g
theorem vx_c {args : Array Value} {s : State} {w : Cond} {B : List Cond} (h : w.before args s = true) (t : ∀ w ∈ B, w.before args s = true) : ∀ w' ∈ w :: B, w'.before args s = true := fun w' h' => (List.mem_cons.mp h').elim (fun e => by rw [e]; exact h) (t w')
theorem vx_n {args : Array Value} {s : State} : ∀ w ∈ ([] : List Cond), w.before args s = true := fun _ h => nomatch h
theorem vx_own {args : Array Value} {s : State} {L : List Cond} (h1 : ∀ w ∈ L.filter vx_no, w.before args s = true)
    (hU : (Cond.isRef (.static Bundle.tN "UNASSIGNED_STACK" Bundle.steD)).before args s = true) (hN : (Cond.isRef (.static Bundle.tN "SUPPRESSED_SENTINEL" Bundle.listD)).before args s = true)
    (lU : (Cond.laysStatic Bundle.tN "UNASSIGNED_STACK" Bundle.steD).before args s = true) (lN : (Cond.laysStatic Bundle.tN "SUPPRESSED_SENTINEL" Bundle.listD).before args s = true) : ∀ w ∈ L, w.before args s = true := by
  intro w hw
  by_cases e1 : w = .isRef (.static Bundle.tN "UNASSIGNED_STACK" Bundle.steD)
  · rw [e1]; exact hU
  · by_cases e2 : w = .isRef (.static Bundle.tN "SUPPRESSED_SENTINEL" Bundle.listD)
    · rw [e2]; exact hN
    · by_cases e3 : w = .laysStatic Bundle.tN "UNASSIGNED_STACK" Bundle.steD
      · rw [e3]; exact lU
      · by_cases e4 : w = .laysStatic Bundle.tN "SUPPRESSED_SENTINEL" Bundle.listD
        · rw [e4]; exact lN
        · exact h1 w (List.mem_filter.mpr ⟨hw, by unfold vx_no; rw [decide_eq_true e1, decide_eq_true e2, decide_eq_true e3, decide_eq_true e4]; rfl⟩)
/-- where a static field lies, its class's statics cell in H -/
def vx_L (C n d : String) (A : Nat → Prop) (U : State) (H : Heap) : Prop := ∃ (c : ClassId) (k : Class) (i : Nat) (f : Field) (a : Nat) (cell : Cell), U.vm.findClass C = some c ∧ U.fieldFound? C n d = some (c, k, i, f) ∧ f.isStatic = true ∧ k.statics = some a ∧ H[a]? = some cell ∧ cell.vm.isStatics = true ∧ cell.cls = c ∧ f.slot < cell.slots.size ∧ k.staticTypes[f.slot]? = some f.type ∧ ¬ A a
theorem vx_L.moved {C n d : String} {A : Nat → Prop} {u U : State} {H : Heap} (hvm : u.vm.Alike U.vm) (h : vx_L C n d A u H) : vx_L C n d A U H := by
  obtain ⟨c, k, i, f, a, cell, h1, h2, h3, h4, h5, h6, h7, h8, h9, h10⟩ := h
  obtain ⟨k', hi', he⟩ := State.fieldFound?_setVm hvm h2
  exact ⟨c, k', i, f, a, cell, by rw [hvm.findClass]; exact h1, hi', h3, by rw [he]; exact h4, h5, h6, h7, h8, by rw [he]; exact h9, h10⟩
theorem vx_L.kept {C n d : String} {A : Nat → Prop} {U : State} {H H1 : Heap} (h : vx_L C n d A U H) (hq : ∀ a : Nat, a < H.size → ¬ A a → H1[a]? = H[a]?) : vx_L C n d A U H1 := by
  obtain ⟨c, k, i, f, a, cell, h1, h2, h3, h4, h5, h6, h7, h8, h9, h10⟩ := h
  exact ⟨c, k, i, f, a, cell, h1, h2, h3, h4, by rw [hq a (Array.getElem?_eq_some_iff.mp h5).1 h10]; exact h5, h6, h7, h8, h9, h10⟩
theorem vx_L.narrow {C n d : String} {A B : Nat → Prop} {U : State} {H : Heap} (h : vx_L C n d A U H) (hAB : ∀ q, B q → A q) : vx_L C n d B U H := by
  obtain ⟨c, k, i, f, a, cell, h1, h2, h3, h4, h5, h6, h7, h8, h9, h10⟩ := h
  exact ⟨c, k, i, f, a, cell, h1, h2, h3, h4, h5, h6, h7, h8, h9, fun z => h10 (hAB _ z)⟩
theorem vx_L.word {C n d : String} {A : Nat → Prop} {s : State} {args : Array Value} (h : vx_L C n d A s s.heap) : (Cond.laysStatic C n d).before args s = true := by
  obtain ⟨c, k, i, f, a, cell, h1, h2, h3, h4, h5, h6, h7, h8, h9, -⟩ := h
  show (Cond.laysStatic C n d).holds args s none s [] = true
  exact Cond.laysStatic_of h1 h2 h3 h4 h5 h6 h7 h8 h9
/-- .. and what it holds: null or some reference -/
def vx_Zq (C n d : String) (A : Nat → Prop) (U : State) (H : Heap) : Prop := va_Zq C n d A U H ∧ vx_L C n d A U H
theorem vx_Zq.moved {C n d : String} {A : Nat → Prop} {u U : State} {H : Heap} (hvm : u.vm.Alike U.vm) (h : vx_Zq C n d A u H) : vx_Zq C n d A U H := ⟨va_Zq.moved hvm h.1, vx_L.moved hvm h.2⟩
theorem vx_Zq.kept {C n d : String} {A : Nat → Prop} {U : State} {H H1 : Heap} (h : vx_Zq C n d A U H) (hq : ∀ a : Nat, a < H.size → ¬ A a → H1[a]? = H[a]?) : vx_Zq C n d A U H1 := ⟨va_Zq.kept h.1 hq, vx_L.kept h.2 hq⟩
theorem vx_Zq.narrow {C n d : String} {A B : Nat → Prop} {U : State} {H : Heap} (h : vx_Zq C n d A U H) (hAB : ∀ q, B q → A q) : vx_Zq C n d B U H := ⟨va_Zq.narrow h.1 hAB, vx_L.narrow h.2 hAB⟩
theorem vx_Zqof {args : Array Value} {s : State} {C n d : String} {A : Nat → Prop} (hl : (Cond.laysStatic C n d).before args s = true) (hini : (Cond.initialized C).before args s = true) (h : (Cond.isRef (.static C n d)).before args s = true) (hA : ∀ a : Nat, a < s.heap.size → ¬ A a) : vx_Zq C n d A s s.heap := by
  refine ⟨va_Zqof hl hini h hA, ?_⟩
  obtain ⟨c, k, i, f, a, cell, h1, h2, h3, h4, h5, h6, h7, h8, h9⟩ := Cond.laysStatic_spec hl
  exact ⟨c, k, i, f, a, cell, h1, h2, h3, h4, h5, h6, h7, h8, h9, hA a (Array.getElem?_eq_some_iff.mp h5).1⟩
theorem vx_isRef {C n d : String} {v : Value} {A : Nat → Prop} {s : State} {args : Array Value} (h : va_Z C n d v A s s.heap) (hv : v.isRef = true) : (Cond.isRef (.static C n d)).before args s = true := by
  obtain ⟨cf, kf, fi, f, a, cell, h1, h2, h3, h4, h5, h6, h7, -⟩ := h
  have he : (Term.static C n d).eval args s none [] s = some v := by
    simp [Term.eval, State.fieldNamed?, h1, h2, h4, h5, h6, h7]
  simp only [Cond.before, Cond.holds, Cond.value, he]
  cases v <;> simp_all [Value.isRef]
theorem vx_isRefq {C n d : String} {A : Nat → Prop} {s : State} {args : Array Value} (h : va_Zq C n d A s s.heap) : (Cond.isRef (.static C n d)).before args s = true := by
  rcases h with h | ⟨t, h⟩
  · exact vx_isRef h rfl
  · exact vx_isRef h rfl
/-- the same frame, seen from here: as if the method were called anew in this heap -/
theorem vx_rebase {T : State} (X : Stand p l e R s m args below meth c T locs cells slots) {R' : Room} (hf : R'.frames ≤ R.frames) (hl : R'.locals ≤ R.locals) (hc : cells + R'.cells ≤ R.cells) (hs : slots + R'.slots ≤ R.slots) :
    Stand p l e R' ((T.setVm s.vm).setFrames (.invoking m args :: below)) m args below meth c T [] 0 0 := by
  have htop : (T.setVm s.vm).topJava?.isSome := X.here.top
  have hF : ((T.setVm s.vm).setFrames (.invoking m args :: below)).frames = .invoking m args :: below := State.frames_setFrames _ (State.cur_lt_of_top htop)
  obtain ⟨g₀, hg0⟩ := Option.isSome_iff_exists.mp htop
  obtain ⟨r, hr⟩ := State.topJava?_eq_some.mp hg0
  have hl9 : e.platform.stackLimits (T.setVm s.vm).me = e.platform.stackLimits s.me := X.limits
  have hb9 : (T.setVm s.vm).me.stackBytes = s.me.stackBytes := X.bytes
  refine ⟨X.admits, X.cas, X.clock, hF, ?_, X.hears, X.method, X.code, X.here, X.tail, X.warmed, ?_, ?_, ?_⟩
  · have h := X.room
    have hU : ((T.setVm s.vm).setFrames (.invoking m args :: below)).localsInUse = s.localsInUse := by
      rw [State.localsInUse_invoking hF (meth := meth) (c := c) X.method X.code, State.localsInUse_invoking X.frames X.method X.code]
    simp only [State.hasRoom, Bool.and_eq_true, decide_eq_true_eq] at h ⊢
    obtain ⟨⟨⟨⟨h1, h2, h3, h4, h5, h6⟩, h7⟩, h8⟩, h9⟩ := h
    rw [X.frames, List.length_cons] at h2 h3
    have q1 := X.heapSize
    have q2 := X.used
    simp only [hF, hU, List.length_cons, State.stackLimits_setFrames, State.stackBytes_setFrames, hl9, hb9]
    refine ⟨⟨⟨⟨by omega, by omega, by omega, by omega, by omega, h6⟩, ?_⟩, ?_⟩, X.book⟩
    · show T.heap.size + R'.cells ≤ e.platform.maxCells
      omega
    · show T.slotsUsed + R'.slots ≤ e.platform.maxSlots
      omega
  · rw [State.stackLimits_setFrames]; rfl
  · rw [State.stackBytes_setFrames]; rfl
  · refine ⟨?_, Nat.le_refl _, Nat.le_refl _, ?_, ?_, fun a c9 h9 => ⟨c9, h9, rfl, rfl, fun _ _ => rfl⟩⟩
    · obtain ⟨t, ht, -⟩ := State.frames_cons hr
      show T.setVm s.vm = { ((T.setVm s.vm).setFrames (.invoking m args :: below)).setFrames (T.setVm s.vm).frames with heap := T.heap, slotsUsed := T.slotsUsed }
      rw [State.setFrames_setFrames, State.setFrames_self ht]
      rfl
    · show T.slotsUsed = T.slotsUsed + ((T.heap.toList.drop T.heap.size).map (·.slots.size)).sum
      rw [List.drop_eq_nil_of_le (Nat.le_of_eq Array.length_toList)]
      rfl
    · show ((T.heap.toList.drop T.heap.size).map (·.slots.size)).sum ≤ 0
      rw [List.drop_eq_nil_of_le (Nat.le_of_eq Array.length_toList)]
      exact Nat.le_refl _
/-- 'throw new E()': new; dup; invokespecial; athrow -/
theorem vx_throw0 {cc : ByteArray} {pc : Nat} (hexec : p.tables.exec = Jvm.exec) (hb : c.code = cc) (hl : l.stackTraces = false) {own cls : String} {names : List String} {ik ic mc ms : Nat} {A : Nat → Prop}
    (hown : s.vm.findClass own = some m.cls) (hcls : Bundle.fit cls = true) (hnames : ∀ n ∈ names, Bundle.fit n = true)
    (hk : (Cond.classLink own ik cls).before args s = true) (hini : (Cond.initialized cls).before args s = true) (hat : ∀ w ∈ vx_at0 own ic cls names, w.before args s = true)
    (hgood : ∀ w ∈ Cond.classLink own ik cls :: Cond.initialized cls :: vx_at0 own ic cls names, vx_ot w = true)
    (hU : vx_Zq Bundle.tN "UNASSIGNED_STACK" Bundle.steD A s s.heap) (hN : vx_Zq Bundle.tN "SUPPRESSED_SENTINEL" Bundle.listD A s s.heap) (hS : va_S A s.heap H locs) (hsize : ls.size = c.maxLocals)
    (d0 : decode cc pc = .ok (.new ik, 3)) (d3 : decode cc (pc + 3) = .ok (.dup, 1)) (d4 : decode cc (pc + 4) = .ok (.invokespecial ic, 3)) (d7 : decode cc (pc + 7) = .ok (.athrow, 1))
    (hout : ∀ x ∈ c.exceptionTable.toList, covers x (pc + 7) = false)
    (hRframes : names.length + 3 < R.frames) (hRlocals : (rest.map fun v => v.category).sum + (13 * (names.length + 1) + 42) ≤ R.locals) (hRcells : cells + 1 ≤ R.cells) (hRslots : slots + 6 ≤ R.slots) (hlocks : meth.locks = false)
    (hx : ∀ t : State, s.vm.Alike t.vm → H.size ≤ t.heap.size → (∀ q : Nat, q < H.size → t.heap[q]? = H[q]?) → XC cls s t)
    (hf : ∀ z ∈ locs, free z.base) (hc : cells + 1 ≤ mc) (hs : slots + 6 ≤ ms) :
    W p l e R s m args below meth c H locs cells slots (vx_MQ below Qc XC args s mc ms free) (F0 m pc ls rest) := by
  intro T hT X
  have htr : e.platform.stackTraces = false := (show e.platform.stackTraces = l.stackTraces by rw [X.admits.platform]).trans hl
  have Y := vx_rebase X (R' := { frames := R.frames, locals := R.locals, cells := 1, slots := 6 }) (Nat.le_refl _) (Nat.le_refl _) hRcells hRslots
  obtain ⟨s', hA⟩ : ∃ z, z = (T.setVm s.vm).setFrames (.invoking m args :: below) := ⟨_, rfl⟩
  rw [← hA] at Y
  have hvm : s'.vm = s.vm := by rw [hA]; rfl
  have hhp : s'.heap = H := by rw [hA]; exact hT
  have hW0 : s.WarmedH s'.vm := by rw [hvm]; exact State.WarmedH.refl s
  have hat' : ∀ w ∈ vx_at0 own ic cls names, w.before args s' = true := fun w hw => vx_ot_at hW0 hvm.symm (hgood w (List.mem_cons_of_mem _ (List.mem_cons_of_mem _ hw))) (hat w hw)
  have hk' : (Cond.classLink own ik cls).before args s' = true := vx_ot_at hW0 hvm.symm (hgood _ List.mem_cons_self) hk
  have hini' : (Cond.initialized cls).before args s' = true := vx_ot_at hW0 hvm.symm (hgood _ (List.mem_cons_of_mem _ List.mem_cons_self)) hini
  have hU' : vx_Zq Bundle.tN "UNASSIGNED_STACK" Bundle.steD A s' s'.heap := by rw [hhp]; exact vx_Zq.moved hW0.alike (hU.kept hS.2.1)
  have hN' : vx_Zq Bundle.tN "SUPPRESSED_SENTINEL" Bundle.listD A s' s'.heap := by rw [hhp]; exact vx_Zq.moved hW0.alike (hN.kept hS.2.1)
  have h : ∀ w ∈ Bundle.ownAtoms0 own ic cls names, w.before args s' = true := vx_own hat' (vx_isRefq hU'.1) (vx_isRefq hN'.1) hU'.2.word hN'.2.word
  have hown' : s'.vm.findClass own = some m.cls := by rw [hvm]; exact hown
  have hins : (Cond.instantiable cls 6).before args s' = true := h _ (by simp [Bundle.ownAtoms0])
  obtain ⟨vm₁, cX, kX, hfX, hkX, -, -, X₁, st1⟩ := Y.newCold hexec (own := own) (C := cls) (index := ik) (n := 6) hown' hk' hins hini'
    (g := F0 m pc ls rest) rfl (by rw [hb]; exact d0) (Nat.le_refl _) (Nat.le_refl _)
  generalize hT1 : (T.setVm vm₁).pushCell { cls := cX, slots := kX.instanceTypes.map defaultValue, vm := .none } = T1 at X₁ st1
  have hcat : (Value.ref T.heap.size).category = 1 := rfl
  have hcellA : T1.heap[T.heap.size]? = some (freshCell cX kX) := by rw [← hT1]; exact State.heap_pushCell_size _ _
  have d3' : decode c.code (pc + 3) = .ok (.dup, 1) := by rw [hb]; exact d3
  obtain ⟨U, hsteps, hrun, hend, hW, hsame, ce, hce, hO⟩ := X₁.ctorThrow0 hexec htr (own := own) (cls := cls) (names := names) (ic := ic) hown' hcls hnames h (fun x hx => nomatch hx) hfX hkX hcellA (by rw [hhp, hT]; exact Nat.le_refl _)
    (g := { method := m, pc := pc + 4, locals := ls, stack := .ref T.heap.size :: .ref T.heap.size :: rest, locked := none }) rfl hsize rfl rfl (rest := rest) rfl
    (by rw [hb]; exact d4) (by rw [hb]; exact d7) hout hRframes (by simp only [List.map_cons, List.sum_cons, hcat]; omega) hlocks
  obtain ⟨f1, f2⟩ := vx_frame hsame
  rw [hhp] at f1 f2
  have hWs : s.WarmedH U.vm := State.WarmedH.trans hW0 hW
  have hcl : s.vm.findClass cls = some ce.cls := by
    have h9 := hO.cls
    rw [hvm] at h9
    exact h9
  have hall : s.sameButNew ({ U with vm := s.vm } : State) locs mc ms := by
    subst hA
    obtain ⟨e1, e2⟩ := hsame
    rw [State.setFrames_setFrames] at e1
    have h2 : (T.setVm s.vm).sameButNew ({ U with vm := s.vm } : State) [] (0 + 1) (0 + 6) := ⟨e1, e2⟩
    have h3 := X.same.trans h2
    rw [List.append_nil] at h3
    exact h3.mono hc hs
  refine ⟨U, ?_, .threw T.heap.size, hrun, hend, Or.inr ⟨T.heap.size, rfl, cls, ce, locs, hx U hWs.alike f1 (fun q hq => f2 q hq (fun z hz => nomatch hz)), hce, hO.vm, hcl, hWs, hall, hf⟩⟩
  refine st1 _ ?_
  show Steps p.tables e below (T1.setTop { method := m, pc := pc + 3, locals := ls, stack := .ref T.heap.size :: rest, locked := none }) _
  jvm_step X₁.here [X₁.here.top, hexec, d3', Value.category]
  exact hsteps
/-- 'throw new E("text")': new; dup; ldc; invokespecial; athrow -/
theorem vx_throwS {cc : ByteArray} {pc : Nat} (hexec : p.tables.exec = Jvm.exec) (hb : c.code = cc) (hl : l.stackTraces = false) {own cls text : String} {names : List String} {ik is ic mc ms sa : Nat} {A : Nat → Prop}
    (hown : s.vm.findClass own = some m.cls) (hcls : Bundle.fit cls = true) (hnames : ∀ n ∈ names, Bundle.fit n = true)
    (hk : (Cond.classLink own ik cls).before args s = true) (hini : (Cond.initialized cls).before args s = true) (hstr : vk_R own is text sa s) (hat : ∀ w ∈ vx_atS own ic cls names, w.before args s = true)
    (hgood : ∀ w ∈ Cond.classLink own ik cls :: Cond.initialized cls :: vx_atS own ic cls names, vx_ot w = true)
    (hU : vx_Zq Bundle.tN "UNASSIGNED_STACK" Bundle.steD A s s.heap) (hN : vx_Zq Bundle.tN "SUPPRESSED_SENTINEL" Bundle.listD A s s.heap) (hS : va_S A s.heap H locs) (hsize : ls.size = c.maxLocals)
    (d0 : decode cc pc = .ok (.new ik, 3)) (d3 : decode cc (pc + 3) = .ok (.dup, 1)) (d4 : decode cc (pc + 4) = .ok (.ldc is, 2)) (d6 : decode cc (pc + 6) = .ok (.invokespecial ic, 3)) (d9 : decode cc (pc + 9) = .ok (.athrow, 1))
    (hout : ∀ x ∈ c.exceptionTable.toList, covers x (pc + 9) = false)
    (hRframes : names.length + 3 < R.frames) (hRlocals : (rest.map fun v => v.category).sum + (13 * (names.length + 1) + 43) ≤ R.locals) (hRcells : cells + 1 ≤ R.cells) (hRslots : slots + 6 ≤ R.slots) (hlocks : meth.locks = false)
    (hx : ∀ t : State, s.vm.Alike t.vm → H.size ≤ t.heap.size → (∀ q : Nat, q < H.size → t.heap[q]? = H[q]?) → XC cls s t)
    (hf : ∀ z ∈ locs, free z.base) (hc : cells + 1 ≤ mc) (hs : slots + 6 ≤ ms) :
    W p l e R s m args below meth c H locs cells slots (vx_MQ below Qc XC args s mc ms free) (F0 m pc ls rest) := by
  intro T hT X
  have htr : e.platform.stackTraces = false := (show e.platform.stackTraces = l.stackTraces by rw [X.admits.platform]).trans hl
  have Y := vx_rebase X (R' := { frames := R.frames, locals := R.locals, cells := 1, slots := 6 }) (Nat.le_refl _) (Nat.le_refl _) hRcells hRslots
  obtain ⟨s', hA⟩ : ∃ z, z = (T.setVm s.vm).setFrames (.invoking m args :: below) := ⟨_, rfl⟩
  rw [← hA] at Y
  have hvm : s'.vm = s.vm := by rw [hA]; rfl
  have hhp : s'.heap = H := by rw [hA]; exact hT
  have hW0 : s.WarmedH s'.vm := by rw [hvm]; exact State.WarmedH.refl s
  have hat' : ∀ w ∈ vx_atS own ic cls names, w.before args s' = true := fun w hw => vx_ot_at hW0 hvm.symm (hgood w (List.mem_cons_of_mem _ (List.mem_cons_of_mem _ hw))) (hat w hw)
  have hk' : (Cond.classLink own ik cls).before args s' = true := vx_ot_at hW0 hvm.symm (hgood _ List.mem_cons_self) hk
  have hini' : (Cond.initialized cls).before args s' = true := vx_ot_at hW0 hvm.symm (hgood _ (List.mem_cons_of_mem _ List.mem_cons_self)) hini
  have hU' : vx_Zq Bundle.tN "UNASSIGNED_STACK" Bundle.steD A s' s'.heap := by rw [hhp]; exact vx_Zq.moved hW0.alike (hU.kept hS.2.1)
  have hN' : vx_Zq Bundle.tN "SUPPRESSED_SENTINEL" Bundle.listD A s' s'.heap := by rw [hhp]; exact vx_Zq.moved hW0.alike (hN.kept hS.2.1)
  have h : ∀ w ∈ Bundle.ownAtoms own ic cls names, w.before args s' = true := vx_own hat' (vx_isRefq hU'.1) (vx_isRefq hN'.1) hU'.2.word hN'.2.word
  have hown' : s'.vm.findClass own = some m.cls := by rw [hvm]; exact hown
  have hins : (Cond.instantiable cls 6).before args s' = true := h _ (by simp [Bundle.ownAtoms])
  obtain ⟨vm₁, cX, kX, hfX, hkX, -, -, X₁, st1⟩ := Y.newCold hexec (own := own) (C := cls) (index := ik) (n := 6) hown' hk' hins hini'
    (g := F0 m pc ls rest) rfl (by rw [hb]; exact d0) (Nat.le_refl _) (Nat.le_refl _)
  generalize hT1 : (T.setVm vm₁).pushCell { cls := cX, slots := kX.instanceTypes.map defaultValue, vm := .none } = T1 at X₁ st1
  have hcat : (Value.ref T.heap.size).category = 1 := rfl
  have hcellA : T1.heap[T.heap.size]? = some (freshCell cX kX) := by rw [← hT1]; exact State.heap_pushCell_size _ _
  have d3' : decode c.code (pc + 3) = .ok (.dup, 1) := by rw [hb]; exact d3
  have d4' : decode c.code (pc + 4) = .ok (.ldc is, 2) := by rw [hb]; exact d4
  have hstr' : vk_R own is text sa s' := vk_R.warm hW0 hstr
  obtain ⟨U, hsteps, hrun, hend, hW, hsame, ce, hce, hO⟩ := X₁.ctorThrowS hexec htr (own := own) (cls := cls) (names := names) (ic := ic) hown' hcls hnames h (fun x hx => nomatch hx) hfX hkX hcellA (by rw [hhp, hT]; exact Nat.le_refl _) (msg := .ref sa) rfl
    (g := { method := m, pc := pc + 6, locals := ls, stack := .ref sa :: .ref T.heap.size :: .ref T.heap.size :: rest, locked := none }) rfl hsize rfl rfl (rest := rest) rfl
    (by rw [hb]; exact d6) (by rw [hb]; exact d9) hout hRframes (by simp only [List.map_cons, List.sum_cons, hcat]; omega) hlocks
  obtain ⟨f1, f2⟩ := vx_frame hsame
  rw [hhp] at f1 f2
  have hWs : s.WarmedH U.vm := State.WarmedH.trans hW0 hW
  have hcl : s.vm.findClass cls = some ce.cls := by
    have h9 := hO.cls
    rw [hvm] at h9
    exact h9
  have hall : s.sameButNew ({ U with vm := s.vm } : State) locs mc ms := by
    subst hA
    obtain ⟨e1, e2⟩ := hsame
    rw [State.setFrames_setFrames] at e1
    have h2 : (T.setVm s.vm).sameButNew ({ U with vm := s.vm } : State) [] (0 + 1) (0 + 6) := ⟨e1, e2⟩
    have h3 := X.same.trans h2
    rw [List.append_nil] at h3
    exact h3.mono hc hs
  refine ⟨U, ?_, .threw T.heap.size, hrun, hend, Or.inr ⟨T.heap.size, rfl, cls, ce, locs, hx U hWs.alike f1 (fun q hq => f2 q hq (fun z hz => nomatch hz)), hce, hO.vm, hcl, hWs, hall, hf⟩⟩
  refine st1 _ ?_
  show Steps p.tables e below (T1.setTop { method := m, pc := pc + 3, locals := ls, stack := .ref T.heap.size :: rest, locked := none }) _
  jvm_step X₁.here [X₁.here.top, hexec, d3', Value.category]
  exact X₁.ldcString hexec (own := own) (text := text) (index := is) (a := sa) hown' hstr'.1 hstr'.2
    (g := { method := m, pc := pc + 4, locals := ls, stack := .ref T.heap.size :: .ref T.heap.size :: rest, locked := none }) rfl d4' _ hsteps
/-- 'throw new E("text")', the text by a wide index -/
theorem vx_throwSW {cc : ByteArray} {pc : Nat} (hexec : p.tables.exec = Jvm.exec) (hb : c.code = cc) (hl : l.stackTraces = false) {own cls text : String} {names : List String} {ik is ic mc ms sa : Nat} {A : Nat → Prop}
    (hown : s.vm.findClass own = some m.cls) (hcls : Bundle.fit cls = true) (hnames : ∀ n ∈ names, Bundle.fit n = true)
    (hk : (Cond.classLink own ik cls).before args s = true) (hini : (Cond.initialized cls).before args s = true) (hstr : vk_R own is text sa s) (hat : ∀ w ∈ vx_atS own ic cls names, w.before args s = true)
    (hgood : ∀ w ∈ Cond.classLink own ik cls :: Cond.initialized cls :: vx_atS own ic cls names, vx_ot w = true)
    (hU : vx_Zq Bundle.tN "UNASSIGNED_STACK" Bundle.steD A s s.heap) (hN : vx_Zq Bundle.tN "SUPPRESSED_SENTINEL" Bundle.listD A s s.heap) (hS : va_S A s.heap H locs) (hsize : ls.size = c.maxLocals)
    (d0 : decode cc pc = .ok (.new ik, 3)) (d3 : decode cc (pc + 3) = .ok (.dup, 1)) (d4 : decode cc (pc + 4) = .ok (.ldc_w is, 3)) (d7 : decode cc (pc + 7) = .ok (.invokespecial ic, 3)) (d10 : decode cc (pc + 10) = .ok (.athrow, 1))
    (hout : ∀ x ∈ c.exceptionTable.toList, covers x (pc + 10) = false)
    (hRframes : names.length + 3 < R.frames) (hRlocals : (rest.map fun v => v.category).sum + (13 * (names.length + 1) + 43) ≤ R.locals) (hRcells : cells + 1 ≤ R.cells) (hRslots : slots + 6 ≤ R.slots) (hlocks : meth.locks = false)
    (hx : ∀ t : State, s.vm.Alike t.vm → H.size ≤ t.heap.size → (∀ q : Nat, q < H.size → t.heap[q]? = H[q]?) → XC cls s t)
    (hf : ∀ z ∈ locs, free z.base) (hc : cells + 1 ≤ mc) (hs : slots + 6 ≤ ms) :
    W p l e R s m args below meth c H locs cells slots (vx_MQ below Qc XC args s mc ms free) (F0 m pc ls rest) := by
  intro T hT X
  have htr : e.platform.stackTraces = false := (show e.platform.stackTraces = l.stackTraces by rw [X.admits.platform]).trans hl
  have Y := vx_rebase X (R' := { frames := R.frames, locals := R.locals, cells := 1, slots := 6 }) (Nat.le_refl _) (Nat.le_refl _) hRcells hRslots
  obtain ⟨s', hA⟩ : ∃ z, z = (T.setVm s.vm).setFrames (.invoking m args :: below) := ⟨_, rfl⟩
  rw [← hA] at Y
  have hvm : s'.vm = s.vm := by rw [hA]; rfl
  have hhp : s'.heap = H := by rw [hA]; exact hT
  have hW0 : s.WarmedH s'.vm := by rw [hvm]; exact State.WarmedH.refl s
  have hat' : ∀ w ∈ vx_atS own ic cls names, w.before args s' = true := fun w hw => vx_ot_at hW0 hvm.symm (hgood w (List.mem_cons_of_mem _ (List.mem_cons_of_mem _ hw))) (hat w hw)
  have hk' : (Cond.classLink own ik cls).before args s' = true := vx_ot_at hW0 hvm.symm (hgood _ List.mem_cons_self) hk
  have hini' : (Cond.initialized cls).before args s' = true := vx_ot_at hW0 hvm.symm (hgood _ (List.mem_cons_of_mem _ List.mem_cons_self)) hini
  have hU' : vx_Zq Bundle.tN "UNASSIGNED_STACK" Bundle.steD A s' s'.heap := by rw [hhp]; exact vx_Zq.moved hW0.alike (hU.kept hS.2.1)
  have hN' : vx_Zq Bundle.tN "SUPPRESSED_SENTINEL" Bundle.listD A s' s'.heap := by rw [hhp]; exact vx_Zq.moved hW0.alike (hN.kept hS.2.1)
  have h : ∀ w ∈ Bundle.ownAtoms own ic cls names, w.before args s' = true := vx_own hat' (vx_isRefq hU'.1) (vx_isRefq hN'.1) hU'.2.word hN'.2.word
  have hown' : s'.vm.findClass own = some m.cls := by rw [hvm]; exact hown
  have hins : (Cond.instantiable cls 6).before args s' = true := h _ (by simp [Bundle.ownAtoms])
  obtain ⟨vm₁, cX, kX, hfX, hkX, -, -, X₁, st1⟩ := Y.newCold hexec (own := own) (C := cls) (index := ik) (n := 6) hown' hk' hins hini'
    (g := F0 m pc ls rest) rfl (by rw [hb]; exact d0) (Nat.le_refl _) (Nat.le_refl _)
  generalize hT1 : (T.setVm vm₁).pushCell { cls := cX, slots := kX.instanceTypes.map defaultValue, vm := .none } = T1 at X₁ st1
  have hcat : (Value.ref T.heap.size).category = 1 := rfl
  have hcellA : T1.heap[T.heap.size]? = some (freshCell cX kX) := by rw [← hT1]; exact State.heap_pushCell_size _ _
  have d3' : decode c.code (pc + 3) = .ok (.dup, 1) := by rw [hb]; exact d3
  have d4' : decode c.code (pc + 4) = .ok (.ldc_w is, 3) := by rw [hb]; exact d4
  have hstr' : vk_R own is text sa s' := vk_R.warm hW0 hstr
  obtain ⟨U, hsteps, hrun, hend, hW, hsame, ce, hce, hO⟩ := X₁.ctorThrowS hexec htr (own := own) (cls := cls) (names := names) (ic := ic) hown' hcls hnames h (fun x hx => nomatch hx) hfX hkX hcellA (by rw [hhp, hT]; exact Nat.le_refl _) (msg := .ref sa) rfl
    (g := { method := m, pc := pc + 7, locals := ls, stack := .ref sa :: .ref T.heap.size :: .ref T.heap.size :: rest, locked := none }) rfl hsize rfl rfl (rest := rest) rfl
    (by rw [hb]; exact d7) (by rw [hb]; exact d10) hout hRframes (by simp only [List.map_cons, List.sum_cons, hcat]; omega) hlocks
  obtain ⟨f1, f2⟩ := vx_frame hsame
  rw [hhp] at f1 f2
  have hWs : s.WarmedH U.vm := State.WarmedH.trans hW0 hW
  have hcl : s.vm.findClass cls = some ce.cls := by
    have h9 := hO.cls
    rw [hvm] at h9
    exact h9
  have hall : s.sameButNew ({ U with vm := s.vm } : State) locs mc ms := by
    subst hA
    obtain ⟨e1, e2⟩ := hsame
    rw [State.setFrames_setFrames] at e1
    have h2 : (T.setVm s.vm).sameButNew ({ U with vm := s.vm } : State) [] (0 + 1) (0 + 6) := ⟨e1, e2⟩
    have h3 := X.same.trans h2
    rw [List.append_nil] at h3
    exact h3.mono hc hs
  refine ⟨U, ?_, .threw T.heap.size, hrun, hend, Or.inr ⟨T.heap.size, rfl, cls, ce, locs, hx U hWs.alike f1 (fun q hq => f2 q hq (fun z hz => nomatch hz)), hce, hO.vm, hcl, hWs, hall, hf⟩⟩
  refine st1 _ ?_
  show Steps p.tables e below (T1.setTop { method := m, pc := pc + 3, locals := ls, stack := .ref T.heap.size :: rest, locked := none }) _
  jvm_step X₁.here [X₁.here.top, hexec, d3', Value.category]
  exact X₁.ldcStringW hexec (own := own) (text := text) (index := is) (a := sa) hown' hstr'.1 hstr'.2
    (g := { method := m, pc := pc + 4, locals := ls, stack := .ref T.heap.size :: .ref T.heap.size :: rest, locked := none }) rfl d4' _ hsteps
end Ends
section Bodies
variable {l : Launch}
theorem vx_ofW {y : MethodName} {ws ws' : List Cond} {rm : Room} {Pc : Array Value → State → Prop} {Qc : Array Value → State → Outcome → State → Prop} {XC : String → State → State → Prop} {mc ms : Nat} {free : Addr → Prop} {cc : ByteArray} {maxL : Nat} {ret : Option FieldType}
    (hy : plainName y.cls = true) (hw : ws = Cond.code y cc maxL ret :: ws')
    (body : ∀ p e s m args below meth c s₁, BodyLoose p l y (headSpec ws rm) cc maxL ret e s m args below meth c s₁ → c.maxLocals = maxL → (∀ x ∈ c.exceptionTable.toList, False) → Pc args s →
      W p l e (headSpec ws rm).room s m args below meth c s.heap [] 0 0 (vx_MQ below Qc XC args s mc ms free) (entryFrame m args maxL)) : vx_Met l y ws rm Pc Qc XC mc ms free := by
  refine MetFree.of_bodyS (code := cc) (maxLocals := maxL) (ret := ret) hy ?_ ?_
  · intro args s m h hn
    obtain ⟨meth, c, h1, h2, h3, h4, h5, h6, -, -⟩ := Cond.code_spec hn (atoms_spec (ws := ws) h _ (by rw [hw]; exact List.mem_cons_self))
    exact ⟨meth, c, h1, h2, h3, h4, h5, h6⟩
  · intro p e s m args below meth c s₁ B hml hP _
    have hh0 : s₁.heap = s.heap := by rw [B.state]; rfl
    have ht : ∀ x ∈ c.exceptionTable.toList, False := by
      obtain ⟨meth9, c9, h1, h2, -, -, -, -, h7, -⟩ := Cond.code_spec B.named (atoms_spec (ws := ws) B.pre _ (by rw [hw]; exact List.mem_cons_self))
      cases Option.some.inj (h1.symm.trans B.method)
      cases Option.some.inj (h2.symm.trans (Stand.of_body B).code)
      intro x hx
      rw [Array.isEmpty_iff.mp h7] at hx
      cases hx
    obtain ⟨t, a1, o, b1, b2, b3⟩ := body p e s m args below meth c s₁ B hml ht hP s₁ hh0 (Stand.of_body B)
    exact ⟨t, o, a1, b1, b2, b3⟩
/-- the table of a body with handlers -/
theorem vx_table {p : Program} {x y : MethodName} {S : Spec} {cc bytes : ByteArray} {maxL maxL' : Nat} {ret ret' : Option FieldType} {e : Env} {s s₁ : State} {m : MethodId} {args : Array Value} {below : List Frame} {meth : Method} {c : Code} {hh : List (Nat × Nat × Nat × Nat)}
    (B : BodyLoose p l y S cc maxL ret e s m args below meth c s₁) (h : (Cond.codeWith y bytes maxL' ret' hh).before args s = true) : c.exceptionTable.toList = tableOf hh := by
  obtain ⟨m9, meth9, c9, hn9, h1, h2, -, -, h6, -⟩ := Cond.codeWith_spec h
  cases Option.some.inj (hn9.symm.trans B.named)
  cases Option.some.inj (h1.symm.trans B.method)
  cases Option.some.inj (h2.symm.trans (Stand.of_body B).code)
  rw [← h6, table_eq]
end Bodies
end VXA
/-! ===== END ===== -/
/-! ===== BEGIN a static call of a method with an exception table ===== -/
section VXS
variable {p : Program} {l : Launch} {e : Env} {R : Room} {s : State} {m : MethodId} {args : Array Value} {below : List Frame} {meth : Method} {c : Code} {T : State} {H : Heap} {locs : List Loc} {cells slots : Nat}
abbrev vx_CSW (R : Room) (s : State) (args : Array Value) (own : String) (index : Nat) (y : MethodName) (bytes : ByteArray) (maxL : Nat) (ret : Option FieldType) (hh : List (Nat × Nat × Nat × Nat)) (ws : List Cond) (rm : Room) (mc ms n : Nat) : Prop :=
  (rm.cells = mc ∧ rm.slots = ms ∧ rm.frames + 1 ≤ R.frames ∧ 8 + (maxL + 11) + rm.locals ≤ R.locals ∧ (∀ w ∈ ws, ∀ (a' : Array Value) (U : State), s.WarmedH U.vm → w.before a' U = true) ∧ Cond.codeWith y bytes maxL ret hh ∈ ws) ∧
  (Cond.codeWith y bytes maxL ret hh).before args s = true ∧ (Cond.initialized y.cls).before args s = true ∧ (y.cls ≠ "java/lang/invoke/MethodHandle" ∧ y.cls ≠ "java/lang/invoke/VarHandle") ∧
  (∀ sig, parseMethodDescriptor y.desc = some sig → n = sig.parameters.length) ∧ (Cond.methodLink own index y).before args s = true ∧ (Cond.static y).before args s = true
theorem vx_cwSW {own : String} {index maxL mc ms : Nat} {y : MethodName} {bytes : ByteArray} {ret : Option FieldType} {hh : List (Nat × Nat × Nat × Nat)} {Ts ws ws' : List Cond} {rm : Room} (n : Nat) (ht : ∀ w ∈ Ts, w.before args s = true) (hT : GoodIn Ts (va_wsS own index y ws)) (hw : ws = Cond.codeWith y bytes maxL ret hh :: ws') (hrc : rm.cells = mc) (hrs : rm.slots = ms)
    (hd : y.cls ≠ "java/lang/invoke/MethodHandle" ∧ y.cls ≠ "java/lang/invoke/VarHandle" ∧ (parseMethodDescriptor y.desc).map (fun d => d.parameters.length) = some n) (hR : rm.frames + 1 ≤ R.frames ∧ 8 + (maxL + 11) + rm.locals ≤ R.locals) :
    vx_CSW R s args own index y bytes maxL ret hh ws rm mc ms n := by
  have ok : ∀ w ∈ va_wsS own index y ws, w.before args s = true := fun w h => ht w (hT w h).1
  have hG : GoodIn Ts ws := fun w h => hT w (by unfold va_wsS; exact List.mem_append_right _ h)
  have hc : Cond.codeWith y bytes maxL ret hh ∈ ws := by rw [hw]; exact List.mem_cons_self
  refine ⟨⟨hrc, hrs, hR.1, hR.2, pay_in ht hG, hc⟩, ht _ (hG _ hc).1, ok _ (by simp [va_wsS]), ⟨hd.1, hd.2.1⟩, fun sig h => ?_, ok _ (by simp [va_wsS]), ok _ (by simp [va_wsS])⟩
  have h2 := hd.2.2
  rw [h] at h2
  exact (Option.some.inj h2).symm
theorem vx_callSW (X : Stand p l e R s m args below meth c T locs cells slots) (hexec : p.tables.exec = Jvm.exec) {own : String} {index : Nat} {y : MethodName} {bytes : ByteArray} {maxL : Nat} {ret : Option FieldType} {hh : List (Nat × Nat × Nat × Nat)}
    (hown : s.vm.findClass own = some m.cls) (hlink : (Cond.methodLink own index y).before args s = true) (hstat : (Cond.static y).before args s = true) (hinit : (Cond.initialized y.cls).before args s = true)
    (hcode : (Cond.codeWith y bytes maxL ret hh).before args s = true) (hy : y.cls ≠ "java/lang/invoke/MethodHandle" ∧ y.cls ≠ "java/lang/invoke/VarHandle")
    {W9 : Nat} {Pre : Pt → Array Value → Prop} {Post : Pt → Array Value → Option Value → Pt → Prop} (hK : Back l R p e below s args y 3 W9 Pre Post)
    {g : JFrame} (hg : g.method = m) (hsize : g.locals.size = c.maxLocals) {argsL rest : List Value} (hlen : ∀ sig, parseMethodDescriptor y.desc = some sig → argsL.length = sig.parameters.length)
    (hstack : g.stack = argsL.reverse ++ rest) (hW : 2 * g.monitorRoom + (rest.map fun v => v.category).sum ≤ W9) (hdg : decode c.code g.pc = .ok (.invokestatic index, 3))
    (hpre : ∀ vm₁, s.WarmedH vm₁ → Pre ⟨T.setVm vm₁, locs, cells, slots⟩ argsL.toArray) :
    ∃ (v : Option Value) (vm₁ : Vm) (B : Pt), s.WarmedH vm₁ ∧ Stand p l e R s m args below meth c B.U B.locs B.cells B.slots ∧ Post ⟨T.setVm vm₁, locs, cells, slots⟩ argsL.toArray v B ∧
      ∀ target, Steps p.tables e below (B.U.setTop { g with pc := g.pc + 3, stack := v.toList ++ rest }) target → Steps p.tables e below (T.setTop g) target := by
  obtain ⟨mk, methM, cM, hnamed, hmethM, -, -, -, -, -, -, hsigM⟩ := Cond.codeWith_spec hcode
  have hstatic : methM.isStatic = true := Cond.static_spec hnamed hmethM hstat
  obtain ⟨kP, hkP, -⟩ := className_of_methodNamed hnamed
  have hinitP : kP.init = .initialized := Cond.initialized_spec (findClass_of_methodNamed hnamed) hkP hinit
  obtain ⟨vm₁, X₁, hstep₁⟩ := X.invokestatic hexec hown hlink hnamed hmethM hstatic hkP hinitP hy (g := g) hg (argsL := argsL) (rest := rest) (hlen _ hsigM) hstack hdg
  obtain ⟨v, B, X', hpost, hsteps⟩ := hK m meth c ⟨T.setVm vm₁, locs, cells, slots⟩ { g with stack := rest } (.invokestatic index) mk argsL.toArray X₁ hg hsize hdg hW (X₁.named hnamed) (hpre vm₁ X₁.warmed)
  exact ⟨v, vm₁, B, X₁.warmed, X', hpost, fun target h => hstep₁ _ fun acts => by rw [doInvoke_state]; exact hsteps.trans h⟩
theorem vx_runSW {y : MethodName} {bytes cc : ByteArray} {maxL nL mc ms n index : Nat} {ret : Option FieldType} {hh : List (Nat × Nat × Nat × Nat)} {ws : List Cond} {rm : Room} {Pc : Array Value → State → Prop} {Qc : Array Value → State → Outcome → State → Prop} {free : Addr → Prop} {Ts : List Cond} {own : String} {As rest : List Value} {g : JFrame}
    (S : CallFix p m c cc nL s args Ts own) (hM : Met l y ws rm Pc Qc mc ms free) (cw : vx_CSW R s args own index y bytes maxL ret hh ws rm mc ms n) (hp : PreS s H Pc As)
    (hg : g.method = m) (hn : As.length = n) (hsize : g.locals.size = nL) (hstack : g.stack = As.reverse ++ rest) (hW : 2 * g.monitorRoom + (rest.map fun v => v.category).sum ≤ 8) (hdg : decode cc g.pc = .ok (.invokestatic index, 3)) (hf : cells + mc ≤ R.cells ∧ slots + ms ≤ R.slots) :
    va_Run p l e R s m args below meth c H locs cells slots mc ms g rest (Qc As.toArray) (free) := by
  obtain ⟨⟨hrc, hrs, hfr, hlo, hws, hcw⟩, hcode, hini, hy, hlen, hl, hstt⟩ := cw
  have hK : Back l R p e below s args y 3 8 (PreOf R mc ms Pc) (PostOf Qc mc ms free) := va_backW (hh := hh) (bytes := bytes) (maxL := maxL) (ret := ret) hM hp.1 hrc hrs hfr hlo hws hcw (fun a' U hW => word_at hW (Or.inl (by first | rfl | simp [Cond.onTables, Cond.keeps, Cond.steady])) hini)
  obtain ⟨hx, hb, hml, ho, -⟩ := S
  intro T hT X
  obtain ⟨v, vm₁, ⟨U', l2, c2, s2⟩, hW₁, X', ⟨g', mk, t, L, e1, e2, hq, h1, hL, h2, h3⟩, st⟩ := vx_callSW X hx (hh := hh) (bytes := bytes) (maxL := maxL) (ret := ret) ho hl hstt hini hcode hy hK hg (hsize.trans hml.symm) (argsL := As) (rest := rest) (fun sig h => hn.trans (hlen sig h)) hstack hW (by rw [hb]; exact hdg)
    (fun vm₁ hW₁ => ⟨hf.1, hf.2, hp.2 (T.setVm vm₁) hT hW₁⟩)
  dsimp only [Pt.U, Pt.locs, Pt.cells, Pt.slots] at X' e1 e2 h1 h2 h3 st
  subst h1; subst h2; subst h3
  exact ⟨v, (T.setVm vm₁).calling g' mk As.toArray, t, U', L, hT, X', hL, e1, e2, hq, st⟩
/-- a thing of a world lies in the heap -/
theorem vx_lt {D : va_G} {cl : List vw_C} {ws : va_W} {H1 : Heap} (h : va_P D cl ws H1) {k : Nat} {q : Nat × va_E} (hk : ws[k]? = some q) : q.1 < H1.size := (h k q hk).lt
end VXS
/-! ===== END ===== -/
/-! ===== BEGIN methods with a table of their own: called by a name, returning or throwing ===== -/
section VXH
/-! vx_backW, vx_callVX, vx_callSX, vx_callVW, vx_runVW, vx_runVX, vx_runSX, vx_ofWH follow the same proofs as their sisters above (Free/Laws.lean, Shelf42/LK1.lean); vx_outP calls Shelf42/NT130.lean (outThrough). -/
section
variable {l : Launch} {R : Room} {p : Program} {e : Env} {below : List Frame} {s : State} {sargs : Array Value} {y : MethodName} {len W9 : Nat}
theorem vx_backW {ws : List Cond} {rm : Room} {Pc : Array Value → State → Prop} {Qc : Array Value → State → Outcome → State → Prop} {XC : String → State → State → Prop} {mc ms : Nat} {free : Addr → Prop} {bytes : ByteArray} {maxL : Nat} {ret : Option FieldType} {hh : List (Nat × Nat × Nat × Nat)}
    (hM : vx_Met l y ws rm Pc Qc XC mc ms free) (hblind : FrameBlind Pc) (hrc : rm.cells = mc) (hrs : rm.slots = ms)
    (hframes : rm.frames + 1 ≤ R.frames) (hlocals : W9 + (maxL + 11) + rm.locals ≤ R.locals)
    (hws : ∀ w ∈ ws, ∀ a' U, s.WarmedH U.vm → w.before a' U = true) (hcode : Cond.codeWith y bytes maxL ret hh ∈ ws) (hinit : ∀ a' U, s.WarmedH U.vm → (Cond.initialized y.cls).before a' U = true) :
    vx_Back l R p e below s sargs y len W9 (PreOf R mc ms Pc) (PostOf Qc mc ms free) (vx_Post XC mc ms free) := by
  intro m meth c A g ig mk a X hg hsize hdg hW hn hp
  have h1 : (headSpec ws rm).pre.before a A.U = true := atoms_intro fun w hw => hws w hw _ _ X.warmed
  have h2 : (Cond.codeWith y bytes maxL ret hh).before a A.U = true := hws _ hcode _ _ X.warmed
  have h3 : (Cond.initialized y.cls).before a A.U = true := hinit _ _ X.warmed
  have h4 : A.cells + (headSpec ws rm).room.cells ≤ R.cells := by rw [show (headSpec ws rm).room.cells = mc from hrc]; exact hp.1
  have h5 : A.slots + (headSpec ws rm).room.slots ≤ R.slots := by rw [show (headSpec ws rm).room.slots = ms from hrs]; exact hp.2.1
  have hPc : Pc a (A.U.calling g mk a) := hblind _ _ _ _ hp.2.2
  obtain ⟨U, Ls, c0, s0⟩ := A
  dsimp only [Pt.U, Pt.locs, Pt.cells, Pt.slots] at h1 h2 h3 h4 h5 X hn hPc ⊢
  obtain ⟨m9, methY, cY, hn9, hmY, hcY, -, hlY, -⟩ := Cond.codeWith_spec h2
  cases Option.some.inj (hn9.symm.trans hn)
  obtain ⟨kY, hkY, -⟩ := className_of_methodNamed hn
  have hinitY : kY.init = .initialized := Cond.initialized_spec (findClass_of_methodNamed hn) hkY h3
  have h : At U g.method c below := by rw [hg]; exact X.here
  have hlocals9 : W9 + (maxL + 11) + (headSpec ws rm).room.locals ≤ R.locals := hlocals
  have happ : (headSpec ws rm).appliesLoose y e.platform (U.calling g mk a) = true :=
    Spec.appliesLoose_calling (g := g) h hdg hn hkY hinitY
      (X.room_calling (g := g) (R' := (headSpec ws rm).room) hsize hmY hcY hframes (by rw [hlY]; omega) h4 h5) h1
  obtain ⟨mid, hmid⟩ := h.above
  have hfr : (U.setTop g).frames = (.java g :: mid) ++ below := by rw [State.frames_setTop' g h.top, hmid]; rfl
  obtain ⟨o, s₂, hsteps, -, hend, hq⟩ := Steps.callFree hM p X.admits X.cas X.clock (acts := []) hfr happ hPc trivial
  have hq' : vx_Q Qc XC mc ms free a (U.calling g mk a) o s₂ := hq
  rw [State.frames_setTop' g h.top] at hend
  obtain ⟨g₀, hg0⟩ := Option.isSome_iff_exists.mp h.top
  obtain ⟨r, hr⟩ := State.topJava?_eq_some.mp hg0
  have hr' : (({ U with heap := s₂.heap, slotsUsed := s₂.slotsUsed } : State).setVm s₂.vm).frames = .java g₀ :: r := hr
  rcases hq' with ⟨hqc, L, hfe, hL⟩ | ⟨q, rfl, E, ce, L, hx, hce, hcv, hcl, hW₂, hsm, hL⟩
  · obtain ⟨⟨v, rfl⟩, hW₂, e2, q2, q3, q4, q5, q6⟩ := id hfe
    have e3 : s₂ = ({ (U.calling g mk a).setFrames s₂.frames with heap := s₂.heap, slotsUsed := s₂.slotsUsed } : State).setVm s₂.vm := by
      have : s₂ = ({ s₂ with vm := (U.calling g mk a).vm } : State).setVm s₂.vm := rfl
      rw [e2] at this
      exact this
    obtain ⟨c₂, i₂, len₂, hc₂, hd₂, hf₂⟩ := hend
    have hW' : U.WarmedH s₂.vm := hW₂
    have hcc : c₂ = c := by
      have h1 : s₂.code? g.method = U.code? g.method := by
        rw [State.code?_eq, State.code?_eq, hW'.alike.method?]
      exact Option.some.inj (hc₂.symm.trans (h1.trans h.code))
    subst hcc
    have hlen : len₂ = len := by rw [hdg] at hd₂; cases hd₂; rfl
    subst hlen
    have hs₂ : s₂ = (({ U with heap := s₂.heap, slotsUsed := s₂.slotsUsed } : State).setVm s₂.vm).setTop { g with pc := g.pc + len₂, stack := v.toList ++ g.stack } := by
      refine e3.trans ?_
      rw [hf₂, State.calling_eq h.top, State.setFrames_setFrames, State.setTop_of_frames _ hr', hr]
      rfl
    have hsame : U.sameButNew ({ U with heap := s₂.heap, slotsUsed := s₂.slotsUsed } : State) L mc ms := by
      refine ⟨?_, q2, q3, q4, q5, q6⟩
      obtain ⟨t, ht, -⟩ := State.frames_cons hr
      show ({ U with heap := s₂.heap, slotsUsed := s₂.slotsUsed } : State) = { U.setFrames U.frames with heap := s₂.heap, slotsUsed := s₂.slotsUsed }
      rw [State.setFrames_self ht]
    subst hg
    refine Or.inl ⟨v, ⟨(({ U with heap := s₂.heap, slotsUsed := s₂.slotsUsed } : State).setVm s₂.vm), Ls ++ L, c0 + mc, s0 + ms⟩,
      ⟨X.admits, X.cas, X.clock, X.frames, X.room, X.hears, X.method, X.code, (X.here.setHeapUsed s₂.heap s₂.slotsUsed).setVm hW'.alike, X.tail, State.WarmedH.trans X.warmed hW', X.limits, X.bytes, X.same.trans (hsame.setVm s.vm)⟩,
      ⟨g, mk, s₂, L, rfl, rfl, hqc, rfl, hL, rfl, rfl⟩, ?_⟩
    show Steps p.tables e below _ ((({ U with heap := s₂.heap, slotsUsed := s₂.slotsUsed } : State).setVm s₂.vm).setTop { g with pc := g.pc + len₂, stack := v.toList ++ g.stack })
    rw [← hs₂]
    exact hsteps
  · obtain ⟨e2, q2, q3, q4, q5, q6⟩ := id hsm
    have e3 : s₂ = ({ (U.calling g mk a).setFrames s₂.frames with heap := s₂.heap, slotsUsed := s₂.slotsUsed } : State).setVm s₂.vm := by
      have : s₂ = ({ s₂ with vm := (U.calling g mk a).vm } : State).setVm s₂.vm := rfl
      rw [e2] at this
      exact this
    have hf₂ : s₂.frames = .throwing q :: .java g :: U.frames.tail := hend
    have hW' : U.WarmedH s₂.vm := hW₂
    have hs₂ : s₂ = ((({ U with heap := s₂.heap, slotsUsed := s₂.slotsUsed } : State).setVm s₂.vm).setTop g).pushFrame (.throwing q) := by
      refine e3.trans ?_
      rw [hf₂, State.calling_eq h.top, State.setFrames_setFrames, State.pushFrame, State.frames_setTop _ hr', State.setTop_of_frames _ hr', State.setFrames_setFrames, hr]
      rfl
    have hsame : U.sameButNew ({ U with heap := s₂.heap, slotsUsed := s₂.slotsUsed } : State) L mc ms := by
      refine ⟨?_, q2, q3, q4, q5, q6⟩
      obtain ⟨t, ht, -⟩ := State.frames_cons hr
      show ({ U with heap := s₂.heap, slotsUsed := s₂.slotsUsed } : State) = { U.setFrames U.frames with heap := s₂.heap, slotsUsed := s₂.slotsUsed }
      rw [State.setFrames_self ht]
    subst hg
    refine Or.inr ⟨q, ⟨(({ U with heap := s₂.heap, slotsUsed := s₂.slotsUsed } : State).setVm s₂.vm), Ls ++ L, c0 + mc, s0 + ms⟩,
      ⟨X.admits, X.cas, X.clock, X.frames, X.room, X.hears, X.method, X.code, (X.here.setHeapUsed s₂.heap s₂.slotsUsed).setVm hW'.alike, X.tail, State.WarmedH.trans X.warmed hW', X.limits, X.bytes, X.same.trans (hsame.setVm s.vm)⟩,
      ⟨g, mk, s₂, L, E, ce, rfl, rfl, hx, hce, hcv, hcl, rfl, hL, rfl, rfl⟩, ?_⟩
    show Steps p.tables e below _ (((({ U with heap := s₂.heap, slotsUsed := s₂.slotsUsed } : State).setVm s₂.vm).setTop g).pushFrame (.throwing q))
    rw [← hs₂]
    exact hsteps
end
variable {p : Program} {l : Launch} {e : Env} {R : Room} {s : State} {m : MethodId} {args : Array Value} {below : List Frame} {meth : Method} {c : Code} {T : State} {H : Heap} {locs : List Loc} {cells slots : Nat}
theorem vx_callVX (X : Stand p l e R s m args below meth c T locs cells slots) (hexec : p.tables.exec = Jvm.exec) {own C : String} {index : Nat} {y : MethodName} {bytes : ByteArray} {maxL : Nat} {ret : Option FieldType} {hh : List (Nat × Nat × Nat × Nat)}
    (hown : s.vm.findClass own = some m.cls) (hlink : (Cond.methodLink own index y).before args s = true) (hinst : (Cond.instanceMethod y).before args s = true) (hsel : (Cond.selects C y y).before args s = true)
    (hcode : (Cond.codeWith y bytes maxL ret hh).before args s = true) (hy : y.cls ≠ "java/lang/invoke/MethodHandle" ∧ y.cls ≠ "java/lang/invoke/VarHandle")
    {W9 : Nat} {Pre : Pt → Array Value → Prop} {Post : Pt → Array Value → Option Value → Pt → Prop} {PostX : Pt → Array Value → Addr → Pt → Prop} (hK : vx_Back l R p e below s args y 3 W9 Pre Post PostX)
    {b : Addr} {cellB : Cell} (hcell : T.heap[b]? = some cellB) (hobj : cellB.vm.isStatics = false) (hcls : s.vm.findClass C = some cellB.cls)
    {g : JFrame} (hg : g.method = m) (hsize : g.locals.size = c.maxLocals) {argsL rest : List Value} (hlen : ∀ sig, parseMethodDescriptor y.desc = some sig → argsL.length = sig.parameters.length)
    (hstack : g.stack = argsL.reverse ++ .ref b :: rest) (hW : 2 * g.monitorRoom + (rest.map fun v => v.category).sum ≤ W9) (hdg : decode c.code g.pc = .ok (.invokevirtual index, 3))
    (hpre : ∀ vm₁, s.WarmedH vm₁ → Pre ⟨T.setVm vm₁, locs, cells, slots⟩ (Value.ref b :: argsL).toArray) :
    (∃ (v : Option Value) (vm₁ : Vm) (B : Pt), s.WarmedH vm₁ ∧ Stand p l e R s m args below meth c B.U B.locs B.cells B.slots ∧ Post ⟨T.setVm vm₁, locs, cells, slots⟩ (Value.ref b :: argsL).toArray v B ∧
      ∀ target, Steps p.tables e below (B.U.setTop { g with pc := g.pc + 3, stack := v.toList ++ rest }) target → Steps p.tables e below (T.setTop g) target) ∨
    (∃ (q : Addr) (vm₁ : Vm) (B : Pt), s.WarmedH vm₁ ∧ Stand p l e R s m args below meth c B.U B.locs B.cells B.slots ∧ PostX ⟨T.setVm vm₁, locs, cells, slots⟩ (Value.ref b :: argsL).toArray q B ∧
      Steps p.tables e below (T.setTop g) ((B.U.setTop { g with stack := rest }).pushFrame (.throwing q))) := by
  obtain ⟨mk, methM, hnamed, hmethM, hstM, habM⟩ := Cond.instanceMethod_spec hinst
  obtain ⟨m8, methM', cM, hn8, hmethM', -, -, -, -, -, -, hsigM⟩ := Cond.codeWith_spec hcode
  cases Option.some.inj (hn8.symm.trans hnamed)
  cases hmethM.symm.trans hmethM'
  obtain ⟨c2, r2, m2, q1, q2, q3, q4, kP, hkP, hkPi⟩ := Cond.selects_spec hsel
  cases hcls.symm.trans q1
  cases (State.methodFound?_of_named hnamed hy).symm.trans q2
  cases hnamed.symm.trans q3
  have hselP : selectMethod e.platform s.vm cellB.cls mk = .method mk := by rw [Launch.admits_selectMethod X.admits]; exact q4
  obtain ⟨vm₁, X₁, hstep₁⟩ := X.invokevirtual hexec hown hlink hnamed hmethM hstM hkP hkPi hy (a := b) (cell := cellB) hcell
    (fun z h => by rw [h] at hobj; cases hobj) hselP hmethM habM hkP hkPi (g := g) hg (argsL := argsL) (rest := rest) (hlen _ hsigM) hstack hdg
  rcases hK m meth c ⟨T.setVm vm₁, locs, cells, slots⟩ { g with stack := rest } (.invokevirtual index) mk (Value.ref b :: argsL).toArray X₁ hg hsize hdg hW (X₁.named hnamed) (hpre vm₁ X₁.warmed) with ⟨v, B, X', hpost, hsteps⟩ | ⟨q, B, X', hpost, hsteps⟩
  · exact Or.inl ⟨v, vm₁, B, X₁.warmed, X', hpost, fun target h => hstep₁ _ fun acts => by rw [doInvoke_state]; exact hsteps.trans h⟩
  · exact Or.inr ⟨q, vm₁, B, X₁.warmed, X', hpost, hstep₁ _ fun acts => by rw [doInvoke_state]; exact hsteps⟩
theorem vx_callSX (X : Stand p l e R s m args below meth c T locs cells slots) (hexec : p.tables.exec = Jvm.exec) {own : String} {index : Nat} {y : MethodName} {bytes : ByteArray} {maxL : Nat} {ret : Option FieldType} {hh : List (Nat × Nat × Nat × Nat)}
    (hown : s.vm.findClass own = some m.cls) (hlink : (Cond.methodLink own index y).before args s = true) (hstat : (Cond.static y).before args s = true) (hinit : (Cond.initialized y.cls).before args s = true)
    (hcode : (Cond.codeWith y bytes maxL ret hh).before args s = true) (hy : y.cls ≠ "java/lang/invoke/MethodHandle" ∧ y.cls ≠ "java/lang/invoke/VarHandle")
    {W9 : Nat} {Pre : Pt → Array Value → Prop} {Post : Pt → Array Value → Option Value → Pt → Prop} {PostX : Pt → Array Value → Addr → Pt → Prop} (hK : vx_Back l R p e below s args y 3 W9 Pre Post PostX)
    {g : JFrame} (hg : g.method = m) (hsize : g.locals.size = c.maxLocals) {argsL rest : List Value} (hlen : ∀ sig, parseMethodDescriptor y.desc = some sig → argsL.length = sig.parameters.length)
    (hstack : g.stack = argsL.reverse ++ rest) (hW : 2 * g.monitorRoom + (rest.map fun v => v.category).sum ≤ W9) (hdg : decode c.code g.pc = .ok (.invokestatic index, 3))
    (hpre : ∀ vm₁, s.WarmedH vm₁ → Pre ⟨T.setVm vm₁, locs, cells, slots⟩ argsL.toArray) :
    (∃ (v : Option Value) (vm₁ : Vm) (B : Pt), s.WarmedH vm₁ ∧ Stand p l e R s m args below meth c B.U B.locs B.cells B.slots ∧ Post ⟨T.setVm vm₁, locs, cells, slots⟩ argsL.toArray v B ∧
      ∀ target, Steps p.tables e below (B.U.setTop { g with pc := g.pc + 3, stack := v.toList ++ rest }) target → Steps p.tables e below (T.setTop g) target) ∨
    (∃ (q : Addr) (vm₁ : Vm) (B : Pt), s.WarmedH vm₁ ∧ Stand p l e R s m args below meth c B.U B.locs B.cells B.slots ∧ PostX ⟨T.setVm vm₁, locs, cells, slots⟩ argsL.toArray q B ∧
      Steps p.tables e below (T.setTop g) ((B.U.setTop { g with stack := rest }).pushFrame (.throwing q))) := by
  obtain ⟨mk, methM, cM, hnamed, hmethM, -, -, -, -, -, -, hsigM⟩ := Cond.codeWith_spec hcode
  have hstatic : methM.isStatic = true := Cond.static_spec hnamed hmethM hstat
  obtain ⟨kP, hkP, -⟩ := className_of_methodNamed hnamed
  have hinitP : kP.init = .initialized := Cond.initialized_spec (findClass_of_methodNamed hnamed) hkP hinit
  obtain ⟨vm₁, X₁, hstep₁⟩ := X.invokestatic hexec hown hlink hnamed hmethM hstatic hkP hinitP hy (g := g) hg (argsL := argsL) (rest := rest) (hlen _ hsigM) hstack hdg
  rcases hK m meth c ⟨T.setVm vm₁, locs, cells, slots⟩ { g with stack := rest } (.invokestatic index) mk argsL.toArray X₁ hg hsize hdg hW (X₁.named hnamed) (hpre vm₁ X₁.warmed) with ⟨v, B, X', hpost, hsteps⟩ | ⟨q, B, X', hpost, hsteps⟩
  · exact Or.inl ⟨v, vm₁, B, X₁.warmed, X', hpost, fun target h => hstep₁ _ fun acts => by rw [doInvoke_state]; exact hsteps.trans h⟩
  · exact Or.inr ⟨q, vm₁, B, X₁.warmed, X', hpost, hstep₁ _ fun acts => by rw [doInvoke_state]; exact hsteps⟩
theorem vx_callVW (X : Stand p l e R s m args below meth c T locs cells slots) (hexec : p.tables.exec = Jvm.exec) {own C : String} {index : Nat} {y : MethodName} {bytes : ByteArray} {maxL : Nat} {ret : Option FieldType} {hh : List (Nat × Nat × Nat × Nat)}
    (hown : s.vm.findClass own = some m.cls) (hlink : (Cond.methodLink own index y).before args s = true) (hinst : (Cond.instanceMethod y).before args s = true) (hsel : (Cond.selects C y y).before args s = true)
    (hcode : (Cond.codeWith y bytes maxL ret hh).before args s = true) (hy : y.cls ≠ "java/lang/invoke/MethodHandle" ∧ y.cls ≠ "java/lang/invoke/VarHandle")
    {W9 : Nat} {Pre : Pt → Array Value → Prop} {Post : Pt → Array Value → Option Value → Pt → Prop} (hK : Back l R p e below s args y 3 W9 Pre Post)
    {b : Addr} {cellB : Cell} (hcell : T.heap[b]? = some cellB) (hobj : cellB.vm.isStatics = false) (hcls : s.vm.findClass C = some cellB.cls)
    {g : JFrame} (hg : g.method = m) (hsize : g.locals.size = c.maxLocals) {argsL rest : List Value} (hlen : ∀ sig, parseMethodDescriptor y.desc = some sig → argsL.length = sig.parameters.length)
    (hstack : g.stack = argsL.reverse ++ .ref b :: rest) (hW : 2 * g.monitorRoom + (rest.map fun v => v.category).sum ≤ W9) (hdg : decode c.code g.pc = .ok (.invokevirtual index, 3))
    (hpre : ∀ vm₁, s.WarmedH vm₁ → Pre ⟨T.setVm vm₁, locs, cells, slots⟩ (Value.ref b :: argsL).toArray) :
    ∃ (v : Option Value) (vm₁ : Vm) (B : Pt), s.WarmedH vm₁ ∧ Stand p l e R s m args below meth c B.U B.locs B.cells B.slots ∧ Post ⟨T.setVm vm₁, locs, cells, slots⟩ (Value.ref b :: argsL).toArray v B ∧
      ∀ target, Steps p.tables e below (B.U.setTop { g with pc := g.pc + 3, stack := v.toList ++ rest }) target → Steps p.tables e below (T.setTop g) target := by
  obtain ⟨mk, methM, hnamed, hmethM, hstM, habM⟩ := Cond.instanceMethod_spec hinst
  obtain ⟨m8, methM', cM, hn8, hmethM', -, -, -, -, -, -, hsigM⟩ := Cond.codeWith_spec hcode
  cases Option.some.inj (hn8.symm.trans hnamed)
  cases hmethM.symm.trans hmethM'
  obtain ⟨c2, r2, m2, q1, q2, q3, q4, kP, hkP, hkPi⟩ := Cond.selects_spec hsel
  cases hcls.symm.trans q1
  cases (State.methodFound?_of_named hnamed hy).symm.trans q2
  cases hnamed.symm.trans q3
  have hselP : selectMethod e.platform s.vm cellB.cls mk = .method mk := by rw [Launch.admits_selectMethod X.admits]; exact q4
  obtain ⟨vm₁, X₁, hstep₁⟩ := X.invokevirtual hexec hown hlink hnamed hmethM hstM hkP hkPi hy (a := b) (cell := cellB) hcell
    (fun z h => by rw [h] at hobj; cases hobj) hselP hmethM habM hkP hkPi (g := g) hg (argsL := argsL) (rest := rest) (hlen _ hsigM) hstack hdg
  obtain ⟨v, B, X', hpost, hsteps⟩ := hK m meth c ⟨T.setVm vm₁, locs, cells, slots⟩ { g with stack := rest } (.invokevirtual index) mk (Value.ref b :: argsL).toArray X₁ hg hsize hdg hW (X₁.named hnamed) (hpre vm₁ X₁.warmed)
  exact ⟨v, vm₁, B, X₁.warmed, X', hpost, fun target h => hstep₁ _ fun acts => by rw [doInvoke_state]; exact hsteps.trans h⟩
abbrev vx_CVW (R : Room) (s : State) (args : Array Value) (own C : String) (index : Nat) (y : MethodName) (bytes : ByteArray) (maxL : Nat) (ret : Option FieldType) (hh : List (Nat × Nat × Nat × Nat)) (ws : List Cond) (rm : Room) (mc ms n : Nat) : Prop :=
  (rm.cells = mc ∧ rm.slots = ms ∧ rm.frames + 1 ≤ R.frames ∧ 8 + (maxL + 11) + rm.locals ≤ R.locals ∧ (∀ w ∈ ws, ∀ (a' : Array Value) (U : State), s.WarmedH U.vm → w.before a' U = true) ∧ Cond.codeWith y bytes maxL ret hh ∈ ws) ∧
  (Cond.codeWith y bytes maxL ret hh).before args s = true ∧ (Cond.initialized y.cls).before args s = true ∧ (y.cls ≠ "java/lang/invoke/MethodHandle" ∧ y.cls ≠ "java/lang/invoke/VarHandle") ∧
  (∀ sig, parseMethodDescriptor y.desc = some sig → n = sig.parameters.length) ∧ (Cond.methodLink own index y).before args s = true ∧ (Cond.instanceMethod y).before args s = true ∧ (Cond.selects C y y).before args s = true
theorem vx_cwVW {own C : String} {index maxL mc ms : Nat} {y : MethodName} {bytes : ByteArray} {ret : Option FieldType} {hh : List (Nat × Nat × Nat × Nat)} {Ts ws ws' : List Cond} {rm : Room} (n : Nat) (ht : ∀ w ∈ Ts, w.before args s = true) (hT : GoodIn Ts (wsV own index C y ws)) (hw : ws = Cond.codeWith y bytes maxL ret hh :: ws') (hrc : rm.cells = mc) (hrs : rm.slots = ms)
    (hd : y.cls = C ∧ y.cls ≠ "java/lang/invoke/MethodHandle" ∧ y.cls ≠ "java/lang/invoke/VarHandle" ∧ (parseMethodDescriptor y.desc).map (fun d => d.parameters.length) = some n) (hR : rm.frames + 1 ≤ R.frames ∧ 8 + (maxL + 11) + rm.locals ≤ R.locals) :
    vx_CVW R s args own C index y bytes maxL ret hh ws rm mc ms n := by
  obtain ⟨hC, hd⟩ := hd
  subst hC
  have ok : ∀ w ∈ wsV own index y.cls y ws, w.before args s = true := fun w h => ht w (hT w h).1
  have hG : GoodIn Ts ws := fun w h => hT w (by unfold wsV; exact List.mem_append_right _ h)
  have hc : Cond.codeWith y bytes maxL ret hh ∈ ws := by rw [hw]; exact List.mem_cons_self
  refine ⟨⟨hrc, hrs, hR.1, hR.2, pay_in ht hG, hc⟩, ht _ (hG _ hc).1, ok _ (by simp [wsV]), ⟨hd.1, hd.2.1⟩, fun sig h => ?_, ok _ (by simp [wsV]), ok _ (by simp [wsV]), ok _ (by simp [wsV])⟩
  have h2 := hd.2.2
  rw [h] at h2
  exact (Option.some.inj h2).symm
theorem vx_runVW {y : MethodName} {bytes cc : ByteArray} {maxL nL mc ms n index : Nat} {ret : Option FieldType} {hh : List (Nat × Nat × Nat × Nat)} {ws : List Cond} {rm : Room} {Pc : Array Value → State → Prop} {Qc : Array Value → State → Outcome → State → Prop} {free : Addr → Prop} {Ts : List Cond} {own C : String} {b : Addr} {As rest : List Value} {g : JFrame}
    (S : CallFix p m c cc nL s args Ts own) (hM : Met l y ws rm Pc Qc mc ms free) (cw : vx_CVW R s args own C index y bytes maxL ret hh ws rm mc ms n) (hp : PreV s H C b Pc As)
    (hg : g.method = m) (hn : As.length = n) (hsize : g.locals.size = nL) (hstack : g.stack = As.reverse ++ .ref b :: rest) (hW : 2 * g.monitorRoom + (rest.map fun v => v.category).sum ≤ 8) (hdg : decode cc g.pc = .ok (.invokevirtual index, 3)) (hf : cells + mc ≤ R.cells ∧ slots + ms ≤ R.slots) :
    va_Run p l e R s m args below meth c H locs cells slots mc ms g rest (Qc (Value.ref b :: As).toArray) free := by
  obtain ⟨⟨hrc, hrs, hfr, hlo, hws, hcw⟩, hcode, hini, hy, hlen, hl, hin, hse⟩ := cw
  have hK : Back l R p e below s args y 3 8 (PreOf R mc ms Pc) (PostOf Qc mc ms free) := va_backW (hh := hh) (bytes := bytes) (maxL := maxL) (ret := ret) hM hp.1 hrc hrs hfr hlo hws hcw (fun a' U hW => word_at hW (Or.inl (by first | rfl | simp [Cond.onTables, Cond.keeps, Cond.steady])) hini)
  obtain ⟨hx, hb, hml, ho, -⟩ := S
  obtain ⟨-, ⟨cellB, hcB, hoB, hclB⟩, hPc⟩ := hp
  intro T hT X
  obtain ⟨v, vm₁, ⟨U', l2, c2, s2⟩, hW₁, X', ⟨g', mk, t, L, e1, e2, hq, h1, hL, h2, h3⟩, st⟩ := vx_callVW X hx (C := C) (hh := hh) (bytes := bytes) (maxL := maxL) (ret := ret) ho hl hin hse hcode hy hK (by rw [hT]; exact hcB) hoB hclB hg (hsize.trans hml.symm) (argsL := As) (rest := rest) (fun sig h => hn.trans (hlen sig h)) hstack hW (by rw [hb]; exact hdg)
    (fun vm₁ hW₁ => ⟨hf.1, hf.2, hPc (T.setVm vm₁) hT hW₁⟩)
  dsimp only [Pt.U, Pt.locs, Pt.cells, Pt.slots] at X' e1 e2 h1 h2 h3 st
  subst h1; subst h2; subst h3
  exact ⟨v, (T.setVm vm₁).calling g' mk (Value.ref b :: As).toArray, t, U', L, hT, X', hL, e1, e2, hq, st⟩
section
variable {y : MethodName} {bytes cc : ByteArray} {maxL nL mc ms n index : Nat} {ret : Option FieldType} {ws : List Cond} {rm : Room} {Pc : Array Value → State → Prop} {Qc : Array Value → State → Outcome → State → Prop} {XC : String → State → State → Prop} {free : Addr → Prop} {Ts : List Cond} {own C : String} {b : Addr} {As rest : List Value} {g : JFrame}
theorem vx_runVX {hh : List (Nat × Nat × Nat × Nat)} (S : CallFix p m c cc nL s args Ts own) (hM : vx_Met l y ws rm Pc Qc XC mc ms free) (cw : vx_CVW R s args own C index y bytes maxL ret hh ws rm mc ms n) (hp : PreV s H C b Pc As)
    (hg : g.method = m) (hn : As.length = n) (hsize : g.locals.size = nL) (hstack : g.stack = As.reverse ++ .ref b :: rest) (hW : 2 * g.monitorRoom + (rest.map fun v => v.category).sum ≤ 8) (hdg : decode cc g.pc = .ok (.invokevirtual index, 3)) (hf : cells + mc ≤ R.cells ∧ slots + ms ≤ R.slots) :
    vx_Run p l e R s m args below meth c H locs cells slots mc ms g rest (Qc (Value.ref b :: As).toArray) XC free := by
  obtain ⟨⟨hrc, hrs, hfr, hlo, hws, hcw⟩, hcode, hini, hy, hlen, hl, hin, hse⟩ := cw
  have hK : vx_Back l R p e below s args y 3 8 (PreOf R mc ms Pc) (PostOf Qc mc ms free) (vx_Post XC mc ms free) := vx_backW (hh := hh) (bytes := bytes) (maxL := maxL) (ret := ret) hM hp.1 hrc hrs hfr hlo hws hcw (fun a' U hW => word_at hW (Or.inl (by first | rfl | simp [Cond.onTables, Cond.keeps, Cond.steady])) hini)
  obtain ⟨hx, hb, hml, ho, -⟩ := S
  obtain ⟨-, ⟨cellB, hcB, hoB, hclB⟩, hPc⟩ := hp
  intro T hT X
  rcases vx_callVX X hx (C := C) (hh := hh) (bytes := bytes) (maxL := maxL) (ret := ret) ho hl hin hse hcode hy hK (by rw [hT]; exact hcB) hoB hclB hg (hsize.trans hml.symm) (argsL := As) (rest := rest) (fun sig h => hn.trans (hlen sig h)) hstack hW (by rw [hb]; exact hdg)
    (fun vm₁ hW₁ => ⟨hf.1, hf.2, hPc (T.setVm vm₁) hT hW₁⟩) with ⟨v, vm₁, ⟨U', l2, c2, s2⟩, hW₁, X', ⟨g', mk, t, L, e1, e2, hq, h1, hL, h2, h3⟩, st⟩ | ⟨q, vm₁, ⟨U', l2, c2, s2⟩, hW₁, X', ⟨g', mk, t, L, E, ce, e1, e2, hq, hce, hcv, hcl, h1, hL, h2, h3⟩, st⟩
  · dsimp only [Pt.U, Pt.locs, Pt.cells, Pt.slots] at X' e1 e2 h1 h2 h3 st
    subst h1; subst h2; subst h3
    exact Or.inl ⟨v, (T.setVm vm₁).calling g' mk (Value.ref b :: As).toArray, t, U', L, hT, X', hL, e1, e2, hq, st⟩
  · dsimp only [Pt.U, Pt.locs, Pt.cells, Pt.slots] at X' e1 e2 h1 h2 h3 st hcl
    subst h1; subst h2; subst h3
    exact Or.inr ⟨q, (T.setVm vm₁).calling g' mk (Value.ref b :: As).toArray, t, U', L, E, ce, hT, X', hL, e1, e2, hq, hce, hcv, vx_cls hW₁ hcl, st⟩
theorem vx_runSX {hh : List (Nat × Nat × Nat × Nat)} (S : CallFix p m c cc nL s args Ts own) (hM : vx_Met l y ws rm Pc Qc XC mc ms free) (cw : vx_CSW R s args own index y bytes maxL ret hh ws rm mc ms n) (hp : PreS s H Pc As)
    (hg : g.method = m) (hn : As.length = n) (hsize : g.locals.size = nL) (hstack : g.stack = As.reverse ++ rest) (hW : 2 * g.monitorRoom + (rest.map fun v => v.category).sum ≤ 8) (hdg : decode cc g.pc = .ok (.invokestatic index, 3)) (hf : cells + mc ≤ R.cells ∧ slots + ms ≤ R.slots) :
    vx_Run p l e R s m args below meth c H locs cells slots mc ms g rest (Qc As.toArray) XC free := by
  obtain ⟨⟨hrc, hrs, hfr, hlo, hws, hcw⟩, hcode, hini, hy, hlen, hl, hstt⟩ := cw
  have hK : vx_Back l R p e below s args y 3 8 (PreOf R mc ms Pc) (PostOf Qc mc ms free) (vx_Post XC mc ms free) := vx_backW (hh := hh) (bytes := bytes) (maxL := maxL) (ret := ret) hM hp.1 hrc hrs hfr hlo hws hcw (fun a' U hW => word_at hW (Or.inl (by first | rfl | simp [Cond.onTables, Cond.keeps, Cond.steady])) hini)
  obtain ⟨hx, hb, hml, ho, -⟩ := S
  intro T hT X
  rcases vx_callSX X hx (hh := hh) (bytes := bytes) (maxL := maxL) (ret := ret) ho hl hstt hini hcode hy hK hg (hsize.trans hml.symm) (argsL := As) (rest := rest) (fun sig h => hn.trans (hlen sig h)) hstack hW (by rw [hb]; exact hdg)
    (fun vm₁ hW₁ => ⟨hf.1, hf.2, hp.2 (T.setVm vm₁) hT hW₁⟩) with ⟨v, vm₁, ⟨U', l2, c2, s2⟩, hW₁, X', ⟨g', mk, t, L, e1, e2, hq, h1, hL, h2, h3⟩, st⟩ | ⟨q, vm₁, ⟨U', l2, c2, s2⟩, hW₁, X', ⟨g', mk, t, L, E, ce, e1, e2, hq, hce, hcv, hcl, h1, hL, h2, h3⟩, st⟩
  · dsimp only [Pt.U, Pt.locs, Pt.cells, Pt.slots] at X' e1 e2 h1 h2 h3 st
    subst h1; subst h2; subst h3
    exact Or.inl ⟨v, (T.setVm vm₁).calling g' mk As.toArray, t, U', L, hT, X', hL, e1, e2, hq, st⟩
  · dsimp only [Pt.U, Pt.locs, Pt.cells, Pt.slots] at X' e1 e2 h1 h2 h3 st hcl
    subst h1; subst h2; subst h3
    exact Or.inr ⟨q, (T.setVm vm₁).calling g' mk As.toArray, t, U', L, E, ce, hT, X', hL, e1, e2, hq, hce, hcv, vx_cls hW₁ hcl, st⟩
end
end VXH
theorem vx_ofWH {l : Launch} {y : MethodName} {ws ws' : List Cond} {rm : Room} {Pc : Array Value → State → Prop} {Qc : Array Value → State → Outcome → State → Prop} {XC : String → State → State → Prop} {mc ms : Nat} {free : Addr → Prop} {cc : ByteArray} {maxL : Nat} {ret : Option FieldType} {hh : List (Nat × Nat × Nat × Nat)}
    (hy : plainName y.cls = true) (hw : ws = Cond.codeWith y cc maxL ret hh :: ws')
    (body : ∀ p e s m args below meth c s₁, BodyLoose p l y (headSpec ws rm) cc maxL ret e s m args below meth c s₁ → c.maxLocals = maxL → Pc args s →
      W p l e (headSpec ws rm).room s m args below meth c s.heap [] 0 0 (vx_MQ below Qc XC args s mc ms free) (entryFrame m args maxL)) : vx_Met l y ws rm Pc Qc XC mc ms free := by
  refine MetFree.of_bodyS (code := cc) (maxLocals := maxL) (ret := ret) hy ?_ ?_
  · intro args s m h hn
    obtain ⟨m9, meth, c, hn9, h1, h2, h3, h4, -, h5, h6, -⟩ := Cond.codeWith_spec (atoms_spec (ws := ws) h _ (by rw [hw]; exact List.mem_cons_self))
    cases hn.symm.trans hn9
    exact ⟨meth, c, h1, h2, h3, h4, h5, h6⟩
  · intro p e s m args below meth c s₁ B hml hP _
    have hh0 : s₁.heap = s.heap := by rw [B.state]; rfl
    obtain ⟨t, a1, o, b1, b2, b3⟩ := body p e s m args below meth c s₁ B hml hP s₁ hh0 (Stand.of_body B)
    exact ⟨t, o, a1, b1, b2, b3⟩
/-! ===== END ===== -/
end
section
def RX0 : String := "RoundKeepers$Air"
def TX0 : u_T := fun k => match k with
  | 0 => ("RoundKeepers$Air", "ring", "[LRoundKeepers$Message;", true)
  | 1 => ("RoundKeepers$Air", "taken", "LRoundKeepers$Message;", false)
  | 2 => ("RoundKeepers$Air", "wasted", "LRoundKeepers$Message;", true)
  | 3 => ("RoundKeepers$Air", "head", "I", false)
  | 4 => ("RoundKeepers$Air", "size", "I", false)
  | 5 => ("RoundKeepers$Air", "lost", "I", false)
  | _ => ("RoundKeepers$Air", "sent", "I", false)
def tyX0 : Nat → FieldType := fun k => match k with
  | 0 => .array (.object "RoundKeepers$Message")
  | 1 => .object "RoundKeepers$Message"
  | 2 => .object "RoundKeepers$Message"
  | 3 => .int
  | 4 => .int
  | 5 => .int
  | _ => .int
theorem nmX0 : ∀ a, a < 7 → ∀ b, b < 7 → a ≠ b → (TX0 a).2.1 ≠ (TX0 b).2.1 := by decide +kernel
theorem tyX0_ok : ∀ k, k < 7 → parseFieldDescriptor (TX0 k).2.2.1 = some (tyX0 k) := by decide +kernel
def RX1 : String := "RoundKeepers$Collecting"
def TX1 : u_T := fun k => match k with
  | 0 => ("RoundKeepers$Collecting", "stage", "I", false)
  | 1 => ("RoundKeepers$Collecting", "firm", "I", false)
  | 2 => ("RoundKeepers$Collecting", "knowing", "I", false)
  | 3 => ("RoundKeepers$Collecting", "collected", "I", false)
  | 4 => ("RoundKeepers$Collecting", "releasing", "I", false)
  | _ => ("RoundKeepers$Collecting", "released", "I", false)
def tyX1 : Nat → FieldType := fun k => match k with
  | 0 => .int
  | 1 => .int
  | 2 => .int
  | 3 => .int
  | 4 => .int
  | _ => .int
theorem nmX1 : ∀ a, a < 6 → ∀ b, b < 6 → a ≠ b → (TX1 a).2.1 ≠ (TX1 b).2.1 := by decide +kernel
theorem tyX1_ok : ∀ k, k < 6 → parseFieldDescriptor (TX1 k).2.2.1 = some (tyX1 k) := by decide +kernel
def RX2 : String := "RoundKeepers$Copies"
def TX2 : u_T := fun k => match k with
  | 0 => ("RoundKeepers$Copies", "air", "LRoundKeepers$Air;", true)
  | 1 => ("RoundKeepers$Copies", "values", "[I", true)
  | _ => ("RoundKeepers$Copies", "clashes", "I", false)
def tyX2 : Nat → FieldType := fun k => match k with
  | 0 => .object "RoundKeepers$Air"
  | 1 => .array .int
  | _ => .int
theorem nmX2 : ∀ a, a < 3 → ∀ b, b < 3 → a ≠ b → (TX2 a).2.1 ≠ (TX2 b).2.1 := by decide +kernel
theorem tyX2_ok : ∀ k, k < 3 → parseFieldDescriptor (TX2 k).2.2.1 = some (tyX2 k) := by decide +kernel
def RX3 : String := "RoundKeepers$Keeper"
def TX3 : u_T := fun k => match k with
  | 0 => ("RoundKeepers$Keeper", "number", "I", true)
  | 1 => ("RoundKeepers$Keeper", "air", "LRoundKeepers$Air;", true)
  | 2 => ("RoundKeepers$Keeper", "groups", "[I", true)
  | 3 => ("RoundKeepers$Keeper", "state", "I", false)
  | 4 => ("RoundKeepers$Keeper", "generation", "I", false)
  | 5 => ("RoundKeepers$Keeper", "readySet", "I", false)
  | 6 => ("RoundKeepers$Keeper", "watermark", "I", false)
  | 7 => ("RoundKeepers$Keeper", "entries", "[I", true)
  | 8 => ("RoundKeepers$Keeper", "ballot", "I", false)
  | 9 => ("RoundKeepers$Keeper", "pickBallot", "I", false)
  | 10 => ("RoundKeepers$Keeper", "pickSet", "I", false)
  | _ => ("RoundKeepers$Keeper", "nextSet", "I", false)
def tyX3 : Nat → FieldType := fun k => match k with
  | 0 => .int
  | 1 => .object "RoundKeepers$Air"
  | 2 => .array .int
  | 3 => .int
  | 4 => .int
  | 5 => .int
  | 6 => .int
  | 7 => .array .int
  | 8 => .int
  | 9 => .int
  | 10 => .int
  | _ => .int
theorem nmX3 : ∀ a, a < 12 → ∀ b, b < 12 → a ≠ b → (TX3 a).2.1 ≠ (TX3 b).2.1 := by decide +kernel
theorem tyX3_ok : ∀ k, k < 12 → parseFieldDescriptor (TX3 k).2.2.1 = some (tyX3 k) := by decide +kernel
def RX4 : String := "RoundKeepers$Keeping"
def TX4 : u_T := fun k => match k with
  | 0 => ("RoundKeepers$Keeping", "number", "I", true)
  | 1 => ("RoundKeepers$Keeping", "air", "LRoundKeepers$Air;", true)
  | 2 => ("RoundKeepers$Keeping", "generation", "I", false)
  | 3 => ("RoundKeepers$Keeping", "set", "I", false)
  | 4 => ("RoundKeepers$Keeping", "step", "I", false)
  | 5 => ("RoundKeepers$Keeping", "ballot", "I", false)
  | 6 => ("RoundKeepers$Keeping", "wanted", "I", false)
  | 7 => ("RoundKeepers$Keeping", "noted", "I", false)
  | 8 => ("RoundKeepers$Keeping", "watermark", "I", false)
  | 9 => ("RoundKeepers$Keeping", "entries", "[I", true)
  | 10 => ("RoundKeepers$Keeping", "pickBallot", "I", false)
  | _ => ("RoundKeepers$Keeping", "pickSet", "I", false)
def tyX4 : Nat → FieldType := fun k => match k with
  | 0 => .int
  | 1 => .object "RoundKeepers$Air"
  | 2 => .int
  | 3 => .int
  | 4 => .int
  | 5 => .int
  | 6 => .int
  | 7 => .int
  | 8 => .int
  | 9 => .array .int
  | 10 => .int
  | _ => .int
theorem nmX4 : ∀ a, a < 12 → ∀ b, b < 12 → a ≠ b → (TX4 a).2.1 ≠ (TX4 b).2.1 := by decide +kernel
theorem tyX4_ok : ∀ k, k < 12 → parseFieldDescriptor (TX4 k).2.2.1 = some (tyX4 k) := by decide +kernel
def RX5 : String := "RoundKeepers$Leader"
def TX5 : u_T := fun k => match k with
  | 0 => ("RoundKeepers$Leader", "number", "I", true)
  | 1 => ("RoundKeepers$Leader", "air", "LRoundKeepers$Air;", true)
  | 2 => ("RoundKeepers$Leader", "groups", "[I", true)
  | 3 => ("RoundKeepers$Leader", "keeping", "LRoundKeepers$Keeping;", true)
  | 4 => ("RoundKeepers$Leader", "slots", "LRoundKeepers$Slots;", true)
  | 5 => ("RoundKeepers$Leader", "collecting", "LRoundKeepers$Collecting;", true)
  | 6 => ("RoundKeepers$Leader", "phase", "I", false)
  | 7 => ("RoundKeepers$Leader", "round", "I", false)
  | 8 => ("RoundKeepers$Leader", "group", "I", false)
  | 9 => ("RoundKeepers$Leader", "matched", "I", false)
  | 10 => ("RoundKeepers$Leader", "watermark", "I", false)
  | 11 => ("RoundKeepers$Leader", "history", "[I", true)
  | 12 => ("RoundKeepers$Leader", "asked", "I", false)
  | 13 => ("RoundKeepers$Leader", "known", "I", false)
  | 14 => ("RoundKeepers$Leader", "votes", "[I", true)
  | 15 => ("RoundKeepers$Leader", "base", "I", false)
  | _ => ("RoundKeepers$Leader", "next", "I", false)
def tyX5 : Nat → FieldType := fun k => match k with
  | 0 => .int
  | 1 => .object "RoundKeepers$Air"
  | 2 => .array .int
  | 3 => .object "RoundKeepers$Keeping"
  | 4 => .object "RoundKeepers$Slots"
  | 5 => .object "RoundKeepers$Collecting"
  | 6 => .int
  | 7 => .int
  | 8 => .int
  | 9 => .int
  | 10 => .int
  | 11 => .array .int
  | 12 => .int
  | 13 => .int
  | 14 => .array .int
  | 15 => .int
  | _ => .int
theorem nmX5 : ∀ a, a < 17 → ∀ b, b < 17 → a ≠ b → (TX5 a).2.1 ≠ (TX5 b).2.1 := by decide +kernel
theorem tyX5_ok : ∀ k, k < 17 → parseFieldDescriptor (TX5 k).2.2.1 = some (tyX5 k) := by decide +kernel
def RX6 : String := "RoundKeepers$Message"
def TX6 : u_T := fun k => match k with
  | 0 => ("RoundKeepers$Message", "kind", "I", false)
  | 1 => ("RoundKeepers$Message", "from", "I", false)
  | 2 => ("RoundKeepers$Message", "to", "I", false)
  | 3 => ("RoundKeepers$Message", "a", "I", false)
  | 4 => ("RoundKeepers$Message", "b", "I", false)
  | 5 => ("RoundKeepers$Message", "c", "I", false)
  | 6 => ("RoundKeepers$Message", "pickBallot", "I", false)
  | 7 => ("RoundKeepers$Message", "pickSet", "I", false)
  | _ => ("RoundKeepers$Message", "load", "[I", true)
def tyX6 : Nat → FieldType := fun k => match k with
  | 0 => .int
  | 1 => .int
  | 2 => .int
  | 3 => .int
  | 4 => .int
  | 5 => .int
  | 6 => .int
  | 7 => .int
  | _ => .array .int
theorem nmX6 : ∀ a, a < 9 → ∀ b, b < 9 → a ≠ b → (TX6 a).2.1 ≠ (TX6 b).2.1 := by decide +kernel
theorem tyX6_ok : ∀ k, k < 9 → parseFieldDescriptor (TX6 k).2.2.1 = some (tyX6 k) := by decide +kernel
def RX7 : String := "RoundKeepers$Rounds"
def TX7 : u_T := fun k => match k with
  | _ => ("", "", "", false)
def tyX7 : Nat → FieldType := fun k => match k with
  | _ => .int
theorem nmX7 : ∀ a, a < 0 → ∀ b, b < 0 → a ≠ b → (TX7 a).2.1 ≠ (TX7 b).2.1 := by decide +kernel
theorem tyX7_ok : ∀ k, k < 0 → parseFieldDescriptor (TX7 k).2.2.1 = some (tyX7 k) := by decide +kernel
def RX8 : String := "RoundKeepers$Slots"
def TX8 : u_T := fun k => match k with
  | 0 => ("RoundKeepers$Slots", "number", "I", true)
  | 1 => ("RoundKeepers$Slots", "air", "LRoundKeepers$Air;", true)
  | 2 => ("RoundKeepers$Slots", "states", "[I", true)
  | 3 => ("RoundKeepers$Slots", "values", "[I", true)
  | 4 => ("RoundKeepers$Slots", "voted", "[I", true)
  | _ => ("RoundKeepers$Slots", "told", "[I", true)
def tyX8 : Nat → FieldType := fun k => match k with
  | 0 => .int
  | 1 => .object "RoundKeepers$Air"
  | 2 => .array .int
  | 3 => .array .int
  | 4 => .array .int
  | _ => .array .int
theorem nmX8 : ∀ a, a < 6 → ∀ b, b < 6 → a ≠ b → (TX8 a).2.1 ≠ (TX8 b).2.1 := by decide +kernel
theorem tyX8_ok : ∀ k, k < 6 → parseFieldDescriptor (TX8 k).2.2.1 = some (tyX8 k) := by decide +kernel
def RX9 : String := "RoundKeepers$Tally"
def TX9 : u_T := fun k => match k with
  | 0 => ("RoundKeepers$Tally", "groups", "[I", true)
  | 1 => ("RoundKeepers$Tally", "voted", "[J", true)
  | 2 => ("RoundKeepers$Tally", "first", "[I", true)
  | _ => ("RoundKeepers$Tally", "breaches", "I", false)
def tyX9 : Nat → FieldType := fun k => match k with
  | 0 => .array .int
  | 1 => .array .long
  | 2 => .array .int
  | _ => .int
theorem nmX9 : ∀ a, a < 4 → ∀ b, b < 4 → a ≠ b → (TX9 a).2.1 ≠ (TX9 b).2.1 := by decide +kernel
theorem tyX9_ok : ∀ k, k < 4 → parseFieldDescriptor (TX9 k).2.2.1 = some (tyX9 k) := by decide +kernel
def RX10 : String := "RoundKeepers$Voter"
def TX10 : u_T := fun k => match k with
  | 0 => ("RoundKeepers$Voter", "number", "I", true)
  | 1 => ("RoundKeepers$Voter", "air", "LRoundKeepers$Air;", true)
  | 2 => ("RoundKeepers$Voter", "tally", "LRoundKeepers$Tally;", true)
  | 3 => ("RoundKeepers$Voter", "promised", "I", false)
  | 4 => ("RoundKeepers$Voter", "knows", "I", false)
  | _ => ("RoundKeepers$Voter", "votes", "[I", true)
def tyX10 : Nat → FieldType := fun k => match k with
  | 0 => .int
  | 1 => .object "RoundKeepers$Air"
  | 2 => .object "RoundKeepers$Tally"
  | 3 => .int
  | 4 => .int
  | _ => .array .int
theorem nmX10 : ∀ a, a < 6 → ∀ b, b < 6 → a ≠ b → (TX10 a).2.1 ≠ (TX10 b).2.1 := by decide +kernel
theorem tyX10_ok : ∀ k, k < 6 → parseFieldDescriptor (TX10 k).2.2.1 = some (tyX10 k) := by decide +kernel
def RX11 : String := "RoundKeepers"
def TX11 : u_T := fun k => match k with
  | 0 => ("RoundKeepers", "air", "LRoundKeepers$Air;", true)
  | 1 => ("RoundKeepers", "groups", "[I", true)
  | 2 => ("RoundKeepers", "tally", "LRoundKeepers$Tally;", true)
  | 3 => ("RoundKeepers", "leaders", "[LRoundKeepers$Leader;", true)
  | 4 => ("RoundKeepers", "keepers", "[LRoundKeepers$Keeper;", true)
  | 5 => ("RoundKeepers", "voters", "[LRoundKeepers$Voter;", true)
  | 6 => ("RoundKeepers", "copies", "LRoundKeepers$Copies;", true)
  | 7 => ("RoundKeepers", "upBits", "[I", true)
  | 8 => ("RoundKeepers", "arrived", "I", false)
  | _ => ("RoundKeepers", "begun", "I", false)
def tyX11 : Nat → FieldType := fun k => match k with
  | 0 => .object "RoundKeepers$Air"
  | 1 => .array .int
  | 2 => .object "RoundKeepers$Tally"
  | 3 => .array (.object "RoundKeepers$Leader")
  | 4 => .array (.object "RoundKeepers$Keeper")
  | 5 => .array (.object "RoundKeepers$Voter")
  | 6 => .object "RoundKeepers$Copies"
  | 7 => .array .int
  | 8 => .int
  | _ => .int
theorem nmX11 : ∀ a, a < 10 → ∀ b, b < 10 → a ≠ b → (TX11 a).2.1 ≠ (TX11 b).2.1 := by decide +kernel
theorem tyX11_ok : ∀ k, k < 10 → parseFieldDescriptor (TX11 k).2.2.1 = some (tyX11 k) := by decide +kernel
def RX12 : String := "RoundKeepersModel"
def TX12 : u_T := fun k => match k with
  | 0 => ("RoundKeepersModel", "thrown", "I", false)
  | 1 => ("RoundKeepersModel", "down", "[Z", true)
  | 2 => ("RoundKeepersModel", "phase", "[I", true)
  | 3 => ("RoundKeepersModel", "round", "[I", true)
  | 4 => ("RoundKeepersModel", "group", "[I", true)
  | 5 => ("RoundKeepersModel", "gen", "[I", true)
  | 6 => ("RoundKeepersModel", "set", "[I", true)
  | 7 => ("RoundKeepersModel", "matchedBy", "[I", true)
  | 8 => ("RoundKeepersModel", "highMark", "[I", true)
  | 9 => ("RoundKeepersModel", "noted", "[I", true)
  | 10 => ("RoundKeepersModel", "askedBy", "[I", true)
  | 11 => ("RoundKeepersModel", "known", "[I", true)
  | 12 => ("RoundKeepersModel", "seenRound", "[I", true)
  | 13 => ("RoundKeepersModel", "seenValue", "[I", true)
  | 14 => ("RoundKeepersModel", "base", "[I", true)
  | 15 => ("RoundKeepersModel", "next", "[I", true)
  | 16 => ("RoundKeepersModel", "state", "[I", true)
  | 17 => ("RoundKeepersModel", "value", "[I", true)
  | 18 => ("RoundKeepersModel", "votedBy", "[I", true)
  | 19 => ("RoundKeepersModel", "toldBy", "[I", true)
  | 20 => ("RoundKeepersModel", "stage", "[I", true)
  | 21 => ("RoundKeepersModel", "firmTold", "[I", true)
  | 22 => ("RoundKeepersModel", "knownBy", "[I", true)
  | 23 => ("RoundKeepersModel", "collectedBy", "[I", true)
  | 24 => ("RoundKeepersModel", "releaseTo", "[I", true)
  | 25 => ("RoundKeepersModel", "releasedBy", "[I", true)
  | 26 => ("RoundKeepersModel", "step", "[I", true)
  | 27 => ("RoundKeepersModel", "wanted", "[I", true)
  | 28 => ("RoundKeepersModel", "ballot", "[I", true)
  | 29 => ("RoundKeepersModel", "reformedBy", "[I", true)
  | 30 => ("RoundKeepersModel", "reformMark", "[I", true)
  | 31 => ("RoundKeepersModel", "reformNoted", "[I", true)
  | 32 => ("RoundKeepersModel", "pickBallot", "[I", true)
  | 33 => ("RoundKeepersModel", "pickSet", "[I", true)
  | 34 => ("RoundKeepersModel", "mode", "[I", true)
  | 35 => ("RoundKeepersModel", "keeperGen", "[I", true)
  | 36 => ("RoundKeepersModel", "keeperSet", "[I", true)
  | 37 => ("RoundKeepersModel", "mark", "[I", true)
  | 38 => ("RoundKeepersModel", "entries", "[I", true)
  | 39 => ("RoundKeepersModel", "keeperBallot", "[I", true)
  | 40 => ("RoundKeepersModel", "keeperPick", "[I", true)
  | 41 => ("RoundKeepersModel", "keeperPickSet", "[I", true)
  | 42 => ("RoundKeepersModel", "nextSet", "[I", true)
  | 43 => ("RoundKeepersModel", "promised", "[I", true)
  | 44 => ("RoundKeepersModel", "knows", "[I", true)
  | 45 => ("RoundKeepersModel", "voteRound", "[I", true)
  | 46 => ("RoundKeepersModel", "voteValue", "[I", true)
  | 47 => ("RoundKeepersModel", "copyValue", "[I", true)
  | 48 => ("RoundKeepersModel", "air", "I", false)
  | 49 => ("RoundKeepersModel", "order", "[I", true)
  | 50 => ("RoundKeepersModel", "used", "[Z", true)
  | 51 => ("RoundKeepersModel", "kinds", "[I", true)
  | 52 => ("RoundKeepersModel", "froms", "[I", true)
  | 53 => ("RoundKeepersModel", "tos", "[I", true)
  | 54 => ("RoundKeepersModel", "fields", "[I", true)
  | 55 => ("RoundKeepersModel", "many", "[I", true)
  | 56 => ("RoundKeepersModel", "picks", "[I", true)
  | 57 => ("RoundKeepersModel", "payload", "[I", true)
  | 58 => ("RoundKeepersModel", "last", "I", false)
  | 59 => ("RoundKeepersModel", "begun", "[I", true)
  | 60 => ("RoundKeepersModel", "votersOf", "[I", true)
  | 61 => ("RoundKeepersModel", "agreedValue", "[I", true)
  | 62 => ("RoundKeepersModel", "lost", "I", false)
  | 63 => ("RoundKeepersModel", "came", "I", false)
  | 64 => ("RoundKeepersModel", "clashes", "I", false)
  | 65 => ("RoundKeepersModel", "breaches", "I", false)
  | _ => ("RoundKeepersModel", "rounds", "I", false)
def tyX12 : Nat → FieldType := fun k => match k with
  | 0 => .int
  | 1 => .array .boolean
  | 2 => .array .int
  | 3 => .array .int
  | 4 => .array .int
  | 5 => .array .int
  | 6 => .array .int
  | 7 => .array .int
  | 8 => .array .int
  | 9 => .array .int
  | 10 => .array .int
  | 11 => .array .int
  | 12 => .array .int
  | 13 => .array .int
  | 14 => .array .int
  | 15 => .array .int
  | 16 => .array .int
  | 17 => .array .int
  | 18 => .array .int
  | 19 => .array .int
  | 20 => .array .int
  | 21 => .array .int
  | 22 => .array .int
  | 23 => .array .int
  | 24 => .array .int
  | 25 => .array .int
  | 26 => .array .int
  | 27 => .array .int
  | 28 => .array .int
  | 29 => .array .int
  | 30 => .array .int
  | 31 => .array .int
  | 32 => .array .int
  | 33 => .array .int
  | 34 => .array .int
  | 35 => .array .int
  | 36 => .array .int
  | 37 => .array .int
  | 38 => .array .int
  | 39 => .array .int
  | 40 => .array .int
  | 41 => .array .int
  | 42 => .array .int
  | 43 => .array .int
  | 44 => .array .int
  | 45 => .array .int
  | 46 => .array .int
  | 47 => .array .int
  | 48 => .int
  | 49 => .array .int
  | 50 => .array .boolean
  | 51 => .array .int
  | 52 => .array .int
  | 53 => .array .int
  | 54 => .array .int
  | 55 => .array .int
  | 56 => .array .int
  | 57 => .array .int
  | 58 => .int
  | 59 => .array .int
  | 60 => .array .int
  | 61 => .array .int
  | 62 => .int
  | 63 => .int
  | 64 => .int
  | 65 => .int
  | _ => .int
theorem nmX12 : ∀ a, a < 67 → ∀ b, b < 67 → a ≠ b → (TX12 a).2.1 ≠ (TX12 b).2.1 := by decide +kernel
theorem tyX12_ok : ∀ k, k < 67 → parseFieldDescriptor (TX12 k).2.2.1 = some (tyX12 k) := by decide +kernel
end
section
/-! ===== THE PURE HEAP: every cell of ours by its address; fields by number (100 * class + slot); null is 0 ===== -/
abbrev GT : Type := (Nat → Nat) × (Nat → Nat) × (Nat → Nat → Int32) × (Nat → Nat → Nat) × (Nat → Nat → Int32) × (Nat → Nat → Int64) × (Nat → Nat → Nat) × Nat
/-- kinds: 0 not ours; k + 1 an object of class k; 50 int[], 51 long[], 52 boolean[], 53 .. 56 arrays of references; 60 the script -/
def gx_K (g : GT) (a : Nat) : Nat := g.1 a
def gx_N (g : GT) (a : Nat) : Nat := g.2.1 a
def gx_I (g : GT) (f a : Nat) : Int32 := g.2.2.1 f a
def gx_R (g : GT) (f a : Nat) : Nat := g.2.2.2.1 f a
def gx_A (g : GT) (a j : Nat) : Int32 := g.2.2.2.2.1 a j
def gx_L (g : GT) (a j : Nat) : Int64 := g.2.2.2.2.2.1 a j
def gx_O (g : GT) (a j : Nat) : Nat := g.2.2.2.2.2.2.1 a j
def gx_Z (g : GT) : Nat := g.2.2.2.2.2.2.2
def gx_u {α : Type} (f : Nat → Nat → α) (i j : Nat) (v : α) : Nat → Nat → α := fun x y => if x = i ∧ y = j then v else f x y
def px_I (g : GT) (f a : Nat) (v : Int32) : GT := (g.1, g.2.1, gx_u g.2.2.1 f a v, g.2.2.2)
def px_R (g : GT) (f a : Nat) (v : Nat) : GT := (g.1, g.2.1, g.2.2.1, gx_u g.2.2.2.1 f a v, g.2.2.2.2)
def px_A (g : GT) (a j : Nat) (v : Int32) : GT := (g.1, g.2.1, g.2.2.1, g.2.2.2.1, gx_u g.2.2.2.2.1 a j v, g.2.2.2.2.2)
def px_L (g : GT) (a j : Nat) (v : Int64) : GT := (g.1, g.2.1, g.2.2.1, g.2.2.2.1, g.2.2.2.2.1, gx_u g.2.2.2.2.2.1 a j v, g.2.2.2.2.2.2)
def px_O (g : GT) (a j : Nat) (v : Nat) : GT := (g.1, g.2.1, g.2.2.1, g.2.2.2.1, g.2.2.2.2.1, g.2.2.2.2.2.1, gx_u g.2.2.2.2.2.2.1 a j v, g.2.2.2.2.2.2.2)
/-- a new cell at the heap's end: kind k, length n, all zero -/
def px_N (g : GT) (k n : Nat) : GT := (fun a => if a = g.2.2.2.2.2.2.2 then k else g.1 a, fun a => if a = g.2.2.2.2.2.2.2 then n else g.2.1 a, fun f a => if a = g.2.2.2.2.2.2.2 then 0 else g.2.2.1 f a, fun f a => if a = g.2.2.2.2.2.2.2 then 0 else g.2.2.2.1 f a, fun a j => if a = g.2.2.2.2.2.2.2 then 0 else g.2.2.2.2.1 a j, fun a j => if a = g.2.2.2.2.2.2.2 then 0 else g.2.2.2.2.2.1 a j, fun a j => if a = g.2.2.2.2.2.2.2 then 0 else g.2.2.2.2.2.2.1 a j, g.2.2.2.2.2.2.2 + 1)
/-- cells that aren't ours were made (an exception) -/
def px_Z (g : GT) (n : Nat) : GT := (g.1, g.2.1, g.2.2.1, g.2.2.2.1, g.2.2.2.2.1, g.2.2.2.2.2.1, g.2.2.2.2.2.2.1, n)
/-- rows of an int array are copied -/
def px_C (g : GT) (src sp dst dp n : Nat) : GT := (g.1, g.2.1, g.2.2.1, g.2.2.2.1, fun a j => if a = dst ∧ dp ≤ j ∧ j < dp + n then g.2.2.2.2.1 src (sp + (j - dp)) else g.2.2.2.2.1 a j, g.2.2.2.2.2)
/-! which fields are references: by class and slot -/
def fx_tab : List (List Bool) := [[true, true, true, false, false, false, false], [false, false, false, false, false, false], [true, true, false], [false, true, true, false, false, false, false, true, false, false, false, false], [false, true, false, false, false, false, false, false, false, true, false, false], [false, true, true, true, true, true, false, false, false, false, false, true, false, false, true, false, false], [false, false, false, false, false, false, false, false, true], [false, false, false, false, false, false], [false, true, true, true, true, true], [true, true, true, false], [false, true, true, false, false, true], [true, true, true, true, true, true, true, true, false, false], [false, true, true, true, true, true, true, true, true, true, true, true, true, true, true, true, true, true, true, true, true, true, true, true, true, true, true, true, true, true, true, true, true, true, true, true, true, true, true, true, true, true, true, true, true, true, true, true, false, true, true, true, true, true, true, true, true, true, false, true, true, true, false, false, false, false, false]]
def fx_R (ci j : Nat) : Bool := (fx_tab.getD ci []).getD j false
def fx_v (x : Nat) : Value := if x = 0 then .null else .ref x
def fx_V (g : GT) (ci a : Nat) (j : Nat) : Value := if fx_R ci j = true then fx_v (gx_R g (100 * ci + j) a) else .int (gx_I g (100 * ci + j) a)
/-- the classes whose objects there are; of class 7 (Rounds) there are none: class 1 stands there again -/
abbrev cx_cl : List vw_C := [(RX0, TX0, 7), (RX1, TX1, 6), (RX2, TX2, 3), (RX3, TX3, 12), (RX4, TX4, 12), (RX5, TX5, 17), (RX6, TX6, 9), (RX1, TX1, 6), (RX8, TX8, 6), (RX9, TX9, 4), (RX10, TX10, 6), (RX11, TX11, 10), (RX12, TX12, 67)]
def cx_ty (ci : Nat) : Nat → FieldType := match ci with
  | 0 => tyX0 | 1 => tyX1 | 2 => tyX2 | 3 => tyX3 | 4 => tyX4 | 5 => tyX5 | 6 => tyX6 | 7 => tyX1 | 8 => tyX8 | 9 => tyX9 | 10 => tyX10 | 11 => tyX11 | _ => tyX12
/-! what a launch and a run fix: the launch, the classes' numbers and slots, the arrays' classes, where our cells begin -/
abbrev GE : Type := Launch × va_G × (Nat → ClassId) × Nat
def ge_l (G : GE) : Launch := G.1
def ge_D (G : GE) : va_G := G.2.1
def ge_A (G : GE) : Nat → ClassId := G.2.2.1
def ge_b (G : GE) : Nat := G.2.2.2
abbrev cx_tys (G : GE) : List (ClassId × FieldType) := [(ge_A G 0, .int), (ge_A G 1, .long), (ge_A G 2, .boolean), (ge_A G 3, .object RX6), (ge_A G 4, .object RX5), (ge_A G 5, .object RX3), (ge_A G 6, .object RX10)]
/-- the cell at a is what the pure heap says of its kind -/
def gx_cell (G : GE) (U : State) (g : GT) (H : Heap) (a : Nat) : Prop :=
  (∀ ci, gx_K g a = ci + 1 → ci < 13 → ∃ r : vw_C, cx_cl[ci]? = some r ∧ t_OB a ((ge_D G).1 ci) r.2.2 ((ge_D G).2 ci) H (fx_V g ci a)) ∧
  (gx_K g a = 50 → H[a]? = some (arrV (ge_A G 0) (gx_N g a) (fun j => .int (gx_A g a j)))) ∧
  (gx_K g a = 51 → H[a]? = some (arrV (ge_A G 1) (gx_N g a) (fun j => .long (gx_L g a j)))) ∧
  (gx_K g a = 52 → H[a]? = some (arrV (ge_A G 2) (gx_N g a) (fun j => .int (gx_A g a j)))) ∧
  (∀ i, i < 4 → gx_K g a = 53 + i → H[a]? = some (arrV (ge_A G (3 + i)) (gx_N g a) (fun j => fx_v (gx_O g a j)))) ∧
  (gx_K g a = 60 → ∃ scr : Cell, H[a]? = some scr ∧ U.isArrayOf scr .int ∧ scr.vm ≠ .unknown ∧ scr.slots.size = gx_N g a ∧ ∀ j : Nat, j < gx_N g a → scr.slots[j]? = some (.int (gx_A g a j)))
def gx_H (G : GE) (U : State) (g : GT) (H : Heap) : Prop :=
  H.size = gx_Z g ∧ (0 < ge_b G ∧ ge_b G ≤ gx_Z g) ∧ (∀ a, gx_K g a ≠ 0 → a < gx_Z g ∧ (gx_K g a < 60 → ge_b G ≤ a) ∧ gx_K g a ≤ 60) ∧ (∀ a, gx_K g a ≠ 0 → gx_cell G U g H a) ∧
  vx_Zq Bundle.tN "UNASSIGNED_STACK" Bundle.steD (fun q => ge_b G ≤ q) U H ∧ vx_Zq Bundle.tN "SUPPRESSED_SENTINEL" Bundle.listD (fun q => ge_b G ≤ q) U H
theorem gx_cell.moved {G : GE} {u U : State} {g : GT} {H : Heap} {a : Nat} (hvm : u.vm.Alike U.vm) (h : gx_cell G u g H a) : gx_cell G U g H a := by
  obtain ⟨h1, h2, h3, h4, h5, h6⟩ := h
  refine ⟨h1, h2, h3, h4, h5, fun hk => ?_⟩
  obtain ⟨scr, q1, q2, q3⟩ := h6 hk
  exact ⟨scr, q1, State.isArrayOf_alike hvm q2, q3⟩
theorem gx_H.moved {G : GE} {u U : State} {g : GT} {H : Heap} (hvm : u.vm.Alike U.vm) (h : gx_H G u g H) : gx_H G U g H :=
  ⟨h.1, h.2.1, h.2.2.1, fun a ha => (h.2.2.2.1 a ha).moved hvm, vx_Zq.moved hvm h.2.2.2.2.1, vx_Zq.moved hvm h.2.2.2.2.2⟩
theorem gx_cell.kept {G : GE} {U : State} {g : GT} {H H1 : Heap} {a : Nat} (hq : H1[a]? = H[a]?) (h : gx_cell G U g H a) : gx_cell G U g H1 a := by
  obtain ⟨h1, h2, h3, h4, h5, h6⟩ := h
  refine ⟨fun ci k1 k2 => ?_, fun k => hq.trans (h2 k), fun k => hq.trans (h3 k), fun k => hq.trans (h4 k), fun i k1 k => hq.trans (h5 i k1 k), fun k => ?_⟩
  · obtain ⟨r, e1, e2⟩ := h1 ci k1 k2
    exact ⟨r, e1, e2.kept hq⟩
  · obtain ⟨scr, q1, q2⟩ := h6 k
    exact ⟨scr, hq.trans q1, q2⟩
/-- the same cell said of another pure heap that agrees at it -/
theorem gx_cell.same {G : GE} {U : State} {g g1 : GT} {H : Heap} {a : Nat} (hK : gx_K g1 a = gx_K g a) (hN : gx_N g1 a = gx_N g a) (hI : ∀ f, gx_I g1 f a = gx_I g f a) (hR : ∀ f, gx_R g1 f a = gx_R g f a) (hA : ∀ j, gx_A g1 a j = gx_A g a j) (hL : ∀ j, gx_L g1 a j = gx_L g a j) (hO : ∀ j, gx_O g1 a j = gx_O g a j) (h : gx_cell G U g H a) : gx_cell G U g1 H a := by
  obtain ⟨h1, h2, h3, h4, h5, h6⟩ := h
  unfold gx_cell
  simp only [hK, hN, hA, hL, hO]
  refine ⟨fun ci k1 k2 => ?_, h2, h3, h4, h5, h6⟩
  obtain ⟨r, e1, e2⟩ := h1 ci k1 k2
  exact ⟨r, e1, e2.to fun j _ => by unfold fx_V; rw [hI, hR]⟩
theorem gx_lt {G : GE} {U : State} {g : GT} {H : Heap} {a : Nat} (h : gx_H G U g H) (ha : gx_K g a ≠ 0) : a < H.size := by
  rw [h.1]; exact (h.2.2.1 a ha).1
/-- a cell of ours changes in place -/
theorem gx_H.set {G : GE} {U : State} {g g1 : GT} {H H1 : Heap} {a : Nat} (h : gx_H G U g H) (ha : gx_K g a ≠ 0) (hlo : gx_K g a < 60)
    (hZ : gx_Z g1 = gx_Z g) (hK : ∀ q, gx_K g1 q = gx_K g q) (hN : ∀ q, gx_N g1 q = gx_N g q) (hI : ∀ f q, q ≠ a → gx_I g1 f q = gx_I g f q) (hR : ∀ f q, q ≠ a → gx_R g1 f q = gx_R g f q) (hA : ∀ q j, q ≠ a → gx_A g1 q j = gx_A g q j) (hL : ∀ q j, q ≠ a → gx_L g1 q j = gx_L g q j) (hO : ∀ q j, q ≠ a → gx_O g1 q j = gx_O g q j)
    (z : H1.size = H.size) (oq : ∀ q : Nat, q ≠ a → H1[q]? = H[q]?) (hc : gx_cell G U g1 H1 a) : gx_H G U g1 H1 := by
  obtain ⟨h1, h2, h3, h4, h5, h6⟩ := h
  have hba : ge_b G ≤ a := (h3 a ha).2.1 hlo
  have hk : ∀ q : Nat, q < H.size → ¬ ge_b G ≤ q → H1[q]? = H[q]? := fun q _ hq => oq q (fun e => hq (by rw [e]; exact hba))
  refine ⟨by rw [z, h1, hZ], by rw [hZ]; exact h2, fun q hq => ?_, fun q hq => ?_, h5.kept hk, h6.kept hk⟩
  · rw [hK] at hq ⊢
    rw [hZ]
    exact h3 q hq
  · by_cases e : q = a
    · rw [e]; exact hc
    · rw [hK] at hq
      exact ((h4 q hq).kept (oq q e)).same (hK q) (hN q) (fun f => hI f q e) (fun f => hR f q e) (fun j => hA q j e) (fun j => hL q j e) (fun j => hO q j e)
end
section
/-! ===== METHODS AS RECORDS; THE JUDGEMENT ex_W; A RULE AN INSTRUCTION ===== -/
/-- name, bytes, locals, answer's type, exception table, instructions, fields (pool number, class, slot), calls (pool number, callee, arguments, kind, depth, cells, slots), classes (pool number, class), int constants, places of its words -/
abbrev MT : Type := MethodName × ByteArray × Nat × Option FieldType × List (Nat × Nat × Nat × Nat) × List (Nat × Instr × Nat) × List (Nat × Nat × Nat) × List (Nat × MethodName × Nat × Nat × Nat × Nat × Nat) × List (Nat × Nat) × List (Nat × Int32) × List Nat
def mt_y (M : MT) : MethodName := M.1
def mt_b (M : MT) : ByteArray := M.2.1
def mt_l (M : MT) : Nat := M.2.2.1
def mt_r (M : MT) : Option FieldType := M.2.2.2.1
def mt_h (M : MT) : List (Nat × Nat × Nat × Nat) := M.2.2.2.2.1
def mt_c (M : MT) : List (Nat × Instr × Nat) := M.2.2.2.2.2.1
def mt_f (M : MT) : List (Nat × Nat × Nat) := M.2.2.2.2.2.2.1
def mt_m (M : MT) : List (Nat × MethodName × Nat × Nat × Nat × Nat × Nat) := M.2.2.2.2.2.2.2.1
def mt_k (M : MT) : List (Nat × Nat) := M.2.2.2.2.2.2.2.2.1
def mt_i (M : MT) : List (Nat × Int32) := M.2.2.2.2.2.2.2.2.2.1
def mt_x (M : MT) : List Nat := M.2.2.2.2.2.2.2.2.2.2
def mt_in (M : MT) (pc : Nat) (i : Instr) (len : Nat) : Prop := (pc, i, len) ∈ mt_c M
def cx_T (ci : Nat) : u_T := (cx_cl.getD ci ("", TX0, 0)).2.1
def cx_N (ci : Nat) : Nat := (cx_cl.getD ci ("", TX0, 0)).2.2
def cx_R (ci : Nat) : String := (cx_cl.getD ci ("", TX0, 0)).1
/-- the exceptions that are thrown, by number -/
def cx_E (k : Nat) : String := match k with
  | 100 => "java/lang/IndexOutOfBoundsException"
  | 101 => "java/lang/IllegalArgumentException"
  | _ => "java/lang/IllegalStateException"
/-- the words that a call's kind wants -/
def mt_mw (own : String) (q : Nat × MethodName × Nat × Nat × Nat × Nat × Nat) : List Cond := match q.2.2.2.1 with
  | 1 => [.methodLink own q.1 q.2.1, .static q.2.1, .initialized q.2.1.cls]
  | 2 => [.methodLink own q.1 q.2.1, .instanceMethod q.2.1, .initialized q.2.1.cls]
  | 3 => [.methodLink own q.1 objectInit, .instanceMethod objectInit, .code objectInit ⟨#[0xb1]⟩ 1 none]
  | 4 => [.static q.2.1, .initialized q.2.1.cls]
  | 5 => [.instanceMethod q.2.1, .initialized q.2.1.cls]
  | 7 => [.methodLink own q.1 q.2.1, .static q.2.1, .initialized q.2.1.cls]
  | 8 => [.methodLink own q.1 q.2.1, .static q.2.1, .initialized q.2.1.cls, .code q.2.1 Lib.Math.max.code 2 (some .int)]
  | _ => [.methodLink own q.1 q.2.1, .instanceMethod q.2.1, .selects q.2.1.cls q.2.1 q.2.1, .initialized q.2.1.cls]
def mt_kw (own : String) (q : Nat × Nat) : List Cond := if q.2 < 13 then [.classLink own q.1 (cx_R q.2), .instantiable (cx_R q.2) (cx_N q.2), .initialized (cx_R q.2)] else if q.2 < 60 then [.classLink own q.1 (cx_R (q.2 - 20))] else [.classLink own q.1 (cx_E q.2), .initialized (cx_E q.2)]
def mt_need (M : MT) : List Cond :=
  (mt_f M).map (fun q => .fieldLink (mt_y M).cls q.1 (cx_T q.2.1 q.2.2).1 (cx_T q.2.1 q.2.2).2.1 (cx_T q.2.1 q.2.2).2.2.1) ++ (mt_m M).flatMap (mt_mw (mt_y M).cls) ++ (mt_k M).flatMap (mt_kw (mt_y M).cls) ++ (mt_i M).map (fun q => .constant (mt_y M).cls q.1 q.2)
/-- a field may be stored here: it isn't final, or this is its class's constructor -/
def mt_fin (M : MT) (ci j : Nat) : Bool := !(cx_T ci j).2.2.2 || ((mt_y M).name == "<init>" && (cx_T ci j).1 == (mt_y M).cls)
/-- what is to be seen of an instruction once and for all -/
def mt_io (M : MT) (i : Instr) : Bool := match i with
  | .putfield idx => match (mt_f M).lookup idx with
    | some (ci, j) => mt_fin M ci j
    | none => false
  | .istore k => decide (k < mt_l M)
  | .astore k => decide (k < mt_l M)
  | .istore_n k => decide (k.val < mt_l M)
  | .astore_n k => decide (k.val < mt_l M)
  | .iinc k _ => decide (k < mt_l M)
  | _ => true
def mt_ok (M : MT) : Bool :=
  (mt_c M).all (fun q => mt_io M q.2.1) &&
  (mt_c M).all (fun q => decide (decode (mt_b M) q.1 = .ok (q.2.1, q.2.2))) && decide (mt_need M = (mt_x M).filterMap (fun i => lw_tbl[i]?)) && (mt_need M).all goodWord &&
  (mt_f M).all (fun q => decide (q.2.1 < 13 ∧ q.2.2 < cx_N q.2.1)) && (mt_m M).all (fun q => decide ((q.2.2.2.1 < 10 ∨ (q.2.2.2.1 < 23 ∧ q.2.1.cls = cx_R (q.2.2.2.1 - 10))) ∧ q.2.1.cls ≠ "java/lang/invoke/MethodHandle" ∧ q.2.1.cls ≠ "java/lang/invoke/VarHandle" ∧ (parseMethodDescriptor q.2.1.desc).map (fun d => d.parameters.length) = some q.2.2.1)) && decide (mt_l M ≤ 40) && plainName (mt_y M).cls
theorem mt_mem {α β : Type} [BEq α] [LawfulBEq α] {k : α} {v : β} : ∀ {l : List (α × β)}, l.lookup k = some v → (k, v) ∈ l := by
  intro l
  induction l with
  | nil => intro h; cases h
  | cons q t ih =>
    intro h
    obtain ⟨a, b⟩ := q
    rw [List.lookup_cons] at h
    by_cases e : (k == a) = true
    · simp only [e] at h
      cases h
      rw [eq_of_beq e]
      exact List.mem_cons_self
    · have e' : (k == a) = false := by simpa using e
      simp only [e'] at h
      exact List.mem_cons_of_mem _ (ih h)
theorem mt_ok_spec {M : MT} (h : mt_ok M = true) : (∀ q ∈ mt_c M, decode (mt_b M) q.1 = .ok (q.2.1, q.2.2)) ∧ (∀ w ∈ mt_need M, w ∈ lw_tbl ∧ goodWord w = true) ∧ (∀ q ∈ mt_f M, q.2.1 < 13 ∧ q.2.2 < cx_N q.2.1) ∧
    (∀ q ∈ mt_m M, (q.2.2.2.1 < 10 ∨ (q.2.2.2.1 < 23 ∧ q.2.1.cls = cx_R (q.2.2.2.1 - 10))) ∧ q.2.1.cls ≠ "java/lang/invoke/MethodHandle" ∧ q.2.1.cls ≠ "java/lang/invoke/VarHandle" ∧ (parseMethodDescriptor q.2.1.desc).map (fun d => d.parameters.length) = some q.2.2.1) ∧ mt_l M ≤ 40 ∧ plainName (mt_y M).cls = true ∧ ∀ q ∈ mt_c M, mt_io M q.2.1 = true := by
  simp only [mt_ok, Bool.and_eq_true, List.all_eq_true, decide_eq_true_eq] at h
  obtain ⟨⟨⟨⟨⟨⟨⟨h0, h1⟩, h2⟩, h3⟩, h4⟩, h5⟩, h6⟩, h7⟩ := h
  refine ⟨fun q hq => h1 q hq, fun w hw => ⟨?_, h3 w hw⟩, fun q hq => h4 q hq, fun q hq => h5 q hq, h6, h7, fun q hq => h0 q hq⟩
  rw [h2] at hw
  obtain ⟨i, -, hi⟩ := List.mem_filterMap.mp hw
  exact List.mem_of_getElem? hi
theorem mt_dec {M : MT} (hM : mt_ok M = true) {pc len : Nat} {i : Instr} (hf : mt_in M pc i len) : decode (mt_b M) pc = .ok (i, len) := by
  have h1 : (pc, i, len) ∈ mt_c M := hf
  have h2 := (mt_ok_spec hM).1 (pc, i, len) h1
  dsimp only at h2
  exact h2
theorem mt_iok {M : MT} (hM : mt_ok M = true) {pc len : Nat} {i : Instr} (hf : mt_in M pc i len) : mt_io M i = true := by
  have h1 : (pc, i, len) ∈ mt_c M := hf
  exact (mt_ok_spec hM).2.2.2.2.2.2 (pc, i, len) h1
/-! what holds of the tables at every point of a run -/
def cx_nest : List Cond := [.methodLinkNest "RoundKeepers$Air" 17 ⟨"RoundKeepers$Message", "<init>", "()V"⟩ "RoundKeepers", .methodLinkNest "RoundKeepers$Leader" 49 ⟨"RoundKeepers$Collecting", "<init>", "()V"⟩ "RoundKeepers", .methodLinkNest "RoundKeepers$Slots" 38 ⟨"RoundKeepers", "isSlot", "(I)Z"⟩ "RoundKeepers", .methodLinkNest "RoundKeepers$Leader" 228 ⟨"RoundKeepers", "areTwo", "(I)Z"⟩ "RoundKeepers", .methodLinkNest "RoundKeepers$Leader" 254 ⟨"RoundKeepers", "isMajority", "(II)Z"⟩ "RoundKeepers", .methodLinkNest "RoundKeepers$Slots" 42 ⟨"RoundKeepers", "isMajority", "(II)Z"⟩ "RoundKeepers", .methodLinkNest "RoundKeepers$Slots" 55 ⟨"RoundKeepers", "areTwo", "(I)Z"⟩ "RoundKeepers", .methodLinkNest "RoundKeepers$Keeping" 108 ⟨"RoundKeepers", "areTwo", "(I)Z"⟩ "RoundKeepers", .methodLinkNest "RoundKeepers$Voter" 82 ⟨"RoundKeepers", "isSlot", "(I)Z"⟩ "RoundKeepers", .methodLinkNest "RoundKeepers$Tally" 35 ⟨"RoundKeepers", "isSlot", "(I)Z"⟩ "RoundKeepers", .methodLinkNest "RoundKeepers$Tally" 39 ⟨"RoundKeepers", "isMajority", "(II)Z"⟩ "RoundKeepers", .methodLinkNest "RoundKeepers$Copies" 37 ⟨"RoundKeepers", "isSlot", "(I)Z"⟩ "RoundKeepers"]
def cx_iS (c : String) : MethodName := ⟨c, "<init>", "(Ljava/lang/String;)V"⟩
def cx_face : List Cond := [.declares (cx_iS "java/lang/RuntimeException"), .declares (cx_iS "java/lang/Exception"), .declares (cx_iS "java/lang/Throwable"), .castable (cx_E 100) (cx_E 100), .castable (cx_E 101) (cx_E 101), .castable (cx_E 102) (cx_E 102)]
def cx_strs : List (String × Nat × String) := [("RoundKeepers", 263, "there is no such node, message, slot, what or place"), ("RoundKeepers", 87, "the round is not the leader's next, or that is no group"), ("RoundKeepers", 258, "the leader is down"), ("RoundKeepers", 107, "the value is not 1 .. 1000000"), ("RoundKeepers", 129, "the ballot is not the leader's next, or that is no set"), ("RoundKeepers", 156, "the number is not 0 .. 2000")]
def cx_K (G : GE) (s : State) : Prop := va_K (ge_D G) cx_cl (cx_tys G) s ∧ (∀ w ∈ cx_nest, va_Nw w s) ∧ (∀ q ∈ cx_strs, ∃ sa : Nat, vk_R q.1 q.2.1 q.2.2 sa s) ∧ va_AO RX6 s ∧ va_AO RX5 s ∧ va_AO RX3 s ∧ va_AO RX10 s ∧ (∀ w ∈ cx_face, va_Nw w s) ∧ va_Nc (cx_E 101) (cx_E 100) s ∧ va_Nc (cx_E 102) (cx_E 100) s ∧ va_Nc (cx_E 102) (cx_E 101) s
def cx_C (G : GE) (M : MT) (p : Program) (s : State) (m : MethodId) (args : Array Value) (meth : Method) (c : Code) : Prop :=
  p.tables.exec = Jvm.exec ∧ c.code = mt_b M ∧ c.maxLocals = mt_l M ∧ s.vm.findClass (mt_y M).cls = some m.cls ∧ (∀ w ∈ lw_tbl, goodWord w = true → w.before args s = true) ∧ meth.sig.returnType = mt_r M ∧ meth.locks = false ∧ meth.name = (mt_y M).name ∧ c.exceptionTable.toList = tableOf (mt_h M) ∧ cx_K G s ∧ (ge_l G).stackTraces = false ∧ ge_b G ≤ s.heap.size
abbrev RT : Type := Option Value ⊕ String
def ex_Qc (G : GE) (Q : RT → GT → Prop) : Array Value → State → Outcome → State → Prop := fun _ _ o t => ∃ (v : Option Value) (g : GT), o = .returned v ∧ Q (.inl v) g ∧ gx_H G t g t.heap
def ex_XC (G : GE) (Q : RT → GT → Prop) : String → State → State → Prop := fun E _ t => ∃ g : GT, Q (.inr E) g ∧ gx_H G t g t.heap
/-- from here the method comes to its end with Q: depth d, cells mc and slots ms at most -/
def ex_W (G : GE) (d mc ms : Nat) (M : MT) (pc : Nat) (ls : List (Nat × Value)) (st : List Value) (g : GT) (Q : RT → GT → Prop) : Prop :=
  ∀ (p : Program) (e : Env) (R : Room) (s : State) (m : MethodId) (args : Array Value) (below : List Frame) (meth : Method) (c : Code) (H : Heap) (locs : List Loc) (cells slots MC MS : Nat) (L : Array Slot),
    cx_C G M p s m args meth c → d + 8 ≤ R.frames ∧ 60 * (d + 8) ≤ R.locals → cells + mc ≤ MC ∧ slots + ms ≤ MS ∧ MC ≤ R.cells ∧ MS ≤ R.slots → gx_H G s g H → lv_has L (mt_l M) ls → (∀ z ∈ locs, ge_b G ≤ z.base) →
    W p (ge_l G) e R s m args below meth c H locs cells slots (vx_MQ below (ex_Qc G Q) (ex_XC G Q) args s MC MS (fun q => ge_b G ≤ q)) (F0 m pc L st)
theorem lx_get {ls : List (Nat × Value)} {L : Array Slot} {n i : Nat} {v : Value} (h : lv_has L n ls) (hi : ls.lookup i = some v) : L[i]? = some (.val v) := h.2.2 (i, v) (mt_mem hi)
def lx_set (ls : List (Nat × Value)) (i : Nat) (v : Value) : List (Nat × Value) := (i, v) :: ls.filter (fun q => !(q.1 == i) && !(q.1 + 1 == i && q.2.category == 2))
section EX
variable {G : GE} {d mc ms : Nat} {M : MT} {pc : Nat} {ls : List (Nat × Value)} {st : List Value} {g : GT} {Q : RT → GT → Prop}
theorem ex_iconst {n : Int} (hM : mt_ok M = true) (hf : mt_in M pc (.iconst n) 1)  (k : ex_W G d mc ms M (pc + 1) ls (.int (Int32.ofInt n) :: st) g Q) : ex_W G d mc ms M pc ls (st) g Q := by
  intro p e R s m args9 below meth c H locs cells slots MC MS L hC hR hB hH hl hz
  exact lv_iconst hC.1 hC.2.1 (mt_dec hM hf) rfl (k p e R s m args9 below meth c H locs cells slots MC MS L hC hR hB hH hl hz)
theorem ex_bipush {n : Int} (hM : mt_ok M = true) (hf : mt_in M pc (.bipush n) 2)  (k : ex_W G d mc ms M (pc + 2) ls (.int (Int8.ofInt n).toInt32 :: st) g Q) : ex_W G d mc ms M pc ls (st) g Q := by
  intro p e R s m args9 below meth c H locs cells slots MC MS L hC hR hB hH hl hz
  exact lv_bipush hC.1 hC.2.1 (mt_dec hM hf) rfl (k p e R s m args9 below meth c H locs cells slots MC MS L hC hR hB hH hl hz)
theorem ex_sipush {n : Int} (hM : mt_ok M = true) (hf : mt_in M pc (.sipush n) 3)  (k : ex_W G d mc ms M (pc + 3) ls (.int (Int16.ofInt n).toInt32 :: st) g Q) : ex_W G d mc ms M pc ls (st) g Q := by
  intro p e R s m args9 below meth c H locs cells slots MC MS L hC hR hB hH hl hz
  exact lv_sipush hC.1 hC.2.1 (mt_dec hM hf) rfl (k p e R s m args9 below meth c H locs cells slots MC MS L hC hR hB hH hl hz)
theorem ex_lconst {n : Fin 2} (hM : mt_ok M = true) (hf : mt_in M pc (.lconst n) 1)  (k : ex_W G d mc ms M (pc + 1) ls (.long (Int64.ofNat n) :: st) g Q) : ex_W G d mc ms M pc ls (st) g Q := by
  intro p e R s m args9 below meth c H locs cells slots MC MS L hC hR hB hH hl hz
  exact lv_lconst hC.1 hC.2.1 (mt_dec hM hf) rfl (k p e R s m args9 below meth c H locs cells slots MC MS L hC hR hB hH hl hz)
theorem ex_iload_n {n : Fin 4} {x : Int32} (hM : mt_ok M = true) (hf : mt_in M pc (.iload_n n) 1) (hv : ls.lookup (n : Nat) = some (.int x)) (k : ex_W G d mc ms M (pc + 1) ls (.int x :: st) g Q) : ex_W G d mc ms M pc ls (st) g Q := by
  intro p e R s m args9 below meth c H locs cells slots MC MS L hC hR hB hH hl hz
  exact lv_iload_n hC.1 hC.2.1 (mt_dec hM hf) rfl (lx_get hl hv) (k p e R s m args9 below meth c H locs cells slots MC MS L hC hR hB hH hl hz)
theorem ex_iload {n : Nat} {x : Int32} (hM : mt_ok M = true) (hf : mt_in M pc (.iload n) 2) (hv : ls.lookup n = some (.int x)) (k : ex_W G d mc ms M (pc + 2) ls (.int x :: st) g Q) : ex_W G d mc ms M pc ls (st) g Q := by
  intro p e R s m args9 below meth c H locs cells slots MC MS L hC hR hB hH hl hz
  exact lv_iload hC.1 hC.2.1 (mt_dec hM hf) (lx_get hl hv) (k p e R s m args9 below meth c H locs cells slots MC MS L hC hR hB hH hl hz)
theorem ex_lload_n {n : Fin 4} {x : Int64} (hM : mt_ok M = true) (hf : mt_in M pc (.lload_n n) 1) (hv : ls.lookup (n : Nat) = some (.long x)) (k : ex_W G d mc ms M (pc + 1) ls (.long x :: st) g Q) : ex_W G d mc ms M pc ls (st) g Q := by
  intro p e R s m args9 below meth c H locs cells slots MC MS L hC hR hB hH hl hz
  exact lv_lload_n hC.1 hC.2.1 (mt_dec hM hf) rfl (lx_get hl hv) (k p e R s m args9 below meth c H locs cells slots MC MS L hC hR hB hH hl hz)
theorem ex_aload_n {n : Fin 4} {x : Nat} (hM : mt_ok M = true) (hf : mt_in M pc (.aload_n n) 1) (hv : ls.lookup (n : Nat) = some (.ref x)) (k : ex_W G d mc ms M (pc + 1) ls (.ref x :: st) g Q) : ex_W G d mc ms M pc ls (st) g Q := by
  intro p e R s m args9 below meth c H locs cells slots MC MS L hC hR hB hH hl hz
  exact lv_aload_n hC.1 hC.2.1 (mt_dec hM hf) rfl (lx_get hl hv) (k p e R s m args9 below meth c H locs cells slots MC MS L hC hR hB hH hl hz)
theorem ex_aload {n : Nat} {x : Nat} (hM : mt_ok M = true) (hf : mt_in M pc (.aload n) 2) (hv : ls.lookup n = some (.ref x)) (k : ex_W G d mc ms M (pc + 2) ls (.ref x :: st) g Q) : ex_W G d mc ms M pc ls (st) g Q := by
  intro p e R s m args9 below meth c H locs cells slots MC MS L hC hR hB hH hl hz
  exact lv_aload hC.1 hC.2.1 (mt_dec hM hf) (lx_get hl hv) (k p e R s m args9 below meth c H locs cells slots MC MS L hC hR hB hH hl hz)
theorem ex_iadd {x y : Int32} (hM : mt_ok M = true) (hf : mt_in M pc (.iadd) 1)  (k : ex_W G d mc ms M (pc + 1) ls (.int (x + y) :: st) g Q) : ex_W G d mc ms M pc ls (.int y :: .int x :: st) g Q := by
  intro p e R s m args9 below meth c H locs cells slots MC MS L hC hR hB hH hl hz
  exact lv_iadd hC.1 hC.2.1 (mt_dec hM hf)  (k p e R s m args9 below meth c H locs cells slots MC MS L hC hR hB hH hl hz)
theorem ex_isub {x y : Int32} (hM : mt_ok M = true) (hf : mt_in M pc (.isub) 1)  (k : ex_W G d mc ms M (pc + 1) ls (.int (x - y) :: st) g Q) : ex_W G d mc ms M pc ls (.int y :: .int x :: st) g Q := by
  intro p e R s m args9 below meth c H locs cells slots MC MS L hC hR hB hH hl hz
  exact lv_isub hC.1 hC.2.1 (mt_dec hM hf)  (k p e R s m args9 below meth c H locs cells slots MC MS L hC hR hB hH hl hz)
theorem ex_imul {x y : Int32} (hM : mt_ok M = true) (hf : mt_in M pc (.imul) 1)  (k : ex_W G d mc ms M (pc + 1) ls (.int (x * y) :: st) g Q) : ex_W G d mc ms M pc ls (.int y :: .int x :: st) g Q := by
  intro p e R s m args9 below meth c H locs cells slots MC MS L hC hR hB hH hl hz
  exact lv_imul hC.1 hC.2.1 (mt_dec hM hf)  (k p e R s m args9 below meth c H locs cells slots MC MS L hC hR hB hH hl hz)
theorem ex_iand {x y : Int32} (hM : mt_ok M = true) (hf : mt_in M pc (.iand) 1)  (k : ex_W G d mc ms M (pc + 1) ls (.int (x &&& y) :: st) g Q) : ex_W G d mc ms M pc ls (.int y :: .int x :: st) g Q := by
  intro p e R s m args9 below meth c H locs cells slots MC MS L hC hR hB hH hl hz
  exact lv_iand hC.1 hC.2.1 (mt_dec hM hf)  (k p e R s m args9 below meth c H locs cells slots MC MS L hC hR hB hH hl hz)
theorem ex_ior {x y : Int32} (hM : mt_ok M = true) (hf : mt_in M pc (.ior) 1)  (k : ex_W G d mc ms M (pc + 1) ls (.int (x ||| y) :: st) g Q) : ex_W G d mc ms M pc ls (.int y :: .int x :: st) g Q := by
  intro p e R s m args9 below meth c H locs cells slots MC MS L hC hR hB hH hl hz
  exact lv_ior hC.1 hC.2.1 (mt_dec hM hf)  (k p e R s m args9 below meth c H locs cells slots MC MS L hC hR hB hH hl hz)
theorem ex_ixor {x y : Int32} (hM : mt_ok M = true) (hf : mt_in M pc (.ixor) 1)  (k : ex_W G d mc ms M (pc + 1) ls (.int (x ^^^ y) :: st) g Q) : ex_W G d mc ms M pc ls (.int y :: .int x :: st) g Q := by
  intro p e R s m args9 below meth c H locs cells slots MC MS L hC hR hB hH hl hz
  exact lv_ixor hC.1 hC.2.1 (mt_dec hM hf)  (k p e R s m args9 below meth c H locs cells slots MC MS L hC hR hB hH hl hz)
theorem ex_ishl {x y : Int32} (hM : mt_ok M = true) (hf : mt_in M pc (.ishl) 1)  (k : ex_W G d mc ms M (pc + 1) ls (.int (x <<< (y &&& 31)) :: st) g Q) : ex_W G d mc ms M pc ls (.int y :: .int x :: st) g Q := by
  intro p e R s m args9 below meth c H locs cells slots MC MS L hC hR hB hH hl hz
  exact lv_ishl hC.1 hC.2.1 (mt_dec hM hf)  (k p e R s m args9 below meth c H locs cells slots MC MS L hC hR hB hH hl hz)
theorem ex_ishr {x y : Int32} (hM : mt_ok M = true) (hf : mt_in M pc (.ishr) 1)  (k : ex_W G d mc ms M (pc + 1) ls (.int (x >>> (y &&& 31)) :: st) g Q) : ex_W G d mc ms M pc ls (.int y :: .int x :: st) g Q := by
  intro p e R s m args9 below meth c H locs cells slots MC MS L hC hR hB hH hl hz
  exact lv_ishr hC.1 hC.2.1 (mt_dec hM hf)  (k p e R s m args9 below meth c H locs cells slots MC MS L hC hR hB hH hl hz)
theorem ex_iushr {x y : Int32} (hM : mt_ok M = true) (hf : mt_in M pc (.iushr) 1)  (k : ex_W G d mc ms M (pc + 1) ls (.int (x.toUInt32 >>> (y.toUInt32 &&& Int32.toUInt32 31)).toInt32 :: st) g Q) : ex_W G d mc ms M pc ls (.int y :: .int x :: st) g Q := by
  intro p e R s m args9 below meth c H locs cells slots MC MS L hC hR hB hH hl hz
  exact lv_iushr hC.1 hC.2.1 (mt_dec hM hf) rfl (k p e R s m args9 below meth c H locs cells slots MC MS L hC hR hB hH hl hz)
theorem ex_idiv {x y : Int32} (hM : mt_ok M = true) (hf : mt_in M pc (.idiv) 1) (hne : ¬ y = 0) (k : ex_W G d mc ms M (pc + 1) ls (.int (x / y) :: st) g Q) : ex_W G d mc ms M pc ls (.int y :: .int x :: st) g Q := by
  intro p e R s m args9 below meth c H locs cells slots MC MS L hC hR hB hH hl hz
  exact lv_idiv hC.1 hC.2.1 (mt_dec hM hf) hne (k p e R s m args9 below meth c H locs cells slots MC MS L hC hR hB hH hl hz)
theorem ex_irem {x y : Int32} (hM : mt_ok M = true) (hf : mt_in M pc (.irem) 1) (hne : ¬ y = 0) (k : ex_W G d mc ms M (pc + 1) ls (.int (x - x / y * y) :: st) g Q) : ex_W G d mc ms M pc ls (.int y :: .int x :: st) g Q := by
  intro p e R s m args9 below meth c H locs cells slots MC MS L hC hR hB hH hl hz
  exact lv_irem hC.1 hC.2.1 (mt_dec hM hf) hne (k p e R s m args9 below meth c H locs cells slots MC MS L hC hR hB hH hl hz)
theorem ex_lor {x y : Int64} (hM : mt_ok M = true) (hf : mt_in M pc (.lor) 1)  (k : ex_W G d mc ms M (pc + 1) ls (.long (x ||| y) :: st) g Q) : ex_W G d mc ms M pc ls (.long y :: .long x :: st) g Q := by
  intro p e R s m args9 below meth c H locs cells slots MC MS L hC hR hB hH hl hz
  exact lv_lor hC.1 hC.2.1 (mt_dec hM hf)  (k p e R s m args9 below meth c H locs cells slots MC MS L hC hR hB hH hl hz)
theorem ex_i2l {x : Int32} (hM : mt_ok M = true) (hf : mt_in M pc (.i2l) 1)  (k : ex_W G d mc ms M (pc + 1) ls (.long x.toInt64 :: st) g Q) : ex_W G d mc ms M pc ls (.int x :: st) g Q := by
  intro p e R s m args9 below meth c H locs cells slots MC MS L hC hR hB hH hl hz
  exact lv_i2l hC.1 hC.2.1 (mt_dec hM hf) rfl (k p e R s m args9 below meth c H locs cells slots MC MS L hC hR hB hH hl hz)
theorem ex_l2i {x : Int64} (hM : mt_ok M = true) (hf : mt_in M pc (.l2i) 1)  (k : ex_W G d mc ms M (pc + 1) ls (.int x.toInt32 :: st) g Q) : ex_W G d mc ms M pc ls (.long x :: st) g Q := by
  intro p e R s m args9 below meth c H locs cells slots MC MS L hC hR hB hH hl hz
  exact lv_l2i hC.1 hC.2.1 (mt_dec hM hf) rfl (k p e R s m args9 below meth c H locs cells slots MC MS L hC hR hB hH hl hz)
theorem ex_lushr {x : Int64} {y : Int32} (hM : mt_ok M = true) (hf : mt_in M pc (.lushr) 1)  (k : ex_W G d mc ms M (pc + 1) ls (.long (x.toUInt64 >>> (y.toInt64.toUInt64 &&& Int64.toUInt64 63)).toInt64 :: st) g Q) : ex_W G d mc ms M pc ls (.int y :: .long x :: st) g Q := by
  intro p e R s m args9 below meth c H locs cells slots MC MS L hC hR hB hH hl hz
  exact lv_lushr hC.1 hC.2.1 (mt_dec hM hf) rfl (k p e R s m args9 below meth c H locs cells slots MC MS L hC hR hB hH hl hz)
theorem ex_lshl {x : Int64} {y : Int32} (hM : mt_ok M = true) (hf : mt_in M pc (.lshl) 1)  (k : ex_W G d mc ms M (pc + 1) ls (.long (x <<< (y.toInt64 &&& 63)) :: st) g Q) : ex_W G d mc ms M pc ls (.int y :: .long x :: st) g Q := by
  intro p e R s m args9 below meth c H locs cells slots MC MS L hC hR hB hH hl hz
  exact lv_lshl hC.1 hC.2.1 (mt_dec hM hf) rfl (k p e R s m args9 below meth c H locs cells slots MC MS L hC hR hB hH hl hz)
theorem ex_lcmp {x y : Int64} (hM : mt_ok M = true) (hf : mt_in M pc (.lcmp) 1)  (k : ex_W G d mc ms M (pc + 1) ls (.int (lg_cmp x y) :: st) g Q) : ex_W G d mc ms M pc ls (.long y :: .long x :: st) g Q := by
  intro p e R s m args9 below meth c H locs cells slots MC MS L hC hR hB hH hl hz
  exact W.lcmp hC.1 hC.2.1 (mt_dec hM hf)  (k p e R s m args9 below meth c H locs cells slots MC MS L hC hR hB hH hl hz)
theorem ex_dup {v : Value} (hM : mt_ok M = true) (hf : mt_in M pc (.dup) 1) (hv : v.category = 1) (k : ex_W G d mc ms M (pc + 1) ls (v :: v :: st) g Q) : ex_W G d mc ms M pc ls (v :: st) g Q := by
  intro p e R s m args9 below meth c H locs cells slots MC MS L hC hR hB hH hl hz
  exact lv_dup hC.1 hC.2.1 (mt_dec hM hf) hv (k p e R s m args9 below meth c H locs cells slots MC MS L hC hR hB hH hl hz)
theorem ex_pop {v : Value} (hM : mt_ok M = true) (hf : mt_in M pc (.pop) 1) (hv : v.category = 1) (k : ex_W G d mc ms M (pc + 1) ls (st) g Q) : ex_W G d mc ms M pc ls (v :: st) g Q := by
  intro p e R s m args9 below meth c H locs cells slots MC MS L hC hR hB hH hl hz
  exact lv_pop hC.1 hC.2.1 (mt_dec hM hf) hv (k p e R s m args9 below meth c H locs cells slots MC MS L hC hR hB hH hl hz)
theorem ex_dup2 {v w : Value} (hM : mt_ok M = true) (hf : mt_in M pc (.dup2) 1) (hv : v.category = 1) (hw : w.category = 1) (k : ex_W G d mc ms M (pc + 1) ls (v :: w :: v :: w :: st) g Q) : ex_W G d mc ms M pc ls (v :: w :: st) g Q := by
  intro p e R s m args9 below meth c H locs cells slots MC MS L hC hR hB hH hl hz
  exact lv_dup2_11 hC.1 hC.2.1 (mt_dec hM hf) hv hw (k p e R s m args9 below meth c H locs cells slots MC MS L hC hR hB hH hl hz)
theorem mt_kin {n : Nat} {v : Int32} (hv : (mt_i M).lookup n = some v) : Cond.constant (mt_y M).cls n v ∈ mt_need M := List.mem_append_right _ (List.mem_map.mpr ⟨(n, v), mt_mem hv, rfl⟩)
theorem ex_ldc {n : Nat} {v : Int32} (hM : mt_ok M = true) (hf : mt_in M pc (.ldc n) 2) (hv : (mt_i M).lookup n = some v) (k : ex_W G d mc ms M (pc + 2) ls (.int v :: st) g Q) : ex_W G d mc ms M pc ls st g Q := by
  intro p e R s m args9 below meth c H locs cells slots MC MS L hC hR hB hH hl hz
  have hw := (mt_ok_spec hM).2.1 _ (mt_kin hv)
  exact lv_ldc hC.1 hC.2.1 hC.2.2.2.1 (hC.2.2.2.2.1 _ hw.1 hw.2) (mt_dec hM hf) (k p e R s m args9 below meth c H locs cells slots MC MS L hC hR hB hH hl hz)
theorem ex_istore_n {n : Fin 4} {x : Int32} (hM : mt_ok M = true) (hf : mt_in M pc (.istore_n n) 1) (k : ex_W G d mc ms M (pc + 1) (lx_set ls (n : Nat) (.int x)) st g Q) : ex_W G d mc ms M pc ls (.int x :: st) g Q := by
  intro p e R s m args9 below meth c H locs cells slots MC MS L hC hR hB hH hl hz
  exact lv_istore_n hC.1 hC.2.1 (mt_dec hM hf) rfl hl (of_decide_eq_true (mt_iok hM hf)) rfl (fun L1 hl1 => k p e R s m args9 below meth c H locs cells slots MC MS L1 hC hR hB hH hl1 hz)
theorem ex_istore {n : Nat} {x : Int32} (hM : mt_ok M = true) (hf : mt_in M pc (.istore n) 2) (k : ex_W G d mc ms M (pc + 2) (lx_set ls n (.int x)) st g Q) : ex_W G d mc ms M pc ls (.int x :: st) g Q := by
  intro p e R s m args9 below meth c H locs cells slots MC MS L hC hR hB hH hl hz
  exact lv_istore hC.1 hC.2.1 (mt_dec hM hf)  hl (of_decide_eq_true (mt_iok hM hf)) rfl (fun L1 hl1 => k p e R s m args9 below meth c H locs cells slots MC MS L1 hC hR hB hH hl1 hz)
theorem ex_astore_n {n : Fin 4} {x : Nat} (hM : mt_ok M = true) (hf : mt_in M pc (.astore_n n) 1) (k : ex_W G d mc ms M (pc + 1) (lx_set ls (n : Nat) (.ref x)) st g Q) : ex_W G d mc ms M pc ls (.ref x :: st) g Q := by
  intro p e R s m args9 below meth c H locs cells slots MC MS L hC hR hB hH hl hz
  exact lv_astore_n hC.1 hC.2.1 (mt_dec hM hf) rfl hl (of_decide_eq_true (mt_iok hM hf)) rfl (fun L1 hl1 => k p e R s m args9 below meth c H locs cells slots MC MS L1 hC hR hB hH hl1 hz)
theorem ex_astore {n : Nat} {x : Nat} (hM : mt_ok M = true) (hf : mt_in M pc (.astore n) 2) (k : ex_W G d mc ms M (pc + 2) (lx_set ls n (.ref x)) st g Q) : ex_W G d mc ms M pc ls (.ref x :: st) g Q := by
  intro p e R s m args9 below meth c H locs cells slots MC MS L hC hR hB hH hl hz
  exact lv_astore hC.1 hC.2.1 (mt_dec hM hf)  hl (of_decide_eq_true (mt_iok hM hf)) rfl (fun L1 hl1 => k p e R s m args9 below meth c H locs cells slots MC MS L1 hC hR hB hH hl1 hz)
theorem ex_iinc {n : Nat} {j : Int} {x : Int32} (hM : mt_ok M = true) (hf : mt_in M pc (.iinc n j) 3) (hv : ls.lookup n = some (.int x)) (k : ex_W G d mc ms M (pc + 3) (lx_set ls n (.int (x + Int32.ofInt j))) st g Q) : ex_W G d mc ms M pc ls st g Q := by
  intro p e R s m args9 below meth c H locs cells slots MC MS L hC hR hB hH hl hz
  obtain ⟨k0, hk0⟩ := List.getElem?_of_mem (mt_mem hv)
  exact lv_iinc hC.1 hC.2.1 (mt_dec hM hf) hl hk0 rfl (of_decide_eq_true (mt_iok hM hf)) rfl (fun L1 hl1 => k p e R s m args9 below meth c H locs cells slots MC MS L1 hC hR hB hH hl1 hz)
theorem ex_goto {off : Int} {tgt : Nat} (hM : mt_ok M = true) (hf : mt_in M pc (.goto off) 3) (ht : (pc : Int) + off = (tgt : Int)) (k : ex_W G d mc ms M tgt ls st g Q) : ex_W G d mc ms M pc ls st g Q := by
  intro p e R s m args9 below meth c H locs cells slots MC MS L hC hR hB hH hl hz
  exact lv_goto hC.1 hC.2.1 (mt_dec hM hf) ht (k p e R s m args9 below meth c H locs cells slots MC MS L hC hR hB hH hl hz)
theorem ex_icmp_eq {off : Int} {tgt : Nat} {x y : Int32} (hM : mt_ok M = true) (hf : mt_in M pc (.if_icmp .eq off) 3) (ht : (pc : Int) + off = (tgt : Int)) (k1 : x = y → ex_W G d mc ms M tgt ls st g Q) (k2 : ¬ (x = y) → ex_W G d mc ms M (pc + 3) ls st g Q) : ex_W G d mc ms M pc ls (.int y :: .int x :: st) g Q := by
  intro p e R s m args9 below meth c H locs cells slots MC MS L hC hR hB hH hl hz
  exact lv_icmp_eq hC.1 hC.2.1 (mt_dec hM hf) ht (fun h => k1 h p e R s m args9 below meth c H locs cells slots MC MS L hC hR hB hH hl hz) (fun h => k2 h p e R s m args9 below meth c H locs cells slots MC MS L hC hR hB hH hl hz)
theorem ex_icmp_ne {off : Int} {tgt : Nat} {x y : Int32} (hM : mt_ok M = true) (hf : mt_in M pc (.if_icmp .ne off) 3) (ht : (pc : Int) + off = (tgt : Int)) (k1 : x ≠ y → ex_W G d mc ms M tgt ls st g Q) (k2 : x = y → ex_W G d mc ms M (pc + 3) ls st g Q) : ex_W G d mc ms M pc ls (.int y :: .int x :: st) g Q := by
  intro p e R s m args9 below meth c H locs cells slots MC MS L hC hR hB hH hl hz
  exact lv_icmp_ne hC.1 hC.2.1 (mt_dec hM hf) ht (fun h => k1 h p e R s m args9 below meth c H locs cells slots MC MS L hC hR hB hH hl hz) (fun h => k2 h p e R s m args9 below meth c H locs cells slots MC MS L hC hR hB hH hl hz)
theorem ex_icmp_lt {off : Int} {tgt : Nat} {x y : Int32} (hM : mt_ok M = true) (hf : mt_in M pc (.if_icmp .lt off) 3) (ht : (pc : Int) + off = (tgt : Int)) (k1 : x < y → ex_W G d mc ms M tgt ls st g Q) (k2 : ¬ (x < y) → ex_W G d mc ms M (pc + 3) ls st g Q) : ex_W G d mc ms M pc ls (.int y :: .int x :: st) g Q := by
  intro p e R s m args9 below meth c H locs cells slots MC MS L hC hR hB hH hl hz
  exact lv_icmp_lt hC.1 hC.2.1 (mt_dec hM hf) ht (fun h => k1 h p e R s m args9 below meth c H locs cells slots MC MS L hC hR hB hH hl hz) (fun h => k2 h p e R s m args9 below meth c H locs cells slots MC MS L hC hR hB hH hl hz)
theorem ex_icmp_ge {off : Int} {tgt : Nat} {x y : Int32} (hM : mt_ok M = true) (hf : mt_in M pc (.if_icmp .ge off) 3) (ht : (pc : Int) + off = (tgt : Int)) (k1 : y ≤ x → ex_W G d mc ms M tgt ls st g Q) (k2 : ¬ (y ≤ x) → ex_W G d mc ms M (pc + 3) ls st g Q) : ex_W G d mc ms M pc ls (.int y :: .int x :: st) g Q := by
  intro p e R s m args9 below meth c H locs cells slots MC MS L hC hR hB hH hl hz
  exact lv_icmp_ge hC.1 hC.2.1 (mt_dec hM hf) ht (fun h => k1 h p e R s m args9 below meth c H locs cells slots MC MS L hC hR hB hH hl hz) (fun h => k2 h p e R s m args9 below meth c H locs cells slots MC MS L hC hR hB hH hl hz)
theorem ex_icmp_gt {off : Int} {tgt : Nat} {x y : Int32} (hM : mt_ok M = true) (hf : mt_in M pc (.if_icmp .gt off) 3) (ht : (pc : Int) + off = (tgt : Int)) (k1 : y < x → ex_W G d mc ms M tgt ls st g Q) (k2 : ¬ (y < x) → ex_W G d mc ms M (pc + 3) ls st g Q) : ex_W G d mc ms M pc ls (.int y :: .int x :: st) g Q := by
  intro p e R s m args9 below meth c H locs cells slots MC MS L hC hR hB hH hl hz
  exact lv_icmp_gt hC.1 hC.2.1 (mt_dec hM hf) ht (fun h => k1 h p e R s m args9 below meth c H locs cells slots MC MS L hC hR hB hH hl hz) (fun h => k2 h p e R s m args9 below meth c H locs cells slots MC MS L hC hR hB hH hl hz)
theorem ex_icmp_le {off : Int} {tgt : Nat} {x y : Int32} (hM : mt_ok M = true) (hf : mt_in M pc (.if_icmp .le off) 3) (ht : (pc : Int) + off = (tgt : Int)) (k1 : x ≤ y → ex_W G d mc ms M tgt ls st g Q) (k2 : ¬ (x ≤ y) → ex_W G d mc ms M (pc + 3) ls st g Q) : ex_W G d mc ms M pc ls (.int y :: .int x :: st) g Q := by
  intro p e R s m args9 below meth c H locs cells slots MC MS L hC hR hB hH hl hz
  exact lv_icmp_le hC.1 hC.2.1 (mt_dec hM hf) ht (fun h => k1 h p e R s m args9 below meth c H locs cells slots MC MS L hC hR hB hH hl hz) (fun h => k2 h p e R s m args9 below meth c H locs cells slots MC MS L hC hR hB hH hl hz)
theorem ex_if_eq {off : Int} {tgt : Nat} {x : Int32} (hM : mt_ok M = true) (hf : mt_in M pc (.ifCond .eq off) 3) (ht : (pc : Int) + off = (tgt : Int)) (k1 : x = 0 → ex_W G d mc ms M tgt ls st g Q) (k2 : ¬ (x = 0) → ex_W G d mc ms M (pc + 3) ls st g Q) : ex_W G d mc ms M pc ls (.int x :: st) g Q := by
  intro p e R s m args9 below meth c H locs cells slots MC MS L hC hR hB hH hl hz
  exact lv_if_eq hC.1 hC.2.1 (mt_dec hM hf) ht (fun h => k1 h p e R s m args9 below meth c H locs cells slots MC MS L hC hR hB hH hl hz) (fun h => k2 h p e R s m args9 below meth c H locs cells slots MC MS L hC hR hB hH hl hz)
theorem ex_if_ne {off : Int} {tgt : Nat} {x : Int32} (hM : mt_ok M = true) (hf : mt_in M pc (.ifCond .ne off) 3) (ht : (pc : Int) + off = (tgt : Int)) (k1 : x ≠ 0 → ex_W G d mc ms M tgt ls st g Q) (k2 : x = 0 → ex_W G d mc ms M (pc + 3) ls st g Q) : ex_W G d mc ms M pc ls (.int x :: st) g Q := by
  intro p e R s m args9 below meth c H locs cells slots MC MS L hC hR hB hH hl hz
  exact lv_if_ne hC.1 hC.2.1 (mt_dec hM hf) ht (fun h => k1 h p e R s m args9 below meth c H locs cells slots MC MS L hC hR hB hH hl hz) (fun h => k2 h p e R s m args9 below meth c H locs cells slots MC MS L hC hR hB hH hl hz)
theorem ex_if_lt {off : Int} {tgt : Nat} {x : Int32} (hM : mt_ok M = true) (hf : mt_in M pc (.ifCond .lt off) 3) (ht : (pc : Int) + off = (tgt : Int)) (k1 : x < 0 → ex_W G d mc ms M tgt ls st g Q) (k2 : ¬ (x < 0) → ex_W G d mc ms M (pc + 3) ls st g Q) : ex_W G d mc ms M pc ls (.int x :: st) g Q := by
  intro p e R s m args9 below meth c H locs cells slots MC MS L hC hR hB hH hl hz
  exact lv_if_lt hC.1 hC.2.1 (mt_dec hM hf) ht (fun h => k1 h p e R s m args9 below meth c H locs cells slots MC MS L hC hR hB hH hl hz) (fun h => k2 h p e R s m args9 below meth c H locs cells slots MC MS L hC hR hB hH hl hz)
theorem ex_if_ge {off : Int} {tgt : Nat} {x : Int32} (hM : mt_ok M = true) (hf : mt_in M pc (.ifCond .ge off) 3) (ht : (pc : Int) + off = (tgt : Int)) (k1 : 0 ≤ x → ex_W G d mc ms M tgt ls st g Q) (k2 : ¬ (0 ≤ x) → ex_W G d mc ms M (pc + 3) ls st g Q) : ex_W G d mc ms M pc ls (.int x :: st) g Q := by
  intro p e R s m args9 below meth c H locs cells slots MC MS L hC hR hB hH hl hz
  exact lv_if_ge hC.1 hC.2.1 (mt_dec hM hf) ht (fun h => k1 h p e R s m args9 below meth c H locs cells slots MC MS L hC hR hB hH hl hz) (fun h => k2 h p e R s m args9 below meth c H locs cells slots MC MS L hC hR hB hH hl hz)
theorem ex_if_gt {off : Int} {tgt : Nat} {x : Int32} (hM : mt_ok M = true) (hf : mt_in M pc (.ifCond .gt off) 3) (ht : (pc : Int) + off = (tgt : Int)) (k1 : 0 < x → ex_W G d mc ms M tgt ls st g Q) (k2 : ¬ (0 < x) → ex_W G d mc ms M (pc + 3) ls st g Q) : ex_W G d mc ms M pc ls (.int x :: st) g Q := by
  intro p e R s m args9 below meth c H locs cells slots MC MS L hC hR hB hH hl hz
  exact lv_if_gt hC.1 hC.2.1 (mt_dec hM hf) ht (fun h => k1 h p e R s m args9 below meth c H locs cells slots MC MS L hC hR hB hH hl hz) (fun h => k2 h p e R s m args9 below meth c H locs cells slots MC MS L hC hR hB hH hl hz)
theorem ex_if_le {off : Int} {tgt : Nat} {x : Int32} (hM : mt_ok M = true) (hf : mt_in M pc (.ifCond .le off) 3) (ht : (pc : Int) + off = (tgt : Int)) (k1 : x ≤ 0 → ex_W G d mc ms M tgt ls st g Q) (k2 : ¬ (x ≤ 0) → ex_W G d mc ms M (pc + 3) ls st g Q) : ex_W G d mc ms M pc ls (.int x :: st) g Q := by
  intro p e R s m args9 below meth c H locs cells slots MC MS L hC hR hB hH hl hz
  exact lv_if_le hC.1 hC.2.1 (mt_dec hM hf) ht (fun h => k1 h p e R s m args9 below meth c H locs cells slots MC MS L hC hR hB hH hl hz) (fun h => k2 h p e R s m args9 below meth c H locs cells slots MC MS L hC hR hB hH hl hz)
theorem ex_table {dflt lo hi : Int} {offs : Array Int} {len : Nat} {x : Int32} (hM : mt_ok M = true) (hf : mt_in M pc (.tableswitch dflt lo hi offs) len)
    (k1 : ∀ (off : Int) (tgt : Nat), lo ≤ x.toInt → x.toInt ≤ hi → offs[(x.toInt - lo).toNat]? = some off → (pc : Int) + off = (tgt : Int) → ex_W G d mc ms M tgt ls st g Q)
    (ok : ∀ off ∈ offs.toList, 0 ≤ (pc : Int) + off) (hsz : (offs.size : Int) = hi - lo + 1) (k2 : ∀ tgt : Nat, x.toInt < lo ∨ hi < x.toInt → (pc : Int) + dflt = (tgt : Int) → ex_W G d mc ms M tgt ls st g Q) (ok2 : 0 ≤ (pc : Int) + dflt) : ex_W G d mc ms M pc ls (.int x :: st) g Q := by
  intro p e R s m args9 below meth c H locs cells slots MC MS L hC hR hB hH hl hz
  by_cases h : x.toInt < lo ∨ hi < x.toInt
  · exact lv_tableOut (tgt := ((pc : Int) + dflt).toNat) hC.1 hC.2.1 (mt_dec hM hf) h (by omega) (k2 _ h (by omega) p e R s m args9 below meth c H locs cells slots MC MS L hC hR hB hH hl hz)
  · have hlt : (x.toInt - lo).toNat < offs.size := by omega
    have ho : offs[(x.toInt - lo).toNat]? = some offs[(x.toInt - lo).toNat] := Array.getElem?_eq_getElem hlt
    have hp : 0 ≤ (pc : Int) + offs[(x.toInt - lo).toNat] := ok _ (by simp)
    exact lv_tableIn (tgt := ((pc : Int) + offs[(x.toInt - lo).toNat]).toNat) hC.1 hC.2.1 (mt_dec hM hf) (by omega) (by omega) ho (by omega) (k1 _ _ (by omega) (by omega) ho (by omega) p e R s m args9 below meth c H locs cells slots MC MS L hC hR hB hH hl hz)
theorem ex_lookup {dflt : Int} {ps : Array (Int × Int)} {len : Nat} {x : Int32} {tgt : Nat} (hM : mt_ok M = true) (hf : mt_in M pc (.lookupswitch dflt ps) len) (hp : (ps.toList.zip (ps.toList.drop 1)).all (fun (a, next) => a.1 < next.1) = true)
    (ht : (pc : Int) + Op.lookupswitch.offset ps.toList dflt x.toInt = (tgt : Int)) (k : ex_W G d mc ms M tgt ls st g Q) : ex_W G d mc ms M pc ls (.int x :: st) g Q := by
  intro p e R s m args9 below meth c H locs cells slots MC MS L hC hR hB hH hl hz
  exact lv_lookup hC.1 hC.2.1 (mt_dec hM hf) hp rfl ht (k p e R s m args9 below meth c H locs cells slots MC MS L hC hR hB hH hl hz)
end EX
end
section
/-! ===== fields, arrays, answers ===== -/
theorem fx_nar {ty : FieldType} {x : Nat} (h : (∃ n, ty = .object n) ∨ ∃ t, ty = .array t) : narrow ty (.ref x) = .ref x ∧ fits ty (.ref x) = true := by
  rcases h with ⟨n, rfl⟩ | ⟨t, rfl⟩ <;> exact ⟨rfl, rfl⟩
/-- what the tables of the classes say, of all of them at once -/
theorem cx_facts : ∀ ci, ci < 13 → cx_cl[ci]? = some (cx_R ci, cx_T ci, cx_N ci) ∧ (∀ j, j < cx_N ci → parseFieldDescriptor (cx_T ci j).2.2.1 = some (cx_ty ci j)) ∧ (∀ a, a < cx_N ci → ∀ b, b < cx_N ci → a ≠ b → (cx_T ci a).2.1 ≠ (cx_T ci b).2.1) := by
  intro ci h
  match ci, h with
  | 0, _ => exact ⟨rfl, tyX0_ok, nmX0⟩
  | 1, _ => exact ⟨rfl, tyX1_ok, nmX1⟩
  | 2, _ => exact ⟨rfl, tyX2_ok, nmX2⟩
  | 3, _ => exact ⟨rfl, tyX3_ok, nmX3⟩
  | 4, _ => exact ⟨rfl, tyX4_ok, nmX4⟩
  | 5, _ => exact ⟨rfl, tyX5_ok, nmX5⟩
  | 6, _ => exact ⟨rfl, tyX6_ok, nmX6⟩
  | 7, _ => exact ⟨rfl, tyX1_ok, nmX1⟩
  | 8, _ => exact ⟨rfl, tyX8_ok, nmX8⟩
  | 9, _ => exact ⟨rfl, tyX9_ok, nmX9⟩
  | 10, _ => exact ⟨rfl, tyX10_ok, nmX10⟩
  | 11, _ => exact ⟨rfl, tyX11_ok, nmX11⟩
  | 12, _ => exact ⟨rfl, tyX12_ok, nmX12⟩
  | k + 13, h => omega
/-- which fields are references, and the types -/
def fx_tyOk (ty : FieldType) (r : Bool) : Bool := match ty with
  | .int => !r
  | .object _ => r
  | .array _ => r
  | _ => false
theorem fx_all : (List.range 13).all (fun ci => (List.range (cx_N ci)).all (fun j => fx_tyOk (cx_ty ci j) (fx_R ci j))) = true := by decide +kernel
theorem fx_at {ci j : Nat} (h : ci < 13) (hj : j < cx_N ci) : fx_tyOk (cx_ty ci j) (fx_R ci j) = true :=
  List.all_eq_true.mp (List.all_eq_true.mp fx_all ci (List.mem_range.mpr h)) j (List.mem_range.mpr hj)
theorem fx_ref {ci j : Nat} (h : ci < 13) (hj : j < cx_N ci) (hr : fx_R ci j = true) : (∃ n, cx_ty ci j = .object n) ∨ ∃ t, cx_ty ci j = .array t := by
  have h1 := fx_at h hj
  rw [hr] at h1
  cases e : cx_ty ci j <;> rw [e] at h1 <;> simp [fx_tyOk] at h1 ⊢
theorem fx_int {ci j : Nat} (h : ci < 13) (hj : j < cx_N ci) (hr : fx_R ci j = false) : cx_ty ci j = .int := by
  have h1 := fx_at h hj
  rw [hr] at h1
  cases e : cx_ty ci j <;> rw [e] at h1 <;> simp [fx_tyOk] at h1 ⊢
/-- all the field words of all classes stand in the tables, and are good -/
def cx_fw (ci : Nat) : List Cond := u_ws (cx_R ci) (cx_T ci) (cx_N ci)
end
section
theorem fw_0 : GoodIn lw_tbl (cx_fw 0) := goodIn_r _ [221, 223, 225, 227, 229, 231, 233] (by decide +kernel) (by decide +kernel)
theorem fw_1 : GoodIn lw_tbl (cx_fw 1) := goodIn_r _ [374, 376, 378, 380, 382, 384] (by decide +kernel) (by decide +kernel)
theorem fw_2 : GoodIn lw_tbl (cx_fw 2) := goodIn_r _ [269, 271, 273] (by decide +kernel) (by decide +kernel)
theorem fw_3 : GoodIn lw_tbl (cx_fw 3) := goodIn_r _ [463, 465, 467, 469, 471, 473, 475, 477, 479, 481, 483, 485] (by decide +kernel) (by decide +kernel)
theorem fw_4 : GoodIn lw_tbl (cx_fw 4) := goodIn_r _ [306, 308, 310, 312, 314, 316, 318, 320, 322, 324, 326, 328] (by decide +kernel) (by decide +kernel)
theorem fw_5 : GoodIn lw_tbl (cx_fw 5) := goodIn_r _ [408, 410, 412, 414, 416, 418, 420, 422, 424, 426, 428, 430, 432, 434, 436, 438, 440] (by decide +kernel) (by decide +kernel)
theorem fw_6 : GoodIn lw_tbl (cx_fw 6) := goodIn_r _ [191, 193, 195, 197, 199, 201, 203, 205, 207] (by decide +kernel) (by decide +kernel)
theorem fw_7 : GoodIn lw_tbl (cx_fw 7) := goodIn_r _ [374, 376, 378, 380, 382, 384] (by decide +kernel) (by decide +kernel)
theorem fw_8 : GoodIn lw_tbl (cx_fw 8) := goodIn_r _ [343, 345, 347, 349, 351, 353] (by decide +kernel) (by decide +kernel)
theorem fw_9 : GoodIn lw_tbl (cx_fw 9) := goodIn_r _ [248, 250, 252, 254] (by decide +kernel) (by decide +kernel)
theorem fw_10 : GoodIn lw_tbl (cx_fw 10) := goodIn_r _ [502, 504, 506, 508, 510, 512] (by decide +kernel) (by decide +kernel)
theorem fw_11 : GoodIn lw_tbl (cx_fw 11) := goodIn_r _ [936, 938, 940, 942, 944, 946, 948, 950, 952, 954] (by decide +kernel) (by decide +kernel)
theorem fw_12 : GoodIn lw_tbl (cx_fw 12) := goodIn_r _ [1602, 1604, 1606, 1608, 1610, 1612, 1614, 1616, 1618, 1620, 1622, 1624, 1626, 1628, 1630, 1632, 1634, 1636, 1638, 1640, 1642, 1644, 1646, 1648, 1650, 1652, 1654, 1656, 1658, 1660, 1662, 1664, 1666, 1668, 1670, 1672, 1674, 1676, 1678, 1680, 1682, 1684, 1686, 1688, 1690, 1692, 1694, 1696, 1698, 1700, 1702, 1704, 1706, 1708, 1710, 1712, 1714, 1716, 1718, 1720, 1722, 1724, 1726, 1728, 1730, 1732, 1734] (by decide +kernel) (by decide +kernel)
theorem fw_all : ∀ ci, ci < 13 → GoodIn lw_tbl (cx_fw ci) := by
  intro ci h
  match ci, h with
  | 0, _ => exact fw_0
  | 1, _ => exact fw_1
  | 2, _ => exact fw_2
  | 3, _ => exact fw_3
  | 4, _ => exact fw_4
  | 5, _ => exact fw_5
  | 6, _ => exact fw_6
  | 7, _ => exact fw_7
  | 8, _ => exact fw_8
  | 9, _ => exact fw_9
  | 10, _ => exact fw_10
  | 11, _ => exact fw_11
  | 12, _ => exact fw_12
  | k + 13, h => omega
theorem fw_w {G : GE} {M : MT} {p : Program} {s : State} {m : MethodId} {args : Array Value} {meth : Method} {c : Code} (hC : cx_C G M p s m args meth c) {ci : Nat} (h : ci < 13) : ∀ w ∈ cx_fw ci, w.before args s = true := fun w hw => by
  obtain ⟨h1, h2⟩ := fw_all ci h w hw
  rcases h2 with h2 | ⟨ty, rfl⟩
  · exact hC.2.2.2.2.1 w h1 (by cases w <;> first | rfl | exact h2)
  · exact hC.2.2.2.2.1 _ h1 rfl
theorem mt_fni {M : MT} {idx ci j : Nat} (hp : (mt_f M).lookup idx = some (ci, j)) : Cond.fieldLink (mt_y M).cls idx (cx_T ci j).1 (cx_T ci j).2.1 (cx_T ci j).2.2.1 ∈ mt_need M :=
  List.mem_append_left _ (List.mem_append_left _ (List.mem_append_left _ (List.mem_map.mpr ⟨(idx, ci, j), mt_mem hp, rfl⟩)))
theorem mt_wd {G : GE} {M : MT} {p : Program} {s : State} {m : MethodId} {args : Array Value} {meth : Method} {c : Code} (hM : mt_ok M = true) (hC : cx_C G M p s m args meth c) {w : Cond} (hw : w ∈ mt_need M) : w.before args s = true :=
  hC.2.2.2.2.1 w ((mt_ok_spec hM).2.1 w hw).1 ((mt_ok_spec hM).2.1 w hw).2
section EM
variable {G : GE} {d mc ms : Nat} {M : MT} {pc : Nat} {ls : List (Nat × Value)} {st : List Value} {g : GT} {Q : RT → GT → Prop}
theorem ex_get {idx ci j a : Nat} (hM : mt_ok M = true) (hf : mt_in M pc (.getfield idx) 3) (hp : (mt_f M).lookup idx = some (ci, j)) (hk : gx_K g a = ci + 1) (k : ex_W G d mc ms M (pc + 3) ls (fx_V g ci a j :: st) g Q) : ex_W G d mc ms M pc ls (.ref a :: st) g Q := by
  intro p e R s m args9 below meth c H locs cells slots MC MS L hC hR hB hH hl hz
  obtain ⟨hci, hj⟩ := (mt_ok_spec hM).2.2.1 _ (mt_mem hp)
  dsimp only at hci hj
  obtain ⟨hc, hty, hnm⟩ := cx_facts ci hci
  obtain ⟨r, hr, cell, q1, q2, q3, q4⟩ := (hH.2.2.2.1 a (by omega)).1 ci hk hci
  obtain rfl : r = (cx_R ci, cx_T ci, cx_N ci) := Option.some.inj (hr.symm.trans hc)
  obtain ⟨hS, hfc, kC, hkC, hkind⟩ := hC.2.2.2.2.2.2.2.2.2.1.1.1 ci _ hc
  obtain ⟨cf, kf, fi, f, hi, hsl⟩ := hS j hj
  refine W.getf hC.1 hC.2.1 hC.2.2.2.1 (mt_wd hM hC (mt_fni hp)) hi (u_facts hfc hkC (u_lays (fw_w hC hci) (fun w h => h) hj) hi).1 q1 (by rw [q3]; exact fun h => by cases h) (v := fx_V g ci a j) ?_ rfl rfl (mt_dec hM hf) (k p e R s m args9 below meth c H locs cells slots MC MS L hC hR hB hH hl hz)
  rw [hsl, q4 j hj]
theorem fx_VI (g : GT) (f a : Nat) (x : Int32) {ci j : Nat} (hr : fx_R ci j = false) (hf : f = 100 * ci + j) (hj : j < 100) {N : Nat} (hN : N ≤ 100) : ∀ i, i < N → updV (fx_V g ci a) j (.int x) i = fx_V (px_I g f a x) ci a i := by
  intro i hi
  subst hf
  by_cases e : i = j
  · subst e
    simp [updV, fx_V, hr, gx_I, px_I, gx_u]
  · have e2 : ¬ (100 * ci + i = 100 * ci + j) := by omega
    simp [updV, e, fx_V, gx_I, gx_R, px_I, gx_u, e2]
theorem fx_VR (g : GT) (f a x : Nat) (h0 : x ≠ 0) {ci j : Nat} (hr : fx_R ci j = true) (hf : f = 100 * ci + j) (hj : j < 100) {N : Nat} (hN : N ≤ 100) : ∀ i, i < N → updV (fx_V g ci a) j (.ref x) i = fx_V (px_R g f a x) ci a i := by
  intro i hi
  subst hf
  by_cases e : i = j
  · subst e
    simp [updV, fx_V, hr, gx_R, px_R, gx_u, fx_v, h0]
  · have e2 : ¬ (100 * ci + i = 100 * ci + j) := by omega
    simp [updV, e, fx_V, gx_I, gx_R, px_R, gx_u, e2]
theorem cx_N100 : ∀ ci, ci < 13 → cx_N ci ≤ 100 := by decide +kernel
/-- a store into a field that isn't final, any value that fits; g1: the pure heap behind it -/
theorem ex_put {idx ci j a : Nat} {v : Value} {g1 : GT} (hM : mt_ok M = true) (hf : mt_in M pc (.putfield idx) 3) (hp : (mt_f M).lookup idx = some (ci, j)) (hk : gx_K g a = ci + 1)
    (hfin : (cx_T ci j).2.2.2 = false ∨ ((mt_y M).name = "<init>" ∧ (cx_T ci j).1 = (mt_y M).cls)) (hn : narrow (cx_ty ci j) v = v) (hfit : fits (cx_ty ci j) v = true)
    (hv : ∀ i, i < cx_N ci → updV (fx_V g ci a) j v i = fx_V g1 ci a i) (hZ : gx_Z g1 = gx_Z g) (hK : ∀ q, gx_K g1 q = gx_K g q) (hN : ∀ q, gx_N g1 q = gx_N g q) (hI : ∀ f q, q ≠ a → gx_I g1 f q = gx_I g f q) (hR1 : ∀ f q, q ≠ a → gx_R g1 f q = gx_R g f q) (hA : ∀ q j, gx_A g1 q j = gx_A g q j) (hL : ∀ q j, gx_L g1 q j = gx_L g q j) (hO : ∀ q j, gx_O g1 q j = gx_O g q j)
    (k : ex_W G d mc ms M (pc + 3) ls st g1 Q) : ex_W G d mc ms M pc ls (v :: .ref a :: st) g Q := by
  intro p e R s m args9 below meth c H locs cells slots MC MS L hC hR hB hH hl hz
  obtain ⟨hci, hj⟩ := (mt_ok_spec hM).2.2.1 _ (mt_mem hp)
  dsimp only at hci hj
  obtain ⟨hc, hty, hnm⟩ := cx_facts ci hci
  have ha0 : gx_K g a ≠ 0 := by omega
  obtain ⟨r, hr, cell, q1, q2, q3, q4⟩ := (hH.2.2.2.1 a ha0).1 ci hk hci
  obtain rfl : r = (cx_R ci, cx_T ci, cx_N ci) := Option.some.inj (hr.symm.trans hc)
  have hKK := hC.2.2.2.2.2.2.2.2.2.1.1
  have hap := va_apart (own := "") (fw_w hC hci) (fun w h => h) (cx_ty ci) hty hnm hKK hc
  obtain ⟨hS, hfc, kC, hkC, hkind⟩ := hKK.1 ci _ hc
  obtain ⟨cf, kf, fi, f, hi, hsl⟩ := hS j hj
  have hlay := fw_w hC hci _ (u_in_lay hj)
  have hst := (u_facts hfc hkC (u_lays (fw_w hC hci) (fun w h => h) hj) hi).1
  have hba : ge_b G ≤ a := (hH.2.2.1 a ha0).2.1 (by omega)
  have hend : ∀ H' : Heap, H'[a]? = some (cell.setSlot ((ge_D G).2 ci j) v) → H'.size = H.size → (∀ q, q ≠ a → H'[q]? = H[q]?) → W p (ge_l G) e R s m args9 below meth c H' (locs ++ [⟨a, (ge_D G).2 ci j⟩]) cells slots (vx_MQ below (ex_Qc G Q) (ex_XC G Q) args9 s MC MS (fun q => ge_b G ≤ q)) (F0 m (pc + 3) L st) := by
    intro H' e1 e2 e3
    refine k p e R s m args9 below meth c H' _ cells slots MC MS L hC hR hB (hH.set ha0 (by omega) hZ hK hN hI hR1 (fun q j _ => hA q j) (fun q j _ => hL q j) (fun q j _ => hO q j) e2 e3 ?_) hl (t_lc (free := fun q => ge_b G ≤ q) hz hba)
    refine ⟨fun ci' h1 h2 => ?_, fun h => ?_, fun h => ?_, fun h => ?_, fun i h0 h => ?_, fun h => ?_⟩
    · rw [hK, hk] at h1
      obtain rfl : ci = ci' := by omega
      exact ⟨_, hc, t_OB.to (V := updV (fx_V g ci a) j v) ⟨_, e1, q2, q3, t_set q4 hap hj v⟩ hv⟩
    all_goals (rw [hK, hk] at h; omega)
  by_cases hfi : (cx_T ci j).2.2.2 = true
  · unfold u_lay at hlay
    rw [if_pos hfi] at hlay
    obtain ⟨hin2, hdecl⟩ : (mt_y M).name = "<init>" ∧ (cx_T ci j).1 = (mt_y M).cls := by
      rcases hfin with h | h
      · rw [h] at hfi; cases hfi
      · exact h
    have hcf : m.cls = cf := by
      obtain ⟨_, _, c', _, _, _, -, -, hf', -, -, -, hown2, -⟩ := Cond.laysFinal_spec hlay
      have e1 : c' = cf := by have := hi.symm.trans hf'; simp at this; exact this.1.symm
      rw [hdecl] at hown2
      rw [← e1]; exact Option.some.inj (hC.2.2.2.1.symm.trans hown2)
    have h6 := u_fits hfc hkC hkind (Or.inr hlay) hi (hty j hj) hn hfit
    refine W.putFinK hC.1 hC.2.1 hC.2.2.2.1 (mt_wd hM hC (mt_fni hp)) hi hst hcf (by rw [hC.2.2.2.2.2.2.2.1]; exact hin2) (by rw [q2]; exact h6) q1 q3 (by rw [hsl]; exact k2_hasslot (q4 j hj)) rfl rfl (mt_dec hM hf) fun H' e1 e2 e3 => ?_
    rw [hsl] at e1 ⊢
    exact hend H' e1 e2 e3
  · unfold u_lay at hlay
    rw [if_neg hfi] at hlay
    have h6 := u_store hfc hkC hkind hlay hi (hty j hj) hn hfit
    refine W.putK hC.1 hC.2.1 (f := f) ⟨hC.2.2.2.1, mt_wd hM hC (mt_fni hp), ⟨_, _, _, hi⟩, hst⟩ (by rw [q2]; exact h6) q1 q3 (by rw [hsl]; exact k2_hasslot (q4 j hj)) rfl rfl (mt_dec hM hf) fun H' e1 e2 e3 => ?_
    rw [hsl] at e1 ⊢
    exact hend H' e1 e2 e3
theorem mt_fins {idx ci j : Nat} (hM : mt_ok M = true) (hf : mt_in M pc (.putfield idx) 3) (hp : (mt_f M).lookup idx = some (ci, j)) : (cx_T ci j).2.2.2 = false ∨ ((mt_y M).name = "<init>" ∧ (cx_T ci j).1 = (mt_y M).cls) := by
  have h := mt_iok hM hf
  simp only [mt_io, hp, mt_fin, Bool.or_eq_true, Bool.not_eq_true', Bool.and_eq_true, beq_iff_eq] at h
  exact h
theorem ex_putI {idx ci j a : Nat} {x : Int32} (hM : mt_ok M = true) (hf : mt_in M pc (.putfield idx) 3) (hp : (mt_f M).lookup idx = some (ci, j)) (hk : gx_K g a = ci + 1) (hr : fx_R ci j = false)
    (k : ex_W G d mc ms M (pc + 3) ls st (px_I g (100 * ci + j) a x) Q) : ex_W G d mc ms M pc ls (.int x :: .ref a :: st) g Q := by
  obtain ⟨hci, hj⟩ := (mt_ok_spec hM).2.2.1 _ (mt_mem hp)
  dsimp only at hci hj
  have h100 := cx_N100 ci hci
  refine ex_put (g1 := px_I g (100 * ci + j) a x) hM hf hp hk (mt_fins hM hf hp) (by rw [fx_int hci hj hr]; rfl) (by rw [fx_int hci hj hr]; rfl) (fx_VI g _ a x hr rfl (by omega) h100) rfl (fun _ => rfl) (fun _ => rfl) (fun f q hq => ?_) (fun _ _ _ => rfl) (fun _ _ => rfl) (fun _ _ => rfl) (fun _ _ => rfl) k
  simp [gx_I, px_I, gx_u, hq]
theorem ex_putR {idx ci j a x : Nat} (hM : mt_ok M = true) (hf : mt_in M pc (.putfield idx) 3) (hp : (mt_f M).lookup idx = some (ci, j)) (hk : gx_K g a = ci + 1) (hr : fx_R ci j = true) (h0 : x ≠ 0)
    (k : ex_W G d mc ms M (pc + 3) ls st (px_R g (100 * ci + j) a x) Q) : ex_W G d mc ms M pc ls (.ref x :: .ref a :: st) g Q := by
  obtain ⟨hci, hj⟩ := (mt_ok_spec hM).2.2.1 _ (mt_mem hp)
  dsimp only at hci hj
  have h100 := cx_N100 ci hci
  refine ex_put (g1 := px_R g (100 * ci + j) a x) hM hf hp hk (mt_fins hM hf hp) (fx_nar (fx_ref hci hj hr)).1 (fx_nar (fx_ref hci hj hr)).2 (fx_VR g _ a x h0 hr rfl (by omega) h100) rfl (fun _ => rfl) (fun _ => rfl) (fun _ _ _ => rfl) (fun f q hq => ?_) (fun _ _ => rfl) (fun _ _ => rfl) (fun _ _ => rfl) k
  simp [gx_R, px_R, gx_u, hq]
/-! arrays -/
theorem ex_ty {p : Program} {s : State} {m : MethodId} {args : Array Value} {meth : Method} {c : Code} (hC : cx_C G M p s m args meth c) (i : Nat) {q : ClassId × FieldType} (h : (cx_tys G)[i]? = some q) : ArrOfT s q.1 q.2 ∧ va_RA s q.1 q.2 := hC.2.2.2.2.2.2.2.2.2.1.1.2 i q h
theorem ex_iald {a : Nat} {i : Int32} (hM : mt_ok M = true) (hf : mt_in M pc (.iaload) 1) (hk : gx_K g a = 50 ∨ gx_K g a = 60) (hin : vp_in i (gx_N g a)) (k : ex_W G d mc ms M (pc + 1) ls (.int (gx_A g a i.toNatClampNeg) :: st) g Q) : ex_W G d mc ms M pc ls (.int i :: .ref a :: st) g Q := by
  intro p e R s m args9 below meth c H locs cells slots MC MS L hC hR hB hH hl hz
  have hlt : i.toNatClampNeg < gx_N g a := Nat.not_le.mp fun q => hin (Or.inr q)
  have kk := k p e R s m args9 below meth c H locs cells slots MC MS L hC hR hB hH hl hz
  rcases hk with hk | hk
  · have hcell := (hH.2.2.2.1 a (by omega)).2.1 hk
    exact W.iald (v := .int (gx_A g a i.toNatClampNeg)) hC.1 hC.2.1 hcell ((ex_ty hC 0 rfl).1 _ _) (fun q => by cases q) (by rw [arrV_size]; exact hin) (by rw [arrV_read _ _ hlt]) rfl rfl (mt_dec hM hf) kk
  · obtain ⟨scr, e1, e2, e3, e4, e5⟩ := (hH.2.2.2.1 a (by omega)).2.2.2.2.2 hk
    exact W.iald (v := .int (gx_A g a i.toNatClampNeg)) hC.1 hC.2.1 e1 e2 e3 (by rw [e4]; exact hin) (e5 _ hlt) rfl rfl (mt_dec hM hf) kk
theorem ex_bald {a : Nat} {i : Int32} (hM : mt_ok M = true) (hf : mt_in M pc (.baload) 1) (hk : gx_K g a = 52) (hin : vp_in i (gx_N g a)) (k : ex_W G d mc ms M (pc + 1) ls (.int (gx_A g a i.toNatClampNeg) :: st) g Q) : ex_W G d mc ms M pc ls (.int i :: .ref a :: st) g Q := by
  intro p e R s m args9 below meth c H locs cells slots MC MS L hC hR hB hH hl hz
  have hlt : i.toNatClampNeg < gx_N g a := Nat.not_le.mp fun q => hin (Or.inr q)
  have hcell := (hH.2.2.2.1 a (by omega)).2.2.2.1 hk
  exact W.zald (v := .int (gx_A g a i.toNatClampNeg)) hC.1 hC.2.1 hcell ((ex_ty hC 2 rfl).1 _ _) (fun q => by cases q) (by rw [arrV_size]; exact hin) (by rw [arrV_read _ _ hlt]) rfl rfl (mt_dec hM hf) (k p e R s m args9 below meth c H locs cells slots MC MS L hC hR hB hH hl hz)
theorem ex_lald {a : Nat} {i : Int32} (hM : mt_ok M = true) (hf : mt_in M pc (.laload) 1) (hk : gx_K g a = 51) (hin : vp_in i (gx_N g a)) (k : ex_W G d mc ms M (pc + 1) ls (.long (gx_L g a i.toNatClampNeg) :: st) g Q) : ex_W G d mc ms M pc ls (.int i :: .ref a :: st) g Q := by
  intro p e R s m args9 below meth c H locs cells slots MC MS L hC hR hB hH hl hz
  have hlt : i.toNatClampNeg < gx_N g a := Nat.not_le.mp fun q => hin (Or.inr q)
  have hcell := (hH.2.2.2.1 a (by omega)).2.2.1 hk
  exact W.lald (v := .long (gx_L g a i.toNatClampNeg)) hC.1 hC.2.1 hcell ((ex_ty hC 1 rfl).1 _ _) (fun q => by cases q) (by rw [arrV_size]; exact hin) (by rw [arrV_read _ _ hlt]) rfl rfl (mt_dec hM hf) (k p e R s m args9 below meth c H locs cells slots MC MS L hC hR hB hH hl hz)
theorem ex_tyO {p : Program} {s : State} {m : MethodId} {args : Array Value} {meth : Method} {c : Code} (hC : cx_C G M p s m args meth c) {i : Nat} (hi : i < 4) : ∃ C : String, ArrOfT s (ge_A G (3 + i)) (.object C) := by
  match i, hi with
  | 0, _ => exact ⟨_, (ex_ty hC 3 rfl).1⟩
  | 1, _ => exact ⟨_, (ex_ty hC 4 rfl).1⟩
  | 2, _ => exact ⟨_, (ex_ty hC 5 rfl).1⟩
  | 3, _ => exact ⟨_, (ex_ty hC 6 rfl).1⟩
  | n + 4, h => omega
theorem ex_aald {a n : Nat} {i : Int32} (hM : mt_ok M = true) (hf : mt_in M pc (.aaload) 1) (hn : n < 4) (hk : gx_K g a = 53 + n) (hin : vp_in i (gx_N g a)) (h0 : gx_O g a i.toNatClampNeg ≠ 0) (k : ex_W G d mc ms M (pc + 1) ls (.ref (gx_O g a i.toNatClampNeg) :: st) g Q) : ex_W G d mc ms M pc ls (.int i :: .ref a :: st) g Q := by
  intro p e R s m args9 below meth c H locs cells slots MC MS L hC hR hB hH hl hz
  have hlt : i.toNatClampNeg < gx_N g a := Nat.not_le.mp fun q => hin (Or.inr q)
  have hcell := (hH.2.2.2.1 a (by omega)).2.2.2.2.1 n hn hk
  obtain ⟨C, hA⟩ := ex_tyO hC hn
  exact W.aald (v := .ref (gx_O g a i.toNatClampNeg)) (ty := .object C) hC.1 hC.2.1 hcell (hA _ _) rfl (fun q => by cases q) (by rw [arrV_size]; exact hin) (by rw [arrV_read _ _ hlt]; simp [fx_v, h0]) rfl rfl (mt_dec hM hf) (k p e R s m args9 below meth c H locs cells slots MC MS L hC hR hB hH hl hz)
theorem ex_alen {a : Nat} (hM : mt_ok M = true) (hf : mt_in M pc (.arraylength) 1) (hk : gx_K g a = 50 ∨ gx_K g a = 51 ∨ gx_K g a = 60) (k : ex_W G d mc ms M (pc + 1) ls (.int (Int32.ofNat (gx_N g a)) :: st) g Q) : ex_W G d mc ms M pc ls (.ref a :: st) g Q := by
  intro p e R s m args9 below meth c H locs cells slots MC MS L hC hR hB hH hl hz
  have kk := k p e R s m args9 below meth c H locs cells slots MC MS L hC hR hB hH hl hz
  rcases hk with hk | hk | hk
  · exact W.alen (n := Int32.ofNat (gx_N g a)) hC.1 hC.2.1 ((hH.2.2.2.1 a (by omega)).2.1 hk) ((ex_ty hC 0 rfl).1 _ _) (by rw [arrV_size] <;> rfl) rfl rfl (mt_dec hM hf) kk
  · exact W.alen (n := Int32.ofNat (gx_N g a)) hC.1 hC.2.1 ((hH.2.2.2.1 a (by omega)).2.2.1 hk) ((ex_ty hC 1 rfl).1 _ _) (by rw [arrV_size] <;> rfl) rfl rfl (mt_dec hM hf) kk
  · obtain ⟨scr, e1, e2, e3, e4, e5⟩ := (hH.2.2.2.1 a (by omega)).2.2.2.2.2 hk
    exact W.alen (n := Int32.ofNat (gx_N g a)) hC.1 hC.2.1 e1 e2 (by rw [e4] <;> rfl) rfl rfl (mt_dec hM hf) kk
end EM
theorem ex_getI {G : GE} {d mc ms : Nat} {M : MT} {pc : Nat} {ls : List (Nat × Value)} {st : List Value} {g : GT} {Q : RT → GT → Prop} {idx ci j a : Nat} (hM : mt_ok M = true) (hf : mt_in M pc (.getfield idx) 3) (hp : (mt_f M).lookup idx = some (ci, j)) (hr : fx_R ci j = false) (hk : gx_K g a = ci + 1) (k : ex_W G d mc ms M (pc + 3) ls (.int (gx_I g (100 * ci + j) a) :: st) g Q) : ex_W G d mc ms M pc ls (.ref a :: st) g Q :=
  ex_get hM hf hp hk (by unfold fx_V; rw [if_neg (by rw [hr]; decide)]; exact k)
theorem ex_getR {G : GE} {d mc ms : Nat} {M : MT} {pc : Nat} {ls : List (Nat × Value)} {st : List Value} {g : GT} {Q : RT → GT → Prop} {idx ci j a : Nat} (hM : mt_ok M = true) (hf : mt_in M pc (.getfield idx) 3) (hp : (mt_f M).lookup idx = some (ci, j)) (hr : fx_R ci j = true) (hk : gx_K g a = ci + 1) (h0 : gx_R g (100 * ci + j) a ≠ 0) (k : ex_W G d mc ms M (pc + 3) ls (.ref (gx_R g (100 * ci + j) a) :: st) g Q) : ex_W G d mc ms M pc ls (.ref a :: st) g Q :=
  ex_get hM hf hp hk (by unfold fx_V fx_v; rw [if_pos hr, if_neg h0]; exact k)
end
section
/-! ===== array stores, new cells, answers ===== -/
section ES
variable {G : GE} {d mc ms : Nat} {M : MT} {pc : Nat} {ls : List (Nat × Value)} {st : List Value} {g : GT} {Q : RT → GT → Prop}
theorem ax_cell {U : State} {g g1 : GT} {H1 : Heap} {a n : Nat} (hk : gx_K g a = n) (hK : gx_K g1 a = gx_K g a) (h0 : n ≠ 0)
    (h : ∀ v : Cell, H1[a]? = some v → (n = 50 → v = arrV (ge_A G 0) (gx_N g1 a) (fun j => .int (gx_A g1 a j))) ∧ (n = 51 → v = arrV (ge_A G 1) (gx_N g1 a) (fun j => .long (gx_L g1 a j))) ∧ (n = 52 → v = arrV (ge_A G 2) (gx_N g1 a) (fun j => .int (gx_A g1 a j))) ∧ (∀ i, i < 4 → n = 53 + i → v = arrV (ge_A G (3 + i)) (gx_N g1 a) (fun j => fx_v (gx_O g1 a j))))
    (hn : 50 ≤ n ∧ n < 57) {v : Cell} (hv : H1[a]? = some v) : gx_cell G U g1 H1 a := by
  obtain ⟨h1, h2, h3, h4⟩ := h v hv
  refine ⟨fun ci e1 e2 => ?_, fun e => ?_, fun e => ?_, fun e => ?_, fun i hi e => ?_, fun e => ?_⟩
  · omega
  · rw [hv, h1 (by omega)]
  · rw [hv, h2 (by omega)]
  · rw [hv, h3 (by omega)]
  · rw [hv, h4 i hi (by omega)]
  · omega
theorem ex_iast {a : Nat} {i x : Int32} (hM : mt_ok M = true) (hf : mt_in M pc (.iastore) 1) (hk : gx_K g a = 50) (hin : vp_in i (gx_N g a)) (k : ex_W G d mc ms M (pc + 1) ls st (px_A g a i.toNatClampNeg x) Q) : ex_W G d mc ms M pc ls (.int x :: .int i :: .ref a :: st) g Q := by
  intro p e R s m args9 below meth c H locs cells slots MC MS L hC hR hB hH hl hz
  have ha0 : gx_K g a ≠ 0 := by omega
  have hcell := (hH.2.2.2.1 a ha0).2.1 hk
  have hba : ge_b G ≤ a := (hH.2.2.1 a ha0).2.1 (by omega)
  refine W.iast hC.1 hC.2.1 hcell ((ex_ty hC 0 rfl).1 _ _) (fun q => by cases q) (by rw [arrV_size]; exact hin) rfl rfl (mt_dec hM hf) fun H' e1 e2 e3 => ?_
  refine k p e R s m args9 below meth c H' _ cells slots MC MS L hC hR hB (hH.set ha0 (by omega) rfl (fun _ => rfl) (fun _ => rfl) (fun _ _ _ => rfl) (fun _ _ _ => rfl) (fun q j hq => ?_) (fun _ _ _ => rfl) (fun _ _ _ => rfl) e2 e3 ?_) hl (t_lc (free := fun q => ge_b G ≤ q) hz hba)
  · simp [gx_A, px_A, gx_u, hq]
  · refine ax_cell hk rfl (by omega) (fun v hv => ?_) (by omega) e1
    refine ⟨fun _ => ?_, fun h => by omega, fun h => by omega, fun i _ h => by omega⟩
    rw [e1] at hv
    rw [← Option.some.inj hv, arrV_store]
    show arrV _ _ _ = arrV _ _ _
    congr 1
    funext q
    by_cases hq : q = i.toNatClampNeg
    · simp [updV, gx_A, px_A, gx_u, hq]
    · simp [updV, gx_A, px_A, gx_u, hq]
theorem ex_bast {a : Nat} {i x : Int32} (hM : mt_ok M = true) (hf : mt_in M pc (.bastore) 1) (hk : gx_K g a = 52) (hx : x = 0 ∨ x = 1) (hin : vp_in i (gx_N g a)) (k : ex_W G d mc ms M (pc + 1) ls st (px_A g a i.toNatClampNeg x) Q) : ex_W G d mc ms M pc ls (.int x :: .int i :: .ref a :: st) g Q := by
  intro p e R s m args9 below meth c H locs cells slots MC MS L hC hR hB hH hl hz
  have ha0 : gx_K g a ≠ 0 := by omega
  have hcell := (hH.2.2.2.1 a ha0).2.2.2.1 hk
  have hba : ge_b G ≤ a := (hH.2.2.1 a ha0).2.1 (by omega)
  refine W.zast hC.1 hC.2.1 hcell ((ex_ty hC 2 rfl).1 _ _) (fun q => by cases q) (by rw [arrV_size]; exact hin) rfl rfl (mt_dec hM hf) fun H' e1 e2 e3 => ?_
  refine k p e R s m args9 below meth c H' _ cells slots MC MS L hC hR hB (hH.set ha0 (by omega) rfl (fun _ => rfl) (fun _ => rfl) (fun _ _ _ => rfl) (fun _ _ _ => rfl) (fun q j hq => ?_) (fun _ _ _ => rfl) (fun _ _ _ => rfl) e2 e3 ?_) hl (t_lc (free := fun q => ge_b G ≤ q) hz hba)
  · simp [gx_A, px_A, gx_u, hq]
  · refine ax_cell hk rfl (by omega) (fun v hv => ?_) (by omega) e1
    refine ⟨fun h => by omega, fun h => by omega, fun _ => ?_, fun i _ h => by omega⟩
    rw [e1] at hv
    rw [← Option.some.inj hv, arrV_store]
    show arrV _ _ _ = arrV _ _ _
    congr 1
    funext q
    by_cases hq : q = i.toNatClampNeg
    · rcases hx with rfl | rfl <;> simp [updV, gx_A, px_A, gx_u, hq, narrow] <;> decide
    · simp [updV, gx_A, px_A, gx_u, hq]
theorem ex_last {a : Nat} {i : Int32} {x : Int64} (hM : mt_ok M = true) (hf : mt_in M pc (.lastore) 1) (hk : gx_K g a = 51) (hin : vp_in i (gx_N g a)) (k : ex_W G d mc ms M (pc + 1) ls st (px_L g a i.toNatClampNeg x) Q) : ex_W G d mc ms M pc ls (.long x :: .int i :: .ref a :: st) g Q := by
  intro p e R s m args9 below meth c H locs cells slots MC MS L hC hR hB hH hl hz
  have ha0 : gx_K g a ≠ 0 := by omega
  have hcell := (hH.2.2.2.1 a ha0).2.2.1 hk
  have hba : ge_b G ≤ a := (hH.2.2.1 a ha0).2.1 (by omega)
  refine W.last hC.1 hC.2.1 hcell ((ex_ty hC 1 rfl).1 _ _) (fun q => by cases q) (by rw [arrV_size]; exact hin) rfl rfl (mt_dec hM hf) fun H' e1 e2 e3 => ?_
  refine k p e R s m args9 below meth c H' _ cells slots MC MS L hC hR hB (hH.set ha0 (by omega) rfl (fun _ => rfl) (fun _ => rfl) (fun _ _ _ => rfl) (fun _ _ _ => rfl) (fun _ _ _ => rfl) (fun q j hq => ?_) (fun _ _ _ => rfl) e2 e3 ?_) hl (t_lc (free := fun q => ge_b G ≤ q) hz hba)
  · simp [gx_L, px_L, gx_u, hq]
  · refine ax_cell hk rfl (by omega) (fun v hv => ?_) (by omega) e1
    refine ⟨fun h => by omega, fun _ => ?_, fun h => by omega, fun i _ h => by omega⟩
    rw [e1] at hv
    rw [← Option.some.inj hv, arrV_store]
    show arrV _ _ _ = arrV _ _ _
    congr 1
    funext q
    by_cases hq : q = i.toNatClampNeg
    · simp [updV, gx_L, px_L, gx_u, hq]
    · simp [updV, gx_L, px_L, gx_u, hq]
/-- the class of what an array of references may hold -/
def ax_ci (n : Nat) : Nat := match n with
  | 0 => 6 | 1 => 5 | 2 => 3 | _ => 10
theorem ex_aast {a n v : Nat} {i : Int32} (hM : mt_ok M = true) (hf : mt_in M pc (.aastore) 1) (hn : n < 4) (hk : gx_K g a = 53 + n) (hv : gx_K g v = ax_ci n + 1) (hin : vp_in i (gx_N g a)) (k : ex_W G d mc ms M (pc + 1) ls st (px_O g a i.toNatClampNeg v) Q) : ex_W G d mc ms M pc ls (.ref v :: .int i :: .ref a :: st) g Q := by
  intro p e R s m args9 below meth c H locs cells slots MC MS L hC hR hB hH hl hz
  have ha0 : gx_K g a ≠ 0 := by omega
  have hcell := (hH.2.2.2.1 a ha0).2.2.2.2.1 n hn hk
  have hba : ge_b G ≤ a := (hH.2.2.1 a ha0).2.1 (by omega)
  have hci : ax_ci n < 13 := by
    match n, hn with
    | 0, _ => decide
    | 1, _ => decide
    | 2, _ => decide
    | 3, _ => decide
    | n + 4, h => omega
  have hv60 : gx_K g v < 60 := by omega
  have hv0 : v ≠ 0 := by
    have h1 := (hH.2.2.1 v (by omega)).2.1 hv60
    have h2 := hH.2.1
    omega
  have hlt : i.toNatClampNeg < gx_N g a := Nat.not_le.mp fun q => hin (Or.inr q)
  have hi0 : ¬ i < 0 := fun q => hin (Or.inl q)
  obtain ⟨hc, -, -⟩ := cx_facts _ hci
  obtain ⟨r', hr', cellV, g1, g2, g3, -⟩ := (hH.2.2.2.1 v (by omega)).1 _ hv hci
  have hKK := hC.2.2.2.2.2.2.2.2.2.1.1
  have hcls := (hKK.1 _ _ hc).2
  obtain ⟨kA, comp, k1, k2, k3, -⟩ : ∃ (kA : Class) (comp : ClassId), s.vm.classes[ge_A G (3 + n)]? = some kA ∧ kA.kind = .array comp (.object (cx_R (ax_ci n))) ∧ s.vm.findClass (cx_R (ax_ci n)) = some comp ∧ s.vm.findClass ("[" ++ (FieldType.object (cx_R (ax_ci n))).toString) = some (ge_A G (3 + n)) := by
    match n, hn with
    | 0, _ => exact (ex_ty hC 3 rfl).2
    | 1, _ => exact (ex_ty hC 4 rfl).2
    | 2, _ => exact (ex_ty hC 5 rfl).2
    | 3, _ => exact (ex_ty hC 6 rfl).2
    | n + 4, h => omega
  have hcomp : comp = (ge_D G).1 (ax_ci n) := Option.some.inj (k3.symm.trans hcls.1)
  subst hcomp
  obtain ⟨kC, hkC, -⟩ := hcls.2
  refine W.aast hC.1 hC.2.1 hcell (fun q h => by cases h) (fun h => by cases h) k1 k2 rfl hkC ⟨hi0, by rw [arrV_size]; exact hlt⟩ g1 (fun q h => by rw [g3] at h; cases h) (by rw [g2]; exact hkC) (by rw [g2]; exact va_assign hcls) rfl rfl (mt_dec hM hf) fun H' e1 e2 e3 => ?_
  refine k p e R s m args9 below meth c H' _ cells slots MC MS L hC hR hB (hH.set ha0 (by omega) rfl (fun _ => rfl) (fun _ => rfl) (fun _ _ _ => rfl) (fun _ _ _ => rfl) (fun _ _ _ => rfl) (fun _ _ _ => rfl) (fun q j hq => ?_) e2 e3 ?_) hl (t_lc (free := fun q => ge_b G ≤ q) hz hba)
  · simp [gx_O, px_O, gx_u, hq]
  · refine ax_cell hk rfl (by omega) (fun v' hv' => ?_) (by omega) e1
    refine ⟨fun h => by omega, fun h => by omega, fun h => by omega, fun i' hi' h => ?_⟩
    obtain rfl : n = i' := by omega
    rw [e1] at hv'
    rw [← Option.some.inj hv', arrV_store]
    show arrV _ _ _ = arrV _ _ _
    congr 1
    funext q
    by_cases hq : q = i.toNatClampNeg
    · simp [updV, gx_O, px_O, gx_u, hq, fx_v, hv0]
    · simp [updV, gx_O, px_O, gx_u, hq]
end ES
end
section
/-! ===== new cells; answers ===== -/
section EN
variable {G : GE} {d mc ms : Nat} {M : MT} {pc : Nat} {ls : List (Nat × Value)} {st : List Value} {g : GT} {Q : RT → GT → Prop}
theorem gx_H.push {U : State} {H H1 : Heap} {k n : Nat} (h : gx_H G U g H) (hk : k ≠ 0 ∧ k < 60) (z : H1.size = H.size + 1) (oq : ∀ q : Nat, q < H.size → H1[q]? = H[q]?) (hc : gx_cell G U (px_N g k n) H1 (gx_Z g)) : gx_H G U (px_N g k n) H1 := by
  obtain ⟨h1, h2, h3, h4, h5, h6⟩ := h
  have hZ : gx_Z (px_N g k n) = gx_Z g + 1 := rfl
  have hne : ∀ q, q ≠ gx_Z g → gx_K (px_N g k n) q = gx_K g q := fun q hq => by
    show (if q = gx_Z g then k else gx_K g q) = _
    rw [if_neg hq]
  have hself : gx_K (px_N g k n) (gx_Z g) = k := by
    show (if gx_Z g = gx_Z g then k else _) = _
    rw [if_pos rfl]
  have hkp : ∀ q : Nat, q < H.size → ¬ ge_b G ≤ q → H1[q]? = H[q]? := fun q hq _ => oq q hq
  refine ⟨by rw [z, h1, hZ], by rw [hZ]; omega, fun q hq => ?_, fun q hq => ?_, h5.kept hkp, h6.kept hkp⟩
  · by_cases e : q = gx_Z g
    · subst e
      rw [hself]
      omega
    · rw [hne q e] at hq ⊢
      have := h3 q hq
      omega
  · by_cases e : q = gx_Z g
    · subst e; exact hc
    · rw [hne q e] at hq
      have hlt : q < H.size := by rw [h1]; exact (h3 q hq).1
      refine ((h4 q hq).kept (oq q hlt)).same (hne q e) ?_ (fun f => ?_) (fun f => ?_) (fun j => ?_) (fun j => ?_) (fun j => ?_)
      · show (if q = gx_Z g then n else gx_N g q) = _
        rw [if_neg e]
      · show (if q = gx_Z g then 0 else gx_I g f q) = _
        rw [if_neg e]
      · show (if q = gx_Z g then 0 else gx_R g f q) = _
        rw [if_neg e]
      · show (if q = gx_Z g then 0 else gx_A g q j) = _
        rw [if_neg e]
      · show (if q = gx_Z g then 0 else gx_L g q j) = _
        rw [if_neg e]
      · show (if q = gx_Z g then 0 else gx_O g q j) = _
        rw [if_neg e]
theorem nx_K (g : GT) (k n : Nat) : gx_K (px_N g k n) (gx_Z g) = k := if_pos rfl
theorem nx_N (g : GT) (k n : Nat) : gx_N (px_N g k n) (gx_Z g) = n := if_pos rfl
theorem nx_A (g : GT) (k n j : Nat) : gx_A (px_N g k n) (gx_Z g) j = 0 := if_pos rfl
theorem nx_L (g : GT) (k n j : Nat) : gx_L (px_N g k n) (gx_Z g) j = 0 := if_pos rfl
theorem nx_O (g : GT) (k n j : Nat) : gx_O (px_N g k n) (gx_Z g) j = 0 := if_pos rfl
theorem nx_I (g : GT) (k n f : Nat) : gx_I (px_N g k n) f (gx_Z g) = 0 := if_pos rfl
theorem nx_R (g : GT) (k n f : Nat) : gx_R (px_N g k n) f (gx_Z g) = 0 := if_pos rfl
/-- newarray: int, long, boolean -/
theorem ex_newa {at0 : ArrayType} {i : Int32} {N kd : Nat} (hM : mt_ok M = true) (hf : mt_in M pc (.newarray at0) 2) (hk : (at0 = .int ∧ kd = 50) ∨ (at0 = .long ∧ kd = 51) ∨ (at0 = .boolean ∧ kd = 52)) (hi : ¬ i < 0) (hN : i.toNatClampNeg = N) (hb9 : N ≤ 1000000)
    (hw : Cond.arrayClass (newarray.typeOf at0) ∈ lw_tbl) (h1 : 1 ≤ mc) (h2 : N ≤ ms) (k : ex_W G d (mc - 1) (ms - N) M (pc + 2) ls (.ref (gx_Z g) :: st) (px_N g kd N) Q) : ex_W G d mc ms M pc ls (.int i :: st) g Q := by
  intro p e R s m args9 below meth c H locs cells slots MC MS L hC hR hB hH hl hz
  have hwd : (Cond.arrayClass (newarray.typeOf at0)).before args9 s = true := hC.2.2.2.2.1 _ hw rfl
  refine va_newaK (N := N) (h := gx_Z g) hC.1 hC.2.1 hwd rfl (mt_dec hM hf) rfl hi hN ?_ (by omega) (by omega) hH.1 fun H1 cA e1 z1 o1 hAr hNm => ?_
  · rcases hk with ⟨rfl, -⟩ | ⟨rfl, -⟩ | ⟨rfl, -⟩ <;> simp [newarray.typeOf, componentBytes] <;> omega
  · refine k p e R s m args9 below meth c H1 locs (cells + 1) (slots + N) MC MS L hC hR (by omega) (hH.push (by omega) (by rw [z1, hH.1]) (fun q hq => o1 q (by rw [hH.1] at hq; exact hq)) ?_) hl hz
    rcases hk with ⟨rfl, rfl⟩ | ⟨rfl, rfl⟩ | ⟨rfl, rfl⟩
    · obtain rfl : cA = ge_A G 0 := Option.some.inj (hNm.symm.trans (ex_ty hC 0 rfl).2)
      refine ax_cell (g := px_N g 50 N) (nx_K g 50 N) rfl (by omega) (fun v hv => ?_) (by omega) e1
      refine ⟨fun _ => ?_, fun h => by omega, fun h => by omega, fun i _ h => by omega⟩
      rw [← Option.some.inj (e1.symm.trans hv)]
      simp only [nx_N, nx_A]
      rfl
    · obtain rfl : cA = ge_A G 1 := Option.some.inj (hNm.symm.trans (ex_ty hC 1 rfl).2)
      refine ax_cell (g := px_N g 51 N) (nx_K g 51 N) rfl (by omega) (fun v hv => ?_) (by omega) e1
      refine ⟨fun h => by omega, fun _ => ?_, fun h => by omega, fun i _ h => by omega⟩
      rw [← Option.some.inj (e1.symm.trans hv)]
      simp only [nx_N, nx_L]
      rfl
    · obtain rfl : cA = ge_A G 2 := Option.some.inj (hNm.symm.trans (ex_ty hC 2 rfl).2)
      refine ax_cell (g := px_N g 52 N) (nx_K g 52 N) rfl (by omega) (fun v hv => ?_) (by omega) e1
      refine ⟨fun h => by omega, fun h => by omega, fun _ => ?_, fun i _ h => by omega⟩
      rw [← Option.some.inj (e1.symm.trans hv)]
      simp only [nx_N, nx_A]
      rfl
theorem mt_kin2 {idx q : Nat} (hp : (mt_k M).lookup idx = some q) {w : Cond} (hw : w ∈ mt_kw (mt_y M).cls (idx, q)) : w ∈ mt_need M :=
  List.mem_append_left _ (List.mem_append_right _ (List.mem_flatMap.mpr ⟨(idx, q), mt_mem hp, hw⟩))
/-- new of a class of ours -/
theorem ex_new {idx ci : Nat} (hM : mt_ok M = true) (hf : mt_in M pc (.new idx) 3) (hp : (mt_k M).lookup idx = some ci) (hci : ci < 13) (h1 : 1 ≤ mc) (h2 : cx_N ci ≤ ms) (k : ex_W G d (mc - 1) (ms - cx_N ci) M (pc + 3) ls (.ref (gx_Z g) :: st) (px_N g (ci + 1) 0) Q) : ex_W G d mc ms M pc ls st g Q := by
  intro p e R s m args9 below meth c H locs cells slots MC MS L hC hR hB hH hl hz
  obtain ⟨hc, hty, hnm⟩ := cx_facts ci hci
  have hkw : mt_kw (mt_y M).cls (idx, ci) = [.classLink (mt_y M).cls idx (cx_R ci), .instantiable (cx_R ci) (cx_N ci), .initialized (cx_R ci)] := if_pos hci
  have w1 := mt_wd hM hC (mt_kin2 hp (w := .classLink (mt_y M).cls idx (cx_R ci)) (by rw [hkw]; simp))
  have w2 := mt_wd hM hC (mt_kin2 hp (w := .instantiable (cx_R ci) (cx_N ci)) (by rw [hkw]; simp))
  have w3 := mt_wd hM hC (mt_kin2 hp (w := .initialized (cx_R ci)) (by rw [hkw]; simp))
  have hKn := hC.2.2.2.2.2.2.2.2.2.1.1.1 ci _ hc
  refine W.newcK hC.1 hC.2.1 hC.2.2.2.1 w1 w2 w3 rfl (mt_dec hM hf) (by omega) (by omega) hKn.2.1 rfl fun H1 kC hkC e1 z1 o1 => ?_
  rw [show (.ref H.size : Value) = .ref (gx_Z g) by rw [hH.1]]
  refine k p e R s m args9 below meth c H1 locs (cells + 1) (slots + cx_N ci) MC MS L hC hR (by omega) (hH.push (by omega) z1 o1 ?_) hl hz
  rw [hH.1] at e1
  refine ⟨fun ci' h1 h2 => ?_, fun h => ?_, fun h => ?_, fun h => ?_, fun i h0 h => ?_, fun h => ?_⟩
  · rw [nx_K] at h1
    obtain rfl : ci = ci' := by omega
    refine ⟨_, hc, (u_born (cx_ty ci) (fw_w hC hci) (fun w h => h) hKn hkC e1 hty).to fun j hj => ?_⟩
    unfold fx_V
    by_cases hr : fx_R ci j = true
    · rw [if_pos hr, nx_R]
      rcases fx_ref hci hj hr with ⟨n, e⟩ | ⟨t, e⟩ <;> rw [e] <;> rfl
    · rw [if_neg hr, nx_I, fx_int hci hj (by simpa using hr)]
      rfl
  all_goals (rw [nx_K] at h; omega)
/-- anewarray -/
theorem ex_anew {idx n N : Nat} {i : Int32} (hM : mt_ok M = true) (hf : mt_in M pc (.anewarray idx) 3) (hp : (mt_k M).lookup idx = some (20 + ax_ci n)) (hn : n < 4) (hi : ¬ i < 0) (hN : i.toNatClampNeg = N) (hb9 : N ≤ 1000000) (h1 : 1 ≤ mc) (h2 : N ≤ ms) (k : ex_W G d (mc - 1) (ms - N) M (pc + 3) ls (.ref (gx_Z g) :: st) (px_N g (53 + n) N) Q) : ex_W G d mc ms M pc ls (.int i :: st) g Q := by
  intro p e R s m args9 below meth c H locs cells slots MC MS L hC hR hB hH hl hz
  have hci : ax_ci n < 13 := by
    match n, hn with
    | 0, _ => decide
    | 1, _ => decide
    | 2, _ => decide
    | 3, _ => decide
    | n + 4, h => omega
  have hkw : mt_kw (mt_y M).cls (idx, 20 + ax_ci n) = [.classLink (mt_y M).cls idx (cx_R (ax_ci n))] := by
    unfold mt_kw
    dsimp only
    rw [if_neg (by omega), if_pos (by omega), Nat.add_sub_cancel_left]
  have w1 := mt_wd hM hC (mt_kin2 hp (w := .classLink (mt_y M).cls idx (cx_R (ax_ci n))) (by rw [hkw]; simp))
  have hover : va_AO (cx_R (ax_ci n)) s := by
    obtain ⟨-, -, -, a1, a2, a3, a4, -⟩ := hC.2.2.2.2.2.2.2.2.2.1
    match n, hn with
    | 0, _ => exact a1
    | 1, _ => exact a2
    | 2, _ => exact a3
    | 3, _ => exact a4
    | n + 4, h => omega
  have hRA : s.vm.findClass ("[" ++ (FieldType.object (cx_R (ax_ci n))).toString) = some (ge_A G (3 + n)) := by
    match n, hn with
    | 0, _ => obtain ⟨_, _, _, _, _, h⟩ := (ex_ty hC 3 rfl).2; exact h
    | 1, _ => obtain ⟨_, _, _, _, _, h⟩ := (ex_ty hC 4 rfl).2; exact h
    | 2, _ => obtain ⟨_, _, _, _, _, h⟩ := (ex_ty hC 5 rfl).2; exact h
    | 3, _ => obtain ⟨_, _, _, _, _, h⟩ := (ex_ty hC 6 rfl).2; exact h
    | n + 4, h => omega
  subst hN
  refine W.anew hC.1 hC.2.1 hC.2.2.2.1 w1 (va_AO.use hover) rfl (mt_dec hM hf) rfl hi (by omega) (by omega) (by omega) fun cA kA comp f1 f2 f3 f4 => ?_
  obtain rfl : cA = ge_A G (3 + n) := Option.some.inj (f1.symm.trans hRA)
  rw [show (.ref H.size : Value) = .ref (gx_Z g) by rw [hH.1]]
  have e1 : (H.push ({ cls := ge_A G (3 + n), slots := Array.replicate i.toNatClampNeg .null, vm := .none } : Cell))[gx_Z g]? = some (arrV (ge_A G (3 + n)) i.toNatClampNeg (fun _ => .null)) := by rw [← hH.1, Array.getElem?_push_size, ← arrV_new]
  refine k p e R s m args9 below meth c _ locs (cells + 1) (slots + i.toNatClampNeg) MC MS L hC hR (by omega) (hH.push (by omega) (by rw [Array.size_push]) (fun q hq => by rw [Array.getElem?_push, if_neg (Nat.ne_of_lt hq)]) ?_) hl hz
  refine ax_cell (g := px_N g (53 + n) i.toNatClampNeg) (nx_K g (53 + n) _) rfl (by omega) (fun v hv => ?_) (by omega) e1
  refine ⟨fun h => by omega, fun h => by omega, fun h => by omega, fun i' _ h => ?_⟩
  obtain rfl : n = i' := by omega
  rw [← Option.some.inj (e1.symm.trans hv)]
  simp only [nx_N, nx_O]
  rfl
/-! answers -/
theorem ex_iret {x : Int32} (hM : mt_ok M = true) (hf : mt_in M pc (.ireturn) 1) (hr : mt_r M = some .int) (hq : Q (.inl (some (.int x))) g) : ex_W G d mc ms M pc ls [.int x] g Q := by
  intro p e R s m args9 below meth c H locs cells slots MC MS L hC hR hB hH hl hz
  refine W.widen (k := MC) (n := MS) (by omega) (by omega) (vx_ret ?_)
  exact W.iret hC.1 hC.2.1 (hC.2.2.2.2.2.1.trans hr) (fun t ht hW => ⟨_, g, rfl, hq, by rw [ht]; exact hH.moved hW.alike⟩) hz (mt_dec hM hf) hC.2.2.2.2.2.2.1
theorem ex_zret {x : Int32} (hM : mt_ok M = true) (hf : mt_in M pc (.ireturn) 1) (hr : mt_r M = some .boolean) (hx : x = 0 ∨ x = 1) (hq : Q (.inl (some (.int x))) g) : ex_W G d mc ms M pc ls [.int x] g Q := by
  intro p e R s m args9 below meth c H locs cells slots MC MS L hC hR hB hH hl hz
  refine W.widen (k := MC) (n := MS) (by omega) (by omega) (vx_ret ?_)
  exact W.zret hC.1 hC.2.1 (hC.2.2.2.2.2.1.trans hr) (by rcases hx with rfl | rfl <;> decide) (fun t ht hW => ⟨_, g, rfl, hq, by rw [ht]; exact hH.moved hW.alike⟩) hz (mt_dec hM hf) hC.2.2.2.2.2.2.1
theorem ex_vret (hM : mt_ok M = true) (hf : mt_in M pc (.return_) 1) (hr : mt_r M = none) (hq : Q (.inl none) g) : ex_W G d mc ms M pc ls [] g Q := by
  intro p e R s m args9 below meth c H locs cells slots MC MS L hC hR hB hH hl hz
  refine W.widen (k := MC) (n := MS) (by omega) (by omega) (vx_ret ?_)
  exact W.vret hC.1 hC.2.1 (hC.2.2.2.2.2.1.trans hr) (fun t ht hW => ⟨_, g, rfl, hq, by rw [ht]; exact hH.moved hW.alike⟩) hz (mt_dec hM hf) hC.2.2.2.2.2.2.1
theorem ex_aret {x : Nat} {C : String} (hM : mt_ok M = true) (hf : mt_in M pc (.areturn) 1) (hr : mt_r M = some (.object C)) (hq : Q (.inl (some (.ref x))) g) : ex_W G d mc ms M pc ls [.ref x] g Q := by
  intro p e R s m args9 below meth c H locs cells slots MC MS L hC hR hB hH hl hz
  refine W.widen (k := MC) (n := MS) (by omega) (by omega) (vx_ret ?_)
  exact W.aret hC.1 hC.2.1 (hC.2.2.2.2.2.1.trans hr) (Or.inl ⟨_, rfl⟩) (Or.inr ⟨_, rfl⟩) (fun t ht hW => ⟨_, g, rfl, hq, by rw [ht]; exact hH.moved hW.alike⟩) hz (mt_dec hM hf) hC.2.2.2.2.2.2.1
end EN
end
section
/-! ===== methods and calls ===== -/
abbrev tb_G : List Cond := lw_tbl.filter goodWord
theorem tb_in {w : Cond} (h : w ∈ lw_tbl) (hg : goodWord w = true) : w ∈ tb_G := List.mem_filter.mpr ⟨h, hg⟩
theorem tb_good {ws : List Cond} (h : ∀ w ∈ ws, w ∈ tb_G) : GoodIn tb_G ws := fun w hw => ⟨h w hw, good_of_word (List.mem_filter.mp (h w hw)).2⟩
def ex_rm (d mc ms : Nat) : Room := { frames := d + 8, cells := mc, slots := ms, locals := 60 * (d + 8) }
abbrev ex_ws (w : Cond) : List Cond := w :: tb_G
abbrev ex_Pc (G : GE) (argv : List Value) (g : GT) : Array Value → State → Prop := va_Pc argv (fun U => gx_H G U g U.heap ∧ cx_K G U)
/-- y, called with argv in a heap that is g, comes back with Q -/
def ex_M (G : GE) (d mc ms : Nat) (y : MethodName) (argv : List Value) (g : GT) (Q : RT → GT → Prop) : Prop :=
  ∃ (bytes : ByteArray) (maxL : Nat) (ret : Option FieldType), Cond.code y bytes maxL ret ∈ lw_tbl ∧ maxL ≤ 40 ∧ vx_Met (ge_l G) y (ex_ws (.code y bytes maxL ret)) (ex_rm d mc ms) (ex_Pc G argv g) (ex_Qc G Q) (ex_XC G Q) mc ms (fun q => ge_b G ≤ q)
theorem cx_K.warm {G : GE} {s U : State} (hW : s.WarmedH U.vm) (h : cx_K G s) : cx_K G U := by
  obtain ⟨h1, h2, h3, a1, a2, a3, a4, h4, b1, b2, b3⟩ := h
  refine ⟨h1.moved hW.alike, fun w hw => ?_, fun q hq => ?_, a1.moved hW.alike, a2.moved hW.alike, a3.moved hW.alike, a4.moved hW.alike, fun w hw => ?_, b1.moved hW.alike, b2.moved hW.alike, b3.moved hW.alike⟩
  · have h := h2 w hw
    simp only [cx_nest, List.mem_cons, List.not_mem_nil, or_false] at hw
    rcases hw with rfl | rfl | rfl | rfl | rfl | rfl | rfl | rfl | rfl | rfl | rfl | rfl <;> exact va_Nw.warmM hW h
  · obtain ⟨sa, hs⟩ := h3 q hq
    exact ⟨sa, vk_R.warm hW hs⟩
  · have h := h4 w hw
    simp only [cx_face, List.mem_cons, List.not_mem_nil, or_false] at hw
    rcases hw with rfl | rfl | rfl | rfl | rfl | rfl <;> exact va_tabs rfl (rfl : (s.setVm U.vm).vm = U.vm) (Cond.before_shiftedFace (args := #[]) (State.Shifted.of_warmed hW) _ rfl h)
theorem ex_blind {G : GE} {argv : List Value} {g : GT} : FrameBlind (ex_Pc G argv g) := by
  intro a U f mk ⟨h1, h2, h3⟩
  exact ⟨h1, h2.moved (u := U) (U := U.calling f mk a) (Vm.Alike.refl U.vm), cx_K.warm (s := U) (U := U.calling f mk a) (State.WarmedH.refl U) h3⟩
theorem ex_M_of {G : GE} {d mc ms : Nat} {M : MT} {argv : List Value} {g : GT} {Q : RT → GT → Prop} (hM : mt_ok M = true) (hcode : Cond.code (mt_y M) (mt_b M) (mt_l M) (mt_r M) ∈ lw_tbl) (hh : mt_h M = []) (hst : (ge_l G).stackTraces = false) (hlen : (lg_sl argv).length ≤ mt_l M)
    (h : ex_W G d mc ms M 0 (lv_args 0 argv) [] g Q) : ex_M G d mc ms (mt_y M) argv g Q := by
  obtain ⟨-, -, -, -, h40, hpl, -⟩ := mt_ok_spec hM
  refine ⟨mt_b M, mt_l M, mt_r M, hcode, h40, vx_ofW (cc := mt_b M) (maxL := mt_l M) (ret := mt_r M) hpl rfl ?_⟩
  intro p e s m args below meth c s₁ B hml ht hv
  obtain ⟨rfl, hH, hK⟩ := hv
  have hts := atoms_spec (ws := ex_ws (.code (mt_y M) (mt_b M) (mt_l M) (mt_r M))) B.pre
  have hC : cx_C G M p s m argv.toArray meth c := ⟨B.exec, B.bytes, hml, findClass_of_methodNamed B.named, fun w hw hg => hts w (List.mem_cons_of_mem _ (tb_in hw hg)), B.returns, B.notSynchronized, (name_of_methodNamed B.named B.method).1, by
    rw [hh]
    exact List.eq_nil_iff_forall_not_mem.mpr (fun x hx => ht x hx), hK, hst, by rw [hH.1]; exact hH.2.1.2⟩
  rw [lg_entry_eq]
  exact h p e _ s m _ below meth c s.heap [] 0 0 mc ms _ hC ⟨Nat.le_refl _, Nat.le_refl _⟩ ⟨by omega, by omega, Nat.le_refl _, Nat.le_refl _⟩ hH (lv_entry argv hlen) (fun z hz => nomatch hz)
theorem ex_M.mono {G : GE} {d mc ms : Nat} {y : MethodName} {argv : List Value} {g : GT} {Q Q' : RT → GT → Prop} (h : ex_M G d mc ms y argv g Q) (hq : ∀ r g', Q r g' → Q' r g') : ex_M G d mc ms y argv g Q' := by
  obtain ⟨bytes, maxL, ret, h1, h2, h3⟩ := h
  refine ⟨bytes, maxL, ret, h1, h2, fun p e a1 a2 a3 s m args below a4 a5 a6 a7 => ?_⟩
  obtain ⟨n, o, b1, b2, b3, b4⟩ := h3 p e a1 a2 a3 s m args below a4 a5 a6 a7
  refine ⟨n, o, b1, b2, b3, ?_⟩
  rcases b4 with ⟨⟨v, g', c1, c2, c3⟩, c4⟩ | ⟨q, c1, E, ce, L, ⟨g', c2, c3⟩, c4⟩
  · exact Or.inl ⟨⟨v, g', c1, hq _ _ c2, c3⟩, c4⟩
  · exact Or.inr ⟨q, c1, E, ce, L, ⟨g', hq _ _ c2, c3⟩, c4⟩
/-- a callee that never throws, as the kit's rows for such take it -/
theorem ex_M.met {G : GE} {mc ms : Nat} {y : MethodName} {ws : List Cond} {rm : Room} {Pc : Array Value → State → Prop} {Q : RT → GT → Prop} {free : Addr → Prop} (h : vx_Met (ge_l G) y ws rm Pc (ex_Qc G Q) (ex_XC G Q) mc ms free) (hq : ∀ E g', ¬ Q (.inr E) g') : Met (ge_l G) y ws rm Pc (ex_Qc G Q) mc ms free := by
  intro p e a1 a2 a3 s m args below a4 a5 a6 a7
  obtain ⟨n, o, b1, b2, b3, b4⟩ := h p e a1 a2 a3 s m args below a4 a5 a6 a7
  refine ⟨n, o, b1, b2, b3, ?_⟩
  rcases b4 with b4 | ⟨q, c1, E, ce, L, ⟨g', c2, c3⟩, c4⟩
  · exact b4
  · exact absurd c2 (hq E g')
section EC
variable {G : GE} {d mc ms : Nat} {M : MT} {pc : Nat} {ls : List (Nat × Value)} {st : List Value} {g : GT} {Q : RT → GT → Prop}
theorem mt_min {idx n t d1 mc1 ms1 : Nat} {y : MethodName} (hp : (mt_m M).lookup idx = some (y, n, t, d1, mc1, ms1)) {w : Cond} (hw : w ∈ mt_mw (mt_y M).cls (idx, y, n, t, d1, mc1, ms1)) : w ∈ mt_need M :=
  List.mem_append_left _ (List.mem_append_left _ (List.mem_append_right _ (List.mem_flatMap.mpr ⟨_, mt_mem hp, hw⟩)))
theorem mt_mok (hM : mt_ok M = true) {idx n t d1 mc1 ms1 : Nat} {y : MethodName} (hp : (mt_m M).lookup idx = some (y, n, t, d1, mc1, ms1)) : y.cls ≠ "java/lang/invoke/MethodHandle" ∧ y.cls ≠ "java/lang/invoke/VarHandle" ∧ (parseMethodDescriptor y.desc).map (fun d => d.parameters.length) = some n := ((mt_ok_spec hM).2.2.2.1 _ (mt_mem hp)).2
/-- what a call's run gives back, both ways -/
theorem ex_back {mc1 ms1 : Nat} {Q1 : RT → GT → Prop} {p : Program} {e : Env} {R : Room} {s : State} {m : MethodId} {args : Array Value} {below : List Frame} {meth : Method} {c : Code} {H : Heap} {locs : List Loc} {cells slots MC MS : Nat} {L : Array Slot} {st0 : List Value} {a : Array Value}
    (hC : cx_C G M p s m args meth c) (hR : d + 8 ≤ R.frames ∧ 60 * (d + 8) ≤ R.locals) (hB : cells + mc ≤ MC ∧ slots + ms ≤ MS ∧ MC ≤ R.cells ∧ MS ≤ R.slots) (hl : lv_has L (mt_l M) ls) (hz : ∀ z ∈ locs, ge_b G ≤ z.base) (hm : mc1 ≤ mc ∧ ms1 ≤ ms) (hh : mt_h M = [])
    (hr : vx_Run p (ge_l G) e R s m args below meth c H locs cells slots mc1 ms1 (F0 m pc L st0) st (ex_Qc G Q1 a) (ex_XC G Q1) (fun q => ge_b G ≤ q))
    (k1 : ∀ v g', Q1 (.inl v) g' → ex_W G d (mc - mc1) (ms - ms1) M (pc + 3) ls (v.toList ++ st) g' Q) (k2 : ∀ E g', Q1 (.inr E) g' → Q (.inr E) g') :
    W p (ge_l G) e R s m args below meth c H locs cells slots (vx_MQ below (ex_Qc G Q) (ex_XC G Q) args s MC MS (fun q => ge_b G ≤ q)) (F0 m pc L st0) := by
  intro T hT X
  have hzL : ∀ {L' : List Loc}, (∀ q ∈ L', ge_b G ≤ q.base) → ∀ q ∈ locs ++ L', ge_b G ≤ q.base := fun hL => t_lL (free := fun q => ge_b G ≤ q) hz hL
  rcases hr T hT X with ⟨v, st₀, t, T', L', h0, X', hL, e1, e2, ⟨v', g', hv, hq, hH⟩, go⟩ | ⟨q, st₀, t, T', L', E, ce, h0, X', hL, e1, e2, ⟨g', hq, hH⟩, hce, hcv, hcl, go⟩
  · cases hv
    have hal : t.vm.Alike s.vm := by rw [← e2]; exact X'.warmed.alike.symm
    obtain ⟨t2, a1, b1⟩ := k1 v g' hq p e R s m args below meth c T'.heap (locs ++ L') (cells + mc1) (slots + ms1) MC MS L hC hR (by omega) (by rw [e1]; exact hH.moved hal) hl (hzL hL) T' rfl X'
    exact ⟨t2, go t2 a1, b1⟩
  · have ho : vx_W p (ge_l G) e R s m args below meth c T'.heap (locs ++ L') (cells + mc1) (slots + ms1) (vx_MQ below (ex_Qc G Q) (ex_XC G Q) args s MC MS (fun q => ge_b G ≤ q)) (F0 m pc L st) q :=
      vx_out (fun x hx => by rw [hC.2.2.2.2.2.2.2.2.1, hh] at hx; cases hx) hC.2.2.2.2.2.2.1 (by rw [e1]; exact hce) hcv hcl (fun t9 ht9 hal9 => ⟨g', k2 E g' hq, by
        rw [ht9, e1]
        have hal : t.vm.Alike s.vm := by rw [← e2]; exact X'.warmed.alike.symm
        exact (hH.moved hal).moved hal9⟩) (hzL hL) (by omega) (by omega)
    obtain ⟨t2, a1, b1⟩ := ho T' rfl X'
    exact ⟨t2, go.trans a1, b1⟩
theorem ex_callV {idx n t d1 mc1 ms1 b : Nat} {y : MethodName} {As : List Value} {Q1 : RT → GT → Prop} (hM : mt_ok M = true) (hf : mt_in M pc (.invokevirtual idx) 3) (hp : (mt_m M).lookup idx = some (y, n, t, d1, mc1, ms1)) (ht : 10 ≤ t) (hh : mt_h M = []) (hd : d1 < d) (hlen : As.length = n)
    (hk : gx_K g b = t - 10 + 1) (hcat : (st.map fun v => v.category).sum ≤ 8) (hm : mc1 ≤ mc ∧ ms1 ≤ ms) (hcall : ex_M G d1 mc1 ms1 y (.ref b :: As) g Q1)
    (k1 : ∀ v g', Q1 (.inl v) g' → ex_W G d (mc - mc1) (ms - ms1) M (pc + 3) ls (v.toList ++ st) g' Q) (k2 : ∀ E g', Q1 (.inr E) g' → Q (.inr E) g') : ex_W G d mc ms M pc ls (As.reverse ++ .ref b :: st) g Q := by
  intro p e R s m args9 below meth c H locs cells slots MC MS L hC hR hB hH hl hz
  obtain ⟨bytes, maxL, ret, hcode, h40, hmet⟩ := hcall
  obtain ⟨hd1, hd2, hd3⟩ := mt_mok hM hp
  obtain ⟨ci, hci, rfl, hy⟩ : ∃ ci, ci < 13 ∧ t = 10 + ci ∧ y.cls = cx_R ci := by
    rcases ((mt_ok_spec hM).2.2.2.1 _ (mt_mem hp)).1 with h | ⟨h, h2⟩
    · dsimp only at h; omega
    · dsimp only at h h2
      exact ⟨t - 10, by omega, by omega, h2⟩
  have hk : gx_K g b = ci + 1 := by omega
  have hts : ∀ w ∈ tb_G, w.before args9 s = true := fun w hw => hC.2.2.2.2.1 w (List.mem_filter.mp hw).1 (List.mem_filter.mp hw).2
  have hneed : ∀ w ∈ mt_mw (mt_y M).cls (idx, y, n, 10 + ci, d1, mc1, ms1), w ∈ tb_G := fun w hw => tb_in ((mt_ok_spec hM).2.1 w (mt_min hp hw)).1 ((mt_ok_spec hM).2.1 w (mt_min hp hw)).2
  have hgood : GoodIn tb_G (wsV (mt_y M).cls idx y.cls y (ex_ws (.code y bytes maxL ret))) := tb_good (fun w hw => by
    rcases List.mem_append.mp hw with h | h
    · exact hneed w (by
        have e : mt_mw (mt_y M).cls (idx, y, n, 10 + ci, d1, mc1, ms1) = [.methodLink (mt_y M).cls idx y, .instanceMethod y, .selects y.cls y y, .initialized y.cls] := by
          unfold mt_mw
          split <;> first | (rename_i h9; dsimp only at h9; omega) | rfl
        rw [e]
        exact h)
    · rcases List.mem_cons.mp h with rfl | h
      · exact tb_in hcode rfl
      · exact h)
  obtain ⟨hc, -, -⟩ := cx_facts ci hci
  obtain ⟨r, hr, cell, q1, q2, q3, -⟩ := (hH.2.2.2.1 b (by omega)).1 ci hk hci
  have hKn := hC.2.2.2.2.2.2.2.2.2.1.1.1 ci _ hc
  refine ex_back (a := (Value.ref b :: As).toArray) hC hR hB hl hz hm hh (vx_runV (As := As) (rest := st) (nL := mt_l M) ⟨hC.1, hC.2.1, hC.2.2.1, hC.2.2.2.1, hts⟩ hmet (cwV n hts hgood rfl rfl rfl ⟨rfl, hd1, hd2, hd3⟩ ?_) ⟨ex_blind, ⟨cell, q1, by rw [q3]; rfl, by rw [hy, q2]; exact hKn.2.1⟩, fun U hU hW => ⟨rfl, by rw [hU]; exact hH.moved hW.alike, cx_K.warm hW hC.2.2.2.2.2.2.2.2.2.1⟩⟩ rfl hlen hl.1 rfl (lv_room hcat) (mt_dec hM hf) (by omega)) k1 k2
  show d1 + 8 + 1 ≤ R.frames ∧ 8 + (maxL + 11) + 60 * (d1 + 8) ≤ R.locals
  omega
theorem ex_callS {idx n d1 mc1 ms1 : Nat} {y : MethodName} {As : List Value} {Q1 : RT → GT → Prop} (hM : mt_ok M = true) (hf : mt_in M pc (.invokestatic idx) 3) (hp : (mt_m M).lookup idx = some (y, n, 1, d1, mc1, ms1)) (hh : mt_h M = []) (hd : d1 < d) (hlen : As.length = n)
    (hcat : (st.map fun v => v.category).sum ≤ 8) (hm : mc1 ≤ mc ∧ ms1 ≤ ms) (hcall : ex_M G d1 mc1 ms1 y As g Q1)
    (k1 : ∀ v g', Q1 (.inl v) g' → ex_W G d (mc - mc1) (ms - ms1) M (pc + 3) ls (v.toList ++ st) g' Q) (k2 : ∀ E g', Q1 (.inr E) g' → Q (.inr E) g') : ex_W G d mc ms M pc ls (As.reverse ++ st) g Q := by
  intro p e R s m args9 below meth c H locs cells slots MC MS L hC hR hB hH hl hz
  obtain ⟨bytes, maxL, ret, hcode, h40, hmet⟩ := hcall
  have hts : ∀ w ∈ tb_G, w.before args9 s = true := fun w hw => hC.2.2.2.2.1 w (List.mem_filter.mp hw).1 (List.mem_filter.mp hw).2
  have hgood : GoodIn tb_G (ex_ws (.code y bytes maxL ret)) := tb_good (fun w hw => by
    rcases List.mem_cons.mp hw with rfl | h
    · exact tb_in hcode rfl
    · exact h)
  have w1 := mt_wd hM hC (mt_min hp (w := .methodLink (mt_y M).cls idx y) (by simp [mt_mw]))
  have w2 := mt_wd hM hC (mt_min hp (w := .static y) (by simp [mt_mw]))
  have w3 := mt_wd hM hC (mt_min hp (w := .initialized y.cls) (by simp [mt_mw]))
  refine ex_back (a := As.toArray) hC hR hB hl hz hm hh (vx_runS (As := As) (rest := st) (nL := mt_l M) ⟨hC.1, hC.2.1, hC.2.2.1, hC.2.2.2.1, hts⟩ hmet ⟨callB_of n hts hgood rfl rfl rfl w3 w1 (mt_mok hM hp) ?_, w2⟩ ⟨ex_blind, fun U hU hW => ⟨rfl, by rw [hU]; exact hH.moved hW.alike, cx_K.warm hW hC.2.2.2.2.2.2.2.2.2.1⟩⟩ rfl hlen hl.1 rfl (lv_room hcat) (mt_dec hM hf) (by omega)) k1 k2
  show d1 + 8 + 1 ≤ R.frames ∧ 8 + (maxL + 11) + 60 * (d1 + 8) ≤ R.locals
  omega
/-- a run of the kit's rows for callees that never throw, as one that could -/
theorem ex_quiet {Q1 : RT → GT → Prop} {p : Program} {e : Env} {R : Room} {s : State} {m : MethodId} {args : Array Value} {below : List Frame} {meth : Method} {c : Code} {H : Heap} {locs : List Loc} {cells slots mc1 ms1 : Nat} {f : JFrame} {rest : List Value} {a : Array Value}
    (h : va_Run p (ge_l G) e R s m args below meth c H locs cells slots mc1 ms1 f rest (ex_Qc G Q1 a) (fun q => ge_b G ≤ q)) : vx_Run p (ge_l G) e R s m args below meth c H locs cells slots mc1 ms1 f rest (ex_Qc G Q1 a) (ex_XC G Q1) (fun q => ge_b G ≤ q) :=
  fun T hT X => Or.inl (h T hT X)
theorem ex_callSN {idx n d1 mc1 ms1 : Nat} {y : MethodName} {As : List Value} {Q1 : RT → GT → Prop} (hM : mt_ok M = true) (hf : mt_in M pc (.invokestatic idx) 3) (hp : (mt_m M).lookup idx = some (y, n, 4, d1, mc1, ms1)) (hh : mt_h M = []) (hd : d1 < d) (hlen : As.length = n) (hnest : Cond.methodLinkNest (mt_y M).cls idx y "RoundKeepers" ∈ cx_nest)
    (hcat : (st.map fun v => v.category).sum ≤ 8) (hm : mc1 ≤ mc ∧ ms1 ≤ ms) (hcall : ex_M G d1 mc1 ms1 y As g Q1) (hq : ∀ E g', ¬ Q1 (.inr E) g')
    (k1 : ∀ v g', Q1 (.inl v) g' → ex_W G d (mc - mc1) (ms - ms1) M (pc + 3) ls (v.toList ++ st) g' Q) : ex_W G d mc ms M pc ls (As.reverse ++ st) g Q := by
  intro p e R s m args9 below meth c H locs cells slots MC MS L hC hR hB hH hl hz
  obtain ⟨bytes, maxL, ret, hcode, h40, hmet⟩ := hcall
  have hts : ∀ w ∈ tb_G, w.before args9 s = true := fun w hw => hC.2.2.2.2.1 w (List.mem_filter.mp hw).1 (List.mem_filter.mp hw).2
  have hgood : GoodIn tb_G (ex_ws (.code y bytes maxL ret)) := tb_good (fun w hw => by
    rcases List.mem_cons.mp hw with rfl | h
    · exact tb_in hcode rfl
    · exact h)
  have w2 := mt_wd hM hC (mt_min hp (w := .static y) (by simp [mt_mw]))
  have w3 := mt_wd hM hC (mt_min hp (w := .initialized y.cls) (by simp [mt_mw]))
  refine ex_back (a := As.toArray) hC hR hB hl hz hm hh (ex_quiet (va_runSN (As := As) (rest := st) (nL := mt_l M) ⟨hC.1, hC.2.1, hC.2.2.1, hC.2.2.2.1, hts⟩ (ex_M.met hmet hq) ⟨va_cnB n hts hgood rfl rfl rfl (hC.2.2.2.2.2.2.2.2.2.1.2.1 _ hnest) w3 (mt_mok hM hp) ?_, w2, trivial⟩ ⟨ex_blind, fun U hU hW => ⟨rfl, by rw [hU]; exact hH.moved hW.alike, cx_K.warm hW hC.2.2.2.2.2.2.2.2.2.1⟩⟩ rfl hlen hl.1 rfl (lv_room hcat) (mt_dec hM hf) (by omega))) k1 (fun E g' h => absurd h (hq E g'))
  show d1 + 8 + 1 ≤ R.frames ∧ 8 + (maxL + 11) + 60 * (d1 + 8) ≤ R.locals
  omega
end EC
end
section
/-! ===== constructors' calls, throws, copies of rows ===== -/
def tx_names : List String := ["java/lang/RuntimeException", "java/lang/Exception"]
def tx_ok (own : String) (ik ic e : Nat) : Bool := decide (∀ w ∈ (Cond.classLink own ik (cx_E e) :: Cond.initialized (cx_E e) :: vx_atS own ic (cx_E e) tx_names), vx_ot w = true ∧ ((goodWord w = true ∧ w ∈ lw_tbl) ∨ w ∈ cx_face))
section ET
variable {G : GE} {d mc ms : Nat} {M : MT} {pc : Nat} {ls : List (Nat × Value)} {st : List Value} {g : GT} {Q : RT → GT → Prop}
theorem gx_H.grow {U t : State} {H : Heap} (h : gx_H G U g H) (hvm : U.vm.Alike t.vm) (hs : H.size ≤ t.heap.size) (hk : ∀ q : Nat, q < H.size → t.heap[q]? = H[q]?) : gx_H G t (px_Z g t.heap.size) t.heap := by
  have h := h.moved hvm
  obtain ⟨h1, h2, h3, h4, h5, h6⟩ := h
  have hkp : ∀ q : Nat, q < H.size → ¬ ge_b G ≤ q → t.heap[q]? = H[q]? := fun q hq _ => hk q hq
  refine ⟨rfl, ⟨h2.1, ?_⟩, fun a ha => ?_, fun a ha => ?_, h5.kept hkp, h6.kept hkp⟩
  · show ge_b G ≤ t.heap.size
    omega
  · have := h3 a ha
    refine ⟨?_, this.2⟩
    show a < t.heap.size
    omega
  · have hlt : a < H.size := by rw [h1]; exact (h3 a ha).1
    exact ((h4 a ha).kept (hk a hlt)).same rfl rfl (fun _ => rfl) (fun _ => rfl) (fun _ => rfl) (fun _ => rfl) (fun _ => rfl)
theorem tx_w {p : Program} {s : State} {m : MethodId} {args : Array Value} {meth : Method} {c : Code} {own : String} {ik ic e : Nat} (hC : cx_C G M p s m args meth c) (h : tx_ok own ik ic e = true) : (∀ w ∈ (Cond.classLink own ik (cx_E e) :: Cond.initialized (cx_E e) :: vx_atS own ic (cx_E e) tx_names), w.before args s = true) ∧ ∀ w ∈ (Cond.classLink own ik (cx_E e) :: Cond.initialized (cx_E e) :: vx_atS own ic (cx_E e) tx_names), vx_ot w = true := by
  have h := of_decide_eq_true h
  refine ⟨fun w hw => ?_, fun w hw => (h w hw).1⟩
  rcases (h w hw).2 with ⟨h1, h2⟩ | h2
  · exact hC.2.2.2.2.1 w h2 h1
  · have h3 := hC.2.2.2.2.2.2.2.2.2.1.2.2.2.2.2.2.2.1 w h2
    simp only [cx_face, List.mem_cons, List.not_mem_nil, or_false] at h2
    rcases h2 with rfl | rfl | rfl | rfl | rfl | rfl <;> exact va_Nw.use rfl h3
theorem tx_fit : ∀ e, 100 ≤ e → Bundle.fit (cx_E e) = true := by
  intro e he
  unfold cx_E
  split <;> decide +kernel
theorem tx_fits : ∀ n ∈ tx_names, Bundle.fit n = true := by decide +kernel
theorem tx_S {p : Program} {e : Env} {R : Room} {s : State} {m : MethodId} {args : Array Value} {below : List Frame} {meth : Method} {c : Code} {H : Heap} {locs : List Loc} {cells slots : Nat} {T : State} (hC : cx_C G M p s m args meth c) (hH : gx_H G s g H) (hz : ∀ z ∈ locs, ge_b G ≤ z.base) (hT : T.heap = H) (X : Stand p (ge_l G) e R s m args below meth c T locs cells slots) :
    va_S (fun q => ge_b G ≤ q) s.heap H locs ∧ vx_Zq Bundle.tN "UNASSIGNED_STACK" Bundle.steD (fun q => ge_b G ≤ q) s s.heap ∧ vx_Zq Bundle.tN "SUPPRESSED_SENTINEL" Bundle.listD (fun q => ge_b G ≤ q) s s.heap := by
  obtain ⟨f1, f2⟩ := vx_frame (U := T) X.same
  rw [hT] at f1 f2
  have hb := hC.2.2.2.2.2.2.2.2.2.2.2
  have hk : ∀ q : Nat, q < s.heap.size → ¬ ge_b G ≤ q → H[q]? = s.heap[q]? := fun q hq hn => f2 q hq (fun z hz1 e1 => hn (by rw [← e1]; exact hz z hz1))
  have hk2 : ∀ q : Nat, q < H.size → ¬ ge_b G ≤ q → s.heap[q]? = H[q]? := fun q _ hn => (hk q (by omega) hn).symm
  exact ⟨⟨f1, hk, hz⟩, hH.2.2.2.2.1.kept hk2, hH.2.2.2.2.2.kept hk2⟩
/-- 'throw new E("text")', the text by a narrow index -/
theorem ex_throw {ik is ic e : Nat} {text : String} (hM : mt_ok M = true) (f0 : mt_in M pc (.new ik) 3) (f1 : mt_in M (pc + 3) (.dup) 1) (f2 : mt_in M (pc + 4) (.ldc is) 2) (f3 : mt_in M (pc + 6) (.invokespecial ic) 3) (f4 : mt_in M (pc + 9) (.athrow) 1)
    (he : 100 ≤ e) (hx : tx_ok (mt_y M).cls ik ic e = true) (hs : ((mt_y M).cls, is, text) ∈ cx_strs) (hh : mt_h M = []) (h1 : 1 ≤ mc) (h6 : 6 ≤ ms) (hcat : (st.map fun v => v.category).sum ≤ 8) (hq : ∀ n, gx_Z g ≤ n → Q (.inr (cx_E e)) (px_Z g n)) : ex_W G d mc ms M pc ls st g Q := by
  intro p e9 R s m args9 below meth c H locs cells slots MC MS L hC hR hB hH hl hz T hT X
  obtain ⟨w1, w2⟩ := tx_w hC hx
  obtain ⟨sa, hsa⟩ := hC.2.2.2.2.2.2.2.2.2.1.2.2.1 _ hs
  obtain ⟨z1, z2, z3, z4, z5, z6⟩ := id hH
  obtain ⟨s1, s2, s3⟩ := tx_S hC hH hz hT X
  refine vx_throwS (A := fun q => ge_b G ≤ q) hC.1 hC.2.1 hC.2.2.2.2.2.2.2.2.2.2.1 hC.2.2.2.1 (tx_fit e he) tx_fits (w1 _ List.mem_cons_self) (w1 _ (List.mem_cons_of_mem _ List.mem_cons_self)) hsa (fun w hw => w1 w (List.mem_cons_of_mem _ (List.mem_cons_of_mem _ hw))) w2 s2 s3 s1 (hl.1.trans hC.2.2.1.symm)
    (mt_dec hM f0) (mt_dec hM f1) (mt_dec hM f2) (mt_dec hM f3) (mt_dec hM f4) (fun x hx => by rw [hC.2.2.2.2.2.2.2.2.1, hh] at hx; cases hx) (by simp only [tx_names, List.length_cons, List.length_nil]; omega) (by simp only [tx_names, List.length_cons, List.length_nil]; omega) (by omega) (by omega) hC.2.2.2.2.2.2.1
    (fun t hal hsz hk => ⟨px_Z g t.heap.size, hq _ (by rw [← z1]; exact hsz), hH.grow hal hsz hk⟩) hz (by omega) (by omega) T hT X
/-- 'throw new E("text")', the text by a wide index -/
theorem ex_throwW {ik is ic e : Nat} {text : String} (hM : mt_ok M = true) (f0 : mt_in M pc (.new ik) 3) (f1 : mt_in M (pc + 3) (.dup) 1) (f2 : mt_in M (pc + 4) (.ldc_w is) 3) (f3 : mt_in M (pc + 7) (.invokespecial ic) 3) (f4 : mt_in M (pc + 10) (.athrow) 1)
    (he : 100 ≤ e) (hx : tx_ok (mt_y M).cls ik ic e = true) (hs : ((mt_y M).cls, is, text) ∈ cx_strs) (hh : mt_h M = []) (h1 : 1 ≤ mc) (h6 : 6 ≤ ms) (hcat : (st.map fun v => v.category).sum ≤ 8) (hq : ∀ n, gx_Z g ≤ n → Q (.inr (cx_E e)) (px_Z g n)) : ex_W G d mc ms M pc ls st g Q := by
  intro p e9 R s m args9 below meth c H locs cells slots MC MS L hC hR hB hH hl hz T hT X
  obtain ⟨w1, w2⟩ := tx_w hC hx
  obtain ⟨sa, hsa⟩ := hC.2.2.2.2.2.2.2.2.2.1.2.2.1 _ hs
  obtain ⟨z1, z2, z3, z4, z5, z6⟩ := id hH
  obtain ⟨s1, s2, s3⟩ := tx_S hC hH hz hT X
  refine vx_throwSW (A := fun q => ge_b G ≤ q) hC.1 hC.2.1 hC.2.2.2.2.2.2.2.2.2.2.1 hC.2.2.2.1 (tx_fit e he) tx_fits (w1 _ List.mem_cons_self) (w1 _ (List.mem_cons_of_mem _ List.mem_cons_self)) hsa (fun w hw => w1 w (List.mem_cons_of_mem _ (List.mem_cons_of_mem _ hw))) w2 s2 s3 s1 (hl.1.trans hC.2.2.1.symm)
    (mt_dec hM f0) (mt_dec hM f1) (mt_dec hM f2) (mt_dec hM f3) (mt_dec hM f4) (fun x hx => by rw [hC.2.2.2.2.2.2.2.2.1, hh] at hx; cases hx) (by simp only [tx_names, List.length_cons, List.length_nil]; omega) (by simp only [tx_names, List.length_cons, List.length_nil]; omega) (by omega) (by omega) hC.2.2.2.2.2.2.1
    (fun t hal hsz hk => ⟨px_Z g t.heap.size, hq _ (by rw [← z1]; exact hsz), hH.grow hal hsz hk⟩) hz (by omega) (by omega) T hT X
/-! constructors -/
theorem ex_objInit {idx n d1 mc1 ms1 a : Nat} {y : MethodName} (hM : mt_ok M = true) (hf : mt_in M pc (.invokespecial idx) 3) (hp : (mt_m M).lookup idx = some (y, n, 3, d1, mc1, ms1)) (hcat : (st.map fun v => v.category).sum ≤ 8) (k : ex_W G d mc ms M (pc + 3) ls st g Q) : ex_W G d mc ms M pc ls (.ref a :: st) g Q := by
  intro p e R s m args9 below meth c H locs cells slots MC MS L hC hR hB hH hl hz
  have w1 := mt_wd hM hC (mt_min hp (w := .methodLink (mt_y M).cls idx objectInit) (by simp [mt_mw]))
  have w2 := mt_wd hM hC (mt_min hp (w := .instanceMethod objectInit) (by simp [mt_mw]))
  have w3 := mt_wd hM hC (mt_min hp (w := .code objectInit ⟨#[0xb1]⟩ 1 none) (by simp [mt_mw]))
  refine W.objInit hC.1 hC.2.1 hC.2.2.2.1 w1 w2 w3 rfl (by rw [hC.2.2.1]; exact hl.1) rfl (mt_dec hM hf) (by omega) ?_ (k p e R s m args9 below meth c H locs cells slots MC MS L hC hR hB hH hl hz)
  show 2 * 0 + (st.map fun v => v.category).sum + 12 ≤ R.locals
  omega
theorem ex_callI {idx n d1 mc1 ms1 b : Nat} {y : MethodName} {As : List Value} {Q1 : RT → GT → Prop} (hM : mt_ok M = true) (hf : mt_in M pc (.invokespecial idx) 3) (hp : (mt_m M).lookup idx = some (y, n, 2, d1, mc1, ms1)) (hh : mt_h M = []) (hd : d1 < d) (hlen : As.length = n) (hi : y.name = "<init>")
    (hcat : (st.map fun v => v.category).sum ≤ 8) (hm : mc1 ≤ mc ∧ ms1 ≤ ms) (hcall : ex_M G d1 mc1 ms1 y (.ref b :: As) g Q1) (hr0 : ∀ bytes maxL ret, Cond.code y bytes maxL ret ∈ lw_tbl → ret = none) (hq : ∀ E g', ¬ Q1 (.inr E) g')
    (k1 : ∀ v g', Q1 (.inl v) g' → ex_W G d (mc - mc1) (ms - ms1) M (pc + 3) ls (v.toList ++ st) g' Q) : ex_W G d mc ms M pc ls (As.reverse ++ .ref b :: st) g Q := by
  intro p e R s m args9 below meth c H locs cells slots MC MS L hC hR hB hH hl hz
  obtain ⟨bytes, maxL, ret, hcode, h40, hmet⟩ := hcall
  obtain rfl := hr0 _ _ _ hcode
  have hts : ∀ w ∈ tb_G, w.before args9 s = true := fun w hw => hC.2.2.2.2.1 w (List.mem_filter.mp hw).1 (List.mem_filter.mp hw).2
  have hgood : GoodIn tb_G (ex_ws (.code y bytes maxL none)) := tb_good (fun w hw => by
    rcases List.mem_cons.mp hw with rfl | h
    · exact tb_in hcode rfl
    · exact h)
  have w1 := mt_wd hM hC (mt_min hp (w := .methodLink (mt_y M).cls idx y) (by simp [mt_mw]))
  have w2 := mt_wd hM hC (mt_min hp (w := .instanceMethod y) (by simp [mt_mw]))
  have w3 := mt_wd hM hC (mt_min hp (w := .initialized y.cls) (by simp [mt_mw]))
  refine ex_back (a := (Value.ref b :: As).toArray) hC hR hB hl hz hm hh (ex_quiet (va_runI (As := As) (rest := st) (nL := mt_l M) ⟨hC.1, hC.2.1, hC.2.2.1, hC.2.2.2.1, hts⟩ (ex_M.met hmet hq) ⟨callB_of n hts hgood rfl rfl rfl w3 w1 (mt_mok hM hp) ?_, hi, w2⟩ ⟨ex_blind, fun U hU hW => ⟨rfl, by rw [hU]; exact hH.moved hW.alike, cx_K.warm hW hC.2.2.2.2.2.2.2.2.2.1⟩⟩ rfl hlen hl.1 rfl (lv_room hcat) (mt_dec hM hf) (by omega))) k1 (fun E g' h => absurd h (hq E g'))
  show d1 + 8 + 1 ≤ R.frames ∧ 8 + (maxL + 11) + 60 * (d1 + 8) ≤ R.locals
  omega
theorem ex_callIN {idx n d1 mc1 ms1 b : Nat} {y : MethodName} {As : List Value} {Q1 : RT → GT → Prop} (hM : mt_ok M = true) (hf : mt_in M pc (.invokespecial idx) 3) (hp : (mt_m M).lookup idx = some (y, n, 5, d1, mc1, ms1)) (hh : mt_h M = []) (hd : d1 < d) (hlen : As.length = n) (hi : y.name = "<init>") (hnest : Cond.methodLinkNest (mt_y M).cls idx y "RoundKeepers" ∈ cx_nest)
    (hcat : (st.map fun v => v.category).sum ≤ 8) (hm : mc1 ≤ mc ∧ ms1 ≤ ms) (hcall : ex_M G d1 mc1 ms1 y (.ref b :: As) g Q1) (hr0 : ∀ bytes maxL ret, Cond.code y bytes maxL ret ∈ lw_tbl → ret = none) (hq : ∀ E g', ¬ Q1 (.inr E) g')
    (k1 : ∀ v g', Q1 (.inl v) g' → ex_W G d (mc - mc1) (ms - ms1) M (pc + 3) ls (v.toList ++ st) g' Q) : ex_W G d mc ms M pc ls (As.reverse ++ .ref b :: st) g Q := by
  intro p e R s m args9 below meth c H locs cells slots MC MS L hC hR hB hH hl hz
  obtain ⟨bytes, maxL, ret, hcode, h40, hmet⟩ := hcall
  obtain rfl := hr0 _ _ _ hcode
  have hts : ∀ w ∈ tb_G, w.before args9 s = true := fun w hw => hC.2.2.2.2.1 w (List.mem_filter.mp hw).1 (List.mem_filter.mp hw).2
  have hgood : GoodIn tb_G (ex_ws (.code y bytes maxL none)) := tb_good (fun w hw => by
    rcases List.mem_cons.mp hw with rfl | h
    · exact tb_in hcode rfl
    · exact h)
  have w2 := mt_wd hM hC (mt_min hp (w := .instanceMethod y) (by simp [mt_mw]))
  have w3 := mt_wd hM hC (mt_min hp (w := .initialized y.cls) (by simp [mt_mw]))
  refine ex_back (a := (Value.ref b :: As).toArray) hC hR hB hl hz hm hh (ex_quiet (va_runIN (As := As) (rest := st) (nL := mt_l M) ⟨hC.1, hC.2.1, hC.2.2.1, hC.2.2.2.1, hts⟩ (ex_M.met hmet hq) ⟨va_cnB n hts hgood rfl rfl rfl (hC.2.2.2.2.2.2.2.2.2.1.2.1 _ hnest) w3 (mt_mok hM hp) ?_, hi, w2⟩ ⟨ex_blind, fun U hU hW => ⟨rfl, by rw [hU]; exact hH.moved hW.alike, cx_K.warm hW hC.2.2.2.2.2.2.2.2.2.1⟩⟩ rfl hlen hl.1 rfl (lv_room hcat) (mt_dec hM hf) (by omega))) k1 (fun E g' h => absurd h (hq E g'))
  show d1 + 8 + 1 ≤ R.frames ∧ 8 + (maxL + 11) + 60 * (d1 + 8) ≤ R.locals
  omega
end ET
end
section
/-! ===== System.arraycopy between int arrays ===== -/
theorem cp_nat : Cond.native arraycopyName ∈ lw_tbl := List.mem_of_getElem? (i := 680) (by decide +kernel)
theorem cp_nn {z : Int32} (hz : ¬ z < 0) : z.toInt = (z.toNatClampNeg : Int) := by
  have hz0 : (0 : Int) ≤ z.toInt := by
    have := Int32.not_lt.mp hz
    simpa using Int32.le_iff_toInt_le.mp this
  show z.toInt = ((z.toInt.toNat : Nat) : Int)
  omega
section EP
variable {G : GE} {d mc ms : Nat} {M : MT} {pc : Nat} {ls : List (Nat × Value)} {st : List Value} {g : GT} {Q : RT → GT → Prop}
theorem ex_copy {idx n9 d1 mc1 ms1 a0 a : Nat} {sp dp n : Int32} (hM : mt_ok M = true) (hf : mt_in M pc (.invokestatic idx) 3) (hp : (mt_m M).lookup idx = some (arraycopyName, n9, 7, d1, mc1, ms1)) (hk0 : gx_K g a0 = 50) (hk : gx_K g a = 50)
    (h1 : ¬ sp < 0) (h2 : ¬ dp < 0) (h3 : ¬ n < 0) (h4 : sp.toNatClampNeg + n.toNatClampNeg ≤ gx_N g a0) (h5 : dp.toNatClampNeg + n.toNatClampNeg ≤ gx_N g a) (hcat : (st.map fun v => v.category).sum ≤ 8)
    (k : ex_W G d mc ms M (pc + 3) ls st (px_C g a0 sp.toNatClampNeg a dp.toNatClampNeg n.toNatClampNeg) Q) : ex_W G d mc ms M pc ls (.int n :: .int dp :: .ref a :: .int sp :: .ref a0 :: st) g Q := by
  intro p e R s m args9 below meth c H locs cells slots MC MS L hC hR hB hH hl hz T hT X
  have w1 := mt_wd hM hC (mt_min hp (w := .methodLink (mt_y M).cls idx arraycopyName) (by simp [mt_mw]))
  have w2 := mt_wd hM hC (mt_min hp (w := .static arraycopyName) (by simp [mt_mw]))
  have w3 := mt_wd hM hC (mt_min hp (w := .initialized "java/lang/System") (by simp [mt_mw]; exact rfl))
  have w4 : (Cond.native arraycopyName).before args9 s = true := hC.2.2.2.2.1 _ cp_nat rfl
  have ha0 : gx_K g a ≠ 0 := by omega
  have hba : ge_b G ≤ a := (hH.2.2.1 a ha0).2.1 (by omega)
  have hc0 := (hH.2.2.2.1 a0 (by omega)).2.1 hk0
  have hc1 := (hH.2.2.2.1 a ha0).2.1 hk
  obtain ⟨-, k0, hk0', cm0, hkk0⟩ := (ex_ty hC 0 rfl).1 (gx_N g a0) (fun j => .int (gx_A g a0 j))
  obtain ⟨-, k1, hk1', cm1, hkk1⟩ := (ex_ty hC 0 rfl).1 (gx_N g a) (fun j => .int (gx_A g a j))
  obtain ⟨vm', X', step⟩ := X.arraycopy hC.1 hC.2.2.2.1 w1 w4 w2 w3 (src := a0) (dst := a) (cs := arrV (ge_A G 0) (gx_N g a0) (fun j => .int (gx_A g a0 j))) (cd := arrV (ge_A G 0) (gx_N g a) (fun j => .int (gx_A g a j))) (srcPos := sp) (destPos := dp) (n := n) (by rw [hT]; exact hc0) (by rw [hT]; exact hc1)
    (fun _ h => by cases h) (fun _ h => by cases h) (fun h => by cases h) (fun h => by cases h) hk0' hk1' hkk0 hkk1 (by simp [refKind]) h1 h2 h3
    (by rw [cp_nn h1, cp_nn h3, arrV_size]; omega)
    (by rw [cp_nn h2, cp_nn h3, arrV_size]; omega)
    (fun vm₁ _ i hi => by
      have e : (arrV (ge_A G 0) (gx_N g a0) (fun j => .int (gx_A g a0 j))).slots.getD (sp.toNatClampNeg + i) .null = .int (gx_A g a0 (sp.toNatClampNeg + i)) := by
        rw [Array.getD_eq_getD_getElem?, arrV_read _ _ (by omega)]
        rfl
      refine ⟨?_, ?_⟩
      · rw [e]; rfl
      · rw [e]; exact trivial)
    (g := F0 m pc L (.int n :: .int dp :: .ref a :: .int sp :: .ref a0 :: st)) rfl (by rw [hC.2.2.1]; exact hl.1) (rest := st) rfl (by rw [hC.2.1]; exact mt_dec hM hf) (by omega) (by
      show 2 * 0 + (st.map fun v => v.category).sum + (nativeFrameWords "java/lang/System" "arraycopy" 5 + 11) ≤ R.locals
      have : nativeFrameWords "java/lang/System" "arraycopy" 5 ≤ 100 := by decide +kernel
      omega)
  have e1 : copied (arrV (ge_A G 0) (gx_N g a0) (fun j => .int (gx_A g a0 j))) (arrV (ge_A G 0) (gx_N g a) (fun j => .int (gx_A g a j))) sp dp n = arrV (ge_A G 0) (gx_N g a) (fun j => .int (va_cpy (gx_A g a0) (gx_A g a) sp.toNatClampNeg dp.toNatClampNeg n.toNatClampNeg j)) := va_copied (fun z => .int z) (ge_A G 0) (ge_A G 0) (gx_A g a0) (gx_A g a) h4
  rw [e1] at X' step
  have hl1 : a < H.size := (Array.getElem?_eq_some_iff.mp hc1).1
  generalize hY : arrV (ge_A G 0) (gx_N g a) (fun j => .int (va_cpy (gx_A g a0) (gx_A g a) sp.toNatClampNeg dp.toNatClampNeg n.toNatClampNeg j)) = Y at X' step
  have hheap : ((T.setVm vm').setCell a Y).heap = H.setIfInBounds a Y := by rw [← hT]; rfl
  have oq : ∀ q : Nat, q ≠ a → (H.setIfInBounds a Y)[q]? = H[q]? := fun q hq => by simp [Array.getElem?_setIfInBounds, Ne.symm hq]
  have eq1 : (H.setIfInBounds a Y)[a]? = some Y := by simp [Array.getElem?_setIfInBounds, hl1]
  obtain ⟨t, a1, b1⟩ := k p e R s m args9 below meth c (H.setIfInBounds a Y) _ cells slots MC MS L hC hR hB (hH.set ha0 (by omega) rfl (fun _ => rfl) (fun _ => rfl) (fun _ _ _ => rfl) (fun _ _ _ => rfl) (fun q j hq => by simp [gx_A, px_C, hq]) (fun _ _ _ => rfl) (fun _ _ _ => rfl) (by simp) oq (by
      refine ax_cell hk rfl (by omega) (fun v hv => ?_) (by omega) eq1
      refine ⟨fun _ => ?_, fun h => by omega, fun h => by omega, fun i _ h => by omega⟩
      rw [eq1] at hv
      rw [← Option.some.inj hv, ← hY]
      show arrV _ _ _ = arrV _ _ _
      congr 1
      funext q
      simp [va_cpy, gx_A, px_C])) hl (fun z hz1 => by
      rcases List.mem_append.mp hz1 with h | h
      · exact hz z h
      · obtain ⟨y, -, hy⟩ := List.mem_map.mp h
        rw [← hy]
        exact hba) _ hheap X'
  exact ⟨t, step t a1, b1⟩
theorem ex_max {idx n9 d1 mc1 ms1 : Nat} {x y : Int32} (hM : mt_ok M = true) (hf : mt_in M pc (.invokestatic idx) 3) (hp : (mt_m M).lookup idx = some (Lib.Math.max.name, n9, 8, d1, mc1, ms1)) (hcat : (st.map fun v => v.category).sum ≤ 8)
    (k : ex_W G d mc ms M (pc + 3) ls (.int (if x < y then y else x) :: st) g Q) : ex_W G d mc ms M pc ls (.int y :: .int x :: st) g Q := by
  intro p e R s m args9 below meth c H locs cells slots MC MS L hC hR hB hH hl hz
  have w1 := mt_wd hM hC (mt_min hp (w := .methodLink (mt_y M).cls idx Lib.Math.max.name) (by simp [mt_mw]))
  have w2 := mt_wd hM hC (mt_min hp (w := .static Lib.Math.max.name) (by simp [mt_mw]))
  have w3 := mt_wd hM hC (mt_min hp (w := .initialized "java/lang/Math") (by simp [mt_mw]; exact rfl))
  have w4 := mt_wd hM hC (mt_min hp (w := .code Lib.Math.max.name Lib.Math.max.code 2 (some .int)) (by simp [mt_mw]))
  exact va_mmax hC.1 hC.2.1 (by rw [hC.2.2.1]; exact hl.1.symm) hC.2.2.2.1 w1 w2 w3 w4 (by omega) (by omega) (by omega) (by omega) (mt_dec hM hf) (k p e R s m args9 below meth c H locs cells slots MC MS L hC hR hB hH hl hz)
end EP
end
section
/-! ===== an exception that a callee threw, caught here: the search through the table, the rows' classes being linked as it goes ===== -/
def cc_F (e : Env) (s : State) (f : JFrame) (a : Addr) (h : Handler) (vm' : Vm) : Prop := ∀ (Q : Handler → Pre) (E : CtlPost) (d : Bool) (acts : List Action), wp (findHandler f a) Q E e d acts s ↔ Q h d acts (s.setVm vm')
theorem cc_row {Q : Handler → Pre} {E : CtlPost} {e : Env} {d : Bool} {acts : List Action} {s : State} {f : JFrame} {a : Addr} {x : ExceptionTableEntry} {t : List ExceptionTableEntry} {c : ClassId} {cell : Cell} {b : Bool} (hx : covers x f.pc = true) (h0 : x.catchType ≠ 0)
    (hl : s.vm.ClassLinks e.platform f.method.cls x.catchType c) (hcell : s.heap[a]? = some cell) (hobj : ∀ k, cell.vm ≠ .statics k) (hk : ∃ k, s.vm.classes[cell.cls]? = some k) (hc : ∃ k, s.vm.classes[c]? = some k) (hfit : s.vm.assignable cell.cls c = b) :
    wp (findHandler.go f a (x :: t)) Q E e d acts s ↔ (if b = true then Q (.found x.handlerPc) d acts (s.setVm (s.vm.noted f.method.cls x.catchType (.cls c))) else wp (findHandler.go f a t) Q E e d acts (s.setVm (s.vm.noted f.method.cls x.catchType (.cls c)))) := by
  simp only [covers] at hx
  obtain ⟨ha, ht⟩ := (resolveClass_links e.toSetting hl).op (op := VmOp.resolveClass f.method.cls x.catchType) rfl
  have hal : s.vm.Alike (s.vm.noted f.method.cls x.catchType (.cls c)) := (Vm.Alike.refl s.vm).noted _ _ _
  obtain ⟨k1, hk1⟩ := hk
  obtain ⟨k2, hk2⟩ := hc
  obtain ⟨k1', hk1', -⟩ := hal.2.2 _ _ hk1
  obtain ⟨k2', hk2', -⟩ := hal.2.2 _ _ hk2
  have hfit' : (s.vm.noted f.method.cls x.catchType (.cls c)).assignable cell.cls c = b := by rw [hal.assignable]; exact hfit
  cases b <;> simp [findHandler.go, hx, h0, ha, ht, hcell, hobj, hk1', hk2', hfit', VmOp.dirties, VmOp.acts]
/-- a row of the table that doesn't take what is thrown -/
def cc_P (pl : Platform) (s : State) (d : ClassId) (pc : Nat) (thrown : ClassId) (y : ExceptionTableEntry) : Prop := covers y pc = false ∨ (y.catchType ≠ 0 ∧ ∃ c, s.vm.ClassLinks pl d y.catchType c ∧ s.vm.assignable thrown c = false)
theorem cc_go {e : Env} {s : State} {f : JFrame} {a : Addr} {cell : Cell} (hobj : ∀ k, cell.vm ≠ .statics k) (hk0 : ∃ k, s.vm.classes[cell.cls]? = some k) {x : ExceptionTableEntry} {rest : List ExceptionTableEntry} {c : ClassId} (hx : covers x f.pc = true) (h0 : x.catchType ≠ 0)
    (hl : s.vm.ClassLinks e.platform f.method.cls x.catchType c) (hfit : s.vm.assignable cell.cls c = true) :
    ∀ (pre : List ExceptionTableEntry) (S : State), s.WarmedH S.vm → S.heap[a]? = some cell → (∀ y ∈ pre, cc_P e.platform s f.method.cls f.pc cell.cls y) →
      ∃ vm', s.WarmedH vm' ∧ ∀ (Q : Handler → Pre) (E : CtlPost) (d : Bool) (acts : List Action), wp (findHandler.go f a (pre ++ x :: rest)) Q E e d acts S ↔ Q (.found x.handlerPc) d acts (S.setVm vm') := by
  obtain ⟨k0, hk0⟩ := hk0
  intro pre
  induction pre with
  | nil =>
    intro S hW hcell _
    obtain ⟨k1, hk1, -⟩ := hW.alike.2.2 _ _ hk0
    obtain ⟨dk, _, _, kt, hd, _, _, _, _, hkt, _, hopen⟩ := hl.here
    obtain ⟨k2, hk2, -⟩ := hW.alike.2.2 _ _ hkt
    refine ⟨_, hW.noted hd hopen (State.rightAt_cls hl), fun Q E d acts => ?_⟩
    have h := cc_row (Q := Q) (E := E) (d := d) (acts := acts) (t := rest) (b := true) hx h0 (hW.classLinks hl) hcell hobj ⟨k1, hk1⟩ ⟨k2, hk2⟩ (by rw [hW.alike.assignable]; exact hfit)
    rw [if_pos rfl] at h
    exact h
  | cons y ys ih =>
    intro S hW hcell hpass
    have hrest : ∀ z ∈ ys, cc_P e.platform s f.method.cls f.pc cell.cls z := fun z hz => hpass z (List.mem_cons_of_mem _ hz)
    obtain ⟨k1, hk1, -⟩ := hW.alike.2.2 _ _ hk0
    rcases hpass y List.mem_cons_self with h | ⟨hy0, c', hl', hno⟩
    · obtain ⟨vm', hW', hq⟩ := ih S hW hcell hrest
      exact ⟨vm', hW', fun Q E d acts => (W.findHandler_go_skip h).trans (hq Q E d acts)⟩
    · by_cases hcov : covers y f.pc = true
      · obtain ⟨dk, _, _, kt, hd, _, _, _, _, hkt, _, hopen⟩ := hl'.here
        obtain ⟨k2, hk2, -⟩ := hW.alike.2.2 _ _ hkt
        obtain ⟨vm', hW', hq⟩ := ih (S.setVm (S.vm.noted f.method.cls y.catchType (.cls c'))) (hW.noted hd hopen (State.rightAt_cls hl')) hcell hrest
        refine ⟨vm', hW', fun Q E d acts => ?_⟩
        have h := cc_row (Q := Q) (E := E) (d := d) (acts := acts) (t := ys ++ x :: rest) (b := false) hcov hy0 (hW.classLinks hl') hcell hobj ⟨k1, hk1⟩ ⟨k2, hk2⟩ (by rw [hW.alike.assignable]; exact hno)
        rw [if_neg (by decide)] at h
        exact h.trans (hq Q E d acts)
      · obtain ⟨vm', hW', hq⟩ := ih S hW hcell hrest
        exact ⟨vm', hW', fun Q E d acts => (W.findHandler_go_skip (by simpa using hcov)).trans (hq Q E d acts)⟩
theorem cc_step {e : Env} {s : State} {a : Addr} {f : JFrame} {r : List Frame} {pc : Nat} {vm' : Vm} (hfind : cc_F e s f a (.found pc) vm') : (stepThrowing e s a (.java f :: r)).Is ((s.setVm vm').setFrames (.java { f with pc := pc, stack := [.ref a] } :: r)) [] := by
  simp only [stepThrowing, searchFrame, vmDo]
  generalize hr : Sem.go _ e false [] s = res
  obtain ⟨as, rfl, ha⟩ := Sem.eq_ok_of hr (a := Handler.found pc) (s' := s.setVm vm') (acts' := []) (by simp [hfind _ _ _ _])
  exact ⟨rfl, ha⟩
theorem cc_steps {tb : Tables} {e : Env} {s target : State} {g : JFrame} {c : Code} {below : List Frame} {a : Addr} {vm' : Vm} (h : At s g.method c below) {pc : Nat} (hfind : cc_F e ((s.setTop g).pushFrame (.throwing a)) g a (.found pc) vm') (hrest : Steps tb e below ((s.setVm vm').setTop { g with pc := pc, stack := [.ref a] }) target) : Steps tb e below ((s.setTop g).pushFrame (.throwing a)) target := by
  obtain ⟨hgo, hw⟩ := h.throwing a
  refine Steps.head hgo hw ?_
  rw [stepThread_throwing (frames_entered h.top _), (cc_step (s := (s.setTop g).pushFrame (.throwing a)) hfind).1]
  obtain ⟨g₀, hg⟩ := Option.isSome_iff_exists.mp h.top
  obtain ⟨r, hr⟩ := State.topJava?_eq_some.mp hg
  have hr' : (s.setVm vm').frames = .java g₀ :: r := hr
  have e1 : (((s.setTop g).pushFrame (.throwing a)).setVm vm').setFrames (.java { g with pc := pc, stack := [.ref a] } :: s.frames.tail) = (s.setVm vm').setTop { g with pc := pc, stack := [.ref a] } := by
    rw [State.setTop_of_frames _ hr']
    show (((s.setTop g).pushFrame (.throwing a)).setFrames (.java { g with pc := pc, stack := [.ref a] } :: s.frames.tail)).setVm vm' = (s.setFrames (.java { g with pc := pc, stack := [.ref a] } :: r)).setVm vm'
    rw [State.pushFrame, State.setFrames_setFrames, State.setTop_of_frames _ hr, State.setFrames_setFrames, hr]
    rfl
  rw [e1]
  exact hrest
theorem cc_catch {p : Program} {l : Launch} {e : Env} {R : Room} {s : State} {m : MethodId} {args : Array Value} {below : List Frame} {meth : Method} {c : Code} {H : Heap} {locs : List Loc} {cells slots : Nat} {Q : State → Prop} {pc : Nat} {ls : Array Slot} {rest : List Value} {own name : String} {E : String} {ce : Cell} {q : Addr} (hown : s.vm.findClass own = some m.cls) (pre : List ExceptionTableEntry) (x : ExceptionTableEntry) (suf : List ExceptionTableEntry) (hsplit : c.exceptionTable.toList = pre ++ x :: suf)
    (hpass : ∀ z ∈ pre, covers z pc = false ∨ (z.catchType ≠ 0 ∧ ∃ nm : String, (Cond.classLink own z.catchType nm).before args s = true ∧ va_Nc E nm s)) (hx : covers x pc = true) (h0 : x.catchType ≠ 0)
    (hlink : (Cond.classLink own x.catchType name).before args s = true) (hcast : (Cond.castable E name).before args s = true) (hcell : H[q]? = some ce) (hv : ce.vm = .none) (hcl : s.vm.findClass E = some ce.cls)
    (kk : W p l e R s m args below meth c H locs cells slots Q (F0 m x.handlerPc ls [.ref q])) : vx_W p l e R s m args below meth c H locs cells slots Q (F0 m pc ls rest) q := by
  intro T hT X
  have hpl : e.platform.magicAccessors = ({} : Platform).magicAccessors := by rw [X.admits.platform]
  obtain ⟨c3, c4, hc3, hc4, hasg⟩ := Cond.castable_spec hcast
  cases Option.some.inj (hc3.symm.trans hcl)
  obtain ⟨c5, hc5, hcl5⟩ := Cond.classLink_spec hown hlink e.platform hpl
  cases Option.some.inj (hc4.symm.trans hc5)
  obtain ⟨vm', hW', hq⟩ := cc_go (e := e) (s := s) (f := F0 m pc ls rest) (a := q) (cell := ce) (rest := suf) (by rw [hv]; exact fun k h => by cases h) (by obtain ⟨k9, h9, -⟩ := Vm.findClass_spec hcl; exact ⟨k9, h9⟩) hx h0 hcl5 hasg pre ((T.setTop (F0 m pc ls rest)).pushFrame (.throwing q)) X.warmed (by show T.heap[q]? = some ce; rw [hT]; exact hcell)
    (fun z hz => by
      rcases hpass z hz with h | ⟨hz0, nm, hl1, hn1⟩
      · exact Or.inl h
      · obtain ⟨c6, hc6, hcl6⟩ := Cond.classLink_spec hown hl1 e.platform hpl
        obtain ⟨a8, b8, h1, h2, h3⟩ := hn1
        cases Option.some.inj (h1.symm.trans hcl)
        cases Option.some.inj (h2.symm.trans hc6)
        exact Or.inr ⟨hz0, _, hcl6, h3⟩)
  have hF : cc_F e ((T.setTop (F0 m pc ls rest)).pushFrame (.throwing q)) (F0 m pc ls rest) q (.found x.handlerPc) vm' := fun Q E d acts => by
    rw [W.findHandler_eq (meth := meth) (code := c) X.method' X.code, hsplit]
    exact hq Q E d acts
  obtain ⟨t, a1, b1⟩ := kk (T.setVm vm') hT (X.noted hW')
  exact ⟨t, cc_steps X.here hF a1, b1⟩
end
section
/-! ===== methods with an exception table ===== -/
def ex_MH (G : GE) (d mc ms : Nat) (y : MethodName) (argv : List Value) (g : GT) (Q : RT → GT → Prop) : Prop :=
  ∃ (bytes : ByteArray) (maxL : Nat) (ret : Option FieldType) (hh : List (Nat × Nat × Nat × Nat)), Cond.codeWith y bytes maxL ret hh ∈ lw_tbl ∧ maxL ≤ 40 ∧ vx_Met (ge_l G) y (ex_ws (.codeWith y bytes maxL ret hh)) (ex_rm d mc ms) (ex_Pc G argv g) (ex_Qc G Q) (ex_XC G Q) mc ms (fun q => ge_b G ≤ q)
theorem ex_MH_of {G : GE} {d mc ms : Nat} {M : MT} {argv : List Value} {g : GT} {Q : RT → GT → Prop} (hM : mt_ok M = true) (hcode : Cond.codeWith (mt_y M) (mt_b M) (mt_l M) (mt_r M) (mt_h M) ∈ lw_tbl) (hst : (ge_l G).stackTraces = false) (hlen : (lg_sl argv).length ≤ mt_l M)
    (h : ex_W G d mc ms M 0 (lv_args 0 argv) [] g Q) : ex_MH G d mc ms (mt_y M) argv g Q := by
  obtain ⟨-, -, -, -, h40, hpl, -⟩ := mt_ok_spec hM
  refine ⟨mt_b M, mt_l M, mt_r M, mt_h M, hcode, h40, vx_ofWH (cc := mt_b M) (maxL := mt_l M) (ret := mt_r M) (hh := mt_h M) hpl rfl ?_⟩
  intro p e s m args below meth c s₁ B hml hv
  obtain ⟨rfl, hH, hK⟩ := hv
  have hts := atoms_spec (ws := ex_ws (.codeWith (mt_y M) (mt_b M) (mt_l M) (mt_r M) (mt_h M))) B.pre
  have hC : cx_C G M p s m argv.toArray meth c := ⟨B.exec, B.bytes, hml, findClass_of_methodNamed B.named, fun w hw hg => hts w (List.mem_cons_of_mem _ (tb_in hw hg)), B.returns, B.notSynchronized, (name_of_methodNamed B.named B.method).1, vx_table (x := mt_y M) B (hts _ List.mem_cons_self), hK, hst, by rw [hH.1]; exact hH.2.1.2⟩
  rw [lg_entry_eq]
  exact h p e _ s m _ below meth c s.heap [] 0 0 mc ms _ hC ⟨Nat.le_refl _, Nat.le_refl _⟩ ⟨by omega, by omega, Nat.le_refl _, Nat.le_refl _⟩ hH (lv_entry argv hlen) (fun z hz => nomatch hz)
def hx_e (q : Nat × Nat × Nat × Nat) : ExceptionTableEntry := ⟨q.1, q.2.1, q.2.2.1, q.2.2.2⟩
def hx_w (own : String) (q : Nat × Nat × Nat × Nat) (e : Nat) : Bool := decide (q.2.2.2 ≠ 0) && (goodWord (Cond.classLink own q.2.2.2 (cx_E e)) && decide (Cond.classLink own q.2.2.2 (cx_E e) ∈ lw_tbl))
/-- the table's row x takes exception e that comes at pc, the rows before it don't -/
def hx_ok (M : MT) (pc e : Nat) (pre : List ((Nat × Nat × Nat × Nat) × Nat)) (x : Nat × Nat × Nat × Nat) (suf : List (Nat × Nat × Nat × Nat)) : Bool :=
  decide (mt_h M = pre.map (fun q => q.1) ++ x :: suf) && (pre.all (fun q => !covers (hx_e q.1) pc || (hx_w (mt_y M).cls q.1 q.2 && decide ((e, q.2) ∈ [(101, 100), (102, 100), (102, 101)]))) && (covers (hx_e x) pc && (hx_w (mt_y M).cls x e && decide (e ∈ [100, 101, 102]))))
theorem hx_and {a b : Bool} (h : (a && b) = true) : a = true ∧ b = true := by cases a <;> cases b <;> simp_all
theorem hx_or {a b : Bool} (h : (!a || b) = true) : a = false ∨ b = true := by cases a <;> cases b <;> simp_all
section EH
variable {G : GE} {d mc ms : Nat} {M : MT} {pc : Nat} {ls : List (Nat × Value)} {st : List Value} {g : GT} {Q : RT → GT → Prop}
theorem hx_link {own : String} {q : Nat × Nat × Nat × Nat} {e : Nat} (h : hx_w own q e = true) : q.2.2.2 ≠ 0 ∧ goodWord (Cond.classLink own q.2.2.2 (cx_E e)) = true ∧ Cond.classLink own q.2.2.2 (cx_E e) ∈ lw_tbl := by
  simp only [hx_w, Bool.and_eq_true, decide_eq_true_eq] at h
  exact h
theorem hx_not {p : Program} {s : State} {m : MethodId} {args : Array Value} {meth : Method} {c : Code} (hC : cx_C G M p s m args meth c) {e e1 : Nat} (h : (e, e1) ∈ [(101, 100), (102, 100), (102, 101)]) : va_Nc (cx_E e) (cx_E e1) s := by
  have hK := hC.2.2.2.2.2.2.2.2.2.1.2.2.2.2.2.2.2.2
  simp only [List.mem_cons, List.not_mem_nil, or_false, Prod.mk.injEq] at h
  rcases h with ⟨rfl, rfl⟩ | ⟨rfl, rfl⟩ | ⟨rfl, rfl⟩
  · exact hK.1
  · exact hK.2.1
  · exact hK.2.2
theorem hx_cast {p : Program} {s : State} {m : MethodId} {args : Array Value} {meth : Method} {c : Code} (hC : cx_C G M p s m args meth c) {e : Nat} (h : e ∈ [100, 101, 102]) : (Cond.castable (cx_E e) (cx_E e)).before args s = true := by
  have hK := hC.2.2.2.2.2.2.2.2.2.1.2.2.2.2.2.2.2.1
  simp only [List.mem_cons, List.not_mem_nil, or_false] at h
  rcases h with rfl | rfl | rfl <;> exact va_Nw.use rfl (hK _ (by simp [cx_face]))
/-- what a call's run gives back, in a method with a table -/
theorem ex_backH {mc1 ms1 : Nat} {Q1 : RT → GT → Prop} {p : Program} {e : Env} {R : Room} {s : State} {m : MethodId} {args : Array Value} {below : List Frame} {meth : Method} {c : Code} {H : Heap} {locs : List Loc} {cells slots MC MS : Nat} {L : Array Slot} {st0 : List Value} {a : Array Value}
    (hC : cx_C G M p s m args meth c) (hR : d + 8 ≤ R.frames ∧ 60 * (d + 8) ≤ R.locals) (hB : cells + mc ≤ MC ∧ slots + ms ≤ MS ∧ MC ≤ R.cells ∧ MS ≤ R.slots) (hl : lv_has L (mt_l M) ls) (hz : ∀ z ∈ locs, ge_b G ≤ z.base) (hm : mc1 ≤ mc ∧ ms1 ≤ ms)
    (hr : vx_Run p (ge_l G) e R s m args below meth c H locs cells slots mc1 ms1 (F0 m pc L st0) st (ex_Qc G Q1 a) (ex_XC G Q1) (fun q => ge_b G ≤ q))
    (k1 : ∀ v g', Q1 (.inl v) g' → ex_W G d (mc - mc1) (ms - ms1) M (pc + 3) ls (v.toList ++ st) g' Q)
    (k2 : ∀ E g', Q1 (.inr E) g' → ∃ e1 pre x suf, E = cx_E e1 ∧ hx_ok M pc e1 pre x suf = true ∧ ∀ q : Nat, ex_W G d (mc - mc1) (ms - ms1) M x.2.2.1 ls [.ref q] g' Q) :
    W p (ge_l G) e R s m args below meth c H locs cells slots (vx_MQ below (ex_Qc G Q) (ex_XC G Q) args s MC MS (fun q => ge_b G ≤ q)) (F0 m pc L st0) := by
  intro T hT X
  have hzL : ∀ {L' : List Loc}, (∀ q ∈ L', ge_b G ≤ q.base) → ∀ q ∈ locs ++ L', ge_b G ≤ q.base := fun hL => t_lL (free := fun q => ge_b G ≤ q) hz hL
  rcases hr T hT X with ⟨v, st₀, t, T', L', h0, X', hL, e1, e2, ⟨v', g', hv, hq, hH⟩, go⟩ | ⟨q, st₀, t, T', L', E, ce, h0, X', hL, e1, e2, ⟨g', hq, hH⟩, hce, hcv, hcl, go⟩
  · cases hv
    have hal : t.vm.Alike s.vm := by rw [← e2]; exact X'.warmed.alike.symm
    obtain ⟨t2, a1, b1⟩ := k1 v g' hq p e R s m args below meth c T'.heap (locs ++ L') (cells + mc1) (slots + ms1) MC MS L hC hR (by omega) (by rw [e1]; exact hH.moved hal) hl (hzL hL) T' rfl X'
    exact ⟨t2, go t2 a1, b1⟩
  · obtain ⟨en, pre, x, suf, rfl, hx, kk⟩ := k2 E g' hq
    obtain ⟨x1, hx⟩ := hx_and hx
    obtain ⟨x2, hx⟩ := hx_and hx
    obtain ⟨x3, hx⟩ := hx_and hx
    obtain ⟨x4, x5⟩ := hx_and hx
    have x1 := of_decide_eq_true x1
    have x5 := of_decide_eq_true x5
    have x2 := List.all_eq_true.mp x2
    obtain ⟨y1, y2, y3⟩ := hx_link x4
    have hal : t.vm.Alike s.vm := by rw [← e2]; exact X'.warmed.alike.symm
    have ho : vx_W p (ge_l G) e R s m args below meth c T'.heap (locs ++ L') (cells + mc1) (slots + ms1) (vx_MQ below (ex_Qc G Q) (ex_XC G Q) args s MC MS (fun q => ge_b G ≤ q)) (F0 m pc L st) q := by
      refine cc_catch (own := (mt_y M).cls) (name := cx_E en) hC.2.2.2.1 (pre.map fun q => hx_e q.1) (hx_e x) (suf.map hx_e) ?_ ?_ x3 y1 (hC.2.2.2.2.1 _ y3 y2) (hx_cast hC x5) (by rw [e1]; exact hce) hcv hcl ?_
      · rw [hC.2.2.2.2.2.2.2.2.1, x1, tableOf, List.map_append, List.map_cons, List.map_map]
        rfl
      · intro z hz1
        obtain ⟨w, hw, rfl⟩ := List.mem_map.mp hz1
        have h9 := x2 w hw
        rcases hx_or h9 with h9 | h9
        · exact Or.inl h9
        · obtain ⟨h9, h8⟩ := hx_and h9
          have h8 := of_decide_eq_true h8
          obtain ⟨a1, a2, a3⟩ := hx_link h9
          exact Or.inr ⟨a1, cx_E w.2, hC.2.2.2.2.1 _ a3 a2, hx_not hC h8⟩
      · exact kk q p e R s m args below meth c T'.heap (locs ++ L') (cells + mc1) (slots + ms1) MC MS L hC hR (by omega) (by rw [e1]; exact hH.moved hal) hl (hzL hL)
    obtain ⟨t2, a1, b1⟩ := ho T' rfl X'
    exact ⟨t2, go.trans a1, b1⟩
theorem ex_callVH {idx n t d1 mc1 ms1 b : Nat} {y : MethodName} {As : List Value} {Q1 : RT → GT → Prop} (hM : mt_ok M = true) (hf : mt_in M pc (.invokevirtual idx) 3) (hp : (mt_m M).lookup idx = some (y, n, t, d1, mc1, ms1)) (ht : 10 ≤ t) (hd : d1 < d) (hlen : As.length = n)
    (hk : gx_K g b = t - 10 + 1) (hcat : (st.map fun v => v.category).sum ≤ 8) (hm : mc1 ≤ mc ∧ ms1 ≤ ms) (hcall : ex_M G d1 mc1 ms1 y (.ref b :: As) g Q1)
    (k1 : ∀ v g', Q1 (.inl v) g' → ex_W G d (mc - mc1) (ms - ms1) M (pc + 3) ls (v.toList ++ st) g' Q)
    (k2 : ∀ E g', Q1 (.inr E) g' → ∃ e1 pre x suf, E = cx_E e1 ∧ hx_ok M pc e1 pre x suf = true ∧ ∀ q : Nat, ex_W G d (mc - mc1) (ms - ms1) M x.2.2.1 ls [.ref q] g' Q) : ex_W G d mc ms M pc ls (As.reverse ++ .ref b :: st) g Q := by
  intro p e R s m args9 below meth c H locs cells slots MC MS L hC hR hB hH hl hz
  obtain ⟨bytes, maxL, ret, hcode, h40, hmet⟩ := hcall
  obtain ⟨hd1, hd2, hd3⟩ := mt_mok hM hp
  obtain ⟨ci, hci, rfl, hy⟩ : ∃ ci, ci < 13 ∧ t = 10 + ci ∧ y.cls = cx_R ci := by
    rcases ((mt_ok_spec hM).2.2.2.1 _ (mt_mem hp)).1 with h | ⟨h, h2⟩
    · dsimp only at h; omega
    · dsimp only at h h2
      exact ⟨t - 10, by omega, by omega, h2⟩
  have hk : gx_K g b = ci + 1 := by omega
  have hts : ∀ w ∈ tb_G, w.before args9 s = true := fun w hw => hC.2.2.2.2.1 w (List.mem_filter.mp hw).1 (List.mem_filter.mp hw).2
  have hneed : ∀ w ∈ mt_mw (mt_y M).cls (idx, y, n, 10 + ci, d1, mc1, ms1), w ∈ tb_G := fun w hw => tb_in ((mt_ok_spec hM).2.1 w (mt_min hp hw)).1 ((mt_ok_spec hM).2.1 w (mt_min hp hw)).2
  have hgood : GoodIn tb_G (wsV (mt_y M).cls idx y.cls y (ex_ws (.code y bytes maxL ret))) := tb_good (fun w hw => by
    rcases List.mem_append.mp hw with h | h
    · exact hneed w (by
        have e : mt_mw (mt_y M).cls (idx, y, n, 10 + ci, d1, mc1, ms1) = [.methodLink (mt_y M).cls idx y, .instanceMethod y, .selects y.cls y y, .initialized y.cls] := by
          unfold mt_mw
          split <;> first | (rename_i h9; dsimp only at h9; omega) | rfl
        rw [e]
        exact h)
    · rcases List.mem_cons.mp h with rfl | h
      · exact tb_in hcode rfl
      · exact h)
  obtain ⟨hc, -, -⟩ := cx_facts ci hci
  obtain ⟨r, hr, cell, q1, q2, q3, -⟩ := (hH.2.2.2.1 b (by omega)).1 ci hk hci
  have hKn := hC.2.2.2.2.2.2.2.2.2.1.1.1 ci _ hc
  refine ex_backH (a := (Value.ref b :: As).toArray) hC hR hB hl hz hm (vx_runV (As := As) (rest := st) (nL := mt_l M) ⟨hC.1, hC.2.1, hC.2.2.1, hC.2.2.2.1, hts⟩ hmet (cwV n hts hgood rfl rfl rfl ⟨rfl, hd1, hd2, hd3⟩ ?_) ⟨ex_blind, ⟨cell, q1, by rw [q3]; rfl, by rw [hy, q2]; exact hKn.2.1⟩, fun U hU hW => ⟨rfl, by rw [hU]; exact hH.moved hW.alike, cx_K.warm hW hC.2.2.2.2.2.2.2.2.2.1⟩⟩ rfl hlen hl.1 rfl (lv_room hcat) (mt_dec hM hf) (by omega)) k1 k2
  show d1 + 8 + 1 ≤ R.frames ∧ 8 + (maxL + 11) + 60 * (d1 + 8) ≤ R.locals
  omega
/-- a static call of a method with a table -/
theorem ex_callSH {idx n d1 mc1 ms1 : Nat} {y : MethodName} {As : List Value} {Q1 : RT → GT → Prop} (hM : mt_ok M = true) (hf : mt_in M pc (.invokestatic idx) 3) (hp : (mt_m M).lookup idx = some (y, n, 1, d1, mc1, ms1)) (hh : mt_h M = []) (hd : d1 < d) (hlen : As.length = n)
    (hcat : (st.map fun v => v.category).sum ≤ 8) (hm : mc1 ≤ mc ∧ ms1 ≤ ms) (hcall : ex_MH G d1 mc1 ms1 y As g Q1)
    (k1 : ∀ v g', Q1 (.inl v) g' → ex_W G d (mc - mc1) (ms - ms1) M (pc + 3) ls (v.toList ++ st) g' Q) (k2 : ∀ E g', Q1 (.inr E) g' → Q (.inr E) g') : ex_W G d mc ms M pc ls (As.reverse ++ st) g Q := by
  intro p e R s m args9 below meth c H locs cells slots MC MS L hC hR hB hH hl hz
  obtain ⟨bytes, maxL, ret, hh9, hcode, h40, hmet⟩ := hcall
  have hts : ∀ w ∈ tb_G, w.before args9 s = true := fun w hw => hC.2.2.2.2.1 w (List.mem_filter.mp hw).1 (List.mem_filter.mp hw).2
  have hneed : ∀ w ∈ mt_mw (mt_y M).cls (idx, y, n, 1, d1, mc1, ms1), w ∈ tb_G := fun w hw => tb_in ((mt_ok_spec hM).2.1 w (mt_min hp hw)).1 ((mt_ok_spec hM).2.1 w (mt_min hp hw)).2
  have hgood : GoodIn tb_G (va_wsS (mt_y M).cls idx y (ex_ws (.codeWith y bytes maxL ret hh9))) := tb_good (fun w hw => by
    rcases List.mem_append.mp hw with h | h
    · exact hneed w h
    · rcases List.mem_cons.mp h with rfl | h
      · exact tb_in hcode rfl
      · exact h)
  refine ex_back (a := As.toArray) hC hR hB hl hz hm hh (vx_runSX (As := As) (rest := st) (nL := mt_l M) ⟨hC.1, hC.2.1, hC.2.2.1, hC.2.2.2.1, hts⟩ hmet (vx_cwSW n hts hgood rfl rfl rfl (mt_mok hM hp) ?_) ⟨ex_blind, fun U hU hW => ⟨rfl, by rw [hU]; exact hH.moved hW.alike, cx_K.warm hW hC.2.2.2.2.2.2.2.2.2.1⟩⟩ rfl hlen hl.1 rfl (lv_room hcat) (mt_dec hM hf) (by omega)) k1 k2
  show d1 + 8 + 1 ≤ R.frames ∧ 8 + (maxL + 11) + 60 * (d1 + 8) ≤ R.locals
  omega
end EH
end
section
/-! ===== small things for walks ===== -/
theorem mi {M : MT} {q : Nat × Instr × Nat} (i : Nat) (h : (mt_c M)[i]? = some q) : q ∈ mt_c M := List.mem_of_getElem? h
section EK
variable {G : GE} {d mc ms : Nat} {M : MT} {pc : Nat} {ls : List (Nat × Value)} {st : List Value} {g : GT} {Q : RT → GT → Prop}
theorem ex_ldcw {n : Nat} {v : Int32} (hM : mt_ok M = true) (hf : mt_in M pc (.ldc_w n) 3) (hv : (mt_i M).lookup n = some v) (k : ex_W G d mc ms M (pc + 3) ls (.int v :: st) g Q) : ex_W G d mc ms M pc ls st g Q := by
  intro p e R s m args9 below meth c H locs cells slots MC MS L hC hR hB hH hl hz
  have hw := (mt_ok_spec hM).2.1 _ (mt_kin hv)
  exact lv_ldcw hC.1 hC.2.1 hC.2.2.2.1 (hC.2.2.2.2.1 _ hw.1 hw.2) (mt_dec hM hf) (k p e R s m args9 below meth c H locs cells slots MC MS L hC hR hB hH hl hz)
def lx_le : List (Nat × Value) → List (Nat × Value) → Prop
  | [], _ => True
  | q :: t, ls => ls.lookup q.1 = some q.2 ∧ lx_le t ls
theorem lx_le_mem {ls : List (Nat × Value)} : ∀ {ls' : List (Nat × Value)}, lx_le ls' ls → ∀ q ∈ ls', ls.lookup q.1 = some q.2 := by
  intro ls'
  induction ls' with
  | nil => intro _ q hq; cases hq
  | cons a t ih =>
    intro h q hq
    rcases List.mem_cons.mp hq with rfl | hq
    · exact h.1
    · exact ih h.2 q hq
/-- fewer locals, in another order -/
theorem ex_ls {ls' : List (Nat × Value)} (h : lx_le ls' ls) (k : ex_W G d mc ms M pc ls' st g Q) : ex_W G d mc ms M pc ls st g Q := by
  intro p e R s m args9 below meth c H locs cells slots MC MS L hC hR hB hH hl hz
  exact k p e R s m args9 below meth c H locs cells slots MC MS L hC hR hB hH ⟨hl.1, hl.2.1, fun q hq => lx_get hl (lx_le_mem h q hq)⟩ hz
theorem ex_st {st' : List Value} {g' : GT} (e1 : st = st') (e2 : g = g') (k : ex_W G d mc ms M pc ls st' g' Q) : ex_W G d mc ms M pc ls st g Q := by
  rw [e1, e2]; exact k
end EK
/-- elements lo .. hi - 1 of an int array are v -/
def px_F (g : GT) (a lo hi : Nat) (v : Int32) : GT := (g.1, g.2.1, g.2.2.1, g.2.2.2.1, fun x j => if x = a ∧ lo ≤ j ∧ j < hi then v else g.2.2.2.2.1 x j, g.2.2.2.2.2)
def px_FL (g : GT) (a lo hi : Nat) (v : Int64) : GT := (g.1, g.2.1, g.2.2.1, g.2.2.2.1, g.2.2.2.2.1, fun x j => if x = a ∧ lo ≤ j ∧ j < hi then v else g.2.2.2.2.2.1 x j, g.2.2.2.2.2.2)
theorem px_F_0 (g : GT) (a lo : Nat) (v : Int32) : px_F g a lo lo v = g := by
  have h : (fun x j => if x = a ∧ lo ≤ j ∧ j < lo then v else g.2.2.2.2.1 x j) = g.2.2.2.2.1 := by
    funext x j
    rw [if_neg (by omega)]
  unfold px_F
  rw [h]
theorem px_F_s (g : GT) (a lo hi : Nat) (v : Int32) (h : lo ≤ hi) : px_A (px_F g a lo hi v) a hi v = px_F g a lo (hi + 1) v := by
  unfold px_A px_F gx_u
  dsimp only
  have h2 : (fun x y => if x = a ∧ y = hi then v else if x = a ∧ lo ≤ y ∧ y < hi then v else g.2.2.2.2.1 x y) = (fun x j => if x = a ∧ lo ≤ j ∧ j < hi + 1 then v else g.2.2.2.2.1 x j) := by
    funext x j
    by_cases e : x = a
    · by_cases e1 : j = hi
      · rw [if_pos ⟨e, e1⟩, if_pos (by omega)]
      · rw [if_neg (by omega)]
        by_cases e2 : lo ≤ j ∧ j < hi
        · rw [if_pos ⟨e, e2⟩, if_pos (by omega)]
        · rw [if_neg (fun q => e2 q.2), if_neg (by omega)]
    · rw [if_neg (fun q => e q.1), if_neg (fun q => e q.1), if_neg (fun q => e q.1)]
  rw [h2]
theorem px_FL_0 (g : GT) (a lo : Nat) (v : Int64) : px_FL g a lo lo v = g := by
  have h : (fun x j => if x = a ∧ lo ≤ j ∧ j < lo then v else g.2.2.2.2.2.1 x j) = g.2.2.2.2.2.1 := by
    funext x j
    rw [if_neg (by omega)]
  unfold px_FL
  rw [h]
theorem px_FL_s (g : GT) (a lo hi : Nat) (v : Int64) (h : lo ≤ hi) : px_L (px_FL g a lo hi v) a hi v = px_FL g a lo (hi + 1) v := by
  unfold px_L px_FL gx_u
  dsimp only
  have h2 : (fun x y => if x = a ∧ y = hi then v else if x = a ∧ lo ≤ y ∧ y < hi then v else g.2.2.2.2.2.1 x y) = (fun x j => if x = a ∧ lo ≤ j ∧ j < hi + 1 then v else g.2.2.2.2.2.1 x j) := by
    funext x j
    by_cases e : x = a
    · by_cases e1 : j = hi
      · rw [if_pos ⟨e, e1⟩, if_pos (by omega)]
      · rw [if_neg (by omega)]
        by_cases e2 : lo ≤ j ∧ j < hi
        · rw [if_pos ⟨e, e2⟩, if_pos (by omega)]
        · rw [if_neg (fun q => e2 q.2), if_neg (by omega)]
    · rw [if_neg (fun q => e q.1), if_neg (fun q => e q.1), if_neg (fun q => e q.1)]
  rw [h2]
/-- the contract of a method that comes back, its answer and heap told -/
def rv (v : Option Value) (g1 : GT) : RT → GT → Prop := fun r g' => r = .inl v ∧ g' = g1
end
section
/-! ===== rules whose values are told by an equation; calls whose contract is exact ===== -/
def hr0_b (w : Cond) : Bool := match w with
  | .code y _ _ ret => !(y.name == "<init>") || ret.isNone
  | _ => true
theorem hr0_all : lw_tbl.all hr0_b = true := by decide +kernel
theorem hr0_of {y : MethodName} (hi : y.name = "<init>") : ∀ bytes maxL ret, Cond.code y bytes maxL ret ∈ lw_tbl → ret = none := by
  intro bytes maxL ret h
  have := List.all_eq_true.mp hr0_all _ h
  simp only [hr0_b, hi, beq_self_eq_true, Bool.not_true, Bool.false_or, Option.isNone_iff_eq_none] at this
  exact this
section EX2
variable {G : GE} {d mc ms : Nat} {M : MT} {pc : Nat} {ls : List (Nat × Value)} {st stk : List Value} {g : GT} {Q : RT → GT → Prop}
/-- an address of ours isn't null -/
theorem ex_nz {x kx : Nat} (hkx : gx_K g x = kx) (hd : 0 < kx ∧ kx < 60) (k : x ≠ 0 → ex_W G d mc ms M pc ls stk g Q) : ex_W G d mc ms M pc ls stk g Q := by
  intro p e R s m args9 below meth c H locs cells slots MC MS L hC hR hB hH hl hz
  have h := hH.2.2.1 x (by omega)
  have := h.2.1 (by omega)
  have := hH.2.1.1
  exact k (by omega) p e R s m args9 below meth c H locs cells slots MC MS L hC hR hB hH hl hz
theorem ex_getIx {idx ci j a : Nat} {x : Int32} (hM : mt_ok M = true) (hf : mt_in M pc (.getfield idx) 3) (hp : (mt_f M).lookup idx = some (ci, j)) (hr : fx_R ci j = false) (hk : gx_K g a = ci + 1) (hx : gx_I g (100 * ci + j) a = x) (k : ex_W G d mc ms M (pc + 3) ls (.int x :: st) g Q) : ex_W G d mc ms M pc ls (.ref a :: st) g Q :=
  ex_getI hM hf hp hr hk (by rw [hx]; exact k)
theorem ex_getRx {idx ci j a x kx : Nat} (hM : mt_ok M = true) (hf : mt_in M pc (.getfield idx) 3) (hp : (mt_f M).lookup idx = some (ci, j)) (hr : fx_R ci j = true) (hk : gx_K g a = ci + 1) (hx : gx_R g (100 * ci + j) a = x) (hkx : gx_K g x = kx) (hd : 0 < kx ∧ kx < 60) (k : ex_W G d mc ms M (pc + 3) ls (.ref x :: st) g Q) : ex_W G d mc ms M pc ls (.ref a :: st) g Q :=
  ex_nz hkx hd fun h0 => ex_getR hM hf hp hr hk (by rw [hx]; exact h0) (by rw [hx]; exact k)
theorem ex_putRx {idx ci j a x kx : Nat} (hM : mt_ok M = true) (hf : mt_in M pc (.putfield idx) 3) (hp : (mt_f M).lookup idx = some (ci, j)) (hk : gx_K g a = ci + 1) (hr : fx_R ci j = true) (hkx : gx_K g x = kx) (hd : 0 < kx ∧ kx < 60) (k : ex_W G d mc ms M (pc + 3) ls st (px_R g (100 * ci + j) a x) Q) : ex_W G d mc ms M pc ls (.ref x :: .ref a :: st) g Q :=
  ex_nz hkx hd fun h0 => ex_putR hM hf hp hk hr h0 k
theorem ex_ialdx {a N : Nat} {i x : Int32} (hM : mt_ok M = true) (hf : mt_in M pc (.iaload) 1) (hk : gx_K g a = 50 ∨ gx_K g a = 60) (hN : gx_N g a = N) (hin : vp_in i N) (hx : gx_A g a i.toNatClampNeg = x) (k : ex_W G d mc ms M (pc + 1) ls (.int x :: st) g Q) : ex_W G d mc ms M pc ls (.int i :: .ref a :: st) g Q :=
  ex_iald hM hf hk (by rw [hN]; exact hin) (by rw [hx]; exact k)
theorem ex_baldx {a N : Nat} {i x : Int32} (hM : mt_ok M = true) (hf : mt_in M pc (.baload) 1) (hk : gx_K g a = 52) (hN : gx_N g a = N) (hin : vp_in i N) (hx : gx_A g a i.toNatClampNeg = x) (k : ex_W G d mc ms M (pc + 1) ls (.int x :: st) g Q) : ex_W G d mc ms M pc ls (.int i :: .ref a :: st) g Q :=
  ex_bald hM hf hk (by rw [hN]; exact hin) (by rw [hx]; exact k)
theorem ex_aaldx {a n x kx N : Nat} {i : Int32} (hM : mt_ok M = true) (hf : mt_in M pc (.aaload) 1) (hn : n < 4) (hk : gx_K g a = 53 + n) (hN : gx_N g a = N) (hin : vp_in i N) (hx : gx_O g a i.toNatClampNeg = x) (hkx : gx_K g x = kx) (hd : 0 < kx ∧ kx < 60) (k : ex_W G d mc ms M (pc + 1) ls (.ref x :: st) g Q) : ex_W G d mc ms M pc ls (.int i :: .ref a :: st) g Q :=
  ex_nz hkx hd fun h0 => ex_aald hM hf hn hk (by rw [hN]; exact hin) (by rw [hx]; exact h0) (by rw [hx]; exact k)
theorem ex_alenx {a N : Nat} (hM : mt_ok M = true) (hf : mt_in M pc (.arraylength) 1) (hk : gx_K g a = 50 ∨ gx_K g a = 51 ∨ gx_K g a = 60) (hN : gx_N g a = N) (k : ex_W G d mc ms M (pc + 1) ls (.int (nI N) :: st) g Q) : ex_W G d mc ms M pc ls (.ref a :: st) g Q :=
  ex_alen hM hf hk (by rw [hN]; exact k)
/-- an exact contract: one answer, one heap, no throw -/
theorem ex_callVr {idx n t d1 mc1 ms1 b : Nat} {y : MethodName} {As : List Value} {v : Option Value} {g1 : GT} (hM : mt_ok M = true) (hf : mt_in M pc (.invokevirtual idx) 3) (hp : (mt_m M).lookup idx = some (y, n, t, d1, mc1, ms1)) (hcall : ex_M G d1 mc1 ms1 y (.ref b :: As) g (rv v g1)) (hs : stk = As.reverse ++ .ref b :: st) (hk : gx_K g b = t - 10 + 1) (hh : mt_h M = []) (hlen : As.length = n) (ht : 10 ≤ t) (hd : d1 < d)
    (hcat : (st.map fun v => v.category).sum ≤ 8) (hm : mc1 ≤ mc ∧ ms1 ≤ ms) (k : ex_W G d (mc - mc1) (ms - ms1) M (pc + 3) ls (v.toList ++ st) g1 Q) : ex_W G d mc ms M pc ls stk g Q := by
  rw [hs]
  refine ex_callV hM hf hp ht hh hd hlen hk hcat hm hcall (fun v' g' h => ?_) (fun E g' h => ?_)
  · obtain ⟨h1, h2⟩ := h
    cases h1; subst h2; exact k
  · obtain ⟨h1, -⟩ := h
    cases h1
theorem ex_callSr {idx n d1 mc1 ms1 : Nat} {y : MethodName} {As : List Value} {v : Option Value} {g1 : GT} (hM : mt_ok M = true) (hf : mt_in M pc (.invokestatic idx) 3) (hp : (mt_m M).lookup idx = some (y, n, 1, d1, mc1, ms1)) (hcall : ex_M G d1 mc1 ms1 y As g (rv v g1)) (hs : stk = As.reverse ++ st) (hh : mt_h M = []) (hlen : As.length = n) (hd : d1 < d)
    (hcat : (st.map fun v => v.category).sum ≤ 8) (hm : mc1 ≤ mc ∧ ms1 ≤ ms) (k : ex_W G d (mc - mc1) (ms - ms1) M (pc + 3) ls (v.toList ++ st) g1 Q) : ex_W G d mc ms M pc ls stk g Q := by
  rw [hs]
  refine ex_callS hM hf hp hh hd hlen hcat hm hcall (fun v' g' h => ?_) (fun E g' h => ?_)
  · obtain ⟨h1, h2⟩ := h
    cases h1; subst h2; exact k
  · obtain ⟨h1, -⟩ := h
    cases h1
theorem ex_callSNr {idx n d1 mc1 ms1 : Nat} {y : MethodName} {As : List Value} {v : Option Value} {g1 : GT} (hM : mt_ok M = true) (hf : mt_in M pc (.invokestatic idx) 3) (hp : (mt_m M).lookup idx = some (y, n, 4, d1, mc1, ms1)) (hcall : ex_M G d1 mc1 ms1 y As g (rv v g1)) (hs : stk = As.reverse ++ st) (hnest : Cond.methodLinkNest (mt_y M).cls idx y "RoundKeepers" ∈ cx_nest) (hh : mt_h M = []) (hlen : As.length = n) (hd : d1 < d)
    (hcat : (st.map fun v => v.category).sum ≤ 8) (hm : mc1 ≤ mc ∧ ms1 ≤ ms) (k : ex_W G d (mc - mc1) (ms - ms1) M (pc + 3) ls (v.toList ++ st) g1 Q) : ex_W G d mc ms M pc ls stk g Q := by
  rw [hs]
  refine ex_callSN hM hf hp hh hd hlen hnest hcat hm hcall (fun E g' h => ?_) (fun v' g' h => ?_)
  · obtain ⟨h1, -⟩ := h
    cases h1
  · obtain ⟨h1, h2⟩ := h
    cases h1; subst h2; exact k
/-- a constructor: its contract says nothing of throws; what it leaves is told by a predicate -/
theorem ex_callIp {idx n d1 mc1 ms1 b : Nat} {y : MethodName} {As : List Value} {P : GT → Prop} (hM : mt_ok M = true) (hf : mt_in M pc (.invokespecial idx) 3) (hp : (mt_m M).lookup idx = some (y, n, 2, d1, mc1, ms1)) (hcall : ex_M G d1 mc1 ms1 y (.ref b :: As) g (fun r g' => r = .inl none ∧ P g')) (hs : stk = As.reverse ++ .ref b :: st) (hi : y.name = "<init>") (hh : mt_h M = []) (hlen : As.length = n) (hd : d1 < d)
    (hcat : (st.map fun v => v.category).sum ≤ 8) (hm : mc1 ≤ mc ∧ ms1 ≤ ms) (k : ∀ g1, P g1 → ex_W G d (mc - mc1) (ms - ms1) M (pc + 3) ls st g1 Q) : ex_W G d mc ms M pc ls stk g Q := by
  rw [hs]
  refine ex_callI hM hf hp hh hd hlen hi hcat hm hcall (hr0_of hi) (fun E g' h => ?_) (fun v' g' h => ?_)
  · obtain ⟨h1, -⟩ := h
    cases h1
  · obtain ⟨h1, h2⟩ := h
    cases h1; exact k _ h2
theorem ex_callINp {idx n d1 mc1 ms1 b : Nat} {y : MethodName} {As : List Value} {P : GT → Prop} (hM : mt_ok M = true) (hf : mt_in M pc (.invokespecial idx) 3) (hp : (mt_m M).lookup idx = some (y, n, 5, d1, mc1, ms1)) (hcall : ex_M G d1 mc1 ms1 y (.ref b :: As) g (fun r g' => r = .inl none ∧ P g')) (hs : stk = As.reverse ++ .ref b :: st) (hnest : Cond.methodLinkNest (mt_y M).cls idx y "RoundKeepers" ∈ cx_nest) (hi : y.name = "<init>") (hh : mt_h M = []) (hlen : As.length = n) (hd : d1 < d)
    (hcat : (st.map fun v => v.category).sum ≤ 8) (hm : mc1 ≤ mc ∧ ms1 ≤ ms) (k : ∀ g1, P g1 → ex_W G d (mc - mc1) (ms - ms1) M (pc + 3) ls st g1 Q) : ex_W G d mc ms M pc ls stk g Q := by
  rw [hs]
  refine ex_callIN hM hf hp hh hd hlen hi hnest hcat hm hcall (hr0_of hi) (fun E g' h => ?_) (fun v' g' h => ?_)
  · obtain ⟨h1, -⟩ := h
    cases h1
  · obtain ⟨h1, h2⟩ := h
    cases h1; exact k _ h2
end EX2
/-! shapes: rows (offset, kind, length), references (offset, field, where to) -/
def sh (T : List (Nat × Nat × Nat) × List (Nat × Nat × Nat)) (g : GT) (a : Nat) : Prop := (∀ q ∈ T.1, gx_K g (a + q.1) = q.2.1 ∧ gx_N g (a + q.1) = q.2.2) ∧ (∀ q ∈ T.2, gx_R g q.2.1 (a + q.1) = a + q.2.2)
theorem sh_k {T : List (Nat × Nat × Nat) × List (Nat × Nat × Nat)} {g : GT} {a : Nat} {q : Nat × Nat × Nat} (h : sh T g a) (i : Nat) (hi : T.1[i]? = some q) : gx_K g (a + q.1) = q.2.1 := (h.1 q (List.mem_of_getElem? hi)).1
theorem sh_n {T : List (Nat × Nat × Nat) × List (Nat × Nat × Nat)} {g : GT} {a : Nat} {q : Nat × Nat × Nat} (h : sh T g a) (i : Nat) (hi : T.1[i]? = some q) : gx_N g (a + q.1) = q.2.2 := (h.1 q (List.mem_of_getElem? hi)).2
theorem sh_r {T : List (Nat × Nat × Nat) × List (Nat × Nat × Nat)} {g : GT} {a : Nat} {q : Nat × Nat × Nat} (h : sh T g a) (i : Nat) (hi : T.2[i]? = some q) : gx_R g q.2.1 (a + q.1) = a + q.2.2 := h.2 q (List.mem_of_getElem? hi)
theorem sh_sub {T T' : List (Nat × Nat × Nat) × List (Nat × Nat × Nat)} {g : GT} {a : Nat} (o : Nat) (h : sh T g a) (h1 : ∀ q ∈ T'.1, (o + q.1, q.2) ∈ T.1) (h2 : ∀ q ∈ T'.2, (o + q.1, q.2.1, o + q.2.2) ∈ T.2) : sh T' g (a + o) := by
  refine ⟨fun q hq => ?_, fun q hq => ?_⟩
  · have := h.1 _ (h1 q hq)
    rw [Nat.add_assoc]
    exact this
  · have := h.2 _ (h2 q hq)
    rw [Nat.add_assoc, Nat.add_assoc]
    exact this
def T1 : List (Nat × Nat × Nat) × List (Nat × Nat × Nat) := ([(0, 2, 0)], [])
def T2 : List (Nat × Nat × Nat) × List (Nat × Nat × Nat) := ([(0, 3, 0), (1, 50, 48)], [(0, 201, 1)])
def T3 : List (Nat × Nat × Nat) × List (Nat × Nat × Nat) := ([(0, 4, 0), (1, 50, 10)], [(0, 307, 1)])
def T4 : List (Nat × Nat × Nat) × List (Nat × Nat × Nat) := ([(0, 5, 0), (1, 50, 10)], [(0, 409, 1)])
def T5 : List (Nat × Nat × Nat) × List (Nat × Nat × Nat) := ([(0, 6, 0), (1, 50, 10), (2, 50, 16), (3, 5, 0), (4, 50, 10), (5, 9, 0), (6, 50, 16), (7, 50, 16), (8, 50, 16), (9, 50, 16), (10, 2, 0)], [(0, 503, 3), (0, 504, 5), (0, 505, 10), (0, 511, 1), (0, 514, 2), (3, 409, 4), (5, 802, 6), (5, 803, 7), (5, 804, 8), (5, 805, 9)])
def T6 : List (Nat × Nat × Nat) × List (Nat × Nat × Nat) := ([(0, 7, 0), (1, 50, 16)], [(0, 608, 1)])
def T8 : List (Nat × Nat × Nat) × List (Nat × Nat × Nat) := ([(0, 9, 0), (1, 50, 16), (2, 50, 16), (3, 50, 16), (4, 50, 16)], [(0, 802, 1), (0, 803, 2), (0, 804, 3), (0, 805, 4)])
def T9 : List (Nat × Nat × Nat) × List (Nat × Nat × Nat) := ([(0, 10, 0), (1, 51, 1200), (2, 50, 16)], [(0, 901, 1), (0, 902, 2)])
def T10 : List (Nat × Nat × Nat) × List (Nat × Nat × Nat) := ([(0, 11, 0), (1, 50, 16)], [(0, 1005, 1)])
theorem sh_54 {g : GT} {a : Nat} (h : sh T5 g a) : sh T4 g (a + 3) := sh_sub 3 h (by decide) (by decide)
theorem sh_58 {g : GT} {a : Nat} (h : sh T5 g a) : sh T8 g (a + 5) := sh_sub 5 h (by decide) (by decide)
theorem sh_51 {g : GT} {a : Nat} (h : sh T5 g a) : sh T1 g (a + 10) := sh_sub 10 h (by decide) (by decide)
end
section
/-! ===== heaps of one shape: kinds, lengths, references, size ===== -/
def sq (g g1 : GT) : Prop := g1.1 = g.1 ∧ g1.2.1 = g.2.1 ∧ g1.2.2.2.1 = g.2.2.2.1 ∧ g1.2.2.2.2.2.2.1 = g.2.2.2.2.2.2.1 ∧ g1.2.2.2.2.2.2.2 = g.2.2.2.2.2.2.2
theorem sq0 {g : GT} : sq g g := ⟨rfl, rfl, rfl, rfl, rfl⟩
theorem sq.trans {g g1 g2 : GT} (h : sq g g1) (h1 : sq g1 g2) : sq g g2 := ⟨h1.1.trans h.1, h1.2.1.trans h.2.1, h1.2.2.1.trans h.2.2.1, h1.2.2.2.1.trans h.2.2.2.1, h1.2.2.2.2.trans h.2.2.2.2⟩
theorem sqI {g g1 : GT} {f a : Nat} {v : Int32} (h : sq g g1) : sq g (px_I g1 f a v) := h
theorem sqA {g g1 : GT} {a j : Nat} {v : Int32} (h : sq g g1) : sq g (px_A g1 a j v) := h
theorem sqL {g g1 : GT} {a j : Nat} {v : Int64} (h : sq g g1) : sq g (px_L g1 a j v) := h
theorem sqF {g g1 : GT} {a lo hi : Nat} {v : Int32} (h : sq g g1) : sq g (px_F g1 a lo hi v) := h
theorem sqFL {g g1 : GT} {a lo hi : Nat} {v : Int64} (h : sq g g1) : sq g (px_FL g1 a lo hi v) := h
theorem kq {g g1 : GT} {q k : Nat} (h : sq g g1) (e : gx_K g q = k) : gx_K g1 q = k := (congrFun h.1 q).trans e
theorem nq {g g1 : GT} {q k : Nat} (h : sq g g1) (e : gx_N g q = k) : gx_N g1 q = k := (congrFun h.2.1 q).trans e
theorem rq {g g1 : GT} {f q k : Nat} (h : sq g g1) (e : gx_R g f q = k) : gx_R g1 f q = k := (congrFun (congrFun h.2.2.1 f) q).trans e
theorem oq {g g1 : GT} {q j k : Nat} (h : sq g g1) (e : gx_O g q j = k) : gx_O g1 q j = k := (congrFun (congrFun h.2.2.2.1 q) j).trans e
theorem zq {g g1 : GT} {k : Nat} (h : sq g g1) (e : gx_Z g = k) : gx_Z g1 = k := h.2.2.2.2.trans e
theorem shq {T : List (Nat × Nat × Nat) × List (Nat × Nat × Nat)} {g g1 : GT} {a : Nat} (h : sq g g1) (e : sh T g a) : sh T g1 a := ⟨fun q hq => ⟨kq h (e.1 q hq).1, nq h (e.1 q hq).2⟩, fun q hq => rq h (e.2 q hq)⟩
end
section
/-! ===== the methods' names ===== -/
def my_X0_init : MethodName := ⟨"RoundKeepers$Air", "<init>", "()V"⟩
def my_X0_reset : MethodName := ⟨"RoundKeepers$Air", "reset", "()V"⟩
def my_X0_at : MethodName := ⟨"RoundKeepers$Air", "at", "(I)LRoundKeepers$Message;"⟩
def my_X0_take : MethodName := ⟨"RoundKeepers$Air", "take", "(I)LRoundKeepers$Message;"⟩
def my_X0_send : MethodName := ⟨"RoundKeepers$Air", "send", "(IIIIII)LRoundKeepers$Message;"⟩
def my_X0_sendEach : MethodName := ⟨"RoundKeepers$Air", "sendEach", "(IIIIII)V"⟩
def my_X1_init : MethodName := ⟨"RoundKeepers$Collecting", "<init>", "()V"⟩
def my_X1_reset : MethodName := ⟨"RoundKeepers$Collecting", "reset", "()V"⟩
def my_X2_init : MethodName := ⟨"RoundKeepers$Copies", "<init>", "(LRoundKeepers$Air;)V"⟩
def my_X2_reset : MethodName := ⟨"RoundKeepers$Copies", "reset", "()V"⟩
def my_X2_receive : MethodName := ⟨"RoundKeepers$Copies", "receive", "(LRoundKeepers$Message;)V"⟩
def my_X3_init : MethodName := ⟨"RoundKeepers$Keeper", "<init>", "(ILRoundKeepers$Air;[I)V"⟩
def my_X3_reset : MethodName := ⟨"RoundKeepers$Keeper", "reset", "()V"⟩
def my_X3_forgetReform : MethodName := ⟨"RoundKeepers$Keeper", "forgetReform", "()V"⟩
def my_X3_receive : MethodName := ⟨"RoundKeepers$Keeper", "receive", "(LRoundKeepers$Message;)V"⟩
def my_X3_isOnIn : MethodName := ⟨"RoundKeepers$Keeper", "isOnIn", "(I)Z"⟩
def my_X3_knowsNext : MethodName := ⟨"RoundKeepers$Keeper", "knowsNext", "()Z"⟩
def my_X3_sendGone : MethodName := ⟨"RoundKeepers$Keeper", "sendGone", "(I)V"⟩
def my_X3_receiveMatch : MethodName := ⟨"RoundKeepers$Keeper", "receiveMatch", "(LRoundKeepers$Message;)V"⟩
def my_X3_refuses : MethodName := ⟨"RoundKeepers$Keeper", "refuses", "(III)Z"⟩
def my_X3_receiveCollect : MethodName := ⟨"RoundKeepers$Keeper", "receiveCollect", "(LRoundKeepers$Message;)V"⟩
def my_X3_receiveStop : MethodName := ⟨"RoundKeepers$Keeper", "receiveStop", "(LRoundKeepers$Message;)V"⟩
def my_X3_receiveSeed : MethodName := ⟨"RoundKeepers$Keeper", "receiveSeed", "(LRoundKeepers$Message;)V"⟩
def my_X3_canBeSeeded : MethodName := ⟨"RoundKeepers$Keeper", "canBeSeeded", "(I)Z"⟩
def my_X3_receivePick : MethodName := ⟨"RoundKeepers$Keeper", "receivePick", "(LRoundKeepers$Message;)V"⟩
def my_X3_receiveMoved : MethodName := ⟨"RoundKeepers$Keeper", "receiveMoved", "(LRoundKeepers$Message;)V"⟩
def my_X3_tell : MethodName := ⟨"RoundKeepers$Keeper", "tell", "(I)I"⟩
def my_X4_init : MethodName := ⟨"RoundKeepers$Keeping", "<init>", "(ILRoundKeepers$Air;)V"⟩
def my_X4_reset : MethodName := ⟨"RoundKeepers$Keeping", "reset", "()V"⟩
def my_X4_forget : MethodName := ⟨"RoundKeepers$Keeping", "forget", "()V"⟩
def my_X4_startReform : MethodName := ⟨"RoundKeepers$Keeping", "startReform", "(II)V"⟩
def my_X4_sendStep : MethodName := ⟨"RoundKeepers$Keeping", "sendStep", "()V"⟩
def my_X4_sendSeeds : MethodName := ⟨"RoundKeepers$Keeping", "sendSeeds", "(I)V"⟩
def my_X4_receiveStopped : MethodName := ⟨"RoundKeepers$Keeping", "receiveStopped", "(LRoundKeepers$Message;)V"⟩
def my_X4_receiveSeeded : MethodName := ⟨"RoundKeepers$Keeping", "receiveSeeded", "(LRoundKeepers$Message;)V"⟩
def my_X4_receivePicked : MethodName := ⟨"RoundKeepers$Keeping", "receivePicked", "(LRoundKeepers$Message;)Z"⟩
def my_X5_init : MethodName := ⟨"RoundKeepers$Leader", "<init>", "(ILRoundKeepers$Air;[I)V"⟩
def my_X5_reset : MethodName := ⟨"RoundKeepers$Leader", "reset", "()V"⟩
def my_X5_forgetRound : MethodName := ⟨"RoundKeepers$Leader", "forgetRound", "()V"⟩
def my_X5_forgetMatched : MethodName := ⟨"RoundKeepers$Leader", "forgetMatched", "()V"⟩
def my_X5_beginRound : MethodName := ⟨"RoundKeepers$Leader", "beginRound", "(II)V"⟩
def my_X5_proposeNext : MethodName := ⟨"RoundKeepers$Leader", "proposeNext", "(I)I"⟩
def my_X5_startCollecting : MethodName := ⟨"RoundKeepers$Leader", "startCollecting", "()Z"⟩
def my_X5_sendAgain : MethodName := ⟨"RoundKeepers$Leader", "sendAgain", "()V"⟩
def my_X5_sendStageAgain : MethodName := ⟨"RoundKeepers$Leader", "sendStageAgain", "()V"⟩
def my_X5_receive : MethodName := ⟨"RoundKeepers$Leader", "receive", "(LRoundKeepers$Message;)V"⟩
def my_X5_leadsIn : MethodName := ⟨"RoundKeepers$Leader", "leadsIn", "(I)Z"⟩
def my_X5_receiveMatched : MethodName := ⟨"RoundKeepers$Leader", "receiveMatched", "(LRoundKeepers$Message;)V"⟩
def my_X5_receiveAsked : MethodName := ⟨"RoundKeepers$Leader", "receiveAsked", "(LRoundKeepers$Message;)V"⟩
def my_X5_lead : MethodName := ⟨"RoundKeepers$Leader", "lead", "()V"⟩
def my_X5_receiveKnown : MethodName := ⟨"RoundKeepers$Leader", "receiveKnown", "(LRoundKeepers$Message;)V"⟩
def my_X5_receiveCollected : MethodName := ⟨"RoundKeepers$Leader", "receiveCollected", "(LRoundKeepers$Message;)V"⟩
def my_X5_receiveReleased : MethodName := ⟨"RoundKeepers$Leader", "receiveReleased", "(LRoundKeepers$Message;)V"⟩
def my_X5_goOn : MethodName := ⟨"RoundKeepers$Leader", "goOn", "(II)V"⟩
def my_X5_historyVoters : MethodName := ⟨"RoundKeepers$Leader", "historyVoters", "()I"⟩
def my_X5_hasMajorities : MethodName := ⟨"RoundKeepers$Leader", "hasMajorities", "()Z"⟩
def my_X5_tell : MethodName := ⟨"RoundKeepers$Leader", "tell", "(I)I"⟩
def my_X5_tellOfLeading : MethodName := ⟨"RoundKeepers$Leader", "tellOfLeading", "(I)I"⟩
def my_X6_init : MethodName := ⟨"RoundKeepers$Message", "<init>", "()V"⟩
def my_X6_takeLoadOf : MethodName := ⟨"RoundKeepers$Message", "takeLoadOf", "(LRoundKeepers$Message;)V"⟩
def my_X6_tell : MethodName := ⟨"RoundKeepers$Message", "tell", "(I)I"⟩
def my_X6_loadSize : MethodName := ⟨"RoundKeepers$Message", "loadSize", "()I"⟩
def my_X7_has : MethodName := ⟨"RoundKeepers$Rounds", "has", "([II)Z"⟩
def my_X7_add : MethodName := ⟨"RoundKeepers$Rounds", "add", "([II)V"⟩
def my_X7_addAll : MethodName := ⟨"RoundKeepers$Rounds", "addAll", "([I[I)V"⟩
def my_X7_setTo : MethodName := ⟨"RoundKeepers$Rounds", "setTo", "([I[I)V"⟩
def my_X7_empty : MethodName := ⟨"RoundKeepers$Rounds", "empty", "([I)V"⟩
def my_X7_dropBelow : MethodName := ⟨"RoundKeepers$Rounds", "dropBelow", "([II)V"⟩
def my_X7_keepBelow : MethodName := ⟨"RoundKeepers$Rounds", "keepBelow", "([II)V"⟩
def my_X7_bitsBelow : MethodName := ⟨"RoundKeepers$Rounds", "bitsBelow", "(II)I"⟩
def my_X7_size : MethodName := ⟨"RoundKeepers$Rounds", "size", "([I)I"⟩
def my_X7_greatest : MethodName := ⟨"RoundKeepers$Rounds", "greatest", "([I)I"⟩
def my_X7_at : MethodName := ⟨"RoundKeepers$Rounds", "at", "([II)I"⟩
def my_X8_init : MethodName := ⟨"RoundKeepers$Slots", "<init>", "(ILRoundKeepers$Air;)V"⟩
def my_X8_reset : MethodName := ⟨"RoundKeepers$Slots", "reset", "()V"⟩
def my_X8_settle : MethodName := ⟨"RoundKeepers$Slots", "settle", "(I)V"⟩
def my_X8_put : MethodName := ⟨"RoundKeepers$Slots", "put", "(II)V"⟩
def my_X8_noteVoter : MethodName := ⟨"RoundKeepers$Slots", "noteVoter", "(III)V"⟩
def my_X8_noteCopy : MethodName := ⟨"RoundKeepers$Slots", "noteCopy", "(III)V"⟩
def my_X8_isChosen : MethodName := ⟨"RoundKeepers$Slots", "isChosen", "(I)Z"⟩
def my_X8_areChosen : MethodName := ⟨"RoundKeepers$Slots", "areChosen", "(II)Z"⟩
def my_X8_firm : MethodName := ⟨"RoundKeepers$Slots", "firm", "()I"⟩
def my_X8_sendAgain : MethodName := ⟨"RoundKeepers$Slots", "sendAgain", "(II)V"⟩
def my_X8_tell : MethodName := ⟨"RoundKeepers$Slots", "tell", "(II)I"⟩
def my_X9_init : MethodName := ⟨"RoundKeepers$Tally", "<init>", "([I)V"⟩
def my_X9_reset : MethodName := ⟨"RoundKeepers$Tally", "reset", "()V"⟩
def my_X9_note : MethodName := ⟨"RoundKeepers$Tally", "note", "(IIII)V"⟩
def my_X9_agree : MethodName := ⟨"RoundKeepers$Tally", "agree", "(II)V"⟩
def my_X10_init : MethodName := ⟨"RoundKeepers$Voter", "<init>", "(ILRoundKeepers$Air;LRoundKeepers$Tally;)V"⟩
def my_X10_roundOf : MethodName := ⟨"RoundKeepers$Voter", "roundOf", "(I)I"⟩
def my_X10_valueOf : MethodName := ⟨"RoundKeepers$Voter", "valueOf", "(I)I"⟩
def my_X10_later : MethodName := ⟨"RoundKeepers$Voter", "later", "(II)I"⟩
def my_X10_votesIn : MethodName := ⟨"RoundKeepers$Voter", "votesIn", "([I)I"⟩
def my_X10_reset : MethodName := ⟨"RoundKeepers$Voter", "reset", "()V"⟩
def my_X10_receive : MethodName := ⟨"RoundKeepers$Voter", "receive", "(LRoundKeepers$Message;)V"⟩
def my_X10_castVote : MethodName := ⟨"RoundKeepers$Voter", "castVote", "(LRoundKeepers$Message;)V"⟩
def my_X10_release : MethodName := ⟨"RoundKeepers$Voter", "release", "(LRoundKeepers$Message;)V"⟩
def my_X10_tell : MethodName := ⟨"RoundKeepers$Voter", "tell", "(I)I"⟩
def my_X11_init : MethodName := ⟨"RoundKeepers", "<init>", "()V"⟩
def my_X11_begin : MethodName := ⟨"RoundKeepers", "begin", "(III)I"⟩
def my_X11_propose : MethodName := ⟨"RoundKeepers", "propose", "(II)I"⟩
def my_X11_collect : MethodName := ⟨"RoundKeepers", "collect", "(I)Z"⟩
def my_X11_reform : MethodName := ⟨"RoundKeepers", "reform", "(III)I"⟩
def my_X11_again : MethodName := ⟨"RoundKeepers", "again", "(I)I"⟩
def my_X11_deliver : MethodName := ⟨"RoundKeepers", "deliver", "(I)I"⟩
def my_X11_run : MethodName := ⟨"RoundKeepers", "run", "(I)I"⟩
def my_X11_lose : MethodName := ⟨"RoundKeepers", "lose", "(I)I"⟩
def my_X11_twice : MethodName := ⟨"RoundKeepers", "twice", "(I)I"⟩
def my_X11_up : MethodName := ⟨"RoundKeepers", "up", "(IIZ)Z"⟩
def my_X11_message : MethodName := ⟨"RoundKeepers", "message", "(II)I"⟩
def my_X11_leader : MethodName := ⟨"RoundKeepers", "leader", "(II)I"⟩
def my_X11_slot : MethodName := ⟨"RoundKeepers", "slot", "(III)I"⟩
def my_X11_keeper : MethodName := ⟨"RoundKeepers", "keeper", "(II)I"⟩
def my_X11_entry : MethodName := ⟨"RoundKeepers", "entry", "(IIZ)I"⟩
def my_X11_voter : MethodName := ⟨"RoundKeepers", "voter", "(II)I"⟩
def my_X11_vote : MethodName := ⟨"RoundKeepers", "vote", "(IIZ)I"⟩
def my_X11_copy : MethodName := ⟨"RoundKeepers", "copy", "(II)I"⟩
def my_X11_agreed : MethodName := ⟨"RoundKeepers", "agreed", "(I)I"⟩
def my_X11_count : MethodName := ⟨"RoundKeepers", "count", "(I)I"⟩
def my_X11_clear : MethodName := ⟨"RoundKeepers", "clear", "()V"⟩
def my_X11_resetAll : MethodName := ⟨"RoundKeepers", "resetAll", "()V"⟩
def my_X11_leaderAt : MethodName := ⟨"RoundKeepers", "leaderAt", "(I)LRoundKeepers$Leader;"⟩
def my_X11_requireUp : MethodName := ⟨"RoundKeepers", "requireUp", "(I)V"⟩
def my_X11_requireIndex : MethodName := ⟨"RoundKeepers", "requireIndex", "(II)V"⟩
def my_X11_bring : MethodName := ⟨"RoundKeepers", "bring", "(LRoundKeepers$Message;)V"⟩
def my_X11_isUp : MethodName := ⟨"RoundKeepers", "isUp", "(II)Z"⟩
def my_X11_nodesOf : MethodName := ⟨"RoundKeepers", "nodesOf", "(I)I"⟩
def my_X11_receiverOf : MethodName := ⟨"RoundKeepers", "receiverOf", "(I)I"⟩
def my_X11_isRoundOf : MethodName := ⟨"RoundKeepers", "isRoundOf", "(II)Z"⟩
def my_X11_isGroup : MethodName := ⟨"RoundKeepers", "isGroup", "(I)Z"⟩
def my_X11_isSet : MethodName := ⟨"RoundKeepers", "isSet", "(I)Z"⟩
def my_X11_isSlot : MethodName := ⟨"RoundKeepers", "isSlot", "(I)Z"⟩
def my_X11_isMajority : MethodName := ⟨"RoundKeepers", "isMajority", "(II)Z"⟩
def my_X11_areTwo : MethodName := ⟨"RoundKeepers", "areTwo", "(I)Z"⟩
def my_X12_init : MethodName := ⟨"RoundKeepersModel", "<init>", "()V"⟩
def my_X12_thrown : MethodName := ⟨"RoundKeepersModel", "thrown", "()I"⟩
def my_X12_in : MethodName := ⟨"RoundKeepersModel", "in", "(III)Z"⟩
def my_X12_refuses : MethodName := ⟨"RoundKeepersModel", "refuses", "(ZZZ)Z"⟩
def my_X12_bits : MethodName := ⟨"RoundKeepersModel", "bits", "(I)I"⟩
def my_X12_has : MethodName := ⟨"RoundKeepersModel", "has", "(II)Z"⟩
def my_X12_isMajority : MethodName := ⟨"RoundKeepersModel", "isMajority", "(II)Z"⟩
def my_X12_clear : MethodName := ⟨"RoundKeepersModel", "clear", "()V"⟩
def my_X12_forgetMatching : MethodName := ⟨"RoundKeepersModel", "forgetMatching", "(I)V"⟩
def my_X12_forgetRounds : MethodName := ⟨"RoundKeepersModel", "forgetRounds", "(I)V"⟩
def my_X12_forgetCollecting : MethodName := ⟨"RoundKeepersModel", "forgetCollecting", "(I)V"⟩
def my_X12_forgetReform : MethodName := ⟨"RoundKeepersModel", "forgetReform", "(I)V"⟩
def my_X12_lay : MethodName := ⟨"RoundKeepersModel", "lay", "(IIIIII)Z"⟩
def my_X12_layAll : MethodName := ⟨"RoundKeepersModel", "layAll", "(IIIIII)I"⟩
def my_X12_addEntry : MethodName := ⟨"RoundKeepersModel", "addEntry", "(III)V"⟩
def my_X12_entryRound : MethodName := ⟨"RoundKeepersModel", "entryRound", "(II)I"⟩
def my_X12_entryGroup : MethodName := ⟨"RoundKeepersModel", "entryGroup", "(II)I"⟩
def my_X12_take : MethodName := ⟨"RoundKeepersModel", "take", "(I)I"⟩
def my_X12_begin : MethodName := ⟨"RoundKeepersModel", "begin", "(III)I"⟩
def my_X12_offer : MethodName := ⟨"RoundKeepersModel", "offer", "(III)V"⟩
def my_X12_propose : MethodName := ⟨"RoundKeepersModel", "propose", "(II)I"⟩
def my_X12_lead : MethodName := ⟨"RoundKeepersModel", "lead", "(I)V"⟩
def my_X12_firm : MethodName := ⟨"RoundKeepersModel", "firm", "(I)I"⟩
def my_X12_collect : MethodName := ⟨"RoundKeepersModel", "collect", "(I)Z"⟩
def my_X12_reform : MethodName := ⟨"RoundKeepersModel", "reform", "(III)I"⟩
def my_X12_votersOfHistory : MethodName := ⟨"RoundKeepersModel", "votersOfHistory", "(I)I"⟩
def my_X12_seed : MethodName := ⟨"RoundKeepersModel", "seed", "(II)I"⟩
def my_X12_again : MethodName := ⟨"RoundKeepersModel", "again", "(I)I"⟩
def my_X12_goOn : MethodName := ⟨"RoundKeepersModel", "goOn", "(III)V"⟩
def my_X12_matched : MethodName := ⟨"RoundKeepersModel", "matched", "(II)V"⟩
def my_X12_asked : MethodName := ⟨"RoundKeepersModel", "asked", "(II)V"⟩
def my_X12_voted : MethodName := ⟨"RoundKeepersModel", "voted", "(II)V"⟩
def my_X12_told : MethodName := ⟨"RoundKeepersModel", "told", "(II)V"⟩
def my_X12_knowing : MethodName := ⟨"RoundKeepersModel", "knowing", "(II)V"⟩
def my_X12_collected : MethodName := ⟨"RoundKeepersModel", "collected", "(II)V"⟩
def my_X12_stopped : MethodName := ⟨"RoundKeepersModel", "stopped", "(II)V"⟩
def my_X12_pick : MethodName := ⟨"RoundKeepersModel", "pick", "(I)V"⟩
def my_X12_seeded : MethodName := ⟨"RoundKeepersModel", "seeded", "(II)V"⟩
def my_X12_picked : MethodName := ⟨"RoundKeepersModel", "picked", "(II)V"⟩
def my_X12_toLeader : MethodName := ⟨"RoundKeepersModel", "toLeader", "(II)V"⟩
def my_X12_countEntries : MethodName := ⟨"RoundKeepersModel", "countEntries", "(I)I"⟩
def my_X12_greatestRound : MethodName := ⟨"RoundKeepersModel", "greatestRound", "(I)I"⟩
def my_X12_sayGone : MethodName := ⟨"RoundKeepersModel", "sayGone", "(II)V"⟩
def my_X12_isOn : MethodName := ⟨"RoundKeepersModel", "isOn", "(II)Z"⟩
def my_X12_match : MethodName := ⟨"RoundKeepersModel", "match", "(IIIII)V"⟩
def my_X12_collectAt : MethodName := ⟨"RoundKeepersModel", "collectAt", "(IIII)V"⟩
def my_X12_stop : MethodName := ⟨"RoundKeepersModel", "stop", "(IIII)V"⟩
def my_X12_seedAt : MethodName := ⟨"RoundKeepersModel", "seedAt", "(II)V"⟩
def my_X12_pickAt : MethodName := ⟨"RoundKeepersModel", "pickAt", "(IIIII)V"⟩
def my_X12_moved : MethodName := ⟨"RoundKeepersModel", "moved", "(III)V"⟩
def my_X12_toKeeper : MethodName := ⟨"RoundKeepersModel", "toKeeper", "(II)V"⟩
def my_X12_ask : MethodName := ⟨"RoundKeepersModel", "ask", "(III)V"⟩
def my_X12_reckon : MethodName := ⟨"RoundKeepersModel", "reckon", "(IIII)V"⟩
def my_X12_toVoter : MethodName := ⟨"RoundKeepersModel", "toVoter", "(II)V"⟩
def my_X12_toCopy : MethodName := ⟨"RoundKeepersModel", "toCopy", "(II)V"⟩
def my_X12_sortOf : MethodName := ⟨"RoundKeepersModel", "sortOf", "(I)I"⟩
def my_X12_first : MethodName := ⟨"RoundKeepersModel", "first", "(I)I"⟩
def my_X12_nodes : MethodName := ⟨"RoundKeepersModel", "nodes", "(I)I"⟩
def my_X12_arrive : MethodName := ⟨"RoundKeepersModel", "arrive", "(I)I"⟩
def my_X12_deliver : MethodName := ⟨"RoundKeepersModel", "deliver", "(I)I"⟩
def my_X12_run : MethodName := ⟨"RoundKeepersModel", "run", "(I)I"⟩
def my_X12_lose : MethodName := ⟨"RoundKeepersModel", "lose", "(I)I"⟩
def my_X12_twice : MethodName := ⟨"RoundKeepersModel", "twice", "(I)I"⟩
def my_X12_up : MethodName := ⟨"RoundKeepersModel", "up", "(IIZ)Z"⟩
def my_X12_message : MethodName := ⟨"RoundKeepersModel", "message", "(II)I"⟩
def my_X12_history : MethodName := ⟨"RoundKeepersModel", "history", "(I)I"⟩
def my_X12_leader : MethodName := ⟨"RoundKeepersModel", "leader", "(II)I"⟩
def my_X12_slot : MethodName := ⟨"RoundKeepersModel", "slot", "(III)I"⟩
def my_X12_keeper : MethodName := ⟨"RoundKeepersModel", "keeper", "(II)I"⟩
def my_X12_entry : MethodName := ⟨"RoundKeepersModel", "entry", "(IIZ)I"⟩
def my_X12_voter : MethodName := ⟨"RoundKeepersModel", "voter", "(II)I"⟩
def my_X12_vote : MethodName := ⟨"RoundKeepersModel", "vote", "(IIZ)I"⟩
def my_X12_copy : MethodName := ⟨"RoundKeepersModel", "copy", "(II)I"⟩
def my_X12_agreed : MethodName := ⟨"RoundKeepersModel", "agreed", "(I)I"⟩
def my_X12_count : MethodName := ⟨"RoundKeepersModel", "count", "(I)I"⟩
def my_J6_numberOfLeadingZeros_0f7a4 : MethodName := ⟨"java/lang/Integer", "numberOfLeadingZeros", "(I)I"⟩
def my_J6_bitCount_0f7a4 : MethodName := ⟨"java/lang/Integer", "bitCount", "(I)I"⟩
def my_J7_rangeCheck_23922 : MethodName := ⟨"java/util/Arrays", "rangeCheck", "(III)V"⟩
def my_J7_fill_d0a16 : MethodName := ⟨"java/util/Arrays", "fill", "([JJ)V"⟩
def my_J7_fill_53178 : MethodName := ⟨"java/util/Arrays", "fill", "([II)V"⟩
def my_J7_fill_fda19 : MethodName := ⟨"java/util/Arrays", "fill", "([IIII)V"⟩
def my_L_begin : MethodName := ⟨"RoundKeepersLaw", "begin", "(LRoundKeepers;III[J)I"⟩
def my_L_propose : MethodName := ⟨"RoundKeepersLaw", "propose", "(LRoundKeepers;II[J)I"⟩
def my_L_collect : MethodName := ⟨"RoundKeepersLaw", "collect", "(LRoundKeepers;I[J)I"⟩
def my_L_reform : MethodName := ⟨"RoundKeepersLaw", "reform", "(LRoundKeepers;III[J)I"⟩
def my_L_again : MethodName := ⟨"RoundKeepersLaw", "again", "(LRoundKeepers;I[J)I"⟩
def my_L_deliver : MethodName := ⟨"RoundKeepersLaw", "deliver", "(LRoundKeepers;I[J)I"⟩
def my_L_run : MethodName := ⟨"RoundKeepersLaw", "run", "(LRoundKeepers;I[J)I"⟩
def my_L_lose : MethodName := ⟨"RoundKeepersLaw", "lose", "(LRoundKeepers;I[J)I"⟩
def my_L_twice : MethodName := ⟨"RoundKeepersLaw", "twice", "(LRoundKeepers;I[J)I"⟩
def my_L_up : MethodName := ⟨"RoundKeepersLaw", "up", "(LRoundKeepers;IIZ[J)I"⟩
def my_L_message : MethodName := ⟨"RoundKeepersLaw", "message", "(LRoundKeepers;II[J)I"⟩
def my_L_leader : MethodName := ⟨"RoundKeepersLaw", "leader", "(LRoundKeepers;II[J)I"⟩
def my_L_slot : MethodName := ⟨"RoundKeepersLaw", "slot", "(LRoundKeepers;III[J)I"⟩
def my_L_keeper : MethodName := ⟨"RoundKeepersLaw", "keeper", "(LRoundKeepers;II[J)I"⟩
def my_L_entry : MethodName := ⟨"RoundKeepersLaw", "entry", "(LRoundKeepers;IIZ[J)I"⟩
def my_L_voter : MethodName := ⟨"RoundKeepersLaw", "voter", "(LRoundKeepers;II[J)I"⟩
def my_L_vote : MethodName := ⟨"RoundKeepersLaw", "vote", "(LRoundKeepers;IIZ[J)I"⟩
def my_L_copy : MethodName := ⟨"RoundKeepersLaw", "copy", "(LRoundKeepers;II[J)I"⟩
def my_L_agreed : MethodName := ⟨"RoundKeepersLaw", "agreed", "(LRoundKeepers;I[J)I"⟩
def my_L_count : MethodName := ⟨"RoundKeepersLaw", "count", "(LRoundKeepers;I[J)I"⟩
def my_L_law : MethodName := ⟨"RoundKeepersLaw", "law", "([I)Z"⟩
end
section
/-! ===== records of methods ===== -/
def M_J6_numberOfLeadingZeros_0f7a4 : MT := (my_J6_numberOfLeadingZeros_0f7a4, prog_22_method_47_code, 2, (some .int), [], [(0, .iload_n 0, 1), (1, .ifCond .gt 14, 3), (4, .iload_n 0, 1), (5, .ifCond .ne 8, 3), (8, .bipush 32, 2), (10, .goto 4, 3), (13, .iconst 0, 1), (14, .ireturn, 1), (15, .bipush 31, 2), (17, .istore_n 1, 1), (18, .iload_n 0, 1), (19, .ldc_w 264, 3), (22, .if_icmp .lt 11, 3), (25, .iinc 1 (-16), 3), (28, .iload_n 0, 1), (29, .bipush 16, 2), (31, .iushr, 1), (32, .istore_n 0, 1), (33, .iload_n 0, 1), (34, .sipush 256, 3), (37, .if_icmp .lt 11, 3), (40, .iinc 1 (-8), 3), (43, .iload_n 0, 1), (44, .bipush 8, 2), (46, .iushr, 1), (47, .istore_n 0, 1), (48, .iload_n 0, 1), (49, .bipush 16, 2), (51, .if_icmp .lt 10, 3), (54, .iinc 1 (-4), 3), (57, .iload_n 0, 1), (58, .iconst 4, 1), (59, .iushr, 1), (60, .istore_n 0, 1), (61, .iload_n 0, 1), (62, .iconst 4, 1), (63, .if_icmp .lt 10, 3), (66, .iinc 1 (-2), 3), (69, .iload_n 0, 1), (70, .iconst 2, 1), (71, .iushr, 1), (72, .istore_n 0, 1), (73, .iload_n 1, 1), (74, .iload_n 0, 1), (75, .iconst 1, 1), (76, .iushr, 1), (77, .isub, 1), (78, .ireturn, 1)], [], [], [], [(264, 65536)], [1285])
theorem ok_J6_numberOfLeadingZeros_0f7a4 : mt_ok M_J6_numberOfLeadingZeros_0f7a4 = true := by decide +kernel
theorem cw_J6_numberOfLeadingZeros_0f7a4 : Cond.code (mt_y M_J6_numberOfLeadingZeros_0f7a4) (mt_b M_J6_numberOfLeadingZeros_0f7a4) (mt_l M_J6_numberOfLeadingZeros_0f7a4) (mt_r M_J6_numberOfLeadingZeros_0f7a4) ∈ lw_tbl := List.mem_of_getElem? (i := 1284) (by decide +kernel)
def M_J6_bitCount_0f7a4 : MT := (my_J6_bitCount_0f7a4, prog_22_method_49_code, 1, (some .int), [], [(0, .iload_n 0, 1), (1, .iload_n 0, 1), (2, .iconst 1, 1), (3, .iushr, 1), (4, .ldc_w 265, 3), (7, .iand, 1), (8, .isub, 1), (9, .istore_n 0, 1), (10, .iload_n 0, 1), (11, .ldc_w 266, 3), (14, .iand, 1), (15, .iload_n 0, 1), (16, .iconst 2, 1), (17, .iushr, 1), (18, .ldc_w 266, 3), (21, .iand, 1), (22, .iadd, 1), (23, .istore_n 0, 1), (24, .iload_n 0, 1), (25, .iload_n 0, 1), (26, .iconst 4, 1), (27, .iushr, 1), (28, .iadd, 1), (29, .ldc_w 267, 3), (32, .iand, 1), (33, .istore_n 0, 1), (34, .iload_n 0, 1), (35, .iload_n 0, 1), (36, .bipush 8, 2), (38, .iushr, 1), (39, .iadd, 1), (40, .istore_n 0, 1), (41, .iload_n 0, 1), (42, .iload_n 0, 1), (43, .bipush 16, 2), (45, .iushr, 1), (46, .iadd, 1), (47, .istore_n 0, 1), (48, .iload_n 0, 1), (49, .bipush 63, 2), (51, .iand, 1), (52, .ireturn, 1)], [], [], [], [(265, 1431655765), (266, 858993459), (267, 252645135)], [1000, 1001, 1002])
theorem ok_J6_bitCount_0f7a4 : mt_ok M_J6_bitCount_0f7a4 = true := by decide +kernel
theorem cw_J6_bitCount_0f7a4 : Cond.code (mt_y M_J6_bitCount_0f7a4) (mt_b M_J6_bitCount_0f7a4) (mt_l M_J6_bitCount_0f7a4) (mt_r M_J6_bitCount_0f7a4) ∈ lw_tbl := List.mem_of_getElem? (i := 999) (by decide +kernel)
def M_J7_rangeCheck_23922 : MT := (my_J7_rangeCheck_23922, prog_31_method_30_code, 3, none, [], [(0, .iload_n 1, 1), (1, .iload_n 2, 1), (2, .if_icmp .le 44, 3), (46, .iload_n 1, 1), (47, .ifCond .ge 12, 3), (59, .iload_n 2, 1), (60, .iload_n 0, 1), (61, .if_icmp .le 12, 3), (73, .return_, 1)], [], [], [], [], [])
theorem ok_J7_rangeCheck_23922 : mt_ok M_J7_rangeCheck_23922 = true := by decide +kernel
theorem cw_J7_rangeCheck_23922 : Cond.code (mt_y M_J7_rangeCheck_23922) (mt_b M_J7_rangeCheck_23922) (mt_l M_J7_rangeCheck_23922) (mt_r M_J7_rangeCheck_23922) ∈ lw_tbl := List.mem_of_getElem? (i := 559) (by decide +kernel)
def M_J7_fill_d0a16 : MT := (my_J7_fill_d0a16, prog_31_method_101_code, 5, none, [], [(0, .iconst 0, 1), (1, .istore_n 3, 1), (2, .aload_n 0, 1), (3, .arraylength, 1), (4, .istore 4, 2), (6, .iload_n 3, 1), (7, .iload 4, 2), (9, .if_icmp .ge 13, 3), (12, .aload_n 0, 1), (13, .iload_n 3, 1), (14, .lload_n 1, 1), (15, .lastore, 1), (16, .iinc 3 1, 3), (19, .goto (-13), 3), (22, .return_, 1)], [], [], [], [], [])
theorem ok_J7_fill_d0a16 : mt_ok M_J7_fill_d0a16 = true := by decide +kernel
theorem cw_J7_fill_d0a16 : Cond.code (mt_y M_J7_fill_d0a16) (mt_b M_J7_fill_d0a16) (mt_l M_J7_fill_d0a16) (mt_r M_J7_fill_d0a16) ∈ lw_tbl := List.mem_of_getElem? (i := 532) (by decide +kernel)
def M_J7_fill_53178 : MT := (my_J7_fill_53178, prog_31_method_103_code, 4, none, [], [(0, .iconst 0, 1), (1, .istore_n 2, 1), (2, .aload_n 0, 1), (3, .arraylength, 1), (4, .istore_n 3, 1), (5, .iload_n 2, 1), (6, .iload_n 3, 1), (7, .if_icmp .ge 13, 3), (10, .aload_n 0, 1), (11, .iload_n 2, 1), (12, .iload_n 1, 1), (13, .iastore, 1), (14, .iinc 2 1, 3), (17, .goto (-12), 3), (20, .return_, 1)], [], [], [], [], [])
theorem ok_J7_fill_53178 : mt_ok M_J7_fill_53178 = true := by decide +kernel
theorem cw_J7_fill_53178 : Cond.code (mt_y M_J7_fill_53178) (mt_b M_J7_fill_53178) (mt_l M_J7_fill_53178) (mt_r M_J7_fill_53178) ∈ lw_tbl := List.mem_of_getElem? (i := 525) (by decide +kernel)
def M_J7_fill_fda19 : MT := (my_J7_fill_fda19, prog_31_method_104_code, 5, none, [], [(0, .aload_n 0, 1), (1, .arraylength, 1), (2, .iload_n 1, 1), (3, .iload_n 2, 1), (4, .invokestatic 13, 3), (7, .iload_n 1, 1), (8, .istore 4, 2), (10, .iload 4, 2), (12, .iload_n 2, 1), (13, .if_icmp .ge 14, 3), (16, .aload_n 0, 1), (17, .iload 4, 2), (19, .iload_n 3, 1), (20, .iastore, 1), (21, .iinc 4 1, 3), (24, .goto (-14), 3), (27, .return_, 1)], [], [(13, my_J7_rangeCheck_23922, 3, 1, 1, 0, 0)], [], [], [557, 558, 96])
theorem ok_J7_fill_fda19 : mt_ok M_J7_fill_fda19 = true := by decide +kernel
theorem cw_J7_fill_fda19 : Cond.code (mt_y M_J7_fill_fda19) (mt_b M_J7_fill_fda19) (mt_l M_J7_fill_fda19) (mt_r M_J7_fill_fda19) ∈ lw_tbl := List.mem_of_getElem? (i := 556) (by decide +kernel)
def M_X0_init : MT := (my_X0_init, prog_2_method_1_code, 2, none, [], [(0, .aload_n 0, 1), (1, .invokespecial 3, 3), (4, .aload_n 0, 1), (5, .sipush 400, 3), (8, .anewarray 9, 3), (11, .putfield 11, 3), (14, .iconst 0, 1), (15, .istore_n 1, 1), (16, .iload_n 1, 1), (17, .sipush 400, 3), (20, .if_icmp .ge 22, 3), (23, .aload_n 0, 1), (24, .getfield 11, 3), (27, .iload_n 1, 1), (28, .new 9, 3), (31, .dup, 1), (32, .invokespecial 17, 3), (35, .aastore, 1), (36, .iinc 1 1, 3), (39, .goto (-23), 3), (42, .aload_n 0, 1), (43, .new 9, 3), (46, .dup, 1), (47, .invokespecial 17, 3), (50, .putfield 18, 3), (53, .aload_n 0, 1), (54, .new 9, 3), (57, .dup, 1), (58, .invokespecial 17, 3), (61, .putfield 22, 3), (64, .return_, 1)], [(11, 0, 0), (18, 0, 1), (22, 0, 2)], [(3, objectInit, 0, 3, 0, 0, 0), (17, my_X6_init, 0, 5, 1, 1, 16)], [(9, 26)], [], [211, 212, 213, 129, 122, 123, 134, 87, 130])
theorem ok_X0_init : mt_ok M_X0_init = true := by decide +kernel
theorem cw_X0_init : Cond.code (mt_y M_X0_init) (mt_b M_X0_init) (mt_l M_X0_init) (mt_r M_X0_init) ∈ lw_tbl := List.mem_of_getElem? (i := 128) (by decide +kernel)
def M_X0_reset : MT := (my_X0_reset, prog_2_method_2_code, 1, none, [], [(0, .aload_n 0, 1), (1, .iconst 0, 1), (2, .putfield 25, 3), (5, .aload_n 0, 1), (6, .iconst 0, 1), (7, .putfield 29, 3), (10, .aload_n 0, 1), (11, .iconst 0, 1), (12, .putfield 32, 3), (15, .aload_n 0, 1), (16, .iconst 0, 1), (17, .putfield 35, 3), (20, .return_, 1)], [(25, 0, 3), (29, 0, 4), (32, 0, 5), (35, 0, 6)], [], [], [], [214, 215, 217, 219])
theorem ok_X0_reset : mt_ok M_X0_reset = true := by decide +kernel
theorem cw_X0_reset : Cond.code (mt_y M_X0_reset) (mt_b M_X0_reset) (mt_l M_X0_reset) (mt_r M_X0_reset) ∈ lw_tbl := List.mem_of_getElem? (i := 522) (by decide +kernel)
def M_X0_at : MT := (my_X0_at, prog_2_method_3_code, 2, (some (.object "RoundKeepers$Message")), [], [(0, .aload_n 0, 1), (1, .getfield 11, 3), (4, .aload_n 0, 1), (5, .getfield 25, 3), (8, .iload_n 1, 1), (9, .iadd, 1), (10, .sipush 400, 3), (13, .irem, 1), (14, .aaload, 1), (15, .areturn, 1)], [(11, 0, 0), (25, 0, 3)], [], [], [], [211, 214])
theorem ok_X0_at : mt_ok M_X0_at = true := by decide +kernel
theorem cw_X0_at : Cond.code (mt_y M_X0_at) (mt_b M_X0_at) (mt_l M_X0_at) (mt_r M_X0_at) ∈ lw_tbl := List.mem_of_getElem? (i := 1156) (by decide +kernel)
def M_X0_take : MT := (my_X0_take, prog_2_method_4_code, 4, (some (.object "RoundKeepers$Message")), [], [(0, .aload_n 0, 1), (1, .iload_n 1, 1), (2, .invokevirtual 38, 3), (5, .astore_n 2, 1), (6, .iload_n 1, 1), (7, .istore_n 3, 1), (8, .iload_n 3, 1), (9, .ifCond .le 31, 3), (12, .aload_n 0, 1), (13, .getfield 11, 3), (16, .aload_n 0, 1), (17, .getfield 25, 3), (20, .iload_n 3, 1), (21, .iadd, 1), (22, .sipush 400, 3), (25, .irem, 1), (26, .aload_n 0, 1), (27, .iload_n 3, 1), (28, .iconst 1, 1), (29, .isub, 1), (30, .invokevirtual 38, 3), (33, .aastore, 1), (34, .iinc 3 (-1), 3), (37, .goto (-29), 3), (40, .aload_n 0, 1), (41, .getfield 11, 3), (44, .aload_n 0, 1), (45, .getfield 25, 3), (48, .aload_n 0, 1), (49, .getfield 18, 3), (52, .aastore, 1), (53, .aload_n 0, 1), (54, .aload_n 2, 1), (55, .putfield 18, 3), (58, .aload_n 0, 1), (59, .aload_n 0, 1), (60, .getfield 25, 3), (63, .iconst 1, 1), (64, .iadd, 1), (65, .sipush 400, 3), (68, .irem, 1), (69, .putfield 25, 3), (72, .aload_n 0, 1), (73, .dup, 1), (74, .getfield 29, 3), (77, .iconst 1, 1), (78, .isub, 1), (79, .putfield 29, 3), (82, .aload_n 2, 1), (83, .areturn, 1)], [(11, 0, 0), (25, 0, 3), (18, 0, 1), (29, 0, 4)], [(38, my_X0_at, 1, 10, 1, 0, 0)], [], [], [211, 214, 212, 215, 1153, 1154, 1155, 86])
theorem ok_X0_take : mt_ok M_X0_take = true := by decide +kernel
theorem cw_X0_take : Cond.code (mt_y M_X0_take) (mt_b M_X0_take) (mt_l M_X0_take) (mt_r M_X0_take) ∈ lw_tbl := List.mem_of_getElem? (i := 1152) (by decide +kernel)
def M_X0_send : MT := (my_X0_send, prog_2_method_5_code, 8, (some (.object "RoundKeepers$Message")), [], [(0, .aload_n 0, 1), (1, .getfield 22, 3), (4, .astore 7, 2), (6, .aload_n 0, 1), (7, .dup, 1), (8, .getfield 35, 3), (11, .iconst 1, 1), (12, .iadd, 1), (13, .putfield 35, 3), (16, .aload_n 0, 1), (17, .getfield 29, 3), (20, .sipush 400, 3), (23, .if_icmp .ge 36, 3), (26, .aload_n 0, 1), (27, .getfield 11, 3), (30, .aload_n 0, 1), (31, .getfield 25, 3), (34, .aload_n 0, 1), (35, .getfield 29, 3), (38, .iadd, 1), (39, .sipush 400, 3), (42, .irem, 1), (43, .aaload, 1), (44, .astore 7, 2), (46, .aload_n 0, 1), (47, .dup, 1), (48, .getfield 29, 3), (51, .iconst 1, 1), (52, .iadd, 1), (53, .putfield 29, 3), (56, .goto 13, 3), (59, .aload_n 0, 1), (60, .dup, 1), (61, .getfield 32, 3), (64, .iconst 1, 1), (65, .iadd, 1), (66, .putfield 32, 3), (69, .aload 7, 2), (71, .iload_n 1, 1), (72, .putfield 42, 3), (75, .aload 7, 2), (77, .iload_n 2, 1), (78, .putfield 45, 3), (81, .aload 7, 2), (83, .iload_n 3, 1), (84, .putfield 48, 3), (87, .aload 7, 2), (89, .iload 4, 2), (91, .putfield 51, 3), (94, .aload 7, 2), (96, .iload 5, 2), (98, .putfield 54, 3), (101, .aload 7, 2), (103, .iload 6, 2), (105, .putfield 57, 3), (108, .aload 7, 2), (110, .iconst 0, 1), (111, .putfield 60, 3), (114, .aload 7, 2), (116, .iconst 0, 1), (117, .putfield 63, 3), (120, .aload 7, 2), (122, .areturn, 1)], [(22, 0, 2), (35, 0, 6), (29, 0, 4), (11, 0, 0), (25, 0, 3), (32, 0, 5), (42, 6, 0), (45, 6, 1), (48, 6, 2), (51, 6, 3), (54, 6, 4), (57, 6, 5), (60, 6, 6), (63, 6, 7)], [], [], [], [213, 219, 215, 211, 214, 217, 139, 145, 153, 157, 165, 172, 179, 183])
theorem ok_X0_send : mt_ok M_X0_send = true := by decide +kernel
theorem cw_X0_send : Cond.code (mt_y M_X0_send) (mt_b M_X0_send) (mt_l M_X0_send) (mt_r M_X0_send) ∈ lw_tbl := List.mem_of_getElem? (i := 1041) (by decide +kernel)
def M_X0_sendEach : MT := (my_X0_sendEach, prog_2_method_6_code, 8, none, [], [(0, .iconst 0, 1), (1, .istore 7, 2), (3, .iload 7, 2), (5, .bipush 12, 2), (7, .if_icmp .ge 33, 3), (10, .iload_n 3, 1), (11, .iload 7, 2), (13, .ishr, 1), (14, .iconst 1, 1), (15, .iand, 1), (16, .ifCond .eq 18, 3), (19, .aload_n 0, 1), (20, .iload_n 1, 1), (21, .iload_n 2, 1), (22, .iload 7, 2), (24, .iload 4, 2), (26, .iload 5, 2), (28, .iload 6, 2), (30, .invokevirtual 66, 3), (33, .pop, 1), (34, .iinc 7 1, 3), (37, .goto (-34), 3), (40, .return_, 1)], [], [(66, my_X0_send, 6, 10, 1, 0, 0)], [], [], [1038, 1039, 1040, 86])
theorem ok_X0_sendEach : mt_ok M_X0_sendEach = true := by decide +kernel
theorem cw_X0_sendEach : Cond.code (mt_y M_X0_sendEach) (mt_b M_X0_sendEach) (mt_l M_X0_sendEach) (mt_r M_X0_sendEach) ∈ lw_tbl := List.mem_of_getElem? (i := 1037) (by decide +kernel)
def M_X1_init : MT := (my_X1_init, prog_3_method_1_code, 1, none, [], [(0, .aload_n 0, 1), (1, .invokespecial 1, 3), (4, .return_, 1)], [], [(1, objectInit, 0, 3, 0, 0, 0)], [], [], [361, 122, 123])
theorem ok_X1_init : mt_ok M_X1_init = true := by decide +kernel
theorem cw_X1_init : Cond.code (mt_y M_X1_init) (mt_b M_X1_init) (mt_l M_X1_init) (mt_r M_X1_init) ∈ lw_tbl := List.mem_of_getElem? (i := 360) (by decide +kernel)
def M_X1_reset : MT := (my_X1_reset, prog_3_method_2_code, 1, none, [], [(0, .aload_n 0, 1), (1, .iconst 0, 1), (2, .putfield 9, 3), (5, .aload_n 0, 1), (6, .iconst 0, 1), (7, .putfield 13, 3), (10, .aload_n 0, 1), (11, .iconst 0, 1), (12, .putfield 16, 3), (15, .aload_n 0, 1), (16, .iconst 0, 1), (17, .putfield 19, 3), (20, .aload_n 0, 1), (21, .iconst 0, 1), (22, .putfield 22, 3), (25, .aload_n 0, 1), (26, .iconst 0, 1), (27, .putfield 25, 3), (30, .return_, 1)], [(9, 1, 0), (13, 1, 1), (16, 1, 2), (19, 1, 3), (22, 1, 4), (25, 1, 5)], [], [], [], [362, 364, 366, 368, 370, 372])
theorem ok_X1_reset : mt_ok M_X1_reset = true := by decide +kernel
theorem cw_X1_reset : Cond.code (mt_y M_X1_reset) (mt_b M_X1_reset) (mt_l M_X1_reset) (mt_r M_X1_reset) ∈ lw_tbl := List.mem_of_getElem? (i := 908) (by decide +kernel)
def M_X2_init : MT := (my_X2_init, prog_4_method_1_code, 2, none, [], [(0, .aload_n 0, 1), (1, .invokespecial 3, 3), (4, .aload_n 0, 1), (5, .bipush 48, 2), (7, .newarray .int, 2), (9, .putfield 9, 3), (12, .aload_n 0, 1), (13, .aload_n 1, 1), (14, .putfield 15, 3), (17, .return_, 1)], [(9, 2, 1), (15, 2, 0)], [(3, objectInit, 0, 3, 0, 0, 0)], [], [], [265, 264, 263, 122, 123])
theorem ok_X2_init : mt_ok M_X2_init = true := by decide +kernel
theorem cw_X2_init : Cond.code (mt_y M_X2_init) (mt_b M_X2_init) (mt_l M_X2_init) (mt_r M_X2_init) ∈ lw_tbl := List.mem_of_getElem? (i := 262) (by decide +kernel)
def M_X2_reset : MT := (my_X2_reset, prog_4_method_2_code, 1, none, [], [(0, .aload_n 0, 1), (1, .getfield 9, 3), (4, .iconst (-1), 1), (5, .invokestatic 19, 3), (8, .aload_n 0, 1), (9, .iconst 0, 1), (10, .putfield 25, 3), (13, .return_, 1)], [(9, 2, 1), (25, 2, 2)], [(19, my_J7_fill_53178, 2, 1, 1, 0, 0)], [], [], [265, 267, 538, 524, 96])
theorem ok_X2_reset : mt_ok M_X2_reset = true := by decide +kernel
theorem cw_X2_reset : Cond.code (mt_y M_X2_reset) (mt_b M_X2_reset) (mt_l M_X2_reset) (mt_r M_X2_reset) ∈ lw_tbl := List.mem_of_getElem? (i := 537) (by decide +kernel)
end
section
/-! ===== records of methods ===== -/
def M_X2_receive : MT := (my_X2_receive, prog_4_method_3_code, 3, none, [], [(0, .aload_n 1, 1), (1, .getfield 29, 3), (4, .ifCond .lt 21, 3), (7, .aload_n 1, 1), (8, .getfield 29, 3), (11, .iconst 3, 1), (12, .if_icmp .ge 13, 3), (15, .aload_n 1, 1), (16, .getfield 34, 3), (19, .invokestatic 37, 3), (22, .ifCond .ne 4, 3), (25, .return_, 1), (26, .aload_n 1, 1), (27, .getfield 29, 3), (30, .bipush 16, 2), (32, .imul, 1), (33, .aload_n 1, 1), (34, .getfield 34, 3), (37, .iadd, 1), (38, .istore_n 2, 1), (39, .aload_n 0, 1), (40, .getfield 9, 3), (43, .iload_n 2, 1), (44, .iaload, 1), (45, .iconst (-1), 1), (46, .if_icmp .ne 16, 3), (49, .aload_n 0, 1), (50, .getfield 9, 3), (53, .iload_n 2, 1), (54, .aload_n 1, 1), (55, .getfield 41, 3), (58, .iastore, 1), (59, .goto 26, 3), (62, .aload_n 0, 1), (63, .getfield 9, 3), (66, .iload_n 2, 1), (67, .iaload, 1), (68, .aload_n 1, 1), (69, .getfield 41, 3), (72, .if_icmp .eq 13, 3), (75, .aload_n 0, 1), (76, .dup, 1), (77, .getfield 25, 3), (80, .iconst 1, 1), (81, .iadd, 1), (82, .putfield 25, 3), (85, .aload_n 0, 1), (86, .getfield 15, 3), (89, .bipush 8, 2), (91, .aload_n 1, 1), (92, .getfield 29, 3), (95, .aload_n 1, 1), (96, .getfield 44, 3), (99, .aload_n 1, 1), (100, .getfield 34, 3), (103, .aload_n 0, 1), (104, .getfield 9, 3), (107, .iload_n 2, 1), (108, .iaload, 1), (109, .iconst 0, 1), (110, .invokevirtual 47, 3), (113, .pop, 1), (114, .return_, 1)], [(29, 6, 2), (34, 6, 3), (9, 2, 1), (41, 6, 4), (25, 2, 2), (15, 2, 0), (44, 6, 1)], [(37, my_X11_isSlot, 1, 4, 1, 0, 0), (47, my_X0_send, 6, 10, 1, 0, 0)], [], [], [151, 155, 265, 163, 267, 264, 144, 1060, 85, 1361, 1039, 1040, 86])
theorem ok_X2_receive : mt_ok M_X2_receive = true := by decide +kernel
theorem cw_X2_receive : Cond.code (mt_y M_X2_receive) (mt_b M_X2_receive) (mt_l M_X2_receive) (mt_r M_X2_receive) ∈ lw_tbl := List.mem_of_getElem? (i := 1359) (by decide +kernel)
def M_X3_init : MT := (my_X3_init, prog_5_method_1_code, 4, none, [], [(0, .aload_n 0, 1), (1, .invokespecial 3, 3), (4, .aload_n 0, 1), (5, .bipush 10, 2), (7, .newarray .int, 2), (9, .putfield 11, 3), (12, .aload_n 0, 1), (13, .iload_n 1, 1), (14, .putfield 17, 3), (17, .aload_n 0, 1), (18, .aload_n 2, 1), (19, .putfield 21, 3), (22, .aload_n 0, 1), (23, .aload_n 3, 1), (24, .putfield 25, 3), (27, .return_, 1)], [(11, 3, 7), (17, 3, 0), (21, 3, 1), (25, 3, 2)], [(3, objectInit, 0, 3, 0, 0, 0)], [], [], [457, 450, 451, 452, 449, 122, 123])
theorem ok_X3_init : mt_ok M_X3_init = true := by decide +kernel
theorem cw_X3_init : Cond.code (mt_y M_X3_init) (mt_b M_X3_init) (mt_l M_X3_init) (mt_r M_X3_init) ∈ lw_tbl := List.mem_of_getElem? (i := 448) (by decide +kernel)
def M_X3_reset : MT := (my_X3_reset, prog_5_method_2_code, 2, none, [], [(0, .bipush 7, 2), (2, .aload_n 0, 1), (3, .getfield 17, 3), (6, .ishr, 1), (7, .iconst 1, 1), (8, .iand, 1), (9, .ifCond .eq 7, 3), (12, .iconst 1, 1), (13, .goto 4, 3), (16, .iconst 0, 1), (17, .istore_n 1, 1), (18, .aload_n 0, 1), (19, .iload_n 1, 1), (20, .ifCond .eq 7, 3), (23, .iconst 2, 1), (24, .goto 4, 3), (27, .iconst 0, 1), (28, .putfield 28, 3), (31, .aload_n 0, 1), (32, .iload_n 1, 1), (33, .ifCond .eq 7, 3), (36, .iconst 0, 1), (37, .goto 4, 3), (40, .iconst (-1), 1), (41, .putfield 31, 3), (44, .aload_n 0, 1), (45, .iconst 0, 1), (46, .putfield 34, 3), (49, .aload_n 0, 1), (50, .iconst 0, 1), (51, .putfield 37, 3), (54, .aload_n 0, 1), (55, .getfield 11, 3), (58, .invokestatic 40, 3), (61, .aload_n 0, 1), (62, .invokevirtual 44, 3), (65, .return_, 1)], [(17, 3, 0), (28, 3, 3), (31, 3, 4), (34, 3, 5), (37, 3, 6), (11, 3, 7)], [(40, my_X7_empty, 1, 1, 3, 0, 0), (44, my_X3_forgetReform, 0, 13, 1, 0, 0)], [], [], [450, 453, 454, 455, 456, 457, 913, 552, 97, 914, 916, 5, 94])
theorem ok_X3_reset : mt_ok M_X3_reset = true := by decide +kernel
theorem cw_X3_reset : Cond.code (mt_y M_X3_reset) (mt_b M_X3_reset) (mt_l M_X3_reset) (mt_r M_X3_reset) ∈ lw_tbl := List.mem_of_getElem? (i := 912) (by decide +kernel)
def M_X3_forgetReform : MT := (my_X3_forgetReform, prog_5_method_3_code, 1, none, [], [(0, .aload_n 0, 1), (1, .iconst (-1), 1), (2, .putfield 47, 3), (5, .aload_n 0, 1), (6, .iconst (-1), 1), (7, .putfield 50, 3), (10, .aload_n 0, 1), (11, .iconst 0, 1), (12, .putfield 53, 3), (15, .aload_n 0, 1), (16, .iconst 0, 1), (17, .putfield 56, 3), (20, .return_, 1)], [(47, 3, 8), (50, 3, 9), (53, 3, 10), (56, 3, 11)], [], [], [], [459, 460, 461, 462])
theorem ok_X3_forgetReform : mt_ok M_X3_forgetReform = true := by decide +kernel
theorem cw_X3_forgetReform : Cond.code (mt_y M_X3_forgetReform) (mt_b M_X3_forgetReform) (mt_l M_X3_forgetReform) (mt_r M_X3_forgetReform) ∈ lw_tbl := List.mem_of_getElem? (i := 917) (by decide +kernel)
def M_X3_receive : MT := (my_X3_receive, prog_5_method_4_code, 2, none, [], [(0, .aload_n 1, 1), (1, .getfield 59, 3), (4, .lookupswitch 108 #[(1, 60), (11, 68), (16, 76), (18, 84), (20, 92), (22, 100)], 60), (64, .aload_n 0, 1), (65, .aload_n 1, 1), (66, .invokevirtual 64, 3), (69, .goto 43, 3), (72, .aload_n 0, 1), (73, .aload_n 1, 1), (74, .invokevirtual 68, 3), (77, .goto 35, 3), (80, .aload_n 0, 1), (81, .aload_n 1, 1), (82, .invokevirtual 71, 3), (85, .goto 27, 3), (88, .aload_n 0, 1), (89, .aload_n 1, 1), (90, .invokevirtual 74, 3), (93, .goto 19, 3), (96, .aload_n 0, 1), (97, .aload_n 1, 1), (98, .invokevirtual 77, 3), (101, .goto 11, 3), (104, .aload_n 0, 1), (105, .aload_n 1, 1), (106, .invokevirtual 80, 3), (109, .goto 3, 3), (112, .return_, 1)], [(59, 6, 0)], [(64, my_X3_receiveMatch, 1, 13, 4, 0, 0), (68, my_X3_receiveCollect, 1, 13, 3, 0, 0), (71, my_X3_receiveStop, 1, 13, 3, 0, 0), (74, my_X3_receiveSeed, 1, 13, 3, 0, 0), (77, my_X3_receivePick, 1, 13, 2, 0, 0), (80, my_X3_receiveMoved, 1, 13, 1, 0, 0)], [], [], [138, 1262, 1264, 23, 94, 1303, 1305, 28, 94, 1308, 1310, 29, 94, 1312, 1314, 30, 94, 1320, 1322, 32, 94, 1324, 1326, 33, 94])
theorem ok_X3_receive : mt_ok M_X3_receive = true := by decide +kernel
theorem cw_X3_receive : Cond.code (mt_y M_X3_receive) (mt_b M_X3_receive) (mt_l M_X3_receive) (mt_r M_X3_receive) ∈ lw_tbl := List.mem_of_getElem? (i := 1261) (by decide +kernel)
def M_X3_isOnIn : MT := (my_X3_isOnIn, prog_5_method_5_code, 2, (some .boolean), [], [(0, .aload_n 0, 1), (1, .getfield 28, 3), (4, .iconst 2, 1), (5, .if_icmp .ne 15, 3), (8, .aload_n 0, 1), (9, .getfield 31, 3), (12, .iload_n 1, 1), (13, .if_icmp .ne 7, 3), (16, .iconst 1, 1), (17, .goto 4, 3), (20, .iconst 0, 1), (21, .ireturn, 1)], [(28, 3, 3), (31, 3, 4)], [], [], [], [453, 454])
theorem ok_X3_isOnIn : mt_ok M_X3_isOnIn = true := by decide +kernel
theorem cw_X3_isOnIn : Cond.code (mt_y M_X3_isOnIn) (mt_b M_X3_isOnIn) (mt_l M_X3_isOnIn) (mt_r M_X3_isOnIn) ∈ lw_tbl := List.mem_of_getElem? (i := 1269) (by decide +kernel)
def M_X3_knowsNext : MT := (my_X3_knowsNext, prog_5_method_6_code, 1, (some .boolean), [], [(0, .aload_n 0, 1), (1, .getfield 56, 3), (4, .ifCond .eq 7, 3), (7, .iconst 1, 1), (8, .goto 4, 3), (11, .iconst 0, 1), (12, .ireturn, 1)], [(56, 3, 11)], [], [], [], [462])
theorem ok_X3_knowsNext : mt_ok M_X3_knowsNext = true := by decide +kernel
theorem cw_X3_knowsNext : Cond.code (mt_y M_X3_knowsNext) (mt_b M_X3_knowsNext) (mt_l M_X3_knowsNext) (mt_r M_X3_knowsNext) ∈ lw_tbl := List.mem_of_getElem? (i := 1277) (by decide +kernel)
def M_X3_sendGone : MT := (my_X3_sendGone, prog_5_method_7_code, 2, none, [], [(0, .aload_n 0, 1), (1, .invokevirtual 83, 3), (4, .ifCond .eq 29, 3), (7, .aload_n 0, 1), (8, .getfield 21, 3), (11, .bipush 23, 2), (13, .aload_n 0, 1), (14, .getfield 17, 3), (17, .iload_n 1, 1), (18, .aload_n 0, 1), (19, .getfield 31, 3), (22, .iconst 1, 1), (23, .iadd, 1), (24, .aload_n 0, 1), (25, .getfield 56, 3), (28, .iconst 0, 1), (29, .invokevirtual 87, 3), (32, .pop, 1), (33, .return_, 1)], [(21, 3, 1), (17, 3, 0), (31, 3, 4), (56, 3, 11)], [(83, my_X3_knowsNext, 0, 13, 1, 0, 0), (87, my_X0_send, 6, 10, 1, 0, 0)], [], [], [451, 450, 454, 462, 1274, 1276, 26, 94, 1278, 1039, 1040, 86])
theorem ok_X3_sendGone : mt_ok M_X3_sendGone = true := by decide +kernel
theorem cw_X3_sendGone : Cond.code (mt_y M_X3_sendGone) (mt_b M_X3_sendGone) (mt_l M_X3_sendGone) (mt_r M_X3_sendGone) ∈ lw_tbl := List.mem_of_getElem? (i := 1273) (by decide +kernel)
def M_X3_receiveMatch : MT := (my_X3_receiveMatch, prog_5_method_8_code, 5, none, [], [(0, .aload_n 0, 1), (1, .aload_n 1, 1), (2, .getfield 93, 3), (5, .invokevirtual 96, 3), (8, .ifCond .ne 12, 3), (11, .aload_n 0, 1), (12, .aload_n 1, 1), (13, .getfield 100, 3), (16, .invokevirtual 103, 3), (19, .return_, 1), (20, .aload_n 1, 1), (21, .getfield 107, 3), (24, .istore_n 2, 1), (25, .aload_n 0, 1), (26, .getfield 11, 3), (29, .invokestatic 110, 3), (32, .aload_n 0, 1), (33, .getfield 37, 3), (36, .invokestatic 114, 3), (39, .istore_n 3, 1), (40, .aload_n 0, 1), (41, .iload_n 2, 1), (42, .aload_n 1, 1), (43, .getfield 120, 3), (46, .iload_n 3, 1), (47, .invokevirtual 123, 3), (50, .ifCond .eq 25, 3), (53, .aload_n 0, 1), (54, .getfield 21, 3), (57, .bipush 15, 2), (59, .aload_n 0, 1), (60, .getfield 17, 3), (63, .aload_n 1, 1), (64, .getfield 100, 3), (67, .iload_n 2, 1), (68, .iload_n 3, 1), (69, .iconst 0, 1), (70, .invokevirtual 87, 3), (73, .pop, 1), (74, .return_, 1), (75, .aload_n 0, 1), (76, .getfield 11, 3), (79, .iload_n 2, 1), (80, .invokestatic 127, 3), (83, .aload_n 0, 1), (84, .getfield 21, 3), (87, .iconst 2, 1), (88, .aload_n 0, 1), (89, .getfield 17, 3), (92, .aload_n 1, 1), (93, .getfield 100, 3), (96, .aload_n 0, 1), (97, .getfield 31, 3), (100, .iload_n 2, 1), (101, .aload_n 0, 1), (102, .getfield 37, 3), (105, .invokevirtual 87, 3), (108, .astore 4, 2), (110, .aload 4, 2), (112, .getfield 131, 3), (115, .aload_n 0, 1), (116, .getfield 11, 3), (119, .invokestatic 134, 3), (122, .aload 4, 2), (124, .getfield 131, 3), (127, .iload_n 2, 1), (128, .invokestatic 138, 3), (131, .return_, 1)], [(93, 6, 3), (100, 6, 1), (107, 6, 4), (11, 3, 7), (37, 3, 6), (120, 6, 5), (21, 3, 1), (17, 3, 0), (31, 3, 4), (131, 6, 8)], [(96, my_X3_isOnIn, 1, 13, 1, 0, 0), (103, my_X3_sendGone, 1, 13, 2, 0, 0), (110, my_X7_greatest, 1, 1, 2, 0, 0), (114, Lib.Math.max.name, 2, 8, 0, 0, 0), (123, my_X3_refuses, 3, 13, 3, 0, 0), (87, my_X0_send, 6, 10, 1, 0, 0), (127, my_X7_add, 2, 1, 1, 0, 0), (134, my_X7_setTo, 2, 1, 1, 0, 0), (138, my_X7_keepBelow, 2, 1, 2, 0, 0)], [], [], [160, 148, 168, 457, 456, 175, 451, 450, 454, 189, 1266, 1268, 24, 94, 1270, 1272, 25, 94, 1279, 1280, 97, 1286, 658, 107, 659, 1287, 1289, 27, 94, 1278, 1039, 1040, 86, 1296, 1297, 97, 1299, 1111, 97, 1300, 1301, 97])
theorem ok_X3_receiveMatch : mt_ok M_X3_receiveMatch = true := by decide +kernel
theorem cw_X3_receiveMatch : Cond.code (mt_y M_X3_receiveMatch) (mt_b M_X3_receiveMatch) (mt_l M_X3_receiveMatch) (mt_r M_X3_receiveMatch) ∈ lw_tbl := List.mem_of_getElem? (i := 1265) (by decide +kernel)
def M_X3_refuses : MT := (my_X3_refuses, prog_5_method_9_code, 4, (some .boolean), [], [(0, .aload_n 0, 1), (1, .getfield 11, 3), (4, .invokestatic 141, 3), (7, .bipush 12, 2), (9, .if_icmp .lt 5, 3), (12, .iconst 1, 1), (13, .ireturn, 1), (14, .aload_n 0, 1), (15, .getfield 11, 3), (18, .iload_n 1, 1), (19, .invokestatic 144, 3), (22, .ifCond .eq 19, 3), (25, .aload_n 0, 1), (26, .getfield 25, 3), (29, .iload_n 1, 1), (30, .iaload, 1), (31, .iload_n 2, 1), (32, .if_icmp .eq 7, 3), (35, .iconst 1, 1), (36, .goto 4, 3), (39, .iconst 0, 1), (40, .ireturn, 1), (41, .iload_n 1, 1), (42, .iload_n 3, 1), (43, .if_icmp .ge 7, 3), (46, .iconst 1, 1), (47, .goto 4, 3), (50, .iconst 0, 1), (51, .ireturn, 1)], [(11, 3, 7), (25, 3, 2)], [(141, my_X7_size, 1, 1, 2, 0, 0), (144, my_X7_has, 2, 1, 1, 0, 0)], [], [], [457, 452, 1291, 1292, 97, 1295, 1130, 97])
theorem ok_X3_refuses : mt_ok M_X3_refuses = true := by decide +kernel
theorem cw_X3_refuses : Cond.code (mt_y M_X3_refuses) (mt_b M_X3_refuses) (mt_l M_X3_refuses) (mt_r M_X3_refuses) ∈ lw_tbl := List.mem_of_getElem? (i := 1290) (by decide +kernel)
def M_X3_receiveCollect : MT := (my_X3_receiveCollect, prog_5_method_10_code, 2, none, [], [(0, .aload_n 0, 1), (1, .aload_n 1, 1), (2, .getfield 93, 3), (5, .invokevirtual 96, 3), (8, .ifCond .ne 12, 3), (11, .aload_n 0, 1), (12, .aload_n 1, 1), (13, .getfield 100, 3), (16, .invokevirtual 103, 3), (19, .return_, 1), (20, .aload_n 0, 1), (21, .getfield 11, 3), (24, .aload_n 1, 1), (25, .getfield 107, 3), (28, .invokestatic 148, 3), (31, .aload_n 0, 1), (32, .aload_n 0, 1), (33, .getfield 37, 3), (36, .aload_n 1, 1), (37, .getfield 107, 3), (40, .invokestatic 114, 3), (43, .putfield 37, 3), (46, .aload_n 0, 1), (47, .getfield 21, 3), (50, .bipush 12, 2), (52, .aload_n 0, 1), (53, .getfield 17, 3), (56, .aload_n 1, 1), (57, .getfield 100, 3), (60, .aload_n 0, 1), (61, .getfield 31, 3), (64, .aload_n 1, 1), (65, .getfield 107, 3), (68, .iconst 0, 1), (69, .invokevirtual 87, 3), (72, .pop, 1), (73, .return_, 1)], [(93, 6, 3), (100, 6, 1), (11, 3, 7), (107, 6, 4), (37, 3, 6), (21, 3, 1), (17, 3, 0), (31, 3, 4)], [(96, my_X3_isOnIn, 1, 13, 1, 0, 0), (103, my_X3_sendGone, 1, 13, 2, 0, 0), (148, my_X7_dropBelow, 2, 1, 2, 0, 0), (114, Lib.Math.max.name, 2, 8, 0, 0, 0), (87, my_X0_send, 6, 10, 1, 0, 0)], [], [], [160, 148, 457, 168, 456, 451, 450, 454, 1266, 1268, 24, 94, 1270, 1272, 25, 94, 1307, 1180, 97, 1286, 658, 107, 659, 1278, 1039, 1040, 86])
theorem ok_X3_receiveCollect : mt_ok M_X3_receiveCollect = true := by decide +kernel
theorem cw_X3_receiveCollect : Cond.code (mt_y M_X3_receiveCollect) (mt_b M_X3_receiveCollect) (mt_l M_X3_receiveCollect) (mt_r M_X3_receiveCollect) ∈ lw_tbl := List.mem_of_getElem? (i := 1306) (by decide +kernel)
def M_X3_receiveStop : MT := (my_X3_receiveStop, prog_5_method_11_code, 4, none, [], [(0, .aload_n 0, 1), (1, .invokevirtual 83, 3), (4, .ifCond .eq 12, 3), (7, .aload_n 0, 1), (8, .aload_n 1, 1), (9, .getfield 100, 3), (12, .invokevirtual 103, 3), (15, .return_, 1), (16, .aload_n 0, 1), (17, .getfield 28, 3), (20, .iconst 2, 1), (21, .if_icmp .eq 11, 3), (24, .aload_n 0, 1), (25, .getfield 28, 3), (28, .iconst 3, 1), (29, .if_icmp .ne 7, 3), (32, .iconst 1, 1), (33, .goto 4, 3), (36, .iconst 0, 1), (37, .istore_n 2, 1), (38, .iload_n 2, 1), (39, .ifCond .eq 25, 3), (42, .aload_n 0, 1), (43, .getfield 31, 3), (46, .aload_n 1, 1), (47, .getfield 93, 3), (50, .if_icmp .ne 14, 3), (53, .aload_n 1, 1), (54, .getfield 107, 3), (57, .aload_n 0, 1), (58, .getfield 47, 3), (61, .if_icmp .ge 4, 3), (64, .return_, 1), (65, .aload_n 0, 1), (66, .aload_n 1, 1), (67, .getfield 107, 3), (70, .putfield 47, 3), (73, .aload_n 0, 1), (74, .iconst 3, 1), (75, .putfield 28, 3), (78, .aload_n 0, 1), (79, .getfield 21, 3), (82, .bipush 17, 2), (84, .aload_n 0, 1), (85, .getfield 17, 3), (88, .aload_n 1, 1), (89, .getfield 100, 3), (92, .aload_n 0, 1), (93, .getfield 31, 3), (96, .aload_n 0, 1), (97, .getfield 47, 3), (100, .aload_n 0, 1), (101, .getfield 37, 3), (104, .invokevirtual 87, 3), (107, .astore_n 3, 1), (108, .aload_n 3, 1), (109, .getfield 131, 3), (112, .aload_n 0, 1), (113, .getfield 11, 3), (116, .invokestatic 134, 3), (119, .aload_n 3, 1), (120, .aload_n 0, 1), (121, .getfield 50, 3), (124, .putfield 151, 3), (127, .aload_n 3, 1), (128, .aload_n 0, 1), (129, .getfield 53, 3), (132, .putfield 152, 3), (135, .return_, 1)], [(100, 6, 1), (28, 3, 3), (31, 3, 4), (93, 6, 3), (107, 6, 4), (47, 3, 8), (21, 3, 1), (17, 3, 0), (37, 3, 6), (131, 6, 8), (11, 3, 7), (50, 3, 9), (151, 6, 6), (53, 3, 10), (152, 6, 7)], [(83, my_X3_knowsNext, 0, 13, 1, 0, 0), (103, my_X3_sendGone, 1, 13, 2, 0, 0), (87, my_X0_send, 6, 10, 1, 0, 0), (134, my_X7_setTo, 2, 1, 1, 0, 0)], [], [], [148, 453, 454, 160, 168, 459, 451, 450, 456, 189, 457, 460, 181, 461, 185, 1274, 1276, 26, 94, 1270, 1272, 25, 94, 1278, 1039, 1040, 86, 1299, 1111, 97])
theorem ok_X3_receiveStop : mt_ok M_X3_receiveStop = true := by decide +kernel
theorem cw_X3_receiveStop : Cond.code (mt_y M_X3_receiveStop) (mt_b M_X3_receiveStop) (mt_l M_X3_receiveStop) (mt_r M_X3_receiveStop) ∈ lw_tbl := List.mem_of_getElem? (i := 1311) (by decide +kernel)
end
section
/-! ===== records of methods ===== -/
def M_X3_receiveSeed : MT := (my_X3_receiveSeed, prog_5_method_12_code, 2, none, [], [(0, .aload_n 0, 1), (1, .aload_n 1, 1), (2, .getfield 93, 3), (5, .invokevirtual 153, 3), (8, .ifCond .ne 4, 3), (11, .return_, 1), (12, .aload_n 0, 1), (13, .iconst 1, 1), (14, .putfield 28, 3), (17, .aload_n 0, 1), (18, .aload_n 1, 1), (19, .getfield 93, 3), (22, .putfield 31, 3), (25, .aload_n 0, 1), (26, .aload_n 1, 1), (27, .getfield 107, 3), (30, .putfield 34, 3), (33, .aload_n 0, 1), (34, .aload_n 1, 1), (35, .getfield 120, 3), (38, .putfield 37, 3), (41, .aload_n 0, 1), (42, .getfield 11, 3), (45, .aload_n 1, 1), (46, .getfield 131, 3), (49, .invokestatic 134, 3), (52, .aload_n 0, 1), (53, .invokevirtual 44, 3), (56, .aload_n 0, 1), (57, .getfield 21, 3), (60, .bipush 19, 2), (62, .aload_n 0, 1), (63, .getfield 17, 3), (66, .aload_n 1, 1), (67, .getfield 100, 3), (70, .aload_n 0, 1), (71, .getfield 31, 3), (74, .iconst 0, 1), (75, .iconst 0, 1), (76, .invokevirtual 87, 3), (79, .pop, 1), (80, .return_, 1)], [(93, 6, 3), (28, 3, 3), (31, 3, 4), (107, 6, 4), (34, 3, 5), (120, 6, 5), (37, 3, 6), (11, 3, 7), (131, 6, 8), (21, 3, 1), (17, 3, 0), (100, 6, 1)], [(153, my_X3_canBeSeeded, 1, 13, 2, 0, 0), (134, my_X7_setTo, 2, 1, 1, 0, 0), (44, my_X3_forgetReform, 0, 13, 1, 0, 0), (87, my_X0_send, 6, 10, 1, 0, 0)], [], [], [160, 453, 454, 168, 455, 175, 456, 457, 189, 451, 450, 148, 1316, 1318, 31, 94, 1299, 1111, 97, 914, 916, 5, 94, 1278, 1039, 1040, 86])
theorem ok_X3_receiveSeed : mt_ok M_X3_receiveSeed = true := by decide +kernel
theorem cw_X3_receiveSeed : Cond.code (mt_y M_X3_receiveSeed) (mt_b M_X3_receiveSeed) (mt_l M_X3_receiveSeed) (mt_r M_X3_receiveSeed) ∈ lw_tbl := List.mem_of_getElem? (i := 1315) (by decide +kernel)
def M_X3_canBeSeeded : MT := (my_X3_canBeSeeded, prog_5_method_13_code, 2, (some .boolean), [], [(0, .aload_n 0, 1), (1, .getfield 28, 3), (4, .tableswitch 69 0 3 #[32, 34, 69, 48], 32), (36, .iconst 1, 1), (37, .ireturn, 1), (38, .aload_n 0, 1), (39, .getfield 31, 3), (42, .iload_n 1, 1), (43, .if_icmp .gt 7, 3), (46, .iconst 1, 1), (47, .goto 4, 3), (50, .iconst 0, 1), (51, .ireturn, 1), (52, .aload_n 0, 1), (53, .invokevirtual 83, 3), (56, .ifCond .eq 15, 3), (59, .aload_n 0, 1), (60, .getfield 31, 3), (63, .iload_n 1, 1), (64, .if_icmp .ge 7, 3), (67, .iconst 1, 1), (68, .goto 4, 3), (71, .iconst 0, 1), (72, .ireturn, 1), (73, .iconst 0, 1), (74, .ireturn, 1)], [(28, 3, 3), (31, 3, 4)], [(83, my_X3_knowsNext, 0, 13, 1, 0, 0)], [], [], [453, 454, 1274, 1276, 26, 94])
theorem ok_X3_canBeSeeded : mt_ok M_X3_canBeSeeded = true := by decide +kernel
theorem cw_X3_canBeSeeded : Cond.code (mt_y M_X3_canBeSeeded) (mt_b M_X3_canBeSeeded) (mt_l M_X3_canBeSeeded) (mt_r M_X3_canBeSeeded) ∈ lw_tbl := List.mem_of_getElem? (i := 1319) (by decide +kernel)
def M_X3_receivePick : MT := (my_X3_receivePick, prog_5_method_14_code, 2, none, [], [(0, .aload_n 0, 1), (1, .getfield 28, 3), (4, .iconst 3, 1), (5, .if_icmp .ne 32, 3), (8, .aload_n 0, 1), (9, .getfield 31, 3), (12, .aload_n 1, 1), (13, .getfield 93, 3), (16, .if_icmp .ne 21, 3), (19, .aload_n 0, 1), (20, .invokevirtual 83, 3), (23, .ifCond .ne 14, 3), (26, .aload_n 1, 1), (27, .getfield 107, 3), (30, .aload_n 0, 1), (31, .getfield 47, 3), (34, .if_icmp .ge 4, 3), (37, .return_, 1), (38, .aload_n 0, 1), (39, .aload_n 1, 1), (40, .getfield 107, 3), (43, .putfield 47, 3), (46, .aload_n 0, 1), (47, .aload_n 1, 1), (48, .getfield 107, 3), (51, .putfield 50, 3), (54, .aload_n 0, 1), (55, .aload_n 1, 1), (56, .getfield 120, 3), (59, .putfield 53, 3), (62, .aload_n 0, 1), (63, .getfield 21, 3), (66, .bipush 21, 2), (68, .aload_n 0, 1), (69, .getfield 17, 3), (72, .aload_n 1, 1), (73, .getfield 100, 3), (76, .aload_n 0, 1), (77, .getfield 31, 3), (80, .aload_n 0, 1), (81, .getfield 47, 3), (84, .iconst 0, 1), (85, .invokevirtual 87, 3), (88, .pop, 1), (89, .return_, 1)], [(28, 3, 3), (31, 3, 4), (93, 6, 3), (107, 6, 4), (47, 3, 8), (50, 3, 9), (120, 6, 5), (53, 3, 10), (21, 3, 1), (17, 3, 0), (100, 6, 1)], [(83, my_X3_knowsNext, 0, 13, 1, 0, 0), (87, my_X0_send, 6, 10, 1, 0, 0)], [], [], [453, 454, 160, 168, 459, 460, 175, 461, 451, 450, 148, 1274, 1276, 26, 94, 1278, 1039, 1040, 86])
theorem ok_X3_receivePick : mt_ok M_X3_receivePick = true := by decide +kernel
theorem cw_X3_receivePick : Cond.code (mt_y M_X3_receivePick) (mt_b M_X3_receivePick) (mt_l M_X3_receivePick) (mt_r M_X3_receivePick) ∈ lw_tbl := List.mem_of_getElem? (i := 1323) (by decide +kernel)
def M_X3_receiveMoved : MT := (my_X3_receiveMoved, prog_5_method_15_code, 2, none, [], [(0, .aload_n 0, 1), (1, .getfield 28, 3), (4, .iconst 1, 1), (5, .if_icmp .ne 35, 3), (8, .aload_n 0, 1), (9, .getfield 31, 3), (12, .aload_n 1, 1), (13, .getfield 93, 3), (16, .iconst 1, 1), (17, .iadd, 1), (18, .if_icmp .ne 22, 3), (21, .aload_n 0, 1), (22, .getfield 34, 3), (25, .aload_n 1, 1), (26, .getfield 107, 3), (29, .if_icmp .ne 11, 3), (32, .aload_n 0, 1), (33, .iconst 2, 1), (34, .putfield 28, 3), (37, .goto 30, 3), (40, .aload_n 0, 1), (41, .getfield 28, 3), (44, .iconst 3, 1), (45, .if_icmp .ne 22, 3), (48, .aload_n 0, 1), (49, .getfield 31, 3), (52, .aload_n 1, 1), (53, .getfield 93, 3), (56, .if_icmp .ne 11, 3), (59, .aload_n 0, 1), (60, .aload_n 1, 1), (61, .getfield 107, 3), (64, .putfield 56, 3), (67, .return_, 1)], [(28, 3, 3), (31, 3, 4), (93, 6, 3), (34, 3, 5), (107, 6, 4), (56, 3, 11)], [], [], [], [453, 454, 160, 455, 168, 462])
theorem ok_X3_receiveMoved : mt_ok M_X3_receiveMoved = true := by decide +kernel
theorem cw_X3_receiveMoved : Cond.code (mt_y M_X3_receiveMoved) (mt_b M_X3_receiveMoved) (mt_l M_X3_receiveMoved) (mt_r M_X3_receiveMoved) ∈ lw_tbl := List.mem_of_getElem? (i := 1327) (by decide +kernel)
def M_X3_tell : MT := (my_X3_tell, prog_5_method_16_code, 2, (some .int), [], [(0, .iload_n 1, 1), (1, .tableswitch 81 0 6 #[43, 48, 53, 58, 66, 71, 76], 43), (44, .aload_n 0, 1), (45, .getfield 28, 3), (48, .ireturn, 1), (49, .aload_n 0, 1), (50, .getfield 31, 3), (53, .ireturn, 1), (54, .aload_n 0, 1), (55, .getfield 37, 3), (58, .ireturn, 1), (59, .aload_n 0, 1), (60, .getfield 11, 3), (63, .invokestatic 141, 3), (66, .ireturn, 1), (67, .aload_n 0, 1), (68, .getfield 47, 3), (71, .ireturn, 1), (72, .aload_n 0, 1), (73, .getfield 50, 3), (76, .ireturn, 1), (77, .aload_n 0, 1), (78, .getfield 53, 3), (81, .ireturn, 1), (82, .aload_n 0, 1), (83, .getfield 56, 3), (86, .ireturn, 1)], [(28, 3, 3), (31, 3, 4), (37, 3, 6), (11, 3, 7), (47, 3, 8), (50, 3, 9), (53, 3, 10), (56, 3, 11)], [(141, my_X7_size, 1, 1, 2, 0, 0)], [], [], [453, 454, 456, 457, 459, 460, 461, 462, 1291, 1292, 97])
theorem ok_X3_tell : mt_ok M_X3_tell = true := by decide +kernel
theorem cw_X3_tell : Cond.code (mt_y M_X3_tell) (mt_b M_X3_tell) (mt_l M_X3_tell) (mt_r M_X3_tell) ∈ lw_tbl := List.mem_of_getElem? (i := 1454) (by decide +kernel)
def M_X4_init : MT := (my_X4_init, prog_6_method_1_code, 3, none, [], [(0, .aload_n 0, 1), (1, .invokespecial 3, 3), (4, .aload_n 0, 1), (5, .bipush 10, 2), (7, .newarray .int, 2), (9, .putfield 11, 3), (12, .aload_n 0, 1), (13, .iload_n 1, 1), (14, .putfield 17, 3), (17, .aload_n 0, 1), (18, .aload_n 2, 1), (19, .putfield 21, 3), (22, .return_, 1)], [(11, 4, 9), (17, 4, 0), (21, 4, 1)], [(3, objectInit, 0, 3, 0, 0, 0)], [], [], [303, 289, 290, 288, 122, 123])
theorem ok_X4_init : mt_ok M_X4_init = true := by decide +kernel
theorem cw_X4_init : Cond.code (mt_y M_X4_init) (mt_b M_X4_init) (mt_l M_X4_init) (mt_r M_X4_init) ∈ lw_tbl := List.mem_of_getElem? (i := 287) (by decide +kernel)
def M_X4_reset : MT := (my_X4_reset, prog_6_method_2_code, 1, none, [], [(0, .aload_n 0, 1), (1, .iconst 0, 1), (2, .putfield 25, 3), (5, .aload_n 0, 1), (6, .bipush 7, 2), (8, .putfield 28, 3), (11, .aload_n 0, 1), (12, .iconst 0, 1), (13, .putfield 31, 3), (16, .aload_n 0, 1), (17, .iconst (-1), 1), (18, .putfield 34, 3), (21, .aload_n 0, 1), (22, .iconst 0, 1), (23, .putfield 37, 3), (26, .aload_n 0, 1), (27, .invokevirtual 40, 3), (30, .return_, 1)], [(25, 4, 2), (28, 4, 3), (31, 4, 4), (34, 4, 5), (37, 4, 6)], [(40, my_X4_forget, 0, 14, 4, 0, 0)], [], [], [291, 293, 295, 297, 299, 547, 549, 1, 91])
theorem ok_X4_reset : mt_ok M_X4_reset = true := by decide +kernel
theorem cw_X4_reset : Cond.code (mt_y M_X4_reset) (mt_b M_X4_reset) (mt_l M_X4_reset) (mt_r M_X4_reset) ∈ lw_tbl := List.mem_of_getElem? (i := 546) (by decide +kernel)
def M_X4_forget : MT := (my_X4_forget, prog_6_method_3_code, 1, none, [], [(0, .aload_n 0, 1), (1, .iconst 0, 1), (2, .putfield 43, 3), (5, .aload_n 0, 1), (6, .iconst 0, 1), (7, .putfield 46, 3), (10, .aload_n 0, 1), (11, .getfield 11, 3), (14, .invokestatic 49, 3), (17, .aload_n 0, 1), (18, .iconst (-1), 1), (19, .putfield 53, 3), (22, .aload_n 0, 1), (23, .iconst 0, 1), (24, .putfield 56, 3), (27, .return_, 1)], [(43, 4, 7), (46, 4, 8), (11, 4, 9), (53, 4, 10), (56, 4, 11)], [(49, my_X7_empty, 1, 1, 3, 0, 0)], [], [], [301, 302, 303, 304, 305, 551, 552, 97])
theorem ok_X4_forget : mt_ok M_X4_forget = true := by decide +kernel
theorem cw_X4_forget : Cond.code (mt_y M_X4_forget) (mt_b M_X4_forget) (mt_l M_X4_forget) (mt_r M_X4_forget) ∈ lw_tbl := List.mem_of_getElem? (i := 550) (by decide +kernel)
def M_X4_startReform : MT := (my_X4_startReform, prog_6_method_4_code, 3, none, [], [(0, .aload_n 0, 1), (1, .invokevirtual 40, 3), (4, .aload_n 0, 1), (5, .iconst 1, 1), (6, .putfield 31, 3), (9, .aload_n 0, 1), (10, .iload_n 1, 1), (11, .putfield 34, 3), (14, .aload_n 0, 1), (15, .iload_n 2, 1), (16, .putfield 37, 3), (19, .aload_n 0, 1), (20, .invokevirtual 59, 3), (23, .return_, 1)], [(31, 4, 4), (34, 4, 5), (37, 4, 6)], [(40, my_X4_forget, 0, 14, 4, 0, 0), (59, my_X4_sendStep, 0, 14, 3, 0, 0)], [], [], [295, 297, 299, 547, 549, 1, 91, 1100, 1101, 1102, 91])
theorem ok_X4_startReform : mt_ok M_X4_startReform = true := by decide +kernel
theorem cw_X4_startReform : Cond.code (mt_y M_X4_startReform) (mt_b M_X4_startReform) (mt_l M_X4_startReform) (mt_r M_X4_startReform) ∈ lw_tbl := List.mem_of_getElem? (i := 1099) (by decide +kernel)
def M_X4_sendStep : MT := (my_X4_sendStep, prog_6_method_5_code, 1, none, [], [(0, .aload_n 0, 1), (1, .getfield 31, 3), (4, .iconst 1, 1), (5, .if_icmp .ne 39, 3), (8, .aload_n 0, 1), (9, .getfield 21, 3), (12, .bipush 16, 2), (14, .aload_n 0, 1), (15, .getfield 17, 3), (18, .aload_n 0, 1), (19, .getfield 28, 3), (22, .aload_n 0, 1), (23, .getfield 43, 3), (26, .iconst (-1), 1), (27, .ixor, 1), (28, .iand, 1), (29, .aload_n 0, 1), (30, .getfield 25, 3), (33, .aload_n 0, 1), (34, .getfield 34, 3), (37, .iconst 0, 1), (38, .invokevirtual 62, 3), (41, .goto 73, 3), (44, .aload_n 0, 1), (45, .getfield 31, 3), (48, .iconst 2, 1), (49, .if_icmp .ne 21, 3), (52, .aload_n 0, 1), (53, .aload_n 0, 1), (54, .getfield 37, 3), (57, .aload_n 0, 1), (58, .getfield 43, 3), (61, .iconst (-1), 1), (62, .ixor, 1), (63, .iand, 1), (64, .invokevirtual 68, 3), (67, .goto 47, 3), (70, .aload_n 0, 1), (71, .getfield 31, 3), (74, .iconst 3, 1), (75, .if_icmp .ne 39, 3), (78, .aload_n 0, 1), (79, .getfield 21, 3), (82, .bipush 20, 2), (84, .aload_n 0, 1), (85, .getfield 17, 3), (88, .aload_n 0, 1), (89, .getfield 28, 3), (92, .aload_n 0, 1), (93, .getfield 43, 3), (96, .iconst (-1), 1), (97, .ixor, 1), (98, .iand, 1), (99, .aload_n 0, 1), (100, .getfield 25, 3), (103, .aload_n 0, 1), (104, .getfield 34, 3), (107, .aload_n 0, 1), (108, .getfield 37, 3), (111, .invokevirtual 62, 3), (114, .return_, 1)], [(31, 4, 4), (21, 4, 1), (17, 4, 0), (28, 4, 3), (43, 4, 7), (25, 4, 2), (34, 4, 5), (37, 4, 6)], [(62, my_X0_sendEach, 6, 10, 2, 0, 0), (68, my_X4_sendSeeds, 1, 14, 2, 0, 0)], [], [], [295, 290, 289, 293, 301, 291, 297, 299, 1104, 1035, 1036, 86, 1105, 1107, 10, 91])
theorem ok_X4_sendStep : mt_ok M_X4_sendStep = true := by decide +kernel
theorem cw_X4_sendStep : Cond.code (mt_y M_X4_sendStep) (mt_b M_X4_sendStep) (mt_l M_X4_sendStep) (mt_r M_X4_sendStep) ∈ lw_tbl := List.mem_of_getElem? (i := 1103) (by decide +kernel)
def M_X4_sendSeeds : MT := (my_X4_sendSeeds, prog_6_method_6_code, 4, none, [], [(0, .iconst 0, 1), (1, .istore_n 2, 1), (2, .iload_n 2, 1), (3, .bipush 9, 2), (5, .if_icmp .ge 57, 3), (8, .iload_n 1, 1), (9, .iload_n 2, 1), (10, .ishr, 1), (11, .iconst 1, 1), (12, .iand, 1), (13, .ifCond .eq 43, 3), (16, .aload_n 0, 1), (17, .getfield 21, 3), (20, .bipush 18, 2), (22, .aload_n 0, 1), (23, .getfield 17, 3), (26, .iload_n 2, 1), (27, .aload_n 0, 1), (28, .getfield 25, 3), (31, .iconst 1, 1), (32, .iadd, 1), (33, .aload_n 0, 1), (34, .getfield 37, 3), (37, .aload_n 0, 1), (38, .getfield 46, 3), (41, .invokevirtual 72, 3), (44, .astore_n 3, 1), (45, .aload_n 3, 1), (46, .getfield 76, 3), (49, .aload_n 0, 1), (50, .getfield 11, 3), (53, .invokestatic 81, 3), (56, .iinc 2 1, 3), (59, .goto (-57), 3), (62, .return_, 1)], [(21, 4, 1), (17, 4, 0), (25, 4, 2), (37, 4, 6), (46, 4, 8), (76, 6, 8), (11, 4, 9)], [(72, my_X0_send, 6, 10, 1, 0, 0), (81, my_X7_setTo, 2, 1, 1, 0, 0)], [], [], [290, 289, 291, 299, 302, 187, 303, 1109, 1039, 1040, 86, 1110, 1111, 97])
theorem ok_X4_sendSeeds : mt_ok M_X4_sendSeeds = true := by decide +kernel
theorem cw_X4_sendSeeds : Cond.code (mt_y M_X4_sendSeeds) (mt_b M_X4_sendSeeds) (mt_l M_X4_sendSeeds) (mt_r M_X4_sendSeeds) ∈ lw_tbl := List.mem_of_getElem? (i := 1108) (by decide +kernel)
def M_X4_receiveStopped : MT := (my_X4_receiveStopped, prog_6_method_7_code, 2, none, [], [(0, .aload_n 0, 1), (1, .getfield 31, 3), (4, .iconst 1, 1), (5, .if_icmp .ne 25, 3), (8, .aload_n 1, 1), (9, .getfield 85, 3), (12, .aload_n 0, 1), (13, .getfield 25, 3), (16, .if_icmp .ne 14, 3), (19, .aload_n 1, 1), (20, .getfield 88, 3), (23, .aload_n 0, 1), (24, .getfield 34, 3), (27, .if_icmp .eq 4, 3), (30, .return_, 1), (31, .aload_n 0, 1), (32, .dup, 1), (33, .getfield 43, 3), (36, .iconst 1, 1), (37, .aload_n 1, 1), (38, .getfield 91, 3), (41, .ishl, 1), (42, .ior, 1), (43, .putfield 43, 3), (46, .aload_n 0, 1), (47, .aload_n 0, 1), (48, .getfield 46, 3), (51, .aload_n 1, 1), (52, .getfield 94, 3), (55, .invokestatic 97, 3), (58, .putfield 46, 3), (61, .aload_n 0, 1), (62, .getfield 11, 3), (65, .aload_n 1, 1), (66, .getfield 76, 3), (69, .invokestatic 103, 3), (72, .aload_n 1, 1), (73, .getfield 106, 3), (76, .aload_n 0, 1), (77, .getfield 53, 3), (80, .if_icmp .le 19, 3), (83, .aload_n 0, 1), (84, .aload_n 1, 1), (85, .getfield 106, 3), (88, .putfield 53, 3), (91, .aload_n 0, 1), (92, .aload_n 1, 1), (93, .getfield 107, 3), (96, .putfield 56, 3), (99, .aload_n 0, 1), (100, .getfield 43, 3), (103, .invokestatic 108, 3), (106, .ifCond .ne 4, 3), (109, .return_, 1), (110, .aload_n 0, 1), (111, .iconst 0, 1), (112, .putfield 43, 3), (115, .aload_n 0, 1), (116, .getfield 53, 3), (119, .iconst (-1), 1), (120, .if_icmp .eq 19, 3), (123, .aload_n 0, 1), (124, .aload_n 0, 1), (125, .getfield 56, 3), (128, .putfield 37, 3), (131, .aload_n 0, 1), (132, .iconst 3, 1), (133, .putfield 31, 3), (136, .goto 19, 3), (139, .aload_n 0, 1), (140, .getfield 11, 3), (143, .aload_n 0, 1), (144, .getfield 46, 3), (147, .invokestatic 112, 3), (150, .aload_n 0, 1), (151, .iconst 2, 1), (152, .putfield 31, 3), (155, .aload_n 0, 1), (156, .invokevirtual 59, 3), (159, .return_, 1)], [(31, 4, 4), (85, 6, 3), (25, 4, 2), (88, 6, 4), (34, 4, 5), (43, 4, 7), (91, 6, 1), (46, 4, 8), (94, 6, 5), (11, 4, 9), (76, 6, 8), (106, 6, 6), (53, 4, 10), (107, 6, 7), (56, 4, 11), (37, 4, 6)], [(97, Lib.Math.max.name, 2, 8, 0, 0, 0), (103, my_X7_addAll, 2, 1, 1, 0, 0), (108, my_X11_areTwo, 1, 4, 2, 0, 0), (112, my_X7_dropBelow, 2, 1, 2, 0, 0), (59, my_X4_sendStep, 0, 14, 3, 0, 0)], [], [], [295, 158, 291, 166, 297, 301, 147, 302, 173, 303, 187, 180, 304, 184, 305, 299, 1242, 658, 107, 659, 1243, 1174, 97, 1177, 85, 1245, 1180, 97, 1100, 1101, 1102, 91])
theorem ok_X4_receiveStopped : mt_ok M_X4_receiveStopped = true := by decide +kernel
theorem cw_X4_receiveStopped : Cond.code (mt_y M_X4_receiveStopped) (mt_b M_X4_receiveStopped) (mt_l M_X4_receiveStopped) (mt_r M_X4_receiveStopped) ∈ lw_tbl := List.mem_of_getElem? (i := 1241) (by decide +kernel)
end
section
/-! ===== records of methods ===== -/
def M_X4_receiveSeeded : MT := (my_X4_receiveSeeded, prog_6_method_8_code, 2, none, [], [(0, .aload_n 0, 1), (1, .getfield 31, 3), (4, .iconst 2, 1), (5, .if_icmp .ne 16, 3), (8, .aload_n 1, 1), (9, .getfield 85, 3), (12, .aload_n 0, 1), (13, .getfield 25, 3), (16, .iconst 1, 1), (17, .iadd, 1), (18, .if_icmp .eq 4, 3), (21, .return_, 1), (22, .aload_n 0, 1), (23, .dup, 1), (24, .getfield 43, 3), (27, .iconst 1, 1), (28, .aload_n 1, 1), (29, .getfield 91, 3), (32, .ishl, 1), (33, .ior, 1), (34, .putfield 43, 3), (37, .aload_n 0, 1), (38, .getfield 43, 3), (41, .aload_n 0, 1), (42, .getfield 37, 3), (45, .iand, 1), (46, .aload_n 0, 1), (47, .getfield 37, 3), (50, .if_icmp .ne 17, 3), (53, .aload_n 0, 1), (54, .iconst 0, 1), (55, .putfield 43, 3), (58, .aload_n 0, 1), (59, .iconst 3, 1), (60, .putfield 31, 3), (63, .aload_n 0, 1), (64, .invokevirtual 59, 3), (67, .return_, 1)], [(31, 4, 4), (85, 6, 3), (25, 4, 2), (43, 4, 7), (91, 6, 1), (37, 4, 6)], [(59, my_X4_sendStep, 0, 14, 3, 0, 0)], [], [], [295, 158, 291, 301, 147, 299, 1100, 1101, 1102, 91])
theorem ok_X4_receiveSeeded : mt_ok M_X4_receiveSeeded = true := by decide +kernel
theorem cw_X4_receiveSeeded : Cond.code (mt_y M_X4_receiveSeeded) (mt_b M_X4_receiveSeeded) (mt_l M_X4_receiveSeeded) (mt_r M_X4_receiveSeeded) ∈ lw_tbl := List.mem_of_getElem? (i := 1249) (by decide +kernel)
def M_X4_receivePicked : MT := (my_X4_receivePicked, prog_6_method_9_code, 2, (some .boolean), [], [(0, .aload_n 0, 1), (1, .getfield 31, 3), (4, .iconst 3, 1), (5, .if_icmp .ne 25, 3), (8, .aload_n 1, 1), (9, .getfield 85, 3), (12, .aload_n 0, 1), (13, .getfield 25, 3), (16, .if_icmp .ne 14, 3), (19, .aload_n 1, 1), (20, .getfield 88, 3), (23, .aload_n 0, 1), (24, .getfield 34, 3), (27, .if_icmp .eq 5, 3), (30, .iconst 0, 1), (31, .ireturn, 1), (32, .aload_n 0, 1), (33, .dup, 1), (34, .getfield 43, 3), (37, .iconst 1, 1), (38, .aload_n 1, 1), (39, .getfield 91, 3), (42, .ishl, 1), (43, .ior, 1), (44, .putfield 43, 3), (47, .aload_n 0, 1), (48, .getfield 43, 3), (51, .invokestatic 108, 3), (54, .ifCond .ne 5, 3), (57, .iconst 0, 1), (58, .ireturn, 1), (59, .aload_n 0, 1), (60, .getfield 21, 3), (63, .bipush 22, 2), (65, .aload_n 0, 1), (66, .getfield 17, 3), (69, .aload_n 0, 1), (70, .getfield 28, 3), (73, .aload_n 0, 1), (74, .getfield 25, 3), (77, .aload_n 0, 1), (78, .getfield 37, 3), (81, .iconst 0, 1), (82, .invokevirtual 62, 3), (85, .aload_n 0, 1), (86, .getfield 21, 3), (89, .bipush 22, 2), (91, .aload_n 0, 1), (92, .getfield 17, 3), (95, .aload_n 0, 1), (96, .getfield 37, 3), (99, .aload_n 0, 1), (100, .getfield 25, 3), (103, .aload_n 0, 1), (104, .getfield 37, 3), (107, .iconst 0, 1), (108, .invokevirtual 62, 3), (111, .iconst 1, 1), (112, .ireturn, 1)], [(31, 4, 4), (85, 6, 3), (25, 4, 2), (88, 6, 4), (34, 4, 5), (43, 4, 7), (91, 6, 1), (21, 4, 1), (17, 4, 0), (28, 4, 3), (37, 4, 6)], [(108, my_X11_areTwo, 1, 4, 2, 0, 0), (62, my_X0_sendEach, 6, 10, 2, 0, 0)], [], [], [295, 158, 291, 166, 297, 301, 147, 290, 289, 293, 299, 1177, 85, 1104, 1035, 1036, 86])
theorem ok_X4_receivePicked : mt_ok M_X4_receivePicked = true := by decide +kernel
theorem cw_X4_receivePicked : Cond.code (mt_y M_X4_receivePicked) (mt_b M_X4_receivePicked) (mt_l M_X4_receivePicked) (mt_r M_X4_receivePicked) ∈ lw_tbl := List.mem_of_getElem? (i := 1253) (by decide +kernel)
def M_X5_init : MT := (my_X5_init, prog_7_method_1_code, 4, none, [], [(0, .aload_n 0, 1), (1, .invokespecial 3, 3), (4, .aload_n 0, 1), (5, .bipush 10, 2), (7, .newarray .int, 2), (9, .putfield 11, 3), (12, .aload_n 0, 1), (13, .bipush 16, 2), (15, .newarray .int, 2), (17, .putfield 17, 3), (20, .aload_n 0, 1), (21, .iload_n 1, 1), (22, .putfield 20, 3), (25, .aload_n 0, 1), (26, .aload_n 2, 1), (27, .putfield 24, 3), (30, .aload_n 0, 1), (31, .aload_n 3, 1), (32, .putfield 28, 3), (35, .aload_n 0, 1), (36, .new 31, 3), (39, .dup, 1), (40, .iload_n 1, 1), (41, .aload_n 2, 1), (42, .invokespecial 33, 3), (45, .putfield 36, 3), (48, .aload_n 0, 1), (49, .new 40, 3), (52, .dup, 1), (53, .iload_n 1, 1), (54, .aload_n 2, 1), (55, .invokespecial 42, 3), (58, .putfield 43, 3), (61, .aload_n 0, 1), (62, .new 47, 3), (65, .dup, 1), (66, .invokespecial 49, 3), (69, .putfield 50, 3), (72, .return_, 1)], [(11, 5, 11), (17, 5, 14), (20, 5, 0), (24, 5, 1), (28, 5, 2), (36, 5, 3), (43, 5, 4), (50, 5, 5)], [(3, objectInit, 0, 3, 0, 0, 0), (33, my_X4_init, 2, 2, 1, 1, 10), (42, my_X8_init, 2, 2, 1, 4, 64), (49, my_X1_init, 0, 5, 1, 0, 0)], [(31, 4), (40, 8), (47, 1)], [], [402, 405, 387, 388, 389, 390, 392, 394, 282, 122, 123, 285, 286, 91, 333, 334, 92, 359, 93, 283, 284, 91, 331, 332, 92, 356, 357, 93])
theorem ok_X5_init : mt_ok M_X5_init = true := by decide +kernel
theorem cw_X5_init : Cond.code (mt_y M_X5_init) (mt_b M_X5_init) (mt_l M_X5_init) (mt_r M_X5_init) ∈ lw_tbl := List.mem_of_getElem? (i := 281) (by decide +kernel)
def M_X5_reset : MT := (my_X5_reset, prog_7_method_2_code, 1, none, [], [(0, .aload_n 0, 1), (1, .iconst 0, 1), (2, .putfield 54, 3), (5, .aload_n 0, 1), (6, .iconst (-1), 1), (7, .putfield 57, 3), (10, .aload_n 0, 1), (11, .iconst 0, 1), (12, .putfield 60, 3), (15, .aload_n 0, 1), (16, .getfield 36, 3), (19, .invokevirtual 63, 3), (22, .aload_n 0, 1), (23, .invokevirtual 66, 3), (26, .return_, 1)], [(54, 5, 6), (57, 5, 7), (60, 5, 8), (36, 5, 3)], [(63, my_X4_reset, 0, 14, 5, 0, 0), (66, my_X5_forgetRound, 0, 15, 5, 0, 0)], [], [], [395, 397, 399, 390, 543, 544, 545, 91, 890, 892, 3, 90])
theorem ok_X5_reset : mt_ok M_X5_reset = true := by decide +kernel
theorem cw_X5_reset : Cond.code (mt_y M_X5_reset) (mt_b M_X5_reset) (mt_l M_X5_reset) (mt_r M_X5_reset) ∈ lw_tbl := List.mem_of_getElem? (i := 542) (by decide +kernel)
def M_X5_forgetRound : MT := (my_X5_forgetRound, prog_7_method_3_code, 1, none, [], [(0, .aload_n 0, 1), (1, .invokevirtual 69, 3), (4, .aload_n 0, 1), (5, .iconst 0, 1), (6, .putfield 72, 3), (9, .aload_n 0, 1), (10, .iconst 0, 1), (11, .putfield 75, 3), (14, .aload_n 0, 1), (15, .getfield 17, 3), (18, .iconst (-1), 1), (19, .invokestatic 78, 3), (22, .aload_n 0, 1), (23, .iconst 0, 1), (24, .putfield 84, 3), (27, .aload_n 0, 1), (28, .iconst 0, 1), (29, .putfield 87, 3), (32, .aload_n 0, 1), (33, .getfield 43, 3), (36, .invokevirtual 90, 3), (39, .aload_n 0, 1), (40, .getfield 50, 3), (43, .invokevirtual 91, 3), (46, .return_, 1)], [(72, 5, 12), (75, 5, 13), (17, 5, 14), (84, 5, 15), (87, 5, 16), (43, 5, 4), (50, 5, 5)], [(69, my_X5_forgetMatched, 0, 15, 4, 0, 0), (78, my_J7_fill_53178, 2, 1, 1, 0, 0), (90, my_X8_reset, 0, 18, 2, 0, 0), (91, my_X1_reset, 0, 11, 1, 0, 0)], [], [], [403, 404, 405, 406, 407, 392, 394, 894, 896, 4, 90, 899, 524, 96, 900, 901, 902, 92, 905, 906, 907, 93])
theorem ok_X5_forgetRound : mt_ok M_X5_forgetRound = true := by decide +kernel
theorem cw_X5_forgetRound : Cond.code (mt_y M_X5_forgetRound) (mt_b M_X5_forgetRound) (mt_l M_X5_forgetRound) (mt_r M_X5_forgetRound) ∈ lw_tbl := List.mem_of_getElem? (i := 893) (by decide +kernel)
def M_X5_forgetMatched : MT := (my_X5_forgetMatched, prog_7_method_4_code, 1, none, [], [(0, .aload_n 0, 1), (1, .iconst 0, 1), (2, .putfield 92, 3), (5, .aload_n 0, 1), (6, .iconst 0, 1), (7, .putfield 95, 3), (10, .aload_n 0, 1), (11, .getfield 11, 3), (14, .invokestatic 98, 3), (17, .return_, 1)], [(92, 5, 9), (95, 5, 10), (11, 5, 11)], [(98, my_X7_empty, 1, 1, 3, 0, 0)], [], [], [400, 401, 402, 898, 552, 97])
theorem ok_X5_forgetMatched : mt_ok M_X5_forgetMatched = true := by decide +kernel
theorem cw_X5_forgetMatched : Cond.code (mt_y M_X5_forgetMatched) (mt_b M_X5_forgetMatched) (mt_l M_X5_forgetMatched) (mt_r M_X5_forgetMatched) ∈ lw_tbl := List.mem_of_getElem? (i := 897) (by decide +kernel)
def M_X5_beginRound : MT := (my_X5_beginRound, prog_7_method_5_code, 3, none, [], [(0, .aload_n 0, 1), (1, .invokevirtual 66, 3), (4, .aload_n 0, 1), (5, .iconst 1, 1), (6, .putfield 54, 3), (9, .aload_n 0, 1), (10, .iload_n 1, 1), (11, .putfield 57, 3), (14, .aload_n 0, 1), (15, .iload_n 2, 1), (16, .putfield 60, 3), (19, .aload_n 0, 1), (20, .getfield 24, 3), (23, .iconst 1, 1), (24, .aload_n 0, 1), (25, .getfield 20, 3), (28, .aload_n 0, 1), (29, .getfield 36, 3), (32, .getfield 102, 3), (35, .aload_n 0, 1), (36, .getfield 36, 3), (39, .getfield 105, 3), (42, .aload_n 0, 1), (43, .getfield 57, 3), (46, .aload_n 0, 1), (47, .getfield 60, 3), (50, .invokevirtual 108, 3), (53, .return_, 1)], [(54, 5, 6), (57, 5, 7), (60, 5, 8), (24, 5, 1), (20, 5, 0), (36, 5, 3), (102, 4, 3), (105, 4, 2)], [(66, my_X5_forgetRound, 0, 15, 5, 0, 0), (108, my_X0_sendEach, 6, 10, 2, 0, 0)], [], [], [395, 397, 399, 388, 387, 390, 294, 292, 890, 892, 3, 90, 1034, 1035, 1036, 86])
theorem ok_X5_beginRound : mt_ok M_X5_beginRound = true := by decide +kernel
theorem cw_X5_beginRound : Cond.code (mt_y M_X5_beginRound) (mt_b M_X5_beginRound) (mt_l M_X5_beginRound) (mt_r M_X5_beginRound) ∈ lw_tbl := List.mem_of_getElem? (i := 1033) (by decide +kernel)
def M_X5_proposeNext : MT := (my_X5_proposeNext, prog_7_method_6_code, 3, (some .int), [], [(0, .aload_n 0, 1), (1, .getfield 54, 3), (4, .iconst 3, 1), (5, .if_icmp .ne 12, 3), (8, .aload_n 0, 1), (9, .getfield 87, 3), (12, .bipush 16, 2), (14, .if_icmp .lt 5, 3), (17, .iconst (-1), 1), (18, .ireturn, 1), (19, .aload_n 0, 1), (20, .getfield 87, 3), (23, .istore_n 2, 1), (24, .aload_n 0, 1), (25, .dup, 1), (26, .getfield 87, 3), (29, .iconst 1, 1), (30, .iadd, 1), (31, .putfield 87, 3), (34, .aload_n 0, 1), (35, .getfield 43, 3), (38, .iload_n 2, 1), (39, .iload_n 1, 1), (40, .invokevirtual 114, 3), (43, .aload_n 0, 1), (44, .getfield 24, 3), (47, .iconst 5, 1), (48, .aload_n 0, 1), (49, .getfield 20, 3), (52, .aload_n 0, 1), (53, .getfield 60, 3), (56, .aload_n 0, 1), (57, .getfield 57, 3), (60, .iload_n 2, 1), (61, .iload_n 1, 1), (62, .invokevirtual 108, 3), (65, .iload_n 2, 1), (66, .ireturn, 1)], [(54, 5, 6), (87, 5, 16), (43, 5, 4), (24, 5, 1), (20, 5, 0), (60, 5, 8), (57, 5, 7)], [(114, my_X8_put, 2, 18, 2, 0, 0), (108, my_X0_sendEach, 6, 10, 2, 0, 0)], [], [], [395, 407, 392, 388, 387, 399, 397, 1055, 1056, 1057, 92, 1034, 1035, 1036, 86])
theorem ok_X5_proposeNext : mt_ok M_X5_proposeNext = true := by decide +kernel
theorem cw_X5_proposeNext : Cond.code (mt_y M_X5_proposeNext) (mt_b M_X5_proposeNext) (mt_l M_X5_proposeNext) (mt_r M_X5_proposeNext) ∈ lw_tbl := List.mem_of_getElem? (i := 1054) (by decide +kernel)
def M_X5_startCollecting : MT := (my_X5_startCollecting, prog_7_method_7_code, 1, (some .boolean), [], [(0, .aload_n 0, 1), (1, .getfield 54, 3), (4, .iconst 3, 1), (5, .if_icmp .ne 24, 3), (8, .aload_n 0, 1), (9, .getfield 43, 3), (12, .aload_n 0, 1), (13, .getfield 43, 3), (16, .invokevirtual 118, 3), (19, .aload_n 0, 1), (20, .getfield 84, 3), (23, .invokevirtual 122, 3), (26, .ifCond .ne 5, 3), (29, .iconst 0, 1), (30, .ireturn, 1), (31, .aload_n 0, 1), (32, .getfield 50, 3), (35, .invokevirtual 91, 3), (38, .aload_n 0, 1), (39, .getfield 50, 3), (42, .iconst 1, 1), (43, .putfield 126, 3), (46, .aload_n 0, 1), (47, .getfield 50, 3), (50, .aload_n 0, 1), (51, .getfield 43, 3), (54, .invokevirtual 118, 3), (57, .putfield 129, 3), (60, .aload_n 0, 1), (61, .getfield 24, 3), (64, .bipush 9, 2), (66, .aload_n 0, 1), (67, .getfield 20, 3), (70, .aload_n 0, 1), (71, .getfield 60, 3), (74, .aload_n 0, 1), (75, .getfield 57, 3), (78, .aload_n 0, 1), (79, .getfield 50, 3), (82, .getfield 129, 3), (85, .iconst 0, 1), (86, .invokevirtual 108, 3), (89, .iconst 1, 1), (90, .ireturn, 1)], [(54, 5, 6), (43, 5, 4), (84, 5, 15), (50, 5, 5), (126, 1, 0), (129, 1, 1), (24, 5, 1), (20, 5, 0), (60, 5, 8), (57, 5, 7)], [(118, my_X8_firm, 0, 18, 1, 0, 0), (122, my_X8_areChosen, 2, 18, 2, 0, 0), (91, my_X1_reset, 0, 11, 1, 0, 0), (108, my_X0_sendEach, 6, 10, 2, 0, 0)], [], [], [395, 392, 406, 394, 363, 365, 388, 387, 399, 397, 1073, 1074, 1075, 92, 1077, 1078, 1079, 92, 905, 906, 907, 93, 1034, 1035, 1036, 86])
theorem ok_X5_startCollecting : mt_ok M_X5_startCollecting = true := by decide +kernel
theorem cw_X5_startCollecting : Cond.code (mt_y M_X5_startCollecting) (mt_b M_X5_startCollecting) (mt_l M_X5_startCollecting) (mt_r M_X5_startCollecting) ∈ lw_tbl := List.mem_of_getElem? (i := 1072) (by decide +kernel)
def M_X5_sendAgain : MT := (my_X5_sendAgain, prog_7_method_8_code, 1, none, [], [(0, .aload_n 0, 1), (1, .getfield 54, 3), (4, .iconst 1, 1), (5, .if_icmp .ne 47, 3), (8, .aload_n 0, 1), (9, .getfield 24, 3), (12, .iconst 1, 1), (13, .aload_n 0, 1), (14, .getfield 20, 3), (17, .aload_n 0, 1), (18, .getfield 36, 3), (21, .getfield 102, 3), (24, .aload_n 0, 1), (25, .getfield 92, 3), (28, .iconst (-1), 1), (29, .ixor, 1), (30, .iand, 1), (31, .aload_n 0, 1), (32, .getfield 36, 3), (35, .getfield 105, 3), (38, .aload_n 0, 1), (39, .getfield 57, 3), (42, .aload_n 0, 1), (43, .getfield 60, 3), (46, .invokevirtual 108, 3), (49, .goto 70, 3), (52, .aload_n 0, 1), (53, .getfield 54, 3), (56, .iconst 2, 1), (57, .if_icmp .ne 35, 3), (60, .aload_n 0, 1), (61, .getfield 24, 3), (64, .iconst 3, 1), (65, .aload_n 0, 1), (66, .getfield 20, 3), (69, .aload_n 0, 1), (70, .invokevirtual 131, 3), (73, .aload_n 0, 1), (74, .getfield 72, 3), (77, .iconst (-1), 1), (78, .ixor, 1), (79, .iand, 1), (80, .aload_n 0, 1), (81, .getfield 57, 3), (84, .iconst 0, 1), (85, .iconst 0, 1), (86, .invokevirtual 108, 3), (89, .goto 30, 3), (92, .aload_n 0, 1), (93, .getfield 54, 3), (96, .iconst 3, 1), (97, .if_icmp .ne 22, 3), (100, .aload_n 0, 1), (101, .getfield 43, 3), (104, .aload_n 0, 1), (105, .getfield 57, 3), (108, .aload_n 0, 1), (109, .getfield 60, 3), (112, .invokevirtual 134, 3), (115, .aload_n 0, 1), (116, .invokevirtual 137, 3), (119, .aload_n 0, 1), (120, .getfield 36, 3), (123, .invokevirtual 140, 3), (126, .return_, 1)], [(54, 5, 6), (24, 5, 1), (20, 5, 0), (36, 5, 3), (102, 4, 3), (92, 5, 9), (105, 4, 2), (57, 5, 7), (60, 5, 8), (72, 5, 12), (43, 5, 4)], [(108, my_X0_sendEach, 6, 10, 2, 0, 0), (131, my_X5_historyVoters, 0, 15, 2, 0, 0), (134, my_X8_sendAgain, 2, 18, 3, 0, 0), (137, my_X5_sendStageAgain, 0, 15, 3, 0, 0), (140, my_X4_sendStep, 0, 14, 3, 0, 0)], [], [], [395, 388, 387, 390, 294, 400, 292, 397, 399, 403, 392, 1034, 1035, 1036, 86, 1125, 1127, 11, 90, 1132, 1133, 1134, 92, 1137, 1139, 12, 90, 1141, 1101, 1102, 91])
theorem ok_X5_sendAgain : mt_ok M_X5_sendAgain = true := by decide +kernel
theorem cw_X5_sendAgain : Cond.code (mt_y M_X5_sendAgain) (mt_b M_X5_sendAgain) (mt_l M_X5_sendAgain) (mt_r M_X5_sendAgain) ∈ lw_tbl := List.mem_of_getElem? (i := 1124) (by decide +kernel)
end
section
/-! ===== records of methods ===== -/
def M_X5_sendStageAgain : MT := (my_X5_sendStageAgain, prog_7_method_9_code, 1, none, [], [(0, .aload_n 0, 1), (1, .getfield 50, 3), (4, .getfield 126, 3), (7, .iconst 1, 1), (8, .if_icmp .ne 45, 3), (11, .aload_n 0, 1), (12, .getfield 24, 3), (15, .bipush 9, 2), (17, .aload_n 0, 1), (18, .getfield 20, 3), (21, .aload_n 0, 1), (22, .getfield 60, 3), (25, .aload_n 0, 1), (26, .getfield 50, 3), (29, .getfield 143, 3), (32, .iconst (-1), 1), (33, .ixor, 1), (34, .iand, 1), (35, .aload_n 0, 1), (36, .getfield 57, 3), (39, .aload_n 0, 1), (40, .getfield 50, 3), (43, .getfield 129, 3), (46, .iconst 0, 1), (47, .invokevirtual 108, 3), (50, .goto 106, 3), (53, .aload_n 0, 1), (54, .getfield 50, 3), (57, .getfield 126, 3), (60, .iconst 2, 1), (61, .if_icmp .ne 48, 3), (64, .aload_n 0, 1), (65, .getfield 24, 3), (68, .bipush 11, 2), (70, .aload_n 0, 1), (71, .getfield 20, 3), (74, .aload_n 0, 1), (75, .getfield 36, 3), (78, .getfield 102, 3), (81, .aload_n 0, 1), (82, .getfield 50, 3), (85, .getfield 146, 3), (88, .iconst (-1), 1), (89, .ixor, 1), (90, .iand, 1), (91, .aload_n 0, 1), (92, .getfield 36, 3), (95, .getfield 105, 3), (98, .aload_n 0, 1), (99, .getfield 57, 3), (102, .iconst 0, 1), (103, .invokevirtual 108, 3), (106, .goto 50, 3), (109, .aload_n 0, 1), (110, .getfield 50, 3), (113, .getfield 126, 3), (116, .iconst 3, 1), (117, .if_icmp .ne 39, 3), (120, .aload_n 0, 1), (121, .getfield 24, 3), (124, .bipush 13, 2), (126, .aload_n 0, 1), (127, .getfield 20, 3), (130, .aload_n 0, 1), (131, .getfield 50, 3), (134, .getfield 149, 3), (137, .aload_n 0, 1), (138, .getfield 50, 3), (141, .getfield 152, 3), (144, .iconst (-1), 1), (145, .ixor, 1), (146, .iand, 1), (147, .aload_n 0, 1), (148, .getfield 57, 3), (151, .iconst 0, 1), (152, .iconst 0, 1), (153, .invokevirtual 108, 3), (156, .return_, 1)], [(50, 5, 5), (126, 1, 0), (24, 5, 1), (20, 5, 0), (60, 5, 8), (143, 1, 2), (57, 5, 7), (129, 1, 1), (36, 5, 3), (102, 4, 3), (146, 1, 3), (105, 4, 2), (149, 1, 4), (152, 1, 5)], [(108, my_X0_sendEach, 6, 10, 2, 0, 0)], [], [], [394, 363, 388, 387, 399, 367, 397, 365, 390, 294, 369, 292, 371, 373, 1034, 1035, 1036, 86])
theorem ok_X5_sendStageAgain : mt_ok M_X5_sendStageAgain = true := by decide +kernel
theorem cw_X5_sendStageAgain : Cond.code (mt_y M_X5_sendStageAgain) (mt_b M_X5_sendStageAgain) (mt_l M_X5_sendStageAgain) (mt_r M_X5_sendStageAgain) ∈ lw_tbl := List.mem_of_getElem? (i := 1140) (by decide +kernel)
def M_X5_receive : MT := (my_X5_receive, prog_7_method_10_code, 2, none, [], [(0, .aload_n 1, 1), (1, .getfield 155, 3), (4, .tableswitch 315 2 24 #[108, 315, 116, 315, 124, 315, 157, 315, 187, 315, 195, 315, 203, 211, 315, 230, 315, 241, 315, 252, 315, 286, 211], 108), (112, .aload_n 0, 1), (113, .aload_n 1, 1), (114, .invokevirtual 160, 3), (117, .goto 202, 3), (120, .aload_n 0, 1), (121, .aload_n 1, 1), (122, .invokevirtual 164, 3), (125, .goto 194, 3), (128, .aload_n 0, 1), (129, .aload_n 1, 1), (130, .getfield 167, 3), (133, .invokevirtual 170, 3), (136, .ifCond .eq 183, 3), (139, .aload_n 0, 1), (140, .getfield 43, 3), (143, .aload_n 1, 1), (144, .getfield 174, 3), (147, .aload_n 1, 1), (148, .getfield 177, 3), (151, .aload_n 0, 1), (152, .getfield 60, 3), (155, .invokevirtual 180, 3), (158, .goto 161, 3), (161, .aload_n 0, 1), (162, .getfield 54, 3), (165, .iconst 3, 1), (166, .if_icmp .ne 153, 3), (169, .aload_n 0, 1), (170, .getfield 43, 3), (173, .aload_n 1, 1), (174, .getfield 167, 3), (177, .aload_n 1, 1), (178, .getfield 174, 3), (181, .aload_n 1, 1), (182, .getfield 177, 3), (185, .invokevirtual 184, 3), (188, .goto 131, 3), (191, .aload_n 0, 1), (192, .aload_n 1, 1), (193, .invokevirtual 187, 3), (196, .goto 123, 3), (199, .aload_n 0, 1), (200, .aload_n 1, 1), (201, .invokevirtual 190, 3), (204, .goto 115, 3), (207, .aload_n 0, 1), (208, .aload_n 1, 1), (209, .invokevirtual 193, 3), (212, .goto 107, 3), (215, .aload_n 1, 1), (216, .getfield 167, 3), (219, .aload_n 0, 1), (220, .getfield 57, 3), (223, .if_icmp .ne 96, 3), (226, .aload_n 0, 1), (227, .iconst 0, 1), (228, .putfield 54, 3), (231, .goto 88, 3), (234, .aload_n 0, 1), (235, .getfield 36, 3), (238, .aload_n 1, 1), (239, .invokevirtual 196, 3), (242, .goto 77, 3), (245, .aload_n 0, 1), (246, .getfield 36, 3), (249, .aload_n 1, 1), (250, .invokevirtual 199, 3), (253, .goto 66, 3), (256, .aload_n 0, 1), (257, .getfield 36, 3), (260, .aload_n 1, 1), (261, .invokevirtual 202, 3), (264, .ifCond .eq 55, 3), (267, .aload_n 0, 1), (268, .aload_n 0, 1), (269, .getfield 36, 3), (272, .getfield 105, 3), (275, .iconst 1, 1), (276, .iadd, 1), (277, .aload_n 0, 1), (278, .getfield 36, 3), (281, .getfield 206, 3), (284, .invokevirtual 209, 3), (287, .goto 32, 3), (290, .aload_n 0, 1), (291, .getfield 36, 3), (294, .getfield 105, 3), (297, .aload_n 1, 1), (298, .getfield 167, 3), (301, .if_icmp .ge 18, 3), (304, .aload_n 0, 1), (305, .aload_n 1, 1), (306, .getfield 167, 3), (309, .aload_n 1, 1), (310, .getfield 174, 3), (313, .invokevirtual 209, 3), (316, .goto 3, 3), (319, .return_, 1)], [(155, 6, 0), (167, 6, 3), (43, 5, 4), (174, 6, 4), (177, 6, 1), (60, 5, 8), (54, 5, 6), (57, 5, 7), (36, 5, 3), (105, 4, 2), (206, 4, 6)], [(160, my_X5_receiveMatched, 1, 15, 4, 0, 0), (164, my_X5_receiveAsked, 1, 15, 4, 0, 0), (170, my_X5_leadsIn, 1, 15, 1, 0, 0), (180, my_X8_noteVoter, 3, 18, 3, 0, 0), (184, my_X8_noteCopy, 3, 18, 3, 0, 0), (187, my_X5_receiveKnown, 1, 15, 3, 0, 0), (190, my_X5_receiveCollected, 1, 15, 4, 0, 0), (193, my_X5_receiveReleased, 1, 15, 1, 0, 0), (196, my_X4_receiveStopped, 1, 14, 4, 0, 0), (199, my_X4_receiveSeeded, 1, 14, 4, 0, 0), (202, my_X4_receivePicked, 1, 14, 3, 0, 0), (209, my_X5_goOn, 2, 15, 5, 0, 0)], [], [], [142, 162, 392, 170, 150, 399, 395, 397, 390, 292, 300, 1168, 1170, 14, 90, 1197, 1199, 16, 90, 1212, 1214, 18, 90, 1216, 1217, 1218, 92, 1221, 1222, 1223, 92, 1226, 1228, 19, 90, 1230, 1232, 20, 90, 1234, 1236, 21, 90, 1238, 1239, 1240, 91, 1246, 1247, 1248, 91, 1250, 1251, 1252, 91, 1254, 1256, 22, 90])
theorem ok_X5_receive : mt_ok M_X5_receive = true := by decide +kernel
theorem cw_X5_receive : Cond.code (mt_y M_X5_receive) (mt_b M_X5_receive) (mt_l M_X5_receive) (mt_r M_X5_receive) ∈ lw_tbl := List.mem_of_getElem? (i := 1167) (by decide +kernel)
def M_X5_leadsIn : MT := (my_X5_leadsIn, prog_7_method_11_code, 2, (some .boolean), [], [(0, .aload_n 0, 1), (1, .getfield 54, 3), (4, .iconst 3, 1), (5, .if_icmp .ne 15, 3), (8, .aload_n 0, 1), (9, .getfield 57, 3), (12, .iload_n 1, 1), (13, .if_icmp .ne 7, 3), (16, .iconst 1, 1), (17, .goto 4, 3), (20, .iconst 0, 1), (21, .ireturn, 1)], [(54, 5, 6), (57, 5, 7)], [], [], [], [395, 397])
theorem ok_X5_leadsIn : mt_ok M_X5_leadsIn = true := by decide +kernel
theorem cw_X5_leadsIn : Cond.code (mt_y M_X5_leadsIn) (mt_b M_X5_leadsIn) (mt_l M_X5_leadsIn) (mt_r M_X5_leadsIn) ∈ lw_tbl := List.mem_of_getElem? (i := 1215) (by decide +kernel)
def M_X5_receiveMatched : MT := (my_X5_receiveMatched, prog_7_method_12_code, 3, none, [], [(0, .aload_n 0, 1), (1, .getfield 54, 3), (4, .iconst 1, 1), (5, .if_icmp .ne 28, 3), (8, .aload_n 1, 1), (9, .getfield 174, 3), (12, .aload_n 0, 1), (13, .getfield 57, 3), (16, .if_icmp .ne 17, 3), (19, .aload_n 1, 1), (20, .getfield 167, 3), (23, .aload_n 0, 1), (24, .getfield 36, 3), (27, .getfield 105, 3), (30, .if_icmp .eq 4, 3), (33, .return_, 1), (34, .aload_n 0, 1), (35, .dup, 1), (36, .getfield 92, 3), (39, .iconst 1, 1), (40, .aload_n 1, 1), (41, .getfield 177, 3), (44, .ishl, 1), (45, .ior, 1), (46, .putfield 92, 3), (49, .aload_n 0, 1), (50, .aload_n 0, 1), (51, .getfield 95, 3), (54, .aload_n 1, 1), (55, .getfield 212, 3), (58, .invokestatic 215, 3), (61, .putfield 95, 3), (64, .aload_n 0, 1), (65, .getfield 11, 3), (68, .aload_n 1, 1), (69, .getfield 221, 3), (72, .invokestatic 224, 3), (75, .aload_n 0, 1), (76, .getfield 92, 3), (79, .aload_n 0, 1), (80, .getfield 36, 3), (83, .getfield 102, 3), (86, .iand, 1), (87, .invokestatic 228, 3), (90, .ifCond .ne 4, 3), (93, .return_, 1), (94, .aload_n 0, 1), (95, .getfield 11, 3), (98, .aload_n 0, 1), (99, .getfield 95, 3), (102, .invokestatic 231, 3), (105, .aload_n 0, 1), (106, .iconst 2, 1), (107, .putfield 54, 3), (110, .aload_n 0, 1), (111, .invokevirtual 131, 3), (114, .istore_n 2, 1), (115, .iload_n 2, 1), (116, .ifCond .ne 10, 3), (119, .aload_n 0, 1), (120, .invokevirtual 234, 3), (123, .goto 22, 3), (126, .aload_n 0, 1), (127, .getfield 24, 3), (130, .iconst 3, 1), (131, .aload_n 0, 1), (132, .getfield 20, 3), (135, .iload_n 2, 1), (136, .aload_n 0, 1), (137, .getfield 57, 3), (140, .iconst 0, 1), (141, .iconst 0, 1), (142, .invokevirtual 108, 3), (145, .return_, 1)], [(54, 5, 6), (174, 6, 4), (57, 5, 7), (167, 6, 3), (36, 5, 3), (105, 4, 2), (92, 5, 9), (177, 6, 1), (95, 5, 10), (212, 6, 5), (11, 5, 11), (221, 6, 8), (102, 4, 3), (24, 5, 1), (20, 5, 0)], [(215, Lib.Math.max.name, 2, 8, 0, 0, 0), (224, my_X7_addAll, 2, 1, 1, 0, 0), (228, my_X11_areTwo, 1, 4, 2, 0, 0), (231, my_X7_dropBelow, 2, 1, 2, 0, 0), (131, my_X5_historyVoters, 0, 15, 2, 0, 0), (234, my_X5_lead, 0, 15, 3, 0, 0), (108, my_X0_sendEach, 6, 10, 2, 0, 0)], [], [], [395, 170, 397, 162, 390, 292, 400, 150, 401, 177, 402, 190, 294, 388, 387, 1172, 658, 107, 659, 1173, 1174, 97, 1177, 85, 1179, 1180, 97, 1125, 1127, 11, 90, 1185, 1187, 15, 90, 1034, 1035, 1036, 86])
theorem ok_X5_receiveMatched : mt_ok M_X5_receiveMatched = true := by decide +kernel
theorem cw_X5_receiveMatched : Cond.code (mt_y M_X5_receiveMatched) (mt_b M_X5_receiveMatched) (mt_l M_X5_receiveMatched) (mt_r M_X5_receiveMatched) ∈ lw_tbl := List.mem_of_getElem? (i := 1171) (by decide +kernel)
def M_X5_receiveAsked : MT := (my_X5_receiveAsked, prog_7_method_13_code, 3, none, [], [(0, .aload_n 0, 1), (1, .getfield 54, 3), (4, .iconst 2, 1), (5, .if_icmp .ne 14, 3), (8, .aload_n 1, 1), (9, .getfield 167, 3), (12, .aload_n 0, 1), (13, .getfield 57, 3), (16, .if_icmp .eq 4, 3), (19, .return_, 1), (20, .aload_n 0, 1), (21, .dup, 1), (22, .getfield 72, 3), (25, .iconst 1, 1), (26, .aload_n 1, 1), (27, .getfield 177, 3), (30, .ishl, 1), (31, .ior, 1), (32, .putfield 72, 3), (35, .aload_n 0, 1), (36, .aload_n 0, 1), (37, .getfield 75, 3), (40, .aload_n 1, 1), (41, .getfield 174, 3), (44, .invokestatic 215, 3), (47, .putfield 75, 3), (50, .iconst 0, 1), (51, .istore_n 2, 1), (52, .iload_n 2, 1), (53, .bipush 16, 2), (55, .if_icmp .ge 30, 3), (58, .aload_n 0, 1), (59, .getfield 17, 3), (62, .iload_n 2, 1), (63, .aload_n 0, 1), (64, .getfield 17, 3), (67, .iload_n 2, 1), (68, .iaload, 1), (69, .aload_n 1, 1), (70, .getfield 221, 3), (73, .iload_n 2, 1), (74, .iaload, 1), (75, .invokestatic 237, 3), (78, .iastore, 1), (79, .iinc 2 1, 3), (82, .goto (-30), 3), (85, .aload_n 0, 1), (86, .invokevirtual 242, 3), (89, .ifCond .eq 7, 3), (92, .aload_n 0, 1), (93, .invokevirtual 234, 3), (96, .return_, 1)], [(54, 5, 6), (167, 6, 3), (57, 5, 7), (72, 5, 12), (177, 6, 1), (75, 5, 13), (174, 6, 4), (17, 5, 14), (221, 6, 8)], [(215, Lib.Math.max.name, 2, 8, 0, 0, 0), (237, my_X10_later, 2, 1, 1, 0, 0), (242, my_X5_hasMajorities, 0, 15, 3, 0, 0), (234, my_X5_lead, 0, 15, 3, 0, 0)], [], [], [395, 162, 397, 403, 150, 404, 170, 405, 190, 1172, 658, 107, 659, 1201, 1202, 95, 1205, 1207, 17, 90, 1185, 1187, 15, 90])
theorem ok_X5_receiveAsked : mt_ok M_X5_receiveAsked = true := by decide +kernel
theorem cw_X5_receiveAsked : Cond.code (mt_y M_X5_receiveAsked) (mt_b M_X5_receiveAsked) (mt_l M_X5_receiveAsked) (mt_r M_X5_receiveAsked) ∈ lw_tbl := List.mem_of_getElem? (i := 1200) (by decide +kernel)
def M_X5_lead : MT := (my_X5_lead, prog_7_method_14_code, 3, none, [], [(0, .aload_n 0, 1), (1, .iconst 3, 1), (2, .putfield 54, 3), (5, .aload_n 0, 1), (6, .aload_n 0, 1), (7, .getfield 75, 3), (10, .putfield 84, 3), (13, .iconst 0, 1), (14, .istore_n 1, 1), (15, .iload_n 1, 1), (16, .bipush 16, 2), (18, .if_icmp .ge 33, 3), (21, .aload_n 0, 1), (22, .getfield 17, 3), (25, .iload_n 1, 1), (26, .iaload, 1), (27, .iconst (-1), 1), (28, .if_icmp .eq 17, 3), (31, .aload_n 0, 1), (32, .aload_n 0, 1), (33, .getfield 84, 3), (36, .iload_n 1, 1), (37, .iconst 1, 1), (38, .iadd, 1), (39, .invokestatic 215, 3), (42, .putfield 84, 3), (45, .iinc 1 1, 3), (48, .goto (-33), 3), (51, .aload_n 0, 1), (52, .aload_n 0, 1), (53, .getfield 84, 3), (56, .putfield 87, 3), (59, .iconst 0, 1), (60, .istore_n 1, 1), (61, .iload_n 1, 1), (62, .bipush 16, 2), (64, .if_icmp .ge 91, 3), (67, .iload_n 1, 1), (68, .aload_n 0, 1), (69, .getfield 84, 3), (72, .if_icmp .ge 83, 3), (75, .iload_n 1, 1), (76, .aload_n 0, 1), (77, .getfield 75, 3), (80, .if_icmp .ge 14, 3), (83, .aload_n 0, 1), (84, .getfield 43, 3), (87, .iload_n 1, 1), (88, .invokevirtual 246, 3), (91, .goto 58, 3), (94, .aload_n 0, 1), (95, .getfield 17, 3), (98, .iload_n 1, 1), (99, .iaload, 1), (100, .iconst (-1), 1), (101, .if_icmp .ne 7, 3), (104, .iconst 0, 1), (105, .goto 12, 3), (108, .aload_n 0, 1), (109, .getfield 17, 3), (112, .iload_n 1, 1), (113, .iaload, 1), (114, .invokestatic 250, 3), (117, .istore_n 2, 1), (118, .aload_n 0, 1), (119, .getfield 43, 3), (122, .iload_n 1, 1), (123, .iload_n 2, 1), (124, .invokevirtual 114, 3), (127, .aload_n 0, 1), (128, .getfield 24, 3), (131, .iconst 5, 1), (132, .aload_n 0, 1), (133, .getfield 20, 3), (136, .aload_n 0, 1), (137, .getfield 60, 3), (140, .aload_n 0, 1), (141, .getfield 57, 3), (144, .iload_n 1, 1), (145, .iload_n 2, 1), (146, .invokevirtual 108, 3), (149, .iinc 1 1, 3), (152, .goto (-91), 3), (155, .return_, 1)], [(54, 5, 6), (75, 5, 13), (84, 5, 15), (17, 5, 14), (87, 5, 16), (43, 5, 4), (24, 5, 1), (20, 5, 0), (60, 5, 8), (57, 5, 7)], [(215, Lib.Math.max.name, 2, 8, 0, 0, 0), (246, my_X8_settle, 1, 18, 2, 0, 0), (250, my_X10_valueOf, 1, 1, 1, 0, 0), (114, my_X8_put, 2, 18, 2, 0, 0), (108, my_X0_sendEach, 6, 10, 2, 0, 0)], [], [], [395, 404, 406, 405, 407, 392, 388, 387, 399, 397, 1172, 658, 107, 659, 1189, 1190, 1191, 92, 1193, 1194, 95, 1055, 1056, 1057, 92, 1034, 1035, 1036, 86])
theorem ok_X5_lead : mt_ok M_X5_lead = true := by decide +kernel
theorem cw_X5_lead : Cond.code (mt_y M_X5_lead) (mt_b M_X5_lead) (mt_l M_X5_lead) (mt_r M_X5_lead) ∈ lw_tbl := List.mem_of_getElem? (i := 1188) (by decide +kernel)
end
section
/-! ===== records of methods ===== -/
def M_X5_receiveKnown : MT := (my_X5_receiveKnown, prog_7_method_15_code, 2, none, [], [(0, .aload_n 0, 1), (1, .aload_n 1, 1), (2, .getfield 167, 3), (5, .invokevirtual 170, 3), (8, .ifCond .eq 28, 3), (11, .aload_n 0, 1), (12, .getfield 50, 3), (15, .getfield 126, 3), (18, .iconst 1, 1), (19, .if_icmp .ne 17, 3), (22, .aload_n 1, 1), (23, .getfield 174, 3), (26, .aload_n 0, 1), (27, .getfield 50, 3), (30, .getfield 129, 3), (33, .if_icmp .eq 4, 3), (36, .return_, 1), (37, .aload_n 0, 1), (38, .getfield 50, 3), (41, .dup, 1), (42, .getfield 143, 3), (45, .iconst 1, 1), (46, .aload_n 1, 1), (47, .getfield 177, 3), (50, .ishl, 1), (51, .ior, 1), (52, .putfield 143, 3), (55, .aload_n 0, 1), (56, .getfield 50, 3), (59, .getfield 143, 3), (62, .aload_n 0, 1), (63, .getfield 60, 3), (66, .invokestatic 254, 3), (69, .ifCond .eq 43, 3), (72, .aload_n 0, 1), (73, .getfield 50, 3), (76, .iconst 2, 1), (77, .putfield 126, 3), (80, .aload_n 0, 1), (81, .getfield 24, 3), (84, .bipush 11, 2), (86, .aload_n 0, 1), (87, .getfield 20, 3), (90, .aload_n 0, 1), (91, .getfield 36, 3), (94, .getfield 102, 3), (97, .aload_n 0, 1), (98, .getfield 36, 3), (101, .getfield 105, 3), (104, .aload_n 0, 1), (105, .getfield 57, 3), (108, .iconst 0, 1), (109, .invokevirtual 108, 3), (112, .return_, 1)], [(167, 6, 3), (50, 5, 5), (126, 1, 0), (174, 6, 4), (129, 1, 1), (143, 1, 2), (177, 6, 1), (60, 5, 8), (24, 5, 1), (20, 5, 0), (36, 5, 3), (102, 4, 3), (105, 4, 2), (57, 5, 7)], [(170, my_X5_leadsIn, 1, 15, 1, 0, 0), (254, my_X11_isMajority, 2, 4, 2, 0, 0), (108, my_X0_sendEach, 6, 10, 2, 0, 0)], [], [], [162, 394, 363, 170, 365, 367, 150, 399, 388, 387, 390, 294, 292, 397, 1212, 1214, 18, 90, 1210, 85, 1034, 1035, 1036, 86])
theorem ok_X5_receiveKnown : mt_ok M_X5_receiveKnown = true := by decide +kernel
theorem cw_X5_receiveKnown : Cond.code (mt_y M_X5_receiveKnown) (mt_b M_X5_receiveKnown) (mt_l M_X5_receiveKnown) (mt_r M_X5_receiveKnown) ∈ lw_tbl := List.mem_of_getElem? (i := 1229) (by decide +kernel)
def M_X5_receiveCollected : MT := (my_X5_receiveCollected, prog_7_method_16_code, 2, none, [], [(0, .aload_n 0, 1), (1, .aload_n 1, 1), (2, .getfield 174, 3), (5, .invokevirtual 170, 3), (8, .ifCond .eq 28, 3), (11, .aload_n 0, 1), (12, .getfield 50, 3), (15, .getfield 126, 3), (18, .iconst 2, 1), (19, .if_icmp .ne 17, 3), (22, .aload_n 1, 1), (23, .getfield 167, 3), (26, .aload_n 0, 1), (27, .getfield 36, 3), (30, .getfield 105, 3), (33, .if_icmp .eq 4, 3), (36, .return_, 1), (37, .aload_n 0, 1), (38, .getfield 50, 3), (41, .dup, 1), (42, .getfield 146, 3), (45, .iconst 1, 1), (46, .aload_n 1, 1), (47, .getfield 177, 3), (50, .ishl, 1), (51, .ior, 1), (52, .putfield 146, 3), (55, .aload_n 0, 1), (56, .getfield 50, 3), (59, .getfield 146, 3), (62, .invokestatic 228, 3), (65, .ifCond .eq 55, 3), (68, .aload_n 0, 1), (69, .getfield 50, 3), (72, .iconst 3, 1), (73, .putfield 126, 3), (76, .aload_n 0, 1), (77, .getfield 50, 3), (80, .aload_n 0, 1), (81, .invokevirtual 131, 3), (84, .putfield 149, 3), (87, .aload_n 0, 1), (88, .getfield 11, 3), (91, .invokestatic 98, 3), (94, .aload_n 0, 1), (95, .getfield 24, 3), (98, .bipush 13, 2), (100, .aload_n 0, 1), (101, .getfield 20, 3), (104, .aload_n 0, 1), (105, .getfield 50, 3), (108, .getfield 149, 3), (111, .aload_n 0, 1), (112, .getfield 57, 3), (115, .iconst 0, 1), (116, .iconst 0, 1), (117, .invokevirtual 108, 3), (120, .return_, 1)], [(174, 6, 4), (50, 5, 5), (126, 1, 0), (167, 6, 3), (36, 5, 3), (105, 4, 2), (146, 1, 3), (177, 6, 1), (149, 1, 4), (11, 5, 11), (24, 5, 1), (20, 5, 0), (57, 5, 7)], [(170, my_X5_leadsIn, 1, 15, 1, 0, 0), (228, my_X11_areTwo, 1, 4, 2, 0, 0), (131, my_X5_historyVoters, 0, 15, 2, 0, 0), (98, my_X7_empty, 1, 1, 3, 0, 0), (108, my_X0_sendEach, 6, 10, 2, 0, 0)], [], [], [170, 394, 363, 162, 390, 292, 369, 150, 371, 402, 388, 387, 397, 1212, 1214, 18, 90, 1177, 85, 1125, 1127, 11, 90, 898, 552, 97, 1034, 1035, 1036, 86])
theorem ok_X5_receiveCollected : mt_ok M_X5_receiveCollected = true := by decide +kernel
theorem cw_X5_receiveCollected : Cond.code (mt_y M_X5_receiveCollected) (mt_b M_X5_receiveCollected) (mt_l M_X5_receiveCollected) (mt_r M_X5_receiveCollected) ∈ lw_tbl := List.mem_of_getElem? (i := 1233) (by decide +kernel)
def M_X5_receiveReleased : MT := (my_X5_receiveReleased, prog_7_method_17_code, 2, none, [], [(0, .aload_n 0, 1), (1, .getfield 50, 3), (4, .getfield 126, 3), (7, .iconst 3, 1), (8, .if_icmp .ne 32, 3), (11, .aload_n 1, 1), (12, .getfield 167, 3), (15, .aload_n 0, 1), (16, .getfield 57, 3), (19, .if_icmp .ne 21, 3), (22, .aload_n 0, 1), (23, .getfield 50, 3), (26, .dup, 1), (27, .getfield 152, 3), (30, .iconst 1, 1), (31, .aload_n 1, 1), (32, .getfield 177, 3), (35, .ishl, 1), (36, .ior, 1), (37, .putfield 152, 3), (40, .return_, 1)], [(50, 5, 5), (126, 1, 0), (167, 6, 3), (57, 5, 7), (152, 1, 5), (177, 6, 1)], [], [], [], [394, 363, 162, 397, 373, 150])
theorem ok_X5_receiveReleased : mt_ok M_X5_receiveReleased = true := by decide +kernel
theorem cw_X5_receiveReleased : Cond.code (mt_y M_X5_receiveReleased) (mt_b M_X5_receiveReleased) (mt_l M_X5_receiveReleased) (mt_r M_X5_receiveReleased) ∈ lw_tbl := List.mem_of_getElem? (i := 1237) (by decide +kernel)
def M_X5_goOn : MT := (my_X5_goOn, prog_7_method_18_code, 3, none, [], [(0, .aload_n 0, 1), (1, .getfield 36, 3), (4, .iload_n 1, 1), (5, .putfield 105, 3), (8, .aload_n 0, 1), (9, .getfield 36, 3), (12, .iload_n 2, 1), (13, .putfield 102, 3), (16, .aload_n 0, 1), (17, .getfield 36, 3), (20, .iconst 0, 1), (21, .putfield 257, 3), (24, .aload_n 0, 1), (25, .getfield 54, 3), (28, .iconst 1, 1), (29, .if_icmp .ne 7, 3), (32, .aload_n 0, 1), (33, .invokevirtual 69, 3), (36, .aload_n 0, 1), (37, .getfield 50, 3), (40, .iconst 0, 1), (41, .putfield 146, 3), (44, .return_, 1)], [(36, 5, 3), (105, 4, 2), (102, 4, 3), (257, 4, 4), (54, 5, 6), (50, 5, 5), (146, 1, 3)], [(69, my_X5_forgetMatched, 0, 15, 4, 0, 0)], [], [], [390, 292, 294, 296, 395, 394, 369, 894, 896, 4, 90])
theorem ok_X5_goOn : mt_ok M_X5_goOn = true := by decide +kernel
theorem cw_X5_goOn : Cond.code (mt_y M_X5_goOn) (mt_b M_X5_goOn) (mt_l M_X5_goOn) (mt_r M_X5_goOn) ∈ lw_tbl := List.mem_of_getElem? (i := 1257) (by decide +kernel)
def M_X5_historyVoters : MT := (my_X5_historyVoters, prog_7_method_19_code, 5, (some .int), [], [(0, .iconst 0, 1), (1, .istore_n 1, 1), (2, .iconst 0, 1), (3, .istore_n 2, 1), (4, .iload_n 2, 1), (5, .bipush 10, 2), (7, .if_icmp .ge 66, 3), (10, .iconst 0, 1), (11, .istore_n 3, 1), (12, .iload_n 3, 1), (13, .bipush 32, 2), (15, .if_icmp .ge 52, 3), (18, .aload_n 0, 1), (19, .getfield 11, 3), (22, .iload_n 2, 1), (23, .iaload, 1), (24, .ifCond .eq 43, 3), (27, .iload_n 2, 1), (28, .bipush 32, 2), (30, .imul, 1), (31, .iload_n 3, 1), (32, .iadd, 1), (33, .istore 4, 2), (35, .iload_n 1, 1), (36, .aload_n 0, 1), (37, .getfield 11, 3), (40, .iload 4, 2), (42, .invokestatic 260, 3), (45, .ifCond .eq 13, 3), (48, .aload_n 0, 1), (49, .getfield 28, 3), (52, .iload 4, 2), (54, .iaload, 1), (55, .goto 4, 3), (58, .iconst 0, 1), (59, .ior, 1), (60, .istore_n 1, 1), (61, .iinc 3 1, 3), (64, .goto (-52), 3), (67, .iinc 2 1, 3), (70, .goto (-66), 3), (73, .iload_n 1, 1), (74, .ireturn, 1)], [(11, 5, 11), (28, 5, 2)], [(260, my_X7_has, 2, 1, 1, 0, 0)], [], [], [402, 389, 1129, 1130, 97])
theorem ok_X5_historyVoters : mt_ok M_X5_historyVoters = true := by decide +kernel
theorem cw_X5_historyVoters : Cond.code (mt_y M_X5_historyVoters) (mt_b M_X5_historyVoters) (mt_l M_X5_historyVoters) (mt_r M_X5_historyVoters) ∈ lw_tbl := List.mem_of_getElem? (i := 1128) (by decide +kernel)
def M_X5_hasMajorities : MT := (my_X5_hasMajorities, prog_7_method_20_code, 4, (some .boolean), [], [(0, .iconst 0, 1), (1, .istore_n 1, 1), (2, .iload_n 1, 1), (3, .bipush 10, 2), (5, .if_icmp .ge 68, 3), (8, .iconst 0, 1), (9, .istore_n 2, 1), (10, .iload_n 2, 1), (11, .bipush 32, 2), (13, .if_icmp .ge 54, 3), (16, .aload_n 0, 1), (17, .getfield 11, 3), (20, .iload_n 1, 1), (21, .iaload, 1), (22, .ifCond .eq 45, 3), (25, .iload_n 1, 1), (26, .bipush 32, 2), (28, .imul, 1), (29, .iload_n 2, 1), (30, .iadd, 1), (31, .istore_n 3, 1), (32, .aload_n 0, 1), (33, .getfield 11, 3), (36, .iload_n 3, 1), (37, .invokestatic 260, 3), (40, .ifCond .eq 21, 3), (43, .aload_n 0, 1), (44, .getfield 72, 3), (47, .aload_n 0, 1), (48, .getfield 28, 3), (51, .iload_n 3, 1), (52, .iaload, 1), (53, .invokestatic 254, 3), (56, .ifCond .ne 5, 3), (59, .iconst 0, 1), (60, .ireturn, 1), (61, .iinc 2 1, 3), (64, .goto (-54), 3), (67, .iinc 1 1, 3), (70, .goto (-68), 3), (73, .iconst 1, 1), (74, .ireturn, 1)], [(11, 5, 11), (72, 5, 12), (28, 5, 2)], [(260, my_X7_has, 2, 1, 1, 0, 0), (254, my_X11_isMajority, 2, 4, 2, 0, 0)], [], [], [402, 403, 389, 1129, 1130, 97, 1210, 85])
theorem ok_X5_hasMajorities : mt_ok M_X5_hasMajorities = true := by decide +kernel
theorem cw_X5_hasMajorities : Cond.code (mt_y M_X5_hasMajorities) (mt_b M_X5_hasMajorities) (mt_l M_X5_hasMajorities) (mt_r M_X5_hasMajorities) ∈ lw_tbl := List.mem_of_getElem? (i := 1208) (by decide +kernel)
def M_X5_tell : MT := (my_X5_tell, prog_7_method_21_code, 2, (some .int), [], [(0, .iload_n 1, 1), (1, .tableswitch 160 0 13 #[71, 76, 81, 86, 94, 102, 160, 160, 160, 160, 110, 118, 126, 134], 71), (72, .aload_n 0, 1), (73, .getfield 54, 3), (76, .ireturn, 1), (77, .aload_n 0, 1), (78, .getfield 57, 3), (81, .ireturn, 1), (82, .aload_n 0, 1), (83, .getfield 60, 3), (86, .ireturn, 1), (87, .aload_n 0, 1), (88, .getfield 36, 3), (91, .getfield 105, 3), (94, .ireturn, 1), (95, .aload_n 0, 1), (96, .getfield 36, 3), (99, .getfield 102, 3), (102, .ireturn, 1), (103, .aload_n 0, 1), (104, .getfield 11, 3), (107, .invokestatic 264, 3), (110, .ireturn, 1), (111, .aload_n 0, 1), (112, .getfield 50, 3), (115, .getfield 126, 3), (118, .ireturn, 1), (119, .aload_n 0, 1), (120, .getfield 36, 3), (123, .getfield 257, 3), (126, .ireturn, 1), (127, .aload_n 0, 1), (128, .getfield 36, 3), (131, .getfield 206, 3), (134, .ireturn, 1), (135, .aload_n 0, 1), (136, .getfield 50, 3), (139, .getfield 126, 3), (142, .iconst 3, 1), (143, .if_icmp .ne 13, 3), (146, .aload_n 0, 1), (147, .getfield 50, 3), (150, .getfield 152, 3), (153, .goto 7, 3), (156, .aload_n 0, 1), (157, .getfield 72, 3), (160, .ireturn, 1), (161, .aload_n 0, 1), (162, .getfield 54, 3), (165, .iconst 3, 1), (166, .if_icmp .ne 11, 3), (169, .aload_n 0, 1), (170, .iload_n 1, 1), (171, .invokevirtual 268, 3), (174, .goto 4, 3), (177, .iconst 0, 1), (178, .ireturn, 1)], [(54, 5, 6), (57, 5, 7), (60, 5, 8), (36, 5, 3), (105, 4, 2), (102, 4, 3), (11, 5, 11), (50, 5, 5), (126, 1, 0), (257, 4, 4), (206, 4, 6), (152, 1, 5), (72, 5, 12)], [(264, my_X7_size, 1, 1, 2, 0, 0), (268, my_X5_tellOfLeading, 1, 15, 2, 0, 0)], [], [], [395, 397, 399, 390, 292, 294, 402, 394, 363, 296, 300, 373, 403, 1428, 1292, 97, 1429, 1431, 38, 90])
theorem ok_X5_tell : mt_ok M_X5_tell = true := by decide +kernel
theorem cw_X5_tell : Cond.code (mt_y M_X5_tell) (mt_b M_X5_tell) (mt_l M_X5_tell) (mt_r M_X5_tell) ∈ lw_tbl := List.mem_of_getElem? (i := 1427) (by decide +kernel)
def M_X5_tellOfLeading : MT := (my_X5_tellOfLeading, prog_7_method_22_code, 2, (some .int), [], [(0, .iload_n 1, 1), (1, .tableswitch 42 6 8 #[27, 32, 37], 27), (28, .aload_n 0, 1), (29, .getfield 84, 3), (32, .ireturn, 1), (33, .aload_n 0, 1), (34, .getfield 87, 3), (37, .ireturn, 1), (38, .aload_n 0, 1), (39, .getfield 75, 3), (42, .ireturn, 1), (43, .aload_n 0, 1), (44, .getfield 43, 3), (47, .invokevirtual 118, 3), (50, .ireturn, 1)], [(84, 5, 15), (87, 5, 16), (75, 5, 13), (43, 5, 4)], [(118, my_X8_firm, 0, 18, 1, 0, 0)], [], [], [406, 407, 404, 392, 1073, 1074, 1075, 92])
theorem ok_X5_tellOfLeading : mt_ok M_X5_tellOfLeading = true := by decide +kernel
theorem cw_X5_tellOfLeading : Cond.code (mt_y M_X5_tellOfLeading) (mt_b M_X5_tellOfLeading) (mt_l M_X5_tellOfLeading) (mt_r M_X5_tellOfLeading) ∈ lw_tbl := List.mem_of_getElem? (i := 1432) (by decide +kernel)
def M_X6_init : MT := (my_X6_init, prog_8_method_1_code, 1, none, [], [(0, .aload_n 0, 1), (1, .invokespecial 3, 3), (4, .aload_n 0, 1), (5, .bipush 16, 2), (7, .newarray .int, 2), (9, .putfield 9, 3), (12, .return_, 1)], [(9, 6, 8)], [(3, objectInit, 0, 3, 0, 0, 0)], [], [], [186, 136, 122, 123])
theorem ok_X6_init : mt_ok M_X6_init = true := by decide +kernel
theorem cw_X6_init : Cond.code (mt_y M_X6_init) (mt_b M_X6_init) (mt_l M_X6_init) (mt_r M_X6_init) ∈ lw_tbl := List.mem_of_getElem? (i := 135) (by decide +kernel)
def M_X6_takeLoadOf : MT := (my_X6_takeLoadOf, prog_8_method_2_code, 2, none, [], [(0, .aload_n 0, 1), (1, .aload_n 1, 1), (2, .getfield 15, 3), (5, .putfield 15, 3), (8, .aload_n 0, 1), (9, .aload_n 1, 1), (10, .getfield 19, 3), (13, .putfield 19, 3), (16, .aload_n 1, 1), (17, .getfield 9, 3), (20, .iconst 0, 1), (21, .aload_n 0, 1), (22, .getfield 9, 3), (25, .iconst 0, 1), (26, .bipush 16, 2), (28, .invokestatic 22, 3), (31, .return_, 1)], [(15, 6, 6), (19, 6, 7), (9, 6, 8)], [(22, arraycopyName, 5, 7, 0, 0, 0)], [], [], [178, 182, 186, 1390, 679, 108])
theorem ok_X6_takeLoadOf : mt_ok M_X6_takeLoadOf = true := by decide +kernel
theorem cw_X6_takeLoadOf : Cond.code (mt_y M_X6_takeLoadOf) (mt_b M_X6_takeLoadOf) (mt_l M_X6_takeLoadOf) (mt_r M_X6_takeLoadOf) ∈ lw_tbl := List.mem_of_getElem? (i := 1389) (by decide +kernel)
def M_X6_tell : MT := (my_X6_tell, prog_8_method_3_code, 2, (some .int), [], [(0, .iload_n 1, 1), (1, .tableswitch 87 0 7 #[47, 52, 57, 62, 67, 72, 77, 82], 47), (48, .aload_n 0, 1), (49, .getfield 28, 3), (52, .ireturn, 1), (53, .aload_n 0, 1), (54, .getfield 31, 3), (57, .ireturn, 1), (58, .aload_n 0, 1), (59, .getfield 34, 3), (62, .ireturn, 1), (63, .aload_n 0, 1), (64, .getfield 37, 3), (67, .ireturn, 1), (68, .aload_n 0, 1), (69, .getfield 40, 3), (72, .ireturn, 1), (73, .aload_n 0, 1), (74, .getfield 43, 3), (77, .ireturn, 1), (78, .aload_n 0, 1), (79, .invokevirtual 46, 3), (82, .ireturn, 1), (83, .aload_n 0, 1), (84, .getfield 15, 3), (87, .ireturn, 1), (88, .aload_n 0, 1), (89, .getfield 19, 3), (92, .ireturn, 1)], [(28, 6, 0), (31, 6, 1), (34, 6, 2), (37, 6, 3), (40, 6, 4), (43, 6, 5), (15, 6, 6), (19, 6, 7)], [(46, my_X6_loadSize, 0, 16, 3, 0, 0)], [], [], [137, 143, 152, 156, 164, 171, 178, 182, 1409, 1411, 37, 87])
theorem ok_X6_tell : mt_ok M_X6_tell = true := by decide +kernel
theorem cw_X6_tell : Cond.code (mt_y M_X6_tell) (mt_b M_X6_tell) (mt_l M_X6_tell) (mt_r M_X6_tell) ∈ lw_tbl := List.mem_of_getElem? (i := 1408) (by decide +kernel)
def M_X6_loadSize : MT := (my_X6_loadSize, prog_8_method_4_code, 1, (some .int), [], [(0, .aload_n 0, 1), (1, .getfield 28, 3), (4, .lookupswitch 60 #[(2, 44), (4, 52), (17, 44), (18, 44)], 44), (48, .aload_n 0, 1), (49, .getfield 9, 3), (52, .invokestatic 50, 3), (55, .ireturn, 1), (56, .aload_n 0, 1), (57, .getfield 9, 3), (60, .invokestatic 56, 3), (63, .ireturn, 1), (64, .iconst 0, 1), (65, .ireturn, 1)], [(28, 6, 0), (9, 6, 8)], [(50, my_X7_size, 1, 1, 2, 0, 0), (56, my_X10_votesIn, 1, 1, 1, 0, 0)], [], [], [137, 186, 1413, 1292, 97, 1414, 1415, 95])
theorem ok_X6_loadSize : mt_ok M_X6_loadSize = true := by decide +kernel
theorem cw_X6_loadSize : Cond.code (mt_y M_X6_loadSize) (mt_b M_X6_loadSize) (mt_l M_X6_loadSize) (mt_r M_X6_loadSize) ∈ lw_tbl := List.mem_of_getElem? (i := 1412) (by decide +kernel)
def M_X7_has : MT := (my_X7_has, prog_9_method_2_code, 2, (some .boolean), [], [(0, .iload_n 1, 1), (1, .ifCond .lt 30, 3), (4, .iload_n 1, 1), (5, .sipush 300, 3), (8, .if_icmp .ge 23, 3), (11, .aload_n 0, 1), (12, .iload_n 1, 1), (13, .bipush 32, 2), (15, .idiv, 1), (16, .iaload, 1), (17, .iload_n 1, 1), (18, .bipush 32, 2), (20, .irem, 1), (21, .ishr, 1), (22, .iconst 1, 1), (23, .iand, 1), (24, .ifCond .eq 7, 3), (27, .iconst 1, 1), (28, .goto 4, 3), (31, .iconst 0, 1), (32, .ireturn, 1)], [], [], [], [], [])
theorem ok_X7_has : mt_ok M_X7_has = true := by decide +kernel
theorem cw_X7_has : Cond.code (mt_y M_X7_has) (mt_b M_X7_has) (mt_l M_X7_has) (mt_r M_X7_has) ∈ lw_tbl := List.mem_of_getElem? (i := 1131) (by decide +kernel)
def M_X7_add : MT := (my_X7_add, prog_9_method_3_code, 2, none, [], [(0, .iload_n 1, 1), (1, .ifCond .lt 25, 3), (4, .iload_n 1, 1), (5, .sipush 300, 3), (8, .if_icmp .ge 18, 3), (11, .aload_n 0, 1), (12, .iload_n 1, 1), (13, .bipush 32, 2), (15, .idiv, 1), (16, .dup2, 1), (17, .iaload, 1), (18, .iconst 1, 1), (19, .iload_n 1, 1), (20, .bipush 32, 2), (22, .irem, 1), (23, .ishl, 1), (24, .ior, 1), (25, .iastore, 1), (26, .return_, 1)], [], [], [], [], [])
theorem ok_X7_add : mt_ok M_X7_add = true := by decide +kernel
theorem cw_X7_add : Cond.code (mt_y M_X7_add) (mt_b M_X7_add) (mt_l M_X7_add) (mt_r M_X7_add) ∈ lw_tbl := List.mem_of_getElem? (i := 1298) (by decide +kernel)
end
section
/-! ===== records of methods ===== -/
def M_X7_addAll : MT := (my_X7_addAll, prog_9_method_4_code, 3, none, [], [(0, .iconst 0, 1), (1, .istore_n 2, 1), (2, .iload_n 2, 1), (3, .bipush 10, 2), (5, .if_icmp .ge 18, 3), (8, .aload_n 0, 1), (9, .iload_n 2, 1), (10, .dup2, 1), (11, .iaload, 1), (12, .aload_n 1, 1), (13, .iload_n 2, 1), (14, .iaload, 1), (15, .ior, 1), (16, .iastore, 1), (17, .iinc 2 1, 3), (20, .goto (-18), 3), (23, .return_, 1)], [], [], [], [], [])
theorem ok_X7_addAll : mt_ok M_X7_addAll = true := by decide +kernel
theorem cw_X7_addAll : Cond.code (mt_y M_X7_addAll) (mt_b M_X7_addAll) (mt_l M_X7_addAll) (mt_r M_X7_addAll) ∈ lw_tbl := List.mem_of_getElem? (i := 1175) (by decide +kernel)
def M_X7_setTo : MT := (my_X7_setTo, prog_9_method_5_code, 2, none, [], [(0, .aload_n 1, 1), (1, .iconst 0, 1), (2, .aload_n 0, 1), (3, .iconst 0, 1), (4, .bipush 10, 2), (6, .invokestatic 11, 3), (9, .return_, 1)], [], [(11, arraycopyName, 5, 7, 0, 0, 0)], [], [], [1113, 679, 108])
theorem ok_X7_setTo : mt_ok M_X7_setTo = true := by decide +kernel
theorem cw_X7_setTo : Cond.code (mt_y M_X7_setTo) (mt_b M_X7_setTo) (mt_l M_X7_setTo) (mt_r M_X7_setTo) ∈ lw_tbl := List.mem_of_getElem? (i := 1112) (by decide +kernel)
def M_X7_empty : MT := (my_X7_empty, prog_9_method_6_code, 1, none, [], [(0, .aload_n 0, 1), (1, .iconst 0, 1), (2, .bipush 10, 2), (4, .iconst 0, 1), (5, .invokestatic 17, 3), (8, .return_, 1)], [], [(17, my_J7_fill_fda19, 4, 1, 2, 0, 0)], [], [], [554, 555, 96])
theorem ok_X7_empty : mt_ok M_X7_empty = true := by decide +kernel
theorem cw_X7_empty : Cond.code (mt_y M_X7_empty) (mt_b M_X7_empty) (mt_l M_X7_empty) (mt_r M_X7_empty) ∈ lw_tbl := List.mem_of_getElem? (i := 553) (by decide +kernel)
def M_X7_dropBelow : MT := (my_X7_dropBelow, prog_9_method_7_code, 3, none, [], [(0, .iconst 0, 1), (1, .istore_n 2, 1), (2, .iload_n 2, 1), (3, .bipush 10, 2), (5, .if_icmp .ge 22, 3), (8, .aload_n 0, 1), (9, .iload_n 2, 1), (10, .dup2, 1), (11, .iaload, 1), (12, .iload_n 2, 1), (13, .iload_n 1, 1), (14, .invokestatic 23, 3), (17, .iconst (-1), 1), (18, .ixor, 1), (19, .iand, 1), (20, .iastore, 1), (21, .iinc 2 1, 3), (24, .goto (-22), 3), (27, .return_, 1)], [], [(23, my_X7_bitsBelow, 2, 1, 1, 0, 0)], [], [], [1182, 1183, 97])
theorem ok_X7_dropBelow : mt_ok M_X7_dropBelow = true := by decide +kernel
theorem cw_X7_dropBelow : Cond.code (mt_y M_X7_dropBelow) (mt_b M_X7_dropBelow) (mt_l M_X7_dropBelow) (mt_r M_X7_dropBelow) ∈ lw_tbl := List.mem_of_getElem? (i := 1181) (by decide +kernel)
def M_X7_keepBelow : MT := (my_X7_keepBelow, prog_9_method_8_code, 3, none, [], [(0, .iconst 0, 1), (1, .istore_n 2, 1), (2, .iload_n 2, 1), (3, .bipush 10, 2), (5, .if_icmp .ge 20, 3), (8, .aload_n 0, 1), (9, .iload_n 2, 1), (10, .dup2, 1), (11, .iaload, 1), (12, .iload_n 2, 1), (13, .iload_n 1, 1), (14, .invokestatic 23, 3), (17, .iand, 1), (18, .iastore, 1), (19, .iinc 2 1, 3), (22, .goto (-20), 3), (25, .return_, 1)], [], [(23, my_X7_bitsBelow, 2, 1, 1, 0, 0)], [], [], [1182, 1183, 97])
theorem ok_X7_keepBelow : mt_ok M_X7_keepBelow = true := by decide +kernel
theorem cw_X7_keepBelow : Cond.code (mt_y M_X7_keepBelow) (mt_b M_X7_keepBelow) (mt_l M_X7_keepBelow) (mt_r M_X7_keepBelow) ∈ lw_tbl := List.mem_of_getElem? (i := 1302) (by decide +kernel)
def M_X7_bitsBelow : MT := (my_X7_bitsBelow, prog_9_method_9_code, 3, (some .int), [], [(0, .iload_n 1, 1), (1, .iload_n 0, 1), (2, .bipush 32, 2), (4, .imul, 1), (5, .isub, 1), (6, .istore_n 2, 1), (7, .iload_n 2, 1), (8, .ifCond .gt 5, 3), (11, .iconst 0, 1), (12, .ireturn, 1), (13, .iload_n 2, 1), (14, .bipush 32, 2), (16, .if_icmp .lt 7, 3), (19, .iconst (-1), 1), (20, .goto 8, 3), (23, .iconst 1, 1), (24, .iload_n 2, 1), (25, .ishl, 1), (26, .iconst 1, 1), (27, .isub, 1), (28, .ireturn, 1)], [], [], [], [], [])
theorem ok_X7_bitsBelow : mt_ok M_X7_bitsBelow = true := by decide +kernel
theorem cw_X7_bitsBelow : Cond.code (mt_y M_X7_bitsBelow) (mt_b M_X7_bitsBelow) (mt_l M_X7_bitsBelow) (mt_r M_X7_bitsBelow) ∈ lw_tbl := List.mem_of_getElem? (i := 1184) (by decide +kernel)
def M_X7_size : MT := (my_X7_size, prog_9_method_10_code, 3, (some .int), [], [(0, .iconst 0, 1), (1, .istore_n 1, 1), (2, .iconst 0, 1), (3, .istore_n 2, 1), (4, .iload_n 2, 1), (5, .bipush 10, 2), (7, .if_icmp .ge 18, 3), (10, .iload_n 1, 1), (11, .aload_n 0, 1), (12, .iload_n 2, 1), (13, .iaload, 1), (14, .invokestatic 27, 3), (17, .iadd, 1), (18, .istore_n 1, 1), (19, .iinc 2 1, 3), (22, .goto (-18), 3), (25, .iload_n 1, 1), (26, .ireturn, 1)], [], [(27, my_J6_bitCount_0f7a4, 1, 1, 1, 0, 0)], [], [], [1294, 998, 111])
theorem ok_X7_size : mt_ok M_X7_size = true := by decide +kernel
theorem cw_X7_size : Cond.code (mt_y M_X7_size) (mt_b M_X7_size) (mt_l M_X7_size) (mt_r M_X7_size) ∈ lw_tbl := List.mem_of_getElem? (i := 1293) (by decide +kernel)
def M_X7_greatest : MT := (my_X7_greatest, prog_9_method_11_code, 2, (some .int), [], [(0, .bipush 9, 2), (2, .istore_n 1, 1), (3, .iload_n 1, 1), (4, .ifCond .lt 32, 3), (7, .aload_n 0, 1), (8, .iload_n 1, 1), (9, .iaload, 1), (10, .ifCond .eq 20, 3), (13, .iload_n 1, 1), (14, .bipush 32, 2), (16, .imul, 1), (17, .bipush 32, 2), (19, .iadd, 1), (20, .iconst 1, 1), (21, .isub, 1), (22, .aload_n 0, 1), (23, .iload_n 1, 1), (24, .iaload, 1), (25, .invokestatic 33, 3), (28, .isub, 1), (29, .ireturn, 1), (30, .iinc 1 (-1), 3), (33, .goto (-30), 3), (36, .iconst (-1), 1), (37, .ireturn, 1)], [], [(33, my_J6_numberOfLeadingZeros_0f7a4, 1, 1, 1, 0, 0)], [], [], [1282, 1283, 111])
theorem ok_X7_greatest : mt_ok M_X7_greatest = true := by decide +kernel
theorem cw_X7_greatest : Cond.code (mt_y M_X7_greatest) (mt_b M_X7_greatest) (mt_l M_X7_greatest) (mt_r M_X7_greatest) ∈ lw_tbl := List.mem_of_getElem? (i := 1281) (by decide +kernel)
def M_X7_at : MT := (my_X7_at, prog_9_method_12_code, 4, (some .int), [], [(0, .iconst 0, 1), (1, .istore_n 2, 1), (2, .iconst 0, 1), (3, .istore_n 3, 1), (4, .iload_n 3, 1), (5, .sipush 300, 3), (8, .if_icmp .ge 27, 3), (11, .aload_n 0, 1), (12, .iload_n 3, 1), (13, .invokestatic 36, 3), (16, .ifCond .eq 13, 3), (19, .iload_n 2, 1), (20, .iload_n 1, 1), (21, .if_icmp .ne 5, 3), (24, .iload_n 3, 1), (25, .ireturn, 1), (26, .iinc 2 1, 3), (29, .iinc 3 1, 3), (32, .goto (-28), 3), (35, .iconst (-1), 1), (36, .ireturn, 1)], [], [(36, my_X7_has, 2, 1, 1, 0, 0)], [], [], [1465, 1130, 97])
theorem ok_X7_at : mt_ok M_X7_at = true := by decide +kernel
theorem cw_X7_at : Cond.code (mt_y M_X7_at) (mt_b M_X7_at) (mt_l M_X7_at) (mt_r M_X7_at) ∈ lw_tbl := List.mem_of_getElem? (i := 1464) (by decide +kernel)
def M_X8_init : MT := (my_X8_init, prog_10_method_1_code, 3, none, [], [(0, .aload_n 0, 1), (1, .invokespecial 3, 3), (4, .aload_n 0, 1), (5, .bipush 16, 2), (7, .newarray .int, 2), (9, .putfield 9, 3), (12, .aload_n 0, 1), (13, .bipush 16, 2), (15, .newarray .int, 2), (17, .putfield 15, 3), (20, .aload_n 0, 1), (21, .bipush 16, 2), (23, .newarray .int, 2), (25, .putfield 18, 3), (28, .aload_n 0, 1), (29, .bipush 16, 2), (31, .newarray .int, 2), (33, .putfield 21, 3), (36, .aload_n 0, 1), (37, .iload_n 1, 1), (38, .putfield 24, 3), (41, .aload_n 0, 1), (42, .aload_n 2, 1), (43, .putfield 28, 3), (46, .return_, 1)], [(9, 8, 2), (15, 8, 3), (18, 8, 4), (21, 8, 5), (24, 8, 0), (28, 8, 1)], [(3, objectInit, 0, 3, 0, 0, 0)], [], [], [339, 340, 341, 342, 337, 338, 336, 122, 123])
theorem ok_X8_init : mt_ok M_X8_init = true := by decide +kernel
theorem cw_X8_init : Cond.code (mt_y M_X8_init) (mt_b M_X8_init) (mt_l M_X8_init) (mt_r M_X8_init) ∈ lw_tbl := List.mem_of_getElem? (i := 335) (by decide +kernel)
def M_X8_reset : MT := (my_X8_reset, prog_10_method_2_code, 1, none, [], [(0, .aload_n 0, 1), (1, .getfield 9, 3), (4, .iconst 0, 1), (5, .invokestatic 32, 3), (8, .aload_n 0, 1), (9, .getfield 15, 3), (12, .iconst (-1), 1), (13, .invokestatic 32, 3), (16, .aload_n 0, 1), (17, .getfield 18, 3), (20, .iconst 0, 1), (21, .invokestatic 32, 3), (24, .aload_n 0, 1), (25, .getfield 21, 3), (28, .iconst 0, 1), (29, .invokestatic 32, 3), (32, .return_, 1)], [(9, 8, 2), (15, 8, 3), (18, 8, 4), (21, 8, 5)], [(32, my_J7_fill_53178, 2, 1, 1, 0, 0)], [], [], [339, 340, 341, 342, 904, 524, 96])
theorem ok_X8_reset : mt_ok M_X8_reset = true := by decide +kernel
theorem cw_X8_reset : Cond.code (mt_y M_X8_reset) (mt_b M_X8_reset) (mt_l M_X8_reset) (mt_r M_X8_reset) ∈ lw_tbl := List.mem_of_getElem? (i := 903) (by decide +kernel)
def M_X8_settle : MT := (my_X8_settle, prog_10_method_3_code, 2, none, [], [(0, .iload_n 1, 1), (1, .invokestatic 38, 3), (4, .ifCond .eq 10, 3), (7, .aload_n 0, 1), (8, .getfield 9, 3), (11, .iload_n 1, 1), (12, .iconst 4, 1), (13, .iastore, 1), (14, .return_, 1)], [(9, 8, 2)], [(38, my_X11_isSlot, 1, 4, 1, 0, 0)], [], [], [339, 1060, 85])
theorem ok_X8_settle : mt_ok M_X8_settle = true := by decide +kernel
theorem cw_X8_settle : Cond.code (mt_y M_X8_settle) (mt_b M_X8_settle) (mt_l M_X8_settle) (mt_r M_X8_settle) ∈ lw_tbl := List.mem_of_getElem? (i := 1192) (by decide +kernel)
def M_X8_put : MT := (my_X8_put, prog_10_method_4_code, 3, none, [], [(0, .iload_n 1, 1), (1, .invokestatic 38, 3), (4, .ifCond .eq 17, 3), (7, .aload_n 0, 1), (8, .getfield 9, 3), (11, .iload_n 1, 1), (12, .iconst 1, 1), (13, .iastore, 1), (14, .aload_n 0, 1), (15, .getfield 15, 3), (18, .iload_n 1, 1), (19, .iload_n 2, 1), (20, .iastore, 1), (21, .return_, 1)], [(9, 8, 2), (15, 8, 3)], [(38, my_X11_isSlot, 1, 4, 1, 0, 0)], [], [], [339, 340, 1060, 85])
theorem ok_X8_put : mt_ok M_X8_put = true := by decide +kernel
theorem cw_X8_put : Cond.code (mt_y M_X8_put) (mt_b M_X8_put) (mt_l M_X8_put) (mt_r M_X8_put) ∈ lw_tbl := List.mem_of_getElem? (i := 1058) (by decide +kernel)
def M_X8_noteVoter : MT := (my_X8_noteVoter, prog_10_method_5_code, 4, none, [], [(0, .iload_n 1, 1), (1, .invokestatic 38, 3), (4, .ifCond .ne 4, 3), (7, .return_, 1), (8, .aload_n 0, 1), (9, .getfield 18, 3), (12, .iload_n 1, 1), (13, .dup2, 1), (14, .iaload, 1), (15, .iconst 1, 1), (16, .iload_n 2, 1), (17, .ishl, 1), (18, .ior, 1), (19, .iastore, 1), (20, .aload_n 0, 1), (21, .getfield 9, 3), (24, .iload_n 1, 1), (25, .iaload, 1), (26, .iconst 1, 1), (27, .if_icmp .ne 46, 3), (30, .aload_n 0, 1), (31, .getfield 18, 3), (34, .iload_n 1, 1), (35, .iaload, 1), (36, .iload_n 3, 1), (37, .invokestatic 42, 3), (40, .ifCond .eq 33, 3), (43, .aload_n 0, 1), (44, .getfield 9, 3), (47, .iload_n 1, 1), (48, .iconst 2, 1), (49, .iastore, 1), (50, .aload_n 0, 1), (51, .getfield 28, 3), (54, .bipush 7, 2), (56, .aload_n 0, 1), (57, .getfield 24, 3), (60, .bipush 7, 2), (62, .iload_n 1, 1), (63, .aload_n 0, 1), (64, .getfield 15, 3), (67, .iload_n 1, 1), (68, .iaload, 1), (69, .iconst 0, 1), (70, .invokevirtual 46, 3), (73, .return_, 1)], [(18, 8, 4), (9, 8, 2), (28, 8, 1), (24, 8, 0), (15, 8, 3)], [(38, my_X11_isSlot, 1, 4, 1, 0, 0), (42, my_X11_isMajority, 2, 4, 2, 0, 0), (46, my_X0_sendEach, 6, 10, 2, 0, 0)], [], [], [341, 339, 338, 337, 340, 1060, 85, 1210, 85, 1136, 1035, 1036, 86])
theorem ok_X8_noteVoter : mt_ok M_X8_noteVoter = true := by decide +kernel
theorem cw_X8_noteVoter : Cond.code (mt_y M_X8_noteVoter) (mt_b M_X8_noteVoter) (mt_l M_X8_noteVoter) (mt_r M_X8_noteVoter) ∈ lw_tbl := List.mem_of_getElem? (i := 1219) (by decide +kernel)
def M_X8_noteCopy : MT := (my_X8_noteCopy, prog_10_method_6_code, 4, none, [], [(0, .iload_n 1, 1), (1, .invokestatic 38, 3), (4, .ifCond .eq 21, 3), (7, .aload_n 0, 1), (8, .iload_n 1, 1), (9, .invokevirtual 52, 3), (12, .ifCond .eq 13, 3), (15, .aload_n 0, 1), (16, .getfield 15, 3), (19, .iload_n 1, 1), (20, .iaload, 1), (21, .iload_n 2, 1), (22, .if_icmp .eq 4, 3), (25, .return_, 1), (26, .aload_n 0, 1), (27, .getfield 21, 3), (30, .iload_n 1, 1), (31, .dup2, 1), (32, .iaload, 1), (33, .iconst 1, 1), (34, .iload_n 3, 1), (35, .ishl, 1), (36, .ior, 1), (37, .iastore, 1), (38, .aload_n 0, 1), (39, .getfield 21, 3), (42, .iload_n 1, 1), (43, .iaload, 1), (44, .invokestatic 55, 3), (47, .ifCond .eq 10, 3), (50, .aload_n 0, 1), (51, .getfield 9, 3), (54, .iload_n 1, 1), (55, .iconst 3, 1), (56, .iastore, 1), (57, .return_, 1)], [(15, 8, 3), (21, 8, 5), (9, 8, 2)], [(38, my_X11_isSlot, 1, 4, 1, 0, 0), (52, my_X8_isChosen, 1, 18, 1, 0, 0), (55, my_X11_areTwo, 1, 4, 2, 0, 0)], [], [], [340, 342, 339, 1060, 85, 1081, 1083, 9, 92, 1177, 85])
theorem ok_X8_noteCopy : mt_ok M_X8_noteCopy = true := by decide +kernel
theorem cw_X8_noteCopy : Cond.code (mt_y M_X8_noteCopy) (mt_b M_X8_noteCopy) (mt_l M_X8_noteCopy) (mt_r M_X8_noteCopy) ∈ lw_tbl := List.mem_of_getElem? (i := 1224) (by decide +kernel)
def M_X8_isChosen : MT := (my_X8_isChosen, prog_10_method_7_code, 2, (some .boolean), [], [(0, .aload_n 0, 1), (1, .getfield 9, 3), (4, .iload_n 1, 1), (5, .iaload, 1), (6, .iconst 2, 1), (7, .if_icmp .eq 13, 3), (10, .aload_n 0, 1), (11, .getfield 9, 3), (14, .iload_n 1, 1), (15, .iaload, 1), (16, .iconst 3, 1), (17, .if_icmp .ne 7, 3), (20, .iconst 1, 1), (21, .goto 4, 3), (24, .iconst 0, 1), (25, .ireturn, 1)], [(9, 8, 2)], [], [], [], [339])
theorem ok_X8_isChosen : mt_ok M_X8_isChosen = true := by decide +kernel
theorem cw_X8_isChosen : Cond.code (mt_y M_X8_isChosen) (mt_b M_X8_isChosen) (mt_l M_X8_isChosen) (mt_r M_X8_isChosen) ∈ lw_tbl := List.mem_of_getElem? (i := 1084) (by decide +kernel)
def M_X8_areChosen : MT := (my_X8_areChosen, prog_10_method_8_code, 4, (some .boolean), [], [(0, .iconst 0, 1), (1, .istore_n 3, 1), (2, .iload_n 3, 1), (3, .bipush 16, 2), (5, .if_icmp .ge 29, 3), (8, .iload_n 3, 1), (9, .iload_n 1, 1), (10, .if_icmp .lt 18, 3), (13, .iload_n 3, 1), (14, .iload_n 2, 1), (15, .if_icmp .ge 13, 3), (18, .aload_n 0, 1), (19, .iload_n 3, 1), (20, .invokevirtual 52, 3), (23, .ifCond .ne 5, 3), (26, .iconst 0, 1), (27, .ireturn, 1), (28, .iinc 3 1, 3), (31, .goto (-29), 3), (34, .iconst 1, 1), (35, .ireturn, 1)], [], [(52, my_X8_isChosen, 1, 18, 1, 0, 0)], [], [], [1081, 1083, 9, 92])
theorem ok_X8_areChosen : mt_ok M_X8_areChosen = true := by decide +kernel
theorem cw_X8_areChosen : Cond.code (mt_y M_X8_areChosen) (mt_b M_X8_areChosen) (mt_l M_X8_areChosen) (mt_r M_X8_areChosen) ∈ lw_tbl := List.mem_of_getElem? (i := 1080) (by decide +kernel)
def M_X8_firm : MT := (my_X8_firm, prog_10_method_9_code, 2, (some .int), [], [(0, .iconst 0, 1), (1, .istore_n 1, 1), (2, .iload_n 1, 1), (3, .bipush 16, 2), (5, .if_icmp .ge 31, 3), (8, .aload_n 0, 1), (9, .getfield 9, 3), (12, .iload_n 1, 1), (13, .iaload, 1), (14, .iconst 4, 1), (15, .if_icmp .eq 15, 3), (18, .aload_n 0, 1), (19, .getfield 9, 3), (22, .iload_n 1, 1), (23, .iaload, 1), (24, .iconst 3, 1), (25, .if_icmp .eq 5, 3), (28, .iload_n 1, 1), (29, .ireturn, 1), (30, .iinc 1 1, 3), (33, .goto (-31), 3), (36, .bipush 16, 2), (38, .ireturn, 1)], [(9, 8, 2)], [], [], [], [339])
theorem ok_X8_firm : mt_ok M_X8_firm = true := by decide +kernel
theorem cw_X8_firm : Cond.code (mt_y M_X8_firm) (mt_b M_X8_firm) (mt_l M_X8_firm) (mt_r M_X8_firm) ∈ lw_tbl := List.mem_of_getElem? (i := 1076) (by decide +kernel)
def M_X8_sendAgain : MT := (my_X8_sendAgain, prog_10_method_10_code, 4, none, [], [(0, .iconst 0, 1), (1, .istore_n 3, 1), (2, .iload_n 3, 1), (3, .bipush 16, 2), (5, .if_icmp .ge 94, 3), (8, .aload_n 0, 1), (9, .getfield 9, 3), (12, .iload_n 3, 1), (13, .iaload, 1), (14, .iconst 1, 1), (15, .if_icmp .ne 36, 3), (18, .aload_n 0, 1), (19, .getfield 28, 3), (22, .iconst 5, 1), (23, .aload_n 0, 1), (24, .getfield 24, 3), (27, .iload_n 2, 1), (28, .aload_n 0, 1), (29, .getfield 18, 3), (32, .iload_n 3, 1), (33, .iaload, 1), (34, .iconst (-1), 1), (35, .ixor, 1), (36, .iand, 1), (37, .iload_n 1, 1), (38, .iload_n 3, 1), (39, .aload_n 0, 1), (40, .getfield 15, 3), (43, .iload_n 3, 1), (44, .iaload, 1), (45, .invokevirtual 46, 3), (48, .goto 45, 3), (51, .aload_n 0, 1), (52, .getfield 9, 3), (55, .iload_n 3, 1), (56, .iaload, 1), (57, .iconst 2, 1), (58, .if_icmp .ne 35, 3), (61, .aload_n 0, 1), (62, .getfield 28, 3), (65, .bipush 7, 2), (67, .aload_n 0, 1), (68, .getfield 24, 3), (71, .bipush 7, 2), (73, .aload_n 0, 1), (74, .getfield 21, 3), (77, .iload_n 3, 1), (78, .iaload, 1), (79, .iconst (-1), 1), (80, .ixor, 1), (81, .iand, 1), (82, .iload_n 3, 1), (83, .aload_n 0, 1), (84, .getfield 15, 3), (87, .iload_n 3, 1), (88, .iaload, 1), (89, .iconst 0, 1), (90, .invokevirtual 46, 3), (93, .iinc 3 1, 3), (96, .goto (-94), 3), (99, .return_, 1)], [(9, 8, 2), (28, 8, 1), (24, 8, 0), (18, 8, 4), (15, 8, 3), (21, 8, 5)], [(46, my_X0_sendEach, 6, 10, 2, 0, 0)], [], [], [339, 338, 337, 341, 340, 342, 1136, 1035, 1036, 86])
theorem ok_X8_sendAgain : mt_ok M_X8_sendAgain = true := by decide +kernel
theorem cw_X8_sendAgain : Cond.code (mt_y M_X8_sendAgain) (mt_b M_X8_sendAgain) (mt_l M_X8_sendAgain) (mt_r M_X8_sendAgain) ∈ lw_tbl := List.mem_of_getElem? (i := 1135) (by decide +kernel)
end
section
/-! ===== records of methods ===== -/
def M_X8_tell : MT := (my_X8_tell, prog_10_method_11_code, 3, (some .int), [], [(0, .iload_n 1, 1), (1, .invokestatic 38, 3), (4, .ifCond .ne 5, 3), (7, .iconst (-1), 1), (8, .ireturn, 1), (9, .iload_n 2, 1), (10, .tableswitch 47 0 2 #[26, 33, 40], 26), (36, .aload_n 0, 1), (37, .getfield 9, 3), (40, .iload_n 1, 1), (41, .iaload, 1), (42, .ireturn, 1), (43, .aload_n 0, 1), (44, .getfield 15, 3), (47, .iload_n 1, 1), (48, .iaload, 1), (49, .ireturn, 1), (50, .aload_n 0, 1), (51, .getfield 18, 3), (54, .iload_n 1, 1), (55, .iaload, 1), (56, .ireturn, 1), (57, .aload_n 0, 1), (58, .getfield 21, 3), (61, .iload_n 1, 1), (62, .iaload, 1), (63, .ireturn, 1)], [(9, 8, 2), (15, 8, 3), (18, 8, 4), (21, 8, 5)], [(38, my_X11_isSlot, 1, 4, 1, 0, 0)], [], [], [339, 340, 341, 342, 1060, 85])
theorem ok_X8_tell : mt_ok M_X8_tell = true := by decide +kernel
theorem cw_X8_tell : Cond.code (mt_y M_X8_tell) (mt_b M_X8_tell) (mt_l M_X8_tell) (mt_r M_X8_tell) ∈ lw_tbl := List.mem_of_getElem? (i := 1443) (by decide +kernel)
def M_X9_init : MT := (my_X9_init, prog_11_method_1_code, 2, none, [], [(0, .aload_n 0, 1), (1, .invokespecial 5, 3), (4, .aload_n 0, 1), (5, .sipush 1200, 3), (8, .newarray .long, 2), (10, .putfield 11, 3), (13, .aload_n 0, 1), (14, .bipush 16, 2), (16, .newarray .int, 2), (18, .putfield 15, 3), (21, .aload_n 0, 1), (22, .aload_n 1, 1), (23, .putfield 19, 3), (26, .return_, 1)], [(11, 9, 1), (15, 9, 2), (19, 9, 0)], [(5, objectInit, 0, 3, 0, 0, 0)], [], [], [243, 244, 242, 241, 122, 123])
theorem ok_X9_init : mt_ok M_X9_init = true := by decide +kernel
theorem cw_X9_init : Cond.code (mt_y M_X9_init) (mt_b M_X9_init) (mt_l M_X9_init) (mt_r M_X9_init) ∈ lw_tbl := List.mem_of_getElem? (i := 240) (by decide +kernel)
def M_X9_reset : MT := (my_X9_reset, prog_11_method_2_code, 1, none, [], [(0, .aload_n 0, 1), (1, .getfield 11, 3), (4, .lconst 0, 1), (5, .invokestatic 22, 3), (8, .aload_n 0, 1), (9, .getfield 15, 3), (12, .iconst (-1), 1), (13, .invokestatic 28, 3), (16, .aload_n 0, 1), (17, .iconst 0, 1), (18, .putfield 31, 3), (21, .return_, 1)], [(11, 9, 1), (15, 9, 2), (31, 9, 3)], [(22, my_J7_fill_d0a16, 2, 1, 1, 0, 0), (28, my_J7_fill_53178, 2, 1, 1, 0, 0)], [], [], [243, 244, 246, 530, 531, 96, 533, 524, 96])
theorem ok_X9_reset : mt_ok M_X9_reset = true := by decide +kernel
theorem cw_X9_reset : Cond.code (mt_y M_X9_reset) (mt_b M_X9_reset) (mt_l M_X9_reset) (mt_r M_X9_reset) ∈ lw_tbl := List.mem_of_getElem? (i := 529) (by decide +kernel)
def M_X9_note : MT := (my_X9_note, prog_11_method_3_code, 9, none, [], [(0, .iload_n 1, 1), (1, .ifCond .lt 17, 3), (4, .iload_n 1, 1), (5, .sipush 300, 3), (8, .if_icmp .ge 10, 3), (11, .iload_n 2, 1), (12, .invokestatic 35, 3), (15, .ifCond .ne 4, 3), (18, .return_, 1), (19, .iload_n 1, 1), (20, .iconst 4, 1), (21, .imul, 1), (22, .iload_n 2, 1), (23, .iconst 4, 1), (24, .idiv, 1), (25, .iadd, 1), (26, .istore 5, 2), (28, .iload_n 2, 1), (29, .iconst 4, 1), (30, .irem, 1), (31, .bipush 16, 2), (33, .imul, 1), (34, .istore 6, 2), (36, .aload_n 0, 1), (37, .getfield 11, 3), (40, .iload 5, 2), (42, .laload, 1), (43, .iload 6, 2), (45, .lushr, 1), (46, .l2i, 1), (47, .sipush 4095, 3), (50, .iand, 1), (51, .istore 7, 2), (53, .iload 7, 2), (55, .iconst 1, 1), (56, .iload_n 3, 1), (57, .ishl, 1), (58, .ior, 1), (59, .istore 8, 2), (61, .aload_n 0, 1), (62, .getfield 11, 3), (65, .iload 5, 2), (67, .dup2, 1), (68, .laload, 1), (69, .iload 8, 2), (71, .i2l, 1), (72, .iload 6, 2), (74, .lshl, 1), (75, .lor, 1), (76, .lastore, 1), (77, .iload 8, 2), (79, .aload_n 0, 1), (80, .getfield 19, 3), (83, .iload_n 1, 1), (84, .iaload, 1), (85, .invokestatic 39, 3), (88, .ifCond .eq 24, 3), (91, .iload 7, 2), (93, .aload_n 0, 1), (94, .getfield 19, 3), (97, .iload_n 1, 1), (98, .iaload, 1), (99, .invokestatic 39, 3), (102, .ifCond .ne 10, 3), (105, .aload_n 0, 1), (106, .iload_n 2, 1), (107, .iload 4, 2), (109, .invokevirtual 43, 3), (112, .return_, 1)], [(11, 9, 1), (19, 9, 0)], [(35, my_X11_isSlot, 1, 4, 1, 0, 0), (39, my_X11_isMajority, 2, 4, 2, 0, 0), (43, my_X9_agree, 2, 19, 1, 0, 0)], [], [], [243, 242, 1060, 85, 1210, 85, 1352, 1354, 36, 88])
theorem ok_X9_note : mt_ok M_X9_note = true := by decide +kernel
theorem cw_X9_note : Cond.code (mt_y M_X9_note) (mt_b M_X9_note) (mt_l M_X9_note) (mt_r M_X9_note) ∈ lw_tbl := List.mem_of_getElem? (i := 1349) (by decide +kernel)
def M_X9_agree : MT := (my_X9_agree, prog_11_method_4_code, 3, none, [], [(0, .aload_n 0, 1), (1, .getfield 15, 3), (4, .iload_n 1, 1), (5, .iaload, 1), (6, .iconst (-1), 1), (7, .if_icmp .ne 13, 3), (10, .aload_n 0, 1), (11, .getfield 15, 3), (14, .iload_n 1, 1), (15, .iload_n 2, 1), (16, .iastore, 1), (17, .goto 23, 3), (20, .aload_n 0, 1), (21, .getfield 15, 3), (24, .iload_n 1, 1), (25, .iaload, 1), (26, .iload_n 2, 1), (27, .if_icmp .eq 13, 3), (30, .aload_n 0, 1), (31, .dup, 1), (32, .getfield 31, 3), (35, .iconst 1, 1), (36, .iadd, 1), (37, .putfield 31, 3), (40, .return_, 1)], [(15, 9, 2), (31, 9, 3)], [], [], [], [244, 246])
theorem ok_X9_agree : mt_ok M_X9_agree = true := by decide +kernel
theorem cw_X9_agree : Cond.code (mt_y M_X9_agree) (mt_b M_X9_agree) (mt_l M_X9_agree) (mt_r M_X9_agree) ∈ lw_tbl := List.mem_of_getElem? (i := 1355) (by decide +kernel)
def M_X10_init : MT := (my_X10_init, prog_12_method_1_code, 4, none, [], [(0, .aload_n 0, 1), (1, .invokespecial 5, 3), (4, .aload_n 0, 1), (5, .bipush 16, 2), (7, .newarray .int, 2), (9, .putfield 11, 3), (12, .aload_n 0, 1), (13, .iload_n 1, 1), (14, .putfield 15, 3), (17, .aload_n 0, 1), (18, .aload_n 2, 1), (19, .putfield 19, 3), (22, .aload_n 0, 1), (23, .aload_n 3, 1), (24, .putfield 23, 3), (27, .return_, 1)], [(11, 10, 5), (15, 10, 0), (19, 10, 1), (23, 10, 2)], [(5, objectInit, 0, 3, 0, 0, 0)], [], [], [500, 495, 496, 497, 494, 122, 123])
theorem ok_X10_init : mt_ok M_X10_init = true := by decide +kernel
theorem cw_X10_init : Cond.code (mt_y M_X10_init) (mt_b M_X10_init) (mt_l M_X10_init) (mt_r M_X10_init) ∈ lw_tbl := List.mem_of_getElem? (i := 493) (by decide +kernel)
def M_X10_roundOf : MT := (my_X10_roundOf, prog_12_method_2_code, 1, (some .int), [], [(0, .iload_n 0, 1), (1, .iconst (-1), 1), (2, .if_icmp .ne 7, 3), (5, .iconst (-1), 1), (6, .goto 7, 3), (9, .iload_n 0, 1), (10, .bipush 20, 2), (12, .ishr, 1), (13, .ireturn, 1)], [], [], [], [], [])
theorem ok_X10_roundOf : mt_ok M_X10_roundOf = true := by decide +kernel
theorem cw_X10_roundOf : Cond.code (mt_y M_X10_roundOf) (mt_b M_X10_roundOf) (mt_l M_X10_roundOf) (mt_r M_X10_roundOf) ∈ lw_tbl := List.mem_of_getElem? (i := 1338) (by decide +kernel)
def M_X10_valueOf : MT := (my_X10_valueOf, prog_12_method_3_code, 1, (some .int), [], [(0, .iload_n 0, 1), (1, .iconst (-1), 1), (2, .if_icmp .ne 7, 3), (5, .iconst (-1), 1), (6, .goto 7, 3), (9, .iload_n 0, 1), (10, .ldc 27, 2), (12, .iand, 1), (13, .ireturn, 1)], [], [], [], [(27, 1048575)], [1196])
theorem ok_X10_valueOf : mt_ok M_X10_valueOf = true := by decide +kernel
theorem cw_X10_valueOf : Cond.code (mt_y M_X10_valueOf) (mt_b M_X10_valueOf) (mt_l M_X10_valueOf) (mt_r M_X10_valueOf) ∈ lw_tbl := List.mem_of_getElem? (i := 1195) (by decide +kernel)
def M_X10_later : MT := (my_X10_later, prog_12_method_4_code, 2, (some .int), [], [(0, .iload_n 0, 1), (1, .iload_n 1, 1), (2, .invokestatic 28, 3), (5, .ireturn, 1)], [], [(28, Lib.Math.max.name, 2, 8, 0, 0, 0)], [], [], [1204, 658, 107, 659])
theorem ok_X10_later : mt_ok M_X10_later = true := by decide +kernel
theorem cw_X10_later : Cond.code (mt_y M_X10_later) (mt_b M_X10_later) (mt_l M_X10_later) (mt_r M_X10_later) ∈ lw_tbl := List.mem_of_getElem? (i := 1203) (by decide +kernel)
def M_X10_votesIn : MT := (my_X10_votesIn, prog_12_method_5_code, 3, (some .int), [], [(0, .iconst 0, 1), (1, .istore_n 1, 1), (2, .iconst 0, 1), (3, .istore_n 2, 1), (4, .iload_n 2, 1), (5, .bipush 16, 2), (7, .if_icmp .ge 19, 3), (10, .aload_n 0, 1), (11, .iload_n 2, 1), (12, .iaload, 1), (13, .iconst (-1), 1), (14, .if_icmp .eq 6, 3), (17, .iinc 1 1, 3), (20, .iinc 2 1, 3), (23, .goto (-19), 3), (26, .iload_n 1, 1), (27, .ireturn, 1)], [], [], [], [], [])
theorem ok_X10_votesIn : mt_ok M_X10_votesIn = true := by decide +kernel
theorem cw_X10_votesIn : Cond.code (mt_y M_X10_votesIn) (mt_b M_X10_votesIn) (mt_l M_X10_votesIn) (mt_r M_X10_votesIn) ∈ lw_tbl := List.mem_of_getElem? (i := 1416) (by decide +kernel)
def M_X10_reset : MT := (my_X10_reset, prog_12_method_6_code, 1, none, [], [(0, .aload_n 0, 1), (1, .iconst (-1), 1), (2, .putfield 34, 3), (5, .aload_n 0, 1), (6, .iconst 0, 1), (7, .putfield 37, 3), (10, .aload_n 0, 1), (11, .getfield 11, 3), (14, .iconst (-1), 1), (15, .invokestatic 40, 3), (18, .return_, 1)], [(34, 10, 3), (37, 10, 4), (11, 10, 5)], [(40, my_J7_fill_53178, 2, 1, 1, 0, 0)], [], [], [498, 499, 500, 922, 524, 96])
theorem ok_X10_reset : mt_ok M_X10_reset = true := by decide +kernel
theorem cw_X10_reset : Cond.code (mt_y M_X10_reset) (mt_b M_X10_reset) (mt_l M_X10_reset) (mt_r M_X10_reset) ∈ lw_tbl := List.mem_of_getElem? (i := 921) (by decide +kernel)
def M_X10_receive : MT := (my_X10_receive, prog_12_method_7_code, 3, none, [], [(0, .aload_n 1, 1), (1, .getfield 46, 3), (4, .bipush 13, 2), (6, .if_icmp .ne 9, 3), (9, .aload_n 0, 1), (10, .aload_n 1, 1), (11, .invokevirtual 51, 3), (14, .return_, 1), (15, .aload_n 1, 1), (16, .getfield 55, 3), (19, .aload_n 0, 1), (20, .getfield 34, 3), (23, .if_icmp .ge 31, 3), (26, .aload_n 0, 1), (27, .getfield 19, 3), (30, .bipush 24, 2), (32, .aload_n 0, 1), (33, .getfield 15, 3), (36, .aload_n 1, 1), (37, .getfield 58, 3), (40, .aload_n 1, 1), (41, .getfield 55, 3), (44, .aload_n 0, 1), (45, .getfield 34, 3), (48, .iconst 0, 1), (49, .invokevirtual 61, 3), (52, .pop, 1), (53, .return_, 1), (54, .aload_n 0, 1), (55, .aload_n 1, 1), (56, .getfield 55, 3), (59, .putfield 34, 3), (62, .aload_n 1, 1), (63, .getfield 46, 3), (66, .iconst 3, 1), (67, .if_icmp .ne 47, 3), (70, .aload_n 0, 1), (71, .getfield 19, 3), (74, .iconst 4, 1), (75, .aload_n 0, 1), (76, .getfield 15, 3), (79, .aload_n 1, 1), (80, .getfield 58, 3), (83, .aload_n 1, 1), (84, .getfield 55, 3), (87, .aload_n 0, 1), (88, .getfield 37, 3), (91, .iconst 0, 1), (92, .invokevirtual 61, 3), (95, .astore_n 2, 1), (96, .aload_n 0, 1), (97, .getfield 11, 3), (100, .iconst 0, 1), (101, .aload_n 2, 1), (102, .getfield 67, 3), (105, .iconst 0, 1), (106, .bipush 16, 2), (108, .invokestatic 70, 3), (111, .goto 70, 3), (114, .aload_n 1, 1), (115, .getfield 46, 3), (118, .iconst 5, 1), (119, .if_icmp .ne 11, 3), (122, .aload_n 0, 1), (123, .aload_n 1, 1), (124, .invokevirtual 76, 3), (127, .goto 54, 3), (130, .aload_n 1, 1), (131, .getfield 46, 3), (134, .bipush 9, 2), (136, .if_icmp .ne 45, 3), (139, .aload_n 0, 1), (140, .aload_n 0, 1), (141, .getfield 37, 3), (144, .aload_n 1, 1), (145, .getfield 79, 3), (148, .invokestatic 28, 3), (151, .putfield 37, 3), (154, .aload_n 0, 1), (155, .getfield 19, 3), (158, .bipush 10, 2), (160, .aload_n 0, 1), (161, .getfield 15, 3), (164, .aload_n 1, 1), (165, .getfield 58, 3), (168, .aload_n 1, 1), (169, .getfield 55, 3), (172, .aload_n 1, 1), (173, .getfield 79, 3), (176, .iconst 0, 1), (177, .invokevirtual 61, 3), (180, .pop, 1), (181, .return_, 1)], [(46, 6, 0), (55, 6, 3), (34, 10, 3), (19, 10, 1), (15, 10, 0), (58, 6, 1), (37, 10, 4), (11, 10, 5), (67, 6, 8), (79, 6, 4)], [(51, my_X10_release, 1, 20, 2, 0, 0), (61, my_X0_send, 6, 10, 1, 0, 0), (70, arraycopyName, 5, 7, 0, 0, 0), (76, my_X10_castVote, 1, 20, 4, 0, 0), (28, Lib.Math.max.name, 2, 8, 0, 0, 0)], [], [], [140, 159, 498, 496, 495, 146, 499, 500, 188, 167, 1332, 1334, 34, 95, 1339, 1039, 1040, 86, 1340, 679, 108, 1341, 1343, 35, 95, 1204, 658, 107, 659])
theorem ok_X10_receive : mt_ok M_X10_receive = true := by decide +kernel
theorem cw_X10_receive : Cond.code (mt_y M_X10_receive) (mt_b M_X10_receive) (mt_l M_X10_receive) (mt_r M_X10_receive) ∈ lw_tbl := List.mem_of_getElem? (i := 1331) (by decide +kernel)
def M_X10_castVote : MT := (my_X10_castVote, prog_12_method_8_code, 2, none, [], [(0, .aload_n 1, 1), (1, .getfield 79, 3), (4, .invokestatic 82, 3), (7, .ifCond .ne 4, 3), (10, .return_, 1), (11, .aload_n 0, 1), (12, .getfield 11, 3), (15, .aload_n 1, 1), (16, .getfield 79, 3), (19, .aload_n 1, 1), (20, .getfield 55, 3), (23, .bipush 20, 2), (25, .ishl, 1), (26, .aload_n 1, 1), (27, .getfield 86, 3), (30, .ior, 1), (31, .iastore, 1), (32, .aload_n 0, 1), (33, .getfield 23, 3), (36, .aload_n 1, 1), (37, .getfield 55, 3), (40, .aload_n 1, 1), (41, .getfield 79, 3), (44, .aload_n 0, 1), (45, .getfield 15, 3), (48, .aload_n 1, 1), (49, .getfield 86, 3), (52, .invokevirtual 89, 3), (55, .aload_n 0, 1), (56, .getfield 19, 3), (59, .bipush 6, 2), (61, .aload_n 0, 1), (62, .getfield 15, 3), (65, .aload_n 1, 1), (66, .getfield 58, 3), (69, .aload_n 1, 1), (70, .getfield 55, 3), (73, .aload_n 1, 1), (74, .getfield 79, 3), (77, .iconst 0, 1), (78, .invokevirtual 61, 3), (81, .pop, 1), (82, .return_, 1)], [(79, 6, 4), (11, 10, 5), (55, 6, 3), (86, 6, 5), (23, 10, 2), (15, 10, 0), (19, 10, 1), (58, 6, 1)], [(82, my_X11_isSlot, 1, 4, 1, 0, 0), (89, my_X9_note, 4, 19, 3, 0, 0), (61, my_X0_send, 6, 10, 1, 0, 0)], [], [], [167, 500, 159, 174, 497, 495, 496, 146, 1060, 85, 1346, 1347, 1348, 88, 1339, 1039, 1040, 86])
theorem ok_X10_castVote : mt_ok M_X10_castVote = true := by decide +kernel
theorem cw_X10_castVote : Cond.code (mt_y M_X10_castVote) (mt_b M_X10_castVote) (mt_l M_X10_castVote) (mt_r M_X10_castVote) ∈ lw_tbl := List.mem_of_getElem? (i := 1344) (by decide +kernel)
def M_X10_release : MT := (my_X10_release, prog_12_method_9_code, 3, none, [], [(0, .iconst 0, 1), (1, .istore_n 2, 1), (2, .iload_n 2, 1), (3, .bipush 16, 2), (5, .if_icmp .ge 32, 3), (8, .aload_n 0, 1), (9, .getfield 11, 3), (12, .iload_n 2, 1), (13, .iaload, 1), (14, .invokestatic 95, 3), (17, .aload_n 1, 1), (18, .getfield 55, 3), (21, .if_icmp .ge 10, 3), (24, .aload_n 0, 1), (25, .getfield 11, 3), (28, .iload_n 2, 1), (29, .iconst (-1), 1), (30, .iastore, 1), (31, .iinc 2 1, 3), (34, .goto (-32), 3), (37, .aload_n 0, 1), (38, .getfield 19, 3), (41, .bipush 14, 2), (43, .aload_n 0, 1), (44, .getfield 15, 3), (47, .aload_n 1, 1), (48, .getfield 58, 3), (51, .aload_n 1, 1), (52, .getfield 55, 3), (55, .iconst 0, 1), (56, .iconst 0, 1), (57, .invokevirtual 61, 3), (60, .pop, 1), (61, .return_, 1)], [(11, 10, 5), (55, 6, 3), (19, 10, 1), (15, 10, 0), (58, 6, 1)], [(95, my_X10_roundOf, 1, 1, 1, 0, 0), (61, my_X0_send, 6, 10, 1, 0, 0)], [], [], [500, 159, 496, 495, 146, 1336, 1337, 95, 1339, 1039, 1040, 86])
theorem ok_X10_release : mt_ok M_X10_release = true := by decide +kernel
theorem cw_X10_release : Cond.code (mt_y M_X10_release) (mt_b M_X10_release) (mt_l M_X10_release) (mt_r M_X10_release) ∈ lw_tbl := List.mem_of_getElem? (i := 1335) (by decide +kernel)
def M_X10_tell : MT := (my_X10_tell, prog_12_method_10_code, 2, (some .int), [], [(0, .iload_n 1, 1), (1, .lookupswitch 37 #[(0, 27), (1, 32)], 27), (28, .aload_n 0, 1), (29, .getfield 34, 3), (32, .ireturn, 1), (33, .aload_n 0, 1), (34, .getfield 37, 3), (37, .ireturn, 1), (38, .aload_n 0, 1), (39, .getfield 11, 3), (42, .invokestatic 99, 3), (45, .ireturn, 1)], [(34, 10, 3), (37, 10, 4), (11, 10, 5)], [(99, my_X10_votesIn, 1, 1, 1, 0, 0)], [], [], [498, 499, 500, 1477, 1415, 95])
theorem ok_X10_tell : mt_ok M_X10_tell = true := by decide +kernel
theorem cw_X10_tell : Cond.code (mt_y M_X10_tell) (mt_b M_X10_tell) (mt_l M_X10_tell) (mt_r M_X10_tell) ∈ lw_tbl := List.mem_of_getElem? (i := 1476) (by decide +kernel)
end
section
/-! ===== records of methods ===== -/
def M_X11_init : MT := (my_X11_init, prog_1_method_1_code, 2, none, [], [(0, .aload_n 0, 1), (1, .invokespecial 1, 3), (4, .aload_n 0, 1), (5, .new 7, 3), (8, .dup, 1), (9, .invokespecial 9, 3), (12, .putfield 10, 3), (15, .aload_n 0, 1), (16, .sipush 300, 3), (19, .newarray .int, 2), (21, .putfield 16, 3), (24, .aload_n 0, 1), (25, .new 20, 3), (28, .dup, 1), (29, .aload_n 0, 1), (30, .getfield 16, 3), (33, .invokespecial 22, 3), (36, .putfield 25, 3), (39, .aload_n 0, 1), (40, .new 29, 3), (43, .dup, 1), (44, .aload_n 0, 1), (45, .getfield 10, 3), (48, .invokespecial 31, 3), (51, .putfield 34, 3), (54, .aload_n 0, 1), (55, .iconst 4, 1), (56, .newarray .int, 2), (58, .putfield 38, 3), (61, .aload_n 0, 1), (62, .iconst 3, 1), (63, .anewarray 41, 3), (66, .putfield 43, 3), (69, .iconst 0, 1), (70, .istore_n 1, 1), (71, .iload_n 1, 1), (72, .iconst 3, 1), (73, .if_icmp .ge 31, 3), (76, .aload_n 0, 1), (77, .getfield 43, 3), (80, .iload_n 1, 1), (81, .new 41, 3), (84, .dup, 1), (85, .iload_n 1, 1), (86, .aload_n 0, 1), (87, .getfield 10, 3), (90, .aload_n 0, 1), (91, .getfield 16, 3), (94, .invokespecial 47, 3), (97, .aastore, 1), (98, .iinc 1 1, 3), (101, .goto (-30), 3), (104, .aload_n 0, 1), (105, .bipush 9, 2), (107, .anewarray 50, 3), (110, .putfield 52, 3), (113, .iconst 0, 1), (114, .istore_n 1, 1), (115, .iload_n 1, 1), (116, .bipush 9, 2), (118, .if_icmp .ge 31, 3), (121, .aload_n 0, 1), (122, .getfield 52, 3), (125, .iload_n 1, 1), (126, .new 50, 3), (129, .dup, 1), (130, .iload_n 1, 1), (131, .aload_n 0, 1), (132, .getfield 10, 3), (135, .aload_n 0, 1), (136, .getfield 16, 3), (139, .invokespecial 56, 3), (142, .aastore, 1), (143, .iinc 1 1, 3), (146, .goto (-31), 3), (149, .aload_n 0, 1), (150, .bipush 12, 2), (152, .anewarray 57, 3), (155, .putfield 59, 3), (158, .iconst 0, 1), (159, .istore_n 1, 1), (160, .iload_n 1, 1), (161, .bipush 12, 2), (163, .if_icmp .ge 31, 3), (166, .aload_n 0, 1), (167, .getfield 59, 3), (170, .iload_n 1, 1), (171, .new 57, 3), (174, .dup, 1), (175, .iload_n 1, 1), (176, .aload_n 0, 1), (177, .getfield 10, 3), (180, .aload_n 0, 1), (181, .getfield 25, 3), (184, .invokespecial 63, 3), (187, .aastore, 1), (188, .iinc 1 1, 3), (191, .goto (-31), 3), (194, .aload_n 0, 1), (195, .invokevirtual 66, 3), (198, .return_, 1)], [(10, 11, 0), (16, 11, 1), (25, 11, 2), (34, 11, 6), (38, 11, 7), (43, 11, 3), (52, 11, 4), (59, 11, 5)], [(1, objectInit, 0, 3, 0, 0, 0), (9, my_X0_init, 0, 2, 2, 805, 10450), (22, my_X9_init, 1, 2, 1, 2, 1216), (31, my_X2_init, 1, 2, 1, 1, 48), (47, my_X5_init, 3, 2, 2, 10, 124), (56, my_X3_init, 3, 2, 1, 1, 10), (63, my_X10_init, 3, 2, 1, 1, 16), (66, my_X11_resetAll, 0, 21, 7, 0, 0)], [(7, 0), (20, 9), (29, 2), (41, 25), (50, 23), (57, 30)], [], [926, 927, 928, 932, 933, 929, 930, 931, 121, 122, 123, 126, 127, 86, 238, 239, 88, 260, 261, 89, 279, 280, 90, 446, 447, 94, 491, 492, 95, 515, 517, 0, 85, 124, 125, 86, 236, 237, 88, 258, 259, 89, 276, 443, 488])
theorem ok_X11_init : mt_ok M_X11_init = true := by decide +kernel
theorem cw_X11_init : Cond.code (mt_y M_X11_init) (mt_b M_X11_init) (mt_l M_X11_init) (mt_r M_X11_init) ∈ lw_tbl := List.mem_of_getElem? (i := 120) (by decide +kernel)
def M_X11_begin : MT := (my_X11_begin, prog_1_method_2_code, 5, (some .int), [], [(0, .aload_n 0, 1), (1, .iload_n 1, 1), (2, .invokevirtual 69, 3), (5, .astore 4, 2), (7, .iload_n 1, 1), (8, .iload_n 2, 1), (9, .invokestatic 73, 3), (12, .ifCond .eq 19, 3), (15, .iload_n 2, 1), (16, .aload 4, 2), (18, .getfield 77, 3), (21, .if_icmp .le 10, 3), (24, .iload_n 3, 1), (25, .invokestatic 81, 3), (28, .ifCond .ne 13, 3), (31, .new 85, 3), (34, .dup, 1), (35, .ldc 87, 2), (37, .invokespecial 89, 3), (40, .athrow, 1), (41, .aload_n 0, 1), (42, .iload_n 1, 1), (43, .invokevirtual 92, 3), (46, .aload_n 0, 1), (47, .getfield 16, 3), (50, .iload_n 2, 1), (51, .iload_n 3, 1), (52, .iastore, 1), (53, .aload_n 0, 1), (54, .dup, 1), (55, .getfield 96, 3), (58, .iconst 1, 1), (59, .iadd, 1), (60, .putfield 96, 3), (63, .aload 4, 2), (65, .iload_n 2, 1), (66, .iload_n 3, 1), (67, .invokevirtual 99, 3), (70, .aload_n 0, 1), (71, .getfield 10, 3), (74, .getfield 103, 3), (77, .ireturn, 1)], [(77, 5, 7), (16, 11, 1), (96, 11, 9), (10, 11, 0), (103, 0, 4)], [(69, my_X11_leaderAt, 1, 21, 2, 1, 6), (73, my_X11_isRoundOf, 2, 1, 1, 0, 0), (81, my_X11_isGroup, 1, 1, 2, 0, 0), (92, my_X11_requireUp, 1, 21, 3, 1, 6), (99, my_X5_beginRound, 2, 15, 6, 0, 0)], [], [], [398, 927, 935, 926, 216, 971, 973, 6, 85, 991, 992, 85, 994, 995, 85, 1006, 1008, 7, 85, 1030, 1031, 1032, 90])
theorem ok_X11_begin : mt_ok M_X11_begin = true := by decide +kernel
theorem cw_X11_begin : Cond.code (mt_y M_X11_begin) (mt_b M_X11_begin) (mt_l M_X11_begin) (mt_r M_X11_begin) ∈ lw_tbl := List.mem_of_getElem? (i := 970) (by decide +kernel)
def M_X11_propose : MT := (my_X11_propose, prog_1_method_3_code, 4, (some .int), [], [(0, .aload_n 0, 1), (1, .iload_n 1, 1), (2, .invokevirtual 69, 3), (5, .astore_n 3, 1), (6, .iload_n 2, 1), (7, .iconst 1, 1), (8, .if_icmp .lt 9, 3), (11, .iload_n 2, 1), (12, .ldc 106, 2), (14, .if_icmp .le 13, 3), (17, .new 85, 3), (20, .dup, 1), (21, .ldc 107, 2), (23, .invokespecial 89, 3), (26, .athrow, 1), (27, .aload_n 0, 1), (28, .iload_n 1, 1), (29, .invokevirtual 92, 3), (32, .aload_n 3, 1), (33, .iload_n 2, 1), (34, .invokevirtual 109, 3), (37, .ireturn, 1)], [], [(69, my_X11_leaderAt, 1, 21, 2, 1, 6), (92, my_X11_requireUp, 1, 21, 3, 1, 6), (109, my_X5_proposeNext, 1, 15, 3, 0, 0)], [], [(106, 1000000)], [971, 973, 6, 85, 1006, 1008, 7, 85, 1051, 1052, 1053, 90, 1049])
theorem ok_X11_propose : mt_ok M_X11_propose = true := by decide +kernel
theorem cw_X11_propose : Cond.code (mt_y M_X11_propose) (mt_b M_X11_propose) (mt_l M_X11_propose) (mt_r M_X11_propose) ∈ lw_tbl := List.mem_of_getElem? (i := 1048) (by decide +kernel)
def M_X11_collect : MT := (my_X11_collect, prog_1_method_4_code, 3, (some .boolean), [], [(0, .aload_n 0, 1), (1, .iload_n 1, 1), (2, .invokevirtual 69, 3), (5, .astore_n 2, 1), (6, .aload_n 0, 1), (7, .iload_n 1, 1), (8, .invokevirtual 92, 3), (11, .aload_n 2, 1), (12, .invokevirtual 113, 3), (15, .ireturn, 1)], [], [(69, my_X11_leaderAt, 1, 21, 2, 1, 6), (92, my_X11_requireUp, 1, 21, 3, 1, 6), (113, my_X5_startCollecting, 0, 15, 3, 0, 0)], [], [], [971, 973, 6, 85, 1006, 1008, 7, 85, 1069, 1070, 1071, 90])
theorem ok_X11_collect : mt_ok M_X11_collect = true := by decide +kernel
theorem cw_X11_collect : Cond.code (mt_y M_X11_collect) (mt_b M_X11_collect) (mt_l M_X11_collect) (mt_r M_X11_collect) ∈ lw_tbl := List.mem_of_getElem? (i := 1068) (by decide +kernel)
def M_X11_reform : MT := (my_X11_reform, prog_1_method_5_code, 5, (some .int), [], [(0, .aload_n 0, 1), (1, .iload_n 1, 1), (2, .invokevirtual 69, 3), (5, .astore 4, 2), (7, .iload_n 1, 1), (8, .iload_n 2, 1), (9, .invokestatic 73, 3), (12, .ifCond .eq 22, 3), (15, .iload_n 2, 1), (16, .aload 4, 2), (18, .getfield 117, 3), (21, .getfield 121, 3), (24, .if_icmp .le 10, 3), (27, .iload_n 3, 1), (28, .invokestatic 126, 3), (31, .ifCond .ne 13, 3), (34, .new 85, 3), (37, .dup, 1), (38, .ldc 129, 2), (40, .invokespecial 89, 3), (43, .athrow, 1), (44, .aload_n 0, 1), (45, .iload_n 1, 1), (46, .invokevirtual 92, 3), (49, .aload 4, 2), (51, .getfield 117, 3), (54, .iload_n 2, 1), (55, .iload_n 3, 1), (56, .invokevirtual 131, 3), (59, .aload_n 0, 1), (60, .getfield 10, 3), (63, .getfield 103, 3), (66, .ireturn, 1)], [(117, 5, 3), (121, 4, 5), (10, 11, 0), (103, 0, 4)], [(69, my_X11_leaderAt, 1, 21, 2, 1, 6), (73, my_X11_isRoundOf, 2, 1, 1, 0, 0), (126, my_X11_isSet, 1, 1, 2, 0, 0), (92, my_X11_requireUp, 1, 21, 3, 1, 6), (131, my_X4_startReform, 2, 14, 5, 0, 0)], [], [], [391, 298, 926, 216, 971, 973, 6, 85, 991, 992, 85, 1092, 1093, 85, 1006, 1008, 7, 85, 1096, 1097, 1098, 91])
theorem ok_X11_reform : mt_ok M_X11_reform = true := by decide +kernel
theorem cw_X11_reform : Cond.code (mt_y M_X11_reform) (mt_b M_X11_reform) (mt_l M_X11_reform) (mt_r M_X11_reform) ∈ lw_tbl := List.mem_of_getElem? (i := 1091) (by decide +kernel)
def M_X11_again : MT := (my_X11_again, prog_1_method_6_code, 4, (some .int), [], [(0, .aload_n 0, 1), (1, .iload_n 1, 1), (2, .invokevirtual 69, 3), (5, .astore_n 2, 1), (6, .aload_n 0, 1), (7, .iload_n 1, 1), (8, .invokevirtual 92, 3), (11, .aload_n 0, 1), (12, .getfield 10, 3), (15, .getfield 134, 3), (18, .istore_n 3, 1), (19, .aload_n 2, 1), (20, .invokevirtual 137, 3), (23, .aload_n 0, 1), (24, .getfield 10, 3), (27, .getfield 134, 3), (30, .iload_n 3, 1), (31, .isub, 1), (32, .ireturn, 1)], [(10, 11, 0), (134, 0, 6)], [(69, my_X11_leaderAt, 1, 21, 2, 1, 6), (92, my_X11_requireUp, 1, 21, 3, 1, 6), (137, my_X5_sendAgain, 0, 15, 4, 0, 0)], [], [], [926, 220, 971, 973, 6, 85, 1006, 1008, 7, 85, 1121, 1122, 1123, 90])
theorem ok_X11_again : mt_ok M_X11_again = true := by decide +kernel
theorem cw_X11_again : Cond.code (mt_y M_X11_again) (mt_b M_X11_again) (mt_l M_X11_again) (mt_r M_X11_again) ∈ lw_tbl := List.mem_of_getElem? (i := 1120) (by decide +kernel)
def M_X11_deliver : MT := (my_X11_deliver, prog_1_method_7_code, 3, (some .int), [], [(0, .iload_n 1, 1), (1, .aload_n 0, 1), (2, .getfield 10, 3), (5, .getfield 103, 3), (8, .invokestatic 140, 3), (11, .aload_n 0, 1), (12, .getfield 10, 3), (15, .iload_n 1, 1), (16, .invokevirtual 143, 3), (19, .astore_n 2, 1), (20, .aload_n 0, 1), (21, .aload_n 2, 1), (22, .invokevirtual 147, 3), (25, .aload_n 2, 1), (26, .getfield 151, 3), (29, .ireturn, 1)], [(10, 11, 0), (103, 0, 4), (151, 6, 0)], [(140, my_X11_requireIndex, 2, 1, 1, 1, 6), (143, my_X0_take, 1, 10, 2, 0, 0), (147, my_X11_bring, 1, 21, 7, 0, 0)], [], [], [926, 216, 141, 975, 976, 85, 1149, 1150, 1151, 86, 1157, 1159, 13, 85])
theorem ok_X11_deliver : mt_ok M_X11_deliver = true := by decide +kernel
theorem cw_X11_deliver : Cond.code (mt_y M_X11_deliver) (mt_b M_X11_deliver) (mt_l M_X11_deliver) (mt_r M_X11_deliver) ∈ lw_tbl := List.mem_of_getElem? (i := 1148) (by decide +kernel)
def M_X11_run : MT := (my_X11_run, prog_1_method_8_code, 3, (some .int), [], [(0, .iload_n 1, 1), (1, .ifCond .lt 10, 3), (4, .iload_n 1, 1), (5, .sipush 2000, 3), (8, .if_icmp .le 13, 3), (11, .new 85, 3), (14, .dup, 1), (15, .ldc 156, 2), (17, .invokespecial 89, 3), (20, .athrow, 1), (21, .iconst 0, 1), (22, .istore_n 2, 1), (23, .iload_n 2, 1), (24, .iload_n 1, 1), (25, .if_icmp .ge 31, 3), (28, .aload_n 0, 1), (29, .getfield 10, 3), (32, .getfield 103, 3), (35, .ifCond .le 21, 3), (38, .aload_n 0, 1), (39, .aload_n 0, 1), (40, .getfield 10, 3), (43, .iconst 0, 1), (44, .invokevirtual 143, 3), (47, .invokevirtual 147, 3), (50, .iinc 2 1, 3), (53, .goto (-30), 3), (56, .iload_n 2, 1), (57, .ireturn, 1)], [(10, 11, 0), (103, 0, 4)], [(143, my_X0_take, 1, 10, 2, 0, 0), (147, my_X11_bring, 1, 21, 7, 0, 0)], [], [], [926, 216, 1149, 1150, 1151, 86, 1157, 1159, 13, 85])
theorem ok_X11_run : mt_ok M_X11_run = true := by decide +kernel
theorem cw_X11_run : Cond.code (mt_y M_X11_run) (mt_b M_X11_run) (mt_l M_X11_run) (mt_r M_X11_run) ∈ lw_tbl := List.mem_of_getElem? (i := 1368) (by decide +kernel)
def M_X11_lose : MT := (my_X11_lose, prog_1_method_9_code, 2, (some .int), [], [(0, .iload_n 1, 1), (1, .aload_n 0, 1), (2, .getfield 10, 3), (5, .getfield 103, 3), (8, .invokestatic 140, 3), (11, .aload_n 0, 1), (12, .getfield 10, 3), (15, .iload_n 1, 1), (16, .invokevirtual 143, 3), (19, .getfield 151, 3), (22, .ireturn, 1)], [(10, 11, 0), (103, 0, 4), (151, 6, 0)], [(140, my_X11_requireIndex, 2, 1, 1, 1, 6), (143, my_X0_take, 1, 10, 2, 0, 0)], [], [], [926, 216, 141, 975, 976, 85, 1149, 1150, 1151, 86])
theorem ok_X11_lose : mt_ok M_X11_lose = true := by decide +kernel
theorem cw_X11_lose : Cond.code (mt_y M_X11_lose) (mt_b M_X11_lose) (mt_l M_X11_lose) (mt_r M_X11_lose) ∈ lw_tbl := List.mem_of_getElem? (i := 1376) (by decide +kernel)
def M_X11_twice : MT := (my_X11_twice, prog_1_method_10_code, 4, (some .int), [], [(0, .iload_n 1, 1), (1, .aload_n 0, 1), (2, .getfield 10, 3), (5, .getfield 103, 3), (8, .invokestatic 140, 3), (11, .aload_n 0, 1), (12, .getfield 10, 3), (15, .iload_n 1, 1), (16, .invokevirtual 158, 3), (19, .astore_n 2, 1), (20, .aload_n 0, 1), (21, .getfield 10, 3), (24, .aload_n 2, 1), (25, .getfield 151, 3), (28, .aload_n 2, 1), (29, .getfield 161, 3), (32, .aload_n 2, 1), (33, .getfield 164, 3), (36, .aload_n 2, 1), (37, .getfield 167, 3), (40, .aload_n 2, 1), (41, .getfield 170, 3), (44, .aload_n 2, 1), (45, .getfield 173, 3), (48, .invokevirtual 176, 3), (51, .astore_n 3, 1), (52, .aload_n 3, 1), (53, .aload_n 2, 1), (54, .invokevirtual 180, 3), (57, .aload_n 0, 1), (58, .getfield 10, 3), (61, .getfield 103, 3), (64, .ireturn, 1)], [(10, 11, 0), (103, 0, 4), (151, 6, 0), (161, 6, 1), (164, 6, 2), (167, 6, 3), (170, 6, 4), (173, 6, 5)], [(140, my_X11_requireIndex, 2, 1, 1, 1, 6), (158, my_X0_at, 1, 10, 1, 0, 0), (176, my_X0_send, 6, 10, 1, 0, 0), (180, my_X6_takeLoadOf, 1, 16, 1, 0, 0)], [], [], [926, 216, 141, 149, 154, 161, 169, 176, 975, 976, 85, 1384, 1154, 1155, 86, 1385, 1039, 1040, 86, 1386, 1387, 1388, 87])
theorem ok_X11_twice : mt_ok M_X11_twice = true := by decide +kernel
theorem cw_X11_twice : Cond.code (mt_y M_X11_twice) (mt_b M_X11_twice) (mt_l M_X11_twice) (mt_r M_X11_twice) ∈ lw_tbl := List.mem_of_getElem? (i := 1383) (by decide +kernel)
def M_X11_up : MT := (my_X11_up, prog_1_method_11_code, 5, (some .boolean), [], [(0, .iload_n 1, 1), (1, .iconst 4, 1), (2, .invokestatic 140, 3), (5, .iload_n 2, 1), (6, .iload_n 1, 1), (7, .invokestatic 183, 3), (10, .invokestatic 140, 3), (13, .aload_n 0, 1), (14, .iload_n 1, 1), (15, .iload_n 2, 1), (16, .invokevirtual 186, 3), (19, .istore 4, 2), (21, .iload_n 3, 1), (22, .ifCond .eq 18, 3), (25, .aload_n 0, 1), (26, .getfield 38, 3), (29, .iload_n 1, 1), (30, .dup2, 1), (31, .iaload, 1), (32, .iconst 1, 1), (33, .iload_n 2, 1), (34, .ishl, 1), (35, .ior, 1), (36, .iastore, 1), (37, .goto 17, 3), (40, .aload_n 0, 1), (41, .getfield 38, 3), (44, .iload_n 1, 1), (45, .dup2, 1), (46, .iaload, 1), (47, .iconst 1, 1), (48, .iload_n 2, 1), (49, .ishl, 1), (50, .iconst (-1), 1), (51, .ixor, 1), (52, .iand, 1), (53, .iastore, 1), (54, .iload 4, 2), (56, .ireturn, 1)], [(38, 11, 7)], [(140, my_X11_requireIndex, 2, 1, 1, 1, 6), (183, my_X11_nodesOf, 1, 1, 1, 0, 0), (186, my_X11_isUp, 2, 21, 2, 0, 0)], [], [], [933, 975, 976, 85, 923, 924, 85, 1010, 1012, 8, 85])
theorem ok_X11_up : mt_ok M_X11_up = true := by decide +kernel
theorem cw_X11_up : Cond.code (mt_y M_X11_up) (mt_b M_X11_up) (mt_l M_X11_up) (mt_r M_X11_up) ∈ lw_tbl := List.mem_of_getElem? (i := 1397) (by decide +kernel)
def M_X11_message : MT := (my_X11_message, prog_1_method_12_code, 3, (some .int), [], [(0, .iload_n 1, 1), (1, .aload_n 0, 1), (2, .getfield 10, 3), (5, .getfield 103, 3), (8, .invokestatic 140, 3), (11, .iload_n 2, 1), (12, .bipush 9, 2), (14, .invokestatic 140, 3), (17, .aload_n 0, 1), (18, .getfield 10, 3), (21, .iload_n 1, 1), (22, .invokevirtual 158, 3), (25, .iload_n 2, 1), (26, .invokevirtual 189, 3), (29, .ireturn, 1)], [(10, 11, 0), (103, 0, 4)], [(140, my_X11_requireIndex, 2, 1, 1, 1, 6), (158, my_X0_at, 1, 10, 1, 0, 0), (189, my_X6_tell, 1, 16, 4, 0, 0)], [], [], [926, 216, 975, 976, 85, 1384, 1154, 1155, 86, 1405, 1406, 1407, 87])
theorem ok_X11_message : mt_ok M_X11_message = true := by decide +kernel
theorem cw_X11_message : Cond.code (mt_y M_X11_message) (mt_b M_X11_message) (mt_l M_X11_message) (mt_r M_X11_message) ∈ lw_tbl := List.mem_of_getElem? (i := 1404) (by decide +kernel)
def M_X11_leader : MT := (my_X11_leader, prog_1_method_13_code, 4, (some .int), [], [(0, .aload_n 0, 1), (1, .iload_n 1, 1), (2, .invokevirtual 69, 3), (5, .astore_n 3, 1), (6, .iload_n 2, 1), (7, .bipush 14, 2), (9, .invokestatic 140, 3), (12, .aload_n 3, 1), (13, .iload_n 2, 1), (14, .invokevirtual 192, 3), (17, .ireturn, 1)], [], [(69, my_X11_leaderAt, 1, 21, 2, 1, 6), (140, my_X11_requireIndex, 2, 1, 1, 1, 6), (192, my_X5_tell, 1, 15, 3, 0, 0)], [], [], [971, 973, 6, 85, 975, 976, 85, 1424, 1425, 1426, 90])
theorem ok_X11_leader : mt_ok M_X11_leader = true := by decide +kernel
theorem cw_X11_leader : Cond.code (mt_y M_X11_leader) (mt_b M_X11_leader) (mt_l M_X11_leader) (mt_r M_X11_leader) ∈ lw_tbl := List.mem_of_getElem? (i := 1423) (by decide +kernel)
def M_X11_slot : MT := (my_X11_slot, prog_1_method_14_code, 5, (some .int), [], [(0, .aload_n 0, 1), (1, .iload_n 1, 1), (2, .invokevirtual 69, 3), (5, .astore 4, 2), (7, .iload_n 2, 1), (8, .bipush 16, 2), (10, .invokestatic 140, 3), (13, .iload_n 3, 1), (14, .iconst 4, 1), (15, .invokestatic 140, 3), (18, .iload_n 3, 1), (19, .ifCond .ne 14, 3), (22, .aload 4, 2), (24, .getfield 193, 3), (27, .iconst 3, 1), (28, .if_icmp .eq 5, 3), (31, .iconst 0, 1), (32, .ireturn, 1), (33, .aload 4, 2), (35, .getfield 196, 3), (38, .iload_n 2, 1), (39, .iload_n 3, 1), (40, .invokevirtual 200, 3), (43, .ireturn, 1)], [(193, 5, 6), (196, 5, 4)], [(69, my_X11_leaderAt, 1, 21, 2, 1, 6), (140, my_X11_requireIndex, 2, 1, 1, 1, 6), (200, my_X8_tell, 2, 18, 2, 0, 0)], [], [], [396, 393, 971, 973, 6, 85, 975, 976, 85, 1440, 1441, 1442, 92])
theorem ok_X11_slot : mt_ok M_X11_slot = true := by decide +kernel
theorem cw_X11_slot : Cond.code (mt_y M_X11_slot) (mt_b M_X11_slot) (mt_l M_X11_slot) (mt_r M_X11_slot) ∈ lw_tbl := List.mem_of_getElem? (i := 1439) (by decide +kernel)
def M_X11_keeper : MT := (my_X11_keeper, prog_1_method_15_code, 3, (some .int), [], [(0, .iload_n 1, 1), (1, .bipush 9, 2), (3, .invokestatic 140, 3), (6, .iload_n 2, 1), (7, .bipush 8, 2), (9, .invokestatic 140, 3), (12, .aload_n 0, 1), (13, .getfield 52, 3), (16, .iload_n 1, 1), (17, .aaload, 1), (18, .iload_n 2, 1), (19, .invokevirtual 205, 3), (22, .ireturn, 1)], [(52, 11, 4)], [(140, my_X11_requireIndex, 2, 1, 1, 1, 6), (205, my_X3_tell, 1, 13, 3, 0, 0)], [], [], [930, 975, 976, 85, 1451, 1452, 1453, 94])
theorem ok_X11_keeper : mt_ok M_X11_keeper = true := by decide +kernel
theorem cw_X11_keeper : Cond.code (mt_y M_X11_keeper) (mt_b M_X11_keeper) (mt_l M_X11_keeper) (mt_r M_X11_keeper) ∈ lw_tbl := List.mem_of_getElem? (i := 1450) (by decide +kernel)
end
section
/-! ===== records of methods ===== -/
def M_X11_entry : MT := (my_X11_entry, prog_1_method_16_code, 5, (some .int), [], [(0, .iload_n 1, 1), (1, .bipush 9, 2), (3, .invokestatic 140, 3), (6, .aload_n 0, 1), (7, .getfield 52, 3), (10, .iload_n 1, 1), (11, .aaload, 1), (12, .getfield 206, 3), (15, .iload_n 2, 1), (16, .invokestatic 209, 3), (19, .istore 4, 2), (21, .iload 4, 2), (23, .sipush 300, 3), (26, .invokestatic 140, 3), (29, .iload_n 3, 1), (30, .ifCond .eq 13, 3), (33, .aload_n 0, 1), (34, .getfield 16, 3), (37, .iload 4, 2), (39, .iaload, 1), (40, .goto 5, 3), (43, .iload 4, 2), (45, .ireturn, 1)], [(52, 11, 4), (206, 3, 7), (16, 11, 1)], [(140, my_X11_requireIndex, 2, 1, 1, 1, 6), (209, my_X7_at, 2, 1, 2, 0, 0)], [], [], [930, 458, 927, 975, 976, 85, 1462, 1463, 97])
theorem ok_X11_entry : mt_ok M_X11_entry = true := by decide +kernel
theorem cw_X11_entry : Cond.code (mt_y M_X11_entry) (mt_b M_X11_entry) (mt_l M_X11_entry) (mt_r M_X11_entry) ∈ lw_tbl := List.mem_of_getElem? (i := 1461) (by decide +kernel)
def M_X11_voter : MT := (my_X11_voter, prog_1_method_17_code, 3, (some .int), [], [(0, .iload_n 1, 1), (1, .bipush 12, 2), (3, .invokestatic 140, 3), (6, .iload_n 2, 1), (7, .iconst 3, 1), (8, .invokestatic 140, 3), (11, .aload_n 0, 1), (12, .getfield 59, 3), (15, .iload_n 1, 1), (16, .aaload, 1), (17, .iload_n 2, 1), (18, .invokevirtual 214, 3), (21, .ireturn, 1)], [(59, 11, 5)], [(140, my_X11_requireIndex, 2, 1, 1, 1, 6), (214, my_X10_tell, 1, 20, 2, 0, 0)], [], [], [931, 975, 976, 85, 1473, 1474, 1475, 95])
theorem ok_X11_voter : mt_ok M_X11_voter = true := by decide +kernel
theorem cw_X11_voter : Cond.code (mt_y M_X11_voter) (mt_b M_X11_voter) (mt_l M_X11_voter) (mt_r M_X11_voter) ∈ lw_tbl := List.mem_of_getElem? (i := 1472) (by decide +kernel)
def M_X11_vote : MT := (my_X11_vote, prog_1_method_18_code, 5, (some .int), [], [(0, .iload_n 1, 1), (1, .bipush 12, 2), (3, .invokestatic 140, 3), (6, .iload_n 2, 1), (7, .bipush 16, 2), (9, .invokestatic 140, 3), (12, .aload_n 0, 1), (13, .getfield 59, 3), (16, .iload_n 1, 1), (17, .aaload, 1), (18, .getfield 215, 3), (21, .iload_n 2, 1), (22, .iaload, 1), (23, .istore 4, 2), (25, .iload_n 3, 1), (26, .ifCond .eq 11, 3), (29, .iload 4, 2), (31, .invokestatic 218, 3), (34, .goto 8, 3), (37, .iload 4, 2), (39, .invokestatic 221, 3), (42, .ireturn, 1)], [(59, 11, 5), (215, 10, 5)], [(140, my_X11_requireIndex, 2, 1, 1, 1, 6), (218, my_X10_valueOf, 1, 1, 1, 0, 0), (221, my_X10_roundOf, 1, 1, 1, 0, 0)], [], [], [931, 501, 975, 976, 85, 1485, 1194, 95, 1486, 1337, 95])
theorem ok_X11_vote : mt_ok M_X11_vote = true := by decide +kernel
theorem cw_X11_vote : Cond.code (mt_y M_X11_vote) (mt_b M_X11_vote) (mt_l M_X11_vote) (mt_r M_X11_vote) ∈ lw_tbl := List.mem_of_getElem? (i := 1484) (by decide +kernel)
def M_X11_copy : MT := (my_X11_copy, prog_1_method_19_code, 3, (some .int), [], [(0, .iload_n 1, 1), (1, .iconst 3, 1), (2, .invokestatic 140, 3), (5, .iload_n 2, 1), (6, .bipush 16, 2), (8, .invokestatic 140, 3), (11, .aload_n 0, 1), (12, .getfield 34, 3), (15, .getfield 224, 3), (18, .iload_n 1, 1), (19, .bipush 16, 2), (21, .imul, 1), (22, .iload_n 2, 1), (23, .iadd, 1), (24, .iaload, 1), (25, .ireturn, 1)], [(34, 11, 6), (224, 2, 1)], [(140, my_X11_requireIndex, 2, 1, 1, 1, 6)], [], [], [932, 266, 975, 976, 85])
theorem ok_X11_copy : mt_ok M_X11_copy = true := by decide +kernel
theorem cw_X11_copy : Cond.code (mt_y M_X11_copy) (mt_b M_X11_copy) (mt_l M_X11_copy) (mt_r M_X11_copy) ∈ lw_tbl := List.mem_of_getElem? (i := 1493) (by decide +kernel)
def M_X11_agreed : MT := (my_X11_agreed, prog_1_method_20_code, 2, (some .int), [], [(0, .iload_n 1, 1), (1, .bipush 16, 2), (3, .invokestatic 140, 3), (6, .aload_n 0, 1), (7, .getfield 25, 3), (10, .getfield 227, 3), (13, .iload_n 1, 1), (14, .iaload, 1), (15, .ireturn, 1)], [(25, 11, 2), (227, 9, 2)], [(140, my_X11_requireIndex, 2, 1, 1, 1, 6)], [], [], [928, 245, 975, 976, 85])
theorem ok_X11_agreed : mt_ok M_X11_agreed = true := by decide +kernel
theorem cw_X11_agreed : Cond.code (mt_y M_X11_agreed) (mt_b M_X11_agreed) (mt_l M_X11_agreed) (mt_r M_X11_agreed) ∈ lw_tbl := List.mem_of_getElem? (i := 1500) (by decide +kernel)
def M_X11_count : MT := (my_X11_count, prog_1_method_21_code, 2, (some .int), [], [(0, .iload_n 1, 1), (1, .bipush 6, 2), (3, .invokestatic 140, 3), (6, .iload_n 1, 1), (7, .tableswitch 70 0 4 #[33, 41, 49, 54, 62], 33), (40, .aload_n 0, 1), (41, .getfield 10, 3), (44, .getfield 103, 3), (47, .ireturn, 1), (48, .aload_n 0, 1), (49, .getfield 10, 3), (52, .getfield 230, 3), (55, .ireturn, 1), (56, .aload_n 0, 1), (57, .getfield 233, 3), (60, .ireturn, 1), (61, .aload_n 0, 1), (62, .getfield 34, 3), (65, .getfield 236, 3), (68, .ireturn, 1), (69, .aload_n 0, 1), (70, .getfield 25, 3), (73, .getfield 239, 3), (76, .ireturn, 1), (77, .aload_n 0, 1), (78, .getfield 96, 3), (81, .ireturn, 1)], [(10, 11, 0), (103, 0, 4), (230, 0, 5), (233, 11, 8), (34, 11, 6), (236, 2, 2), (25, 11, 2), (239, 9, 3), (96, 11, 9)], [(140, my_X11_requireIndex, 2, 1, 1, 1, 6)], [], [], [926, 216, 218, 934, 932, 268, 928, 247, 935, 975, 976, 85])
theorem ok_X11_count : mt_ok M_X11_count = true := by decide +kernel
theorem cw_X11_count : Cond.code (mt_y M_X11_count) (mt_b M_X11_count) (mt_l M_X11_count) (mt_r M_X11_count) ∈ lw_tbl := List.mem_of_getElem? (i := 1507) (by decide +kernel)
def M_X11_clear : MT := (my_X11_clear, prog_1_method_22_code, 1, none, [], [(0, .aload_n 0, 1), (1, .invokevirtual 66, 3), (4, .return_, 1)], [], [(66, my_X11_resetAll, 0, 21, 7, 0, 0)], [], [], [515, 517, 0, 85])
theorem ok_X11_clear : mt_ok M_X11_clear = true := by decide +kernel
theorem cw_X11_clear : Cond.code (mt_y M_X11_clear) (mt_b M_X11_clear) (mt_l M_X11_clear) (mt_r M_X11_clear) ∈ lw_tbl := List.mem_of_getElem? (i := 960) (by decide +kernel)
def M_X11_resetAll : MT := (my_X11_resetAll, prog_1_method_23_code, 2, none, [], [(0, .aload_n 0, 1), (1, .getfield 10, 3), (4, .invokevirtual 242, 3), (7, .aload_n 0, 1), (8, .getfield 16, 3), (11, .iconst 0, 1), (12, .invokestatic 245, 3), (15, .aload_n 0, 1), (16, .getfield 25, 3), (19, .invokevirtual 251, 3), (22, .aload_n 0, 1), (23, .getfield 34, 3), (26, .invokevirtual 252, 3), (29, .iconst 0, 1), (30, .istore_n 1, 1), (31, .iload_n 1, 1), (32, .iconst 3, 1), (33, .if_icmp .ge 18, 3), (36, .aload_n 0, 1), (37, .getfield 43, 3), (40, .iload_n 1, 1), (41, .aaload, 1), (42, .invokevirtual 253, 3), (45, .iinc 1 1, 3), (48, .goto (-17), 3), (51, .iconst 0, 1), (52, .istore_n 1, 1), (53, .iload_n 1, 1), (54, .bipush 9, 2), (56, .if_icmp .ge 18, 3), (59, .aload_n 0, 1), (60, .getfield 52, 3), (63, .iload_n 1, 1), (64, .aaload, 1), (65, .invokevirtual 254, 3), (68, .iinc 1 1, 3), (71, .goto (-18), 3), (74, .iconst 0, 1), (75, .istore_n 1, 1), (76, .iload_n 1, 1), (77, .bipush 12, 2), (79, .if_icmp .ge 18, 3), (82, .aload_n 0, 1), (83, .getfield 59, 3), (86, .iload_n 1, 1), (87, .aaload, 1), (88, .invokevirtual 255, 3), (91, .iinc 1 1, 3), (94, .goto (-18), 3), (97, .iconst 0, 1), (98, .istore_n 1, 1), (99, .iload_n 1, 1), (100, .iconst 4, 1), (101, .if_icmp .ge 23, 3), (104, .aload_n 0, 1), (105, .getfield 38, 3), (108, .iload_n 1, 1), (109, .iconst 1, 1), (110, .iload_n 1, 1), (111, .invokestatic 183, 3), (114, .ishl, 1), (115, .iconst 1, 1), (116, .isub, 1), (117, .iastore, 1), (118, .iinc 1 1, 3), (121, .goto (-22), 3), (124, .aload_n 0, 1), (125, .iconst 0, 1), (126, .putfield 233, 3), (129, .aload_n 0, 1), (130, .iconst 0, 1), (131, .putfield 96, 3), (134, .return_, 1)], [(10, 11, 0), (16, 11, 1), (25, 11, 2), (34, 11, 6), (43, 11, 3), (52, 11, 4), (59, 11, 5), (38, 11, 7), (233, 11, 8), (96, 11, 9)], [(242, my_X0_reset, 0, 10, 1, 0, 0), (245, my_J7_fill_53178, 2, 1, 1, 0, 0), (251, my_X9_reset, 0, 19, 2, 0, 0), (252, my_X2_reset, 0, 12, 2, 0, 0), (253, my_X5_reset, 0, 15, 6, 0, 0), (254, my_X3_reset, 0, 13, 4, 0, 0), (255, my_X10_reset, 0, 20, 2, 0, 0), (183, my_X11_nodesOf, 1, 1, 1, 0, 0)], [], [], [926, 927, 928, 932, 929, 930, 931, 933, 934, 935, 519, 520, 521, 86, 523, 524, 96, 526, 527, 528, 88, 534, 535, 536, 89, 539, 540, 541, 90, 909, 910, 911, 94, 918, 919, 920, 95, 923, 924, 85])
theorem ok_X11_resetAll : mt_ok M_X11_resetAll = true := by decide +kernel
theorem cw_X11_resetAll : Cond.code (mt_y M_X11_resetAll) (mt_b M_X11_resetAll) (mt_l M_X11_resetAll) (mt_r M_X11_resetAll) ∈ lw_tbl := List.mem_of_getElem? (i := 518) (by decide +kernel)
def M_X11_leaderAt : MT := (my_X11_leaderAt, prog_1_method_24_code, 2, (some (.object "RoundKeepers$Leader")), [], [(0, .iload_n 1, 1), (1, .iconst 3, 1), (2, .invokestatic 140, 3), (5, .aload_n 0, 1), (6, .getfield 43, 3), (9, .iload_n 1, 1), (10, .aaload, 1), (11, .areturn, 1)], [(43, 11, 3)], [(140, my_X11_requireIndex, 2, 1, 1, 1, 6)], [], [], [929, 975, 976, 85])
theorem ok_X11_leaderAt : mt_ok M_X11_leaderAt = true := by decide +kernel
theorem cw_X11_leaderAt : Cond.code (mt_y M_X11_leaderAt) (mt_b M_X11_leaderAt) (mt_l M_X11_leaderAt) (mt_r M_X11_leaderAt) ∈ lw_tbl := List.mem_of_getElem? (i := 974) (by decide +kernel)
def M_X11_requireUp : MT := (my_X11_requireUp, prog_1_method_25_code, 2, none, [], [(0, .aload_n 0, 1), (1, .iconst 0, 1), (2, .iload_n 1, 1), (3, .invokevirtual 186, 3), (6, .ifCond .ne 14, 3), (9, .new 256, 3), (12, .dup, 1), (13, .ldc_w 258, 3), (16, .invokespecial 260, 3), (19, .athrow, 1), (20, .return_, 1)], [], [(186, my_X11_isUp, 2, 21, 2, 0, 0)], [], [], [1010, 1012, 8, 85])
theorem ok_X11_requireUp : mt_ok M_X11_requireUp = true := by decide +kernel
theorem cw_X11_requireUp : Cond.code (mt_y M_X11_requireUp) (mt_b M_X11_requireUp) (mt_l M_X11_requireUp) (mt_r M_X11_requireUp) ∈ lw_tbl := List.mem_of_getElem? (i := 1009) (by decide +kernel)
def M_X11_requireIndex : MT := (my_X11_requireIndex, prog_1_method_26_code, 2, none, [], [(0, .iload_n 0, 1), (1, .ifCond .lt 8, 3), (4, .iload_n 0, 1), (5, .iload_n 1, 1), (6, .if_icmp .lt 14, 3), (9, .new 261, 3), (12, .dup, 1), (13, .ldc_w 263, 3), (16, .invokespecial 265, 3), (19, .athrow, 1), (20, .return_, 1)], [], [], [], [], [])
theorem ok_X11_requireIndex : mt_ok M_X11_requireIndex = true := by decide +kernel
theorem cw_X11_requireIndex : Cond.code (mt_y M_X11_requireIndex) (mt_b M_X11_requireIndex) (mt_l M_X11_requireIndex) (mt_r M_X11_requireIndex) ∈ lw_tbl := List.mem_of_getElem? (i := 977) (by decide +kernel)
def M_X11_bring : MT := (my_X11_bring, prog_1_method_27_code, 3, none, [], [(0, .aload_n 1, 1), (1, .getfield 151, 3), (4, .invokestatic 266, 3), (7, .istore_n 2, 1), (8, .aload_n 0, 1), (9, .iload_n 2, 1), (10, .aload_n 1, 1), (11, .getfield 164, 3), (14, .invokevirtual 186, 3), (17, .ifCond .ne 17, 3), (20, .aload_n 0, 1), (21, .getfield 10, 3), (24, .dup, 1), (25, .getfield 230, 3), (28, .iconst 1, 1), (29, .iadd, 1), (30, .putfield 230, 3), (33, .return_, 1), (34, .aload_n 0, 1), (35, .dup, 1), (36, .getfield 233, 3), (39, .iconst 1, 1), (40, .iadd, 1), (41, .putfield 233, 3), (44, .iload_n 2, 1), (45, .ifCond .ne 19, 3), (48, .aload_n 0, 1), (49, .getfield 43, 3), (52, .aload_n 1, 1), (53, .getfield 164, 3), (56, .aaload, 1), (57, .aload_n 1, 1), (58, .invokevirtual 269, 3), (61, .goto 53, 3), (64, .iload_n 2, 1), (65, .iconst 1, 1), (66, .if_icmp .ne 19, 3), (69, .aload_n 0, 1), (70, .getfield 52, 3), (73, .aload_n 1, 1), (74, .getfield 164, 3), (77, .aaload, 1), (78, .aload_n 1, 1), (79, .invokevirtual 272, 3), (82, .goto 32, 3), (85, .iload_n 2, 1), (86, .iconst 2, 1), (87, .if_icmp .ne 19, 3), (90, .aload_n 0, 1), (91, .getfield 59, 3), (94, .aload_n 1, 1), (95, .getfield 164, 3), (98, .aaload, 1), (99, .aload_n 1, 1), (100, .invokevirtual 273, 3), (103, .goto 11, 3), (106, .aload_n 0, 1), (107, .getfield 34, 3), (110, .aload_n 1, 1), (111, .invokevirtual 274, 3), (114, .return_, 1)], [(151, 6, 0), (164, 6, 2), (10, 11, 0), (230, 0, 5), (233, 11, 8), (43, 11, 3), (52, 11, 4), (59, 11, 5), (34, 11, 6)], [(266, my_X11_receiverOf, 1, 1, 1, 0, 0), (186, my_X11_isUp, 2, 21, 2, 0, 0), (269, my_X5_receive, 1, 15, 6, 0, 0), (272, my_X3_receive, 1, 13, 5, 0, 0), (273, my_X10_receive, 1, 20, 5, 0, 0), (274, my_X2_receive, 1, 12, 2, 0, 0)], [], [], [141, 154, 926, 218, 934, 929, 930, 931, 932, 1161, 1162, 85, 1010, 1012, 8, 85, 1164, 1165, 1166, 90, 1258, 1259, 1260, 94, 1328, 1329, 1330, 95, 1356, 1357, 1358, 89])
theorem ok_X11_bring : mt_ok M_X11_bring = true := by decide +kernel
theorem cw_X11_bring : Cond.code (mt_y M_X11_bring) (mt_b M_X11_bring) (mt_l M_X11_bring) (mt_r M_X11_bring) ∈ lw_tbl := List.mem_of_getElem? (i := 1160) (by decide +kernel)
def M_X11_isUp : MT := (my_X11_isUp, prog_1_method_28_code, 3, (some .boolean), [], [(0, .iload_n 1, 1), (1, .ifCond .lt 37, 3), (4, .iload_n 1, 1), (5, .iconst 4, 1), (6, .if_icmp .ge 32, 3), (9, .iload_n 2, 1), (10, .ifCond .lt 28, 3), (13, .iload_n 2, 1), (14, .iload_n 1, 1), (15, .invokestatic 183, 3), (18, .if_icmp .ge 20, 3), (21, .aload_n 0, 1), (22, .getfield 38, 3), (25, .iload_n 1, 1), (26, .iaload, 1), (27, .iload_n 2, 1), (28, .ishr, 1), (29, .iconst 1, 1), (30, .iand, 1), (31, .ifCond .eq 7, 3), (34, .iconst 1, 1), (35, .goto 4, 3), (38, .iconst 0, 1), (39, .ireturn, 1)], [(38, 11, 7)], [(183, my_X11_nodesOf, 1, 1, 1, 0, 0)], [], [], [933, 923, 924, 85])
theorem ok_X11_isUp : mt_ok M_X11_isUp = true := by decide +kernel
theorem cw_X11_isUp : Cond.code (mt_y M_X11_isUp) (mt_b M_X11_isUp) (mt_l M_X11_isUp) (mt_r M_X11_isUp) ∈ lw_tbl := List.mem_of_getElem? (i := 1013) (by decide +kernel)
def M_X11_nodesOf : MT := (my_X11_nodesOf, prog_1_method_29_code, 1, (some .int), [], [(0, .iload_n 0, 1), (1, .tableswitch 41 0 3 #[31, 33, 36, 39], 31), (32, .iconst 3, 1), (33, .ireturn, 1), (34, .bipush 9, 2), (36, .ireturn, 1), (37, .bipush 12, 2), (39, .ireturn, 1), (40, .iconst 3, 1), (41, .ireturn, 1), (42, .iconst 0, 1), (43, .ireturn, 1)], [], [], [], [], [])
theorem ok_X11_nodesOf : mt_ok M_X11_nodesOf = true := by decide +kernel
theorem cw_X11_nodesOf : Cond.code (mt_y M_X11_nodesOf) (mt_b M_X11_nodesOf) (mt_l M_X11_nodesOf) (mt_r M_X11_nodesOf) ∈ lw_tbl := List.mem_of_getElem? (i := 925) (by decide +kernel)
def M_X11_receiverOf : MT := (my_X11_receiverOf, prog_1_method_30_code, 1, (some .int), [], [(0, .iload_n 0, 1), (1, .tableswitch 109 1 22 #[103, 109, 105, 109, 105, 109, 107, 109, 105, 109, 103, 109, 105, 109, 109, 103, 109, 103, 109, 103, 109, 103], 103), (104, .iconst 1, 1), (105, .ireturn, 1), (106, .iconst 2, 1), (107, .ireturn, 1), (108, .iconst 3, 1), (109, .ireturn, 1), (110, .iconst 0, 1), (111, .ireturn, 1)], [], [], [], [], [])
theorem ok_X11_receiverOf : mt_ok M_X11_receiverOf = true := by decide +kernel
theorem cw_X11_receiverOf : Cond.code (mt_y M_X11_receiverOf) (mt_b M_X11_receiverOf) (mt_l M_X11_receiverOf) (mt_r M_X11_receiverOf) ∈ lw_tbl := List.mem_of_getElem? (i := 1163) (by decide +kernel)
def M_X11_isRoundOf : MT := (my_X11_isRoundOf, prog_1_method_31_code, 2, (some .boolean), [], [(0, .iload_n 1, 1), (1, .ifCond .lt 21, 3), (4, .iload_n 1, 1), (5, .sipush 300, 3), (8, .if_icmp .ge 14, 3), (11, .iload_n 1, 1), (12, .iconst 3, 1), (13, .irem, 1), (14, .iload_n 0, 1), (15, .if_icmp .ne 7, 3), (18, .iconst 1, 1), (19, .goto 4, 3), (22, .iconst 0, 1), (23, .ireturn, 1)], [], [], [], [], [])
theorem ok_X11_isRoundOf : mt_ok M_X11_isRoundOf = true := by decide +kernel
theorem cw_X11_isRoundOf : Cond.code (mt_y M_X11_isRoundOf) (mt_b M_X11_isRoundOf) (mt_l M_X11_isRoundOf) (mt_r M_X11_isRoundOf) ∈ lw_tbl := List.mem_of_getElem? (i := 993) (by decide +kernel)
def M_X11_isGroup : MT := (my_X11_isGroup, prog_1_method_32_code, 1, (some .boolean), [], [(0, .iload_n 0, 1), (1, .ifCond .le 22, 3), (4, .iload_n 0, 1), (5, .sipush 4096, 3), (8, .if_icmp .ge 15, 3), (11, .iload_n 0, 1), (12, .invokestatic 275, 3), (15, .iconst 5, 1), (16, .if_icmp .gt 7, 3), (19, .iconst 1, 1), (20, .goto 4, 3), (23, .iconst 0, 1), (24, .ireturn, 1)], [], [(275, my_J6_bitCount_0f7a4, 1, 1, 1, 0, 0)], [], [], [997, 998, 111])
theorem ok_X11_isGroup : mt_ok M_X11_isGroup = true := by decide +kernel
theorem cw_X11_isGroup : Cond.code (mt_y M_X11_isGroup) (mt_b M_X11_isGroup) (mt_l M_X11_isGroup) (mt_r M_X11_isGroup) ∈ lw_tbl := List.mem_of_getElem? (i := 996) (by decide +kernel)
def M_X11_isSet : MT := (my_X11_isSet, prog_1_method_33_code, 1, (some .boolean), [], [(0, .iload_n 0, 1), (1, .ifCond .le 22, 3), (4, .iload_n 0, 1), (5, .sipush 512, 3), (8, .if_icmp .ge 15, 3), (11, .iload_n 0, 1), (12, .invokestatic 275, 3), (15, .iconst 3, 1), (16, .if_icmp .ne 7, 3), (19, .iconst 1, 1), (20, .goto 4, 3), (23, .iconst 0, 1), (24, .ireturn, 1)], [], [(275, my_J6_bitCount_0f7a4, 1, 1, 1, 0, 0)], [], [], [997, 998, 111])
theorem ok_X11_isSet : mt_ok M_X11_isSet = true := by decide +kernel
theorem cw_X11_isSet : Cond.code (mt_y M_X11_isSet) (mt_b M_X11_isSet) (mt_l M_X11_isSet) (mt_r M_X11_isSet) ∈ lw_tbl := List.mem_of_getElem? (i := 1094) (by decide +kernel)
def M_X11_isSlot : MT := (my_X11_isSlot, prog_1_method_34_code, 1, (some .boolean), [], [(0, .iload_n 0, 1), (1, .ifCond .lt 13, 3), (4, .iload_n 0, 1), (5, .bipush 16, 2), (7, .if_icmp .ge 7, 3), (10, .iconst 1, 1), (11, .goto 4, 3), (14, .iconst 0, 1), (15, .ireturn, 1)], [], [], [], [], [])
theorem ok_X11_isSlot : mt_ok M_X11_isSlot = true := by decide +kernel
theorem cw_X11_isSlot : Cond.code (mt_y M_X11_isSlot) (mt_b M_X11_isSlot) (mt_l M_X11_isSlot) (mt_r M_X11_isSlot) ∈ lw_tbl := List.mem_of_getElem? (i := 1061) (by decide +kernel)
def M_X11_isMajority : MT := (my_X11_isMajority, prog_1_method_35_code, 2, (some .boolean), [], [(0, .iload_n 0, 1), (1, .iload_n 1, 1), (2, .iand, 1), (3, .invokestatic 275, 3), (6, .iconst 2, 1), (7, .imul, 1), (8, .iload_n 1, 1), (9, .invokestatic 275, 3), (12, .if_icmp .le 7, 3), (15, .iconst 1, 1), (16, .goto 4, 3), (19, .iconst 0, 1), (20, .ireturn, 1)], [], [(275, my_J6_bitCount_0f7a4, 1, 1, 1, 0, 0)], [], [], [997, 998, 111])
theorem ok_X11_isMajority : mt_ok M_X11_isMajority = true := by decide +kernel
theorem cw_X11_isMajority : Cond.code (mt_y M_X11_isMajority) (mt_b M_X11_isMajority) (mt_l M_X11_isMajority) (mt_r M_X11_isMajority) ∈ lw_tbl := List.mem_of_getElem? (i := 1211) (by decide +kernel)
def M_X11_areTwo : MT := (my_X11_areTwo, prog_1_method_36_code, 1, (some .boolean), [], [(0, .iload_n 0, 1), (1, .invokestatic 275, 3), (4, .iconst 2, 1), (5, .if_icmp .lt 7, 3), (8, .iconst 1, 1), (9, .goto 4, 3), (12, .iconst 0, 1), (13, .ireturn, 1)], [], [(275, my_J6_bitCount_0f7a4, 1, 1, 1, 0, 0)], [], [], [997, 998, 111])
theorem ok_X11_areTwo : mt_ok M_X11_areTwo = true := by decide +kernel
theorem cw_X11_areTwo : Cond.code (mt_y M_X11_areTwo) (mt_b M_X11_areTwo) (mt_l M_X11_areTwo) (mt_r M_X11_areTwo) ∈ lw_tbl := List.mem_of_getElem? (i := 1178) (by decide +kernel)
end
section
/-! ===== records of methods ===== -/
def M_X12_init : MT := (my_X12_init, prog_14_method_1_code, 1, none, [], [(0, .aload_n 0, 1), (1, .invokespecial 1, 3), (4, .aload_n 0, 1), (5, .bipush 27, 2), (7, .newarray .boolean, 2), (9, .putfield 7, 3), (12, .aload_n 0, 1), (13, .iconst 3, 1), (14, .newarray .int, 2), (16, .putfield 13, 3), (19, .aload_n 0, 1), (20, .iconst 3, 1), (21, .newarray .int, 2), (23, .putfield 17, 3), (26, .aload_n 0, 1), (27, .iconst 3, 1), (28, .newarray .int, 2), (30, .putfield 20, 3), (33, .aload_n 0, 1), (34, .iconst 3, 1), (35, .newarray .int, 2), (37, .putfield 23, 3), (40, .aload_n 0, 1), (41, .iconst 3, 1), (42, .newarray .int, 2), (44, .putfield 26, 3), (47, .aload_n 0, 1), (48, .iconst 3, 1), (49, .newarray .int, 2), (51, .putfield 29, 3), (54, .aload_n 0, 1), (55, .iconst 3, 1), (56, .newarray .int, 2), (58, .putfield 32, 3), (61, .aload_n 0, 1), (62, .sipush 900, 3), (65, .newarray .int, 2), (67, .putfield 35, 3), (70, .aload_n 0, 1), (71, .iconst 3, 1), (72, .newarray .int, 2), (74, .putfield 38, 3), (77, .aload_n 0, 1), (78, .iconst 3, 1), (79, .newarray .int, 2), (81, .putfield 41, 3), (84, .aload_n 0, 1), (85, .bipush 48, 2), (87, .newarray .int, 2), (89, .putfield 44, 3), (92, .aload_n 0, 1), (93, .bipush 48, 2), (95, .newarray .int, 2), (97, .putfield 47, 3), (100, .aload_n 0, 1), (101, .iconst 3, 1), (102, .newarray .int, 2), (104, .putfield 50, 3), (107, .aload_n 0, 1), (108, .iconst 3, 1), (109, .newarray .int, 2), (111, .putfield 53, 3), (114, .aload_n 0, 1), (115, .bipush 48, 2), (117, .newarray .int, 2), (119, .putfield 56, 3), (122, .aload_n 0, 1), (123, .bipush 48, 2), (125, .newarray .int, 2), (127, .putfield 59, 3), (130, .aload_n 0, 1), (131, .bipush 48, 2), (133, .newarray .int, 2), (135, .putfield 62, 3), (138, .aload_n 0, 1), (139, .bipush 48, 2), (141, .newarray .int, 2), (143, .putfield 65, 3), (146, .aload_n 0, 1), (147, .iconst 3, 1), (148, .newarray .int, 2), (150, .putfield 68, 3), (153, .aload_n 0, 1), (154, .iconst 3, 1), (155, .newarray .int, 2), (157, .putfield 71, 3), (160, .aload_n 0, 1), (161, .iconst 3, 1), (162, .newarray .int, 2), (164, .putfield 74, 3), (167, .aload_n 0, 1), (168, .iconst 3, 1), (169, .newarray .int, 2), (171, .putfield 77, 3), (174, .aload_n 0, 1), (175, .iconst 3, 1), (176, .newarray .int, 2), (178, .putfield 80, 3), (181, .aload_n 0, 1), (182, .iconst 3, 1), (183, .newarray .int, 2), (185, .putfield 83, 3), (188, .aload_n 0, 1), (189, .iconst 3, 1), (190, .newarray .int, 2), (192, .putfield 86, 3), (195, .aload_n 0, 1), (196, .iconst 3, 1), (197, .newarray .int, 2), (199, .putfield 89, 3), (202, .aload_n 0, 1), (203, .iconst 3, 1), (204, .newarray .int, 2), (206, .putfield 92, 3), (209, .aload_n 0, 1), (210, .iconst 3, 1), (211, .newarray .int, 2), (213, .putfield 95, 3), (216, .aload_n 0, 1), (217, .iconst 3, 1), (218, .newarray .int, 2), (220, .putfield 98, 3), (223, .aload_n 0, 1), (224, .sipush 900, 3), (227, .newarray .int, 2), (229, .putfield 101, 3), (232, .aload_n 0, 1), (233, .iconst 3, 1), (234, .newarray .int, 2), (236, .putfield 104, 3), (239, .aload_n 0, 1), (240, .iconst 3, 1), (241, .newarray .int, 2), (243, .putfield 107, 3), (246, .aload_n 0, 1), (247, .bipush 9, 2), (249, .newarray .int, 2), (251, .putfield 110, 3), (254, .aload_n 0, 1), (255, .bipush 9, 2), (257, .newarray .int, 2), (259, .putfield 113, 3), (262, .aload_n 0, 1), (263, .bipush 9, 2), (265, .newarray .int, 2), (267, .putfield 116, 3), (270, .aload_n 0, 1), (271, .bipush 9, 2), (273, .newarray .int, 2), (275, .putfield 119, 3), (278, .aload_n 0, 1), (279, .sipush 2700, 3), (282, .newarray .int, 2), (284, .putfield 122, 3), (287, .aload_n 0, 1), (288, .bipush 9, 2), (290, .newarray .int, 2), (292, .putfield 125, 3), (295, .aload_n 0, 1), (296, .bipush 9, 2), (298, .newarray .int, 2), (300, .putfield 128, 3), (303, .aload_n 0, 1), (304, .bipush 9, 2), (306, .newarray .int, 2), (308, .putfield 131, 3), (311, .aload_n 0, 1), (312, .bipush 9, 2), (314, .newarray .int, 2), (316, .putfield 134, 3), (319, .aload_n 0, 1), (320, .bipush 12, 2), (322, .newarray .int, 2), (324, .putfield 137, 3), (327, .aload_n 0, 1), (328, .bipush 12, 2), (330, .newarray .int, 2), (332, .putfield 140, 3), (335, .aload_n 0, 1), (336, .sipush 192, 3), (339, .newarray .int, 2), (341, .putfield 143, 3), (344, .aload_n 0, 1), (345, .sipush 192, 3), (348, .newarray .int, 2), (350, .putfield 146, 3), (353, .aload_n 0, 1), (354, .bipush 48, 2), (356, .newarray .int, 2), (358, .putfield 149, 3), (361, .aload_n 0, 1), (362, .sipush 400, 3), (365, .newarray .int, 2), (367, .putfield 152, 3), (370, .aload_n 0, 1), (371, .sipush 402, 3), (374, .newarray .boolean, 2), (376, .putfield 155, 3), (379, .aload_n 0, 1), (380, .sipush 402, 3), (383, .newarray .int, 2), (385, .putfield 158, 3), (388, .aload_n 0, 1), (389, .sipush 402, 3), (392, .newarray .int, 2), (394, .putfield 161, 3), (397, .aload_n 0, 1), (398, .sipush 402, 3), (401, .newarray .int, 2), (403, .putfield 164, 3), (406, .aload_n 0, 1), (407, .sipush 1206, 3), (410, .newarray .int, 2), (412, .putfield 167, 3), (415, .aload_n 0, 1), (416, .sipush 402, 3), (419, .newarray .int, 2), (421, .putfield 170, 3), (424, .aload_n 0, 1), (425, .sipush 804, 3), (428, .newarray .int, 2), (430, .putfield 173, 3), (433, .aload_n 0, 1), (434, .ldc 176, 2), (436, .newarray .int, 2), (438, .putfield 177, 3), (441, .aload_n 0, 1), (442, .sipush 300, 3), (445, .newarray .int, 2), (447, .putfield 180, 3), (450, .aload_n 0, 1), (451, .sipush 4800, 3), (454, .newarray .int, 2), (456, .putfield 183, 3), (459, .aload_n 0, 1), (460, .bipush 16, 2), (462, .newarray .int, 2), (464, .putfield 186, 3), (467, .aload_n 0, 1), (468, .invokevirtual 189, 3), (471, .return_, 1)], [(7, 12, 1), (13, 12, 2), (17, 12, 3), (20, 12, 4), (23, 12, 5), (26, 12, 6), (29, 12, 7), (32, 12, 8), (35, 12, 9), (38, 12, 10), (41, 12, 11), (44, 12, 12), (47, 12, 13), (50, 12, 14), (53, 12, 15), (56, 12, 16), (59, 12, 17), (62, 12, 18), (65, 12, 19), (68, 12, 20), (71, 12, 21), (74, 12, 22), (77, 12, 23), (80, 12, 24), (83, 12, 25), (86, 12, 26), (89, 12, 27), (92, 12, 28), (95, 12, 29), (98, 12, 30), (101, 12, 31), (104, 12, 32), (107, 12, 33), (110, 12, 34), (113, 12, 35), (116, 12, 36), (119, 12, 37), (122, 12, 38), (125, 12, 39), (128, 12, 40), (131, 12, 41), (134, 12, 42), (137, 12, 43), (140, 12, 44), (143, 12, 45), (146, 12, 46), (149, 12, 47), (152, 12, 49), (155, 12, 50), (158, 12, 51), (161, 12, 52), (164, 12, 53), (167, 12, 54), (170, 12, 55), (173, 12, 56), (177, 12, 57), (180, 12, 59), (183, 12, 60), (186, 12, 61)], [(1, objectInit, 0, 3, 0, 0, 0), (189, my_X12_clear, 0, 22, 3, 0, 0)], [], [(176, 241200)], [1536, 1537, 1538, 1539, 1540, 1541, 1542, 1543, 1544, 1545, 1546, 1547, 1548, 1549, 1550, 1551, 1552, 1553, 1554, 1555, 1556, 1557, 1558, 1559, 1560, 1561, 1562, 1563, 1564, 1565, 1566, 1567, 1568, 1569, 1570, 1571, 1572, 1573, 1574, 1575, 1576, 1577, 1578, 1579, 1580, 1581, 1582, 1584, 1585, 1586, 1587, 1588, 1589, 1590, 1591, 1592, 1594, 1595, 1596, 1513, 122, 123, 1515, 1516, 1517, 114, 1514])
theorem ok_X12_init : mt_ok M_X12_init = true := by decide +kernel
theorem cw_X12_init : Cond.code (mt_y M_X12_init) (mt_b M_X12_init) (mt_l M_X12_init) (mt_r M_X12_init) ∈ lw_tbl := List.mem_of_getElem? (i := 1512) (by decide +kernel)
def M_X12_thrown : MT := (my_X12_thrown, prog_14_method_2_code, 1, (some .int), [], [(0, .aload_n 0, 1), (1, .getfield 192, 3), (4, .ireturn, 1)], [(192, 12, 0)], [], [], [], [1535])
theorem ok_X12_thrown : mt_ok M_X12_thrown = true := by decide +kernel
theorem cw_X12_thrown : Cond.code (mt_y M_X12_thrown) (mt_b M_X12_thrown) (mt_l M_X12_thrown) (mt_r M_X12_thrown) ∈ lw_tbl := List.mem_of_getElem? (i := 1741) (by decide +kernel)
def M_X12_in : MT := (my_X12_in, prog_14_method_3_code, 3, (some .boolean), [], [(0, .iload_n 0, 1), (1, .iload_n 1, 1), (2, .if_icmp .lt 12, 3), (5, .iload_n 0, 1), (6, .iload_n 2, 1), (7, .if_icmp .gt 7, 3), (10, .iconst 1, 1), (11, .goto 4, 3), (14, .iconst 0, 1), (15, .ireturn, 1)], [], [], [], [], [])
theorem ok_X12_in : mt_ok M_X12_in = true := by decide +kernel
theorem cw_X12_in : Cond.code (mt_y M_X12_in) (mt_b M_X12_in) (mt_l M_X12_in) (mt_r M_X12_in) ∈ lw_tbl := List.mem_of_getElem? (i := 1749) (by decide +kernel)
def M_X12_refuses : MT := (my_X12_refuses, prog_14_method_4_code, 4, (some .boolean), [], [(0, .aload_n 0, 1), (1, .iload_n 1, 1), (2, .ifCond .ne 7, 3), (5, .iconst 1, 1), (6, .goto 20, 3), (9, .iload_n 2, 1), (10, .ifCond .ne 7, 3), (13, .iconst 2, 1), (14, .goto 12, 3), (17, .iload_n 3, 1), (18, .ifCond .ne 7, 3), (21, .iconst 3, 1), (22, .goto 4, 3), (25, .iconst 0, 1), (26, .putfield 192, 3), (29, .aload_n 0, 1), (30, .getfield 192, 3), (33, .ifCond .le 7, 3), (36, .iconst 1, 1), (37, .goto 4, 3), (40, .iconst 0, 1), (41, .ireturn, 1)], [(192, 12, 0)], [], [], [], [1535])
theorem ok_X12_refuses : mt_ok M_X12_refuses = true := by decide +kernel
theorem cw_X12_refuses : Cond.code (mt_y M_X12_refuses) (mt_b M_X12_refuses) (mt_l M_X12_refuses) (mt_r M_X12_refuses) ∈ lw_tbl := List.mem_of_getElem? (i := 1756) (by decide +kernel)
def M_X12_bits : MT := (my_X12_bits, prog_14_method_5_code, 3, (some .int), [], [(0, .iconst 0, 1), (1, .istore_n 1, 1), (2, .iload_n 0, 1), (3, .istore_n 2, 1), (4, .iload_n 2, 1), (5, .ifCond .eq 15, 3), (8, .iinc 1 1, 3), (11, .iload_n 2, 1), (12, .iload_n 2, 1), (13, .iconst 1, 1), (14, .isub, 1), (15, .iand, 1), (16, .istore_n 2, 1), (17, .goto (-13), 3), (20, .iload_n 1, 1), (21, .ireturn, 1)], [], [], [], [], [])
theorem ok_X12_bits : mt_ok M_X12_bits = true := by decide +kernel
theorem cw_X12_bits : Cond.code (mt_y M_X12_bits) (mt_b M_X12_bits) (mt_l M_X12_bits) (mt_r M_X12_bits) ∈ lw_tbl := List.mem_of_getElem? (i := 1752) (by decide +kernel)
def M_X12_has : MT := (my_X12_has, prog_14_method_6_code, 2, (some .boolean), [], [(0, .iload_n 0, 1), (1, .iload_n 1, 1), (2, .ishr, 1), (3, .iconst 1, 1), (4, .iand, 1), (5, .iconst 1, 1), (6, .if_icmp .ne 7, 3), (9, .iconst 1, 1), (10, .goto 4, 3), (13, .iconst 0, 1), (14, .ireturn, 1)], [], [], [], [], [])
theorem ok_X12_has : mt_ok M_X12_has = true := by decide +kernel
theorem cw_X12_has : Cond.code (mt_y M_X12_has) (mt_b M_X12_has) (mt_l M_X12_has) (mt_r M_X12_has) ∈ lw_tbl := List.mem_of_getElem? (i := 1763) (by decide +kernel)
def M_X12_isMajority : MT := (my_X12_isMajority, prog_14_method_7_code, 2, (some .boolean), [], [(0, .iconst 2, 1), (1, .iload_n 0, 1), (2, .iload_n 1, 1), (3, .iand, 1), (4, .invokestatic 196, 3), (7, .imul, 1), (8, .iload_n 1, 1), (9, .invokestatic 196, 3), (12, .if_icmp .le 7, 3), (15, .iconst 1, 1), (16, .goto 4, 3), (19, .iconst 0, 1), (20, .ireturn, 1)], [], [(196, my_X12_bits, 1, 1, 1, 0, 0)], [], [], [1750, 1751, 114])
theorem ok_X12_isMajority : mt_ok M_X12_isMajority = true := by decide +kernel
theorem cw_X12_isMajority : Cond.code (mt_y M_X12_isMajority) (mt_b M_X12_isMajority) (mt_l M_X12_isMajority) (mt_r M_X12_isMajority) ∈ lw_tbl := List.mem_of_getElem? (i := 1849) (by decide +kernel)
end
section
/-! ===== records of methods ===== -/
def M_X12_clear : MT := (my_X12_clear, prog_14_method_8_code, 2, none, [], [(0, .aload_n 0, 1), (1, .iconst 0, 1), (2, .putfield 192, 3), (5, .iconst 0, 1), (6, .istore_n 1, 1), (7, .iload_n 1, 1), (8, .bipush 27, 2), (10, .if_icmp .ge 16, 3), (13, .aload_n 0, 1), (14, .getfield 7, 3), (17, .iload_n 1, 1), (18, .iconst 0, 1), (19, .bastore, 1), (20, .iinc 1 1, 3), (23, .goto (-16), 3), (26, .iconst 0, 1), (27, .istore_n 1, 1), (28, .iload_n 1, 1), (29, .iconst 3, 1), (30, .if_icmp .ge 76, 3), (33, .aload_n 0, 1), (34, .getfield 13, 3), (37, .iload_n 1, 1), (38, .iconst 0, 1), (39, .iastore, 1), (40, .aload_n 0, 1), (41, .getfield 17, 3), (44, .iload_n 1, 1), (45, .iconst (-1), 1), (46, .iastore, 1), (47, .aload_n 0, 1), (48, .getfield 20, 3), (51, .iload_n 1, 1), (52, .iconst 0, 1), (53, .iastore, 1), (54, .aload_n 0, 1), (55, .getfield 23, 3), (58, .iload_n 1, 1), (59, .iconst 0, 1), (60, .iastore, 1), (61, .aload_n 0, 1), (62, .getfield 26, 3), (65, .iload_n 1, 1), (66, .bipush 7, 2), (68, .iastore, 1), (69, .aload_n 0, 1), (70, .iload_n 1, 1), (71, .invokevirtual 200, 3), (74, .aload_n 0, 1), (75, .getfield 86, 3), (78, .iload_n 1, 1), (79, .iconst 0, 1), (80, .iastore, 1), (81, .aload_n 0, 1), (82, .getfield 89, 3), (85, .iload_n 1, 1), (86, .iconst 0, 1), (87, .iastore, 1), (88, .aload_n 0, 1), (89, .getfield 92, 3), (92, .iload_n 1, 1), (93, .iconst (-1), 1), (94, .iastore, 1), (95, .aload_n 0, 1), (96, .iload_n 1, 1), (97, .invokevirtual 204, 3), (100, .iinc 1 1, 3), (103, .goto (-75), 3), (106, .iconst 0, 1), (107, .istore_n 1, 1), (108, .iload_n 1, 1), (109, .bipush 9, 2), (111, .if_icmp .ge 93, 3), (114, .aload_n 0, 1), (115, .getfield 110, 3), (118, .iload_n 1, 1), (119, .iload_n 1, 1), (120, .iconst 3, 1), (121, .if_icmp .ge 7, 3), (124, .iconst 2, 1), (125, .goto 4, 3), (128, .iconst 0, 1), (129, .iastore, 1), (130, .aload_n 0, 1), (131, .getfield 113, 3), (134, .iload_n 1, 1), (135, .iload_n 1, 1), (136, .iconst 3, 1), (137, .if_icmp .ge 7, 3), (140, .iconst 0, 1), (141, .goto 4, 3), (144, .iconst (-1), 1), (145, .iastore, 1), (146, .aload_n 0, 1), (147, .getfield 116, 3), (150, .iload_n 1, 1), (151, .iload_n 1, 1), (152, .iconst 3, 1), (153, .if_icmp .ge 8, 3), (156, .bipush 7, 2), (158, .goto 4, 3), (161, .iconst 0, 1), (162, .iastore, 1), (163, .aload_n 0, 1), (164, .getfield 119, 3), (167, .iload_n 1, 1), (168, .iconst 0, 1), (169, .iastore, 1), (170, .aload_n 0, 1), (171, .getfield 125, 3), (174, .iload_n 1, 1), (175, .iconst (-1), 1), (176, .iastore, 1), (177, .aload_n 0, 1), (178, .getfield 128, 3), (181, .iload_n 1, 1), (182, .iconst (-1), 1), (183, .iastore, 1), (184, .aload_n 0, 1), (185, .getfield 131, 3), (188, .iload_n 1, 1), (189, .iconst 0, 1), (190, .iastore, 1), (191, .aload_n 0, 1), (192, .getfield 134, 3), (195, .iload_n 1, 1), (196, .iconst 0, 1), (197, .iastore, 1), (198, .iinc 1 1, 3), (201, .goto (-93), 3), (204, .iconst 0, 1), (205, .istore_n 1, 1), (206, .iload_n 1, 1), (207, .sipush 2700, 3), (210, .if_icmp .ge 16, 3), (213, .aload_n 0, 1), (214, .getfield 122, 3), (217, .iload_n 1, 1), (218, .iconst 0, 1), (219, .iastore, 1), (220, .iinc 1 1, 3), (223, .goto (-17), 3), (226, .iconst 0, 1), (227, .istore_n 1, 1), (228, .iload_n 1, 1), (229, .bipush 12, 2), (231, .if_icmp .ge 23, 3), (234, .aload_n 0, 1), (235, .getfield 137, 3), (238, .iload_n 1, 1), (239, .iconst (-1), 1), (240, .iastore, 1), (241, .aload_n 0, 1), (242, .getfield 140, 3), (245, .iload_n 1, 1), (246, .iconst 0, 1), (247, .iastore, 1), (248, .iinc 1 1, 3), (251, .goto (-23), 3), (254, .iconst 0, 1), (255, .istore_n 1, 1), (256, .iload_n 1, 1), (257, .sipush 192, 3), (260, .if_icmp .ge 16, 3), (263, .aload_n 0, 1), (264, .getfield 143, 3), (267, .iload_n 1, 1), (268, .iconst (-1), 1), (269, .iastore, 1), (270, .iinc 1 1, 3), (273, .goto (-17), 3), (276, .iconst 0, 1), (277, .istore_n 1, 1), (278, .iload_n 1, 1), (279, .bipush 48, 2), (281, .if_icmp .ge 16, 3), (284, .aload_n 0, 1), (285, .getfield 149, 3), (288, .iload_n 1, 1), (289, .iconst (-1), 1), (290, .iastore, 1), (291, .iinc 1 1, 3), (294, .goto (-16), 3), (297, .aload_n 0, 1), (298, .iconst 0, 1), (299, .putfield 207, 3), (302, .iconst 0, 1), (303, .istore_n 1, 1), (304, .iload_n 1, 1), (305, .sipush 402, 3), (308, .if_icmp .ge 16, 3), (311, .aload_n 0, 1), (312, .getfield 155, 3), (315, .iload_n 1, 1), (316, .iconst 0, 1), (317, .bastore, 1), (318, .iinc 1 1, 3), (321, .goto (-17), 3), (324, .iconst 0, 1), (325, .istore_n 1, 1), (326, .iload_n 1, 1), (327, .sipush 300, 3), (330, .if_icmp .ge 16, 3), (333, .aload_n 0, 1), (334, .getfield 180, 3), (337, .iload_n 1, 1), (338, .iconst 0, 1), (339, .iastore, 1), (340, .iinc 1 1, 3), (343, .goto (-17), 3), (346, .iconst 0, 1), (347, .istore_n 1, 1), (348, .iload_n 1, 1), (349, .sipush 4800, 3), (352, .if_icmp .ge 16, 3), (355, .aload_n 0, 1), (356, .getfield 183, 3), (359, .iload_n 1, 1), (360, .iconst 0, 1), (361, .iastore, 1), (362, .iinc 1 1, 3), (365, .goto (-17), 3), (368, .iconst 0, 1), (369, .istore_n 1, 1), (370, .iload_n 1, 1), (371, .bipush 16, 2), (373, .if_icmp .ge 16, 3), (376, .aload_n 0, 1), (377, .getfield 186, 3), (380, .iload_n 1, 1), (381, .iconst (-1), 1), (382, .iastore, 1), (383, .iinc 1 1, 3), (386, .goto (-16), 3), (389, .aload_n 0, 1), (390, .iconst 0, 1), (391, .putfield 210, 3), (394, .aload_n 0, 1), (395, .iconst 0, 1), (396, .putfield 213, 3), (399, .aload_n 0, 1), (400, .iconst 0, 1), (401, .putfield 216, 3), (404, .aload_n 0, 1), (405, .iconst 0, 1), (406, .putfield 219, 3), (409, .aload_n 0, 1), (410, .iconst 0, 1), (411, .putfield 222, 3), (414, .return_, 1)], [(192, 12, 0), (7, 12, 1), (13, 12, 2), (17, 12, 3), (20, 12, 4), (23, 12, 5), (26, 12, 6), (86, 12, 26), (89, 12, 27), (92, 12, 28), (110, 12, 34), (113, 12, 35), (116, 12, 36), (119, 12, 37), (125, 12, 39), (128, 12, 40), (131, 12, 41), (134, 12, 42), (122, 12, 38), (137, 12, 43), (140, 12, 44), (143, 12, 45), (149, 12, 47), (207, 12, 48), (155, 12, 50), (180, 12, 59), (183, 12, 60), (186, 12, 61), (210, 12, 62), (213, 12, 63), (216, 12, 64), (219, 12, 65), (222, 12, 66)], [(200, my_X12_forgetRounds, 1, 22, 2, 0, 0), (204, my_X12_forgetReform, 1, 22, 1, 0, 0)], [], [], [1535, 1536, 1537, 1538, 1539, 1540, 1541, 1561, 1562, 1563, 1569, 1570, 1571, 1572, 1574, 1575, 1576, 1577, 1573, 1578, 1579, 1580, 1582, 1583, 1585, 1594, 1595, 1596, 1597, 1598, 1599, 1600, 1601, 1519, 1521, 39, 114, 1531, 1533, 42, 114])
theorem ok_X12_clear : mt_ok M_X12_clear = true := by decide +kernel
theorem cw_X12_clear : Cond.code (mt_y M_X12_clear) (mt_b M_X12_clear) (mt_l M_X12_clear) (mt_r M_X12_clear) ∈ lw_tbl := List.mem_of_getElem? (i := 1518) (by decide +kernel)
def M_X12_forgetMatching : MT := (my_X12_forgetMatching, prog_14_method_9_code, 3, none, [], [(0, .aload_n 0, 1), (1, .getfield 29, 3), (4, .iload_n 1, 1), (5, .iconst 0, 1), (6, .iastore, 1), (7, .aload_n 0, 1), (8, .getfield 32, 3), (11, .iload_n 1, 1), (12, .iconst 0, 1), (13, .iastore, 1), (14, .iconst 0, 1), (15, .istore_n 2, 1), (16, .iload_n 2, 1), (17, .sipush 300, 3), (20, .if_icmp .ge 22, 3), (23, .aload_n 0, 1), (24, .getfield 35, 3), (27, .sipush 300, 3), (30, .iload_n 1, 1), (31, .imul, 1), (32, .iload_n 2, 1), (33, .iadd, 1), (34, .iconst 0, 1), (35, .iastore, 1), (36, .iinc 2 1, 3), (39, .goto (-23), 3), (42, .return_, 1)], [(29, 12, 7), (32, 12, 8), (35, 12, 9)], [], [], [], [1542, 1543, 1544])
theorem ok_X12_forgetMatching : mt_ok M_X12_forgetMatching = true := by decide +kernel
theorem cw_X12_forgetMatching : Cond.code (mt_y M_X12_forgetMatching) (mt_b M_X12_forgetMatching) (mt_l M_X12_forgetMatching) (mt_r M_X12_forgetMatching) ∈ lw_tbl := List.mem_of_getElem? (i := 1526) (by decide +kernel)
def M_X12_forgetRounds : MT := (my_X12_forgetRounds, prog_14_method_10_code, 3, none, [], [(0, .aload_n 0, 1), (1, .iload_n 1, 1), (2, .invokevirtual 225, 3), (5, .aload_n 0, 1), (6, .getfield 38, 3), (9, .iload_n 1, 1), (10, .iconst 0, 1), (11, .iastore, 1), (12, .aload_n 0, 1), (13, .getfield 41, 3), (16, .iload_n 1, 1), (17, .iconst 0, 1), (18, .iastore, 1), (19, .aload_n 0, 1), (20, .getfield 50, 3), (23, .iload_n 1, 1), (24, .iconst 0, 1), (25, .iastore, 1), (26, .aload_n 0, 1), (27, .getfield 53, 3), (30, .iload_n 1, 1), (31, .iconst 0, 1), (32, .iastore, 1), (33, .iconst 0, 1), (34, .istore_n 2, 1), (35, .iload_n 2, 1), (36, .bipush 16, 2), (38, .if_icmp .ge 69, 3), (41, .aload_n 0, 1), (42, .getfield 44, 3), (45, .bipush 16, 2), (47, .iload_n 1, 1), (48, .imul, 1), (49, .iload_n 2, 1), (50, .iadd, 1), (51, .iconst (-1), 1), (52, .iastore, 1), (53, .aload_n 0, 1), (54, .getfield 56, 3), (57, .bipush 16, 2), (59, .iload_n 1, 1), (60, .imul, 1), (61, .iload_n 2, 1), (62, .iadd, 1), (63, .iconst 0, 1), (64, .iastore, 1), (65, .aload_n 0, 1), (66, .getfield 59, 3), (69, .bipush 16, 2), (71, .iload_n 1, 1), (72, .imul, 1), (73, .iload_n 2, 1), (74, .iadd, 1), (75, .iconst (-1), 1), (76, .iastore, 1), (77, .aload_n 0, 1), (78, .getfield 62, 3), (81, .bipush 16, 2), (83, .iload_n 1, 1), (84, .imul, 1), (85, .iload_n 2, 1), (86, .iadd, 1), (87, .iconst 0, 1), (88, .iastore, 1), (89, .aload_n 0, 1), (90, .getfield 65, 3), (93, .bipush 16, 2), (95, .iload_n 1, 1), (96, .imul, 1), (97, .iload_n 2, 1), (98, .iadd, 1), (99, .iconst 0, 1), (100, .iastore, 1), (101, .iinc 2 1, 3), (104, .goto (-69), 3), (107, .aload_n 0, 1), (108, .getfield 68, 3), (111, .iload_n 1, 1), (112, .iconst 0, 1), (113, .iastore, 1), (114, .aload_n 0, 1), (115, .iload_n 1, 1), (116, .invokevirtual 228, 3), (119, .return_, 1)], [(38, 12, 10), (41, 12, 11), (50, 12, 14), (53, 12, 15), (44, 12, 12), (56, 12, 16), (59, 12, 17), (62, 12, 18), (65, 12, 19), (68, 12, 20)], [(225, my_X12_forgetMatching, 1, 22, 1, 0, 0), (228, my_X12_forgetCollecting, 1, 22, 1, 0, 0)], [], [], [1545, 1546, 1549, 1550, 1547, 1551, 1552, 1553, 1554, 1555, 1523, 1525, 40, 114, 1527, 1529, 41, 114])
theorem ok_X12_forgetRounds : mt_ok M_X12_forgetRounds = true := by decide +kernel
theorem cw_X12_forgetRounds : Cond.code (mt_y M_X12_forgetRounds) (mt_b M_X12_forgetRounds) (mt_l M_X12_forgetRounds) (mt_r M_X12_forgetRounds) ∈ lw_tbl := List.mem_of_getElem? (i := 1522) (by decide +kernel)
def M_X12_forgetCollecting : MT := (my_X12_forgetCollecting, prog_14_method_11_code, 2, none, [], [(0, .aload_n 0, 1), (1, .getfield 71, 3), (4, .iload_n 1, 1), (5, .iconst 0, 1), (6, .iastore, 1), (7, .aload_n 0, 1), (8, .getfield 74, 3), (11, .iload_n 1, 1), (12, .iconst 0, 1), (13, .iastore, 1), (14, .aload_n 0, 1), (15, .getfield 77, 3), (18, .iload_n 1, 1), (19, .iconst 0, 1), (20, .iastore, 1), (21, .aload_n 0, 1), (22, .getfield 80, 3), (25, .iload_n 1, 1), (26, .iconst 0, 1), (27, .iastore, 1), (28, .aload_n 0, 1), (29, .getfield 83, 3), (32, .iload_n 1, 1), (33, .iconst 0, 1), (34, .iastore, 1), (35, .return_, 1)], [(71, 12, 21), (74, 12, 22), (77, 12, 23), (80, 12, 24), (83, 12, 25)], [], [], [], [1556, 1557, 1558, 1559, 1560])
theorem ok_X12_forgetCollecting : mt_ok M_X12_forgetCollecting = true := by decide +kernel
theorem cw_X12_forgetCollecting : Cond.code (mt_y M_X12_forgetCollecting) (mt_b M_X12_forgetCollecting) (mt_l M_X12_forgetCollecting) (mt_r M_X12_forgetCollecting) ∈ lw_tbl := List.mem_of_getElem? (i := 1530) (by decide +kernel)
end
section
/-! ===== records of methods ===== -/
def M_X12_forgetReform : MT := (my_X12_forgetReform, prog_14_method_12_code, 3, none, [], [(0, .aload_n 0, 1), (1, .getfield 95, 3), (4, .iload_n 1, 1), (5, .iconst 0, 1), (6, .iastore, 1), (7, .aload_n 0, 1), (8, .getfield 98, 3), (11, .iload_n 1, 1), (12, .iconst 0, 1), (13, .iastore, 1), (14, .aload_n 0, 1), (15, .getfield 104, 3), (18, .iload_n 1, 1), (19, .iconst (-1), 1), (20, .iastore, 1), (21, .aload_n 0, 1), (22, .getfield 107, 3), (25, .iload_n 1, 1), (26, .iconst 0, 1), (27, .iastore, 1), (28, .iconst 0, 1), (29, .istore_n 2, 1), (30, .iload_n 2, 1), (31, .sipush 300, 3), (34, .if_icmp .ge 22, 3), (37, .aload_n 0, 1), (38, .getfield 101, 3), (41, .sipush 300, 3), (44, .iload_n 1, 1), (45, .imul, 1), (46, .iload_n 2, 1), (47, .iadd, 1), (48, .iconst 0, 1), (49, .iastore, 1), (50, .iinc 2 1, 3), (53, .goto (-23), 3), (56, .return_, 1)], [(95, 12, 29), (98, 12, 30), (104, 12, 32), (107, 12, 33), (101, 12, 31)], [], [], [], [1564, 1565, 1567, 1568, 1566])
theorem ok_X12_forgetReform : mt_ok M_X12_forgetReform = true := by decide +kernel
theorem cw_X12_forgetReform : Cond.code (mt_y M_X12_forgetReform) (mt_b M_X12_forgetReform) (mt_l M_X12_forgetReform) (mt_r M_X12_forgetReform) ∈ lw_tbl := List.mem_of_getElem? (i := 1534) (by decide +kernel)
def M_X12_lay : MT := (my_X12_lay, prog_14_method_13_code, 8, (some .boolean), [], [(0, .aload_n 0, 1), (1, .iconst (-1), 1), (2, .putfield 231, 3), (5, .aload_n 0, 1), (6, .getfield 207, 3), (9, .sipush 400, 3), (12, .if_icmp .ne 15, 3), (15, .aload_n 0, 1), (16, .dup, 1), (17, .getfield 210, 3), (20, .iconst 1, 1), (21, .iadd, 1), (22, .putfield 210, 3), (25, .iconst 0, 1), (26, .ireturn, 1), (27, .iconst 0, 1), (28, .istore 7, 2), (30, .aload_n 0, 1), (31, .getfield 155, 3), (34, .iload 7, 2), (36, .baload, 1), (37, .ifCond .eq 9, 3), (40, .iinc 7 1, 3), (43, .goto (-13), 3), (46, .aload_n 0, 1), (47, .getfield 155, 3), (50, .iload 7, 2), (52, .iconst 1, 1), (53, .bastore, 1), (54, .aload_n 0, 1), (55, .getfield 152, 3), (58, .aload_n 0, 1), (59, .getfield 207, 3), (62, .iload 7, 2), (64, .iastore, 1), (65, .aload_n 0, 1), (66, .dup, 1), (67, .getfield 207, 3), (70, .iconst 1, 1), (71, .iadd, 1), (72, .putfield 207, 3), (75, .aload_n 0, 1), (76, .getfield 158, 3), (79, .iload 7, 2), (81, .iload_n 1, 1), (82, .iastore, 1), (83, .aload_n 0, 1), (84, .getfield 161, 3), (87, .iload 7, 2), (89, .iload_n 2, 1), (90, .iastore, 1), (91, .aload_n 0, 1), (92, .getfield 164, 3), (95, .iload 7, 2), (97, .iload_n 3, 1), (98, .iastore, 1), (99, .aload_n 0, 1), (100, .getfield 167, 3), (103, .iconst 3, 1), (104, .iload 7, 2), (106, .imul, 1), (107, .iload 4, 2), (109, .iastore, 1), (110, .aload_n 0, 1), (111, .getfield 167, 3), (114, .iconst 3, 1), (115, .iload 7, 2), (117, .imul, 1), (118, .iconst 1, 1), (119, .iadd, 1), (120, .iload 5, 2), (122, .iastore, 1), (123, .aload_n 0, 1), (124, .getfield 167, 3), (127, .iconst 3, 1), (128, .iload 7, 2), (130, .imul, 1), (131, .iconst 2, 1), (132, .iadd, 1), (133, .iload 6, 2), (135, .iastore, 1), (136, .aload_n 0, 1), (137, .getfield 170, 3), (140, .iload 7, 2), (142, .iconst 0, 1), (143, .iastore, 1), (144, .aload_n 0, 1), (145, .getfield 173, 3), (148, .iconst 2, 1), (149, .iload 7, 2), (151, .imul, 1), (152, .iconst 0, 1), (153, .iastore, 1), (154, .aload_n 0, 1), (155, .getfield 173, 3), (158, .iconst 2, 1), (159, .iload 7, 2), (161, .imul, 1), (162, .iconst 1, 1), (163, .iadd, 1), (164, .iconst 0, 1), (165, .iastore, 1), (166, .aload_n 0, 1), (167, .iload 7, 2), (169, .putfield 231, 3), (172, .iconst 1, 1), (173, .ireturn, 1)], [(231, 12, 58), (207, 12, 48), (210, 12, 62), (155, 12, 50), (152, 12, 49), (158, 12, 51), (161, 12, 52), (164, 12, 53), (167, 12, 54), (170, 12, 55), (173, 12, 56)], [], [], [], [1593, 1583, 1597, 1585, 1584, 1586, 1587, 1588, 1589, 1590, 1591])
theorem ok_X12_lay : mt_ok M_X12_lay = true := by decide +kernel
theorem cw_X12_lay : Cond.code (mt_y M_X12_lay) (mt_b M_X12_lay) (mt_l M_X12_lay) (mt_r M_X12_lay) ∈ lw_tbl := List.mem_of_getElem? (i := 1767) (by decide +kernel)
def M_X12_layAll : MT := (my_X12_layAll, prog_14_method_14_code, 10, (some .int), [], [(0, .iconst 0, 1), (1, .istore 7, 2), (3, .iconst 0, 1), (4, .istore 8, 2), (6, .iload 8, 2), (8, .bipush 12, 2), (10, .if_icmp .ge 37, 3), (13, .iload_n 3, 1), (14, .iload 8, 2), (16, .invokestatic 234, 3), (19, .ifCond .eq 22, 3), (22, .aload_n 0, 1), (23, .iload_n 1, 1), (24, .iload_n 2, 1), (25, .iload 8, 2), (27, .iload 4, 2), (29, .iload 5, 2), (31, .iload 6, 2), (33, .invokevirtual 238, 3), (36, .istore 9, 2), (38, .iinc 7 1, 3), (41, .iinc 8 1, 3), (44, .goto (-38), 3), (47, .iload 7, 2), (49, .ireturn, 1)], [], [(234, my_X12_has, 2, 1, 1, 0, 0), (238, my_X12_lay, 6, 22, 1, 0, 0)], [], [], [1761, 1762, 114, 1764, 1766, 45, 114])
theorem ok_X12_layAll : mt_ok M_X12_layAll = true := by decide +kernel
theorem cw_X12_layAll : Cond.code (mt_y M_X12_layAll) (mt_b M_X12_layAll) (mt_l M_X12_layAll) (mt_r M_X12_layAll) ∈ lw_tbl := List.mem_of_getElem? (i := 1760) (by decide +kernel)
def M_X12_addEntry : MT := (my_X12_addEntry, prog_14_method_15_code, 4, none, [], [(0, .aload_n 0, 1), (1, .getfield 177, 3), (4, .sipush 600, 3), (7, .iload_n 1, 1), (8, .imul, 1), (9, .iconst 2, 1), (10, .aload_n 0, 1), (11, .getfield 170, 3), (14, .iload_n 1, 1), (15, .iaload, 1), (16, .imul, 1), (17, .iadd, 1), (18, .iload_n 2, 1), (19, .iastore, 1), (20, .aload_n 0, 1), (21, .getfield 177, 3), (24, .sipush 600, 3), (27, .iload_n 1, 1), (28, .imul, 1), (29, .iconst 2, 1), (30, .aload_n 0, 1), (31, .getfield 170, 3), (34, .iload_n 1, 1), (35, .iaload, 1), (36, .imul, 1), (37, .iadd, 1), (38, .iconst 1, 1), (39, .iadd, 1), (40, .iload_n 3, 1), (41, .iastore, 1), (42, .aload_n 0, 1), (43, .getfield 170, 3), (46, .iload_n 1, 1), (47, .dup2, 1), (48, .iaload, 1), (49, .iconst 1, 1), (50, .iadd, 1), (51, .iastore, 1), (52, .return_, 1)], [(177, 12, 57), (170, 12, 55)], [], [], [], [1592, 1590])
theorem ok_X12_addEntry : mt_ok M_X12_addEntry = true := by decide +kernel
theorem cw_X12_addEntry : Cond.code (mt_y M_X12_addEntry) (mt_b M_X12_addEntry) (mt_l M_X12_addEntry) (mt_r M_X12_addEntry) ∈ lw_tbl := List.mem_of_getElem? (i := 1804) (by decide +kernel)
def M_X12_entryRound : MT := (my_X12_entryRound, prog_14_method_16_code, 3, (some .int), [], [(0, .aload_n 0, 1), (1, .getfield 177, 3), (4, .sipush 600, 3), (7, .iload_n 1, 1), (8, .imul, 1), (9, .iconst 2, 1), (10, .iload_n 2, 1), (11, .imul, 1), (12, .iadd, 1), (13, .iaload, 1), (14, .ireturn, 1)], [(177, 12, 57)], [], [], [], [1592])
theorem ok_X12_entryRound : mt_ok M_X12_entryRound = true := by decide +kernel
theorem cw_X12_entryRound : Cond.code (mt_y M_X12_entryRound) (mt_b M_X12_entryRound) (mt_l M_X12_entryRound) (mt_r M_X12_entryRound) ∈ lw_tbl := List.mem_of_getElem? (i := 1834) (by decide +kernel)
def M_X12_entryGroup : MT := (my_X12_entryGroup, prog_14_method_17_code, 3, (some .int), [], [(0, .aload_n 0, 1), (1, .getfield 177, 3), (4, .sipush 600, 3), (7, .iload_n 1, 1), (8, .imul, 1), (9, .iconst 2, 1), (10, .iload_n 2, 1), (11, .imul, 1), (12, .iadd, 1), (13, .iconst 1, 1), (14, .iadd, 1), (15, .iaload, 1), (16, .ireturn, 1)], [(177, 12, 57)], [], [], [], [1592])
theorem ok_X12_entryGroup : mt_ok M_X12_entryGroup = true := by decide +kernel
theorem cw_X12_entryGroup : Cond.code (mt_y M_X12_entryGroup) (mt_b M_X12_entryGroup) (mt_l M_X12_entryGroup) (mt_r M_X12_entryGroup) ∈ lw_tbl := List.mem_of_getElem? (i := 1838) (by decide +kernel)
def M_X12_take : MT := (my_X12_take, prog_14_method_18_code, 4, (some .int), [], [(0, .aload_n 0, 1), (1, .getfield 152, 3), (4, .iload_n 1, 1), (5, .iaload, 1), (6, .istore_n 2, 1), (7, .aload_n 0, 1), (8, .getfield 155, 3), (11, .iload_n 2, 1), (12, .iconst 0, 1), (13, .bastore, 1), (14, .aload_n 0, 1), (15, .dup, 1), (16, .getfield 207, 3), (19, .iconst 1, 1), (20, .isub, 1), (21, .putfield 207, 3), (24, .iload_n 1, 1), (25, .istore_n 3, 1), (26, .iload_n 3, 1), (27, .aload_n 0, 1), (28, .getfield 207, 3), (31, .if_icmp .ge 23, 3), (34, .aload_n 0, 1), (35, .getfield 152, 3), (38, .iload_n 3, 1), (39, .aload_n 0, 1), (40, .getfield 152, 3), (43, .iload_n 3, 1), (44, .iconst 1, 1), (45, .iadd, 1), (46, .iaload, 1), (47, .iastore, 1), (48, .iinc 3 1, 3), (51, .goto (-25), 3), (54, .iload_n 2, 1), (55, .ireturn, 1)], [(152, 12, 49), (155, 12, 50), (207, 12, 48)], [], [], [], [1584, 1585, 1583])
theorem ok_X12_take : mt_ok M_X12_take = true := by decide +kernel
theorem cw_X12_take : Cond.code (mt_y M_X12_take) (mt_b M_X12_take) (mt_l M_X12_take) (mt_r M_X12_take) ∈ lw_tbl := List.mem_of_getElem? (i := 1816) (by decide +kernel)
def M_X12_begin : MT := (my_X12_begin, prog_14_method_19_code, 7, (some .int), [], [(0, .iload_n 1, 1), (1, .iconst 0, 1), (2, .iconst 2, 1), (3, .invokestatic 242, 3), (6, .istore 4, 2), (8, .iload 4, 2), (10, .ifCond .eq 54, 3), (13, .iload_n 2, 1), (14, .iconst 0, 1), (15, .sipush 299, 3), (18, .invokestatic 242, 3), (21, .ifCond .eq 43, 3), (24, .iload_n 2, 1), (25, .iconst 3, 1), (26, .irem, 1), (27, .iload_n 1, 1), (28, .if_icmp .ne 36, 3), (31, .iload_n 2, 1), (32, .aload_n 0, 1), (33, .getfield 17, 3), (36, .iload_n 1, 1), (37, .iaload, 1), (38, .if_icmp .le 26, 3), (41, .iload_n 3, 1), (42, .iconst 1, 1), (43, .sipush 4095, 3), (46, .invokestatic 242, 3), (49, .ifCond .eq 15, 3), (52, .iload_n 3, 1), (53, .invokestatic 196, 3), (56, .iconst 5, 1), (57, .if_icmp .gt 7, 3), (60, .iconst 1, 1), (61, .goto 4, 3), (64, .iconst 0, 1), (65, .istore 5, 2), (67, .aload_n 0, 1), (68, .iload 4, 2), (70, .iload 5, 2), (72, .iload 4, 2), (74, .ifCond .eq 16, 3), (77, .aload_n 0, 1), (78, .getfield 7, 3), (81, .iload_n 1, 1), (82, .baload, 1), (83, .ifCond .ne 7, 3), (86, .iconst 1, 1), (87, .goto 4, 3), (90, .iconst 0, 1), (91, .invokevirtual 246, 3), (94, .ifCond .eq 5, 3), (97, .iconst 0, 1), (98, .ireturn, 1), (99, .aload_n 0, 1), (100, .iload_n 1, 1), (101, .invokevirtual 200, 3), (104, .aload_n 0, 1), (105, .getfield 13, 3), (108, .iload_n 1, 1), (109, .iconst 1, 1), (110, .iastore, 1), (111, .aload_n 0, 1), (112, .getfield 17, 3), (115, .iload_n 1, 1), (116, .iload_n 2, 1), (117, .iastore, 1), (118, .aload_n 0, 1), (119, .getfield 20, 3), (122, .iload_n 1, 1), (123, .iload_n 3, 1), (124, .iastore, 1), (125, .aload_n 0, 1), (126, .getfield 180, 3), (129, .iload_n 2, 1), (130, .iload_n 3, 1), (131, .iastore, 1), (132, .aload_n 0, 1), (133, .dup, 1), (134, .getfield 222, 3), (137, .iconst 1, 1), (138, .iadd, 1), (139, .putfield 222, 3), (142, .aload_n 0, 1), (143, .iconst 1, 1), (144, .iload_n 1, 1), (145, .aload_n 0, 1), (146, .getfield 26, 3), (149, .iload_n 1, 1), (150, .iaload, 1), (151, .aload_n 0, 1), (152, .getfield 23, 3), (155, .iload_n 1, 1), (156, .iaload, 1), (157, .iload_n 2, 1), (158, .iload_n 3, 1), (159, .invokevirtual 250, 3), (162, .istore 6, 2), (164, .aload_n 0, 1), (165, .getfield 207, 3), (168, .ireturn, 1)], [(17, 12, 3), (7, 12, 1), (13, 12, 2), (20, 12, 4), (180, 12, 59), (222, 12, 66), (26, 12, 6), (23, 12, 5), (207, 12, 48)], [(242, my_X12_in, 3, 1, 1, 0, 0), (196, my_X12_bits, 1, 1, 1, 0, 0), (246, my_X12_refuses, 3, 22, 1, 0, 0), (200, my_X12_forgetRounds, 1, 22, 2, 0, 0), (250, my_X12_layAll, 6, 22, 2, 0, 0)], [], [], [1538, 1536, 1537, 1539, 1594, 1601, 1541, 1540, 1583, 1747, 1748, 114, 1750, 1751, 114, 1753, 1755, 43, 114, 1519, 1521, 39, 114, 1757, 1759, 44, 114])
theorem ok_X12_begin : mt_ok M_X12_begin = true := by decide +kernel
theorem cw_X12_begin : Cond.code (mt_y M_X12_begin) (mt_b M_X12_begin) (mt_l M_X12_begin) (mt_r M_X12_begin) ∈ lw_tbl := List.mem_of_getElem? (i := 1746) (by decide +kernel)
def M_X12_offer : MT := (my_X12_offer, prog_14_method_20_code, 5, none, [], [(0, .aload_n 0, 1), (1, .getfield 56, 3), (4, .bipush 16, 2), (6, .iload_n 1, 1), (7, .imul, 1), (8, .iload_n 2, 1), (9, .iadd, 1), (10, .iconst 1, 1), (11, .iastore, 1), (12, .aload_n 0, 1), (13, .getfield 59, 3), (16, .bipush 16, 2), (18, .iload_n 1, 1), (19, .imul, 1), (20, .iload_n 2, 1), (21, .iadd, 1), (22, .iload_n 3, 1), (23, .iastore, 1), (24, .aload_n 0, 1), (25, .iconst 5, 1), (26, .iload_n 1, 1), (27, .aload_n 0, 1), (28, .getfield 20, 3), (31, .iload_n 1, 1), (32, .iaload, 1), (33, .aload_n 0, 1), (34, .getfield 17, 3), (37, .iload_n 1, 1), (38, .iaload, 1), (39, .iload_n 2, 1), (40, .iload_n 3, 1), (41, .invokevirtual 250, 3), (44, .istore 4, 2), (46, .return_, 1)], [(56, 12, 16), (59, 12, 17), (20, 12, 4), (17, 12, 3)], [(250, my_X12_layAll, 6, 22, 2, 0, 0)], [], [], [1551, 1552, 1539, 1538, 1757, 1759, 44, 114])
theorem ok_X12_offer : mt_ok M_X12_offer = true := by decide +kernel
theorem cw_X12_offer : Cond.code (mt_y M_X12_offer) (mt_b M_X12_offer) (mt_l M_X12_offer) (mt_r M_X12_offer) ∈ lw_tbl := List.mem_of_getElem? (i := 1776) (by decide +kernel)
end
section
/-! ===== records of methods ===== -/
def M_X12_propose : MT := (my_X12_propose, prog_14_method_21_code, 5, (some .int), [], [(0, .iload_n 1, 1), (1, .iconst 0, 1), (2, .iconst 2, 1), (3, .invokestatic 242, 3), (6, .istore_n 3, 1), (7, .aload_n 0, 1), (8, .iload_n 3, 1), (9, .iload_n 2, 1), (10, .iconst 1, 1), (11, .ldc 254, 2), (13, .invokestatic 242, 3), (16, .iload_n 3, 1), (17, .ifCond .eq 16, 3), (20, .aload_n 0, 1), (21, .getfield 7, 3), (24, .iload_n 1, 1), (25, .baload, 1), (26, .ifCond .ne 7, 3), (29, .iconst 1, 1), (30, .goto 4, 3), (33, .iconst 0, 1), (34, .invokevirtual 246, 3), (37, .ifCond .eq 5, 3), (40, .iconst 0, 1), (41, .ireturn, 1), (42, .aload_n 0, 1), (43, .getfield 13, 3), (46, .iload_n 1, 1), (47, .iaload, 1), (48, .iconst 3, 1), (49, .if_icmp .ne 14, 3), (52, .aload_n 0, 1), (53, .getfield 53, 3), (56, .iload_n 1, 1), (57, .iaload, 1), (58, .bipush 16, 2), (60, .if_icmp .ne 5, 3), (63, .iconst (-1), 1), (64, .ireturn, 1), (65, .aload_n 0, 1), (66, .getfield 53, 3), (69, .iload_n 1, 1), (70, .iaload, 1), (71, .istore 4, 2), (73, .aload_n 0, 1), (74, .getfield 53, 3), (77, .iload_n 1, 1), (78, .dup2, 1), (79, .iaload, 1), (80, .iconst 1, 1), (81, .iadd, 1), (82, .iastore, 1), (83, .aload_n 0, 1), (84, .iload_n 1, 1), (85, .iload 4, 2), (87, .iload_n 2, 1), (88, .invokevirtual 255, 3), (91, .iload 4, 2), (93, .ireturn, 1)], [(7, 12, 1), (13, 12, 2), (53, 12, 15)], [(242, my_X12_in, 3, 1, 1, 0, 0), (246, my_X12_refuses, 3, 22, 1, 0, 0), (255, my_X12_offer, 3, 22, 3, 0, 0)], [], [(254, 1000000)], [1536, 1537, 1550, 1747, 1748, 114, 1753, 1755, 43, 114, 1773, 1775, 46, 114, 1772])
theorem ok_X12_propose : mt_ok M_X12_propose = true := by decide +kernel
theorem cw_X12_propose : Cond.code (mt_y M_X12_propose) (mt_b M_X12_propose) (mt_l M_X12_propose) (mt_r M_X12_propose) ∈ lw_tbl := List.mem_of_getElem? (i := 1771) (by decide +kernel)
def M_X12_lead : MT := (my_X12_lead, prog_14_method_22_code, 4, none, [], [(0, .aload_n 0, 1), (1, .getfield 13, 3), (4, .iload_n 1, 1), (5, .iconst 3, 1), (6, .iastore, 1), (7, .iconst 0, 1), (8, .istore_n 2, 1), (9, .iconst 0, 1), (10, .istore_n 3, 1), (11, .iload_n 3, 1), (12, .bipush 16, 2), (14, .if_icmp .ge 32, 3), (17, .aload_n 0, 1), (18, .getfield 44, 3), (21, .bipush 16, 2), (23, .iload_n 1, 1), (24, .imul, 1), (25, .iload_n 3, 1), (26, .iadd, 1), (27, .iaload, 1), (28, .iconst (-1), 1), (29, .if_icmp .eq 9, 3), (32, .iload_n 3, 1), (33, .iconst 1, 1), (34, .iadd, 1), (35, .goto 4, 3), (38, .iload_n 2, 1), (39, .istore_n 2, 1), (40, .iinc 3 1, 3), (43, .goto (-32), 3), (46, .aload_n 0, 1), (47, .getfield 50, 3), (50, .iload_n 1, 1), (51, .iload_n 2, 1), (52, .aload_n 0, 1), (53, .getfield 41, 3), (56, .iload_n 1, 1), (57, .iaload, 1), (58, .if_icmp .le 7, 3), (61, .iload_n 2, 1), (62, .goto 9, 3), (65, .aload_n 0, 1), (66, .getfield 41, 3), (69, .iload_n 1, 1), (70, .iaload, 1), (71, .iastore, 1), (72, .aload_n 0, 1), (73, .getfield 53, 3), (76, .iload_n 1, 1), (77, .aload_n 0, 1), (78, .getfield 50, 3), (81, .iload_n 1, 1), (82, .iaload, 1), (83, .iastore, 1), (84, .iconst 0, 1), (85, .istore_n 3, 1), (86, .iload_n 3, 1), (87, .aload_n 0, 1), (88, .getfield 50, 3), (91, .iload_n 1, 1), (92, .iaload, 1), (93, .if_icmp .ge 70, 3), (96, .iload_n 3, 1), (97, .aload_n 0, 1), (98, .getfield 41, 3), (101, .iload_n 1, 1), (102, .iaload, 1), (103, .if_icmp .ge 18, 3), (106, .aload_n 0, 1), (107, .getfield 56, 3), (110, .bipush 16, 2), (112, .iload_n 1, 1), (113, .imul, 1), (114, .iload_n 3, 1), (115, .iadd, 1), (116, .iconst 4, 1), (117, .iastore, 1), (118, .goto 39, 3), (121, .aload_n 0, 1), (122, .iload_n 1, 1), (123, .iload_n 3, 1), (124, .aload_n 0, 1), (125, .getfield 44, 3), (128, .bipush 16, 2), (130, .iload_n 1, 1), (131, .imul, 1), (132, .iload_n 3, 1), (133, .iadd, 1), (134, .iaload, 1), (135, .iconst (-1), 1), (136, .if_icmp .eq 17, 3), (139, .aload_n 0, 1), (140, .getfield 47, 3), (143, .bipush 16, 2), (145, .iload_n 1, 1), (146, .imul, 1), (147, .iload_n 3, 1), (148, .iadd, 1), (149, .iaload, 1), (150, .goto 4, 3), (153, .iconst 0, 1), (154, .invokevirtual 255, 3), (157, .iinc 3 1, 3), (160, .goto (-74), 3), (163, .return_, 1)], [(13, 12, 2), (44, 12, 12), (50, 12, 14), (41, 12, 11), (53, 12, 15), (56, 12, 16), (47, 12, 13)], [(255, my_X12_offer, 3, 22, 3, 0, 0)], [], [], [1537, 1547, 1549, 1546, 1550, 1551, 1548, 1773, 1775, 46, 114])
theorem ok_X12_lead : mt_ok M_X12_lead = true := by decide +kernel
theorem cw_X12_lead : Cond.code (mt_y M_X12_lead) (mt_b M_X12_lead) (mt_l M_X12_lead) (mt_r M_X12_lead) ∈ lw_tbl := List.mem_of_getElem? (i := 1842) (by decide +kernel)
def M_X12_firm : MT := (my_X12_firm, prog_14_method_23_code, 3, (some .int), [], [(0, .iconst 0, 1), (1, .istore_n 2, 1), (2, .iload_n 2, 1), (3, .bipush 16, 2), (5, .if_icmp .ge 39, 3), (8, .aload_n 0, 1), (9, .getfield 56, 3), (12, .bipush 16, 2), (14, .iload_n 1, 1), (15, .imul, 1), (16, .iload_n 2, 1), (17, .iadd, 1), (18, .iaload, 1), (19, .iconst 4, 1), (20, .if_icmp .eq 18, 3), (23, .aload_n 0, 1), (24, .getfield 56, 3), (27, .bipush 16, 2), (29, .iload_n 1, 1), (30, .imul, 1), (31, .iload_n 2, 1), (32, .iadd, 1), (33, .iaload, 1), (34, .iconst 3, 1), (35, .if_icmp .ne 9, 3), (38, .iinc 2 1, 3), (41, .goto (-39), 3), (44, .iload_n 2, 1), (45, .ireturn, 1)], [(56, 12, 16)], [], [], [], [1551])
theorem ok_X12_firm : mt_ok M_X12_firm = true := by decide +kernel
theorem cw_X12_firm : Cond.code (mt_y M_X12_firm) (mt_b M_X12_firm) (mt_l M_X12_firm) (mt_r M_X12_firm) ∈ lw_tbl := List.mem_of_getElem? (i := 1784) (by decide +kernel)
def M_X12_collect : MT := (my_X12_collect, prog_14_method_24_code, 5, (some .boolean), [], [(0, .iload_n 1, 1), (1, .iconst 0, 1), (2, .iconst 2, 1), (3, .invokestatic 242, 3), (6, .istore_n 2, 1), (7, .aload_n 0, 1), (8, .iload_n 2, 1), (9, .iconst 1, 1), (10, .iload_n 2, 1), (11, .ifCond .eq 16, 3), (14, .aload_n 0, 1), (15, .getfield 7, 3), (18, .iload_n 1, 1), (19, .baload, 1), (20, .ifCond .ne 7, 3), (23, .iconst 1, 1), (24, .goto 4, 3), (27, .iconst 0, 1), (28, .invokevirtual 246, 3), (31, .ifCond .eq 25, 3), (34, .aload_n 0, 1), (35, .aload_n 0, 1), (36, .getfield 192, 3), (39, .iconst 3, 1), (40, .if_icmp .ne 7, 3), (43, .iconst 2, 1), (44, .goto 7, 3), (47, .aload_n 0, 1), (48, .getfield 192, 3), (51, .putfield 192, 3), (54, .iconst 0, 1), (55, .ireturn, 1), (56, .aload_n 0, 1), (57, .getfield 13, 3), (60, .iload_n 1, 1), (61, .iaload, 1), (62, .iconst 3, 1), (63, .if_icmp .ne 7, 3), (66, .iconst 1, 1), (67, .goto 4, 3), (70, .iconst 0, 1), (71, .istore_n 3, 1), (72, .iload_n 3, 1), (73, .ifCond .eq 11, 3), (76, .aload_n 0, 1), (77, .iload_n 1, 1), (78, .invokevirtual 259, 3), (81, .goto 4, 3), (84, .iconst 0, 1), (85, .istore 4, 2), (87, .iload_n 3, 1), (88, .ifCond .eq 74, 3), (91, .iload 4, 2), (93, .aload_n 0, 1), (94, .getfield 50, 3), (97, .iload_n 1, 1), (98, .iaload, 1), (99, .if_icmp .ge 63, 3), (102, .aload_n 0, 1), (103, .getfield 56, 3), (106, .bipush 16, 2), (108, .iload_n 1, 1), (109, .imul, 1), (110, .iload 4, 2), (112, .iadd, 1), (113, .iaload, 1), (114, .iconst 2, 1), (115, .if_icmp .eq 35, 3), (118, .aload_n 0, 1), (119, .getfield 56, 3), (122, .bipush 16, 2), (124, .iload_n 1, 1), (125, .imul, 1), (126, .iload 4, 2), (128, .iadd, 1), (129, .iaload, 1), (130, .iconst 3, 1), (131, .if_icmp .eq 19, 3), (134, .aload_n 0, 1), (135, .getfield 56, 3), (138, .bipush 16, 2), (140, .iload_n 1, 1), (141, .imul, 1), (142, .iload 4, 2), (144, .iadd, 1), (145, .iaload, 1), (146, .iconst 4, 1), (147, .if_icmp .ne 7, 3), (150, .iconst 1, 1), (151, .goto 4, 3), (154, .iconst 0, 1), (155, .istore_n 3, 1), (156, .iinc 4 1, 3), (159, .goto (-72), 3), (162, .iload_n 3, 1), (163, .ifCond .ne 5, 3), (166, .iconst 0, 1), (167, .ireturn, 1), (168, .aload_n 0, 1), (169, .iload_n 1, 1), (170, .invokevirtual 228, 3), (173, .aload_n 0, 1), (174, .getfield 68, 3), (177, .iload_n 1, 1), (178, .iconst 1, 1), (179, .iastore, 1), (180, .aload_n 0, 1), (181, .getfield 71, 3), (184, .iload_n 1, 1), (185, .aload_n 0, 1), (186, .iload_n 1, 1), (187, .invokevirtual 259, 3), (190, .iastore, 1), (191, .aload_n 0, 1), (192, .bipush 9, 2), (194, .iload_n 1, 1), (195, .aload_n 0, 1), (196, .getfield 20, 3), (199, .iload_n 1, 1), (200, .iaload, 1), (201, .aload_n 0, 1), (202, .getfield 17, 3), (205, .iload_n 1, 1), (206, .iaload, 1), (207, .aload_n 0, 1), (208, .getfield 71, 3), (211, .iload_n 1, 1), (212, .iaload, 1), (213, .iconst 0, 1), (214, .invokevirtual 250, 3), (217, .istore 4, 2), (219, .iconst 1, 1), (220, .ireturn, 1)], [(7, 12, 1), (192, 12, 0), (13, 12, 2), (50, 12, 14), (56, 12, 16), (68, 12, 20), (71, 12, 21), (20, 12, 4), (17, 12, 3)], [(242, my_X12_in, 3, 1, 1, 0, 0), (246, my_X12_refuses, 3, 22, 1, 0, 0), (259, my_X12_firm, 1, 22, 1, 0, 0), (228, my_X12_forgetCollecting, 1, 22, 1, 0, 0), (250, my_X12_layAll, 6, 22, 2, 0, 0)], [], [], [1536, 1535, 1537, 1549, 1551, 1555, 1556, 1539, 1538, 1747, 1748, 114, 1753, 1755, 43, 114, 1781, 1783, 47, 114, 1527, 1529, 41, 114, 1757, 1759, 44, 114])
theorem ok_X12_collect : mt_ok M_X12_collect = true := by decide +kernel
theorem cw_X12_collect : Cond.code (mt_y M_X12_collect) (mt_b M_X12_collect) (mt_l M_X12_collect) (mt_r M_X12_collect) ∈ lw_tbl := List.mem_of_getElem? (i := 1780) (by decide +kernel)
def M_X12_reform : MT := (my_X12_reform, prog_14_method_25_code, 7, (some .int), [], [(0, .iload_n 1, 1), (1, .iconst 0, 1), (2, .iconst 2, 1), (3, .invokestatic 242, 3), (6, .istore 4, 2), (8, .iload 4, 2), (10, .ifCond .eq 54, 3), (13, .iload_n 2, 1), (14, .iconst 0, 1), (15, .sipush 299, 3), (18, .invokestatic 242, 3), (21, .ifCond .eq 43, 3), (24, .iload_n 2, 1), (25, .iconst 3, 1), (26, .irem, 1), (27, .iload_n 1, 1), (28, .if_icmp .ne 36, 3), (31, .iload_n 2, 1), (32, .aload_n 0, 1), (33, .getfield 92, 3), (36, .iload_n 1, 1), (37, .iaload, 1), (38, .if_icmp .le 26, 3), (41, .iload_n 3, 1), (42, .iconst 1, 1), (43, .sipush 511, 3), (46, .invokestatic 242, 3), (49, .ifCond .eq 15, 3), (52, .iload_n 3, 1), (53, .invokestatic 196, 3), (56, .iconst 3, 1), (57, .if_icmp .ne 7, 3), (60, .iconst 1, 1), (61, .goto 4, 3), (64, .iconst 0, 1), (65, .istore 5, 2), (67, .aload_n 0, 1), (68, .iload 4, 2), (70, .iload 5, 2), (72, .iload 4, 2), (74, .ifCond .eq 16, 3), (77, .aload_n 0, 1), (78, .getfield 7, 3), (81, .iload_n 1, 1), (82, .baload, 1), (83, .ifCond .ne 7, 3), (86, .iconst 1, 1), (87, .goto 4, 3), (90, .iconst 0, 1), (91, .invokevirtual 246, 3), (94, .ifCond .eq 5, 3), (97, .iconst 0, 1), (98, .ireturn, 1), (99, .aload_n 0, 1), (100, .iload_n 1, 1), (101, .invokevirtual 204, 3), (104, .aload_n 0, 1), (105, .getfield 86, 3), (108, .iload_n 1, 1), (109, .iconst 1, 1), (110, .iastore, 1), (111, .aload_n 0, 1), (112, .getfield 92, 3), (115, .iload_n 1, 1), (116, .iload_n 2, 1), (117, .iastore, 1), (118, .aload_n 0, 1), (119, .getfield 89, 3), (122, .iload_n 1, 1), (123, .iload_n 3, 1), (124, .iastore, 1), (125, .aload_n 0, 1), (126, .bipush 16, 2), (128, .iload_n 1, 1), (129, .aload_n 0, 1), (130, .getfield 26, 3), (133, .iload_n 1, 1), (134, .iaload, 1), (135, .aload_n 0, 1), (136, .getfield 23, 3), (139, .iload_n 1, 1), (140, .iaload, 1), (141, .iload_n 2, 1), (142, .iconst 0, 1), (143, .invokevirtual 250, 3), (146, .istore 6, 2), (148, .aload_n 0, 1), (149, .getfield 207, 3), (152, .ireturn, 1)], [(92, 12, 28), (7, 12, 1), (86, 12, 26), (89, 12, 27), (26, 12, 6), (23, 12, 5), (207, 12, 48)], [(242, my_X12_in, 3, 1, 1, 0, 0), (196, my_X12_bits, 1, 1, 1, 0, 0), (246, my_X12_refuses, 3, 22, 1, 0, 0), (204, my_X12_forgetReform, 1, 22, 1, 0, 0), (250, my_X12_layAll, 6, 22, 2, 0, 0)], [], [], [1563, 1536, 1561, 1562, 1541, 1540, 1583, 1747, 1748, 114, 1750, 1751, 114, 1753, 1755, 43, 114, 1531, 1533, 42, 114, 1757, 1759, 44, 114])
theorem ok_X12_reform : mt_ok M_X12_reform = true := by decide +kernel
theorem cw_X12_reform : Cond.code (mt_y M_X12_reform) (mt_b M_X12_reform) (mt_l M_X12_reform) (mt_r M_X12_reform) ∈ lw_tbl := List.mem_of_getElem? (i := 1788) (by decide +kernel)
end
section
/-! ===== records of methods ===== -/
def M_X12_votersOfHistory : MT := (my_X12_votersOfHistory, prog_14_method_26_code, 4, (some .int), [], [(0, .iconst 0, 1), (1, .istore_n 2, 1), (2, .iconst 0, 1), (3, .istore_n 3, 1), (4, .iload_n 3, 1), (5, .sipush 300, 3), (8, .if_icmp .ge 24, 3), (11, .iload_n 2, 1), (12, .aload_n 0, 1), (13, .getfield 35, 3), (16, .sipush 300, 3), (19, .iload_n 1, 1), (20, .imul, 1), (21, .iload_n 3, 1), (22, .iadd, 1), (23, .iaload, 1), (24, .ior, 1), (25, .istore_n 2, 1), (26, .iinc 3 1, 3), (29, .goto (-25), 3), (32, .iload_n 2, 1), (33, .ireturn, 1)], [(35, 12, 9)], [], [], [], [1544])
theorem ok_X12_votersOfHistory : mt_ok M_X12_votersOfHistory = true := by decide +kernel
theorem cw_X12_votersOfHistory : Cond.code (mt_y M_X12_votersOfHistory) (mt_b M_X12_votersOfHistory) (mt_l M_X12_votersOfHistory) (mt_r M_X12_votersOfHistory) ∈ lw_tbl := List.mem_of_getElem? (i := 1796) (by decide +kernel)
def M_X12_seed : MT := (my_X12_seed, prog_14_method_27_code, 6, (some .int), [], [(0, .iconst 0, 1), (1, .istore_n 3, 1), (2, .iconst 0, 1), (3, .istore 4, 2), (5, .iload 4, 2), (7, .bipush 9, 2), (9, .if_icmp .ge 114, 3), (12, .iload_n 2, 1), (13, .iload 4, 2), (15, .invokestatic 234, 3), (18, .ifCond .eq 99, 3), (21, .iinc 3 1, 3), (24, .aload_n 0, 1), (25, .bipush 18, 2), (27, .iload_n 1, 1), (28, .iload 4, 2), (30, .aload_n 0, 1), (31, .getfield 23, 3), (34, .iload_n 1, 1), (35, .iaload, 1), (36, .iconst 1, 1), (37, .iadd, 1), (38, .aload_n 0, 1), (39, .getfield 89, 3), (42, .iload_n 1, 1), (43, .iaload, 1), (44, .aload_n 0, 1), (45, .getfield 98, 3), (48, .iload_n 1, 1), (49, .iaload, 1), (50, .invokevirtual 238, 3), (53, .ifCond .eq 64, 3), (56, .aload_n 0, 1), (57, .getfield 98, 3), (60, .iload_n 1, 1), (61, .iaload, 1), (62, .istore 5, 2), (64, .iload 5, 2), (66, .sipush 300, 3), (69, .if_icmp .ge 48, 3), (72, .aload_n 0, 1), (73, .getfield 101, 3), (76, .sipush 300, 3), (79, .iload_n 1, 1), (80, .imul, 1), (81, .iload 5, 2), (83, .iadd, 1), (84, .iaload, 1), (85, .ifCond .eq 26, 3), (88, .aload_n 0, 1), (89, .aload_n 0, 1), (90, .getfield 231, 3), (93, .iload 5, 2), (95, .aload_n 0, 1), (96, .getfield 101, 3), (99, .sipush 300, 3), (102, .iload_n 1, 1), (103, .imul, 1), (104, .iload 5, 2), (106, .iadd, 1), (107, .iaload, 1), (108, .invokevirtual 262, 3), (111, .iinc 5 1, 3), (114, .goto (-50), 3), (117, .iinc 4 1, 3), (120, .goto (-115), 3), (123, .iload_n 3, 1), (124, .ireturn, 1)], [(23, 12, 5), (89, 12, 27), (98, 12, 30), (101, 12, 31), (231, 12, 58)], [(234, my_X12_has, 2, 1, 1, 0, 0), (238, my_X12_lay, 6, 22, 1, 0, 0), (262, my_X12_addEntry, 3, 22, 1, 0, 0)], [], [], [1540, 1562, 1565, 1566, 1593, 1761, 1762, 114, 1764, 1766, 45, 114, 1801, 1803, 50, 114])
theorem ok_X12_seed : mt_ok M_X12_seed = true := by decide +kernel
theorem cw_X12_seed : Cond.code (mt_y M_X12_seed) (mt_b M_X12_seed) (mt_l M_X12_seed) (mt_r M_X12_seed) ∈ lw_tbl := List.mem_of_getElem? (i := 1800) (by decide +kernel)
end
section
/-! ===== records of methods ===== -/
def M_X12_again : MT := (my_X12_again, prog_14_method_28_code, 7, (some .int), [], [(0, .iload_n 1, 1), (1, .iconst 0, 1), (2, .iconst 2, 1), (3, .invokestatic 242, 3), (6, .istore_n 2, 1), (7, .aload_n 0, 1), (8, .iload_n 2, 1), (9, .iconst 1, 1), (10, .iload_n 2, 1), (11, .ifCond .eq 16, 3), (14, .aload_n 0, 1), (15, .getfield 7, 3), (18, .iload_n 1, 1), (19, .baload, 1), (20, .ifCond .ne 7, 3), (23, .iconst 1, 1), (24, .goto 4, 3), (27, .iconst 0, 1), (28, .invokevirtual 246, 3), (31, .ifCond .eq 25, 3), (34, .aload_n 0, 1), (35, .aload_n 0, 1), (36, .getfield 192, 3), (39, .iconst 3, 1), (40, .if_icmp .ne 7, 3), (43, .iconst 2, 1), (44, .goto 7, 3), (47, .aload_n 0, 1), (48, .getfield 192, 3), (51, .putfield 192, 3), (54, .iconst 0, 1), (55, .ireturn, 1), (56, .iload_n 1, 1), (57, .istore_n 3, 1), (58, .iconst 0, 1), (59, .istore 4, 2), (61, .aload_n 0, 1), (62, .getfield 13, 3), (65, .iload_n 3, 1), (66, .iaload, 1), (67, .iconst 1, 1), (68, .if_icmp .ne 50, 3), (71, .iload 4, 2), (73, .aload_n 0, 1), (74, .iconst 1, 1), (75, .iload_n 3, 1), (76, .aload_n 0, 1), (77, .getfield 26, 3), (80, .iload_n 3, 1), (81, .iaload, 1), (82, .aload_n 0, 1), (83, .getfield 29, 3), (86, .iload_n 3, 1), (87, .iaload, 1), (88, .iconst (-1), 1), (89, .ixor, 1), (90, .iand, 1), (91, .aload_n 0, 1), (92, .getfield 23, 3), (95, .iload_n 3, 1), (96, .iaload, 1), (97, .aload_n 0, 1), (98, .getfield 17, 3), (101, .iload_n 3, 1), (102, .iaload, 1), (103, .aload_n 0, 1), (104, .getfield 20, 3), (107, .iload_n 3, 1), (108, .iaload, 1), (109, .invokevirtual 250, 3), (112, .iadd, 1), (113, .istore 4, 2), (115, .goto 347, 3), (118, .aload_n 0, 1), (119, .getfield 13, 3), (122, .iload_n 3, 1), (123, .iaload, 1), (124, .iconst 2, 1), (125, .if_icmp .ne 39, 3), (128, .iload 4, 2), (130, .aload_n 0, 1), (131, .iconst 3, 1), (132, .iload_n 3, 1), (133, .aload_n 0, 1), (134, .iload_n 3, 1), (135, .invokevirtual 265, 3), (138, .aload_n 0, 1), (139, .getfield 38, 3), (142, .iload_n 3, 1), (143, .iaload, 1), (144, .iconst (-1), 1), (145, .ixor, 1), (146, .iand, 1), (147, .aload_n 0, 1), (148, .getfield 17, 3), (151, .iload_n 3, 1), (152, .iaload, 1), (153, .iconst 0, 1), (154, .iconst 0, 1), (155, .invokevirtual 250, 3), (158, .iadd, 1), (159, .istore 4, 2), (161, .goto 301, 3), (164, .aload_n 0, 1), (165, .getfield 13, 3), (168, .iload_n 3, 1), (169, .iaload, 1), (170, .iconst 3, 1), (171, .if_icmp .ne 291, 3), (174, .iconst 0, 1), (175, .istore 5, 2), (177, .iload 5, 2), (179, .bipush 16, 2), (181, .if_icmp .ge 124, 3), (184, .bipush 16, 2), (186, .iload_n 3, 1), (187, .imul, 1), (188, .iload 5, 2), (190, .iadd, 1), (191, .istore 6, 2), (193, .iload 4, 2), (195, .aload_n 0, 1), (196, .getfield 56, 3), (199, .iload 6, 2), (201, .iaload, 1), (202, .iconst 1, 1), (203, .if_icmp .ne 43, 3), (206, .aload_n 0, 1), (207, .iconst 5, 1), (208, .iload_n 3, 1), (209, .aload_n 0, 1), (210, .getfield 20, 3), (213, .iload_n 3, 1), (214, .iaload, 1), (215, .aload_n 0, 1), (216, .getfield 62, 3), (219, .iload 6, 2), (221, .iaload, 1), (222, .iconst (-1), 1), (223, .ixor, 1), (224, .iand, 1), (225, .aload_n 0, 1), (226, .getfield 17, 3), (229, .iload_n 3, 1), (230, .iaload, 1), (231, .iload 5, 2), (233, .aload_n 0, 1), (234, .getfield 59, 3), (237, .iload 6, 2), (239, .iaload, 1), (240, .invokevirtual 250, 3), (243, .goto 4, 3), (246, .iconst 0, 1), (247, .iadd, 1), (248, .istore 4, 2), (250, .iload 4, 2), (252, .aload_n 0, 1), (253, .getfield 56, 3), (256, .iload 6, 2), (258, .iaload, 1), (259, .iconst 2, 1), (260, .if_icmp .ne 35, 3), (263, .aload_n 0, 1), (264, .bipush 7, 2), (266, .iload_n 3, 1), (267, .bipush 7, 2), (269, .aload_n 0, 1), (270, .getfield 65, 3), (273, .iload 6, 2), (275, .iaload, 1), (276, .iconst (-1), 1), (277, .ixor, 1), (278, .iand, 1), (279, .iload 5, 2), (281, .aload_n 0, 1), (282, .getfield 59, 3), (285, .iload 6, 2), (287, .iaload, 1), (288, .iconst 0, 1), (289, .invokevirtual 250, 3), (292, .goto 4, 3), (295, .iconst 0, 1), (296, .iadd, 1), (297, .istore 4, 2), (299, .iinc 5 1, 3), (302, .goto (-125), 3), (305, .iload 4, 2), (307, .aload_n 0, 1), (308, .getfield 68, 3), (311, .iload_n 3, 1), (312, .iaload, 1), (313, .iconst 1, 1), (314, .if_icmp .ne 41, 3), (317, .aload_n 0, 1), (318, .bipush 9, 2), (320, .iload_n 3, 1), (321, .aload_n 0, 1), (322, .getfield 20, 3), (325, .iload_n 3, 1), (326, .iaload, 1), (327, .aload_n 0, 1), (328, .getfield 74, 3), (331, .iload_n 3, 1), (332, .iaload, 1), (333, .iconst (-1), 1), (334, .ixor, 1), (335, .iand, 1), (336, .aload_n 0, 1), (337, .getfield 17, 3), (340, .iload_n 3, 1), (341, .iaload, 1), (342, .aload_n 0, 1), (343, .getfield 71, 3), (346, .iload_n 3, 1), (347, .iaload, 1), (348, .iconst 0, 1), (349, .invokevirtual 250, 3), (352, .goto 4, 3), (355, .iconst 0, 1), (356, .iadd, 1), (357, .istore 4, 2), (359, .iload 4, 2), (361, .aload_n 0, 1), (362, .getfield 68, 3), (365, .iload_n 3, 1), (366, .iaload, 1), (367, .iconst 2, 1), (368, .if_icmp .ne 41, 3), (371, .aload_n 0, 1), (372, .bipush 11, 2), (374, .iload_n 3, 1), (375, .aload_n 0, 1), (376, .getfield 26, 3), (379, .iload_n 3, 1), (380, .iaload, 1), (381, .aload_n 0, 1), (382, .getfield 77, 3), (385, .iload_n 3, 1), (386, .iaload, 1), (387, .iconst (-1), 1), (388, .ixor, 1), (389, .iand, 1), (390, .aload_n 0, 1), (391, .getfield 23, 3), (394, .iload_n 3, 1), (395, .iaload, 1), (396, .aload_n 0, 1), (397, .getfield 17, 3), (400, .iload_n 3, 1), (401, .iaload, 1), (402, .iconst 0, 1), (403, .invokevirtual 250, 3), (406, .goto 4, 3), (409, .iconst 0, 1), (410, .iadd, 1), (411, .istore 4, 2), (413, .iload 4, 2), (415, .aload_n 0, 1), (416, .getfield 68, 3), (419, .iload_n 3, 1), (420, .iaload, 1), (421, .iconst 3, 1), (422, .if_icmp .ne 36, 3), (425, .aload_n 0, 1), (426, .bipush 13, 2), (428, .iload_n 3, 1), (429, .aload_n 0, 1), (430, .getfield 80, 3), (433, .iload_n 3, 1), (434, .iaload, 1), (435, .aload_n 0, 1), (436, .getfield 83, 3), (439, .iload_n 3, 1), (440, .iaload, 1), (441, .iconst (-1), 1), (442, .ixor, 1), (443, .iand, 1), (444, .aload_n 0, 1), (445, .getfield 17, 3), (448, .iload_n 3, 1), (449, .iaload, 1), (450, .iconst 0, 1), (451, .iconst 0, 1), (452, .invokevirtual 250, 3), (455, .goto 4, 3), (458, .iconst 0, 1), (459, .iadd, 1), (460, .istore 4, 2), (462, .iload 4, 2), (464, .aload_n 0, 1), (465, .getfield 86, 3), (468, .iload_n 3, 1), (469, .iaload, 1), (470, .iconst 1, 1), (471, .if_icmp .ne 41, 3), (474, .aload_n 0, 1), (475, .bipush 16, 2), (477, .iload_n 3, 1), (478, .aload_n 0, 1), (479, .getfield 26, 3), (482, .iload_n 3, 1), (483, .iaload, 1), (484, .aload_n 0, 1), (485, .getfield 95, 3), (488, .iload_n 3, 1), (489, .iaload, 1), (490, .iconst (-1), 1), (491, .ixor, 1), (492, .iand, 1), (493, .aload_n 0, 1), (494, .getfield 23, 3), (497, .iload_n 3, 1), (498, .iaload, 1), (499, .aload_n 0, 1), (500, .getfield 92, 3), (503, .iload_n 3, 1), (504, .iaload, 1), (505, .iconst 0, 1), (506, .invokevirtual 250, 3), (509, .goto 4, 3), (512, .iconst 0, 1), (513, .iadd, 1), (514, .istore 4, 2), (516, .iload 4, 2), (518, .aload_n 0, 1), (519, .getfield 86, 3), (522, .iload_n 3, 1), (523, .iaload, 1), (524, .iconst 3, 1), (525, .if_icmp .ne 46, 3), (528, .aload_n 0, 1), (529, .bipush 20, 2), (531, .iload_n 3, 1), (532, .aload_n 0, 1), (533, .getfield 26, 3), (536, .iload_n 3, 1), (537, .iaload, 1), (538, .aload_n 0, 1), (539, .getfield 95, 3), (542, .iload_n 3, 1), (543, .iaload, 1), (544, .iconst (-1), 1), (545, .ixor, 1), (546, .iand, 1), (547, .aload_n 0, 1), (548, .getfield 23, 3), (551, .iload_n 3, 1), (552, .iaload, 1), (553, .aload_n 0, 1), (554, .getfield 92, 3), (557, .iload_n 3, 1), (558, .iaload, 1), (559, .aload_n 0, 1), (560, .getfield 89, 3), (563, .iload_n 3, 1), (564, .iaload, 1), (565, .invokevirtual 250, 3), (568, .goto 4, 3), (571, .iconst 0, 1), (572, .iadd, 1), (573, .istore 4, 2), (575, .iload 4, 2), (577, .aload_n 0, 1), (578, .getfield 86, 3), (581, .iload_n 3, 1), (582, .iaload, 1), (583, .iconst 2, 1), (584, .if_icmp .ne 26, 3), (587, .aload_n 0, 1), (588, .iload_n 3, 1), (589, .aload_n 0, 1), (590, .getfield 89, 3), (593, .iload_n 3, 1), (594, .iaload, 1), (595, .aload_n 0, 1), (596, .getfield 95, 3), (599, .iload_n 3, 1), (600, .iaload, 1), (601, .iconst (-1), 1), (602, .ixor, 1), (603, .iand, 1), (604, .invokevirtual 268, 3), (607, .goto 4, 3), (610, .iconst 0, 1), (611, .iadd, 1), (612, .istore 4, 2), (614, .iload 4, 2), (616, .ireturn, 1)], [(7, 12, 1), (192, 12, 0), (13, 12, 2), (26, 12, 6), (29, 12, 7), (23, 12, 5), (17, 12, 3), (20, 12, 4), (38, 12, 10), (56, 12, 16), (62, 12, 18), (59, 12, 17), (65, 12, 19), (68, 12, 20), (74, 12, 22), (71, 12, 21), (77, 12, 23), (80, 12, 24), (83, 12, 25), (86, 12, 26), (95, 12, 29), (92, 12, 28), (89, 12, 27)], [(242, my_X12_in, 3, 1, 1, 0, 0), (246, my_X12_refuses, 3, 22, 1, 0, 0), (250, my_X12_layAll, 6, 22, 2, 0, 0), (265, my_X12_votersOfHistory, 1, 22, 1, 0, 0), (268, my_X12_seed, 2, 22, 2, 0, 0)], [], [], [1536, 1535, 1537, 1541, 1542, 1540, 1538, 1539, 1545, 1551, 1553, 1552, 1554, 1555, 1557, 1556, 1558, 1559, 1560, 1561, 1564, 1563, 1562, 1747, 1748, 114, 1753, 1755, 43, 114, 1757, 1759, 44, 114, 1793, 1795, 48, 114, 1797, 1799, 49, 114])
theorem ok_X12_again : mt_ok M_X12_again = true := by decide +kernel
theorem cw_X12_again : Cond.code (mt_y M_X12_again) (mt_b M_X12_again) (mt_l M_X12_again) (mt_r M_X12_again) ∈ lw_tbl := List.mem_of_getElem? (i := 1792) (by decide +kernel)
def M_X12_goOn : MT := (my_X12_goOn, prog_14_method_29_code, 4, none, [], [(0, .aload_n 0, 1), (1, .getfield 23, 3), (4, .iload_n 1, 1), (5, .iload_n 2, 1), (6, .iastore, 1), (7, .aload_n 0, 1), (8, .getfield 26, 3), (11, .iload_n 1, 1), (12, .iload_n 3, 1), (13, .iastore, 1), (14, .aload_n 0, 1), (15, .getfield 13, 3), (18, .iload_n 1, 1), (19, .iaload, 1), (20, .iconst 1, 1), (21, .if_icmp .ne 8, 3), (24, .aload_n 0, 1), (25, .iload_n 1, 1), (26, .invokevirtual 225, 3), (29, .aload_n 0, 1), (30, .getfield 77, 3), (33, .iload_n 1, 1), (34, .iconst 0, 1), (35, .iastore, 1), (36, .aload_n 0, 1), (37, .getfield 86, 3), (40, .iload_n 1, 1), (41, .iconst 0, 1), (42, .iastore, 1), (43, .return_, 1)], [(23, 12, 5), (26, 12, 6), (13, 12, 2), (77, 12, 23), (86, 12, 26)], [(225, my_X12_forgetMatching, 1, 22, 1, 0, 0)], [], [], [1540, 1541, 1537, 1558, 1561, 1523, 1525, 40, 114])
theorem ok_X12_goOn : mt_ok M_X12_goOn = true := by decide +kernel
theorem cw_X12_goOn : Cond.code (mt_y M_X12_goOn) (mt_b M_X12_goOn) (mt_l M_X12_goOn) (mt_r M_X12_goOn) ∈ lw_tbl := List.mem_of_getElem? (i := 1885) (by decide +kernel)
end
section
/-! ===== records of methods ===== -/
def M_X12_matched : MT := (my_X12_matched, prog_14_method_30_code, 5, none, [], [(0, .aload_n 0, 1), (1, .getfield 13, 3), (4, .iload_n 1, 1), (5, .iaload, 1), (6, .iconst 1, 1), (7, .if_icmp .ne 39, 3), (10, .aload_n 0, 1), (11, .getfield 167, 3), (14, .iconst 3, 1), (15, .iload_n 2, 1), (16, .imul, 1), (17, .iconst 1, 1), (18, .iadd, 1), (19, .iaload, 1), (20, .aload_n 0, 1), (21, .getfield 17, 3), (24, .iload_n 1, 1), (25, .iaload, 1), (26, .if_icmp .ne 20, 3), (29, .aload_n 0, 1), (30, .getfield 167, 3), (33, .iconst 3, 1), (34, .iload_n 2, 1), (35, .imul, 1), (36, .iaload, 1), (37, .aload_n 0, 1), (38, .getfield 23, 3), (41, .iload_n 1, 1), (42, .iaload, 1), (43, .if_icmp .eq 4, 3), (46, .return_, 1), (47, .aload_n 0, 1), (48, .getfield 29, 3), (51, .iload_n 1, 1), (52, .dup2, 1), (53, .iaload, 1), (54, .iconst 1, 1), (55, .aload_n 0, 1), (56, .getfield 161, 3), (59, .iload_n 2, 1), (60, .iaload, 1), (61, .ishl, 1), (62, .ior, 1), (63, .iastore, 1), (64, .aload_n 0, 1), (65, .getfield 32, 3), (68, .iload_n 1, 1), (69, .aload_n 0, 1), (70, .getfield 167, 3), (73, .iconst 3, 1), (74, .iload_n 2, 1), (75, .imul, 1), (76, .iconst 2, 1), (77, .iadd, 1), (78, .iaload, 1), (79, .aload_n 0, 1), (80, .getfield 32, 3), (83, .iload_n 1, 1), (84, .iaload, 1), (85, .if_icmp .le 16, 3), (88, .aload_n 0, 1), (89, .getfield 167, 3), (92, .iconst 3, 1), (93, .iload_n 2, 1), (94, .imul, 1), (95, .iconst 2, 1), (96, .iadd, 1), (97, .iaload, 1), (98, .goto 9, 3), (101, .aload_n 0, 1), (102, .getfield 32, 3), (105, .iload_n 1, 1), (106, .iaload, 1), (107, .iastore, 1), (108, .iconst 0, 1), (109, .istore_n 3, 1), (110, .iload_n 3, 1), (111, .aload_n 0, 1), (112, .getfield 170, 3), (115, .iload_n 2, 1), (116, .iaload, 1), (117, .if_icmp .ge 32, 3), (120, .aload_n 0, 1), (121, .getfield 35, 3), (124, .sipush 300, 3), (127, .iload_n 1, 1), (128, .imul, 1), (129, .aload_n 0, 1), (130, .iload_n 2, 1), (131, .iload_n 3, 1), (132, .invokevirtual 272, 3), (135, .iadd, 1), (136, .aload_n 0, 1), (137, .iload_n 2, 1), (138, .iload_n 3, 1), (139, .invokevirtual 275, 3), (142, .iastore, 1), (143, .iinc 3 1, 3), (146, .goto (-36), 3), (149, .aload_n 0, 1), (150, .getfield 29, 3), (153, .iload_n 1, 1), (154, .iaload, 1), (155, .aload_n 0, 1), (156, .getfield 26, 3), (159, .iload_n 1, 1), (160, .iaload, 1), (161, .iand, 1), (162, .invokestatic 196, 3), (165, .iconst 2, 1), (166, .if_icmp .ge 4, 3), (169, .return_, 1), (170, .iconst 0, 1), (171, .istore_n 3, 1), (172, .iload_n 3, 1), (173, .aload_n 0, 1), (174, .getfield 32, 3), (177, .iload_n 1, 1), (178, .iaload, 1), (179, .if_icmp .ge 22, 3), (182, .aload_n 0, 1), (183, .getfield 35, 3), (186, .sipush 300, 3), (189, .iload_n 1, 1), (190, .imul, 1), (191, .iload_n 3, 1), (192, .iadd, 1), (193, .iconst 0, 1), (194, .iastore, 1), (195, .iinc 3 1, 3), (198, .goto (-26), 3), (201, .aload_n 0, 1), (202, .getfield 13, 3), (205, .iload_n 1, 1), (206, .iconst 2, 1), (207, .iastore, 1), (208, .aload_n 0, 1), (209, .iload_n 1, 1), (210, .invokevirtual 265, 3), (213, .istore_n 3, 1), (214, .aload_n 0, 1), (215, .iconst 3, 1), (216, .iload_n 1, 1), (217, .iload_n 3, 1), (218, .aload_n 0, 1), (219, .getfield 17, 3), (222, .iload_n 1, 1), (223, .iaload, 1), (224, .iconst 0, 1), (225, .iconst 0, 1), (226, .invokevirtual 250, 3), (229, .istore 4, 2), (231, .iload_n 3, 1), (232, .ifCond .ne 8, 3), (235, .aload_n 0, 1), (236, .iload_n 1, 1), (237, .invokevirtual 278, 3), (240, .return_, 1)], [(13, 12, 2), (167, 12, 54), (17, 12, 3), (23, 12, 5), (29, 12, 7), (161, 12, 52), (32, 12, 8), (170, 12, 55), (35, 12, 9), (26, 12, 6)], [(272, my_X12_entryRound, 2, 22, 1, 0, 0), (275, my_X12_entryGroup, 2, 22, 1, 0, 0), (196, my_X12_bits, 1, 1, 1, 0, 0), (265, my_X12_votersOfHistory, 1, 22, 1, 0, 0), (250, my_X12_layAll, 6, 22, 2, 0, 0), (278, my_X12_lead, 1, 22, 4, 0, 0)], [], [], [1537, 1589, 1538, 1540, 1542, 1587, 1543, 1590, 1544, 1541, 1831, 1833, 55, 114, 1835, 1837, 56, 114, 1750, 1751, 114, 1793, 1795, 48, 114, 1757, 1759, 44, 114, 1839, 1841, 57, 114])
theorem ok_X12_matched : mt_ok M_X12_matched = true := by decide +kernel
theorem cw_X12_matched : Cond.code (mt_y M_X12_matched) (mt_b M_X12_matched) (mt_l M_X12_matched) (mt_r M_X12_matched) ∈ lw_tbl := List.mem_of_getElem? (i := 1830) (by decide +kernel)
def M_X12_asked : MT := (my_X12_asked, prog_14_method_31_code, 6, none, [], [(0, .aload_n 0, 1), (1, .getfield 13, 3), (4, .iload_n 1, 1), (5, .iaload, 1), (6, .iconst 2, 1), (7, .if_icmp .ne 20, 3), (10, .aload_n 0, 1), (11, .getfield 167, 3), (14, .iconst 3, 1), (15, .iload_n 2, 1), (16, .imul, 1), (17, .iaload, 1), (18, .aload_n 0, 1), (19, .getfield 17, 3), (22, .iload_n 1, 1), (23, .iaload, 1), (24, .if_icmp .eq 4, 3), (27, .return_, 1), (28, .aload_n 0, 1), (29, .getfield 38, 3), (32, .iload_n 1, 1), (33, .dup2, 1), (34, .iaload, 1), (35, .iconst 1, 1), (36, .aload_n 0, 1), (37, .getfield 161, 3), (40, .iload_n 2, 1), (41, .iaload, 1), (42, .ishl, 1), (43, .ior, 1), (44, .iastore, 1), (45, .aload_n 0, 1), (46, .getfield 41, 3), (49, .iload_n 1, 1), (50, .aload_n 0, 1), (51, .getfield 167, 3), (54, .iconst 3, 1), (55, .iload_n 2, 1), (56, .imul, 1), (57, .iconst 1, 1), (58, .iadd, 1), (59, .iaload, 1), (60, .aload_n 0, 1), (61, .getfield 41, 3), (64, .iload_n 1, 1), (65, .iaload, 1), (66, .if_icmp .le 16, 3), (69, .aload_n 0, 1), (70, .getfield 167, 3), (73, .iconst 3, 1), (74, .iload_n 2, 1), (75, .imul, 1), (76, .iconst 1, 1), (77, .iadd, 1), (78, .iaload, 1), (79, .goto 9, 3), (82, .aload_n 0, 1), (83, .getfield 41, 3), (86, .iload_n 1, 1), (87, .iaload, 1), (88, .iastore, 1), (89, .iconst 0, 1), (90, .istore_n 3, 1), (91, .iload_n 3, 1), (92, .aload_n 0, 1), (93, .getfield 170, 3), (96, .iload_n 2, 1), (97, .iaload, 1), (98, .if_icmp .ge 102, 3), (101, .aload_n 0, 1), (102, .getfield 177, 3), (105, .sipush 600, 3), (108, .iload_n 2, 1), (109, .imul, 1), (110, .iconst 3, 1), (111, .iload_n 3, 1), (112, .imul, 1), (113, .iadd, 1), (114, .iaload, 1), (115, .istore 4, 2), (117, .aload_n 0, 1), (118, .getfield 177, 3), (121, .sipush 600, 3), (124, .iload_n 2, 1), (125, .imul, 1), (126, .iconst 3, 1), (127, .iload_n 3, 1), (128, .imul, 1), (129, .iadd, 1), (130, .iconst 1, 1), (131, .iadd, 1), (132, .iaload, 1), (133, .istore 5, 2), (135, .iload 5, 2), (137, .aload_n 0, 1), (138, .getfield 44, 3), (141, .bipush 16, 2), (143, .iload_n 1, 1), (144, .imul, 1), (145, .iload 4, 2), (147, .iadd, 1), (148, .iaload, 1), (149, .if_icmp .le 45, 3), (152, .aload_n 0, 1), (153, .getfield 44, 3), (156, .bipush 16, 2), (158, .iload_n 1, 1), (159, .imul, 1), (160, .iload 4, 2), (162, .iadd, 1), (163, .iload 5, 2), (165, .iastore, 1), (166, .aload_n 0, 1), (167, .getfield 47, 3), (170, .bipush 16, 2), (172, .iload_n 1, 1), (173, .imul, 1), (174, .iload 4, 2), (176, .iadd, 1), (177, .aload_n 0, 1), (178, .getfield 177, 3), (181, .sipush 600, 3), (184, .iload_n 2, 1), (185, .imul, 1), (186, .iconst 3, 1), (187, .iload_n 3, 1), (188, .imul, 1), (189, .iadd, 1), (190, .iconst 2, 1), (191, .iadd, 1), (192, .iaload, 1), (193, .iastore, 1), (194, .iinc 3 1, 3), (197, .goto (-106), 3), (200, .iconst 1, 1), (201, .istore_n 3, 1), (202, .iconst 0, 1), (203, .istore 4, 2), (205, .iload 4, 2), (207, .sipush 300, 3), (210, .if_icmp .ge 53, 3), (213, .aload_n 0, 1), (214, .getfield 35, 3), (217, .sipush 300, 3), (220, .iload_n 1, 1), (221, .imul, 1), (222, .iload 4, 2), (224, .iadd, 1), (225, .iaload, 1), (226, .istore 5, 2), (228, .iload_n 3, 1), (229, .ifCond .eq 26, 3), (232, .iload 5, 2), (234, .ifCond .eq 17, 3), (237, .aload_n 0, 1), (238, .getfield 38, 3), (241, .iload_n 1, 1), (242, .iaload, 1), (243, .iload 5, 2), (245, .invokestatic 281, 3), (248, .ifCond .eq 7, 3), (251, .iconst 1, 1), (252, .goto 4, 3), (255, .iconst 0, 1), (256, .istore_n 3, 1), (257, .iinc 4 1, 3), (260, .goto (-55), 3), (263, .iload_n 3, 1), (264, .ifCond .eq 8, 3), (267, .aload_n 0, 1), (268, .iload_n 1, 1), (269, .invokevirtual 278, 3), (272, .return_, 1)], [(13, 12, 2), (167, 12, 54), (17, 12, 3), (38, 12, 10), (161, 12, 52), (41, 12, 11), (170, 12, 55), (177, 12, 57), (44, 12, 12), (47, 12, 13), (35, 12, 9)], [(281, my_X12_isMajority, 2, 1, 2, 0, 0), (278, my_X12_lead, 1, 22, 4, 0, 0)], [], [], [1537, 1589, 1538, 1545, 1587, 1546, 1590, 1592, 1547, 1548, 1544, 1847, 1848, 114, 1839, 1841, 57, 114])
theorem ok_X12_asked : mt_ok M_X12_asked = true := by decide +kernel
theorem cw_X12_asked : Cond.code (mt_y M_X12_asked) (mt_b M_X12_asked) (mt_l M_X12_asked) (mt_r M_X12_asked) ∈ lw_tbl := List.mem_of_getElem? (i := 1846) (by decide +kernel)
end
section
/-! ===== records of methods ===== -/
def M_X12_voted : MT := (my_X12_voted, prog_14_method_32_code, 5, none, [], [(0, .bipush 16, 2), (2, .iload_n 1, 1), (3, .imul, 1), (4, .aload_n 0, 1), (5, .getfield 167, 3), (8, .iconst 3, 1), (9, .iload_n 2, 1), (10, .imul, 1), (11, .iconst 1, 1), (12, .iadd, 1), (13, .iaload, 1), (14, .iadd, 1), (15, .istore_n 3, 1), (16, .aload_n 0, 1), (17, .getfield 13, 3), (20, .iload_n 1, 1), (21, .iaload, 1), (22, .iconst 3, 1), (23, .if_icmp .ne 39, 3), (26, .aload_n 0, 1), (27, .getfield 167, 3), (30, .iconst 3, 1), (31, .iload_n 2, 1), (32, .imul, 1), (33, .iaload, 1), (34, .aload_n 0, 1), (35, .getfield 17, 3), (38, .iload_n 1, 1), (39, .iaload, 1), (40, .if_icmp .ne 22, 3), (43, .aload_n 0, 1), (44, .getfield 56, 3), (47, .iload_n 3, 1), (48, .iaload, 1), (49, .ifCond .eq 13, 3), (52, .aload_n 0, 1), (53, .getfield 56, 3), (56, .iload_n 3, 1), (57, .iaload, 1), (58, .iconst 4, 1), (59, .if_icmp .ne 4, 3), (62, .return_, 1), (63, .aload_n 0, 1), (64, .getfield 62, 3), (67, .iload_n 3, 1), (68, .dup2, 1), (69, .iaload, 1), (70, .iconst 1, 1), (71, .aload_n 0, 1), (72, .getfield 161, 3), (75, .iload_n 2, 1), (76, .iaload, 1), (77, .ishl, 1), (78, .ior, 1), (79, .iastore, 1), (80, .aload_n 0, 1), (81, .getfield 56, 3), (84, .iload_n 3, 1), (85, .iaload, 1), (86, .iconst 1, 1), (87, .if_icmp .ne 56, 3), (90, .aload_n 0, 1), (91, .getfield 62, 3), (94, .iload_n 3, 1), (95, .iaload, 1), (96, .aload_n 0, 1), (97, .getfield 20, 3), (100, .iload_n 1, 1), (101, .iaload, 1), (102, .invokestatic 281, 3), (105, .ifCond .eq 38, 3), (108, .aload_n 0, 1), (109, .getfield 56, 3), (112, .iload_n 3, 1), (113, .iconst 2, 1), (114, .iastore, 1), (115, .aload_n 0, 1), (116, .bipush 7, 2), (118, .iload_n 1, 1), (119, .bipush 7, 2), (121, .aload_n 0, 1), (122, .getfield 167, 3), (125, .iconst 3, 1), (126, .iload_n 2, 1), (127, .imul, 1), (128, .iconst 1, 1), (129, .iadd, 1), (130, .iaload, 1), (131, .aload_n 0, 1), (132, .getfield 59, 3), (135, .iload_n 3, 1), (136, .iaload, 1), (137, .iconst 0, 1), (138, .invokevirtual 250, 3), (141, .istore 4, 2), (143, .return_, 1)], [(167, 12, 54), (13, 12, 2), (17, 12, 3), (56, 12, 16), (62, 12, 18), (161, 12, 52), (20, 12, 4), (59, 12, 17)], [(281, my_X12_isMajority, 2, 1, 2, 0, 0), (250, my_X12_layAll, 6, 22, 2, 0, 0)], [], [], [1589, 1537, 1538, 1551, 1553, 1587, 1539, 1552, 1847, 1848, 114, 1757, 1759, 44, 114])
theorem ok_X12_voted : mt_ok M_X12_voted = true := by decide +kernel
theorem cw_X12_voted : Cond.code (mt_y M_X12_voted) (mt_b M_X12_voted) (mt_l M_X12_voted) (mt_r M_X12_voted) ∈ lw_tbl := List.mem_of_getElem? (i := 1853) (by decide +kernel)
def M_X12_told : MT := (my_X12_told, prog_14_method_33_code, 4, none, [], [(0, .bipush 16, 2), (2, .iload_n 1, 1), (3, .imul, 1), (4, .aload_n 0, 1), (5, .getfield 167, 3), (8, .iconst 3, 1), (9, .iload_n 2, 1), (10, .imul, 1), (11, .iaload, 1), (12, .iadd, 1), (13, .istore_n 3, 1), (14, .aload_n 0, 1), (15, .getfield 13, 3), (18, .iload_n 1, 1), (19, .iaload, 1), (20, .iconst 3, 1), (21, .if_icmp .ne 42, 3), (24, .aload_n 0, 1), (25, .getfield 56, 3), (28, .iload_n 3, 1), (29, .iaload, 1), (30, .iconst 2, 1), (31, .if_icmp .eq 13, 3), (34, .aload_n 0, 1), (35, .getfield 56, 3), (38, .iload_n 3, 1), (39, .iaload, 1), (40, .iconst 3, 1), (41, .if_icmp .ne 22, 3), (44, .aload_n 0, 1), (45, .getfield 167, 3), (48, .iconst 3, 1), (49, .iload_n 2, 1), (50, .imul, 1), (51, .iconst 1, 1), (52, .iadd, 1), (53, .iaload, 1), (54, .aload_n 0, 1), (55, .getfield 59, 3), (58, .iload_n 3, 1), (59, .iaload, 1), (60, .if_icmp .eq 4, 3), (63, .return_, 1), (64, .aload_n 0, 1), (65, .getfield 65, 3), (68, .iload_n 3, 1), (69, .dup2, 1), (70, .iaload, 1), (71, .iconst 1, 1), (72, .aload_n 0, 1), (73, .getfield 161, 3), (76, .iload_n 2, 1), (77, .iaload, 1), (78, .ishl, 1), (79, .ior, 1), (80, .iastore, 1), (81, .aload_n 0, 1), (82, .getfield 56, 3), (85, .iload_n 3, 1), (86, .aload_n 0, 1), (87, .getfield 65, 3), (90, .iload_n 3, 1), (91, .iaload, 1), (92, .invokestatic 196, 3), (95, .iconst 2, 1), (96, .if_icmp .lt 7, 3), (99, .iconst 3, 1), (100, .goto 9, 3), (103, .aload_n 0, 1), (104, .getfield 56, 3), (107, .iload_n 3, 1), (108, .iaload, 1), (109, .iastore, 1), (110, .return_, 1)], [(167, 12, 54), (13, 12, 2), (56, 12, 16), (59, 12, 17), (65, 12, 19), (161, 12, 52)], [(196, my_X12_bits, 1, 1, 1, 0, 0)], [], [], [1589, 1537, 1551, 1552, 1554, 1587, 1750, 1751, 114])
theorem ok_X12_told : mt_ok M_X12_told = true := by decide +kernel
theorem cw_X12_told : Cond.code (mt_y M_X12_told) (mt_b M_X12_told) (mt_l M_X12_told) (mt_r M_X12_told) ∈ lw_tbl := List.mem_of_getElem? (i := 1857) (by decide +kernel)
def M_X12_knowing : MT := (my_X12_knowing, prog_14_method_34_code, 4, none, [], [(0, .aload_n 0, 1), (1, .getfield 13, 3), (4, .iload_n 1, 1), (5, .iaload, 1), (6, .iconst 3, 1), (7, .if_icmp .ne 49, 3), (10, .aload_n 0, 1), (11, .getfield 167, 3), (14, .iconst 3, 1), (15, .iload_n 2, 1), (16, .imul, 1), (17, .iaload, 1), (18, .aload_n 0, 1), (19, .getfield 17, 3), (22, .iload_n 1, 1), (23, .iaload, 1), (24, .if_icmp .ne 32, 3), (27, .aload_n 0, 1), (28, .getfield 68, 3), (31, .iload_n 1, 1), (32, .iaload, 1), (33, .iconst 1, 1), (34, .if_icmp .ne 22, 3), (37, .aload_n 0, 1), (38, .getfield 167, 3), (41, .iconst 3, 1), (42, .iload_n 2, 1), (43, .imul, 1), (44, .iconst 1, 1), (45, .iadd, 1), (46, .iaload, 1), (47, .aload_n 0, 1), (48, .getfield 71, 3), (51, .iload_n 1, 1), (52, .iaload, 1), (53, .if_icmp .eq 4, 3), (56, .return_, 1), (57, .aload_n 0, 1), (58, .getfield 74, 3), (61, .iload_n 1, 1), (62, .dup2, 1), (63, .iaload, 1), (64, .iconst 1, 1), (65, .aload_n 0, 1), (66, .getfield 161, 3), (69, .iload_n 2, 1), (70, .iaload, 1), (71, .ishl, 1), (72, .ior, 1), (73, .iastore, 1), (74, .aload_n 0, 1), (75, .getfield 74, 3), (78, .iload_n 1, 1), (79, .iaload, 1), (80, .aload_n 0, 1), (81, .getfield 20, 3), (84, .iload_n 1, 1), (85, .iaload, 1), (86, .invokestatic 281, 3), (89, .ifCond .eq 37, 3), (92, .aload_n 0, 1), (93, .getfield 68, 3), (96, .iload_n 1, 1), (97, .iconst 2, 1), (98, .iastore, 1), (99, .aload_n 0, 1), (100, .bipush 11, 2), (102, .iload_n 1, 1), (103, .aload_n 0, 1), (104, .getfield 26, 3), (107, .iload_n 1, 1), (108, .iaload, 1), (109, .aload_n 0, 1), (110, .getfield 23, 3), (113, .iload_n 1, 1), (114, .iaload, 1), (115, .aload_n 0, 1), (116, .getfield 17, 3), (119, .iload_n 1, 1), (120, .iaload, 1), (121, .iconst 0, 1), (122, .invokevirtual 250, 3), (125, .istore_n 3, 1), (126, .return_, 1)], [(13, 12, 2), (167, 12, 54), (17, 12, 3), (68, 12, 20), (71, 12, 21), (74, 12, 22), (161, 12, 52), (20, 12, 4), (26, 12, 6), (23, 12, 5)], [(281, my_X12_isMajority, 2, 1, 2, 0, 0), (250, my_X12_layAll, 6, 22, 2, 0, 0)], [], [], [1537, 1589, 1538, 1555, 1556, 1557, 1587, 1539, 1541, 1540, 1847, 1848, 114, 1757, 1759, 44, 114])
theorem ok_X12_knowing : mt_ok M_X12_knowing = true := by decide +kernel
theorem cw_X12_knowing : Cond.code (mt_y M_X12_knowing) (mt_b M_X12_knowing) (mt_l M_X12_knowing) (mt_r M_X12_knowing) ∈ lw_tbl := List.mem_of_getElem? (i := 1861) (by decide +kernel)
def M_X12_collected : MT := (my_X12_collected, prog_14_method_35_code, 5, none, [], [(0, .aload_n 0, 1), (1, .getfield 13, 3), (4, .iload_n 1, 1), (5, .iaload, 1), (6, .iconst 3, 1), (7, .if_icmp .ne 49, 3), (10, .aload_n 0, 1), (11, .getfield 167, 3), (14, .iconst 3, 1), (15, .iload_n 2, 1), (16, .imul, 1), (17, .iconst 1, 1), (18, .iadd, 1), (19, .iaload, 1), (20, .aload_n 0, 1), (21, .getfield 17, 3), (24, .iload_n 1, 1), (25, .iaload, 1), (26, .if_icmp .ne 30, 3), (29, .aload_n 0, 1), (30, .getfield 68, 3), (33, .iload_n 1, 1), (34, .iaload, 1), (35, .iconst 2, 1), (36, .if_icmp .ne 20, 3), (39, .aload_n 0, 1), (40, .getfield 167, 3), (43, .iconst 3, 1), (44, .iload_n 2, 1), (45, .imul, 1), (46, .iaload, 1), (47, .aload_n 0, 1), (48, .getfield 23, 3), (51, .iload_n 1, 1), (52, .iaload, 1), (53, .if_icmp .eq 4, 3), (56, .return_, 1), (57, .aload_n 0, 1), (58, .getfield 77, 3), (61, .iload_n 1, 1), (62, .dup2, 1), (63, .iaload, 1), (64, .iconst 1, 1), (65, .aload_n 0, 1), (66, .getfield 161, 3), (69, .iload_n 2, 1), (70, .iaload, 1), (71, .ishl, 1), (72, .ior, 1), (73, .iastore, 1), (74, .aload_n 0, 1), (75, .getfield 77, 3), (78, .iload_n 1, 1), (79, .iaload, 1), (80, .invokestatic 196, 3), (83, .iconst 2, 1), (84, .if_icmp .lt 74, 3), (87, .aload_n 0, 1), (88, .getfield 68, 3), (91, .iload_n 1, 1), (92, .iconst 3, 1), (93, .iastore, 1), (94, .aload_n 0, 1), (95, .getfield 80, 3), (98, .iload_n 1, 1), (99, .aload_n 0, 1), (100, .iload_n 1, 1), (101, .invokevirtual 265, 3), (104, .iastore, 1), (105, .aload_n 0, 1), (106, .bipush 13, 2), (108, .iload_n 1, 1), (109, .aload_n 0, 1), (110, .getfield 80, 3), (113, .iload_n 1, 1), (114, .iaload, 1), (115, .aload_n 0, 1), (116, .getfield 17, 3), (119, .iload_n 1, 1), (120, .iaload, 1), (121, .iconst 0, 1), (122, .iconst 0, 1), (123, .invokevirtual 250, 3), (126, .istore_n 3, 1), (127, .iconst 0, 1), (128, .istore 4, 2), (130, .iload 4, 2), (132, .sipush 300, 3), (135, .if_icmp .ge 23, 3), (138, .aload_n 0, 1), (139, .getfield 35, 3), (142, .sipush 300, 3), (145, .iload_n 1, 1), (146, .imul, 1), (147, .iload 4, 2), (149, .iadd, 1), (150, .iconst 0, 1), (151, .iastore, 1), (152, .iinc 4 1, 3), (155, .goto (-25), 3), (158, .return_, 1)], [(13, 12, 2), (167, 12, 54), (17, 12, 3), (68, 12, 20), (23, 12, 5), (77, 12, 23), (161, 12, 52), (80, 12, 24), (35, 12, 9)], [(196, my_X12_bits, 1, 1, 1, 0, 0), (265, my_X12_votersOfHistory, 1, 22, 1, 0, 0), (250, my_X12_layAll, 6, 22, 2, 0, 0)], [], [], [1537, 1589, 1538, 1555, 1540, 1558, 1587, 1559, 1544, 1750, 1751, 114, 1793, 1795, 48, 114, 1757, 1759, 44, 114])
theorem ok_X12_collected : mt_ok M_X12_collected = true := by decide +kernel
theorem cw_X12_collected : Cond.code (mt_y M_X12_collected) (mt_b M_X12_collected) (mt_l M_X12_collected) (mt_r M_X12_collected) ∈ lw_tbl := List.mem_of_getElem? (i := 1865) (by decide +kernel)
end
section
/-! ===== records of methods ===== -/
def M_X12_stopped : MT := (my_X12_stopped, prog_14_method_36_code, 4, none, [], [(0, .aload_n 0, 1), (1, .getfield 86, 3), (4, .iload_n 1, 1), (5, .iaload, 1), (6, .iconst 1, 1), (7, .if_icmp .ne 39, 3), (10, .aload_n 0, 1), (11, .getfield 167, 3), (14, .iconst 3, 1), (15, .iload_n 2, 1), (16, .imul, 1), (17, .iaload, 1), (18, .aload_n 0, 1), (19, .getfield 23, 3), (22, .iload_n 1, 1), (23, .iaload, 1), (24, .if_icmp .ne 22, 3), (27, .aload_n 0, 1), (28, .getfield 167, 3), (31, .iconst 3, 1), (32, .iload_n 2, 1), (33, .imul, 1), (34, .iconst 1, 1), (35, .iadd, 1), (36, .iaload, 1), (37, .aload_n 0, 1), (38, .getfield 92, 3), (41, .iload_n 1, 1), (42, .iaload, 1), (43, .if_icmp .eq 4, 3), (46, .return_, 1), (47, .aload_n 0, 1), (48, .getfield 95, 3), (51, .iload_n 1, 1), (52, .dup2, 1), (53, .iaload, 1), (54, .iconst 1, 1), (55, .aload_n 0, 1), (56, .getfield 161, 3), (59, .iload_n 2, 1), (60, .iaload, 1), (61, .ishl, 1), (62, .ior, 1), (63, .iastore, 1), (64, .aload_n 0, 1), (65, .getfield 98, 3), (68, .iload_n 1, 1), (69, .aload_n 0, 1), (70, .getfield 167, 3), (73, .iconst 3, 1), (74, .iload_n 2, 1), (75, .imul, 1), (76, .iconst 2, 1), (77, .iadd, 1), (78, .iaload, 1), (79, .aload_n 0, 1), (80, .getfield 98, 3), (83, .iload_n 1, 1), (84, .iaload, 1), (85, .if_icmp .le 16, 3), (88, .aload_n 0, 1), (89, .getfield 167, 3), (92, .iconst 3, 1), (93, .iload_n 2, 1), (94, .imul, 1), (95, .iconst 2, 1), (96, .iadd, 1), (97, .iaload, 1), (98, .goto 9, 3), (101, .aload_n 0, 1), (102, .getfield 98, 3), (105, .iload_n 1, 1), (106, .iaload, 1), (107, .iastore, 1), (108, .iconst 0, 1), (109, .istore_n 3, 1), (110, .iload_n 3, 1), (111, .aload_n 0, 1), (112, .getfield 170, 3), (115, .iload_n 2, 1), (116, .iaload, 1), (117, .if_icmp .ge 32, 3), (120, .aload_n 0, 1), (121, .getfield 101, 3), (124, .sipush 300, 3), (127, .iload_n 1, 1), (128, .imul, 1), (129, .aload_n 0, 1), (130, .iload_n 2, 1), (131, .iload_n 3, 1), (132, .invokevirtual 272, 3), (135, .iadd, 1), (136, .aload_n 0, 1), (137, .iload_n 2, 1), (138, .iload_n 3, 1), (139, .invokevirtual 275, 3), (142, .iastore, 1), (143, .iinc 3 1, 3), (146, .goto (-36), 3), (149, .aload_n 0, 1), (150, .getfield 173, 3), (153, .iconst 2, 1), (154, .iload_n 2, 1), (155, .imul, 1), (156, .iaload, 1), (157, .aload_n 0, 1), (158, .getfield 104, 3), (161, .iload_n 1, 1), (162, .iaload, 1), (163, .if_icmp .le 33, 3), (166, .aload_n 0, 1), (167, .getfield 104, 3), (170, .iload_n 1, 1), (171, .aload_n 0, 1), (172, .getfield 173, 3), (175, .iconst 2, 1), (176, .iload_n 2, 1), (177, .imul, 1), (178, .iaload, 1), (179, .iastore, 1), (180, .aload_n 0, 1), (181, .getfield 107, 3), (184, .iload_n 1, 1), (185, .aload_n 0, 1), (186, .getfield 173, 3), (189, .iconst 2, 1), (190, .iload_n 2, 1), (191, .imul, 1), (192, .iconst 1, 1), (193, .iadd, 1), (194, .iaload, 1), (195, .iastore, 1), (196, .aload_n 0, 1), (197, .getfield 95, 3), (200, .iload_n 1, 1), (201, .iaload, 1), (202, .invokestatic 196, 3), (205, .iconst 2, 1), (206, .if_icmp .ge 4, 3), (209, .return_, 1), (210, .aload_n 0, 1), (211, .getfield 95, 3), (214, .iload_n 1, 1), (215, .iconst 0, 1), (216, .iastore, 1), (217, .aload_n 0, 1), (218, .getfield 104, 3), (221, .iload_n 1, 1), (222, .iaload, 1), (223, .iconst (-1), 1), (224, .if_icmp .eq 23, 3), (227, .aload_n 0, 1), (228, .getfield 89, 3), (231, .iload_n 1, 1), (232, .aload_n 0, 1), (233, .getfield 107, 3), (236, .iload_n 1, 1), (237, .iaload, 1), (238, .iastore, 1), (239, .aload_n 0, 1), (240, .iload_n 1, 1), (241, .invokevirtual 284, 3), (244, .goto 22, 3), (247, .aload_n 0, 1), (248, .getfield 86, 3), (251, .iload_n 1, 1), (252, .iconst 2, 1), (253, .iastore, 1), (254, .aload_n 0, 1), (255, .iload_n 1, 1), (256, .aload_n 0, 1), (257, .getfield 89, 3), (260, .iload_n 1, 1), (261, .iaload, 1), (262, .invokevirtual 268, 3), (265, .istore_n 3, 1), (266, .return_, 1)], [(86, 12, 26), (167, 12, 54), (23, 12, 5), (92, 12, 28), (95, 12, 29), (161, 12, 52), (98, 12, 30), (170, 12, 55), (101, 12, 31), (173, 12, 56), (104, 12, 32), (107, 12, 33), (89, 12, 27)], [(272, my_X12_entryRound, 2, 22, 1, 0, 0), (275, my_X12_entryGroup, 2, 22, 1, 0, 0), (196, my_X12_bits, 1, 1, 1, 0, 0), (284, my_X12_pick, 1, 22, 3, 0, 0), (268, my_X12_seed, 2, 22, 2, 0, 0)], [], [], [1561, 1589, 1540, 1563, 1564, 1587, 1565, 1590, 1566, 1591, 1567, 1568, 1562, 1831, 1833, 55, 114, 1835, 1837, 56, 114, 1750, 1751, 114, 1870, 1872, 64, 114, 1797, 1799, 49, 114])
theorem ok_X12_stopped : mt_ok M_X12_stopped = true := by decide +kernel
theorem cw_X12_stopped : Cond.code (mt_y M_X12_stopped) (mt_b M_X12_stopped) (mt_l M_X12_stopped) (mt_r M_X12_stopped) ∈ lw_tbl := List.mem_of_getElem? (i := 1869) (by decide +kernel)
def M_X12_pick : MT := (my_X12_pick, prog_14_method_37_code, 3, none, [], [(0, .aload_n 0, 1), (1, .getfield 86, 3), (4, .iload_n 1, 1), (5, .iconst 3, 1), (6, .iastore, 1), (7, .aload_n 0, 1), (8, .getfield 95, 3), (11, .iload_n 1, 1), (12, .iconst 0, 1), (13, .iastore, 1), (14, .aload_n 0, 1), (15, .bipush 20, 2), (17, .iload_n 1, 1), (18, .aload_n 0, 1), (19, .getfield 26, 3), (22, .iload_n 1, 1), (23, .iaload, 1), (24, .aload_n 0, 1), (25, .getfield 23, 3), (28, .iload_n 1, 1), (29, .iaload, 1), (30, .aload_n 0, 1), (31, .getfield 92, 3), (34, .iload_n 1, 1), (35, .iaload, 1), (36, .aload_n 0, 1), (37, .getfield 89, 3), (40, .iload_n 1, 1), (41, .iaload, 1), (42, .invokevirtual 250, 3), (45, .istore_n 2, 1), (46, .return_, 1)], [(86, 12, 26), (95, 12, 29), (26, 12, 6), (23, 12, 5), (92, 12, 28), (89, 12, 27)], [(250, my_X12_layAll, 6, 22, 2, 0, 0)], [], [], [1561, 1564, 1541, 1540, 1563, 1562, 1757, 1759, 44, 114])
theorem ok_X12_pick : mt_ok M_X12_pick = true := by decide +kernel
theorem cw_X12_pick : Cond.code (mt_y M_X12_pick) (mt_b M_X12_pick) (mt_l M_X12_pick) (mt_r M_X12_pick) ∈ lw_tbl := List.mem_of_getElem? (i := 1873) (by decide +kernel)
def M_X12_seeded : MT := (my_X12_seeded, prog_14_method_38_code, 3, none, [], [(0, .aload_n 0, 1), (1, .getfield 86, 3), (4, .iload_n 1, 1), (5, .iaload, 1), (6, .iconst 2, 1), (7, .if_icmp .ne 22, 3), (10, .aload_n 0, 1), (11, .getfield 167, 3), (14, .iconst 3, 1), (15, .iload_n 2, 1), (16, .imul, 1), (17, .iaload, 1), (18, .aload_n 0, 1), (19, .getfield 23, 3), (22, .iload_n 1, 1), (23, .iaload, 1), (24, .iconst 1, 1), (25, .iadd, 1), (26, .if_icmp .eq 4, 3), (29, .return_, 1), (30, .aload_n 0, 1), (31, .getfield 95, 3), (34, .iload_n 1, 1), (35, .dup2, 1), (36, .iaload, 1), (37, .iconst 1, 1), (38, .aload_n 0, 1), (39, .getfield 161, 3), (42, .iload_n 2, 1), (43, .iaload, 1), (44, .ishl, 1), (45, .ior, 1), (46, .iastore, 1), (47, .aload_n 0, 1), (48, .getfield 89, 3), (51, .iload_n 1, 1), (52, .iaload, 1), (53, .aload_n 0, 1), (54, .getfield 95, 3), (57, .iload_n 1, 1), (58, .iaload, 1), (59, .iconst (-1), 1), (60, .ixor, 1), (61, .iand, 1), (62, .ifCond .ne 8, 3), (65, .aload_n 0, 1), (66, .iload_n 1, 1), (67, .invokevirtual 284, 3), (70, .return_, 1)], [(86, 12, 26), (167, 12, 54), (23, 12, 5), (95, 12, 29), (161, 12, 52), (89, 12, 27)], [(284, my_X12_pick, 1, 22, 3, 0, 0)], [], [], [1561, 1589, 1540, 1564, 1587, 1562, 1870, 1872, 64, 114])
theorem ok_X12_seeded : mt_ok M_X12_seeded = true := by decide +kernel
theorem cw_X12_seeded : Cond.code (mt_y M_X12_seeded) (mt_b M_X12_seeded) (mt_l M_X12_seeded) (mt_r M_X12_seeded) ∈ lw_tbl := List.mem_of_getElem? (i := 1877) (by decide +kernel)
def M_X12_picked : MT := (my_X12_picked, prog_14_method_39_code, 4, none, [], [(0, .aload_n 0, 1), (1, .getfield 86, 3), (4, .iload_n 1, 1), (5, .iaload, 1), (6, .iconst 3, 1), (7, .if_icmp .ne 39, 3), (10, .aload_n 0, 1), (11, .getfield 167, 3), (14, .iconst 3, 1), (15, .iload_n 2, 1), (16, .imul, 1), (17, .iaload, 1), (18, .aload_n 0, 1), (19, .getfield 23, 3), (22, .iload_n 1, 1), (23, .iaload, 1), (24, .if_icmp .ne 22, 3), (27, .aload_n 0, 1), (28, .getfield 167, 3), (31, .iconst 3, 1), (32, .iload_n 2, 1), (33, .imul, 1), (34, .iconst 1, 1), (35, .iadd, 1), (36, .iaload, 1), (37, .aload_n 0, 1), (38, .getfield 92, 3), (41, .iload_n 1, 1), (42, .iaload, 1), (43, .if_icmp .eq 4, 3), (46, .return_, 1), (47, .aload_n 0, 1), (48, .getfield 95, 3), (51, .iload_n 1, 1), (52, .dup2, 1), (53, .iaload, 1), (54, .iconst 1, 1), (55, .aload_n 0, 1), (56, .getfield 161, 3), (59, .iload_n 2, 1), (60, .iaload, 1), (61, .ishl, 1), (62, .ior, 1), (63, .iastore, 1), (64, .aload_n 0, 1), (65, .getfield 95, 3), (68, .iload_n 1, 1), (69, .iaload, 1), (70, .invokestatic 196, 3), (73, .iconst 2, 1), (74, .if_icmp .lt 85, 3), (77, .aload_n 0, 1), (78, .getfield 86, 3), (81, .iload_n 1, 1), (82, .iconst 0, 1), (83, .iastore, 1), (84, .aload_n 0, 1), (85, .bipush 22, 2), (87, .iload_n 1, 1), (88, .aload_n 0, 1), (89, .getfield 26, 3), (92, .iload_n 1, 1), (93, .iaload, 1), (94, .aload_n 0, 1), (95, .getfield 23, 3), (98, .iload_n 1, 1), (99, .iaload, 1), (100, .aload_n 0, 1), (101, .getfield 89, 3), (104, .iload_n 1, 1), (105, .iaload, 1), (106, .iconst 0, 1), (107, .invokevirtual 250, 3), (110, .istore_n 3, 1), (111, .iload_n 3, 1), (112, .aload_n 0, 1), (113, .bipush 22, 2), (115, .iload_n 1, 1), (116, .aload_n 0, 1), (117, .getfield 89, 3), (120, .iload_n 1, 1), (121, .iaload, 1), (122, .aload_n 0, 1), (123, .getfield 23, 3), (126, .iload_n 1, 1), (127, .iaload, 1), (128, .aload_n 0, 1), (129, .getfield 89, 3), (132, .iload_n 1, 1), (133, .iaload, 1), (134, .iconst 0, 1), (135, .invokevirtual 250, 3), (138, .iadd, 1), (139, .istore_n 3, 1), (140, .aload_n 0, 1), (141, .iload_n 1, 1), (142, .aload_n 0, 1), (143, .getfield 23, 3), (146, .iload_n 1, 1), (147, .iaload, 1), (148, .iconst 1, 1), (149, .iadd, 1), (150, .aload_n 0, 1), (151, .getfield 89, 3), (154, .iload_n 1, 1), (155, .iaload, 1), (156, .invokevirtual 287, 3), (159, .return_, 1)], [(86, 12, 26), (167, 12, 54), (23, 12, 5), (92, 12, 28), (95, 12, 29), (161, 12, 52), (26, 12, 6), (89, 12, 27)], [(196, my_X12_bits, 1, 1, 1, 0, 0), (250, my_X12_layAll, 6, 22, 2, 0, 0), (287, my_X12_goOn, 3, 22, 2, 0, 0)], [], [], [1561, 1589, 1540, 1563, 1564, 1587, 1541, 1562, 1750, 1751, 114, 1757, 1759, 44, 114, 1882, 1884, 67, 114])
theorem ok_X12_picked : mt_ok M_X12_picked = true := by decide +kernel
theorem cw_X12_picked : Cond.code (mt_y M_X12_picked) (mt_b M_X12_picked) (mt_l M_X12_picked) (mt_r M_X12_picked) ∈ lw_tbl := List.mem_of_getElem? (i := 1881) (by decide +kernel)
end
section
/-! ===== records of methods ===== -/
def M_X12_toLeader : MT := (my_X12_toLeader, prog_14_method_40_code, 3, none, [], [(0, .aload_n 0, 1), (1, .getfield 158, 3), (4, .iload_n 2, 1), (5, .iaload, 1), (6, .tableswitch 273 2 23 #[102, 273, 111, 273, 120, 273, 129, 273, 138, 273, 147, 273, 156, 273, 273, 203, 273, 212, 273, 221, 273, 230], 102), (108, .aload_n 0, 1), (109, .iload_n 1, 1), (110, .iload_n 2, 1), (111, .invokevirtual 290, 3), (114, .goto 198, 3), (117, .aload_n 0, 1), (118, .iload_n 1, 1), (119, .iload_n 2, 1), (120, .invokevirtual 294, 3), (123, .goto 189, 3), (126, .aload_n 0, 1), (127, .iload_n 1, 1), (128, .iload_n 2, 1), (129, .invokevirtual 297, 3), (132, .goto 180, 3), (135, .aload_n 0, 1), (136, .iload_n 1, 1), (137, .iload_n 2, 1), (138, .invokevirtual 300, 3), (141, .goto 171, 3), (144, .aload_n 0, 1), (145, .iload_n 1, 1), (146, .iload_n 2, 1), (147, .invokevirtual 303, 3), (150, .goto 162, 3), (153, .aload_n 0, 1), (154, .iload_n 1, 1), (155, .iload_n 2, 1), (156, .invokevirtual 306, 3), (159, .goto 153, 3), (162, .aload_n 0, 1), (163, .getfield 68, 3), (166, .iload_n 1, 1), (167, .iaload, 1), (168, .iconst 3, 1), (169, .if_icmp .ne 143, 3), (172, .aload_n 0, 1), (173, .getfield 17, 3), (176, .iload_n 1, 1), (177, .iaload, 1), (178, .aload_n 0, 1), (179, .getfield 167, 3), (182, .iconst 3, 1), (183, .iload_n 2, 1), (184, .imul, 1), (185, .iaload, 1), (186, .if_icmp .ne 126, 3), (189, .aload_n 0, 1), (190, .getfield 83, 3), (193, .iload_n 1, 1), (194, .dup2, 1), (195, .iaload, 1), (196, .iconst 1, 1), (197, .aload_n 0, 1), (198, .getfield 161, 3), (201, .iload_n 2, 1), (202, .iaload, 1), (203, .ishl, 1), (204, .ior, 1), (205, .iastore, 1), (206, .goto 106, 3), (209, .aload_n 0, 1), (210, .iload_n 1, 1), (211, .iload_n 2, 1), (212, .invokevirtual 309, 3), (215, .goto 97, 3), (218, .aload_n 0, 1), (219, .iload_n 1, 1), (220, .iload_n 2, 1), (221, .invokevirtual 312, 3), (224, .goto 88, 3), (227, .aload_n 0, 1), (228, .iload_n 1, 1), (229, .iload_n 2, 1), (230, .invokevirtual 315, 3), (233, .goto 79, 3), (236, .aload_n 0, 1), (237, .getfield 23, 3), (240, .iload_n 1, 1), (241, .iaload, 1), (242, .aload_n 0, 1), (243, .getfield 167, 3), (246, .iconst 3, 1), (247, .iload_n 2, 1), (248, .imul, 1), (249, .iaload, 1), (250, .if_icmp .ge 62, 3), (253, .aload_n 0, 1), (254, .iload_n 1, 1), (255, .aload_n 0, 1), (256, .getfield 167, 3), (259, .iconst 3, 1), (260, .iload_n 2, 1), (261, .imul, 1), (262, .iaload, 1), (263, .aload_n 0, 1), (264, .getfield 167, 3), (267, .iconst 3, 1), (268, .iload_n 2, 1), (269, .imul, 1), (270, .iconst 1, 1), (271, .iadd, 1), (272, .iaload, 1), (273, .invokevirtual 287, 3), (276, .goto 36, 3), (279, .aload_n 0, 1), (280, .getfield 13, 3), (283, .iload_n 1, 1), (284, .aload_n 0, 1), (285, .getfield 17, 3), (288, .iload_n 1, 1), (289, .iaload, 1), (290, .aload_n 0, 1), (291, .getfield 167, 3), (294, .iconst 3, 1), (295, .iload_n 2, 1), (296, .imul, 1), (297, .iaload, 1), (298, .if_icmp .ne 7, 3), (301, .iconst 0, 1), (302, .goto 9, 3), (305, .aload_n 0, 1), (306, .getfield 13, 3), (309, .iload_n 1, 1), (310, .iaload, 1), (311, .iastore, 1), (312, .return_, 1)], [(158, 12, 51), (68, 12, 20), (17, 12, 3), (167, 12, 54), (83, 12, 25), (161, 12, 52), (23, 12, 5), (13, 12, 2)], [(290, my_X12_matched, 2, 22, 5, 0, 0), (294, my_X12_asked, 2, 22, 5, 0, 0), (297, my_X12_voted, 2, 22, 3, 0, 0), (300, my_X12_told, 2, 22, 2, 0, 0), (303, my_X12_knowing, 2, 22, 3, 0, 0), (306, my_X12_collected, 2, 22, 3, 0, 0), (309, my_X12_stopped, 2, 22, 4, 0, 0), (312, my_X12_seeded, 2, 22, 4, 0, 0), (315, my_X12_picked, 2, 22, 3, 0, 0), (287, my_X12_goOn, 3, 22, 2, 0, 0)], [], [], [1586, 1555, 1538, 1589, 1560, 1587, 1540, 1537, 1827, 1829, 54, 114, 1843, 1845, 58, 114, 1850, 1852, 59, 114, 1854, 1856, 60, 114, 1858, 1860, 61, 114, 1862, 1864, 62, 114, 1866, 1868, 63, 114, 1874, 1876, 65, 114, 1878, 1880, 66, 114, 1882, 1884, 67, 114])
theorem ok_X12_toLeader : mt_ok M_X12_toLeader = true := by decide +kernel
theorem cw_X12_toLeader : Cond.code (mt_y M_X12_toLeader) (mt_b M_X12_toLeader) (mt_l M_X12_toLeader) (mt_r M_X12_toLeader) ∈ lw_tbl := List.mem_of_getElem? (i := 1826) (by decide +kernel)
def M_X12_countEntries : MT := (my_X12_countEntries, prog_14_method_41_code, 4, (some .int), [], [(0, .iconst 0, 1), (1, .istore_n 2, 1), (2, .iconst 0, 1), (3, .istore_n 3, 1), (4, .iload_n 3, 1), (5, .sipush 300, 3), (8, .if_icmp .ge 32, 3), (11, .iload_n 2, 1), (12, .aload_n 0, 1), (13, .getfield 122, 3), (16, .sipush 300, 3), (19, .iload_n 1, 1), (20, .imul, 1), (21, .iload_n 3, 1), (22, .iadd, 1), (23, .iaload, 1), (24, .ifCond .eq 7, 3), (27, .iconst 1, 1), (28, .goto 4, 3), (31, .iconst 0, 1), (32, .iadd, 1), (33, .istore_n 2, 1), (34, .iinc 3 1, 3), (37, .goto (-33), 3), (40, .iload_n 2, 1), (41, .ireturn, 1)], [(122, 12, 38)], [], [], [], [1573])
theorem ok_X12_countEntries : mt_ok M_X12_countEntries = true := by decide +kernel
theorem cw_X12_countEntries : Cond.code (mt_y M_X12_countEntries) (mt_b M_X12_countEntries) (mt_l M_X12_countEntries) (mt_r M_X12_countEntries) ∈ lw_tbl := List.mem_of_getElem? (i := 1909) (by decide +kernel)
def M_X12_greatestRound : MT := (my_X12_greatestRound, prog_14_method_42_code, 4, (some .int), [], [(0, .iconst (-1), 1), (1, .istore_n 2, 1), (2, .iconst 0, 1), (3, .istore_n 3, 1), (4, .iload_n 3, 1), (5, .sipush 300, 3), (8, .if_icmp .ge 30, 3), (11, .aload_n 0, 1), (12, .getfield 122, 3), (15, .sipush 300, 3), (18, .iload_n 1, 1), (19, .imul, 1), (20, .iload_n 3, 1), (21, .iadd, 1), (22, .iaload, 1), (23, .ifCond .eq 7, 3), (26, .iload_n 3, 1), (27, .goto 4, 3), (30, .iload_n 2, 1), (31, .istore_n 2, 1), (32, .iinc 3 1, 3), (35, .goto (-31), 3), (38, .iload_n 2, 1), (39, .ireturn, 1)], [(122, 12, 38)], [], [], [], [1573])
theorem ok_X12_greatestRound : mt_ok M_X12_greatestRound = true := by decide +kernel
theorem cw_X12_greatestRound : Cond.code (mt_y M_X12_greatestRound) (mt_b M_X12_greatestRound) (mt_l M_X12_greatestRound) (mt_r M_X12_greatestRound) ∈ lw_tbl := List.mem_of_getElem? (i := 1905) (by decide +kernel)
def M_X12_sayGone : MT := (my_X12_sayGone, prog_14_method_43_code, 4, none, [], [(0, .aload_n 0, 1), (1, .getfield 134, 3), (4, .iload_n 1, 1), (5, .iaload, 1), (6, .ifCond .eq 27, 3), (9, .aload_n 0, 1), (10, .bipush 23, 2), (12, .iload_n 1, 1), (13, .iload_n 2, 1), (14, .aload_n 0, 1), (15, .getfield 113, 3), (18, .iload_n 1, 1), (19, .iaload, 1), (20, .iconst 1, 1), (21, .iadd, 1), (22, .aload_n 0, 1), (23, .getfield 134, 3), (26, .iload_n 1, 1), (27, .iaload, 1), (28, .iconst 0, 1), (29, .invokevirtual 238, 3), (32, .istore_n 3, 1), (33, .return_, 1)], [(134, 12, 42), (113, 12, 35)], [(238, my_X12_lay, 6, 22, 1, 0, 0)], [], [], [1577, 1570, 1764, 1766, 45, 114])
theorem ok_X12_sayGone : mt_ok M_X12_sayGone = true := by decide +kernel
theorem cw_X12_sayGone : Cond.code (mt_y M_X12_sayGone) (mt_b M_X12_sayGone) (mt_l M_X12_sayGone) (mt_r M_X12_sayGone) ∈ lw_tbl := List.mem_of_getElem? (i := 1901) (by decide +kernel)
def M_X12_isOn : MT := (my_X12_isOn, prog_14_method_44_code, 3, (some .boolean), [], [(0, .aload_n 0, 1), (1, .getfield 110, 3), (4, .iload_n 1, 1), (5, .iaload, 1), (6, .iconst 2, 1), (7, .if_icmp .ne 17, 3), (10, .aload_n 0, 1), (11, .getfield 113, 3), (14, .iload_n 1, 1), (15, .iaload, 1), (16, .iload_n 2, 1), (17, .if_icmp .ne 7, 3), (20, .iconst 1, 1), (21, .goto 4, 3), (24, .iconst 0, 1), (25, .ireturn, 1)], [(110, 12, 34), (113, 12, 35)], [], [], [], [1569, 1570])
theorem ok_X12_isOn : mt_ok M_X12_isOn = true := by decide +kernel
theorem cw_X12_isOn : Cond.code (mt_y M_X12_isOn) (mt_b M_X12_isOn) (mt_l M_X12_isOn) (mt_r M_X12_isOn) ∈ lw_tbl := List.mem_of_getElem? (i := 1897) (by decide +kernel)
def M_X12_match : MT := (my_X12_match, prog_14_method_45_code, 10, none, [], [(0, .aload_n 0, 1), (1, .iload_n 1, 1), (2, .iload_n 3, 1), (3, .invokevirtual 318, 3), (6, .ifCond .ne 10, 3), (9, .aload_n 0, 1), (10, .iload_n 1, 1), (11, .iload_n 2, 1), (12, .invokevirtual 321, 3), (15, .return_, 1), (16, .aload_n 0, 1), (17, .getfield 122, 3), (20, .sipush 300, 3), (23, .iload_n 1, 1), (24, .imul, 1), (25, .iload 4, 2), (27, .iadd, 1), (28, .iaload, 1), (29, .istore 6, 2), (31, .iload 6, 2), (33, .ifCond .eq 18, 3), (36, .iload 6, 2), (38, .iload 5, 2), (40, .if_icmp .eq 7, 3), (43, .iconst 1, 1), (44, .goto 43, 3), (47, .iconst 0, 1), (48, .goto 39, 3), (51, .iload 4, 2), (53, .aload_n 0, 1), (54, .getfield 119, 3), (57, .iload_n 1, 1), (58, .iaload, 1), (59, .if_icmp .lt 23, 3), (62, .iload 4, 2), (64, .aload_n 0, 1), (65, .iload_n 1, 1), (66, .invokevirtual 324, 3), (69, .if_icmp .lt 13, 3), (72, .aload_n 0, 1), (73, .iload_n 1, 1), (74, .invokevirtual 327, 3), (77, .bipush 12, 2), (79, .if_icmp .lt 7, 3), (82, .iconst 1, 1), (83, .goto 4, 3), (86, .iconst 0, 1), (87, .istore 7, 2), (89, .iload 7, 2), (91, .ifCond .eq 49, 3), (94, .aload_n 0, 1), (95, .iload_n 1, 1), (96, .invokevirtual 324, 3), (99, .aload_n 0, 1), (100, .getfield 119, 3), (103, .iload_n 1, 1), (104, .iaload, 1), (105, .if_icmp .le 11, 3), (108, .aload_n 0, 1), (109, .iload_n 1, 1), (110, .invokevirtual 324, 3), (113, .goto 9, 3), (116, .aload_n 0, 1), (117, .getfield 119, 3), (120, .iload_n 1, 1), (121, .iaload, 1), (122, .istore 8, 2), (124, .aload_n 0, 1), (125, .bipush 15, 2), (127, .iload_n 1, 1), (128, .iload_n 2, 1), (129, .iload 4, 2), (131, .iload 8, 2), (133, .iconst 0, 1), (134, .invokevirtual 238, 3), (137, .istore 9, 2), (139, .return_, 1), (140, .aload_n 0, 1), (141, .getfield 122, 3), (144, .sipush 300, 3), (147, .iload_n 1, 1), (148, .imul, 1), (149, .iload 4, 2), (151, .iadd, 1), (152, .iload 5, 2), (154, .iastore, 1), (155, .aload_n 0, 1), (156, .iconst 2, 1), (157, .iload_n 1, 1), (158, .iload_n 2, 1), (159, .iload_n 3, 1), (160, .iload 4, 2), (162, .aload_n 0, 1), (163, .getfield 119, 3), (166, .iload_n 1, 1), (167, .iaload, 1), (168, .invokevirtual 238, 3), (171, .ifCond .eq 58, 3), (174, .iconst 0, 1), (175, .istore 8, 2), (177, .iload 8, 2), (179, .iload 4, 2), (181, .if_icmp .ge 48, 3), (184, .aload_n 0, 1), (185, .getfield 122, 3), (188, .sipush 300, 3), (191, .iload_n 1, 1), (192, .imul, 1), (193, .iload 8, 2), (195, .iadd, 1), (196, .iaload, 1), (197, .ifCond .eq 26, 3), (200, .aload_n 0, 1), (201, .aload_n 0, 1), (202, .getfield 231, 3), (205, .iload 8, 2), (207, .aload_n 0, 1), (208, .getfield 122, 3), (211, .sipush 300, 3), (214, .iload_n 1, 1), (215, .imul, 1), (216, .iload 8, 2), (218, .iadd, 1), (219, .iaload, 1), (220, .invokevirtual 262, 3), (223, .iinc 8 1, 3), (226, .goto (-49), 3), (229, .return_, 1)], [(122, 12, 38), (119, 12, 37), (231, 12, 58)], [(318, my_X12_isOn, 2, 22, 1, 0, 0), (321, my_X12_sayGone, 2, 22, 2, 0, 0), (324, my_X12_greatestRound, 1, 22, 1, 0, 0), (327, my_X12_countEntries, 1, 22, 1, 0, 0), (238, my_X12_lay, 6, 22, 1, 0, 0), (262, my_X12_addEntry, 3, 22, 1, 0, 0)], [], [], [1573, 1572, 1593, 1894, 1896, 70, 114, 1898, 1900, 71, 114, 1902, 1904, 72, 114, 1906, 1908, 73, 114, 1764, 1766, 45, 114, 1801, 1803, 50, 114])
theorem ok_X12_match : mt_ok M_X12_match = true := by decide +kernel
theorem cw_X12_match : Cond.code (mt_y M_X12_match) (mt_b M_X12_match) (mt_l M_X12_match) (mt_r M_X12_match) ∈ lw_tbl := List.mem_of_getElem? (i := 1893) (by decide +kernel)
def M_X12_collectAt : MT := (my_X12_collectAt, prog_14_method_46_code, 6, none, [], [(0, .aload_n 0, 1), (1, .iload_n 1, 1), (2, .iload_n 3, 1), (3, .invokevirtual 318, 3), (6, .ifCond .ne 10, 3), (9, .aload_n 0, 1), (10, .iload_n 1, 1), (11, .iload_n 2, 1), (12, .invokevirtual 321, 3), (15, .return_, 1), (16, .iconst 0, 1), (17, .istore 5, 2), (19, .iload 5, 2), (21, .iload 4, 2), (23, .if_icmp .ge 23, 3), (26, .aload_n 0, 1), (27, .getfield 122, 3), (30, .sipush 300, 3), (33, .iload_n 1, 1), (34, .imul, 1), (35, .iload 5, 2), (37, .iadd, 1), (38, .iconst 0, 1), (39, .iastore, 1), (40, .iinc 5 1, 3), (43, .goto (-24), 3), (46, .aload_n 0, 1), (47, .getfield 119, 3), (50, .iload_n 1, 1), (51, .iload 4, 2), (53, .aload_n 0, 1), (54, .getfield 119, 3), (57, .iload_n 1, 1), (58, .iaload, 1), (59, .if_icmp .le 8, 3), (62, .iload 4, 2), (64, .goto 9, 3), (67, .aload_n 0, 1), (68, .getfield 119, 3), (71, .iload_n 1, 1), (72, .iaload, 1), (73, .iastore, 1), (74, .aload_n 0, 1), (75, .bipush 12, 2), (77, .iload_n 1, 1), (78, .iload_n 2, 1), (79, .iload_n 3, 1), (80, .iload 4, 2), (82, .iconst 0, 1), (83, .invokevirtual 238, 3), (86, .istore 5, 2), (88, .return_, 1)], [(122, 12, 38), (119, 12, 37)], [(318, my_X12_isOn, 2, 22, 1, 0, 0), (321, my_X12_sayGone, 2, 22, 2, 0, 0), (238, my_X12_lay, 6, 22, 1, 0, 0)], [], [], [1573, 1572, 1894, 1896, 70, 114, 1898, 1900, 71, 114, 1764, 1766, 45, 114])
theorem ok_X12_collectAt : mt_ok M_X12_collectAt = true := by decide +kernel
theorem cw_X12_collectAt : Cond.code (mt_y M_X12_collectAt) (mt_b M_X12_collectAt) (mt_l M_X12_collectAt) (mt_r M_X12_collectAt) ∈ lw_tbl := List.mem_of_getElem? (i := 1913) (by decide +kernel)
end
section
/-! ===== records of methods ===== -/
def M_X12_stop : MT := (my_X12_stop, prog_14_method_47_code, 6, none, [], [(0, .aload_n 0, 1), (1, .getfield 134, 3), (4, .iload_n 1, 1), (5, .iaload, 1), (6, .ifCond .eq 10, 3), (9, .aload_n 0, 1), (10, .iload_n 1, 1), (11, .iload_n 2, 1), (12, .invokevirtual 321, 3), (15, .return_, 1), (16, .aload_n 0, 1), (17, .getfield 110, 3), (20, .iload_n 1, 1), (21, .iaload, 1), (22, .iconst 2, 1), (23, .if_icmp .eq 13, 3), (26, .aload_n 0, 1), (27, .getfield 110, 3), (30, .iload_n 1, 1), (31, .iaload, 1), (32, .iconst 3, 1), (33, .if_icmp .ne 24, 3), (36, .aload_n 0, 1), (37, .getfield 113, 3), (40, .iload_n 1, 1), (41, .iaload, 1), (42, .iload_n 3, 1), (43, .if_icmp .ne 14, 3), (46, .iload 4, 2), (48, .aload_n 0, 1), (49, .getfield 125, 3), (52, .iload_n 1, 1), (53, .iaload, 1), (54, .if_icmp .ge 4, 3), (57, .return_, 1), (58, .aload_n 0, 1), (59, .getfield 125, 3), (62, .iload_n 1, 1), (63, .iload 4, 2), (65, .iastore, 1), (66, .aload_n 0, 1), (67, .getfield 110, 3), (70, .iload_n 1, 1), (71, .iconst 3, 1), (72, .iastore, 1), (73, .aload_n 0, 1), (74, .bipush 17, 2), (76, .iload_n 1, 1), (77, .iload_n 2, 1), (78, .iload_n 3, 1), (79, .iload 4, 2), (81, .aload_n 0, 1), (82, .getfield 119, 3), (85, .iload_n 1, 1), (86, .iaload, 1), (87, .invokevirtual 238, 3), (90, .ifCond .eq 95, 3), (93, .iconst 0, 1), (94, .istore 5, 2), (96, .iload 5, 2), (98, .sipush 300, 3), (101, .if_icmp .ge 48, 3), (104, .aload_n 0, 1), (105, .getfield 122, 3), (108, .sipush 300, 3), (111, .iload_n 1, 1), (112, .imul, 1), (113, .iload 5, 2), (115, .iadd, 1), (116, .iaload, 1), (117, .ifCond .eq 26, 3), (120, .aload_n 0, 1), (121, .aload_n 0, 1), (122, .getfield 231, 3), (125, .iload 5, 2), (127, .aload_n 0, 1), (128, .getfield 122, 3), (131, .sipush 300, 3), (134, .iload_n 1, 1), (135, .imul, 1), (136, .iload 5, 2), (138, .iadd, 1), (139, .iaload, 1), (140, .invokevirtual 262, 3), (143, .iinc 5 1, 3), (146, .goto (-50), 3), (149, .aload_n 0, 1), (150, .getfield 173, 3), (153, .iconst 2, 1), (154, .aload_n 0, 1), (155, .getfield 231, 3), (158, .imul, 1), (159, .aload_n 0, 1), (160, .getfield 128, 3), (163, .iload_n 1, 1), (164, .iaload, 1), (165, .iastore, 1), (166, .aload_n 0, 1), (167, .getfield 173, 3), (170, .iconst 2, 1), (171, .aload_n 0, 1), (172, .getfield 231, 3), (175, .imul, 1), (176, .iconst 1, 1), (177, .iadd, 1), (178, .aload_n 0, 1), (179, .getfield 131, 3), (182, .iload_n 1, 1), (183, .iaload, 1), (184, .iastore, 1), (185, .return_, 1)], [(134, 12, 42), (110, 12, 34), (113, 12, 35), (125, 12, 39), (119, 12, 37), (122, 12, 38), (231, 12, 58), (173, 12, 56), (128, 12, 40), (131, 12, 41)], [(321, my_X12_sayGone, 2, 22, 2, 0, 0), (238, my_X12_lay, 6, 22, 1, 0, 0), (262, my_X12_addEntry, 3, 22, 1, 0, 0)], [], [], [1577, 1569, 1570, 1574, 1572, 1573, 1593, 1591, 1575, 1576, 1898, 1900, 71, 114, 1764, 1766, 45, 114, 1801, 1803, 50, 114])
theorem ok_X12_stop : mt_ok M_X12_stop = true := by decide +kernel
theorem cw_X12_stop : Cond.code (mt_y M_X12_stop) (mt_b M_X12_stop) (mt_l M_X12_stop) (mt_r M_X12_stop) ∈ lw_tbl := List.mem_of_getElem? (i := 1917) (by decide +kernel)
def M_X12_seedAt : MT := (my_X12_seedAt, prog_14_method_48_code, 6, none, [], [(0, .aload_n 0, 1), (1, .getfield 167, 3), (4, .iconst 3, 1), (5, .iload_n 2, 1), (6, .imul, 1), (7, .iaload, 1), (8, .istore_n 3, 1), (9, .aload_n 0, 1), (10, .getfield 110, 3), (13, .iload_n 1, 1), (14, .iaload, 1), (15, .ifCond .eq 52, 3), (18, .aload_n 0, 1), (19, .getfield 110, 3), (22, .iload_n 1, 1), (23, .iaload, 1), (24, .iconst 1, 1), (25, .if_icmp .ne 13, 3), (28, .aload_n 0, 1), (29, .getfield 113, 3), (32, .iload_n 1, 1), (33, .iaload, 1), (34, .iload_n 3, 1), (35, .if_icmp .le 32, 3), (38, .aload_n 0, 1), (39, .getfield 110, 3), (42, .iload_n 1, 1), (43, .iaload, 1), (44, .iconst 3, 1), (45, .if_icmp .ne 26, 3), (48, .aload_n 0, 1), (49, .getfield 134, 3), (52, .iload_n 1, 1), (53, .iaload, 1), (54, .ifCond .eq 17, 3), (57, .aload_n 0, 1), (58, .getfield 113, 3), (61, .iload_n 1, 1), (62, .iaload, 1), (63, .iload_n 3, 1), (64, .if_icmp .ge 7, 3), (67, .iconst 1, 1), (68, .goto 4, 3), (71, .iconst 0, 1), (72, .istore 4, 2), (74, .iload 4, 2), (76, .ifCond .ne 4, 3), (79, .return_, 1), (80, .aload_n 0, 1), (81, .getfield 110, 3), (84, .iload_n 1, 1), (85, .iconst 1, 1), (86, .iastore, 1), (87, .aload_n 0, 1), (88, .getfield 113, 3), (91, .iload_n 1, 1), (92, .iload_n 3, 1), (93, .iastore, 1), (94, .aload_n 0, 1), (95, .getfield 116, 3), (98, .iload_n 1, 1), (99, .aload_n 0, 1), (100, .getfield 167, 3), (103, .iconst 3, 1), (104, .iload_n 2, 1), (105, .imul, 1), (106, .iconst 1, 1), (107, .iadd, 1), (108, .iaload, 1), (109, .iastore, 1), (110, .aload_n 0, 1), (111, .getfield 119, 3), (114, .iload_n 1, 1), (115, .aload_n 0, 1), (116, .getfield 167, 3), (119, .iconst 3, 1), (120, .iload_n 2, 1), (121, .imul, 1), (122, .iconst 2, 1), (123, .iadd, 1), (124, .iaload, 1), (125, .iastore, 1), (126, .iconst 0, 1), (127, .istore 5, 2), (129, .iload 5, 2), (131, .sipush 300, 3), (134, .if_icmp .ge 23, 3), (137, .aload_n 0, 1), (138, .getfield 122, 3), (141, .sipush 300, 3), (144, .iload_n 1, 1), (145, .imul, 1), (146, .iload 5, 2), (148, .iadd, 1), (149, .iconst 0, 1), (150, .iastore, 1), (151, .iinc 5 1, 3), (154, .goto (-25), 3), (157, .iconst 0, 1), (158, .istore 5, 2), (160, .iload 5, 2), (162, .aload_n 0, 1), (163, .getfield 170, 3), (166, .iload_n 2, 1), (167, .iaload, 1), (168, .if_icmp .ge 34, 3), (171, .aload_n 0, 1), (172, .getfield 122, 3), (175, .sipush 300, 3), (178, .iload_n 1, 1), (179, .imul, 1), (180, .aload_n 0, 1), (181, .iload_n 2, 1), (182, .iload 5, 2), (184, .invokevirtual 272, 3), (187, .iadd, 1), (188, .aload_n 0, 1), (189, .iload_n 2, 1), (190, .iload 5, 2), (192, .invokevirtual 275, 3), (195, .iastore, 1), (196, .iinc 5 1, 3), (199, .goto (-39), 3), (202, .aload_n 0, 1), (203, .getfield 125, 3), (206, .iload_n 1, 1), (207, .iconst (-1), 1), (208, .iastore, 1), (209, .aload_n 0, 1), (210, .getfield 128, 3), (213, .iload_n 1, 1), (214, .iconst (-1), 1), (215, .iastore, 1), (216, .aload_n 0, 1), (217, .getfield 131, 3), (220, .iload_n 1, 1), (221, .iconst 0, 1), (222, .iastore, 1), (223, .aload_n 0, 1), (224, .getfield 134, 3), (227, .iload_n 1, 1), (228, .iconst 0, 1), (229, .iastore, 1), (230, .aload_n 0, 1), (231, .bipush 19, 2), (233, .iload_n 1, 1), (234, .aload_n 0, 1), (235, .getfield 161, 3), (238, .iload_n 2, 1), (239, .iaload, 1), (240, .iload_n 3, 1), (241, .iconst 0, 1), (242, .iconst 0, 1), (243, .invokevirtual 238, 3), (246, .istore 5, 2), (248, .return_, 1)], [(167, 12, 54), (110, 12, 34), (113, 12, 35), (134, 12, 42), (116, 12, 36), (119, 12, 37), (122, 12, 38), (170, 12, 55), (125, 12, 39), (128, 12, 40), (131, 12, 41), (161, 12, 52)], [(272, my_X12_entryRound, 2, 22, 1, 0, 0), (275, my_X12_entryGroup, 2, 22, 1, 0, 0), (238, my_X12_lay, 6, 22, 1, 0, 0)], [], [], [1589, 1569, 1570, 1577, 1571, 1572, 1573, 1590, 1574, 1575, 1576, 1587, 1831, 1833, 55, 114, 1835, 1837, 56, 114, 1764, 1766, 45, 114])
theorem ok_X12_seedAt : mt_ok M_X12_seedAt = true := by decide +kernel
theorem cw_X12_seedAt : Cond.code (mt_y M_X12_seedAt) (mt_b M_X12_seedAt) (mt_l M_X12_seedAt) (mt_r M_X12_seedAt) ∈ lw_tbl := List.mem_of_getElem? (i := 1921) (by decide +kernel)
def M_X12_pickAt : MT := (my_X12_pickAt, prog_14_method_49_code, 7, none, [], [(0, .aload_n 0, 1), (1, .getfield 110, 3), (4, .iload_n 1, 1), (5, .iaload, 1), (6, .iconst 3, 1), (7, .if_icmp .ne 33, 3), (10, .aload_n 0, 1), (11, .getfield 113, 3), (14, .iload_n 1, 1), (15, .iaload, 1), (16, .iload_n 3, 1), (17, .if_icmp .ne 23, 3), (20, .aload_n 0, 1), (21, .getfield 134, 3), (24, .iload_n 1, 1), (25, .iaload, 1), (26, .ifCond .ne 14, 3), (29, .iload 4, 2), (31, .aload_n 0, 1), (32, .getfield 125, 3), (35, .iload_n 1, 1), (36, .iaload, 1), (37, .if_icmp .ge 4, 3), (40, .return_, 1), (41, .aload_n 0, 1), (42, .getfield 128, 3), (45, .iload_n 1, 1), (46, .iload 4, 2), (48, .iastore, 1), (49, .aload_n 0, 1), (50, .getfield 131, 3), (53, .iload_n 1, 1), (54, .iload 5, 2), (56, .iastore, 1), (57, .aload_n 0, 1), (58, .getfield 125, 3), (61, .iload_n 1, 1), (62, .iload 4, 2), (64, .iastore, 1), (65, .aload_n 0, 1), (66, .bipush 21, 2), (68, .iload_n 1, 1), (69, .iload_n 2, 1), (70, .iload_n 3, 1), (71, .iload 4, 2), (73, .iconst 0, 1), (74, .invokevirtual 238, 3), (77, .istore 6, 2), (79, .return_, 1)], [(110, 12, 34), (113, 12, 35), (134, 12, 42), (125, 12, 39), (128, 12, 40), (131, 12, 41)], [(238, my_X12_lay, 6, 22, 1, 0, 0)], [], [], [1569, 1570, 1577, 1574, 1575, 1576, 1764, 1766, 45, 114])
theorem ok_X12_pickAt : mt_ok M_X12_pickAt = true := by decide +kernel
theorem cw_X12_pickAt : Cond.code (mt_y M_X12_pickAt) (mt_b M_X12_pickAt) (mt_l M_X12_pickAt) (mt_r M_X12_pickAt) ∈ lw_tbl := List.mem_of_getElem? (i := 1925) (by decide +kernel)
def M_X12_moved : MT := (my_X12_moved, prog_14_method_50_code, 4, none, [], [(0, .aload_n 0, 1), (1, .getfield 110, 3), (4, .iload_n 1, 1), (5, .iaload, 1), (6, .iconst 1, 1), (7, .if_icmp .ne 35, 3), (10, .aload_n 0, 1), (11, .getfield 113, 3), (14, .iload_n 1, 1), (15, .iaload, 1), (16, .iload_n 2, 1), (17, .iconst 1, 1), (18, .iadd, 1), (19, .if_icmp .ne 23, 3), (22, .aload_n 0, 1), (23, .getfield 116, 3), (26, .iload_n 1, 1), (27, .iaload, 1), (28, .iload_n 3, 1), (29, .if_icmp .ne 13, 3), (32, .aload_n 0, 1), (33, .getfield 110, 3), (36, .iload_n 1, 1), (37, .iconst 2, 1), (38, .iastore, 1), (39, .goto 30, 3), (42, .aload_n 0, 1), (43, .getfield 110, 3), (46, .iload_n 1, 1), (47, .iaload, 1), (48, .iconst 3, 1), (49, .if_icmp .ne 20, 3), (52, .aload_n 0, 1), (53, .getfield 113, 3), (56, .iload_n 1, 1), (57, .iaload, 1), (58, .iload_n 2, 1), (59, .if_icmp .ne 10, 3), (62, .aload_n 0, 1), (63, .getfield 134, 3), (66, .iload_n 1, 1), (67, .iload_n 3, 1), (68, .iastore, 1), (69, .return_, 1)], [(110, 12, 34), (113, 12, 35), (116, 12, 36), (134, 12, 42)], [], [], [], [1569, 1570, 1571, 1577])
theorem ok_X12_moved : mt_ok M_X12_moved = true := by decide +kernel
theorem cw_X12_moved : Cond.code (mt_y M_X12_moved) (mt_b M_X12_moved) (mt_l M_X12_moved) (mt_r M_X12_moved) ∈ lw_tbl := List.mem_of_getElem? (i := 1929) (by decide +kernel)
end
section
/-! ===== records of methods ===== -/
def M_X12_toKeeper : MT := (my_X12_toKeeper, prog_14_method_51_code, 7, none, [], [(0, .aload_n 0, 1), (1, .getfield 161, 3), (4, .iload_n 2, 1), (5, .iaload, 1), (6, .istore_n 3, 1), (7, .aload_n 0, 1), (8, .getfield 167, 3), (11, .iconst 3, 1), (12, .iload_n 2, 1), (13, .imul, 1), (14, .iaload, 1), (15, .istore 4, 2), (17, .aload_n 0, 1), (18, .getfield 167, 3), (21, .iconst 3, 1), (22, .iload_n 2, 1), (23, .imul, 1), (24, .iconst 1, 1), (25, .iadd, 1), (26, .iaload, 1), (27, .istore 5, 2), (29, .aload_n 0, 1), (30, .getfield 167, 3), (33, .iconst 3, 1), (34, .iload_n 2, 1), (35, .imul, 1), (36, .iconst 2, 1), (37, .iadd, 1), (38, .iaload, 1), (39, .istore 6, 2), (41, .aload_n 0, 1), (42, .getfield 158, 3), (45, .iload_n 2, 1), (46, .iaload, 1), (47, .lookupswitch 114 #[(1, 49), (11, 64), (16, 77), (18, 90), (20, 99)], 49), (96, .aload_n 0, 1), (97, .iload_n 1, 1), (98, .iload_n 3, 1), (99, .iload 4, 2), (101, .iload 5, 2), (103, .iload 6, 2), (105, .invokevirtual 330, 3), (108, .goto 62, 3), (111, .aload_n 0, 1), (112, .iload_n 1, 1), (113, .iload_n 3, 1), (114, .iload 4, 2), (116, .iload 5, 2), (118, .invokevirtual 334, 3), (121, .goto 49, 3), (124, .aload_n 0, 1), (125, .iload_n 1, 1), (126, .iload_n 3, 1), (127, .iload 4, 2), (129, .iload 5, 2), (131, .invokevirtual 338, 3), (134, .goto 36, 3), (137, .aload_n 0, 1), (138, .iload_n 1, 1), (139, .iload_n 2, 1), (140, .invokevirtual 341, 3), (143, .goto 27, 3), (146, .aload_n 0, 1), (147, .iload_n 1, 1), (148, .iload_n 3, 1), (149, .iload 4, 2), (151, .iload 5, 2), (153, .iload 6, 2), (155, .invokevirtual 344, 3), (158, .goto 12, 3), (161, .aload_n 0, 1), (162, .iload_n 1, 1), (163, .iload 4, 2), (165, .iload 5, 2), (167, .invokevirtual 347, 3), (170, .return_, 1)], [(161, 12, 52), (167, 12, 54), (158, 12, 51)], [(330, my_X12_match, 5, 22, 3, 0, 0), (334, my_X12_collectAt, 4, 22, 3, 0, 0), (338, my_X12_stop, 4, 22, 3, 0, 0), (341, my_X12_seedAt, 2, 22, 2, 0, 0), (344, my_X12_pickAt, 5, 22, 2, 0, 0), (347, my_X12_moved, 3, 22, 1, 0, 0)], [], [], [1587, 1589, 1586, 1890, 1892, 69, 114, 1910, 1912, 74, 114, 1914, 1916, 75, 114, 1918, 1920, 76, 114, 1922, 1924, 77, 114, 1926, 1928, 78, 114])
theorem ok_X12_toKeeper : mt_ok M_X12_toKeeper = true := by decide +kernel
theorem cw_X12_toKeeper : Cond.code (mt_y M_X12_toKeeper) (mt_b M_X12_toKeeper) (mt_l M_X12_toKeeper) (mt_r M_X12_toKeeper) ∈ lw_tbl := List.mem_of_getElem? (i := 1889) (by decide +kernel)
def M_X12_ask : MT := (my_X12_ask, prog_14_method_52_code, 6, none, [], [(0, .aload_n 0, 1), (1, .iconst 4, 1), (2, .iload_n 1, 1), (3, .iload_n 2, 1), (4, .iload_n 3, 1), (5, .aload_n 0, 1), (6, .getfield 140, 3), (9, .iload_n 1, 1), (10, .iaload, 1), (11, .iconst 0, 1), (12, .invokevirtual 238, 3), (15, .ifCond .ne 4, 3), (18, .return_, 1), (19, .iconst 0, 1), (20, .istore 4, 2), (22, .iload 4, 2), (24, .bipush 16, 2), (26, .if_icmp .ge 111, 3), (29, .aload_n 0, 1), (30, .getfield 143, 3), (33, .bipush 16, 2), (35, .iload_n 1, 1), (36, .imul, 1), (37, .iload 4, 2), (39, .iadd, 1), (40, .iaload, 1), (41, .iconst (-1), 1), (42, .if_icmp .eq 89, 3), (45, .sipush 600, 3), (48, .aload_n 0, 1), (49, .getfield 231, 3), (52, .imul, 1), (53, .iconst 3, 1), (54, .aload_n 0, 1), (55, .getfield 170, 3), (58, .aload_n 0, 1), (59, .getfield 231, 3), (62, .iaload, 1), (63, .imul, 1), (64, .iadd, 1), (65, .istore 5, 2), (67, .aload_n 0, 1), (68, .getfield 177, 3), (71, .iload 5, 2), (73, .iload 4, 2), (75, .iastore, 1), (76, .aload_n 0, 1), (77, .getfield 177, 3), (80, .iload 5, 2), (82, .iconst 1, 1), (83, .iadd, 1), (84, .aload_n 0, 1), (85, .getfield 143, 3), (88, .bipush 16, 2), (90, .iload_n 1, 1), (91, .imul, 1), (92, .iload 4, 2), (94, .iadd, 1), (95, .iaload, 1), (96, .iastore, 1), (97, .aload_n 0, 1), (98, .getfield 177, 3), (101, .iload 5, 2), (103, .iconst 2, 1), (104, .iadd, 1), (105, .aload_n 0, 1), (106, .getfield 146, 3), (109, .bipush 16, 2), (111, .iload_n 1, 1), (112, .imul, 1), (113, .iload 4, 2), (115, .iadd, 1), (116, .iaload, 1), (117, .iastore, 1), (118, .aload_n 0, 1), (119, .getfield 170, 3), (122, .aload_n 0, 1), (123, .getfield 231, 3), (126, .dup2, 1), (127, .iaload, 1), (128, .iconst 1, 1), (129, .iadd, 1), (130, .iastore, 1), (131, .iinc 4 1, 3), (134, .goto (-112), 3), (137, .return_, 1)], [(140, 12, 44), (143, 12, 45), (231, 12, 58), (170, 12, 55), (177, 12, 57), (146, 12, 46)], [(238, my_X12_lay, 6, 22, 1, 0, 0)], [], [], [1579, 1580, 1593, 1590, 1592, 1581, 1764, 1766, 45, 114])
theorem ok_X12_ask : mt_ok M_X12_ask = true := by decide +kernel
theorem cw_X12_ask : Cond.code (mt_y M_X12_ask) (mt_b M_X12_ask) (mt_l M_X12_ask) (mt_r M_X12_ask) ∈ lw_tbl := List.mem_of_getElem? (i := 1937) (by decide +kernel)
def M_X12_reckon : MT := (my_X12_reckon, prog_14_method_53_code, 7, none, [], [(0, .bipush 16, 2), (2, .iload_n 2, 1), (3, .imul, 1), (4, .iload_n 3, 1), (5, .iadd, 1), (6, .istore 5, 2), (8, .aload_n 0, 1), (9, .getfield 183, 3), (12, .iload 5, 2), (14, .iaload, 1), (15, .aload_n 0, 1), (16, .getfield 180, 3), (19, .iload_n 2, 1), (20, .iaload, 1), (21, .invokestatic 281, 3), (24, .istore 6, 2), (26, .aload_n 0, 1), (27, .getfield 183, 3), (30, .iload 5, 2), (32, .dup2, 1), (33, .iaload, 1), (34, .iconst 1, 1), (35, .iload_n 1, 1), (36, .ishl, 1), (37, .ior, 1), (38, .iastore, 1), (39, .iload 6, 2), (41, .ifCond .ne 22, 3), (44, .aload_n 0, 1), (45, .getfield 183, 3), (48, .iload 5, 2), (50, .iaload, 1), (51, .aload_n 0, 1), (52, .getfield 180, 3), (55, .iload_n 2, 1), (56, .iaload, 1), (57, .invokestatic 281, 3), (60, .ifCond .ne 4, 3), (63, .return_, 1), (64, .aload_n 0, 1), (65, .getfield 186, 3), (68, .iload_n 3, 1), (69, .iaload, 1), (70, .iconst (-1), 1), (71, .if_icmp .ne 14, 3), (74, .aload_n 0, 1), (75, .getfield 186, 3), (78, .iload_n 3, 1), (79, .iload 4, 2), (81, .iastore, 1), (82, .goto 24, 3), (85, .aload_n 0, 1), (86, .getfield 186, 3), (89, .iload_n 3, 1), (90, .iaload, 1), (91, .iload 4, 2), (93, .if_icmp .eq 13, 3), (96, .aload_n 0, 1), (97, .dup, 1), (98, .getfield 219, 3), (101, .iconst 1, 1), (102, .iadd, 1), (103, .putfield 219, 3), (106, .return_, 1)], [(183, 12, 60), (180, 12, 59), (186, 12, 61), (219, 12, 65)], [(281, my_X12_isMajority, 2, 1, 2, 0, 0)], [], [], [1595, 1594, 1596, 1600, 1847, 1848, 114])
theorem ok_X12_reckon : mt_ok M_X12_reckon = true := by decide +kernel
theorem cw_X12_reckon : Cond.code (mt_y M_X12_reckon) (mt_b M_X12_reckon) (mt_l M_X12_reckon) (mt_r M_X12_reckon) ∈ lw_tbl := List.mem_of_getElem? (i := 1941) (by decide +kernel)
end
section
/-! ===== records of methods ===== -/
def M_X12_toVoter : MT := (my_X12_toVoter, prog_14_method_54_code, 7, none, [], [(0, .aload_n 0, 1), (1, .getfield 161, 3), (4, .iload_n 2, 1), (5, .iaload, 1), (6, .istore_n 3, 1), (7, .aload_n 0, 1), (8, .getfield 167, 3), (11, .iconst 3, 1), (12, .iload_n 2, 1), (13, .imul, 1), (14, .iaload, 1), (15, .istore 4, 2), (17, .aload_n 0, 1), (18, .getfield 158, 3), (21, .iload_n 2, 1), (22, .iaload, 1), (23, .bipush 13, 2), (25, .if_icmp .ne 79, 3), (28, .iconst 0, 1), (29, .istore 5, 2), (31, .iload 5, 2), (33, .bipush 16, 2), (35, .if_icmp .ge 54, 3), (38, .aload_n 0, 1), (39, .getfield 143, 3), (42, .bipush 16, 2), (44, .iload_n 1, 1), (45, .imul, 1), (46, .iload 5, 2), (48, .iadd, 1), (49, .aload_n 0, 1), (50, .getfield 143, 3), (53, .bipush 16, 2), (55, .iload_n 1, 1), (56, .imul, 1), (57, .iload 5, 2), (59, .iadd, 1), (60, .iaload, 1), (61, .iload 4, 2), (63, .if_icmp .ge 7, 3), (66, .iconst (-1), 1), (67, .goto 15, 3), (70, .aload_n 0, 1), (71, .getfield 143, 3), (74, .bipush 16, 2), (76, .iload_n 1, 1), (77, .imul, 1), (78, .iload 5, 2), (80, .iadd, 1), (81, .iaload, 1), (82, .iastore, 1), (83, .iinc 5 1, 3), (86, .goto (-55), 3), (89, .aload_n 0, 1), (90, .bipush 14, 2), (92, .iload_n 1, 1), (93, .iload_n 3, 1), (94, .iload 4, 2), (96, .iconst 0, 1), (97, .iconst 0, 1), (98, .invokevirtual 238, 3), (101, .istore 5, 2), (103, .return_, 1), (104, .iload 4, 2), (106, .aload_n 0, 1), (107, .getfield 137, 3), (110, .iload_n 1, 1), (111, .iaload, 1), (112, .if_icmp .ge 23, 3), (115, .aload_n 0, 1), (116, .bipush 24, 2), (118, .iload_n 1, 1), (119, .iload_n 3, 1), (120, .iload 4, 2), (122, .aload_n 0, 1), (123, .getfield 137, 3), (126, .iload_n 1, 1), (127, .iaload, 1), (128, .iconst 0, 1), (129, .invokevirtual 238, 3), (132, .istore 5, 2), (134, .return_, 1), (135, .aload_n 0, 1), (136, .getfield 137, 3), (139, .iload_n 1, 1), (140, .iload 4, 2), (142, .iastore, 1), (143, .aload_n 0, 1), (144, .getfield 158, 3), (147, .iload_n 2, 1), (148, .iaload, 1), (149, .iconst 3, 1), (150, .if_icmp .ne 14, 3), (153, .aload_n 0, 1), (154, .iload_n 1, 1), (155, .iload_n 3, 1), (156, .iload 4, 2), (158, .invokevirtual 350, 3), (161, .goto 153, 3), (164, .aload_n 0, 1), (165, .getfield 158, 3), (168, .iload_n 2, 1), (169, .iaload, 1), (170, .iconst 5, 1), (171, .if_icmp .ne 88, 3), (174, .aload_n 0, 1), (175, .getfield 167, 3), (178, .iconst 3, 1), (179, .iload_n 2, 1), (180, .imul, 1), (181, .iconst 1, 1), (182, .iadd, 1), (183, .iaload, 1), (184, .istore 5, 2), (186, .aload_n 0, 1), (187, .getfield 143, 3), (190, .bipush 16, 2), (192, .iload_n 1, 1), (193, .imul, 1), (194, .iload 5, 2), (196, .iadd, 1), (197, .iload 4, 2), (199, .iastore, 1), (200, .aload_n 0, 1), (201, .getfield 146, 3), (204, .bipush 16, 2), (206, .iload_n 1, 1), (207, .imul, 1), (208, .iload 5, 2), (210, .iadd, 1), (211, .aload_n 0, 1), (212, .getfield 167, 3), (215, .iconst 3, 1), (216, .iload_n 2, 1), (217, .imul, 1), (218, .iconst 2, 1), (219, .iadd, 1), (220, .iaload, 1), (221, .iastore, 1), (222, .aload_n 0, 1), (223, .iload_n 1, 1), (224, .iload 4, 2), (226, .iload 5, 2), (228, .aload_n 0, 1), (229, .getfield 167, 3), (232, .iconst 3, 1), (233, .iload_n 2, 1), (234, .imul, 1), (235, .iconst 2, 1), (236, .iadd, 1), (237, .iaload, 1), (238, .invokevirtual 353, 3), (241, .aload_n 0, 1), (242, .bipush 6, 2), (244, .iload_n 1, 1), (245, .iload_n 3, 1), (246, .iload 4, 2), (248, .iload 5, 2), (250, .iconst 0, 1), (251, .invokevirtual 238, 3), (254, .istore 6, 2), (256, .goto 58, 3), (259, .aload_n 0, 1), (260, .getfield 167, 3), (263, .iconst 3, 1), (264, .iload_n 2, 1), (265, .imul, 1), (266, .iconst 1, 1), (267, .iadd, 1), (268, .iaload, 1), (269, .istore 5, 2), (271, .aload_n 0, 1), (272, .getfield 140, 3), (275, .iload_n 1, 1), (276, .iload 5, 2), (278, .aload_n 0, 1), (279, .getfield 140, 3), (282, .iload_n 1, 1), (283, .iaload, 1), (284, .if_icmp .le 8, 3), (287, .iload 5, 2), (289, .goto 9, 3), (292, .aload_n 0, 1), (293, .getfield 140, 3), (296, .iload_n 1, 1), (297, .iaload, 1), (298, .iastore, 1), (299, .aload_n 0, 1), (300, .bipush 10, 2), (302, .iload_n 1, 1), (303, .iload_n 3, 1), (304, .iload 4, 2), (306, .iload 5, 2), (308, .iconst 0, 1), (309, .invokevirtual 238, 3), (312, .istore 6, 2), (314, .return_, 1)], [(161, 12, 52), (167, 12, 54), (158, 12, 51), (143, 12, 45), (137, 12, 43), (146, 12, 46), (140, 12, 44)], [(238, my_X12_lay, 6, 22, 1, 0, 0), (350, my_X12_ask, 3, 22, 2, 0, 0), (353, my_X12_reckon, 4, 22, 3, 0, 0)], [], [], [1587, 1589, 1586, 1580, 1578, 1581, 1579, 1764, 1766, 45, 114, 1934, 1936, 80, 114, 1938, 1940, 81, 114])
theorem ok_X12_toVoter : mt_ok M_X12_toVoter = true := by decide +kernel
theorem cw_X12_toVoter : Cond.code (mt_y M_X12_toVoter) (mt_b M_X12_toVoter) (mt_l M_X12_toVoter) (mt_r M_X12_toVoter) ∈ lw_tbl := List.mem_of_getElem? (i := 1933) (by decide +kernel)
def M_X12_toCopy : MT := (my_X12_toCopy, prog_14_method_55_code, 6, none, [], [(0, .aload_n 0, 1), (1, .getfield 167, 3), (4, .iconst 3, 1), (5, .iload_n 2, 1), (6, .imul, 1), (7, .iaload, 1), (8, .istore_n 3, 1), (9, .aload_n 0, 1), (10, .getfield 167, 3), (13, .iconst 3, 1), (14, .iload_n 2, 1), (15, .imul, 1), (16, .iconst 1, 1), (17, .iadd, 1), (18, .iaload, 1), (19, .istore 4, 2), (21, .aload_n 0, 1), (22, .getfield 149, 3), (25, .bipush 16, 2), (27, .iload_n 1, 1), (28, .imul, 1), (29, .iload_n 3, 1), (30, .iadd, 1), (31, .iaload, 1), (32, .iconst (-1), 1), (33, .if_icmp .ne 16, 3), (36, .aload_n 0, 1), (37, .getfield 149, 3), (40, .bipush 16, 2), (42, .iload_n 1, 1), (43, .imul, 1), (44, .iload_n 3, 1), (45, .iadd, 1), (46, .iload 4, 2), (48, .iastore, 1), (49, .aload_n 0, 1), (50, .dup, 1), (51, .getfield 216, 3), (54, .aload_n 0, 1), (55, .getfield 149, 3), (58, .bipush 16, 2), (60, .iload_n 1, 1), (61, .imul, 1), (62, .iload_n 3, 1), (63, .iadd, 1), (64, .iaload, 1), (65, .iload 4, 2), (67, .if_icmp .ne 7, 3), (70, .iconst 0, 1), (71, .goto 4, 3), (74, .iconst 1, 1), (75, .iadd, 1), (76, .putfield 216, 3), (79, .aload_n 0, 1), (80, .bipush 8, 2), (82, .iload_n 1, 1), (83, .aload_n 0, 1), (84, .getfield 161, 3), (87, .iload_n 2, 1), (88, .iaload, 1), (89, .iload_n 3, 1), (90, .aload_n 0, 1), (91, .getfield 149, 3), (94, .bipush 16, 2), (96, .iload_n 1, 1), (97, .imul, 1), (98, .iload_n 3, 1), (99, .iadd, 1), (100, .iaload, 1), (101, .iconst 0, 1), (102, .invokevirtual 238, 3), (105, .istore 5, 2), (107, .return_, 1)], [(167, 12, 54), (149, 12, 47), (216, 12, 64), (161, 12, 52)], [(238, my_X12_lay, 6, 22, 1, 0, 0)], [], [], [1589, 1582, 1599, 1587, 1764, 1766, 45, 114])
theorem ok_X12_toCopy : mt_ok M_X12_toCopy = true := by decide +kernel
theorem cw_X12_toCopy : Cond.code (mt_y M_X12_toCopy) (mt_b M_X12_toCopy) (mt_l M_X12_toCopy) (mt_r M_X12_toCopy) ∈ lw_tbl := List.mem_of_getElem? (i := 1945) (by decide +kernel)
def M_X12_sortOf : MT := (my_X12_sortOf, prog_14_method_56_code, 1, (some .int), [], [(0, .iload_n 0, 1), (1, .tableswitch 109 1 22 #[103, 109, 105, 109, 105, 109, 107, 109, 105, 109, 103, 109, 105, 109, 109, 103, 109, 103, 109, 103, 109, 103], 103), (104, .iconst 1, 1), (105, .ireturn, 1), (106, .iconst 2, 1), (107, .ireturn, 1), (108, .iconst 3, 1), (109, .ireturn, 1), (110, .iconst 0, 1), (111, .ireturn, 1)], [], [], [], [], [])
theorem ok_X12_sortOf : mt_ok M_X12_sortOf = true := by decide +kernel
theorem cw_X12_sortOf : Cond.code (mt_y M_X12_sortOf) (mt_b M_X12_sortOf) (mt_l M_X12_sortOf) (mt_r M_X12_sortOf) ∈ lw_tbl := List.mem_of_getElem? (i := 1819) (by decide +kernel)
def M_X12_first : MT := (my_X12_first, prog_14_method_57_code, 1, (some .int), [], [(0, .iload_n 0, 1), (1, .ifCond .ne 7, 3), (4, .iconst 0, 1), (5, .goto 24, 3), (8, .iload_n 0, 1), (9, .iconst 1, 1), (10, .if_icmp .ne 7, 3), (13, .iconst 3, 1), (14, .goto 15, 3), (17, .iload_n 0, 1), (18, .iconst 2, 1), (19, .if_icmp .ne 8, 3), (22, .bipush 12, 2), (24, .goto 5, 3), (27, .bipush 24, 2), (29, .ireturn, 1)], [], [], [], [], [])
theorem ok_X12_first : mt_ok M_X12_first = true := by decide +kernel
theorem cw_X12_first : Cond.code (mt_y M_X12_first) (mt_b M_X12_first) (mt_l M_X12_first) (mt_r M_X12_first) ∈ lw_tbl := List.mem_of_getElem? (i := 1822) (by decide +kernel)
def M_X12_nodes : MT := (my_X12_nodes, prog_14_method_58_code, 1, (some .int), [], [(0, .iload_n 0, 1), (1, .iconst 1, 1), (2, .if_icmp .ne 8, 3), (5, .bipush 9, 2), (7, .goto 14, 3), (10, .iload_n 0, 1), (11, .iconst 2, 1), (12, .if_icmp .ne 8, 3), (15, .bipush 12, 2), (17, .goto 4, 3), (20, .iconst 3, 1), (21, .ireturn, 1)], [], [], [], [], [])
theorem ok_X12_nodes : mt_ok M_X12_nodes = true := by decide +kernel
theorem cw_X12_nodes : Cond.code (mt_y M_X12_nodes) (mt_b M_X12_nodes) (mt_l M_X12_nodes) (mt_r M_X12_nodes) ∈ lw_tbl := List.mem_of_getElem? (i := 1964) (by decide +kernel)
def M_X12_arrive : MT := (my_X12_arrive, prog_14_method_59_code, 6, (some .int), [], [(0, .aload_n 0, 1), (1, .iload_n 1, 1), (2, .invokevirtual 356, 3), (5, .istore_n 2, 1), (6, .aload_n 0, 1), (7, .getfield 158, 3), (10, .iload_n 2, 1), (11, .iaload, 1), (12, .istore_n 3, 1), (13, .iload_n 3, 1), (14, .invokestatic 359, 3), (17, .istore 4, 2), (19, .aload_n 0, 1), (20, .getfield 164, 3), (23, .iload_n 2, 1), (24, .iaload, 1), (25, .istore 5, 2), (27, .aload_n 0, 1), (28, .getfield 7, 3), (31, .iload 4, 2), (33, .invokestatic 362, 3), (36, .iload 5, 2), (38, .iadd, 1), (39, .baload, 1), (40, .ifCond .eq 15, 3), (43, .aload_n 0, 1), (44, .dup, 1), (45, .getfield 210, 3), (48, .iconst 1, 1), (49, .iadd, 1), (50, .putfield 210, 3), (53, .iload_n 3, 1), (54, .ireturn, 1), (55, .aload_n 0, 1), (56, .dup, 1), (57, .getfield 213, 3), (60, .iconst 1, 1), (61, .iadd, 1), (62, .putfield 213, 3), (65, .aload_n 0, 1), (66, .getfield 155, 3), (69, .iload_n 2, 1), (70, .iconst 1, 1), (71, .bastore, 1), (72, .iload 4, 2), (74, .ifCond .ne 13, 3), (77, .aload_n 0, 1), (78, .iload 5, 2), (80, .iload_n 2, 1), (81, .invokevirtual 365, 3), (84, .goto 42, 3), (87, .iload 4, 2), (89, .iconst 1, 1), (90, .if_icmp .ne 13, 3), (93, .aload_n 0, 1), (94, .iload 5, 2), (96, .iload_n 2, 1), (97, .invokevirtual 368, 3), (100, .goto 26, 3), (103, .iload 4, 2), (105, .iconst 2, 1), (106, .if_icmp .ne 13, 3), (109, .aload_n 0, 1), (110, .iload 5, 2), (112, .iload_n 2, 1), (113, .invokevirtual 371, 3), (116, .goto 10, 3), (119, .aload_n 0, 1), (120, .iload 5, 2), (122, .iload_n 2, 1), (123, .invokevirtual 374, 3), (126, .aload_n 0, 1), (127, .getfield 155, 3), (130, .iload_n 2, 1), (131, .iconst 0, 1), (132, .bastore, 1), (133, .iload_n 3, 1), (134, .ireturn, 1)], [(158, 12, 51), (164, 12, 53), (7, 12, 1), (210, 12, 62), (213, 12, 63), (155, 12, 50)], [(356, my_X12_take, 1, 22, 1, 0, 0), (359, my_X12_sortOf, 1, 1, 1, 0, 0), (362, my_X12_first, 1, 1, 1, 0, 0), (365, my_X12_toLeader, 2, 22, 6, 0, 0), (368, my_X12_toKeeper, 2, 22, 4, 0, 0), (371, my_X12_toVoter, 2, 22, 4, 0, 0), (374, my_X12_toCopy, 2, 22, 2, 0, 0)], [], [], [1586, 1588, 1536, 1597, 1598, 1585, 1813, 1815, 52, 114, 1817, 1818, 114, 1820, 1821, 114, 1823, 1825, 53, 114, 1886, 1888, 68, 114, 1930, 1932, 79, 114, 1942, 1944, 82, 114])
theorem ok_X12_arrive : mt_ok M_X12_arrive = true := by decide +kernel
theorem cw_X12_arrive : Cond.code (mt_y M_X12_arrive) (mt_b M_X12_arrive) (mt_l M_X12_arrive) (mt_r M_X12_arrive) ∈ lw_tbl := List.mem_of_getElem? (i := 1812) (by decide +kernel)
def M_X12_deliver : MT := (my_X12_deliver, prog_14_method_60_code, 2, (some .int), [], [(0, .aload_n 0, 1), (1, .iload_n 1, 1), (2, .iconst 0, 1), (3, .aload_n 0, 1), (4, .getfield 207, 3), (7, .iconst 1, 1), (8, .isub, 1), (9, .invokestatic 242, 3), (12, .iconst 1, 1), (13, .iconst 1, 1), (14, .invokevirtual 246, 3), (17, .ifCond .eq 5, 3), (20, .iconst 0, 1), (21, .ireturn, 1), (22, .aload_n 0, 1), (23, .iload_n 1, 1), (24, .invokevirtual 377, 3), (27, .ireturn, 1)], [(207, 12, 48)], [(242, my_X12_in, 3, 1, 1, 0, 0), (246, my_X12_refuses, 3, 22, 1, 0, 0), (377, my_X12_arrive, 1, 22, 7, 0, 0)], [], [], [1583, 1747, 1748, 114, 1753, 1755, 43, 114, 1809, 1811, 51, 114])
theorem ok_X12_deliver : mt_ok M_X12_deliver = true := by decide +kernel
theorem cw_X12_deliver : Cond.code (mt_y M_X12_deliver) (mt_b M_X12_deliver) (mt_l M_X12_deliver) (mt_r M_X12_deliver) ∈ lw_tbl := List.mem_of_getElem? (i := 1808) (by decide +kernel)
end
section
/-! ===== records of methods ===== -/
def M_X12_run : MT := (my_X12_run, prog_14_method_61_code, 4, (some .int), [], [(0, .aload_n 0, 1), (1, .iconst 1, 1), (2, .iload_n 1, 1), (3, .iconst 0, 1), (4, .sipush 2000, 3), (7, .invokestatic 242, 3), (10, .iconst 1, 1), (11, .invokevirtual 246, 3), (14, .ifCond .eq 10, 3), (17, .aload_n 0, 1), (18, .iconst 1, 1), (19, .putfield 192, 3), (22, .iconst 0, 1), (23, .ireturn, 1), (24, .iconst 0, 1), (25, .istore_n 2, 1), (26, .iload_n 2, 1), (27, .iload_n 1, 1), (28, .if_icmp .ge 22, 3), (31, .aload_n 0, 1), (32, .getfield 207, 3), (35, .ifCond .le 15, 3), (38, .aload_n 0, 1), (39, .iconst 0, 1), (40, .invokevirtual 377, 3), (43, .istore_n 3, 1), (44, .iinc 2 1, 3), (47, .goto (-21), 3), (50, .iload_n 2, 1), (51, .ireturn, 1)], [(192, 12, 0), (207, 12, 48)], [(242, my_X12_in, 3, 1, 1, 0, 0), (246, my_X12_refuses, 3, 22, 1, 0, 0), (377, my_X12_arrive, 1, 22, 7, 0, 0)], [], [], [1535, 1583, 1747, 1748, 114, 1753, 1755, 43, 114, 1809, 1811, 51, 114])
theorem ok_X12_run : mt_ok M_X12_run = true := by decide +kernel
theorem cw_X12_run : Cond.code (mt_y M_X12_run) (mt_b M_X12_run) (mt_l M_X12_run) (mt_r M_X12_run) ∈ lw_tbl := List.mem_of_getElem? (i := 1949) (by decide +kernel)
def M_X12_lose : MT := (my_X12_lose, prog_14_method_62_code, 2, (some .int), [], [(0, .aload_n 0, 1), (1, .iload_n 1, 1), (2, .iconst 0, 1), (3, .aload_n 0, 1), (4, .getfield 207, 3), (7, .iconst 1, 1), (8, .isub, 1), (9, .invokestatic 242, 3), (12, .iconst 1, 1), (13, .iconst 1, 1), (14, .invokevirtual 246, 3), (17, .ifCond .eq 5, 3), (20, .iconst 0, 1), (21, .ireturn, 1), (22, .aload_n 0, 1), (23, .getfield 158, 3), (26, .aload_n 0, 1), (27, .iload_n 1, 1), (28, .invokevirtual 356, 3), (31, .iaload, 1), (32, .ireturn, 1)], [(207, 12, 48), (158, 12, 51)], [(242, my_X12_in, 3, 1, 1, 0, 0), (246, my_X12_refuses, 3, 22, 1, 0, 0), (356, my_X12_take, 1, 22, 1, 0, 0)], [], [], [1583, 1586, 1747, 1748, 114, 1753, 1755, 43, 114, 1813, 1815, 52, 114])
theorem ok_X12_lose : mt_ok M_X12_lose = true := by decide +kernel
theorem cw_X12_lose : Cond.code (mt_y M_X12_lose) (mt_b M_X12_lose) (mt_l M_X12_lose) (mt_r M_X12_lose) ∈ lw_tbl := List.mem_of_getElem? (i := 1953) (by decide +kernel)
def M_X12_twice : MT := (my_X12_twice, prog_14_method_63_code, 4, (some .int), [], [(0, .aload_n 0, 1), (1, .iload_n 1, 1), (2, .iconst 0, 1), (3, .aload_n 0, 1), (4, .getfield 207, 3), (7, .iconst 1, 1), (8, .isub, 1), (9, .invokestatic 242, 3), (12, .iconst 1, 1), (13, .iconst 1, 1), (14, .invokevirtual 246, 3), (17, .ifCond .eq 5, 3), (20, .iconst 0, 1), (21, .ireturn, 1), (22, .aload_n 0, 1), (23, .getfield 152, 3), (26, .iload_n 1, 1), (27, .iaload, 1), (28, .istore_n 2, 1), (29, .aload_n 0, 1), (30, .aload_n 0, 1), (31, .getfield 158, 3), (34, .iload_n 2, 1), (35, .iaload, 1), (36, .aload_n 0, 1), (37, .getfield 161, 3), (40, .iload_n 2, 1), (41, .iaload, 1), (42, .aload_n 0, 1), (43, .getfield 164, 3), (46, .iload_n 2, 1), (47, .iaload, 1), (48, .aload_n 0, 1), (49, .getfield 167, 3), (52, .iconst 3, 1), (53, .iload_n 2, 1), (54, .imul, 1), (55, .iaload, 1), (56, .aload_n 0, 1), (57, .getfield 167, 3), (60, .iconst 3, 1), (61, .iload_n 2, 1), (62, .imul, 1), (63, .iconst 1, 1), (64, .iadd, 1), (65, .iaload, 1), (66, .aload_n 0, 1), (67, .getfield 167, 3), (70, .iconst 3, 1), (71, .iload_n 2, 1), (72, .imul, 1), (73, .iconst 2, 1), (74, .iadd, 1), (75, .iaload, 1), (76, .invokevirtual 238, 3), (79, .ifCond .eq 102, 3), (82, .aload_n 0, 1), (83, .getfield 170, 3), (86, .aload_n 0, 1), (87, .getfield 231, 3), (90, .aload_n 0, 1), (91, .getfield 170, 3), (94, .iload_n 2, 1), (95, .iaload, 1), (96, .iastore, 1), (97, .aload_n 0, 1), (98, .getfield 173, 3), (101, .iconst 2, 1), (102, .aload_n 0, 1), (103, .getfield 231, 3), (106, .imul, 1), (107, .aload_n 0, 1), (108, .getfield 173, 3), (111, .iconst 2, 1), (112, .iload_n 2, 1), (113, .imul, 1), (114, .iaload, 1), (115, .iastore, 1), (116, .aload_n 0, 1), (117, .getfield 173, 3), (120, .iconst 2, 1), (121, .aload_n 0, 1), (122, .getfield 231, 3), (125, .imul, 1), (126, .iconst 1, 1), (127, .iadd, 1), (128, .aload_n 0, 1), (129, .getfield 173, 3), (132, .iconst 2, 1), (133, .iload_n 2, 1), (134, .imul, 1), (135, .iconst 1, 1), (136, .iadd, 1), (137, .iaload, 1), (138, .iastore, 1), (139, .iconst 0, 1), (140, .istore_n 3, 1), (141, .iload_n 3, 1), (142, .sipush 600, 3), (145, .if_icmp .ge 36, 3), (148, .aload_n 0, 1), (149, .getfield 177, 3), (152, .sipush 600, 3), (155, .aload_n 0, 1), (156, .getfield 231, 3), (159, .imul, 1), (160, .iload_n 3, 1), (161, .iadd, 1), (162, .aload_n 0, 1), (163, .getfield 177, 3), (166, .sipush 600, 3), (169, .iload_n 2, 1), (170, .imul, 1), (171, .iload_n 3, 1), (172, .iadd, 1), (173, .iaload, 1), (174, .iastore, 1), (175, .iinc 3 1, 3), (178, .goto (-37), 3), (181, .aload_n 0, 1), (182, .getfield 207, 3), (185, .ireturn, 1)], [(207, 12, 48), (152, 12, 49), (158, 12, 51), (161, 12, 52), (164, 12, 53), (167, 12, 54), (170, 12, 55), (231, 12, 58), (173, 12, 56), (177, 12, 57)], [(242, my_X12_in, 3, 1, 1, 0, 0), (246, my_X12_refuses, 3, 22, 1, 0, 0), (238, my_X12_lay, 6, 22, 1, 0, 0)], [], [], [1583, 1584, 1586, 1587, 1588, 1589, 1590, 1593, 1591, 1592, 1747, 1748, 114, 1753, 1755, 43, 114, 1764, 1766, 45, 114])
theorem ok_X12_twice : mt_ok M_X12_twice = true := by decide +kernel
theorem cw_X12_twice : Cond.code (mt_y M_X12_twice) (mt_b M_X12_twice) (mt_l M_X12_twice) (mt_r M_X12_twice) ∈ lw_tbl := List.mem_of_getElem? (i := 1957) (by decide +kernel)
def M_X12_up : MT := (my_X12_up, prog_14_method_64_code, 5, (some .boolean), [], [(0, .aload_n 0, 1), (1, .iload_n 1, 1), (2, .iconst 0, 1), (3, .iconst 3, 1), (4, .invokestatic 242, 3), (7, .ifCond .eq 21, 3), (10, .iload_n 2, 1), (11, .iconst 0, 1), (12, .iload_n 1, 1), (13, .invokestatic 380, 3), (16, .iconst 1, 1), (17, .isub, 1), (18, .invokestatic 242, 3), (21, .ifCond .eq 7, 3), (24, .iconst 1, 1), (25, .goto 4, 3), (28, .iconst 0, 1), (29, .iconst 1, 1), (30, .iconst 1, 1), (31, .invokevirtual 246, 3), (34, .ifCond .eq 5, 3), (37, .iconst 0, 1), (38, .ireturn, 1), (39, .aload_n 0, 1), (40, .getfield 7, 3), (43, .iload_n 1, 1), (44, .invokestatic 362, 3), (47, .iload_n 2, 1), (48, .iadd, 1), (49, .baload, 1), (50, .ifCond .ne 7, 3), (53, .iconst 1, 1), (54, .goto 4, 3), (57, .iconst 0, 1), (58, .istore 4, 2), (60, .aload_n 0, 1), (61, .getfield 7, 3), (64, .iload_n 1, 1), (65, .invokestatic 362, 3), (68, .iload_n 2, 1), (69, .iadd, 1), (70, .iload_n 3, 1), (71, .ifCond .ne 7, 3), (74, .iconst 1, 1), (75, .goto 4, 3), (78, .iconst 0, 1), (79, .bastore, 1), (80, .iload 4, 2), (82, .ireturn, 1)], [(7, 12, 1)], [(242, my_X12_in, 3, 1, 1, 0, 0), (380, my_X12_nodes, 1, 1, 1, 0, 0), (246, my_X12_refuses, 3, 22, 1, 0, 0), (362, my_X12_first, 1, 1, 1, 0, 0)], [], [], [1536, 1747, 1748, 114, 1962, 1963, 114, 1753, 1755, 43, 114, 1820, 1821, 114])
theorem ok_X12_up : mt_ok M_X12_up = true := by decide +kernel
theorem cw_X12_up : Cond.code (mt_y M_X12_up) (mt_b M_X12_up) (mt_l M_X12_up) (mt_r M_X12_up) ∈ lw_tbl := List.mem_of_getElem? (i := 1961) (by decide +kernel)
def M_X12_message : MT := (my_X12_message, prog_14_method_65_code, 4, (some .int), [], [(0, .aload_n 0, 1), (1, .iload_n 1, 1), (2, .iconst 0, 1), (3, .aload_n 0, 1), (4, .getfield 207, 3), (7, .iconst 1, 1), (8, .isub, 1), (9, .invokestatic 242, 3), (12, .ifCond .eq 17, 3), (15, .iload_n 2, 1), (16, .iconst 0, 1), (17, .bipush 8, 2), (19, .invokestatic 242, 3), (22, .ifCond .eq 7, 3), (25, .iconst 1, 1), (26, .goto 4, 3), (29, .iconst 0, 1), (30, .iconst 1, 1), (31, .iconst 1, 1), (32, .invokevirtual 246, 3), (35, .ifCond .eq 5, 3), (38, .iconst 0, 1), (39, .ireturn, 1), (40, .aload_n 0, 1), (41, .getfield 152, 3), (44, .iload_n 1, 1), (45, .iaload, 1), (46, .istore_n 3, 1), (47, .iload_n 2, 1), (48, .ifCond .ne 12, 3), (51, .aload_n 0, 1), (52, .getfield 158, 3), (55, .iload_n 3, 1), (56, .iaload, 1), (57, .goto 80, 3), (60, .iload_n 2, 1), (61, .iconst 1, 1), (62, .if_icmp .ne 12, 3), (65, .aload_n 0, 1), (66, .getfield 161, 3), (69, .iload_n 3, 1), (70, .iaload, 1), (71, .goto 66, 3), (74, .iload_n 2, 1), (75, .iconst 2, 1), (76, .if_icmp .ne 12, 3), (79, .aload_n 0, 1), (80, .getfield 164, 3), (83, .iload_n 3, 1), (84, .iaload, 1), (85, .goto 52, 3), (88, .iload_n 2, 1), (89, .bipush 6, 2), (91, .if_icmp .ge 18, 3), (94, .aload_n 0, 1), (95, .getfield 167, 3), (98, .iconst 3, 1), (99, .iload_n 3, 1), (100, .imul, 1), (101, .iload_n 2, 1), (102, .iadd, 1), (103, .iconst 3, 1), (104, .isub, 1), (105, .iaload, 1), (106, .goto 31, 3), (109, .iload_n 2, 1), (110, .bipush 6, 2), (112, .if_icmp .ne 12, 3), (115, .aload_n 0, 1), (116, .getfield 170, 3), (119, .iload_n 3, 1), (120, .iaload, 1), (121, .goto 16, 3), (124, .aload_n 0, 1), (125, .getfield 173, 3), (128, .iconst 2, 1), (129, .iload_n 3, 1), (130, .imul, 1), (131, .iload_n 2, 1), (132, .iadd, 1), (133, .bipush 7, 2), (135, .isub, 1), (136, .iaload, 1), (137, .ireturn, 1)], [(207, 12, 48), (152, 12, 49), (158, 12, 51), (161, 12, 52), (164, 12, 53), (167, 12, 54), (170, 12, 55), (173, 12, 56)], [(242, my_X12_in, 3, 1, 1, 0, 0), (246, my_X12_refuses, 3, 22, 1, 0, 0)], [], [], [1583, 1584, 1586, 1587, 1588, 1589, 1590, 1591, 1747, 1748, 114, 1753, 1755, 43, 114])
theorem ok_X12_message : mt_ok M_X12_message = true := by decide +kernel
theorem cw_X12_message : Cond.code (mt_y M_X12_message) (mt_b M_X12_message) (mt_l M_X12_message) (mt_r M_X12_message) ∈ lw_tbl := List.mem_of_getElem? (i := 1968) (by decide +kernel)
def M_X12_history : MT := (my_X12_history, prog_14_method_66_code, 4, (some .int), [], [(0, .iconst 0, 1), (1, .istore_n 2, 1), (2, .iconst 0, 1), (3, .istore_n 3, 1), (4, .iload_n 3, 1), (5, .sipush 300, 3), (8, .if_icmp .ge 32, 3), (11, .iload_n 2, 1), (12, .aload_n 0, 1), (13, .getfield 35, 3), (16, .sipush 300, 3), (19, .iload_n 1, 1), (20, .imul, 1), (21, .iload_n 3, 1), (22, .iadd, 1), (23, .iaload, 1), (24, .ifCond .eq 7, 3), (27, .iconst 1, 1), (28, .goto 4, 3), (31, .iconst 0, 1), (32, .iadd, 1), (33, .istore_n 2, 1), (34, .iinc 3 1, 3), (37, .goto (-33), 3), (40, .iload_n 2, 1), (41, .ireturn, 1)], [(35, 12, 9)], [], [], [], [1544])
theorem ok_X12_history : mt_ok M_X12_history = true := by decide +kernel
theorem cw_X12_history : Cond.code (mt_y M_X12_history) (mt_b M_X12_history) (mt_l M_X12_history) (mt_r M_X12_history) ∈ lw_tbl := List.mem_of_getElem? (i := 1976) (by decide +kernel)
end
section
/-! ===== records of methods ===== -/
def M_X12_leader : MT := (my_X12_leader, prog_14_method_67_code, 4, (some .int), [], [(0, .aload_n 0, 1), (1, .iload_n 1, 1), (2, .iconst 0, 1), (3, .iconst 2, 1), (4, .invokestatic 242, 3), (7, .ifCond .eq 17, 3), (10, .iload_n 2, 1), (11, .iconst 0, 1), (12, .bipush 13, 2), (14, .invokestatic 242, 3), (17, .ifCond .eq 7, 3), (20, .iconst 1, 1), (21, .goto 4, 3), (24, .iconst 0, 1), (25, .iconst 1, 1), (26, .iconst 1, 1), (27, .invokevirtual 246, 3), (30, .ifCond .eq 5, 3), (33, .iconst 0, 1), (34, .ireturn, 1), (35, .aload_n 0, 1), (36, .getfield 13, 3), (39, .iload_n 1, 1), (40, .iaload, 1), (41, .iconst 3, 1), (42, .if_icmp .ne 7, 3), (45, .iconst 1, 1), (46, .goto 4, 3), (49, .iconst 0, 1), (50, .istore_n 3, 1), (51, .iload_n 2, 1), (52, .tableswitch 189 0 12 #[68, 75, 82, 89, 96, 103, 109, 124, 139, 154, 168, 175, 182], 68), (120, .aload_n 0, 1), (121, .getfield 13, 3), (124, .iload_n 1, 1), (125, .iaload, 1), (126, .ireturn, 1), (127, .aload_n 0, 1), (128, .getfield 17, 3), (131, .iload_n 1, 1), (132, .iaload, 1), (133, .ireturn, 1), (134, .aload_n 0, 1), (135, .getfield 20, 3), (138, .iload_n 1, 1), (139, .iaload, 1), (140, .ireturn, 1), (141, .aload_n 0, 1), (142, .getfield 23, 3), (145, .iload_n 1, 1), (146, .iaload, 1), (147, .ireturn, 1), (148, .aload_n 0, 1), (149, .getfield 26, 3), (152, .iload_n 1, 1), (153, .iaload, 1), (154, .ireturn, 1), (155, .aload_n 0, 1), (156, .iload_n 1, 1), (157, .invokevirtual 383, 3), (160, .ireturn, 1), (161, .iload_n 3, 1), (162, .ifCond .eq 12, 3), (165, .aload_n 0, 1), (166, .getfield 50, 3), (169, .iload_n 1, 1), (170, .iaload, 1), (171, .goto 4, 3), (174, .iconst 0, 1), (175, .ireturn, 1), (176, .iload_n 3, 1), (177, .ifCond .eq 12, 3), (180, .aload_n 0, 1), (181, .getfield 53, 3), (184, .iload_n 1, 1), (185, .iaload, 1), (186, .goto 4, 3), (189, .iconst 0, 1), (190, .ireturn, 1), (191, .iload_n 3, 1), (192, .ifCond .eq 12, 3), (195, .aload_n 0, 1), (196, .getfield 41, 3), (199, .iload_n 1, 1), (200, .iaload, 1), (201, .goto 4, 3), (204, .iconst 0, 1), (205, .ireturn, 1), (206, .iload_n 3, 1), (207, .ifCond .eq 11, 3), (210, .aload_n 0, 1), (211, .iload_n 1, 1), (212, .invokevirtual 259, 3), (215, .goto 4, 3), (218, .iconst 0, 1), (219, .ireturn, 1), (220, .aload_n 0, 1), (221, .getfield 68, 3), (224, .iload_n 1, 1), (225, .iaload, 1), (226, .ireturn, 1), (227, .aload_n 0, 1), (228, .getfield 86, 3), (231, .iload_n 1, 1), (232, .iaload, 1), (233, .ireturn, 1), (234, .aload_n 0, 1), (235, .getfield 89, 3), (238, .iload_n 1, 1), (239, .iaload, 1), (240, .ireturn, 1), (241, .aload_n 0, 1), (242, .getfield 68, 3), (245, .iload_n 1, 1), (246, .iaload, 1), (247, .iconst 3, 1), (248, .if_icmp .ne 12, 3), (251, .aload_n 0, 1), (252, .getfield 83, 3), (255, .iload_n 1, 1), (256, .iaload, 1), (257, .goto 9, 3), (260, .aload_n 0, 1), (261, .getfield 38, 3), (264, .iload_n 1, 1), (265, .iaload, 1), (266, .ireturn, 1)], [(13, 12, 2), (17, 12, 3), (20, 12, 4), (23, 12, 5), (26, 12, 6), (50, 12, 14), (53, 12, 15), (41, 12, 11), (68, 12, 20), (86, 12, 26), (89, 12, 27), (83, 12, 25), (38, 12, 10)], [(242, my_X12_in, 3, 1, 1, 0, 0), (246, my_X12_refuses, 3, 22, 1, 0, 0), (383, my_X12_history, 1, 22, 1, 0, 0), (259, my_X12_firm, 1, 22, 1, 0, 0)], [], [], [1537, 1538, 1539, 1540, 1541, 1549, 1550, 1546, 1555, 1561, 1562, 1560, 1545, 1747, 1748, 114, 1753, 1755, 43, 114, 1973, 1975, 83, 114, 1781, 1783, 47, 114])
theorem ok_X12_leader : mt_ok M_X12_leader = true := by decide +kernel
theorem cw_X12_leader : Cond.code (mt_y M_X12_leader) (mt_b M_X12_leader) (mt_l M_X12_leader) (mt_r M_X12_leader) ∈ lw_tbl := List.mem_of_getElem? (i := 1972) (by decide +kernel)
def M_X12_slot : MT := (my_X12_slot, prog_14_method_68_code, 6, (some .int), [], [(0, .aload_n 0, 1), (1, .iload_n 1, 1), (2, .iconst 0, 1), (3, .iconst 2, 1), (4, .invokestatic 242, 3), (7, .ifCond .eq 26, 3), (10, .iload_n 2, 1), (11, .iconst 0, 1), (12, .bipush 15, 2), (14, .invokestatic 242, 3), (17, .ifCond .eq 16, 3), (20, .iload_n 3, 1), (21, .iconst 0, 1), (22, .iconst 3, 1), (23, .invokestatic 242, 3), (26, .ifCond .eq 7, 3), (29, .iconst 1, 1), (30, .goto 4, 3), (33, .iconst 0, 1), (34, .iconst 1, 1), (35, .iconst 1, 1), (36, .invokevirtual 246, 3), (39, .ifCond .eq 5, 3), (42, .iconst 0, 1), (43, .ireturn, 1), (44, .aload_n 0, 1), (45, .getfield 13, 3), (48, .iload_n 1, 1), (49, .iaload, 1), (50, .iconst 3, 1), (51, .if_icmp .ne 7, 3), (54, .iconst 1, 1), (55, .goto 4, 3), (58, .iconst 0, 1), (59, .istore 4, 2), (61, .bipush 16, 2), (63, .iload_n 1, 1), (64, .imul, 1), (65, .iload_n 2, 1), (66, .iadd, 1), (67, .istore 5, 2), (69, .iload_n 3, 1), (70, .iconst 1, 1), (71, .if_icmp .ne 22, 3), (74, .iload 4, 2), (76, .ifCond .eq 13, 3), (79, .aload_n 0, 1), (80, .getfield 59, 3), (83, .iload 5, 2), (85, .iaload, 1), (86, .goto 52, 3), (89, .iconst (-1), 1), (90, .goto 48, 3), (93, .iload 4, 2), (95, .ifCond .ne 7, 3), (98, .iconst 0, 1), (99, .goto 39, 3), (102, .iload_n 3, 1), (103, .ifCond .ne 13, 3), (106, .aload_n 0, 1), (107, .getfield 56, 3), (110, .iload 5, 2), (112, .iaload, 1), (113, .goto 25, 3), (116, .iload_n 3, 1), (117, .iconst 2, 1), (118, .if_icmp .ne 13, 3), (121, .aload_n 0, 1), (122, .getfield 62, 3), (125, .iload 5, 2), (127, .iaload, 1), (128, .goto 10, 3), (131, .aload_n 0, 1), (132, .getfield 65, 3), (135, .iload 5, 2), (137, .iaload, 1), (138, .ireturn, 1)], [(13, 12, 2), (59, 12, 17), (56, 12, 16), (62, 12, 18), (65, 12, 19)], [(242, my_X12_in, 3, 1, 1, 0, 0), (246, my_X12_refuses, 3, 22, 1, 0, 0)], [], [], [1537, 1552, 1551, 1553, 1554, 1747, 1748, 114, 1753, 1755, 43, 114])
theorem ok_X12_slot : mt_ok M_X12_slot = true := by decide +kernel
theorem cw_X12_slot : Cond.code (mt_y M_X12_slot) (mt_b M_X12_slot) (mt_l M_X12_slot) (mt_r M_X12_slot) ∈ lw_tbl := List.mem_of_getElem? (i := 1980) (by decide +kernel)
def M_X12_keeper : MT := (my_X12_keeper, prog_14_method_69_code, 3, (some .int), [], [(0, .aload_n 0, 1), (1, .iload_n 1, 1), (2, .iconst 0, 1), (3, .bipush 8, 2), (5, .invokestatic 242, 3), (8, .ifCond .eq 17, 3), (11, .iload_n 2, 1), (12, .iconst 0, 1), (13, .bipush 7, 2), (15, .invokestatic 242, 3), (18, .ifCond .eq 7, 3), (21, .iconst 1, 1), (22, .goto 4, 3), (25, .iconst 0, 1), (26, .iconst 1, 1), (27, .iconst 1, 1), (28, .invokevirtual 246, 3), (31, .ifCond .eq 5, 3), (34, .iconst 0, 1), (35, .ireturn, 1), (36, .iload_n 2, 1), (37, .tableswitch 91 0 6 #[43, 50, 57, 64, 70, 77, 84], 43), (80, .aload_n 0, 1), (81, .getfield 110, 3), (84, .iload_n 1, 1), (85, .iaload, 1), (86, .ireturn, 1), (87, .aload_n 0, 1), (88, .getfield 113, 3), (91, .iload_n 1, 1), (92, .iaload, 1), (93, .ireturn, 1), (94, .aload_n 0, 1), (95, .getfield 119, 3), (98, .iload_n 1, 1), (99, .iaload, 1), (100, .ireturn, 1), (101, .aload_n 0, 1), (102, .iload_n 1, 1), (103, .invokevirtual 327, 3), (106, .ireturn, 1), (107, .aload_n 0, 1), (108, .getfield 125, 3), (111, .iload_n 1, 1), (112, .iaload, 1), (113, .ireturn, 1), (114, .aload_n 0, 1), (115, .getfield 128, 3), (118, .iload_n 1, 1), (119, .iaload, 1), (120, .ireturn, 1), (121, .aload_n 0, 1), (122, .getfield 131, 3), (125, .iload_n 1, 1), (126, .iaload, 1), (127, .ireturn, 1), (128, .aload_n 0, 1), (129, .getfield 134, 3), (132, .iload_n 1, 1), (133, .iaload, 1), (134, .ireturn, 1)], [(110, 12, 34), (113, 12, 35), (119, 12, 37), (125, 12, 39), (128, 12, 40), (131, 12, 41), (134, 12, 42)], [(242, my_X12_in, 3, 1, 1, 0, 0), (246, my_X12_refuses, 3, 22, 1, 0, 0), (327, my_X12_countEntries, 1, 22, 1, 0, 0)], [], [], [1569, 1570, 1572, 1574, 1575, 1576, 1577, 1747, 1748, 114, 1753, 1755, 43, 114, 1906, 1908, 73, 114])
theorem ok_X12_keeper : mt_ok M_X12_keeper = true := by decide +kernel
theorem cw_X12_keeper : Cond.code (mt_y M_X12_keeper) (mt_b M_X12_keeper) (mt_l M_X12_keeper) (mt_r M_X12_keeper) ∈ lw_tbl := List.mem_of_getElem? (i := 1984) (by decide +kernel)
def M_X12_entry : MT := (my_X12_entry, prog_14_method_70_code, 7, (some .int), [], [(0, .iload_n 1, 1), (1, .iconst 0, 1), (2, .bipush 8, 2), (4, .invokestatic 242, 3), (7, .istore 4, 2), (9, .aload_n 0, 1), (10, .iload 4, 2), (12, .ifCond .eq 22, 3), (15, .iload_n 2, 1), (16, .iconst 0, 1), (17, .aload_n 0, 1), (18, .iload_n 1, 1), (19, .invokevirtual 327, 3), (22, .iconst 1, 1), (23, .isub, 1), (24, .invokestatic 242, 3), (27, .ifCond .eq 7, 3), (30, .iconst 1, 1), (31, .goto 4, 3), (34, .iconst 0, 1), (35, .iconst 1, 1), (36, .iconst 1, 1), (37, .invokevirtual 246, 3), (40, .ifCond .eq 5, 3), (43, .iconst 0, 1), (44, .ireturn, 1), (45, .iload_n 2, 1), (46, .istore 5, 2), (48, .iconst 0, 1), (49, .istore 6, 2), (51, .aload_n 0, 1), (52, .getfield 122, 3), (55, .sipush 300, 3), (58, .iload_n 1, 1), (59, .imul, 1), (60, .iload 6, 2), (62, .iadd, 1), (63, .iaload, 1), (64, .ifCond .eq 8, 3), (67, .iload 5, 2), (69, .ifCond .le 35, 3), (72, .iload 5, 2), (74, .aload_n 0, 1), (75, .getfield 122, 3), (78, .sipush 300, 3), (81, .iload_n 1, 1), (82, .imul, 1), (83, .iload 6, 2), (85, .iadd, 1), (86, .iaload, 1), (87, .ifCond .eq 7, 3), (90, .iconst 1, 1), (91, .goto 4, 3), (94, .iconst 0, 1), (95, .isub, 1), (96, .istore 5, 2), (98, .iinc 6 1, 3), (101, .goto (-50), 3), (104, .iload_n 3, 1), (105, .ifCond .eq 19, 3), (108, .aload_n 0, 1), (109, .getfield 122, 3), (112, .sipush 300, 3), (115, .iload_n 1, 1), (116, .imul, 1), (117, .iload 6, 2), (119, .iadd, 1), (120, .iaload, 1), (121, .goto 5, 3), (124, .iload 6, 2), (126, .ireturn, 1)], [(122, 12, 38)], [(242, my_X12_in, 3, 1, 1, 0, 0), (327, my_X12_countEntries, 1, 22, 1, 0, 0), (246, my_X12_refuses, 3, 22, 1, 0, 0)], [], [], [1573, 1747, 1748, 114, 1906, 1908, 73, 114, 1753, 1755, 43, 114])
theorem ok_X12_entry : mt_ok M_X12_entry = true := by decide +kernel
theorem cw_X12_entry : Cond.code (mt_y M_X12_entry) (mt_b M_X12_entry) (mt_l M_X12_entry) (mt_r M_X12_entry) ∈ lw_tbl := List.mem_of_getElem? (i := 1988) (by decide +kernel)
def M_X12_voter : MT := (my_X12_voter, prog_14_method_71_code, 5, (some .int), [], [(0, .aload_n 0, 1), (1, .iload_n 1, 1), (2, .iconst 0, 1), (3, .bipush 11, 2), (5, .invokestatic 242, 3), (8, .ifCond .eq 16, 3), (11, .iload_n 2, 1), (12, .iconst 0, 1), (13, .iconst 2, 1), (14, .invokestatic 242, 3), (17, .ifCond .eq 7, 3), (20, .iconst 1, 1), (21, .goto 4, 3), (24, .iconst 0, 1), (25, .iconst 1, 1), (26, .iconst 1, 1), (27, .invokevirtual 246, 3), (30, .ifCond .eq 5, 3), (33, .iconst 0, 1), (34, .ireturn, 1), (35, .iconst 0, 1), (36, .istore_n 3, 1), (37, .iconst 0, 1), (38, .istore 4, 2), (40, .iload 4, 2), (42, .bipush 16, 2), (44, .if_icmp .ge 33, 3), (47, .iload_n 3, 1), (48, .aload_n 0, 1), (49, .getfield 143, 3), (52, .bipush 16, 2), (54, .iload_n 1, 1), (55, .imul, 1), (56, .iload 4, 2), (58, .iadd, 1), (59, .iaload, 1), (60, .iconst (-1), 1), (61, .if_icmp .eq 7, 3), (64, .iconst 1, 1), (65, .goto 4, 3), (68, .iconst 0, 1), (69, .iadd, 1), (70, .istore_n 3, 1), (71, .iinc 4 1, 3), (74, .goto (-34), 3), (77, .iload_n 2, 1), (78, .ifCond .ne 12, 3), (81, .aload_n 0, 1), (82, .getfield 137, 3), (85, .iload_n 1, 1), (86, .iaload, 1), (87, .goto 18, 3), (90, .iload_n 2, 1), (91, .iconst 1, 1), (92, .if_icmp .ne 12, 3), (95, .aload_n 0, 1), (96, .getfield 140, 3), (99, .iload_n 1, 1), (100, .iaload, 1), (101, .goto 4, 3), (104, .iload_n 3, 1), (105, .ireturn, 1)], [(143, 12, 45), (137, 12, 43), (140, 12, 44)], [(242, my_X12_in, 3, 1, 1, 0, 0), (246, my_X12_refuses, 3, 22, 1, 0, 0)], [], [], [1580, 1578, 1579, 1747, 1748, 114, 1753, 1755, 43, 114])
theorem ok_X12_voter : mt_ok M_X12_voter = true := by decide +kernel
theorem cw_X12_voter : Cond.code (mt_y M_X12_voter) (mt_b M_X12_voter) (mt_l M_X12_voter) (mt_r M_X12_voter) ∈ lw_tbl := List.mem_of_getElem? (i := 1992) (by decide +kernel)
end
section
/-! ===== records of methods ===== -/
def M_X12_vote : MT := (my_X12_vote, prog_14_method_72_code, 5, (some .int), [], [(0, .aload_n 0, 1), (1, .iload_n 1, 1), (2, .iconst 0, 1), (3, .bipush 11, 2), (5, .invokestatic 242, 3), (8, .ifCond .eq 17, 3), (11, .iload_n 2, 1), (12, .iconst 0, 1), (13, .bipush 15, 2), (15, .invokestatic 242, 3), (18, .ifCond .eq 7, 3), (21, .iconst 1, 1), (22, .goto 4, 3), (25, .iconst 0, 1), (26, .iconst 1, 1), (27, .iconst 1, 1), (28, .invokevirtual 246, 3), (31, .ifCond .eq 5, 3), (34, .iconst 0, 1), (35, .ireturn, 1), (36, .bipush 16, 2), (38, .iload_n 1, 1), (39, .imul, 1), (40, .iload_n 2, 1), (41, .iadd, 1), (42, .istore 4, 2), (44, .aload_n 0, 1), (45, .getfield 143, 3), (48, .iload 4, 2), (50, .iaload, 1), (51, .iconst (-1), 1), (52, .if_icmp .ne 7, 3), (55, .iconst (-1), 1), (56, .goto 24, 3), (59, .iload_n 3, 1), (60, .ifCond .eq 13, 3), (63, .aload_n 0, 1), (64, .getfield 146, 3), (67, .iload 4, 2), (69, .iaload, 1), (70, .goto 10, 3), (73, .aload_n 0, 1), (74, .getfield 143, 3), (77, .iload 4, 2), (79, .iaload, 1), (80, .ireturn, 1)], [(143, 12, 45), (146, 12, 46)], [(242, my_X12_in, 3, 1, 1, 0, 0), (246, my_X12_refuses, 3, 22, 1, 0, 0)], [], [], [1580, 1581, 1747, 1748, 114, 1753, 1755, 43, 114])
theorem ok_X12_vote : mt_ok M_X12_vote = true := by decide +kernel
theorem cw_X12_vote : Cond.code (mt_y M_X12_vote) (mt_b M_X12_vote) (mt_l M_X12_vote) (mt_r M_X12_vote) ∈ lw_tbl := List.mem_of_getElem? (i := 1996) (by decide +kernel)
def M_X12_copy : MT := (my_X12_copy, prog_14_method_73_code, 3, (some .int), [], [(0, .aload_n 0, 1), (1, .iload_n 1, 1), (2, .iconst 0, 1), (3, .iconst 2, 1), (4, .invokestatic 242, 3), (7, .ifCond .eq 17, 3), (10, .iload_n 2, 1), (11, .iconst 0, 1), (12, .bipush 15, 2), (14, .invokestatic 242, 3), (17, .ifCond .eq 7, 3), (20, .iconst 1, 1), (21, .goto 4, 3), (24, .iconst 0, 1), (25, .iconst 1, 1), (26, .iconst 1, 1), (27, .invokevirtual 246, 3), (30, .ifCond .eq 5, 3), (33, .iconst 0, 1), (34, .ireturn, 1), (35, .aload_n 0, 1), (36, .getfield 149, 3), (39, .bipush 16, 2), (41, .iload_n 1, 1), (42, .imul, 1), (43, .iload_n 2, 1), (44, .iadd, 1), (45, .iaload, 1), (46, .ireturn, 1)], [(149, 12, 47)], [(242, my_X12_in, 3, 1, 1, 0, 0), (246, my_X12_refuses, 3, 22, 1, 0, 0)], [], [], [1582, 1747, 1748, 114, 1753, 1755, 43, 114])
theorem ok_X12_copy : mt_ok M_X12_copy = true := by decide +kernel
theorem cw_X12_copy : Cond.code (mt_y M_X12_copy) (mt_b M_X12_copy) (mt_l M_X12_copy) (mt_r M_X12_copy) ∈ lw_tbl := List.mem_of_getElem? (i := 2000) (by decide +kernel)
def M_X12_agreed : MT := (my_X12_agreed, prog_14_method_74_code, 2, (some .int), [], [(0, .aload_n 0, 1), (1, .iload_n 1, 1), (2, .iconst 0, 1), (3, .bipush 15, 2), (5, .invokestatic 242, 3), (8, .iconst 1, 1), (9, .iconst 1, 1), (10, .invokevirtual 246, 3), (13, .ifCond .eq 7, 3), (16, .iconst 0, 1), (17, .goto 9, 3), (20, .aload_n 0, 1), (21, .getfield 186, 3), (24, .iload_n 1, 1), (25, .iaload, 1), (26, .ireturn, 1)], [(186, 12, 61)], [(242, my_X12_in, 3, 1, 1, 0, 0), (246, my_X12_refuses, 3, 22, 1, 0, 0)], [], [], [1596, 1747, 1748, 114, 1753, 1755, 43, 114])
theorem ok_X12_agreed : mt_ok M_X12_agreed = true := by decide +kernel
theorem cw_X12_agreed : Cond.code (mt_y M_X12_agreed) (mt_b M_X12_agreed) (mt_l M_X12_agreed) (mt_r M_X12_agreed) ∈ lw_tbl := List.mem_of_getElem? (i := 2004) (by decide +kernel)
def M_X12_count : MT := (my_X12_count, prog_14_method_75_code, 2, (some .int), [], [(0, .aload_n 0, 1), (1, .iload_n 1, 1), (2, .iconst 0, 1), (3, .iconst 5, 1), (4, .invokestatic 242, 3), (7, .iconst 1, 1), (8, .iconst 1, 1), (9, .invokevirtual 246, 3), (12, .ifCond .eq 5, 3), (15, .iconst 0, 1), (16, .ireturn, 1), (17, .iload_n 1, 1), (18, .ifCond .ne 10, 3), (21, .aload_n 0, 1), (22, .getfield 207, 3), (25, .goto 55, 3), (28, .iload_n 1, 1), (29, .iconst 1, 1), (30, .if_icmp .ne 10, 3), (33, .aload_n 0, 1), (34, .getfield 210, 3), (37, .goto 43, 3), (40, .iload_n 1, 1), (41, .iconst 2, 1), (42, .if_icmp .ne 10, 3), (45, .aload_n 0, 1), (46, .getfield 213, 3), (49, .goto 31, 3), (52, .iload_n 1, 1), (53, .iconst 3, 1), (54, .if_icmp .ne 10, 3), (57, .aload_n 0, 1), (58, .getfield 216, 3), (61, .goto 19, 3), (64, .iload_n 1, 1), (65, .iconst 4, 1), (66, .if_icmp .ne 10, 3), (69, .aload_n 0, 1), (70, .getfield 219, 3), (73, .goto 7, 3), (76, .aload_n 0, 1), (77, .getfield 222, 3), (80, .ireturn, 1)], [(207, 12, 48), (210, 12, 62), (213, 12, 63), (216, 12, 64), (219, 12, 65), (222, 12, 66)], [(242, my_X12_in, 3, 1, 1, 0, 0), (246, my_X12_refuses, 3, 22, 1, 0, 0)], [], [], [1583, 1597, 1598, 1599, 1600, 1601, 1747, 1748, 114, 1753, 1755, 43, 114])
theorem ok_X12_count : mt_ok M_X12_count = true := by decide +kernel
theorem cw_X12_count : Cond.code (mt_y M_X12_count) (mt_b M_X12_count) (mt_l M_X12_count) (mt_r M_X12_count) ∈ lw_tbl := List.mem_of_getElem? (i := 2008) (by decide +kernel)
def M_L_begin : MT := (my_L_begin, method_3_code, 6, (some .int), [(0, 12, 15, 13), (0, 12, 19, 15), (0, 12, 23, 17)], [(0, .aload 4, 2), (2, .iconst 0, 1), (3, .aload_n 0, 1), (4, .iload_n 1, 1), (5, .iload_n 2, 1), (6, .iload_n 3, 1), (7, .invokevirtual 7, 3), (10, .i2l, 1), (11, .lastore, 1), (12, .goto 15, 3), (15, .astore 5, 2), (17, .iconst 1, 1), (18, .ireturn, 1), (19, .astore 5, 2), (21, .iconst 2, 1), (22, .ireturn, 1), (23, .astore 5, 2), (25, .iconst 3, 1), (26, .ireturn, 1), (27, .iconst 0, 1), (28, .ireturn, 1)], [], [(7, my_X11_begin, 3, 21, 7, 4, 24)], [], [], [967, 968, 969, 85])
theorem ok_L_begin : mt_ok M_L_begin = true := by decide +kernel
theorem cw_L_begin : Cond.codeWith (mt_y M_L_begin) (mt_b M_L_begin) (mt_l M_L_begin) (mt_r M_L_begin) (mt_h M_L_begin) ∈ lw_tbl := List.mem_of_getElem? (i := 963) (by decide +kernel)
def M_L_propose : MT := (my_L_propose, method_4_code, 5, (some .int), [(0, 10, 13, 13), (0, 10, 17, 15), (0, 10, 21, 17)], [(0, .aload_n 3, 1), (1, .iconst 0, 1), (2, .aload_n 0, 1), (3, .iload_n 1, 1), (4, .iload_n 2, 1), (5, .invokevirtual 19, 3), (8, .i2l, 1), (9, .lastore, 1), (10, .goto 15, 3), (13, .astore 4, 2), (15, .iconst 1, 1), (16, .ireturn, 1), (17, .astore 4, 2), (19, .iconst 2, 1), (20, .ireturn, 1), (21, .astore 4, 2), (23, .iconst 3, 1), (24, .ireturn, 1), (25, .iconst 0, 1), (26, .ireturn, 1)], [], [(19, my_X11_propose, 2, 21, 4, 4, 24)], [], [], [1045, 1046, 1047, 85])
theorem ok_L_propose : mt_ok M_L_propose = true := by decide +kernel
theorem cw_L_propose : Cond.codeWith (mt_y M_L_propose) (mt_b M_L_propose) (mt_l M_L_propose) (mt_r M_L_propose) (mt_h M_L_propose) ∈ lw_tbl := List.mem_of_getElem? (i := 1044) (by decide +kernel)
def M_L_collect : MT := (my_L_collect, method_5_code, 4, (some .int), [(0, 16, 19, 13), (0, 16, 22, 17)], [(0, .aload_n 2, 1), (1, .iconst 0, 1), (2, .aload_n 0, 1), (3, .iload_n 1, 1), (4, .invokevirtual 23, 3), (7, .ifCond .eq 7, 3), (10, .lconst 1, 1), (11, .goto 4, 3), (14, .lconst 0, 1), (15, .lastore, 1), (16, .goto 9, 3), (19, .astore_n 3, 1), (20, .iconst 1, 1), (21, .ireturn, 1), (22, .astore_n 3, 1), (23, .iconst 2, 1), (24, .ireturn, 1), (25, .iconst 0, 1), (26, .ireturn, 1)], [], [(23, my_X11_collect, 1, 21, 4, 4, 24)], [], [], [1065, 1066, 1067, 85])
theorem ok_L_collect : mt_ok M_L_collect = true := by decide +kernel
theorem cw_L_collect : Cond.codeWith (mt_y M_L_collect) (mt_b M_L_collect) (mt_l M_L_collect) (mt_r M_L_collect) (mt_h M_L_collect) ∈ lw_tbl := List.mem_of_getElem? (i := 1064) (by decide +kernel)
def M_L_reform : MT := (my_L_reform, method_6_code, 6, (some .int), [(0, 12, 15, 13), (0, 12, 19, 15), (0, 12, 23, 17)], [(0, .aload 4, 2), (2, .iconst 0, 1), (3, .aload_n 0, 1), (4, .iload_n 1, 1), (5, .iload_n 2, 1), (6, .iload_n 3, 1), (7, .invokevirtual 27, 3), (10, .i2l, 1), (11, .lastore, 1), (12, .goto 15, 3), (15, .astore 5, 2), (17, .iconst 1, 1), (18, .ireturn, 1), (19, .astore 5, 2), (21, .iconst 2, 1), (22, .ireturn, 1), (23, .astore 5, 2), (25, .iconst 3, 1), (26, .ireturn, 1), (27, .iconst 0, 1), (28, .ireturn, 1)], [], [(27, my_X11_reform, 3, 21, 6, 4, 24)], [], [], [1088, 1089, 1090, 85])
theorem ok_L_reform : mt_ok M_L_reform = true := by decide +kernel
theorem cw_L_reform : Cond.codeWith (mt_y M_L_reform) (mt_b M_L_reform) (mt_l M_L_reform) (mt_r M_L_reform) (mt_h M_L_reform) ∈ lw_tbl := List.mem_of_getElem? (i := 1087) (by decide +kernel)
def M_L_again : MT := (my_L_again, method_7_code, 4, (some .int), [(0, 9, 12, 13), (0, 9, 15, 17)], [(0, .aload_n 2, 1), (1, .iconst 0, 1), (2, .aload_n 0, 1), (3, .iload_n 1, 1), (4, .invokevirtual 30, 3), (7, .i2l, 1), (8, .lastore, 1), (9, .goto 9, 3), (12, .astore_n 3, 1), (13, .iconst 1, 1), (14, .ireturn, 1), (15, .astore_n 3, 1), (16, .iconst 2, 1), (17, .ireturn, 1), (18, .iconst 0, 1), (19, .ireturn, 1)], [], [(30, my_X11_again, 1, 21, 5, 4, 24)], [], [], [1117, 1118, 1119, 85])
theorem ok_L_again : mt_ok M_L_again = true := by decide +kernel
theorem cw_L_again : Cond.codeWith (mt_y M_L_again) (mt_b M_L_again) (mt_l M_L_again) (mt_r M_L_again) (mt_h M_L_again) ∈ lw_tbl := List.mem_of_getElem? (i := 1116) (by decide +kernel)
def M_L_deliver : MT := (my_L_deliver, method_8_code, 4, (some .int), [(0, 9, 12, 13)], [(0, .aload_n 2, 1), (1, .iconst 0, 1), (2, .aload_n 0, 1), (3, .iload_n 1, 1), (4, .invokevirtual 34, 3), (7, .i2l, 1), (8, .lastore, 1), (9, .goto 6, 3), (12, .astore_n 3, 1), (13, .iconst 1, 1), (14, .ireturn, 1), (15, .iconst 0, 1), (16, .ireturn, 1)], [], [(34, my_X11_deliver, 1, 21, 8, 4, 24)], [], [], [1145, 1146, 1147, 85])
theorem ok_L_deliver : mt_ok M_L_deliver = true := by decide +kernel
theorem cw_L_deliver : Cond.codeWith (mt_y M_L_deliver) (mt_b M_L_deliver) (mt_l M_L_deliver) (mt_r M_L_deliver) (mt_h M_L_deliver) ∈ lw_tbl := List.mem_of_getElem? (i := 1144) (by decide +kernel)
def M_L_run : MT := (my_L_run, method_9_code, 4, (some .int), [(0, 9, 12, 15)], [(0, .aload_n 2, 1), (1, .iconst 0, 1), (2, .aload_n 0, 1), (3, .iload_n 1, 1), (4, .invokevirtual 37, 3), (7, .i2l, 1), (8, .lastore, 1), (9, .goto 6, 3), (12, .astore_n 3, 1), (13, .iconst 1, 1), (14, .ireturn, 1), (15, .iconst 0, 1), (16, .ireturn, 1)], [], [(37, my_X11_run, 1, 21, 8, 4, 24)], [], [], [1365, 1366, 1367, 85])
theorem ok_L_run : mt_ok M_L_run = true := by decide +kernel
theorem cw_L_run : Cond.codeWith (mt_y M_L_run) (mt_b M_L_run) (mt_l M_L_run) (mt_r M_L_run) (mt_h M_L_run) ∈ lw_tbl := List.mem_of_getElem? (i := 1364) (by decide +kernel)
def M_L_lose : MT := (my_L_lose, method_10_code, 4, (some .int), [(0, 9, 12, 13)], [(0, .aload_n 2, 1), (1, .iconst 0, 1), (2, .aload_n 0, 1), (3, .iload_n 1, 1), (4, .invokevirtual 40, 3), (7, .i2l, 1), (8, .lastore, 1), (9, .goto 6, 3), (12, .astore_n 3, 1), (13, .iconst 1, 1), (14, .ireturn, 1), (15, .iconst 0, 1), (16, .ireturn, 1)], [], [(40, my_X11_lose, 1, 21, 3, 4, 24)], [], [], [1373, 1374, 1375, 85])
theorem ok_L_lose : mt_ok M_L_lose = true := by decide +kernel
theorem cw_L_lose : Cond.codeWith (mt_y M_L_lose) (mt_b M_L_lose) (mt_l M_L_lose) (mt_r M_L_lose) (mt_h M_L_lose) ∈ lw_tbl := List.mem_of_getElem? (i := 1372) (by decide +kernel)
def M_L_twice : MT := (my_L_twice, method_11_code, 4, (some .int), [(0, 9, 12, 13)], [(0, .aload_n 2, 1), (1, .iconst 0, 1), (2, .aload_n 0, 1), (3, .iload_n 1, 1), (4, .invokevirtual 43, 3), (7, .i2l, 1), (8, .lastore, 1), (9, .goto 6, 3), (12, .astore_n 3, 1), (13, .iconst 1, 1), (14, .ireturn, 1), (15, .iconst 0, 1), (16, .ireturn, 1)], [], [(43, my_X11_twice, 1, 21, 2, 4, 24)], [], [], [1380, 1381, 1382, 85])
theorem ok_L_twice : mt_ok M_L_twice = true := by decide +kernel
theorem cw_L_twice : Cond.codeWith (mt_y M_L_twice) (mt_b M_L_twice) (mt_l M_L_twice) (mt_r M_L_twice) (mt_h M_L_twice) ∈ lw_tbl := List.mem_of_getElem? (i := 1379) (by decide +kernel)
def M_L_up : MT := (my_L_up, method_12_code, 6, (some .int), [(0, 19, 22, 13)], [(0, .aload 4, 2), (2, .iconst 0, 1), (3, .aload_n 0, 1), (4, .iload_n 1, 1), (5, .iload_n 2, 1), (6, .iload_n 3, 1), (7, .invokevirtual 46, 3), (10, .ifCond .eq 7, 3), (13, .lconst 1, 1), (14, .goto 4, 3), (17, .lconst 0, 1), (18, .lastore, 1), (19, .goto 7, 3), (22, .astore 5, 2), (24, .iconst 1, 1), (25, .ireturn, 1), (26, .iconst 0, 1), (27, .ireturn, 1)], [], [(46, my_X11_up, 3, 21, 3, 4, 24)], [], [], [1394, 1395, 1396, 85])
theorem ok_L_up : mt_ok M_L_up = true := by decide +kernel
theorem cw_L_up : Cond.codeWith (mt_y M_L_up) (mt_b M_L_up) (mt_l M_L_up) (mt_r M_L_up) (mt_h M_L_up) ∈ lw_tbl := List.mem_of_getElem? (i := 1393) (by decide +kernel)
def M_L_message : MT := (my_L_message, method_13_code, 5, (some .int), [(0, 10, 13, 13)], [(0, .aload_n 3, 1), (1, .iconst 0, 1), (2, .aload_n 0, 1), (3, .iload_n 1, 1), (4, .iload_n 2, 1), (5, .invokevirtual 50, 3), (8, .i2l, 1), (9, .lastore, 1), (10, .goto 7, 3), (13, .astore 4, 2), (15, .iconst 1, 1), (16, .ireturn, 1), (17, .iconst 0, 1), (18, .ireturn, 1)], [], [(50, my_X11_message, 2, 21, 5, 4, 24)], [], [], [1401, 1402, 1403, 85])
theorem ok_L_message : mt_ok M_L_message = true := by decide +kernel
theorem cw_L_message : Cond.codeWith (mt_y M_L_message) (mt_b M_L_message) (mt_l M_L_message) (mt_r M_L_message) (mt_h M_L_message) ∈ lw_tbl := List.mem_of_getElem? (i := 1400) (by decide +kernel)
def M_L_leader : MT := (my_L_leader, method_14_code, 5, (some .int), [(0, 10, 13, 13)], [(0, .aload_n 3, 1), (1, .iconst 0, 1), (2, .aload_n 0, 1), (3, .iload_n 1, 1), (4, .iload_n 2, 1), (5, .invokevirtual 53, 3), (8, .i2l, 1), (9, .lastore, 1), (10, .goto 7, 3), (13, .astore 4, 2), (15, .iconst 1, 1), (16, .ireturn, 1), (17, .iconst 0, 1), (18, .ireturn, 1)], [], [(53, my_X11_leader, 2, 21, 4, 4, 24)], [], [], [1420, 1421, 1422, 85])
theorem ok_L_leader : mt_ok M_L_leader = true := by decide +kernel
theorem cw_L_leader : Cond.codeWith (mt_y M_L_leader) (mt_b M_L_leader) (mt_l M_L_leader) (mt_r M_L_leader) (mt_h M_L_leader) ∈ lw_tbl := List.mem_of_getElem? (i := 1419) (by decide +kernel)
def M_L_slot : MT := (my_L_slot, method_15_code, 6, (some .int), [(0, 12, 15, 13)], [(0, .aload 4, 2), (2, .iconst 0, 1), (3, .aload_n 0, 1), (4, .iload_n 1, 1), (5, .iload_n 2, 1), (6, .iload_n 3, 1), (7, .invokevirtual 56, 3), (10, .i2l, 1), (11, .lastore, 1), (12, .goto 7, 3), (15, .astore 5, 2), (17, .iconst 1, 1), (18, .ireturn, 1), (19, .iconst 0, 1), (20, .ireturn, 1)], [], [(56, my_X11_slot, 3, 21, 3, 4, 24)], [], [], [1436, 1437, 1438, 85])
theorem ok_L_slot : mt_ok M_L_slot = true := by decide +kernel
theorem cw_L_slot : Cond.codeWith (mt_y M_L_slot) (mt_b M_L_slot) (mt_l M_L_slot) (mt_r M_L_slot) (mt_h M_L_slot) ∈ lw_tbl := List.mem_of_getElem? (i := 1435) (by decide +kernel)
def M_L_keeper : MT := (my_L_keeper, method_16_code, 5, (some .int), [(0, 10, 13, 13)], [(0, .aload_n 3, 1), (1, .iconst 0, 1), (2, .aload_n 0, 1), (3, .iload_n 1, 1), (4, .iload_n 2, 1), (5, .invokevirtual 59, 3), (8, .i2l, 1), (9, .lastore, 1), (10, .goto 7, 3), (13, .astore 4, 2), (15, .iconst 1, 1), (16, .ireturn, 1), (17, .iconst 0, 1), (18, .ireturn, 1)], [], [(59, my_X11_keeper, 2, 21, 4, 4, 24)], [], [], [1447, 1448, 1449, 85])
theorem ok_L_keeper : mt_ok M_L_keeper = true := by decide +kernel
theorem cw_L_keeper : Cond.codeWith (mt_y M_L_keeper) (mt_b M_L_keeper) (mt_l M_L_keeper) (mt_r M_L_keeper) (mt_h M_L_keeper) ∈ lw_tbl := List.mem_of_getElem? (i := 1446) (by decide +kernel)
def M_L_entry : MT := (my_L_entry, method_17_code, 6, (some .int), [(0, 12, 15, 13)], [(0, .aload 4, 2), (2, .iconst 0, 1), (3, .aload_n 0, 1), (4, .iload_n 1, 1), (5, .iload_n 2, 1), (6, .iload_n 3, 1), (7, .invokevirtual 62, 3), (10, .i2l, 1), (11, .lastore, 1), (12, .goto 7, 3), (15, .astore 5, 2), (17, .iconst 1, 1), (18, .ireturn, 1), (19, .iconst 0, 1), (20, .ireturn, 1)], [], [(62, my_X11_entry, 3, 21, 3, 4, 24)], [], [], [1458, 1459, 1460, 85])
theorem ok_L_entry : mt_ok M_L_entry = true := by decide +kernel
theorem cw_L_entry : Cond.codeWith (mt_y M_L_entry) (mt_b M_L_entry) (mt_l M_L_entry) (mt_r M_L_entry) (mt_h M_L_entry) ∈ lw_tbl := List.mem_of_getElem? (i := 1457) (by decide +kernel)
def M_L_voter : MT := (my_L_voter, method_18_code, 5, (some .int), [(0, 10, 13, 13)], [(0, .aload_n 3, 1), (1, .iconst 0, 1), (2, .aload_n 0, 1), (3, .iload_n 1, 1), (4, .iload_n 2, 1), (5, .invokevirtual 66, 3), (8, .i2l, 1), (9, .lastore, 1), (10, .goto 7, 3), (13, .astore 4, 2), (15, .iconst 1, 1), (16, .ireturn, 1), (17, .iconst 0, 1), (18, .ireturn, 1)], [], [(66, my_X11_voter, 2, 21, 3, 4, 24)], [], [], [1469, 1470, 1471, 85])
theorem ok_L_voter : mt_ok M_L_voter = true := by decide +kernel
theorem cw_L_voter : Cond.codeWith (mt_y M_L_voter) (mt_b M_L_voter) (mt_l M_L_voter) (mt_r M_L_voter) (mt_h M_L_voter) ∈ lw_tbl := List.mem_of_getElem? (i := 1468) (by decide +kernel)
def M_L_vote : MT := (my_L_vote, method_19_code, 6, (some .int), [(0, 12, 15, 13)], [(0, .aload 4, 2), (2, .iconst 0, 1), (3, .aload_n 0, 1), (4, .iload_n 1, 1), (5, .iload_n 2, 1), (6, .iload_n 3, 1), (7, .invokevirtual 69, 3), (10, .i2l, 1), (11, .lastore, 1), (12, .goto 7, 3), (15, .astore 5, 2), (17, .iconst 1, 1), (18, .ireturn, 1), (19, .iconst 0, 1), (20, .ireturn, 1)], [], [(69, my_X11_vote, 3, 21, 2, 4, 24)], [], [], [1481, 1482, 1483, 85])
theorem ok_L_vote : mt_ok M_L_vote = true := by decide +kernel
theorem cw_L_vote : Cond.codeWith (mt_y M_L_vote) (mt_b M_L_vote) (mt_l M_L_vote) (mt_r M_L_vote) (mt_h M_L_vote) ∈ lw_tbl := List.mem_of_getElem? (i := 1480) (by decide +kernel)
def M_L_copy : MT := (my_L_copy, method_20_code, 5, (some .int), [(0, 10, 13, 13)], [(0, .aload_n 3, 1), (1, .iconst 0, 1), (2, .aload_n 0, 1), (3, .iload_n 1, 1), (4, .iload_n 2, 1), (5, .invokevirtual 72, 3), (8, .i2l, 1), (9, .lastore, 1), (10, .goto 7, 3), (13, .astore 4, 2), (15, .iconst 1, 1), (16, .ireturn, 1), (17, .iconst 0, 1), (18, .ireturn, 1)], [], [(72, my_X11_copy, 2, 21, 2, 4, 24)], [], [], [1490, 1491, 1492, 85])
theorem ok_L_copy : mt_ok M_L_copy = true := by decide +kernel
theorem cw_L_copy : Cond.codeWith (mt_y M_L_copy) (mt_b M_L_copy) (mt_l M_L_copy) (mt_r M_L_copy) (mt_h M_L_copy) ∈ lw_tbl := List.mem_of_getElem? (i := 1489) (by decide +kernel)
end
section
/-! ===== records of methods ===== -/
def M_L_agreed : MT := (my_L_agreed, method_21_code, 4, (some .int), [(0, 9, 12, 13)], [(0, .aload_n 2, 1), (1, .iconst 0, 1), (2, .aload_n 0, 1), (3, .iload_n 1, 1), (4, .invokevirtual 75, 3), (7, .i2l, 1), (8, .lastore, 1), (9, .goto 6, 3), (12, .astore_n 3, 1), (13, .iconst 1, 1), (14, .ireturn, 1), (15, .iconst 0, 1), (16, .ireturn, 1)], [], [(75, my_X11_agreed, 1, 21, 2, 4, 24)], [], [], [1497, 1498, 1499, 85])
theorem ok_L_agreed : mt_ok M_L_agreed = true := by decide +kernel
theorem cw_L_agreed : Cond.codeWith (mt_y M_L_agreed) (mt_b M_L_agreed) (mt_l M_L_agreed) (mt_r M_L_agreed) (mt_h M_L_agreed) ∈ lw_tbl := List.mem_of_getElem? (i := 1496) (by decide +kernel)
def M_L_count : MT := (my_L_count, method_22_code, 4, (some .int), [(0, 9, 12, 13)], [(0, .aload_n 2, 1), (1, .iconst 0, 1), (2, .aload_n 0, 1), (3, .iload_n 1, 1), (4, .invokevirtual 78, 3), (7, .i2l, 1), (8, .lastore, 1), (9, .goto 6, 3), (12, .astore_n 3, 1), (13, .iconst 1, 1), (14, .ireturn, 1), (15, .iconst 0, 1), (16, .ireturn, 1)], [], [(78, my_X11_count, 1, 21, 2, 4, 24)], [], [], [1504, 1505, 1506, 85])
theorem ok_L_count : mt_ok M_L_count = true := by decide +kernel
theorem cw_L_count : Cond.codeWith (mt_y M_L_count) (mt_b M_L_count) (mt_l M_L_count) (mt_r M_L_count) (mt_h M_L_count) ∈ lw_tbl := List.mem_of_getElem? (i := 1503) (by decide +kernel)
end
section
/-! ===== the record of the law ===== -/
def cL_0 : List (Nat × Instr × Nat) := [(0, .new 8, 3), (3, .dup, 1), (4, .invokespecial 81, 3), (7, .astore_n 1, 1), (8, .new 82, 3), (11, .dup, 1), (12, .invokespecial 84, 3), (15, .astore_n 2, 1), (16, .iconst 1, 1), (17, .newarray .long, 2), (19, .astore_n 3, 1), (20, .iconst 0, 1), (21, .istore 4, 2), (23, .iload 4, 2), (25, .aload_n 0, 1), (26, .arraylength, 1), (27, .iconst 4, 1), (28, .isub, 1), (29, .if_icmp .gt 983, 3), (32, .aload_n 0, 1), (33, .iload 4, 2), (35, .iaload, 1), (36, .bipush 31, 2), (38, .iand, 1), (39, .tableswitch 967 0 20 #[97, 149, 189, 217, 269, 297, 325, 353, 381, 409, 512, 552, 592, 644, 684, 752, 792, 860, 900, 928, 956], 97), (136, .aload_n 1, 1), (137, .aload_n 0, 1), (138, .iload 4, 2), (140, .iconst 1, 1), (141, .iadd, 1), (142, .iaload, 1), (143, .aload_n 0, 1), (144, .iload 4, 2), (146, .iconst 2, 1), (147, .iadd, 1), (148, .iaload, 1), (149, .aload_n 0, 1), (150, .iload 4, 2), (152, .iconst 3, 1), (153, .iadd, 1), (154, .iaload, 1), (155, .aload_n 3, 1), (156, .invokestatic 85, 3), (159, .istore 5, 2), (161, .aload_n 2, 1), (162, .aload_n 0, 1), (163, .iload 4, 2), (165, .iconst 1, 1), (166, .iadd, 1), (167, .iaload, 1), (168, .aload_n 0, 1), (169, .iload 4, 2), (171, .iconst 2, 1), (172, .iadd, 1), (173, .iaload, 1), (174, .aload_n 0, 1), (175, .iload 4, 2), (177, .iconst 3, 1), (178, .iadd, 1), (179, .iaload, 1)]
def cL_1 : List (Nat × Instr × Nat) := [(180, .invokevirtual 90, 3), (183, .istore 6, 2), (185, .goto 821, 3), (188, .aload_n 1, 1), (189, .aload_n 0, 1), (190, .iload 4, 2), (192, .iconst 1, 1), (193, .iadd, 1), (194, .iaload, 1), (195, .aload_n 0, 1), (196, .iload 4, 2), (198, .iconst 2, 1), (199, .iadd, 1), (200, .iaload, 1), (201, .aload_n 3, 1), (202, .invokestatic 91, 3), (205, .istore 5, 2), (207, .aload_n 2, 1), (208, .aload_n 0, 1), (209, .iload 4, 2), (211, .iconst 1, 1), (212, .iadd, 1), (213, .iaload, 1), (214, .aload_n 0, 1), (215, .iload 4, 2), (217, .iconst 2, 1), (218, .iadd, 1), (219, .iaload, 1), (220, .invokevirtual 94, 3), (223, .istore 6, 2), (225, .goto 781, 3), (228, .aload_n 1, 1), (229, .aload_n 0, 1), (230, .iload 4, 2), (232, .iconst 1, 1), (233, .iadd, 1), (234, .iaload, 1), (235, .aload_n 3, 1), (236, .invokestatic 95, 3), (239, .istore 5, 2), (241, .aload_n 2, 1), (242, .aload_n 0, 1), (243, .iload 4, 2), (245, .iconst 1, 1), (246, .iadd, 1), (247, .iaload, 1), (248, .invokevirtual 98, 3), (251, .istore 6, 2), (253, .goto 753, 3), (256, .aload_n 1, 1), (257, .aload_n 0, 1), (258, .iload 4, 2), (260, .iconst 1, 1), (261, .iadd, 1), (262, .iaload, 1), (263, .aload_n 0, 1), (264, .iload 4, 2), (266, .iconst 2, 1), (267, .iadd, 1), (268, .iaload, 1)]
def cL_2 : List (Nat × Instr × Nat) := [(269, .aload_n 0, 1), (270, .iload 4, 2), (272, .iconst 3, 1), (273, .iadd, 1), (274, .iaload, 1), (275, .aload_n 3, 1), (276, .invokestatic 99, 3), (279, .istore 5, 2), (281, .aload_n 2, 1), (282, .aload_n 0, 1), (283, .iload 4, 2), (285, .iconst 1, 1), (286, .iadd, 1), (287, .iaload, 1), (288, .aload_n 0, 1), (289, .iload 4, 2), (291, .iconst 2, 1), (292, .iadd, 1), (293, .iaload, 1), (294, .aload_n 0, 1), (295, .iload 4, 2), (297, .iconst 3, 1), (298, .iadd, 1), (299, .iaload, 1), (300, .invokevirtual 101, 3), (303, .istore 6, 2), (305, .goto 701, 3), (308, .aload_n 1, 1), (309, .aload_n 0, 1), (310, .iload 4, 2), (312, .iconst 1, 1), (313, .iadd, 1), (314, .iaload, 1), (315, .aload_n 3, 1), (316, .invokestatic 102, 3), (319, .istore 5, 2), (321, .aload_n 2, 1), (322, .aload_n 0, 1), (323, .iload 4, 2), (325, .iconst 1, 1), (326, .iadd, 1), (327, .iaload, 1), (328, .invokevirtual 104, 3), (331, .istore 6, 2), (333, .goto 673, 3), (336, .aload_n 1, 1), (337, .aload_n 0, 1), (338, .iload 4, 2), (340, .iconst 1, 1), (341, .iadd, 1), (342, .iaload, 1), (343, .aload_n 3, 1), (344, .invokestatic 105, 3), (347, .istore 5, 2), (349, .aload_n 2, 1), (350, .aload_n 0, 1), (351, .iload 4, 2), (353, .iconst 1, 1), (354, .iadd, 1), (355, .iaload, 1)]
def cL_3 : List (Nat × Instr × Nat) := [(356, .invokevirtual 107, 3), (359, .istore 6, 2), (361, .goto 645, 3), (364, .aload_n 1, 1), (365, .aload_n 0, 1), (366, .iload 4, 2), (368, .iconst 1, 1), (369, .iadd, 1), (370, .iaload, 1), (371, .aload_n 3, 1), (372, .invokestatic 108, 3), (375, .istore 5, 2), (377, .aload_n 2, 1), (378, .aload_n 0, 1), (379, .iload 4, 2), (381, .iconst 1, 1), (382, .iadd, 1), (383, .iaload, 1), (384, .invokevirtual 110, 3), (387, .istore 6, 2), (389, .goto 617, 3), (392, .aload_n 1, 1), (393, .aload_n 0, 1), (394, .iload 4, 2), (396, .iconst 1, 1), (397, .iadd, 1), (398, .iaload, 1), (399, .aload_n 3, 1), (400, .invokestatic 111, 3), (403, .istore 5, 2), (405, .aload_n 2, 1), (406, .aload_n 0, 1), (407, .iload 4, 2), (409, .iconst 1, 1), (410, .iadd, 1), (411, .iaload, 1), (412, .invokevirtual 113, 3), (415, .istore 6, 2), (417, .goto 589, 3), (420, .aload_n 1, 1), (421, .aload_n 0, 1), (422, .iload 4, 2), (424, .iconst 1, 1), (425, .iadd, 1), (426, .iaload, 1), (427, .aload_n 3, 1), (428, .invokestatic 114, 3), (431, .istore 5, 2), (433, .aload_n 2, 1), (434, .aload_n 0, 1), (435, .iload 4, 2), (437, .iconst 1, 1), (438, .iadd, 1), (439, .iaload, 1), (440, .invokevirtual 116, 3), (443, .istore 6, 2), (445, .goto 561, 3), (448, .aload_n 1, 1), (449, .aload_n 0, 1), (450, .iload 4, 2)]
def cL_4 : List (Nat × Instr × Nat) := [(452, .iconst 1, 1), (453, .iadd, 1), (454, .iaload, 1), (455, .aload_n 0, 1), (456, .iload 4, 2), (458, .iconst 2, 1), (459, .iadd, 1), (460, .iaload, 1), (461, .aload_n 0, 1), (462, .iload 4, 2), (464, .iconst 3, 1), (465, .iadd, 1), (466, .iaload, 1), (467, .ifCond .eq 7, 3), (470, .iconst 1, 1), (471, .goto 4, 3), (474, .iconst 0, 1), (475, .aload_n 3, 1), (476, .invokestatic 117, 3), (479, .istore 5, 2), (481, .aload_n 2, 1), (482, .aload_n 0, 1), (483, .iload 4, 2), (485, .iconst 1, 1), (486, .iadd, 1), (487, .iaload, 1), (488, .aload_n 0, 1), (489, .iload 4, 2), (491, .iconst 2, 1), (492, .iadd, 1), (493, .iaload, 1), (494, .aload_n 0, 1), (495, .iload 4, 2), (497, .iconst 3, 1), (498, .iadd, 1), (499, .iaload, 1), (500, .ifCond .eq 7, 3), (503, .iconst 1, 1), (504, .goto 4, 3), (507, .iconst 0, 1), (508, .invokevirtual 120, 3), (511, .istore 6, 2), (513, .aload_n 2, 1), (514, .invokevirtual 121, 3), (517, .iload 5, 2), (519, .if_icmp .eq 5, 3), (522, .iconst 0, 1), (523, .ireturn, 1), (524, .iload 5, 2), (526, .ifCond .ne 22, 3), (529, .aload_n 3, 1), (530, .iconst 0, 1), (531, .laload, 1), (532, .iload 6, 2), (534, .ifCond .eq 7, 3), (537, .lconst 1, 1), (538, .goto 4, 3), (541, .lconst 0, 1), (542, .lcmp, 1), (543, .ifCond .eq 5, 3)]
def cL_5 : List (Nat × Instr × Nat) := [(546, .iconst 0, 1), (547, .ireturn, 1), (548, .goto 458, 3), (551, .aload_n 1, 1), (552, .aload_n 0, 1), (553, .iload 4, 2), (555, .iconst 1, 1), (556, .iadd, 1), (557, .iaload, 1), (558, .aload_n 0, 1), (559, .iload 4, 2), (561, .iconst 2, 1), (562, .iadd, 1), (563, .iaload, 1), (564, .aload_n 3, 1), (565, .invokestatic 125, 3), (568, .istore 5, 2), (570, .aload_n 2, 1), (571, .aload_n 0, 1), (572, .iload 4, 2), (574, .iconst 1, 1), (575, .iadd, 1), (576, .iaload, 1), (577, .aload_n 0, 1), (578, .iload 4, 2), (580, .iconst 2, 1), (581, .iadd, 1), (582, .iaload, 1), (583, .invokevirtual 127, 3), (586, .istore 6, 2), (588, .goto 418, 3), (591, .aload_n 1, 1), (592, .aload_n 0, 1), (593, .iload 4, 2), (595, .iconst 1, 1), (596, .iadd, 1), (597, .iaload, 1), (598, .aload_n 0, 1), (599, .iload 4, 2), (601, .iconst 2, 1), (602, .iadd, 1), (603, .iaload, 1), (604, .aload_n 3, 1), (605, .invokestatic 128, 3), (608, .istore 5, 2), (610, .aload_n 2, 1), (611, .aload_n 0, 1), (612, .iload 4, 2), (614, .iconst 1, 1), (615, .iadd, 1), (616, .iaload, 1), (617, .aload_n 0, 1), (618, .iload 4, 2), (620, .iconst 2, 1), (621, .iadd, 1), (622, .iaload, 1), (623, .invokevirtual 130, 3), (626, .istore 6, 2), (628, .goto 378, 3), (631, .aload_n 1, 1)]
def cL_6 : List (Nat × Instr × Nat) := [(632, .aload_n 0, 1), (633, .iload 4, 2), (635, .iconst 1, 1), (636, .iadd, 1), (637, .iaload, 1), (638, .aload_n 0, 1), (639, .iload 4, 2), (641, .iconst 2, 1), (642, .iadd, 1), (643, .iaload, 1), (644, .aload_n 0, 1), (645, .iload 4, 2), (647, .iconst 3, 1), (648, .iadd, 1), (649, .iaload, 1), (650, .aload_n 3, 1), (651, .invokestatic 131, 3), (654, .istore 5, 2), (656, .aload_n 2, 1), (657, .aload_n 0, 1), (658, .iload 4, 2), (660, .iconst 1, 1), (661, .iadd, 1), (662, .iaload, 1), (663, .aload_n 0, 1), (664, .iload 4, 2), (666, .iconst 2, 1), (667, .iadd, 1), (668, .iaload, 1), (669, .aload_n 0, 1), (670, .iload 4, 2), (672, .iconst 3, 1), (673, .iadd, 1), (674, .iaload, 1), (675, .invokevirtual 133, 3), (678, .istore 6, 2), (680, .goto 326, 3), (683, .aload_n 1, 1), (684, .aload_n 0, 1), (685, .iload 4, 2), (687, .iconst 1, 1), (688, .iadd, 1), (689, .iaload, 1), (690, .aload_n 0, 1), (691, .iload 4, 2), (693, .iconst 2, 1), (694, .iadd, 1), (695, .iaload, 1), (696, .aload_n 3, 1), (697, .invokestatic 134, 3), (700, .istore 5, 2), (702, .aload_n 2, 1), (703, .aload_n 0, 1), (704, .iload 4, 2), (706, .iconst 1, 1), (707, .iadd, 1), (708, .iaload, 1), (709, .aload_n 0, 1), (710, .iload 4, 2), (712, .iconst 2, 1)]
def cL_7 : List (Nat × Instr × Nat) := [(713, .iadd, 1), (714, .iaload, 1), (715, .invokevirtual 136, 3), (718, .istore 6, 2), (720, .goto 286, 3), (723, .aload_n 1, 1), (724, .aload_n 0, 1), (725, .iload 4, 2), (727, .iconst 1, 1), (728, .iadd, 1), (729, .iaload, 1), (730, .aload_n 0, 1), (731, .iload 4, 2), (733, .iconst 2, 1), (734, .iadd, 1), (735, .iaload, 1), (736, .aload_n 0, 1), (737, .iload 4, 2), (739, .iconst 3, 1), (740, .iadd, 1), (741, .iaload, 1), (742, .ifCond .eq 7, 3), (745, .iconst 1, 1), (746, .goto 4, 3), (749, .iconst 0, 1), (750, .aload_n 3, 1), (751, .invokestatic 137, 3), (754, .istore 5, 2), (756, .aload_n 2, 1), (757, .aload_n 0, 1), (758, .iload 4, 2), (760, .iconst 1, 1), (761, .iadd, 1), (762, .iaload, 1), (763, .aload_n 0, 1), (764, .iload 4, 2), (766, .iconst 2, 1), (767, .iadd, 1), (768, .iaload, 1), (769, .aload_n 0, 1), (770, .iload 4, 2), (772, .iconst 3, 1), (773, .iadd, 1), (774, .iaload, 1), (775, .ifCond .eq 7, 3), (778, .iconst 1, 1), (779, .goto 4, 3), (782, .iconst 0, 1), (783, .invokevirtual 139, 3), (786, .istore 6, 2), (788, .goto 218, 3), (791, .aload_n 1, 1), (792, .aload_n 0, 1), (793, .iload 4, 2), (795, .iconst 1, 1), (796, .iadd, 1), (797, .iaload, 1), (798, .aload_n 0, 1), (799, .iload 4, 2), (801, .iconst 2, 1)]
def cL_8 : List (Nat × Instr × Nat) := [(802, .iadd, 1), (803, .iaload, 1), (804, .aload_n 3, 1), (805, .invokestatic 140, 3), (808, .istore 5, 2), (810, .aload_n 2, 1), (811, .aload_n 0, 1), (812, .iload 4, 2), (814, .iconst 1, 1), (815, .iadd, 1), (816, .iaload, 1), (817, .aload_n 0, 1), (818, .iload 4, 2), (820, .iconst 2, 1), (821, .iadd, 1), (822, .iaload, 1), (823, .invokevirtual 142, 3), (826, .istore 6, 2), (828, .goto 178, 3), (831, .aload_n 1, 1), (832, .aload_n 0, 1), (833, .iload 4, 2), (835, .iconst 1, 1), (836, .iadd, 1), (837, .iaload, 1), (838, .aload_n 0, 1), (839, .iload 4, 2), (841, .iconst 2, 1), (842, .iadd, 1), (843, .iaload, 1), (844, .aload_n 0, 1), (845, .iload 4, 2), (847, .iconst 3, 1), (848, .iadd, 1), (849, .iaload, 1), (850, .ifCond .eq 7, 3), (853, .iconst 1, 1), (854, .goto 4, 3), (857, .iconst 0, 1), (858, .aload_n 3, 1), (859, .invokestatic 143, 3), (862, .istore 5, 2), (864, .aload_n 2, 1), (865, .aload_n 0, 1), (866, .iload 4, 2), (868, .iconst 1, 1), (869, .iadd, 1), (870, .iaload, 1), (871, .aload_n 0, 1), (872, .iload 4, 2), (874, .iconst 2, 1), (875, .iadd, 1), (876, .iaload, 1), (877, .aload_n 0, 1), (878, .iload 4, 2), (880, .iconst 3, 1), (881, .iadd, 1), (882, .iaload, 1), (883, .ifCond .eq 7, 3), (886, .iconst 1, 1)]
def cL_9 : List (Nat × Instr × Nat) := [(887, .goto 4, 3), (890, .iconst 0, 1), (891, .invokevirtual 145, 3), (894, .istore 6, 2), (896, .goto 110, 3), (899, .aload_n 1, 1), (900, .aload_n 0, 1), (901, .iload 4, 2), (903, .iconst 1, 1), (904, .iadd, 1), (905, .iaload, 1), (906, .aload_n 0, 1), (907, .iload 4, 2), (909, .iconst 2, 1), (910, .iadd, 1), (911, .iaload, 1), (912, .aload_n 3, 1), (913, .invokestatic 146, 3), (916, .istore 5, 2), (918, .aload_n 2, 1), (919, .aload_n 0, 1), (920, .iload 4, 2), (922, .iconst 1, 1), (923, .iadd, 1), (924, .iaload, 1), (925, .aload_n 0, 1), (926, .iload 4, 2), (928, .iconst 2, 1), (929, .iadd, 1), (930, .iaload, 1), (931, .invokevirtual 148, 3), (934, .istore 6, 2), (936, .goto 70, 3), (939, .aload_n 1, 1), (940, .aload_n 0, 1), (941, .iload 4, 2), (943, .iconst 1, 1), (944, .iadd, 1), (945, .iaload, 1), (946, .aload_n 3, 1), (947, .invokestatic 149, 3), (950, .istore 5, 2), (952, .aload_n 2, 1), (953, .aload_n 0, 1), (954, .iload 4, 2), (956, .iconst 1, 1), (957, .iadd, 1), (958, .iaload, 1), (959, .invokevirtual 151, 3), (962, .istore 6, 2), (964, .goto 42, 3), (967, .aload_n 1, 1), (968, .aload_n 0, 1), (969, .iload 4, 2), (971, .iconst 1, 1), (972, .iadd, 1), (973, .iaload, 1), (974, .aload_n 3, 1), (975, .invokestatic 152, 3), (978, .istore 5, 2)]
def cL_10 : List (Nat × Instr × Nat) := [(980, .aload_n 2, 1), (981, .aload_n 0, 1), (982, .iload 4, 2), (984, .iconst 1, 1), (985, .iadd, 1), (986, .iaload, 1), (987, .invokevirtual 154, 3), (990, .istore 6, 2), (992, .goto 14, 3), (995, .aload_n 1, 1), (996, .invokevirtual 155, 3), (999, .aload_n 2, 1), (1000, .invokevirtual 158, 3), (1003, .goto 3, 3), (1006, .iinc 4 4, 3), (1009, .goto (-986), 3), (1012, .iconst 1, 1), (1013, .ireturn, 1)]
def M_L_law : MT := (my_L_law, code, 7, (some .boolean), [], (cL_0 ++ (cL_1 ++ (cL_2 ++ (cL_3 ++ (cL_4 ++ (cL_5 ++ (cL_6 ++ (cL_7 ++ (cL_8 ++ (cL_9 ++ (cL_10))))))))))), [], [(81, my_X11_init, 0, 2, 8, 891, 12941), (84, my_X12_init, 0, 2, 4, 59, 256151), (85, my_L_begin, 5, 1, 8, 4, 24), (90, my_X12_begin, 3, 22, 3, 0, 0), (91, my_L_propose, 4, 1, 5, 4, 24), (94, my_X12_propose, 2, 22, 4, 0, 0), (95, my_L_collect, 3, 1, 5, 4, 24), (98, my_X12_collect, 1, 22, 3, 0, 0), (99, my_L_reform, 5, 1, 7, 4, 24), (101, my_X12_reform, 3, 22, 3, 0, 0), (102, my_L_again, 3, 1, 6, 4, 24), (104, my_X12_again, 1, 22, 3, 0, 0), (105, my_L_deliver, 3, 1, 9, 4, 24), (107, my_X12_deliver, 1, 22, 8, 0, 0), (108, my_L_run, 3, 1, 9, 4, 24), (110, my_X12_run, 1, 22, 8, 0, 0), (111, my_L_lose, 3, 1, 4, 4, 24), (113, my_X12_lose, 1, 22, 2, 0, 0), (114, my_L_twice, 3, 1, 3, 4, 24), (116, my_X12_twice, 1, 22, 2, 0, 0), (117, my_L_up, 5, 1, 4, 4, 24), (120, my_X12_up, 3, 22, 2, 0, 0), (121, my_X12_thrown, 0, 22, 1, 0, 0), (125, my_L_message, 4, 1, 6, 4, 24), (127, my_X12_message, 2, 22, 2, 0, 0), (128, my_L_leader, 4, 1, 5, 4, 24), (130, my_X12_leader, 2, 22, 2, 0, 0), (131, my_L_slot, 5, 1, 4, 4, 24), (133, my_X12_slot, 3, 22, 2, 0, 0), (134, my_L_keeper, 4, 1, 5, 4, 24), (136, my_X12_keeper, 2, 22, 2, 0, 0), (137, my_L_entry, 5, 1, 4, 4, 24), (139, my_X12_entry, 3, 22, 2, 0, 0), (140, my_L_voter, 4, 1, 4, 4, 24), (142, my_X12_voter, 2, 22, 2, 0, 0), (143, my_L_vote, 5, 1, 3, 4, 24), (145, my_X12_vote, 3, 22, 2, 0, 0), (146, my_L_copy, 4, 1, 3, 4, 24), (148, my_X12_copy, 2, 22, 2, 0, 0), (149, my_L_agreed, 3, 1, 3, 4, 24), (151, my_X12_agreed, 1, 22, 2, 0, 0), (152, my_L_count, 3, 1, 3, 4, 24), (154, my_X12_count, 1, 22, 2, 0, 0), (155, my_X11_clear, 0, 21, 8, 0, 0), (158, my_X12_clear, 0, 22, 3, 0, 0)], [(8, 11), (82, 12)], [], [118, 119, 85, 1510, 1511, 114, 961, 962, 84, 1743, 1744, 1745, 114, 1042, 1043, 84, 1768, 1769, 1770, 114, 1062, 1063, 84, 1777, 1778, 1779, 114, 1085, 1086, 84, 1785, 1786, 1787, 114, 1114, 1115, 84, 1789, 1790, 1791, 114, 1142, 1143, 84, 1805, 1806, 1807, 114, 1362, 1363, 84, 1946, 1947, 1948, 114, 1370, 1371, 84, 1950, 1951, 1952, 114, 1377, 1378, 84, 1954, 1955, 1956, 114, 1391, 1392, 84, 1958, 1959, 1960, 114, 1738, 1739, 1740, 114, 1398, 1399, 84, 1965, 1966, 1967, 114, 1417, 1418, 84, 1969, 1970, 1971, 114, 1433, 1434, 84, 1977, 1978, 1979, 114, 1444, 1445, 84, 1981, 1982, 1983, 114, 1455, 1456, 84, 1985, 1986, 1987, 114, 1466, 1467, 84, 1989, 1990, 1991, 114, 1478, 1479, 84, 1993, 1994, 1995, 114, 1487, 1488, 84, 1997, 1998, 1999, 114, 1494, 1495, 84, 2001, 2002, 2003, 114, 1501, 1502, 84, 2005, 2006, 2007, 114, 957, 958, 959, 85, 1742, 1516, 1517, 114, 116, 117, 85, 1508, 1509, 114])
theorem okL_d0 : cL_0.all (fun q => decide (decode (mt_b M_L_law) q.1 = .ok (q.2.1, q.2.2))) = true := by decide +kernel
theorem okL_i0 : cL_0.all (fun q => mt_io M_L_law q.2.1) = true := by decide +kernel
theorem okL_d1 : cL_1.all (fun q => decide (decode (mt_b M_L_law) q.1 = .ok (q.2.1, q.2.2))) = true := by decide +kernel
theorem okL_i1 : cL_1.all (fun q => mt_io M_L_law q.2.1) = true := by decide +kernel
theorem okL_d2 : cL_2.all (fun q => decide (decode (mt_b M_L_law) q.1 = .ok (q.2.1, q.2.2))) = true := by decide +kernel
theorem okL_i2 : cL_2.all (fun q => mt_io M_L_law q.2.1) = true := by decide +kernel
theorem okL_d3 : cL_3.all (fun q => decide (decode (mt_b M_L_law) q.1 = .ok (q.2.1, q.2.2))) = true := by decide +kernel
theorem okL_i3 : cL_3.all (fun q => mt_io M_L_law q.2.1) = true := by decide +kernel
theorem okL_d4 : cL_4.all (fun q => decide (decode (mt_b M_L_law) q.1 = .ok (q.2.1, q.2.2))) = true := by decide +kernel
theorem okL_i4 : cL_4.all (fun q => mt_io M_L_law q.2.1) = true := by decide +kernel
theorem okL_d5 : cL_5.all (fun q => decide (decode (mt_b M_L_law) q.1 = .ok (q.2.1, q.2.2))) = true := by decide +kernel
theorem okL_i5 : cL_5.all (fun q => mt_io M_L_law q.2.1) = true := by decide +kernel
theorem okL_d6 : cL_6.all (fun q => decide (decode (mt_b M_L_law) q.1 = .ok (q.2.1, q.2.2))) = true := by decide +kernel
theorem okL_i6 : cL_6.all (fun q => mt_io M_L_law q.2.1) = true := by decide +kernel
theorem okL_d7 : cL_7.all (fun q => decide (decode (mt_b M_L_law) q.1 = .ok (q.2.1, q.2.2))) = true := by decide +kernel
theorem okL_i7 : cL_7.all (fun q => mt_io M_L_law q.2.1) = true := by decide +kernel
theorem okL_d8 : cL_8.all (fun q => decide (decode (mt_b M_L_law) q.1 = .ok (q.2.1, q.2.2))) = true := by decide +kernel
theorem okL_i8 : cL_8.all (fun q => mt_io M_L_law q.2.1) = true := by decide +kernel
theorem okL_d9 : cL_9.all (fun q => decide (decode (mt_b M_L_law) q.1 = .ok (q.2.1, q.2.2))) = true := by decide +kernel
theorem okL_i9 : cL_9.all (fun q => mt_io M_L_law q.2.1) = true := by decide +kernel
theorem okL_d10 : cL_10.all (fun q => decide (decode (mt_b M_L_law) q.1 = .ok (q.2.1, q.2.2))) = true := by decide +kernel
theorem okL_i10 : cL_10.all (fun q => mt_io M_L_law q.2.1) = true := by decide +kernel
theorem okL_n : decide (mt_need M_L_law = (mt_x M_L_law).filterMap (fun i => lw_tbl[i]?)) = true := by decide +kernel
theorem okL_r : ((mt_need M_L_law).all goodWord && (mt_f M_L_law).all (fun q => decide (q.2.1 < 13 ∧ q.2.2 < cx_N q.2.1)) && (mt_m M_L_law).all (fun q => decide ((q.2.2.2.1 < 10 ∨ (q.2.2.2.1 < 23 ∧ q.2.1.cls = cx_R (q.2.2.2.1 - 10))) ∧ q.2.1.cls ≠ "java/lang/invoke/MethodHandle" ∧ q.2.1.cls ≠ "java/lang/invoke/VarHandle" ∧ (parseMethodDescriptor q.2.1.desc).map (fun d => d.parameters.length) = some q.2.2.1)) && decide (mt_l M_L_law ≤ 40) && plainName (mt_y M_L_law).cls) = true := by decide +kernel
theorem okL_dd : (mt_c M_L_law).all (fun q => decide (decode (mt_b M_L_law) q.1 = .ok (q.2.1, q.2.2))) = true := by
  show List.all (cL_0 ++ (cL_1 ++ (cL_2 ++ (cL_3 ++ (cL_4 ++ (cL_5 ++ (cL_6 ++ (cL_7 ++ (cL_8 ++ (cL_9 ++ (cL_10))))))))))) _ = true
  rw [List.all_append, List.all_append, List.all_append, List.all_append, List.all_append, List.all_append, List.all_append, List.all_append, List.all_append, List.all_append, okL_d0, okL_d1, okL_d2, okL_d3, okL_d4, okL_d5, okL_d6, okL_d7, okL_d8, okL_d9, okL_d10]
  rfl
theorem okL_ii : (mt_c M_L_law).all (fun q => mt_io M_L_law q.2.1) = true := by
  show List.all (cL_0 ++ (cL_1 ++ (cL_2 ++ (cL_3 ++ (cL_4 ++ (cL_5 ++ (cL_6 ++ (cL_7 ++ (cL_8 ++ (cL_9 ++ (cL_10))))))))))) _ = true
  rw [List.all_append, List.all_append, List.all_append, List.all_append, List.all_append, List.all_append, List.all_append, List.all_append, List.all_append, List.all_append, okL_i0, okL_i1, okL_i2, okL_i3, okL_i4, okL_i5, okL_i6, okL_i7, okL_i8, okL_i9, okL_i10]
  rfl
theorem ok_L_law : mt_ok M_L_law = true := by
  have h := okL_r
  simp only [Bool.and_eq_true] at h
  unfold mt_ok
  simp only [Bool.and_eq_true]
  exact ⟨⟨⟨⟨⟨⟨⟨okL_ii, okL_dd⟩, okL_n⟩, h.1.1.1.1⟩, h.1.1.1.2⟩, h.1.1.2⟩, h.1.2⟩, h.2⟩
end
section
/-! ===== records of methods ===== -/
end
section
/-! ===== the library's fills ===== -/
theorem lp_fill {G : GE} {d mc ms a N : Nat} {v : Int32} {g : GT} {Q : RT → GT → Prop} (hk : gx_K g a = 50) (hN : gx_N g a = N) (hb : N < 2 ^ 31) (hq : Q (.inl none) (px_F g a 0 N v)) :
    ∀ n i : Nat, i + n = N → ex_W G d mc ms M_J7_fill_53178 5 [(0, .ref a), (1, .int v), (2, .int (nI i)), (3, .int (nI N))] [] (px_F g a 0 i v) Q := by
  intro n
  induction n with
  | zero =>
    intro i hi
    obtain rfl : i = N := by omega
    refine ex_iload_n ok_J7_fill_53178 (mi 5 rfl) rfl ?_
    refine ex_iload_n ok_J7_fill_53178 (mi 6 rfl) rfl ?_
    refine ex_icmp_ge (tgt := 20) ok_J7_fill_53178 (mi 7 rfl) rfl (fun h7 => ?_) (fun h7 => False.elim (h7 (nI_le (Nat.le_refl _) hb)))
    refine ex_vret ok_J7_fill_53178 (mi 14 rfl) rfl ?_
    exact hq
  | succ n ih =>
    intro i hi
    refine ex_iload_n ok_J7_fill_53178 (mi 5 rfl) rfl ?_
    refine ex_iload_n ok_J7_fill_53178 (mi 6 rfl) rfl ?_
    refine ex_icmp_ge (tgt := 20) ok_J7_fill_53178 (mi 7 rfl) rfl (fun h7 => False.elim (nI_ge (by omega) hb h7)) (fun h7 => ?_)
    refine ex_aload_n ok_J7_fill_53178 (mi 8 rfl) rfl ?_
    refine ex_iload_n ok_J7_fill_53178 (mi 9 rfl) rfl ?_
    refine ex_iload_n ok_J7_fill_53178 (mi 10 rfl) rfl ?_
    refine ex_iast ok_J7_fill_53178 (mi 11 rfl) hk (by rw [show gx_N (px_F g a 0 i v) a = N from hN]; exact vp_in_nI (by omega) hb) ?_
    refine ex_iinc ok_J7_fill_53178 (mi 12 rfl) rfl ?_
    refine ex_goto (tgt := 5) ok_J7_fill_53178 (mi 13 rfl) rfl ?_
    rw [nI_clamp (by omega), px_F_s _ _ _ _ _ (Nat.zero_le _)]
    exact ex_ls (ls' := [(0, .ref a), (1, .int v), (2, .int (nI (i + 1))), (3, .int (nI N))]) ⟨rfl, rfl, by rw [nI_succ]; rfl, rfl, trivial⟩ (ih (i + 1) (by omega))
theorem m_J7_fill_53178 {G : GE} (hst : (ge_l G).stackTraces = false) {d mc ms a N : Nat} {v : Int32} {g : GT} (hk : gx_K g a = 50) (hN : gx_N g a = N) (hb : N < 2 ^ 31) : ex_M G d mc ms my_J7_fill_53178 [.ref a, .int v] g (rv none (px_F g a 0 N v)) := by
  refine ex_M_of ok_J7_fill_53178 cw_J7_fill_53178 rfl hst (Nat.le_of_ble_eq_true rfl) ?_
  refine ex_iconst ok_J7_fill_53178 (mi 0 rfl) ?_
  refine ex_istore_n ok_J7_fill_53178 (mi 1 rfl) ?_
  refine ex_aload_n ok_J7_fill_53178 (mi 2 rfl) rfl ?_
  refine ex_alen ok_J7_fill_53178 (mi 3 rfl) (Or.inl hk) ?_
  rw [hN]
  refine ex_istore_n ok_J7_fill_53178 (mi 4 rfl) ?_
  have h := lp_fill (G := G) (d := d) (mc := mc) (ms := ms) (v := v) (Q := rv none (px_F g a 0 N v)) hk hN hb ⟨rfl, rfl⟩ N 0 (Nat.zero_add N)
  rw [px_F_0] at h
  exact ex_ls (ls' := [(0, .ref a), (1, .int v), (2, .int (nI 0)), (3, .int (nI N))]) ⟨rfl, rfl, rfl, rfl, trivial⟩ h
end
section
/-! ===== the library's fills of longs and of stretches; the resets, exact ===== -/
theorem lp_fillL {G : GE} {d mc ms a N : Nat} {v : Int64} {g : GT} {Q : RT → GT → Prop} (hk : gx_K g a = 51) (hN : gx_N g a = N) (hb : N < 2 ^ 31) (hq : Q (.inl none) (px_FL g a 0 N v)) :
    ∀ n i : Nat, i + n = N → ex_W G d mc ms M_J7_fill_d0a16 6 [(0, .ref a), (1, .long v), (3, .int (nI i)), (4, .int (nI N))] [] (px_FL g a 0 i v) Q := by
  intro n
  induction n with
  | zero =>
    intro i hi
    obtain rfl : i = N := by omega
    refine ex_iload_n ok_J7_fill_d0a16 (mi 5 rfl) rfl ?_
    refine ex_iload ok_J7_fill_d0a16 (mi 6 rfl) rfl ?_
    refine ex_icmp_ge (tgt := 22) ok_J7_fill_d0a16 (mi 7 rfl) rfl (fun h9 => ?_) (fun h9 => False.elim (h9 (nI_le (Nat.le_refl _) hb)))
    refine ex_vret ok_J7_fill_d0a16 (mi 14 rfl) rfl ?_
    exact hq
  | succ n ih =>
    intro i hi
    refine ex_iload_n ok_J7_fill_d0a16 (mi 5 rfl) rfl ?_
    refine ex_iload ok_J7_fill_d0a16 (mi 6 rfl) rfl ?_
    refine ex_icmp_ge (tgt := 22) ok_J7_fill_d0a16 (mi 7 rfl) rfl (fun h9 => False.elim (nI_ge (by omega) hb h9)) (fun h9 => ?_)
    refine ex_aload_n ok_J7_fill_d0a16 (mi 8 rfl) rfl ?_
    refine ex_iload_n ok_J7_fill_d0a16 (mi 9 rfl) rfl ?_
    refine ex_lload_n ok_J7_fill_d0a16 (mi 10 rfl) rfl ?_
    refine ex_last ok_J7_fill_d0a16 (mi 11 rfl) hk (by rw [show gx_N (px_FL g a 0 i v) a = N from hN]; exact vp_in_nI (by omega) hb) ?_
    refine ex_iinc ok_J7_fill_d0a16 (mi 12 rfl) rfl ?_
    refine ex_goto (tgt := 6) ok_J7_fill_d0a16 (mi 13 rfl) rfl ?_
    rw [nI_clamp (by omega), px_FL_s _ _ _ _ _ (Nat.zero_le _)]
    exact ex_ls (ls' := [(0, .ref a), (1, .long v), (3, .int (nI (i + 1))), (4, .int (nI N))]) ⟨rfl, rfl, by rw [nI_succ]; rfl, rfl, trivial⟩ (ih (i + 1) (by omega))
theorem m_J7_fill_d0a16 {G : GE} (hst : (ge_l G).stackTraces = false) {a N : Nat} {v : Int64} {g : GT} (hk : gx_K g a = 51) (hN : gx_N g a = N) (hb : N < 2 ^ 31) : ex_M G 1 0 0 my_J7_fill_d0a16 [.ref a, .long v] g (rv none (px_FL g a 0 N v)) := by
  refine ex_M_of ok_J7_fill_d0a16 cw_J7_fill_d0a16 rfl hst (Nat.le_of_ble_eq_true rfl) ?_
  refine ex_iconst ok_J7_fill_d0a16 (mi 0 rfl) ?_
  refine ex_istore_n ok_J7_fill_d0a16 (mi 1 rfl) ?_
  refine ex_aload_n ok_J7_fill_d0a16 (mi 2 rfl) rfl ?_
  refine ex_alen ok_J7_fill_d0a16 (mi 3 rfl) (Or.inr (Or.inl hk)) ?_
  rw [hN]
  refine ex_istore ok_J7_fill_d0a16 (mi 4 rfl) ?_
  have h := lp_fillL (G := G) (d := 1) (mc := 0) (ms := 0) (v := v) (Q := rv none (px_FL g a 0 N v)) hk hN hb ⟨rfl, rfl⟩ N 0 (Nat.zero_add N)
  rw [px_FL_0] at h
  exact ex_ls (ls' := [(0, .ref a), (1, .long v), (3, .int (nI 0)), (4, .int (nI N))]) ⟨rfl, rfl, rfl, rfl, trivial⟩ h
theorem m_J7_rangeCheck_23922 {G : GE} (hst : (ge_l G).stackTraces = false) {N lo hi : Nat} {g : GT} (h1 : lo ≤ hi) (h2 : hi ≤ N) (hb : N < 2 ^ 31) : ex_M G 1 0 0 my_J7_rangeCheck_23922 [.int (nI N), .int (nI lo), .int (nI hi)] g (rv none g) := by
  refine ex_M_of ok_J7_rangeCheck_23922 cw_J7_rangeCheck_23922 rfl hst (Nat.le_of_ble_eq_true rfl) ?_
  refine ex_iload_n ok_J7_rangeCheck_23922 (mi 0 rfl) rfl ?_
  refine ex_iload_n ok_J7_rangeCheck_23922 (mi 1 rfl) rfl ?_
  refine ex_icmp_le (tgt := 46) ok_J7_rangeCheck_23922 (mi 2 rfl) rfl (fun h9 => ?_) (fun h9 => False.elim (h9 (nI_le h1 (by omega))))
  refine ex_iload_n ok_J7_rangeCheck_23922 (mi 3 rfl) rfl ?_
  refine ex_if_ge (tgt := 59) ok_J7_rangeCheck_23922 (mi 4 rfl) rfl (fun h47 => ?_) (fun h47 => False.elim (h47 (nI_pos' (by omega))))
  refine ex_iload_n ok_J7_rangeCheck_23922 (mi 5 rfl) rfl ?_
  refine ex_iload_n ok_J7_rangeCheck_23922 (mi 6 rfl) rfl ?_
  refine ex_icmp_le (tgt := 73) ok_J7_rangeCheck_23922 (mi 7 rfl) rfl (fun h61 => ?_) (fun h61 => False.elim (h61 (nI_le h2 hb)))
  refine ex_vret ok_J7_rangeCheck_23922 (mi 8 rfl) rfl ?_
  exact ⟨rfl, rfl⟩
theorem lp_fillR {G : GE} {d mc ms a N lo hi : Nat} {v : Int32} {g : GT} {Q : RT → GT → Prop} (hk : gx_K g a = 50) (hN : gx_N g a = N) (h2 : hi ≤ N) (hb : N < 2 ^ 31) (hq : Q (.inl none) (px_F g a lo hi v)) :
    ∀ n i : Nat, i + n = hi → lo ≤ i → ex_W G d mc ms M_J7_fill_fda19 10 [(0, .ref a), (2, .int (nI hi)), (3, .int v), (4, .int (nI i))] [] (px_F g a lo i v) Q := by
  intro n
  induction n with
  | zero =>
    intro i hi0 hlo
    obtain rfl : i = hi := by omega
    refine ex_iload ok_J7_fill_fda19 (mi 7 rfl) rfl ?_
    refine ex_iload_n ok_J7_fill_fda19 (mi 8 rfl) rfl ?_
    refine ex_icmp_ge (tgt := 27) ok_J7_fill_fda19 (mi 9 rfl) rfl (fun h13 => ?_) (fun h13 => False.elim (h13 (nI_le (Nat.le_refl _) (by omega))))
    refine ex_vret ok_J7_fill_fda19 (mi 16 rfl) rfl ?_
    exact hq
  | succ n ih =>
    intro i hi0 hlo
    refine ex_iload ok_J7_fill_fda19 (mi 7 rfl) rfl ?_
    refine ex_iload_n ok_J7_fill_fda19 (mi 8 rfl) rfl ?_
    refine ex_icmp_ge (tgt := 27) ok_J7_fill_fda19 (mi 9 rfl) rfl (fun h13 => False.elim (nI_ge (by omega) (by omega) h13)) (fun h13 => ?_)
    refine ex_aload_n ok_J7_fill_fda19 (mi 10 rfl) rfl ?_
    refine ex_iload ok_J7_fill_fda19 (mi 11 rfl) rfl ?_
    refine ex_iload_n ok_J7_fill_fda19 (mi 12 rfl) rfl ?_
    refine ex_iast ok_J7_fill_fda19 (mi 13 rfl) hk (by rw [show gx_N (px_F g a lo i v) a = N from hN]; exact vp_in_nI (by omega) hb) ?_
    refine ex_iinc ok_J7_fill_fda19 (mi 14 rfl) rfl ?_
    refine ex_goto (tgt := 10) ok_J7_fill_fda19 (mi 15 rfl) rfl ?_
    rw [nI_clamp (by omega), px_F_s _ _ _ _ _ hlo]
    exact ex_ls (ls' := [(0, .ref a), (2, .int (nI hi)), (3, .int v), (4, .int (nI (i + 1)))]) ⟨rfl, rfl, rfl, by rw [nI_succ]; rfl, trivial⟩ (ih (i + 1) (by omega) (by omega))
theorem m_J7_fill_fda19 {G : GE} (hst : (ge_l G).stackTraces = false) {a N lo hi : Nat} {v : Int32} {g : GT} (hk : gx_K g a = 50) (hN : gx_N g a = N) (h1 : lo ≤ hi) (h2 : hi ≤ N) (hb : N < 2 ^ 31) : ex_M G 2 0 0 my_J7_fill_fda19 [.ref a, .int (nI lo), .int (nI hi), .int v] g (rv none (px_F g a lo hi v)) := by
  refine ex_M_of ok_J7_fill_fda19 cw_J7_fill_fda19 rfl hst (Nat.le_of_ble_eq_true rfl) ?_
  refine ex_aload_n ok_J7_fill_fda19 (mi 0 rfl) rfl ?_
  refine ex_alen ok_J7_fill_fda19 (mi 1 rfl) (Or.inl hk) ?_
  rw [hN]
  refine ex_iload_n ok_J7_fill_fda19 (mi 2 rfl) rfl ?_
  refine ex_iload_n ok_J7_fill_fda19 (mi 3 rfl) rfl ?_
  refine ex_callSr ok_J7_fill_fda19 (mi 4 rfl) rfl (m_J7_rangeCheck_23922 hst h1 h2 hb) rfl rfl rfl (by decide) (Nat.le_of_ble_eq_true rfl) (by decide) ?_
  refine ex_iload_n ok_J7_fill_fda19 (mi 5 rfl) rfl ?_
  refine ex_istore ok_J7_fill_fda19 (mi 6 rfl) ?_
  have h := lp_fillR (G := G) (d := 2) (mc := 0) (ms := 0) (v := v) (Q := rv none (px_F g a lo hi v)) hk hN h2 hb ⟨rfl, rfl⟩ (hi - lo) lo (by omega) (Nat.le_refl _)
  rw [px_F_0] at h
  exact ex_ls (ls' := [(0, .ref a), (2, .int (nI hi)), (3, .int v), (4, .int (nI lo))]) ⟨rfl, rfl, rfl, rfl, trivial⟩ h
end
section
/-! ===== the resets, exact ===== -/
theorem m_X7_empty {G : GE} (hst : (ge_l G).stackTraces = false) {a N : Nat} {g : GT} (hk : gx_K g a = 50) (hN : gx_N g a = N) (hb : N < 2 ^ 31) (h10 : 10 ≤ N) : ex_M G 3 0 0 my_X7_empty [.ref a] g (rv none (px_F g a 0 10 0)) := by
  refine ex_M_of ok_X7_empty cw_X7_empty rfl hst (Nat.le_of_ble_eq_true rfl) ?_
  refine ex_aload_n ok_X7_empty (mi 0 rfl) rfl ?_
  refine ex_iconst ok_X7_empty (mi 1 rfl) ?_
  refine ex_bipush ok_X7_empty (mi 2 rfl) ?_
  refine ex_iconst ok_X7_empty (mi 3 rfl) ?_
  refine ex_callSr ok_X7_empty (mi 4 rfl) rfl (m_J7_fill_fda19 (lo := 0) (hi := 10) (v := 0) hst hk hN (by omega) h10 hb) rfl rfl rfl (by decide) (Nat.le_of_ble_eq_true rfl) (by decide) ?_
  refine ex_vret ok_X7_empty (mi 5 rfl) rfl ?_
  exact ⟨rfl, rfl⟩
def F_X1_reset (g : GT) (a : Nat) : GT := (px_I (px_I (px_I (px_I (px_I (px_I g 100 a 0) 101 a 0) 102 a 0) 103 a 0) 104 a 0) 105 a 0)
theorem sq_X1_reset (g : GT) (a : Nat) : sq g (F_X1_reset g a) := by
  unfold F_X1_reset
  exact (sqI (sqI (sqI (sqI (sqI (sqI sq0))))))
theorem m_X1_reset {G : GE} (hst : (ge_l G).stackTraces = false) {a : Nat} {g : GT} (h : sh T1 g a) : ex_M G 1 0 0 my_X1_reset [.ref a] g (rv none (F_X1_reset g a)) := by
  refine ex_M_of ok_X1_reset cw_X1_reset rfl hst (Nat.le_of_ble_eq_true rfl) ?_
  refine ex_aload_n ok_X1_reset (mi 0 rfl) rfl ?_
  refine ex_iconst ok_X1_reset (mi 1 rfl) ?_
  refine ex_putI ok_X1_reset (mi 2 rfl) rfl (sh_k h 0 rfl) rfl ?_
  refine ex_aload_n ok_X1_reset (mi 3 rfl) rfl ?_
  refine ex_iconst ok_X1_reset (mi 4 rfl) ?_
  refine ex_putI ok_X1_reset (mi 5 rfl) rfl (kq (sqI sq0) (sh_k h 0 rfl)) rfl ?_
  refine ex_aload_n ok_X1_reset (mi 6 rfl) rfl ?_
  refine ex_iconst ok_X1_reset (mi 7 rfl) ?_
  refine ex_putI ok_X1_reset (mi 8 rfl) rfl (kq (sqI (sqI sq0)) (sh_k h 0 rfl)) rfl ?_
  refine ex_aload_n ok_X1_reset (mi 9 rfl) rfl ?_
  refine ex_iconst ok_X1_reset (mi 10 rfl) ?_
  refine ex_putI ok_X1_reset (mi 11 rfl) rfl (kq (sqI (sqI (sqI sq0))) (sh_k h 0 rfl)) rfl ?_
  refine ex_aload_n ok_X1_reset (mi 12 rfl) rfl ?_
  refine ex_iconst ok_X1_reset (mi 13 rfl) ?_
  refine ex_putI ok_X1_reset (mi 14 rfl) rfl (kq (sqI (sqI (sqI (sqI sq0)))) (sh_k h 0 rfl)) rfl ?_
  refine ex_aload_n ok_X1_reset (mi 15 rfl) rfl ?_
  refine ex_iconst ok_X1_reset (mi 16 rfl) ?_
  refine ex_putI ok_X1_reset (mi 17 rfl) rfl (kq (sqI (sqI (sqI (sqI (sqI sq0))))) (sh_k h 0 rfl)) rfl ?_
  refine ex_vret ok_X1_reset (mi 18 rfl) rfl ?_
  exact ⟨rfl, rfl⟩
def F_X0_reset (g : GT) (a : Nat) : GT := (px_I (px_I (px_I (px_I g 3 a 0) 4 a 0) 5 a 0) 6 a 0)
theorem sq_X0_reset (g : GT) (a : Nat) : sq g (F_X0_reset g a) := by
  unfold F_X0_reset
  exact (sqI (sqI (sqI (sqI sq0))))
theorem m_X0_reset {G : GE} (hst : (ge_l G).stackTraces = false) {a : Nat} {g : GT} (h : gx_K g a = 1) : ex_M G 1 0 0 my_X0_reset [.ref a] g (rv none (F_X0_reset g a)) := by
  refine ex_M_of ok_X0_reset cw_X0_reset rfl hst (Nat.le_of_ble_eq_true rfl) ?_
  refine ex_aload_n ok_X0_reset (mi 0 rfl) rfl ?_
  refine ex_iconst ok_X0_reset (mi 1 rfl) ?_
  refine ex_putI ok_X0_reset (mi 2 rfl) rfl h rfl ?_
  refine ex_aload_n ok_X0_reset (mi 3 rfl) rfl ?_
  refine ex_iconst ok_X0_reset (mi 4 rfl) ?_
  refine ex_putI ok_X0_reset (mi 5 rfl) rfl (kq (sqI sq0) h) rfl ?_
  refine ex_aload_n ok_X0_reset (mi 6 rfl) rfl ?_
  refine ex_iconst ok_X0_reset (mi 7 rfl) ?_
  refine ex_putI ok_X0_reset (mi 8 rfl) rfl (kq (sqI (sqI sq0)) h) rfl ?_
  refine ex_aload_n ok_X0_reset (mi 9 rfl) rfl ?_
  refine ex_iconst ok_X0_reset (mi 10 rfl) ?_
  refine ex_putI ok_X0_reset (mi 11 rfl) rfl (kq (sqI (sqI (sqI sq0))) h) rfl ?_
  refine ex_vret ok_X0_reset (mi 12 rfl) rfl ?_
  exact ⟨rfl, rfl⟩
def F_X2_reset (g : GT) (a : Nat) : GT := (px_I (px_F g (a + 1) 0 48 (-1)) 202 a 0)
theorem sq_X2_reset (g : GT) (a : Nat) : sq g (F_X2_reset g a) := by
  unfold F_X2_reset
  exact (sqI (sqF sq0))
theorem m_X2_reset {G : GE} (hst : (ge_l G).stackTraces = false) {a : Nat} {g : GT} (h : sh T2 g a) : ex_M G 2 0 0 my_X2_reset [.ref a] g (rv none (F_X2_reset g a)) := by
  refine ex_M_of ok_X2_reset cw_X2_reset rfl hst (Nat.le_of_ble_eq_true rfl) ?_
  refine ex_aload_n ok_X2_reset (mi 0 rfl) rfl ?_
  refine ex_getRx ok_X2_reset (mi 1 rfl) rfl rfl (sh_k h 0 rfl) (rq sq0 (sh_r h 0 rfl)) (sh_k h 1 rfl) (by decide) ?_
  refine ex_iconst ok_X2_reset (mi 2 rfl) ?_
  refine ex_callSr ok_X2_reset (mi 3 rfl) rfl (m_J7_fill_53178 hst (kq sq0 (sh_k h 1 rfl)) (nq sq0 (sh_n h 1 rfl)) (by decide)) rfl rfl rfl (by decide) (Nat.le_of_ble_eq_true rfl) (by decide) ?_
  refine ex_aload_n ok_X2_reset (mi 4 rfl) rfl ?_
  refine ex_iconst ok_X2_reset (mi 5 rfl) ?_
  refine ex_putI ok_X2_reset (mi 6 rfl) rfl (kq (sqF sq0) (sh_k h 0 rfl)) rfl ?_
  refine ex_vret ok_X2_reset (mi 7 rfl) rfl ?_
  exact ⟨rfl, rfl⟩
def F_X3_forgetReform (g : GT) (a : Nat) : GT := (px_I (px_I (px_I (px_I g 308 a (-1)) 309 a (-1)) 310 a 0) 311 a 0)
theorem sq_X3_forgetReform (g : GT) (a : Nat) : sq g (F_X3_forgetReform g a) := by
  unfold F_X3_forgetReform
  exact (sqI (sqI (sqI (sqI sq0))))
theorem m_X3_forgetReform {G : GE} (hst : (ge_l G).stackTraces = false) {a : Nat} {g : GT} (h : sh T3 g a) : ex_M G 1 0 0 my_X3_forgetReform [.ref a] g (rv none (F_X3_forgetReform g a)) := by
  refine ex_M_of ok_X3_forgetReform cw_X3_forgetReform rfl hst (Nat.le_of_ble_eq_true rfl) ?_
  refine ex_aload_n ok_X3_forgetReform (mi 0 rfl) rfl ?_
  refine ex_iconst ok_X3_forgetReform (mi 1 rfl) ?_
  refine ex_putI ok_X3_forgetReform (mi 2 rfl) rfl (sh_k h 0 rfl) rfl ?_
  refine ex_aload_n ok_X3_forgetReform (mi 3 rfl) rfl ?_
  refine ex_iconst ok_X3_forgetReform (mi 4 rfl) ?_
  refine ex_putI ok_X3_forgetReform (mi 5 rfl) rfl (kq (sqI sq0) (sh_k h 0 rfl)) rfl ?_
  refine ex_aload_n ok_X3_forgetReform (mi 6 rfl) rfl ?_
  refine ex_iconst ok_X3_forgetReform (mi 7 rfl) ?_
  refine ex_putI ok_X3_forgetReform (mi 8 rfl) rfl (kq (sqI (sqI sq0)) (sh_k h 0 rfl)) rfl ?_
  refine ex_aload_n ok_X3_forgetReform (mi 9 rfl) rfl ?_
  refine ex_iconst ok_X3_forgetReform (mi 10 rfl) ?_
  refine ex_putI ok_X3_forgetReform (mi 11 rfl) rfl (kq (sqI (sqI (sqI sq0))) (sh_k h 0 rfl)) rfl ?_
  refine ex_vret ok_X3_forgetReform (mi 12 rfl) rfl ?_
  exact ⟨rfl, rfl⟩
def F_X4_forget (g : GT) (a : Nat) : GT := (px_I (px_I (px_F (px_I (px_I g 407 a 0) 408 a 0) (a + 1) 0 10 0) 410 a (-1)) 411 a 0)
theorem sq_X4_forget (g : GT) (a : Nat) : sq g (F_X4_forget g a) := by
  unfold F_X4_forget
  exact (sqI (sqI (sqF (sqI (sqI sq0)))))
theorem m_X4_forget {G : GE} (hst : (ge_l G).stackTraces = false) {a : Nat} {g : GT} (h : sh T4 g a) : ex_M G 4 0 0 my_X4_forget [.ref a] g (rv none (F_X4_forget g a)) := by
  refine ex_M_of ok_X4_forget cw_X4_forget rfl hst (Nat.le_of_ble_eq_true rfl) ?_
  refine ex_aload_n ok_X4_forget (mi 0 rfl) rfl ?_
  refine ex_iconst ok_X4_forget (mi 1 rfl) ?_
  refine ex_putI ok_X4_forget (mi 2 rfl) rfl (sh_k h 0 rfl) rfl ?_
  refine ex_aload_n ok_X4_forget (mi 3 rfl) rfl ?_
  refine ex_iconst ok_X4_forget (mi 4 rfl) ?_
  refine ex_putI ok_X4_forget (mi 5 rfl) rfl (kq (sqI sq0) (sh_k h 0 rfl)) rfl ?_
  refine ex_aload_n ok_X4_forget (mi 6 rfl) rfl ?_
  refine ex_getRx ok_X4_forget (mi 7 rfl) rfl rfl (kq (sqI (sqI sq0)) (sh_k h 0 rfl)) (rq (sqI (sqI sq0)) (sh_r h 0 rfl)) (kq (sqI (sqI sq0)) (sh_k h 1 rfl)) (by decide) ?_
  refine ex_callSr ok_X4_forget (mi 8 rfl) rfl (m_X7_empty hst (kq (sqI (sqI sq0)) (sh_k h 1 rfl)) (nq (sqI (sqI sq0)) (sh_n h 1 rfl)) (by decide) (by decide)) rfl rfl rfl (by decide) (Nat.le_of_ble_eq_true rfl) (by decide) ?_
  refine ex_aload_n ok_X4_forget (mi 9 rfl) rfl ?_
  refine ex_iconst ok_X4_forget (mi 10 rfl) ?_
  refine ex_putI ok_X4_forget (mi 11 rfl) rfl (kq (sqF (sqI (sqI sq0))) (sh_k h 0 rfl)) rfl ?_
  refine ex_aload_n ok_X4_forget (mi 12 rfl) rfl ?_
  refine ex_iconst ok_X4_forget (mi 13 rfl) ?_
  refine ex_putI ok_X4_forget (mi 14 rfl) rfl (kq (sqI (sqF (sqI (sqI sq0)))) (sh_k h 0 rfl)) rfl ?_
  refine ex_vret ok_X4_forget (mi 15 rfl) rfl ?_
  exact ⟨rfl, rfl⟩
def F_X4_reset (g : GT) (a : Nat) : GT := (F_X4_forget (px_I (px_I (px_I (px_I (px_I g 402 a 0) 403 a 7) 404 a 0) 405 a (-1)) 406 a 0) a)
theorem sq_X4_reset (g : GT) (a : Nat) : sq g (F_X4_reset g a) := by
  unfold F_X4_reset
  exact (sq.trans (sqI (sqI (sqI (sqI (sqI sq0))))) (sq_X4_forget _ _))
theorem m_X4_reset {G : GE} (hst : (ge_l G).stackTraces = false) {a : Nat} {g : GT} (h : sh T4 g a) : ex_M G 5 0 0 my_X4_reset [.ref a] g (rv none (F_X4_reset g a)) := by
  refine ex_M_of ok_X4_reset cw_X4_reset rfl hst (Nat.le_of_ble_eq_true rfl) ?_
  refine ex_aload_n ok_X4_reset (mi 0 rfl) rfl ?_
  refine ex_iconst ok_X4_reset (mi 1 rfl) ?_
  refine ex_putI ok_X4_reset (mi 2 rfl) rfl (sh_k h 0 rfl) rfl ?_
  refine ex_aload_n ok_X4_reset (mi 3 rfl) rfl ?_
  refine ex_bipush ok_X4_reset (mi 4 rfl) ?_
  refine ex_putI ok_X4_reset (mi 5 rfl) rfl (kq (sqI sq0) (sh_k h 0 rfl)) rfl ?_
  refine ex_aload_n ok_X4_reset (mi 6 rfl) rfl ?_
  refine ex_iconst ok_X4_reset (mi 7 rfl) ?_
  refine ex_putI ok_X4_reset (mi 8 rfl) rfl (kq (sqI (sqI sq0)) (sh_k h 0 rfl)) rfl ?_
  refine ex_aload_n ok_X4_reset (mi 9 rfl) rfl ?_
  refine ex_iconst ok_X4_reset (mi 10 rfl) ?_
  refine ex_putI ok_X4_reset (mi 11 rfl) rfl (kq (sqI (sqI (sqI sq0))) (sh_k h 0 rfl)) rfl ?_
  refine ex_aload_n ok_X4_reset (mi 12 rfl) rfl ?_
  refine ex_iconst ok_X4_reset (mi 13 rfl) ?_
  refine ex_putI ok_X4_reset (mi 14 rfl) rfl (kq (sqI (sqI (sqI (sqI sq0)))) (sh_k h 0 rfl)) rfl ?_
  refine ex_aload_n ok_X4_reset (mi 15 rfl) rfl ?_
  refine ex_callVr ok_X4_reset (mi 16 rfl) rfl (m_X4_forget hst (shq (sqI (sqI (sqI (sqI (sqI sq0))))) h)) rfl (kq (sqI (sqI (sqI (sqI (sqI sq0))))) (sh_k h 0 rfl)) rfl rfl (by decide) (by decide) (Nat.le_of_ble_eq_true rfl) (by decide) ?_
  refine ex_vret ok_X4_reset (mi 17 rfl) rfl ?_
  exact ⟨rfl, rfl⟩
def F_X5_forgetMatched (g : GT) (a : Nat) : GT := (px_F (px_I (px_I g 509 a 0) 510 a 0) (a + 1) 0 10 0)
theorem sq_X5_forgetMatched (g : GT) (a : Nat) : sq g (F_X5_forgetMatched g a) := by
  unfold F_X5_forgetMatched
  exact (sqF (sqI (sqI sq0)))
theorem m_X5_forgetMatched {G : GE} (hst : (ge_l G).stackTraces = false) {a : Nat} {g : GT} (h : sh T5 g a) : ex_M G 4 0 0 my_X5_forgetMatched [.ref a] g (rv none (F_X5_forgetMatched g a)) := by
  refine ex_M_of ok_X5_forgetMatched cw_X5_forgetMatched rfl hst (Nat.le_of_ble_eq_true rfl) ?_
  refine ex_aload_n ok_X5_forgetMatched (mi 0 rfl) rfl ?_
  refine ex_iconst ok_X5_forgetMatched (mi 1 rfl) ?_
  refine ex_putI ok_X5_forgetMatched (mi 2 rfl) rfl (sh_k h 0 rfl) rfl ?_
  refine ex_aload_n ok_X5_forgetMatched (mi 3 rfl) rfl ?_
  refine ex_iconst ok_X5_forgetMatched (mi 4 rfl) ?_
  refine ex_putI ok_X5_forgetMatched (mi 5 rfl) rfl (kq (sqI sq0) (sh_k h 0 rfl)) rfl ?_
  refine ex_aload_n ok_X5_forgetMatched (mi 6 rfl) rfl ?_
  refine ex_getRx ok_X5_forgetMatched (mi 7 rfl) rfl rfl (kq (sqI (sqI sq0)) (sh_k h 0 rfl)) (rq (sqI (sqI sq0)) (sh_r h 3 rfl)) (kq (sqI (sqI sq0)) (sh_k h 1 rfl)) (by decide) ?_
  refine ex_callSr ok_X5_forgetMatched (mi 8 rfl) rfl (m_X7_empty hst (kq (sqI (sqI sq0)) (sh_k h 1 rfl)) (nq (sqI (sqI sq0)) (sh_n h 1 rfl)) (by decide) (by decide)) rfl rfl rfl (by decide) (Nat.le_of_ble_eq_true rfl) (by decide) ?_
  refine ex_vret ok_X5_forgetMatched (mi 9 rfl) rfl ?_
  exact ⟨rfl, rfl⟩
def F_X8_reset (g : GT) (a : Nat) : GT := (px_F (px_F (px_F (px_F g (a + 1) 0 16 0) (a + 2) 0 16 (-1)) (a + 3) 0 16 0) (a + 4) 0 16 0)
theorem sq_X8_reset (g : GT) (a : Nat) : sq g (F_X8_reset g a) := by
  unfold F_X8_reset
  exact (sqF (sqF (sqF (sqF sq0))))
theorem m_X8_reset {G : GE} (hst : (ge_l G).stackTraces = false) {a : Nat} {g : GT} (h : sh T8 g a) : ex_M G 2 0 0 my_X8_reset [.ref a] g (rv none (F_X8_reset g a)) := by
  refine ex_M_of ok_X8_reset cw_X8_reset rfl hst (Nat.le_of_ble_eq_true rfl) ?_
  refine ex_aload_n ok_X8_reset (mi 0 rfl) rfl ?_
  refine ex_getRx ok_X8_reset (mi 1 rfl) rfl rfl (sh_k h 0 rfl) (rq sq0 (sh_r h 0 rfl)) (sh_k h 1 rfl) (by decide) ?_
  refine ex_iconst ok_X8_reset (mi 2 rfl) ?_
  refine ex_callSr ok_X8_reset (mi 3 rfl) rfl (m_J7_fill_53178 hst (kq sq0 (sh_k h 1 rfl)) (nq sq0 (sh_n h 1 rfl)) (by decide)) rfl rfl rfl (by decide) (Nat.le_of_ble_eq_true rfl) (by decide) ?_
  refine ex_aload_n ok_X8_reset (mi 4 rfl) rfl ?_
  refine ex_getRx ok_X8_reset (mi 5 rfl) rfl rfl (kq (sqF sq0) (sh_k h 0 rfl)) (rq (sqF sq0) (sh_r h 1 rfl)) (kq (sqF sq0) (sh_k h 2 rfl)) (by decide) ?_
  refine ex_iconst ok_X8_reset (mi 6 rfl) ?_
  refine ex_callSr ok_X8_reset (mi 7 rfl) rfl (m_J7_fill_53178 hst (kq (sqF sq0) (sh_k h 2 rfl)) (nq (sqF sq0) (sh_n h 2 rfl)) (by decide)) rfl rfl rfl (by decide) (Nat.le_of_ble_eq_true rfl) (by decide) ?_
  refine ex_aload_n ok_X8_reset (mi 8 rfl) rfl ?_
  refine ex_getRx ok_X8_reset (mi 9 rfl) rfl rfl (kq (sqF (sqF sq0)) (sh_k h 0 rfl)) (rq (sqF (sqF sq0)) (sh_r h 2 rfl)) (kq (sqF (sqF sq0)) (sh_k h 3 rfl)) (by decide) ?_
  refine ex_iconst ok_X8_reset (mi 10 rfl) ?_
  refine ex_callSr ok_X8_reset (mi 11 rfl) rfl (m_J7_fill_53178 hst (kq (sqF (sqF sq0)) (sh_k h 3 rfl)) (nq (sqF (sqF sq0)) (sh_n h 3 rfl)) (by decide)) rfl rfl rfl (by decide) (Nat.le_of_ble_eq_true rfl) (by decide) ?_
  refine ex_aload_n ok_X8_reset (mi 12 rfl) rfl ?_
  refine ex_getRx ok_X8_reset (mi 13 rfl) rfl rfl (kq (sqF (sqF (sqF sq0))) (sh_k h 0 rfl)) (rq (sqF (sqF (sqF sq0))) (sh_r h 3 rfl)) (kq (sqF (sqF (sqF sq0))) (sh_k h 4 rfl)) (by decide) ?_
  refine ex_iconst ok_X8_reset (mi 14 rfl) ?_
  refine ex_callSr ok_X8_reset (mi 15 rfl) rfl (m_J7_fill_53178 hst (kq (sqF (sqF (sqF sq0))) (sh_k h 4 rfl)) (nq (sqF (sqF (sqF sq0))) (sh_n h 4 rfl)) (by decide)) rfl rfl rfl (by decide) (Nat.le_of_ble_eq_true rfl) (by decide) ?_
  refine ex_vret ok_X8_reset (mi 16 rfl) rfl ?_
  exact ⟨rfl, rfl⟩
def F_X5_forgetRound (g : GT) (a : Nat) : GT := (F_X1_reset (F_X8_reset (px_I (px_I (px_F (px_I (px_I (F_X5_forgetMatched g a) 512 a 0) 513 a 0) (a + 2) 0 16 (-1)) 515 a 0) 516 a 0) (a + 5)) (a + 10))
theorem sq_X5_forgetRound (g : GT) (a : Nat) : sq g (F_X5_forgetRound g a) := by
  unfold F_X5_forgetRound
  exact (sq.trans (sq.trans (sqI (sqI (sqF (sqI (sqI (sq.trans sq0 (sq_X5_forgetMatched _ _))))))) (sq_X8_reset _ _)) (sq_X1_reset _ _))
theorem m_X5_forgetRound {G : GE} (hst : (ge_l G).stackTraces = false) {a : Nat} {g : GT} (h : sh T5 g a) : ex_M G 5 0 0 my_X5_forgetRound [.ref a] g (rv none (F_X5_forgetRound g a)) := by
  refine ex_M_of ok_X5_forgetRound cw_X5_forgetRound rfl hst (Nat.le_of_ble_eq_true rfl) ?_
  refine ex_aload_n ok_X5_forgetRound (mi 0 rfl) rfl ?_
  refine ex_callVr ok_X5_forgetRound (mi 1 rfl) rfl (m_X5_forgetMatched hst (shq sq0 h)) rfl (sh_k h 0 rfl) rfl rfl (by decide) (by decide) (Nat.le_of_ble_eq_true rfl) (by decide) ?_
  refine ex_aload_n ok_X5_forgetRound (mi 2 rfl) rfl ?_
  refine ex_iconst ok_X5_forgetRound (mi 3 rfl) ?_
  refine ex_putI ok_X5_forgetRound (mi 4 rfl) rfl (kq (sq.trans sq0 (sq_X5_forgetMatched _ _)) (sh_k h 0 rfl)) rfl ?_
  refine ex_aload_n ok_X5_forgetRound (mi 5 rfl) rfl ?_
  refine ex_iconst ok_X5_forgetRound (mi 6 rfl) ?_
  refine ex_putI ok_X5_forgetRound (mi 7 rfl) rfl (kq (sqI (sq.trans sq0 (sq_X5_forgetMatched _ _))) (sh_k h 0 rfl)) rfl ?_
  refine ex_aload_n ok_X5_forgetRound (mi 8 rfl) rfl ?_
  refine ex_getRx ok_X5_forgetRound (mi 9 rfl) rfl rfl (kq (sqI (sqI (sq.trans sq0 (sq_X5_forgetMatched _ _)))) (sh_k h 0 rfl)) (rq (sqI (sqI (sq.trans sq0 (sq_X5_forgetMatched _ _)))) (sh_r h 4 rfl)) (kq (sqI (sqI (sq.trans sq0 (sq_X5_forgetMatched _ _)))) (sh_k h 2 rfl)) (by decide) ?_
  refine ex_iconst ok_X5_forgetRound (mi 10 rfl) ?_
  refine ex_callSr ok_X5_forgetRound (mi 11 rfl) rfl (m_J7_fill_53178 hst (kq (sqI (sqI (sq.trans sq0 (sq_X5_forgetMatched _ _)))) (sh_k h 2 rfl)) (nq (sqI (sqI (sq.trans sq0 (sq_X5_forgetMatched _ _)))) (sh_n h 2 rfl)) (by decide)) rfl rfl rfl (by decide) (Nat.le_of_ble_eq_true rfl) (by decide) ?_
  refine ex_aload_n ok_X5_forgetRound (mi 12 rfl) rfl ?_
  refine ex_iconst ok_X5_forgetRound (mi 13 rfl) ?_
  refine ex_putI ok_X5_forgetRound (mi 14 rfl) rfl (kq (sqF (sqI (sqI (sq.trans sq0 (sq_X5_forgetMatched _ _))))) (sh_k h 0 rfl)) rfl ?_
  refine ex_aload_n ok_X5_forgetRound (mi 15 rfl) rfl ?_
  refine ex_iconst ok_X5_forgetRound (mi 16 rfl) ?_
  refine ex_putI ok_X5_forgetRound (mi 17 rfl) rfl (kq (sqI (sqF (sqI (sqI (sq.trans sq0 (sq_X5_forgetMatched _ _)))))) (sh_k h 0 rfl)) rfl ?_
  refine ex_aload_n ok_X5_forgetRound (mi 18 rfl) rfl ?_
  refine ex_getRx ok_X5_forgetRound (mi 19 rfl) rfl rfl (kq (sqI (sqI (sqF (sqI (sqI (sq.trans sq0 (sq_X5_forgetMatched _ _))))))) (sh_k h 0 rfl)) (rq (sqI (sqI (sqF (sqI (sqI (sq.trans sq0 (sq_X5_forgetMatched _ _))))))) (sh_r h 1 rfl)) (kq (sqI (sqI (sqF (sqI (sqI (sq.trans sq0 (sq_X5_forgetMatched _ _))))))) (sh_k h 5 rfl)) (by decide) ?_
  refine ex_callVr ok_X5_forgetRound (mi 20 rfl) rfl (m_X8_reset hst (shq (sqI (sqI (sqF (sqI (sqI (sq.trans sq0 (sq_X5_forgetMatched _ _))))))) (sh_58 h))) rfl (kq (sqI (sqI (sqF (sqI (sqI (sq.trans sq0 (sq_X5_forgetMatched _ _))))))) (sh_k h 5 rfl)) rfl rfl (by decide) (by decide) (Nat.le_of_ble_eq_true rfl) (by decide) ?_
  refine ex_aload_n ok_X5_forgetRound (mi 21 rfl) rfl ?_
  refine ex_getRx ok_X5_forgetRound (mi 22 rfl) rfl rfl (kq (sq.trans (sqI (sqI (sqF (sqI (sqI (sq.trans sq0 (sq_X5_forgetMatched _ _))))))) (sq_X8_reset _ _)) (sh_k h 0 rfl)) (rq (sq.trans (sqI (sqI (sqF (sqI (sqI (sq.trans sq0 (sq_X5_forgetMatched _ _))))))) (sq_X8_reset _ _)) (sh_r h 2 rfl)) (kq (sq.trans (sqI (sqI (sqF (sqI (sqI (sq.trans sq0 (sq_X5_forgetMatched _ _))))))) (sq_X8_reset _ _)) (sh_k h 10 rfl)) (by decide) ?_
  refine ex_callVr ok_X5_forgetRound (mi 23 rfl) rfl (m_X1_reset hst (shq (sq.trans (sqI (sqI (sqF (sqI (sqI (sq.trans sq0 (sq_X5_forgetMatched _ _))))))) (sq_X8_reset _ _)) (sh_51 h))) rfl (kq (sq.trans (sqI (sqI (sqF (sqI (sqI (sq.trans sq0 (sq_X5_forgetMatched _ _))))))) (sq_X8_reset _ _)) (sh_k h 10 rfl)) rfl rfl (by decide) (by decide) (Nat.le_of_ble_eq_true rfl) (by decide) ?_
  refine ex_vret ok_X5_forgetRound (mi 24 rfl) rfl ?_
  exact ⟨rfl, rfl⟩
def F_X5_reset (g : GT) (a : Nat) : GT := (F_X5_forgetRound (F_X4_reset (px_I (px_I (px_I g 506 a 0) 507 a (-1)) 508 a 0) (a + 3)) a)
theorem sq_X5_reset (g : GT) (a : Nat) : sq g (F_X5_reset g a) := by
  unfold F_X5_reset
  exact (sq.trans (sq.trans (sqI (sqI (sqI sq0))) (sq_X4_reset _ _)) (sq_X5_forgetRound _ _))
theorem m_X5_reset {G : GE} (hst : (ge_l G).stackTraces = false) {a : Nat} {g : GT} (h : sh T5 g a) : ex_M G 6 0 0 my_X5_reset [.ref a] g (rv none (F_X5_reset g a)) := by
  refine ex_M_of ok_X5_reset cw_X5_reset rfl hst (Nat.le_of_ble_eq_true rfl) ?_
  refine ex_aload_n ok_X5_reset (mi 0 rfl) rfl ?_
  refine ex_iconst ok_X5_reset (mi 1 rfl) ?_
  refine ex_putI ok_X5_reset (mi 2 rfl) rfl (sh_k h 0 rfl) rfl ?_
  refine ex_aload_n ok_X5_reset (mi 3 rfl) rfl ?_
  refine ex_iconst ok_X5_reset (mi 4 rfl) ?_
  refine ex_putI ok_X5_reset (mi 5 rfl) rfl (kq (sqI sq0) (sh_k h 0 rfl)) rfl ?_
  refine ex_aload_n ok_X5_reset (mi 6 rfl) rfl ?_
  refine ex_iconst ok_X5_reset (mi 7 rfl) ?_
  refine ex_putI ok_X5_reset (mi 8 rfl) rfl (kq (sqI (sqI sq0)) (sh_k h 0 rfl)) rfl ?_
  refine ex_aload_n ok_X5_reset (mi 9 rfl) rfl ?_
  refine ex_getRx ok_X5_reset (mi 10 rfl) rfl rfl (kq (sqI (sqI (sqI sq0))) (sh_k h 0 rfl)) (rq (sqI (sqI (sqI sq0))) (sh_r h 0 rfl)) (kq (sqI (sqI (sqI sq0))) (sh_k h 3 rfl)) (by decide) ?_
  refine ex_callVr ok_X5_reset (mi 11 rfl) rfl (m_X4_reset hst (shq (sqI (sqI (sqI sq0))) (sh_54 h))) rfl (kq (sqI (sqI (sqI sq0))) (sh_k h 3 rfl)) rfl rfl (by decide) (by decide) (Nat.le_of_ble_eq_true rfl) (by decide) ?_
  refine ex_aload_n ok_X5_reset (mi 12 rfl) rfl ?_
  refine ex_callVr ok_X5_reset (mi 13 rfl) rfl (m_X5_forgetRound hst (shq (sq.trans (sqI (sqI (sqI sq0))) (sq_X4_reset _ _)) h)) rfl (kq (sq.trans (sqI (sqI (sqI sq0))) (sq_X4_reset _ _)) (sh_k h 0 rfl)) rfl rfl (by decide) (by decide) (Nat.le_of_ble_eq_true rfl) (by decide) ?_
  refine ex_vret ok_X5_reset (mi 14 rfl) rfl ?_
  exact ⟨rfl, rfl⟩
def F_X10_reset (g : GT) (a : Nat) : GT := (px_F (px_I (px_I g 1003 a (-1)) 1004 a 0) (a + 1) 0 16 (-1))
theorem sq_X10_reset (g : GT) (a : Nat) : sq g (F_X10_reset g a) := by
  unfold F_X10_reset
  exact (sqF (sqI (sqI sq0)))
theorem m_X10_reset {G : GE} (hst : (ge_l G).stackTraces = false) {a : Nat} {g : GT} (h : sh T10 g a) : ex_M G 2 0 0 my_X10_reset [.ref a] g (rv none (F_X10_reset g a)) := by
  refine ex_M_of ok_X10_reset cw_X10_reset rfl hst (Nat.le_of_ble_eq_true rfl) ?_
  refine ex_aload_n ok_X10_reset (mi 0 rfl) rfl ?_
  refine ex_iconst ok_X10_reset (mi 1 rfl) ?_
  refine ex_putI ok_X10_reset (mi 2 rfl) rfl (sh_k h 0 rfl) rfl ?_
  refine ex_aload_n ok_X10_reset (mi 3 rfl) rfl ?_
  refine ex_iconst ok_X10_reset (mi 4 rfl) ?_
  refine ex_putI ok_X10_reset (mi 5 rfl) rfl (kq (sqI sq0) (sh_k h 0 rfl)) rfl ?_
  refine ex_aload_n ok_X10_reset (mi 6 rfl) rfl ?_
  refine ex_getRx ok_X10_reset (mi 7 rfl) rfl rfl (kq (sqI (sqI sq0)) (sh_k h 0 rfl)) (rq (sqI (sqI sq0)) (sh_r h 0 rfl)) (kq (sqI (sqI sq0)) (sh_k h 1 rfl)) (by decide) ?_
  refine ex_iconst ok_X10_reset (mi 8 rfl) ?_
  refine ex_callSr ok_X10_reset (mi 9 rfl) rfl (m_J7_fill_53178 hst (kq (sqI (sqI sq0)) (sh_k h 1 rfl)) (nq (sqI (sqI sq0)) (sh_n h 1 rfl)) (by decide)) rfl rfl rfl (by decide) (Nat.le_of_ble_eq_true rfl) (by decide) ?_
  refine ex_vret ok_X10_reset (mi 10 rfl) rfl ?_
  exact ⟨rfl, rfl⟩
def F_X9_reset (g : GT) (a : Nat) : GT := (px_I (px_F (px_FL g (a + 1) 0 1200 0) (a + 2) 0 16 (-1)) 903 a 0)
theorem sq_X9_reset (g : GT) (a : Nat) : sq g (F_X9_reset g a) := by
  unfold F_X9_reset
  exact (sqI (sqF (sqFL sq0)))
theorem m_X9_reset {G : GE} (hst : (ge_l G).stackTraces = false) {a : Nat} {g : GT} (h : sh T9 g a) : ex_M G 2 0 0 my_X9_reset [.ref a] g (rv none (F_X9_reset g a)) := by
  refine ex_M_of ok_X9_reset cw_X9_reset rfl hst (Nat.le_of_ble_eq_true rfl) ?_
  refine ex_aload_n ok_X9_reset (mi 0 rfl) rfl ?_
  refine ex_getRx ok_X9_reset (mi 1 rfl) rfl rfl (sh_k h 0 rfl) (rq sq0 (sh_r h 0 rfl)) (sh_k h 1 rfl) (by decide) ?_
  refine ex_lconst ok_X9_reset (mi 2 rfl) ?_
  refine ex_callSr ok_X9_reset (mi 3 rfl) rfl (m_J7_fill_d0a16 hst (kq sq0 (sh_k h 1 rfl)) (nq sq0 (sh_n h 1 rfl)) (by decide)) rfl rfl rfl (by decide) (Nat.le_of_ble_eq_true rfl) (by decide) ?_
  refine ex_aload_n ok_X9_reset (mi 4 rfl) rfl ?_
  refine ex_getRx ok_X9_reset (mi 5 rfl) rfl rfl (kq (sqFL sq0) (sh_k h 0 rfl)) (rq (sqFL sq0) (sh_r h 1 rfl)) (kq (sqFL sq0) (sh_k h 2 rfl)) (by decide) ?_
  refine ex_iconst ok_X9_reset (mi 6 rfl) ?_
  refine ex_callSr ok_X9_reset (mi 7 rfl) rfl (m_J7_fill_53178 hst (kq (sqFL sq0) (sh_k h 2 rfl)) (nq (sqFL sq0) (sh_n h 2 rfl)) (by decide)) rfl rfl rfl (by decide) (Nat.le_of_ble_eq_true rfl) (by decide) ?_
  refine ex_aload_n ok_X9_reset (mi 8 rfl) rfl ?_
  refine ex_iconst ok_X9_reset (mi 9 rfl) ?_
  refine ex_putI ok_X9_reset (mi 10 rfl) rfl (kq (sqF (sqFL sq0)) (sh_k h 0 rfl)) rfl ?_
  refine ex_vret ok_X9_reset (mi 11 rfl) rfl ?_
  exact ⟨rfl, rfl⟩
end
section
/-! ===== heaps that grew; the small constructors ===== -/
def gr (g g1 : GT) : Prop := gx_Z g ≤ gx_Z g1 ∧ ∀ q, q < gx_Z g → gx_K g1 q = gx_K g q ∧ gx_N g1 q = gx_N g q
theorem gr0 {g : GT} : gr g g := ⟨Nat.le_refl _, fun _ _ => ⟨rfl, rfl⟩⟩
theorem gr.trans {g g1 g2 : GT} (h : gr g g1) (h1 : gr g1 g2) : gr g g2 := ⟨Nat.le_trans h.1 h1.1, fun q hq => ⟨((h1.2 q (Nat.lt_of_lt_of_le hq h.1)).1).trans (h.2 q hq).1, ((h1.2 q (Nat.lt_of_lt_of_le hq h.1)).2).trans (h.2 q hq).2⟩⟩
theorem grI {g g1 : GT} {f a : Nat} {v : Int32} (h : gr g g1) : gr g (px_I g1 f a v) := h
theorem grR {g g1 : GT} {f a v : Nat} (h : gr g g1) : gr g (px_R g1 f a v) := h
theorem grO {g g1 : GT} {a j v : Nat} (h : gr g g1) : gr g (px_O g1 a j v) := h
theorem gr_N {g : GT} {k n : Nat} : gr g (px_N g k n) := by
  refine ⟨Nat.le_succ _, fun q hq => ?_⟩
  have h : q ≠ g.2.2.2.2.2.2.2 := Nat.ne_of_lt hq
  exact ⟨if_neg h, if_neg h⟩
theorem grN {g g1 : GT} {k n : Nat} (h : gr g g1) : gr g (px_N g1 k n) := h.trans gr_N
theorem kg {g g1 : GT} {q k : Nat} (h : gr g g1) (hz : q < gx_Z g) (e : gx_K g q = k) : gx_K g1 q = k := ((h.2 q hz).1).trans e
theorem ng {g g1 : GT} {q k : Nat} (h : gr g g1) (hz : q < gx_Z g) (e : gx_N g q = k) : gx_N g1 q = k := ((h.2 q hz).2).trans e
theorem kNew {g : GT} {k n : Nat} : gx_K (px_N g k n) (gx_Z g) = k := if_pos rfl
theorem nNew {g : GT} {k n : Nat} : gx_N (px_N g k n) (gx_Z g) = n := if_pos rfl
theorem hw_I : Cond.arrayClass (newarray.typeOf .int) ∈ lw_tbl := by decide +kernel
theorem hw_L : Cond.arrayClass (newarray.typeOf .long) ∈ lw_tbl := by decide +kernel
theorem hw_B : Cond.arrayClass (newarray.typeOf .boolean) ∈ lw_tbl := by decide +kernel
/-- a new row, noted in a field -/
def px_NR (g : GT) (k n f a : Nat) : GT := px_R (px_N g k n) f a (gx_Z g)
def F_X6_init (g : GT) (a : Nat) : GT := (px_NR g 50 16 608 a)
theorem gr_X6_init (g : GT) (a : Nat) : gr g (F_X6_init g a) := by
  unfold F_X6_init
  exact (grR (grN gr0))
theorem m_X6_init {G : GE} (hst : (ge_l G).stackTraces = false) {a : Nat} {g : GT} (hk : gx_K g a = 7) (hz : a < gx_Z g) : ex_M G 1 1 16 my_X6_init [.ref a] g (fun r g1 => r = .inl none ∧ g1 = F_X6_init g a) := by
  refine ex_M_of ok_X6_init cw_X6_init rfl hst (Nat.le_of_ble_eq_true rfl) ?_
  refine ex_aload_n ok_X6_init (mi 0 rfl) rfl ?_
  refine ex_objInit ok_X6_init (mi 1 rfl) rfl (Nat.le_of_ble_eq_true rfl) ?_
  refine ex_aload_n ok_X6_init (mi 2 rfl) rfl ?_
  refine ex_bipush ok_X6_init (mi 3 rfl) ?_
  refine ex_newa (N := 16) ok_X6_init (mi 4 rfl) (Or.inl ⟨rfl, rfl⟩) (by decide) (by decide) (by decide) hw_I (by omega) (by omega) ?_
  refine ex_putRx ok_X6_init (mi 5 rfl) rfl (kg (grN gr0) hz hk) rfl kNew (by decide) ?_
  refine ex_vret ok_X6_init (mi 6 rfl) rfl ?_
  exact ⟨rfl, rfl⟩
def F_X9_init (g : GT) (a : Nat) (groups : Nat) : GT := (px_R (px_NR (px_NR g 51 1200 901 a) 50 16 902 a) 900 a groups)
theorem gr_X9_init (g : GT) (a : Nat) (groups : Nat) : gr g (F_X9_init g a groups) := by
  unfold F_X9_init
  exact (grR (grR (grN (grR (grN gr0)))))
theorem m_X9_init {G : GE} (hst : (ge_l G).stackTraces = false) {a : Nat} {groups : Nat} {g : GT} (hk : gx_K g a = 10) (hz : a < gx_Z g) (hkg : gx_K g groups = 50) (hzg : groups < gx_Z g) : ex_M G 1 2 1216 my_X9_init [.ref a, .ref groups] g (fun r g1 => r = .inl none ∧ g1 = F_X9_init g a groups) := by
  refine ex_M_of ok_X9_init cw_X9_init rfl hst (Nat.le_of_ble_eq_true rfl) ?_
  refine ex_aload_n ok_X9_init (mi 0 rfl) rfl ?_
  refine ex_objInit ok_X9_init (mi 1 rfl) rfl (Nat.le_of_ble_eq_true rfl) ?_
  refine ex_aload_n ok_X9_init (mi 2 rfl) rfl ?_
  refine ex_sipush ok_X9_init (mi 3 rfl) ?_
  refine ex_newa (N := 1200) ok_X9_init (mi 4 rfl) (Or.inr (Or.inl ⟨rfl, rfl⟩)) (by decide) (by decide) (by decide) hw_L (by omega) (by omega) ?_
  refine ex_putRx ok_X9_init (mi 5 rfl) rfl (kg (grN gr0) hz hk) rfl kNew (by decide) ?_
  refine ex_aload_n ok_X9_init (mi 6 rfl) rfl ?_
  refine ex_bipush ok_X9_init (mi 7 rfl) ?_
  refine ex_newa (N := 16) ok_X9_init (mi 8 rfl) (Or.inl ⟨rfl, rfl⟩) (by decide) (by decide) (by decide) hw_I (by omega) (by omega) ?_
  refine ex_putRx ok_X9_init (mi 9 rfl) rfl (kg (grN (grR (grN gr0))) hz hk) rfl kNew (by decide) ?_
  refine ex_aload_n ok_X9_init (mi 10 rfl) rfl ?_
  refine ex_aload_n ok_X9_init (mi 11 rfl) rfl ?_
  refine ex_putRx ok_X9_init (mi 12 rfl) rfl (kg (grR (grN (grR (grN gr0)))) hz hk) rfl (kg (grR (grN (grR (grN gr0)))) hzg hkg) (by decide) ?_
  refine ex_vret ok_X9_init (mi 13 rfl) rfl ?_
  exact ⟨rfl, rfl⟩
def F_X2_init (g : GT) (a : Nat) (air : Nat) : GT := (px_R (px_NR g 50 48 201 a) 200 a air)
theorem gr_X2_init (g : GT) (a : Nat) (air : Nat) : gr g (F_X2_init g a air) := by
  unfold F_X2_init
  exact (grR (grR (grN gr0)))
theorem m_X2_init {G : GE} (hst : (ge_l G).stackTraces = false) {a : Nat} {air : Nat} {g : GT} (hk : gx_K g a = 3) (hz : a < gx_Z g) (hka : gx_K g air = 1) (hza : air < gx_Z g) : ex_M G 1 1 48 my_X2_init [.ref a, .ref air] g (fun r g1 => r = .inl none ∧ g1 = F_X2_init g a air) := by
  refine ex_M_of ok_X2_init cw_X2_init rfl hst (Nat.le_of_ble_eq_true rfl) ?_
  refine ex_aload_n ok_X2_init (mi 0 rfl) rfl ?_
  refine ex_objInit ok_X2_init (mi 1 rfl) rfl (Nat.le_of_ble_eq_true rfl) ?_
  refine ex_aload_n ok_X2_init (mi 2 rfl) rfl ?_
  refine ex_bipush ok_X2_init (mi 3 rfl) ?_
  refine ex_newa (N := 48) ok_X2_init (mi 4 rfl) (Or.inl ⟨rfl, rfl⟩) (by decide) (by decide) (by decide) hw_I (by omega) (by omega) ?_
  refine ex_putRx ok_X2_init (mi 5 rfl) rfl (kg (grN gr0) hz hk) rfl kNew (by decide) ?_
  refine ex_aload_n ok_X2_init (mi 6 rfl) rfl ?_
  refine ex_aload_n ok_X2_init (mi 7 rfl) rfl ?_
  refine ex_putRx ok_X2_init (mi 8 rfl) rfl (kg (grR (grN gr0)) hz hk) rfl (kg (grR (grN gr0)) hza hka) (by decide) ?_
  refine ex_vret ok_X2_init (mi 9 rfl) rfl ?_
  exact ⟨rfl, rfl⟩
def F_X4_init (g : GT) (a : Nat) (n : Int32) (air : Nat) : GT := (px_R (px_I (px_NR g 50 10 409 a) 400 a n) 401 a air)
theorem gr_X4_init (g : GT) (a : Nat) (n : Int32) (air : Nat) : gr g (F_X4_init g a n air) := by
  unfold F_X4_init
  exact (grR (grI (grR (grN gr0))))
theorem m_X4_init {G : GE} (hst : (ge_l G).stackTraces = false) {a : Nat} {n : Int32} {air : Nat} {g : GT} (hk : gx_K g a = 5) (hz : a < gx_Z g) (hka : gx_K g air = 1) (hza : air < gx_Z g) : ex_M G 1 1 10 my_X4_init [.ref a, .int n, .ref air] g (fun r g1 => r = .inl none ∧ g1 = F_X4_init g a n air) := by
  refine ex_M_of ok_X4_init cw_X4_init rfl hst (Nat.le_of_ble_eq_true rfl) ?_
  refine ex_aload_n ok_X4_init (mi 0 rfl) rfl ?_
  refine ex_objInit ok_X4_init (mi 1 rfl) rfl (Nat.le_of_ble_eq_true rfl) ?_
  refine ex_aload_n ok_X4_init (mi 2 rfl) rfl ?_
  refine ex_bipush ok_X4_init (mi 3 rfl) ?_
  refine ex_newa (N := 10) ok_X4_init (mi 4 rfl) (Or.inl ⟨rfl, rfl⟩) (by decide) (by decide) (by decide) hw_I (by omega) (by omega) ?_
  refine ex_putRx ok_X4_init (mi 5 rfl) rfl (kg (grN gr0) hz hk) rfl kNew (by decide) ?_
  refine ex_aload_n ok_X4_init (mi 6 rfl) rfl ?_
  refine ex_iload_n ok_X4_init (mi 7 rfl) rfl ?_
  refine ex_putI ok_X4_init (mi 8 rfl) rfl (kg (grR (grN gr0)) hz hk) rfl ?_
  refine ex_aload_n ok_X4_init (mi 9 rfl) rfl ?_
  refine ex_aload_n ok_X4_init (mi 10 rfl) rfl ?_
  refine ex_putRx ok_X4_init (mi 11 rfl) rfl (kg (grI (grR (grN gr0))) hz hk) rfl (kg (grI (grR (grN gr0))) hza hka) (by decide) ?_
  refine ex_vret ok_X4_init (mi 12 rfl) rfl ?_
  exact ⟨rfl, rfl⟩
def F_X8_init (g : GT) (a : Nat) (n : Int32) (air : Nat) : GT := (px_R (px_I (px_NR (px_NR (px_NR (px_NR g 50 16 802 a) 50 16 803 a) 50 16 804 a) 50 16 805 a) 800 a n) 801 a air)
theorem gr_X8_init (g : GT) (a : Nat) (n : Int32) (air : Nat) : gr g (F_X8_init g a n air) := by
  unfold F_X8_init
  exact (grR (grI (grR (grN (grR (grN (grR (grN (grR (grN gr0))))))))))
theorem m_X8_init {G : GE} (hst : (ge_l G).stackTraces = false) {a : Nat} {n : Int32} {air : Nat} {g : GT} (hk : gx_K g a = 9) (hz : a < gx_Z g) (hka : gx_K g air = 1) (hza : air < gx_Z g) : ex_M G 1 4 64 my_X8_init [.ref a, .int n, .ref air] g (fun r g1 => r = .inl none ∧ g1 = F_X8_init g a n air) := by
  refine ex_M_of ok_X8_init cw_X8_init rfl hst (Nat.le_of_ble_eq_true rfl) ?_
  refine ex_aload_n ok_X8_init (mi 0 rfl) rfl ?_
  refine ex_objInit ok_X8_init (mi 1 rfl) rfl (Nat.le_of_ble_eq_true rfl) ?_
  refine ex_aload_n ok_X8_init (mi 2 rfl) rfl ?_
  refine ex_bipush ok_X8_init (mi 3 rfl) ?_
  refine ex_newa (N := 16) ok_X8_init (mi 4 rfl) (Or.inl ⟨rfl, rfl⟩) (by decide) (by decide) (by decide) hw_I (by omega) (by omega) ?_
  refine ex_putRx ok_X8_init (mi 5 rfl) rfl (kg (grN gr0) hz hk) rfl kNew (by decide) ?_
  refine ex_aload_n ok_X8_init (mi 6 rfl) rfl ?_
  refine ex_bipush ok_X8_init (mi 7 rfl) ?_
  refine ex_newa (N := 16) ok_X8_init (mi 8 rfl) (Or.inl ⟨rfl, rfl⟩) (by decide) (by decide) (by decide) hw_I (by omega) (by omega) ?_
  refine ex_putRx ok_X8_init (mi 9 rfl) rfl (kg (grN (grR (grN gr0))) hz hk) rfl kNew (by decide) ?_
  refine ex_aload_n ok_X8_init (mi 10 rfl) rfl ?_
  refine ex_bipush ok_X8_init (mi 11 rfl) ?_
  refine ex_newa (N := 16) ok_X8_init (mi 12 rfl) (Or.inl ⟨rfl, rfl⟩) (by decide) (by decide) (by decide) hw_I (by omega) (by omega) ?_
  refine ex_putRx ok_X8_init (mi 13 rfl) rfl (kg (grN (grR (grN (grR (grN gr0))))) hz hk) rfl kNew (by decide) ?_
  refine ex_aload_n ok_X8_init (mi 14 rfl) rfl ?_
  refine ex_bipush ok_X8_init (mi 15 rfl) ?_
  refine ex_newa (N := 16) ok_X8_init (mi 16 rfl) (Or.inl ⟨rfl, rfl⟩) (by decide) (by decide) (by decide) hw_I (by omega) (by omega) ?_
  refine ex_putRx ok_X8_init (mi 17 rfl) rfl (kg (grN (grR (grN (grR (grN (grR (grN gr0))))))) hz hk) rfl kNew (by decide) ?_
  refine ex_aload_n ok_X8_init (mi 18 rfl) rfl ?_
  refine ex_iload_n ok_X8_init (mi 19 rfl) rfl ?_
  refine ex_putI ok_X8_init (mi 20 rfl) rfl (kg (grR (grN (grR (grN (grR (grN (grR (grN gr0)))))))) hz hk) rfl ?_
  refine ex_aload_n ok_X8_init (mi 21 rfl) rfl ?_
  refine ex_aload_n ok_X8_init (mi 22 rfl) rfl ?_
  refine ex_putRx ok_X8_init (mi 23 rfl) rfl (kg (grI (grR (grN (grR (grN (grR (grN (grR (grN gr0))))))))) hz hk) rfl (kg (grI (grR (grN (grR (grN (grR (grN (grR (grN gr0))))))))) hza hka) (by decide) ?_
  refine ex_vret ok_X8_init (mi 24 rfl) rfl ?_
  exact ⟨rfl, rfl⟩
def F_X1_init (g : GT) (a : Nat) : GT := g
theorem gr_X1_init (g : GT) (a : Nat) : gr g (F_X1_init g a) := by
  unfold F_X1_init
  exact gr0
theorem m_X1_init {G : GE} (hst : (ge_l G).stackTraces = false) {a : Nat} {g : GT} (hk : gx_K g a = 2) (hz : a < gx_Z g) : ex_M G 1 0 0 my_X1_init [.ref a] g (fun r g1 => r = .inl none ∧ g1 = F_X1_init g a) := by
  refine ex_M_of ok_X1_init cw_X1_init rfl hst (Nat.le_of_ble_eq_true rfl) ?_
  refine ex_aload_n ok_X1_init (mi 0 rfl) rfl ?_
  refine ex_objInit ok_X1_init (mi 1 rfl) rfl (Nat.le_of_ble_eq_true rfl) ?_
  refine ex_vret ok_X1_init (mi 2 rfl) rfl ?_
  exact ⟨rfl, rfl⟩
def F_X3_init (g : GT) (a : Nat) (n : Int32) (air : Nat) (groups : Nat) : GT := (px_R (px_R (px_I (px_NR g 50 10 307 a) 300 a n) 301 a air) 302 a groups)
theorem gr_X3_init (g : GT) (a : Nat) (n : Int32) (air : Nat) (groups : Nat) : gr g (F_X3_init g a n air groups) := by
  unfold F_X3_init
  exact (grR (grR (grI (grR (grN gr0)))))
theorem m_X3_init {G : GE} (hst : (ge_l G).stackTraces = false) {a : Nat} {n : Int32} {air : Nat} {groups : Nat} {g : GT} (hk : gx_K g a = 4) (hz : a < gx_Z g) (hka : gx_K g air = 1) (hza : air < gx_Z g) (hkg : gx_K g groups = 50) (hzg : groups < gx_Z g) : ex_M G 1 1 10 my_X3_init [.ref a, .int n, .ref air, .ref groups] g (fun r g1 => r = .inl none ∧ g1 = F_X3_init g a n air groups) := by
  refine ex_M_of ok_X3_init cw_X3_init rfl hst (Nat.le_of_ble_eq_true rfl) ?_
  refine ex_aload_n ok_X3_init (mi 0 rfl) rfl ?_
  refine ex_objInit ok_X3_init (mi 1 rfl) rfl (Nat.le_of_ble_eq_true rfl) ?_
  refine ex_aload_n ok_X3_init (mi 2 rfl) rfl ?_
  refine ex_bipush ok_X3_init (mi 3 rfl) ?_
  refine ex_newa (N := 10) ok_X3_init (mi 4 rfl) (Or.inl ⟨rfl, rfl⟩) (by decide) (by decide) (by decide) hw_I (by omega) (by omega) ?_
  refine ex_putRx ok_X3_init (mi 5 rfl) rfl (kg (grN gr0) hz hk) rfl kNew (by decide) ?_
  refine ex_aload_n ok_X3_init (mi 6 rfl) rfl ?_
  refine ex_iload_n ok_X3_init (mi 7 rfl) rfl ?_
  refine ex_putI ok_X3_init (mi 8 rfl) rfl (kg (grR (grN gr0)) hz hk) rfl ?_
  refine ex_aload_n ok_X3_init (mi 9 rfl) rfl ?_
  refine ex_aload_n ok_X3_init (mi 10 rfl) rfl ?_
  refine ex_putRx ok_X3_init (mi 11 rfl) rfl (kg (grI (grR (grN gr0))) hz hk) rfl (kg (grI (grR (grN gr0))) hza hka) (by decide) ?_
  refine ex_aload_n ok_X3_init (mi 12 rfl) rfl ?_
  refine ex_aload_n ok_X3_init (mi 13 rfl) rfl ?_
  refine ex_putRx ok_X3_init (mi 14 rfl) rfl (kg (grR (grI (grR (grN gr0)))) hz hk) rfl (kg (grR (grI (grR (grN gr0)))) hzg hkg) (by decide) ?_
  refine ex_vret ok_X3_init (mi 15 rfl) rfl ?_
  exact ⟨rfl, rfl⟩
def F_X10_init (g : GT) (a : Nat) (n : Int32) (air : Nat) (tally : Nat) : GT := (px_R (px_R (px_I (px_NR g 50 16 1005 a) 1000 a n) 1001 a air) 1002 a tally)
theorem gr_X10_init (g : GT) (a : Nat) (n : Int32) (air : Nat) (tally : Nat) : gr g (F_X10_init g a n air tally) := by
  unfold F_X10_init
  exact (grR (grR (grI (grR (grN gr0)))))
theorem m_X10_init {G : GE} (hst : (ge_l G).stackTraces = false) {a : Nat} {n : Int32} {air : Nat} {tally : Nat} {g : GT} (hk : gx_K g a = 11) (hz : a < gx_Z g) (hka : gx_K g air = 1) (hza : air < gx_Z g) (hkt : gx_K g tally = 10) (hzt : tally < gx_Z g) : ex_M G 1 1 16 my_X10_init [.ref a, .int n, .ref air, .ref tally] g (fun r g1 => r = .inl none ∧ g1 = F_X10_init g a n air tally) := by
  refine ex_M_of ok_X10_init cw_X10_init rfl hst (Nat.le_of_ble_eq_true rfl) ?_
  refine ex_aload_n ok_X10_init (mi 0 rfl) rfl ?_
  refine ex_objInit ok_X10_init (mi 1 rfl) rfl (Nat.le_of_ble_eq_true rfl) ?_
  refine ex_aload_n ok_X10_init (mi 2 rfl) rfl ?_
  refine ex_bipush ok_X10_init (mi 3 rfl) ?_
  refine ex_newa (N := 16) ok_X10_init (mi 4 rfl) (Or.inl ⟨rfl, rfl⟩) (by decide) (by decide) (by decide) hw_I (by omega) (by omega) ?_
  refine ex_putRx ok_X10_init (mi 5 rfl) rfl (kg (grN gr0) hz hk) rfl kNew (by decide) ?_
  refine ex_aload_n ok_X10_init (mi 6 rfl) rfl ?_
  refine ex_iload_n ok_X10_init (mi 7 rfl) rfl ?_
  refine ex_putI ok_X10_init (mi 8 rfl) rfl (kg (grR (grN gr0)) hz hk) rfl ?_
  refine ex_aload_n ok_X10_init (mi 9 rfl) rfl ?_
  refine ex_aload_n ok_X10_init (mi 10 rfl) rfl ?_
  refine ex_putRx ok_X10_init (mi 11 rfl) rfl (kg (grI (grR (grN gr0))) hz hk) rfl (kg (grI (grR (grN gr0))) hza hka) (by decide) ?_
  refine ex_aload_n ok_X10_init (mi 12 rfl) rfl ?_
  refine ex_aload_n ok_X10_init (mi 13 rfl) rfl ?_
  refine ex_putRx ok_X10_init (mi 14 rfl) rfl (kg (grR (grI (grR (grN gr0)))) hz hk) rfl (kg (grR (grI (grR (grN gr0)))) hzt hkt) (by decide) ?_
  refine ex_vret ok_X10_init (mi 15 rfl) rfl ?_
  exact ⟨rfl, rfl⟩
end
section
/-! ===== what stays when a heap grows; Leader's constructor ===== -/
theorem lz {g g1 : GT} {q : Nat} (h : gr g g1) (hz : q < gx_Z g) : q < gx_Z g1 := Nat.lt_of_lt_of_le hz h.1
theorem zNew {g : GT} {k n : Nat} : gx_Z g < gx_Z (px_N g k n) := Nat.lt_succ_self _
def sm (g g1 : GT) (q : Nat) : Prop := gx_K g1 q = gx_K g q ∧ gx_N g1 q = gx_N g q ∧ (∀ f, gx_I g1 f q = gx_I g f q) ∧ (∀ f, gx_R g1 f q = gx_R g f q) ∧ (∀ j, gx_A g1 q j = gx_A g q j) ∧ (∀ j, gx_L g1 q j = gx_L g q j) ∧ ∀ j, gx_O g1 q j = gx_O g q j
theorem sm.refl {g : GT} {q : Nat} : sm g g q := ⟨rfl, rfl, fun _ => rfl, fun _ => rfl, fun _ => rfl, fun _ => rfl, fun _ => rfl⟩
theorem sm.trans {g g1 g2 : GT} {q : Nat} (h : sm g g1 q) (h1 : sm g1 g2 q) : sm g g2 q := ⟨h1.1.trans h.1, h1.2.1.trans h.2.1, fun f => (h1.2.2.1 f).trans (h.2.2.1 f), fun f => (h1.2.2.2.1 f).trans (h.2.2.2.1 f), fun f => (h1.2.2.2.2.1 f).trans (h.2.2.2.2.1 f), fun f => (h1.2.2.2.2.2.1 f).trans (h.2.2.2.2.2.1 f), fun f => (h1.2.2.2.2.2.2 f).trans (h.2.2.2.2.2.2 f)⟩
/-- all old cells are as they were, but for a -/
def gw (g g1 : GT) (a : Nat) : Prop := gr g g1 ∧ ∀ q, q < gx_Z g → q ≠ a → sm g g1 q
theorem gw0 {g : GT} {a : Nat} : gw g g a := ⟨gr0, fun _ _ _ => sm.refl⟩
theorem gw.trans {g g1 g2 : GT} {a : Nat} (h : gw g g1 a) (h1 : gw g1 g2 a) : gw g g2 a := ⟨h.1.trans h1.1, fun q hq hn => (h.2 q hq hn).trans (h1.2 q (lz h.1 hq) hn)⟩
/-- a step that writes at a cell newer than g, or at a -/
theorem gw.step {g g1 g2 : GT} {a b : Nat} (h : gw g g1 a) (h1 : gw g1 g2 b) (hb : b = a ∨ gx_Z g ≤ b) : gw g g2 a := ⟨h.1.trans h1.1, fun q hq hn => (h.2 q hq hn).trans (h1.2 q (lz h.1 hq) (by omega))⟩
theorem gwN {g : GT} {k n a : Nat} : gw g (px_N g k n) a := by
  refine ⟨gr_N, fun q hq _ => ?_⟩
  have h : q ≠ g.2.2.2.2.2.2.2 := Nat.ne_of_lt hq
  exact ⟨if_neg h, if_neg h, fun _ => if_neg h, fun _ => if_neg h, fun _ => if_neg h, fun _ => if_neg h, fun _ => if_neg h⟩
theorem gwR {g : GT} {f a v : Nat} : gw g (px_R g f a v) a := by
  refine ⟨gr0, fun q _ hn => ⟨rfl, rfl, fun _ => rfl, fun f' => if_neg (fun h => hn h.2), fun _ => rfl, fun _ => rfl, fun _ => rfl⟩⟩
theorem gwI {g : GT} {f a : Nat} {v : Int32} : gw g (px_I g f a v) a := by
  refine ⟨gr0, fun q _ hn => ⟨rfl, rfl, fun f' => if_neg (fun h => hn h.2), fun _ => rfl, fun _ => rfl, fun _ => rfl, fun _ => rfl⟩⟩
theorem gwO {g : GT} {a j v : Nat} : gw g (px_O g a j v) a := by
  refine ⟨gr0, fun q _ hn => ⟨rfl, rfl, fun _ => rfl, fun _ => rfl, fun _ => rfl, fun _ => rfl, fun j' => if_neg (fun h => hn h.1)⟩⟩
theorem gwNR {g : GT} {k n f a : Nat} : gw g (px_NR g k n f a) a := gwN.trans gwR
theorem gw_X6_init (g : GT) (a : Nat) : gw g (F_X6_init g a) a := by
  unfold F_X6_init
  exact (gw.trans gw0 gwNR)
theorem gw_X9_init (g : GT) (a : Nat) (groups : Nat) : gw g (F_X9_init g a groups) a := by
  unfold F_X9_init
  exact (gw.trans (gw.trans (gw.trans gw0 gwNR) gwNR) gwR)
theorem gw_X2_init (g : GT) (a : Nat) (air : Nat) : gw g (F_X2_init g a air) a := by
  unfold F_X2_init
  exact (gw.trans (gw.trans gw0 gwNR) gwR)
theorem gw_X4_init (g : GT) (a : Nat) (n : Int32) (air : Nat) : gw g (F_X4_init g a n air) a := by
  unfold F_X4_init
  exact (gw.trans (gw.trans (gw.trans gw0 gwNR) gwI) gwR)
theorem gw_X8_init (g : GT) (a : Nat) (n : Int32) (air : Nat) : gw g (F_X8_init g a n air) a := by
  unfold F_X8_init
  exact (gw.trans (gw.trans (gw.trans (gw.trans (gw.trans (gw.trans gw0 gwNR) gwNR) gwNR) gwNR) gwI) gwR)
theorem gw_X1_init (g : GT) (a : Nat) : gw g (F_X1_init g a) a := by
  unfold F_X1_init
  exact gw0
theorem gw_X3_init (g : GT) (a : Nat) (n : Int32) (air : Nat) (groups : Nat) : gw g (F_X3_init g a n air groups) a := by
  unfold F_X3_init
  exact (gw.trans (gw.trans (gw.trans (gw.trans gw0 gwNR) gwI) gwR) gwR)
theorem gw_X10_init (g : GT) (a : Nat) (n : Int32) (air : Nat) (tally : Nat) : gw g (F_X10_init g a n air tally) a := by
  unfold F_X10_init
  exact (gw.trans (gw.trans (gw.trans (gw.trans gw0 gwNR) gwI) gwR) gwR)
def F_5a (g : GT) (a : Nat) (n : Int32) (air : Nat) : GT := px_R (F_X4_init (px_N g 5 0) (gx_Z g) n air) 503 a (gx_Z g)
def F_5b (g : GT) (a : Nat) (n : Int32) (air : Nat) : GT := px_R (F_X8_init (px_N g 9 0) (gx_Z g) n air) 504 a (gx_Z g)
def F_5c (g : GT) (a : Nat) : GT := px_R (F_X1_init (px_N g 2 0) (gx_Z g)) 505 a (gx_Z g)
def F_5d (g : GT) (a : Nat) (n : Int32) (air groups : Nat) : GT := px_R (px_R (px_I (px_NR (px_NR g 50 10 511 a) 50 16 514 a) 500 a n) 501 a air) 502 a groups
def F_X5_init (g : GT) (a : Nat) (n : Int32) (air groups : Nat) : GT := F_5c (F_5b (F_5a (F_5d g a n air groups) a n air) a n air) a
theorem m_X5_init {G : GE} (hst : (ge_l G).stackTraces = false) {a : Nat} {n : Int32} {air groups : Nat} {g : GT} (hk : gx_K g a = 6) (hz : a < gx_Z g) (hka : gx_K g air = 1) (hza : air < gx_Z g) (hkg : gx_K g groups = 50) (hzg : groups < gx_Z g) : ex_M G 2 10 124 my_X5_init [.ref a, .int n, .ref air, .ref groups] g (fun r g1 => r = .inl none ∧ g1 = F_X5_init g a n air groups) := by
  refine ex_M_of ok_X5_init cw_X5_init rfl hst (Nat.le_of_ble_eq_true rfl) ?_
  refine ex_aload_n ok_X5_init (mi 0 rfl) rfl ?_
  refine ex_objInit ok_X5_init (mi 1 rfl) rfl (Nat.le_of_ble_eq_true rfl) ?_
  refine ex_aload_n ok_X5_init (mi 2 rfl) rfl ?_
  refine ex_bipush ok_X5_init (mi 3 rfl) ?_
  refine ex_newa (N := 10) ok_X5_init (mi 4 rfl) (Or.inl ⟨rfl, rfl⟩) (by decide) (by decide) (by decide) hw_I (by omega) (by omega) ?_
  refine ex_putRx ok_X5_init (mi 5 rfl) rfl (kg (grN gr0) hz hk) rfl kNew (by decide) ?_
  refine ex_aload_n ok_X5_init (mi 6 rfl) rfl ?_
  refine ex_bipush ok_X5_init (mi 7 rfl) ?_
  refine ex_newa (N := 16) ok_X5_init (mi 8 rfl) (Or.inl ⟨rfl, rfl⟩) (by decide) (by decide) (by decide) hw_I (by omega) (by omega) ?_
  refine ex_putRx ok_X5_init (mi 9 rfl) rfl (kg (grN (grR (grN gr0))) hz hk) rfl kNew (by decide) ?_
  refine ex_aload_n ok_X5_init (mi 10 rfl) rfl ?_
  refine ex_iload_n ok_X5_init (mi 11 rfl) rfl ?_
  refine ex_putI ok_X5_init (mi 12 rfl) rfl (kg (grR (grN (grR (grN gr0)))) hz hk) rfl ?_
  refine ex_aload_n ok_X5_init (mi 13 rfl) rfl ?_
  refine ex_aload_n ok_X5_init (mi 14 rfl) rfl ?_
  refine ex_putRx ok_X5_init (mi 15 rfl) rfl (kg (grI (grR (grN (grR (grN gr0))))) hz hk) rfl (kg (grI (grR (grN (grR (grN gr0))))) hza hka) (by decide) ?_
  refine ex_aload_n ok_X5_init (mi 16 rfl) rfl ?_
  refine ex_aload_n ok_X5_init (mi 17 rfl) rfl ?_
  refine ex_putRx ok_X5_init (mi 18 rfl) rfl (kg (grR (grI (grR (grN (grR (grN gr0)))))) hz hk) rfl (kg (grR (grI (grR (grN (grR (grN gr0)))))) hzg hkg) (by decide) ?_
  refine ex_aload_n ok_X5_init (mi 19 rfl) rfl ?_
  refine ex_new ok_X5_init (mi 20 rfl) rfl (by decide) (by omega) (by rw [show cx_N 4 = 12 from rfl]; omega) ?_
  rw [show cx_N 4 = 12 from rfl]
  refine ex_dup ok_X5_init (mi 21 rfl) rfl ?_
  refine ex_iload_n ok_X5_init (mi 22 rfl) rfl ?_
  refine ex_aload_n ok_X5_init (mi 23 rfl) rfl ?_
  refine ex_callIp ok_X5_init (mi 24 rfl) rfl (m_X4_init hst kNew zNew (kg (grN (grR (grR (grI (grR (grN (grR (grN gr0)))))))) hza hka) (lz (grN (grR (grR (grI (grR (grN (grR (grN gr0)))))))) hza)) rfl rfl rfl rfl (by decide) (Nat.le_of_ble_eq_true rfl) ⟨by omega, by omega⟩ (fun g9 e9 => ?_)
  subst e9
  refine ex_putRx ok_X5_init (mi 25 rfl) rfl (kg (gr.trans (grN (grR (grR (grI (grR (grN (grR (grN gr0)))))))) (gr_X4_init _ _ _ _)) hz hk) rfl (kg (gr_X4_init _ _ _ _) zNew kNew) (by decide) ?_
  refine ex_aload_n ok_X5_init (mi 26 rfl) rfl ?_
  refine ex_new ok_X5_init (mi 27 rfl) rfl (by decide) (by omega) (by rw [show cx_N 8 = 6 from rfl]; omega) ?_
  rw [show cx_N 8 = 6 from rfl]
  refine ex_dup ok_X5_init (mi 28 rfl) rfl ?_
  refine ex_iload_n ok_X5_init (mi 29 rfl) rfl ?_
  refine ex_aload_n ok_X5_init (mi 30 rfl) rfl ?_
  refine ex_callIp ok_X5_init (mi 31 rfl) rfl (m_X8_init hst kNew zNew (kg (grN (grR (gr.trans (grN (grR (grR (grI (grR (grN (grR (grN gr0)))))))) (gr_X4_init _ _ _ _)))) hza hka) (lz (grN (grR (gr.trans (grN (grR (grR (grI (grR (grN (grR (grN gr0)))))))) (gr_X4_init _ _ _ _)))) hza)) rfl rfl rfl rfl (by decide) (Nat.le_of_ble_eq_true rfl) ⟨by omega, by omega⟩ (fun g9 e9 => ?_)
  subst e9
  refine ex_putRx ok_X5_init (mi 32 rfl) rfl (kg (gr.trans (grN (grR (gr.trans (grN (grR (grR (grI (grR (grN (grR (grN gr0)))))))) (gr_X4_init _ _ _ _)))) (gr_X8_init _ _ _ _)) hz hk) rfl (kg (gr_X8_init _ _ _ _) zNew kNew) (by decide) ?_
  refine ex_aload_n ok_X5_init (mi 33 rfl) rfl ?_
  refine ex_new ok_X5_init (mi 34 rfl) rfl (by decide) (by omega) (by rw [show cx_N 1 = 6 from rfl]; omega) ?_
  rw [show cx_N 1 = 6 from rfl]
  refine ex_dup ok_X5_init (mi 35 rfl) rfl ?_
  refine ex_callINp ok_X5_init (mi 36 rfl) rfl (m_X1_init hst kNew zNew) rfl (List.mem_of_getElem? (i := 1) rfl) rfl rfl rfl (by decide) (Nat.le_of_ble_eq_true rfl) ⟨by omega, by omega⟩ (fun g9 e9 => ?_)
  subst e9
  refine ex_putRx ok_X5_init (mi 37 rfl) rfl (kg (gr.trans (grN (grR (gr.trans (grN (grR (gr.trans (grN (grR (grR (grI (grR (grN (grR (grN gr0)))))))) (gr_X4_init _ _ _ _)))) (gr_X8_init _ _ _ _)))) (gr_X1_init _ _)) hz hk) rfl (kg (gr_X1_init _ _) zNew kNew) (by decide) ?_
  refine ex_vret ok_X5_init (mi 38 rfl) rfl ?_
  exact ⟨rfl, rfl⟩
theorem gw_5d (g : GT) (a : Nat) (n : Int32) (air groups : Nat) : gw g (F_5d g a n air groups) a := by
  unfold F_5d
  exact (((gwNR.trans gwNR).trans gwI).trans gwR).trans gwR
theorem gw_new {g g2 : GT} {k a : Nat} (ha : a < gx_Z g) (h : gw (px_N g k 0) g2 (gx_Z g)) {f : Nat} : gw g (px_R g2 f a (gx_Z g)) a :=
  ((gwN (a := a)).step h (Or.inr (Nat.le_refl _))).trans gwR
theorem gw_X5_init (g : GT) (a : Nat) (n : Int32) (air groups : Nat) (ha : a < gx_Z g) : gw g (F_X5_init g a n air groups) a := by
  unfold F_X5_init F_5c F_5b F_5a
  have h1 := gw_5d g a n air groups
  have h2 := h1.trans (gw_new (lz h1.1 ha) (gw_X4_init (px_N (F_5d g a n air groups) 5 0) (gx_Z (F_5d g a n air groups)) n air) (f := 503))
  have h3 := h2.trans (gw_new (lz h2.1 ha) (gw_X8_init (px_N _ 9 0) (gx_Z _) n air) (f := 504))
  exact h3.trans (gw_new (lz h3.1 ha) (gw_X1_init (px_N _ 2 0) (gx_Z _)) (f := 505))
end
section
/-! ===== the shapes of new objects ===== -/
theorem gxK_N (g : GT) (k n q : Nat) : gx_K (px_N g k n) q = if q = gx_Z g then k else gx_K g q := rfl
theorem gxN_N (g : GT) (k n q : Nat) : gx_N (px_N g k n) q = if q = gx_Z g then n else gx_N g q := rfl
theorem gxZ_N (g : GT) (k n : Nat) : gx_Z (px_N g k n) = gx_Z g + 1 := rfl
theorem gxR_N (g : GT) (k n f q : Nat) : gx_R (px_N g k n) f q = if q = gx_Z g then 0 else gx_R g f q := rfl
theorem gxI_N (g : GT) (k n f q : Nat) : gx_I (px_N g k n) f q = if q = gx_Z g then 0 else gx_I g f q := rfl
theorem gxK_R (g : GT) (f a v q : Nat) : gx_K (px_R g f a v) q = gx_K g q := rfl
theorem gxN_R (g : GT) (f a v q : Nat) : gx_N (px_R g f a v) q = gx_N g q := rfl
theorem gxZ_R (g : GT) (f a v : Nat) : gx_Z (px_R g f a v) = gx_Z g := rfl
theorem gxR_R (g : GT) (f a v f' q : Nat) : gx_R (px_R g f a v) f' q = if f' = f ∧ q = a then v else gx_R g f' q := rfl
theorem gxI_R (g : GT) (f a v f' q : Nat) : gx_I (px_R g f a v) f' q = gx_I g f' q := rfl
theorem gxK_I (g : GT) (f a : Nat) (v : Int32) (q : Nat) : gx_K (px_I g f a v) q = gx_K g q := rfl
theorem gxN_I (g : GT) (f a : Nat) (v : Int32) (q : Nat) : gx_N (px_I g f a v) q = gx_N g q := rfl
theorem gxZ_I (g : GT) (f a : Nat) (v : Int32) : gx_Z (px_I g f a v) = gx_Z g := rfl
theorem gxR_I (g : GT) (f a : Nat) (v : Int32) (f' q : Nat) : gx_R (px_I g f a v) f' q = gx_R g f' q := rfl
theorem gxI_I (g : GT) (f a : Nat) (v : Int32) (f' q : Nat) : gx_I (px_I g f a v) f' q = if f' = f ∧ q = a then v else gx_I g f' q := rfl
theorem new6 (g : GT) : gx_Z (F_X6_init (px_N g 7 0) (gx_Z g)) = gx_Z g + 2 ∧ sh T6 (F_X6_init (px_N g 7 0) (gx_Z g)) (gx_Z g) := by
  have hZ : gx_Z (F_X6_init (px_N g 7 0) (gx_Z g)) = gx_Z g + 2 := by
    simp only [F_X6_init, true_and, and_true, if_true, Nat.add_zero, px_NR, gxK_N, gxN_N, gxZ_N, gxR_N, gxI_N, gxK_R, gxN_R, gxZ_R, gxR_R, gxI_R, gxK_I, gxN_I, gxZ_I, gxR_I, gxI_I]
  refine ⟨hZ, ⟨fun q hq => ?_, fun q hq => ?_⟩⟩
  · simp only [T6, List.mem_cons, List.not_mem_nil, or_false] at hq
    rcases hq with rfl | rfl <;> simp only [F_X6_init, true_and, and_true, if_true, Nat.add_zero, px_NR, gxK_N, gxN_N, gxZ_N, gxR_N, gxI_N, gxK_R, gxN_R, gxZ_R, gxR_R, gxI_R, gxK_I, gxN_I, gxZ_I, gxR_I, gxI_I] <;> refine ⟨?_, ?_⟩ <;> (repeat (first | rw [if_pos (by omega)] | rw [if_neg (by omega)]))
  · simp only [T6, List.mem_cons, List.not_mem_nil, or_false] at hq
    rcases hq with rfl <;> simp only [F_X6_init, true_and, and_true, if_true, Nat.add_zero, px_NR, gxK_N, gxN_N, gxZ_N, gxR_N, gxI_N, gxK_R, gxN_R, gxZ_R, gxR_R, gxI_R, gxK_I, gxN_I, gxZ_I, gxR_I, gxI_I] <;> (repeat (first | rw [if_pos (by omega)] | rw [if_neg (by omega)]))
theorem new9 (g : GT) (groups : Nat) : gx_Z (F_X9_init (px_N g 10 0) (gx_Z g) groups) = gx_Z g + 3 ∧ sh T9 (F_X9_init (px_N g 10 0) (gx_Z g) groups) (gx_Z g) ∧ gx_R (F_X9_init (px_N g 10 0) (gx_Z g) groups) 900 (gx_Z g) = groups := by
  have hZ : gx_Z (F_X9_init (px_N g 10 0) (gx_Z g) groups) = gx_Z g + 3 := by
    simp only [F_X9_init, true_and, and_true, if_true, Nat.add_zero, px_NR, gxK_N, gxN_N, gxZ_N, gxR_N, gxI_N, gxK_R, gxN_R, gxZ_R, gxR_R, gxI_R, gxK_I, gxN_I, gxZ_I, gxR_I, gxI_I]
  refine ⟨hZ, ⟨fun q hq => ?_, fun q hq => ?_⟩, ?_⟩
  · simp only [T9, List.mem_cons, List.not_mem_nil, or_false] at hq
    rcases hq with rfl | rfl | rfl <;> simp only [F_X9_init, true_and, and_true, if_true, Nat.add_zero, px_NR, gxK_N, gxN_N, gxZ_N, gxR_N, gxI_N, gxK_R, gxN_R, gxZ_R, gxR_R, gxI_R, gxK_I, gxN_I, gxZ_I, gxR_I, gxI_I] <;> refine ⟨?_, ?_⟩ <;> (repeat (first | rw [if_pos (by omega)] | rw [if_neg (by omega)]))
  · simp only [T9, List.mem_cons, List.not_mem_nil, or_false] at hq
    rcases hq with rfl | rfl <;> simp only [F_X9_init, true_and, and_true, if_true, Nat.add_zero, px_NR, gxK_N, gxN_N, gxZ_N, gxR_N, gxI_N, gxK_R, gxN_R, gxZ_R, gxR_R, gxI_R, gxK_I, gxN_I, gxZ_I, gxR_I, gxI_I] <;> (repeat (first | rw [if_pos (by omega)] | rw [if_neg (by omega)]))
  · simp only [F_X9_init, true_and, and_true, if_true, Nat.add_zero, px_NR, gxK_N, gxN_N, gxZ_N, gxR_N, gxI_N, gxK_R, gxN_R, gxZ_R, gxR_R, gxI_R, gxK_I, gxN_I, gxZ_I, gxR_I, gxI_I]
    (repeat (first | rw [if_pos (by omega)] | rw [if_neg (by omega)]))
theorem new2 (g : GT) (air : Nat) : gx_Z (F_X2_init (px_N g 3 0) (gx_Z g) air) = gx_Z g + 2 ∧ sh T2 (F_X2_init (px_N g 3 0) (gx_Z g) air) (gx_Z g) ∧ gx_R (F_X2_init (px_N g 3 0) (gx_Z g) air) 200 (gx_Z g) = air := by
  have hZ : gx_Z (F_X2_init (px_N g 3 0) (gx_Z g) air) = gx_Z g + 2 := by
    simp only [F_X2_init, true_and, and_true, if_true, Nat.add_zero, px_NR, gxK_N, gxN_N, gxZ_N, gxR_N, gxI_N, gxK_R, gxN_R, gxZ_R, gxR_R, gxI_R, gxK_I, gxN_I, gxZ_I, gxR_I, gxI_I]
  refine ⟨hZ, ⟨fun q hq => ?_, fun q hq => ?_⟩, ?_⟩
  · simp only [T2, List.mem_cons, List.not_mem_nil, or_false] at hq
    rcases hq with rfl | rfl <;> simp only [F_X2_init, true_and, and_true, if_true, Nat.add_zero, px_NR, gxK_N, gxN_N, gxZ_N, gxR_N, gxI_N, gxK_R, gxN_R, gxZ_R, gxR_R, gxI_R, gxK_I, gxN_I, gxZ_I, gxR_I, gxI_I] <;> refine ⟨?_, ?_⟩ <;> (repeat (first | rw [if_pos (by omega)] | rw [if_neg (by omega)]))
  · simp only [T2, List.mem_cons, List.not_mem_nil, or_false] at hq
    rcases hq with rfl <;> simp only [F_X2_init, true_and, and_true, if_true, Nat.add_zero, px_NR, gxK_N, gxN_N, gxZ_N, gxR_N, gxI_N, gxK_R, gxN_R, gxZ_R, gxR_R, gxI_R, gxK_I, gxN_I, gxZ_I, gxR_I, gxI_I] <;> (repeat (first | rw [if_pos (by omega)] | rw [if_neg (by omega)]))
  · simp only [F_X2_init, true_and, and_true, if_true, Nat.add_zero, px_NR, gxK_N, gxN_N, gxZ_N, gxR_N, gxI_N, gxK_R, gxN_R, gxZ_R, gxR_R, gxI_R, gxK_I, gxN_I, gxZ_I, gxR_I, gxI_I]
    (repeat (first | rw [if_pos (by omega)] | rw [if_neg (by omega)]))
theorem new3 (g : GT) (n : Int32) (air : Nat) (groups : Nat) : gx_Z (F_X3_init (px_N g 4 0) (gx_Z g) n air groups) = gx_Z g + 2 ∧ sh T3 (F_X3_init (px_N g 4 0) (gx_Z g) n air groups) (gx_Z g) ∧ gx_R (F_X3_init (px_N g 4 0) (gx_Z g) n air groups) 301 (gx_Z g) = air ∧ gx_R (F_X3_init (px_N g 4 0) (gx_Z g) n air groups) 302 (gx_Z g) = groups ∧ gx_I (F_X3_init (px_N g 4 0) (gx_Z g) n air groups) 300 (gx_Z g) = n := by
  have hZ : gx_Z (F_X3_init (px_N g 4 0) (gx_Z g) n air groups) = gx_Z g + 2 := by
    simp only [F_X3_init, true_and, and_true, if_true, Nat.add_zero, px_NR, gxK_N, gxN_N, gxZ_N, gxR_N, gxI_N, gxK_R, gxN_R, gxZ_R, gxR_R, gxI_R, gxK_I, gxN_I, gxZ_I, gxR_I, gxI_I]
  refine ⟨hZ, ⟨fun q hq => ?_, fun q hq => ?_⟩, ?_, ?_, ?_⟩
  · simp only [T3, List.mem_cons, List.not_mem_nil, or_false] at hq
    rcases hq with rfl | rfl <;> simp only [F_X3_init, true_and, and_true, if_true, Nat.add_zero, px_NR, gxK_N, gxN_N, gxZ_N, gxR_N, gxI_N, gxK_R, gxN_R, gxZ_R, gxR_R, gxI_R, gxK_I, gxN_I, gxZ_I, gxR_I, gxI_I] <;> refine ⟨?_, ?_⟩ <;> (repeat (first | rw [if_pos (by omega)] | rw [if_neg (by omega)]))
  · simp only [T3, List.mem_cons, List.not_mem_nil, or_false] at hq
    rcases hq with rfl <;> simp only [F_X3_init, true_and, and_true, if_true, Nat.add_zero, px_NR, gxK_N, gxN_N, gxZ_N, gxR_N, gxI_N, gxK_R, gxN_R, gxZ_R, gxR_R, gxI_R, gxK_I, gxN_I, gxZ_I, gxR_I, gxI_I] <;> (repeat (first | rw [if_pos (by omega)] | rw [if_neg (by omega)]))
  · simp only [F_X3_init, true_and, and_true, if_true, Nat.add_zero, px_NR, gxK_N, gxN_N, gxZ_N, gxR_N, gxI_N, gxK_R, gxN_R, gxZ_R, gxR_R, gxI_R, gxK_I, gxN_I, gxZ_I, gxR_I, gxI_I]
    (repeat (first | rw [if_pos (by omega)] | rw [if_neg (by omega)]))
  · simp only [F_X3_init, true_and, and_true, if_true, Nat.add_zero, px_NR, gxK_N, gxN_N, gxZ_N, gxR_N, gxI_N, gxK_R, gxN_R, gxZ_R, gxR_R, gxI_R, gxK_I, gxN_I, gxZ_I, gxR_I, gxI_I]
    (repeat (first | rw [if_pos (by omega)] | rw [if_neg (by omega)]))
  · simp only [F_X3_init, true_and, and_true, if_true, Nat.add_zero, px_NR, gxK_N, gxN_N, gxZ_N, gxR_N, gxI_N, gxK_R, gxN_R, gxZ_R, gxR_R, gxI_R, gxK_I, gxN_I, gxZ_I, gxR_I, gxI_I]
    (repeat (first | rw [if_pos (by omega)] | rw [if_neg (by omega)]))
theorem new10 (g : GT) (n : Int32) (air : Nat) (tally : Nat) : gx_Z (F_X10_init (px_N g 11 0) (gx_Z g) n air tally) = gx_Z g + 2 ∧ sh T10 (F_X10_init (px_N g 11 0) (gx_Z g) n air tally) (gx_Z g) ∧ gx_R (F_X10_init (px_N g 11 0) (gx_Z g) n air tally) 1001 (gx_Z g) = air ∧ gx_R (F_X10_init (px_N g 11 0) (gx_Z g) n air tally) 1002 (gx_Z g) = tally ∧ gx_I (F_X10_init (px_N g 11 0) (gx_Z g) n air tally) 1000 (gx_Z g) = n := by
  have hZ : gx_Z (F_X10_init (px_N g 11 0) (gx_Z g) n air tally) = gx_Z g + 2 := by
    simp only [F_X10_init, true_and, and_true, if_true, Nat.add_zero, px_NR, gxK_N, gxN_N, gxZ_N, gxR_N, gxI_N, gxK_R, gxN_R, gxZ_R, gxR_R, gxI_R, gxK_I, gxN_I, gxZ_I, gxR_I, gxI_I]
  refine ⟨hZ, ⟨fun q hq => ?_, fun q hq => ?_⟩, ?_, ?_, ?_⟩
  · simp only [T10, List.mem_cons, List.not_mem_nil, or_false] at hq
    rcases hq with rfl | rfl <;> simp only [F_X10_init, true_and, and_true, if_true, Nat.add_zero, px_NR, gxK_N, gxN_N, gxZ_N, gxR_N, gxI_N, gxK_R, gxN_R, gxZ_R, gxR_R, gxI_R, gxK_I, gxN_I, gxZ_I, gxR_I, gxI_I] <;> refine ⟨?_, ?_⟩ <;> (repeat (first | rw [if_pos (by omega)] | rw [if_neg (by omega)]))
  · simp only [T10, List.mem_cons, List.not_mem_nil, or_false] at hq
    rcases hq with rfl <;> simp only [F_X10_init, true_and, and_true, if_true, Nat.add_zero, px_NR, gxK_N, gxN_N, gxZ_N, gxR_N, gxI_N, gxK_R, gxN_R, gxZ_R, gxR_R, gxI_R, gxK_I, gxN_I, gxZ_I, gxR_I, gxI_I] <;> (repeat (first | rw [if_pos (by omega)] | rw [if_neg (by omega)]))
  · simp only [F_X10_init, true_and, and_true, if_true, Nat.add_zero, px_NR, gxK_N, gxN_N, gxZ_N, gxR_N, gxI_N, gxK_R, gxN_R, gxZ_R, gxR_R, gxI_R, gxK_I, gxN_I, gxZ_I, gxR_I, gxI_I]
    (repeat (first | rw [if_pos (by omega)] | rw [if_neg (by omega)]))
  · simp only [F_X10_init, true_and, and_true, if_true, Nat.add_zero, px_NR, gxK_N, gxN_N, gxZ_N, gxR_N, gxI_N, gxK_R, gxN_R, gxZ_R, gxR_R, gxI_R, gxK_I, gxN_I, gxZ_I, gxR_I, gxI_I]
    (repeat (first | rw [if_pos (by omega)] | rw [if_neg (by omega)]))
  · simp only [F_X10_init, true_and, and_true, if_true, Nat.add_zero, px_NR, gxK_N, gxN_N, gxZ_N, gxR_N, gxI_N, gxK_R, gxN_R, gxZ_R, gxR_R, gxI_R, gxK_I, gxN_I, gxZ_I, gxR_I, gxI_I]
    (repeat (first | rw [if_pos (by omega)] | rw [if_neg (by omega)]))
theorem new5 (g : GT) (n : Int32) (air : Nat) (groups : Nat) : gx_Z (F_X5_init (px_N g 6 0) (gx_Z g) n air groups) = gx_Z g + 11 ∧ sh T5 (F_X5_init (px_N g 6 0) (gx_Z g) n air groups) (gx_Z g) ∧ gx_R (F_X5_init (px_N g 6 0) (gx_Z g) n air groups) 501 (gx_Z g) = air ∧ gx_R (F_X5_init (px_N g 6 0) (gx_Z g) n air groups) 502 (gx_Z g) = groups ∧ gx_I (F_X5_init (px_N g 6 0) (gx_Z g) n air groups) 500 (gx_Z g) = n ∧ gx_R (F_X5_init (px_N g 6 0) (gx_Z g) n air groups) 401 (gx_Z g + 3) = air ∧ gx_I (F_X5_init (px_N g 6 0) (gx_Z g) n air groups) 400 (gx_Z g + 3) = n ∧ gx_R (F_X5_init (px_N g 6 0) (gx_Z g) n air groups) 801 (gx_Z g + 5) = air ∧ gx_I (F_X5_init (px_N g 6 0) (gx_Z g) n air groups) 800 (gx_Z g + 5) = n := by
  have hZ : gx_Z (F_X5_init (px_N g 6 0) (gx_Z g) n air groups) = gx_Z g + 11 := by
    simp only [F_X5_init, F_5a, F_5b, F_5c, F_5d, F_X4_init, F_X8_init, F_X1_init, true_and, and_true, if_true, Nat.add_zero, px_NR, gxK_N, gxN_N, gxZ_N, gxR_N, gxI_N, gxK_R, gxN_R, gxZ_R, gxR_R, gxI_R, gxK_I, gxN_I, gxZ_I, gxR_I, gxI_I]
  refine ⟨hZ, ⟨fun q hq => ?_, fun q hq => ?_⟩, ?_, ?_, ?_, ?_, ?_, ?_, ?_⟩
  · simp only [T5, List.mem_cons, List.not_mem_nil, or_false] at hq
    rcases hq with rfl | rfl | rfl | rfl | rfl | rfl | rfl | rfl | rfl | rfl | rfl <;> simp only [F_X5_init, F_5a, F_5b, F_5c, F_5d, F_X4_init, F_X8_init, F_X1_init, true_and, and_true, if_true, Nat.add_zero, px_NR, gxK_N, gxN_N, gxZ_N, gxR_N, gxI_N, gxK_R, gxN_R, gxZ_R, gxR_R, gxI_R, gxK_I, gxN_I, gxZ_I, gxR_I, gxI_I] <;> refine ⟨?_, ?_⟩ <;> (repeat (first | rw [if_pos (by omega)] | rw [if_neg (by omega)]))
  · simp only [T5, List.mem_cons, List.not_mem_nil, or_false] at hq
    rcases hq with rfl | rfl | rfl | rfl | rfl | rfl | rfl | rfl | rfl | rfl <;> simp only [F_X5_init, F_5a, F_5b, F_5c, F_5d, F_X4_init, F_X8_init, F_X1_init, true_and, and_true, if_true, Nat.add_zero, px_NR, gxK_N, gxN_N, gxZ_N, gxR_N, gxI_N, gxK_R, gxN_R, gxZ_R, gxR_R, gxI_R, gxK_I, gxN_I, gxZ_I, gxR_I, gxI_I] <;> (repeat (first | rw [if_pos (by omega)] | rw [if_neg (by omega)]))
  · simp only [F_X5_init, F_5a, F_5b, F_5c, F_5d, F_X4_init, F_X8_init, F_X1_init, true_and, and_true, if_true, Nat.add_zero, px_NR, gxK_N, gxN_N, gxZ_N, gxR_N, gxI_N, gxK_R, gxN_R, gxZ_R, gxR_R, gxI_R, gxK_I, gxN_I, gxZ_I, gxR_I, gxI_I]
    (repeat (first | rw [if_pos (by omega)] | rw [if_neg (by omega)]))
  · simp only [F_X5_init, F_5a, F_5b, F_5c, F_5d, F_X4_init, F_X8_init, F_X1_init, true_and, and_true, if_true, Nat.add_zero, px_NR, gxK_N, gxN_N, gxZ_N, gxR_N, gxI_N, gxK_R, gxN_R, gxZ_R, gxR_R, gxI_R, gxK_I, gxN_I, gxZ_I, gxR_I, gxI_I]
    (repeat (first | rw [if_pos (by omega)] | rw [if_neg (by omega)]))
  · simp only [F_X5_init, F_5a, F_5b, F_5c, F_5d, F_X4_init, F_X8_init, F_X1_init, true_and, and_true, if_true, Nat.add_zero, px_NR, gxK_N, gxN_N, gxZ_N, gxR_N, gxI_N, gxK_R, gxN_R, gxZ_R, gxR_R, gxI_R, gxK_I, gxN_I, gxZ_I, gxR_I, gxI_I]
    (repeat (first | rw [if_pos (by omega)] | rw [if_neg (by omega)]))
  · simp only [F_X5_init, F_5a, F_5b, F_5c, F_5d, F_X4_init, F_X8_init, F_X1_init, true_and, and_true, if_true, Nat.add_zero, px_NR, gxK_N, gxN_N, gxZ_N, gxR_N, gxI_N, gxK_R, gxN_R, gxZ_R, gxR_R, gxI_R, gxK_I, gxN_I, gxZ_I, gxR_I, gxI_I]
    (repeat (first | rw [if_pos (by omega)] | rw [if_neg (by omega)]))
  · simp only [F_X5_init, F_5a, F_5b, F_5c, F_5d, F_X4_init, F_X8_init, F_X1_init, true_and, and_true, if_true, Nat.add_zero, px_NR, gxK_N, gxN_N, gxZ_N, gxR_N, gxI_N, gxK_R, gxN_R, gxZ_R, gxR_R, gxI_R, gxK_I, gxN_I, gxZ_I, gxR_I, gxI_I]
    (repeat (first | rw [if_pos (by omega)] | rw [if_neg (by omega)]))
  · simp only [F_X5_init, F_5a, F_5b, F_5c, F_5d, F_X4_init, F_X8_init, F_X1_init, true_and, and_true, if_true, Nat.add_zero, px_NR, gxK_N, gxN_N, gxZ_N, gxR_N, gxI_N, gxK_R, gxN_R, gxZ_R, gxR_R, gxI_R, gxK_I, gxN_I, gxZ_I, gxR_I, gxI_I]
    (repeat (first | rw [if_pos (by omega)] | rw [if_neg (by omega)]))
  · simp only [F_X5_init, F_5a, F_5b, F_5c, F_5d, F_X4_init, F_X8_init, F_X1_init, true_and, and_true, if_true, Nat.add_zero, px_NR, gxK_N, gxN_N, gxZ_N, gxR_N, gxI_N, gxK_R, gxN_R, gxZ_R, gxR_R, gxI_R, gxK_I, gxN_I, gxZ_I, gxR_I, gxI_I]
    (repeat (first | rw [if_pos (by omega)] | rw [if_neg (by omega)]))
end
section
/-! ===== Air's constructor ===== -/
section EN2
variable {G : GE} {d mc ms : Nat} {M : MT} {pc : Nat} {ls : List (Nat × Value)} {st : List Value} {g : GT} {Q : RT → GT → Prop}
theorem ex_anew2 {idx n N : Nat} {i : Int32} (hM : mt_ok M = true) (hf : mt_in M pc (.anewarray idx) 3) (hp : (mt_k M).lookup idx = some (ax_ci n)) (hn : n < 4) (hi : ¬ i < 0) (hN : i.toNatClampNeg = N) (hb9 : N ≤ 1000000) (h1 : 1 ≤ mc) (h2 : N ≤ ms) (k : ex_W G d (mc - 1) (ms - N) M (pc + 3) ls (.ref (gx_Z g) :: st) (px_N g (53 + n) N) Q) : ex_W G d mc ms M pc ls (.int i :: st) g Q := by
  intro p e R s m args9 below meth c H locs cells slots MC MS L hC hR hB hH hl hz
  have hci : ax_ci n < 13 := by
    match n, hn with
    | 0, _ => decide
    | 1, _ => decide
    | 2, _ => decide
    | 3, _ => decide
    | n + 4, h => omega
  have hkw : mt_kw (mt_y M).cls (idx, ax_ci n) = [.classLink (mt_y M).cls idx (cx_R (ax_ci n)), .instantiable (cx_R (ax_ci n)) (cx_N (ax_ci n)), .initialized (cx_R (ax_ci n))] := if_pos (by omega)
  have w1 := mt_wd hM hC (mt_kin2 hp (w := .classLink (mt_y M).cls idx (cx_R (ax_ci n))) (by rw [hkw]; simp))
  have hover : va_AO (cx_R (ax_ci n)) s := by
    obtain ⟨-, -, -, a1, a2, a3, a4, -⟩ := hC.2.2.2.2.2.2.2.2.2.1
    match n, hn with
    | 0, _ => exact a1
    | 1, _ => exact a2
    | 2, _ => exact a3
    | 3, _ => exact a4
    | n + 4, h => omega
  have hRA : s.vm.findClass ("[" ++ (FieldType.object (cx_R (ax_ci n))).toString) = some (ge_A G (3 + n)) := by
    match n, hn with
    | 0, _ => obtain ⟨_, _, _, _, _, h⟩ := (ex_ty hC 3 rfl).2; exact h
    | 1, _ => obtain ⟨_, _, _, _, _, h⟩ := (ex_ty hC 4 rfl).2; exact h
    | 2, _ => obtain ⟨_, _, _, _, _, h⟩ := (ex_ty hC 5 rfl).2; exact h
    | 3, _ => obtain ⟨_, _, _, _, _, h⟩ := (ex_ty hC 6 rfl).2; exact h
    | n + 4, h => omega
  subst hN
  refine W.anew hC.1 hC.2.1 hC.2.2.2.1 w1 (va_AO.use hover) rfl (mt_dec hM hf) rfl hi (by omega) (by omega) (by omega) fun cA kA comp f1 f2 f3 f4 => ?_
  obtain rfl : cA = ge_A G (3 + n) := Option.some.inj (f1.symm.trans hRA)
  rw [show (.ref H.size : Value) = .ref (gx_Z g) by rw [hH.1]]
  have e1 : (H.push ({ cls := ge_A G (3 + n), slots := Array.replicate i.toNatClampNeg .null, vm := .none } : Cell))[gx_Z g]? = some (arrV (ge_A G (3 + n)) i.toNatClampNeg (fun _ => .null)) := by rw [← hH.1, Array.getElem?_push_size, ← arrV_new]
  refine k p e R s m args9 below meth c _ locs (cells + 1) (slots + i.toNatClampNeg) MC MS L hC hR (by omega) (hH.push (by omega) (by rw [Array.size_push]) (fun q hq => by rw [Array.getElem?_push, if_neg (Nat.ne_of_lt hq)]) ?_) hl hz
  refine ax_cell (g := px_N g (53 + n) i.toNatClampNeg) (nx_K g (53 + n) _) rfl (by omega) (fun v hv => ?_) (by omega) e1
  refine ⟨fun h => by omega, fun h => by omega, fun h => by omega, fun i' _ h => ?_⟩
  obtain rfl : n = i' := by omega
  rw [← Option.some.inj (e1.symm.trans hv)]
  simp only [nx_N, nx_O]
  rfl
/-! answers -/
end EN2
def M2_X0_init : MT := (my_X0_init, prog_2_method_1_code, 2, none, [], [(0, .aload_n 0, 1), (1, .invokespecial 3, 3), (4, .aload_n 0, 1), (5, .sipush 400, 3), (8, .anewarray 9, 3), (11, .putfield 11, 3), (14, .iconst 0, 1), (15, .istore_n 1, 1), (16, .iload_n 1, 1), (17, .sipush 400, 3), (20, .if_icmp .ge 22, 3), (23, .aload_n 0, 1), (24, .getfield 11, 3), (27, .iload_n 1, 1), (28, .new 9, 3), (31, .dup, 1), (32, .invokespecial 17, 3), (35, .aastore, 1), (36, .iinc 1 1, 3), (39, .goto (-23), 3), (42, .aload_n 0, 1), (43, .new 9, 3), (46, .dup, 1), (47, .invokespecial 17, 3), (50, .putfield 18, 3), (53, .aload_n 0, 1), (54, .new 9, 3), (57, .dup, 1), (58, .invokespecial 17, 3), (61, .putfield 22, 3), (64, .return_, 1)], [(11, 0, 0), (18, 0, 1), (22, 0, 2)], [(3, objectInit, 0, 3, 0, 0, 0), (17, my_X6_init, 0, 5, 1, 1, 16)], [(9, 6)], [], [211, 212, 213, 129, 122, 123, 134, 87, 130, 132, 87])
theorem ok2_X0_init : mt_ok M2_X0_init = true := by decide +kernel
theorem cw2_X0_init : Cond.code (mt_y M2_X0_init) (mt_b M2_X0_init) (mt_l M2_X0_init) (mt_r M2_X0_init) ∈ lw_tbl := List.mem_of_getElem? (i := 128) (by decide +kernel)

theorem shw {T : List (Nat × Nat × Nat) × List (Nat × Nat × Nat)} {g g1 : GT} {a : Nat} (w : Nat) (h1 : ∀ q ∈ T.1, q.1 < w) (h2 : ∀ q ∈ T.2, q.1 < w) (h : ∀ c, a ≤ c → c < a + w → sm g g1 c) (e : sh T g a) : sh T g1 a := by
  refine ⟨fun q hq => ?_, fun q hq => ?_⟩
  · have hs := h (a + q.1) (Nat.le_add_right _ _) (Nat.add_lt_add_left (h1 q hq) _)
    exact ⟨hs.1.trans (e.1 q hq).1, hs.2.1.trans (e.1 q hq).2⟩
  · have hs := h (a + q.1) (Nat.le_add_right _ _) (Nat.add_lt_add_left (h2 q hq) _)
    exact (hs.2.2.2.1 _).trans (e.2 q hq)
def AI (g : GT) (a z i : Nat) (h : GT) : Prop := gx_Z h = z + 1 + 2 * i ∧ gw g h a ∧ gx_R h 0 a = z ∧ gx_K h z = 53 ∧ gx_N h z = 400 ∧ (∀ j, j < i → j < 400 → gx_O h z j = z + 1 + 2 * j) ∧ ∀ j, j < i → sh T6 h (z + 1 + 2 * j)
/-- a new message, all else as it was -/
theorem msg_new {h : GT} : gx_Z (F_X6_init (px_N h 7 0) (gx_Z h)) = gx_Z h + 2 ∧ (∀ q, q < gx_Z h → sm h (F_X6_init (px_N h 7 0) (gx_Z h)) q) ∧ sh T6 (F_X6_init (px_N h 7 0) (gx_Z h)) (gx_Z h) := by
  have n6 := new6 h
  have g6 := (gwN (g := h) (k := 7) (n := 0) (a := gx_Z h)).trans (gw_X6_init (px_N h 7 0) (gx_Z h))
  exact ⟨n6.1, fun q hq => g6.2 q hq (Nat.ne_of_lt hq), n6.2⟩
theorem AI_msg {g h h1 : GT} {a z i : Nat} (hz : gx_Z g = z) (ha : a < z) (hA : AI g a z i h) (h2 : gx_Z h1 = gx_Z h + 2) (h3 : ∀ q, q < gx_Z h → q ≠ a → q ≠ z → sm h h1 q) (h4 : sh T6 h1 (gx_Z h)) (hR : gx_R h1 0 a = z) (hK : gx_K h1 z = 53) (hN : gx_N h1 z = 400) (hO : ∀ j, j < i + 1 → j < 400 → gx_O h1 z j = z + 1 + 2 * j) (hKN : ∀ q, q < gx_Z h → gx_K h1 q = gx_K h q ∧ gx_N h1 q = gx_N h q) : AI g a z (i + 1) h1 := by
  obtain ⟨a1, a2, a3, a4, a5, a6, a7⟩ := hA
  refine ⟨by omega, ⟨⟨by have := a2.1.1; omega, fun q hq => ?_⟩, fun q hq hn => ?_⟩, hR, hK, hN, hO, fun j hj => ?_⟩
  · have k1 := a2.1.2 q hq
    have k2 := hKN q (by omega)
    exact ⟨k2.1.trans k1.1, k2.2.trans k1.2⟩
  · exact (a2.2 q hq hn).trans (h3 q (by omega) hn (by omega))
  · by_cases e : j = i
    · rw [e, ← a1]; exact h4
    · exact shw 2 (by decide) (by decide) (fun c c1 c2 => h3 c (by omega) (by omega) (by omega)) (a7 j (by omega))
theorem AI_step {g h : GT} {a z i : Nat} (hz : gx_Z g = z) (ha : a < z) (hA : AI g a z i h) : AI g a z (i + 1) (px_O (F_X6_init (px_N h 7 0) (gx_Z h)) z i (gx_Z h)) := by
  obtain ⟨n1, n2, n3⟩ := msg_new (h := h)
  have hA' := hA
  obtain ⟨a1, a2, a3, a4, a5, a6, a7⟩ := hA
  have hsa := n2 a (by omega)
  have hsz := n2 z (by omega)
  refine AI_msg hz ha hA' n1 (fun q q1 q2 q3 => (n2 q q1).trans ((gwO (g := F_X6_init (px_N h 7 0) (gx_Z h))).2 q (by omega) q3)) n3 ((hsa.2.2.2.1 0).trans a3) (hsz.1.trans a4) (hsz.2.1.trans a5) (fun j hj hj4 => ?_) (fun q hq => ⟨(n2 q hq).1, (n2 q hq).2.1⟩)
  show (if z = z ∧ j = i then gx_Z h else gx_O (F_X6_init (px_N h 7 0) (gx_Z h)) z j) = _
  by_cases e : j = i
  · rw [if_pos ⟨rfl, e⟩, a1, e]
  · rw [if_neg (fun q => e q.2), hsz.2.2.2.2.2.2 j]
    exact a6 j (by omega) hj4
/-- a message kept in a field of the Air's own -/
theorem AI_field {g h : GT} {a z i f : Nat} (hf : f ≠ 0) (hi : 400 ≤ i) (hz : gx_Z g = z) (ha : a < z) (hA : AI g a z i h) : AI g a z (i + 1) (px_R (F_X6_init (px_N h 7 0) (gx_Z h)) f a (gx_Z h)) ∧ (∀ f1, f1 ≠ f → gx_R (px_R (F_X6_init (px_N h 7 0) (gx_Z h)) f a (gx_Z h)) f1 a = gx_R h f1 a) ∧ gx_R (px_R (F_X6_init (px_N h 7 0) (gx_Z h)) f a (gx_Z h)) f a = z + 1 + 2 * i := by
  obtain ⟨n1, n2, n3⟩ := msg_new (h := h)
  have hA' := hA
  obtain ⟨a1, a2, a3, a4, a5, a6, a7⟩ := hA
  have hsa := n2 a (by omega)
  have hsz := n2 z (by omega)
  have hF : ∀ f1, f1 ≠ f → gx_R (px_R (F_X6_init (px_N h 7 0) (gx_Z h)) f a (gx_Z h)) f1 a = gx_R h f1 a := fun f1 h1 => by
    rw [gxR_R, if_neg (fun q => h1 q.1)]
    exact hsa.2.2.2.1 f1
  refine ⟨AI_msg hz ha hA' n1 (fun q q1 q2 q3 => (n2 q q1).trans ((gwR (g := F_X6_init (px_N h 7 0) (gx_Z h))).2 q (by omega) q2)) ⟨n3.1, fun q hq => ?_⟩ ((hF 0 (Ne.symm hf)).trans a3) (hsz.1.trans a4) (hsz.2.1.trans a5) (fun j hj hj4 => ?_) (fun q hq => ⟨(n2 q hq).1, (n2 q hq).2.1⟩), hF, ?_⟩
  · rw [gxR_R, if_neg (fun w => by omega)]
    exact n3.2 q hq
  · show gx_O (F_X6_init (px_N h 7 0) (gx_Z h)) z j = _
    rw [hsz.2.2.2.2.2.2 j]
    exact a6 j (by omega) hj4
  · rw [gxR_R, if_pos ⟨rfl, rfl⟩, a1]
theorem lp_X0_init {G : GE} (hst : (ge_l G).stackTraces = false) {a z : Nat} {g : GT} {Q : RT → GT → Prop} (hz : gx_Z g = z) (ha : a < z) (hk : gx_K g a = 1) (hq : ∀ h, AI g a z 400 h → ex_W G 2 4 50 M2_X0_init 42 [(0, .ref a), (1, .int (nI 400))] [] h Q) :
    ∀ n i : Nat, i + n = 400 → ∀ h, AI g a z i h → ex_W G 2 (804 - 2 * i) (10050 - 25 * i) M2_X0_init 16 [(0, .ref a), (1, .int (nI i))] [] h Q := by
  have haz : a < gx_Z g := by omega
  intro n
  induction n with
  | zero =>
    intro i hi h hA
    obtain rfl : i = 400 := by omega
    refine ex_iload_n ok2_X0_init (mi 8 rfl) rfl ?_
    refine ex_sipush ok2_X0_init (mi 9 rfl) ?_
    refine ex_icmp_ge (tgt := 42) ok2_X0_init (mi 10 rfl) rfl (fun h20 => ?_) (fun h20 => False.elim (h20 (nI_le (a := 400) (b := 400) (Nat.le_refl _) (by decide))))
    exact hq h hA
  | succ n ih =>
    intro i hi h hA
    have hzh : z < gx_Z h := by have := hA.1; omega
    refine ex_iload_n ok2_X0_init (mi 8 rfl) rfl ?_
    refine ex_sipush ok2_X0_init (mi 9 rfl) ?_
    refine ex_icmp_ge (tgt := 42) ok2_X0_init (mi 10 rfl) rfl (fun h20 => False.elim (nI_ge (a := i) (b := 400) (by omega) (by decide) h20)) (fun h20 => ?_)
    refine ex_aload_n ok2_X0_init (mi 11 rfl) rfl ?_
    refine ex_getRx ok2_X0_init (mi 12 rfl) rfl rfl (kg hA.2.1.1 haz hk) hA.2.2.1 hA.2.2.2.1 (by decide) ?_
    refine ex_iload_n ok2_X0_init (mi 13 rfl) rfl ?_
    refine ex_new ok2_X0_init (mi 14 rfl) rfl (by decide) (by omega) (by rw [show cx_N 6 = 9 from rfl]; omega) ?_
    rw [show cx_N 6 = 9 from rfl]
    refine ex_dup ok2_X0_init (mi 15 rfl) rfl ?_
    refine ex_callINp ok2_X0_init (mi 16 rfl) rfl (m_X6_init hst kNew zNew) rfl (List.mem_of_getElem? (i := 0) rfl) rfl rfl rfl (by decide) (Nat.le_of_ble_eq_true rfl) ⟨by omega, by omega⟩ (fun g9 e9 => ?_)
    subst e9
    refine ex_aast ok2_X0_init (mi 17 rfl) (n := 0) (by decide) (((msg_new (h := h)).2.1 z hzh).1.trans hA.2.2.2.1) (kg (gr_X6_init _ _) zNew kNew) (by rw [((msg_new (h := h)).2.1 z hzh).2.1, hA.2.2.2.2.1]; exact vp_in_nI (by omega) (by decide)) ?_
    refine ex_iinc ok2_X0_init (mi 18 rfl) rfl ?_
    refine ex_goto (tgt := 16) ok2_X0_init (mi 19 rfl) rfl ?_
    rw [nI_clamp (by omega), show 804 - 2 * i - 1 - 1 = 804 - 2 * (i + 1) by omega, show 10050 - 25 * i - 9 - 16 = 10050 - 25 * (i + 1) by omega]
    exact ex_ls (ls' := [(0, .ref a), (1, .int (nI (i + 1)))]) ⟨rfl, by rw [nI_succ]; rfl, trivial⟩ (ih (i + 1) (by omega) _ (AI_step hz ha hA))
def AirNew (g : GT) (a : Nat) (g1 : GT) : Prop := AI g a (gx_Z g) 402 g1 ∧ gx_R g1 1 a = gx_Z g + 801 ∧ gx_R g1 2 a = gx_Z g + 803
theorem AI_0 {g : GT} {a : Nat} (ha : a < gx_Z g) : AI g a (gx_Z g) 0 (px_R (px_N g 53 400) 0 a (gx_Z g)) := by
  refine ⟨rfl, gwN.trans gwR, ?_, if_pos rfl, if_pos rfl, fun j hj => absurd hj (Nat.not_lt_zero _), fun j hj => absurd hj (Nat.not_lt_zero _)⟩
  rw [gxR_R, if_pos ⟨rfl, rfl⟩]
theorem m_X0_init {G : GE} (hst : (ge_l G).stackTraces = false) {a : Nat} {g : GT} (hk : gx_K g a = 1) (hz : a < gx_Z g) : ex_M G 2 805 10450 my_X0_init [.ref a] g (fun r g1 => r = .inl none ∧ AirNew g a g1) := by
  refine ex_M_of ok2_X0_init cw2_X0_init rfl hst (Nat.le_of_ble_eq_true rfl) ?_
  refine ex_aload_n ok2_X0_init (mi 0 rfl) rfl ?_
  refine ex_objInit ok2_X0_init (mi 1 rfl) rfl (Nat.le_of_ble_eq_true rfl) ?_
  refine ex_aload_n ok2_X0_init (mi 2 rfl) rfl ?_
  refine ex_sipush ok2_X0_init (mi 3 rfl) ?_
  refine ex_anew2 (n := 0) (N := 400) ok2_X0_init (mi 4 rfl) rfl (by decide) (by decide) (by decide) (by decide) (by omega) (by omega) ?_
  refine ex_putRx ok2_X0_init (mi 5 rfl) rfl (kg (grN gr0) hz hk) rfl kNew (by decide) ?_
  refine ex_iconst ok2_X0_init (mi 6 rfl) ?_
  refine ex_istore_n ok2_X0_init (mi 7 rfl) ?_
  refine ex_ls (ls' := [(0, .ref a), (1, .int (nI 0))]) ⟨rfl, rfl, trivial⟩ (lp_X0_init hst rfl hz hk (fun h hA => ?_) 400 0 rfl _ (AI_0 hz))
  have e0 := hA.1
  refine ex_aload_n ok2_X0_init (mi 20 rfl) rfl ?_
  refine ex_new ok2_X0_init (mi 21 rfl) rfl (by decide) (by omega) (by rw [show cx_N 6 = 9 from rfl]; omega) ?_
  rw [show cx_N 6 = 9 from rfl]
  refine ex_dup ok2_X0_init (mi 22 rfl) rfl ?_
  refine ex_callINp ok2_X0_init (mi 23 rfl) rfl (m_X6_init hst kNew zNew) rfl (List.mem_of_getElem? (i := 0) rfl) rfl rfl rfl (by decide) (Nat.le_of_ble_eq_true rfl) ⟨by omega, by omega⟩ (fun g9 e9 => ?_)
  subst e9
  refine ex_putRx ok2_X0_init (mi 24 rfl) rfl (((msg_new (h := h)).2.1 a (by omega)).1.trans (kg hA.2.1.1 hz hk)) rfl (kg (gr_X6_init _ _) zNew kNew) (by decide) ?_
  obtain ⟨hB, b1, b2⟩ := AI_field (f := 1) (by decide) (Nat.le_refl _) rfl hz hA
  have e1 := hB.1
  generalize hgg : px_R (F_X6_init (px_N h 7 0) (gx_Z h)) 1 a (gx_Z h) = h9 at hB b1 b2 e1
  refine ex_aload_n ok2_X0_init (mi 25 rfl) rfl ?_
  refine ex_new ok2_X0_init (mi 26 rfl) rfl (by decide) (by omega) (by rw [show cx_N 6 = 9 from rfl]; omega) ?_
  rw [show cx_N 6 = 9 from rfl]
  refine ex_dup ok2_X0_init (mi 27 rfl) rfl ?_
  refine ex_callINp ok2_X0_init (mi 28 rfl) rfl (m_X6_init hst kNew zNew) rfl (List.mem_of_getElem? (i := 0) rfl) rfl rfl rfl (by decide) (Nat.le_of_ble_eq_true rfl) ⟨by omega, by omega⟩ (fun g9 e9 => ?_)
  subst e9
  refine ex_putRx ok2_X0_init (mi 29 rfl) rfl (((msg_new (h := h9)).2.1 a (by omega)).1.trans (kg hB.2.1.1 hz hk)) rfl (kg (gr_X6_init _ _) zNew kNew) (by decide) ?_
  refine ex_vret ok2_X0_init (mi 30 rfl) rfl ?_
  obtain ⟨hC, c1, c2⟩ := AI_field (f := 2) (by decide) (by decide) rfl hz hB
  exact ⟨rfl, hC, (c1 1 (by decide)).trans (b2.trans (by omega)), c2.trans (by omega)⟩
end
section
/-! ===== the object under construction: what is known of its cells, by tables of offsets from its own address x ===== -/
def ST (g0 h : GT) (x n m : Nat) (T : List (Nat × Nat × Nat) × List (Nat × Nat × Nat)) (O : List (Nat × Nat × Nat)) (I : List (Nat × Nat × Int32)) : Prop :=
  gx_Z h = x + n ∧ sh T h x ∧ (∀ q ∈ O, gx_O h (x + q.1) q.2.1 = x + q.2.2) ∧ (∀ q ∈ I, gx_I h q.2.1 (x + q.1) = q.2.2) ∧
  ((∀ q ∈ T.1, q.1 < n) ∧ (∀ q ∈ T.2, q.1 < n) ∧ (∀ q ∈ O, q.1 < n) ∧ (∀ q ∈ I, q.1 < n) ∧ 0 < n) ∧
  (m = 0 ∨ 807 ≤ n) ∧ (∀ j, j < m → j < 400 → gx_O h (x + 2) j = x + 3 + 2 * j) ∧ (∀ j, j < m → j < 402 → sh T6 h (x + 3 + 2 * j)) ∧ ∀ q, q < x → sm g0 h q
theorem ST_obj {g0 h h1 : GT} {x n m w : Nat} {T T' : List (Nat × Nat × Nat) × List (Nat × Nat × Nat)} {O : List (Nat × Nat × Nat)} {I : List (Nat × Nat × Int32)} (R' : List (Nat × Nat × Nat)) (I' : List (Nat × Nat × Int32)) (s : ST g0 h x n m T O I) (hz : gx_Z h1 = gx_Z h + w) (hs : ∀ q, q < gx_Z h → sm h h1 q) (e : sh T' h1 (gx_Z h)) (hR : ∀ q ∈ R', gx_R h1 q.2.1 (x + q.1) = x + q.2.2) (hI : ∀ q ∈ I', gx_I h1 q.2.1 (x + q.1) = q.2.2)
    (b1 : ∀ q ∈ T'.1, q.1 < w) (b2 : ∀ q ∈ T'.2, q.1 < w) (b3 : ∀ q ∈ R', q.1 < n + w) (b4 : ∀ q ∈ I', q.1 < n + w) :
    ST g0 h1 x (n + w) m (T.1 ++ T'.1.map (fun q => (n + q.1, q.2)), T.2 ++ (T'.2.map (fun q => (n + q.1, q.2.1, n + q.2.2)) ++ R')) O (I ++ I') := by
  obtain ⟨s1, s2, s3, s4, ⟨c1, c2, c3, c4, c5⟩, s5, s6, s7, s8⟩ := s
  have hlt : ∀ k, k < n → x + k < gx_Z h := fun k hk => by omega
  refine ⟨by omega, ⟨fun q hq => ?_, fun q hq => ?_⟩, fun q hq => ?_, fun q hq => ?_, ⟨fun q hq => ?_, fun q hq => ?_, fun q hq => ?_, fun q hq => ?_, by omega⟩, by omega, fun j h1 h2 => ?_, fun j h1 h2 => ?_, fun q hq => (s8 q hq).trans (hs q (by omega))⟩
  · rcases List.mem_append.mp hq with hq | hq
    · have k := hs _ (hlt _ (c1 q hq))
      exact ⟨k.1.trans (s2.1 q hq).1, k.2.1.trans (s2.1 q hq).2⟩
    · obtain ⟨r, hr, rfl⟩ := List.mem_map.mp hq
      have k := e.1 r hr
      rw [s1, Nat.add_assoc] at k
      exact k
  · rcases List.mem_append.mp hq with hq | hq
    · exact ((hs _ (hlt _ (c2 q hq))).2.2.2.1 _).trans (s2.2 q hq)
    · rcases List.mem_append.mp hq with hq | hq
      · obtain ⟨r, hr, rfl⟩ := List.mem_map.mp hq
        have k := e.2 r hr
        rw [s1, Nat.add_assoc, Nat.add_assoc] at k
        exact k
      · exact hR q hq
  · exact ((hs _ (hlt _ (c3 q hq))).2.2.2.2.2.2 _).trans (s3 q hq)
  · rcases List.mem_append.mp hq with hq | hq
    · exact ((hs _ (hlt _ (c4 q hq))).2.2.1 _).trans (s4 q hq)
    · exact hI q hq
  · rcases List.mem_append.mp hq with hq | hq
    · have := c1 q hq; omega
    · obtain ⟨r, hr, rfl⟩ := List.mem_map.mp hq
      have := b1 r hr
      show n + r.1 < n + w
      omega
  · rcases List.mem_append.mp hq with hq | hq
    · have := c2 q hq; omega
    · rcases List.mem_append.mp hq with hq | hq
      · obtain ⟨r, hr, rfl⟩ := List.mem_map.mp hq
        have := b2 r hr
        show n + r.1 < n + w
        omega
      · exact b3 q hq
  · have := c3 q hq; omega
  · rcases List.mem_append.mp hq with hq | hq
    · have := c4 q hq; omega
    · exact b4 q hq
  · exact ((hs _ (hlt 2 (by omega))).2.2.2.2.2.2 _).trans (s6 j h1 h2)
  · exact shw 2 (by decide) (by decide) (fun c d1 d2 => hs c (by omega)) (s7 j h1 h2)
theorem ST_R {g0 h : GT} {x n m : Nat} {T : List (Nat × Nat × Nat) × List (Nat × Nat × Nat)} {O : List (Nat × Nat × Nat)} {I : List (Nat × Nat × Int32)} (f t : Nat) (s : ST g0 h x n m T O I) (hn : ∀ q ∈ T.2, ¬ (q.1 = 0 ∧ q.2.1 = f)) : ST g0 (px_R h f x (x + t)) x n m (T.1, T.2 ++ [(0, f, t)]) O I := by
  obtain ⟨s1, s2, s3, s4, ⟨c1, c2, c3, c4, c5⟩, s5, s6, s7, s8⟩ := s
  refine ⟨s1, ⟨s2.1, fun q hq => ?_⟩, s3, s4, ⟨c1, fun q hq => ?_, c3, c4, c5⟩, s5, s6, fun j h1 h2 => ⟨(s7 j h1 h2).1, fun q hq => ?_⟩, fun q hq => (s8 q hq).trans (gwR.2 q (by omega) (by omega))⟩
  · rcases List.mem_append.mp hq with hq | hq
    · rw [gxR_R, if_neg (fun k => hn q hq ⟨by omega, k.1⟩)]
      exact s2.2 q hq
    · obtain rfl := List.mem_singleton.mp hq
      rw [gxR_R, if_pos ⟨rfl, rfl⟩]
  · rcases List.mem_append.mp hq with hq | hq
    · exact c2 q hq
    · obtain rfl := List.mem_singleton.mp hq
      exact c5
  · rw [gxR_R, if_neg (fun k => by omega)]
    exact (s7 j h1 h2).2 q hq
theorem ST_O {g0 h : GT} {x n m : Nat} {T : List (Nat × Nat × Nat) × List (Nat × Nat × Nat)} {O : List (Nat × Nat × Nat)} {I : List (Nat × Nat × Int32)} (a j t : Nat) (s : ST g0 h x n m T O I) (ha : a < n) (h2 : a ≠ 2) (hn : ∀ q ∈ O, ¬ (q.1 = a ∧ q.2.1 = j)) : ST g0 (px_O h (x + a) j (x + t)) x n m T (O ++ [(a, j, t)]) I := by
  obtain ⟨s1, s2, s3, s4, ⟨c1, c2, c3, c4, c5⟩, s5, s6, s7, s8⟩ := s
  refine ⟨s1, s2, fun q hq => ?_, s4, ⟨c1, c2, fun q hq => ?_, c4, c5⟩, s5, fun i h3 h4 => ?_, s7, fun q hq => (s8 q hq).trans (gwO.2 q (by omega) (by omega))⟩
  · show (if x + q.1 = x + a ∧ q.2.1 = j then x + t else gx_O h (x + q.1) q.2.1) = _
    rcases List.mem_append.mp hq with hq | hq
    · rw [if_neg (fun k => hn q hq ⟨by omega, k.2⟩)]
      exact s3 q hq
    · obtain rfl := List.mem_singleton.mp hq
      rw [if_pos ⟨rfl, rfl⟩]
  · rcases List.mem_append.mp hq with hq | hq
    · exact c3 q hq
    · obtain rfl := List.mem_singleton.mp hq
      exact ha
  · show (if x + 2 = x + a ∧ i = j then x + t else gx_O h (x + 2) i) = _
    rw [if_neg (fun k => by omega)]
    exact s6 i h3 h4
theorem ST_N {g0 h : GT} {x n m k l : Nat} {T : List (Nat × Nat × Nat) × List (Nat × Nat × Nat)} {O : List (Nat × Nat × Nat)} {I : List (Nat × Nat × Int32)} (s : ST g0 h x n m T O I) : ST g0 (px_N h k l) x (n + 1) m (T.1 ++ [(n, k, l)], T.2 ++ []) O (I ++ []) := by
  have hz := s.1
  exact ST_obj (T' := ([(0, k, l)], [])) [] [] s rfl (fun q hq => (gwN (a := gx_Z h)).2 q hq (Nat.ne_of_lt hq)) ⟨fun q hq => by
    obtain rfl := List.mem_singleton.mp hq
    exact ⟨kNew, nNew⟩, fun q hq => nomatch hq⟩ (fun q hq => nomatch hq) (fun q hq => nomatch hq) (fun q hq => by
    obtain rfl := List.mem_singleton.mp hq
    exact Nat.zero_lt_one) (fun q hq => nomatch hq) (fun q hq => nomatch hq) (fun q hq => nomatch hq)
section ES
variable {G : GE} {d mc ms : Nat} {M : MT} {pc : Nat} {ls : List (Nat × Value)} {st : List Value} {g0 h : GT} {Q : RT → GT → Prop} {x n m : Nat} {T : List (Nat × Nat × Nat) × List (Nat × Nat × Nat)} {O : List (Nat × Nat × Nat)} {I : List (Nat × Nat × Int32)}
/-- a reference noted in the object's own field -/
theorem ST_put {idx j t v kx : Nat} (hM : mt_ok M = true) (hf : mt_in M pc (.putfield idx) 3) (hp : (mt_f M).lookup idx = some (11, j)) (hr : fx_R 11 j = true) (s : ST g0 h x n m T O I) (hk : gx_K h x = 12) (hv : v = x + t) (hkx : gx_K h (x + t) = kx) (hd : 0 < kx ∧ kx < 60) (hn : ∀ q ∈ T.2, ¬ (q.1 = 0 ∧ q.2.1 = 100 * 11 + j))
    (k : ∀ h1, ST g0 h1 x n m (T.1, T.2 ++ [(0, 100 * 11 + j, t)]) O I → ex_W G d mc ms M (pc + 3) ls st h1 Q) : ex_W G d mc ms M pc ls (.ref v :: .ref x :: st) h Q := by
  subst hv
  exact ex_putRx hM hf hp hk hr hkx hd (k _ (ST_R (100 * 11 + j) t s hn))
/-- an object noted in one of the object's own rows -/
theorem ST_aast {a n1 t v i : Nat} {w : Int32} (hM : mt_ok M = true) (hf : mt_in M pc (.aastore) 1) (hn1 : n1 < 4) (s : ST g0 h x n m T O I) (hk : gx_K h (x + a) = 53 + n1) {N : Nat} (hN : gx_N h (x + a) = N) (hw : w = nI i) (hi : i < N) (hb : N < 2 ^ 31) (hv : v = x + t) (hkv : gx_K h (x + t) = ax_ci n1 + 1) (ha : a < n) (h2 : a ≠ 2) (hn : ∀ q ∈ O, ¬ (q.1 = a ∧ q.2.1 = i))
    (k : ∀ h1, ST g0 h1 x n m T (O ++ [(a, i, t)]) I → ex_W G d mc ms M (pc + 1) ls st h1 Q) : ex_W G d mc ms M pc ls (.ref v :: .int w :: .ref (x + a) :: st) h Q := by
  subst hv hw
  refine ex_aast hM hf hn1 hk hkv (by rw [hN]; exact vp_in_nI hi hb) ?_
  rw [nI_clamp (by omega)]
  exact k _ (ST_O a i t s ha h2 hn)
end ES
end
section
/-! ===== RoundKeepers' constructor, up to its reset ===== -/
def M2_X11_init : MT := (my_X11_init, prog_1_method_1_code, 2, none, [], [(0, .aload_n 0, 1), (1, .invokespecial 1, 3), (4, .aload_n 0, 1), (5, .new 7, 3), (8, .dup, 1), (9, .invokespecial 9, 3), (12, .putfield 10, 3), (15, .aload_n 0, 1), (16, .sipush 300, 3), (19, .newarray .int, 2), (21, .putfield 16, 3), (24, .aload_n 0, 1), (25, .new 20, 3), (28, .dup, 1), (29, .aload_n 0, 1), (30, .getfield 16, 3), (33, .invokespecial 22, 3), (36, .putfield 25, 3), (39, .aload_n 0, 1), (40, .new 29, 3), (43, .dup, 1), (44, .aload_n 0, 1), (45, .getfield 10, 3), (48, .invokespecial 31, 3), (51, .putfield 34, 3), (54, .aload_n 0, 1), (55, .iconst 4, 1), (56, .newarray .int, 2), (58, .putfield 38, 3), (61, .aload_n 0, 1), (62, .iconst 3, 1), (63, .anewarray 41, 3), (66, .putfield 43, 3), (69, .iconst 0, 1), (70, .istore_n 1, 1), (71, .iload_n 1, 1), (72, .iconst 3, 1), (73, .if_icmp .ge 31, 3), (76, .aload_n 0, 1), (77, .getfield 43, 3), (80, .iload_n 1, 1), (81, .new 41, 3), (84, .dup, 1), (85, .iload_n 1, 1), (86, .aload_n 0, 1), (87, .getfield 10, 3), (90, .aload_n 0, 1), (91, .getfield 16, 3), (94, .invokespecial 47, 3), (97, .aastore, 1), (98, .iinc 1 1, 3), (101, .goto (-30), 3), (104, .aload_n 0, 1), (105, .bipush 9, 2), (107, .anewarray 50, 3), (110, .putfield 52, 3), (113, .iconst 0, 1), (114, .istore_n 1, 1), (115, .iload_n 1, 1), (116, .bipush 9, 2), (118, .if_icmp .ge 31, 3), (121, .aload_n 0, 1), (122, .getfield 52, 3), (125, .iload_n 1, 1), (126, .new 50, 3), (129, .dup, 1), (130, .iload_n 1, 1), (131, .aload_n 0, 1), (132, .getfield 10, 3), (135, .aload_n 0, 1), (136, .getfield 16, 3), (139, .invokespecial 56, 3), (142, .aastore, 1), (143, .iinc 1 1, 3), (146, .goto (-31), 3), (149, .aload_n 0, 1), (150, .bipush 12, 2), (152, .anewarray 57, 3), (155, .putfield 59, 3), (158, .iconst 0, 1), (159, .istore_n 1, 1), (160, .iload_n 1, 1), (161, .bipush 12, 2), (163, .if_icmp .ge 31, 3), (166, .aload_n 0, 1), (167, .getfield 59, 3), (170, .iload_n 1, 1), (171, .new 57, 3), (174, .dup, 1), (175, .iload_n 1, 1), (176, .aload_n 0, 1), (177, .getfield 10, 3), (180, .aload_n 0, 1), (181, .getfield 25, 3), (184, .invokespecial 63, 3), (187, .aastore, 1), (188, .iinc 1 1, 3), (191, .goto (-31), 3), (194, .aload_n 0, 1), (195, .invokevirtual 66, 3), (198, .return_, 1)], [(10, 11, 0), (16, 11, 1), (25, 11, 2), (34, 11, 6), (38, 11, 7), (43, 11, 3), (52, 11, 4), (59, 11, 5)], [(1, objectInit, 0, 3, 0, 0, 0), (9, my_X0_init, 0, 2, 2, 805, 10450), (22, my_X9_init, 1, 2, 1, 2, 1216), (31, my_X2_init, 1, 2, 1, 1, 48), (47, my_X5_init, 3, 2, 2, 10, 124), (56, my_X3_init, 3, 2, 1, 1, 10), (63, my_X10_init, 3, 2, 1, 1, 16), (66, my_X11_resetAll, 0, 21, 7, 0, 0)], [(7, 0), (20, 9), (29, 2), (41, 5), (50, 3), (57, 10)], [], [926, 927, 928, 932, 933, 929, 930, 931, 121, 122, 123, 126, 127, 86, 238, 239, 88, 260, 261, 89, 279, 280, 90, 446, 447, 94, 491, 492, 95, 515, 517, 0, 85, 124, 125, 86, 236, 237, 88, 258, 259, 89, 276, 278, 90, 443, 445, 94, 488, 490, 95])
theorem ok2_X11_init : mt_ok M2_X11_init = true := by decide +kernel
theorem cw2_X11_init : Cond.code (mt_y M2_X11_init) (mt_b M2_X11_init) (mt_l M2_X11_init) (mt_r M2_X11_init) ∈ lw_tbl := List.mem_of_getElem? (i := 120) (by decide +kernel)
def T0 : List (Nat × Nat × Nat) × List (Nat × Nat × Nat) := ([(0, 1, 0), (1, 53, 400)], [(0, 0, 1), (0, 1, 802), (0, 2, 804)])
theorem ST_air {g0 h h1 : GT} {x : Nat} {T : List (Nat × Nat × Nat) × List (Nat × Nat × Nat)} {O : List (Nat × Nat × Nat)} {I : List (Nat × Nat × Int32)} (s : ST g0 h x 1 0 T O I) (e : AirNew (px_N h 1 0) (gx_Z h) h1) : ST g0 h1 x 807 402 (T.1 ++ T0.1.map (fun q => (1 + q.1, q.2)), T.2 ++ (T0.2.map (fun q => (1 + q.1, q.2.1, 1 + q.2.2)) ++ [])) O (I ++ []) := by
  obtain ⟨⟨a1, a2, a3, a4, a5, a6, a7⟩, b1, b2⟩ := e
  have hz : gx_Z (px_N h 1 0) = gx_Z h + 1 := rfl
  have hs := s.1
  have s1 := ST_obj (w := 806) (T' := T0) [] [] s (by omega) (fun q hq => ((gwN (g := h) (k := 1) (n := 0) (a := gx_Z h)).trans a2).2 q hq (Nat.ne_of_lt hq)) ⟨fun q hq => by
      simp only [T0, List.mem_cons, List.not_mem_nil, or_false] at hq
      rcases hq with rfl | rfl
      · exact ⟨kg a2.1 zNew kNew, ng a2.1 zNew nNew⟩
      · exact ⟨a4, a5⟩, fun q hq => by
      simp only [T0, List.mem_cons, List.not_mem_nil, or_false] at hq
      rcases hq with rfl | rfl | rfl
      · exact a3
      · exact b1
      · exact b2⟩ (fun q hq => nomatch hq) (fun q hq => nomatch hq) (by decide) (by decide) (fun q hq => nomatch hq) (fun q hq => nomatch hq)
  obtain ⟨c1, c2, c3, c4, c5, -, -, -, c8⟩ := s1
  refine ⟨c1, c2, c3, c4, c5, Or.inr (by decide), fun j h1 h2 => ?_, fun j h1 h2 => ?_, c8⟩
  · have := a6 j h1 h2
    rw [hz, hs] at this
    exact this
  · have := a7 j h1
    rw [hz, hs] at this
    exact this
theorem ST_tally {g0 h h1 : GT} {x n m : Nat} {T : List (Nat × Nat × Nat) × List (Nat × Nat × Nat)} {O : List (Nat × Nat × Nat)} {I : List (Nat × Nat × Int32)} {gp : Nat} (s : ST g0 h x n m T O I) (e : h1 = F_X9_init (px_N h 10 0) (gx_Z h) (x + gp)) : ST g0 h1 x (n + 3) m (T.1 ++ T9.1.map (fun q => (n + q.1, q.2)), T.2 ++ (T9.2.map (fun q => (n + q.1, q.2.1, n + q.2.2)) ++ [(n + 0, 900, gp)])) O (I ++ []) := by
  subst e
  have hs := s.1
  have N := new9 h (x + gp)
  rw [hs] at N
  have hg := (gwN (g := h) (k := 10) (n := 0) (a := gx_Z h)).trans (gw_X9_init (px_N h 10 0) (gx_Z h) (x + gp))
  refine ST_obj [(n + 0, 900, gp)] [] s (by rw [hs]; exact N.1) (fun q hq => hg.2 q hq (Nat.ne_of_lt hq)) (by rw [hs]; exact N.2.1) (fun q hq => ?_) (fun q hq => ?_) (by decide) (by decide) (fun q hq => ?_) (fun q hq => ?_)
  · simp only [List.mem_cons, List.not_mem_nil, or_false] at hq
    obtain rfl := hq
    rw [hs]; exact N.2.2
  · exact nomatch hq
  · simp only [List.mem_cons, List.not_mem_nil, or_false] at hq
    obtain rfl := hq
    show n + _ < n + _
    omega
  · exact nomatch hq
theorem ST_copies {g0 h h1 : GT} {x n m : Nat} {T : List (Nat × Nat × Nat) × List (Nat × Nat × Nat)} {O : List (Nat × Nat × Nat)} {I : List (Nat × Nat × Int32)} {ar : Nat} (s : ST g0 h x n m T O I) (e : h1 = F_X2_init (px_N h 3 0) (gx_Z h) (x + ar)) : ST g0 h1 x (n + 2) m (T.1 ++ T2.1.map (fun q => (n + q.1, q.2)), T.2 ++ (T2.2.map (fun q => (n + q.1, q.2.1, n + q.2.2)) ++ [(n + 0, 200, ar)])) O (I ++ []) := by
  subst e
  have hs := s.1
  have N := new2 h (x + ar)
  rw [hs] at N
  have hg := (gwN (g := h) (k := 3) (n := 0) (a := gx_Z h)).trans (gw_X2_init (px_N h 3 0) (gx_Z h) (x + ar))
  refine ST_obj [(n + 0, 200, ar)] [] s (by rw [hs]; exact N.1) (fun q hq => hg.2 q hq (Nat.ne_of_lt hq)) (by rw [hs]; exact N.2.1) (fun q hq => ?_) (fun q hq => ?_) (by decide) (by decide) (fun q hq => ?_) (fun q hq => ?_)
  · simp only [List.mem_cons, List.not_mem_nil, or_false] at hq
    obtain rfl := hq
    rw [hs]; exact N.2.2
  · exact nomatch hq
  · simp only [List.mem_cons, List.not_mem_nil, or_false] at hq
    obtain rfl := hq
    show n + _ < n + _
    omega
  · exact nomatch hq
theorem ST_keeper {g0 h h1 : GT} {x n m : Nat} {T : List (Nat × Nat × Nat) × List (Nat × Nat × Nat)} {O : List (Nat × Nat × Nat)} {I : List (Nat × Nat × Int32)} {ar : Nat} {gp : Nat} {i : Nat} (s : ST g0 h x n m T O I) (e : h1 = F_X3_init (px_N h 4 0) (gx_Z h) (nI i) (x + ar) (x + gp)) : ST g0 h1 x (n + 2) m (T.1 ++ T3.1.map (fun q => (n + q.1, q.2)), T.2 ++ (T3.2.map (fun q => (n + q.1, q.2.1, n + q.2.2)) ++ [(n + 0, 301, ar), (n + 0, 302, gp)])) O (I ++ [(n + 0, 300, nI i)]) := by
  subst e
  have hs := s.1
  have N := new3 h (nI i) (x + ar) (x + gp)
  rw [hs] at N
  have hg := (gwN (g := h) (k := 4) (n := 0) (a := gx_Z h)).trans (gw_X3_init (px_N h 4 0) (gx_Z h) (nI i) (x + ar) (x + gp))
  refine ST_obj [(n + 0, 301, ar), (n + 0, 302, gp)] [(n + 0, 300, nI i)] s (by rw [hs]; exact N.1) (fun q hq => hg.2 q hq (Nat.ne_of_lt hq)) (by rw [hs]; exact N.2.1) (fun q hq => ?_) (fun q hq => ?_) (by decide) (by decide) (fun q hq => ?_) (fun q hq => ?_)
  · simp only [List.mem_cons, List.not_mem_nil, or_false] at hq
    rcases hq with rfl | rfl
    · rw [hs]; exact N.2.2.1
    · rw [hs]; exact N.2.2.2.1
  · simp only [List.mem_cons, List.not_mem_nil, or_false] at hq
    obtain rfl := hq
    rw [hs]; exact N.2.2.2.2
  · simp only [List.mem_cons, List.not_mem_nil, or_false] at hq
    rcases hq with rfl | rfl <;> (show n + _ < n + _; omega)
  · simp only [List.mem_cons, List.not_mem_nil, or_false] at hq
    obtain rfl := hq
    show n + _ < n + _
    omega
theorem ST_voter {g0 h h1 : GT} {x n m : Nat} {T : List (Nat × Nat × Nat) × List (Nat × Nat × Nat)} {O : List (Nat × Nat × Nat)} {I : List (Nat × Nat × Int32)} {ar : Nat} {tl : Nat} {i : Nat} (s : ST g0 h x n m T O I) (e : h1 = F_X10_init (px_N h 11 0) (gx_Z h) (nI i) (x + ar) (x + tl)) : ST g0 h1 x (n + 2) m (T.1 ++ T10.1.map (fun q => (n + q.1, q.2)), T.2 ++ (T10.2.map (fun q => (n + q.1, q.2.1, n + q.2.2)) ++ [(n + 0, 1001, ar), (n + 0, 1002, tl)])) O (I ++ [(n + 0, 1000, nI i)]) := by
  subst e
  have hs := s.1
  have N := new10 h (nI i) (x + ar) (x + tl)
  rw [hs] at N
  have hg := (gwN (g := h) (k := 11) (n := 0) (a := gx_Z h)).trans (gw_X10_init (px_N h 11 0) (gx_Z h) (nI i) (x + ar) (x + tl))
  refine ST_obj [(n + 0, 1001, ar), (n + 0, 1002, tl)] [(n + 0, 1000, nI i)] s (by rw [hs]; exact N.1) (fun q hq => hg.2 q hq (Nat.ne_of_lt hq)) (by rw [hs]; exact N.2.1) (fun q hq => ?_) (fun q hq => ?_) (by decide) (by decide) (fun q hq => ?_) (fun q hq => ?_)
  · simp only [List.mem_cons, List.not_mem_nil, or_false] at hq
    rcases hq with rfl | rfl
    · rw [hs]; exact N.2.2.1
    · rw [hs]; exact N.2.2.2.1
  · simp only [List.mem_cons, List.not_mem_nil, or_false] at hq
    obtain rfl := hq
    rw [hs]; exact N.2.2.2.2
  · simp only [List.mem_cons, List.not_mem_nil, or_false] at hq
    rcases hq with rfl | rfl <;> (show n + _ < n + _; omega)
  · simp only [List.mem_cons, List.not_mem_nil, or_false] at hq
    obtain rfl := hq
    show n + _ < n + _
    omega
theorem ST_leader {g0 h h1 : GT} {x n m : Nat} {T : List (Nat × Nat × Nat) × List (Nat × Nat × Nat)} {O : List (Nat × Nat × Nat)} {I : List (Nat × Nat × Int32)} {ar : Nat} {gp : Nat} {i : Nat} (s : ST g0 h x n m T O I) (e : h1 = F_X5_init (px_N h 6 0) (gx_Z h) (nI i) (x + ar) (x + gp)) : ST g0 h1 x (n + 11) m (T.1 ++ T5.1.map (fun q => (n + q.1, q.2)), T.2 ++ (T5.2.map (fun q => (n + q.1, q.2.1, n + q.2.2)) ++ [(n + 0, 501, ar), (n + 0, 502, gp), (n + 3, 401, ar), (n + 5, 801, ar)])) O (I ++ [(n + 0, 500, nI i), (n + 3, 400, nI i), (n + 5, 800, nI i)]) := by
  subst e
  have hs := s.1
  have N := new5 h (nI i) (x + ar) (x + gp)
  rw [hs] at N
  have hg := (gwN (g := h) (k := 6) (n := 0) (a := gx_Z h)).trans (gw_X5_init (px_N h 6 0) (gx_Z h) (nI i) (x + ar) (x + gp) zNew)
  refine ST_obj [(n + 0, 501, ar), (n + 0, 502, gp), (n + 3, 401, ar), (n + 5, 801, ar)] [(n + 0, 500, nI i), (n + 3, 400, nI i), (n + 5, 800, nI i)] s (by rw [hs]; exact N.1) (fun q hq => hg.2 q hq (Nat.ne_of_lt hq)) (by rw [hs]; exact N.2.1) (fun q hq => ?_) (fun q hq => ?_) (by decide) (by decide) (fun q hq => ?_) (fun q hq => ?_)
  · simp only [List.mem_cons, List.not_mem_nil, or_false] at hq
    rcases hq with rfl | rfl | rfl | rfl
    · rw [hs]; exact N.2.2.1
    · rw [hs]; exact N.2.2.2.1
    · rw [hs, ← Nat.add_assoc]; exact N.2.2.2.2.2.1
    · rw [hs, ← Nat.add_assoc]; exact N.2.2.2.2.2.2.2.1
  · simp only [List.mem_cons, List.not_mem_nil, or_false] at hq
    rcases hq with rfl | rfl | rfl
    · rw [hs]; exact N.2.2.2.2.1
    · rw [hs, ← Nat.add_assoc]; exact N.2.2.2.2.2.2.1
    · rw [hs, ← Nat.add_assoc]; exact N.2.2.2.2.2.2.2.2
  · simp only [List.mem_cons, List.not_mem_nil, or_false] at hq
    rcases hq with rfl | rfl | rfl | rfl <;> (show n + _ < n + _; omega)
  · simp only [List.mem_cons, List.not_mem_nil, or_false] at hq
    rcases hq with rfl | rfl | rfl <;> (show n + _ < n + _; omega)
end
section
/-! ===== RoundKeepers' constructor walked, up to its reset ===== -/
theorem lt_st {g0 h : GT} {x n m k : Nat} {T : List (Nat × Nat × Nat) × List (Nat × Nat × Nat)} {O : List (Nat × Nat × Nat)} {I : List (Nat × Nat × Int32)} (s : ST g0 h x n m T O I) (hk : k < n) : x + k < gx_Z h := by
  rw [s.1]; omega
def T11 : List (Nat × Nat × Nat) × List (Nat × Nat × Nat) := ([(0, 12, 0), (1, 1, 0), (2, 53, 400), (807, 50, 300), (808, 10, 0), (809, 51, 1200), (810, 50, 16), (811, 3, 0), (812, 50, 48), (813, 50, 4), (814, 54, 3), (815, 6, 0), (816, 50, 10), (817, 50, 16), (818, 5, 0), (819, 50, 10), (820, 9, 0), (821, 50, 16), (822, 50, 16), (823, 50, 16), (824, 50, 16), (825, 2, 0), (826, 6, 0), (827, 50, 10), (828, 50, 16), (829, 5, 0), (830, 50, 10), (831, 9, 0), (832, 50, 16), (833, 50, 16), (834, 50, 16), (835, 50, 16), (836, 2, 0), (837, 6, 0), (838, 50, 10), (839, 50, 16), (840, 5, 0), (841, 50, 10), (842, 9, 0), (843, 50, 16), (844, 50, 16), (845, 50, 16), (846, 50, 16), (847, 2, 0), (848, 55, 9), (849, 4, 0), (850, 50, 10), (851, 4, 0), (852, 50, 10), (853, 4, 0), (854, 50, 10), (855, 4, 0), (856, 50, 10), (857, 4, 0), (858, 50, 10), (859, 4, 0), (860, 50, 10), (861, 4, 0), (862, 50, 10), (863, 4, 0), (864, 50, 10), (865, 4, 0), (866, 50, 10), (867, 56, 12), (868, 11, 0), (869, 50, 16), (870, 11, 0), (871, 50, 16), (872, 11, 0), (873, 50, 16), (874, 11, 0), (875, 50, 16), (876, 11, 0), (877, 50, 16), (878, 11, 0), (879, 50, 16), (880, 11, 0), (881, 50, 16), (882, 11, 0), (883, 50, 16), (884, 11, 0), (885, 50, 16), (886, 11, 0), (887, 50, 16), (888, 11, 0), (889, 50, 16), (890, 11, 0), (891, 50, 16)], [(1, 0, 2), (1, 1, 803), (1, 2, 805), (0, 1100, 1), (0, 1101, 807), (808, 901, 809), (808, 902, 810), (808, 900, 807), (0, 1102, 808), (811, 201, 812), (811, 200, 1), (0, 1106, 811), (0, 1107, 813), (0, 1103, 814), (815, 503, 818), (815, 504, 820), (815, 505, 825), (815, 511, 816), (815, 514, 817), (818, 409, 819), (820, 802, 821), (820, 803, 822), (820, 804, 823), (820, 805, 824), (815, 501, 1), (815, 502, 807), (818, 401, 1), (820, 801, 1), (826, 503, 829), (826, 504, 831), (826, 505, 836), (826, 511, 827), (826, 514, 828), (829, 409, 830), (831, 802, 832), (831, 803, 833), (831, 804, 834), (831, 805, 835), (826, 501, 1), (826, 502, 807), (829, 401, 1), (831, 801, 1), (837, 503, 840), (837, 504, 842), (837, 505, 847), (837, 511, 838), (837, 514, 839), (840, 409, 841), (842, 802, 843), (842, 803, 844), (842, 804, 845), (842, 805, 846), (837, 501, 1), (837, 502, 807), (840, 401, 1), (842, 801, 1), (0, 1104, 848), (849, 307, 850), (849, 301, 1), (849, 302, 807), (851, 307, 852), (851, 301, 1), (851, 302, 807), (853, 307, 854), (853, 301, 1), (853, 302, 807), (855, 307, 856), (855, 301, 1), (855, 302, 807), (857, 307, 858), (857, 301, 1), (857, 302, 807), (859, 307, 860), (859, 301, 1), (859, 302, 807), (861, 307, 862), (861, 301, 1), (861, 302, 807), (863, 307, 864), (863, 301, 1), (863, 302, 807), (865, 307, 866), (865, 301, 1), (865, 302, 807), (0, 1105, 867), (868, 1005, 869), (868, 1001, 1), (868, 1002, 808), (870, 1005, 871), (870, 1001, 1), (870, 1002, 808), (872, 1005, 873), (872, 1001, 1), (872, 1002, 808), (874, 1005, 875), (874, 1001, 1), (874, 1002, 808), (876, 1005, 877), (876, 1001, 1), (876, 1002, 808), (878, 1005, 879), (878, 1001, 1), (878, 1002, 808), (880, 1005, 881), (880, 1001, 1), (880, 1002, 808), (882, 1005, 883), (882, 1001, 1), (882, 1002, 808), (884, 1005, 885), (884, 1001, 1), (884, 1002, 808), (886, 1005, 887), (886, 1001, 1), (886, 1002, 808), (888, 1005, 889), (888, 1001, 1), (888, 1002, 808), (890, 1005, 891), (890, 1001, 1), (890, 1002, 808)])
def O11 : List (Nat × Nat × Nat) := [(814, 0, 815), (814, 1, 826), (814, 2, 837), (848, 0, 849), (848, 1, 851), (848, 2, 853), (848, 3, 855), (848, 4, 857), (848, 5, 859), (848, 6, 861), (848, 7, 863), (848, 8, 865), (867, 0, 868), (867, 1, 870), (867, 2, 872), (867, 3, 874), (867, 4, 876), (867, 5, 878), (867, 6, 880), (867, 7, 882), (867, 8, 884), (867, 9, 886), (867, 10, 888), (867, 11, 890)]
def I11 : List (Nat × Nat × Int32) := [(815, 500, nI 0), (818, 400, nI 0), (820, 800, nI 0), (826, 500, nI 1), (829, 400, nI 1), (831, 800, nI 1), (837, 500, nI 2), (840, 400, nI 2), (842, 800, nI 2), (849, 300, nI 0), (851, 300, nI 1), (853, 300, nI 2), (855, 300, nI 3), (857, 300, nI 4), (859, 300, nI 5), (861, 300, nI 6), (863, 300, nI 7), (865, 300, nI 8), (868, 1000, nI 0), (870, 1000, nI 1), (872, 1000, nI 2), (874, 1000, nI 3), (876, 1000, nI 4), (878, 1000, nI 5), (880, 1000, nI 6), (882, 1000, nI 7), (884, 1000, nI 8), (886, 1000, nI 9), (888, 1000, nI 10), (890, 1000, nI 11)]
theorem in_X11 {G : GE} (hst : (ge_l G).stackTraces = false) {x : Nat} {g : GT} {Q : RT → GT → Prop} (hk : gx_K g x = 12) (hn : gx_N g x = 0) (hz : gx_Z g = x + 1) (hq : ∀ h, ST g h x 892 402 T11 O11 I11 → ex_W G 8 0 0 M2_X11_init 194 [(0, .ref x), (1, .int (nI 12))] [] h Q) : ex_W G 8 891 12941 M2_X11_init 0 [(0, .ref x)] [] g Q := by
  have s0 : ST g g x 1 0 ([(0, 12, 0)], []) [] [] := ⟨hz, ⟨fun q hq => by
      obtain rfl := List.mem_singleton.mp hq
      exact ⟨hk, hn⟩, (fun q hq => nomatch hq)⟩, (fun q hq => nomatch hq), (fun q hq => nomatch hq), ⟨by decide, by decide, by decide, by decide, by decide⟩, Or.inl rfl, fun j hj => absurd hj (Nat.not_lt_zero _), fun j hj => absurd hj (Nat.not_lt_zero _), fun q _ => sm.refl⟩
  refine ex_aload_n ok2_X11_init (mi 0 rfl) rfl ?_
  refine ex_objInit ok2_X11_init (mi 1 rfl) rfl (Nat.le_of_ble_eq_true rfl) ?_
  refine ex_aload_n ok2_X11_init (mi 2 rfl) rfl ?_
  refine ex_new ok2_X11_init (mi 3 rfl) rfl (by decide) (by omega) (by rw [show cx_N 0 = 7 from rfl]; omega) ?_
  rw [show cx_N 0 = 7 from rfl]
  refine ex_dup ok2_X11_init (mi 4 rfl) rfl ?_
  refine ex_callIp ok2_X11_init (mi 5 rfl) rfl (m_X0_init hst kNew zNew) rfl rfl rfl rfl (by decide) (Nat.le_of_ble_eq_true rfl) ⟨by omega, by omega⟩ (fun h1 e1 => ?_)
  have s1 := ST_air s0 e1
  refine ST_put (t := 1) ok2_X11_init (mi 6 rfl) rfl rfl s1 (sh_k s1.2.1 0 rfl) s0.1 (sh_k s1.2.1 1 rfl) (by decide) (by decide) (fun h2 s2 => ?_)
  refine ex_aload_n ok2_X11_init (mi 7 rfl) rfl ?_
  refine ex_sipush ok2_X11_init (mi 8 rfl) ?_
  refine ex_newa (N := 300) ok2_X11_init (mi 9 rfl) (Or.inl ⟨rfl, rfl⟩) (by decide) (by decide) (by decide) hw_I (by omega) (by omega) ?_
  have s3 := ST_N (k := 50) (l := 300) s2
  refine ST_put (t := 807) ok2_X11_init (mi 10 rfl) rfl rfl s3 (sh_k s3.2.1 0 rfl) s2.1 (sh_k s3.2.1 3 rfl) (by decide) (by decide) (fun h4 s4 => ?_)
  refine ex_aload_n ok2_X11_init (mi 11 rfl) rfl ?_
  refine ex_new ok2_X11_init (mi 12 rfl) rfl (by decide) (by omega) (by rw [show cx_N 9 = 4 from rfl]; omega) ?_
  rw [show cx_N 9 = 4 from rfl]
  refine ex_dup ok2_X11_init (mi 13 rfl) rfl ?_
  refine ex_aload_n ok2_X11_init (mi 14 rfl) rfl ?_
  have s5 := ST_N (k := 10) (l := 0) s4
  refine ex_getRx ok2_X11_init (mi 15 rfl) rfl rfl (sh_k s5.2.1 0 rfl) (sh_r s5.2.1 4 rfl) (sh_k s5.2.1 3 rfl) (by decide) ?_
  refine ex_callIp ok2_X11_init (mi 16 rfl) rfl (m_X9_init (groups := x + 807) hst kNew zNew (sh_k s5.2.1 3 rfl) (lt_st s5 (by decide))) rfl rfl rfl rfl (by decide) (Nat.le_of_ble_eq_true rfl) ⟨by omega, by omega⟩ (fun h6 e6 => ?_)
  have s6 := ST_tally (gp := 807) s4 e6
  refine ST_put (t := 808) ok2_X11_init (mi 17 rfl) rfl rfl s6 (sh_k s6.2.1 0 rfl) s4.1 (sh_k s6.2.1 4 rfl) (by decide) (by decide) (fun h7 s7 => ?_)
  refine ex_aload_n ok2_X11_init (mi 18 rfl) rfl ?_
  refine ex_new ok2_X11_init (mi 19 rfl) rfl (by decide) (by omega) (by rw [show cx_N 2 = 3 from rfl]; omega) ?_
  rw [show cx_N 2 = 3 from rfl]
  refine ex_dup ok2_X11_init (mi 20 rfl) rfl ?_
  refine ex_aload_n ok2_X11_init (mi 21 rfl) rfl ?_
  have s8 := ST_N (k := 3) (l := 0) s7
  refine ex_getRx ok2_X11_init (mi 22 rfl) rfl rfl (sh_k s8.2.1 0 rfl) (sh_r s8.2.1 3 rfl) (sh_k s8.2.1 1 rfl) (by decide) ?_
  refine ex_callIp ok2_X11_init (mi 23 rfl) rfl (m_X2_init (air := x + 1) hst kNew zNew (sh_k s8.2.1 1 rfl) (lt_st s8 (by decide))) rfl rfl rfl rfl (by decide) (Nat.le_of_ble_eq_true rfl) ⟨by omega, by omega⟩ (fun h9 e9 => ?_)
  have s9 := ST_copies (ar := 1) s7 e9
  refine ST_put (t := 811) ok2_X11_init (mi 24 rfl) rfl rfl s9 (sh_k s9.2.1 0 rfl) s7.1 (sh_k s9.2.1 7 rfl) (by decide) (by decide) (fun h10 s10 => ?_)
  refine ex_aload_n ok2_X11_init (mi 25 rfl) rfl ?_
  refine ex_iconst ok2_X11_init (mi 26 rfl) ?_
  refine ex_newa (N := 4) ok2_X11_init (mi 27 rfl) (Or.inl ⟨rfl, rfl⟩) (by decide) (by decide) (by decide) hw_I (by omega) (by omega) ?_
  have s11 := ST_N (k := 50) (l := 4) s10
  refine ST_put (t := 813) ok2_X11_init (mi 28 rfl) rfl rfl s11 (sh_k s11.2.1 0 rfl) s10.1 (sh_k s11.2.1 9 rfl) (by decide) (by decide) (fun h12 s12 => ?_)
  refine ex_aload_n ok2_X11_init (mi 29 rfl) rfl ?_
  refine ex_iconst ok2_X11_init (mi 30 rfl) ?_
  refine ex_anew2 (n := 1) (N := 3) ok2_X11_init (mi 31 rfl) rfl (by decide) (by decide) (by decide) (by decide) (by omega) (by omega) ?_
  have s13 := ST_N (k := 54) (l := 3) s12
  refine ST_put (t := 814) ok2_X11_init (mi 32 rfl) rfl rfl s13 (sh_k s13.2.1 0 rfl) s12.1 (sh_k s13.2.1 10 rfl) (by decide) (by decide) (fun h14 s14 => ?_)
  refine ex_iconst ok2_X11_init (mi 33 rfl) ?_
  refine ex_istore_n ok2_X11_init (mi 34 rfl) ?_
  refine ex_ls (ls' := [(0, .ref x), (1, .int (nI 0))]) ⟨rfl, rfl, trivial⟩ ?_
  refine ex_iload_n ok2_X11_init (mi 35 rfl) rfl ?_
  refine ex_iconst ok2_X11_init (mi 36 rfl) ?_
  refine ex_icmp_ge (tgt := 104) ok2_X11_init (mi 37 rfl) rfl (fun hc => absurd hc (by decide)) (fun _ => ?_)
  refine ex_aload_n ok2_X11_init (mi 38 rfl) rfl ?_
  refine ex_getRx ok2_X11_init (mi 39 rfl) rfl rfl (sh_k s14.2.1 0 rfl) (sh_r s14.2.1 13 rfl) (sh_k s14.2.1 10 rfl) (by decide) ?_
  refine ex_iload_n ok2_X11_init (mi 40 rfl) rfl ?_
  refine ex_new ok2_X11_init (mi 41 rfl) rfl (by decide) (by omega) (by rw [show cx_N 5 = 17 from rfl]; omega) ?_
  rw [show cx_N 5 = 17 from rfl]
  refine ex_dup ok2_X11_init (mi 42 rfl) rfl ?_
  refine ex_iload_n ok2_X11_init (mi 43 rfl) rfl ?_
  refine ex_aload_n ok2_X11_init (mi 44 rfl) rfl ?_
  have s15 := ST_N (k := 6) (l := 0) s14
  refine ex_getRx ok2_X11_init (mi 45 rfl) rfl rfl (sh_k s15.2.1 0 rfl) (sh_r s15.2.1 3 rfl) (sh_k s15.2.1 1 rfl) (by decide) ?_
  refine ex_aload_n ok2_X11_init (mi 46 rfl) rfl ?_
  refine ex_getRx ok2_X11_init (mi 47 rfl) rfl rfl (sh_k s15.2.1 0 rfl) (sh_r s15.2.1 4 rfl) (sh_k s15.2.1 3 rfl) (by decide) ?_
  refine ex_callIp ok2_X11_init (mi 48 rfl) rfl (m_X5_init (n := nI 0) (air := x + 1) (groups := x + 807) hst kNew zNew (sh_k s15.2.1 1 rfl) (lt_st s15 (by decide)) (sh_k s15.2.1 3 rfl) (lt_st s15 (by decide))) rfl rfl rfl rfl (by decide) (Nat.le_of_ble_eq_true rfl) ⟨by omega, by omega⟩ (fun h16 e16 => ?_)
  have s16 := ST_leader (i := 0) (ar := 1) (gp := 807) s14 e16
  refine ST_aast (n1 := 1) (i := 0) (t := 815) (a := 814) (N := 3) ok2_X11_init (mi 49 rfl) (by decide) s16 (sh_k s16.2.1 10 rfl) (sh_n s16.2.1 10 rfl) rfl (by decide) (by decide) s14.1 (sh_k s16.2.1 11 rfl) (by decide) (by decide) (by decide) (fun h17 s17 => ?_)
  refine ex_iinc ok2_X11_init (mi 50 rfl) rfl ?_
  refine ex_goto (tgt := 71) ok2_X11_init (mi 51 rfl) rfl ?_
  refine ex_ls (ls' := [(0, .ref x), (1, .int (nI (0 + 1)))]) ⟨rfl, by rw [nI_succ]; rfl, trivial⟩ ?_
  refine ex_iload_n ok2_X11_init (mi 35 rfl) rfl ?_
  refine ex_iconst ok2_X11_init (mi 36 rfl) ?_
  refine ex_icmp_ge (tgt := 104) ok2_X11_init (mi 37 rfl) rfl (fun hc => absurd hc (by decide)) (fun _ => ?_)
  refine ex_aload_n ok2_X11_init (mi 38 rfl) rfl ?_
  refine ex_getRx ok2_X11_init (mi 39 rfl) rfl rfl (sh_k s17.2.1 0 rfl) (sh_r s17.2.1 13 rfl) (sh_k s17.2.1 10 rfl) (by decide) ?_
  refine ex_iload_n ok2_X11_init (mi 40 rfl) rfl ?_
  refine ex_new ok2_X11_init (mi 41 rfl) rfl (by decide) (by omega) (by rw [show cx_N 5 = 17 from rfl]; omega) ?_
  rw [show cx_N 5 = 17 from rfl]
  refine ex_dup ok2_X11_init (mi 42 rfl) rfl ?_
  refine ex_iload_n ok2_X11_init (mi 43 rfl) rfl ?_
  refine ex_aload_n ok2_X11_init (mi 44 rfl) rfl ?_
  have s18 := ST_N (k := 6) (l := 0) s17
  refine ex_getRx ok2_X11_init (mi 45 rfl) rfl rfl (sh_k s18.2.1 0 rfl) (sh_r s18.2.1 3 rfl) (sh_k s18.2.1 1 rfl) (by decide) ?_
  refine ex_aload_n ok2_X11_init (mi 46 rfl) rfl ?_
  refine ex_getRx ok2_X11_init (mi 47 rfl) rfl rfl (sh_k s18.2.1 0 rfl) (sh_r s18.2.1 4 rfl) (sh_k s18.2.1 3 rfl) (by decide) ?_
  refine ex_callIp ok2_X11_init (mi 48 rfl) rfl (m_X5_init (n := nI (0 + 1)) (air := x + 1) (groups := x + 807) hst kNew zNew (sh_k s18.2.1 1 rfl) (lt_st s18 (by decide)) (sh_k s18.2.1 3 rfl) (lt_st s18 (by decide))) rfl rfl rfl rfl (by decide) (Nat.le_of_ble_eq_true rfl) ⟨by omega, by omega⟩ (fun h19 e19 => ?_)
  have s19 := ST_leader (i := (0 + 1)) (ar := 1) (gp := 807) s17 e19
  refine ST_aast (n1 := 1) (i := 1) (t := 826) (a := 814) (N := 3) ok2_X11_init (mi 49 rfl) (by decide) s19 (sh_k s19.2.1 10 rfl) (sh_n s19.2.1 10 rfl) rfl (by decide) (by decide) s17.1 (sh_k s19.2.1 22 rfl) (by decide) (by decide) (by decide) (fun h20 s20 => ?_)
  refine ex_iinc ok2_X11_init (mi 50 rfl) rfl ?_
  refine ex_goto (tgt := 71) ok2_X11_init (mi 51 rfl) rfl ?_
  refine ex_ls (ls' := [(0, .ref x), (1, .int (nI (1 + 1)))]) ⟨rfl, by rw [nI_succ]; rfl, trivial⟩ ?_
  refine ex_iload_n ok2_X11_init (mi 35 rfl) rfl ?_
  refine ex_iconst ok2_X11_init (mi 36 rfl) ?_
  refine ex_icmp_ge (tgt := 104) ok2_X11_init (mi 37 rfl) rfl (fun hc => absurd hc (by decide)) (fun _ => ?_)
  refine ex_aload_n ok2_X11_init (mi 38 rfl) rfl ?_
  refine ex_getRx ok2_X11_init (mi 39 rfl) rfl rfl (sh_k s20.2.1 0 rfl) (sh_r s20.2.1 13 rfl) (sh_k s20.2.1 10 rfl) (by decide) ?_
  refine ex_iload_n ok2_X11_init (mi 40 rfl) rfl ?_
  refine ex_new ok2_X11_init (mi 41 rfl) rfl (by decide) (by omega) (by rw [show cx_N 5 = 17 from rfl]; omega) ?_
  rw [show cx_N 5 = 17 from rfl]
  refine ex_dup ok2_X11_init (mi 42 rfl) rfl ?_
  refine ex_iload_n ok2_X11_init (mi 43 rfl) rfl ?_
  refine ex_aload_n ok2_X11_init (mi 44 rfl) rfl ?_
  have s21 := ST_N (k := 6) (l := 0) s20
  refine ex_getRx ok2_X11_init (mi 45 rfl) rfl rfl (sh_k s21.2.1 0 rfl) (sh_r s21.2.1 3 rfl) (sh_k s21.2.1 1 rfl) (by decide) ?_
  refine ex_aload_n ok2_X11_init (mi 46 rfl) rfl ?_
  refine ex_getRx ok2_X11_init (mi 47 rfl) rfl rfl (sh_k s21.2.1 0 rfl) (sh_r s21.2.1 4 rfl) (sh_k s21.2.1 3 rfl) (by decide) ?_
  refine ex_callIp ok2_X11_init (mi 48 rfl) rfl (m_X5_init (n := nI (1 + 1)) (air := x + 1) (groups := x + 807) hst kNew zNew (sh_k s21.2.1 1 rfl) (lt_st s21 (by decide)) (sh_k s21.2.1 3 rfl) (lt_st s21 (by decide))) rfl rfl rfl rfl (by decide) (Nat.le_of_ble_eq_true rfl) ⟨by omega, by omega⟩ (fun h22 e22 => ?_)
  have s22 := ST_leader (i := (1 + 1)) (ar := 1) (gp := 807) s20 e22
  refine ST_aast (n1 := 1) (i := 2) (t := 837) (a := 814) (N := 3) ok2_X11_init (mi 49 rfl) (by decide) s22 (sh_k s22.2.1 10 rfl) (sh_n s22.2.1 10 rfl) rfl (by decide) (by decide) s20.1 (sh_k s22.2.1 33 rfl) (by decide) (by decide) (by decide) (fun h23 s23 => ?_)
  refine ex_iinc ok2_X11_init (mi 50 rfl) rfl ?_
  refine ex_goto (tgt := 71) ok2_X11_init (mi 51 rfl) rfl ?_
  refine ex_ls (ls' := [(0, .ref x), (1, .int (nI (2 + 1)))]) ⟨rfl, by rw [nI_succ]; rfl, trivial⟩ ?_
  refine ex_iload_n ok2_X11_init (mi 35 rfl) rfl ?_
  refine ex_iconst ok2_X11_init (mi 36 rfl) ?_
  refine ex_icmp_ge (tgt := 104) ok2_X11_init (mi 37 rfl) rfl (fun _ => ?_) (fun hc => absurd (by decide) hc)
  refine ex_aload_n ok2_X11_init (mi 52 rfl) rfl ?_
  refine ex_bipush ok2_X11_init (mi 53 rfl) ?_
  refine ex_anew2 (n := 2) (N := 9) ok2_X11_init (mi 54 rfl) rfl (by decide) (by decide) (by decide) (by decide) (by omega) (by omega) ?_
  have s24 := ST_N (k := 55) (l := 9) s23
  refine ST_put (t := 848) ok2_X11_init (mi 55 rfl) rfl rfl s24 (sh_k s24.2.1 0 rfl) s23.1 (sh_k s24.2.1 44 rfl) (by decide) (by decide) (fun h25 s25 => ?_)
  refine ex_iconst ok2_X11_init (mi 56 rfl) ?_
  refine ex_istore_n ok2_X11_init (mi 57 rfl) ?_
  refine ex_ls (ls' := [(0, .ref x), (1, .int (nI 0))]) ⟨rfl, rfl, trivial⟩ ?_
  refine ex_iload_n ok2_X11_init (mi 58 rfl) rfl ?_
  refine ex_bipush ok2_X11_init (mi 59 rfl) ?_
  refine ex_icmp_ge (tgt := 149) ok2_X11_init (mi 60 rfl) rfl (fun hc => absurd hc (by decide)) (fun _ => ?_)
  refine ex_aload_n ok2_X11_init (mi 61 rfl) rfl ?_
  refine ex_getRx ok2_X11_init (mi 62 rfl) rfl rfl (sh_k s25.2.1 0 rfl) (sh_r s25.2.1 56 rfl) (sh_k s25.2.1 44 rfl) (by decide) ?_
  refine ex_iload_n ok2_X11_init (mi 63 rfl) rfl ?_
  refine ex_new ok2_X11_init (mi 64 rfl) rfl (by decide) (by omega) (by rw [show cx_N 3 = 12 from rfl]; omega) ?_
  rw [show cx_N 3 = 12 from rfl]
  refine ex_dup ok2_X11_init (mi 65 rfl) rfl ?_
  refine ex_iload_n ok2_X11_init (mi 66 rfl) rfl ?_
  refine ex_aload_n ok2_X11_init (mi 67 rfl) rfl ?_
  have s26 := ST_N (k := 4) (l := 0) s25
  refine ex_getRx ok2_X11_init (mi 68 rfl) rfl rfl (sh_k s26.2.1 0 rfl) (sh_r s26.2.1 3 rfl) (sh_k s26.2.1 1 rfl) (by decide) ?_
  refine ex_aload_n ok2_X11_init (mi 69 rfl) rfl ?_
  refine ex_getRx ok2_X11_init (mi 70 rfl) rfl rfl (sh_k s26.2.1 0 rfl) (sh_r s26.2.1 4 rfl) (sh_k s26.2.1 3 rfl) (by decide) ?_
  refine ex_callIp ok2_X11_init (mi 71 rfl) rfl (m_X3_init (n := nI 0) (air := x + 1) (groups := x + 807) hst kNew zNew (sh_k s26.2.1 1 rfl) (lt_st s26 (by decide)) (sh_k s26.2.1 3 rfl) (lt_st s26 (by decide))) rfl rfl rfl rfl (by decide) (Nat.le_of_ble_eq_true rfl) ⟨by omega, by omega⟩ (fun h27 e27 => ?_)
  have s27 := ST_keeper (i := 0) (ar := 1) (gp := 807) s25 e27
  refine ST_aast (n1 := 2) (i := 0) (t := 849) (a := 848) (N := 9) ok2_X11_init (mi 72 rfl) (by decide) s27 (sh_k s27.2.1 44 rfl) (sh_n s27.2.1 44 rfl) rfl (by decide) (by decide) s25.1 (sh_k s27.2.1 45 rfl) (by decide) (by decide) (by decide) (fun h28 s28 => ?_)
  refine ex_iinc ok2_X11_init (mi 73 rfl) rfl ?_
  refine ex_goto (tgt := 115) ok2_X11_init (mi 74 rfl) rfl ?_
  refine ex_ls (ls' := [(0, .ref x), (1, .int (nI (0 + 1)))]) ⟨rfl, by rw [nI_succ]; rfl, trivial⟩ ?_
  refine ex_iload_n ok2_X11_init (mi 58 rfl) rfl ?_
  refine ex_bipush ok2_X11_init (mi 59 rfl) ?_
  refine ex_icmp_ge (tgt := 149) ok2_X11_init (mi 60 rfl) rfl (fun hc => absurd hc (by decide)) (fun _ => ?_)
  refine ex_aload_n ok2_X11_init (mi 61 rfl) rfl ?_
  refine ex_getRx ok2_X11_init (mi 62 rfl) rfl rfl (sh_k s28.2.1 0 rfl) (sh_r s28.2.1 56 rfl) (sh_k s28.2.1 44 rfl) (by decide) ?_
  refine ex_iload_n ok2_X11_init (mi 63 rfl) rfl ?_
  refine ex_new ok2_X11_init (mi 64 rfl) rfl (by decide) (by omega) (by rw [show cx_N 3 = 12 from rfl]; omega) ?_
  rw [show cx_N 3 = 12 from rfl]
  refine ex_dup ok2_X11_init (mi 65 rfl) rfl ?_
  refine ex_iload_n ok2_X11_init (mi 66 rfl) rfl ?_
  refine ex_aload_n ok2_X11_init (mi 67 rfl) rfl ?_
  have s29 := ST_N (k := 4) (l := 0) s28
  refine ex_getRx ok2_X11_init (mi 68 rfl) rfl rfl (sh_k s29.2.1 0 rfl) (sh_r s29.2.1 3 rfl) (sh_k s29.2.1 1 rfl) (by decide) ?_
  refine ex_aload_n ok2_X11_init (mi 69 rfl) rfl ?_
  refine ex_getRx ok2_X11_init (mi 70 rfl) rfl rfl (sh_k s29.2.1 0 rfl) (sh_r s29.2.1 4 rfl) (sh_k s29.2.1 3 rfl) (by decide) ?_
  refine ex_callIp ok2_X11_init (mi 71 rfl) rfl (m_X3_init (n := nI (0 + 1)) (air := x + 1) (groups := x + 807) hst kNew zNew (sh_k s29.2.1 1 rfl) (lt_st s29 (by decide)) (sh_k s29.2.1 3 rfl) (lt_st s29 (by decide))) rfl rfl rfl rfl (by decide) (Nat.le_of_ble_eq_true rfl) ⟨by omega, by omega⟩ (fun h30 e30 => ?_)
  have s30 := ST_keeper (i := (0 + 1)) (ar := 1) (gp := 807) s28 e30
  refine ST_aast (n1 := 2) (i := 1) (t := 851) (a := 848) (N := 9) ok2_X11_init (mi 72 rfl) (by decide) s30 (sh_k s30.2.1 44 rfl) (sh_n s30.2.1 44 rfl) rfl (by decide) (by decide) s28.1 (sh_k s30.2.1 47 rfl) (by decide) (by decide) (by decide) (fun h31 s31 => ?_)
  refine ex_iinc ok2_X11_init (mi 73 rfl) rfl ?_
  refine ex_goto (tgt := 115) ok2_X11_init (mi 74 rfl) rfl ?_
  refine ex_ls (ls' := [(0, .ref x), (1, .int (nI (1 + 1)))]) ⟨rfl, by rw [nI_succ]; rfl, trivial⟩ ?_
  refine ex_iload_n ok2_X11_init (mi 58 rfl) rfl ?_
  refine ex_bipush ok2_X11_init (mi 59 rfl) ?_
  refine ex_icmp_ge (tgt := 149) ok2_X11_init (mi 60 rfl) rfl (fun hc => absurd hc (by decide)) (fun _ => ?_)
  refine ex_aload_n ok2_X11_init (mi 61 rfl) rfl ?_
  refine ex_getRx ok2_X11_init (mi 62 rfl) rfl rfl (sh_k s31.2.1 0 rfl) (sh_r s31.2.1 56 rfl) (sh_k s31.2.1 44 rfl) (by decide) ?_
  refine ex_iload_n ok2_X11_init (mi 63 rfl) rfl ?_
  refine ex_new ok2_X11_init (mi 64 rfl) rfl (by decide) (by omega) (by rw [show cx_N 3 = 12 from rfl]; omega) ?_
  rw [show cx_N 3 = 12 from rfl]
  refine ex_dup ok2_X11_init (mi 65 rfl) rfl ?_
  refine ex_iload_n ok2_X11_init (mi 66 rfl) rfl ?_
  refine ex_aload_n ok2_X11_init (mi 67 rfl) rfl ?_
  have s32 := ST_N (k := 4) (l := 0) s31
  refine ex_getRx ok2_X11_init (mi 68 rfl) rfl rfl (sh_k s32.2.1 0 rfl) (sh_r s32.2.1 3 rfl) (sh_k s32.2.1 1 rfl) (by decide) ?_
  refine ex_aload_n ok2_X11_init (mi 69 rfl) rfl ?_
  refine ex_getRx ok2_X11_init (mi 70 rfl) rfl rfl (sh_k s32.2.1 0 rfl) (sh_r s32.2.1 4 rfl) (sh_k s32.2.1 3 rfl) (by decide) ?_
  refine ex_callIp ok2_X11_init (mi 71 rfl) rfl (m_X3_init (n := nI (1 + 1)) (air := x + 1) (groups := x + 807) hst kNew zNew (sh_k s32.2.1 1 rfl) (lt_st s32 (by decide)) (sh_k s32.2.1 3 rfl) (lt_st s32 (by decide))) rfl rfl rfl rfl (by decide) (Nat.le_of_ble_eq_true rfl) ⟨by omega, by omega⟩ (fun h33 e33 => ?_)
  have s33 := ST_keeper (i := (1 + 1)) (ar := 1) (gp := 807) s31 e33
  refine ST_aast (n1 := 2) (i := 2) (t := 853) (a := 848) (N := 9) ok2_X11_init (mi 72 rfl) (by decide) s33 (sh_k s33.2.1 44 rfl) (sh_n s33.2.1 44 rfl) rfl (by decide) (by decide) s31.1 (sh_k s33.2.1 49 rfl) (by decide) (by decide) (by decide) (fun h34 s34 => ?_)
  refine ex_iinc ok2_X11_init (mi 73 rfl) rfl ?_
  refine ex_goto (tgt := 115) ok2_X11_init (mi 74 rfl) rfl ?_
  refine ex_ls (ls' := [(0, .ref x), (1, .int (nI (2 + 1)))]) ⟨rfl, by rw [nI_succ]; rfl, trivial⟩ ?_
  refine ex_iload_n ok2_X11_init (mi 58 rfl) rfl ?_
  refine ex_bipush ok2_X11_init (mi 59 rfl) ?_
  refine ex_icmp_ge (tgt := 149) ok2_X11_init (mi 60 rfl) rfl (fun hc => absurd hc (by decide)) (fun _ => ?_)
  refine ex_aload_n ok2_X11_init (mi 61 rfl) rfl ?_
  refine ex_getRx ok2_X11_init (mi 62 rfl) rfl rfl (sh_k s34.2.1 0 rfl) (sh_r s34.2.1 56 rfl) (sh_k s34.2.1 44 rfl) (by decide) ?_
  refine ex_iload_n ok2_X11_init (mi 63 rfl) rfl ?_
  refine ex_new ok2_X11_init (mi 64 rfl) rfl (by decide) (by omega) (by rw [show cx_N 3 = 12 from rfl]; omega) ?_
  rw [show cx_N 3 = 12 from rfl]
  refine ex_dup ok2_X11_init (mi 65 rfl) rfl ?_
  refine ex_iload_n ok2_X11_init (mi 66 rfl) rfl ?_
  refine ex_aload_n ok2_X11_init (mi 67 rfl) rfl ?_
  have s35 := ST_N (k := 4) (l := 0) s34
  refine ex_getRx ok2_X11_init (mi 68 rfl) rfl rfl (sh_k s35.2.1 0 rfl) (sh_r s35.2.1 3 rfl) (sh_k s35.2.1 1 rfl) (by decide) ?_
  refine ex_aload_n ok2_X11_init (mi 69 rfl) rfl ?_
  refine ex_getRx ok2_X11_init (mi 70 rfl) rfl rfl (sh_k s35.2.1 0 rfl) (sh_r s35.2.1 4 rfl) (sh_k s35.2.1 3 rfl) (by decide) ?_
  refine ex_callIp ok2_X11_init (mi 71 rfl) rfl (m_X3_init (n := nI (2 + 1)) (air := x + 1) (groups := x + 807) hst kNew zNew (sh_k s35.2.1 1 rfl) (lt_st s35 (by decide)) (sh_k s35.2.1 3 rfl) (lt_st s35 (by decide))) rfl rfl rfl rfl (by decide) (Nat.le_of_ble_eq_true rfl) ⟨by omega, by omega⟩ (fun h36 e36 => ?_)
  have s36 := ST_keeper (i := (2 + 1)) (ar := 1) (gp := 807) s34 e36
  refine ST_aast (n1 := 2) (i := 3) (t := 855) (a := 848) (N := 9) ok2_X11_init (mi 72 rfl) (by decide) s36 (sh_k s36.2.1 44 rfl) (sh_n s36.2.1 44 rfl) rfl (by decide) (by decide) s34.1 (sh_k s36.2.1 51 rfl) (by decide) (by decide) (by decide) (fun h37 s37 => ?_)
  refine ex_iinc ok2_X11_init (mi 73 rfl) rfl ?_
  refine ex_goto (tgt := 115) ok2_X11_init (mi 74 rfl) rfl ?_
  refine ex_ls (ls' := [(0, .ref x), (1, .int (nI (3 + 1)))]) ⟨rfl, by rw [nI_succ]; rfl, trivial⟩ ?_
  refine ex_iload_n ok2_X11_init (mi 58 rfl) rfl ?_
  refine ex_bipush ok2_X11_init (mi 59 rfl) ?_
  refine ex_icmp_ge (tgt := 149) ok2_X11_init (mi 60 rfl) rfl (fun hc => absurd hc (by decide)) (fun _ => ?_)
  refine ex_aload_n ok2_X11_init (mi 61 rfl) rfl ?_
  refine ex_getRx ok2_X11_init (mi 62 rfl) rfl rfl (sh_k s37.2.1 0 rfl) (sh_r s37.2.1 56 rfl) (sh_k s37.2.1 44 rfl) (by decide) ?_
  refine ex_iload_n ok2_X11_init (mi 63 rfl) rfl ?_
  refine ex_new ok2_X11_init (mi 64 rfl) rfl (by decide) (by omega) (by rw [show cx_N 3 = 12 from rfl]; omega) ?_
  rw [show cx_N 3 = 12 from rfl]
  refine ex_dup ok2_X11_init (mi 65 rfl) rfl ?_
  refine ex_iload_n ok2_X11_init (mi 66 rfl) rfl ?_
  refine ex_aload_n ok2_X11_init (mi 67 rfl) rfl ?_
  have s38 := ST_N (k := 4) (l := 0) s37
  refine ex_getRx ok2_X11_init (mi 68 rfl) rfl rfl (sh_k s38.2.1 0 rfl) (sh_r s38.2.1 3 rfl) (sh_k s38.2.1 1 rfl) (by decide) ?_
  refine ex_aload_n ok2_X11_init (mi 69 rfl) rfl ?_
  refine ex_getRx ok2_X11_init (mi 70 rfl) rfl rfl (sh_k s38.2.1 0 rfl) (sh_r s38.2.1 4 rfl) (sh_k s38.2.1 3 rfl) (by decide) ?_
  refine ex_callIp ok2_X11_init (mi 71 rfl) rfl (m_X3_init (n := nI (3 + 1)) (air := x + 1) (groups := x + 807) hst kNew zNew (sh_k s38.2.1 1 rfl) (lt_st s38 (by decide)) (sh_k s38.2.1 3 rfl) (lt_st s38 (by decide))) rfl rfl rfl rfl (by decide) (Nat.le_of_ble_eq_true rfl) ⟨by omega, by omega⟩ (fun h39 e39 => ?_)
  have s39 := ST_keeper (i := (3 + 1)) (ar := 1) (gp := 807) s37 e39
  refine ST_aast (n1 := 2) (i := 4) (t := 857) (a := 848) (N := 9) ok2_X11_init (mi 72 rfl) (by decide) s39 (sh_k s39.2.1 44 rfl) (sh_n s39.2.1 44 rfl) rfl (by decide) (by decide) s37.1 (sh_k s39.2.1 53 rfl) (by decide) (by decide) (by decide) (fun h40 s40 => ?_)
  refine ex_iinc ok2_X11_init (mi 73 rfl) rfl ?_
  refine ex_goto (tgt := 115) ok2_X11_init (mi 74 rfl) rfl ?_
  refine ex_ls (ls' := [(0, .ref x), (1, .int (nI (4 + 1)))]) ⟨rfl, by rw [nI_succ]; rfl, trivial⟩ ?_
  refine ex_iload_n ok2_X11_init (mi 58 rfl) rfl ?_
  refine ex_bipush ok2_X11_init (mi 59 rfl) ?_
  refine ex_icmp_ge (tgt := 149) ok2_X11_init (mi 60 rfl) rfl (fun hc => absurd hc (by decide)) (fun _ => ?_)
  refine ex_aload_n ok2_X11_init (mi 61 rfl) rfl ?_
  refine ex_getRx ok2_X11_init (mi 62 rfl) rfl rfl (sh_k s40.2.1 0 rfl) (sh_r s40.2.1 56 rfl) (sh_k s40.2.1 44 rfl) (by decide) ?_
  refine ex_iload_n ok2_X11_init (mi 63 rfl) rfl ?_
  refine ex_new ok2_X11_init (mi 64 rfl) rfl (by decide) (by omega) (by rw [show cx_N 3 = 12 from rfl]; omega) ?_
  rw [show cx_N 3 = 12 from rfl]
  refine ex_dup ok2_X11_init (mi 65 rfl) rfl ?_
  refine ex_iload_n ok2_X11_init (mi 66 rfl) rfl ?_
  refine ex_aload_n ok2_X11_init (mi 67 rfl) rfl ?_
  have s41 := ST_N (k := 4) (l := 0) s40
  refine ex_getRx ok2_X11_init (mi 68 rfl) rfl rfl (sh_k s41.2.1 0 rfl) (sh_r s41.2.1 3 rfl) (sh_k s41.2.1 1 rfl) (by decide) ?_
  refine ex_aload_n ok2_X11_init (mi 69 rfl) rfl ?_
  refine ex_getRx ok2_X11_init (mi 70 rfl) rfl rfl (sh_k s41.2.1 0 rfl) (sh_r s41.2.1 4 rfl) (sh_k s41.2.1 3 rfl) (by decide) ?_
  refine ex_callIp ok2_X11_init (mi 71 rfl) rfl (m_X3_init (n := nI (4 + 1)) (air := x + 1) (groups := x + 807) hst kNew zNew (sh_k s41.2.1 1 rfl) (lt_st s41 (by decide)) (sh_k s41.2.1 3 rfl) (lt_st s41 (by decide))) rfl rfl rfl rfl (by decide) (Nat.le_of_ble_eq_true rfl) ⟨by omega, by omega⟩ (fun h42 e42 => ?_)
  have s42 := ST_keeper (i := (4 + 1)) (ar := 1) (gp := 807) s40 e42
  refine ST_aast (n1 := 2) (i := 5) (t := 859) (a := 848) (N := 9) ok2_X11_init (mi 72 rfl) (by decide) s42 (sh_k s42.2.1 44 rfl) (sh_n s42.2.1 44 rfl) rfl (by decide) (by decide) s40.1 (sh_k s42.2.1 55 rfl) (by decide) (by decide) (by decide) (fun h43 s43 => ?_)
  refine ex_iinc ok2_X11_init (mi 73 rfl) rfl ?_
  refine ex_goto (tgt := 115) ok2_X11_init (mi 74 rfl) rfl ?_
  refine ex_ls (ls' := [(0, .ref x), (1, .int (nI (5 + 1)))]) ⟨rfl, by rw [nI_succ]; rfl, trivial⟩ ?_
  refine ex_iload_n ok2_X11_init (mi 58 rfl) rfl ?_
  refine ex_bipush ok2_X11_init (mi 59 rfl) ?_
  refine ex_icmp_ge (tgt := 149) ok2_X11_init (mi 60 rfl) rfl (fun hc => absurd hc (by decide)) (fun _ => ?_)
  refine ex_aload_n ok2_X11_init (mi 61 rfl) rfl ?_
  refine ex_getRx ok2_X11_init (mi 62 rfl) rfl rfl (sh_k s43.2.1 0 rfl) (sh_r s43.2.1 56 rfl) (sh_k s43.2.1 44 rfl) (by decide) ?_
  refine ex_iload_n ok2_X11_init (mi 63 rfl) rfl ?_
  refine ex_new ok2_X11_init (mi 64 rfl) rfl (by decide) (by omega) (by rw [show cx_N 3 = 12 from rfl]; omega) ?_
  rw [show cx_N 3 = 12 from rfl]
  refine ex_dup ok2_X11_init (mi 65 rfl) rfl ?_
  refine ex_iload_n ok2_X11_init (mi 66 rfl) rfl ?_
  refine ex_aload_n ok2_X11_init (mi 67 rfl) rfl ?_
  have s44 := ST_N (k := 4) (l := 0) s43
  refine ex_getRx ok2_X11_init (mi 68 rfl) rfl rfl (sh_k s44.2.1 0 rfl) (sh_r s44.2.1 3 rfl) (sh_k s44.2.1 1 rfl) (by decide) ?_
  refine ex_aload_n ok2_X11_init (mi 69 rfl) rfl ?_
  refine ex_getRx ok2_X11_init (mi 70 rfl) rfl rfl (sh_k s44.2.1 0 rfl) (sh_r s44.2.1 4 rfl) (sh_k s44.2.1 3 rfl) (by decide) ?_
  refine ex_callIp ok2_X11_init (mi 71 rfl) rfl (m_X3_init (n := nI (5 + 1)) (air := x + 1) (groups := x + 807) hst kNew zNew (sh_k s44.2.1 1 rfl) (lt_st s44 (by decide)) (sh_k s44.2.1 3 rfl) (lt_st s44 (by decide))) rfl rfl rfl rfl (by decide) (Nat.le_of_ble_eq_true rfl) ⟨by omega, by omega⟩ (fun h45 e45 => ?_)
  have s45 := ST_keeper (i := (5 + 1)) (ar := 1) (gp := 807) s43 e45
  refine ST_aast (n1 := 2) (i := 6) (t := 861) (a := 848) (N := 9) ok2_X11_init (mi 72 rfl) (by decide) s45 (sh_k s45.2.1 44 rfl) (sh_n s45.2.1 44 rfl) rfl (by decide) (by decide) s43.1 (sh_k s45.2.1 57 rfl) (by decide) (by decide) (by decide) (fun h46 s46 => ?_)
  refine ex_iinc ok2_X11_init (mi 73 rfl) rfl ?_
  refine ex_goto (tgt := 115) ok2_X11_init (mi 74 rfl) rfl ?_
  refine ex_ls (ls' := [(0, .ref x), (1, .int (nI (6 + 1)))]) ⟨rfl, by rw [nI_succ]; rfl, trivial⟩ ?_
  refine ex_iload_n ok2_X11_init (mi 58 rfl) rfl ?_
  refine ex_bipush ok2_X11_init (mi 59 rfl) ?_
  refine ex_icmp_ge (tgt := 149) ok2_X11_init (mi 60 rfl) rfl (fun hc => absurd hc (by decide)) (fun _ => ?_)
  refine ex_aload_n ok2_X11_init (mi 61 rfl) rfl ?_
  refine ex_getRx ok2_X11_init (mi 62 rfl) rfl rfl (sh_k s46.2.1 0 rfl) (sh_r s46.2.1 56 rfl) (sh_k s46.2.1 44 rfl) (by decide) ?_
  refine ex_iload_n ok2_X11_init (mi 63 rfl) rfl ?_
  refine ex_new ok2_X11_init (mi 64 rfl) rfl (by decide) (by omega) (by rw [show cx_N 3 = 12 from rfl]; omega) ?_
  rw [show cx_N 3 = 12 from rfl]
  refine ex_dup ok2_X11_init (mi 65 rfl) rfl ?_
  refine ex_iload_n ok2_X11_init (mi 66 rfl) rfl ?_
  refine ex_aload_n ok2_X11_init (mi 67 rfl) rfl ?_
  have s47 := ST_N (k := 4) (l := 0) s46
  refine ex_getRx ok2_X11_init (mi 68 rfl) rfl rfl (sh_k s47.2.1 0 rfl) (sh_r s47.2.1 3 rfl) (sh_k s47.2.1 1 rfl) (by decide) ?_
  refine ex_aload_n ok2_X11_init (mi 69 rfl) rfl ?_
  refine ex_getRx ok2_X11_init (mi 70 rfl) rfl rfl (sh_k s47.2.1 0 rfl) (sh_r s47.2.1 4 rfl) (sh_k s47.2.1 3 rfl) (by decide) ?_
  refine ex_callIp ok2_X11_init (mi 71 rfl) rfl (m_X3_init (n := nI (6 + 1)) (air := x + 1) (groups := x + 807) hst kNew zNew (sh_k s47.2.1 1 rfl) (lt_st s47 (by decide)) (sh_k s47.2.1 3 rfl) (lt_st s47 (by decide))) rfl rfl rfl rfl (by decide) (Nat.le_of_ble_eq_true rfl) ⟨by omega, by omega⟩ (fun h48 e48 => ?_)
  have s48 := ST_keeper (i := (6 + 1)) (ar := 1) (gp := 807) s46 e48
  refine ST_aast (n1 := 2) (i := 7) (t := 863) (a := 848) (N := 9) ok2_X11_init (mi 72 rfl) (by decide) s48 (sh_k s48.2.1 44 rfl) (sh_n s48.2.1 44 rfl) rfl (by decide) (by decide) s46.1 (sh_k s48.2.1 59 rfl) (by decide) (by decide) (by decide) (fun h49 s49 => ?_)
  refine ex_iinc ok2_X11_init (mi 73 rfl) rfl ?_
  refine ex_goto (tgt := 115) ok2_X11_init (mi 74 rfl) rfl ?_
  refine ex_ls (ls' := [(0, .ref x), (1, .int (nI (7 + 1)))]) ⟨rfl, by rw [nI_succ]; rfl, trivial⟩ ?_
  refine ex_iload_n ok2_X11_init (mi 58 rfl) rfl ?_
  refine ex_bipush ok2_X11_init (mi 59 rfl) ?_
  refine ex_icmp_ge (tgt := 149) ok2_X11_init (mi 60 rfl) rfl (fun hc => absurd hc (by decide)) (fun _ => ?_)
  refine ex_aload_n ok2_X11_init (mi 61 rfl) rfl ?_
  refine ex_getRx ok2_X11_init (mi 62 rfl) rfl rfl (sh_k s49.2.1 0 rfl) (sh_r s49.2.1 56 rfl) (sh_k s49.2.1 44 rfl) (by decide) ?_
  refine ex_iload_n ok2_X11_init (mi 63 rfl) rfl ?_
  refine ex_new ok2_X11_init (mi 64 rfl) rfl (by decide) (by omega) (by rw [show cx_N 3 = 12 from rfl]; omega) ?_
  rw [show cx_N 3 = 12 from rfl]
  refine ex_dup ok2_X11_init (mi 65 rfl) rfl ?_
  refine ex_iload_n ok2_X11_init (mi 66 rfl) rfl ?_
  refine ex_aload_n ok2_X11_init (mi 67 rfl) rfl ?_
  have s50 := ST_N (k := 4) (l := 0) s49
  refine ex_getRx ok2_X11_init (mi 68 rfl) rfl rfl (sh_k s50.2.1 0 rfl) (sh_r s50.2.1 3 rfl) (sh_k s50.2.1 1 rfl) (by decide) ?_
  refine ex_aload_n ok2_X11_init (mi 69 rfl) rfl ?_
  refine ex_getRx ok2_X11_init (mi 70 rfl) rfl rfl (sh_k s50.2.1 0 rfl) (sh_r s50.2.1 4 rfl) (sh_k s50.2.1 3 rfl) (by decide) ?_
  refine ex_callIp ok2_X11_init (mi 71 rfl) rfl (m_X3_init (n := nI (7 + 1)) (air := x + 1) (groups := x + 807) hst kNew zNew (sh_k s50.2.1 1 rfl) (lt_st s50 (by decide)) (sh_k s50.2.1 3 rfl) (lt_st s50 (by decide))) rfl rfl rfl rfl (by decide) (Nat.le_of_ble_eq_true rfl) ⟨by omega, by omega⟩ (fun h51 e51 => ?_)
  have s51 := ST_keeper (i := (7 + 1)) (ar := 1) (gp := 807) s49 e51
  refine ST_aast (n1 := 2) (i := 8) (t := 865) (a := 848) (N := 9) ok2_X11_init (mi 72 rfl) (by decide) s51 (sh_k s51.2.1 44 rfl) (sh_n s51.2.1 44 rfl) rfl (by decide) (by decide) s49.1 (sh_k s51.2.1 61 rfl) (by decide) (by decide) (by decide) (fun h52 s52 => ?_)
  refine ex_iinc ok2_X11_init (mi 73 rfl) rfl ?_
  refine ex_goto (tgt := 115) ok2_X11_init (mi 74 rfl) rfl ?_
  refine ex_ls (ls' := [(0, .ref x), (1, .int (nI (8 + 1)))]) ⟨rfl, by rw [nI_succ]; rfl, trivial⟩ ?_
  refine ex_iload_n ok2_X11_init (mi 58 rfl) rfl ?_
  refine ex_bipush ok2_X11_init (mi 59 rfl) ?_
  refine ex_icmp_ge (tgt := 149) ok2_X11_init (mi 60 rfl) rfl (fun _ => ?_) (fun hc => absurd (by decide) hc)
  refine ex_aload_n ok2_X11_init (mi 75 rfl) rfl ?_
  refine ex_bipush ok2_X11_init (mi 76 rfl) ?_
  refine ex_anew2 (n := 3) (N := 12) ok2_X11_init (mi 77 rfl) rfl (by decide) (by decide) (by decide) (by decide) (by omega) (by omega) ?_
  have s53 := ST_N (k := 56) (l := 12) s52
  refine ST_put (t := 867) ok2_X11_init (mi 78 rfl) rfl rfl s53 (sh_k s53.2.1 0 rfl) s52.1 (sh_k s53.2.1 63 rfl) (by decide) (by decide) (fun h54 s54 => ?_)
  refine ex_iconst ok2_X11_init (mi 79 rfl) ?_
  refine ex_istore_n ok2_X11_init (mi 80 rfl) ?_
  refine ex_ls (ls' := [(0, .ref x), (1, .int (nI 0))]) ⟨rfl, rfl, trivial⟩ ?_
  refine ex_iload_n ok2_X11_init (mi 81 rfl) rfl ?_
  refine ex_bipush ok2_X11_init (mi 82 rfl) ?_
  refine ex_icmp_ge (tgt := 194) ok2_X11_init (mi 83 rfl) rfl (fun hc => absurd hc (by decide)) (fun _ => ?_)
  refine ex_aload_n ok2_X11_init (mi 84 rfl) rfl ?_
  refine ex_getRx ok2_X11_init (mi 85 rfl) rfl rfl (sh_k s54.2.1 0 rfl) (sh_r s54.2.1 84 rfl) (sh_k s54.2.1 63 rfl) (by decide) ?_
  refine ex_iload_n ok2_X11_init (mi 86 rfl) rfl ?_
  refine ex_new ok2_X11_init (mi 87 rfl) rfl (by decide) (by omega) (by rw [show cx_N 10 = 6 from rfl]; omega) ?_
  rw [show cx_N 10 = 6 from rfl]
  refine ex_dup ok2_X11_init (mi 88 rfl) rfl ?_
  refine ex_iload_n ok2_X11_init (mi 89 rfl) rfl ?_
  refine ex_aload_n ok2_X11_init (mi 90 rfl) rfl ?_
  have s55 := ST_N (k := 11) (l := 0) s54
  refine ex_getRx ok2_X11_init (mi 91 rfl) rfl rfl (sh_k s55.2.1 0 rfl) (sh_r s55.2.1 3 rfl) (sh_k s55.2.1 1 rfl) (by decide) ?_
  refine ex_aload_n ok2_X11_init (mi 92 rfl) rfl ?_
  refine ex_getRx ok2_X11_init (mi 93 rfl) rfl rfl (sh_k s55.2.1 0 rfl) (sh_r s55.2.1 8 rfl) (sh_k s55.2.1 4 rfl) (by decide) ?_
  refine ex_callIp ok2_X11_init (mi 94 rfl) rfl (m_X10_init (n := nI 0) (air := x + 1) (tally := x + 808) hst kNew zNew (sh_k s55.2.1 1 rfl) (lt_st s55 (by decide)) (sh_k s55.2.1 4 rfl) (lt_st s55 (by decide))) rfl rfl rfl rfl (by decide) (Nat.le_of_ble_eq_true rfl) ⟨by omega, by omega⟩ (fun h56 e56 => ?_)
  have s56 := ST_voter (i := 0) (ar := 1) (tl := 808) s54 e56
  refine ST_aast (n1 := 3) (i := 0) (t := 868) (a := 867) (N := 12) ok2_X11_init (mi 95 rfl) (by decide) s56 (sh_k s56.2.1 63 rfl) (sh_n s56.2.1 63 rfl) rfl (by decide) (by decide) s54.1 (sh_k s56.2.1 64 rfl) (by decide) (by decide) (by decide) (fun h57 s57 => ?_)
  refine ex_iinc ok2_X11_init (mi 96 rfl) rfl ?_
  refine ex_goto (tgt := 160) ok2_X11_init (mi 97 rfl) rfl ?_
  refine ex_ls (ls' := [(0, .ref x), (1, .int (nI (0 + 1)))]) ⟨rfl, by rw [nI_succ]; rfl, trivial⟩ ?_
  refine ex_iload_n ok2_X11_init (mi 81 rfl) rfl ?_
  refine ex_bipush ok2_X11_init (mi 82 rfl) ?_
  refine ex_icmp_ge (tgt := 194) ok2_X11_init (mi 83 rfl) rfl (fun hc => absurd hc (by decide)) (fun _ => ?_)
  refine ex_aload_n ok2_X11_init (mi 84 rfl) rfl ?_
  refine ex_getRx ok2_X11_init (mi 85 rfl) rfl rfl (sh_k s57.2.1 0 rfl) (sh_r s57.2.1 84 rfl) (sh_k s57.2.1 63 rfl) (by decide) ?_
  refine ex_iload_n ok2_X11_init (mi 86 rfl) rfl ?_
  refine ex_new ok2_X11_init (mi 87 rfl) rfl (by decide) (by omega) (by rw [show cx_N 10 = 6 from rfl]; omega) ?_
  rw [show cx_N 10 = 6 from rfl]
  refine ex_dup ok2_X11_init (mi 88 rfl) rfl ?_
  refine ex_iload_n ok2_X11_init (mi 89 rfl) rfl ?_
  refine ex_aload_n ok2_X11_init (mi 90 rfl) rfl ?_
  have s58 := ST_N (k := 11) (l := 0) s57
  refine ex_getRx ok2_X11_init (mi 91 rfl) rfl rfl (sh_k s58.2.1 0 rfl) (sh_r s58.2.1 3 rfl) (sh_k s58.2.1 1 rfl) (by decide) ?_
  refine ex_aload_n ok2_X11_init (mi 92 rfl) rfl ?_
  refine ex_getRx ok2_X11_init (mi 93 rfl) rfl rfl (sh_k s58.2.1 0 rfl) (sh_r s58.2.1 8 rfl) (sh_k s58.2.1 4 rfl) (by decide) ?_
  refine ex_callIp ok2_X11_init (mi 94 rfl) rfl (m_X10_init (n := nI (0 + 1)) (air := x + 1) (tally := x + 808) hst kNew zNew (sh_k s58.2.1 1 rfl) (lt_st s58 (by decide)) (sh_k s58.2.1 4 rfl) (lt_st s58 (by decide))) rfl rfl rfl rfl (by decide) (Nat.le_of_ble_eq_true rfl) ⟨by omega, by omega⟩ (fun h59 e59 => ?_)
  have s59 := ST_voter (i := (0 + 1)) (ar := 1) (tl := 808) s57 e59
  refine ST_aast (n1 := 3) (i := 1) (t := 870) (a := 867) (N := 12) ok2_X11_init (mi 95 rfl) (by decide) s59 (sh_k s59.2.1 63 rfl) (sh_n s59.2.1 63 rfl) rfl (by decide) (by decide) s57.1 (sh_k s59.2.1 66 rfl) (by decide) (by decide) (by decide) (fun h60 s60 => ?_)
  refine ex_iinc ok2_X11_init (mi 96 rfl) rfl ?_
  refine ex_goto (tgt := 160) ok2_X11_init (mi 97 rfl) rfl ?_
  refine ex_ls (ls' := [(0, .ref x), (1, .int (nI (1 + 1)))]) ⟨rfl, by rw [nI_succ]; rfl, trivial⟩ ?_
  refine ex_iload_n ok2_X11_init (mi 81 rfl) rfl ?_
  refine ex_bipush ok2_X11_init (mi 82 rfl) ?_
  refine ex_icmp_ge (tgt := 194) ok2_X11_init (mi 83 rfl) rfl (fun hc => absurd hc (by decide)) (fun _ => ?_)
  refine ex_aload_n ok2_X11_init (mi 84 rfl) rfl ?_
  refine ex_getRx ok2_X11_init (mi 85 rfl) rfl rfl (sh_k s60.2.1 0 rfl) (sh_r s60.2.1 84 rfl) (sh_k s60.2.1 63 rfl) (by decide) ?_
  refine ex_iload_n ok2_X11_init (mi 86 rfl) rfl ?_
  refine ex_new ok2_X11_init (mi 87 rfl) rfl (by decide) (by omega) (by rw [show cx_N 10 = 6 from rfl]; omega) ?_
  rw [show cx_N 10 = 6 from rfl]
  refine ex_dup ok2_X11_init (mi 88 rfl) rfl ?_
  refine ex_iload_n ok2_X11_init (mi 89 rfl) rfl ?_
  refine ex_aload_n ok2_X11_init (mi 90 rfl) rfl ?_
  have s61 := ST_N (k := 11) (l := 0) s60
  refine ex_getRx ok2_X11_init (mi 91 rfl) rfl rfl (sh_k s61.2.1 0 rfl) (sh_r s61.2.1 3 rfl) (sh_k s61.2.1 1 rfl) (by decide) ?_
  refine ex_aload_n ok2_X11_init (mi 92 rfl) rfl ?_
  refine ex_getRx ok2_X11_init (mi 93 rfl) rfl rfl (sh_k s61.2.1 0 rfl) (sh_r s61.2.1 8 rfl) (sh_k s61.2.1 4 rfl) (by decide) ?_
  refine ex_callIp ok2_X11_init (mi 94 rfl) rfl (m_X10_init (n := nI (1 + 1)) (air := x + 1) (tally := x + 808) hst kNew zNew (sh_k s61.2.1 1 rfl) (lt_st s61 (by decide)) (sh_k s61.2.1 4 rfl) (lt_st s61 (by decide))) rfl rfl rfl rfl (by decide) (Nat.le_of_ble_eq_true rfl) ⟨by omega, by omega⟩ (fun h62 e62 => ?_)
  have s62 := ST_voter (i := (1 + 1)) (ar := 1) (tl := 808) s60 e62
  refine ST_aast (n1 := 3) (i := 2) (t := 872) (a := 867) (N := 12) ok2_X11_init (mi 95 rfl) (by decide) s62 (sh_k s62.2.1 63 rfl) (sh_n s62.2.1 63 rfl) rfl (by decide) (by decide) s60.1 (sh_k s62.2.1 68 rfl) (by decide) (by decide) (by decide) (fun h63 s63 => ?_)
  refine ex_iinc ok2_X11_init (mi 96 rfl) rfl ?_
  refine ex_goto (tgt := 160) ok2_X11_init (mi 97 rfl) rfl ?_
  refine ex_ls (ls' := [(0, .ref x), (1, .int (nI (2 + 1)))]) ⟨rfl, by rw [nI_succ]; rfl, trivial⟩ ?_
  refine ex_iload_n ok2_X11_init (mi 81 rfl) rfl ?_
  refine ex_bipush ok2_X11_init (mi 82 rfl) ?_
  refine ex_icmp_ge (tgt := 194) ok2_X11_init (mi 83 rfl) rfl (fun hc => absurd hc (by decide)) (fun _ => ?_)
  refine ex_aload_n ok2_X11_init (mi 84 rfl) rfl ?_
  refine ex_getRx ok2_X11_init (mi 85 rfl) rfl rfl (sh_k s63.2.1 0 rfl) (sh_r s63.2.1 84 rfl) (sh_k s63.2.1 63 rfl) (by decide) ?_
  refine ex_iload_n ok2_X11_init (mi 86 rfl) rfl ?_
  refine ex_new ok2_X11_init (mi 87 rfl) rfl (by decide) (by omega) (by rw [show cx_N 10 = 6 from rfl]; omega) ?_
  rw [show cx_N 10 = 6 from rfl]
  refine ex_dup ok2_X11_init (mi 88 rfl) rfl ?_
  refine ex_iload_n ok2_X11_init (mi 89 rfl) rfl ?_
  refine ex_aload_n ok2_X11_init (mi 90 rfl) rfl ?_
  have s64 := ST_N (k := 11) (l := 0) s63
  refine ex_getRx ok2_X11_init (mi 91 rfl) rfl rfl (sh_k s64.2.1 0 rfl) (sh_r s64.2.1 3 rfl) (sh_k s64.2.1 1 rfl) (by decide) ?_
  refine ex_aload_n ok2_X11_init (mi 92 rfl) rfl ?_
  refine ex_getRx ok2_X11_init (mi 93 rfl) rfl rfl (sh_k s64.2.1 0 rfl) (sh_r s64.2.1 8 rfl) (sh_k s64.2.1 4 rfl) (by decide) ?_
  refine ex_callIp ok2_X11_init (mi 94 rfl) rfl (m_X10_init (n := nI (2 + 1)) (air := x + 1) (tally := x + 808) hst kNew zNew (sh_k s64.2.1 1 rfl) (lt_st s64 (by decide)) (sh_k s64.2.1 4 rfl) (lt_st s64 (by decide))) rfl rfl rfl rfl (by decide) (Nat.le_of_ble_eq_true rfl) ⟨by omega, by omega⟩ (fun h65 e65 => ?_)
  have s65 := ST_voter (i := (2 + 1)) (ar := 1) (tl := 808) s63 e65
  refine ST_aast (n1 := 3) (i := 3) (t := 874) (a := 867) (N := 12) ok2_X11_init (mi 95 rfl) (by decide) s65 (sh_k s65.2.1 63 rfl) (sh_n s65.2.1 63 rfl) rfl (by decide) (by decide) s63.1 (sh_k s65.2.1 70 rfl) (by decide) (by decide) (by decide) (fun h66 s66 => ?_)
  refine ex_iinc ok2_X11_init (mi 96 rfl) rfl ?_
  refine ex_goto (tgt := 160) ok2_X11_init (mi 97 rfl) rfl ?_
  refine ex_ls (ls' := [(0, .ref x), (1, .int (nI (3 + 1)))]) ⟨rfl, by rw [nI_succ]; rfl, trivial⟩ ?_
  refine ex_iload_n ok2_X11_init (mi 81 rfl) rfl ?_
  refine ex_bipush ok2_X11_init (mi 82 rfl) ?_
  refine ex_icmp_ge (tgt := 194) ok2_X11_init (mi 83 rfl) rfl (fun hc => absurd hc (by decide)) (fun _ => ?_)
  refine ex_aload_n ok2_X11_init (mi 84 rfl) rfl ?_
  refine ex_getRx ok2_X11_init (mi 85 rfl) rfl rfl (sh_k s66.2.1 0 rfl) (sh_r s66.2.1 84 rfl) (sh_k s66.2.1 63 rfl) (by decide) ?_
  refine ex_iload_n ok2_X11_init (mi 86 rfl) rfl ?_
  refine ex_new ok2_X11_init (mi 87 rfl) rfl (by decide) (by omega) (by rw [show cx_N 10 = 6 from rfl]; omega) ?_
  rw [show cx_N 10 = 6 from rfl]
  refine ex_dup ok2_X11_init (mi 88 rfl) rfl ?_
  refine ex_iload_n ok2_X11_init (mi 89 rfl) rfl ?_
  refine ex_aload_n ok2_X11_init (mi 90 rfl) rfl ?_
  have s67 := ST_N (k := 11) (l := 0) s66
  refine ex_getRx ok2_X11_init (mi 91 rfl) rfl rfl (sh_k s67.2.1 0 rfl) (sh_r s67.2.1 3 rfl) (sh_k s67.2.1 1 rfl) (by decide) ?_
  refine ex_aload_n ok2_X11_init (mi 92 rfl) rfl ?_
  refine ex_getRx ok2_X11_init (mi 93 rfl) rfl rfl (sh_k s67.2.1 0 rfl) (sh_r s67.2.1 8 rfl) (sh_k s67.2.1 4 rfl) (by decide) ?_
  refine ex_callIp ok2_X11_init (mi 94 rfl) rfl (m_X10_init (n := nI (3 + 1)) (air := x + 1) (tally := x + 808) hst kNew zNew (sh_k s67.2.1 1 rfl) (lt_st s67 (by decide)) (sh_k s67.2.1 4 rfl) (lt_st s67 (by decide))) rfl rfl rfl rfl (by decide) (Nat.le_of_ble_eq_true rfl) ⟨by omega, by omega⟩ (fun h68 e68 => ?_)
  have s68 := ST_voter (i := (3 + 1)) (ar := 1) (tl := 808) s66 e68
  refine ST_aast (n1 := 3) (i := 4) (t := 876) (a := 867) (N := 12) ok2_X11_init (mi 95 rfl) (by decide) s68 (sh_k s68.2.1 63 rfl) (sh_n s68.2.1 63 rfl) rfl (by decide) (by decide) s66.1 (sh_k s68.2.1 72 rfl) (by decide) (by decide) (by decide) (fun h69 s69 => ?_)
  refine ex_iinc ok2_X11_init (mi 96 rfl) rfl ?_
  refine ex_goto (tgt := 160) ok2_X11_init (mi 97 rfl) rfl ?_
  refine ex_ls (ls' := [(0, .ref x), (1, .int (nI (4 + 1)))]) ⟨rfl, by rw [nI_succ]; rfl, trivial⟩ ?_
  refine ex_iload_n ok2_X11_init (mi 81 rfl) rfl ?_
  refine ex_bipush ok2_X11_init (mi 82 rfl) ?_
  refine ex_icmp_ge (tgt := 194) ok2_X11_init (mi 83 rfl) rfl (fun hc => absurd hc (by decide)) (fun _ => ?_)
  refine ex_aload_n ok2_X11_init (mi 84 rfl) rfl ?_
  refine ex_getRx ok2_X11_init (mi 85 rfl) rfl rfl (sh_k s69.2.1 0 rfl) (sh_r s69.2.1 84 rfl) (sh_k s69.2.1 63 rfl) (by decide) ?_
  refine ex_iload_n ok2_X11_init (mi 86 rfl) rfl ?_
  refine ex_new ok2_X11_init (mi 87 rfl) rfl (by decide) (by omega) (by rw [show cx_N 10 = 6 from rfl]; omega) ?_
  rw [show cx_N 10 = 6 from rfl]
  refine ex_dup ok2_X11_init (mi 88 rfl) rfl ?_
  refine ex_iload_n ok2_X11_init (mi 89 rfl) rfl ?_
  refine ex_aload_n ok2_X11_init (mi 90 rfl) rfl ?_
  have s70 := ST_N (k := 11) (l := 0) s69
  refine ex_getRx ok2_X11_init (mi 91 rfl) rfl rfl (sh_k s70.2.1 0 rfl) (sh_r s70.2.1 3 rfl) (sh_k s70.2.1 1 rfl) (by decide) ?_
  refine ex_aload_n ok2_X11_init (mi 92 rfl) rfl ?_
  refine ex_getRx ok2_X11_init (mi 93 rfl) rfl rfl (sh_k s70.2.1 0 rfl) (sh_r s70.2.1 8 rfl) (sh_k s70.2.1 4 rfl) (by decide) ?_
  refine ex_callIp ok2_X11_init (mi 94 rfl) rfl (m_X10_init (n := nI (4 + 1)) (air := x + 1) (tally := x + 808) hst kNew zNew (sh_k s70.2.1 1 rfl) (lt_st s70 (by decide)) (sh_k s70.2.1 4 rfl) (lt_st s70 (by decide))) rfl rfl rfl rfl (by decide) (Nat.le_of_ble_eq_true rfl) ⟨by omega, by omega⟩ (fun h71 e71 => ?_)
  have s71 := ST_voter (i := (4 + 1)) (ar := 1) (tl := 808) s69 e71
  refine ST_aast (n1 := 3) (i := 5) (t := 878) (a := 867) (N := 12) ok2_X11_init (mi 95 rfl) (by decide) s71 (sh_k s71.2.1 63 rfl) (sh_n s71.2.1 63 rfl) rfl (by decide) (by decide) s69.1 (sh_k s71.2.1 74 rfl) (by decide) (by decide) (by decide) (fun h72 s72 => ?_)
  refine ex_iinc ok2_X11_init (mi 96 rfl) rfl ?_
  refine ex_goto (tgt := 160) ok2_X11_init (mi 97 rfl) rfl ?_
  refine ex_ls (ls' := [(0, .ref x), (1, .int (nI (5 + 1)))]) ⟨rfl, by rw [nI_succ]; rfl, trivial⟩ ?_
  refine ex_iload_n ok2_X11_init (mi 81 rfl) rfl ?_
  refine ex_bipush ok2_X11_init (mi 82 rfl) ?_
  refine ex_icmp_ge (tgt := 194) ok2_X11_init (mi 83 rfl) rfl (fun hc => absurd hc (by decide)) (fun _ => ?_)
  refine ex_aload_n ok2_X11_init (mi 84 rfl) rfl ?_
  refine ex_getRx ok2_X11_init (mi 85 rfl) rfl rfl (sh_k s72.2.1 0 rfl) (sh_r s72.2.1 84 rfl) (sh_k s72.2.1 63 rfl) (by decide) ?_
  refine ex_iload_n ok2_X11_init (mi 86 rfl) rfl ?_
  refine ex_new ok2_X11_init (mi 87 rfl) rfl (by decide) (by omega) (by rw [show cx_N 10 = 6 from rfl]; omega) ?_
  rw [show cx_N 10 = 6 from rfl]
  refine ex_dup ok2_X11_init (mi 88 rfl) rfl ?_
  refine ex_iload_n ok2_X11_init (mi 89 rfl) rfl ?_
  refine ex_aload_n ok2_X11_init (mi 90 rfl) rfl ?_
  have s73 := ST_N (k := 11) (l := 0) s72
  refine ex_getRx ok2_X11_init (mi 91 rfl) rfl rfl (sh_k s73.2.1 0 rfl) (sh_r s73.2.1 3 rfl) (sh_k s73.2.1 1 rfl) (by decide) ?_
  refine ex_aload_n ok2_X11_init (mi 92 rfl) rfl ?_
  refine ex_getRx ok2_X11_init (mi 93 rfl) rfl rfl (sh_k s73.2.1 0 rfl) (sh_r s73.2.1 8 rfl) (sh_k s73.2.1 4 rfl) (by decide) ?_
  refine ex_callIp ok2_X11_init (mi 94 rfl) rfl (m_X10_init (n := nI (5 + 1)) (air := x + 1) (tally := x + 808) hst kNew zNew (sh_k s73.2.1 1 rfl) (lt_st s73 (by decide)) (sh_k s73.2.1 4 rfl) (lt_st s73 (by decide))) rfl rfl rfl rfl (by decide) (Nat.le_of_ble_eq_true rfl) ⟨by omega, by omega⟩ (fun h74 e74 => ?_)
  have s74 := ST_voter (i := (5 + 1)) (ar := 1) (tl := 808) s72 e74
  refine ST_aast (n1 := 3) (i := 6) (t := 880) (a := 867) (N := 12) ok2_X11_init (mi 95 rfl) (by decide) s74 (sh_k s74.2.1 63 rfl) (sh_n s74.2.1 63 rfl) rfl (by decide) (by decide) s72.1 (sh_k s74.2.1 76 rfl) (by decide) (by decide) (by decide) (fun h75 s75 => ?_)
  refine ex_iinc ok2_X11_init (mi 96 rfl) rfl ?_
  refine ex_goto (tgt := 160) ok2_X11_init (mi 97 rfl) rfl ?_
  refine ex_ls (ls' := [(0, .ref x), (1, .int (nI (6 + 1)))]) ⟨rfl, by rw [nI_succ]; rfl, trivial⟩ ?_
  refine ex_iload_n ok2_X11_init (mi 81 rfl) rfl ?_
  refine ex_bipush ok2_X11_init (mi 82 rfl) ?_
  refine ex_icmp_ge (tgt := 194) ok2_X11_init (mi 83 rfl) rfl (fun hc => absurd hc (by decide)) (fun _ => ?_)
  refine ex_aload_n ok2_X11_init (mi 84 rfl) rfl ?_
  refine ex_getRx ok2_X11_init (mi 85 rfl) rfl rfl (sh_k s75.2.1 0 rfl) (sh_r s75.2.1 84 rfl) (sh_k s75.2.1 63 rfl) (by decide) ?_
  refine ex_iload_n ok2_X11_init (mi 86 rfl) rfl ?_
  refine ex_new ok2_X11_init (mi 87 rfl) rfl (by decide) (by omega) (by rw [show cx_N 10 = 6 from rfl]; omega) ?_
  rw [show cx_N 10 = 6 from rfl]
  refine ex_dup ok2_X11_init (mi 88 rfl) rfl ?_
  refine ex_iload_n ok2_X11_init (mi 89 rfl) rfl ?_
  refine ex_aload_n ok2_X11_init (mi 90 rfl) rfl ?_
  have s76 := ST_N (k := 11) (l := 0) s75
  refine ex_getRx ok2_X11_init (mi 91 rfl) rfl rfl (sh_k s76.2.1 0 rfl) (sh_r s76.2.1 3 rfl) (sh_k s76.2.1 1 rfl) (by decide) ?_
  refine ex_aload_n ok2_X11_init (mi 92 rfl) rfl ?_
  refine ex_getRx ok2_X11_init (mi 93 rfl) rfl rfl (sh_k s76.2.1 0 rfl) (sh_r s76.2.1 8 rfl) (sh_k s76.2.1 4 rfl) (by decide) ?_
  refine ex_callIp ok2_X11_init (mi 94 rfl) rfl (m_X10_init (n := nI (6 + 1)) (air := x + 1) (tally := x + 808) hst kNew zNew (sh_k s76.2.1 1 rfl) (lt_st s76 (by decide)) (sh_k s76.2.1 4 rfl) (lt_st s76 (by decide))) rfl rfl rfl rfl (by decide) (Nat.le_of_ble_eq_true rfl) ⟨by omega, by omega⟩ (fun h77 e77 => ?_)
  have s77 := ST_voter (i := (6 + 1)) (ar := 1) (tl := 808) s75 e77
  refine ST_aast (n1 := 3) (i := 7) (t := 882) (a := 867) (N := 12) ok2_X11_init (mi 95 rfl) (by decide) s77 (sh_k s77.2.1 63 rfl) (sh_n s77.2.1 63 rfl) rfl (by decide) (by decide) s75.1 (sh_k s77.2.1 78 rfl) (by decide) (by decide) (by decide) (fun h78 s78 => ?_)
  refine ex_iinc ok2_X11_init (mi 96 rfl) rfl ?_
  refine ex_goto (tgt := 160) ok2_X11_init (mi 97 rfl) rfl ?_
  refine ex_ls (ls' := [(0, .ref x), (1, .int (nI (7 + 1)))]) ⟨rfl, by rw [nI_succ]; rfl, trivial⟩ ?_
  refine ex_iload_n ok2_X11_init (mi 81 rfl) rfl ?_
  refine ex_bipush ok2_X11_init (mi 82 rfl) ?_
  refine ex_icmp_ge (tgt := 194) ok2_X11_init (mi 83 rfl) rfl (fun hc => absurd hc (by decide)) (fun _ => ?_)
  refine ex_aload_n ok2_X11_init (mi 84 rfl) rfl ?_
  refine ex_getRx ok2_X11_init (mi 85 rfl) rfl rfl (sh_k s78.2.1 0 rfl) (sh_r s78.2.1 84 rfl) (sh_k s78.2.1 63 rfl) (by decide) ?_
  refine ex_iload_n ok2_X11_init (mi 86 rfl) rfl ?_
  refine ex_new ok2_X11_init (mi 87 rfl) rfl (by decide) (by omega) (by rw [show cx_N 10 = 6 from rfl]; omega) ?_
  rw [show cx_N 10 = 6 from rfl]
  refine ex_dup ok2_X11_init (mi 88 rfl) rfl ?_
  refine ex_iload_n ok2_X11_init (mi 89 rfl) rfl ?_
  refine ex_aload_n ok2_X11_init (mi 90 rfl) rfl ?_
  have s79 := ST_N (k := 11) (l := 0) s78
  refine ex_getRx ok2_X11_init (mi 91 rfl) rfl rfl (sh_k s79.2.1 0 rfl) (sh_r s79.2.1 3 rfl) (sh_k s79.2.1 1 rfl) (by decide) ?_
  refine ex_aload_n ok2_X11_init (mi 92 rfl) rfl ?_
  refine ex_getRx ok2_X11_init (mi 93 rfl) rfl rfl (sh_k s79.2.1 0 rfl) (sh_r s79.2.1 8 rfl) (sh_k s79.2.1 4 rfl) (by decide) ?_
  refine ex_callIp ok2_X11_init (mi 94 rfl) rfl (m_X10_init (n := nI (7 + 1)) (air := x + 1) (tally := x + 808) hst kNew zNew (sh_k s79.2.1 1 rfl) (lt_st s79 (by decide)) (sh_k s79.2.1 4 rfl) (lt_st s79 (by decide))) rfl rfl rfl rfl (by decide) (Nat.le_of_ble_eq_true rfl) ⟨by omega, by omega⟩ (fun h80 e80 => ?_)
  have s80 := ST_voter (i := (7 + 1)) (ar := 1) (tl := 808) s78 e80
  refine ST_aast (n1 := 3) (i := 8) (t := 884) (a := 867) (N := 12) ok2_X11_init (mi 95 rfl) (by decide) s80 (sh_k s80.2.1 63 rfl) (sh_n s80.2.1 63 rfl) rfl (by decide) (by decide) s78.1 (sh_k s80.2.1 80 rfl) (by decide) (by decide) (by decide) (fun h81 s81 => ?_)
  refine ex_iinc ok2_X11_init (mi 96 rfl) rfl ?_
  refine ex_goto (tgt := 160) ok2_X11_init (mi 97 rfl) rfl ?_
  refine ex_ls (ls' := [(0, .ref x), (1, .int (nI (8 + 1)))]) ⟨rfl, by rw [nI_succ]; rfl, trivial⟩ ?_
  refine ex_iload_n ok2_X11_init (mi 81 rfl) rfl ?_
  refine ex_bipush ok2_X11_init (mi 82 rfl) ?_
  refine ex_icmp_ge (tgt := 194) ok2_X11_init (mi 83 rfl) rfl (fun hc => absurd hc (by decide)) (fun _ => ?_)
  refine ex_aload_n ok2_X11_init (mi 84 rfl) rfl ?_
  refine ex_getRx ok2_X11_init (mi 85 rfl) rfl rfl (sh_k s81.2.1 0 rfl) (sh_r s81.2.1 84 rfl) (sh_k s81.2.1 63 rfl) (by decide) ?_
  refine ex_iload_n ok2_X11_init (mi 86 rfl) rfl ?_
  refine ex_new ok2_X11_init (mi 87 rfl) rfl (by decide) (by omega) (by rw [show cx_N 10 = 6 from rfl]; omega) ?_
  rw [show cx_N 10 = 6 from rfl]
  refine ex_dup ok2_X11_init (mi 88 rfl) rfl ?_
  refine ex_iload_n ok2_X11_init (mi 89 rfl) rfl ?_
  refine ex_aload_n ok2_X11_init (mi 90 rfl) rfl ?_
  have s82 := ST_N (k := 11) (l := 0) s81
  refine ex_getRx ok2_X11_init (mi 91 rfl) rfl rfl (sh_k s82.2.1 0 rfl) (sh_r s82.2.1 3 rfl) (sh_k s82.2.1 1 rfl) (by decide) ?_
  refine ex_aload_n ok2_X11_init (mi 92 rfl) rfl ?_
  refine ex_getRx ok2_X11_init (mi 93 rfl) rfl rfl (sh_k s82.2.1 0 rfl) (sh_r s82.2.1 8 rfl) (sh_k s82.2.1 4 rfl) (by decide) ?_
  refine ex_callIp ok2_X11_init (mi 94 rfl) rfl (m_X10_init (n := nI (8 + 1)) (air := x + 1) (tally := x + 808) hst kNew zNew (sh_k s82.2.1 1 rfl) (lt_st s82 (by decide)) (sh_k s82.2.1 4 rfl) (lt_st s82 (by decide))) rfl rfl rfl rfl (by decide) (Nat.le_of_ble_eq_true rfl) ⟨by omega, by omega⟩ (fun h83 e83 => ?_)
  have s83 := ST_voter (i := (8 + 1)) (ar := 1) (tl := 808) s81 e83
  refine ST_aast (n1 := 3) (i := 9) (t := 886) (a := 867) (N := 12) ok2_X11_init (mi 95 rfl) (by decide) s83 (sh_k s83.2.1 63 rfl) (sh_n s83.2.1 63 rfl) rfl (by decide) (by decide) s81.1 (sh_k s83.2.1 82 rfl) (by decide) (by decide) (by decide) (fun h84 s84 => ?_)
  refine ex_iinc ok2_X11_init (mi 96 rfl) rfl ?_
  refine ex_goto (tgt := 160) ok2_X11_init (mi 97 rfl) rfl ?_
  refine ex_ls (ls' := [(0, .ref x), (1, .int (nI (9 + 1)))]) ⟨rfl, by rw [nI_succ]; rfl, trivial⟩ ?_
  refine ex_iload_n ok2_X11_init (mi 81 rfl) rfl ?_
  refine ex_bipush ok2_X11_init (mi 82 rfl) ?_
  refine ex_icmp_ge (tgt := 194) ok2_X11_init (mi 83 rfl) rfl (fun hc => absurd hc (by decide)) (fun _ => ?_)
  refine ex_aload_n ok2_X11_init (mi 84 rfl) rfl ?_
  refine ex_getRx ok2_X11_init (mi 85 rfl) rfl rfl (sh_k s84.2.1 0 rfl) (sh_r s84.2.1 84 rfl) (sh_k s84.2.1 63 rfl) (by decide) ?_
  refine ex_iload_n ok2_X11_init (mi 86 rfl) rfl ?_
  refine ex_new ok2_X11_init (mi 87 rfl) rfl (by decide) (by omega) (by rw [show cx_N 10 = 6 from rfl]; omega) ?_
  rw [show cx_N 10 = 6 from rfl]
  refine ex_dup ok2_X11_init (mi 88 rfl) rfl ?_
  refine ex_iload_n ok2_X11_init (mi 89 rfl) rfl ?_
  refine ex_aload_n ok2_X11_init (mi 90 rfl) rfl ?_
  have s85 := ST_N (k := 11) (l := 0) s84
  refine ex_getRx ok2_X11_init (mi 91 rfl) rfl rfl (sh_k s85.2.1 0 rfl) (sh_r s85.2.1 3 rfl) (sh_k s85.2.1 1 rfl) (by decide) ?_
  refine ex_aload_n ok2_X11_init (mi 92 rfl) rfl ?_
  refine ex_getRx ok2_X11_init (mi 93 rfl) rfl rfl (sh_k s85.2.1 0 rfl) (sh_r s85.2.1 8 rfl) (sh_k s85.2.1 4 rfl) (by decide) ?_
  refine ex_callIp ok2_X11_init (mi 94 rfl) rfl (m_X10_init (n := nI (9 + 1)) (air := x + 1) (tally := x + 808) hst kNew zNew (sh_k s85.2.1 1 rfl) (lt_st s85 (by decide)) (sh_k s85.2.1 4 rfl) (lt_st s85 (by decide))) rfl rfl rfl rfl (by decide) (Nat.le_of_ble_eq_true rfl) ⟨by omega, by omega⟩ (fun h86 e86 => ?_)
  have s86 := ST_voter (i := (9 + 1)) (ar := 1) (tl := 808) s84 e86
  refine ST_aast (n1 := 3) (i := 10) (t := 888) (a := 867) (N := 12) ok2_X11_init (mi 95 rfl) (by decide) s86 (sh_k s86.2.1 63 rfl) (sh_n s86.2.1 63 rfl) rfl (by decide) (by decide) s84.1 (sh_k s86.2.1 84 rfl) (by decide) (by decide) (by decide) (fun h87 s87 => ?_)
  refine ex_iinc ok2_X11_init (mi 96 rfl) rfl ?_
  refine ex_goto (tgt := 160) ok2_X11_init (mi 97 rfl) rfl ?_
  refine ex_ls (ls' := [(0, .ref x), (1, .int (nI (10 + 1)))]) ⟨rfl, by rw [nI_succ]; rfl, trivial⟩ ?_
  refine ex_iload_n ok2_X11_init (mi 81 rfl) rfl ?_
  refine ex_bipush ok2_X11_init (mi 82 rfl) ?_
  refine ex_icmp_ge (tgt := 194) ok2_X11_init (mi 83 rfl) rfl (fun hc => absurd hc (by decide)) (fun _ => ?_)
  refine ex_aload_n ok2_X11_init (mi 84 rfl) rfl ?_
  refine ex_getRx ok2_X11_init (mi 85 rfl) rfl rfl (sh_k s87.2.1 0 rfl) (sh_r s87.2.1 84 rfl) (sh_k s87.2.1 63 rfl) (by decide) ?_
  refine ex_iload_n ok2_X11_init (mi 86 rfl) rfl ?_
  refine ex_new ok2_X11_init (mi 87 rfl) rfl (by decide) (by omega) (by rw [show cx_N 10 = 6 from rfl]; omega) ?_
  rw [show cx_N 10 = 6 from rfl]
  refine ex_dup ok2_X11_init (mi 88 rfl) rfl ?_
  refine ex_iload_n ok2_X11_init (mi 89 rfl) rfl ?_
  refine ex_aload_n ok2_X11_init (mi 90 rfl) rfl ?_
  have s88 := ST_N (k := 11) (l := 0) s87
  refine ex_getRx ok2_X11_init (mi 91 rfl) rfl rfl (sh_k s88.2.1 0 rfl) (sh_r s88.2.1 3 rfl) (sh_k s88.2.1 1 rfl) (by decide) ?_
  refine ex_aload_n ok2_X11_init (mi 92 rfl) rfl ?_
  refine ex_getRx ok2_X11_init (mi 93 rfl) rfl rfl (sh_k s88.2.1 0 rfl) (sh_r s88.2.1 8 rfl) (sh_k s88.2.1 4 rfl) (by decide) ?_
  refine ex_callIp ok2_X11_init (mi 94 rfl) rfl (m_X10_init (n := nI (10 + 1)) (air := x + 1) (tally := x + 808) hst kNew zNew (sh_k s88.2.1 1 rfl) (lt_st s88 (by decide)) (sh_k s88.2.1 4 rfl) (lt_st s88 (by decide))) rfl rfl rfl rfl (by decide) (Nat.le_of_ble_eq_true rfl) ⟨by omega, by omega⟩ (fun h89 e89 => ?_)
  have s89 := ST_voter (i := (10 + 1)) (ar := 1) (tl := 808) s87 e89
  refine ST_aast (n1 := 3) (i := 11) (t := 890) (a := 867) (N := 12) ok2_X11_init (mi 95 rfl) (by decide) s89 (sh_k s89.2.1 63 rfl) (sh_n s89.2.1 63 rfl) rfl (by decide) (by decide) s87.1 (sh_k s89.2.1 86 rfl) (by decide) (by decide) (by decide) (fun h90 s90 => ?_)
  refine ex_iinc ok2_X11_init (mi 96 rfl) rfl ?_
  refine ex_goto (tgt := 160) ok2_X11_init (mi 97 rfl) rfl ?_
  refine ex_ls (ls' := [(0, .ref x), (1, .int (nI (11 + 1)))]) ⟨rfl, by rw [nI_succ]; rfl, trivial⟩ ?_
  refine ex_iload_n ok2_X11_init (mi 81 rfl) rfl ?_
  refine ex_bipush ok2_X11_init (mi 82 rfl) ?_
  refine ex_icmp_ge (tgt := 194) ok2_X11_init (mi 83 rfl) rfl (fun _ => ?_) (fun hc => absurd (by decide) hc)
  exact hq _ s90
end
section
/-! ===== Keeper's reset ===== -/
def F_X3_reset (g : GT) (s ge : Int32) (a : Nat) : GT := F_X3_forgetReform (px_F (px_I (px_I (px_I (px_I g 303 a s) 304 a ge) 305 a 0) 306 a 0) (a + 1) 0 10 0) a
theorem sq_X3_reset (g : GT) (s ge : Int32) (a : Nat) : sq g (F_X3_reset g s ge a) := by
  unfold F_X3_reset
  exact sq.trans (sqF (sqI (sqI (sqI (sqI sq0))))) (sq_X3_forgetReform _ _)
theorem m_X3_reset1 {G : GE} (hst : (ge_l G).stackTraces = false) {a : Nat} {v : Int32} {g : GT} (h : sh T3 g a) (hv : gx_I g 300 a = v) (hc : ¬ (((Int8.ofInt 7).toInt32 >>> (v &&& 31)) &&& Int32.ofInt 1 = 0)) : ex_M G 4 0 0 my_X3_reset [.ref a] g (rv none (F_X3_reset g 2 0 a)) := by
  refine ex_M_of ok_X3_reset cw_X3_reset rfl hst (Nat.le_of_ble_eq_true rfl) ?_
  refine ex_bipush ok_X3_reset (mi 0 rfl) ?_
  refine ex_aload_n ok_X3_reset (mi 1 rfl) rfl ?_
  refine ex_getIx ok_X3_reset (mi 2 rfl) rfl rfl (sh_k h 0 rfl) hv ?_
  refine ex_ishr ok_X3_reset (mi 3 rfl) ?_
  refine ex_iconst ok_X3_reset (mi 4 rfl) ?_
  refine ex_iand ok_X3_reset (mi 5 rfl) ?_
  refine ex_if_eq (tgt := 16) ok_X3_reset (mi 6 rfl) rfl (fun h9 => False.elim (hc h9)) (fun h9 => ?_)
  refine ex_iconst ok_X3_reset (mi 7 rfl) ?_
  refine ex_goto (tgt := 17) ok_X3_reset (mi 8 rfl) rfl ?_
  refine ex_istore_n ok_X3_reset (mi 10 rfl) ?_
  refine ex_aload_n ok_X3_reset (mi 11 rfl) rfl ?_
  refine ex_iload_n ok_X3_reset (mi 12 rfl) rfl ?_
  refine ex_if_eq (tgt := 27) ok_X3_reset (mi 13 rfl) rfl (fun h20 => False.elim (absurd h20 (by decide))) (fun h20 => ?_)
  refine ex_iconst ok_X3_reset (mi 14 rfl) ?_
  refine ex_goto (tgt := 28) ok_X3_reset (mi 15 rfl) rfl ?_
  refine ex_putI ok_X3_reset (mi 17 rfl) rfl (sh_k h 0 rfl) rfl ?_
  refine ex_aload_n ok_X3_reset (mi 18 rfl) rfl ?_
  refine ex_iload_n ok_X3_reset (mi 19 rfl) rfl ?_
  refine ex_if_eq (tgt := 40) ok_X3_reset (mi 20 rfl) rfl (fun h33 => False.elim (absurd h33 (by decide))) (fun h33 => ?_)
  refine ex_iconst ok_X3_reset (mi 21 rfl) ?_
  refine ex_goto (tgt := 41) ok_X3_reset (mi 22 rfl) rfl ?_
  refine ex_putI ok_X3_reset (mi 24 rfl) rfl (kq (sqI sq0) (sh_k h 0 rfl)) rfl ?_
  refine ex_aload_n ok_X3_reset (mi 25 rfl) rfl ?_
  refine ex_iconst ok_X3_reset (mi 26 rfl) ?_
  refine ex_putI ok_X3_reset (mi 27 rfl) rfl (kq (sqI (sqI sq0)) (sh_k h 0 rfl)) rfl ?_
  refine ex_aload_n ok_X3_reset (mi 28 rfl) rfl ?_
  refine ex_iconst ok_X3_reset (mi 29 rfl) ?_
  refine ex_putI ok_X3_reset (mi 30 rfl) rfl (kq (sqI (sqI (sqI sq0))) (sh_k h 0 rfl)) rfl ?_
  refine ex_aload_n ok_X3_reset (mi 31 rfl) rfl ?_
  refine ex_getRx ok_X3_reset (mi 32 rfl) rfl rfl (kq (sqI (sqI (sqI (sqI sq0)))) (sh_k h 0 rfl)) (rq (sqI (sqI (sqI (sqI sq0)))) (sh_r h 0 rfl)) (kq (sqI (sqI (sqI (sqI sq0)))) (sh_k h 1 rfl)) (by decide) ?_
  refine ex_callSr ok_X3_reset (mi 33 rfl) rfl (m_X7_empty hst (kq (sqI (sqI (sqI (sqI sq0)))) (sh_k h 1 rfl)) (nq (sqI (sqI (sqI (sqI sq0)))) (sh_n h 1 rfl)) (by decide) (by decide)) rfl rfl rfl (by decide) (Nat.le_of_ble_eq_true rfl) (by decide) ?_
  refine ex_aload_n ok_X3_reset (mi 34 rfl) rfl ?_
  refine ex_callVr ok_X3_reset (mi 35 rfl) rfl (m_X3_forgetReform hst (shq (sqF (sqI (sqI (sqI (sqI sq0))))) h)) rfl (kq (sqF (sqI (sqI (sqI (sqI sq0))))) (sh_k h 0 rfl)) rfl rfl (by decide) (by decide) (Nat.le_of_ble_eq_true rfl) (by decide) ?_
  refine ex_vret ok_X3_reset (mi 36 rfl) rfl ?_
  exact ⟨rfl, rfl⟩
theorem m_X3_reset0 {G : GE} (hst : (ge_l G).stackTraces = false) {a : Nat} {v : Int32} {g : GT} (h : sh T3 g a) (hv : gx_I g 300 a = v) (hc : (((Int8.ofInt 7).toInt32 >>> (v &&& 31)) &&& Int32.ofInt 1 = 0)) : ex_M G 4 0 0 my_X3_reset [.ref a] g (rv none (F_X3_reset g 0 (-1) a)) := by
  refine ex_M_of ok_X3_reset cw_X3_reset rfl hst (Nat.le_of_ble_eq_true rfl) ?_
  refine ex_bipush ok_X3_reset (mi 0 rfl) ?_
  refine ex_aload_n ok_X3_reset (mi 1 rfl) rfl ?_
  refine ex_getIx ok_X3_reset (mi 2 rfl) rfl rfl (sh_k h 0 rfl) hv ?_
  refine ex_ishr ok_X3_reset (mi 3 rfl) ?_
  refine ex_iconst ok_X3_reset (mi 4 rfl) ?_
  refine ex_iand ok_X3_reset (mi 5 rfl) ?_
  refine ex_if_eq (tgt := 16) ok_X3_reset (mi 6 rfl) rfl (fun h9 => ?_) (fun h9 => False.elim (h9 hc))
  refine ex_iconst ok_X3_reset (mi 9 rfl) ?_
  refine ex_istore_n ok_X3_reset (mi 10 rfl) ?_
  refine ex_aload_n ok_X3_reset (mi 11 rfl) rfl ?_
  refine ex_iload_n ok_X3_reset (mi 12 rfl) rfl ?_
  refine ex_if_eq (tgt := 27) ok_X3_reset (mi 13 rfl) rfl (fun h20 => ?_) (fun h20 => False.elim (absurd (by decide) h20))
  refine ex_iconst ok_X3_reset (mi 16 rfl) ?_
  refine ex_putI ok_X3_reset (mi 17 rfl) rfl (sh_k h 0 rfl) rfl ?_
  refine ex_aload_n ok_X3_reset (mi 18 rfl) rfl ?_
  refine ex_iload_n ok_X3_reset (mi 19 rfl) rfl ?_
  refine ex_if_eq (tgt := 40) ok_X3_reset (mi 20 rfl) rfl (fun h33 => ?_) (fun h33 => False.elim (absurd (by decide) h33))
  refine ex_iconst ok_X3_reset (mi 23 rfl) ?_
  refine ex_putI ok_X3_reset (mi 24 rfl) rfl (kq (sqI sq0) (sh_k h 0 rfl)) rfl ?_
  refine ex_aload_n ok_X3_reset (mi 25 rfl) rfl ?_
  refine ex_iconst ok_X3_reset (mi 26 rfl) ?_
  refine ex_putI ok_X3_reset (mi 27 rfl) rfl (kq (sqI (sqI sq0)) (sh_k h 0 rfl)) rfl ?_
  refine ex_aload_n ok_X3_reset (mi 28 rfl) rfl ?_
  refine ex_iconst ok_X3_reset (mi 29 rfl) ?_
  refine ex_putI ok_X3_reset (mi 30 rfl) rfl (kq (sqI (sqI (sqI sq0))) (sh_k h 0 rfl)) rfl ?_
  refine ex_aload_n ok_X3_reset (mi 31 rfl) rfl ?_
  refine ex_getRx ok_X3_reset (mi 32 rfl) rfl rfl (kq (sqI (sqI (sqI (sqI sq0)))) (sh_k h 0 rfl)) (rq (sqI (sqI (sqI (sqI sq0)))) (sh_r h 0 rfl)) (kq (sqI (sqI (sqI (sqI sq0)))) (sh_k h 1 rfl)) (by decide) ?_
  refine ex_callSr ok_X3_reset (mi 33 rfl) rfl (m_X7_empty hst (kq (sqI (sqI (sqI (sqI sq0)))) (sh_k h 1 rfl)) (nq (sqI (sqI (sqI (sqI sq0)))) (sh_n h 1 rfl)) (by decide) (by decide)) rfl rfl rfl (by decide) (Nat.le_of_ble_eq_true rfl) (by decide) ?_
  refine ex_aload_n ok_X3_reset (mi 34 rfl) rfl ?_
  refine ex_callVr ok_X3_reset (mi 35 rfl) rfl (m_X3_forgetReform hst (shq (sqF (sqI (sqI (sqI (sqI sq0))))) h)) rfl (kq (sqF (sqI (sqI (sqI (sqI sq0))))) (sh_k h 0 rfl)) rfl rfl (by decide) (by decide) (Nat.le_of_ble_eq_true rfl) (by decide) ?_
  refine ex_vret ok_X3_reset (mi 36 rfl) rfl ?_
  exact ⟨rfl, rfl⟩
end
section
/-! ===== writes by tables of offsets: (what, offset, field or place, up to, value) ===== -/
abbrev WT : Type := Nat × Nat × Nat × Nat × Int32
def ap1 (x : Nat) (w : WT) (g : GT) : GT := match w.1 with
  | 0 => px_I g w.2.2.1 (x + w.2.1) w.2.2.2.2
  | 1 => px_A g (x + w.2.1) w.2.2.1 w.2.2.2.2
  | 2 => px_F g (x + w.2.1) w.2.2.1 w.2.2.2.1 w.2.2.2.2
  | _ => px_FL g (x + w.2.1) w.2.2.1 w.2.2.2.1 0
def ap (x : Nat) (ws : List WT) (g : GT) : GT := ws.foldr (ap1 x) g
theorem ap1_sq (x : Nat) (w : WT) (g : GT) : sq g (ap1 x w g) := by
  unfold ap1
  split
  · exact sqI sq0
  · exact sqA sq0
  · exact sqF sq0
  · exact sqFL sq0
theorem apq {x : Nat} {ws : List WT} {g : GT} : sq g (ap x ws g) := by
  induction ws with
  | nil => exact sq0
  | cons w t ih => exact ih.trans (ap1_sq x w _)
theorem ap_app {x : Nat} {a b : List WT} {g : GT} : ap x a (ap x b g) = ap x (a ++ b) g := by
  unfold ap
  rw [List.foldr_append]
def rI (a f : Nat) (ws : List WT) : Option Int32 := (ws.find? (fun w => w.1.beq 0 && (w.2.1.beq a && w.2.2.1.beq f))).map (fun w => w.2.2.2.2)
def rA (a j : Nat) (ws : List WT) : Option Int32 := (ws.find? (fun w => w.2.1.beq a && ((w.1.beq 1 && w.2.2.1.beq j) || (w.1.beq 2 && (w.2.2.1.ble j && (j + 1).ble w.2.2.2.1))))).map (fun w => w.2.2.2.2)
theorem ap_I (x a f : Nat) (ws : List WT) (g : GT) : gx_I (ap x ws g) f (x + a) = (rI a f ws).getD (gx_I g f (x + a)) := by
  induction ws with
  | nil => rfl
  | cons w t ih =>
    show gx_I (ap1 x w (ap x t g)) f (x + a) = _
    unfold rI
    rw [List.find?_cons]
    obtain ⟨o, b, c, d, v⟩ := w
    by_cases h : (o.beq 0 && (b.beq a && c.beq f)) = true
    · simp only [h]
      simp only [Bool.and_eq_true, Nat.beq_eq] at h
      obtain ⟨rfl, rfl, rfl⟩ := h
      show (if c = c ∧ x + b = x + b then v else _) = v
      rw [if_pos ⟨rfl, rfl⟩]
    · simp only [Bool.not_eq_true] at h
      simp only [h]
      show _ = (rI a f t).getD _
      rw [← ih]
      match o with
      | 0 =>
        show (if f = c ∧ x + a = x + b then v else gx_I (ap x t g) f (x + a)) = _
        rw [if_neg]
        rintro ⟨rfl, e⟩
        obtain rfl : a = b := by omega
        simp at h
      | 1 => rfl
      | 2 => rfl
      | (n + 3) => rfl
theorem ap_A (x a j : Nat) (ws : List WT) (g : GT) : gx_A (ap x ws g) (x + a) j = (rA a j ws).getD (gx_A g (x + a) j) := by
  induction ws with
  | nil => rfl
  | cons w t ih =>
    show gx_A (ap1 x w (ap x t g)) (x + a) j = _
    unfold rA
    rw [List.find?_cons]
    obtain ⟨o, b, c, d, v⟩ := w
    by_cases h : (b.beq a && ((o.beq 1 && c.beq j) || (o.beq 2 && (c.ble j && (j + 1).ble d)))) = true
    · simp only [h]
      simp only [Bool.and_eq_true, Bool.or_eq_true, Nat.beq_eq, Nat.ble_eq] at h
      obtain ⟨rfl, ⟨rfl, rfl⟩ | ⟨rfl, h1, h2⟩⟩ := h
      · show (if x + b = x + b ∧ c = c then v else _) = v
        rw [if_pos ⟨rfl, rfl⟩]
      · show (if x + b = x + b ∧ c ≤ j ∧ j < d then v else _) = v
        rw [if_pos ⟨rfl, h1, h2⟩]
    · have h' := h
      simp only [Bool.not_eq_true] at h
      simp only [h]
      show _ = (rA a j t).getD _
      rw [← ih]
      match o with
      | 0 => rfl
      | 1 =>
        show (if x + a = x + b ∧ j = c then v else gx_A (ap x t g) (x + a) j) = _
        rw [if_neg]
        rintro ⟨e, rfl⟩
        obtain rfl : a = b := by omega
        simp at h'
      | 2 =>
        show (if x + a = x + b ∧ c ≤ j ∧ j < d then v else gx_A (ap x t g) (x + a) j) = _
        rw [if_neg]
        rintro ⟨e, h1, h2⟩
        obtain rfl : a = b := by omega
        have h3 : (c.ble j && (j + 1).ble d) = true := by
          rw [Bool.and_eq_true, Nat.ble_eq, Nat.ble_eq]; exact ⟨h1, h2⟩
        simp [h3] at h'
      | (n + 3) => rfl
theorem apI {x a f : Nat} {ws : List WT} {g : GT} {v : Int32} (h : rI a f ws = some v) : gx_I (ap x ws g) f (x + a) = v := by rw [ap_I, h]; rfl
theorem apI0 {x a f : Nat} {ws : List WT} {g : GT} {v : Int32} (h : rI a f ws = none) (h0 : gx_I g f (x + a) = v) : gx_I (ap x ws g) f (x + a) = v := by rw [ap_I, h]; exact h0
theorem apA {x a j : Nat} {ws : List WT} {g : GT} {v : Int32} (h : rA a j ws = some v) : gx_A (ap x ws g) (x + a) j = v := by rw [ap_A, h]; rfl
theorem apA0 {x a j : Nat} {ws : List WT} {g : GT} {v : Int32} (h : rA a j ws = none) (h0 : gx_A g (x + a) j = v) : gx_A (ap x ws g) (x + a) j = v := by rw [ap_A, h]; exact h0
/-- cells that no write names are as they were -/
theorem ap_sm {x q : Nat} {ws : List WT} {g : GT} (h : ∀ w ∈ ws, q ≠ x + w.2.1) : sm g (ap x ws g) q := by
  induction ws with
  | nil => exact sm.refl
  | cons w t ih =>
    refine (ih fun w hw => h w (List.mem_cons_of_mem _ hw)).trans ?_
    have hq := h w List.mem_cons_self
    obtain ⟨o, b, c, d, v⟩ := w
    have hq : q ≠ x + b := hq
    show sm (ap x t g) (ap1 x (o, b, c, d, v) (ap x t g)) q
    match o with
    | 0 => exact ⟨rfl, rfl, fun f => if_neg (fun k => hq k.2), fun f => rfl, fun j => rfl, fun j => rfl, fun j => rfl⟩
    | 1 => exact ⟨rfl, rfl, fun f => rfl, fun f => rfl, fun j => if_neg (fun k => hq k.1), fun j => rfl, fun j => rfl⟩
    | 2 => exact ⟨rfl, rfl, fun f => rfl, fun f => rfl, fun j => if_neg (fun k => hq k.1), fun j => rfl, fun j => rfl⟩
    | (n + 3) => exact ⟨rfl, rfl, fun f => rfl, fun f => rfl, fun j => rfl, fun j => if_neg (fun k => hq k.1), fun j => rfl⟩
/-! facts by tables, each at its place -/
theorem fk {T : List (Nat × Nat × Nat) × List (Nat × Nat × Nat)} {g : GT} {x a k n : Nat} (h : sh T g x) (i : Nat) (hi : T.1[i]? = some (a, k, n)) : gx_K g (x + a) = k := sh_k h i hi
theorem fn {T : List (Nat × Nat × Nat) × List (Nat × Nat × Nat)} {g : GT} {x a k n : Nat} (h : sh T g x) (i : Nat) (hi : T.1[i]? = some (a, k, n)) : gx_N g (x + a) = n := sh_n h i hi
theorem fr {T : List (Nat × Nat × Nat) × List (Nat × Nat × Nat)} {g : GT} {x a f b : Nat} (h : sh T g x) (i : Nat) (hi : T.2[i]? = some (a, f, b)) : gx_R g f (x + a) = x + b := sh_r h i hi
def tI (I : List (Nat × Nat × Int32)) (g : GT) (x : Nat) : Prop := ∀ q ∈ I, gx_I g q.2.1 (x + q.1) = q.2.2
def tE (I : List (Nat × Nat × Int32)) (g : GT) (x : Nat) : Prop := ∀ q ∈ I, gx_A g (x + q.1) q.2.1 = q.2.2
def tA (A : List (Nat × Nat × Int32)) (g : GT) (x : Nat) : Prop := ∀ q ∈ A, ∀ j, j < q.2.1 → gx_A g (x + q.1) j = q.2.2
def tO (O : List (Nat × Nat × Nat)) (g : GT) (x : Nat) : Prop := ∀ q ∈ O, gx_O g (x + q.1) q.2.1 = x + q.2.2
theorem fi {I : List (Nat × Nat × Int32)} {g : GT} {x a f : Nat} {v : Int32} (h : tI I g x) (i : Nat) (hi : I[i]? = some (a, f, v)) : gx_I g f (x + a) = v := h _ (List.mem_of_getElem? hi)
theorem fe {I : List (Nat × Nat × Int32)} {g : GT} {x a f : Nat} {v : Int32} (h : tE I g x) (i : Nat) (hi : I[i]? = some (a, f, v)) : gx_A g (x + a) f = v := h _ (List.mem_of_getElem? hi)
theorem fa {I : List (Nat × Nat × Int32)} {g : GT} {x a n j : Nat} {v : Int32} (h : tA I g x) (i : Nat) (hi : I[i]? = some (a, n, v)) (hj : j < n) : gx_A g (x + a) j = v := h _ (List.mem_of_getElem? hi) j hj
theorem fo {I : List (Nat × Nat × Nat)} {g : GT} {x a j b : Nat} (h : tO I g x) (i : Nat) (hi : I[i]? = some (a, j, b)) : gx_O g (x + a) j = x + b := h _ (List.mem_of_getElem? hi)
theorem sh_app {T T' : List (Nat × Nat × Nat) × List (Nat × Nat × Nat)} {g : GT} {a : Nat} (h : sh T g a) (h' : sh T' g a) : sh (T.1 ++ T'.1, T.2 ++ T'.2) g a :=
  ⟨fun q hq => (List.mem_append.mp hq).elim (h.1 q) (h'.1 q), fun q hq => (List.mem_append.mp hq).elim (h.2 q) (h'.2 q)⟩
/-! values after writes, whole tables at once -/
theorem ap_tI {x : Nat} {ws : List WT} {g : GT} {I I0 : List (Nat × Nat × Int32)} (h0 : tI I0 g x) (h : I.all (fun q => decide (rI q.1 q.2.1 ws = some q.2.2) || (decide (rI q.1 q.2.1 ws = none) && decide (q ∈ I0))) = true) : tI I (ap x ws g) x := by
  intro q hq
  have := List.all_eq_true.mp h q hq
  rw [Bool.or_eq_true, Bool.and_eq_true, decide_eq_true_eq, decide_eq_true_eq, decide_eq_true_eq] at this
  rcases this with k | ⟨k, k1⟩
  · exact apI k
  · exact apI0 k (h0 q k1)
theorem ap_tE {x : Nat} {ws : List WT} {g : GT} {I : List (Nat × Nat × Int32)} (h : I.all (fun q => decide (rA q.1 q.2.1 ws = some q.2.2)) = true) : tE I (ap x ws g) x := by
  intro q hq
  have := List.all_eq_true.mp h q hq
  rw [decide_eq_true_eq] at this
  exact apA this
/-- the last write on a row fills it -/
def rF (a n : Nat) (v : Int32) (ws : List WT) : Bool := match ws.find? (fun w => (w.1.beq 1 || w.1.beq 2) && w.2.1.beq a) with
  | some (2, _, 0, n1, v1) => n.ble n1 && decide (v1 = v)
  | _ => false
theorem rF_rA {a n : Nat} {v : Int32} : ∀ {ws : List WT}, rF a n v ws = true → ∀ j, j < n → rA a j ws = some v := by
  intro ws
  induction ws with
  | nil => intro h; cases h
  | cons w t ih =>
    intro h j hj
    obtain ⟨o, b, c, d, u⟩ := w
    unfold rF at h
    rw [List.find?_cons] at h
    unfold rA
    rw [List.find?_cons]
    by_cases k : ((o.beq 1 || o.beq 2) && b.beq a) = true
    · simp only [k] at h
      simp only [Bool.and_eq_true, Bool.or_eq_true, Nat.beq_eq] at k
      obtain ⟨k1, rfl⟩ := k
      match o, c with
      | 2, 0 =>
        simp only [Bool.and_eq_true, decide_eq_true_eq, Nat.ble_eq] at h
        obtain ⟨h1, rfl⟩ := h
        have h3 : (j + 1).ble d = true := Nat.ble_eq.mpr (by omega)
        have h4 : Nat.ble 0 j = true := Nat.ble_eq.mpr (Nat.zero_le _)
        simp [h3, h4]
      | 0, _ => simp at k1
      | 1, _ => simp at h
      | 2, (c + 1) => simp at h
      | (o + 3), _ => simp at k1
    · simp only [Bool.not_eq_true] at k
      simp only [k] at h
      have h2 : (b.beq a && ((o.beq 1 && c.beq j) || (o.beq 2 && (c.ble j && (j + 1).ble d)))) = false := by
        cases e1 : b.beq a
        · rfl
        · rw [e1, Bool.and_true] at k
          rw [Bool.or_eq_false_iff] at k
          rw [k.1, k.2]; rfl
      simp only [h2]
      exact ih h j hj
theorem ap_tA {x : Nat} {ws : List WT} {g : GT} {I : List (Nat × Nat × Int32)} (h : I.all (fun q => rF q.1 q.2.1 q.2.2 ws) = true) : tA I (ap x ws g) x := by
  intro q hq j hj
  exact apA (rF_rA (List.all_eq_true.mp h q hq) j hj)
/-! rules whose heap is told by writes; switches on known numbers; callees that throw -/
section EA
variable {G : GE} {d mc ms : Nat} {M : MT} {pc : Nat} {ls : List (Nat × Value)} {st stk : List Value} {g : GT} {Q : RT → GT → Prop} {x : Nat} {ws : List WT}
theorem ex_top {v w : Int32} (e : v = w) (k : ex_W G d mc ms M pc ls (.int w :: st) g Q) : ex_W G d mc ms M pc ls (.int v :: st) g Q := by
  rw [e]; exact k
theorem ex_iincx {n : Nat} {j : Int} {v w : Int32} (hM : mt_ok M = true) (hf : mt_in M pc (.iinc n j) 3) (hv : ls.lookup n = some (.int v)) (e : v + Int32.ofInt j = w) (k : ex_W G d mc ms M (pc + 3) (lx_set ls n (.int w)) st g Q) : ex_W G d mc ms M pc ls st g Q := by
  subst e
  exact ex_iinc hM hf hv k
theorem ex_putIa {idx ci j a : Nat} {v w : Int32} (hM : mt_ok M = true) (hf : mt_in M pc (.putfield idx) 3) (hp : (mt_f M).lookup idx = some (ci, j)) (hr : fx_R ci j = false) (hk : gx_K g (x + a) = ci + 1) (hv : w = v) (k : ex_W G d mc ms M (pc + 3) ls st (ap x ((0, a, 100 * ci + j, 0, v) :: ws) g) Q) : ex_W G d mc ms M pc ls (.int w :: .ref (x + a) :: st) (ap x ws g) Q := by
  subst hv
  exact ex_putI hM hf hp (kq apq hk) hr k
theorem ex_iasta {a j N : Nat} {i v w : Int32} (hM : mt_ok M = true) (hf : mt_in M pc (.iastore) 1) (hk : gx_K g (x + a) = 50) (hN : gx_N g (x + a) = N) (hin : vp_in i N) (hj : i.toNatClampNeg = j) (hv : w = v) (k : ex_W G d mc ms M (pc + 1) ls st (ap x ((1, a, j, 0, v) :: ws) g) Q) : ex_W G d mc ms M pc ls (.int w :: .int i :: .ref (x + a) :: st) (ap x ws g) Q := by
  subst hv hj
  exact ex_iast hM hf (kq apq hk) (by rw [nq apq hN]; exact hin) k
theorem ex_basta {a j N : Nat} {i v w : Int32} (hM : mt_ok M = true) (hf : mt_in M pc (.bastore) 1) (hk : gx_K g (x + a) = 52) (hN : gx_N g (x + a) = N) (hin : vp_in i N) (hj : i.toNatClampNeg = j) (hv : w = v) (hx : v = 0 ∨ v = 1) (k : ex_W G d mc ms M (pc + 1) ls st (ap x ((1, a, j, 0, v) :: ws) g) Q) : ex_W G d mc ms M pc ls (.int w :: .int i :: .ref (x + a) :: st) (ap x ws g) Q := by
  subst hv hj
  exact ex_bast hM hf (kq apq hk) hx (by rw [nq apq hN]; exact hin) k
theorem ex_tblk {dflt lo hi : Int} {offs : Array Int} {len tgt : Nat} {v : Int32} (hM : mt_ok M = true) (hf : mt_in M pc (.tableswitch dflt lo hi offs) len) (ht : (pc : Int) + (if v.toInt < lo ∨ hi < v.toInt then dflt else (offs[(v.toInt - lo).toNat]?).getD 0) = (tgt : Int)) (ok : ∀ off ∈ offs.toList, 0 ≤ (pc : Int) + off) (hsz : (offs.size : Int) = hi - lo + 1) (ok2 : 0 ≤ (pc : Int) + dflt)
    (k : ex_W G d mc ms M tgt ls st g Q) : ex_W G d mc ms M pc ls (.int v :: st) g Q := by
  refine ex_table hM hf (fun off t h1 h2 h3 h4 => ?_) ok hsz (fun t h1 h2 => ?_) ok2
  · rw [if_neg (by omega), h3, Option.getD_some] at ht
    obtain rfl : t = tgt := by omega
    exact k
  · rw [if_pos h1] at ht
    obtain rfl : t = tgt := by omega
    exact k
def tv (e : Nat) (g : GT) : RT → GT → Prop := fun r g' => r = .inr (cx_E e) ∧ ∃ n, gx_Z g ≤ n ∧ g' = px_Z g n
theorem ex_callVt {idx n t d1 mc1 ms1 b e : Nat} {y : MethodName} {As : List Value} (hM : mt_ok M = true) (hf : mt_in M pc (.invokevirtual idx) 3) (hp : (mt_m M).lookup idx = some (y, n, t, d1, mc1, ms1)) (hcall : ex_M G d1 mc1 ms1 y (.ref b :: As) g (tv e g)) (hs : stk = As.reverse ++ .ref b :: st) (hk : gx_K g b = t - 10 + 1) (hh : mt_h M = []) (hlen : As.length = n) (ht : 10 ≤ t) (hd : d1 < d)
    (hcat : (st.map fun v => v.category).sum ≤ 8) (hm : mc1 ≤ mc ∧ ms1 ≤ ms) (k : ∀ n, gx_Z g ≤ n → Q (.inr (cx_E e)) (px_Z g n)) : ex_W G d mc ms M pc ls stk g Q := by
  rw [hs]
  refine ex_callV hM hf hp ht hh hd hlen hk hcat hm hcall (fun v' g' h => ?_) (fun E g' h => ?_)
  · obtain ⟨h1, -⟩ := h
    cases h1
  · obtain ⟨h1, n, h2, rfl⟩ := h
    cases h1
    exact k n h2
theorem ex_callSt {idx n d1 mc1 ms1 e : Nat} {y : MethodName} {As : List Value} (hM : mt_ok M = true) (hf : mt_in M pc (.invokestatic idx) 3) (hp : (mt_m M).lookup idx = some (y, n, 1, d1, mc1, ms1)) (hcall : ex_M G d1 mc1 ms1 y As g (tv e g)) (hs : stk = As.reverse ++ st) (hh : mt_h M = []) (hlen : As.length = n) (hd : d1 < d)
    (hcat : (st.map fun v => v.category).sum ≤ 8) (hm : mc1 ≤ mc ∧ ms1 ≤ ms) (k : ∀ n, gx_Z g ≤ n → Q (.inr (cx_E e)) (px_Z g n)) : ex_W G d mc ms M pc ls stk g Q := by
  rw [hs]
  refine ex_callS hM hf hp hh hd hlen hcat hm hcall (fun v' g' h => ?_) (fun E g' h => ?_)
  · obtain ⟨h1, -⟩ := h
    cases h1
  · obtain ⟨h1, n, h2, rfl⟩ := h
    cases h1
    exact k n h2
end EA
/-- all cells but the object's own are as they were -/
def kp (x n : Nat) (h h' : GT) : Prop := gx_Z h ≤ gx_Z h' ∧ ∀ q, q < x ∨ x + n ≤ q → sm h h' q
theorem kp_ap {x n : Nat} {ws : List WT} {g : GT} (h : ws.all (fun w => decide (w.2.1 < n)) = true) : kp x n g (ap x ws g) := by
  refine ⟨Nat.le_of_eq (zq apq rfl).symm, fun q hq => ap_sm fun w hw => ?_⟩
  have := of_decide_eq_true (List.all_eq_true.mp h w hw)
  omega
theorem kp0 {x n : Nat} {g : GT} : kp x n g g := ⟨Nat.le_refl _, fun _ _ => sm.refl⟩
theorem kpZ {x n m : Nat} {g g1 : GT} (h : kp x n g g1) (hn : gx_Z g1 ≤ m) : kp x n g (px_Z g1 m) := ⟨Nat.le_trans h.1 hn, h.2⟩
theorem inlI {a b : Int32} (h : a = b) : (Sum.inl (some (Value.int a)) : RT) = .inl (some (.int b)) := by rw [h]
theorem tx_261_265 : tx_ok "RoundKeepers" 261 265 100 = true := by decide +kernel
theorem tx_85_89 : tx_ok "RoundKeepers" 85 89 101 = true := by decide +kernel
theorem tx_256_260 : tx_ok "RoundKeepers" 256 260 102 = true := by decide +kernel
end
section
/-! ===== the resets, by tables; the reset of all ===== -/
def W_X0_reset (a : Nat) : List WT := [(0, a, 6, 0, 0), (0, a, 5, 0, 0), (0, a, 4, 0, 0), (0, a, 3, 0, 0)]
theorem w_X0_reset (x a : Nat) (ws : List WT) (g : GT) : F_X0_reset (ap x ws g) (x + a) = ap x (W_X0_reset a ++ ws) g := rfl
theorem mA_X0_reset {G : GE} (hst : (ge_l G).stackTraces = false) {x a : Nat} {ws : List WT} {g : GT} (h : gx_K g (x + a) = 1) : ex_M G 1 0 0 my_X0_reset [.ref (x + a)] (ap x ws g) (rv none (ap x (W_X0_reset a ++ ws) g)) := by
  rw [← w_X0_reset]
  exact m_X0_reset hst (kq apq h)
def W_X2_reset (a : Nat) : List WT := [(0, a, 202, 0, 0), (2, a + 1, 0, 48, (-1))]
theorem w_X2_reset (x a : Nat) (ws : List WT) (g : GT) : F_X2_reset (ap x ws g) (x + a) = ap x (W_X2_reset a ++ ws) g := rfl
theorem mA_X2_reset {G : GE} (hst : (ge_l G).stackTraces = false) {x a : Nat} {ws : List WT} {g : GT} (h : sh T2 g (x + a)) : ex_M G 2 0 0 my_X2_reset [.ref (x + a)] (ap x ws g) (rv none (ap x (W_X2_reset a ++ ws) g)) := by
  rw [← w_X2_reset]
  exact m_X2_reset hst (shq apq h)
def W_X4_forget (a : Nat) : List WT := [(0, a, 411, 0, 0), (0, a, 410, 0, (-1)), (2, a + 1, 0, 10, 0), (0, a, 408, 0, 0), (0, a, 407, 0, 0)]
theorem w_X4_forget (x a : Nat) (ws : List WT) (g : GT) : F_X4_forget (ap x ws g) (x + a) = ap x (W_X4_forget a ++ ws) g := rfl
theorem mA_X4_forget {G : GE} (hst : (ge_l G).stackTraces = false) {x a : Nat} {ws : List WT} {g : GT} (h : sh T4 g (x + a)) : ex_M G 4 0 0 my_X4_forget [.ref (x + a)] (ap x ws g) (rv none (ap x (W_X4_forget a ++ ws) g)) := by
  rw [← w_X4_forget]
  exact m_X4_forget hst (shq apq h)
def W_X5_forgetRound (a : Nat) : List WT := [(0, a + 10, 105, 0, 0), (0, a + 10, 104, 0, 0), (0, a + 10, 103, 0, 0), (0, a + 10, 102, 0, 0), (0, a + 10, 101, 0, 0), (0, a + 10, 100, 0, 0), (2, a + 9, 0, 16, 0), (2, a + 8, 0, 16, 0), (2, a + 7, 0, 16, (-1)), (2, a + 6, 0, 16, 0), (0, a, 516, 0, 0), (0, a, 515, 0, 0), (2, a + 2, 0, 16, (-1)), (0, a, 513, 0, 0), (0, a, 512, 0, 0), (2, a + 1, 0, 10, 0), (0, a, 510, 0, 0), (0, a, 509, 0, 0)]
theorem w_X5_forgetRound (x a : Nat) (ws : List WT) (g : GT) : F_X5_forgetRound (ap x ws g) (x + a) = ap x (W_X5_forgetRound a ++ ws) g := rfl
theorem mA_X5_forgetRound {G : GE} (hst : (ge_l G).stackTraces = false) {x a : Nat} {ws : List WT} {g : GT} (h : sh T5 g (x + a)) : ex_M G 5 0 0 my_X5_forgetRound [.ref (x + a)] (ap x ws g) (rv none (ap x (W_X5_forgetRound a ++ ws) g)) := by
  rw [← w_X5_forgetRound]
  exact m_X5_forgetRound hst (shq apq h)
def W_X5_reset (a : Nat) : List WT := [(0, a + 10, 105, 0, 0), (0, a + 10, 104, 0, 0), (0, a + 10, 103, 0, 0), (0, a + 10, 102, 0, 0), (0, a + 10, 101, 0, 0), (0, a + 10, 100, 0, 0), (2, a + 9, 0, 16, 0), (2, a + 8, 0, 16, 0), (2, a + 7, 0, 16, (-1)), (2, a + 6, 0, 16, 0), (0, a, 516, 0, 0), (0, a, 515, 0, 0), (2, a + 2, 0, 16, (-1)), (0, a, 513, 0, 0), (0, a, 512, 0, 0), (2, a + 1, 0, 10, 0), (0, a, 510, 0, 0), (0, a, 509, 0, 0), (0, a + 3, 411, 0, 0), (0, a + 3, 410, 0, (-1)), (2, a + 4, 0, 10, 0), (0, a + 3, 408, 0, 0), (0, a + 3, 407, 0, 0), (0, a + 3, 406, 0, 0), (0, a + 3, 405, 0, (-1)), (0, a + 3, 404, 0, 0), (0, a + 3, 403, 0, 7), (0, a + 3, 402, 0, 0), (0, a, 508, 0, 0), (0, a, 507, 0, (-1)), (0, a, 506, 0, 0)]
theorem w_X5_reset (x a : Nat) (ws : List WT) (g : GT) : F_X5_reset (ap x ws g) (x + a) = ap x (W_X5_reset a ++ ws) g := rfl
theorem mA_X5_reset {G : GE} (hst : (ge_l G).stackTraces = false) {x a : Nat} {ws : List WT} {g : GT} (h : sh T5 g (x + a)) : ex_M G 6 0 0 my_X5_reset [.ref (x + a)] (ap x ws g) (rv none (ap x (W_X5_reset a ++ ws) g)) := by
  rw [← w_X5_reset]
  exact m_X5_reset hst (shq apq h)
def W_X9_reset (a : Nat) : List WT := [(0, a, 903, 0, 0), (2, a + 2, 0, 16, (-1)), (3, a + 1, 0, 1200, 0)]
theorem w_X9_reset (x a : Nat) (ws : List WT) (g : GT) : F_X9_reset (ap x ws g) (x + a) = ap x (W_X9_reset a ++ ws) g := rfl
theorem mA_X9_reset {G : GE} (hst : (ge_l G).stackTraces = false) {x a : Nat} {ws : List WT} {g : GT} (h : sh T9 g (x + a)) : ex_M G 2 0 0 my_X9_reset [.ref (x + a)] (ap x ws g) (rv none (ap x (W_X9_reset a ++ ws) g)) := by
  rw [← w_X9_reset]
  exact m_X9_reset hst (shq apq h)
def W_X10_reset (a : Nat) : List WT := [(2, a + 1, 0, 16, (-1)), (0, a, 1004, 0, 0), (0, a, 1003, 0, (-1))]
theorem w_X10_reset (x a : Nat) (ws : List WT) (g : GT) : F_X10_reset (ap x ws g) (x + a) = ap x (W_X10_reset a ++ ws) g := rfl
theorem mA_X10_reset {G : GE} (hst : (ge_l G).stackTraces = false) {x a : Nat} {ws : List WT} {g : GT} (h : sh T10 g (x + a)) : ex_M G 2 0 0 my_X10_reset [.ref (x + a)] (ap x ws g) (rv none (ap x (W_X10_reset a ++ ws) g)) := by
  rw [← w_X10_reset]
  exact m_X10_reset hst (shq apq h)
def W_X3_reset (s ge : Int32) (a : Nat) : List WT := [(0, a, 311, 0, 0), (0, a, 310, 0, 0), (0, a, 309, 0, (-1)), (0, a, 308, 0, (-1)), (2, a + 1, 0, 10, 0), (0, a, 306, 0, 0), (0, a, 305, 0, 0), (0, a, 304, 0, ge), (0, a, 303, 0, s)]
theorem w_X3_reset (s ge : Int32) (x a : Nat) (ws : List WT) (g : GT) : F_X3_reset (ap x ws g) s ge (x + a) = ap x (W_X3_reset s ge a ++ ws) g := rfl
theorem mA_X3_reset1 {G : GE} (hst : (ge_l G).stackTraces = false) {x a : Nat} {v : Int32} {ws : List WT} {g : GT} (h : sh T3 g (x + a)) (hv : gx_I g 300 (x + a) = v) (hw : rI a 300 ws = none) (hc : ¬ (((Int8.ofInt 7).toInt32 >>> (v &&& 31)) &&& Int32.ofInt 1 = 0)) : ex_M G 4 0 0 my_X3_reset [.ref (x + a)] (ap x ws g) (rv none (ap x (W_X3_reset 2 0 a ++ ws) g)) := by
  rw [← w_X3_reset]
  exact m_X3_reset1 hst (shq apq h) (apI0 hw hv) hc
theorem mA_X3_reset0 {G : GE} (hst : (ge_l G).stackTraces = false) {x a : Nat} {v : Int32} {ws : List WT} {g : GT} (h : sh T3 g (x + a)) (hv : gx_I g 300 (x + a) = v) (hw : rI a 300 ws = none) (hc : (((Int8.ofInt 7).toInt32 >>> (v &&& 31)) &&& Int32.ofInt 1 = 0)) : ex_M G 4 0 0 my_X3_reset [.ref (x + a)] (ap x ws g) (rv none (ap x (W_X3_reset 0 (-1) a ++ ws) g)) := by
  rw [← w_X3_reset]
  exact m_X3_reset0 hst (shq apq h) (apI0 hw hv) hc
theorem mA_fill {G : GE} (hst : (ge_l G).stackTraces = false) {x a N : Nat} {v : Int32} {ws : List WT} {g : GT} (hk : gx_K g (x + a) = 50) (hN : gx_N g (x + a) = N) (hb : N < 2 ^ 31) : ex_M G 1 0 0 my_J7_fill_53178 [.ref (x + a), .int v] (ap x ws g) (rv none (ap x ((2, a, 0, N, v) :: ws) g)) := m_J7_fill_53178 hst (kq apq hk) (nq apq hN) hb
def WR : List WT := [(0, 0, 1109, 0, (nI 0))] ++ ([(0, 0, 1108, 0, (nI 0))] ++ ([(1, 813, 3, 0, (nI 7))] ++ ([(1, 813, 2, 0, (nI 4095))] ++ ([(1, 813, 1, 0, (nI 511))] ++ ([(1, 813, 0, 0, (nI 7))] ++ (W_X10_reset 890 ++ (W_X10_reset 888 ++ (W_X10_reset 886 ++ (W_X10_reset 884 ++ (W_X10_reset 882 ++ (W_X10_reset 880 ++ (W_X10_reset 878 ++ (W_X10_reset 876 ++ (W_X10_reset 874 ++ (W_X10_reset 872 ++ (W_X10_reset 870 ++ (W_X10_reset 868 ++ (W_X3_reset 0 (-1) 865 ++ (W_X3_reset 0 (-1) 863 ++ (W_X3_reset 0 (-1) 861 ++ (W_X3_reset 0 (-1) 859 ++ (W_X3_reset 0 (-1) 857 ++ (W_X3_reset 0 (-1) 855 ++ (W_X3_reset 2 0 853 ++ (W_X3_reset 2 0 851 ++ (W_X3_reset 2 0 849 ++ (W_X5_reset 837 ++ (W_X5_reset 826 ++ (W_X5_reset 815 ++ (W_X2_reset 811 ++ (W_X9_reset 808 ++ ([(2, 807, 0, 300, (nI 0))] ++ (W_X0_reset 1)))))))))))))))))))))))))))))))))
theorem m_X11_resetAll {G : GE} (hst : (ge_l G).stackTraces = false) {x : Nat} {h : GT} (hs : sh T11 h x) (ho : tO O11 h x) (hi : tI I11 h x) : ex_M G 7 0 0 my_X11_resetAll [.ref x] h (rv none (ap x WR h)) := by
  refine ex_M_of ok_X11_resetAll cw_X11_resetAll rfl hst (Nat.le_of_ble_eq_true rfl) ?_
  refine ex_aload_n ok_X11_resetAll (mi 0 rfl) rfl ?_
  refine ex_getRx ok_X11_resetAll (mi 1 rfl) rfl rfl (fk hs 0 rfl) (fr hs 3 rfl) (fk hs 1 rfl) (by decide) ?_
  refine ex_callVr (As := []) (v := none) (g1 := (ap x (W_X0_reset 1) h)) ok_X11_resetAll (mi 2 rfl) rfl (mA_X0_reset (ws := []) hst (fk hs 1 rfl)) rfl (fk hs 1 rfl) rfl rfl (by decide) (by decide) (Nat.le_of_ble_eq_true rfl) (by decide) ?_
  refine ex_aload_n ok_X11_resetAll (mi 3 rfl) rfl ?_
  refine ex_getRx ok_X11_resetAll (mi 4 rfl) rfl rfl (kq apq (fk hs 0 rfl)) (rq apq (fr hs 4 rfl)) (kq apq (fk hs 3 rfl)) (by decide) ?_
  refine ex_iconst ok_X11_resetAll (mi 5 rfl) ?_
  refine ex_callSr (As := [_, _]) (v := none) (g1 := (ap x ([(2, 807, 0, 300, (nI 0))] ++ (W_X0_reset 1)) h)) ok_X11_resetAll (mi 6 rfl) rfl (mA_fill (ws := (W_X0_reset 1)) (v := (nI 0)) hst (fk hs 3 rfl) (fn hs 3 rfl) (by decide)) rfl rfl rfl (by decide) (Nat.le_of_ble_eq_true rfl) (by decide) ?_
  refine ex_aload_n ok_X11_resetAll (mi 7 rfl) rfl ?_
  refine ex_getRx ok_X11_resetAll (mi 8 rfl) rfl rfl (kq apq (fk hs 0 rfl)) (rq apq (fr hs 8 rfl)) (kq apq (fk hs 4 rfl)) (by decide) ?_
  refine ex_callVr (As := []) (v := none) (g1 := (ap x (W_X9_reset 808 ++ ([(2, 807, 0, 300, (nI 0))] ++ (W_X0_reset 1))) h)) ok_X11_resetAll (mi 9 rfl) rfl (mA_X9_reset (ws := ([(2, 807, 0, 300, (nI 0))] ++ (W_X0_reset 1))) hst (sh_sub 808 hs (by decide +kernel) (by decide +kernel))) rfl (kq apq (fk hs 4 rfl)) rfl rfl (by decide) (by decide) (Nat.le_of_ble_eq_true rfl) (by decide) ?_
  refine ex_aload_n ok_X11_resetAll (mi 10 rfl) rfl ?_
  refine ex_getRx ok_X11_resetAll (mi 11 rfl) rfl rfl (kq apq (fk hs 0 rfl)) (rq apq (fr hs 11 rfl)) (kq apq (fk hs 7 rfl)) (by decide) ?_
  refine ex_callVr (As := []) (v := none) (g1 := (ap x (W_X2_reset 811 ++ (W_X9_reset 808 ++ ([(2, 807, 0, 300, (nI 0))] ++ (W_X0_reset 1)))) h)) ok_X11_resetAll (mi 12 rfl) rfl (mA_X2_reset (ws := (W_X9_reset 808 ++ ([(2, 807, 0, 300, (nI 0))] ++ (W_X0_reset 1)))) hst (sh_sub 811 hs (by decide +kernel) (by decide +kernel))) rfl (kq apq (fk hs 7 rfl)) rfl rfl (by decide) (by decide) (Nat.le_of_ble_eq_true rfl) (by decide) ?_
  refine ex_iconst ok_X11_resetAll (mi 13 rfl) ?_
  refine ex_istore_n ok_X11_resetAll (mi 14 rfl) ?_
  refine ex_iload_n ok_X11_resetAll (mi 15 rfl) rfl ?_
  refine ex_iconst ok_X11_resetAll (mi 16 rfl) ?_
  refine ex_icmp_ge (tgt := 51) ok_X11_resetAll (mi 17 rfl) rfl (fun hn => absurd hn (by decide)) (fun _ => ?_)
  refine ex_aload_n ok_X11_resetAll (mi 18 rfl) rfl ?_
  refine ex_getRx ok_X11_resetAll (mi 19 rfl) rfl rfl (kq apq (fk hs 0 rfl)) (rq apq (fr hs 13 rfl)) (kq apq (fk hs 10 rfl)) (by decide) ?_
  refine ex_iload_n ok_X11_resetAll (mi 20 rfl) rfl ?_
  refine ex_aaldx (n := 1) ok_X11_resetAll (mi 21 rfl) (by decide) (kq apq (fk hs 10 rfl)) (nq apq (fn hs 10 rfl)) (pk_in 0 3 (by decide)) (oq apq (fo ho 0 rfl)) (kq apq (fk hs 11 rfl)) (by decide) ?_
  refine ex_callVr (As := []) (v := none) (g1 := (ap x (W_X5_reset 815 ++ (W_X2_reset 811 ++ (W_X9_reset 808 ++ ([(2, 807, 0, 300, (nI 0))] ++ (W_X0_reset 1))))) h)) ok_X11_resetAll (mi 22 rfl) rfl (mA_X5_reset (ws := (W_X2_reset 811 ++ (W_X9_reset 808 ++ ([(2, 807, 0, 300, (nI 0))] ++ (W_X0_reset 1))))) hst (sh_sub 815 hs (by decide +kernel) (by decide +kernel))) rfl (kq apq (fk hs 11 rfl)) rfl rfl (by decide) (by decide) (Nat.le_of_ble_eq_true rfl) (by decide) ?_
  refine ex_iincx (w := (nI 1)) ok_X11_resetAll (mi 23 rfl) rfl (by decide) ?_
  refine ex_goto (tgt := 31) ok_X11_resetAll (mi 24 rfl) rfl ?_
  refine ex_ls (ls' := [(0, .ref x), (1, .int (nI 1))]) ⟨rfl, rfl, trivial⟩ ?_
  refine ex_iload_n ok_X11_resetAll (mi 15 rfl) rfl ?_
  refine ex_iconst ok_X11_resetAll (mi 16 rfl) ?_
  refine ex_icmp_ge (tgt := 51) ok_X11_resetAll (mi 17 rfl) rfl (fun hn => absurd hn (by decide)) (fun _ => ?_)
  refine ex_aload_n ok_X11_resetAll (mi 18 rfl) rfl ?_
  refine ex_getRx ok_X11_resetAll (mi 19 rfl) rfl rfl (kq apq (fk hs 0 rfl)) (rq apq (fr hs 13 rfl)) (kq apq (fk hs 10 rfl)) (by decide) ?_
  refine ex_iload_n ok_X11_resetAll (mi 20 rfl) rfl ?_
  refine ex_aaldx (n := 1) ok_X11_resetAll (mi 21 rfl) (by decide) (kq apq (fk hs 10 rfl)) (nq apq (fn hs 10 rfl)) (pk_in 1 3 (by decide)) (oq apq (fo ho 1 rfl)) (kq apq (fk hs 22 rfl)) (by decide) ?_
  refine ex_callVr (As := []) (v := none) (g1 := (ap x (W_X5_reset 826 ++ (W_X5_reset 815 ++ (W_X2_reset 811 ++ (W_X9_reset 808 ++ ([(2, 807, 0, 300, (nI 0))] ++ (W_X0_reset 1)))))) h)) ok_X11_resetAll (mi 22 rfl) rfl (mA_X5_reset (ws := (W_X5_reset 815 ++ (W_X2_reset 811 ++ (W_X9_reset 808 ++ ([(2, 807, 0, 300, (nI 0))] ++ (W_X0_reset 1)))))) hst (sh_sub 826 hs (by decide +kernel) (by decide +kernel))) rfl (kq apq (fk hs 22 rfl)) rfl rfl (by decide) (by decide) (Nat.le_of_ble_eq_true rfl) (by decide) ?_
  refine ex_iincx (w := (nI 2)) ok_X11_resetAll (mi 23 rfl) rfl (by decide) ?_
  refine ex_goto (tgt := 31) ok_X11_resetAll (mi 24 rfl) rfl ?_
  refine ex_ls (ls' := [(0, .ref x), (1, .int (nI 2))]) ⟨rfl, rfl, trivial⟩ ?_
  refine ex_iload_n ok_X11_resetAll (mi 15 rfl) rfl ?_
  refine ex_iconst ok_X11_resetAll (mi 16 rfl) ?_
  refine ex_icmp_ge (tgt := 51) ok_X11_resetAll (mi 17 rfl) rfl (fun hn => absurd hn (by decide)) (fun _ => ?_)
  refine ex_aload_n ok_X11_resetAll (mi 18 rfl) rfl ?_
  refine ex_getRx ok_X11_resetAll (mi 19 rfl) rfl rfl (kq apq (fk hs 0 rfl)) (rq apq (fr hs 13 rfl)) (kq apq (fk hs 10 rfl)) (by decide) ?_
  refine ex_iload_n ok_X11_resetAll (mi 20 rfl) rfl ?_
  refine ex_aaldx (n := 1) ok_X11_resetAll (mi 21 rfl) (by decide) (kq apq (fk hs 10 rfl)) (nq apq (fn hs 10 rfl)) (pk_in 2 3 (by decide)) (oq apq (fo ho 2 rfl)) (kq apq (fk hs 33 rfl)) (by decide) ?_
  refine ex_callVr (As := []) (v := none) (g1 := (ap x (W_X5_reset 837 ++ (W_X5_reset 826 ++ (W_X5_reset 815 ++ (W_X2_reset 811 ++ (W_X9_reset 808 ++ ([(2, 807, 0, 300, (nI 0))] ++ (W_X0_reset 1))))))) h)) ok_X11_resetAll (mi 22 rfl) rfl (mA_X5_reset (ws := (W_X5_reset 826 ++ (W_X5_reset 815 ++ (W_X2_reset 811 ++ (W_X9_reset 808 ++ ([(2, 807, 0, 300, (nI 0))] ++ (W_X0_reset 1))))))) hst (sh_sub 837 hs (by decide +kernel) (by decide +kernel))) rfl (kq apq (fk hs 33 rfl)) rfl rfl (by decide) (by decide) (Nat.le_of_ble_eq_true rfl) (by decide) ?_
  refine ex_iincx (w := (nI 3)) ok_X11_resetAll (mi 23 rfl) rfl (by decide) ?_
  refine ex_goto (tgt := 31) ok_X11_resetAll (mi 24 rfl) rfl ?_
  refine ex_ls (ls' := [(0, .ref x), (1, .int (nI 3))]) ⟨rfl, rfl, trivial⟩ ?_
  refine ex_iload_n ok_X11_resetAll (mi 15 rfl) rfl ?_
  refine ex_iconst ok_X11_resetAll (mi 16 rfl) ?_
  refine ex_icmp_ge (tgt := 51) ok_X11_resetAll (mi 17 rfl) rfl (fun _ => ?_) (fun hn => absurd (by decide) hn)
  refine ex_iconst ok_X11_resetAll (mi 25 rfl) ?_
  refine ex_istore_n ok_X11_resetAll (mi 26 rfl) ?_
  refine ex_iload_n ok_X11_resetAll (mi 27 rfl) rfl ?_
  refine ex_bipush ok_X11_resetAll (mi 28 rfl) ?_
  refine ex_icmp_ge (tgt := 74) ok_X11_resetAll (mi 29 rfl) rfl (fun hn => absurd hn (by decide)) (fun _ => ?_)
  refine ex_aload_n ok_X11_resetAll (mi 30 rfl) rfl ?_
  refine ex_getRx ok_X11_resetAll (mi 31 rfl) rfl rfl (kq apq (fk hs 0 rfl)) (rq apq (fr hs 56 rfl)) (kq apq (fk hs 44 rfl)) (by decide) ?_
  refine ex_iload_n ok_X11_resetAll (mi 32 rfl) rfl ?_
  refine ex_aaldx (n := 2) ok_X11_resetAll (mi 33 rfl) (by decide) (kq apq (fk hs 44 rfl)) (nq apq (fn hs 44 rfl)) (pk_in 0 9 (by decide)) (oq apq (fo ho 3 rfl)) (kq apq (fk hs 45 rfl)) (by decide) ?_
  refine ex_callVr (As := []) (v := none) (g1 := (ap x (W_X3_reset 2 0 849 ++ (W_X5_reset 837 ++ (W_X5_reset 826 ++ (W_X5_reset 815 ++ (W_X2_reset 811 ++ (W_X9_reset 808 ++ ([(2, 807, 0, 300, (nI 0))] ++ (W_X0_reset 1)))))))) h)) ok_X11_resetAll (mi 34 rfl) rfl (mA_X3_reset1 (ws := (W_X5_reset 837 ++ (W_X5_reset 826 ++ (W_X5_reset 815 ++ (W_X2_reset 811 ++ (W_X9_reset 808 ++ ([(2, 807, 0, 300, (nI 0))] ++ (W_X0_reset 1)))))))) hst (sh_sub 849 hs (by decide +kernel) (by decide +kernel)) (fi hi 9 rfl) (by decide +kernel) (by decide)) rfl (kq apq (fk hs 45 rfl)) rfl rfl (by decide) (by decide) (Nat.le_of_ble_eq_true rfl) (by decide) ?_
  refine ex_iincx (w := (nI 1)) ok_X11_resetAll (mi 35 rfl) rfl (by decide) ?_
  refine ex_goto (tgt := 53) ok_X11_resetAll (mi 36 rfl) rfl ?_
  refine ex_ls (ls' := [(0, .ref x), (1, .int (nI 1))]) ⟨rfl, rfl, trivial⟩ ?_
  refine ex_iload_n ok_X11_resetAll (mi 27 rfl) rfl ?_
  refine ex_bipush ok_X11_resetAll (mi 28 rfl) ?_
  refine ex_icmp_ge (tgt := 74) ok_X11_resetAll (mi 29 rfl) rfl (fun hn => absurd hn (by decide)) (fun _ => ?_)
  refine ex_aload_n ok_X11_resetAll (mi 30 rfl) rfl ?_
  refine ex_getRx ok_X11_resetAll (mi 31 rfl) rfl rfl (kq apq (fk hs 0 rfl)) (rq apq (fr hs 56 rfl)) (kq apq (fk hs 44 rfl)) (by decide) ?_
  refine ex_iload_n ok_X11_resetAll (mi 32 rfl) rfl ?_
  refine ex_aaldx (n := 2) ok_X11_resetAll (mi 33 rfl) (by decide) (kq apq (fk hs 44 rfl)) (nq apq (fn hs 44 rfl)) (pk_in 1 9 (by decide)) (oq apq (fo ho 4 rfl)) (kq apq (fk hs 47 rfl)) (by decide) ?_
  refine ex_callVr (As := []) (v := none) (g1 := (ap x (W_X3_reset 2 0 851 ++ (W_X3_reset 2 0 849 ++ (W_X5_reset 837 ++ (W_X5_reset 826 ++ (W_X5_reset 815 ++ (W_X2_reset 811 ++ (W_X9_reset 808 ++ ([(2, 807, 0, 300, (nI 0))] ++ (W_X0_reset 1))))))))) h)) ok_X11_resetAll (mi 34 rfl) rfl (mA_X3_reset1 (ws := (W_X3_reset 2 0 849 ++ (W_X5_reset 837 ++ (W_X5_reset 826 ++ (W_X5_reset 815 ++ (W_X2_reset 811 ++ (W_X9_reset 808 ++ ([(2, 807, 0, 300, (nI 0))] ++ (W_X0_reset 1))))))))) hst (sh_sub 851 hs (by decide +kernel) (by decide +kernel)) (fi hi 10 rfl) (by decide +kernel) (by decide)) rfl (kq apq (fk hs 47 rfl)) rfl rfl (by decide) (by decide) (Nat.le_of_ble_eq_true rfl) (by decide) ?_
  refine ex_iincx (w := (nI 2)) ok_X11_resetAll (mi 35 rfl) rfl (by decide) ?_
  refine ex_goto (tgt := 53) ok_X11_resetAll (mi 36 rfl) rfl ?_
  refine ex_ls (ls' := [(0, .ref x), (1, .int (nI 2))]) ⟨rfl, rfl, trivial⟩ ?_
  refine ex_iload_n ok_X11_resetAll (mi 27 rfl) rfl ?_
  refine ex_bipush ok_X11_resetAll (mi 28 rfl) ?_
  refine ex_icmp_ge (tgt := 74) ok_X11_resetAll (mi 29 rfl) rfl (fun hn => absurd hn (by decide)) (fun _ => ?_)
  refine ex_aload_n ok_X11_resetAll (mi 30 rfl) rfl ?_
  refine ex_getRx ok_X11_resetAll (mi 31 rfl) rfl rfl (kq apq (fk hs 0 rfl)) (rq apq (fr hs 56 rfl)) (kq apq (fk hs 44 rfl)) (by decide) ?_
  refine ex_iload_n ok_X11_resetAll (mi 32 rfl) rfl ?_
  refine ex_aaldx (n := 2) ok_X11_resetAll (mi 33 rfl) (by decide) (kq apq (fk hs 44 rfl)) (nq apq (fn hs 44 rfl)) (pk_in 2 9 (by decide)) (oq apq (fo ho 5 rfl)) (kq apq (fk hs 49 rfl)) (by decide) ?_
  refine ex_callVr (As := []) (v := none) (g1 := (ap x (W_X3_reset 2 0 853 ++ (W_X3_reset 2 0 851 ++ (W_X3_reset 2 0 849 ++ (W_X5_reset 837 ++ (W_X5_reset 826 ++ (W_X5_reset 815 ++ (W_X2_reset 811 ++ (W_X9_reset 808 ++ ([(2, 807, 0, 300, (nI 0))] ++ (W_X0_reset 1)))))))))) h)) ok_X11_resetAll (mi 34 rfl) rfl (mA_X3_reset1 (ws := (W_X3_reset 2 0 851 ++ (W_X3_reset 2 0 849 ++ (W_X5_reset 837 ++ (W_X5_reset 826 ++ (W_X5_reset 815 ++ (W_X2_reset 811 ++ (W_X9_reset 808 ++ ([(2, 807, 0, 300, (nI 0))] ++ (W_X0_reset 1)))))))))) hst (sh_sub 853 hs (by decide +kernel) (by decide +kernel)) (fi hi 11 rfl) (by decide +kernel) (by decide)) rfl (kq apq (fk hs 49 rfl)) rfl rfl (by decide) (by decide) (Nat.le_of_ble_eq_true rfl) (by decide) ?_
  refine ex_iincx (w := (nI 3)) ok_X11_resetAll (mi 35 rfl) rfl (by decide) ?_
  refine ex_goto (tgt := 53) ok_X11_resetAll (mi 36 rfl) rfl ?_
  refine ex_ls (ls' := [(0, .ref x), (1, .int (nI 3))]) ⟨rfl, rfl, trivial⟩ ?_
  refine ex_iload_n ok_X11_resetAll (mi 27 rfl) rfl ?_
  refine ex_bipush ok_X11_resetAll (mi 28 rfl) ?_
  refine ex_icmp_ge (tgt := 74) ok_X11_resetAll (mi 29 rfl) rfl (fun hn => absurd hn (by decide)) (fun _ => ?_)
  refine ex_aload_n ok_X11_resetAll (mi 30 rfl) rfl ?_
  refine ex_getRx ok_X11_resetAll (mi 31 rfl) rfl rfl (kq apq (fk hs 0 rfl)) (rq apq (fr hs 56 rfl)) (kq apq (fk hs 44 rfl)) (by decide) ?_
  refine ex_iload_n ok_X11_resetAll (mi 32 rfl) rfl ?_
  refine ex_aaldx (n := 2) ok_X11_resetAll (mi 33 rfl) (by decide) (kq apq (fk hs 44 rfl)) (nq apq (fn hs 44 rfl)) (pk_in 3 9 (by decide)) (oq apq (fo ho 6 rfl)) (kq apq (fk hs 51 rfl)) (by decide) ?_
  refine ex_callVr (As := []) (v := none) (g1 := (ap x (W_X3_reset 0 (-1) 855 ++ (W_X3_reset 2 0 853 ++ (W_X3_reset 2 0 851 ++ (W_X3_reset 2 0 849 ++ (W_X5_reset 837 ++ (W_X5_reset 826 ++ (W_X5_reset 815 ++ (W_X2_reset 811 ++ (W_X9_reset 808 ++ ([(2, 807, 0, 300, (nI 0))] ++ (W_X0_reset 1))))))))))) h)) ok_X11_resetAll (mi 34 rfl) rfl (mA_X3_reset0 (ws := (W_X3_reset 2 0 853 ++ (W_X3_reset 2 0 851 ++ (W_X3_reset 2 0 849 ++ (W_X5_reset 837 ++ (W_X5_reset 826 ++ (W_X5_reset 815 ++ (W_X2_reset 811 ++ (W_X9_reset 808 ++ ([(2, 807, 0, 300, (nI 0))] ++ (W_X0_reset 1))))))))))) hst (sh_sub 855 hs (by decide +kernel) (by decide +kernel)) (fi hi 12 rfl) (by decide +kernel) (by decide)) rfl (kq apq (fk hs 51 rfl)) rfl rfl (by decide) (by decide) (Nat.le_of_ble_eq_true rfl) (by decide) ?_
  refine ex_iincx (w := (nI 4)) ok_X11_resetAll (mi 35 rfl) rfl (by decide) ?_
  refine ex_goto (tgt := 53) ok_X11_resetAll (mi 36 rfl) rfl ?_
  refine ex_ls (ls' := [(0, .ref x), (1, .int (nI 4))]) ⟨rfl, rfl, trivial⟩ ?_
  refine ex_iload_n ok_X11_resetAll (mi 27 rfl) rfl ?_
  refine ex_bipush ok_X11_resetAll (mi 28 rfl) ?_
  refine ex_icmp_ge (tgt := 74) ok_X11_resetAll (mi 29 rfl) rfl (fun hn => absurd hn (by decide)) (fun _ => ?_)
  refine ex_aload_n ok_X11_resetAll (mi 30 rfl) rfl ?_
  refine ex_getRx ok_X11_resetAll (mi 31 rfl) rfl rfl (kq apq (fk hs 0 rfl)) (rq apq (fr hs 56 rfl)) (kq apq (fk hs 44 rfl)) (by decide) ?_
  refine ex_iload_n ok_X11_resetAll (mi 32 rfl) rfl ?_
  refine ex_aaldx (n := 2) ok_X11_resetAll (mi 33 rfl) (by decide) (kq apq (fk hs 44 rfl)) (nq apq (fn hs 44 rfl)) (pk_in 4 9 (by decide)) (oq apq (fo ho 7 rfl)) (kq apq (fk hs 53 rfl)) (by decide) ?_
  refine ex_callVr (As := []) (v := none) (g1 := (ap x (W_X3_reset 0 (-1) 857 ++ (W_X3_reset 0 (-1) 855 ++ (W_X3_reset 2 0 853 ++ (W_X3_reset 2 0 851 ++ (W_X3_reset 2 0 849 ++ (W_X5_reset 837 ++ (W_X5_reset 826 ++ (W_X5_reset 815 ++ (W_X2_reset 811 ++ (W_X9_reset 808 ++ ([(2, 807, 0, 300, (nI 0))] ++ (W_X0_reset 1)))))))))))) h)) ok_X11_resetAll (mi 34 rfl) rfl (mA_X3_reset0 (ws := (W_X3_reset 0 (-1) 855 ++ (W_X3_reset 2 0 853 ++ (W_X3_reset 2 0 851 ++ (W_X3_reset 2 0 849 ++ (W_X5_reset 837 ++ (W_X5_reset 826 ++ (W_X5_reset 815 ++ (W_X2_reset 811 ++ (W_X9_reset 808 ++ ([(2, 807, 0, 300, (nI 0))] ++ (W_X0_reset 1)))))))))))) hst (sh_sub 857 hs (by decide +kernel) (by decide +kernel)) (fi hi 13 rfl) (by decide +kernel) (by decide)) rfl (kq apq (fk hs 53 rfl)) rfl rfl (by decide) (by decide) (Nat.le_of_ble_eq_true rfl) (by decide) ?_
  refine ex_iincx (w := (nI 5)) ok_X11_resetAll (mi 35 rfl) rfl (by decide) ?_
  refine ex_goto (tgt := 53) ok_X11_resetAll (mi 36 rfl) rfl ?_
  refine ex_ls (ls' := [(0, .ref x), (1, .int (nI 5))]) ⟨rfl, rfl, trivial⟩ ?_
  refine ex_iload_n ok_X11_resetAll (mi 27 rfl) rfl ?_
  refine ex_bipush ok_X11_resetAll (mi 28 rfl) ?_
  refine ex_icmp_ge (tgt := 74) ok_X11_resetAll (mi 29 rfl) rfl (fun hn => absurd hn (by decide)) (fun _ => ?_)
  refine ex_aload_n ok_X11_resetAll (mi 30 rfl) rfl ?_
  refine ex_getRx ok_X11_resetAll (mi 31 rfl) rfl rfl (kq apq (fk hs 0 rfl)) (rq apq (fr hs 56 rfl)) (kq apq (fk hs 44 rfl)) (by decide) ?_
  refine ex_iload_n ok_X11_resetAll (mi 32 rfl) rfl ?_
  refine ex_aaldx (n := 2) ok_X11_resetAll (mi 33 rfl) (by decide) (kq apq (fk hs 44 rfl)) (nq apq (fn hs 44 rfl)) (pk_in 5 9 (by decide)) (oq apq (fo ho 8 rfl)) (kq apq (fk hs 55 rfl)) (by decide) ?_
  refine ex_callVr (As := []) (v := none) (g1 := (ap x (W_X3_reset 0 (-1) 859 ++ (W_X3_reset 0 (-1) 857 ++ (W_X3_reset 0 (-1) 855 ++ (W_X3_reset 2 0 853 ++ (W_X3_reset 2 0 851 ++ (W_X3_reset 2 0 849 ++ (W_X5_reset 837 ++ (W_X5_reset 826 ++ (W_X5_reset 815 ++ (W_X2_reset 811 ++ (W_X9_reset 808 ++ ([(2, 807, 0, 300, (nI 0))] ++ (W_X0_reset 1))))))))))))) h)) ok_X11_resetAll (mi 34 rfl) rfl (mA_X3_reset0 (ws := (W_X3_reset 0 (-1) 857 ++ (W_X3_reset 0 (-1) 855 ++ (W_X3_reset 2 0 853 ++ (W_X3_reset 2 0 851 ++ (W_X3_reset 2 0 849 ++ (W_X5_reset 837 ++ (W_X5_reset 826 ++ (W_X5_reset 815 ++ (W_X2_reset 811 ++ (W_X9_reset 808 ++ ([(2, 807, 0, 300, (nI 0))] ++ (W_X0_reset 1))))))))))))) hst (sh_sub 859 hs (by decide +kernel) (by decide +kernel)) (fi hi 14 rfl) (by decide +kernel) (by decide)) rfl (kq apq (fk hs 55 rfl)) rfl rfl (by decide) (by decide) (Nat.le_of_ble_eq_true rfl) (by decide) ?_
  refine ex_iincx (w := (nI 6)) ok_X11_resetAll (mi 35 rfl) rfl (by decide) ?_
  refine ex_goto (tgt := 53) ok_X11_resetAll (mi 36 rfl) rfl ?_
  refine ex_ls (ls' := [(0, .ref x), (1, .int (nI 6))]) ⟨rfl, rfl, trivial⟩ ?_
  refine ex_iload_n ok_X11_resetAll (mi 27 rfl) rfl ?_
  refine ex_bipush ok_X11_resetAll (mi 28 rfl) ?_
  refine ex_icmp_ge (tgt := 74) ok_X11_resetAll (mi 29 rfl) rfl (fun hn => absurd hn (by decide)) (fun _ => ?_)
  refine ex_aload_n ok_X11_resetAll (mi 30 rfl) rfl ?_
  refine ex_getRx ok_X11_resetAll (mi 31 rfl) rfl rfl (kq apq (fk hs 0 rfl)) (rq apq (fr hs 56 rfl)) (kq apq (fk hs 44 rfl)) (by decide) ?_
  refine ex_iload_n ok_X11_resetAll (mi 32 rfl) rfl ?_
  refine ex_aaldx (n := 2) ok_X11_resetAll (mi 33 rfl) (by decide) (kq apq (fk hs 44 rfl)) (nq apq (fn hs 44 rfl)) (pk_in 6 9 (by decide)) (oq apq (fo ho 9 rfl)) (kq apq (fk hs 57 rfl)) (by decide) ?_
  refine ex_callVr (As := []) (v := none) (g1 := (ap x (W_X3_reset 0 (-1) 861 ++ (W_X3_reset 0 (-1) 859 ++ (W_X3_reset 0 (-1) 857 ++ (W_X3_reset 0 (-1) 855 ++ (W_X3_reset 2 0 853 ++ (W_X3_reset 2 0 851 ++ (W_X3_reset 2 0 849 ++ (W_X5_reset 837 ++ (W_X5_reset 826 ++ (W_X5_reset 815 ++ (W_X2_reset 811 ++ (W_X9_reset 808 ++ ([(2, 807, 0, 300, (nI 0))] ++ (W_X0_reset 1)))))))))))))) h)) ok_X11_resetAll (mi 34 rfl) rfl (mA_X3_reset0 (ws := (W_X3_reset 0 (-1) 859 ++ (W_X3_reset 0 (-1) 857 ++ (W_X3_reset 0 (-1) 855 ++ (W_X3_reset 2 0 853 ++ (W_X3_reset 2 0 851 ++ (W_X3_reset 2 0 849 ++ (W_X5_reset 837 ++ (W_X5_reset 826 ++ (W_X5_reset 815 ++ (W_X2_reset 811 ++ (W_X9_reset 808 ++ ([(2, 807, 0, 300, (nI 0))] ++ (W_X0_reset 1)))))))))))))) hst (sh_sub 861 hs (by decide +kernel) (by decide +kernel)) (fi hi 15 rfl) (by decide +kernel) (by decide)) rfl (kq apq (fk hs 57 rfl)) rfl rfl (by decide) (by decide) (Nat.le_of_ble_eq_true rfl) (by decide) ?_
  refine ex_iincx (w := (nI 7)) ok_X11_resetAll (mi 35 rfl) rfl (by decide) ?_
  refine ex_goto (tgt := 53) ok_X11_resetAll (mi 36 rfl) rfl ?_
  refine ex_ls (ls' := [(0, .ref x), (1, .int (nI 7))]) ⟨rfl, rfl, trivial⟩ ?_
  refine ex_iload_n ok_X11_resetAll (mi 27 rfl) rfl ?_
  refine ex_bipush ok_X11_resetAll (mi 28 rfl) ?_
  refine ex_icmp_ge (tgt := 74) ok_X11_resetAll (mi 29 rfl) rfl (fun hn => absurd hn (by decide)) (fun _ => ?_)
  refine ex_aload_n ok_X11_resetAll (mi 30 rfl) rfl ?_
  refine ex_getRx ok_X11_resetAll (mi 31 rfl) rfl rfl (kq apq (fk hs 0 rfl)) (rq apq (fr hs 56 rfl)) (kq apq (fk hs 44 rfl)) (by decide) ?_
  refine ex_iload_n ok_X11_resetAll (mi 32 rfl) rfl ?_
  refine ex_aaldx (n := 2) ok_X11_resetAll (mi 33 rfl) (by decide) (kq apq (fk hs 44 rfl)) (nq apq (fn hs 44 rfl)) (pk_in 7 9 (by decide)) (oq apq (fo ho 10 rfl)) (kq apq (fk hs 59 rfl)) (by decide) ?_
  refine ex_callVr (As := []) (v := none) (g1 := (ap x (W_X3_reset 0 (-1) 863 ++ (W_X3_reset 0 (-1) 861 ++ (W_X3_reset 0 (-1) 859 ++ (W_X3_reset 0 (-1) 857 ++ (W_X3_reset 0 (-1) 855 ++ (W_X3_reset 2 0 853 ++ (W_X3_reset 2 0 851 ++ (W_X3_reset 2 0 849 ++ (W_X5_reset 837 ++ (W_X5_reset 826 ++ (W_X5_reset 815 ++ (W_X2_reset 811 ++ (W_X9_reset 808 ++ ([(2, 807, 0, 300, (nI 0))] ++ (W_X0_reset 1))))))))))))))) h)) ok_X11_resetAll (mi 34 rfl) rfl (mA_X3_reset0 (ws := (W_X3_reset 0 (-1) 861 ++ (W_X3_reset 0 (-1) 859 ++ (W_X3_reset 0 (-1) 857 ++ (W_X3_reset 0 (-1) 855 ++ (W_X3_reset 2 0 853 ++ (W_X3_reset 2 0 851 ++ (W_X3_reset 2 0 849 ++ (W_X5_reset 837 ++ (W_X5_reset 826 ++ (W_X5_reset 815 ++ (W_X2_reset 811 ++ (W_X9_reset 808 ++ ([(2, 807, 0, 300, (nI 0))] ++ (W_X0_reset 1))))))))))))))) hst (sh_sub 863 hs (by decide +kernel) (by decide +kernel)) (fi hi 16 rfl) (by decide +kernel) (by decide)) rfl (kq apq (fk hs 59 rfl)) rfl rfl (by decide) (by decide) (Nat.le_of_ble_eq_true rfl) (by decide) ?_
  refine ex_iincx (w := (nI 8)) ok_X11_resetAll (mi 35 rfl) rfl (by decide) ?_
  refine ex_goto (tgt := 53) ok_X11_resetAll (mi 36 rfl) rfl ?_
  refine ex_ls (ls' := [(0, .ref x), (1, .int (nI 8))]) ⟨rfl, rfl, trivial⟩ ?_
  refine ex_iload_n ok_X11_resetAll (mi 27 rfl) rfl ?_
  refine ex_bipush ok_X11_resetAll (mi 28 rfl) ?_
  refine ex_icmp_ge (tgt := 74) ok_X11_resetAll (mi 29 rfl) rfl (fun hn => absurd hn (by decide)) (fun _ => ?_)
  refine ex_aload_n ok_X11_resetAll (mi 30 rfl) rfl ?_
  refine ex_getRx ok_X11_resetAll (mi 31 rfl) rfl rfl (kq apq (fk hs 0 rfl)) (rq apq (fr hs 56 rfl)) (kq apq (fk hs 44 rfl)) (by decide) ?_
  refine ex_iload_n ok_X11_resetAll (mi 32 rfl) rfl ?_
  refine ex_aaldx (n := 2) ok_X11_resetAll (mi 33 rfl) (by decide) (kq apq (fk hs 44 rfl)) (nq apq (fn hs 44 rfl)) (pk_in 8 9 (by decide)) (oq apq (fo ho 11 rfl)) (kq apq (fk hs 61 rfl)) (by decide) ?_
  refine ex_callVr (As := []) (v := none) (g1 := (ap x (W_X3_reset 0 (-1) 865 ++ (W_X3_reset 0 (-1) 863 ++ (W_X3_reset 0 (-1) 861 ++ (W_X3_reset 0 (-1) 859 ++ (W_X3_reset 0 (-1) 857 ++ (W_X3_reset 0 (-1) 855 ++ (W_X3_reset 2 0 853 ++ (W_X3_reset 2 0 851 ++ (W_X3_reset 2 0 849 ++ (W_X5_reset 837 ++ (W_X5_reset 826 ++ (W_X5_reset 815 ++ (W_X2_reset 811 ++ (W_X9_reset 808 ++ ([(2, 807, 0, 300, (nI 0))] ++ (W_X0_reset 1)))))))))))))))) h)) ok_X11_resetAll (mi 34 rfl) rfl (mA_X3_reset0 (ws := (W_X3_reset 0 (-1) 863 ++ (W_X3_reset 0 (-1) 861 ++ (W_X3_reset 0 (-1) 859 ++ (W_X3_reset 0 (-1) 857 ++ (W_X3_reset 0 (-1) 855 ++ (W_X3_reset 2 0 853 ++ (W_X3_reset 2 0 851 ++ (W_X3_reset 2 0 849 ++ (W_X5_reset 837 ++ (W_X5_reset 826 ++ (W_X5_reset 815 ++ (W_X2_reset 811 ++ (W_X9_reset 808 ++ ([(2, 807, 0, 300, (nI 0))] ++ (W_X0_reset 1)))))))))))))))) hst (sh_sub 865 hs (by decide +kernel) (by decide +kernel)) (fi hi 17 rfl) (by decide +kernel) (by decide)) rfl (kq apq (fk hs 61 rfl)) rfl rfl (by decide) (by decide) (Nat.le_of_ble_eq_true rfl) (by decide) ?_
  refine ex_iincx (w := (nI 9)) ok_X11_resetAll (mi 35 rfl) rfl (by decide) ?_
  refine ex_goto (tgt := 53) ok_X11_resetAll (mi 36 rfl) rfl ?_
  refine ex_ls (ls' := [(0, .ref x), (1, .int (nI 9))]) ⟨rfl, rfl, trivial⟩ ?_
  refine ex_iload_n ok_X11_resetAll (mi 27 rfl) rfl ?_
  refine ex_bipush ok_X11_resetAll (mi 28 rfl) ?_
  refine ex_icmp_ge (tgt := 74) ok_X11_resetAll (mi 29 rfl) rfl (fun _ => ?_) (fun hn => absurd (by decide) hn)
  refine ex_iconst ok_X11_resetAll (mi 37 rfl) ?_
  refine ex_istore_n ok_X11_resetAll (mi 38 rfl) ?_
  refine ex_iload_n ok_X11_resetAll (mi 39 rfl) rfl ?_
  refine ex_bipush ok_X11_resetAll (mi 40 rfl) ?_
  refine ex_icmp_ge (tgt := 97) ok_X11_resetAll (mi 41 rfl) rfl (fun hn => absurd hn (by decide)) (fun _ => ?_)
  refine ex_aload_n ok_X11_resetAll (mi 42 rfl) rfl ?_
  refine ex_getRx ok_X11_resetAll (mi 43 rfl) rfl rfl (kq apq (fk hs 0 rfl)) (rq apq (fr hs 84 rfl)) (kq apq (fk hs 63 rfl)) (by decide) ?_
  refine ex_iload_n ok_X11_resetAll (mi 44 rfl) rfl ?_
  refine ex_aaldx (n := 3) ok_X11_resetAll (mi 45 rfl) (by decide) (kq apq (fk hs 63 rfl)) (nq apq (fn hs 63 rfl)) (pk_in 0 12 (by decide)) (oq apq (fo ho 12 rfl)) (kq apq (fk hs 64 rfl)) (by decide) ?_
  refine ex_callVr (As := []) (v := none) (g1 := (ap x (W_X10_reset 868 ++ (W_X3_reset 0 (-1) 865 ++ (W_X3_reset 0 (-1) 863 ++ (W_X3_reset 0 (-1) 861 ++ (W_X3_reset 0 (-1) 859 ++ (W_X3_reset 0 (-1) 857 ++ (W_X3_reset 0 (-1) 855 ++ (W_X3_reset 2 0 853 ++ (W_X3_reset 2 0 851 ++ (W_X3_reset 2 0 849 ++ (W_X5_reset 837 ++ (W_X5_reset 826 ++ (W_X5_reset 815 ++ (W_X2_reset 811 ++ (W_X9_reset 808 ++ ([(2, 807, 0, 300, (nI 0))] ++ (W_X0_reset 1))))))))))))))))) h)) ok_X11_resetAll (mi 46 rfl) rfl (mA_X10_reset (ws := (W_X3_reset 0 (-1) 865 ++ (W_X3_reset 0 (-1) 863 ++ (W_X3_reset 0 (-1) 861 ++ (W_X3_reset 0 (-1) 859 ++ (W_X3_reset 0 (-1) 857 ++ (W_X3_reset 0 (-1) 855 ++ (W_X3_reset 2 0 853 ++ (W_X3_reset 2 0 851 ++ (W_X3_reset 2 0 849 ++ (W_X5_reset 837 ++ (W_X5_reset 826 ++ (W_X5_reset 815 ++ (W_X2_reset 811 ++ (W_X9_reset 808 ++ ([(2, 807, 0, 300, (nI 0))] ++ (W_X0_reset 1))))))))))))))))) hst (sh_sub 868 hs (by decide +kernel) (by decide +kernel))) rfl (kq apq (fk hs 64 rfl)) rfl rfl (by decide) (by decide) (Nat.le_of_ble_eq_true rfl) (by decide) ?_
  refine ex_iincx (w := (nI 1)) ok_X11_resetAll (mi 47 rfl) rfl (by decide) ?_
  refine ex_goto (tgt := 76) ok_X11_resetAll (mi 48 rfl) rfl ?_
  refine ex_ls (ls' := [(0, .ref x), (1, .int (nI 1))]) ⟨rfl, rfl, trivial⟩ ?_
  refine ex_iload_n ok_X11_resetAll (mi 39 rfl) rfl ?_
  refine ex_bipush ok_X11_resetAll (mi 40 rfl) ?_
  refine ex_icmp_ge (tgt := 97) ok_X11_resetAll (mi 41 rfl) rfl (fun hn => absurd hn (by decide)) (fun _ => ?_)
  refine ex_aload_n ok_X11_resetAll (mi 42 rfl) rfl ?_
  refine ex_getRx ok_X11_resetAll (mi 43 rfl) rfl rfl (kq apq (fk hs 0 rfl)) (rq apq (fr hs 84 rfl)) (kq apq (fk hs 63 rfl)) (by decide) ?_
  refine ex_iload_n ok_X11_resetAll (mi 44 rfl) rfl ?_
  refine ex_aaldx (n := 3) ok_X11_resetAll (mi 45 rfl) (by decide) (kq apq (fk hs 63 rfl)) (nq apq (fn hs 63 rfl)) (pk_in 1 12 (by decide)) (oq apq (fo ho 13 rfl)) (kq apq (fk hs 66 rfl)) (by decide) ?_
  refine ex_callVr (As := []) (v := none) (g1 := (ap x (W_X10_reset 870 ++ (W_X10_reset 868 ++ (W_X3_reset 0 (-1) 865 ++ (W_X3_reset 0 (-1) 863 ++ (W_X3_reset 0 (-1) 861 ++ (W_X3_reset 0 (-1) 859 ++ (W_X3_reset 0 (-1) 857 ++ (W_X3_reset 0 (-1) 855 ++ (W_X3_reset 2 0 853 ++ (W_X3_reset 2 0 851 ++ (W_X3_reset 2 0 849 ++ (W_X5_reset 837 ++ (W_X5_reset 826 ++ (W_X5_reset 815 ++ (W_X2_reset 811 ++ (W_X9_reset 808 ++ ([(2, 807, 0, 300, (nI 0))] ++ (W_X0_reset 1)))))))))))))))))) h)) ok_X11_resetAll (mi 46 rfl) rfl (mA_X10_reset (ws := (W_X10_reset 868 ++ (W_X3_reset 0 (-1) 865 ++ (W_X3_reset 0 (-1) 863 ++ (W_X3_reset 0 (-1) 861 ++ (W_X3_reset 0 (-1) 859 ++ (W_X3_reset 0 (-1) 857 ++ (W_X3_reset 0 (-1) 855 ++ (W_X3_reset 2 0 853 ++ (W_X3_reset 2 0 851 ++ (W_X3_reset 2 0 849 ++ (W_X5_reset 837 ++ (W_X5_reset 826 ++ (W_X5_reset 815 ++ (W_X2_reset 811 ++ (W_X9_reset 808 ++ ([(2, 807, 0, 300, (nI 0))] ++ (W_X0_reset 1)))))))))))))))))) hst (sh_sub 870 hs (by decide +kernel) (by decide +kernel))) rfl (kq apq (fk hs 66 rfl)) rfl rfl (by decide) (by decide) (Nat.le_of_ble_eq_true rfl) (by decide) ?_
  refine ex_iincx (w := (nI 2)) ok_X11_resetAll (mi 47 rfl) rfl (by decide) ?_
  refine ex_goto (tgt := 76) ok_X11_resetAll (mi 48 rfl) rfl ?_
  refine ex_ls (ls' := [(0, .ref x), (1, .int (nI 2))]) ⟨rfl, rfl, trivial⟩ ?_
  refine ex_iload_n ok_X11_resetAll (mi 39 rfl) rfl ?_
  refine ex_bipush ok_X11_resetAll (mi 40 rfl) ?_
  refine ex_icmp_ge (tgt := 97) ok_X11_resetAll (mi 41 rfl) rfl (fun hn => absurd hn (by decide)) (fun _ => ?_)
  refine ex_aload_n ok_X11_resetAll (mi 42 rfl) rfl ?_
  refine ex_getRx ok_X11_resetAll (mi 43 rfl) rfl rfl (kq apq (fk hs 0 rfl)) (rq apq (fr hs 84 rfl)) (kq apq (fk hs 63 rfl)) (by decide) ?_
  refine ex_iload_n ok_X11_resetAll (mi 44 rfl) rfl ?_
  refine ex_aaldx (n := 3) ok_X11_resetAll (mi 45 rfl) (by decide) (kq apq (fk hs 63 rfl)) (nq apq (fn hs 63 rfl)) (pk_in 2 12 (by decide)) (oq apq (fo ho 14 rfl)) (kq apq (fk hs 68 rfl)) (by decide) ?_
  refine ex_callVr (As := []) (v := none) (g1 := (ap x (W_X10_reset 872 ++ (W_X10_reset 870 ++ (W_X10_reset 868 ++ (W_X3_reset 0 (-1) 865 ++ (W_X3_reset 0 (-1) 863 ++ (W_X3_reset 0 (-1) 861 ++ (W_X3_reset 0 (-1) 859 ++ (W_X3_reset 0 (-1) 857 ++ (W_X3_reset 0 (-1) 855 ++ (W_X3_reset 2 0 853 ++ (W_X3_reset 2 0 851 ++ (W_X3_reset 2 0 849 ++ (W_X5_reset 837 ++ (W_X5_reset 826 ++ (W_X5_reset 815 ++ (W_X2_reset 811 ++ (W_X9_reset 808 ++ ([(2, 807, 0, 300, (nI 0))] ++ (W_X0_reset 1))))))))))))))))))) h)) ok_X11_resetAll (mi 46 rfl) rfl (mA_X10_reset (ws := (W_X10_reset 870 ++ (W_X10_reset 868 ++ (W_X3_reset 0 (-1) 865 ++ (W_X3_reset 0 (-1) 863 ++ (W_X3_reset 0 (-1) 861 ++ (W_X3_reset 0 (-1) 859 ++ (W_X3_reset 0 (-1) 857 ++ (W_X3_reset 0 (-1) 855 ++ (W_X3_reset 2 0 853 ++ (W_X3_reset 2 0 851 ++ (W_X3_reset 2 0 849 ++ (W_X5_reset 837 ++ (W_X5_reset 826 ++ (W_X5_reset 815 ++ (W_X2_reset 811 ++ (W_X9_reset 808 ++ ([(2, 807, 0, 300, (nI 0))] ++ (W_X0_reset 1))))))))))))))))))) hst (sh_sub 872 hs (by decide +kernel) (by decide +kernel))) rfl (kq apq (fk hs 68 rfl)) rfl rfl (by decide) (by decide) (Nat.le_of_ble_eq_true rfl) (by decide) ?_
  refine ex_iincx (w := (nI 3)) ok_X11_resetAll (mi 47 rfl) rfl (by decide) ?_
  refine ex_goto (tgt := 76) ok_X11_resetAll (mi 48 rfl) rfl ?_
  refine ex_ls (ls' := [(0, .ref x), (1, .int (nI 3))]) ⟨rfl, rfl, trivial⟩ ?_
  refine ex_iload_n ok_X11_resetAll (mi 39 rfl) rfl ?_
  refine ex_bipush ok_X11_resetAll (mi 40 rfl) ?_
  refine ex_icmp_ge (tgt := 97) ok_X11_resetAll (mi 41 rfl) rfl (fun hn => absurd hn (by decide)) (fun _ => ?_)
  refine ex_aload_n ok_X11_resetAll (mi 42 rfl) rfl ?_
  refine ex_getRx ok_X11_resetAll (mi 43 rfl) rfl rfl (kq apq (fk hs 0 rfl)) (rq apq (fr hs 84 rfl)) (kq apq (fk hs 63 rfl)) (by decide) ?_
  refine ex_iload_n ok_X11_resetAll (mi 44 rfl) rfl ?_
  refine ex_aaldx (n := 3) ok_X11_resetAll (mi 45 rfl) (by decide) (kq apq (fk hs 63 rfl)) (nq apq (fn hs 63 rfl)) (pk_in 3 12 (by decide)) (oq apq (fo ho 15 rfl)) (kq apq (fk hs 70 rfl)) (by decide) ?_
  refine ex_callVr (As := []) (v := none) (g1 := (ap x (W_X10_reset 874 ++ (W_X10_reset 872 ++ (W_X10_reset 870 ++ (W_X10_reset 868 ++ (W_X3_reset 0 (-1) 865 ++ (W_X3_reset 0 (-1) 863 ++ (W_X3_reset 0 (-1) 861 ++ (W_X3_reset 0 (-1) 859 ++ (W_X3_reset 0 (-1) 857 ++ (W_X3_reset 0 (-1) 855 ++ (W_X3_reset 2 0 853 ++ (W_X3_reset 2 0 851 ++ (W_X3_reset 2 0 849 ++ (W_X5_reset 837 ++ (W_X5_reset 826 ++ (W_X5_reset 815 ++ (W_X2_reset 811 ++ (W_X9_reset 808 ++ ([(2, 807, 0, 300, (nI 0))] ++ (W_X0_reset 1)))))))))))))))))))) h)) ok_X11_resetAll (mi 46 rfl) rfl (mA_X10_reset (ws := (W_X10_reset 872 ++ (W_X10_reset 870 ++ (W_X10_reset 868 ++ (W_X3_reset 0 (-1) 865 ++ (W_X3_reset 0 (-1) 863 ++ (W_X3_reset 0 (-1) 861 ++ (W_X3_reset 0 (-1) 859 ++ (W_X3_reset 0 (-1) 857 ++ (W_X3_reset 0 (-1) 855 ++ (W_X3_reset 2 0 853 ++ (W_X3_reset 2 0 851 ++ (W_X3_reset 2 0 849 ++ (W_X5_reset 837 ++ (W_X5_reset 826 ++ (W_X5_reset 815 ++ (W_X2_reset 811 ++ (W_X9_reset 808 ++ ([(2, 807, 0, 300, (nI 0))] ++ (W_X0_reset 1)))))))))))))))))))) hst (sh_sub 874 hs (by decide +kernel) (by decide +kernel))) rfl (kq apq (fk hs 70 rfl)) rfl rfl (by decide) (by decide) (Nat.le_of_ble_eq_true rfl) (by decide) ?_
  refine ex_iincx (w := (nI 4)) ok_X11_resetAll (mi 47 rfl) rfl (by decide) ?_
  refine ex_goto (tgt := 76) ok_X11_resetAll (mi 48 rfl) rfl ?_
  refine ex_ls (ls' := [(0, .ref x), (1, .int (nI 4))]) ⟨rfl, rfl, trivial⟩ ?_
  refine ex_iload_n ok_X11_resetAll (mi 39 rfl) rfl ?_
  refine ex_bipush ok_X11_resetAll (mi 40 rfl) ?_
  refine ex_icmp_ge (tgt := 97) ok_X11_resetAll (mi 41 rfl) rfl (fun hn => absurd hn (by decide)) (fun _ => ?_)
  refine ex_aload_n ok_X11_resetAll (mi 42 rfl) rfl ?_
  refine ex_getRx ok_X11_resetAll (mi 43 rfl) rfl rfl (kq apq (fk hs 0 rfl)) (rq apq (fr hs 84 rfl)) (kq apq (fk hs 63 rfl)) (by decide) ?_
  refine ex_iload_n ok_X11_resetAll (mi 44 rfl) rfl ?_
  refine ex_aaldx (n := 3) ok_X11_resetAll (mi 45 rfl) (by decide) (kq apq (fk hs 63 rfl)) (nq apq (fn hs 63 rfl)) (pk_in 4 12 (by decide)) (oq apq (fo ho 16 rfl)) (kq apq (fk hs 72 rfl)) (by decide) ?_
  refine ex_callVr (As := []) (v := none) (g1 := (ap x (W_X10_reset 876 ++ (W_X10_reset 874 ++ (W_X10_reset 872 ++ (W_X10_reset 870 ++ (W_X10_reset 868 ++ (W_X3_reset 0 (-1) 865 ++ (W_X3_reset 0 (-1) 863 ++ (W_X3_reset 0 (-1) 861 ++ (W_X3_reset 0 (-1) 859 ++ (W_X3_reset 0 (-1) 857 ++ (W_X3_reset 0 (-1) 855 ++ (W_X3_reset 2 0 853 ++ (W_X3_reset 2 0 851 ++ (W_X3_reset 2 0 849 ++ (W_X5_reset 837 ++ (W_X5_reset 826 ++ (W_X5_reset 815 ++ (W_X2_reset 811 ++ (W_X9_reset 808 ++ ([(2, 807, 0, 300, (nI 0))] ++ (W_X0_reset 1))))))))))))))))))))) h)) ok_X11_resetAll (mi 46 rfl) rfl (mA_X10_reset (ws := (W_X10_reset 874 ++ (W_X10_reset 872 ++ (W_X10_reset 870 ++ (W_X10_reset 868 ++ (W_X3_reset 0 (-1) 865 ++ (W_X3_reset 0 (-1) 863 ++ (W_X3_reset 0 (-1) 861 ++ (W_X3_reset 0 (-1) 859 ++ (W_X3_reset 0 (-1) 857 ++ (W_X3_reset 0 (-1) 855 ++ (W_X3_reset 2 0 853 ++ (W_X3_reset 2 0 851 ++ (W_X3_reset 2 0 849 ++ (W_X5_reset 837 ++ (W_X5_reset 826 ++ (W_X5_reset 815 ++ (W_X2_reset 811 ++ (W_X9_reset 808 ++ ([(2, 807, 0, 300, (nI 0))] ++ (W_X0_reset 1))))))))))))))))))))) hst (sh_sub 876 hs (by decide +kernel) (by decide +kernel))) rfl (kq apq (fk hs 72 rfl)) rfl rfl (by decide) (by decide) (Nat.le_of_ble_eq_true rfl) (by decide) ?_
  refine ex_iincx (w := (nI 5)) ok_X11_resetAll (mi 47 rfl) rfl (by decide) ?_
  refine ex_goto (tgt := 76) ok_X11_resetAll (mi 48 rfl) rfl ?_
  refine ex_ls (ls' := [(0, .ref x), (1, .int (nI 5))]) ⟨rfl, rfl, trivial⟩ ?_
  refine ex_iload_n ok_X11_resetAll (mi 39 rfl) rfl ?_
  refine ex_bipush ok_X11_resetAll (mi 40 rfl) ?_
  refine ex_icmp_ge (tgt := 97) ok_X11_resetAll (mi 41 rfl) rfl (fun hn => absurd hn (by decide)) (fun _ => ?_)
  refine ex_aload_n ok_X11_resetAll (mi 42 rfl) rfl ?_
  refine ex_getRx ok_X11_resetAll (mi 43 rfl) rfl rfl (kq apq (fk hs 0 rfl)) (rq apq (fr hs 84 rfl)) (kq apq (fk hs 63 rfl)) (by decide) ?_
  refine ex_iload_n ok_X11_resetAll (mi 44 rfl) rfl ?_
  refine ex_aaldx (n := 3) ok_X11_resetAll (mi 45 rfl) (by decide) (kq apq (fk hs 63 rfl)) (nq apq (fn hs 63 rfl)) (pk_in 5 12 (by decide)) (oq apq (fo ho 17 rfl)) (kq apq (fk hs 74 rfl)) (by decide) ?_
  refine ex_callVr (As := []) (v := none) (g1 := (ap x (W_X10_reset 878 ++ (W_X10_reset 876 ++ (W_X10_reset 874 ++ (W_X10_reset 872 ++ (W_X10_reset 870 ++ (W_X10_reset 868 ++ (W_X3_reset 0 (-1) 865 ++ (W_X3_reset 0 (-1) 863 ++ (W_X3_reset 0 (-1) 861 ++ (W_X3_reset 0 (-1) 859 ++ (W_X3_reset 0 (-1) 857 ++ (W_X3_reset 0 (-1) 855 ++ (W_X3_reset 2 0 853 ++ (W_X3_reset 2 0 851 ++ (W_X3_reset 2 0 849 ++ (W_X5_reset 837 ++ (W_X5_reset 826 ++ (W_X5_reset 815 ++ (W_X2_reset 811 ++ (W_X9_reset 808 ++ ([(2, 807, 0, 300, (nI 0))] ++ (W_X0_reset 1)))))))))))))))))))))) h)) ok_X11_resetAll (mi 46 rfl) rfl (mA_X10_reset (ws := (W_X10_reset 876 ++ (W_X10_reset 874 ++ (W_X10_reset 872 ++ (W_X10_reset 870 ++ (W_X10_reset 868 ++ (W_X3_reset 0 (-1) 865 ++ (W_X3_reset 0 (-1) 863 ++ (W_X3_reset 0 (-1) 861 ++ (W_X3_reset 0 (-1) 859 ++ (W_X3_reset 0 (-1) 857 ++ (W_X3_reset 0 (-1) 855 ++ (W_X3_reset 2 0 853 ++ (W_X3_reset 2 0 851 ++ (W_X3_reset 2 0 849 ++ (W_X5_reset 837 ++ (W_X5_reset 826 ++ (W_X5_reset 815 ++ (W_X2_reset 811 ++ (W_X9_reset 808 ++ ([(2, 807, 0, 300, (nI 0))] ++ (W_X0_reset 1)))))))))))))))))))))) hst (sh_sub 878 hs (by decide +kernel) (by decide +kernel))) rfl (kq apq (fk hs 74 rfl)) rfl rfl (by decide) (by decide) (Nat.le_of_ble_eq_true rfl) (by decide) ?_
  refine ex_iincx (w := (nI 6)) ok_X11_resetAll (mi 47 rfl) rfl (by decide) ?_
  refine ex_goto (tgt := 76) ok_X11_resetAll (mi 48 rfl) rfl ?_
  refine ex_ls (ls' := [(0, .ref x), (1, .int (nI 6))]) ⟨rfl, rfl, trivial⟩ ?_
  refine ex_iload_n ok_X11_resetAll (mi 39 rfl) rfl ?_
  refine ex_bipush ok_X11_resetAll (mi 40 rfl) ?_
  refine ex_icmp_ge (tgt := 97) ok_X11_resetAll (mi 41 rfl) rfl (fun hn => absurd hn (by decide)) (fun _ => ?_)
  refine ex_aload_n ok_X11_resetAll (mi 42 rfl) rfl ?_
  refine ex_getRx ok_X11_resetAll (mi 43 rfl) rfl rfl (kq apq (fk hs 0 rfl)) (rq apq (fr hs 84 rfl)) (kq apq (fk hs 63 rfl)) (by decide) ?_
  refine ex_iload_n ok_X11_resetAll (mi 44 rfl) rfl ?_
  refine ex_aaldx (n := 3) ok_X11_resetAll (mi 45 rfl) (by decide) (kq apq (fk hs 63 rfl)) (nq apq (fn hs 63 rfl)) (pk_in 6 12 (by decide)) (oq apq (fo ho 18 rfl)) (kq apq (fk hs 76 rfl)) (by decide) ?_
  refine ex_callVr (As := []) (v := none) (g1 := (ap x (W_X10_reset 880 ++ (W_X10_reset 878 ++ (W_X10_reset 876 ++ (W_X10_reset 874 ++ (W_X10_reset 872 ++ (W_X10_reset 870 ++ (W_X10_reset 868 ++ (W_X3_reset 0 (-1) 865 ++ (W_X3_reset 0 (-1) 863 ++ (W_X3_reset 0 (-1) 861 ++ (W_X3_reset 0 (-1) 859 ++ (W_X3_reset 0 (-1) 857 ++ (W_X3_reset 0 (-1) 855 ++ (W_X3_reset 2 0 853 ++ (W_X3_reset 2 0 851 ++ (W_X3_reset 2 0 849 ++ (W_X5_reset 837 ++ (W_X5_reset 826 ++ (W_X5_reset 815 ++ (W_X2_reset 811 ++ (W_X9_reset 808 ++ ([(2, 807, 0, 300, (nI 0))] ++ (W_X0_reset 1))))))))))))))))))))))) h)) ok_X11_resetAll (mi 46 rfl) rfl (mA_X10_reset (ws := (W_X10_reset 878 ++ (W_X10_reset 876 ++ (W_X10_reset 874 ++ (W_X10_reset 872 ++ (W_X10_reset 870 ++ (W_X10_reset 868 ++ (W_X3_reset 0 (-1) 865 ++ (W_X3_reset 0 (-1) 863 ++ (W_X3_reset 0 (-1) 861 ++ (W_X3_reset 0 (-1) 859 ++ (W_X3_reset 0 (-1) 857 ++ (W_X3_reset 0 (-1) 855 ++ (W_X3_reset 2 0 853 ++ (W_X3_reset 2 0 851 ++ (W_X3_reset 2 0 849 ++ (W_X5_reset 837 ++ (W_X5_reset 826 ++ (W_X5_reset 815 ++ (W_X2_reset 811 ++ (W_X9_reset 808 ++ ([(2, 807, 0, 300, (nI 0))] ++ (W_X0_reset 1))))))))))))))))))))))) hst (sh_sub 880 hs (by decide +kernel) (by decide +kernel))) rfl (kq apq (fk hs 76 rfl)) rfl rfl (by decide) (by decide) (Nat.le_of_ble_eq_true rfl) (by decide) ?_
  refine ex_iincx (w := (nI 7)) ok_X11_resetAll (mi 47 rfl) rfl (by decide) ?_
  refine ex_goto (tgt := 76) ok_X11_resetAll (mi 48 rfl) rfl ?_
  refine ex_ls (ls' := [(0, .ref x), (1, .int (nI 7))]) ⟨rfl, rfl, trivial⟩ ?_
  refine ex_iload_n ok_X11_resetAll (mi 39 rfl) rfl ?_
  refine ex_bipush ok_X11_resetAll (mi 40 rfl) ?_
  refine ex_icmp_ge (tgt := 97) ok_X11_resetAll (mi 41 rfl) rfl (fun hn => absurd hn (by decide)) (fun _ => ?_)
  refine ex_aload_n ok_X11_resetAll (mi 42 rfl) rfl ?_
  refine ex_getRx ok_X11_resetAll (mi 43 rfl) rfl rfl (kq apq (fk hs 0 rfl)) (rq apq (fr hs 84 rfl)) (kq apq (fk hs 63 rfl)) (by decide) ?_
  refine ex_iload_n ok_X11_resetAll (mi 44 rfl) rfl ?_
  refine ex_aaldx (n := 3) ok_X11_resetAll (mi 45 rfl) (by decide) (kq apq (fk hs 63 rfl)) (nq apq (fn hs 63 rfl)) (pk_in 7 12 (by decide)) (oq apq (fo ho 19 rfl)) (kq apq (fk hs 78 rfl)) (by decide) ?_
  refine ex_callVr (As := []) (v := none) (g1 := (ap x (W_X10_reset 882 ++ (W_X10_reset 880 ++ (W_X10_reset 878 ++ (W_X10_reset 876 ++ (W_X10_reset 874 ++ (W_X10_reset 872 ++ (W_X10_reset 870 ++ (W_X10_reset 868 ++ (W_X3_reset 0 (-1) 865 ++ (W_X3_reset 0 (-1) 863 ++ (W_X3_reset 0 (-1) 861 ++ (W_X3_reset 0 (-1) 859 ++ (W_X3_reset 0 (-1) 857 ++ (W_X3_reset 0 (-1) 855 ++ (W_X3_reset 2 0 853 ++ (W_X3_reset 2 0 851 ++ (W_X3_reset 2 0 849 ++ (W_X5_reset 837 ++ (W_X5_reset 826 ++ (W_X5_reset 815 ++ (W_X2_reset 811 ++ (W_X9_reset 808 ++ ([(2, 807, 0, 300, (nI 0))] ++ (W_X0_reset 1)))))))))))))))))))))))) h)) ok_X11_resetAll (mi 46 rfl) rfl (mA_X10_reset (ws := (W_X10_reset 880 ++ (W_X10_reset 878 ++ (W_X10_reset 876 ++ (W_X10_reset 874 ++ (W_X10_reset 872 ++ (W_X10_reset 870 ++ (W_X10_reset 868 ++ (W_X3_reset 0 (-1) 865 ++ (W_X3_reset 0 (-1) 863 ++ (W_X3_reset 0 (-1) 861 ++ (W_X3_reset 0 (-1) 859 ++ (W_X3_reset 0 (-1) 857 ++ (W_X3_reset 0 (-1) 855 ++ (W_X3_reset 2 0 853 ++ (W_X3_reset 2 0 851 ++ (W_X3_reset 2 0 849 ++ (W_X5_reset 837 ++ (W_X5_reset 826 ++ (W_X5_reset 815 ++ (W_X2_reset 811 ++ (W_X9_reset 808 ++ ([(2, 807, 0, 300, (nI 0))] ++ (W_X0_reset 1)))))))))))))))))))))))) hst (sh_sub 882 hs (by decide +kernel) (by decide +kernel))) rfl (kq apq (fk hs 78 rfl)) rfl rfl (by decide) (by decide) (Nat.le_of_ble_eq_true rfl) (by decide) ?_
  refine ex_iincx (w := (nI 8)) ok_X11_resetAll (mi 47 rfl) rfl (by decide) ?_
  refine ex_goto (tgt := 76) ok_X11_resetAll (mi 48 rfl) rfl ?_
  refine ex_ls (ls' := [(0, .ref x), (1, .int (nI 8))]) ⟨rfl, rfl, trivial⟩ ?_
  refine ex_iload_n ok_X11_resetAll (mi 39 rfl) rfl ?_
  refine ex_bipush ok_X11_resetAll (mi 40 rfl) ?_
  refine ex_icmp_ge (tgt := 97) ok_X11_resetAll (mi 41 rfl) rfl (fun hn => absurd hn (by decide)) (fun _ => ?_)
  refine ex_aload_n ok_X11_resetAll (mi 42 rfl) rfl ?_
  refine ex_getRx ok_X11_resetAll (mi 43 rfl) rfl rfl (kq apq (fk hs 0 rfl)) (rq apq (fr hs 84 rfl)) (kq apq (fk hs 63 rfl)) (by decide) ?_
  refine ex_iload_n ok_X11_resetAll (mi 44 rfl) rfl ?_
  refine ex_aaldx (n := 3) ok_X11_resetAll (mi 45 rfl) (by decide) (kq apq (fk hs 63 rfl)) (nq apq (fn hs 63 rfl)) (pk_in 8 12 (by decide)) (oq apq (fo ho 20 rfl)) (kq apq (fk hs 80 rfl)) (by decide) ?_
  refine ex_callVr (As := []) (v := none) (g1 := (ap x (W_X10_reset 884 ++ (W_X10_reset 882 ++ (W_X10_reset 880 ++ (W_X10_reset 878 ++ (W_X10_reset 876 ++ (W_X10_reset 874 ++ (W_X10_reset 872 ++ (W_X10_reset 870 ++ (W_X10_reset 868 ++ (W_X3_reset 0 (-1) 865 ++ (W_X3_reset 0 (-1) 863 ++ (W_X3_reset 0 (-1) 861 ++ (W_X3_reset 0 (-1) 859 ++ (W_X3_reset 0 (-1) 857 ++ (W_X3_reset 0 (-1) 855 ++ (W_X3_reset 2 0 853 ++ (W_X3_reset 2 0 851 ++ (W_X3_reset 2 0 849 ++ (W_X5_reset 837 ++ (W_X5_reset 826 ++ (W_X5_reset 815 ++ (W_X2_reset 811 ++ (W_X9_reset 808 ++ ([(2, 807, 0, 300, (nI 0))] ++ (W_X0_reset 1))))))))))))))))))))))))) h)) ok_X11_resetAll (mi 46 rfl) rfl (mA_X10_reset (ws := (W_X10_reset 882 ++ (W_X10_reset 880 ++ (W_X10_reset 878 ++ (W_X10_reset 876 ++ (W_X10_reset 874 ++ (W_X10_reset 872 ++ (W_X10_reset 870 ++ (W_X10_reset 868 ++ (W_X3_reset 0 (-1) 865 ++ (W_X3_reset 0 (-1) 863 ++ (W_X3_reset 0 (-1) 861 ++ (W_X3_reset 0 (-1) 859 ++ (W_X3_reset 0 (-1) 857 ++ (W_X3_reset 0 (-1) 855 ++ (W_X3_reset 2 0 853 ++ (W_X3_reset 2 0 851 ++ (W_X3_reset 2 0 849 ++ (W_X5_reset 837 ++ (W_X5_reset 826 ++ (W_X5_reset 815 ++ (W_X2_reset 811 ++ (W_X9_reset 808 ++ ([(2, 807, 0, 300, (nI 0))] ++ (W_X0_reset 1))))))))))))))))))))))))) hst (sh_sub 884 hs (by decide +kernel) (by decide +kernel))) rfl (kq apq (fk hs 80 rfl)) rfl rfl (by decide) (by decide) (Nat.le_of_ble_eq_true rfl) (by decide) ?_
  refine ex_iincx (w := (nI 9)) ok_X11_resetAll (mi 47 rfl) rfl (by decide) ?_
  refine ex_goto (tgt := 76) ok_X11_resetAll (mi 48 rfl) rfl ?_
  refine ex_ls (ls' := [(0, .ref x), (1, .int (nI 9))]) ⟨rfl, rfl, trivial⟩ ?_
  refine ex_iload_n ok_X11_resetAll (mi 39 rfl) rfl ?_
  refine ex_bipush ok_X11_resetAll (mi 40 rfl) ?_
  refine ex_icmp_ge (tgt := 97) ok_X11_resetAll (mi 41 rfl) rfl (fun hn => absurd hn (by decide)) (fun _ => ?_)
  refine ex_aload_n ok_X11_resetAll (mi 42 rfl) rfl ?_
  refine ex_getRx ok_X11_resetAll (mi 43 rfl) rfl rfl (kq apq (fk hs 0 rfl)) (rq apq (fr hs 84 rfl)) (kq apq (fk hs 63 rfl)) (by decide) ?_
  refine ex_iload_n ok_X11_resetAll (mi 44 rfl) rfl ?_
  refine ex_aaldx (n := 3) ok_X11_resetAll (mi 45 rfl) (by decide) (kq apq (fk hs 63 rfl)) (nq apq (fn hs 63 rfl)) (pk_in 9 12 (by decide)) (oq apq (fo ho 21 rfl)) (kq apq (fk hs 82 rfl)) (by decide) ?_
  refine ex_callVr (As := []) (v := none) (g1 := (ap x (W_X10_reset 886 ++ (W_X10_reset 884 ++ (W_X10_reset 882 ++ (W_X10_reset 880 ++ (W_X10_reset 878 ++ (W_X10_reset 876 ++ (W_X10_reset 874 ++ (W_X10_reset 872 ++ (W_X10_reset 870 ++ (W_X10_reset 868 ++ (W_X3_reset 0 (-1) 865 ++ (W_X3_reset 0 (-1) 863 ++ (W_X3_reset 0 (-1) 861 ++ (W_X3_reset 0 (-1) 859 ++ (W_X3_reset 0 (-1) 857 ++ (W_X3_reset 0 (-1) 855 ++ (W_X3_reset 2 0 853 ++ (W_X3_reset 2 0 851 ++ (W_X3_reset 2 0 849 ++ (W_X5_reset 837 ++ (W_X5_reset 826 ++ (W_X5_reset 815 ++ (W_X2_reset 811 ++ (W_X9_reset 808 ++ ([(2, 807, 0, 300, (nI 0))] ++ (W_X0_reset 1)))))))))))))))))))))))))) h)) ok_X11_resetAll (mi 46 rfl) rfl (mA_X10_reset (ws := (W_X10_reset 884 ++ (W_X10_reset 882 ++ (W_X10_reset 880 ++ (W_X10_reset 878 ++ (W_X10_reset 876 ++ (W_X10_reset 874 ++ (W_X10_reset 872 ++ (W_X10_reset 870 ++ (W_X10_reset 868 ++ (W_X3_reset 0 (-1) 865 ++ (W_X3_reset 0 (-1) 863 ++ (W_X3_reset 0 (-1) 861 ++ (W_X3_reset 0 (-1) 859 ++ (W_X3_reset 0 (-1) 857 ++ (W_X3_reset 0 (-1) 855 ++ (W_X3_reset 2 0 853 ++ (W_X3_reset 2 0 851 ++ (W_X3_reset 2 0 849 ++ (W_X5_reset 837 ++ (W_X5_reset 826 ++ (W_X5_reset 815 ++ (W_X2_reset 811 ++ (W_X9_reset 808 ++ ([(2, 807, 0, 300, (nI 0))] ++ (W_X0_reset 1)))))))))))))))))))))))))) hst (sh_sub 886 hs (by decide +kernel) (by decide +kernel))) rfl (kq apq (fk hs 82 rfl)) rfl rfl (by decide) (by decide) (Nat.le_of_ble_eq_true rfl) (by decide) ?_
  refine ex_iincx (w := (nI 10)) ok_X11_resetAll (mi 47 rfl) rfl (by decide) ?_
  refine ex_goto (tgt := 76) ok_X11_resetAll (mi 48 rfl) rfl ?_
  refine ex_ls (ls' := [(0, .ref x), (1, .int (nI 10))]) ⟨rfl, rfl, trivial⟩ ?_
  refine ex_iload_n ok_X11_resetAll (mi 39 rfl) rfl ?_
  refine ex_bipush ok_X11_resetAll (mi 40 rfl) ?_
  refine ex_icmp_ge (tgt := 97) ok_X11_resetAll (mi 41 rfl) rfl (fun hn => absurd hn (by decide)) (fun _ => ?_)
  refine ex_aload_n ok_X11_resetAll (mi 42 rfl) rfl ?_
  refine ex_getRx ok_X11_resetAll (mi 43 rfl) rfl rfl (kq apq (fk hs 0 rfl)) (rq apq (fr hs 84 rfl)) (kq apq (fk hs 63 rfl)) (by decide) ?_
  refine ex_iload_n ok_X11_resetAll (mi 44 rfl) rfl ?_
  refine ex_aaldx (n := 3) ok_X11_resetAll (mi 45 rfl) (by decide) (kq apq (fk hs 63 rfl)) (nq apq (fn hs 63 rfl)) (pk_in 10 12 (by decide)) (oq apq (fo ho 22 rfl)) (kq apq (fk hs 84 rfl)) (by decide) ?_
  refine ex_callVr (As := []) (v := none) (g1 := (ap x (W_X10_reset 888 ++ (W_X10_reset 886 ++ (W_X10_reset 884 ++ (W_X10_reset 882 ++ (W_X10_reset 880 ++ (W_X10_reset 878 ++ (W_X10_reset 876 ++ (W_X10_reset 874 ++ (W_X10_reset 872 ++ (W_X10_reset 870 ++ (W_X10_reset 868 ++ (W_X3_reset 0 (-1) 865 ++ (W_X3_reset 0 (-1) 863 ++ (W_X3_reset 0 (-1) 861 ++ (W_X3_reset 0 (-1) 859 ++ (W_X3_reset 0 (-1) 857 ++ (W_X3_reset 0 (-1) 855 ++ (W_X3_reset 2 0 853 ++ (W_X3_reset 2 0 851 ++ (W_X3_reset 2 0 849 ++ (W_X5_reset 837 ++ (W_X5_reset 826 ++ (W_X5_reset 815 ++ (W_X2_reset 811 ++ (W_X9_reset 808 ++ ([(2, 807, 0, 300, (nI 0))] ++ (W_X0_reset 1))))))))))))))))))))))))))) h)) ok_X11_resetAll (mi 46 rfl) rfl (mA_X10_reset (ws := (W_X10_reset 886 ++ (W_X10_reset 884 ++ (W_X10_reset 882 ++ (W_X10_reset 880 ++ (W_X10_reset 878 ++ (W_X10_reset 876 ++ (W_X10_reset 874 ++ (W_X10_reset 872 ++ (W_X10_reset 870 ++ (W_X10_reset 868 ++ (W_X3_reset 0 (-1) 865 ++ (W_X3_reset 0 (-1) 863 ++ (W_X3_reset 0 (-1) 861 ++ (W_X3_reset 0 (-1) 859 ++ (W_X3_reset 0 (-1) 857 ++ (W_X3_reset 0 (-1) 855 ++ (W_X3_reset 2 0 853 ++ (W_X3_reset 2 0 851 ++ (W_X3_reset 2 0 849 ++ (W_X5_reset 837 ++ (W_X5_reset 826 ++ (W_X5_reset 815 ++ (W_X2_reset 811 ++ (W_X9_reset 808 ++ ([(2, 807, 0, 300, (nI 0))] ++ (W_X0_reset 1))))))))))))))))))))))))))) hst (sh_sub 888 hs (by decide +kernel) (by decide +kernel))) rfl (kq apq (fk hs 84 rfl)) rfl rfl (by decide) (by decide) (Nat.le_of_ble_eq_true rfl) (by decide) ?_
  refine ex_iincx (w := (nI 11)) ok_X11_resetAll (mi 47 rfl) rfl (by decide) ?_
  refine ex_goto (tgt := 76) ok_X11_resetAll (mi 48 rfl) rfl ?_
  refine ex_ls (ls' := [(0, .ref x), (1, .int (nI 11))]) ⟨rfl, rfl, trivial⟩ ?_
  refine ex_iload_n ok_X11_resetAll (mi 39 rfl) rfl ?_
  refine ex_bipush ok_X11_resetAll (mi 40 rfl) ?_
  refine ex_icmp_ge (tgt := 97) ok_X11_resetAll (mi 41 rfl) rfl (fun hn => absurd hn (by decide)) (fun _ => ?_)
  refine ex_aload_n ok_X11_resetAll (mi 42 rfl) rfl ?_
  refine ex_getRx ok_X11_resetAll (mi 43 rfl) rfl rfl (kq apq (fk hs 0 rfl)) (rq apq (fr hs 84 rfl)) (kq apq (fk hs 63 rfl)) (by decide) ?_
  refine ex_iload_n ok_X11_resetAll (mi 44 rfl) rfl ?_
  refine ex_aaldx (n := 3) ok_X11_resetAll (mi 45 rfl) (by decide) (kq apq (fk hs 63 rfl)) (nq apq (fn hs 63 rfl)) (pk_in 11 12 (by decide)) (oq apq (fo ho 23 rfl)) (kq apq (fk hs 86 rfl)) (by decide) ?_
  refine ex_callVr (As := []) (v := none) (g1 := (ap x (W_X10_reset 890 ++ (W_X10_reset 888 ++ (W_X10_reset 886 ++ (W_X10_reset 884 ++ (W_X10_reset 882 ++ (W_X10_reset 880 ++ (W_X10_reset 878 ++ (W_X10_reset 876 ++ (W_X10_reset 874 ++ (W_X10_reset 872 ++ (W_X10_reset 870 ++ (W_X10_reset 868 ++ (W_X3_reset 0 (-1) 865 ++ (W_X3_reset 0 (-1) 863 ++ (W_X3_reset 0 (-1) 861 ++ (W_X3_reset 0 (-1) 859 ++ (W_X3_reset 0 (-1) 857 ++ (W_X3_reset 0 (-1) 855 ++ (W_X3_reset 2 0 853 ++ (W_X3_reset 2 0 851 ++ (W_X3_reset 2 0 849 ++ (W_X5_reset 837 ++ (W_X5_reset 826 ++ (W_X5_reset 815 ++ (W_X2_reset 811 ++ (W_X9_reset 808 ++ ([(2, 807, 0, 300, (nI 0))] ++ (W_X0_reset 1)))))))))))))))))))))))))))) h)) ok_X11_resetAll (mi 46 rfl) rfl (mA_X10_reset (ws := (W_X10_reset 888 ++ (W_X10_reset 886 ++ (W_X10_reset 884 ++ (W_X10_reset 882 ++ (W_X10_reset 880 ++ (W_X10_reset 878 ++ (W_X10_reset 876 ++ (W_X10_reset 874 ++ (W_X10_reset 872 ++ (W_X10_reset 870 ++ (W_X10_reset 868 ++ (W_X3_reset 0 (-1) 865 ++ (W_X3_reset 0 (-1) 863 ++ (W_X3_reset 0 (-1) 861 ++ (W_X3_reset 0 (-1) 859 ++ (W_X3_reset 0 (-1) 857 ++ (W_X3_reset 0 (-1) 855 ++ (W_X3_reset 2 0 853 ++ (W_X3_reset 2 0 851 ++ (W_X3_reset 2 0 849 ++ (W_X5_reset 837 ++ (W_X5_reset 826 ++ (W_X5_reset 815 ++ (W_X2_reset 811 ++ (W_X9_reset 808 ++ ([(2, 807, 0, 300, (nI 0))] ++ (W_X0_reset 1)))))))))))))))))))))))))))) hst (sh_sub 890 hs (by decide +kernel) (by decide +kernel))) rfl (kq apq (fk hs 86 rfl)) rfl rfl (by decide) (by decide) (Nat.le_of_ble_eq_true rfl) (by decide) ?_
  refine ex_iincx (w := (nI 12)) ok_X11_resetAll (mi 47 rfl) rfl (by decide) ?_
  refine ex_goto (tgt := 76) ok_X11_resetAll (mi 48 rfl) rfl ?_
  refine ex_ls (ls' := [(0, .ref x), (1, .int (nI 12))]) ⟨rfl, rfl, trivial⟩ ?_
  refine ex_iload_n ok_X11_resetAll (mi 39 rfl) rfl ?_
  refine ex_bipush ok_X11_resetAll (mi 40 rfl) ?_
  refine ex_icmp_ge (tgt := 97) ok_X11_resetAll (mi 41 rfl) rfl (fun _ => ?_) (fun hn => absurd (by decide) hn)
  refine ex_iconst ok_X11_resetAll (mi 49 rfl) ?_
  refine ex_istore_n ok_X11_resetAll (mi 50 rfl) ?_
  refine ex_iload_n ok_X11_resetAll (mi 51 rfl) rfl ?_
  refine ex_iconst ok_X11_resetAll (mi 52 rfl) ?_
  refine ex_icmp_ge (tgt := 124) ok_X11_resetAll (mi 53 rfl) rfl (fun hn => absurd hn (by decide)) (fun _ => ?_)
  refine ex_aload_n ok_X11_resetAll (mi 54 rfl) rfl ?_
  refine ex_getRx ok_X11_resetAll (mi 55 rfl) rfl rfl (kq apq (fk hs 0 rfl)) (rq apq (fr hs 12 rfl)) (kq apq (fk hs 9 rfl)) (by decide) ?_
  refine ex_iload_n ok_X11_resetAll (mi 56 rfl) rfl ?_
  refine ex_iconst ok_X11_resetAll (mi 57 rfl) ?_
  refine ex_iload_n ok_X11_resetAll (mi 58 rfl) rfl ?_
  refine ex_callSr (As := [_]) (v := some (.int (nI 3))) (g1 := (ap x (W_X10_reset 890 ++ (W_X10_reset 888 ++ (W_X10_reset 886 ++ (W_X10_reset 884 ++ (W_X10_reset 882 ++ (W_X10_reset 880 ++ (W_X10_reset 878 ++ (W_X10_reset 876 ++ (W_X10_reset 874 ++ (W_X10_reset 872 ++ (W_X10_reset 870 ++ (W_X10_reset 868 ++ (W_X3_reset 0 (-1) 865 ++ (W_X3_reset 0 (-1) 863 ++ (W_X3_reset 0 (-1) 861 ++ (W_X3_reset 0 (-1) 859 ++ (W_X3_reset 0 (-1) 857 ++ (W_X3_reset 0 (-1) 855 ++ (W_X3_reset 2 0 853 ++ (W_X3_reset 2 0 851 ++ (W_X3_reset 2 0 849 ++ (W_X5_reset 837 ++ (W_X5_reset 826 ++ (W_X5_reset 815 ++ (W_X2_reset 811 ++ (W_X9_reset 808 ++ ([(2, 807, 0, 300, (nI 0))] ++ (W_X0_reset 1)))))))))))))))))))))))))))) h)) ok_X11_resetAll (mi 59 rfl) rfl ?c rfl rfl rfl (by decide) (Nat.le_of_ble_eq_true rfl) (by decide) ?_
  case c =>
    refine ex_M_of ok_X11_nodesOf cw_X11_nodesOf rfl hst (Nat.le_of_ble_eq_true rfl) ?_
    refine ex_iload_n ok_X11_nodesOf (mi 0 rfl) rfl ?_
    refine ex_tblk (tgt := 32) ok_X11_nodesOf (mi 1 rfl) (by decide) (by decide) (by decide) (by decide) ?_
    refine ex_iconst ok_X11_nodesOf (mi 2 rfl) ?_
    refine ex_iret ok_X11_nodesOf (mi 3 rfl) rfl ?_
    exact ⟨inlI (by decide), rfl⟩
  refine ex_ishl ok_X11_resetAll (mi 60 rfl) ?_
  refine ex_top (w := (nI 8)) (by decide) ?_
  refine ex_iconst ok_X11_resetAll (mi 61 rfl) ?_
  refine ex_isub ok_X11_resetAll (mi 62 rfl) ?_
  refine ex_top (w := (nI 7)) (by decide) ?_
  refine ex_iasta (a := 813) (j := 0) (v := (nI 7)) ok_X11_resetAll (mi 63 rfl) (fk hs 9 rfl) (fn hs 9 rfl) (pk_in 0 4 (by decide)) (by decide) (by decide) ?_
  refine ex_iincx (w := (nI 1)) ok_X11_resetAll (mi 64 rfl) rfl (by decide) ?_
  refine ex_goto (tgt := 99) ok_X11_resetAll (mi 65 rfl) rfl ?_
  refine ex_ls (ls' := [(0, .ref x), (1, .int (nI 1))]) ⟨rfl, rfl, trivial⟩ ?_
  refine ex_iload_n ok_X11_resetAll (mi 51 rfl) rfl ?_
  refine ex_iconst ok_X11_resetAll (mi 52 rfl) ?_
  refine ex_icmp_ge (tgt := 124) ok_X11_resetAll (mi 53 rfl) rfl (fun hn => absurd hn (by decide)) (fun _ => ?_)
  refine ex_aload_n ok_X11_resetAll (mi 54 rfl) rfl ?_
  refine ex_getRx ok_X11_resetAll (mi 55 rfl) rfl rfl (kq apq (fk hs 0 rfl)) (rq apq (fr hs 12 rfl)) (kq apq (fk hs 9 rfl)) (by decide) ?_
  refine ex_iload_n ok_X11_resetAll (mi 56 rfl) rfl ?_
  refine ex_iconst ok_X11_resetAll (mi 57 rfl) ?_
  refine ex_iload_n ok_X11_resetAll (mi 58 rfl) rfl ?_
  refine ex_callSr (As := [_]) (v := some (.int (nI 9))) (g1 := (ap x ([(1, 813, 0, 0, (nI 7))] ++ (W_X10_reset 890 ++ (W_X10_reset 888 ++ (W_X10_reset 886 ++ (W_X10_reset 884 ++ (W_X10_reset 882 ++ (W_X10_reset 880 ++ (W_X10_reset 878 ++ (W_X10_reset 876 ++ (W_X10_reset 874 ++ (W_X10_reset 872 ++ (W_X10_reset 870 ++ (W_X10_reset 868 ++ (W_X3_reset 0 (-1) 865 ++ (W_X3_reset 0 (-1) 863 ++ (W_X3_reset 0 (-1) 861 ++ (W_X3_reset 0 (-1) 859 ++ (W_X3_reset 0 (-1) 857 ++ (W_X3_reset 0 (-1) 855 ++ (W_X3_reset 2 0 853 ++ (W_X3_reset 2 0 851 ++ (W_X3_reset 2 0 849 ++ (W_X5_reset 837 ++ (W_X5_reset 826 ++ (W_X5_reset 815 ++ (W_X2_reset 811 ++ (W_X9_reset 808 ++ ([(2, 807, 0, 300, (nI 0))] ++ (W_X0_reset 1))))))))))))))))))))))))))))) h)) ok_X11_resetAll (mi 59 rfl) rfl ?c rfl rfl rfl (by decide) (Nat.le_of_ble_eq_true rfl) (by decide) ?_
  case c =>
    refine ex_M_of ok_X11_nodesOf cw_X11_nodesOf rfl hst (Nat.le_of_ble_eq_true rfl) ?_
    refine ex_iload_n ok_X11_nodesOf (mi 0 rfl) rfl ?_
    refine ex_tblk (tgt := 34) ok_X11_nodesOf (mi 1 rfl) (by decide) (by decide) (by decide) (by decide) ?_
    refine ex_bipush ok_X11_nodesOf (mi 4 rfl) ?_
    refine ex_iret ok_X11_nodesOf (mi 5 rfl) rfl ?_
    exact ⟨inlI (by decide), rfl⟩
  refine ex_ishl ok_X11_resetAll (mi 60 rfl) ?_
  refine ex_top (w := (nI 512)) (by decide) ?_
  refine ex_iconst ok_X11_resetAll (mi 61 rfl) ?_
  refine ex_isub ok_X11_resetAll (mi 62 rfl) ?_
  refine ex_top (w := (nI 511)) (by decide) ?_
  refine ex_iasta (a := 813) (j := 1) (v := (nI 511)) ok_X11_resetAll (mi 63 rfl) (fk hs 9 rfl) (fn hs 9 rfl) (pk_in 1 4 (by decide)) (by decide) (by decide) ?_
  refine ex_iincx (w := (nI 2)) ok_X11_resetAll (mi 64 rfl) rfl (by decide) ?_
  refine ex_goto (tgt := 99) ok_X11_resetAll (mi 65 rfl) rfl ?_
  refine ex_ls (ls' := [(0, .ref x), (1, .int (nI 2))]) ⟨rfl, rfl, trivial⟩ ?_
  refine ex_iload_n ok_X11_resetAll (mi 51 rfl) rfl ?_
  refine ex_iconst ok_X11_resetAll (mi 52 rfl) ?_
  refine ex_icmp_ge (tgt := 124) ok_X11_resetAll (mi 53 rfl) rfl (fun hn => absurd hn (by decide)) (fun _ => ?_)
  refine ex_aload_n ok_X11_resetAll (mi 54 rfl) rfl ?_
  refine ex_getRx ok_X11_resetAll (mi 55 rfl) rfl rfl (kq apq (fk hs 0 rfl)) (rq apq (fr hs 12 rfl)) (kq apq (fk hs 9 rfl)) (by decide) ?_
  refine ex_iload_n ok_X11_resetAll (mi 56 rfl) rfl ?_
  refine ex_iconst ok_X11_resetAll (mi 57 rfl) ?_
  refine ex_iload_n ok_X11_resetAll (mi 58 rfl) rfl ?_
  refine ex_callSr (As := [_]) (v := some (.int (nI 12))) (g1 := (ap x ([(1, 813, 1, 0, (nI 511))] ++ ([(1, 813, 0, 0, (nI 7))] ++ (W_X10_reset 890 ++ (W_X10_reset 888 ++ (W_X10_reset 886 ++ (W_X10_reset 884 ++ (W_X10_reset 882 ++ (W_X10_reset 880 ++ (W_X10_reset 878 ++ (W_X10_reset 876 ++ (W_X10_reset 874 ++ (W_X10_reset 872 ++ (W_X10_reset 870 ++ (W_X10_reset 868 ++ (W_X3_reset 0 (-1) 865 ++ (W_X3_reset 0 (-1) 863 ++ (W_X3_reset 0 (-1) 861 ++ (W_X3_reset 0 (-1) 859 ++ (W_X3_reset 0 (-1) 857 ++ (W_X3_reset 0 (-1) 855 ++ (W_X3_reset 2 0 853 ++ (W_X3_reset 2 0 851 ++ (W_X3_reset 2 0 849 ++ (W_X5_reset 837 ++ (W_X5_reset 826 ++ (W_X5_reset 815 ++ (W_X2_reset 811 ++ (W_X9_reset 808 ++ ([(2, 807, 0, 300, (nI 0))] ++ (W_X0_reset 1)))))))))))))))))))))))))))))) h)) ok_X11_resetAll (mi 59 rfl) rfl ?c rfl rfl rfl (by decide) (Nat.le_of_ble_eq_true rfl) (by decide) ?_
  case c =>
    refine ex_M_of ok_X11_nodesOf cw_X11_nodesOf rfl hst (Nat.le_of_ble_eq_true rfl) ?_
    refine ex_iload_n ok_X11_nodesOf (mi 0 rfl) rfl ?_
    refine ex_tblk (tgt := 37) ok_X11_nodesOf (mi 1 rfl) (by decide) (by decide) (by decide) (by decide) ?_
    refine ex_bipush ok_X11_nodesOf (mi 6 rfl) ?_
    refine ex_iret ok_X11_nodesOf (mi 7 rfl) rfl ?_
    exact ⟨inlI (by decide), rfl⟩
  refine ex_ishl ok_X11_resetAll (mi 60 rfl) ?_
  refine ex_top (w := (nI 4096)) (by decide) ?_
  refine ex_iconst ok_X11_resetAll (mi 61 rfl) ?_
  refine ex_isub ok_X11_resetAll (mi 62 rfl) ?_
  refine ex_top (w := (nI 4095)) (by decide) ?_
  refine ex_iasta (a := 813) (j := 2) (v := (nI 4095)) ok_X11_resetAll (mi 63 rfl) (fk hs 9 rfl) (fn hs 9 rfl) (pk_in 2 4 (by decide)) (by decide) (by decide) ?_
  refine ex_iincx (w := (nI 3)) ok_X11_resetAll (mi 64 rfl) rfl (by decide) ?_
  refine ex_goto (tgt := 99) ok_X11_resetAll (mi 65 rfl) rfl ?_
  refine ex_ls (ls' := [(0, .ref x), (1, .int (nI 3))]) ⟨rfl, rfl, trivial⟩ ?_
  refine ex_iload_n ok_X11_resetAll (mi 51 rfl) rfl ?_
  refine ex_iconst ok_X11_resetAll (mi 52 rfl) ?_
  refine ex_icmp_ge (tgt := 124) ok_X11_resetAll (mi 53 rfl) rfl (fun hn => absurd hn (by decide)) (fun _ => ?_)
  refine ex_aload_n ok_X11_resetAll (mi 54 rfl) rfl ?_
  refine ex_getRx ok_X11_resetAll (mi 55 rfl) rfl rfl (kq apq (fk hs 0 rfl)) (rq apq (fr hs 12 rfl)) (kq apq (fk hs 9 rfl)) (by decide) ?_
  refine ex_iload_n ok_X11_resetAll (mi 56 rfl) rfl ?_
  refine ex_iconst ok_X11_resetAll (mi 57 rfl) ?_
  refine ex_iload_n ok_X11_resetAll (mi 58 rfl) rfl ?_
  refine ex_callSr (As := [_]) (v := some (.int (nI 3))) (g1 := (ap x ([(1, 813, 2, 0, (nI 4095))] ++ ([(1, 813, 1, 0, (nI 511))] ++ ([(1, 813, 0, 0, (nI 7))] ++ (W_X10_reset 890 ++ (W_X10_reset 888 ++ (W_X10_reset 886 ++ (W_X10_reset 884 ++ (W_X10_reset 882 ++ (W_X10_reset 880 ++ (W_X10_reset 878 ++ (W_X10_reset 876 ++ (W_X10_reset 874 ++ (W_X10_reset 872 ++ (W_X10_reset 870 ++ (W_X10_reset 868 ++ (W_X3_reset 0 (-1) 865 ++ (W_X3_reset 0 (-1) 863 ++ (W_X3_reset 0 (-1) 861 ++ (W_X3_reset 0 (-1) 859 ++ (W_X3_reset 0 (-1) 857 ++ (W_X3_reset 0 (-1) 855 ++ (W_X3_reset 2 0 853 ++ (W_X3_reset 2 0 851 ++ (W_X3_reset 2 0 849 ++ (W_X5_reset 837 ++ (W_X5_reset 826 ++ (W_X5_reset 815 ++ (W_X2_reset 811 ++ (W_X9_reset 808 ++ ([(2, 807, 0, 300, (nI 0))] ++ (W_X0_reset 1))))))))))))))))))))))))))))))) h)) ok_X11_resetAll (mi 59 rfl) rfl ?c rfl rfl rfl (by decide) (Nat.le_of_ble_eq_true rfl) (by decide) ?_
  case c =>
    refine ex_M_of ok_X11_nodesOf cw_X11_nodesOf rfl hst (Nat.le_of_ble_eq_true rfl) ?_
    refine ex_iload_n ok_X11_nodesOf (mi 0 rfl) rfl ?_
    refine ex_tblk (tgt := 40) ok_X11_nodesOf (mi 1 rfl) (by decide) (by decide) (by decide) (by decide) ?_
    refine ex_iconst ok_X11_nodesOf (mi 8 rfl) ?_
    refine ex_iret ok_X11_nodesOf (mi 9 rfl) rfl ?_
    exact ⟨inlI (by decide), rfl⟩
  refine ex_ishl ok_X11_resetAll (mi 60 rfl) ?_
  refine ex_top (w := (nI 8)) (by decide) ?_
  refine ex_iconst ok_X11_resetAll (mi 61 rfl) ?_
  refine ex_isub ok_X11_resetAll (mi 62 rfl) ?_
  refine ex_top (w := (nI 7)) (by decide) ?_
  refine ex_iasta (a := 813) (j := 3) (v := (nI 7)) ok_X11_resetAll (mi 63 rfl) (fk hs 9 rfl) (fn hs 9 rfl) (pk_in 3 4 (by decide)) (by decide) (by decide) ?_
  refine ex_iincx (w := (nI 4)) ok_X11_resetAll (mi 64 rfl) rfl (by decide) ?_
  refine ex_goto (tgt := 99) ok_X11_resetAll (mi 65 rfl) rfl ?_
  refine ex_ls (ls' := [(0, .ref x), (1, .int (nI 4))]) ⟨rfl, rfl, trivial⟩ ?_
  refine ex_iload_n ok_X11_resetAll (mi 51 rfl) rfl ?_
  refine ex_iconst ok_X11_resetAll (mi 52 rfl) ?_
  refine ex_icmp_ge (tgt := 124) ok_X11_resetAll (mi 53 rfl) rfl (fun _ => ?_) (fun hn => absurd (by decide) hn)
  refine ex_aload_n ok_X11_resetAll (mi 66 rfl) rfl ?_
  refine ex_iconst ok_X11_resetAll (mi 67 rfl) ?_
  refine ex_putIa (a := 0) (v := (nI 0)) ok_X11_resetAll (mi 68 rfl) rfl rfl (fk hs 0 rfl) (by decide) ?_
  refine ex_aload_n ok_X11_resetAll (mi 69 rfl) rfl ?_
  refine ex_iconst ok_X11_resetAll (mi 70 rfl) ?_
  refine ex_putIa (a := 0) (v := (nI 0)) ok_X11_resetAll (mi 71 rfl) rfl rfl (fk hs 0 rfl) (by decide) ?_
  refine ex_vret ok_X11_resetAll (mi 72 rfl) rfl ?_
  exact ⟨rfl, rfl⟩
/-! the fresh object: every field and row -/
def IF : List (Nat × Nat × Int32) := [(815, 500, nI 0), (818, 400, nI 0), (820, 800, nI 0), (826, 500, nI 1), (829, 400, nI 1), (831, 800, nI 1), (837, 500, nI 2), (840, 400, nI 2), (842, 800, nI 2), (849, 300, nI 0), (851, 300, nI 1), (853, 300, nI 2), (855, 300, nI 3), (857, 300, nI 4), (859, 300, nI 5), (861, 300, nI 6), (863, 300, nI 7), (865, 300, nI 8), (868, 1000, nI 0), (870, 1000, nI 1), (872, 1000, nI 2), (874, 1000, nI 3), (876, 1000, nI 4), (878, 1000, nI 5), (880, 1000, nI 6), (882, 1000, nI 7), (884, 1000, nI 8), (886, 1000, nI 9), (888, 1000, nI 10), (890, 1000, nI 11), (1, 3, nI 0), (1, 4, nI 0), (1, 5, nI 0), (1, 6, nI 0), (808, 903, nI 0), (811, 202, nI 0), (815, 506, nI 0), (815, 507, -1), (815, 508, nI 0), (818, 402, nI 0), (818, 403, nI 7), (818, 404, nI 0), (818, 405, -1), (818, 406, nI 0), (818, 407, nI 0), (818, 408, nI 0), (818, 410, -1), (818, 411, nI 0), (815, 509, nI 0), (815, 510, nI 0), (815, 512, nI 0), (815, 513, nI 0), (815, 515, nI 0), (815, 516, nI 0), (825, 100, nI 0), (825, 101, nI 0), (825, 102, nI 0), (825, 103, nI 0), (825, 104, nI 0), (825, 105, nI 0), (826, 506, nI 0), (826, 507, -1), (826, 508, nI 0), (829, 402, nI 0), (829, 403, nI 7), (829, 404, nI 0), (829, 405, -1), (829, 406, nI 0), (829, 407, nI 0), (829, 408, nI 0), (829, 410, -1), (829, 411, nI 0), (826, 509, nI 0), (826, 510, nI 0), (826, 512, nI 0), (826, 513, nI 0), (826, 515, nI 0), (826, 516, nI 0), (836, 100, nI 0), (836, 101, nI 0), (836, 102, nI 0), (836, 103, nI 0), (836, 104, nI 0), (836, 105, nI 0), (837, 506, nI 0), (837, 507, -1), (837, 508, nI 0), (840, 402, nI 0), (840, 403, nI 7), (840, 404, nI 0), (840, 405, -1), (840, 406, nI 0), (840, 407, nI 0), (840, 408, nI 0), (840, 410, -1), (840, 411, nI 0), (837, 509, nI 0), (837, 510, nI 0), (837, 512, nI 0), (837, 513, nI 0), (837, 515, nI 0), (837, 516, nI 0), (847, 100, nI 0), (847, 101, nI 0), (847, 102, nI 0), (847, 103, nI 0), (847, 104, nI 0), (847, 105, nI 0), (849, 303, nI 2), (849, 304, nI 0), (849, 305, nI 0), (849, 306, nI 0), (849, 308, -1), (849, 309, -1), (849, 310, nI 0), (849, 311, nI 0), (851, 303, nI 2), (851, 304, nI 0), (851, 305, nI 0), (851, 306, nI 0), (851, 308, -1), (851, 309, -1), (851, 310, nI 0), (851, 311, nI 0), (853, 303, nI 2), (853, 304, nI 0), (853, 305, nI 0), (853, 306, nI 0), (853, 308, -1), (853, 309, -1), (853, 310, nI 0), (853, 311, nI 0), (855, 303, nI 0), (855, 304, -1), (855, 305, nI 0), (855, 306, nI 0), (855, 308, -1), (855, 309, -1), (855, 310, nI 0), (855, 311, nI 0), (857, 303, nI 0), (857, 304, -1), (857, 305, nI 0), (857, 306, nI 0), (857, 308, -1), (857, 309, -1), (857, 310, nI 0), (857, 311, nI 0), (859, 303, nI 0), (859, 304, -1), (859, 305, nI 0), (859, 306, nI 0), (859, 308, -1), (859, 309, -1), (859, 310, nI 0), (859, 311, nI 0), (861, 303, nI 0), (861, 304, -1), (861, 305, nI 0), (861, 306, nI 0), (861, 308, -1), (861, 309, -1), (861, 310, nI 0), (861, 311, nI 0), (863, 303, nI 0), (863, 304, -1), (863, 305, nI 0), (863, 306, nI 0), (863, 308, -1), (863, 309, -1), (863, 310, nI 0), (863, 311, nI 0), (865, 303, nI 0), (865, 304, -1), (865, 305, nI 0), (865, 306, nI 0), (865, 308, -1), (865, 309, -1), (865, 310, nI 0), (865, 311, nI 0), (868, 1003, -1), (868, 1004, nI 0), (870, 1003, -1), (870, 1004, nI 0), (872, 1003, -1), (872, 1004, nI 0), (874, 1003, -1), (874, 1004, nI 0), (876, 1003, -1), (876, 1004, nI 0), (878, 1003, -1), (878, 1004, nI 0), (880, 1003, -1), (880, 1004, nI 0), (882, 1003, -1), (882, 1004, nI 0), (884, 1003, -1), (884, 1004, nI 0), (886, 1003, -1), (886, 1004, nI 0), (888, 1003, -1), (888, 1004, nI 0), (890, 1003, -1), (890, 1004, nI 0), (0, 1108, nI 0), (0, 1109, nI 0)]
def AF : List (Nat × Nat × Int32) := [(807, 300, nI 0), (810, 16, -1), (812, 48, -1), (819, 10, nI 0), (816, 10, nI 0), (817, 16, -1), (821, 16, nI 0), (822, 16, -1), (823, 16, nI 0), (824, 16, nI 0), (830, 10, nI 0), (827, 10, nI 0), (828, 16, -1), (832, 16, nI 0), (833, 16, -1), (834, 16, nI 0), (835, 16, nI 0), (841, 10, nI 0), (838, 10, nI 0), (839, 16, -1), (843, 16, nI 0), (844, 16, -1), (845, 16, nI 0), (846, 16, nI 0), (850, 10, nI 0), (852, 10, nI 0), (854, 10, nI 0), (856, 10, nI 0), (858, 10, nI 0), (860, 10, nI 0), (862, 10, nI 0), (864, 10, nI 0), (866, 10, nI 0), (869, 16, -1), (871, 16, -1), (873, 16, -1), (875, 16, -1), (877, 16, -1), (879, 16, -1), (881, 16, -1), (883, 16, -1), (885, 16, -1), (887, 16, -1), (889, 16, -1), (891, 16, -1)]
def EF : List (Nat × Nat × Int32) := [(813, 0, nI 7), (813, 1, nI 511), (813, 2, nI 4095), (813, 3, nI 7)]
def TM : List (Nat × Nat × Nat) × List (Nat × Nat × Nat) := ([(3, 7, 0), (5, 7, 0), (7, 7, 0), (805, 7, 0), (4, 50, 16), (6, 50, 16), (8, 50, 16), (806, 50, 16)], [(3, 608, 4), (5, 608, 6), (7, 608, 8), (805, 608, 806)])
def OM : List (Nat × Nat × Nat) := [(2, 0, 3), (2, 1, 5), (2, 2, 7)]
def TF : List (Nat × Nat × Nat) × List (Nat × Nat × Nat) := (T11.1 ++ TM.1, T11.2 ++ TM.2)
def FR (h : GT) (x : Nat) : Prop := sh TF h x ∧ tO (O11 ++ OM) h x ∧ tI IF h x ∧ tA AF h x ∧ tE EF h x
theorem tI_sub {I I0 : List (Nat × Nat × Int32)} {g : GT} {x : Nat} (h : tI I0 g x) (hs : ∀ q ∈ I, q ∈ I0) : tI I g x := fun q hq => h q (hs q hq)
theorem FR_WR {h : GT} {x : Nat} (hs : sh TF h x) (ho : tO (O11 ++ OM) h x) (hi : tI I11 h x) : FR (ap x WR h) x :=
  ⟨shq apq hs, fun q hq => oq apq (ho q hq), ap_tI hi (by decide +kernel), ap_tA (by decide +kernel), ap_tE (by decide +kernel)⟩
theorem T6_row {h : GT} {x b : Nat} (m : sh T6 h b) (e : b = x) : gx_K h x = 7 ∧ gx_N h x = 0 ∧ gx_K h (x + 1) = 50 ∧ gx_N h (x + 1) = 16 ∧ gx_R h 608 x = x + 1 := by
  subst e
  exact ⟨sh_k m 0 rfl, sh_n m 0 rfl, sh_k m 1 rfl, sh_n m 1 rfl, sh_r m 0 rfl⟩
theorem ST_TM {g0 h : GT} {x : Nat} (s : ST g0 h x 892 402 T11 O11 I11) : sh TF h x ∧ tO (O11 ++ OM) h x := by
  obtain ⟨-, s2, s3, -, -, -, s6, s7, -⟩ := s
  have m0 := T6_row (x := x + 3) (s7 0 (by decide) (by decide)) (by omega)
  have m1 := T6_row (x := x + 5) (s7 1 (by decide) (by decide)) (by omega)
  have m2 := T6_row (x := x + 7) (s7 2 (by decide) (by decide)) (by omega)
  have m3 := T6_row (x := x + 805) (s7 401 (by decide) (by decide)) (by omega)
  refine ⟨sh_app s2 ⟨fun q hq => ?_, fun q hq => ?_⟩, fun q hq => (List.mem_append.mp hq).elim (s3 q) (fun hq => ?_)⟩
  · simp only [TM, List.mem_cons, List.not_mem_nil, or_false] at hq
    rcases hq with rfl | rfl | rfl | rfl | rfl | rfl | rfl | rfl
    · exact ⟨m0.1, m0.2.1⟩
    · exact ⟨m1.1, m1.2.1⟩
    · exact ⟨m2.1, m2.2.1⟩
    · exact ⟨m3.1, m3.2.1⟩
    · exact ⟨m0.2.2.1, m0.2.2.2.1⟩
    · exact ⟨m1.2.2.1, m1.2.2.2.1⟩
    · exact ⟨m2.2.2.1, m2.2.2.2.1⟩
    · exact ⟨m3.2.2.1, m3.2.2.2.1⟩
  · simp only [TM, List.mem_cons, List.not_mem_nil, or_false] at hq
    rcases hq with rfl | rfl | rfl | rfl
    · exact m0.2.2.2.2
    · exact m1.2.2.2.2
    · exact m2.2.2.2.2
    · exact m3.2.2.2.2
  · simp only [OM, List.mem_cons, List.not_mem_nil, or_false] at hq
    rcases hq with rfl | rfl | rfl
    · exact s6 0 (by decide) (by decide)
    · exact s6 1 (by decide) (by decide)
    · exact s6 2 (by decide) (by decide)
end
section
/-! ===== small methods on numbers that are not known ===== -/
theorem vin_of {i : Int32} {n : Nat} (h1 : ¬ i < 0) (h2 : i < nI n) (hn : n < 2 ^ 31) : vp_in i n := by
  obtain ⟨j, hj, rfl⟩ := nI_of h1
  exact vp_in_nI ((nI_ltI hj hn).mp h2) hn
theorem vin_le {i : Int32} {n : Nat} (h1 : 0 ≤ i) (h2 : i ≤ nI n) (hn : n + 1 < 2 ^ 31) : vp_in i (n + 1) := by
  obtain ⟨j, hj, rfl⟩ := nI_of (x := i) (by rw [Int32.not_lt]; exact h1)
  exact vp_in_nI (Nat.lt_succ_of_le ((nI_leI hj (by omega)).mp h2)) hn
def us (x y : Int32) : Int32 := (x.toUInt32 >>> (y.toUInt32 &&& Int32.toUInt32 31)).toInt32
theorem m_reqOk0 {G : GE} (hst : (ge_l G).stackTraces = false) {h : GT} {j n : Nat} (hj : j < n) (hn : n < 2 ^ 31) : ex_M G 1 1 6 my_X11_requireIndex [.int (nI j), .int (nI n)] h (rv none h) := by
  refine ex_M_of ok_X11_requireIndex cw_X11_requireIndex rfl hst (Nat.le_of_ble_eq_true rfl) ?_
  refine ex_iload_n ok_X11_requireIndex (mi 0 rfl) rfl ?_
  refine ex_if_lt (tgt := 9) ok_X11_requireIndex (mi 1 rfl) rfl (fun h1 => False.elim (nI_pos (by omega) h1)) (fun h1 => ?_)
  refine ex_iload_n ok_X11_requireIndex (mi 2 rfl) rfl ?_
  refine ex_iload_n ok_X11_requireIndex (mi 3 rfl) rfl ?_
  refine ex_icmp_lt (tgt := 20) ok_X11_requireIndex (mi 4 rfl) rfl (fun h6 => ?_) (fun h6 => False.elim (h6 (nI_lt hj hn)))
  refine ex_vret ok_X11_requireIndex (mi 10 rfl) rfl ?_
  exact ⟨rfl, rfl⟩
theorem m_reqOk {G : GE} (hst : (ge_l G).stackTraces = false) {h : GT} {i b : Int32} {n : Nat} (hi : vp_in i n) (hn : n < 2 ^ 31) (hb : b = nI n) : ex_M G 1 1 6 my_X11_requireIndex [.int i, .int b] h (rv none h) := by
  subst hb
  obtain ⟨j, hj, rfl⟩ := vp_in_of hi hn
  exact m_reqOk0 hst hj hn
theorem m_reqBad {G : GE} (hst : (ge_l G).stackTraces = false) {h : GT} {i b : Int32} {m : Nat} (hi : ¬ vp_in i m) (hm : m < 2 ^ 31) (hb : b = nI m) : ex_M G 1 1 6 my_X11_requireIndex [.int i, .int b] h (tv 100 h) := by
  subst hb
  refine ex_M_of ok_X11_requireIndex cw_X11_requireIndex rfl hst (Nat.le_of_ble_eq_true rfl) ?_
  refine ex_iload_n ok_X11_requireIndex (mi 0 rfl) rfl ?_
  refine ex_if_lt (tgt := 9) ok_X11_requireIndex (mi 1 rfl) rfl (fun h1 => ?_) (fun h1 => ?_)
  · skip
    refine ex_throwW (e := 100) ok_X11_requireIndex (mi 5 rfl) (mi 6 rfl) (mi 7 rfl) (mi 8 rfl) (mi 9 rfl) (by decide) tx_261_265 (List.mem_of_getElem? (i := 0) rfl) rfl (by decide) (by decide) (Nat.le_of_ble_eq_true rfl) (fun n hn => ?_)
    exact ⟨rfl, n, hn, rfl⟩
  · skip
    refine ex_iload_n ok_X11_requireIndex (mi 2 rfl) rfl ?_
    refine ex_iload_n ok_X11_requireIndex (mi 3 rfl) rfl ?_
    refine ex_icmp_lt (tgt := 20) ok_X11_requireIndex (mi 4 rfl) rfl (fun h6 => ?_) (fun h6 => ?_)
    · skip
      refine ex_vret ok_X11_requireIndex (mi 10 rfl) rfl ?_
      exact absurd (vin_of h1 h6 hm) hi
    · skip
      refine ex_throwW (e := 100) ok_X11_requireIndex (mi 5 rfl) (mi 6 rfl) (mi 7 rfl) (mi 8 rfl) (mi 9 rfl) (by decide) tx_261_265 (List.mem_of_getElem? (i := 0) rfl) rfl (by decide) (by decide) (Nat.le_of_ble_eq_true rfl) (fun n hn => ?_)
      exact ⟨rfl, n, hn, rfl⟩
def bcE (v : Int32) : Int32 := ((((((((v - ((us v (nI 1)) &&& (nI 1431655765))) &&& (nI 858993459)) + ((us (v - ((us v (nI 1)) &&& (nI 1431655765))) (nI 2)) &&& (nI 858993459))) + (us (((v - ((us v (nI 1)) &&& (nI 1431655765))) &&& (nI 858993459)) + ((us (v - ((us v (nI 1)) &&& (nI 1431655765))) (nI 2)) &&& (nI 858993459))) (nI 4))) &&& (nI 252645135)) + (us (((((v - ((us v (nI 1)) &&& (nI 1431655765))) &&& (nI 858993459)) + ((us (v - ((us v (nI 1)) &&& (nI 1431655765))) (nI 2)) &&& (nI 858993459))) + (us (((v - ((us v (nI 1)) &&& (nI 1431655765))) &&& (nI 858993459)) + ((us (v - ((us v (nI 1)) &&& (nI 1431655765))) (nI 2)) &&& (nI 858993459))) (nI 4))) &&& (nI 252645135)) (nI 8))) + (us ((((((v - ((us v (nI 1)) &&& (nI 1431655765))) &&& (nI 858993459)) + ((us (v - ((us v (nI 1)) &&& (nI 1431655765))) (nI 2)) &&& (nI 858993459))) + (us (((v - ((us v (nI 1)) &&& (nI 1431655765))) &&& (nI 858993459)) + ((us (v - ((us v (nI 1)) &&& (nI 1431655765))) (nI 2)) &&& (nI 858993459))) (nI 4))) &&& (nI 252645135)) + (us (((((v - ((us v (nI 1)) &&& (nI 1431655765))) &&& (nI 858993459)) + ((us (v - ((us v (nI 1)) &&& (nI 1431655765))) (nI 2)) &&& (nI 858993459))) + (us (((v - ((us v (nI 1)) &&& (nI 1431655765))) &&& (nI 858993459)) + ((us (v - ((us v (nI 1)) &&& (nI 1431655765))) (nI 2)) &&& (nI 858993459))) (nI 4))) &&& (nI 252645135)) (nI 8))) (nI 16))) &&& (nI 63))
theorem m_bitCount {G : GE} (hst : (ge_l G).stackTraces = false) {h : GT} {v : Int32} : ex_M G 1 0 0 my_J6_bitCount_0f7a4 [.int v] h (rv (some (.int (bcE v))) h) := by
  refine ex_M_of ok_J6_bitCount_0f7a4 cw_J6_bitCount_0f7a4 rfl hst (Nat.le_of_ble_eq_true rfl) ?_
  refine ex_iload_n ok_J6_bitCount_0f7a4 (mi 0 rfl) rfl ?_
  refine ex_iload_n ok_J6_bitCount_0f7a4 (mi 1 rfl) rfl ?_
  refine ex_iconst ok_J6_bitCount_0f7a4 (mi 2 rfl) ?_
  refine ex_iushr ok_J6_bitCount_0f7a4 (mi 3 rfl) ?_
  refine ex_ldcw ok_J6_bitCount_0f7a4 (mi 4 rfl) rfl ?_
  refine ex_iand ok_J6_bitCount_0f7a4 (mi 5 rfl) ?_
  refine ex_isub ok_J6_bitCount_0f7a4 (mi 6 rfl) ?_
  refine ex_istore_n ok_J6_bitCount_0f7a4 (mi 7 rfl) ?_
  refine ex_iload_n ok_J6_bitCount_0f7a4 (mi 8 rfl) rfl ?_
  refine ex_ldcw ok_J6_bitCount_0f7a4 (mi 9 rfl) rfl ?_
  refine ex_iand ok_J6_bitCount_0f7a4 (mi 10 rfl) ?_
  refine ex_iload_n ok_J6_bitCount_0f7a4 (mi 11 rfl) rfl ?_
  refine ex_iconst ok_J6_bitCount_0f7a4 (mi 12 rfl) ?_
  refine ex_iushr ok_J6_bitCount_0f7a4 (mi 13 rfl) ?_
  refine ex_ldcw ok_J6_bitCount_0f7a4 (mi 14 rfl) rfl ?_
  refine ex_iand ok_J6_bitCount_0f7a4 (mi 15 rfl) ?_
  refine ex_iadd ok_J6_bitCount_0f7a4 (mi 16 rfl) ?_
  refine ex_istore_n ok_J6_bitCount_0f7a4 (mi 17 rfl) ?_
  refine ex_iload_n ok_J6_bitCount_0f7a4 (mi 18 rfl) rfl ?_
  refine ex_iload_n ok_J6_bitCount_0f7a4 (mi 19 rfl) rfl ?_
  refine ex_iconst ok_J6_bitCount_0f7a4 (mi 20 rfl) ?_
  refine ex_iushr ok_J6_bitCount_0f7a4 (mi 21 rfl) ?_
  refine ex_iadd ok_J6_bitCount_0f7a4 (mi 22 rfl) ?_
  refine ex_ldcw ok_J6_bitCount_0f7a4 (mi 23 rfl) rfl ?_
  refine ex_iand ok_J6_bitCount_0f7a4 (mi 24 rfl) ?_
  refine ex_istore_n ok_J6_bitCount_0f7a4 (mi 25 rfl) ?_
  refine ex_iload_n ok_J6_bitCount_0f7a4 (mi 26 rfl) rfl ?_
  refine ex_iload_n ok_J6_bitCount_0f7a4 (mi 27 rfl) rfl ?_
  refine ex_bipush ok_J6_bitCount_0f7a4 (mi 28 rfl) ?_
  refine ex_iushr ok_J6_bitCount_0f7a4 (mi 29 rfl) ?_
  refine ex_iadd ok_J6_bitCount_0f7a4 (mi 30 rfl) ?_
  refine ex_istore_n ok_J6_bitCount_0f7a4 (mi 31 rfl) ?_
  refine ex_iload_n ok_J6_bitCount_0f7a4 (mi 32 rfl) rfl ?_
  refine ex_iload_n ok_J6_bitCount_0f7a4 (mi 33 rfl) rfl ?_
  refine ex_bipush ok_J6_bitCount_0f7a4 (mi 34 rfl) ?_
  refine ex_iushr ok_J6_bitCount_0f7a4 (mi 35 rfl) ?_
  refine ex_iadd ok_J6_bitCount_0f7a4 (mi 36 rfl) ?_
  refine ex_istore_n ok_J6_bitCount_0f7a4 (mi 37 rfl) ?_
  refine ex_iload_n ok_J6_bitCount_0f7a4 (mi 38 rfl) rfl ?_
  refine ex_bipush ok_J6_bitCount_0f7a4 (mi 39 rfl) ?_
  refine ex_iand ok_J6_bitCount_0f7a4 (mi 40 rfl) ?_
  refine ex_iret ok_J6_bitCount_0f7a4 (mi 41 rfl) rfl ?_
  exact ⟨rfl, rfl⟩
def okR (l r : Int32) : Prop := 0 ≤ r ∧ r < nI 300 ∧ r - r / 3 * 3 = l
theorem m_isRoundOf1 {G : GE} (hst : (ge_l G).stackTraces = false) {h : GT} {l r : Int32} (k : okR l r) : ex_M G 1 0 0 my_X11_isRoundOf [.int l, .int r] h (rv (some (.int (nI 1))) h) := by
  refine ex_M_of ok_X11_isRoundOf cw_X11_isRoundOf rfl hst (Nat.le_of_ble_eq_true rfl) ?_
  refine ex_iload_n ok_X11_isRoundOf (mi 0 rfl) rfl ?_
  refine ex_if_lt (tgt := 22) ok_X11_isRoundOf (mi 1 rfl) rfl (fun h1 => False.elim (absurd k.1 (by rw [Int32.not_le]; exact h1))) (fun h1 => ?_)
  refine ex_iload_n ok_X11_isRoundOf (mi 2 rfl) rfl ?_
  refine ex_sipush ok_X11_isRoundOf (mi 3 rfl) ?_
  refine ex_icmp_ge (tgt := 22) ok_X11_isRoundOf (mi 4 rfl) rfl (fun h8 => False.elim (absurd k.2.1 (by rw [Int32.not_lt]; exact h8))) (fun h8 => ?_)
  refine ex_iload_n ok_X11_isRoundOf (mi 5 rfl) rfl ?_
  refine ex_iconst ok_X11_isRoundOf (mi 6 rfl) ?_
  refine ex_irem ok_X11_isRoundOf (mi 7 rfl) (by decide) ?_
  refine ex_iload_n ok_X11_isRoundOf (mi 8 rfl) rfl ?_
  refine ex_icmp_ne (tgt := 22) ok_X11_isRoundOf (mi 9 rfl) rfl (fun h15 => False.elim (h15 k.2.2)) (fun h15 => ?_)
  refine ex_iconst ok_X11_isRoundOf (mi 10 rfl) ?_
  refine ex_goto (tgt := 23) ok_X11_isRoundOf (mi 11 rfl) rfl ?_
  refine ex_zret ok_X11_isRoundOf (mi 13 rfl) rfl (by decide) ?_
  exact ⟨inlI (by decide), rfl⟩
theorem m_isRoundOf0 {G : GE} (hst : (ge_l G).stackTraces = false) {h : GT} {l r : Int32} (k : ¬ okR l r) : ex_M G 1 0 0 my_X11_isRoundOf [.int l, .int r] h (rv (some (.int (nI 0))) h) := by
  refine ex_M_of ok_X11_isRoundOf cw_X11_isRoundOf rfl hst (Nat.le_of_ble_eq_true rfl) ?_
  refine ex_iload_n ok_X11_isRoundOf (mi 0 rfl) rfl ?_
  refine ex_if_lt (tgt := 22) ok_X11_isRoundOf (mi 1 rfl) rfl (fun h1 => ?_) (fun h1 => ?_)
  · skip
    refine ex_iconst ok_X11_isRoundOf (mi 12 rfl) ?_
    refine ex_zret ok_X11_isRoundOf (mi 13 rfl) rfl (by decide) ?_
    exact ⟨rfl, rfl⟩
  · skip
    refine ex_iload_n ok_X11_isRoundOf (mi 2 rfl) rfl ?_
    refine ex_sipush ok_X11_isRoundOf (mi 3 rfl) ?_
    refine ex_icmp_ge (tgt := 22) ok_X11_isRoundOf (mi 4 rfl) rfl (fun h8 => ?_) (fun h8 => ?_)
    · skip
      refine ex_iconst ok_X11_isRoundOf (mi 12 rfl) ?_
      refine ex_zret ok_X11_isRoundOf (mi 13 rfl) rfl (by decide) ?_
      exact ⟨rfl, rfl⟩
    · skip
      refine ex_iload_n ok_X11_isRoundOf (mi 5 rfl) rfl ?_
      refine ex_iconst ok_X11_isRoundOf (mi 6 rfl) ?_
      refine ex_irem ok_X11_isRoundOf (mi 7 rfl) (by decide) ?_
      refine ex_iload_n ok_X11_isRoundOf (mi 8 rfl) rfl ?_
      refine ex_icmp_ne (tgt := 22) ok_X11_isRoundOf (mi 9 rfl) rfl (fun h15 => ?_) (fun h15 => ?_)
      · skip
        refine ex_iconst ok_X11_isRoundOf (mi 12 rfl) ?_
        refine ex_zret ok_X11_isRoundOf (mi 13 rfl) rfl (by decide) ?_
        exact ⟨rfl, rfl⟩
      · skip
        refine ex_iconst ok_X11_isRoundOf (mi 10 rfl) ?_
        refine ex_goto (tgt := 23) ok_X11_isRoundOf (mi 11 rfl) rfl ?_
        refine ex_zret ok_X11_isRoundOf (mi 13 rfl) rfl (by decide) ?_
        exact absurd ⟨by rw [← Int32.not_lt]; exact h1, by rw [← Int32.not_le]; exact h8, h15⟩ k
def okG (v : Int32) : Prop := 0 < v ∧ v < nI 4096 ∧ bcE v ≤ nI 5
theorem m_isGroup1 {G : GE} (hst : (ge_l G).stackTraces = false) {h : GT} {v : Int32} (k : okG v) : ex_M G 2 0 0 my_X11_isGroup [.int v] h (rv (some (.int (nI 1))) h) := by
  refine ex_M_of ok_X11_isGroup cw_X11_isGroup rfl hst (Nat.le_of_ble_eq_true rfl) ?_
  refine ex_iload_n ok_X11_isGroup (mi 0 rfl) rfl ?_
  refine ex_if_le (tgt := 23) ok_X11_isGroup (mi 1 rfl) rfl (fun h1 => False.elim (absurd k.1 (by rw [Int32.not_lt]; exact h1))) (fun h1 => ?_)
  refine ex_iload_n ok_X11_isGroup (mi 2 rfl) rfl ?_
  refine ex_sipush ok_X11_isGroup (mi 3 rfl) ?_
  refine ex_icmp_ge (tgt := 23) ok_X11_isGroup (mi 4 rfl) rfl (fun h8 => False.elim (absurd k.2.1 (by rw [Int32.not_lt]; exact h8))) (fun h8 => ?_)
  refine ex_iload_n ok_X11_isGroup (mi 5 rfl) rfl ?_
  refine ex_callSr (As := [_]) ok_X11_isGroup (mi 6 rfl) rfl (m_bitCount hst) rfl rfl rfl (by decide) (Nat.le_of_ble_eq_true rfl) (by decide) ?_
  refine ex_iconst ok_X11_isGroup (mi 7 rfl) ?_
  refine ex_icmp_gt (tgt := 23) ok_X11_isGroup (mi 8 rfl) rfl (fun h16 => False.elim (absurd k.2.2 (by rw [Int32.not_le]; exact h16))) (fun h16 => ?_)
  refine ex_iconst ok_X11_isGroup (mi 9 rfl) ?_
  refine ex_goto (tgt := 24) ok_X11_isGroup (mi 10 rfl) rfl ?_
  refine ex_zret ok_X11_isGroup (mi 12 rfl) rfl (by decide) ?_
  exact ⟨inlI (by decide), rfl⟩
theorem m_isGroup0 {G : GE} (hst : (ge_l G).stackTraces = false) {h : GT} {v : Int32} (k : ¬ okG v) : ex_M G 2 0 0 my_X11_isGroup [.int v] h (rv (some (.int (nI 0))) h) := by
  refine ex_M_of ok_X11_isGroup cw_X11_isGroup rfl hst (Nat.le_of_ble_eq_true rfl) ?_
  refine ex_iload_n ok_X11_isGroup (mi 0 rfl) rfl ?_
  refine ex_if_le (tgt := 23) ok_X11_isGroup (mi 1 rfl) rfl (fun h1 => ?_) (fun h1 => ?_)
  · skip
    refine ex_iconst ok_X11_isGroup (mi 11 rfl) ?_
    refine ex_zret ok_X11_isGroup (mi 12 rfl) rfl (by decide) ?_
    exact ⟨rfl, rfl⟩
  · skip
    refine ex_iload_n ok_X11_isGroup (mi 2 rfl) rfl ?_
    refine ex_sipush ok_X11_isGroup (mi 3 rfl) ?_
    refine ex_icmp_ge (tgt := 23) ok_X11_isGroup (mi 4 rfl) rfl (fun h8 => ?_) (fun h8 => ?_)
    · skip
      refine ex_iconst ok_X11_isGroup (mi 11 rfl) ?_
      refine ex_zret ok_X11_isGroup (mi 12 rfl) rfl (by decide) ?_
      exact ⟨rfl, rfl⟩
    · skip
      refine ex_iload_n ok_X11_isGroup (mi 5 rfl) rfl ?_
      refine ex_callSr (As := [_]) ok_X11_isGroup (mi 6 rfl) rfl (m_bitCount hst) rfl rfl rfl (by decide) (Nat.le_of_ble_eq_true rfl) (by decide) ?_
      refine ex_iconst ok_X11_isGroup (mi 7 rfl) ?_
      refine ex_icmp_gt (tgt := 23) ok_X11_isGroup (mi 8 rfl) rfl (fun h16 => ?_) (fun h16 => ?_)
      · skip
        refine ex_iconst ok_X11_isGroup (mi 11 rfl) ?_
        refine ex_zret ok_X11_isGroup (mi 12 rfl) rfl (by decide) ?_
        exact ⟨rfl, rfl⟩
      · skip
        refine ex_iconst ok_X11_isGroup (mi 9 rfl) ?_
        refine ex_goto (tgt := 24) ok_X11_isGroup (mi 10 rfl) rfl ?_
        refine ex_zret ok_X11_isGroup (mi 12 rfl) rfl (by decide) ?_
        exact absurd ⟨by rw [← Int32.not_le]; exact h1, by rw [← Int32.not_le]; exact h8, by rw [← Int32.not_lt]; exact h16⟩ k
def okS (v : Int32) : Prop := 0 < v ∧ v < nI 512 ∧ bcE v = nI 3
theorem m_isSet1 {G : GE} (hst : (ge_l G).stackTraces = false) {h : GT} {v : Int32} (k : okS v) : ex_M G 2 0 0 my_X11_isSet [.int v] h (rv (some (.int (nI 1))) h) := by
  refine ex_M_of ok_X11_isSet cw_X11_isSet rfl hst (Nat.le_of_ble_eq_true rfl) ?_
  refine ex_iload_n ok_X11_isSet (mi 0 rfl) rfl ?_
  refine ex_if_le (tgt := 23) ok_X11_isSet (mi 1 rfl) rfl (fun h1 => False.elim (absurd k.1 (by rw [Int32.not_lt]; exact h1))) (fun h1 => ?_)
  refine ex_iload_n ok_X11_isSet (mi 2 rfl) rfl ?_
  refine ex_sipush ok_X11_isSet (mi 3 rfl) ?_
  refine ex_icmp_ge (tgt := 23) ok_X11_isSet (mi 4 rfl) rfl (fun h8 => False.elim (absurd k.2.1 (by rw [Int32.not_lt]; exact h8))) (fun h8 => ?_)
  refine ex_iload_n ok_X11_isSet (mi 5 rfl) rfl ?_
  refine ex_callSr (As := [_]) ok_X11_isSet (mi 6 rfl) rfl (m_bitCount hst) rfl rfl rfl (by decide) (Nat.le_of_ble_eq_true rfl) (by decide) ?_
  refine ex_iconst ok_X11_isSet (mi 7 rfl) ?_
  refine ex_icmp_ne (tgt := 23) ok_X11_isSet (mi 8 rfl) rfl (fun h16 => False.elim (h16 k.2.2)) (fun h16 => ?_)
  refine ex_iconst ok_X11_isSet (mi 9 rfl) ?_
  refine ex_goto (tgt := 24) ok_X11_isSet (mi 10 rfl) rfl ?_
  refine ex_zret ok_X11_isSet (mi 12 rfl) rfl (by decide) ?_
  exact ⟨inlI (by decide), rfl⟩
theorem m_isSet0 {G : GE} (hst : (ge_l G).stackTraces = false) {h : GT} {v : Int32} (k : ¬ okS v) : ex_M G 2 0 0 my_X11_isSet [.int v] h (rv (some (.int (nI 0))) h) := by
  refine ex_M_of ok_X11_isSet cw_X11_isSet rfl hst (Nat.le_of_ble_eq_true rfl) ?_
  refine ex_iload_n ok_X11_isSet (mi 0 rfl) rfl ?_
  refine ex_if_le (tgt := 23) ok_X11_isSet (mi 1 rfl) rfl (fun h1 => ?_) (fun h1 => ?_)
  · skip
    refine ex_iconst ok_X11_isSet (mi 11 rfl) ?_
    refine ex_zret ok_X11_isSet (mi 12 rfl) rfl (by decide) ?_
    exact ⟨rfl, rfl⟩
  · skip
    refine ex_iload_n ok_X11_isSet (mi 2 rfl) rfl ?_
    refine ex_sipush ok_X11_isSet (mi 3 rfl) ?_
    refine ex_icmp_ge (tgt := 23) ok_X11_isSet (mi 4 rfl) rfl (fun h8 => ?_) (fun h8 => ?_)
    · skip
      refine ex_iconst ok_X11_isSet (mi 11 rfl) ?_
      refine ex_zret ok_X11_isSet (mi 12 rfl) rfl (by decide) ?_
      exact ⟨rfl, rfl⟩
    · skip
      refine ex_iload_n ok_X11_isSet (mi 5 rfl) rfl ?_
      refine ex_callSr (As := [_]) ok_X11_isSet (mi 6 rfl) rfl (m_bitCount hst) rfl rfl rfl (by decide) (Nat.le_of_ble_eq_true rfl) (by decide) ?_
      refine ex_iconst ok_X11_isSet (mi 7 rfl) ?_
      refine ex_icmp_ne (tgt := 23) ok_X11_isSet (mi 8 rfl) rfl (fun h16 => ?_) (fun h16 => ?_)
      · skip
        refine ex_iconst ok_X11_isSet (mi 11 rfl) ?_
        refine ex_zret ok_X11_isSet (mi 12 rfl) rfl (by decide) ?_
        exact ⟨rfl, rfl⟩
      · skip
        refine ex_iconst ok_X11_isSet (mi 9 rfl) ?_
        refine ex_goto (tgt := 24) ok_X11_isSet (mi 10 rfl) rfl ?_
        refine ex_zret ok_X11_isSet (mi 12 rfl) rfl (by decide) ?_
        exact absurd ⟨by rw [← Int32.not_le]; exact h1, by rw [← Int32.not_le]; exact h8, h16⟩ k
def TZ : List (Nat × Nat × Nat) × List (Nat × Nat × Nat) := ([(0, 50, 10)], [])
def TV : List (Nat × Nat × Nat) × List (Nat × Nat × Nat) := ([(0, 50, 16)], [])
theorem bc0 : bcE (nI 0) = nI 0 := by decide +kernel
theorem m_bitCount0 {G : GE} (hst : (ge_l G).stackTraces = false) {h : GT} : ex_M G 1 0 0 my_J6_bitCount_0f7a4 [.int (nI 0)] h (rv (some (.int (nI 0))) h) := by
  have k := m_bitCount (G := G) (h := h) (v := nI 0) hst
  rw [bc0] at k
  exact k
theorem m_X7_size0 {G : GE} (hst : (ge_l G).stackTraces = false) {x : Nat} {h : GT} (hs : sh TZ h x) (ha : tA [(0, 10, nI 0)] h x) : ex_M G 2 0 0 my_X7_size [.ref x] h (rv (some (.int (nI 0))) h) := by
  refine ex_M_of ok_X7_size cw_X7_size rfl hst (Nat.le_of_ble_eq_true rfl) ?_
  refine ex_iconst ok_X7_size (mi 0 rfl) ?_
  refine ex_istore_n ok_X7_size (mi 1 rfl) ?_
  refine ex_iconst ok_X7_size (mi 2 rfl) ?_
  refine ex_istore_n ok_X7_size (mi 3 rfl) ?_
  refine ex_iload_n ok_X7_size (mi 4 rfl) rfl ?_
  refine ex_bipush ok_X7_size (mi 5 rfl) ?_
  refine ex_icmp_ge (tgt := 25) ok_X7_size (mi 6 rfl) rfl (fun hn => absurd hn (by decide)) (fun _ => ?_)
  refine ex_iload_n ok_X7_size (mi 7 rfl) rfl ?_
  refine ex_aload_n ok_X7_size (mi 8 rfl) rfl ?_
  refine ex_iload_n ok_X7_size (mi 9 rfl) rfl ?_
  refine ex_ialdx ok_X7_size (mi 10 rfl) (Or.inl (fk hs 0 rfl)) (fn hs 0 rfl) (pk_in 0 10 (by decide)) (fa (j := 0) ha 0 rfl (by decide)) ?_
  refine ex_callSr (As := [_]) ok_X7_size (mi 11 rfl) rfl (m_bitCount0 hst) rfl rfl rfl (by decide) (Nat.le_of_ble_eq_true rfl) (by decide) ?_
  refine ex_iadd ok_X7_size (mi 12 rfl) ?_
  refine ex_top (w := (nI 0)) (by decide) ?_
  refine ex_istore_n ok_X7_size (mi 13 rfl) ?_
  refine ex_iincx (w := (nI 1)) ok_X7_size (mi 14 rfl) rfl (by decide) ?_
  refine ex_goto (tgt := 4) ok_X7_size (mi 15 rfl) rfl ?_
  refine ex_ls (ls' := [(0, .ref x), (1, .int (nI 0)), (2, .int (nI 1))]) ⟨rfl, rfl, rfl, trivial⟩ ?_
  refine ex_iload_n ok_X7_size (mi 4 rfl) rfl ?_
  refine ex_bipush ok_X7_size (mi 5 rfl) ?_
  refine ex_icmp_ge (tgt := 25) ok_X7_size (mi 6 rfl) rfl (fun hn => absurd hn (by decide)) (fun _ => ?_)
  refine ex_iload_n ok_X7_size (mi 7 rfl) rfl ?_
  refine ex_aload_n ok_X7_size (mi 8 rfl) rfl ?_
  refine ex_iload_n ok_X7_size (mi 9 rfl) rfl ?_
  refine ex_ialdx ok_X7_size (mi 10 rfl) (Or.inl (fk hs 0 rfl)) (fn hs 0 rfl) (pk_in 1 10 (by decide)) (fa (j := 1) ha 0 rfl (by decide)) ?_
  refine ex_callSr (As := [_]) ok_X7_size (mi 11 rfl) rfl (m_bitCount0 hst) rfl rfl rfl (by decide) (Nat.le_of_ble_eq_true rfl) (by decide) ?_
  refine ex_iadd ok_X7_size (mi 12 rfl) ?_
  refine ex_top (w := (nI 0)) (by decide) ?_
  refine ex_istore_n ok_X7_size (mi 13 rfl) ?_
  refine ex_iincx (w := (nI 2)) ok_X7_size (mi 14 rfl) rfl (by decide) ?_
  refine ex_goto (tgt := 4) ok_X7_size (mi 15 rfl) rfl ?_
  refine ex_ls (ls' := [(0, .ref x), (1, .int (nI 0)), (2, .int (nI 2))]) ⟨rfl, rfl, rfl, trivial⟩ ?_
  refine ex_iload_n ok_X7_size (mi 4 rfl) rfl ?_
  refine ex_bipush ok_X7_size (mi 5 rfl) ?_
  refine ex_icmp_ge (tgt := 25) ok_X7_size (mi 6 rfl) rfl (fun hn => absurd hn (by decide)) (fun _ => ?_)
  refine ex_iload_n ok_X7_size (mi 7 rfl) rfl ?_
  refine ex_aload_n ok_X7_size (mi 8 rfl) rfl ?_
  refine ex_iload_n ok_X7_size (mi 9 rfl) rfl ?_
  refine ex_ialdx ok_X7_size (mi 10 rfl) (Or.inl (fk hs 0 rfl)) (fn hs 0 rfl) (pk_in 2 10 (by decide)) (fa (j := 2) ha 0 rfl (by decide)) ?_
  refine ex_callSr (As := [_]) ok_X7_size (mi 11 rfl) rfl (m_bitCount0 hst) rfl rfl rfl (by decide) (Nat.le_of_ble_eq_true rfl) (by decide) ?_
  refine ex_iadd ok_X7_size (mi 12 rfl) ?_
  refine ex_top (w := (nI 0)) (by decide) ?_
  refine ex_istore_n ok_X7_size (mi 13 rfl) ?_
  refine ex_iincx (w := (nI 3)) ok_X7_size (mi 14 rfl) rfl (by decide) ?_
  refine ex_goto (tgt := 4) ok_X7_size (mi 15 rfl) rfl ?_
  refine ex_ls (ls' := [(0, .ref x), (1, .int (nI 0)), (2, .int (nI 3))]) ⟨rfl, rfl, rfl, trivial⟩ ?_
  refine ex_iload_n ok_X7_size (mi 4 rfl) rfl ?_
  refine ex_bipush ok_X7_size (mi 5 rfl) ?_
  refine ex_icmp_ge (tgt := 25) ok_X7_size (mi 6 rfl) rfl (fun hn => absurd hn (by decide)) (fun _ => ?_)
  refine ex_iload_n ok_X7_size (mi 7 rfl) rfl ?_
  refine ex_aload_n ok_X7_size (mi 8 rfl) rfl ?_
  refine ex_iload_n ok_X7_size (mi 9 rfl) rfl ?_
  refine ex_ialdx ok_X7_size (mi 10 rfl) (Or.inl (fk hs 0 rfl)) (fn hs 0 rfl) (pk_in 3 10 (by decide)) (fa (j := 3) ha 0 rfl (by decide)) ?_
  refine ex_callSr (As := [_]) ok_X7_size (mi 11 rfl) rfl (m_bitCount0 hst) rfl rfl rfl (by decide) (Nat.le_of_ble_eq_true rfl) (by decide) ?_
  refine ex_iadd ok_X7_size (mi 12 rfl) ?_
  refine ex_top (w := (nI 0)) (by decide) ?_
  refine ex_istore_n ok_X7_size (mi 13 rfl) ?_
  refine ex_iincx (w := (nI 4)) ok_X7_size (mi 14 rfl) rfl (by decide) ?_
  refine ex_goto (tgt := 4) ok_X7_size (mi 15 rfl) rfl ?_
  refine ex_ls (ls' := [(0, .ref x), (1, .int (nI 0)), (2, .int (nI 4))]) ⟨rfl, rfl, rfl, trivial⟩ ?_
  refine ex_iload_n ok_X7_size (mi 4 rfl) rfl ?_
  refine ex_bipush ok_X7_size (mi 5 rfl) ?_
  refine ex_icmp_ge (tgt := 25) ok_X7_size (mi 6 rfl) rfl (fun hn => absurd hn (by decide)) (fun _ => ?_)
  refine ex_iload_n ok_X7_size (mi 7 rfl) rfl ?_
  refine ex_aload_n ok_X7_size (mi 8 rfl) rfl ?_
  refine ex_iload_n ok_X7_size (mi 9 rfl) rfl ?_
  refine ex_ialdx ok_X7_size (mi 10 rfl) (Or.inl (fk hs 0 rfl)) (fn hs 0 rfl) (pk_in 4 10 (by decide)) (fa (j := 4) ha 0 rfl (by decide)) ?_
  refine ex_callSr (As := [_]) ok_X7_size (mi 11 rfl) rfl (m_bitCount0 hst) rfl rfl rfl (by decide) (Nat.le_of_ble_eq_true rfl) (by decide) ?_
  refine ex_iadd ok_X7_size (mi 12 rfl) ?_
  refine ex_top (w := (nI 0)) (by decide) ?_
  refine ex_istore_n ok_X7_size (mi 13 rfl) ?_
  refine ex_iincx (w := (nI 5)) ok_X7_size (mi 14 rfl) rfl (by decide) ?_
  refine ex_goto (tgt := 4) ok_X7_size (mi 15 rfl) rfl ?_
  refine ex_ls (ls' := [(0, .ref x), (1, .int (nI 0)), (2, .int (nI 5))]) ⟨rfl, rfl, rfl, trivial⟩ ?_
  refine ex_iload_n ok_X7_size (mi 4 rfl) rfl ?_
  refine ex_bipush ok_X7_size (mi 5 rfl) ?_
  refine ex_icmp_ge (tgt := 25) ok_X7_size (mi 6 rfl) rfl (fun hn => absurd hn (by decide)) (fun _ => ?_)
  refine ex_iload_n ok_X7_size (mi 7 rfl) rfl ?_
  refine ex_aload_n ok_X7_size (mi 8 rfl) rfl ?_
  refine ex_iload_n ok_X7_size (mi 9 rfl) rfl ?_
  refine ex_ialdx ok_X7_size (mi 10 rfl) (Or.inl (fk hs 0 rfl)) (fn hs 0 rfl) (pk_in 5 10 (by decide)) (fa (j := 5) ha 0 rfl (by decide)) ?_
  refine ex_callSr (As := [_]) ok_X7_size (mi 11 rfl) rfl (m_bitCount0 hst) rfl rfl rfl (by decide) (Nat.le_of_ble_eq_true rfl) (by decide) ?_
  refine ex_iadd ok_X7_size (mi 12 rfl) ?_
  refine ex_top (w := (nI 0)) (by decide) ?_
  refine ex_istore_n ok_X7_size (mi 13 rfl) ?_
  refine ex_iincx (w := (nI 6)) ok_X7_size (mi 14 rfl) rfl (by decide) ?_
  refine ex_goto (tgt := 4) ok_X7_size (mi 15 rfl) rfl ?_
  refine ex_ls (ls' := [(0, .ref x), (1, .int (nI 0)), (2, .int (nI 6))]) ⟨rfl, rfl, rfl, trivial⟩ ?_
  refine ex_iload_n ok_X7_size (mi 4 rfl) rfl ?_
  refine ex_bipush ok_X7_size (mi 5 rfl) ?_
  refine ex_icmp_ge (tgt := 25) ok_X7_size (mi 6 rfl) rfl (fun hn => absurd hn (by decide)) (fun _ => ?_)
  refine ex_iload_n ok_X7_size (mi 7 rfl) rfl ?_
  refine ex_aload_n ok_X7_size (mi 8 rfl) rfl ?_
  refine ex_iload_n ok_X7_size (mi 9 rfl) rfl ?_
  refine ex_ialdx ok_X7_size (mi 10 rfl) (Or.inl (fk hs 0 rfl)) (fn hs 0 rfl) (pk_in 6 10 (by decide)) (fa (j := 6) ha 0 rfl (by decide)) ?_
  refine ex_callSr (As := [_]) ok_X7_size (mi 11 rfl) rfl (m_bitCount0 hst) rfl rfl rfl (by decide) (Nat.le_of_ble_eq_true rfl) (by decide) ?_
  refine ex_iadd ok_X7_size (mi 12 rfl) ?_
  refine ex_top (w := (nI 0)) (by decide) ?_
  refine ex_istore_n ok_X7_size (mi 13 rfl) ?_
  refine ex_iincx (w := (nI 7)) ok_X7_size (mi 14 rfl) rfl (by decide) ?_
  refine ex_goto (tgt := 4) ok_X7_size (mi 15 rfl) rfl ?_
  refine ex_ls (ls' := [(0, .ref x), (1, .int (nI 0)), (2, .int (nI 7))]) ⟨rfl, rfl, rfl, trivial⟩ ?_
  refine ex_iload_n ok_X7_size (mi 4 rfl) rfl ?_
  refine ex_bipush ok_X7_size (mi 5 rfl) ?_
  refine ex_icmp_ge (tgt := 25) ok_X7_size (mi 6 rfl) rfl (fun hn => absurd hn (by decide)) (fun _ => ?_)
  refine ex_iload_n ok_X7_size (mi 7 rfl) rfl ?_
  refine ex_aload_n ok_X7_size (mi 8 rfl) rfl ?_
  refine ex_iload_n ok_X7_size (mi 9 rfl) rfl ?_
  refine ex_ialdx ok_X7_size (mi 10 rfl) (Or.inl (fk hs 0 rfl)) (fn hs 0 rfl) (pk_in 7 10 (by decide)) (fa (j := 7) ha 0 rfl (by decide)) ?_
  refine ex_callSr (As := [_]) ok_X7_size (mi 11 rfl) rfl (m_bitCount0 hst) rfl rfl rfl (by decide) (Nat.le_of_ble_eq_true rfl) (by decide) ?_
  refine ex_iadd ok_X7_size (mi 12 rfl) ?_
  refine ex_top (w := (nI 0)) (by decide) ?_
  refine ex_istore_n ok_X7_size (mi 13 rfl) ?_
  refine ex_iincx (w := (nI 8)) ok_X7_size (mi 14 rfl) rfl (by decide) ?_
  refine ex_goto (tgt := 4) ok_X7_size (mi 15 rfl) rfl ?_
  refine ex_ls (ls' := [(0, .ref x), (1, .int (nI 0)), (2, .int (nI 8))]) ⟨rfl, rfl, rfl, trivial⟩ ?_
  refine ex_iload_n ok_X7_size (mi 4 rfl) rfl ?_
  refine ex_bipush ok_X7_size (mi 5 rfl) ?_
  refine ex_icmp_ge (tgt := 25) ok_X7_size (mi 6 rfl) rfl (fun hn => absurd hn (by decide)) (fun _ => ?_)
  refine ex_iload_n ok_X7_size (mi 7 rfl) rfl ?_
  refine ex_aload_n ok_X7_size (mi 8 rfl) rfl ?_
  refine ex_iload_n ok_X7_size (mi 9 rfl) rfl ?_
  refine ex_ialdx ok_X7_size (mi 10 rfl) (Or.inl (fk hs 0 rfl)) (fn hs 0 rfl) (pk_in 8 10 (by decide)) (fa (j := 8) ha 0 rfl (by decide)) ?_
  refine ex_callSr (As := [_]) ok_X7_size (mi 11 rfl) rfl (m_bitCount0 hst) rfl rfl rfl (by decide) (Nat.le_of_ble_eq_true rfl) (by decide) ?_
  refine ex_iadd ok_X7_size (mi 12 rfl) ?_
  refine ex_top (w := (nI 0)) (by decide) ?_
  refine ex_istore_n ok_X7_size (mi 13 rfl) ?_
  refine ex_iincx (w := (nI 9)) ok_X7_size (mi 14 rfl) rfl (by decide) ?_
  refine ex_goto (tgt := 4) ok_X7_size (mi 15 rfl) rfl ?_
  refine ex_ls (ls' := [(0, .ref x), (1, .int (nI 0)), (2, .int (nI 9))]) ⟨rfl, rfl, rfl, trivial⟩ ?_
  refine ex_iload_n ok_X7_size (mi 4 rfl) rfl ?_
  refine ex_bipush ok_X7_size (mi 5 rfl) ?_
  refine ex_icmp_ge (tgt := 25) ok_X7_size (mi 6 rfl) rfl (fun hn => absurd hn (by decide)) (fun _ => ?_)
  refine ex_iload_n ok_X7_size (mi 7 rfl) rfl ?_
  refine ex_aload_n ok_X7_size (mi 8 rfl) rfl ?_
  refine ex_iload_n ok_X7_size (mi 9 rfl) rfl ?_
  refine ex_ialdx ok_X7_size (mi 10 rfl) (Or.inl (fk hs 0 rfl)) (fn hs 0 rfl) (pk_in 9 10 (by decide)) (fa (j := 9) ha 0 rfl (by decide)) ?_
  refine ex_callSr (As := [_]) ok_X7_size (mi 11 rfl) rfl (m_bitCount0 hst) rfl rfl rfl (by decide) (Nat.le_of_ble_eq_true rfl) (by decide) ?_
  refine ex_iadd ok_X7_size (mi 12 rfl) ?_
  refine ex_top (w := (nI 0)) (by decide) ?_
  refine ex_istore_n ok_X7_size (mi 13 rfl) ?_
  refine ex_iincx (w := (nI 10)) ok_X7_size (mi 14 rfl) rfl (by decide) ?_
  refine ex_goto (tgt := 4) ok_X7_size (mi 15 rfl) rfl ?_
  refine ex_ls (ls' := [(0, .ref x), (1, .int (nI 0)), (2, .int (nI 10))]) ⟨rfl, rfl, rfl, trivial⟩ ?_
  refine ex_iload_n ok_X7_size (mi 4 rfl) rfl ?_
  refine ex_bipush ok_X7_size (mi 5 rfl) ?_
  refine ex_icmp_ge (tgt := 25) ok_X7_size (mi 6 rfl) rfl (fun _ => ?_) (fun hn => absurd (by decide) hn)
  refine ex_iload_n ok_X7_size (mi 16 rfl) rfl ?_
  refine ex_iret ok_X7_size (mi 17 rfl) rfl ?_
  exact ⟨inlI (by decide), rfl⟩
theorem m_votesIn0 {G : GE} (hst : (ge_l G).stackTraces = false) {x : Nat} {h : GT} (hs : sh TV h x) (ha : tA [(0, 16, -1)] h x) : ex_M G 1 0 0 my_X10_votesIn [.ref x] h (rv (some (.int (nI 0))) h) := by
  refine ex_M_of ok_X10_votesIn cw_X10_votesIn rfl hst (Nat.le_of_ble_eq_true rfl) ?_
  refine ex_iconst ok_X10_votesIn (mi 0 rfl) ?_
  refine ex_istore_n ok_X10_votesIn (mi 1 rfl) ?_
  refine ex_iconst ok_X10_votesIn (mi 2 rfl) ?_
  refine ex_istore_n ok_X10_votesIn (mi 3 rfl) ?_
  refine ex_iload_n ok_X10_votesIn (mi 4 rfl) rfl ?_
  refine ex_bipush ok_X10_votesIn (mi 5 rfl) ?_
  refine ex_icmp_ge (tgt := 26) ok_X10_votesIn (mi 6 rfl) rfl (fun hn => absurd hn (by decide)) (fun _ => ?_)
  refine ex_aload_n ok_X10_votesIn (mi 7 rfl) rfl ?_
  refine ex_iload_n ok_X10_votesIn (mi 8 rfl) rfl ?_
  refine ex_ialdx ok_X10_votesIn (mi 9 rfl) (Or.inl (fk hs 0 rfl)) (fn hs 0 rfl) (pk_in 0 16 (by decide)) (fa (j := 0) ha 0 rfl (by decide)) ?_
  refine ex_iconst ok_X10_votesIn (mi 10 rfl) ?_
  refine ex_icmp_eq (tgt := 20) ok_X10_votesIn (mi 11 rfl) rfl (fun _ => ?_) (fun hn => absurd (by decide) hn)
  refine ex_iincx (w := (nI 1)) ok_X10_votesIn (mi 13 rfl) rfl (by decide) ?_
  refine ex_goto (tgt := 4) ok_X10_votesIn (mi 14 rfl) rfl ?_
  refine ex_ls (ls' := [(0, .ref x), (1, .int (nI 0)), (2, .int (nI 1))]) ⟨rfl, rfl, rfl, trivial⟩ ?_
  refine ex_iload_n ok_X10_votesIn (mi 4 rfl) rfl ?_
  refine ex_bipush ok_X10_votesIn (mi 5 rfl) ?_
  refine ex_icmp_ge (tgt := 26) ok_X10_votesIn (mi 6 rfl) rfl (fun hn => absurd hn (by decide)) (fun _ => ?_)
  refine ex_aload_n ok_X10_votesIn (mi 7 rfl) rfl ?_
  refine ex_iload_n ok_X10_votesIn (mi 8 rfl) rfl ?_
  refine ex_ialdx ok_X10_votesIn (mi 9 rfl) (Or.inl (fk hs 0 rfl)) (fn hs 0 rfl) (pk_in 1 16 (by decide)) (fa (j := 1) ha 0 rfl (by decide)) ?_
  refine ex_iconst ok_X10_votesIn (mi 10 rfl) ?_
  refine ex_icmp_eq (tgt := 20) ok_X10_votesIn (mi 11 rfl) rfl (fun _ => ?_) (fun hn => absurd (by decide) hn)
  refine ex_iincx (w := (nI 2)) ok_X10_votesIn (mi 13 rfl) rfl (by decide) ?_
  refine ex_goto (tgt := 4) ok_X10_votesIn (mi 14 rfl) rfl ?_
  refine ex_ls (ls' := [(0, .ref x), (1, .int (nI 0)), (2, .int (nI 2))]) ⟨rfl, rfl, rfl, trivial⟩ ?_
  refine ex_iload_n ok_X10_votesIn (mi 4 rfl) rfl ?_
  refine ex_bipush ok_X10_votesIn (mi 5 rfl) ?_
  refine ex_icmp_ge (tgt := 26) ok_X10_votesIn (mi 6 rfl) rfl (fun hn => absurd hn (by decide)) (fun _ => ?_)
  refine ex_aload_n ok_X10_votesIn (mi 7 rfl) rfl ?_
  refine ex_iload_n ok_X10_votesIn (mi 8 rfl) rfl ?_
  refine ex_ialdx ok_X10_votesIn (mi 9 rfl) (Or.inl (fk hs 0 rfl)) (fn hs 0 rfl) (pk_in 2 16 (by decide)) (fa (j := 2) ha 0 rfl (by decide)) ?_
  refine ex_iconst ok_X10_votesIn (mi 10 rfl) ?_
  refine ex_icmp_eq (tgt := 20) ok_X10_votesIn (mi 11 rfl) rfl (fun _ => ?_) (fun hn => absurd (by decide) hn)
  refine ex_iincx (w := (nI 3)) ok_X10_votesIn (mi 13 rfl) rfl (by decide) ?_
  refine ex_goto (tgt := 4) ok_X10_votesIn (mi 14 rfl) rfl ?_
  refine ex_ls (ls' := [(0, .ref x), (1, .int (nI 0)), (2, .int (nI 3))]) ⟨rfl, rfl, rfl, trivial⟩ ?_
  refine ex_iload_n ok_X10_votesIn (mi 4 rfl) rfl ?_
  refine ex_bipush ok_X10_votesIn (mi 5 rfl) ?_
  refine ex_icmp_ge (tgt := 26) ok_X10_votesIn (mi 6 rfl) rfl (fun hn => absurd hn (by decide)) (fun _ => ?_)
  refine ex_aload_n ok_X10_votesIn (mi 7 rfl) rfl ?_
  refine ex_iload_n ok_X10_votesIn (mi 8 rfl) rfl ?_
  refine ex_ialdx ok_X10_votesIn (mi 9 rfl) (Or.inl (fk hs 0 rfl)) (fn hs 0 rfl) (pk_in 3 16 (by decide)) (fa (j := 3) ha 0 rfl (by decide)) ?_
  refine ex_iconst ok_X10_votesIn (mi 10 rfl) ?_
  refine ex_icmp_eq (tgt := 20) ok_X10_votesIn (mi 11 rfl) rfl (fun _ => ?_) (fun hn => absurd (by decide) hn)
  refine ex_iincx (w := (nI 4)) ok_X10_votesIn (mi 13 rfl) rfl (by decide) ?_
  refine ex_goto (tgt := 4) ok_X10_votesIn (mi 14 rfl) rfl ?_
  refine ex_ls (ls' := [(0, .ref x), (1, .int (nI 0)), (2, .int (nI 4))]) ⟨rfl, rfl, rfl, trivial⟩ ?_
  refine ex_iload_n ok_X10_votesIn (mi 4 rfl) rfl ?_
  refine ex_bipush ok_X10_votesIn (mi 5 rfl) ?_
  refine ex_icmp_ge (tgt := 26) ok_X10_votesIn (mi 6 rfl) rfl (fun hn => absurd hn (by decide)) (fun _ => ?_)
  refine ex_aload_n ok_X10_votesIn (mi 7 rfl) rfl ?_
  refine ex_iload_n ok_X10_votesIn (mi 8 rfl) rfl ?_
  refine ex_ialdx ok_X10_votesIn (mi 9 rfl) (Or.inl (fk hs 0 rfl)) (fn hs 0 rfl) (pk_in 4 16 (by decide)) (fa (j := 4) ha 0 rfl (by decide)) ?_
  refine ex_iconst ok_X10_votesIn (mi 10 rfl) ?_
  refine ex_icmp_eq (tgt := 20) ok_X10_votesIn (mi 11 rfl) rfl (fun _ => ?_) (fun hn => absurd (by decide) hn)
  refine ex_iincx (w := (nI 5)) ok_X10_votesIn (mi 13 rfl) rfl (by decide) ?_
  refine ex_goto (tgt := 4) ok_X10_votesIn (mi 14 rfl) rfl ?_
  refine ex_ls (ls' := [(0, .ref x), (1, .int (nI 0)), (2, .int (nI 5))]) ⟨rfl, rfl, rfl, trivial⟩ ?_
  refine ex_iload_n ok_X10_votesIn (mi 4 rfl) rfl ?_
  refine ex_bipush ok_X10_votesIn (mi 5 rfl) ?_
  refine ex_icmp_ge (tgt := 26) ok_X10_votesIn (mi 6 rfl) rfl (fun hn => absurd hn (by decide)) (fun _ => ?_)
  refine ex_aload_n ok_X10_votesIn (mi 7 rfl) rfl ?_
  refine ex_iload_n ok_X10_votesIn (mi 8 rfl) rfl ?_
  refine ex_ialdx ok_X10_votesIn (mi 9 rfl) (Or.inl (fk hs 0 rfl)) (fn hs 0 rfl) (pk_in 5 16 (by decide)) (fa (j := 5) ha 0 rfl (by decide)) ?_
  refine ex_iconst ok_X10_votesIn (mi 10 rfl) ?_
  refine ex_icmp_eq (tgt := 20) ok_X10_votesIn (mi 11 rfl) rfl (fun _ => ?_) (fun hn => absurd (by decide) hn)
  refine ex_iincx (w := (nI 6)) ok_X10_votesIn (mi 13 rfl) rfl (by decide) ?_
  refine ex_goto (tgt := 4) ok_X10_votesIn (mi 14 rfl) rfl ?_
  refine ex_ls (ls' := [(0, .ref x), (1, .int (nI 0)), (2, .int (nI 6))]) ⟨rfl, rfl, rfl, trivial⟩ ?_
  refine ex_iload_n ok_X10_votesIn (mi 4 rfl) rfl ?_
  refine ex_bipush ok_X10_votesIn (mi 5 rfl) ?_
  refine ex_icmp_ge (tgt := 26) ok_X10_votesIn (mi 6 rfl) rfl (fun hn => absurd hn (by decide)) (fun _ => ?_)
  refine ex_aload_n ok_X10_votesIn (mi 7 rfl) rfl ?_
  refine ex_iload_n ok_X10_votesIn (mi 8 rfl) rfl ?_
  refine ex_ialdx ok_X10_votesIn (mi 9 rfl) (Or.inl (fk hs 0 rfl)) (fn hs 0 rfl) (pk_in 6 16 (by decide)) (fa (j := 6) ha 0 rfl (by decide)) ?_
  refine ex_iconst ok_X10_votesIn (mi 10 rfl) ?_
  refine ex_icmp_eq (tgt := 20) ok_X10_votesIn (mi 11 rfl) rfl (fun _ => ?_) (fun hn => absurd (by decide) hn)
  refine ex_iincx (w := (nI 7)) ok_X10_votesIn (mi 13 rfl) rfl (by decide) ?_
  refine ex_goto (tgt := 4) ok_X10_votesIn (mi 14 rfl) rfl ?_
  refine ex_ls (ls' := [(0, .ref x), (1, .int (nI 0)), (2, .int (nI 7))]) ⟨rfl, rfl, rfl, trivial⟩ ?_
  refine ex_iload_n ok_X10_votesIn (mi 4 rfl) rfl ?_
  refine ex_bipush ok_X10_votesIn (mi 5 rfl) ?_
  refine ex_icmp_ge (tgt := 26) ok_X10_votesIn (mi 6 rfl) rfl (fun hn => absurd hn (by decide)) (fun _ => ?_)
  refine ex_aload_n ok_X10_votesIn (mi 7 rfl) rfl ?_
  refine ex_iload_n ok_X10_votesIn (mi 8 rfl) rfl ?_
  refine ex_ialdx ok_X10_votesIn (mi 9 rfl) (Or.inl (fk hs 0 rfl)) (fn hs 0 rfl) (pk_in 7 16 (by decide)) (fa (j := 7) ha 0 rfl (by decide)) ?_
  refine ex_iconst ok_X10_votesIn (mi 10 rfl) ?_
  refine ex_icmp_eq (tgt := 20) ok_X10_votesIn (mi 11 rfl) rfl (fun _ => ?_) (fun hn => absurd (by decide) hn)
  refine ex_iincx (w := (nI 8)) ok_X10_votesIn (mi 13 rfl) rfl (by decide) ?_
  refine ex_goto (tgt := 4) ok_X10_votesIn (mi 14 rfl) rfl ?_
  refine ex_ls (ls' := [(0, .ref x), (1, .int (nI 0)), (2, .int (nI 8))]) ⟨rfl, rfl, rfl, trivial⟩ ?_
  refine ex_iload_n ok_X10_votesIn (mi 4 rfl) rfl ?_
  refine ex_bipush ok_X10_votesIn (mi 5 rfl) ?_
  refine ex_icmp_ge (tgt := 26) ok_X10_votesIn (mi 6 rfl) rfl (fun hn => absurd hn (by decide)) (fun _ => ?_)
  refine ex_aload_n ok_X10_votesIn (mi 7 rfl) rfl ?_
  refine ex_iload_n ok_X10_votesIn (mi 8 rfl) rfl ?_
  refine ex_ialdx ok_X10_votesIn (mi 9 rfl) (Or.inl (fk hs 0 rfl)) (fn hs 0 rfl) (pk_in 8 16 (by decide)) (fa (j := 8) ha 0 rfl (by decide)) ?_
  refine ex_iconst ok_X10_votesIn (mi 10 rfl) ?_
  refine ex_icmp_eq (tgt := 20) ok_X10_votesIn (mi 11 rfl) rfl (fun _ => ?_) (fun hn => absurd (by decide) hn)
  refine ex_iincx (w := (nI 9)) ok_X10_votesIn (mi 13 rfl) rfl (by decide) ?_
  refine ex_goto (tgt := 4) ok_X10_votesIn (mi 14 rfl) rfl ?_
  refine ex_ls (ls' := [(0, .ref x), (1, .int (nI 0)), (2, .int (nI 9))]) ⟨rfl, rfl, rfl, trivial⟩ ?_
  refine ex_iload_n ok_X10_votesIn (mi 4 rfl) rfl ?_
  refine ex_bipush ok_X10_votesIn (mi 5 rfl) ?_
  refine ex_icmp_ge (tgt := 26) ok_X10_votesIn (mi 6 rfl) rfl (fun hn => absurd hn (by decide)) (fun _ => ?_)
  refine ex_aload_n ok_X10_votesIn (mi 7 rfl) rfl ?_
  refine ex_iload_n ok_X10_votesIn (mi 8 rfl) rfl ?_
  refine ex_ialdx ok_X10_votesIn (mi 9 rfl) (Or.inl (fk hs 0 rfl)) (fn hs 0 rfl) (pk_in 9 16 (by decide)) (fa (j := 9) ha 0 rfl (by decide)) ?_
  refine ex_iconst ok_X10_votesIn (mi 10 rfl) ?_
  refine ex_icmp_eq (tgt := 20) ok_X10_votesIn (mi 11 rfl) rfl (fun _ => ?_) (fun hn => absurd (by decide) hn)
  refine ex_iincx (w := (nI 10)) ok_X10_votesIn (mi 13 rfl) rfl (by decide) ?_
  refine ex_goto (tgt := 4) ok_X10_votesIn (mi 14 rfl) rfl ?_
  refine ex_ls (ls' := [(0, .ref x), (1, .int (nI 0)), (2, .int (nI 10))]) ⟨rfl, rfl, rfl, trivial⟩ ?_
  refine ex_iload_n ok_X10_votesIn (mi 4 rfl) rfl ?_
  refine ex_bipush ok_X10_votesIn (mi 5 rfl) ?_
  refine ex_icmp_ge (tgt := 26) ok_X10_votesIn (mi 6 rfl) rfl (fun hn => absurd hn (by decide)) (fun _ => ?_)
  refine ex_aload_n ok_X10_votesIn (mi 7 rfl) rfl ?_
  refine ex_iload_n ok_X10_votesIn (mi 8 rfl) rfl ?_
  refine ex_ialdx ok_X10_votesIn (mi 9 rfl) (Or.inl (fk hs 0 rfl)) (fn hs 0 rfl) (pk_in 10 16 (by decide)) (fa (j := 10) ha 0 rfl (by decide)) ?_
  refine ex_iconst ok_X10_votesIn (mi 10 rfl) ?_
  refine ex_icmp_eq (tgt := 20) ok_X10_votesIn (mi 11 rfl) rfl (fun _ => ?_) (fun hn => absurd (by decide) hn)
  refine ex_iincx (w := (nI 11)) ok_X10_votesIn (mi 13 rfl) rfl (by decide) ?_
  refine ex_goto (tgt := 4) ok_X10_votesIn (mi 14 rfl) rfl ?_
  refine ex_ls (ls' := [(0, .ref x), (1, .int (nI 0)), (2, .int (nI 11))]) ⟨rfl, rfl, rfl, trivial⟩ ?_
  refine ex_iload_n ok_X10_votesIn (mi 4 rfl) rfl ?_
  refine ex_bipush ok_X10_votesIn (mi 5 rfl) ?_
  refine ex_icmp_ge (tgt := 26) ok_X10_votesIn (mi 6 rfl) rfl (fun hn => absurd hn (by decide)) (fun _ => ?_)
  refine ex_aload_n ok_X10_votesIn (mi 7 rfl) rfl ?_
  refine ex_iload_n ok_X10_votesIn (mi 8 rfl) rfl ?_
  refine ex_ialdx ok_X10_votesIn (mi 9 rfl) (Or.inl (fk hs 0 rfl)) (fn hs 0 rfl) (pk_in 11 16 (by decide)) (fa (j := 11) ha 0 rfl (by decide)) ?_
  refine ex_iconst ok_X10_votesIn (mi 10 rfl) ?_
  refine ex_icmp_eq (tgt := 20) ok_X10_votesIn (mi 11 rfl) rfl (fun _ => ?_) (fun hn => absurd (by decide) hn)
  refine ex_iincx (w := (nI 12)) ok_X10_votesIn (mi 13 rfl) rfl (by decide) ?_
  refine ex_goto (tgt := 4) ok_X10_votesIn (mi 14 rfl) rfl ?_
  refine ex_ls (ls' := [(0, .ref x), (1, .int (nI 0)), (2, .int (nI 12))]) ⟨rfl, rfl, rfl, trivial⟩ ?_
  refine ex_iload_n ok_X10_votesIn (mi 4 rfl) rfl ?_
  refine ex_bipush ok_X10_votesIn (mi 5 rfl) ?_
  refine ex_icmp_ge (tgt := 26) ok_X10_votesIn (mi 6 rfl) rfl (fun hn => absurd hn (by decide)) (fun _ => ?_)
  refine ex_aload_n ok_X10_votesIn (mi 7 rfl) rfl ?_
  refine ex_iload_n ok_X10_votesIn (mi 8 rfl) rfl ?_
  refine ex_ialdx ok_X10_votesIn (mi 9 rfl) (Or.inl (fk hs 0 rfl)) (fn hs 0 rfl) (pk_in 12 16 (by decide)) (fa (j := 12) ha 0 rfl (by decide)) ?_
  refine ex_iconst ok_X10_votesIn (mi 10 rfl) ?_
  refine ex_icmp_eq (tgt := 20) ok_X10_votesIn (mi 11 rfl) rfl (fun _ => ?_) (fun hn => absurd (by decide) hn)
  refine ex_iincx (w := (nI 13)) ok_X10_votesIn (mi 13 rfl) rfl (by decide) ?_
  refine ex_goto (tgt := 4) ok_X10_votesIn (mi 14 rfl) rfl ?_
  refine ex_ls (ls' := [(0, .ref x), (1, .int (nI 0)), (2, .int (nI 13))]) ⟨rfl, rfl, rfl, trivial⟩ ?_
  refine ex_iload_n ok_X10_votesIn (mi 4 rfl) rfl ?_
  refine ex_bipush ok_X10_votesIn (mi 5 rfl) ?_
  refine ex_icmp_ge (tgt := 26) ok_X10_votesIn (mi 6 rfl) rfl (fun hn => absurd hn (by decide)) (fun _ => ?_)
  refine ex_aload_n ok_X10_votesIn (mi 7 rfl) rfl ?_
  refine ex_iload_n ok_X10_votesIn (mi 8 rfl) rfl ?_
  refine ex_ialdx ok_X10_votesIn (mi 9 rfl) (Or.inl (fk hs 0 rfl)) (fn hs 0 rfl) (pk_in 13 16 (by decide)) (fa (j := 13) ha 0 rfl (by decide)) ?_
  refine ex_iconst ok_X10_votesIn (mi 10 rfl) ?_
  refine ex_icmp_eq (tgt := 20) ok_X10_votesIn (mi 11 rfl) rfl (fun _ => ?_) (fun hn => absurd (by decide) hn)
  refine ex_iincx (w := (nI 14)) ok_X10_votesIn (mi 13 rfl) rfl (by decide) ?_
  refine ex_goto (tgt := 4) ok_X10_votesIn (mi 14 rfl) rfl ?_
  refine ex_ls (ls' := [(0, .ref x), (1, .int (nI 0)), (2, .int (nI 14))]) ⟨rfl, rfl, rfl, trivial⟩ ?_
  refine ex_iload_n ok_X10_votesIn (mi 4 rfl) rfl ?_
  refine ex_bipush ok_X10_votesIn (mi 5 rfl) ?_
  refine ex_icmp_ge (tgt := 26) ok_X10_votesIn (mi 6 rfl) rfl (fun hn => absurd hn (by decide)) (fun _ => ?_)
  refine ex_aload_n ok_X10_votesIn (mi 7 rfl) rfl ?_
  refine ex_iload_n ok_X10_votesIn (mi 8 rfl) rfl ?_
  refine ex_ialdx ok_X10_votesIn (mi 9 rfl) (Or.inl (fk hs 0 rfl)) (fn hs 0 rfl) (pk_in 14 16 (by decide)) (fa (j := 14) ha 0 rfl (by decide)) ?_
  refine ex_iconst ok_X10_votesIn (mi 10 rfl) ?_
  refine ex_icmp_eq (tgt := 20) ok_X10_votesIn (mi 11 rfl) rfl (fun _ => ?_) (fun hn => absurd (by decide) hn)
  refine ex_iincx (w := (nI 15)) ok_X10_votesIn (mi 13 rfl) rfl (by decide) ?_
  refine ex_goto (tgt := 4) ok_X10_votesIn (mi 14 rfl) rfl ?_
  refine ex_ls (ls' := [(0, .ref x), (1, .int (nI 0)), (2, .int (nI 15))]) ⟨rfl, rfl, rfl, trivial⟩ ?_
  refine ex_iload_n ok_X10_votesIn (mi 4 rfl) rfl ?_
  refine ex_bipush ok_X10_votesIn (mi 5 rfl) ?_
  refine ex_icmp_ge (tgt := 26) ok_X10_votesIn (mi 6 rfl) rfl (fun hn => absurd hn (by decide)) (fun _ => ?_)
  refine ex_aload_n ok_X10_votesIn (mi 7 rfl) rfl ?_
  refine ex_iload_n ok_X10_votesIn (mi 8 rfl) rfl ?_
  refine ex_ialdx ok_X10_votesIn (mi 9 rfl) (Or.inl (fk hs 0 rfl)) (fn hs 0 rfl) (pk_in 15 16 (by decide)) (fa (j := 15) ha 0 rfl (by decide)) ?_
  refine ex_iconst ok_X10_votesIn (mi 10 rfl) ?_
  refine ex_icmp_eq (tgt := 20) ok_X10_votesIn (mi 11 rfl) rfl (fun _ => ?_) (fun hn => absurd (by decide) hn)
  refine ex_iincx (w := (nI 16)) ok_X10_votesIn (mi 13 rfl) rfl (by decide) ?_
  refine ex_goto (tgt := 4) ok_X10_votesIn (mi 14 rfl) rfl ?_
  refine ex_ls (ls' := [(0, .ref x), (1, .int (nI 0)), (2, .int (nI 16))]) ⟨rfl, rfl, rfl, trivial⟩ ?_
  refine ex_iload_n ok_X10_votesIn (mi 4 rfl) rfl ?_
  refine ex_bipush ok_X10_votesIn (mi 5 rfl) ?_
  refine ex_icmp_ge (tgt := 26) ok_X10_votesIn (mi 6 rfl) rfl (fun _ => ?_) (fun hn => absurd (by decide) hn)
  refine ex_iload_n ok_X10_votesIn (mi 15 rfl) rfl ?_
  refine ex_iret ok_X10_votesIn (mi 16 rfl) rfl ?_
  exact ⟨inlI (by decide), rfl⟩
theorem div32 {r : Nat} (h : r < 300) : nI r / (Int8.ofInt 32).toInt32 = nI (r / 32) := by
  have k : ∀ r < 300, nI r / (Int8.ofInt 32).toInt32 = nI (r / 32) := by decide +kernel
  exact k r h
theorem sh0 (y : Int32) : nI 0 >>> (y &&& 31) &&& nI 1 = nI 0 := by
  have : nI 0 >>> (y &&& 31) = nI 0 := by
    have : nI 0 = 0 := by decide
    rw [this]
    exact Int32.zero_shiftRight
  rw [this]; decide
theorem m_has0 {G : GE} (hst : (ge_l G).stackTraces = false) {x : Nat} {h : GT} (hs : sh TZ h x) (ha : tA [(0, 10, nI 0)] h x) {r : Nat} (hr : r < 300) : ex_M G 1 0 0 my_X7_has [.ref x, .int (nI r)] h (rv (some (.int (nI 0))) h) := by
  refine ex_M_of ok_X7_has cw_X7_has rfl hst (Nat.le_of_ble_eq_true rfl) ?_
  refine ex_iload_n ok_X7_has (mi 0 rfl) rfl ?_
  refine ex_if_lt (tgt := 31) ok_X7_has (mi 1 rfl) rfl (fun h1 => False.elim (nI_pos (by omega) h1)) (fun h1 => ?_)
  refine ex_iload_n ok_X7_has (mi 2 rfl) rfl ?_
  refine ex_sipush ok_X7_has (mi 3 rfl) ?_
  refine ex_icmp_ge (tgt := 31) ok_X7_has (mi 4 rfl) rfl (fun h8 => False.elim (absurd h8 (nI_ge hr (by decide)))) (fun h8 => ?_)
  refine ex_aload_n ok_X7_has (mi 5 rfl) rfl ?_
  refine ex_iload_n ok_X7_has (mi 6 rfl) rfl ?_
  refine ex_bipush ok_X7_has (mi 7 rfl) ?_
  refine ex_idiv ok_X7_has (mi 8 rfl) (by decide) ?_
  refine ex_top (w := (nI (r / 32))) (div32 hr) ?_
  refine ex_ialdx ok_X7_has (mi 9 rfl) (Or.inl (fk hs 0 rfl)) (fn hs 0 rfl) (vp_in_nI (by omega) (by decide)) (fa ha 0 rfl (by rw [nI_clamp (by omega)]; omega)) ?_
  refine ex_iload_n ok_X7_has (mi 10 rfl) rfl ?_
  refine ex_bipush ok_X7_has (mi 11 rfl) ?_
  refine ex_irem ok_X7_has (mi 12 rfl) (by decide) ?_
  refine ex_ishr ok_X7_has (mi 13 rfl) ?_
  refine ex_iconst ok_X7_has (mi 14 rfl) ?_
  refine ex_iand ok_X7_has (mi 15 rfl) ?_
  refine ex_top (w := (nI 0)) (sh0 _) ?_
  refine ex_if_eq (tgt := 31) ok_X7_has (mi 16 rfl) rfl (fun _ => ?_) (fun hn => absurd (by decide) hn)
  refine ex_iconst ok_X7_has (mi 19 rfl) ?_
  refine ex_zret ok_X7_has (mi 20 rfl) rfl (by decide) ?_
  exact ⟨inlI (by decide), rfl⟩
theorem lp_at {G : GE} (hst : (ge_l G).stackTraces = false) {x : Nat} {h : GT} {i : Int32} {Q : RT → GT → Prop} (hs : sh TZ h x) (ha : tA [(0, 10, nI 0)] h x) (hq : Q (.inl (some (.int (-1)))) h) :
    ∀ n r : Nat, r + n = 300 → ex_W G 2 0 0 M_X7_at 4 [(0, .ref x), (1, .int i), (2, .int (nI 0)), (3, .int (nI r))] [] h Q := by
  intro n
  induction n with
  | zero =>
    intro r hr
    obtain rfl : r = 300 := by omega
    refine ex_iload_n ok_X7_at (mi 4 rfl) rfl ?_
    refine ex_sipush ok_X7_at (mi 5 rfl) ?_
    refine ex_icmp_ge (tgt := 35) ok_X7_at (mi 6 rfl) rfl (fun _ => ?_) (fun hn => absurd (by decide) hn)
    refine ex_iconst ok_X7_at (mi 19 rfl) ?_
    refine ex_iret ok_X7_at (mi 20 rfl) rfl ?_
    exact hq
  | succ n ih =>
    intro r hrn
    have hr : r < 300 := by omega
    refine ex_iload_n ok_X7_at (mi 4 rfl) rfl ?_
    refine ex_sipush ok_X7_at (mi 5 rfl) ?_
    refine ex_icmp_ge (tgt := 35) ok_X7_at (mi 6 rfl) rfl (fun h8 => False.elim (absurd h8 (nI_ge hr (by decide)))) (fun h8 => ?_)
    refine ex_aload_n ok_X7_at (mi 7 rfl) rfl ?_
    refine ex_iload_n ok_X7_at (mi 8 rfl) rfl ?_
    refine ex_callSr (As := [_, _]) ok_X7_at (mi 9 rfl) rfl (m_has0 hst hs ha hr) rfl rfl rfl (by decide) (Nat.le_of_ble_eq_true rfl) (by decide) ?_
    refine ex_if_eq (tgt := 29) ok_X7_at (mi 10 rfl) rfl (fun _ => ?_) (fun hn => absurd (by decide) hn)
    refine ex_iinc ok_X7_at (mi 17 rfl) rfl ?_
    refine ex_goto (tgt := 4) ok_X7_at (mi 18 rfl) rfl ?_
    exact ex_ls (ls' := [(0, .ref x), (1, .int i), (2, .int (nI 0)), (3, .int (nI (r + 1)))]) ⟨rfl, rfl, rfl, by rw [nI_succ]; rfl, trivial⟩ (ih (r + 1) (by omega))
theorem m_at0 {G : GE} (hst : (ge_l G).stackTraces = false) {x : Nat} {h : GT} (hs : sh TZ h x) (ha : tA [(0, 10, nI 0)] h x) {i : Int32} : ex_M G 2 0 0 my_X7_at [.ref x, .int i] h (rv (some (.int (-1))) h) := by
  refine ex_M_of ok_X7_at cw_X7_at rfl hst (Nat.le_of_ble_eq_true rfl) ?_
  refine ex_iconst ok_X7_at (mi 0 rfl) ?_
  refine ex_istore_n ok_X7_at (mi 1 rfl) ?_
  refine ex_iconst ok_X7_at (mi 2 rfl) ?_
  refine ex_istore_n ok_X7_at (mi 3 rfl) ?_
  exact ex_ls (ls' := [(0, .ref x), (1, .int i), (2, .int (nI 0)), (3, .int (nI 0))]) ⟨rfl, rfl, rfl, rfl, trivial⟩ (lp_at hst hs ha ⟨rfl, rfl⟩ 300 0 rfl)
end
