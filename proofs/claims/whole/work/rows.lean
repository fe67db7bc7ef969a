section
-- ===== PART A: goes FIRST, ahead of the names: the tables' words, and 'selects' of the private methods out of them =====
/-- a private method of a class that the tables say can be made, by its rows of tables_1 -/
def lw_okq (q : MethodName × Nat) : Prop := (q.1.cls ≠ "java/lang/invoke/MethodHandle" ∧ q.1.cls ≠ "java/lang/invoke/VarHandle") ∧ Cond.instantiable q.1.cls q.2 ∈ tables_1 ∧ Cond.privateMethod q.1 ∈ tables_1 ∧ Cond.instanceMethod q.1 ∈ tables_1
theorem lw_p0 : lw_okq (⟨"TonightCovers$Tape", "passBlanks", "()V"⟩, 4) := ⟨⟨by decide +kernel, by decide +kernel⟩, List.mem_of_getElem? (i := 118) (by decide +kernel), List.mem_of_getElem? (i := 341) (by decide +kernel), List.mem_of_getElem? (i := 342) (by decide +kernel)⟩
theorem lw_p1 : lw_okq (⟨"TonightCovers$Tape", "tellOne", "(LTonightCovers$Company;)V"⟩, 4) := ⟨⟨by decide +kernel, by decide +kernel⟩, List.mem_of_getElem? (i := 118) (by decide +kernel), List.mem_of_getElem? (i := 345) (by decide +kernel), List.mem_of_getElem? (i := 346) (by decide +kernel)⟩
theorem lw_p2 : lw_okq (⟨"TonightCovers$Tape", "passOpeningName", "()I"⟩, 4) := ⟨⟨by decide +kernel, by decide +kernel⟩, List.mem_of_getElem? (i := 118) (by decide +kernel), List.mem_of_getElem? (i := 349) (by decide +kernel), List.mem_of_getElem? (i := 350) (by decide +kernel)⟩
theorem lw_p3 : lw_okq (⟨"TonightCovers$Tape", "passName", "(I)Z"⟩, 4) := ⟨⟨by decide +kernel, by decide +kernel⟩, List.mem_of_getElem? (i := 118) (by decide +kernel), List.mem_of_getElem? (i := 353) (by decide +kernel), List.mem_of_getElem? (i := 354) (by decide +kernel)⟩
theorem lw_p4 : lw_okq (⟨"TonightCovers$Tape", "fail", "(I)V"⟩, 4) := ⟨⟨by decide +kernel, by decide +kernel⟩, List.mem_of_getElem? (i := 118) (by decide +kernel), List.mem_of_getElem? (i := 425) (by decide +kernel), List.mem_of_getElem? (i := 426) (by decide +kernel)⟩
theorem lw_p5 : lw_okq (⟨"TonightCovers$Tape", "tellPlayer", "(LTonightCovers$Company;I)V"⟩, 4) := ⟨⟨by decide +kernel, by decide +kernel⟩, List.mem_of_getElem? (i := 118) (by decide +kernel), List.mem_of_getElem? (i := 429) (by decide +kernel), List.mem_of_getElem? (i := 430) (by decide +kernel)⟩
theorem lw_p6 : lw_okq (⟨"TonightCovers$Tape", "passNumber", "(I)I"⟩, 4) := ⟨⟨by decide +kernel, by decide +kernel⟩, List.mem_of_getElem? (i := 118) (by decide +kernel), List.mem_of_getElem? (i := 433) (by decide +kernel), List.mem_of_getElem? (i := 434) (by decide +kernel)⟩
theorem lw_p7 : lw_okq (⟨"TonightCovers$Tape", "passEnd", "()V"⟩, 4) := ⟨⟨by decide +kernel, by decide +kernel⟩, List.mem_of_getElem? (i := 118) (by decide +kernel), List.mem_of_getElem? (i := 454) (by decide +kernel), List.mem_of_getElem? (i := 455) (by decide +kernel)⟩
theorem lw_p8 : lw_okq (⟨"TonightCovers$Company", "bestFor", "(I)I"⟩, 12) := ⟨⟨by decide +kernel, by decide +kernel⟩, List.mem_of_getElem? (i := 30) (by decide +kernel), List.mem_of_getElem? (i := 489) (by decide +kernel), List.mem_of_getElem? (i := 490) (by decide +kernel)⟩
theorem lw_p9 : lw_okq (⟨"TonightCovers$Company", "isFreeFor", "(II)Z"⟩, 12) := ⟨⟨by decide +kernel, by decide +kernel⟩, List.mem_of_getElem? (i := 30) (by decide +kernel), List.mem_of_getElem? (i := 493) (by decide +kernel), List.mem_of_getElem? (i := 494) (by decide +kernel)⟩
theorem lw_p10 : lw_okq (⟨"TonightCovers", "isPlayer", "(I)Z"⟩, 15) := ⟨⟨by decide +kernel, by decide +kernel⟩, List.mem_of_getElem? (i := 22) (by decide +kernel), List.mem_of_getElem? (i := 517) (by decide +kernel), List.mem_of_getElem? (i := 518) (by decide +kernel)⟩
theorem lw_p11 : lw_okq (⟨"TonightCovers$Company", "learnAndForget", "(I)V"⟩, 12) := ⟨⟨by decide +kernel, by decide +kernel⟩, List.mem_of_getElem? (i := 30) (by decide +kernel), List.mem_of_getElem? (i := 572) (by decide +kernel), List.mem_of_getElem? (i := 573) (by decide +kernel)⟩
theorem lw_p12 : lw_okq (⟨"TonightCovers$Company", "draw", "()I"⟩, 12) := ⟨⟨by decide +kernel, by decide +kernel⟩, List.mem_of_getElem? (i := 30) (by decide +kernel), List.mem_of_getElem? (i := 590) (by decide +kernel), List.mem_of_getElem? (i := 591) (by decide +kernel)⟩
theorem lw_p13 : lw_okq (⟨"TonightCovers$Trials", "showOfTried", "()I"⟩, 2) := ⟨⟨by decide +kernel, by decide +kernel⟩, List.mem_of_getElem? (i := 105) (by decide +kernel), List.mem_of_getElem? (i := 607) (by decide +kernel), List.mem_of_getElem? (i := 608) (by decide +kernel)⟩
theorem lw_p14 : lw_okq (⟨"TonightCovers$Trials", "takeFor", "(I)I"⟩, 2) := ⟨⟨by decide +kernel, by decide +kernel⟩, List.mem_of_getElem? (i := 105) (by decide +kernel), List.mem_of_getElem? (i := 639) (by decide +kernel), List.mem_of_getElem? (i := 640) (by decide +kernel)⟩
theorem lw_p15 : lw_okq (⟨"TonightCovers$Trials", "showOfSet", "(I)I"⟩, 2) := ⟨⟨by decide +kernel, by decide +kernel⟩, List.mem_of_getElem? (i := 105) (by decide +kernel), List.mem_of_getElem? (i := 718) (by decide +kernel), List.mem_of_getElem? (i := 719) (by decide +kernel)⟩
def lw_privs_1 : List (MethodName × Nat) := [(⟨"TonightCovers$Tape", "passBlanks", "()V"⟩, 4), (⟨"TonightCovers$Tape", "tellOne", "(LTonightCovers$Company;)V"⟩, 4), (⟨"TonightCovers$Tape", "passOpeningName", "()I"⟩, 4), (⟨"TonightCovers$Tape", "passName", "(I)Z"⟩, 4), (⟨"TonightCovers$Tape", "fail", "(I)V"⟩, 4), (⟨"TonightCovers$Tape", "tellPlayer", "(LTonightCovers$Company;I)V"⟩, 4), (⟨"TonightCovers$Tape", "passNumber", "(I)I"⟩, 4), (⟨"TonightCovers$Tape", "passEnd", "()V"⟩, 4), (⟨"TonightCovers$Company", "bestFor", "(I)I"⟩, 12), (⟨"TonightCovers$Company", "isFreeFor", "(II)Z"⟩, 12), (⟨"TonightCovers", "isPlayer", "(I)Z"⟩, 15), (⟨"TonightCovers$Company", "learnAndForget", "(I)V"⟩, 12), (⟨"TonightCovers$Company", "draw", "()I"⟩, 12), (⟨"TonightCovers$Trials", "showOfTried", "()I"⟩, 2), (⟨"TonightCovers$Trials", "takeFor", "(I)I"⟩, 2), (⟨"TonightCovers$Trials", "showOfSet", "(I)I"⟩, 2)]
theorem lw_r1 : ∀ q ∈ lw_privs_1, lw_okq q := List.forall_mem_cons.mpr ⟨lw_p0, List.forall_mem_cons.mpr ⟨lw_p1, List.forall_mem_cons.mpr ⟨lw_p2, List.forall_mem_cons.mpr ⟨lw_p3, List.forall_mem_cons.mpr ⟨lw_p4, List.forall_mem_cons.mpr ⟨lw_p5, List.forall_mem_cons.mpr ⟨lw_p6, List.forall_mem_cons.mpr ⟨lw_p7, List.forall_mem_cons.mpr ⟨lw_p8, List.forall_mem_cons.mpr ⟨lw_p9, List.forall_mem_cons.mpr ⟨lw_p10, List.forall_mem_cons.mpr ⟨lw_p11, List.forall_mem_cons.mpr ⟨lw_p12, List.forall_mem_cons.mpr ⟨lw_p13, List.forall_mem_cons.mpr ⟨lw_p14, List.forall_mem_cons.mpr ⟨lw_p15, fun _ h => absurd h List.not_mem_nil⟩⟩⟩⟩⟩⟩⟩⟩⟩⟩⟩⟩⟩⟩⟩⟩
theorem lw_p16 : lw_okq (⟨"TonightCovers$Trials", "isFitting", "(LTonightCovers$Sheet;II)Z"⟩, 2) := ⟨⟨by decide +kernel, by decide +kernel⟩, List.mem_of_getElem? (i := 105) (by decide +kernel), List.mem_of_getElem? (i := 733) (by decide +kernel), List.mem_of_getElem? (i := 734) (by decide +kernel)⟩
theorem lw_p17 : lw_okq (⟨"TonightCovers", "isRowCell", "(II)Z"⟩, 15) := ⟨⟨by decide +kernel, by decide +kernel⟩, List.mem_of_getElem? (i := 22) (by decide +kernel), List.mem_of_getElem? (i := 776) (by decide +kernel), List.mem_of_getElem? (i := 777) (by decide +kernel)⟩
theorem lw_p18 : lw_okq (⟨"TonightCovers", "shelve", "(IIII)I"⟩, 15) := ⟨⟨by decide +kernel, by decide +kernel⟩, List.mem_of_getElem? (i := 22) (by decide +kernel), List.mem_of_getElem? (i := 819) (by decide +kernel), List.mem_of_getElem? (i := 820) (by decide +kernel)⟩
theorem lw_p19 : lw_okq (⟨"TonightCovers", "holdsNothing", "(I)Z"⟩, 15) := ⟨⟨by decide +kernel, by decide +kernel⟩, List.mem_of_getElem? (i := 22) (by decide +kernel), List.mem_of_getElem? (i := 827) (by decide +kernel), List.mem_of_getElem? (i := 828) (by decide +kernel)⟩
theorem lw_p20 : lw_okq (⟨"TonightCoversModel", "next", "()V"⟩, 27) := ⟨⟨by decide +kernel, by decide +kernel⟩, List.mem_of_getElem? (i := 959) (by decide +kernel), List.mem_of_getElem? (i := 1063) (by decide +kernel), List.mem_of_getElem? (i := 1064) (by decide +kernel)⟩
theorem lw_p21 : lw_okq (⟨"TonightCoversModel", "byteAt", "(I)I"⟩, 27) := ⟨⟨by decide +kernel, by decide +kernel⟩, List.mem_of_getElem? (i := 959) (by decide +kernel), List.mem_of_getElem? (i := 1067) (by decide +kernel), List.mem_of_getElem? (i := 1068) (by decide +kernel)⟩
theorem lw_p22 : lw_okq (⟨"TonightCoversModel", "readsName", "()V"⟩, 27) := ⟨⟨by decide +kernel, by decide +kernel⟩, List.mem_of_getElem? (i := 959) (by decide +kernel), List.mem_of_getElem? (i := 1071) (by decide +kernel), List.mem_of_getElem? (i := 1072) (by decide +kernel)⟩
theorem lw_p23 : lw_okq (⟨"TonightCoversModel", "isNameOf", "(I)Z"⟩, 27) := ⟨⟨by decide +kernel, by decide +kernel⟩, List.mem_of_getElem? (i := 959) (by decide +kernel), List.mem_of_getElem? (i := 1075) (by decide +kernel), List.mem_of_getElem? (i := 1076) (by decide +kernel)⟩
theorem lw_p24 : lw_okq (⟨"TonightCoversModel", "readsNumber", "()V"⟩, 27) := ⟨⟨by decide +kernel, by decide +kernel⟩, List.mem_of_getElem? (i := 959) (by decide +kernel), List.mem_of_getElem? (i := 1079) (by decide +kernel), List.mem_of_getElem? (i := 1080) (by decide +kernel)⟩
theorem lw_p25 : lw_okq (⟨"TonightCoversModel", "readsOne", "()Z"⟩, 27) := ⟨⟨by decide +kernel, by decide +kernel⟩, List.mem_of_getElem? (i := 959) (by decide +kernel), List.mem_of_getElem? (i := 1083) (by decide +kernel), List.mem_of_getElem? (i := 1084) (by decide +kernel)⟩
theorem lw_p26 : lw_okq (⟨"TonightCoversModel", "readsPlayer", "(I)Z"⟩, 27) := ⟨⟨by decide +kernel, by decide +kernel⟩, List.mem_of_getElem? (i := 959) (by decide +kernel), List.mem_of_getElem? (i := 1087) (by decide +kernel), List.mem_of_getElem? (i := 1088) (by decide +kernel)⟩
theorem lw_p27 : lw_okq (⟨"TonightCoversModel", "takes", "(I)Z"⟩, 27) := ⟨⟨by decide +kernel, by decide +kernel⟩, List.mem_of_getElem? (i := 959) (by decide +kernel), List.mem_of_getElem? (i := 1091) (by decide +kernel), List.mem_of_getElem? (i := 1092) (by decide +kernel)⟩
theorem lw_p28 : lw_okq (⟨"TonightCoversModel", "takesNumber", "(I)I"⟩, 27) := ⟨⟨by decide +kernel, by decide +kernel⟩, List.mem_of_getElem? (i := 959) (by decide +kernel), List.mem_of_getElem? (i := 1095) (by decide +kernel), List.mem_of_getElem? (i := 1096) (by decide +kernel)⟩
theorem lw_p29 : lw_okq (⟨"TonightCoversModel", "readsWeight", "()Z"⟩, 27) := ⟨⟨by decide +kernel, by decide +kernel⟩, List.mem_of_getElem? (i := 959) (by decide +kernel), List.mem_of_getElem? (i := 1099) (by decide +kernel), List.mem_of_getElem? (i := 1100) (by decide +kernel)⟩
theorem lw_p30 : lw_okq (⟨"TonightCoversModel", "readsLaw", "(I)Z"⟩, 27) := ⟨⟨by decide +kernel, by decide +kernel⟩, List.mem_of_getElem? (i := 959) (by decide +kernel), List.mem_of_getElem? (i := 1103) (by decide +kernel), List.mem_of_getElem? (i := 1104) (by decide +kernel)⟩
theorem lw_p31 : lw_okq (⟨"TonightCoversModel", "becomes", "(II)I"⟩, 27) := ⟨⟨by decide +kernel, by decide +kernel⟩, List.mem_of_getElem? (i := 959) (by decide +kernel), List.mem_of_getElem? (i := 1117) (by decide +kernel), List.mem_of_getElem? (i := 1118) (by decide +kernel)⟩
def lw_privs_2 : List (MethodName × Nat) := [(⟨"TonightCovers$Trials", "isFitting", "(LTonightCovers$Sheet;II)Z"⟩, 2), (⟨"TonightCovers", "isRowCell", "(II)Z"⟩, 15), (⟨"TonightCovers", "shelve", "(IIII)I"⟩, 15), (⟨"TonightCovers", "holdsNothing", "(I)Z"⟩, 15), (⟨"TonightCoversModel", "next", "()V"⟩, 27), (⟨"TonightCoversModel", "byteAt", "(I)I"⟩, 27), (⟨"TonightCoversModel", "readsName", "()V"⟩, 27), (⟨"TonightCoversModel", "isNameOf", "(I)Z"⟩, 27), (⟨"TonightCoversModel", "readsNumber", "()V"⟩, 27), (⟨"TonightCoversModel", "readsOne", "()Z"⟩, 27), (⟨"TonightCoversModel", "readsPlayer", "(I)Z"⟩, 27), (⟨"TonightCoversModel", "takes", "(I)Z"⟩, 27), (⟨"TonightCoversModel", "takesNumber", "(I)I"⟩, 27), (⟨"TonightCoversModel", "readsWeight", "()Z"⟩, 27), (⟨"TonightCoversModel", "readsLaw", "(I)Z"⟩, 27), (⟨"TonightCoversModel", "becomes", "(II)I"⟩, 27)]
theorem lw_r2 : ∀ q ∈ lw_privs_2, lw_okq q := List.forall_mem_cons.mpr ⟨lw_p16, List.forall_mem_cons.mpr ⟨lw_p17, List.forall_mem_cons.mpr ⟨lw_p18, List.forall_mem_cons.mpr ⟨lw_p19, List.forall_mem_cons.mpr ⟨lw_p20, List.forall_mem_cons.mpr ⟨lw_p21, List.forall_mem_cons.mpr ⟨lw_p22, List.forall_mem_cons.mpr ⟨lw_p23, List.forall_mem_cons.mpr ⟨lw_p24, List.forall_mem_cons.mpr ⟨lw_p25, List.forall_mem_cons.mpr ⟨lw_p26, List.forall_mem_cons.mpr ⟨lw_p27, List.forall_mem_cons.mpr ⟨lw_p28, List.forall_mem_cons.mpr ⟨lw_p29, List.forall_mem_cons.mpr ⟨lw_p30, List.forall_mem_cons.mpr ⟨lw_p31, fun _ h => absurd h List.not_mem_nil⟩⟩⟩⟩⟩⟩⟩⟩⟩⟩⟩⟩⟩⟩⟩⟩
theorem lw_p32 : lw_okq (⟨"TonightCoversModel", "bills", "()V"⟩, 27) := ⟨⟨by decide +kernel, by decide +kernel⟩, List.mem_of_getElem? (i := 959) (by decide +kernel), List.mem_of_getElem? (i := 1136) (by decide +kernel), List.mem_of_getElem? (i := 1137) (by decide +kernel)⟩
theorem lw_p33 : lw_okq (⟨"TonightCoversModel", "mayPlay", "(II)Z"⟩, 27) := ⟨⟨by decide +kernel, by decide +kernel⟩, List.mem_of_getElem? (i := 959) (by decide +kernel), List.mem_of_getElem? (i := 1140) (by decide +kernel), List.mem_of_getElem? (i := 1141) (by decide +kernel)⟩
theorem lw_p34 : lw_okq (⟨"TonightCoversModel", "get", "(II)I"⟩, 27) := ⟨⟨by decide +kernel, by decide +kernel⟩, List.mem_of_getElem? (i := 959) (by decide +kernel), List.mem_of_getElem? (i := 1144) (by decide +kernel), List.mem_of_getElem? (i := 1145) (by decide +kernel)⟩
theorem lw_p35 : lw_okq (⟨"TonightCoversModel", "goodAt", "(II)I"⟩, 27) := ⟨⟨by decide +kernel, by decide +kernel⟩, List.mem_of_getElem? (i := 959) (by decide +kernel), List.mem_of_getElem? (i := 1148) (by decide +kernel), List.mem_of_getElem? (i := 1149) (by decide +kernel)⟩
theorem lw_p36 : lw_okq (⟨"TonightCoversModel", "ownersOf", "(I)I"⟩, 27) := ⟨⟨by decide +kernel, by decide +kernel⟩, List.mem_of_getElem? (i := 959) (by decide +kernel), List.mem_of_getElem? (i := 1152) (by decide +kernel), List.mem_of_getElem? (i := 1153) (by decide +kernel)⟩
theorem lw_p37 : lw_okq (⟨"TonightCoversModel", "puts", "(III)V"⟩, 27) := ⟨⟨by decide +kernel, by decide +kernel⟩, List.mem_of_getElem? (i := 959) (by decide +kernel), List.mem_of_getElem? (i := 1160) (by decide +kernel), List.mem_of_getElem? (i := 1161) (by decide +kernel)⟩
theorem lw_p38 : lw_okq (⟨"TonightCoversModel", "isPlayer", "(I)Z"⟩, 27) := ⟨⟨by decide +kernel, by decide +kernel⟩, List.mem_of_getElem? (i := 959) (by decide +kernel), List.mem_of_getElem? (i := 1168) (by decide +kernel), List.mem_of_getElem? (i := 1169) (by decide +kernel)⟩
theorem lw_p39 : lw_okq (⟨"TonightCoversModel", "learnsOf", "(I)I"⟩, 27) := ⟨⟨by decide +kernel, by decide +kernel⟩, List.mem_of_getElem? (i := 959) (by decide +kernel), List.mem_of_getElem? (i := 1180) (by decide +kernel), List.mem_of_getElem? (i := 1181) (by decide +kernel)⟩
theorem lw_p40 : lw_okq (⟨"TonightCoversModel", "forgetsOf", "(I)I"⟩, 27) := ⟨⟨by decide +kernel, by decide +kernel⟩, List.mem_of_getElem? (i := 959) (by decide +kernel), List.mem_of_getElem? (i := 1184) (by decide +kernel), List.mem_of_getElem? (i := 1185) (by decide +kernel)⟩
theorem lw_p41 : lw_okq (⟨"TonightCoversModel", "goes", "(I)V"⟩, 27) := ⟨⟨by decide +kernel, by decide +kernel⟩, List.mem_of_getElem? (i := 959) (by decide +kernel), List.mem_of_getElem? (i := 1204) (by decide +kernel), List.mem_of_getElem? (i := 1205) (by decide +kernel)⟩
theorem lw_p42 : lw_okq (⟨"TonightCoversModel", "night1", "()I"⟩, 27) := ⟨⟨by decide +kernel, by decide +kernel⟩, List.mem_of_getElem? (i := 959) (by decide +kernel), List.mem_of_getElem? (i := 1208) (by decide +kernel), List.mem_of_getElem? (i := 1209) (by decide +kernel)⟩
theorem lw_p43 : lw_okq (⟨"TonightCoversModel", "billShow", "()I"⟩, 27) := ⟨⟨by decide +kernel, by decide +kernel⟩, List.mem_of_getElem? (i := 959) (by decide +kernel), List.mem_of_getElem? (i := 1212) (by decide +kernel), List.mem_of_getElem? (i := 1213) (by decide +kernel)⟩
theorem lw_p44 : lw_okq (⟨"TonightCoversModel", "showNow", "()I"⟩, 27) := ⟨⟨by decide +kernel, by decide +kernel⟩, List.mem_of_getElem? (i := 959) (by decide +kernel), List.mem_of_getElem? (i := 1216) (by decide +kernel), List.mem_of_getElem? (i := 1217) (by decide +kernel)⟩
theorem lw_p45 : lw_okq (⟨"TonightCoversModel", "remembers", "(I)V"⟩, 27) := ⟨⟨by decide +kernel, by decide +kernel⟩, List.mem_of_getElem? (i := 959) (by decide +kernel), List.mem_of_getElem? (i := 1220) (by decide +kernel), List.mem_of_getElem? (i := 1221) (by decide +kernel)⟩
theorem lw_p46 : lw_okq (⟨"TonightCoversModel", "moves", "(III)V"⟩, 27) := ⟨⟨by decide +kernel, by decide +kernel⟩, List.mem_of_getElem? (i := 959) (by decide +kernel), List.mem_of_getElem? (i := 1224) (by decide +kernel), List.mem_of_getElem? (i := 1225) (by decide +kernel)⟩
theorem lw_p47 : lw_okq (⟨"TonightCoversModel", "holds", "()V"⟩, 27) := ⟨⟨by decide +kernel, by decide +kernel⟩, List.mem_of_getElem? (i := 959) (by decide +kernel), List.mem_of_getElem? (i := 1231) (by decide +kernel), List.mem_of_getElem? (i := 1232) (by decide +kernel)⟩
def lw_privs_3 : List (MethodName × Nat) := [(⟨"TonightCoversModel", "bills", "()V"⟩, 27), (⟨"TonightCoversModel", "mayPlay", "(II)Z"⟩, 27), (⟨"TonightCoversModel", "get", "(II)I"⟩, 27), (⟨"TonightCoversModel", "goodAt", "(II)I"⟩, 27), (⟨"TonightCoversModel", "ownersOf", "(I)I"⟩, 27), (⟨"TonightCoversModel", "puts", "(III)V"⟩, 27), (⟨"TonightCoversModel", "isPlayer", "(I)Z"⟩, 27), (⟨"TonightCoversModel", "learnsOf", "(I)I"⟩, 27), (⟨"TonightCoversModel", "forgetsOf", "(I)I"⟩, 27), (⟨"TonightCoversModel", "goes", "(I)V"⟩, 27), (⟨"TonightCoversModel", "night1", "()I"⟩, 27), (⟨"TonightCoversModel", "billShow", "()I"⟩, 27), (⟨"TonightCoversModel", "showNow", "()I"⟩, 27), (⟨"TonightCoversModel", "remembers", "(I)V"⟩, 27), (⟨"TonightCoversModel", "moves", "(III)V"⟩, 27), (⟨"TonightCoversModel", "holds", "()V"⟩, 27)]
theorem lw_r3 : ∀ q ∈ lw_privs_3, lw_okq q := List.forall_mem_cons.mpr ⟨lw_p32, List.forall_mem_cons.mpr ⟨lw_p33, List.forall_mem_cons.mpr ⟨lw_p34, List.forall_mem_cons.mpr ⟨lw_p35, List.forall_mem_cons.mpr ⟨lw_p36, List.forall_mem_cons.mpr ⟨lw_p37, List.forall_mem_cons.mpr ⟨lw_p38, List.forall_mem_cons.mpr ⟨lw_p39, List.forall_mem_cons.mpr ⟨lw_p40, List.forall_mem_cons.mpr ⟨lw_p41, List.forall_mem_cons.mpr ⟨lw_p42, List.forall_mem_cons.mpr ⟨lw_p43, List.forall_mem_cons.mpr ⟨lw_p44, List.forall_mem_cons.mpr ⟨lw_p45, List.forall_mem_cons.mpr ⟨lw_p46, List.forall_mem_cons.mpr ⟨lw_p47, fun _ h => absurd h List.not_mem_nil⟩⟩⟩⟩⟩⟩⟩⟩⟩⟩⟩⟩⟩⟩⟩⟩
theorem lw_p48 : lw_okq (⟨"TonightCoversModel", "byDraws", "()I"⟩, 27) := ⟨⟨by decide +kernel, by decide +kernel⟩, List.mem_of_getElem? (i := 959) (by decide +kernel), List.mem_of_getElem? (i := 1244) (by decide +kernel), List.mem_of_getElem? (i := 1245) (by decide +kernel)⟩
theorem lw_p49 : lw_okq (⟨"TonightCoversModel", "draw", "()I"⟩, 27) := ⟨⟨by decide +kernel, by decide +kernel⟩, List.mem_of_getElem? (i := 959) (by decide +kernel), List.mem_of_getElem? (i := 1248) (by decide +kernel), List.mem_of_getElem? (i := 1249) (by decide +kernel)⟩
theorem lw_p50 : lw_okq (⟨"TonightCoversModel", "cutNow", "()I"⟩, 27) := ⟨⟨by decide +kernel, by decide +kernel⟩, List.mem_of_getElem? (i := 959) (by decide +kernel), List.mem_of_getElem? (i := 1261) (by decide +kernel), List.mem_of_getElem? (i := 1262) (by decide +kernel)⟩
theorem lw_p51 : lw_okq (⟨"TonightCoversModel", "illNow", "()I"⟩, 27) := ⟨⟨by decide +kernel, by decide +kernel⟩, List.mem_of_getElem? (i := 959) (by decide +kernel), List.mem_of_getElem? (i := 1265) (by decide +kernel), List.mem_of_getElem? (i := 1266) (by decide +kernel)⟩
theorem lw_p52 : lw_okq (⟨"TonightCoversModel", "movedNow", "()I"⟩, 27) := ⟨⟨by decide +kernel, by decide +kernel⟩, List.mem_of_getElem? (i := 959) (by decide +kernel), List.mem_of_getElem? (i := 1269) (by decide +kernel), List.mem_of_getElem? (i := 1270) (by decide +kernel)⟩
theorem lw_p53 : lw_okq (⟨"TonightCoversModel", "thenAt", "(II)I"⟩, 27) := ⟨⟨by decide +kernel, by decide +kernel⟩, List.mem_of_getElem? (i := 959) (by decide +kernel), List.mem_of_getElem? (i := 1277) (by decide +kernel), List.mem_of_getElem? (i := 1278) (by decide +kernel)⟩
theorem lw_p54 : lw_okq (⟨"TonightCoversModel", "firstWith", "(II)I"⟩, 27) := ⟨⟨by decide +kernel, by decide +kernel⟩, List.mem_of_getElem? (i := 959) (by decide +kernel), List.mem_of_getElem? (i := 1289) (by decide +kernel), List.mem_of_getElem? (i := 1290) (by decide +kernel)⟩
theorem lw_p55 : lw_okq (⟨"TonightCoversModel", "takenBy", "(I)I"⟩, 27) := ⟨⟨by decide +kernel, by decide +kernel⟩, List.mem_of_getElem? (i := 959) (by decide +kernel), List.mem_of_getElem? (i := 1308) (by decide +kernel), List.mem_of_getElem? (i := 1309) (by decide +kernel)⟩
theorem lw_p56 : lw_okq (⟨"TonightCoversModel", "showOf", "(I)I"⟩, 27) := ⟨⟨by decide +kernel, by decide +kernel⟩, List.mem_of_getElem? (i := 959) (by decide +kernel), List.mem_of_getElem? (i := 1327) (by decide +kernel), List.mem_of_getElem? (i := 1328) (by decide +kernel)⟩
theorem lw_p57 : lw_okq (⟨"TonightCoversModel", "fitsWith", "(III)Z"⟩, 27) := ⟨⟨by decide +kernel, by decide +kernel⟩, List.mem_of_getElem? (i := 959) (by decide +kernel), List.mem_of_getElem? (i := 1338) (by decide +kernel), List.mem_of_getElem? (i := 1339) (by decide +kernel)⟩
theorem lw_p58 : lw_okq (⟨"TonightCoversModel", "rowBy", "(I)V"⟩, 27) := ⟨⟨by decide +kernel, by decide +kernel⟩, List.mem_of_getElem? (i := 959) (by decide +kernel), List.mem_of_getElem? (i := 1359) (by decide +kernel), List.mem_of_getElem? (i := 1360) (by decide +kernel)⟩
theorem lw_p59 : lw_okq (⟨"TonightCoversModel", "isRow", "(II)Z"⟩, 27) := ⟨⟨by decide +kernel, by decide +kernel⟩, List.mem_of_getElem? (i := 959) (by decide +kernel), List.mem_of_getElem? (i := 1367) (by decide +kernel), List.mem_of_getElem? (i := 1368) (by decide +kernel)⟩
theorem lw_p60 : lw_okq (⟨"TonightCoversModel", "heldOn", "(I)I"⟩, 27) := ⟨⟨by decide +kernel, by decide +kernel⟩, List.mem_of_getElem? (i := 959) (by decide +kernel), List.mem_of_getElem? (i := 1403) (by decide +kernel), List.mem_of_getElem? (i := 1404) (by decide +kernel)⟩
theorem lw_p61 : lw_okq (⟨"TonightCoversModel", "bowsAs", "(II)I"⟩, 27) := ⟨⟨by decide +kernel, by decide +kernel⟩, List.mem_of_getElem? (i := 959) (by decide +kernel), List.mem_of_getElem? (i := 1414) (by decide +kernel), List.mem_of_getElem? (i := 1415) (by decide +kernel)⟩
theorem lw_p62 : lw_okq (⟨"TonightCoversModel", "starts", "(I)V"⟩, 27) := ⟨⟨by decide +kernel, by decide +kernel⟩, List.mem_of_getElem? (i := 959) (by decide +kernel), List.mem_of_getElem? (i := 1418) (by decide +kernel), List.mem_of_getElem? (i := 1419) (by decide +kernel)⟩
theorem lw_p63 : lw_okq (⟨"TonightCoversModel", "singsAs", "(II)I"⟩, 27) := ⟨⟨by decide +kernel, by decide +kernel⟩, List.mem_of_getElem? (i := 959) (by decide +kernel), List.mem_of_getElem? (i := 1422) (by decide +kernel), List.mem_of_getElem? (i := 1423) (by decide +kernel)⟩
def lw_privs_4 : List (MethodName × Nat) := [(⟨"TonightCoversModel", "byDraws", "()I"⟩, 27), (⟨"TonightCoversModel", "draw", "()I"⟩, 27), (⟨"TonightCoversModel", "cutNow", "()I"⟩, 27), (⟨"TonightCoversModel", "illNow", "()I"⟩, 27), (⟨"TonightCoversModel", "movedNow", "()I"⟩, 27), (⟨"TonightCoversModel", "thenAt", "(II)I"⟩, 27), (⟨"TonightCoversModel", "firstWith", "(II)I"⟩, 27), (⟨"TonightCoversModel", "takenBy", "(I)I"⟩, 27), (⟨"TonightCoversModel", "showOf", "(I)I"⟩, 27), (⟨"TonightCoversModel", "fitsWith", "(III)Z"⟩, 27), (⟨"TonightCoversModel", "rowBy", "(I)V"⟩, 27), (⟨"TonightCoversModel", "isRow", "(II)Z"⟩, 27), (⟨"TonightCoversModel", "heldOn", "(I)I"⟩, 27), (⟨"TonightCoversModel", "bowsAs", "(II)I"⟩, 27), (⟨"TonightCoversModel", "starts", "(I)V"⟩, 27), (⟨"TonightCoversModel", "singsAs", "(II)I"⟩, 27)]
theorem lw_r4 : ∀ q ∈ lw_privs_4, lw_okq q := List.forall_mem_cons.mpr ⟨lw_p48, List.forall_mem_cons.mpr ⟨lw_p49, List.forall_mem_cons.mpr ⟨lw_p50, List.forall_mem_cons.mpr ⟨lw_p51, List.forall_mem_cons.mpr ⟨lw_p52, List.forall_mem_cons.mpr ⟨lw_p53, List.forall_mem_cons.mpr ⟨lw_p54, List.forall_mem_cons.mpr ⟨lw_p55, List.forall_mem_cons.mpr ⟨lw_p56, List.forall_mem_cons.mpr ⟨lw_p57, List.forall_mem_cons.mpr ⟨lw_p58, List.forall_mem_cons.mpr ⟨lw_p59, List.forall_mem_cons.mpr ⟨lw_p60, List.forall_mem_cons.mpr ⟨lw_p61, List.forall_mem_cons.mpr ⟨lw_p62, List.forall_mem_cons.mpr ⟨lw_p63, fun _ h => absurd h List.not_mem_nil⟩⟩⟩⟩⟩⟩⟩⟩⟩⟩⟩⟩⟩⟩⟩⟩
theorem lw_p64 : lw_okq (⟨"TonightCoversModel", "partsAs", "(II)I"⟩, 27) := ⟨⟨by decide +kernel, by decide +kernel⟩, List.mem_of_getElem? (i := 959) (by decide +kernel), List.mem_of_getElem? (i := 1426) (by decide +kernel), List.mem_of_getElem? (i := 1427) (by decide +kernel)⟩
theorem lw_p65 : lw_okq (⟨"TonightCoversModel", "movesAs", "(II)I"⟩, 27) := ⟨⟨by decide +kernel, by decide +kernel⟩, List.mem_of_getElem? (i := 959) (by decide +kernel), List.mem_of_getElem? (i := 1430) (by decide +kernel), List.mem_of_getElem? (i := 1431) (by decide +kernel)⟩
def lw_privs_5 : List (MethodName × Nat) := [(⟨"TonightCoversModel", "partsAs", "(II)I"⟩, 27), (⟨"TonightCoversModel", "movesAs", "(II)I"⟩, 27)]
theorem lw_r5 : ∀ q ∈ lw_privs_5, lw_okq q := List.forall_mem_cons.mpr ⟨lw_p64, List.forall_mem_cons.mpr ⟨lw_p65, fun _ h => absurd h List.not_mem_nil⟩⟩
def lw_privs : List (MethodName × Nat) := lw_privs_1 ++ (lw_privs_2 ++ (lw_privs_3 ++ (lw_privs_4 ++ (lw_privs_5))))
def lw_tbl : List Cond := k2_sels lw_privs ++ tables_1
theorem lw_privs_ok : ∀ q ∈ lw_privs, lw_okq q := by
  show ∀ q ∈ lw_privs_1 ++ (lw_privs_2 ++ (lw_privs_3 ++ (lw_privs_4 ++ (lw_privs_5)))), lw_okq q
  exact List.forall_mem_append.mpr ⟨lw_r1, List.forall_mem_append.mpr ⟨lw_r2, List.forall_mem_append.mpr ⟨lw_r3, List.forall_mem_append.mpr ⟨lw_r4, lw_r5⟩⟩⟩⟩
-- ===== end of PART A; then your names; then what follows =====
def RX0 : String := "TonightCovers$Company"
def TX0 : u_T := fun k => match k with
  | 0 => ("TonightCovers$Company", "laws", "[I", true)
  | 1 => ("TonightCovers$Company", "weight", "[I", true)
  | 2 => ("TonightCovers$Company", "kind", "[I", true)
  | 3 => ("TonightCovers$Company", "own", "[I", true)
  | 4 => ("TonightCovers$Company", "ill", "[I", true)
  | 5 => ("TonightCovers$Company", "knows", "[I", true)
  | 6 => ("TonightCovers$Company", "players", "I", false)
  | 7 => ("TonightCovers$Company", "nightsPlayed", "I", false)
  | 8 => ("TonightCovers$Company", "takings", "I", false)
  | 9 => ("TonightCovers$Company", "z", "I", false)
  | 10 => ("TonightCovers$Company", "cast", "[I", true)
  | _ => ("TonightCovers$Company", "role", "[I", true)
def tyX0 : Nat → FieldType := fun k => match k with
  | 0 => .array .int
  | 1 => .array .int
  | 2 => .array .int
  | 3 => .array .int
  | 4 => .array .int
  | 5 => .array .int
  | 6 => .int
  | 7 => .int
  | 8 => .int
  | 9 => .int
  | 10 => .array .int
  | _ => .array .int
abbrev wsX00 : List Cond := u_ws RX0 TX0 12
theorem nmX0 : ∀ a, a < 12 → ∀ b, b < 12 → a ≠ b → (TX0 a).2.1 ≠ (TX0 b).2.1 := by decide +kernel
theorem tyX0_ok : ∀ k, k < 12 → parseFieldDescriptor (TX0 k).2.2.1 = some (tyX0 k) := by decide +kernel
abbrev cX0_init : ByteArray := prog_2_method_1_code
def yX0_init : MethodName := ⟨RX0, "<init>", "()V"⟩
abbrev cX0_becomeAsAtFirst : ByteArray := prog_2_method_2_code
def yX0_becomeAsAtFirst : MethodName := ⟨RX0, "becomeAsAtFirst", "()V"⟩
abbrev cX0_copyFrom : ByteArray := prog_2_method_3_code
def yX0_copyFrom : MethodName := ⟨RX0, "copyFrom", "(LTonightCovers$Company;)V"⟩
abbrev cX0_join : ByteArray := prog_2_method_4_code
def yX0_join : MethodName := ⟨RX0, "join", "(II)I"⟩
abbrev cX0_knowing : ByteArray := prog_2_method_5_code
def yX0_knowing : MethodName := ⟨RX0, "knowing", "(II)I"⟩
abbrev cX0_learnTo : ByteArray := prog_2_method_6_code
def yX0_learnTo : MethodName := ⟨RX0, "learnTo", "(III)V"⟩
abbrev cX0_good : ByteArray := prog_2_method_7_code
def yX0_good : MethodName := ⟨RX0, "good", "(II)I"⟩
abbrev cX0_learns : ByteArray := prog_2_method_8_code
def yX0_learns : MethodName := ⟨RX0, "learns", "(I)I"⟩
abbrev cX0_forgets : ByteArray := prog_2_method_9_code
def yX0_forgets : MethodName := ⟨RX0, "forgets", "(I)I"⟩
abbrev cX0_makeBill : ByteArray := prog_2_method_10_code
def yX0_makeBill : MethodName := ⟨RX0, "makeBill", "()V"⟩
abbrev cX0_bestFor : ByteArray := prog_2_method_11_code
def yX0_bestFor : MethodName := ⟨RX0, "bestFor", "(I)I"⟩
abbrev cX0_isFreeFor : ByteArray := prog_2_method_12_code
def yX0_isFreeFor : MethodName := ⟨RX0, "isFreeFor", "(II)Z"⟩
abbrev cX0_show : ByteArray := prog_2_method_13_code
def yX0_show : MethodName := ⟨RX0, "show", "()I"⟩
abbrev cX0_playNight : ByteArray := prog_2_method_14_code
def yX0_playNight : MethodName := ⟨RX0, "playNight", "()I"⟩
abbrev cX0_learnAndForget : ByteArray := prog_2_method_15_code
def yX0_learnAndForget : MethodName := ⟨RX0, "learnAndForget", "(I)V"⟩
abbrev cX0_draw : ByteArray := prog_2_method_16_code
def yX0_draw : MethodName := ⟨RX0, "draw", "()I"⟩
abbrev cX0_drawThroat : ByteArray := prog_2_method_17_code
def yX0_drawThroat : MethodName := ⟨RX0, "drawThroat", "()V"⟩
abbrev cX0_cutParts : ByteArray := prog_2_method_18_code
def yX0_cutParts : MethodName := ⟨RX0, "cutParts", "()I"⟩
abbrev cX0_illPlayers : ByteArray := prog_2_method_19_code
def yX0_illPlayers : MethodName := ⟨RX0, "illPlayers", "()I"⟩
abbrev cX0_moved : ByteArray := prog_2_method_20_code
def yX0_moved : MethodName := ⟨RX0, "moved", "()I"⟩
abbrev cX0_ownersOf : ByteArray := prog_2_method_21_code
def yX0_ownersOf : MethodName := ⟨RX0, "ownersOf", "(I)I"⟩
abbrev cX0_partsOwned : ByteArray := prog_2_method_22_code
def yX0_partsOwned : MethodName := ⟨RX0, "partsOwned", "()I"⟩
def RX1 : String := "TonightCovers$Cover"
def TX1 : u_T := fun k => match k with
  | 0 => ("TonightCovers$Player", "log", "LTonightCovers$Trace;", true)
  | 1 => ("TonightCovers$Player", "n", "I", false)
  | _ => ("TonightCovers$Player", "a", "I", false)
def tyX1 : Nat → FieldType := fun k => match k with
  | 0 => .object "TonightCovers$Trace"
  | 1 => .int
  | _ => .int
abbrev wsX10 : List Cond := u_ws RX1 TX1 3
theorem nmX1 : ∀ a, a < 3 → ∀ b, b < 3 → a ≠ b → (TX1 a).2.1 ≠ (TX1 b).2.1 := by decide +kernel
theorem tyX1_ok : ∀ k, k < 3 → parseFieldDescriptor (TX1 k).2.2.1 = some (tyX1 k) := by decide +kernel
abbrev cX1_init : ByteArray := prog_3_method_1_code
def yX1_init : MethodName := ⟨RX1, "<init>", "(LTonightCovers$Trace;)V"⟩
abbrev cX1_sings : ByteArray := prog_3_method_2_code
def yX1_sings : MethodName := ⟨RX1, "sings", "(I)I"⟩
def RX2 : String := "TonightCovers$Page"
def TX2 : u_T := fun k => match k with
  | 0 => ("TonightCovers$Player", "log", "LTonightCovers$Trace;", true)
  | 1 => ("TonightCovers$Player", "n", "I", false)
  | _ => ("TonightCovers$Player", "a", "I", false)
def tyX2 : Nat → FieldType := fun k => match k with
  | 0 => .object "TonightCovers$Trace"
  | 1 => .int
  | _ => .int
abbrev wsX20 : List Cond := u_ws RX2 TX2 3
theorem nmX2 : ∀ a, a < 3 → ∀ b, b < 3 → a ≠ b → (TX2 a).2.1 ≠ (TX2 b).2.1 := by decide +kernel
theorem tyX2_ok : ∀ k, k < 3 → parseFieldDescriptor (TX2 k).2.2.1 = some (tyX2 k) := by decide +kernel
abbrev cX2_init : ByteArray := prog_4_method_1_code
def yX2_init : MethodName := ⟨RX2, "<init>", "(LTonightCovers$Trace;)V"⟩
abbrev cX2_bows : ByteArray := prog_4_method_2_code
def yX2_bows : MethodName := ⟨RX2, "bows", "(I)I"⟩
abbrev cX2_moves : ByteArray := prog_4_method_3_code
def yX2_moves : MethodName := ⟨RX2, "moves", "(I)I"⟩
def RX3 : String := "TonightCovers$Player"
def TX3 : u_T := fun k => match k with
  | 0 => ("TonightCovers$Player", "log", "LTonightCovers$Trace;", true)
  | 1 => ("TonightCovers$Player", "n", "I", false)
  | _ => ("TonightCovers$Player", "a", "I", false)
def tyX3 : Nat → FieldType := fun k => match k with
  | 0 => .object "TonightCovers$Trace"
  | 1 => .int
  | _ => .int
abbrev wsX30 : List Cond := u_ws RX3 TX3 3
theorem nmX3 : ∀ a, a < 3 → ∀ b, b < 3 → a ≠ b → (TX3 a).2.1 ≠ (TX3 b).2.1 := by decide +kernel
theorem tyX3_ok : ∀ k, k < 3 → parseFieldDescriptor (TX3 k).2.2.1 = some (tyX3 k) := by decide +kernel
abbrev cX3_init : ByteArray := prog_5_method_1_code
def yX3_init : MethodName := ⟨RX3, "<init>", "(LTonightCovers$Trace;)V"⟩
abbrev cX3_hold : ByteArray := prog_5_method_2_code
def yX3_hold : MethodName := ⟨RX3, "hold", "(II)V"⟩
abbrev cX3_bows : ByteArray := prog_5_method_3_code
def yX3_bows : MethodName := ⟨RX3, "bows", "(I)I"⟩
abbrev cX3_sings : ByteArray := prog_5_method_4_code
def yX3_sings : MethodName := ⟨RX3, "sings", "(I)I"⟩
abbrev cX3_parts : ByteArray := prog_5_method_5_code
def yX3_parts : MethodName := ⟨RX3, "parts", "(I)I"⟩
abbrev cX3_moves : ByteArray := prog_5_method_6_code
def yX3_moves : MethodName := ⟨RX3, "moves", "(I)I"⟩
def RX4 : String := "TonightCovers$Prompter"
def TX4 : u_T := fun k => match k with
  | 0 => ("TonightCovers$Player", "log", "LTonightCovers$Trace;", true)
  | 1 => ("TonightCovers$Player", "n", "I", false)
  | _ => ("TonightCovers$Player", "a", "I", false)
def tyX4 : Nat → FieldType := fun k => match k with
  | 0 => .object "TonightCovers$Trace"
  | 1 => .int
  | _ => .int
abbrev wsX40 : List Cond := u_ws RX4 TX4 3
theorem nmX4 : ∀ a, a < 3 → ∀ b, b < 3 → a ≠ b → (TX4 a).2.1 ≠ (TX4 b).2.1 := by decide +kernel
theorem tyX4_ok : ∀ k, k < 3 → parseFieldDescriptor (TX4 k).2.2.1 = some (tyX4 k) := by decide +kernel
abbrev cX4_init : ByteArray := prog_6_method_1_code
def yX4_init : MethodName := ⟨RX4, "<init>", "(LTonightCovers$Trace;)V"⟩
abbrev cX4_bows : ByteArray := prog_6_method_2_code
def yX4_bows : MethodName := ⟨RX4, "bows", "(I)I"⟩
abbrev cX4_sings : ByteArray := prog_6_method_3_code
def yX4_sings : MethodName := ⟨RX4, "sings", "(I)I"⟩
def RX5 : String := "TonightCovers$Second"
def TX5 : u_T := fun k => match k with
  | 0 => ("TonightCovers$Player", "log", "LTonightCovers$Trace;", true)
  | 1 => ("TonightCovers$Player", "n", "I", false)
  | _ => ("TonightCovers$Player", "a", "I", false)
def tyX5 : Nat → FieldType := fun k => match k with
  | 0 => .object "TonightCovers$Trace"
  | 1 => .int
  | _ => .int
abbrev wsX50 : List Cond := u_ws RX5 TX5 3
theorem nmX5 : ∀ a, a < 3 → ∀ b, b < 3 → a ≠ b → (TX5 a).2.1 ≠ (TX5 b).2.1 := by decide +kernel
theorem tyX5_ok : ∀ k, k < 3 → parseFieldDescriptor (TX5 k).2.2.1 = some (tyX5 k) := by decide +kernel
abbrev cX5_init : ByteArray := prog_7_method_1_code
def yX5_init : MethodName := ⟨RX5, "<init>", "(LTonightCovers$Trace;)V"⟩
abbrev cX5_parts : ByteArray := prog_7_method_2_code
def yX5_parts : MethodName := ⟨RX5, "parts", "(I)I"⟩
abbrev cX5_bows : ByteArray := prog_7_method_3_code
def yX5_bows : MethodName := ⟨RX5, "bows", "(I)I"⟩
def RX6 : String := "TonightCovers$Sheet"
def TX6 : u_T := fun k => match k with
  | 0 => ("TonightCovers$Sheet", "sort", "I", false)
  | 1 => ("TonightCovers$Sheet", "size", "I", false)
  | _ => ("TonightCovers$Sheet", "items", "[I", true)
def tyX6 : Nat → FieldType := fun k => match k with
  | 0 => .int
  | 1 => .int
  | _ => .array .int
abbrev wsX60 : List Cond := u_ws RX6 TX6 3
theorem nmX6 : ∀ a, a < 3 → ∀ b, b < 3 → a ≠ b → (TX6 a).2.1 ≠ (TX6 b).2.1 := by decide +kernel
theorem tyX6_ok : ∀ k, k < 3 → parseFieldDescriptor (TX6 k).2.2.1 = some (tyX6 k) := by decide +kernel
abbrev cX6_init : ByteArray := prog_8_method_1_code
def yX6_init : MethodName := ⟨RX6, "<init>", "()V"⟩
abbrev cX6_become : ByteArray := prog_8_method_2_code
def yX6_become : MethodName := ⟨RX6, "become", "(II)V"⟩
abbrev cX6_narrowed : ByteArray := prog_8_method_3_code
def yX6_narrowed : MethodName := ⟨RX6, "narrowed", "(I)I"⟩
abbrev cX6_toldUpTo : ByteArray := prog_8_method_4_code
def yX6_toldUpTo : MethodName := ⟨RX6, "toldUpTo", "()I"⟩
def RX7 : String := "TonightCovers$Star"
def TX7 : u_T := fun k => match k with
  | 0 => ("TonightCovers$Player", "log", "LTonightCovers$Trace;", true)
  | 1 => ("TonightCovers$Player", "n", "I", false)
  | _ => ("TonightCovers$Player", "a", "I", false)
def tyX7 : Nat → FieldType := fun k => match k with
  | 0 => .object "TonightCovers$Trace"
  | 1 => .int
  | _ => .int
abbrev wsX70 : List Cond := u_ws RX7 TX7 3
theorem nmX7 : ∀ a, a < 3 → ∀ b, b < 3 → a ≠ b → (TX7 a).2.1 ≠ (TX7 b).2.1 := by decide +kernel
theorem tyX7_ok : ∀ k, k < 3 → parseFieldDescriptor (TX7 k).2.2.1 = some (tyX7 k) := by decide +kernel
abbrev cX7_init : ByteArray := prog_9_method_1_code
def yX7_init : MethodName := ⟨RX7, "<init>", "(LTonightCovers$Trace;)V"⟩
abbrev cX7_moves : ByteArray := prog_9_method_2_code
def yX7_moves : MethodName := ⟨RX7, "moves", "(I)I"⟩
abbrev cX7_parts : ByteArray := prog_9_method_3_code
def yX7_parts : MethodName := ⟨RX7, "parts", "(I)I"⟩
def RX8 : String := "TonightCovers$Tape"
def TX8 : u_T := fun k => match k with
  | 0 => ("TonightCovers$Tape", "bytes", "[B", true)
  | 1 => ("TonightCovers$Tape", "length", "I", false)
  | 2 => ("TonightCovers$Tape", "at", "I", false)
  | _ => ("TonightCovers$Tape", "fault", "I", false)
def tyX8 : Nat → FieldType := fun k => match k with
  | 0 => .array .byte
  | 1 => .int
  | 2 => .int
  | _ => .int
abbrev wsX80 : List Cond := u_ws RX8 TX8 4
theorem nmX8 : ∀ a, a < 4 → ∀ b, b < 4 → a ≠ b → (TX8 a).2.1 ≠ (TX8 b).2.1 := by decide +kernel
theorem tyX8_ok : ∀ k, k < 4 → parseFieldDescriptor (TX8 k).2.2.1 = some (tyX8 k) := by decide +kernel
abbrev cX8_init : ByteArray := prog_10_method_1_code
def yX8_init : MethodName := ⟨RX8, "<init>", "()V"⟩
abbrev cX8_append : ByteArray := prog_10_method_2_code
def yX8_append : MethodName := ⟨RX8, "append", "(JI)Z"⟩
abbrev cX8_tell : ByteArray := prog_10_method_3_code
def yX8_tell : MethodName := ⟨RX8, "tell", "(LTonightCovers$Company;)I"⟩
abbrev cX8_tellOne : ByteArray := prog_10_method_4_code
def yX8_tellOne : MethodName := ⟨RX8, "tellOne", "(LTonightCovers$Company;)V"⟩
abbrev cX8_tellPlayer : ByteArray := prog_10_method_5_code
def yX8_tellPlayer : MethodName := ⟨RX8, "tellPlayer", "(LTonightCovers$Company;I)V"⟩
abbrev cX8_passOpeningName : ByteArray := prog_10_method_6_code
def yX8_passOpeningName : MethodName := ⟨RX8, "passOpeningName", "()I"⟩
abbrev cX8_passName : ByteArray := prog_10_method_7_code
def yX8_passName : MethodName := ⟨RX8, "passName", "(I)Z"⟩
abbrev cX8_lettersOf : ByteArray := prog_10_method_8_code
def yX8_lettersOf : MethodName := ⟨RX8, "lettersOf", "(I)Ljava/lang/String;"⟩
abbrev cX8_passNumber : ByteArray := prog_10_method_9_code
def yX8_passNumber : MethodName := ⟨RX8, "passNumber", "(I)I"⟩
abbrev cX8_passEnd : ByteArray := prog_10_method_10_code
def yX8_passEnd : MethodName := ⟨RX8, "passEnd", "()V"⟩
abbrev cX8_passBlanks : ByteArray := prog_10_method_11_code
def yX8_passBlanks : MethodName := ⟨RX8, "passBlanks", "()V"⟩
abbrev cX8_fail : ByteArray := prog_10_method_12_code
def yX8_fail : MethodName := ⟨RX8, "fail", "(I)V"⟩
abbrev cX8_isLetter : ByteArray := prog_10_method_13_code
def yX8_isLetter : MethodName := ⟨RX8, "isLetter", "(B)Z"⟩
abbrev cX8_isDigit : ByteArray := prog_10_method_14_code
def yX8_isDigit : MethodName := ⟨RX8, "isDigit", "(B)Z"⟩
def RX9 : String := "TonightCovers$Trace"
def TX9 : u_T := fun k => match k with
  | 0 => ("TonightCovers$Trace", "bodies", "[I", true)
  | 1 => ("TonightCovers$Trace", "count", "I", false)
  | _ => ("TonightCovers$Trace", "partedBy0", "Z", false)
def tyX9 : Nat → FieldType := fun k => match k with
  | 0 => .array .int
  | 1 => .int
  | _ => .boolean
abbrev wsX90 : List Cond := u_ws RX9 TX9 3
theorem nmX9 : ∀ a, a < 3 → ∀ b, b < 3 → a ≠ b → (TX9 a).2.1 ≠ (TX9 b).2.1 := by decide +kernel
theorem tyX9_ok : ∀ k, k < 3 → parseFieldDescriptor (TX9 k).2.2.1 = some (tyX9 k) := by decide +kernel
abbrev cX9_init : ByteArray := prog_11_method_1_code
def yX9_init : MethodName := ⟨RX9, "<init>", "()V"⟩
abbrev cX9_clear : ByteArray := prog_11_method_2_code
def yX9_clear : MethodName := ⟨RX9, "clear", "()V"⟩
def RX10 : String := "TonightCovers$Trials"
def TX10 : u_T := fun k => match k with
  | 0 => ("TonightCovers$Trials", "now", "LTonightCovers$Company;", true)
  | _ => ("TonightCovers$Trials", "tried", "LTonightCovers$Company;", true)
def tyX10 : Nat → FieldType := fun k => match k with
  | 0 => .object "TonightCovers$Company"
  | _ => .object "TonightCovers$Company"
abbrev wsX100 : List Cond := u_ws RX10 TX10 2
theorem nmX10 : ∀ a, a < 2 → ∀ b, b < 2 → a ≠ b → (TX10 a).2.1 ≠ (TX10 b).2.1 := by decide +kernel
theorem tyX10_ok : ∀ k, k < 2 → parseFieldDescriptor (TX10 k).2.2.1 = some (tyX10 k) := by decide +kernel
abbrev cX10_init : ByteArray := prog_12_method_1_code
def yX10_init : MethodName := ⟨RX10, "<init>", "(LTonightCovers$Company;LTonightCovers$Company;)V"⟩
abbrev cX10_takeFor : ByteArray := prog_12_method_2_code
def yX10_takeFor : MethodName := ⟨RX10, "takeFor", "(I)I"⟩
abbrev cX10_takenBehind : ByteArray := prog_12_method_3_code
def yX10_takenBehind : MethodName := ⟨RX10, "takenBehind", "(I)I"⟩
abbrev cX10_knowingBehind : ByteArray := prog_12_method_4_code
def yX10_knowingBehind : MethodName := ⟨RX10, "knowingBehind", "(III)I"⟩
abbrev cX10_firstOnBill : ByteArray := prog_12_method_5_code
def yX10_firstOnBill : MethodName := ⟨RX10, "firstOnBill", "(II)I"⟩
abbrev cX10_firstFullHouse : ByteArray := prog_12_method_6_code
def yX10_firstFullHouse : MethodName := ⟨RX10, "firstFullHouse", "()I"⟩
abbrev cX10_showOfTried : ByteArray := prog_12_method_7_code
def yX10_showOfTried : MethodName := ⟨RX10, "showOfTried", "()I"⟩
abbrev cX10_spoiltOf : ByteArray := prog_12_method_8_code
def yX10_spoiltOf : MethodName := ⟨RX10, "spoiltOf", "(I)I"⟩
abbrev cX10_worstIllness : ByteArray := prog_12_method_9_code
def yX10_worstIllness : MethodName := ⟨RX10, "worstIllness", "()I"⟩
abbrev cX10_bestKind : ByteArray := prog_12_method_10_code
def yX10_bestKind : MethodName := ⟨RX10, "bestKind", "(II)I"⟩
abbrev cX10_leastKnowing : ByteArray := prog_12_method_11_code
def yX10_leastKnowing : MethodName := ⟨RX10, "leastKnowing", "(II)I"⟩
abbrev cX10_bestLearner : ByteArray := prog_12_method_12_code
def yX10_bestLearner : MethodName := ⟨RX10, "bestLearner", "(II)I"⟩
abbrev cX10_fewestWell : ByteArray := prog_12_method_13_code
def yX10_fewestWell : MethodName := ⟨RX10, "fewestWell", "(I)I"⟩
abbrev cX10_showOfSet : ByteArray := prog_12_method_14_code
def yX10_showOfSet : MethodName := ⟨RX10, "showOfSet", "(I)I"⟩
abbrev cX10_howManyFit : ByteArray := prog_12_method_15_code
def yX10_howManyFit : MethodName := ⟨RX10, "howManyFit", "(LTonightCovers$Sheet;I)I"⟩
abbrev cX10_leastThatFits : ByteArray := prog_12_method_16_code
def yX10_leastThatFits : MethodName := ⟨RX10, "leastThatFits", "(LTonightCovers$Sheet;I)I"⟩
abbrev cX10_isFitting : ByteArray := prog_12_method_17_code
def yX10_isFitting : MethodName := ⟨RX10, "isFitting", "(LTonightCovers$Sheet;II)Z"⟩
abbrev cX10_makeRows : ByteArray := prog_12_method_18_code
def yX10_makeRows : MethodName := ⟨RX10, "makeRows", "(II[I)V"⟩
def RX11 : String := "TonightCovers"
def TX11 : u_T := fun k => match k with
  | 0 => ("TonightCovers", "now", "LTonightCovers$Company;", true)
  | 1 => ("TonightCovers", "tried", "LTonightCovers$Company;", true)
  | 2 => ("TonightCovers", "kept", "LTonightCovers$Company;", true)
  | 3 => ("TonightCovers", "isKept", "Z", false)
  | 4 => ("TonightCovers", "trials", "LTonightCovers$Trials;", true)
  | 5 => ("TonightCovers", "tape", "LTonightCovers$Tape;", true)
  | 6 => ("TonightCovers", "rows", "[I", true)
  | 7 => ("TonightCovers", "rightRows", "[I", true)
  | 8 => ("TonightCovers", "rowCount", "I", false)
  | 9 => ("TonightCovers", "sheets", "[LTonightCovers$Sheet;", true)
  | 10 => ("TonightCovers", "shelfHolds", "[I", true)
  | 11 => ("TonightCovers", "shelfNumber", "[I", true)
  | 12 => ("TonightCovers", "shelfSort", "[I", true)
  | 13 => ("TonightCovers", "log", "LTonightCovers$Trace;", true)
  | _ => ("TonightCovers", "things", "[LTonightCovers$Player;", true)
def tyX11 : Nat → FieldType := fun k => match k with
  | 0 => .object "TonightCovers$Company"
  | 1 => .object "TonightCovers$Company"
  | 2 => .object "TonightCovers$Company"
  | 3 => .boolean
  | 4 => .object "TonightCovers$Trials"
  | 5 => .object "TonightCovers$Tape"
  | 6 => .array .int
  | 7 => .array .int
  | 8 => .int
  | 9 => .array (.object "TonightCovers$Sheet")
  | 10 => .array .int
  | 11 => .array .int
  | 12 => .array .int
  | 13 => .object "TonightCovers$Trace"
  | _ => .array (.object "TonightCovers$Player")
abbrev wsX110 : List Cond := u_ws RX11 TX11 15
theorem nmX11 : ∀ a, a < 15 → ∀ b, b < 15 → a ≠ b → (TX11 a).2.1 ≠ (TX11 b).2.1 := by decide +kernel
theorem tyX11_ok : ∀ k, k < 15 → parseFieldDescriptor (TX11 k).2.2.1 = some (tyX11 k) := by decide +kernel
abbrev cX11_init : ByteArray := prog_1_method_1_code
def yX11_init : MethodName := ⟨RX11, "<init>", "()V"⟩
abbrev cX11_feed : ByteArray := prog_1_method_2_code
def yX11_feed : MethodName := ⟨RX11, "feed", "(JI)I"⟩
abbrev cX11_company : ByteArray := prog_1_method_3_code
def yX11_company : MethodName := ⟨RX11, "company", "()I"⟩
abbrev cX11_set : ByteArray := prog_1_method_4_code
def yX11_set : MethodName := ⟨RX11, "set", "(II)I"⟩
abbrev cX11_lawOf : ByteArray := prog_1_method_5_code
def yX11_lawOf : MethodName := ⟨RX11, "lawOf", "(I)I"⟩
abbrev cX11_weigh : ByteArray := prog_1_method_6_code
def yX11_weigh : MethodName := ⟨RX11, "weigh", "(II)I"⟩
abbrev cX11_partOf : ByteArray := prog_1_method_7_code
def yX11_partOf : MethodName := ⟨RX11, "partOf", "(II)I"⟩
abbrev cX11_player : ByteArray := prog_1_method_8_code
def yX11_player : MethodName := ⟨RX11, "player", "(II)I"⟩
abbrev cX11_of : ByteArray := prog_1_method_9_code
def yX11_of : MethodName := ⟨RX11, "of", "(II)I"⟩
abbrev cX11_knows : ByteArray := prog_1_method_10_code
def yX11_knows : MethodName := ⟨RX11, "knows", "(II)I"⟩
abbrev cX11_does : ByteArray := prog_1_method_11_code
def yX11_does : MethodName := ⟨RX11, "does", "(III)I"⟩
abbrev cX11_mind : ByteArray := prog_1_method_12_code
def yX11_mind : MethodName := ⟨RX11, "mind", "(II)I"⟩
abbrev cX11_teach : ByteArray := prog_1_method_13_code
def yX11_teach : MethodName := ⟨RX11, "teach", "(III)I"⟩
abbrev cX11_sick : ByteArray := prog_1_method_14_code
def yX11_sick : MethodName := ⟨RX11, "sick", "(II)I"⟩
abbrev cX11_nights : ByteArray := prog_1_method_15_code
def yX11_nights : MethodName := ⟨RX11, "nights", "(I)I"⟩
abbrev cX11_seed : ByteArray := prog_1_method_16_code
def yX11_seed : MethodName := ⟨RX11, "seed", "(I)I"⟩
abbrev cX11_night : ByteArray := prog_1_method_17_code
def yX11_night : MethodName := ⟨RX11, "night", "()I"⟩
abbrev cX11_spoilt : ByteArray := prog_1_method_18_code
def yX11_spoilt : MethodName := ⟨RX11, "spoilt", "(I)I"⟩
abbrev cX11_state : ByteArray := prog_1_method_19_code
def yX11_state : MethodName := ⟨RX11, "state", "(I)I"⟩
abbrev cX11_knew : ByteArray := prog_1_method_20_code
def yX11_knew : MethodName := ⟨RX11, "knew", "(III)I"⟩
abbrev cX11_earned : ByteArray := prog_1_method_21_code
def yX11_earned : MethodName := ⟨RX11, "earned", "(I)I"⟩
abbrev cX11_plays : ByteArray := prog_1_method_22_code
def yX11_plays : MethodName := ⟨RX11, "plays", "(II)I"⟩
abbrev cX11_house : ByteArray := prog_1_method_23_code
def yX11_house : MethodName := ⟨RX11, "house", "()I"⟩
abbrev cX11_worst : ByteArray := prog_1_method_24_code
def yX11_worst : MethodName := ⟨RX11, "worst", "()I"⟩
abbrev cX11_kindFor : ByteArray := prog_1_method_25_code
def yX11_kindFor : MethodName := ⟨RX11, "kindFor", "(II)I"⟩
abbrev cX11_enoughFor : ByteArray := prog_1_method_26_code
def yX11_enoughFor : MethodName := ⟨RX11, "enoughFor", "(II)I"⟩
abbrev cX11_learnerFor : ByteArray := prog_1_method_27_code
def yX11_learnerFor : MethodName := ⟨RX11, "learnerFor", "(II)I"⟩
abbrev cX11_fewestFor : ByteArray := prog_1_method_28_code
def yX11_fewestFor : MethodName := ⟨RX11, "fewestFor", "(I)I"⟩
abbrev cX11_fits : ByteArray := prog_1_method_29_code
def yX11_fits : MethodName := ⟨RX11, "fits", "(III)I"⟩
abbrev cX11_odds : ByteArray := prog_1_method_30_code
def yX11_odds : MethodName := ⟨RX11, "odds", "(III)J"⟩
abbrev cX11_hope : ByteArray := prog_1_method_31_code
def yX11_hope : MethodName := ⟨RX11, "hope", "(II)J"⟩
abbrev cX11_prove : ByteArray := prog_1_method_32_code
def yX11_prove : MethodName := ⟨RX11, "prove", "(II)I"⟩
abbrev cX11_row : ByteArray := prog_1_method_33_code
def yX11_row : MethodName := ⟨RX11, "row", "(II)I"⟩
abbrev cX11_alterRow : ByteArray := prog_1_method_34_code
def yX11_alterRow : MethodName := ⟨RX11, "alterRow", "(III)I"⟩
abbrev cX11_judge : ByteArray := prog_1_method_35_code
def yX11_judge : MethodName := ⟨RX11, "judge", "(I)I"⟩
abbrev cX11_minds : ByteArray := prog_1_method_36_code
def yX11_minds : MethodName := ⟨RX11, "minds", "(IIII)I"⟩
abbrev cX11_sheet : ByteArray := prog_1_method_37_code
def yX11_sheet : MethodName := ⟨RX11, "sheet", "(III)I"⟩
abbrev cX11_put : ByteArray := prog_1_method_38_code
def yX11_put : MethodName := ⟨RX11, "put", "(III)I"⟩
abbrev cX11_item : ByteArray := prog_1_method_39_code
def yX11_item : MethodName := ⟨RX11, "item", "(III)I"⟩
abbrev cX11_shelf : ByteArray := prog_1_method_40_code
def yX11_shelf : MethodName := ⟨RX11, "shelf", "(III)I"⟩
abbrev cX11_taken : ByteArray := prog_1_method_41_code
def yX11_taken : MethodName := ⟨RX11, "taken", "(II)I"⟩
abbrev cX11_act : ByteArray := prog_1_method_42_code
def yX11_act : MethodName := ⟨RX11, "act", "(III)I"⟩
abbrev cX11_trace : ByteArray := prog_1_method_43_code
def yX11_trace : MethodName := ⟨RX11, "trace", "(I)I"⟩
abbrev cX11_many : ByteArray := prog_1_method_44_code
def yX11_many : MethodName := ⟨RX11, "many", "(I)I"⟩
abbrev cX11_keep : ByteArray := prog_1_method_45_code
def yX11_keep : MethodName := ⟨RX11, "keep", "()I"⟩
abbrev cX11_again : ByteArray := prog_1_method_46_code
def yX11_again : MethodName := ⟨RX11, "again", "()I"⟩
abbrev cX11_isLaw : ByteArray := prog_1_method_47_code
def yX11_isLaw : MethodName := ⟨RX11, "isLaw", "(I)Z"⟩
abbrev cX11_isPart : ByteArray := prog_1_method_48_code
def yX11_isPart : MethodName := ⟨RX11, "isPart", "(I)Z"⟩
abbrev cX11_isKind : ByteArray := prog_1_method_49_code
def yX11_isKind : MethodName := ⟨RX11, "isKind", "(I)Z"⟩
abbrev cX11_isSheet : ByteArray := prog_1_method_50_code
def yX11_isSheet : MethodName := ⟨RX11, "isSheet", "(I)Z"⟩
abbrev cX11_isShelf : ByteArray := prog_1_method_51_code
def yX11_isShelf : MethodName := ⟨RX11, "isShelf", "(I)Z"⟩
abbrev cX11_isPlayer : ByteArray := prog_1_method_52_code
def yX11_isPlayer : MethodName := ⟨RX11, "isPlayer", "(I)Z"⟩
abbrev cX11_isRowCell : ByteArray := prog_1_method_53_code
def yX11_isRowCell : MethodName := ⟨RX11, "isRowCell", "(II)Z"⟩
abbrev cX11_shelve : ByteArray := prog_1_method_54_code
def yX11_shelve : MethodName := ⟨RX11, "shelve", "(IIII)I"⟩
abbrev cX11_holdsNothing : ByteArray := prog_1_method_55_code
def yX11_holdsNothing : MethodName := ⟨RX11, "holdsNothing", "(I)Z"⟩
abbrev cX11_isOfKind : ByteArray := prog_1_method_56_code
def yX11_isOfKind : MethodName := ⟨RX11, "isOfKind", "(II)Z"⟩
abbrev cX11_power : ByteArray := prog_1_method_57_code
def yX11_power : MethodName := ⟨RX11, "power", "(JI)J"⟩
abbrev cX11_waysToChoose : ByteArray := prog_1_method_58_code
def yX11_waysToChoose : MethodName := ⟨RX11, "waysToChoose", "(II)J"⟩
abbrev cX11_partOfFraction : ByteArray := prog_1_method_59_code
def yX11_partOfFraction : MethodName := ⟨RX11, "partOfFraction", "(JJI)J"⟩
abbrev cX11_heldTo : ByteArray := prog_1_method_60_code
def yX11_heldTo : MethodName := ⟨RX11, "heldTo", "(II)I"⟩
def RX12 : String := "TonightCoversModel"
def TX12 : u_T := fun k => match k with
  | 0 => ("TonightCoversModel", "s", "[I", true)
  | 1 => ("TonightCoversModel", "kept", "[I", true)
  | 2 => ("TonightCoversModel", "laid", "[I", true)
  | 3 => ("TonightCoversModel", "read", "[I", true)
  | 4 => ("TonightCoversModel", "isKept", "Z", false)
  | 5 => ("TonightCoversModel", "cast", "[I", true)
  | 6 => ("TonightCoversModel", "role", "[I", true)
  | 7 => ("TonightCoversModel", "lastShow", "I", false)
  | 8 => ("TonightCoversModel", "tape", "[I", true)
  | 9 => ("TonightCoversModel", "taped", "I", false)
  | 10 => ("TonightCoversModel", "letters", "[C", true)
  | 11 => ("TonightCoversModel", "at", "I", false)
  | 12 => ("TonightCoversModel", "begun", "I", false)
  | 13 => ("TonightCoversModel", "token", "I", false)
  | 14 => ("TonightCoversModel", "value", "I", false)
  | 15 => ("TonightCoversModel", "rows", "[I", true)
  | 16 => ("TonightCoversModel", "rowOne", "[I", true)
  | 17 => ("TonightCoversModel", "rowMany", "I", false)
  | 18 => ("TonightCoversModel", "sorts", "[I", true)
  | 19 => ("TonightCoversModel", "sizes", "[I", true)
  | 20 => ("TonightCoversModel", "items", "[I", true)
  | 21 => ("TonightCoversModel", "holds", "[I", true)
  | 22 => ("TonightCoversModel", "heldOne", "[I", true)
  | 23 => ("TonightCoversModel", "trace", "[I", true)
  | 24 => ("TonightCoversModel", "traced", "I", false)
  | 25 => ("TonightCoversModel", "own", "I", false)
  | _ => ("TonightCoversModel", "isParted", "Z", false)
def tyX12 : Nat → FieldType := fun k => match k with
  | 0 => .array .int
  | 1 => .array .int
  | 2 => .array .int
  | 3 => .array .int
  | 4 => .boolean
  | 5 => .array .int
  | 6 => .array .int
  | 7 => .int
  | 8 => .array .int
  | 9 => .int
  | 10 => .array .char
  | 11 => .int
  | 12 => .int
  | 13 => .int
  | 14 => .int
  | 15 => .array .int
  | 16 => .array .int
  | 17 => .int
  | 18 => .array .int
  | 19 => .array .int
  | 20 => .array .int
  | 21 => .array .int
  | 22 => .array .int
  | 23 => .array .int
  | 24 => .int
  | 25 => .int
  | _ => .boolean
abbrev wsX120 : List Cond := u_ws RX12 TX12 27
theorem nmX12 : ∀ a, a < 27 → ∀ b, b < 27 → a ≠ b → (TX12 a).2.1 ≠ (TX12 b).2.1 := by decide +kernel
theorem tyX12_ok : ∀ k, k < 27 → parseFieldDescriptor (TX12 k).2.2.1 = some (tyX12 k) := by decide +kernel
abbrev cX12_init : ByteArray := prog_14_method_1_code
def yX12_init : MethodName := ⟨RX12, "<init>", "()V"⟩
abbrev cX12_begins : ByteArray := prog_14_method_2_code
def yX12_begins : MethodName := ⟨RX12, "begins", "([I)V"⟩
abbrev cX12_in1 : ByteArray := prog_14_method_3_code
def yX12_in1 : MethodName := ⟨RX12, "in1", "(III)Z"⟩
abbrev cX12_held : ByteArray := prog_14_method_4_code
def yX12_held : MethodName := ⟨RX12, "held", "(II)I"⟩
abbrev cX12_copies : ByteArray := prog_14_method_5_code
def yX12_copies : MethodName := ⟨RX12, "copies", "([I[I)V"⟩
abbrev cX12_isPlayer : ByteArray := prog_14_method_6_code
def yX12_isPlayer : MethodName := ⟨RX12, "isPlayer", "(I)Z"⟩
abbrev cX12_get : ByteArray := prog_14_method_7_code
def yX12_get : MethodName := ⟨RX12, "get", "(II)I"⟩
abbrev cX12_puts : ByteArray := prog_14_method_8_code
def yX12_puts : MethodName := ⟨RX12, "puts", "(III)V"⟩
abbrev cX12_becomes : ByteArray := prog_14_method_9_code
def yX12_becomes : MethodName := ⟨RX12, "becomes", "(II)I"⟩
abbrev cX12_isPart : ByteArray := prog_14_method_10_code
def yX12_isPart : MethodName := ⟨RX12, "isPart", "(I)Z"⟩
abbrev cX12_goodAt : ByteArray := prog_14_method_11_code
def yX12_goodAt : MethodName := ⟨RX12, "goodAt", "(II)I"⟩
abbrev cX12_learnsOf : ByteArray := prog_14_method_12_code
def yX12_learnsOf : MethodName := ⟨RX12, "learnsOf", "(I)I"⟩
abbrev cX12_forgetsOf : ByteArray := prog_14_method_13_code
def yX12_forgetsOf : MethodName := ⟨RX12, "forgetsOf", "(I)I"⟩
abbrev cX12_mayPlay : ByteArray := prog_14_method_14_code
def yX12_mayPlay : MethodName := ⟨RX12, "mayPlay", "(II)Z"⟩
abbrev cX12_bills : ByteArray := prog_14_method_15_code
def yX12_bills : MethodName := ⟨RX12, "bills", "()V"⟩
abbrev cX12_showNow : ByteArray := prog_14_method_16_code
def yX12_showNow : MethodName := ⟨RX12, "showNow", "()I"⟩
abbrev cX12_billShow : ByteArray := prog_14_method_17_code
def yX12_billShow : MethodName := ⟨RX12, "billShow", "()I"⟩
abbrev cX12_cutNow : ByteArray := prog_14_method_18_code
def yX12_cutNow : MethodName := ⟨RX12, "cutNow", "()I"⟩
abbrev cX12_moves : ByteArray := prog_14_method_19_code
def yX12_moves : MethodName := ⟨RX12, "moves", "(III)V"⟩
abbrev cX12_remembers : ByteArray := prog_14_method_20_code
def yX12_remembers : MethodName := ⟨RX12, "remembers", "(I)V"⟩
abbrev cX12_night1 : ByteArray := prog_14_method_21_code
def yX12_night1 : MethodName := ⟨RX12, "night1", "()I"⟩
abbrev cX12_holds : ByteArray := prog_14_method_22_code
def yX12_holds : MethodName := ⟨RX12, "holds", "()V"⟩
abbrev cX12_goes : ByteArray := prog_14_method_23_code
def yX12_goes : MethodName := ⟨RX12, "goes", "(I)V"⟩
abbrev cX12_illNow : ByteArray := prog_14_method_24_code
def yX12_illNow : MethodName := ⟨RX12, "illNow", "()I"⟩
abbrev cX12_ones : ByteArray := prog_14_method_25_code
def yX12_ones : MethodName := ⟨RX12, "ones", "(I)I"⟩
abbrev cX12_byteAt : ByteArray := prog_14_method_26_code
def yX12_byteAt : MethodName := ⟨RX12, "byteAt", "(I)I"⟩
abbrev cX12_isNameOf : ByteArray := prog_14_method_27_code
def yX12_isNameOf : MethodName := ⟨RX12, "isNameOf", "(I)Z"⟩
abbrev cX12_readsName : ByteArray := prog_14_method_28_code
def yX12_readsName : MethodName := ⟨RX12, "readsName", "()V"⟩
abbrev cX12_readsNumber : ByteArray := prog_14_method_29_code
def yX12_readsNumber : MethodName := ⟨RX12, "readsNumber", "()V"⟩
abbrev cX12_next : ByteArray := prog_14_method_30_code
def yX12_next : MethodName := ⟨RX12, "next", "()V"⟩
abbrev cX12_takes : ByteArray := prog_14_method_31_code
def yX12_takes : MethodName := ⟨RX12, "takes", "(I)Z"⟩
abbrev cX12_takesNumber : ByteArray := prog_14_method_32_code
def yX12_takesNumber : MethodName := ⟨RX12, "takesNumber", "(I)I"⟩
abbrev cX12_readsPlayer : ByteArray := prog_14_method_33_code
def yX12_readsPlayer : MethodName := ⟨RX12, "readsPlayer", "(I)Z"⟩
abbrev cX12_readsWeight : ByteArray := prog_14_method_34_code
def yX12_readsWeight : MethodName := ⟨RX12, "readsWeight", "()Z"⟩
abbrev cX12_readsLaw : ByteArray := prog_14_method_35_code
def yX12_readsLaw : MethodName := ⟨RX12, "readsLaw", "(I)Z"⟩
abbrev cX12_readsOne : ByteArray := prog_14_method_36_code
def yX12_readsOne : MethodName := ⟨RX12, "readsOne", "()Z"⟩
abbrev cX12_feed : ByteArray := prog_14_method_37_code
def yX12_feed : MethodName := ⟨RX12, "feed", "(JI)I"⟩
abbrev cX12_company : ByteArray := prog_14_method_38_code
def yX12_company : MethodName := ⟨RX12, "company", "()I"⟩
abbrev cX12_isLaw : ByteArray := prog_14_method_39_code
def yX12_isLaw : MethodName := ⟨RX12, "isLaw", "(I)Z"⟩
abbrev cX12_set : ByteArray := prog_14_method_40_code
def yX12_set : MethodName := ⟨RX12, "set", "(II)I"⟩
abbrev cX12_lawOf : ByteArray := prog_14_method_41_code
def yX12_lawOf : MethodName := ⟨RX12, "lawOf", "(I)I"⟩
abbrev cX12_weigh : ByteArray := prog_14_method_42_code
def yX12_weigh : MethodName := ⟨RX12, "weigh", "(II)I"⟩
abbrev cX12_ownersOf : ByteArray := prog_14_method_43_code
def yX12_ownersOf : MethodName := ⟨RX12, "ownersOf", "(I)I"⟩
abbrev cX12_partOf : ByteArray := prog_14_method_44_code
def yX12_partOf : MethodName := ⟨RX12, "partOf", "(II)I"⟩
abbrev cX12_player : ByteArray := prog_14_method_45_code
def yX12_player : MethodName := ⟨RX12, "player", "(II)I"⟩
abbrev cX12_of : ByteArray := prog_14_method_46_code
def yX12_of : MethodName := ⟨RX12, "of", "(II)I"⟩
abbrev cX12_knows : ByteArray := prog_14_method_47_code
def yX12_knows : MethodName := ⟨RX12, "knows", "(II)I"⟩
abbrev cX12_does : ByteArray := prog_14_method_48_code
def yX12_does : MethodName := ⟨RX12, "does", "(III)I"⟩
abbrev cX12_mind : ByteArray := prog_14_method_49_code
def yX12_mind : MethodName := ⟨RX12, "mind", "(II)I"⟩
abbrev cX12_teach : ByteArray := prog_14_method_50_code
def yX12_teach : MethodName := ⟨RX12, "teach", "(III)I"⟩
abbrev cX12_sick : ByteArray := prog_14_method_51_code
def yX12_sick : MethodName := ⟨RX12, "sick", "(II)I"⟩
abbrev cX12_nights : ByteArray := prog_14_method_52_code
def yX12_nights : MethodName := ⟨RX12, "nights", "(I)I"⟩
abbrev cX12_seed : ByteArray := prog_14_method_53_code
def yX12_seed : MethodName := ⟨RX12, "seed", "(I)I"⟩
abbrev cX12_draw : ByteArray := prog_14_method_54_code
def yX12_draw : MethodName := ⟨RX12, "draw", "()I"⟩
abbrev cX12_byDraws : ByteArray := prog_14_method_55_code
def yX12_byDraws : MethodName := ⟨RX12, "byDraws", "()I"⟩
abbrev cX12_night : ByteArray := prog_14_method_56_code
def yX12_night : MethodName := ⟨RX12, "night", "()I"⟩
abbrev cX12_spoilt : ByteArray := prog_14_method_57_code
def yX12_spoilt : MethodName := ⟨RX12, "spoilt", "(I)I"⟩
abbrev cX12_movedNow : ByteArray := prog_14_method_58_code
def yX12_movedNow : MethodName := ⟨RX12, "movedNow", "()I"⟩
abbrev cX12_state : ByteArray := prog_14_method_59_code
def yX12_state : MethodName := ⟨RX12, "state", "(I)I"⟩
abbrev cX12_thenAt : ByteArray := prog_14_method_60_code
def yX12_thenAt : MethodName := ⟨RX12, "thenAt", "(II)I"⟩
abbrev cX12_knew : ByteArray := prog_14_method_61_code
def yX12_knew : MethodName := ⟨RX12, "knew", "(III)I"⟩
abbrev cX12_earned : ByteArray := prog_14_method_62_code
def yX12_earned : MethodName := ⟨RX12, "earned", "(I)I"⟩
abbrev cX12_firstWith : ByteArray := prog_14_method_63_code
def yX12_firstWith : MethodName := ⟨RX12, "firstWith", "(II)I"⟩
abbrev cX12_plays : ByteArray := prog_14_method_64_code
def yX12_plays : MethodName := ⟨RX12, "plays", "(II)I"⟩
abbrev cX12_house : ByteArray := prog_14_method_65_code
def yX12_house : MethodName := ⟨RX12, "house", "()I"⟩
abbrev cX12_worst : ByteArray := prog_14_method_66_code
def yX12_worst : MethodName := ⟨RX12, "worst", "()I"⟩
abbrev cX12_isSoon : ByteArray := prog_14_method_67_code
def yX12_isSoon : MethodName := ⟨RX12, "isSoon", "(I)Z"⟩
abbrev cX12_takenBy : ByteArray := prog_14_method_68_code
def yX12_takenBy : MethodName := ⟨RX12, "takenBy", "(I)I"⟩
abbrev cX12_kindFor : ByteArray := prog_14_method_69_code
def yX12_kindFor : MethodName := ⟨RX12, "kindFor", "(II)I"⟩
abbrev cX12_enoughFor : ByteArray := prog_14_method_70_code
def yX12_enoughFor : MethodName := ⟨RX12, "enoughFor", "(II)I"⟩
abbrev cX12_learnerFor : ByteArray := prog_14_method_71_code
def yX12_learnerFor : MethodName := ⟨RX12, "learnerFor", "(II)I"⟩
abbrev cX12_showOf : ByteArray := prog_14_method_72_code
def yX12_showOf : MethodName := ⟨RX12, "showOf", "(I)I"⟩
abbrev cX12_fewestFor : ByteArray := prog_14_method_73_code
def yX12_fewestFor : MethodName := ⟨RX12, "fewestFor", "(I)I"⟩
abbrev cX12_fitsWith : ByteArray := prog_14_method_74_code
def yX12_fitsWith : MethodName := ⟨RX12, "fitsWith", "(III)Z"⟩
abbrev cX12_fits : ByteArray := prog_14_method_75_code
def yX12_fits : MethodName := ⟨RX12, "fits", "(III)I"⟩
abbrev cX12_partOf_ : ByteArray := prog_14_method_76_code
def yX12_partOf_ : MethodName := ⟨RX12, "partOf", "(JJI)J"⟩
abbrev cX12_odds : ByteArray := prog_14_method_77_code
def yX12_odds : MethodName := ⟨RX12, "odds", "(III)J"⟩
abbrev cX12_hope : ByteArray := prog_14_method_78_code
def yX12_hope : MethodName := ⟨RX12, "hope", "(II)J"⟩
abbrev cX12_rowBy : ByteArray := prog_14_method_79_code
def yX12_rowBy : MethodName := ⟨RX12, "rowBy", "(I)V"⟩
abbrev cX12_prove : ByteArray := prog_14_method_80_code
def yX12_prove : MethodName := ⟨RX12, "prove", "(II)I"⟩
abbrev cX12_isRow : ByteArray := prog_14_method_81_code
def yX12_isRow : MethodName := ⟨RX12, "isRow", "(II)Z"⟩
abbrev cX12_row : ByteArray := prog_14_method_82_code
def yX12_row : MethodName := ⟨RX12, "row", "(II)I"⟩
abbrev cX12_alterRow : ByteArray := prog_14_method_83_code
def yX12_alterRow : MethodName := ⟨RX12, "alterRow", "(III)I"⟩
abbrev cX12_judge : ByteArray := prog_14_method_84_code
def yX12_judge : MethodName := ⟨RX12, "judge", "(I)I"⟩
abbrev cX12_isSheet : ByteArray := prog_14_method_85_code
def yX12_isSheet : MethodName := ⟨RX12, "isSheet", "(I)Z"⟩
abbrev cX12_minds : ByteArray := prog_14_method_86_code
def yX12_minds : MethodName := ⟨RX12, "minds", "(IIII)I"⟩
abbrev cX12_sheet : ByteArray := prog_14_method_87_code
def yX12_sheet : MethodName := ⟨RX12, "sheet", "(III)I"⟩
abbrev cX12_put : ByteArray := prog_14_method_88_code
def yX12_put : MethodName := ⟨RX12, "put", "(III)I"⟩
abbrev cX12_item : ByteArray := prog_14_method_89_code
def yX12_item : MethodName := ⟨RX12, "item", "(III)I"⟩
abbrev cX12_shelf : ByteArray := prog_14_method_90_code
def yX12_shelf : MethodName := ⟨RX12, "shelf", "(III)I"⟩
abbrev cX12_heldOn : ByteArray := prog_14_method_91_code
def yX12_heldOn : MethodName := ⟨RX12, "heldOn", "(I)I"⟩
abbrev cX12_isUnder : ByteArray := prog_14_method_92_code
def yX12_isUnder : MethodName := ⟨RX12, "isUnder", "(II)Z"⟩
abbrev cX12_taken : ByteArray := prog_14_method_93_code
def yX12_taken : MethodName := ⟨RX12, "taken", "(II)I"⟩
abbrev cX12_starts : ByteArray := prog_14_method_94_code
def yX12_starts : MethodName := ⟨RX12, "starts", "(I)V"⟩
abbrev cX12_bowsAs : ByteArray := prog_14_method_95_code
def yX12_bowsAs : MethodName := ⟨RX12, "bowsAs", "(II)I"⟩
abbrev cX12_singsAs : ByteArray := prog_14_method_96_code
def yX12_singsAs : MethodName := ⟨RX12, "singsAs", "(II)I"⟩
abbrev cX12_partsAs : ByteArray := prog_14_method_97_code
def yX12_partsAs : MethodName := ⟨RX12, "partsAs", "(II)I"⟩
abbrev cX12_movesAs : ByteArray := prog_14_method_98_code
def yX12_movesAs : MethodName := ⟨RX12, "movesAs", "(II)I"⟩
abbrev cX12_act : ByteArray := prog_14_method_99_code
def yX12_act : MethodName := ⟨RX12, "act", "(III)I"⟩
abbrev cX12_trace : ByteArray := prog_14_method_100_code
def yX12_trace : MethodName := ⟨RX12, "trace", "(I)I"⟩
abbrev cX12_many : ByteArray := prog_14_method_101_code
def yX12_many : MethodName := ⟨RX12, "many", "(I)I"⟩
abbrev cX12_keep : ByteArray := prog_14_method_102_code
def yX12_keep : MethodName := ⟨RX12, "keep", "()I"⟩
abbrev cX12_again : ByteArray := prog_14_method_103_code
def yX12_again : MethodName := ⟨RX12, "again", "()I"⟩
def RJ6 : String := "java/lang/Integer"
def TJ6 : u_T := fun k => match k with
  | _ => ("", "", "", false)
def tyJ6 : Nat → FieldType := fun k => match k with
  | _ => .int
abbrev wsJ60 : List Cond := u_ws RJ6 TJ6 0
theorem nmJ6 : ∀ a, a < 0 → ∀ b, b < 0 → a ≠ b → (TJ6 a).2.1 ≠ (TJ6 b).2.1 := by decide +kernel
theorem tyJ6_ok : ∀ k, k < 0 → parseFieldDescriptor (TJ6 k).2.2.1 = some (tyJ6 k) := by decide +kernel
abbrev cJ6_bitCount_0f7a4 : ByteArray := prog_15_method_49_code
def yJ6_bitCount_0f7a4 : MethodName := ⟨RJ6, "bitCount", "(I)I"⟩
def RJ9 : String := "java/lang/Math"
def TJ9 : u_T := fun k => match k with
  | _ => ("", "", "", false)
def tyJ9 : Nat → FieldType := fun k => match k with
  | _ => .int
abbrev wsJ90 : List Cond := u_ws RJ9 TJ9 0
theorem nmJ9 : ∀ a, a < 0 → ∀ b, b < 0 → a ≠ b → (TJ9 a).2.1 ≠ (TJ9 b).2.1 := by decide +kernel
theorem tyJ9_ok : ∀ k, k < 0 → parseFieldDescriptor (TJ9 k).2.2.1 = some (tyJ9 k) := by decide +kernel
abbrev cJ9_max_7cf53 : ByteArray := prog_16_method_65_code
def yJ9_max_7cf53 : MethodName := ⟨RJ9, "max", "(II)I"⟩
abbrev cJ9_min_7cf53 : ByteArray := prog_16_method_69_code
def yJ9_min_7cf53 : MethodName := ⟨RJ9, "min", "(II)I"⟩
def RJ0 : String := "java/lang/String"
def TJ0 : u_T := fun k => match k with
  | _ => ("", "", "", false)
def tyJ0 : Nat → FieldType := fun k => match k with
  | _ => .int
abbrev wsJ00 : List Cond := u_ws RJ0 TJ0 0
theorem nmJ0 : ∀ a, a < 0 → ∀ b, b < 0 → a ≠ b → (TJ0 a).2.1 ≠ (TJ0 b).2.1 := by decide +kernel
theorem tyJ0_ok : ∀ k, k < 0 → parseFieldDescriptor (TJ0 k).2.2.1 = some (tyJ0 k) := by decide +kernel
abbrev cJ0_length_8abf5 : ByteArray := prog_17_method_54_code
def yJ0_length_8abf5 : MethodName := ⟨RJ0, "length", "()I"⟩
abbrev cJ0_charAt_5068e : ByteArray := prog_17_method_56_code
def yJ0_charAt_5068e : MethodName := ⟨RJ0, "charAt", "(I)C"⟩
abbrev cJ0_coder_7d493 : ByteArray := prog_17_method_152_code
def yJ0_coder_7d493 : MethodName := ⟨RJ0, "coder", "()B"⟩
abbrev cJ0_isLatin1_aae02 : ByteArray := prog_17_method_154_code
def yJ0_isLatin1_aae02 : MethodName := ⟨RJ0, "isLatin1", "()Z"⟩
abbrev cJ0_checkIndex_df160 : ByteArray := prog_17_method_155_code
def yJ0_checkIndex_df160 : MethodName := ⟨RJ0, "checkIndex", "(II)V"⟩
def RJ1 : String := "java/lang/StringLatin1"
def TJ1 : u_T := fun k => match k with
  | _ => ("", "", "", false)
def tyJ1 : Nat → FieldType := fun k => match k with
  | _ => .int
abbrev wsJ10 : List Cond := u_ws RJ1 TJ1 0
theorem nmJ1 : ∀ a, a < 0 → ∀ b, b < 0 → a ≠ b → (TJ1 a).2.1 ≠ (TJ1 b).2.1 := by decide +kernel
theorem tyJ1_ok : ∀ k, k < 0 → parseFieldDescriptor (TJ1 k).2.2.1 = some (tyJ1 k) := by decide +kernel
abbrev cJ1_charAt_3b067 : ByteArray := prog_18_method_2_code
def yJ1_charAt_3b067 : MethodName := ⟨RJ1, "charAt", "([BI)C"⟩
def RJ2 : String := "java/lang/StringUTF16"
def TJ2 : u_T := fun k => match k with
  | _ => ("", "", "", false)
def tyJ2 : Nat → FieldType := fun k => match k with
  | _ => .int
abbrev wsJ20 : List Cond := u_ws RJ2 TJ2 0
theorem nmJ2 : ∀ a, a < 0 → ∀ b, b < 0 → a ≠ b → (TJ2 a).2.1 ≠ (TJ2 b).2.1 := by decide +kernel
theorem tyJ2_ok : ∀ k, k < 0 → parseFieldDescriptor (TJ2 k).2.2.1 = some (tyJ2 k) := by decide +kernel
abbrev cJ2_getChar_3b067 : ByteArray := prog_19_method_5_code
def yJ2_getChar_3b067 : MethodName := ⟨RJ2, "getChar", "([BI)C"⟩
abbrev cJ2_length_9d52b : ByteArray := prog_19_method_6_code
def yJ2_length_9d52b : MethodName := ⟨RJ2, "length", "([B)I"⟩
abbrev cJ2_charAt_3b067 : ByteArray := prog_19_method_83_code
def yJ2_charAt_3b067 : MethodName := ⟨RJ2, "charAt", "([BI)C"⟩
abbrev cJ2_checkIndex_2214a : ByteArray := prog_19_method_91_code
def yJ2_checkIndex_2214a : MethodName := ⟨RJ2, "checkIndex", "(I[B)V"⟩
def RJ10 : String := "java/lang/System"
def TJ10 : u_T := fun k => match k with
  | _ => ("", "", "", false)
def tyJ10 : Nat → FieldType := fun k => match k with
  | _ => .int
abbrev wsJ100 : List Cond := u_ws RJ10 TJ10 0
theorem nmJ10 : ∀ a, a < 0 → ∀ b, b < 0 → a ≠ b → (TJ10 a).2.1 ≠ (TJ10 b).2.1 := by decide +kernel
theorem tyJ10_ok : ∀ k, k < 0 → parseFieldDescriptor (TJ10 k).2.2.1 = some (tyJ10 k) := by decide +kernel
def RJ3 : String := "jdk/internal/util/Preconditions"
def TJ3 : u_T := fun k => match k with
  | _ => ("", "", "", false)
def tyJ3 : Nat → FieldType := fun k => match k with
  | _ => .int
abbrev wsJ30 : List Cond := u_ws RJ3 TJ3 0
theorem nmJ3 : ∀ a, a < 0 → ∀ b, b < 0 → a ≠ b → (TJ3 a).2.1 ≠ (TJ3 b).2.1 := by decide +kernel
theorem tyJ3_ok : ∀ k, k < 0 → parseFieldDescriptor (TJ3 k).2.2.1 = some (tyJ3 k) := by decide +kernel
abbrev cJ3_checkIndex_8e157 : ByteArray := prog_21_method_11_code
def yJ3_checkIndex_8e157 : MethodName := ⟨RJ3, "checkIndex", "(IILjava/util/function/BiFunction;)I"⟩
def RL : String := "TonightCoversLaw"
abbrev cL_law : ByteArray := code
def yL_law : MethodName := ⟨RL, "law", "([I)Z"⟩
abbrev vwCl : List vw_C := [(RX0, TX0, 12), (RX1, TX1, 3), (RX2, TX2, 3), (RX3, TX3, 3), (RX4, TX4, 3), (RX5, TX5, 3), (RX6, TX6, 3), (RX7, TX7, 3), (RX8, TX8, 4), (RX9, TX9, 3), (RX10, TX10, 2), (RX11, TX11, 15), (RX12, TX12, 27)]
end
section
/-! ===== the pure layer: good words ===== -/
theorem tb_m1 {w : Cond} (h : w ∈ tables_1_1) : w ∈ lw_tbl := List.mem_append_right _ (List.mem_append_left _ h)
theorem tb_m2 {w : Cond} (h : w ∈ tables_1_2) : w ∈ lw_tbl := List.mem_append_right _ (List.mem_append_right _ (List.mem_append_left _ h))
theorem tb_m3 {w : Cond} (h : w ∈ tables_1_3) : w ∈ lw_tbl := List.mem_append_right _ (List.mem_append_right _ (List.mem_append_right _ (List.mem_append_left _ h)))
theorem tb_m4 {w : Cond} (h : w ∈ tables_1_4) : w ∈ lw_tbl := List.mem_append_right _ (List.mem_append_right _ (List.mem_append_right _ (List.mem_append_right _ (List.mem_append_left _ h))))
theorem tb_m5 {w : Cond} (h : w ∈ tables_1_5) : w ∈ lw_tbl := List.mem_append_right _ (List.mem_append_right _ (List.mem_append_right _ (List.mem_append_right _ (List.mem_append_right _ (List.mem_append_left _ h)))))
theorem tb_m6 {w : Cond} (h : w ∈ tables_1_6) : w ∈ lw_tbl := List.mem_append_right _ (List.mem_append_right _ (List.mem_append_right _ (List.mem_append_right _ (List.mem_append_right _ (List.mem_append_right _ (List.mem_append_left _ h))))))
theorem tb_m7 {w : Cond} (h : w ∈ tables_1_7) : w ∈ lw_tbl := List.mem_append_right _ (List.mem_append_right _ (List.mem_append_right _ (List.mem_append_right _ (List.mem_append_right _ (List.mem_append_right _ (List.mem_append_right _ h))))))
theorem tb_ms {w : Cond} (h : w ∈ k2_sels lw_privs) : w ∈ lw_tbl := List.mem_append_left _ h
def gT : List Cond := lw_tbl.filter goodWord
theorem gT_of {w : Cond} (h : w ∈ lw_tbl) (g : goodWord w = true) : w ∈ gT := List.mem_filter.mpr ⟨h, g⟩
theorem gT_good {w : Cond} (h : w ∈ gT) : (w.onTables && w.keeps) = true ∨ ∃ ty, w = .arrayClass ty := good_of_word (List.mem_filter.mp h).2
theorem gT_1 {w : Cond} (i : Nat) (h : tables_1_1[i]? = some w) (g : goodWord w = true) : w ∈ gT := gT_of (tb_m1 (List.mem_of_getElem? h)) g
theorem gT_2 {w : Cond} (i : Nat) (h : tables_1_2[i]? = some w) (g : goodWord w = true) : w ∈ gT := gT_of (tb_m2 (List.mem_of_getElem? h)) g
theorem gT_3 {w : Cond} (i : Nat) (h : tables_1_3[i]? = some w) (g : goodWord w = true) : w ∈ gT := gT_of (tb_m3 (List.mem_of_getElem? h)) g
theorem gT_4 {w : Cond} (i : Nat) (h : tables_1_4[i]? = some w) (g : goodWord w = true) : w ∈ gT := gT_of (tb_m4 (List.mem_of_getElem? h)) g
theorem gT_5 {w : Cond} (i : Nat) (h : tables_1_5[i]? = some w) (g : goodWord w = true) : w ∈ gT := gT_of (tb_m5 (List.mem_of_getElem? h)) g
theorem gT_6 {w : Cond} (i : Nat) (h : tables_1_6[i]? = some w) (g : goodWord w = true) : w ∈ gT := gT_of (tb_m6 (List.mem_of_getElem? h)) g
theorem gT_7 {w : Cond} (i : Nat) (h : tables_1_7[i]? = some w) (g : goodWord w = true) : w ∈ gT := gT_of (tb_m7 (List.mem_of_getElem? h)) g
theorem gT_s {w : Cond} (i : Nat) (h : (k2_sels lw_privs)[i]? = some w) (g : goodWord w = true) : w ∈ gT := gT_of (tb_ms (List.mem_of_getElem? h)) g
/-- a method: name, code, locals, what it returns -/
abbrev pM : Type := MethodName × ByteArray × Nat × Option FieldType
def wsM (M : pM) : List Cond := Cond.code M.1 M.2.1 M.2.2.1 M.2.2.2 :: gT
theorem wsM_t {M : pM} {w : Cond} (h : w ∈ gT) : w ∈ wsM M := List.mem_cons_of_mem _ h
theorem good_wsM {M M2 : pM} (h : Cond.code M2.1 M2.2.1 M2.2.2.1 M2.2.2.2 ∈ gT) : GoodIn (wsM M) (wsM M2) := by
  intro w hw
  rcases List.mem_cons.mp hw with rfl | hw
  · exact ⟨wsM_t h, gT_good h⟩
  · exact ⟨wsM_t hw, gT_good hw⟩
theorem good_app {M M2 : pM} {ws : List Cond} (h : Cond.code M2.1 M2.2.1 M2.2.2.1 M2.2.2.2 ∈ gT) (hw : ∀ w ∈ ws, w ∈ gT) : GoodIn (wsM M) (ws ++ wsM M2) := by
  intro w h1
  rcases List.mem_append.mp h1 with h1 | h1
  · exact ⟨wsM_t (hw w h1), gT_good (hw w h1)⟩
  · exact good_wsM h w h1
/-! ===== classes, by number ===== -/
def clC (ci : Nat) : String := match vwCl[ci]? with
  | some q => q.1
  | none => ""
def clT (ci : Nat) : u_T := match vwCl[ci]? with
  | some q => q.2.1
  | none => TX0
def clN (ci : Nat) : Nat := match vwCl[ci]? with
  | some q => q.2.2
  | none => 0
def clTy (ci : Nat) : Nat → FieldType := match ci with
  | 0 => tyX0
  | 1 => tyX1
  | 2 => tyX2
  | 3 => tyX3
  | 4 => tyX4
  | 5 => tyX5
  | 6 => tyX6
  | 7 => tyX7
  | 8 => tyX8
  | 9 => tyX9
  | 10 => tyX10
  | 11 => tyX11
  | _ => tyX12
def isRf (ty : FieldType) : Bool := match ty with
  | .object _ => true
  | .array _ => true
  | _ => false
theorem cl_some {ci : Nat} (h : ci < 13) : vwCl[ci]? = some (clC ci, clT ci, clN ci) := by
  rcases (by omega : ci = 0 ∨ ci = 1 ∨ ci = 2 ∨ ci = 3 ∨ ci = 4 ∨ ci = 5 ∨ ci = 6 ∨ ci = 7 ∨ ci = 8 ∨ ci = 9 ∨ ci = 10 ∨ ci = 11 ∨ ci = 12) with rfl | rfl | rfl | rfl | rfl | rfl | rfl | rfl | rfl | rfl | rfl | rfl | rfl <;> rfl
theorem cl_ty {ci : Nat} (h : ci < 13) : ∀ k, k < clN ci → parseFieldDescriptor ((clT ci) k).2.2.1 = some (clTy ci k) := by
  rcases (by omega : ci = 0 ∨ ci = 1 ∨ ci = 2 ∨ ci = 3 ∨ ci = 4 ∨ ci = 5 ∨ ci = 6 ∨ ci = 7 ∨ ci = 8 ∨ ci = 9 ∨ ci = 10 ∨ ci = 11 ∨ ci = 12) with rfl | rfl | rfl | rfl | rfl | rfl | rfl | rfl | rfl | rfl | rfl | rfl | rfl
  · exact tyX0_ok
  · exact tyX1_ok
  · exact tyX2_ok
  · exact tyX3_ok
  · exact tyX4_ok
  · exact tyX5_ok
  · exact tyX6_ok
  · exact tyX7_ok
  · exact tyX8_ok
  · exact tyX9_ok
  · exact tyX10_ok
  · exact tyX11_ok
  · exact tyX12_ok
theorem cl_nm {ci : Nat} (h : ci < 13) : ∀ a, a < clN ci → ∀ b, b < clN ci → a ≠ b → ((clT ci) a).2.1 ≠ ((clT ci) b).2.1 := by
  rcases (by omega : ci = 0 ∨ ci = 1 ∨ ci = 2 ∨ ci = 3 ∨ ci = 4 ∨ ci = 5 ∨ ci = 6 ∨ ci = 7 ∨ ci = 8 ∨ ci = 9 ∨ ci = 10 ∨ ci = 11 ∨ ci = 12) with rfl | rfl | rfl | rfl | rfl | rfl | rfl | rfl | rfl | rfl | rfl | rfl | rfl
  · exact nmX0
  · exact nmX1
  · exact nmX2
  · exact nmX3
  · exact nmX4
  · exact nmX5
  · exact nmX6
  · exact nmX7
  · exact nmX8
  · exact nmX9
  · exact nmX10
  · exact nmX11
  · exact nmX12
end
section
/-! ===== pure states ===== -/
/-- how many cells; what each is: an array (its type's number, its length) or an object of a class; its references; its numbers -/
abbrev pS : Type := Nat × (Nat → (Nat × Nat) ⊕ Nat) × (Nat → Nat → Option Nat) × (Nat → Nat → Int32)
/-- launch, layout, array classes, addresses -/
abbrev pG : Type := Launch × va_G × (Nat → ClassId) × (Nat → Nat)
abbrev gad (g : pG) : Nat → Nat := g.2.2.2
def vr (ad : Nat → Nat) : Value → Value
  | .ref i => .ref (ad i)
  | v => v
theorem vr_cat (ad : Nat → Nat) (v : Value) : (vr ad v).category = v.category := by cases v <;> rfl
theorem vr_int {ad : Nat → Nat} {x : Int32} : vr ad (.int x) = .int x := rfl
def mSet (S : pS) (i k : Nat) (v : Int32) : pS := (S.1, S.2.1, S.2.2.1, fun j => if j = i then upd (S.2.2.2 j) k v else S.2.2.2 j)
def mArr (S : pS) (i : Nat) (f : Nat → Int32) : pS := (S.1, S.2.1, S.2.2.1, fun j => if j = i then f else S.2.2.2 j)
def rSet (S : pS) (i k : Nat) (v : Option Nat) : pS := (S.1, S.2.1, (fun j => if j = i then va_up (S.2.2.1 j) k v else S.2.2.1 j), S.2.2.2)
def mNew (S : pS) (e : (Nat × Nat) ⊕ Nat) : pS := (S.1 + 1, (fun j => if j = S.1 then e else S.2.1 j), (fun j => if j = S.1 then (fun _ => none) else S.2.2.1 j), (fun j => if j = S.1 then (fun _ => 0) else S.2.2.2 j))
def fdOf (ad : Nat → Nat) (S : pS) (i ci k : Nat) : Value := if isRf (clTy ci k) = true then va_rf ((S.2.2.1 i k).map ad) else .int (S.2.2.2 i k)
def fsOf (ad : Nat → Nat) (S : pS) (i ci : Nat) : List Value := (List.range (clN ci)).map (fdOf ad S i ci)
def cellOf (cA : Nat → ClassId) (ad : Nat → Nat) (S : pS) (i : Nat) : va_E := match S.2.1 i with
  | .inl q => if q.1 < 3 then .inl (cA q.1, q.2, .inl (S.2.2.2 i)) else .inl (cA q.1, q.2, .inr (.inr (.inr (.inr (fun j => (S.2.2.1 i j).map ad)))))
  | .inr ci => .inr (ci, fsOf ad S i ci)
def wsOf (cA : Nat → ClassId) (ad : Nat → Nat) (S : pS) : va_W := (List.range S.1).map (fun i => (ad i, cellOf cA ad S i))
def tysOf (cA : Nat → ClassId) : List (ClassId × FieldType) := [(cA 0, .int), (cA 1, .byte), (cA 2, .char), (cA 3, .object "TonightCovers$Player"), (cA 4, .object "TonightCovers$Sheet")]
def adOk (ad : Nat → Nat) : Prop := ∀ i, i < 1000 → ad i = ad 0 + i
/-- where our cells are -/
def pA (g : pG) : Nat → Prop := fun q => gad g 0 ≤ q
/-- the world -/
def Wd (g : pG) (S : pS) (U : State) (H : Heap) : Prop := adOk (gad g) ∧ S.1 ≤ 900 ∧ va_P g.2.1 vwCl (wsOf g.2.2.1 (gad g) S) H ∧ va_K g.2.1 vwCl (tysOf g.2.2.1) U
theorem wsOf_get {cA : Nat → ClassId} {ad : Nat → Nat} {S : pS} {i : Nat} (h : i < S.1) : (wsOf cA ad S)[i]? = some (ad i, cellOf cA ad S i) := by
  unfold wsOf
  rw [List.getElem?_map, List.getElem?_range h]
  rfl
theorem wsOf_len {cA : Nat → ClassId} {ad : Nat → Nat} {S : pS} : (wsOf cA ad S).length = S.1 := by simp [wsOf]
theorem wsOf_set {cA : Nat → ClassId} {ad : Nat → Nat} {S S' : pS} {i : Nat} {e : va_E} (hn : S'.1 = S.1) (he : cellOf cA ad S' i = e) (ho : ∀ j, j ≠ i → cellOf cA ad S' j = cellOf cA ad S j) : (wsOf cA ad S).set i (ad i, e) = wsOf cA ad S' := by
  apply List.ext_getElem?
  intro j
  by_cases hj : j < S.1
  · rw [wsOf_get (S := S') (by omega)]
    by_cases hji : j = i
    · subst hji
      rw [List.getElem?_set_self (by rw [wsOf_len]; exact hj), he]
    · rw [List.getElem?_set_ne (Ne.symm hji), wsOf_get hj, ho j hji]
  · rw [List.getElem?_eq_none (by rw [List.length_set, wsOf_len]; omega), List.getElem?_eq_none (by rw [wsOf_len]; omega)]
theorem wsOf_push {cA : Nat → ClassId} {ad : Nat → Nat} {S S' : pS} {e : va_E} (hn : S'.1 = S.1 + 1) (he : cellOf cA ad S' S.1 = e) (ho : ∀ j, j < S.1 → cellOf cA ad S' j = cellOf cA ad S j) : wsOf cA ad S ++ [(ad S.1, e)] = wsOf cA ad S' := by
  apply List.ext_getElem?
  intro j
  by_cases hj : j < S.1
  · rw [List.getElem?_append_left (by rw [wsOf_len]; exact hj), wsOf_get hj, wsOf_get (by omega), ho j hj]
  · rw [List.getElem?_append_right (by rw [wsOf_len]; omega), wsOf_len]
    by_cases hz : j = S.1
    · subst hz
      rw [Nat.sub_self, wsOf_get (by omega), he]
      rfl
    · rw [List.getElem?_eq_none (by simp; omega), List.getElem?_eq_none (by rw [wsOf_len]; omega)]
theorem ad_inj {ad : Nat → Nat} (h : adOk ad) {i j : Nat} (hi : i < 1000) (hj : j < 1000) (e : ad i = ad j) : i = j := by
  rw [h i hi, h j hj] at e
  omega
theorem wsOf_D {g : pG} {S : pS} (h : adOk (gad g)) (hn : S.1 ≤ 900) : va_D (pA g) (wsOf g.2.2.1 (gad g) S) := by
  refine ⟨fun i j p q hi hj e => ?_, fun k q hk => ?_⟩
  · have li := (List.getElem?_eq_some_iff.mp hi).1
    have lj := (List.getElem?_eq_some_iff.mp hj).1
    rw [wsOf_len] at li lj
    rw [wsOf_get li] at hi
    rw [wsOf_get lj] at hj
    cases hi
    cases hj
    exact ad_inj h (by omega) (by omega) e
  · have lk := (List.getElem?_eq_some_iff.mp hk).1
    rw [wsOf_len] at lk
    rw [wsOf_get lk] at hk
    cases hk
    show gad g 0 ≤ gad g k
    rw [h k (by omega)]
    omega
theorem cellOf_a {cA : Nat → ClassId} {ad : Nat → Nat} {S : pS} {i t n : Nat} (h : S.2.1 i = .inl (t, n)) (ht : t < 3) : cellOf cA ad S i = .inl (cA t, n, .inl (S.2.2.2 i)) := by
  unfold cellOf
  rw [h]
  exact if_pos ht
theorem cellOf_q {cA : Nat → ClassId} {ad : Nat → Nat} {S : pS} {i t n : Nat} (h : S.2.1 i = .inl (t, n)) (ht : ¬ t < 3) : cellOf cA ad S i = .inl (cA t, n, .inr (.inr (.inr (.inr (fun j => (S.2.2.1 i j).map ad))))) := by
  unfold cellOf
  rw [h]
  exact if_neg ht
theorem cellOf_o {cA : Nat → ClassId} {ad : Nat → Nat} {S : pS} {i ci : Nat} (h : S.2.1 i = .inr ci) : cellOf cA ad S i = .inr (ci, fsOf ad S i ci) := by
  unfold cellOf
  rw [h]
theorem cellOf_cong {cA : Nat → ClassId} {ad : Nat → Nat} {S S' : pS} {i : Nat} (h1 : S'.2.1 i = S.2.1 i) (h2 : S'.2.2.1 i = S.2.2.1 i) (h3 : S'.2.2.2 i = S.2.2.2 i) : cellOf cA ad S' i = cellOf cA ad S i := by
  unfold cellOf
  rw [h1]
  cases S.2.1 i with
  | inl q => simp only [h2, h3]
  | inr ci =>
    simp only [fsOf]
    congr 3
    funext k
    unfold fdOf
    rw [h2, h3]
theorem fsOf_get {ad : Nat → Nat} {S : pS} {i ci k : Nat} (h : k < clN ci) : (fsOf ad S i ci)[k]? = some (fdOf ad S i ci k) := by
  unfold fsOf
  rw [List.getElem?_map, List.getElem?_range h]
  rfl
theorem fsOf_len {ad : Nat → Nat} {S : pS} {i ci : Nat} : (fsOf ad S i ci).length = clN ci := by simp [fsOf]
theorem fsOf_set {ad : Nat → Nat} {S S' : pS} {i ci k : Nat} {v : Value} (hv : fdOf ad S' i ci k = v) (ho : ∀ j, j ≠ k → fdOf ad S' i ci j = fdOf ad S i ci j) : (fsOf ad S i ci).set k v = fsOf ad S' i ci := by
  apply List.ext_getElem?
  intro j
  by_cases hj : j < clN ci
  · rw [fsOf_get (S := S') hj]
    by_cases hjk : j = k
    · subst hjk
      rw [List.getElem?_set_self (by rw [fsOf_len]; exact hj), hv]
    · rw [List.getElem?_set_ne (Ne.symm hjk), fsOf_get hj, ho j hjk]
  · rw [List.getElem?_eq_none (by rw [List.length_set, fsOf_len]; omega), List.getElem?_eq_none (by rw [fsOf_len]; omega)]
theorem Wd.moved {g : pG} {S : pS} {u U : State} {H : Heap} (hvm : u.vm.Alike U.vm) (h : Wd g S u H) : Wd g S U H := ⟨h.1, h.2.1, h.2.2.1, h.2.2.2.moved hvm⟩
theorem Wd.D {g : pG} {S : pS} {U : State} {H : Heap} (h : Wd g S U H) : va_D (pA g) (wsOf g.2.2.1 (gad g) S) := wsOf_D h.1 h.2.1
theorem Wd.P {g : pG} {S : pS} {U : State} {H : Heap} (h : Wd g S U H) : va_P g.2.1 vwCl (wsOf g.2.2.1 (gad g) S) H := h.2.2.1
theorem Wd.K {g : pG} {S : pS} {U : State} {H : Heap} (h : Wd g S U H) : va_K g.2.1 vwCl (tysOf g.2.2.1) U := h.2.2.2
/-! the locals -/
abbrev pL : Type := List (Option Value)
def lvF (ad : Nat → Nat) : Nat → pL → List (Nat × Value)
  | _, [] => []
  | i, none :: t => lvF ad (i + 1) t
  | i, some v :: t => (i, vr ad v) :: lvF ad (i + 1) t
theorem lvF_mem {ad : Nat → Nat} {j : Nat} {w : Value} : ∀ (L : pL) (i : Nat), (j, w) ∈ lvF ad i L ↔ i ≤ j ∧ ∃ v, L[j - i]? = some (some v) ∧ w = vr ad v
  | [], i => by simp [lvF]
  | none :: t, i => by
    rw [lvF, lvF_mem t (i + 1)]
    constructor
    · rintro ⟨h1, v, h2, h3⟩
      refine ⟨by omega, v, ?_, h3⟩
      rw [show j - i = (j - (i + 1)) + 1 by omega, List.getElem?_cons_succ]
      exact h2
    · rintro ⟨h1, v, h2, h3⟩
      by_cases e : j = i
      · subst e
        simp at h2
      · refine ⟨by omega, v, ?_, h3⟩
        rw [show j - i = (j - (i + 1)) + 1 by omega, List.getElem?_cons_succ] at h2
        exact h2
  | some u :: t, i => by
    rw [lvF, List.mem_cons, lvF_mem t (i + 1)]
    constructor
    · rintro (h | ⟨h1, v, h2, h3⟩)
      · cases h
        exact ⟨Nat.le_refl _, u, by simp, rfl⟩
      · refine ⟨by omega, v, ?_, h3⟩
        rw [show j - i = (j - (i + 1)) + 1 by omega, List.getElem?_cons_succ]
        exact h2
    · rintro ⟨h1, v, h2, h3⟩
      by_cases e : j = i
      · subst e
        simp at h2
        left
        rw [h3, h2]
      · right
        refine ⟨by omega, v, ?_, h3⟩
        rw [show j - i = (j - (i + 1)) + 1 by omega, List.getElem?_cons_succ] at h2
        exact h2
def lk (ad : Nat → Nat) (ls : Array Slot) (nL : Nat) (L : pL) : Prop := lv_has ls nL (lvF ad 0 L)
theorem lk_at {ad : Nat → Nat} {ls : Array Slot} {nL : Nat} {L : pL} (h : lk ad ls nL L) {i : Nat} {v : Value} (hi : L[i]? = some (some v)) : ls[i]? = some (.val (vr ad v)) :=
  h.2.2 (i, vr ad v) ((lvF_mem L 0).mpr ⟨Nat.zero_le _, v, hi, rfl⟩)
theorem lk_sub {ad : Nat → Nat} {ls : Array Slot} {nL : Nat} {L L' : pL} (h : lk ad ls nL L) (hs : ∀ (i : Nat) (v : Value), L'[i]? = some (some v) → L[i]? = some (some v)) : lk ad ls nL L' := by
  refine ⟨h.1, h.2.1, fun q hq => ?_⟩
  obtain ⟨i, w⟩ := q
  obtain ⟨-, v, h2, rfl⟩ := (lvF_mem L' 0).mp hq
  exact lk_at h (hs i v h2)
def nLong : Option (Option Value) → Bool
  | some (some v) => v.category == 2
  | _ => false
/-- a slot below i is cleared if a long stands there -/
def clrL (L : pL) : Nat → pL
  | 0 => L
  | j + 1 => if nLong L[j]? = true then L.set j none else L
theorem clrL_s (L : pL) (j : Nat) : clrL L (j + 1) = if nLong L[j]? = true then L.set j none else L := rfl
def stL (L : pL) (i : Nat) (v : Value) : pL := (clrL L i).set i (some v)
def stL2 (L : pL) (i : Nat) (v : Value) : pL := ((clrL L i).set i (some v)).set (i + 1) none
theorem clrL_at {L : pL} {i j : Nat} {v : Value} (h : (clrL L i)[j]? = some (some v)) : L[j]? = some (some v) ∧ ¬ (j + 1 = i ∧ v.category = 2) := by
  cases i with
  | zero => exact ⟨h, by omega⟩
  | succ k =>
    rw [clrL_s] at h
    by_cases c : nLong L[k]? = true
    · rw [if_pos c] at h
      by_cases e : j = k
      · subst e
        exfalso
        by_cases hl : j < L.length
        · rw [List.getElem?_set_self hl] at h
          cases h
        · rw [List.getElem?_eq_none (by rw [List.length_set]; omega)] at h
          cases h
      · rw [List.getElem?_set_ne (Ne.symm e)] at h
        exact ⟨h, by omega⟩
    · rw [if_neg c] at h
      refine ⟨h, fun z => ?_⟩
      have e : j = k := by omega
      subst e
      apply c
      rw [h]
      simp [nLong, z.2]
theorem lk_st {ad : Nat → Nat} {nL : Nat} {L : pL} {i : Nat} {v : Value} {ls' : Array Slot} (h : lv_has ls' nL ((i, vr ad v) :: (lvF ad 0 L).filter (fun q => !(q.1 == i) && !(q.1 + 1 == i && q.2.category == 2)))) : lk ad ls' nL (stL L i v) := by
  refine ⟨h.1, h.2.1, fun q hq => h.2.2 q ?_⟩
  obtain ⟨j, w⟩ := q
  obtain ⟨-, u, h2, rfl⟩ := (lvF_mem _ 0).mp hq
  rw [Nat.sub_zero] at h2
  unfold stL at h2
  by_cases e : j = i
  · subst e
    by_cases hl : j < (clrL L j).length
    · rw [List.getElem?_set_self hl] at h2
      cases h2
      exact List.mem_cons_self
    · rw [List.getElem?_eq_none (by rw [List.length_set]; omega)] at h2
      cases h2
  · rw [List.getElem?_set_ne (Ne.symm e)] at h2
    obtain ⟨h3, h4⟩ := clrL_at h2
    refine List.mem_cons_of_mem _ (List.mem_filter.mpr ⟨(lvF_mem L 0).mpr ⟨Nat.zero_le _, u, h3, rfl⟩, ?_⟩)
    have h5 : ¬ (j + 1 = i ∧ (vr ad u).category = 2) := by rw [vr_cat]; exact h4
    simp only [Bool.and_eq_true, Bool.not_eq_true', beq_eq_false_iff_ne, ne_eq, Bool.and_eq_false_iff]
    refine ⟨e, ?_⟩
    by_cases z : j + 1 = i
    · right
      exact fun y => h5 ⟨z, y⟩
    · left
      exact z
theorem lk_st2 {ad : Nat → Nat} {nL : Nat} {L : pL} {i : Nat} {v : Value} {ls' : Array Slot} (h : lv_has ls' nL ((i, vr ad v) :: (lvF ad 0 L).filter (fun q => !(q.1 == i) && (!(q.1 == i + 1) && !(q.1 + 1 == i && q.2.category == 2))))) : lk ad ls' nL (stL2 L i v) := by
  refine ⟨h.1, h.2.1, fun q hq => h.2.2 q ?_⟩
  obtain ⟨j, w⟩ := q
  obtain ⟨-, u, h2, rfl⟩ := (lvF_mem _ 0).mp hq
  rw [Nat.sub_zero] at h2
  unfold stL2 at h2
  by_cases e1 : j = i + 1
  · subst e1
    exfalso
    by_cases hl : i + 1 < ((clrL L i).set i (some v)).length
    · rw [List.getElem?_set_self hl] at h2
      cases h2
    · rw [List.getElem?_eq_none (by rw [List.length_set]; omega)] at h2
      cases h2
  · rw [List.getElem?_set_ne (Ne.symm e1)] at h2
    by_cases e : j = i
    · subst e
      by_cases hl : j < (clrL L j).length
      · rw [List.getElem?_set_self hl] at h2
        cases h2
        exact List.mem_cons_self
      · rw [List.getElem?_eq_none (by rw [List.length_set]; omega)] at h2
        cases h2
    · rw [List.getElem?_set_ne (Ne.symm e)] at h2
      obtain ⟨h3, h4⟩ := clrL_at h2
      refine List.mem_cons_of_mem _ (List.mem_filter.mpr ⟨(lvF_mem L 0).mpr ⟨Nat.zero_le _, u, h3, rfl⟩, ?_⟩)
      have h5 : ¬ (j + 1 = i ∧ (vr ad u).category = 2) := by rw [vr_cat]; exact h4
      simp only [Bool.and_eq_true, Bool.not_eq_true', beq_eq_false_iff_ne, ne_eq, Bool.and_eq_false_iff]
      refine ⟨e, e1, ?_⟩
      by_cases z : j + 1 = i
      · right
        exact fun y => h5 ⟨z, y⟩
      · left
        exact z
end
section
/-! ===== constants that lie in the heap, and never change ===== -/
def kN : Nat → String
  | 0 => "LAW_AT_FIRST"
  | 1 => "LAW_MOST"
  | _ => "KIND_ABOVE"
def kL : Nat → List Int32
  | 0 => [3, 4, 10, 20]
  | 1 => [9, 9, 99, 99]
  | _ => [-3, 0, 0, 1, 2, 0]
def kF (k : Nat) : Nat → Int32 := fun j => (kL k).getD j 0
def sTx : List String := ["player", "cover", "page", "second", "prompter", "star", "help", "book", "least", "throat", "part", "of", "knows", "ill"]
def sLn : List Nat := [6, 5, 4, 6, 8, 4, 4, 4, 5, 6, 4, 2, 5, 3]
def sBy : List (List Int32) := [[112, 108, 97, 121, 101, 114], [99, 111, 118, 101, 114], [112, 97, 103, 101], [115, 101, 99, 111, 110, 100], [112, 114, 111, 109, 112, 116, 101, 114], [115, 116, 97, 114], [104, 101, 108, 112], [98, 111, 111, 107], [108, 101, 97, 115, 116], [116, 104, 114, 111, 97, 116], [112, 97, 114, 116], [111, 102], [107, 110, 111, 119, 115], [105, 108, 108]]
def kZ : String × String := ("java/lang/String", "COMPACT_STRINGS")
/-- links between nest mates, and casts: words that a state keeps, but no table -/
def xMN : List (String × Nat × MethodName) := [(RX11, 33, yX8_init), (RX11, 47, yX6_init), (RX11, 63, yX9_init), (RX0, 65, yX11_heldTo)]
def xFN : List (String × Nat × String) := [(RX0, 43, "LAW_AT_FIRST"), (RX8, 66, "LAW_MOST")]
def xCS : List String := [RX1, RX2, RX5, RX4, RX7]
/-- static arrays stand for 2000 + k, strings for 1000 + k, their bytes for 1100 + k -/
def KC (g : pG) (U : State) : Prop :=
  (∀ k, k < 3 → va_Z "TonightCovers" (kN k) "[I" (.ref (gad g (2000 + k))) (pA g) U U.heap ∧ va_T .int (gad g (2000 + k)) (kL k).length (fun j => .int (kF k j)) (pA g) U U.heap) ∧
  vk_S 14 sLn sBy (fun i => gad g (1000 + i)) (fun i => gad g (1100 + i)) (pA g) U U.heap ∧
  (∀ k, k < 14 → vk_R "TonightCovers$Tape" (100 + 2 * k) (sTx.getD k "") (gad g (1000 + k)) U) ∧
  va_Z "java/lang/String" "COMPACT_STRINGS" "Z" (.int 1) (pA g) U U.heap ∧
  va_Zq "jdk/internal/util/Preconditions" "SIOOBE_FORMATTER" "Ljava/util/function/BiFunction;" (pA g) U U.heap ∧
  (∀ q ∈ xMN, va_Nw (.methodLinkNest q.1 q.2.1 q.2.2 "TonightCovers") U) ∧
  (∀ q ∈ xFN, va_Nw (.fieldLinkNest q.1 q.2.1 "TonightCovers" q.2.2 "[I" "TonightCovers") U) ∧
  (∀ C ∈ xCS, va_Nw (.castable C "TonightCovers$Player") U) ∧
  va_AO "TonightCovers$Player" U ∧ va_AO "TonightCovers$Sheet" U
theorem KC.warm {g : pG} {s U : State} (h : KC g s) (hW : s.WarmedH U.vm) (hS : s.heap.size ≤ U.heap.size ∧ ∀ q : Nat, q < s.heap.size → ¬ pA g q → U.heap[q]? = s.heap[q]?) : KC g U := by
  obtain ⟨h1, h2, h3, h4, h5, h6, h7, h8, h9, h10⟩ := h
  refine ⟨fun k hk => ⟨(va_Z.moved hW.alike (h1 k hk).1).kept hS.2, (va_T.moved hW.alike (h1 k hk).2).kept hS.2⟩, (vk_S.moved hW.alike h2).kept hS.2, fun k hk => vk_R.warm hW (h3 k hk), (va_Z.moved hW.alike h4).kept hS.2, (va_Zq.moved hW.alike h5).kept hS.2, fun q hq => va_Nw.warmM hW (h6 q hq), fun q hq => va_Nw.warmF hW (h7 q hq), fun q hq => va_Nw.warmC hW (h8 q hq), h9.moved hW.alike, h10.moved hW.alike⟩
/-! ===== contracts over pure states ===== -/
def rmd (d mc ms : Nat) : Room := { frames := d, cells := mc, slots := ms, locals := 200 * d }
def pP (g : pG) (av : List Value) (S : pS) : Array Value → State → Prop := va_Pc (av.map (vr (gad g))) (fun U => Wd g S U U.heap ∧ KC g U ∧ U.heap.size = gad g S.1)
def pQ (g : pG) (n0 mc : Nat) (Post : Option Value → pS → Prop) : Array Value → State → Outcome → State → Prop := fun _ st oc t => (∃ (v : Option Value) (S' : pS), oc = .returned (v.map (vr (gad g))) ∧ Post v S' ∧ S'.1 = n0 + mc ∧ Wd g S' t t.heap) ∧ va_F (pA g) st t
/-- a method's contract at arguments av and a state S: with d frames below it, mc new cells of ms slots -/
def MS (g : pG) (M : pM) (d mc ms : Nat) (av : List Value) (S : pS) (Post : Option Value → pS → Prop) : Prop := Met g.1 M.1 (wsM M) (rmd d mc ms) (pP g av S) (pQ g S.1 mc Post) mc ms (pA g)
theorem pP_blind {g : pG} {av : List Value} {S : pS} : FrameBlind (pP g av S) := by
  intro a U gg mk h
  obtain ⟨h1, h2, h3, h4⟩ := h
  exact ⟨h1, h2.moved (Vm.Alike.refl U.vm), h3.warm (State.WarmedH.refl _) ⟨Nat.le_refl _, fun _ _ _ => rfl⟩, h4⟩
/-- what an end of a walk is said by: its room, what is known of its start, its goal -/
abbrev pE : Type := Room × (State → Array Value → Prop) × (List Frame → Array Value → State → State → Prop)
def eN (g : pG) (n0 d mc ms : Nat) (Post : Option Value → pS → Prop) : pE := (rmd d mc ms, fun s _ => s.heap.size = gad g n0 ∧ n0 ≤ 900, fun below args s => MQ below (pQ g n0 mc Post) args s mc ms (pA g))
/-- what holds in a method's body throughout -/
def Fx (g : pG) (M : pM) (E : pE) (p : Program) (s : State) (m : MethodId) (args : Array Value) (meth : Method) (c : Code) : Prop :=
  p.tables.exec = Jvm.exec ∧ c.code = M.2.1 ∧ meth.sig.returnType = M.2.2.2 ∧ c.maxLocals = M.2.2.1 ∧ s.vm.findClass M.1.cls = some m.cls ∧ (∀ w ∈ wsM M, w.before args s = true) ∧ meth.locks = false ∧ meth.name = M.1.name ∧ E.2.1 s args ∧ KC g s ∧ gad g 0 ≤ s.heap.size
theorem Fx.K {g : pG} {M : pM} {E : pE} {p : Program} {s : State} {m : MethodId} {args : Array Value} {meth : Method} {c : Code} (h : Fx g M E p s m args meth c) : KC g s := h.2.2.2.2.2.2.2.2.2.1
theorem Fx.w {g : pG} {M : pM} {E : pE} {p : Program} {s : State} {m : MethodId} {args : Array Value} {meth : Method} {c : Code} (h : Fx g M E p s m args meth c) {w : Cond} (hw : w ∈ gT) : w.before args s = true := h.2.2.2.2.2.1 _ (wsM_t hw)
theorem Fx.own {g : pG} {M : pM} {E : pE} {p : Program} {s : State} {m : MethodId} {args : Array Value} {meth : Method} {c : Code} (h : Fx g M E p s m args meth c) : s.vm.findClass M.1.cls = some m.cls := h.2.2.2.2.1
theorem Fx.lo {g : pG} {M : pM} {E : pE} {p : Program} {s : State} {m : MethodId} {args : Array Value} {meth : Method} {c : Code} (h : Fx g M E p s m args meth c) : gad g 0 ≤ s.heap.size := h.2.2.2.2.2.2.2.2.2.2
theorem Fx.fix {g : pG} {M : pM} {E : pE} {p : Program} {s : State} {m : MethodId} {args : Array Value} {meth : Method} {c : Code} (h : Fx g M E p s m args meth c) : CallFix p m c M.2.1 M.2.2.1 s args (wsM M) M.1.cls := ⟨h.1, h.2.1, h.2.2.2.1, h.2.2.2.2.1, h.2.2.2.2.2.1⟩
/-- the walk from here on, in every machine whose state the pure one tells -/
def PW (g : pG) (M : pM) (E : pE) (pc : Nat) (L : pL) (st : List Value) (S : pS) (k n : Nat) : Prop :=
  ∀ (p : Program) (e : Env) (s : State) (m : MethodId) (args : Array Value) (below : List Frame) (meth : Method) (c : Code) (H : Heap) (locs : List Loc) (ls : Array Slot),
    Fx g M E p s m args meth c → Wd g S s H → s.heap.size + k = gad g S.1 → va_S (pA g) s.heap H locs → lk (gad g) ls M.2.2.1 L →
    W p g.1 e E.1 s m args below meth c H locs k n (E.2.2 below args s) (F0 m pc ls (st.map (vr (gad g))))
theorem PW.sub {g : pG} {M : pM} {E : pE} {pc : Nat} {L L' : pL} {st : List Value} {S : pS} {k n : Nat} (h : PW g M E pc L' st S k n) (hs : ∀ (i : Nat) (v : Value), L'[i]? = some (some v) → L[i]? = some (some v)) : PW g M E pc L st S k n :=
  fun p e s m args below meth c H locs ls hF hW hN hS hL => h p e s m args below meth c H locs ls hF hW hN hS (lk_sub hL hs)
def enL (nL : Nat) (av : List Value) : pL := let l := av.flatMap (fun v => if v.category = 2 then [some v, none] else [some v]); l ++ List.replicate (nL - l.length) none
theorem enL_at {ad : Nat → Nat} {av : List Value} {nL j : Nat} {v : Value} : ∀ (i : Nat), (enL nL av)[j]? = some (some v) → (i + j, vr ad v) ∈ lv_args i (av.map (vr ad)) := by
  intro i h
  unfold enL at h
  simp only at h
  have key : ∀ (av : List Value) (i j : Nat), (av.flatMap (fun v => if v.category = 2 then [some v, none] else [some v]))[j]? = some (some v) → (i + j, vr ad v) ∈ lv_args i (av.map (vr ad)) := by
    intro av
    induction av with
    | nil => intro i j h; simp at h
    | cons w t ih =>
      intro i j h
      rw [List.flatMap_cons] at h
      rw [List.map_cons, lv_args, vr_cat]
      by_cases c : w.category = 2
      · rw [if_pos c] at h ⊢
        match j, h with
        | 0, h => simp at h; rw [h]; exact List.mem_cons_self
        | 1, h => simp at h
        | j + 2, h =>
          have := ih (i + 2) j (by simpa using h)
          rw [show i + (j + 2) = i + 2 + j by omega]
          exact List.mem_cons_of_mem _ this
      · rw [if_neg c] at h ⊢
        match j, h with
        | 0, h => simp at h; rw [h]; exact List.mem_cons_self
        | j + 1, h =>
          have := ih (i + 1) j (by simpa using h)
          rw [show i + (j + 1) = i + 1 + j by omega]
          exact List.mem_cons_of_mem _ this
  by_cases hl : j < (av.flatMap (fun v => if v.category = 2 then [some v, none] else [some v])).length
  · rw [List.getElem?_append_left hl] at h
    exact key av i j h
  · rw [List.getElem?_append_right (by omega)] at h
    have := List.eq_of_mem_replicate (List.mem_of_getElem? h)
    cases this
theorem lg_sl_len {ad : Nat → Nat} (av : List Value) : (lg_sl (av.map (vr ad))).length = (av.map (fun v => v.category)).sum := by
  induction av with
  | nil => rfl
  | cons v t ih =>
    have e : lg_sl ((v :: t).map (vr ad)) = lg_sl [vr ad v] ++ lg_sl (t.map (vr ad)) := by simp [lg_sl]
    rw [e, List.length_append, ih, List.map_cons, List.sum_cons]
    congr 1
    simp only [lg_sl, List.flatMap_cons, List.flatMap_nil, List.append_nil]
    rcases lv_cat v with h | h
    · rw [if_neg (by rw [vr_cat, h]; decide), h]; rfl
    · rw [if_pos (by rw [vr_cat, h]), h]; rfl
/-- a walk of a body gives the contract -/
theorem MS.of {g : pG} {M : pM} {d mc ms : Nat} {av : List Value} {S : pS} {Post : Option Value → pS → Prop} (hy : plainName M.1.cls = true) (hn : (av.map (fun v => v.category)).sum ≤ M.2.2.1)
    (h : PW g M (eN g S.1 d mc ms Post) 0 (enL M.2.2.1 av) [] S 0 0) : MS g M d mc ms av S Post := by
  refine Met.ofW (cc := M.2.1) (maxL := M.2.2.1) (ret := M.2.2.2) (ws' := gT) hy rfl ?_
  intro p e s m args below meth c s₁ B hml hv
  obtain ⟨rfl, hW, hK, hz⟩ := hv
  have hts := atoms_spec (ws := wsM M) B.pre
  have hown : s.vm.findClass M.1.cls = some m.cls := findClass_of_methodNamed B.named
  have hin : meth.name = M.1.name := (name_of_methodNamed B.named B.method).1
  have hsz : gad g 0 ≤ s.heap.size := by rw [hz, hW.1 S.1 (by have := hW.2.1; omega)]; omega
  have hl := lv_entry (av.map (vr (gad g))) (n := M.2.2.1) (by rw [lg_sl_len]; exact hn)
  rw [lg_entry_eq]
  refine h p e s m _ below meth c s.heap [] _ ⟨B.exec, B.bytes, B.returns, hml, hown, hts, B.notSynchronized, hin, ⟨hz, hW.2.1⟩, hK, hsz⟩ hW hz va_S.rf ⟨hl.1, hl.2.1, fun q hq => hl.2.2 q ?_⟩
  obtain ⟨i, w⟩ := q
  obtain ⟨-, v, h2, rfl⟩ := (lvF_mem _ 0).mp hq
  have := enL_at (ad := gad g) 0 h2
  simpa using this
theorem MS.imp {g : pG} {M : pM} {d mc ms : Nat} {av : List Value} {S : pS} {Post Post' : Option Value → pS → Prop} (h : MS g M d mc ms av S Post) (hi : ∀ r S', Post r S' → Post' r S') : MS g M d mc ms av S Post' := by
  intro p e ha hc hk s m args below hf happ hP hK
  obtain ⟨t, o, h1, h2, h3, h4, h5⟩ := h p e ha hc hk s m args below hf happ hP hK
  obtain ⟨⟨v, S', e1, e2, e3⟩, e4⟩ := h4
  exact ⟨t, o, h1, h2, h3, ⟨⟨v, S', e1, hi _ _ e2, e3⟩, e4⟩, h5⟩
/-- the heap's size, out of the room that is used and the cells that stand -/
theorem Wd.size {g : pG} {S : pS} {s T : State} {H : Heap} {k n : Nat} {p : Program} {l : Launch} {e : Env} {R : Room} {m : MethodId} {args : Array Value} {below : List Frame} {meth : Method} {c : Code} {locs : List Loc} (h00 : gad g 0 ≤ s.heap.size) (hW : Wd g S s H) (hN : s.heap.size + k = gad g S.1) (hS : va_S (pA g) s.heap H locs) (hT : T.heap = H) (X : Stand p l e R s m args below meth c T locs k n) : H.size = gad g S.1 := by
  have h1 : T.heap.size ≤ s.heap.size + k := X.same.2.2.1
  rw [hT] at h1
  have h2 := hS.1
  have h3 := hW.2.1
  by_cases h0 : S.1 = 0
  · rw [h0] at hN ⊢
    have : gad g 0 ≤ H.size := by omega
    omega
  · have h4 := (hW.P (S.1 - 1) _ (wsOf_get (by omega))).lt
    have h5 := hW.1 S.1 (by omega)
    have h6 := hW.1 (S.1 - 1) (by omega)
    simp only at h4
    omega
end
section
set_option maxRecDepth 20000 in
theorem cl_in0 : ∀ w ∈ u_ws RX0 TX0 12, w ∈ gT := by
  intro w hw
  obtain ⟨k, hk, rfl⟩ := List.mem_map.mp hw
  have hk := List.mem_range.mp hk
  rcases (by omega : k = 0 ∨ k = 1 ∨ k = 2 ∨ k = 3 ∨ k = 4 ∨ k = 5 ∨ k = 6 ∨ k = 7 ∨ k = 8 ∨ k = 9 ∨ k = 10 ∨ k = 11) with rfl | rfl | rfl | rfl | rfl | rfl | rfl | rfl | rfl | rfl | rfl | rfl
  · exact gT_1 78 rfl rfl
  · exact gT_1 80 rfl rfl
  · exact gT_1 82 rfl rfl
  · exact gT_1 84 rfl rfl
  · exact gT_1 86 rfl rfl
  · exact gT_1 88 rfl rfl
  · exact gT_1 90 rfl rfl
  · exact gT_1 92 rfl rfl
  · exact gT_1 94 rfl rfl
  · exact gT_1 96 rfl rfl
  · exact gT_1 98 rfl rfl
  · exact gT_1 100 rfl rfl

set_option maxRecDepth 20000 in
theorem cl_in1 : ∀ w ∈ u_ws RX1 TX1 3, w ∈ gT := by
  intro w hw
  obtain ⟨k, hk, rfl⟩ := List.mem_map.mp hw
  have hk := List.mem_range.mp hk
  rcases (by omega : k = 0 ∨ k = 1 ∨ k = 2) with rfl | rfl | rfl
  · exact gT_1 233 rfl rfl
  · exact gT_1 234 rfl rfl
  · exact gT_1 235 rfl rfl

set_option maxRecDepth 20000 in
theorem cl_in2 : ∀ w ∈ u_ws RX2 TX2 3, w ∈ gT := by
  intro w hw
  obtain ⟨k, hk, rfl⟩ := List.mem_map.mp hw
  have hk := List.mem_range.mp hk
  rcases (by omega : k = 0 ∨ k = 1 ∨ k = 2) with rfl | rfl | rfl
  · exact gT_2 3 rfl rfl
  · exact gT_2 4 rfl rfl
  · exact gT_2 5 rfl rfl

set_option maxRecDepth 20000 in
theorem cl_in3 : ∀ w ∈ u_ws RX3 TX3 3, w ∈ gT := by
  intro w hw
  obtain ⟨k, hk, rfl⟩ := List.mem_map.mp hw
  have hk := List.mem_range.mp hk
  rcases (by omega : k = 0 ∨ k = 1 ∨ k = 2) with rfl | rfl | rfl
  · exact gT_1 220 rfl rfl
  · exact gT_1 222 rfl rfl
  · exact gT_1 224 rfl rfl

set_option maxRecDepth 20000 in
theorem cl_in4 : ∀ w ∈ u_ws RX4 TX4 3, w ∈ gT := by
  intro w hw
  obtain ⟨k, hk, rfl⟩ := List.mem_map.mp hw
  have hk := List.mem_range.mp hk
  rcases (by omega : k = 0 ∨ k = 1 ∨ k = 2) with rfl | rfl | rfl
  · exact gT_2 23 rfl rfl
  · exact gT_2 24 rfl rfl
  · exact gT_2 25 rfl rfl

set_option maxRecDepth 20000 in
theorem cl_in5 : ∀ w ∈ u_ws RX5 TX5 3, w ∈ gT := by
  intro w hw
  obtain ⟨k, hk, rfl⟩ := List.mem_map.mp hw
  have hk := List.mem_range.mp hk
  rcases (by omega : k = 0 ∨ k = 1 ∨ k = 2) with rfl | rfl | rfl
  · exact gT_2 13 rfl rfl
  · exact gT_2 14 rfl rfl
  · exact gT_2 15 rfl rfl

set_option maxRecDepth 20000 in
theorem cl_in6 : ∀ w ∈ u_ws RX6 TX6 3, w ∈ gT := by
  intro w hw
  obtain ⟨k, hk, rfl⟩ := List.mem_map.mp hw
  have hk := List.mem_range.mp hk
  rcases (by omega : k = 0 ∨ k = 1 ∨ k = 2) with rfl | rfl | rfl
  · exact gT_1 152 rfl rfl
  · exact gT_1 154 rfl rfl
  · exact gT_1 156 rfl rfl

set_option maxRecDepth 20000 in
theorem cl_in7 : ∀ w ∈ u_ws RX7 TX7 3, w ∈ gT := by
  intro w hw
  obtain ⟨k, hk, rfl⟩ := List.mem_map.mp hw
  have hk := List.mem_range.mp hk
  rcases (by omega : k = 0 ∨ k = 1 ∨ k = 2) with rfl | rfl | rfl
  · exact gT_2 33 rfl rfl
  · exact gT_2 34 rfl rfl
  · exact gT_2 35 rfl rfl

set_option maxRecDepth 20000 in
theorem cl_in8 : ∀ w ∈ u_ws RX8 TX8 4, w ∈ gT := by
  intro w hw
  obtain ⟨k, hk, rfl⟩ := List.mem_map.mp hw
  have hk := List.mem_range.mp hk
  rcases (by omega : k = 0 ∨ k = 1 ∨ k = 2 ∨ k = 3) with rfl | rfl | rfl | rfl
  · exact gT_1 128 rfl rfl
  · exact gT_1 130 rfl rfl
  · exact gT_1 132 rfl rfl
  · exact gT_1 134 rfl rfl

set_option maxRecDepth 20000 in
theorem cl_in9 : ∀ w ∈ u_ws RX9 TX9 3, w ∈ gT := by
  intro w hw
  obtain ⟨k, hk, rfl⟩ := List.mem_map.mp hw
  have hk := List.mem_range.mp hk
  rcases (by omega : k = 0 ∨ k = 1 ∨ k = 2) with rfl | rfl | rfl
  · exact gT_1 185 rfl rfl
  · exact gT_1 187 rfl rfl
  · exact gT_1 189 rfl rfl

set_option maxRecDepth 20000 in
theorem cl_in10 : ∀ w ∈ u_ws RX10 TX10 2, w ∈ gT := by
  intro w hw
  obtain ⟨k, hk, rfl⟩ := List.mem_map.mp hw
  have hk := List.mem_range.mp hk
  rcases (by omega : k = 0 ∨ k = 1) with rfl | rfl
  · exact gT_1 112 rfl rfl
  · exact gT_1 114 rfl rfl

set_option maxRecDepth 20000 in
theorem cl_in11 : ∀ w ∈ u_ws RX11 TX11 15, w ∈ gT := by
  intro w hw
  obtain ⟨k, hk, rfl⟩ := List.mem_map.mp hw
  have hk := List.mem_range.mp hk
  rcases (by omega : k = 0 ∨ k = 1 ∨ k = 2 ∨ k = 3 ∨ k = 4 ∨ k = 5 ∨ k = 6 ∨ k = 7 ∨ k = 8 ∨ k = 9 ∨ k = 10 ∨ k = 11 ∨ k = 12 ∨ k = 13 ∨ k = 14) with rfl | rfl | rfl | rfl | rfl | rfl | rfl | rfl | rfl | rfl | rfl | rfl | rfl | rfl | rfl
  · exact gT_2 52 rfl rfl
  · exact gT_2 54 rfl rfl
  · exact gT_2 56 rfl rfl
  · exact gT_2 58 rfl rfl
  · exact gT_2 60 rfl rfl
  · exact gT_2 62 rfl rfl
  · exact gT_2 64 rfl rfl
  · exact gT_2 66 rfl rfl
  · exact gT_2 68 rfl rfl
  · exact gT_2 70 rfl rfl
  · exact gT_2 72 rfl rfl
  · exact gT_2 74 rfl rfl
  · exact gT_2 76 rfl rfl
  · exact gT_2 78 rfl rfl
  · exact gT_2 80 rfl rfl

set_option maxRecDepth 20000 in
theorem cl_in12 : ∀ w ∈ u_ws RX12 TX12 27, w ∈ gT := by
  intro w hw
  obtain ⟨k, hk, rfl⟩ := List.mem_map.mp hw
  have hk := List.mem_range.mp hk
  rcases (by omega : k = 0 ∨ k = 1 ∨ k = 2 ∨ k = 3 ∨ k = 4 ∨ k = 5 ∨ k = 6 ∨ k = 7 ∨ k = 8 ∨ k = 9 ∨ k = 10 ∨ k = 11 ∨ k = 12 ∨ k = 13 ∨ k = 14 ∨ k = 15 ∨ k = 16 ∨ k = 17 ∨ k = 18 ∨ k = 19 ∨ k = 20 ∨ k = 21 ∨ k = 22 ∨ k = 23 ∨ k = 24 ∨ k = 25 ∨ k = 26) with rfl | rfl | rfl | rfl | rfl | rfl | rfl | rfl | rfl | rfl | rfl | rfl | rfl | rfl | rfl | rfl | rfl | rfl | rfl | rfl | rfl | rfl | rfl | rfl | rfl | rfl | rfl
  · exact gT_5 34 rfl rfl
  · exact gT_5 36 rfl rfl
  · exact gT_5 38 rfl rfl
  · exact gT_5 40 rfl rfl
  · exact gT_5 42 rfl rfl
  · exact gT_5 44 rfl rfl
  · exact gT_5 46 rfl rfl
  · exact gT_5 48 rfl rfl
  · exact gT_5 50 rfl rfl
  · exact gT_5 52 rfl rfl
  · exact gT_5 54 rfl rfl
  · exact gT_5 56 rfl rfl
  · exact gT_5 58 rfl rfl
  · exact gT_5 60 rfl rfl
  · exact gT_5 62 rfl rfl
  · exact gT_5 64 rfl rfl
  · exact gT_5 66 rfl rfl
  · exact gT_5 68 rfl rfl
  · exact gT_5 70 rfl rfl
  · exact gT_5 72 rfl rfl
  · exact gT_5 74 rfl rfl
  · exact gT_5 76 rfl rfl
  · exact gT_5 78 rfl rfl
  · exact gT_5 80 rfl rfl
  · exact gT_5 82 rfl rfl
  · exact gT_5 84 rfl rfl
  · exact gT_5 86 rfl rfl

set_option maxRecDepth 20000 in
theorem cl_in {ci : Nat} (h : ci < 13) : ∀ w ∈ u_ws (clC ci) (clT ci) (clN ci), w ∈ gT := by
  rcases (by omega : ci = 0 ∨ ci = 1 ∨ ci = 2 ∨ ci = 3 ∨ ci = 4 ∨ ci = 5 ∨ ci = 6 ∨ ci = 7 ∨ ci = 8 ∨ ci = 9 ∨ ci = 10 ∨ ci = 11 ∨ ci = 12) with rfl | rfl | rfl | rfl | rfl | rfl | rfl | rfl | rfl | rfl | rfl | rfl | rfl
  · exact cl_in0
  · exact cl_in1
  · exact cl_in2
  · exact cl_in3
  · exact cl_in4
  · exact cl_in5
  · exact cl_in6
  · exact cl_in7
  · exact cl_in8
  · exact cl_in9
  · exact cl_in10
  · exact cl_in11
  · exact cl_in12
end
section
/-! ===== rows, out of the kit's: numbers and branches ===== -/
theorem r_iconst {g : pG} {M : pM} {E : pE} {pc : Nat} {L : pL} {st : List Value} {S : pS} {k n : Nat} {c0 : Int} {v : Int32} (hdg : decode M.2.1 pc = .ok (.iconst c0, 1)) (hv : Int32.ofInt c0 = v) (kk : PW g M E (pc + 1) L (.int v :: st) S k n) : PW g M E pc L (st) S k n := by
  intro p e s m args below meth c H locs ls hF hW hN hS hL
  exact lv_iconst hF.1 hF.2.1 hdg hv (kk p e s m args below meth c H locs ls hF hW hN hS hL)
theorem r_bipush {g : pG} {M : pM} {E : pE} {pc : Nat} {L : pL} {st : List Value} {S : pS} {k n : Nat} {c0 : Int} {v : Int32} (hdg : decode M.2.1 pc = .ok (.bipush c0, 2)) (hv : (Int8.ofInt c0).toInt32 = v) (kk : PW g M E (pc + 2) L (.int v :: st) S k n) : PW g M E pc L (st) S k n := by
  intro p e s m args below meth c H locs ls hF hW hN hS hL
  exact lv_bipush hF.1 hF.2.1 hdg hv (kk p e s m args below meth c H locs ls hF hW hN hS hL)
theorem r_sipush {g : pG} {M : pM} {E : pE} {pc : Nat} {L : pL} {st : List Value} {S : pS} {k n : Nat} {c0 : Int} {v : Int32} (hdg : decode M.2.1 pc = .ok (.sipush c0, 3)) (hv : (Int16.ofInt c0).toInt32 = v) (kk : PW g M E (pc + 3) L (.int v :: st) S k n) : PW g M E pc L (st) S k n := by
  intro p e s m args below meth c H locs ls hF hW hN hS hL
  exact lv_sipush hF.1 hF.2.1 hdg hv (kk p e s m args below meth c H locs ls hF hW hN hS hL)
theorem r_lconst {g : pG} {M : pM} {E : pE} {pc : Nat} {L : pL} {st : List Value} {S : pS} {k n : Nat} {c0 : Fin 2} {v : Int64} (hdg : decode M.2.1 pc = .ok (.lconst c0, 1)) (hv : Int64.ofNat (c0 : Nat) = v) (kk : PW g M E (pc + 1) L (.long v :: st) S k n) : PW g M E pc L (st) S k n := by
  intro p e s m args below meth c H locs ls hF hW hN hS hL
  exact lv_lconst hF.1 hF.2.1 hdg hv (kk p e s m args below meth c H locs ls hF hW hN hS hL)
theorem r_iadd {g : pG} {M : pM} {E : pE} {pc : Nat} {L : pL} {st : List Value} {S : pS} {k n : Nat} {x y : Int32} (hdg : decode M.2.1 pc = .ok (.iadd, 1)) (kk : PW g M E (pc + 1) L (.int (x + y) :: st) S k n) : PW g M E pc L (.int y :: .int x :: st) S k n := by
  intro p e s m args below meth c H locs ls hF hW hN hS hL
  exact lv_iadd hF.1 hF.2.1 hdg (kk p e s m args below meth c H locs ls hF hW hN hS hL)
theorem r_isub {g : pG} {M : pM} {E : pE} {pc : Nat} {L : pL} {st : List Value} {S : pS} {k n : Nat} {x y : Int32} (hdg : decode M.2.1 pc = .ok (.isub, 1)) (kk : PW g M E (pc + 1) L (.int (x - y) :: st) S k n) : PW g M E pc L (.int y :: .int x :: st) S k n := by
  intro p e s m args below meth c H locs ls hF hW hN hS hL
  exact lv_isub hF.1 hF.2.1 hdg (kk p e s m args below meth c H locs ls hF hW hN hS hL)
theorem r_imul {g : pG} {M : pM} {E : pE} {pc : Nat} {L : pL} {st : List Value} {S : pS} {k n : Nat} {x y : Int32} (hdg : decode M.2.1 pc = .ok (.imul, 1)) (kk : PW g M E (pc + 1) L (.int (x * y) :: st) S k n) : PW g M E pc L (.int y :: .int x :: st) S k n := by
  intro p e s m args below meth c H locs ls hF hW hN hS hL
  exact lv_imul hF.1 hF.2.1 hdg (kk p e s m args below meth c H locs ls hF hW hN hS hL)
theorem r_iand {g : pG} {M : pM} {E : pE} {pc : Nat} {L : pL} {st : List Value} {S : pS} {k n : Nat} {x y : Int32} (hdg : decode M.2.1 pc = .ok (.iand, 1)) (kk : PW g M E (pc + 1) L (.int (x &&& y) :: st) S k n) : PW g M E pc L (.int y :: .int x :: st) S k n := by
  intro p e s m args below meth c H locs ls hF hW hN hS hL
  exact lv_iand hF.1 hF.2.1 hdg (kk p e s m args below meth c H locs ls hF hW hN hS hL)
theorem r_ior {g : pG} {M : pM} {E : pE} {pc : Nat} {L : pL} {st : List Value} {S : pS} {k n : Nat} {x y : Int32} (hdg : decode M.2.1 pc = .ok (.ior, 1)) (kk : PW g M E (pc + 1) L (.int (x ||| y) :: st) S k n) : PW g M E pc L (.int y :: .int x :: st) S k n := by
  intro p e s m args below meth c H locs ls hF hW hN hS hL
  exact lv_ior hF.1 hF.2.1 hdg (kk p e s m args below meth c H locs ls hF hW hN hS hL)
theorem r_ixor {g : pG} {M : pM} {E : pE} {pc : Nat} {L : pL} {st : List Value} {S : pS} {k n : Nat} {x y : Int32} (hdg : decode M.2.1 pc = .ok (.ixor, 1)) (kk : PW g M E (pc + 1) L (.int (x ^^^ y) :: st) S k n) : PW g M E pc L (.int y :: .int x :: st) S k n := by
  intro p e s m args below meth c H locs ls hF hW hN hS hL
  exact lv_ixor hF.1 hF.2.1 hdg (kk p e s m args below meth c H locs ls hF hW hN hS hL)
theorem r_idiv {g : pG} {M : pM} {E : pE} {pc : Nat} {L : pL} {st : List Value} {S : pS} {k n : Nat} {x y : Int32} (hdg : decode M.2.1 pc = .ok (.idiv, 1)) (hne : ¬ y = 0) (kk : PW g M E (pc + 1) L (.int (x / y) :: st) S k n) : PW g M E pc L (.int y :: .int x :: st) S k n := by
  intro p e s m args below meth c H locs ls hF hW hN hS hL
  exact lv_idiv hF.1 hF.2.1 hdg hne (kk p e s m args below meth c H locs ls hF hW hN hS hL)
theorem r_irem {g : pG} {M : pM} {E : pE} {pc : Nat} {L : pL} {st : List Value} {S : pS} {k n : Nat} {x y : Int32} (hdg : decode M.2.1 pc = .ok (.irem, 1)) (hne : ¬ y = 0) (kk : PW g M E (pc + 1) L (.int (x - x / y * y) :: st) S k n) : PW g M E pc L (.int y :: .int x :: st) S k n := by
  intro p e s m args below meth c H locs ls hF hW hN hS hL
  exact lv_irem hF.1 hF.2.1 hdg hne (kk p e s m args below meth c H locs ls hF hW hN hS hL)
theorem r_ineg {g : pG} {M : pM} {E : pE} {pc : Nat} {L : pL} {st : List Value} {S : pS} {k n : Nat} {x : Int32} (hdg : decode M.2.1 pc = .ok (.ineg, 1)) (kk : PW g M E (pc + 1) L (.int (-x) :: st) S k n) : PW g M E pc L (.int x :: st) S k n := by
  intro p e s m args below meth c H locs ls hF hW hN hS hL
  exact lv_ineg hF.1 hF.2.1 hdg (kk p e s m args below meth c H locs ls hF hW hN hS hL)
theorem r_ladd {g : pG} {M : pM} {E : pE} {pc : Nat} {L : pL} {st : List Value} {S : pS} {k n : Nat} {x y : Int64} (hdg : decode M.2.1 pc = .ok (.ladd, 1)) (kk : PW g M E (pc + 1) L (.long (x + y) :: st) S k n) : PW g M E pc L (.long y :: .long x :: st) S k n := by
  intro p e s m args below meth c H locs ls hF hW hN hS hL
  exact lv_ladd hF.1 hF.2.1 hdg (kk p e s m args below meth c H locs ls hF hW hN hS hL)
theorem r_lsub {g : pG} {M : pM} {E : pE} {pc : Nat} {L : pL} {st : List Value} {S : pS} {k n : Nat} {x y : Int64} (hdg : decode M.2.1 pc = .ok (.lsub, 1)) (kk : PW g M E (pc + 1) L (.long (x - y) :: st) S k n) : PW g M E pc L (.long y :: .long x :: st) S k n := by
  intro p e s m args below meth c H locs ls hF hW hN hS hL
  exact lv_lsub hF.1 hF.2.1 hdg (kk p e s m args below meth c H locs ls hF hW hN hS hL)
theorem r_lmul {g : pG} {M : pM} {E : pE} {pc : Nat} {L : pL} {st : List Value} {S : pS} {k n : Nat} {x y : Int64} (hdg : decode M.2.1 pc = .ok (.lmul, 1)) (kk : PW g M E (pc + 1) L (.long (x * y) :: st) S k n) : PW g M E pc L (.long y :: .long x :: st) S k n := by
  intro p e s m args below meth c H locs ls hF hW hN hS hL
  exact lv_lmul hF.1 hF.2.1 hdg (kk p e s m args below meth c H locs ls hF hW hN hS hL)
theorem r_land {g : pG} {M : pM} {E : pE} {pc : Nat} {L : pL} {st : List Value} {S : pS} {k n : Nat} {x y : Int64} (hdg : decode M.2.1 pc = .ok (.land, 1)) (kk : PW g M E (pc + 1) L (.long (x &&& y) :: st) S k n) : PW g M E pc L (.long y :: .long x :: st) S k n := by
  intro p e s m args below meth c H locs ls hF hW hN hS hL
  exact lv_land hF.1 hF.2.1 hdg (kk p e s m args below meth c H locs ls hF hW hN hS hL)
theorem r_lor {g : pG} {M : pM} {E : pE} {pc : Nat} {L : pL} {st : List Value} {S : pS} {k n : Nat} {x y : Int64} (hdg : decode M.2.1 pc = .ok (.lor, 1)) (kk : PW g M E (pc + 1) L (.long (x ||| y) :: st) S k n) : PW g M E pc L (.long y :: .long x :: st) S k n := by
  intro p e s m args below meth c H locs ls hF hW hN hS hL
  exact lv_lor hF.1 hF.2.1 hdg (kk p e s m args below meth c H locs ls hF hW hN hS hL)
theorem r_lxor {g : pG} {M : pM} {E : pE} {pc : Nat} {L : pL} {st : List Value} {S : pS} {k n : Nat} {x y : Int64} (hdg : decode M.2.1 pc = .ok (.lxor, 1)) (kk : PW g M E (pc + 1) L (.long (x ^^^ y) :: st) S k n) : PW g M E pc L (.long y :: .long x :: st) S k n := by
  intro p e s m args below meth c H locs ls hF hW hN hS hL
  exact lv_lxor hF.1 hF.2.1 hdg (kk p e s m args below meth c H locs ls hF hW hN hS hL)
theorem r_ldiv {g : pG} {M : pM} {E : pE} {pc : Nat} {L : pL} {st : List Value} {S : pS} {k n : Nat} {x y : Int64} (hdg : decode M.2.1 pc = .ok (.ldiv, 1)) (hne : ¬ y = 0) (kk : PW g M E (pc + 1) L (.long (x / y) :: st) S k n) : PW g M E pc L (.long y :: .long x :: st) S k n := by
  intro p e s m args below meth c H locs ls hF hW hN hS hL
  exact lv_ldiv hF.1 hF.2.1 hdg hne (kk p e s m args below meth c H locs ls hF hW hN hS hL)
theorem r_lrem {g : pG} {M : pM} {E : pE} {pc : Nat} {L : pL} {st : List Value} {S : pS} {k n : Nat} {x y : Int64} (hdg : decode M.2.1 pc = .ok (.lrem, 1)) (hne : ¬ y = 0) (kk : PW g M E (pc + 1) L (.long (x - x / y * y) :: st) S k n) : PW g M E pc L (.long y :: .long x :: st) S k n := by
  intro p e s m args below meth c H locs ls hF hW hN hS hL
  exact lv_lrem hF.1 hF.2.1 hdg hne (kk p e s m args below meth c H locs ls hF hW hN hS hL)
theorem r_ishl {g : pG} {M : pM} {E : pE} {pc : Nat} {L : pL} {st : List Value} {S : pS} {k n : Nat} {x y : Int32} (hdg : decode M.2.1 pc = .ok (.ishl, 1)) (kk : PW g M E (pc + 1) L (.int (x <<< (y &&& 31)) :: st) S k n) : PW g M E pc L (.int y :: .int x :: st) S k n := by
  intro p e s m args below meth c H locs ls hF hW hN hS hL
  exact lv_ishl hF.1 hF.2.1 hdg (kk p e s m args below meth c H locs ls hF hW hN hS hL)
theorem r_ishr {g : pG} {M : pM} {E : pE} {pc : Nat} {L : pL} {st : List Value} {S : pS} {k n : Nat} {x y : Int32} (hdg : decode M.2.1 pc = .ok (.ishr, 1)) (kk : PW g M E (pc + 1) L (.int (x >>> (y &&& 31)) :: st) S k n) : PW g M E pc L (.int y :: .int x :: st) S k n := by
  intro p e s m args below meth c H locs ls hF hW hN hS hL
  exact lv_ishr hF.1 hF.2.1 hdg (kk p e s m args below meth c H locs ls hF hW hN hS hL)
theorem r_iushr {g : pG} {M : pM} {E : pE} {pc : Nat} {L : pL} {st : List Value} {S : pS} {k n : Nat} {x y v : Int32} (hdg : decode M.2.1 pc = .ok (.iushr, 1)) (hv : (x.toUInt32 >>> (y.toUInt32 &&& Int32.toUInt32 31)).toInt32 = v) (kk : PW g M E (pc + 1) L (.int v :: st) S k n) : PW g M E pc L (.int y :: .int x :: st) S k n := by
  intro p e s m args below meth c H locs ls hF hW hN hS hL
  exact lv_iushr hF.1 hF.2.1 hdg hv (kk p e s m args below meth c H locs ls hF hW hN hS hL)
theorem r_lshl {g : pG} {M : pM} {E : pE} {pc : Nat} {L : pL} {st : List Value} {S : pS} {k n : Nat} {x v : Int64} {y : Int32} (hdg : decode M.2.1 pc = .ok (.lshl, 1)) (hv : x <<< (y.toInt64 &&& 63) = v) (kk : PW g M E (pc + 1) L (.long v :: st) S k n) : PW g M E pc L (.int y :: .long x :: st) S k n := by
  intro p e s m args below meth c H locs ls hF hW hN hS hL
  exact lv_lshl hF.1 hF.2.1 hdg hv (kk p e s m args below meth c H locs ls hF hW hN hS hL)
theorem r_lshr {g : pG} {M : pM} {E : pE} {pc : Nat} {L : pL} {st : List Value} {S : pS} {k n : Nat} {x v : Int64} {y : Int32} (hdg : decode M.2.1 pc = .ok (.lshr, 1)) (hv : x >>> (y.toInt64 &&& 63) = v) (kk : PW g M E (pc + 1) L (.long v :: st) S k n) : PW g M E pc L (.int y :: .long x :: st) S k n := by
  intro p e s m args below meth c H locs ls hF hW hN hS hL
  exact lv_lshr hF.1 hF.2.1 hdg hv (kk p e s m args below meth c H locs ls hF hW hN hS hL)
theorem r_lushr {g : pG} {M : pM} {E : pE} {pc : Nat} {L : pL} {st : List Value} {S : pS} {k n : Nat} {x v : Int64} {y : Int32} (hdg : decode M.2.1 pc = .ok (.lushr, 1)) (hv : (x.toUInt64 >>> (y.toInt64.toUInt64 &&& Int64.toUInt64 63)).toInt64 = v) (kk : PW g M E (pc + 1) L (.long v :: st) S k n) : PW g M E pc L (.int y :: .long x :: st) S k n := by
  intro p e s m args below meth c H locs ls hF hW hN hS hL
  exact lv_lushr hF.1 hF.2.1 hdg hv (kk p e s m args below meth c H locs ls hF hW hN hS hL)
theorem r_i2l {g : pG} {M : pM} {E : pE} {pc : Nat} {L : pL} {st : List Value} {S : pS} {k n : Nat} {x : Int32} {v : Int64} (hdg : decode M.2.1 pc = .ok (.i2l, 1)) (hv : x.toInt64 = v) (kk : PW g M E (pc + 1) L (.long v :: st) S k n) : PW g M E pc L (.int x :: st) S k n := by
  intro p e s m args below meth c H locs ls hF hW hN hS hL
  exact lv_i2l hF.1 hF.2.1 hdg hv (kk p e s m args below meth c H locs ls hF hW hN hS hL)
theorem r_l2i {g : pG} {M : pM} {E : pE} {pc : Nat} {L : pL} {st : List Value} {S : pS} {k n : Nat} {x : Int64} {v : Int32} (hdg : decode M.2.1 pc = .ok (.l2i, 1)) (hv : x.toInt32 = v) (kk : PW g M E (pc + 1) L (.int v :: st) S k n) : PW g M E pc L (.long x :: st) S k n := by
  intro p e s m args below meth c H locs ls hF hW hN hS hL
  exact lv_l2i hF.1 hF.2.1 hdg hv (kk p e s m args below meth c H locs ls hF hW hN hS hL)
theorem r_i2b {g : pG} {M : pM} {E : pE} {pc : Nat} {L : pL} {st : List Value} {S : pS} {k n : Nat} {x : Int32} {v : Int32} (hdg : decode M.2.1 pc = .ok (.i2b, 1)) (hv : x.toInt8.toInt32 = v) (kk : PW g M E (pc + 1) L (.int v :: st) S k n) : PW g M E pc L (.int x :: st) S k n := by
  intro p e s m args below meth c H locs ls hF hW hN hS hL
  exact lv_i2b hF.1 hF.2.1 hdg hv (kk p e s m args below meth c H locs ls hF hW hN hS hL)
theorem r_i2s {g : pG} {M : pM} {E : pE} {pc : Nat} {L : pL} {st : List Value} {S : pS} {k n : Nat} {x : Int32} {v : Int32} (hdg : decode M.2.1 pc = .ok (.i2s, 1)) (hv : x.toInt16.toInt32 = v) (kk : PW g M E (pc + 1) L (.int v :: st) S k n) : PW g M E pc L (.int x :: st) S k n := by
  intro p e s m args below meth c H locs ls hF hW hN hS hL
  exact lv_i2s hF.1 hF.2.1 hdg hv (kk p e s m args below meth c H locs ls hF hW hN hS hL)
theorem r_i2c {g : pG} {M : pM} {E : pE} {pc : Nat} {L : pL} {st : List Value} {S : pS} {k n : Nat} {x : Int32} {v : Int32} (hdg : decode M.2.1 pc = .ok (.i2c, 1)) (hv : (x.toUInt32 % 65536).toInt32 = v) (kk : PW g M E (pc + 1) L (.int v :: st) S k n) : PW g M E pc L (.int x :: st) S k n := by
  intro p e s m args below meth c H locs ls hF hW hN hS hL
  exact lv_i2c hF.1 hF.2.1 hdg hv (kk p e s m args below meth c H locs ls hF hW hN hS hL)
theorem r_if_eq {g : pG} {M : pM} {E : pE} {pc : Nat} {L : pL} {st : List Value} {S : pS} {k n : Nat} {x : Int32} {off : Int} {tgt : Nat} (hdg : decode M.2.1 pc = .ok (.ifCond .eq off, 3)) (ht : (pc : Int) + off = (tgt : Int)) (kt : x = 0 → PW g M E tgt L st S k n) (kf : ¬ x = 0 → PW g M E (pc + 3) L st S k n) : PW g M E pc L (.int x :: st) S k n := by
  intro p e s m args below meth c H locs ls hF hW hN hS hL
  exact lv_if_eq hF.1 hF.2.1 hdg ht (fun z => kt z p e s m args below meth c H locs ls hF hW hN hS hL) (fun z => kf z p e s m args below meth c H locs ls hF hW hN hS hL)
theorem r_if_ne {g : pG} {M : pM} {E : pE} {pc : Nat} {L : pL} {st : List Value} {S : pS} {k n : Nat} {x : Int32} {off : Int} {tgt : Nat} (hdg : decode M.2.1 pc = .ok (.ifCond .ne off, 3)) (ht : (pc : Int) + off = (tgt : Int)) (kt : ¬ x = 0 → PW g M E tgt L st S k n) (kf : x = 0 → PW g M E (pc + 3) L st S k n) : PW g M E pc L (.int x :: st) S k n := by
  intro p e s m args below meth c H locs ls hF hW hN hS hL
  exact lv_if_ne hF.1 hF.2.1 hdg ht (fun z => kt z p e s m args below meth c H locs ls hF hW hN hS hL) (fun z => kf z p e s m args below meth c H locs ls hF hW hN hS hL)
theorem r_if_lt {g : pG} {M : pM} {E : pE} {pc : Nat} {L : pL} {st : List Value} {S : pS} {k n : Nat} {x : Int32} {off : Int} {tgt : Nat} (hdg : decode M.2.1 pc = .ok (.ifCond .lt off, 3)) (ht : (pc : Int) + off = (tgt : Int)) (kt : x < 0 → PW g M E tgt L st S k n) (kf : ¬ x < 0 → PW g M E (pc + 3) L st S k n) : PW g M E pc L (.int x :: st) S k n := by
  intro p e s m args below meth c H locs ls hF hW hN hS hL
  exact lv_if_lt hF.1 hF.2.1 hdg ht (fun z => kt z p e s m args below meth c H locs ls hF hW hN hS hL) (fun z => kf z p e s m args below meth c H locs ls hF hW hN hS hL)
theorem r_if_ge {g : pG} {M : pM} {E : pE} {pc : Nat} {L : pL} {st : List Value} {S : pS} {k n : Nat} {x : Int32} {off : Int} {tgt : Nat} (hdg : decode M.2.1 pc = .ok (.ifCond .ge off, 3)) (ht : (pc : Int) + off = (tgt : Int)) (kt : 0 ≤ x → PW g M E tgt L st S k n) (kf : ¬ 0 ≤ x → PW g M E (pc + 3) L st S k n) : PW g M E pc L (.int x :: st) S k n := by
  intro p e s m args below meth c H locs ls hF hW hN hS hL
  exact lv_if_ge hF.1 hF.2.1 hdg ht (fun z => kt z p e s m args below meth c H locs ls hF hW hN hS hL) (fun z => kf z p e s m args below meth c H locs ls hF hW hN hS hL)
theorem r_if_gt {g : pG} {M : pM} {E : pE} {pc : Nat} {L : pL} {st : List Value} {S : pS} {k n : Nat} {x : Int32} {off : Int} {tgt : Nat} (hdg : decode M.2.1 pc = .ok (.ifCond .gt off, 3)) (ht : (pc : Int) + off = (tgt : Int)) (kt : 0 < x → PW g M E tgt L st S k n) (kf : ¬ 0 < x → PW g M E (pc + 3) L st S k n) : PW g M E pc L (.int x :: st) S k n := by
  intro p e s m args below meth c H locs ls hF hW hN hS hL
  exact lv_if_gt hF.1 hF.2.1 hdg ht (fun z => kt z p e s m args below meth c H locs ls hF hW hN hS hL) (fun z => kf z p e s m args below meth c H locs ls hF hW hN hS hL)
theorem r_if_le {g : pG} {M : pM} {E : pE} {pc : Nat} {L : pL} {st : List Value} {S : pS} {k n : Nat} {x : Int32} {off : Int} {tgt : Nat} (hdg : decode M.2.1 pc = .ok (.ifCond .le off, 3)) (ht : (pc : Int) + off = (tgt : Int)) (kt : x ≤ 0 → PW g M E tgt L st S k n) (kf : ¬ x ≤ 0 → PW g M E (pc + 3) L st S k n) : PW g M E pc L (.int x :: st) S k n := by
  intro p e s m args below meth c H locs ls hF hW hN hS hL
  exact lv_if_le hF.1 hF.2.1 hdg ht (fun z => kt z p e s m args below meth c H locs ls hF hW hN hS hL) (fun z => kf z p e s m args below meth c H locs ls hF hW hN hS hL)
theorem r_icmp_eq {g : pG} {M : pM} {E : pE} {pc : Nat} {L : pL} {st : List Value} {S : pS} {k n : Nat} {x y : Int32} {off : Int} {tgt : Nat} (hdg : decode M.2.1 pc = .ok (.if_icmp .eq off, 3)) (ht : (pc : Int) + off = (tgt : Int)) (kt : x = y → PW g M E tgt L st S k n) (kf : ¬ x = y → PW g M E (pc + 3) L st S k n) : PW g M E pc L (.int y :: .int x :: st) S k n := by
  intro p e s m args below meth c H locs ls hF hW hN hS hL
  exact lv_icmp_eq hF.1 hF.2.1 hdg ht (fun z => kt z p e s m args below meth c H locs ls hF hW hN hS hL) (fun z => kf z p e s m args below meth c H locs ls hF hW hN hS hL)
theorem r_icmp_ne {g : pG} {M : pM} {E : pE} {pc : Nat} {L : pL} {st : List Value} {S : pS} {k n : Nat} {x y : Int32} {off : Int} {tgt : Nat} (hdg : decode M.2.1 pc = .ok (.if_icmp .ne off, 3)) (ht : (pc : Int) + off = (tgt : Int)) (kt : ¬ x = y → PW g M E tgt L st S k n) (kf : x = y → PW g M E (pc + 3) L st S k n) : PW g M E pc L (.int y :: .int x :: st) S k n := by
  intro p e s m args below meth c H locs ls hF hW hN hS hL
  exact lv_icmp_ne hF.1 hF.2.1 hdg ht (fun z => kt z p e s m args below meth c H locs ls hF hW hN hS hL) (fun z => kf z p e s m args below meth c H locs ls hF hW hN hS hL)
theorem r_icmp_lt {g : pG} {M : pM} {E : pE} {pc : Nat} {L : pL} {st : List Value} {S : pS} {k n : Nat} {x y : Int32} {off : Int} {tgt : Nat} (hdg : decode M.2.1 pc = .ok (.if_icmp .lt off, 3)) (ht : (pc : Int) + off = (tgt : Int)) (kt : x < y → PW g M E tgt L st S k n) (kf : ¬ x < y → PW g M E (pc + 3) L st S k n) : PW g M E pc L (.int y :: .int x :: st) S k n := by
  intro p e s m args below meth c H locs ls hF hW hN hS hL
  exact lv_icmp_lt hF.1 hF.2.1 hdg ht (fun z => kt z p e s m args below meth c H locs ls hF hW hN hS hL) (fun z => kf z p e s m args below meth c H locs ls hF hW hN hS hL)
theorem r_icmp_ge {g : pG} {M : pM} {E : pE} {pc : Nat} {L : pL} {st : List Value} {S : pS} {k n : Nat} {x y : Int32} {off : Int} {tgt : Nat} (hdg : decode M.2.1 pc = .ok (.if_icmp .ge off, 3)) (ht : (pc : Int) + off = (tgt : Int)) (kt : y ≤ x → PW g M E tgt L st S k n) (kf : ¬ y ≤ x → PW g M E (pc + 3) L st S k n) : PW g M E pc L (.int y :: .int x :: st) S k n := by
  intro p e s m args below meth c H locs ls hF hW hN hS hL
  exact lv_icmp_ge hF.1 hF.2.1 hdg ht (fun z => kt z p e s m args below meth c H locs ls hF hW hN hS hL) (fun z => kf z p e s m args below meth c H locs ls hF hW hN hS hL)
theorem r_icmp_gt {g : pG} {M : pM} {E : pE} {pc : Nat} {L : pL} {st : List Value} {S : pS} {k n : Nat} {x y : Int32} {off : Int} {tgt : Nat} (hdg : decode M.2.1 pc = .ok (.if_icmp .gt off, 3)) (ht : (pc : Int) + off = (tgt : Int)) (kt : y < x → PW g M E tgt L st S k n) (kf : ¬ y < x → PW g M E (pc + 3) L st S k n) : PW g M E pc L (.int y :: .int x :: st) S k n := by
  intro p e s m args below meth c H locs ls hF hW hN hS hL
  exact lv_icmp_gt hF.1 hF.2.1 hdg ht (fun z => kt z p e s m args below meth c H locs ls hF hW hN hS hL) (fun z => kf z p e s m args below meth c H locs ls hF hW hN hS hL)
theorem r_icmp_le {g : pG} {M : pM} {E : pE} {pc : Nat} {L : pL} {st : List Value} {S : pS} {k n : Nat} {x y : Int32} {off : Int} {tgt : Nat} (hdg : decode M.2.1 pc = .ok (.if_icmp .le off, 3)) (ht : (pc : Int) + off = (tgt : Int)) (kt : x ≤ y → PW g M E tgt L st S k n) (kf : ¬ x ≤ y → PW g M E (pc + 3) L st S k n) : PW g M E pc L (.int y :: .int x :: st) S k n := by
  intro p e s m args below meth c H locs ls hF hW hN hS hL
  exact lv_icmp_le hF.1 hF.2.1 hdg ht (fun z => kt z p e s m args below meth c H locs ls hF hW hN hS hL) (fun z => kf z p e s m args below meth c H locs ls hF hW hN hS hL)
theorem r_goto {g : pG} {M : pM} {E : pE} {pc : Nat} {L : pL} {st : List Value} {S : pS} {k n : Nat} {off : Int} {tgt : Nat} (hdg : decode M.2.1 pc = .ok (.goto off, 3)) (ht : (pc : Int) + off = (tgt : Int)) (kk : PW g M E tgt L st S k n) : PW g M E pc L st S k n := by
  intro p e s m args below meth c H locs ls hF hW hN hS hL
  exact lv_goto hF.1 hF.2.1 hdg ht (kk p e s m args below meth c H locs ls hF hW hN hS hL)
theorem r_lookup {g : pG} {M : pM} {E : pE} {pc : Nat} {L : pL} {st : List Value} {S : pS} {k n : Nat} {dflt : Int} {ps : Array (Int × Int)} {len : Nat} {x : Int32} {off : Int} {tgt : Nat} (hdg : decode M.2.1 pc = .ok (.lookupswitch dflt ps, len)) (hp : (ps.toList.zip (ps.toList.drop 1)).all (fun (a, next) => a.1 < next.1) = true) (ho : Op.lookupswitch.offset ps.toList dflt x.toInt = off) (ht : (pc : Int) + off = (tgt : Int)) (kk : PW g M E tgt L st S k n) : PW g M E pc L (.int x :: st) S k n := by
  intro p e s m args below meth c H locs ls hF hW hN hS hL
  exact lv_lookup hF.1 hF.2.1 hdg hp ho ht (kk p e s m args below meth c H locs ls hF hW hN hS hL)
theorem r_tableOut {g : pG} {M : pM} {E : pE} {pc : Nat} {L : pL} {st : List Value} {S : pS} {k n : Nat} {dflt lo hi : Int} {offs : Array Int} {len : Nat} {x : Int32} {tgt : Nat} (hdg : decode M.2.1 pc = .ok (.tableswitch dflt lo hi offs, len)) (h : x.toInt < lo ∨ hi < x.toInt) (ht : (pc : Int) + dflt = (tgt : Int)) (kk : PW g M E tgt L st S k n) : PW g M E pc L (.int x :: st) S k n := by
  intro p e s m args below meth c H locs ls hF hW hN hS hL
  exact lv_tableOut hF.1 hF.2.1 hdg h ht (kk p e s m args below meth c H locs ls hF hW hN hS hL)
theorem r_tableIn {g : pG} {M : pM} {E : pE} {pc : Nat} {L : pL} {st : List Value} {S : pS} {k n : Nat} {dflt lo hi : Int} {offs : Array Int} {len : Nat} {x : Int32} {off : Int} {tgt : Nat} (hdg : decode M.2.1 pc = .ok (.tableswitch dflt lo hi offs, len)) (h1 : ¬ x.toInt < lo) (h2 : ¬ hi < x.toInt) (ho : offs[(x.toInt - lo).toNat]? = some off) (ht : (pc : Int) + off = (tgt : Int)) (kk : PW g M E tgt L st S k n) : PW g M E pc L (.int x :: st) S k n := by
  intro p e s m args below meth c H locs ls hF hW hN hS hL
  exact lv_tableIn hF.1 hF.2.1 hdg h1 h2 ho ht (kk p e s m args below meth c H locs ls hF hW hN hS hL)
end
section
/-! ===== rows: locals, fields, arrays ===== -/
theorem r_iload_n {g : pG} {M : pM} {E : pE} {pc : Nat} {L : pL} {st : List Value} {S : pS} {k n : Nat} {k0 : Fin 4} {i : Nat} {x : Int32} (d : decode M.2.1 pc = .ok (.iload_n k0, 1)) (hi : (k0 : Nat) = i) (hl : L[i]? = some (some (.int x))) (kk : PW g M E (pc + 1) L (.int x :: st) S k n) : PW g M E pc L st S k n := by
  intro p e s m args below meth c H locs ls hF hW hN hS hL
  exact lv_iload_n hF.1 hF.2.1 d hi (lk_at hL hl) (kk p e s m args below meth c H locs ls hF hW hN hS hL)
theorem r_iload {g : pG} {M : pM} {E : pE} {pc : Nat} {L : pL} {st : List Value} {S : pS} {k n : Nat} {i : Nat} {x : Int32} (d : decode M.2.1 pc = .ok (.iload i, 2)) (hl : L[i]? = some (some (.int x))) (kk : PW g M E (pc + 2) L (.int x :: st) S k n) : PW g M E pc L st S k n := by
  intro p e s m args below meth c H locs ls hF hW hN hS hL
  exact lv_iload hF.1 hF.2.1 d (lk_at hL hl) (kk p e s m args below meth c H locs ls hF hW hN hS hL)
theorem r_istore_n {g : pG} {M : pM} {E : pE} {pc : Nat} {L : pL} {st : List Value} {S : pS} {k n : Nat} {k0 : Fin 4} {i : Nat} {x : Int32} (d : decode M.2.1 pc = .ok (.istore_n k0, 1)) (hi : (k0 : Nat) = i) (hn : i < M.2.2.1) (kk : PW g M E (pc + 1) (stL L i (.int x)) st S k n) : PW g M E pc L (.int x :: st) S k n := by
  intro p e s m args below meth c H locs ls hF hW hN hS hL
  exact lv_istore_n hF.1 hF.2.1 d hi hL hn rfl (fun ls' h' => kk p e s m args below meth c H locs ls' hF hW hN hS (lk_st h'))
theorem r_istore {g : pG} {M : pM} {E : pE} {pc : Nat} {L : pL} {st : List Value} {S : pS} {k n : Nat} {i : Nat} {x : Int32} (d : decode M.2.1 pc = .ok (.istore i, 2)) (hn : i < M.2.2.1) (kk : PW g M E (pc + 2) (stL L i (.int x)) st S k n) : PW g M E pc L (.int x :: st) S k n := by
  intro p e s m args below meth c H locs ls hF hW hN hS hL
  exact lv_istore hF.1 hF.2.1 d hL hn rfl (fun ls' h' => kk p e s m args below meth c H locs ls' hF hW hN hS (lk_st h'))
theorem r_lload_n {g : pG} {M : pM} {E : pE} {pc : Nat} {L : pL} {st : List Value} {S : pS} {k n : Nat} {k0 : Fin 4} {i : Nat} {x : Int64} (d : decode M.2.1 pc = .ok (.lload_n k0, 1)) (hi : (k0 : Nat) = i) (hl : L[i]? = some (some (.long x))) (kk : PW g M E (pc + 1) L (.long x :: st) S k n) : PW g M E pc L st S k n := by
  intro p e s m args below meth c H locs ls hF hW hN hS hL
  exact lv_lload_n hF.1 hF.2.1 d hi (lk_at hL hl) (kk p e s m args below meth c H locs ls hF hW hN hS hL)
theorem r_lload {g : pG} {M : pM} {E : pE} {pc : Nat} {L : pL} {st : List Value} {S : pS} {k n : Nat} {i : Nat} {x : Int64} (d : decode M.2.1 pc = .ok (.lload i, 2)) (hl : L[i]? = some (some (.long x))) (kk : PW g M E (pc + 2) L (.long x :: st) S k n) : PW g M E pc L st S k n := by
  intro p e s m args below meth c H locs ls hF hW hN hS hL
  exact lv_lload hF.1 hF.2.1 d (lk_at hL hl) (kk p e s m args below meth c H locs ls hF hW hN hS hL)
theorem r_lstore_n {g : pG} {M : pM} {E : pE} {pc : Nat} {L : pL} {st : List Value} {S : pS} {k n : Nat} {k0 : Fin 4} {i : Nat} {x : Int64} (d : decode M.2.1 pc = .ok (.lstore_n k0, 1)) (hi : (k0 : Nat) = i) (hn : i + 1 < M.2.2.1) (kk : PW g M E (pc + 1) (stL2 L i (.long x)) st S k n) : PW g M E pc L (.long x :: st) S k n := by
  intro p e s m args below meth c H locs ls hF hW hN hS hL
  exact lv_lstore_n hF.1 hF.2.1 d hi hL hn rfl (fun ls' h' => kk p e s m args below meth c H locs ls' hF hW hN hS (lk_st2 h'))
theorem r_lstore {g : pG} {M : pM} {E : pE} {pc : Nat} {L : pL} {st : List Value} {S : pS} {k n : Nat} {i : Nat} {x : Int64} (d : decode M.2.1 pc = .ok (.lstore i, 2)) (hn : i + 1 < M.2.2.1) (kk : PW g M E (pc + 2) (stL2 L i (.long x)) st S k n) : PW g M E pc L (.long x :: st) S k n := by
  intro p e s m args below meth c H locs ls hF hW hN hS hL
  exact lv_lstore hF.1 hF.2.1 d hL hn rfl (fun ls' h' => kk p e s m args below meth c H locs ls' hF hW hN hS (lk_st2 h'))
theorem r_aload_n {g : pG} {M : pM} {E : pE} {pc : Nat} {L : pL} {st : List Value} {S : pS} {k n : Nat} {k0 : Fin 4} {i : Nat} {x : Nat} (d : decode M.2.1 pc = .ok (.aload_n k0, 1)) (hi : (k0 : Nat) = i) (hl : L[i]? = some (some (.ref x))) (kk : PW g M E (pc + 1) L (.ref x :: st) S k n) : PW g M E pc L st S k n := by
  intro p e s m args below meth c H locs ls hF hW hN hS hL
  exact lv_aload_n hF.1 hF.2.1 d hi (lk_at hL hl) (kk p e s m args below meth c H locs ls hF hW hN hS hL)
theorem r_aload {g : pG} {M : pM} {E : pE} {pc : Nat} {L : pL} {st : List Value} {S : pS} {k n : Nat} {i : Nat} {x : Nat} (d : decode M.2.1 pc = .ok (.aload i, 2)) (hl : L[i]? = some (some (.ref x))) (kk : PW g M E (pc + 2) L (.ref x :: st) S k n) : PW g M E pc L st S k n := by
  intro p e s m args below meth c H locs ls hF hW hN hS hL
  exact lv_aload hF.1 hF.2.1 d (lk_at hL hl) (kk p e s m args below meth c H locs ls hF hW hN hS hL)
theorem r_astore_n {g : pG} {M : pM} {E : pE} {pc : Nat} {L : pL} {st : List Value} {S : pS} {k n : Nat} {k0 : Fin 4} {i : Nat} {x : Nat} (d : decode M.2.1 pc = .ok (.astore_n k0, 1)) (hi : (k0 : Nat) = i) (hn : i < M.2.2.1) (kk : PW g M E (pc + 1) (stL L i (.ref x)) st S k n) : PW g M E pc L (.ref x :: st) S k n := by
  intro p e s m args below meth c H locs ls hF hW hN hS hL
  exact lv_astore_n hF.1 hF.2.1 d hi hL hn rfl (fun ls' h' => kk p e s m args below meth c H locs ls' hF hW hN hS (lk_st h'))
theorem r_astore {g : pG} {M : pM} {E : pE} {pc : Nat} {L : pL} {st : List Value} {S : pS} {k n : Nat} {i : Nat} {x : Nat} (d : decode M.2.1 pc = .ok (.astore i, 2)) (hn : i < M.2.2.1) (kk : PW g M E (pc + 2) (stL L i (.ref x)) st S k n) : PW g M E pc L (.ref x :: st) S k n := by
  intro p e s m args below meth c H locs ls hF hW hN hS hL
  exact lv_astore hF.1 hF.2.1 d hL hn rfl (fun ls' h' => kk p e s m args below meth c H locs ls' hF hW hN hS (lk_st h'))
theorem r_iinc {g : pG} {M : pM} {E : pE} {pc : Nat} {L : pL} {st : List Value} {S : pS} {k n : Nat} {i : Nat} {c0 : Int} {x v : Int32} (d : decode M.2.1 pc = .ok (.iinc i c0, 3)) (hl : L[i]? = some (some (.int x))) (hv : x + Int32.ofInt c0 = v) (hn : i < M.2.2.1) (kk : PW g M E (pc + 3) (stL L i (.int v)) st S k n) : PW g M E pc L st S k n := by
  intro p e s m args below meth c H locs ls hF hW hN hS hL
  obtain ⟨j, hj⟩ := List.getElem?_of_mem ((lvF_mem (ad := gad g) L 0).mpr ⟨Nat.zero_le _, _, hl, rfl⟩)
  exact lv_iinc (v := v) hF.1 hF.2.1 d hL hj hv hn rfl (fun ls' h' => kk p e s m args below meth c H locs ls' hF hW hN hS (lk_st h'))
theorem r_dup {g : pG} {M : pM} {E : pE} {pc : Nat} {L : pL} {st : List Value} {S : pS} {k n : Nat} {v : Value} (d : decode M.2.1 pc = .ok (.dup, 1)) (hc : v.category = 1) (kk : PW g M E (pc + 1) L (v :: v :: st) S k n) : PW g M E pc L (v :: st) S k n := by
  intro p e s m args below meth c H locs ls hF hW hN hS hL
  exact lv_dup hF.1 hF.2.1 d (by rw [vr_cat]; exact hc) (kk p e s m args below meth c H locs ls hF hW hN hS hL)
theorem r_pop {g : pG} {M : pM} {E : pE} {pc : Nat} {L : pL} {st : List Value} {S : pS} {k n : Nat} {v : Value} (d : decode M.2.1 pc = .ok (.pop, 1)) (hc : v.category = 1) (kk : PW g M E (pc + 1) L st S k n) : PW g M E pc L (v :: st) S k n := by
  intro p e s m args below meth c H locs ls hF hW hN hS hL
  exact lv_pop hF.1 hF.2.1 d (by rw [vr_cat]; exact hc) (kk p e s m args below meth c H locs ls hF hW hN hS hL)
theorem r_dup_x1 {g : pG} {M : pM} {E : pE} {pc : Nat} {L : pL} {st : List Value} {S : pS} {k n : Nat} {v w : Value} (d : decode M.2.1 pc = .ok (.dup_x1, 1)) (hc : v.category = 1) (hc2 : w.category = 1) (kk : PW g M E (pc + 1) L (v :: w :: v :: st) S k n) : PW g M E pc L (v :: w :: st) S k n := by
  intro p e s m args below meth c H locs ls hF hW hN hS hL
  exact lv_dup_x1 hF.1 hF.2.1 d (by rw [vr_cat]; exact hc) (by rw [vr_cat]; exact hc2) (kk p e s m args below meth c H locs ls hF hW hN hS hL)
theorem r_dup2 {g : pG} {M : pM} {E : pE} {pc : Nat} {L : pL} {st : List Value} {S : pS} {k n : Nat} {v w : Value} (d : decode M.2.1 pc = .ok (.dup2, 1)) (hc : v.category = 1) (hc2 : w.category = 1) (kk : PW g M E (pc + 1) L (v :: w :: v :: w :: st) S k n) : PW g M E pc L (v :: w :: st) S k n := by
  intro p e s m args below meth c H locs ls hF hW hN hS hL
  exact lv_dup2_11 hF.1 hF.2.1 d (by rw [vr_cat]; exact hc) (by rw [vr_cat]; exact hc2) (kk p e s m args below meth c H locs ls hF hW hN hS hL)
theorem r_lcmp {g : pG} {M : pM} {E : pE} {pc : Nat} {L : pL} {st : List Value} {S : pS} {k n : Nat} {x y : Int64} (d : decode M.2.1 pc = .ok (.lcmp, 1)) (kk : PW g M E (pc + 1) L (.int (lg_cmp x y) :: st) S k n) : PW g M E pc L (.long y :: .long x :: st) S k n := by
  intro p e s m args below meth c H locs ls hF hW hN hS hL
  exact W.lcmp hF.1 hF.2.1 d (kk p e s m args below meth c H locs ls hF hW hN hS hL)
theorem r_ldc {g : pG} {M : pM} {E : pE} {pc : Nat} {L : pL} {st : List Value} {S : pS} {k n : Nat} {idx : Nat} {v : Int32} (d : decode M.2.1 pc = .ok (.ldc idx, 2)) (hc : Cond.constant M.1.cls idx v ∈ gT) (kk : PW g M E (pc + 2) L (.int v :: st) S k n) : PW g M E pc L st S k n := by
  intro p e s m args below meth c H locs ls hF hW hN hS hL
  exact lv_ldc hF.1 hF.2.1 hF.2.2.2.2.1 (hF.2.2.2.2.2.1 _ (wsM_t hc)) d (kk p e s m args below meth c H locs ls hF hW hN hS hL)
theorem r_ldcw {g : pG} {M : pM} {E : pE} {pc : Nat} {L : pL} {st : List Value} {S : pS} {k n : Nat} {idx : Nat} {v : Int32} (d : decode M.2.1 pc = .ok (.ldc_w idx, 3)) (hc : Cond.constant M.1.cls idx v ∈ gT) (kk : PW g M E (pc + 3) L (.int v :: st) S k n) : PW g M E pc L st S k n := by
  intro p e s m args below meth c H locs ls hF hW hN hS hL
  exact lv_ldcw hF.1 hF.2.1 hF.2.2.2.2.1 (hF.2.2.2.2.2.1 _ (wsM_t hc)) d (kk p e s m args below meth c H locs ls hF hW hN hS hL)
theorem r_ldc2 {g : pG} {M : pM} {E : pE} {pc : Nat} {L : pL} {st : List Value} {S : pS} {k n : Nat} {idx : Nat} {v : Int64} (d : decode M.2.1 pc = .ok (.ldc2_w idx, 3)) (hc : Cond.constantLong M.1.cls idx v ∈ gT) (kk : PW g M E (pc + 3) L (.long v :: st) S k n) : PW g M E pc L st S k n := by
  intro p e s m args below meth c H locs ls hF hW hN hS hL
  exact lv_ldc2 hF.1 hF.2.1 hF.2.2.2.2.1 (hF.2.2.2.2.2.1 _ (wsM_t hc)) d (kk p e s m args below meth c H locs ls hF hW hN hS hL)
theorem r_ldcS {g : pG} {M : pM} {E : pE} {pc : Nat} {L : pL} {st : List Value} {S : pS} {k n : Nat} {k0 : Nat} (hy : M.1.cls = "TonightCovers$Tape") (hk : k0 < 14) (d : decode M.2.1 pc = .ok (.ldc (100 + 2 * k0), 2)) (kk : PW g M E (pc + 2) L (.ref (1000 + k0) :: st) S k n) : PW g M E pc L st S k n := by
  intro p e s m args below meth c H locs ls hF hW hN hS hL
  exact va_ldcS hF.1 hF.2.1 (hy ▸ hF.2.2.2.2.1) (hF.2.2.2.2.2.2.2.2.2.1.2.2.1 k0 hk) d (kk p e s m args below meth c H locs ls hF hW hN hS hL)
theorem r_gets {g : pG} {M : pM} {E : pE} {pc : Nat} {L : pL} {st : List Value} {S : pS} {k n : Nat} {idx k0 : Nat} (hk : k0 < 3) (d : decode M.2.1 pc = .ok (.getstatic idx, 3)) (hl : Cond.fieldLink M.1.cls idx "TonightCovers" (kN k0) "[I" ∈ gT) (kk : PW g M E (pc + 3) L (.ref (2000 + k0) :: st) S k n) : PW g M E pc L st S k n := by
  intro p e s m args below meth c H locs ls hF hW hN hS hL
  exact va_gets hF.1 hF.2.1 (hF.2.2.2.2.2.2.2.2.2.1.1 k0 hk).1 hS hF.2.2.2.2.1 (hF.2.2.2.2.2.1 _ (wsM_t hl)) (fun _ h => h) d (kk p e s m args below meth c H locs ls hF hW hN hS hL)
theorem r_getsN {g : pG} {M : pM} {E : pE} {pc : Nat} {L : pL} {st : List Value} {S : pS} {k n : Nat} {idx k0 : Nat} (hk : k0 < 3) (d : decode M.2.1 pc = .ok (.getstatic idx, 3)) (hl : (M.1.cls, idx, kN k0) ∈ xFN) (kk : PW g M E (pc + 3) L (.ref (2000 + k0) :: st) S k n) : PW g M E pc L st S k n := by
  intro p e s m args below meth c H locs ls hF hW hN hS hL
  exact va_getsN hF.1 hF.2.1 (hF.K.1 k0 hk).1 hS hF.own (va_Nw.use rfl (hF.K.2.2.2.2.2.2.1 _ hl)) (fun _ h => h) d (kk p e s m args below meth c H locs ls hF hW hN hS hL)
theorem r_taldN {g : pG} {M : pM} {E : pE} {pc : Nat} {L : pL} {st : List Value} {S : pS} {k n : Nat} {x : Int32} {k0 j : Nat} (hk : k0 < 3) (hx : x = nI j) (hj : j < (kL k0).length) (d : decode M.2.1 pc = .ok (.iaload, 1)) (kk : PW g M E (pc + 1) L (.int (kF k0 j) :: st) S k n) : PW g M E pc L (.int x :: .ref (2000 + k0) :: st) S k n := by
  intro p e s m args below meth c H locs ls hF hW hN hS hL
  have hl : (kL k0).length < 2 ^ 31 := by
    rcases (by omega : k0 = 0 ∨ k0 = 1 ∨ k0 = 2) with rfl | rfl | rfl <;> decide
  subst hx
  exact va_ti hF.1 hF.2.1 (hF.2.2.2.2.2.2.2.2.2.1.1 k0 hk).2 hS (vp_in_nI hj hl) (v := .int (kF k0 j)) (by rw [nI_clamp (by omega)]) d (kk p e s m args below meth c H locs ls hF hW hN hS hL)
theorem r_getI {g : pG} {M : pM} {E : pE} {pc : Nat} {L : pL} {st : List Value} {S : pS} {k n : Nat} {idx ci kf i : Nat} {ref : String} (d : decode M.2.1 pc = .ok (.getfield idx, 3)) (hs : S.2.1 i = .inr ci) (hi : i < S.1) (hci : ci < 13) (hk : kf < clN ci) (hrf : isRf (clTy ci kf) = false) (hl : Cond.fieldLink M.1.cls idx ref (clT ci kf).2.1 (clT ci kf).2.2.1 ∈ gT) (hsm : ref = (clT ci kf).1 ∨ Cond.sameField ref (clT ci kf).1 (clT ci kf).2.1 (clT ci kf).2.2.1 ∈ gT) (kk : PW g M E (pc + 3) L (.int (S.2.2.2 i kf) :: st) S k n) : PW g M E pc L (.ref i :: st) S k n := by
  intro p e s m args below meth c H locs ls hF hW hN hS hL
  have hsame : ∀ x, s.fieldFound? (clT ci kf).1 (clT ci kf).2.1 (clT ci kf).2.2.1 = some x → s.fieldFound? ref (clT ci kf).2.1 (clT ci kf).2.2.1 = some x := by
    rcases hsm with h | h
    · intro x hx; rw [h]; exact hx
    · exact u_same (hF.2.2.2.2.2.1 _ (wsM_t h))
  have hv : fdOf (gad g) S i ci kf = .int (S.2.2.2 i kf) := by unfold fdOf; rw [if_neg (by rw [hrf]; decide)]
  have h := kk p e s m args below meth c H locs ls hF hW hN hS hL
  exact va_get hF.1 hF.2.1 (Ts := wsM M) hF.2.2.2.2.2.1 (fun w h => wsM_t (cl_in hci w h)) hF.2.2.2.2.1 hW.K hW.P i ((wsOf_get hi).trans (by rw [cellOf_o hs])) (cl_some hci) kf hk (hF.2.2.2.2.2.1 _ (wsM_t hl)) hsame (fsOf_get hk) d (by rw [hv]; exact h)
theorem r_getR {g : pG} {M : pM} {E : pE} {pc : Nat} {L : pL} {st : List Value} {S : pS} {k n : Nat} {q : Nat} {idx ci kf i : Nat} {ref : String} (d : decode M.2.1 pc = .ok (.getfield idx, 3)) (hs : S.2.1 i = .inr ci) (hi : i < S.1) (hci : ci < 13) (hk : kf < clN ci) (hrf : isRf (clTy ci kf) = true) (hl : Cond.fieldLink M.1.cls idx ref (clT ci kf).2.1 (clT ci kf).2.2.1 ∈ gT) (hsm : ref = (clT ci kf).1 ∨ Cond.sameField ref (clT ci kf).1 (clT ci kf).2.1 (clT ci kf).2.2.1 ∈ gT) (hr : S.2.2.1 i kf = some q) (kk : PW g M E (pc + 3) L (.ref q :: st) S k n) : PW g M E pc L (.ref i :: st) S k n := by
  intro p e s m args below meth c H locs ls hF hW hN hS hL
  have hsame : ∀ x, s.fieldFound? (clT ci kf).1 (clT ci kf).2.1 (clT ci kf).2.2.1 = some x → s.fieldFound? ref (clT ci kf).2.1 (clT ci kf).2.2.1 = some x := by
    rcases hsm with h | h
    · intro x hx; rw [h]; exact hx
    · exact u_same (hF.2.2.2.2.2.1 _ (wsM_t h))
  have hv : fdOf (gad g) S i ci kf = .ref (gad g q) := by unfold fdOf; rw [if_pos hrf, hr]; rfl
  have h := kk p e s m args below meth c H locs ls hF hW hN hS hL
  exact va_get hF.1 hF.2.1 (Ts := wsM M) hF.2.2.2.2.2.1 (fun w h => wsM_t (cl_in hci w h)) hF.2.2.2.2.1 hW.K hW.P i ((wsOf_get hi).trans (by rw [cellOf_o hs])) (cl_some hci) kf hk (hF.2.2.2.2.2.1 _ (wsM_t hl)) hsame (fsOf_get hk) d (by rw [hv]; exact h)
theorem r_putI {g : pG} {M : pM} {E : pE} {pc : Nat} {L : pL} {st : List Value} {S : pS} {k n : Nat} {v : Int32} {idx ci kf i : Nat} {ref : String} (d : decode M.2.1 pc = .ok (.putfield idx, 3)) (hs : S.2.1 i = .inr ci) (hi : i < S.1) (hci : ci < 13) (hk : kf < clN ci) (hrf : isRf (clTy ci kf) = false) (hl : Cond.fieldLink M.1.cls idx ref (clT ci kf).2.1 (clT ci kf).2.2.1 ∈ gT) (hsm : ref = (clT ci kf).1 ∨ Cond.sameField ref (clT ci kf).1 (clT ci kf).2.1 (clT ci kf).2.2.1 ∈ gT) (hfin : (clT ci kf).2.2.2 = false) (hn : narrow (clTy ci kf) (.int v) = .int v) (hfit : fits (clTy ci kf) (.int v) = true) (kk : PW g M E (pc + 3) L st (mSet S i kf v) k n) : PW g M E pc L (.int v :: .ref i :: st) S k n := by
  intro p e s m args below meth c H locs ls hF hW hN hS hL
  have hsame : ∀ x, s.fieldFound? (clT ci kf).1 (clT ci kf).2.1 (clT ci kf).2.2.1 = some x → s.fieldFound? ref (clT ci kf).2.1 (clT ci kf).2.2.1 = some x := by
    rcases hsm with h | h
    · intro x hx; rw [h]; exact hx
    · exact u_same (hF.2.2.2.2.2.1 _ (wsM_t h))
  refine va_put hF.1 hF.2.1 (Ts := wsM M) hF.2.2.2.2.2.1 (fun w h => wsM_t (cl_in hci w h)) (clTy ci) (cl_ty hci) (cl_nm hci) hF.2.2.2.2.1 hW.K hW.P hW.D hS i ((wsOf_get hi).trans (by rw [cellOf_o hs])) (cl_some hci) kf hk (hF.2.2.2.2.2.1 _ (wsM_t hl)) hsame hfin (cl_ty hci kf hk) hn hfit (by rw [fsOf_len]; exact hk) d (fun H1 locs1 hP1 hD1 hS1 => ?_)
  have e1 : (fsOf (gad g) S i ci).set kf (.int v) = fsOf (gad g) (mSet S i kf v) i ci := fsOf_set (by unfold fdOf mSet; rw [if_neg (by rw [hrf]; decide)]; simp [upd]) (fun j hj => by unfold fdOf mSet; simp [upd, hj])
  have e2 : (wsOf g.2.2.1 (gad g) S).set i (gad g i, .inr (ci, (fsOf (gad g) S i ci).set kf (.int v))) = wsOf g.2.2.1 (gad g) (mSet S i kf v) := wsOf_set rfl (by rw [e1]; exact cellOf_o hs) (fun j hj => cellOf_cong rfl rfl (by simp [mSet, hj]))
  change va_P g.2.1 vwCl ((wsOf g.2.2.1 (gad g) S).set i (gad g i, .inr (ci, (fsOf (gad g) S i ci).set kf (.int v)))) H1 at hP1
  rw [e2] at hP1
  exact kk p e s m args below meth c H1 locs1 ls hF ⟨hW.1, hW.2.1, hP1, hW.K⟩ hN hS1 hL
end
section
/-! ===== rows: references, arrays ===== -/
theorem r_putR {g : pG} {M : pM} {E : pE} {pc : Nat} {L : pL} {st : List Value} {S : pS} {k n : Nat} {q : Nat} {idx ci kf i : Nat} {ref : String} (d : decode M.2.1 pc = .ok (.putfield idx, 3)) (hs : S.2.1 i = .inr ci) (hi : i < S.1) (hci : ci < 13) (hk : kf < clN ci) (hrf : isRf (clTy ci kf) = true) (hl : Cond.fieldLink M.1.cls idx ref (clT ci kf).2.1 (clT ci kf).2.2.1 ∈ gT) (hown : (clT ci kf).1 = M.1.cls) (href : ref = M.1.cls) (hfin : (clT ci kf).2.2.2 = true) (hnm : M.1.name = "<init>") (kk : PW g M E (pc + 3) L st (rSet S i kf (some q)) k n) : PW g M E pc L (.ref q :: .ref i :: st) S k n := by
  intro p e s m args below meth c H locs ls hF hW hN hS hL
  have hsame : ∀ x, s.fieldFound? (clT ci kf).1 (clT ci kf).2.1 (clT ci kf).2.2.1 = some x → s.fieldFound? ref (clT ci kf).2.1 (clT ci kf).2.2.1 = some x := by
    intro x hx; rw [href, ← hown]; exact hx
  refine va_putF hF.1 hF.2.1 (Ts := wsM M) hF.2.2.2.2.2.1 (fun w h => wsM_t (cl_in hci w h)) (clTy ci) (cl_ty hci) (cl_nm hci) hF.2.2.2.2.1 hW.K hW.P hW.D hS i ((wsOf_get hi).trans (by rw [cellOf_o hs])) (cl_some hci) kf hk (hF.2.2.2.2.2.1 _ (wsM_t hl)) hsame hfin (hF.2.2.2.2.2.2.2.1.trans hnm) hown (cl_ty hci kf hk) (by revert hrf; cases clTy ci kf <;> intro hrf <;> first | rfl | cases hrf) (by revert hrf; cases clTy ci kf <;> intro hrf <;> first | rfl | cases hrf) (by rw [fsOf_len]; exact hk) d (fun H1 locs1 hP1 hD1 hS1 => ?_)
  have e1 : (fsOf (gad g) S i ci).set kf (.ref (gad g q)) = fsOf (gad g) (rSet S i kf (some q)) i ci := fsOf_set (by unfold fdOf rSet; rw [if_pos hrf]; simp [va_up, va_rf]) (fun j hj => by unfold fdOf rSet; simp [va_up, hj])
  have e2 : (wsOf g.2.2.1 (gad g) S).set i (gad g i, .inr (ci, (fsOf (gad g) S i ci).set kf (.ref (gad g q)))) = wsOf g.2.2.1 (gad g) (rSet S i kf (some q)) := wsOf_set rfl (by rw [e1]; exact cellOf_o hs) (fun j hj => cellOf_cong rfl (by simp [rSet, hj]) rfl)
  change va_P g.2.1 vwCl ((wsOf g.2.2.1 (gad g) S).set i (gad g i, .inr (ci, (fsOf (gad g) S i ci).set kf (.ref (gad g q))))) H1 at hP1
  rw [e2] at hP1
  exact kk p e s m args below meth c H1 locs1 ls hF ⟨hW.1, hW.2.1, hP1, hW.K⟩ hN hS1 hL
theorem r_iald {g : pG} {M : pM} {E : pE} {pc : Nat} {L : pL} {st : List Value} {S : pS} {k n : Nat} {x : Int32} {i j N : Nat} (d : decode M.2.1 pc = .ok (.iaload, 1)) (hs : S.2.1 i = .inl (0, N)) (hi : i < S.1) (hx : x = nI j) (hj : j < N) (hN31 : N ≤ 2147483647) (kk : PW g M E (pc + 1) L (.int (S.2.2.2 i j) :: st) S k n) : PW g M E pc L (.int x :: .ref i :: st) S k n := by
  intro p e s m args below meth c H locs ls hF hW hN hS hL
  subst hx
  have h := kk p e s m args below meth c H locs ls hF hW hN hS hL
  exact va_iald hF.1 hF.2.1 hW.K hW.P i 0 ((wsOf_get hi).trans (by rw [cellOf_a hs (by decide)])) rfl (vp_in_nI hj (by omega)) d (by rw [nI_clamp (by omega)]; exact h)
theorem r_bald {g : pG} {M : pM} {E : pE} {pc : Nat} {L : pL} {st : List Value} {S : pS} {k n : Nat} {x : Int32} {i j N : Nat} (d : decode M.2.1 pc = .ok (.baload, 1)) (hs : S.2.1 i = .inl (1, N)) (hi : i < S.1) (hx : x = nI j) (hj : j < N) (hN31 : N ≤ 2147483647) (kk : PW g M E (pc + 1) L (.int (S.2.2.2 i j) :: st) S k n) : PW g M E pc L (.int x :: .ref i :: st) S k n := by
  intro p e s m args below meth c H locs ls hF hW hN hS hL
  subst hx
  have h := kk p e s m args below meth c H locs ls hF hW hN hS hL
  exact va_bald hF.1 hF.2.1 hW.K hW.P i 1 ((wsOf_get hi).trans (by rw [cellOf_a hs (by decide)])) rfl (vp_in_nI hj (by omega)) d (by rw [nI_clamp (by omega)]; exact h)
theorem r_cald {g : pG} {M : pM} {E : pE} {pc : Nat} {L : pL} {st : List Value} {S : pS} {k n : Nat} {x : Int32} {i j N : Nat} (d : decode M.2.1 pc = .ok (.caload, 1)) (hs : S.2.1 i = .inl (2, N)) (hi : i < S.1) (hx : x = nI j) (hj : j < N) (hN31 : N ≤ 2147483647) (kk : PW g M E (pc + 1) L (.int (S.2.2.2 i j) :: st) S k n) : PW g M E pc L (.int x :: .ref i :: st) S k n := by
  intro p e s m args below meth c H locs ls hF hW hN hS hL
  subst hx
  have h := kk p e s m args below meth c H locs ls hF hW hN hS hL
  exact va_cald hF.1 hF.2.1 hW.K hW.P i 2 ((wsOf_get hi).trans (by rw [cellOf_a hs (by decide)])) rfl (vp_in_nI hj (by omega)) d (by rw [nI_clamp (by omega)]; exact h)
theorem r_iast {g : pG} {M : pM} {E : pE} {pc : Nat} {L : pL} {st : List Value} {S : pS} {k n : Nat} {y : Int32} {x : Int32} {i j N : Nat} (d : decode M.2.1 pc = .ok (.iastore, 1)) (hs : S.2.1 i = .inl (0, N)) (hi : i < S.1) (hx : x = nI j) (hj : j < N) (hN31 : N ≤ 2147483647) (kk : PW g M E (pc + 1) L st (mSet S i j y) k n) : PW g M E pc L (.int y :: .int x :: .ref i :: st) S k n := by
  intro p e s m args below meth c H locs ls hF hW hN hS hL
  subst hx
  refine va_iast hF.1 hF.2.1 hW.K hW.P hW.D hS i 0 ((wsOf_get hi).trans (by rw [cellOf_a hs (by decide)])) rfl (vp_in_nI hj (by omega)) d (fun H1 locs1 hP1 hD1 hS1 => ?_)
  rw [nI_clamp (by omega)] at hP1
  have e2 : (wsOf g.2.2.1 (gad g) S).set i (gad g i, .inl (g.2.2.1 0, N, .inl (upd (S.2.2.2 i) j y))) = wsOf g.2.2.1 (gad g) (mSet S i j y) := wsOf_set rfl ((cellOf_a (S := mSet S i j y) hs (by decide)).trans (by simp [mSet])) (fun q hq => cellOf_cong rfl rfl (by simp [mSet, hq]))
  rw [e2] at hP1
  exact kk p e s m args below meth c H1 locs1 ls hF ⟨hW.1, hW.2.1, hP1, hW.K⟩ hN hS1 hL
theorem r_bast {g : pG} {M : pM} {E : pE} {pc : Nat} {L : pL} {st : List Value} {S : pS} {k n : Nat} {y : Int32} {x : Int32} {i j N : Nat} (d : decode M.2.1 pc = .ok (.bastore, 1)) (hs : S.2.1 i = .inl (1, N)) (hi : i < S.1) (hx : x = nI j) (hj : j < N) (hN31 : N ≤ 2147483647) (kk : PW g M E (pc + 1) L st (mSet S i j (vp_nar .byte y)) k n) : PW g M E pc L (.int y :: .int x :: .ref i :: st) S k n := by
  intro p e s m args below meth c H locs ls hF hW hN hS hL
  subst hx
  refine va_bast hF.1 hF.2.1 hW.K hW.P hW.D hS i 1 ((wsOf_get hi).trans (by rw [cellOf_a hs (by decide)])) rfl (vp_in_nI hj (by omega)) d (fun H1 locs1 hP1 hD1 hS1 => ?_)
  rw [nI_clamp (by omega)] at hP1
  have e2 : (wsOf g.2.2.1 (gad g) S).set i (gad g i, .inl (g.2.2.1 1, N, .inl (upd (S.2.2.2 i) j (vp_nar .byte y)))) = wsOf g.2.2.1 (gad g) (mSet S i j (vp_nar .byte y)) := wsOf_set rfl ((cellOf_a (S := mSet S i j (vp_nar .byte y)) hs (by decide)).trans (by simp [mSet])) (fun q hq => cellOf_cong rfl rfl (by simp [mSet, hq]))
  rw [e2] at hP1
  exact kk p e s m args below meth c H1 locs1 ls hF ⟨hW.1, hW.2.1, hP1, hW.K⟩ hN hS1 hL
theorem r_cast {g : pG} {M : pM} {E : pE} {pc : Nat} {L : pL} {st : List Value} {S : pS} {k n : Nat} {y : Int32} {x : Int32} {i j N : Nat} (d : decode M.2.1 pc = .ok (.castore, 1)) (hs : S.2.1 i = .inl (2, N)) (hi : i < S.1) (hx : x = nI j) (hj : j < N) (hN31 : N ≤ 2147483647) (kk : PW g M E (pc + 1) L st (mSet S i j (vp_nar .char y)) k n) : PW g M E pc L (.int y :: .int x :: .ref i :: st) S k n := by
  intro p e s m args below meth c H locs ls hF hW hN hS hL
  subst hx
  refine va_cast hF.1 hF.2.1 hW.K hW.P hW.D hS i 2 ((wsOf_get hi).trans (by rw [cellOf_a hs (by decide)])) rfl (vp_in_nI hj (by omega)) d (fun H1 locs1 hP1 hD1 hS1 => ?_)
  rw [nI_clamp (by omega)] at hP1
  have e2 : (wsOf g.2.2.1 (gad g) S).set i (gad g i, .inl (g.2.2.1 2, N, .inl (upd (S.2.2.2 i) j (vp_nar .char y)))) = wsOf g.2.2.1 (gad g) (mSet S i j (vp_nar .char y)) := wsOf_set rfl ((cellOf_a (S := mSet S i j (vp_nar .char y)) hs (by decide)).trans (by simp [mSet])) (fun q hq => cellOf_cong rfl rfl (by simp [mSet, hq]))
  rw [e2] at hP1
  exact kk p e s m args below meth c H1 locs1 ls hF ⟨hW.1, hW.2.1, hP1, hW.K⟩ hN hS1 hL
theorem r_aaldP {g : pG} {M : pM} {E : pE} {pc : Nat} {L : pL} {st : List Value} {S : pS} {k n : Nat} {q : Nat} {x : Int32} {i j N : Nat} (d : decode M.2.1 pc = .ok (.aaload, 1)) (hs : S.2.1 i = .inl (3, N)) (hi : i < S.1) (hx : x = nI j) (hj : j < N) (hN31 : N ≤ 2147483647) (hr : S.2.2.1 i j = some q) (kk : PW g M E (pc + 1) L (.ref q :: st) S k n) : PW g M E pc L (.int x :: .ref i :: st) S k n := by
  intro p e s m args below meth c H locs ls hF hW hN hS hL
  subst hx
  have h := kk p e s m args below meth c H locs ls hF hW hN hS hL
  exact va_aldq hF.1 hF.2.1 hW.K hW.P i 3 (C := "TonightCovers$Player") ((wsOf_get hi).trans (by rw [cellOf_q hs (by decide)])) rfl (vp_in_nI hj (by omega)) d (by rw [nI_clamp (by omega), hr]; exact h)
theorem r_aastP {g : pG} {M : pM} {E : pE} {pc : Nat} {L : pL} {st : List Value} {S : pS} {k n : Nat} {q ci : Nat} {x : Int32} {i j N : Nat} (d : decode M.2.1 pc = .ok (.aastore, 1)) (hs : S.2.1 i = .inl (3, N)) (hi : i < S.1) (hx : x = nI j) (hj : j < N) (hN31 : N ≤ 2147483647) (hs2 : S.2.1 q = .inr ci) (hi2 : q < S.1) (hci : ci < 13) (hca : clC ci = "TonightCovers$Player" ∨ clC ci ∈ xCS) (kk : PW g M E (pc + 1) L st (rSet S i j (some q)) k n) : PW g M E pc L (.ref q :: .int x :: .ref i :: st) S k n := by
  intro p e s m args below meth c H locs ls hF hW hN hS hL
  subst hx
  have hv : (wsOf g.2.2.1 (gad g) S)[q]? = some (gad g q, .inr (ci, fsOf (gad g) S q ci)) := (wsOf_get hi2).trans (by rw [cellOf_o hs2])
  have ha : (wsOf g.2.2.1 (gad g) S)[i]? = some (gad g i, .inl (g.2.2.1 3, N, .inr (.inr (.inr (.inr (fun j => (S.2.2.1 i j).map (gad g))))))) := (wsOf_get hi).trans (by rw [cellOf_q hs (by decide)])
  have go : ∀ (H1 : Heap) (locs1 : List Loc), va_P g.2.1 vwCl ((wsOf g.2.2.1 (gad g) S).set i (gad g i, .inl (g.2.2.1 3, N, .inr (.inr (.inr (.inr (va_up (fun j => (S.2.2.1 i j).map (gad g)) (nI j).toNatClampNeg (some (gad g q)))))))))  H1 → va_S (pA g) s.heap H1 locs1 → W p g.1 e E.1 s m args below meth c H1 locs1 k n (E.2.2 below args s) (F0 m (pc + 1) ls (st.map (vr (gad g)))) := by
    intro H1 locs1 hP1 hS1
    rw [nI_clamp (by omega)] at hP1
    have e2 : (wsOf g.2.2.1 (gad g) S).set i (gad g i, .inl (g.2.2.1 3, N, .inr (.inr (.inr (.inr (va_up (fun j => (S.2.2.1 i j).map (gad g)) j (some (gad g q)))))))) = wsOf g.2.2.1 (gad g) (rSet S i j (some q)) := by
      refine wsOf_set rfl ((cellOf_q (S := rSet S i j (some q)) hs (by decide)).trans ?_) (fun q2 hq => cellOf_cong rfl (by simp [rSet, hq]) rfl)
      have e3 : (fun z => ((rSet S i j (some q)).2.2.1 i z).map (gad g)) = va_up (fun j => (S.2.2.1 i j).map (gad g)) j (some (gad g q)) := by
        funext z
        by_cases hz : z = j
        · subst hz; simp [rSet, va_up]
        · simp [rSet, va_up, hz]
      rw [e3]
    rw [e2] at hP1
    exact kk p e s m args below meth c H1 locs1 ls hF ⟨hW.1, hW.2.1, hP1, hW.K⟩ hN hS1 hL
  rcases hca with hc | hc
  · exact va_astq hF.1 hF.2.1 hW.K hW.P hW.D hS i 3 q ci ha (by rw [show (clC ci, clT ci, clN ci).1 = _ from hc]; rfl) hv (cl_some hci) (vp_in_nI hj (by omega)) d (fun H1 locs1 hP1 _ hS1 => go H1 locs1 hP1 hS1)
  · exact va_astqO hF.1 hF.2.1 hW.K hW.P hW.D hS i 3 q ci (E := "TonightCovers$Player") ha rfl (hF.K.2.2.2.2.2.2.2.1 _ hc) hv (cl_some hci) (vp_in_nI hj (by omega)) d (fun H1 locs1 hP1 _ hS1 => go H1 locs1 hP1 hS1)
theorem r_aaldS {g : pG} {M : pM} {E : pE} {pc : Nat} {L : pL} {st : List Value} {S : pS} {k n : Nat} {q : Nat} {x : Int32} {i j N : Nat} (d : decode M.2.1 pc = .ok (.aaload, 1)) (hs : S.2.1 i = .inl (4, N)) (hi : i < S.1) (hx : x = nI j) (hj : j < N) (hN31 : N ≤ 2147483647) (hr : S.2.2.1 i j = some q) (kk : PW g M E (pc + 1) L (.ref q :: st) S k n) : PW g M E pc L (.int x :: .ref i :: st) S k n := by
  intro p e s m args below meth c H locs ls hF hW hN hS hL
  subst hx
  have h := kk p e s m args below meth c H locs ls hF hW hN hS hL
  exact va_aldq hF.1 hF.2.1 hW.K hW.P i 4 (C := "TonightCovers$Sheet") ((wsOf_get hi).trans (by rw [cellOf_q hs (by decide)])) rfl (vp_in_nI hj (by omega)) d (by rw [nI_clamp (by omega), hr]; exact h)
theorem r_aastS {g : pG} {M : pM} {E : pE} {pc : Nat} {L : pL} {st : List Value} {S : pS} {k n : Nat} {q ci : Nat} {x : Int32} {i j N : Nat} (d : decode M.2.1 pc = .ok (.aastore, 1)) (hs : S.2.1 i = .inl (4, N)) (hi : i < S.1) (hx : x = nI j) (hj : j < N) (hN31 : N ≤ 2147483647) (hs2 : S.2.1 q = .inr ci) (hi2 : q < S.1) (hci : ci < 13) (hca : clC ci = "TonightCovers$Sheet") (kk : PW g M E (pc + 1) L st (rSet S i j (some q)) k n) : PW g M E pc L (.ref q :: .int x :: .ref i :: st) S k n := by
  intro p e s m args below meth c H locs ls hF hW hN hS hL
  subst hx
  have hv : (wsOf g.2.2.1 (gad g) S)[q]? = some (gad g q, .inr (ci, fsOf (gad g) S q ci)) := (wsOf_get hi2).trans (by rw [cellOf_o hs2])
  have ha : (wsOf g.2.2.1 (gad g) S)[i]? = some (gad g i, .inl (g.2.2.1 4, N, .inr (.inr (.inr (.inr (fun j => (S.2.2.1 i j).map (gad g))))))) := (wsOf_get hi).trans (by rw [cellOf_q hs (by decide)])
  have go : ∀ (H1 : Heap) (locs1 : List Loc), va_P g.2.1 vwCl ((wsOf g.2.2.1 (gad g) S).set i (gad g i, .inl (g.2.2.1 4, N, .inr (.inr (.inr (.inr (va_up (fun j => (S.2.2.1 i j).map (gad g)) (nI j).toNatClampNeg (some (gad g q)))))))))  H1 → va_S (pA g) s.heap H1 locs1 → W p g.1 e E.1 s m args below meth c H1 locs1 k n (E.2.2 below args s) (F0 m (pc + 1) ls (st.map (vr (gad g)))) := by
    intro H1 locs1 hP1 hS1
    rw [nI_clamp (by omega)] at hP1
    have e2 : (wsOf g.2.2.1 (gad g) S).set i (gad g i, .inl (g.2.2.1 4, N, .inr (.inr (.inr (.inr (va_up (fun j => (S.2.2.1 i j).map (gad g)) j (some (gad g q)))))))) = wsOf g.2.2.1 (gad g) (rSet S i j (some q)) := by
      refine wsOf_set rfl ((cellOf_q (S := rSet S i j (some q)) hs (by decide)).trans ?_) (fun q2 hq => cellOf_cong rfl (by simp [rSet, hq]) rfl)
      have e3 : (fun z => ((rSet S i j (some q)).2.2.1 i z).map (gad g)) = va_up (fun j => (S.2.2.1 i j).map (gad g)) j (some (gad g q)) := by
        funext z
        by_cases hz : z = j
        · subst hz; simp [rSet, va_up]
        · simp [rSet, va_up, hz]
      rw [e3]
    rw [e2] at hP1
    exact kk p e s m args below meth c H1 locs1 ls hF ⟨hW.1, hW.2.1, hP1, hW.K⟩ hN hS1 hL
  have hc := hca
  · exact va_astq hF.1 hF.2.1 hW.K hW.P hW.D hS i 4 q ci ha (by rw [show (clC ci, clT ci, clN ci).1 = _ from hc]; rfl) hv (cl_some hci) (vp_in_nI hj (by omega)) d (fun H1 locs1 hP1 _ hS1 => go H1 locs1 hP1 hS1)
end
section
/-! ===== rows: new cells ===== -/
theorem ad_new {ad : Nat → Nat} (h : adOk ad) {n q : Nat} (hn : n ≤ 900) (h1 : ad 0 ≤ q) (h2 : q < ad n + 1) (h3 : ∀ i, i < n → q ≠ ad i) : q = ad n := by
  have e := h n (by omega)
  rw [e] at h2 ⊢
  by_cases c : q < ad 0 + n
  · exfalso
    have e2 := h (q - ad 0) (by omega)
    exact h3 (q - ad 0) (by omega) (by omega)
  · omega
theorem cl_def {ci : Nat} (h : ci < 13) : ∀ k, k < clN ci → defaultValue (clTy ci k) = if isRf (clTy ci k) = true then .null else .int 0 := by
  rcases (by omega : ci = 0 ∨ ci = 1 ∨ ci = 2 ∨ ci = 3 ∨ ci = 4 ∨ ci = 5 ∨ ci = 6 ∨ ci = 7 ∨ ci = 8 ∨ ci = 9 ∨ ci = 10 ∨ ci = 11 ∨ ci = 12) with rfl | rfl | rfl | rfl | rfl | rfl | rfl | rfl | rfl | rfl | rfl | rfl | rfl <;> decide +kernel
theorem new_at {g : pG} {S : pS} {e0 : (Nat × Nat) ⊕ Nat} {q : Nat} {e : va_E} {s T : State} {H1 : Heap} {k n : Nat} {p : Program} {l : Launch} {ev : Env} {R : Room} {m : MethodId} {args : Array Value} {below : List Frame} {meth : Method} {c : Code} {locs : List Loc} (ha : adOk (gad g)) (hn : S.1 ≤ 899) (hN : s.heap.size + k = gad g S.1)
    (hP : va_P g.2.1 vwCl (wsOf g.2.2.1 (gad g) S ++ [(q, e)]) H1) (hD : va_D (pA g) (wsOf g.2.2.1 (gad g) S ++ [(q, e)])) (he : cellOf g.2.2.1 (gad g) (mNew S e0) S.1 = e) (hT : T.heap = H1) (X : Stand p l ev R s m args below meth c T locs (k + 1) n) :
    q = gad g S.1 ∧ va_P g.2.1 vwCl (wsOf g.2.2.1 (gad g) (mNew S e0)) H1 ∧ s.heap.size + (k + 1) = gad g (mNew S e0).1 := by
  have hlast : (wsOf g.2.2.1 (gad g) S ++ [(q, e)])[S.1]? = some (q, e) := by
    rw [List.getElem?_append_right (by rw [wsOf_len]; exact Nat.le_refl _), wsOf_len, Nat.sub_self]; rfl
  have h1 : T.heap.size ≤ s.heap.size + (k + 1) := X.same.2.2.1
  rw [hT] at h1
  have h2 := (hP S.1 _ hlast).lt
  simp only at h2
  have h3 : q = gad g S.1 := ad_new ha (by omega) (hD.2 S.1 _ hlast) (by omega) (fun i hi z => by
    have h4 : (wsOf g.2.2.1 (gad g) S ++ [(q, e)])[i]? = some (gad g i, cellOf g.2.2.1 (gad g) S i) := by
      rw [List.getElem?_append_left (by rw [wsOf_len]; exact hi), wsOf_get hi]
    have h5 := hD.1 i S.1 _ _ h4 hlast z.symm
    omega)
  refine ⟨h3, ?_, ?_⟩
  · rw [h3] at hP
    rwa [wsOf_push (S' := mNew S e0) rfl he (fun j hj => cellOf_cong (by simp [mNew, Nat.ne_of_lt hj]) (by simp [mNew, Nat.ne_of_lt hj]) (by simp [mNew, Nat.ne_of_lt hj]))] at hP
  · have e1 := ha S.1 (by omega)
    have e2 := ha (S.1 + 1) (by omega)
    show _ = gad g (S.1 + 1)
    omega
theorem r_new {g : pG} {M : pM} {E : pE} {pc : Nat} {L : pL} {st : List Value} {S : pS} {k n : Nat} {idx ci : Nat} (d : decode M.2.1 pc = .ok (.new idx, 3)) (hci : ci < 13) (hl : Cond.classLink M.1.cls idx (clC ci) ∈ gT) (hin : Cond.instantiable (clC ci) (clN ci) ∈ gT) (hini : Cond.initialized (clC ci) ∈ gT) (hn9 : S.1 ≤ 899) (hc : k + 1 ≤ E.1.cells) (hsl : n + clN ci ≤ E.1.slots)
    (kk : PW g M E (pc + 3) L (.ref S.1 :: st) (mNew S (.inr ci)) (k + 1) (n + clN ci)) : PW g M E pc L st S k n := by
  intro p e s m args below meth c H locs ls hF hW hN hS hL
  have he : cellOf g.2.2.1 (gad g) (mNew S (.inr ci)) S.1 = .inr (ci, fsOf (gad g) (mNew S (.inr ci)) S.1 ci) := cellOf_o (by simp [mNew])
  refine va_new hF.1 hF.2.1 (Ts := wsM M) hF.2.2.2.2.2.1 (fun w h => wsM_t (cl_in hci w h)) (clTy ci) (cl_ty hci) hF.own (hF.w hl) (hF.w hin) (hF.w hini) hW.K hW.P hW.D hS (fun q h => Nat.le_trans hF.lo h) (cl_some hci) (fs := fsOf (gad g) (mNew S (.inr ci)) S.1 ci) (fun j hj => ?_) hc hsl d (fun q H1 hP1 hD1 hS1 => ?_)
  · rw [cl_def hci j hj]
    unfold vp_V
    rw [List.getD_eq_getElem?_getD, fsOf_get hj]
    simp only [Option.getD_some, fdOf, mNew, if_true, Option.map_none, va_rf]
  · intro T hT X
    obtain ⟨rfl, hP2, hN2⟩ := new_at (e0 := .inr ci) hW.1 hn9 hN hP1 hD1 he hT X
    exact kk p e s m args below meth c H1 locs ls hF ⟨hW.1, Nat.succ_le_succ hn9, hP2, hW.K⟩ hN2 hS1 hL T hT X
theorem r_newA {g : pG} {M : pM} {E : pE} {pc : Nat} {L : pL} {st : List Value} {S : pS} {k n : Nat} {x : Int32} {N t : Nat} {atype : ArrayType} {ty : FieldType} (d : decode M.2.1 pc = .ok (.newarray atype, 2)) (hty : newarray.typeOf atype = ty) (ht : t < 3) (htt : (tysOf g.2.2.1)[t]? = some (g.2.2.1 t, ty)) (hw : Cond.arrayClass ty ∈ gT) (hdef : defaultValue ty = .int 0) (hprim : ∀ (U : State) (c1 c2 : ClassId), va_RA U c1 ty → va_RA U c2 ty → c1 = c2) (hx : x = nI N) (hN4 : N * componentBytes ty ≤ 536870912) (hN31 : N ≤ 2147483647) (hn9 : S.1 ≤ 899) (hc : k + 1 ≤ E.1.cells) (hsl : n + N ≤ E.1.slots)
    (kk : PW g M E (pc + 2) L (.ref S.1 :: st) (mNew S (.inl (t, N))) (k + 1) (n + N)) : PW g M E pc L (.int x :: st) S k n := by
  intro p e s m args below meth c H locs ls hF hW hN hS hL
  subst hx
  refine va_newa hF.1 hF.2.1 (hty ▸ hF.w hw) hty hW.K hW.P hW.D hS (fun q h => Nat.le_trans hF.lo h) (N' := N) (a0 := (N, .inl (fun _ => 0))) (fun cA => by rw [vp_cell_i, hdef]) (nI_pos (by omega)) (nI_clamp (by omega)) hN4 hc hsl d (fun q cA' H1 hK1 hP1 hD1 hS1 => ?_)
  have e1 : cA' = g.2.2.1 t := hprim s cA' _ (hK1.2 5 (cA', ty) (by rfl)).2 (hW.K.2 t _ htt).2
  subst e1
  have he : cellOf g.2.2.1 (gad g) (mNew S (.inl (t, N))) S.1 = .inl (g.2.2.1 t, N, .inl (fun _ => 0)) := by
    rw [cellOf_a (S := mNew S (.inl (t, N))) (t := t) (n := N) (by simp [mNew]) ht]
    simp [mNew]
  intro T hT X
  obtain ⟨rfl, hP2, hN2⟩ := new_at (e0 := .inl (t, N)) hW.1 hn9 hN hP1 hD1 he hT X
  exact kk p e s m args below meth c H1 locs ls hF ⟨hW.1, Nat.succ_le_succ hn9, hP2, hW.K⟩ hN2 hS1 hL T hT X
theorem ra_int (U : State) (c1 c2 : ClassId) (h1 : va_RA U c1 .int) (h2 : va_RA U c2 .int) : c1 = c2 := Option.some.inj (Eq.trans (Eq.symm h1) h2)
theorem ra_byte (U : State) (c1 c2 : ClassId) (h1 : va_RA U c1 .byte) (h2 : va_RA U c2 .byte) : c1 = c2 := Option.some.inj (Eq.trans (Eq.symm h1) h2)
theorem ra_char (U : State) (c1 c2 : ClassId) (h1 : va_RA U c1 .char) (h2 : va_RA U c2 .char) : c1 = c2 := Option.some.inj (Eq.trans (Eq.symm h1) h2)
theorem r_newQ {g : pG} {M : pM} {E : pE} {pc : Nat} {L : pL} {st : List Value} {S : pS} {k n : Nat} {x : Int32} {idx N t : Nat} {C : String} (d : decode M.2.1 pc = .ok (.anewarray idx, 3)) (ht : ¬ t < 3) (htt : (tysOf g.2.2.1)[t]? = some (g.2.2.1 t, .object C)) (hl : Cond.classLink M.1.cls idx C ∈ gT) (hao : ∀ U : State, KC g U → va_AO C U) (hx : x = nI N) (hN4 : N * 4 ≤ 536870912) (hn9 : S.1 ≤ 899) (hc : k + 1 ≤ E.1.cells) (hsl : n + N ≤ E.1.slots)
    (kk : PW g M E (pc + 3) L (.ref S.1 :: st) (mNew S (.inl (t, N))) (k + 1) (n + N)) : PW g M E pc L (.int x :: st) S k n := by
  intro p e s m args below meth c H locs ls hF hW hN hS hL
  subst hx
  refine va_newq hF.1 hF.2.1 hF.own (hF.w hl) (hao s hF.K) hW.K hW.P hW.D hS (fun q h => Nat.le_trans hF.lo h) (N' := N) (nI_pos (by omega)) (nI_clamp (by omega)) hN4 hc hsl d (fun q cA' H1 hK1 hP1 hD1 hS1 => ?_)
  have e1 : cA' = g.2.2.1 t := by
    obtain ⟨_, _, _, _, _, h1⟩ := (hK1.2 5 (cA', .object C) (by rfl)).2
    obtain ⟨_, _, _, _, _, h2⟩ := (hW.K.2 t _ htt).2
    exact Option.some.inj (h1.symm.trans h2)
  subst e1
  have he : cellOf g.2.2.1 (gad g) (mNew S (.inl (t, N))) S.1 = .inl (g.2.2.1 t, N, .inr (.inr (.inr (.inr (fun _ => none))))) := by
    rw [cellOf_q (S := mNew S (.inl (t, N))) (t := t) (n := N) (by simp [mNew]) ht]
    simp [mNew]
  intro T hT X
  obtain ⟨rfl, hP2, hN2⟩ := new_at (e0 := .inl (t, N)) hW.1 hn9 hN hP1 hD1 he hT X
  exact kk p e s m args below meth c H1 locs ls hF ⟨hW.1, Nat.succ_le_succ hn9, hP2, hW.K⟩ hN2 hS1 hL T hT X
/-! ===== rows: Object.<init>, returns ===== -/
theorem r_objInit {g : pG} {M : pM} {E : pE} {pc : Nat} {L : pL} {st : List Value} {S : pS} {k n : Nat} {idx b : Nat} (d : decode M.2.1 pc = .ok (.invokespecial idx, 3)) (hl : Cond.methodLink M.1.cls idx Lib.objectInit ∈ gT) (hi : Cond.instanceMethod Lib.objectInit ∈ gT) (hc : Cond.code Lib.objectInit ⟨#[0xb1]⟩ 1 none ∈ gT) (hsum : (st.map fun v => v.category).sum ≤ 8) (h1 : 1 ≤ E.1.frames) (h2 : 20 ≤ E.1.locals)
    (kk : PW g M E (pc + 3) L st S k n) : PW g M E pc L (.ref b :: st) S k n := by
  intro p e s m args below meth c H locs ls hF hW hN hS hL
  have hs2 : ((st.map (vr (gad g))).map fun v => v.category).sum ≤ 8 := by
    rw [List.map_map]
    have e : ((fun v : Value => v.category) ∘ vr (gad g)) = fun v => v.category := by funext v; exact vr_cat _ v
    rw [e]; exact hsum
  have hr := lv_room (m := m) (pc := pc) (ls := ls) (rest := (Value.ref b :: st).map (vr (gad g))) hs2
  exact W.objInit hF.1 hF.2.1 hF.own (hF.w hl) (hF.w hi) (hF.w hc) (g := F0 m pc ls ((Value.ref b :: st).map (vr (gad g)))) rfl (hL.1.trans hF.2.2.2.1.symm) (a := gad g b) (rest := st.map (vr (gad g))) rfl d h1 (by omega) (kk p e s m args below meth c H locs ls hF hW hN hS hL)
theorem ret_Q {g : pG} {M : pM} {n0 d mc ms : Nat} {Post : Option Value → pS → Prop} {S : pS} {p : Program} {s : State} {m : MethodId} {args : Array Value} {meth : Method} {c : Code} {H : Heap} {locs : List Loc} {r : Option Value} (hF : Fx g M (eN g n0 d mc ms Post) p s m args meth c) (hW : Wd g S s H) (hN : s.heap.size + mc = gad g S.1) (hS : va_S (pA g) s.heap H locs) (hp : Post r S) :
    ∀ t : State, t.heap = H → s.WarmedH t.vm → pQ g n0 mc Post args s (.returned (r.map (vr (gad g)))) t := by
  intro t ht hWm
  obtain ⟨hz, h9⟩ := hF.2.2.2.2.2.2.2.2.1
  have e1 := hW.1 S.1 (by have := hW.2.1; omega)
  have e2 := hW.1 n0 (by omega)
  refine ⟨⟨r, S, rfl, hp, by omega, ?_⟩, hS.F ht⟩
  rw [ht]
  exact hW.moved hWm.alike
theorem r_iret {g : pG} {M : pM} {n0 d0 mc ms : Nat} {Post : Option Value → pS → Prop} {pc : Nat} {L : pL} {S : pS} {n : Nat} {v : Int32} (d : decode M.2.1 pc = .ok (.ireturn, 1)) (hr : M.2.2.2 = some .int) (hn : n ≤ ms) (hp : Post (some (.int v)) S) : PW g M (eN g n0 d0 mc ms Post) pc L [.int v] S mc n := by
  intro p e s m args below meth c H locs ls hF hW hN hS hL
  exact W.widen (Nat.le_refl _) hn (W.iret hF.1 hF.2.1 (hF.2.2.1.trans hr) (ret_Q hF hW hN hS hp) hS.2.2 d hF.2.2.2.2.2.2.1)
theorem r_zret {g : pG} {M : pM} {n0 d0 mc ms : Nat} {Post : Option Value → pS → Prop} {pc : Nat} {L : pL} {S : pS} {n : Nat} {v : Int32} {ty : FieldType} (d : decode M.2.1 pc = .ok (.ireturn, 1)) (hr : M.2.2.2 = some ty) (hnr : narrow ty (.int v) = .int v) (hn : n ≤ ms) (hp : Post (some (.int v)) S) : PW g M (eN g n0 d0 mc ms Post) pc L [.int v] S mc n := by
  intro p e s m args below meth c H locs ls hF hW hN hS hL
  exact W.widen (Nat.le_refl _) hn (W.zret hF.1 hF.2.1 (hF.2.2.1.trans hr) hnr (ret_Q hF hW hN hS hp) hS.2.2 d hF.2.2.2.2.2.2.1)
theorem r_lret {g : pG} {M : pM} {n0 d0 mc ms : Nat} {Post : Option Value → pS → Prop} {pc : Nat} {L : pL} {S : pS} {n : Nat} {v : Int64} (d : decode M.2.1 pc = .ok (.lreturn, 1)) (hr : M.2.2.2 = some .long) (hn : n ≤ ms) (hp : Post (some (.long v)) S) : PW g M (eN g n0 d0 mc ms Post) pc L [.long v] S mc n := by
  intro p e s m args below meth c H locs ls hF hW hN hS hL
  exact W.widen (Nat.le_refl _) hn (W.lret hF.1 hF.2.1 (hF.2.2.1.trans hr) (ret_Q hF hW hN hS hp) hS.2.2 d hF.2.2.2.2.2.2.1)
theorem r_vret {g : pG} {M : pM} {n0 d0 mc ms : Nat} {Post : Option Value → pS → Prop} {pc : Nat} {L : pL} {S : pS} {n : Nat} (d : decode M.2.1 pc = .ok (.return_, 1)) (hr : M.2.2.2 = none) (hn : n ≤ ms) (hp : Post none S) : PW g M (eN g n0 d0 mc ms Post) pc L [] S mc n := by
  intro p e s m args below meth c H locs ls hF hW hN hS hL
  exact W.widen (Nat.le_refl _) hn (W.vret hF.1 hF.2.1 (hF.2.2.1.trans hr) (ret_Q (r := none) hF hW hN hS hp) hS.2.2 d hF.2.2.2.2.2.2.1)
theorem r_aret {g : pG} {M : pM} {n0 d0 mc ms : Nat} {Post : Option Value → pS → Prop} {pc : Nat} {L : pL} {S : pS} {n q : Nat} {C : String} (d : decode M.2.1 pc = .ok (.areturn, 1)) (hr : M.2.2.2 = some (.object C)) (hn : n ≤ ms) (hp : Post (some (.ref q)) S) : PW g M (eN g n0 d0 mc ms Post) pc L [.ref q] S mc n := by
  intro p e s m args below meth c H locs ls hF hW hN hS hL
  exact W.widen (Nat.le_refl _) hn (W.aret hF.1 hF.2.1 (hF.2.2.1.trans hr) (Or.inl ⟨C, rfl⟩) (Or.inr ⟨gad g q, rfl⟩) (ret_Q (r := some (.ref q)) hF hW hN hS hp) hS.2.2 d hF.2.2.2.2.2.2.1)
end
section
/-! ===== rows: calls ===== -/
/-- what is known of a method: its code and class among the words, how many arguments -/
def mF (M : pM) (n : Nat) : Prop := Cond.code M.1 M.2.1 M.2.2.1 M.2.2.2 ∈ gT ∧ Cond.initialized M.1.cls ∈ gT ∧ (M.1.cls ≠ "java/lang/invoke/MethodHandle" ∧ M.1.cls ≠ "java/lang/invoke/VarHandle" ∧ (parseMethodDescriptor M.1.desc).map (fun d => d.parameters.length) = some n) ∧ plainName M.1.cls = true
theorem cat_map {ad : Nat → Nat} {st : List Value} (h : (st.map fun v => v.category).sum ≤ 8) : ((st.map (vr ad)).map fun v => v.category).sum ≤ 8 := by
  rw [List.map_map]
  have e : ((fun v : Value => v.category) ∘ vr ad) = fun v => v.category := by funext v; exact vr_cat _ v
  rw [e]; exact h
theorem r_after {g : pG} {p : Program} {e : Env} {R : Room} {s : State} {m : MethodId} {args : Array Value} {below : List Frame} {meth : Method} {c : Code} {H : Heap} {locs : List Loc} {k n mc ms pc : Nat} {ls : Array Slot} {stk : List Value} {st : List Value} {S : pS} {Q : State → Prop} {Post : Option Value → pS → Prop} {aa : Array Value}
    (hr : va_Run p g.1 e R s m args below meth c H locs k n mc ms (F0 m pc ls stk) (st.map (vr (gad g))) (pQ g S.1 mc Post aa) (pA g)) (hN : s.heap.size + k = gad g S.1) (ha : adOk (gad g)) (hn9 : S.1 ≤ 900) (hS : va_S (pA g) s.heap H locs)
    (kk : ∀ (v : Option Value) (S' : pS) (H1 : Heap) (locs1 : List Loc), Post v S' → Wd g S' s H1 → S'.1 = S.1 + mc → s.heap.size + (k + mc) = gad g S'.1 → va_S (pA g) s.heap H1 locs1 → W p g.1 e R s m args below meth c H1 locs1 (k + mc) (n + ms) Q (F0 m (pc + 3) ls ((v.toList ++ st).map (vr (gad g))))) : W p g.1 e R s m args below meth c H locs k n Q (F0 m pc ls stk) := by
  intro T hT X
  obtain ⟨v, st₀, t, T', Lc, h0, X', hL, e1, e2, ⟨⟨v', S', hv, hp, hS1, hW⟩, hz, hk⟩, go⟩ := hr T hT X
  cases hv
  rw [h0] at hz hk
  have al : s.vm.Alike t.vm := by rw [← e2]; exact X'.warmed.alike
  have hW' : Wd g S' s T'.heap := by
    rw [e1]
    exact ⟨hW.1, hW.2.1, hW.P, hW.K.moved al.symm⟩
  have hN' : s.heap.size + (k + mc) = gad g S'.1 := by
    have f1 := ha S.1 (by omega)
    have f2 := ha S'.1 (by have := hW.2.1; omega)
    omega
  obtain ⟨t2, a1, b1⟩ := kk v' S' T'.heap (locs ++ Lc) hp hW' hS1 hN' ⟨Nat.le_trans hS.1 (by rw [e1]; exact hz), fun q h1 h2 => by
      rw [e1, hk q (Nat.lt_of_lt_of_le h1 hS.1) h2]
      exact hS.2.1 q h1 h2, fun q hq => by
      rcases List.mem_append.mp hq with h | h
      · exact hS.2.2 q h
      · exact hL q h⟩ T' rfl X'
  refine ⟨t2, go t2 ?_, b1⟩
  have e3 : (v'.toList ++ st).map (vr (gad g)) = (v'.map (vr (gad g))).toList ++ st.map (vr (gad g)) := by cases v' <;> rfl
  rw [e3] at a1
  exact a1
theorem pre_S {g : pG} {av : List Value} {S : pS} {s : State} {H : Heap} {locs : List Loc} (hW : Wd g S s H) (hK : KC g s) (hS : va_S (pA g) s.heap H locs) (hz : H.size = gad g S.1) : PreS s H (pP g av S) (av.map (vr (gad g))) :=
  ⟨pP_blind, fun U hU hWm => ⟨rfl, by rw [hU]; exact hW.moved hWm.alike, hK.warm hWm (by rw [hU]; exact ⟨hS.1, hS.2.1⟩), by rw [hU]; exact hz⟩⟩
theorem pre_V {g : pG} {av : List Value} {S : pS} {s : State} {H : Heap} {locs : List Loc} {b ci : Nat} {C : String} (hW : Wd g S s H) (hK : KC g s) (hS : va_S (pA g) s.heap H locs) (hz : H.size = gad g S.1) (hb : b < S.1) (hs : S.2.1 b = .inr ci) (hci : ci < 13) (hC : C = clC ci) : PreV s H C (gad g b) (pP g (.ref b :: av) S) (av.map (vr (gad g))) :=
  ⟨pP_blind, by rw [hC]; exact va_recv hW.K hW.P (cl_some hci) ((wsOf_get hb).trans (by rw [cellOf_o hs])), (pre_S (av := .ref b :: av) hW hK hS hz).2⟩

theorem r_callV {g : pG} {M M2 : pM} {E : pE} {pc : Nat} {L : pL} {st av stk : List Value} {S : pS} {k n d2 mc ms n2 idx : Nat} {Post : Option Value → pS → Prop} {b ci : Nat} (d : decode M.2.1 pc = .ok (.invokevirtual idx, 3)) (hM : MS g M2 d2 mc ms (.ref b :: av) S Post) (hf : mF M2 n2) (hi : Cond.instanceMethod M2.1 ∈ gT) (hse : Cond.selects (clC ci) M2.1 M2.1 ∈ gT) (hl : Cond.methodLink M.1.cls idx M2.1 ∈ gT) (hn : av.length = n2) (hst : stk = av.reverse ++ .ref b :: st) (hb : b < S.1) (hs : S.2.1 b = .inr ci) (hci : ci < 13) (hC : M2.1.cls = clC ci) (hsum : (st.map fun v => v.category).sum ≤ 8) (hR : d2 + 1 ≤ E.1.frames ∧ 8 + (M2.2.2.1 + 11) + 200 * d2 ≤ E.1.locals) (hcs : k + mc ≤ E.1.cells ∧ n + ms ≤ E.1.slots) (kk : ∀ v S', Post v S' → S'.1 = S.1 + mc → PW g M E (pc + 3) L (v.toList ++ st) S' (k + mc) (n + ms)) : PW g M E pc L stk S k n := by
  intro p e s m args below meth c H locs ls hF hW hN hS hL
  subst hst
  have hcat := lv_room (m := m) (pc := pc) (ls := ls) (rest := (av.reverse ++ .ref b :: st).map (vr (gad g))) (cat_map (ad := gad g) hsum)
  intro T hT X
  have hz := hW.size hF.lo hN hS hT X
  have hr : va_Run p g.1 e E.1 s m args below meth c H locs k n mc ms (F0 m pc ls ((av.reverse ++ .ref b :: st).map (vr (gad g)))) (st.map (vr (gad g))) (pQ g S.1 mc Post _) (pA g) := va_runV (C := clC ci) (As := av.map (vr (gad g))) hF.fix hM (cwV n2 hF.2.2.2.2.2.1 (good_app hf.1 (by intro w hw; simp only [List.mem_cons, List.not_mem_nil, or_false] at hw; rcases hw with rfl | rfl | rfl | rfl; exact hl; exact hi; exact hse; exact hC ▸ hf.2.1)) rfl rfl rfl ⟨hC, hf.2.2.1⟩ hR) (pre_V hW hF.K hS hz hb hs hci rfl) rfl (by rw [List.length_map]; exact hn) hL.1 (by simp [vr]) hcat d hcs
  exact r_after hr hN hW.1 hW.2.1 hS (fun v S' H1 locs1 hp hW1 hS1 hN1 hSS => kk v S' hp hS1 p e s m args below meth c H1 locs1 ls hF hW1 hN1 hSS hL) T hT X
theorem r_callU {g : pG} {M M2 : pM} {E : pE} {pc : Nat} {L : pL} {st av stk : List Value} {S : pS} {k n d2 mc ms n2 idx : Nat} {Post : Option Value → pS → Prop} {b ci : Nat} {x : MethodName} {owner : String} (d : decode M.2.1 pc = .ok (.invokevirtual idx, 3)) (hM : MS g M2 d2 mc ms (.ref b :: av) S Post) (hf : mF M2 n2) (hi : Cond.instanceMethod M2.1 ∈ gT) (hse : Cond.selects (clC ci) x M2.1 ∈ gT) (hl : Cond.methodLink M.1.cls idx x ∈ gT) (hsm : Cond.sameMethod x.cls owner x.name x.desc ∈ gT) (hyx : M2.1 = ⟨owner, x.name, x.desc⟩) (hn : av.length = n2) (hst : stk = av.reverse ++ .ref b :: st) (hb : b < S.1) (hs : S.2.1 b = .inr ci) (hci : ci < 13) (hsum : (st.map fun v => v.category).sum ≤ 8) (hR : d2 + 1 ≤ E.1.frames ∧ 8 + (M2.2.2.1 + 11) + 200 * d2 ≤ E.1.locals) (hcs : k + mc ≤ E.1.cells ∧ n + ms ≤ E.1.slots) (kk : ∀ v S', Post v S' → S'.1 = S.1 + mc → PW g M E (pc + 3) L (v.toList ++ st) S' (k + mc) (n + ms)) : PW g M E pc L stk S k n := by
  intro p e s m args below meth c H locs ls hF hW hN hS hL
  subst hst
  have hcat := lv_room (m := m) (pc := pc) (ls := ls) (rest := (av.reverse ++ .ref b :: st).map (vr (gad g))) (cat_map (ad := gad g) hsum)
  intro T hT X
  have hz := hW.size hF.lo hN hS hT X
  have hr : va_Run p g.1 e E.1 s m args below meth c H locs k n mc ms (F0 m pc ls ((av.reverse ++ .ref b :: st).map (vr (gad g)))) (st.map (vr (gad g))) (pQ g S.1 mc Post _) (pA g) := va_runU (x := x) (owner := owner) (C := clC ci) (As := av.map (vr (gad g))) hF.fix hM (va_cwU n2 hF.2.2.2.2.2.1 (good_app hf.1 (by intro w hw; simp only [List.mem_cons, List.not_mem_nil, or_false] at hw; rcases hw with rfl | rfl | rfl | rfl | rfl; exact hl; exact hsm; exact hse; exact hi; exact hf.2.1)) rfl rfl rfl hyx ⟨by have h := hf.2.2.1.1; rw [hyx] at h; exact h, by have h := hf.2.2.1.2.1; rw [hyx] at h; exact h, by have h := hf.2.2.1.2.2; rw [hyx] at h; exact h⟩ hR) (pre_V hW hF.K hS hz hb hs hci rfl) rfl (by rw [List.length_map]; exact hn) hL.1 (by simp [vr]) hcat d hcs
  exact r_after hr hN hW.1 hW.2.1 hS (fun v S' H1 locs1 hp hW1 hS1 hN1 hSS => kk v S' hp hS1 p e s m args below meth c H1 locs1 ls hF hW1 hN1 hSS hL) T hT X
theorem r_callO {g : pG} {M M2 : pM} {E : pE} {pc : Nat} {L : pL} {st av stk : List Value} {S : pS} {k n d2 mc ms n2 idx : Nat} {Post : Option Value → pS → Prop} {b ci : Nat} {x : MethodName} {owner : String} {b0 : ByteArray} {m0 : Nat} {r0 : Option FieldType} (d : decode M.2.1 pc = .ok (.invokevirtual idx, 3)) (hM : MS g M2 d2 mc ms (.ref b :: av) S Post) (hf : mF M2 n2) (hi : Cond.instanceMethod M2.1 ∈ gT) (hse : Cond.selects (clC ci) x M2.1 ∈ gT) (hl : Cond.methodLink M.1.cls idx x ∈ gT) (hsm : Cond.sameMethod x.cls owner x.name x.desc ∈ gT) (hi0 : Cond.instanceMethod ⟨owner, x.name, x.desc⟩ ∈ gT) (h0 : Cond.code ⟨owner, x.name, x.desc⟩ b0 m0 r0 ∈ gT) (how : owner ≠ "java/lang/invoke/MethodHandle" ∧ owner ≠ "java/lang/invoke/VarHandle") (hds : x.desc = M2.1.desc) (hn : av.length = n2) (hst : stk = av.reverse ++ .ref b :: st) (hb : b < S.1) (hs : S.2.1 b = .inr ci) (hci : ci < 13) (hsum : (st.map fun v => v.category).sum ≤ 8) (hR : d2 + 1 ≤ E.1.frames ∧ 8 + (M2.2.2.1 + 11) + 200 * d2 ≤ E.1.locals) (hcs : k + mc ≤ E.1.cells ∧ n + ms ≤ E.1.slots) (kk : ∀ v S', Post v S' → S'.1 = S.1 + mc → PW g M E (pc + 3) L (v.toList ++ st) S' (k + mc) (n + ms)) : PW g M E pc L stk S k n := by
  intro p e s m args below meth c H locs ls hF hW hN hS hL
  subst hst
  have hcat := lv_room (m := m) (pc := pc) (ls := ls) (rest := (av.reverse ++ .ref b :: st).map (vr (gad g))) (cat_map (ad := gad g) hsum)
  intro T hT X
  have hz := hW.size hF.lo hN hS hT X
  have hr : va_Run p g.1 e E.1 s m args below meth c H locs k n mc ms (F0 m pc ls ((av.reverse ++ .ref b :: st).map (vr (gad g)))) (st.map (vr (gad g))) (pQ g S.1 mc Post _) (pA g) := va_runU (x := x) (owner := owner) (C := clC ci) (As := av.map (vr (gad g))) hF.fix hM (va_cwO n2 hF.2.2.2.2.2.1 (good_app hf.1 (by intro w hw; simp only [List.mem_cons, List.not_mem_nil, or_false] at hw; rcases hw with rfl | rfl | rfl | rfl | rfl | rfl; exact hl; exact hsm; exact hi0; exact hse; exact hi; exact hf.2.1)) rfl rfl rfl (wsM_t h0) ⟨how.1, how.2, by rw [hds]; exact hf.2.2.1.2.2⟩ hR) (pre_V hW hF.K hS hz hb hs hci rfl) rfl (by rw [List.length_map]; exact hn) hL.1 (by simp [vr]) hcat d hcs
  exact r_after hr hN hW.1 hW.2.1 hS (fun v S' H1 locs1 hp hW1 hS1 hN1 hSS => kk v S' hp hS1 p e s m args below meth c H1 locs1 ls hF hW1 hN1 hSS hL) T hT X
theorem r_callS {g : pG} {M M2 : pM} {E : pE} {pc : Nat} {L : pL} {st av stk : List Value} {S : pS} {k n d2 mc ms n2 idx : Nat} {Post : Option Value → pS → Prop} (d : decode M.2.1 pc = .ok (.invokestatic idx, 3)) (hM : MS g M2 d2 mc ms av S Post) (hf : mF M2 n2) (hi : Cond.static M2.1 ∈ gT) (hl : Cond.methodLink M.1.cls idx M2.1 ∈ gT) (hn : av.length = n2) (hst : stk = av.reverse ++ st) (hsum : (st.map fun v => v.category).sum ≤ 8) (hR : d2 + 1 ≤ E.1.frames ∧ 8 + (M2.2.2.1 + 11) + 200 * d2 ≤ E.1.locals) (hcs : k + mc ≤ E.1.cells ∧ n + ms ≤ E.1.slots) (kk : ∀ v S', Post v S' → S'.1 = S.1 + mc → PW g M E (pc + 3) L (v.toList ++ st) S' (k + mc) (n + ms)) : PW g M E pc L stk S k n := by
  intro p e s m args below meth c H locs ls hF hW hN hS hL
  subst hst
  have hcat := lv_room (m := m) (pc := pc) (ls := ls) (rest := (av.reverse ++ st).map (vr (gad g))) (cat_map (ad := gad g) hsum)
  intro T hT X
  have hz := hW.size hF.lo hN hS hT X
  have hr : va_Run p g.1 e E.1 s m args below meth c H locs k n mc ms (F0 m pc ls ((av.reverse ++ st).map (vr (gad g)))) (st.map (vr (gad g))) (pQ g S.1 mc Post _) (pA g) := va_runS (As := av.map (vr (gad g))) hF.fix hM (va_cwS n2 hF.2.2.2.2.2.1 (good_app hf.1 (by intro w hw; simp only [List.mem_cons, List.not_mem_nil, or_false] at hw; rcases hw with rfl | rfl | rfl; exact hl; exact hi; exact hf.2.1)) rfl rfl rfl hf.2.2.1 hR) (pre_S hW hF.K hS hz) rfl (by rw [List.length_map]; exact hn) hL.1 (by simp [vr]) hcat d hcs
  exact r_after hr hN hW.1 hW.2.1 hS (fun v S' H1 locs1 hp hW1 hS1 hN1 hSS => kk v S' hp hS1 p e s m args below meth c H1 locs1 ls hF hW1 hN1 hSS hL) T hT X
theorem r_callSN {g : pG} {M M2 : pM} {E : pE} {pc : Nat} {L : pL} {st av stk : List Value} {S : pS} {k n d2 mc ms n2 idx : Nat} {Post : Option Value → pS → Prop} (d : decode M.2.1 pc = .ok (.invokestatic idx, 3)) (hM : MS g M2 d2 mc ms av S Post) (hf : mF M2 n2) (hi : Cond.static M2.1 ∈ gT) (hl : (M.1.cls, idx, M2.1) ∈ xMN) (hn : av.length = n2) (hst : stk = av.reverse ++ st) (hsum : (st.map fun v => v.category).sum ≤ 8) (hR : d2 + 1 ≤ E.1.frames ∧ 8 + (M2.2.2.1 + 11) + 200 * d2 ≤ E.1.locals) (hcs : k + mc ≤ E.1.cells ∧ n + ms ≤ E.1.slots) (kk : ∀ v S', Post v S' → S'.1 = S.1 + mc → PW g M E (pc + 3) L (v.toList ++ st) S' (k + mc) (n + ms)) : PW g M E pc L stk S k n := by
  intro p e s m args below meth c H locs ls hF hW hN hS hL
  subst hst
  have hcat := lv_room (m := m) (pc := pc) (ls := ls) (rest := (av.reverse ++ st).map (vr (gad g))) (cat_map (ad := gad g) hsum)
  intro T hT X
  have hz := hW.size hF.lo hN hS hT X
  have hr : va_Run p g.1 e E.1 s m args below meth c H locs k n mc ms (F0 m pc ls ((av.reverse ++ st).map (vr (gad g)))) (st.map (vr (gad g))) (pQ g S.1 mc Post _) (pA g) := va_runSN (host := "TonightCovers") (As := av.map (vr (gad g))) hF.fix hM (⟨va_cnB n2 hF.2.2.2.2.2.1 (good_wsM hf.1) rfl rfl rfl (hF.K.2.2.2.2.2.1 _ hl) (hF.w hf.2.1) hf.2.2.1 hR, hF.w hi, trivial⟩) (pre_S hW hF.K hS hz) rfl (by rw [List.length_map]; exact hn) hL.1 (by simp [vr]) hcat d hcs
  exact r_after hr hN hW.1 hW.2.1 hS (fun v S' H1 locs1 hp hW1 hS1 hN1 hSS => kk v S' hp hS1 p e s m args below meth c H1 locs1 ls hF hW1 hN1 hSS hL) T hT X
theorem r_callI {g : pG} {M M2 : pM} {E : pE} {pc : Nat} {L : pL} {st av stk : List Value} {S : pS} {k n d2 mc ms n2 idx : Nat} {Post : Option Value → pS → Prop} {b : Nat} (d : decode M.2.1 pc = .ok (.invokespecial idx, 3)) (hM : MS g M2 d2 mc ms (.ref b :: av) S Post) (hf : mF M2 n2) (hi : Cond.instanceMethod M2.1 ∈ gT) (hl : Cond.methodLink M.1.cls idx M2.1 ∈ gT) (hnm : M2.1.name = "<init>") (hrn : M2.2.2.2 = none) (hn : av.length = n2) (hst : stk = av.reverse ++ .ref b :: st) (hsum : (st.map fun v => v.category).sum ≤ 8) (hR : d2 + 1 ≤ E.1.frames ∧ 8 + (M2.2.2.1 + 11) + 200 * d2 ≤ E.1.locals) (hcs : k + mc ≤ E.1.cells ∧ n + ms ≤ E.1.slots) (kk : ∀ v S', Post v S' → S'.1 = S.1 + mc → PW g M E (pc + 3) L (v.toList ++ st) S' (k + mc) (n + ms)) : PW g M E pc L stk S k n := by
  intro p e s m args below meth c H locs ls hF hW hN hS hL
  subst hst
  have hcat := lv_room (m := m) (pc := pc) (ls := ls) (rest := (av.reverse ++ .ref b :: st).map (vr (gad g))) (cat_map (ad := gad g) hsum)
  intro T hT X
  have hz := hW.size hF.lo hN hS hT X
  have hr : va_Run p g.1 e E.1 s m args below meth c H locs k n mc ms (F0 m pc ls ((av.reverse ++ .ref b :: st).map (vr (gad g)))) (st.map (vr (gad g))) (pQ g S.1 mc Post _) (pA g) := va_runI (As := av.map (vr (gad g))) hF.fix hM (cwI n2 hF.2.2.2.2.2.1 (good_wsM hf.1) (by rw [← hrn]; rfl) rfl rfl (hF.w hf.2.1) (hF.w hl) (hF.w hi) hnm hf.2.2.1 hR) (pre_S (av := .ref b :: av) hW hF.K hS hz) rfl (by rw [List.length_map]; exact hn) hL.1 (by simp [vr]) hcat d hcs
  exact r_after hr hN hW.1 hW.2.1 hS (fun v S' H1 locs1 hp hW1 hS1 hN1 hSS => kk v S' hp hS1 p e s m args below meth c H1 locs1 ls hF hW1 hN1 hSS hL) T hT X
theorem r_callIN {g : pG} {M M2 : pM} {E : pE} {pc : Nat} {L : pL} {st av stk : List Value} {S : pS} {k n d2 mc ms n2 idx : Nat} {Post : Option Value → pS → Prop} {b : Nat} (d : decode M.2.1 pc = .ok (.invokespecial idx, 3)) (hM : MS g M2 d2 mc ms (.ref b :: av) S Post) (hf : mF M2 n2) (hi : Cond.instanceMethod M2.1 ∈ gT) (hl : (M.1.cls, idx, M2.1) ∈ xMN) (hnm : M2.1.name = "<init>") (hrn : M2.2.2.2 = none) (hn : av.length = n2) (hst : stk = av.reverse ++ .ref b :: st) (hsum : (st.map fun v => v.category).sum ≤ 8) (hR : d2 + 1 ≤ E.1.frames ∧ 8 + (M2.2.2.1 + 11) + 200 * d2 ≤ E.1.locals) (hcs : k + mc ≤ E.1.cells ∧ n + ms ≤ E.1.slots) (kk : ∀ v S', Post v S' → S'.1 = S.1 + mc → PW g M E (pc + 3) L (v.toList ++ st) S' (k + mc) (n + ms)) : PW g M E pc L stk S k n := by
  intro p e s m args below meth c H locs ls hF hW hN hS hL
  subst hst
  have hcat := lv_room (m := m) (pc := pc) (ls := ls) (rest := (av.reverse ++ .ref b :: st).map (vr (gad g))) (cat_map (ad := gad g) hsum)
  intro T hT X
  have hz := hW.size hF.lo hN hS hT X
  have hr : va_Run p g.1 e E.1 s m args below meth c H locs k n mc ms (F0 m pc ls ((av.reverse ++ .ref b :: st).map (vr (gad g)))) (st.map (vr (gad g))) (pQ g S.1 mc Post _) (pA g) := va_runIN (host := "TonightCovers") (As := av.map (vr (gad g))) hF.fix hM (⟨va_cnB n2 hF.2.2.2.2.2.1 (good_wsM hf.1) (by rw [← hrn]; rfl) rfl rfl (hF.K.2.2.2.2.2.1 _ hl) (hF.w hf.2.1) hf.2.2.1 hR, hnm, hF.w hi⟩) (pre_S (av := .ref b :: av) hW hF.K hS hz) rfl (by rw [List.length_map]; exact hn) hL.1 (by simp [vr]) hcat d hcs
  exact r_after hr hN hW.1 hW.2.1 hS (fun v S' H1 locs1 hp hW1 hS1 hN1 hSS => kk v S' hp hS1 p e s m args below meth c H1 locs1 ls hF hW1 hN1 hSS hL) T hT X
theorem r_callSU {g : pG} {M M2 : pM} {E : pE} {pc : Nat} {L : pL} {st av stk : List Value} {S : pS} {k n d2 mc ms n2 idx : Nat} {Post : Option Value → pS → Prop} {b ci : Nat} (d : decode M.2.1 pc = .ok (.invokespecial idx, 3)) (hM : MS g M2 d2 mc ms (.ref b :: av) S Post) (hf : mF M2 n2) (hi : Cond.instanceMethod M2.1 ∈ gT) (hl : Cond.methodLink M.1.cls idx M2.1 ∈ gT) (hsm : Cond.sameMethod M2.1.cls M2.1.cls M2.1.name M2.1.desc ∈ gT) (hsu : Cond.superclass M.1.cls M2.1.cls ∈ gT) (hnm : M2.1.name ≠ "<init>") (hn : av.length = n2) (hst : stk = av.reverse ++ .ref b :: st) (hb : b < S.1) (hs : S.2.1 b = .inr ci) (hci : ci < 13) (hsum : (st.map fun v => v.category).sum ≤ 8) (hR : d2 + 1 ≤ E.1.frames ∧ 8 + (M2.2.2.1 + 11) + 200 * d2 ≤ E.1.locals) (hcs : k + mc ≤ E.1.cells ∧ n + ms ≤ E.1.slots) (kk : ∀ v S', Post v S' → S'.1 = S.1 + mc → PW g M E (pc + 3) L (v.toList ++ st) S' (k + mc) (n + ms)) : PW g M E pc L stk S k n := by
  intro p e s m args below meth c H locs ls hF hW hN hS hL
  subst hst
  have hcat := lv_room (m := m) (pc := pc) (ls := ls) (rest := (av.reverse ++ .ref b :: st).map (vr (gad g))) (cat_map (ad := gad g) hsum)
  intro T hT X
  have hz := hW.size hF.lo hN hS hT X
  have hr : va_Run p g.1 e E.1 s m args below meth c H locs k n mc ms (F0 m pc ls ((av.reverse ++ .ref b :: st).map (vr (gad g)))) (st.map (vr (gad g))) (pQ g S.1 mc Post _) (pA g) := va_runSU (C := clC ci) ((hW.K.1 ci _ (cl_some hci)).2) (As := av.map (vr (gad g))) hF.fix hM (va_cwSU n2 hF.2.2.2.2.2.1 (good_app hf.1 (by intro w hw; simp only [List.mem_cons, List.not_mem_nil, or_false] at hw; rcases hw with rfl | rfl | rfl | rfl | rfl; exact hl; exact hsm; exact hsu; exact hi; exact hf.2.1)) rfl rfl rfl ⟨hnm, hf.2.2.1.2.2⟩ hR) (pre_V hW hF.K hS hz hb hs hci rfl) rfl (by rw [List.length_map]; exact hn) hL.1 (by simp [vr]) hcat d hcs
  exact r_after hr hN hW.1 hW.2.1 hS (fun v S' H1 locs1 hp hW1 hS1 hN1 hSS => kk v S' hp hS1 p e s m args below meth c H1 locs1 ls hF hW1 hN1 hSS hL) T hT X
/-! ===== rows: System.arraycopy of ints, from place 0 to place 0 ===== -/
theorem r_acopy {g : pG} {M : pM} {E : pE} {pc : Nat} {L : pL} {st : List Value} {S : pS} {k n : Nat} {idx q0 q1 n0 n1 N : Nat} (d : decode M.2.1 pc = .ok (.invokestatic idx, 3)) (hl : Cond.methodLink M.1.cls idx arraycopyName ∈ gT) (hnat : Cond.native arraycopyName ∈ gT) (hst : Cond.static arraycopyName ∈ gT) (hini : Cond.initialized "java/lang/System" ∈ gT)
    (hs0 : S.2.1 q0 = .inl (0, n0)) (hs1 : S.2.1 q1 = .inl (0, n1)) (h0 : q0 < S.1) (h1 : q1 < S.1) {x : Int32} (hx : x = nI N) (hn0 : N ≤ n0) (hn1 : N ≤ n1) (hN31 : N ≤ 2147483647) (hsum : (st.map fun v => v.category).sum ≤ 8) (hf : 1 ≤ E.1.frames) (hlo : 8 + (nativeFrameWords "java/lang/System" "arraycopy" 5 + 11) ≤ E.1.locals)
    (kk : PW g M E (pc + 3) L st (mArr S q1 (va_cpy (S.2.2.2 q0) (S.2.2.2 q1) 0 0 N)) k n) : PW g M E pc L (.int x :: .int 0 :: .ref q1 :: .int 0 :: .ref q0 :: st) S k n := by
  intro p e s m args below meth c H locs ls hF hW hN hS hL
  subst hx
  have hcat := cat_map (ad := gad g) hsum
  refine va_copyi hF.1 hF.2.1 (hF.2.2.2.1.trans hL.1.symm) hF.own (hF.w hl) (hF.w hnat) (hF.w hst) (hF.w hini) hW.K hW.P hW.D hS q0 q1 0 0 (ty := .int) ((wsOf_get h0).trans (by rw [cellOf_a hs0 (by decide)])) ((wsOf_get h1).trans (by rw [cellOf_a hs1 (by decide)])) rfl rfl rfl (by decide) (by decide) (nI_pos (by omega)) (by rw [nI_clamp (by omega)]; simpa using hn0) (by rw [nI_clamp (by omega)]; simpa using hn1) (fun i hi => rfl) hf (by omega) d (fun H1 locs1 hP1 hD1 hS1 => ?_)
  have e0 : (0 : Int32).toNatClampNeg = 0 := by decide
  rw [nI_clamp (by omega), e0] at hP1
  have e2 : (wsOf g.2.2.1 (gad g) S).set q1 (gad g q1, .inl (g.2.2.1 0, n1, .inl (va_cpy (S.2.2.2 q0) (S.2.2.2 q1) 0 0 N))) = wsOf g.2.2.1 (gad g) (mArr S q1 (va_cpy (S.2.2.2 q0) (S.2.2.2 q1) 0 0 N)) := wsOf_set rfl ((cellOf_a (S := mArr S q1 (va_cpy (S.2.2.2 q0) (S.2.2.2 q1) 0 0 N)) hs1 (by decide)).trans (by simp [mArr])) (fun q hq => cellOf_cong rfl rfl (by simp [mArr, hq]))
  rw [e2] at hP1
  exact kk p e s m args below meth c H1 locs1 ls hF ⟨hW.1, hW.2.1, hP1, hW.K⟩ hN hS1 hL
end
section
/-! ===== row: System.arraycopy out of a static array of ints that never changes ===== -/
theorem r_acopyT {g : pG} {M : pM} {E : pE} {pc : Nat} {L : pL} {st : List Value} {S : pS} {k n : Nat} {idx k0 q1 n1 N : Nat} (d : decode M.2.1 pc = .ok (.invokestatic idx, 3)) (hl : Cond.methodLink M.1.cls idx arraycopyName ∈ gT) (hnat : Cond.native arraycopyName ∈ gT) (hst : Cond.static arraycopyName ∈ gT) (hini : Cond.initialized "java/lang/System" ∈ gT)
    (hk : k0 < 3) (hs1 : S.2.1 q1 = .inl (0, n1)) (h1 : q1 < S.1) {x : Int32} (hx : x = nI N) (hn0 : N ≤ (kL k0).length) (hn1 : N ≤ n1) (hN31 : N ≤ 2147483647) (hsum : (st.map fun v => v.category).sum ≤ 8) (hf : 1 ≤ E.1.frames) (hlo : 8 + (nativeFrameWords "java/lang/System" "arraycopy" 5 + 11) ≤ E.1.locals)
    (kk : PW g M E (pc + 3) L st (mArr S q1 (va_cpy (kF k0) (S.2.2.2 q1) 0 0 N)) k n) : PW g M E pc L (.int x :: .int 0 :: .ref q1 :: .int 0 :: .ref (2000 + k0) :: st) S k n := by
  intro p e s m args below meth c H locs ls hF hW hN hS hL
  subst hx
  have hcat := cat_map (ad := gad g) hsum
  have z0 : (0 : Int32).toInt = 0 := by decide
  have zc : (0 : Int32).toNatClampNeg = 0 := by decide
  have zN : (nI N).toInt = (N : Int) := nI_toInt (by omega)
  obtain ⟨scr, f1, ⟨f2, cl0, f3, cm0, f4⟩, f5, f6, -, f7, f8⟩ := (hF.K.1 k0 hk).2
  have g0 : H[gad g (2000 + k0)]? = some scr := (hS.2.1 _ (Array.getElem?_eq_some_iff.mp f1).1 f8).trans f1
  have hcell : (wsOf g.2.2.1 (gad g) S)[q1]? = some (gad g q1, .inl (g.2.2.1 0, n1, .inl (S.2.2.2 q1))) := (wsOf_get h1).trans (by rw [cellOf_a hs1 (by decide)])
  have g1 : H[gad g q1]? = some (vp_cell (g.2.2.1 0) (n1, .inl (S.2.2.2 q1))) := hW.P q1 _ hcell
  obtain ⟨-, cl1, f9, cm1, f10⟩ := (hW.K.2 0 (g.2.2.1 0, .int) rfl).1 n1 (fun j => .int (S.2.2.2 q1 j))
  intro T hT X
  obtain ⟨vm', X', step⟩ := X.arraycopy hF.1 hF.own (hF.w hl) (hF.w hnat) (hF.w hst) (hF.w hini) (src := gad g (2000 + k0)) (dst := gad g q1) (cs := scr) (cd := vp_cell (g.2.2.1 0) (n1, .inl (S.2.2.2 q1))) (srcPos := 0) (destPos := 0) (n := nI N) (hT ▸ g0) (hT ▸ g1) f2 (fun _ h => by cases h) f5 (fun h => by cases h) f3 f9 f4 f10 (by simp [refKind]) (by decide) (by decide) (nI_pos (by omega))
    (by rw [z0, zN]; omega)
    (by rw [z0, zN]; show ¬ _ > ((arrV (g.2.2.1 0) n1 (fun j => .int (S.2.2.2 q1 j))).slots.size : Int); rw [arrV_size]; omega)
    (fun vm₁ _ i hi => by
      rw [nI_clamp (by omega)] at hi
      have e : scr.slots.getD ((0 : Int32).toNatClampNeg + i) .null = .int (kF k0 i) := by
        rw [zc, Nat.zero_add, Array.getD_eq_getD_getElem?, f7 i (by omega)]
        rfl
      rw [e]
      exact ⟨rfl, trivial⟩)
    (g := F0 m pc ls ((Value.int (nI N) :: .int 0 :: .ref q1 :: .int 0 :: .ref (2000 + k0) :: st).map (vr (gad g)))) rfl (hL.1.trans hF.2.2.2.1.symm) (rest := st.map (vr (gad g))) rfl (hF.2.1 ▸ d) hf (by show 2 * 0 + _ + _ ≤ _; omega)
  have e1 : copied scr (vp_cell (g.2.2.1 0) (n1, .inl (S.2.2.2 q1))) 0 0 (nI N) = vp_cell (g.2.2.1 0) (n1, .inl (va_cpy (kF k0) (S.2.2.2 q1) 0 0 N)) := by
    have h := va_copiedX (fun z => Value.int z) scr (g.2.2.1 0) (n1 := n1) (dp := 0) (kF k0) (S.2.2.2 q1) (n0 := (kL k0).length) (sp := 0) (n := N) f7 (by omega)
    have h2 : copied scr (vp_cell (g.2.2.1 0) (n1, .inl (S.2.2.2 q1))) 0 0 (nI N) = (vp_cell (g.2.2.1 0) (n1, .inl (S.2.2.2 q1))).storeRun 0 (scr.stretch 0 N) := by
      unfold copied
      rw [zc, nI_clamp (by omega)]
    rw [h2]
    exact h
  rw [e1] at X' step
  have hl1 : gad g q1 < H.size := (Array.getElem?_eq_some_iff.mp g1).1
  generalize hC : vp_cell (g.2.2.1 0) (n1, .inl (va_cpy (kF k0) (S.2.2.2 q1) 0 0 N)) = C at X' step
  have hheap : ((T.setVm vm').setCell (gad g q1) C).heap = H.setIfInBounds (gad g q1) C := by rw [← hT]; rfl
  have oq : ∀ q : Nat, q ≠ gad g q1 → (H.setIfInBounds (gad g q1) C)[q]? = H[q]? := fun q hq => by simp [Array.getElem?_setIfInBounds, Ne.symm hq]
  have hP1 := hW.P.set hW.D hcell (e := .inl (g.2.2.1 0, n1, .inl (va_cpy (kF k0) (S.2.2.2 q1) 0 0 N))) (H1 := H.setIfInBounds (gad g q1) C) (show (H.setIfInBounds (gad g q1) C)[gad g q1]? = some _ by rw [← hC]; simp [Array.getElem?_setIfInBounds, hl1]) oq
  have e2 : (wsOf g.2.2.1 (gad g) S).set q1 (gad g q1, .inl (g.2.2.1 0, n1, .inl (va_cpy (kF k0) (S.2.2.2 q1) 0 0 N))) = wsOf g.2.2.1 (gad g) (mArr S q1 (va_cpy (kF k0) (S.2.2.2 q1) 0 0 N)) := wsOf_set rfl ((cellOf_a (S := mArr S q1 (va_cpy (kF k0) (S.2.2.2 q1) 0 0 N)) hs1 (by decide)).trans (by simp [mArr])) (fun q hq => cellOf_cong rfl rfl (by simp [mArr, hq]))
  rw [e2] at hP1
  have hA1 : pA g (gad g q1) := hW.D.2 q1 _ hcell
  obtain ⟨t, a1, b1⟩ := kk p e s m args below meth c _ _ ls hF ⟨hW.1, hW.2.1, hP1, hW.K⟩ hN ⟨by simp; exact hS.1, fun q i1 i2 => (oq q (fun z => i2 (by rw [z]; exact hA1))).trans (hS.2.1 q i1 i2), fun q hq => by
      rcases List.mem_append.mp hq with h | h
      · exact hS.2.2 q h
      · obtain ⟨z, -, hz⟩ := List.mem_map.mp h
        rw [← hz]
        exact hA1⟩ hL _ hheap X'
  exact ⟨t, step t a1, b1⟩
theorem zz : (1:Nat) = 2 := rfl
end
