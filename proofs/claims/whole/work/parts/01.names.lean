-- ===== PART A: goes FIRST, ahead of the names: the tables' words, and 'selects' of the private methods out of them =====
/-- a private method of a class that the tables say can be made, by its rows of tables_1 -/
def lw_okq (q : MethodName × Nat) : Prop := (q.1.cls ≠ "java/lang/invoke/MethodHandle" ∧ q.1.cls ≠ "java/lang/invoke/VarHandle") ∧ Cond.instantiable q.1.cls q.2 ∈ tables_1 ∧ Cond.privateMethod q.1 ∈ tables_1 ∧ Cond.instanceMethod q.1 ∈ tables_1
theorem lw_p0 : lw_okq (⟨"OneRoom$Floor", "hasBedAt", "(I)Z"⟩, 6) := ⟨⟨by decide +kernel, by decide +kernel⟩, List.mem_of_getElem? (i := 36) (by decide +kernel), List.mem_of_getElem? (i := 480) (by decide +kernel), List.mem_of_getElem? (i := 481) (by decide +kernel)⟩
theorem lw_p1 : lw_okq (⟨"OneRoom", "counted", "(I)I"⟩, 13) := ⟨⟨by decide +kernel, by decide +kernel⟩, List.mem_of_getElem? (i := 22) (by decide +kernel), List.mem_of_getElem? (i := 484) (by decide +kernel), List.mem_of_getElem? (i := 485) (by decide +kernel)⟩
theorem lw_p2 : lw_okq (⟨"OneRoom", "refused", "(II)I"⟩, 13) := ⟨⟨by decide +kernel, by decide +kernel⟩, List.mem_of_getElem? (i := 22) (by decide +kernel), List.mem_of_getElem? (i := 488) (by decide +kernel), List.mem_of_getElem? (i := 489) (by decide +kernel)⟩
theorem lw_p3 : lw_okq (⟨"OneRoom$House", "isOf", "(II)Z"⟩, 4) := ⟨⟨by decide +kernel, by decide +kernel⟩, List.mem_of_getElem? (i := 30) (by decide +kernel), List.mem_of_getElem? (i := 561) (by decide +kernel), List.mem_of_getElem? (i := 562) (by decide +kernel)⟩
theorem lw_p4 : lw_okq (⟨"OneRoom$Text", "skipBlanks", "()V"⟩, 6) := ⟨⟨by decide +kernel, by decide +kernel⟩, List.mem_of_getElem? (i := 205) (by decide +kernel), List.mem_of_getElem? (i := 605) (by decide +kernel), List.mem_of_getElem? (i := 606) (by decide +kernel)⟩
theorem lw_p5 : lw_okq (⟨"OneRoom$Text", "byteAt", "(I)I"⟩, 6) := ⟨⟨by decide +kernel, by decide +kernel⟩, List.mem_of_getElem? (i := 205) (by decide +kernel), List.mem_of_getElem? (i := 609) (by decide +kernel), List.mem_of_getElem? (i := 610) (by decide +kernel)⟩
theorem lw_p6 : lw_okq (⟨"OneRoom$Text", "readItem", "()I"⟩, 6) := ⟨⟨by decide +kernel, by decide +kernel⟩, List.mem_of_getElem? (i := 205) (by decide +kernel), List.mem_of_getElem? (i := 613) (by decide +kernel), List.mem_of_getElem? (i := 614) (by decide +kernel)⟩
theorem lw_p7 : lw_okq (⟨"OneRoom$Text", "readWord", "()I"⟩, 6) := ⟨⟨by decide +kernel, by decide +kernel⟩, List.mem_of_getElem? (i := 205) (by decide +kernel), List.mem_of_getElem? (i := 617) (by decide +kernel), List.mem_of_getElem? (i := 618) (by decide +kernel)⟩
theorem lw_p8 : lw_okq (⟨"OneRoom$Text", "isSame", "(III)Z"⟩, 6) := ⟨⟨by decide +kernel, by decide +kernel⟩, List.mem_of_getElem? (i := 205) (by decide +kernel), List.mem_of_getElem? (i := 670) (by decide +kernel), List.mem_of_getElem? (i := 671) (by decide +kernel)⟩
theorem lw_p9 : lw_okq (⟨"OneRoom$Text", "readNumber", "()I"⟩, 6) := ⟨⟨by decide +kernel, by decide +kernel⟩, List.mem_of_getElem? (i := 205) (by decide +kernel), List.mem_of_getElem? (i := 676) (by decide +kernel), List.mem_of_getElem? (i := 677) (by decide +kernel)⟩
theorem lw_p10 : lw_okq (⟨"OneRoom", "pass", "(LOneRoom$House;I)V"⟩, 13) := ⟨⟨by decide +kernel, by decide +kernel⟩, List.mem_of_getElem? (i := 22) (by decide +kernel), List.mem_of_getElem? (i := 761) (by decide +kernel), List.mem_of_getElem? (i := 762) (by decide +kernel)⟩
theorem lw_p11 : lw_okq (⟨"OneRoom$Ears", "measureBeds", "()V"⟩, 10) := ⟨⟨by decide +kernel, by decide +kernel⟩, List.mem_of_getElem? (i := 243) (by decide +kernel), List.mem_of_getElem? (i := 774) (by decide +kernel), List.mem_of_getElem? (i := 775) (by decide +kernel)⟩
theorem lw_p12 : lw_okq (⟨"OneRoom$Ears", "walk", "(I[I[I)V"⟩, 10) := ⟨⟨by decide +kernel, by decide +kernel⟩, List.mem_of_getElem? (i := 243) (by decide +kernel), List.mem_of_getElem? (i := 778) (by decide +kernel), List.mem_of_getElem? (i := 779) (by decide +kernel)⟩
theorem lw_p13 : lw_okq (⟨"OneRoom$Ears", "listenTo", "(LOneRoom$Sounds;I)V"⟩, 10) := ⟨⟨by decide +kernel, by decide +kernel⟩, List.mem_of_getElem? (i := 243) (by decide +kernel), List.mem_of_getElem? (i := 793) (by decide +kernel), List.mem_of_getElem? (i := 794) (by decide +kernel)⟩
theorem lw_p14 : lw_okq (⟨"OneRoom$Night", "comeAndGo", "(I)V"⟩, 15) := ⟨⟨by decide +kernel, by decide +kernel⟩, List.mem_of_getElem? (i := 236) (by decide +kernel), List.mem_of_getElem? (i := 805) (by decide +kernel), List.mem_of_getElem? (i := 806) (by decide +kernel)⟩
theorem lw_p15 : lw_okq (⟨"OneRoom$Night", "lookRound", "(I)V"⟩, 15) := ⟨⟨by decide +kernel, by decide +kernel⟩, List.mem_of_getElem? (i := 236) (by decide +kernel), List.mem_of_getElem? (i := 809) (by decide +kernel), List.mem_of_getElem? (i := 810) (by decide +kernel)⟩
def lw_privs_1 : List (MethodName × Nat) := [(⟨"OneRoom$Floor", "hasBedAt", "(I)Z"⟩, 6), (⟨"OneRoom", "counted", "(I)I"⟩, 13), (⟨"OneRoom", "refused", "(II)I"⟩, 13), (⟨"OneRoom$House", "isOf", "(II)Z"⟩, 4), (⟨"OneRoom$Text", "skipBlanks", "()V"⟩, 6), (⟨"OneRoom$Text", "byteAt", "(I)I"⟩, 6), (⟨"OneRoom$Text", "readItem", "()I"⟩, 6), (⟨"OneRoom$Text", "readWord", "()I"⟩, 6), (⟨"OneRoom$Text", "isSame", "(III)Z"⟩, 6), (⟨"OneRoom$Text", "readNumber", "()I"⟩, 6), (⟨"OneRoom", "pass", "(LOneRoom$House;I)V"⟩, 13), (⟨"OneRoom$Ears", "measureBeds", "()V"⟩, 10), (⟨"OneRoom$Ears", "walk", "(I[I[I)V"⟩, 10), (⟨"OneRoom$Ears", "listenTo", "(LOneRoom$Sounds;I)V"⟩, 10), (⟨"OneRoom$Night", "comeAndGo", "(I)V"⟩, 15), (⟨"OneRoom$Night", "lookRound", "(I)V"⟩, 15)]
theorem lw_r1 : ∀ q ∈ lw_privs_1, lw_okq q := List.forall_mem_cons.mpr ⟨lw_p0, List.forall_mem_cons.mpr ⟨lw_p1, List.forall_mem_cons.mpr ⟨lw_p2, List.forall_mem_cons.mpr ⟨lw_p3, List.forall_mem_cons.mpr ⟨lw_p4, List.forall_mem_cons.mpr ⟨lw_p5, List.forall_mem_cons.mpr ⟨lw_p6, List.forall_mem_cons.mpr ⟨lw_p7, List.forall_mem_cons.mpr ⟨lw_p8, List.forall_mem_cons.mpr ⟨lw_p9, List.forall_mem_cons.mpr ⟨lw_p10, List.forall_mem_cons.mpr ⟨lw_p11, List.forall_mem_cons.mpr ⟨lw_p12, List.forall_mem_cons.mpr ⟨lw_p13, List.forall_mem_cons.mpr ⟨lw_p14, List.forall_mem_cons.mpr ⟨lw_p15, fun _ h => absurd h List.not_mem_nil⟩⟩⟩⟩⟩⟩⟩⟩⟩⟩⟩⟩⟩⟩⟩⟩
theorem lw_p16 : lw_okq (⟨"OneRoom$Night", "listen", "(II)V"⟩, 15) := ⟨⟨by decide +kernel, by decide +kernel⟩, List.mem_of_getElem? (i := 236) (by decide +kernel), List.mem_of_getElem? (i := 819) (by decide +kernel), List.mem_of_getElem? (i := 820) (by decide +kernel)⟩
theorem lw_p17 : lw_okq (⟨"OneRoom$Night", "listenToSteps", "(III)V"⟩, 15) := ⟨⟨by decide +kernel, by decide +kernel⟩, List.mem_of_getElem? (i := 236) (by decide +kernel), List.mem_of_getElem? (i := 823) (by decide +kernel), List.mem_of_getElem? (i := 824) (by decide +kernel)⟩
theorem lw_p18 : lw_okq (⟨"OneRoom$Night", "hear", "(II)V"⟩, 15) := ⟨⟨by decide +kernel, by decide +kernel⟩, List.mem_of_getElem? (i := 236) (by decide +kernel), List.mem_of_getElem? (i := 827) (by decide +kernel), List.mem_of_getElem? (i := 828) (by decide +kernel)⟩
theorem lw_p19 : lw_okq (⟨"OneRoom$Night", "listenToSounds", "(III)V"⟩, 15) := ⟨⟨by decide +kernel, by decide +kernel⟩, List.mem_of_getElem? (i := 236) (by decide +kernel), List.mem_of_getElem? (i := 831) (by decide +kernel), List.mem_of_getElem? (i := 832) (by decide +kernel)⟩
theorem lw_p20 : lw_okq (⟨"OneRoom$Night", "listenToSnores", "(II)V"⟩, 15) := ⟨⟨by decide +kernel, by decide +kernel⟩, List.mem_of_getElem? (i := 236) (by decide +kernel), List.mem_of_getElem? (i := 835) (by decide +kernel), List.mem_of_getElem? (i := 836) (by decide +kernel)⟩
theorem lw_p21 : lw_okq (⟨"OneRoom$Night", "stir", "(II)V"⟩, 15) := ⟨⟨by decide +kernel, by decide +kernel⟩, List.mem_of_getElem? (i := 236) (by decide +kernel), List.mem_of_getElem? (i := 839) (by decide +kernel), List.mem_of_getElem? (i := 840) (by decide +kernel)⟩
theorem lw_p22 : lw_okq (⟨"OneRoom$Night", "note", "(II)V"⟩, 15) := ⟨⟨by decide +kernel, by decide +kernel⟩, List.mem_of_getElem? (i := 236) (by decide +kernel), List.mem_of_getElem? (i := 844) (by decide +kernel), List.mem_of_getElem? (i := 845) (by decide +kernel)⟩
theorem lw_p23 : lw_okq (⟨"OneRoom", "isOpen", "(I)Z"⟩, 13) := ⟨⟨by decide +kernel, by decide +kernel⟩, List.mem_of_getElem? (i := 22) (by decide +kernel), List.mem_of_getElem? (i := 883) (by decide +kernel), List.mem_of_getElem? (i := 884) (by decide +kernel)⟩
theorem lw_p24 : lw_okq (⟨"OneRoom$Hush", "listenIn", "(LOneRoom$House;)V"⟩, 8) := ⟨⟨by decide +kernel, by decide +kernel⟩, List.mem_of_getElem? (i := 389) (by decide +kernel), List.mem_of_getElem? (i := 891) (by decide +kernel), List.mem_of_getElem? (i := 892) (by decide +kernel)⟩
theorem lw_p25 : lw_okq (⟨"OneRoom$Search", "start", "(LOneRoom$House;)V"⟩, 7) := ⟨⟨by decide +kernel, by decide +kernel⟩, List.mem_of_getElem? (i := 355) (by decide +kernel), List.mem_of_getElem? (i := 921) (by decide +kernel), List.mem_of_getElem? (i := 922) (by decide +kernel)⟩
theorem lw_p26 : lw_okq (⟨"OneRoom$Search", "fillRow", "(III)V"⟩, 7) := ⟨⟨by decide +kernel, by decide +kernel⟩, List.mem_of_getElem? (i := 355) (by decide +kernel), List.mem_of_getElem? (i := 930) (by decide +kernel), List.mem_of_getElem? (i := 931) (by decide +kernel)⟩
theorem lw_p27 : lw_okq (⟨"OneRoom$Search", "isUnlike", "(I)Z"⟩, 7) := ⟨⟨by decide +kernel, by decide +kernel⟩, List.mem_of_getElem? (i := 355) (by decide +kernel), List.mem_of_getElem? (i := 934) (by decide +kernel), List.mem_of_getElem? (i := 935) (by decide +kernel)⟩
theorem lw_p28 : lw_okq (⟨"OneRoom$Search", "keepIfBetter", "()V"⟩, 7) := ⟨⟨by decide +kernel, by decide +kernel⟩, List.mem_of_getElem? (i := 355) (by decide +kernel), List.mem_of_getElem? (i := 944) (by decide +kernel), List.mem_of_getElem? (i := 945) (by decide +kernel)⟩
theorem lw_p29 : lw_okq (⟨"OneRoom$Search", "exchange", "(LOneRoom$People;)Z"⟩, 7) := ⟨⟨by decide +kernel, by decide +kernel⟩, List.mem_of_getElem? (i := 355) (by decide +kernel), List.mem_of_getElem? (i := 968) (by decide +kernel), List.mem_of_getElem? (i := 969) (by decide +kernel)⟩
theorem lw_p30 : lw_okq (⟨"OneRoom", "isThing", "(II)Z"⟩, 13) := ⟨⟨by decide +kernel, by decide +kernel⟩, List.mem_of_getElem? (i := 22) (by decide +kernel), List.mem_of_getElem? (i := 976) (by decide +kernel), List.mem_of_getElem? (i := 977) (by decide +kernel)⟩
theorem lw_p31 : lw_okq (⟨"OneRoom", "passWith", "(II)V"⟩, 13) := ⟨⟨by decide +kernel, by decide +kernel⟩, List.mem_of_getElem? (i := 22) (by decide +kernel), List.mem_of_getElem? (i := 980) (by decide +kernel), List.mem_of_getElem? (i := 981) (by decide +kernel)⟩
def lw_privs_2 : List (MethodName × Nat) := [(⟨"OneRoom$Night", "listen", "(II)V"⟩, 15), (⟨"OneRoom$Night", "listenToSteps", "(III)V"⟩, 15), (⟨"OneRoom$Night", "hear", "(II)V"⟩, 15), (⟨"OneRoom$Night", "listenToSounds", "(III)V"⟩, 15), (⟨"OneRoom$Night", "listenToSnores", "(II)V"⟩, 15), (⟨"OneRoom$Night", "stir", "(II)V"⟩, 15), (⟨"OneRoom$Night", "note", "(II)V"⟩, 15), (⟨"OneRoom", "isOpen", "(I)Z"⟩, 13), (⟨"OneRoom$Hush", "listenIn", "(LOneRoom$House;)V"⟩, 8), (⟨"OneRoom$Search", "start", "(LOneRoom$House;)V"⟩, 7), (⟨"OneRoom$Search", "fillRow", "(III)V"⟩, 7), (⟨"OneRoom$Search", "isUnlike", "(I)Z"⟩, 7), (⟨"OneRoom$Search", "keepIfBetter", "()V"⟩, 7), (⟨"OneRoom$Search", "exchange", "(LOneRoom$People;)Z"⟩, 7), (⟨"OneRoom", "isThing", "(II)Z"⟩, 13), (⟨"OneRoom", "passWith", "(II)V"⟩, 13)]
theorem lw_r2 : ∀ q ∈ lw_privs_2, lw_okq q := List.forall_mem_cons.mpr ⟨lw_p16, List.forall_mem_cons.mpr ⟨lw_p17, List.forall_mem_cons.mpr ⟨lw_p18, List.forall_mem_cons.mpr ⟨lw_p19, List.forall_mem_cons.mpr ⟨lw_p20, List.forall_mem_cons.mpr ⟨lw_p21, List.forall_mem_cons.mpr ⟨lw_p22, List.forall_mem_cons.mpr ⟨lw_p23, List.forall_mem_cons.mpr ⟨lw_p24, List.forall_mem_cons.mpr ⟨lw_p25, List.forall_mem_cons.mpr ⟨lw_p26, List.forall_mem_cons.mpr ⟨lw_p27, List.forall_mem_cons.mpr ⟨lw_p28, List.forall_mem_cons.mpr ⟨lw_p29, List.forall_mem_cons.mpr ⟨lw_p30, List.forall_mem_cons.mpr ⟨lw_p31, fun _ h => absurd h List.not_mem_nil⟩⟩⟩⟩⟩⟩⟩⟩⟩⟩⟩⟩⟩⟩⟩⟩
theorem lw_p32 : lw_okq (⟨"OneRoom", "setFraction", "(II)V"⟩, 13) := ⟨⟨by decide +kernel, by decide +kernel⟩, List.mem_of_getElem? (i := 22) (by decide +kernel), List.mem_of_getElem? (i := 1024) (by decide +kernel), List.mem_of_getElem? (i := 1025) (by decide +kernel)⟩
theorem lw_p33 : lw_okq (⟨"OneRoom", "howMany", "(I)I"⟩, 13) := ⟨⟨by decide +kernel, by decide +kernel⟩, List.mem_of_getElem? (i := 22) (by decide +kernel), List.mem_of_getElem? (i := 1051) (by decide +kernel), List.mem_of_getElem? (i := 1052) (by decide +kernel)⟩
theorem lw_p34 : lw_okq (⟨"OneRoomModel", "begins", "()V"⟩, 42) := ⟨⟨by decide +kernel, by decide +kernel⟩, List.mem_of_getElem? (i := 1085) (by decide +kernel), List.mem_of_getElem? (i := 1091) (by decide +kernel), List.mem_of_getElem? (i := 1092) (by decide +kernel)⟩
theorem lw_p35 : lw_okq (⟨"OneRoomModel", "isBedAt", "(I)Z"⟩, 42) := ⟨⟨by decide +kernel, by decide +kernel⟩, List.mem_of_getElem? (i := 1085) (by decide +kernel), List.mem_of_getElem? (i := 1233) (by decide +kernel), List.mem_of_getElem? (i := 1234) (by decide +kernel)⟩
theorem lw_p36 : lw_okq (⟨"OneRoomModel", "bad", "()I"⟩, 42) := ⟨⟨by decide +kernel, by decide +kernel⟩, List.mem_of_getElem? (i := 1085) (by decide +kernel), List.mem_of_getElem? (i := 1237) (by decide +kernel), List.mem_of_getElem? (i := 1238) (by decide +kernel)⟩
theorem lw_p37 : lw_okq (⟨"OneRoomModel", "refuses", "(II)I"⟩, 42) := ⟨⟨by decide +kernel, by decide +kernel⟩, List.mem_of_getElem? (i := 1085) (by decide +kernel), List.mem_of_getElem? (i := 1241) (by decide +kernel), List.mem_of_getElem? (i := 1242) (by decide +kernel)⟩
theorem lw_p38 : lw_okq (⟨"OneRoomModel", "isWall", "(I)Z"⟩, 42) := ⟨⟨by decide +kernel, by decide +kernel⟩, List.mem_of_getElem? (i := 1085) (by decide +kernel), List.mem_of_getElem? (i := 1245) (by decide +kernel), List.mem_of_getElem? (i := 1246) (by decide +kernel)⟩
theorem lw_p39 : lw_okq (⟨"OneRoomModel", "no", "()I"⟩, 42) := ⟨⟨by decide +kernel, by decide +kernel⟩, List.mem_of_getElem? (i := 1085) (by decide +kernel), List.mem_of_getElem? (i := 1249) (by decide +kernel), List.mem_of_getElem? (i := 1250) (by decide +kernel)⟩
theorem lw_p40 : lw_okq (⟨"OneRoomModel", "puts", "(II)I"⟩, 42) := ⟨⟨by decide +kernel, by decide +kernel⟩, List.mem_of_getElem? (i := 1085) (by decide +kernel), List.mem_of_getElem? (i := 1258) (by decide +kernel), List.mem_of_getElem? (i := 1259) (by decide +kernel)⟩
theorem lw_p41 : lw_okq (⟨"OneRoomModel", "full", "()I"⟩, 42) := ⟨⟨by decide +kernel, by decide +kernel⟩, List.mem_of_getElem? (i := 1085) (by decide +kernel), List.mem_of_getElem? (i := 1271) (by decide +kernel), List.mem_of_getElem? (i := 1272) (by decide +kernel)⟩
theorem lw_p42 : lw_okq (⟨"OneRoomModel", "isSleeper", "(I)Z"⟩, 42) := ⟨⟨by decide +kernel, by decide +kernel⟩, List.mem_of_getElem? (i := 1085) (by decide +kernel), List.mem_of_getElem? (i := 1285) (by decide +kernel), List.mem_of_getElem? (i := 1286) (by decide +kernel)⟩
theorem lw_p43 : lw_okq (⟨"OneRoomModel", "isBed", "(I)Z"⟩, 42) := ⟨⟨by decide +kernel, by decide +kernel⟩, List.mem_of_getElem? (i := 1085) (by decide +kernel), List.mem_of_getElem? (i := 1289) (by decide +kernel), List.mem_of_getElem? (i := 1290) (by decide +kernel)⟩
theorem lw_p44 : lw_okq (⟨"OneRoomModel", "of", "(II)I"⟩, 42) := ⟨⟨by decide +kernel, by decide +kernel⟩, List.mem_of_getElem? (i := 1085) (by decide +kernel), List.mem_of_getElem? (i := 1293) (by decide +kernel), List.mem_of_getElem? (i := 1294) (by decide +kernel)⟩
theorem lw_p45 : lw_okq (⟨"OneRoomModel", "reads", "()Z"⟩, 42) := ⟨⟨by decide +kernel, by decide +kernel⟩, List.mem_of_getElem? (i := 1085) (by decide +kernel), List.mem_of_getElem? (i := 1320) (by decide +kernel), List.mem_of_getElem? (i := 1321) (by decide +kernel)⟩
theorem lw_p46 : lw_okq (⟨"OneRoomModel", "scans", "()V"⟩, 42) := ⟨⟨by decide +kernel, by decide +kernel⟩, List.mem_of_getElem? (i := 1085) (by decide +kernel), List.mem_of_getElem? (i := 1324) (by decide +kernel), List.mem_of_getElem? (i := 1325) (by decide +kernel)⟩
theorem lw_p47 : lw_okq (⟨"OneRoomModel", "isAt", "(II)Z"⟩, 42) := ⟨⟨by decide +kernel, by decide +kernel⟩, List.mem_of_getElem? (i := 1085) (by decide +kernel), List.mem_of_getElem? (i := 1328) (by decide +kernel), List.mem_of_getElem? (i := 1329) (by decide +kernel)⟩
def lw_privs_3 : List (MethodName × Nat) := [(⟨"OneRoom", "setFraction", "(II)V"⟩, 13), (⟨"OneRoom", "howMany", "(I)I"⟩, 13), (⟨"OneRoomModel", "begins", "()V"⟩, 42), (⟨"OneRoomModel", "isBedAt", "(I)Z"⟩, 42), (⟨"OneRoomModel", "bad", "()I"⟩, 42), (⟨"OneRoomModel", "refuses", "(II)I"⟩, 42), (⟨"OneRoomModel", "isWall", "(I)Z"⟩, 42), (⟨"OneRoomModel", "no", "()I"⟩, 42), (⟨"OneRoomModel", "puts", "(II)I"⟩, 42), (⟨"OneRoomModel", "full", "()I"⟩, 42), (⟨"OneRoomModel", "isSleeper", "(I)Z"⟩, 42), (⟨"OneRoomModel", "isBed", "(I)Z"⟩, 42), (⟨"OneRoomModel", "of", "(II)I"⟩, 42), (⟨"OneRoomModel", "reads", "()Z"⟩, 42), (⟨"OneRoomModel", "scans", "()V"⟩, 42), (⟨"OneRoomModel", "isAt", "(II)Z"⟩, 42)]
theorem lw_r3 : ∀ q ∈ lw_privs_3, lw_okq q := List.forall_mem_cons.mpr ⟨lw_p32, List.forall_mem_cons.mpr ⟨lw_p33, List.forall_mem_cons.mpr ⟨lw_p34, List.forall_mem_cons.mpr ⟨lw_p35, List.forall_mem_cons.mpr ⟨lw_p36, List.forall_mem_cons.mpr ⟨lw_p37, List.forall_mem_cons.mpr ⟨lw_p38, List.forall_mem_cons.mpr ⟨lw_p39, List.forall_mem_cons.mpr ⟨lw_p40, List.forall_mem_cons.mpr ⟨lw_p41, List.forall_mem_cons.mpr ⟨lw_p42, List.forall_mem_cons.mpr ⟨lw_p43, List.forall_mem_cons.mpr ⟨lw_p44, List.forall_mem_cons.mpr ⟨lw_p45, List.forall_mem_cons.mpr ⟨lw_p46, List.forall_mem_cons.mpr ⟨lw_p47, fun _ h => absurd h List.not_mem_nil⟩⟩⟩⟩⟩⟩⟩⟩⟩⟩⟩⟩⟩⟩⟩⟩
theorem lw_p48 : lw_okq (⟨"OneRoomModel", "tellsItem", "(I)Z"⟩, 42) := ⟨⟨by decide +kernel, by decide +kernel⟩, List.mem_of_getElem? (i := 1085) (by decide +kernel), List.mem_of_getElem? (i := 1352) (by decide +kernel), List.mem_of_getElem? (i := 1353) (by decide +kernel)⟩
theorem lw_p49 : lw_okq (⟨"OneRoomModel", "looks", "()V"⟩, 42) := ⟨⟨by decide +kernel, by decide +kernel⟩, List.mem_of_getElem? (i := 1085) (by decide +kernel), List.mem_of_getElem? (i := 1367) (by decide +kernel), List.mem_of_getElem? (i := 1368) (by decide +kernel)⟩
theorem lw_p50 : lw_okq (⟨"OneRoomModel", "beside", "(II)I"⟩, 42) := ⟨⟨by decide +kernel, by decide +kernel⟩, List.mem_of_getElem? (i := 1085) (by decide +kernel), List.mem_of_getElem? (i := 1371) (by decide +kernel), List.mem_of_getElem? (i := 1372) (by decide +kernel)⟩
theorem lw_p51 : lw_okq (⟨"OneRoomModel", "cover", "(I)I"⟩, 42) := ⟨⟨by decide +kernel, by decide +kernel⟩, List.mem_of_getElem? (i := 1085) (by decide +kernel), List.mem_of_getElem? (i := 1380) (by decide +kernel), List.mem_of_getElem? (i := 1381) (by decide +kernel)⟩
theorem lw_p52 : lw_okq (⟨"OneRoomModel", "heardAt", "(IIII)I"⟩, 42) := ⟨⟨by decide +kernel, by decide +kernel⟩, List.mem_of_getElem? (i := 1085) (by decide +kernel), List.mem_of_getElem? (i := 1384) (by decide +kernel), List.mem_of_getElem? (i := 1385) (by decide +kernel)⟩
theorem lw_p53 : lw_okq (⟨"OneRoomModel", "nights", "()V"⟩, 42) := ⟨⟨by decide +kernel, by decide +kernel⟩, List.mem_of_getElem? (i := 1085) (by decide +kernel), List.mem_of_getElem? (i := 1392) (by decide +kernel), List.mem_of_getElem? (i := 1393) (by decide +kernel)⟩
theorem lw_p54 : lw_okq (⟨"OneRoomModel", "comes", "(I)V"⟩, 42) := ⟨⟨by decide +kernel, by decide +kernel⟩, List.mem_of_getElem? (i := 1085) (by decide +kernel), List.mem_of_getElem? (i := 1396) (by decide +kernel), List.mem_of_getElem? (i := 1397) (by decide +kernel)⟩
theorem lw_p55 : lw_okq (⟨"OneRoomModel", "bedCell", "(I)I"⟩, 42) := ⟨⟨by decide +kernel, by decide +kernel⟩, List.mem_of_getElem? (i := 1085) (by decide +kernel), List.mem_of_getElem? (i := 1400) (by decide +kernel), List.mem_of_getElem? (i := 1401) (by decide +kernel)⟩
theorem lw_p56 : lw_okq (⟨"OneRoomModel", "steps", "(III)V"⟩, 42) := ⟨⟨by decide +kernel, by decide +kernel⟩, List.mem_of_getElem? (i := 1085) (by decide +kernel), List.mem_of_getElem? (i := 1404) (by decide +kernel), List.mem_of_getElem? (i := 1405) (by decide +kernel)⟩
theorem lw_p57 : lw_okq (⟨"OneRoomModel", "noise", "(IIII)V"⟩, 42) := ⟨⟨by decide +kernel, by decide +kernel⟩, List.mem_of_getElem? (i := 1085) (by decide +kernel), List.mem_of_getElem? (i := 1408) (by decide +kernel), List.mem_of_getElem? (i := 1409) (by decide +kernel)⟩
theorem lw_p58 : lw_okq (⟨"OneRoomModel", "sounds", "(I)V"⟩, 42) := ⟨⟨by decide +kernel, by decide +kernel⟩, List.mem_of_getElem? (i := 1085) (by decide +kernel), List.mem_of_getElem? (i := 1412) (by decide +kernel), List.mem_of_getElem? (i := 1413) (by decide +kernel)⟩
theorem lw_p59 : lw_okq (⟨"OneRoomModel", "snores", "(I)V"⟩, 42) := ⟨⟨by decide +kernel, by decide +kernel⟩, List.mem_of_getElem? (i := 1085) (by decide +kernel), List.mem_of_getElem? (i := 1416) (by decide +kernel), List.mem_of_getElem? (i := 1417) (by decide +kernel)⟩
theorem lw_p60 : lw_okq (⟨"OneRoomModel", "listens", "(III)V"⟩, 42) := ⟨⟨by decide +kernel, by decide +kernel⟩, List.mem_of_getElem? (i := 1085) (by decide +kernel), List.mem_of_getElem? (i := 1423) (by decide +kernel), List.mem_of_getElem? (i := 1424) (by decide +kernel)⟩
theorem lw_p61 : lw_okq (⟨"OneRoomModel", "wokeBy", "(II)I"⟩, 42) := ⟨⟨by decide +kernel, by decide +kernel⟩, List.mem_of_getElem? (i := 1085) (by decide +kernel), List.mem_of_getElem? (i := 1440) (by decide +kernel), List.mem_of_getElem? (i := 1441) (by decide +kernel)⟩
theorem lw_p62 : lw_okq (⟨"OneRoomModel", "paths", "(III)V"⟩, 42) := ⟨⟨by decide +kernel, by decide +kernel⟩, List.mem_of_getElem? (i := 1085) (by decide +kernel), List.mem_of_getElem? (i := 1453) (by decide +kernel), List.mem_of_getElem? (i := 1454) (by decide +kernel)⟩
theorem lw_p63 : lw_okq (⟨"OneRoomModel", "findBest", "(Z)Z"⟩, 42) := ⟨⟨by decide +kernel, by decide +kernel⟩, List.mem_of_getElem? (i := 1085) (by decide +kernel), List.mem_of_getElem? (i := 1469) (by decide +kernel), List.mem_of_getElem? (i := 1470) (by decide +kernel)⟩
def lw_privs_4 : List (MethodName × Nat) := [(⟨"OneRoomModel", "tellsItem", "(I)Z"⟩, 42), (⟨"OneRoomModel", "looks", "()V"⟩, 42), (⟨"OneRoomModel", "beside", "(II)I"⟩, 42), (⟨"OneRoomModel", "cover", "(I)I"⟩, 42), (⟨"OneRoomModel", "heardAt", "(IIII)I"⟩, 42), (⟨"OneRoomModel", "nights", "()V"⟩, 42), (⟨"OneRoomModel", "comes", "(I)V"⟩, 42), (⟨"OneRoomModel", "bedCell", "(I)I"⟩, 42), (⟨"OneRoomModel", "steps", "(III)V"⟩, 42), (⟨"OneRoomModel", "noise", "(IIII)V"⟩, 42), (⟨"OneRoomModel", "sounds", "(I)V"⟩, 42), (⟨"OneRoomModel", "snores", "(I)V"⟩, 42), (⟨"OneRoomModel", "listens", "(III)V"⟩, 42), (⟨"OneRoomModel", "wokeBy", "(II)I"⟩, 42), (⟨"OneRoomModel", "paths", "(III)V"⟩, 42), (⟨"OneRoomModel", "findBest", "(Z)Z"⟩, 42)]
theorem lw_r4 : ∀ q ∈ lw_privs_4, lw_okq q := List.forall_mem_cons.mpr ⟨lw_p48, List.forall_mem_cons.mpr ⟨lw_p49, List.forall_mem_cons.mpr ⟨lw_p50, List.forall_mem_cons.mpr ⟨lw_p51, List.forall_mem_cons.mpr ⟨lw_p52, List.forall_mem_cons.mpr ⟨lw_p53, List.forall_mem_cons.mpr ⟨lw_p54, List.forall_mem_cons.mpr ⟨lw_p55, List.forall_mem_cons.mpr ⟨lw_p56, List.forall_mem_cons.mpr ⟨lw_p57, List.forall_mem_cons.mpr ⟨lw_p58, List.forall_mem_cons.mpr ⟨lw_p59, List.forall_mem_cons.mpr ⟨lw_p60, List.forall_mem_cons.mpr ⟨lw_p61, List.forall_mem_cons.mpr ⟨lw_p62, List.forall_mem_cons.mpr ⟨lw_p63, fun _ h => absurd h List.not_mem_nil⟩⟩⟩⟩⟩⟩⟩⟩⟩⟩⟩⟩⟩⟩⟩⟩
theorem lw_p64 : lw_okq (⟨"OneRoomModel", "opens", "(III)Z"⟩, 42) := ⟨⟨by decide +kernel, by decide +kernel⟩, List.mem_of_getElem? (i := 1085) (by decide +kernel), List.mem_of_getElem? (i := 1473) (by decide +kernel), List.mem_of_getElem? (i := 1474) (by decide +kernel)⟩
theorem lw_p65 : lw_okq (⟨"OneRoomModel", "isRuled", "()Z"⟩, 42) := ⟨⟨by decide +kernel, by decide +kernel⟩, List.mem_of_getElem? (i := 1085) (by decide +kernel), List.mem_of_getElem? (i := 1480) (by decide +kernel), List.mem_of_getElem? (i := 1481) (by decide +kernel)⟩
theorem lw_p66 : lw_okq (⟨"OneRoomModel", "keepsBetter", "()V"⟩, 42) := ⟨⟨by decide +kernel, by decide +kernel⟩, List.mem_of_getElem? (i := 1085) (by decide +kernel), List.mem_of_getElem? (i := 1484) (by decide +kernel), List.mem_of_getElem? (i := 1485) (by decide +kernel)⟩
theorem lw_p67 : lw_okq (⟨"OneRoomModel", "worthOf", "(II)I"⟩, 42) := ⟨⟨by decide +kernel, by decide +kernel⟩, List.mem_of_getElem? (i := 1085) (by decide +kernel), List.mem_of_getElem? (i := 1500) (by decide +kernel), List.mem_of_getElem? (i := 1501) (by decide +kernel)⟩
theorem lw_p68 : lw_okq (⟨"OneRoomModel", "temperOf", "(II)I"⟩, 42) := ⟨⟨by decide +kernel, by decide +kernel⟩, List.mem_of_getElem? (i := 1085) (by decide +kernel), List.mem_of_getElem? (i := 1517) (by decide +kernel), List.mem_of_getElem? (i := 1518) (by decide +kernel)⟩
theorem lw_p69 : lw_okq (⟨"OneRoomModel", "countOf", "(I)I"⟩, 42) := ⟨⟨by decide +kernel, by decide +kernel⟩, List.mem_of_getElem? (i := 1085) (by decide +kernel), List.mem_of_getElem? (i := 1554) (by decide +kernel), List.mem_of_getElem? (i := 1555) (by decide +kernel)⟩
theorem lw_p70 : lw_okq (⟨"OneRoomModel", "mixed", "(JII)J"⟩, 42) := ⟨⟨by decide +kernel, by decide +kernel⟩, List.mem_of_getElem? (i := 1085) (by decide +kernel), List.mem_of_getElem? (i := 1564) (by decide +kernel), List.mem_of_getElem? (i := 1565) (by decide +kernel)⟩
def lw_privs_5 : List (MethodName × Nat) := [(⟨"OneRoomModel", "opens", "(III)Z"⟩, 42), (⟨"OneRoomModel", "isRuled", "()Z"⟩, 42), (⟨"OneRoomModel", "keepsBetter", "()V"⟩, 42), (⟨"OneRoomModel", "worthOf", "(II)I"⟩, 42), (⟨"OneRoomModel", "temperOf", "(II)I"⟩, 42), (⟨"OneRoomModel", "countOf", "(I)I"⟩, 42), (⟨"OneRoomModel", "mixed", "(JII)J"⟩, 42)]
theorem lw_r5 : ∀ q ∈ lw_privs_5, lw_okq q := List.forall_mem_cons.mpr ⟨lw_p64, List.forall_mem_cons.mpr ⟨lw_p65, List.forall_mem_cons.mpr ⟨lw_p66, List.forall_mem_cons.mpr ⟨lw_p67, List.forall_mem_cons.mpr ⟨lw_p68, List.forall_mem_cons.mpr ⟨lw_p69, List.forall_mem_cons.mpr ⟨lw_p70, fun _ h => absurd h List.not_mem_nil⟩⟩⟩⟩⟩⟩⟩
def lw_privs : List (MethodName × Nat) := lw_privs_1 ++ (lw_privs_2 ++ (lw_privs_3 ++ (lw_privs_4 ++ (lw_privs_5))))
def lw_tbl : List Cond := k2_sels lw_privs ++ tables_1
theorem lw_privs_ok : ∀ q ∈ lw_privs, lw_okq q := by
  show ∀ q ∈ lw_privs_1 ++ (lw_privs_2 ++ (lw_privs_3 ++ (lw_privs_4 ++ (lw_privs_5)))), lw_okq q
  exact List.forall_mem_append.mpr ⟨lw_r1, List.forall_mem_append.mpr ⟨lw_r2, List.forall_mem_append.mpr ⟨lw_r3, List.forall_mem_append.mpr ⟨lw_r4, lw_r5⟩⟩⟩⟩

def RX0 : String := "OneRoom$Ears"
def TX0 : u_T := fun k => match k with
  | 0 => ("OneRoom$Ears", "reach", "LOneRoom$Reach;", true)
  | 1 => ("OneRoom$Ears", "far", "[[I", true)
  | 2 => ("OneRoom$Ears", "farFromDoor", "[I", true)
  | 3 => ("OneRoom$Ears", "comings", "[[I", true)
  | 4 => ("OneRoom$Ears", "goings", "[[I", true)
  | 5 => ("OneRoom$Ears", "noises", "[[I", true)
  | 6 => ("OneRoom$Ears", "cover", "[I", true)
  | 7 => ("OneRoom$Ears", "due", "[I", true)
  | 8 => ("OneRoom$Ears", "losses", "[[I", true)
  | _ => ("OneRoom$Ears", "floor", "LOneRoom$Floor;", false)
def tyX0 : Nat → FieldType := fun k => match k with
  | 0 => .object "OneRoom$Reach"
  | 1 => .array (.array .int)
  | 2 => .array .int
  | 3 => .array (.array .int)
  | 4 => .array (.array .int)
  | 5 => .array (.array .int)
  | 6 => .array .int
  | 7 => .array .int
  | 8 => .array (.array .int)
  | _ => .object "OneRoom$Floor"
theorem nmX0 : ∀ a, a < 10 → ∀ b, b < 10 → a ≠ b → (TX0 a).2.1 ≠ (TX0 b).2.1 := by decide +kernel
theorem tyX0_ok : ∀ k, k < 10 → parseFieldDescriptor (TX0 k).2.2.1 = some (tyX0 k) := by decide +kernel
abbrev cX0_init : ByteArray := prog_2_method_1_code
def yX0_init : MethodName := ⟨RX0, "<init>", "()V"⟩
abbrev cX0_measure : ByteArray := prog_2_method_2_code
def yX0_measure : MethodName := ⟨RX0, "measure", "(LOneRoom$Floor;)V"⟩
abbrev cX0_measureBeds : ByteArray := prog_2_method_3_code
def yX0_measureBeds : MethodName := ⟨RX0, "measureBeds", "()V"⟩
abbrev cX0_listenIn : ByteArray := prog_2_method_4_code
def yX0_listenIn : MethodName := ⟨RX0, "listenIn", "(LOneRoom$House;I)V"⟩
abbrev cX0_listenTo : ByteArray := prog_2_method_5_code
def yX0_listenTo : MethodName := ⟨RX0, "listenTo", "(LOneRoom$Sounds;I)V"⟩
abbrev cX0_walk : ByteArray := prog_2_method_6_code
def yX0_walk : MethodName := ⟨RX0, "walk", "(I[I[I)V"⟩
abbrev cX0_at : ByteArray := prog_2_method_7_code
def yX0_at : MethodName := ⟨RX0, "at", "(III)I"⟩
def RX1 : String := "OneRoom$Floor"
def TX1 : u_T := fun k => match k with
  | 0 => ("OneRoom$Floor", "walls", "[Z", true)
  | 1 => ("OneRoom$Floor", "creaks", "[I", true)
  | 2 => ("OneRoom$Floor", "bedCells", "[I", true)
  | 3 => ("OneRoom$Floor", "bedCount", "I", false)
  | 4 => ("OneRoom$Floor", "fade", "I", false)
  | _ => ("OneRoom$Floor", "door", "I", false)
def tyX1 : Nat → FieldType := fun k => match k with
  | 0 => .array .boolean
  | 1 => .array .int
  | 2 => .array .int
  | 3 => .int
  | 4 => .int
  | _ => .int
theorem nmX1 : ∀ a, a < 6 → ∀ b, b < 6 → a ≠ b → (TX1 a).2.1 ≠ (TX1 b).2.1 := by decide +kernel
theorem tyX1_ok : ∀ k, k < 6 → parseFieldDescriptor (TX1 k).2.2.1 = some (tyX1 k) := by decide +kernel
abbrev cX1_init : ByteArray := prog_3_method_1_code
def yX1_init : MethodName := ⟨RX1, "<init>", "()V"⟩
abbrev cX1_restart : ByteArray := prog_3_method_2_code
def yX1_restart : MethodName := ⟨RX1, "restart", "()V"⟩
abbrev cX1_copy : ByteArray := prog_3_method_3_code
def yX1_copy : MethodName := ⟨RX1, "copy", "(LOneRoom$Floor;)V"⟩
abbrev cX1_hasBed : ByteArray := prog_3_method_4_code
def yX1_hasBed : MethodName := ⟨RX1, "hasBed", "(I)Z"⟩
abbrev cX1_hasBedAt : ByteArray := prog_3_method_5_code
def yX1_hasBedAt : MethodName := ⟨RX1, "hasBedAt", "(I)Z"⟩
abbrev cX1_wallCount : ByteArray := prog_3_method_6_code
def yX1_wallCount : MethodName := ⟨RX1, "wallCount", "()I"⟩
abbrev cX1_setWall : ByteArray := prog_3_method_7_code
def yX1_setWall : MethodName := ⟨RX1, "setWall", "(IZ)I"⟩
abbrev cX1_setCreak : ByteArray := prog_3_method_8_code
def yX1_setCreak : MethodName := ⟨RX1, "setCreak", "(II)I"⟩
abbrev cX1_setFade : ByteArray := prog_3_method_9_code
def yX1_setFade : MethodName := ⟨RX1, "setFade", "(I)I"⟩
abbrev cX1_setDoor : ByteArray := prog_3_method_10_code
def yX1_setDoor : MethodName := ⟨RX1, "setDoor", "(I)I"⟩
abbrev cX1_addBed : ByteArray := prog_3_method_11_code
def yX1_addBed : MethodName := ⟨RX1, "addBed", "(I)I"⟩
abbrev cX1_digestOn : ByteArray := prog_3_method_12_code
def yX1_digestOn : MethodName := ⟨RX1, "digestOn", "(J)J"⟩
def RX2 : String := "OneRoom$House"
def TX2 : u_T := fun k => match k with
  | 0 => ("OneRoom$House", "floor", "LOneRoom$Floor;", true)
  | 1 => ("OneRoom$House", "people", "LOneRoom$People;", true)
  | 2 => ("OneRoom$House", "sounds", "LOneRoom$Sounds;", true)
  | _ => ("OneRoom$House", "rules", "LOneRoom$Rules;", true)
def tyX2 : Nat → FieldType := fun k => match k with
  | 0 => .object "OneRoom$Floor"
  | 1 => .object "OneRoom$People"
  | 2 => .object "OneRoom$Sounds"
  | _ => .object "OneRoom$Rules"
theorem nmX2 : ∀ a, a < 4 → ∀ b, b < 4 → a ≠ b → (TX2 a).2.1 ≠ (TX2 b).2.1 := by decide +kernel
theorem tyX2_ok : ∀ k, k < 4 → parseFieldDescriptor (TX2 k).2.2.1 = some (tyX2 k) := by decide +kernel
abbrev cX2_init : ByteArray := prog_4_method_1_code
def yX2_init : MethodName := ⟨RX2, "<init>", "()V"⟩
abbrev cX2_restart : ByteArray := prog_4_method_2_code
def yX2_restart : MethodName := ⟨RX2, "restart", "()V"⟩
abbrev cX2_copy : ByteArray := prog_4_method_3_code
def yX2_copy : MethodName := ⟨RX2, "copy", "(LOneRoom$House;)V"⟩
abbrev cX2_lay : ByteArray := prog_4_method_4_code
def yX2_lay : MethodName := ⟨RX2, "lay", "(II)I"⟩
abbrev cX2_addSound : ByteArray := prog_4_method_5_code
def yX2_addSound : MethodName := ⟨RX2, "addSound", "(IIIII)I"⟩
abbrev cX2_isOf : ByteArray := prog_4_method_6_code
def yX2_isOf : MethodName := ⟨RX2, "isOf", "(II)Z"⟩
abbrev cX2_take : ByteArray := prog_4_method_7_code
def yX2_take : MethodName := ⟨RX2, "take", "(I[I)I"⟩
def RX3 : String := "OneRoom$Hush"
def TX3 : u_T := fun k => match k with
  | 0 => ("OneRoom$Hush", "greatest", "I", false)
  | 1 => ("OneRoom$Hush", "steps", "I", false)
  | 2 => ("OneRoom$Hush", "second", "I", false)
  | 3 => ("OneRoom$Hush", "ears", "LOneRoom$Ears;", true)
  | 4 => ("OneRoom$Hush", "reach", "LOneRoom$Reach;", true)
  | 5 => ("OneRoom$Hush", "loud", "[I", true)
  | 6 => ("OneRoom$Hush", "closed", "[Z", true)
  | _ => ("OneRoom$Hush", "far", "[I", true)
def tyX3 : Nat → FieldType := fun k => match k with
  | 0 => .int
  | 1 => .int
  | 2 => .int
  | 3 => .object "OneRoom$Ears"
  | 4 => .object "OneRoom$Reach"
  | 5 => .array .int
  | 6 => .array .boolean
  | _ => .array .int
theorem nmX3 : ∀ a, a < 8 → ∀ b, b < 8 → a ≠ b → (TX3 a).2.1 ≠ (TX3 b).2.1 := by decide +kernel
theorem tyX3_ok : ∀ k, k < 8 → parseFieldDescriptor (TX3 k).2.2.1 = some (tyX3 k) := by decide +kernel
abbrev cX3_init : ByteArray := prog_5_method_1_code
def yX3_init : MethodName := ⟨RX3, "<init>", "()V"⟩
abbrev cX3_find : ByteArray := prog_5_method_2_code
def yX3_find : MethodName := ⟨RX3, "find", "(LOneRoom$House;II)Z"⟩
abbrev cX3_listenIn : ByteArray := prog_5_method_3_code
def yX3_listenIn : MethodName := ⟨RX3, "listenIn", "(LOneRoom$House;)V"⟩
def RX4 : String := "OneRoom$Night"
def TX4 : u_T := fun k => match k with
  | 0 => ("OneRoom$Night", "sleeps", "[I", true)
  | 1 => ("OneRoom$Night", "wakings", "[I", true)
  | 2 => ("OneRoom$Night", "woken", "[[I", true)
  | 3 => ("OneRoom$Night", "seen", "[[I", true)
  | 4 => ("OneRoom$Night", "ears", "LOneRoom$Ears;", true)
  | 5 => ("OneRoom$Night", "state", "[I", true)
  | 6 => ("OneRoom$Night", "fell", "[I", true)
  | 7 => ("OneRoom$Night", "quiet", "[I", true)
  | 8 => ("OneRoom$Night", "people", "LOneRoom$People;", false)
  | 9 => ("OneRoom$Night", "sounds", "LOneRoom$Sounds;", false)
  | 10 => ("OneRoom$Night", "walking", "I", false)
  | 11 => ("OneRoom$Night", "awake", "I", false)
  | 12 => ("OneRoom$Night", "snoring", "I", false)
  | 13 => ("OneRoom$Night", "loudest", "I", false)
  | _ => ("OneRoom$Night", "by", "I", false)
def tyX4 : Nat → FieldType := fun k => match k with
  | 0 => .array .int
  | 1 => .array .int
  | 2 => .array (.array .int)
  | 3 => .array (.array .int)
  | 4 => .object "OneRoom$Ears"
  | 5 => .array .int
  | 6 => .array .int
  | 7 => .array .int
  | 8 => .object "OneRoom$People"
  | 9 => .object "OneRoom$Sounds"
  | 10 => .int
  | 11 => .int
  | 12 => .int
  | 13 => .int
  | _ => .int
theorem nmX4 : ∀ a, a < 15 → ∀ b, b < 15 → a ≠ b → (TX4 a).2.1 ≠ (TX4 b).2.1 := by decide +kernel
theorem tyX4_ok : ∀ k, k < 15 → parseFieldDescriptor (TX4 k).2.2.1 = some (tyX4 k) := by decide +kernel
abbrev cX4_init : ByteArray := prog_6_method_1_code
def yX4_init : MethodName := ⟨RX4, "<init>", "()V"⟩
abbrev cX4_pass : ByteArray := prog_6_method_2_code
def yX4_pass : MethodName := ⟨RX4, "pass", "(LOneRoom$House;)V"⟩
abbrev cX4_comeAndGo : ByteArray := prog_6_method_3_code
def yX4_comeAndGo : MethodName := ⟨RX4, "comeAndGo", "(I)V"⟩
abbrev cX4_lookRound : ByteArray := prog_6_method_4_code
def yX4_lookRound : MethodName := ⟨RX4, "lookRound", "(I)V"⟩
abbrev cX4_stir : ByteArray := prog_6_method_5_code
def yX4_stir : MethodName := ⟨RX4, "stir", "(II)V"⟩
abbrev cX4_note : ByteArray := prog_6_method_6_code
def yX4_note : MethodName := ⟨RX4, "note", "(II)V"⟩
abbrev cX4_listen : ByteArray := prog_6_method_7_code
def yX4_listen : MethodName := ⟨RX4, "listen", "(II)V"⟩
abbrev cX4_listenToSteps : ByteArray := prog_6_method_8_code
def yX4_listenToSteps : MethodName := ⟨RX4, "listenToSteps", "(III)V"⟩
abbrev cX4_listenToSounds : ByteArray := prog_6_method_9_code
def yX4_listenToSounds : MethodName := ⟨RX4, "listenToSounds", "(III)V"⟩
abbrev cX4_listenToSnores : ByteArray := prog_6_method_10_code
def yX4_listenToSnores : MethodName := ⟨RX4, "listenToSnores", "(II)V"⟩
abbrev cX4_hear : ByteArray := prog_6_method_11_code
def yX4_hear : MethodName := ⟨RX4, "hear", "(II)V"⟩
abbrev cX4_worst : ByteArray := prog_6_method_12_code
def yX4_worst : MethodName := ⟨RX4, "worst", "()I"⟩
abbrev cX4_good : ByteArray := prog_6_method_13_code
def yX4_good : MethodName := ⟨RX4, "good", "()I"⟩
abbrev cX4_isBetter : ByteArray := prog_6_method_14_code
def yX4_isBetter : MethodName := ⟨RX4, "isBetter", "(II)Z"⟩
abbrev cX4_lack : ByteArray := prog_6_method_15_code
def yX4_lack : MethodName := ⟨RX4, "lack", "(I)I"⟩
abbrev cX4_greatestLackOfTwo : ByteArray := prog_6_method_16_code
def yX4_greatestLackOfTwo : MethodName := ⟨RX4, "greatestLackOfTwo", "()I"⟩
abbrev cX4_wakingsBy : ByteArray := prog_6_method_17_code
def yX4_wakingsBy : MethodName := ⟨RX4, "wakingsBy", "(II)I"⟩
abbrev cX4_wakingsTogether : ByteArray := prog_6_method_18_code
def yX4_wakingsTogether : MethodName := ⟨RX4, "wakingsTogether", "(I)I"⟩
def RX5 : String := "OneRoom$People"
def TX5 : u_T := fun k => match k with
  | 0 => ("OneRoom$People", "hears", "[I", true)
  | 1 => ("OneRoom$People", "again", "[I", true)
  | 2 => ("OneRoom$People", "goes", "[I", true)
  | 3 => ("OneRoom$People", "up", "[I", true)
  | 4 => ("OneRoom$People", "snores", "[I", true)
  | 5 => ("OneRoom$People", "lies", "[I", true)
  | _ => ("OneRoom$People", "count", "I", false)
def tyX5 : Nat → FieldType := fun k => match k with
  | 0 => .array .int
  | 1 => .array .int
  | 2 => .array .int
  | 3 => .array .int
  | 4 => .array .int
  | 5 => .array .int
  | _ => .int
theorem nmX5 : ∀ a, a < 7 → ∀ b, b < 7 → a ≠ b → (TX5 a).2.1 ≠ (TX5 b).2.1 := by decide +kernel
theorem tyX5_ok : ∀ k, k < 7 → parseFieldDescriptor (TX5 k).2.2.1 = some (tyX5 k) := by decide +kernel
abbrev cX5_init : ByteArray := prog_7_method_1_code
def yX5_init : MethodName := ⟨RX5, "<init>", "()V"⟩
abbrev cX5_copy : ByteArray := prog_7_method_2_code
def yX5_copy : MethodName := ⟨RX5, "copy", "(LOneRoom$People;)V"⟩
abbrev cX5_has : ByteArray := prog_7_method_3_code
def yX5_has : MethodName := ⟨RX5, "has", "(I)Z"⟩
abbrev cX5_add : ByteArray := prog_7_method_4_code
def yX5_add : MethodName := ⟨RX5, "add", "(IIIII)I"⟩
abbrev cX5_isTakenFor : ByteArray := prog_7_method_5_code
def yX5_isTakenFor : MethodName := ⟨RX5, "isTakenFor", "(II)Z"⟩
abbrev cX5_sleepsInTent : ByteArray := prog_7_method_6_code
def yX5_sleepsInTent : MethodName := ⟨RX5, "sleepsInTent", "(I)I"⟩
abbrev cX5_digestOn : ByteArray := prog_7_method_7_code
def yX5_digestOn : MethodName := ⟨RX5, "digestOn", "(J)J"⟩
def RX6 : String := "OneRoom$Reach"
def TX6 : u_T := fun k => match k with
  | _ => ("OneRoom$Reach", "queue", "[I", true)
def tyX6 : Nat → FieldType := fun k => match k with
  | _ => .array .int
theorem nmX6 : ∀ a, a < 1 → ∀ b, b < 1 → a ≠ b → (TX6 a).2.1 ≠ (TX6 b).2.1 := by decide +kernel
theorem tyX6_ok : ∀ k, k < 1 → parseFieldDescriptor (TX6 k).2.2.1 = some (tyX6 k) := by decide +kernel
abbrev cX6_init : ByteArray := prog_8_method_1_code
def yX6_init : MethodName := ⟨RX6, "<init>", "()V"⟩
abbrev cX6_spread : ByteArray := prog_8_method_2_code
def yX6_spread : MethodName := ⟨RX6, "spread", "([ZI[I)V"⟩
abbrev cX6_beside : ByteArray := prog_8_method_3_code
def yX6_beside : MethodName := ⟨RX6, "beside", "(II)I"⟩
abbrev cX6_onward : ByteArray := prog_8_method_4_code
def yX6_onward : MethodName := ⟨RX6, "onward", "(I[I)I"⟩
def RX7 : String := "OneRoom$Rules"
def TX7 : u_T := fun k => match k with
  | 0 => ("OneRoom$Rules", "sleepers", "[I", true)
  | 1 => ("OneRoom$Rules", "beds", "[I", true)
  | 2 => ("OneRoom$Rules", "has", "[Z", true)
  | _ => ("OneRoom$Rules", "count", "I", false)
def tyX7 : Nat → FieldType := fun k => match k with
  | 0 => .array .int
  | 1 => .array .int
  | 2 => .array .boolean
  | _ => .int
theorem nmX7 : ∀ a, a < 4 → ∀ b, b < 4 → a ≠ b → (TX7 a).2.1 ≠ (TX7 b).2.1 := by decide +kernel
theorem tyX7_ok : ∀ k, k < 4 → parseFieldDescriptor (TX7 k).2.2.1 = some (tyX7 k) := by decide +kernel
abbrev cX7_init : ByteArray := prog_9_method_1_code
def yX7_init : MethodName := ⟨RX7, "<init>", "()V"⟩
abbrev cX7_copy : ByteArray := prog_9_method_2_code
def yX7_copy : MethodName := ⟨RX7, "copy", "(LOneRoom$Rules;)V"⟩
abbrev cX7_add : ByteArray := prog_9_method_3_code
def yX7_add : MethodName := ⟨RX7, "add", "(IIZ)I"⟩
abbrev cX7_allow : ByteArray := prog_9_method_4_code
def yX7_allow : MethodName := ⟨RX7, "allow", "([I)Z"⟩
abbrev cX7_digestOn : ByteArray := prog_9_method_5_code
def yX7_digestOn : MethodName := ⟨RX7, "digestOn", "(J)J"⟩
def RX8 : String := "OneRoom$Search"
def TX8 : u_T := fun k => match k with
  | 0 => ("OneRoom$Search", "best", "[I", true)
  | 1 => ("OneRoom$Search", "worst", "I", false)
  | 2 => ("OneRoom$Search", "good", "I", false)
  | 3 => ("OneRoom$Search", "found", "Z", false)
  | 4 => ("OneRoom$Search", "row", "[I", true)
  | 5 => ("OneRoom$Search", "trial", "LOneRoom$House;", true)
  | _ => ("OneRoom$Search", "night", "LOneRoom$Night;", true)
def tyX8 : Nat → FieldType := fun k => match k with
  | 0 => .array .int
  | 1 => .int
  | 2 => .int
  | 3 => .boolean
  | 4 => .array .int
  | 5 => .object "OneRoom$House"
  | _ => .object "OneRoom$Night"
theorem nmX8 : ∀ a, a < 7 → ∀ b, b < 7 → a ≠ b → (TX8 a).2.1 ≠ (TX8 b).2.1 := by decide +kernel
theorem tyX8_ok : ∀ k, k < 7 → parseFieldDescriptor (TX8 k).2.2.1 = some (tyX8 k) := by decide +kernel
abbrev cX8_init : ByteArray := prog_10_method_1_code
def yX8_init : MethodName := ⟨RX8, "<init>", "()V"⟩
abbrev cX8_findBeds : ByteArray := prog_10_method_2_code
def yX8_findBeds : MethodName := ⟨RX8, "findBeds", "(LOneRoom$House;Z)Z"⟩
abbrev cX8_findGoes : ByteArray := prog_10_method_3_code
def yX8_findGoes : MethodName := ⟨RX8, "findGoes", "(LOneRoom$House;)Z"⟩
abbrev cX8_start : ByteArray := prog_10_method_4_code
def yX8_start : MethodName := ⟨RX8, "start", "(LOneRoom$House;)V"⟩
abbrev cX8_exchange : ByteArray := prog_10_method_5_code
def yX8_exchange : MethodName := ⟨RX8, "exchange", "(LOneRoom$People;)Z"⟩
abbrev cX8_keepIfBetter : ByteArray := prog_10_method_6_code
def yX8_keepIfBetter : MethodName := ⟨RX8, "keepIfBetter", "()V"⟩
abbrev cX8_fillRow : ByteArray := prog_10_method_7_code
def yX8_fillRow : MethodName := ⟨RX8, "fillRow", "(III)V"⟩
abbrev cX8_isUnlike : ByteArray := prog_10_method_8_code
def yX8_isUnlike : MethodName := ⟨RX8, "isUnlike", "(I)Z"⟩
abbrev cX8_power : ByteArray := prog_10_method_9_code
def yX8_power : MethodName := ⟨RX8, "power", "(II)I"⟩
def RX9 : String := "OneRoom$Sounds"
def TX9 : u_T := fun k => match k with
  | 0 => ("OneRoom$Sounds", "kinds", "[I", true)
  | 1 => ("OneRoom$Sounds", "xs", "[I", true)
  | 2 => ("OneRoom$Sounds", "starts", "[I", true)
  | 3 => ("OneRoom$Sounds", "ends", "[I", true)
  | 4 => ("OneRoom$Sounds", "vs", "[I", true)
  | _ => ("OneRoom$Sounds", "count", "I", false)
def tyX9 : Nat → FieldType := fun k => match k with
  | 0 => .array .int
  | 1 => .array .int
  | 2 => .array .int
  | 3 => .array .int
  | 4 => .array .int
  | _ => .int
theorem nmX9 : ∀ a, a < 6 → ∀ b, b < 6 → a ≠ b → (TX9 a).2.1 ≠ (TX9 b).2.1 := by decide +kernel
theorem tyX9_ok : ∀ k, k < 6 → parseFieldDescriptor (TX9 k).2.2.1 = some (tyX9 k) := by decide +kernel
abbrev cX9_init : ByteArray := prog_11_method_1_code
def yX9_init : MethodName := ⟨RX9, "<init>", "()V"⟩
abbrev cX9_copy : ByteArray := prog_11_method_2_code
def yX9_copy : MethodName := ⟨RX9, "copy", "(LOneRoom$Sounds;)V"⟩
abbrev cX9_add : ByteArray := prog_11_method_3_code
def yX9_add : MethodName := ⟨RX9, "add", "(IIIII)I"⟩
abbrev cX9_dropLast : ByteArray := prog_11_method_4_code
def yX9_dropLast : MethodName := ⟨RX9, "dropLast", "()I"⟩
abbrev cX9_isDue : ByteArray := prog_11_method_5_code
def yX9_isDue : MethodName := ⟨RX9, "isDue", "(II)Z"⟩
abbrev cX9_coverIn : ByteArray := prog_11_method_6_code
def yX9_coverIn : MethodName := ⟨RX9, "coverIn", "(I)I"⟩
abbrev cX9_digestOn : ByteArray := prog_11_method_7_code
def yX9_digestOn : MethodName := ⟨RX9, "digestOn", "(J)J"⟩
def RX10 : String := "OneRoom$Text"
def TX10 : u_T := fun k => match k with
  | 0 => ("OneRoom$Text", "length", "I", false)
  | 1 => ("OneRoom$Text", "items", "I", false)
  | 2 => ("OneRoom$Text", "words", "[I", true)
  | 3 => ("OneRoom$Text", "numbers", "[[I", true)
  | 4 => ("OneRoom$Text", "bytes", "[I", true)
  | _ => ("OneRoom$Text", "at", "I", false)
def tyX10 : Nat → FieldType := fun k => match k with
  | 0 => .int
  | 1 => .int
  | 2 => .array .int
  | 3 => .array (.array .int)
  | 4 => .array .int
  | _ => .int
theorem nmX10 : ∀ a, a < 6 → ∀ b, b < 6 → a ≠ b → (TX10 a).2.1 ≠ (TX10 b).2.1 := by decide +kernel
theorem tyX10_ok : ∀ k, k < 6 → parseFieldDescriptor (TX10 k).2.2.1 = some (tyX10 k) := by decide +kernel
abbrev cX10_init : ByteArray := prog_12_method_1_code
def yX10_init : MethodName := ⟨RX10, "<init>", "()V"⟩
abbrev cX10_append : ByteArray := prog_12_method_2_code
def yX10_append : MethodName := ⟨RX10, "append", "(JI)I"⟩
abbrev cX10_empty : ByteArray := prog_12_method_3_code
def yX10_empty : MethodName := ⟨RX10, "empty", "()I"⟩
abbrev cX10_read : ByteArray := prog_12_method_4_code
def yX10_read : MethodName := ⟨RX10, "read", "()I"⟩
abbrev cX10_readItem : ByteArray := prog_12_method_5_code
def yX10_readItem : MethodName := ⟨RX10, "readItem", "()I"⟩
abbrev cX10_skipBlanks : ByteArray := prog_12_method_6_code
def yX10_skipBlanks : MethodName := ⟨RX10, "skipBlanks", "()V"⟩
abbrev cX10_byteAt : ByteArray := prog_12_method_7_code
def yX10_byteAt : MethodName := ⟨RX10, "byteAt", "(I)I"⟩
abbrev cX10_readWord : ByteArray := prog_12_method_8_code
def yX10_readWord : MethodName := ⟨RX10, "readWord", "()I"⟩
abbrev cX10_isSame : ByteArray := prog_12_method_9_code
def yX10_isSame : MethodName := ⟨RX10, "isSame", "(III)Z"⟩
abbrev cX10_readNumber : ByteArray := prog_12_method_10_code
def yX10_readNumber : MethodName := ⟨RX10, "readNumber", "()I"⟩
def RX11 : String := "OneRoom"
def TX11 : u_T := fun k => match k with
  | 0 => ("OneRoom", "home", "LOneRoom$House;", true)
  | 1 => ("OneRoom", "spare", "LOneRoom$House;", true)
  | 2 => ("OneRoom", "images", "[LOneRoom$House;", true)
  | 3 => ("OneRoom", "kept", "[Z", true)
  | 4 => ("OneRoom", "text", "LOneRoom$Text;", true)
  | 5 => ("OneRoom", "tonight", "LOneRoom$Night;", true)
  | 6 => ("OneRoom", "search", "LOneRoom$Search;", true)
  | 7 => ("OneRoom", "hush", "LOneRoom$Hush;", true)
  | 8 => ("OneRoom", "reach", "LOneRoom$Reach;", true)
  | 9 => ("OneRoom", "far", "[I", true)
  | 10 => ("OneRoom", "refusals", "[I", true)
  | 11 => ("OneRoom", "above", "I", false)
  | _ => ("OneRoom", "below", "I", false)
def tyX11 : Nat → FieldType := fun k => match k with
  | 0 => .object "OneRoom$House"
  | 1 => .object "OneRoom$House"
  | 2 => .array (.object "OneRoom$House")
  | 3 => .array .boolean
  | 4 => .object "OneRoom$Text"
  | 5 => .object "OneRoom$Night"
  | 6 => .object "OneRoom$Search"
  | 7 => .object "OneRoom$Hush"
  | 8 => .object "OneRoom$Reach"
  | 9 => .array .int
  | 10 => .array .int
  | 11 => .int
  | _ => .int
theorem nmX11 : ∀ a, a < 13 → ∀ b, b < 13 → a ≠ b → (TX11 a).2.1 ≠ (TX11 b).2.1 := by decide +kernel
theorem tyX11_ok : ∀ k, k < 13 → parseFieldDescriptor (TX11 k).2.2.1 = some (tyX11 k) := by decide +kernel
abbrev cX11_init : ByteArray := prog_1_method_1_code
def yX11_init : MethodName := ⟨RX11, "<init>", "()V"⟩
abbrev cX11_wall : ByteArray := prog_1_method_2_code
def yX11_wall : MethodName := ⟨RX11, "wall", "(IZ)I"⟩
abbrev cX11_board : ByteArray := prog_1_method_3_code
def yX11_board : MethodName := ⟨RX11, "board", "(II)I"⟩
abbrev cX11_put : ByteArray := prog_1_method_4_code
def yX11_put : MethodName := ⟨RX11, "put", "(II)I"⟩
abbrev cX11_bed : ByteArray := prog_1_method_5_code
def yX11_bed : MethodName := ⟨RX11, "bed", "(I)I"⟩
abbrev cX11_sleeper : ByteArray := prog_1_method_6_code
def yX11_sleeper : MethodName := ⟨RX11, "sleeper", "(IIIII)I"⟩
abbrev cX11_lie : ByteArray := prog_1_method_7_code
def yX11_lie : MethodName := ⟨RX11, "lie", "(II)I"⟩
abbrev cX11_sound : ByteArray := prog_1_method_8_code
def yX11_sound : MethodName := ⟨RX11, "sound", "(IIIII)I"⟩
abbrev cX11_still : ByteArray := prog_1_method_9_code
def yX11_still : MethodName := ⟨RX11, "still", "()I"⟩
abbrev cX11_type : ByteArray := prog_1_method_10_code
def yX11_type : MethodName := ⟨RX11, "type", "(JI)I"⟩
abbrev cX11_clear : ByteArray := prog_1_method_11_code
def yX11_clear : MethodName := ⟨RX11, "clear", "()I"⟩
abbrev cX11_house : ByteArray := prog_1_method_12_code
def yX11_house : MethodName := ⟨RX11, "house", "()I"⟩
abbrev cX11_distance : ByteArray := prog_1_method_13_code
def yX11_distance : MethodName := ⟨RX11, "distance", "(II)I"⟩
abbrev cX11_heard : ByteArray := prog_1_method_14_code
def yX11_heard : MethodName := ⟨RX11, "heard", "(IIII)I"⟩
abbrev cX11_slept : ByteArray := prog_1_method_15_code
def yX11_slept : MethodName := ⟨RX11, "slept", "(I)I"⟩
abbrev cX11_is : ByteArray := prog_1_method_16_code
def yX11_is : MethodName := ⟨RX11, "is", "(II)I"⟩
abbrev cX11_wakes : ByteArray := prog_1_method_17_code
def yX11_wakes : MethodName := ⟨RX11, "wakes", "(II)I"⟩
abbrev cX11_woke : ByteArray := prog_1_method_18_code
def yX11_woke : MethodName := ⟨RX11, "woke", "(II)I"⟩
abbrev cX11_night : ByteArray := prog_1_method_19_code
def yX11_night : MethodName := ⟨RX11, "night", "(I)I"⟩
abbrev cX11_way : ByteArray := prog_1_method_20_code
def yX11_way : MethodName := ⟨RX11, "way", "(III)I"⟩
abbrev cX11_rule : ByteArray := prog_1_method_21_code
def yX11_rule : MethodName := ⟨RX11, "rule", "(IIZ)I"⟩
abbrev cX11_free : ByteArray := prog_1_method_22_code
def yX11_free : MethodName := ⟨RX11, "free", "()I"⟩
abbrev cX11_best : ByteArray := prog_1_method_23_code
def yX11_best : MethodName := ⟨RX11, "best", "(ZI)I"⟩
abbrev cX11_cost : ByteArray := prog_1_method_24_code
def yX11_cost : MethodName := ⟨RX11, "cost", "()I"⟩
abbrev cX11_order : ByteArray := prog_1_method_25_code
def yX11_order : MethodName := ⟨RX11, "order", "(I)I"⟩
abbrev cX11_worth : ByteArray := prog_1_method_26_code
def yX11_worth : MethodName := ⟨RX11, "worth", "(II)I"⟩
abbrev cX11_screw : ByteArray := prog_1_method_27_code
def yX11_screw : MethodName := ⟨RX11, "screw", "()I"⟩
abbrev cX11_rooms : ByteArray := prog_1_method_28_code
def yX11_rooms : MethodName := ⟨RX11, "rooms", "()I"⟩
abbrev cX11_temper : ByteArray := prog_1_method_29_code
def yX11_temper : MethodName := ⟨RX11, "temper", "(II)I"⟩
abbrev cX11_quarrel : ByteArray := prog_1_method_30_code
def yX11_quarrel : MethodName := ⟨RX11, "quarrel", "(I)I"⟩
abbrev cX11_tent : ByteArray := prog_1_method_31_code
def yX11_tent : MethodName := ⟨RX11, "tent", "(II)I"⟩
abbrev cX11_part : ByteArray := prog_1_method_32_code
def yX11_part : MethodName := ⟨RX11, "part", "(I)I"⟩
abbrev cX11_image : ByteArray := prog_1_method_33_code
def yX11_image : MethodName := ⟨RX11, "image", "(I)I"⟩
abbrev cX11_from : ByteArray := prog_1_method_34_code
def yX11_from : MethodName := ⟨RX11, "from", "(I)I"⟩
abbrev cX11_status : ByteArray := prog_1_method_35_code
def yX11_status : MethodName := ⟨RX11, "status", "(I)I"⟩
abbrev cX11_count : ByteArray := prog_1_method_36_code
def yX11_count : MethodName := ⟨RX11, "count", "(I)I"⟩
abbrev cX11_digest : ByteArray := prog_1_method_37_code
def yX11_digest : MethodName := ⟨RX11, "digest", "()J"⟩
abbrev cX11_counted : ByteArray := prog_1_method_38_code
def yX11_counted : MethodName := ⟨RX11, "counted", "(I)I"⟩
abbrev cX11_refused : ByteArray := prog_1_method_39_code
def yX11_refused : MethodName := ⟨RX11, "refused", "(II)I"⟩
abbrev cX11_howMany : ByteArray := prog_1_method_40_code
def yX11_howMany : MethodName := ⟨RX11, "howMany", "(I)I"⟩
abbrev cX11_pass : ByteArray := prog_1_method_41_code
def yX11_pass : MethodName := ⟨RX11, "pass", "(LOneRoom$House;I)V"⟩
abbrev cX11_isThing : ByteArray := prog_1_method_42_code
def yX11_isThing : MethodName := ⟨RX11, "isThing", "(II)Z"⟩
abbrev cX11_passWith : ByteArray := prog_1_method_43_code
def yX11_passWith : MethodName := ⟨RX11, "passWith", "(II)V"⟩
abbrev cX11_setFraction : ByteArray := prog_1_method_44_code
def yX11_setFraction : MethodName := ⟨RX11, "setFraction", "(II)V"⟩
abbrev cX11_isOpen : ByteArray := prog_1_method_45_code
def yX11_isOpen : MethodName := ⟨RX11, "isOpen", "(I)Z"⟩
abbrev cX11_commonDivisor : ByteArray := prog_1_method_46_code
def yX11_commonDivisor : MethodName := ⟨RX11, "commonDivisor", "(II)I"⟩
abbrev cX11_isIn : ByteArray := prog_1_method_47_code
def yX11_isIn : MethodName := ⟨RX11, "isIn", "(III)Z"⟩
abbrev cX11_isCell : ByteArray := prog_1_method_48_code
def yX11_isCell : MethodName := ⟨RX11, "isCell", "(I)Z"⟩
abbrev cX11_faded : ByteArray := prog_1_method_49_code
def yX11_faded : MethodName := ⟨RX11, "faded", "(III)I"⟩
abbrev cX11_deep : ByteArray := prog_1_method_50_code
def yX11_deep : MethodName := ⟨RX11, "deep", "(II)I"⟩
def RX12 : String := "OneRoomModel"
def TX12 : u_T := fun k => match k with
  | 0 => ("OneRoomModel", "book", "[I", true)
  | 1 => ("OneRoomModel", "images", "[I", true)
  | 2 => ("OneRoomModel", "kept", "[Z", true)
  | 3 => ("OneRoomModel", "before", "[I", true)
  | 4 => ("OneRoomModel", "refused", "[I", true)
  | 5 => ("OneRoomModel", "above", "I", false)
  | 6 => ("OneRoomModel", "below", "I", false)
  | 7 => ("OneRoomModel", "quiet", "Z", false)
  | 8 => ("OneRoomModel", "text", "[I", true)
  | 9 => ("OneRoomModel", "typed", "I", false)
  | 10 => ("OneRoomModel", "at", "I", false)
  | 11 => ("OneRoomModel", "start", "I", false)
  | 12 => ("OneRoomModel", "token", "I", false)
  | 13 => ("OneRoomModel", "value", "I", false)
  | 14 => ("OneRoomModel", "verbs", "[I", true)
  | 15 => ("OneRoomModel", "nums", "[I", true)
  | 16 => ("OneRoomModel", "items", "I", false)
  | 17 => ("OneRoomModel", "far", "[I", true)
  | 18 => ("OneRoomModel", "fan", "I", false)
  | 19 => ("OneRoomModel", "how", "[I", true)
  | 20 => ("OneRoomModel", "since", "[I", true)
  | 21 => ("OneRoomModel", "hush", "[I", true)
  | 22 => ("OneRoomModel", "sleptOf", "[I", true)
  | 23 => ("OneRoomModel", "told", "[I", true)
  | 24 => ("OneRoomModel", "wakings", "[I", true)
  | 25 => ("OneRoomModel", "wakeAt", "[I", true)
  | 26 => ("OneRoomModel", "wakeBy", "[I", true)
  | 27 => ("OneRoomModel", "noiseAt", "[I", true)
  | 28 => ("OneRoomModel", "noiseOf", "[I", true)
  | 29 => ("OneRoomModel", "noiseBy", "[I", true)
  | 30 => ("OneRoomModel", "noiseOwn", "[I", true)
  | 31 => ("OneRoomModel", "noises", "I", false)
  | 32 => ("OneRoomModel", "worst", "I", false)
  | 33 => ("OneRoomModel", "good", "I", false)
  | 34 => ("OneRoomModel", "louds", "[I", true)
  | 35 => ("OneRoomModel", "left", "[I", true)
  | 36 => ("OneRoomModel", "rowNow", "[I", true)
  | 37 => ("OneRoomModel", "rowBest", "[I", true)
  | 38 => ("OneRoomModel", "had", "[I", true)
  | 39 => ("OneRoomModel", "bestWorst", "I", false)
  | 40 => ("OneRoomModel", "bestGood", "I", false)
  | _ => ("OneRoomModel", "any", "Z", false)
def tyX12 : Nat → FieldType := fun k => match k with
  | 0 => .array .int
  | 1 => .array .int
  | 2 => .array .boolean
  | 3 => .array .int
  | 4 => .array .int
  | 5 => .int
  | 6 => .int
  | 7 => .boolean
  | 8 => .array .int
  | 9 => .int
  | 10 => .int
  | 11 => .int
  | 12 => .int
  | 13 => .int
  | 14 => .array .int
  | 15 => .array .int
  | 16 => .int
  | 17 => .array .int
  | 18 => .int
  | 19 => .array .int
  | 20 => .array .int
  | 21 => .array .int
  | 22 => .array .int
  | 23 => .array .int
  | 24 => .array .int
  | 25 => .array .int
  | 26 => .array .int
  | 27 => .array .int
  | 28 => .array .int
  | 29 => .array .int
  | 30 => .array .int
  | 31 => .int
  | 32 => .int
  | 33 => .int
  | 34 => .array .int
  | 35 => .array .int
  | 36 => .array .int
  | 37 => .array .int
  | 38 => .array .int
  | 39 => .int
  | 40 => .int
  | _ => .boolean
theorem nmX12 : ∀ a, a < 42 → ∀ b, b < 42 → a ≠ b → (TX12 a).2.1 ≠ (TX12 b).2.1 := by decide +kernel
theorem tyX12_ok : ∀ k, k < 42 → parseFieldDescriptor (TX12 k).2.2.1 = some (tyX12 k) := by decide +kernel
abbrev cX12_in : ByteArray := prog_14_method_2_code
def yX12_in : MethodName := ⟨RX12, "in", "(JJJ)Z"⟩
abbrev cX12_init : ByteArray := prog_14_method_3_code
def yX12_init : MethodName := ⟨RX12, "<init>", "()V"⟩
abbrev cX12_begins : ByteArray := prog_14_method_4_code
def yX12_begins : MethodName := ⟨RX12, "begins", "()V"⟩
abbrev cX12_refuses : ByteArray := prog_14_method_5_code
def yX12_refuses : MethodName := ⟨RX12, "refuses", "(II)I"⟩
abbrev cX12_bad : ByteArray := prog_14_method_6_code
def yX12_bad : MethodName := ⟨RX12, "bad", "()I"⟩
abbrev cX12_no : ByteArray := prog_14_method_7_code
def yX12_no : MethodName := ⟨RX12, "no", "()I"⟩
abbrev cX12_full : ByteArray := prog_14_method_8_code
def yX12_full : MethodName := ⟨RX12, "full", "()I"⟩
abbrev cX12_puts : ByteArray := prog_14_method_9_code
def yX12_puts : MethodName := ⟨RX12, "puts", "(II)I"⟩
abbrev cX12_isCell : ByteArray := prog_14_method_10_code
def yX12_isCell : MethodName := ⟨RX12, "isCell", "(I)Z"⟩
abbrev cX12_isWall : ByteArray := prog_14_method_11_code
def yX12_isWall : MethodName := ⟨RX12, "isWall", "(I)Z"⟩
abbrev cX12_isBedAt : ByteArray := prog_14_method_12_code
def yX12_isBedAt : MethodName := ⟨RX12, "isBedAt", "(I)Z"⟩
abbrev cX12_isBed : ByteArray := prog_14_method_13_code
def yX12_isBed : MethodName := ⟨RX12, "isBed", "(I)Z"⟩
abbrev cX12_isSleeper : ByteArray := prog_14_method_14_code
def yX12_isSleeper : MethodName := ⟨RX12, "isSleeper", "(I)Z"⟩
abbrev cX12_of : ByteArray := prog_14_method_15_code
def yX12_of : MethodName := ⟨RX12, "of", "(II)I"⟩
abbrev cX12_wall : ByteArray := prog_14_method_16_code
def yX12_wall : MethodName := ⟨RX12, "wall", "(IZ)I"⟩
abbrev cX12_board : ByteArray := prog_14_method_17_code
def yX12_board : MethodName := ⟨RX12, "board", "(II)I"⟩
abbrev cX12_put : ByteArray := prog_14_method_18_code
def yX12_put : MethodName := ⟨RX12, "put", "(II)I"⟩
abbrev cX12_bed : ByteArray := prog_14_method_19_code
def yX12_bed : MethodName := ⟨RX12, "bed", "(I)I"⟩
abbrev cX12_sleeper : ByteArray := prog_14_method_20_code
def yX12_sleeper : MethodName := ⟨RX12, "sleeper", "(IIIII)I"⟩
abbrev cX12_lie : ByteArray := prog_14_method_21_code
def yX12_lie : MethodName := ⟨RX12, "lie", "(II)I"⟩
abbrev cX12_sound : ByteArray := prog_14_method_22_code
def yX12_sound : MethodName := ⟨RX12, "sound", "(IIIII)I"⟩
abbrev cX12_still : ByteArray := prog_14_method_23_code
def yX12_still : MethodName := ⟨RX12, "still", "()I"⟩
abbrev cX12_type : ByteArray := prog_14_method_24_code
def yX12_type : MethodName := ⟨RX12, "type", "(JI)I"⟩
abbrev cX12_clear : ByteArray := prog_14_method_25_code
def yX12_clear : MethodName := ⟨RX12, "clear", "()I"⟩
abbrev cX12_isAt : ByteArray := prog_14_method_26_code
def yX12_isAt : MethodName := ⟨RX12, "isAt", "(II)Z"⟩
abbrev cX12_wordOf : ByteArray := prog_14_method_27_code
def yX12_wordOf : MethodName := ⟨RX12, "wordOf", "(J)I"⟩
abbrev cX12_scans : ByteArray := prog_14_method_28_code
def yX12_scans : MethodName := ⟨RX12, "scans", "()V"⟩
abbrev cX12_numbers : ByteArray := prog_14_method_29_code
def yX12_numbers : MethodName := ⟨RX12, "numbers", "(I)I"⟩
abbrev cX12_reads : ByteArray := prog_14_method_30_code
def yX12_reads : MethodName := ⟨RX12, "reads", "()Z"⟩
abbrev cX12_tellsItem : ByteArray := prog_14_method_31_code
def yX12_tellsItem : MethodName := ⟨RX12, "tellsItem", "(I)Z"⟩
abbrev cX12_house : ByteArray := prog_14_method_32_code
def yX12_house : MethodName := ⟨RX12, "house", "()I"⟩
abbrev cX12_beside : ByteArray := prog_14_method_33_code
def yX12_beside : MethodName := ⟨RX12, "beside", "(II)I"⟩
abbrev cX12_looks : ByteArray := prog_14_method_34_code
def yX12_looks : MethodName := ⟨RX12, "looks", "()V"⟩
abbrev cX12_cover : ByteArray := prog_14_method_35_code
def yX12_cover : MethodName := ⟨RX12, "cover", "(I)I"⟩
abbrev cX12_heardAt : ByteArray := prog_14_method_36_code
def yX12_heardAt : MethodName := ⟨RX12, "heardAt", "(IIII)I"⟩
abbrev cX12_distance : ByteArray := prog_14_method_37_code
def yX12_distance : MethodName := ⟨RX12, "distance", "(II)I"⟩
abbrev cX12_heard : ByteArray := prog_14_method_38_code
def yX12_heard : MethodName := ⟨RX12, "heard", "(IIII)I"⟩
abbrev cX12_noise : ByteArray := prog_14_method_39_code
def yX12_noise : MethodName := ⟨RX12, "noise", "(IIII)V"⟩
abbrev cX12_bedCell : ByteArray := prog_14_method_40_code
def yX12_bedCell : MethodName := ⟨RX12, "bedCell", "(I)I"⟩
abbrev cX12_steps : ByteArray := prog_14_method_41_code
def yX12_steps : MethodName := ⟨RX12, "steps", "(III)V"⟩
abbrev cX12_deepOf : ByteArray := prog_14_method_42_code
def yX12_deepOf : MethodName := ⟨RX12, "deepOf", "(I)I"⟩
abbrev cX12_comes : ByteArray := prog_14_method_43_code
def yX12_comes : MethodName := ⟨RX12, "comes", "(I)V"⟩
abbrev cX12_sounds : ByteArray := prog_14_method_44_code
def yX12_sounds : MethodName := ⟨RX12, "sounds", "(I)V"⟩
abbrev cX12_snores : ByteArray := prog_14_method_45_code
def yX12_snores : MethodName := ⟨RX12, "snores", "(I)V"⟩
abbrev cX12_listens : ByteArray := prog_14_method_46_code
def yX12_listens : MethodName := ⟨RX12, "listens", "(III)V"⟩
abbrev cX12_nights : ByteArray := prog_14_method_47_code
def yX12_nights : MethodName := ⟨RX12, "nights", "()V"⟩
abbrev cX12_slept : ByteArray := prog_14_method_48_code
def yX12_slept : MethodName := ⟨RX12, "slept", "(I)I"⟩
abbrev cX12_is : ByteArray := prog_14_method_49_code
def yX12_is : MethodName := ⟨RX12, "is", "(II)I"⟩
abbrev cX12_wakes : ByteArray := prog_14_method_50_code
def yX12_wakes : MethodName := ⟨RX12, "wakes", "(II)I"⟩
abbrev cX12_wokeBy : ByteArray := prog_14_method_51_code
def yX12_wokeBy : MethodName := ⟨RX12, "wokeBy", "(II)I"⟩
abbrev cX12_woke : ByteArray := prog_14_method_52_code
def yX12_woke : MethodName := ⟨RX12, "woke", "(II)I"⟩
abbrev cX12_night : ByteArray := prog_14_method_53_code
def yX12_night : MethodName := ⟨RX12, "night", "(I)I"⟩
abbrev cX12_paths : ByteArray := prog_14_method_54_code
def yX12_paths : MethodName := ⟨RX12, "paths", "(III)V"⟩
abbrev cX12_way : ByteArray := prog_14_method_55_code
def yX12_way : MethodName := ⟨RX12, "way", "(III)I"⟩
abbrev cX12_rule : ByteArray := prog_14_method_56_code
def yX12_rule : MethodName := ⟨RX12, "rule", "(IIZ)I"⟩
abbrev cX12_free : ByteArray := prog_14_method_57_code
def yX12_free : MethodName := ⟨RX12, "free", "()I"⟩
abbrev cX12_digit : ByteArray := prog_14_method_58_code
def yX12_digit : MethodName := ⟨RX12, "digit", "(III)I"⟩
abbrev cX12_opens : ByteArray := prog_14_method_59_code
def yX12_opens : MethodName := ⟨RX12, "opens", "(III)Z"⟩
abbrev cX12_keepsBetter : ByteArray := prog_14_method_60_code
def yX12_keepsBetter : MethodName := ⟨RX12, "keepsBetter", "()V"⟩
abbrev cX12_isRuled : ByteArray := prog_14_method_61_code
def yX12_isRuled : MethodName := ⟨RX12, "isRuled", "()Z"⟩
abbrev cX12_findBest : ByteArray := prog_14_method_62_code
def yX12_findBest : MethodName := ⟨RX12, "findBest", "(Z)Z"⟩
abbrev cX12_best : ByteArray := prog_14_method_63_code
def yX12_best : MethodName := ⟨RX12, "best", "(ZI)I"⟩
abbrev cX12_cost : ByteArray := prog_14_method_64_code
def yX12_cost : MethodName := ⟨RX12, "cost", "()I"⟩
abbrev cX12_order : ByteArray := prog_14_method_65_code
def yX12_order : MethodName := ⟨RX12, "order", "(I)I"⟩
abbrev cX12_worthOf : ByteArray := prog_14_method_66_code
def yX12_worthOf : MethodName := ⟨RX12, "worthOf", "(II)I"⟩
abbrev cX12_worth : ByteArray := prog_14_method_67_code
def yX12_worth : MethodName := ⟨RX12, "worth", "(II)I"⟩
abbrev cX12_screw : ByteArray := prog_14_method_68_code
def yX12_screw : MethodName := ⟨RX12, "screw", "()I"⟩
abbrev cX12_rooms : ByteArray := prog_14_method_69_code
def yX12_rooms : MethodName := ⟨RX12, "rooms", "()I"⟩
abbrev cX12_temperOf : ByteArray := prog_14_method_70_code
def yX12_temperOf : MethodName := ⟨RX12, "temperOf", "(II)I"⟩
abbrev cX12_temper : ByteArray := prog_14_method_71_code
def yX12_temper : MethodName := ⟨RX12, "temper", "(II)I"⟩
abbrev cX12_quarrel : ByteArray := prog_14_method_72_code
def yX12_quarrel : MethodName := ⟨RX12, "quarrel", "(I)I"⟩
abbrev cX12_divisor : ByteArray := prog_14_method_73_code
def yX12_divisor : MethodName := ⟨RX12, "divisor", "(II)I"⟩
abbrev cX12_tent : ByteArray := prog_14_method_74_code
def yX12_tent : MethodName := ⟨RX12, "tent", "(II)I"⟩
abbrev cX12_part : ByteArray := prog_14_method_75_code
def yX12_part : MethodName := ⟨RX12, "part", "(I)I"⟩
abbrev cX12_image : ByteArray := prog_14_method_76_code
def yX12_image : MethodName := ⟨RX12, "image", "(I)I"⟩
abbrev cX12_from : ByteArray := prog_14_method_77_code
def yX12_from : MethodName := ⟨RX12, "from", "(I)I"⟩
abbrev cX12_status : ByteArray := prog_14_method_78_code
def yX12_status : MethodName := ⟨RX12, "status", "(I)I"⟩
abbrev cX12_countOf : ByteArray := prog_14_method_79_code
def yX12_countOf : MethodName := ⟨RX12, "countOf", "(I)I"⟩
abbrev cX12_count : ByteArray := prog_14_method_80_code
def yX12_count : MethodName := ⟨RX12, "count", "(I)I"⟩
abbrev cX12_mixed : ByteArray := prog_14_method_81_code
def yX12_mixed : MethodName := ⟨RX12, "mixed", "(JII)J"⟩
abbrev cX12_digest : ByteArray := prog_14_method_82_code
def yX12_digest : MethodName := ⟨RX12, "digest", "()J"⟩
def RJx145de : String := "java/io/Serializable"
def TJx145de : u_T := fun k => match k with
  | _ => ("", "", "", false)
def tyJx145de : Nat → FieldType := fun k => match k with
  | _ => .int
theorem nmJx145de : ∀ a, a < 0 → ∀ b, b < 0 → a ≠ b → (TJx145de a).2.1 ≠ (TJx145de b).2.1 := by decide +kernel
theorem tyJx145de_ok : ∀ k, k < 0 → parseFieldDescriptor (TJx145de k).2.2.1 = some (tyJx145de k) := by decide +kernel
def RJx9f9b0 : String := "java/lang/CharSequence"
def TJx9f9b0 : u_T := fun k => match k with
  | _ => ("", "", "", false)
def tyJx9f9b0 : Nat → FieldType := fun k => match k with
  | _ => .int
theorem nmJx9f9b0 : ∀ a, a < 0 → ∀ b, b < 0 → a ≠ b → (TJx9f9b0 a).2.1 ≠ (TJx9f9b0 b).2.1 := by decide +kernel
theorem tyJx9f9b0_ok : ∀ k, k < 0 → parseFieldDescriptor (TJx9f9b0 k).2.2.1 = some (tyJx9f9b0 k) := by decide +kernel
def RJxb160c : String := "java/lang/Comparable"
def TJxb160c : u_T := fun k => match k with
  | _ => ("", "", "", false)
def tyJxb160c : Nat → FieldType := fun k => match k with
  | _ => .int
theorem nmJxb160c : ∀ a, a < 0 → ∀ b, b < 0 → a ≠ b → (TJxb160c a).2.1 ≠ (TJxb160c b).2.1 := by decide +kernel
theorem tyJxb160c_ok : ∀ k, k < 0 → parseFieldDescriptor (TJxb160c k).2.2.1 = some (tyJxb160c k) := by decide +kernel
def RJ9 : String := "java/lang/Math"
def TJ9 : u_T := fun k => match k with
  | _ => ("", "", "", false)
def tyJ9 : Nat → FieldType := fun k => match k with
  | _ => .int
theorem nmJ9 : ∀ a, a < 0 → ∀ b, b < 0 → a ≠ b → (TJ9 a).2.1 ≠ (TJ9 b).2.1 := by decide +kernel
theorem tyJ9_ok : ∀ k, k < 0 → parseFieldDescriptor (TJ9 k).2.2.1 = some (tyJ9 k) := by decide +kernel
abbrev cJ9_floorMod_7cf53 : ByteArray := prog_15_method_50_code
def yJ9_floorMod_7cf53 : MethodName := ⟨RJ9, "floorMod", "(II)I"⟩
abbrev cJ9_max_7cf53 : ByteArray := prog_15_method_65_code
def yJ9_max_7cf53 : MethodName := ⟨RJ9, "max", "(II)I"⟩
abbrev cJ9_min_7cf53 : ByteArray := prog_15_method_69_code
def yJ9_min_7cf53 : MethodName := ⟨RJ9, "min", "(II)I"⟩
def RJ0 : String := "java/lang/String"
def TJ0 : u_T := fun k => match k with
  | _ => ("", "", "", false)
def tyJ0 : Nat → FieldType := fun k => match k with
  | _ => .int
theorem nmJ0 : ∀ a, a < 0 → ∀ b, b < 0 → a ≠ b → (TJ0 a).2.1 ≠ (TJ0 b).2.1 := by decide +kernel
theorem tyJ0_ok : ∀ k, k < 0 → parseFieldDescriptor (TJ0 k).2.2.1 = some (tyJ0 k) := by decide +kernel
abbrev cJ0_length_8abf5 : ByteArray := prog_16_method_54_code
def yJ0_length_8abf5 : MethodName := ⟨RJ0, "length", "()I"⟩
abbrev cJ0_charAt_5068e : ByteArray := prog_16_method_56_code
def yJ0_charAt_5068e : MethodName := ⟨RJ0, "charAt", "(I)C"⟩
abbrev cJ0_coder_7d493 : ByteArray := prog_16_method_152_code
def yJ0_coder_7d493 : MethodName := ⟨RJ0, "coder", "()B"⟩
abbrev cJ0_isLatin1_aae02 : ByteArray := prog_16_method_154_code
def yJ0_isLatin1_aae02 : MethodName := ⟨RJ0, "isLatin1", "()Z"⟩
abbrev cJ0_checkIndex_df160 : ByteArray := prog_16_method_155_code
def yJ0_checkIndex_df160 : MethodName := ⟨RJ0, "checkIndex", "(II)V"⟩
def RJ1 : String := "java/lang/StringLatin1"
def TJ1 : u_T := fun k => match k with
  | _ => ("", "", "", false)
def tyJ1 : Nat → FieldType := fun k => match k with
  | _ => .int
theorem nmJ1 : ∀ a, a < 0 → ∀ b, b < 0 → a ≠ b → (TJ1 a).2.1 ≠ (TJ1 b).2.1 := by decide +kernel
theorem tyJ1_ok : ∀ k, k < 0 → parseFieldDescriptor (TJ1 k).2.2.1 = some (tyJ1 k) := by decide +kernel
abbrev cJ1_charAt_3b067 : ByteArray := prog_17_method_2_code
def yJ1_charAt_3b067 : MethodName := ⟨RJ1, "charAt", "([BI)C"⟩
def RJ2 : String := "java/lang/StringUTF16"
def TJ2 : u_T := fun k => match k with
  | _ => ("", "", "", false)
def tyJ2 : Nat → FieldType := fun k => match k with
  | _ => .int
theorem nmJ2 : ∀ a, a < 0 → ∀ b, b < 0 → a ≠ b → (TJ2 a).2.1 ≠ (TJ2 b).2.1 := by decide +kernel
theorem tyJ2_ok : ∀ k, k < 0 → parseFieldDescriptor (TJ2 k).2.2.1 = some (tyJ2 k) := by decide +kernel
abbrev cJ2_getChar_3b067 : ByteArray := prog_18_method_5_code
def yJ2_getChar_3b067 : MethodName := ⟨RJ2, "getChar", "([BI)C"⟩
abbrev cJ2_length_9d52b : ByteArray := prog_18_method_6_code
def yJ2_length_9d52b : MethodName := ⟨RJ2, "length", "([B)I"⟩
abbrev cJ2_charAt_3b067 : ByteArray := prog_18_method_83_code
def yJ2_charAt_3b067 : MethodName := ⟨RJ2, "charAt", "([BI)C"⟩
abbrev cJ2_checkIndex_2214a : ByteArray := prog_18_method_91_code
def yJ2_checkIndex_2214a : MethodName := ⟨RJ2, "checkIndex", "(I[B)V"⟩
def RJ10 : String := "java/lang/System"
def TJ10 : u_T := fun k => match k with
  | _ => ("", "", "", false)
def tyJ10 : Nat → FieldType := fun k => match k with
  | _ => .int
theorem nmJ10 : ∀ a, a < 0 → ∀ b, b < 0 → a ≠ b → (TJ10 a).2.1 ≠ (TJ10 b).2.1 := by decide +kernel
theorem tyJ10_ok : ∀ k, k < 0 → parseFieldDescriptor (TJ10 k).2.2.1 = some (tyJ10 k) := by decide +kernel
def RJxfd54e : String := "java/lang/constant/Constable"
def TJxfd54e : u_T := fun k => match k with
  | _ => ("", "", "", false)
def tyJxfd54e : Nat → FieldType := fun k => match k with
  | _ => .int
theorem nmJxfd54e : ∀ a, a < 0 → ∀ b, b < 0 → a ≠ b → (TJxfd54e a).2.1 ≠ (TJxfd54e b).2.1 := by decide +kernel
theorem tyJxfd54e_ok : ∀ k, k < 0 → parseFieldDescriptor (TJxfd54e k).2.2.1 = some (tyJxfd54e k) := by decide +kernel
def RJx3cf43 : String := "java/lang/constant/ConstantDesc"
def TJx3cf43 : u_T := fun k => match k with
  | _ => ("", "", "", false)
def tyJx3cf43 : Nat → FieldType := fun k => match k with
  | _ => .int
theorem nmJx3cf43 : ∀ a, a < 0 → ∀ b, b < 0 → a ≠ b → (TJx3cf43 a).2.1 ≠ (TJx3cf43 b).2.1 := by decide +kernel
theorem tyJx3cf43_ok : ∀ k, k < 0 → parseFieldDescriptor (TJx3cf43 k).2.2.1 = some (tyJx3cf43 k) := by decide +kernel
def RJ7 : String := "java/util/Arrays"
def TJ7 : u_T := fun k => match k with
  | _ => ("", "", "", false)
def tyJ7 : Nat → FieldType := fun k => match k with
  | _ => .int
theorem nmJ7 : ∀ a, a < 0 → ∀ b, b < 0 → a ≠ b → (TJ7 a).2.1 ≠ (TJ7 b).2.1 := by decide +kernel
theorem tyJ7_ok : ∀ k, k < 0 → parseFieldDescriptor (TJ7 k).2.2.1 = some (tyJ7 k) := by decide +kernel
abbrev cJ7_fill_53178 : ByteArray := prog_20_method_103_code
def yJ7_fill_53178 : MethodName := ⟨RJ7, "fill", "([II)V"⟩
def RJ3 : String := "jdk/internal/util/Preconditions"
def TJ3 : u_T := fun k => match k with
  | _ => ("", "", "", false)
def tyJ3 : Nat → FieldType := fun k => match k with
  | _ => .int
theorem nmJ3 : ∀ a, a < 0 → ∀ b, b < 0 → a ≠ b → (TJ3 a).2.1 ≠ (TJ3 b).2.1 := by decide +kernel
theorem tyJ3_ok : ∀ k, k < 0 → parseFieldDescriptor (TJ3 k).2.2.1 = some (tyJ3 k) := by decide +kernel
abbrev cJ3_checkIndex_8e157 : ByteArray := prog_21_method_11_code
def yJ3_checkIndex_8e157 : MethodName := ⟨RJ3, "checkIndex", "(IILjava/util/function/BiFunction;)I"⟩
def RL : String := "OneRoomLaw"
abbrev cL_law : ByteArray := code
def yL_law : MethodName := ⟨RL, "law", "([I)Z"⟩
abbrev vwCl : List vw_C := [(RX0, TX0, 10), (RX1, TX1, 6), (RX2, TX2, 4), (RX3, TX3, 8), (RX4, TX4, 15), (RX5, TX5, 7), (RX6, TX6, 1), (RX7, TX7, 4), (RX8, TX8, 7), (RX9, TX9, 6), (RX10, TX10, 6), (RX11, TX11, 13), (RX12, TX12, 42)]
