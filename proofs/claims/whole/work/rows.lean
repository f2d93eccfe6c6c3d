section
-- ===== PART A: goes FIRST, ahead of the names: the tables' words, and 'selects' of the private methods out of them =====
/-- a private method of a class that the tables say can be made, by its rows of tables_1 -/
def lw_okq (q : MethodName × Nat) : Prop := (q.1.cls ≠ "java/lang/invoke/MethodHandle" ∧ q.1.cls ≠ "java/lang/invoke/VarHandle") ∧ Cond.instantiable q.1.cls q.2 ∈ tables_1 ∧ Cond.privateMethod q.1 ∈ tables_1 ∧ Cond.instanceMethod q.1 ∈ tables_1
theorem lw_p0 : lw_okq (⟨"java/lang/Throwable", "fillInStackTrace", "(I)Ljava/lang/Throwable;"⟩, 6) := ⟨⟨by decide +kernel, by decide +kernel⟩, List.mem_of_getElem? (i := 303) (by decide +kernel), List.mem_of_getElem? (i := 301) (by decide +kernel), List.mem_of_getElem? (i := 302) (by decide +kernel)⟩
theorem lw_p1 : lw_okq (⟨"AccentModems", "digestOfTone", "(JII)J"⟩, 6) := ⟨⟨by decide +kernel, by decide +kernel⟩, List.mem_of_getElem? (i := 20) (by decide +kernel), List.mem_of_getElem? (i := 333) (by decide +kernel), List.mem_of_getElem? (i := 334) (by decide +kernel)⟩
theorem lw_p2 : lw_okq (⟨"AccentModems", "toneOf", "(II)LAccentModems$Tone;"⟩, 6) := ⟨⟨by decide +kernel, by decide +kernel⟩, List.mem_of_getElem? (i := 20) (by decide +kernel), List.mem_of_getElem? (i := 341) (by decide +kernel), List.mem_of_getElem? (i := 342) (by decide +kernel)⟩
theorem lw_p3 : lw_okq (⟨"AccentModems", "wayOf", "(I)LAccentModems$Way;"⟩, 6) := ⟨⟨by decide +kernel, by decide +kernel⟩, List.mem_of_getElem? (i := 20) (by decide +kernel), List.mem_of_getElem? (i := 345) (by decide +kernel), List.mem_of_getElem? (i := 346) (by decide +kernel)⟩
theorem lw_p4 : lw_okq (⟨"AccentModems", "digestOfWay", "(JI)J"⟩, 6) := ⟨⟨by decide +kernel, by decide +kernel⟩, List.mem_of_getElem? (i := 20) (by decide +kernel), List.mem_of_getElem? (i := 497) (by decide +kernel), List.mem_of_getElem? (i := 498) (by decide +kernel)⟩
theorem lw_p5 : lw_okq (⟨"AccentModems", "save", "()V"⟩, 6) := ⟨⟨by decide +kernel, by decide +kernel⟩, List.mem_of_getElem? (i := 20) (by decide +kernel), List.mem_of_getElem? (i := 622) (by decide +kernel), List.mem_of_getElem? (i := 623) (by decide +kernel)⟩
theorem lw_p6 : lw_okq (⟨"AccentModems", "dropOldest", "()V"⟩, 6) := ⟨⟨by decide +kernel, by decide +kernel⟩, List.mem_of_getElem? (i := 20) (by decide +kernel), List.mem_of_getElem? (i := 626) (by decide +kernel), List.mem_of_getElem? (i := 627) (by decide +kernel)⟩
theorem lw_p7 : lw_okq (⟨"AccentModems", "checkBeatsLeft", "(I)V"⟩, 6) := ⟨⟨by decide +kernel, by decide +kernel⟩, List.mem_of_getElem? (i := 20) (by decide +kernel), List.mem_of_getElem? (i := 694) (by decide +kernel), List.mem_of_getElem? (i := 695) (by decide +kernel)⟩
theorem lw_p8 : lw_okq (⟨"AccentModemsModel", "fails", "(I)I"⟩, 14) := ⟨⟨by decide +kernel, by decide +kernel⟩, List.mem_of_getElem? (i := 823) (by decide +kernel), List.mem_of_getElem? (i := 890) (by decide +kernel), List.mem_of_getElem? (i := 891) (by decide +kernel)⟩
theorem lw_p9 : lw_okq (⟨"AccentModemsModel", "save", "()V"⟩, 14) := ⟨⟨by decide +kernel, by decide +kernel⟩, List.mem_of_getElem? (i := 823) (by decide +kernel), List.mem_of_getElem? (i := 897) (by decide +kernel), List.mem_of_getElem? (i := 898) (by decide +kernel)⟩
theorem lw_p10 : lw_okq (⟨"AccentModemsModel", "streetAt", "(II)I"⟩, 14) := ⟨⟨by decide +kernel, by decide +kernel⟩, List.mem_of_getElem? (i := 823) (by decide +kernel), List.mem_of_getElem? (i := 901) (by decide +kernel), List.mem_of_getElem? (i := 902) (by decide +kernel)⟩
theorem lw_p11 : lw_okq (⟨"AccentModemsModel", "accentAt", "(II)I"⟩, 14) := ⟨⟨by decide +kernel, by decide +kernel⟩, List.mem_of_getElem? (i := 823) (by decide +kernel), List.mem_of_getElem? (i := 909) (by decide +kernel), List.mem_of_getElem? (i := 910) (by decide +kernel)⟩
theorem lw_p12 : lw_okq (⟨"AccentModemsModel", "mayBeat", "(II)Z"⟩, 14) := ⟨⟨by decide +kernel, by decide +kernel⟩, List.mem_of_getElem? (i := 823) (by decide +kernel), List.mem_of_getElem? (i := 928) (by decide +kernel), List.mem_of_getElem? (i := 929) (by decide +kernel)⟩
theorem lw_p13 : lw_okq (⟨"AccentModemsModel", "learnAll", "(II)I"⟩, 14) := ⟨⟨by decide +kernel, by decide +kernel⟩, List.mem_of_getElem? (i := 823) (by decide +kernel), List.mem_of_getElem? (i := 932) (by decide +kernel), List.mem_of_getElem? (i := 933) (by decide +kernel)⟩
theorem lw_p14 : lw_okq (⟨"AccentModemsModel", "learnBeat", "(II)V"⟩, 14) := ⟨⟨by decide +kernel, by decide +kernel⟩, List.mem_of_getElem? (i := 823) (by decide +kernel), List.mem_of_getElem? (i := 936) (by decide +kernel), List.mem_of_getElem? (i := 937) (by decide +kernel)⟩
theorem lw_p15 : lw_okq (⟨"AccentModemsModel", "learnTone", "(III)V"⟩, 14) := ⟨⟨by decide +kernel, by decide +kernel⟩, List.mem_of_getElem? (i := 823) (by decide +kernel), List.mem_of_getElem? (i := 940) (by decide +kernel), List.mem_of_getElem? (i := 941) (by decide +kernel)⟩
def lw_privs_1 : List (MethodName × Nat) := [(⟨"java/lang/Throwable", "fillInStackTrace", "(I)Ljava/lang/Throwable;"⟩, 6), (⟨"AccentModems", "digestOfTone", "(JII)J"⟩, 6), (⟨"AccentModems", "toneOf", "(II)LAccentModems$Tone;"⟩, 6), (⟨"AccentModems", "wayOf", "(I)LAccentModems$Way;"⟩, 6), (⟨"AccentModems", "digestOfWay", "(JI)J"⟩, 6), (⟨"AccentModems", "save", "()V"⟩, 6), (⟨"AccentModems", "dropOldest", "()V"⟩, 6), (⟨"AccentModems", "checkBeatsLeft", "(I)V"⟩, 6), (⟨"AccentModemsModel", "fails", "(I)I"⟩, 14), (⟨"AccentModemsModel", "save", "()V"⟩, 14), (⟨"AccentModemsModel", "streetAt", "(II)I"⟩, 14), (⟨"AccentModemsModel", "accentAt", "(II)I"⟩, 14), (⟨"AccentModemsModel", "mayBeat", "(II)Z"⟩, 14), (⟨"AccentModemsModel", "learnAll", "(II)I"⟩, 14), (⟨"AccentModemsModel", "learnBeat", "(II)V"⟩, 14), (⟨"AccentModemsModel", "learnTone", "(III)V"⟩, 14)]
theorem lw_r1 : ∀ q ∈ lw_privs_1, lw_okq q := List.forall_mem_cons.mpr ⟨lw_p0, List.forall_mem_cons.mpr ⟨lw_p1, List.forall_mem_cons.mpr ⟨lw_p2, List.forall_mem_cons.mpr ⟨lw_p3, List.forall_mem_cons.mpr ⟨lw_p4, List.forall_mem_cons.mpr ⟨lw_p5, List.forall_mem_cons.mpr ⟨lw_p6, List.forall_mem_cons.mpr ⟨lw_p7, List.forall_mem_cons.mpr ⟨lw_p8, List.forall_mem_cons.mpr ⟨lw_p9, List.forall_mem_cons.mpr ⟨lw_p10, List.forall_mem_cons.mpr ⟨lw_p11, List.forall_mem_cons.mpr ⟨lw_p12, List.forall_mem_cons.mpr ⟨lw_p13, List.forall_mem_cons.mpr ⟨lw_p14, List.forall_mem_cons.mpr ⟨lw_p15, fun _ h => absurd h List.not_mem_nil⟩⟩⟩⟩⟩⟩⟩⟩⟩⟩⟩⟩⟩⟩⟩⟩
theorem lw_p16 : lw_okq (⟨"AccentModemsModel", "draw", "(I)I"⟩, 14) := ⟨⟨by decide +kernel, by decide +kernel⟩, List.mem_of_getElem? (i := 823) (by decide +kernel), List.mem_of_getElem? (i := 944) (by decide +kernel), List.mem_of_getElem? (i := 945) (by decide +kernel)⟩
theorem lw_p17 : lw_okq (⟨"AccentModemsModel", "hear", "(III)I"⟩, 14) := ⟨⟨by decide +kernel, by decide +kernel⟩, List.mem_of_getElem? (i := 823) (by decide +kernel), List.mem_of_getElem? (i := 952) (by decide +kernel), List.mem_of_getElem? (i := 953) (by decide +kernel)⟩
theorem lw_p18 : lw_okq (⟨"AccentModemsModel", "worstOf", "(II)I"⟩, 14) := ⟨⟨by decide +kernel, by decide +kernel⟩, List.mem_of_getElem? (i := 823) (by decide +kernel), List.mem_of_getElem? (i := 962) (by decide +kernel), List.mem_of_getElem? (i := 963) (by decide +kernel)⟩
theorem lw_p19 : lw_okq (⟨"AccentModemsModel", "bitsBy", "(II)I"⟩, 14) := ⟨⟨by decide +kernel, by decide +kernel⟩, List.mem_of_getElem? (i := 823) (by decide +kernel), List.mem_of_getElem? (i := 966) (by decide +kernel), List.mem_of_getElem? (i := 967) (by decide +kernel)⟩
theorem lw_p20 : lw_okq (⟨"AccentModemsModel", "carried", "(I)I"⟩, 14) := ⟨⟨by decide +kernel, by decide +kernel⟩, List.mem_of_getElem? (i := 823) (by decide +kernel), List.mem_of_getElem? (i := 970) (by decide +kernel), List.mem_of_getElem? (i := 971) (by decide +kernel)⟩
theorem lw_p21 : lw_okq (⟨"AccentModemsModel", "sendAll", "(II)I"⟩, 14) := ⟨⟨by decide +kernel, by decide +kernel⟩, List.mem_of_getElem? (i := 823) (by decide +kernel), List.mem_of_getElem? (i := 978) (by decide +kernel), List.mem_of_getElem? (i := 979) (by decide +kernel)⟩
theorem lw_p22 : lw_okq (⟨"AccentModemsModel", "sendBeat", "(I)I"⟩, 14) := ⟨⟨by decide +kernel, by decide +kernel⟩, List.mem_of_getElem? (i := 823) (by decide +kernel), List.mem_of_getElem? (i := 982) (by decide +kernel), List.mem_of_getElem? (i := 983) (by decide +kernel)⟩
theorem lw_p23 : lw_okq (⟨"AccentModemsModel", "sendTone", "(II)I"⟩, 14) := ⟨⟨by decide +kernel, by decide +kernel⟩, List.mem_of_getElem? (i := 823) (by decide +kernel), List.mem_of_getElem? (i := 986) (by decide +kernel), List.mem_of_getElem? (i := 987) (by decide +kernel)⟩
theorem lw_p24 : lw_okq (⟨"AccentModemsModel", "takeBit", "(I)I"⟩, 14) := ⟨⟨by decide +kernel, by decide +kernel⟩, List.mem_of_getElem? (i := 823) (by decide +kernel), List.mem_of_getElem? (i := 990) (by decide +kernel), List.mem_of_getElem? (i := 991) (by decide +kernel)⟩
theorem lw_p25 : lw_okq (⟨"AccentModemsModel", "decide", "(III)I"⟩, 14) := ⟨⟨by decide +kernel, by decide +kernel⟩, List.mem_of_getElem? (i := 823) (by decide +kernel), List.mem_of_getElem? (i := 997) (by decide +kernel), List.mem_of_getElem? (i := 998) (by decide +kernel)⟩
theorem lw_p26 : lw_okq (⟨"AccentModemsModel", "read", "()V"⟩, 14) := ⟨⟨by decide +kernel, by decide +kernel⟩, List.mem_of_getElem? (i := 823) (by decide +kernel), List.mem_of_getElem? (i := 1021) (by decide +kernel), List.mem_of_getElem? (i := 1022) (by decide +kernel)⟩
theorem lw_p27 : lw_okq (⟨"AccentModemsModel", "nextState", "(II)I"⟩, 14) := ⟨⟨by decide +kernel, by decide +kernel⟩, List.mem_of_getElem? (i := 823) (by decide +kernel), List.mem_of_getElem? (i := 1025) (by decide +kernel), List.mem_of_getElem? (i := 1026) (by decide +kernel)⟩
theorem lw_p28 : lw_okq (⟨"AccentModemsModel", "saidOn", "(I)I"⟩, 14) := ⟨⟨by decide +kernel, by decide +kernel⟩, List.mem_of_getElem? (i := 823) (by decide +kernel), List.mem_of_getElem? (i := 1036) (by decide +kernel), List.mem_of_getElem? (i := 1037) (by decide +kernel)⟩
theorem lw_p29 : lw_okq (⟨"AccentModemsModel", "counted", "(I)I"⟩, 14) := ⟨⟨by decide +kernel, by decide +kernel⟩, List.mem_of_getElem? (i := 823) (by decide +kernel), List.mem_of_getElem? (i := 1064) (by decide +kernel), List.mem_of_getElem? (i := 1065) (by decide +kernel)⟩
theorem lw_p30 : lw_okq (⟨"AccentModemsModel", "shyAll", "()I"⟩, 14) := ⟨⟨by decide +kernel, by decide +kernel⟩, List.mem_of_getElem? (i := 823) (by decide +kernel), List.mem_of_getElem? (i := 1068) (by decide +kernel), List.mem_of_getElem? (i := 1069) (by decide +kernel)⟩
theorem lw_p31 : lw_okq (⟨"AccentModemsModel", "insults", "()I"⟩, 14) := ⟨⟨by decide +kernel, by decide +kernel⟩, List.mem_of_getElem? (i := 823) (by decide +kernel), List.mem_of_getElem? (i := 1072) (by decide +kernel), List.mem_of_getElem? (i := 1073) (by decide +kernel)⟩
def lw_privs_2 : List (MethodName × Nat) := [(⟨"AccentModemsModel", "draw", "(I)I"⟩, 14), (⟨"AccentModemsModel", "hear", "(III)I"⟩, 14), (⟨"AccentModemsModel", "worstOf", "(II)I"⟩, 14), (⟨"AccentModemsModel", "bitsBy", "(II)I"⟩, 14), (⟨"AccentModemsModel", "carried", "(I)I"⟩, 14), (⟨"AccentModemsModel", "sendAll", "(II)I"⟩, 14), (⟨"AccentModemsModel", "sendBeat", "(I)I"⟩, 14), (⟨"AccentModemsModel", "sendTone", "(II)I"⟩, 14), (⟨"AccentModemsModel", "takeBit", "(I)I"⟩, 14), (⟨"AccentModemsModel", "decide", "(III)I"⟩, 14), (⟨"AccentModemsModel", "read", "()V"⟩, 14), (⟨"AccentModemsModel", "nextState", "(II)I"⟩, 14), (⟨"AccentModemsModel", "saidOn", "(I)I"⟩, 14), (⟨"AccentModemsModel", "counted", "(I)I"⟩, 14), (⟨"AccentModemsModel", "shyAll", "()I"⟩, 14), (⟨"AccentModemsModel", "insults", "()I"⟩, 14)]
theorem lw_r2 : ∀ q ∈ lw_privs_2, lw_okq q := List.forall_mem_cons.mpr ⟨lw_p16, List.forall_mem_cons.mpr ⟨lw_p17, List.forall_mem_cons.mpr ⟨lw_p18, List.forall_mem_cons.mpr ⟨lw_p19, List.forall_mem_cons.mpr ⟨lw_p20, List.forall_mem_cons.mpr ⟨lw_p21, List.forall_mem_cons.mpr ⟨lw_p22, List.forall_mem_cons.mpr ⟨lw_p23, List.forall_mem_cons.mpr ⟨lw_p24, List.forall_mem_cons.mpr ⟨lw_p25, List.forall_mem_cons.mpr ⟨lw_p26, List.forall_mem_cons.mpr ⟨lw_p27, List.forall_mem_cons.mpr ⟨lw_p28, List.forall_mem_cons.mpr ⟨lw_p29, List.forall_mem_cons.mpr ⟨lw_p30, List.forall_mem_cons.mpr ⟨lw_p31, fun _ h => absurd h List.not_mem_nil⟩⟩⟩⟩⟩⟩⟩⟩⟩⟩⟩⟩⟩⟩⟩⟩
theorem lw_p32 : lw_okq (⟨"AccentModemsModel", "sureOf", "(II)I"⟩, 14) := ⟨⟨by decide +kernel, by decide +kernel⟩, List.mem_of_getElem? (i := 823) (by decide +kernel), List.mem_of_getElem? (i := 1084) (by decide +kernel), List.mem_of_getElem? (i := 1085) (by decide +kernel)⟩
theorem lw_p33 : lw_okq (⟨"AccentModemsModel", "sentOf", "(III)I"⟩, 14) := ⟨⟨by decide +kernel, by decide +kernel⟩, List.mem_of_getElem? (i := 823) (by decide +kernel), List.mem_of_getElem? (i := 1092) (by decide +kernel), List.mem_of_getElem? (i := 1093) (by decide +kernel)⟩
theorem lw_p34 : lw_okq (⟨"AccentModemsModel", "putAside", "()V"⟩, 14) := ⟨⟨by decide +kernel, by decide +kernel⟩, List.mem_of_getElem? (i := 823) (by decide +kernel), List.mem_of_getElem? (i := 1096) (by decide +kernel), List.mem_of_getElem? (i := 1097) (by decide +kernel)⟩
theorem lw_p35 : lw_okq (⟨"AccentModemsModel", "putBack", "()V"⟩, 14) := ⟨⟨by decide +kernel, by decide +kernel⟩, List.mem_of_getElem? (i := 823) (by decide +kernel), List.mem_of_getElem? (i := 1100) (by decide +kernel), List.mem_of_getElem? (i := 1101) (by decide +kernel)⟩
theorem lw_p36 : lw_okq (⟨"AccentModemsModel", "learnedOf", "(II)I"⟩, 14) := ⟨⟨by decide +kernel, by decide +kernel⟩, List.mem_of_getElem? (i := 823) (by decide +kernel), List.mem_of_getElem? (i := 1108) (by decide +kernel), List.mem_of_getElem? (i := 1109) (by decide +kernel)⟩
theorem lw_p37 : lw_okq (⟨"AccentModemsModel", "beatsOf", "(I)I"⟩, 14) := ⟨⟨by decide +kernel, by decide +kernel⟩, List.mem_of_getElem? (i := 823) (by decide +kernel), List.mem_of_getElem? (i := 1116) (by decide +kernel), List.mem_of_getElem? (i := 1117) (by decide +kernel)⟩
theorem lw_p38 : lw_okq (⟨"AccentModemsModel", "lessonOf", "(I)I"⟩, 14) := ⟨⟨by decide +kernel, by decide +kernel⟩, List.mem_of_getElem? (i := 823) (by decide +kernel), List.mem_of_getElem? (i := 1124) (by decide +kernel), List.mem_of_getElem? (i := 1125) (by decide +kernel)⟩
theorem lw_p39 : lw_okq (⟨"AccentModemsModel", "lessonBits", "(II)I"⟩, 14) := ⟨⟨by decide +kernel, by decide +kernel⟩, List.mem_of_getElem? (i := 823) (by decide +kernel), List.mem_of_getElem? (i := 1128) (by decide +kernel), List.mem_of_getElem? (i := 1129) (by decide +kernel)⟩
theorem lw_p40 : lw_okq (⟨"AccentModemsModel", "hurtsOf", "(II)I"⟩, 14) := ⟨⟨by decide +kernel, by decide +kernel⟩, List.mem_of_getElem? (i := 823) (by decide +kernel), List.mem_of_getElem? (i := 1136) (by decide +kernel), List.mem_of_getElem? (i := 1137) (by decide +kernel)⟩
theorem lw_p41 : lw_okq (⟨"AccentModemsModel", "shareOf", "(I)D"⟩, 14) := ⟨⟨by decide +kernel, by decide +kernel⟩, List.mem_of_getElem? (i := 823) (by decide +kernel), List.mem_of_getElem? (i := 1144) (by decide +kernel), List.mem_of_getElem? (i := 1145) (by decide +kernel)⟩
theorem lw_p42 : lw_okq (⟨"AccentModemsModel", "mix", "(J)V"⟩, 14) := ⟨⟨by decide +kernel, by decide +kernel⟩, List.mem_of_getElem? (i := 823) (by decide +kernel), List.mem_of_getElem? (i := 1153) (by decide +kernel), List.mem_of_getElem? (i := 1154) (by decide +kernel)⟩
theorem lw_p43 : lw_okq (⟨"AccentModemsModel", "mixWay", "(I)V"⟩, 14) := ⟨⟨by decide +kernel, by decide +kernel⟩, List.mem_of_getElem? (i := 823) (by decide +kernel), List.mem_of_getElem? (i := 1158) (by decide +kernel), List.mem_of_getElem? (i := 1159) (by decide +kernel)⟩
def lw_privs_3 : List (MethodName × Nat) := [(⟨"AccentModemsModel", "sureOf", "(II)I"⟩, 14), (⟨"AccentModemsModel", "sentOf", "(III)I"⟩, 14), (⟨"AccentModemsModel", "putAside", "()V"⟩, 14), (⟨"AccentModemsModel", "putBack", "()V"⟩, 14), (⟨"AccentModemsModel", "learnedOf", "(II)I"⟩, 14), (⟨"AccentModemsModel", "beatsOf", "(I)I"⟩, 14), (⟨"AccentModemsModel", "lessonOf", "(I)I"⟩, 14), (⟨"AccentModemsModel", "lessonBits", "(II)I"⟩, 14), (⟨"AccentModemsModel", "hurtsOf", "(II)I"⟩, 14), (⟨"AccentModemsModel", "shareOf", "(I)D"⟩, 14), (⟨"AccentModemsModel", "mix", "(J)V"⟩, 14), (⟨"AccentModemsModel", "mixWay", "(I)V"⟩, 14)]
theorem lw_r3 : ∀ q ∈ lw_privs_3, lw_okq q := List.forall_mem_cons.mpr ⟨lw_p32, List.forall_mem_cons.mpr ⟨lw_p33, List.forall_mem_cons.mpr ⟨lw_p34, List.forall_mem_cons.mpr ⟨lw_p35, List.forall_mem_cons.mpr ⟨lw_p36, List.forall_mem_cons.mpr ⟨lw_p37, List.forall_mem_cons.mpr ⟨lw_p38, List.forall_mem_cons.mpr ⟨lw_p39, List.forall_mem_cons.mpr ⟨lw_p40, List.forall_mem_cons.mpr ⟨lw_p41, List.forall_mem_cons.mpr ⟨lw_p42, List.forall_mem_cons.mpr ⟨lw_p43, fun _ h => absurd h List.not_mem_nil⟩⟩⟩⟩⟩⟩⟩⟩⟩⟩⟩⟩
def lw_privs : List (MethodName × Nat) := lw_privs_1 ++ (lw_privs_2 ++ (lw_privs_3))
def lw_tbl : List Cond := k2_sels lw_privs ++ tables_1
theorem lw_privs_ok : ∀ q ∈ lw_privs, lw_okq q := by
  show ∀ q ∈ lw_privs_1 ++ (lw_privs_2 ++ (lw_privs_3)), lw_okq q
  exact List.forall_mem_append.mpr ⟨lw_r1, List.forall_mem_append.mpr ⟨lw_r2, lw_r3⟩⟩
/-- the streams that the claim lets the run draw from -/
abbrev lw_cs : List Choice := [Jvm.Choice.named "NaN.bits"]
theorem lw_bits : nanBits ∈ lw_cs := by first | decide | exact List.mem_cons_self | simp [lw_cs, nanBits]
end
section
/-! ===== BEGIN words of one list among another's, by their places ===== -/
theorem goodIn_r {big : List Cond} (ws : List Cond) (ps : List Nat) (hp : ws = ps.filterMap (fun i => big[i]?)) (h : ws.all goodWord = true) : GoodIn big ws := by
  intro w hw
  have h1 := List.all_eq_true.mp h w hw
  rw [hp] at hw
  obtain ⟨i, -, hi⟩ := List.mem_filterMap.mp hw
  have hm : w ∈ big := by first | exact List.mem_of_getElem? hi | exact List.getElem?_mem hi
  exact ⟨hm, good_of_word h1⟩
theorem goodIn_app {big a b : List Cond} (ha : GoodIn big a) (hb : GoodIn big b) : GoodIn big (a ++ b) := fun w h => (List.mem_append.mp h).elim (ha w) (hb w)
theorem goodIn_ca {big a b : List Cond} {c : Cond} (ha : GoodIn big (c :: a)) (hb : GoodIn big b) : GoodIn big (c :: (a ++ b)) := fun w h => (List.mem_cons.mp h).elim (fun e => ha w (List.mem_cons.mpr (Or.inl e))) (fun h => (List.mem_append.mp h).elim (fun h => ha w (List.mem_cons.mpr (Or.inr h))) (hb w))
theorem goodIn_sub {big ws : List Cond} (hm : ∀ w ∈ ws, w ∈ big) (h : ws.all goodWord = true) : GoodIn big ws := fun w hw => ⟨hm w hw, good_of_word (List.all_eq_true.mp h w hw)⟩
/-! ===== END ===== -/

/-! ===== BEGIN exceptions that leave a method, and their catching by the caller (launches without stack traces) ===== -/
section VXA
/-! The laws vx_back, vx_callV, vx_callS, vx_callSW, vx_throw0, vx_throwS follow proofs of the library, with one case more: JvmDerived/Free/Laws.lean (Back.of_free), Shelf42/LK1.lean (callV, callS), Shelf/KitTraced.lean (throwNew0V, throwNewS). -/
/-- where a method has thrown q: the class by its name, the cell, what was written, the world -/
def vx_T (XC : String → State → State → Prop) (st : State) (q : Addr) (t : State) (mc ms : Nat) (free : Addr → Prop) : Prop :=
  ∃ (E : String) (ce : Cell) (L : List Loc), XC E st t ∧ t.heap[q]? = some ce ∧ ce.vm = .none ∧ st.vm.findClass E = some ce.cls ∧ st.WarmedH t.vm ∧ st.sameButNew ({ t with vm := st.vm } : State) L mc ms ∧ ∀ z ∈ L, free z.base
def vx_Q (Qc : Array Value → State → Outcome → State → Prop) (XC : String → State → State → Prop) (mc ms : Nat) (free : Addr → Prop) : Array Value → State → Outcome → State → Prop := fun a st o t =>
  (Qc a st o t ∧ ∃ L, FrameEnd st o t L mc ms ∧ ∀ q ∈ L, free q.base) ∨ ∃ q, o = .threw q ∧ vx_T XC st q t mc ms free
/-- a callee that returns or throws -/
def vx_Met (l : Launch) (y : MethodName) (ws : List Cond) (rm : Room) (Pc : Array Value → State → Prop) (Qc : Array Value → State → Outcome → State → Prop) (XC : String → State → State → Prop) (mc ms : Nat) (free : Addr → Prop) : Prop :=
  MetFree l y (headSpec ws rm) Pc (fun _ _ _ _ _ => True) (vx_Q Qc XC mc ms free)
def vx_Post (XC : String → State → State → Prop) (mc ms : Nat) (free : Addr → Prop) : Pt → Array Value → Addr → Pt → Prop := fun A a q B =>
  ∃ (g : JFrame) (mk : MethodId) (t : State) (L : List Loc) (E : String) (ce : Cell), B.U.heap = t.heap ∧ B.U.vm = t.vm ∧ XC E (A.U.calling g mk a) t ∧ t.heap[q]? = some ce ∧ ce.vm = .none ∧ A.U.vm.findClass E = some ce.cls ∧ B.locs = A.locs ++ L ∧ (∀ z ∈ L, free z.base) ∧ B.cells = A.cells + mc ∧ B.slots = A.slots + ms
def vx_Back (l : Launch) (R : Room) (p : Program) (e : Env) (below : List Frame) (s : State) (sargs : Array Value) (y : MethodName) (len W9 : Nat)
    (Pre : Pt → Array Value → Prop) (Post : Pt → Array Value → Option Value → Pt → Prop) (PostX : Pt → Array Value → Addr → Pt → Prop) : Prop :=
  ∀ (m : MethodId) (meth : Method) (c : Code) (A : Pt) (g : JFrame) (ig : Instr) (mk : MethodId) (a : Array Value),
    Stand p l e R s m sargs below meth c A.U A.locs A.cells A.slots → g.method = m → g.locals.size = c.maxLocals → decode c.code g.pc = .ok (ig, len) →
    2 * g.monitorRoom + (g.stack.map fun v => v.category).sum ≤ W9 → A.U.methodNamed? y = some mk → Pre A a →
    (∃ (v : Option Value) (B : Pt), Stand p l e R s m sargs below meth c B.U B.locs B.cells B.slots ∧ Post A a v B ∧
      Steps p.tables e below (doInvoke e (A.U.setTop g) [] mk a).1 (B.U.setTop { g with pc := g.pc + len, stack := v.toList ++ g.stack })) ∨
    (∃ (q : Addr) (B : Pt), Stand p l e R s m sargs below meth c B.U B.locs B.cells B.slots ∧ PostX A a q B ∧
      Steps p.tables e below (doInvoke e (A.U.setTop g) [] mk a).1 ((B.U.setTop g).pushFrame (.throwing q)))
section Payer
variable {l : Launch} {R : Room} {p : Program} {e : Env} {below : List Frame} {s : State} {sargs : Array Value} {y : MethodName} {len W9 : Nat}
theorem vx_back {ws : List Cond} {rm : Room} {Pc : Array Value → State → Prop} {Qc : Array Value → State → Outcome → State → Prop} {XC : String → State → State → Prop} {mc ms : Nat} {free : Addr → Prop} {bytes : ByteArray} {maxL : Nat} {ret : Option FieldType}
    (hM : vx_Met l y ws rm Pc Qc XC mc ms free) (hblind : FrameBlind Pc) (hrc : rm.cells = mc) (hrs : rm.slots = ms)
    (hframes : rm.frames + 1 ≤ R.frames) (hlocals : W9 + (maxL + 11) + rm.locals ≤ R.locals)
    (hws : ∀ w ∈ ws, ∀ a' U, s.WarmedH U.vm → w.before a' U = true) (hcode : Cond.code y bytes maxL ret ∈ ws) (hinit : ∀ a' U, s.WarmedH U.vm → (Cond.initialized y.cls).before a' U = true) :
    vx_Back l R p e below s sargs y len W9 (PreOf R mc ms Pc) (PostOf Qc mc ms free) (vx_Post XC mc ms free) := by
  intro m meth c A g ig mk a X hg hsize hdg hW hn hp
  have h1 : (headSpec ws rm).pre.before a A.U = true := atoms_intro fun w hw => hws w hw _ _ X.warmed
  have h2 : (Cond.code y bytes maxL ret).before a A.U = true := hws _ hcode _ _ X.warmed
  have h3 : (Cond.initialized y.cls).before a A.U = true := hinit _ _ X.warmed
  have h4 : A.cells + (headSpec ws rm).room.cells ≤ R.cells := by rw [show (headSpec ws rm).room.cells = mc from hrc]; exact hp.1
  have h5 : A.slots + (headSpec ws rm).room.slots ≤ R.slots := by rw [show (headSpec ws rm).room.slots = ms from hrs]; exact hp.2.1
  have hPc : Pc a (A.U.calling g mk a) := hblind _ _ _ _ hp.2.2
  obtain ⟨U, Ls, c0, s0⟩ := A
  dsimp only [Pt.U, Pt.locs, Pt.cells, Pt.slots] at h1 h2 h3 h4 h5 X hn hPc ⊢
  obtain ⟨methY, cY, hmY, hcY, -, hlY, -, -, -, -⟩ := Cond.code_spec hn h2
  obtain ⟨kY, hkY, -⟩ := className_of_methodNamed hn
  have hinitY : kY.init = .initialized := Cond.initialized_spec (findClass_of_methodNamed hn) hkY h3
  have h : At U g.method c below := by rw [hg]; exact X.here
  have hlocals9 : W9 + (maxL + 11) + (headSpec ws rm).room.locals ≤ R.locals := hlocals
  have happ : (headSpec ws rm).appliesLoose y e.platform (U.calling g mk a) = true :=
    Spec.appliesLoose_calling (g := g) h hdg hn hkY hinitY
      (X.room_calling (g := g) (R' := (headSpec ws rm).room) hsize hmY hcY hframes (by rw [hlY]; omega) h4 h5) h1
  obtain ⟨mid, hmid⟩ := h.above
  have hfr : (U.setTop g).frames = (.java g :: mid) ++ below := by rw [State.frames_setTop' g h.top, hmid]; rfl
  obtain ⟨o, s₂, hsteps, -, hend, hq⟩ := Steps.callFree hM p X.admits X.cas X.clock (acts := []) hfr happ hPc trivial
  have hq' : vx_Q Qc XC mc ms free a (U.calling g mk a) o s₂ := hq
  rw [State.frames_setTop' g h.top] at hend
  obtain ⟨g₀, hg0⟩ := Option.isSome_iff_exists.mp h.top
  obtain ⟨r, hr⟩ := State.topJava?_eq_some.mp hg0
  have hr' : (({ U with heap := s₂.heap, slotsUsed := s₂.slotsUsed } : State).setVm s₂.vm).frames = .java g₀ :: r := hr
  rcases hq' with ⟨hqc, L, hfe, hL⟩ | ⟨q, rfl, E, ce, L, hx, hce, hcv, hcl, hW₂, hsm, hL⟩
  · obtain ⟨⟨v, rfl⟩, hW₂, e2, q2, q3, q4, q5, q6⟩ := id hfe
    have e3 : s₂ = ({ (U.calling g mk a).setFrames s₂.frames with heap := s₂.heap, slotsUsed := s₂.slotsUsed } : State).setVm s₂.vm := by
      have : s₂ = ({ s₂ with vm := (U.calling g mk a).vm } : State).setVm s₂.vm := rfl
      rw [e2] at this
      exact this
    obtain ⟨c₂, i₂, len₂, hc₂, hd₂, hf₂⟩ := hend
    have hW' : U.WarmedH s₂.vm := hW₂
    have hcc : c₂ = c := by
      have h1 : s₂.code? g.method = U.code? g.method := by
        rw [State.code?_eq, State.code?_eq, hW'.alike.method?]
      exact Option.some.inj (hc₂.symm.trans (h1.trans h.code))
    subst hcc
    have hlen : len₂ = len := by rw [hdg] at hd₂; cases hd₂; rfl
    subst hlen
    have hs₂ : s₂ = (({ U with heap := s₂.heap, slotsUsed := s₂.slotsUsed } : State).setVm s₂.vm).setTop { g with pc := g.pc + len₂, stack := v.toList ++ g.stack } := by
      refine e3.trans ?_
      rw [hf₂, State.calling_eq h.top, State.setFrames_setFrames, State.setTop_of_frames _ hr', hr]
      rfl
    have hsame : U.sameButNew ({ U with heap := s₂.heap, slotsUsed := s₂.slotsUsed } : State) L mc ms := by
      refine ⟨?_, q2, q3, q4, q5, q6⟩
      obtain ⟨t, ht, -⟩ := State.frames_cons hr
      show ({ U with heap := s₂.heap, slotsUsed := s₂.slotsUsed } : State) = { U.setFrames U.frames with heap := s₂.heap, slotsUsed := s₂.slotsUsed }
      rw [State.setFrames_self ht]
    subst hg
    refine Or.inl ⟨v, ⟨(({ U with heap := s₂.heap, slotsUsed := s₂.slotsUsed } : State).setVm s₂.vm), Ls ++ L, c0 + mc, s0 + ms⟩,
      ⟨X.admits, X.cas, X.clock, X.frames, X.room, X.hears, X.method, X.code, (X.here.setHeapUsed s₂.heap s₂.slotsUsed).setVm hW'.alike, X.tail, State.WarmedH.trans X.warmed hW', X.limits, X.bytes, X.same.trans (hsame.setVm s.vm)⟩,
      ⟨g, mk, s₂, L, rfl, rfl, hqc, rfl, hL, rfl, rfl⟩, ?_⟩
    show Steps p.tables e below _ ((({ U with heap := s₂.heap, slotsUsed := s₂.slotsUsed } : State).setVm s₂.vm).setTop { g with pc := g.pc + len₂, stack := v.toList ++ g.stack })
    rw [← hs₂]
    exact hsteps
  · obtain ⟨e2, q2, q3, q4, q5, q6⟩ := id hsm
    have e3 : s₂ = ({ (U.calling g mk a).setFrames s₂.frames with heap := s₂.heap, slotsUsed := s₂.slotsUsed } : State).setVm s₂.vm := by
      have : s₂ = ({ s₂ with vm := (U.calling g mk a).vm } : State).setVm s₂.vm := rfl
      rw [e2] at this
      exact this
    have hf₂ : s₂.frames = .throwing q :: .java g :: U.frames.tail := hend
    have hW' : U.WarmedH s₂.vm := hW₂
    have hs₂ : s₂ = ((({ U with heap := s₂.heap, slotsUsed := s₂.slotsUsed } : State).setVm s₂.vm).setTop g).pushFrame (.throwing q) := by
      refine e3.trans ?_
      rw [hf₂, State.calling_eq h.top, State.setFrames_setFrames, State.pushFrame, State.frames_setTop _ hr', State.setTop_of_frames _ hr', State.setFrames_setFrames, hr]
      rfl
    have hsame : U.sameButNew ({ U with heap := s₂.heap, slotsUsed := s₂.slotsUsed } : State) L mc ms := by
      refine ⟨?_, q2, q3, q4, q5, q6⟩
      obtain ⟨t, ht, -⟩ := State.frames_cons hr
      show ({ U with heap := s₂.heap, slotsUsed := s₂.slotsUsed } : State) = { U.setFrames U.frames with heap := s₂.heap, slotsUsed := s₂.slotsUsed }
      rw [State.setFrames_self ht]
    subst hg
    refine Or.inr ⟨q, ⟨(({ U with heap := s₂.heap, slotsUsed := s₂.slotsUsed } : State).setVm s₂.vm), Ls ++ L, c0 + mc, s0 + ms⟩,
      ⟨X.admits, X.cas, X.clock, X.frames, X.room, X.hears, X.method, X.code, (X.here.setHeapUsed s₂.heap s₂.slotsUsed).setVm hW'.alike, X.tail, State.WarmedH.trans X.warmed hW', X.limits, X.bytes, X.same.trans (hsame.setVm s.vm)⟩,
      ⟨g, mk, s₂, L, E, ce, rfl, rfl, hx, hce, hcv, hcl, rfl, hL, rfl, rfl⟩, ?_⟩
    show Steps p.tables e below _ (((({ U with heap := s₂.heap, slotsUsed := s₂.slotsUsed } : State).setVm s₂.vm).setTop g).pushFrame (.throwing q))
    rw [← hs₂]
    exact hsteps
end Payer
section Calls
variable {p : Program} {l : Launch} {e : Env} {R : Room} {s : State} {m : MethodId} {args : Array Value} {below : List Frame} {meth : Method} {c : Code} {T : State} {locs : List Loc} {cells slots : Nat}
theorem vx_callV (X : Stand p l e R s m args below meth c T locs cells slots) (hexec : p.tables.exec = Jvm.exec) {own C : String} {index : Nat} {y : MethodName} {bytes : ByteArray} {maxL : Nat} {ret : Option FieldType}
    (hown : s.vm.findClass own = some m.cls) (hlink : (Cond.methodLink own index y).before args s = true) (hinst : (Cond.instanceMethod y).before args s = true) (hsel : (Cond.selects C y y).before args s = true)
    (hcode : (Cond.code y bytes maxL ret).before args s = true) (hy : y.cls ≠ "java/lang/invoke/MethodHandle" ∧ y.cls ≠ "java/lang/invoke/VarHandle")
    {W9 : Nat} {Pre : Pt → Array Value → Prop} {Post : Pt → Array Value → Option Value → Pt → Prop} {PostX : Pt → Array Value → Addr → Pt → Prop} (hK : vx_Back l R p e below s args y 3 W9 Pre Post PostX)
    {b : Addr} {cellB : Cell} (hcell : T.heap[b]? = some cellB) (hobj : cellB.vm.isStatics = false) (hcls : s.vm.findClass C = some cellB.cls)
    {g : JFrame} (hg : g.method = m) (hsize : g.locals.size = c.maxLocals) {argsL rest : List Value} (hlen : ∀ sig, parseMethodDescriptor y.desc = some sig → argsL.length = sig.parameters.length)
    (hstack : g.stack = argsL.reverse ++ .ref b :: rest) (hW : 2 * g.monitorRoom + (rest.map fun v => v.category).sum ≤ W9) (hdg : decode c.code g.pc = .ok (.invokevirtual index, 3))
    (hpre : ∀ vm₁, s.WarmedH vm₁ → Pre ⟨T.setVm vm₁, locs, cells, slots⟩ (Value.ref b :: argsL).toArray) :
    (∃ (v : Option Value) (vm₁ : Vm) (B : Pt), s.WarmedH vm₁ ∧ Stand p l e R s m args below meth c B.U B.locs B.cells B.slots ∧ Post ⟨T.setVm vm₁, locs, cells, slots⟩ (Value.ref b :: argsL).toArray v B ∧
      ∀ target, Steps p.tables e below (B.U.setTop { g with pc := g.pc + 3, stack := v.toList ++ rest }) target → Steps p.tables e below (T.setTop g) target) ∨
    (∃ (q : Addr) (vm₁ : Vm) (B : Pt), s.WarmedH vm₁ ∧ Stand p l e R s m args below meth c B.U B.locs B.cells B.slots ∧ PostX ⟨T.setVm vm₁, locs, cells, slots⟩ (Value.ref b :: argsL).toArray q B ∧
      Steps p.tables e below (T.setTop g) ((B.U.setTop { g with stack := rest }).pushFrame (.throwing q))) := by
  obtain ⟨mk, methM, hnamed, hmethM, hstM, habM⟩ := Cond.instanceMethod_spec hinst
  obtain ⟨methM', cM, hmethM', -, -, -, -, -, -, hsigM⟩ := Cond.code_spec hnamed hcode
  cases hmethM.symm.trans hmethM'
  obtain ⟨c2, r2, m2, q1, q2, q3, q4, kP, hkP, hkPi⟩ := Cond.selects_spec hsel
  cases hcls.symm.trans q1
  cases (State.methodFound?_of_named hnamed hy).symm.trans q2
  cases hnamed.symm.trans q3
  have hselP : selectMethod e.platform s.vm cellB.cls mk = .method mk := by rw [Launch.admits_selectMethod X.admits]; exact q4
  obtain ⟨vm₁, X₁, hstep₁⟩ := X.invokevirtual hexec hown hlink hnamed hmethM hstM hkP hkPi hy (a := b) (cell := cellB) hcell
    (fun z h => by rw [h] at hobj; cases hobj) hselP hmethM habM hkP hkPi (g := g) hg (argsL := argsL) (rest := rest) (hlen _ hsigM) hstack hdg
  rcases hK m meth c ⟨T.setVm vm₁, locs, cells, slots⟩ { g with stack := rest } (.invokevirtual index) mk (Value.ref b :: argsL).toArray X₁ hg hsize hdg hW (X₁.named hnamed) (hpre vm₁ X₁.warmed) with ⟨v, B, X', hpost, hsteps⟩ | ⟨q, B, X', hpost, hsteps⟩
  · exact Or.inl ⟨v, vm₁, B, X₁.warmed, X', hpost, fun target h => hstep₁ _ fun acts => by rw [doInvoke_state]; exact hsteps.trans h⟩
  · exact Or.inr ⟨q, vm₁, B, X₁.warmed, X', hpost, hstep₁ _ fun acts => by rw [doInvoke_state]; exact hsteps⟩
theorem vx_callS (X : Stand p l e R s m args below meth c T locs cells slots) (hexec : p.tables.exec = Jvm.exec) {own : String} {index : Nat} {y : MethodName} {bytes : ByteArray} {maxL : Nat} {ret : Option FieldType}
    (hown : s.vm.findClass own = some m.cls) (hlink : (Cond.methodLink own index y).before args s = true) (hstat : (Cond.static y).before args s = true) (hinit : (Cond.initialized y.cls).before args s = true)
    (hcode : (Cond.code y bytes maxL ret).before args s = true) (hy : y.cls ≠ "java/lang/invoke/MethodHandle" ∧ y.cls ≠ "java/lang/invoke/VarHandle")
    {W9 : Nat} {Pre : Pt → Array Value → Prop} {Post : Pt → Array Value → Option Value → Pt → Prop} {PostX : Pt → Array Value → Addr → Pt → Prop} (hK : vx_Back l R p e below s args y 3 W9 Pre Post PostX)
    {g : JFrame} (hg : g.method = m) (hsize : g.locals.size = c.maxLocals) {argsL rest : List Value} (hlen : ∀ sig, parseMethodDescriptor y.desc = some sig → argsL.length = sig.parameters.length)
    (hstack : g.stack = argsL.reverse ++ rest) (hW : 2 * g.monitorRoom + (rest.map fun v => v.category).sum ≤ W9) (hdg : decode c.code g.pc = .ok (.invokestatic index, 3))
    (hpre : ∀ vm₁, s.WarmedH vm₁ → Pre ⟨T.setVm vm₁, locs, cells, slots⟩ argsL.toArray) :
    (∃ (v : Option Value) (vm₁ : Vm) (B : Pt), s.WarmedH vm₁ ∧ Stand p l e R s m args below meth c B.U B.locs B.cells B.slots ∧ Post ⟨T.setVm vm₁, locs, cells, slots⟩ argsL.toArray v B ∧
      ∀ target, Steps p.tables e below (B.U.setTop { g with pc := g.pc + 3, stack := v.toList ++ rest }) target → Steps p.tables e below (T.setTop g) target) ∨
    (∃ (q : Addr) (vm₁ : Vm) (B : Pt), s.WarmedH vm₁ ∧ Stand p l e R s m args below meth c B.U B.locs B.cells B.slots ∧ PostX ⟨T.setVm vm₁, locs, cells, slots⟩ argsL.toArray q B ∧
      Steps p.tables e below (T.setTop g) ((B.U.setTop { g with stack := rest }).pushFrame (.throwing q))) := by
  obtain ⟨mk, hnamed⟩ := Cond.code_named hcode
  obtain ⟨methM, cM, hmethM, -, -, -, -, -, -, hsigM⟩ := Cond.code_spec hnamed hcode
  have hstatic : methM.isStatic = true := Cond.static_spec hnamed hmethM hstat
  obtain ⟨kP, hkP, -⟩ := className_of_methodNamed hnamed
  have hinitP : kP.init = .initialized := Cond.initialized_spec (findClass_of_methodNamed hnamed) hkP hinit
  obtain ⟨vm₁, X₁, hstep₁⟩ := X.invokestatic hexec hown hlink hnamed hmethM hstatic hkP hinitP hy (g := g) hg (argsL := argsL) (rest := rest) (hlen _ hsigM) hstack hdg
  rcases hK m meth c ⟨T.setVm vm₁, locs, cells, slots⟩ { g with stack := rest } (.invokestatic index) mk argsL.toArray X₁ hg hsize hdg hW (X₁.named hnamed) (hpre vm₁ X₁.warmed) with ⟨v, B, X', hpost, hsteps⟩ | ⟨q, B, X', hpost, hsteps⟩
  · exact Or.inl ⟨v, vm₁, B, X₁.warmed, X', hpost, fun target h => hstep₁ _ fun acts => by rw [doInvoke_state]; exact hsteps.trans h⟩
  · exact Or.inr ⟨q, vm₁, B, X₁.warmed, X', hpost, hstep₁ _ fun acts => by rw [doInvoke_state]; exact hsteps⟩
end Calls
theorem vx_cls {s : State} {T : State} {vm₁ : Vm} {E : String} {k : ClassId} (hW : s.WarmedH vm₁) (h : (T.setVm vm₁).vm.findClass E = some k) : s.vm.findClass E = some k := by
  have h1 : vm₁.findClass E = some k := h
  rw [hW.alike.findClass] at h1
  exact h1
/-- the method's frame g, with q thrown over it -/
def vx_W (p : Program) (l : Launch) (e : Env) (R : Room) (s : State) (m : MethodId) (args : Array Value) (below : List Frame) (meth : Method) (c : Code) (H : Heap) (locs : List Loc) (cells slots : Nat) (Q : State → Prop) (g : JFrame) (q : Addr) : Prop :=
  ∀ T : State, T.heap = H → Stand p l e R s m args below meth c T locs cells slots → ∃ t, Steps p.tables e below ((T.setTop g).pushFrame (.throwing q)) t ∧ Q t
def vx_Run (p : Program) (l : Launch) (e : Env) (R : Room) (s : State) (m : MethodId) (args : Array Value) (below : List Frame) (meth : Method) (c : Code) (H : Heap) (locs : List Loc) (cells slots mc ms : Nat) (g : JFrame) (rest : List Value) (Qa : State → Outcome → State → Prop) (XC : String → State → State → Prop) (free : Addr → Prop) : Prop :=
  ∀ T : State, T.heap = H → Stand p l e R s m args below meth c T locs cells slots →
    (∃ (v : Option Value) (st₀ t T' : State) (L : List Loc), st₀.heap = H ∧ Stand p l e R s m args below meth c T' (locs ++ L) (cells + mc) (slots + ms) ∧ (∀ q ∈ L, free q.base) ∧ T'.heap = t.heap ∧ T'.vm = t.vm ∧ Qa st₀ (.returned v) t ∧
      Goes p e below T g T' { g with pc := g.pc + 3, stack := v.toList ++ rest }) ∨
    (∃ (q : Addr) (st₀ t T' : State) (L : List Loc) (E : String) (ce : Cell), st₀.heap = H ∧ Stand p l e R s m args below meth c T' (locs ++ L) (cells + mc) (slots + ms) ∧ (∀ z ∈ L, free z.base) ∧ T'.heap = t.heap ∧ T'.vm = t.vm ∧ XC E st₀ t ∧ t.heap[q]? = some ce ∧ ce.vm = .none ∧ s.vm.findClass E = some ce.cls ∧
      Steps p.tables e below (T.setTop g) ((T'.setTop { g with stack := rest }).pushFrame (.throwing q)))
def vx_X {S : Type} (px : S → Prop) (B : String → S → State → Prop) (A : Nat → Prop) : String → State → State → Prop := fun E st t => ∃ u : S, px u ∧ B E u t ∧ va_F A st t
section Runs
variable {p : Program} {l : Launch} {e : Env} {R : Room} {s : State} {m : MethodId} {args : Array Value} {below : List Frame} {meth : Method} {c : Code} {H : Heap} {locs : List Loc} {cells slots : Nat}
variable {y : MethodName} {bytes cc : ByteArray} {maxL nL mc ms n index : Nat} {ret : Option FieldType} {ws : List Cond} {rm : Room} {Pc : Array Value → State → Prop} {Qc : Array Value → State → Outcome → State → Prop} {XC : String → State → State → Prop} {free : Addr → Prop} {Ts : List Cond} {own C : String} {b : Addr} {As rest : List Value} {g : JFrame}
theorem vx_callBack (cb : CallB R s args own index y bytes maxL ret ws rm mc ms n) (hM : vx_Met l y ws rm Pc Qc XC mc ms free) (hbl : FrameBlind Pc) : vx_Back l R p e below s args y 3 8 (PreOf R mc ms Pc) (PostOf Qc mc ms free) (vx_Post XC mc ms free) := by
  obtain ⟨hrc, hrs, hfr, hlo, hws, hcw, -, hini, -⟩ := cb
  exact vx_back (bytes := bytes) (maxL := maxL) (ret := ret) hM hbl hrc hrs hfr hlo hws hcw (fun a' U hW => word_at hW (Or.inl (by first | rfl | simp [Cond.onTables, Cond.keeps, Cond.steady])) hini)
theorem vx_runV (S : CallFix p m c cc nL s args Ts own) (hM : vx_Met l y ws rm Pc Qc XC mc ms free) (cw : CallW R s args own C index y bytes maxL ret ws rm mc ms n) (hp : PreV s H C b Pc As)
    (hg : g.method = m) (hn : As.length = n) (hsize : g.locals.size = nL) (hstack : g.stack = As.reverse ++ .ref b :: rest) (hW : 2 * g.monitorRoom + (rest.map fun v => v.category).sum ≤ 8) (hdg : decode cc g.pc = .ok (.invokevirtual index, 3)) (hf : cells + mc ≤ R.cells ∧ slots + ms ≤ R.slots) :
    vx_Run p l e R s m args below meth c H locs cells slots mc ms g rest (Qc (Value.ref b :: As).toArray) XC free := by
  have hK : vx_Back l R p e below s args y 3 8 (PreOf R mc ms Pc) (PostOf Qc mc ms free) (vx_Post XC mc ms free) := vx_callBack cw.1 hM hp.1
  obtain ⟨⟨-, -, -, -, -, -, hcode, -, hy, hlen, hl⟩, hin, hse⟩ := cw
  obtain ⟨hx, hb, hml, ho, -⟩ := S
  obtain ⟨-, ⟨cellB, hcB, hoB, hclB⟩, hPc⟩ := hp
  intro T hT X
  rcases vx_callV X hx (C := C) (bytes := bytes) (maxL := maxL) (ret := ret) ho hl hin hse hcode hy hK (by rw [hT]; exact hcB) hoB hclB hg (hsize.trans hml.symm) (argsL := As) (rest := rest) (fun sig h => hn.trans (hlen sig h)) hstack hW (by rw [hb]; exact hdg)
    (fun vm₁ hW₁ => ⟨hf.1, hf.2, hPc (T.setVm vm₁) hT hW₁⟩) with ⟨v, vm₁, ⟨U', l2, c2, s2⟩, hW₁, X', ⟨g', mk, t, L, e1, e2, hq, h1, hL, h2, h3⟩, st⟩ | ⟨q, vm₁, ⟨U', l2, c2, s2⟩, hW₁, X', ⟨g', mk, t, L, E, ce, e1, e2, hq, hce, hcv, hcl, h1, hL, h2, h3⟩, st⟩
  · dsimp only [Pt.U, Pt.locs, Pt.cells, Pt.slots] at X' e1 e2 h1 h2 h3 st
    subst h1; subst h2; subst h3
    exact Or.inl ⟨v, (T.setVm vm₁).calling g' mk (Value.ref b :: As).toArray, t, U', L, hT, X', hL, e1, e2, hq, st⟩
  · dsimp only [Pt.U, Pt.locs, Pt.cells, Pt.slots] at X' e1 e2 h1 h2 h3 st hcl
    subst h1; subst h2; subst h3
    exact Or.inr ⟨q, (T.setVm vm₁).calling g' mk (Value.ref b :: As).toArray, t, U', L, E, ce, hT, X', hL, e1, e2, hq, hce, hcv, vx_cls hW₁ hcl, st⟩
theorem vx_runS (S : CallFix p m c cc nL s args Ts own) (hM : vx_Met l y ws rm Pc Qc XC mc ms free) (cw : CallB R s args own index y bytes maxL ret ws rm mc ms n ∧ (Cond.static y).before args s = true) (hp : PreS s H Pc As)
    (hg : g.method = m) (hn : As.length = n) (hsize : g.locals.size = nL) (hstack : g.stack = As.reverse ++ rest) (hW : 2 * g.monitorRoom + (rest.map fun v => v.category).sum ≤ 8) (hdg : decode cc g.pc = .ok (.invokestatic index, 3)) (hf : cells + mc ≤ R.cells ∧ slots + ms ≤ R.slots) :
    vx_Run p l e R s m args below meth c H locs cells slots mc ms g rest (Qc As.toArray) XC free := by
  have hK : vx_Back l R p e below s args y 3 8 (PreOf R mc ms Pc) (PostOf Qc mc ms free) (vx_Post XC mc ms free) := vx_callBack cw.1 hM hp.1
  obtain ⟨⟨-, -, -, -, -, -, hcode, hini, hy, hlen, hl⟩, hstt⟩ := cw
  obtain ⟨hx, hb, hml, ho, -⟩ := S
  intro T hT X
  rcases vx_callS X hx (bytes := bytes) (maxL := maxL) (ret := ret) ho hl hstt hini hcode hy hK hg (hsize.trans hml.symm) (argsL := As) (rest := rest) (fun sig h => hn.trans (hlen sig h)) hstack hW (by rw [hb]; exact hdg)
    (fun vm₁ hW₁ => ⟨hf.1, hf.2, hp.2 (T.setVm vm₁) hT hW₁⟩) with ⟨v, vm₁, ⟨U', l2, c2, s2⟩, hW₁, X', ⟨g', mk, t, L, e1, e2, hq, h1, hL, h2, h3⟩, st⟩ | ⟨q, vm₁, ⟨U', l2, c2, s2⟩, hW₁, X', ⟨g', mk, t, L, E, ce, e1, e2, hq, hce, hcv, hcl, h1, hL, h2, h3⟩, st⟩
  · dsimp only [Pt.U, Pt.locs, Pt.cells, Pt.slots] at X' e1 e2 h1 h2 h3 st
    subst h1; subst h2; subst h3
    exact Or.inl ⟨v, (T.setVm vm₁).calling g' mk As.toArray, t, U', L, hT, X', hL, e1, e2, hq, st⟩
  · dsimp only [Pt.U, Pt.locs, Pt.cells, Pt.slots] at X' e1 e2 h1 h2 h3 st hcl
    subst h1; subst h2; subst h3
    exact Or.inr ⟨q, (T.setVm vm₁).calling g' mk As.toArray, t, U', L, E, ce, hT, X', hL, e1, e2, hq, hce, hcv, vx_cls hW₁ hcl, st⟩
end Runs
section Rows
variable {p : Program} {l : Launch} {e : Env} {R : Room} {s : State} {m : MethodId} {args : Array Value} {below : List Frame} {meth : Method} {c : Code} {H : Heap} {locs : List Loc} {cells slots : Nat} {Q : State → Prop}
variable {mc ms : Nat} {free : Addr → Prop} {A0 A1 : Nat → Prop} {H0 : Heap} {a : Array Value} {pc : Nat} {ls : Array Slot} {st0 rest : List Value}
theorem vx_keep {st₀ t T' : State} {L : List Loc} (h0 : st₀.heap = H) (e1 : T'.heap = t.heap) (hS : va_S A0 H0 H locs) (hA : ∀ q, q < H.size → A1 q → A0 q) (hf : ∀ q, free q → A0 q) (hL : ∀ q ∈ L, free q.base) (hF : va_F A1 st₀ t) :
    H.size ≤ T'.heap.size ∧ (∀ q : Nat, q < H.size → ¬ A1 q → T'.heap[q]? = H[q]?) ∧ va_S A0 H0 T'.heap (locs ++ L) := by
  obtain ⟨hz, hk⟩ := hF
  rw [h0] at hz hk
  exact ⟨by rw [e1]; exact hz, fun q h1 h2 => by rw [e1]; exact hk q h1 h2,
    ⟨Nat.le_trans hS.1 (by rw [e1]; exact hz), fun q h1 h2 => by rw [e1, hk q (Nat.lt_of_lt_of_le h1 hS.1) (fun z => h2 (hA q (Nat.lt_of_lt_of_le h1 hS.1) z))]; exact hS.2.1 q h1 h2, fun q hq => by
      rcases List.mem_append.mp hq with h | h
      · exact hS.2.2 q h
      · exact hf _ (hL q h)⟩⟩
theorem vx_calli {S SX : Type} {post : Int32 → S → Prop} {px : SX → Prop} {B : S → State → Prop} {BX : String → SX → State → Prop} {AX : Nat → Prop} (hr : vx_Run p l e R s m args below meth c H locs cells slots mc ms (F0 m pc ls st0) rest (va_Qi post B A1 a) (vx_X px BX AX) free) (hS : va_S A0 H0 H locs) (hA : ∀ q, q < H.size → A1 q → A0 q) (hf : ∀ q, free q → A0 q) (hAX : ∀ q, q < H.size → AX q → A0 q)
    (kx : ∀ (E : String) (ce : Cell) (q9 : Addr) (u : SX) (t : State) (H1 : Heap) (locs1 : List Loc), t.heap = H1 → s.vm.Alike t.vm → px u → BX E u t → H.size ≤ H1.size → (∀ q : Nat, q < H.size → ¬ AX q → H1[q]? = H[q]?) → va_S A0 H0 H1 locs1 → H1[q9]? = some ce → ce.vm = .none → s.vm.findClass E = some ce.cls → vx_W p l e R s m args below meth c H1 locs1 (cells + mc) (slots + ms) Q (F0 m pc ls rest) q9)
    (kk : ∀ (r : Int32) (u : S) (t : State) (H1 : Heap) (locs1 : List Loc), t.heap = H1 → s.vm.Alike t.vm → post r u → B u t → H.size ≤ H1.size → (∀ q : Nat, q < H.size → ¬ A1 q → H1[q]? = H[q]?) → va_S A0 H0 H1 locs1 → W p l e R s m args below meth c H1 locs1 (cells + mc) (slots + ms) Q (F0 m (pc + 3) ls (.int r :: rest))) : W p l e R s m args below meth c H locs cells slots Q (F0 m pc ls st0) := by
  intro T hT X
  rcases hr T hT X with ⟨v, st₀, t, T', L, h0, X', hL, e1, e2, ⟨⟨r, u, hv, hp, hb⟩, hF⟩, st⟩ | ⟨q, st₀, t, T', L, E, ce, h0, X', hL, e1, e2, ⟨u, hp, hb, hF⟩, hce, hcv, hcl, st⟩
  · cases hv
    obtain ⟨k1, k2, k3⟩ := vx_keep h0 e1 hS hA hf hL hF
    obtain ⟨t2, a1, b1⟩ := kk r u t T'.heap (locs ++ L) e1.symm (by rw [← e2]; exact X'.warmed.alike) hp hb k1 k2 k3 T' rfl X'
    exact ⟨t2, st t2 a1, b1⟩
  · obtain ⟨k1, k2, k3⟩ := vx_keep h0 e1 hS hAX hf hL hF
    obtain ⟨t2, a1, b1⟩ := kx E ce q u t T'.heap (locs ++ L) e1.symm (by rw [← e2]; exact X'.warmed.alike) hp hb k1 k2 k3 (by rw [e1]; exact hce) hcv hcl T' rfl X'
    exact ⟨t2, st.trans a1, b1⟩
theorem vx_calll {S SX : Type} {post : Int64 → S → Prop} {px : SX → Prop} {B : S → State → Prop} {BX : String → SX → State → Prop} {AX : Nat → Prop} (hr : vx_Run p l e R s m args below meth c H locs cells slots mc ms (F0 m pc ls st0) rest (va_Ql post B A1 a) (vx_X px BX AX) free) (hS : va_S A0 H0 H locs) (hA : ∀ q, q < H.size → A1 q → A0 q) (hf : ∀ q, free q → A0 q) (hAX : ∀ q, q < H.size → AX q → A0 q)
    (kx : ∀ (E : String) (ce : Cell) (q9 : Addr) (u : SX) (t : State) (H1 : Heap) (locs1 : List Loc), t.heap = H1 → s.vm.Alike t.vm → px u → BX E u t → H.size ≤ H1.size → (∀ q : Nat, q < H.size → ¬ AX q → H1[q]? = H[q]?) → va_S A0 H0 H1 locs1 → H1[q9]? = some ce → ce.vm = .none → s.vm.findClass E = some ce.cls → vx_W p l e R s m args below meth c H1 locs1 (cells + mc) (slots + ms) Q (F0 m pc ls rest) q9)
    (kk : ∀ (r : Int64) (u : S) (t : State) (H1 : Heap) (locs1 : List Loc), t.heap = H1 → s.vm.Alike t.vm → post r u → B u t → H.size ≤ H1.size → (∀ q : Nat, q < H.size → ¬ A1 q → H1[q]? = H[q]?) → va_S A0 H0 H1 locs1 → W p l e R s m args below meth c H1 locs1 (cells + mc) (slots + ms) Q (F0 m (pc + 3) ls (.long r :: rest))) : W p l e R s m args below meth c H locs cells slots Q (F0 m pc ls st0) := by
  intro T hT X
  rcases hr T hT X with ⟨v, st₀, t, T', L, h0, X', hL, e1, e2, ⟨⟨r, u, hv, hp, hb⟩, hF⟩, st⟩ | ⟨q, st₀, t, T', L, E, ce, h0, X', hL, e1, e2, ⟨u, hp, hb, hF⟩, hce, hcv, hcl, st⟩
  · cases hv
    obtain ⟨k1, k2, k3⟩ := vx_keep h0 e1 hS hA hf hL hF
    obtain ⟨t2, a1, b1⟩ := kk r u t T'.heap (locs ++ L) e1.symm (by rw [← e2]; exact X'.warmed.alike) hp hb k1 k2 k3 T' rfl X'
    exact ⟨t2, st t2 a1, b1⟩
  · obtain ⟨k1, k2, k3⟩ := vx_keep h0 e1 hS hAX hf hL hF
    obtain ⟨t2, a1, b1⟩ := kx E ce q u t T'.heap (locs ++ L) e1.symm (by rw [← e2]; exact X'.warmed.alike) hp hb k1 k2 k3 (by rw [e1]; exact hce) hcv hcl T' rfl X'
    exact ⟨t2, st.trans a1, b1⟩
theorem vx_callf {S SX : Type} {post : UInt32 → S → Prop} {px : SX → Prop} {B : S → State → Prop} {BX : String → SX → State → Prop} {AX : Nat → Prop} (hr : vx_Run p l e R s m args below meth c H locs cells slots mc ms (F0 m pc ls st0) rest (va_Qf post B A1 a) (vx_X px BX AX) free) (hS : va_S A0 H0 H locs) (hA : ∀ q, q < H.size → A1 q → A0 q) (hf : ∀ q, free q → A0 q) (hAX : ∀ q, q < H.size → AX q → A0 q)
    (kx : ∀ (E : String) (ce : Cell) (q9 : Addr) (u : SX) (t : State) (H1 : Heap) (locs1 : List Loc), t.heap = H1 → s.vm.Alike t.vm → px u → BX E u t → H.size ≤ H1.size → (∀ q : Nat, q < H.size → ¬ AX q → H1[q]? = H[q]?) → va_S A0 H0 H1 locs1 → H1[q9]? = some ce → ce.vm = .none → s.vm.findClass E = some ce.cls → vx_W p l e R s m args below meth c H1 locs1 (cells + mc) (slots + ms) Q (F0 m pc ls rest) q9)
    (kk : ∀ (r : UInt32) (u : S) (t : State) (H1 : Heap) (locs1 : List Loc), t.heap = H1 → s.vm.Alike t.vm → post r u → B u t → H.size ≤ H1.size → (∀ q : Nat, q < H.size → ¬ A1 q → H1[q]? = H[q]?) → va_S A0 H0 H1 locs1 → W p l e R s m args below meth c H1 locs1 (cells + mc) (slots + ms) Q (F0 m (pc + 3) ls (.float r :: rest))) : W p l e R s m args below meth c H locs cells slots Q (F0 m pc ls st0) := by
  intro T hT X
  rcases hr T hT X with ⟨v, st₀, t, T', L, h0, X', hL, e1, e2, ⟨⟨r, u, hv, hp, hb⟩, hF⟩, st⟩ | ⟨q, st₀, t, T', L, E, ce, h0, X', hL, e1, e2, ⟨u, hp, hb, hF⟩, hce, hcv, hcl, st⟩
  · cases hv
    obtain ⟨k1, k2, k3⟩ := vx_keep h0 e1 hS hA hf hL hF
    obtain ⟨t2, a1, b1⟩ := kk r u t T'.heap (locs ++ L) e1.symm (by rw [← e2]; exact X'.warmed.alike) hp hb k1 k2 k3 T' rfl X'
    exact ⟨t2, st t2 a1, b1⟩
  · obtain ⟨k1, k2, k3⟩ := vx_keep h0 e1 hS hAX hf hL hF
    obtain ⟨t2, a1, b1⟩ := kx E ce q u t T'.heap (locs ++ L) e1.symm (by rw [← e2]; exact X'.warmed.alike) hp hb k1 k2 k3 (by rw [e1]; exact hce) hcv hcl T' rfl X'
    exact ⟨t2, st.trans a1, b1⟩
theorem vx_calld {S SX : Type} {post : UInt64 → S → Prop} {px : SX → Prop} {B : S → State → Prop} {BX : String → SX → State → Prop} {AX : Nat → Prop} (hr : vx_Run p l e R s m args below meth c H locs cells slots mc ms (F0 m pc ls st0) rest (va_Qd post B A1 a) (vx_X px BX AX) free) (hS : va_S A0 H0 H locs) (hA : ∀ q, q < H.size → A1 q → A0 q) (hf : ∀ q, free q → A0 q) (hAX : ∀ q, q < H.size → AX q → A0 q)
    (kx : ∀ (E : String) (ce : Cell) (q9 : Addr) (u : SX) (t : State) (H1 : Heap) (locs1 : List Loc), t.heap = H1 → s.vm.Alike t.vm → px u → BX E u t → H.size ≤ H1.size → (∀ q : Nat, q < H.size → ¬ AX q → H1[q]? = H[q]?) → va_S A0 H0 H1 locs1 → H1[q9]? = some ce → ce.vm = .none → s.vm.findClass E = some ce.cls → vx_W p l e R s m args below meth c H1 locs1 (cells + mc) (slots + ms) Q (F0 m pc ls rest) q9)
    (kk : ∀ (r : UInt64) (u : S) (t : State) (H1 : Heap) (locs1 : List Loc), t.heap = H1 → s.vm.Alike t.vm → post r u → B u t → H.size ≤ H1.size → (∀ q : Nat, q < H.size → ¬ A1 q → H1[q]? = H[q]?) → va_S A0 H0 H1 locs1 → W p l e R s m args below meth c H1 locs1 (cells + mc) (slots + ms) Q (F0 m (pc + 3) ls (.double r :: rest))) : W p l e R s m args below meth c H locs cells slots Q (F0 m pc ls st0) := by
  intro T hT X
  rcases hr T hT X with ⟨v, st₀, t, T', L, h0, X', hL, e1, e2, ⟨⟨r, u, hv, hp, hb⟩, hF⟩, st⟩ | ⟨q, st₀, t, T', L, E, ce, h0, X', hL, e1, e2, ⟨u, hp, hb, hF⟩, hce, hcv, hcl, st⟩
  · cases hv
    obtain ⟨k1, k2, k3⟩ := vx_keep h0 e1 hS hA hf hL hF
    obtain ⟨t2, a1, b1⟩ := kk r u t T'.heap (locs ++ L) e1.symm (by rw [← e2]; exact X'.warmed.alike) hp hb k1 k2 k3 T' rfl X'
    exact ⟨t2, st t2 a1, b1⟩
  · obtain ⟨k1, k2, k3⟩ := vx_keep h0 e1 hS hAX hf hL hF
    obtain ⟨t2, a1, b1⟩ := kx E ce q u t T'.heap (locs ++ L) e1.symm (by rw [← e2]; exact X'.warmed.alike) hp hb k1 k2 k3 (by rw [e1]; exact hce) hcv hcl T' rfl X'
    exact ⟨t2, st.trans a1, b1⟩
theorem vx_callv {S SX : Type} {post : S → Prop} {px : SX → Prop} {B : S → State → Prop} {BX : String → SX → State → Prop} {AX : Nat → Prop} (hr : vx_Run p l e R s m args below meth c H locs cells slots mc ms (F0 m pc ls st0) rest (va_Qv post B A1 a) (vx_X px BX AX) free) (hS : va_S A0 H0 H locs) (hA : ∀ q, q < H.size → A1 q → A0 q) (hf : ∀ q, free q → A0 q) (hAX : ∀ q, q < H.size → AX q → A0 q)
    (kx : ∀ (E : String) (ce : Cell) (q9 : Addr) (u : SX) (t : State) (H1 : Heap) (locs1 : List Loc), t.heap = H1 → s.vm.Alike t.vm → px u → BX E u t → H.size ≤ H1.size → (∀ q : Nat, q < H.size → ¬ AX q → H1[q]? = H[q]?) → va_S A0 H0 H1 locs1 → H1[q9]? = some ce → ce.vm = .none → s.vm.findClass E = some ce.cls → vx_W p l e R s m args below meth c H1 locs1 (cells + mc) (slots + ms) Q (F0 m pc ls rest) q9)
    (kk : ∀ (u : S) (t : State) (H1 : Heap) (locs1 : List Loc), t.heap = H1 → s.vm.Alike t.vm → post u → B u t → H.size ≤ H1.size → (∀ q : Nat, q < H.size → ¬ A1 q → H1[q]? = H[q]?) → va_S A0 H0 H1 locs1 → W p l e R s m args below meth c H1 locs1 (cells + mc) (slots + ms) Q (F0 m (pc + 3) ls (rest))) : W p l e R s m args below meth c H locs cells slots Q (F0 m pc ls st0) := by
  intro T hT X
  rcases hr T hT X with ⟨v, st₀, t, T', L, h0, X', hL, e1, e2, ⟨⟨u, hv, hp, hb⟩, hF⟩, st⟩ | ⟨q, st₀, t, T', L, E, ce, h0, X', hL, e1, e2, ⟨u, hp, hb, hF⟩, hce, hcv, hcl, st⟩
  · cases hv
    obtain ⟨k1, k2, k3⟩ := vx_keep h0 e1 hS hA hf hL hF
    obtain ⟨t2, a1, b1⟩ := kk u t T'.heap (locs ++ L) e1.symm (by rw [← e2]; exact X'.warmed.alike) hp hb k1 k2 k3 T' rfl X'
    exact ⟨t2, st t2 a1, b1⟩
  · obtain ⟨k1, k2, k3⟩ := vx_keep h0 e1 hS hAX hf hL hF
    obtain ⟨t2, a1, b1⟩ := kx E ce q u t T'.heap (locs ++ L) e1.symm (by rw [← e2]; exact X'.warmed.alike) hp hb k1 k2 k3 (by rw [e1]; exact hce) hcv hcl T' rfl X'
    exact ⟨t2, st.trans a1, b1⟩
/-- caught by the row x of this method's table; the rows ahead don't take it -/
theorem vx_catch {own name : String} {E : String} {ce : Cell} {q : Addr} (hown : s.vm.findClass own = some m.cls) (pre : List ExceptionTableEntry) (x : ExceptionTableEntry) (suf : List ExceptionTableEntry) (hsplit : c.exceptionTable.toList = pre ++ x :: suf)
    (hpass : ∀ z ∈ pre, covers z pc = false ∨ (z.catchType ≠ 0 ∧ ∃ nm : String, (Cond.classLink own z.catchType nm).before args s = true ∧ va_Nc E nm s)) (hx : covers x pc = true) (h0 : x.catchType ≠ 0)
    (hlink : (Cond.classLink own x.catchType name).before args s = true) (hcast : (Cond.castable E name).before args s = true) (hcell : H[q]? = some ce) (hv : ce.vm = .none) (hcl : s.vm.findClass E = some ce.cls)
    (kk : W p l e R s m args below meth c H locs cells slots Q (F0 m x.handlerPc ls [.ref q])) : vx_W p l e R s m args below meth c H locs cells slots Q (F0 m pc ls rest) q := by
  intro T hT X
  have hpl : e.platform.magicAccessors = ({} : Platform).magicAccessors := by rw [X.admits.platform]
  obtain ⟨c3, c4, hc3, hc4, hasg⟩ := Cond.castable_spec hcast
  cases Option.some.inj (hc3.symm.trans hcl)
  obtain ⟨c5, hc5, hcl5⟩ := Cond.classLink_spec hown hlink e.platform hpl
  cases Option.some.inj (hc4.symm.trans hc5)
  obtain ⟨vm', X', st⟩ := X.thenCaughtThrough q (g := F0 m pc ls rest) rfl (Steps.refl _) (by rw [hT]; exact hcell) (by rw [hv]; rfl) (by obtain ⟨k9, h9, -⟩ := Vm.findClass_spec hcl; exact ⟨k9, h9⟩) pre x suf hsplit
    (fun z hz => by
      rcases hpass z hz with h | ⟨hz0, nm, hl1, hn1⟩
      · exact Or.inl h
      · obtain ⟨c6, hc6, hcl6⟩ := Cond.classLink_spec hown hl1 e.platform hpl
        obtain ⟨a8, b8, h1, h2, h3⟩ := hn1
        cases Option.some.inj (h1.symm.trans hcl)
        cases Option.some.inj (h2.symm.trans hc6)
        exact Or.inr ⟨hz0, _, hcl6, h3⟩) hx (Or.inr ⟨h0, c4, hcl5, hasg⟩)
  obtain ⟨t, a1, b1⟩ := kk (T.setVm vm') hT X'
  exact ⟨t, st.trans a1, b1⟩
end Rows
section Ends
variable {p : Program} {l : Launch} {e : Env} {R : Room} {s : State} {m : MethodId} {args : Array Value} {below : List Frame} {meth : Method} {c : Code} {H : Heap} {locs : List Loc} {cells slots : Nat} {Q : State → Prop}
variable {mc ms : Nat} {free : Addr → Prop} {A0 A1 : Nat → Prop} {H0 : Heap} {a : Array Value} {ls : Array Slot} {st0 rest : List Value}
variable {Qc : Array Value → State → Outcome → State → Prop} {XC : String → State → State → Prop}
/-- what a body that may throw owes at its end -/
def vx_MQ (below : List Frame) (Qc : Array Value → State → Outcome → State → Prop) (XC : String → State → State → Prop) (a : Array Value) (s : State) (mc ms : Nat) (free : Addr → Prop) : State → Prop := fun t =>
  ∃ o, t.status = .running ∧ Ended t below o ∧ vx_Q Qc XC mc ms free a s o t
theorem vx_ret {g : JFrame} {mc ms : Nat} (k : W p l e R s m args below meth c H locs cells slots (MQ below Qc args s mc ms free) g) : W p l e R s m args below meth c H locs cells slots (vx_MQ below Qc XC args s mc ms free) g := by
  intro T hT X
  obtain ⟨t, a1, o, b1, b2, b3, b4⟩ := k T hT X
  exact ⟨t, a1, o, b1, b2, Or.inl ⟨b3, b4⟩⟩
/-- not caught here: it goes on to the caller -/
theorem vx_widen {g : JFrame} {q : Addr} {k n : Nat} (h1 : cells ≤ k) (h2 : slots ≤ n) (kk : vx_W p l e R s m args below meth c H locs k n Q g q) : vx_W p l e R s m args below meth c H locs cells slots Q g q := fun T hT X => kk T hT (stand_widen X h1 h2)
theorem vx_out {pc : Nat} {E : String} {ce : Cell} {q : Addr} {mc ms : Nat} (hout : ∀ x ∈ c.exceptionTable.toList, covers x pc = false) (hlocks : meth.locks = false) (hcell : H[q]? = some ce) (hv : ce.vm = .none) (hcl : s.vm.findClass E = some ce.cls)
    (hx : ∀ t : State, t.heap = H → s.vm.Alike t.vm → XC E s t) (hf : ∀ z ∈ locs, free z.base) (hc : cells ≤ mc) (hs : slots ≤ ms) :
    vx_W p l e R s m args below meth c H locs cells slots (vx_MQ below Qc XC args s mc ms free) (F0 m pc ls rest) q := by
  intro T hT X
  obtain ⟨st1, hrun, hend, hW, hsm⟩ := X.leaveThrown q (g := F0 m pc ls rest) rfl rfl rfl hout hlocks
  have hcell9 : (T.setFrames (.throwing q :: below)).heap[q]? = some ce := by
    show T.heap[q]? = some ce
    rw [hT]; exact hcell
  exact ⟨_, st1, .threw q, hrun, hend, Or.inr ⟨q, rfl, E, ce, locs, hx _ hT hW.alike, hcell9, hv, hcl, hW, hsm.mono hc hs, hf⟩⟩
theorem vx_frame {U : State} {k n : Nat} (h : s.sameButNew ({ U with vm := s.vm } : State) locs k n) : s.heap.size ≤ U.heap.size ∧ ∀ q : Nat, q < s.heap.size → (∀ z ∈ locs, z.base ≠ q) → U.heap[q]? = s.heap[q]? := by
  obtain ⟨-, h2, -, -, -, h6⟩ := h
  refine ⟨h2, fun q hq hz => ?_⟩
  obtain ⟨c9, e1, e2, e3, e4⟩ := h6 q _ (Array.getElem?_eq_getElem hq)
  have hs : c9.slots = (s.heap[q]).slots := Array.ext_getElem? fun i => e4 i fun hm => hz _ hm rfl
  have h9 : c9 = s.heap[q] := by
    rw [hs] at e2
    exact e2
  have e5 : U.heap[q]? = some c9 := e1
  rw [e5, h9, Array.getElem?_eq_getElem hq]
/-- the words of a throw but the four that speak of the heap -/
def vx_no (w : Cond) : Bool := decide (w ≠ .isRef (.static Bundle.tN "UNASSIGNED_STACK" Bundle.steD)) && decide (w ≠ .isRef (.static Bundle.tN "SUPPRESSED_SENTINEL" Bundle.listD)) && decide (w ≠ .laysStatic Bundle.tN "UNASSIGNED_STACK" Bundle.steD) && decide (w ≠ .laysStatic Bundle.tN "SUPPRESSED_SENTINEL" Bundle.listD)
def vx_at0 (own : String) (ic : Nat) (X : String) (names : List String) : List Cond := (Bundle.ownAtoms0 own ic X names).filter vx_no
def vx_atS (own : String) (ic : Nat) (X : String) (names : List String) : List Cond := (Bundle.ownAtoms own ic X names).filter vx_no
/-- a word that the tables alone decide, or a good one -/
def vx_ot (w : Cond) : Bool := w.onTables || goodWord w
theorem vx_ot_at {args a' : Array Value} {s U : State} {w : Cond} (hW : s.WarmedH U.vm) (hvm : s.vm = U.vm) (hg : vx_ot w = true) (h : w.before args s = true) : w.before a' U = true := by
  simp only [vx_ot, Bool.or_eq_true] at hg
  rcases hg with hg | hg
  · exact va_tabs hg hvm h
  · exact word_at hW (good_of_word hg) h
/-- a list's words: the good ones out of the method's own list, the others by premises of their own -/
theorem vx_hat {args : Array Value} {s : State} {L B : List Cond} (h1 : ∀ w ∈ L.filter goodWord, w.before args s = true) (h2 : ∀ w ∈ L.filter (fun w => !goodWord w), w ∈ B) (h3 : ∀ w ∈ B, w.before args s = true) : ∀ w ∈ L, w.before args s = true := by
  intro w hw
  by_cases g : goodWord w = true
  · exact h1 w (List.mem_filter.mpr ⟨hw, g⟩)
  · refine h3 w (h2 w (List.mem_filter.mpr ⟨hw, ?_⟩))
    show (!goodWord w) = true
    cases hgw : goodWord w
    · rfl
    · exact absurd hgw g
theorem vx_c {args : Array Value} {s : State} {w : Cond} {B : List Cond} (h : w.before args s = true) (t : ∀ w ∈ B, w.before args s = true) : ∀ w' ∈ w :: B, w'.before args s = true := fun w' h' => (List.mem_cons.mp h').elim (fun e => by rw [e]; exact h) (t w')
theorem vx_n {args : Array Value} {s : State} : ∀ w ∈ ([] : List Cond), w.before args s = true := fun _ h => nomatch h
theorem vx_own {args : Array Value} {s : State} {L : List Cond} (h1 : ∀ w ∈ L.filter vx_no, w.before args s = true)
    (hU : (Cond.isRef (.static Bundle.tN "UNASSIGNED_STACK" Bundle.steD)).before args s = true) (hN : (Cond.isRef (.static Bundle.tN "SUPPRESSED_SENTINEL" Bundle.listD)).before args s = true)
    (lU : (Cond.laysStatic Bundle.tN "UNASSIGNED_STACK" Bundle.steD).before args s = true) (lN : (Cond.laysStatic Bundle.tN "SUPPRESSED_SENTINEL" Bundle.listD).before args s = true) : ∀ w ∈ L, w.before args s = true := by
  intro w hw
  by_cases e1 : w = .isRef (.static Bundle.tN "UNASSIGNED_STACK" Bundle.steD)
  · rw [e1]; exact hU
  · by_cases e2 : w = .isRef (.static Bundle.tN "SUPPRESSED_SENTINEL" Bundle.listD)
    · rw [e2]; exact hN
    · by_cases e3 : w = .laysStatic Bundle.tN "UNASSIGNED_STACK" Bundle.steD
      · rw [e3]; exact lU
      · by_cases e4 : w = .laysStatic Bundle.tN "SUPPRESSED_SENTINEL" Bundle.listD
        · rw [e4]; exact lN
        · exact h1 w (List.mem_filter.mpr ⟨hw, by unfold vx_no; rw [decide_eq_true e1, decide_eq_true e2, decide_eq_true e3, decide_eq_true e4]; rfl⟩)
/-- where a static field lies, its class's statics cell in H -/
def vx_L (C n d : String) (A : Nat → Prop) (U : State) (H : Heap) : Prop := ∃ (c : ClassId) (k : Class) (i : Nat) (f : Field) (a : Nat) (cell : Cell), U.vm.findClass C = some c ∧ U.fieldFound? C n d = some (c, k, i, f) ∧ f.isStatic = true ∧ k.statics = some a ∧ H[a]? = some cell ∧ cell.vm.isStatics = true ∧ cell.cls = c ∧ f.slot < cell.slots.size ∧ k.staticTypes[f.slot]? = some f.type ∧ ¬ A a
theorem vx_L.moved {C n d : String} {A : Nat → Prop} {u U : State} {H : Heap} (hvm : u.vm.Alike U.vm) (h : vx_L C n d A u H) : vx_L C n d A U H := by
  obtain ⟨c, k, i, f, a, cell, h1, h2, h3, h4, h5, h6, h7, h8, h9, h10⟩ := h
  obtain ⟨k', hi', he⟩ := State.fieldFound?_setVm hvm h2
  exact ⟨c, k', i, f, a, cell, by rw [hvm.findClass]; exact h1, hi', h3, by rw [he]; exact h4, h5, h6, h7, h8, by rw [he]; exact h9, h10⟩
theorem vx_L.kept {C n d : String} {A : Nat → Prop} {U : State} {H H1 : Heap} (h : vx_L C n d A U H) (hq : ∀ a : Nat, a < H.size → ¬ A a → H1[a]? = H[a]?) : vx_L C n d A U H1 := by
  obtain ⟨c, k, i, f, a, cell, h1, h2, h3, h4, h5, h6, h7, h8, h9, h10⟩ := h
  exact ⟨c, k, i, f, a, cell, h1, h2, h3, h4, by rw [hq a (Array.getElem?_eq_some_iff.mp h5).1 h10]; exact h5, h6, h7, h8, h9, h10⟩
theorem vx_L.narrow {C n d : String} {A B : Nat → Prop} {U : State} {H : Heap} (h : vx_L C n d A U H) (hAB : ∀ q, B q → A q) : vx_L C n d B U H := by
  obtain ⟨c, k, i, f, a, cell, h1, h2, h3, h4, h5, h6, h7, h8, h9, h10⟩ := h
  exact ⟨c, k, i, f, a, cell, h1, h2, h3, h4, h5, h6, h7, h8, h9, fun z => h10 (hAB _ z)⟩
theorem vx_L.word {C n d : String} {A : Nat → Prop} {s : State} {args : Array Value} (h : vx_L C n d A s s.heap) : (Cond.laysStatic C n d).before args s = true := by
  obtain ⟨c, k, i, f, a, cell, h1, h2, h3, h4, h5, h6, h7, h8, h9, -⟩ := h
  show (Cond.laysStatic C n d).holds args s none s [] = true
  exact Cond.laysStatic_of h1 h2 h3 h4 h5 h6 h7 h8 h9
/-- .. and what it holds: null or some reference -/
def vx_Zq (C n d : String) (A : Nat → Prop) (U : State) (H : Heap) : Prop := va_Zq C n d A U H ∧ vx_L C n d A U H
theorem vx_Zq.moved {C n d : String} {A : Nat → Prop} {u U : State} {H : Heap} (hvm : u.vm.Alike U.vm) (h : vx_Zq C n d A u H) : vx_Zq C n d A U H := ⟨va_Zq.moved hvm h.1, vx_L.moved hvm h.2⟩
theorem vx_Zq.kept {C n d : String} {A : Nat → Prop} {U : State} {H H1 : Heap} (h : vx_Zq C n d A U H) (hq : ∀ a : Nat, a < H.size → ¬ A a → H1[a]? = H[a]?) : vx_Zq C n d A U H1 := ⟨va_Zq.kept h.1 hq, vx_L.kept h.2 hq⟩
theorem vx_Zq.narrow {C n d : String} {A B : Nat → Prop} {U : State} {H : Heap} (h : vx_Zq C n d A U H) (hAB : ∀ q, B q → A q) : vx_Zq C n d B U H := ⟨va_Zq.narrow h.1 hAB, vx_L.narrow h.2 hAB⟩
theorem vx_Zqof {args : Array Value} {s : State} {C n d : String} {A : Nat → Prop} (hl : (Cond.laysStatic C n d).before args s = true) (hini : (Cond.initialized C).before args s = true) (h : (Cond.isRef (.static C n d)).before args s = true) (hA : ∀ a : Nat, a < s.heap.size → ¬ A a) : vx_Zq C n d A s s.heap := by
  refine ⟨va_Zqof hl hini h hA, ?_⟩
  obtain ⟨c, k, i, f, a, cell, h1, h2, h3, h4, h5, h6, h7, h8, h9⟩ := Cond.laysStatic_spec hl
  exact ⟨c, k, i, f, a, cell, h1, h2, h3, h4, h5, h6, h7, h8, h9, hA a (Array.getElem?_eq_some_iff.mp h5).1⟩
theorem vx_isRef {C n d : String} {v : Value} {A : Nat → Prop} {s : State} {args : Array Value} (h : va_Z C n d v A s s.heap) (hv : v.isRef = true) : (Cond.isRef (.static C n d)).before args s = true := by
  obtain ⟨cf, kf, fi, f, a, cell, h1, h2, h3, h4, h5, h6, h7, -⟩ := h
  have he : (Term.static C n d).eval args s none [] s = some v := by
    simp [Term.eval, State.fieldNamed?, h1, h2, h4, h5, h6, h7]
  simp only [Cond.before, Cond.holds, Cond.value, he]
  cases v <;> simp_all [Value.isRef]
theorem vx_isRefq {C n d : String} {A : Nat → Prop} {s : State} {args : Array Value} (h : va_Zq C n d A s s.heap) : (Cond.isRef (.static C n d)).before args s = true := by
  rcases h with h | ⟨t, h⟩
  · exact vx_isRef h rfl
  · exact vx_isRef h rfl
/-- the same frame, seen from here: as if the method were called anew in this heap -/
theorem vx_rebase {T : State} (X : Stand p l e R s m args below meth c T locs cells slots) {R' : Room} (hf : R'.frames ≤ R.frames) (hl : R'.locals ≤ R.locals) (hc : cells + R'.cells ≤ R.cells) (hs : slots + R'.slots ≤ R.slots) :
    Stand p l e R' ((T.setVm s.vm).setFrames (.invoking m args :: below)) m args below meth c T [] 0 0 := by
  have htop : (T.setVm s.vm).topJava?.isSome := X.here.top
  have hF : ((T.setVm s.vm).setFrames (.invoking m args :: below)).frames = .invoking m args :: below := State.frames_setFrames _ (State.cur_lt_of_top htop)
  obtain ⟨g₀, hg0⟩ := Option.isSome_iff_exists.mp htop
  obtain ⟨r, hr⟩ := State.topJava?_eq_some.mp hg0
  have hl9 : e.platform.stackLimits (T.setVm s.vm).me = e.platform.stackLimits s.me := X.limits
  have hb9 : (T.setVm s.vm).me.stackBytes = s.me.stackBytes := X.bytes
  refine ⟨X.admits, X.cas, X.clock, hF, ?_, X.hears, X.method, X.code, X.here, X.tail, X.warmed, ?_, ?_, ?_⟩
  · have h := X.room
    have hU : ((T.setVm s.vm).setFrames (.invoking m args :: below)).localsInUse = s.localsInUse := by
      rw [State.localsInUse_invoking hF (meth := meth) (c := c) X.method X.code, State.localsInUse_invoking X.frames X.method X.code]
    simp only [State.hasRoom, Bool.and_eq_true, decide_eq_true_eq] at h ⊢
    obtain ⟨⟨⟨⟨h1, h2, h3, h4, h5, h6⟩, h7⟩, h8⟩, h9⟩ := h
    rw [X.frames, List.length_cons] at h2 h3
    have q1 := X.heapSize
    have q2 := X.used
    simp only [hF, hU, List.length_cons, State.stackLimits_setFrames, State.stackBytes_setFrames, hl9, hb9]
    refine ⟨⟨⟨⟨by omega, by omega, by omega, by omega, by omega, h6⟩, ?_⟩, ?_⟩, X.book⟩
    · show T.heap.size + R'.cells ≤ e.platform.maxCells
      omega
    · show T.slotsUsed + R'.slots ≤ e.platform.maxSlots
      omega
  · rw [State.stackLimits_setFrames]; rfl
  · rw [State.stackBytes_setFrames]; rfl
  · refine ⟨?_, Nat.le_refl _, Nat.le_refl _, ?_, ?_, fun a c9 h9 => ⟨c9, h9, rfl, rfl, fun _ _ => rfl⟩⟩
    · obtain ⟨t, ht, -⟩ := State.frames_cons hr
      show T.setVm s.vm = { ((T.setVm s.vm).setFrames (.invoking m args :: below)).setFrames (T.setVm s.vm).frames with heap := T.heap, slotsUsed := T.slotsUsed }
      rw [State.setFrames_setFrames, State.setFrames_self ht]
      rfl
    · show T.slotsUsed = T.slotsUsed + ((T.heap.toList.drop T.heap.size).map (·.slots.size)).sum
      rw [List.drop_eq_nil_of_le (Nat.le_of_eq Array.length_toList)]
      rfl
    · show ((T.heap.toList.drop T.heap.size).map (·.slots.size)).sum ≤ 0
      rw [List.drop_eq_nil_of_le (Nat.le_of_eq Array.length_toList)]
      exact Nat.le_refl _
/-- 'throw new E()': new; dup; invokespecial; athrow -/
theorem vx_throw0 {cc : ByteArray} {pc : Nat} (hexec : p.tables.exec = Jvm.exec) (hb : c.code = cc) (hl : l.stackTraces = false) {own cls : String} {names : List String} {ik ic mc ms : Nat} {A : Nat → Prop}
    (hown : s.vm.findClass own = some m.cls) (hcls : Bundle.fit cls = true) (hnames : ∀ n ∈ names, Bundle.fit n = true)
    (hk : (Cond.classLink own ik cls).before args s = true) (hini : (Cond.initialized cls).before args s = true) (hat : ∀ w ∈ vx_at0 own ic cls names, w.before args s = true)
    (hgood : ∀ w ∈ Cond.classLink own ik cls :: Cond.initialized cls :: vx_at0 own ic cls names, vx_ot w = true)
    (hU : vx_Zq Bundle.tN "UNASSIGNED_STACK" Bundle.steD A s s.heap) (hN : vx_Zq Bundle.tN "SUPPRESSED_SENTINEL" Bundle.listD A s s.heap) (hS : va_S A s.heap H locs) (hsize : ls.size = c.maxLocals)
    (d0 : decode cc pc = .ok (.new ik, 3)) (d3 : decode cc (pc + 3) = .ok (.dup, 1)) (d4 : decode cc (pc + 4) = .ok (.invokespecial ic, 3)) (d7 : decode cc (pc + 7) = .ok (.athrow, 1))
    (hout : ∀ x ∈ c.exceptionTable.toList, covers x (pc + 7) = false)
    (hRframes : names.length + 3 < R.frames) (hRlocals : (rest.map fun v => v.category).sum + (13 * (names.length + 1) + 42) ≤ R.locals) (hRcells : cells + 1 ≤ R.cells) (hRslots : slots + 6 ≤ R.slots) (hlocks : meth.locks = false)
    (hx : ∀ t : State, s.vm.Alike t.vm → H.size ≤ t.heap.size → (∀ q : Nat, q < H.size → t.heap[q]? = H[q]?) → XC cls s t)
    (hf : ∀ z ∈ locs, free z.base) (hc : cells + 1 ≤ mc) (hs : slots + 6 ≤ ms) :
    W p l e R s m args below meth c H locs cells slots (vx_MQ below Qc XC args s mc ms free) (F0 m pc ls rest) := by
  intro T hT X
  have htr : e.platform.stackTraces = false := (show e.platform.stackTraces = l.stackTraces by rw [X.admits.platform]).trans hl
  have Y := vx_rebase X (R' := { frames := R.frames, locals := R.locals, cells := 1, slots := 6 }) (Nat.le_refl _) (Nat.le_refl _) hRcells hRslots
  obtain ⟨s', hA⟩ : ∃ z, z = (T.setVm s.vm).setFrames (.invoking m args :: below) := ⟨_, rfl⟩
  rw [← hA] at Y
  have hvm : s'.vm = s.vm := by rw [hA]; rfl
  have hhp : s'.heap = H := by rw [hA]; exact hT
  have hW0 : s.WarmedH s'.vm := by rw [hvm]; exact State.WarmedH.refl s
  have hat' : ∀ w ∈ vx_at0 own ic cls names, w.before args s' = true := fun w hw => vx_ot_at hW0 hvm.symm (hgood w (List.mem_cons_of_mem _ (List.mem_cons_of_mem _ hw))) (hat w hw)
  have hk' : (Cond.classLink own ik cls).before args s' = true := vx_ot_at hW0 hvm.symm (hgood _ List.mem_cons_self) hk
  have hini' : (Cond.initialized cls).before args s' = true := vx_ot_at hW0 hvm.symm (hgood _ (List.mem_cons_of_mem _ List.mem_cons_self)) hini
  have hU' : vx_Zq Bundle.tN "UNASSIGNED_STACK" Bundle.steD A s' s'.heap := by rw [hhp]; exact vx_Zq.moved hW0.alike (hU.kept hS.2.1)
  have hN' : vx_Zq Bundle.tN "SUPPRESSED_SENTINEL" Bundle.listD A s' s'.heap := by rw [hhp]; exact vx_Zq.moved hW0.alike (hN.kept hS.2.1)
  have h : ∀ w ∈ Bundle.ownAtoms0 own ic cls names, w.before args s' = true := vx_own hat' (vx_isRefq hU'.1) (vx_isRefq hN'.1) hU'.2.word hN'.2.word
  have hown' : s'.vm.findClass own = some m.cls := by rw [hvm]; exact hown
  have hins : (Cond.instantiable cls 6).before args s' = true := h _ (by simp [Bundle.ownAtoms0])
  obtain ⟨vm₁, cX, kX, hfX, hkX, -, -, X₁, st1⟩ := Y.newCold hexec (own := own) (C := cls) (index := ik) (n := 6) hown' hk' hins hini'
    (g := F0 m pc ls rest) rfl (by rw [hb]; exact d0) (Nat.le_refl _) (Nat.le_refl _)
  generalize hT1 : (T.setVm vm₁).pushCell { cls := cX, slots := kX.instanceTypes.map defaultValue, vm := .none } = T1 at X₁ st1
  have hcat : (Value.ref T.heap.size).category = 1 := rfl
  have hcellA : T1.heap[T.heap.size]? = some (freshCell cX kX) := by rw [← hT1]; exact State.heap_pushCell_size _ _
  have d3' : decode c.code (pc + 3) = .ok (.dup, 1) := by rw [hb]; exact d3
  obtain ⟨U, hsteps, hrun, hend, hW, hsame, ce, hce, hO⟩ := X₁.ctorThrow0 hexec htr (own := own) (cls := cls) (names := names) (ic := ic) hown' hcls hnames h (fun x hx => nomatch hx) hfX hkX hcellA (by rw [hhp, hT]; exact Nat.le_refl _)
    (g := { method := m, pc := pc + 4, locals := ls, stack := .ref T.heap.size :: .ref T.heap.size :: rest, locked := none }) rfl hsize rfl rfl (rest := rest) rfl
    (by rw [hb]; exact d4) (by rw [hb]; exact d7) hout hRframes (by simp only [List.map_cons, List.sum_cons, hcat]; omega) hlocks
  obtain ⟨f1, f2⟩ := vx_frame hsame
  rw [hhp] at f1 f2
  have hWs : s.WarmedH U.vm := State.WarmedH.trans hW0 hW
  have hcl : s.vm.findClass cls = some ce.cls := by
    have h9 := hO.cls
    rw [hvm] at h9
    exact h9
  have hall : s.sameButNew ({ U with vm := s.vm } : State) locs mc ms := by
    subst hA
    obtain ⟨e1, e2⟩ := hsame
    rw [State.setFrames_setFrames] at e1
    have h2 : (T.setVm s.vm).sameButNew ({ U with vm := s.vm } : State) [] (0 + 1) (0 + 6) := ⟨e1, e2⟩
    have h3 := X.same.trans h2
    rw [List.append_nil] at h3
    exact h3.mono hc hs
  refine ⟨U, ?_, .threw T.heap.size, hrun, hend, Or.inr ⟨T.heap.size, rfl, cls, ce, locs, hx U hWs.alike f1 (fun q hq => f2 q hq (fun z hz => nomatch hz)), hce, hO.vm, hcl, hWs, hall, hf⟩⟩
  refine st1 _ ?_
  show Steps p.tables e below (T1.setTop { method := m, pc := pc + 3, locals := ls, stack := .ref T.heap.size :: rest, locked := none }) _
  jvm_step X₁.here [X₁.here.top, hexec, d3', Value.category]
  exact hsteps
/-- 'throw new E("text")': new; dup; ldc; invokespecial; athrow -/
theorem vx_throwS {cc : ByteArray} {pc : Nat} (hexec : p.tables.exec = Jvm.exec) (hb : c.code = cc) (hl : l.stackTraces = false) {own cls text : String} {names : List String} {ik is ic mc ms sa : Nat} {A : Nat → Prop}
    (hown : s.vm.findClass own = some m.cls) (hcls : Bundle.fit cls = true) (hnames : ∀ n ∈ names, Bundle.fit n = true)
    (hk : (Cond.classLink own ik cls).before args s = true) (hini : (Cond.initialized cls).before args s = true) (hstr : vk_R own is text sa s) (hat : ∀ w ∈ vx_atS own ic cls names, w.before args s = true)
    (hgood : ∀ w ∈ Cond.classLink own ik cls :: Cond.initialized cls :: vx_atS own ic cls names, vx_ot w = true)
    (hU : vx_Zq Bundle.tN "UNASSIGNED_STACK" Bundle.steD A s s.heap) (hN : vx_Zq Bundle.tN "SUPPRESSED_SENTINEL" Bundle.listD A s s.heap) (hS : va_S A s.heap H locs) (hsize : ls.size = c.maxLocals)
    (d0 : decode cc pc = .ok (.new ik, 3)) (d3 : decode cc (pc + 3) = .ok (.dup, 1)) (d4 : decode cc (pc + 4) = .ok (.ldc is, 2)) (d6 : decode cc (pc + 6) = .ok (.invokespecial ic, 3)) (d9 : decode cc (pc + 9) = .ok (.athrow, 1))
    (hout : ∀ x ∈ c.exceptionTable.toList, covers x (pc + 9) = false)
    (hRframes : names.length + 3 < R.frames) (hRlocals : (rest.map fun v => v.category).sum + (13 * (names.length + 1) + 43) ≤ R.locals) (hRcells : cells + 1 ≤ R.cells) (hRslots : slots + 6 ≤ R.slots) (hlocks : meth.locks = false)
    (hx : ∀ t : State, s.vm.Alike t.vm → H.size ≤ t.heap.size → (∀ q : Nat, q < H.size → t.heap[q]? = H[q]?) → XC cls s t)
    (hf : ∀ z ∈ locs, free z.base) (hc : cells + 1 ≤ mc) (hs : slots + 6 ≤ ms) :
    W p l e R s m args below meth c H locs cells slots (vx_MQ below Qc XC args s mc ms free) (F0 m pc ls rest) := by
  intro T hT X
  have htr : e.platform.stackTraces = false := (show e.platform.stackTraces = l.stackTraces by rw [X.admits.platform]).trans hl
  have Y := vx_rebase X (R' := { frames := R.frames, locals := R.locals, cells := 1, slots := 6 }) (Nat.le_refl _) (Nat.le_refl _) hRcells hRslots
  obtain ⟨s', hA⟩ : ∃ z, z = (T.setVm s.vm).setFrames (.invoking m args :: below) := ⟨_, rfl⟩
  rw [← hA] at Y
  have hvm : s'.vm = s.vm := by rw [hA]; rfl
  have hhp : s'.heap = H := by rw [hA]; exact hT
  have hW0 : s.WarmedH s'.vm := by rw [hvm]; exact State.WarmedH.refl s
  have hat' : ∀ w ∈ vx_atS own ic cls names, w.before args s' = true := fun w hw => vx_ot_at hW0 hvm.symm (hgood w (List.mem_cons_of_mem _ (List.mem_cons_of_mem _ hw))) (hat w hw)
  have hk' : (Cond.classLink own ik cls).before args s' = true := vx_ot_at hW0 hvm.symm (hgood _ List.mem_cons_self) hk
  have hini' : (Cond.initialized cls).before args s' = true := vx_ot_at hW0 hvm.symm (hgood _ (List.mem_cons_of_mem _ List.mem_cons_self)) hini
  have hU' : vx_Zq Bundle.tN "UNASSIGNED_STACK" Bundle.steD A s' s'.heap := by rw [hhp]; exact vx_Zq.moved hW0.alike (hU.kept hS.2.1)
  have hN' : vx_Zq Bundle.tN "SUPPRESSED_SENTINEL" Bundle.listD A s' s'.heap := by rw [hhp]; exact vx_Zq.moved hW0.alike (hN.kept hS.2.1)
  have h : ∀ w ∈ Bundle.ownAtoms own ic cls names, w.before args s' = true := vx_own hat' (vx_isRefq hU'.1) (vx_isRefq hN'.1) hU'.2.word hN'.2.word
  have hown' : s'.vm.findClass own = some m.cls := by rw [hvm]; exact hown
  have hins : (Cond.instantiable cls 6).before args s' = true := h _ (by simp [Bundle.ownAtoms])
  obtain ⟨vm₁, cX, kX, hfX, hkX, -, -, X₁, st1⟩ := Y.newCold hexec (own := own) (C := cls) (index := ik) (n := 6) hown' hk' hins hini'
    (g := F0 m pc ls rest) rfl (by rw [hb]; exact d0) (Nat.le_refl _) (Nat.le_refl _)
  generalize hT1 : (T.setVm vm₁).pushCell { cls := cX, slots := kX.instanceTypes.map defaultValue, vm := .none } = T1 at X₁ st1
  have hcat : (Value.ref T.heap.size).category = 1 := rfl
  have hcellA : T1.heap[T.heap.size]? = some (freshCell cX kX) := by rw [← hT1]; exact State.heap_pushCell_size _ _
  have d3' : decode c.code (pc + 3) = .ok (.dup, 1) := by rw [hb]; exact d3
  have d4' : decode c.code (pc + 4) = .ok (.ldc is, 2) := by rw [hb]; exact d4
  have hstr' : vk_R own is text sa s' := vk_R.warm hW0 hstr
  obtain ⟨U, hsteps, hrun, hend, hW, hsame, ce, hce, hO⟩ := X₁.ctorThrowS hexec htr (own := own) (cls := cls) (names := names) (ic := ic) hown' hcls hnames h (fun x hx => nomatch hx) hfX hkX hcellA (by rw [hhp, hT]; exact Nat.le_refl _) (msg := .ref sa) rfl
    (g := { method := m, pc := pc + 6, locals := ls, stack := .ref sa :: .ref T.heap.size :: .ref T.heap.size :: rest, locked := none }) rfl hsize rfl rfl (rest := rest) rfl
    (by rw [hb]; exact d6) (by rw [hb]; exact d9) hout hRframes (by simp only [List.map_cons, List.sum_cons, hcat]; omega) hlocks
  obtain ⟨f1, f2⟩ := vx_frame hsame
  rw [hhp] at f1 f2
  have hWs : s.WarmedH U.vm := State.WarmedH.trans hW0 hW
  have hcl : s.vm.findClass cls = some ce.cls := by
    have h9 := hO.cls
    rw [hvm] at h9
    exact h9
  have hall : s.sameButNew ({ U with vm := s.vm } : State) locs mc ms := by
    subst hA
    obtain ⟨e1, e2⟩ := hsame
    rw [State.setFrames_setFrames] at e1
    have h2 : (T.setVm s.vm).sameButNew ({ U with vm := s.vm } : State) [] (0 + 1) (0 + 6) := ⟨e1, e2⟩
    have h3 := X.same.trans h2
    rw [List.append_nil] at h3
    exact h3.mono hc hs
  refine ⟨U, ?_, .threw T.heap.size, hrun, hend, Or.inr ⟨T.heap.size, rfl, cls, ce, locs, hx U hWs.alike f1 (fun q hq => f2 q hq (fun z hz => nomatch hz)), hce, hO.vm, hcl, hWs, hall, hf⟩⟩
  refine st1 _ ?_
  show Steps p.tables e below (T1.setTop { method := m, pc := pc + 3, locals := ls, stack := .ref T.heap.size :: rest, locked := none }) _
  jvm_step X₁.here [X₁.here.top, hexec, d3', Value.category]
  exact X₁.ldcString hexec (own := own) (text := text) (index := is) (a := sa) hown' hstr'.1 hstr'.2
    (g := { method := m, pc := pc + 4, locals := ls, stack := .ref T.heap.size :: .ref T.heap.size :: rest, locked := none }) rfl d4' _ hsteps
/-- 'throw new E("text")', the text by a wide index -/
theorem vx_throwSW {cc : ByteArray} {pc : Nat} (hexec : p.tables.exec = Jvm.exec) (hb : c.code = cc) (hl : l.stackTraces = false) {own cls text : String} {names : List String} {ik is ic mc ms sa : Nat} {A : Nat → Prop}
    (hown : s.vm.findClass own = some m.cls) (hcls : Bundle.fit cls = true) (hnames : ∀ n ∈ names, Bundle.fit n = true)
    (hk : (Cond.classLink own ik cls).before args s = true) (hini : (Cond.initialized cls).before args s = true) (hstr : vk_R own is text sa s) (hat : ∀ w ∈ vx_atS own ic cls names, w.before args s = true)
    (hgood : ∀ w ∈ Cond.classLink own ik cls :: Cond.initialized cls :: vx_atS own ic cls names, vx_ot w = true)
    (hU : vx_Zq Bundle.tN "UNASSIGNED_STACK" Bundle.steD A s s.heap) (hN : vx_Zq Bundle.tN "SUPPRESSED_SENTINEL" Bundle.listD A s s.heap) (hS : va_S A s.heap H locs) (hsize : ls.size = c.maxLocals)
    (d0 : decode cc pc = .ok (.new ik, 3)) (d3 : decode cc (pc + 3) = .ok (.dup, 1)) (d4 : decode cc (pc + 4) = .ok (.ldc_w is, 3)) (d7 : decode cc (pc + 7) = .ok (.invokespecial ic, 3)) (d10 : decode cc (pc + 10) = .ok (.athrow, 1))
    (hout : ∀ x ∈ c.exceptionTable.toList, covers x (pc + 10) = false)
    (hRframes : names.length + 3 < R.frames) (hRlocals : (rest.map fun v => v.category).sum + (13 * (names.length + 1) + 43) ≤ R.locals) (hRcells : cells + 1 ≤ R.cells) (hRslots : slots + 6 ≤ R.slots) (hlocks : meth.locks = false)
    (hx : ∀ t : State, s.vm.Alike t.vm → H.size ≤ t.heap.size → (∀ q : Nat, q < H.size → t.heap[q]? = H[q]?) → XC cls s t)
    (hf : ∀ z ∈ locs, free z.base) (hc : cells + 1 ≤ mc) (hs : slots + 6 ≤ ms) :
    W p l e R s m args below meth c H locs cells slots (vx_MQ below Qc XC args s mc ms free) (F0 m pc ls rest) := by
  intro T hT X
  have htr : e.platform.stackTraces = false := (show e.platform.stackTraces = l.stackTraces by rw [X.admits.platform]).trans hl
  have Y := vx_rebase X (R' := { frames := R.frames, locals := R.locals, cells := 1, slots := 6 }) (Nat.le_refl _) (Nat.le_refl _) hRcells hRslots
  obtain ⟨s', hA⟩ : ∃ z, z = (T.setVm s.vm).setFrames (.invoking m args :: below) := ⟨_, rfl⟩
  rw [← hA] at Y
  have hvm : s'.vm = s.vm := by rw [hA]; rfl
  have hhp : s'.heap = H := by rw [hA]; exact hT
  have hW0 : s.WarmedH s'.vm := by rw [hvm]; exact State.WarmedH.refl s
  have hat' : ∀ w ∈ vx_atS own ic cls names, w.before args s' = true := fun w hw => vx_ot_at hW0 hvm.symm (hgood w (List.mem_cons_of_mem _ (List.mem_cons_of_mem _ hw))) (hat w hw)
  have hk' : (Cond.classLink own ik cls).before args s' = true := vx_ot_at hW0 hvm.symm (hgood _ List.mem_cons_self) hk
  have hini' : (Cond.initialized cls).before args s' = true := vx_ot_at hW0 hvm.symm (hgood _ (List.mem_cons_of_mem _ List.mem_cons_self)) hini
  have hU' : vx_Zq Bundle.tN "UNASSIGNED_STACK" Bundle.steD A s' s'.heap := by rw [hhp]; exact vx_Zq.moved hW0.alike (hU.kept hS.2.1)
  have hN' : vx_Zq Bundle.tN "SUPPRESSED_SENTINEL" Bundle.listD A s' s'.heap := by rw [hhp]; exact vx_Zq.moved hW0.alike (hN.kept hS.2.1)
  have h : ∀ w ∈ Bundle.ownAtoms own ic cls names, w.before args s' = true := vx_own hat' (vx_isRefq hU'.1) (vx_isRefq hN'.1) hU'.2.word hN'.2.word
  have hown' : s'.vm.findClass own = some m.cls := by rw [hvm]; exact hown
  have hins : (Cond.instantiable cls 6).before args s' = true := h _ (by simp [Bundle.ownAtoms])
  obtain ⟨vm₁, cX, kX, hfX, hkX, -, -, X₁, st1⟩ := Y.newCold hexec (own := own) (C := cls) (index := ik) (n := 6) hown' hk' hins hini'
    (g := F0 m pc ls rest) rfl (by rw [hb]; exact d0) (Nat.le_refl _) (Nat.le_refl _)
  generalize hT1 : (T.setVm vm₁).pushCell { cls := cX, slots := kX.instanceTypes.map defaultValue, vm := .none } = T1 at X₁ st1
  have hcat : (Value.ref T.heap.size).category = 1 := rfl
  have hcellA : T1.heap[T.heap.size]? = some (freshCell cX kX) := by rw [← hT1]; exact State.heap_pushCell_size _ _
  have d3' : decode c.code (pc + 3) = .ok (.dup, 1) := by rw [hb]; exact d3
  have d4' : decode c.code (pc + 4) = .ok (.ldc_w is, 3) := by rw [hb]; exact d4
  have hstr' : vk_R own is text sa s' := vk_R.warm hW0 hstr
  obtain ⟨U, hsteps, hrun, hend, hW, hsame, ce, hce, hO⟩ := X₁.ctorThrowS hexec htr (own := own) (cls := cls) (names := names) (ic := ic) hown' hcls hnames h (fun x hx => nomatch hx) hfX hkX hcellA (by rw [hhp, hT]; exact Nat.le_refl _) (msg := .ref sa) rfl
    (g := { method := m, pc := pc + 7, locals := ls, stack := .ref sa :: .ref T.heap.size :: .ref T.heap.size :: rest, locked := none }) rfl hsize rfl rfl (rest := rest) rfl
    (by rw [hb]; exact d7) (by rw [hb]; exact d10) hout hRframes (by simp only [List.map_cons, List.sum_cons, hcat]; omega) hlocks
  obtain ⟨f1, f2⟩ := vx_frame hsame
  rw [hhp] at f1 f2
  have hWs : s.WarmedH U.vm := State.WarmedH.trans hW0 hW
  have hcl : s.vm.findClass cls = some ce.cls := by
    have h9 := hO.cls
    rw [hvm] at h9
    exact h9
  have hall : s.sameButNew ({ U with vm := s.vm } : State) locs mc ms := by
    subst hA
    obtain ⟨e1, e2⟩ := hsame
    rw [State.setFrames_setFrames] at e1
    have h2 : (T.setVm s.vm).sameButNew ({ U with vm := s.vm } : State) [] (0 + 1) (0 + 6) := ⟨e1, e2⟩
    have h3 := X.same.trans h2
    rw [List.append_nil] at h3
    exact h3.mono hc hs
  refine ⟨U, ?_, .threw T.heap.size, hrun, hend, Or.inr ⟨T.heap.size, rfl, cls, ce, locs, hx U hWs.alike f1 (fun q hq => f2 q hq (fun z hz => nomatch hz)), hce, hO.vm, hcl, hWs, hall, hf⟩⟩
  refine st1 _ ?_
  show Steps p.tables e below (T1.setTop { method := m, pc := pc + 3, locals := ls, stack := .ref T.heap.size :: rest, locked := none }) _
  jvm_step X₁.here [X₁.here.top, hexec, d3', Value.category]
  exact X₁.ldcStringW hexec (own := own) (text := text) (index := is) (a := sa) hown' hstr'.1 hstr'.2
    (g := { method := m, pc := pc + 4, locals := ls, stack := .ref T.heap.size :: .ref T.heap.size :: rest, locked := none }) rfl d4' _ hsteps
end Ends
section Bodies
variable {l : Launch}
theorem vx_ofW {y : MethodName} {ws ws' : List Cond} {rm : Room} {Pc : Array Value → State → Prop} {Qc : Array Value → State → Outcome → State → Prop} {XC : String → State → State → Prop} {mc ms : Nat} {free : Addr → Prop} {cc : ByteArray} {maxL : Nat} {ret : Option FieldType}
    (hy : plainName y.cls = true) (hw : ws = Cond.code y cc maxL ret :: ws')
    (body : ∀ p e s m args below meth c s₁, BodyLoose p l y (headSpec ws rm) cc maxL ret e s m args below meth c s₁ → c.maxLocals = maxL → (∀ x ∈ c.exceptionTable.toList, False) → Pc args s →
      W p l e (headSpec ws rm).room s m args below meth c s.heap [] 0 0 (vx_MQ below Qc XC args s mc ms free) (entryFrame m args maxL)) : vx_Met l y ws rm Pc Qc XC mc ms free := by
  refine MetFree.of_bodyS (code := cc) (maxLocals := maxL) (ret := ret) hy ?_ ?_
  · intro args s m h hn
    obtain ⟨meth, c, h1, h2, h3, h4, h5, h6, -, -⟩ := Cond.code_spec hn (atoms_spec (ws := ws) h _ (by rw [hw]; exact List.mem_cons_self))
    exact ⟨meth, c, h1, h2, h3, h4, h5, h6⟩
  · intro p e s m args below meth c s₁ B hml hP _
    have hh0 : s₁.heap = s.heap := by rw [B.state]; rfl
    have ht : ∀ x ∈ c.exceptionTable.toList, False := by
      obtain ⟨meth9, c9, h1, h2, -, -, -, -, h7, -⟩ := Cond.code_spec B.named (atoms_spec (ws := ws) B.pre _ (by rw [hw]; exact List.mem_cons_self))
      cases Option.some.inj (h1.symm.trans B.method)
      cases Option.some.inj (h2.symm.trans (Stand.of_body B).code)
      intro x hx
      rw [Array.isEmpty_iff.mp h7] at hx
      cases hx
    obtain ⟨t, a1, o, b1, b2, b3⟩ := body p e s m args below meth c s₁ B hml ht hP s₁ hh0 (Stand.of_body B)
    exact ⟨t, o, a1, b1, b2, b3⟩
/-- the table of a body with handlers -/
theorem vx_table {p : Program} {x y : MethodName} {S : Spec} {cc bytes : ByteArray} {maxL maxL' : Nat} {ret ret' : Option FieldType} {e : Env} {s s₁ : State} {m : MethodId} {args : Array Value} {below : List Frame} {meth : Method} {c : Code} {hh : List (Nat × Nat × Nat × Nat)}
    (B : BodyLoose p l y S cc maxL ret e s m args below meth c s₁) (h : (Cond.codeWith y bytes maxL' ret' hh).before args s = true) : c.exceptionTable.toList = tableOf hh := by
  obtain ⟨m9, meth9, c9, hn9, h1, h2, -, -, h6, -⟩ := Cond.codeWith_spec h
  cases Option.some.inj (hn9.symm.trans B.named)
  cases Option.some.inj (h1.symm.trans B.method)
  cases Option.some.inj (h2.symm.trans (Stand.of_body B).code)
  rw [← h6, table_eq]
end Bodies
end VXA
/-! ===== END ===== -/
/-! ===== BEGIN a static call of a method with an exception table ===== -/
section VXS
variable {p : Program} {l : Launch} {e : Env} {R : Room} {s : State} {m : MethodId} {args : Array Value} {below : List Frame} {meth : Method} {c : Code} {T : State} {H : Heap} {locs : List Loc} {cells slots : Nat}
abbrev vx_CSW (R : Room) (s : State) (args : Array Value) (own : String) (index : Nat) (y : MethodName) (bytes : ByteArray) (maxL : Nat) (ret : Option FieldType) (hh : List (Nat × Nat × Nat × Nat)) (ws : List Cond) (rm : Room) (mc ms n : Nat) : Prop :=
  (rm.cells = mc ∧ rm.slots = ms ∧ rm.frames + 1 ≤ R.frames ∧ 8 + (maxL + 11) + rm.locals ≤ R.locals ∧ (∀ w ∈ ws, ∀ (a' : Array Value) (U : State), s.WarmedH U.vm → w.before a' U = true) ∧ Cond.codeWith y bytes maxL ret hh ∈ ws) ∧
  (Cond.codeWith y bytes maxL ret hh).before args s = true ∧ (Cond.initialized y.cls).before args s = true ∧ (y.cls ≠ "java/lang/invoke/MethodHandle" ∧ y.cls ≠ "java/lang/invoke/VarHandle") ∧
  (∀ sig, parseMethodDescriptor y.desc = some sig → n = sig.parameters.length) ∧ (Cond.methodLink own index y).before args s = true ∧ (Cond.static y).before args s = true
theorem vx_cwSW {own : String} {index maxL mc ms : Nat} {y : MethodName} {bytes : ByteArray} {ret : Option FieldType} {hh : List (Nat × Nat × Nat × Nat)} {Ts ws ws' : List Cond} {rm : Room} (n : Nat) (ht : ∀ w ∈ Ts, w.before args s = true) (hT : GoodIn Ts (va_wsS own index y ws)) (hw : ws = Cond.codeWith y bytes maxL ret hh :: ws') (hrc : rm.cells = mc) (hrs : rm.slots = ms)
    (hd : y.cls ≠ "java/lang/invoke/MethodHandle" ∧ y.cls ≠ "java/lang/invoke/VarHandle" ∧ (parseMethodDescriptor y.desc).map (fun d => d.parameters.length) = some n) (hR : rm.frames + 1 ≤ R.frames ∧ 8 + (maxL + 11) + rm.locals ≤ R.locals) :
    vx_CSW R s args own index y bytes maxL ret hh ws rm mc ms n := by
  have ok : ∀ w ∈ va_wsS own index y ws, w.before args s = true := fun w h => ht w (hT w h).1
  have hG : GoodIn Ts ws := fun w h => hT w (by unfold va_wsS; exact List.mem_append_right _ h)
  have hc : Cond.codeWith y bytes maxL ret hh ∈ ws := by rw [hw]; exact List.mem_cons_self
  refine ⟨⟨hrc, hrs, hR.1, hR.2, pay_in ht hG, hc⟩, ht _ (hG _ hc).1, ok _ (by simp [va_wsS]), ⟨hd.1, hd.2.1⟩, fun sig h => ?_, ok _ (by simp [va_wsS]), ok _ (by simp [va_wsS])⟩
  have h2 := hd.2.2
  rw [h] at h2
  exact (Option.some.inj h2).symm
theorem vx_callSW (X : Stand p l e R s m args below meth c T locs cells slots) (hexec : p.tables.exec = Jvm.exec) {own : String} {index : Nat} {y : MethodName} {bytes : ByteArray} {maxL : Nat} {ret : Option FieldType} {hh : List (Nat × Nat × Nat × Nat)}
    (hown : s.vm.findClass own = some m.cls) (hlink : (Cond.methodLink own index y).before args s = true) (hstat : (Cond.static y).before args s = true) (hinit : (Cond.initialized y.cls).before args s = true)
    (hcode : (Cond.codeWith y bytes maxL ret hh).before args s = true) (hy : y.cls ≠ "java/lang/invoke/MethodHandle" ∧ y.cls ≠ "java/lang/invoke/VarHandle")
    {W9 : Nat} {Pre : Pt → Array Value → Prop} {Post : Pt → Array Value → Option Value → Pt → Prop} (hK : Back l R p e below s args y 3 W9 Pre Post)
    {g : JFrame} (hg : g.method = m) (hsize : g.locals.size = c.maxLocals) {argsL rest : List Value} (hlen : ∀ sig, parseMethodDescriptor y.desc = some sig → argsL.length = sig.parameters.length)
    (hstack : g.stack = argsL.reverse ++ rest) (hW : 2 * g.monitorRoom + (rest.map fun v => v.category).sum ≤ W9) (hdg : decode c.code g.pc = .ok (.invokestatic index, 3))
    (hpre : ∀ vm₁, s.WarmedH vm₁ → Pre ⟨T.setVm vm₁, locs, cells, slots⟩ argsL.toArray) :
    ∃ (v : Option Value) (vm₁ : Vm) (B : Pt), s.WarmedH vm₁ ∧ Stand p l e R s m args below meth c B.U B.locs B.cells B.slots ∧ Post ⟨T.setVm vm₁, locs, cells, slots⟩ argsL.toArray v B ∧
      ∀ target, Steps p.tables e below (B.U.setTop { g with pc := g.pc + 3, stack := v.toList ++ rest }) target → Steps p.tables e below (T.setTop g) target := by
  obtain ⟨mk, methM, cM, hnamed, hmethM, -, -, -, -, -, -, hsigM⟩ := Cond.codeWith_spec hcode
  have hstatic : methM.isStatic = true := Cond.static_spec hnamed hmethM hstat
  obtain ⟨kP, hkP, -⟩ := className_of_methodNamed hnamed
  have hinitP : kP.init = .initialized := Cond.initialized_spec (findClass_of_methodNamed hnamed) hkP hinit
  obtain ⟨vm₁, X₁, hstep₁⟩ := X.invokestatic hexec hown hlink hnamed hmethM hstatic hkP hinitP hy (g := g) hg (argsL := argsL) (rest := rest) (hlen _ hsigM) hstack hdg
  obtain ⟨v, B, X', hpost, hsteps⟩ := hK m meth c ⟨T.setVm vm₁, locs, cells, slots⟩ { g with stack := rest } (.invokestatic index) mk argsL.toArray X₁ hg hsize hdg hW (X₁.named hnamed) (hpre vm₁ X₁.warmed)
  exact ⟨v, vm₁, B, X₁.warmed, X', hpost, fun target h => hstep₁ _ fun acts => by rw [doInvoke_state]; exact hsteps.trans h⟩
theorem vx_runSW {y : MethodName} {bytes cc : ByteArray} {maxL nL mc ms n index : Nat} {ret : Option FieldType} {hh : List (Nat × Nat × Nat × Nat)} {ws : List Cond} {rm : Room} {Pc : Array Value → State → Prop} {Qc : Array Value → State → Outcome → State → Prop} {free : Addr → Prop} {Ts : List Cond} {own : String} {As rest : List Value} {g : JFrame}
    (S : CallFix p m c cc nL s args Ts own) (hM : Met l y ws rm Pc Qc mc ms free) (cw : vx_CSW R s args own index y bytes maxL ret hh ws rm mc ms n) (hp : PreS s H Pc As)
    (hg : g.method = m) (hn : As.length = n) (hsize : g.locals.size = nL) (hstack : g.stack = As.reverse ++ rest) (hW : 2 * g.monitorRoom + (rest.map fun v => v.category).sum ≤ 8) (hdg : decode cc g.pc = .ok (.invokestatic index, 3)) (hf : cells + mc ≤ R.cells ∧ slots + ms ≤ R.slots) :
    va_Run p l e R s m args below meth c H locs cells slots mc ms g rest (Qc As.toArray) (free) := by
  obtain ⟨⟨hrc, hrs, hfr, hlo, hws, hcw⟩, hcode, hini, hy, hlen, hl, hstt⟩ := cw
  have hK : Back l R p e below s args y 3 8 (PreOf R mc ms Pc) (PostOf Qc mc ms free) := va_backW (hh := hh) (bytes := bytes) (maxL := maxL) (ret := ret) hM hp.1 hrc hrs hfr hlo hws hcw (fun a' U hW => word_at hW (Or.inl (by first | rfl | simp [Cond.onTables, Cond.keeps, Cond.steady])) hini)
  obtain ⟨hx, hb, hml, ho, -⟩ := S
  intro T hT X
  obtain ⟨v, vm₁, ⟨U', l2, c2, s2⟩, hW₁, X', ⟨g', mk, t, L, e1, e2, hq, h1, hL, h2, h3⟩, st⟩ := vx_callSW X hx (hh := hh) (bytes := bytes) (maxL := maxL) (ret := ret) ho hl hstt hini hcode hy hK hg (hsize.trans hml.symm) (argsL := As) (rest := rest) (fun sig h => hn.trans (hlen sig h)) hstack hW (by rw [hb]; exact hdg)
    (fun vm₁ hW₁ => ⟨hf.1, hf.2, hp.2 (T.setVm vm₁) hT hW₁⟩)
  dsimp only [Pt.U, Pt.locs, Pt.cells, Pt.slots] at X' e1 e2 h1 h2 h3 st
  subst h1; subst h2; subst h3
  exact ⟨v, (T.setVm vm₁).calling g' mk As.toArray, t, U', L, hT, X', hL, e1, e2, hq, st⟩
/-- not caught here, past rows that name other classes: it goes on to the caller -/
theorem vx_outP {p : Program} {l : Launch} {e : Env} {R : Room} {s : State} {m : MethodId} {args : Array Value} {below : List Frame} {meth : Method} {c : Code} {H : Heap} {locs : List Loc} {cells slots : Nat} {free : Addr → Prop} {ls : Array Slot} {rest : List Value} {Qc : Array Value → State → Outcome → State → Prop} {XC : String → State → State → Prop}
    {pc : Nat} {own E : String} {ce : Cell} {q : Addr} {mc ms : Nat} (hown : s.vm.findClass own = some m.cls) (hlocks : meth.locks = false)
    (hpass : ∀ z ∈ c.exceptionTable.toList, covers z pc = false ∨ (z.catchType ≠ 0 ∧ ∃ nm : String, (Cond.classLink own z.catchType nm).before args s = true ∧ va_Nc E nm s)) (hcell : H[q]? = some ce) (hv : ce.vm = .none) (hcl : s.vm.findClass E = some ce.cls)
    (hx : ∀ t : State, t.heap = H → s.vm.Alike t.vm → XC E s t) (hf : ∀ z ∈ locs, free z.base) (hc : cells ≤ mc) (hs : slots ≤ ms) :
    vx_W p l e R s m args below meth c H locs cells slots (vx_MQ below Qc XC args s mc ms free) (F0 m pc ls rest) q := by
  intro T hT X
  have hpl : e.platform.magicAccessors = ({} : Platform).magicAccessors := by rw [X.admits.platform]
  obtain ⟨vm', hW', X', st⟩ := X.outThrough hlocks q (g := F0 m pc ls rest) rfl rfl rfl (cell := ce) (by rw [hT]; exact hcell) (by rw [hv]; rfl)
    (by obtain ⟨k9, h9, -⟩ := Vm.findClass_spec hcl; exact ⟨k9, h9⟩) (fun z hz => by
      rcases hpass z hz with h | ⟨hz0, nm, hl1, hn1⟩
      · exact Or.inl h
      · obtain ⟨c6, hc6, hcl6⟩ := Cond.classLink_spec hown hl1 e.platform hpl
        obtain ⟨a8, b8, h1, h2, h3⟩ := hn1
        cases Option.some.inj (h1.symm.trans hcl)
        cases Option.some.inj (h2.symm.trans hc6)
        exact Or.inr ⟨hz0, _, hcl6, h3⟩)
  obtain ⟨g₀, hfr⟩ := X'.frames_eq
  have hcell9 : ((T.setVm vm').setFrames (.throwing q :: below)).heap[q]? = some ce := by
    show T.heap[q]? = some ce
    rw [hT]; exact hcell
  have hend : Ended ((T.setVm vm').setFrames (.throwing q :: below)) below (.threw q) := State.frames_setFrames _ (State.cur_lt_of_frames hfr)
  refine ⟨(T.setVm vm').setFrames (.throwing q :: below), ?_, .threw q, X'.here.running, hend, Or.inr ⟨q, rfl, E, ce, locs, hx _ hT (X'.ends _).1.alike, hcell9, hv, hcl, (X'.ends _).1, (X'.ends _).2.mono hc hs, hf⟩⟩
  rw [X.pushThrowing_eq]
  exact st
/-- a thing of a world lies in the heap -/
theorem vx_lt {D : va_G} {cl : List vw_C} {ws : va_W} {H1 : Heap} (h : va_P D cl ws H1) {k : Nat} {q : Nat × va_E} (hk : ws[k]? = some q) : q.1 < H1.size := (h k q hk).lt
end VXS
/-! ===== END ===== -/
/-! ===== BEGIN methods with a table of their own: called by a name, returning or throwing ===== -/
section VXH
/-! vx_backW, vx_callVX, vx_callSX, vx_callVW, vx_runVW, vx_runVX, vx_runSX, vx_ofWH follow the same proofs as their sisters above (Free/Laws.lean, Shelf42/LK1.lean); vx_outP calls Shelf42/NT130.lean (outThrough). -/
section
variable {l : Launch} {R : Room} {p : Program} {e : Env} {below : List Frame} {s : State} {sargs : Array Value} {y : MethodName} {len W9 : Nat}
theorem vx_backW {ws : List Cond} {rm : Room} {Pc : Array Value → State → Prop} {Qc : Array Value → State → Outcome → State → Prop} {XC : String → State → State → Prop} {mc ms : Nat} {free : Addr → Prop} {bytes : ByteArray} {maxL : Nat} {ret : Option FieldType} {hh : List (Nat × Nat × Nat × Nat)}
    (hM : vx_Met l y ws rm Pc Qc XC mc ms free) (hblind : FrameBlind Pc) (hrc : rm.cells = mc) (hrs : rm.slots = ms)
    (hframes : rm.frames + 1 ≤ R.frames) (hlocals : W9 + (maxL + 11) + rm.locals ≤ R.locals)
    (hws : ∀ w ∈ ws, ∀ a' U, s.WarmedH U.vm → w.before a' U = true) (hcode : Cond.codeWith y bytes maxL ret hh ∈ ws) (hinit : ∀ a' U, s.WarmedH U.vm → (Cond.initialized y.cls).before a' U = true) :
    vx_Back l R p e below s sargs y len W9 (PreOf R mc ms Pc) (PostOf Qc mc ms free) (vx_Post XC mc ms free) := by
  intro m meth c A g ig mk a X hg hsize hdg hW hn hp
  have h1 : (headSpec ws rm).pre.before a A.U = true := atoms_intro fun w hw => hws w hw _ _ X.warmed
  have h2 : (Cond.codeWith y bytes maxL ret hh).before a A.U = true := hws _ hcode _ _ X.warmed
  have h3 : (Cond.initialized y.cls).before a A.U = true := hinit _ _ X.warmed
  have h4 : A.cells + (headSpec ws rm).room.cells ≤ R.cells := by rw [show (headSpec ws rm).room.cells = mc from hrc]; exact hp.1
  have h5 : A.slots + (headSpec ws rm).room.slots ≤ R.slots := by rw [show (headSpec ws rm).room.slots = ms from hrs]; exact hp.2.1
  have hPc : Pc a (A.U.calling g mk a) := hblind _ _ _ _ hp.2.2
  obtain ⟨U, Ls, c0, s0⟩ := A
  dsimp only [Pt.U, Pt.locs, Pt.cells, Pt.slots] at h1 h2 h3 h4 h5 X hn hPc ⊢
  obtain ⟨m9, methY, cY, hn9, hmY, hcY, -, hlY, -⟩ := Cond.codeWith_spec h2
  cases Option.some.inj (hn9.symm.trans hn)
  obtain ⟨kY, hkY, -⟩ := className_of_methodNamed hn
  have hinitY : kY.init = .initialized := Cond.initialized_spec (findClass_of_methodNamed hn) hkY h3
  have h : At U g.method c below := by rw [hg]; exact X.here
  have hlocals9 : W9 + (maxL + 11) + (headSpec ws rm).room.locals ≤ R.locals := hlocals
  have happ : (headSpec ws rm).appliesLoose y e.platform (U.calling g mk a) = true :=
    Spec.appliesLoose_calling (g := g) h hdg hn hkY hinitY
      (X.room_calling (g := g) (R' := (headSpec ws rm).room) hsize hmY hcY hframes (by rw [hlY]; omega) h4 h5) h1
  obtain ⟨mid, hmid⟩ := h.above
  have hfr : (U.setTop g).frames = (.java g :: mid) ++ below := by rw [State.frames_setTop' g h.top, hmid]; rfl
  obtain ⟨o, s₂, hsteps, -, hend, hq⟩ := Steps.callFree hM p X.admits X.cas X.clock (acts := []) hfr happ hPc trivial
  have hq' : vx_Q Qc XC mc ms free a (U.calling g mk a) o s₂ := hq
  rw [State.frames_setTop' g h.top] at hend
  obtain ⟨g₀, hg0⟩ := Option.isSome_iff_exists.mp h.top
  obtain ⟨r, hr⟩ := State.topJava?_eq_some.mp hg0
  have hr' : (({ U with heap := s₂.heap, slotsUsed := s₂.slotsUsed } : State).setVm s₂.vm).frames = .java g₀ :: r := hr
  rcases hq' with ⟨hqc, L, hfe, hL⟩ | ⟨q, rfl, E, ce, L, hx, hce, hcv, hcl, hW₂, hsm, hL⟩
  · obtain ⟨⟨v, rfl⟩, hW₂, e2, q2, q3, q4, q5, q6⟩ := id hfe
    have e3 : s₂ = ({ (U.calling g mk a).setFrames s₂.frames with heap := s₂.heap, slotsUsed := s₂.slotsUsed } : State).setVm s₂.vm := by
      have : s₂ = ({ s₂ with vm := (U.calling g mk a).vm } : State).setVm s₂.vm := rfl
      rw [e2] at this
      exact this
    obtain ⟨c₂, i₂, len₂, hc₂, hd₂, hf₂⟩ := hend
    have hW' : U.WarmedH s₂.vm := hW₂
    have hcc : c₂ = c := by
      have h1 : s₂.code? g.method = U.code? g.method := by
        rw [State.code?_eq, State.code?_eq, hW'.alike.method?]
      exact Option.some.inj (hc₂.symm.trans (h1.trans h.code))
    subst hcc
    have hlen : len₂ = len := by rw [hdg] at hd₂; cases hd₂; rfl
    subst hlen
    have hs₂ : s₂ = (({ U with heap := s₂.heap, slotsUsed := s₂.slotsUsed } : State).setVm s₂.vm).setTop { g with pc := g.pc + len₂, stack := v.toList ++ g.stack } := by
      refine e3.trans ?_
      rw [hf₂, State.calling_eq h.top, State.setFrames_setFrames, State.setTop_of_frames _ hr', hr]
      rfl
    have hsame : U.sameButNew ({ U with heap := s₂.heap, slotsUsed := s₂.slotsUsed } : State) L mc ms := by
      refine ⟨?_, q2, q3, q4, q5, q6⟩
      obtain ⟨t, ht, -⟩ := State.frames_cons hr
      show ({ U with heap := s₂.heap, slotsUsed := s₂.slotsUsed } : State) = { U.setFrames U.frames with heap := s₂.heap, slotsUsed := s₂.slotsUsed }
      rw [State.setFrames_self ht]
    subst hg
    refine Or.inl ⟨v, ⟨(({ U with heap := s₂.heap, slotsUsed := s₂.slotsUsed } : State).setVm s₂.vm), Ls ++ L, c0 + mc, s0 + ms⟩,
      ⟨X.admits, X.cas, X.clock, X.frames, X.room, X.hears, X.method, X.code, (X.here.setHeapUsed s₂.heap s₂.slotsUsed).setVm hW'.alike, X.tail, State.WarmedH.trans X.warmed hW', X.limits, X.bytes, X.same.trans (hsame.setVm s.vm)⟩,
      ⟨g, mk, s₂, L, rfl, rfl, hqc, rfl, hL, rfl, rfl⟩, ?_⟩
    show Steps p.tables e below _ ((({ U with heap := s₂.heap, slotsUsed := s₂.slotsUsed } : State).setVm s₂.vm).setTop { g with pc := g.pc + len₂, stack := v.toList ++ g.stack })
    rw [← hs₂]
    exact hsteps
  · obtain ⟨e2, q2, q3, q4, q5, q6⟩ := id hsm
    have e3 : s₂ = ({ (U.calling g mk a).setFrames s₂.frames with heap := s₂.heap, slotsUsed := s₂.slotsUsed } : State).setVm s₂.vm := by
      have : s₂ = ({ s₂ with vm := (U.calling g mk a).vm } : State).setVm s₂.vm := rfl
      rw [e2] at this
      exact this
    have hf₂ : s₂.frames = .throwing q :: .java g :: U.frames.tail := hend
    have hW' : U.WarmedH s₂.vm := hW₂
    have hs₂ : s₂ = ((({ U with heap := s₂.heap, slotsUsed := s₂.slotsUsed } : State).setVm s₂.vm).setTop g).pushFrame (.throwing q) := by
      refine e3.trans ?_
      rw [hf₂, State.calling_eq h.top, State.setFrames_setFrames, State.pushFrame, State.frames_setTop _ hr', State.setTop_of_frames _ hr', State.setFrames_setFrames, hr]
      rfl
    have hsame : U.sameButNew ({ U with heap := s₂.heap, slotsUsed := s₂.slotsUsed } : State) L mc ms := by
      refine ⟨?_, q2, q3, q4, q5, q6⟩
      obtain ⟨t, ht, -⟩ := State.frames_cons hr
      show ({ U with heap := s₂.heap, slotsUsed := s₂.slotsUsed } : State) = { U.setFrames U.frames with heap := s₂.heap, slotsUsed := s₂.slotsUsed }
      rw [State.setFrames_self ht]
    subst hg
    refine Or.inr ⟨q, ⟨(({ U with heap := s₂.heap, slotsUsed := s₂.slotsUsed } : State).setVm s₂.vm), Ls ++ L, c0 + mc, s0 + ms⟩,
      ⟨X.admits, X.cas, X.clock, X.frames, X.room, X.hears, X.method, X.code, (X.here.setHeapUsed s₂.heap s₂.slotsUsed).setVm hW'.alike, X.tail, State.WarmedH.trans X.warmed hW', X.limits, X.bytes, X.same.trans (hsame.setVm s.vm)⟩,
      ⟨g, mk, s₂, L, E, ce, rfl, rfl, hx, hce, hcv, hcl, rfl, hL, rfl, rfl⟩, ?_⟩
    show Steps p.tables e below _ (((({ U with heap := s₂.heap, slotsUsed := s₂.slotsUsed } : State).setVm s₂.vm).setTop g).pushFrame (.throwing q))
    rw [← hs₂]
    exact hsteps
end
variable {p : Program} {l : Launch} {e : Env} {R : Room} {s : State} {m : MethodId} {args : Array Value} {below : List Frame} {meth : Method} {c : Code} {T : State} {H : Heap} {locs : List Loc} {cells slots : Nat}
theorem vx_callVX (X : Stand p l e R s m args below meth c T locs cells slots) (hexec : p.tables.exec = Jvm.exec) {own C : String} {index : Nat} {y : MethodName} {bytes : ByteArray} {maxL : Nat} {ret : Option FieldType} {hh : List (Nat × Nat × Nat × Nat)}
    (hown : s.vm.findClass own = some m.cls) (hlink : (Cond.methodLink own index y).before args s = true) (hinst : (Cond.instanceMethod y).before args s = true) (hsel : (Cond.selects C y y).before args s = true)
    (hcode : (Cond.codeWith y bytes maxL ret hh).before args s = true) (hy : y.cls ≠ "java/lang/invoke/MethodHandle" ∧ y.cls ≠ "java/lang/invoke/VarHandle")
    {W9 : Nat} {Pre : Pt → Array Value → Prop} {Post : Pt → Array Value → Option Value → Pt → Prop} {PostX : Pt → Array Value → Addr → Pt → Prop} (hK : vx_Back l R p e below s args y 3 W9 Pre Post PostX)
    {b : Addr} {cellB : Cell} (hcell : T.heap[b]? = some cellB) (hobj : cellB.vm.isStatics = false) (hcls : s.vm.findClass C = some cellB.cls)
    {g : JFrame} (hg : g.method = m) (hsize : g.locals.size = c.maxLocals) {argsL rest : List Value} (hlen : ∀ sig, parseMethodDescriptor y.desc = some sig → argsL.length = sig.parameters.length)
    (hstack : g.stack = argsL.reverse ++ .ref b :: rest) (hW : 2 * g.monitorRoom + (rest.map fun v => v.category).sum ≤ W9) (hdg : decode c.code g.pc = .ok (.invokevirtual index, 3))
    (hpre : ∀ vm₁, s.WarmedH vm₁ → Pre ⟨T.setVm vm₁, locs, cells, slots⟩ (Value.ref b :: argsL).toArray) :
    (∃ (v : Option Value) (vm₁ : Vm) (B : Pt), s.WarmedH vm₁ ∧ Stand p l e R s m args below meth c B.U B.locs B.cells B.slots ∧ Post ⟨T.setVm vm₁, locs, cells, slots⟩ (Value.ref b :: argsL).toArray v B ∧
      ∀ target, Steps p.tables e below (B.U.setTop { g with pc := g.pc + 3, stack := v.toList ++ rest }) target → Steps p.tables e below (T.setTop g) target) ∨
    (∃ (q : Addr) (vm₁ : Vm) (B : Pt), s.WarmedH vm₁ ∧ Stand p l e R s m args below meth c B.U B.locs B.cells B.slots ∧ PostX ⟨T.setVm vm₁, locs, cells, slots⟩ (Value.ref b :: argsL).toArray q B ∧
      Steps p.tables e below (T.setTop g) ((B.U.setTop { g with stack := rest }).pushFrame (.throwing q))) := by
  obtain ⟨mk, methM, hnamed, hmethM, hstM, habM⟩ := Cond.instanceMethod_spec hinst
  obtain ⟨m8, methM', cM, hn8, hmethM', -, -, -, -, -, -, hsigM⟩ := Cond.codeWith_spec hcode
  cases Option.some.inj (hn8.symm.trans hnamed)
  cases hmethM.symm.trans hmethM'
  obtain ⟨c2, r2, m2, q1, q2, q3, q4, kP, hkP, hkPi⟩ := Cond.selects_spec hsel
  cases hcls.symm.trans q1
  cases (State.methodFound?_of_named hnamed hy).symm.trans q2
  cases hnamed.symm.trans q3
  have hselP : selectMethod e.platform s.vm cellB.cls mk = .method mk := by rw [Launch.admits_selectMethod X.admits]; exact q4
  obtain ⟨vm₁, X₁, hstep₁⟩ := X.invokevirtual hexec hown hlink hnamed hmethM hstM hkP hkPi hy (a := b) (cell := cellB) hcell
    (fun z h => by rw [h] at hobj; cases hobj) hselP hmethM habM hkP hkPi (g := g) hg (argsL := argsL) (rest := rest) (hlen _ hsigM) hstack hdg
  rcases hK m meth c ⟨T.setVm vm₁, locs, cells, slots⟩ { g with stack := rest } (.invokevirtual index) mk (Value.ref b :: argsL).toArray X₁ hg hsize hdg hW (X₁.named hnamed) (hpre vm₁ X₁.warmed) with ⟨v, B, X', hpost, hsteps⟩ | ⟨q, B, X', hpost, hsteps⟩
  · exact Or.inl ⟨v, vm₁, B, X₁.warmed, X', hpost, fun target h => hstep₁ _ fun acts => by rw [doInvoke_state]; exact hsteps.trans h⟩
  · exact Or.inr ⟨q, vm₁, B, X₁.warmed, X', hpost, hstep₁ _ fun acts => by rw [doInvoke_state]; exact hsteps⟩
theorem vx_callSX (X : Stand p l e R s m args below meth c T locs cells slots) (hexec : p.tables.exec = Jvm.exec) {own : String} {index : Nat} {y : MethodName} {bytes : ByteArray} {maxL : Nat} {ret : Option FieldType} {hh : List (Nat × Nat × Nat × Nat)}
    (hown : s.vm.findClass own = some m.cls) (hlink : (Cond.methodLink own index y).before args s = true) (hstat : (Cond.static y).before args s = true) (hinit : (Cond.initialized y.cls).before args s = true)
    (hcode : (Cond.codeWith y bytes maxL ret hh).before args s = true) (hy : y.cls ≠ "java/lang/invoke/MethodHandle" ∧ y.cls ≠ "java/lang/invoke/VarHandle")
    {W9 : Nat} {Pre : Pt → Array Value → Prop} {Post : Pt → Array Value → Option Value → Pt → Prop} {PostX : Pt → Array Value → Addr → Pt → Prop} (hK : vx_Back l R p e below s args y 3 W9 Pre Post PostX)
    {g : JFrame} (hg : g.method = m) (hsize : g.locals.size = c.maxLocals) {argsL rest : List Value} (hlen : ∀ sig, parseMethodDescriptor y.desc = some sig → argsL.length = sig.parameters.length)
    (hstack : g.stack = argsL.reverse ++ rest) (hW : 2 * g.monitorRoom + (rest.map fun v => v.category).sum ≤ W9) (hdg : decode c.code g.pc = .ok (.invokestatic index, 3))
    (hpre : ∀ vm₁, s.WarmedH vm₁ → Pre ⟨T.setVm vm₁, locs, cells, slots⟩ argsL.toArray) :
    (∃ (v : Option Value) (vm₁ : Vm) (B : Pt), s.WarmedH vm₁ ∧ Stand p l e R s m args below meth c B.U B.locs B.cells B.slots ∧ Post ⟨T.setVm vm₁, locs, cells, slots⟩ argsL.toArray v B ∧
      ∀ target, Steps p.tables e below (B.U.setTop { g with pc := g.pc + 3, stack := v.toList ++ rest }) target → Steps p.tables e below (T.setTop g) target) ∨
    (∃ (q : Addr) (vm₁ : Vm) (B : Pt), s.WarmedH vm₁ ∧ Stand p l e R s m args below meth c B.U B.locs B.cells B.slots ∧ PostX ⟨T.setVm vm₁, locs, cells, slots⟩ argsL.toArray q B ∧
      Steps p.tables e below (T.setTop g) ((B.U.setTop { g with stack := rest }).pushFrame (.throwing q))) := by
  obtain ⟨mk, methM, cM, hnamed, hmethM, -, -, -, -, -, -, hsigM⟩ := Cond.codeWith_spec hcode
  have hstatic : methM.isStatic = true := Cond.static_spec hnamed hmethM hstat
  obtain ⟨kP, hkP, -⟩ := className_of_methodNamed hnamed
  have hinitP : kP.init = .initialized := Cond.initialized_spec (findClass_of_methodNamed hnamed) hkP hinit
  obtain ⟨vm₁, X₁, hstep₁⟩ := X.invokestatic hexec hown hlink hnamed hmethM hstatic hkP hinitP hy (g := g) hg (argsL := argsL) (rest := rest) (hlen _ hsigM) hstack hdg
  rcases hK m meth c ⟨T.setVm vm₁, locs, cells, slots⟩ { g with stack := rest } (.invokestatic index) mk argsL.toArray X₁ hg hsize hdg hW (X₁.named hnamed) (hpre vm₁ X₁.warmed) with ⟨v, B, X', hpost, hsteps⟩ | ⟨q, B, X', hpost, hsteps⟩
  · exact Or.inl ⟨v, vm₁, B, X₁.warmed, X', hpost, fun target h => hstep₁ _ fun acts => by rw [doInvoke_state]; exact hsteps.trans h⟩
  · exact Or.inr ⟨q, vm₁, B, X₁.warmed, X', hpost, hstep₁ _ fun acts => by rw [doInvoke_state]; exact hsteps⟩
theorem vx_callVW (X : Stand p l e R s m args below meth c T locs cells slots) (hexec : p.tables.exec = Jvm.exec) {own C : String} {index : Nat} {y : MethodName} {bytes : ByteArray} {maxL : Nat} {ret : Option FieldType} {hh : List (Nat × Nat × Nat × Nat)}
    (hown : s.vm.findClass own = some m.cls) (hlink : (Cond.methodLink own index y).before args s = true) (hinst : (Cond.instanceMethod y).before args s = true) (hsel : (Cond.selects C y y).before args s = true)
    (hcode : (Cond.codeWith y bytes maxL ret hh).before args s = true) (hy : y.cls ≠ "java/lang/invoke/MethodHandle" ∧ y.cls ≠ "java/lang/invoke/VarHandle")
    {W9 : Nat} {Pre : Pt → Array Value → Prop} {Post : Pt → Array Value → Option Value → Pt → Prop} (hK : Back l R p e below s args y 3 W9 Pre Post)
    {b : Addr} {cellB : Cell} (hcell : T.heap[b]? = some cellB) (hobj : cellB.vm.isStatics = false) (hcls : s.vm.findClass C = some cellB.cls)
    {g : JFrame} (hg : g.method = m) (hsize : g.locals.size = c.maxLocals) {argsL rest : List Value} (hlen : ∀ sig, parseMethodDescriptor y.desc = some sig → argsL.length = sig.parameters.length)
    (hstack : g.stack = argsL.reverse ++ .ref b :: rest) (hW : 2 * g.monitorRoom + (rest.map fun v => v.category).sum ≤ W9) (hdg : decode c.code g.pc = .ok (.invokevirtual index, 3))
    (hpre : ∀ vm₁, s.WarmedH vm₁ → Pre ⟨T.setVm vm₁, locs, cells, slots⟩ (Value.ref b :: argsL).toArray) :
    ∃ (v : Option Value) (vm₁ : Vm) (B : Pt), s.WarmedH vm₁ ∧ Stand p l e R s m args below meth c B.U B.locs B.cells B.slots ∧ Post ⟨T.setVm vm₁, locs, cells, slots⟩ (Value.ref b :: argsL).toArray v B ∧
      ∀ target, Steps p.tables e below (B.U.setTop { g with pc := g.pc + 3, stack := v.toList ++ rest }) target → Steps p.tables e below (T.setTop g) target := by
  obtain ⟨mk, methM, hnamed, hmethM, hstM, habM⟩ := Cond.instanceMethod_spec hinst
  obtain ⟨m8, methM', cM, hn8, hmethM', -, -, -, -, -, -, hsigM⟩ := Cond.codeWith_spec hcode
  cases Option.some.inj (hn8.symm.trans hnamed)
  cases hmethM.symm.trans hmethM'
  obtain ⟨c2, r2, m2, q1, q2, q3, q4, kP, hkP, hkPi⟩ := Cond.selects_spec hsel
  cases hcls.symm.trans q1
  cases (State.methodFound?_of_named hnamed hy).symm.trans q2
  cases hnamed.symm.trans q3
  have hselP : selectMethod e.platform s.vm cellB.cls mk = .method mk := by rw [Launch.admits_selectMethod X.admits]; exact q4
  obtain ⟨vm₁, X₁, hstep₁⟩ := X.invokevirtual hexec hown hlink hnamed hmethM hstM hkP hkPi hy (a := b) (cell := cellB) hcell
    (fun z h => by rw [h] at hobj; cases hobj) hselP hmethM habM hkP hkPi (g := g) hg (argsL := argsL) (rest := rest) (hlen _ hsigM) hstack hdg
  obtain ⟨v, B, X', hpost, hsteps⟩ := hK m meth c ⟨T.setVm vm₁, locs, cells, slots⟩ { g with stack := rest } (.invokevirtual index) mk (Value.ref b :: argsL).toArray X₁ hg hsize hdg hW (X₁.named hnamed) (hpre vm₁ X₁.warmed)
  exact ⟨v, vm₁, B, X₁.warmed, X', hpost, fun target h => hstep₁ _ fun acts => by rw [doInvoke_state]; exact hsteps.trans h⟩
abbrev vx_CVW (R : Room) (s : State) (args : Array Value) (own C : String) (index : Nat) (y : MethodName) (bytes : ByteArray) (maxL : Nat) (ret : Option FieldType) (hh : List (Nat × Nat × Nat × Nat)) (ws : List Cond) (rm : Room) (mc ms n : Nat) : Prop :=
  (rm.cells = mc ∧ rm.slots = ms ∧ rm.frames + 1 ≤ R.frames ∧ 8 + (maxL + 11) + rm.locals ≤ R.locals ∧ (∀ w ∈ ws, ∀ (a' : Array Value) (U : State), s.WarmedH U.vm → w.before a' U = true) ∧ Cond.codeWith y bytes maxL ret hh ∈ ws) ∧
  (Cond.codeWith y bytes maxL ret hh).before args s = true ∧ (Cond.initialized y.cls).before args s = true ∧ (y.cls ≠ "java/lang/invoke/MethodHandle" ∧ y.cls ≠ "java/lang/invoke/VarHandle") ∧
  (∀ sig, parseMethodDescriptor y.desc = some sig → n = sig.parameters.length) ∧ (Cond.methodLink own index y).before args s = true ∧ (Cond.instanceMethod y).before args s = true ∧ (Cond.selects C y y).before args s = true
theorem vx_cwVW {own C : String} {index maxL mc ms : Nat} {y : MethodName} {bytes : ByteArray} {ret : Option FieldType} {hh : List (Nat × Nat × Nat × Nat)} {Ts ws ws' : List Cond} {rm : Room} (n : Nat) (ht : ∀ w ∈ Ts, w.before args s = true) (hT : GoodIn Ts (wsV own index C y ws)) (hw : ws = Cond.codeWith y bytes maxL ret hh :: ws') (hrc : rm.cells = mc) (hrs : rm.slots = ms)
    (hd : y.cls = C ∧ y.cls ≠ "java/lang/invoke/MethodHandle" ∧ y.cls ≠ "java/lang/invoke/VarHandle" ∧ (parseMethodDescriptor y.desc).map (fun d => d.parameters.length) = some n) (hR : rm.frames + 1 ≤ R.frames ∧ 8 + (maxL + 11) + rm.locals ≤ R.locals) :
    vx_CVW R s args own C index y bytes maxL ret hh ws rm mc ms n := by
  obtain ⟨hC, hd⟩ := hd
  subst hC
  have ok : ∀ w ∈ wsV own index y.cls y ws, w.before args s = true := fun w h => ht w (hT w h).1
  have hG : GoodIn Ts ws := fun w h => hT w (by unfold wsV; exact List.mem_append_right _ h)
  have hc : Cond.codeWith y bytes maxL ret hh ∈ ws := by rw [hw]; exact List.mem_cons_self
  refine ⟨⟨hrc, hrs, hR.1, hR.2, pay_in ht hG, hc⟩, ht _ (hG _ hc).1, ok _ (by simp [wsV]), ⟨hd.1, hd.2.1⟩, fun sig h => ?_, ok _ (by simp [wsV]), ok _ (by simp [wsV]), ok _ (by simp [wsV])⟩
  have h2 := hd.2.2
  rw [h] at h2
  exact (Option.some.inj h2).symm
theorem vx_runVW {y : MethodName} {bytes cc : ByteArray} {maxL nL mc ms n index : Nat} {ret : Option FieldType} {hh : List (Nat × Nat × Nat × Nat)} {ws : List Cond} {rm : Room} {Pc : Array Value → State → Prop} {Qc : Array Value → State → Outcome → State → Prop} {free : Addr → Prop} {Ts : List Cond} {own C : String} {b : Addr} {As rest : List Value} {g : JFrame}
    (S : CallFix p m c cc nL s args Ts own) (hM : Met l y ws rm Pc Qc mc ms free) (cw : vx_CVW R s args own C index y bytes maxL ret hh ws rm mc ms n) (hp : PreV s H C b Pc As)
    (hg : g.method = m) (hn : As.length = n) (hsize : g.locals.size = nL) (hstack : g.stack = As.reverse ++ .ref b :: rest) (hW : 2 * g.monitorRoom + (rest.map fun v => v.category).sum ≤ 8) (hdg : decode cc g.pc = .ok (.invokevirtual index, 3)) (hf : cells + mc ≤ R.cells ∧ slots + ms ≤ R.slots) :
    va_Run p l e R s m args below meth c H locs cells slots mc ms g rest (Qc (Value.ref b :: As).toArray) free := by
  obtain ⟨⟨hrc, hrs, hfr, hlo, hws, hcw⟩, hcode, hini, hy, hlen, hl, hin, hse⟩ := cw
  have hK : Back l R p e below s args y 3 8 (PreOf R mc ms Pc) (PostOf Qc mc ms free) := va_backW (hh := hh) (bytes := bytes) (maxL := maxL) (ret := ret) hM hp.1 hrc hrs hfr hlo hws hcw (fun a' U hW => word_at hW (Or.inl (by first | rfl | simp [Cond.onTables, Cond.keeps, Cond.steady])) hini)
  obtain ⟨hx, hb, hml, ho, -⟩ := S
  obtain ⟨-, ⟨cellB, hcB, hoB, hclB⟩, hPc⟩ := hp
  intro T hT X
  obtain ⟨v, vm₁, ⟨U', l2, c2, s2⟩, hW₁, X', ⟨g', mk, t, L, e1, e2, hq, h1, hL, h2, h3⟩, st⟩ := vx_callVW X hx (C := C) (hh := hh) (bytes := bytes) (maxL := maxL) (ret := ret) ho hl hin hse hcode hy hK (by rw [hT]; exact hcB) hoB hclB hg (hsize.trans hml.symm) (argsL := As) (rest := rest) (fun sig h => hn.trans (hlen sig h)) hstack hW (by rw [hb]; exact hdg)
    (fun vm₁ hW₁ => ⟨hf.1, hf.2, hPc (T.setVm vm₁) hT hW₁⟩)
  dsimp only [Pt.U, Pt.locs, Pt.cells, Pt.slots] at X' e1 e2 h1 h2 h3 st
  subst h1; subst h2; subst h3
  exact ⟨v, (T.setVm vm₁).calling g' mk (Value.ref b :: As).toArray, t, U', L, hT, X', hL, e1, e2, hq, st⟩
section
variable {y : MethodName} {bytes cc : ByteArray} {maxL nL mc ms n index : Nat} {ret : Option FieldType} {ws : List Cond} {rm : Room} {Pc : Array Value → State → Prop} {Qc : Array Value → State → Outcome → State → Prop} {XC : String → State → State → Prop} {free : Addr → Prop} {Ts : List Cond} {own C : String} {b : Addr} {As rest : List Value} {g : JFrame}
theorem vx_runVX {hh : List (Nat × Nat × Nat × Nat)} (S : CallFix p m c cc nL s args Ts own) (hM : vx_Met l y ws rm Pc Qc XC mc ms free) (cw : vx_CVW R s args own C index y bytes maxL ret hh ws rm mc ms n) (hp : PreV s H C b Pc As)
    (hg : g.method = m) (hn : As.length = n) (hsize : g.locals.size = nL) (hstack : g.stack = As.reverse ++ .ref b :: rest) (hW : 2 * g.monitorRoom + (rest.map fun v => v.category).sum ≤ 8) (hdg : decode cc g.pc = .ok (.invokevirtual index, 3)) (hf : cells + mc ≤ R.cells ∧ slots + ms ≤ R.slots) :
    vx_Run p l e R s m args below meth c H locs cells slots mc ms g rest (Qc (Value.ref b :: As).toArray) XC free := by
  obtain ⟨⟨hrc, hrs, hfr, hlo, hws, hcw⟩, hcode, hini, hy, hlen, hl, hin, hse⟩ := cw
  have hK : vx_Back l R p e below s args y 3 8 (PreOf R mc ms Pc) (PostOf Qc mc ms free) (vx_Post XC mc ms free) := vx_backW (hh := hh) (bytes := bytes) (maxL := maxL) (ret := ret) hM hp.1 hrc hrs hfr hlo hws hcw (fun a' U hW => word_at hW (Or.inl (by first | rfl | simp [Cond.onTables, Cond.keeps, Cond.steady])) hini)
  obtain ⟨hx, hb, hml, ho, -⟩ := S
  obtain ⟨-, ⟨cellB, hcB, hoB, hclB⟩, hPc⟩ := hp
  intro T hT X
  rcases vx_callVX X hx (C := C) (hh := hh) (bytes := bytes) (maxL := maxL) (ret := ret) ho hl hin hse hcode hy hK (by rw [hT]; exact hcB) hoB hclB hg (hsize.trans hml.symm) (argsL := As) (rest := rest) (fun sig h => hn.trans (hlen sig h)) hstack hW (by rw [hb]; exact hdg)
    (fun vm₁ hW₁ => ⟨hf.1, hf.2, hPc (T.setVm vm₁) hT hW₁⟩) with ⟨v, vm₁, ⟨U', l2, c2, s2⟩, hW₁, X', ⟨g', mk, t, L, e1, e2, hq, h1, hL, h2, h3⟩, st⟩ | ⟨q, vm₁, ⟨U', l2, c2, s2⟩, hW₁, X', ⟨g', mk, t, L, E, ce, e1, e2, hq, hce, hcv, hcl, h1, hL, h2, h3⟩, st⟩
  · dsimp only [Pt.U, Pt.locs, Pt.cells, Pt.slots] at X' e1 e2 h1 h2 h3 st
    subst h1; subst h2; subst h3
    exact Or.inl ⟨v, (T.setVm vm₁).calling g' mk (Value.ref b :: As).toArray, t, U', L, hT, X', hL, e1, e2, hq, st⟩
  · dsimp only [Pt.U, Pt.locs, Pt.cells, Pt.slots] at X' e1 e2 h1 h2 h3 st hcl
    subst h1; subst h2; subst h3
    exact Or.inr ⟨q, (T.setVm vm₁).calling g' mk (Value.ref b :: As).toArray, t, U', L, E, ce, hT, X', hL, e1, e2, hq, hce, hcv, vx_cls hW₁ hcl, st⟩
theorem vx_runSX {hh : List (Nat × Nat × Nat × Nat)} (S : CallFix p m c cc nL s args Ts own) (hM : vx_Met l y ws rm Pc Qc XC mc ms free) (cw : vx_CSW R s args own index y bytes maxL ret hh ws rm mc ms n) (hp : PreS s H Pc As)
    (hg : g.method = m) (hn : As.length = n) (hsize : g.locals.size = nL) (hstack : g.stack = As.reverse ++ rest) (hW : 2 * g.monitorRoom + (rest.map fun v => v.category).sum ≤ 8) (hdg : decode cc g.pc = .ok (.invokestatic index, 3)) (hf : cells + mc ≤ R.cells ∧ slots + ms ≤ R.slots) :
    vx_Run p l e R s m args below meth c H locs cells slots mc ms g rest (Qc As.toArray) XC free := by
  obtain ⟨⟨hrc, hrs, hfr, hlo, hws, hcw⟩, hcode, hini, hy, hlen, hl, hstt⟩ := cw
  have hK : vx_Back l R p e below s args y 3 8 (PreOf R mc ms Pc) (PostOf Qc mc ms free) (vx_Post XC mc ms free) := vx_backW (hh := hh) (bytes := bytes) (maxL := maxL) (ret := ret) hM hp.1 hrc hrs hfr hlo hws hcw (fun a' U hW => word_at hW (Or.inl (by first | rfl | simp [Cond.onTables, Cond.keeps, Cond.steady])) hini)
  obtain ⟨hx, hb, hml, ho, -⟩ := S
  intro T hT X
  rcases vx_callSX X hx (hh := hh) (bytes := bytes) (maxL := maxL) (ret := ret) ho hl hstt hini hcode hy hK hg (hsize.trans hml.symm) (argsL := As) (rest := rest) (fun sig h => hn.trans (hlen sig h)) hstack hW (by rw [hb]; exact hdg)
    (fun vm₁ hW₁ => ⟨hf.1, hf.2, hp.2 (T.setVm vm₁) hT hW₁⟩) with ⟨v, vm₁, ⟨U', l2, c2, s2⟩, hW₁, X', ⟨g', mk, t, L, e1, e2, hq, h1, hL, h2, h3⟩, st⟩ | ⟨q, vm₁, ⟨U', l2, c2, s2⟩, hW₁, X', ⟨g', mk, t, L, E, ce, e1, e2, hq, hce, hcv, hcl, h1, hL, h2, h3⟩, st⟩
  · dsimp only [Pt.U, Pt.locs, Pt.cells, Pt.slots] at X' e1 e2 h1 h2 h3 st
    subst h1; subst h2; subst h3
    exact Or.inl ⟨v, (T.setVm vm₁).calling g' mk As.toArray, t, U', L, hT, X', hL, e1, e2, hq, st⟩
  · dsimp only [Pt.U, Pt.locs, Pt.cells, Pt.slots] at X' e1 e2 h1 h2 h3 st hcl
    subst h1; subst h2; subst h3
    exact Or.inr ⟨q, (T.setVm vm₁).calling g' mk As.toArray, t, U', L, E, ce, hT, X', hL, e1, e2, hq, hce, hcv, vx_cls hW₁ hcl, st⟩
end
end VXH
theorem vx_ofWH {l : Launch} {y : MethodName} {ws ws' : List Cond} {rm : Room} {Pc : Array Value → State → Prop} {Qc : Array Value → State → Outcome → State → Prop} {XC : String → State → State → Prop} {mc ms : Nat} {free : Addr → Prop} {cc : ByteArray} {maxL : Nat} {ret : Option FieldType} {hh : List (Nat × Nat × Nat × Nat)}
    (hy : plainName y.cls = true) (hw : ws = Cond.codeWith y cc maxL ret hh :: ws')
    (body : ∀ p e s m args below meth c s₁, BodyLoose p l y (headSpec ws rm) cc maxL ret e s m args below meth c s₁ → c.maxLocals = maxL → Pc args s →
      W p l e (headSpec ws rm).room s m args below meth c s.heap [] 0 0 (vx_MQ below Qc XC args s mc ms free) (entryFrame m args maxL)) : vx_Met l y ws rm Pc Qc XC mc ms free := by
  refine MetFree.of_bodyS (code := cc) (maxLocals := maxL) (ret := ret) hy ?_ ?_
  · intro args s m h hn
    obtain ⟨m9, meth, c, hn9, h1, h2, h3, h4, -, h5, h6, -⟩ := Cond.codeWith_spec (atoms_spec (ws := ws) h _ (by rw [hw]; exact List.mem_cons_self))
    cases hn.symm.trans hn9
    exact ⟨meth, c, h1, h2, h3, h4, h5, h6⟩
  · intro p e s m args below meth c s₁ B hml hP _
    have hh0 : s₁.heap = s.heap := by rw [B.state]; rfl
    obtain ⟨t, a1, o, b1, b2, b3⟩ := body p e s m args below meth c s₁ B hml hP s₁ hh0 (Stand.of_body B)
    exact ⟨t, o, a1, b1, b2, b3⟩
/-! ===== END ===== -/
end
section
/-! ===== BEGIN printed: names, fields, word lists, decode rows ===== -/
def RX0 : String := "AccentModems$Lesson"
def TX0 : u_T := fun k => match k with
  | 0 => ("AccentModems$Lesson", "sizes", "[I", true)
  | _ => ("AccentModems$Lesson", "beats", "I", false)
def tyX0 : Nat → FieldType := fun k => match k with
  | 0 => .array .int
  | _ => .int
theorem nmX0 : ∀ a, a < 2 → ∀ b, b < 2 → a ≠ b → (TX0 a).2.1 ≠ (TX0 b).2.1 := by decide +kernel
theorem tyX0_ok : ∀ k, k < 2 → parseFieldDescriptor (TX0 k).2.2.1 = some (tyX0 k) := by decide +kernel
abbrev cX0_init : ByteArray := prog_2_method_1_code
def yX0_init : MethodName := ⟨RX0, "<init>", "()V"⟩
abbrev cX0_begin : ByteArray := prog_2_method_2_code
def yX0_begin : MethodName := ⟨RX0, "begin", "()V"⟩
abbrev cX0_note : ByteArray := prog_2_method_3_code
def yX0_note : MethodName := ⟨RX0, "note", "(II)V"⟩
abbrev cX0_worstOf : ByteArray := prog_2_method_4_code
def yX0_worstOf : MethodName := ⟨RX0, "worstOf", "(I)I"⟩
def RX1 : String := "AccentModems$State"
def TX1 : u_T := fun k => match k with
  | 0 => ("AccentModems$State", "there", "LAccentModems$Way;", true)
  | 1 => ("AccentModems$State", "back", "LAccentModems$Way;", true)
  | 2 => ("AccentModems$State", "settings", "[I", true)
  | 3 => ("AccentModems$State", "seed", "I", false)
  | _ => ("AccentModems$State", "beats", "I", false)
def tyX1 : Nat → FieldType := fun k => match k with
  | 0 => .object "AccentModems$Way"
  | 1 => .object "AccentModems$Way"
  | 2 => .array .int
  | 3 => .int
  | _ => .int
theorem nmX1 : ∀ a, a < 5 → ∀ b, b < 5 → a ≠ b → (TX1 a).2.1 ≠ (TX1 b).2.1 := by decide +kernel
theorem tyX1_ok : ∀ k, k < 5 → parseFieldDescriptor (TX1 k).2.2.1 = some (tyX1 k) := by decide +kernel
abbrev cX1_init : ByteArray := prog_3_method_1_code
def yX1_init : MethodName := ⟨RX1, "<init>", "()V"⟩
abbrev cX1_wayAt : ByteArray := prog_3_method_2_code
def yX1_wayAt : MethodName := ⟨RX1, "wayAt", "(I)LAccentModems$Way;"⟩
abbrev cX1_copyFrom : ByteArray := prog_3_method_3_code
def yX1_copyFrom : MethodName := ⟨RX1, "copyFrom", "(LAccentModems$State;)V"⟩
abbrev cX1_copyWayFrom : ByteArray := prog_3_method_4_code
def yX1_copyWayFrom : MethodName := ⟨RX1, "copyWayFrom", "(LAccentModems$State;I)LAccentModems$Way;"⟩
abbrev cX1_copyCommonFrom : ByteArray := prog_3_method_5_code
def yX1_copyCommonFrom : MethodName := ⟨RX1, "copyCommonFrom", "(LAccentModems$State;)V"⟩
abbrev cX1_draw : ByteArray := prog_3_method_6_code
def yX1_draw : MethodName := ⟨RX1, "draw", "(I)I"⟩
abbrev cX1_drawNoise : ByteArray := prog_3_method_7_code
def yX1_drawNoise : MethodName := ⟨RX1, "drawNoise", "(LAccentModems$Tone;)I"⟩
abbrev cX1_sendBeats : ByteArray := prog_3_method_8_code
def yX1_sendBeats : MethodName := ⟨RX1, "sendBeats", "(LAccentModems$Way;I)I"⟩
abbrev cX1_sendSign : ByteArray := prog_3_method_9_code
def yX1_sendSign : MethodName := ⟨RX1, "sendSign", "(LAccentModems$Way;LAccentModems$Tone;)I"⟩
abbrev cX1_takeLesson : ByteArray := prog_3_method_10_code
def yX1_takeLesson : MethodName := ⟨RX1, "takeLesson", "(LAccentModems$Way;ILAccentModems$Lesson;)V"⟩
abbrev cX1_learnBeat : ByteArray := prog_3_method_11_code
def yX1_learnBeat : MethodName := ⟨RX1, "learnBeat", "(LAccentModems$Way;LAccentModems$Lesson;)V"⟩
abbrev cX1_bitsBehind : ByteArray := prog_3_method_12_code
def yX1_bitsBehind : MethodName := ⟨RX1, "bitsBehind", "(LAccentModems$Way;LAccentModems$Lesson;)I"⟩
abbrev cX1_leastHurt : ByteArray := prog_3_method_13_code
def yX1_leastHurt : MethodName := ⟨RX1, "leastHurt", "(LAccentModems$Way;LAccentModems$Tone;)I"⟩
def RX2 : String := "AccentModems$Text"
def TX2 : u_T := fun k => match k with
  | 0 => ("AccentModems$Text", "characters", "[C", true)
  | _ => ("AccentModems$Text", "length", "I", false)
def tyX2 : Nat → FieldType := fun k => match k with
  | 0 => .array .char
  | _ => .int
theorem nmX2 : ∀ a, a < 2 → ∀ b, b < 2 → a ≠ b → (TX2 a).2.1 ≠ (TX2 b).2.1 := by decide +kernel
theorem tyX2_ok : ∀ k, k < 2 → parseFieldDescriptor (TX2 k).2.2.1 = some (tyX2 k) := by decide +kernel
abbrev cX2_init : ByteArray := prog_4_method_1_code
def yX2_init : MethodName := ⟨RX2, "<init>", "()V"⟩
abbrev cX2_next : ByteArray := prog_4_method_2_code
def yX2_next : MethodName := ⟨RX2, "next", "(IC)I"⟩
abbrev cX2_behindDigit : ByteArray := prog_4_method_3_code
def yX2_behindDigit : MethodName := ⟨RX2, "behindDigit", "(C)I"⟩
abbrev cX2_digitOf : ByteArray := prog_4_method_4_code
def yX2_digitOf : MethodName := ⟨RX2, "digitOf", "(C)I"⟩
abbrev cX2_errorPlace : ByteArray := prog_4_method_5_code
def yX2_errorPlace : MethodName := ⟨RX2, "errorPlace", "()I"⟩
abbrev cX2_isComplete : ByteArray := prog_4_method_6_code
def yX2_isComplete : MethodName := ⟨RX2, "isComplete", "()Z"⟩
abbrev cX2_bitsFor : ByteArray := prog_4_method_7_code
def yX2_bitsFor : MethodName := ⟨RX2, "bitsFor", "(I)I"⟩
abbrev cX2_putBits : ByteArray := prog_4_method_8_code
def yX2_putBits : MethodName := ⟨RX2, "putBits", "(LAccentModems$State;)V"⟩
def RX3 : String := "AccentModems$Tone"
def TX3 : u_T := fun k => match k with
  | 0 => ("AccentModems$Tone", "gain", "I", false)
  | 1 => ("AccentModems$Tone", "echo1", "I", false)
  | 2 => ("AccentModems$Tone", "echo2", "I", false)
  | 3 => ("AccentModems$Tone", "noise", "I", false)
  | 4 => ("AccentModems$Tone", "insult", "I", false)
  | 5 => ("AccentModems$Tone", "last", "I", false)
  | 6 => ("AccentModems$Tone", "before", "I", false)
  | 7 => ("AccentModems$Tone", "accentGain", "I", false)
  | 8 => ("AccentModems$Tone", "accentEcho1", "I", false)
  | 9 => ("AccentModems$Tone", "accentEcho2", "I", false)
  | 10 => ("AccentModems$Tone", "bits", "I", false)
  | 11 => ("AccentModems$Tone", "worst", "I", false)
  | 12 => ("AccentModems$Tone", "wrongsToShy", "I", false)
  | 13 => ("AccentModems$Tone", "shies", "I", false)
  | 14 => ("AccentModems$Tone", "signs", "I", false)
  | 15 => ("AccentModems$Tone", "wrongSigns", "I", false)
  | 16 => ("AccentModems$Tone", "taken", "I", false)
  | _ => ("AccentModems$Tone", "takenBefore", "I", false)
def tyX3 : Nat → FieldType := fun k => match k with
  | 0 => .int
  | 1 => .int
  | 2 => .int
  | 3 => .int
  | 4 => .int
  | 5 => .int
  | 6 => .int
  | 7 => .int
  | 8 => .int
  | 9 => .int
  | 10 => .int
  | 11 => .int
  | 12 => .int
  | 13 => .int
  | 14 => .int
  | 15 => .int
  | 16 => .int
  | _ => .int
theorem nmX3 : ∀ a, a < 18 → ∀ b, b < 18 → a ≠ b → (TX3 a).2.1 ≠ (TX3 b).2.1 := by decide +kernel
theorem tyX3_ok : ∀ k, k < 18 → parseFieldDescriptor (TX3 k).2.2.1 = some (tyX3 k) := by decide +kernel
abbrev cX3_init : ByteArray := prog_5_method_1_code
def yX3_init : MethodName := ⟨RX3, "<init>", "()V"⟩
abbrev cX3_copyFrom : ByteArray := prog_5_method_2_code
def yX3_copyFrom : MethodName := ⟨RX3, "copyFrom", "(LAccentModems$Tone;)V"⟩
abbrev cX3_streetNumber : ByteArray := prog_5_method_3_code
def yX3_streetNumber : MethodName := ⟨RX3, "streetNumber", "(I)I"⟩
abbrev cX3_setStreetNumber : ByteArray := prog_5_method_4_code
def yX3_setStreetNumber : MethodName := ⟨RX3, "setStreetNumber", "(II)V"⟩
abbrev cX3_accentNumber : ByteArray := prog_5_method_5_code
def yX3_accentNumber : MethodName := ⟨RX3, "accentNumber", "(I)I"⟩
abbrev cX3_amplitudeOf : ByteArray := prog_5_method_6_code
def yX3_amplitudeOf : MethodName := ⟨RX3, "amplitudeOf", "(I)I"⟩
abbrev cX3_arriving : ByteArray := prog_5_method_7_code
def yX3_arriving : MethodName := ⟨RX3, "arriving", "(II)I"⟩
abbrev cX3_expected : ByteArray := prog_5_method_8_code
def yX3_expected : MethodName := ⟨RX3, "expected", "(I)I"⟩
abbrev cX3_decide : ByteArray := prog_5_method_9_code
def yX3_decide : MethodName := ⟨RX3, "decide", "(I)I"⟩
abbrev cX3_pass : ByteArray := prog_5_method_10_code
def yX3_pass : MethodName := ⟨RX3, "pass", "(II)V"⟩
abbrev cX3_knowSignBefore : ByteArray := prog_5_method_11_code
def yX3_knowSignBefore : MethodName := ⟨RX3, "knowSignBefore", "()V"⟩
abbrev cX3_countSign : ByteArray := prog_5_method_12_code
def yX3_countSign : MethodName := ⟨RX3, "countSign", "(Z)V"⟩
abbrev cX3_becomeShyAt : ByteArray := prog_5_method_13_code
def yX3_becomeShyAt : MethodName := ⟨RX3, "becomeShyAt", "(I)V"⟩
abbrev cX3_improve : ByteArray := prog_5_method_14_code
def yX3_improve : MethodName := ⟨RX3, "improve", "(III)V"⟩
abbrev cX3_step : ByteArray := prog_5_method_15_code
def yX3_step : MethodName := ⟨RX3, "step", "(II)I"⟩
abbrev cX3_held : ByteArray := prog_5_method_16_code
def yX3_held : MethodName := ⟨RX3, "held", "(III)I"⟩
abbrev cX3_endLesson : ByteArray := prog_5_method_17_code
def yX3_endLesson : MethodName := ⟨RX3, "endLesson", "(II)V"⟩
abbrev cX3_bitsFor : ByteArray := prog_5_method_18_code
def yX3_bitsFor : MethodName := ⟨RX3, "bitsFor", "(II)I"⟩
abbrev cX3_roomWith : ByteArray := prog_5_method_19_code
def yX3_roomWith : MethodName := ⟨RX3, "roomWith", "(I)I"⟩
abbrev cX3_sureBits : ByteArray := prog_5_method_20_code
def yX3_sureBits : MethodName := ⟨RX3, "sureBits", "()I"⟩
abbrev cX3_misheardWith : ByteArray := prog_5_method_21_code
def yX3_misheardWith : MethodName := ⟨RX3, "misheardWith", "(I)I"⟩
abbrev cX3_loseAccent : ByteArray := prog_5_method_22_code
def yX3_loseAccent : MethodName := ⟨RX3, "loseAccent", "()V"⟩
def RX4 : String := "AccentModems$WaitingBits"
def TX4 : u_T := fun k => match k with
  | 0 => ("AccentModems$WaitingBits", "ring", "[I", true)
  | 1 => ("AccentModems$WaitingBits", "start", "I", false)
  | _ => ("AccentModems$WaitingBits", "size", "I", false)
def tyX4 : Nat → FieldType := fun k => match k with
  | 0 => .array .int
  | 1 => .int
  | _ => .int
theorem nmX4 : ∀ a, a < 3 → ∀ b, b < 3 → a ≠ b → (TX4 a).2.1 ≠ (TX4 b).2.1 := by decide +kernel
theorem tyX4_ok : ∀ k, k < 3 → parseFieldDescriptor (TX4 k).2.2.1 = some (tyX4 k) := by decide +kernel
abbrev cX4_init : ByteArray := prog_6_method_1_code
def yX4_init : MethodName := ⟨RX4, "<init>", "()V"⟩
abbrev cX4_copyFrom : ByteArray := prog_6_method_2_code
def yX4_copyFrom : MethodName := ⟨RX4, "copyFrom", "(LAccentModems$WaitingBits;)V"⟩
abbrev cX4_bitAt : ByteArray := prog_6_method_3_code
def yX4_bitAt : MethodName := ⟨RX4, "bitAt", "(I)I"⟩
abbrev cX4_put : ByteArray := prog_6_method_4_code
def yX4_put : MethodName := ⟨RX4, "put", "(I)V"⟩
abbrev cX4_putDigit : ByteArray := prog_6_method_5_code
def yX4_putDigit : MethodName := ⟨RX4, "putDigit", "(I)V"⟩
abbrev cX4_take : ByteArray := prog_6_method_6_code
def yX4_take : MethodName := ⟨RX4, "take", "(I)I"⟩
def RX5 : String := "AccentModems$Way"
def TX5 : u_T := fun k => match k with
  | 0 => ("AccentModems$Way", "tones", "[LAccentModems$Tone;", true)
  | 1 => ("AccentModems$Way", "waiting", "LAccentModems$WaitingBits;", true)
  | 2 => ("AccentModems$Way", "latest", "J", false)
  | 3 => ("AccentModems$Way", "came", "I", false)
  | _ => ("AccentModems$Way", "wrong", "I", false)
def tyX5 : Nat → FieldType := fun k => match k with
  | 0 => .array (.object "AccentModems$Tone")
  | 1 => .object "AccentModems$WaitingBits"
  | 2 => .long
  | 3 => .int
  | _ => .int
theorem nmX5 : ∀ a, a < 5 → ∀ b, b < 5 → a ≠ b → (TX5 a).2.1 ≠ (TX5 b).2.1 := by decide +kernel
theorem tyX5_ok : ∀ k, k < 5 → parseFieldDescriptor (TX5 k).2.2.1 = some (tyX5 k) := by decide +kernel
abbrev cX5_init : ByteArray := prog_7_method_1_code
def yX5_init : MethodName := ⟨RX5, "<init>", "()V"⟩
abbrev cX5_copyFrom : ByteArray := prog_7_method_2_code
def yX5_copyFrom : MethodName := ⟨RX5, "copyFrom", "(LAccentModems$Way;)V"⟩
abbrev cX5_receive : ByteArray := prog_7_method_3_code
def yX5_receive : MethodName := ⟨RX5, "receive", "(III)V"⟩
abbrev cX5_bits : ByteArray := prog_7_method_4_code
def yX5_bits : MethodName := ⟨RX5, "bits", "()I"⟩
abbrev cX5_shies : ByteArray := prog_7_method_5_code
def yX5_shies : MethodName := ⟨RX5, "shies", "()I"⟩
abbrev cX5_insulted : ByteArray := prog_7_method_6_code
def yX5_insulted : MethodName := ⟨RX5, "insulted", "()I"⟩
def RX6 : String := "AccentModems"
def TX6 : u_T := fun k => match k with
  | 0 => ("AccentModems", "now", "LAccentModems$State;", true)
  | 1 => ("AccentModems", "trial", "LAccentModems$State;", true)
  | 2 => ("AccentModems", "saved", "[LAccentModems$State;", true)
  | 3 => ("AccentModems", "lesson", "LAccentModems$Lesson;", true)
  | 4 => ("AccentModems", "text", "LAccentModems$Text;", true)
  | _ => ("AccentModems", "savedCount", "I", false)
def tyX6 : Nat → FieldType := fun k => match k with
  | 0 => .object "AccentModems$State"
  | 1 => .object "AccentModems$State"
  | 2 => .array (.object "AccentModems$State")
  | 3 => .object "AccentModems$Lesson"
  | 4 => .object "AccentModems$Text"
  | _ => .int
theorem nmX6 : ∀ a, a < 6 → ∀ b, b < 6 → a ≠ b → (TX6 a).2.1 ≠ (TX6 b).2.1 := by decide +kernel
theorem tyX6_ok : ∀ k, k < 6 → parseFieldDescriptor (TX6 k).2.2.1 = some (tyX6 k) := by decide +kernel
abbrev cX6_init : ByteArray := prog_1_method_1_code
def yX6_init : MethodName := ⟨RX6, "<init>", "()V"⟩
abbrev cX6_build : ByteArray := prog_1_method_2_code
def yX6_build : MethodName := ⟨RX6, "build", "(IIII)I"⟩
abbrev cX6_carry : ByteArray := prog_1_method_3_code
def yX6_carry : MethodName := ⟨RX6, "carry", "(III)I"⟩
abbrev cX6_insult : ByteArray := prog_1_method_4_code
def yX6_insult : MethodName := ⟨RX6, "insult", "(III)I"⟩
abbrev cX6_set : ByteArray := prog_1_method_5_code
def yX6_set : MethodName := ⟨RX6, "set", "(II)I"⟩
abbrev cX6_learn : ByteArray := prog_1_method_6_code
def yX6_learn : MethodName := ⟨RX6, "learn", "(II)I"⟩
abbrev cX6_send : ByteArray := prog_1_method_7_code
def yX6_send : MethodName := ⟨RX6, "send", "(II)I"⟩
abbrev cX6_forget : ByteArray := prog_1_method_8_code
def yX6_forget : MethodName := ⟨RX6, "forget", "(I)I"⟩
abbrev cX6_append : ByteArray := prog_1_method_9_code
def yX6_append : MethodName := ⟨RX6, "append", "(I)I"⟩
abbrev cX6_clearBuffer : ByteArray := prog_1_method_10_code
def yX6_clearBuffer : MethodName := ⟨RX6, "clearBuffer", "()I"⟩
abbrev cX6_firstError : ByteArray := prog_1_method_11_code
def yX6_firstError : MethodName := ⟨RX6, "firstError", "()I"⟩
abbrev cX6_say : ByteArray := prog_1_method_12_code
def yX6_say : MethodName := ⟨RX6, "say", "()I"⟩
abbrev cX6_undo : ByteArray := prog_1_method_13_code
def yX6_undo : MethodName := ⟨RX6, "undo", "()I"⟩
abbrev cX6_street : ByteArray := prog_1_method_14_code
def yX6_street : MethodName := ⟨RX6, "street", "(III)I"⟩
abbrev cX6_accent : ByteArray := prog_1_method_15_code
def yX6_accent : MethodName := ⟨RX6, "accent", "(III)I"⟩
abbrev cX6_waits : ByteArray := prog_1_method_16_code
def yX6_waits : MethodName := ⟨RX6, "waits", "(II)I"⟩
abbrev cX6_had : ByteArray := prog_1_method_17_code
def yX6_had : MethodName := ⟨RX6, "had", "(I)J"⟩
abbrev cX6_count : ByteArray := prog_1_method_18_code
def yX6_count : MethodName := ⟨RX6, "count", "(I)I"⟩
abbrev cX6_setting : ByteArray := prog_1_method_19_code
def yX6_setting : MethodName := ⟨RX6, "setting", "(I)I"⟩
abbrev cX6_sure : ByteArray := prog_1_method_20_code
def yX6_sure : MethodName := ⟨RX6, "sure", "(II)I"⟩
abbrev cX6_ifSent : ByteArray := prog_1_method_21_code
def yX6_ifSent : MethodName := ⟨RX6, "ifSent", "(III)I"⟩
abbrev cX6_ifLearned : ByteArray := prog_1_method_22_code
def yX6_ifLearned : MethodName := ⟨RX6, "ifLearned", "(II)I"⟩
abbrev cX6_beatsFor : ByteArray := prog_1_method_23_code
def yX6_beatsFor : MethodName := ⟨RX6, "beatsFor", "(I)I"⟩
abbrev cX6_bestLesson : ByteArray := prog_1_method_24_code
def yX6_bestLesson : MethodName := ⟨RX6, "bestLesson", "(I)I"⟩
abbrev cX6_hurts : ByteArray := prog_1_method_25_code
def yX6_hurts : MethodName := ⟨RX6, "hurts", "(II)I"⟩
abbrev cX6_rightShare : ByteArray := prog_1_method_26_code
def yX6_rightShare : MethodName := ⟨RX6, "rightShare", "(I)D"⟩
abbrev cX6_digest : ByteArray := prog_1_method_27_code
def yX6_digest : MethodName := ⟨RX6, "digest", "()J"⟩
abbrev cX6_digestOfTone : ByteArray := prog_1_method_28_code
def yX6_digestOfTone : MethodName := ⟨RX6, "digestOfTone", "(JII)J"⟩
abbrev cX6_digestOfWay : ByteArray := prog_1_method_29_code
def yX6_digestOfWay : MethodName := ⟨RX6, "digestOfWay", "(JI)J"⟩
abbrev cX6_bitsOfShare : ByteArray := prog_1_method_30_code
def yX6_bitsOfShare : MethodName := ⟨RX6, "bitsOfShare", "(D)J"⟩
abbrev cX6_wayOf : ByteArray := prog_1_method_31_code
def yX6_wayOf : MethodName := ⟨RX6, "wayOf", "(I)LAccentModems$Way;"⟩
abbrev cX6_toneOf : ByteArray := prog_1_method_32_code
def yX6_toneOf : MethodName := ⟨RX6, "toneOf", "(II)LAccentModems$Tone;"⟩
abbrev cX6_checkStreetNumber : ByteArray := prog_1_method_33_code
def yX6_checkStreetNumber : MethodName := ⟨RX6, "checkStreetNumber", "(II)V"⟩
abbrev cX6_checkSetting : ByteArray := prog_1_method_34_code
def yX6_checkSetting : MethodName := ⟨RX6, "checkSetting", "(I)V"⟩
abbrev cX6_checkBeats : ByteArray := prog_1_method_35_code
def yX6_checkBeats : MethodName := ⟨RX6, "checkBeats", "(I)V"⟩
abbrev cX6_checkBeatsLeft : ByteArray := prog_1_method_36_code
def yX6_checkBeatsLeft : MethodName := ⟨RX6, "checkBeatsLeft", "(I)V"⟩
abbrev cX6_save : ByteArray := prog_1_method_37_code
def yX6_save : MethodName := ⟨RX6, "save", "()V"⟩
abbrev cX6_dropOldest : ByteArray := prog_1_method_38_code
def yX6_dropOldest : MethodName := ⟨RX6, "dropOldest", "()V"⟩
def RX7 : String := "AccentModemsModel"
def TX7 : u_T := fun k => match k with
  | 0 => ("AccentModemsModel", "z", "[I", true)
  | 1 => ("AccentModemsModel", "rows", "[I", true)
  | 2 => ("AccentModemsModel", "aside", "[I", true)
  | 3 => ("AccentModemsModel", "had", "[J", true)
  | 4 => ("AccentModemsModel", "hads", "[J", true)
  | 5 => ("AccentModemsModel", "hadAside", "[J", true)
  | 6 => ("AccentModemsModel", "savedMany", "I", false)
  | 7 => ("AccentModemsModel", "buffer", "[I", true)
  | 8 => ("AccentModemsModel", "bufferMany", "I", false)
  | 9 => ("AccentModemsModel", "thrown", "I", false)
  | 10 => ("AccentModemsModel", "errors", "[I", true)
  | 11 => ("AccentModemsModel", "errorAt", "I", false)
  | 12 => ("AccentModemsModel", "isWhole", "Z", false)
  | _ => ("AccentModemsModel", "h", "J", false)
def tyX7 : Nat → FieldType := fun k => match k with
  | 0 => .array .int
  | 1 => .array .int
  | 2 => .array .int
  | 3 => .array .long
  | 4 => .array .long
  | 5 => .array .long
  | 6 => .int
  | 7 => .array .int
  | 8 => .int
  | 9 => .int
  | 10 => .array .int
  | 11 => .int
  | 12 => .boolean
  | _ => .long
theorem nmX7 : ∀ a, a < 14 → ∀ b, b < 14 → a ≠ b → (TX7 a).2.1 ≠ (TX7 b).2.1 := by decide +kernel
theorem tyX7_ok : ∀ k, k < 14 → parseFieldDescriptor (TX7 k).2.2.1 = some (tyX7 k) := by decide +kernel
abbrev cX7_init : ByteArray := prog_9_method_1_code
def yX7_init : MethodName := ⟨RX7, "<init>", "()V"⟩
abbrev cX7_thrown : ByteArray := prog_9_method_2_code
def yX7_thrown : MethodName := ⟨RX7, "thrown", "()I"⟩
abbrev cX7_fails : ByteArray := prog_9_method_3_code
def yX7_fails : MethodName := ⟨RX7, "fails", "(I)I"⟩
abbrev cX7_in : ByteArray := prog_9_method_4_code
def yX7_in : MethodName := ⟨RX7, "in", "(III)Z"⟩
abbrev cX7_size : ByteArray := prog_9_method_5_code
def yX7_size : MethodName := ⟨RX7, "size", "(I)I"⟩
abbrev cX7_isWay : ByteArray := prog_9_method_6_code
def yX7_isWay : MethodName := ⟨RX7, "isWay", "(I)Z"⟩
abbrev cX7_isTone : ByteArray := prog_9_method_7_code
def yX7_isTone : MethodName := ⟨RX7, "isTone", "(I)Z"⟩
abbrev cX7_streetAt : ByteArray := prog_9_method_8_code
def yX7_streetAt : MethodName := ⟨RX7, "streetAt", "(II)I"⟩
abbrev cX7_accentAt : ByteArray := prog_9_method_9_code
def yX7_accentAt : MethodName := ⟨RX7, "accentAt", "(II)I"⟩
abbrev cX7_save : ByteArray := prog_9_method_10_code
def yX7_save : MethodName := ⟨RX7, "save", "()V"⟩
abbrev cX7_putAside : ByteArray := prog_9_method_11_code
def yX7_putAside : MethodName := ⟨RX7, "putAside", "()V"⟩
abbrev cX7_putBack : ByteArray := prog_9_method_12_code
def yX7_putBack : MethodName := ⟨RX7, "putBack", "()V"⟩
abbrev cX7_mayBuild : ByteArray := prog_9_method_13_code
def yX7_mayBuild : MethodName := ⟨RX7, "mayBuild", "(II)Z"⟩
abbrev cX7_build : ByteArray := prog_9_method_14_code
def yX7_build : MethodName := ⟨RX7, "build", "(IIII)I"⟩
abbrev cX7_carry : ByteArray := prog_9_method_15_code
def yX7_carry : MethodName := ⟨RX7, "carry", "(III)I"⟩
abbrev cX7_insult : ByteArray := prog_9_method_16_code
def yX7_insult : MethodName := ⟨RX7, "insult", "(III)I"⟩
abbrev cX7_maySet : ByteArray := prog_9_method_17_code
def yX7_maySet : MethodName := ⟨RX7, "maySet", "(II)Z"⟩
abbrev cX7_set : ByteArray := prog_9_method_18_code
def yX7_set : MethodName := ⟨RX7, "set", "(II)I"⟩
abbrev cX7_draw : ByteArray := prog_9_method_19_code
def yX7_draw : MethodName := ⟨RX7, "draw", "(I)I"⟩
abbrev cX7_amplitude : ByteArray := prog_9_method_20_code
def yX7_amplitude : MethodName := ⟨RX7, "amplitude", "(II)I"⟩
abbrev cX7_hear : ByteArray := prog_9_method_21_code
def yX7_hear : MethodName := ⟨RX7, "hear", "(III)I"⟩
abbrev cX7_held : ByteArray := prog_9_method_22_code
def yX7_held : MethodName := ⟨RX7, "held", "(III)I"⟩
abbrev cX7_learnTone : ByteArray := prog_9_method_23_code
def yX7_learnTone : MethodName := ⟨RX7, "learnTone", "(III)V"⟩
abbrev cX7_learnBeat : ByteArray := prog_9_method_24_code
def yX7_learnBeat : MethodName := ⟨RX7, "learnBeat", "(II)V"⟩
abbrev cX7_worstOf : ByteArray := prog_9_method_25_code
def yX7_worstOf : MethodName := ⟨RX7, "worstOf", "(II)I"⟩
abbrev cX7_bitsBy : ByteArray := prog_9_method_26_code
def yX7_bitsBy : MethodName := ⟨RX7, "bitsBy", "(II)I"⟩
abbrev cX7_lessonBits : ByteArray := prog_9_method_27_code
def yX7_lessonBits : MethodName := ⟨RX7, "lessonBits", "(II)I"⟩
abbrev cX7_carried : ByteArray := prog_9_method_28_code
def yX7_carried : MethodName := ⟨RX7, "carried", "(I)I"⟩
abbrev cX7_learnAll : ByteArray := prog_9_method_29_code
def yX7_learnAll : MethodName := ⟨RX7, "learnAll", "(II)I"⟩
abbrev cX7_mayBeat : ByteArray := prog_9_method_30_code
def yX7_mayBeat : MethodName := ⟨RX7, "mayBeat", "(II)Z"⟩
abbrev cX7_learn : ByteArray := prog_9_method_31_code
def yX7_learn : MethodName := ⟨RX7, "learn", "(II)I"⟩
abbrev cX7_takeBit : ByteArray := prog_9_method_32_code
def yX7_takeBit : MethodName := ⟨RX7, "takeBit", "(I)I"⟩
abbrev cX7_decide : ByteArray := prog_9_method_33_code
def yX7_decide : MethodName := ⟨RX7, "decide", "(III)I"⟩
abbrev cX7_ones : ByteArray := prog_9_method_34_code
def yX7_ones : MethodName := ⟨RX7, "ones", "(I)I"⟩
abbrev cX7_sendTone : ByteArray := prog_9_method_35_code
def yX7_sendTone : MethodName := ⟨RX7, "sendTone", "(II)I"⟩
abbrev cX7_sendBeat : ByteArray := prog_9_method_36_code
def yX7_sendBeat : MethodName := ⟨RX7, "sendBeat", "(I)I"⟩
abbrev cX7_sendAll : ByteArray := prog_9_method_37_code
def yX7_sendAll : MethodName := ⟨RX7, "sendAll", "(II)I"⟩
abbrev cX7_send : ByteArray := prog_9_method_38_code
def yX7_send : MethodName := ⟨RX7, "send", "(II)I"⟩
abbrev cX7_forget : ByteArray := prog_9_method_39_code
def yX7_forget : MethodName := ⟨RX7, "forget", "(I)I"⟩
abbrev cX7_append : ByteArray := prog_9_method_40_code
def yX7_append : MethodName := ⟨RX7, "append", "(I)I"⟩
abbrev cX7_clearBuffer : ByteArray := prog_9_method_41_code
def yX7_clearBuffer : MethodName := ⟨RX7, "clearBuffer", "()I"⟩
abbrev cX7_digit : ByteArray := prog_9_method_42_code
def yX7_digit : MethodName := ⟨RX7, "digit", "(I)I"⟩
abbrev cX7_nextState : ByteArray := prog_9_method_43_code
def yX7_nextState : MethodName := ⟨RX7, "nextState", "(II)I"⟩
abbrev cX7_read : ByteArray := prog_9_method_44_code
def yX7_read : MethodName := ⟨RX7, "read", "()V"⟩
abbrev cX7_firstError : ByteArray := prog_9_method_45_code
def yX7_firstError : MethodName := ⟨RX7, "firstError", "()I"⟩
abbrev cX7_saidOn : ByteArray := prog_9_method_46_code
def yX7_saidOn : MethodName := ⟨RX7, "saidOn", "(I)I"⟩
abbrev cX7_say : ByteArray := prog_9_method_47_code
def yX7_say : MethodName := ⟨RX7, "say", "()I"⟩
abbrev cX7_undo : ByteArray := prog_9_method_48_code
def yX7_undo : MethodName := ⟨RX7, "undo", "()I"⟩
abbrev cX7_street : ByteArray := prog_9_method_49_code
def yX7_street : MethodName := ⟨RX7, "street", "(III)I"⟩
abbrev cX7_accent : ByteArray := prog_9_method_50_code
def yX7_accent : MethodName := ⟨RX7, "accent", "(III)I"⟩
abbrev cX7_waits : ByteArray := prog_9_method_51_code
def yX7_waits : MethodName := ⟨RX7, "waits", "(II)I"⟩
abbrev cX7_had : ByteArray := prog_9_method_52_code
def yX7_had : MethodName := ⟨RX7, "had", "(I)J"⟩
abbrev cX7_shyAll : ByteArray := prog_9_method_53_code
def yX7_shyAll : MethodName := ⟨RX7, "shyAll", "()I"⟩
abbrev cX7_insults : ByteArray := prog_9_method_54_code
def yX7_insults : MethodName := ⟨RX7, "insults", "()I"⟩
abbrev cX7_counted : ByteArray := prog_9_method_55_code
def yX7_counted : MethodName := ⟨RX7, "counted", "(I)I"⟩
abbrev cX7_count : ByteArray := prog_9_method_56_code
def yX7_count : MethodName := ⟨RX7, "count", "(I)I"⟩
abbrev cX7_setting : ByteArray := prog_9_method_57_code
def yX7_setting : MethodName := ⟨RX7, "setting", "(I)I"⟩
abbrev cX7_sureOf : ByteArray := prog_9_method_58_code
def yX7_sureOf : MethodName := ⟨RX7, "sureOf", "(II)I"⟩
abbrev cX7_sure : ByteArray := prog_9_method_59_code
def yX7_sure : MethodName := ⟨RX7, "sure", "(II)I"⟩
abbrev cX7_sentOf : ByteArray := prog_9_method_60_code
def yX7_sentOf : MethodName := ⟨RX7, "sentOf", "(III)I"⟩
abbrev cX7_ifSent : ByteArray := prog_9_method_61_code
def yX7_ifSent : MethodName := ⟨RX7, "ifSent", "(III)I"⟩
abbrev cX7_learnedOf : ByteArray := prog_9_method_62_code
def yX7_learnedOf : MethodName := ⟨RX7, "learnedOf", "(II)I"⟩
abbrev cX7_ifLearned : ByteArray := prog_9_method_63_code
def yX7_ifLearned : MethodName := ⟨RX7, "ifLearned", "(II)I"⟩
abbrev cX7_beatsOf : ByteArray := prog_9_method_64_code
def yX7_beatsOf : MethodName := ⟨RX7, "beatsOf", "(I)I"⟩
abbrev cX7_beatsFor : ByteArray := prog_9_method_65_code
def yX7_beatsFor : MethodName := ⟨RX7, "beatsFor", "(I)I"⟩
abbrev cX7_lessonOf : ByteArray := prog_9_method_66_code
def yX7_lessonOf : MethodName := ⟨RX7, "lessonOf", "(I)I"⟩
abbrev cX7_bestLesson : ByteArray := prog_9_method_67_code
def yX7_bestLesson : MethodName := ⟨RX7, "bestLesson", "(I)I"⟩
abbrev cX7_hurtsOf : ByteArray := prog_9_method_68_code
def yX7_hurtsOf : MethodName := ⟨RX7, "hurtsOf", "(II)I"⟩
abbrev cX7_hurts : ByteArray := prog_9_method_69_code
def yX7_hurts : MethodName := ⟨RX7, "hurts", "(II)I"⟩
abbrev cX7_shareOf : ByteArray := prog_9_method_70_code
def yX7_shareOf : MethodName := ⟨RX7, "shareOf", "(I)D"⟩
abbrev cX7_rightShare : ByteArray := prog_9_method_71_code
def yX7_rightShare : MethodName := ⟨RX7, "rightShare", "(I)D"⟩
abbrev cX7_mix : ByteArray := prog_9_method_72_code
def yX7_mix : MethodName := ⟨RX7, "mix", "(J)V"⟩
abbrev cX7_mixWay : ByteArray := prog_9_method_73_code
def yX7_mixWay : MethodName := ⟨RX7, "mixWay", "(I)V"⟩
abbrev cX7_digest : ByteArray := prog_9_method_74_code
def yX7_digest : MethodName := ⟨RX7, "digest", "()J"⟩
def RJxe99ae : String := "java/lang/Double"
def TJxe99ae : u_T := fun k => match k with
  | _ => ("", "", "", false)
def tyJxe99ae : Nat → FieldType := fun k => match k with
  | _ => .int
theorem nmJxe99ae : ∀ a, a < 0 → ∀ b, b < 0 → a ≠ b → (TJxe99ae a).2.1 ≠ (TJxe99ae b).2.1 := by decide +kernel
theorem tyJxe99ae_ok : ∀ k, k < 0 → parseFieldDescriptor (TJxe99ae k).2.2.1 = some (tyJxe99ae k) := by decide +kernel
abbrev cJxe99ae_isNaN_b9ae7 : ByteArray := prog_10_method_6_code
def yJxe99ae_isNaN_b9ae7 : MethodName := ⟨RJxe99ae, "isNaN", "(D)Z"⟩
abbrev cJxe99ae_doubleToLongBits_ccdee : ByteArray := prog_10_method_23_code
def yJxe99ae_doubleToLongBits_ccdee : MethodName := ⟨RJxe99ae, "doubleToLongBits", "(D)J"⟩
def RJ6 : String := "java/lang/Integer"
def TJ6 : u_T := fun k => match k with
  | _ => ("", "", "", false)
def tyJ6 : Nat → FieldType := fun k => match k with
  | _ => .int
theorem nmJ6 : ∀ a, a < 0 → ∀ b, b < 0 → a ≠ b → (TJ6 a).2.1 ≠ (TJ6 b).2.1 := by decide +kernel
theorem tyJ6_ok : ∀ k, k < 0 → parseFieldDescriptor (TJ6 k).2.2.1 = some (tyJ6 k) := by decide +kernel
abbrev cJ6_bitCount_0f7a4 : ByteArray := prog_15_method_49_code
def yJ6_bitCount_0f7a4 : MethodName := ⟨RJ6, "bitCount", "(I)I"⟩
def RJ9 : String := "java/lang/Math"
def TJ9 : u_T := fun k => match k with
  | _ => ("", "", "", false)
def tyJ9 : Nat → FieldType := fun k => match k with
  | _ => .int
theorem nmJ9 : ∀ a, a < 0 → ∀ b, b < 0 → a ≠ b → (TJ9 a).2.1 ≠ (TJ9 b).2.1 := by decide +kernel
theorem tyJ9_ok : ∀ k, k < 0 → parseFieldDescriptor (TJ9 k).2.2.1 = some (tyJ9 k) := by decide +kernel
abbrev cJ9_floorMod_7cf53 : ByteArray := prog_16_method_50_code
def yJ9_floorMod_7cf53 : MethodName := ⟨RJ9, "floorMod", "(II)I"⟩
abbrev cJ9_abs_0f7a4 : ByteArray := prog_16_method_59_code
def yJ9_abs_0f7a4 : MethodName := ⟨RJ9, "abs", "(I)I"⟩
abbrev cJ9_max_7cf53 : ByteArray := prog_16_method_65_code
def yJ9_max_7cf53 : MethodName := ⟨RJ9, "max", "(II)I"⟩
abbrev cJ9_min_7cf53 : ByteArray := prog_16_method_69_code
def yJ9_min_7cf53 : MethodName := ⟨RJ9, "min", "(II)I"⟩
def RJ0 : String := "java/lang/String"
def TJ0 : u_T := fun k => match k with
  | _ => ("", "", "", false)
def tyJ0 : Nat → FieldType := fun k => match k with
  | _ => .int
theorem nmJ0 : ∀ a, a < 0 → ∀ b, b < 0 → a ≠ b → (TJ0 a).2.1 ≠ (TJ0 b).2.1 := by decide +kernel
theorem tyJ0_ok : ∀ k, k < 0 → parseFieldDescriptor (TJ0 k).2.2.1 = some (tyJ0 k) := by decide +kernel
def RJ10 : String := "java/lang/System"
def TJ10 : u_T := fun k => match k with
  | _ => ("", "", "", false)
def tyJ10 : Nat → FieldType := fun k => match k with
  | _ => .int
theorem nmJ10 : ∀ a, a < 0 → ∀ b, b < 0 → a ≠ b → (TJ10 a).2.1 ≠ (TJ10 b).2.1 := by decide +kernel
theorem tyJ10_ok : ∀ k, k < 0 → parseFieldDescriptor (TJ10 k).2.2.1 = some (tyJ10 k) := by decide +kernel
def RL : String := "AccentModemsLaw"
abbrev cL_build : ByteArray := method_3_code
def yL_build : MethodName := ⟨RL, "build", "(LAccentModems;IIII[J)I"⟩
abbrev cL_carry : ByteArray := method_4_code
def yL_carry : MethodName := ⟨RL, "carry", "(LAccentModems;III[J)I"⟩
abbrev cL_insult : ByteArray := method_5_code
def yL_insult : MethodName := ⟨RL, "insult", "(LAccentModems;III[J)I"⟩
abbrev cL_set : ByteArray := method_6_code
def yL_set : MethodName := ⟨RL, "set", "(LAccentModems;II[J)I"⟩
abbrev cL_learn : ByteArray := method_7_code
def yL_learn : MethodName := ⟨RL, "learn", "(LAccentModems;II[J)I"⟩
abbrev cL_send : ByteArray := method_8_code
def yL_send : MethodName := ⟨RL, "send", "(LAccentModems;II[J)I"⟩
abbrev cL_forget : ByteArray := method_9_code
def yL_forget : MethodName := ⟨RL, "forget", "(LAccentModems;I[J)I"⟩
abbrev cL_append : ByteArray := method_10_code
def yL_append : MethodName := ⟨RL, "append", "(LAccentModems;I[J)I"⟩
abbrev cL_say : ByteArray := method_11_code
def yL_say : MethodName := ⟨RL, "say", "(LAccentModems;[J)I"⟩
abbrev cL_undo : ByteArray := method_12_code
def yL_undo : MethodName := ⟨RL, "undo", "(LAccentModems;[J)I"⟩
abbrev cL_street : ByteArray := method_13_code
def yL_street : MethodName := ⟨RL, "street", "(LAccentModems;III[J)I"⟩
abbrev cL_accent : ByteArray := method_14_code
def yL_accent : MethodName := ⟨RL, "accent", "(LAccentModems;III[J)I"⟩
abbrev cL_waits : ByteArray := method_15_code
def yL_waits : MethodName := ⟨RL, "waits", "(LAccentModems;II[J)I"⟩
abbrev cL_had : ByteArray := method_16_code
def yL_had : MethodName := ⟨RL, "had", "(LAccentModems;I[J)I"⟩
abbrev cL_count : ByteArray := method_17_code
def yL_count : MethodName := ⟨RL, "count", "(LAccentModems;I[J)I"⟩
abbrev cL_setting : ByteArray := method_18_code
def yL_setting : MethodName := ⟨RL, "setting", "(LAccentModems;I[J)I"⟩
abbrev cL_sure : ByteArray := method_19_code
def yL_sure : MethodName := ⟨RL, "sure", "(LAccentModems;II[J)I"⟩
abbrev cL_ifSent : ByteArray := method_20_code
def yL_ifSent : MethodName := ⟨RL, "ifSent", "(LAccentModems;III[J)I"⟩
abbrev cL_ifLearned : ByteArray := method_21_code
def yL_ifLearned : MethodName := ⟨RL, "ifLearned", "(LAccentModems;II[J)I"⟩
abbrev cL_beatsFor : ByteArray := method_22_code
def yL_beatsFor : MethodName := ⟨RL, "beatsFor", "(LAccentModems;I[J)I"⟩
abbrev cL_bestLesson : ByteArray := method_23_code
def yL_bestLesson : MethodName := ⟨RL, "bestLesson", "(LAccentModems;I[J)I"⟩
abbrev cL_hurts : ByteArray := method_24_code
def yL_hurts : MethodName := ⟨RL, "hurts", "(LAccentModems;II[J)I"⟩
abbrev cL_rightShare : ByteArray := method_25_code
def yL_rightShare : MethodName := ⟨RL, "rightShare", "(LAccentModems;I[D)I"⟩
abbrev cL_law : ByteArray := code
def yL_law : MethodName := ⟨RL, "law", "([I)Z"⟩
abbrev MI : Type := MethodName × ByteArray × Nat × Option FieldType × List (Nat × Nat × Nat × Nat) × Nat
abbrev mnm (Y : MI) : MethodName := Y.1
abbrev mcd (Y : MI) : ByteArray := Y.2.1
abbrev mml (Y : MI) : Nat := Y.2.2.1
abbrev mrt (Y : MI) : Option FieldType := Y.2.2.2.1
abbrev mhh (Y : MI) : List (Nat × Nat × Nat × Nat) := Y.2.2.2.2.1
abbrev mdp (Y : MI) : Nat := Y.2.2.2.2.2
abbrev gCl : List vw_C := [(RX0, TX0, 2), (RX1, TX1, 5), (RX2, TX2, 2), (RX3, TX3, 18), (RX4, TX4, 3), (RX5, TX5, 5), (RX6, TX6, 6), (RX7, TX7, 14)]
/-- a listing of a method: program counter, instruction, length -/
abbrev LI : Type := List (Nat × Instr × Nat)
def Lst (Y : MI) (L : LI) : Prop := ∀ q ∈ L, decode (mcd Y) q.1 = .ok q.2
/-- a word of the tables that goes to every callee -/
def gw (w : Cond) : Prop := w ∈ lw_tbl ∧ goodWord w = true
-- methods
def YX0_init : MI := (yX0_init, cX0_init, 1, none, [], 1)
def YX0_begin : MI := (yX0_begin, cX0_begin, 2, none, [], 0)
def YX0_note : MI := (yX0_note, cX0_note, 4, none, [], 1)
def YX0_worstOf : MI := (yX0_worstOf, cX0_worstOf, 5, (some .int), [], 1)
def YX1_init : MI := (yX1_init, cX1_init, 1, none, [], 3)
def YX1_wayAt : MI := (yX1_wayAt, cX1_wayAt, 2, (some (.object "AccentModems$Way")), [], 0)
def YX1_copyFrom : MI := (yX1_copyFrom, cX1_copyFrom, 2, none, [], 3)
def YX1_copyWayFrom : MI := (yX1_copyWayFrom, cX1_copyWayFrom, 4, (some (.object "AccentModems$Way")), [], 3)
def YX1_copyCommonFrom : MI := (yX1_copyCommonFrom, cX1_copyCommonFrom, 2, none, [], 1)
def YX1_draw : MI := (yX1_draw, cX1_draw, 2, (some .int), [], 0)
def YX1_drawNoise : MI := (yX1_drawNoise, cX1_drawNoise, 2, (some .int), [], 1)
def YX1_sendBeats : MI := (yX1_sendBeats, cX1_sendBeats, 6, (some .int), [], 3)
def YX1_sendSign : MI := (yX1_sendSign, cX1_sendSign, 7, (some .int), [], 2)
def YX1_takeLesson : MI := (yX1_takeLesson, cX1_takeLesson, 5, none, [], 3)
def YX1_learnBeat : MI := (yX1_learnBeat, cX1_learnBeat, 7, none, [], 2)
def YX1_bitsBehind : MI := (yX1_bitsBehind, cX1_bitsBehind, 5, (some .int), [], 2)
def YX1_leastHurt : MI := (yX1_leastHurt, cX1_leastHurt, 6, (some .int), [], 2)
def YX2_init : MI := (yX2_init, cX2_init, 1, none, [], 1)
def YX2_next : MI := (yX2_next, cX2_next, 2, (some .int), [], 2)
def YX2_behindDigit : MI := (yX2_behindDigit, cX2_behindDigit, 1, (some .int), [], 1)
def YX2_digitOf : MI := (yX2_digitOf, cX2_digitOf, 1, (some .int), [], 0)
def YX2_errorPlace : MI := (yX2_errorPlace, cX2_errorPlace, 3, (some .int), [], 3)
def YX2_isComplete : MI := (yX2_isComplete, cX2_isComplete, 3, (some .boolean), [], 3)
def YX2_bitsFor : MI := (yX2_bitsFor, cX2_bitsFor, 7, (some .int), [], 3)
def YX2_putBits : MI := (yX2_putBits, cX2_putBits, 6, none, [], 3)
def YX3_init : MI := (yX3_init, cX3_init, 1, none, [], 1)
def YX3_copyFrom : MI := (yX3_copyFrom, cX3_copyFrom, 2, none, [], 0)
def YX3_streetNumber : MI := (yX3_streetNumber, cX3_streetNumber, 2, (some .int), [], 0)
def YX3_setStreetNumber : MI := (yX3_setStreetNumber, cX3_setStreetNumber, 3, none, [], 0)
def YX3_accentNumber : MI := (yX3_accentNumber, cX3_accentNumber, 2, (some .int), [], 0)
def YX3_amplitudeOf : MI := (yX3_amplitudeOf, cX3_amplitudeOf, 2, (some .int), [], 0)
def YX3_arriving : MI := (yX3_arriving, cX3_arriving, 3, (some .int), [], 0)
def YX3_expected : MI := (yX3_expected, cX3_expected, 2, (some .int), [], 0)
def YX3_decide : MI := (yX3_decide, cX3_decide, 5, (some .int), [], 1)
def YX3_pass : MI := (yX3_pass, cX3_pass, 3, none, [], 0)
def YX3_knowSignBefore : MI := (yX3_knowSignBefore, cX3_knowSignBefore, 1, none, [], 0)
def YX3_countSign : MI := (yX3_countSign, cX3_countSign, 2, none, [], 0)
def YX3_becomeShyAt : MI := (yX3_becomeShyAt, cX3_becomeShyAt, 2, none, [], 0)
def YX3_improve : MI := (yX3_improve, cX3_improve, 4, none, [], 1)
def YX3_step : MI := (yX3_step, cX3_step, 2, (some .int), [], 0)
def YX3_held : MI := (yX3_held, cX3_held, 3, (some .int), [], 0)
def YX3_endLesson : MI := (yX3_endLesson, cX3_endLesson, 3, none, [], 2)
def YX3_bitsFor : MI := (yX3_bitsFor, cX3_bitsFor, 5, (some .int), [], 1)
def YX3_roomWith : MI := (yX3_roomWith, cX3_roomWith, 2, (some .int), [], 0)
def YX3_sureBits : MI := (yX3_sureBits, cX3_sureBits, 2, (some .int), [], 2)
def YX3_misheardWith : MI := (yX3_misheardWith, cX3_misheardWith, 4, (some .int), [], 1)
def YX3_loseAccent : MI := (yX3_loseAccent, cX3_loseAccent, 1, none, [], 0)
def YX4_init : MI := (yX4_init, cX4_init, 1, none, [], 1)
def YX4_copyFrom : MI := (yX4_copyFrom, cX4_copyFrom, 2, none, [], 1)
def YX4_bitAt : MI := (yX4_bitAt, cX4_bitAt, 2, (some .int), [], 0)
def YX4_put : MI := (yX4_put, cX4_put, 2, none, [], 0)
def YX4_putDigit : MI := (yX4_putDigit, cX4_putDigit, 3, none, [], 1)
def YX4_take : MI := (yX4_take, cX4_take, 4, (some .int), [], 1)
def YX5_init : MI := (yX5_init, cX5_init, 2, none, [], 2)
def YX5_copyFrom : MI := (yX5_copyFrom, cX5_copyFrom, 3, none, [], 2)
def YX5_receive : MI := (yX5_receive, cX5_receive, 4, none, [], 0)
def YX5_bits : MI := (yX5_bits, cX5_bits, 3, (some .int), [], 0)
def YX5_shies : MI := (yX5_shies, cX5_shies, 3, (some .int), [], 0)
def YX5_insulted : MI := (yX5_insulted, cX5_insulted, 3, (some .int), [], 0)
def YX6_init : MI := (yX6_init, cX6_init, 2, none, [], 4)
def YX6_build : MI := (yX6_build, cX6_build, 7, (some .int), [], 8)
def YX6_carry : MI := (yX6_carry, cX6_carry, 6, (some .int), [], 8)
def YX6_insult : MI := (yX6_insult, cX6_insult, 6, (some .int), [], 8)
def YX6_set : MI := (yX6_set, cX6_set, 4, (some .int), [], 7)
def YX6_learn : MI := (yX6_learn, cX6_learn, 4, (some .int), [], 7)
def YX6_send : MI := (yX6_send, cX6_send, 4, (some .int), [], 7)
def YX6_forget : MI := (yX6_forget, cX6_forget, 5, (some .int), [], 7)
def YX6_append : MI := (yX6_append, cX6_append, 2, (some .int), [], 6)
def YX6_clearBuffer : MI := (yX6_clearBuffer, cX6_clearBuffer, 2, (some .int), [], 0)
def YX6_firstError : MI := (yX6_firstError, cX6_firstError, 1, (some .int), [], 4)
def YX6_say : MI := (yX6_say, cX6_say, 3, (some .int), [], 6)
def YX6_undo : MI := (yX6_undo, cX6_undo, 1, (some .int), [], 6)
def YX6_street : MI := (yX6_street, cX6_street, 5, (some .int), [], 8)
def YX6_accent : MI := (yX6_accent, cX6_accent, 5, (some .int), [], 8)
def YX6_waits : MI := (yX6_waits, cX6_waits, 4, (some .int), [], 7)
def YX6_had : MI := (yX6_had, cX6_had, 2, (some .long), [], 7)
def YX6_count : MI := (yX6_count, cX6_count, 2, (some .int), [], 6)
def YX6_setting : MI := (yX6_setting, cX6_setting, 2, (some .int), [], 7)
def YX6_sure : MI := (yX6_sure, cX6_sure, 3, (some .int), [], 8)
def YX6_ifSent : MI := (yX6_ifSent, cX6_ifSent, 7, (some .int), [], 7)
def YX6_ifLearned : MI := (yX6_ifLearned, cX6_ifLearned, 4, (some .int), [], 7)
def YX6_beatsFor : MI := (yX6_beatsFor, cX6_beatsFor, 4, (some .int), [], 7)
def YX6_bestLesson : MI := (yX6_bestLesson, cX6_bestLesson, 7, (some .int), [], 7)
def YX6_hurts : MI := (yX6_hurts, cX6_hurts, 5, (some .int), [], 8)
def YX6_rightShare : MI := (yX6_rightShare, cX6_rightShare, 3, (some .double), [], 7)
def YX6_digest : MI := (yX6_digest, cX6_digest, 5, (some .long), [], 10)
def YX6_digestOfTone : MI := (yX6_digestOfTone, cX6_digestOfTone, 8, (some .long), [], 9)
def YX6_digestOfWay : MI := (yX6_digestOfWay, cX6_digestOfWay, 8, (some .long), [], 8)
def YX6_bitsOfShare : MI := (yX6_bitsOfShare, cX6_bitsOfShare, 7, (some .long), [], 0)
def YX6_wayOf : MI := (yX6_wayOf, cX6_wayOf, 2, (some (.object "AccentModems$Way")), [], 6)
def YX6_toneOf : MI := (yX6_toneOf, cX6_toneOf, 4, (some (.object "AccentModems$Tone")), [], 7)
def YX6_checkStreetNumber : MI := (yX6_checkStreetNumber, cX6_checkStreetNumber, 2, none, [], 6)
def YX6_checkSetting : MI := (yX6_checkSetting, cX6_checkSetting, 1, none, [], 6)
def YX6_checkBeats : MI := (yX6_checkBeats, cX6_checkBeats, 1, none, [], 6)
def YX6_checkBeatsLeft : MI := (yX6_checkBeatsLeft, cX6_checkBeatsLeft, 2, none, [], 6)
def YX6_save : MI := (yX6_save, cX6_save, 1, none, [], 4)
def YX6_dropOldest : MI := (yX6_dropOldest, cX6_dropOldest, 3, none, [], 0)
def YX7_init : MI := (yX7_init, cX7_init, 2, none, [], 1)
def YX7_thrown : MI := (yX7_thrown, cX7_thrown, 1, (some .int), [], 0)
def YX7_fails : MI := (yX7_fails, cX7_fails, 2, (some .int), [], 0)
def YX7_in : MI := (yX7_in, cX7_in, 3, (some .boolean), [], 0)
def YX7_size : MI := (yX7_size, cX7_size, 1, (some .int), [], 0)
def YX7_isWay : MI := (yX7_isWay, cX7_isWay, 1, (some .boolean), [], 1)
def YX7_isTone : MI := (yX7_isTone, cX7_isTone, 1, (some .boolean), [], 1)
def YX7_streetAt : MI := (yX7_streetAt, cX7_streetAt, 3, (some .int), [], 0)
def YX7_accentAt : MI := (yX7_accentAt, cX7_accentAt, 3, (some .int), [], 0)
def YX7_save : MI := (yX7_save, cX7_save, 2, none, [], 0)
def YX7_putAside : MI := (yX7_putAside, cX7_putAside, 2, none, [], 0)
def YX7_putBack : MI := (yX7_putBack, cX7_putBack, 2, none, [], 0)
def YX7_mayBuild : MI := (yX7_mayBuild, cX7_mayBuild, 2, (some .boolean), [], 1)
def YX7_build : MI := (yX7_build, cX7_build, 7, (some .int), [], 2)
def YX7_carry : MI := (yX7_carry, cX7_carry, 6, (some .int), [], 2)
def YX7_insult : MI := (yX7_insult, cX7_insult, 5, (some .int), [], 2)
def YX7_maySet : MI := (yX7_maySet, cX7_maySet, 2, (some .boolean), [], 1)
def YX7_set : MI := (yX7_set, cX7_set, 4, (some .int), [], 2)
def YX7_draw : MI := (yX7_draw, cX7_draw, 4, (some .int), [], 0)
def YX7_amplitude : MI := (yX7_amplitude, cX7_amplitude, 2, (some .int), [], 0)
def YX7_hear : MI := (yX7_hear, cX7_hear, 6, (some .int), [], 1)
def YX7_held : MI := (yX7_held, cX7_held, 3, (some .int), [], 0)
def YX7_learnTone : MI := (yX7_learnTone, cX7_learnTone, 12, none, [], 2)
def YX7_learnBeat : MI := (yX7_learnBeat, cX7_learnBeat, 4, none, [], 3)
def YX7_worstOf : MI := (yX7_worstOf, cX7_worstOf, 5, (some .int), [], 0)
def YX7_bitsBy : MI := (yX7_bitsBy, cX7_bitsBy, 4, (some .int), [], 0)
def YX7_lessonBits : MI := (yX7_lessonBits, cX7_lessonBits, 5, (some .int), [], 1)
def YX7_carried : MI := (yX7_carried, cX7_carried, 4, (some .int), [], 1)
def YX7_learnAll : MI := (yX7_learnAll, cX7_learnAll, 5, (some .int), [], 4)
def YX7_mayBeat : MI := (yX7_mayBeat, cX7_mayBeat, 3, (some .boolean), [], 2)
def YX7_learn : MI := (yX7_learn, cX7_learn, 3, (some .int), [], 5)
def YX7_takeBit : MI := (yX7_takeBit, cX7_takeBit, 6, (some .int), [], 0)
def YX7_decide : MI := (yX7_decide, cX7_decide, 10, (some .int), [], 1)
def YX7_ones : MI := (yX7_ones, cX7_ones, 3, (some .int), [], 0)
def YX7_sendTone : MI := (yX7_sendTone, cX7_sendTone, 9, (some .int), [], 2)
def YX7_sendBeat : MI := (yX7_sendBeat, cX7_sendBeat, 5, (some .int), [], 3)
def YX7_sendAll : MI := (yX7_sendAll, cX7_sendAll, 5, (some .int), [], 4)
def YX7_send : MI := (yX7_send, cX7_send, 3, (some .int), [], 5)
def YX7_forget : MI := (yX7_forget, cX7_forget, 5, (some .int), [], 2)
def YX7_append : MI := (yX7_append, cX7_append, 2, (some .int), [], 1)
def YX7_clearBuffer : MI := (yX7_clearBuffer, cX7_clearBuffer, 2, (some .int), [], 0)
def YX7_digit : MI := (yX7_digit, cX7_digit, 1, (some .int), [], 1)
def YX7_nextState : MI := (yX7_nextState, cX7_nextState, 3, (some .int), [], 2)
def YX7_read : MI := (yX7_read, cX7_read, 5, none, [], 3)
def YX7_firstError : MI := (yX7_firstError, cX7_firstError, 1, (some .int), [], 4)
def YX7_saidOn : MI := (yX7_saidOn, cX7_saidOn, 7, (some .int), [], 2)
def YX7_say : MI := (yX7_say, cX7_say, 8, (some .int), [], 4)
def YX7_undo : MI := (yX7_undo, cX7_undo, 2, (some .int), [], 1)
def YX7_street : MI := (yX7_street, cX7_street, 4, (some .int), [], 2)
def YX7_accent : MI := (yX7_accent, cX7_accent, 4, (some .int), [], 2)
def YX7_waits : MI := (yX7_waits, cX7_waits, 3, (some .int), [], 2)
def YX7_had : MI := (yX7_had, cX7_had, 2, (some .long), [], 2)
def YX7_shyAll : MI := (yX7_shyAll, cX7_shyAll, 3, (some .int), [], 0)
def YX7_insults : MI := (yX7_insults, cX7_insults, 3, (some .int), [], 0)
def YX7_counted : MI := (yX7_counted, cX7_counted, 2, (some .int), [], 2)
def YX7_count : MI := (yX7_count, cX7_count, 2, (some .int), [], 3)
def YX7_setting : MI := (yX7_setting, cX7_setting, 2, (some .int), [], 1)
def YX7_sureOf : MI := (yX7_sureOf, cX7_sureOf, 10, (some .int), [], 1)
def YX7_sure : MI := (yX7_sure, cX7_sure, 3, (some .int), [], 2)
def YX7_sentOf : MI := (yX7_sentOf, cX7_sentOf, 7, (some .int), [], 5)
def YX7_ifSent : MI := (yX7_ifSent, cX7_ifSent, 4, (some .int), [], 6)
def YX7_learnedOf : MI := (yX7_learnedOf, cX7_learnedOf, 4, (some .int), [], 5)
def YX7_ifLearned : MI := (yX7_ifLearned, cX7_ifLearned, 3, (some .int), [], 6)
def YX7_beatsOf : MI := (yX7_beatsOf, cX7_beatsOf, 4, (some .int), [], 4)
def YX7_beatsFor : MI := (yX7_beatsFor, cX7_beatsFor, 2, (some .int), [], 5)
def YX7_lessonOf : MI := (yX7_lessonOf, cX7_lessonOf, 6, (some .int), [], 4)
def YX7_bestLesson : MI := (yX7_bestLesson, cX7_bestLesson, 2, (some .int), [], 5)
def YX7_hurtsOf : MI := (yX7_hurtsOf, cX7_hurtsOf, 9, (some .int), [], 3)
def YX7_hurts : MI := (yX7_hurts, cX7_hurts, 3, (some .int), [], 4)
def YX7_shareOf : MI := (yX7_shareOf, cX7_shareOf, 3, (some .double), [], 0)
def YX7_rightShare : MI := (yX7_rightShare, cX7_rightShare, 2, (some .double), [], 2)
def YX7_mix : MI := (yX7_mix, cX7_mix, 3, none, [], 0)
def YX7_mixWay : MI := (yX7_mixWay, cX7_mixWay, 4, none, [], 6)
def YX7_digest : MI := (yX7_digest, cX7_digest, 2, (some .long), [], 7)
def YJxe99ae_isNaN_b9ae7 : MI := (yJxe99ae_isNaN_b9ae7, cJxe99ae_isNaN_b9ae7, 2, (some .boolean), [], 0)
def YJxe99ae_doubleToLongBits_ccdee : MI := (yJxe99ae_doubleToLongBits_ccdee, cJxe99ae_doubleToLongBits_ccdee, 2, (some .long), [], 1)
def YJ6_bitCount_0f7a4 : MI := (yJ6_bitCount_0f7a4, cJ6_bitCount_0f7a4, 1, (some .int), [], 0)
def YJ9_floorMod_7cf53 : MI := (yJ9_floorMod_7cf53, cJ9_floorMod_7cf53, 3, (some .int), [], 0)
def YL_build : MI := (yL_build, cL_build, 7, (some .int), [(0, 14, 17, 13), (0, 14, 21, 15)], 9)
def YL_carry : MI := (yL_carry, cL_carry, 6, (some .int), [(0, 12, 15, 13), (0, 12, 19, 15)], 9)
def YL_insult : MI := (yL_insult, cL_insult, 6, (some .int), [(0, 12, 15, 13), (0, 12, 19, 15), (0, 12, 23, 24)], 9)
def YL_set : MI := (yL_set, cL_set, 5, (some .int), [(0, 10, 13, 13), (0, 10, 17, 15)], 8)
def YL_learn : MI := (yL_learn, cL_learn, 5, (some .int), [(0, 10, 13, 13), (0, 10, 17, 15), (0, 10, 21, 24)], 8)
def YL_send : MI := (yL_send, cL_send, 5, (some .int), [(0, 10, 13, 13), (0, 10, 17, 15), (0, 10, 21, 24)], 8)
def YL_forget : MI := (yL_forget, cL_forget, 4, (some .int), [(0, 9, 12, 13)], 8)
def YL_append : MI := (yL_append, cL_append, 4, (some .int), [(0, 9, 12, 15), (0, 9, 15, 24)], 7)
def YL_say : MI := (yL_say, cL_say, 3, (some .int), [(0, 8, 11, 15), (0, 8, 14, 24)], 7)
def YL_undo : MI := (yL_undo, cL_undo, 3, (some .int), [(0, 8, 11, 24)], 7)
def YL_street : MI := (yL_street, cL_street, 6, (some .int), [(0, 12, 15, 13), (0, 12, 19, 15)], 9)
def YL_accent : MI := (yL_accent, cL_accent, 6, (some .int), [(0, 12, 15, 13), (0, 12, 19, 15)], 9)
def YL_waits : MI := (yL_waits, cL_waits, 5, (some .int), [(0, 10, 13, 13)], 8)
def YL_had : MI := (yL_had, cL_had, 4, (some .int), [(0, 8, 11, 13)], 8)
def YL_count : MI := (yL_count, cL_count, 4, (some .int), [(0, 9, 12, 15)], 7)
def YL_setting : MI := (yL_setting, cL_setting, 4, (some .int), [(0, 9, 12, 13)], 8)
def YL_sure : MI := (yL_sure, cL_sure, 5, (some .int), [(0, 10, 13, 13)], 9)
def YL_ifSent : MI := (yL_ifSent, cL_ifSent, 6, (some .int), [(0, 12, 15, 13), (0, 12, 19, 15)], 8)
def YL_ifLearned : MI := (yL_ifLearned, cL_ifLearned, 5, (some .int), [(0, 10, 13, 13), (0, 10, 17, 15)], 8)
def YL_beatsFor : MI := (yL_beatsFor, cL_beatsFor, 4, (some .int), [(0, 9, 12, 13)], 8)
def YL_bestLesson : MI := (yL_bestLesson, cL_bestLesson, 4, (some .int), [(0, 9, 12, 13)], 8)
def YL_hurts : MI := (yL_hurts, cL_hurts, 5, (some .int), [(0, 10, 13, 13)], 9)
def YL_rightShare : MI := (yL_rightShare, cL_rightShare, 4, (some .int), [(0, 8, 11, 13)], 8)
def YL_law : MI := (x, code, maxLocals, ret, [], 11)
def LX0_init : LI := [(0, .aload_n 0, 1), (1, .invokespecial 3, 3), (4, .aload_n 0, 1), (5, .bipush 64, 2), (7, .newarray .int, 2), (9, .putfield 9, 3), (12, .return_, 1)]
set_option maxRecDepth 20000 in
theorem DX0_init : Lst YX0_init LX0_init := by unfold Lst; decide +kernel
def LX0_begin : LI := [(0, .aload_n 0, 1), (1, .iconst 0, 1), (2, .putfield 15, 3), (5, .iconst 0, 1), (6, .istore_n 1, 1), (7, .iload_n 1, 1), (8, .bipush 64, 2), (10, .if_icmp .ge 16, 3), (13, .aload_n 0, 1), (14, .getfield 9, 3), (17, .iload_n 1, 1), (18, .iconst 0, 1), (19, .iastore, 1), (20, .iinc 1 1, 3), (23, .goto (-16), 3), (26, .return_, 1)]
set_option maxRecDepth 20000 in
theorem DX0_begin : Lst YX0_begin LX0_begin := by unfold Lst; decide +kernel
def LX0_note : LI := [(0, .iload_n 1, 1), (1, .bipush 8, 2), (3, .imul, 1), (4, .aload_n 0, 1), (5, .getfield 15, 3), (8, .bipush 8, 2), (10, .invokestatic 19, 3), (13, .iadd, 1), (14, .istore_n 3, 1), (15, .iload_n 3, 1), (16, .ifCond .lt 19, 3), (19, .iload_n 3, 1), (20, .bipush 64, 2), (22, .if_icmp .ge 13, 3), (25, .aload_n 0, 1), (26, .getfield 9, 3), (29, .iload_n 3, 1), (30, .iload_n 2, 1), (31, .invokestatic 25, 3), (34, .iastore, 1), (35, .return_, 1)]
set_option maxRecDepth 20000 in
theorem DX0_note : Lst YX0_note LX0_note := by unfold Lst; decide +kernel
def LX0_worstOf : LI := [(0, .iconst 0, 1), (1, .istore_n 2, 1), (2, .iconst 0, 1), (3, .istore_n 3, 1), (4, .iload_n 3, 1), (5, .bipush 8, 2), (7, .if_icmp .ge 41, 3), (10, .iload_n 1, 1), (11, .bipush 8, 2), (13, .imul, 1), (14, .iload_n 3, 1), (15, .iadd, 1), (16, .istore 4, 2), (18, .iload 4, 2), (20, .ifCond .lt 22, 3), (23, .iload 4, 2), (25, .bipush 64, 2), (27, .if_icmp .ge 15, 3), (30, .iload_n 2, 1), (31, .aload_n 0, 1), (32, .getfield 9, 3), (35, .iload 4, 2), (37, .iaload, 1), (38, .invokestatic 29, 3), (41, .istore_n 2, 1), (42, .iinc 3 1, 3), (45, .goto (-41), 3), (48, .iload_n 2, 1), (49, .ireturn, 1)]
set_option maxRecDepth 20000 in
theorem DX0_worstOf : Lst YX0_worstOf LX0_worstOf := by unfold Lst; decide +kernel
def LX1_init : LI := [(0, .aload_n 0, 1), (1, .invokespecial 3, 3), (4, .aload_n 0, 1), (5, .new 9, 3), (8, .dup, 1), (9, .invokespecial 11, 3), (12, .putfield 12, 3), (15, .aload_n 0, 1), (16, .new 9, 3), (19, .dup, 1), (20, .invokespecial 11, 3), (23, .putfield 18, 3), (26, .aload_n 0, 1), (27, .iconst 3, 1), (28, .newarray .int, 2), (30, .dup, 1), (31, .iconst 0, 1), (32, .bipush 8, 2), (34, .iastore, 1), (35, .dup, 1), (36, .iconst 1, 1), (37, .bipush 8, 2), (39, .iastore, 1), (40, .dup, 1), (41, .iconst 2, 1), (42, .iconst 3, 1), (43, .iastore, 1), (44, .putfield 21, 3), (47, .aload_n 0, 1), (48, .iconst 1, 1), (49, .putfield 25, 3), (52, .return_, 1)]
set_option maxRecDepth 20000 in
theorem DX1_init : Lst YX1_init LX1_init := by unfold Lst; decide +kernel
def LX1_wayAt : LI := [(0, .iload_n 1, 1), (1, .ifCond .ne 10, 3), (4, .aload_n 0, 1), (5, .getfield 12, 3), (8, .goto 7, 3), (11, .aload_n 0, 1), (12, .getfield 18, 3), (15, .areturn, 1)]
set_option maxRecDepth 20000 in
theorem DX1_wayAt : Lst YX1_wayAt LX1_wayAt := by unfold Lst; decide +kernel
def LX1_copyFrom : LI := [(0, .aload_n 0, 1), (1, .getfield 12, 3), (4, .aload_n 1, 1), (5, .getfield 12, 3), (8, .invokevirtual 29, 3), (11, .aload_n 0, 1), (12, .getfield 18, 3), (15, .aload_n 1, 1), (16, .getfield 18, 3), (19, .invokevirtual 29, 3), (22, .aload_n 0, 1), (23, .aload_n 1, 1), (24, .invokevirtual 33, 3), (27, .return_, 1)]
set_option maxRecDepth 20000 in
theorem DX1_copyFrom : Lst YX1_copyFrom LX1_copyFrom := by unfold Lst; decide +kernel
def LX1_copyWayFrom : LI := [(0, .aload_n 0, 1), (1, .iload_n 2, 1), (2, .invokevirtual 37, 3), (5, .astore_n 3, 1), (6, .aload_n 3, 1), (7, .aload_n 1, 1), (8, .iload_n 2, 1), (9, .invokevirtual 37, 3), (12, .invokevirtual 29, 3), (15, .aload_n 0, 1), (16, .aload_n 1, 1), (17, .invokevirtual 33, 3), (20, .aload_n 3, 1), (21, .areturn, 1)]
set_option maxRecDepth 20000 in
theorem DX1_copyWayFrom : Lst YX1_copyWayFrom LX1_copyWayFrom := by unfold Lst; decide +kernel
def LX1_copyCommonFrom : LI := [(0, .aload_n 1, 1), (1, .getfield 21, 3), (4, .iconst 0, 1), (5, .aload_n 0, 1), (6, .getfield 21, 3), (9, .iconst 0, 1), (10, .iconst 3, 1), (11, .invokestatic 41, 3), (14, .aload_n 0, 1), (15, .aload_n 1, 1), (16, .getfield 25, 3), (19, .putfield 25, 3), (22, .aload_n 0, 1), (23, .aload_n 1, 1), (24, .getfield 47, 3), (27, .putfield 47, 3), (30, .return_, 1)]
set_option maxRecDepth 20000 in
theorem DX1_copyCommonFrom : Lst YX1_copyCommonFrom LX1_copyCommonFrom := by unfold Lst; decide +kernel
def LX1_draw : LI := [(0, .aload_n 0, 1), (1, .ldc2_w 50, 3), (4, .aload_n 0, 1), (5, .getfield 25, 3), (8, .i2l, 1), (9, .lmul, 1), (10, .ldc2_w 52, 3), (13, .ladd, 1), (14, .ldc2_w 54, 3), (17, .lrem, 1), (18, .l2i, 1), (19, .putfield 25, 3), (22, .iload_n 1, 1), (23, .ifCond .le 15, 3), (26, .aload_n 0, 1), (27, .getfield 25, 3), (30, .ldc 56, 2), (32, .idiv, 1), (33, .iload_n 1, 1), (34, .irem, 1), (35, .goto 4, 3), (38, .iconst 0, 1), (39, .ireturn, 1)]
set_option maxRecDepth 20000 in
theorem DX1_draw : Lst YX1_draw LX1_draw := by unfold Lst; decide +kernel
def LX1_drawNoise : LI := [(0, .aload_n 0, 1), (1, .iconst 2, 1), (2, .aload_n 1, 1), (3, .getfield 57, 3), (6, .imul, 1), (7, .iconst 1, 1), (8, .iadd, 1), (9, .invokevirtual 62, 3), (12, .aload_n 1, 1), (13, .getfield 57, 3), (16, .isub, 1), (17, .ireturn, 1)]
set_option maxRecDepth 20000 in
theorem DX1_drawNoise : Lst YX1_drawNoise LX1_drawNoise := by unfold Lst; decide +kernel
def LX1_sendBeats : LI := [(0, .iconst 0, 1), (1, .istore_n 3, 1), (2, .iconst 0, 1), (3, .istore 4, 2), (5, .iload 4, 2), (7, .iload_n 2, 1), (8, .if_icmp .ge 82, 3), (11, .iconst 0, 1), (12, .istore 5, 2), (14, .iload 5, 2), (16, .bipush 8, 2), (18, .if_icmp .ge 24, 3), (21, .iload_n 3, 1), (22, .aload_n 0, 1), (23, .aload_n 1, 1), (24, .aload_n 1, 1), (25, .getfield 66, 3), (28, .iload 5, 2), (30, .aaload, 1), (31, .invokevirtual 70, 3), (34, .iadd, 1), (35, .istore_n 3, 1), (36, .iinc 5 1, 3), (39, .goto (-25), 3), (42, .iconst 0, 1), (43, .istore 5, 2), (45, .iload 5, 2), (47, .bipush 8, 2), (49, .if_icmp .ge 25, 3), (52, .aload_n 1, 1), (53, .getfield 66, 3), (56, .iload 5, 2), (58, .aaload, 1), (59, .aload_n 0, 1), (60, .getfield 21, 3), (63, .iconst 2, 1), (64, .iaload, 1), (65, .invokevirtual 74, 3), (68, .iinc 5 1, 3), (71, .goto (-26), 3), (74, .aload_n 0, 1), (75, .dup, 1), (76, .getfield 47, 3), (79, .iconst 1, 1), (80, .iadd, 1), (81, .putfield 47, 3), (84, .iinc 4 1, 3), (87, .goto (-82), 3), (90, .iload_n 3, 1), (91, .ireturn, 1)]
set_option maxRecDepth 20000 in
theorem DX1_sendBeats : Lst YX1_sendBeats LX1_sendBeats := by unfold Lst; decide +kernel
def LX1_sendSign : LI := [(0, .aload_n 1, 1), (1, .getfield 78, 3), (4, .aload_n 2, 1), (5, .getfield 82, 3), (8, .invokevirtual 85, 3), (11, .istore_n 3, 1), (12, .aload_n 2, 1), (13, .iload_n 3, 1), (14, .invokevirtual 90, 3), (17, .istore 4, 2), (19, .aload_n 2, 1), (20, .aload_n 2, 1), (21, .iload 4, 2), (23, .aload_n 0, 1), (24, .aload_n 2, 1), (25, .invokevirtual 93, 3), (28, .invokevirtual 97, 3), (31, .invokevirtual 101, 3), (34, .istore 5, 2), (36, .iload_n 3, 1), (37, .iload 5, 2), (39, .ixor, 1), (40, .invokestatic 104, 3), (43, .istore 6, 2), (45, .aload_n 2, 1), (46, .iload 4, 2), (48, .aload_n 2, 1), (49, .iload 5, 2), (51, .invokevirtual 90, 3), (54, .invokevirtual 109, 3), (57, .aload_n 2, 1), (58, .iload 6, 2), (60, .ifCond .le 7, 3), (63, .iconst 1, 1), (64, .goto 4, 3), (67, .iconst 0, 1), (68, .invokevirtual 113, 3), (71, .aload_n 1, 1), (72, .iload 5, 2), (74, .aload_n 2, 1), (75, .getfield 82, 3), (78, .iload 6, 2), (80, .invokevirtual 117, 3), (83, .iload 6, 2), (85, .ireturn, 1)]
set_option maxRecDepth 20000 in
theorem DX1_sendSign : Lst YX1_sendSign LX1_sendSign := by unfold Lst; decide +kernel
def LX1_takeLesson : LI := [(0, .aload_n 3, 1), (1, .invokevirtual 121, 3), (4, .iconst 0, 1), (5, .istore 4, 2), (7, .iload 4, 2), (9, .iload_n 2, 1), (10, .if_icmp .ge 15, 3), (13, .aload_n 0, 1), (14, .aload_n 1, 1), (15, .aload_n 3, 1), (16, .invokevirtual 126, 3), (19, .iinc 4 1, 3), (22, .goto (-15), 3), (25, .iconst 0, 1), (26, .istore 4, 2), (28, .iload 4, 2), (30, .bipush 8, 2), (32, .if_icmp .ge 31, 3), (35, .aload_n 1, 1), (36, .getfield 66, 3), (39, .iload 4, 2), (41, .aaload, 1), (42, .aload_n 3, 1), (43, .iload 4, 2), (45, .invokevirtual 130, 3), (48, .aload_n 0, 1), (49, .getfield 21, 3), (52, .iconst 1, 1), (53, .iaload, 1), (54, .invokevirtual 133, 3), (57, .iinc 4 1, 3), (60, .goto (-32), 3), (63, .return_, 1)]
set_option maxRecDepth 20000 in
theorem DX1_takeLesson : Lst YX1_takeLesson LX1_takeLesson := by unfold Lst; decide +kernel
def LX1_learnBeat : LI := [(0, .iconst 0, 1), (1, .istore_n 3, 1), (2, .iload_n 3, 1), (3, .bipush 8, 2), (5, .if_icmp .ge 95, 3), (8, .aload_n 1, 1), (9, .getfield 66, 3), (12, .iload_n 3, 1), (13, .aaload, 1), (14, .astore 4, 2), (16, .aload_n 0, 1), (17, .iconst 2, 1), (18, .invokevirtual 62, 3), (21, .iconst 1, 1), (22, .if_icmp .ne 9, 3), (25, .sipush 128, 3), (28, .goto 5, 3), (31, .bipush (-128), 2), (33, .istore 5, 2), (35, .aload 4, 2), (37, .iload 5, 2), (39, .aload_n 0, 1), (40, .aload 4, 2), (42, .invokevirtual 93, 3), (45, .invokevirtual 97, 3), (48, .aload 4, 2), (50, .iload 5, 2), (52, .invokevirtual 136, 3), (55, .isub, 1), (56, .istore 6, 2), (58, .aload 4, 2), (60, .iload 6, 2), (62, .iload 5, 2), (64, .aload_n 0, 1), (65, .getfield 21, 3), (68, .iconst 0, 1), (69, .iaload, 1), (70, .invokevirtual 139, 3), (73, .aload 4, 2), (75, .iload 5, 2), (77, .iload 5, 2), (79, .invokevirtual 109, 3), (82, .aload 4, 2), (84, .invokevirtual 142, 3), (87, .aload_n 2, 1), (88, .iload_n 3, 1), (89, .iload 6, 2), (91, .invokevirtual 145, 3), (94, .iinc 3 1, 3), (97, .goto (-95), 3), (100, .aload_n 2, 1), (101, .dup, 1), (102, .getfield 148, 3), (105, .iconst 1, 1), (106, .iadd, 1), (107, .putfield 148, 3), (110, .aload_n 0, 1), (111, .dup, 1), (112, .getfield 47, 3), (115, .iconst 1, 1), (116, .iadd, 1), (117, .putfield 47, 3), (120, .return_, 1)]
set_option maxRecDepth 20000 in
theorem DX1_learnBeat : Lst YX1_learnBeat LX1_learnBeat := by unfold Lst; decide +kernel
def LX1_bitsBehind : LI := [(0, .iconst 0, 1), (1, .istore_n 3, 1), (2, .iconst 0, 1), (3, .istore 4, 2), (5, .iload 4, 2), (7, .bipush 8, 2), (9, .if_icmp .ge 34, 3), (12, .iload_n 3, 1), (13, .aload_n 1, 1), (14, .getfield 66, 3), (17, .iload 4, 2), (19, .aaload, 1), (20, .aload_n 2, 1), (21, .iload 4, 2), (23, .invokevirtual 130, 3), (26, .aload_n 0, 1), (27, .getfield 21, 3), (30, .iconst 1, 1), (31, .iaload, 1), (32, .invokevirtual 149, 3), (35, .iadd, 1), (36, .istore_n 3, 1), (37, .iinc 4 1, 3), (40, .goto (-35), 3), (43, .iload_n 3, 1), (44, .ireturn, 1)]
set_option maxRecDepth 20000 in
theorem DX1_bitsBehind : Lst YX1_bitsBehind LX1_bitsBehind := by unfold Lst; decide +kernel
def LX1_leastHurt : LI := [(0, .aload_n 1, 1), (1, .getfield 78, 3), (4, .aload_n 2, 1), (5, .getfield 82, 3), (8, .invokevirtual 85, 3), (11, .istore_n 3, 1), (12, .aload_n 2, 1), (13, .aload_n 2, 1), (14, .iload_n 3, 1), (15, .invokevirtual 90, 3), (18, .aload_n 0, 1), (19, .aload_n 2, 1), (20, .invokevirtual 93, 3), (23, .invokevirtual 97, 3), (26, .istore 4, 2), (28, .iconst 0, 1), (29, .istore 5, 2), (31, .iload 5, 2), (33, .sipush 300, 3), (36, .if_icmp .gt 38, 3), (39, .aload_n 2, 1), (40, .iload 4, 2), (42, .iload 5, 2), (44, .iadd, 1), (45, .invokevirtual 101, 3), (48, .iload_n 3, 1), (49, .if_icmp .ne 16, 3), (52, .aload_n 2, 1), (53, .iload 4, 2), (55, .iload 5, 2), (57, .isub, 1), (58, .invokevirtual 101, 3), (61, .iload_n 3, 1), (62, .if_icmp .eq 6, 3), (65, .iload 5, 2), (67, .ireturn, 1), (68, .iinc 5 1, 3), (71, .goto (-40), 3), (74, .iconst (-1), 1), (75, .ireturn, 1)]
set_option maxRecDepth 20000 in
theorem DX1_leastHurt : Lst YX1_leastHurt LX1_leastHurt := by unfold Lst; decide +kernel
def LX2_init : LI := [(0, .aload_n 0, 1), (1, .invokespecial 3, 3), (4, .aload_n 0, 1), (5, .bipush 60, 2), (7, .newarray .char, 2), (9, .putfield 9, 3), (12, .return_, 1)]
set_option maxRecDepth 20000 in
theorem DX2_init : Lst YX2_init LX2_init := by unfold Lst; decide +kernel
def LX2_next : LI := [(0, .iload_n 0, 1), (1, .tableswitch 81 0 3 #[31, 49, 61, 66], 31), (32, .iload_n 1, 1), (33, .bipush 97, 2), (35, .if_icmp .eq 9, 3), (38, .iload_n 1, 1), (39, .bipush 98, 2), (41, .if_icmp .ne 7, 3), (44, .iconst 1, 1), (45, .goto 4, 3), (48, .iconst 4, 1), (49, .ireturn, 1), (50, .iload_n 1, 1), (51, .bipush 58, 2), (53, .if_icmp .ne 7, 3), (56, .iconst 2, 1), (57, .goto 4, 3), (60, .iconst 4, 1), (61, .ireturn, 1), (62, .iload_n 1, 1), (63, .invokestatic 15, 3), (66, .ireturn, 1), (67, .iload_n 1, 1), (68, .bipush 59, 2), (70, .if_icmp .ne 7, 3), (73, .iconst 0, 1), (74, .goto 7, 3), (77, .iload_n 1, 1), (78, .invokestatic 15, 3), (81, .ireturn, 1), (82, .iconst 4, 1), (83, .ireturn, 1)]
set_option maxRecDepth 20000 in
theorem DX2_next : Lst YX2_next LX2_next := by unfold Lst; decide +kernel
def LX2_behindDigit : LI := [(0, .iload_n 0, 1), (1, .invokestatic 19, 3), (4, .iconst (-1), 1), (5, .if_icmp .ne 7, 3), (8, .iconst 4, 1), (9, .goto 4, 3), (12, .iconst 3, 1), (13, .ireturn, 1)]
set_option maxRecDepth 20000 in
theorem DX2_behindDigit : Lst YX2_behindDigit LX2_behindDigit := by unfold Lst; decide +kernel
def LX2_digitOf : LI := [(0, .iload_n 0, 1), (1, .bipush 48, 2), (3, .if_icmp .lt 14, 3), (6, .iload_n 0, 1), (7, .bipush 57, 2), (9, .if_icmp .gt 8, 3), (12, .iload_n 0, 1), (13, .bipush 48, 2), (15, .isub, 1), (16, .ireturn, 1), (17, .iload_n 0, 1), (18, .bipush 97, 2), (20, .if_icmp .lt 19, 3), (23, .iload_n 0, 1), (24, .bipush 102, 2), (26, .if_icmp .gt 13, 3), (29, .iload_n 0, 1), (30, .bipush 97, 2), (32, .isub, 1), (33, .bipush 10, 2), (35, .iadd, 1), (36, .goto 4, 3), (39, .iconst (-1), 1), (40, .ireturn, 1)]
set_option maxRecDepth 20000 in
theorem DX2_digitOf : Lst YX2_digitOf LX2_digitOf := by unfold Lst; decide +kernel
def LX2_errorPlace : LI := [(0, .iconst 0, 1), (1, .istore_n 1, 1), (2, .iconst 0, 1), (3, .istore_n 2, 1), (4, .iload_n 2, 1), (5, .aload_n 0, 1), (6, .getfield 22, 3), (9, .if_icmp .ge 33, 3), (12, .iload_n 2, 1), (13, .bipush 60, 2), (15, .if_icmp .ge 27, 3), (18, .iload_n 1, 1), (19, .aload_n 0, 1), (20, .getfield 9, 3), (23, .iload_n 2, 1), (24, .caload, 1), (25, .invokestatic 26, 3), (28, .istore_n 1, 1), (29, .iload_n 1, 1), (30, .iconst 4, 1), (31, .if_icmp .ne 5, 3), (34, .iload_n 2, 1), (35, .ireturn, 1), (36, .iinc 2 1, 3), (39, .goto (-35), 3), (42, .aload_n 0, 1), (43, .getfield 22, 3), (46, .ireturn, 1)]
set_option maxRecDepth 20000 in
theorem DX2_errorPlace : Lst YX2_errorPlace LX2_errorPlace := by unfold Lst; decide +kernel
def LX2_isComplete : LI := [(0, .iconst 0, 1), (1, .istore_n 1, 1), (2, .iconst 0, 1), (3, .istore_n 2, 1), (4, .iload_n 2, 1), (5, .aload_n 0, 1), (6, .getfield 22, 3), (9, .if_icmp .ge 26, 3), (12, .iload_n 2, 1), (13, .bipush 60, 2), (15, .if_icmp .ge 20, 3), (18, .iload_n 1, 1), (19, .aload_n 0, 1), (20, .getfield 9, 3), (23, .iload_n 2, 1), (24, .caload, 1), (25, .invokestatic 26, 3), (28, .istore_n 1, 1), (29, .iinc 2 1, 3), (32, .goto (-28), 3), (35, .iload_n 1, 1), (36, .iconst 3, 1), (37, .if_icmp .ne 7, 3), (40, .iconst 1, 1), (41, .goto 4, 3), (44, .iconst 0, 1), (45, .ireturn, 1)]
set_option maxRecDepth 20000 in
theorem DX2_isComplete : Lst YX2_isComplete LX2_isComplete := by unfold Lst; decide +kernel
def LX2_bitsFor : LI := [(0, .iconst 0, 1), (1, .istore_n 2, 1), (2, .iconst 0, 1), (3, .istore_n 3, 1), (4, .iconst 0, 1), (5, .istore 4, 2), (7, .iconst 0, 1), (8, .istore 5, 2), (10, .iload 5, 2), (12, .aload_n 0, 1), (13, .getfield 22, 3), (16, .if_icmp .ge 66, 3), (19, .iload 5, 2), (21, .bipush 60, 2), (23, .if_icmp .ge 59, 3), (26, .aload_n 0, 1), (27, .getfield 9, 3), (30, .iload 5, 2), (32, .caload, 1), (33, .istore 6, 2), (35, .iload_n 2, 1), (36, .ifCond .ne 11, 3), (39, .iload 6, 2), (41, .bipush 97, 2), (43, .isub, 1), (44, .goto 4, 3), (47, .iload_n 3, 1), (48, .istore_n 3, 1), (49, .iload_n 2, 1), (50, .iload 6, 2), (52, .invokestatic 26, 3), (55, .istore_n 2, 1), (56, .iload 4, 2), (58, .iload_n 2, 1), (59, .iconst 3, 1), (60, .if_icmp .ne 12, 3), (63, .iload_n 3, 1), (64, .iload_n 1, 1), (65, .if_icmp .ne 7, 3), (68, .iconst 4, 1), (69, .goto 4, 3), (72, .iconst 0, 1), (73, .iadd, 1), (74, .istore 4, 2), (76, .iinc 5 1, 3), (79, .goto (-69), 3), (82, .iload 4, 2), (84, .ireturn, 1)]
set_option maxRecDepth 20000 in
theorem DX2_bitsFor : Lst YX2_bitsFor LX2_bitsFor := by unfold Lst; decide +kernel
def LX2_putBits : LI := [(0, .iconst 0, 1), (1, .istore_n 2, 1), (2, .iconst 0, 1), (3, .istore_n 3, 1), (4, .iconst 0, 1), (5, .istore 4, 2), (7, .iload 4, 2), (9, .aload_n 0, 1), (10, .getfield 22, 3), (13, .if_icmp .ge 67, 3), (16, .iload 4, 2), (18, .bipush 60, 2), (20, .if_icmp .ge 60, 3), (23, .aload_n 0, 1), (24, .getfield 9, 3), (27, .iload 4, 2), (29, .caload, 1), (30, .istore 5, 2), (32, .iload_n 2, 1), (33, .ifCond .ne 11, 3), (36, .iload 5, 2), (38, .bipush 97, 2), (40, .isub, 1), (41, .goto 4, 3), (44, .iload_n 3, 1), (45, .istore_n 3, 1), (46, .iload_n 2, 1), (47, .iload 5, 2), (49, .invokestatic 26, 3), (52, .istore_n 2, 1), (53, .iload_n 2, 1), (54, .iconst 3, 1), (55, .if_icmp .ne 19, 3), (58, .aload_n 1, 1), (59, .iload_n 3, 1), (60, .invokevirtual 30, 3), (63, .getfield 36, 3), (66, .iload 5, 2), (68, .invokestatic 19, 3), (71, .invokevirtual 42, 3), (74, .iinc 4 1, 3), (77, .goto (-70), 3), (80, .return_, 1)]
set_option maxRecDepth 20000 in
theorem DX2_putBits : Lst YX2_putBits LX2_putBits := by unfold Lst; decide +kernel
def LX3_init : LI := [(0, .aload_n 0, 1), (1, .invokespecial 3, 3), (4, .aload_n 0, 1), (5, .bipush 64, 2), (7, .putfield 9, 3), (10, .aload_n 0, 1), (11, .bipush 64, 2), (13, .putfield 15, 3), (16, .aload_n 0, 1), (17, .iconst (-1), 1), (18, .putfield 18, 3), (21, .return_, 1)]
set_option maxRecDepth 20000 in
theorem DX3_init : Lst YX3_init LX3_init := by unfold Lst; decide +kernel
def LX3_copyFrom : LI := [(0, .aload_n 0, 1), (1, .aload_n 1, 1), (2, .getfield 9, 3), (5, .putfield 9, 3), (8, .aload_n 0, 1), (9, .aload_n 1, 1), (10, .getfield 21, 3), (13, .putfield 21, 3), (16, .aload_n 0, 1), (17, .aload_n 1, 1), (18, .getfield 24, 3), (21, .putfield 24, 3), (24, .aload_n 0, 1), (25, .aload_n 1, 1), (26, .getfield 27, 3), (29, .putfield 27, 3), (32, .aload_n 0, 1), (33, .aload_n 1, 1), (34, .getfield 30, 3), (37, .putfield 30, 3), (40, .aload_n 0, 1), (41, .aload_n 1, 1), (42, .getfield 33, 3), (45, .putfield 33, 3), (48, .aload_n 0, 1), (49, .aload_n 1, 1), (50, .getfield 36, 3), (53, .putfield 36, 3), (56, .aload_n 0, 1), (57, .aload_n 1, 1), (58, .getfield 15, 3), (61, .putfield 15, 3), (64, .aload_n 0, 1), (65, .aload_n 1, 1), (66, .getfield 39, 3), (69, .putfield 39, 3), (72, .aload_n 0, 1), (73, .aload_n 1, 1), (74, .getfield 42, 3), (77, .putfield 42, 3), (80, .aload_n 0, 1), (81, .aload_n 1, 1), (82, .getfield 45, 3), (85, .putfield 45, 3), (88, .aload_n 0, 1), (89, .aload_n 1, 1), (90, .getfield 18, 3), (93, .putfield 18, 3), (96, .aload_n 0, 1), (97, .aload_n 1, 1), (98, .getfield 48, 3), (101, .putfield 48, 3), (104, .aload_n 0, 1), (105, .aload_n 1, 1), (106, .getfield 51, 3), (109, .putfield 51, 3), (112, .aload_n 0, 1), (113, .aload_n 1, 1), (114, .getfield 54, 3), (117, .putfield 54, 3), (120, .aload_n 0, 1), (121, .aload_n 1, 1), (122, .getfield 57, 3), (125, .putfield 57, 3), (128, .aload_n 0, 1), (129, .aload_n 1, 1), (130, .getfield 60, 3), (133, .putfield 60, 3), (136, .aload_n 0, 1), (137, .aload_n 1, 1), (138, .getfield 63, 3), (141, .putfield 63, 3), (144, .return_, 1)]
set_option maxRecDepth 20000 in
theorem DX3_copyFrom : Lst YX3_copyFrom LX3_copyFrom := by unfold Lst; decide +kernel
def LX3_streetNumber : LI := [(0, .iload_n 1, 1), (1, .tableswitch 69 0 5 #[39, 44, 49, 54, 59, 64], 39), (40, .aload_n 0, 1), (41, .getfield 9, 3), (44, .ireturn, 1), (45, .aload_n 0, 1), (46, .getfield 21, 3), (49, .ireturn, 1), (50, .aload_n 0, 1), (51, .getfield 24, 3), (54, .ireturn, 1), (55, .aload_n 0, 1), (56, .getfield 27, 3), (59, .ireturn, 1), (60, .aload_n 0, 1), (61, .getfield 30, 3), (64, .ireturn, 1), (65, .aload_n 0, 1), (66, .getfield 33, 3), (69, .ireturn, 1), (70, .aload_n 0, 1), (71, .getfield 36, 3), (74, .ireturn, 1)]
set_option maxRecDepth 20000 in
theorem DX3_streetNumber : Lst YX3_streetNumber LX3_streetNumber := by unfold Lst; decide +kernel
def LX3_setStreetNumber : LI := [(0, .iload_n 1, 1), (1, .tableswitch 51 0 2 #[27, 35, 43], 27), (28, .aload_n 0, 1), (29, .iload_n 2, 1), (30, .putfield 9, 3), (33, .goto 24, 3), (36, .aload_n 0, 1), (37, .iload_n 2, 1), (38, .putfield 21, 3), (41, .goto 16, 3), (44, .aload_n 0, 1), (45, .iload_n 2, 1), (46, .putfield 24, 3), (49, .goto 8, 3), (52, .aload_n 0, 1), (53, .iload_n 2, 1), (54, .putfield 27, 3), (57, .return_, 1)]
set_option maxRecDepth 20000 in
theorem DX3_setStreetNumber : Lst YX3_setStreetNumber LX3_setStreetNumber := by unfold Lst; decide +kernel
def LX3_accentNumber : LI := [(0, .iload_n 1, 1), (1, .tableswitch 105 0 9 #[55, 60, 65, 70, 75, 80, 85, 90, 95, 100], 55), (56, .aload_n 0, 1), (57, .getfield 15, 3), (60, .ireturn, 1), (61, .aload_n 0, 1), (62, .getfield 39, 3), (65, .ireturn, 1), (66, .aload_n 0, 1), (67, .getfield 42, 3), (70, .ireturn, 1), (71, .aload_n 0, 1), (72, .getfield 45, 3), (75, .ireturn, 1), (76, .aload_n 0, 1), (77, .getfield 18, 3), (80, .ireturn, 1), (81, .aload_n 0, 1), (82, .getfield 48, 3), (85, .ireturn, 1), (86, .aload_n 0, 1), (87, .getfield 51, 3), (90, .ireturn, 1), (91, .aload_n 0, 1), (92, .getfield 54, 3), (95, .ireturn, 1), (96, .aload_n 0, 1), (97, .getfield 57, 3), (100, .ireturn, 1), (101, .aload_n 0, 1), (102, .getfield 60, 3), (105, .ireturn, 1), (106, .aload_n 0, 1), (107, .getfield 63, 3), (110, .ireturn, 1)]
set_option maxRecDepth 20000 in
theorem DX3_accentNumber : Lst YX3_accentNumber LX3_accentNumber := by unfold Lst; decide +kernel
def LX3_amplitudeOf : LI := [(0, .iconst 2, 1), (1, .iload_n 1, 1), (2, .imul, 1), (3, .iconst 1, 1), (4, .iadd, 1), (5, .iconst 1, 1), (6, .aload_n 0, 1), (7, .getfield 45, 3), (10, .ishl, 1), (11, .isub, 1), (12, .sipush 256, 3), (15, .aload_n 0, 1), (16, .getfield 45, 3), (19, .ishr, 1), (20, .imul, 1), (21, .ireturn, 1)]
set_option maxRecDepth 20000 in
theorem DX3_amplitudeOf : Lst YX3_amplitudeOf LX3_amplitudeOf := by unfold Lst; decide +kernel
def LX3_arriving : LI := [(0, .aload_n 0, 1), (1, .getfield 9, 3), (4, .iload_n 1, 1), (5, .imul, 1), (6, .aload_n 0, 1), (7, .getfield 21, 3), (10, .aload_n 0, 1), (11, .getfield 33, 3), (14, .imul, 1), (15, .iadd, 1), (16, .aload_n 0, 1), (17, .getfield 24, 3), (20, .aload_n 0, 1), (21, .getfield 36, 3), (24, .imul, 1), (25, .iadd, 1), (26, .bipush 64, 2), (28, .idiv, 1), (29, .iload_n 2, 1), (30, .iadd, 1), (31, .aload_n 0, 1), (32, .getfield 30, 3), (35, .iadd, 1), (36, .ireturn, 1)]
set_option maxRecDepth 20000 in
theorem DX3_arriving : Lst YX3_arriving LX3_arriving := by unfold Lst; decide +kernel
def LX3_expected : LI := [(0, .aload_n 0, 1), (1, .getfield 15, 3), (4, .iload_n 1, 1), (5, .imul, 1), (6, .aload_n 0, 1), (7, .getfield 39, 3), (10, .aload_n 0, 1), (11, .getfield 33, 3), (14, .imul, 1), (15, .iadd, 1), (16, .aload_n 0, 1), (17, .getfield 42, 3), (20, .aload_n 0, 1), (21, .getfield 36, 3), (24, .imul, 1), (25, .iadd, 1), (26, .bipush 64, 2), (28, .idiv, 1), (29, .ireturn, 1)]
set_option maxRecDepth 20000 in
theorem DX3_expected : Lst YX3_expected LX3_expected := by unfold Lst; decide +kernel
def LX3_decide : LI := [(0, .iload_n 1, 1), (1, .aload_n 0, 1), (2, .getfield 39, 3), (5, .aload_n 0, 1), (6, .getfield 60, 3), (9, .imul, 1), (10, .aload_n 0, 1), (11, .getfield 42, 3), (14, .aload_n 0, 1), (15, .getfield 63, 3), (18, .imul, 1), (19, .iadd, 1), (20, .bipush 64, 2), (22, .idiv, 1), (23, .isub, 1), (24, .istore_n 2, 1), (25, .aload_n 0, 1), (26, .getfield 15, 3), (29, .ifCond .le 15, 3), (32, .iload_n 2, 1), (33, .bipush 64, 2), (35, .imul, 1), (36, .aload_n 0, 1), (37, .getfield 15, 3), (40, .idiv, 1), (41, .goto 4, 3), (44, .iconst 0, 1), (45, .istore_n 3, 1), (46, .iload_n 3, 1), (47, .sipush 256, 3), (50, .iadd, 1), (51, .iconst 1, 1), (52, .isub, 1), (53, .bipush 9, 2), (55, .aload_n 0, 1), (56, .getfield 45, 3), (59, .isub, 1), (60, .ishr, 1), (61, .istore 4, 2), (63, .iconst 0, 1), (64, .iload 4, 2), (66, .iconst 1, 1), (67, .aload_n 0, 1), (68, .getfield 45, 3), (71, .ishl, 1), (72, .iconst 1, 1), (73, .isub, 1), (74, .invokestatic 66, 3), (77, .invokestatic 72, 3), (80, .ireturn, 1)]
set_option maxRecDepth 20000 in
theorem DX3_decide : Lst YX3_decide LX3_decide := by unfold Lst; decide +kernel
def LX3_pass : LI := [(0, .aload_n 0, 1), (1, .iconst 0, 1), (2, .putfield 30, 3), (5, .aload_n 0, 1), (6, .aload_n 0, 1), (7, .getfield 33, 3), (10, .putfield 36, 3), (13, .aload_n 0, 1), (14, .iload_n 1, 1), (15, .putfield 33, 3), (18, .aload_n 0, 1), (19, .aload_n 0, 1), (20, .getfield 60, 3), (23, .putfield 63, 3), (26, .aload_n 0, 1), (27, .iload_n 2, 1), (28, .putfield 60, 3), (31, .return_, 1)]
set_option maxRecDepth 20000 in
theorem DX3_pass : Lst YX3_pass LX3_pass := by unfold Lst; decide +kernel
def LX3_knowSignBefore : LI := [(0, .aload_n 0, 1), (1, .aload_n 0, 1), (2, .getfield 36, 3), (5, .putfield 63, 3), (8, .return_, 1)]
set_option maxRecDepth 20000 in
theorem DX3_knowSignBefore : Lst YX3_knowSignBefore LX3_knowSignBefore := by unfold Lst; decide +kernel
def LX3_countSign : LI := [(0, .aload_n 0, 1), (1, .getfield 45, 3), (4, .ifCond .le 13, 3), (7, .aload_n 0, 1), (8, .dup, 1), (9, .getfield 54, 3), (12, .iconst 1, 1), (13, .iadd, 1), (14, .putfield 54, 3), (17, .iload_n 1, 1), (18, .ifCond .eq 23, 3), (21, .aload_n 0, 1), (22, .dup, 1), (23, .getfield 57, 3), (26, .iconst 1, 1), (27, .iadd, 1), (28, .putfield 57, 3), (31, .aload_n 0, 1), (32, .dup, 1), (33, .getfield 48, 3), (36, .iconst 1, 1), (37, .iadd, 1), (38, .putfield 48, 3), (41, .return_, 1)]
set_option maxRecDepth 20000 in
theorem DX3_countSign : Lst YX3_countSign LX3_countSign := by unfold Lst; decide +kernel
def LX3_becomeShyAt : LI := [(0, .aload_n 0, 1), (1, .getfield 45, 3), (4, .ifCond .le 36, 3), (7, .aload_n 0, 1), (8, .getfield 48, 3), (11, .iload_n 1, 1), (12, .if_icmp .lt 28, 3), (15, .aload_n 0, 1), (16, .dup, 1), (17, .getfield 45, 3), (20, .iconst 1, 1), (21, .isub, 1), (22, .putfield 45, 3), (25, .aload_n 0, 1), (26, .dup, 1), (27, .getfield 51, 3), (30, .iconst 1, 1), (31, .iadd, 1), (32, .putfield 51, 3), (35, .aload_n 0, 1), (36, .iconst 0, 1), (37, .putfield 48, 3), (40, .return_, 1)]
set_option maxRecDepth 20000 in
theorem DX3_becomeShyAt : Lst YX3_becomeShyAt LX3_becomeShyAt := by unfold Lst; decide +kernel
def LX3_improve : LI := [(0, .aload_n 0, 1), (1, .aload_n 0, 1), (2, .getfield 15, 3), (5, .iload_n 1, 1), (6, .iload_n 2, 1), (7, .imul, 1), (8, .iload_n 3, 1), (9, .invokestatic 75, 3), (12, .iadd, 1), (13, .bipush 8, 2), (15, .sipush 128, 3), (18, .invokestatic 78, 3), (21, .putfield 15, 3), (24, .aload_n 0, 1), (25, .aload_n 0, 1), (26, .getfield 39, 3), (29, .iload_n 1, 1), (30, .aload_n 0, 1), (31, .getfield 33, 3), (34, .imul, 1), (35, .iload_n 3, 1), (36, .invokestatic 75, 3), (39, .iadd, 1), (40, .bipush (-48), 2), (42, .bipush 48, 2), (44, .invokestatic 78, 3), (47, .putfield 39, 3), (50, .aload_n 0, 1), (51, .aload_n 0, 1), (52, .getfield 42, 3), (55, .iload_n 1, 1), (56, .aload_n 0, 1), (57, .getfield 36, 3), (60, .imul, 1), (61, .iload_n 3, 1), (62, .invokestatic 75, 3), (65, .iadd, 1), (66, .bipush (-48), 2), (68, .bipush 48, 2), (70, .invokestatic 78, 3), (73, .putfield 42, 3), (76, .return_, 1)]
set_option maxRecDepth 20000 in
theorem DX3_improve : Lst YX3_improve LX3_improve := by unfold Lst; decide +kernel
def LX3_step : LI := [(0, .iload_n 1, 1), (1, .ifCond .le 13, 3), (4, .iload_n 0, 1), (5, .sipush 128, 3), (8, .iload_n 1, 1), (9, .imul, 1), (10, .idiv, 1), (11, .goto 4, 3), (14, .iconst 0, 1), (15, .ireturn, 1)]
set_option maxRecDepth 20000 in
theorem DX3_step : Lst YX3_step LX3_step := by unfold Lst; decide +kernel
def LX3_held : LI := [(0, .iload_n 0, 1), (1, .iload_n 1, 1), (2, .if_icmp .ge 5, 3), (5, .iload_n 1, 1), (6, .ireturn, 1), (7, .iload_n 0, 1), (8, .iload_n 2, 1), (9, .if_icmp .le 7, 3), (12, .iload_n 2, 1), (13, .goto 4, 3), (16, .iload_n 0, 1), (17, .ireturn, 1)]
set_option maxRecDepth 20000 in
theorem DX3_held : Lst YX3_held LX3_held := by unfold Lst; decide +kernel
def LX3_endLesson : LI := [(0, .aload_n 0, 1), (1, .iload_n 1, 1), (2, .putfield 18, 3), (5, .aload_n 0, 1), (6, .aload_n 0, 1), (7, .iload_n 1, 1), (8, .iload_n 2, 1), (9, .invokevirtual 82, 3), (12, .putfield 45, 3), (15, .aload_n 0, 1), (16, .iconst 0, 1), (17, .putfield 48, 3), (20, .return_, 1)]
set_option maxRecDepth 20000 in
theorem DX3_endLesson : Lst YX3_endLesson LX3_endLesson := by unfold Lst; decide +kernel
def LX3_bitsFor : LI := [(0, .iload_n 1, 1), (1, .iload_n 2, 1), (2, .imul, 1), (3, .iconst 4, 1), (4, .idiv, 1), (5, .istore_n 3, 1), (6, .iconst 4, 1), (7, .istore 4, 2), (9, .iload 4, 2), (11, .ifCond .le 22, 3), (14, .iload_n 3, 1), (15, .aload_n 0, 1), (16, .iload 4, 2), (18, .invokevirtual 85, 3), (21, .if_icmp .ge 6, 3), (24, .iload 4, 2), (26, .ireturn, 1), (27, .iinc 4 (-1), 3), (30, .goto (-21), 3), (33, .iconst 0, 1), (34, .ireturn, 1)]
set_option maxRecDepth 20000 in
theorem DX3_bitsFor : Lst YX3_bitsFor LX3_bitsFor := by unfold Lst; decide +kernel
def LX3_roomWith : LI := [(0, .sipush 256, 3), (3, .iload_n 1, 1), (4, .ishr, 1), (5, .aload_n 0, 1), (6, .getfield 15, 3), (9, .imul, 1), (10, .bipush 64, 2), (12, .idiv, 1), (13, .ireturn, 1)]
set_option maxRecDepth 20000 in
theorem DX3_roomWith : Lst YX3_roomWith LX3_roomWith := by unfold Lst; decide +kernel
def LX3_sureBits : LI := [(0, .iconst 4, 1), (1, .istore_n 1, 1), (2, .iload_n 1, 1), (3, .ifCond .le 31, 3), (6, .aload_n 0, 1), (7, .iload_n 1, 1), (8, .invokevirtual 89, 3), (11, .aload_n 0, 1), (12, .getfield 27, 3), (15, .iadd, 1), (16, .iconst 4, 1), (17, .iadd, 1), (18, .aload_n 0, 1), (19, .iload_n 1, 1), (20, .invokevirtual 85, 3), (23, .if_icmp .ge 5, 3), (26, .iload_n 1, 1), (27, .ireturn, 1), (28, .iinc 1 (-1), 3), (31, .goto (-29), 3), (34, .iconst 0, 1), (35, .ireturn, 1)]
set_option maxRecDepth 20000 in
theorem DX3_sureBits : Lst YX3_sureBits LX3_sureBits := by unfold Lst; decide +kernel
def LX3_misheardWith : LI := [(0, .sipush 256, 3), (3, .sipush 256, 3), (6, .iload_n 1, 1), (7, .ishr, 1), (8, .isub, 1), (9, .istore_n 2, 1), (10, .aload_n 0, 1), (11, .getfield 21, 3), (14, .aload_n 0, 1), (15, .getfield 39, 3), (18, .isub, 1), (19, .invokestatic 92, 3), (22, .aload_n 0, 1), (23, .getfield 24, 3), (26, .aload_n 0, 1), (27, .getfield 42, 3), (30, .isub, 1), (31, .invokestatic 92, 3), (34, .iadd, 1), (35, .istore_n 3, 1), (36, .aload_n 0, 1), (37, .getfield 9, 3), (40, .aload_n 0, 1), (41, .getfield 15, 3), (44, .isub, 1), (45, .invokestatic 92, 3), (48, .iload_n 2, 1), (49, .imul, 1), (50, .iload_n 3, 1), (51, .sipush 256, 3), (54, .imul, 1), (55, .iadd, 1), (56, .bipush 64, 2), (58, .idiv, 1), (59, .ireturn, 1)]
set_option maxRecDepth 20000 in
theorem DX3_misheardWith : Lst YX3_misheardWith LX3_misheardWith := by unfold Lst; decide +kernel
def LX3_loseAccent : LI := [(0, .aload_n 0, 1), (1, .bipush 64, 2), (3, .putfield 15, 3), (6, .aload_n 0, 1), (7, .iconst 0, 1), (8, .putfield 39, 3), (11, .aload_n 0, 1), (12, .iconst 0, 1), (13, .putfield 42, 3), (16, .aload_n 0, 1), (17, .iconst 0, 1), (18, .putfield 45, 3), (21, .aload_n 0, 1), (22, .iconst (-1), 1), (23, .putfield 18, 3), (26, .aload_n 0, 1), (27, .iconst 0, 1), (28, .putfield 48, 3), (31, .return_, 1)]
set_option maxRecDepth 20000 in
theorem DX3_loseAccent : Lst YX3_loseAccent LX3_loseAccent := by unfold Lst; decide +kernel
def LX4_init : LI := [(0, .aload_n 0, 1), (1, .invokespecial 3, 3), (4, .aload_n 0, 1), (5, .sipush 256, 3), (8, .newarray .int, 2), (10, .putfield 9, 3), (13, .return_, 1)]
set_option maxRecDepth 20000 in
theorem DX4_init : Lst YX4_init LX4_init := by unfold Lst; decide +kernel
def LX4_copyFrom : LI := [(0, .aload_n 1, 1), (1, .getfield 9, 3), (4, .iconst 0, 1), (5, .aload_n 0, 1), (6, .getfield 9, 3), (9, .iconst 0, 1), (10, .sipush 256, 3), (13, .invokestatic 15, 3), (16, .aload_n 0, 1), (17, .aload_n 1, 1), (18, .getfield 21, 3), (21, .putfield 21, 3), (24, .aload_n 0, 1), (25, .aload_n 1, 1), (26, .getfield 25, 3), (29, .putfield 25, 3), (32, .return_, 1)]
set_option maxRecDepth 20000 in
theorem DX4_copyFrom : Lst YX4_copyFrom LX4_copyFrom := by unfold Lst; decide +kernel
def LX4_bitAt : LI := [(0, .aload_n 0, 1), (1, .getfield 9, 3), (4, .aload_n 0, 1), (5, .getfield 21, 3), (8, .iload_n 1, 1), (9, .iadd, 1), (10, .sipush 255, 3), (13, .iand, 1), (14, .iaload, 1), (15, .ireturn, 1)]
set_option maxRecDepth 20000 in
theorem DX4_bitAt : Lst YX4_bitAt LX4_bitAt := by unfold Lst; decide +kernel
def LX4_put : LI := [(0, .aload_n 0, 1), (1, .getfield 25, 3), (4, .sipush 256, 3), (7, .if_icmp .ge 32, 3), (10, .aload_n 0, 1), (11, .getfield 9, 3), (14, .aload_n 0, 1), (15, .getfield 21, 3), (18, .aload_n 0, 1), (19, .getfield 25, 3), (22, .iadd, 1), (23, .sipush 255, 3), (26, .iand, 1), (27, .iload_n 1, 1), (28, .iastore, 1), (29, .aload_n 0, 1), (30, .dup, 1), (31, .getfield 25, 3), (34, .iconst 1, 1), (35, .iadd, 1), (36, .putfield 25, 3), (39, .return_, 1)]
set_option maxRecDepth 20000 in
theorem DX4_put : Lst YX4_put LX4_put := by unfold Lst; decide +kernel
def LX4_putDigit : LI := [(0, .iconst 3, 1), (1, .istore_n 2, 1), (2, .iload_n 2, 1), (3, .ifCond .lt 18, 3), (6, .aload_n 0, 1), (7, .iload_n 1, 1), (8, .iload_n 2, 1), (9, .ishr, 1), (10, .iconst 1, 1), (11, .iand, 1), (12, .invokevirtual 28, 3), (15, .iinc 2 (-1), 3), (18, .goto (-16), 3), (21, .return_, 1)]
set_option maxRecDepth 20000 in
theorem DX4_putDigit : Lst YX4_putDigit LX4_putDigit := by unfold Lst; decide +kernel
def LX4_take : LI := [(0, .iconst 0, 1), (1, .istore_n 2, 1), (2, .iconst 0, 1), (3, .istore_n 3, 1), (4, .iload_n 3, 1), (5, .iload_n 1, 1), (6, .if_icmp .ge 52, 3), (9, .iconst 2, 1), (10, .iload_n 2, 1), (11, .imul, 1), (12, .istore_n 2, 1), (13, .aload_n 0, 1), (14, .getfield 25, 3), (17, .ifCond .le 35, 3), (20, .iload_n 2, 1), (21, .aload_n 0, 1), (22, .iconst 0, 1), (23, .invokevirtual 32, 3), (26, .iadd, 1), (27, .istore_n 2, 1), (28, .aload_n 0, 1), (29, .aload_n 0, 1), (30, .getfield 21, 3), (33, .iconst 1, 1), (34, .iadd, 1), (35, .sipush 255, 3), (38, .iand, 1), (39, .putfield 21, 3), (42, .aload_n 0, 1), (43, .dup, 1), (44, .getfield 25, 3), (47, .iconst 1, 1), (48, .isub, 1), (49, .putfield 25, 3), (52, .iinc 3 1, 3), (55, .goto (-51), 3), (58, .iload_n 2, 1), (59, .ireturn, 1)]
set_option maxRecDepth 20000 in
theorem DX4_take : Lst YX4_take LX4_take := by unfold Lst; decide +kernel
def LX5_init : LI := [(0, .aload_n 0, 1), (1, .invokespecial 3, 3), (4, .aload_n 0, 1), (5, .bipush 8, 2), (7, .anewarray 9, 3), (10, .putfield 11, 3), (13, .aload_n 0, 1), (14, .new 17, 3), (17, .dup, 1), (18, .invokespecial 19, 3), (21, .putfield 20, 3), (24, .iconst 0, 1), (25, .istore_n 1, 1), (26, .iload_n 1, 1), (27, .bipush 8, 2), (29, .if_icmp .ge 22, 3), (32, .aload_n 0, 1), (33, .getfield 11, 3), (36, .iload_n 1, 1), (37, .new 9, 3), (40, .dup, 1), (41, .invokespecial 24, 3), (44, .aastore, 1), (45, .iinc 1 1, 3), (48, .goto (-22), 3), (51, .return_, 1)]
set_option maxRecDepth 20000 in
theorem DX5_init : Lst YX5_init LX5_init := by unfold Lst; decide +kernel
def LX5_copyFrom : LI := [(0, .iconst 0, 1), (1, .istore_n 2, 1), (2, .iload_n 2, 1), (3, .bipush 8, 2), (5, .if_icmp .ge 24, 3), (8, .aload_n 0, 1), (9, .getfield 11, 3), (12, .iload_n 2, 1), (13, .aaload, 1), (14, .aload_n 1, 1), (15, .getfield 11, 3), (18, .iload_n 2, 1), (19, .aaload, 1), (20, .invokevirtual 25, 3), (23, .iinc 2 1, 3), (26, .goto (-24), 3), (29, .aload_n 0, 1), (30, .getfield 20, 3), (33, .aload_n 1, 1), (34, .getfield 20, 3), (37, .invokevirtual 29, 3), (40, .aload_n 0, 1), (41, .aload_n 1, 1), (42, .getfield 32, 3), (45, .putfield 32, 3), (48, .aload_n 0, 1), (49, .aload_n 1, 1), (50, .getfield 36, 3), (53, .putfield 36, 3), (56, .aload_n 0, 1), (57, .aload_n 1, 1), (58, .getfield 40, 3), (61, .putfield 40, 3), (64, .return_, 1)]
set_option maxRecDepth 20000 in
theorem DX5_copyFrom : Lst YX5_copyFrom LX5_copyFrom := by unfold Lst; decide +kernel
def LX5_receive : LI := [(0, .aload_n 0, 1), (1, .aload_n 0, 1), (2, .getfield 32, 3), (5, .iload_n 2, 1), (6, .lshl, 1), (7, .iload_n 1, 1), (8, .i2l, 1), (9, .lor, 1), (10, .ldc2_w 43, 3), (13, .land, 1), (14, .putfield 32, 3), (17, .aload_n 0, 1), (18, .dup, 1), (19, .getfield 36, 3), (22, .iload_n 2, 1), (23, .iadd, 1), (24, .putfield 36, 3), (27, .aload_n 0, 1), (28, .dup, 1), (29, .getfield 40, 3), (32, .iload_n 3, 1), (33, .iadd, 1), (34, .putfield 40, 3), (37, .return_, 1)]
set_option maxRecDepth 20000 in
theorem DX5_receive : Lst YX5_receive LX5_receive := by unfold Lst; decide +kernel
def LX5_bits : LI := [(0, .iconst 0, 1), (1, .istore_n 1, 1), (2, .iconst 0, 1), (3, .istore_n 2, 1), (4, .iload_n 2, 1), (5, .bipush 8, 2), (7, .if_icmp .ge 21, 3), (10, .iload_n 1, 1), (11, .aload_n 0, 1), (12, .getfield 11, 3), (15, .iload_n 2, 1), (16, .aaload, 1), (17, .getfield 45, 3), (20, .iadd, 1), (21, .istore_n 1, 1), (22, .iinc 2 1, 3), (25, .goto (-21), 3), (28, .iload_n 1, 1), (29, .ireturn, 1)]
set_option maxRecDepth 20000 in
theorem DX5_bits : Lst YX5_bits LX5_bits := by unfold Lst; decide +kernel
def LX5_shies : LI := [(0, .iconst 0, 1), (1, .istore_n 1, 1), (2, .iconst 0, 1), (3, .istore_n 2, 1), (4, .iload_n 2, 1), (5, .bipush 8, 2), (7, .if_icmp .ge 21, 3), (10, .iload_n 1, 1), (11, .aload_n 0, 1), (12, .getfield 11, 3), (15, .iload_n 2, 1), (16, .aaload, 1), (17, .getfield 48, 3), (20, .iadd, 1), (21, .istore_n 1, 1), (22, .iinc 2 1, 3), (25, .goto (-21), 3), (28, .iload_n 1, 1), (29, .ireturn, 1)]
set_option maxRecDepth 20000 in
theorem DX5_shies : Lst YX5_shies LX5_shies := by unfold Lst; decide +kernel
def LX5_insulted : LI := [(0, .iconst 0, 1), (1, .istore_n 1, 1), (2, .iconst 0, 1), (3, .istore_n 2, 1), (4, .iload_n 2, 1), (5, .bipush 8, 2), (7, .if_icmp .ge 29, 3), (10, .iload_n 1, 1), (11, .aload_n 0, 1), (12, .getfield 11, 3), (15, .iload_n 2, 1), (16, .aaload, 1), (17, .getfield 51, 3), (20, .ifCond .eq 7, 3), (23, .iconst 1, 1), (24, .goto 4, 3), (27, .iconst 0, 1), (28, .iadd, 1), (29, .istore_n 1, 1), (30, .iinc 2 1, 3), (33, .goto (-29), 3), (36, .iload_n 1, 1), (37, .ireturn, 1)]
set_option maxRecDepth 20000 in
theorem DX5_insulted : Lst YX5_insulted LX5_insulted := by unfold Lst; decide +kernel
def LX6_init : LI := [(0, .aload_n 0, 1), (1, .invokespecial 3, 3), (4, .aload_n 0, 1), (5, .new 9, 3), (8, .dup, 1), (9, .invokespecial 11, 3), (12, .putfield 12, 3), (15, .aload_n 0, 1), (16, .new 9, 3), (19, .dup, 1), (20, .invokespecial 11, 3), (23, .putfield 16, 3), (26, .aload_n 0, 1), (27, .bipush 6, 2), (29, .anewarray 9, 3), (32, .putfield 19, 3), (35, .aload_n 0, 1), (36, .new 23, 3), (39, .dup, 1), (40, .invokespecial 25, 3), (43, .putfield 26, 3), (46, .aload_n 0, 1), (47, .new 30, 3), (50, .dup, 1), (51, .invokespecial 32, 3), (54, .putfield 33, 3), (57, .iconst 0, 1), (58, .istore_n 1, 1), (59, .iload_n 1, 1), (60, .bipush 6, 2), (62, .if_icmp .ge 22, 3), (65, .aload_n 0, 1), (66, .getfield 19, 3), (69, .iload_n 1, 1), (70, .new 9, 3), (73, .dup, 1), (74, .invokespecial 11, 3), (77, .aastore, 1), (78, .iinc 1 1, 3), (81, .goto (-22), 3), (84, .return_, 1)]
set_option maxRecDepth 20000 in
theorem DX6_init : Lst YX6_init LX6_init := by unfold Lst; decide +kernel
def LX6_build : LI := [(0, .aload_n 0, 1), (1, .iload_n 1, 1), (2, .iload_n 2, 1), (3, .invokevirtual 37, 3), (6, .astore 5, 2), (8, .iload_n 3, 1), (9, .iload 4, 2), (11, .invokestatic 41, 3), (14, .aload_n 0, 1), (15, .invokevirtual 45, 3), (18, .aload 5, 2), (20, .iload_n 3, 1), (21, .invokevirtual 48, 3), (24, .istore 6, 2), (26, .aload 5, 2), (28, .iload_n 3, 1), (29, .iload 4, 2), (31, .invokevirtual 54, 3), (34, .iload 6, 2), (36, .ireturn, 1)]
set_option maxRecDepth 20000 in
theorem DX6_build : Lst YX6_build LX6_build := by unfold Lst; decide +kernel
def LX6_carry : LI := [(0, .aload_n 0, 1), (1, .iload_n 1, 1), (2, .iload_n 2, 1), (3, .invokevirtual 37, 3), (6, .astore 4, 2), (8, .iload_n 3, 1), (9, .ifCond .lt 8, 3), (12, .iload_n 3, 1), (13, .iconst 4, 1), (14, .if_icmp .le 13, 3), (17, .new 57, 3), (20, .dup, 1), (21, .ldc 59, 2), (23, .invokespecial 61, 3), (26, .athrow, 1), (27, .aload_n 0, 1), (28, .invokevirtual 45, 3), (31, .aload 4, 2), (33, .getfield 64, 3), (36, .istore 5, 2), (38, .aload 4, 2), (40, .iload_n 3, 1), (41, .putfield 64, 3), (44, .iload 5, 2), (46, .ireturn, 1)]
set_option maxRecDepth 20000 in
theorem DX6_carry : Lst YX6_carry LX6_carry := by unfold Lst; decide +kernel
def LX6_insult : LI := [(0, .aload_n 0, 1), (1, .iload_n 1, 1), (2, .iload_n 2, 1), (3, .invokevirtual 37, 3), (6, .astore 4, 2), (8, .iload_n 3, 1), (9, .sipush (-300), 3), (12, .if_icmp .lt 10, 3), (15, .iload_n 3, 1), (16, .sipush 300, 3), (19, .if_icmp .le 13, 3), (22, .new 57, 3), (25, .dup, 1), (26, .ldc 68, 2), (28, .invokespecial 61, 3), (31, .athrow, 1), (32, .aload 4, 2), (34, .getfield 70, 3), (37, .iload_n 3, 1), (38, .iadd, 1), (39, .istore 5, 2), (41, .iload 5, 2), (43, .sipush (-1000), 3), (46, .if_icmp .lt 11, 3), (49, .iload 5, 2), (51, .sipush 1000, 3), (54, .if_icmp .le 13, 3), (57, .new 73, 3), (60, .dup, 1), (61, .ldc 75, 2), (63, .invokespecial 77, 3), (66, .athrow, 1), (67, .aload_n 0, 1), (68, .invokevirtual 45, 3), (71, .aload 4, 2), (73, .iload 5, 2), (75, .putfield 70, 3), (78, .iload 5, 2), (80, .ireturn, 1)]
set_option maxRecDepth 20000 in
theorem DX6_insult : Lst YX6_insult LX6_insult := by unfold Lst; decide +kernel
def LX6_set : LI := [(0, .iload_n 1, 1), (1, .invokestatic 78, 3), (4, .iload_n 2, 1), (5, .getstatic 82, 3), (8, .iload_n 1, 1), (9, .iaload, 1), (10, .if_icmp .lt 12, 3), (13, .iload_n 2, 1), (14, .getstatic 86, 3), (17, .iload_n 1, 1), (18, .iaload, 1), (19, .if_icmp .le 13, 3), (22, .new 57, 3), (25, .dup, 1), (26, .ldc 89, 2), (28, .invokespecial 61, 3), (31, .athrow, 1), (32, .aload_n 0, 1), (33, .invokevirtual 45, 3), (36, .aload_n 0, 1), (37, .getfield 12, 3), (40, .getfield 91, 3), (43, .iload_n 1, 1), (44, .iaload, 1), (45, .istore_n 3, 1), (46, .aload_n 0, 1), (47, .getfield 12, 3), (50, .getfield 91, 3), (53, .iload_n 1, 1), (54, .iload_n 2, 1), (55, .iastore, 1), (56, .iload_n 3, 1), (57, .ireturn, 1)]
set_option maxRecDepth 20000 in
theorem DX6_set : Lst YX6_set LX6_set := by unfold Lst; decide +kernel
def LX6_learn : LI := [(0, .aload_n 0, 1), (1, .iload_n 1, 1), (2, .invokevirtual 94, 3), (5, .astore_n 3, 1), (6, .iload_n 2, 1), (7, .invokestatic 98, 3), (10, .aload_n 0, 1), (11, .iload_n 2, 1), (12, .invokevirtual 101, 3), (15, .aload_n 0, 1), (16, .invokevirtual 45, 3), (19, .aload_n 0, 1), (20, .getfield 12, 3), (23, .aload_n 3, 1), (24, .iload_n 2, 1), (25, .aload_n 0, 1), (26, .getfield 26, 3), (29, .invokevirtual 104, 3), (32, .aload_n 3, 1), (33, .invokevirtual 108, 3), (36, .ireturn, 1)]
set_option maxRecDepth 20000 in
theorem DX6_learn : Lst YX6_learn LX6_learn := by unfold Lst; decide +kernel
def LX6_send : LI := [(0, .aload_n 0, 1), (1, .iload_n 1, 1), (2, .invokevirtual 94, 3), (5, .astore_n 3, 1), (6, .iload_n 2, 1), (7, .invokestatic 98, 3), (10, .aload_n 0, 1), (11, .iload_n 2, 1), (12, .invokevirtual 101, 3), (15, .aload_n 0, 1), (16, .invokevirtual 45, 3), (19, .aload_n 0, 1), (20, .getfield 12, 3), (23, .aload_n 3, 1), (24, .iload_n 2, 1), (25, .invokevirtual 113, 3), (28, .ireturn, 1)]
set_option maxRecDepth 20000 in
theorem DX6_send : Lst YX6_send LX6_send := by unfold Lst; decide +kernel
def LX6_forget : LI := [(0, .aload_n 0, 1), (1, .iload_n 1, 1), (2, .invokevirtual 94, 3), (5, .astore_n 2, 1), (6, .aload_n 0, 1), (7, .invokevirtual 45, 3), (10, .aload_n 2, 1), (11, .invokevirtual 108, 3), (14, .istore_n 3, 1), (15, .iconst 0, 1), (16, .istore 4, 2), (18, .iload 4, 2), (20, .bipush 8, 2), (22, .if_icmp .ge 19, 3), (25, .aload_n 2, 1), (26, .getfield 117, 3), (29, .iload 4, 2), (31, .aaload, 1), (32, .invokevirtual 121, 3), (35, .iinc 4 1, 3), (38, .goto (-20), 3), (41, .iload_n 3, 1), (42, .ireturn, 1)]
set_option maxRecDepth 20000 in
theorem DX6_forget : Lst YX6_forget LX6_forget := by unfold Lst; decide +kernel
def LX6_append : LI := [(0, .iload_n 1, 1), (1, .bipush 33, 2), (3, .if_icmp .lt 9, 3), (6, .iload_n 1, 1), (7, .bipush 126, 2), (9, .if_icmp .le 13, 3), (12, .new 57, 3), (15, .dup, 1), (16, .ldc 124, 2), (18, .invokespecial 61, 3), (21, .athrow, 1), (22, .aload_n 0, 1), (23, .getfield 33, 3), (26, .getfield 126, 3), (29, .bipush 60, 2), (31, .if_icmp .lt 13, 3), (34, .new 73, 3), (37, .dup, 1), (38, .ldc 129, 2), (40, .invokespecial 77, 3), (43, .athrow, 1), (44, .aload_n 0, 1), (45, .getfield 33, 3), (48, .getfield 131, 3), (51, .aload_n 0, 1), (52, .getfield 33, 3), (55, .getfield 126, 3), (58, .iload_n 1, 1), (59, .i2c, 1), (60, .castore, 1), (61, .aload_n 0, 1), (62, .getfield 33, 3), (65, .dup, 1), (66, .getfield 126, 3), (69, .iconst 1, 1), (70, .iadd, 1), (71, .putfield 126, 3), (74, .aload_n 0, 1), (75, .getfield 33, 3), (78, .getfield 126, 3), (81, .ireturn, 1)]
set_option maxRecDepth 20000 in
theorem DX6_append : Lst YX6_append LX6_append := by unfold Lst; decide +kernel
def LX6_clearBuffer : LI := [(0, .aload_n 0, 1), (1, .getfield 33, 3), (4, .getfield 126, 3), (7, .istore_n 1, 1), (8, .aload_n 0, 1), (9, .getfield 33, 3), (12, .iconst 0, 1), (13, .putfield 126, 3), (16, .iload_n 1, 1), (17, .ireturn, 1)]
set_option maxRecDepth 20000 in
theorem DX6_clearBuffer : Lst YX6_clearBuffer LX6_clearBuffer := by unfold Lst; decide +kernel
def LX6_firstError : LI := [(0, .aload_n 0, 1), (1, .getfield 33, 3), (4, .invokevirtual 135, 3), (7, .ireturn, 1)]
set_option maxRecDepth 20000 in
theorem DX6_firstError : Lst YX6_firstError LX6_firstError := by unfold Lst; decide +kernel
def LX6_say : LI := [(0, .aload_n 0, 1), (1, .getfield 33, 3), (4, .invokevirtual 138, 3), (7, .ifCond .ne 13, 3), (10, .new 57, 3), (13, .dup, 1), (14, .ldc 142, 2), (16, .invokespecial 61, 3), (19, .athrow, 1), (20, .aload_n 0, 1), (21, .getfield 33, 3), (24, .iconst 0, 1), (25, .invokevirtual 144, 3), (28, .istore_n 1, 1), (29, .aload_n 0, 1), (30, .getfield 33, 3), (33, .iconst 1, 1), (34, .invokevirtual 144, 3), (37, .istore_n 2, 1), (38, .aload_n 0, 1), (39, .getfield 12, 3), (42, .getfield 147, 3), (45, .getfield 151, 3), (48, .getfield 155, 3), (51, .iload_n 1, 1), (52, .iadd, 1), (53, .sipush 256, 3), (56, .if_icmp .gt 24, 3), (59, .aload_n 0, 1), (60, .getfield 12, 3), (63, .getfield 160, 3), (66, .getfield 151, 3), (69, .getfield 155, 3), (72, .iload_n 2, 1), (73, .iadd, 1), (74, .sipush 256, 3), (77, .if_icmp .le 13, 3), (80, .new 73, 3), (83, .dup, 1), (84, .ldc 163, 2), (86, .invokespecial 77, 3), (89, .athrow, 1), (90, .aload_n 0, 1), (91, .invokevirtual 45, 3), (94, .aload_n 0, 1), (95, .getfield 33, 3), (98, .aload_n 0, 1), (99, .getfield 12, 3), (102, .invokevirtual 165, 3), (105, .aload_n 0, 1), (106, .getfield 33, 3), (109, .iconst 0, 1), (110, .putfield 126, 3), (113, .iload_n 1, 1), (114, .iload_n 2, 1), (115, .iadd, 1), (116, .ireturn, 1)]
set_option maxRecDepth 20000 in
theorem DX6_say : Lst YX6_say LX6_say := by unfold Lst; decide +kernel
def LX6_undo : LI := [(0, .aload_n 0, 1), (1, .getfield 169, 3), (4, .iconst 1, 1), (5, .if_icmp .lt 12, 3), (8, .aload_n 0, 1), (9, .getfield 169, 3), (12, .bipush 6, 2), (14, .if_icmp .le 13, 3), (17, .new 73, 3), (20, .dup, 1), (21, .ldc 172, 2), (23, .invokespecial 77, 3), (26, .athrow, 1), (27, .aload_n 0, 1), (28, .dup, 1), (29, .getfield 169, 3), (32, .iconst 1, 1), (33, .isub, 1), (34, .putfield 169, 3), (37, .aload_n 0, 1), (38, .getfield 12, 3), (41, .aload_n 0, 1), (42, .getfield 19, 3), (45, .aload_n 0, 1), (46, .getfield 169, 3), (49, .aaload, 1), (50, .invokevirtual 174, 3), (53, .aload_n 0, 1), (54, .getfield 169, 3), (57, .ireturn, 1)]
set_option maxRecDepth 20000 in
theorem DX6_undo : Lst YX6_undo LX6_undo := by unfold Lst; decide +kernel
def LX6_street : LI := [(0, .aload_n 0, 1), (1, .iload_n 1, 1), (2, .iload_n 2, 1), (3, .invokevirtual 37, 3), (6, .astore 4, 2), (8, .iload_n 3, 1), (9, .ifCond .lt 9, 3), (12, .iload_n 3, 1), (13, .bipush 6, 2), (15, .if_icmp .le 13, 3), (18, .new 57, 3), (21, .dup, 1), (22, .ldc 177, 2), (24, .invokespecial 61, 3), (27, .athrow, 1), (28, .aload 4, 2), (30, .iload_n 3, 1), (31, .invokevirtual 48, 3), (34, .ireturn, 1)]
set_option maxRecDepth 20000 in
theorem DX6_street : Lst YX6_street LX6_street := by unfold Lst; decide +kernel
def LX6_accent : LI := [(0, .aload_n 0, 1), (1, .iload_n 1, 1), (2, .iload_n 2, 1), (3, .invokevirtual 37, 3), (6, .astore 4, 2), (8, .iload_n 3, 1), (9, .ifCond .lt 9, 3), (12, .iload_n 3, 1), (13, .bipush 10, 2), (15, .if_icmp .le 13, 3), (18, .new 57, 3), (21, .dup, 1), (22, .ldc 179, 2), (24, .invokespecial 61, 3), (27, .athrow, 1), (28, .aload 4, 2), (30, .iload_n 3, 1), (31, .invokevirtual 181, 3), (34, .ireturn, 1)]
set_option maxRecDepth 20000 in
theorem DX6_accent : Lst YX6_accent LX6_accent := by unfold Lst; decide +kernel
def LX6_waits : LI := [(0, .aload_n 0, 1), (1, .iload_n 1, 1), (2, .invokevirtual 94, 3), (5, .getfield 151, 3), (8, .astore_n 3, 1), (9, .iload_n 2, 1), (10, .ifCond .lt 11, 3), (13, .iload_n 2, 1), (14, .aload_n 3, 1), (15, .getfield 155, 3), (18, .if_icmp .lt 13, 3), (21, .new 184, 3), (24, .dup, 1), (25, .ldc 186, 2), (27, .invokespecial 188, 3), (30, .athrow, 1), (31, .aload_n 3, 1), (32, .iload_n 2, 1), (33, .invokevirtual 189, 3), (36, .ireturn, 1)]
set_option maxRecDepth 20000 in
theorem DX6_waits : Lst YX6_waits LX6_waits := by unfold Lst; decide +kernel
def LX6_had : LI := [(0, .aload_n 0, 1), (1, .iload_n 1, 1), (2, .invokevirtual 94, 3), (5, .getfield 192, 3), (8, .lreturn, 1)]
set_option maxRecDepth 20000 in
theorem DX6_had : Lst YX6_had LX6_had := by unfold Lst; decide +kernel
def LX6_count : LI := [(0, .iload_n 1, 1), (1, .tableswitch 226 0 12 #[67, 75, 83, 97, 111, 122, 133, 144, 155, 166, 177, 199, 221], 67), (68, .aload_n 0, 1), (69, .getfield 12, 3), (72, .getfield 196, 3), (75, .ireturn, 1), (76, .aload_n 0, 1), (77, .getfield 12, 3), (80, .getfield 199, 3), (83, .ireturn, 1), (84, .aload_n 0, 1), (85, .getfield 12, 3), (88, .getfield 147, 3), (91, .getfield 151, 3), (94, .getfield 155, 3), (97, .ireturn, 1), (98, .aload_n 0, 1), (99, .getfield 12, 3), (102, .getfield 160, 3), (105, .getfield 151, 3), (108, .getfield 155, 3), (111, .ireturn, 1), (112, .aload_n 0, 1), (113, .getfield 12, 3), (116, .getfield 147, 3), (119, .getfield 202, 3), (122, .ireturn, 1), (123, .aload_n 0, 1), (124, .getfield 12, 3), (127, .getfield 160, 3), (130, .getfield 202, 3), (133, .ireturn, 1), (134, .aload_n 0, 1), (135, .getfield 12, 3), (138, .getfield 147, 3), (141, .getfield 205, 3), (144, .ireturn, 1), (145, .aload_n 0, 1), (146, .getfield 12, 3), (149, .getfield 160, 3), (152, .getfield 205, 3), (155, .ireturn, 1), (156, .aload_n 0, 1), (157, .getfield 12, 3), (160, .getfield 147, 3), (163, .invokevirtual 108, 3), (166, .ireturn, 1), (167, .aload_n 0, 1), (168, .getfield 12, 3), (171, .getfield 160, 3), (174, .invokevirtual 108, 3), (177, .ireturn, 1), (178, .aload_n 0, 1), (179, .getfield 12, 3), (182, .getfield 147, 3), (185, .invokevirtual 208, 3), (188, .aload_n 0, 1), (189, .getfield 12, 3), (192, .getfield 160, 3), (195, .invokevirtual 208, 3), (198, .iadd, 1), (199, .ireturn, 1), (200, .aload_n 0, 1), (201, .getfield 12, 3), (204, .getfield 147, 3), (207, .invokevirtual 211, 3), (210, .aload_n 0, 1), (211, .getfield 12, 3), (214, .getfield 160, 3), (217, .invokevirtual 211, 3), (220, .iadd, 1), (221, .ireturn, 1), (222, .aload_n 0, 1), (223, .getfield 169, 3), (226, .ireturn, 1), (227, .new 57, 3), (230, .dup, 1), (231, .ldc 214, 2), (233, .invokespecial 61, 3), (236, .athrow, 1)]
set_option maxRecDepth 20000 in
theorem DX6_count : Lst YX6_count LX6_count := by unfold Lst; decide +kernel
def LX6_setting : LI := [(0, .iload_n 1, 1), (1, .invokestatic 78, 3), (4, .aload_n 0, 1), (5, .getfield 12, 3), (8, .getfield 91, 3), (11, .iload_n 1, 1), (12, .iaload, 1), (13, .ireturn, 1)]
set_option maxRecDepth 20000 in
theorem DX6_setting : Lst YX6_setting LX6_setting := by unfold Lst; decide +kernel
def LX6_sure : LI := [(0, .aload_n 0, 1), (1, .iload_n 1, 1), (2, .iload_n 2, 1), (3, .invokevirtual 37, 3), (6, .invokevirtual 216, 3), (9, .ireturn, 1)]
set_option maxRecDepth 20000 in
theorem DX6_sure : Lst YX6_sure LX6_sure := by unfold Lst; decide +kernel
def LX6_ifSent : LI := [(0, .aload_n 0, 1), (1, .iload_n 1, 1), (2, .invokevirtual 94, 3), (5, .pop, 1), (6, .iload_n 2, 1), (7, .invokestatic 98, 3), (10, .iload_n 3, 1), (11, .ifCond .lt 8, 3), (14, .iload_n 3, 1), (15, .iconst 2, 1), (16, .if_icmp .le 13, 3), (19, .new 57, 3), (22, .dup, 1), (23, .ldc 219, 2), (25, .invokespecial 61, 3), (28, .athrow, 1), (29, .aload_n 0, 1), (30, .getfield 16, 3), (33, .aload_n 0, 1), (34, .getfield 12, 3), (37, .iload_n 1, 1), (38, .invokevirtual 221, 3), (41, .astore 4, 2), (43, .aload 4, 2), (45, .invokevirtual 208, 3), (48, .istore 5, 2), (50, .aload_n 0, 1), (51, .getfield 16, 3), (54, .aload 4, 2), (56, .iload_n 2, 1), (57, .invokevirtual 113, 3), (60, .istore 6, 2), (62, .iload_n 3, 1), (63, .ifCond .ne 6, 3), (66, .iload 6, 2), (68, .ireturn, 1), (69, .iload_n 3, 1), (70, .iconst 1, 1), (71, .if_icmp .ne 14, 3), (74, .aload 4, 2), (76, .invokevirtual 208, 3), (79, .iload 5, 2), (81, .isub, 1), (82, .goto 11, 3), (85, .aload 4, 2), (87, .getfield 151, 3), (90, .getfield 155, 3), (93, .ireturn, 1)]
set_option maxRecDepth 20000 in
theorem DX6_ifSent : Lst YX6_ifSent LX6_ifSent := by unfold Lst; decide +kernel
def LX6_ifLearned : LI := [(0, .aload_n 0, 1), (1, .iload_n 1, 1), (2, .invokevirtual 94, 3), (5, .pop, 1), (6, .iload_n 2, 1), (7, .invokestatic 98, 3), (10, .aload_n 0, 1), (11, .getfield 16, 3), (14, .aload_n 0, 1), (15, .getfield 12, 3), (18, .iload_n 1, 1), (19, .invokevirtual 221, 3), (22, .astore_n 3, 1), (23, .aload_n 0, 1), (24, .getfield 16, 3), (27, .aload_n 3, 1), (28, .iload_n 2, 1), (29, .aload_n 0, 1), (30, .getfield 26, 3), (33, .invokevirtual 104, 3), (36, .aload_n 3, 1), (37, .invokevirtual 108, 3), (40, .ireturn, 1)]
set_option maxRecDepth 20000 in
theorem DX6_ifLearned : Lst YX6_ifLearned LX6_ifLearned := by unfold Lst; decide +kernel
def LX6_beatsFor : LI := [(0, .aload_n 0, 1), (1, .iload_n 1, 1), (2, .invokevirtual 94, 3), (5, .pop, 1), (6, .aload_n 0, 1), (7, .getfield 16, 3), (10, .aload_n 0, 1), (11, .getfield 12, 3), (14, .iload_n 1, 1), (15, .invokevirtual 221, 3), (18, .astore_n 2, 1), (19, .iconst 0, 1), (20, .istore_n 3, 1), (21, .iload_n 3, 1), (22, .sipush 300, 3), (25, .if_icmp .gt 31, 3), (28, .aload_n 2, 1), (29, .getfield 151, 3), (32, .getfield 155, 3), (35, .ifCond .ne 5, 3), (38, .iload_n 3, 1), (39, .ireturn, 1), (40, .aload_n 0, 1), (41, .getfield 16, 3), (44, .aload_n 2, 1), (45, .iconst 1, 1), (46, .invokevirtual 113, 3), (49, .pop, 1), (50, .iinc 3 1, 3), (53, .goto (-32), 3), (56, .iconst (-1), 1), (57, .ireturn, 1)]
set_option maxRecDepth 20000 in
theorem DX6_beatsFor : Lst YX6_beatsFor LX6_beatsFor := by unfold Lst; decide +kernel
def LX6_bestLesson : LI := [(0, .aload_n 0, 1), (1, .iload_n 1, 1), (2, .invokevirtual 94, 3), (5, .pop, 1), (6, .aload_n 0, 1), (7, .getfield 16, 3), (10, .aload_n 0, 1), (11, .getfield 12, 3), (14, .iload_n 1, 1), (15, .invokevirtual 221, 3), (18, .astore_n 2, 1), (19, .iconst 1, 1), (20, .istore_n 3, 1), (21, .iconst (-1), 1), (22, .istore 4, 2), (24, .aload_n 0, 1), (25, .getfield 26, 3), (28, .invokevirtual 225, 3), (31, .iconst 1, 1), (32, .istore 5, 2), (34, .iload 5, 2), (36, .bipush 40, 2), (38, .if_icmp .gt 49, 3), (41, .aload_n 0, 1), (42, .getfield 16, 3), (45, .aload_n 2, 1), (46, .aload_n 0, 1), (47, .getfield 26, 3), (50, .invokevirtual 228, 3), (53, .aload_n 0, 1), (54, .getfield 16, 3), (57, .aload_n 2, 1), (58, .aload_n 0, 1), (59, .getfield 26, 3), (62, .invokevirtual 232, 3), (65, .istore 6, 2), (67, .iload 6, 2), (69, .iload 4, 2), (71, .if_icmp .le 10, 3), (74, .iload 6, 2), (76, .istore 4, 2), (78, .iload 5, 2), (80, .istore_n 3, 1), (81, .iinc 5 1, 3), (84, .goto (-50), 3), (87, .iload_n 3, 1), (88, .ireturn, 1)]
set_option maxRecDepth 20000 in
theorem DX6_bestLesson : Lst YX6_bestLesson LX6_bestLesson := by unfold Lst; decide +kernel
def LX6_hurts : LI := [(0, .aload_n 0, 1), (1, .iload_n 1, 1), (2, .iload_n 2, 1), (3, .invokevirtual 37, 3), (6, .getfield 64, 3), (9, .ifCond .ne 5, 3), (12, .iconst (-1), 1), (13, .ireturn, 1), (14, .aload_n 0, 1), (15, .getfield 16, 3), (18, .aload_n 0, 1), (19, .getfield 12, 3), (22, .iload_n 1, 1), (23, .invokevirtual 221, 3), (26, .astore_n 3, 1), (27, .iconst 0, 1), (28, .istore 4, 2), (30, .iload 4, 2), (32, .iload_n 2, 1), (33, .if_icmp .ge 25, 3), (36, .aload_n 0, 1), (37, .getfield 16, 3), (40, .aload_n 3, 1), (41, .aload_n 3, 1), (42, .getfield 117, 3), (45, .iload 4, 2), (47, .aaload, 1), (48, .invokevirtual 236, 3), (51, .pop, 1), (52, .iinc 4 1, 3), (55, .goto (-25), 3), (58, .aload_n 0, 1), (59, .getfield 16, 3), (62, .aload_n 3, 1), (63, .aload_n 3, 1), (64, .getfield 117, 3), (67, .iload_n 2, 1), (68, .aaload, 1), (69, .invokevirtual 240, 3), (72, .ireturn, 1)]
set_option maxRecDepth 20000 in
theorem DX6_hurts : Lst YX6_hurts LX6_hurts := by unfold Lst; decide +kernel
def LX6_rightShare : LI := [(0, .aload_n 0, 1), (1, .iload_n 1, 1), (2, .invokevirtual 94, 3), (5, .astore_n 2, 1), (6, .aload_n 2, 1), (7, .getfield 202, 3), (10, .ifCond .le 22, 3), (13, .aload_n 2, 1), (14, .getfield 202, 3), (17, .aload_n 2, 1), (18, .getfield 205, 3), (21, .isub, 1), (22, .i2d, 1), (23, .aload_n 2, 1), (24, .getfield 202, 3), (27, .i2d, 1), (28, .ddiv, 1), (29, .goto 4, 3), (32, .dconst 1, 1), (33, .dreturn, 1)]
set_option maxRecDepth 20000 in
theorem DX6_rightShare : Lst YX6_rightShare LX6_rightShare := by unfold Lst; decide +kernel
def LX6_digest : LI := [(0, .ldc2_w 243, 3), (3, .lstore_n 1, 1), (4, .iconst 0, 1), (5, .istore_n 3, 1), (6, .iload_n 3, 1), (7, .bipush 12, 2), (9, .if_icmp .gt 22, 3), (12, .ldc2_w 245, 3), (15, .lload_n 1, 1), (16, .lmul, 1), (17, .aload_n 0, 1), (18, .iload_n 3, 1), (19, .invokevirtual 247, 3), (22, .i2l, 1), (23, .ladd, 1), (24, .lstore_n 1, 1), (25, .iinc 3 1, 3), (28, .goto (-22), 3), (31, .iconst 0, 1), (32, .istore_n 3, 1), (33, .iload_n 3, 1), (34, .iconst 3, 1), (35, .if_icmp .ge 26, 3), (38, .ldc2_w 245, 3), (41, .lload_n 1, 1), (42, .lmul, 1), (43, .aload_n 0, 1), (44, .getfield 12, 3), (47, .getfield 91, 3), (50, .iload_n 3, 1), (51, .iaload, 1), (52, .i2l, 1), (53, .ladd, 1), (54, .lstore_n 1, 1), (55, .iinc 3 1, 3), (58, .goto (-25), 3), (61, .iconst 0, 1), (62, .istore_n 3, 1), (63, .iload_n 3, 1), (64, .iconst 2, 1), (65, .if_icmp .ge 41, 3), (68, .iconst 0, 1), (69, .istore 4, 2), (71, .iload 4, 2), (73, .bipush 8, 2), (75, .if_icmp .ge 18, 3), (78, .aload_n 0, 1), (79, .lload_n 1, 1), (80, .iload_n 3, 1), (81, .iload 4, 2), (83, .invokevirtual 250, 3), (86, .lstore_n 1, 1), (87, .iinc 4 1, 3), (90, .goto (-19), 3), (93, .aload_n 0, 1), (94, .lload_n 1, 1), (95, .iload_n 3, 1), (96, .invokevirtual 254, 3), (99, .lstore_n 1, 1), (100, .iinc 3 1, 3), (103, .goto (-40), 3), (106, .ldc2_w 245, 3), (109, .lload_n 1, 1), (110, .lmul, 1), (111, .aload_n 0, 1), (112, .getfield 33, 3), (115, .getfield 126, 3), (118, .i2l, 1), (119, .ladd, 1), (120, .lstore_n 1, 1), (121, .iconst 0, 1), (122, .istore_n 3, 1), (123, .iload_n 3, 1), (124, .aload_n 0, 1), (125, .getfield 33, 3), (128, .getfield 126, 3), (131, .if_icmp .ge 32, 3), (134, .iload_n 3, 1), (135, .bipush 60, 2), (137, .if_icmp .ge 26, 3), (140, .ldc2_w 245, 3), (143, .lload_n 1, 1), (144, .lmul, 1), (145, .aload_n 0, 1), (146, .getfield 33, 3), (149, .getfield 131, 3), (152, .iload_n 3, 1), (153, .caload, 1), (154, .i2l, 1), (155, .ladd, 1), (156, .lstore_n 1, 1), (157, .iinc 3 1, 3), (160, .goto (-37), 3), (163, .lload_n 1, 1), (164, .lreturn, 1)]
set_option maxRecDepth 20000 in
theorem DX6_digest : Lst YX6_digest LX6_digest := by unfold Lst; decide +kernel
def LX6_digestOfTone : LI := [(0, .lload_n 1, 1), (1, .lstore 5, 2), (3, .iconst 0, 1), (4, .istore 7, 2), (6, .iload 7, 2), (8, .bipush 6, 2), (10, .if_icmp .gt 28, 3), (13, .ldc2_w 245, 3), (16, .lload 5, 2), (18, .lmul, 1), (19, .aload_n 0, 1), (20, .iload_n 3, 1), (21, .iload 4, 2), (23, .iload 7, 2), (25, .invokevirtual 258, 3), (28, .i2l, 1), (29, .ladd, 1), (30, .lstore 5, 2), (32, .iinc 7 1, 3), (35, .goto (-29), 3), (38, .iconst 0, 1), (39, .istore 7, 2), (41, .iload 7, 2), (43, .bipush 10, 2), (45, .if_icmp .gt 28, 3), (48, .ldc2_w 245, 3), (51, .lload 5, 2), (53, .lmul, 1), (54, .aload_n 0, 1), (55, .iload_n 3, 1), (56, .iload 4, 2), (58, .iload 7, 2), (60, .invokevirtual 262, 3), (63, .i2l, 1), (64, .ladd, 1), (65, .lstore 5, 2), (67, .iinc 7 1, 3), (70, .goto (-29), 3), (73, .ldc2_w 245, 3), (76, .lload 5, 2), (78, .lmul, 1), (79, .aload_n 0, 1), (80, .iload_n 3, 1), (81, .iload 4, 2), (83, .invokevirtual 265, 3), (86, .i2l, 1), (87, .ladd, 1), (88, .lstore 5, 2), (90, .ldc2_w 245, 3), (93, .lload 5, 2), (95, .lmul, 1), (96, .aload_n 0, 1), (97, .iload_n 3, 1), (98, .iload 4, 2), (100, .invokevirtual 269, 3), (103, .i2l, 1), (104, .ladd, 1), (105, .lreturn, 1)]
set_option maxRecDepth 20000 in
theorem DX6_digestOfTone : Lst YX6_digestOfTone LX6_digestOfTone := by unfold Lst; decide +kernel
def LX6_digestOfWay : LI := [(0, .lload_n 1, 1), (1, .lstore 4, 2), (3, .aload_n 0, 1), (4, .getfield 12, 3), (7, .iload_n 3, 1), (8, .invokevirtual 272, 3), (11, .getfield 151, 3), (14, .astore 6, 2), (16, .iconst 0, 1), (17, .istore 7, 2), (19, .iload 7, 2), (21, .aload 6, 2), (23, .getfield 155, 3), (26, .if_icmp .ge 26, 3), (29, .ldc2_w 245, 3), (32, .lload 4, 2), (34, .lmul, 1), (35, .aload 6, 2), (37, .iload 7, 2), (39, .invokevirtual 189, 3), (42, .i2l, 1), (43, .ladd, 1), (44, .lstore 4, 2), (46, .iinc 7 1, 3), (49, .goto (-30), 3), (52, .ldc2_w 245, 3), (55, .lload 4, 2), (57, .lmul, 1), (58, .aload_n 0, 1), (59, .iload_n 3, 1), (60, .invokevirtual 275, 3), (63, .ladd, 1), (64, .lstore 4, 2), (66, .iconst 0, 1), (67, .istore 7, 2), (69, .iload 7, 2), (71, .iconst 2, 1), (72, .if_icmp .gt 27, 3), (75, .ldc2_w 245, 3), (78, .lload 4, 2), (80, .lmul, 1), (81, .aload_n 0, 1), (82, .iload_n 3, 1), (83, .iconst 5, 1), (84, .iload 7, 2), (86, .invokevirtual 279, 3), (89, .i2l, 1), (90, .ladd, 1), (91, .lstore 4, 2), (93, .iinc 7 1, 3), (96, .goto (-27), 3), (99, .ldc2_w 245, 3), (102, .lload 4, 2), (104, .lmul, 1), (105, .aload_n 0, 1), (106, .iload_n 3, 1), (107, .bipush 12, 2), (109, .invokevirtual 282, 3), (112, .i2l, 1), (113, .ladd, 1), (114, .lstore 4, 2), (116, .ldc2_w 245, 3), (119, .lload 4, 2), (121, .lmul, 1), (122, .aload_n 0, 1), (123, .iload_n 3, 1), (124, .invokevirtual 285, 3), (127, .i2l, 1), (128, .ladd, 1), (129, .lstore 4, 2), (131, .ldc2_w 245, 3), (134, .lload 4, 2), (136, .lmul, 1), (137, .aload_n 0, 1), (138, .iload_n 3, 1), (139, .invokevirtual 288, 3), (142, .i2l, 1), (143, .ladd, 1), (144, .lstore 4, 2), (146, .ldc2_w 245, 3), (149, .lload 4, 2), (151, .lmul, 1), (152, .aload_n 0, 1), (153, .iload_n 3, 1), (154, .invokevirtual 291, 3), (157, .invokestatic 295, 3), (160, .ladd, 1), (161, .lreturn, 1)]
set_option maxRecDepth 20000 in
theorem DX6_digestOfWay : Lst YX6_digestOfWay LX6_digestOfWay := by unfold Lst; decide +kernel
def LX6_bitsOfShare : LI := [(0, .dload_n 0, 1), (1, .dconst 0, 1), (2, .dcmp .g, 1), (3, .ifCond .gt 5, 3), (6, .lconst 0, 1), (7, .lreturn, 1), (8, .dload_n 0, 1), (9, .dstore_n 2, 1), (10, .ldc2_w 299, 3), (13, .lstore 4, 2), (15, .iconst 0, 1), (16, .istore 6, 2), (18, .iload 6, 2), (20, .sipush 1022, 3), (23, .if_icmp .ge 27, 3), (26, .dload_n 2, 1), (27, .dconst 1, 1), (28, .dcmp .g, 1), (29, .ifCond .ge 21, 3), (32, .dload_n 2, 1), (33, .ldc2_w 301, 3), (36, .dmul, 1), (37, .dstore_n 2, 1), (38, .lload 4, 2), (40, .lconst 1, 1), (41, .lsub, 1), (42, .lstore 4, 2), (44, .iinc 6 1, 3), (47, .goto (-29), 3), (50, .lload 4, 2), (52, .bipush 52, 2), (54, .lshl, 1), (55, .dload_n 2, 1), (56, .dconst 1, 1), (57, .dsub, 1), (58, .ldc2_w 303, 3), (61, .dmul, 1), (62, .d2l, 1), (63, .ladd, 1), (64, .lreturn, 1)]
set_option maxRecDepth 20000 in
theorem DX6_bitsOfShare : Lst YX6_bitsOfShare LX6_bitsOfShare := by unfold Lst; decide +kernel
def LX6_wayOf : LI := [(0, .iload_n 1, 1), (1, .ifCond .lt 8, 3), (4, .iload_n 1, 1), (5, .iconst 2, 1), (6, .if_icmp .lt 14, 3), (9, .new 184, 3), (12, .dup, 1), (13, .ldc_w 305, 3), (16, .invokespecial 188, 3), (19, .athrow, 1), (20, .aload_n 0, 1), (21, .getfield 12, 3), (24, .iload_n 1, 1), (25, .invokevirtual 272, 3), (28, .areturn, 1)]
set_option maxRecDepth 20000 in
theorem DX6_wayOf : Lst YX6_wayOf LX6_wayOf := by unfold Lst; decide +kernel
def LX6_toneOf : LI := [(0, .aload_n 0, 1), (1, .iload_n 1, 1), (2, .invokevirtual 94, 3), (5, .astore_n 3, 1), (6, .iload_n 2, 1), (7, .ifCond .lt 9, 3), (10, .iload_n 2, 1), (11, .bipush 8, 2), (13, .if_icmp .lt 14, 3), (16, .new 184, 3), (19, .dup, 1), (20, .ldc_w 307, 3), (23, .invokespecial 188, 3), (26, .athrow, 1), (27, .aload_n 3, 1), (28, .getfield 117, 3), (31, .iload_n 2, 1), (32, .aaload, 1), (33, .areturn, 1)]
set_option maxRecDepth 20000 in
theorem DX6_toneOf : Lst YX6_toneOf LX6_toneOf := by unfold Lst; decide +kernel
def LX6_checkStreetNumber : LI := [(0, .iload_n 0, 1), (1, .ifCond .lt 8, 3), (4, .iload_n 0, 1), (5, .iconst 4, 1), (6, .if_icmp .lt 14, 3), (9, .new 57, 3), (12, .dup, 1), (13, .ldc_w 309, 3), (16, .invokespecial 61, 3), (19, .athrow, 1), (20, .iload_n 1, 1), (21, .getstatic 311, 3), (24, .iload_n 0, 1), (25, .iaload, 1), (26, .if_icmp .lt 12, 3), (29, .iload_n 1, 1), (30, .getstatic 314, 3), (33, .iload_n 0, 1), (34, .iaload, 1), (35, .if_icmp .le 14, 3), (38, .new 57, 3), (41, .dup, 1), (42, .ldc_w 317, 3), (45, .invokespecial 61, 3), (48, .athrow, 1), (49, .return_, 1)]
set_option maxRecDepth 20000 in
theorem DX6_checkStreetNumber : Lst YX6_checkStreetNumber LX6_checkStreetNumber := by unfold Lst; decide +kernel
def LX6_checkSetting : LI := [(0, .iload_n 0, 1), (1, .ifCond .lt 8, 3), (4, .iload_n 0, 1), (5, .iconst 3, 1), (6, .if_icmp .lt 14, 3), (9, .new 184, 3), (12, .dup, 1), (13, .ldc_w 319, 3), (16, .invokespecial 188, 3), (19, .athrow, 1), (20, .return_, 1)]
set_option maxRecDepth 20000 in
theorem DX6_checkSetting : Lst YX6_checkSetting LX6_checkSetting := by unfold Lst; decide +kernel
def LX6_checkBeats : LI := [(0, .iload_n 0, 1), (1, .iconst 1, 1), (2, .if_icmp .lt 9, 3), (5, .iload_n 0, 1), (6, .bipush 100, 2), (8, .if_icmp .le 14, 3), (11, .new 57, 3), (14, .dup, 1), (15, .ldc_w 321, 3), (18, .invokespecial 61, 3), (21, .athrow, 1), (22, .return_, 1)]
set_option maxRecDepth 20000 in
theorem DX6_checkBeats : Lst YX6_checkBeats LX6_checkBeats := by unfold Lst; decide +kernel
def LX6_checkBeatsLeft : LI := [(0, .aload_n 0, 1), (1, .getfield 12, 3), (4, .getfield 196, 3), (7, .iload_n 1, 1), (8, .iadd, 1), (9, .sipush 5000, 3), (12, .if_icmp .le 14, 3), (15, .new 73, 3), (18, .dup, 1), (19, .ldc_w 323, 3), (22, .invokespecial 77, 3), (25, .athrow, 1), (26, .return_, 1)]
set_option maxRecDepth 20000 in
theorem DX6_checkBeatsLeft : Lst YX6_checkBeatsLeft LX6_checkBeatsLeft := by unfold Lst; decide +kernel
def LX6_save : LI := [(0, .aload_n 0, 1), (1, .getfield 169, 3), (4, .bipush 6, 2), (6, .if_icmp .lt 7, 3), (9, .aload_n 0, 1), (10, .invokevirtual 325, 3), (13, .aload_n 0, 1), (14, .getfield 19, 3), (17, .aload_n 0, 1), (18, .getfield 169, 3), (21, .aaload, 1), (22, .aload_n 0, 1), (23, .getfield 12, 3), (26, .invokevirtual 174, 3), (29, .aload_n 0, 1), (30, .dup, 1), (31, .getfield 169, 3), (34, .iconst 1, 1), (35, .iadd, 1), (36, .putfield 169, 3), (39, .return_, 1)]
set_option maxRecDepth 20000 in
theorem DX6_save : Lst YX6_save LX6_save := by unfold Lst; decide +kernel
def LX6_dropOldest : LI := [(0, .aload_n 0, 1), (1, .getfield 19, 3), (4, .iconst 0, 1), (5, .aaload, 1), (6, .astore_n 1, 1), (7, .iconst 1, 1), (8, .istore_n 2, 1), (9, .iload_n 2, 1), (10, .bipush 6, 2), (12, .if_icmp .ge 23, 3), (15, .aload_n 0, 1), (16, .getfield 19, 3), (19, .iload_n 2, 1), (20, .iconst 1, 1), (21, .isub, 1), (22, .aload_n 0, 1), (23, .getfield 19, 3), (26, .iload_n 2, 1), (27, .aaload, 1), (28, .aastore, 1), (29, .iinc 2 1, 3), (32, .goto (-23), 3), (35, .aload_n 0, 1), (36, .getfield 19, 3), (39, .iconst 5, 1), (40, .aload_n 1, 1), (41, .aastore, 1), (42, .aload_n 0, 1), (43, .iconst 5, 1), (44, .putfield 169, 3), (47, .return_, 1)]
set_option maxRecDepth 20000 in
theorem DX6_dropOldest : Lst YX6_dropOldest LX6_dropOldest := by unfold Lst; decide +kernel
def LX7_init : LI := [(0, .aload_n 0, 1), (1, .invokespecial 1, 3), (4, .aload_n 0, 1), (5, .sipush 811, 3), (8, .newarray .int, 2), (10, .putfield 7, 3), (13, .aload_n 0, 1), (14, .sipush 4866, 3), (17, .newarray .int, 2), (19, .putfield 13, 3), (22, .aload_n 0, 1), (23, .sipush 811, 3), (26, .newarray .int, 2), (28, .putfield 16, 3), (31, .aload_n 0, 1), (32, .iconst 2, 1), (33, .newarray .long, 2), (35, .putfield 19, 3), (38, .aload_n 0, 1), (39, .bipush 12, 2), (41, .newarray .long, 2), (43, .putfield 23, 3), (46, .aload_n 0, 1), (47, .iconst 2, 1), (48, .newarray .long, 2), (50, .putfield 26, 3), (53, .aload_n 0, 1), (54, .bipush 60, 2), (56, .newarray .int, 2), (58, .putfield 29, 3), (61, .aload_n 0, 1), (62, .bipush 64, 2), (64, .newarray .int, 2), (66, .putfield 32, 3), (69, .iconst 0, 1), (70, .istore_n 1, 1), (71, .iload_n 1, 1), (72, .bipush 16, 2), (74, .if_icmp .ge 49, 3), (77, .aload_n 0, 1), (78, .getfield 7, 3), (81, .bipush 7, 2), (83, .iload_n 1, 1), (84, .imul, 1), (85, .bipush 64, 2), (87, .iastore, 1), (88, .aload_n 0, 1), (89, .getfield 7, 3), (92, .bipush 112, 2), (94, .bipush 11, 2), (96, .iload_n 1, 1), (97, .imul, 1), (98, .iadd, 1), (99, .bipush 64, 2), (101, .iastore, 1), (102, .aload_n 0, 1), (103, .getfield 7, 3), (106, .bipush 112, 2), (108, .bipush 11, 2), (110, .iload_n 1, 1), (111, .imul, 1), (112, .iadd, 1), (113, .iconst 4, 1), (114, .iadd, 1), (115, .iconst (-1), 1), (116, .iastore, 1), (117, .iinc 1 1, 3), (120, .goto (-49), 3), (123, .aload_n 0, 1), (124, .getfield 7, 3), (127, .sipush 807, 3), (130, .iconst 1, 1), (131, .iastore, 1), (132, .aload_n 0, 1), (133, .getfield 7, 3), (136, .sipush 808, 3), (139, .bipush 8, 2), (141, .iastore, 1), (142, .aload_n 0, 1), (143, .getfield 7, 3), (146, .sipush 809, 3), (149, .bipush 8, 2), (151, .iastore, 1), (152, .aload_n 0, 1), (153, .getfield 7, 3), (156, .sipush 810, 3), (159, .iconst 3, 1), (160, .iastore, 1), (161, .return_, 1)]
set_option maxRecDepth 20000 in
theorem DX7_init : Lst YX7_init LX7_init := by unfold Lst; decide +kernel
def LX7_thrown : LI := [(0, .aload_n 0, 1), (1, .getfield 35, 3), (4, .ireturn, 1)]
set_option maxRecDepth 20000 in
theorem DX7_thrown : Lst YX7_thrown LX7_thrown := by unfold Lst; decide +kernel
def LX7_fails : LI := [(0, .aload_n 0, 1), (1, .iload_n 1, 1), (2, .putfield 35, 3), (5, .iconst 0, 1), (6, .ireturn, 1)]
set_option maxRecDepth 20000 in
theorem DX7_fails : Lst YX7_fails LX7_fails := by unfold Lst; decide +kernel
def LX7_in : LI := [(0, .iload_n 0, 1), (1, .iload_n 1, 1), (2, .if_icmp .lt 12, 3), (5, .iload_n 0, 1), (6, .iload_n 2, 1), (7, .if_icmp .gt 7, 3), (10, .iconst 1, 1), (11, .goto 4, 3), (14, .iconst 0, 1), (15, .ireturn, 1)]
set_option maxRecDepth 20000 in
theorem DX7_in : Lst YX7_in LX7_in := by unfold Lst; decide +kernel
def LX7_size : LI := [(0, .iload_n 0, 1), (1, .ifCond .ge 8, 3), (4, .iload_n 0, 1), (5, .ineg, 1), (6, .goto 4, 3), (9, .iload_n 0, 1), (10, .ireturn, 1)]
set_option maxRecDepth 20000 in
theorem DX7_size : Lst YX7_size LX7_size := by unfold Lst; decide +kernel
def LX7_isWay : LI := [(0, .iload_n 0, 1), (1, .iconst 0, 1), (2, .iconst 1, 1), (3, .invokestatic 39, 3), (6, .ireturn, 1)]
set_option maxRecDepth 20000 in
theorem DX7_isWay : Lst YX7_isWay LX7_isWay := by unfold Lst; decide +kernel
def LX7_isTone : LI := [(0, .iload_n 0, 1), (1, .iconst 0, 1), (2, .bipush 7, 2), (4, .invokestatic 39, 3), (7, .ireturn, 1)]
set_option maxRecDepth 20000 in
theorem DX7_isTone : Lst YX7_isTone LX7_isTone := by unfold Lst; decide +kernel
def LX7_streetAt : LI := [(0, .bipush 7, 2), (2, .bipush 8, 2), (4, .iload_n 1, 1), (5, .imul, 1), (6, .iload_n 2, 1), (7, .iadd, 1), (8, .imul, 1), (9, .ireturn, 1)]
set_option maxRecDepth 20000 in
theorem DX7_streetAt : Lst YX7_streetAt LX7_streetAt := by unfold Lst; decide +kernel
def LX7_accentAt : LI := [(0, .bipush 112, 2), (2, .bipush 11, 2), (4, .bipush 8, 2), (6, .iload_n 1, 1), (7, .imul, 1), (8, .iload_n 2, 1), (9, .iadd, 1), (10, .imul, 1), (11, .iadd, 1), (12, .ireturn, 1)]
set_option maxRecDepth 20000 in
theorem DX7_accentAt : Lst YX7_accentAt LX7_accentAt := by unfold Lst; decide +kernel
def LX7_save : LI := [(0, .aload_n 0, 1), (1, .getfield 43, 3), (4, .bipush 6, 2), (6, .if_icmp .ne 72, 3), (9, .iconst 0, 1), (10, .istore_n 1, 1), (11, .iload_n 1, 1), (12, .sipush 4055, 3), (15, .if_icmp .ge 25, 3), (18, .aload_n 0, 1), (19, .getfield 13, 3), (22, .iload_n 1, 1), (23, .aload_n 0, 1), (24, .getfield 13, 3), (27, .iload_n 1, 1), (28, .sipush 811, 3), (31, .iadd, 1), (32, .iaload, 1), (33, .iastore, 1), (34, .iinc 1 1, 3), (37, .goto (-26), 3), (40, .iconst 0, 1), (41, .istore_n 1, 1), (42, .iload_n 1, 1), (43, .bipush 10, 2), (45, .if_icmp .ge 23, 3), (48, .aload_n 0, 1), (49, .getfield 23, 3), (52, .iload_n 1, 1), (53, .aload_n 0, 1), (54, .getfield 23, 3), (57, .iload_n 1, 1), (58, .iconst 2, 1), (59, .iadd, 1), (60, .laload, 1), (61, .lastore, 1), (62, .iinc 1 1, 3), (65, .goto (-23), 3), (68, .aload_n 0, 1), (69, .dup, 1), (70, .getfield 43, 3), (73, .iconst 1, 1), (74, .isub, 1), (75, .putfield 43, 3), (78, .iconst 0, 1), (79, .istore_n 1, 1), (80, .iload_n 1, 1), (81, .sipush 811, 3), (84, .if_icmp .ge 30, 3), (87, .aload_n 0, 1), (88, .getfield 13, 3), (91, .sipush 811, 3), (94, .aload_n 0, 1), (95, .getfield 43, 3), (98, .imul, 1), (99, .iload_n 1, 1), (100, .iadd, 1), (101, .aload_n 0, 1), (102, .getfield 7, 3), (105, .iload_n 1, 1), (106, .iaload, 1), (107, .iastore, 1), (108, .iinc 1 1, 3), (111, .goto (-31), 3), (114, .aload_n 0, 1), (115, .getfield 23, 3), (118, .iconst 2, 1), (119, .aload_n 0, 1), (120, .getfield 43, 3), (123, .imul, 1), (124, .aload_n 0, 1), (125, .getfield 19, 3), (128, .iconst 0, 1), (129, .laload, 1), (130, .lastore, 1), (131, .aload_n 0, 1), (132, .getfield 23, 3), (135, .iconst 2, 1), (136, .aload_n 0, 1), (137, .getfield 43, 3), (140, .imul, 1), (141, .iconst 1, 1), (142, .iadd, 1), (143, .aload_n 0, 1), (144, .getfield 19, 3), (147, .iconst 1, 1), (148, .laload, 1), (149, .lastore, 1), (150, .aload_n 0, 1), (151, .dup, 1), (152, .getfield 43, 3), (155, .iconst 1, 1), (156, .iadd, 1), (157, .putfield 43, 3), (160, .return_, 1)]
set_option maxRecDepth 20000 in
theorem DX7_save : Lst YX7_save LX7_save := by unfold Lst; decide +kernel
def LX7_putAside : LI := [(0, .iconst 0, 1), (1, .istore_n 1, 1), (2, .iload_n 1, 1), (3, .sipush 811, 3), (6, .if_icmp .ge 21, 3), (9, .aload_n 0, 1), (10, .getfield 16, 3), (13, .iload_n 1, 1), (14, .aload_n 0, 1), (15, .getfield 7, 3), (18, .iload_n 1, 1), (19, .iaload, 1), (20, .iastore, 1), (21, .iinc 1 1, 3), (24, .goto (-22), 3), (27, .aload_n 0, 1), (28, .getfield 26, 3), (31, .iconst 0, 1), (32, .aload_n 0, 1), (33, .getfield 19, 3), (36, .iconst 0, 1), (37, .laload, 1), (38, .lastore, 1), (39, .aload_n 0, 1), (40, .getfield 26, 3), (43, .iconst 1, 1), (44, .aload_n 0, 1), (45, .getfield 19, 3), (48, .iconst 1, 1), (49, .laload, 1), (50, .lastore, 1), (51, .return_, 1)]
set_option maxRecDepth 20000 in
theorem DX7_putAside : Lst YX7_putAside LX7_putAside := by unfold Lst; decide +kernel
def LX7_putBack : LI := [(0, .iconst 0, 1), (1, .istore_n 1, 1), (2, .iload_n 1, 1), (3, .sipush 811, 3), (6, .if_icmp .ge 21, 3), (9, .aload_n 0, 1), (10, .getfield 7, 3), (13, .iload_n 1, 1), (14, .aload_n 0, 1), (15, .getfield 16, 3), (18, .iload_n 1, 1), (19, .iaload, 1), (20, .iastore, 1), (21, .iinc 1 1, 3), (24, .goto (-22), 3), (27, .aload_n 0, 1), (28, .getfield 19, 3), (31, .iconst 0, 1), (32, .aload_n 0, 1), (33, .getfield 26, 3), (36, .iconst 0, 1), (37, .laload, 1), (38, .lastore, 1), (39, .aload_n 0, 1), (40, .getfield 19, 3), (43, .iconst 1, 1), (44, .aload_n 0, 1), (45, .getfield 26, 3), (48, .iconst 1, 1), (49, .laload, 1), (50, .lastore, 1), (51, .return_, 1)]
set_option maxRecDepth 20000 in
theorem DX7_putBack : Lst YX7_putBack LX7_putBack := by unfold Lst; decide +kernel
def LX7_mayBuild : LI := [(0, .iload_n 0, 1), (1, .ifCond .ne 12, 3), (4, .iload_n 1, 1), (5, .bipush 16, 2), (7, .bipush 96, 2), (9, .invokestatic 39, 3), (12, .ireturn, 1), (13, .iload_n 0, 1), (14, .iconst 3, 1), (15, .if_icmp .ne 13, 3), (18, .iload_n 1, 1), (19, .iconst 0, 1), (20, .bipush 60, 2), (22, .invokestatic 39, 3), (25, .goto 11, 3), (28, .iload_n 1, 1), (29, .bipush (-32), 2), (31, .bipush 32, 2), (33, .invokestatic 39, 3), (36, .ireturn, 1)]
set_option maxRecDepth 20000 in
theorem DX7_mayBuild : Lst YX7_mayBuild LX7_mayBuild := by unfold Lst; decide +kernel
def LX7_build : LI := [(0, .aload_n 0, 1), (1, .iconst 0, 1), (2, .putfield 35, 3), (5, .iload_n 1, 1), (6, .invokestatic 46, 3), (9, .ifCond .eq 10, 3), (12, .iload_n 2, 1), (13, .invokestatic 50, 3), (16, .ifCond .ne 9, 3), (19, .aload_n 0, 1), (20, .iconst 1, 1), (21, .invokevirtual 53, 3), (24, .ireturn, 1), (25, .iload_n 3, 1), (26, .iconst 0, 1), (27, .iconst 3, 1), (28, .invokestatic 39, 3), (31, .ifCond .eq 12, 3), (34, .iload_n 3, 1), (35, .iload 4, 2), (37, .invokestatic 57, 3), (40, .ifCond .ne 9, 3), (43, .aload_n 0, 1), (44, .iconst 2, 1), (45, .invokevirtual 53, 3), (48, .ireturn, 1), (49, .aload_n 0, 1), (50, .invokevirtual 61, 3), (53, .aload_n 0, 1), (54, .iload_n 1, 1), (55, .iload_n 2, 1), (56, .invokevirtual 64, 3), (59, .iload_n 3, 1), (60, .iadd, 1), (61, .istore 5, 2), (63, .aload_n 0, 1), (64, .getfield 7, 3), (67, .iload 5, 2), (69, .iaload, 1), (70, .istore 6, 2), (72, .aload_n 0, 1), (73, .getfield 7, 3), (76, .iload 5, 2), (78, .iload 4, 2), (80, .iastore, 1), (81, .iload 6, 2), (83, .ireturn, 1)]
set_option maxRecDepth 20000 in
theorem DX7_build : Lst YX7_build LX7_build := by unfold Lst; decide +kernel
def LX7_carry : LI := [(0, .aload_n 0, 1), (1, .iconst 0, 1), (2, .putfield 35, 3), (5, .iload_n 1, 1), (6, .invokestatic 46, 3), (9, .ifCond .eq 10, 3), (12, .iload_n 2, 1), (13, .invokestatic 50, 3), (16, .ifCond .ne 9, 3), (19, .aload_n 0, 1), (20, .iconst 1, 1), (21, .invokevirtual 53, 3), (24, .ireturn, 1), (25, .iload_n 3, 1), (26, .iconst 0, 1), (27, .iconst 4, 1), (28, .invokestatic 39, 3), (31, .ifCond .ne 9, 3), (34, .aload_n 0, 1), (35, .iconst 2, 1), (36, .invokevirtual 53, 3), (39, .ireturn, 1), (40, .aload_n 0, 1), (41, .invokevirtual 61, 3), (44, .aload_n 0, 1), (45, .iload_n 1, 1), (46, .iload_n 2, 1), (47, .invokevirtual 68, 3), (50, .iconst 3, 1), (51, .iadd, 1), (52, .istore 4, 2), (54, .aload_n 0, 1), (55, .getfield 7, 3), (58, .iload 4, 2), (60, .iaload, 1), (61, .istore 5, 2), (63, .aload_n 0, 1), (64, .getfield 7, 3), (67, .iload 4, 2), (69, .iload_n 3, 1), (70, .iastore, 1), (71, .iload 5, 2), (73, .ireturn, 1)]
set_option maxRecDepth 20000 in
theorem DX7_carry : Lst YX7_carry LX7_carry := by unfold Lst; decide +kernel
def LX7_insult : LI := [(0, .aload_n 0, 1), (1, .iconst 0, 1), (2, .putfield 35, 3), (5, .iload_n 1, 1), (6, .invokestatic 46, 3), (9, .ifCond .eq 10, 3), (12, .iload_n 2, 1), (13, .invokestatic 50, 3), (16, .ifCond .ne 9, 3), (19, .aload_n 0, 1), (20, .iconst 1, 1), (21, .invokevirtual 53, 3), (24, .ireturn, 1), (25, .iload_n 3, 1), (26, .sipush (-300), 3), (29, .sipush 300, 3), (32, .invokestatic 39, 3), (35, .ifCond .ne 9, 3), (38, .aload_n 0, 1), (39, .iconst 2, 1), (40, .invokevirtual 53, 3), (43, .ireturn, 1), (44, .aload_n 0, 1), (45, .iload_n 1, 1), (46, .iload_n 2, 1), (47, .invokevirtual 64, 3), (50, .iconst 4, 1), (51, .iadd, 1), (52, .istore 4, 2), (54, .aload_n 0, 1), (55, .getfield 7, 3), (58, .iload 4, 2), (60, .iaload, 1), (61, .iload_n 3, 1), (62, .iadd, 1), (63, .sipush (-1000), 3), (66, .sipush 1000, 3), (69, .invokestatic 39, 3), (72, .ifCond .ne 9, 3), (75, .aload_n 0, 1), (76, .iconst 3, 1), (77, .invokevirtual 53, 3), (80, .ireturn, 1), (81, .aload_n 0, 1), (82, .invokevirtual 61, 3), (85, .aload_n 0, 1), (86, .getfield 7, 3), (89, .iload 4, 2), (91, .dup2, 1), (92, .iaload, 1), (93, .iload_n 3, 1), (94, .iadd, 1), (95, .iastore, 1), (96, .aload_n 0, 1), (97, .getfield 7, 3), (100, .iload 4, 2), (102, .iaload, 1), (103, .ireturn, 1)]
set_option maxRecDepth 20000 in
theorem DX7_insult : Lst YX7_insult LX7_insult := by unfold Lst; decide +kernel
def LX7_maySet : LI := [(0, .iload_n 0, 1), (1, .ifCond .ne 13, 3), (4, .iload_n 1, 1), (5, .iconst 1, 1), (6, .bipush 64, 2), (8, .invokestatic 39, 3), (11, .goto 25, 3), (14, .iload_n 0, 1), (15, .iconst 1, 1), (16, .if_icmp .ne 13, 3), (19, .iload_n 1, 1), (20, .iconst 4, 1), (21, .bipush 40, 2), (23, .invokestatic 39, 3), (26, .goto 10, 3), (29, .iload_n 1, 1), (30, .iconst 1, 1), (31, .bipush 50, 2), (33, .invokestatic 39, 3), (36, .ireturn, 1)]
set_option maxRecDepth 20000 in
theorem DX7_maySet : Lst YX7_maySet LX7_maySet := by unfold Lst; decide +kernel
def LX7_set : LI := [(0, .aload_n 0, 1), (1, .iconst 0, 1), (2, .putfield 35, 3), (5, .iload_n 1, 1), (6, .iconst 0, 1), (7, .iconst 2, 1), (8, .invokestatic 39, 3), (11, .ifCond .ne 9, 3), (14, .aload_n 0, 1), (15, .iconst 1, 1), (16, .invokevirtual 53, 3), (19, .ireturn, 1), (20, .iload_n 1, 1), (21, .iload_n 2, 1), (22, .invokestatic 71, 3), (25, .ifCond .ne 9, 3), (28, .aload_n 0, 1), (29, .iconst 2, 1), (30, .invokevirtual 53, 3), (33, .ireturn, 1), (34, .aload_n 0, 1), (35, .invokevirtual 61, 3), (38, .aload_n 0, 1), (39, .getfield 7, 3), (42, .sipush 808, 3), (45, .iload_n 1, 1), (46, .iadd, 1), (47, .iaload, 1), (48, .istore_n 3, 1), (49, .aload_n 0, 1), (50, .getfield 7, 3), (53, .sipush 808, 3), (56, .iload_n 1, 1), (57, .iadd, 1), (58, .iload_n 2, 1), (59, .iastore, 1), (60, .iload_n 3, 1), (61, .ireturn, 1)]
set_option maxRecDepth 20000 in
theorem DX7_set : Lst YX7_set LX7_set := by unfold Lst; decide +kernel
def LX7_draw : LI := [(0, .ldc2_w 74, 3), (3, .aload_n 0, 1), (4, .getfield 7, 3), (7, .sipush 807, 3), (10, .iaload, 1), (11, .i2l, 1), (12, .lmul, 1), (13, .ldc2_w 76, 3), (16, .ladd, 1), (17, .ldc2_w 78, 3), (20, .lrem, 1), (21, .lstore_n 2, 1), (22, .aload_n 0, 1), (23, .getfield 7, 3), (26, .sipush 807, 3), (29, .lload_n 2, 1), (30, .l2i, 1), (31, .iastore, 1), (32, .aload_n 0, 1), (33, .getfield 7, 3), (36, .sipush 807, 3), (39, .iaload, 1), (40, .ldc 80, 2), (42, .idiv, 1), (43, .iload_n 1, 1), (44, .irem, 1), (45, .ireturn, 1)]
set_option maxRecDepth 20000 in
theorem DX7_draw : Lst YX7_draw LX7_draw := by unfold Lst; decide +kernel
def LX7_amplitude : LI := [(0, .iload_n 0, 1), (1, .ifCond .ne 7, 3), (4, .iconst 0, 1), (5, .goto 18, 3), (8, .iconst 2, 1), (9, .iload_n 1, 1), (10, .imul, 1), (11, .iconst 1, 1), (12, .iadd, 1), (13, .iconst 1, 1), (14, .iload_n 0, 1), (15, .ishl, 1), (16, .isub, 1), (17, .sipush 256, 3), (20, .iload_n 0, 1), (21, .ishr, 1), (22, .imul, 1), (23, .ireturn, 1)]
set_option maxRecDepth 20000 in
theorem DX7_amplitude : Lst YX7_amplitude LX7_amplitude := by unfold Lst; decide +kernel
def LX7_hear : LI := [(0, .aload_n 0, 1), (1, .iload_n 1, 1), (2, .iload_n 2, 1), (3, .invokevirtual 64, 3), (6, .istore 4, 2), (8, .aload_n 0, 1), (9, .getfield 7, 3), (12, .iload 4, 2), (14, .iconst 0, 1), (15, .iadd, 1), (16, .iaload, 1), (17, .iload_n 3, 1), (18, .imul, 1), (19, .aload_n 0, 1), (20, .getfield 7, 3), (23, .iload 4, 2), (25, .iconst 1, 1), (26, .iadd, 1), (27, .iaload, 1), (28, .aload_n 0, 1), (29, .getfield 7, 3), (32, .iload 4, 2), (34, .iconst 5, 1), (35, .iadd, 1), (36, .iaload, 1), (37, .imul, 1), (38, .iadd, 1), (39, .aload_n 0, 1), (40, .getfield 7, 3), (43, .iload 4, 2), (45, .iconst 2, 1), (46, .iadd, 1), (47, .iaload, 1), (48, .aload_n 0, 1), (49, .getfield 7, 3), (52, .iload 4, 2), (54, .bipush 6, 2), (56, .iadd, 1), (57, .iaload, 1), (58, .imul, 1), (59, .iadd, 1), (60, .bipush 64, 2), (62, .idiv, 1), (63, .istore 5, 2), (65, .iload 5, 2), (67, .aload_n 0, 1), (68, .iconst 2, 1), (69, .aload_n 0, 1), (70, .getfield 7, 3), (73, .iload 4, 2), (75, .iconst 3, 1), (76, .iadd, 1), (77, .iaload, 1), (78, .imul, 1), (79, .iconst 1, 1), (80, .iadd, 1), (81, .invokevirtual 81, 3), (84, .aload_n 0, 1), (85, .getfield 7, 3), (88, .iload 4, 2), (90, .iconst 3, 1), (91, .iadd, 1), (92, .iaload, 1), (93, .isub, 1), (94, .iadd, 1), (95, .istore 5, 2), (97, .iload 5, 2), (99, .aload_n 0, 1), (100, .getfield 7, 3), (103, .iload 4, 2), (105, .iconst 4, 1), (106, .iadd, 1), (107, .iaload, 1), (108, .iadd, 1), (109, .istore 5, 2), (111, .aload_n 0, 1), (112, .getfield 7, 3), (115, .iload 4, 2), (117, .iconst 4, 1), (118, .iadd, 1), (119, .iconst 0, 1), (120, .iastore, 1), (121, .aload_n 0, 1), (122, .getfield 7, 3), (125, .iload 4, 2), (127, .bipush 6, 2), (129, .iadd, 1), (130, .aload_n 0, 1), (131, .getfield 7, 3), (134, .iload 4, 2), (136, .iconst 5, 1), (137, .iadd, 1), (138, .iaload, 1), (139, .iastore, 1), (140, .aload_n 0, 1), (141, .getfield 7, 3), (144, .iload 4, 2), (146, .iconst 5, 1), (147, .iadd, 1), (148, .iload_n 3, 1), (149, .iastore, 1), (150, .iload 5, 2), (152, .ireturn, 1)]
set_option maxRecDepth 20000 in
theorem DX7_hear : Lst YX7_hear LX7_hear := by unfold Lst; decide +kernel
def LX7_held : LI := [(0, .iload_n 0, 1), (1, .iload_n 1, 1), (2, .if_icmp .ge 7, 3), (5, .iload_n 1, 1), (6, .goto 13, 3), (9, .iload_n 0, 1), (10, .iload_n 2, 1), (11, .if_icmp .le 7, 3), (14, .iload_n 2, 1), (15, .goto 4, 3), (18, .iload_n 0, 1), (19, .ireturn, 1)]
set_option maxRecDepth 20000 in
theorem DX7_held : Lst YX7_held LX7_held := by unfold Lst; decide +kernel
def LX7_learnTone_0 : LI := [(0, .aload_n 0, 1), (1, .iload_n 1, 1), (2, .iload_n 2, 1), (3, .invokevirtual 64, 3), (6, .istore 4, 2), (8, .aload_n 0, 1), (9, .iload_n 1, 1), (10, .iload_n 2, 1), (11, .invokevirtual 68, 3), (14, .istore 5, 2), (16, .aload_n 0, 1), (17, .iconst 2, 1), (18, .invokevirtual 81, 3), (21, .iconst 1, 1), (22, .if_icmp .ne 9, 3), (25, .sipush 128, 3), (28, .goto 5, 3), (31, .bipush (-128), 2), (33, .istore 6, 2), (35, .aload_n 0, 1), (36, .getfield 7, 3), (39, .iload 4, 2), (41, .iconst 5, 1), (42, .iadd, 1), (43, .iaload, 1), (44, .istore 7, 2), (46, .aload_n 0, 1), (47, .getfield 7, 3), (50, .iload 4, 2), (52, .bipush 6, 2), (54, .iadd, 1), (55, .iaload, 1), (56, .istore 8, 2), (58, .aload_n 0, 1), (59, .iload_n 1, 1), (60, .iload_n 2, 1), (61, .iload 6, 2), (63, .invokevirtual 84, 3), (66, .istore 9, 2), (68, .iload 9, 2), (70, .aload_n 0, 1), (71, .getfield 7, 3), (74, .iload 5, 2), (76, .iconst 0, 1), (77, .iadd, 1), (78, .iaload, 1), (79, .iload 6, 2), (81, .imul, 1), (82, .aload_n 0, 1), (83, .getfield 7, 3), (86, .iload 5, 2), (88, .iconst 1, 1), (89, .iadd, 1), (90, .iaload, 1), (91, .iload 7, 2), (93, .imul, 1), (94, .iadd, 1), (95, .aload_n 0, 1), (96, .getfield 7, 3), (99, .iload 5, 2), (101, .iconst 2, 1), (102, .iadd, 1), (103, .iaload, 1), (104, .iload 8, 2), (106, .imul, 1), (107, .iadd, 1), (108, .bipush 64, 2), (110, .idiv, 1), (111, .isub, 1), (112, .istore 10, 2), (114, .sipush 128, 3), (117, .aload_n 0, 1), (118, .getfield 7, 3), (121, .sipush 808, 3), (124, .iaload, 1), (125, .imul, 1), (126, .istore 11, 2), (128, .aload_n 0, 1), (129, .getfield 7, 3), (132, .iload 5, 2), (134, .iconst 0, 1), (135, .iadd, 1), (136, .aload_n 0, 1), (137, .getfield 7, 3), (140, .iload 5, 2), (142, .iconst 0, 1), (143, .iadd, 1), (144, .iaload, 1), (145, .iload 10, 2), (147, .iload 6, 2), (149, .imul, 1), (150, .iload 11, 2), (152, .idiv, 1), (153, .iadd, 1), (154, .bipush 8, 2), (156, .sipush 128, 3), (159, .invokestatic 88, 3), (162, .iastore, 1), (163, .aload_n 0, 1), (164, .getfield 7, 3), (167, .iload 5, 2), (169, .iconst 1, 1), (170, .iadd, 1), (171, .aload_n 0, 1), (172, .getfield 7, 3), (175, .iload 5, 2), (177, .iconst 1, 1), (178, .iadd, 1), (179, .iaload, 1), (180, .iload 10, 2), (182, .iload 7, 2), (184, .imul, 1), (185, .iload 11, 2), (187, .idiv, 1), (188, .iadd, 1), (189, .bipush (-48), 2), (191, .bipush 48, 2), (193, .invokestatic 88, 3), (196, .iastore, 1), (197, .aload_n 0, 1)]
set_option maxRecDepth 20000 in
theorem DX7_learnTone_0 : Lst YX7_learnTone LX7_learnTone_0 := by unfold Lst; decide +kernel
def LX7_learnTone_1 : LI := [(198, .getfield 7, 3), (201, .iload 5, 2), (203, .iconst 2, 1), (204, .iadd, 1), (205, .aload_n 0, 1), (206, .getfield 7, 3), (209, .iload 5, 2), (211, .iconst 2, 1), (212, .iadd, 1), (213, .iaload, 1), (214, .iload 10, 2), (216, .iload 8, 2), (218, .imul, 1), (219, .iload 11, 2), (221, .idiv, 1), (222, .iadd, 1), (223, .bipush (-48), 2), (225, .bipush 48, 2), (227, .invokestatic 88, 3), (230, .iastore, 1), (231, .aload_n 0, 1), (232, .getfield 7, 3), (235, .iload 5, 2), (237, .bipush 9, 2), (239, .iadd, 1), (240, .aload_n 0, 1), (241, .getfield 7, 3), (244, .iload 4, 2), (246, .iconst 5, 1), (247, .iadd, 1), (248, .iaload, 1), (249, .iastore, 1), (250, .aload_n 0, 1), (251, .getfield 7, 3), (254, .iload 5, 2), (256, .bipush 10, 2), (258, .iadd, 1), (259, .aload_n 0, 1), (260, .getfield 7, 3), (263, .iload 4, 2), (265, .bipush 6, 2), (267, .iadd, 1), (268, .iaload, 1), (269, .iastore, 1), (270, .aload_n 0, 1), (271, .getfield 32, 3), (274, .bipush 8, 2), (276, .iload_n 2, 1), (277, .imul, 1), (278, .iload_n 3, 1), (279, .bipush 8, 2), (281, .irem, 1), (282, .iadd, 1), (283, .iload 10, 2), (285, .invokestatic 91, 3), (288, .iastore, 1), (289, .return_, 1)]
set_option maxRecDepth 20000 in
theorem DX7_learnTone_1 : Lst YX7_learnTone LX7_learnTone_1 := by unfold Lst; decide +kernel
def LX7_learnBeat : LI := [(0, .iconst 0, 1), (1, .istore_n 3, 1), (2, .iload_n 3, 1), (3, .bipush 8, 2), (5, .if_icmp .ge 16, 3), (8, .aload_n 0, 1), (9, .iload_n 1, 1), (10, .iload_n 3, 1), (11, .iload_n 2, 1), (12, .invokevirtual 94, 3), (15, .iinc 3 1, 3), (18, .goto (-16), 3), (21, .return_, 1)]
set_option maxRecDepth 20000 in
theorem DX7_learnBeat : Lst YX7_learnBeat LX7_learnBeat := by unfold Lst; decide +kernel
def LX7_worstOf : LI := [(0, .iconst 0, 1), (1, .istore_n 3, 1), (2, .iconst 0, 1), (3, .istore 4, 2), (5, .iload 4, 2), (7, .bipush 8, 2), (9, .if_icmp .ge 48, 3), (12, .iload 4, 2), (14, .iload_n 2, 1), (15, .if_icmp .ge 42, 3), (18, .aload_n 0, 1), (19, .getfield 32, 3), (22, .bipush 8, 2), (24, .iload_n 1, 1), (25, .imul, 1), (26, .iload 4, 2), (28, .iadd, 1), (29, .iaload, 1), (30, .iload_n 3, 1), (31, .if_icmp .le 18, 3), (34, .aload_n 0, 1), (35, .getfield 32, 3), (38, .bipush 8, 2), (40, .iload_n 1, 1), (41, .imul, 1), (42, .iload 4, 2), (44, .iadd, 1), (45, .iaload, 1), (46, .goto 4, 3), (49, .iload_n 3, 1), (50, .istore_n 3, 1), (51, .iinc 4 1, 3), (54, .goto (-49), 3), (57, .iload_n 3, 1), (58, .ireturn, 1)]
set_option maxRecDepth 20000 in
theorem DX7_worstOf : Lst YX7_worstOf LX7_worstOf := by unfold Lst; decide +kernel
def LX7_bitsBy : LI := [(0, .iconst 4, 1), (1, .istore_n 3, 1), (2, .iload_n 3, 1), (3, .ifCond .le 34, 3), (6, .iload_n 1, 1), (7, .aload_n 0, 1), (8, .getfield 7, 3), (11, .sipush 809, 3), (14, .iaload, 1), (15, .imul, 1), (16, .iconst 4, 1), (17, .idiv, 1), (18, .sipush 256, 3), (21, .iload_n 3, 1), (22, .ishr, 1), (23, .iload_n 2, 1), (24, .imul, 1), (25, .bipush 64, 2), (27, .idiv, 1), (28, .if_icmp .lt 9, 3), (31, .iinc 3 (-1), 3), (34, .goto (-32), 3), (37, .iload_n 3, 1), (38, .ireturn, 1)]
set_option maxRecDepth 20000 in
theorem DX7_bitsBy : Lst YX7_bitsBy LX7_bitsBy := by unfold Lst; decide +kernel
def LX7_lessonBits : LI := [(0, .iconst 0, 1), (1, .istore_n 3, 1), (2, .iconst 0, 1), (3, .istore 4, 2), (5, .iload 4, 2), (7, .bipush 8, 2), (9, .if_icmp .ge 37, 3), (12, .iload_n 3, 1), (13, .aload_n 0, 1), (14, .aload_n 0, 1), (15, .iload 4, 2), (17, .iload_n 2, 1), (18, .invokevirtual 98, 3), (21, .aload_n 0, 1), (22, .getfield 7, 3), (25, .aload_n 0, 1), (26, .iload_n 1, 1), (27, .iload 4, 2), (29, .invokevirtual 68, 3), (32, .iconst 0, 1), (33, .iadd, 1), (34, .iaload, 1), (35, .invokevirtual 101, 3), (38, .iadd, 1), (39, .istore_n 3, 1), (40, .iinc 4 1, 3), (43, .goto (-38), 3), (46, .iload_n 3, 1), (47, .ireturn, 1)]
set_option maxRecDepth 20000 in
theorem DX7_lessonBits : Lst YX7_lessonBits LX7_lessonBits := by unfold Lst; decide +kernel
def LX7_carried : LI := [(0, .iconst 0, 1), (1, .istore_n 2, 1), (2, .iconst 0, 1), (3, .istore_n 3, 1), (4, .iload_n 3, 1), (5, .bipush 8, 2), (7, .if_icmp .ge 25, 3), (10, .iload_n 2, 1), (11, .aload_n 0, 1), (12, .getfield 7, 3), (15, .aload_n 0, 1), (16, .iload_n 1, 1), (17, .iload_n 3, 1), (18, .invokevirtual 68, 3), (21, .iconst 3, 1), (22, .iadd, 1), (23, .iaload, 1), (24, .iadd, 1), (25, .istore_n 2, 1), (26, .iinc 3 1, 3), (29, .goto (-25), 3), (32, .iload_n 2, 1), (33, .ireturn, 1)]
set_option maxRecDepth 20000 in
theorem DX7_carried : Lst YX7_carried LX7_carried := by unfold Lst; decide +kernel
def LX7_learnAll : LI := [(0, .iconst 0, 1), (1, .istore_n 3, 1), (2, .iload_n 3, 1), (3, .iload_n 2, 1), (4, .if_icmp .ge 15, 3), (7, .aload_n 0, 1), (8, .iload_n 1, 1), (9, .iload_n 3, 1), (10, .invokevirtual 104, 3), (13, .iinc 3 1, 3), (16, .goto (-14), 3), (19, .iconst 0, 1), (20, .istore_n 3, 1), (21, .iload_n 3, 1), (22, .bipush 8, 2), (24, .if_icmp .ge 73, 3), (27, .aload_n 0, 1), (28, .iload_n 1, 1), (29, .iload_n 3, 1), (30, .invokevirtual 68, 3), (33, .istore 4, 2), (35, .aload_n 0, 1), (36, .getfield 7, 3), (39, .iload 4, 2), (41, .iconst 4, 1), (42, .iadd, 1), (43, .aload_n 0, 1), (44, .iload_n 3, 1), (45, .iload_n 2, 1), (46, .invokevirtual 98, 3), (49, .iastore, 1), (50, .aload_n 0, 1), (51, .getfield 7, 3), (54, .iload 4, 2), (56, .iconst 3, 1), (57, .iadd, 1), (58, .aload_n 0, 1), (59, .aload_n 0, 1), (60, .getfield 7, 3), (63, .iload 4, 2), (65, .iconst 4, 1), (66, .iadd, 1), (67, .iaload, 1), (68, .aload_n 0, 1), (69, .getfield 7, 3), (72, .iload 4, 2), (74, .iconst 0, 1), (75, .iadd, 1), (76, .iaload, 1), (77, .invokevirtual 101, 3), (80, .iastore, 1), (81, .aload_n 0, 1), (82, .getfield 7, 3), (85, .iload 4, 2), (87, .iconst 5, 1), (88, .iadd, 1), (89, .iconst 0, 1), (90, .iastore, 1), (91, .iinc 3 1, 3), (94, .goto (-73), 3), (97, .aload_n 0, 1), (98, .getfield 7, 3), (101, .sipush 806, 3), (104, .dup2, 1), (105, .iaload, 1), (106, .iload_n 2, 1), (107, .iadd, 1), (108, .iastore, 1), (109, .aload_n 0, 1), (110, .iload_n 1, 1), (111, .invokevirtual 108, 3), (114, .ireturn, 1)]
set_option maxRecDepth 20000 in
theorem DX7_learnAll : Lst YX7_learnAll LX7_learnAll := by unfold Lst; decide +kernel
def LX7_mayBeat : LI := [(0, .iload_n 1, 1), (1, .invokestatic 46, 3), (4, .ifCond .ne 11, 3), (7, .aload_n 0, 1), (8, .iconst 1, 1), (9, .putfield 35, 3), (12, .goto 42, 3), (15, .iload_n 2, 1), (16, .iconst 1, 1), (17, .bipush 100, 2), (19, .invokestatic 39, 3), (22, .ifCond .ne 11, 3), (25, .aload_n 0, 1), (26, .iconst 2, 1), (27, .putfield 35, 3), (30, .goto 24, 3), (33, .aload_n 0, 1), (34, .getfield 7, 3), (37, .sipush 806, 3), (40, .iaload, 1), (41, .iload_n 2, 1), (42, .iadd, 1), (43, .sipush 5000, 3), (46, .if_icmp .le 8, 3), (49, .aload_n 0, 1), (50, .iconst 3, 1), (51, .putfield 35, 3), (54, .aload_n 0, 1), (55, .getfield 35, 3), (58, .ifCond .ne 7, 3), (61, .iconst 1, 1), (62, .goto 4, 3), (65, .iconst 0, 1), (66, .ireturn, 1)]
set_option maxRecDepth 20000 in
theorem DX7_mayBeat : Lst YX7_mayBeat LX7_mayBeat := by unfold Lst; decide +kernel
def LX7_learn : LI := [(0, .aload_n 0, 1), (1, .iconst 0, 1), (2, .putfield 35, 3), (5, .aload_n 0, 1), (6, .iload_n 1, 1), (7, .iload_n 2, 1), (8, .invokevirtual 111, 3), (11, .ifCond .ne 5, 3), (14, .iconst 0, 1), (15, .ireturn, 1), (16, .aload_n 0, 1), (17, .invokevirtual 61, 3), (20, .aload_n 0, 1), (21, .iload_n 1, 1), (22, .iload_n 2, 1), (23, .invokevirtual 114, 3), (26, .ireturn, 1)]
set_option maxRecDepth 20000 in
theorem DX7_learn : Lst YX7_learn LX7_learn := by unfold Lst; decide +kernel
def LX7_takeBit : LI := [(0, .sipush 288, 3), (3, .sipush 256, 3), (6, .iload_n 1, 1), (7, .imul, 1), (8, .iadd, 1), (9, .istore_n 2, 1), (10, .aload_n 0, 1), (11, .getfield 7, 3), (14, .sipush 800, 3), (17, .iload_n 1, 1), (18, .iadd, 1), (19, .iaload, 1), (20, .istore_n 3, 1), (21, .iload_n 3, 1), (22, .ifCond .ne 5, 3), (25, .iconst 0, 1), (26, .ireturn, 1), (27, .aload_n 0, 1), (28, .getfield 7, 3), (31, .iload_n 2, 1), (32, .iaload, 1), (33, .istore 4, 2), (35, .iconst 1, 1), (36, .istore 5, 2), (38, .iload 5, 2), (40, .iload_n 3, 1), (41, .if_icmp .ge 29, 3), (44, .aload_n 0, 1), (45, .getfield 7, 3), (48, .iload_n 2, 1), (49, .iload 5, 2), (51, .iadd, 1), (52, .iconst 1, 1), (53, .isub, 1), (54, .aload_n 0, 1), (55, .getfield 7, 3), (58, .iload_n 2, 1), (59, .iload 5, 2), (61, .iadd, 1), (62, .iaload, 1), (63, .iastore, 1), (64, .iinc 5 1, 3), (67, .goto (-29), 3), (70, .aload_n 0, 1), (71, .getfield 7, 3), (74, .sipush 800, 3), (77, .iload_n 1, 1), (78, .iadd, 1), (79, .iload_n 3, 1), (80, .iconst 1, 1), (81, .isub, 1), (82, .iastore, 1), (83, .iload 4, 2), (85, .ireturn, 1)]
set_option maxRecDepth 20000 in
theorem DX7_takeBit : Lst YX7_takeBit LX7_takeBit := by unfold Lst; decide +kernel
def LX7_decide : LI := [(0, .aload_n 0, 1), (1, .iload_n 1, 1), (2, .iload_n 2, 1), (3, .invokevirtual 68, 3), (6, .istore 4, 2), (8, .aload_n 0, 1), (9, .getfield 7, 3), (12, .iload 4, 2), (14, .iconst 3, 1), (15, .iadd, 1), (16, .iaload, 1), (17, .istore 5, 2), (19, .iload_n 3, 1), (20, .aload_n 0, 1), (21, .getfield 7, 3), (24, .iload 4, 2), (26, .iconst 1, 1), (27, .iadd, 1), (28, .iaload, 1), (29, .aload_n 0, 1), (30, .getfield 7, 3), (33, .iload 4, 2), (35, .bipush 9, 2), (37, .iadd, 1), (38, .iaload, 1), (39, .imul, 1), (40, .aload_n 0, 1), (41, .getfield 7, 3), (44, .iload 4, 2), (46, .iconst 2, 1), (47, .iadd, 1), (48, .iaload, 1), (49, .aload_n 0, 1), (50, .getfield 7, 3), (53, .iload 4, 2), (55, .bipush 10, 2), (57, .iadd, 1), (58, .iaload, 1), (59, .imul, 1), (60, .iadd, 1), (61, .bipush 64, 2), (63, .idiv, 1), (64, .isub, 1), (65, .istore 6, 2), (67, .iload 6, 2), (69, .bipush 64, 2), (71, .imul, 1), (72, .aload_n 0, 1), (73, .getfield 7, 3), (76, .iload 4, 2), (78, .iconst 0, 1), (79, .iadd, 1), (80, .iaload, 1), (81, .idiv, 1), (82, .istore 7, 2), (84, .iconst 0, 1), (85, .istore 8, 2), (87, .iconst 1, 1), (88, .istore 9, 2), (90, .iload 9, 2), (92, .iconst 1, 1), (93, .iload 5, 2), (95, .ishl, 1), (96, .if_icmp .ge 47, 3), (99, .iload 5, 2), (101, .iload 9, 2), (103, .invokestatic 117, 3), (106, .iload 7, 2), (108, .isub, 1), (109, .invokestatic 91, 3), (112, .iload 5, 2), (114, .iload 8, 2), (116, .invokestatic 117, 3), (119, .iload 7, 2), (121, .isub, 1), (122, .invokestatic 91, 3), (125, .if_icmp .ge 8, 3), (128, .iload 9, 2), (130, .goto 5, 3), (133, .iload 8, 2), (135, .istore 8, 2), (137, .iinc 9 1, 3), (140, .goto (-50), 3), (143, .iload 8, 2), (145, .ireturn, 1)]
set_option maxRecDepth 20000 in
theorem DX7_decide : Lst YX7_decide LX7_decide := by unfold Lst; decide +kernel
def LX7_ones : LI := [(0, .iconst 0, 1), (1, .istore_n 1, 1), (2, .iconst 0, 1), (3, .istore_n 2, 1), (4, .iload_n 2, 1), (5, .iconst 4, 1), (6, .if_icmp .ge 17, 3), (9, .iload_n 1, 1), (10, .iload_n 0, 1), (11, .iload_n 2, 1), (12, .ishr, 1), (13, .iconst 1, 1), (14, .iand, 1), (15, .iadd, 1), (16, .istore_n 1, 1), (17, .iinc 2 1, 3), (20, .goto (-16), 3), (23, .iload_n 1, 1), (24, .ireturn, 1)]
set_option maxRecDepth 20000 in
theorem DX7_ones : Lst YX7_ones LX7_ones := by unfold Lst; decide +kernel
def LX7_sendTone_0 : LI := [(0, .aload_n 0, 1), (1, .iload_n 1, 1), (2, .iload_n 2, 1), (3, .invokevirtual 68, 3), (6, .istore_n 3, 1), (7, .aload_n 0, 1), (8, .getfield 7, 3), (11, .iload_n 3, 1), (12, .iconst 3, 1), (13, .iadd, 1), (14, .iaload, 1), (15, .istore 4, 2), (17, .iconst 0, 1), (18, .istore 5, 2), (20, .iconst 0, 1), (21, .istore 6, 2), (23, .iload 6, 2), (25, .iload 4, 2), (27, .if_icmp .ge 21, 3), (30, .iconst 2, 1), (31, .iload 5, 2), (33, .imul, 1), (34, .aload_n 0, 1), (35, .iload_n 1, 1), (36, .invokevirtual 120, 3), (39, .iadd, 1), (40, .istore 5, 2), (42, .iinc 6 1, 3), (45, .goto (-22), 3), (48, .aload_n 0, 1), (49, .iload_n 1, 1), (50, .iload_n 2, 1), (51, .iload 4, 2), (53, .iload 5, 2), (55, .invokestatic 117, 3), (58, .invokevirtual 84, 3), (61, .istore 6, 2), (63, .aload_n 0, 1), (64, .iload_n 1, 1), (65, .iload_n 2, 1), (66, .iload 6, 2), (68, .invokevirtual 123, 3), (71, .istore 7, 2), (73, .iload 5, 2), (75, .iload 7, 2), (77, .ixor, 1), (78, .invokestatic 126, 3), (81, .istore 8, 2), (83, .aload_n 0, 1), (84, .getfield 7, 3), (87, .iload_n 3, 1), (88, .bipush 10, 2), (90, .iadd, 1), (91, .aload_n 0, 1), (92, .getfield 7, 3), (95, .iload_n 3, 1), (96, .bipush 9, 2), (98, .iadd, 1), (99, .iaload, 1), (100, .iastore, 1), (101, .aload_n 0, 1), (102, .getfield 7, 3), (105, .iload_n 3, 1), (106, .bipush 9, 2), (108, .iadd, 1), (109, .iload 4, 2), (111, .iload 7, 2), (113, .invokestatic 117, 3), (116, .iastore, 1), (117, .aload_n 0, 1), (118, .getfield 7, 3), (121, .iload_n 3, 1), (122, .bipush 7, 2), (124, .iadd, 1), (125, .dup2, 1), (126, .iaload, 1), (127, .iload 4, 2), (129, .ifCond .le 7, 3), (132, .iconst 1, 1), (133, .goto 4, 3), (136, .iconst 0, 1), (137, .iadd, 1), (138, .iastore, 1), (139, .aload_n 0, 1), (140, .getfield 7, 3), (143, .iload_n 3, 1), (144, .bipush 8, 2), (146, .iadd, 1), (147, .dup2, 1), (148, .iaload, 1), (149, .iload 8, 2), (151, .ifCond .le 7, 3), (154, .iconst 1, 1), (155, .goto 4, 3), (158, .iconst 0, 1), (159, .iadd, 1), (160, .iastore, 1), (161, .aload_n 0, 1), (162, .getfield 7, 3), (165, .iload_n 3, 1), (166, .iconst 5, 1), (167, .iadd, 1), (168, .dup2, 1), (169, .iaload, 1), (170, .iload 8, 2), (172, .ifCond .le 7, 3), (175, .iconst 1, 1), (176, .goto 4, 3), (179, .iconst 0, 1), (180, .iadd, 1), (181, .iastore, 1), (182, .aload_n 0, 1), (183, .getfield 7, 3), (186, .sipush 802, 3), (189, .iload_n 1, 1), (190, .iadd, 1), (191, .dup2, 1), (192, .iaload, 1), (193, .iload 4, 2), (195, .iadd, 1)]
set_option maxRecDepth 20000 in
theorem DX7_sendTone_0 : Lst YX7_sendTone LX7_sendTone_0 := by unfold Lst; decide +kernel
def LX7_sendTone_1 : LI := [(196, .iastore, 1), (197, .aload_n 0, 1), (198, .getfield 7, 3), (201, .sipush 804, 3), (204, .iload_n 1, 1), (205, .iadd, 1), (206, .dup2, 1), (207, .iaload, 1), (208, .iload 8, 2), (210, .iadd, 1), (211, .iastore, 1), (212, .aload_n 0, 1), (213, .getfield 19, 3), (216, .iload_n 1, 1), (217, .aload_n 0, 1), (218, .getfield 19, 3), (221, .iload_n 1, 1), (222, .laload, 1), (223, .iload 4, 2), (225, .lshl, 1), (226, .iload 7, 2), (228, .i2l, 1), (229, .lor, 1), (230, .ldc2_w 129, 3), (233, .land, 1), (234, .lastore, 1), (235, .iload 8, 2), (237, .ireturn, 1)]
set_option maxRecDepth 20000 in
theorem DX7_sendTone_1 : Lst YX7_sendTone LX7_sendTone_1 := by unfold Lst; decide +kernel
def LX7_sendBeat : LI := [(0, .iconst 0, 1), (1, .istore_n 2, 1), (2, .iconst 0, 1), (3, .istore_n 3, 1), (4, .iload_n 3, 1), (5, .bipush 8, 2), (7, .if_icmp .ge 18, 3), (10, .iload_n 2, 1), (11, .aload_n 0, 1), (12, .iload_n 1, 1), (13, .iload_n 3, 1), (14, .invokevirtual 131, 3), (17, .iadd, 1), (18, .istore_n 2, 1), (19, .iinc 3 1, 3), (22, .goto (-18), 3), (25, .iconst 0, 1), (26, .istore_n 3, 1), (27, .iload_n 3, 1), (28, .bipush 8, 2), (30, .if_icmp .ge 86, 3), (33, .aload_n 0, 1), (34, .iload_n 1, 1), (35, .iload_n 3, 1), (36, .invokevirtual 68, 3), (39, .istore 4, 2), (41, .aload_n 0, 1), (42, .getfield 7, 3), (45, .iload 4, 2), (47, .iconst 3, 1), (48, .iadd, 1), (49, .iaload, 1), (50, .ifCond .le 60, 3), (53, .aload_n 0, 1), (54, .getfield 7, 3), (57, .iload 4, 2), (59, .iconst 5, 1), (60, .iadd, 1), (61, .iaload, 1), (62, .aload_n 0, 1), (63, .getfield 7, 3), (66, .sipush 810, 3), (69, .iaload, 1), (70, .if_icmp .lt 40, 3), (73, .aload_n 0, 1), (74, .getfield 7, 3), (77, .iload 4, 2), (79, .iconst 3, 1), (80, .iadd, 1), (81, .dup2, 1), (82, .iaload, 1), (83, .iconst 1, 1), (84, .isub, 1), (85, .iastore, 1), (86, .aload_n 0, 1), (87, .getfield 7, 3), (90, .iload 4, 2), (92, .iconst 5, 1), (93, .iadd, 1), (94, .iconst 0, 1), (95, .iastore, 1), (96, .aload_n 0, 1), (97, .getfield 7, 3), (100, .iload 4, 2), (102, .bipush 6, 2), (104, .iadd, 1), (105, .dup2, 1), (106, .iaload, 1), (107, .iconst 1, 1), (108, .iadd, 1), (109, .iastore, 1), (110, .iinc 3 1, 3), (113, .goto (-86), 3), (116, .aload_n 0, 1), (117, .getfield 7, 3), (120, .sipush 806, 3), (123, .dup2, 1), (124, .iaload, 1), (125, .iconst 1, 1), (126, .iadd, 1), (127, .iastore, 1), (128, .iload_n 2, 1), (129, .ireturn, 1)]
set_option maxRecDepth 20000 in
theorem DX7_sendBeat : Lst YX7_sendBeat LX7_sendBeat := by unfold Lst; decide +kernel
def LX7_sendAll : LI := [(0, .iconst 0, 1), (1, .istore_n 3, 1), (2, .iconst 0, 1), (3, .istore 4, 2), (5, .iload 4, 2), (7, .iload_n 2, 1), (8, .if_icmp .ge 17, 3), (11, .iload_n 3, 1), (12, .aload_n 0, 1), (13, .iload_n 1, 1), (14, .invokevirtual 134, 3), (17, .iadd, 1), (18, .istore_n 3, 1), (19, .iinc 4 1, 3), (22, .goto (-17), 3), (25, .iload_n 3, 1), (26, .ireturn, 1)]
set_option maxRecDepth 20000 in
theorem DX7_sendAll : Lst YX7_sendAll LX7_sendAll := by unfold Lst; decide +kernel
def LX7_send : LI := [(0, .aload_n 0, 1), (1, .iconst 0, 1), (2, .putfield 35, 3), (5, .aload_n 0, 1), (6, .iload_n 1, 1), (7, .iload_n 2, 1), (8, .invokevirtual 111, 3), (11, .ifCond .ne 5, 3), (14, .iconst 0, 1), (15, .ireturn, 1), (16, .aload_n 0, 1), (17, .invokevirtual 61, 3), (20, .aload_n 0, 1), (21, .iload_n 1, 1), (22, .iload_n 2, 1), (23, .invokevirtual 137, 3), (26, .ireturn, 1)]
set_option maxRecDepth 20000 in
theorem DX7_send : Lst YX7_send LX7_send := by unfold Lst; decide +kernel
def LX7_forget : LI := [(0, .aload_n 0, 1), (1, .iconst 0, 1), (2, .putfield 35, 3), (5, .iload_n 1, 1), (6, .invokestatic 46, 3), (9, .ifCond .ne 9, 3), (12, .aload_n 0, 1), (13, .iconst 1, 1), (14, .invokevirtual 53, 3), (17, .ireturn, 1), (18, .aload_n 0, 1), (19, .invokevirtual 61, 3), (22, .aload_n 0, 1), (23, .iload_n 1, 1), (24, .invokevirtual 108, 3), (27, .istore_n 2, 1), (28, .iconst 0, 1), (29, .istore_n 3, 1), (30, .iload_n 3, 1), (31, .bipush 8, 2), (33, .if_icmp .ge 78, 3), (36, .aload_n 0, 1), (37, .iload_n 1, 1), (38, .iload_n 3, 1), (39, .invokevirtual 68, 3), (42, .istore 4, 2), (44, .aload_n 0, 1), (45, .getfield 7, 3), (48, .iload 4, 2), (50, .iconst 0, 1), (51, .iadd, 1), (52, .bipush 64, 2), (54, .iastore, 1), (55, .aload_n 0, 1), (56, .getfield 7, 3), (59, .iload 4, 2), (61, .iconst 1, 1), (62, .iadd, 1), (63, .iconst 0, 1), (64, .iastore, 1), (65, .aload_n 0, 1), (66, .getfield 7, 3), (69, .iload 4, 2), (71, .iconst 2, 1), (72, .iadd, 1), (73, .iconst 0, 1), (74, .iastore, 1), (75, .aload_n 0, 1), (76, .getfield 7, 3), (79, .iload 4, 2), (81, .iconst 3, 1), (82, .iadd, 1), (83, .iconst 0, 1), (84, .iastore, 1), (85, .aload_n 0, 1), (86, .getfield 7, 3), (89, .iload 4, 2), (91, .iconst 4, 1), (92, .iadd, 1), (93, .iconst (-1), 1), (94, .iastore, 1), (95, .aload_n 0, 1), (96, .getfield 7, 3), (99, .iload 4, 2), (101, .iconst 5, 1), (102, .iadd, 1), (103, .iconst 0, 1), (104, .iastore, 1), (105, .iinc 3 1, 3), (108, .goto (-78), 3), (111, .iload_n 2, 1), (112, .ireturn, 1)]
set_option maxRecDepth 20000 in
theorem DX7_forget : Lst YX7_forget LX7_forget := by unfold Lst; decide +kernel
def LX7_append : LI := [(0, .aload_n 0, 1), (1, .iconst 0, 1), (2, .putfield 35, 3), (5, .iload_n 1, 1), (6, .bipush 33, 2), (8, .bipush 126, 2), (10, .invokestatic 39, 3), (13, .ifCond .ne 9, 3), (16, .aload_n 0, 1), (17, .iconst 1, 1), (18, .invokevirtual 53, 3), (21, .ireturn, 1), (22, .aload_n 0, 1), (23, .getfield 140, 3), (26, .bipush 60, 2), (28, .if_icmp .ne 9, 3), (31, .aload_n 0, 1), (32, .iconst 2, 1), (33, .invokevirtual 53, 3), (36, .ireturn, 1), (37, .aload_n 0, 1), (38, .getfield 29, 3), (41, .aload_n 0, 1), (42, .getfield 140, 3), (45, .iload_n 1, 1), (46, .iastore, 1), (47, .aload_n 0, 1), (48, .dup, 1), (49, .getfield 140, 3), (52, .iconst 1, 1), (53, .iadd, 1), (54, .putfield 140, 3), (57, .aload_n 0, 1), (58, .getfield 140, 3), (61, .ireturn, 1)]
set_option maxRecDepth 20000 in
theorem DX7_append : Lst YX7_append LX7_append := by unfold Lst; decide +kernel
def LX7_clearBuffer : LI := [(0, .aload_n 0, 1), (1, .iconst 0, 1), (2, .putfield 35, 3), (5, .aload_n 0, 1), (6, .getfield 140, 3), (9, .istore_n 1, 1), (10, .aload_n 0, 1), (11, .iconst 0, 1), (12, .putfield 140, 3), (15, .iload_n 1, 1), (16, .ireturn, 1)]
set_option maxRecDepth 20000 in
theorem DX7_clearBuffer : Lst YX7_clearBuffer LX7_clearBuffer := by unfold Lst; decide +kernel
def LX7_digit : LI := [(0, .iload_n 0, 1), (1, .bipush 48, 2), (3, .bipush 57, 2), (5, .invokestatic 39, 3), (8, .ifCond .eq 10, 3), (11, .iload_n 0, 1), (12, .bipush 48, 2), (14, .isub, 1), (15, .goto 25, 3), (18, .iload_n 0, 1), (19, .bipush 97, 2), (21, .bipush 102, 2), (23, .invokestatic 39, 3), (26, .ifCond .eq 13, 3), (29, .iload_n 0, 1), (30, .bipush 97, 2), (32, .isub, 1), (33, .bipush 10, 2), (35, .iadd, 1), (36, .goto 4, 3), (39, .iconst (-1), 1), (40, .ireturn, 1)]
set_option maxRecDepth 20000 in
theorem DX7_digit : Lst YX7_digit LX7_digit := by unfold Lst; decide +kernel
def LX7_nextState : LI := [(0, .iload_n 1, 1), (1, .ifCond .ne 21, 3), (4, .iload_n 2, 1), (5, .bipush 97, 2), (7, .if_icmp .eq 9, 3), (10, .iload_n 2, 1), (11, .bipush 98, 2), (13, .if_icmp .ne 7, 3), (16, .iconst 1, 1), (17, .goto 4, 3), (20, .iconst (-1), 1), (21, .ireturn, 1), (22, .iload_n 1, 1), (23, .iconst 1, 1), (24, .if_icmp .ne 15, 3), (27, .iload_n 2, 1), (28, .bipush 58, 2), (30, .if_icmp .ne 7, 3), (33, .iconst 2, 1), (34, .goto 4, 3), (37, .iconst (-1), 1), (38, .ireturn, 1), (39, .iload_n 2, 1), (40, .invokestatic 143, 3), (43, .iconst (-1), 1), (44, .if_icmp .eq 5, 3), (47, .iconst 3, 1), (48, .ireturn, 1), (49, .iload_n 1, 1), (50, .iconst 3, 1), (51, .if_icmp .ne 13, 3), (54, .iload_n 2, 1), (55, .bipush 59, 2), (57, .if_icmp .ne 7, 3), (60, .iconst 0, 1), (61, .goto 4, 3), (64, .iconst (-1), 1), (65, .ireturn, 1)]
set_option maxRecDepth 20000 in
theorem DX7_nextState : Lst YX7_nextState LX7_nextState := by unfold Lst; decide +kernel
def LX7_read : LI := [(0, .iconst 0, 1), (1, .istore_n 1, 1), (2, .iconst 0, 1), (3, .istore_n 2, 1), (4, .iconst 1, 1), (5, .istore_n 3, 1), (6, .iload_n 2, 1), (7, .aload_n 0, 1), (8, .getfield 140, 3), (11, .if_icmp .ge 58, 3), (14, .iload_n 3, 1), (15, .ifCond .eq 54, 3), (18, .aload_n 0, 1), (19, .iload_n 1, 1), (20, .aload_n 0, 1), (21, .getfield 29, 3), (24, .iload_n 2, 1), (25, .iaload, 1), (26, .invokevirtual 146, 3), (29, .istore 4, 2), (31, .iload 4, 2), (33, .iconst (-1), 1), (34, .if_icmp .eq 7, 3), (37, .iconst 1, 1), (38, .goto 4, 3), (41, .iconst 0, 1), (42, .istore_n 3, 1), (43, .iload_n 3, 1), (44, .ifCond .eq 8, 3), (47, .iload 4, 2), (49, .goto 4, 3), (52, .iload_n 1, 1), (53, .istore_n 1, 1), (54, .iload_n 2, 1), (55, .iload_n 3, 1), (56, .ifCond .eq 7, 3), (59, .iconst 1, 1), (60, .goto 4, 3), (63, .iconst 0, 1), (64, .iadd, 1), (65, .istore_n 2, 1), (66, .goto (-60), 3), (69, .aload_n 0, 1), (70, .iload_n 2, 1), (71, .putfield 149, 3), (74, .aload_n 0, 1), (75, .iload_n 3, 1), (76, .ifCond .eq 12, 3), (79, .iload_n 1, 1), (80, .iconst 3, 1), (81, .if_icmp .ne 7, 3), (84, .iconst 1, 1), (85, .goto 4, 3), (88, .iconst 0, 1), (89, .putfield 152, 3), (92, .return_, 1)]
set_option maxRecDepth 20000 in
theorem DX7_read : Lst YX7_read LX7_read := by unfold Lst; decide +kernel
def LX7_firstError : LI := [(0, .aload_n 0, 1), (1, .iconst 0, 1), (2, .putfield 35, 3), (5, .aload_n 0, 1), (6, .invokevirtual 156, 3), (9, .aload_n 0, 1), (10, .getfield 149, 3), (13, .ireturn, 1)]
set_option maxRecDepth 20000 in
theorem DX7_firstError : Lst YX7_firstError LX7_firstError := by unfold Lst; decide +kernel
def LX7_saidOn : LI := [(0, .iconst 0, 1), (1, .istore_n 2, 1), (2, .iconst 0, 1), (3, .istore_n 3, 1), (4, .iconst 0, 1), (5, .istore 4, 2), (7, .iload 4, 2), (9, .aload_n 0, 1), (10, .getfield 140, 3), (13, .if_icmp .ge 99, 3), (16, .iload 4, 2), (18, .ifCond .eq 17, 3), (21, .aload_n 0, 1), (22, .getfield 29, 3), (25, .iload 4, 2), (27, .iconst 1, 1), (28, .isub, 1), (29, .iaload, 1), (30, .bipush 59, 2), (32, .if_icmp .ne 7, 3), (35, .iconst 1, 1), (36, .goto 4, 3), (39, .iconst 0, 1), (40, .istore 5, 2), (42, .iload 5, 2), (44, .ifCond .eq 16, 3), (47, .aload_n 0, 1), (48, .getfield 29, 3), (51, .iload 4, 2), (53, .iaload, 1), (54, .bipush 97, 2), (56, .isub, 1), (57, .goto 4, 3), (60, .iload_n 3, 1), (61, .istore_n 3, 1), (62, .iload 5, 2), (64, .ifCond .ne 21, 3), (67, .aload_n 0, 1), (68, .getfield 29, 3), (71, .iload 4, 2), (73, .iaload, 1), (74, .invokestatic 143, 3), (77, .iconst (-1), 1), (78, .if_icmp .eq 7, 3), (81, .iconst 1, 1), (82, .goto 4, 3), (85, .iconst 0, 1), (86, .istore 6, 2), (88, .iload_n 2, 1), (89, .iload 6, 2), (91, .ifCond .eq 12, 3), (94, .iload_n 3, 1), (95, .iload_n 1, 1), (96, .if_icmp .ne 7, 3), (99, .iconst 4, 1), (100, .goto 4, 3), (103, .iconst 0, 1), (104, .iadd, 1), (105, .istore_n 2, 1), (106, .iinc 4 1, 3), (109, .goto (-102), 3), (112, .iload_n 2, 1), (113, .ireturn, 1)]
set_option maxRecDepth 20000 in
theorem DX7_saidOn : Lst YX7_saidOn LX7_saidOn := by unfold Lst; decide +kernel
def LX7_say_0 : LI := [(0, .aload_n 0, 1), (1, .iconst 0, 1), (2, .putfield 35, 3), (5, .aload_n 0, 1), (6, .invokevirtual 156, 3), (9, .aload_n 0, 1), (10, .getfield 152, 3), (13, .ifCond .ne 9, 3), (16, .aload_n 0, 1), (17, .iconst 1, 1), (18, .invokevirtual 53, 3), (21, .ireturn, 1), (22, .aload_n 0, 1), (23, .iconst 0, 1), (24, .invokevirtual 159, 3), (27, .istore_n 1, 1), (28, .aload_n 0, 1), (29, .iconst 1, 1), (30, .invokevirtual 159, 3), (33, .istore_n 2, 1), (34, .aload_n 0, 1), (35, .getfield 7, 3), (38, .sipush 800, 3), (41, .iaload, 1), (42, .iload_n 1, 1), (43, .iadd, 1), (44, .sipush 256, 3), (47, .if_icmp .gt 19, 3), (50, .aload_n 0, 1), (51, .getfield 7, 3), (54, .sipush 801, 3), (57, .iaload, 1), (58, .iload_n 2, 1), (59, .iadd, 1), (60, .sipush 256, 3), (63, .if_icmp .le 9, 3), (66, .aload_n 0, 1), (67, .iconst 2, 1), (68, .invokevirtual 53, 3), (71, .ireturn, 1), (72, .aload_n 0, 1), (73, .invokevirtual 61, 3), (76, .iconst 0, 1), (77, .istore_n 3, 1), (78, .iconst 0, 1), (79, .istore 4, 2), (81, .iload 4, 2), (83, .aload_n 0, 1), (84, .getfield 140, 3), (87, .if_icmp .ge 142, 3), (90, .iload 4, 2), (92, .ifCond .eq 17, 3), (95, .aload_n 0, 1), (96, .getfield 29, 3), (99, .iload 4, 2), (101, .iconst 1, 1), (102, .isub, 1), (103, .iaload, 1), (104, .bipush 59, 2), (106, .if_icmp .ne 7, 3), (109, .iconst 1, 1), (110, .goto 4, 3), (113, .iconst 0, 1), (114, .istore 5, 2), (116, .iload 5, 2), (118, .ifCond .eq 16, 3), (121, .aload_n 0, 1), (122, .getfield 29, 3), (125, .iload 4, 2), (127, .iaload, 1), (128, .bipush 97, 2), (130, .isub, 1), (131, .goto 4, 3), (134, .iload_n 3, 1), (135, .istore_n 3, 1), (136, .iload 5, 2), (138, .ifCond .eq 7, 3), (141, .iconst (-1), 1), (142, .goto 13, 3), (145, .aload_n 0, 1), (146, .getfield 29, 3), (149, .iload 4, 2), (151, .iaload, 1), (152, .invokestatic 143, 3), (155, .istore 6, 2), (157, .iconst 3, 1), (158, .istore 7, 2), (160, .iload 7, 2), (162, .ifCond .lt 61, 3), (165, .iload 6, 2), (167, .iconst (-1), 1), (168, .if_icmp .eq 55, 3), (171, .aload_n 0, 1), (172, .getfield 7, 3), (175, .sipush 288, 3), (178, .sipush 256, 3), (181, .iload_n 3, 1), (182, .imul, 1), (183, .iadd, 1), (184, .aload_n 0, 1), (185, .getfield 7, 3), (188, .sipush 800, 3), (191, .iload_n 3, 1), (192, .iadd, 1), (193, .iaload, 1), (194, .iadd, 1), (195, .iload 6, 2), (197, .iload 7, 2), (199, .ishr, 1), (200, .iconst 1, 1), (201, .iand, 1), (202, .iastore, 1), (203, .aload_n 0, 1), (204, .getfield 7, 3), (207, .sipush 800, 3), (210, .iload_n 3, 1), (211, .iadd, 1), (212, .dup2, 1), (213, .iaload, 1), (214, .iconst 1, 1)]
set_option maxRecDepth 20000 in
theorem DX7_say_0 : Lst YX7_say LX7_say_0 := by unfold Lst; decide +kernel
def LX7_say_1 : LI := [(215, .iadd, 1), (216, .iastore, 1), (217, .iinc 7 (-1), 3), (220, .goto (-60), 3), (223, .iinc 4 1, 3), (226, .goto (-145), 3), (229, .aload_n 0, 1), (230, .iconst 0, 1), (231, .putfield 140, 3), (234, .iload_n 1, 1), (235, .iload_n 2, 1), (236, .iadd, 1), (237, .ireturn, 1)]
set_option maxRecDepth 20000 in
theorem DX7_say_1 : Lst YX7_say LX7_say_1 := by unfold Lst; decide +kernel
def LX7_undo : LI := [(0, .aload_n 0, 1), (1, .iconst 0, 1), (2, .putfield 35, 3), (5, .aload_n 0, 1), (6, .getfield 43, 3), (9, .ifCond .ne 9, 3), (12, .aload_n 0, 1), (13, .iconst 1, 1), (14, .invokevirtual 53, 3), (17, .ireturn, 1), (18, .aload_n 0, 1), (19, .dup, 1), (20, .getfield 43, 3), (23, .iconst 1, 1), (24, .isub, 1), (25, .putfield 43, 3), (28, .iconst 0, 1), (29, .istore_n 1, 1), (30, .iload_n 1, 1), (31, .sipush 811, 3), (34, .if_icmp .ge 30, 3), (37, .aload_n 0, 1), (38, .getfield 7, 3), (41, .iload_n 1, 1), (42, .aload_n 0, 1), (43, .getfield 13, 3), (46, .sipush 811, 3), (49, .aload_n 0, 1), (50, .getfield 43, 3), (53, .imul, 1), (54, .iload_n 1, 1), (55, .iadd, 1), (56, .iaload, 1), (57, .iastore, 1), (58, .iinc 1 1, 3), (61, .goto (-31), 3), (64, .aload_n 0, 1), (65, .getfield 19, 3), (68, .iconst 0, 1), (69, .aload_n 0, 1), (70, .getfield 23, 3), (73, .iconst 2, 1), (74, .aload_n 0, 1), (75, .getfield 43, 3), (78, .imul, 1), (79, .laload, 1), (80, .lastore, 1), (81, .aload_n 0, 1), (82, .getfield 19, 3), (85, .iconst 1, 1), (86, .aload_n 0, 1), (87, .getfield 23, 3), (90, .iconst 2, 1), (91, .aload_n 0, 1), (92, .getfield 43, 3), (95, .imul, 1), (96, .iconst 1, 1), (97, .iadd, 1), (98, .laload, 1), (99, .lastore, 1), (100, .aload_n 0, 1), (101, .getfield 43, 3), (104, .ireturn, 1)]
set_option maxRecDepth 20000 in
theorem DX7_undo : Lst YX7_undo LX7_undo := by unfold Lst; decide +kernel
def LX7_street : LI := [(0, .aload_n 0, 1), (1, .iconst 0, 1), (2, .putfield 35, 3), (5, .iload_n 1, 1), (6, .invokestatic 46, 3), (9, .ifCond .eq 10, 3), (12, .iload_n 2, 1), (13, .invokestatic 50, 3), (16, .ifCond .ne 9, 3), (19, .aload_n 0, 1), (20, .iconst 1, 1), (21, .invokevirtual 53, 3), (24, .ireturn, 1), (25, .iload_n 3, 1), (26, .iconst 0, 1), (27, .bipush 6, 2), (29, .invokestatic 39, 3), (32, .ifCond .eq 19, 3), (35, .aload_n 0, 1), (36, .getfield 7, 3), (39, .aload_n 0, 1), (40, .iload_n 1, 1), (41, .iload_n 2, 1), (42, .invokevirtual 64, 3), (45, .iload_n 3, 1), (46, .iadd, 1), (47, .iaload, 1), (48, .goto 8, 3), (51, .aload_n 0, 1), (52, .iconst 2, 1), (53, .invokevirtual 53, 3), (56, .ireturn, 1)]
set_option maxRecDepth 20000 in
theorem DX7_street : Lst YX7_street LX7_street := by unfold Lst; decide +kernel
def LX7_accent : LI := [(0, .aload_n 0, 1), (1, .iconst 0, 1), (2, .putfield 35, 3), (5, .iload_n 1, 1), (6, .invokestatic 46, 3), (9, .ifCond .eq 10, 3), (12, .iload_n 2, 1), (13, .invokestatic 50, 3), (16, .ifCond .ne 9, 3), (19, .aload_n 0, 1), (20, .iconst 1, 1), (21, .invokevirtual 53, 3), (24, .ireturn, 1), (25, .iload_n 3, 1), (26, .iconst 0, 1), (27, .bipush 10, 2), (29, .invokestatic 39, 3), (32, .ifCond .eq 19, 3), (35, .aload_n 0, 1), (36, .getfield 7, 3), (39, .aload_n 0, 1), (40, .iload_n 1, 1), (41, .iload_n 2, 1), (42, .invokevirtual 68, 3), (45, .iload_n 3, 1), (46, .iadd, 1), (47, .iaload, 1), (48, .goto 8, 3), (51, .aload_n 0, 1), (52, .iconst 2, 1), (53, .invokevirtual 53, 3), (56, .ireturn, 1)]
set_option maxRecDepth 20000 in
theorem DX7_accent : Lst YX7_accent LX7_accent := by unfold Lst; decide +kernel
def LX7_waits : LI := [(0, .aload_n 0, 1), (1, .iconst 0, 1), (2, .putfield 35, 3), (5, .iload_n 1, 1), (6, .invokestatic 46, 3), (9, .ifCond .eq 23, 3), (12, .iload_n 2, 1), (13, .iconst 0, 1), (14, .aload_n 0, 1), (15, .getfield 7, 3), (18, .sipush 800, 3), (21, .iload_n 1, 1), (22, .iadd, 1), (23, .iaload, 1), (24, .iconst 1, 1), (25, .isub, 1), (26, .invokestatic 39, 3), (29, .ifCond .ne 9, 3), (32, .aload_n 0, 1), (33, .iconst 1, 1), (34, .invokevirtual 53, 3), (37, .ireturn, 1), (38, .aload_n 0, 1), (39, .getfield 7, 3), (42, .sipush 288, 3), (45, .sipush 256, 3), (48, .iload_n 1, 1), (49, .imul, 1), (50, .iadd, 1), (51, .iload_n 2, 1), (52, .iadd, 1), (53, .iaload, 1), (54, .ireturn, 1)]
set_option maxRecDepth 20000 in
theorem DX7_waits : Lst YX7_waits LX7_waits := by unfold Lst; decide +kernel
def LX7_had : LI := [(0, .aload_n 0, 1), (1, .iconst 0, 1), (2, .putfield 35, 3), (5, .iload_n 1, 1), (6, .invokestatic 46, 3), (9, .ifCond .eq 12, 3), (12, .aload_n 0, 1), (13, .getfield 19, 3), (16, .iload_n 1, 1), (17, .laload, 1), (18, .goto 9, 3), (21, .aload_n 0, 1), (22, .iconst 1, 1), (23, .invokevirtual 53, 3), (26, .i2l, 1), (27, .lreturn, 1)]
set_option maxRecDepth 20000 in
theorem DX7_had : Lst YX7_had LX7_had := by unfold Lst; decide +kernel
def LX7_shyAll : LI := [(0, .iconst 0, 1), (1, .istore_n 1, 1), (2, .iconst 0, 1), (3, .istore_n 2, 1), (4, .iload_n 2, 1), (5, .bipush 16, 2), (7, .if_icmp .ge 27, 3), (10, .iload_n 1, 1), (11, .aload_n 0, 1), (12, .getfield 7, 3), (15, .bipush 112, 2), (17, .bipush 11, 2), (19, .iload_n 2, 1), (20, .imul, 1), (21, .iadd, 1), (22, .bipush 6, 2), (24, .iadd, 1), (25, .iaload, 1), (26, .iadd, 1), (27, .istore_n 1, 1), (28, .iinc 2 1, 3), (31, .goto (-27), 3), (34, .iload_n 1, 1), (35, .ireturn, 1)]
set_option maxRecDepth 20000 in
theorem DX7_shyAll : Lst YX7_shyAll LX7_shyAll := by unfold Lst; decide +kernel
def LX7_insults : LI := [(0, .iconst 0, 1), (1, .istore_n 1, 1), (2, .iconst 0, 1), (3, .istore_n 2, 1), (4, .iload_n 2, 1), (5, .bipush 16, 2), (7, .if_icmp .ge 31, 3), (10, .iload_n 1, 1), (11, .aload_n 0, 1), (12, .getfield 7, 3), (15, .bipush 7, 2), (17, .iload_n 2, 1), (18, .imul, 1), (19, .iconst 4, 1), (20, .iadd, 1), (21, .iaload, 1), (22, .ifCond .eq 7, 3), (25, .iconst 1, 1), (26, .goto 4, 3), (29, .iconst 0, 1), (30, .iadd, 1), (31, .istore_n 1, 1), (32, .iinc 2 1, 3), (35, .goto (-31), 3), (38, .iload_n 1, 1), (39, .ireturn, 1)]
set_option maxRecDepth 20000 in
theorem DX7_insults : Lst YX7_insults LX7_insults := by unfold Lst; decide +kernel
def LX7_counted : LI := [(0, .iload_n 1, 1), (1, .tableswitch 140 0 11 #[63, 72, 81, 81, 94, 94, 107, 107, 121, 121, 130, 135], 63), (64, .aload_n 0, 1), (65, .getfield 7, 3), (68, .sipush 806, 3), (71, .iaload, 1), (72, .ireturn, 1), (73, .aload_n 0, 1), (74, .getfield 7, 3), (77, .sipush 807, 3), (80, .iaload, 1), (81, .ireturn, 1), (82, .aload_n 0, 1), (83, .getfield 7, 3), (86, .sipush 800, 3), (89, .iload_n 1, 1), (90, .iadd, 1), (91, .iconst 2, 1), (92, .isub, 1), (93, .iaload, 1), (94, .ireturn, 1), (95, .aload_n 0, 1), (96, .getfield 7, 3), (99, .sipush 802, 3), (102, .iload_n 1, 1), (103, .iadd, 1), (104, .iconst 4, 1), (105, .isub, 1), (106, .iaload, 1), (107, .ireturn, 1), (108, .aload_n 0, 1), (109, .getfield 7, 3), (112, .sipush 804, 3), (115, .iload_n 1, 1), (116, .iadd, 1), (117, .bipush 6, 2), (119, .isub, 1), (120, .iaload, 1), (121, .ireturn, 1), (122, .aload_n 0, 1), (123, .iload_n 1, 1), (124, .bipush 8, 2), (126, .isub, 1), (127, .invokevirtual 108, 3), (130, .ireturn, 1), (131, .aload_n 0, 1), (132, .invokevirtual 162, 3), (135, .ireturn, 1), (136, .aload_n 0, 1), (137, .invokevirtual 166, 3), (140, .ireturn, 1), (141, .aload_n 0, 1), (142, .getfield 43, 3), (145, .ireturn, 1)]
set_option maxRecDepth 20000 in
theorem DX7_counted : Lst YX7_counted LX7_counted := by unfold Lst; decide +kernel
def LX7_count : LI := [(0, .aload_n 0, 1), (1, .iconst 0, 1), (2, .putfield 35, 3), (5, .iload_n 1, 1), (6, .iconst 0, 1), (7, .bipush 12, 2), (9, .invokestatic 39, 3), (12, .ifCond .eq 11, 3), (15, .aload_n 0, 1), (16, .iload_n 1, 1), (17, .invokevirtual 169, 3), (20, .goto 8, 3), (23, .aload_n 0, 1), (24, .iconst 1, 1), (25, .invokevirtual 53, 3), (28, .ireturn, 1)]
set_option maxRecDepth 20000 in
theorem DX7_count : Lst YX7_count LX7_count := by unfold Lst; decide +kernel
def LX7_setting : LI := [(0, .aload_n 0, 1), (1, .iconst 0, 1), (2, .putfield 35, 3), (5, .iload_n 1, 1), (6, .iconst 0, 1), (7, .iconst 2, 1), (8, .invokestatic 39, 3), (11, .ifCond .eq 16, 3), (14, .aload_n 0, 1), (15, .getfield 7, 3), (18, .sipush 808, 3), (21, .iload_n 1, 1), (22, .iadd, 1), (23, .iaload, 1), (24, .goto 8, 3), (27, .aload_n 0, 1), (28, .iconst 1, 1), (29, .invokevirtual 53, 3), (32, .ireturn, 1)]
set_option maxRecDepth 20000 in
theorem DX7_setting : Lst YX7_setting LX7_setting := by unfold Lst; decide +kernel
def LX7_sureOf : LI := [(0, .aload_n 0, 1), (1, .iload_n 1, 1), (2, .iload_n 2, 1), (3, .invokevirtual 64, 3), (6, .istore_n 3, 1), (7, .aload_n 0, 1), (8, .iload_n 1, 1), (9, .iload_n 2, 1), (10, .invokevirtual 68, 3), (13, .istore 4, 2), (15, .aload_n 0, 1), (16, .getfield 7, 3), (19, .iload_n 3, 1), (20, .iconst 0, 1), (21, .iadd, 1), (22, .iaload, 1), (23, .aload_n 0, 1), (24, .getfield 7, 3), (27, .iload 4, 2), (29, .iconst 0, 1), (30, .iadd, 1), (31, .iaload, 1), (32, .isub, 1), (33, .invokestatic 91, 3), (36, .istore 5, 2), (38, .sipush 256, 3), (41, .aload_n 0, 1), (42, .getfield 7, 3), (45, .iload_n 3, 1), (46, .iconst 1, 1), (47, .iadd, 1), (48, .iaload, 1), (49, .aload_n 0, 1), (50, .getfield 7, 3), (53, .iload 4, 2), (55, .iconst 1, 1), (56, .iadd, 1), (57, .iaload, 1), (58, .isub, 1), (59, .invokestatic 91, 3), (62, .aload_n 0, 1), (63, .getfield 7, 3), (66, .iload_n 3, 1), (67, .iconst 2, 1), (68, .iadd, 1), (69, .iaload, 1), (70, .aload_n 0, 1), (71, .getfield 7, 3), (74, .iload 4, 2), (76, .iconst 2, 1), (77, .iadd, 1), (78, .iaload, 1), (79, .isub, 1), (80, .invokestatic 91, 3), (83, .iadd, 1), (84, .imul, 1), (85, .istore 6, 2), (87, .iconst 4, 1), (88, .istore 7, 2), (90, .iconst 0, 1), (91, .istore 8, 2), (93, .iload 7, 2), (95, .ifCond .le 85, 3), (98, .iload 8, 2), (100, .ifCond .ne 80, 3), (103, .sipush 256, 3), (106, .iload 7, 2), (108, .ishr, 1), (109, .istore 9, 2), (111, .iload 5, 2), (113, .sipush 256, 3), (116, .iload 9, 2), (118, .isub, 1), (119, .imul, 1), (120, .iload 6, 2), (122, .iadd, 1), (123, .bipush 64, 2), (125, .idiv, 1), (126, .aload_n 0, 1), (127, .getfield 7, 3), (130, .iload_n 3, 1), (131, .iconst 3, 1), (132, .iadd, 1), (133, .iaload, 1), (134, .iadd, 1), (135, .iconst 4, 1), (136, .iadd, 1), (137, .iload 9, 2), (139, .aload_n 0, 1), (140, .getfield 7, 3), (143, .iload 4, 2), (145, .iconst 0, 1), (146, .iadd, 1), (147, .iaload, 1), (148, .imul, 1), (149, .bipush 64, 2), (151, .idiv, 1), (152, .if_icmp .ge 7, 3), (155, .iconst 1, 1), (156, .goto 4, 3), (159, .iconst 0, 1), (160, .istore 8, 2), (162, .iload 7, 2), (164, .iload 8, 2), (166, .ifCond .eq 7, 3), (169, .iconst 0, 1), (170, .goto 4, 3), (173, .iconst 1, 1), (174, .isub, 1), (175, .istore 7, 2), (177, .goto (-84), 3), (180, .iload 7, 2), (182, .ireturn, 1)]
set_option maxRecDepth 20000 in
theorem DX7_sureOf : Lst YX7_sureOf LX7_sureOf := by unfold Lst; decide +kernel
def LX7_sure : LI := [(0, .aload_n 0, 1), (1, .iconst 0, 1), (2, .putfield 35, 3), (5, .iload_n 1, 1), (6, .invokestatic 46, 3), (9, .ifCond .eq 19, 3), (12, .iload_n 2, 1), (13, .invokestatic 50, 3), (16, .ifCond .eq 12, 3), (19, .aload_n 0, 1), (20, .iload_n 1, 1), (21, .iload_n 2, 1), (22, .invokevirtual 172, 3), (25, .goto 8, 3), (28, .aload_n 0, 1), (29, .iconst 1, 1), (30, .invokevirtual 53, 3), (33, .ireturn, 1)]
set_option maxRecDepth 20000 in
theorem DX7_sure : Lst YX7_sure LX7_sure := by unfold Lst; decide +kernel
def LX7_sentOf : LI := [(0, .aload_n 0, 1), (1, .invokevirtual 175, 3), (4, .aload_n 0, 1), (5, .invokevirtual 162, 3), (8, .istore 4, 2), (10, .aload_n 0, 1), (11, .iload_n 1, 1), (12, .iload_n 2, 1), (13, .invokevirtual 137, 3), (16, .istore 5, 2), (18, .iload_n 3, 1), (19, .ifCond .ne 8, 3), (22, .iload 5, 2), (24, .goto 28, 3), (27, .iload_n 3, 1), (28, .iconst 1, 1), (29, .if_icmp .ne 13, 3), (32, .aload_n 0, 1), (33, .invokevirtual 162, 3), (36, .iload 4, 2), (38, .isub, 1), (39, .goto 13, 3), (42, .aload_n 0, 1), (43, .getfield 7, 3), (46, .sipush 800, 3), (49, .iload_n 1, 1), (50, .iadd, 1), (51, .iaload, 1), (52, .istore 6, 2), (54, .aload_n 0, 1), (55, .invokevirtual 178, 3), (58, .iload 6, 2), (60, .ireturn, 1)]
set_option maxRecDepth 20000 in
theorem DX7_sentOf : Lst YX7_sentOf LX7_sentOf := by unfold Lst; decide +kernel
def LX7_ifSent : LI := [(0, .aload_n 0, 1), (1, .iconst 0, 1), (2, .putfield 35, 3), (5, .iload_n 1, 1), (6, .invokestatic 46, 3), (9, .ifCond .ne 9, 3), (12, .aload_n 0, 1), (13, .iconst 1, 1), (14, .invokevirtual 53, 3), (17, .ireturn, 1), (18, .iload_n 2, 1), (19, .iconst 1, 1), (20, .bipush 100, 2), (22, .invokestatic 39, 3), (25, .ifCond .eq 22, 3), (28, .iload_n 3, 1), (29, .iconst 0, 1), (30, .iconst 2, 1), (31, .invokestatic 39, 3), (34, .ifCond .eq 13, 3), (37, .aload_n 0, 1), (38, .iload_n 1, 1), (39, .iload_n 2, 1), (40, .iload_n 3, 1), (41, .invokevirtual 181, 3), (44, .goto 8, 3), (47, .aload_n 0, 1), (48, .iconst 2, 1), (49, .invokevirtual 53, 3), (52, .ireturn, 1)]
set_option maxRecDepth 20000 in
theorem DX7_ifSent : Lst YX7_ifSent LX7_ifSent := by unfold Lst; decide +kernel
def LX7_learnedOf : LI := [(0, .aload_n 0, 1), (1, .invokevirtual 175, 3), (4, .aload_n 0, 1), (5, .iload_n 1, 1), (6, .iload_n 2, 1), (7, .invokevirtual 114, 3), (10, .istore_n 3, 1), (11, .aload_n 0, 1), (12, .invokevirtual 178, 3), (15, .iload_n 3, 1), (16, .ireturn, 1)]
set_option maxRecDepth 20000 in
theorem DX7_learnedOf : Lst YX7_learnedOf LX7_learnedOf := by unfold Lst; decide +kernel
def LX7_ifLearned : LI := [(0, .aload_n 0, 1), (1, .iconst 0, 1), (2, .putfield 35, 3), (5, .iload_n 1, 1), (6, .invokestatic 46, 3), (9, .ifCond .ne 9, 3), (12, .aload_n 0, 1), (13, .iconst 1, 1), (14, .invokevirtual 53, 3), (17, .ireturn, 1), (18, .iload_n 2, 1), (19, .iconst 1, 1), (20, .bipush 100, 2), (22, .invokestatic 39, 3), (25, .ifCond .eq 12, 3), (28, .aload_n 0, 1), (29, .iload_n 1, 1), (30, .iload_n 2, 1), (31, .invokevirtual 184, 3), (34, .goto 8, 3), (37, .aload_n 0, 1), (38, .iconst 2, 1), (39, .invokevirtual 53, 3), (42, .ireturn, 1)]
set_option maxRecDepth 20000 in
theorem DX7_ifLearned : Lst YX7_ifLearned LX7_ifLearned := by unfold Lst; decide +kernel
def LX7_beatsOf : LI := [(0, .aload_n 0, 1), (1, .invokevirtual 175, 3), (4, .iconst 0, 1), (5, .istore_n 2, 1), (6, .iload_n 2, 1), (7, .sipush 300, 3), (10, .if_icmp .ge 28, 3), (13, .aload_n 0, 1), (14, .getfield 7, 3), (17, .sipush 800, 3), (20, .iload_n 1, 1), (21, .iadd, 1), (22, .iaload, 1), (23, .ifCond .le 15, 3), (26, .aload_n 0, 1), (27, .iload_n 1, 1), (28, .invokevirtual 134, 3), (31, .pop, 1), (32, .iinc 2 1, 3), (35, .goto (-29), 3), (38, .aload_n 0, 1), (39, .getfield 7, 3), (42, .sipush 800, 3), (45, .iload_n 1, 1), (46, .iadd, 1), (47, .iaload, 1), (48, .ifCond .ne 7, 3), (51, .iconst 1, 1), (52, .goto 4, 3), (55, .iconst 0, 1), (56, .istore_n 3, 1), (57, .aload_n 0, 1), (58, .invokevirtual 178, 3), (61, .iload_n 3, 1), (62, .ifCond .eq 7, 3), (65, .iload_n 2, 1), (66, .goto 4, 3), (69, .iconst (-1), 1), (70, .ireturn, 1)]
set_option maxRecDepth 20000 in
theorem DX7_beatsOf : Lst YX7_beatsOf LX7_beatsOf := by unfold Lst; decide +kernel
def LX7_beatsFor : LI := [(0, .aload_n 0, 1), (1, .iconst 0, 1), (2, .putfield 35, 3), (5, .iload_n 1, 1), (6, .invokestatic 46, 3), (9, .ifCond .eq 11, 3), (12, .aload_n 0, 1), (13, .iload_n 1, 1), (14, .invokevirtual 187, 3), (17, .goto 8, 3), (20, .aload_n 0, 1), (21, .iconst 1, 1), (22, .invokevirtual 53, 3), (25, .ireturn, 1)]
set_option maxRecDepth 20000 in
theorem DX7_beatsFor : Lst YX7_beatsFor LX7_beatsFor := by unfold Lst; decide +kernel
def LX7_lessonOf : LI := [(0, .aload_n 0, 1), (1, .invokevirtual 175, 3), (4, .iconst 1, 1), (5, .istore_n 2, 1), (6, .iconst (-1), 1), (7, .istore_n 3, 1), (8, .iconst 1, 1), (9, .istore 4, 2), (11, .iload 4, 2), (13, .bipush 40, 2), (15, .if_icmp .gt 53, 3), (18, .aload_n 0, 1), (19, .iload_n 1, 1), (20, .iload 4, 2), (22, .iconst 1, 1), (23, .isub, 1), (24, .invokevirtual 104, 3), (27, .aload_n 0, 1), (28, .iload_n 1, 1), (29, .iload 4, 2), (31, .invokevirtual 190, 3), (34, .istore 5, 2), (36, .iload 5, 2), (38, .iload_n 3, 1), (39, .if_icmp .le 8, 3), (42, .iload 4, 2), (44, .goto 4, 3), (47, .iload_n 2, 1), (48, .istore_n 2, 1), (49, .iload 5, 2), (51, .iload_n 3, 1), (52, .if_icmp .le 8, 3), (55, .iload 5, 2), (57, .goto 4, 3), (60, .iload_n 3, 1), (61, .istore_n 3, 1), (62, .iinc 4 1, 3), (65, .goto (-54), 3), (68, .aload_n 0, 1), (69, .invokevirtual 178, 3), (72, .iload_n 2, 1), (73, .ireturn, 1)]
set_option maxRecDepth 20000 in
theorem DX7_lessonOf : Lst YX7_lessonOf LX7_lessonOf := by unfold Lst; decide +kernel
def LX7_bestLesson : LI := [(0, .aload_n 0, 1), (1, .iconst 0, 1), (2, .putfield 35, 3), (5, .iload_n 1, 1), (6, .invokestatic 46, 3), (9, .ifCond .eq 11, 3), (12, .aload_n 0, 1), (13, .iload_n 1, 1), (14, .invokevirtual 193, 3), (17, .goto 8, 3), (20, .aload_n 0, 1), (21, .iconst 1, 1), (22, .invokevirtual 53, 3), (25, .ireturn, 1)]
set_option maxRecDepth 20000 in
theorem DX7_bestLesson : Lst YX7_bestLesson LX7_bestLesson := by unfold Lst; decide +kernel
def LX7_hurtsOf : LI := [(0, .aload_n 0, 1), (1, .getfield 7, 3), (4, .aload_n 0, 1), (5, .iload_n 1, 1), (6, .iload_n 2, 1), (7, .invokevirtual 68, 3), (10, .iconst 3, 1), (11, .iadd, 1), (12, .iaload, 1), (13, .istore_n 3, 1), (14, .iload_n 3, 1), (15, .ifCond .ne 5, 3), (18, .iconst (-1), 1), (19, .ireturn, 1), (20, .aload_n 0, 1), (21, .invokevirtual 175, 3), (24, .iconst 0, 1), (25, .istore 4, 2), (27, .iload 4, 2), (29, .iload_n 2, 1), (30, .if_icmp .ge 17, 3), (33, .aload_n 0, 1), (34, .iload_n 1, 1), (35, .iload 4, 2), (37, .invokevirtual 131, 3), (40, .pop, 1), (41, .iinc 4 1, 3), (44, .goto (-17), 3), (47, .iconst 0, 1), (48, .istore 4, 2), (50, .iconst 0, 1), (51, .istore 5, 2), (53, .iload 5, 2), (55, .iload_n 3, 1), (56, .if_icmp .ge 21, 3), (59, .iconst 2, 1), (60, .iload 4, 2), (62, .imul, 1), (63, .aload_n 0, 1), (64, .iload_n 1, 1), (65, .invokevirtual 120, 3), (68, .iadd, 1), (69, .istore 4, 2), (71, .iinc 5 1, 3), (74, .goto (-21), 3), (77, .aload_n 0, 1), (78, .iload_n 1, 1), (79, .iload_n 2, 1), (80, .iload_n 3, 1), (81, .iload 4, 2), (83, .invokestatic 117, 3), (86, .invokevirtual 84, 3), (89, .istore 5, 2), (91, .iconst (-1), 1), (92, .istore 6, 2), (94, .iconst 0, 1), (95, .istore 7, 2), (97, .iload 7, 2), (99, .sipush 300, 3), (102, .if_icmp .gt 67, 3), (105, .iload 6, 2), (107, .iconst (-1), 1), (108, .if_icmp .ne 61, 3), (111, .aload_n 0, 1), (112, .iload_n 1, 1), (113, .iload_n 2, 1), (114, .iload 5, 2), (116, .iload 7, 2), (118, .iadd, 1), (119, .invokevirtual 123, 3), (122, .iload 4, 2), (124, .if_icmp .ne 19, 3), (127, .aload_n 0, 1), (128, .iload_n 1, 1), (129, .iload_n 2, 1), (130, .iload 5, 2), (132, .iload 7, 2), (134, .isub, 1), (135, .invokevirtual 123, 3), (138, .iload 4, 2), (140, .if_icmp .eq 7, 3), (143, .iconst 1, 1), (144, .goto 4, 3), (147, .iconst 0, 1), (148, .istore 8, 2), (150, .iload 8, 2), (152, .ifCond .eq 8, 3), (155, .iload 7, 2), (157, .goto 4, 3), (160, .iconst (-1), 1), (161, .istore 6, 2), (163, .iinc 7 1, 3), (166, .goto (-69), 3), (169, .aload_n 0, 1), (170, .invokevirtual 178, 3), (173, .iload 6, 2), (175, .ireturn, 1)]
set_option maxRecDepth 20000 in
theorem DX7_hurtsOf : Lst YX7_hurtsOf LX7_hurtsOf := by unfold Lst; decide +kernel
def LX7_hurts : LI := [(0, .aload_n 0, 1), (1, .iconst 0, 1), (2, .putfield 35, 3), (5, .iload_n 1, 1), (6, .invokestatic 46, 3), (9, .ifCond .eq 19, 3), (12, .iload_n 2, 1), (13, .invokestatic 50, 3), (16, .ifCond .eq 12, 3), (19, .aload_n 0, 1), (20, .iload_n 1, 1), (21, .iload_n 2, 1), (22, .invokevirtual 196, 3), (25, .goto 8, 3), (28, .aload_n 0, 1), (29, .iconst 1, 1), (30, .invokevirtual 53, 3), (33, .ireturn, 1)]
set_option maxRecDepth 20000 in
theorem DX7_hurts : Lst YX7_hurts LX7_hurts := by unfold Lst; decide +kernel
def LX7_shareOf : LI := [(0, .aload_n 0, 1), (1, .getfield 7, 3), (4, .sipush 802, 3), (7, .iload_n 1, 1), (8, .iadd, 1), (9, .iaload, 1), (10, .istore_n 2, 1), (11, .iload_n 2, 1), (12, .ifCond .ne 7, 3), (15, .dconst 1, 1), (16, .goto 19, 3), (19, .iload_n 2, 1), (20, .aload_n 0, 1), (21, .getfield 7, 3), (24, .sipush 804, 3), (27, .iload_n 1, 1), (28, .iadd, 1), (29, .iaload, 1), (30, .isub, 1), (31, .i2d, 1), (32, .iload_n 2, 1), (33, .i2d, 1), (34, .ddiv, 1), (35, .dreturn, 1)]
set_option maxRecDepth 20000 in
theorem DX7_shareOf : Lst YX7_shareOf LX7_shareOf := by unfold Lst; decide +kernel
def LX7_rightShare : LI := [(0, .aload_n 0, 1), (1, .iconst 0, 1), (2, .putfield 35, 3), (5, .iload_n 1, 1), (6, .invokestatic 46, 3), (9, .ifCond .eq 11, 3), (12, .aload_n 0, 1), (13, .iload_n 1, 1), (14, .invokevirtual 199, 3), (17, .goto 9, 3), (20, .aload_n 0, 1), (21, .iconst 1, 1), (22, .invokevirtual 53, 3), (25, .i2d, 1), (26, .dreturn, 1)]
set_option maxRecDepth 20000 in
theorem DX7_rightShare : Lst YX7_rightShare LX7_rightShare := by unfold Lst; decide +kernel
def LX7_mix : LI := [(0, .aload_n 0, 1), (1, .ldc2_w 203, 3), (4, .aload_n 0, 1), (5, .getfield 205, 3), (8, .lmul, 1), (9, .lload_n 1, 1), (10, .ladd, 1), (11, .putfield 205, 3), (14, .return_, 1)]
set_option maxRecDepth 20000 in
theorem DX7_mix : Lst YX7_mix LX7_mix := by unfold Lst; decide +kernel
def LX7_mixWay_0 : LI := [(0, .iconst 0, 1), (1, .istore_n 2, 1), (2, .iload_n 2, 1), (3, .bipush 8, 2), (5, .if_icmp .ge 95, 3), (8, .iconst 0, 1), (9, .istore_n 3, 1), (10, .iload_n 3, 1), (11, .bipush 7, 2), (13, .if_icmp .ge 27, 3), (16, .aload_n 0, 1), (17, .aload_n 0, 1), (18, .getfield 7, 3), (21, .aload_n 0, 1), (22, .iload_n 1, 1), (23, .iload_n 2, 1), (24, .invokevirtual 64, 3), (27, .iload_n 3, 1), (28, .iadd, 1), (29, .iaload, 1), (30, .i2l, 1), (31, .invokevirtual 209, 3), (34, .iinc 3 1, 3), (37, .goto (-27), 3), (40, .iconst 0, 1), (41, .istore_n 3, 1), (42, .iload_n 3, 1), (43, .bipush 11, 2), (45, .if_icmp .ge 27, 3), (48, .aload_n 0, 1), (49, .aload_n 0, 1), (50, .getfield 7, 3), (53, .aload_n 0, 1), (54, .iload_n 1, 1), (55, .iload_n 2, 1), (56, .invokevirtual 68, 3), (59, .iload_n 3, 1), (60, .iadd, 1), (61, .iaload, 1), (62, .i2l, 1), (63, .invokevirtual 209, 3), (66, .iinc 3 1, 3), (69, .goto (-27), 3), (72, .aload_n 0, 1), (73, .aload_n 0, 1), (74, .iload_n 1, 1), (75, .iload_n 2, 1), (76, .invokevirtual 172, 3), (79, .i2l, 1), (80, .invokevirtual 209, 3), (83, .aload_n 0, 1), (84, .aload_n 0, 1), (85, .iload_n 1, 1), (86, .iload_n 2, 1), (87, .invokevirtual 196, 3), (90, .i2l, 1), (91, .invokevirtual 209, 3), (94, .iinc 2 1, 3), (97, .goto (-95), 3), (100, .iconst 0, 1), (101, .istore_n 2, 1), (102, .iload_n 2, 1), (103, .aload_n 0, 1), (104, .getfield 7, 3), (107, .sipush 800, 3), (110, .iload_n 1, 1), (111, .iadd, 1), (112, .iaload, 1), (113, .if_icmp .ge 30, 3), (116, .aload_n 0, 1), (117, .aload_n 0, 1), (118, .getfield 7, 3), (121, .sipush 288, 3), (124, .sipush 256, 3), (127, .iload_n 1, 1), (128, .imul, 1), (129, .iadd, 1), (130, .iload_n 2, 1), (131, .iadd, 1), (132, .iaload, 1), (133, .i2l, 1), (134, .invokevirtual 209, 3), (137, .iinc 2 1, 3), (140, .goto (-38), 3), (143, .aload_n 0, 1), (144, .aload_n 0, 1), (145, .getfield 19, 3), (148, .iload_n 1, 1), (149, .laload, 1), (150, .invokevirtual 209, 3), (153, .iconst 0, 1), (154, .istore_n 2, 1), (155, .iload_n 2, 1), (156, .iconst 3, 1), (157, .if_icmp .ge 21, 3), (160, .aload_n 0, 1), (161, .aload_n 0, 1), (162, .iload_n 1, 1), (163, .iconst 5, 1), (164, .iload_n 2, 1), (165, .invokevirtual 181, 3), (168, .i2l, 1), (169, .invokevirtual 209, 3), (172, .iinc 2 1, 3), (175, .goto (-20), 3), (178, .aload_n 0, 1), (179, .aload_n 0, 1), (180, .iload_n 1, 1), (181, .bipush 12, 2), (183, .invokevirtual 184, 3), (186, .i2l, 1), (187, .invokevirtual 209, 3), (190, .aload_n 0, 1), (191, .aload_n 0, 1), (192, .iload_n 1, 1), (193, .invokevirtual 187, 3), (196, .i2l, 1), (197, .invokevirtual 209, 3), (200, .aload_n 0, 1), (201, .aload_n 0, 1)]
set_option maxRecDepth 20000 in
theorem DX7_mixWay_0 : Lst YX7_mixWay LX7_mixWay_0 := by unfold Lst; decide +kernel
def LX7_mixWay_1 : LI := [(202, .iload_n 1, 1), (203, .invokevirtual 193, 3), (206, .i2l, 1), (207, .invokevirtual 209, 3), (210, .aload_n 0, 1), (211, .aload_n 0, 1), (212, .iload_n 1, 1), (213, .invokevirtual 199, 3), (216, .invokestatic 213, 3), (219, .invokevirtual 209, 3), (222, .return_, 1)]
set_option maxRecDepth 20000 in
theorem DX7_mixWay_1 : Lst YX7_mixWay LX7_mixWay_1 := by unfold Lst; decide +kernel
def LX7_digest : LI := [(0, .aload_n 0, 1), (1, .iconst 0, 1), (2, .putfield 35, 3), (5, .aload_n 0, 1), (6, .ldc2_w 219, 3), (9, .putfield 205, 3), (12, .iconst 0, 1), (13, .istore_n 1, 1), (14, .iload_n 1, 1), (15, .bipush 13, 2), (17, .if_icmp .ge 19, 3), (20, .aload_n 0, 1), (21, .aload_n 0, 1), (22, .iload_n 1, 1), (23, .invokevirtual 169, 3), (26, .i2l, 1), (27, .invokevirtual 209, 3), (30, .iinc 1 1, 3), (33, .goto (-19), 3), (36, .iconst 0, 1), (37, .istore_n 1, 1), (38, .iload_n 1, 1), (39, .iconst 3, 1), (40, .if_icmp .ge 24, 3), (43, .aload_n 0, 1), (44, .aload_n 0, 1), (45, .getfield 7, 3), (48, .sipush 808, 3), (51, .iload_n 1, 1), (52, .iadd, 1), (53, .iaload, 1), (54, .i2l, 1), (55, .invokevirtual 209, 3), (58, .iinc 1 1, 3), (61, .goto (-23), 3), (64, .iconst 0, 1), (65, .istore_n 1, 1), (66, .iload_n 1, 1), (67, .iconst 2, 1), (68, .if_icmp .ge 14, 3), (71, .aload_n 0, 1), (72, .iload_n 1, 1), (73, .invokevirtual 221, 3), (76, .iinc 1 1, 3), (79, .goto (-13), 3), (82, .aload_n 0, 1), (83, .aload_n 0, 1), (84, .getfield 140, 3), (87, .i2l, 1), (88, .invokevirtual 209, 3), (91, .iconst 0, 1), (92, .istore_n 1, 1), (93, .iload_n 1, 1), (94, .aload_n 0, 1), (95, .getfield 140, 3), (98, .if_icmp .ge 20, 3), (101, .aload_n 0, 1), (102, .aload_n 0, 1), (103, .getfield 29, 3), (106, .iload_n 1, 1), (107, .iaload, 1), (108, .i2l, 1), (109, .invokevirtual 209, 3), (112, .iinc 1 1, 3), (115, .goto (-22), 3), (118, .aload_n 0, 1), (119, .getfield 205, 3), (122, .lreturn, 1)]
set_option maxRecDepth 20000 in
theorem DX7_digest : Lst YX7_digest LX7_digest := by unfold Lst; decide +kernel
def LJxe99ae_isNaN_b9ae7 : LI := [(0, .dload_n 0, 1), (1, .dload_n 0, 1), (2, .dcmp .l, 1), (3, .ifCond .eq 7, 3), (6, .iconst 1, 1), (7, .goto 4, 3), (10, .iconst 0, 1), (11, .ireturn, 1)]
set_option maxRecDepth 20000 in
theorem DJxe99ae_isNaN_b9ae7 : Lst YJxe99ae_isNaN_b9ae7 LJxe99ae_isNaN_b9ae7 := by unfold Lst; decide +kernel
def LJxe99ae_doubleToLongBits_ccdee : LI := [(0, .dload_n 0, 1), (1, .invokestatic 122, 3), (4, .ifCond .ne 8, 3), (7, .dload_n 0, 1), (8, .invokestatic 134, 3), (11, .lreturn, 1), (12, .ldc2_w 137, 3), (15, .lreturn, 1)]
set_option maxRecDepth 20000 in
theorem DJxe99ae_doubleToLongBits_ccdee : Lst YJxe99ae_doubleToLongBits_ccdee LJxe99ae_doubleToLongBits_ccdee := by unfold Lst; decide +kernel
def LJ6_bitCount_0f7a4 : LI := [(0, .iload_n 0, 1), (1, .iload_n 0, 1), (2, .iconst 1, 1), (3, .iushr, 1), (4, .ldc_w 265, 3), (7, .iand, 1), (8, .isub, 1), (9, .istore_n 0, 1), (10, .iload_n 0, 1), (11, .ldc_w 266, 3), (14, .iand, 1), (15, .iload_n 0, 1), (16, .iconst 2, 1), (17, .iushr, 1), (18, .ldc_w 266, 3), (21, .iand, 1), (22, .iadd, 1), (23, .istore_n 0, 1), (24, .iload_n 0, 1), (25, .iload_n 0, 1), (26, .iconst 4, 1), (27, .iushr, 1), (28, .iadd, 1), (29, .ldc_w 267, 3), (32, .iand, 1), (33, .istore_n 0, 1), (34, .iload_n 0, 1), (35, .iload_n 0, 1), (36, .bipush 8, 2), (38, .iushr, 1), (39, .iadd, 1), (40, .istore_n 0, 1), (41, .iload_n 0, 1), (42, .iload_n 0, 1), (43, .bipush 16, 2), (45, .iushr, 1), (46, .iadd, 1), (47, .istore_n 0, 1), (48, .iload_n 0, 1), (49, .bipush 63, 2), (51, .iand, 1), (52, .ireturn, 1)]
set_option maxRecDepth 20000 in
theorem DJ6_bitCount_0f7a4 : Lst YJ6_bitCount_0f7a4 LJ6_bitCount_0f7a4 := by unfold Lst; decide +kernel
def LJ9_floorMod_7cf53 : LI := [(0, .iload_n 0, 1), (1, .iload_n 1, 1), (2, .irem, 1), (3, .istore_n 2, 1), (4, .iload_n 0, 1), (5, .iload_n 1, 1), (6, .ixor, 1), (7, .ifCond .ge 11, 3), (10, .iload_n 2, 1), (11, .ifCond .eq 7, 3), (14, .iload_n 2, 1), (15, .iload_n 1, 1), (16, .iadd, 1), (17, .ireturn, 1), (18, .iload_n 2, 1), (19, .ireturn, 1)]
set_option maxRecDepth 20000 in
theorem DJ9_floorMod_7cf53 : Lst YJ9_floorMod_7cf53 LJ9_floorMod_7cf53 := by unfold Lst; decide +kernel
def LL_build : LI := [(0, .aload 5, 2), (2, .iconst 0, 1), (3, .aload_n 0, 1), (4, .iload_n 1, 1), (5, .iload_n 2, 1), (6, .iload_n 3, 1), (7, .iload 4, 2), (9, .invokevirtual 7, 3), (12, .i2l, 1), (13, .lastore, 1), (14, .goto 11, 3), (17, .astore 6, 2), (19, .iconst 1, 1), (20, .ireturn, 1), (21, .astore 6, 2), (23, .iconst 2, 1), (24, .ireturn, 1), (25, .iconst 0, 1), (26, .ireturn, 1)]
set_option maxRecDepth 20000 in
theorem DL_build : Lst YL_build LL_build := by unfold Lst; decide +kernel
def LL_carry : LI := [(0, .aload 4, 2), (2, .iconst 0, 1), (3, .aload_n 0, 1), (4, .iload_n 1, 1), (5, .iload_n 2, 1), (6, .iload_n 3, 1), (7, .invokevirtual 17, 3), (10, .i2l, 1), (11, .lastore, 1), (12, .goto 11, 3), (15, .astore 5, 2), (17, .iconst 1, 1), (18, .ireturn, 1), (19, .astore 5, 2), (21, .iconst 2, 1), (22, .ireturn, 1), (23, .iconst 0, 1), (24, .ireturn, 1)]
set_option maxRecDepth 20000 in
theorem DL_carry : Lst YL_carry LL_carry := by unfold Lst; decide +kernel
def LL_insult : LI := [(0, .aload 4, 2), (2, .iconst 0, 1), (3, .aload_n 0, 1), (4, .iload_n 1, 1), (5, .iload_n 2, 1), (6, .iload_n 3, 1), (7, .invokevirtual 21, 3), (10, .i2l, 1), (11, .lastore, 1), (12, .goto 15, 3), (15, .astore 5, 2), (17, .iconst 1, 1), (18, .ireturn, 1), (19, .astore 5, 2), (21, .iconst 2, 1), (22, .ireturn, 1), (23, .astore 5, 2), (25, .iconst 3, 1), (26, .ireturn, 1), (27, .iconst 0, 1), (28, .ireturn, 1)]
set_option maxRecDepth 20000 in
theorem DL_insult : Lst YL_insult LL_insult := by unfold Lst; decide +kernel
def LL_set : LI := [(0, .aload_n 3, 1), (1, .iconst 0, 1), (2, .aload_n 0, 1), (3, .iload_n 1, 1), (4, .iload_n 2, 1), (5, .invokevirtual 26, 3), (8, .i2l, 1), (9, .lastore, 1), (10, .goto 11, 3), (13, .astore 4, 2), (15, .iconst 1, 1), (16, .ireturn, 1), (17, .astore 4, 2), (19, .iconst 2, 1), (20, .ireturn, 1), (21, .iconst 0, 1), (22, .ireturn, 1)]
set_option maxRecDepth 20000 in
theorem DL_set : Lst YL_set LL_set := by unfold Lst; decide +kernel
def LL_learn : LI := [(0, .aload_n 3, 1), (1, .iconst 0, 1), (2, .aload_n 0, 1), (3, .iload_n 1, 1), (4, .iload_n 2, 1), (5, .invokevirtual 30, 3), (8, .i2l, 1), (9, .lastore, 1), (10, .goto 15, 3), (13, .astore 4, 2), (15, .iconst 1, 1), (16, .ireturn, 1), (17, .astore 4, 2), (19, .iconst 2, 1), (20, .ireturn, 1), (21, .astore 4, 2), (23, .iconst 3, 1), (24, .ireturn, 1), (25, .iconst 0, 1), (26, .ireturn, 1)]
set_option maxRecDepth 20000 in
theorem DL_learn : Lst YL_learn LL_learn := by unfold Lst; decide +kernel
def LL_send : LI := [(0, .aload_n 3, 1), (1, .iconst 0, 1), (2, .aload_n 0, 1), (3, .iload_n 1, 1), (4, .iload_n 2, 1), (5, .invokevirtual 33, 3), (8, .i2l, 1), (9, .lastore, 1), (10, .goto 15, 3), (13, .astore 4, 2), (15, .iconst 1, 1), (16, .ireturn, 1), (17, .astore 4, 2), (19, .iconst 2, 1), (20, .ireturn, 1), (21, .astore 4, 2), (23, .iconst 3, 1), (24, .ireturn, 1), (25, .iconst 0, 1), (26, .ireturn, 1)]
set_option maxRecDepth 20000 in
theorem DL_send : Lst YL_send LL_send := by unfold Lst; decide +kernel
def LL_forget : LI := [(0, .aload_n 2, 1), (1, .iconst 0, 1), (2, .aload_n 0, 1), (3, .iload_n 1, 1), (4, .invokevirtual 36, 3), (7, .i2l, 1), (8, .lastore, 1), (9, .goto 6, 3), (12, .astore_n 3, 1), (13, .iconst 1, 1), (14, .ireturn, 1), (15, .iconst 0, 1), (16, .ireturn, 1)]
set_option maxRecDepth 20000 in
theorem DL_forget : Lst YL_forget LL_forget := by unfold Lst; decide +kernel
def LL_append : LI := [(0, .aload_n 2, 1), (1, .iconst 0, 1), (2, .aload_n 0, 1), (3, .iload_n 1, 1), (4, .invokevirtual 40, 3), (7, .i2l, 1), (8, .lastore, 1), (9, .goto 9, 3), (12, .astore_n 3, 1), (13, .iconst 1, 1), (14, .ireturn, 1), (15, .astore_n 3, 1), (16, .iconst 2, 1), (17, .ireturn, 1), (18, .iconst 0, 1), (19, .ireturn, 1)]
set_option maxRecDepth 20000 in
theorem DL_append : Lst YL_append LL_append := by unfold Lst; decide +kernel
def LL_say : LI := [(0, .aload_n 1, 1), (1, .iconst 0, 1), (2, .aload_n 0, 1), (3, .invokevirtual 43, 3), (6, .i2l, 1), (7, .lastore, 1), (8, .goto 9, 3), (11, .astore_n 2, 1), (12, .iconst 1, 1), (13, .ireturn, 1), (14, .astore_n 2, 1), (15, .iconst 2, 1), (16, .ireturn, 1), (17, .iconst 0, 1), (18, .ireturn, 1)]
set_option maxRecDepth 20000 in
theorem DL_say : Lst YL_say LL_say := by unfold Lst; decide +kernel
def LL_undo : LI := [(0, .aload_n 1, 1), (1, .iconst 0, 1), (2, .aload_n 0, 1), (3, .invokevirtual 47, 3), (6, .i2l, 1), (7, .lastore, 1), (8, .goto 6, 3), (11, .astore_n 2, 1), (12, .iconst 1, 1), (13, .ireturn, 1), (14, .iconst 0, 1), (15, .ireturn, 1)]
set_option maxRecDepth 20000 in
theorem DL_undo : Lst YL_undo LL_undo := by unfold Lst; decide +kernel
def LL_street : LI := [(0, .aload 4, 2), (2, .iconst 0, 1), (3, .aload_n 0, 1), (4, .iload_n 1, 1), (5, .iload_n 2, 1), (6, .iload_n 3, 1), (7, .invokevirtual 50, 3), (10, .i2l, 1), (11, .lastore, 1), (12, .goto 11, 3), (15, .astore 5, 2), (17, .iconst 1, 1), (18, .ireturn, 1), (19, .astore 5, 2), (21, .iconst 2, 1), (22, .ireturn, 1), (23, .iconst 0, 1), (24, .ireturn, 1)]
set_option maxRecDepth 20000 in
theorem DL_street : Lst YL_street LL_street := by unfold Lst; decide +kernel
def LL_accent : LI := [(0, .aload 4, 2), (2, .iconst 0, 1), (3, .aload_n 0, 1), (4, .iload_n 1, 1), (5, .iload_n 2, 1), (6, .iload_n 3, 1), (7, .invokevirtual 53, 3), (10, .i2l, 1), (11, .lastore, 1), (12, .goto 11, 3), (15, .astore 5, 2), (17, .iconst 1, 1), (18, .ireturn, 1), (19, .astore 5, 2), (21, .iconst 2, 1), (22, .ireturn, 1), (23, .iconst 0, 1), (24, .ireturn, 1)]
set_option maxRecDepth 20000 in
theorem DL_accent : Lst YL_accent LL_accent := by unfold Lst; decide +kernel
def LL_waits : LI := [(0, .aload_n 3, 1), (1, .iconst 0, 1), (2, .aload_n 0, 1), (3, .iload_n 1, 1), (4, .iload_n 2, 1), (5, .invokevirtual 56, 3), (8, .i2l, 1), (9, .lastore, 1), (10, .goto 7, 3), (13, .astore 4, 2), (15, .iconst 1, 1), (16, .ireturn, 1), (17, .iconst 0, 1), (18, .ireturn, 1)]
set_option maxRecDepth 20000 in
theorem DL_waits : Lst YL_waits LL_waits := by unfold Lst; decide +kernel
def LL_had : LI := [(0, .aload_n 2, 1), (1, .iconst 0, 1), (2, .aload_n 0, 1), (3, .iload_n 1, 1), (4, .invokevirtual 59, 3), (7, .lastore, 1), (8, .goto 6, 3), (11, .astore_n 3, 1), (12, .iconst 1, 1), (13, .ireturn, 1), (14, .iconst 0, 1), (15, .ireturn, 1)]
set_option maxRecDepth 20000 in
theorem DL_had : Lst YL_had LL_had := by unfold Lst; decide +kernel
def LL_count : LI := [(0, .aload_n 2, 1), (1, .iconst 0, 1), (2, .aload_n 0, 1), (3, .iload_n 1, 1), (4, .invokevirtual 63, 3), (7, .i2l, 1), (8, .lastore, 1), (9, .goto 6, 3), (12, .astore_n 3, 1), (13, .iconst 1, 1), (14, .ireturn, 1), (15, .iconst 0, 1), (16, .ireturn, 1)]
set_option maxRecDepth 20000 in
theorem DL_count : Lst YL_count LL_count := by unfold Lst; decide +kernel
def LL_setting : LI := [(0, .aload_n 2, 1), (1, .iconst 0, 1), (2, .aload_n 0, 1), (3, .iload_n 1, 1), (4, .invokevirtual 66, 3), (7, .i2l, 1), (8, .lastore, 1), (9, .goto 6, 3), (12, .astore_n 3, 1), (13, .iconst 1, 1), (14, .ireturn, 1), (15, .iconst 0, 1), (16, .ireturn, 1)]
set_option maxRecDepth 20000 in
theorem DL_setting : Lst YL_setting LL_setting := by unfold Lst; decide +kernel
def LL_sure : LI := [(0, .aload_n 3, 1), (1, .iconst 0, 1), (2, .aload_n 0, 1), (3, .iload_n 1, 1), (4, .iload_n 2, 1), (5, .invokevirtual 69, 3), (8, .i2l, 1), (9, .lastore, 1), (10, .goto 7, 3), (13, .astore 4, 2), (15, .iconst 1, 1), (16, .ireturn, 1), (17, .iconst 0, 1), (18, .ireturn, 1)]
set_option maxRecDepth 20000 in
theorem DL_sure : Lst YL_sure LL_sure := by unfold Lst; decide +kernel
def LL_ifSent : LI := [(0, .aload 4, 2), (2, .iconst 0, 1), (3, .aload_n 0, 1), (4, .iload_n 1, 1), (5, .iload_n 2, 1), (6, .iload_n 3, 1), (7, .invokevirtual 72, 3), (10, .i2l, 1), (11, .lastore, 1), (12, .goto 11, 3), (15, .astore 5, 2), (17, .iconst 1, 1), (18, .ireturn, 1), (19, .astore 5, 2), (21, .iconst 2, 1), (22, .ireturn, 1), (23, .iconst 0, 1), (24, .ireturn, 1)]
set_option maxRecDepth 20000 in
theorem DL_ifSent : Lst YL_ifSent LL_ifSent := by unfold Lst; decide +kernel
def LL_ifLearned : LI := [(0, .aload_n 3, 1), (1, .iconst 0, 1), (2, .aload_n 0, 1), (3, .iload_n 1, 1), (4, .iload_n 2, 1), (5, .invokevirtual 75, 3), (8, .i2l, 1), (9, .lastore, 1), (10, .goto 11, 3), (13, .astore 4, 2), (15, .iconst 1, 1), (16, .ireturn, 1), (17, .astore 4, 2), (19, .iconst 2, 1), (20, .ireturn, 1), (21, .iconst 0, 1), (22, .ireturn, 1)]
set_option maxRecDepth 20000 in
theorem DL_ifLearned : Lst YL_ifLearned LL_ifLearned := by unfold Lst; decide +kernel
def LL_beatsFor : LI := [(0, .aload_n 2, 1), (1, .iconst 0, 1), (2, .aload_n 0, 1), (3, .iload_n 1, 1), (4, .invokevirtual 78, 3), (7, .i2l, 1), (8, .lastore, 1), (9, .goto 6, 3), (12, .astore_n 3, 1), (13, .iconst 1, 1), (14, .ireturn, 1), (15, .iconst 0, 1), (16, .ireturn, 1)]
set_option maxRecDepth 20000 in
theorem DL_beatsFor : Lst YL_beatsFor LL_beatsFor := by unfold Lst; decide +kernel
def LL_bestLesson : LI := [(0, .aload_n 2, 1), (1, .iconst 0, 1), (2, .aload_n 0, 1), (3, .iload_n 1, 1), (4, .invokevirtual 81, 3), (7, .i2l, 1), (8, .lastore, 1), (9, .goto 6, 3), (12, .astore_n 3, 1), (13, .iconst 1, 1), (14, .ireturn, 1), (15, .iconst 0, 1), (16, .ireturn, 1)]
set_option maxRecDepth 20000 in
theorem DL_bestLesson : Lst YL_bestLesson LL_bestLesson := by unfold Lst; decide +kernel
def LL_hurts : LI := [(0, .aload_n 3, 1), (1, .iconst 0, 1), (2, .aload_n 0, 1), (3, .iload_n 1, 1), (4, .iload_n 2, 1), (5, .invokevirtual 84, 3), (8, .i2l, 1), (9, .lastore, 1), (10, .goto 7, 3), (13, .astore 4, 2), (15, .iconst 1, 1), (16, .ireturn, 1), (17, .iconst 0, 1), (18, .ireturn, 1)]
set_option maxRecDepth 20000 in
theorem DL_hurts : Lst YL_hurts LL_hurts := by unfold Lst; decide +kernel
def LL_rightShare : LI := [(0, .aload_n 2, 1), (1, .iconst 0, 1), (2, .aload_n 0, 1), (3, .iload_n 1, 1), (4, .invokevirtual 87, 3), (7, .dastore, 1), (8, .goto 6, 3), (11, .astore_n 3, 1), (12, .iconst 1, 1), (13, .ireturn, 1), (14, .iconst 0, 1), (15, .ireturn, 1)]
set_option maxRecDepth 20000 in
theorem DL_rightShare : Lst YL_rightShare LL_rightShare := by unfold Lst; decide +kernel
def LL_law_0 : LI := [(0, .new 8, 3), (3, .dup, 1), (4, .invokespecial 91, 3), (7, .astore_n 1, 1), (8, .new 92, 3), (11, .dup, 1), (12, .invokespecial 94, 3), (15, .astore_n 2, 1), (16, .iconst 1, 1), (17, .newarray .long, 2), (19, .astore_n 3, 1), (20, .iconst 1, 1), (21, .newarray .double, 2), (23, .astore 4, 2), (25, .iconst 0, 1), (26, .istore 5, 2), (28, .iload 5, 2), (30, .aload_n 0, 1), (31, .arraylength, 1), (32, .iconst 5, 1), (33, .isub, 1), (34, .if_icmp .gt 1700, 3), (37, .aload_n 0, 1), (38, .iload 5, 2), (40, .iaload, 1), (41, .bipush 31, 2), (43, .iand, 1), (44, .tableswitch 1684 0 25 #[120, 212, 292, 372, 440, 508, 576, 632, 688, 701, 714, 758, 802, 882, 962, 1030, 1085, 1141, 1197, 1265, 1345, 1413, 1469, 1525, 1593, 1670], 120), (164, .aload_n 1, 1), (165, .aload_n 0, 1), (166, .iload 5, 2), (168, .iconst 1, 1), (169, .iadd, 1), (170, .iaload, 1), (171, .aload_n 0, 1), (172, .iload 5, 2), (174, .iconst 2, 1), (175, .iadd, 1), (176, .iaload, 1), (177, .aload_n 0, 1), (178, .iload 5, 2), (180, .iconst 3, 1), (181, .iadd, 1), (182, .iaload, 1), (183, .aload_n 0, 1), (184, .iload 5, 2), (186, .iconst 4, 1), (187, .iadd, 1), (188, .iaload, 1), (189, .aload_n 3, 1), (190, .invokestatic 95, 3), (193, .istore 6, 2), (195, .aload_n 2, 1), (196, .aload_n 0, 1), (197, .iload 5, 2), (199, .iconst 1, 1), (200, .iadd, 1), (201, .iaload, 1), (202, .aload_n 0, 1), (203, .iload 5, 2), (205, .iconst 2, 1), (206, .iadd, 1), (207, .iaload, 1), (208, .aload_n 0, 1), (209, .iload 5, 2), (211, .iconst 3, 1), (212, .iadd, 1), (213, .iaload, 1), (214, .aload_n 0, 1), (215, .iload 5, 2), (217, .iconst 4, 1), (218, .iadd, 1), (219, .iaload, 1), (220, .invokevirtual 100, 3), (223, .istore 7, 2), (225, .aload_n 2, 1), (226, .invokevirtual 101, 3), (229, .iload 6, 2), (231, .if_icmp .eq 5, 3), (234, .iconst 0, 1), (235, .ireturn, 1), (236, .iload 6, 2), (238, .ifCond .ne 15, 3), (241, .aload_n 3, 1), (242, .iconst 0, 1), (243, .laload, 1), (244, .iload 7, 2), (246, .i2l, 1), (247, .lcmp, 1), (248, .ifCond .eq 5, 3), (251, .iconst 0, 1), (252, .ireturn, 1), (253, .goto 1475, 3), (256, .aload_n 1, 1), (257, .aload_n 0, 1), (258, .iload 5, 2), (260, .iconst 1, 1), (261, .iadd, 1), (262, .iaload, 1), (263, .aload_n 0, 1), (264, .iload 5, 2), (266, .iconst 2, 1), (267, .iadd, 1), (268, .iaload, 1), (269, .aload_n 0, 1), (270, .iload 5, 2), (272, .iconst 3, 1), (273, .iadd, 1), (274, .iaload, 1), (275, .aload_n 3, 1), (276, .invokestatic 104, 3), (279, .istore 6, 2), (281, .aload_n 2, 1), (282, .aload_n 0, 1), (283, .iload 5, 2), (285, .iconst 1, 1), (286, .iadd, 1), (287, .iaload, 1), (288, .aload_n 0, 1), (289, .iload 5, 2)]
set_option maxRecDepth 20000 in
theorem DL_law_0 : Lst YL_law LL_law_0 := by unfold Lst; decide +kernel
def LL_law_1 : LI := [(291, .iconst 2, 1), (292, .iadd, 1), (293, .iaload, 1), (294, .aload_n 0, 1), (295, .iload 5, 2), (297, .iconst 3, 1), (298, .iadd, 1), (299, .iaload, 1), (300, .invokevirtual 107, 3), (303, .istore 7, 2), (305, .aload_n 2, 1), (306, .invokevirtual 101, 3), (309, .iload 6, 2), (311, .if_icmp .eq 5, 3), (314, .iconst 0, 1), (315, .ireturn, 1), (316, .iload 6, 2), (318, .ifCond .ne 15, 3), (321, .aload_n 3, 1), (322, .iconst 0, 1), (323, .laload, 1), (324, .iload 7, 2), (326, .i2l, 1), (327, .lcmp, 1), (328, .ifCond .eq 5, 3), (331, .iconst 0, 1), (332, .ireturn, 1), (333, .goto 1395, 3), (336, .aload_n 1, 1), (337, .aload_n 0, 1), (338, .iload 5, 2), (340, .iconst 1, 1), (341, .iadd, 1), (342, .iaload, 1), (343, .aload_n 0, 1), (344, .iload 5, 2), (346, .iconst 2, 1), (347, .iadd, 1), (348, .iaload, 1), (349, .aload_n 0, 1), (350, .iload 5, 2), (352, .iconst 3, 1), (353, .iadd, 1), (354, .iaload, 1), (355, .aload_n 3, 1), (356, .invokestatic 108, 3), (359, .istore 6, 2), (361, .aload_n 2, 1), (362, .aload_n 0, 1), (363, .iload 5, 2), (365, .iconst 1, 1), (366, .iadd, 1), (367, .iaload, 1), (368, .aload_n 0, 1), (369, .iload 5, 2), (371, .iconst 2, 1), (372, .iadd, 1), (373, .iaload, 1), (374, .aload_n 0, 1), (375, .iload 5, 2), (377, .iconst 3, 1), (378, .iadd, 1), (379, .iaload, 1), (380, .invokevirtual 110, 3), (383, .istore 7, 2), (385, .aload_n 2, 1), (386, .invokevirtual 101, 3), (389, .iload 6, 2), (391, .if_icmp .eq 5, 3), (394, .iconst 0, 1), (395, .ireturn, 1), (396, .iload 6, 2), (398, .ifCond .ne 15, 3), (401, .aload_n 3, 1), (402, .iconst 0, 1), (403, .laload, 1), (404, .iload 7, 2), (406, .i2l, 1), (407, .lcmp, 1), (408, .ifCond .eq 5, 3), (411, .iconst 0, 1), (412, .ireturn, 1), (413, .goto 1315, 3), (416, .aload_n 1, 1), (417, .aload_n 0, 1), (418, .iload 5, 2), (420, .iconst 1, 1), (421, .iadd, 1), (422, .iaload, 1), (423, .aload_n 0, 1), (424, .iload 5, 2), (426, .iconst 2, 1), (427, .iadd, 1), (428, .iaload, 1), (429, .aload_n 3, 1), (430, .invokestatic 111, 3), (433, .istore 6, 2), (435, .aload_n 2, 1), (436, .aload_n 0, 1), (437, .iload 5, 2), (439, .iconst 1, 1), (440, .iadd, 1), (441, .iaload, 1), (442, .aload_n 0, 1), (443, .iload 5, 2), (445, .iconst 2, 1), (446, .iadd, 1), (447, .iaload, 1), (448, .invokevirtual 114, 3), (451, .istore 7, 2), (453, .aload_n 2, 1), (454, .invokevirtual 101, 3), (457, .iload 6, 2), (459, .if_icmp .eq 5, 3), (462, .iconst 0, 1), (463, .ireturn, 1), (464, .iload 6, 2), (466, .ifCond .ne 15, 3), (469, .aload_n 3, 1), (470, .iconst 0, 1)]
set_option maxRecDepth 20000 in
theorem DL_law_1 : Lst YL_law LL_law_1 := by unfold Lst; decide +kernel
def LL_law_2 : LI := [(471, .laload, 1), (472, .iload 7, 2), (474, .i2l, 1), (475, .lcmp, 1), (476, .ifCond .eq 5, 3), (479, .iconst 0, 1), (480, .ireturn, 1), (481, .goto 1247, 3), (484, .aload_n 1, 1), (485, .aload_n 0, 1), (486, .iload 5, 2), (488, .iconst 1, 1), (489, .iadd, 1), (490, .iaload, 1), (491, .aload_n 0, 1), (492, .iload 5, 2), (494, .iconst 2, 1), (495, .iadd, 1), (496, .iaload, 1), (497, .aload_n 3, 1), (498, .invokestatic 115, 3), (501, .istore 6, 2), (503, .aload_n 2, 1), (504, .aload_n 0, 1), (505, .iload 5, 2), (507, .iconst 1, 1), (508, .iadd, 1), (509, .iaload, 1), (510, .aload_n 0, 1), (511, .iload 5, 2), (513, .iconst 2, 1), (514, .iadd, 1), (515, .iaload, 1), (516, .invokevirtual 117, 3), (519, .istore 7, 2), (521, .aload_n 2, 1), (522, .invokevirtual 101, 3), (525, .iload 6, 2), (527, .if_icmp .eq 5, 3), (530, .iconst 0, 1), (531, .ireturn, 1), (532, .iload 6, 2), (534, .ifCond .ne 15, 3), (537, .aload_n 3, 1), (538, .iconst 0, 1), (539, .laload, 1), (540, .iload 7, 2), (542, .i2l, 1), (543, .lcmp, 1), (544, .ifCond .eq 5, 3), (547, .iconst 0, 1), (548, .ireturn, 1), (549, .goto 1179, 3), (552, .aload_n 1, 1), (553, .aload_n 0, 1), (554, .iload 5, 2), (556, .iconst 1, 1), (557, .iadd, 1), (558, .iaload, 1), (559, .aload_n 0, 1), (560, .iload 5, 2), (562, .iconst 2, 1), (563, .iadd, 1), (564, .iaload, 1), (565, .aload_n 3, 1), (566, .invokestatic 118, 3), (569, .istore 6, 2), (571, .aload_n 2, 1), (572, .aload_n 0, 1), (573, .iload 5, 2), (575, .iconst 1, 1), (576, .iadd, 1), (577, .iaload, 1), (578, .aload_n 0, 1), (579, .iload 5, 2), (581, .iconst 2, 1), (582, .iadd, 1), (583, .iaload, 1), (584, .invokevirtual 120, 3), (587, .istore 7, 2), (589, .aload_n 2, 1), (590, .invokevirtual 101, 3), (593, .iload 6, 2), (595, .if_icmp .eq 5, 3), (598, .iconst 0, 1), (599, .ireturn, 1), (600, .iload 6, 2), (602, .ifCond .ne 15, 3), (605, .aload_n 3, 1), (606, .iconst 0, 1), (607, .laload, 1), (608, .iload 7, 2), (610, .i2l, 1), (611, .lcmp, 1), (612, .ifCond .eq 5, 3), (615, .iconst 0, 1), (616, .ireturn, 1), (617, .goto 1111, 3), (620, .aload_n 1, 1), (621, .aload_n 0, 1), (622, .iload 5, 2), (624, .iconst 1, 1), (625, .iadd, 1), (626, .iaload, 1), (627, .aload_n 3, 1), (628, .invokestatic 121, 3), (631, .istore 6, 2), (633, .aload_n 2, 1), (634, .aload_n 0, 1), (635, .iload 5, 2), (637, .iconst 1, 1), (638, .iadd, 1), (639, .iaload, 1), (640, .invokevirtual 124, 3), (643, .istore 7, 2), (645, .aload_n 2, 1), (646, .invokevirtual 101, 3), (649, .iload 6, 2), (651, .if_icmp .eq 5, 3), (654, .iconst 0, 1)]
set_option maxRecDepth 20000 in
theorem DL_law_2 : Lst YL_law LL_law_2 := by unfold Lst; decide +kernel
def LL_law_3 : LI := [(655, .ireturn, 1), (656, .iload 6, 2), (658, .ifCond .ne 15, 3), (661, .aload_n 3, 1), (662, .iconst 0, 1), (663, .laload, 1), (664, .iload 7, 2), (666, .i2l, 1), (667, .lcmp, 1), (668, .ifCond .eq 5, 3), (671, .iconst 0, 1), (672, .ireturn, 1), (673, .goto 1055, 3), (676, .aload_n 1, 1), (677, .aload_n 0, 1), (678, .iload 5, 2), (680, .iconst 1, 1), (681, .iadd, 1), (682, .iaload, 1), (683, .aload_n 3, 1), (684, .invokestatic 125, 3), (687, .istore 6, 2), (689, .aload_n 2, 1), (690, .aload_n 0, 1), (691, .iload 5, 2), (693, .iconst 1, 1), (694, .iadd, 1), (695, .iaload, 1), (696, .invokevirtual 127, 3), (699, .istore 7, 2), (701, .aload_n 2, 1), (702, .invokevirtual 101, 3), (705, .iload 6, 2), (707, .if_icmp .eq 5, 3), (710, .iconst 0, 1), (711, .ireturn, 1), (712, .iload 6, 2), (714, .ifCond .ne 15, 3), (717, .aload_n 3, 1), (718, .iconst 0, 1), (719, .laload, 1), (720, .iload 7, 2), (722, .i2l, 1), (723, .lcmp, 1), (724, .ifCond .eq 5, 3), (727, .iconst 0, 1), (728, .ireturn, 1), (729, .goto 999, 3), (732, .aload_n 1, 1), (733, .invokevirtual 128, 3), (736, .aload_n 2, 1), (737, .invokevirtual 131, 3), (740, .if_icmp .eq 988, 3), (743, .iconst 0, 1), (744, .ireturn, 1), (745, .aload_n 1, 1), (746, .invokevirtual 132, 3), (749, .aload_n 2, 1), (750, .invokevirtual 135, 3), (753, .if_icmp .eq 975, 3), (756, .iconst 0, 1), (757, .ireturn, 1), (758, .aload_n 1, 1), (759, .aload_n 3, 1), (760, .invokestatic 136, 3), (763, .istore 6, 2), (765, .aload_n 2, 1), (766, .invokevirtual 139, 3), (769, .istore 7, 2), (771, .aload_n 2, 1), (772, .invokevirtual 101, 3), (775, .iload 6, 2), (777, .if_icmp .eq 5, 3), (780, .iconst 0, 1), (781, .ireturn, 1), (782, .iload 6, 2), (784, .ifCond .ne 15, 3), (787, .aload_n 3, 1), (788, .iconst 0, 1), (789, .laload, 1), (790, .iload 7, 2), (792, .i2l, 1), (793, .lcmp, 1), (794, .ifCond .eq 5, 3), (797, .iconst 0, 1), (798, .ireturn, 1), (799, .goto 929, 3), (802, .aload_n 1, 1), (803, .aload_n 3, 1), (804, .invokestatic 140, 3), (807, .istore 6, 2), (809, .aload_n 2, 1), (810, .invokevirtual 142, 3), (813, .istore 7, 2), (815, .aload_n 2, 1), (816, .invokevirtual 101, 3), (819, .iload 6, 2), (821, .if_icmp .eq 5, 3), (824, .iconst 0, 1), (825, .ireturn, 1), (826, .iload 6, 2), (828, .ifCond .ne 15, 3), (831, .aload_n 3, 1), (832, .iconst 0, 1), (833, .laload, 1), (834, .iload 7, 2), (836, .i2l, 1), (837, .lcmp, 1), (838, .ifCond .eq 5, 3), (841, .iconst 0, 1), (842, .ireturn, 1), (843, .goto 885, 3), (846, .aload_n 1, 1), (847, .aload_n 0, 1), (848, .iload 5, 2), (850, .iconst 1, 1), (851, .iadd, 1), (852, .iaload, 1), (853, .aload_n 0, 1), (854, .iload 5, 2)]
set_option maxRecDepth 20000 in
theorem DL_law_3 : Lst YL_law LL_law_3 := by unfold Lst; decide +kernel
def LL_law_4 : LI := [(856, .iconst 2, 1), (857, .iadd, 1), (858, .iaload, 1), (859, .aload_n 0, 1), (860, .iload 5, 2), (862, .iconst 3, 1), (863, .iadd, 1), (864, .iaload, 1), (865, .aload_n 3, 1), (866, .invokestatic 143, 3), (869, .istore 6, 2), (871, .aload_n 2, 1), (872, .aload_n 0, 1), (873, .iload 5, 2), (875, .iconst 1, 1), (876, .iadd, 1), (877, .iaload, 1), (878, .aload_n 0, 1), (879, .iload 5, 2), (881, .iconst 2, 1), (882, .iadd, 1), (883, .iaload, 1), (884, .aload_n 0, 1), (885, .iload 5, 2), (887, .iconst 3, 1), (888, .iadd, 1), (889, .iaload, 1), (890, .invokevirtual 145, 3), (893, .istore 7, 2), (895, .aload_n 2, 1), (896, .invokevirtual 101, 3), (899, .iload 6, 2), (901, .if_icmp .eq 5, 3), (904, .iconst 0, 1), (905, .ireturn, 1), (906, .iload 6, 2), (908, .ifCond .ne 15, 3), (911, .aload_n 3, 1), (912, .iconst 0, 1), (913, .laload, 1), (914, .iload 7, 2), (916, .i2l, 1), (917, .lcmp, 1), (918, .ifCond .eq 5, 3), (921, .iconst 0, 1), (922, .ireturn, 1), (923, .goto 805, 3), (926, .aload_n 1, 1), (927, .aload_n 0, 1), (928, .iload 5, 2), (930, .iconst 1, 1), (931, .iadd, 1), (932, .iaload, 1), (933, .aload_n 0, 1), (934, .iload 5, 2), (936, .iconst 2, 1), (937, .iadd, 1), (938, .iaload, 1), (939, .aload_n 0, 1), (940, .iload 5, 2), (942, .iconst 3, 1), (943, .iadd, 1), (944, .iaload, 1), (945, .aload_n 3, 1), (946, .invokestatic 146, 3), (949, .istore 6, 2), (951, .aload_n 2, 1), (952, .aload_n 0, 1), (953, .iload 5, 2), (955, .iconst 1, 1), (956, .iadd, 1), (957, .iaload, 1), (958, .aload_n 0, 1), (959, .iload 5, 2), (961, .iconst 2, 1), (962, .iadd, 1), (963, .iaload, 1), (964, .aload_n 0, 1), (965, .iload 5, 2), (967, .iconst 3, 1), (968, .iadd, 1), (969, .iaload, 1), (970, .invokevirtual 148, 3), (973, .istore 7, 2), (975, .aload_n 2, 1), (976, .invokevirtual 101, 3), (979, .iload 6, 2), (981, .if_icmp .eq 5, 3), (984, .iconst 0, 1), (985, .ireturn, 1), (986, .iload 6, 2), (988, .ifCond .ne 15, 3), (991, .aload_n 3, 1), (992, .iconst 0, 1), (993, .laload, 1), (994, .iload 7, 2), (996, .i2l, 1), (997, .lcmp, 1), (998, .ifCond .eq 5, 3), (1001, .iconst 0, 1), (1002, .ireturn, 1), (1003, .goto 725, 3), (1006, .aload_n 1, 1), (1007, .aload_n 0, 1), (1008, .iload 5, 2), (1010, .iconst 1, 1), (1011, .iadd, 1), (1012, .iaload, 1), (1013, .aload_n 0, 1), (1014, .iload 5, 2), (1016, .iconst 2, 1), (1017, .iadd, 1), (1018, .iaload, 1), (1019, .aload_n 3, 1), (1020, .invokestatic 149, 3), (1023, .istore 6, 2), (1025, .aload_n 2, 1), (1026, .aload_n 0, 1), (1027, .iload 5, 2), (1029, .iconst 1, 1)]
set_option maxRecDepth 20000 in
theorem DL_law_4 : Lst YL_law LL_law_4 := by unfold Lst; decide +kernel
def LL_law_5 : LI := [(1030, .iadd, 1), (1031, .iaload, 1), (1032, .aload_n 0, 1), (1033, .iload 5, 2), (1035, .iconst 2, 1), (1036, .iadd, 1), (1037, .iaload, 1), (1038, .invokevirtual 151, 3), (1041, .istore 7, 2), (1043, .aload_n 2, 1), (1044, .invokevirtual 101, 3), (1047, .iload 6, 2), (1049, .if_icmp .eq 5, 3), (1052, .iconst 0, 1), (1053, .ireturn, 1), (1054, .iload 6, 2), (1056, .ifCond .ne 15, 3), (1059, .aload_n 3, 1), (1060, .iconst 0, 1), (1061, .laload, 1), (1062, .iload 7, 2), (1064, .i2l, 1), (1065, .lcmp, 1), (1066, .ifCond .eq 5, 3), (1069, .iconst 0, 1), (1070, .ireturn, 1), (1071, .goto 657, 3), (1074, .aload_n 1, 1), (1075, .aload_n 0, 1), (1076, .iload 5, 2), (1078, .iconst 1, 1), (1079, .iadd, 1), (1080, .iaload, 1), (1081, .aload_n 3, 1), (1082, .invokestatic 152, 3), (1085, .istore 6, 2), (1087, .aload_n 2, 1), (1088, .aload_n 0, 1), (1089, .iload 5, 2), (1091, .iconst 1, 1), (1092, .iadd, 1), (1093, .iaload, 1), (1094, .invokevirtual 154, 3), (1097, .lstore 7, 2), (1099, .aload_n 2, 1), (1100, .invokevirtual 101, 3), (1103, .iload 6, 2), (1105, .if_icmp .eq 5, 3), (1108, .iconst 0, 1), (1109, .ireturn, 1), (1110, .iload 6, 2), (1112, .ifCond .ne 14, 3), (1115, .aload_n 3, 1), (1116, .iconst 0, 1), (1117, .laload, 1), (1118, .lload 7, 2), (1120, .lcmp, 1), (1121, .ifCond .eq 5, 3), (1124, .iconst 0, 1), (1125, .ireturn, 1), (1126, .goto 602, 3), (1129, .aload_n 1, 1), (1130, .aload_n 0, 1), (1131, .iload 5, 2), (1133, .iconst 1, 1), (1134, .iadd, 1), (1135, .iaload, 1), (1136, .aload_n 3, 1), (1137, .invokestatic 155, 3), (1140, .istore 6, 2), (1142, .aload_n 2, 1), (1143, .aload_n 0, 1), (1144, .iload 5, 2), (1146, .iconst 1, 1), (1147, .iadd, 1), (1148, .iaload, 1), (1149, .invokevirtual 157, 3), (1152, .istore 7, 2), (1154, .aload_n 2, 1), (1155, .invokevirtual 101, 3), (1158, .iload 6, 2), (1160, .if_icmp .eq 5, 3), (1163, .iconst 0, 1), (1164, .ireturn, 1), (1165, .iload 6, 2), (1167, .ifCond .ne 15, 3), (1170, .aload_n 3, 1), (1171, .iconst 0, 1), (1172, .laload, 1), (1173, .iload 7, 2), (1175, .i2l, 1), (1176, .lcmp, 1), (1177, .ifCond .eq 5, 3), (1180, .iconst 0, 1), (1181, .ireturn, 1), (1182, .goto 546, 3), (1185, .aload_n 1, 1), (1186, .aload_n 0, 1), (1187, .iload 5, 2), (1189, .iconst 1, 1), (1190, .iadd, 1), (1191, .iaload, 1), (1192, .aload_n 3, 1), (1193, .invokestatic 158, 3), (1196, .istore 6, 2), (1198, .aload_n 2, 1), (1199, .aload_n 0, 1), (1200, .iload 5, 2), (1202, .iconst 1, 1), (1203, .iadd, 1), (1204, .iaload, 1), (1205, .invokevirtual 160, 3), (1208, .istore 7, 2), (1210, .aload_n 2, 1), (1211, .invokevirtual 101, 3), (1214, .iload 6, 2), (1216, .if_icmp .eq 5, 3), (1219, .iconst 0, 1), (1220, .ireturn, 1), (1221, .iload 6, 2)]
set_option maxRecDepth 20000 in
theorem DL_law_5 : Lst YL_law LL_law_5 := by unfold Lst; decide +kernel
def LL_law_6 : LI := [(1223, .ifCond .ne 15, 3), (1226, .aload_n 3, 1), (1227, .iconst 0, 1), (1228, .laload, 1), (1229, .iload 7, 2), (1231, .i2l, 1), (1232, .lcmp, 1), (1233, .ifCond .eq 5, 3), (1236, .iconst 0, 1), (1237, .ireturn, 1), (1238, .goto 490, 3), (1241, .aload_n 1, 1), (1242, .aload_n 0, 1), (1243, .iload 5, 2), (1245, .iconst 1, 1), (1246, .iadd, 1), (1247, .iaload, 1), (1248, .aload_n 0, 1), (1249, .iload 5, 2), (1251, .iconst 2, 1), (1252, .iadd, 1), (1253, .iaload, 1), (1254, .aload_n 3, 1), (1255, .invokestatic 161, 3), (1258, .istore 6, 2), (1260, .aload_n 2, 1), (1261, .aload_n 0, 1), (1262, .iload 5, 2), (1264, .iconst 1, 1), (1265, .iadd, 1), (1266, .iaload, 1), (1267, .aload_n 0, 1), (1268, .iload 5, 2), (1270, .iconst 2, 1), (1271, .iadd, 1), (1272, .iaload, 1), (1273, .invokevirtual 163, 3), (1276, .istore 7, 2), (1278, .aload_n 2, 1), (1279, .invokevirtual 101, 3), (1282, .iload 6, 2), (1284, .if_icmp .eq 5, 3), (1287, .iconst 0, 1), (1288, .ireturn, 1), (1289, .iload 6, 2), (1291, .ifCond .ne 15, 3), (1294, .aload_n 3, 1), (1295, .iconst 0, 1), (1296, .laload, 1), (1297, .iload 7, 2), (1299, .i2l, 1), (1300, .lcmp, 1), (1301, .ifCond .eq 5, 3), (1304, .iconst 0, 1), (1305, .ireturn, 1), (1306, .goto 422, 3), (1309, .aload_n 1, 1), (1310, .aload_n 0, 1), (1311, .iload 5, 2), (1313, .iconst 1, 1), (1314, .iadd, 1), (1315, .iaload, 1), (1316, .aload_n 0, 1), (1317, .iload 5, 2), (1319, .iconst 2, 1), (1320, .iadd, 1), (1321, .iaload, 1), (1322, .aload_n 0, 1), (1323, .iload 5, 2), (1325, .iconst 3, 1), (1326, .iadd, 1), (1327, .iaload, 1), (1328, .aload_n 3, 1), (1329, .invokestatic 164, 3), (1332, .istore 6, 2), (1334, .aload_n 2, 1), (1335, .aload_n 0, 1), (1336, .iload 5, 2), (1338, .iconst 1, 1), (1339, .iadd, 1), (1340, .iaload, 1), (1341, .aload_n 0, 1), (1342, .iload 5, 2), (1344, .iconst 2, 1), (1345, .iadd, 1), (1346, .iaload, 1), (1347, .aload_n 0, 1), (1348, .iload 5, 2), (1350, .iconst 3, 1), (1351, .iadd, 1), (1352, .iaload, 1), (1353, .invokevirtual 166, 3), (1356, .istore 7, 2), (1358, .aload_n 2, 1), (1359, .invokevirtual 101, 3), (1362, .iload 6, 2), (1364, .if_icmp .eq 5, 3), (1367, .iconst 0, 1), (1368, .ireturn, 1), (1369, .iload 6, 2), (1371, .ifCond .ne 15, 3), (1374, .aload_n 3, 1), (1375, .iconst 0, 1), (1376, .laload, 1), (1377, .iload 7, 2), (1379, .i2l, 1), (1380, .lcmp, 1), (1381, .ifCond .eq 5, 3), (1384, .iconst 0, 1), (1385, .ireturn, 1), (1386, .goto 342, 3), (1389, .aload_n 1, 1), (1390, .aload_n 0, 1), (1391, .iload 5, 2), (1393, .iconst 1, 1), (1394, .iadd, 1), (1395, .iaload, 1), (1396, .aload_n 0, 1), (1397, .iload 5, 2), (1399, .iconst 2, 1)]
set_option maxRecDepth 20000 in
theorem DL_law_6 : Lst YL_law LL_law_6 := by unfold Lst; decide +kernel
def LL_law_7 : LI := [(1400, .iadd, 1), (1401, .iaload, 1), (1402, .aload_n 3, 1), (1403, .invokestatic 167, 3), (1406, .istore 6, 2), (1408, .aload_n 2, 1), (1409, .aload_n 0, 1), (1410, .iload 5, 2), (1412, .iconst 1, 1), (1413, .iadd, 1), (1414, .iaload, 1), (1415, .aload_n 0, 1), (1416, .iload 5, 2), (1418, .iconst 2, 1), (1419, .iadd, 1), (1420, .iaload, 1), (1421, .invokevirtual 169, 3), (1424, .istore 7, 2), (1426, .aload_n 2, 1), (1427, .invokevirtual 101, 3), (1430, .iload 6, 2), (1432, .if_icmp .eq 5, 3), (1435, .iconst 0, 1), (1436, .ireturn, 1), (1437, .iload 6, 2), (1439, .ifCond .ne 15, 3), (1442, .aload_n 3, 1), (1443, .iconst 0, 1), (1444, .laload, 1), (1445, .iload 7, 2), (1447, .i2l, 1), (1448, .lcmp, 1), (1449, .ifCond .eq 5, 3), (1452, .iconst 0, 1), (1453, .ireturn, 1), (1454, .goto 274, 3), (1457, .aload_n 1, 1), (1458, .aload_n 0, 1), (1459, .iload 5, 2), (1461, .iconst 1, 1), (1462, .iadd, 1), (1463, .iaload, 1), (1464, .aload_n 3, 1), (1465, .invokestatic 170, 3), (1468, .istore 6, 2), (1470, .aload_n 2, 1), (1471, .aload_n 0, 1), (1472, .iload 5, 2), (1474, .iconst 1, 1), (1475, .iadd, 1), (1476, .iaload, 1), (1477, .invokevirtual 172, 3), (1480, .istore 7, 2), (1482, .aload_n 2, 1), (1483, .invokevirtual 101, 3), (1486, .iload 6, 2), (1488, .if_icmp .eq 5, 3), (1491, .iconst 0, 1), (1492, .ireturn, 1), (1493, .iload 6, 2), (1495, .ifCond .ne 15, 3), (1498, .aload_n 3, 1), (1499, .iconst 0, 1), (1500, .laload, 1), (1501, .iload 7, 2), (1503, .i2l, 1), (1504, .lcmp, 1), (1505, .ifCond .eq 5, 3), (1508, .iconst 0, 1), (1509, .ireturn, 1), (1510, .goto 218, 3), (1513, .aload_n 1, 1), (1514, .aload_n 0, 1), (1515, .iload 5, 2), (1517, .iconst 1, 1), (1518, .iadd, 1), (1519, .iaload, 1), (1520, .aload_n 3, 1), (1521, .invokestatic 173, 3), (1524, .istore 6, 2), (1526, .aload_n 2, 1), (1527, .aload_n 0, 1), (1528, .iload 5, 2), (1530, .iconst 1, 1), (1531, .iadd, 1), (1532, .iaload, 1), (1533, .invokevirtual 175, 3), (1536, .istore 7, 2), (1538, .aload_n 2, 1), (1539, .invokevirtual 101, 3), (1542, .iload 6, 2), (1544, .if_icmp .eq 5, 3), (1547, .iconst 0, 1), (1548, .ireturn, 1), (1549, .iload 6, 2), (1551, .ifCond .ne 15, 3), (1554, .aload_n 3, 1), (1555, .iconst 0, 1), (1556, .laload, 1), (1557, .iload 7, 2), (1559, .i2l, 1), (1560, .lcmp, 1), (1561, .ifCond .eq 5, 3), (1564, .iconst 0, 1), (1565, .ireturn, 1), (1566, .goto 162, 3), (1569, .aload_n 1, 1), (1570, .aload_n 0, 1), (1571, .iload 5, 2), (1573, .iconst 1, 1), (1574, .iadd, 1), (1575, .iaload, 1), (1576, .aload_n 0, 1), (1577, .iload 5, 2), (1579, .iconst 2, 1), (1580, .iadd, 1), (1581, .iaload, 1), (1582, .aload_n 3, 1), (1583, .invokestatic 176, 3), (1586, .istore 6, 2)]
set_option maxRecDepth 20000 in
theorem DL_law_7 : Lst YL_law LL_law_7 := by unfold Lst; decide +kernel
def LL_law_8 : LI := [(1588, .aload_n 2, 1), (1589, .aload_n 0, 1), (1590, .iload 5, 2), (1592, .iconst 1, 1), (1593, .iadd, 1), (1594, .iaload, 1), (1595, .aload_n 0, 1), (1596, .iload 5, 2), (1598, .iconst 2, 1), (1599, .iadd, 1), (1600, .iaload, 1), (1601, .invokevirtual 178, 3), (1604, .istore 7, 2), (1606, .aload_n 2, 1), (1607, .invokevirtual 101, 3), (1610, .iload 6, 2), (1612, .if_icmp .eq 5, 3), (1615, .iconst 0, 1), (1616, .ireturn, 1), (1617, .iload 6, 2), (1619, .ifCond .ne 15, 3), (1622, .aload_n 3, 1), (1623, .iconst 0, 1), (1624, .laload, 1), (1625, .iload 7, 2), (1627, .i2l, 1), (1628, .lcmp, 1), (1629, .ifCond .eq 5, 3), (1632, .iconst 0, 1), (1633, .ireturn, 1), (1634, .goto 94, 3), (1637, .aload_n 1, 1), (1638, .aload_n 0, 1), (1639, .iload 5, 2), (1641, .iconst 1, 1), (1642, .iadd, 1), (1643, .iaload, 1), (1644, .aload 4, 2), (1646, .invokestatic 179, 3), (1649, .istore 6, 2), (1651, .aload_n 2, 1), (1652, .aload_n 0, 1), (1653, .iload 5, 2), (1655, .iconst 1, 1), (1656, .iadd, 1), (1657, .iaload, 1), (1658, .invokevirtual 182, 3), (1661, .dstore 7, 2), (1663, .aload_n 2, 1), (1664, .invokevirtual 101, 3), (1667, .iload 6, 2), (1669, .if_icmp .eq 5, 3), (1672, .iconst 0, 1), (1673, .ireturn, 1), (1674, .iload 6, 2), (1676, .ifCond .ne 35, 3), (1679, .aload 4, 2), (1681, .iconst 0, 1), (1682, .daload, 1), (1683, .dload 7, 2), (1685, .dcmp .l, 1), (1686, .ifCond .eq 25, 3), (1689, .aload 4, 2), (1691, .iconst 0, 1), (1692, .daload, 1), (1693, .aload 4, 2), (1695, .iconst 0, 1), (1696, .daload, 1), (1697, .dcmp .l, 1), (1698, .ifCond .eq 11, 3), (1701, .dload 7, 2), (1703, .dload 7, 2), (1705, .dcmp .l, 1), (1706, .ifCond .ne 5, 3), (1709, .iconst 0, 1), (1710, .ireturn, 1), (1711, .goto 17, 3), (1714, .aload_n 1, 1), (1715, .invokevirtual 183, 3), (1718, .aload_n 2, 1), (1719, .invokevirtual 187, 3), (1722, .lcmp, 1), (1723, .ifCond .eq 5, 3), (1726, .iconst 0, 1), (1727, .ireturn, 1), (1728, .iinc 5 5, 3), (1731, .goto (-1703), 3), (1734, .iconst 1, 1), (1735, .ireturn, 1)]
set_option maxRecDepth 20000 in
theorem DL_law_8 : Lst YL_law LL_law_8 := by unfold Lst; decide +kernel
end
section
def mVi (Y : MI) (n : Nat) : Prop := gw (.instanceMethod (mnm Y)) ∧ gw (.initialized (mnm Y).cls) ∧ gw (.code (mnm Y) (mcd Y) (mml Y) (mrt Y)) ∧ ((mnm Y).cls ≠ "java/lang/invoke/MethodHandle" ∧ (mnm Y).cls ≠ "java/lang/invoke/VarHandle") ∧ (parseMethodDescriptor (mnm Y).desc).map (fun d => d.parameters.length) = some n ∧ plainFor (mnm Y) = true ∧ mhh Y = []
def mVv (Y : MI) (n : Nat) : Prop := mVi Y n ∧ gw (.selects (mnm Y).cls (mnm Y) (mnm Y))
def mVs (Y : MI) (n : Nat) : Prop := gw (.static (mnm Y)) ∧ gw (.initialized (mnm Y).cls) ∧ gw (.code (mnm Y) (mcd Y) (mml Y) (mrt Y)) ∧ ((mnm Y).cls ≠ "java/lang/invoke/MethodHandle" ∧ (mnm Y).cls ≠ "java/lang/invoke/VarHandle") ∧ (parseMethodDescriptor (mnm Y).desc).map (fun d => d.parameters.length) = some n ∧ plainFor (mnm Y) = true ∧ mhh Y = []
def mVx (Y : MI) (n : Nat) : Prop := gw (.static (mnm Y)) ∧ gw (.initialized (mnm Y).cls) ∧ gw (.codeWith (mnm Y) (mcd Y) (mml Y) (mrt Y) (mhh Y)) ∧ ((mnm Y).cls ≠ "java/lang/invoke/MethodHandle" ∧ (mnm Y).cls ≠ "java/lang/invoke/VarHandle") ∧ (parseMethodDescriptor (mnm Y).desc).map (fun d => d.parameters.length) = some n ∧ plainFor (mnm Y) = true
theorem gw_places {ws : List Cond} (ps : List Nat) (h : ws = ps.filterMap (fun i => lw_tbl[i]?)) (hg : ws.all goodWord = true) : ∀ w ∈ ws, gw w := fun w hw => by
  have h1 := List.all_eq_true.mp hg w hw
  rw [h] at hw
  obtain ⟨i, -, hi⟩ := List.mem_filterMap.mp hw
  exact ⟨List.mem_of_getElem? hi, h1⟩
theorem vX0_init : mVi YX0_init 0 := ⟨⟨List.mem_of_getElem? (i := 219) (by decide +kernel), by decide +kernel⟩, ⟨List.mem_of_getElem? (i := 50) (by decide +kernel), by decide +kernel⟩, ⟨List.mem_of_getElem? (i := 220) (by decide +kernel), by decide +kernel⟩, ⟨by decide +kernel, by decide +kernel⟩, by decide +kernel, plainFor_of_name (by decide +kernel), rfl⟩
theorem vX0_begin : mVv YX0_begin 0 := ⟨⟨⟨List.mem_of_getElem? (i := 576) (by decide +kernel), by decide +kernel⟩, ⟨List.mem_of_getElem? (i := 50) (by decide +kernel), by decide +kernel⟩, ⟨List.mem_of_getElem? (i := 578) (by decide +kernel), by decide +kernel⟩, ⟨by decide +kernel, by decide +kernel⟩, by decide +kernel, plainFor_of_name (by decide +kernel), rfl⟩, ⟨List.mem_of_getElem? (i := 577) (by decide +kernel), by decide +kernel⟩⟩
theorem vX0_note : mVv YX0_note 2 := ⟨⟨⟨List.mem_of_getElem? (i := 602) (by decide +kernel), by decide +kernel⟩, ⟨List.mem_of_getElem? (i := 50) (by decide +kernel), by decide +kernel⟩, ⟨List.mem_of_getElem? (i := 604) (by decide +kernel), by decide +kernel⟩, ⟨by decide +kernel, by decide +kernel⟩, by decide +kernel, plainFor_of_name (by decide +kernel), rfl⟩, ⟨List.mem_of_getElem? (i := 603) (by decide +kernel), by decide +kernel⟩⟩
theorem vX0_worstOf : mVv YX0_worstOf 1 := ⟨⟨⟨List.mem_of_getElem? (i := 610) (by decide +kernel), by decide +kernel⟩, ⟨List.mem_of_getElem? (i := 50) (by decide +kernel), by decide +kernel⟩, ⟨List.mem_of_getElem? (i := 612) (by decide +kernel), by decide +kernel⟩, ⟨by decide +kernel, by decide +kernel⟩, by decide +kernel, plainFor_of_name (by decide +kernel), rfl⟩, ⟨List.mem_of_getElem? (i := 611) (by decide +kernel), by decide +kernel⟩⟩
theorem vX1_init : mVi YX1_init 0 := ⟨⟨List.mem_of_getElem? (i := 74) (by decide +kernel), by decide +kernel⟩, ⟨List.mem_of_getElem? (i := 46) (by decide +kernel), by decide +kernel⟩, ⟨List.mem_of_getElem? (i := 75) (by decide +kernel), by decide +kernel⟩, ⟨by decide +kernel, by decide +kernel⟩, by decide +kernel, plainFor_of_name (by decide +kernel), rfl⟩
theorem vX1_wayAt : mVv YX1_wayAt 1 := ⟨⟨⟨List.mem_of_getElem? (i := 409) (by decide +kernel), by decide +kernel⟩, ⟨List.mem_of_getElem? (i := 46) (by decide +kernel), by decide +kernel⟩, ⟨List.mem_of_getElem? (i := 411) (by decide +kernel), by decide +kernel⟩, ⟨by decide +kernel, by decide +kernel⟩, by decide +kernel, plainFor_of_name (by decide +kernel), rfl⟩, ⟨List.mem_of_getElem? (i := 410) (by decide +kernel), by decide +kernel⟩⟩
theorem vX1_copyFrom : mVv YX1_copyFrom 1 := ⟨⟨⟨List.mem_of_getElem? (i := 674) (by decide +kernel), by decide +kernel⟩, ⟨List.mem_of_getElem? (i := 46) (by decide +kernel), by decide +kernel⟩, ⟨List.mem_of_getElem? (i := 676) (by decide +kernel), by decide +kernel⟩, ⟨by decide +kernel, by decide +kernel⟩, by decide +kernel, plainFor_of_name (by decide +kernel), rfl⟩, ⟨List.mem_of_getElem? (i := 675) (by decide +kernel), by decide +kernel⟩⟩
theorem vX1_copyWayFrom : mVv YX1_copyWayFrom 2 := ⟨⟨⟨List.mem_of_getElem? (i := 451) (by decide +kernel), by decide +kernel⟩, ⟨List.mem_of_getElem? (i := 46) (by decide +kernel), by decide +kernel⟩, ⟨List.mem_of_getElem? (i := 453) (by decide +kernel), by decide +kernel⟩, ⟨by decide +kernel, by decide +kernel⟩, by decide +kernel, plainFor_of_name (by decide +kernel), rfl⟩, ⟨List.mem_of_getElem? (i := 452) (by decide +kernel), by decide +kernel⟩⟩
theorem vX1_copyCommonFrom : mVv YX1_copyCommonFrom 1 := ⟨⟨⟨List.mem_of_getElem? (i := 471) (by decide +kernel), by decide +kernel⟩, ⟨List.mem_of_getElem? (i := 46) (by decide +kernel), by decide +kernel⟩, ⟨List.mem_of_getElem? (i := 473) (by decide +kernel), by decide +kernel⟩, ⟨by decide +kernel, by decide +kernel⟩, by decide +kernel, plainFor_of_name (by decide +kernel), rfl⟩, ⟨List.mem_of_getElem? (i := 472) (by decide +kernel), by decide +kernel⟩⟩
theorem vX1_draw : mVv YX1_draw 1 := ⟨⟨⟨List.mem_of_getElem? (i := 496) (by decide +kernel), by decide +kernel⟩, ⟨List.mem_of_getElem? (i := 46) (by decide +kernel), by decide +kernel⟩, ⟨List.mem_of_getElem? (i := 498) (by decide +kernel), by decide +kernel⟩, ⟨by decide +kernel, by decide +kernel⟩, by decide +kernel, plainFor_of_name (by decide +kernel), rfl⟩, ⟨List.mem_of_getElem? (i := 497) (by decide +kernel), by decide +kernel⟩⟩
theorem vX1_drawNoise : mVv YX1_drawNoise 1 := ⟨⟨⟨List.mem_of_getElem? (i := 492) (by decide +kernel), by decide +kernel⟩, ⟨List.mem_of_getElem? (i := 46) (by decide +kernel), by decide +kernel⟩, ⟨List.mem_of_getElem? (i := 494) (by decide +kernel), by decide +kernel⟩, ⟨by decide +kernel, by decide +kernel⟩, by decide +kernel, plainFor_of_name (by decide +kernel), rfl⟩, ⟨List.mem_of_getElem? (i := 493) (by decide +kernel), by decide +kernel⟩⟩
theorem vX1_sendBeats : mVv YX1_sendBeats 2 := ⟨⟨⟨List.mem_of_getElem? (i := 559) (by decide +kernel), by decide +kernel⟩, ⟨List.mem_of_getElem? (i := 46) (by decide +kernel), by decide +kernel⟩, ⟨List.mem_of_getElem? (i := 561) (by decide +kernel), by decide +kernel⟩, ⟨by decide +kernel, by decide +kernel⟩, by decide +kernel, plainFor_of_name (by decide +kernel), rfl⟩, ⟨List.mem_of_getElem? (i := 560) (by decide +kernel), by decide +kernel⟩⟩
theorem vX1_sendSign : mVv YX1_sendSign 2 := ⟨⟨⟨List.mem_of_getElem? (i := 476) (by decide +kernel), by decide +kernel⟩, ⟨List.mem_of_getElem? (i := 46) (by decide +kernel), by decide +kernel⟩, ⟨List.mem_of_getElem? (i := 478) (by decide +kernel), by decide +kernel⟩, ⟨by decide +kernel, by decide +kernel⟩, by decide +kernel, plainFor_of_name (by decide +kernel), rfl⟩, ⟨List.mem_of_getElem? (i := 477) (by decide +kernel), by decide +kernel⟩⟩
theorem vX1_takeLesson : mVv YX1_takeLesson 3 := ⟨⟨⟨List.mem_of_getElem? (i := 572) (by decide +kernel), by decide +kernel⟩, ⟨List.mem_of_getElem? (i := 46) (by decide +kernel), by decide +kernel⟩, ⟨List.mem_of_getElem? (i := 574) (by decide +kernel), by decide +kernel⟩, ⟨by decide +kernel, by decide +kernel⟩, by decide +kernel, plainFor_of_name (by decide +kernel), rfl⟩, ⟨List.mem_of_getElem? (i := 573) (by decide +kernel), by decide +kernel⟩⟩
theorem vX1_learnBeat : mVv YX1_learnBeat 2 := ⟨⟨⟨List.mem_of_getElem? (i := 580) (by decide +kernel), by decide +kernel⟩, ⟨List.mem_of_getElem? (i := 46) (by decide +kernel), by decide +kernel⟩, ⟨List.mem_of_getElem? (i := 582) (by decide +kernel), by decide +kernel⟩, ⟨by decide +kernel, by decide +kernel⟩, by decide +kernel, plainFor_of_name (by decide +kernel), rfl⟩, ⟨List.mem_of_getElem? (i := 581) (by decide +kernel), by decide +kernel⟩⟩
theorem vX1_bitsBehind : mVv YX1_bitsBehind 2 := ⟨⟨⟨List.mem_of_getElem? (i := 633) (by decide +kernel), by decide +kernel⟩, ⟨List.mem_of_getElem? (i := 46) (by decide +kernel), by decide +kernel⟩, ⟨List.mem_of_getElem? (i := 635) (by decide +kernel), by decide +kernel⟩, ⟨by decide +kernel, by decide +kernel⟩, by decide +kernel, plainFor_of_name (by decide +kernel), rfl⟩, ⟨List.mem_of_getElem? (i := 634) (by decide +kernel), by decide +kernel⟩⟩
theorem vX1_leastHurt : mVv YX1_leastHurt 2 := ⟨⟨⟨List.mem_of_getElem? (i := 537) (by decide +kernel), by decide +kernel⟩, ⟨List.mem_of_getElem? (i := 46) (by decide +kernel), by decide +kernel⟩, ⟨List.mem_of_getElem? (i := 539) (by decide +kernel), by decide +kernel⟩, ⟨by decide +kernel, by decide +kernel⟩, by decide +kernel, plainFor_of_name (by decide +kernel), rfl⟩, ⟨List.mem_of_getElem? (i := 538) (by decide +kernel), by decide +kernel⟩⟩
theorem vX2_init : mVi YX2_init 0 := ⟨⟨List.mem_of_getElem? (i := 233) (by decide +kernel), by decide +kernel⟩, ⟨List.mem_of_getElem? (i := 51) (by decide +kernel), by decide +kernel⟩, ⟨List.mem_of_getElem? (i := 234) (by decide +kernel), by decide +kernel⟩, ⟨by decide +kernel, by decide +kernel⟩, by decide +kernel, plainFor_of_name (by decide +kernel), rfl⟩
theorem vX2_next : mVs YX2_next 2 := ⟨⟨List.mem_of_getElem? (i := 278) (by decide +kernel), by decide +kernel⟩, ⟨List.mem_of_getElem? (i := 51) (by decide +kernel), by decide +kernel⟩, ⟨List.mem_of_getElem? (i := 279) (by decide +kernel), by decide +kernel⟩, ⟨by decide +kernel, by decide +kernel⟩, by decide +kernel, plainFor_of_name (by decide +kernel), rfl⟩
theorem vX2_behindDigit : mVs YX2_behindDigit 1 := ⟨⟨List.mem_of_getElem? (i := 281) (by decide +kernel), by decide +kernel⟩, ⟨List.mem_of_getElem? (i := 51) (by decide +kernel), by decide +kernel⟩, ⟨List.mem_of_getElem? (i := 282) (by decide +kernel), by decide +kernel⟩, ⟨by decide +kernel, by decide +kernel⟩, by decide +kernel, plainFor_of_name (by decide +kernel), rfl⟩
theorem vX2_digitOf : mVs YX2_digitOf 1 := ⟨⟨List.mem_of_getElem? (i := 284) (by decide +kernel), by decide +kernel⟩, ⟨List.mem_of_getElem? (i := 51) (by decide +kernel), by decide +kernel⟩, ⟨List.mem_of_getElem? (i := 285) (by decide +kernel), by decide +kernel⟩, ⟨by decide +kernel, by decide +kernel⟩, by decide +kernel, plainFor_of_name (by decide +kernel), rfl⟩
theorem vX2_errorPlace : mVv YX2_errorPlace 0 := ⟨⟨⟨List.mem_of_getElem? (i := 274) (by decide +kernel), by decide +kernel⟩, ⟨List.mem_of_getElem? (i := 51) (by decide +kernel), by decide +kernel⟩, ⟨List.mem_of_getElem? (i := 276) (by decide +kernel), by decide +kernel⟩, ⟨by decide +kernel, by decide +kernel⟩, by decide +kernel, plainFor_of_name (by decide +kernel), rfl⟩, ⟨List.mem_of_getElem? (i := 275) (by decide +kernel), by decide +kernel⟩⟩
theorem vX2_isComplete : mVv YX2_isComplete 0 := ⟨⟨⟨List.mem_of_getElem? (i := 777) (by decide +kernel), by decide +kernel⟩, ⟨List.mem_of_getElem? (i := 51) (by decide +kernel), by decide +kernel⟩, ⟨List.mem_of_getElem? (i := 779) (by decide +kernel), by decide +kernel⟩, ⟨by decide +kernel, by decide +kernel⟩, by decide +kernel, plainFor_of_name (by decide +kernel), rfl⟩, ⟨List.mem_of_getElem? (i := 778) (by decide +kernel), by decide +kernel⟩⟩
theorem vX2_bitsFor : mVv YX2_bitsFor 1 := ⟨⟨⟨List.mem_of_getElem? (i := 782) (by decide +kernel), by decide +kernel⟩, ⟨List.mem_of_getElem? (i := 51) (by decide +kernel), by decide +kernel⟩, ⟨List.mem_of_getElem? (i := 784) (by decide +kernel), by decide +kernel⟩, ⟨by decide +kernel, by decide +kernel⟩, by decide +kernel, plainFor_of_name (by decide +kernel), rfl⟩, ⟨List.mem_of_getElem? (i := 783) (by decide +kernel), by decide +kernel⟩⟩
theorem vX2_putBits : mVv YX2_putBits 1 := ⟨⟨⟨List.mem_of_getElem? (i := 787) (by decide +kernel), by decide +kernel⟩, ⟨List.mem_of_getElem? (i := 51) (by decide +kernel), by decide +kernel⟩, ⟨List.mem_of_getElem? (i := 789) (by decide +kernel), by decide +kernel⟩, ⟨by decide +kernel, by decide +kernel⟩, by decide +kernel, plainFor_of_name (by decide +kernel), rfl⟩, ⟨List.mem_of_getElem? (i := 788) (by decide +kernel), by decide +kernel⟩⟩
theorem vX3_init : mVi YX3_init 0 := ⟨⟨List.mem_of_getElem? (i := 105) (by decide +kernel), by decide +kernel⟩, ⟨List.mem_of_getElem? (i := 49) (by decide +kernel), by decide +kernel⟩, ⟨List.mem_of_getElem? (i := 106) (by decide +kernel), by decide +kernel⟩, ⟨by decide +kernel, by decide +kernel⟩, by decide +kernel, plainFor_of_name (by decide +kernel), rfl⟩
theorem vX3_copyFrom : mVv YX3_copyFrom 1 := ⟨⟨⟨List.mem_of_getElem? (i := 460) (by decide +kernel), by decide +kernel⟩, ⟨List.mem_of_getElem? (i := 49) (by decide +kernel), by decide +kernel⟩, ⟨List.mem_of_getElem? (i := 462) (by decide +kernel), by decide +kernel⟩, ⟨by decide +kernel, by decide +kernel⟩, by decide +kernel, plainFor_of_name (by decide +kernel), rfl⟩, ⟨List.mem_of_getElem? (i := 461) (by decide +kernel), by decide +kernel⟩⟩
theorem vX3_streetNumber : mVv YX3_streetNumber 1 := ⟨⟨⟨List.mem_of_getElem? (i := 415) (by decide +kernel), by decide +kernel⟩, ⟨List.mem_of_getElem? (i := 49) (by decide +kernel), by decide +kernel⟩, ⟨List.mem_of_getElem? (i := 417) (by decide +kernel), by decide +kernel⟩, ⟨by decide +kernel, by decide +kernel⟩, by decide +kernel, plainFor_of_name (by decide +kernel), rfl⟩, ⟨List.mem_of_getElem? (i := 416) (by decide +kernel), by decide +kernel⟩⟩
theorem vX3_setStreetNumber : mVv YX3_setStreetNumber 2 := ⟨⟨⟨List.mem_of_getElem? (i := 678) (by decide +kernel), by decide +kernel⟩, ⟨List.mem_of_getElem? (i := 49) (by decide +kernel), by decide +kernel⟩, ⟨List.mem_of_getElem? (i := 680) (by decide +kernel), by decide +kernel⟩, ⟨by decide +kernel, by decide +kernel⟩, by decide +kernel, plainFor_of_name (by decide +kernel), rfl⟩, ⟨List.mem_of_getElem? (i := 679) (by decide +kernel), by decide +kernel⟩⟩
theorem vX3_accentNumber : mVv YX3_accentNumber 1 := ⟨⟨⟨List.mem_of_getElem? (i := 424) (by decide +kernel), by decide +kernel⟩, ⟨List.mem_of_getElem? (i := 49) (by decide +kernel), by decide +kernel⟩, ⟨List.mem_of_getElem? (i := 426) (by decide +kernel), by decide +kernel⟩, ⟨by decide +kernel, by decide +kernel⟩, by decide +kernel, plainFor_of_name (by decide +kernel), rfl⟩, ⟨List.mem_of_getElem? (i := 425) (by decide +kernel), by decide +kernel⟩⟩
theorem vX3_amplitudeOf : mVv YX3_amplitudeOf 1 := ⟨⟨⟨List.mem_of_getElem? (i := 488) (by decide +kernel), by decide +kernel⟩, ⟨List.mem_of_getElem? (i := 49) (by decide +kernel), by decide +kernel⟩, ⟨List.mem_of_getElem? (i := 490) (by decide +kernel), by decide +kernel⟩, ⟨by decide +kernel, by decide +kernel⟩, by decide +kernel, plainFor_of_name (by decide +kernel), rfl⟩, ⟨List.mem_of_getElem? (i := 489) (by decide +kernel), by decide +kernel⟩⟩
theorem vX3_arriving : mVv YX3_arriving 2 := ⟨⟨⟨List.mem_of_getElem? (i := 504) (by decide +kernel), by decide +kernel⟩, ⟨List.mem_of_getElem? (i := 49) (by decide +kernel), by decide +kernel⟩, ⟨List.mem_of_getElem? (i := 506) (by decide +kernel), by decide +kernel⟩, ⟨by decide +kernel, by decide +kernel⟩, by decide +kernel, plainFor_of_name (by decide +kernel), rfl⟩, ⟨List.mem_of_getElem? (i := 505) (by decide +kernel), by decide +kernel⟩⟩
theorem vX3_expected : mVv YX3_expected 1 := ⟨⟨⟨List.mem_of_getElem? (i := 584) (by decide +kernel), by decide +kernel⟩, ⟨List.mem_of_getElem? (i := 49) (by decide +kernel), by decide +kernel⟩, ⟨List.mem_of_getElem? (i := 586) (by decide +kernel), by decide +kernel⟩, ⟨by decide +kernel, by decide +kernel⟩, by decide +kernel, plainFor_of_name (by decide +kernel), rfl⟩, ⟨List.mem_of_getElem? (i := 585) (by decide +kernel), by decide +kernel⟩⟩
theorem vX3_decide : mVv YX3_decide 1 := ⟨⟨⟨List.mem_of_getElem? (i := 508) (by decide +kernel), by decide +kernel⟩, ⟨List.mem_of_getElem? (i := 49) (by decide +kernel), by decide +kernel⟩, ⟨List.mem_of_getElem? (i := 510) (by decide +kernel), by decide +kernel⟩, ⟨by decide +kernel, by decide +kernel⟩, by decide +kernel, plainFor_of_name (by decide +kernel), rfl⟩, ⟨List.mem_of_getElem? (i := 509) (by decide +kernel), by decide +kernel⟩⟩
theorem vX3_pass : mVv YX3_pass 2 := ⟨⟨⟨List.mem_of_getElem? (i := 524) (by decide +kernel), by decide +kernel⟩, ⟨List.mem_of_getElem? (i := 49) (by decide +kernel), by decide +kernel⟩, ⟨List.mem_of_getElem? (i := 526) (by decide +kernel), by decide +kernel⟩, ⟨by decide +kernel, by decide +kernel⟩, by decide +kernel, plainFor_of_name (by decide +kernel), rfl⟩, ⟨List.mem_of_getElem? (i := 525) (by decide +kernel), by decide +kernel⟩⟩
theorem vX3_knowSignBefore : mVv YX3_knowSignBefore 0 := ⟨⟨⟨List.mem_of_getElem? (i := 598) (by decide +kernel), by decide +kernel⟩, ⟨List.mem_of_getElem? (i := 49) (by decide +kernel), by decide +kernel⟩, ⟨List.mem_of_getElem? (i := 600) (by decide +kernel), by decide +kernel⟩, ⟨by decide +kernel, by decide +kernel⟩, by decide +kernel, plainFor_of_name (by decide +kernel), rfl⟩, ⟨List.mem_of_getElem? (i := 599) (by decide +kernel), by decide +kernel⟩⟩
theorem vX3_countSign : mVv YX3_countSign 1 := ⟨⟨⟨List.mem_of_getElem? (i := 528) (by decide +kernel), by decide +kernel⟩, ⟨List.mem_of_getElem? (i := 49) (by decide +kernel), by decide +kernel⟩, ⟨List.mem_of_getElem? (i := 530) (by decide +kernel), by decide +kernel⟩, ⟨by decide +kernel, by decide +kernel⟩, by decide +kernel, plainFor_of_name (by decide +kernel), rfl⟩, ⟨List.mem_of_getElem? (i := 529) (by decide +kernel), by decide +kernel⟩⟩
theorem vX3_becomeShyAt : mVv YX3_becomeShyAt 1 := ⟨⟨⟨List.mem_of_getElem? (i := 564) (by decide +kernel), by decide +kernel⟩, ⟨List.mem_of_getElem? (i := 49) (by decide +kernel), by decide +kernel⟩, ⟨List.mem_of_getElem? (i := 566) (by decide +kernel), by decide +kernel⟩, ⟨by decide +kernel, by decide +kernel⟩, by decide +kernel, plainFor_of_name (by decide +kernel), rfl⟩, ⟨List.mem_of_getElem? (i := 565) (by decide +kernel), by decide +kernel⟩⟩
theorem vX3_improve : mVv YX3_improve 3 := ⟨⟨⟨List.mem_of_getElem? (i := 588) (by decide +kernel), by decide +kernel⟩, ⟨List.mem_of_getElem? (i := 49) (by decide +kernel), by decide +kernel⟩, ⟨List.mem_of_getElem? (i := 590) (by decide +kernel), by decide +kernel⟩, ⟨by decide +kernel, by decide +kernel⟩, by decide +kernel, plainFor_of_name (by decide +kernel), rfl⟩, ⟨List.mem_of_getElem? (i := 589) (by decide +kernel), by decide +kernel⟩⟩
theorem vX3_step : mVs YX3_step 2 := ⟨⟨List.mem_of_getElem? (i := 592) (by decide +kernel), by decide +kernel⟩, ⟨List.mem_of_getElem? (i := 49) (by decide +kernel), by decide +kernel⟩, ⟨List.mem_of_getElem? (i := 593) (by decide +kernel), by decide +kernel⟩, ⟨by decide +kernel, by decide +kernel⟩, by decide +kernel, plainFor_of_name (by decide +kernel), rfl⟩
theorem vX3_held : mVs YX3_held 3 := ⟨⟨List.mem_of_getElem? (i := 595) (by decide +kernel), by decide +kernel⟩, ⟨List.mem_of_getElem? (i := 49) (by decide +kernel), by decide +kernel⟩, ⟨List.mem_of_getElem? (i := 596) (by decide +kernel), by decide +kernel⟩, ⟨by decide +kernel, by decide +kernel⟩, by decide +kernel, plainFor_of_name (by decide +kernel), rfl⟩
theorem vX3_endLesson : mVv YX3_endLesson 2 := ⟨⟨⟨List.mem_of_getElem? (i := 615) (by decide +kernel), by decide +kernel⟩, ⟨List.mem_of_getElem? (i := 49) (by decide +kernel), by decide +kernel⟩, ⟨List.mem_of_getElem? (i := 617) (by decide +kernel), by decide +kernel⟩, ⟨by decide +kernel, by decide +kernel⟩, by decide +kernel, plainFor_of_name (by decide +kernel), rfl⟩, ⟨List.mem_of_getElem? (i := 616) (by decide +kernel), by decide +kernel⟩⟩
theorem vX3_bitsFor : mVv YX3_bitsFor 2 := ⟨⟨⟨List.mem_of_getElem? (i := 619) (by decide +kernel), by decide +kernel⟩, ⟨List.mem_of_getElem? (i := 49) (by decide +kernel), by decide +kernel⟩, ⟨List.mem_of_getElem? (i := 621) (by decide +kernel), by decide +kernel⟩, ⟨by decide +kernel, by decide +kernel⟩, by decide +kernel, plainFor_of_name (by decide +kernel), rfl⟩, ⟨List.mem_of_getElem? (i := 620) (by decide +kernel), by decide +kernel⟩⟩
theorem vX3_roomWith : mVv YX3_roomWith 1 := ⟨⟨⟨List.mem_of_getElem? (i := 443) (by decide +kernel), by decide +kernel⟩, ⟨List.mem_of_getElem? (i := 49) (by decide +kernel), by decide +kernel⟩, ⟨List.mem_of_getElem? (i := 445) (by decide +kernel), by decide +kernel⟩, ⟨by decide +kernel, by decide +kernel⟩, by decide +kernel, plainFor_of_name (by decide +kernel), rfl⟩, ⟨List.mem_of_getElem? (i := 444) (by decide +kernel), by decide +kernel⟩⟩
theorem vX3_sureBits : mVv YX3_sureBits 0 := ⟨⟨⟨List.mem_of_getElem? (i := 432) (by decide +kernel), by decide +kernel⟩, ⟨List.mem_of_getElem? (i := 49) (by decide +kernel), by decide +kernel⟩, ⟨List.mem_of_getElem? (i := 434) (by decide +kernel), by decide +kernel⟩, ⟨by decide +kernel, by decide +kernel⟩, by decide +kernel, plainFor_of_name (by decide +kernel), rfl⟩, ⟨List.mem_of_getElem? (i := 433) (by decide +kernel), by decide +kernel⟩⟩
theorem vX3_misheardWith : mVv YX3_misheardWith 1 := ⟨⟨⟨List.mem_of_getElem? (i := 436) (by decide +kernel), by decide +kernel⟩, ⟨List.mem_of_getElem? (i := 49) (by decide +kernel), by decide +kernel⟩, ⟨List.mem_of_getElem? (i := 438) (by decide +kernel), by decide +kernel⟩, ⟨by decide +kernel, by decide +kernel⟩, by decide +kernel, plainFor_of_name (by decide +kernel), rfl⟩, ⟨List.mem_of_getElem? (i := 437) (by decide +kernel), by decide +kernel⟩⟩
theorem vX3_loseAccent : mVv YX3_loseAccent 0 := ⟨⟨⟨List.mem_of_getElem? (i := 757) (by decide +kernel), by decide +kernel⟩, ⟨List.mem_of_getElem? (i := 49) (by decide +kernel), by decide +kernel⟩, ⟨List.mem_of_getElem? (i := 759) (by decide +kernel), by decide +kernel⟩, ⟨by decide +kernel, by decide +kernel⟩, by decide +kernel, plainFor_of_name (by decide +kernel), rfl⟩, ⟨List.mem_of_getElem? (i := 758) (by decide +kernel), by decide +kernel⟩⟩
theorem vX4_init : mVi YX4_init 0 := ⟨⟨List.mem_of_getElem? (i := 88) (by decide +kernel), by decide +kernel⟩, ⟨List.mem_of_getElem? (i := 48) (by decide +kernel), by decide +kernel⟩, ⟨List.mem_of_getElem? (i := 89) (by decide +kernel), by decide +kernel⟩, ⟨by decide +kernel, by decide +kernel⟩, by decide +kernel, plainFor_of_name (by decide +kernel), rfl⟩
theorem vX4_copyFrom : mVv YX4_copyFrom 1 := ⟨⟨⟨List.mem_of_getElem? (i := 464) (by decide +kernel), by decide +kernel⟩, ⟨List.mem_of_getElem? (i := 48) (by decide +kernel), by decide +kernel⟩, ⟨List.mem_of_getElem? (i := 466) (by decide +kernel), by decide +kernel⟩, ⟨by decide +kernel, by decide +kernel⟩, by decide +kernel, plainFor_of_name (by decide +kernel), rfl⟩, ⟨List.mem_of_getElem? (i := 465) (by decide +kernel), by decide +kernel⟩⟩
theorem vX4_bitAt : mVv YX4_bitAt 1 := ⟨⟨⟨List.mem_of_getElem? (i := 484) (by decide +kernel), by decide +kernel⟩, ⟨List.mem_of_getElem? (i := 48) (by decide +kernel), by decide +kernel⟩, ⟨List.mem_of_getElem? (i := 486) (by decide +kernel), by decide +kernel⟩, ⟨by decide +kernel, by decide +kernel⟩, by decide +kernel, plainFor_of_name (by decide +kernel), rfl⟩, ⟨List.mem_of_getElem? (i := 485) (by decide +kernel), by decide +kernel⟩⟩
theorem vX4_put : mVv YX4_put 1 := ⟨⟨⟨List.mem_of_getElem? (i := 796) (by decide +kernel), by decide +kernel⟩, ⟨List.mem_of_getElem? (i := 48) (by decide +kernel), by decide +kernel⟩, ⟨List.mem_of_getElem? (i := 798) (by decide +kernel), by decide +kernel⟩, ⟨by decide +kernel, by decide +kernel⟩, by decide +kernel, plainFor_of_name (by decide +kernel), rfl⟩, ⟨List.mem_of_getElem? (i := 797) (by decide +kernel), by decide +kernel⟩⟩
theorem vX4_putDigit : mVv YX4_putDigit 1 := ⟨⟨⟨List.mem_of_getElem? (i := 792) (by decide +kernel), by decide +kernel⟩, ⟨List.mem_of_getElem? (i := 48) (by decide +kernel), by decide +kernel⟩, ⟨List.mem_of_getElem? (i := 794) (by decide +kernel), by decide +kernel⟩, ⟨by decide +kernel, by decide +kernel⟩, by decide +kernel, plainFor_of_name (by decide +kernel), rfl⟩, ⟨List.mem_of_getElem? (i := 793) (by decide +kernel), by decide +kernel⟩⟩
theorem vX4_take : mVv YX4_take 1 := ⟨⟨⟨List.mem_of_getElem? (i := 480) (by decide +kernel), by decide +kernel⟩, ⟨List.mem_of_getElem? (i := 48) (by decide +kernel), by decide +kernel⟩, ⟨List.mem_of_getElem? (i := 482) (by decide +kernel), by decide +kernel⟩, ⟨by decide +kernel, by decide +kernel⟩, by decide +kernel, plainFor_of_name (by decide +kernel), rfl⟩, ⟨List.mem_of_getElem? (i := 481) (by decide +kernel), by decide +kernel⟩⟩
theorem vX5_init : mVi YX5_init 0 := ⟨⟨List.mem_of_getElem? (i := 80) (by decide +kernel), by decide +kernel⟩, ⟨List.mem_of_getElem? (i := 47) (by decide +kernel), by decide +kernel⟩, ⟨List.mem_of_getElem? (i := 81) (by decide +kernel), by decide +kernel⟩, ⟨by decide +kernel, by decide +kernel⟩, by decide +kernel, plainFor_of_name (by decide +kernel), rfl⟩
theorem vX5_copyFrom : mVv YX5_copyFrom 1 := ⟨⟨⟨List.mem_of_getElem? (i := 456) (by decide +kernel), by decide +kernel⟩, ⟨List.mem_of_getElem? (i := 47) (by decide +kernel), by decide +kernel⟩, ⟨List.mem_of_getElem? (i := 458) (by decide +kernel), by decide +kernel⟩, ⟨by decide +kernel, by decide +kernel⟩, by decide +kernel, plainFor_of_name (by decide +kernel), rfl⟩, ⟨List.mem_of_getElem? (i := 457) (by decide +kernel), by decide +kernel⟩⟩
theorem vX5_receive : mVv YX5_receive 3 := ⟨⟨⟨List.mem_of_getElem? (i := 532) (by decide +kernel), by decide +kernel⟩, ⟨List.mem_of_getElem? (i := 47) (by decide +kernel), by decide +kernel⟩, ⟨List.mem_of_getElem? (i := 534) (by decide +kernel), by decide +kernel⟩, ⟨by decide +kernel, by decide +kernel⟩, by decide +kernel, plainFor_of_name (by decide +kernel), rfl⟩, ⟨List.mem_of_getElem? (i := 533) (by decide +kernel), by decide +kernel⟩⟩
theorem vX5_bits : mVv YX5_bits 0 := ⟨⟨⟨List.mem_of_getElem? (i := 297) (by decide +kernel), by decide +kernel⟩, ⟨List.mem_of_getElem? (i := 47) (by decide +kernel), by decide +kernel⟩, ⟨List.mem_of_getElem? (i := 299) (by decide +kernel), by decide +kernel⟩, ⟨by decide +kernel, by decide +kernel⟩, by decide +kernel, plainFor_of_name (by decide +kernel), rfl⟩, ⟨List.mem_of_getElem? (i := 298) (by decide +kernel), by decide +kernel⟩⟩
theorem vX5_shies : mVv YX5_shies 0 := ⟨⟨⟨List.mem_of_getElem? (i := 301) (by decide +kernel), by decide +kernel⟩, ⟨List.mem_of_getElem? (i := 47) (by decide +kernel), by decide +kernel⟩, ⟨List.mem_of_getElem? (i := 303) (by decide +kernel), by decide +kernel⟩, ⟨by decide +kernel, by decide +kernel⟩, by decide +kernel, plainFor_of_name (by decide +kernel), rfl⟩, ⟨List.mem_of_getElem? (i := 302) (by decide +kernel), by decide +kernel⟩⟩
theorem vX5_insulted : mVv YX5_insulted 0 := ⟨⟨⟨List.mem_of_getElem? (i := 305) (by decide +kernel), by decide +kernel⟩, ⟨List.mem_of_getElem? (i := 47) (by decide +kernel), by decide +kernel⟩, ⟨List.mem_of_getElem? (i := 307) (by decide +kernel), by decide +kernel⟩, ⟨by decide +kernel, by decide +kernel⟩, by decide +kernel, plainFor_of_name (by decide +kernel), rfl⟩, ⟨List.mem_of_getElem? (i := 306) (by decide +kernel), by decide +kernel⟩⟩
theorem vX6_init : mVi YX6_init 0 := ⟨⟨List.mem_of_getElem? (i := 66) (by decide +kernel), by decide +kernel⟩, ⟨List.mem_of_getElem? (i := 45) (by decide +kernel), by decide +kernel⟩, ⟨List.mem_of_getElem? (i := 67) (by decide +kernel), by decide +kernel⟩, ⟨by decide +kernel, by decide +kernel⟩, by decide +kernel, plainFor_of_name (by decide +kernel), rfl⟩
theorem vX6_build : mVv YX6_build 4 := ⟨⟨⟨List.mem_of_getElem? (i := 653) (by decide +kernel), by decide +kernel⟩, ⟨List.mem_of_getElem? (i := 45) (by decide +kernel), by decide +kernel⟩, ⟨List.mem_of_getElem? (i := 655) (by decide +kernel), by decide +kernel⟩, ⟨by decide +kernel, by decide +kernel⟩, by decide +kernel, plainFor_of_name (by decide +kernel), rfl⟩, ⟨List.mem_of_getElem? (i := 654) (by decide +kernel), by decide +kernel⟩⟩
theorem vX6_carry : mVv YX6_carry 3 := ⟨⟨⟨List.mem_of_getElem? (i := 685) (by decide +kernel), by decide +kernel⟩, ⟨List.mem_of_getElem? (i := 45) (by decide +kernel), by decide +kernel⟩, ⟨List.mem_of_getElem? (i := 687) (by decide +kernel), by decide +kernel⟩, ⟨by decide +kernel, by decide +kernel⟩, by decide +kernel, plainFor_of_name (by decide +kernel), rfl⟩, ⟨List.mem_of_getElem? (i := 686) (by decide +kernel), by decide +kernel⟩⟩
theorem vX6_insult : mVv YX6_insult 3 := ⟨⟨⟨List.mem_of_getElem? (i := 694) (by decide +kernel), by decide +kernel⟩, ⟨List.mem_of_getElem? (i := 45) (by decide +kernel), by decide +kernel⟩, ⟨List.mem_of_getElem? (i := 696) (by decide +kernel), by decide +kernel⟩, ⟨by decide +kernel, by decide +kernel⟩, by decide +kernel, plainFor_of_name (by decide +kernel), rfl⟩, ⟨List.mem_of_getElem? (i := 695) (by decide +kernel), by decide +kernel⟩⟩
theorem vX6_set : mVv YX6_set 2 := ⟨⟨⟨List.mem_of_getElem? (i := 718) (by decide +kernel), by decide +kernel⟩, ⟨List.mem_of_getElem? (i := 45) (by decide +kernel), by decide +kernel⟩, ⟨List.mem_of_getElem? (i := 720) (by decide +kernel), by decide +kernel⟩, ⟨by decide +kernel, by decide +kernel⟩, by decide +kernel, plainFor_of_name (by decide +kernel), rfl⟩, ⟨List.mem_of_getElem? (i := 719) (by decide +kernel), by decide +kernel⟩⟩
theorem vX6_learn : mVv YX6_learn 2 := ⟨⟨⟨List.mem_of_getElem? (i := 734) (by decide +kernel), by decide +kernel⟩, ⟨List.mem_of_getElem? (i := 45) (by decide +kernel), by decide +kernel⟩, ⟨List.mem_of_getElem? (i := 736) (by decide +kernel), by decide +kernel⟩, ⟨by decide +kernel, by decide +kernel⟩, by decide +kernel, plainFor_of_name (by decide +kernel), rfl⟩, ⟨List.mem_of_getElem? (i := 735) (by decide +kernel), by decide +kernel⟩⟩
theorem vX6_send : mVv YX6_send 2 := ⟨⟨⟨List.mem_of_getElem? (i := 746) (by decide +kernel), by decide +kernel⟩, ⟨List.mem_of_getElem? (i := 45) (by decide +kernel), by decide +kernel⟩, ⟨List.mem_of_getElem? (i := 748) (by decide +kernel), by decide +kernel⟩, ⟨by decide +kernel, by decide +kernel⟩, by decide +kernel, plainFor_of_name (by decide +kernel), rfl⟩, ⟨List.mem_of_getElem? (i := 747) (by decide +kernel), by decide +kernel⟩⟩
theorem vX6_forget : mVv YX6_forget 1 := ⟨⟨⟨List.mem_of_getElem? (i := 753) (by decide +kernel), by decide +kernel⟩, ⟨List.mem_of_getElem? (i := 45) (by decide +kernel), by decide +kernel⟩, ⟨List.mem_of_getElem? (i := 755) (by decide +kernel), by decide +kernel⟩, ⟨by decide +kernel, by decide +kernel⟩, by decide +kernel, plainFor_of_name (by decide +kernel), rfl⟩, ⟨List.mem_of_getElem? (i := 754) (by decide +kernel), by decide +kernel⟩⟩
theorem vX6_append : mVv YX6_append 1 := ⟨⟨⟨List.mem_of_getElem? (i := 764) (by decide +kernel), by decide +kernel⟩, ⟨List.mem_of_getElem? (i := 45) (by decide +kernel), by decide +kernel⟩, ⟨List.mem_of_getElem? (i := 766) (by decide +kernel), by decide +kernel⟩, ⟨by decide +kernel, by decide +kernel⟩, by decide +kernel, plainFor_of_name (by decide +kernel), rfl⟩, ⟨List.mem_of_getElem? (i := 765) (by decide +kernel), by decide +kernel⟩⟩
theorem vX6_clearBuffer : mVv YX6_clearBuffer 0 := ⟨⟨⟨List.mem_of_getElem? (i := 266) (by decide +kernel), by decide +kernel⟩, ⟨List.mem_of_getElem? (i := 45) (by decide +kernel), by decide +kernel⟩, ⟨List.mem_of_getElem? (i := 268) (by decide +kernel), by decide +kernel⟩, ⟨by decide +kernel, by decide +kernel⟩, by decide +kernel, plainFor_of_name (by decide +kernel), rfl⟩, ⟨List.mem_of_getElem? (i := 267) (by decide +kernel), by decide +kernel⟩⟩
theorem vX6_firstError : mVv YX6_firstError 0 := ⟨⟨⟨List.mem_of_getElem? (i := 270) (by decide +kernel), by decide +kernel⟩, ⟨List.mem_of_getElem? (i := 45) (by decide +kernel), by decide +kernel⟩, ⟨List.mem_of_getElem? (i := 272) (by decide +kernel), by decide +kernel⟩, ⟨by decide +kernel, by decide +kernel⟩, by decide +kernel, plainFor_of_name (by decide +kernel), rfl⟩, ⟨List.mem_of_getElem? (i := 271) (by decide +kernel), by decide +kernel⟩⟩
theorem vX6_say : mVv YX6_say 0 := ⟨⟨⟨List.mem_of_getElem? (i := 773) (by decide +kernel), by decide +kernel⟩, ⟨List.mem_of_getElem? (i := 45) (by decide +kernel), by decide +kernel⟩, ⟨List.mem_of_getElem? (i := 775) (by decide +kernel), by decide +kernel⟩, ⟨by decide +kernel, by decide +kernel⟩, by decide +kernel, plainFor_of_name (by decide +kernel), rfl⟩, ⟨List.mem_of_getElem? (i := 774) (by decide +kernel), by decide +kernel⟩⟩
theorem vX6_undo : mVv YX6_undo 0 := ⟨⟨⟨List.mem_of_getElem? (i := 803) (by decide +kernel), by decide +kernel⟩, ⟨List.mem_of_getElem? (i := 45) (by decide +kernel), by decide +kernel⟩, ⟨List.mem_of_getElem? (i := 805) (by decide +kernel), by decide +kernel⟩, ⟨by decide +kernel, by decide +kernel⟩, by decide +kernel, plainFor_of_name (by decide +kernel), rfl⟩, ⟨List.mem_of_getElem? (i := 804) (by decide +kernel), by decide +kernel⟩⟩
theorem vX6_street : mVv YX6_street 3 := ⟨⟨⟨List.mem_of_getElem? (i := 381) (by decide +kernel), by decide +kernel⟩, ⟨List.mem_of_getElem? (i := 45) (by decide +kernel), by decide +kernel⟩, ⟨List.mem_of_getElem? (i := 383) (by decide +kernel), by decide +kernel⟩, ⟨by decide +kernel, by decide +kernel⟩, by decide +kernel, plainFor_of_name (by decide +kernel), rfl⟩, ⟨List.mem_of_getElem? (i := 382) (by decide +kernel), by decide +kernel⟩⟩
theorem vX6_accent : mVv YX6_accent 3 := ⟨⟨⟨List.mem_of_getElem? (i := 419) (by decide +kernel), by decide +kernel⟩, ⟨List.mem_of_getElem? (i := 45) (by decide +kernel), by decide +kernel⟩, ⟨List.mem_of_getElem? (i := 421) (by decide +kernel), by decide +kernel⟩, ⟨by decide +kernel, by decide +kernel⟩, by decide +kernel, plainFor_of_name (by decide +kernel), rfl⟩, ⟨List.mem_of_getElem? (i := 420) (by decide +kernel), by decide +kernel⟩⟩
theorem vX6_waits : mVv YX6_waits 2 := ⟨⟨⟨List.mem_of_getElem? (i := 819) (by decide +kernel), by decide +kernel⟩, ⟨List.mem_of_getElem? (i := 45) (by decide +kernel), by decide +kernel⟩, ⟨List.mem_of_getElem? (i := 821) (by decide +kernel), by decide +kernel⟩, ⟨by decide +kernel, by decide +kernel⟩, by decide +kernel, plainFor_of_name (by decide +kernel), rfl⟩, ⟨List.mem_of_getElem? (i := 820) (by decide +kernel), by decide +kernel⟩⟩
theorem vX6_had : mVv YX6_had 1 := ⟨⟨⟨List.mem_of_getElem? (i := 546) (by decide +kernel), by decide +kernel⟩, ⟨List.mem_of_getElem? (i := 45) (by decide +kernel), by decide +kernel⟩, ⟨List.mem_of_getElem? (i := 548) (by decide +kernel), by decide +kernel⟩, ⟨by decide +kernel, by decide +kernel⟩, by decide +kernel, plainFor_of_name (by decide +kernel), rfl⟩, ⟨List.mem_of_getElem? (i := 547) (by decide +kernel), by decide +kernel⟩⟩
theorem vX6_count : mVv YX6_count 1 := ⟨⟨⟨List.mem_of_getElem? (i := 293) (by decide +kernel), by decide +kernel⟩, ⟨List.mem_of_getElem? (i := 45) (by decide +kernel), by decide +kernel⟩, ⟨List.mem_of_getElem? (i := 295) (by decide +kernel), by decide +kernel⟩, ⟨by decide +kernel, by decide +kernel⟩, by decide +kernel, plainFor_of_name (by decide +kernel), rfl⟩, ⟨List.mem_of_getElem? (i := 294) (by decide +kernel), by decide +kernel⟩⟩
theorem vX6_setting : mVv YX6_setting 1 := ⟨⟨⟨List.mem_of_getElem? (i := 835) (by decide +kernel), by decide +kernel⟩, ⟨List.mem_of_getElem? (i := 45) (by decide +kernel), by decide +kernel⟩, ⟨List.mem_of_getElem? (i := 837) (by decide +kernel), by decide +kernel⟩, ⟨by decide +kernel, by decide +kernel⟩, by decide +kernel, plainFor_of_name (by decide +kernel), rfl⟩, ⟨List.mem_of_getElem? (i := 836) (by decide +kernel), by decide +kernel⟩⟩
theorem vX6_sure : mVv YX6_sure 2 := ⟨⟨⟨List.mem_of_getElem? (i := 428) (by decide +kernel), by decide +kernel⟩, ⟨List.mem_of_getElem? (i := 45) (by decide +kernel), by decide +kernel⟩, ⟨List.mem_of_getElem? (i := 430) (by decide +kernel), by decide +kernel⟩, ⟨by decide +kernel, by decide +kernel⟩, by decide +kernel, plainFor_of_name (by decide +kernel), rfl⟩, ⟨List.mem_of_getElem? (i := 429) (by decide +kernel), by decide +kernel⟩⟩
theorem vX6_ifSent : mVv YX6_ifSent 3 := ⟨⟨⟨List.mem_of_getElem? (i := 550) (by decide +kernel), by decide +kernel⟩, ⟨List.mem_of_getElem? (i := 45) (by decide +kernel), by decide +kernel⟩, ⟨List.mem_of_getElem? (i := 552) (by decide +kernel), by decide +kernel⟩, ⟨by decide +kernel, by decide +kernel⟩, by decide +kernel, plainFor_of_name (by decide +kernel), rfl⟩, ⟨List.mem_of_getElem? (i := 551) (by decide +kernel), by decide +kernel⟩⟩
theorem vX6_ifLearned : mVv YX6_ifLearned 2 := ⟨⟨⟨List.mem_of_getElem? (i := 568) (by decide +kernel), by decide +kernel⟩, ⟨List.mem_of_getElem? (i := 45) (by decide +kernel), by decide +kernel⟩, ⟨List.mem_of_getElem? (i := 570) (by decide +kernel), by decide +kernel⟩, ⟨by decide +kernel, by decide +kernel⟩, by decide +kernel, plainFor_of_name (by decide +kernel), rfl⟩, ⟨List.mem_of_getElem? (i := 569) (by decide +kernel), by decide +kernel⟩⟩
theorem vX6_beatsFor : mVv YX6_beatsFor 1 := ⟨⟨⟨List.mem_of_getElem? (i := 623) (by decide +kernel), by decide +kernel⟩, ⟨List.mem_of_getElem? (i := 45) (by decide +kernel), by decide +kernel⟩, ⟨List.mem_of_getElem? (i := 625) (by decide +kernel), by decide +kernel⟩, ⟨by decide +kernel, by decide +kernel⟩, by decide +kernel, plainFor_of_name (by decide +kernel), rfl⟩, ⟨List.mem_of_getElem? (i := 624) (by decide +kernel), by decide +kernel⟩⟩
theorem vX6_bestLesson : mVv YX6_bestLesson 1 := ⟨⟨⟨List.mem_of_getElem? (i := 627) (by decide +kernel), by decide +kernel⟩, ⟨List.mem_of_getElem? (i := 45) (by decide +kernel), by decide +kernel⟩, ⟨List.mem_of_getElem? (i := 629) (by decide +kernel), by decide +kernel⟩, ⟨by decide +kernel, by decide +kernel⟩, by decide +kernel, plainFor_of_name (by decide +kernel), rfl⟩, ⟨List.mem_of_getElem? (i := 628) (by decide +kernel), by decide +kernel⟩⟩
theorem vX6_hurts : mVv YX6_hurts 2 := ⟨⟨⟨List.mem_of_getElem? (i := 447) (by decide +kernel), by decide +kernel⟩, ⟨List.mem_of_getElem? (i := 45) (by decide +kernel), by decide +kernel⟩, ⟨List.mem_of_getElem? (i := 449) (by decide +kernel), by decide +kernel⟩, ⟨by decide +kernel, by decide +kernel⟩, by decide +kernel, plainFor_of_name (by decide +kernel), rfl⟩, ⟨List.mem_of_getElem? (i := 448) (by decide +kernel), by decide +kernel⟩⟩
theorem vX6_rightShare : mVv YX6_rightShare 1 := ⟨⟨⟨List.mem_of_getElem? (i := 638) (by decide +kernel), by decide +kernel⟩, ⟨List.mem_of_getElem? (i := 45) (by decide +kernel), by decide +kernel⟩, ⟨List.mem_of_getElem? (i := 640) (by decide +kernel), by decide +kernel⟩, ⟨by decide +kernel, by decide +kernel⟩, by decide +kernel, plainFor_of_name (by decide +kernel), rfl⟩, ⟨List.mem_of_getElem? (i := 639) (by decide +kernel), by decide +kernel⟩⟩
theorem vX6_digest : mVv YX6_digest 0 := ⟨⟨⟨List.mem_of_getElem? (i := 287) (by decide +kernel), by decide +kernel⟩, ⟨List.mem_of_getElem? (i := 45) (by decide +kernel), by decide +kernel⟩, ⟨List.mem_of_getElem? (i := 289) (by decide +kernel), by decide +kernel⟩, ⟨by decide +kernel, by decide +kernel⟩, by decide +kernel, plainFor_of_name (by decide +kernel), rfl⟩, ⟨List.mem_of_getElem? (i := 288) (by decide +kernel), by decide +kernel⟩⟩
theorem vX6_digestOfTone : mVv YX6_digestOfTone 3 := ⟨⟨⟨List.mem_of_getElem? (i := 378) (by decide +kernel), by decide +kernel⟩, ⟨List.mem_of_getElem? (i := 45) (by decide +kernel), by decide +kernel⟩, ⟨List.mem_of_getElem? (i := 379) (by decide +kernel), by decide +kernel⟩, ⟨by decide +kernel, by decide +kernel⟩, by decide +kernel, plainFor_of_name (by decide +kernel), rfl⟩, ⟨List.mem_of_getElem? (i := 1) (by decide +kernel), by decide +kernel⟩⟩
theorem vX6_digestOfWay : mVv YX6_digestOfWay 2 := ⟨⟨⟨List.mem_of_getElem? (i := 542) (by decide +kernel), by decide +kernel⟩, ⟨List.mem_of_getElem? (i := 45) (by decide +kernel), by decide +kernel⟩, ⟨List.mem_of_getElem? (i := 543) (by decide +kernel), by decide +kernel⟩, ⟨by decide +kernel, by decide +kernel⟩, by decide +kernel, plainFor_of_name (by decide +kernel), rfl⟩, ⟨List.mem_of_getElem? (i := 4) (by decide +kernel), by decide +kernel⟩⟩
theorem vX6_bitsOfShare : mVs YX6_bitsOfShare 1 := ⟨⟨List.mem_of_getElem? (i := 642) (by decide +kernel), by decide +kernel⟩, ⟨List.mem_of_getElem? (i := 45) (by decide +kernel), by decide +kernel⟩, ⟨List.mem_of_getElem? (i := 643) (by decide +kernel), by decide +kernel⟩, ⟨by decide +kernel, by decide +kernel⟩, by decide +kernel, plainFor_of_name (by decide +kernel), rfl⟩
theorem vX6_wayOf : mVv YX6_wayOf 1 := ⟨⟨⟨List.mem_of_getElem? (i := 390) (by decide +kernel), by decide +kernel⟩, ⟨List.mem_of_getElem? (i := 45) (by decide +kernel), by decide +kernel⟩, ⟨List.mem_of_getElem? (i := 391) (by decide +kernel), by decide +kernel⟩, ⟨by decide +kernel, by decide +kernel⟩, by decide +kernel, plainFor_of_name (by decide +kernel), rfl⟩, ⟨List.mem_of_getElem? (i := 3) (by decide +kernel), by decide +kernel⟩⟩
theorem vX6_toneOf : mVv YX6_toneOf 2 := ⟨⟨⟨List.mem_of_getElem? (i := 386) (by decide +kernel), by decide +kernel⟩, ⟨List.mem_of_getElem? (i := 45) (by decide +kernel), by decide +kernel⟩, ⟨List.mem_of_getElem? (i := 387) (by decide +kernel), by decide +kernel⟩, ⟨by decide +kernel, by decide +kernel⟩, by decide +kernel, plainFor_of_name (by decide +kernel), rfl⟩, ⟨List.mem_of_getElem? (i := 2) (by decide +kernel), by decide +kernel⟩⟩
theorem vX6_checkStreetNumber : mVs YX6_checkStreetNumber 2 := ⟨⟨List.mem_of_getElem? (i := 657) (by decide +kernel), by decide +kernel⟩, ⟨List.mem_of_getElem? (i := 45) (by decide +kernel), by decide +kernel⟩, ⟨List.mem_of_getElem? (i := 658) (by decide +kernel), by decide +kernel⟩, ⟨by decide +kernel, by decide +kernel⟩, by decide +kernel, plainFor_of_name (by decide +kernel), rfl⟩
theorem vX6_checkSetting : mVs YX6_checkSetting 1 := ⟨⟨List.mem_of_getElem? (i := 722) (by decide +kernel), by decide +kernel⟩, ⟨List.mem_of_getElem? (i := 45) (by decide +kernel), by decide +kernel⟩, ⟨List.mem_of_getElem? (i := 723) (by decide +kernel), by decide +kernel⟩, ⟨by decide +kernel, by decide +kernel⟩, by decide +kernel, plainFor_of_name (by decide +kernel), rfl⟩
theorem vX6_checkBeats : mVs YX6_checkBeats 1 := ⟨⟨List.mem_of_getElem? (i := 554) (by decide +kernel), by decide +kernel⟩, ⟨List.mem_of_getElem? (i := 45) (by decide +kernel), by decide +kernel⟩, ⟨List.mem_of_getElem? (i := 555) (by decide +kernel), by decide +kernel⟩, ⟨by decide +kernel, by decide +kernel⟩, by decide +kernel, plainFor_of_name (by decide +kernel), rfl⟩
theorem vX6_checkBeatsLeft : mVv YX6_checkBeatsLeft 1 := ⟨⟨⟨List.mem_of_getElem? (i := 739) (by decide +kernel), by decide +kernel⟩, ⟨List.mem_of_getElem? (i := 45) (by decide +kernel), by decide +kernel⟩, ⟨List.mem_of_getElem? (i := 740) (by decide +kernel), by decide +kernel⟩, ⟨by decide +kernel, by decide +kernel⟩, by decide +kernel, plainFor_of_name (by decide +kernel), rfl⟩, ⟨List.mem_of_getElem? (i := 7) (by decide +kernel), by decide +kernel⟩⟩
theorem vX6_save : mVv YX6_save 0 := ⟨⟨⟨List.mem_of_getElem? (i := 667) (by decide +kernel), by decide +kernel⟩, ⟨List.mem_of_getElem? (i := 45) (by decide +kernel), by decide +kernel⟩, ⟨List.mem_of_getElem? (i := 668) (by decide +kernel), by decide +kernel⟩, ⟨by decide +kernel, by decide +kernel⟩, by decide +kernel, plainFor_of_name (by decide +kernel), rfl⟩, ⟨List.mem_of_getElem? (i := 5) (by decide +kernel), by decide +kernel⟩⟩
theorem vX6_dropOldest : mVv YX6_dropOldest 0 := ⟨⟨⟨List.mem_of_getElem? (i := 671) (by decide +kernel), by decide +kernel⟩, ⟨List.mem_of_getElem? (i := 45) (by decide +kernel), by decide +kernel⟩, ⟨List.mem_of_getElem? (i := 672) (by decide +kernel), by decide +kernel⟩, ⟨by decide +kernel, by decide +kernel⟩, by decide +kernel, plainFor_of_name (by decide +kernel), rfl⟩, ⟨List.mem_of_getElem? (i := 6) (by decide +kernel), by decide +kernel⟩⟩
theorem vX7_init : mVi YX7_init 0 := ⟨⟨List.mem_of_getElem? (i := 869) (by decide +kernel), by decide +kernel⟩, ⟨List.mem_of_getElem? (i := 52) (by decide +kernel), by decide +kernel⟩, ⟨List.mem_of_getElem? (i := 870) (by decide +kernel), by decide +kernel⟩, ⟨by decide +kernel, by decide +kernel⟩, by decide +kernel, plainFor_of_name (by decide +kernel), rfl⟩
theorem vX7_thrown : mVv YX7_thrown 0 := ⟨⟨⟨List.mem_of_getElem? (i := 917) (by decide +kernel), by decide +kernel⟩, ⟨List.mem_of_getElem? (i := 52) (by decide +kernel), by decide +kernel⟩, ⟨List.mem_of_getElem? (i := 919) (by decide +kernel), by decide +kernel⟩, ⟨by decide +kernel, by decide +kernel⟩, by decide +kernel, plainFor_of_name (by decide +kernel), rfl⟩, ⟨List.mem_of_getElem? (i := 918) (by decide +kernel), by decide +kernel⟩⟩
theorem vX7_fails : mVv YX7_fails 1 := ⟨⟨⟨List.mem_of_getElem? (i := 935) (by decide +kernel), by decide +kernel⟩, ⟨List.mem_of_getElem? (i := 52) (by decide +kernel), by decide +kernel⟩, ⟨List.mem_of_getElem? (i := 936) (by decide +kernel), by decide +kernel⟩, ⟨by decide +kernel, by decide +kernel⟩, by decide +kernel, plainFor_of_name (by decide +kernel), rfl⟩, ⟨List.mem_of_getElem? (i := 8) (by decide +kernel), by decide +kernel⟩⟩
theorem vX7_in : mVs YX7_in 3 := ⟨⟨List.mem_of_getElem? (i := 928) (by decide +kernel), by decide +kernel⟩, ⟨List.mem_of_getElem? (i := 52) (by decide +kernel), by decide +kernel⟩, ⟨List.mem_of_getElem? (i := 929) (by decide +kernel), by decide +kernel⟩, ⟨by decide +kernel, by decide +kernel⟩, by decide +kernel, plainFor_of_name (by decide +kernel), rfl⟩
theorem vX7_size : mVs YX7_size 1 := ⟨⟨List.mem_of_getElem? (i := 1003) (by decide +kernel), by decide +kernel⟩, ⟨List.mem_of_getElem? (i := 52) (by decide +kernel), by decide +kernel⟩, ⟨List.mem_of_getElem? (i := 1004) (by decide +kernel), by decide +kernel⟩, ⟨by decide +kernel, by decide +kernel⟩, by decide +kernel, plainFor_of_name (by decide +kernel), rfl⟩
theorem vX7_isWay : mVs YX7_isWay 1 := ⟨⟨List.mem_of_getElem? (i := 925) (by decide +kernel), by decide +kernel⟩, ⟨List.mem_of_getElem? (i := 52) (by decide +kernel), by decide +kernel⟩, ⟨List.mem_of_getElem? (i := 926) (by decide +kernel), by decide +kernel⟩, ⟨by decide +kernel, by decide +kernel⟩, by decide +kernel, plainFor_of_name (by decide +kernel), rfl⟩
theorem vX7_isTone : mVs YX7_isTone 1 := ⟨⟨List.mem_of_getElem? (i := 931) (by decide +kernel), by decide +kernel⟩, ⟨List.mem_of_getElem? (i := 52) (by decide +kernel), by decide +kernel⟩, ⟨List.mem_of_getElem? (i := 932) (by decide +kernel), by decide +kernel⟩, ⟨by decide +kernel, by decide +kernel⟩, by decide +kernel, plainFor_of_name (by decide +kernel), rfl⟩
theorem vX7_streetAt : mVv YX7_streetAt 2 := ⟨⟨⟨List.mem_of_getElem? (i := 946) (by decide +kernel), by decide +kernel⟩, ⟨List.mem_of_getElem? (i := 52) (by decide +kernel), by decide +kernel⟩, ⟨List.mem_of_getElem? (i := 947) (by decide +kernel), by decide +kernel⟩, ⟨by decide +kernel, by decide +kernel⟩, by decide +kernel, plainFor_of_name (by decide +kernel), rfl⟩, ⟨List.mem_of_getElem? (i := 10) (by decide +kernel), by decide +kernel⟩⟩
theorem vX7_accentAt : mVv YX7_accentAt 2 := ⟨⟨⟨List.mem_of_getElem? (i := 954) (by decide +kernel), by decide +kernel⟩, ⟨List.mem_of_getElem? (i := 52) (by decide +kernel), by decide +kernel⟩, ⟨List.mem_of_getElem? (i := 955) (by decide +kernel), by decide +kernel⟩, ⟨by decide +kernel, by decide +kernel⟩, by decide +kernel, plainFor_of_name (by decide +kernel), rfl⟩, ⟨List.mem_of_getElem? (i := 11) (by decide +kernel), by decide +kernel⟩⟩
theorem vX7_save : mVv YX7_save 0 := ⟨⟨⟨List.mem_of_getElem? (i := 942) (by decide +kernel), by decide +kernel⟩, ⟨List.mem_of_getElem? (i := 52) (by decide +kernel), by decide +kernel⟩, ⟨List.mem_of_getElem? (i := 943) (by decide +kernel), by decide +kernel⟩, ⟨by decide +kernel, by decide +kernel⟩, by decide +kernel, plainFor_of_name (by decide +kernel), rfl⟩, ⟨List.mem_of_getElem? (i := 9) (by decide +kernel), by decide +kernel⟩⟩
theorem vX7_putAside : mVv YX7_putAside 0 := ⟨⟨⟨List.mem_of_getElem? (i := 1141) (by decide +kernel), by decide +kernel⟩, ⟨List.mem_of_getElem? (i := 52) (by decide +kernel), by decide +kernel⟩, ⟨List.mem_of_getElem? (i := 1142) (by decide +kernel), by decide +kernel⟩, ⟨by decide +kernel, by decide +kernel⟩, by decide +kernel, plainFor_of_name (by decide +kernel), rfl⟩, ⟨List.mem_of_getElem? (i := 34) (by decide +kernel), by decide +kernel⟩⟩
theorem vX7_putBack : mVv YX7_putBack 0 := ⟨⟨⟨List.mem_of_getElem? (i := 1145) (by decide +kernel), by decide +kernel⟩, ⟨List.mem_of_getElem? (i := 52) (by decide +kernel), by decide +kernel⟩, ⟨List.mem_of_getElem? (i := 1146) (by decide +kernel), by decide +kernel⟩, ⟨by decide +kernel, by decide +kernel⟩, by decide +kernel, plainFor_of_name (by decide +kernel), rfl⟩, ⟨List.mem_of_getElem? (i := 35) (by decide +kernel), by decide +kernel⟩⟩
theorem vX7_mayBuild : mVs YX7_mayBuild 2 := ⟨⟨List.mem_of_getElem? (i := 938) (by decide +kernel), by decide +kernel⟩, ⟨List.mem_of_getElem? (i := 52) (by decide +kernel), by decide +kernel⟩, ⟨List.mem_of_getElem? (i := 939) (by decide +kernel), by decide +kernel⟩, ⟨by decide +kernel, by decide +kernel⟩, by decide +kernel, plainFor_of_name (by decide +kernel), rfl⟩
theorem vX7_build : mVv YX7_build 4 := ⟨⟨⟨List.mem_of_getElem? (i := 921) (by decide +kernel), by decide +kernel⟩, ⟨List.mem_of_getElem? (i := 52) (by decide +kernel), by decide +kernel⟩, ⟨List.mem_of_getElem? (i := 923) (by decide +kernel), by decide +kernel⟩, ⟨by decide +kernel, by decide +kernel⟩, by decide +kernel, plainFor_of_name (by decide +kernel), rfl⟩, ⟨List.mem_of_getElem? (i := 922) (by decide +kernel), by decide +kernel⟩⟩
theorem vX7_carry : mVv YX7_carry 3 := ⟨⟨⟨List.mem_of_getElem? (i := 949) (by decide +kernel), by decide +kernel⟩, ⟨List.mem_of_getElem? (i := 52) (by decide +kernel), by decide +kernel⟩, ⟨List.mem_of_getElem? (i := 951) (by decide +kernel), by decide +kernel⟩, ⟨by decide +kernel, by decide +kernel⟩, by decide +kernel, plainFor_of_name (by decide +kernel), rfl⟩, ⟨List.mem_of_getElem? (i := 950) (by decide +kernel), by decide +kernel⟩⟩
theorem vX7_insult : mVv YX7_insult 3 := ⟨⟨⟨List.mem_of_getElem? (i := 957) (by decide +kernel), by decide +kernel⟩, ⟨List.mem_of_getElem? (i := 52) (by decide +kernel), by decide +kernel⟩, ⟨List.mem_of_getElem? (i := 959) (by decide +kernel), by decide +kernel⟩, ⟨by decide +kernel, by decide +kernel⟩, by decide +kernel, plainFor_of_name (by decide +kernel), rfl⟩, ⟨List.mem_of_getElem? (i := 958) (by decide +kernel), by decide +kernel⟩⟩
theorem vX7_maySet : mVs YX7_maySet 2 := ⟨⟨List.mem_of_getElem? (i := 965) (by decide +kernel), by decide +kernel⟩, ⟨List.mem_of_getElem? (i := 52) (by decide +kernel), by decide +kernel⟩, ⟨List.mem_of_getElem? (i := 966) (by decide +kernel), by decide +kernel⟩, ⟨by decide +kernel, by decide +kernel⟩, by decide +kernel, plainFor_of_name (by decide +kernel), rfl⟩
theorem vX7_set : mVv YX7_set 2 := ⟨⟨⟨List.mem_of_getElem? (i := 961) (by decide +kernel), by decide +kernel⟩, ⟨List.mem_of_getElem? (i := 52) (by decide +kernel), by decide +kernel⟩, ⟨List.mem_of_getElem? (i := 963) (by decide +kernel), by decide +kernel⟩, ⟨by decide +kernel, by decide +kernel⟩, by decide +kernel, plainFor_of_name (by decide +kernel), rfl⟩, ⟨List.mem_of_getElem? (i := 962) (by decide +kernel), by decide +kernel⟩⟩
theorem vX7_draw : mVv YX7_draw 1 := ⟨⟨⟨List.mem_of_getElem? (i := 989) (by decide +kernel), by decide +kernel⟩, ⟨List.mem_of_getElem? (i := 52) (by decide +kernel), by decide +kernel⟩, ⟨List.mem_of_getElem? (i := 990) (by decide +kernel), by decide +kernel⟩, ⟨by decide +kernel, by decide +kernel⟩, by decide +kernel, plainFor_of_name (by decide +kernel), rfl⟩, ⟨List.mem_of_getElem? (i := 16) (by decide +kernel), by decide +kernel⟩⟩
theorem vX7_amplitude : mVs YX7_amplitude 2 := ⟨⟨List.mem_of_getElem? (i := 1038) (by decide +kernel), by decide +kernel⟩, ⟨List.mem_of_getElem? (i := 52) (by decide +kernel), by decide +kernel⟩, ⟨List.mem_of_getElem? (i := 1039) (by decide +kernel), by decide +kernel⟩, ⟨by decide +kernel, by decide +kernel⟩, by decide +kernel, plainFor_of_name (by decide +kernel), rfl⟩
theorem vX7_hear : mVv YX7_hear 3 := ⟨⟨⟨List.mem_of_getElem? (i := 997) (by decide +kernel), by decide +kernel⟩, ⟨List.mem_of_getElem? (i := 52) (by decide +kernel), by decide +kernel⟩, ⟨List.mem_of_getElem? (i := 998) (by decide +kernel), by decide +kernel⟩, ⟨by decide +kernel, by decide +kernel⟩, by decide +kernel, plainFor_of_name (by decide +kernel), rfl⟩, ⟨List.mem_of_getElem? (i := 17) (by decide +kernel), by decide +kernel⟩⟩
theorem vX7_held : mVs YX7_held 3 := ⟨⟨List.mem_of_getElem? (i := 1000) (by decide +kernel), by decide +kernel⟩, ⟨List.mem_of_getElem? (i := 52) (by decide +kernel), by decide +kernel⟩, ⟨List.mem_of_getElem? (i := 1001) (by decide +kernel), by decide +kernel⟩, ⟨by decide +kernel, by decide +kernel⟩, by decide +kernel, plainFor_of_name (by decide +kernel), rfl⟩
theorem vX7_learnTone : mVv YX7_learnTone 3 := ⟨⟨⟨List.mem_of_getElem? (i := 985) (by decide +kernel), by decide +kernel⟩, ⟨List.mem_of_getElem? (i := 52) (by decide +kernel), by decide +kernel⟩, ⟨List.mem_of_getElem? (i := 986) (by decide +kernel), by decide +kernel⟩, ⟨by decide +kernel, by decide +kernel⟩, by decide +kernel, plainFor_of_name (by decide +kernel), rfl⟩, ⟨List.mem_of_getElem? (i := 15) (by decide +kernel), by decide +kernel⟩⟩
theorem vX7_learnBeat : mVv YX7_learnBeat 2 := ⟨⟨⟨List.mem_of_getElem? (i := 981) (by decide +kernel), by decide +kernel⟩, ⟨List.mem_of_getElem? (i := 52) (by decide +kernel), by decide +kernel⟩, ⟨List.mem_of_getElem? (i := 982) (by decide +kernel), by decide +kernel⟩, ⟨by decide +kernel, by decide +kernel⟩, by decide +kernel, plainFor_of_name (by decide +kernel), rfl⟩, ⟨List.mem_of_getElem? (i := 14) (by decide +kernel), by decide +kernel⟩⟩
theorem vX7_worstOf : mVv YX7_worstOf 2 := ⟨⟨⟨List.mem_of_getElem? (i := 1007) (by decide +kernel), by decide +kernel⟩, ⟨List.mem_of_getElem? (i := 52) (by decide +kernel), by decide +kernel⟩, ⟨List.mem_of_getElem? (i := 1008) (by decide +kernel), by decide +kernel⟩, ⟨by decide +kernel, by decide +kernel⟩, by decide +kernel, plainFor_of_name (by decide +kernel), rfl⟩, ⟨List.mem_of_getElem? (i := 18) (by decide +kernel), by decide +kernel⟩⟩
theorem vX7_bitsBy : mVv YX7_bitsBy 2 := ⟨⟨⟨List.mem_of_getElem? (i := 1011) (by decide +kernel), by decide +kernel⟩, ⟨List.mem_of_getElem? (i := 52) (by decide +kernel), by decide +kernel⟩, ⟨List.mem_of_getElem? (i := 1012) (by decide +kernel), by decide +kernel⟩, ⟨by decide +kernel, by decide +kernel⟩, by decide +kernel, plainFor_of_name (by decide +kernel), rfl⟩, ⟨List.mem_of_getElem? (i := 19) (by decide +kernel), by decide +kernel⟩⟩
theorem vX7_lessonBits : mVv YX7_lessonBits 2 := ⟨⟨⟨List.mem_of_getElem? (i := 1173) (by decide +kernel), by decide +kernel⟩, ⟨List.mem_of_getElem? (i := 52) (by decide +kernel), by decide +kernel⟩, ⟨List.mem_of_getElem? (i := 1174) (by decide +kernel), by decide +kernel⟩, ⟨by decide +kernel, by decide +kernel⟩, by decide +kernel, plainFor_of_name (by decide +kernel), rfl⟩, ⟨List.mem_of_getElem? (i := 39) (by decide +kernel), by decide +kernel⟩⟩
theorem vX7_carried : mVv YX7_carried 1 := ⟨⟨⟨List.mem_of_getElem? (i := 1015) (by decide +kernel), by decide +kernel⟩, ⟨List.mem_of_getElem? (i := 52) (by decide +kernel), by decide +kernel⟩, ⟨List.mem_of_getElem? (i := 1016) (by decide +kernel), by decide +kernel⟩, ⟨by decide +kernel, by decide +kernel⟩, by decide +kernel, plainFor_of_name (by decide +kernel), rfl⟩, ⟨List.mem_of_getElem? (i := 20) (by decide +kernel), by decide +kernel⟩⟩
theorem vX7_learnAll : mVv YX7_learnAll 2 := ⟨⟨⟨List.mem_of_getElem? (i := 977) (by decide +kernel), by decide +kernel⟩, ⟨List.mem_of_getElem? (i := 52) (by decide +kernel), by decide +kernel⟩, ⟨List.mem_of_getElem? (i := 978) (by decide +kernel), by decide +kernel⟩, ⟨by decide +kernel, by decide +kernel⟩, by decide +kernel, plainFor_of_name (by decide +kernel), rfl⟩, ⟨List.mem_of_getElem? (i := 13) (by decide +kernel), by decide +kernel⟩⟩
theorem vX7_mayBeat : mVv YX7_mayBeat 2 := ⟨⟨⟨List.mem_of_getElem? (i := 973) (by decide +kernel), by decide +kernel⟩, ⟨List.mem_of_getElem? (i := 52) (by decide +kernel), by decide +kernel⟩, ⟨List.mem_of_getElem? (i := 974) (by decide +kernel), by decide +kernel⟩, ⟨by decide +kernel, by decide +kernel⟩, by decide +kernel, plainFor_of_name (by decide +kernel), rfl⟩, ⟨List.mem_of_getElem? (i := 12) (by decide +kernel), by decide +kernel⟩⟩
theorem vX7_learn : mVv YX7_learn 2 := ⟨⟨⟨List.mem_of_getElem? (i := 968) (by decide +kernel), by decide +kernel⟩, ⟨List.mem_of_getElem? (i := 52) (by decide +kernel), by decide +kernel⟩, ⟨List.mem_of_getElem? (i := 970) (by decide +kernel), by decide +kernel⟩, ⟨by decide +kernel, by decide +kernel⟩, by decide +kernel, plainFor_of_name (by decide +kernel), rfl⟩, ⟨List.mem_of_getElem? (i := 969) (by decide +kernel), by decide +kernel⟩⟩
theorem vX7_takeBit : mVv YX7_takeBit 1 := ⟨⟨⟨List.mem_of_getElem? (i := 1035) (by decide +kernel), by decide +kernel⟩, ⟨List.mem_of_getElem? (i := 52) (by decide +kernel), by decide +kernel⟩, ⟨List.mem_of_getElem? (i := 1036) (by decide +kernel), by decide +kernel⟩, ⟨by decide +kernel, by decide +kernel⟩, by decide +kernel, plainFor_of_name (by decide +kernel), rfl⟩, ⟨List.mem_of_getElem? (i := 24) (by decide +kernel), by decide +kernel⟩⟩
theorem vX7_decide : mVv YX7_decide 3 := ⟨⟨⟨List.mem_of_getElem? (i := 1042) (by decide +kernel), by decide +kernel⟩, ⟨List.mem_of_getElem? (i := 52) (by decide +kernel), by decide +kernel⟩, ⟨List.mem_of_getElem? (i := 1043) (by decide +kernel), by decide +kernel⟩, ⟨by decide +kernel, by decide +kernel⟩, by decide +kernel, plainFor_of_name (by decide +kernel), rfl⟩, ⟨List.mem_of_getElem? (i := 25) (by decide +kernel), by decide +kernel⟩⟩
theorem vX7_ones : mVs YX7_ones 1 := ⟨⟨List.mem_of_getElem? (i := 1045) (by decide +kernel), by decide +kernel⟩, ⟨List.mem_of_getElem? (i := 52) (by decide +kernel), by decide +kernel⟩, ⟨List.mem_of_getElem? (i := 1046) (by decide +kernel), by decide +kernel⟩, ⟨by decide +kernel, by decide +kernel⟩, by decide +kernel, plainFor_of_name (by decide +kernel), rfl⟩
theorem vX7_sendTone : mVv YX7_sendTone 2 := ⟨⟨⟨List.mem_of_getElem? (i := 1031) (by decide +kernel), by decide +kernel⟩, ⟨List.mem_of_getElem? (i := 52) (by decide +kernel), by decide +kernel⟩, ⟨List.mem_of_getElem? (i := 1032) (by decide +kernel), by decide +kernel⟩, ⟨by decide +kernel, by decide +kernel⟩, by decide +kernel, plainFor_of_name (by decide +kernel), rfl⟩, ⟨List.mem_of_getElem? (i := 23) (by decide +kernel), by decide +kernel⟩⟩
theorem vX7_sendBeat : mVv YX7_sendBeat 1 := ⟨⟨⟨List.mem_of_getElem? (i := 1027) (by decide +kernel), by decide +kernel⟩, ⟨List.mem_of_getElem? (i := 52) (by decide +kernel), by decide +kernel⟩, ⟨List.mem_of_getElem? (i := 1028) (by decide +kernel), by decide +kernel⟩, ⟨by decide +kernel, by decide +kernel⟩, by decide +kernel, plainFor_of_name (by decide +kernel), rfl⟩, ⟨List.mem_of_getElem? (i := 22) (by decide +kernel), by decide +kernel⟩⟩
theorem vX7_sendAll : mVv YX7_sendAll 2 := ⟨⟨⟨List.mem_of_getElem? (i := 1023) (by decide +kernel), by decide +kernel⟩, ⟨List.mem_of_getElem? (i := 52) (by decide +kernel), by decide +kernel⟩, ⟨List.mem_of_getElem? (i := 1024) (by decide +kernel), by decide +kernel⟩, ⟨by decide +kernel, by decide +kernel⟩, by decide +kernel, plainFor_of_name (by decide +kernel), rfl⟩, ⟨List.mem_of_getElem? (i := 21) (by decide +kernel), by decide +kernel⟩⟩
theorem vX7_send : mVv YX7_send 2 := ⟨⟨⟨List.mem_of_getElem? (i := 1018) (by decide +kernel), by decide +kernel⟩, ⟨List.mem_of_getElem? (i := 52) (by decide +kernel), by decide +kernel⟩, ⟨List.mem_of_getElem? (i := 1020) (by decide +kernel), by decide +kernel⟩, ⟨by decide +kernel, by decide +kernel⟩, by decide +kernel, plainFor_of_name (by decide +kernel), rfl⟩, ⟨List.mem_of_getElem? (i := 1019) (by decide +kernel), by decide +kernel⟩⟩
theorem vX7_forget : mVv YX7_forget 1 := ⟨⟨⟨List.mem_of_getElem? (i := 1049) (by decide +kernel), by decide +kernel⟩, ⟨List.mem_of_getElem? (i := 52) (by decide +kernel), by decide +kernel⟩, ⟨List.mem_of_getElem? (i := 1051) (by decide +kernel), by decide +kernel⟩, ⟨by decide +kernel, by decide +kernel⟩, by decide +kernel, plainFor_of_name (by decide +kernel), rfl⟩, ⟨List.mem_of_getElem? (i := 1050) (by decide +kernel), by decide +kernel⟩⟩
theorem vX7_append : mVv YX7_append 1 := ⟨⟨⟨List.mem_of_getElem? (i := 1053) (by decide +kernel), by decide +kernel⟩, ⟨List.mem_of_getElem? (i := 52) (by decide +kernel), by decide +kernel⟩, ⟨List.mem_of_getElem? (i := 1055) (by decide +kernel), by decide +kernel⟩, ⟨by decide +kernel, by decide +kernel⟩, by decide +kernel, plainFor_of_name (by decide +kernel), rfl⟩, ⟨List.mem_of_getElem? (i := 1054) (by decide +kernel), by decide +kernel⟩⟩
theorem vX7_clearBuffer : mVv YX7_clearBuffer 0 := ⟨⟨⟨List.mem_of_getElem? (i := 1057) (by decide +kernel), by decide +kernel⟩, ⟨List.mem_of_getElem? (i := 52) (by decide +kernel), by decide +kernel⟩, ⟨List.mem_of_getElem? (i := 1059) (by decide +kernel), by decide +kernel⟩, ⟨by decide +kernel, by decide +kernel⟩, by decide +kernel, plainFor_of_name (by decide +kernel), rfl⟩, ⟨List.mem_of_getElem? (i := 1058) (by decide +kernel), by decide +kernel⟩⟩
theorem vX7_digit : mVs YX7_digit 1 := ⟨⟨List.mem_of_getElem? (i := 1073) (by decide +kernel), by decide +kernel⟩, ⟨List.mem_of_getElem? (i := 52) (by decide +kernel), by decide +kernel⟩, ⟨List.mem_of_getElem? (i := 1074) (by decide +kernel), by decide +kernel⟩, ⟨by decide +kernel, by decide +kernel⟩, by decide +kernel, plainFor_of_name (by decide +kernel), rfl⟩
theorem vX7_nextState : mVv YX7_nextState 2 := ⟨⟨⟨List.mem_of_getElem? (i := 1070) (by decide +kernel), by decide +kernel⟩, ⟨List.mem_of_getElem? (i := 52) (by decide +kernel), by decide +kernel⟩, ⟨List.mem_of_getElem? (i := 1071) (by decide +kernel), by decide +kernel⟩, ⟨by decide +kernel, by decide +kernel⟩, by decide +kernel, plainFor_of_name (by decide +kernel), rfl⟩, ⟨List.mem_of_getElem? (i := 27) (by decide +kernel), by decide +kernel⟩⟩
theorem vX7_read : mVv YX7_read 0 := ⟨⟨⟨List.mem_of_getElem? (i := 1066) (by decide +kernel), by decide +kernel⟩, ⟨List.mem_of_getElem? (i := 52) (by decide +kernel), by decide +kernel⟩, ⟨List.mem_of_getElem? (i := 1067) (by decide +kernel), by decide +kernel⟩, ⟨by decide +kernel, by decide +kernel⟩, by decide +kernel, plainFor_of_name (by decide +kernel), rfl⟩, ⟨List.mem_of_getElem? (i := 26) (by decide +kernel), by decide +kernel⟩⟩
theorem vX7_firstError : mVv YX7_firstError 0 := ⟨⟨⟨List.mem_of_getElem? (i := 1061) (by decide +kernel), by decide +kernel⟩, ⟨List.mem_of_getElem? (i := 52) (by decide +kernel), by decide +kernel⟩, ⟨List.mem_of_getElem? (i := 1063) (by decide +kernel), by decide +kernel⟩, ⟨by decide +kernel, by decide +kernel⟩, by decide +kernel, plainFor_of_name (by decide +kernel), rfl⟩, ⟨List.mem_of_getElem? (i := 1062) (by decide +kernel), by decide +kernel⟩⟩
theorem vX7_saidOn : mVv YX7_saidOn 1 := ⟨⟨⟨List.mem_of_getElem? (i := 1081) (by decide +kernel), by decide +kernel⟩, ⟨List.mem_of_getElem? (i := 52) (by decide +kernel), by decide +kernel⟩, ⟨List.mem_of_getElem? (i := 1082) (by decide +kernel), by decide +kernel⟩, ⟨by decide +kernel, by decide +kernel⟩, by decide +kernel, plainFor_of_name (by decide +kernel), rfl⟩, ⟨List.mem_of_getElem? (i := 28) (by decide +kernel), by decide +kernel⟩⟩
theorem vX7_say : mVv YX7_say 0 := ⟨⟨⟨List.mem_of_getElem? (i := 1076) (by decide +kernel), by decide +kernel⟩, ⟨List.mem_of_getElem? (i := 52) (by decide +kernel), by decide +kernel⟩, ⟨List.mem_of_getElem? (i := 1078) (by decide +kernel), by decide +kernel⟩, ⟨by decide +kernel, by decide +kernel⟩, by decide +kernel, plainFor_of_name (by decide +kernel), rfl⟩, ⟨List.mem_of_getElem? (i := 1077) (by decide +kernel), by decide +kernel⟩⟩
theorem vX7_undo : mVv YX7_undo 0 := ⟨⟨⟨List.mem_of_getElem? (i := 1084) (by decide +kernel), by decide +kernel⟩, ⟨List.mem_of_getElem? (i := 52) (by decide +kernel), by decide +kernel⟩, ⟨List.mem_of_getElem? (i := 1086) (by decide +kernel), by decide +kernel⟩, ⟨by decide +kernel, by decide +kernel⟩, by decide +kernel, plainFor_of_name (by decide +kernel), rfl⟩, ⟨List.mem_of_getElem? (i := 1085) (by decide +kernel), by decide +kernel⟩⟩
theorem vX7_street : mVv YX7_street 3 := ⟨⟨⟨List.mem_of_getElem? (i := 1088) (by decide +kernel), by decide +kernel⟩, ⟨List.mem_of_getElem? (i := 52) (by decide +kernel), by decide +kernel⟩, ⟨List.mem_of_getElem? (i := 1090) (by decide +kernel), by decide +kernel⟩, ⟨by decide +kernel, by decide +kernel⟩, by decide +kernel, plainFor_of_name (by decide +kernel), rfl⟩, ⟨List.mem_of_getElem? (i := 1089) (by decide +kernel), by decide +kernel⟩⟩
theorem vX7_accent : mVv YX7_accent 3 := ⟨⟨⟨List.mem_of_getElem? (i := 1092) (by decide +kernel), by decide +kernel⟩, ⟨List.mem_of_getElem? (i := 52) (by decide +kernel), by decide +kernel⟩, ⟨List.mem_of_getElem? (i := 1094) (by decide +kernel), by decide +kernel⟩, ⟨by decide +kernel, by decide +kernel⟩, by decide +kernel, plainFor_of_name (by decide +kernel), rfl⟩, ⟨List.mem_of_getElem? (i := 1093) (by decide +kernel), by decide +kernel⟩⟩
theorem vX7_waits : mVv YX7_waits 2 := ⟨⟨⟨List.mem_of_getElem? (i := 1096) (by decide +kernel), by decide +kernel⟩, ⟨List.mem_of_getElem? (i := 52) (by decide +kernel), by decide +kernel⟩, ⟨List.mem_of_getElem? (i := 1098) (by decide +kernel), by decide +kernel⟩, ⟨by decide +kernel, by decide +kernel⟩, by decide +kernel, plainFor_of_name (by decide +kernel), rfl⟩, ⟨List.mem_of_getElem? (i := 1097) (by decide +kernel), by decide +kernel⟩⟩
theorem vX7_had : mVv YX7_had 1 := ⟨⟨⟨List.mem_of_getElem? (i := 1100) (by decide +kernel), by decide +kernel⟩, ⟨List.mem_of_getElem? (i := 52) (by decide +kernel), by decide +kernel⟩, ⟨List.mem_of_getElem? (i := 1102) (by decide +kernel), by decide +kernel⟩, ⟨by decide +kernel, by decide +kernel⟩, by decide +kernel, plainFor_of_name (by decide +kernel), rfl⟩, ⟨List.mem_of_getElem? (i := 1101) (by decide +kernel), by decide +kernel⟩⟩
theorem vX7_shyAll : mVv YX7_shyAll 0 := ⟨⟨⟨List.mem_of_getElem? (i := 1113) (by decide +kernel), by decide +kernel⟩, ⟨List.mem_of_getElem? (i := 52) (by decide +kernel), by decide +kernel⟩, ⟨List.mem_of_getElem? (i := 1114) (by decide +kernel), by decide +kernel⟩, ⟨by decide +kernel, by decide +kernel⟩, by decide +kernel, plainFor_of_name (by decide +kernel), rfl⟩, ⟨List.mem_of_getElem? (i := 30) (by decide +kernel), by decide +kernel⟩⟩
theorem vX7_insults : mVv YX7_insults 0 := ⟨⟨⟨List.mem_of_getElem? (i := 1117) (by decide +kernel), by decide +kernel⟩, ⟨List.mem_of_getElem? (i := 52) (by decide +kernel), by decide +kernel⟩, ⟨List.mem_of_getElem? (i := 1118) (by decide +kernel), by decide +kernel⟩, ⟨by decide +kernel, by decide +kernel⟩, by decide +kernel, plainFor_of_name (by decide +kernel), rfl⟩, ⟨List.mem_of_getElem? (i := 31) (by decide +kernel), by decide +kernel⟩⟩
theorem vX7_counted : mVv YX7_counted 1 := ⟨⟨⟨List.mem_of_getElem? (i := 1109) (by decide +kernel), by decide +kernel⟩, ⟨List.mem_of_getElem? (i := 52) (by decide +kernel), by decide +kernel⟩, ⟨List.mem_of_getElem? (i := 1110) (by decide +kernel), by decide +kernel⟩, ⟨by decide +kernel, by decide +kernel⟩, by decide +kernel, plainFor_of_name (by decide +kernel), rfl⟩, ⟨List.mem_of_getElem? (i := 29) (by decide +kernel), by decide +kernel⟩⟩
theorem vX7_count : mVv YX7_count 1 := ⟨⟨⟨List.mem_of_getElem? (i := 1104) (by decide +kernel), by decide +kernel⟩, ⟨List.mem_of_getElem? (i := 52) (by decide +kernel), by decide +kernel⟩, ⟨List.mem_of_getElem? (i := 1106) (by decide +kernel), by decide +kernel⟩, ⟨by decide +kernel, by decide +kernel⟩, by decide +kernel, plainFor_of_name (by decide +kernel), rfl⟩, ⟨List.mem_of_getElem? (i := 1105) (by decide +kernel), by decide +kernel⟩⟩
theorem vX7_setting : mVv YX7_setting 1 := ⟨⟨⟨List.mem_of_getElem? (i := 1120) (by decide +kernel), by decide +kernel⟩, ⟨List.mem_of_getElem? (i := 52) (by decide +kernel), by decide +kernel⟩, ⟨List.mem_of_getElem? (i := 1122) (by decide +kernel), by decide +kernel⟩, ⟨by decide +kernel, by decide +kernel⟩, by decide +kernel, plainFor_of_name (by decide +kernel), rfl⟩, ⟨List.mem_of_getElem? (i := 1121) (by decide +kernel), by decide +kernel⟩⟩
theorem vX7_sureOf : mVv YX7_sureOf 2 := ⟨⟨⟨List.mem_of_getElem? (i := 1129) (by decide +kernel), by decide +kernel⟩, ⟨List.mem_of_getElem? (i := 52) (by decide +kernel), by decide +kernel⟩, ⟨List.mem_of_getElem? (i := 1130) (by decide +kernel), by decide +kernel⟩, ⟨by decide +kernel, by decide +kernel⟩, by decide +kernel, plainFor_of_name (by decide +kernel), rfl⟩, ⟨List.mem_of_getElem? (i := 32) (by decide +kernel), by decide +kernel⟩⟩
theorem vX7_sure : mVv YX7_sure 2 := ⟨⟨⟨List.mem_of_getElem? (i := 1124) (by decide +kernel), by decide +kernel⟩, ⟨List.mem_of_getElem? (i := 52) (by decide +kernel), by decide +kernel⟩, ⟨List.mem_of_getElem? (i := 1126) (by decide +kernel), by decide +kernel⟩, ⟨by decide +kernel, by decide +kernel⟩, by decide +kernel, plainFor_of_name (by decide +kernel), rfl⟩, ⟨List.mem_of_getElem? (i := 1125) (by decide +kernel), by decide +kernel⟩⟩
theorem vX7_sentOf : mVv YX7_sentOf 3 := ⟨⟨⟨List.mem_of_getElem? (i := 1137) (by decide +kernel), by decide +kernel⟩, ⟨List.mem_of_getElem? (i := 52) (by decide +kernel), by decide +kernel⟩, ⟨List.mem_of_getElem? (i := 1138) (by decide +kernel), by decide +kernel⟩, ⟨by decide +kernel, by decide +kernel⟩, by decide +kernel, plainFor_of_name (by decide +kernel), rfl⟩, ⟨List.mem_of_getElem? (i := 33) (by decide +kernel), by decide +kernel⟩⟩
theorem vX7_ifSent : mVv YX7_ifSent 3 := ⟨⟨⟨List.mem_of_getElem? (i := 1132) (by decide +kernel), by decide +kernel⟩, ⟨List.mem_of_getElem? (i := 52) (by decide +kernel), by decide +kernel⟩, ⟨List.mem_of_getElem? (i := 1134) (by decide +kernel), by decide +kernel⟩, ⟨by decide +kernel, by decide +kernel⟩, by decide +kernel, plainFor_of_name (by decide +kernel), rfl⟩, ⟨List.mem_of_getElem? (i := 1133) (by decide +kernel), by decide +kernel⟩⟩
theorem vX7_learnedOf : mVv YX7_learnedOf 2 := ⟨⟨⟨List.mem_of_getElem? (i := 1153) (by decide +kernel), by decide +kernel⟩, ⟨List.mem_of_getElem? (i := 52) (by decide +kernel), by decide +kernel⟩, ⟨List.mem_of_getElem? (i := 1154) (by decide +kernel), by decide +kernel⟩, ⟨by decide +kernel, by decide +kernel⟩, by decide +kernel, plainFor_of_name (by decide +kernel), rfl⟩, ⟨List.mem_of_getElem? (i := 36) (by decide +kernel), by decide +kernel⟩⟩
theorem vX7_ifLearned : mVv YX7_ifLearned 2 := ⟨⟨⟨List.mem_of_getElem? (i := 1148) (by decide +kernel), by decide +kernel⟩, ⟨List.mem_of_getElem? (i := 52) (by decide +kernel), by decide +kernel⟩, ⟨List.mem_of_getElem? (i := 1150) (by decide +kernel), by decide +kernel⟩, ⟨by decide +kernel, by decide +kernel⟩, by decide +kernel, plainFor_of_name (by decide +kernel), rfl⟩, ⟨List.mem_of_getElem? (i := 1149) (by decide +kernel), by decide +kernel⟩⟩
theorem vX7_beatsOf : mVv YX7_beatsOf 1 := ⟨⟨⟨List.mem_of_getElem? (i := 1161) (by decide +kernel), by decide +kernel⟩, ⟨List.mem_of_getElem? (i := 52) (by decide +kernel), by decide +kernel⟩, ⟨List.mem_of_getElem? (i := 1162) (by decide +kernel), by decide +kernel⟩, ⟨by decide +kernel, by decide +kernel⟩, by decide +kernel, plainFor_of_name (by decide +kernel), rfl⟩, ⟨List.mem_of_getElem? (i := 37) (by decide +kernel), by decide +kernel⟩⟩
theorem vX7_beatsFor : mVv YX7_beatsFor 1 := ⟨⟨⟨List.mem_of_getElem? (i := 1156) (by decide +kernel), by decide +kernel⟩, ⟨List.mem_of_getElem? (i := 52) (by decide +kernel), by decide +kernel⟩, ⟨List.mem_of_getElem? (i := 1158) (by decide +kernel), by decide +kernel⟩, ⟨by decide +kernel, by decide +kernel⟩, by decide +kernel, plainFor_of_name (by decide +kernel), rfl⟩, ⟨List.mem_of_getElem? (i := 1157) (by decide +kernel), by decide +kernel⟩⟩
theorem vX7_lessonOf : mVv YX7_lessonOf 1 := ⟨⟨⟨List.mem_of_getElem? (i := 1169) (by decide +kernel), by decide +kernel⟩, ⟨List.mem_of_getElem? (i := 52) (by decide +kernel), by decide +kernel⟩, ⟨List.mem_of_getElem? (i := 1170) (by decide +kernel), by decide +kernel⟩, ⟨by decide +kernel, by decide +kernel⟩, by decide +kernel, plainFor_of_name (by decide +kernel), rfl⟩, ⟨List.mem_of_getElem? (i := 38) (by decide +kernel), by decide +kernel⟩⟩
theorem vX7_bestLesson : mVv YX7_bestLesson 1 := ⟨⟨⟨List.mem_of_getElem? (i := 1164) (by decide +kernel), by decide +kernel⟩, ⟨List.mem_of_getElem? (i := 52) (by decide +kernel), by decide +kernel⟩, ⟨List.mem_of_getElem? (i := 1166) (by decide +kernel), by decide +kernel⟩, ⟨by decide +kernel, by decide +kernel⟩, by decide +kernel, plainFor_of_name (by decide +kernel), rfl⟩, ⟨List.mem_of_getElem? (i := 1165) (by decide +kernel), by decide +kernel⟩⟩
theorem vX7_hurtsOf : mVv YX7_hurtsOf 2 := ⟨⟨⟨List.mem_of_getElem? (i := 1181) (by decide +kernel), by decide +kernel⟩, ⟨List.mem_of_getElem? (i := 52) (by decide +kernel), by decide +kernel⟩, ⟨List.mem_of_getElem? (i := 1182) (by decide +kernel), by decide +kernel⟩, ⟨by decide +kernel, by decide +kernel⟩, by decide +kernel, plainFor_of_name (by decide +kernel), rfl⟩, ⟨List.mem_of_getElem? (i := 40) (by decide +kernel), by decide +kernel⟩⟩
theorem vX7_hurts : mVv YX7_hurts 2 := ⟨⟨⟨List.mem_of_getElem? (i := 1176) (by decide +kernel), by decide +kernel⟩, ⟨List.mem_of_getElem? (i := 52) (by decide +kernel), by decide +kernel⟩, ⟨List.mem_of_getElem? (i := 1178) (by decide +kernel), by decide +kernel⟩, ⟨by decide +kernel, by decide +kernel⟩, by decide +kernel, plainFor_of_name (by decide +kernel), rfl⟩, ⟨List.mem_of_getElem? (i := 1177) (by decide +kernel), by decide +kernel⟩⟩
theorem vX7_shareOf : mVv YX7_shareOf 1 := ⟨⟨⟨List.mem_of_getElem? (i := 1189) (by decide +kernel), by decide +kernel⟩, ⟨List.mem_of_getElem? (i := 52) (by decide +kernel), by decide +kernel⟩, ⟨List.mem_of_getElem? (i := 1190) (by decide +kernel), by decide +kernel⟩, ⟨by decide +kernel, by decide +kernel⟩, by decide +kernel, plainFor_of_name (by decide +kernel), rfl⟩, ⟨List.mem_of_getElem? (i := 41) (by decide +kernel), by decide +kernel⟩⟩
theorem vX7_rightShare : mVv YX7_rightShare 1 := ⟨⟨⟨List.mem_of_getElem? (i := 1184) (by decide +kernel), by decide +kernel⟩, ⟨List.mem_of_getElem? (i := 52) (by decide +kernel), by decide +kernel⟩, ⟨List.mem_of_getElem? (i := 1186) (by decide +kernel), by decide +kernel⟩, ⟨by decide +kernel, by decide +kernel⟩, by decide +kernel, plainFor_of_name (by decide +kernel), rfl⟩, ⟨List.mem_of_getElem? (i := 1185) (by decide +kernel), by decide +kernel⟩⟩
theorem vX7_mix : mVv YX7_mix 1 := ⟨⟨⟨List.mem_of_getElem? (i := 1198) (by decide +kernel), by decide +kernel⟩, ⟨List.mem_of_getElem? (i := 52) (by decide +kernel), by decide +kernel⟩, ⟨List.mem_of_getElem? (i := 1199) (by decide +kernel), by decide +kernel⟩, ⟨by decide +kernel, by decide +kernel⟩, by decide +kernel, plainFor_of_name (by decide +kernel), rfl⟩, ⟨List.mem_of_getElem? (i := 42) (by decide +kernel), by decide +kernel⟩⟩
theorem vX7_mixWay : mVv YX7_mixWay 1 := ⟨⟨⟨List.mem_of_getElem? (i := 1203) (by decide +kernel), by decide +kernel⟩, ⟨List.mem_of_getElem? (i := 52) (by decide +kernel), by decide +kernel⟩, ⟨List.mem_of_getElem? (i := 1204) (by decide +kernel), by decide +kernel⟩, ⟨by decide +kernel, by decide +kernel⟩, by decide +kernel, plainFor_of_name (by decide +kernel), rfl⟩, ⟨List.mem_of_getElem? (i := 43) (by decide +kernel), by decide +kernel⟩⟩
theorem vX7_digest : mVv YX7_digest 0 := ⟨⟨⟨List.mem_of_getElem? (i := 1192) (by decide +kernel), by decide +kernel⟩, ⟨List.mem_of_getElem? (i := 52) (by decide +kernel), by decide +kernel⟩, ⟨List.mem_of_getElem? (i := 1194) (by decide +kernel), by decide +kernel⟩, ⟨by decide +kernel, by decide +kernel⟩, by decide +kernel, plainFor_of_name (by decide +kernel), rfl⟩, ⟨List.mem_of_getElem? (i := 1193) (by decide +kernel), by decide +kernel⟩⟩
theorem vJxe99ae_isNaN_b9ae7 : mVs YJxe99ae_isNaN_b9ae7 1 := ⟨⟨List.mem_of_getElem? (i := 1209) (by decide +kernel), by decide +kernel⟩, ⟨List.mem_of_getElem? (i := 62) (by decide +kernel), by decide +kernel⟩, ⟨List.mem_of_getElem? (i := 1210) (by decide +kernel), by decide +kernel⟩, ⟨by decide +kernel, by decide +kernel⟩, by decide +kernel, plainFor_of_name (by decide +kernel), rfl⟩
theorem vJxe99ae_doubleToLongBits_ccdee : mVs YJxe99ae_doubleToLongBits_ccdee 1 := ⟨⟨List.mem_of_getElem? (i := 1206) (by decide +kernel), by decide +kernel⟩, ⟨List.mem_of_getElem? (i := 62) (by decide +kernel), by decide +kernel⟩, ⟨List.mem_of_getElem? (i := 1207) (by decide +kernel), by decide +kernel⟩, ⟨by decide +kernel, by decide +kernel⟩, by decide +kernel, plainFor_of_name (by decide +kernel), rfl⟩
theorem vJ6_bitCount_0f7a4 : mVs YJ6_bitCount_0f7a4 1 := ⟨⟨List.mem_of_getElem? (i := 518) (by decide +kernel), by decide +kernel⟩, ⟨List.mem_of_getElem? (i := 61) (by decide +kernel), by decide +kernel⟩, ⟨List.mem_of_getElem? (i := 519) (by decide +kernel), by decide +kernel⟩, ⟨by decide +kernel, by decide +kernel⟩, by decide +kernel, plainFor_of_name (by decide +kernel), rfl⟩
theorem vJ9_floorMod_7cf53 : mVs YJ9_floorMod_7cf53 2 := ⟨⟨List.mem_of_getElem? (i := 606) (by decide +kernel), by decide +kernel⟩, ⟨List.mem_of_getElem? (i := 60) (by decide +kernel), by decide +kernel⟩, ⟨List.mem_of_getElem? (i := 607) (by decide +kernel), by decide +kernel⟩, ⟨by decide +kernel, by decide +kernel⟩, by decide +kernel, by decide +kernel, rfl⟩
theorem vL_build : mVx YL_build 6 := ⟨⟨List.mem_of_getElem? (i := 648) (by decide +kernel), by decide +kernel⟩, ⟨List.mem_of_getElem? (i := 44) (by decide +kernel), by decide +kernel⟩, ⟨List.mem_of_getElem? (i := 649) (by decide +kernel), by decide +kernel⟩, ⟨by decide +kernel, by decide +kernel⟩, by decide +kernel, plainFor_of_name (by decide +kernel)⟩
theorem vL_carry : mVx YL_carry 5 := ⟨⟨List.mem_of_getElem? (i := 682) (by decide +kernel), by decide +kernel⟩, ⟨List.mem_of_getElem? (i := 44) (by decide +kernel), by decide +kernel⟩, ⟨List.mem_of_getElem? (i := 683) (by decide +kernel), by decide +kernel⟩, ⟨by decide +kernel, by decide +kernel⟩, by decide +kernel, plainFor_of_name (by decide +kernel)⟩
theorem vL_insult : mVx YL_insult 5 := ⟨⟨List.mem_of_getElem? (i := 690) (by decide +kernel), by decide +kernel⟩, ⟨List.mem_of_getElem? (i := 44) (by decide +kernel), by decide +kernel⟩, ⟨List.mem_of_getElem? (i := 691) (by decide +kernel), by decide +kernel⟩, ⟨by decide +kernel, by decide +kernel⟩, by decide +kernel, plainFor_of_name (by decide +kernel)⟩
theorem vL_set : mVx YL_set 4 := ⟨⟨List.mem_of_getElem? (i := 715) (by decide +kernel), by decide +kernel⟩, ⟨List.mem_of_getElem? (i := 44) (by decide +kernel), by decide +kernel⟩, ⟨List.mem_of_getElem? (i := 716) (by decide +kernel), by decide +kernel⟩, ⟨by decide +kernel, by decide +kernel⟩, by decide +kernel, plainFor_of_name (by decide +kernel)⟩
theorem vL_learn : mVx YL_learn 4 := ⟨⟨List.mem_of_getElem? (i := 731) (by decide +kernel), by decide +kernel⟩, ⟨List.mem_of_getElem? (i := 44) (by decide +kernel), by decide +kernel⟩, ⟨List.mem_of_getElem? (i := 732) (by decide +kernel), by decide +kernel⟩, ⟨by decide +kernel, by decide +kernel⟩, by decide +kernel, plainFor_of_name (by decide +kernel)⟩
theorem vL_send : mVx YL_send 4 := ⟨⟨List.mem_of_getElem? (i := 743) (by decide +kernel), by decide +kernel⟩, ⟨List.mem_of_getElem? (i := 44) (by decide +kernel), by decide +kernel⟩, ⟨List.mem_of_getElem? (i := 744) (by decide +kernel), by decide +kernel⟩, ⟨by decide +kernel, by decide +kernel⟩, by decide +kernel, plainFor_of_name (by decide +kernel)⟩
theorem vL_forget : mVx YL_forget 3 := ⟨⟨List.mem_of_getElem? (i := 750) (by decide +kernel), by decide +kernel⟩, ⟨List.mem_of_getElem? (i := 44) (by decide +kernel), by decide +kernel⟩, ⟨List.mem_of_getElem? (i := 751) (by decide +kernel), by decide +kernel⟩, ⟨by decide +kernel, by decide +kernel⟩, by decide +kernel, plainFor_of_name (by decide +kernel)⟩
theorem vL_append : mVx YL_append 3 := ⟨⟨List.mem_of_getElem? (i := 761) (by decide +kernel), by decide +kernel⟩, ⟨List.mem_of_getElem? (i := 44) (by decide +kernel), by decide +kernel⟩, ⟨List.mem_of_getElem? (i := 762) (by decide +kernel), by decide +kernel⟩, ⟨by decide +kernel, by decide +kernel⟩, by decide +kernel, plainFor_of_name (by decide +kernel)⟩
theorem vL_say : mVx YL_say 2 := ⟨⟨List.mem_of_getElem? (i := 770) (by decide +kernel), by decide +kernel⟩, ⟨List.mem_of_getElem? (i := 44) (by decide +kernel), by decide +kernel⟩, ⟨List.mem_of_getElem? (i := 771) (by decide +kernel), by decide +kernel⟩, ⟨by decide +kernel, by decide +kernel⟩, by decide +kernel, plainFor_of_name (by decide +kernel)⟩
theorem vL_undo : mVx YL_undo 2 := ⟨⟨List.mem_of_getElem? (i := 800) (by decide +kernel), by decide +kernel⟩, ⟨List.mem_of_getElem? (i := 44) (by decide +kernel), by decide +kernel⟩, ⟨List.mem_of_getElem? (i := 801) (by decide +kernel), by decide +kernel⟩, ⟨by decide +kernel, by decide +kernel⟩, by decide +kernel, plainFor_of_name (by decide +kernel)⟩
theorem vL_street : mVx YL_street 5 := ⟨⟨List.mem_of_getElem? (i := 808) (by decide +kernel), by decide +kernel⟩, ⟨List.mem_of_getElem? (i := 44) (by decide +kernel), by decide +kernel⟩, ⟨List.mem_of_getElem? (i := 809) (by decide +kernel), by decide +kernel⟩, ⟨by decide +kernel, by decide +kernel⟩, by decide +kernel, plainFor_of_name (by decide +kernel)⟩
theorem vL_accent : mVx YL_accent 5 := ⟨⟨List.mem_of_getElem? (i := 812) (by decide +kernel), by decide +kernel⟩, ⟨List.mem_of_getElem? (i := 44) (by decide +kernel), by decide +kernel⟩, ⟨List.mem_of_getElem? (i := 813) (by decide +kernel), by decide +kernel⟩, ⟨by decide +kernel, by decide +kernel⟩, by decide +kernel, plainFor_of_name (by decide +kernel)⟩
theorem vL_waits : mVx YL_waits 4 := ⟨⟨List.mem_of_getElem? (i := 816) (by decide +kernel), by decide +kernel⟩, ⟨List.mem_of_getElem? (i := 44) (by decide +kernel), by decide +kernel⟩, ⟨List.mem_of_getElem? (i := 817) (by decide +kernel), by decide +kernel⟩, ⟨by decide +kernel, by decide +kernel⟩, by decide +kernel, plainFor_of_name (by decide +kernel)⟩
theorem vL_had : mVx YL_had 3 := ⟨⟨List.mem_of_getElem? (i := 824) (by decide +kernel), by decide +kernel⟩, ⟨List.mem_of_getElem? (i := 44) (by decide +kernel), by decide +kernel⟩, ⟨List.mem_of_getElem? (i := 825) (by decide +kernel), by decide +kernel⟩, ⟨by decide +kernel, by decide +kernel⟩, by decide +kernel, plainFor_of_name (by decide +kernel)⟩
theorem vL_count : mVx YL_count 3 := ⟨⟨List.mem_of_getElem? (i := 828) (by decide +kernel), by decide +kernel⟩, ⟨List.mem_of_getElem? (i := 44) (by decide +kernel), by decide +kernel⟩, ⟨List.mem_of_getElem? (i := 829) (by decide +kernel), by decide +kernel⟩, ⟨by decide +kernel, by decide +kernel⟩, by decide +kernel, plainFor_of_name (by decide +kernel)⟩
theorem vL_setting : mVx YL_setting 3 := ⟨⟨List.mem_of_getElem? (i := 832) (by decide +kernel), by decide +kernel⟩, ⟨List.mem_of_getElem? (i := 44) (by decide +kernel), by decide +kernel⟩, ⟨List.mem_of_getElem? (i := 833) (by decide +kernel), by decide +kernel⟩, ⟨by decide +kernel, by decide +kernel⟩, by decide +kernel, plainFor_of_name (by decide +kernel)⟩
theorem vL_sure : mVx YL_sure 4 := ⟨⟨List.mem_of_getElem? (i := 839) (by decide +kernel), by decide +kernel⟩, ⟨List.mem_of_getElem? (i := 44) (by decide +kernel), by decide +kernel⟩, ⟨List.mem_of_getElem? (i := 840) (by decide +kernel), by decide +kernel⟩, ⟨by decide +kernel, by decide +kernel⟩, by decide +kernel, plainFor_of_name (by decide +kernel)⟩
theorem vL_ifSent : mVx YL_ifSent 5 := ⟨⟨List.mem_of_getElem? (i := 843) (by decide +kernel), by decide +kernel⟩, ⟨List.mem_of_getElem? (i := 44) (by decide +kernel), by decide +kernel⟩, ⟨List.mem_of_getElem? (i := 844) (by decide +kernel), by decide +kernel⟩, ⟨by decide +kernel, by decide +kernel⟩, by decide +kernel, plainFor_of_name (by decide +kernel)⟩
theorem vL_ifLearned : mVx YL_ifLearned 4 := ⟨⟨List.mem_of_getElem? (i := 847) (by decide +kernel), by decide +kernel⟩, ⟨List.mem_of_getElem? (i := 44) (by decide +kernel), by decide +kernel⟩, ⟨List.mem_of_getElem? (i := 848) (by decide +kernel), by decide +kernel⟩, ⟨by decide +kernel, by decide +kernel⟩, by decide +kernel, plainFor_of_name (by decide +kernel)⟩
theorem vL_beatsFor : mVx YL_beatsFor 3 := ⟨⟨List.mem_of_getElem? (i := 851) (by decide +kernel), by decide +kernel⟩, ⟨List.mem_of_getElem? (i := 44) (by decide +kernel), by decide +kernel⟩, ⟨List.mem_of_getElem? (i := 852) (by decide +kernel), by decide +kernel⟩, ⟨by decide +kernel, by decide +kernel⟩, by decide +kernel, plainFor_of_name (by decide +kernel)⟩
theorem vL_bestLesson : mVx YL_bestLesson 3 := ⟨⟨List.mem_of_getElem? (i := 855) (by decide +kernel), by decide +kernel⟩, ⟨List.mem_of_getElem? (i := 44) (by decide +kernel), by decide +kernel⟩, ⟨List.mem_of_getElem? (i := 856) (by decide +kernel), by decide +kernel⟩, ⟨by decide +kernel, by decide +kernel⟩, by decide +kernel, plainFor_of_name (by decide +kernel)⟩
theorem vL_hurts : mVx YL_hurts 4 := ⟨⟨List.mem_of_getElem? (i := 859) (by decide +kernel), by decide +kernel⟩, ⟨List.mem_of_getElem? (i := 44) (by decide +kernel), by decide +kernel⟩, ⟨List.mem_of_getElem? (i := 860) (by decide +kernel), by decide +kernel⟩, ⟨by decide +kernel, by decide +kernel⟩, by decide +kernel, plainFor_of_name (by decide +kernel)⟩
theorem vL_rightShare : mVx YL_rightShare 3 := ⟨⟨List.mem_of_getElem? (i := 863) (by decide +kernel), by decide +kernel⟩, ⟨List.mem_of_getElem? (i := 44) (by decide +kernel), by decide +kernel⟩, ⟨List.mem_of_getElem? (i := 864) (by decide +kernel), by decide +kernel⟩, ⟨by decide +kernel, by decide +kernel⟩, by decide +kernel, plainFor_of_name (by decide +kernel)⟩
theorem qL_91 : gw (.methodLink RL 91 yX6_init) := ⟨List.mem_of_getElem? (i := 65) (by decide +kernel), by decide +kernel⟩
theorem qX6_3 : gw (.methodLink RX6 3 objectInit) := ⟨List.mem_of_getElem? (i := 68) (by decide +kernel), by decide +kernel⟩
theorem qX1_3 : gw (.methodLink RX1 3 objectInit) := ⟨List.mem_of_getElem? (i := 76) (by decide +kernel), by decide +kernel⟩
theorem qX1_11 : gw (.methodLink RX1 11 yX5_init) := ⟨List.mem_of_getElem? (i := 79) (by decide +kernel), by decide +kernel⟩
theorem qX5_3 : gw (.methodLink RX5 3 objectInit) := ⟨List.mem_of_getElem? (i := 82) (by decide +kernel), by decide +kernel⟩
theorem qX4_3 : gw (.methodLink RX4 3 objectInit) := ⟨List.mem_of_getElem? (i := 90) (by decide +kernel), by decide +kernel⟩
theorem qX3_3 : gw (.methodLink RX3 3 objectInit) := ⟨List.mem_of_getElem? (i := 107) (by decide +kernel), by decide +kernel⟩
theorem qX0_3 : gw (.methodLink RX0 3 objectInit) := ⟨List.mem_of_getElem? (i := 221) (by decide +kernel), by decide +kernel⟩
theorem qX2_3 : gw (.methodLink RX2 3 objectInit) := ⟨List.mem_of_getElem? (i := 235) (by decide +kernel), by decide +kernel⟩
theorem qL_128 : gw (.methodLink RL 128 yX6_clearBuffer) := ⟨List.mem_of_getElem? (i := 265) (by decide +kernel), by decide +kernel⟩
theorem qL_132 : gw (.methodLink RL 132 yX6_firstError) := ⟨List.mem_of_getElem? (i := 269) (by decide +kernel), by decide +kernel⟩
theorem qX6_135 : gw (.methodLink RX6 135 yX2_errorPlace) := ⟨List.mem_of_getElem? (i := 273) (by decide +kernel), by decide +kernel⟩
theorem qX2_26 : gw (.methodLink RX2 26 yX2_next) := ⟨List.mem_of_getElem? (i := 277) (by decide +kernel), by decide +kernel⟩
theorem qX2_15 : gw (.methodLink RX2 15 yX2_behindDigit) := ⟨List.mem_of_getElem? (i := 280) (by decide +kernel), by decide +kernel⟩
theorem qX2_19 : gw (.methodLink RX2 19 yX2_digitOf) := ⟨List.mem_of_getElem? (i := 283) (by decide +kernel), by decide +kernel⟩
theorem qL_183 : gw (.methodLink RL 183 yX6_digest) := ⟨List.mem_of_getElem? (i := 286) (by decide +kernel), by decide +kernel⟩
theorem qX6_247 : gw (.methodLink RX6 247 yX6_count) := ⟨List.mem_of_getElem? (i := 292) (by decide +kernel), by decide +kernel⟩
theorem qX6_108 : gw (.methodLink RX6 108 yX5_bits) := ⟨List.mem_of_getElem? (i := 296) (by decide +kernel), by decide +kernel⟩
theorem qX6_208 : gw (.methodLink RX6 208 yX5_shies) := ⟨List.mem_of_getElem? (i := 300) (by decide +kernel), by decide +kernel⟩
theorem qX6_211 : gw (.methodLink RX6 211 yX5_insulted) := ⟨List.mem_of_getElem? (i := 304) (by decide +kernel), by decide +kernel⟩
theorem qX6_250 : gw (.methodLink RX6 250 yX6_digestOfTone) := ⟨List.mem_of_getElem? (i := 376) (by decide +kernel), by decide +kernel⟩
theorem qX6_258 : gw (.methodLink RX6 258 yX6_street) := ⟨List.mem_of_getElem? (i := 380) (by decide +kernel), by decide +kernel⟩
theorem qX6_37 : gw (.methodLink RX6 37 yX6_toneOf) := ⟨List.mem_of_getElem? (i := 384) (by decide +kernel), by decide +kernel⟩
theorem qX6_94 : gw (.methodLink RX6 94 yX6_wayOf) := ⟨List.mem_of_getElem? (i := 388) (by decide +kernel), by decide +kernel⟩
theorem qX6_272 : gw (.methodLink RX6 272 yX1_wayAt) := ⟨List.mem_of_getElem? (i := 408) (by decide +kernel), by decide +kernel⟩
theorem qX6_48 : gw (.methodLink RX6 48 yX3_streetNumber) := ⟨List.mem_of_getElem? (i := 414) (by decide +kernel), by decide +kernel⟩
theorem qX6_262 : gw (.methodLink RX6 262 yX6_accent) := ⟨List.mem_of_getElem? (i := 418) (by decide +kernel), by decide +kernel⟩
theorem qX6_181 : gw (.methodLink RX6 181 yX3_accentNumber) := ⟨List.mem_of_getElem? (i := 423) (by decide +kernel), by decide +kernel⟩
theorem qX6_265 : gw (.methodLink RX6 265 yX6_sure) := ⟨List.mem_of_getElem? (i := 427) (by decide +kernel), by decide +kernel⟩
theorem qX6_216 : gw (.methodLink RX6 216 yX3_sureBits) := ⟨List.mem_of_getElem? (i := 431) (by decide +kernel), by decide +kernel⟩
theorem qX3_89 : gw (.methodLink RX3 89 yX3_misheardWith) := ⟨List.mem_of_getElem? (i := 435) (by decide +kernel), by decide +kernel⟩
theorem qX3_92 : gw (.methodLink RX3 92 Lib.Math.abs.name) := ⟨List.mem_of_getElem? (i := 439) (by decide +kernel), by decide +kernel⟩
theorem qX3_85 : gw (.methodLink RX3 85 yX3_roomWith) := ⟨List.mem_of_getElem? (i := 442) (by decide +kernel), by decide +kernel⟩
theorem qX6_269 : gw (.methodLink RX6 269 yX6_hurts) := ⟨List.mem_of_getElem? (i := 446) (by decide +kernel), by decide +kernel⟩
theorem qX6_221 : gw (.methodLink RX6 221 yX1_copyWayFrom) := ⟨List.mem_of_getElem? (i := 450) (by decide +kernel), by decide +kernel⟩
theorem qX1_37 : gw (.methodLink RX1 37 yX1_wayAt) := ⟨List.mem_of_getElem? (i := 454) (by decide +kernel), by decide +kernel⟩
theorem qX1_29 : gw (.methodLink RX1 29 yX5_copyFrom) := ⟨List.mem_of_getElem? (i := 455) (by decide +kernel), by decide +kernel⟩
theorem qX5_25 : gw (.methodLink RX5 25 yX3_copyFrom) := ⟨List.mem_of_getElem? (i := 459) (by decide +kernel), by decide +kernel⟩
theorem qX5_29 : gw (.methodLink RX5 29 yX4_copyFrom) := ⟨List.mem_of_getElem? (i := 463) (by decide +kernel), by decide +kernel⟩
theorem qX4_15 : gw (.methodLink RX4 15 arraycopyName) := ⟨List.mem_of_getElem? (i := 467) (by decide +kernel), by decide +kernel⟩
theorem qX1_33 : gw (.methodLink RX1 33 yX1_copyCommonFrom) := ⟨List.mem_of_getElem? (i := 470) (by decide +kernel), by decide +kernel⟩
theorem qX1_41 : gw (.methodLink RX1 41 arraycopyName) := ⟨List.mem_of_getElem? (i := 474) (by decide +kernel), by decide +kernel⟩
theorem qX6_236 : gw (.methodLink RX6 236 yX1_sendSign) := ⟨List.mem_of_getElem? (i := 475) (by decide +kernel), by decide +kernel⟩
theorem qX1_85 : gw (.methodLink RX1 85 yX4_take) := ⟨List.mem_of_getElem? (i := 479) (by decide +kernel), by decide +kernel⟩
theorem qX4_32 : gw (.methodLink RX4 32 yX4_bitAt) := ⟨List.mem_of_getElem? (i := 483) (by decide +kernel), by decide +kernel⟩
theorem qX1_90 : gw (.methodLink RX1 90 yX3_amplitudeOf) := ⟨List.mem_of_getElem? (i := 487) (by decide +kernel), by decide +kernel⟩
theorem qX1_93 : gw (.methodLink RX1 93 yX1_drawNoise) := ⟨List.mem_of_getElem? (i := 491) (by decide +kernel), by decide +kernel⟩
theorem qX1_62 : gw (.methodLink RX1 62 yX1_draw) := ⟨List.mem_of_getElem? (i := 495) (by decide +kernel), by decide +kernel⟩
theorem qX1_97 : gw (.methodLink RX1 97 yX3_arriving) := ⟨List.mem_of_getElem? (i := 503) (by decide +kernel), by decide +kernel⟩
theorem qX1_101 : gw (.methodLink RX1 101 yX3_decide) := ⟨List.mem_of_getElem? (i := 507) (by decide +kernel), by decide +kernel⟩
theorem qX3_66 : gw (.methodLink RX3 66 Lib.Math.min.name) := ⟨List.mem_of_getElem? (i := 511) (by decide +kernel), by decide +kernel⟩
theorem qX3_72 : gw (.methodLink RX3 72 Lib.Math.max.name) := ⟨List.mem_of_getElem? (i := 514) (by decide +kernel), by decide +kernel⟩
theorem qX1_104 : gw (.methodLink RX1 104 yJ6_bitCount_0f7a4) := ⟨List.mem_of_getElem? (i := 517) (by decide +kernel), by decide +kernel⟩
theorem qX1_109 : gw (.methodLink RX1 109 yX3_pass) := ⟨List.mem_of_getElem? (i := 523) (by decide +kernel), by decide +kernel⟩
theorem qX1_113 : gw (.methodLink RX1 113 yX3_countSign) := ⟨List.mem_of_getElem? (i := 527) (by decide +kernel), by decide +kernel⟩
theorem qX1_117 : gw (.methodLink RX1 117 yX5_receive) := ⟨List.mem_of_getElem? (i := 531) (by decide +kernel), by decide +kernel⟩
theorem qX6_240 : gw (.methodLink RX6 240 yX1_leastHurt) := ⟨List.mem_of_getElem? (i := 536) (by decide +kernel), by decide +kernel⟩
theorem qX6_254 : gw (.methodLink RX6 254 yX6_digestOfWay) := ⟨List.mem_of_getElem? (i := 540) (by decide +kernel), by decide +kernel⟩
theorem qX6_189 : gw (.methodLink RX6 189 yX4_bitAt) := ⟨List.mem_of_getElem? (i := 544) (by decide +kernel), by decide +kernel⟩
theorem qX6_275 : gw (.methodLink RX6 275 yX6_had) := ⟨List.mem_of_getElem? (i := 545) (by decide +kernel), by decide +kernel⟩
theorem qX6_279 : gw (.methodLink RX6 279 yX6_ifSent) := ⟨List.mem_of_getElem? (i := 549) (by decide +kernel), by decide +kernel⟩
theorem qX6_98 : gw (.methodLink RX6 98 yX6_checkBeats) := ⟨List.mem_of_getElem? (i := 553) (by decide +kernel), by decide +kernel⟩
theorem qX6_113 : gw (.methodLink RX6 113 yX1_sendBeats) := ⟨List.mem_of_getElem? (i := 558) (by decide +kernel), by decide +kernel⟩
theorem qX1_70 : gw (.methodLink RX1 70 yX1_sendSign) := ⟨List.mem_of_getElem? (i := 562) (by decide +kernel), by decide +kernel⟩
theorem qX1_74 : gw (.methodLink RX1 74 yX3_becomeShyAt) := ⟨List.mem_of_getElem? (i := 563) (by decide +kernel), by decide +kernel⟩
theorem qX6_282 : gw (.methodLink RX6 282 yX6_ifLearned) := ⟨List.mem_of_getElem? (i := 567) (by decide +kernel), by decide +kernel⟩
theorem qX6_104 : gw (.methodLink RX6 104 yX1_takeLesson) := ⟨List.mem_of_getElem? (i := 571) (by decide +kernel), by decide +kernel⟩
theorem qX1_121 : gw (.methodLink RX1 121 yX0_begin) := ⟨List.mem_of_getElem? (i := 575) (by decide +kernel), by decide +kernel⟩
theorem qX1_126 : gw (.methodLink RX1 126 yX1_learnBeat) := ⟨List.mem_of_getElem? (i := 579) (by decide +kernel), by decide +kernel⟩
theorem qX1_136 : gw (.methodLink RX1 136 yX3_expected) := ⟨List.mem_of_getElem? (i := 583) (by decide +kernel), by decide +kernel⟩
theorem qX1_139 : gw (.methodLink RX1 139 yX3_improve) := ⟨List.mem_of_getElem? (i := 587) (by decide +kernel), by decide +kernel⟩
theorem qX3_75 : gw (.methodLink RX3 75 yX3_step) := ⟨List.mem_of_getElem? (i := 591) (by decide +kernel), by decide +kernel⟩
theorem qX3_78 : gw (.methodLink RX3 78 yX3_held) := ⟨List.mem_of_getElem? (i := 594) (by decide +kernel), by decide +kernel⟩
theorem qX1_142 : gw (.methodLink RX1 142 yX3_knowSignBefore) := ⟨List.mem_of_getElem? (i := 597) (by decide +kernel), by decide +kernel⟩
theorem qX1_145 : gw (.methodLink RX1 145 yX0_note) := ⟨List.mem_of_getElem? (i := 601) (by decide +kernel), by decide +kernel⟩
theorem qX0_19 : gw (.methodLink RX0 19 yJ9_floorMod_7cf53) := ⟨List.mem_of_getElem? (i := 605) (by decide +kernel), by decide +kernel⟩
theorem qX0_25 : gw (.methodLink RX0 25 Lib.Math.abs.name) := ⟨List.mem_of_getElem? (i := 608) (by decide +kernel), by decide +kernel⟩
theorem qX1_130 : gw (.methodLink RX1 130 yX0_worstOf) := ⟨List.mem_of_getElem? (i := 609) (by decide +kernel), by decide +kernel⟩
theorem qX0_29 : gw (.methodLink RX0 29 Lib.Math.max.name) := ⟨List.mem_of_getElem? (i := 613) (by decide +kernel), by decide +kernel⟩
theorem qX1_133 : gw (.methodLink RX1 133 yX3_endLesson) := ⟨List.mem_of_getElem? (i := 614) (by decide +kernel), by decide +kernel⟩
theorem qX3_82 : gw (.methodLink RX3 82 yX3_bitsFor) := ⟨List.mem_of_getElem? (i := 618) (by decide +kernel), by decide +kernel⟩
theorem qX6_285 : gw (.methodLink RX6 285 yX6_beatsFor) := ⟨List.mem_of_getElem? (i := 622) (by decide +kernel), by decide +kernel⟩
theorem qX6_288 : gw (.methodLink RX6 288 yX6_bestLesson) := ⟨List.mem_of_getElem? (i := 626) (by decide +kernel), by decide +kernel⟩
theorem qX6_225 : gw (.methodLink RX6 225 yX0_begin) := ⟨List.mem_of_getElem? (i := 630) (by decide +kernel), by decide +kernel⟩
theorem qX6_228 : gw (.methodLink RX6 228 yX1_learnBeat) := ⟨List.mem_of_getElem? (i := 631) (by decide +kernel), by decide +kernel⟩
theorem qX6_232 : gw (.methodLink RX6 232 yX1_bitsBehind) := ⟨List.mem_of_getElem? (i := 632) (by decide +kernel), by decide +kernel⟩
theorem qX1_149 : gw (.methodLink RX1 149 yX3_bitsFor) := ⟨List.mem_of_getElem? (i := 636) (by decide +kernel), by decide +kernel⟩
theorem qX6_291 : gw (.methodLink RX6 291 yX6_rightShare) := ⟨List.mem_of_getElem? (i := 637) (by decide +kernel), by decide +kernel⟩
theorem qX6_295 : gw (.methodLink RX6 295 yX6_bitsOfShare) := ⟨List.mem_of_getElem? (i := 641) (by decide +kernel), by decide +kernel⟩
theorem qL_95 : gw (.methodLink RL 95 yL_build) := ⟨List.mem_of_getElem? (i := 647) (by decide +kernel), by decide +kernel⟩
theorem qL_7 : gw (.methodLink RL 7 yX6_build) := ⟨List.mem_of_getElem? (i := 652) (by decide +kernel), by decide +kernel⟩
theorem qX6_41 : gw (.methodLink RX6 41 yX6_checkStreetNumber) := ⟨List.mem_of_getElem? (i := 656) (by decide +kernel), by decide +kernel⟩
theorem qX6_45 : gw (.methodLink RX6 45 yX6_save) := ⟨List.mem_of_getElem? (i := 665) (by decide +kernel), by decide +kernel⟩
theorem qX6_325 : gw (.methodLink RX6 325 yX6_dropOldest) := ⟨List.mem_of_getElem? (i := 669) (by decide +kernel), by decide +kernel⟩
theorem qX6_174 : gw (.methodLink RX6 174 yX1_copyFrom) := ⟨List.mem_of_getElem? (i := 673) (by decide +kernel), by decide +kernel⟩
theorem qX6_54 : gw (.methodLink RX6 54 yX3_setStreetNumber) := ⟨List.mem_of_getElem? (i := 677) (by decide +kernel), by decide +kernel⟩
theorem qL_104 : gw (.methodLink RL 104 yL_carry) := ⟨List.mem_of_getElem? (i := 681) (by decide +kernel), by decide +kernel⟩
theorem qL_17 : gw (.methodLink RL 17 yX6_carry) := ⟨List.mem_of_getElem? (i := 684) (by decide +kernel), by decide +kernel⟩
theorem qL_108 : gw (.methodLink RL 108 yL_insult) := ⟨List.mem_of_getElem? (i := 689) (by decide +kernel), by decide +kernel⟩
theorem qL_21 : gw (.methodLink RL 21 yX6_insult) := ⟨List.mem_of_getElem? (i := 693) (by decide +kernel), by decide +kernel⟩
theorem qL_111 : gw (.methodLink RL 111 yL_set) := ⟨List.mem_of_getElem? (i := 714) (by decide +kernel), by decide +kernel⟩
theorem qL_26 : gw (.methodLink RL 26 yX6_set) := ⟨List.mem_of_getElem? (i := 717) (by decide +kernel), by decide +kernel⟩
theorem qX6_78 : gw (.methodLink RX6 78 yX6_checkSetting) := ⟨List.mem_of_getElem? (i := 721) (by decide +kernel), by decide +kernel⟩
theorem qL_115 : gw (.methodLink RL 115 yL_learn) := ⟨List.mem_of_getElem? (i := 730) (by decide +kernel), by decide +kernel⟩
theorem qL_30 : gw (.methodLink RL 30 yX6_learn) := ⟨List.mem_of_getElem? (i := 733) (by decide +kernel), by decide +kernel⟩
theorem qX6_101 : gw (.methodLink RX6 101 yX6_checkBeatsLeft) := ⟨List.mem_of_getElem? (i := 737) (by decide +kernel), by decide +kernel⟩
theorem qL_118 : gw (.methodLink RL 118 yL_send) := ⟨List.mem_of_getElem? (i := 742) (by decide +kernel), by decide +kernel⟩
theorem qL_33 : gw (.methodLink RL 33 yX6_send) := ⟨List.mem_of_getElem? (i := 745) (by decide +kernel), by decide +kernel⟩
theorem qL_121 : gw (.methodLink RL 121 yL_forget) := ⟨List.mem_of_getElem? (i := 749) (by decide +kernel), by decide +kernel⟩
theorem qL_36 : gw (.methodLink RL 36 yX6_forget) := ⟨List.mem_of_getElem? (i := 752) (by decide +kernel), by decide +kernel⟩
theorem qX6_121 : gw (.methodLink RX6 121 yX3_loseAccent) := ⟨List.mem_of_getElem? (i := 756) (by decide +kernel), by decide +kernel⟩
theorem qL_125 : gw (.methodLink RL 125 yL_append) := ⟨List.mem_of_getElem? (i := 760) (by decide +kernel), by decide +kernel⟩
theorem qL_40 : gw (.methodLink RL 40 yX6_append) := ⟨List.mem_of_getElem? (i := 763) (by decide +kernel), by decide +kernel⟩
theorem qL_136 : gw (.methodLink RL 136 yL_say) := ⟨List.mem_of_getElem? (i := 769) (by decide +kernel), by decide +kernel⟩
theorem qL_43 : gw (.methodLink RL 43 yX6_say) := ⟨List.mem_of_getElem? (i := 772) (by decide +kernel), by decide +kernel⟩
theorem qX6_138 : gw (.methodLink RX6 138 yX2_isComplete) := ⟨List.mem_of_getElem? (i := 776) (by decide +kernel), by decide +kernel⟩
theorem qX6_144 : gw (.methodLink RX6 144 yX2_bitsFor) := ⟨List.mem_of_getElem? (i := 781) (by decide +kernel), by decide +kernel⟩
theorem qX6_165 : gw (.methodLink RX6 165 yX2_putBits) := ⟨List.mem_of_getElem? (i := 786) (by decide +kernel), by decide +kernel⟩
theorem qX2_30 : gw (.methodLink RX2 30 yX1_wayAt) := ⟨List.mem_of_getElem? (i := 790) (by decide +kernel), by decide +kernel⟩
theorem qX2_42 : gw (.methodLink RX2 42 yX4_putDigit) := ⟨List.mem_of_getElem? (i := 791) (by decide +kernel), by decide +kernel⟩
theorem qX4_28 : gw (.methodLink RX4 28 yX4_put) := ⟨List.mem_of_getElem? (i := 795) (by decide +kernel), by decide +kernel⟩
theorem qL_140 : gw (.methodLink RL 140 yL_undo) := ⟨List.mem_of_getElem? (i := 799) (by decide +kernel), by decide +kernel⟩
theorem qL_47 : gw (.methodLink RL 47 yX6_undo) := ⟨List.mem_of_getElem? (i := 802) (by decide +kernel), by decide +kernel⟩
theorem qL_143 : gw (.methodLink RL 143 yL_street) := ⟨List.mem_of_getElem? (i := 807) (by decide +kernel), by decide +kernel⟩
theorem qL_50 : gw (.methodLink RL 50 yX6_street) := ⟨List.mem_of_getElem? (i := 810) (by decide +kernel), by decide +kernel⟩
theorem qL_146 : gw (.methodLink RL 146 yL_accent) := ⟨List.mem_of_getElem? (i := 811) (by decide +kernel), by decide +kernel⟩
theorem qL_53 : gw (.methodLink RL 53 yX6_accent) := ⟨List.mem_of_getElem? (i := 814) (by decide +kernel), by decide +kernel⟩
theorem qL_149 : gw (.methodLink RL 149 yL_waits) := ⟨List.mem_of_getElem? (i := 815) (by decide +kernel), by decide +kernel⟩
theorem qL_56 : gw (.methodLink RL 56 yX6_waits) := ⟨List.mem_of_getElem? (i := 818) (by decide +kernel), by decide +kernel⟩
theorem qL_152 : gw (.methodLink RL 152 yL_had) := ⟨List.mem_of_getElem? (i := 823) (by decide +kernel), by decide +kernel⟩
theorem qL_59 : gw (.methodLink RL 59 yX6_had) := ⟨List.mem_of_getElem? (i := 826) (by decide +kernel), by decide +kernel⟩
theorem qL_155 : gw (.methodLink RL 155 yL_count) := ⟨List.mem_of_getElem? (i := 827) (by decide +kernel), by decide +kernel⟩
theorem qL_63 : gw (.methodLink RL 63 yX6_count) := ⟨List.mem_of_getElem? (i := 830) (by decide +kernel), by decide +kernel⟩
theorem qL_158 : gw (.methodLink RL 158 yL_setting) := ⟨List.mem_of_getElem? (i := 831) (by decide +kernel), by decide +kernel⟩
theorem qL_66 : gw (.methodLink RL 66 yX6_setting) := ⟨List.mem_of_getElem? (i := 834) (by decide +kernel), by decide +kernel⟩
theorem qL_161 : gw (.methodLink RL 161 yL_sure) := ⟨List.mem_of_getElem? (i := 838) (by decide +kernel), by decide +kernel⟩
theorem qL_69 : gw (.methodLink RL 69 yX6_sure) := ⟨List.mem_of_getElem? (i := 841) (by decide +kernel), by decide +kernel⟩
theorem qL_164 : gw (.methodLink RL 164 yL_ifSent) := ⟨List.mem_of_getElem? (i := 842) (by decide +kernel), by decide +kernel⟩
theorem qL_72 : gw (.methodLink RL 72 yX6_ifSent) := ⟨List.mem_of_getElem? (i := 845) (by decide +kernel), by decide +kernel⟩
theorem qL_167 : gw (.methodLink RL 167 yL_ifLearned) := ⟨List.mem_of_getElem? (i := 846) (by decide +kernel), by decide +kernel⟩
theorem qL_75 : gw (.methodLink RL 75 yX6_ifLearned) := ⟨List.mem_of_getElem? (i := 849) (by decide +kernel), by decide +kernel⟩
theorem qL_170 : gw (.methodLink RL 170 yL_beatsFor) := ⟨List.mem_of_getElem? (i := 850) (by decide +kernel), by decide +kernel⟩
theorem qL_78 : gw (.methodLink RL 78 yX6_beatsFor) := ⟨List.mem_of_getElem? (i := 853) (by decide +kernel), by decide +kernel⟩
theorem qL_173 : gw (.methodLink RL 173 yL_bestLesson) := ⟨List.mem_of_getElem? (i := 854) (by decide +kernel), by decide +kernel⟩
theorem qL_81 : gw (.methodLink RL 81 yX6_bestLesson) := ⟨List.mem_of_getElem? (i := 857) (by decide +kernel), by decide +kernel⟩
theorem qL_176 : gw (.methodLink RL 176 yL_hurts) := ⟨List.mem_of_getElem? (i := 858) (by decide +kernel), by decide +kernel⟩
theorem qL_84 : gw (.methodLink RL 84 yX6_hurts) := ⟨List.mem_of_getElem? (i := 861) (by decide +kernel), by decide +kernel⟩
theorem qL_179 : gw (.methodLink RL 179 yL_rightShare) := ⟨List.mem_of_getElem? (i := 862) (by decide +kernel), by decide +kernel⟩
theorem qL_87 : gw (.methodLink RL 87 yX6_rightShare) := ⟨List.mem_of_getElem? (i := 865) (by decide +kernel), by decide +kernel⟩
theorem qL_94 : gw (.methodLink RL 94 yX7_init) := ⟨List.mem_of_getElem? (i := 868) (by decide +kernel), by decide +kernel⟩
theorem qX7_1 : gw (.methodLink RX7 1 objectInit) := ⟨List.mem_of_getElem? (i := 871) (by decide +kernel), by decide +kernel⟩
theorem qL_101 : gw (.methodLink RL 101 yX7_thrown) := ⟨List.mem_of_getElem? (i := 916) (by decide +kernel), by decide +kernel⟩
theorem qL_100 : gw (.methodLink RL 100 yX7_build) := ⟨List.mem_of_getElem? (i := 920) (by decide +kernel), by decide +kernel⟩
theorem qX7_46 : gw (.methodLink RX7 46 yX7_isWay) := ⟨List.mem_of_getElem? (i := 924) (by decide +kernel), by decide +kernel⟩
theorem qX7_39 : gw (.methodLink RX7 39 yX7_in) := ⟨List.mem_of_getElem? (i := 927) (by decide +kernel), by decide +kernel⟩
theorem qX7_50 : gw (.methodLink RX7 50 yX7_isTone) := ⟨List.mem_of_getElem? (i := 930) (by decide +kernel), by decide +kernel⟩
theorem qX7_53 : gw (.methodLink RX7 53 yX7_fails) := ⟨List.mem_of_getElem? (i := 933) (by decide +kernel), by decide +kernel⟩
theorem qX7_57 : gw (.methodLink RX7 57 yX7_mayBuild) := ⟨List.mem_of_getElem? (i := 937) (by decide +kernel), by decide +kernel⟩
theorem qX7_61 : gw (.methodLink RX7 61 yX7_save) := ⟨List.mem_of_getElem? (i := 940) (by decide +kernel), by decide +kernel⟩
theorem qX7_64 : gw (.methodLink RX7 64 yX7_streetAt) := ⟨List.mem_of_getElem? (i := 944) (by decide +kernel), by decide +kernel⟩
theorem qL_107 : gw (.methodLink RL 107 yX7_carry) := ⟨List.mem_of_getElem? (i := 948) (by decide +kernel), by decide +kernel⟩
theorem qX7_68 : gw (.methodLink RX7 68 yX7_accentAt) := ⟨List.mem_of_getElem? (i := 952) (by decide +kernel), by decide +kernel⟩
theorem qL_110 : gw (.methodLink RL 110 yX7_insult) := ⟨List.mem_of_getElem? (i := 956) (by decide +kernel), by decide +kernel⟩
theorem qL_114 : gw (.methodLink RL 114 yX7_set) := ⟨List.mem_of_getElem? (i := 960) (by decide +kernel), by decide +kernel⟩
theorem qX7_71 : gw (.methodLink RX7 71 yX7_maySet) := ⟨List.mem_of_getElem? (i := 964) (by decide +kernel), by decide +kernel⟩
theorem qL_117 : gw (.methodLink RL 117 yX7_learn) := ⟨List.mem_of_getElem? (i := 967) (by decide +kernel), by decide +kernel⟩
theorem qX7_111 : gw (.methodLink RX7 111 yX7_mayBeat) := ⟨List.mem_of_getElem? (i := 971) (by decide +kernel), by decide +kernel⟩
theorem qX7_114 : gw (.methodLink RX7 114 yX7_learnAll) := ⟨List.mem_of_getElem? (i := 975) (by decide +kernel), by decide +kernel⟩
theorem qX7_104 : gw (.methodLink RX7 104 yX7_learnBeat) := ⟨List.mem_of_getElem? (i := 979) (by decide +kernel), by decide +kernel⟩
theorem qX7_94 : gw (.methodLink RX7 94 yX7_learnTone) := ⟨List.mem_of_getElem? (i := 983) (by decide +kernel), by decide +kernel⟩
theorem qX7_81 : gw (.methodLink RX7 81 yX7_draw) := ⟨List.mem_of_getElem? (i := 987) (by decide +kernel), by decide +kernel⟩
theorem qX7_84 : gw (.methodLink RX7 84 yX7_hear) := ⟨List.mem_of_getElem? (i := 995) (by decide +kernel), by decide +kernel⟩
theorem qX7_88 : gw (.methodLink RX7 88 yX7_held) := ⟨List.mem_of_getElem? (i := 999) (by decide +kernel), by decide +kernel⟩
theorem qX7_91 : gw (.methodLink RX7 91 yX7_size) := ⟨List.mem_of_getElem? (i := 1002) (by decide +kernel), by decide +kernel⟩
theorem qX7_98 : gw (.methodLink RX7 98 yX7_worstOf) := ⟨List.mem_of_getElem? (i := 1005) (by decide +kernel), by decide +kernel⟩
theorem qX7_101 : gw (.methodLink RX7 101 yX7_bitsBy) := ⟨List.mem_of_getElem? (i := 1009) (by decide +kernel), by decide +kernel⟩
theorem qX7_108 : gw (.methodLink RX7 108 yX7_carried) := ⟨List.mem_of_getElem? (i := 1013) (by decide +kernel), by decide +kernel⟩
theorem qL_120 : gw (.methodLink RL 120 yX7_send) := ⟨List.mem_of_getElem? (i := 1017) (by decide +kernel), by decide +kernel⟩
theorem qX7_137 : gw (.methodLink RX7 137 yX7_sendAll) := ⟨List.mem_of_getElem? (i := 1021) (by decide +kernel), by decide +kernel⟩
theorem qX7_134 : gw (.methodLink RX7 134 yX7_sendBeat) := ⟨List.mem_of_getElem? (i := 1025) (by decide +kernel), by decide +kernel⟩
theorem qX7_131 : gw (.methodLink RX7 131 yX7_sendTone) := ⟨List.mem_of_getElem? (i := 1029) (by decide +kernel), by decide +kernel⟩
theorem qX7_120 : gw (.methodLink RX7 120 yX7_takeBit) := ⟨List.mem_of_getElem? (i := 1033) (by decide +kernel), by decide +kernel⟩
theorem qX7_117 : gw (.methodLink RX7 117 yX7_amplitude) := ⟨List.mem_of_getElem? (i := 1037) (by decide +kernel), by decide +kernel⟩
theorem qX7_123 : gw (.methodLink RX7 123 yX7_decide) := ⟨List.mem_of_getElem? (i := 1040) (by decide +kernel), by decide +kernel⟩
theorem qX7_126 : gw (.methodLink RX7 126 yX7_ones) := ⟨List.mem_of_getElem? (i := 1044) (by decide +kernel), by decide +kernel⟩
theorem qL_124 : gw (.methodLink RL 124 yX7_forget) := ⟨List.mem_of_getElem? (i := 1048) (by decide +kernel), by decide +kernel⟩
theorem qL_127 : gw (.methodLink RL 127 yX7_append) := ⟨List.mem_of_getElem? (i := 1052) (by decide +kernel), by decide +kernel⟩
theorem qL_131 : gw (.methodLink RL 131 yX7_clearBuffer) := ⟨List.mem_of_getElem? (i := 1056) (by decide +kernel), by decide +kernel⟩
theorem qL_135 : gw (.methodLink RL 135 yX7_firstError) := ⟨List.mem_of_getElem? (i := 1060) (by decide +kernel), by decide +kernel⟩
theorem qX7_156 : gw (.methodLink RX7 156 yX7_read) := ⟨List.mem_of_getElem? (i := 1064) (by decide +kernel), by decide +kernel⟩
theorem qX7_146 : gw (.methodLink RX7 146 yX7_nextState) := ⟨List.mem_of_getElem? (i := 1068) (by decide +kernel), by decide +kernel⟩
theorem qX7_143 : gw (.methodLink RX7 143 yX7_digit) := ⟨List.mem_of_getElem? (i := 1072) (by decide +kernel), by decide +kernel⟩
theorem qL_139 : gw (.methodLink RL 139 yX7_say) := ⟨List.mem_of_getElem? (i := 1075) (by decide +kernel), by decide +kernel⟩
theorem qX7_159 : gw (.methodLink RX7 159 yX7_saidOn) := ⟨List.mem_of_getElem? (i := 1079) (by decide +kernel), by decide +kernel⟩
theorem qL_142 : gw (.methodLink RL 142 yX7_undo) := ⟨List.mem_of_getElem? (i := 1083) (by decide +kernel), by decide +kernel⟩
theorem qL_145 : gw (.methodLink RL 145 yX7_street) := ⟨List.mem_of_getElem? (i := 1087) (by decide +kernel), by decide +kernel⟩
theorem qL_148 : gw (.methodLink RL 148 yX7_accent) := ⟨List.mem_of_getElem? (i := 1091) (by decide +kernel), by decide +kernel⟩
theorem qL_151 : gw (.methodLink RL 151 yX7_waits) := ⟨List.mem_of_getElem? (i := 1095) (by decide +kernel), by decide +kernel⟩
theorem qL_154 : gw (.methodLink RL 154 yX7_had) := ⟨List.mem_of_getElem? (i := 1099) (by decide +kernel), by decide +kernel⟩
theorem qL_157 : gw (.methodLink RL 157 yX7_count) := ⟨List.mem_of_getElem? (i := 1103) (by decide +kernel), by decide +kernel⟩
theorem qX7_169 : gw (.methodLink RX7 169 yX7_counted) := ⟨List.mem_of_getElem? (i := 1107) (by decide +kernel), by decide +kernel⟩
theorem qX7_162 : gw (.methodLink RX7 162 yX7_shyAll) := ⟨List.mem_of_getElem? (i := 1111) (by decide +kernel), by decide +kernel⟩
theorem qX7_166 : gw (.methodLink RX7 166 yX7_insults) := ⟨List.mem_of_getElem? (i := 1115) (by decide +kernel), by decide +kernel⟩
theorem qL_160 : gw (.methodLink RL 160 yX7_setting) := ⟨List.mem_of_getElem? (i := 1119) (by decide +kernel), by decide +kernel⟩
theorem qL_163 : gw (.methodLink RL 163 yX7_sure) := ⟨List.mem_of_getElem? (i := 1123) (by decide +kernel), by decide +kernel⟩
theorem qX7_172 : gw (.methodLink RX7 172 yX7_sureOf) := ⟨List.mem_of_getElem? (i := 1127) (by decide +kernel), by decide +kernel⟩
theorem qL_166 : gw (.methodLink RL 166 yX7_ifSent) := ⟨List.mem_of_getElem? (i := 1131) (by decide +kernel), by decide +kernel⟩
theorem qX7_181 : gw (.methodLink RX7 181 yX7_sentOf) := ⟨List.mem_of_getElem? (i := 1135) (by decide +kernel), by decide +kernel⟩
theorem qX7_175 : gw (.methodLink RX7 175 yX7_putAside) := ⟨List.mem_of_getElem? (i := 1139) (by decide +kernel), by decide +kernel⟩
theorem qX7_178 : gw (.methodLink RX7 178 yX7_putBack) := ⟨List.mem_of_getElem? (i := 1143) (by decide +kernel), by decide +kernel⟩
theorem qL_169 : gw (.methodLink RL 169 yX7_ifLearned) := ⟨List.mem_of_getElem? (i := 1147) (by decide +kernel), by decide +kernel⟩
theorem qX7_184 : gw (.methodLink RX7 184 yX7_learnedOf) := ⟨List.mem_of_getElem? (i := 1151) (by decide +kernel), by decide +kernel⟩
theorem qL_172 : gw (.methodLink RL 172 yX7_beatsFor) := ⟨List.mem_of_getElem? (i := 1155) (by decide +kernel), by decide +kernel⟩
theorem qX7_187 : gw (.methodLink RX7 187 yX7_beatsOf) := ⟨List.mem_of_getElem? (i := 1159) (by decide +kernel), by decide +kernel⟩
theorem qL_175 : gw (.methodLink RL 175 yX7_bestLesson) := ⟨List.mem_of_getElem? (i := 1163) (by decide +kernel), by decide +kernel⟩
theorem qX7_193 : gw (.methodLink RX7 193 yX7_lessonOf) := ⟨List.mem_of_getElem? (i := 1167) (by decide +kernel), by decide +kernel⟩
theorem qX7_190 : gw (.methodLink RX7 190 yX7_lessonBits) := ⟨List.mem_of_getElem? (i := 1171) (by decide +kernel), by decide +kernel⟩
theorem qL_178 : gw (.methodLink RL 178 yX7_hurts) := ⟨List.mem_of_getElem? (i := 1175) (by decide +kernel), by decide +kernel⟩
theorem qX7_196 : gw (.methodLink RX7 196 yX7_hurtsOf) := ⟨List.mem_of_getElem? (i := 1179) (by decide +kernel), by decide +kernel⟩
theorem qL_182 : gw (.methodLink RL 182 yX7_rightShare) := ⟨List.mem_of_getElem? (i := 1183) (by decide +kernel), by decide +kernel⟩
theorem qX7_199 : gw (.methodLink RX7 199 yX7_shareOf) := ⟨List.mem_of_getElem? (i := 1187) (by decide +kernel), by decide +kernel⟩
theorem qL_187 : gw (.methodLink RL 187 yX7_digest) := ⟨List.mem_of_getElem? (i := 1191) (by decide +kernel), by decide +kernel⟩
theorem qX7_209 : gw (.methodLink RX7 209 yX7_mix) := ⟨List.mem_of_getElem? (i := 1196) (by decide +kernel), by decide +kernel⟩
theorem qX7_221 : gw (.methodLink RX7 221 yX7_mixWay) := ⟨List.mem_of_getElem? (i := 1201) (by decide +kernel), by decide +kernel⟩
theorem qX7_213 : gw (.methodLink RX7 213 yJxe99ae_doubleToLongBits_ccdee) := ⟨List.mem_of_getElem? (i := 1205) (by decide +kernel), by decide +kernel⟩
theorem qJxe99ae_122 : gw (.methodLink RJxe99ae 122 yJxe99ae_isNaN_b9ae7) := ⟨List.mem_of_getElem? (i := 1208) (by decide +kernel), by decide +kernel⟩
theorem qJxe99ae_134 : gw (.methodLink RJxe99ae 134 ⟨"java/lang/Double", "doubleToRawLongBits", "(D)J"⟩) := ⟨List.mem_of_getElem? (i := 1211) (by decide +kernel), by decide +kernel⟩
theorem fX4_9 : gw (.fieldLink RX4 9 (TX4 0).1 (TX4 0).2.1 (TX4 0).2.2.1) := ⟨List.mem_of_getElem? (i := 91) (by decide +kernel), by decide +kernel⟩
theorem fX4_21 : gw (.fieldLink RX4 21 (TX4 1).1 (TX4 1).2.1 (TX4 1).2.2.1) := ⟨List.mem_of_getElem? (i := 92) (by decide +kernel), by decide +kernel⟩
theorem fX4_25 : gw (.fieldLink RX4 25 (TX4 2).1 (TX4 2).2.1 (TX4 2).2.2.1) := ⟨List.mem_of_getElem? (i := 93) (by decide +kernel), by decide +kernel⟩
theorem fX6_155 : gw (.fieldLink RX6 155 (TX4 2).1 (TX4 2).2.1 (TX4 2).2.2.1) := ⟨List.mem_of_getElem? (i := 94) (by decide +kernel), by decide +kernel⟩
theorem fX3_9 : gw (.fieldLink RX3 9 (TX3 0).1 (TX3 0).2.1 (TX3 0).2.2.1) := ⟨List.mem_of_getElem? (i := 108) (by decide +kernel), by decide +kernel⟩
theorem fX3_21 : gw (.fieldLink RX3 21 (TX3 1).1 (TX3 1).2.1 (TX3 1).2.2.1) := ⟨List.mem_of_getElem? (i := 109) (by decide +kernel), by decide +kernel⟩
theorem fX3_24 : gw (.fieldLink RX3 24 (TX3 2).1 (TX3 2).2.1 (TX3 2).2.2.1) := ⟨List.mem_of_getElem? (i := 110) (by decide +kernel), by decide +kernel⟩
theorem fX3_27 : gw (.fieldLink RX3 27 (TX3 3).1 (TX3 3).2.1 (TX3 3).2.2.1) := ⟨List.mem_of_getElem? (i := 111) (by decide +kernel), by decide +kernel⟩
theorem fX1_57 : gw (.fieldLink RX1 57 (TX3 3).1 (TX3 3).2.1 (TX3 3).2.2.1) := ⟨List.mem_of_getElem? (i := 112) (by decide +kernel), by decide +kernel⟩
theorem fX3_30 : gw (.fieldLink RX3 30 (TX3 4).1 (TX3 4).2.1 (TX3 4).2.2.1) := ⟨List.mem_of_getElem? (i := 113) (by decide +kernel), by decide +kernel⟩
theorem fX6_70 : gw (.fieldLink RX6 70 (TX3 4).1 (TX3 4).2.1 (TX3 4).2.2.1) := ⟨List.mem_of_getElem? (i := 114) (by decide +kernel), by decide +kernel⟩
theorem fX5_51 : gw (.fieldLink RX5 51 (TX3 4).1 (TX3 4).2.1 (TX3 4).2.2.1) := ⟨List.mem_of_getElem? (i := 115) (by decide +kernel), by decide +kernel⟩
theorem fX3_33 : gw (.fieldLink RX3 33 (TX3 5).1 (TX3 5).2.1 (TX3 5).2.2.1) := ⟨List.mem_of_getElem? (i := 116) (by decide +kernel), by decide +kernel⟩
theorem fX3_36 : gw (.fieldLink RX3 36 (TX3 6).1 (TX3 6).2.1 (TX3 6).2.2.1) := ⟨List.mem_of_getElem? (i := 117) (by decide +kernel), by decide +kernel⟩
theorem fX3_15 : gw (.fieldLink RX3 15 (TX3 7).1 (TX3 7).2.1 (TX3 7).2.2.1) := ⟨List.mem_of_getElem? (i := 118) (by decide +kernel), by decide +kernel⟩
theorem fX3_39 : gw (.fieldLink RX3 39 (TX3 8).1 (TX3 8).2.1 (TX3 8).2.2.1) := ⟨List.mem_of_getElem? (i := 119) (by decide +kernel), by decide +kernel⟩
theorem fX3_42 : gw (.fieldLink RX3 42 (TX3 9).1 (TX3 9).2.1 (TX3 9).2.2.1) := ⟨List.mem_of_getElem? (i := 120) (by decide +kernel), by decide +kernel⟩
theorem fX3_45 : gw (.fieldLink RX3 45 (TX3 10).1 (TX3 10).2.1 (TX3 10).2.2.1) := ⟨List.mem_of_getElem? (i := 121) (by decide +kernel), by decide +kernel⟩
theorem fX6_64 : gw (.fieldLink RX6 64 (TX3 10).1 (TX3 10).2.1 (TX3 10).2.2.1) := ⟨List.mem_of_getElem? (i := 122) (by decide +kernel), by decide +kernel⟩
theorem fX5_45 : gw (.fieldLink RX5 45 (TX3 10).1 (TX3 10).2.1 (TX3 10).2.2.1) := ⟨List.mem_of_getElem? (i := 123) (by decide +kernel), by decide +kernel⟩
theorem fX1_82 : gw (.fieldLink RX1 82 (TX3 10).1 (TX3 10).2.1 (TX3 10).2.2.1) := ⟨List.mem_of_getElem? (i := 124) (by decide +kernel), by decide +kernel⟩
theorem fX3_18 : gw (.fieldLink RX3 18 (TX3 11).1 (TX3 11).2.1 (TX3 11).2.2.1) := ⟨List.mem_of_getElem? (i := 125) (by decide +kernel), by decide +kernel⟩
theorem fX3_48 : gw (.fieldLink RX3 48 (TX3 12).1 (TX3 12).2.1 (TX3 12).2.2.1) := ⟨List.mem_of_getElem? (i := 126) (by decide +kernel), by decide +kernel⟩
theorem fX3_51 : gw (.fieldLink RX3 51 (TX3 13).1 (TX3 13).2.1 (TX3 13).2.2.1) := ⟨List.mem_of_getElem? (i := 127) (by decide +kernel), by decide +kernel⟩
theorem fX5_48 : gw (.fieldLink RX5 48 (TX3 13).1 (TX3 13).2.1 (TX3 13).2.2.1) := ⟨List.mem_of_getElem? (i := 128) (by decide +kernel), by decide +kernel⟩
theorem fX3_54 : gw (.fieldLink RX3 54 (TX3 14).1 (TX3 14).2.1 (TX3 14).2.2.1) := ⟨List.mem_of_getElem? (i := 129) (by decide +kernel), by decide +kernel⟩
theorem fX3_57 : gw (.fieldLink RX3 57 (TX3 15).1 (TX3 15).2.1 (TX3 15).2.2.1) := ⟨List.mem_of_getElem? (i := 130) (by decide +kernel), by decide +kernel⟩
theorem fX3_60 : gw (.fieldLink RX3 60 (TX3 16).1 (TX3 16).2.1 (TX3 16).2.2.1) := ⟨List.mem_of_getElem? (i := 131) (by decide +kernel), by decide +kernel⟩
theorem fX3_63 : gw (.fieldLink RX3 63 (TX3 17).1 (TX3 17).2.1 (TX3 17).2.2.1) := ⟨List.mem_of_getElem? (i := 132) (by decide +kernel), by decide +kernel⟩
theorem fX5_11 : gw (.fieldLink RX5 11 (TX5 0).1 (TX5 0).2.1 (TX5 0).2.2.1) := ⟨List.mem_of_getElem? (i := 170) (by decide +kernel), by decide +kernel⟩
theorem fX1_66 : gw (.fieldLink RX1 66 (TX5 0).1 (TX5 0).2.1 (TX5 0).2.2.1) := ⟨List.mem_of_getElem? (i := 171) (by decide +kernel), by decide +kernel⟩
theorem fX6_117 : gw (.fieldLink RX6 117 (TX5 0).1 (TX5 0).2.1 (TX5 0).2.2.1) := ⟨List.mem_of_getElem? (i := 172) (by decide +kernel), by decide +kernel⟩
theorem fX5_20 : gw (.fieldLink RX5 20 (TX5 1).1 (TX5 1).2.1 (TX5 1).2.2.1) := ⟨List.mem_of_getElem? (i := 173) (by decide +kernel), by decide +kernel⟩
theorem fX2_36 : gw (.fieldLink RX2 36 (TX5 1).1 (TX5 1).2.1 (TX5 1).2.2.1) := ⟨List.mem_of_getElem? (i := 174) (by decide +kernel), by decide +kernel⟩
theorem fX1_78 : gw (.fieldLink RX1 78 (TX5 1).1 (TX5 1).2.1 (TX5 1).2.2.1) := ⟨List.mem_of_getElem? (i := 175) (by decide +kernel), by decide +kernel⟩
theorem fX6_151 : gw (.fieldLink RX6 151 (TX5 1).1 (TX5 1).2.1 (TX5 1).2.2.1) := ⟨List.mem_of_getElem? (i := 176) (by decide +kernel), by decide +kernel⟩
theorem fX5_32 : gw (.fieldLink RX5 32 (TX5 2).1 (TX5 2).2.1 (TX5 2).2.2.1) := ⟨List.mem_of_getElem? (i := 177) (by decide +kernel), by decide +kernel⟩
theorem fX6_192 : gw (.fieldLink RX6 192 (TX5 2).1 (TX5 2).2.1 (TX5 2).2.2.1) := ⟨List.mem_of_getElem? (i := 178) (by decide +kernel), by decide +kernel⟩
theorem fX5_36 : gw (.fieldLink RX5 36 (TX5 3).1 (TX5 3).2.1 (TX5 3).2.2.1) := ⟨List.mem_of_getElem? (i := 179) (by decide +kernel), by decide +kernel⟩
theorem fX6_202 : gw (.fieldLink RX6 202 (TX5 3).1 (TX5 3).2.1 (TX5 3).2.2.1) := ⟨List.mem_of_getElem? (i := 180) (by decide +kernel), by decide +kernel⟩
theorem fX5_40 : gw (.fieldLink RX5 40 (TX5 4).1 (TX5 4).2.1 (TX5 4).2.2.1) := ⟨List.mem_of_getElem? (i := 181) (by decide +kernel), by decide +kernel⟩
theorem fX6_205 : gw (.fieldLink RX6 205 (TX5 4).1 (TX5 4).2.1 (TX5 4).2.2.1) := ⟨List.mem_of_getElem? (i := 182) (by decide +kernel), by decide +kernel⟩
theorem fX1_12 : gw (.fieldLink RX1 12 (TX1 0).1 (TX1 0).2.1 (TX1 0).2.2.1) := ⟨List.mem_of_getElem? (i := 194) (by decide +kernel), by decide +kernel⟩
theorem fX6_147 : gw (.fieldLink RX6 147 (TX1 0).1 (TX1 0).2.1 (TX1 0).2.2.1) := ⟨List.mem_of_getElem? (i := 195) (by decide +kernel), by decide +kernel⟩
theorem fX1_18 : gw (.fieldLink RX1 18 (TX1 1).1 (TX1 1).2.1 (TX1 1).2.2.1) := ⟨List.mem_of_getElem? (i := 196) (by decide +kernel), by decide +kernel⟩
theorem fX6_160 : gw (.fieldLink RX6 160 (TX1 1).1 (TX1 1).2.1 (TX1 1).2.2.1) := ⟨List.mem_of_getElem? (i := 197) (by decide +kernel), by decide +kernel⟩
theorem fX1_21 : gw (.fieldLink RX1 21 (TX1 2).1 (TX1 2).2.1 (TX1 2).2.2.1) := ⟨List.mem_of_getElem? (i := 198) (by decide +kernel), by decide +kernel⟩
theorem fX6_91 : gw (.fieldLink RX6 91 (TX1 2).1 (TX1 2).2.1 (TX1 2).2.2.1) := ⟨List.mem_of_getElem? (i := 199) (by decide +kernel), by decide +kernel⟩
theorem fX1_25 : gw (.fieldLink RX1 25 (TX1 3).1 (TX1 3).2.1 (TX1 3).2.2.1) := ⟨List.mem_of_getElem? (i := 200) (by decide +kernel), by decide +kernel⟩
theorem fX6_199 : gw (.fieldLink RX6 199 (TX1 3).1 (TX1 3).2.1 (TX1 3).2.2.1) := ⟨List.mem_of_getElem? (i := 201) (by decide +kernel), by decide +kernel⟩
theorem fX1_47 : gw (.fieldLink RX1 47 (TX1 4).1 (TX1 4).2.1 (TX1 4).2.2.1) := ⟨List.mem_of_getElem? (i := 202) (by decide +kernel), by decide +kernel⟩
theorem fX6_196 : gw (.fieldLink RX6 196 (TX1 4).1 (TX1 4).2.1 (TX1 4).2.2.1) := ⟨List.mem_of_getElem? (i := 203) (by decide +kernel), by decide +kernel⟩
theorem fX0_9 : gw (.fieldLink RX0 9 (TX0 0).1 (TX0 0).2.1 (TX0 0).2.2.1) := ⟨List.mem_of_getElem? (i := 222) (by decide +kernel), by decide +kernel⟩
theorem fX0_15 : gw (.fieldLink RX0 15 (TX0 1).1 (TX0 1).2.1 (TX0 1).2.2.1) := ⟨List.mem_of_getElem? (i := 223) (by decide +kernel), by decide +kernel⟩
theorem fX1_148 : gw (.fieldLink RX1 148 (TX0 1).1 (TX0 1).2.1 (TX0 1).2.2.1) := ⟨List.mem_of_getElem? (i := 224) (by decide +kernel), by decide +kernel⟩
theorem fX2_9 : gw (.fieldLink RX2 9 (TX2 0).1 (TX2 0).2.1 (TX2 0).2.2.1) := ⟨List.mem_of_getElem? (i := 236) (by decide +kernel), by decide +kernel⟩
theorem fX6_131 : gw (.fieldLink RX6 131 (TX2 0).1 (TX2 0).2.1 (TX2 0).2.2.1) := ⟨List.mem_of_getElem? (i := 237) (by decide +kernel), by decide +kernel⟩
theorem fX2_22 : gw (.fieldLink RX2 22 (TX2 1).1 (TX2 1).2.1 (TX2 1).2.2.1) := ⟨List.mem_of_getElem? (i := 238) (by decide +kernel), by decide +kernel⟩
theorem fX6_126 : gw (.fieldLink RX6 126 (TX2 1).1 (TX2 1).2.1 (TX2 1).2.2.1) := ⟨List.mem_of_getElem? (i := 239) (by decide +kernel), by decide +kernel⟩
theorem fX6_12 : gw (.fieldLink RX6 12 (TX6 0).1 (TX6 0).2.1 (TX6 0).2.2.1) := ⟨List.mem_of_getElem? (i := 246) (by decide +kernel), by decide +kernel⟩
theorem fX6_16 : gw (.fieldLink RX6 16 (TX6 1).1 (TX6 1).2.1 (TX6 1).2.2.1) := ⟨List.mem_of_getElem? (i := 247) (by decide +kernel), by decide +kernel⟩
theorem fX6_19 : gw (.fieldLink RX6 19 (TX6 2).1 (TX6 2).2.1 (TX6 2).2.2.1) := ⟨List.mem_of_getElem? (i := 248) (by decide +kernel), by decide +kernel⟩
theorem fX6_26 : gw (.fieldLink RX6 26 (TX6 3).1 (TX6 3).2.1 (TX6 3).2.2.1) := ⟨List.mem_of_getElem? (i := 249) (by decide +kernel), by decide +kernel⟩
theorem fX6_33 : gw (.fieldLink RX6 33 (TX6 4).1 (TX6 4).2.1 (TX6 4).2.2.1) := ⟨List.mem_of_getElem? (i := 250) (by decide +kernel), by decide +kernel⟩
theorem fX6_169 : gw (.fieldLink RX6 169 (TX6 5).1 (TX6 5).2.1 (TX6 5).2.2.1) := ⟨List.mem_of_getElem? (i := 251) (by decide +kernel), by decide +kernel⟩
theorem fX6_311 : gw (.fieldLink RX6 311 "AccentModems" "LEAST_STREET_NUMBER" "[I") := ⟨List.mem_of_getElem? (i := 660) (by decide +kernel), by decide +kernel⟩
theorem fX6_314 : gw (.fieldLink RX6 314 "AccentModems" "GREATEST_STREET_NUMBER" "[I") := ⟨List.mem_of_getElem? (i := 662) (by decide +kernel), by decide +kernel⟩
theorem fX6_82 : gw (.fieldLink RX6 82 "AccentModems" "LEAST_SETTING" "[I") := ⟨List.mem_of_getElem? (i := 725) (by decide +kernel), by decide +kernel⟩
theorem fX6_86 : gw (.fieldLink RX6 86 "AccentModems" "GREATEST_SETTING" "[I") := ⟨List.mem_of_getElem? (i := 727) (by decide +kernel), by decide +kernel⟩
theorem fX7_7 : gw (.fieldLink RX7 7 (TX7 0).1 (TX7 0).2.1 (TX7 0).2.2.1) := ⟨List.mem_of_getElem? (i := 872) (by decide +kernel), by decide +kernel⟩
theorem fX7_13 : gw (.fieldLink RX7 13 (TX7 1).1 (TX7 1).2.1 (TX7 1).2.2.1) := ⟨List.mem_of_getElem? (i := 873) (by decide +kernel), by decide +kernel⟩
theorem fX7_16 : gw (.fieldLink RX7 16 (TX7 2).1 (TX7 2).2.1 (TX7 2).2.2.1) := ⟨List.mem_of_getElem? (i := 874) (by decide +kernel), by decide +kernel⟩
theorem fX7_19 : gw (.fieldLink RX7 19 (TX7 3).1 (TX7 3).2.1 (TX7 3).2.2.1) := ⟨List.mem_of_getElem? (i := 875) (by decide +kernel), by decide +kernel⟩
theorem fX7_23 : gw (.fieldLink RX7 23 (TX7 4).1 (TX7 4).2.1 (TX7 4).2.2.1) := ⟨List.mem_of_getElem? (i := 876) (by decide +kernel), by decide +kernel⟩
theorem fX7_26 : gw (.fieldLink RX7 26 (TX7 5).1 (TX7 5).2.1 (TX7 5).2.2.1) := ⟨List.mem_of_getElem? (i := 877) (by decide +kernel), by decide +kernel⟩
theorem fX7_43 : gw (.fieldLink RX7 43 (TX7 6).1 (TX7 6).2.1 (TX7 6).2.2.1) := ⟨List.mem_of_getElem? (i := 878) (by decide +kernel), by decide +kernel⟩
theorem fX7_29 : gw (.fieldLink RX7 29 (TX7 7).1 (TX7 7).2.1 (TX7 7).2.2.1) := ⟨List.mem_of_getElem? (i := 879) (by decide +kernel), by decide +kernel⟩
theorem fX7_140 : gw (.fieldLink RX7 140 (TX7 8).1 (TX7 8).2.1 (TX7 8).2.2.1) := ⟨List.mem_of_getElem? (i := 880) (by decide +kernel), by decide +kernel⟩
theorem fX7_35 : gw (.fieldLink RX7 35 (TX7 9).1 (TX7 9).2.1 (TX7 9).2.2.1) := ⟨List.mem_of_getElem? (i := 881) (by decide +kernel), by decide +kernel⟩
theorem fX7_32 : gw (.fieldLink RX7 32 (TX7 10).1 (TX7 10).2.1 (TX7 10).2.2.1) := ⟨List.mem_of_getElem? (i := 882) (by decide +kernel), by decide +kernel⟩
theorem fX7_149 : gw (.fieldLink RX7 149 (TX7 11).1 (TX7 11).2.1 (TX7 11).2.2.1) := ⟨List.mem_of_getElem? (i := 883) (by decide +kernel), by decide +kernel⟩
theorem fX7_152 : gw (.fieldLink RX7 152 (TX7 12).1 (TX7 12).2.1 (TX7 12).2.2.1) := ⟨List.mem_of_getElem? (i := 884) (by decide +kernel), by decide +kernel⟩
theorem fX7_205 : gw (.fieldLink RX7 205 (TX7 13).1 (TX7 13).2.1 (TX7 13).2.2.1) := ⟨List.mem_of_getElem? (i := 885) (by decide +kernel), by decide +kernel⟩
theorem inX0 : ∀ w ∈ u_ws RX0 TX0 2, gw w := gw_places [225, 227] (by decide +kernel) (by decide +kernel)
theorem inX1 : ∀ w ∈ u_ws RX1 TX1 5, gw w := gw_places [204, 206, 208, 210, 212] (by decide +kernel) (by decide +kernel)
theorem inX2 : ∀ w ∈ u_ws RX2 TX2 2, gw w := gw_places [240, 242] (by decide +kernel) (by decide +kernel)
theorem inX3 : ∀ w ∈ u_ws RX3 TX3 18, gw w := gw_places [133, 135, 137, 139, 141, 143, 145, 147, 149, 151, 153, 155, 157, 159, 161, 163, 165, 167] (by decide +kernel) (by decide +kernel)
theorem inX4 : ∀ w ∈ u_ws RX4 TX4 3, gw w := gw_places [95, 97, 99] (by decide +kernel) (by decide +kernel)
theorem inX5 : ∀ w ∈ u_ws RX5 TX5 5, gw w := gw_places [183, 185, 187, 189, 191] (by decide +kernel) (by decide +kernel)
theorem inX6 : ∀ w ∈ u_ws RX6 TX6 6, gw w := gw_places [252, 254, 256, 258, 260, 262] (by decide +kernel) (by decide +kernel)
theorem inX7 : ∀ w ∈ u_ws RX7 TX7 14, gw w := gw_places [886, 888, 890, 892, 894, 896, 898, 900, 902, 904, 906, 908, 910, 912] (by decide +kernel) (by decide +kernel)
theorem ini_AccentModemsLaw : gw (.initialized "AccentModemsLaw") := ⟨List.mem_of_getElem? (i := 44) (by decide +kernel), by decide +kernel⟩
theorem iniX6 : gw (.initialized RX6) := ⟨List.mem_of_getElem? (i := 45) (by decide +kernel), by decide +kernel⟩
theorem iniX1 : gw (.initialized RX1) := ⟨List.mem_of_getElem? (i := 46) (by decide +kernel), by decide +kernel⟩
theorem iniX5 : gw (.initialized RX5) := ⟨List.mem_of_getElem? (i := 47) (by decide +kernel), by decide +kernel⟩
theorem iniX4 : gw (.initialized RX4) := ⟨List.mem_of_getElem? (i := 48) (by decide +kernel), by decide +kernel⟩
theorem iniX3 : gw (.initialized RX3) := ⟨List.mem_of_getElem? (i := 49) (by decide +kernel), by decide +kernel⟩
theorem iniX0 : gw (.initialized RX0) := ⟨List.mem_of_getElem? (i := 50) (by decide +kernel), by decide +kernel⟩
theorem iniX2 : gw (.initialized RX2) := ⟨List.mem_of_getElem? (i := 51) (by decide +kernel), by decide +kernel⟩
theorem iniX7 : gw (.initialized RX7) := ⟨List.mem_of_getElem? (i := 52) (by decide +kernel), by decide +kernel⟩
theorem ini_Throwable : gw (.initialized "java/lang/Throwable") := ⟨List.mem_of_getElem? (i := 53) (by decide +kernel), by decide +kernel⟩
theorem ini_Exception : gw (.initialized "java/lang/Exception") := ⟨List.mem_of_getElem? (i := 54) (by decide +kernel), by decide +kernel⟩
theorem ini_RuntimeException : gw (.initialized "java/lang/RuntimeException") := ⟨List.mem_of_getElem? (i := 55) (by decide +kernel), by decide +kernel⟩
theorem ini_IndexOutOfBoundsException : gw (.initialized "java/lang/IndexOutOfBoundsException") := ⟨List.mem_of_getElem? (i := 56) (by decide +kernel), by decide +kernel⟩
theorem ini_IllegalArgumentException : gw (.initialized "java/lang/IllegalArgumentException") := ⟨List.mem_of_getElem? (i := 57) (by decide +kernel), by decide +kernel⟩
theorem ini_System : gw (.initialized "java/lang/System") := ⟨List.mem_of_getElem? (i := 58) (by decide +kernel), by decide +kernel⟩
theorem ini_IllegalStateException : gw (.initialized "java/lang/IllegalStateException") := ⟨List.mem_of_getElem? (i := 59) (by decide +kernel), by decide +kernel⟩
theorem ini_Math : gw (.initialized "java/lang/Math") := ⟨List.mem_of_getElem? (i := 60) (by decide +kernel), by decide +kernel⟩
theorem ini_Integer : gw (.initialized "java/lang/Integer") := ⟨List.mem_of_getElem? (i := 61) (by decide +kernel), by decide +kernel⟩
theorem ini_Double : gw (.initialized "java/lang/Double") := ⟨List.mem_of_getElem? (i := 62) (by decide +kernel), by decide +kernel⟩
theorem nL_8 : gw (.classLink RL 8 RX6) := ⟨List.mem_of_getElem? (i := 63) (by decide +kernel), by decide +kernel⟩
theorem insX6 : gw (.instantiable RX6 6) := ⟨List.mem_of_getElem? (i := 64) (by decide +kernel), by decide +kernel⟩
theorem nX6_9 : gw (.classLink RX6 9 RX1) := ⟨List.mem_of_getElem? (i := 71) (by decide +kernel), by decide +kernel⟩
theorem insX1 : gw (.instantiable RX1 5) := ⟨List.mem_of_getElem? (i := 72) (by decide +kernel), by decide +kernel⟩
theorem nX1_9 : gw (.classLink RX1 9 RX5) := ⟨List.mem_of_getElem? (i := 77) (by decide +kernel), by decide +kernel⟩
theorem insX5 : gw (.instantiable RX5 5) := ⟨List.mem_of_getElem? (i := 78) (by decide +kernel), by decide +kernel⟩
theorem nX5_9 : gw (.classLink RX5 9 RX3) := ⟨List.mem_of_getElem? (i := 83) (by decide +kernel), by decide +kernel⟩
theorem nX5_17 : gw (.classLink RX5 17 RX4) := ⟨List.mem_of_getElem? (i := 85) (by decide +kernel), by decide +kernel⟩
theorem insX4 : gw (.instantiable RX4 3) := ⟨List.mem_of_getElem? (i := 86) (by decide +kernel), by decide +kernel⟩
theorem arc_int : gw (.arrayClass .int) := ⟨List.mem_of_getElem? (i := 102) (by decide +kernel), by decide +kernel⟩
theorem insX3 : gw (.instantiable RX3 18) := ⟨List.mem_of_getElem? (i := 103) (by decide +kernel), by decide +kernel⟩
theorem nX6_23 : gw (.classLink RX6 23 RX0) := ⟨List.mem_of_getElem? (i := 216) (by decide +kernel), by decide +kernel⟩
theorem insX0 : gw (.instantiable RX0 2) := ⟨List.mem_of_getElem? (i := 217) (by decide +kernel), by decide +kernel⟩
theorem nX6_30 : gw (.classLink RX6 30 RX2) := ⟨List.mem_of_getElem? (i := 230) (by decide +kernel), by decide +kernel⟩
theorem insX2 : gw (.instantiable RX2 2) := ⟨List.mem_of_getElem? (i := 231) (by decide +kernel), by decide +kernel⟩
theorem arc_char : gw (.arrayClass .char) := ⟨List.mem_of_getElem? (i := 245) (by decide +kernel), by decide +kernel⟩
theorem kX6_243 : gw (.constantLong RX6 243 (2417)) := ⟨List.mem_of_getElem? (i := 290) (by decide +kernel), by decide +kernel⟩
theorem kX6_245 : gw (.constantLong RX6 245 (31)) := ⟨List.mem_of_getElem? (i := 291) (by decide +kernel), by decide +kernel⟩
theorem nX6_57 : gw (.classLink RX6 57 "java/lang/IllegalArgumentException") := ⟨List.mem_of_getElem? (i := 308) (by decide +kernel), by decide +kernel⟩
theorem arc_byte : gw (.arrayClass .byte) := ⟨List.mem_of_getElem? (i := 375) (by decide +kernel), by decide +kernel⟩
theorem nX6_184 : gw (.classLink RX6 184 "java/lang/IndexOutOfBoundsException") := ⟨List.mem_of_getElem? (i := 392) (by decide +kernel), by decide +kernel⟩
theorem kX1_50 : gw (.constantLong RX1 50 (1103515245)) := ⟨List.mem_of_getElem? (i := 499) (by decide +kernel), by decide +kernel⟩
theorem kX1_52 : gw (.constantLong RX1 52 (12345)) := ⟨List.mem_of_getElem? (i := 500) (by decide +kernel), by decide +kernel⟩
theorem kX1_54 : gw (.constantLong RX1 54 (2147483648)) := ⟨List.mem_of_getElem? (i := 501) (by decide +kernel), by decide +kernel⟩
theorem kX1_56 : gw (.constant RX1 56 (65536)) := ⟨List.mem_of_getElem? (i := 502) (by decide +kernel), by decide +kernel⟩
theorem kJ6_265 : gw (.constant RJ6 265 (1431655765)) := ⟨List.mem_of_getElem? (i := 520) (by decide +kernel), by decide +kernel⟩
theorem kJ6_266 : gw (.constant RJ6 266 (858993459)) := ⟨List.mem_of_getElem? (i := 521) (by decide +kernel), by decide +kernel⟩
theorem kJ6_267 : gw (.constant RJ6 267 (252645135)) := ⟨List.mem_of_getElem? (i := 522) (by decide +kernel), by decide +kernel⟩
theorem kX5_43 : gw (.constantLong RX5 43 (1152921504606846975)) := ⟨List.mem_of_getElem? (i := 535) (by decide +kernel), by decide +kernel⟩
theorem kX6_299 : gw (.constantLong RX6 299 (1023)) := ⟨List.mem_of_getElem? (i := 644) (by decide +kernel), by decide +kernel⟩
theorem kX6_301 : gw (.constantDouble RX6 301 (4611686018427387904)) := ⟨List.mem_of_getElem? (i := 645) (by decide +kernel), by decide +kernel⟩
theorem kX6_303 : gw (.constantDouble RX6 303 (4841369599423283200)) := ⟨List.mem_of_getElem? (i := 646) (by decide +kernel), by decide +kernel⟩
theorem nL_13 : gw (.classLink RL 13 "java/lang/IndexOutOfBoundsException") := ⟨List.mem_of_getElem? (i := 650) (by decide +kernel), by decide +kernel⟩
theorem nL_15 : gw (.classLink RL 15 "java/lang/IllegalArgumentException") := ⟨List.mem_of_getElem? (i := 651) (by decide +kernel), by decide +kernel⟩
theorem nL_24 : gw (.classLink RL 24 "java/lang/IllegalStateException") := ⟨List.mem_of_getElem? (i := 692) (by decide +kernel), by decide +kernel⟩
theorem nX6_73 : gw (.classLink RX6 73 "java/lang/IllegalStateException") := ⟨List.mem_of_getElem? (i := 698) (by decide +kernel), by decide +kernel⟩
theorem nL_92 : gw (.classLink RL 92 RX7) := ⟨List.mem_of_getElem? (i := 866) (by decide +kernel), by decide +kernel⟩
theorem insX7 : gw (.instantiable RX7 14) := ⟨List.mem_of_getElem? (i := 867) (by decide +kernel), by decide +kernel⟩
theorem arc_long : gw (.arrayClass .long) := ⟨List.mem_of_getElem? (i := 915) (by decide +kernel), by decide +kernel⟩
theorem kX7_74 : gw (.constantLong RX7 74 (1103515245)) := ⟨List.mem_of_getElem? (i := 991) (by decide +kernel), by decide +kernel⟩
theorem kX7_76 : gw (.constantLong RX7 76 (12345)) := ⟨List.mem_of_getElem? (i := 992) (by decide +kernel), by decide +kernel⟩
theorem kX7_78 : gw (.constantLong RX7 78 (2147483648)) := ⟨List.mem_of_getElem? (i := 993) (by decide +kernel), by decide +kernel⟩
theorem kX7_80 : gw (.constant RX7 80 (65536)) := ⟨List.mem_of_getElem? (i := 994) (by decide +kernel), by decide +kernel⟩
theorem kX7_129 : gw (.constantLong RX7 129 (1152921504606846975)) := ⟨List.mem_of_getElem? (i := 1047) (by decide +kernel), by decide +kernel⟩
theorem kX7_219 : gw (.constantLong RX7 219 (2417)) := ⟨List.mem_of_getElem? (i := 1195) (by decide +kernel), by decide +kernel⟩
theorem kX7_203 : gw (.constantLong RX7 203 (31)) := ⟨List.mem_of_getElem? (i := 1200) (by decide +kernel), by decide +kernel⟩
theorem kJxe99ae_137 : gw (.constantLong RJxe99ae 137 (9221120237041090560)) := ⟨List.mem_of_getElem? (i := 1214) (by decide +kernel), by decide +kernel⟩
theorem arc_double : gw (.arrayClass .double) := ⟨List.mem_of_getElem? (i := 1215) (by decide +kernel), by decide +kernel⟩
theorem vOi : gw (.instanceMethod objectInit) := ⟨List.mem_of_getElem? (i := 69) (by decide +kernel), by decide +kernel⟩
theorem vOc : gw (.code objectInit ⟨#[0xb1]⟩ 1 none) := ⟨List.mem_of_getElem? (i := 70) (by decide +kernel), by decide +kernel⟩
theorem vMabs : gw (.static Lib.Math.abs.name) ∧ gw (.code Lib.Math.abs.name Lib.Math.abs.code 1 (some .int)) := ⟨⟨List.mem_of_getElem? (i := 440) (by decide +kernel), by decide +kernel⟩, ⟨List.mem_of_getElem? (i := 441) (by decide +kernel), by decide +kernel⟩⟩
theorem vMmax : gw (.static Lib.Math.max.name) ∧ gw (.code Lib.Math.max.name Lib.Math.max.code 2 (some .int)) := ⟨⟨List.mem_of_getElem? (i := 515) (by decide +kernel), by decide +kernel⟩, ⟨List.mem_of_getElem? (i := 516) (by decide +kernel), by decide +kernel⟩⟩
theorem vMmin : gw (.static Lib.Math.min.name) ∧ gw (.code Lib.Math.min.name Lib.Math.min.code 2 (some .int)) := ⟨⟨List.mem_of_getElem? (i := 512) (by decide +kernel), by decide +kernel⟩, ⟨List.mem_of_getElem? (i := 513) (by decide +kernel), by decide +kernel⟩⟩
theorem vAc : gw (.native arraycopyName) ∧ gw (.static arraycopyName) := ⟨⟨List.mem_of_getElem? (i := 469) (by decide +kernel), by decide +kernel⟩, ⟨List.mem_of_getElem? (i := 468) (by decide +kernel), by decide +kernel⟩⟩
theorem vDr : gw (.native ⟨"java/lang/Double", "doubleToRawLongBits", "(D)J"⟩) ∧ gw (.static ⟨"java/lang/Double", "doubleToRawLongBits", "(D)J"⟩) := ⟨⟨List.mem_of_getElem? (i := 1213) (by decide +kernel), by decide +kernel⟩, ⟨List.mem_of_getElem? (i := 1212) (by decide +kernel), by decide +kernel⟩⟩
set_option maxRecDepth 20000 in
theorem xx_IndexOutOfBoundsException : ∀ w ∈ vx_atS RX6 188 "java/lang/IndexOutOfBoundsException" ["java/lang/RuntimeException", "java/lang/Exception"], goodWord w = true → gw w := by
  have h : ∀ w ∈ (vx_atS RX6 188 "java/lang/IndexOutOfBoundsException" ["java/lang/RuntimeException", "java/lang/Exception"]).filter goodWord, w ∈ lw_tbl := by decide +kernel
  exact fun w hw hg => ⟨h w (List.mem_filter.mpr ⟨hw, hg⟩), hg⟩
theorem xy_IndexOutOfBoundsException : (vx_atS RX6 188 "java/lang/IndexOutOfBoundsException" ["java/lang/RuntimeException", "java/lang/Exception"]).filter (fun w => !goodWord w) = [.declares (Bundle.initS "java/lang/RuntimeException"), .declares (Bundle.initS "java/lang/Exception"), .declares (Bundle.initS "java/lang/Throwable"), .castable "java/lang/IndexOutOfBoundsException" "java/lang/IndexOutOfBoundsException"] := by decide +kernel
set_option maxRecDepth 20000 in
theorem xx_IllegalArgumentException : ∀ w ∈ vx_atS RX6 61 "java/lang/IllegalArgumentException" ["java/lang/RuntimeException", "java/lang/Exception"], goodWord w = true → gw w := by
  have h : ∀ w ∈ (vx_atS RX6 61 "java/lang/IllegalArgumentException" ["java/lang/RuntimeException", "java/lang/Exception"]).filter goodWord, w ∈ lw_tbl := by decide +kernel
  exact fun w hw hg => ⟨h w (List.mem_filter.mpr ⟨hw, hg⟩), hg⟩
theorem xy_IllegalArgumentException : (vx_atS RX6 61 "java/lang/IllegalArgumentException" ["java/lang/RuntimeException", "java/lang/Exception"]).filter (fun w => !goodWord w) = [.declares (Bundle.initS "java/lang/RuntimeException"), .declares (Bundle.initS "java/lang/Exception"), .declares (Bundle.initS "java/lang/Throwable"), .castable "java/lang/IllegalArgumentException" "java/lang/IllegalArgumentException"] := by decide +kernel
set_option maxRecDepth 20000 in
theorem xx_IllegalStateException : ∀ w ∈ vx_atS RX6 77 "java/lang/IllegalStateException" ["java/lang/RuntimeException", "java/lang/Exception"], goodWord w = true → gw w := by
  have h : ∀ w ∈ (vx_atS RX6 77 "java/lang/IllegalStateException" ["java/lang/RuntimeException", "java/lang/Exception"]).filter goodWord, w ∈ lw_tbl := by decide +kernel
  exact fun w hw hg => ⟨h w (List.mem_filter.mpr ⟨hw, hg⟩), hg⟩
theorem xy_IllegalStateException : (vx_atS RX6 77 "java/lang/IllegalStateException" ["java/lang/RuntimeException", "java/lang/Exception"]).filter (fun w => !goodWord w) = [.declares (Bundle.initS "java/lang/RuntimeException"), .declares (Bundle.initS "java/lang/Exception"), .declares (Bundle.initS "java/lang/Throwable"), .castable "java/lang/IllegalStateException" "java/lang/IllegalStateException"] := by decide +kernel
end
section
/-! A LOGIC OVER THE MACHINE, whose heap is a list of cells: 'Ev .. pc lv st ws' says: from the program counter pc, with the locals lv, the operand stack st and the cells ws, the method comes to its end with Pr (or throws, with Px), and makes at most k cells of n slots on the way. -/
abbrev gE : Type := Launch × va_G × (Nat → ClassId) × Nat × (Nat × Nat × (Nat → Int32)) × (Nat → Nat)
abbrev gL (E : gE) : Launch := E.1
abbrev gD (E : gE) : va_G := E.2.1
abbrev gK (E : gE) : Nat → ClassId := E.2.2.1
abbrev gB (E : gE) : Nat := E.2.2.2.1
abbrev gSc (E : gE) : Nat × Nat × (Nat → Int32) := E.2.2.2.2.1
abbrev gT (E : gE) : Nat → Nat := E.2.2.2.2.2
def gA (E : gE) : Nat → Prop := fun q => gB E ≤ q
def gTy (E : gE) : List (ClassId × FieldType) := [(gK E 0, .int), (gK E 1, .long), (gK E 2, .char), (gK E 3, .double), (gK E 4, .object RX3), (gK E 5, .object RX1)]
/-- the four rows of bounds, by number, name, length, contents -/
def gSv (l : List Int32) : Nat → Int32 := fun k => l.getD k 0
def gSt : List (Nat × String × Nat × (Nat → Int32)) := [(0, "LEAST_SETTING", 3, gSv [1, 4, 1]), (1, "GREATEST_SETTING", 3, gSv [64, 40, 50]), (2, "LEAST_STREET_NUMBER", 4, gSv [16, -32, -32, 0]), (3, "GREATEST_STREET_NUMBER", 4, gSv [96, 32, 32, 60])]
def gStr : List (Nat × String) := [(214, "what is not 0 to 12"), (305, "there is no such way"), (307, "there is no such tone"), (177, "what is not 0 to 6"), (179, "what is not 0 to 10"), (321, "beats is not 1 to 100"), (219, "what is not 0 to 2"), (309, "what is not 0 to 3"), (317, "value is out of range"), (59, "bits is not 0 to 4"), (68, "by is not -300 to 300"), (75, "the insult would not be -1000 to 1000"), (319, "there is no such setting"), (89, "value is out of the range of the setting"), (323, "there would be more than 5000 beats"), (124, "code is not 33 to 126"), (129, "the buffer is full"), (142, "the buffer is not a complete row of messages"), (163, "more than 256 bits would wait on a way"), (172, "there is no saved state"), (186, "there are not so many bits")]
def gNest : List (String × Nat × MethodName) := [(RX6, 11, yX1_init), (RX5, 19, yX4_init), (RX5, 24, yX3_init), (RX6, 25, yX0_init), (RX6, 32, yX2_init)]
def xI : String := "java/lang/IndexOutOfBoundsException"
def xA : String := "java/lang/IllegalArgumentException"
def xS : String := "java/lang/IllegalStateException"
def gNc : List (String × String) := [(xA, xI), (xS, xI), (xS, xA)]
def gXn : List String := [xI, xA, xS]
def gXd : List String := ["java/lang/RuntimeException", "java/lang/Exception", "java/lang/Throwable"]
/-- what holds of the tables, the statics, the constants, the script, in every state on the way -/
def WG (E : gE) (U : State) (H : Heap) : Prop :=
  (gL E).stackTraces = false ∧ va_K (gD E) gCl (gTy E) U ∧ (∀ q ∈ gSt, va_Z RX6 q.2.1 "[I" (.ref (gT E q.1)) (gA E) U H ∧ va_X (gT E q.1) q.2.2.1 q.2.2.2 U H ∧ ¬ gA E (gT E q.1)) ∧
  (va_X (gSc E).1 (gSc E).2.1 (gSc E).2.2 U H ∧ ¬ gA E (gSc E).1) ∧ (∀ q ∈ gStr, ∃ a, vk_R RX6 q.1 q.2 a U) ∧
  vx_Zq Bundle.tN "UNASSIGNED_STACK" Bundle.steD (gA E) U H ∧ vx_Zq Bundle.tN "SUPPRESSED_SENTINEL" Bundle.listD (gA E) U H ∧
  (∀ q ∈ gNest, va_Nw (.methodLinkNest q.1 q.2.1 q.2.2 RX6) U) ∧ va_AO RX3 U ∧ va_AO RX1 U ∧ (∀ q ∈ gNc, va_Nc q.1 q.2 U) ∧ (∀ X ∈ gXn, va_Nw (.castable X X) U) ∧ (∀ X ∈ gXd, va_Nw (.declares (Bundle.initS X)) U) ∧ gB E ≤ H.size
theorem va_X_lt {b L : Nat} {xs : Nat → Int32} {U : State} {H : Heap} (h : va_X b L xs U H) : b < H.size := by
  obtain ⟨scr, h1, -⟩ := h
  exact (Array.getElem?_eq_some_iff.mp h1).1
theorem WG_moved {E : gE} {s U : State} {H : Heap} {locs : List Loc} (hW : s.WarmedH U.vm) (hS : va_S (gA E) s.heap H locs) (h : WG E s s.heap) : WG E U H := by
  obtain ⟨h1, h2, h3, h4, h5, h6, h7, h8, h9, h10, h11, h12, h13, h14⟩ := h
  have kq : ∀ a : Nat, a < s.heap.size → ¬ gA E a → H[a]? = s.heap[a]? := hS.2.1
  refine ⟨h1, va_K.moved hW.alike h2, fun q hq => ?_, ?_, fun q hq => ?_, ?_, ?_, fun q hq => va_Nw.warmM hW (h8 q hq), va_AO.moved hW.alike h9, va_AO.moved hW.alike h10, fun q hq => va_Nc.moved hW.alike (h11 q hq), fun X hX => va_Nw.warmC hW (h12 X hX), fun X hX => va_Nw.warmD hW (h13 X hX), Nat.le_trans h14 hS.1⟩
  · obtain ⟨a1, a2, a3⟩ := h3 q hq
    exact ⟨va_Z.moved hW.alike (a1.kept kq), (va_X.moved hW.alike a2).kept (kq _ (va_X_lt a2) a3), a3⟩
  · obtain ⟨a2, a3⟩ := h4
    exact ⟨(va_X.moved hW.alike a2).kept (kq _ (va_X_lt a2) a3), a3⟩
  · obtain ⟨a, ha⟩ := h5 q hq
    exact ⟨a, vk_R.warm hW ha⟩
  · exact vx_Zq.moved hW.alike (h6.kept kq)
  · exact vx_Zq.moved hW.alike (h7.kept kq)
def gP (E : gE) (ws : va_W) (H : Heap) : Prop := va_P (gD E) gCl ws H ∧ va_D (gA E) ws
def gQ (E : gE) (Pr : Option Value → va_W → Prop) : Array Value → State → Outcome → State → Prop := fun _ st oc t => (∃ (v : Option Value) (ws : va_W), oc = .returned v ∧ Pr v ws ∧ gP E ws t.heap) ∧ va_F (gA E) st t
def gXC (E : gE) (Px : String → va_W → Prop) : String → State → State → Prop := fun Ec st t => (∃ ws : va_W, Px Ec ws ∧ gP E ws t.heap) ∧ va_F (gA E) st t
def gPc (E : gE) (av : List Value) (ws : va_W) : Array Value → State → Prop := fun v U => v = av.toArray ∧ WG E U U.heap ∧ gP E ws U.heap
def wsU (Y : MI) : List Cond := Cond.code (mnm Y) (mcd Y) (mml Y) (mrt Y) :: lw_tbl.filter goodWord
def wsW (Y : MI) : List Cond := Cond.codeWith (mnm Y) (mcd Y) (mml Y) (mrt Y) (mhh Y) :: lw_tbl.filter goodWord
def gR (Y : MI) (k n : Nat) : Room := { frames := mdp Y, cells := k, slots := n, locals := 37 * mdp Y }
/-- a method that returns -/
def C0 (E : gE) (Y : MI) (k n : Nat) (av : List Value) (ws : va_W) (Pr : Option Value → va_W → Prop) : Prop := Met (gL E) (mnm Y) (wsU Y) (gR Y k n) (gPc E av ws) (gQ E Pr) k n (gA E)
/-- a method that returns or throws -/
def C1 (E : gE) (Y : MI) (k n : Nat) (av : List Value) (ws : va_W) (Pr : Option Value → va_W → Prop) (Px : String → va_W → Prop) : Prop := vx_Met (gL E) (mnm Y) (wsU Y) (gR Y k n) (gPc E av ws) (gQ E Pr) (gXC E Px) k n (gA E)
/-- a method with handlers, that returns -/
def C2 (E : gE) (Y : MI) (k n : Nat) (av : List Value) (ws : va_W) (Pr : Option Value → va_W → Prop) : Prop := Met (gL E) (mnm Y) (wsW Y) (gR Y k n) (gPc E av ws) (gQ E Pr) k n (gA E)
def Cx (E : gE) (Y : MI) (p : Program) (R : Room) (s : State) (m : MethodId) (args : Array Value) (meth : Method) (c : Code) : Prop :=
  p.tables.exec = Jvm.exec ∧ c.code = mcd Y ∧ meth.sig.returnType = mrt Y ∧ meth.locks = false ∧ c.maxLocals = mml Y ∧ (∀ w, gw w → w.before args s = true) ∧ s.vm.findClass (mnm Y).cls = some m.cls ∧ meth.name = (mnm Y).name ∧ c.exceptionTable.toList = tableOf (mhh Y) ∧ WG E s s.heap ∧ mdp Y ≤ R.frames ∧ 37 * mdp Y ≤ R.locals
def Ev (E : gE) (Y : MI) (Pr : Option Value → va_W → Prop) (Px : String → va_W → Prop) (k n pc : Nat) (lv : List (Nat × Value)) (st : List Value) (ws : va_W) : Prop :=
  ∀ (p : Program) (e : Env) (R : Room) (s : State) (m : MethodId) (args : Array Value) (below : List Frame) (meth : Method) (c : Code) (H : Heap) (locs : List Loc) (cells slots : Nat) (ls : Array Slot),
    Cx E Y p R s m args meth c → lv_has ls (mml Y) lv → va_S (gA E) s.heap H locs → gP E ws H → cells + k ≤ R.cells → slots + n ≤ R.slots →
    W p (gL E) e R s m args below meth c H locs cells slots (vx_MQ below (gQ E Pr) (gXC E Px) args s R.cells R.slots (gA E)) (F0 m pc ls st)
/-- something is thrown over the frame -/
def EvX (E : gE) (Y : MI) (Pr : Option Value → va_W → Prop) (Px : String → va_W → Prop) (k n pc : Nat) (lv : List (Nat × Value)) (Ec : String) (ws : va_W) : Prop :=
  ∀ (p : Program) (e : Env) (R : Room) (s : State) (m : MethodId) (args : Array Value) (below : List Frame) (meth : Method) (c : Code) (H : Heap) (locs : List Loc) (cells slots : Nat) (ls : Array Slot) (rest : List Value) (q : Nat) (ce : Cell),
    Cx E Y p R s m args meth c → lv_has ls (mml Y) lv → va_S (gA E) s.heap H locs → gP E ws H → cells + k ≤ R.cells → slots + n ≤ R.slots → H[q]? = some ce → ce.vm = .none → s.vm.findClass Ec = some ce.cls →
    vx_W p (gL E) e R s m args below meth c H locs cells slots (vx_MQ below (gQ E Pr) (gXC E Px) args s R.cells R.slots (gA E)) (F0 m pc ls rest) q
/-! the instructions that touch neither heap nor tables -/
def lgt : List (Nat × Value) → Nat → Option Value
  | [], _ => none
  | q :: r, i => if q.1 = i then some q.2 else lgt r i
theorem lgt_mem : ∀ (lv : List (Nat × Value)) (i : Nat) (v : Value), lgt lv i = some v → (i, v) ∈ lv
  | [], i, v, h => by simp [lgt] at h
  | q :: r, i, v, h => by
    unfold lgt at h
    by_cases hq : q.1 = i
    · rw [if_pos hq] at h
      cases h
      subst hq
      exact List.mem_cons_self
    · rw [if_neg hq] at h
      exact List.mem_cons_of_mem _ (lgt_mem r i v h)
theorem lgt_at {ls : Array Slot} {nL : Nat} {lv : List (Nat × Value)} {i : Nat} {v : Value} (hl : lv_has ls nL lv) (h : lgt lv i = some v) : ls[i]? = some (.val v) := hl.2.2 _ (lgt_mem lv i v h)
def ls1 (lv : List (Nat × Value)) (i : Nat) (v : Value) : List (Nat × Value) := (i, v) :: lv.filter (fun q => !(q.1 == i) && !(q.1 + 1 == i && q.2.category == 2))
def ls2 (lv : List (Nat × Value)) (i : Nat) (v : Value) : List (Nat × Value) := (i, v) :: lv.filter (fun q => !(q.1 == i) && (!(q.1 == i + 1) && !(q.1 + 1 == i && q.2.category == 2)))
/-- a written number -/
def icst : Int → Int32
  | .ofNat n => Int32.ofNat n
  | .negSucc n => -(Int32.ofNat (n + 1))
theorem icst_eq : ∀ d : Int, Int32.ofInt d = icst d
  | .ofNat n => Int32.ofInt_eq_ofNat
  | .negSucc n => by
    show Int32.ofInt (-((n + 1 : Nat) : Int)) = -(Int32.ofNat (n + 1))
    rw [Int32.ofInt_neg, Int32.ofInt_eq_ofNat]
abbrev sR : Type := Option (List (Nat × Value) × List Value)
def s_int (lv : List (Nat × Value)) (st : List Value) : Option Value → sR
  | some (.int x) => some (lv, .int x :: st)
  | _ => none
def s_ref (lv : List (Nat × Value)) (st : List Value) : Option Value → sR
  | some (.ref x) => some (lv, .ref x :: st)
  | _ => none
def s_long (lv : List (Nat × Value)) (st : List Value) : Option Value → sR
  | some (.long x) => some (lv, .long x :: st)
  | _ => none
def s_dbl (lv : List (Nat × Value)) (st : List Value) : Option Value → sR
  | some (.double x) => some (lv, .double x :: st)
  | _ => none
def st_int (nL : Nat) (lv : List (Nat × Value)) (i : Nat) : List Value → sR
  | .int x :: r => if i < nL then some (ls1 lv i (.int x), r) else none
  | _ => none
def st_ref (nL : Nat) (lv : List (Nat × Value)) (i : Nat) : List Value → sR
  | .ref x :: r => if i < nL then some (ls1 lv i (.ref x), r) else none
  | _ => none
def st_long (nL : Nat) (lv : List (Nat × Value)) (i : Nat) : List Value → sR
  | .long x :: r => if i + 1 < nL then some (ls2 lv i (.long x), r) else none
  | _ => none
def st_dbl (nL : Nat) (lv : List (Nat × Value)) (i : Nat) : List Value → sR
  | .double x :: r => if i + 1 < nL then some (ls2 lv i (.double x), r) else none
  | _ => none
def s_ii (lv : List (Nat × Value)) (f : Int32 → Int32 → Int32) : List Value → sR
  | .int y :: .int x :: r => some (lv, .int (f x y) :: r)
  | _ => none
def s_jj (lv : List (Nat × Value)) (f : Int64 → Int64 → Int64) : List Value → sR
  | .long y :: .long x :: r => some (lv, .long (f x y) :: r)
  | _ => none
def s_i (lv : List (Nat × Value)) (f : Int32 → Value) : List Value → sR
  | .int x :: r => some (lv, f x :: r)
  | _ => none
def s_j (lv : List (Nat × Value)) (f : Int64 → Value) : List Value → sR
  | .long x :: r => some (lv, f x :: r)
  | _ => none
def s_d (lv : List (Nat × Value)) (f : UInt64 → Value) : List Value → sR
  | .double x :: r => some (lv, f x :: r)
  | _ => none
def s_inc (nL : Nat) (lv : List (Nat × Value)) (st : List Value) (i : Nat) (d : Int) : Option Value → sR
  | some (.int x) => if i < nL then some (ls1 lv i (.int (x + icst d)), st) else none
  | _ => none
def s_lsh (lv : List (Nat × Value)) : List Value → sR
  | .int y :: .long x :: r => some (lv, .long (x <<< (y.toInt64 &&& 63)) :: r)
  | _ => none
def s_lcm (lv : List (Nat × Value)) : List Value → sR
  | .long y :: .long x :: r => some (lv, .int (lg_cmp x y) :: r)
  | _ => none
def s_dcm (lv : List (Nat × Value)) (op : CmpOp) : List Value → sR
  | .double y :: .double x :: r => some (lv, .int (Op.cmpValue (FP.dcmp x y) op) :: r)
  | _ => none
def s_dup (lv : List (Nat × Value)) : List Value → sR
  | v :: r => if v.category = 1 then some (lv, v :: v :: r) else none
  | _ => none
def s_dup2 (lv : List (Nat × Value)) : List Value → sR
  | v :: w :: r => if v.category = 1 ∧ w.category = 1 then some (lv, v :: w :: v :: w :: r) else none
  | _ => none
def s_pop (lv : List (Nat × Value)) : List Value → sR
  | v :: r => if v.category = 1 then some (lv, r) else none
  | _ => none
def simA (lv : List (Nat × Value)) (st : List Value) : Instr → sR
  | .iload_n k => s_int lv st (lgt lv k.val)
  | .iload i => s_int lv st (lgt lv i)
  | .aload_n k => s_ref lv st (lgt lv k.val)
  | .aload i => s_ref lv st (lgt lv i)
  | .lload_n k => s_long lv st (lgt lv k.val)
  | .lload i => s_long lv st (lgt lv i)
  | .dload_n k => s_dbl lv st (lgt lv k.val)
  | .dload i => s_dbl lv st (lgt lv i)
  | .iconst d => some (lv, .int (icst d) :: st)
  | .bipush d => if -128 ≤ d ∧ d ≤ 127 then some (lv, .int (icst d) :: st) else none
  | .sipush d => if -32768 ≤ d ∧ d ≤ 32767 then some (lv, .int (icst d) :: st) else none
  | .lconst d => some (lv, .long (Int64.ofNat d.val) :: st)
  | _ => none
def simB (nL : Nat) (lv : List (Nat × Value)) (st : List Value) : Instr → sR
  | .istore_n k => st_int nL lv k.val st
  | .istore i => st_int nL lv i st
  | .astore_n k => st_ref nL lv k.val st
  | .astore i => st_ref nL lv i st
  | .lstore_n k => st_long nL lv k.val st
  | .lstore i => st_long nL lv i st
  | .dstore_n k => st_dbl nL lv k.val st
  | .dstore i => st_dbl nL lv i st
  | .iinc i d => s_inc nL lv st i d (lgt lv i)
  | _ => none
def simC (lv : List (Nat × Value)) (st : List Value) : Instr → sR
  | .iadd => s_ii lv (fun x y => x + y) st
  | .isub => s_ii lv (fun x y => x - y) st
  | .imul => s_ii lv (fun x y => x * y) st
  | .iand => s_ii lv (fun x y => x &&& y) st
  | .ixor => s_ii lv (fun x y => x ^^^ y) st
  | .ishl => s_ii lv (fun x y => x <<< (y &&& 31)) st
  | .ishr => s_ii lv (fun x y => x >>> (y &&& 31)) st
  | .iushr => s_ii lv (fun x y => (x.toUInt32 >>> (y.toUInt32 &&& Int32.toUInt32 31)).toInt32) st
  | .ineg => s_i lv (fun x => .int (-x)) st
  | .ladd => s_jj lv (fun x y => x + y) st
  | .lsub => s_jj lv (fun x y => x - y) st
  | .lmul => s_jj lv (fun x y => x * y) st
  | .land => s_jj lv (fun x y => x &&& y) st
  | .lor => s_jj lv (fun x y => x ||| y) st
  | _ => none
def simD (lv : List (Nat × Value)) (st : List Value) : Instr → sR
  | .lshl => s_lsh lv st
  | .lcmp => s_lcm lv st
  | .dcmp op => s_dcm lv op st
  | .i2l => s_i lv (fun x => .long x.toInt64) st
  | .l2i => s_j lv (fun x => .int x.toInt32) st
  | .i2d => s_i lv (fun x => .double (FP.i2d x)) st
  | .d2l => s_d lv (fun x => .long (FP.d2l x)) st
  | .i2c => s_i lv (fun x => .int (x.toUInt32 % 65536).toInt32) st
  | .dup => s_dup lv st
  | .dup2 => s_dup2 lv st
  | .pop => s_pop lv st
  | _ => none
def sim1 (nL : Nat) (ins : Instr) (lv : List (Nat × Value)) (st : List Value) : sR :=
  match simA lv st ins with
  | some r => some r
  | none => match simB nL lv st ins with
    | some r => some r
    | none => match simC lv st ins with
      | some r => some r
      | none => simD lv st ins
end
section
def slen : Instr → Nat
  | .iload _ => 2
  | .aload _ => 2
  | .lload _ => 2
  | .dload _ => 2
  | .istore _ => 2
  | .astore _ => 2
  | .lstore _ => 2
  | .dstore _ => 2
  | .bipush _ => 2
  | .sipush _ => 3
  | .iinc _ _ => 3
  | _ => 1
theorem s_int_spec {lv lv' : List (Nat × Value)} {st st' : List Value} {o : Option Value} (h : s_int lv st o = some (lv', st')) : ∃ x, o = some (.int x) ∧ lv' = lv ∧ st' = .int x :: st := by
  unfold s_int at h
  split at h
  · cases h; exact ⟨_, rfl, rfl, rfl⟩
  · cases h
theorem s_ref_spec {lv lv' : List (Nat × Value)} {st st' : List Value} {o : Option Value} (h : s_ref lv st o = some (lv', st')) : ∃ x, o = some (.ref x) ∧ lv' = lv ∧ st' = .ref x :: st := by
  unfold s_ref at h
  split at h
  · cases h; exact ⟨_, rfl, rfl, rfl⟩
  · cases h
theorem s_long_spec {lv lv' : List (Nat × Value)} {st st' : List Value} {o : Option Value} (h : s_long lv st o = some (lv', st')) : ∃ x, o = some (.long x) ∧ lv' = lv ∧ st' = .long x :: st := by
  unfold s_long at h
  split at h
  · cases h; exact ⟨_, rfl, rfl, rfl⟩
  · cases h
theorem s_dbl_spec {lv lv' : List (Nat × Value)} {st st' : List Value} {o : Option Value} (h : s_dbl lv st o = some (lv', st')) : ∃ x, o = some (.double x) ∧ lv' = lv ∧ st' = .double x :: st := by
  unfold s_dbl at h
  split at h
  · cases h; exact ⟨_, rfl, rfl, rfl⟩
  · cases h
theorem st_int_spec {nL i : Nat} {lv lv' : List (Nat × Value)} {st st' : List Value} (h : st_int nL lv i st = some (lv', st')) : ∃ x, st = .int x :: st' ∧ lv' = ls1 lv i (.int x) ∧ i < nL := by
  unfold st_int at h
  split at h
  · split at h
    · cases h; exact ⟨_, rfl, rfl, by assumption⟩
    · cases h
  · cases h
theorem st_ref_spec {nL i : Nat} {lv lv' : List (Nat × Value)} {st st' : List Value} (h : st_ref nL lv i st = some (lv', st')) : ∃ x, st = .ref x :: st' ∧ lv' = ls1 lv i (.ref x) ∧ i < nL := by
  unfold st_ref at h
  split at h
  · split at h
    · cases h; exact ⟨_, rfl, rfl, by assumption⟩
    · cases h
  · cases h
theorem st_long_spec {nL i : Nat} {lv lv' : List (Nat × Value)} {st st' : List Value} (h : st_long nL lv i st = some (lv', st')) : ∃ x, st = .long x :: st' ∧ lv' = ls2 lv i (.long x) ∧ i + 1 < nL := by
  unfold st_long at h
  split at h
  · split at h
    · cases h; exact ⟨_, rfl, rfl, by assumption⟩
    · cases h
  · cases h
theorem st_dbl_spec {nL i : Nat} {lv lv' : List (Nat × Value)} {st st' : List Value} (h : st_dbl nL lv i st = some (lv', st')) : ∃ x, st = .double x :: st' ∧ lv' = ls2 lv i (.double x) ∧ i + 1 < nL := by
  unfold st_dbl at h
  split at h
  · split at h
    · cases h; exact ⟨_, rfl, rfl, by assumption⟩
    · cases h
  · cases h
theorem s_ii_spec {lv lv' : List (Nat × Value)} {st st' : List Value} {f : Int32 → Int32 → Int32} (h : s_ii lv f st = some (lv', st')) : ∃ x y r, st = .int y :: .int x :: r ∧ lv' = lv ∧ st' = .int (f x y) :: r := by
  unfold s_ii at h
  split at h
  · cases h; exact ⟨_, _, _, rfl, rfl, rfl⟩
  · cases h
theorem s_jj_spec {lv lv' : List (Nat × Value)} {st st' : List Value} {f : Int64 → Int64 → Int64} (h : s_jj lv f st = some (lv', st')) : ∃ x y r, st = .long y :: .long x :: r ∧ lv' = lv ∧ st' = .long (f x y) :: r := by
  unfold s_jj at h
  split at h
  · cases h; exact ⟨_, _, _, rfl, rfl, rfl⟩
  · cases h
theorem s_i_spec {lv lv' : List (Nat × Value)} {st st' : List Value} {f : Int32 → Value} (h : s_i lv f st = some (lv', st')) : ∃ x r, st = .int x :: r ∧ lv' = lv ∧ st' = f x :: r := by
  unfold s_i at h
  split at h
  · cases h; exact ⟨_, _, rfl, rfl, rfl⟩
  · cases h
theorem s_j_spec {lv lv' : List (Nat × Value)} {st st' : List Value} {f : Int64 → Value} (h : s_j lv f st = some (lv', st')) : ∃ x r, st = .long x :: r ∧ lv' = lv ∧ st' = f x :: r := by
  unfold s_j at h
  split at h
  · cases h; exact ⟨_, _, rfl, rfl, rfl⟩
  · cases h
theorem s_d_spec {lv lv' : List (Nat × Value)} {st st' : List Value} {f : UInt64 → Value} (h : s_d lv f st = some (lv', st')) : ∃ x r, st = .double x :: r ∧ lv' = lv ∧ st' = f x :: r := by
  unfold s_d at h
  split at h
  · cases h; exact ⟨_, _, rfl, rfl, rfl⟩
  · cases h
theorem s_inc_spec {nL i : Nat} {d : Int} {lv lv' : List (Nat × Value)} {st st' : List Value} {o : Option Value} (h : s_inc nL lv st i d o = some (lv', st')) : ∃ x, o = some (.int x) ∧ lv' = ls1 lv i (.int (x + icst d)) ∧ st' = st ∧ i < nL := by
  unfold s_inc at h
  split at h
  · split at h
    · cases h; exact ⟨_, rfl, rfl, rfl, by assumption⟩
    · cases h
  · cases h
section SIM
variable {p : Program} {l : Launch} {e : Env} {R : Room} {s : State} {m : MethodId} {args : Array Value} {below : List Frame} {meth : Method} {c : Code} {H : Heap} {locs : List Loc} {cells slots : Nat} {Q : State → Prop}
variable {cc : ByteArray} {pc nL : Nat} {ls : Array Slot} {lv lv' : List (Nat × Value)} {st st' : List Value} {ins : Instr}
theorem simA_W (hx : p.tables.exec = Jvm.exec) (hb : c.code = cc) (hdg : decode cc pc = .ok (ins, slen ins)) (hl : lv_has ls nL lv) (hs : simA lv st ins = some (lv', st'))
    (kk : ∀ ls', lv_has ls' nL lv' → W p l e R s m args below meth c H locs cells slots Q (F0 m (pc + slen ins) ls' st')) : W p l e R s m args below meth c H locs cells slots Q (F0 m pc ls st) := by
  unfold simA at hs
  split at hs
  · obtain ⟨x, h1, rfl, rfl⟩ := s_int_spec hs
    exact lv_iload_n hx hb hdg rfl (lgt_at hl h1) (kk _ hl)
  · obtain ⟨x, h1, rfl, rfl⟩ := s_int_spec hs
    exact lv_iload hx hb hdg (lgt_at hl h1) (kk _ hl)
  · obtain ⟨x, h1, rfl, rfl⟩ := s_ref_spec hs
    exact lv_aload_n hx hb hdg rfl (lgt_at hl h1) (kk _ hl)
  · obtain ⟨x, h1, rfl, rfl⟩ := s_ref_spec hs
    exact lv_aload hx hb hdg (lgt_at hl h1) (kk _ hl)
  · obtain ⟨x, h1, rfl, rfl⟩ := s_long_spec hs
    exact lv_lload_n hx hb hdg rfl (lgt_at hl h1) (kk _ hl)
  · obtain ⟨x, h1, rfl, rfl⟩ := s_long_spec hs
    exact lv_lload hx hb hdg (lgt_at hl h1) (kk _ hl)
  · obtain ⟨x, h1, rfl, rfl⟩ := s_dbl_spec hs
    exact lv_dload_n hx hb hdg rfl (lgt_at hl h1) (kk _ hl)
  · obtain ⟨x, h1, rfl, rfl⟩ := s_dbl_spec hs
    exact lv_dload hx hb hdg (lgt_at hl h1) (kk _ hl)
  · cases hs
    exact lv_iconst hx hb hdg (icst_eq _) (kk _ hl)
  · split at hs
    · rename_i h
      cases hs
      exact lv_bipush hx hb hdg ((Int8.toInt32_ofInt h.1 h.2).trans (icst_eq _)) (kk _ hl)
    · cases hs
  · split at hs
    · rename_i h
      cases hs
      exact lv_sipush hx hb hdg ((Int16.toInt32_ofInt h.1 h.2).trans (icst_eq _)) (kk _ hl)
    · cases hs
  · cases hs
    exact lv_lconst hx hb hdg rfl (kk _ hl)
  · cases hs
theorem simB_W (hx : p.tables.exec = Jvm.exec) (hb : c.code = cc) (hdg : decode cc pc = .ok (ins, slen ins)) (hl : lv_has ls nL lv) (hs : simB nL lv st ins = some (lv', st'))
    (kk : ∀ ls', lv_has ls' nL lv' → W p l e R s m args below meth c H locs cells slots Q (F0 m (pc + slen ins) ls' st')) : W p l e R s m args below meth c H locs cells slots Q (F0 m pc ls st) := by
  unfold simB at hs
  split at hs
  · obtain ⟨x, rfl, rfl, h1⟩ := st_int_spec hs
    exact lv_istore_n hx hb hdg rfl hl h1 rfl (fun ls' h => kk ls' h)
  · obtain ⟨x, rfl, rfl, h1⟩ := st_int_spec hs
    exact lv_istore hx hb hdg hl h1 rfl (fun ls' h => kk ls' h)
  · obtain ⟨x, rfl, rfl, h1⟩ := st_ref_spec hs
    exact lv_astore_n hx hb hdg rfl hl h1 rfl (fun ls' h => kk ls' h)
  · obtain ⟨x, rfl, rfl, h1⟩ := st_ref_spec hs
    exact lv_astore hx hb hdg hl h1 rfl (fun ls' h => kk ls' h)
  · obtain ⟨x, rfl, rfl, h1⟩ := st_long_spec hs
    exact lv_lstore_n hx hb hdg rfl hl h1 rfl (fun ls' h => kk ls' h)
  · obtain ⟨x, rfl, rfl, h1⟩ := st_long_spec hs
    exact lv_lstore hx hb hdg hl h1 rfl (fun ls' h => kk ls' h)
  · obtain ⟨x, rfl, rfl, h1⟩ := st_dbl_spec hs
    exact lv_dstore_n hx hb hdg rfl hl h1 rfl (fun ls' h => kk ls' h)
  · obtain ⟨x, rfl, rfl, h1⟩ := st_dbl_spec hs
    exact lv_dstore hx hb hdg hl h1 rfl (fun ls' h => kk ls' h)
  · obtain ⟨x, h1, rfl, rfl, h2⟩ := s_inc_spec hs
    obtain ⟨j, hj⟩ := List.getElem?_of_mem (lgt_mem _ _ _ h1)
    exact lv_iinc hx hb hdg hl hj (by rw [icst_eq]) h2 rfl (fun ls' h => kk ls' h)
  · cases hs
theorem simC_W (hx : p.tables.exec = Jvm.exec) (hb : c.code = cc) (hdg : decode cc pc = .ok (ins, slen ins)) (hl : lv_has ls nL lv) (hs : simC lv st ins = some (lv', st'))
    (kk : ∀ ls', lv_has ls' nL lv' → W p l e R s m args below meth c H locs cells slots Q (F0 m (pc + slen ins) ls' st')) : W p l e R s m args below meth c H locs cells slots Q (F0 m pc ls st) := by
  unfold simC at hs
  split at hs
  · obtain ⟨x, y, r, rfl, rfl, rfl⟩ := s_ii_spec hs
    exact lv_iadd hx hb hdg (kk _ hl)
  · obtain ⟨x, y, r, rfl, rfl, rfl⟩ := s_ii_spec hs
    exact lv_isub hx hb hdg (kk _ hl)
  · obtain ⟨x, y, r, rfl, rfl, rfl⟩ := s_ii_spec hs
    exact lv_imul hx hb hdg (kk _ hl)
  · obtain ⟨x, y, r, rfl, rfl, rfl⟩ := s_ii_spec hs
    exact lv_iand hx hb hdg (kk _ hl)
  · obtain ⟨x, y, r, rfl, rfl, rfl⟩ := s_ii_spec hs
    exact lv_ixor hx hb hdg (kk _ hl)
  · obtain ⟨x, y, r, rfl, rfl, rfl⟩ := s_ii_spec hs
    exact lv_ishl hx hb hdg (kk _ hl)
  · obtain ⟨x, y, r, rfl, rfl, rfl⟩ := s_ii_spec hs
    exact lv_ishr hx hb hdg (kk _ hl)
  · obtain ⟨x, y, r, rfl, rfl, rfl⟩ := s_ii_spec hs
    exact lv_iushr hx hb hdg rfl (kk _ hl)
  · obtain ⟨x, r, rfl, rfl, rfl⟩ := s_i_spec hs
    exact lv_ineg hx hb hdg (kk _ hl)
  · obtain ⟨x, y, r, rfl, rfl, rfl⟩ := s_jj_spec hs
    exact lv_ladd hx hb hdg (kk _ hl)
  · obtain ⟨x, y, r, rfl, rfl, rfl⟩ := s_jj_spec hs
    exact lv_lsub hx hb hdg (kk _ hl)
  · obtain ⟨x, y, r, rfl, rfl, rfl⟩ := s_jj_spec hs
    exact lv_lmul hx hb hdg (kk _ hl)
  · obtain ⟨x, y, r, rfl, rfl, rfl⟩ := s_jj_spec hs
    exact lv_land hx hb hdg (kk _ hl)
  · obtain ⟨x, y, r, rfl, rfl, rfl⟩ := s_jj_spec hs
    exact lv_lor hx hb hdg (kk _ hl)
  · cases hs
theorem simD_W (hx : p.tables.exec = Jvm.exec) (hb : c.code = cc) (hdg : decode cc pc = .ok (ins, slen ins)) (hl : lv_has ls nL lv) (hs : simD lv st ins = some (lv', st'))
    (kk : ∀ ls', lv_has ls' nL lv' → W p l e R s m args below meth c H locs cells slots Q (F0 m (pc + slen ins) ls' st')) : W p l e R s m args below meth c H locs cells slots Q (F0 m pc ls st) := by
  unfold simD at hs
  split at hs
  · unfold s_lsh at hs
    split at hs
    · cases hs; exact lv_lshl hx hb hdg rfl (kk _ hl)
    · cases hs
  · unfold s_lcm at hs
    split at hs
    · cases hs; exact W.lcmp hx hb hdg (kk _ hl)
    · cases hs
  · unfold s_dcm at hs
    split at hs
    · cases hs; exact lv_dcmp hx hb hdg (kk _ hl)
    · cases hs
  · obtain ⟨x, r, rfl, rfl, rfl⟩ := s_i_spec hs
    exact lv_i2l hx hb hdg rfl (kk _ hl)
  · obtain ⟨x, r, rfl, rfl, rfl⟩ := s_j_spec hs
    exact lv_l2i hx hb hdg rfl (kk _ hl)
  · obtain ⟨x, r, rfl, rfl, rfl⟩ := s_i_spec hs
    exact lv_i2d hx hb hdg (kk _ hl)
  · obtain ⟨x, r, rfl, rfl, rfl⟩ := s_d_spec hs
    exact lv_d2l hx hb hdg (kk _ hl)
  · obtain ⟨x, r, rfl, rfl, rfl⟩ := s_i_spec hs
    exact lv_i2c hx hb hdg rfl (kk _ hl)
  · unfold s_dup at hs
    split at hs
    · split at hs
      · cases hs; exact lv_dup hx hb hdg (by assumption) (kk _ hl)
      · cases hs
    · cases hs
  · unfold s_dup2 at hs
    split at hs
    · split at hs
      · rename_i h
        cases hs; exact lv_dup2_11 hx hb hdg h.1 h.2 (kk _ hl)
      · cases hs
    · cases hs
  · unfold s_pop at hs
    split at hs
    · split at hs
      · cases hs; exact lv_pop hx hb hdg (by assumption) (kk _ hl)
      · cases hs
    · cases hs
  · cases hs
theorem sim1_W (hx : p.tables.exec = Jvm.exec) (hb : c.code = cc) (hdg : decode cc pc = .ok (ins, slen ins)) (hl : lv_has ls nL lv) (hs : sim1 nL ins lv st = some (lv', st'))
    (kk : ∀ ls', lv_has ls' nL lv' → W p l e R s m args below meth c H locs cells slots Q (F0 m (pc + slen ins) ls' st')) : W p l e R s m args below meth c H locs cells slots Q (F0 m pc ls st) := by
  unfold sim1 at hs
  split at hs
  · rename_i r h
    cases hs
    exact simA_W hx hb hdg hl h kk
  · split at hs
    · rename_i r h
      cases hs
      exact simB_W hx hb hdg hl h kk
    · split at hs
      · rename_i r h
        cases hs
        exact simC_W hx hb hdg hl h kk
      · exact simD_W hx hb hdg hl hs kk
end SIM
/-- n instructions from the i-th row of a listing on -/
def simN (nL : Nat) (L : LI) : Nat → Nat → Nat → List (Nat × Value) → List Value → Option (Nat × List (Nat × Value) × List Value)
  | 0, _, pc, lv, st => some (pc, lv, st)
  | n + 1, i, pc, lv, st => match L[i]? with
    | some q => if q.1 = pc then (if q.2.2 = slen q.2.1 then (match sim1 nL q.2.1 lv st with
      | some r => simN nL L n (i + 1) (pc + slen q.2.1) r.1 r.2
      | none => none) else none) else none
    | none => none
theorem ev_ss {E : gE} {Y : MI} {Pr : Option Value → va_W → Prop} {Px : String → va_W → Prop} {k n : Nat} {ws : va_W} {L : LI} (D : Lst Y L) (N i : Nat) {pc pc' : Nat} {lv lv' : List (Nat × Value)} {st st' : List Value} (hs : simN (mml Y) L N i pc lv st = some (pc', lv', st'))
    (kk : Ev E Y Pr Px k n pc' lv' st' ws) : Ev E Y Pr Px k n pc lv st ws := by
  induction N generalizing i pc lv st with
  | zero =>
    simp only [simN] at hs
    cases hs
    exact kk
  | succ N ih =>
    simp only [simN] at hs
    split at hs
    · rename_i q hq
      split at hs
      · rename_i h1
        split at hs
        · rename_i h2
          split at hs
          · rename_i r hr
            have hk := ih (i + 1) hs
            intro p e R s m args below meth c H locs cells slots ls hC hl hS hP hc hn
            have hd := D q (List.mem_of_getElem? hq)
            rw [h1] at hd
            have hd' : decode (mcd Y) pc = .ok (q.2.1, slen q.2.1) := by rw [hd, ← h2]
            exact sim1_W hC.1 hC.2.1 hd' hl hr (fun ls' hl' => hk p e R s m args below meth c H locs cells slots ls' hC hl' hS hP hc hn)
          · cases hs
        · cases hs
      · cases hs
    · cases hs
end
section
section EVR
variable {E : gE} {Y : MI} {Pr : Option Value → va_W → Prop} {Px : String → va_W → Prop} {k n : Nat} {ws : va_W} {L : LI} {pc : Nat} {lv : List (Nat × Value)} {st : List Value}
theorem ev_ifeq (D : Lst Y L) (i : Nat) {x : Int32} {off : Int} {tgt : Nat} (hi : L[i]? = some (pc, .ifCond .eq off, 3)) (ht : (pc : Int) + off = (tgt : Int))
    (kt : x = 0 → Ev E Y Pr Px k n tgt lv st ws) (kf : ¬ x = 0 → Ev E Y Pr Px k n (pc + 3) lv st ws) : Ev E Y Pr Px k n pc lv (.int x :: st) ws := by
  intro p e R s m args below meth c H locs cells slots ls hC hl hS hP hc hn
  have hd := D _ (List.mem_of_getElem? hi)
  exact lv_if_eq hC.1 hC.2.1 hd ht (fun h => kt h p e R s m args below meth c H locs cells slots ls hC hl hS hP hc hn) (fun h => kf h p e R s m args below meth c H locs cells slots ls hC hl hS hP hc hn)
theorem ev_iceq (D : Lst Y L) (i : Nat) {x y : Int32} {off : Int} {tgt : Nat} (hi : L[i]? = some (pc, .if_icmp .eq off, 3)) (ht : (pc : Int) + off = (tgt : Int))
    (kt : x = y → Ev E Y Pr Px k n tgt lv st ws) (kf : ¬ x = y → Ev E Y Pr Px k n (pc + 3) lv st ws) : Ev E Y Pr Px k n pc lv (.int y :: .int x :: st) ws := by
  intro p e R s m args below meth c H locs cells slots ls hC hl hS hP hc hn
  have hd := D _ (List.mem_of_getElem? hi)
  exact lv_icmp_eq hC.1 hC.2.1 hd ht (fun h => kt h p e R s m args below meth c H locs cells slots ls hC hl hS hP hc hn) (fun h => kf h p e R s m args below meth c H locs cells slots ls hC hl hS hP hc hn)
theorem ev_ifne (D : Lst Y L) (i : Nat) {x : Int32} {off : Int} {tgt : Nat} (hi : L[i]? = some (pc, .ifCond .ne off, 3)) (ht : (pc : Int) + off = (tgt : Int))
    (kt : ¬ x = 0 → Ev E Y Pr Px k n tgt lv st ws) (kf : x = 0 → Ev E Y Pr Px k n (pc + 3) lv st ws) : Ev E Y Pr Px k n pc lv (.int x :: st) ws := by
  intro p e R s m args below meth c H locs cells slots ls hC hl hS hP hc hn
  have hd := D _ (List.mem_of_getElem? hi)
  exact lv_if_ne hC.1 hC.2.1 hd ht (fun h => kt h p e R s m args below meth c H locs cells slots ls hC hl hS hP hc hn) (fun h => kf h p e R s m args below meth c H locs cells slots ls hC hl hS hP hc hn)
theorem ev_icne (D : Lst Y L) (i : Nat) {x y : Int32} {off : Int} {tgt : Nat} (hi : L[i]? = some (pc, .if_icmp .ne off, 3)) (ht : (pc : Int) + off = (tgt : Int))
    (kt : ¬ x = y → Ev E Y Pr Px k n tgt lv st ws) (kf : x = y → Ev E Y Pr Px k n (pc + 3) lv st ws) : Ev E Y Pr Px k n pc lv (.int y :: .int x :: st) ws := by
  intro p e R s m args below meth c H locs cells slots ls hC hl hS hP hc hn
  have hd := D _ (List.mem_of_getElem? hi)
  exact lv_icmp_ne hC.1 hC.2.1 hd ht (fun h => kt h p e R s m args below meth c H locs cells slots ls hC hl hS hP hc hn) (fun h => kf h p e R s m args below meth c H locs cells slots ls hC hl hS hP hc hn)
theorem ev_iflt (D : Lst Y L) (i : Nat) {x : Int32} {off : Int} {tgt : Nat} (hi : L[i]? = some (pc, .ifCond .lt off, 3)) (ht : (pc : Int) + off = (tgt : Int))
    (kt : x < 0 → Ev E Y Pr Px k n tgt lv st ws) (kf : ¬ x < 0 → Ev E Y Pr Px k n (pc + 3) lv st ws) : Ev E Y Pr Px k n pc lv (.int x :: st) ws := by
  intro p e R s m args below meth c H locs cells slots ls hC hl hS hP hc hn
  have hd := D _ (List.mem_of_getElem? hi)
  exact lv_if_lt hC.1 hC.2.1 hd ht (fun h => kt h p e R s m args below meth c H locs cells slots ls hC hl hS hP hc hn) (fun h => kf h p e R s m args below meth c H locs cells slots ls hC hl hS hP hc hn)
theorem ev_iclt (D : Lst Y L) (i : Nat) {x y : Int32} {off : Int} {tgt : Nat} (hi : L[i]? = some (pc, .if_icmp .lt off, 3)) (ht : (pc : Int) + off = (tgt : Int))
    (kt : x < y → Ev E Y Pr Px k n tgt lv st ws) (kf : ¬ x < y → Ev E Y Pr Px k n (pc + 3) lv st ws) : Ev E Y Pr Px k n pc lv (.int y :: .int x :: st) ws := by
  intro p e R s m args below meth c H locs cells slots ls hC hl hS hP hc hn
  have hd := D _ (List.mem_of_getElem? hi)
  exact lv_icmp_lt hC.1 hC.2.1 hd ht (fun h => kt h p e R s m args below meth c H locs cells slots ls hC hl hS hP hc hn) (fun h => kf h p e R s m args below meth c H locs cells slots ls hC hl hS hP hc hn)
theorem ev_ifge (D : Lst Y L) (i : Nat) {x : Int32} {off : Int} {tgt : Nat} (hi : L[i]? = some (pc, .ifCond .ge off, 3)) (ht : (pc : Int) + off = (tgt : Int))
    (kt : 0 ≤ x → Ev E Y Pr Px k n tgt lv st ws) (kf : ¬ 0 ≤ x → Ev E Y Pr Px k n (pc + 3) lv st ws) : Ev E Y Pr Px k n pc lv (.int x :: st) ws := by
  intro p e R s m args below meth c H locs cells slots ls hC hl hS hP hc hn
  have hd := D _ (List.mem_of_getElem? hi)
  exact lv_if_ge hC.1 hC.2.1 hd ht (fun h => kt h p e R s m args below meth c H locs cells slots ls hC hl hS hP hc hn) (fun h => kf h p e R s m args below meth c H locs cells slots ls hC hl hS hP hc hn)
theorem ev_icge (D : Lst Y L) (i : Nat) {x y : Int32} {off : Int} {tgt : Nat} (hi : L[i]? = some (pc, .if_icmp .ge off, 3)) (ht : (pc : Int) + off = (tgt : Int))
    (kt : y ≤ x → Ev E Y Pr Px k n tgt lv st ws) (kf : ¬ y ≤ x → Ev E Y Pr Px k n (pc + 3) lv st ws) : Ev E Y Pr Px k n pc lv (.int y :: .int x :: st) ws := by
  intro p e R s m args below meth c H locs cells slots ls hC hl hS hP hc hn
  have hd := D _ (List.mem_of_getElem? hi)
  exact lv_icmp_ge hC.1 hC.2.1 hd ht (fun h => kt h p e R s m args below meth c H locs cells slots ls hC hl hS hP hc hn) (fun h => kf h p e R s m args below meth c H locs cells slots ls hC hl hS hP hc hn)
theorem ev_ifgt (D : Lst Y L) (i : Nat) {x : Int32} {off : Int} {tgt : Nat} (hi : L[i]? = some (pc, .ifCond .gt off, 3)) (ht : (pc : Int) + off = (tgt : Int))
    (kt : 0 < x → Ev E Y Pr Px k n tgt lv st ws) (kf : ¬ 0 < x → Ev E Y Pr Px k n (pc + 3) lv st ws) : Ev E Y Pr Px k n pc lv (.int x :: st) ws := by
  intro p e R s m args below meth c H locs cells slots ls hC hl hS hP hc hn
  have hd := D _ (List.mem_of_getElem? hi)
  exact lv_if_gt hC.1 hC.2.1 hd ht (fun h => kt h p e R s m args below meth c H locs cells slots ls hC hl hS hP hc hn) (fun h => kf h p e R s m args below meth c H locs cells slots ls hC hl hS hP hc hn)
theorem ev_icgt (D : Lst Y L) (i : Nat) {x y : Int32} {off : Int} {tgt : Nat} (hi : L[i]? = some (pc, .if_icmp .gt off, 3)) (ht : (pc : Int) + off = (tgt : Int))
    (kt : y < x → Ev E Y Pr Px k n tgt lv st ws) (kf : ¬ y < x → Ev E Y Pr Px k n (pc + 3) lv st ws) : Ev E Y Pr Px k n pc lv (.int y :: .int x :: st) ws := by
  intro p e R s m args below meth c H locs cells slots ls hC hl hS hP hc hn
  have hd := D _ (List.mem_of_getElem? hi)
  exact lv_icmp_gt hC.1 hC.2.1 hd ht (fun h => kt h p e R s m args below meth c H locs cells slots ls hC hl hS hP hc hn) (fun h => kf h p e R s m args below meth c H locs cells slots ls hC hl hS hP hc hn)
theorem ev_ifle (D : Lst Y L) (i : Nat) {x : Int32} {off : Int} {tgt : Nat} (hi : L[i]? = some (pc, .ifCond .le off, 3)) (ht : (pc : Int) + off = (tgt : Int))
    (kt : x ≤ 0 → Ev E Y Pr Px k n tgt lv st ws) (kf : ¬ x ≤ 0 → Ev E Y Pr Px k n (pc + 3) lv st ws) : Ev E Y Pr Px k n pc lv (.int x :: st) ws := by
  intro p e R s m args below meth c H locs cells slots ls hC hl hS hP hc hn
  have hd := D _ (List.mem_of_getElem? hi)
  exact lv_if_le hC.1 hC.2.1 hd ht (fun h => kt h p e R s m args below meth c H locs cells slots ls hC hl hS hP hc hn) (fun h => kf h p e R s m args below meth c H locs cells slots ls hC hl hS hP hc hn)
theorem ev_icle (D : Lst Y L) (i : Nat) {x y : Int32} {off : Int} {tgt : Nat} (hi : L[i]? = some (pc, .if_icmp .le off, 3)) (ht : (pc : Int) + off = (tgt : Int))
    (kt : x ≤ y → Ev E Y Pr Px k n tgt lv st ws) (kf : ¬ x ≤ y → Ev E Y Pr Px k n (pc + 3) lv st ws) : Ev E Y Pr Px k n pc lv (.int y :: .int x :: st) ws := by
  intro p e R s m args below meth c H locs cells slots ls hC hl hS hP hc hn
  have hd := D _ (List.mem_of_getElem? hi)
  exact lv_icmp_le hC.1 hC.2.1 hd ht (fun h => kt h p e R s m args below meth c H locs cells slots ls hC hl hS hP hc hn) (fun h => kf h p e R s m args below meth c H locs cells slots ls hC hl hS hP hc hn)
theorem ev_goto (D : Lst Y L) (i : Nat) {off : Int} {tgt : Nat} (hi : L[i]? = some (pc, .goto off, 3)) (ht : (pc : Int) + off = (tgt : Int)) (kt : Ev E Y Pr Px k n tgt lv st ws) : Ev E Y Pr Px k n pc lv st ws := by
  intro p e R s m args below meth c H locs cells slots ls hC hl hS hP hc hn
  have hd := D _ (List.mem_of_getElem? hi)
  exact lv_goto hC.1 hC.2.1 hd ht (kt p e R s m args below meth c H locs cells slots ls hC hl hS hP hc hn)
theorem ev_swin (D : Lst Y L) (i : Nat) {x : Int32} {df lo hh : Int} {offs : Array Int} {len : Nat} {off : Int} {tgt : Nat} (hi : L[i]? = some (pc, .tableswitch df lo hh offs, len)) (h1 : ¬ x.toInt < lo) (h2 : ¬ hh < x.toInt) (ho : offs[(x.toInt - lo).toNat]? = some off) (ht : (pc : Int) + off = (tgt : Int)) (kt : Ev E Y Pr Px k n tgt lv st ws) : Ev E Y Pr Px k n pc lv (.int x :: st) ws := by
  intro p e R s m args below meth c H locs cells slots ls hC hl hS hP hc hn
  have hd := D _ (List.mem_of_getElem? hi)
  exact lv_tableIn hC.1 hC.2.1 hd h1 h2 ho ht (kt p e R s m args below meth c H locs cells slots ls hC hl hS hP hc hn)
theorem ev_swout (D : Lst Y L) (i : Nat) {x : Int32} {df lo hh : Int} {offs : Array Int} {len : Nat} {tgt : Nat} (hi : L[i]? = some (pc, .tableswitch df lo hh offs, len)) (h1 : x.toInt < lo ∨ hh < x.toInt) (ht : (pc : Int) + df = (tgt : Int)) (kt : Ev E Y Pr Px k n tgt lv st ws) : Ev E Y Pr Px k n pc lv (.int x :: st) ws := by
  intro p e R s m args below meth c H locs cells slots ls hC hl hS hP hc hn
  have hd := D _ (List.mem_of_getElem? hi)
  exact lv_tableOut hC.1 hC.2.1 hd h1 ht (kt p e R s m args below meth c H locs cells slots ls hC hl hS hP hc hn)
theorem ev_idiv (D : Lst Y L) (i : Nat) {x y : Int32} (hi : L[i]? = some (pc, .idiv, 1)) (hy : ¬ y = 0) (kt : Ev E Y Pr Px k n (pc + 1) lv (.int (x / y) :: st) ws) : Ev E Y Pr Px k n pc lv (.int y :: .int x :: st) ws := by
  intro p e R s m args below meth c H locs cells slots ls hC hl hS hP hc hn
  have hd := D _ (List.mem_of_getElem? hi)
  exact lv_idiv hC.1 hC.2.1 hd hy (kt p e R s m args below meth c H locs cells slots ls hC hl hS hP hc hn)
theorem ev_irem (D : Lst Y L) (i : Nat) {x y : Int32} (hi : L[i]? = some (pc, .irem, 1)) (hy : ¬ y = 0) (kt : Ev E Y Pr Px k n (pc + 1) lv (.int (x - x / y * y) :: st) ws) : Ev E Y Pr Px k n pc lv (.int y :: .int x :: st) ws := by
  intro p e R s m args below meth c H locs cells slots ls hC hl hS hP hc hn
  have hd := D _ (List.mem_of_getElem? hi)
  exact lv_irem hC.1 hC.2.1 hd hy (kt p e R s m args below meth c H locs cells slots ls hC hl hS hP hc hn)
theorem ev_lrem (D : Lst Y L) (i : Nat) {x y : Int64} (hi : L[i]? = some (pc, .lrem, 1)) (hy : ¬ y = 0) (kt : Ev E Y Pr Px k n (pc + 1) lv (.long (x - x / y * y) :: st) ws) : Ev E Y Pr Px k n pc lv (.long y :: .long x :: st) ws := by
  intro p e R s m args below meth c H locs cells slots ls hC hl hS hP hc hn
  have hd := D _ (List.mem_of_getElem? hi)
  exact lv_lrem hC.1 hC.2.1 hd hy (kt p e R s m args below meth c H locs cells slots ls hC hl hS hP hc hn)
theorem ev_dmul (D : Lst Y L) (i : Nat) {x y : UInt64} (hi : L[i]? = some (pc, .dmul, 1)) (hy : vf_n64 (FP.dmul x y)) (kt : Ev E Y Pr Px k n (pc + 1) lv (.double (FP.dmul x y) :: st) ws) : Ev E Y Pr Px k n pc lv (.double y :: .double x :: st) ws := by
  intro p e R s m args below meth c H locs cells slots ls hC hl hS hP hc hn
  have hd := D _ (List.mem_of_getElem? hi)
  exact lv_dmul hC.1 hC.2.1 hd hy (kt p e R s m args below meth c H locs cells slots ls hC hl hS hP hc hn)
theorem ev_ddiv (D : Lst Y L) (i : Nat) {x y : UInt64} (hi : L[i]? = some (pc, .ddiv, 1)) (hy : vf_n64 (FP.ddiv x y)) (kt : Ev E Y Pr Px k n (pc + 1) lv (.double (FP.ddiv x y) :: st) ws) : Ev E Y Pr Px k n pc lv (.double y :: .double x :: st) ws := by
  intro p e R s m args below meth c H locs cells slots ls hC hl hS hP hc hn
  have hd := D _ (List.mem_of_getElem? hi)
  exact lv_ddiv hC.1 hC.2.1 hd hy (kt p e R s m args below meth c H locs cells slots ls hC hl hS hP hc hn)
theorem ev_dsub (D : Lst Y L) (i : Nat) {x y : UInt64} (hi : L[i]? = some (pc, .dsub, 1)) (hy : vf_n64 (FP.dsub x y)) (kt : Ev E Y Pr Px k n (pc + 1) lv (.double (FP.dsub x y) :: st) ws) : Ev E Y Pr Px k n pc lv (.double y :: .double x :: st) ws := by
  intro p e R s m args below meth c H locs cells slots ls hC hl hS hP hc hn
  have hd := D _ (List.mem_of_getElem? hi)
  exact lv_dsub hC.1 hC.2.1 hd hy (kt p e R s m args below meth c H locs cells slots ls hC hl hS hP hc hn)
theorem ev_dconst0 (D : Lst Y L) (i : Nat) (hi : L[i]? = some (pc, .dconst 0, 1)) (kt : Ev E Y Pr Px k n (pc + 1) lv (.double FP.dconst0 :: st) ws) : Ev E Y Pr Px k n pc lv st ws := by
  intro p e R s m args below meth c H locs cells slots ls hC hl hS hP hc hn
  have hd := D _ (List.mem_of_getElem? hi)
  exact lv_dconst0 hC.1 hC.2.1 hd (kt p e R s m args below meth c H locs cells slots ls hC hl hS hP hc hn)
theorem ev_dconst1 (D : Lst Y L) (i : Nat) (hi : L[i]? = some (pc, .dconst 1, 1)) (kt : Ev E Y Pr Px k n (pc + 1) lv (.double FP.dconst1 :: st) ws) : Ev E Y Pr Px k n pc lv st ws := by
  intro p e R s m args below meth c H locs cells slots ls hC hl hS hP hc hn
  have hd := D _ (List.mem_of_getElem? hi)
  exact lv_dconst1 hC.1 hC.2.1 hd (kt p e R s m args below meth c H locs cells slots ls hC hl hS hP hc hn)
theorem ev_ldc (D : Lst Y L) (i : Nat) {idx : Nat} {v : Int32} (hi : L[i]? = some (pc, .ldc idx, 2)) (hw : gw (.constant (mnm Y).cls idx v)) (kt : Ev E Y Pr Px k n (pc + 2) lv (.int v :: st) ws) : Ev E Y Pr Px k n pc lv st ws := by
  intro p e R s m args below meth c H locs cells slots ls hC hl hS hP hc hn
  have hd := D _ (List.mem_of_getElem? hi)
  exact lv_ldc hC.1 hC.2.1 hC.2.2.2.2.2.2.1 (hC.2.2.2.2.2.1 _ hw) hd (kt p e R s m args below meth c H locs cells slots ls hC hl hS hP hc hn)
theorem ev_ldc2 (D : Lst Y L) (i : Nat) {idx : Nat} {v : Int64} (hi : L[i]? = some (pc, .ldc2_w idx, 3)) (hw : gw (.constantLong (mnm Y).cls idx v)) (kt : Ev E Y Pr Px k n (pc + 3) lv (.long v :: st) ws) : Ev E Y Pr Px k n pc lv st ws := by
  intro p e R s m args below meth c H locs cells slots ls hC hl hS hP hc hn
  have hd := D _ (List.mem_of_getElem? hi)
  exact lv_ldc2 hC.1 hC.2.1 hC.2.2.2.2.2.2.1 (hC.2.2.2.2.2.1 _ hw) hd (kt p e R s m args below meth c H locs cells slots ls hC hl hS hP hc hn)
theorem ev_ldc2d (D : Lst Y L) (i : Nat) {idx : Nat} {v : UInt64} (hi : L[i]? = some (pc, .ldc2_w idx, 3)) (hw : gw (.constantDouble (mnm Y).cls idx v)) (kt : Ev E Y Pr Px k n (pc + 3) lv (.double v :: st) ws) : Ev E Y Pr Px k n pc lv st ws := by
  intro p e R s m args below meth c H locs cells slots ls hC hl hS hP hc hn
  have hd := D _ (List.mem_of_getElem? hi)
  exact lv_ldc2d hC.1 hC.2.1 hC.2.2.2.2.2.2.1 (hC.2.2.2.2.2.1 _ hw) hd (kt p e R s m args below meth c H locs cells slots ls hC hl hS hP hc hn)
/-- a class of the world, by its number -/
def gcl (ci : Nat) (C : String) (T : u_T) (N : Nat) (ty : Nat → FieldType) : Prop := gCl[ci]? = some (C, T, N) ∧ (∀ w ∈ u_ws C T N, gw w) ∧ (∀ k, k < N → parseFieldDescriptor (T k).2.2.1 = some (ty k)) ∧ (∀ a, a < N → ∀ b, b < N → a ≠ b → (T a).2.1 ≠ (T b).2.1)
theorem GX0 : gcl 0 RX0 TX0 2 tyX0 := ⟨rfl, inX0, tyX0_ok, nmX0⟩
theorem GX1 : gcl 1 RX1 TX1 5 tyX1 := ⟨rfl, inX1, tyX1_ok, nmX1⟩
theorem GX2 : gcl 2 RX2 TX2 2 tyX2 := ⟨rfl, inX2, tyX2_ok, nmX2⟩
theorem GX3 : gcl 3 RX3 TX3 18 tyX3 := ⟨rfl, inX3, tyX3_ok, nmX3⟩
theorem GX4 : gcl 4 RX4 TX4 3 tyX4 := ⟨rfl, inX4, tyX4_ok, nmX4⟩
theorem GX5 : gcl 5 RX5 TX5 5 tyX5 := ⟨rfl, inX5, tyX5_ok, nmX5⟩
theorem GX6 : gcl 6 RX6 TX6 6 tyX6 := ⟨rfl, inX6, tyX6_ok, nmX6⟩
theorem GX7 : gcl 7 RX7 TX7 14 tyX7 := ⟨rfl, inX7, tyX7_ok, nmX7⟩
theorem ev_get (D : Lst Y L) (i : Nat) {ci idx a q k0 N : Nat} {C : String} {T : u_T} {ty : Nat → FieldType} {fs : List Value} {v : Value} (G : gcl ci C T N ty) (hi : L[i]? = some (pc, .getfield idx, 3)) (hk : k0 < N) (hf : gw (.fieldLink (mnm Y).cls idx (T k0).1 (T k0).2.1 (T k0).2.2.1)) (he : ws[q]? = some (a, .inr (ci, fs))) (hv : fs[k0]? = some v)
    (kt : Ev E Y Pr Px k n (pc + 3) lv (v :: st) ws) : Ev E Y Pr Px k n pc lv (.ref a :: st) ws := by
  intro p e R s m args below meth c H locs cells slots ls hC hl hS hP hc hn
  have hd := D _ (List.mem_of_getElem? hi)
  exact va_get (D := gD E) hC.1 hC.2.1 (fun w hw => hC.2.2.2.2.2.1 w (G.2.1 w hw)) (fun w h => h) hC.2.2.2.2.2.2.1 hC.2.2.2.2.2.2.2.2.2.1.2.1 hP.1 q he G.1 k0 hk (hC.2.2.2.2.2.1 _ hf) (fun x h => h) hv hd (kt p e R s m args below meth c H locs cells slots ls hC hl hS hP hc hn)
theorem ev_put (D : Lst Y L) (i : Nat) {ci idx a q k0 N : Nat} {C : String} {T : u_T} {ty : Nat → FieldType} {fs fs' : List Value} {v : Value} {ws' : va_W} (G : gcl ci C T N ty) (hi : L[i]? = some (pc, .putfield idx, 3)) (hk : k0 < N) (hf : gw (.fieldLink (mnm Y).cls idx (T k0).1 (T k0).2.1 (T k0).2.2.1)) (hfin : (T k0).2.2.2 = false) (hv : narrow (ty k0) v = v ∧ fits (ty k0) v = true) (he : ws[q]? = some (a, .inr (ci, fs))) (hlen : k0 < fs.length) (hfs : fs.set k0 v = fs') (hws : ws.set q (a, .inr (ci, fs')) = ws')
    (kt : Ev E Y Pr Px k n (pc + 3) lv st ws') : Ev E Y Pr Px k n pc lv (v :: .ref a :: st) ws := by
  intro p e R s m args below meth c H locs cells slots ls hC hl hS hP hc hn
  have hd := D _ (List.mem_of_getElem? hi)
  subst hfs; subst hws
  exact va_put (D := gD E) (A := gA E) hC.1 hC.2.1 (fun w hw => hC.2.2.2.2.2.1 w (G.2.1 w hw)) (fun w h => h) ty G.2.2.1 G.2.2.2 hC.2.2.2.2.2.2.1 hC.2.2.2.2.2.2.2.2.2.1.2.1 hP.1 hP.2 hS q he G.1 k0 hk (hC.2.2.2.2.2.1 _ hf) (fun x h => h) hfin (G.2.2.1 k0 hk) hv.1 hv.2 hlen hd (fun H1 locs1 hP1 hD1 hS1 => kt p e R s m args below meth c H1 locs1 cells slots ls hC hl hS1 ⟨hP1, hD1⟩ hc hn)
theorem ev_putF (D : Lst Y L) (i : Nat) {ci idx a q k0 N : Nat} {C : String} {T : u_T} {ty : Nat → FieldType} {fs fs' : List Value} {v : Value} {ws' : va_W} (G : gcl ci C T N ty) (hi : L[i]? = some (pc, .putfield idx, 3)) (hk : k0 < N) (hf : gw (.fieldLink (mnm Y).cls idx (T k0).1 (T k0).2.1 (T k0).2.2.1)) (hfin : (T k0).2.2.2 = true) (hin : (mnm Y).name = "<init>") (hdc : (T k0).1 = (mnm Y).cls) (hv : narrow (ty k0) v = v ∧ fits (ty k0) v = true) (he : ws[q]? = some (a, .inr (ci, fs))) (hlen : k0 < fs.length) (hfs : fs.set k0 v = fs') (hws : ws.set q (a, .inr (ci, fs')) = ws')
    (kt : Ev E Y Pr Px k n (pc + 3) lv st ws') : Ev E Y Pr Px k n pc lv (v :: .ref a :: st) ws := by
  intro p e R s m args below meth c H locs cells slots ls hC hl hS hP hc hn
  have hd := D _ (List.mem_of_getElem? hi)
  subst hfs; subst hws
  exact va_putF (D := gD E) (A := gA E) hC.1 hC.2.1 (fun w hw => hC.2.2.2.2.2.1 w (G.2.1 w hw)) (fun w h => h) ty G.2.2.1 G.2.2.2 hC.2.2.2.2.2.2.1 hC.2.2.2.2.2.2.2.2.2.1.2.1 hP.1 hP.2 hS q he G.1 k0 hk (hC.2.2.2.2.2.1 _ hf) (fun x h => h) hfin (hC.2.2.2.2.2.2.2.1.trans hin) hdc (G.2.2.1 k0 hk) hv.1 hv.2 hlen hd (fun H1 locs1 hP1 hD1 hS1 => kt p e R s m args below meth c H1 locs1 cells slots ls hC hl hS1 ⟨hP1, hD1⟩ hc hn)
theorem ev_iald (D : Lst Y L) (i : Nat) {a q N : Nat} {f : Nat → Int32} {i0 : Int32} (hi : L[i]? = some (pc, .iaload, 1)) (he : ws[q]? = some (a, .inl (gK E 0, N, .inl f))) (hin : vp_in i0 N) (kt : Ev E Y Pr Px k n (pc + 1) lv (.int (f i0.toNatClampNeg) :: st) ws) : Ev E Y Pr Px k n pc lv (.int i0 :: .ref a :: st) ws := by
  intro p e R s m args below meth c H locs cells slots ls hC hl hS hP hc hn
  have hd := D _ (List.mem_of_getElem? hi)
  exact va_iald (D := gD E) hC.1 hC.2.1 hC.2.2.2.2.2.2.2.2.2.1.2.1 hP.1 q 0 he rfl hin hd (kt p e R s m args below meth c H locs cells slots ls hC hl hS hP hc hn)
theorem ev_iast (D : Lst Y L) (i : Nat) {a q N : Nat} {f : Nat → Int32} {i0 : Int32} {x : Int32} {ws' : va_W} (hi : L[i]? = some (pc, .iastore, 1)) (he : ws[q]? = some (a, .inl (gK E 0, N, .inl f))) (hin : vp_in i0 N) (hws : ws.set q (a, .inl (gK E 0, N, .inl (upd f i0.toNatClampNeg x))) = ws') (kt : Ev E Y Pr Px k n (pc + 1) lv st ws') : Ev E Y Pr Px k n pc lv (.int x :: .int i0 :: .ref a :: st) ws := by
  intro p e R s m args below meth c H locs cells slots ls hC hl hS hP hc hn
  have hd := D _ (List.mem_of_getElem? hi)
  subst hws
  exact va_iast (D := gD E) (A := gA E) hC.1 hC.2.1 hC.2.2.2.2.2.2.2.2.2.1.2.1 hP.1 hP.2 hS q 0 he rfl hin hd (fun H1 locs1 hP1 hD1 hS1 => kt p e R s m args below meth c H1 locs1 cells slots ls hC hl hS1 ⟨hP1, hD1⟩ hc hn)
theorem ev_cald (D : Lst Y L) (i : Nat) {a q N : Nat} {f : Nat → Int32} {i0 : Int32} (hi : L[i]? = some (pc, .caload, 1)) (he : ws[q]? = some (a, .inl (gK E 2, N, .inl f))) (hin : vp_in i0 N) (kt : Ev E Y Pr Px k n (pc + 1) lv (.int (f i0.toNatClampNeg) :: st) ws) : Ev E Y Pr Px k n pc lv (.int i0 :: .ref a :: st) ws := by
  intro p e R s m args below meth c H locs cells slots ls hC hl hS hP hc hn
  have hd := D _ (List.mem_of_getElem? hi)
  exact va_cald (D := gD E) hC.1 hC.2.1 hC.2.2.2.2.2.2.2.2.2.1.2.1 hP.1 q 2 he rfl hin hd (kt p e R s m args below meth c H locs cells slots ls hC hl hS hP hc hn)
theorem ev_cast (D : Lst Y L) (i : Nat) {a q N : Nat} {f : Nat → Int32} {i0 : Int32} {x : Int32} {ws' : va_W} (hi : L[i]? = some (pc, .castore, 1)) (he : ws[q]? = some (a, .inl (gK E 2, N, .inl f))) (hin : vp_in i0 N) (hws : ws.set q (a, .inl (gK E 2, N, .inl (upd f i0.toNatClampNeg (vp_nar .char x)))) = ws') (kt : Ev E Y Pr Px k n (pc + 1) lv st ws') : Ev E Y Pr Px k n pc lv (.int x :: .int i0 :: .ref a :: st) ws := by
  intro p e R s m args below meth c H locs cells slots ls hC hl hS hP hc hn
  have hd := D _ (List.mem_of_getElem? hi)
  subst hws
  exact va_cast (D := gD E) (A := gA E) hC.1 hC.2.1 hC.2.2.2.2.2.2.2.2.2.1.2.1 hP.1 hP.2 hS q 2 he rfl hin hd (fun H1 locs1 hP1 hD1 hS1 => kt p e R s m args below meth c H1 locs1 cells slots ls hC hl hS1 ⟨hP1, hD1⟩ hc hn)
theorem ev_lald (D : Lst Y L) (i : Nat) {a q N : Nat} {f : Nat → Int64} {i0 : Int32} (hi : L[i]? = some (pc, .laload, 1)) (he : ws[q]? = some (a, .inl (gK E 1, N, .inr (.inl f)))) (hin : vp_in i0 N) (kt : Ev E Y Pr Px k n (pc + 1) lv (.long (f i0.toNatClampNeg) :: st) ws) : Ev E Y Pr Px k n pc lv (.int i0 :: .ref a :: st) ws := by
  intro p e R s m args below meth c H locs cells slots ls hC hl hS hP hc hn
  have hd := D _ (List.mem_of_getElem? hi)
  exact va_lald (D := gD E) hC.1 hC.2.1 hC.2.2.2.2.2.2.2.2.2.1.2.1 hP.1 q 1 he rfl hin hd (kt p e R s m args below meth c H locs cells slots ls hC hl hS hP hc hn)
theorem ev_last (D : Lst Y L) (i : Nat) {a q N : Nat} {f : Nat → Int64} {i0 : Int32} {x : Int64} {ws' : va_W} (hi : L[i]? = some (pc, .lastore, 1)) (he : ws[q]? = some (a, .inl (gK E 1, N, .inr (.inl f)))) (hin : vp_in i0 N) (hws : ws.set q (a, .inl (gK E 1, N, .inr (.inl (vp_updL f i0.toNatClampNeg x)))) = ws') (kt : Ev E Y Pr Px k n (pc + 1) lv st ws') : Ev E Y Pr Px k n pc lv (.long x :: .int i0 :: .ref a :: st) ws := by
  intro p e R s m args below meth c H locs cells slots ls hC hl hS hP hc hn
  have hd := D _ (List.mem_of_getElem? hi)
  subst hws
  exact va_last (D := gD E) (A := gA E) hC.1 hC.2.1 hC.2.2.2.2.2.2.2.2.2.1.2.1 hP.1 hP.2 hS q 1 he rfl hin hd (fun H1 locs1 hP1 hD1 hS1 => kt p e R s m args below meth c H1 locs1 cells slots ls hC hl hS1 ⟨hP1, hD1⟩ hc hn)
theorem ev_dald (D : Lst Y L) (i : Nat) {a q N : Nat} {f : Nat → UInt64} {i0 : Int32} (hi : L[i]? = some (pc, .daload, 1)) (he : ws[q]? = some (a, .inl (gK E 3, N, .inr (.inr (.inr (.inl f)))))) (hin : vp_in i0 N) (kt : Ev E Y Pr Px k n (pc + 1) lv (.double (f i0.toNatClampNeg) :: st) ws) : Ev E Y Pr Px k n pc lv (.int i0 :: .ref a :: st) ws := by
  intro p e R s m args below meth c H locs cells slots ls hC hl hS hP hc hn
  have hd := D _ (List.mem_of_getElem? hi)
  exact va_dald (D := gD E) hC.1 hC.2.1 hC.2.2.2.2.2.2.2.2.2.1.2.1 hP.1 q 3 he rfl hin hd (kt p e R s m args below meth c H locs cells slots ls hC hl hS hP hc hn)
theorem ev_dast (D : Lst Y L) (i : Nat) {a q N : Nat} {f : Nat → UInt64} {i0 : Int32} {x : UInt64} {ws' : va_W} (hi : L[i]? = some (pc, .dastore, 1)) (he : ws[q]? = some (a, .inl (gK E 3, N, .inr (.inr (.inr (.inl f)))))) (hin : vp_in i0 N) (hws : ws.set q (a, .inl (gK E 3, N, .inr (.inr (.inr (.inl (vf_upd f i0.toNatClampNeg x)))))) = ws') (kt : Ev E Y Pr Px k n (pc + 1) lv st ws') : Ev E Y Pr Px k n pc lv (.double x :: .int i0 :: .ref a :: st) ws := by
  intro p e R s m args below meth c H locs cells slots ls hC hl hS hP hc hn
  have hd := D _ (List.mem_of_getElem? hi)
  subst hws
  exact va_dast (D := gD E) (A := gA E) hC.1 hC.2.1 hC.2.2.2.2.2.2.2.2.2.1.2.1 hP.1 hP.2 hS q 3 he rfl hin hd (fun H1 locs1 hP1 hD1 hS1 => kt p e R s m args below meth c H1 locs1 cells slots ls hC hl hS1 ⟨hP1, hD1⟩ hc hn)
theorem ev_aald4 (D : Lst Y L) (i : Nat) {a q N b : Nat} {f : Nat → Option Nat} {i0 : Int32} (hi : L[i]? = some (pc, .aaload, 1)) (he : ws[q]? = some (a, .inl (gK E 4, N, .inr (.inr (.inr (.inr f)))))) (hin : vp_in i0 N) (hb : f i0.toNatClampNeg = some b) (kt : Ev E Y Pr Px k n (pc + 1) lv (.ref b :: st) ws) : Ev E Y Pr Px k n pc lv (.int i0 :: .ref a :: st) ws := by
  intro p e R s m args below meth c H locs cells slots ls hC hl hS hP hc hn
  have hd := D _ (List.mem_of_getElem? hi)
  refine va_aldq (D := gD E) (C := RX3) hC.1 hC.2.1 hC.2.2.2.2.2.2.2.2.2.1.2.1 hP.1 q 4 he rfl hin hd ?_
  rw [hb]
  exact kt p e R s m args below meth c H locs cells slots ls hC hl hS hP hc hn
theorem ev_aast4 (D : Lst Y L) (i : Nat) {a q qk N v : Nat} {f : Nat → Option Nat} {vs : List Value} {i0 : Int32} {ws' : va_W} (hi : L[i]? = some (pc, .aastore, 1)) (he : ws[q]? = some (a, .inl (gK E 4, N, .inr (.inr (.inr (.inr f)))))) (hv : ws[qk]? = some (v, .inr (3, vs))) (hin : vp_in i0 N) (hws : ws.set q (a, .inl (gK E 4, N, .inr (.inr (.inr (.inr (va_up f i0.toNatClampNeg (some v))))))) = ws') (kt : Ev E Y Pr Px k n (pc + 1) lv st ws') : Ev E Y Pr Px k n pc lv (.ref v :: .int i0 :: .ref a :: st) ws := by
  intro p e R s m args below meth c H locs cells slots ls hC hl hS hP hc hn
  have hd := D _ (List.mem_of_getElem? hi)
  subst hws
  exact va_astq (D := gD E) (A := gA E) hC.1 hC.2.1 hC.2.2.2.2.2.2.2.2.2.1.2.1 hP.1 hP.2 hS q 4 qk 3 he rfl hv rfl hin hd (fun H1 locs1 hP1 hD1 hS1 => kt p e R s m args below meth c H1 locs1 cells slots ls hC hl hS1 ⟨hP1, hD1⟩ hc hn)
theorem ev_aald5 (D : Lst Y L) (i : Nat) {a q N b : Nat} {f : Nat → Option Nat} {i0 : Int32} (hi : L[i]? = some (pc, .aaload, 1)) (he : ws[q]? = some (a, .inl (gK E 5, N, .inr (.inr (.inr (.inr f)))))) (hin : vp_in i0 N) (hb : f i0.toNatClampNeg = some b) (kt : Ev E Y Pr Px k n (pc + 1) lv (.ref b :: st) ws) : Ev E Y Pr Px k n pc lv (.int i0 :: .ref a :: st) ws := by
  intro p e R s m args below meth c H locs cells slots ls hC hl hS hP hc hn
  have hd := D _ (List.mem_of_getElem? hi)
  refine va_aldq (D := gD E) (C := RX1) hC.1 hC.2.1 hC.2.2.2.2.2.2.2.2.2.1.2.1 hP.1 q 5 he rfl hin hd ?_
  rw [hb]
  exact kt p e R s m args below meth c H locs cells slots ls hC hl hS hP hc hn
theorem ev_aast5 (D : Lst Y L) (i : Nat) {a q qk N v : Nat} {f : Nat → Option Nat} {vs : List Value} {i0 : Int32} {ws' : va_W} (hi : L[i]? = some (pc, .aastore, 1)) (he : ws[q]? = some (a, .inl (gK E 5, N, .inr (.inr (.inr (.inr f)))))) (hv : ws[qk]? = some (v, .inr (1, vs))) (hin : vp_in i0 N) (hws : ws.set q (a, .inl (gK E 5, N, .inr (.inr (.inr (.inr (va_up f i0.toNatClampNeg (some v))))))) = ws') (kt : Ev E Y Pr Px k n (pc + 1) lv st ws') : Ev E Y Pr Px k n pc lv (.ref v :: .int i0 :: .ref a :: st) ws := by
  intro p e R s m args below meth c H locs cells slots ls hC hl hS hP hc hn
  have hd := D _ (List.mem_of_getElem? hi)
  subst hws
  exact va_astq (D := gD E) (A := gA E) hC.1 hC.2.1 hC.2.2.2.2.2.2.2.2.2.1.2.1 hP.1 hP.2 hS q 5 qk 1 he rfl hv rfl hin hd (fun H1 locs1 hP1 hD1 hS1 => kt p e R s m args below meth c H1 locs1 cells slots ls hC hl hS1 ⟨hP1, hD1⟩ hc hn)
/-- the script, read alone -/
theorem ev_sld (D : Lst Y L) (i : Nat) {i0 : Int32} (hi : L[i]? = some (pc, .iaload, 1)) (hin : vp_in i0 (gSc E).2.1) (kt : Ev E Y Pr Px k n (pc + 1) lv (.int ((gSc E).2.2 i0.toNatClampNeg) :: st) ws) : Ev E Y Pr Px k n pc lv (.int i0 :: .ref (gSc E).1 :: st) ws := by
  intro p e R s m args below meth c H locs cells slots ls hC hl hS hP hc hn
  have hd := D _ (List.mem_of_getElem? hi)
  have h4 := hC.2.2.2.2.2.2.2.2.2.1.2.2.2.1
  exact va_sld hC.1 hC.2.1 h4.1 (va_X_lt h4.1) h4.2 hS hin hd (kt p e R s m args below meth c H locs cells slots ls hC hl hS hP hc hn)
theorem ev_slen (D : Lst Y L) (i : Nat) (hi : L[i]? = some (pc, .arraylength, 1)) (kt : Ev E Y Pr Px k n (pc + 1) lv (.int (Int32.ofNat (gSc E).2.1) :: st) ws) : Ev E Y Pr Px k n pc lv (.ref (gSc E).1 :: st) ws := by
  intro p e R s m args below meth c H locs cells slots ls hC hl hS hP hc hn
  have hd := D _ (List.mem_of_getElem? hi)
  have h4 := hC.2.2.2.2.2.2.2.2.2.1.2.2.2.1
  exact va_slen hC.1 hC.2.1 h4.1 (va_X_lt h4.1) h4.2 hS hd (kt p e R s m args below meth c H locs cells slots ls hC hl hS hP hc hn)
theorem ev_gets (D : Lst Y L) (i : Nat) {j : Nat} {idx : Nat} {q : Nat × String × Nat × (Nat → Int32)} (hi : L[i]? = some (pc, .getstatic idx, 3)) (hq : gSt[j]? = some q) (hf : gw (.fieldLink (mnm Y).cls idx RX6 q.2.1 "[I")) (kt : Ev E Y Pr Px k n (pc + 3) lv (.ref (gT E q.1) :: st) ws) : Ev E Y Pr Px k n pc lv st ws := by
  intro p e R s m args below meth c H locs cells slots ls hC hl hS hP hc hn
  have hd := D _ (List.mem_of_getElem? hi)
  have h3 := hC.2.2.2.2.2.2.2.2.2.1.2.2.1 q (List.mem_of_getElem? hq)
  exact va_gets hC.1 hC.2.1 h3.1 hS hC.2.2.2.2.2.2.1 (hC.2.2.2.2.2.1 _ hf) (fun x h => h) hd (kt p e R s m args below meth c H locs cells slots ls hC hl hS hP hc hn)
theorem ev_gsld (D : Lst Y L) (i : Nat) {j : Nat} {i0 : Int32} {q : Nat × String × Nat × (Nat → Int32)} (hi : L[i]? = some (pc, .iaload, 1)) (hq : gSt[j]? = some q) (hin : vp_in i0 q.2.2.1) (kt : Ev E Y Pr Px k n (pc + 1) lv (.int (q.2.2.2 i0.toNatClampNeg) :: st) ws) : Ev E Y Pr Px k n pc lv (.int i0 :: .ref (gT E q.1) :: st) ws := by
  intro p e R s m args below meth c H locs cells slots ls hC hl hS hP hc hn
  have hd := D _ (List.mem_of_getElem? hi)
  have h3 := (hC.2.2.2.2.2.2.2.2.2.1.2.2.1 q (List.mem_of_getElem? hq)).2
  exact va_sld hC.1 hC.2.1 h3.1 (va_X_lt h3.1) h3.2 hS hin hd (kt p e R s m args below meth c H locs cells slots ls hC hl hS hP hc hn)
theorem ev_iret (D : Lst Y L) (i : Nat) {v : Int32} (hi : L[i]? = some (pc, .ireturn, 1)) (ht : mrt Y = some .int) (hr : Pr (some (.int v)) ws) : Ev E Y Pr Px k n pc lv [.int v] ws := by
  intro p e R s m args below meth c H locs cells slots ls hC hl hS hP hc hn
  have hd := D _ (List.mem_of_getElem? hi)
  have hQ : ∀ t : State, t.heap = H → s.WarmedH t.vm → gQ E Pr args s (.returned (some (.int v))) t := fun t ht _ => ⟨⟨_, ws, rfl, hr, by rw [ht]; exact hP⟩, hS.F ht⟩
  refine vx_ret (W.widen (k := R.cells) (n := R.slots) (by omega) (by omega) ?_)
  exact W.iret hC.1 hC.2.1 (hC.2.2.1.trans ht) hQ hS.2.2 hd hC.2.2.2.1
theorem ev_zret (D : Lst Y L) (i : Nat) {v : Int32} {ty : FieldType} (hi : L[i]? = some (pc, .ireturn, 1)) (ht : mrt Y = some ty) (hnw : narrow ty (.int v) = .int v) (hr : Pr (some (.int v)) ws) : Ev E Y Pr Px k n pc lv [.int v] ws := by
  intro p e R s m args below meth c H locs cells slots ls hC hl hS hP hc hn
  have hd := D _ (List.mem_of_getElem? hi)
  have hQ : ∀ t : State, t.heap = H → s.WarmedH t.vm → gQ E Pr args s (.returned (some (.int v))) t := fun t ht _ => ⟨⟨_, ws, rfl, hr, by rw [ht]; exact hP⟩, hS.F ht⟩
  refine vx_ret (W.widen (k := R.cells) (n := R.slots) (by omega) (by omega) ?_)
  exact W.zret hC.1 hC.2.1 (hC.2.2.1.trans ht) hnw hQ hS.2.2 hd hC.2.2.2.1
theorem ev_lret (D : Lst Y L) (i : Nat) {v : Int64} (hi : L[i]? = some (pc, .lreturn, 1)) (ht : mrt Y = some .long) (hr : Pr (some (.long v)) ws) : Ev E Y Pr Px k n pc lv [.long v] ws := by
  intro p e R s m args below meth c H locs cells slots ls hC hl hS hP hc hn
  have hd := D _ (List.mem_of_getElem? hi)
  have hQ : ∀ t : State, t.heap = H → s.WarmedH t.vm → gQ E Pr args s (.returned (some (.long v))) t := fun t ht _ => ⟨⟨_, ws, rfl, hr, by rw [ht]; exact hP⟩, hS.F ht⟩
  refine vx_ret (W.widen (k := R.cells) (n := R.slots) (by omega) (by omega) ?_)
  exact W.lret hC.1 hC.2.1 (hC.2.2.1.trans ht) hQ hS.2.2 hd hC.2.2.2.1
theorem ev_dret (D : Lst Y L) (i : Nat) {v : UInt64} (hi : L[i]? = some (pc, .dreturn, 1)) (ht : mrt Y = some .double) (hr : Pr (some (.double v)) ws) : Ev E Y Pr Px k n pc lv [.double v] ws := by
  intro p e R s m args below meth c H locs cells slots ls hC hl hS hP hc hn
  have hd := D _ (List.mem_of_getElem? hi)
  have hQ : ∀ t : State, t.heap = H → s.WarmedH t.vm → gQ E Pr args s (.returned (some (.double v))) t := fun t ht _ => ⟨⟨_, ws, rfl, hr, by rw [ht]; exact hP⟩, hS.F ht⟩
  refine vx_ret (W.widen (k := R.cells) (n := R.slots) (by omega) (by omega) ?_)
  exact W.dret hC.1 hC.2.1 (hC.2.2.1.trans ht) hQ hS.2.2 hd hC.2.2.2.1
theorem ev_aret (D : Lst Y L) (i : Nat) {a : Nat} {C : String} (hi : L[i]? = some (pc, .areturn, 1)) (ht : mrt Y = some (.object C)) (hr : Pr (some (.ref a)) ws) : Ev E Y Pr Px k n pc lv [.ref a] ws := by
  intro p e R s m args below meth c H locs cells slots ls hC hl hS hP hc hn
  have hd := D _ (List.mem_of_getElem? hi)
  have hQ : ∀ t : State, t.heap = H → s.WarmedH t.vm → gQ E Pr args s (.returned (some (.ref a))) t := fun t ht _ => ⟨⟨_, ws, rfl, hr, by rw [ht]; exact hP⟩, hS.F ht⟩
  refine vx_ret (W.widen (k := R.cells) (n := R.slots) (by omega) (by omega) ?_)
  exact W.aret hC.1 hC.2.1 (hC.2.2.1.trans ht) (Or.inl ⟨_, rfl⟩) (Or.inr ⟨_, rfl⟩) hQ hS.2.2 hd hC.2.2.2.1
theorem ev_vret (D : Lst Y L) (i : Nat) (hi : L[i]? = some (pc, .return_, 1)) (ht : mrt Y = none) (hr : Pr none ws) : Ev E Y Pr Px k n pc lv [] ws := by
  intro p e R s m args below meth c H locs cells slots ls hC hl hS hP hc hn
  have hd := D _ (List.mem_of_getElem? hi)
  have hQ : ∀ t : State, t.heap = H → s.WarmedH t.vm → gQ E Pr args s (.returned none) t := fun t ht _ => ⟨⟨_, ws, rfl, hr, by rw [ht]; exact hP⟩, hS.F ht⟩
  refine vx_ret (W.widen (k := R.cells) (n := R.slots) (by omega) (by omega) ?_)
  exact W.vret hC.1 hC.2.1 (hC.2.2.1.trans ht) hQ hS.2.2 hd hC.2.2.2.1
theorem ev_room {k2 n2 : Nat} (h1 : k2 ≤ k) (h2 : n2 ≤ n) (kt : Ev E Y Pr Px k2 n2 pc lv st ws) : Ev E Y Pr Px k n pc lv st ws := by
  intro p e R s m args below meth c H locs cells slots ls hC hl hS hP hc hn
  exact kt p e R s m args below meth c H locs cells slots ls hC hl hS hP (by omega) (by omega)
theorem ev_lv {lv2 : List (Nat × Value)} (hs : ∀ q ∈ lv2, q ∈ lv) (kt : Ev E Y Pr Px k n pc lv2 st ws) : Ev E Y Pr Px k n pc lv st ws := by
  intro p e R s m args below meth c H locs cells slots ls hC hl hS hP hc hn
  exact kt p e R s m args below meth c H locs cells slots ls hC ⟨hl.1, hl.2.1, fun q hq => hl.2.2 q (hs q hq)⟩ hS hP hc hn
end EVR
end
section
theorem WG_base {E : gE} {U : State} {H : Heap} (h : WG E U H) : gB E ≤ H.size := h.2.2.2.2.2.2.2.2.2.2.2.2.2
theorem WG_K {E : gE} {U : State} {H : Heap} (h : WG E U H) : va_K (gD E) gCl (gTy E) U := h.2.1
theorem gPc_blind {E : gE} {av : List Value} {ws : va_W} : FrameBlind (gPc E av ws) := by
  intro a U g mk h
  obtain ⟨h1, h2, h3⟩ := h
  exact ⟨h1, WG_moved (s := U) (U := U.calling g mk a) (locs := []) (State.WarmedH.refl U) va_S.rf h2, h3⟩
section EVN
variable {E : gE} {Y : MI} {Pr : Option Value → va_W → Prop} {Px : String → va_W → Prop} {k n : Nat} {ws : va_W} {L : LI} {pc : Nat} {lv : List (Nat × Value)} {st : List Value}
theorem ev_new (D : Lst Y L) (i : Nat) {ci idx N : Nat} {C : String} {T : u_T} {ty : Nat → FieldType} {fs : List Value} (G : gcl ci C T N ty) (hi : L[i]? = some (pc, .new idx, 3)) (hcl : gw (.classLink (mnm Y).cls idx C)) (hins : gw (.instantiable C N)) (hini : gw (.initialized C)) (hfs : ∀ j, j < N → defaultValue (ty j) = vp_V fs j)
    (kt : ∀ a : Nat, Ev E Y Pr Px k n (pc + 3) lv (.ref a :: st) (ws ++ [(a, .inr (ci, fs))])) : Ev E Y Pr Px (k + 1) (n + N) pc lv st ws := by
  intro p e R s m args below meth c H locs cells slots ls hC hl hS hP hc hn
  have hd := D _ (List.mem_of_getElem? hi)
  have hWG := hC.2.2.2.2.2.2.2.2.2.1
  exact va_new (D := gD E) (A := gA E) hC.1 hC.2.1 (fun w hw => hC.2.2.2.2.2.1 w (G.2.1 w hw)) (fun w h => h) ty G.2.2.1 hC.2.2.2.2.2.2.1 (hC.2.2.2.2.2.1 _ hcl) (hC.2.2.2.2.2.1 _ hins) (hC.2.2.2.2.2.1 _ hini) (WG_K hWG) hP.1 hP.2 hS (fun q hq => Nat.le_trans (WG_base hWG) hq) G.1 hfs (by omega) (by omega) hd
    (fun q H1 hP1 hD1 hS1 => kt q p e R s m args below meth c H1 locs (cells + 1) (slots + N) ls hC hl hS1 ⟨hP1, hD1⟩ (by omega) (by omega))
theorem ev_newa (D : Lst Y L) (i : Nat) {t0 N : Nat} {aty : ArrayType} {ty : FieldType} {z : Int32} {a0 : vp_A} (hi : L[i]? = some (pc, .newarray aty, 2)) (hty : newarray.typeOf aty = ty) (harr : gw (.arrayClass ty)) (ht : (gTy E)[t0]? = some (gK E t0, ty)) (hob : ∀ (U : State) (cA : ClassId), va_RA U cA ty → U.vm.findClass ("[" ++ ty.toString) = some cA)
    (ha : ∀ cA : ClassId, vp_cell cA a0 = arrV cA N (fun _ => defaultValue ty)) (hz : ¬ z < 0) (hN : z.toNatClampNeg = N) (hbytes : N * componentBytes ty ≤ 536870912)
    (kt : ∀ a : Nat, Ev E Y Pr Px k n (pc + 2) lv (.ref a :: st) (ws ++ [(a, .inl (gK E t0, a0))])) : Ev E Y Pr Px (k + 1) (n + N) pc lv (.int z :: st) ws := by
  intro p e R s m args below meth c H locs cells slots ls hC hl hS hP hc hn
  have hd := D _ (List.mem_of_getElem? hi)
  have hWG := hC.2.2.2.2.2.2.2.2.2.1
  have hK := WG_K hWG
  subst hty
  refine va_newa (D := gD E) (A := gA E) hC.1 hC.2.1 (hC.2.2.2.2.2.1 _ harr) rfl hK hP.1 hP.2 hS (fun q hq => Nat.le_trans (WG_base hWG) hq) ha hz hN hbytes (by omega) (by omega) hd (fun q cA H1 hK1 hP1 hD1 hS1 => ?_)
  have e1 := hob s cA (hK1.2 6 (cA, _) rfl).2
  have e2 := hob s (gK E t0) (hK.2 t0 _ ht).2
  have e3 : cA = gK E t0 := Option.some.inj (e1.symm.trans e2)
  subst e3
  exact kt q p e R s m args below meth c H1 locs (cells + 1) (slots + N) ls hC hl hS1 ⟨hP1, hD1⟩ (by omega) (by omega)
theorem ev_anew (D : Lst Y L) (i : Nat) {t0 N idx : Nat} {C : String} {z : Int32} (hi : L[i]? = some (pc, .anewarray idx, 3)) (hcl : gw (.classLink (mnm Y).cls idx C)) (hC0 : C = RX3 ∨ C = RX1) (ht : (gTy E)[t0]? = some (gK E t0, .object C)) (hz : ¬ z < 0) (hN : z.toNatClampNeg = N) (hbytes : N * 4 ≤ 536870912)
    (kt : ∀ a : Nat, Ev E Y Pr Px k n (pc + 3) lv (.ref a :: st) (ws ++ [(a, .inl (gK E t0, N, .inr (.inr (.inr (.inr (fun _ => none))))))])) : Ev E Y Pr Px (k + 1) (n + N) pc lv (.int z :: st) ws := by
  intro p e R s m args below meth c H locs cells slots ls hC hl hS hP hc hn
  have hd := D _ (List.mem_of_getElem? hi)
  have hWG := hC.2.2.2.2.2.2.2.2.2.1
  have hK := WG_K hWG
  have hO : va_AO C s := by
    rcases hC0 with rfl | rfl
    · exact hWG.2.2.2.2.2.2.2.2.1
    · exact hWG.2.2.2.2.2.2.2.2.2.1
  refine va_newq (D := gD E) (A := gA E) hC.1 hC.2.1 hC.2.2.2.2.2.2.1 (hC.2.2.2.2.2.1 _ hcl) hO hK hP.1 hP.2 hS (fun q hq => Nat.le_trans (WG_base hWG) hq) hz hN hbytes (by omega) (by omega) hd (fun q cA H1 hK1 hP1 hD1 hS1 => ?_)
  obtain ⟨k1, c1, -, -, -, e1⟩ := (hK1.2 6 (cA, .object C) rfl).2
  obtain ⟨k2, c2, -, -, -, e2⟩ := (hK.2 t0 _ ht).2
  have e3 : cA = gK E t0 := Option.some.inj (e1.symm.trans e2)
  subst e3
  exact kt q p e R s m args below meth c H1 locs (cells + 1) (slots + N) ls hC hl hS1 ⟨hP1, hD1⟩ (by omega) (by omega)
theorem ev_objI (D : Lst Y L) (i : Nat) {a idx : Nat} (hi : L[i]? = some (pc, .invokespecial idx, 3)) (hq : gw (.methodLink (mnm Y).cls idx objectInit)) (hdp : 1 ≤ mdp Y) (hcat : (st.map fun v => v.category).sum ≤ 8) (kt : Ev E Y Pr Px k n (pc + 3) lv st ws) : Ev E Y Pr Px k n pc lv (.ref a :: st) ws := by
  intro p e R s m args below meth c H locs cells slots ls hC hl hS hP hc hn
  have hd := D _ (List.mem_of_getElem? hi)
  obtain ⟨hf1, hf2⟩ := hC.2.2.2.2.2.2.2.2.2.2
  exact W.objInit hC.1 hC.2.1 hC.2.2.2.2.2.2.1 (hC.2.2.2.2.2.1 _ hq) (hC.2.2.2.2.2.1 _ vOi) (hC.2.2.2.2.2.1 _ vOc) rfl (hl.1.trans hC.2.2.2.2.1.symm) rfl hd (by omega) (by show 2 * 0 + _ + 12 ≤ _; omega) (kt p e R s m args below meth c H locs cells slots ls hC hl hS hP hc hn)
theorem ev_abs (D : Lst Y L) (i : Nat) {idx : Nat} {x : Int32} (hi : L[i]? = some (pc, .invokestatic idx, 3)) (hq : gw (.methodLink (mnm Y).cls idx Lib.Math.abs.name)) (hdp : 1 ≤ mdp Y) (hcat : (st.map fun v => v.category).sum ≤ 8) (kt : Ev E Y Pr Px k n (pc + 3) lv (.int (if 0 ≤ x then x else 0 - x) :: st) ws) : Ev E Y Pr Px k n pc lv (.int x :: st) ws := by
  intro p e R s m args below meth c H locs cells slots ls hC hl hS hP hc hn
  have hd := D _ (List.mem_of_getElem? hi)
  obtain ⟨hf1, hf2⟩ := hC.2.2.2.2.2.2.2.2.2.2
  exact va_mabs hC.1 hC.2.1 (hC.2.2.2.2.1.trans hl.1.symm) hC.2.2.2.2.2.2.1 (hC.2.2.2.2.2.1 _ hq) (hC.2.2.2.2.2.1 _ vMabs.1) (hC.2.2.2.2.2.1 _ ini_Math) (hC.2.2.2.2.2.1 _ vMabs.2) (by omega) (by omega) (by omega) (by omega) hd (kt p e R s m args below meth c H locs cells slots ls hC hl hS hP hc hn)
theorem ev_max (D : Lst Y L) (i : Nat) {idx : Nat} {x y : Int32} (hi : L[i]? = some (pc, .invokestatic idx, 3)) (hq : gw (.methodLink (mnm Y).cls idx Lib.Math.max.name)) (hdp : 1 ≤ mdp Y) (hcat : (st.map fun v => v.category).sum ≤ 8) (kt : Ev E Y Pr Px k n (pc + 3) lv (.int (if x < y then y else x) :: st) ws) : Ev E Y Pr Px k n pc lv (.int y :: .int x :: st) ws := by
  intro p e R s m args below meth c H locs cells slots ls hC hl hS hP hc hn
  have hd := D _ (List.mem_of_getElem? hi)
  obtain ⟨hf1, hf2⟩ := hC.2.2.2.2.2.2.2.2.2.2
  exact va_mmax hC.1 hC.2.1 (hC.2.2.2.2.1.trans hl.1.symm) hC.2.2.2.2.2.2.1 (hC.2.2.2.2.2.1 _ hq) (hC.2.2.2.2.2.1 _ vMmax.1) (hC.2.2.2.2.2.1 _ ini_Math) (hC.2.2.2.2.2.1 _ vMmax.2) (by omega) (by omega) (by omega) (by omega) hd (kt p e R s m args below meth c H locs cells slots ls hC hl hS hP hc hn)
theorem ev_min (D : Lst Y L) (i : Nat) {idx : Nat} {x y : Int32} (hi : L[i]? = some (pc, .invokestatic idx, 3)) (hq : gw (.methodLink (mnm Y).cls idx Lib.Math.min.name)) (hdp : 1 ≤ mdp Y) (hcat : (st.map fun v => v.category).sum ≤ 8) (kt : Ev E Y Pr Px k n (pc + 3) lv (.int (if y < x then y else x) :: st) ws) : Ev E Y Pr Px k n pc lv (.int y :: .int x :: st) ws := by
  intro p e R s m args below meth c H locs cells slots ls hC hl hS hP hc hn
  have hd := D _ (List.mem_of_getElem? hi)
  obtain ⟨hf1, hf2⟩ := hC.2.2.2.2.2.2.2.2.2.2
  exact va_mmin hC.1 hC.2.1 (hC.2.2.2.2.1.trans hl.1.symm) hC.2.2.2.2.2.2.1 (hC.2.2.2.2.2.1 _ hq) (hC.2.2.2.2.2.1 _ vMmin.1) (hC.2.2.2.2.2.1 _ ini_Math) (hC.2.2.2.2.2.1 _ vMmin.2) (by omega) (by omega) (by omega) (by omega) hd (kt p e R s m args below meth c H locs cells slots ls hC hl hS hP hc hn)
theorem ev_bits (D : Lst Y L) (i : Nat) {idx : Nat} {b : UInt64} (hi : L[i]? = some (pc, .invokestatic idx, 3)) (hq : gw (.methodLink (mnm Y).cls idx ⟨"java/lang/Double", "doubleToRawLongBits", "(D)J"⟩)) (hdp : 1 ≤ mdp Y) (hcat : (st.map fun v => v.category).sum ≤ 8) (kt : Ev E Y Pr Px k n (pc + 3) lv (.long b.toInt64 :: st) ws) : Ev E Y Pr Px k n pc lv (.double b :: st) ws := by
  intro p e R s m args below meth c H locs cells slots ls hC hl hS hP hc hn
  have hd := D _ (List.mem_of_getElem? hi)
  obtain ⟨hf1, hf2⟩ := hC.2.2.2.2.2.2.2.2.2.2
  exact vn_d2l hC.1 hC.2.1 (hC.2.2.2.2.1.trans hl.1.symm) hC.2.2.2.2.2.2.1 (hC.2.2.2.2.2.1 _ hq) (hC.2.2.2.2.2.1 _ vDr.1) (hC.2.2.2.2.2.1 _ vDr.2) (hC.2.2.2.2.2.1 _ ini_Double) (by omega) (by omega) hd (kt p e R s m args below meth c H locs cells slots ls hC hl hS hP hc hn)
theorem ev_copy (D : Lst Y L) (i : Nat) {idx a a0 q0 q1 n0 n1 : Nat} {f g : Nat → Int32} {sp dp z : Int32} {ws' : va_W} (hi : L[i]? = some (pc, .invokestatic idx, 3)) (hq : gw (.methodLink (mnm Y).cls idx arraycopyName)) (hdp : 1 ≤ mdp Y) (hcat : (st.map fun v => v.category).sum ≤ 8)
    (ha0 : ws[q0]? = some (a0, .inl (gK E 0, n0, .inl f))) (ha1 : ws[q1]? = some (a, .inl (gK E 0, n1, .inl g))) (h1 : ¬ sp < 0) (h2 : ¬ dp < 0) (h3 : ¬ z < 0) (h4 : sp.toNatClampNeg + z.toNatClampNeg ≤ n0) (h5 : dp.toNatClampNeg + z.toNatClampNeg ≤ n1)
    (hws : ws.set q1 (a, .inl (gK E 0, n1, .inl (va_cpy f g sp.toNatClampNeg dp.toNatClampNeg z.toNatClampNeg))) = ws')
    (kt : Ev E Y Pr Px k n (pc + 3) lv st ws') : Ev E Y Pr Px k n pc lv (.int z :: .int dp :: .ref a :: .int sp :: .ref a0 :: st) ws := by
  intro p e R s m args below meth c H locs cells slots ls hC hl hS hP hc hn
  have hd := D _ (List.mem_of_getElem? hi)
  subst hws
  obtain ⟨hf1, hf2⟩ := hC.2.2.2.2.2.2.2.2.2.2
  have hnf : nativeFrameWords "java/lang/System" "arraycopy" 5 ≤ 18 := by decide
  exact va_copyi (D := gD E) (A := gA E) hC.1 hC.2.1 (hC.2.2.2.2.1.trans hl.1.symm) hC.2.2.2.2.2.2.1 (hC.2.2.2.2.2.1 _ hq) (hC.2.2.2.2.2.1 _ vAc.1) (hC.2.2.2.2.2.1 _ vAc.2) (hC.2.2.2.2.2.1 _ ini_System) (WG_K hC.2.2.2.2.2.2.2.2.2.1) hP.1 hP.2 hS q0 q1 0 0 ha0 ha1 rfl rfl rfl h1 h2 h3 h4 h5 (fun _ _ => rfl) (by omega) (by omega) hd
    (fun H1 locs1 hP1 hD1 hS1 => kt p e R s m args below meth c H1 locs1 cells slots ls hC hl hS1 ⟨hP1, hD1⟩ hc hn)
end EVN
section EVC
variable {p : Program} {e : Env} {R : Room} {s : State} {m : MethodId} {args : Array Value} {below : List Frame} {meth : Method} {c : Code} {H : Heap} {locs : List Loc} {cells slots : Nat} {Q : State → Prop} {E : gE} {pc k1 n1 : Nat} {ls : Array Slot} {stk rest : List Value} {a : Array Value} {Pr2 : Option Value → va_W → Prop} {Px2 : String → va_W → Prop}
theorem run_W (hr : va_Run p (gL E) e R s m args below meth c H locs cells slots k1 n1 (F0 m pc ls stk) rest (gQ E Pr2 a) (gA E)) (hS : va_S (gA E) s.heap H locs)
    (kk : ∀ (v : Option Value) (ws' : va_W) (H1 : Heap) (locs1 : List Loc), Pr2 v ws' → gP E ws' H1 → va_S (gA E) s.heap H1 locs1 → W p (gL E) e R s m args below meth c H1 locs1 (cells + k1) (slots + n1) Q (F0 m (pc + 3) ls (v.toList ++ rest))) :
    W p (gL E) e R s m args below meth c H locs cells slots Q (F0 m pc ls stk) := by
  intro T hT X
  obtain ⟨v, st₀, t, T', L, h0, X', hL, e1, e2, ⟨⟨v2, ws', hv, hp, hb⟩, hz, hk⟩, st⟩ := hr T hT X
  cases hv
  rw [h0] at hz hk
  have S' : va_S (gA E) s.heap T'.heap (locs ++ L) := ⟨Nat.le_trans hS.1 (by rw [e1]; exact hz), fun q h1 h2 => by rw [e1, hk q (Nat.lt_of_lt_of_le h1 hS.1) h2]; exact hS.2.1 q h1 h2, fun q hq => by
    rcases List.mem_append.mp hq with h | h
    · exact hS.2.2 q h
    · exact hL q h⟩
  obtain ⟨t2, a1, b1⟩ := kk v ws' T'.heap (locs ++ L) hp (by rw [e1]; exact hb) S' T' rfl X'
  exact ⟨t2, st t2 a1, b1⟩
theorem run_X (hr : vx_Run p (gL E) e R s m args below meth c H locs cells slots k1 n1 (F0 m pc ls stk) rest (gQ E Pr2 a) (gXC E Px2) (gA E)) (hS : va_S (gA E) s.heap H locs)
    (kx : ∀ (Ec : String) (ws' : va_W) (q : Nat) (ce : Cell) (H1 : Heap) (locs1 : List Loc), Px2 Ec ws' → gP E ws' H1 → va_S (gA E) s.heap H1 locs1 → H1[q]? = some ce → ce.vm = .none → s.vm.findClass Ec = some ce.cls → vx_W p (gL E) e R s m args below meth c H1 locs1 (cells + k1) (slots + n1) Q (F0 m pc ls rest) q)
    (kk : ∀ (v : Option Value) (ws' : va_W) (H1 : Heap) (locs1 : List Loc), Pr2 v ws' → gP E ws' H1 → va_S (gA E) s.heap H1 locs1 → W p (gL E) e R s m args below meth c H1 locs1 (cells + k1) (slots + n1) Q (F0 m (pc + 3) ls (v.toList ++ rest))) :
    W p (gL E) e R s m args below meth c H locs cells slots Q (F0 m pc ls stk) := by
  intro T hT X
  rcases hr T hT X with ⟨v, st₀, t, T', L, h0, X', hL, e1, e2, ⟨⟨v2, ws', hv, hp, hb⟩, hz, hk⟩, st⟩ | ⟨q, st₀, t, T', L, Ec, ce, h0, X', hL, e1, e2, ⟨⟨ws', hp, hb⟩, hz, hk⟩, hce, hcv, hcl, st⟩
  · cases hv
    rw [h0] at hz hk
    have S' : va_S (gA E) s.heap T'.heap (locs ++ L) := ⟨Nat.le_trans hS.1 (by rw [e1]; exact hz), fun q h1 h2 => by rw [e1, hk q (Nat.lt_of_lt_of_le h1 hS.1) h2]; exact hS.2.1 q h1 h2, fun q hq => by
      rcases List.mem_append.mp hq with h | h
      · exact hS.2.2 q h
      · exact hL q h⟩
    obtain ⟨t2, a1, b1⟩ := kk v ws' T'.heap (locs ++ L) hp (by rw [e1]; exact hb) S' T' rfl X'
    exact ⟨t2, st t2 a1, b1⟩
  · rw [h0] at hz hk
    have S' : va_S (gA E) s.heap T'.heap (locs ++ L) := ⟨Nat.le_trans hS.1 (by rw [e1]; exact hz), fun q h1 h2 => by rw [e1, hk q (Nat.lt_of_lt_of_le h1 hS.1) h2]; exact hS.2.1 q h1 h2, fun q hq => by
      rcases List.mem_append.mp hq with h | h
      · exact hS.2.2 q h
      · exact hL q h⟩
    obtain ⟨t2, a1, b1⟩ := kx Ec ws' q ce T'.heap (locs ++ L) hp (by rw [e1]; exact hb) S' (by rw [e1]; exact hce) hcv hcl T' rfl X'
    exact ⟨t2, st.trans a1, b1⟩
end EVC
theorem par_len {d : String} {np : Nat} (h : (parseMethodDescriptor d).map (fun d => d.parameters.length) = some np) : ∀ sig, parseMethodDescriptor d = some sig → np = sig.parameters.length := by
  intro sig hs
  rw [hs] at h
  exact (Option.some.inj h).symm
theorem wsU_warm {Y : MI} {args : Array Value} {s : State} (hc : gw (.code (mnm Y) (mcd Y) (mml Y) (mrt Y))) (hts : ∀ w, gw w → w.before args s = true) : ∀ w ∈ wsU Y, ∀ (a' : Array Value) (U : State), s.WarmedH U.vm → w.before a' U = true := by
  intro w hw a' U hW
  have hg : gw w := by
    rcases List.mem_cons.mp hw with h | h
    · rw [h]; exact hc
    · exact ⟨(List.mem_filter.mp h).1, (List.mem_filter.mp h).2⟩
  exact word_at hW (good_of_word hg.2) (hts w hg)
theorem wsW_warm {Y : MI} {args : Array Value} {s : State} (hc : gw (.codeWith (mnm Y) (mcd Y) (mml Y) (mrt Y) (mhh Y))) (hts : ∀ w, gw w → w.before args s = true) : ∀ w ∈ wsW Y, ∀ (a' : Array Value) (U : State), s.WarmedH U.vm → w.before a' U = true := by
  intro w hw a' U hW
  have hg : gw w := by
    rcases List.mem_cons.mp hw with h | h
    · rw [h]; exact hc
    · exact ⟨(List.mem_filter.mp h).1, (List.mem_filter.mp h).2⟩
  exact word_at hW (good_of_word hg.2) (hts w hg)
section EVM
variable {E : gE} {Y Y2 : MI} {Pr Pr2 : Option Value → va_W → Prop} {Px Px2 : String → va_W → Prop} {k n k1 n1 k2 n2 np : Nat} {ws : va_W} {L : LI} {pc : Nat} {lv : List (Nat × Value)} {st stk As : List Value}
/-- a call of a virtual method that returns -/
theorem ev_callV (D : Lst Y L) (i : Nat) {idx b q ci N : Nat} {T : u_T} {fs : List Value} (hv : mVv Y2 np) (hi : L[i]? = some (pc, .invokevirtual idx, 3)) (hl : gw (.methodLink (mnm Y).cls idx (mnm Y2))) (hdp : mdp Y2 + 1 ≤ mdp Y) (hml : mml Y2 ≤ 18) (he : ws[q]? = some (b, .inr (ci, fs))) (hcl : gCl[ci]? = some ((mnm Y2).cls, T, N)) (hAs : As.length = np) (hcat : (st.map fun v => v.category).sum ≤ 8) (hst : stk = As.reverse ++ .ref b :: st)
    (hk : k1 + k2 ≤ k) (hn2 : n1 + n2 ≤ n) (hM : C0 E Y2 k1 n1 (.ref b :: As) ws Pr2) (kt : ∀ (v : Option Value) (ws' : va_W), Pr2 v ws' → Ev E Y Pr Px k2 n2 (pc + 3) lv (v.toList ++ st) ws') : Ev E Y Pr Px k n pc lv stk ws := by
  intro p e R s m args below meth c H locs cells slots ls hC hlv hS hP hc hn
  have hd := D _ (List.mem_of_getElem? hi)
  obtain ⟨hx, hb, hr, hlk, hmx, hts, hown, hnm, htb, hWG, hf1, hf2⟩ := id hC
  obtain ⟨⟨v1, v2, v3, v4, v5, v6⟩, v7⟩ := hv
  refine run_W (va_runV (C := (mnm Y2).cls) (As := As) (rest := st) ⟨hx, hb, hmx, hown, fun w h => absurd h (List.not_mem_nil (a := w))⟩ hM ⟨⟨rfl, rfl, by show mdp Y2 + 1 ≤ _; omega, by show 8 + (mml Y2 + 11) + 37 * mdp Y2 ≤ _; omega, wsU_warm v3 hts, List.mem_cons_self, hts _ v3, hts _ v2, v4, par_len v5, hts _ hl⟩, hts _ v1, hts _ v7⟩ ⟨gPc_blind, va_recv (WG_K hWG) hP.1 hcl he, fun U hU hW => ⟨rfl, by rw [hU]; exact WG_moved hW hS hWG, by rw [hU]; exact hP⟩⟩ rfl hAs hlv.1 hst (by show 2 * 0 + _ ≤ 8; omega) hd ⟨by omega, by omega⟩) hS (fun v ws' H1 locs1 hp hP1 hS1 => ?_)
  exact kt v ws' hp p e R s m args below meth c H1 locs1 (cells + k1) (slots + n1) ls hC hlv hS1 hP1 (by omega) (by omega)
theorem ev_callVx (D : Lst Y L) (i : Nat) {idx b q ci N : Nat} {T : u_T} {fs : List Value} (hv : mVv Y2 np) (hi : L[i]? = some (pc, .invokevirtual idx, 3)) (hl : gw (.methodLink (mnm Y).cls idx (mnm Y2))) (hdp : mdp Y2 + 1 ≤ mdp Y) (hml : mml Y2 ≤ 18) (he : ws[q]? = some (b, .inr (ci, fs))) (hcl : gCl[ci]? = some ((mnm Y2).cls, T, N)) (hAs : As.length = np) (hcat : (st.map fun v => v.category).sum ≤ 8) (hst : stk = As.reverse ++ .ref b :: st)
    (hk : k1 + k2 ≤ k) (hn2 : n1 + n2 ≤ n) (hM : C1 E Y2 k1 n1 (.ref b :: As) ws Pr2 Px2) (kx : ∀ (Ec : String) (ws' : va_W), Px2 Ec ws' → EvX E Y Pr Px k2 n2 pc lv Ec ws') (kt : ∀ (v : Option Value) (ws' : va_W), Pr2 v ws' → Ev E Y Pr Px k2 n2 (pc + 3) lv (v.toList ++ st) ws') : Ev E Y Pr Px k n pc lv stk ws := by
  intro p e R s m args below meth c H locs cells slots ls hC hlv hS hP hc hn
  have hd := D _ (List.mem_of_getElem? hi)
  obtain ⟨hx, hb, hr, hlk, hmx, hts, hown, hnm, htb, hWG, hf1, hf2⟩ := id hC
  obtain ⟨⟨v1, v2, v3, v4, v5, v6⟩, v7⟩ := hv
  refine run_X (vx_runV (C := (mnm Y2).cls) (As := As) (rest := st) ⟨hx, hb, hmx, hown, fun w h => absurd h (List.not_mem_nil (a := w))⟩ hM ⟨⟨rfl, rfl, by show mdp Y2 + 1 ≤ _; omega, by show 8 + (mml Y2 + 11) + 37 * mdp Y2 ≤ _; omega, wsU_warm v3 hts, List.mem_cons_self, hts _ v3, hts _ v2, v4, par_len v5, hts _ hl⟩, hts _ v1, hts _ v7⟩ ⟨gPc_blind, va_recv (WG_K hWG) hP.1 hcl he, fun U hU hW => ⟨rfl, by rw [hU]; exact WG_moved hW hS hWG, by rw [hU]; exact hP⟩⟩ rfl hAs hlv.1 hst (by show 2 * 0 + _ ≤ 8; omega) hd ⟨by omega, by omega⟩) hS (fun Ec ws' q9 ce H1 locs1 hp hP1 hS1 hce hcv hcc => ?_) (fun v ws' H1 locs1 hp hP1 hS1 => ?_)
  · exact kx Ec ws' hp p e R s m args below meth c H1 locs1 (cells + k1) (slots + n1) ls st q9 ce hC hlv hS1 hP1 (by omega) (by omega) hce hcv hcc
  · exact kt v ws' hp p e R s m args below meth c H1 locs1 (cells + k1) (slots + n1) ls hC hlv hS1 hP1 (by omega) (by omega)
/-- a call of a static method that returns -/
theorem ev_callS (D : Lst Y L) (i : Nat) {idx : Nat} (hv : mVs Y2 np) (hi : L[i]? = some (pc, .invokestatic idx, 3)) (hl : gw (.methodLink (mnm Y).cls idx (mnm Y2))) (hdp : mdp Y2 + 1 ≤ mdp Y) (hml : mml Y2 ≤ 18) (hAs : As.length = np) (hcat : (st.map fun v => v.category).sum ≤ 8) (hst : stk = As.reverse ++ st)
    (hk : k1 + k2 ≤ k) (hn2 : n1 + n2 ≤ n) (hM : C0 E Y2 k1 n1 As ws Pr2) (kt : ∀ (v : Option Value) (ws' : va_W), Pr2 v ws' → Ev E Y Pr Px k2 n2 (pc + 3) lv (v.toList ++ st) ws') : Ev E Y Pr Px k n pc lv stk ws := by
  intro p e R s m args below meth c H locs cells slots ls hC hlv hS hP hc hn
  have hd := D _ (List.mem_of_getElem? hi)
  obtain ⟨hx, hb, hr, hlk, hmx, hts, hown, hnm, htb, hWG, hf1, hf2⟩ := id hC
  obtain ⟨v1, v2, v3, v4, v5, v6⟩ := hv
  refine run_W (va_runS (As := As) (rest := st) ⟨hx, hb, hmx, hown, fun w h => absurd h (List.not_mem_nil (a := w))⟩ hM ⟨⟨rfl, rfl, by show mdp Y2 + 1 ≤ _; omega, by show 8 + (mml Y2 + 11) + 37 * mdp Y2 ≤ _; omega, wsU_warm v3 hts, List.mem_cons_self, hts _ v3, hts _ v2, v4, par_len v5, hts _ hl⟩, hts _ v1⟩ ⟨gPc_blind, fun U hU hW => ⟨rfl, by rw [hU]; exact WG_moved hW hS hWG, by rw [hU]; exact hP⟩⟩ rfl hAs hlv.1 hst (by show 2 * 0 + _ ≤ 8; omega) hd ⟨by omega, by omega⟩) hS (fun v ws' H1 locs1 hp hP1 hS1 => ?_)
  exact kt v ws' hp p e R s m args below meth c H1 locs1 (cells + k1) (slots + n1) ls hC hlv hS1 hP1 (by omega) (by omega)
theorem ev_callSx (D : Lst Y L) (i : Nat) {idx : Nat} (hv : mVs Y2 np) (hi : L[i]? = some (pc, .invokestatic idx, 3)) (hl : gw (.methodLink (mnm Y).cls idx (mnm Y2))) (hdp : mdp Y2 + 1 ≤ mdp Y) (hml : mml Y2 ≤ 18) (hAs : As.length = np) (hcat : (st.map fun v => v.category).sum ≤ 8) (hst : stk = As.reverse ++ st)
    (hk : k1 + k2 ≤ k) (hn2 : n1 + n2 ≤ n) (hM : C1 E Y2 k1 n1 As ws Pr2 Px2) (kx : ∀ (Ec : String) (ws' : va_W), Px2 Ec ws' → EvX E Y Pr Px k2 n2 pc lv Ec ws') (kt : ∀ (v : Option Value) (ws' : va_W), Pr2 v ws' → Ev E Y Pr Px k2 n2 (pc + 3) lv (v.toList ++ st) ws') : Ev E Y Pr Px k n pc lv stk ws := by
  intro p e R s m args below meth c H locs cells slots ls hC hlv hS hP hc hn
  have hd := D _ (List.mem_of_getElem? hi)
  obtain ⟨hx, hb, hr, hlk, hmx, hts, hown, hnm, htb, hWG, hf1, hf2⟩ := id hC
  obtain ⟨v1, v2, v3, v4, v5, v6⟩ := hv
  refine run_X (vx_runS (As := As) (rest := st) ⟨hx, hb, hmx, hown, fun w h => absurd h (List.not_mem_nil (a := w))⟩ hM ⟨⟨rfl, rfl, by show mdp Y2 + 1 ≤ _; omega, by show 8 + (mml Y2 + 11) + 37 * mdp Y2 ≤ _; omega, wsU_warm v3 hts, List.mem_cons_self, hts _ v3, hts _ v2, v4, par_len v5, hts _ hl⟩, hts _ v1⟩ ⟨gPc_blind, fun U hU hW => ⟨rfl, by rw [hU]; exact WG_moved hW hS hWG, by rw [hU]; exact hP⟩⟩ rfl hAs hlv.1 hst (by show 2 * 0 + _ ≤ 8; omega) hd ⟨by omega, by omega⟩) hS (fun Ec ws' q9 ce H1 locs1 hp hP1 hS1 hce hcv hcc => ?_) (fun v ws' H1 locs1 hp hP1 hS1 => ?_)
  · exact kx Ec ws' hp p e R s m args below meth c H1 locs1 (cells + k1) (slots + n1) ls st q9 ce hC hlv hS1 hP1 (by omega) (by omega) hce hcv hcc
  · exact kt v ws' hp p e R s m args below meth c H1 locs1 (cells + k1) (slots + n1) ls hC hlv hS1 hP1 (by omega) (by omega)
/-- a constructor of the package -/
theorem ev_callI (D : Lst Y L) (i : Nat) {idx b : Nat} (hv : mVi Y2 np) (hin : (mnm Y2).name = "<init>") (hrt : mrt Y2 = none) (hi : L[i]? = some (pc, .invokespecial idx, 3)) (hl : gw (.methodLink (mnm Y).cls idx (mnm Y2))) (hdp : mdp Y2 + 1 ≤ mdp Y) (hml : mml Y2 ≤ 18) (hAs : As.length = np) (hcat : (st.map fun v => v.category).sum ≤ 8) (hst : stk = As.reverse ++ .ref b :: st)
    (hk : k1 + k2 ≤ k) (hn2 : n1 + n2 ≤ n) (hM : C0 E Y2 k1 n1 (.ref b :: As) ws Pr2) (kt : ∀ (v : Option Value) (ws' : va_W), Pr2 v ws' → Ev E Y Pr Px k2 n2 (pc + 3) lv (v.toList ++ st) ws') : Ev E Y Pr Px k n pc lv stk ws := by
  intro p e R s m args below meth c H locs cells slots ls hC hlv hS hP hc hn
  have hd := D _ (List.mem_of_getElem? hi)
  obtain ⟨hx, hb, hr, hlk, hmx, hts, hown, hnm, htb, hWG, hf1, hf2⟩ := id hC
  obtain ⟨v1, v2, v3, v4, v5, v6⟩ := hv
  have v3' : gw (.code (mnm Y2) (mcd Y2) (mml Y2) none) := by rw [hrt] at v3; exact v3
  have hcm : Cond.code (mnm Y2) (mcd Y2) (mml Y2) none ∈ wsU Y2 := by unfold wsU; rw [hrt]; exact List.mem_cons_self
  refine run_W (va_runI (As := As) (rest := st) ⟨hx, hb, hmx, hown, fun w h => absurd h (List.not_mem_nil (a := w))⟩ hM ⟨⟨rfl, rfl, by show mdp Y2 + 1 ≤ _; omega, by show 8 + (mml Y2 + 11) + 37 * mdp Y2 ≤ _; omega, wsU_warm v3 hts, hcm, hts _ v3', hts _ v2, v4, par_len v5, hts _ hl⟩, hin, hts _ v1⟩ ⟨gPc_blind, fun U hU hW => ⟨rfl, by rw [hU]; exact WG_moved hW hS hWG, by rw [hU]; exact hP⟩⟩ rfl hAs hlv.1 hst (by show 2 * 0 + _ ≤ 8; omega) hd ⟨by omega, by omega⟩) hS (fun v ws' H1 locs1 hp hP1 hS1 => ?_)
  exact kt v ws' hp p e R s m args below meth c H1 locs1 (cells + k1) (slots + n1) ls hC hlv hS1 hP1 (by omega) (by omega)
/-- a private constructor of a nest mate -/
theorem ev_callIN (D : Lst Y L) (i : Nat) {idx b : Nat} (hv : mVi Y2 np) (hin : (mnm Y2).name = "<init>") (hrt : mrt Y2 = none) (hi : L[i]? = some (pc, .invokespecial idx, 3)) (hl : ((mnm Y).cls, idx, mnm Y2) ∈ gNest) (hdp : mdp Y2 + 1 ≤ mdp Y) (hml : mml Y2 ≤ 18) (hAs : As.length = np) (hcat : (st.map fun v => v.category).sum ≤ 8) (hst : stk = As.reverse ++ .ref b :: st)
    (hk : k1 + k2 ≤ k) (hn2 : n1 + n2 ≤ n) (hM : C0 E Y2 k1 n1 (.ref b :: As) ws Pr2) (kt : ∀ (v : Option Value) (ws' : va_W), Pr2 v ws' → Ev E Y Pr Px k2 n2 (pc + 3) lv (v.toList ++ st) ws') : Ev E Y Pr Px k n pc lv stk ws := by
  intro p e R s m args below meth c H locs cells slots ls hC hlv hS hP hc hn
  have hd := D _ (List.mem_of_getElem? hi)
  obtain ⟨hx, hb, hr, hlk, hmx, hts, hown, hnm, htb, hWG, hf1, hf2⟩ := id hC
  obtain ⟨v1, v2, v3, v4, v5, v6⟩ := hv
  have v3' : gw (.code (mnm Y2) (mcd Y2) (mml Y2) none) := by rw [hrt] at v3; exact v3
  have hcm : Cond.code (mnm Y2) (mcd Y2) (mml Y2) none ∈ wsU Y2 := by unfold wsU; rw [hrt]; exact List.mem_cons_self
  have hnw := hWG.2.2.2.2.2.2.2.1 _ hl
  refine run_W (va_runIN (host := RX6) (As := As) (rest := st) ⟨hx, hb, hmx, hown, fun w h => absurd h (List.not_mem_nil (a := w))⟩ hM ⟨⟨⟨rfl, rfl, by show mdp Y2 + 1 ≤ _; omega, by show 8 + (mml Y2 + 11) + 37 * mdp Y2 ≤ _; omega, wsU_warm v3 hts, hcm⟩, hts _ v3', hts _ v2, v4, par_len v5, va_Nw.use rfl hnw⟩, hin, hts _ v1⟩ ⟨gPc_blind, fun U hU hW => ⟨rfl, by rw [hU]; exact WG_moved hW hS hWG, by rw [hU]; exact hP⟩⟩ rfl hAs hlv.1 hst (by show 2 * 0 + _ ≤ 8; omega) hd ⟨by omega, by omega⟩) hS (fun v ws' H1 locs1 hp hP1 hS1 => ?_)
  exact kt v ws' hp p e R s m args below meth c H1 locs1 (cells + k1) (slots + n1) ls hC hlv hS1 hP1 (by omega) (by omega)
/-- a static method with handlers, that returns -/
theorem ev_callSW (D : Lst Y L) (i : Nat) {idx : Nat} (hv : mVx Y2 np) (hi : L[i]? = some (pc, .invokestatic idx, 3)) (hl : gw (.methodLink (mnm Y).cls idx (mnm Y2))) (hdp : mdp Y2 + 1 ≤ mdp Y) (hml : mml Y2 ≤ 18) (hAs : As.length = np) (hcat : (st.map fun v => v.category).sum ≤ 8) (hst : stk = As.reverse ++ st)
    (hk : k1 + k2 ≤ k) (hn2 : n1 + n2 ≤ n) (hM : C2 E Y2 k1 n1 As ws Pr2) (kt : ∀ (v : Option Value) (ws' : va_W), Pr2 v ws' → Ev E Y Pr Px k2 n2 (pc + 3) lv (v.toList ++ st) ws') : Ev E Y Pr Px k n pc lv stk ws := by
  intro p e R s m args below meth c H locs cells slots ls hC hlv hS hP hc hn
  have hd := D _ (List.mem_of_getElem? hi)
  obtain ⟨hx, hb, hr, hlk, hmx, hts, hown, hnm, htb, hWG, hf1, hf2⟩ := id hC
  obtain ⟨v1, v2, v3, v4, v5, v6⟩ := hv
  refine run_W (vx_runSW (As := As) (rest := st) ⟨hx, hb, hmx, hown, fun w h => absurd h (List.not_mem_nil (a := w))⟩ hM ⟨⟨rfl, rfl, by show mdp Y2 + 1 ≤ _; omega, by show 8 + (mml Y2 + 11) + 37 * mdp Y2 ≤ _; omega, wsW_warm v3 hts, List.mem_cons_self⟩, hts _ v3, hts _ v2, v4, par_len v5, hts _ hl, hts _ v1⟩ ⟨gPc_blind, fun U hU hW => ⟨rfl, by rw [hU]; exact WG_moved hW hS hWG, by rw [hU]; exact hP⟩⟩ rfl hAs hlv.1 hst (by show 2 * 0 + _ ≤ 8; omega) hd ⟨by omega, by omega⟩) hS (fun v ws' H1 locs1 hp hP1 hS1 => ?_)
  exact kt v ws' hp p e R s m args below meth c H1 locs1 (cells + k1) (slots + n1) ls hC hlv hS1 hP1 (by omega) (by omega)
/-- thrown over the frame of a method without handlers: on to the caller -/
theorem evx_out {Ec : String} (hh : mhh Y = []) (hx : Px Ec ws) : EvX E Y Pr Px k n pc lv Ec ws := by
  intro p e R s m args below meth c H locs cells slots ls rest q ce hC hlv hS hP hc hn hce hcv hcl
  obtain ⟨hxx, hb, hr, hlk, hmx, hts, hown, hnm, htb, hWG, hf1, hf2⟩ := id hC
  refine vx_out (fun x hxm => ?_) hlk hce hcv hcl (fun t ht _ => ⟨⟨ws, hx, by rw [ht]; exact hP⟩, hS.F ht⟩) hS.2.2 (by omega) (by omega)
  rw [htb, hh] at hxm
  cases hxm
/-- .. of a method whose table takes it -/
theorem evx_catch {Ec : String} (pre : List ExceptionTableEntry) (x : ExceptionTableEntry) (suf : List ExceptionTableEntry) (hsplit : tableOf (mhh Y) = pre ++ x :: suf) (hpass : ∀ z ∈ pre, z.catchType ≠ 0 ∧ ∃ nm : String, gw (.classLink (mnm Y).cls z.catchType nm) ∧ (Ec, nm) ∈ gNc) (hcov : covers x pc = true) (h0 : x.catchType ≠ 0) (hlink : gw (.classLink (mnm Y).cls x.catchType Ec)) (hX : Ec ∈ gXn)
    (kt : ∀ q : Nat, Ev E Y Pr Px k n x.handlerPc lv [.ref q] ws) : EvX E Y Pr Px k n pc lv Ec ws := by
  intro p e R s m args below meth c H locs cells slots ls rest q ce hC hlv hS hP hc hn hce hcv hcl
  obtain ⟨hxx, hb, hr, hlk, hmx, hts, hown, hnm, htb, hWG, hf1, hf2⟩ := id hC
  refine vx_catch hown pre x suf (htb.trans hsplit) (fun z hz => ?_) hcov h0 (hts _ hlink) (va_Nw.use rfl (hWG.2.2.2.2.2.2.2.2.2.2.2.1 Ec hX)) hce hcv hcl (kt q p e R s m args below meth c H locs cells slots ls hC hlv hS hP hc hn)
  obtain ⟨z1, nm, z2, z3⟩ := hpass z hz
  exact Or.inr ⟨z1, nm, hts _ z2, hWG.2.2.2.2.2.2.2.2.2.2.1 _ z3⟩
end EVM
end
section
/-- an exception that the class throws: its name, its constructor's place in the pool -/
def gXb (X : String) (ic : Nat) : Prop := Bundle.fit X = true ∧ gw (.initialized X) ∧ (∀ w ∈ vx_atS RX6 ic X ["java/lang/RuntimeException", "java/lang/Exception"], goodWord w = true → gw w) ∧ (vx_atS RX6 ic X ["java/lang/RuntimeException", "java/lang/Exception"]).filter (fun w => !goodWord w) = [.declares (Bundle.initS "java/lang/RuntimeException"), .declares (Bundle.initS "java/lang/Exception"), .declares (Bundle.initS "java/lang/Throwable"), .castable X X] ∧ (∀ w ∈ vx_atS RX6 ic X ["java/lang/RuntimeException", "java/lang/Exception"], vx_ot w = true) ∧ X ∈ gXn
theorem gX_names : ∀ n ∈ ["java/lang/RuntimeException", "java/lang/Exception"], Bundle.fit n = true := by decide +kernel
theorem XbI : gXb xI 188 := ⟨by decide +kernel, ini_IndexOutOfBoundsException, xx_IndexOutOfBoundsException, xy_IndexOutOfBoundsException, by decide +kernel, by decide +kernel⟩
theorem XbA : gXb xA 61 := ⟨by decide +kernel, ini_IllegalArgumentException, xx_IllegalArgumentException, xy_IllegalArgumentException, by decide +kernel, by decide +kernel⟩
theorem XbS : gXb xS 77 := ⟨by decide +kernel, ini_IllegalStateException, xx_IllegalStateException, xy_IllegalStateException, by decide +kernel, by decide +kernel⟩
theorem gX_hat {E : gE} {s : State} {args : Array Value} {H : Heap} {X : String} {ic : Nat} (hb : gXb X ic) (hts : ∀ w, gw w → w.before args s = true) (hWG : WG E s H) : ∀ w ∈ vx_atS RX6 ic X ["java/lang/RuntimeException", "java/lang/Exception"], w.before args s = true := by
  intro w hw
  by_cases hg : goodWord w = true
  · exact hts w (hb.2.2.1 w hw hg)
  · have hm : w ∈ (vx_atS RX6 ic X ["java/lang/RuntimeException", "java/lang/Exception"]).filter (fun w => !goodWord w) := List.mem_filter.mpr ⟨hw, by simp [hg]⟩
    rw [hb.2.2.2.1] at hm
    have hd := hWG.2.2.2.2.2.2.2.2.2.2.2.2.1
    have hcs := hWG.2.2.2.2.2.2.2.2.2.2.2.1 X hb.2.2.2.2.2
    rcases List.mem_cons.mp hm with rfl | hm
    · exact va_Nw.use rfl (hd _ (by decide +kernel))
    rcases List.mem_cons.mp hm with rfl | hm
    · exact va_Nw.use rfl (hd _ (by decide +kernel))
    rcases List.mem_cons.mp hm with rfl | hm
    · exact va_Nw.use rfl (hd _ (by decide +kernel))
    rcases List.mem_cons.mp hm with rfl | hm
    · exact va_Nw.use rfl hcs
    · exact absurd hm List.not_mem_nil
theorem gX_good {X : String} {ic ik : Nat} (hb : gXb X ic) : ∀ w ∈ Cond.classLink RX6 ik X :: Cond.initialized X :: vx_atS RX6 ic X ["java/lang/RuntimeException", "java/lang/Exception"], vx_ot w = true := by
  intro w hw
  cases hw with
  | head => rfl
  | tail _ hw =>
    cases hw with
    | head => rfl
    | tail _ hw => exact hb.2.2.2.2.1 w hw
section EVT
variable {E : gE} {Y : MI} {Pr : Option Value → va_W → Prop} {Px : String → va_W → Prop} {k n : Nat} {ws : va_W} {L : LI} {pc : Nat} {lv : List (Nat × Value)} {st : List Value}
/-- new; dup; ldc; invokespecial; athrow -/
theorem ev_throw (D : Lst Y L) (i : Nat) {X tx : String} {ik ks ic : Nat} (hb : gXb X ic) (hown : (mnm Y).cls = RX6) (hh : mhh Y = []) (hk : gw (.classLink RX6 ik X)) (hs : (ks, tx) ∈ gStr)
    (i0 : L[i]? = some (pc, .new ik, 3)) (i1 : L[i + 1]? = some (pc + 3, .dup, 1)) (i2 : L[i + 2]? = some (pc + 4, .ldc ks, 2)) (i3 : L[i + 3]? = some (pc + 6, .invokespecial ic, 3)) (i4 : L[i + 4]? = some (pc + 9, .athrow, 1))
    (hdp : 6 ≤ mdp Y) (hcat : (st.map fun v => v.category).sum ≤ 8) (h1 : 1 ≤ k) (h2 : 6 ≤ n) (hx : Px X ws) : Ev E Y Pr Px k n pc lv st ws := by
  intro p e R s m args below meth c H locs cells slots ls hC hl hS hP hc hn
  obtain ⟨hxx, hbb, hr, hlk, hmx, hts, hfc, hnm, htb, hWG, hf1, hf2⟩ := id hC
  obtain ⟨sa, hsa⟩ := hWG.2.2.2.2.1 _ hs
  have d0 := D _ (List.mem_of_getElem? i0)
  have d1 := D _ (List.mem_of_getElem? i1)
  have d2 := D _ (List.mem_of_getElem? i2)
  have d3 := D _ (List.mem_of_getElem? i3)
  have d4 := D _ (List.mem_of_getElem? i4)
  have hfc' : s.vm.findClass RX6 = some m.cls := by rw [← hown]; exact hfc
  have hat := gX_hat hb hts hWG
  have hgd := gX_good (ik := ik) hb
  have hout : ∀ x ∈ c.exceptionTable.toList, covers x (pc + 9) = false := by
    intro x hxm
    rw [htb, hh] at hxm
    cases hxm
  have hend : ∀ t : State, s.vm.Alike t.vm → H.size ≤ t.heap.size → (∀ q : Nat, q < H.size → t.heap[q]? = H[q]?) → gXC E Px X s t := by
    intro t hal hz ho
    refine ⟨⟨ws, hx, ⟨hP.1.kept (fun k q hk => ho q.1 (hP.1 k q hk).lt), hP.2⟩⟩, Nat.le_trans hS.1 hz, fun q h1 h2 => ?_⟩
    rw [ho q (Nat.lt_of_lt_of_le h1 hS.1)]
    exact hS.2.1 q h1 h2
  have e1 : (["java/lang/RuntimeException", "java/lang/Exception"] : List String).length + 3 < R.frames := by show 2 + 3 < _; omega
  have e2 : (st.map fun v => v.category).sum + (13 * ((["java/lang/RuntimeException", "java/lang/Exception"] : List String).length + 1) + 43) ≤ R.locals := by show _ + (13 * (2 + 1) + 43) ≤ _; omega
  exact vx_throwS (A := gA E) (own := RX6) (names := ["java/lang/RuntimeException", "java/lang/Exception"]) hxx hbb hWG.1 hfc' hb.1 gX_names (hts _ hk) (hts _ hb.2.1) hsa hat hgd hWG.2.2.2.2.2.1 hWG.2.2.2.2.2.2.1 hS (hl.1.trans hmx.symm) d0 d1 d2 d3 d4 hout e1 e2 (by omega) (by omega) hlk hend hS.2.2 (by omega) (by omega)
theorem ev_throwW (D : Lst Y L) (i : Nat) {X tx : String} {ik ks ic : Nat} (hb : gXb X ic) (hown : (mnm Y).cls = RX6) (hh : mhh Y = []) (hk : gw (.classLink RX6 ik X)) (hs : (ks, tx) ∈ gStr)
    (i0 : L[i]? = some (pc, .new ik, 3)) (i1 : L[i + 1]? = some (pc + 3, .dup, 1)) (i2 : L[i + 2]? = some (pc + 4, .ldc_w ks, 3)) (i3 : L[i + 3]? = some (pc + 7, .invokespecial ic, 3)) (i4 : L[i + 4]? = some (pc + 10, .athrow, 1))
    (hdp : 6 ≤ mdp Y) (hcat : (st.map fun v => v.category).sum ≤ 8) (h1 : 1 ≤ k) (h2 : 6 ≤ n) (hx : Px X ws) : Ev E Y Pr Px k n pc lv st ws := by
  intro p e R s m args below meth c H locs cells slots ls hC hl hS hP hc hn
  obtain ⟨hxx, hbb, hr, hlk, hmx, hts, hfc, hnm, htb, hWG, hf1, hf2⟩ := id hC
  obtain ⟨sa, hsa⟩ := hWG.2.2.2.2.1 _ hs
  have d0 := D _ (List.mem_of_getElem? i0)
  have d1 := D _ (List.mem_of_getElem? i1)
  have d2 := D _ (List.mem_of_getElem? i2)
  have d3 := D _ (List.mem_of_getElem? i3)
  have d4 := D _ (List.mem_of_getElem? i4)
  have hfc' : s.vm.findClass RX6 = some m.cls := by rw [← hown]; exact hfc
  have hat := gX_hat hb hts hWG
  have hgd := gX_good (ik := ik) hb
  have hout : ∀ x ∈ c.exceptionTable.toList, covers x (pc + 10) = false := by
    intro x hxm
    rw [htb, hh] at hxm
    cases hxm
  have hend : ∀ t : State, s.vm.Alike t.vm → H.size ≤ t.heap.size → (∀ q : Nat, q < H.size → t.heap[q]? = H[q]?) → gXC E Px X s t := by
    intro t hal hz ho
    refine ⟨⟨ws, hx, ⟨hP.1.kept (fun k q hk => ho q.1 (hP.1 k q hk).lt), hP.2⟩⟩, Nat.le_trans hS.1 hz, fun q h1 h2 => ?_⟩
    rw [ho q (Nat.lt_of_lt_of_le h1 hS.1)]
    exact hS.2.1 q h1 h2
  have e1 : (["java/lang/RuntimeException", "java/lang/Exception"] : List String).length + 3 < R.frames := by show 2 + 3 < _; omega
  have e2 : (st.map fun v => v.category).sum + (13 * ((["java/lang/RuntimeException", "java/lang/Exception"] : List String).length + 1) + 43) ≤ R.locals := by show _ + (13 * (2 + 1) + 43) ≤ _; omega
  exact vx_throwSW (A := gA E) (own := RX6) (names := ["java/lang/RuntimeException", "java/lang/Exception"]) hxx hbb hWG.1 hfc' hb.1 gX_names (hts _ hk) (hts _ hb.2.1) hsa hat hgd hWG.2.2.2.2.2.1 hWG.2.2.2.2.2.2.1 hS (hl.1.trans hmx.symm) d0 d1 d2 d3 d4 hout e1 e2 (by omega) (by omega) hlk hend hS.2.2 (by omega) (by omega)
end EVT
section EVO
variable {E : gE} {Y : MI} {Pr : Option Value → va_W → Prop} {Px : String → va_W → Prop} {k n : Nat} {ws : va_W} {av : List Value}
theorem ctx_of {p : Program} {e : Env} {s s₁ : State} {m : MethodId} {args : Array Value} {below : List Frame} {meth : Method} {c : Code} {W0 : List Cond} {rm : Room}
    (B : BodyLoose p (gL E) (mnm Y) (headSpec W0 rm) (mcd Y) (mml Y) (mrt Y) e s m args below meth c s₁) (hml : c.maxLocals = mml Y) (hts : ∀ w, gw w → w.before args s = true) (htb : c.exceptionTable.toList = tableOf (mhh Y)) (hWG : WG E s s.heap) : Cx E Y p (gR Y k n) s m args meth c :=
  ⟨B.exec, B.bytes, B.returns, B.notSynchronized, hml, hts, findClass_of_methodNamed B.named, (name_of_methodNamed B.named B.method).1, htb, hWG, Nat.le_refl _, Nat.le_refl _⟩
theorem c1_of (hp : plainFor (mnm Y) = true) (hh : mhh Y = []) (hl : (lg_sl av).length ≤ mml Y) (kk : Ev E Y Pr Px k n 0 (lv_args 0 av) [] ws) : C1 E Y k n av ws Pr Px := by
  refine MetFree.of_bodySF (code := mcd Y) (maxLocals := mml Y) (ret := mrt Y) hp ?_ ?_
  · intro args s m h hn
    obtain ⟨meth, c, h1, h2, h3, h4, h5, h6, -, -⟩ := Cond.code_spec hn (atoms_spec (ws := wsU Y) h _ List.mem_cons_self)
    exact ⟨meth, c, h1, h2, h3, h4, h5, h6⟩
  · intro p e s m args below meth c s₁ B hml hP _
    have hh0 : s₁.heap = s.heap := by rw [B.state]; rfl
    have ht : c.exceptionTable.toList = tableOf (mhh Y) := by
      obtain ⟨meth9, c9, h1, h2, -, -, -, -, h7, -⟩ := Cond.code_spec B.named (atoms_spec (ws := wsU Y) B.pre _ List.mem_cons_self)
      cases Option.some.inj (h1.symm.trans B.method)
      cases Option.some.inj (h2.symm.trans (Stand.of_body B).code)
      rw [hh, Array.isEmpty_iff.mp h7]
      rfl
    obtain ⟨rfl, hWG, hg⟩ := hP
    have hts0 := atoms_spec (ws := wsU Y) B.pre
    have hts : ∀ w, gw w → w.before av.toArray s = true := fun w hw => hts0 w (List.mem_cons_of_mem _ (List.mem_filter.mpr ⟨hw.1, hw.2⟩))
    have W1 := kk p e (gR Y k n) s m av.toArray below meth c s.heap [] 0 0 _ (ctx_of B hml hts ht hWG) (lv_entry av hl) va_S.rf hg (by show 0 + k ≤ k; omega) (by show 0 + n ≤ n; omega)
    rw [← lg_entry_eq] at W1
    obtain ⟨t, a1, o, b1, b2, b3⟩ := W1 s₁ hh0 (Stand.of_body B)
    exact ⟨t, o, a1, b1, b2, b3⟩
theorem c0_of (hp : plainFor (mnm Y) = true) (hh : mhh Y = []) (hl : (lg_sl av).length ≤ mml Y) (kk : Ev E Y Pr (fun _ _ => False) k n 0 (lv_args 0 av) [] ws) : C0 E Y k n av ws Pr := by
  unfold C0 Met
  refine MetFree.of_bodySF (code := mcd Y) (maxLocals := mml Y) (ret := mrt Y) hp ?_ ?_
  · intro args s m h hn
    obtain ⟨meth, c, h1, h2, h3, h4, h5, h6, -, -⟩ := Cond.code_spec hn (atoms_spec (ws := wsU Y) h _ List.mem_cons_self)
    exact ⟨meth, c, h1, h2, h3, h4, h5, h6⟩
  · intro p e s m args below meth c s₁ B hml hP _
    have hh0 : s₁.heap = s.heap := by rw [B.state]; rfl
    have ht : c.exceptionTable.toList = tableOf (mhh Y) := by
      obtain ⟨meth9, c9, h1, h2, -, -, -, -, h7, -⟩ := Cond.code_spec B.named (atoms_spec (ws := wsU Y) B.pre _ List.mem_cons_self)
      cases Option.some.inj (h1.symm.trans B.method)
      cases Option.some.inj (h2.symm.trans (Stand.of_body B).code)
      rw [hh, Array.isEmpty_iff.mp h7]
      rfl
    obtain ⟨rfl, hWG, hg⟩ := hP
    have hts0 := atoms_spec (ws := wsU Y) B.pre
    have hts : ∀ w, gw w → w.before av.toArray s = true := fun w hw => hts0 w (List.mem_cons_of_mem _ (List.mem_filter.mpr ⟨hw.1, hw.2⟩))
    have W1 := kk p e (gR Y k n) s m av.toArray below meth c s.heap [] 0 0 _ (ctx_of B hml hts ht hWG) (lv_entry av hl) va_S.rf hg (by show 0 + k ≤ k; omega) (by show 0 + n ≤ n; omega)
    rw [← lg_entry_eq] at W1
    obtain ⟨t, a1, o, b1, b2, b3⟩ := W1 s₁ hh0 (Stand.of_body B)
    rcases b3 with b3 | ⟨q, -, Ec, ce, L9, ⟨⟨ws9, h9, -⟩, -⟩, -⟩
    · exact ⟨t, o, a1, b1, b2, b3⟩
    · exact h9.elim
theorem c2_of (hp : plainFor (mnm Y) = true) (hl : (lg_sl av).length ≤ mml Y) (kk : Ev E Y Pr (fun _ _ => False) k n 0 (lv_args 0 av) [] ws) : C2 E Y k n av ws Pr := by
  unfold C2 Met
  refine MetFree.of_bodySF (code := mcd Y) (maxLocals := mml Y) (ret := mrt Y) hp ?_ ?_
  · intro args s m h hn
    obtain ⟨m9, meth, c, hn9, h1, h2, h3, h4, -, h5, h6, -⟩ := Cond.codeWith_spec (atoms_spec (ws := wsW Y) h _ List.mem_cons_self)
    cases hn.symm.trans hn9
    exact ⟨meth, c, h1, h2, h3, h4, h5, h6⟩
  · intro p e s m args below meth c s₁ B hml hP _
    have hh0 : s₁.heap = s.heap := by rw [B.state]; rfl
    have ht : c.exceptionTable.toList = tableOf (mhh Y) := vx_table (x := mnm Y) B (atoms_spec (ws := wsW Y) B.pre _ List.mem_cons_self)
    obtain ⟨rfl, hWG, hg⟩ := hP
    have hts0 := atoms_spec (ws := wsW Y) B.pre
    have hts : ∀ w, gw w → w.before av.toArray s = true := fun w hw => hts0 w (List.mem_cons_of_mem _ (List.mem_filter.mpr ⟨hw.1, hw.2⟩))
    have W1 := kk p e (gR Y k n) s m av.toArray below meth c s.heap [] 0 0 _ (ctx_of B hml hts ht hWG) (lv_entry av hl) va_S.rf hg (by show 0 + k ≤ k; omega) (by show 0 + n ≤ n; omega)
    rw [← lg_entry_eq] at W1
    obtain ⟨t, a1, o, b1, b2, b3⟩ := W1 s₁ hh0 (Stand.of_body B)
    rcases b3 with b3 | ⟨q, -, Ec, ce, L9, ⟨⟨ws9, h9, -⟩, -⟩, -⟩
    · exact ⟨t, o, a1, b1, b2, b3⟩
    · exact h9.elim
end EVO
end
section
theorem wset_get {ws : va_W} {q a : Nat} {e e2 : va_E} (h : ws[q]? = some (a, e)) : (ws.set q (a, e2))[q]? = some (a, e2) := List.getElem?_set_self (List.getElem?_eq_some_iff.mp h).1
theorem wset_set {ws : va_W} {q : Nat} {x y : Nat × va_E} : (ws.set q x).set q y = ws.set q y := List.set_set ..
/-- kinds of cells: an object's class, a row's length -/
def ek : va_E → Nat
  | .inr o => o.1
  | .inl (_, n, .inl _) => 1000 + n
  | .inl (_, n, .inr (.inl _)) => 10000 + n
  | .inl (_, n, .inr (.inr (.inl _))) => 20000 + n
  | .inl (_, n, .inr (.inr (.inr (.inl _)))) => 30000 + n
  | .inl (_, n, .inr (.inr (.inr (.inr _)))) => 40000 + n
theorem ek_ne {ws : va_W} {q q' a a' : Nat} {e e' : va_E} (h' : ws[q']? = some (a', e')) (h : ws[q]? = some (a, e)) (hk : Nat.beq (ek e) (ek e') = false) : q ≠ q' := by
  intro hq
  subst hq
  rw [h] at h'
  cases h'
  rw [Nat.beq_refl] at hk
  cases hk
theorem wset_o {ws : va_W} {q q' a a' : Nat} {x : Nat × va_E} {e e' : va_E} (h' : ws[q']? = some (a', e')) (h : ws[q]? = some (a, e)) (hk : Nat.beq (ek e) (ek e') = false) : (ws.set q x)[q']? = some (a', e') := by
  rw [List.getElem?_set_ne (ek_ne h' h hk)]
  exact h'
theorem wset_n {ws : va_W} {q q' : Nat} {x : Nat × va_E} {r : Nat × va_E} (h' : ws[q']? = some r) (hq : q ≠ q') : (ws.set q x)[q']? = some r := by
  rw [List.getElem?_set_ne hq]
  exact h'
theorem wset_sw {ws : va_W} {q q' a a' : Nat} {x y : Nat × va_E} {e e' : va_E} (h' : ws[q']? = some (a', e')) (h : ws[q]? = some (a, e)) (hk : Nat.beq (ek e) (ek e') = false) : ((ws.set q x).set q' y) = ((ws.set q' y).set q x) := List.set_comm _ _ (ek_ne h' h hk)
theorem wset_id {ws : va_W} {q : Nat} {x : Nat × va_E} (h : ws[q]? = some x) : ws.set q x = ws := by
  apply List.ext_getElem?
  intro i
  by_cases hi : q = i
  · subst hi
    rw [List.getElem?_set_self (List.getElem?_eq_some_iff.mp h).1, h]
  · rw [List.getElem?_set_ne hi]
/-- a method that returns this, and leaves that -/
def CD (E : gE) (Y : MI) (k n : Nat) (av : List Value) (ws : va_W) (v : Option Value) (ws' : va_W) : Prop := C0 E Y k n av ws (fun v2 w2 => v2 = v ∧ w2 = ws')
abbrev vcons (v : Option Value) (st : List Value) : List Value := match v with
  | some x => x :: st
  | none => st
theorem vcons_eq (v : Option Value) (st : List Value) : v.toList ++ st = vcons v st := by cases v <;> rfl
abbrev nX : String → va_W → Prop := fun _ _ => False
theorem mVv_p {Y : MI} {n : Nat} (h : mVv Y n) : plainFor (mnm Y) = true := h.1.2.2.2.2.2.1
theorem mVv_h {Y : MI} {n : Nat} (h : mVv Y n) : mhh Y = [] := h.1.2.2.2.2.2.2
theorem mVs_p {Y : MI} {n : Nat} (h : mVs Y n) : plainFor (mnm Y) = true := h.2.2.2.2.2.1
theorem mVs_h {Y : MI} {n : Nat} (h : mVs Y n) : mhh Y = [] := h.2.2.2.2.2.2
theorem mVi_p {Y : MI} {n : Nat} (h : mVi Y n) : plainFor (mnm Y) = true := h.2.2.2.2.2.1
theorem mVi_h {Y : MI} {n : Nat} (h : mVi Y n) : mhh Y = [] := h.2.2.2.2.2.2
theorem mVx_p {Y : MI} {n : Nat} (h : mVx Y n) : plainFor (mnm Y) = true := h.2.2.2.2.2
section KIT
variable {E : gE} {Y Y2 : MI} {Pr Pr2 : Option Value → va_W → Prop} {Px Px2 : String → va_W → Prop} {k n k1 n1 k2 n2 np : Nat} {ws ws' : va_W} {L : LI} {pc : Nat} {lv lv0 : List (Nat × Value)} {st stk As av : List Value} {v' : Option Value}
theorem cdV (h : mVv Y np) (hl : (lg_sl av).length ≤ mml Y) (hv : lv_args 0 av = lv0) (kk : Ev E Y (fun v2 w2 => v2 = v' ∧ w2 = ws') nX k n 0 lv0 [] ws) : CD E Y k n av ws v' ws' := by
  subst hv
  exact c0_of (mVv_p h) (mVv_h h) hl kk
theorem cdS (h : mVs Y np) (hl : (lg_sl av).length ≤ mml Y) (hv : lv_args 0 av = lv0) (kk : Ev E Y (fun v2 w2 => v2 = v' ∧ w2 = ws') nX k n 0 lv0 [] ws) : CD E Y k n av ws v' ws' := by
  subst hv
  exact c0_of (mVs_p h) (mVs_h h) hl kk
theorem cdI (h : mVi Y np) (hl : (lg_sl av).length ≤ mml Y) (hv : lv_args 0 av = lv0) (kk : Ev E Y (fun v2 w2 => v2 = v' ∧ w2 = ws') nX k n 0 lv0 [] ws) : CD E Y k n av ws v' ws' := by
  subst hv
  exact c0_of (mVi_p h) (mVi_h h) hl kk
theorem c0V (h : mVv Y np) (hl : (lg_sl av).length ≤ mml Y) (hv : lv_args 0 av = lv0) (kk : Ev E Y Pr nX k n 0 lv0 [] ws) : C0 E Y k n av ws Pr := by
  subst hv
  exact c0_of (mVv_p h) (mVv_h h) hl kk
theorem c0S (h : mVs Y np) (hl : (lg_sl av).length ≤ mml Y) (hv : lv_args 0 av = lv0) (kk : Ev E Y Pr nX k n 0 lv0 [] ws) : C0 E Y k n av ws Pr := by
  subst hv
  exact c0_of (mVs_p h) (mVs_h h) hl kk
theorem c0I (h : mVi Y np) (hl : (lg_sl av).length ≤ mml Y) (hv : lv_args 0 av = lv0) (kk : Ev E Y Pr nX k n 0 lv0 [] ws) : C0 E Y k n av ws Pr := by
  subst hv
  exact c0_of (mVi_p h) (mVi_h h) hl kk
theorem c1V (h : mVv Y np) (hl : (lg_sl av).length ≤ mml Y) (hv : lv_args 0 av = lv0) (kk : Ev E Y Pr Px k n 0 lv0 [] ws) : C1 E Y k n av ws Pr Px := by
  subst hv
  exact c1_of (mVv_p h) (mVv_h h) hl kk
theorem c1S (h : mVs Y np) (hl : (lg_sl av).length ≤ mml Y) (hv : lv_args 0 av = lv0) (kk : Ev E Y Pr Px k n 0 lv0 [] ws) : C1 E Y k n av ws Pr Px := by
  subst hv
  exact c1_of (mVs_p h) (mVs_h h) hl kk
theorem c2X (h : mVx Y np) (hl : (lg_sl av).length ≤ mml Y) (hv : lv_args 0 av = lv0) (kk : Ev E Y Pr nX k n 0 lv0 [] ws) : C2 E Y k n av ws Pr := by
  subst hv
  exact c2_of (mVx_p h) hl kk
/-- calls, the contract first -/
theorem ev_cV (D : Lst Y L) (i : Nat) {idx b q ci N : Nat} {T : u_T} {fs : List Value} (hM : CD E Y2 0 0 (.ref b :: As) ws v' ws') (hv : mVv Y2 np) (hi : L[i]? = some (pc, .invokevirtual idx, 3)) (hl : gw (.methodLink (mnm Y).cls idx (mnm Y2))) (hst : stk = As.reverse ++ .ref b :: st) (he : ws[q]? = some (b, .inr (ci, fs))) (hcl : gCl[ci]? = some ((mnm Y2).cls, T, N)) (hd : mdp Y2 + 1 ≤ mdp Y ∧ mml Y2 ≤ 18 ∧ As.length = np ∧ (st.map fun v => v.category).sum ≤ 8)
    (kt : Ev E Y Pr Px k n (pc + 3) lv (vcons v' st) ws') : Ev E Y Pr Px k n pc lv stk ws :=
  ev_callV D i hv hi hl hd.1 hd.2.1 he hcl hd.2.2.1 hd.2.2.2 hst (k1 := 0) (k2 := k) (n1 := 0) (n2 := n) (Nat.le_of_eq (Nat.zero_add k)) (Nat.le_of_eq (Nat.zero_add n)) hM (fun v w h => by rw [h.1, h.2, vcons_eq]; exact kt)
theorem ev_cS (D : Lst Y L) (i : Nat) {idx : Nat} (hM : CD E Y2 0 0 As ws v' ws') (hv : mVs Y2 np) (hi : L[i]? = some (pc, .invokestatic idx, 3)) (hl : gw (.methodLink (mnm Y).cls idx (mnm Y2))) (hst : stk = As.reverse ++ st) (hd : mdp Y2 + 1 ≤ mdp Y ∧ mml Y2 ≤ 18 ∧ As.length = np ∧ (st.map fun v => v.category).sum ≤ 8)
    (kt : Ev E Y Pr Px k n (pc + 3) lv (vcons v' st) ws') : Ev E Y Pr Px k n pc lv stk ws :=
  ev_callS D i hv hi hl hd.1 hd.2.1 hd.2.2.1 hd.2.2.2 hst (k1 := 0) (k2 := k) (n1 := 0) (n2 := n) (Nat.le_of_eq (Nat.zero_add k)) (Nat.le_of_eq (Nat.zero_add n)) hM (fun v w h => by rw [h.1, h.2, vcons_eq]; exact kt)
theorem ev_rV (D : Lst Y L) (i : Nat) {idx b q ci N : Nat} {T : u_T} {fs : List Value} (hM : C0 E Y2 0 0 (.ref b :: As) ws Pr2) (hv : mVv Y2 np) (hi : L[i]? = some (pc, .invokevirtual idx, 3)) (hl : gw (.methodLink (mnm Y).cls idx (mnm Y2))) (hst : stk = As.reverse ++ .ref b :: st) (he : ws[q]? = some (b, .inr (ci, fs))) (hcl : gCl[ci]? = some ((mnm Y2).cls, T, N)) (hd : mdp Y2 + 1 ≤ mdp Y ∧ mml Y2 ≤ 18 ∧ As.length = np ∧ (st.map fun v => v.category).sum ≤ 8)
    (kt : ∀ (v : Option Value) (w : va_W), Pr2 v w → Ev E Y Pr Px k n (pc + 3) lv (vcons v st) w) : Ev E Y Pr Px k n pc lv stk ws :=
  ev_callV D i hv hi hl hd.1 hd.2.1 he hcl hd.2.2.1 hd.2.2.2 hst (k1 := 0) (k2 := k) (n1 := 0) (n2 := n) (Nat.le_of_eq (Nat.zero_add k)) (Nat.le_of_eq (Nat.zero_add n)) hM (fun v w h => by rw [vcons_eq]; exact kt v w h)
theorem ev_rS (D : Lst Y L) (i : Nat) {idx : Nat} (hM : C0 E Y2 0 0 As ws Pr2) (hv : mVs Y2 np) (hi : L[i]? = some (pc, .invokestatic idx, 3)) (hl : gw (.methodLink (mnm Y).cls idx (mnm Y2))) (hst : stk = As.reverse ++ st) (hd : mdp Y2 + 1 ≤ mdp Y ∧ mml Y2 ≤ 18 ∧ As.length = np ∧ (st.map fun v => v.category).sum ≤ 8)
    (kt : ∀ (v : Option Value) (w : va_W), Pr2 v w → Ev E Y Pr Px k n (pc + 3) lv (vcons v st) w) : Ev E Y Pr Px k n pc lv stk ws :=
  ev_callS D i hv hi hl hd.1 hd.2.1 hd.2.2.1 hd.2.2.2 hst (k1 := 0) (k2 := k) (n1 := 0) (n2 := n) (Nat.le_of_eq (Nat.zero_add k)) (Nat.le_of_eq (Nat.zero_add n)) hM (fun v w h => by rw [vcons_eq]; exact kt v w h)
end KIT
theorem hd_of {a b c e f g : Nat} (h : Nat.ble (a + 1) b = true) (h2 : Nat.ble c 18 = true) (h3 : e = f) (h4 : Nat.ble g 8 = true) : a + 1 ≤ b ∧ c ≤ 18 ∧ e = f ∧ g ≤ 8 := ⟨Nat.le_of_ble_eq_true h, Nat.le_of_ble_eq_true h2, h3, Nat.le_of_ble_eq_true h4⟩
/-- a tone, by its eighteen numbers -/
abbrev TF : Type := Nat → Int32
abbrev toneL (f : TF) : List Value := [.int (f 0), .int (f 1), .int (f 2), .int (f 3), .int (f 4), .int (f 5), .int (f 6), .int (f 7), .int (f 8), .int (f 9), .int (f 10), .int (f 11), .int (f 12), .int (f 13), .int (f 14), .int (f 15), .int (f 16), .int (f 17)]
abbrev toneC (f : TF) : va_E := .inr (3, toneL f)
end
section
theorem vI {x y : Int32} (h : y = x) : some (Value.int x) = some (Value.int y) := by rw [h]
theorem cd_hs {E : gE} {Y : MI} {k n : Nat} {av : List Value} {ws ws1 ws2 : va_W} {v : Option Value} (h : CD E Y k n av ws v ws1) (e : ws1 = ws2) : CD E Y k n av ws v ws2 := e ▸ h
theorem tset {ws : va_W} {q a : Nat} {g g2 : TF} {x : va_E} (h : g2 = g) (hx : x = toneC g) : ws.set q (a, x) = ws.set q (a, toneC g2) := by rw [h, hx]
theorem tset0 {ws : va_W} {q a : Nat} {f g2 : TF} (h0 : ws[q]? = some (a, toneC f)) (h : g2 = f) : ws = ws.set q (a, toneC g2) := by rw [h, wset_id h0]
def arrP (f : TF) (amp ns : Int32) : Int32 := (f 0 * amp + f 1 * f 5 + f 2 * f 6) / 64 + ns + f 4
def expP (f : TF) (amp : Int32) : Int32 := (f 7 * amp + f 8 * f 5 + f 9 * f 6) / 64
def ampP (b v : Int32) : Int32 := ((2 : Int32) * v + 1 - ((1 : Int32) <<< (b &&& 31))) * ((256 : Int32) >>> (b &&& 31))
def passP (f : TF) (amp tk : Int32) : TF := upd (upd (upd (upd (upd f 4 0) 6 (f 5)) 5 amp) 17 (f 16)) 16 tk
def knowP (f : TF) : TF := upd f 17 (f 6)
def loseP (f : TF) : TF := upd (upd (upd (upd (upd (upd f 7 64) 8 0) 9 0) 10 0) 11 (-1)) 12 0
def heldP (v lo hi : Int32) : Int32 := if lo ≤ v then (if v ≤ hi then v else hi) else lo
def stepP (pr p : Int32) : Int32 := pr / ((128 : Int32) * p)
def roomP (g m : Int32) : Int32 := ((256 : Int32) >>> (m &&& 31)) * g / 64
def decP (f : TF) (r : Int32) : Int32 :=
  let sg := ((r - (f 8 * f 16 + f 9 * f 17) / 64) * 64 / f 7 + 256 - 1) >>> (((9 : Int32) - f 10) &&& 31)
  let top := ((1 : Int32) <<< (f 10 &&& 31)) - 1
  let y := if top < sg then top else sg
  if 0 < y then y else 0
def impP (f : TF) (err amp p : Int32) : TF := upd (upd (upd f 7 (heldP (f 7 + stepP (err * amp) p) 8 128)) 8 (heldP (f 8 + stepP (err * f 5) p) (-48) 48)) 9 (heldP (f 9 + stepP (err * f 6) p) (-48) 48)
def bfP (g d : Int32) : Int32 := if roomP g 4 ≤ d then (if roomP g 3 ≤ d then (if roomP g 2 ≤ d then (if roomP g 1 ≤ d then 0 else 1) else 2) else 3) else 4
def endP (f : TF) (wo mg : Int32) : TF := upd (upd (upd f 11 wo) 10 (bfP (f 7) (wo * mg / 4))) 12 0
def absP (x : Int32) : Int32 := if 0 ≤ x then x else 0 - x
def misP (f : TF) (m : Int32) : Int32 := (absP (f 0 - f 7) * ((256 : Int32) - ((256 : Int32) >>> (m &&& 31))) + (absP (f 1 - f 8) + absP (f 2 - f 9)) * 256) / 64
def surP (f : TF) : Int32 := if roomP (f 7) 4 ≤ misP f 4 + f 3 + 4 then (if roomP (f 7) 3 ≤ misP f 3 + f 3 + 4 then (if roomP (f 7) 2 ≤ misP f 2 + f 3 + 4 then (if roomP (f 7) 1 ≤ misP f 1 + f 3 + 4 then 0 else 1) else 2) else 3) else 4
def cntP (f : TF) (b : Int32) : TF := if f 10 ≤ 0 then (if b = 0 then f else upd (upd f 15 (f 15 + 1)) 12 (f 12 + 1)) else (if b = 0 then upd f 14 (f 14 + 1) else upd (upd (upd f 14 (f 14 + 1)) 15 (f 15 + 1)) 12 (f 12 + 1))
def shyP (f : TF) (n : Int32) : TF := if f 10 ≤ 0 then f else if f 12 < n then f else upd (upd (upd f 10 (f 10 - 1)) 13 (f 13 + 1)) 12 0
set_option maxRecDepth 100000 in
set_option maxHeartbeats 4000000 in
theorem m_X3_arriving {E : gE} {ws : va_W} {q a : Nat} {f : TF} {amp ns : Int32} (h : ws[q]? = some (a, toneC f)) : CD E YX3_arriving 0 0 [.ref a, .int amp, .int ns] ws (some (.int (arrP f amp ns))) ws := by
  refine cdV vX3_arriving (Nat.le_of_ble_eq_true rfl) (lv0 := [(0, .ref a), (1, .int amp), (2, .int ns)]) rfl ?_
  refine ev_ss DX3_arriving 1 0 (pc' := 1) (lv' := [(0, .ref _), (1, .int _), (2, .int _)]) (st' := [.ref _]) rfl ?_
  refine ev_get DX3_arriving 1 GX3 rfl (k0 := 0) (Nat.le_of_ble_eq_true rfl) fX3_9 h rfl ?_
  refine ev_ss DX3_arriving 3 2 (pc' := 7) (lv' := [(0, .ref _), (1, .int _), (2, .int _)]) (st' := [.ref _, .int _]) rfl ?_
  refine ev_get DX3_arriving 5 GX3 rfl (k0 := 1) (Nat.le_of_ble_eq_true rfl) fX3_21 h rfl ?_
  refine ev_ss DX3_arriving 1 6 (pc' := 11) (lv' := [(0, .ref _), (1, .int _), (2, .int _)]) (st' := [.ref _, .int _, .int _]) rfl ?_
  refine ev_get DX3_arriving 7 GX3 rfl (k0 := 5) (Nat.le_of_ble_eq_true rfl) fX3_33 h rfl ?_
  refine ev_ss DX3_arriving 3 8 (pc' := 17) (lv' := [(0, .ref _), (1, .int _), (2, .int _)]) (st' := [.ref _, .int _]) rfl ?_
  refine ev_get DX3_arriving 11 GX3 rfl (k0 := 2) (Nat.le_of_ble_eq_true rfl) fX3_24 h rfl ?_
  refine ev_ss DX3_arriving 1 12 (pc' := 21) (lv' := [(0, .ref _), (1, .int _), (2, .int _)]) (st' := [.ref _, .int _, .int _]) rfl ?_
  refine ev_get DX3_arriving 13 GX3 rfl (k0 := 6) (Nat.le_of_ble_eq_true rfl) fX3_36 h rfl ?_
  refine ev_ss DX3_arriving 3 14 (pc' := 28) (lv' := [(0, .ref _), (1, .int _), (2, .int _)]) (st' := [.int 64, .int _]) rfl ?_
  refine ev_idiv DX3_arriving 17 rfl (by decide) ?_
  refine ev_ss DX3_arriving 3 18 (pc' := 32) (lv' := [(0, .ref _), (1, .int _), (2, .int _)]) (st' := [.ref _, .int _]) rfl ?_
  refine ev_get DX3_arriving 21 GX3 rfl (k0 := 4) (Nat.le_of_ble_eq_true rfl) fX3_30 h rfl ?_
  refine ev_ss DX3_arriving 1 22 (pc' := 36) (lv' := [(0, .ref _), (1, .int _), (2, .int _)]) (st' := [.int _]) rfl ?_
  exact ev_iret DX3_arriving 23 rfl rfl ⟨rfl, rfl⟩
set_option maxRecDepth 100000 in
set_option maxHeartbeats 4000000 in
theorem m_X3_expected {E : gE} {ws : va_W} {q a : Nat} {f : TF} {amp : Int32} (h : ws[q]? = some (a, toneC f)) : CD E YX3_expected 0 0 [.ref a, .int amp] ws (some (.int (expP f amp))) ws := by
  refine cdV vX3_expected (Nat.le_of_ble_eq_true rfl) (lv0 := [(0, .ref a), (1, .int amp)]) rfl ?_
  refine ev_ss DX3_expected 1 0 (pc' := 1) (lv' := [(0, .ref _), (1, .int _)]) (st' := [.ref _]) rfl ?_
  refine ev_get DX3_expected 1 GX3 rfl (k0 := 7) (Nat.le_of_ble_eq_true rfl) fX3_15 h rfl ?_
  refine ev_ss DX3_expected 3 2 (pc' := 7) (lv' := [(0, .ref _), (1, .int _)]) (st' := [.ref _, .int _]) rfl ?_
  refine ev_get DX3_expected 5 GX3 rfl (k0 := 8) (Nat.le_of_ble_eq_true rfl) fX3_39 h rfl ?_
  refine ev_ss DX3_expected 1 6 (pc' := 11) (lv' := [(0, .ref _), (1, .int _)]) (st' := [.ref _, .int _, .int _]) rfl ?_
  refine ev_get DX3_expected 7 GX3 rfl (k0 := 5) (Nat.le_of_ble_eq_true rfl) fX3_33 h rfl ?_
  refine ev_ss DX3_expected 3 8 (pc' := 17) (lv' := [(0, .ref _), (1, .int _)]) (st' := [.ref _, .int _]) rfl ?_
  refine ev_get DX3_expected 11 GX3 rfl (k0 := 9) (Nat.le_of_ble_eq_true rfl) fX3_42 h rfl ?_
  refine ev_ss DX3_expected 1 12 (pc' := 21) (lv' := [(0, .ref _), (1, .int _)]) (st' := [.ref _, .int _, .int _]) rfl ?_
  refine ev_get DX3_expected 13 GX3 rfl (k0 := 6) (Nat.le_of_ble_eq_true rfl) fX3_36 h rfl ?_
  refine ev_ss DX3_expected 3 14 (pc' := 28) (lv' := [(0, .ref _), (1, .int _)]) (st' := [.int 64, .int _]) rfl ?_
  refine ev_idiv DX3_expected 17 rfl (by decide) ?_
  exact ev_iret DX3_expected 18 rfl rfl ⟨rfl, rfl⟩
set_option maxRecDepth 100000 in
set_option maxHeartbeats 4000000 in
theorem m_X3_amplitudeOf {E : gE} {ws : va_W} {q a : Nat} {f : TF} {v : Int32} (h : ws[q]? = some (a, toneC f)) : CD E YX3_amplitudeOf 0 0 [.ref a, .int v] ws (some (.int (ampP (f 10) v))) ws := by
  refine cdV vX3_amplitudeOf (Nat.le_of_ble_eq_true rfl) (lv0 := [(0, .ref a), (1, .int v)]) rfl ?_
  refine ev_ss DX3_amplitudeOf 7 0 (pc' := 7) (lv' := [(0, .ref _), (1, .int _)]) (st' := [.ref _, .int 1, .int _]) rfl ?_
  refine ev_get DX3_amplitudeOf 7 GX3 rfl (k0 := 10) (Nat.le_of_ble_eq_true rfl) fX3_45 h rfl ?_
  refine ev_ss DX3_amplitudeOf 4 8 (pc' := 16) (lv' := [(0, .ref _), (1, .int _)]) (st' := [.ref _, .int 256, .int _]) rfl ?_
  refine ev_get DX3_amplitudeOf 12 GX3 rfl (k0 := 10) (Nat.le_of_ble_eq_true rfl) fX3_45 h rfl ?_
  refine ev_ss DX3_amplitudeOf 2 13 (pc' := 21) (lv' := [(0, .ref _), (1, .int _)]) (st' := [.int _]) rfl ?_
  exact ev_iret DX3_amplitudeOf 15 rfl rfl ⟨rfl, rfl⟩
set_option maxRecDepth 100000 in
set_option maxHeartbeats 4000000 in
theorem m_X3_pass {E : gE} {ws : va_W} {q a : Nat} {f : TF} {x y : Int32} (h : ws[q]? = some (a, toneC f)) : CD E YX3_pass 0 0 [.ref a, .int x, .int y] ws none (ws.set q (a, toneC (passP f x y))) := by
  refine cdV vX3_pass (Nat.le_of_ble_eq_true rfl) (lv0 := [(0, .ref a), (1, .int x), (2, .int y)]) rfl ?_
  refine ev_ss DX3_pass 2 0 (pc' := 2) (lv' := [(0, .ref _), (1, .int _), (2, .int _)]) (st' := [.int 0, .ref _]) rfl ?_
  refine ev_put (fs' := [_, _, _, _, _, _, _, _, _, _, _, _, _, _, _, _, _, _]) DX3_pass 2 GX3 rfl (k0 := 4) (Nat.le_of_ble_eq_true rfl) fX3_30 rfl ⟨rfl, rfl⟩ h (Nat.le_of_ble_eq_true rfl) rfl rfl ?_
  refine ev_ss DX3_pass 2 3 (pc' := 7) (lv' := [(0, .ref _), (1, .int _), (2, .int _)]) (st' := [.ref _, .ref _]) rfl ?_
  refine ev_get DX3_pass 5 GX3 rfl (k0 := 5) (Nat.le_of_ble_eq_true rfl) fX3_33 (wset_get h) rfl ?_
  refine ev_put (fs' := [_, _, _, _, _, _, _, _, _, _, _, _, _, _, _, _, _, _]) DX3_pass 6 GX3 rfl (k0 := 6) (Nat.le_of_ble_eq_true rfl) fX3_36 rfl ⟨rfl, rfl⟩ (wset_get h) (Nat.le_of_ble_eq_true rfl) rfl wset_set ?_
  refine ev_ss DX3_pass 2 7 (pc' := 15) (lv' := [(0, .ref _), (1, .int _), (2, .int _)]) (st' := [.int _, .ref _]) rfl ?_
  refine ev_put (fs' := [_, _, _, _, _, _, _, _, _, _, _, _, _, _, _, _, _, _]) DX3_pass 9 GX3 rfl (k0 := 5) (Nat.le_of_ble_eq_true rfl) fX3_33 rfl ⟨rfl, rfl⟩ (wset_get h) (Nat.le_of_ble_eq_true rfl) rfl wset_set ?_
  refine ev_ss DX3_pass 2 10 (pc' := 20) (lv' := [(0, .ref _), (1, .int _), (2, .int _)]) (st' := [.ref _, .ref _]) rfl ?_
  refine ev_get DX3_pass 12 GX3 rfl (k0 := 16) (Nat.le_of_ble_eq_true rfl) fX3_60 (wset_get h) rfl ?_
  refine ev_put (fs' := [_, _, _, _, _, _, _, _, _, _, _, _, _, _, _, _, _, _]) DX3_pass 13 GX3 rfl (k0 := 17) (Nat.le_of_ble_eq_true rfl) fX3_63 rfl ⟨rfl, rfl⟩ (wset_get h) (Nat.le_of_ble_eq_true rfl) rfl wset_set ?_
  refine ev_ss DX3_pass 2 14 (pc' := 28) (lv' := [(0, .ref _), (1, .int _), (2, .int _)]) (st' := [.int _, .ref _]) rfl ?_
  refine ev_put (fs' := [_, _, _, _, _, _, _, _, _, _, _, _, _, _, _, _, _, _]) DX3_pass 16 GX3 rfl (k0 := 16) (Nat.le_of_ble_eq_true rfl) fX3_60 rfl ⟨rfl, rfl⟩ (wset_get h) (Nat.le_of_ble_eq_true rfl) rfl wset_set ?_
  exact ev_vret DX3_pass 17 rfl rfl ⟨rfl, rfl⟩
set_option maxRecDepth 100000 in
set_option maxHeartbeats 4000000 in
theorem m_X3_knowSignBefore {E : gE} {ws : va_W} {q a : Nat} {f : TF} (h : ws[q]? = some (a, toneC f)) : CD E YX3_knowSignBefore 0 0 [.ref a] ws none (ws.set q (a, toneC (knowP f))) := by
  refine cdV vX3_knowSignBefore (Nat.le_of_ble_eq_true rfl) (lv0 := [(0, .ref a)]) rfl ?_
  refine ev_ss DX3_knowSignBefore 2 0 (pc' := 2) (lv' := [(0, .ref _)]) (st' := [.ref _, .ref _]) rfl ?_
  refine ev_get DX3_knowSignBefore 2 GX3 rfl (k0 := 6) (Nat.le_of_ble_eq_true rfl) fX3_36 h rfl ?_
  refine ev_put (fs' := [_, _, _, _, _, _, _, _, _, _, _, _, _, _, _, _, _, _]) DX3_knowSignBefore 3 GX3 rfl (k0 := 17) (Nat.le_of_ble_eq_true rfl) fX3_63 rfl ⟨rfl, rfl⟩ h (Nat.le_of_ble_eq_true rfl) rfl rfl ?_
  exact ev_vret DX3_knowSignBefore 4 rfl rfl ⟨rfl, rfl⟩
set_option maxRecDepth 100000 in
set_option maxHeartbeats 4000000 in
theorem m_X3_loseAccent {E : gE} {ws : va_W} {q a : Nat} {f : TF} (h : ws[q]? = some (a, toneC f)) : CD E YX3_loseAccent 0 0 [.ref a] ws none (ws.set q (a, toneC (loseP f))) := by
  refine cdV vX3_loseAccent (Nat.le_of_ble_eq_true rfl) (lv0 := [(0, .ref a)]) rfl ?_
  refine ev_ss DX3_loseAccent 2 0 (pc' := 3) (lv' := [(0, .ref _)]) (st' := [.int 64, .ref _]) rfl ?_
  refine ev_put (fs' := [_, _, _, _, _, _, _, _, _, _, _, _, _, _, _, _, _, _]) DX3_loseAccent 2 GX3 rfl (k0 := 7) (Nat.le_of_ble_eq_true rfl) fX3_15 rfl ⟨rfl, rfl⟩ h (Nat.le_of_ble_eq_true rfl) rfl rfl ?_
  refine ev_ss DX3_loseAccent 2 3 (pc' := 8) (lv' := [(0, .ref _)]) (st' := [.int 0, .ref _]) rfl ?_
  refine ev_put (fs' := [_, _, _, _, _, _, _, _, _, _, _, _, _, _, _, _, _, _]) DX3_loseAccent 5 GX3 rfl (k0 := 8) (Nat.le_of_ble_eq_true rfl) fX3_39 rfl ⟨rfl, rfl⟩ (wset_get h) (Nat.le_of_ble_eq_true rfl) rfl wset_set ?_
  refine ev_ss DX3_loseAccent 2 6 (pc' := 13) (lv' := [(0, .ref _)]) (st' := [.int 0, .ref _]) rfl ?_
  refine ev_put (fs' := [_, _, _, _, _, _, _, _, _, _, _, _, _, _, _, _, _, _]) DX3_loseAccent 8 GX3 rfl (k0 := 9) (Nat.le_of_ble_eq_true rfl) fX3_42 rfl ⟨rfl, rfl⟩ (wset_get h) (Nat.le_of_ble_eq_true rfl) rfl wset_set ?_
  refine ev_ss DX3_loseAccent 2 9 (pc' := 18) (lv' := [(0, .ref _)]) (st' := [.int 0, .ref _]) rfl ?_
  refine ev_put (fs' := [_, _, _, _, _, _, _, _, _, _, _, _, _, _, _, _, _, _]) DX3_loseAccent 11 GX3 rfl (k0 := 10) (Nat.le_of_ble_eq_true rfl) fX3_45 rfl ⟨rfl, rfl⟩ (wset_get h) (Nat.le_of_ble_eq_true rfl) rfl wset_set ?_
  refine ev_ss DX3_loseAccent 2 12 (pc' := 23) (lv' := [(0, .ref _)]) (st' := [.int (-1), .ref _]) rfl ?_
  refine ev_put (fs' := [_, _, _, _, _, _, _, _, _, _, _, _, _, _, _, _, _, _]) DX3_loseAccent 14 GX3 rfl (k0 := 11) (Nat.le_of_ble_eq_true rfl) fX3_18 rfl ⟨rfl, rfl⟩ (wset_get h) (Nat.le_of_ble_eq_true rfl) rfl wset_set ?_
  refine ev_ss DX3_loseAccent 2 15 (pc' := 28) (lv' := [(0, .ref _)]) (st' := [.int 0, .ref _]) rfl ?_
  refine ev_put (fs' := [_, _, _, _, _, _, _, _, _, _, _, _, _, _, _, _, _, _]) DX3_loseAccent 17 GX3 rfl (k0 := 12) (Nat.le_of_ble_eq_true rfl) fX3_48 rfl ⟨rfl, rfl⟩ (wset_get h) (Nat.le_of_ble_eq_true rfl) rfl wset_set ?_
  exact ev_vret DX3_loseAccent 18 rfl rfl ⟨rfl, rfl⟩
set_option maxRecDepth 100000 in
set_option maxHeartbeats 4000000 in
theorem m_X3_held {E : gE} {ws : va_W} {v lo hi : Int32}  : CD E YX3_held 0 0 [.int v, .int lo, .int hi] ws (some (.int (heldP v lo hi))) ws := by
  refine cdS vX3_held (Nat.le_of_ble_eq_true rfl) (lv0 := [(0, .int v), (1, .int lo), (2, .int hi)]) rfl ?_
  refine ev_ss DX3_held 2 0 (pc' := 2) (lv' := [(0, .int _), (1, .int _), (2, .int _)]) (st' := [.int _, .int _]) rfl ?_
  refine ev_icge DX3_held 2 rfl (tgt := 7) (by decide) (fun c_1 => ?_) (fun c_1 => ?_)
  · refine ev_ss DX3_held 2 5 (pc' := 9) (lv' := [(0, .int _), (1, .int _), (2, .int _)]) (st' := [.int _, .int _]) rfl ?_
    refine ev_icle DX3_held 7 rfl (tgt := 16) (by decide) (fun c_2 => ?_) (fun c_2 => ?_)
    · refine ev_ss DX3_held 1 10 (pc' := 17) (lv' := [(0, .int _), (1, .int _), (2, .int _)]) (st' := [.int _]) rfl ?_
      exact ev_iret DX3_held 11 rfl rfl ⟨vI ((if_pos c_1).trans (if_pos c_2)), rfl⟩
    · refine ev_ss DX3_held 1 8 (pc' := 13) (lv' := [(0, .int _), (1, .int _), (2, .int _)]) (st' := [.int _]) rfl ?_
      refine ev_goto DX3_held 9 rfl (tgt := 17) (by decide) ?_
      exact ev_iret DX3_held 11 rfl rfl ⟨vI ((if_pos c_1).trans (if_neg c_2)), rfl⟩
  · refine ev_ss DX3_held 1 3 (pc' := 6) (lv' := [(0, .int _), (1, .int _), (2, .int _)]) (st' := [.int _]) rfl ?_
    exact ev_iret DX3_held 4 rfl rfl ⟨vI (if_neg c_1), rfl⟩
set_option maxRecDepth 100000 in
set_option maxHeartbeats 4000000 in
theorem m_X3_roomWith {E : gE} {ws : va_W} {q a : Nat} {f : TF} {m : Int32} (h : ws[q]? = some (a, toneC f)) : CD E YX3_roomWith 0 0 [.ref a, .int m] ws (some (.int (roomP (f 7) m))) ws := by
  refine cdV vX3_roomWith (Nat.le_of_ble_eq_true rfl) (lv0 := [(0, .ref a), (1, .int m)]) rfl ?_
  refine ev_ss DX3_roomWith 4 0 (pc' := 6) (lv' := [(0, .ref _), (1, .int _)]) (st' := [.ref _, .int _]) rfl ?_
  refine ev_get DX3_roomWith 4 GX3 rfl (k0 := 7) (Nat.le_of_ble_eq_true rfl) fX3_15 h rfl ?_
  refine ev_ss DX3_roomWith 2 5 (pc' := 12) (lv' := [(0, .ref _), (1, .int _)]) (st' := [.int 64, .int _]) rfl ?_
  refine ev_idiv DX3_roomWith 7 rfl (by decide) ?_
  exact ev_iret DX3_roomWith 8 rfl rfl ⟨rfl, rfl⟩
set_option maxRecDepth 100000 in
set_option maxHeartbeats 4000000 in
theorem m_X3_decide {E : gE} {ws : va_W} {q a : Nat} {f : TF} {r : Int32} (h : ws[q]? = some (a, toneC f)) (hg : ¬ f 7 ≤ 0) : CD E YX3_decide 0 0 [.ref a, .int r] ws (some (.int (decP f r))) ws := by
  refine cdV vX3_decide (Nat.le_of_ble_eq_true rfl) (lv0 := [(0, .ref a), (1, .int r)]) rfl ?_
  refine ev_ss DX3_decide 2 0 (pc' := 2) (lv' := [(0, .ref _), (1, .int _)]) (st' := [.ref _, .int _]) rfl ?_
  refine ev_get DX3_decide 2 GX3 rfl (k0 := 8) (Nat.le_of_ble_eq_true rfl) fX3_39 h rfl ?_
  refine ev_ss DX3_decide 1 3 (pc' := 6) (lv' := [(0, .ref _), (1, .int _)]) (st' := [.ref _, .int _, .int _]) rfl ?_
  refine ev_get DX3_decide 4 GX3 rfl (k0 := 16) (Nat.le_of_ble_eq_true rfl) fX3_60 h rfl ?_
  refine ev_ss DX3_decide 2 5 (pc' := 11) (lv' := [(0, .ref _), (1, .int _)]) (st' := [.ref _, .int _, .int _]) rfl ?_
  refine ev_get DX3_decide 7 GX3 rfl (k0 := 9) (Nat.le_of_ble_eq_true rfl) fX3_42 h rfl ?_
  refine ev_ss DX3_decide 1 8 (pc' := 15) (lv' := [(0, .ref _), (1, .int _)]) (st' := [.ref _, .int _, .int _, .int _]) rfl ?_
  refine ev_get DX3_decide 9 GX3 rfl (k0 := 17) (Nat.le_of_ble_eq_true rfl) fX3_63 h rfl ?_
  refine ev_ss DX3_decide 3 10 (pc' := 22) (lv' := [(0, .ref _), (1, .int _)]) (st' := [.int 64, .int _, .int _]) rfl ?_
  refine ev_idiv DX3_decide 13 rfl (by decide) ?_
  refine ev_ss DX3_decide 3 14 (pc' := 26) (lv' := [(2, .int _), (0, .ref _), (1, .int _)]) (st' := [.ref _]) rfl ?_
  refine ev_get DX3_decide 17 GX3 rfl (k0 := 7) (Nat.le_of_ble_eq_true rfl) fX3_15 h rfl ?_
  refine ev_ifle DX3_decide 18 rfl (tgt := 44) (by decide) (fun h => absurd h hg) (fun _ => ?_)
  refine ev_ss DX3_decide 4 19 (pc' := 37) (lv' := [(2, .int _), (0, .ref _), (1, .int _)]) (st' := [.ref _, .int _]) rfl ?_
  refine ev_get DX3_decide 23 GX3 rfl (k0 := 7) (Nat.le_of_ble_eq_true rfl) fX3_15 h rfl ?_
  refine ev_idiv DX3_decide 24 rfl (fun e => hg (by rw [e]; decide)) ?_
  refine ev_goto DX3_decide 25 rfl (tgt := 45) (by decide) ?_
  refine ev_ss DX3_decide 8 27 (pc' := 56) (lv' := [(3, .int _), (2, .int _), (0, .ref _), (1, .int _)]) (st' := [.ref _, .int 9, .int _]) rfl ?_
  refine ev_get DX3_decide 35 GX3 rfl (k0 := 10) (Nat.le_of_ble_eq_true rfl) fX3_45 h rfl ?_
  refine ev_ss DX3_decide 7 36 (pc' := 68) (lv' := [(4, .int _), (3, .int _), (2, .int _), (0, .ref _), (1, .int _)]) (st' := [.ref _, .int 1, .int _, .int 0]) rfl ?_
  refine ev_get DX3_decide 43 GX3 rfl (k0 := 10) (Nat.le_of_ble_eq_true rfl) fX3_45 h rfl ?_
  refine ev_ss DX3_decide 3 44 (pc' := 74) (lv' := [(4, .int _), (3, .int _), (2, .int _), (0, .ref _), (1, .int _)]) (st' := [.int _, .int _, .int 0]) rfl ?_
  refine ev_min DX3_decide 47 rfl qX3_66 (Nat.le_of_ble_eq_true rfl) (Nat.le_of_ble_eq_true rfl) ?_
  refine ev_max DX3_decide 48 rfl qX3_72 (Nat.le_of_ble_eq_true rfl) (Nat.le_of_ble_eq_true rfl) ?_
  exact ev_iret DX3_decide 49 rfl rfl ⟨rfl, rfl⟩
set_option maxRecDepth 100000 in
set_option maxHeartbeats 4000000 in
theorem m_X3_step {E : gE} {ws : va_W} {pr p : Int32} (hp : ¬ p ≤ 0) (hp2 : ¬ (128 : Int32) * p = 0) : CD E YX3_step 0 0 [.int pr, .int p] ws (some (.int (stepP pr p))) ws := by
  refine cdS vX3_step (Nat.le_of_ble_eq_true rfl) (lv0 := [(0, .int pr), (1, .int p)]) rfl ?_
  refine ev_ss DX3_step 1 0 (pc' := 1) (lv' := [(0, .int _), (1, .int _)]) (st' := [.int _]) rfl ?_
  refine ev_ifle DX3_step 1 rfl (tgt := 14) (by decide) (fun h => absurd h hp) (fun _ => ?_)
  refine ev_ss DX3_step 4 2 (pc' := 10) (lv' := [(0, .int _), (1, .int _)]) (st' := [.int _, .int _]) rfl ?_
  refine ev_idiv DX3_step 6 rfl hp2 ?_
  refine ev_goto DX3_step 7 rfl (tgt := 15) (by decide) ?_
  exact ev_iret DX3_step 9 rfl rfl ⟨rfl, rfl⟩
set_option maxRecDepth 100000 in
set_option maxHeartbeats 4000000 in
theorem m_X3_improve {E : gE} {ws : va_W} {q a : Nat} {f : TF} {er amp p : Int32} (h : ws[q]? = some (a, toneC f)) (hp : ¬ p ≤ 0) (hp2 : ¬ (128 : Int32) * p = 0) : CD E YX3_improve 0 0 [.ref a, .int er, .int amp, .int p] ws none (ws.set q (a, toneC (impP f er amp p))) := by
  refine cdV vX3_improve (Nat.le_of_ble_eq_true rfl) (lv0 := [(0, .ref a), (1, .int er), (2, .int amp), (3, .int p)]) rfl ?_
  refine ev_ss DX3_improve 2 0 (pc' := 2) (lv' := [(0, .ref _), (1, .int _), (2, .int _), (3, .int _)]) (st' := [.ref _, .ref _]) rfl ?_
  refine ev_get DX3_improve 2 GX3 rfl (k0 := 7) (Nat.le_of_ble_eq_true rfl) fX3_15 h rfl ?_
  refine ev_ss DX3_improve 4 3 (pc' := 9) (lv' := [(0, .ref _), (1, .int _), (2, .int _), (3, .int _)]) (st' := [.int _, .int _, .int _, .ref _]) rfl ?_
  refine ev_cS DX3_improve 7 (m_X3_step hp hp2) vX3_step rfl qX3_75 rfl (hd_of rfl rfl rfl rfl) ?_
  refine ev_ss DX3_improve 3 8 (pc' := 18) (lv' := [(0, .ref _), (1, .int _), (2, .int _), (3, .int _)]) (st' := [.int 128, .int 8, .int _, .ref _]) rfl ?_
  refine ev_cS DX3_improve 11 m_X3_held vX3_held rfl qX3_78 rfl (hd_of rfl rfl rfl rfl) ?_
  refine ev_put (fs' := [_, _, _, _, _, _, _, _, _, _, _, _, _, _, _, _, _, _]) DX3_improve 12 GX3 rfl (k0 := 7) (Nat.le_of_ble_eq_true rfl) fX3_15 rfl ⟨rfl, rfl⟩ h (Nat.le_of_ble_eq_true rfl) rfl rfl ?_
  refine ev_ss DX3_improve 2 13 (pc' := 26) (lv' := [(0, .ref _), (1, .int _), (2, .int _), (3, .int _)]) (st' := [.ref _, .ref _]) rfl ?_
  refine ev_get DX3_improve 15 GX3 rfl (k0 := 8) (Nat.le_of_ble_eq_true rfl) fX3_39 (wset_get h) rfl ?_
  refine ev_ss DX3_improve 2 16 (pc' := 31) (lv' := [(0, .ref _), (1, .int _), (2, .int _), (3, .int _)]) (st' := [.ref _, .int _, .int _, .ref _]) rfl ?_
  refine ev_get DX3_improve 18 GX3 rfl (k0 := 5) (Nat.le_of_ble_eq_true rfl) fX3_33 (wset_get h) rfl ?_
  refine ev_ss DX3_improve 2 19 (pc' := 36) (lv' := [(0, .ref _), (1, .int _), (2, .int _), (3, .int _)]) (st' := [.int _, .int _, .int _, .ref _]) rfl ?_
  refine ev_cS DX3_improve 21 (m_X3_step hp hp2) vX3_step rfl qX3_75 rfl (hd_of rfl rfl rfl rfl) ?_
  refine ev_ss DX3_improve 3 22 (pc' := 44) (lv' := [(0, .ref _), (1, .int _), (2, .int _), (3, .int _)]) (st' := [.int 48, .int (-48), .int _, .ref _]) rfl ?_
  refine ev_cS DX3_improve 25 m_X3_held vX3_held rfl qX3_78 rfl (hd_of rfl rfl rfl rfl) ?_
  refine ev_put (fs' := [_, _, _, _, _, _, _, _, _, _, _, _, _, _, _, _, _, _]) DX3_improve 26 GX3 rfl (k0 := 8) (Nat.le_of_ble_eq_true rfl) fX3_39 rfl ⟨rfl, rfl⟩ (wset_get h) (Nat.le_of_ble_eq_true rfl) rfl wset_set ?_
  refine ev_ss DX3_improve 2 27 (pc' := 52) (lv' := [(0, .ref _), (1, .int _), (2, .int _), (3, .int _)]) (st' := [.ref _, .ref _]) rfl ?_
  refine ev_get DX3_improve 29 GX3 rfl (k0 := 9) (Nat.le_of_ble_eq_true rfl) fX3_42 (wset_get h) rfl ?_
  refine ev_ss DX3_improve 2 30 (pc' := 57) (lv' := [(0, .ref _), (1, .int _), (2, .int _), (3, .int _)]) (st' := [.ref _, .int _, .int _, .ref _]) rfl ?_
  refine ev_get DX3_improve 32 GX3 rfl (k0 := 6) (Nat.le_of_ble_eq_true rfl) fX3_36 (wset_get h) rfl ?_
  refine ev_ss DX3_improve 2 33 (pc' := 62) (lv' := [(0, .ref _), (1, .int _), (2, .int _), (3, .int _)]) (st' := [.int _, .int _, .int _, .ref _]) rfl ?_
  refine ev_cS DX3_improve 35 (m_X3_step hp hp2) vX3_step rfl qX3_75 rfl (hd_of rfl rfl rfl rfl) ?_
  refine ev_ss DX3_improve 3 36 (pc' := 70) (lv' := [(0, .ref _), (1, .int _), (2, .int _), (3, .int _)]) (st' := [.int 48, .int (-48), .int _, .ref _]) rfl ?_
  refine ev_cS DX3_improve 39 m_X3_held vX3_held rfl qX3_78 rfl (hd_of rfl rfl rfl rfl) ?_
  refine ev_put (fs' := [_, _, _, _, _, _, _, _, _, _, _, _, _, _, _, _, _, _]) DX3_improve 40 GX3 rfl (k0 := 9) (Nat.le_of_ble_eq_true rfl) fX3_42 rfl ⟨rfl, rfl⟩ (wset_get h) (Nat.le_of_ble_eq_true rfl) rfl wset_set ?_
  exact ev_vret DX3_improve 41 rfl rfl ⟨rfl, rfl⟩
set_option maxRecDepth 100000 in
set_option maxHeartbeats 4000000 in
theorem m_X3_bitsFor {E : gE} {ws : va_W} {q a : Nat} {f : TF} {wo mg : Int32} (h : ws[q]? = some (a, toneC f)) : CD E YX3_bitsFor 0 0 [.ref a, .int wo, .int mg] ws (some (.int (bfP (f 7) (wo * mg / 4)))) ws := by
  refine cdV vX3_bitsFor (Nat.le_of_ble_eq_true rfl) (lv0 := [(0, .ref a), (1, .int wo), (2, .int mg)]) rfl ?_
  refine ev_ss DX3_bitsFor 4 0 (pc' := 4) (lv' := [(0, .ref _), (1, .int _), (2, .int _)]) (st' := [.int 4, .int _]) rfl ?_
  refine ev_idiv DX3_bitsFor 4 rfl (by decide) ?_
  refine ev_ss DX3_bitsFor 4 5 (pc' := 11) (lv' := [(4, .int 4), (3, .int _), (0, .ref _), (1, .int _), (2, .int _)]) (st' := [.int 4]) rfl ?_
  refine ev_ifle DX3_bitsFor 9 rfl (tgt := 33) (by decide) (fun h => absurd h (by decide)) (fun _ => ?_)
  refine ev_ss DX3_bitsFor 3 10 (pc' := 18) (lv' := [(4, .int 4), (3, .int _), (0, .ref _), (1, .int _), (2, .int _)]) (st' := [.int 4, .ref _, .int _]) rfl ?_
  refine ev_cV DX3_bitsFor 13 (m_X3_roomWith h) vX3_roomWith rfl qX3_85 rfl h rfl (hd_of rfl rfl rfl rfl) ?_
  refine ev_icge DX3_bitsFor 14 rfl (tgt := 27) (by decide) (fun c_2 => ?_) (fun c_2 => ?_)
  · refine ev_ss DX3_bitsFor 1 17 (pc' := 30) (lv' := [(4, .int 3), (3, .int _), (0, .ref _), (1, .int _), (2, .int _)]) (st' := []) rfl ?_
    refine ev_goto DX3_bitsFor 18 rfl (tgt := 9) (by decide) ?_
    refine ev_ss DX3_bitsFor 1 8 (pc' := 11) (lv' := [(4, .int 3), (3, .int _), (0, .ref _), (1, .int _), (2, .int _)]) (st' := [.int 3]) rfl ?_
    refine ev_ifle DX3_bitsFor 9 rfl (tgt := 33) (by decide) (fun h => absurd h (by decide)) (fun _ => ?_)
    refine ev_ss DX3_bitsFor 3 10 (pc' := 18) (lv' := [(4, .int 3), (3, .int _), (0, .ref _), (1, .int _), (2, .int _)]) (st' := [.int 3, .ref _, .int _]) rfl ?_
    refine ev_cV DX3_bitsFor 13 (m_X3_roomWith h) vX3_roomWith rfl qX3_85 rfl h rfl (hd_of rfl rfl rfl rfl) ?_
    refine ev_icge DX3_bitsFor 14 rfl (tgt := 27) (by decide) (fun c_4 => ?_) (fun c_4 => ?_)
    · refine ev_ss DX3_bitsFor 1 17 (pc' := 30) (lv' := [(4, .int 2), (3, .int _), (0, .ref _), (1, .int _), (2, .int _)]) (st' := []) rfl ?_
      refine ev_goto DX3_bitsFor 18 rfl (tgt := 9) (by decide) ?_
      refine ev_ss DX3_bitsFor 1 8 (pc' := 11) (lv' := [(4, .int 2), (3, .int _), (0, .ref _), (1, .int _), (2, .int _)]) (st' := [.int 2]) rfl ?_
      refine ev_ifle DX3_bitsFor 9 rfl (tgt := 33) (by decide) (fun h => absurd h (by decide)) (fun _ => ?_)
      refine ev_ss DX3_bitsFor 3 10 (pc' := 18) (lv' := [(4, .int 2), (3, .int _), (0, .ref _), (1, .int _), (2, .int _)]) (st' := [.int 2, .ref _, .int _]) rfl ?_
      refine ev_cV DX3_bitsFor 13 (m_X3_roomWith h) vX3_roomWith rfl qX3_85 rfl h rfl (hd_of rfl rfl rfl rfl) ?_
      refine ev_icge DX3_bitsFor 14 rfl (tgt := 27) (by decide) (fun c_6 => ?_) (fun c_6 => ?_)
      · refine ev_ss DX3_bitsFor 1 17 (pc' := 30) (lv' := [(4, .int 1), (3, .int _), (0, .ref _), (1, .int _), (2, .int _)]) (st' := []) rfl ?_
        refine ev_goto DX3_bitsFor 18 rfl (tgt := 9) (by decide) ?_
        refine ev_ss DX3_bitsFor 1 8 (pc' := 11) (lv' := [(4, .int 1), (3, .int _), (0, .ref _), (1, .int _), (2, .int _)]) (st' := [.int 1]) rfl ?_
        refine ev_ifle DX3_bitsFor 9 rfl (tgt := 33) (by decide) (fun h => absurd h (by decide)) (fun _ => ?_)
        refine ev_ss DX3_bitsFor 3 10 (pc' := 18) (lv' := [(4, .int 1), (3, .int _), (0, .ref _), (1, .int _), (2, .int _)]) (st' := [.int 1, .ref _, .int _]) rfl ?_
        refine ev_cV DX3_bitsFor 13 (m_X3_roomWith h) vX3_roomWith rfl qX3_85 rfl h rfl (hd_of rfl rfl rfl rfl) ?_
        refine ev_icge DX3_bitsFor 14 rfl (tgt := 27) (by decide) (fun c_8 => ?_) (fun c_8 => ?_)
        · refine ev_ss DX3_bitsFor 1 17 (pc' := 30) (lv' := [(4, .int 0), (3, .int _), (0, .ref _), (1, .int _), (2, .int _)]) (st' := []) rfl ?_
          refine ev_goto DX3_bitsFor 18 rfl (tgt := 9) (by decide) ?_
          refine ev_ss DX3_bitsFor 1 8 (pc' := 11) (lv' := [(4, .int 0), (3, .int _), (0, .ref _), (1, .int _), (2, .int _)]) (st' := [.int 0]) rfl ?_
          refine ev_ifle DX3_bitsFor 9 rfl (tgt := 33) (by decide) (fun _ => ?_) (fun h => h.elim (by decide))
          refine ev_ss DX3_bitsFor 1 19 (pc' := 34) (lv' := [(4, .int 0), (3, .int _), (0, .ref _), (1, .int _), (2, .int _)]) (st' := [.int 0]) rfl ?_
          exact ev_iret DX3_bitsFor 20 rfl rfl ⟨vI ((if_pos c_2).trans ((if_pos c_4).trans ((if_pos c_6).trans (if_pos c_8)))), rfl⟩
        · refine ev_ss DX3_bitsFor 1 15 (pc' := 26) (lv' := [(4, .int 1), (3, .int _), (0, .ref _), (1, .int _), (2, .int _)]) (st' := [.int 1]) rfl ?_
          exact ev_iret DX3_bitsFor 16 rfl rfl ⟨vI ((if_pos c_2).trans ((if_pos c_4).trans ((if_pos c_6).trans (if_neg c_8)))), rfl⟩
      · refine ev_ss DX3_bitsFor 1 15 (pc' := 26) (lv' := [(4, .int 2), (3, .int _), (0, .ref _), (1, .int _), (2, .int _)]) (st' := [.int 2]) rfl ?_
        exact ev_iret DX3_bitsFor 16 rfl rfl ⟨vI ((if_pos c_2).trans ((if_pos c_4).trans (if_neg c_6))), rfl⟩
    · refine ev_ss DX3_bitsFor 1 15 (pc' := 26) (lv' := [(4, .int 3), (3, .int _), (0, .ref _), (1, .int _), (2, .int _)]) (st' := [.int 3]) rfl ?_
      exact ev_iret DX3_bitsFor 16 rfl rfl ⟨vI ((if_pos c_2).trans (if_neg c_4)), rfl⟩
  · refine ev_ss DX3_bitsFor 1 15 (pc' := 26) (lv' := [(4, .int 4), (3, .int _), (0, .ref _), (1, .int _), (2, .int _)]) (st' := [.int 4]) rfl ?_
    exact ev_iret DX3_bitsFor 16 rfl rfl ⟨vI (if_neg c_2), rfl⟩
set_option maxRecDepth 100000 in
set_option maxHeartbeats 4000000 in
theorem m_X3_endLesson {E : gE} {ws : va_W} {q a : Nat} {f : TF} {wo mg : Int32} (h : ws[q]? = some (a, toneC f)) : CD E YX3_endLesson 0 0 [.ref a, .int wo, .int mg] ws none (ws.set q (a, toneC (endP f wo mg))) := by
  refine cdV vX3_endLesson (Nat.le_of_ble_eq_true rfl) (lv0 := [(0, .ref a), (1, .int wo), (2, .int mg)]) rfl ?_
  refine ev_ss DX3_endLesson 2 0 (pc' := 2) (lv' := [(0, .ref _), (1, .int _), (2, .int _)]) (st' := [.int _, .ref _]) rfl ?_
  refine ev_put (fs' := [_, _, _, _, _, _, _, _, _, _, _, _, _, _, _, _, _, _]) DX3_endLesson 2 GX3 rfl (k0 := 11) (Nat.le_of_ble_eq_true rfl) fX3_18 rfl ⟨rfl, rfl⟩ h (Nat.le_of_ble_eq_true rfl) rfl rfl ?_
  refine ev_ss DX3_endLesson 4 3 (pc' := 9) (lv' := [(0, .ref _), (1, .int _), (2, .int _)]) (st' := [.int _, .int _, .ref _, .ref _]) rfl ?_
  refine ev_cV DX3_endLesson 7 (m_X3_bitsFor (f := upd f 11 wo) (wo := wo) (mg := mg) (wset_get h)) vX3_bitsFor rfl qX3_82 rfl (wset_get h) rfl (hd_of rfl rfl rfl rfl) ?_
  refine ev_put (fs' := [_, _, _, _, _, _, _, _, _, _, _, _, _, _, _, _, _, _]) DX3_endLesson 8 GX3 rfl (k0 := 10) (Nat.le_of_ble_eq_true rfl) fX3_45 rfl ⟨rfl, rfl⟩ (wset_get h) (Nat.le_of_ble_eq_true rfl) rfl wset_set ?_
  refine ev_ss DX3_endLesson 2 9 (pc' := 17) (lv' := [(0, .ref _), (1, .int _), (2, .int _)]) (st' := [.int 0, .ref _]) rfl ?_
  refine ev_put (fs' := [_, _, _, _, _, _, _, _, _, _, _, _, _, _, _, _, _, _]) DX3_endLesson 11 GX3 rfl (k0 := 12) (Nat.le_of_ble_eq_true rfl) fX3_48 rfl ⟨rfl, rfl⟩ (wset_get h) (Nat.le_of_ble_eq_true rfl) rfl wset_set ?_
  exact ev_vret DX3_endLesson 12 rfl rfl ⟨rfl, rfl⟩
set_option maxRecDepth 100000 in
set_option maxHeartbeats 4000000 in
theorem m_X3_misheardWith {E : gE} {ws : va_W} {q a : Nat} {f : TF} {m : Int32} (h : ws[q]? = some (a, toneC f)) : CD E YX3_misheardWith 0 0 [.ref a, .int m] ws (some (.int (misP f m))) ws := by
  refine cdV vX3_misheardWith (Nat.le_of_ble_eq_true rfl) (lv0 := [(0, .ref a), (1, .int m)]) rfl ?_
  refine ev_ss DX3_misheardWith 7 0 (pc' := 11) (lv' := [(2, .int _), (0, .ref _), (1, .int _)]) (st' := [.ref _]) rfl ?_
  refine ev_get DX3_misheardWith 7 GX3 rfl (k0 := 1) (Nat.le_of_ble_eq_true rfl) fX3_21 h rfl ?_
  refine ev_ss DX3_misheardWith 1 8 (pc' := 15) (lv' := [(2, .int _), (0, .ref _), (1, .int _)]) (st' := [.ref _, .int _]) rfl ?_
  refine ev_get DX3_misheardWith 9 GX3 rfl (k0 := 8) (Nat.le_of_ble_eq_true rfl) fX3_39 h rfl ?_
  refine ev_ss DX3_misheardWith 1 10 (pc' := 19) (lv' := [(2, .int _), (0, .ref _), (1, .int _)]) (st' := [.int _]) rfl ?_
  refine ev_abs DX3_misheardWith 11 rfl qX3_92 (Nat.le_of_ble_eq_true rfl) (Nat.le_of_ble_eq_true rfl) ?_
  refine ev_ss DX3_misheardWith 1 12 (pc' := 23) (lv' := [(2, .int _), (0, .ref _), (1, .int _)]) (st' := [.ref _, .int _]) rfl ?_
  refine ev_get DX3_misheardWith 13 GX3 rfl (k0 := 2) (Nat.le_of_ble_eq_true rfl) fX3_24 h rfl ?_
  refine ev_ss DX3_misheardWith 1 14 (pc' := 27) (lv' := [(2, .int _), (0, .ref _), (1, .int _)]) (st' := [.ref _, .int _, .int _]) rfl ?_
  refine ev_get DX3_misheardWith 15 GX3 rfl (k0 := 9) (Nat.le_of_ble_eq_true rfl) fX3_42 h rfl ?_
  refine ev_ss DX3_misheardWith 1 16 (pc' := 31) (lv' := [(2, .int _), (0, .ref _), (1, .int _)]) (st' := [.int _, .int _]) rfl ?_
  refine ev_abs DX3_misheardWith 17 rfl qX3_92 (Nat.le_of_ble_eq_true rfl) (Nat.le_of_ble_eq_true rfl) ?_
  refine ev_ss DX3_misheardWith 3 18 (pc' := 37) (lv' := [(3, .int _), (2, .int _), (0, .ref _), (1, .int _)]) (st' := [.ref _]) rfl ?_
  refine ev_get DX3_misheardWith 21 GX3 rfl (k0 := 0) (Nat.le_of_ble_eq_true rfl) fX3_9 h rfl ?_
  refine ev_ss DX3_misheardWith 1 22 (pc' := 41) (lv' := [(3, .int _), (2, .int _), (0, .ref _), (1, .int _)]) (st' := [.ref _, .int _]) rfl ?_
  refine ev_get DX3_misheardWith 23 GX3 rfl (k0 := 7) (Nat.le_of_ble_eq_true rfl) fX3_15 h rfl ?_
  refine ev_ss DX3_misheardWith 1 24 (pc' := 45) (lv' := [(3, .int _), (2, .int _), (0, .ref _), (1, .int _)]) (st' := [.int _]) rfl ?_
  refine ev_abs DX3_misheardWith 25 rfl qX3_92 (Nat.le_of_ble_eq_true rfl) (Nat.le_of_ble_eq_true rfl) ?_
  refine ev_ss DX3_misheardWith 7 26 (pc' := 58) (lv' := [(3, .int _), (2, .int _), (0, .ref _), (1, .int _)]) (st' := [.int 64, .int _]) rfl ?_
  refine ev_idiv DX3_misheardWith 33 rfl (by decide) ?_
  exact ev_iret DX3_misheardWith 34 rfl rfl ⟨rfl, rfl⟩
set_option maxRecDepth 100000 in
set_option maxHeartbeats 4000000 in
theorem m_X3_sureBits {E : gE} {ws : va_W} {q a : Nat} {f : TF} (h : ws[q]? = some (a, toneC f)) : CD E YX3_sureBits 0 0 [.ref a] ws (some (.int (surP f))) ws := by
  refine cdV vX3_sureBits (Nat.le_of_ble_eq_true rfl) (lv0 := [(0, .ref a)]) rfl ?_
  refine ev_ss DX3_sureBits 3 0 (pc' := 3) (lv' := [(1, .int 4), (0, .ref _)]) (st' := [.int 4]) rfl ?_
  refine ev_ifle DX3_sureBits 3 rfl (tgt := 34) (by decide) (fun h => absurd h (by decide)) (fun _ => ?_)
  refine ev_ss DX3_sureBits 2 4 (pc' := 8) (lv' := [(1, .int 4), (0, .ref _)]) (st' := [.int 4, .ref _]) rfl ?_
  refine ev_cV DX3_sureBits 6 (m_X3_misheardWith h) vX3_misheardWith rfl qX3_89 rfl h rfl (hd_of rfl rfl rfl rfl) ?_
  refine ev_ss DX3_sureBits 1 7 (pc' := 12) (lv' := [(1, .int 4), (0, .ref _)]) (st' := [.ref _, .int _]) rfl ?_
  refine ev_get DX3_sureBits 8 GX3 rfl (k0 := 3) (Nat.le_of_ble_eq_true rfl) fX3_27 h rfl ?_
  refine ev_ss DX3_sureBits 5 9 (pc' := 20) (lv' := [(1, .int 4), (0, .ref _)]) (st' := [.int 4, .ref _, .int _]) rfl ?_
  refine ev_cV DX3_sureBits 14 (m_X3_roomWith h) vX3_roomWith rfl qX3_85 rfl h rfl (hd_of rfl rfl rfl rfl) ?_
  refine ev_icge DX3_sureBits 15 rfl (tgt := 28) (by decide) (fun c_2 => ?_) (fun c_2 => ?_)
  · refine ev_ss DX3_sureBits 1 18 (pc' := 31) (lv' := [(1, .int 3), (0, .ref _)]) (st' := []) rfl ?_
    refine ev_goto DX3_sureBits 19 rfl (tgt := 2) (by decide) ?_
    refine ev_ss DX3_sureBits 1 2 (pc' := 3) (lv' := [(1, .int 3), (0, .ref _)]) (st' := [.int 3]) rfl ?_
    refine ev_ifle DX3_sureBits 3 rfl (tgt := 34) (by decide) (fun h => absurd h (by decide)) (fun _ => ?_)
    refine ev_ss DX3_sureBits 2 4 (pc' := 8) (lv' := [(1, .int 3), (0, .ref _)]) (st' := [.int 3, .ref _]) rfl ?_
    refine ev_cV DX3_sureBits 6 (m_X3_misheardWith h) vX3_misheardWith rfl qX3_89 rfl h rfl (hd_of rfl rfl rfl rfl) ?_
    refine ev_ss DX3_sureBits 1 7 (pc' := 12) (lv' := [(1, .int 3), (0, .ref _)]) (st' := [.ref _, .int _]) rfl ?_
    refine ev_get DX3_sureBits 8 GX3 rfl (k0 := 3) (Nat.le_of_ble_eq_true rfl) fX3_27 h rfl ?_
    refine ev_ss DX3_sureBits 5 9 (pc' := 20) (lv' := [(1, .int 3), (0, .ref _)]) (st' := [.int 3, .ref _, .int _]) rfl ?_
    refine ev_cV DX3_sureBits 14 (m_X3_roomWith h) vX3_roomWith rfl qX3_85 rfl h rfl (hd_of rfl rfl rfl rfl) ?_
    refine ev_icge DX3_sureBits 15 rfl (tgt := 28) (by decide) (fun c_4 => ?_) (fun c_4 => ?_)
    · refine ev_ss DX3_sureBits 1 18 (pc' := 31) (lv' := [(1, .int 2), (0, .ref _)]) (st' := []) rfl ?_
      refine ev_goto DX3_sureBits 19 rfl (tgt := 2) (by decide) ?_
      refine ev_ss DX3_sureBits 1 2 (pc' := 3) (lv' := [(1, .int 2), (0, .ref _)]) (st' := [.int 2]) rfl ?_
      refine ev_ifle DX3_sureBits 3 rfl (tgt := 34) (by decide) (fun h => absurd h (by decide)) (fun _ => ?_)
      refine ev_ss DX3_sureBits 2 4 (pc' := 8) (lv' := [(1, .int 2), (0, .ref _)]) (st' := [.int 2, .ref _]) rfl ?_
      refine ev_cV DX3_sureBits 6 (m_X3_misheardWith h) vX3_misheardWith rfl qX3_89 rfl h rfl (hd_of rfl rfl rfl rfl) ?_
      refine ev_ss DX3_sureBits 1 7 (pc' := 12) (lv' := [(1, .int 2), (0, .ref _)]) (st' := [.ref _, .int _]) rfl ?_
      refine ev_get DX3_sureBits 8 GX3 rfl (k0 := 3) (Nat.le_of_ble_eq_true rfl) fX3_27 h rfl ?_
      refine ev_ss DX3_sureBits 5 9 (pc' := 20) (lv' := [(1, .int 2), (0, .ref _)]) (st' := [.int 2, .ref _, .int _]) rfl ?_
      refine ev_cV DX3_sureBits 14 (m_X3_roomWith h) vX3_roomWith rfl qX3_85 rfl h rfl (hd_of rfl rfl rfl rfl) ?_
      refine ev_icge DX3_sureBits 15 rfl (tgt := 28) (by decide) (fun c_6 => ?_) (fun c_6 => ?_)
      · refine ev_ss DX3_sureBits 1 18 (pc' := 31) (lv' := [(1, .int 1), (0, .ref _)]) (st' := []) rfl ?_
        refine ev_goto DX3_sureBits 19 rfl (tgt := 2) (by decide) ?_
        refine ev_ss DX3_sureBits 1 2 (pc' := 3) (lv' := [(1, .int 1), (0, .ref _)]) (st' := [.int 1]) rfl ?_
        refine ev_ifle DX3_sureBits 3 rfl (tgt := 34) (by decide) (fun h => absurd h (by decide)) (fun _ => ?_)
        refine ev_ss DX3_sureBits 2 4 (pc' := 8) (lv' := [(1, .int 1), (0, .ref _)]) (st' := [.int 1, .ref _]) rfl ?_
        refine ev_cV DX3_sureBits 6 (m_X3_misheardWith h) vX3_misheardWith rfl qX3_89 rfl h rfl (hd_of rfl rfl rfl rfl) ?_
        refine ev_ss DX3_sureBits 1 7 (pc' := 12) (lv' := [(1, .int 1), (0, .ref _)]) (st' := [.ref _, .int _]) rfl ?_
        refine ev_get DX3_sureBits 8 GX3 rfl (k0 := 3) (Nat.le_of_ble_eq_true rfl) fX3_27 h rfl ?_
        refine ev_ss DX3_sureBits 5 9 (pc' := 20) (lv' := [(1, .int 1), (0, .ref _)]) (st' := [.int 1, .ref _, .int _]) rfl ?_
        refine ev_cV DX3_sureBits 14 (m_X3_roomWith h) vX3_roomWith rfl qX3_85 rfl h rfl (hd_of rfl rfl rfl rfl) ?_
        refine ev_icge DX3_sureBits 15 rfl (tgt := 28) (by decide) (fun c_8 => ?_) (fun c_8 => ?_)
        · refine ev_ss DX3_sureBits 1 18 (pc' := 31) (lv' := [(1, .int 0), (0, .ref _)]) (st' := []) rfl ?_
          refine ev_goto DX3_sureBits 19 rfl (tgt := 2) (by decide) ?_
          refine ev_ss DX3_sureBits 1 2 (pc' := 3) (lv' := [(1, .int 0), (0, .ref _)]) (st' := [.int 0]) rfl ?_
          refine ev_ifle DX3_sureBits 3 rfl (tgt := 34) (by decide) (fun _ => ?_) (fun h => h.elim (by decide))
          refine ev_ss DX3_sureBits 1 20 (pc' := 35) (lv' := [(1, .int 0), (0, .ref _)]) (st' := [.int 0]) rfl ?_
          exact ev_iret DX3_sureBits 21 rfl rfl ⟨vI ((if_pos c_2).trans ((if_pos c_4).trans ((if_pos c_6).trans (if_pos c_8)))), rfl⟩
        · refine ev_ss DX3_sureBits 1 16 (pc' := 27) (lv' := [(1, .int 1), (0, .ref _)]) (st' := [.int 1]) rfl ?_
          exact ev_iret DX3_sureBits 17 rfl rfl ⟨vI ((if_pos c_2).trans ((if_pos c_4).trans ((if_pos c_6).trans (if_neg c_8)))), rfl⟩
      · refine ev_ss DX3_sureBits 1 16 (pc' := 27) (lv' := [(1, .int 2), (0, .ref _)]) (st' := [.int 2]) rfl ?_
        exact ev_iret DX3_sureBits 17 rfl rfl ⟨vI ((if_pos c_2).trans ((if_pos c_4).trans (if_neg c_6))), rfl⟩
    · refine ev_ss DX3_sureBits 1 16 (pc' := 27) (lv' := [(1, .int 3), (0, .ref _)]) (st' := [.int 3]) rfl ?_
      exact ev_iret DX3_sureBits 17 rfl rfl ⟨vI ((if_pos c_2).trans (if_neg c_4)), rfl⟩
  · refine ev_ss DX3_sureBits 1 16 (pc' := 27) (lv' := [(1, .int 4), (0, .ref _)]) (st' := [.int 4]) rfl ?_
    exact ev_iret DX3_sureBits 17 rfl rfl ⟨vI (if_neg c_2), rfl⟩
set_option maxRecDepth 100000 in
set_option maxHeartbeats 4000000 in
theorem m_X3_countSign {E : gE} {ws : va_W} {q a : Nat} {f : TF} {b : Int32} (h : ws[q]? = some (a, toneC f)) : CD E YX3_countSign 0 0 [.ref a, .int b] ws none (ws.set q (a, toneC (cntP f b))) := by
  refine cdV vX3_countSign (Nat.le_of_ble_eq_true rfl) (lv0 := [(0, .ref a), (1, .int b)]) rfl ?_
  refine ev_ss DX3_countSign 1 0 (pc' := 1) (lv' := [(0, .ref _), (1, .int _)]) (st' := [.ref _]) rfl ?_
  refine ev_get DX3_countSign 1 GX3 rfl (k0 := 10) (Nat.le_of_ble_eq_true rfl) fX3_45 h rfl ?_
  refine ev_ifle DX3_countSign 2 rfl (tgt := 17) (by decide) (fun c_1 => ?_) (fun c_1 => ?_)
  · refine ev_ss DX3_countSign 1 9 (pc' := 18) (lv' := [(0, .ref _), (1, .int _)]) (st' := [.int _]) rfl ?_
    refine ev_ifeq DX3_countSign 10 rfl (tgt := 41) (by decide) (fun c_2 => ?_) (fun c_2 => ?_)
    · exact ev_vret DX3_countSign 23 rfl rfl ⟨rfl, tset0 h ((if_pos c_1).trans (if_pos c_2))⟩
    · refine ev_ss DX3_countSign 2 11 (pc' := 23) (lv' := [(0, .ref _), (1, .int _)]) (st' := [.ref _, .ref _]) rfl ?_
      refine ev_get DX3_countSign 13 GX3 rfl (k0 := 15) (Nat.le_of_ble_eq_true rfl) fX3_57 h rfl ?_
      refine ev_ss DX3_countSign 2 14 (pc' := 28) (lv' := [(0, .ref _), (1, .int _)]) (st' := [.int _, .ref _]) rfl ?_
      refine ev_put (fs' := [_, _, _, _, _, _, _, _, _, _, _, _, _, _, _, _, _, _]) DX3_countSign 16 GX3 rfl (k0 := 15) (Nat.le_of_ble_eq_true rfl) fX3_57 rfl ⟨rfl, rfl⟩ h (Nat.le_of_ble_eq_true rfl) rfl rfl ?_
      refine ev_ss DX3_countSign 2 17 (pc' := 33) (lv' := [(0, .ref _), (1, .int _)]) (st' := [.ref _, .ref _]) rfl ?_
      refine ev_get DX3_countSign 19 GX3 rfl (k0 := 12) (Nat.le_of_ble_eq_true rfl) fX3_48 (wset_get h) rfl ?_
      refine ev_ss DX3_countSign 2 20 (pc' := 38) (lv' := [(0, .ref _), (1, .int _)]) (st' := [.int _, .ref _]) rfl ?_
      refine ev_put (fs' := [_, _, _, _, _, _, _, _, _, _, _, _, _, _, _, _, _, _]) DX3_countSign 22 GX3 rfl (k0 := 12) (Nat.le_of_ble_eq_true rfl) fX3_48 rfl ⟨rfl, rfl⟩ (wset_get h) (Nat.le_of_ble_eq_true rfl) rfl wset_set ?_
      exact ev_vret DX3_countSign 23 rfl rfl ⟨rfl, tset (g2 := cntP f b) ((if_pos c_1).trans (if_neg c_2)) rfl⟩
  · refine ev_ss DX3_countSign 2 3 (pc' := 9) (lv' := [(0, .ref _), (1, .int _)]) (st' := [.ref _, .ref _]) rfl ?_
    refine ev_get DX3_countSign 5 GX3 rfl (k0 := 14) (Nat.le_of_ble_eq_true rfl) fX3_54 h rfl ?_
    refine ev_ss DX3_countSign 2 6 (pc' := 14) (lv' := [(0, .ref _), (1, .int _)]) (st' := [.int _, .ref _]) rfl ?_
    refine ev_put (fs' := [_, _, _, _, _, _, _, _, _, _, _, _, _, _, _, _, _, _]) DX3_countSign 8 GX3 rfl (k0 := 14) (Nat.le_of_ble_eq_true rfl) fX3_54 rfl ⟨rfl, rfl⟩ h (Nat.le_of_ble_eq_true rfl) rfl rfl ?_
    refine ev_ss DX3_countSign 1 9 (pc' := 18) (lv' := [(0, .ref _), (1, .int _)]) (st' := [.int _]) rfl ?_
    refine ev_ifeq DX3_countSign 10 rfl (tgt := 41) (by decide) (fun c_3 => ?_) (fun c_3 => ?_)
    · exact ev_vret DX3_countSign 23 rfl rfl ⟨rfl, tset (g2 := cntP f b) ((if_neg c_1).trans (if_pos c_3)) rfl⟩
    · refine ev_ss DX3_countSign 2 11 (pc' := 23) (lv' := [(0, .ref _), (1, .int _)]) (st' := [.ref _, .ref _]) rfl ?_
      refine ev_get DX3_countSign 13 GX3 rfl (k0 := 15) (Nat.le_of_ble_eq_true rfl) fX3_57 (wset_get h) rfl ?_
      refine ev_ss DX3_countSign 2 14 (pc' := 28) (lv' := [(0, .ref _), (1, .int _)]) (st' := [.int _, .ref _]) rfl ?_
      refine ev_put (fs' := [_, _, _, _, _, _, _, _, _, _, _, _, _, _, _, _, _, _]) DX3_countSign 16 GX3 rfl (k0 := 15) (Nat.le_of_ble_eq_true rfl) fX3_57 rfl ⟨rfl, rfl⟩ (wset_get h) (Nat.le_of_ble_eq_true rfl) rfl wset_set ?_
      refine ev_ss DX3_countSign 2 17 (pc' := 33) (lv' := [(0, .ref _), (1, .int _)]) (st' := [.ref _, .ref _]) rfl ?_
      refine ev_get DX3_countSign 19 GX3 rfl (k0 := 12) (Nat.le_of_ble_eq_true rfl) fX3_48 (wset_get h) rfl ?_
      refine ev_ss DX3_countSign 2 20 (pc' := 38) (lv' := [(0, .ref _), (1, .int _)]) (st' := [.int _, .ref _]) rfl ?_
      refine ev_put (fs' := [_, _, _, _, _, _, _, _, _, _, _, _, _, _, _, _, _, _]) DX3_countSign 22 GX3 rfl (k0 := 12) (Nat.le_of_ble_eq_true rfl) fX3_48 rfl ⟨rfl, rfl⟩ (wset_get h) (Nat.le_of_ble_eq_true rfl) rfl wset_set ?_
      exact ev_vret DX3_countSign 23 rfl rfl ⟨rfl, tset (g2 := cntP f b) ((if_neg c_1).trans (if_neg c_3)) rfl⟩
set_option maxRecDepth 100000 in
set_option maxHeartbeats 4000000 in
theorem m_X3_becomeShyAt {E : gE} {ws : va_W} {q a : Nat} {f : TF} {m : Int32} (h : ws[q]? = some (a, toneC f)) : CD E YX3_becomeShyAt 0 0 [.ref a, .int m] ws none (ws.set q (a, toneC (shyP f m))) := by
  refine cdV vX3_becomeShyAt (Nat.le_of_ble_eq_true rfl) (lv0 := [(0, .ref a), (1, .int m)]) rfl ?_
  refine ev_ss DX3_becomeShyAt 1 0 (pc' := 1) (lv' := [(0, .ref _), (1, .int _)]) (st' := [.ref _]) rfl ?_
  refine ev_get DX3_becomeShyAt 1 GX3 rfl (k0 := 10) (Nat.le_of_ble_eq_true rfl) fX3_45 h rfl ?_
  refine ev_ifle DX3_becomeShyAt 2 rfl (tgt := 40) (by decide) (fun c_1 => ?_) (fun c_1 => ?_)
  · exact ev_vret DX3_becomeShyAt 22 rfl rfl ⟨rfl, tset0 h (if_pos c_1)⟩
  · refine ev_ss DX3_becomeShyAt 1 3 (pc' := 8) (lv' := [(0, .ref _), (1, .int _)]) (st' := [.ref _]) rfl ?_
    refine ev_get DX3_becomeShyAt 4 GX3 rfl (k0 := 12) (Nat.le_of_ble_eq_true rfl) fX3_48 h rfl ?_
    refine ev_ss DX3_becomeShyAt 1 5 (pc' := 12) (lv' := [(0, .ref _), (1, .int _)]) (st' := [.int _, .int _]) rfl ?_
    refine ev_iclt DX3_becomeShyAt 6 rfl (tgt := 40) (by decide) (fun c_2 => ?_) (fun c_2 => ?_)
    · exact ev_vret DX3_becomeShyAt 22 rfl rfl ⟨rfl, tset0 h ((if_neg c_1).trans (if_pos c_2))⟩
    · refine ev_ss DX3_becomeShyAt 2 7 (pc' := 17) (lv' := [(0, .ref _), (1, .int _)]) (st' := [.ref _, .ref _]) rfl ?_
      refine ev_get DX3_becomeShyAt 9 GX3 rfl (k0 := 10) (Nat.le_of_ble_eq_true rfl) fX3_45 h rfl ?_
      refine ev_ss DX3_becomeShyAt 2 10 (pc' := 22) (lv' := [(0, .ref _), (1, .int _)]) (st' := [.int _, .ref _]) rfl ?_
      refine ev_put (fs' := [_, _, _, _, _, _, _, _, _, _, _, _, _, _, _, _, _, _]) DX3_becomeShyAt 12 GX3 rfl (k0 := 10) (Nat.le_of_ble_eq_true rfl) fX3_45 rfl ⟨rfl, rfl⟩ h (Nat.le_of_ble_eq_true rfl) rfl rfl ?_
      refine ev_ss DX3_becomeShyAt 2 13 (pc' := 27) (lv' := [(0, .ref _), (1, .int _)]) (st' := [.ref _, .ref _]) rfl ?_
      refine ev_get DX3_becomeShyAt 15 GX3 rfl (k0 := 13) (Nat.le_of_ble_eq_true rfl) fX3_51 (wset_get h) rfl ?_
      refine ev_ss DX3_becomeShyAt 2 16 (pc' := 32) (lv' := [(0, .ref _), (1, .int _)]) (st' := [.int _, .ref _]) rfl ?_
      refine ev_put (fs' := [_, _, _, _, _, _, _, _, _, _, _, _, _, _, _, _, _, _]) DX3_becomeShyAt 18 GX3 rfl (k0 := 13) (Nat.le_of_ble_eq_true rfl) fX3_51 rfl ⟨rfl, rfl⟩ (wset_get h) (Nat.le_of_ble_eq_true rfl) rfl wset_set ?_
      refine ev_ss DX3_becomeShyAt 2 19 (pc' := 37) (lv' := [(0, .ref _), (1, .int _)]) (st' := [.int 0, .ref _]) rfl ?_
      refine ev_put (fs' := [_, _, _, _, _, _, _, _, _, _, _, _, _, _, _, _, _, _]) DX3_becomeShyAt 21 GX3 rfl (k0 := 12) (Nat.le_of_ble_eq_true rfl) fX3_48 rfl ⟨rfl, rfl⟩ (wset_get h) (Nat.le_of_ble_eq_true rfl) rfl wset_set ?_
      exact ev_vret DX3_becomeShyAt 22 rfl rfl ⟨rfl, tset (g2 := shyP f m) ((if_neg c_1).trans (if_neg c_2)) rfl⟩
set_option maxRecDepth 100000 in
set_option maxHeartbeats 4000000 in
theorem m_X3_copyFrom {E : gE} {ws : va_W} {q a q2 a2 : Nat} {f g : TF} (h : ws[q]? = some (a, toneC f)) (h2 : ws[q2]? = some (a2, toneC g)) (hne : q ≠ q2) : CD E YX3_copyFrom 0 0 [.ref a, .ref a2] ws none (ws.set q (a, toneC g)) := by
  refine cdV vX3_copyFrom (Nat.le_of_ble_eq_true rfl) (lv0 := [(0, .ref a), (1, .ref a2)]) rfl ?_
  refine ev_ss DX3_copyFrom 2 0 (pc' := 2) (lv' := [(0, .ref _), (1, .ref _)]) (st' := [.ref _, .ref _]) rfl ?_
  refine ev_get DX3_copyFrom 2 GX3 rfl (k0 := 0) (Nat.le_of_ble_eq_true rfl) fX3_9 h2 rfl ?_
  refine ev_put (fs' := [_, _, _, _, _, _, _, _, _, _, _, _, _, _, _, _, _, _]) DX3_copyFrom 3 GX3 rfl (k0 := 0) (Nat.le_of_ble_eq_true rfl) fX3_9 rfl ⟨rfl, rfl⟩ h (Nat.le_of_ble_eq_true rfl) rfl rfl ?_
  refine ev_ss DX3_copyFrom 2 4 (pc' := 10) (lv' := [(0, .ref _), (1, .ref _)]) (st' := [.ref _, .ref _]) rfl ?_
  refine ev_get DX3_copyFrom 6 GX3 rfl (k0 := 1) (Nat.le_of_ble_eq_true rfl) fX3_21 (wset_n h2 hne) rfl ?_
  refine ev_put (fs' := [_, _, _, _, _, _, _, _, _, _, _, _, _, _, _, _, _, _]) DX3_copyFrom 7 GX3 rfl (k0 := 1) (Nat.le_of_ble_eq_true rfl) fX3_21 rfl ⟨rfl, rfl⟩ (wset_get h) (Nat.le_of_ble_eq_true rfl) rfl wset_set ?_
  refine ev_ss DX3_copyFrom 2 8 (pc' := 18) (lv' := [(0, .ref _), (1, .ref _)]) (st' := [.ref _, .ref _]) rfl ?_
  refine ev_get DX3_copyFrom 10 GX3 rfl (k0 := 2) (Nat.le_of_ble_eq_true rfl) fX3_24 (wset_n h2 hne) rfl ?_
  refine ev_put (fs' := [_, _, _, _, _, _, _, _, _, _, _, _, _, _, _, _, _, _]) DX3_copyFrom 11 GX3 rfl (k0 := 2) (Nat.le_of_ble_eq_true rfl) fX3_24 rfl ⟨rfl, rfl⟩ (wset_get h) (Nat.le_of_ble_eq_true rfl) rfl wset_set ?_
  refine ev_ss DX3_copyFrom 2 12 (pc' := 26) (lv' := [(0, .ref _), (1, .ref _)]) (st' := [.ref _, .ref _]) rfl ?_
  refine ev_get DX3_copyFrom 14 GX3 rfl (k0 := 3) (Nat.le_of_ble_eq_true rfl) fX3_27 (wset_n h2 hne) rfl ?_
  refine ev_put (fs' := [_, _, _, _, _, _, _, _, _, _, _, _, _, _, _, _, _, _]) DX3_copyFrom 15 GX3 rfl (k0 := 3) (Nat.le_of_ble_eq_true rfl) fX3_27 rfl ⟨rfl, rfl⟩ (wset_get h) (Nat.le_of_ble_eq_true rfl) rfl wset_set ?_
  refine ev_ss DX3_copyFrom 2 16 (pc' := 34) (lv' := [(0, .ref _), (1, .ref _)]) (st' := [.ref _, .ref _]) rfl ?_
  refine ev_get DX3_copyFrom 18 GX3 rfl (k0 := 4) (Nat.le_of_ble_eq_true rfl) fX3_30 (wset_n h2 hne) rfl ?_
  refine ev_put (fs' := [_, _, _, _, _, _, _, _, _, _, _, _, _, _, _, _, _, _]) DX3_copyFrom 19 GX3 rfl (k0 := 4) (Nat.le_of_ble_eq_true rfl) fX3_30 rfl ⟨rfl, rfl⟩ (wset_get h) (Nat.le_of_ble_eq_true rfl) rfl wset_set ?_
  refine ev_ss DX3_copyFrom 2 20 (pc' := 42) (lv' := [(0, .ref _), (1, .ref _)]) (st' := [.ref _, .ref _]) rfl ?_
  refine ev_get DX3_copyFrom 22 GX3 rfl (k0 := 5) (Nat.le_of_ble_eq_true rfl) fX3_33 (wset_n h2 hne) rfl ?_
  refine ev_put (fs' := [_, _, _, _, _, _, _, _, _, _, _, _, _, _, _, _, _, _]) DX3_copyFrom 23 GX3 rfl (k0 := 5) (Nat.le_of_ble_eq_true rfl) fX3_33 rfl ⟨rfl, rfl⟩ (wset_get h) (Nat.le_of_ble_eq_true rfl) rfl wset_set ?_
  refine ev_ss DX3_copyFrom 2 24 (pc' := 50) (lv' := [(0, .ref _), (1, .ref _)]) (st' := [.ref _, .ref _]) rfl ?_
  refine ev_get DX3_copyFrom 26 GX3 rfl (k0 := 6) (Nat.le_of_ble_eq_true rfl) fX3_36 (wset_n h2 hne) rfl ?_
  refine ev_put (fs' := [_, _, _, _, _, _, _, _, _, _, _, _, _, _, _, _, _, _]) DX3_copyFrom 27 GX3 rfl (k0 := 6) (Nat.le_of_ble_eq_true rfl) fX3_36 rfl ⟨rfl, rfl⟩ (wset_get h) (Nat.le_of_ble_eq_true rfl) rfl wset_set ?_
  refine ev_ss DX3_copyFrom 2 28 (pc' := 58) (lv' := [(0, .ref _), (1, .ref _)]) (st' := [.ref _, .ref _]) rfl ?_
  refine ev_get DX3_copyFrom 30 GX3 rfl (k0 := 7) (Nat.le_of_ble_eq_true rfl) fX3_15 (wset_n h2 hne) rfl ?_
  refine ev_put (fs' := [_, _, _, _, _, _, _, _, _, _, _, _, _, _, _, _, _, _]) DX3_copyFrom 31 GX3 rfl (k0 := 7) (Nat.le_of_ble_eq_true rfl) fX3_15 rfl ⟨rfl, rfl⟩ (wset_get h) (Nat.le_of_ble_eq_true rfl) rfl wset_set ?_
  refine ev_ss DX3_copyFrom 2 32 (pc' := 66) (lv' := [(0, .ref _), (1, .ref _)]) (st' := [.ref _, .ref _]) rfl ?_
  refine ev_get DX3_copyFrom 34 GX3 rfl (k0 := 8) (Nat.le_of_ble_eq_true rfl) fX3_39 (wset_n h2 hne) rfl ?_
  refine ev_put (fs' := [_, _, _, _, _, _, _, _, _, _, _, _, _, _, _, _, _, _]) DX3_copyFrom 35 GX3 rfl (k0 := 8) (Nat.le_of_ble_eq_true rfl) fX3_39 rfl ⟨rfl, rfl⟩ (wset_get h) (Nat.le_of_ble_eq_true rfl) rfl wset_set ?_
  refine ev_ss DX3_copyFrom 2 36 (pc' := 74) (lv' := [(0, .ref _), (1, .ref _)]) (st' := [.ref _, .ref _]) rfl ?_
  refine ev_get DX3_copyFrom 38 GX3 rfl (k0 := 9) (Nat.le_of_ble_eq_true rfl) fX3_42 (wset_n h2 hne) rfl ?_
  refine ev_put (fs' := [_, _, _, _, _, _, _, _, _, _, _, _, _, _, _, _, _, _]) DX3_copyFrom 39 GX3 rfl (k0 := 9) (Nat.le_of_ble_eq_true rfl) fX3_42 rfl ⟨rfl, rfl⟩ (wset_get h) (Nat.le_of_ble_eq_true rfl) rfl wset_set ?_
  refine ev_ss DX3_copyFrom 2 40 (pc' := 82) (lv' := [(0, .ref _), (1, .ref _)]) (st' := [.ref _, .ref _]) rfl ?_
  refine ev_get DX3_copyFrom 42 GX3 rfl (k0 := 10) (Nat.le_of_ble_eq_true rfl) fX3_45 (wset_n h2 hne) rfl ?_
  refine ev_put (fs' := [_, _, _, _, _, _, _, _, _, _, _, _, _, _, _, _, _, _]) DX3_copyFrom 43 GX3 rfl (k0 := 10) (Nat.le_of_ble_eq_true rfl) fX3_45 rfl ⟨rfl, rfl⟩ (wset_get h) (Nat.le_of_ble_eq_true rfl) rfl wset_set ?_
  refine ev_ss DX3_copyFrom 2 44 (pc' := 90) (lv' := [(0, .ref _), (1, .ref _)]) (st' := [.ref _, .ref _]) rfl ?_
  refine ev_get DX3_copyFrom 46 GX3 rfl (k0 := 11) (Nat.le_of_ble_eq_true rfl) fX3_18 (wset_n h2 hne) rfl ?_
  refine ev_put (fs' := [_, _, _, _, _, _, _, _, _, _, _, _, _, _, _, _, _, _]) DX3_copyFrom 47 GX3 rfl (k0 := 11) (Nat.le_of_ble_eq_true rfl) fX3_18 rfl ⟨rfl, rfl⟩ (wset_get h) (Nat.le_of_ble_eq_true rfl) rfl wset_set ?_
  refine ev_ss DX3_copyFrom 2 48 (pc' := 98) (lv' := [(0, .ref _), (1, .ref _)]) (st' := [.ref _, .ref _]) rfl ?_
  refine ev_get DX3_copyFrom 50 GX3 rfl (k0 := 12) (Nat.le_of_ble_eq_true rfl) fX3_48 (wset_n h2 hne) rfl ?_
  refine ev_put (fs' := [_, _, _, _, _, _, _, _, _, _, _, _, _, _, _, _, _, _]) DX3_copyFrom 51 GX3 rfl (k0 := 12) (Nat.le_of_ble_eq_true rfl) fX3_48 rfl ⟨rfl, rfl⟩ (wset_get h) (Nat.le_of_ble_eq_true rfl) rfl wset_set ?_
  refine ev_ss DX3_copyFrom 2 52 (pc' := 106) (lv' := [(0, .ref _), (1, .ref _)]) (st' := [.ref _, .ref _]) rfl ?_
  refine ev_get DX3_copyFrom 54 GX3 rfl (k0 := 13) (Nat.le_of_ble_eq_true rfl) fX3_51 (wset_n h2 hne) rfl ?_
  refine ev_put (fs' := [_, _, _, _, _, _, _, _, _, _, _, _, _, _, _, _, _, _]) DX3_copyFrom 55 GX3 rfl (k0 := 13) (Nat.le_of_ble_eq_true rfl) fX3_51 rfl ⟨rfl, rfl⟩ (wset_get h) (Nat.le_of_ble_eq_true rfl) rfl wset_set ?_
  refine ev_ss DX3_copyFrom 2 56 (pc' := 114) (lv' := [(0, .ref _), (1, .ref _)]) (st' := [.ref _, .ref _]) rfl ?_
  refine ev_get DX3_copyFrom 58 GX3 rfl (k0 := 14) (Nat.le_of_ble_eq_true rfl) fX3_54 (wset_n h2 hne) rfl ?_
  refine ev_put (fs' := [_, _, _, _, _, _, _, _, _, _, _, _, _, _, _, _, _, _]) DX3_copyFrom 59 GX3 rfl (k0 := 14) (Nat.le_of_ble_eq_true rfl) fX3_54 rfl ⟨rfl, rfl⟩ (wset_get h) (Nat.le_of_ble_eq_true rfl) rfl wset_set ?_
  refine ev_ss DX3_copyFrom 2 60 (pc' := 122) (lv' := [(0, .ref _), (1, .ref _)]) (st' := [.ref _, .ref _]) rfl ?_
  refine ev_get DX3_copyFrom 62 GX3 rfl (k0 := 15) (Nat.le_of_ble_eq_true rfl) fX3_57 (wset_n h2 hne) rfl ?_
  refine ev_put (fs' := [_, _, _, _, _, _, _, _, _, _, _, _, _, _, _, _, _, _]) DX3_copyFrom 63 GX3 rfl (k0 := 15) (Nat.le_of_ble_eq_true rfl) fX3_57 rfl ⟨rfl, rfl⟩ (wset_get h) (Nat.le_of_ble_eq_true rfl) rfl wset_set ?_
  refine ev_ss DX3_copyFrom 2 64 (pc' := 130) (lv' := [(0, .ref _), (1, .ref _)]) (st' := [.ref _, .ref _]) rfl ?_
  refine ev_get DX3_copyFrom 66 GX3 rfl (k0 := 16) (Nat.le_of_ble_eq_true rfl) fX3_60 (wset_n h2 hne) rfl ?_
  refine ev_put (fs' := [_, _, _, _, _, _, _, _, _, _, _, _, _, _, _, _, _, _]) DX3_copyFrom 67 GX3 rfl (k0 := 16) (Nat.le_of_ble_eq_true rfl) fX3_60 rfl ⟨rfl, rfl⟩ (wset_get h) (Nat.le_of_ble_eq_true rfl) rfl wset_set ?_
  refine ev_ss DX3_copyFrom 2 68 (pc' := 138) (lv' := [(0, .ref _), (1, .ref _)]) (st' := [.ref _, .ref _]) rfl ?_
  refine ev_get DX3_copyFrom 70 GX3 rfl (k0 := 17) (Nat.le_of_ble_eq_true rfl) fX3_63 (wset_n h2 hne) rfl ?_
  refine ev_put (fs' := [_, _, _, _, _, _, _, _, _, _, _, _, _, _, _, _, _, _]) DX3_copyFrom 71 GX3 rfl (k0 := 17) (Nat.le_of_ble_eq_true rfl) fX3_63 rfl ⟨rfl, rfl⟩ (wset_get h) (Nat.le_of_ble_eq_true rfl) rfl wset_set ?_
  exact ev_vret DX3_copyFrom 72 rfl rfl ⟨rfl, rfl⟩
set_option maxRecDepth 100000 in
set_option maxHeartbeats 4000000 in
theorem m_X3_streetNumber_0 {E : gE} {ws : va_W} {q a : Nat} {f : TF} (h : ws[q]? = some (a, toneC f)) : CD E YX3_streetNumber 0 0 [.ref a, .int 0] ws (some (.int (f 0))) ws := by
  refine cdV vX3_streetNumber (Nat.le_of_ble_eq_true rfl) (lv0 := [(0, .ref a), (1, .int 0)]) rfl ?_
  refine ev_ss DX3_streetNumber 1 0 (pc' := 1) (lv' := [(0, .ref _), (1, .int 0)]) (st' := [.int 0]) rfl ?_
  refine ev_swin DX3_streetNumber 1 rfl (by decide) (by decide) (off := 39) (by decide) (tgt := 40) (by decide) ?_
  refine ev_ss DX3_streetNumber 1 2 (pc' := 41) (lv' := [(0, .ref _), (1, .int 0)]) (st' := [.ref _]) rfl ?_
  refine ev_get DX3_streetNumber 3 GX3 rfl (k0 := 0) (Nat.le_of_ble_eq_true rfl) fX3_9 h rfl ?_
  exact ev_iret DX3_streetNumber 4 rfl rfl ⟨rfl, rfl⟩
set_option maxRecDepth 100000 in
set_option maxHeartbeats 4000000 in
theorem m_X3_streetNumber_1 {E : gE} {ws : va_W} {q a : Nat} {f : TF} (h : ws[q]? = some (a, toneC f)) : CD E YX3_streetNumber 0 0 [.ref a, .int 1] ws (some (.int (f 1))) ws := by
  refine cdV vX3_streetNumber (Nat.le_of_ble_eq_true rfl) (lv0 := [(0, .ref a), (1, .int 1)]) rfl ?_
  refine ev_ss DX3_streetNumber 1 0 (pc' := 1) (lv' := [(0, .ref _), (1, .int 1)]) (st' := [.int 1]) rfl ?_
  refine ev_swin DX3_streetNumber 1 rfl (by decide) (by decide) (off := 44) (by decide) (tgt := 45) (by decide) ?_
  refine ev_ss DX3_streetNumber 1 5 (pc' := 46) (lv' := [(0, .ref _), (1, .int 1)]) (st' := [.ref _]) rfl ?_
  refine ev_get DX3_streetNumber 6 GX3 rfl (k0 := 1) (Nat.le_of_ble_eq_true rfl) fX3_21 h rfl ?_
  exact ev_iret DX3_streetNumber 7 rfl rfl ⟨rfl, rfl⟩
set_option maxRecDepth 100000 in
set_option maxHeartbeats 4000000 in
theorem m_X3_streetNumber_2 {E : gE} {ws : va_W} {q a : Nat} {f : TF} (h : ws[q]? = some (a, toneC f)) : CD E YX3_streetNumber 0 0 [.ref a, .int 2] ws (some (.int (f 2))) ws := by
  refine cdV vX3_streetNumber (Nat.le_of_ble_eq_true rfl) (lv0 := [(0, .ref a), (1, .int 2)]) rfl ?_
  refine ev_ss DX3_streetNumber 1 0 (pc' := 1) (lv' := [(0, .ref _), (1, .int 2)]) (st' := [.int 2]) rfl ?_
  refine ev_swin DX3_streetNumber 1 rfl (by decide) (by decide) (off := 49) (by decide) (tgt := 50) (by decide) ?_
  refine ev_ss DX3_streetNumber 1 8 (pc' := 51) (lv' := [(0, .ref _), (1, .int 2)]) (st' := [.ref _]) rfl ?_
  refine ev_get DX3_streetNumber 9 GX3 rfl (k0 := 2) (Nat.le_of_ble_eq_true rfl) fX3_24 h rfl ?_
  exact ev_iret DX3_streetNumber 10 rfl rfl ⟨rfl, rfl⟩
set_option maxRecDepth 100000 in
set_option maxHeartbeats 4000000 in
theorem m_X3_streetNumber_3 {E : gE} {ws : va_W} {q a : Nat} {f : TF} (h : ws[q]? = some (a, toneC f)) : CD E YX3_streetNumber 0 0 [.ref a, .int 3] ws (some (.int (f 3))) ws := by
  refine cdV vX3_streetNumber (Nat.le_of_ble_eq_true rfl) (lv0 := [(0, .ref a), (1, .int 3)]) rfl ?_
  refine ev_ss DX3_streetNumber 1 0 (pc' := 1) (lv' := [(0, .ref _), (1, .int 3)]) (st' := [.int 3]) rfl ?_
  refine ev_swin DX3_streetNumber 1 rfl (by decide) (by decide) (off := 54) (by decide) (tgt := 55) (by decide) ?_
  refine ev_ss DX3_streetNumber 1 11 (pc' := 56) (lv' := [(0, .ref _), (1, .int 3)]) (st' := [.ref _]) rfl ?_
  refine ev_get DX3_streetNumber 12 GX3 rfl (k0 := 3) (Nat.le_of_ble_eq_true rfl) fX3_27 h rfl ?_
  exact ev_iret DX3_streetNumber 13 rfl rfl ⟨rfl, rfl⟩
set_option maxRecDepth 100000 in
set_option maxHeartbeats 4000000 in
theorem m_X3_streetNumber_4 {E : gE} {ws : va_W} {q a : Nat} {f : TF} (h : ws[q]? = some (a, toneC f)) : CD E YX3_streetNumber 0 0 [.ref a, .int 4] ws (some (.int (f 4))) ws := by
  refine cdV vX3_streetNumber (Nat.le_of_ble_eq_true rfl) (lv0 := [(0, .ref a), (1, .int 4)]) rfl ?_
  refine ev_ss DX3_streetNumber 1 0 (pc' := 1) (lv' := [(0, .ref _), (1, .int 4)]) (st' := [.int 4]) rfl ?_
  refine ev_swin DX3_streetNumber 1 rfl (by decide) (by decide) (off := 59) (by decide) (tgt := 60) (by decide) ?_
  refine ev_ss DX3_streetNumber 1 14 (pc' := 61) (lv' := [(0, .ref _), (1, .int 4)]) (st' := [.ref _]) rfl ?_
  refine ev_get DX3_streetNumber 15 GX3 rfl (k0 := 4) (Nat.le_of_ble_eq_true rfl) fX3_30 h rfl ?_
  exact ev_iret DX3_streetNumber 16 rfl rfl ⟨rfl, rfl⟩
set_option maxRecDepth 100000 in
set_option maxHeartbeats 4000000 in
theorem m_X3_streetNumber_5 {E : gE} {ws : va_W} {q a : Nat} {f : TF} (h : ws[q]? = some (a, toneC f)) : CD E YX3_streetNumber 0 0 [.ref a, .int 5] ws (some (.int (f 5))) ws := by
  refine cdV vX3_streetNumber (Nat.le_of_ble_eq_true rfl) (lv0 := [(0, .ref a), (1, .int 5)]) rfl ?_
  refine ev_ss DX3_streetNumber 1 0 (pc' := 1) (lv' := [(0, .ref _), (1, .int 5)]) (st' := [.int 5]) rfl ?_
  refine ev_swin DX3_streetNumber 1 rfl (by decide) (by decide) (off := 64) (by decide) (tgt := 65) (by decide) ?_
  refine ev_ss DX3_streetNumber 1 17 (pc' := 66) (lv' := [(0, .ref _), (1, .int 5)]) (st' := [.ref _]) rfl ?_
  refine ev_get DX3_streetNumber 18 GX3 rfl (k0 := 5) (Nat.le_of_ble_eq_true rfl) fX3_33 h rfl ?_
  exact ev_iret DX3_streetNumber 19 rfl rfl ⟨rfl, rfl⟩
set_option maxRecDepth 100000 in
set_option maxHeartbeats 4000000 in
theorem m_X3_streetNumber_6 {E : gE} {ws : va_W} {q a : Nat} {f : TF} (h : ws[q]? = some (a, toneC f)) : CD E YX3_streetNumber 0 0 [.ref a, .int 6] ws (some (.int (f 6))) ws := by
  refine cdV vX3_streetNumber (Nat.le_of_ble_eq_true rfl) (lv0 := [(0, .ref a), (1, .int 6)]) rfl ?_
  refine ev_ss DX3_streetNumber 1 0 (pc' := 1) (lv' := [(0, .ref _), (1, .int 6)]) (st' := [.int 6]) rfl ?_
  refine ev_swout DX3_streetNumber 1 rfl (by decide) (tgt := 70) (by decide) ?_
  refine ev_ss DX3_streetNumber 1 20 (pc' := 71) (lv' := [(0, .ref _), (1, .int 6)]) (st' := [.ref _]) rfl ?_
  refine ev_get DX3_streetNumber 21 GX3 rfl (k0 := 6) (Nat.le_of_ble_eq_true rfl) fX3_36 h rfl ?_
  exact ev_iret DX3_streetNumber 22 rfl rfl ⟨rfl, rfl⟩
set_option maxRecDepth 100000 in
set_option maxHeartbeats 4000000 in
theorem m_X3_accentNumber_0 {E : gE} {ws : va_W} {q a : Nat} {f : TF} (h : ws[q]? = some (a, toneC f)) : CD E YX3_accentNumber 0 0 [.ref a, .int 0] ws (some (.int (f 7))) ws := by
  refine cdV vX3_accentNumber (Nat.le_of_ble_eq_true rfl) (lv0 := [(0, .ref a), (1, .int 0)]) rfl ?_
  refine ev_ss DX3_accentNumber 1 0 (pc' := 1) (lv' := [(0, .ref _), (1, .int 0)]) (st' := [.int 0]) rfl ?_
  refine ev_swin DX3_accentNumber 1 rfl (by decide) (by decide) (off := 55) (by decide) (tgt := 56) (by decide) ?_
  refine ev_ss DX3_accentNumber 1 2 (pc' := 57) (lv' := [(0, .ref _), (1, .int 0)]) (st' := [.ref _]) rfl ?_
  refine ev_get DX3_accentNumber 3 GX3 rfl (k0 := 7) (Nat.le_of_ble_eq_true rfl) fX3_15 h rfl ?_
  exact ev_iret DX3_accentNumber 4 rfl rfl ⟨rfl, rfl⟩
set_option maxRecDepth 100000 in
set_option maxHeartbeats 4000000 in
theorem m_X3_accentNumber_1 {E : gE} {ws : va_W} {q a : Nat} {f : TF} (h : ws[q]? = some (a, toneC f)) : CD E YX3_accentNumber 0 0 [.ref a, .int 1] ws (some (.int (f 8))) ws := by
  refine cdV vX3_accentNumber (Nat.le_of_ble_eq_true rfl) (lv0 := [(0, .ref a), (1, .int 1)]) rfl ?_
  refine ev_ss DX3_accentNumber 1 0 (pc' := 1) (lv' := [(0, .ref _), (1, .int 1)]) (st' := [.int 1]) rfl ?_
  refine ev_swin DX3_accentNumber 1 rfl (by decide) (by decide) (off := 60) (by decide) (tgt := 61) (by decide) ?_
  refine ev_ss DX3_accentNumber 1 5 (pc' := 62) (lv' := [(0, .ref _), (1, .int 1)]) (st' := [.ref _]) rfl ?_
  refine ev_get DX3_accentNumber 6 GX3 rfl (k0 := 8) (Nat.le_of_ble_eq_true rfl) fX3_39 h rfl ?_
  exact ev_iret DX3_accentNumber 7 rfl rfl ⟨rfl, rfl⟩
set_option maxRecDepth 100000 in
set_option maxHeartbeats 4000000 in
theorem m_X3_accentNumber_2 {E : gE} {ws : va_W} {q a : Nat} {f : TF} (h : ws[q]? = some (a, toneC f)) : CD E YX3_accentNumber 0 0 [.ref a, .int 2] ws (some (.int (f 9))) ws := by
  refine cdV vX3_accentNumber (Nat.le_of_ble_eq_true rfl) (lv0 := [(0, .ref a), (1, .int 2)]) rfl ?_
  refine ev_ss DX3_accentNumber 1 0 (pc' := 1) (lv' := [(0, .ref _), (1, .int 2)]) (st' := [.int 2]) rfl ?_
  refine ev_swin DX3_accentNumber 1 rfl (by decide) (by decide) (off := 65) (by decide) (tgt := 66) (by decide) ?_
  refine ev_ss DX3_accentNumber 1 8 (pc' := 67) (lv' := [(0, .ref _), (1, .int 2)]) (st' := [.ref _]) rfl ?_
  refine ev_get DX3_accentNumber 9 GX3 rfl (k0 := 9) (Nat.le_of_ble_eq_true rfl) fX3_42 h rfl ?_
  exact ev_iret DX3_accentNumber 10 rfl rfl ⟨rfl, rfl⟩
set_option maxRecDepth 100000 in
set_option maxHeartbeats 4000000 in
theorem m_X3_accentNumber_3 {E : gE} {ws : va_W} {q a : Nat} {f : TF} (h : ws[q]? = some (a, toneC f)) : CD E YX3_accentNumber 0 0 [.ref a, .int 3] ws (some (.int (f 10))) ws := by
  refine cdV vX3_accentNumber (Nat.le_of_ble_eq_true rfl) (lv0 := [(0, .ref a), (1, .int 3)]) rfl ?_
  refine ev_ss DX3_accentNumber 1 0 (pc' := 1) (lv' := [(0, .ref _), (1, .int 3)]) (st' := [.int 3]) rfl ?_
  refine ev_swin DX3_accentNumber 1 rfl (by decide) (by decide) (off := 70) (by decide) (tgt := 71) (by decide) ?_
  refine ev_ss DX3_accentNumber 1 11 (pc' := 72) (lv' := [(0, .ref _), (1, .int 3)]) (st' := [.ref _]) rfl ?_
  refine ev_get DX3_accentNumber 12 GX3 rfl (k0 := 10) (Nat.le_of_ble_eq_true rfl) fX3_45 h rfl ?_
  exact ev_iret DX3_accentNumber 13 rfl rfl ⟨rfl, rfl⟩
set_option maxRecDepth 100000 in
set_option maxHeartbeats 4000000 in
theorem m_X3_accentNumber_4 {E : gE} {ws : va_W} {q a : Nat} {f : TF} (h : ws[q]? = some (a, toneC f)) : CD E YX3_accentNumber 0 0 [.ref a, .int 4] ws (some (.int (f 11))) ws := by
  refine cdV vX3_accentNumber (Nat.le_of_ble_eq_true rfl) (lv0 := [(0, .ref a), (1, .int 4)]) rfl ?_
  refine ev_ss DX3_accentNumber 1 0 (pc' := 1) (lv' := [(0, .ref _), (1, .int 4)]) (st' := [.int 4]) rfl ?_
  refine ev_swin DX3_accentNumber 1 rfl (by decide) (by decide) (off := 75) (by decide) (tgt := 76) (by decide) ?_
  refine ev_ss DX3_accentNumber 1 14 (pc' := 77) (lv' := [(0, .ref _), (1, .int 4)]) (st' := [.ref _]) rfl ?_
  refine ev_get DX3_accentNumber 15 GX3 rfl (k0 := 11) (Nat.le_of_ble_eq_true rfl) fX3_18 h rfl ?_
  exact ev_iret DX3_accentNumber 16 rfl rfl ⟨rfl, rfl⟩
set_option maxRecDepth 100000 in
set_option maxHeartbeats 4000000 in
theorem m_X3_accentNumber_5 {E : gE} {ws : va_W} {q a : Nat} {f : TF} (h : ws[q]? = some (a, toneC f)) : CD E YX3_accentNumber 0 0 [.ref a, .int 5] ws (some (.int (f 12))) ws := by
  refine cdV vX3_accentNumber (Nat.le_of_ble_eq_true rfl) (lv0 := [(0, .ref a), (1, .int 5)]) rfl ?_
  refine ev_ss DX3_accentNumber 1 0 (pc' := 1) (lv' := [(0, .ref _), (1, .int 5)]) (st' := [.int 5]) rfl ?_
  refine ev_swin DX3_accentNumber 1 rfl (by decide) (by decide) (off := 80) (by decide) (tgt := 81) (by decide) ?_
  refine ev_ss DX3_accentNumber 1 17 (pc' := 82) (lv' := [(0, .ref _), (1, .int 5)]) (st' := [.ref _]) rfl ?_
  refine ev_get DX3_accentNumber 18 GX3 rfl (k0 := 12) (Nat.le_of_ble_eq_true rfl) fX3_48 h rfl ?_
  exact ev_iret DX3_accentNumber 19 rfl rfl ⟨rfl, rfl⟩
set_option maxRecDepth 100000 in
set_option maxHeartbeats 4000000 in
theorem m_X3_accentNumber_6 {E : gE} {ws : va_W} {q a : Nat} {f : TF} (h : ws[q]? = some (a, toneC f)) : CD E YX3_accentNumber 0 0 [.ref a, .int 6] ws (some (.int (f 13))) ws := by
  refine cdV vX3_accentNumber (Nat.le_of_ble_eq_true rfl) (lv0 := [(0, .ref a), (1, .int 6)]) rfl ?_
  refine ev_ss DX3_accentNumber 1 0 (pc' := 1) (lv' := [(0, .ref _), (1, .int 6)]) (st' := [.int 6]) rfl ?_
  refine ev_swin DX3_accentNumber 1 rfl (by decide) (by decide) (off := 85) (by decide) (tgt := 86) (by decide) ?_
  refine ev_ss DX3_accentNumber 1 20 (pc' := 87) (lv' := [(0, .ref _), (1, .int 6)]) (st' := [.ref _]) rfl ?_
  refine ev_get DX3_accentNumber 21 GX3 rfl (k0 := 13) (Nat.le_of_ble_eq_true rfl) fX3_51 h rfl ?_
  exact ev_iret DX3_accentNumber 22 rfl rfl ⟨rfl, rfl⟩
set_option maxRecDepth 100000 in
set_option maxHeartbeats 4000000 in
theorem m_X3_accentNumber_7 {E : gE} {ws : va_W} {q a : Nat} {f : TF} (h : ws[q]? = some (a, toneC f)) : CD E YX3_accentNumber 0 0 [.ref a, .int 7] ws (some (.int (f 14))) ws := by
  refine cdV vX3_accentNumber (Nat.le_of_ble_eq_true rfl) (lv0 := [(0, .ref a), (1, .int 7)]) rfl ?_
  refine ev_ss DX3_accentNumber 1 0 (pc' := 1) (lv' := [(0, .ref _), (1, .int 7)]) (st' := [.int 7]) rfl ?_
  refine ev_swin DX3_accentNumber 1 rfl (by decide) (by decide) (off := 90) (by decide) (tgt := 91) (by decide) ?_
  refine ev_ss DX3_accentNumber 1 23 (pc' := 92) (lv' := [(0, .ref _), (1, .int 7)]) (st' := [.ref _]) rfl ?_
  refine ev_get DX3_accentNumber 24 GX3 rfl (k0 := 14) (Nat.le_of_ble_eq_true rfl) fX3_54 h rfl ?_
  exact ev_iret DX3_accentNumber 25 rfl rfl ⟨rfl, rfl⟩
set_option maxRecDepth 100000 in
set_option maxHeartbeats 4000000 in
theorem m_X3_accentNumber_8 {E : gE} {ws : va_W} {q a : Nat} {f : TF} (h : ws[q]? = some (a, toneC f)) : CD E YX3_accentNumber 0 0 [.ref a, .int 8] ws (some (.int (f 15))) ws := by
  refine cdV vX3_accentNumber (Nat.le_of_ble_eq_true rfl) (lv0 := [(0, .ref a), (1, .int 8)]) rfl ?_
  refine ev_ss DX3_accentNumber 1 0 (pc' := 1) (lv' := [(0, .ref _), (1, .int 8)]) (st' := [.int 8]) rfl ?_
  refine ev_swin DX3_accentNumber 1 rfl (by decide) (by decide) (off := 95) (by decide) (tgt := 96) (by decide) ?_
  refine ev_ss DX3_accentNumber 1 26 (pc' := 97) (lv' := [(0, .ref _), (1, .int 8)]) (st' := [.ref _]) rfl ?_
  refine ev_get DX3_accentNumber 27 GX3 rfl (k0 := 15) (Nat.le_of_ble_eq_true rfl) fX3_57 h rfl ?_
  exact ev_iret DX3_accentNumber 28 rfl rfl ⟨rfl, rfl⟩
set_option maxRecDepth 100000 in
set_option maxHeartbeats 4000000 in
theorem m_X3_accentNumber_9 {E : gE} {ws : va_W} {q a : Nat} {f : TF} (h : ws[q]? = some (a, toneC f)) : CD E YX3_accentNumber 0 0 [.ref a, .int 9] ws (some (.int (f 16))) ws := by
  refine cdV vX3_accentNumber (Nat.le_of_ble_eq_true rfl) (lv0 := [(0, .ref a), (1, .int 9)]) rfl ?_
  refine ev_ss DX3_accentNumber 1 0 (pc' := 1) (lv' := [(0, .ref _), (1, .int 9)]) (st' := [.int 9]) rfl ?_
  refine ev_swin DX3_accentNumber 1 rfl (by decide) (by decide) (off := 100) (by decide) (tgt := 101) (by decide) ?_
  refine ev_ss DX3_accentNumber 1 29 (pc' := 102) (lv' := [(0, .ref _), (1, .int 9)]) (st' := [.ref _]) rfl ?_
  refine ev_get DX3_accentNumber 30 GX3 rfl (k0 := 16) (Nat.le_of_ble_eq_true rfl) fX3_60 h rfl ?_
  exact ev_iret DX3_accentNumber 31 rfl rfl ⟨rfl, rfl⟩
set_option maxRecDepth 100000 in
set_option maxHeartbeats 4000000 in
theorem m_X3_accentNumber_10 {E : gE} {ws : va_W} {q a : Nat} {f : TF} (h : ws[q]? = some (a, toneC f)) : CD E YX3_accentNumber 0 0 [.ref a, .int 10] ws (some (.int (f 17))) ws := by
  refine cdV vX3_accentNumber (Nat.le_of_ble_eq_true rfl) (lv0 := [(0, .ref a), (1, .int 10)]) rfl ?_
  refine ev_ss DX3_accentNumber 1 0 (pc' := 1) (lv' := [(0, .ref _), (1, .int 10)]) (st' := [.int 10]) rfl ?_
  refine ev_swout DX3_accentNumber 1 rfl (by decide) (tgt := 106) (by decide) ?_
  refine ev_ss DX3_accentNumber 1 32 (pc' := 107) (lv' := [(0, .ref _), (1, .int 10)]) (st' := [.ref _]) rfl ?_
  refine ev_get DX3_accentNumber 33 GX3 rfl (k0 := 17) (Nat.le_of_ble_eq_true rfl) fX3_63 h rfl ?_
  exact ev_iret DX3_accentNumber 34 rfl rfl ⟨rfl, rfl⟩
set_option maxRecDepth 100000 in
set_option maxHeartbeats 4000000 in
theorem m_X3_setStreetNumber_0 {E : gE} {ws : va_W} {q a : Nat} {f : TF} {v : Int32} (h : ws[q]? = some (a, toneC f)) : CD E YX3_setStreetNumber 0 0 [.ref a, .int 0, .int v] ws none (ws.set q (a, toneC (upd f 0 v))) := by
  refine cdV vX3_setStreetNumber (Nat.le_of_ble_eq_true rfl) (lv0 := [(0, .ref a), (1, .int 0), (2, .int v)]) rfl ?_
  refine ev_ss DX3_setStreetNumber 1 0 (pc' := 1) (lv' := [(0, .ref _), (1, .int 0), (2, .int _)]) (st' := [.int 0]) rfl ?_
  refine ev_swin DX3_setStreetNumber 1 rfl (by decide) (by decide) (off := 27) (by decide) (tgt := 28) (by decide) ?_
  refine ev_ss DX3_setStreetNumber 2 2 (pc' := 30) (lv' := [(0, .ref _), (1, .int 0), (2, .int _)]) (st' := [.int _, .ref _]) rfl ?_
  refine ev_put (fs' := [_, _, _, _, _, _, _, _, _, _, _, _, _, _, _, _, _, _]) DX3_setStreetNumber 4 GX3 rfl (k0 := 0) (Nat.le_of_ble_eq_true rfl) fX3_9 rfl ⟨rfl, rfl⟩ h (Nat.le_of_ble_eq_true rfl) rfl rfl ?_
  refine ev_goto DX3_setStreetNumber 5 rfl (tgt := 57) (by decide) ?_
  exact ev_vret DX3_setStreetNumber 17 rfl rfl ⟨rfl, rfl⟩
set_option maxRecDepth 100000 in
set_option maxHeartbeats 4000000 in
theorem m_X3_setStreetNumber_1 {E : gE} {ws : va_W} {q a : Nat} {f : TF} {v : Int32} (h : ws[q]? = some (a, toneC f)) : CD E YX3_setStreetNumber 0 0 [.ref a, .int 1, .int v] ws none (ws.set q (a, toneC (upd f 1 v))) := by
  refine cdV vX3_setStreetNumber (Nat.le_of_ble_eq_true rfl) (lv0 := [(0, .ref a), (1, .int 1), (2, .int v)]) rfl ?_
  refine ev_ss DX3_setStreetNumber 1 0 (pc' := 1) (lv' := [(0, .ref _), (1, .int 1), (2, .int _)]) (st' := [.int 1]) rfl ?_
  refine ev_swin DX3_setStreetNumber 1 rfl (by decide) (by decide) (off := 35) (by decide) (tgt := 36) (by decide) ?_
  refine ev_ss DX3_setStreetNumber 2 6 (pc' := 38) (lv' := [(0, .ref _), (1, .int 1), (2, .int _)]) (st' := [.int _, .ref _]) rfl ?_
  refine ev_put (fs' := [_, _, _, _, _, _, _, _, _, _, _, _, _, _, _, _, _, _]) DX3_setStreetNumber 8 GX3 rfl (k0 := 1) (Nat.le_of_ble_eq_true rfl) fX3_21 rfl ⟨rfl, rfl⟩ h (Nat.le_of_ble_eq_true rfl) rfl rfl ?_
  refine ev_goto DX3_setStreetNumber 9 rfl (tgt := 57) (by decide) ?_
  exact ev_vret DX3_setStreetNumber 17 rfl rfl ⟨rfl, rfl⟩
set_option maxRecDepth 100000 in
set_option maxHeartbeats 4000000 in
theorem m_X3_setStreetNumber_2 {E : gE} {ws : va_W} {q a : Nat} {f : TF} {v : Int32} (h : ws[q]? = some (a, toneC f)) : CD E YX3_setStreetNumber 0 0 [.ref a, .int 2, .int v] ws none (ws.set q (a, toneC (upd f 2 v))) := by
  refine cdV vX3_setStreetNumber (Nat.le_of_ble_eq_true rfl) (lv0 := [(0, .ref a), (1, .int 2), (2, .int v)]) rfl ?_
  refine ev_ss DX3_setStreetNumber 1 0 (pc' := 1) (lv' := [(0, .ref _), (1, .int 2), (2, .int _)]) (st' := [.int 2]) rfl ?_
  refine ev_swin DX3_setStreetNumber 1 rfl (by decide) (by decide) (off := 43) (by decide) (tgt := 44) (by decide) ?_
  refine ev_ss DX3_setStreetNumber 2 10 (pc' := 46) (lv' := [(0, .ref _), (1, .int 2), (2, .int _)]) (st' := [.int _, .ref _]) rfl ?_
  refine ev_put (fs' := [_, _, _, _, _, _, _, _, _, _, _, _, _, _, _, _, _, _]) DX3_setStreetNumber 12 GX3 rfl (k0 := 2) (Nat.le_of_ble_eq_true rfl) fX3_24 rfl ⟨rfl, rfl⟩ h (Nat.le_of_ble_eq_true rfl) rfl rfl ?_
  refine ev_goto DX3_setStreetNumber 13 rfl (tgt := 57) (by decide) ?_
  exact ev_vret DX3_setStreetNumber 17 rfl rfl ⟨rfl, rfl⟩
set_option maxRecDepth 100000 in
set_option maxHeartbeats 4000000 in
theorem m_X3_setStreetNumber_3 {E : gE} {ws : va_W} {q a : Nat} {f : TF} {v : Int32} (h : ws[q]? = some (a, toneC f)) : CD E YX3_setStreetNumber 0 0 [.ref a, .int 3, .int v] ws none (ws.set q (a, toneC (upd f 3 v))) := by
  refine cdV vX3_setStreetNumber (Nat.le_of_ble_eq_true rfl) (lv0 := [(0, .ref a), (1, .int 3), (2, .int v)]) rfl ?_
  refine ev_ss DX3_setStreetNumber 1 0 (pc' := 1) (lv' := [(0, .ref _), (1, .int 3), (2, .int _)]) (st' := [.int 3]) rfl ?_
  refine ev_swout DX3_setStreetNumber 1 rfl (by decide) (tgt := 52) (by decide) ?_
  refine ev_ss DX3_setStreetNumber 2 14 (pc' := 54) (lv' := [(0, .ref _), (1, .int 3), (2, .int _)]) (st' := [.int _, .ref _]) rfl ?_
  refine ev_put (fs' := [_, _, _, _, _, _, _, _, _, _, _, _, _, _, _, _, _, _]) DX3_setStreetNumber 16 GX3 rfl (k0 := 3) (Nat.le_of_ble_eq_true rfl) fX3_27 rfl ⟨rfl, rfl⟩ h (Nat.le_of_ble_eq_true rfl) rfl rfl ?_
  exact ev_vret DX3_setStreetNumber 17 rfl rfl ⟨rfl, rfl⟩
theorem m_X3_streetNumber {E : gE} {ws : va_W} {j : Nat} {q a : Nat} {f : TF} (h : ws[q]? = some (a, toneC f)) (hj : j < 7) : CD E YX3_streetNumber 0 0 [.ref a, .int (nI j)] ws (some (.int (f j))) ws := by
  rcases (show j = 0 ∨ j = 1 ∨ j = 2 ∨ j = 3 ∨ j = 4 ∨ j = 5 ∨ j = 6 by omega) with rfl | rfl | rfl | rfl | rfl | rfl | rfl
  · exact m_X3_streetNumber_0 h
  · exact m_X3_streetNumber_1 h
  · exact m_X3_streetNumber_2 h
  · exact m_X3_streetNumber_3 h
  · exact m_X3_streetNumber_4 h
  · exact m_X3_streetNumber_5 h
  · exact m_X3_streetNumber_6 h
theorem m_X3_accentNumber {E : gE} {ws : va_W} {j : Nat} {q a : Nat} {f : TF} (h : ws[q]? = some (a, toneC f)) (hj : j < 11) : CD E YX3_accentNumber 0 0 [.ref a, .int (nI j)] ws (some (.int (f (7 + j)))) ws := by
  rcases (show j = 0 ∨ j = 1 ∨ j = 2 ∨ j = 3 ∨ j = 4 ∨ j = 5 ∨ j = 6 ∨ j = 7 ∨ j = 8 ∨ j = 9 ∨ j = 10 by omega) with rfl | rfl | rfl | rfl | rfl | rfl | rfl | rfl | rfl | rfl | rfl
  · exact m_X3_accentNumber_0 h
  · exact m_X3_accentNumber_1 h
  · exact m_X3_accentNumber_2 h
  · exact m_X3_accentNumber_3 h
  · exact m_X3_accentNumber_4 h
  · exact m_X3_accentNumber_5 h
  · exact m_X3_accentNumber_6 h
  · exact m_X3_accentNumber_7 h
  · exact m_X3_accentNumber_8 h
  · exact m_X3_accentNumber_9 h
  · exact m_X3_accentNumber_10 h
theorem m_X3_setStreetNumber {E : gE} {ws : va_W} {j : Nat} {v : Int32} {q a : Nat} {f : TF} (h : ws[q]? = some (a, toneC f)) (hj : j < 4) : CD E YX3_setStreetNumber 0 0 [.ref a, .int (nI j), .int v] ws none (ws.set q (a, toneC (upd f j v))) := by
  rcases (show j = 0 ∨ j = 1 ∨ j = 2 ∨ j = 3 by omega) with rfl | rfl | rfl | rfl
  · exact m_X3_setStreetNumber_0 h
  · exact m_X3_setStreetNumber_1 h
  · exact m_X3_setStreetNumber_2 h
  · exact m_X3_setStreetNumber_3 h
end
section
/-- fewer locals, by their places -/
theorem ev_lvp {E : gE} {Y : MI} {Pr : Option Value → va_W → Prop} {Px : String → va_W → Prop} {k n pc : Nat} {lv lv2 : List (Nat × Value)} {st : List Value} {ws : va_W} (ks : List Nat) (h : ks.filterMap (fun k => lv[k]?) = lv2) (kt : Ev E Y Pr Px k n pc lv2 st ws) : Ev E Y Pr Px k n pc lv st ws := by
  refine ev_lv (fun q hq => ?_) kt
  rw [← h] at hq
  obtain ⟨j, -, hj⟩ := List.mem_filterMap.mp hq
  exact List.mem_of_getElem? hj
abbrev iaC (E : gE) (n : Nat) (f : Nat → Int32) : va_E := .inl (gK E 0, n, .inl f)
abbrev waitC (rg : Nat) (st sz : Int32) : va_E := .inr (4, [.ref rg, .int st, .int sz])
abbrev wayC (ta wt : Nat) (lt : Int64) (cm wr : Int32) : va_E := .inr (5, [.ref ta, .ref wt, .long lt, .int cm, .int wr])
abbrev lesC (sz : Nat) (b : Int32) : va_E := .inr (0, [.ref sz, .int b])
/-- a ring of 256 places holds these bits -/
def RQ (r : Nat → Int32) (st sz : Int32) (bs : List Int32) : Prop := ∃ s0 : Nat, s0 < 256 ∧ st = nI s0 ∧ sz = nI bs.length ∧ bs.length ≤ 256 ∧ ∀ p, p < bs.length → bs[p]? = some (r ((s0 + p) % 256))
def rix (x : Int32) : Nat := (x &&& 255).toNatClampNeg
theorem rix_nI {n : Nat} (h : n < 2 ^ 31) : rix (nI n) = n % 256 := by
  unfold rix
  rw [pk_andN (n := n) (by omega) 8 (by decide), nI_clamp (by omega)]
theorem rix_in (x : Int32) : vp_in (x &&& 255) 256 := pk_andIn x 8 (by decide) (by decide)
theorem RQ_nil {r : Nat → Int32} {st sz : Int32} (h : RQ r st sz []) : sz ≤ 0 := by
  obtain ⟨s0, -, -, rfl, -, -⟩ := h
  decide
theorem RQ_cons {r : Nat → Int32} {st sz b : Int32} {bs : List Int32} (h : RQ r st sz (b :: bs)) : ¬ sz ≤ 0 ∧ r (rix (st + 0)) = b ∧ RQ r ((st + 1) &&& 255) (sz - 1) bs := by
  obtain ⟨s0, h0, rfl, rfl, h3, h4⟩ := h
  have hl : (b :: bs).length = bs.length + 1 := rfl
  rw [hl] at h3 h4 ⊢
  refine ⟨nI_nle (by omega) (by omega), ?_, (s0 + 1) % 256, by omega, ?_, nI_pred _, by omega, fun p hp => ?_⟩
  · have h5 := h4 0 (by omega)
    rw [show (0 : Int32) = nI 0 from rfl, nI_add, rix_nI (by omega)]
    simpa using h5.symm
  · rw [nI_1, pk_andN (n := s0 + 1) (by omega) 8 (by decide)]
  · have h5 := h4 (p + 1) (by omega)
    rw [List.getElem?_cons_succ] at h5
    rw [h5]
    congr 2
    omega
theorem RQ_snoc {r : Nat → Int32} {st sz b : Int32} {bs : List Int32} (h : RQ r st sz bs) (hl : bs.length < 256) : ¬ 256 ≤ sz ∧ RQ (upd r (rix (st + sz)) b) st (sz + 1) (bs ++ [b]) := by
  obtain ⟨s0, h0, rfl, rfl, h3, h4⟩ := h
  refine ⟨nI_ge hl (by decide), s0, h0, rfl, ?_, by simp; omega, fun p hp => ?_⟩
  · rw [nI_1]; simp
  · rw [nI_add, rix_nI (by omega)]
    have hp' : p < bs.length + 1 := by simpa using hp
    by_cases hpe : p = bs.length
    · subst hpe
      rw [List.getElem?_append_right (Nat.le_refl _), Nat.sub_self]
      simp [upd]
    · rw [List.getElem?_append_left (by omega), h4 p (by omega)]
      have : ¬ (s0 + p) % 256 = (s0 + bs.length) % 256 := by omega
      simp [upd, this]
/-- bits are taken: the sign so far, those that are left -/
def takeQ : Nat → Int32 → List Int32 → Int32 × List Int32
  | 0, sg, bs => (sg, bs)
  | n + 1, sg, [] => takeQ n (2 * sg) []
  | n + 1, sg, b :: bs => takeQ n (2 * sg + b) bs

set_option maxRecDepth 100000 in
set_option maxHeartbeats 4000000 in
theorem m_X4_bitAt {E : gE} {ws : va_W} {q a qr ar : Nat} {r : Nat → Int32} {st sz pl : Int32} (h : ws[q]? = some (a, waitC ar st sz)) (h2 : ws[qr]? = some (ar, iaC E 256 r)) : CD E YX4_bitAt 0 0 [.ref a, .int pl] ws (some (.int (r (rix (st + pl))))) ws := by
  refine cdV vX4_bitAt (Nat.le_of_ble_eq_true rfl) (lv0 := [(0, .ref a), (1, .int pl)]) rfl ?_
  refine ev_ss DX4_bitAt 1 0 (pc' := 1) (lv' := [(0, .ref _), (1, .int _)]) (st' := [.ref _]) rfl ?_
  refine ev_get DX4_bitAt 1 GX4 rfl (k0 := 0) (Nat.le_of_ble_eq_true rfl) fX4_9 h rfl ?_
  refine ev_ss DX4_bitAt 1 2 (pc' := 5) (lv' := [(0, .ref _), (1, .int _)]) (st' := [.ref _, .ref _]) rfl ?_
  refine ev_get DX4_bitAt 3 GX4 rfl (k0 := 1) (Nat.le_of_ble_eq_true rfl) fX4_21 h rfl ?_
  refine ev_ss DX4_bitAt 4 4 (pc' := 14) (lv' := [(0, .ref _), (1, .int _)]) (st' := [.int _, .ref _]) rfl ?_
  refine ev_iald DX4_bitAt 8 rfl h2 (rix_in _) ?_
  exact ev_iret DX4_bitAt 9 rfl rfl ⟨rfl, rfl⟩
set_option maxRecDepth 100000 in
set_option maxHeartbeats 4000000 in
theorem m_X4_put {E : gE} {ws : va_W} {q a qr ar : Nat} {r : Nat → Int32} {st sz b : Int32} (h : ws[q]? = some (a, waitC ar st sz)) (h2 : ws[qr]? = some (ar, iaC E 256 r)) (hs : ¬ 256 ≤ sz) : CD E YX4_put 0 0 [.ref a, .int b] ws none ((ws.set qr (ar, iaC E 256 (upd r (rix (st + sz)) b))).set q (a, waitC ar st (sz + 1))) := by
  refine cdV vX4_put (Nat.le_of_ble_eq_true rfl) (lv0 := [(0, .ref a), (1, .int b)]) rfl ?_
  refine ev_ss DX4_put 1 0 (pc' := 1) (lv' := [(0, .ref _), (1, .int _)]) (st' := [.ref _]) rfl ?_
  refine ev_get DX4_put 1 GX4 rfl (k0 := 2) (Nat.le_of_ble_eq_true rfl) fX4_25 h rfl ?_
  refine ev_ss DX4_put 1 2 (pc' := 7) (lv' := [(0, .ref _), (1, .int _)]) (st' := [.int 256, .int _]) rfl ?_
  refine ev_icge DX4_put 3 rfl (tgt := 39) (by decide) (fun h => absurd h hs) (fun _ => ?_)
  refine ev_ss DX4_put 1 4 (pc' := 11) (lv' := [(0, .ref _), (1, .int _)]) (st' := [.ref _]) rfl ?_
  refine ev_get DX4_put 5 GX4 rfl (k0 := 0) (Nat.le_of_ble_eq_true rfl) fX4_9 h rfl ?_
  refine ev_ss DX4_put 1 6 (pc' := 15) (lv' := [(0, .ref _), (1, .int _)]) (st' := [.ref _, .ref _]) rfl ?_
  refine ev_get DX4_put 7 GX4 rfl (k0 := 1) (Nat.le_of_ble_eq_true rfl) fX4_21 h rfl ?_
  refine ev_ss DX4_put 1 8 (pc' := 19) (lv' := [(0, .ref _), (1, .int _)]) (st' := [.ref _, .int _, .ref _]) rfl ?_
  refine ev_get DX4_put 9 GX4 rfl (k0 := 2) (Nat.le_of_ble_eq_true rfl) fX4_25 h rfl ?_
  refine ev_ss DX4_put 4 10 (pc' := 28) (lv' := [(0, .ref _), (1, .int _)]) (st' := [.int _, .int _, .ref _]) rfl ?_
  refine ev_iast DX4_put 14 rfl h2 (rix_in _) rfl ?_
  refine ev_ss DX4_put 2 15 (pc' := 31) (lv' := [(0, .ref _), (1, .int _)]) (st' := [.ref _, .ref _]) rfl ?_
  refine ev_get DX4_put 17 GX4 rfl (k0 := 2) (Nat.le_of_ble_eq_true rfl) fX4_25 (wset_o h h2 rfl) rfl ?_
  refine ev_ss DX4_put 2 18 (pc' := 36) (lv' := [(0, .ref _), (1, .int _)]) (st' := [.int _, .ref _]) rfl ?_
  refine ev_put (fs' := [_, _, _]) DX4_put 20 GX4 rfl (k0 := 2) (Nat.le_of_ble_eq_true rfl) fX4_25 rfl ⟨rfl, rfl⟩ (wset_o h h2 rfl) (Nat.le_of_ble_eq_true rfl) rfl rfl ?_
  exact ev_vret DX4_put 21 rfl rfl ⟨rfl, rfl⟩
/-- the two cells of a row of waiting bits -/
def hW (E : gE) (ws : va_W) (qr ar q a : Nat) (r : Nat → Int32) (st sz : Int32) : va_W := (ws.set qr (ar, iaC E 256 r)).set q (a, waitC ar st sz)
theorem hW_hW {E : gE} {ws : va_W} {qr ar q a : Nat} {r r2 : Nat → Int32} {st sz st2 sz2 : Int32} (hne : qr ≠ q) : hW E (hW E ws qr ar q a r st sz) qr ar q a r2 st2 sz2 = hW E ws qr ar q a r2 st2 sz2 := by
  unfold hW
  rw [List.set_comm (l := (ws.set qr (ar, iaC E 256 r))) _ _ (Ne.symm hne), wset_set, wset_set]
theorem hW_q {E : gE} {ws : va_W} {qr ar q a : Nat} {r : Nat → Int32} {st sz : Int32} {x : va_E} (h : ws[q]? = some (a, x)) : (hW E ws qr ar q a r st sz)[q]? = some (a, waitC ar st sz) := by
  unfold hW
  rw [List.getElem?_set_self]
  rw [List.length_set]
  exact (List.getElem?_eq_some_iff.mp h).1
theorem hW_r {E : gE} {ws : va_W} {qr ar q a : Nat} {r : Nat → Int32} {st sz : Int32} {x : va_E} (h : ws[qr]? = some (ar, x)) (hne : qr ≠ q) : (hW E ws qr ar q a r st sz)[qr]? = some (ar, iaC E 256 r) := by
  unfold hW
  rw [List.getElem?_set_ne (Ne.symm hne), List.getElem?_set_self (List.getElem?_eq_some_iff.mp h).1]
theorem hW_o {E : gE} {ws : va_W} {qr ar q a j : Nat} {r : Nat → Int32} {st sz : Int32} (h1 : qr ≠ j) (h2 : q ≠ j) : (hW E ws qr ar q a r st sz)[j]? = ws[j]? := by
  unfold hW
  rw [List.getElem?_set_ne h2, List.getElem?_set_ne h1]

set_option maxRecDepth 100000 in
set_option maxHeartbeats 4000000 in
/-- four bits of a digit, the highest first -/
theorem m_X4_putDigit {E : gE} {ws : va_W} {q a qr ar : Nat} {r : Nat → Int32} {st sz dg : Int32} {bs : List Int32} (h : ws[q]? = some (a, waitC ar st sz)) (h2 : ws[qr]? = some (ar, iaC E 256 r)) (hq : RQ r st sz bs) (hl : bs.length + 4 ≤ 256) :
    C0 E YX4_putDigit 0 0 [.ref a, .int dg] ws (fun v w => v = none ∧ ∃ r2 sz2, RQ r2 st sz2 (bs ++ [(dg >>> ((3 : Int32) &&& 31)) &&& 1, (dg >>> ((2 : Int32) &&& 31)) &&& 1, (dg >>> ((1 : Int32) &&& 31)) &&& 1, (dg >>> ((0 : Int32) &&& 31)) &&& 1]) ∧ w = hW E ws qr ar q a r2 st sz2) := by
  have hne : qr ≠ q := ek_ne h h2 rfl
  have q0 := RQ_snoc (b := (dg >>> ((3 : Int32) &&& 31)) &&& 1) hq (by omega)
  have q1 := RQ_snoc (b := (dg >>> ((2 : Int32) &&& 31)) &&& 1) q0.2 (by simp; omega)
  have q2 := RQ_snoc (b := (dg >>> ((1 : Int32) &&& 31)) &&& 1) q1.2 (by simp; omega)
  have q3 := RQ_snoc (b := (dg >>> ((0 : Int32) &&& 31)) &&& 1) q2.2 (by simp; omega)
  refine c0V vX4_putDigit (Nat.le_of_ble_eq_true rfl) (lv0 := [(0, .ref a), (1, .int dg)]) rfl ?_
  refine ev_ss DX4_putDigit 3 0 (pc' := 3) (lv' := [(2, .int 3), (0, .ref _), (1, .int _)]) (st' := [.int 3]) rfl ?_
  refine ev_iflt DX4_putDigit 3 rfl (tgt := 21) (by decide) (fun h => absurd h (by decide)) (fun _ => ?_)
  refine ev_ss DX4_putDigit 6 4 (pc' := 12) (lv' := [(2, .int 3), (0, .ref _), (1, .int _)]) (st' := [.int _, .ref _]) rfl ?_
  refine ev_cV DX4_putDigit 10 (m_X4_put h h2 q0.1) vX4_put rfl qX4_28 rfl h rfl (hd_of rfl rfl rfl rfl) ?_
  refine ev_ss DX4_putDigit 1 11 (pc' := 18) (lv' := [(2, .int 2), (0, .ref _), (1, .int _)]) (st' := []) rfl ?_
  refine ev_goto DX4_putDigit 12 rfl (tgt := 2) (by decide) ?_
  refine ev_ss DX4_putDigit 1 2 (pc' := 3) (lv' := [(2, .int 2), (0, .ref _), (1, .int _)]) (st' := [.int 2]) rfl ?_
  refine ev_iflt DX4_putDigit 3 rfl (tgt := 21) (by decide) (fun h => absurd h (by decide)) (fun _ => ?_)
  refine ev_ss DX4_putDigit 6 4 (pc' := 12) (lv' := [(2, .int 2), (0, .ref _), (1, .int _)]) (st' := [.int _, .ref _]) rfl ?_
  refine ev_cV DX4_putDigit 10 (cd_hs (m_X4_put (hW_q h) (hW_r h2 hne) q1.1) (hW_hW hne)) vX4_put rfl qX4_28 rfl (hW_q h) rfl (hd_of rfl rfl rfl rfl) ?_
  refine ev_ss DX4_putDigit 1 11 (pc' := 18) (lv' := [(2, .int 1), (0, .ref _), (1, .int _)]) (st' := []) rfl ?_
  refine ev_goto DX4_putDigit 12 rfl (tgt := 2) (by decide) ?_
  refine ev_ss DX4_putDigit 1 2 (pc' := 3) (lv' := [(2, .int 1), (0, .ref _), (1, .int _)]) (st' := [.int 1]) rfl ?_
  refine ev_iflt DX4_putDigit 3 rfl (tgt := 21) (by decide) (fun h => absurd h (by decide)) (fun _ => ?_)
  refine ev_ss DX4_putDigit 6 4 (pc' := 12) (lv' := [(2, .int 1), (0, .ref _), (1, .int _)]) (st' := [.int _, .ref _]) rfl ?_
  refine ev_cV DX4_putDigit 10 (cd_hs (m_X4_put (hW_q h) (hW_r h2 hne) q2.1) (hW_hW hne)) vX4_put rfl qX4_28 rfl (hW_q h) rfl (hd_of rfl rfl rfl rfl) ?_
  refine ev_ss DX4_putDigit 1 11 (pc' := 18) (lv' := [(2, .int 0), (0, .ref _), (1, .int _)]) (st' := []) rfl ?_
  refine ev_goto DX4_putDigit 12 rfl (tgt := 2) (by decide) ?_
  refine ev_ss DX4_putDigit 1 2 (pc' := 3) (lv' := [(2, .int 0), (0, .ref _), (1, .int _)]) (st' := [.int 0]) rfl ?_
  refine ev_iflt DX4_putDigit 3 rfl (tgt := 21) (by decide) (fun h => absurd h (by decide)) (fun _ => ?_)
  refine ev_ss DX4_putDigit 6 4 (pc' := 12) (lv' := [(2, .int 0), (0, .ref _), (1, .int _)]) (st' := [.int _, .ref _]) rfl ?_
  refine ev_cV DX4_putDigit 10 (cd_hs (m_X4_put (hW_q h) (hW_r h2 hne) q3.1) (hW_hW hne)) vX4_put rfl qX4_28 rfl (hW_q h) rfl (hd_of rfl rfl rfl rfl) ?_
  refine ev_ss DX4_putDigit 1 11 (pc' := 18) (lv' := [(2, .int (-1)), (0, .ref _), (1, .int _)]) (st' := []) rfl ?_
  refine ev_goto DX4_putDigit 12 rfl (tgt := 2) (by decide) ?_
  refine ev_ss DX4_putDigit 1 2 (pc' := 3) (lv' := [(2, .int (-1)), (0, .ref _), (1, .int _)]) (st' := [.int (-1)]) rfl ?_
  refine ev_iflt DX4_putDigit 3 rfl (tgt := 21) (by decide) (fun _ => ?_) (fun h => h.elim (by decide))
  exact ev_vret DX4_putDigit 13 rfl rfl ⟨rfl, _, _, (by have z := q3.2; simp only [List.append_assoc, List.cons_append, List.nil_append] at z; exact z), rfl⟩
set_option maxRecDepth 100000 in
set_option maxHeartbeats 4000000 in
/-- many bits are taken -/
theorem m_X4_take {E : gE} {ws : va_W} {q a qr ar : Nat} {r : Nat → Int32} {st sz : Int32} {bs : List Int32} (n : Nat) (hn : n ≤ 4) (h : ws[q]? = some (a, waitC ar st sz)) (h2 : ws[qr]? = some (ar, iaC E 256 r)) (hq : RQ r st sz bs) :
    C0 E YX4_take 0 0 [.ref a, .int (nI n)] ws (fun v w => v = some (.int (takeQ n 0 bs).1) ∧ ∃ st2 sz2, RQ r st2 sz2 (takeQ n 0 bs).2 ∧ w = ws.set q (a, waitC ar st2 sz2)) := by
  refine c0V vX4_take (Nat.le_of_ble_eq_true rfl) (lv0 := [(0, .ref a), (1, .int (nI n))]) rfl ?_
  suffices K : ∀ (m i : Nat) (sg st1 sz1 : Int32) (bs1 : List Int32) (x : Int32) (w0 : va_W), i + m = n → RQ r st1 sz1 bs1 → takeQ m sg bs1 = takeQ n 0 bs → x = nI i → w0 = ws.set q (a, waitC ar st1 sz1) →
      Ev E YX4_take (fun v w => v = some (.int (takeQ n 0 bs).1) ∧ ∃ st2 sz2, RQ r st2 sz2 (takeQ n 0 bs).2 ∧ w = ws.set q (a, waitC ar st2 sz2)) nX 0 0 4 [(0, .ref a), (1, .int (nI n)), (2, .int sg), (3, .int x)] [] w0 by
    refine ev_ss DX4_take 4 0 (pc' := 4) (lv' := [(3, .int 0), (2, .int 0), (0, .ref _), (1, .int _)]) (st' := []) rfl ?_
    refine ev_lvp (lv2 := [(0, .ref _), (1, .int _), (2, .int _), (3, .int _)]) [2, 3, 1, 0] rfl ?_
    exact K n 0 0 st sz bs _ _ (Nat.zero_add n) hq rfl nI_0.symm (wset_id h).symm
  intro m
  induction m with
  | zero =>
    intro i sg st1 sz1 bs1 x w0 hi hq1 ht hx hw
    subst hx; subst hw
    have he : i = n := by omega
    subst he
    refine ev_ss DX4_take 2 4 (pc' := 6) (lv' := [(0, .ref _), (1, .int _), (2, .int _), (3, .int _)]) (st' := [.int _, .int _]) rfl ?_
    refine ev_icge DX4_take 6 rfl (tgt := 58) (by decide) (fun _ => ?_) (fun h => h.elim (nI_le (Nat.le_refl _) (by omega)))
    refine ev_ss DX4_take 1 36 (pc' := 59) (lv' := [(0, .ref _), (1, .int _), (2, .int _), (3, .int _)]) (st' := [.int _]) rfl ?_
    exact ev_iret DX4_take 37 rfl rfl ⟨vI (congrArg Prod.fst ht).symm, st1, sz1, (congrArg Prod.snd ht) ▸ hq1, rfl⟩
  | succ m ih =>
    intro i sg st1 sz1 bs1 x w0 hi hq1 ht hx hw
    subst hx; subst hw
    cases bs1 with
    | nil =>
      refine ev_ss DX4_take 2 4 (pc' := 6) (lv' := [(0, .ref _), (1, .int _), (2, .int _), (3, .int _)]) (st' := [.int _, .int _]) rfl ?_
      refine ev_icge DX4_take 6 rfl (tgt := 58) (by decide) (fun h => absurd h (nI_ge (by omega) (by omega))) (fun _ => ?_)
      refine ev_ss DX4_take 5 7 (pc' := 14) (lv' := [(2, .int _), (0, .ref _), (1, .int _), (3, .int _)]) (st' := [.ref _]) rfl ?_
      refine ev_get DX4_take 12 GX4 rfl (k0 := 2) (Nat.le_of_ble_eq_true rfl) fX4_25 (wset_get h) rfl ?_
      refine ev_ifle DX4_take 13 rfl (tgt := 52) (by decide) (fun _ => ?_) (fun h => h.elim (RQ_nil hq1))
      refine ev_ss DX4_take 1 34 (pc' := 55) (lv' := [(3, .int _), (2, .int _), (0, .ref _), (1, .int _)]) (st' := []) rfl ?_
      refine ev_goto DX4_take 35 rfl (tgt := 4) (by decide) ?_
      refine ev_lvp (lv2 := [(0, .ref _), (1, .int _), (2, .int _), (3, .int _)]) [2, 3, 1, 0] rfl ?_
      exact ih (i + 1) (2 * sg) st1 sz1 [] _ _ (by omega) hq1 ht (nI_1 i) rfl
    | cons b bs1 =>
      obtain ⟨z1, z2, z3⟩ := RQ_cons hq1
      refine ev_ss DX4_take 2 4 (pc' := 6) (lv' := [(0, .ref _), (1, .int _), (2, .int _), (3, .int _)]) (st' := [.int _, .int _]) rfl ?_
      refine ev_icge DX4_take 6 rfl (tgt := 58) (by decide) (fun h => absurd h (nI_ge (by omega) (by omega))) (fun _ => ?_)
      refine ev_ss DX4_take 5 7 (pc' := 14) (lv' := [(2, .int _), (0, .ref _), (1, .int _), (3, .int _)]) (st' := [.ref _]) rfl ?_
      refine ev_get DX4_take 12 GX4 rfl (k0 := 2) (Nat.le_of_ble_eq_true rfl) fX4_25 (wset_get h) rfl ?_
      refine ev_ifle DX4_take 13 rfl (tgt := 52) (by decide) (fun h => absurd h z1) (fun _ => ?_)
      refine ev_ss DX4_take 3 14 (pc' := 23) (lv' := [(2, .int _), (0, .ref _), (1, .int _), (3, .int _)]) (st' := [.int 0, .ref _, .int _]) rfl ?_
      refine ev_cV DX4_take 17 (m_X4_bitAt (wset_get h) (wset_o h2 h rfl)) vX4_bitAt rfl qX4_32 rfl (wset_get h) rfl (hd_of rfl rfl rfl rfl) ?_
      refine ev_ss DX4_take 4 18 (pc' := 30) (lv' := [(2, .int _), (0, .ref _), (1, .int _), (3, .int _)]) (st' := [.ref _, .ref _]) rfl ?_
      refine ev_get DX4_take 22 GX4 rfl (k0 := 1) (Nat.le_of_ble_eq_true rfl) fX4_21 (wset_get h) rfl ?_
      refine ev_ss DX4_take 4 23 (pc' := 39) (lv' := [(2, .int _), (0, .ref _), (1, .int _), (3, .int _)]) (st' := [.int _, .ref _]) rfl ?_
      refine ev_put (fs' := [_, _, _]) DX4_take 27 GX4 rfl (k0 := 1) (Nat.le_of_ble_eq_true rfl) fX4_21 rfl ⟨rfl, rfl⟩ (wset_get h) (Nat.le_of_ble_eq_true rfl) rfl wset_set ?_
      refine ev_ss DX4_take 2 28 (pc' := 44) (lv' := [(2, .int _), (0, .ref _), (1, .int _), (3, .int _)]) (st' := [.ref _, .ref _]) rfl ?_
      refine ev_get DX4_take 30 GX4 rfl (k0 := 2) (Nat.le_of_ble_eq_true rfl) fX4_25 (wset_get h) rfl ?_
      refine ev_ss DX4_take 2 31 (pc' := 49) (lv' := [(2, .int _), (0, .ref _), (1, .int _), (3, .int _)]) (st' := [.int _, .ref _]) rfl ?_
      refine ev_put (fs' := [_, _, _]) DX4_take 33 GX4 rfl (k0 := 2) (Nat.le_of_ble_eq_true rfl) fX4_25 rfl ⟨rfl, rfl⟩ (wset_get h) (Nat.le_of_ble_eq_true rfl) rfl wset_set ?_
      refine ev_ss DX4_take 1 34 (pc' := 55) (lv' := [(3, .int _), (2, .int _), (0, .ref _), (1, .int _)]) (st' := []) rfl ?_
      refine ev_goto DX4_take 35 rfl (tgt := 4) (by decide) ?_
      refine ev_lvp (lv2 := [(0, .ref _), (1, .int _), (2, .int _), (3, .int _)]) [2, 3, 1, 0] rfl ?_
      exact ih (i + 1) (2 * sg + r (rix (st1 + 0))) _ _ bs1 _ _ (by omega) z3 (by rw [z2]; exact ht) (nI_1 i) rfl
end
section
abbrev stC (w0 w1 sg : Nat) (sd bt : Int32) : va_E := .inr (1, [.ref w0, .ref w1, .ref sg, .int sd, .int bt])
abbrev toA (E : gE) (f : Nat → Option Nat) : va_E := .inl (gK E 4, 8, .inr (.inr (.inr (.inr f))))
theorem ev_ldcw {E : gE} {Y : MI} {Pr : Option Value → va_W → Prop} {Px : String → va_W → Prop} {k n pc : Nat} {lv : List (Nat × Value)} {st : List Value} {ws : va_W} {L : LI} (D : Lst Y L) (i : Nat) {idx : Nat} {v : Int32} (hi : L[i]? = some (pc, .ldc_w idx, 3)) (hw : gw (.constant (mnm Y).cls idx v)) (kt : Ev E Y Pr Px k n (pc + 3) lv (.int v :: st) ws) : Ev E Y Pr Px k n pc lv st ws := by
  intro p e R s m args below meth c H locs cells slots ls hC hl hS hP hc hn
  have hd := D _ (List.mem_of_getElem? hi)
  exact lv_ldcw hC.1 hC.2.1 hC.2.2.2.2.2.2.1 (hC.2.2.2.2.2.1 _ hw) hd (kt p e R s m args below meth c H locs cells slots ls hC hl hS hP hc hn)
def drwS (sd : Int32) : Int32 := (((1103515245 : Int64) * sd.toInt64 + 12345) - ((1103515245 : Int64) * sd.toInt64 + 12345) / 2147483648 * 2147483648).toInt32
def drwV (s m : Int32) : Int32 := s / 65536 - s / 65536 / m * m
def drwN (sd : Int32) (f : TF) : Int32 := drwV (drwS sd) (2 * f 3 + 1) - f 3
def bcP (x : Int32) : Int32 :=
  let a := x - ((x.toUInt32 >>> ((1 : Int32).toUInt32 &&& Int32.toUInt32 31)).toInt32 &&& 1431655765)
  let b := (a &&& 858993459) + ((a.toUInt32 >>> ((2 : Int32).toUInt32 &&& Int32.toUInt32 31)).toInt32 &&& 858993459)
  let c := (b + (b.toUInt32 >>> ((4 : Int32).toUInt32 &&& Int32.toUInt32 31)).toInt32) &&& 252645135
  let d := c + (c.toUInt32 >>> ((8 : Int32).toUInt32 &&& Int32.toUInt32 31)).toInt32
  let e := d + (d.toUInt32 >>> ((16 : Int32).toUInt32 &&& Int32.toUInt32 31)).toInt32
  e &&& 63
def recL (lt : Int64) (b hd : Int32) : Int64 := ((lt <<< (b.toInt64 &&& 63)) ||| hd.toInt64) &&& 1152921504606846975
def sumN (g : Nat → Int32) : Nat → Int32
  | 0 => 0
  | n + 1 => sumN g n + g n
def cntB (f : TF) (wb : Int32) : TF := if wb ≤ 0 then cntP f 0 else cntP f 1
set_option maxRecDepth 100000 in
set_option maxHeartbeats 4000000 in
theorem m_X1_draw {E : gE} {ws : va_W} {q a w0 w1 sg : Nat} {sd bt : Int32} {m : Int32} (h : ws[q]? = some (a, stC w0 w1 sg sd bt)) (hm : ¬ m ≤ 0) : CD E YX1_draw 0 0 [.ref a, .int m] ws (some (.int (drwV (drwS sd) m))) (ws.set q (a, stC w0 w1 sg (drwS sd) bt)) := by
  refine cdV vX1_draw (Nat.le_of_ble_eq_true rfl) (lv0 := [(0, .ref a), (1, .int m)]) rfl ?_
  refine ev_ss DX1_draw 1 0 (pc' := 1) (lv' := [(0, .ref _), (1, .int _)]) (st' := [.ref _]) rfl ?_
  refine ev_ldc2 DX1_draw 1 rfl kX1_50 ?_
  refine ev_ss DX1_draw 1 2 (pc' := 5) (lv' := [(0, .ref _), (1, .int _)]) (st' := [.ref _, .long _, .ref _]) rfl ?_
  refine ev_get DX1_draw 3 GX1 rfl (k0 := 3) (Nat.le_of_ble_eq_true rfl) fX1_25 h rfl ?_
  refine ev_ss DX1_draw 2 4 (pc' := 10) (lv' := [(0, .ref _), (1, .int _)]) (st' := [.long _, .ref _]) rfl ?_
  refine ev_ldc2 DX1_draw 6 rfl kX1_52 ?_
  refine ev_ss DX1_draw 1 7 (pc' := 14) (lv' := [(0, .ref _), (1, .int _)]) (st' := [.long _, .ref _]) rfl ?_
  refine ev_ldc2 DX1_draw 8 rfl kX1_54 ?_
  refine ev_lrem DX1_draw 9 rfl (by decide) ?_
  refine ev_ss DX1_draw 1 10 (pc' := 19) (lv' := [(0, .ref _), (1, .int _)]) (st' := [.int _, .ref _]) rfl ?_
  refine ev_put (fs' := [_, _, _, _, _]) DX1_draw 11 GX1 rfl (k0 := 3) (Nat.le_of_ble_eq_true rfl) fX1_25 rfl ⟨rfl, rfl⟩ h (Nat.le_of_ble_eq_true rfl) rfl rfl ?_
  refine ev_ss DX1_draw 1 12 (pc' := 23) (lv' := [(0, .ref _), (1, .int _)]) (st' := [.int _]) rfl ?_
  refine ev_ifle DX1_draw 13 rfl (tgt := 38) (by decide) (fun h => absurd h hm) (fun _ => ?_)
  refine ev_ss DX1_draw 1 14 (pc' := 27) (lv' := [(0, .ref _), (1, .int _)]) (st' := [.ref _]) rfl ?_
  refine ev_get DX1_draw 15 GX1 rfl (k0 := 3) (Nat.le_of_ble_eq_true rfl) fX1_25 (wset_get h) rfl ?_
  refine ev_ldc DX1_draw 16 rfl kX1_56 ?_
  refine ev_idiv DX1_draw 17 rfl (by decide) ?_
  refine ev_ss DX1_draw 1 18 (pc' := 34) (lv' := [(0, .ref _), (1, .int _)]) (st' := [.int _, .int _]) rfl ?_
  refine ev_irem DX1_draw 19 rfl (fun e => hm (by rw [e]; decide)) ?_
  refine ev_goto DX1_draw 20 rfl (tgt := 39) (by decide) ?_
  exact ev_iret DX1_draw 22 rfl rfl ⟨rfl, rfl⟩
set_option maxRecDepth 100000 in
set_option maxHeartbeats 4000000 in
theorem m_X1_drawNoise {E : gE} {ws : va_W} {q a w0 w1 sg : Nat} {sd bt : Int32} {q2 a2 : Nat} {f : TF} (h : ws[q]? = some (a, stC w0 w1 sg sd bt)) (h2 : ws[q2]? = some (a2, toneC f)) (hm : ¬ 2 * f 3 + 1 ≤ 0) : CD E YX1_drawNoise 0 0 [.ref a, .ref a2] ws (some (.int (drwN sd f))) (ws.set q (a, stC w0 w1 sg (drwS sd) bt)) := by
  refine cdV vX1_drawNoise (Nat.le_of_ble_eq_true rfl) (lv0 := [(0, .ref a), (1, .ref a2)]) rfl ?_
  refine ev_ss DX1_drawNoise 3 0 (pc' := 3) (lv' := [(0, .ref _), (1, .ref _)]) (st' := [.ref _, .int 2, .ref _]) rfl ?_
  refine ev_get DX1_drawNoise 3 GX3 rfl (k0 := 3) (Nat.le_of_ble_eq_true rfl) fX1_57 h2 rfl ?_
  refine ev_ss DX1_drawNoise 3 4 (pc' := 9) (lv' := [(0, .ref _), (1, .ref _)]) (st' := [.int _, .ref _]) rfl ?_
  refine ev_cV DX1_drawNoise 7 (m_X1_draw h hm) vX1_draw rfl qX1_62 rfl h rfl (hd_of rfl rfl rfl rfl) ?_
  refine ev_ss DX1_drawNoise 1 8 (pc' := 13) (lv' := [(0, .ref _), (1, .ref _)]) (st' := [.ref _, .int _]) rfl ?_
  refine ev_get DX1_drawNoise 9 GX3 rfl (k0 := 3) (Nat.le_of_ble_eq_true rfl) fX1_57 (wset_o h2 h rfl) rfl ?_
  refine ev_ss DX1_drawNoise 1 10 (pc' := 17) (lv' := [(0, .ref _), (1, .ref _)]) (st' := [.int _]) rfl ?_
  exact ev_iret DX1_drawNoise 11 rfl rfl ⟨rfl, rfl⟩
set_option maxRecDepth 100000 in
set_option maxHeartbeats 4000000 in
theorem m_J6_bitCount {E : gE} {ws : va_W} {x : Int32} : CD E YJ6_bitCount_0f7a4 0 0 [.int x] ws (some (.int (bcP x))) ws := by
  refine cdS vJ6_bitCount_0f7a4 (Nat.le_of_ble_eq_true rfl) (lv0 := [(0, .int x)]) rfl ?_
  refine ev_ss DJ6_bitCount_0f7a4 4 0 (pc' := 4) (lv' := [(0, .int _)]) (st' := [.int _, .int _]) rfl ?_
  refine ev_ldcw DJ6_bitCount_0f7a4 4 rfl kJ6_265 ?_
  refine ev_ss DJ6_bitCount_0f7a4 4 5 (pc' := 11) (lv' := [(0, .int _)]) (st' := [.int _]) rfl ?_
  refine ev_ldcw DJ6_bitCount_0f7a4 9 rfl kJ6_266 ?_
  refine ev_ss DJ6_bitCount_0f7a4 4 10 (pc' := 18) (lv' := [(0, .int _)]) (st' := [.int _, .int _]) rfl ?_
  refine ev_ldcw DJ6_bitCount_0f7a4 14 rfl kJ6_266 ?_
  refine ev_ss DJ6_bitCount_0f7a4 8 15 (pc' := 29) (lv' := [(0, .int _)]) (st' := [.int _]) rfl ?_
  refine ev_ldcw DJ6_bitCount_0f7a4 23 rfl kJ6_267 ?_
  refine ev_ss DJ6_bitCount_0f7a4 17 24 (pc' := 52) (lv' := [(0, .int _)]) (st' := [.int _]) rfl ?_
  exact ev_iret DJ6_bitCount_0f7a4 41 rfl rfl ⟨rfl, rfl⟩
set_option maxRecDepth 100000 in
set_option maxHeartbeats 4000000 in
theorem m_X5_receive {E : gE} {ws : va_W} {q a ta wt : Nat} {lt : Int64} {cm wr : Int32} {hd b wb : Int32} (h : ws[q]? = some (a, wayC ta wt lt cm wr)) : CD E YX5_receive 0 0 [.ref a, .int hd, .int b, .int wb] ws none (ws.set q (a, wayC ta wt (recL lt b hd) (cm + b) (wr + wb))) := by
  refine cdV vX5_receive (Nat.le_of_ble_eq_true rfl) (lv0 := [(0, .ref a), (1, .int hd), (2, .int b), (3, .int wb)]) rfl ?_
  refine ev_ss DX5_receive 2 0 (pc' := 2) (lv' := [(0, .ref _), (1, .int _), (2, .int _), (3, .int _)]) (st' := [.ref _, .ref _]) rfl ?_
  refine ev_get DX5_receive 2 GX5 rfl (k0 := 2) (Nat.le_of_ble_eq_true rfl) fX5_32 h rfl ?_
  refine ev_ss DX5_receive 5 3 (pc' := 10) (lv' := [(0, .ref _), (1, .int _), (2, .int _), (3, .int _)]) (st' := [.long _, .ref _]) rfl ?_
  refine ev_ldc2 DX5_receive 8 rfl kX5_43 ?_
  refine ev_ss DX5_receive 1 9 (pc' := 14) (lv' := [(0, .ref _), (1, .int _), (2, .int _), (3, .int _)]) (st' := [.long _, .ref _]) rfl ?_
  refine ev_put (fs' := [_, _, _, _, _]) DX5_receive 10 GX5 rfl (k0 := 2) (Nat.le_of_ble_eq_true rfl) fX5_32 rfl ⟨rfl, rfl⟩ h (Nat.le_of_ble_eq_true rfl) rfl rfl ?_
  refine ev_ss DX5_receive 2 11 (pc' := 19) (lv' := [(0, .ref _), (1, .int _), (2, .int _), (3, .int _)]) (st' := [.ref _, .ref _]) rfl ?_
  refine ev_get DX5_receive 13 GX5 rfl (k0 := 3) (Nat.le_of_ble_eq_true rfl) fX5_36 (wset_get h) rfl ?_
  refine ev_ss DX5_receive 2 14 (pc' := 24) (lv' := [(0, .ref _), (1, .int _), (2, .int _), (3, .int _)]) (st' := [.int _, .ref _]) rfl ?_
  refine ev_put (fs' := [_, _, _, _, _]) DX5_receive 16 GX5 rfl (k0 := 3) (Nat.le_of_ble_eq_true rfl) fX5_36 rfl ⟨rfl, rfl⟩ (wset_get h) (Nat.le_of_ble_eq_true rfl) rfl wset_set ?_
  refine ev_ss DX5_receive 2 17 (pc' := 29) (lv' := [(0, .ref _), (1, .int _), (2, .int _), (3, .int _)]) (st' := [.ref _, .ref _]) rfl ?_
  refine ev_get DX5_receive 19 GX5 rfl (k0 := 4) (Nat.le_of_ble_eq_true rfl) fX5_40 (wset_get h) rfl ?_
  refine ev_ss DX5_receive 2 20 (pc' := 34) (lv' := [(0, .ref _), (1, .int _), (2, .int _), (3, .int _)]) (st' := [.int _, .ref _]) rfl ?_
  refine ev_put (fs' := [_, _, _, _, _]) DX5_receive 22 GX5 rfl (k0 := 4) (Nat.le_of_ble_eq_true rfl) fX5_40 rfl ⟨rfl, rfl⟩ (wset_get h) (Nat.le_of_ble_eq_true rfl) rfl wset_set ?_
  exact ev_vret DX5_receive 23 rfl rfl ⟨rfl, rfl⟩
set_option maxRecDepth 100000 in
set_option maxHeartbeats 4000000 in
theorem m_X5_bits {E : gE} {ws : va_W} {q a ta wt : Nat} {lt : Int64} {cm wr : Int32} {qa : Nat} {fa : Nat → Option Nat} {tn : Nat → Nat} {g : Nat → TF} (h2 : ws[qa]? = some (ta, toA E fa)) (hfa : ∀ t, t < 8 → fa t = some (tn t)) (ht : ∀ t, t < 8 → ∃ qt : Nat, ws[qt]? = some (tn t, toneC (g t))) (h : ws[q]? = some (a, wayC ta wt lt cm wr)) : CD E YX5_bits 0 0 [.ref a] ws (some (.int (sumN (fun t => g t 10) 8))) ws := by
  obtain ⟨qt0, hT0⟩ := ht 0 (by decide)
  obtain ⟨qt1, hT1⟩ := ht 1 (by decide)
  obtain ⟨qt2, hT2⟩ := ht 2 (by decide)
  obtain ⟨qt3, hT3⟩ := ht 3 (by decide)
  obtain ⟨qt4, hT4⟩ := ht 4 (by decide)
  obtain ⟨qt5, hT5⟩ := ht 5 (by decide)
  obtain ⟨qt6, hT6⟩ := ht 6 (by decide)
  obtain ⟨qt7, hT7⟩ := ht 7 (by decide)
  refine cdV vX5_bits (Nat.le_of_ble_eq_true rfl) (lv0 := [(0, .ref a)]) rfl ?_
  refine ev_ss DX5_bits 6 0 (pc' := 7) (lv' := [(2, .int 0), (1, .int 0), (0, .ref _)]) (st' := [.int 8, .int 0]) rfl ?_
  refine ev_icge DX5_bits 6 rfl (tgt := 28) (by decide) (fun h => absurd h (by decide)) (fun _ => ?_)
  refine ev_ss DX5_bits 2 7 (pc' := 12) (lv' := [(2, .int 0), (1, .int 0), (0, .ref _)]) (st' := [.ref _, .int 0]) rfl ?_
  refine ev_get DX5_bits 9 GX5 rfl (k0 := 0) (Nat.le_of_ble_eq_true rfl) fX5_11 h rfl ?_
  refine ev_ss DX5_bits 1 10 (pc' := 16) (lv' := [(2, .int 0), (1, .int 0), (0, .ref _)]) (st' := [.int 0, .ref _, .int 0]) rfl ?_
  refine ev_aald4 DX5_bits 11 rfl h2 (by unfold vp_in; decide) (b := tn 0) (hfa 0 (by decide)) ?_
  refine ev_get DX5_bits 12 GX3 rfl (k0 := 10) (Nat.le_of_ble_eq_true rfl) fX5_45 hT0 rfl ?_
  refine ev_ss DX5_bits 3 13 (pc' := 25) (lv' := [(2, .int 1), (1, .int _), (0, .ref _)]) (st' := []) rfl ?_
  refine ev_goto DX5_bits 16 rfl (tgt := 4) (by decide) ?_
  refine ev_ss DX5_bits 2 4 (pc' := 7) (lv' := [(2, .int 1), (1, .int _), (0, .ref _)]) (st' := [.int 8, .int 1]) rfl ?_
  refine ev_icge DX5_bits 6 rfl (tgt := 28) (by decide) (fun h => absurd h (by decide)) (fun _ => ?_)
  refine ev_ss DX5_bits 2 7 (pc' := 12) (lv' := [(2, .int 1), (1, .int _), (0, .ref _)]) (st' := [.ref _, .int _]) rfl ?_
  refine ev_get DX5_bits 9 GX5 rfl (k0 := 0) (Nat.le_of_ble_eq_true rfl) fX5_11 h rfl ?_
  refine ev_ss DX5_bits 1 10 (pc' := 16) (lv' := [(2, .int 1), (1, .int _), (0, .ref _)]) (st' := [.int 1, .ref _, .int _]) rfl ?_
  refine ev_aald4 DX5_bits 11 rfl h2 (by unfold vp_in; decide) (b := tn 1) (hfa 1 (by decide)) ?_
  refine ev_get DX5_bits 12 GX3 rfl (k0 := 10) (Nat.le_of_ble_eq_true rfl) fX5_45 hT1 rfl ?_
  refine ev_ss DX5_bits 3 13 (pc' := 25) (lv' := [(2, .int 2), (1, .int _), (0, .ref _)]) (st' := []) rfl ?_
  refine ev_goto DX5_bits 16 rfl (tgt := 4) (by decide) ?_
  refine ev_ss DX5_bits 2 4 (pc' := 7) (lv' := [(2, .int 2), (1, .int _), (0, .ref _)]) (st' := [.int 8, .int 2]) rfl ?_
  refine ev_icge DX5_bits 6 rfl (tgt := 28) (by decide) (fun h => absurd h (by decide)) (fun _ => ?_)
  refine ev_ss DX5_bits 2 7 (pc' := 12) (lv' := [(2, .int 2), (1, .int _), (0, .ref _)]) (st' := [.ref _, .int _]) rfl ?_
  refine ev_get DX5_bits 9 GX5 rfl (k0 := 0) (Nat.le_of_ble_eq_true rfl) fX5_11 h rfl ?_
  refine ev_ss DX5_bits 1 10 (pc' := 16) (lv' := [(2, .int 2), (1, .int _), (0, .ref _)]) (st' := [.int 2, .ref _, .int _]) rfl ?_
  refine ev_aald4 DX5_bits 11 rfl h2 (by unfold vp_in; decide) (b := tn 2) (hfa 2 (by decide)) ?_
  refine ev_get DX5_bits 12 GX3 rfl (k0 := 10) (Nat.le_of_ble_eq_true rfl) fX5_45 hT2 rfl ?_
  refine ev_ss DX5_bits 3 13 (pc' := 25) (lv' := [(2, .int 3), (1, .int _), (0, .ref _)]) (st' := []) rfl ?_
  refine ev_goto DX5_bits 16 rfl (tgt := 4) (by decide) ?_
  refine ev_ss DX5_bits 2 4 (pc' := 7) (lv' := [(2, .int 3), (1, .int _), (0, .ref _)]) (st' := [.int 8, .int 3]) rfl ?_
  refine ev_icge DX5_bits 6 rfl (tgt := 28) (by decide) (fun h => absurd h (by decide)) (fun _ => ?_)
  refine ev_ss DX5_bits 2 7 (pc' := 12) (lv' := [(2, .int 3), (1, .int _), (0, .ref _)]) (st' := [.ref _, .int _]) rfl ?_
  refine ev_get DX5_bits 9 GX5 rfl (k0 := 0) (Nat.le_of_ble_eq_true rfl) fX5_11 h rfl ?_
  refine ev_ss DX5_bits 1 10 (pc' := 16) (lv' := [(2, .int 3), (1, .int _), (0, .ref _)]) (st' := [.int 3, .ref _, .int _]) rfl ?_
  refine ev_aald4 DX5_bits 11 rfl h2 (by unfold vp_in; decide) (b := tn 3) (hfa 3 (by decide)) ?_
  refine ev_get DX5_bits 12 GX3 rfl (k0 := 10) (Nat.le_of_ble_eq_true rfl) fX5_45 hT3 rfl ?_
  refine ev_ss DX5_bits 3 13 (pc' := 25) (lv' := [(2, .int 4), (1, .int _), (0, .ref _)]) (st' := []) rfl ?_
  refine ev_goto DX5_bits 16 rfl (tgt := 4) (by decide) ?_
  refine ev_ss DX5_bits 2 4 (pc' := 7) (lv' := [(2, .int 4), (1, .int _), (0, .ref _)]) (st' := [.int 8, .int 4]) rfl ?_
  refine ev_icge DX5_bits 6 rfl (tgt := 28) (by decide) (fun h => absurd h (by decide)) (fun _ => ?_)
  refine ev_ss DX5_bits 2 7 (pc' := 12) (lv' := [(2, .int 4), (1, .int _), (0, .ref _)]) (st' := [.ref _, .int _]) rfl ?_
  refine ev_get DX5_bits 9 GX5 rfl (k0 := 0) (Nat.le_of_ble_eq_true rfl) fX5_11 h rfl ?_
  refine ev_ss DX5_bits 1 10 (pc' := 16) (lv' := [(2, .int 4), (1, .int _), (0, .ref _)]) (st' := [.int 4, .ref _, .int _]) rfl ?_
  refine ev_aald4 DX5_bits 11 rfl h2 (by unfold vp_in; decide) (b := tn 4) (hfa 4 (by decide)) ?_
  refine ev_get DX5_bits 12 GX3 rfl (k0 := 10) (Nat.le_of_ble_eq_true rfl) fX5_45 hT4 rfl ?_
  refine ev_ss DX5_bits 3 13 (pc' := 25) (lv' := [(2, .int 5), (1, .int _), (0, .ref _)]) (st' := []) rfl ?_
  refine ev_goto DX5_bits 16 rfl (tgt := 4) (by decide) ?_
  refine ev_ss DX5_bits 2 4 (pc' := 7) (lv' := [(2, .int 5), (1, .int _), (0, .ref _)]) (st' := [.int 8, .int 5]) rfl ?_
  refine ev_icge DX5_bits 6 rfl (tgt := 28) (by decide) (fun h => absurd h (by decide)) (fun _ => ?_)
  refine ev_ss DX5_bits 2 7 (pc' := 12) (lv' := [(2, .int 5), (1, .int _), (0, .ref _)]) (st' := [.ref _, .int _]) rfl ?_
  refine ev_get DX5_bits 9 GX5 rfl (k0 := 0) (Nat.le_of_ble_eq_true rfl) fX5_11 h rfl ?_
  refine ev_ss DX5_bits 1 10 (pc' := 16) (lv' := [(2, .int 5), (1, .int _), (0, .ref _)]) (st' := [.int 5, .ref _, .int _]) rfl ?_
  refine ev_aald4 DX5_bits 11 rfl h2 (by unfold vp_in; decide) (b := tn 5) (hfa 5 (by decide)) ?_
  refine ev_get DX5_bits 12 GX3 rfl (k0 := 10) (Nat.le_of_ble_eq_true rfl) fX5_45 hT5 rfl ?_
  refine ev_ss DX5_bits 3 13 (pc' := 25) (lv' := [(2, .int 6), (1, .int _), (0, .ref _)]) (st' := []) rfl ?_
  refine ev_goto DX5_bits 16 rfl (tgt := 4) (by decide) ?_
  refine ev_ss DX5_bits 2 4 (pc' := 7) (lv' := [(2, .int 6), (1, .int _), (0, .ref _)]) (st' := [.int 8, .int 6]) rfl ?_
  refine ev_icge DX5_bits 6 rfl (tgt := 28) (by decide) (fun h => absurd h (by decide)) (fun _ => ?_)
  refine ev_ss DX5_bits 2 7 (pc' := 12) (lv' := [(2, .int 6), (1, .int _), (0, .ref _)]) (st' := [.ref _, .int _]) rfl ?_
  refine ev_get DX5_bits 9 GX5 rfl (k0 := 0) (Nat.le_of_ble_eq_true rfl) fX5_11 h rfl ?_
  refine ev_ss DX5_bits 1 10 (pc' := 16) (lv' := [(2, .int 6), (1, .int _), (0, .ref _)]) (st' := [.int 6, .ref _, .int _]) rfl ?_
  refine ev_aald4 DX5_bits 11 rfl h2 (by unfold vp_in; decide) (b := tn 6) (hfa 6 (by decide)) ?_
  refine ev_get DX5_bits 12 GX3 rfl (k0 := 10) (Nat.le_of_ble_eq_true rfl) fX5_45 hT6 rfl ?_
  refine ev_ss DX5_bits 3 13 (pc' := 25) (lv' := [(2, .int 7), (1, .int _), (0, .ref _)]) (st' := []) rfl ?_
  refine ev_goto DX5_bits 16 rfl (tgt := 4) (by decide) ?_
  refine ev_ss DX5_bits 2 4 (pc' := 7) (lv' := [(2, .int 7), (1, .int _), (0, .ref _)]) (st' := [.int 8, .int 7]) rfl ?_
  refine ev_icge DX5_bits 6 rfl (tgt := 28) (by decide) (fun h => absurd h (by decide)) (fun _ => ?_)
  refine ev_ss DX5_bits 2 7 (pc' := 12) (lv' := [(2, .int 7), (1, .int _), (0, .ref _)]) (st' := [.ref _, .int _]) rfl ?_
  refine ev_get DX5_bits 9 GX5 rfl (k0 := 0) (Nat.le_of_ble_eq_true rfl) fX5_11 h rfl ?_
  refine ev_ss DX5_bits 1 10 (pc' := 16) (lv' := [(2, .int 7), (1, .int _), (0, .ref _)]) (st' := [.int 7, .ref _, .int _]) rfl ?_
  refine ev_aald4 DX5_bits 11 rfl h2 (by unfold vp_in; decide) (b := tn 7) (hfa 7 (by decide)) ?_
  refine ev_get DX5_bits 12 GX3 rfl (k0 := 10) (Nat.le_of_ble_eq_true rfl) fX5_45 hT7 rfl ?_
  refine ev_ss DX5_bits 3 13 (pc' := 25) (lv' := [(2, .int 8), (1, .int _), (0, .ref _)]) (st' := []) rfl ?_
  refine ev_goto DX5_bits 16 rfl (tgt := 4) (by decide) ?_
  refine ev_ss DX5_bits 2 4 (pc' := 7) (lv' := [(2, .int 8), (1, .int _), (0, .ref _)]) (st' := [.int 8, .int 8]) rfl ?_
  refine ev_icge DX5_bits 6 rfl (tgt := 28) (by decide) (fun _ => ?_) (fun h => h.elim (by decide))
  refine ev_ss DX5_bits 1 17 (pc' := 29) (lv' := [(2, .int 8), (1, .int _), (0, .ref _)]) (st' := [.int _]) rfl ?_
  exact ev_iret DX5_bits 18 rfl rfl ⟨rfl, rfl⟩
set_option maxRecDepth 100000 in
set_option maxHeartbeats 4000000 in
theorem m_X5_shies {E : gE} {ws : va_W} {q a ta wt : Nat} {lt : Int64} {cm wr : Int32} {qa : Nat} {fa : Nat → Option Nat} {tn : Nat → Nat} {g : Nat → TF} (h2 : ws[qa]? = some (ta, toA E fa)) (hfa : ∀ t, t < 8 → fa t = some (tn t)) (ht : ∀ t, t < 8 → ∃ qt : Nat, ws[qt]? = some (tn t, toneC (g t))) (h : ws[q]? = some (a, wayC ta wt lt cm wr)) : CD E YX5_shies 0 0 [.ref a] ws (some (.int (sumN (fun t => g t 13) 8))) ws := by
  obtain ⟨qt0, hT0⟩ := ht 0 (by decide)
  obtain ⟨qt1, hT1⟩ := ht 1 (by decide)
  obtain ⟨qt2, hT2⟩ := ht 2 (by decide)
  obtain ⟨qt3, hT3⟩ := ht 3 (by decide)
  obtain ⟨qt4, hT4⟩ := ht 4 (by decide)
  obtain ⟨qt5, hT5⟩ := ht 5 (by decide)
  obtain ⟨qt6, hT6⟩ := ht 6 (by decide)
  obtain ⟨qt7, hT7⟩ := ht 7 (by decide)
  refine cdV vX5_shies (Nat.le_of_ble_eq_true rfl) (lv0 := [(0, .ref a)]) rfl ?_
  refine ev_ss DX5_shies 6 0 (pc' := 7) (lv' := [(2, .int 0), (1, .int 0), (0, .ref _)]) (st' := [.int 8, .int 0]) rfl ?_
  refine ev_icge DX5_shies 6 rfl (tgt := 28) (by decide) (fun h => absurd h (by decide)) (fun _ => ?_)
  refine ev_ss DX5_shies 2 7 (pc' := 12) (lv' := [(2, .int 0), (1, .int 0), (0, .ref _)]) (st' := [.ref _, .int 0]) rfl ?_
  refine ev_get DX5_shies 9 GX5 rfl (k0 := 0) (Nat.le_of_ble_eq_true rfl) fX5_11 h rfl ?_
  refine ev_ss DX5_shies 1 10 (pc' := 16) (lv' := [(2, .int 0), (1, .int 0), (0, .ref _)]) (st' := [.int 0, .ref _, .int 0]) rfl ?_
  refine ev_aald4 DX5_shies 11 rfl h2 (by unfold vp_in; decide) (b := tn 0) (hfa 0 (by decide)) ?_
  refine ev_get DX5_shies 12 GX3 rfl (k0 := 13) (Nat.le_of_ble_eq_true rfl) fX5_48 hT0 rfl ?_
  refine ev_ss DX5_shies 3 13 (pc' := 25) (lv' := [(2, .int 1), (1, .int _), (0, .ref _)]) (st' := []) rfl ?_
  refine ev_goto DX5_shies 16 rfl (tgt := 4) (by decide) ?_
  refine ev_ss DX5_shies 2 4 (pc' := 7) (lv' := [(2, .int 1), (1, .int _), (0, .ref _)]) (st' := [.int 8, .int 1]) rfl ?_
  refine ev_icge DX5_shies 6 rfl (tgt := 28) (by decide) (fun h => absurd h (by decide)) (fun _ => ?_)
  refine ev_ss DX5_shies 2 7 (pc' := 12) (lv' := [(2, .int 1), (1, .int _), (0, .ref _)]) (st' := [.ref _, .int _]) rfl ?_
  refine ev_get DX5_shies 9 GX5 rfl (k0 := 0) (Nat.le_of_ble_eq_true rfl) fX5_11 h rfl ?_
  refine ev_ss DX5_shies 1 10 (pc' := 16) (lv' := [(2, .int 1), (1, .int _), (0, .ref _)]) (st' := [.int 1, .ref _, .int _]) rfl ?_
  refine ev_aald4 DX5_shies 11 rfl h2 (by unfold vp_in; decide) (b := tn 1) (hfa 1 (by decide)) ?_
  refine ev_get DX5_shies 12 GX3 rfl (k0 := 13) (Nat.le_of_ble_eq_true rfl) fX5_48 hT1 rfl ?_
  refine ev_ss DX5_shies 3 13 (pc' := 25) (lv' := [(2, .int 2), (1, .int _), (0, .ref _)]) (st' := []) rfl ?_
  refine ev_goto DX5_shies 16 rfl (tgt := 4) (by decide) ?_
  refine ev_ss DX5_shies 2 4 (pc' := 7) (lv' := [(2, .int 2), (1, .int _), (0, .ref _)]) (st' := [.int 8, .int 2]) rfl ?_
  refine ev_icge DX5_shies 6 rfl (tgt := 28) (by decide) (fun h => absurd h (by decide)) (fun _ => ?_)
  refine ev_ss DX5_shies 2 7 (pc' := 12) (lv' := [(2, .int 2), (1, .int _), (0, .ref _)]) (st' := [.ref _, .int _]) rfl ?_
  refine ev_get DX5_shies 9 GX5 rfl (k0 := 0) (Nat.le_of_ble_eq_true rfl) fX5_11 h rfl ?_
  refine ev_ss DX5_shies 1 10 (pc' := 16) (lv' := [(2, .int 2), (1, .int _), (0, .ref _)]) (st' := [.int 2, .ref _, .int _]) rfl ?_
  refine ev_aald4 DX5_shies 11 rfl h2 (by unfold vp_in; decide) (b := tn 2) (hfa 2 (by decide)) ?_
  refine ev_get DX5_shies 12 GX3 rfl (k0 := 13) (Nat.le_of_ble_eq_true rfl) fX5_48 hT2 rfl ?_
  refine ev_ss DX5_shies 3 13 (pc' := 25) (lv' := [(2, .int 3), (1, .int _), (0, .ref _)]) (st' := []) rfl ?_
  refine ev_goto DX5_shies 16 rfl (tgt := 4) (by decide) ?_
  refine ev_ss DX5_shies 2 4 (pc' := 7) (lv' := [(2, .int 3), (1, .int _), (0, .ref _)]) (st' := [.int 8, .int 3]) rfl ?_
  refine ev_icge DX5_shies 6 rfl (tgt := 28) (by decide) (fun h => absurd h (by decide)) (fun _ => ?_)
  refine ev_ss DX5_shies 2 7 (pc' := 12) (lv' := [(2, .int 3), (1, .int _), (0, .ref _)]) (st' := [.ref _, .int _]) rfl ?_
  refine ev_get DX5_shies 9 GX5 rfl (k0 := 0) (Nat.le_of_ble_eq_true rfl) fX5_11 h rfl ?_
  refine ev_ss DX5_shies 1 10 (pc' := 16) (lv' := [(2, .int 3), (1, .int _), (0, .ref _)]) (st' := [.int 3, .ref _, .int _]) rfl ?_
  refine ev_aald4 DX5_shies 11 rfl h2 (by unfold vp_in; decide) (b := tn 3) (hfa 3 (by decide)) ?_
  refine ev_get DX5_shies 12 GX3 rfl (k0 := 13) (Nat.le_of_ble_eq_true rfl) fX5_48 hT3 rfl ?_
  refine ev_ss DX5_shies 3 13 (pc' := 25) (lv' := [(2, .int 4), (1, .int _), (0, .ref _)]) (st' := []) rfl ?_
  refine ev_goto DX5_shies 16 rfl (tgt := 4) (by decide) ?_
  refine ev_ss DX5_shies 2 4 (pc' := 7) (lv' := [(2, .int 4), (1, .int _), (0, .ref _)]) (st' := [.int 8, .int 4]) rfl ?_
  refine ev_icge DX5_shies 6 rfl (tgt := 28) (by decide) (fun h => absurd h (by decide)) (fun _ => ?_)
  refine ev_ss DX5_shies 2 7 (pc' := 12) (lv' := [(2, .int 4), (1, .int _), (0, .ref _)]) (st' := [.ref _, .int _]) rfl ?_
  refine ev_get DX5_shies 9 GX5 rfl (k0 := 0) (Nat.le_of_ble_eq_true rfl) fX5_11 h rfl ?_
  refine ev_ss DX5_shies 1 10 (pc' := 16) (lv' := [(2, .int 4), (1, .int _), (0, .ref _)]) (st' := [.int 4, .ref _, .int _]) rfl ?_
  refine ev_aald4 DX5_shies 11 rfl h2 (by unfold vp_in; decide) (b := tn 4) (hfa 4 (by decide)) ?_
  refine ev_get DX5_shies 12 GX3 rfl (k0 := 13) (Nat.le_of_ble_eq_true rfl) fX5_48 hT4 rfl ?_
  refine ev_ss DX5_shies 3 13 (pc' := 25) (lv' := [(2, .int 5), (1, .int _), (0, .ref _)]) (st' := []) rfl ?_
  refine ev_goto DX5_shies 16 rfl (tgt := 4) (by decide) ?_
  refine ev_ss DX5_shies 2 4 (pc' := 7) (lv' := [(2, .int 5), (1, .int _), (0, .ref _)]) (st' := [.int 8, .int 5]) rfl ?_
  refine ev_icge DX5_shies 6 rfl (tgt := 28) (by decide) (fun h => absurd h (by decide)) (fun _ => ?_)
  refine ev_ss DX5_shies 2 7 (pc' := 12) (lv' := [(2, .int 5), (1, .int _), (0, .ref _)]) (st' := [.ref _, .int _]) rfl ?_
  refine ev_get DX5_shies 9 GX5 rfl (k0 := 0) (Nat.le_of_ble_eq_true rfl) fX5_11 h rfl ?_
  refine ev_ss DX5_shies 1 10 (pc' := 16) (lv' := [(2, .int 5), (1, .int _), (0, .ref _)]) (st' := [.int 5, .ref _, .int _]) rfl ?_
  refine ev_aald4 DX5_shies 11 rfl h2 (by unfold vp_in; decide) (b := tn 5) (hfa 5 (by decide)) ?_
  refine ev_get DX5_shies 12 GX3 rfl (k0 := 13) (Nat.le_of_ble_eq_true rfl) fX5_48 hT5 rfl ?_
  refine ev_ss DX5_shies 3 13 (pc' := 25) (lv' := [(2, .int 6), (1, .int _), (0, .ref _)]) (st' := []) rfl ?_
  refine ev_goto DX5_shies 16 rfl (tgt := 4) (by decide) ?_
  refine ev_ss DX5_shies 2 4 (pc' := 7) (lv' := [(2, .int 6), (1, .int _), (0, .ref _)]) (st' := [.int 8, .int 6]) rfl ?_
  refine ev_icge DX5_shies 6 rfl (tgt := 28) (by decide) (fun h => absurd h (by decide)) (fun _ => ?_)
  refine ev_ss DX5_shies 2 7 (pc' := 12) (lv' := [(2, .int 6), (1, .int _), (0, .ref _)]) (st' := [.ref _, .int _]) rfl ?_
  refine ev_get DX5_shies 9 GX5 rfl (k0 := 0) (Nat.le_of_ble_eq_true rfl) fX5_11 h rfl ?_
  refine ev_ss DX5_shies 1 10 (pc' := 16) (lv' := [(2, .int 6), (1, .int _), (0, .ref _)]) (st' := [.int 6, .ref _, .int _]) rfl ?_
  refine ev_aald4 DX5_shies 11 rfl h2 (by unfold vp_in; decide) (b := tn 6) (hfa 6 (by decide)) ?_
  refine ev_get DX5_shies 12 GX3 rfl (k0 := 13) (Nat.le_of_ble_eq_true rfl) fX5_48 hT6 rfl ?_
  refine ev_ss DX5_shies 3 13 (pc' := 25) (lv' := [(2, .int 7), (1, .int _), (0, .ref _)]) (st' := []) rfl ?_
  refine ev_goto DX5_shies 16 rfl (tgt := 4) (by decide) ?_
  refine ev_ss DX5_shies 2 4 (pc' := 7) (lv' := [(2, .int 7), (1, .int _), (0, .ref _)]) (st' := [.int 8, .int 7]) rfl ?_
  refine ev_icge DX5_shies 6 rfl (tgt := 28) (by decide) (fun h => absurd h (by decide)) (fun _ => ?_)
  refine ev_ss DX5_shies 2 7 (pc' := 12) (lv' := [(2, .int 7), (1, .int _), (0, .ref _)]) (st' := [.ref _, .int _]) rfl ?_
  refine ev_get DX5_shies 9 GX5 rfl (k0 := 0) (Nat.le_of_ble_eq_true rfl) fX5_11 h rfl ?_
  refine ev_ss DX5_shies 1 10 (pc' := 16) (lv' := [(2, .int 7), (1, .int _), (0, .ref _)]) (st' := [.int 7, .ref _, .int _]) rfl ?_
  refine ev_aald4 DX5_shies 11 rfl h2 (by unfold vp_in; decide) (b := tn 7) (hfa 7 (by decide)) ?_
  refine ev_get DX5_shies 12 GX3 rfl (k0 := 13) (Nat.le_of_ble_eq_true rfl) fX5_48 hT7 rfl ?_
  refine ev_ss DX5_shies 3 13 (pc' := 25) (lv' := [(2, .int 8), (1, .int _), (0, .ref _)]) (st' := []) rfl ?_
  refine ev_goto DX5_shies 16 rfl (tgt := 4) (by decide) ?_
  refine ev_ss DX5_shies 2 4 (pc' := 7) (lv' := [(2, .int 8), (1, .int _), (0, .ref _)]) (st' := [.int 8, .int 8]) rfl ?_
  refine ev_icge DX5_shies 6 rfl (tgt := 28) (by decide) (fun _ => ?_) (fun h => h.elim (by decide))
  refine ev_ss DX5_shies 1 17 (pc' := 29) (lv' := [(2, .int 8), (1, .int _), (0, .ref _)]) (st' := [.int _]) rfl ?_
  exact ev_iret DX5_shies 18 rfl rfl ⟨rfl, rfl⟩
def insP (g : Nat → TF) (t : Nat) : Int32 := if g t 4 = 0 then 0 else 1
set_option maxRecDepth 100000 in
set_option maxHeartbeats 4000000 in
theorem m_X5_insulted {E : gE} {ws : va_W} {q a ta wt : Nat} {lt : Int64} {cm wr : Int32} {qa : Nat} {fa : Nat → Option Nat} {tn : Nat → Nat} {g : Nat → TF} (h2 : ws[qa]? = some (ta, toA E fa)) (hfa : ∀ t, t < 8 → fa t = some (tn t)) (ht : ∀ t, t < 8 → ∃ qt : Nat, ws[qt]? = some (tn t, toneC (g t))) (h : ws[q]? = some (a, wayC ta wt lt cm wr)) : CD E YX5_insulted 0 0 [.ref a] ws (some (.int (sumN (insP g) 8))) ws := by
  refine cdV vX5_insulted (Nat.le_of_ble_eq_true rfl) (lv0 := [(0, .ref a)]) rfl ?_
  suffices K : ∀ (m i : Nat) (x : Int32), i + m = 8 → x = nI i → Ev E YX5_insulted (fun v2 w2 => v2 = some (.int (sumN (insP g) 8)) ∧ w2 = ws) nX 0 0 4 [(0, .ref a), (1, .int (sumN (insP g) i)), (2, .int x)] [] ws by
    refine ev_ss DX5_insulted 4 0 (pc' := 4) (lv' := [(2, .int 0), (1, .int 0), (0, .ref _)]) (st' := []) rfl ?_
    refine ev_lvp (lv2 := [(0, .ref _), (1, .int _), (2, .int _)]) [2, 1, 0] rfl ?_
    exact K 8 0 _ rfl nI_0.symm
  intro m
  induction m with
  | zero =>
    intro i x hi hx
    obtain rfl : i = 8 := by omega
    subst hx
    refine ev_ss DX5_insulted 2 4 (pc' := 7) (lv' := [(0, .ref _), (1, .int _), (2, .int _)]) (st' := [.int 8, .int _]) rfl ?_
    refine ev_icge DX5_insulted 6 rfl (tgt := 36) (by decide) (fun _ => ?_) (fun h => h.elim (by decide))
    refine ev_ss DX5_insulted 1 21 (pc' := 37) (lv' := [(0, .ref _), (1, .int _), (2, .int _)]) (st' := [.int _]) rfl ?_
    exact ev_iret DX5_insulted 22 rfl rfl ⟨rfl, rfl⟩
  | succ m ih =>
    intro i x hi hx
    subst hx
    obtain ⟨qt, hT⟩ := ht i (by omega)
    refine ev_ss DX5_insulted 2 4 (pc' := 7) (lv' := [(0, .ref _), (1, .int _), (2, .int _)]) (st' := [.int 8, .int _]) rfl ?_
    refine ev_icge DX5_insulted 6 rfl (tgt := 36) (by decide) (fun h => absurd h (nI_ge (b := 8) (by omega) (by decide))) (fun _ => ?_)
    refine ev_ss DX5_insulted 2 7 (pc' := 12) (lv' := [(0, .ref _), (1, .int _), (2, .int _)]) (st' := [.ref _, .int _]) rfl ?_
    refine ev_get DX5_insulted 9 GX5 rfl (k0 := 0) (Nat.le_of_ble_eq_true rfl) fX5_11 h rfl ?_
    refine ev_ss DX5_insulted 1 10 (pc' := 16) (lv' := [(0, .ref _), (1, .int _), (2, .int _)]) (st' := [.int _, .ref _, .int _]) rfl ?_
    refine ev_aald4 DX5_insulted 11 rfl h2 (vp_in_nI (by omega) (by decide)) (b := tn i) (by rw [nI_clamp (by omega)]; exact hfa i (by omega)) ?_
    refine ev_get DX5_insulted 12 GX3 rfl (k0 := 4) (Nat.le_of_ble_eq_true rfl) fX5_51 hT rfl ?_
    refine ev_ifeq DX5_insulted 13 rfl (tgt := 27) (by decide) (fun c_1 => ?_) (fun c_1 => ?_)
    · refine ev_ss DX5_insulted 4 16 (pc' := 33) (lv' := [(2, .int _), (1, .int _), (0, .ref _)]) (st' := []) rfl ?_
      refine ev_goto DX5_insulted 20 rfl (tgt := 4) (by decide) ?_
      refine ev_lvp (lv2 := [(0, .ref _), (1, .int _), (2, .int _)]) [2, 1, 0] rfl ?_
      have e : sumN (insP g) (i + 1) = sumN (insP g) i + insP g i := rfl
      have e2 : insP g i = 0 := if_pos c_1
      rw [e2] at e
      have e3 := ih (i + 1) (nI i + 1) (by omega) (nI_1 i)
      rw [e] at e3
      exact e3
    · refine ev_ss DX5_insulted 1 14 (pc' := 24) (lv' := [(0, .ref _), (1, .int _), (2, .int _)]) (st' := [.int 1, .int _]) rfl ?_
      refine ev_goto DX5_insulted 15 rfl (tgt := 28) (by decide) ?_
      refine ev_ss DX5_insulted 3 17 (pc' := 33) (lv' := [(2, .int _), (1, .int _), (0, .ref _)]) (st' := []) rfl ?_
      refine ev_goto DX5_insulted 20 rfl (tgt := 4) (by decide) ?_
      refine ev_lvp (lv2 := [(0, .ref _), (1, .int _), (2, .int _)]) [2, 1, 0] rfl ?_
      have e : sumN (insP g) (i + 1) = sumN (insP g) i + insP g i := rfl
      have e2 : insP g i = 1 := if_neg c_1
      rw [e2] at e
      have e3 := ih (i + 1) (nI i + 1) (by omega) (nI_1 i)
      rw [e] at e3
      exact e3
set_option maxRecDepth 100000 in
set_option maxHeartbeats 4000000 in
theorem m_X1_wayAt_0 {E : gE} {ws : va_W} {q a w0 w1 sg : Nat} {sd bt : Int32} (h : ws[q]? = some (a, stC w0 w1 sg sd bt)) : CD E YX1_wayAt 0 0 [.ref a, .int 0] ws (some (.ref w0)) ws := by
  refine cdV vX1_wayAt (Nat.le_of_ble_eq_true rfl) (lv0 := [(0, .ref a), (1, .int 0)]) rfl ?_
  refine ev_ss DX1_wayAt 1 0 (pc' := 1) (lv' := [(0, .ref _), (1, .int 0)]) (st' := [.int 0]) rfl ?_
  refine ev_ifne DX1_wayAt 1 rfl (tgt := 11) (by decide) (fun h => h.elim (by decide)) (fun _ => ?_)
  refine ev_ss DX1_wayAt 1 2 (pc' := 5) (lv' := [(0, .ref _), (1, .int 0)]) (st' := [.ref _]) rfl ?_
  refine ev_get DX1_wayAt 3 GX1 rfl (k0 := 0) (Nat.le_of_ble_eq_true rfl) fX1_12 h rfl ?_
  refine ev_goto DX1_wayAt 4 rfl (tgt := 15) (by decide) ?_
  exact ev_aret DX1_wayAt 7 rfl rfl ⟨rfl, rfl⟩
set_option maxRecDepth 100000 in
set_option maxHeartbeats 4000000 in
theorem m_X1_wayAt_1 {E : gE} {ws : va_W} {q a w0 w1 sg : Nat} {sd bt : Int32} (h : ws[q]? = some (a, stC w0 w1 sg sd bt)) : CD E YX1_wayAt 0 0 [.ref a, .int 1] ws (some (.ref w1)) ws := by
  refine cdV vX1_wayAt (Nat.le_of_ble_eq_true rfl) (lv0 := [(0, .ref a), (1, .int 1)]) rfl ?_
  refine ev_ss DX1_wayAt 1 0 (pc' := 1) (lv' := [(0, .ref _), (1, .int 1)]) (st' := [.int 1]) rfl ?_
  refine ev_ifne DX1_wayAt 1 rfl (tgt := 11) (by decide) (fun _ => ?_) (fun h => absurd h (by decide))
  refine ev_ss DX1_wayAt 1 5 (pc' := 12) (lv' := [(0, .ref _), (1, .int 1)]) (st' := [.ref _]) rfl ?_
  refine ev_get DX1_wayAt 6 GX1 rfl (k0 := 1) (Nat.le_of_ble_eq_true rfl) fX1_18 h rfl ?_
  exact ev_aret DX1_wayAt 7 rfl rfl ⟨rfl, rfl⟩
end
section
theorem m_X4_takeX {E : gE} {ws : va_W} {q a qr ar : Nat} {r : Nat → Int32} {st sz x : Int32} {bs : List Int32} {n : Nat} (hx : x = nI n) (hn : n ≤ 4) (h : ws[q]? = some (a, waitC ar st sz)) (h2 : ws[qr]? = some (ar, iaC E 256 r)) (hq : RQ r st sz bs) :
    C0 E YX4_take 0 0 [.ref a, .int x] ws (fun v w => v = some (.int (takeQ n 0 bs).1) ∧ ∃ st2 sz2, RQ r st2 sz2 (takeQ n 0 bs).2 ∧ w = ws.set q (a, waitC ar st2 sz2)) := by
  subst hx
  exact m_X4_take n hn h h2 hq
/-- what a sign is sent with: the sign, its amplitude, the sign that is heard, how many of its bits are wrong -/
def sgV (f : TF) (bs : List Int32) : Int32 := (takeQ (f 10).toNatClampNeg 0 bs).1
def sgA (f : TF) (bs : List Int32) : Int32 := ampP (f 10) (sgV f bs)
def sgH (sd : Int32) (f : TF) (bs : List Int32) : Int32 := decP f (arrP f (sgA f bs) (drwN sd f))
def sgW (sd : Int32) (f : TF) (bs : List Int32) : Int32 := bcP (sgV f bs ^^^ sgH sd f bs)
def sgF (sd : Int32) (f : TF) (bs : List Int32) : TF := cntB (passP f (sgA f bs) (ampP (f 10) (sgH sd f bs))) (sgW sd f bs)
def sgB (f : TF) (bs : List Int32) : List Int32 := (takeQ (f 10).toNatClampNeg 0 bs).2
theorem cnt10 (f : TF) (b : Int32) : cntP f b 10 = f 10 := by
  unfold cntP
  split <;> split <;> simp [upd]
theorem s4 {X : va_W} {qt at0 qw aw : Nat} {g g2 : TF} {v v2 : va_E} (h1 : g = g2) (h2 : v = v2) : (X.set qt (at0, toneC g)).set qw (aw, v) = (X.set qt (at0, toneC g2)).set qw (aw, v2) := by rw [h1, h2]
/-- a tone that can be walked -/
def TS (f : TF) : Prop := ∃ n : Nat, n ≤ 4 ∧ f 10 = nI n ∧ ¬ f 7 ≤ 0 ∧ ¬ 2 * f 3 + 1 ≤ 0
set_option maxRecDepth 100000 in
set_option maxHeartbeats 4000000 in
theorem m_X1_sendSign_raw {E : gE} {ws : va_W} {qs as w0 w1 sg qw aw ta wt qr ar qt at0 : Nat} {sd bt cm wr st sz : Int32} {lt : Int64} {r : Nat → Int32} {f : TF} {bs : List Int32} (hs : ws[qs]? = some (as, stC w0 w1 sg sd bt)) (hw : ws[qw]? = some (aw, wayC ta wt lt cm wr)) {qq : Nat} (hq : ws[qq]? = some (wt, waitC ar st sz)) (hr : ws[qr]? = some (ar, iaC E 256 r)) (hT : ws[qt]? = some (at0, toneC f)) (hR : RQ r st sz bs) (hf : TS f) : C0 E YX1_sendSign 0 0 [.ref as, .ref aw, .ref at0] ws (fun v w => v = some (.int (sgW sd f bs)) ∧ ∃ st2 sz2, RQ r st2 sz2 (sgB f bs) ∧
      w = (((ws.set qq (wt, waitC ar st2 sz2)).set qs (as, stC w0 w1 sg (drwS sd) bt)).set qt (at0, toneC (sgF sd f bs))).set qw (aw, wayC ta wt (recL lt (f 10) (sgH sd f bs)) (cm + f 10) (wr + sgW sd f bs))) := by
  obtain ⟨n, hn, hb, hg, hm⟩ := hf
  have hbn : (f 10).toNatClampNeg = n := by rw [hb, nI_clamp (by omega)]
  refine c0V vX1_sendSign (Nat.le_of_ble_eq_true rfl) (lv0 := [(0, .ref as), (1, .ref aw), (2, .ref at0)]) rfl ?_
  refine ev_ss DX1_sendSign 1 0 (pc' := 1) (lv' := [(0, .ref _), (1, .ref _), (2, .ref _)]) (st' := [.ref _]) rfl ?_
  refine ev_get DX1_sendSign 1 GX5 rfl (k0 := 1) (Nat.le_of_ble_eq_true rfl) fX1_78 hw rfl ?_
  refine ev_ss DX1_sendSign 1 2 (pc' := 5) (lv' := [(0, .ref _), (1, .ref _), (2, .ref _)]) (st' := [.ref _, .ref _]) rfl ?_
  refine ev_get DX1_sendSign 3 GX3 rfl (k0 := 10) (Nat.le_of_ble_eq_true rfl) fX1_82 hT rfl ?_
  refine ev_rV DX1_sendSign 4 (m_X4_takeX hb hn hq hr hR) vX4_take rfl qX1_85 rfl hq rfl (hd_of rfl rfl rfl rfl) (fun v w hvw => ?_)
  obtain ⟨rfl, st2, sz2, hq2, rfl⟩ := hvw
  refine ev_ss DX1_sendSign 3 5 (pc' := 14) (lv' := [(3, .int _), (0, .ref _), (1, .ref _), (2, .ref _)]) (st' := [.int _, .ref _]) rfl ?_
  refine ev_cV DX1_sendSign 8 (m_X3_amplitudeOf (wset_o hT hq rfl)) vX3_amplitudeOf rfl qX1_90 rfl (wset_o hT hq rfl) rfl (hd_of rfl rfl rfl rfl) ?_
  refine ev_ss DX1_sendSign 6 9 (pc' := 25) (lv' := [(4, .int _), (3, .int _), (0, .ref _), (1, .ref _), (2, .ref _)]) (st' := [.ref _, .ref _, .int _, .ref _, .ref _]) rfl ?_
  refine ev_cV DX1_sendSign 15 (m_X1_drawNoise (wset_o hs hq rfl) (wset_o hT hq rfl) hm) vX1_drawNoise rfl qX1_93 rfl (wset_o hs hq rfl) rfl (hd_of rfl rfl rfl rfl) ?_
  refine ev_cV DX1_sendSign 16 (m_X3_arriving (wset_o (wset_o hT hq rfl) (wset_o hs hq rfl) rfl)) vX3_arriving rfl qX1_97 rfl (wset_o (wset_o hT hq rfl) (wset_o hs hq rfl) rfl) rfl (hd_of rfl rfl rfl rfl) ?_
  refine ev_cV DX1_sendSign 17 (m_X3_decide (wset_o (wset_o hT hq rfl) (wset_o hs hq rfl) rfl) hg) vX3_decide rfl qX1_101 rfl (wset_o (wset_o hT hq rfl) (wset_o hs hq rfl) rfl) rfl (hd_of rfl rfl rfl rfl) ?_
  refine ev_ss DX1_sendSign 4 18 (pc' := 40) (lv' := [(5, .int _), (4, .int _), (3, .int _), (0, .ref _), (1, .ref _), (2, .ref _)]) (st' := [.int _]) rfl ?_
  refine ev_cS DX1_sendSign 22 m_J6_bitCount vJ6_bitCount_0f7a4 rfl qX1_104 rfl (hd_of rfl rfl rfl rfl) ?_
  refine ev_ss DX1_sendSign 5 23 (pc' := 51) (lv' := [(6, .int _), (5, .int _), (4, .int _), (3, .int _), (0, .ref _), (1, .ref _), (2, .ref _)]) (st' := [.int _, .ref _, .int _, .ref _]) rfl ?_
  refine ev_cV DX1_sendSign 28 (m_X3_amplitudeOf (wset_o (wset_o hT hq rfl) (wset_o hs hq rfl) rfl)) vX3_amplitudeOf rfl qX1_90 rfl (wset_o (wset_o hT hq rfl) (wset_o hs hq rfl) rfl) rfl (hd_of rfl rfl rfl rfl) ?_
  refine ev_cV DX1_sendSign 29 (m_X3_pass (wset_o (wset_o hT hq rfl) (wset_o hs hq rfl) rfl)) vX3_pass rfl qX1_109 rfl (wset_o (wset_o hT hq rfl) (wset_o hs hq rfl) rfl) rfl (hd_of rfl rfl rfl rfl) ?_
  refine ev_ss DX1_sendSign 2 30 (pc' := 60) (lv' := [(6, .int _), (5, .int _), (4, .int _), (3, .int _), (0, .ref _), (1, .ref _), (2, .ref _)]) (st' := [.int _, .ref _]) rfl ?_
  refine ev_ifle DX1_sendSign 32 rfl (tgt := 67) (by decide) (fun c_1 => ?_) (fun c_1 => ?_)
  · refine ev_ss DX1_sendSign 1 35 (pc' := 68) (lv' := [(6, .int _), (5, .int _), (4, .int _), (3, .int _), (0, .ref _), (1, .ref _), (2, .ref _)]) (st' := [.int 0, .ref _]) rfl ?_
    refine ev_cV DX1_sendSign 36 (cd_hs (m_X3_countSign (wset_get (wset_o (wset_o hT hq rfl) (wset_o hs hq rfl) rfl))) wset_set) vX3_countSign rfl qX1_113 rfl (wset_get (wset_o (wset_o hT hq rfl) (wset_o hs hq rfl) rfl)) rfl (hd_of rfl rfl rfl rfl) ?_
    refine ev_ss DX1_sendSign 3 37 (pc' := 75) (lv' := [(6, .int _), (5, .int _), (4, .int _), (3, .int _), (0, .ref _), (1, .ref _), (2, .ref _)]) (st' := [.ref _, .int _, .ref _]) rfl ?_
    refine ev_get DX1_sendSign 40 GX3 rfl (k0 := 10) (Nat.le_of_ble_eq_true rfl) fX1_82 (wset_get (wset_o (wset_o hT hq rfl) (wset_o hs hq rfl) rfl)) rfl ?_
    refine ev_ss DX1_sendSign 1 41 (pc' := 80) (lv' := [(6, .int _), (5, .int _), (4, .int _), (3, .int _), (0, .ref _), (1, .ref _), (2, .ref _)]) (st' := [.int _, .int _, .int _, .ref _]) rfl ?_
    refine ev_cV DX1_sendSign 42 (m_X5_receive (wset_o (wset_o (wset_o hw hq rfl) (wset_o hs hq rfl) rfl) (wset_o (wset_o hT hq rfl) (wset_o hs hq rfl) rfl) rfl)) vX5_receive rfl qX1_117 rfl (wset_o (wset_o (wset_o hw hq rfl) (wset_o hs hq rfl) rfl) (wset_o (wset_o hT hq rfl) (wset_o hs hq rfl) rfl) rfl) rfl (hd_of rfl rfl rfl rfl) ?_
    refine ev_ss DX1_sendSign 1 43 (pc' := 85) (lv' := [(6, .int _), (5, .int _), (4, .int _), (3, .int _), (0, .ref _), (1, .ref _), (2, .ref _)]) (st' := [.int _]) rfl ?_
    exact ev_iret DX1_sendSign 44 rfl rfl ⟨by rw [← hbn]; rfl, st2, sz2, by rw [sgB, hbn]; exact hq2, by subst hbn; exact s4 (Eq.symm (if_pos c_1)) (by rw [cnt10]; rfl)⟩
  · refine ev_ss DX1_sendSign 1 33 (pc' := 64) (lv' := [(6, .int _), (5, .int _), (4, .int _), (3, .int _), (0, .ref _), (1, .ref _), (2, .ref _)]) (st' := [.int 1, .ref _]) rfl ?_
    refine ev_goto DX1_sendSign 34 rfl (tgt := 68) (by decide) ?_
    refine ev_cV DX1_sendSign 36 (cd_hs (m_X3_countSign (wset_get (wset_o (wset_o hT hq rfl) (wset_o hs hq rfl) rfl))) wset_set) vX3_countSign rfl qX1_113 rfl (wset_get (wset_o (wset_o hT hq rfl) (wset_o hs hq rfl) rfl)) rfl (hd_of rfl rfl rfl rfl) ?_
    refine ev_ss DX1_sendSign 3 37 (pc' := 75) (lv' := [(6, .int _), (5, .int _), (4, .int _), (3, .int _), (0, .ref _), (1, .ref _), (2, .ref _)]) (st' := [.ref _, .int _, .ref _]) rfl ?_
    refine ev_get DX1_sendSign 40 GX3 rfl (k0 := 10) (Nat.le_of_ble_eq_true rfl) fX1_82 (wset_get (wset_o (wset_o hT hq rfl) (wset_o hs hq rfl) rfl)) rfl ?_
    refine ev_ss DX1_sendSign 1 41 (pc' := 80) (lv' := [(6, .int _), (5, .int _), (4, .int _), (3, .int _), (0, .ref _), (1, .ref _), (2, .ref _)]) (st' := [.int _, .int _, .int _, .ref _]) rfl ?_
    refine ev_cV DX1_sendSign 42 (m_X5_receive (wset_o (wset_o (wset_o hw hq rfl) (wset_o hs hq rfl) rfl) (wset_o (wset_o hT hq rfl) (wset_o hs hq rfl) rfl) rfl)) vX5_receive rfl qX1_117 rfl (wset_o (wset_o (wset_o hw hq rfl) (wset_o hs hq rfl) rfl) (wset_o (wset_o hT hq rfl) (wset_o hs hq rfl) rfl) rfl) rfl (hd_of rfl rfl rfl rfl) ?_
    refine ev_ss DX1_sendSign 1 43 (pc' := 85) (lv' := [(6, .int _), (5, .int _), (4, .int _), (3, .int _), (0, .ref _), (1, .ref _), (2, .ref _)]) (st' := [.int _]) rfl ?_
    exact ev_iret DX1_sendSign 44 rfl rfl ⟨by rw [← hbn]; rfl, st2, sz2, by rw [sgB, hbn]; exact hq2, by subst hbn; exact s4 (Eq.symm (if_neg c_1)) (by rw [cnt10]; rfl)⟩
end
section
theorem c0_mono {E : gE} {Y : MI} {k n : Nat} {av : List Value} {ws : va_W} {Pr Pr' : Option Value → va_W → Prop} (h : C0 E Y k n av ws Pr) (hi : ∀ v w, Pr v w → Pr' v w) : C0 E Y k n av ws Pr' := by
  intro p e ha hc hk s m args below hf happ hP hK
  obtain ⟨j, o, h1, h2, h3, ⟨⟨v, w, e1, e2, e3⟩, e4⟩, e5⟩ := h p e ha hc hk s m args below hf happ hP hK
  exact ⟨j, o, h1, h2, h3, ⟨⟨v, w, e1, hi v w e2, e3⟩, e4⟩, e5⟩
/-- a way: its tones, the bits that wait, the latest bits, how many came, how many of them wrong -/
abbrev WS : Type := (Nat → TF) × List Int32 × Int64 × Int32 × Int32
def arT (ad : Nat → Nat) (iw t : Nat) : Option Nat := if t < 8 then some (ad (iw + 4 + t)) else none
theorem arT_at {ad : Nat → Nat} {iw i : Nat} (h : i < 8) : arT ad iw (nI i).toNatClampNeg = some (ad (iw + 4 + i)) := by
  rw [nI_clamp (by omega)]
  exact if_pos h
def WY (E : gE) (ad : Nat → Nat) (ws : va_W) (iw : Nat) (σ : WS) : Prop := ∃ (st sz : Int32) (r : Nat → Int32), ws[iw]? = some (ad iw, wayC (ad (iw + 1)) (ad (iw + 2)) σ.2.2.1 σ.2.2.2.1 σ.2.2.2.2) ∧ ws[iw + 1]? = some (ad (iw + 1), toA E (arT ad iw)) ∧ ws[iw + 2]? = some (ad (iw + 2), waitC (ad (iw + 3)) st sz) ∧ ws[iw + 3]? = some (ad (iw + 3), iaC E 256 r) ∧ RQ r st sz σ.2.1 ∧ ∀ t, t < 8 → ws[iw + 4 + t]? = some (ad (iw + 4 + t), toneC (σ.1 t))
def SD (E : gE) (ad : Nat → Nat) (ws : va_W) (is : Nat) (sd bt : Int32) (se : Nat → Int32) : Prop := ws[is]? = some (ad is, stC (ad (is + 1)) (ad (is + 13)) (ad (is + 25)) sd bt) ∧ ∃ g : Nat → Int32, ws[is + 25]? = some (ad (is + 25), iaC E 3 g) ∧ ∀ j, j < 3 → g j = se j
/-- nothing else has changed -/
def SO (is iw : Nat) (ws w : va_W) : Prop := ∀ j, j ≠ is → (j < iw ∨ iw + 12 ≤ j) → w[j]? = ws[j]?
theorem SO.rf {is iw : Nat} {ws : va_W} : SO is iw ws ws := fun _ _ _ => rfl
theorem SO.tr {is iw : Nat} {ws w w2 : va_W} (h : SO is iw ws w) (h2 : SO is iw w w2) : SO is iw ws w2 := fun j a b => (h2 j a b).trans (h j a b)
/-- a state and its way lie apart -/
def AP (is iw : Nat) : Prop := is < iw ∧ iw + 12 ≤ is + 25
theorem WY.of {E : gE} {ad : Nat → Nat} {ws w : va_W} {iw : Nat} {σ : WS} (h : WY E ad ws iw σ) (hq : ∀ j, iw ≤ j → j < iw + 12 → w[j]? = ws[j]?) : WY E ad w iw σ := by
  obtain ⟨st, sz, r, h1, h2, h3, h4, h5, h6⟩ := h
  exact ⟨st, sz, r, by rw [hq _ (by omega) (by omega)]; exact h1, by rw [hq _ (by omega) (by omega)]; exact h2, by rw [hq _ (by omega) (by omega)]; exact h3, by rw [hq _ (by omega) (by omega)]; exact h4, h5, fun t ht => by rw [hq _ (by omega) (by omega)]; exact h6 t ht⟩
theorem SD.of {E : gE} {ad : Nat → Nat} {ws w : va_W} {is : Nat} {sd bt : Int32} {se : Nat → Int32} (h : SD E ad ws is sd bt se) (h1 : w[is]? = ws[is]?) (h2 : w[is + 25]? = ws[is + 25]?) : SD E ad w is sd bt se := by
  obtain ⟨a, g, b, c⟩ := h
  exact ⟨h1.trans a, g, h2.trans b, c⟩
theorem SD.seed {E : gE} {ad : Nat → Nat} {ws : va_W} {is : Nat} {sd bt sd2 bt2 : Int32} {se : Nat → Int32} (h : SD E ad ws is sd bt se) : SD E ad (ws.set is (ad is, stC (ad (is + 1)) (ad (is + 13)) (ad (is + 25)) sd2 bt2)) is sd2 bt2 se := by
  obtain ⟨a, g, b, c⟩ := h
  exact ⟨wset_get a, g, wset_n b (by omega), c⟩
theorem WY.tone {E : gE} {ad : Nat → Nat} {ws : va_W} {iw t : Nat} {σ : WS} {f : TF} (h : WY E ad ws iw σ) (ht : t < 8) : WY E ad (ws.set (iw + 4 + t) (ad (iw + 4 + t), toneC f)) iw (va_up σ.1 t f, σ.2) := by
  obtain ⟨st, sz, r, h1, h2, h3, h4, h5, h6⟩ := h
  refine ⟨st, sz, r, wset_n h1 (by omega), wset_n h2 (by omega), wset_n h3 (by omega), wset_n h4 (by omega), h5, fun u hu => ?_⟩
  by_cases e : u = t
  · subst e
    simp only [va_up, if_true]
    exact wset_get (h6 u hu)
  · simp only [va_up, if_neg e]
    exact wset_n (h6 u hu) (by omega)
theorem WY.way {E : gE} {ad : Nat → Nat} {ws : va_W} {iw : Nat} {σ : WS} {lt : Int64} {cm wr : Int32} (h : WY E ad ws iw σ) : WY E ad (ws.set iw (ad iw, wayC (ad (iw + 1)) (ad (iw + 2)) lt cm wr)) iw (σ.1, σ.2.1, lt, cm, wr) := by
  obtain ⟨st, sz, r, h1, h2, h3, h4, h5, h6⟩ := h
  exact ⟨st, sz, r, wset_get h1, wset_n h2 (by omega), wset_n h3 (by omega), wset_n h4 (by omega), h5, fun u hu => wset_n (h6 u hu) (by omega)⟩
theorem WY.wait {E : gE} {ad : Nat → Nat} {ws : va_W} {iw : Nat} {σ : WS} {st sz st2 sz2 : Int32} {r : Nat → Int32} {bs : List Int32} (h : WY E ad ws iw σ) (h3' : ws[iw + 2]? = some (ad (iw + 2), waitC (ad (iw + 3)) st sz)) (h4' : ws[iw + 3]? = some (ad (iw + 3), iaC E 256 r)) (hq : RQ r st2 sz2 bs) : WY E ad (ws.set (iw + 2) (ad (iw + 2), waitC (ad (iw + 3)) st2 sz2)) iw (σ.1, bs, σ.2.2) := by
  obtain ⟨st0, sz0, r0, h1, h2, h3, h4, h5, h6⟩ := h
  exact ⟨st2, sz2, r, wset_n h1 (by omega), wset_n h2 (by omega), wset_get h3, wset_n h4' (by omega), hq, fun u hu => wset_n (h6 u hu) (by omega)⟩
theorem WY.st {E : gE} {ad : Nat → Nat} {ws : va_W} {iw is : Nat} {σ : WS} {x : Nat × va_E} (h : WY E ad ws iw σ) (hi : is < iw ∨ iw + 12 ≤ is) : WY E ad (ws.set is x) iw σ := h.of (fun j a b => List.getElem?_set_ne (by omega))
/-- a sign on a tone -/
def ssW (sd : Int32) (σ : WS) (t : Nat) : WS := (va_up σ.1 t (sgF sd (σ.1 t) σ.2.1), sgB (σ.1 t) σ.2.1, recL σ.2.2.1 (σ.1 t 10) (sgH sd (σ.1 t) σ.2.1), σ.2.2.2.1 + σ.1 t 10, σ.2.2.2.2 + sgW sd (σ.1 t) σ.2.1)
theorem m_X1_sendSign {E : gE} {ad : Nat → Nat} {ws : va_W} {is iw t : Nat} {sd bt : Int32} {se : Nat → Int32} {σ : WS} (hS : SD E ad ws is sd bt se) (hW : WY E ad ws iw σ) (ht : t < 8) (hi : AP is iw) (hf : TS (σ.1 t)) :
    C0 E YX1_sendSign 0 0 [.ref (ad is), .ref (ad iw), .ref (ad (iw + 4 + t))] ws (fun v w => v = some (.int (sgW sd (σ.1 t) σ.2.1)) ∧ SD E ad w is (drwS sd) bt se ∧ WY E ad w iw (ssW sd σ t) ∧ SO is iw ws w) := by
  obtain ⟨hi1, hi2⟩ := hi
  obtain ⟨st, sz, r, h1, h2, h3, h4, h5, h6⟩ := id hW
  refine c0_mono (m_X1_sendSign_raw hS.1 h1 h3 h4 (h6 t ht) h5 hf) (fun v w hvw => ?_)
  obtain ⟨e1, st2, sz2, hq2, e2⟩ := hvw
  have hW1 := (((hW.wait (sz := sz) (st := st) h3 h4 hq2).st (is := is) (x := (ad is, stC (ad (is + 1)) (ad (is + 13)) (ad (is + 25)) (drwS sd) bt)) (by omega)).tone ht (f := sgF sd (σ.1 t) σ.2.1)).way (lt := recL σ.2.2.1 (σ.1 t 10) (sgH sd (σ.1 t) σ.2.1)) (cm := σ.2.2.2.1 + σ.1 t 10) (wr := σ.2.2.2.2 + sgW sd (σ.1 t) σ.2.1)
  have hS1 : SD E ad ((ws.set (iw + 2) (ad (iw + 2), waitC (ad (iw + 3)) st2 sz2)).set is (ad is, stC (ad (is + 1)) (ad (is + 13)) (ad (is + 25)) (drwS sd) bt)) is (drwS sd) bt se := (hS.of (w := ws.set (iw + 2) (ad (iw + 2), waitC (ad (iw + 3)) st2 sz2)) (List.getElem?_set_ne (by omega)) (List.getElem?_set_ne (by omega))).seed
  subst e2
  refine ⟨e1, (hS1.of (List.getElem?_set_ne (by omega)) (List.getElem?_set_ne (by omega))).of (List.getElem?_set_ne (by omega)) (List.getElem?_set_ne (by omega)), hW1, fun j a b => ?_⟩
  rw [List.getElem?_set_ne (by omega), List.getElem?_set_ne (by omega), List.getElem?_set_ne (by omega), List.getElem?_set_ne (by omega)]
/-- eight, that nothing unrolls -/
noncomputable def k8 : Nat := Classical.choose (⟨8, rfl⟩ : ∃ n : Nat, n = 8)
theorem k8e : k8 = 8 := Classical.choose_spec (⟨8, rfl⟩ : ∃ n : Nat, n = 8)
def TA (σ : WS) : Prop := ∀ t, t < 8 → TS (σ.1 t)
def sndT (sd : Int32) (σ : WS) : Nat → Int32 × Int32 × WS
  | 0 => (0, sd, σ)
  | i + 1 => ((sndT sd σ i).1 + sgW (sndT sd σ i).2.1 ((sndT sd σ i).2.2.1 i) (sndT sd σ i).2.2.2.1, drwS (sndT sd σ i).2.1, ssW (sndT sd σ i).2.1 (sndT sd σ i).2.2 i)
def shyT (m : Int32) (σ : WS) : Nat → WS
  | 0 => σ
  | i + 1 => (va_up (shyT m σ i).1 i (shyP ((shyT m σ i).1 i) m), (shyT m σ i).2)
noncomputable def btP (m sd : Int32) (σ : WS) : Int32 × Int32 × WS := ((sndT sd σ k8).1, (sndT sd σ k8).2.1, shyT m (sndT sd σ k8).2.2 k8)
noncomputable def btN (m sd : Int32) (σ : WS) : Nat → Int32 × Int32 × WS
  | 0 => (0, sd, σ)
  | n + 1 => ((btN m sd σ n).1 + (btP m (btN m sd σ n).2.1 (btN m sd σ n).2.2).1, (btP m (btN m sd σ n).2.1 (btN m sd σ n).2.2).2)
theorem sndT_0 {sd : Int32} {σ : WS} : sndT sd σ 0 = (0, sd, σ) := rfl
theorem shyT_0 {m : Int32} {σ : WS} : shyT m σ 0 = σ := rfl
theorem btN_0 {m sd : Int32} {σ : WS} : btN m sd σ 0 = (0, sd, σ) := rfl
theorem btN_s {m sd : Int32} {σ : WS} {i : Nat} : btN m sd σ (i + 1) = ((btN m sd σ i).1 + (sndT (btN m sd σ i).2.1 (btN m sd σ i).2.2 k8).1, (sndT (btN m sd σ i).2.1 (btN m sd σ i).2.2 k8).2.1, shyT m (sndT (btN m sd σ i).2.1 (btN m sd σ i).2.2 k8).2.2 k8) := rfl
theorem cnt_keep (f : TF) (b : Int32) (j : Nat) (hj : j ≠ 12 ∧ j ≠ 14 ∧ j ≠ 15) : cntP f b j = f j := by
  unfold cntP
  split <;> split <;> simp [upd, hj]
theorem sgF_keep (sd : Int32) (f : TF) (bs : List Int32) (j : Nat) (hj : j ≠ 12 ∧ j ≠ 14 ∧ j ≠ 15 ∧ j ≠ 4 ∧ j ≠ 5 ∧ j ≠ 6 ∧ j ≠ 16 ∧ j ≠ 17) : sgF sd f bs j = f j := by
  unfold sgF cntB
  split
  · rw [cnt_keep _ _ _ ⟨hj.1, hj.2.1, hj.2.2.1⟩]; simp [passP, upd, hj]
  · rw [cnt_keep _ _ _ ⟨hj.1, hj.2.1, hj.2.2.1⟩]; simp [passP, upd, hj]
theorem TS_sgF {sd : Int32} {f : TF} {bs : List Int32} (h : TS f) : TS (sgF sd f bs) := by
  obtain ⟨n, h1, h2, h3, h4⟩ := h
  exact ⟨n, h1, by rw [sgF_keep _ _ _ 10 (by decide)]; exact h2, by rw [sgF_keep _ _ _ 7 (by decide)]; exact h3, by rw [sgF_keep _ _ _ 3 (by decide)]; exact h4⟩
theorem TS_shyP {m : Int32} {f : TF} (h : TS f) : TS (shyP f m) := by
  obtain ⟨n, h1, h2, h3, h4⟩ := h
  unfold shyP
  split
  · exact ⟨n, h1, h2, h3, h4⟩
  · split
    · exact ⟨n, h1, h2, h3, h4⟩
    · rename_i h5 h6
      cases n with
      | zero => exact absurd (by rw [h2]; decide) h5
      | succ n => exact ⟨n, by omega, by simp only [upd]; show f 10 - 1 = _; rw [h2, nI_pred], h3, h4⟩
theorem TA_ssW {sd : Int32} {σ : WS} {t : Nat} (h : TA σ) (ht : t < 8) : TA (ssW sd σ t) := by
  intro u hu
  unfold ssW
  simp only [va_up]
  split
  · exact TS_sgF (h t ht)
  · exact h u hu
theorem TA_sndT {sd : Int32} {σ : WS} (h : TA σ) : ∀ i, i ≤ 8 → TA (sndT sd σ i).2.2
  | 0, _ => h
  | i + 1, hi => TA_ssW (TA_sndT h i (by omega)) (by omega)
theorem TA_shyT {m : Int32} {σ : WS} (h : TA σ) : ∀ i, i ≤ 8 → TA (shyT m σ i)
  | 0, _ => h
  | i + 1, hi => by
    intro u hu
    unfold shyT
    simp only [va_up]
    split
    · exact TS_shyP (TA_shyT h i (by omega) i (by omega))
    · exact TA_shyT h i (by omega) u hu
theorem TA_btP {m sd : Int32} {σ : WS} (h : TA σ) : TA (btP m sd σ).2.2 := TA_shyT (TA_sndT h k8 (Nat.le_of_eq k8e)) k8 (Nat.le_of_eq k8e)
theorem TA_btN {m sd : Int32} {σ : WS} (h : TA σ) : ∀ n, TA (btN m sd σ n).2.2
  | 0 => h
  | n + 1 => TA_btP (TA_btN h n)
set_option maxRecDepth 100000 in
set_option maxHeartbeats 4000000 in
theorem snd_in1 {E : gE} {ad : Nat → Nat} {Pr : Option Value → va_W → Prop} {is iw n : Nat} {bt bx : Int32} {se : Nat → Int32} (hi : AP is iw) {ws0 : va_W} {acc0 sd : Int32} {σ : WS} (hA : TA σ)
    (kt : ∀ (w : va_W) (acc x : Int32), acc = acc0 + (sndT sd σ k8).1 → SD E ad w is (sndT sd σ k8).2.1 bt se → WY E ad w iw (sndT sd σ k8).2.2 → SO is iw ws0 w → Ev E YX1_sendBeats Pr nX 0 0 42 [(0, .ref (ad is)), (1, .ref (ad iw)), (2, .int (nI n)), (3, .int acc), (4, .int bx), (5, .int x)] [] w) :
    ∀ (m i : Nat) (w : va_W) (acc x : Int32), i + m = k8 → x = nI i → acc = acc0 + (sndT sd σ i).1 → SD E ad w is (sndT sd σ i).2.1 bt se → WY E ad w iw (sndT sd σ i).2.2 → SO is iw ws0 w → Ev E YX1_sendBeats Pr nX 0 0 14 [(0, .ref (ad is)), (1, .ref (ad iw)), (2, .int (nI n)), (3, .int acc), (4, .int bx), (5, .int x)] [] w := by
  have e8 := k8e
  intro m
  induction m with
  | zero =>
    intro i w acc x hm hx ha hS hW hO
    obtain rfl : i = k8 := by omega
    subst hx
    refine ev_ss DX1_sendBeats 2 9 (pc' := 18) (lv' := [(0, .ref _), (1, .ref _), (2, .int _), (3, .int _), (4, .int _), (5, .int _)]) (st' := [.int 8, .int _]) rfl ?_
    refine ev_icge DX1_sendBeats 11 rfl (tgt := 42) (by decide) (fun _ => ?_) (fun h => h.elim (by rw [k8e]; decide))
    exact kt w acc _ ha hS hW hO
  | succ m ih =>
    intro i w acc x hm hx ha hS hW hO
    subst hx
    obtain ⟨st, sz, r, h1, h2, h3, h4, h5, h6⟩ := id hW
    refine ev_ss DX1_sendBeats 2 9 (pc' := 18) (lv' := [(0, .ref _), (1, .ref _), (2, .int _), (3, .int _), (4, .int _), (5, .int _)]) (st' := [.int 8, .int _]) rfl ?_
    refine ev_icge DX1_sendBeats 11 rfl (tgt := 42) (by decide) (fun h => absurd h (nI_ge (b := 8) (by omega) (by decide))) (fun _ => ?_)
    refine ev_ss DX1_sendBeats 4 12 (pc' := 25) (lv' := [(0, .ref _), (1, .ref _), (2, .int _), (3, .int _), (4, .int _), (5, .int _)]) (st' := [.ref _, .ref _, .ref _, .int _]) rfl ?_
    refine ev_get DX1_sendBeats 16 GX5 rfl (k0 := 0) (Nat.le_of_ble_eq_true rfl) fX1_66 h1 rfl ?_
    refine ev_ss DX1_sendBeats 1 17 (pc' := 30) (lv' := [(0, .ref _), (1, .ref _), (2, .int _), (3, .int _), (4, .int _), (5, .int _)]) (st' := [.int _, .ref _, .ref _, .ref _, .int _]) rfl ?_
    refine ev_aald4 DX1_sendBeats 18 rfl h2 (vp_in_nI (by omega) (by decide)) (b := ad (iw + 4 + i)) (arT_at (by omega)) ?_
    refine ev_rV DX1_sendBeats 19 (m_X1_sendSign hS hW (t := i) (by omega) hi (TA_sndT hA i (by omega) i (by omega))) vX1_sendSign rfl qX1_70 rfl hS.1 rfl (hd_of rfl rfl rfl rfl) (fun v w2 hvw => ?_)
    obtain ⟨rfl, hS2, hW2, hO2⟩ := hvw
    refine ev_ss DX1_sendBeats 3 20 (pc' := 39) (lv' := [(5, .int _), (3, .int _), (0, .ref _), (1, .ref _), (2, .int _), (4, .int _)]) (st' := []) rfl ?_
    refine ev_goto DX1_sendBeats 23 rfl (tgt := 14) (by decide) ?_
    refine ev_lvp (lv2 := [(0, .ref _), (1, .ref _), (2, .int _), (3, .int _), (4, .int _), (5, .int _)]) [2, 3, 4, 1, 5, 0] rfl ?_
    exact ih (i + 1) w2 _ _ (by omega) (nI_1 i) (by rw [ha]; exact Int32.add_assoc _ _ _) hS2 hW2 (hO.tr hO2)
set_option maxRecDepth 100000 in
set_option maxHeartbeats 4000000 in
theorem snd_in2 {E : gE} {ad : Nat → Nat} {Pr : Option Value → va_W → Prop} {is iw n : Nat} {bt bx : Int32} {se : Nat → Int32} (hi : AP is iw) {ws0 : va_W} {acc sd : Int32} {σ : WS}
    (kt : ∀ (w : va_W) (x : Int32), SD E ad w is sd bt se → WY E ad w iw (shyT (se 2) σ k8) → SO is iw ws0 w → Ev E YX1_sendBeats Pr nX 0 0 74 [(0, .ref (ad is)), (1, .ref (ad iw)), (2, .int (nI n)), (3, .int acc), (4, .int bx), (5, .int x)] [] w) :
    ∀ (m i : Nat) (w : va_W) (x : Int32), i + m = k8 → x = nI i → SD E ad w is sd bt se → WY E ad w iw (shyT (se 2) σ i) → SO is iw ws0 w → Ev E YX1_sendBeats Pr nX 0 0 45 [(0, .ref (ad is)), (1, .ref (ad iw)), (2, .int (nI n)), (3, .int acc), (4, .int bx), (5, .int x)] [] w := by
  have e8 := k8e
  intro m
  induction m with
  | zero =>
    intro i w x hm hx hS hW hO
    obtain rfl : i = k8 := by omega
    subst hx
    refine ev_ss DX1_sendBeats 2 26 (pc' := 49) (lv' := [(0, .ref _), (1, .ref _), (2, .int _), (3, .int _), (4, .int _), (5, .int _)]) (st' := [.int 8, .int _]) rfl ?_
    refine ev_icge DX1_sendBeats 28 rfl (tgt := 74) (by decide) (fun _ => ?_) (fun h => h.elim (by rw [k8e]; decide))
    exact kt w _ hS hW hO
  | succ m ih =>
    intro i w x hm hx hS hW hO
    subst hx
    obtain ⟨st, sz, r, h1, h2, h3, h4, h5, h6⟩ := id hW
    obtain ⟨hs1, g, hs2, hs3⟩ := id hS
    refine ev_ss DX1_sendBeats 2 26 (pc' := 49) (lv' := [(0, .ref _), (1, .ref _), (2, .int _), (3, .int _), (4, .int _), (5, .int _)]) (st' := [.int 8, .int _]) rfl ?_
    refine ev_icge DX1_sendBeats 28 rfl (tgt := 74) (by decide) (fun h => absurd h (nI_ge (b := 8) (by omega) (by decide))) (fun _ => ?_)
    refine ev_ss DX1_sendBeats 1 29 (pc' := 53) (lv' := [(0, .ref _), (1, .ref _), (2, .int _), (3, .int _), (4, .int _), (5, .int _)]) (st' := [.ref _]) rfl ?_
    refine ev_get DX1_sendBeats 30 GX5 rfl (k0 := 0) (Nat.le_of_ble_eq_true rfl) fX1_66 h1 rfl ?_
    refine ev_ss DX1_sendBeats 1 31 (pc' := 58) (lv' := [(0, .ref _), (1, .ref _), (2, .int _), (3, .int _), (4, .int _), (5, .int _)]) (st' := [.int _, .ref _]) rfl ?_
    refine ev_aald4 DX1_sendBeats 32 rfl h2 (vp_in_nI (by omega) (by decide)) (b := ad (iw + 4 + i)) (arT_at (by omega)) ?_
    refine ev_ss DX1_sendBeats 1 33 (pc' := 60) (lv' := [(0, .ref _), (1, .ref _), (2, .int _), (3, .int _), (4, .int _), (5, .int _)]) (st' := [.ref _, .ref _]) rfl ?_
    refine ev_get DX1_sendBeats 34 GX1 rfl (k0 := 2) (Nat.le_of_ble_eq_true rfl) fX1_21 hs1 rfl ?_
    refine ev_ss DX1_sendBeats 1 35 (pc' := 64) (lv' := [(0, .ref _), (1, .ref _), (2, .int _), (3, .int _), (4, .int _), (5, .int _)]) (st' := [.int 2, .ref _, .ref _]) rfl ?_
    refine ev_iald DX1_sendBeats 36 rfl hs2 (by unfold vp_in; decide) ?_
    refine ev_cV DX1_sendBeats 37 (m_X3_becomeShyAt (h6 i (by omega))) vX3_becomeShyAt rfl qX1_74 rfl (h6 i (by omega)) rfl (hd_of rfl rfl rfl rfl) ?_
    refine ev_ss DX1_sendBeats 1 38 (pc' := 71) (lv' := [(5, .int _), (0, .ref _), (1, .ref _), (2, .int _), (3, .int _), (4, .int _)]) (st' := []) rfl ?_
    refine ev_goto DX1_sendBeats 39 rfl (tgt := 45) (by decide) ?_
    refine ev_lvp (lv2 := [(0, .ref _), (1, .ref _), (2, .int _), (3, .int _), (4, .int _), (5, .int _)]) [1, 2, 3, 4, 5, 0] rfl ?_
    have e2 : g ((2 : Int32).toNatClampNeg) = se 2 := hs3 2 (by decide)
    have hW2 := hW.tone (t := i) (by omega) (f := shyP ((shyT (se 2) σ i).1 i) (se 2))
    have hw3 : Ev E YX1_sendBeats Pr nX 0 0 45 [(0, .ref (ad is)), (1, .ref (ad iw)), (2, .int (nI n)), (3, .int acc), (4, .int bx), (5, .int (nI i + 1))] [] (w.set (iw + 4 + i) (ad (iw + 4 + i), toneC (shyP ((shyT (se 2) σ i).1 i) (se 2)))) := ih (i + 1) _ _ (by omega) (nI_1 i) (hS.of (List.getElem?_set_ne (by have := hi.1; omega)) (List.getElem?_set_ne (by have := hi.2; omega))) hW2 (hO.tr (fun j a b => List.getElem?_set_ne (by omega)))
    exact (congrArg (fun z => Ev E YX1_sendBeats Pr nX 0 0 45 [(0, .ref (ad is)), (1, .ref (ad iw)), (2, .int (nI n)), (3, .int acc), (4, .int bx), (5, .int (nI i + 1))] [] (w.set (iw + 4 + i) (ad (iw + 4 + i), toneC (shyP ((shyT (se 2) σ i).1 i) z)))) e2).mpr hw3
set_option maxRecDepth 100000 in
set_option maxHeartbeats 4000000 in
theorem m_X1_sendBeats {E : gE} {ad : Nat → Nat} {ws : va_W} {is iw n : Nat} {sd bt : Int32} {se : Nat → Int32} {σ : WS} (hn : n < 2 ^ 31) (hi : AP is iw) (hS0 : SD E ad ws is sd bt se) (hW0 : WY E ad ws iw σ) (hA : TA σ) :
    C0 E YX1_sendBeats 0 0 [.ref (ad is), .ref (ad iw), .int (nI n)] ws (fun v w => v = some (.int (btN (se 2) sd σ n).1) ∧ SD E ad w is (btN (se 2) sd σ n).2.1 (bt + nI n) se ∧ WY E ad w iw (btN (se 2) sd σ n).2.2 ∧ SO is iw ws w) := by
  refine c0V vX1_sendBeats (Nat.le_of_ble_eq_true rfl) (lv0 := [(0, .ref (ad is)), (1, .ref (ad iw)), (2, .int (nI n))]) rfl ?_
  suffices K : ∀ (m i : Nat) (w : va_W) (acc x bt1 : Int32), i + m = n → x = nI i → acc = (btN (se 2) sd σ i).1 → bt1 = bt + nI i → SD E ad w is (btN (se 2) sd σ i).2.1 bt1 se → WY E ad w iw (btN (se 2) sd σ i).2.2 → SO is iw ws w → Ev E YX1_sendBeats (fun v w => v = some (.int (btN (se 2) sd σ n).1) ∧ SD E ad w is (btN (se 2) sd σ n).2.1 (bt + nI n) se ∧ WY E ad w iw (btN (se 2) sd σ n).2.2 ∧ SO is iw ws w) nX 0 0 5 [(0, .ref (ad is)), (1, .ref (ad iw)), (2, .int (nI n)), (3, .int acc), (4, .int x)] [] w by
    refine ev_ss DX1_sendBeats 4 0 (pc' := 5) (lv' := [(4, .int 0), (3, .int 0), (0, .ref _), (1, .ref _), (2, .int _)]) (st' := []) rfl ?_
    refine ev_lvp (lv2 := [(0, .ref _), (1, .ref _), (2, .int _), (3, .int _), (4, .int _)]) [2, 3, 4, 1, 0] rfl ?_
    exact K n 0 ws 0 _ bt (by omega) nI_0.symm (by rw [btN_0]) (by rw [nI_0, Int32.add_zero]) (by rw [btN_0]; exact hS0) (by rw [btN_0]; exact hW0) SO.rf
  intro m
  induction m with
  | zero =>
    intro i w acc x bt1 hm hx ha hb hS hW hO
    obtain rfl : i = n := by omega
    subst hx; subst ha; subst hb
    refine ev_ss DX1_sendBeats 2 4 (pc' := 8) (lv' := [(0, .ref _), (1, .ref _), (2, .int _), (3, .int _), (4, .int _)]) (st' := [.int _, .int _]) rfl ?_
    refine ev_icge DX1_sendBeats 6 rfl (tgt := 90) (by decide) (fun _ => ?_) (fun h => h.elim (nI_le (Nat.le_refl _) hn))
    refine ev_ss DX1_sendBeats 1 48 (pc' := 91) (lv' := [(0, .ref _), (1, .ref _), (2, .int _), (3, .int _), (4, .int _)]) (st' := [.int _]) rfl ?_
    exact ev_iret DX1_sendBeats 49 rfl rfl ⟨rfl, hS, hW, hO⟩
  | succ m ih =>
    intro i w acc x bt1 hm hx ha hb hS hW hO
    subst hx
    refine ev_ss DX1_sendBeats 2 4 (pc' := 8) (lv' := [(0, .ref _), (1, .ref _), (2, .int _), (3, .int _), (4, .int _)]) (st' := [.int _, .int _]) rfl ?_
    refine ev_icge DX1_sendBeats 6 rfl (tgt := 90) (by decide) (fun h => absurd h (nI_ge (b := n) (by omega) (by omega))) (fun _ => ?_)
    refine ev_ss DX1_sendBeats 2 7 (pc' := 14) (lv' := [(5, .int 0), (0, .ref _), (1, .ref _), (2, .int _), (3, .int _), (4, .int _)]) (st' := []) rfl ?_
    refine ev_lvp (lv2 := [(0, .ref _), (1, .ref _), (2, .int _), (3, .int _), (4, .int _), (5, .int _)]) [1, 2, 3, 4, 5, 0] rfl ?_
    refine snd_in1 hi (acc0 := acc) (sd := (btN (se 2) sd σ i).2.1) (σ := (btN (se 2) sd σ i).2.2) (TA_btN hA i) (ws0 := ws) (fun w1 acc1 x1 ha1 hS1 hW1 hO1 => ?_) k8 0 w acc _ (Nat.zero_add k8) nI_0.symm (by rw [sndT_0]; exact (Int32.add_zero acc).symm) (by rw [sndT_0]; exact hS) (by rw [sndT_0]; exact hW) hO
    refine ev_ss DX1_sendBeats 2 24 (pc' := 45) (lv' := [(5, .int 0), (0, .ref _), (1, .ref _), (2, .int _), (3, .int _), (4, .int _)]) (st' := []) rfl ?_
    refine ev_lvp (lv2 := [(0, .ref _), (1, .ref _), (2, .int _), (3, .int _), (4, .int _), (5, .int _)]) [1, 2, 3, 4, 5, 0] rfl ?_
    refine snd_in2 hi (σ := (sndT (btN (se 2) sd σ i).2.1 (btN (se 2) sd σ i).2.2 k8).2.2) (ws0 := ws) (fun w2 x2 hS2 hW2 hO2 => ?_) k8 0 w1 _ (Nat.zero_add k8) nI_0.symm hS1 (by rw [shyT_0]; exact hW1) hO1
    refine ev_ss DX1_sendBeats 2 40 (pc' := 76) (lv' := [(0, .ref _), (1, .ref _), (2, .int _), (3, .int _), (4, .int _), (5, .int _)]) (st' := [.ref _, .ref _]) rfl ?_
    refine ev_get DX1_sendBeats 42 GX1 rfl (k0 := 4) (Nat.le_of_ble_eq_true rfl) fX1_47 hS2.1 rfl ?_
    refine ev_ss DX1_sendBeats 2 43 (pc' := 81) (lv' := [(0, .ref _), (1, .ref _), (2, .int _), (3, .int _), (4, .int _), (5, .int _)]) (st' := [.int _, .ref _]) rfl ?_
    refine ev_put (fs' := [_, _, _, _, _]) DX1_sendBeats 45 GX1 rfl (k0 := 4) (Nat.le_of_ble_eq_true rfl) fX1_47 rfl ⟨rfl, rfl⟩ hS2.1 (Nat.le_of_ble_eq_true rfl) rfl rfl ?_
    refine ev_ss DX1_sendBeats 1 46 (pc' := 87) (lv' := [(4, .int _), (0, .ref _), (1, .ref _), (2, .int _), (3, .int _), (5, .int _)]) (st' := []) rfl ?_
    refine ev_goto DX1_sendBeats 47 rfl (tgt := 5) (by decide) ?_
    refine ev_lvp (lv2 := [(0, .ref _), (1, .ref _), (2, .int _), (3, .int _), (4, .int _)]) [1, 2, 3, 4, 0] rfl ?_
    exact ih (i + 1) _ _ _ (bt1 + 1) (by omega) (nI_1 i) (by rw [btN_s, ha1, ha]) (by rw [hb, ← nI_1 i]; exact Int32.add_assoc _ _ _) (by rw [btN_s]; exact hS2.seed) (by rw [btN_s]; exact hW2.st (Or.inl hi.1)) (hO2.tr (fun j a b => List.getElem?_set_ne (Ne.symm a)))
end
section
def LE (E : gE) (ad : Nat → Nat) (ws : va_W) (il : Nat) (lb : Int32) (sz : Nat → Int32) : Prop := ws[il]? = some (ad il, lesC (ad (il + 1)) lb) ∧ ∃ g : Nat → Int32, ws[il + 1]? = some (ad (il + 1), iaC E 64 g) ∧ ∀ j, j < 64 → g j = sz j
theorem LE.of {E : gE} {ad : Nat → Nat} {ws w : va_W} {il : Nat} {lb : Int32} {sz : Nat → Int32} (h : LE E ad ws il lb sz) (h1 : w[il]? = ws[il]?) (h2 : w[il + 1]? = ws[il + 1]?) : LE E ad w il lb sz := by
  obtain ⟨a, g, b, c⟩ := h
  exact ⟨h1.trans a, g, h2.trans b, c⟩
def mxP (a b : Int32) : Int32 := if a < b then b else a
def worN (sz : Nat → Int32) (t : Nat) : Nat → Int32
  | 0 => 0
  | i + 1 => mxP (worN sz t i) (sz (8 * t + i))
theorem nI_mul8 (t : Nat) : nI t * 8 = nI (8 * t) := by rw [show (8 : Int32) = nI 8 from rfl, pk_mul, Nat.mul_comm]
theorem ix8 (t i : Nat) : nI t * 8 + nI i = nI (8 * t + i) := by rw [nI_mul8, nI_add]
theorem fm_x : ∀ b, b < 128 → 0 ≤ nI b ^^^ 8 := by decide +kernel
set_option maxRecDepth 100000 in
set_option maxHeartbeats 4000000 in
theorem m_J9_floorMod_7cf53 {E : gE} {ws : va_W} {b : Nat} (hb : b < 128) : CD E YJ9_floorMod_7cf53 0 0 [.int (nI b), .int 8] ws (some (.int (nI (b % 8)))) ws := by
  refine cdS vJ9_floorMod_7cf53 (Nat.le_of_ble_eq_true rfl) (lv0 := [(0, .int (nI b)), (1, .int 8)]) rfl ?_
  refine ev_ss DJ9_floorMod_7cf53 2 0 (pc' := 2) (lv' := [(0, .int _), (1, .int _)]) (st' := [.int _, .int _]) rfl ?_
  refine ev_irem DJ9_floorMod_7cf53 2 rfl (by decide) ?_
  refine ev_ss DJ9_floorMod_7cf53 4 3 (pc' := 7) (lv' := [(2, .int _), (0, .int _), (1, .int _)]) (st' := [.int _]) rfl ?_
  refine ev_ifge DJ9_floorMod_7cf53 7 rfl (tgt := 18) (by decide) (fun _ => ?_) (fun h => h.elim (fm_x b hb))
  refine ev_ss DJ9_floorMod_7cf53 1 14 (pc' := 19) (lv' := [(2, .int _), (0, .int _), (1, .int _)]) (st' := [.int _]) rfl ?_
  exact ev_iret DJ9_floorMod_7cf53 15 rfl rfl ⟨vI (pk_rem (a := b) (d := 8) (by omega) (by decide) (by decide)).symm, rfl⟩
set_option maxRecDepth 100000 in
set_option maxHeartbeats 4000000 in
theorem m_X0_note {E : gE} {ad : Nat → Nat} {ws : va_W} {il t b : Nat} {lb er : Int32} {sz : Nat → Int32} (hb : b < 128) (ht : t < 8) (hlb : lb = nI b) (h : LE E ad ws il lb sz) : C0 E YX0_note 0 0 [.ref (ad il), .int (nI t), .int er] ws (fun v w => v = none ∧ LE E ad w il lb (upd sz (8 * t + b % 8) (absP er)) ∧ ∀ j, j ≠ il + 1 → w[j]? = ws[j]?) := by
  obtain ⟨h1, g, h2, h3⟩ := h
  subst hlb
  have ex : nI t * 8 + nI (b % 8) = nI (8 * t + b % 8) := ix8 t (b % 8)
  have e1 : ¬ nI t * 8 + nI (b % 8) < 0 := by rw [ex]; exact nI_pos (by omega)
  have e2 : ¬ (64 : Int32) ≤ nI t * 8 + nI (b % 8) := by rw [ex]; exact nI_ge (b := 64) (by omega) (by decide)
  have e3 : vp_in (nI t * 8 + nI (b % 8)) 64 := by rw [ex]; exact vp_in_nI (by omega) (by decide)
  refine c0V vX0_note (Nat.le_of_ble_eq_true rfl) (lv0 := [(0, .ref (ad il)), (1, .int (nI t)), (2, .int er)]) rfl ?_
  refine ev_ss DX0_note 4 0 (pc' := 5) (lv' := [(0, .ref _), (1, .int _), (2, .int _)]) (st' := [.ref _, .int _]) rfl ?_
  refine ev_get DX0_note 4 GX0 rfl (k0 := 1) (Nat.le_of_ble_eq_true rfl) fX0_15 h1 rfl ?_
  refine ev_ss DX0_note 1 5 (pc' := 10) (lv' := [(0, .ref _), (1, .int _), (2, .int _)]) (st' := [.int 8, .int _, .int _]) rfl ?_
  refine ev_cS DX0_note 6 (m_J9_floorMod_7cf53 hb) vJ9_floorMod_7cf53 rfl qX0_19 rfl (hd_of rfl rfl rfl rfl) ?_
  refine ev_ss DX0_note 3 7 (pc' := 16) (lv' := [(3, .int _), (0, .ref _), (1, .int _), (2, .int _)]) (st' := [.int _]) rfl ?_
  refine ev_iflt DX0_note 10 rfl (tgt := 35) (by decide) (fun h => absurd h e1) (fun _ => ?_)
  refine ev_ss DX0_note 2 11 (pc' := 22) (lv' := [(3, .int _), (0, .ref _), (1, .int _), (2, .int _)]) (st' := [.int 64, .int _]) rfl ?_
  refine ev_icge DX0_note 13 rfl (tgt := 35) (by decide) (fun h => absurd h e2) (fun _ => ?_)
  refine ev_ss DX0_note 1 14 (pc' := 26) (lv' := [(3, .int _), (0, .ref _), (1, .int _), (2, .int _)]) (st' := [.ref _]) rfl ?_
  refine ev_get DX0_note 15 GX0 rfl (k0 := 0) (Nat.le_of_ble_eq_true rfl) fX0_9 h1 rfl ?_
  refine ev_ss DX0_note 2 16 (pc' := 31) (lv' := [(3, .int _), (0, .ref _), (1, .int _), (2, .int _)]) (st' := [.int _, .int _, .ref _]) rfl ?_
  refine ev_abs DX0_note 18 rfl qX0_25 (Nat.le_of_ble_eq_true rfl) (Nat.le_of_ble_eq_true rfl) ?_
  refine ev_iast DX0_note 19 rfl h2 e3 rfl ?_
  exact ev_vret DX0_note 20 rfl rfl ⟨rfl, ⟨wset_n h1 (by omega), _, wset_get h2, fun j hj => by show upd g (nI t * 8 + nI (b % 8)).toNatClampNeg (absP er) j = upd sz (8 * t + b % 8) (absP er) j; rw [ex, nI_clamp (by omega)]; unfold upd; split; rfl; exact h3 j hj⟩, fun j hj => List.getElem?_set_ne (Ne.symm hj)⟩
set_option maxRecDepth 100000 in
set_option maxHeartbeats 4000000 in
theorem m_X0_worstOf {E : gE} {ad : Nat → Nat} {ws : va_W} {il t : Nat} {lb : Int32} {sz : Nat → Int32} (ht : t < 8) (h : LE E ad ws il lb sz) : CD E YX0_worstOf 0 0 [.ref (ad il), .int (nI t)] ws (some (.int (worN sz t k8))) ws := by
  obtain ⟨h1, g, h2, h3⟩ := h
  have e8 := k8e
  refine cdV vX0_worstOf (Nat.le_of_ble_eq_true rfl) (lv0 := [(0, .ref (ad il)), (1, .int (nI t))]) rfl ?_
  suffices K : ∀ (m i : Nat) (x acc : Int32) (lv9 : List (Nat × Value)), i + m = k8 → x = nI i → acc = worN sz t i → lv9 = [(0, .ref (ad il)), (1, .int (nI t)), (2, .int acc), (3, .int x)] → Ev E YX0_worstOf (fun v2 w2 => v2 = some (.int (worN sz t k8)) ∧ w2 = ws) nX 0 0 4 lv9 [] ws by
    refine ev_ss DX0_worstOf 4 0 (pc' := 4) (lv' := [(3, .int 0), (2, .int 0), (0, .ref _), (1, .int _)]) (st' := []) rfl ?_
    refine ev_lvp (lv2 := [(0, .ref _), (1, .int _), (2, .int _), (3, .int _)]) [2, 3, 1, 0] rfl ?_
    exact K k8 0 _ _ _ (Nat.zero_add k8) nI_0.symm rfl rfl
  intro m
  induction m with
  | zero =>
    intro i x acc lv9 hm hx ha hv
    obtain rfl : i = k8 := by omega
    subst hx; subst ha; subst hv
    refine ev_ss DX0_worstOf 2 4 (pc' := 7) (lv' := [(0, .ref _), (1, .int _), (2, .int _), (3, .int _)]) (st' := [.int 8, .int _]) rfl ?_
    refine ev_icge DX0_worstOf 6 rfl (tgt := 48) (by decide) (fun _ => ?_) (fun h => h.elim (by rw [k8e]; decide))
    refine ev_ss DX0_worstOf 1 27 (pc' := 49) (lv' := [(0, .ref _), (1, .int _), (2, .int _), (3, .int _)]) (st' := [.int _]) rfl ?_
    exact ev_iret DX0_worstOf 28 rfl rfl ⟨rfl, rfl⟩
  | succ m ih =>
    intro i x acc lv9 hm hx ha hv
    subst hx; subst hv
    have ex := ix8 t i
    have e1 : ¬ nI t * 8 + nI i < 0 := by rw [ex]; exact nI_pos (by omega)
    have e2 : ¬ (64 : Int32) ≤ nI t * 8 + nI i := by rw [ex]; exact nI_ge (b := 64) (by omega) (by decide)
    have e3 : vp_in (nI t * 8 + nI i) 64 := by rw [ex]; exact vp_in_nI (by omega) (by decide)
    refine ev_ss DX0_worstOf 2 4 (pc' := 7) (lv' := [(0, .ref _), (1, .int _), (2, .int _), (3, .int _)]) (st' := [.int 8, .int _]) rfl ?_
    refine ev_icge DX0_worstOf 6 rfl (tgt := 48) (by decide) (fun h => absurd h (nI_ge (b := 8) (by omega) (by decide))) (fun _ => ?_)
    refine ev_ss DX0_worstOf 7 7 (pc' := 20) (lv' := [(4, .int _), (0, .ref _), (1, .int _), (2, .int _), (3, .int _)]) (st' := [.int _]) rfl ?_
    refine ev_iflt DX0_worstOf 14 rfl (tgt := 42) (by decide) (fun h => absurd h e1) (fun _ => ?_)
    refine ev_ss DX0_worstOf 2 15 (pc' := 27) (lv' := [(4, .int _), (0, .ref _), (1, .int _), (2, .int _), (3, .int _)]) (st' := [.int 64, .int _]) rfl ?_
    refine ev_icge DX0_worstOf 17 rfl (tgt := 42) (by decide) (fun h => absurd h e2) (fun _ => ?_)
    refine ev_ss DX0_worstOf 2 18 (pc' := 32) (lv' := [(4, .int _), (0, .ref _), (1, .int _), (2, .int _), (3, .int _)]) (st' := [.ref _, .int _]) rfl ?_
    refine ev_get DX0_worstOf 20 GX0 rfl (k0 := 0) (Nat.le_of_ble_eq_true rfl) fX0_9 h1 rfl ?_
    refine ev_ss DX0_worstOf 1 21 (pc' := 37) (lv' := [(4, .int _), (0, .ref _), (1, .int _), (2, .int _), (3, .int _)]) (st' := [.int _, .ref _, .int _]) rfl ?_
    refine ev_iald DX0_worstOf 22 rfl h2 e3 ?_
    refine ev_max DX0_worstOf 23 rfl qX0_29 (Nat.le_of_ble_eq_true rfl) (Nat.le_of_ble_eq_true rfl) ?_
    refine ev_ss DX0_worstOf 2 24 (pc' := 45) (lv' := [(3, .int _), (2, .int _), (4, .int _), (0, .ref _), (1, .int _)]) (st' := []) rfl ?_
    refine ev_goto DX0_worstOf 26 rfl (tgt := 4) (by decide) ?_
    refine ev_lvp (lv2 := [(0, .ref _), (1, .int _), (2, .int _), (3, .int _)]) [3, 4, 1, 0] rfl ?_
    exact ih (i + 1) _ _ _ (by omega) (nI_1 i) (by show mxP acc (g (nI t * 8 + nI i).toNatClampNeg) = worN sz t (i + 1); rw [ha, ex, nI_clamp (by omega), h3 _ (by omega)]; rfl) rfl
set_option maxRecDepth 100000 in
set_option maxHeartbeats 4000000 in
theorem m_X0_begin {E : gE} {ad : Nat → Nat} {ws : va_W} {il : Nat} {lb : Int32} {sz : Nat → Int32} (h : LE E ad ws il lb sz) : C0 E YX0_begin 0 0 [.ref (ad il)] ws (fun v w => v = none ∧ LE E ad w il 0 (fun _ => 0) ∧ ∀ j, j ≠ il → j ≠ il + 1 → w[j]? = ws[j]?) := by
  obtain ⟨h1, g, h2, h3⟩ := h
  refine c0V vX0_begin (Nat.le_of_ble_eq_true rfl) (lv0 := [(0, .ref (ad il))]) rfl ?_
  suffices K : ∀ (m i : Nat) (x : Int32) (g1 : Nat → Int32) (w : va_W) (lv9 : List (Nat × Value)), i + m = 64 → x = nI i → (∀ j, j < i → g1 j = 0) → w[il]? = some (ad il, lesC (ad (il + 1)) 0) → w[il + 1]? = some (ad (il + 1), iaC E 64 g1) → (∀ j, j ≠ il → j ≠ il + 1 → w[j]? = ws[j]?) → lv9 = [(0, .ref (ad il)), (1, .int x)] →
      Ev E YX0_begin (fun v w => v = none ∧ LE E ad w il 0 (fun _ => 0) ∧ ∀ j, j ≠ il → j ≠ il + 1 → w[j]? = ws[j]?) nX 0 0 7 lv9 [] w by
    refine ev_ss DX0_begin 2 0 (pc' := 2) (lv' := [(0, .ref _)]) (st' := [.int 0, .ref _]) rfl ?_
    refine ev_put (fs' := [_, _]) DX0_begin 2 GX0 rfl (k0 := 1) (Nat.le_of_ble_eq_true rfl) fX0_15 rfl ⟨rfl, rfl⟩ h1 (Nat.le_of_ble_eq_true rfl) rfl rfl ?_
    refine ev_ss DX0_begin 2 3 (pc' := 7) (lv' := [(1, .int 0), (0, .ref _)]) (st' := []) rfl ?_
    refine ev_lvp (lv2 := [(0, .ref _), (1, .int _)]) [1, 0] rfl ?_
    exact K 64 0 _ g _ _ rfl nI_0.symm (fun j hj => absurd hj (Nat.not_lt_zero j)) (wset_get h1) (wset_n h2 (by omega)) (fun j hj hj2 => List.getElem?_set_ne (Ne.symm hj)) rfl
  intro m
  induction m with
  | zero =>
    intro i x g1 w lv9 hm hx hg k1 k2 k3 hv
    obtain rfl : i = 64 := by omega
    subst hx; subst hv
    refine ev_ss DX0_begin 2 5 (pc' := 10) (lv' := [(0, .ref _), (1, .int _)]) (st' := [.int 64, .int _]) rfl ?_
    refine ev_icge DX0_begin 7 rfl (tgt := 26) (by decide) (fun _ => ?_) (fun h => h.elim (by decide))
    exact ev_vret DX0_begin 15 rfl rfl ⟨rfl, ⟨k1, g1, k2, hg⟩, k3⟩
  | succ m ih =>
    intro i x g1 w lv9 hm hx hg k1 k2 k3 hv
    subst hx; subst hv
    refine ev_ss DX0_begin 2 5 (pc' := 10) (lv' := [(0, .ref _), (1, .int _)]) (st' := [.int 64, .int _]) rfl ?_
    refine ev_icge DX0_begin 7 rfl (tgt := 26) (by decide) (fun h => absurd h (nI_ge (b := 64) (by omega) (by decide))) (fun _ => ?_)
    refine ev_ss DX0_begin 1 8 (pc' := 14) (lv' := [(0, .ref _), (1, .int _)]) (st' := [.ref _]) rfl ?_
    refine ev_get DX0_begin 9 GX0 rfl (k0 := 0) (Nat.le_of_ble_eq_true rfl) fX0_9 k1 rfl ?_
    refine ev_ss DX0_begin 2 10 (pc' := 19) (lv' := [(0, .ref _), (1, .int _)]) (st' := [.int 0, .int _, .ref _]) rfl ?_
    refine ev_iast DX0_begin 12 rfl k2 (vp_in_nI (by omega) (by decide)) rfl ?_
    refine ev_ss DX0_begin 1 13 (pc' := 23) (lv' := [(1, .int _), (0, .ref _)]) (st' := []) rfl ?_
    refine ev_goto DX0_begin 14 rfl (tgt := 7) (by decide) ?_
    refine ev_lvp (lv2 := [(0, .ref _), (1, .int _)]) [1, 0] rfl ?_
    exact ih (i + 1) _ _ _ _ (by omega) (nI_1 i) (fun j hj => by unfold upd; split; rfl; rename_i hne; rw [nI_clamp (by omega)] at hne; exact hg j (by omega)) (wset_n k1 (by omega)) (wset_get k2) (fun j hj hj2 => by rw [List.getElem?_set_ne (Ne.symm hj2)]; exact k3 j hj hj2) rfl
def lrA (sd : Int32) : Int32 := if drwV (drwS sd) 2 = 1 then 128 else -128
def lrE (sd : Int32) (f : TF) : Int32 := arrP f (lrA sd) (drwN (drwS sd) f) - expP f (lrA sd)
def lrF (p sd : Int32) (f : TF) : TF := knowP (passP (impP f (lrE sd f) (lrA sd) p) (lrA sd) (lrA sd))
def lrT (p : Int32) (nb : Nat) (sd : Int32) (σ : WS) (sz : Nat → Int32) : Nat → Int32 × WS × (Nat → Int32)
  | 0 => (sd, σ, sz)
  | i + 1 => (drwS (drwS (lrT p nb sd σ sz i).1), (va_up (lrT p nb sd σ sz i).2.1.1 i (lrF p (lrT p nb sd σ sz i).1 ((lrT p nb sd σ sz i).2.1.1 i)), (lrT p nb sd σ sz i).2.1.2), upd (lrT p nb sd σ sz i).2.2 (8 * i + nb % 8) (absP (lrE (lrT p nb sd σ sz i).1 ((lrT p nb sd σ sz i).2.1.1 i))))
noncomputable def lrN (p sd : Int32) (σ : WS) : Nat → Int32 × WS × (Nat → Int32)
  | 0 => (sd, σ, fun _ => 0)
  | n + 1 => lrT p n (lrN p sd σ n).1 (lrN p sd σ n).2.1 (lrN p sd σ n).2.2 k8
theorem lrN_0 {p sd : Int32} {σ : WS} : lrN p sd σ 0 = (sd, σ, fun _ => 0) := rfl
theorem lrN_s {p sd : Int32} {σ : WS} {n : Nat} : lrN p sd σ (n + 1) = lrT p n (lrN p sd σ n).1 (lrN p sd σ n).2.1 (lrN p sd σ n).2.2 k8 := rfl
theorem lrT_0 {p sd : Int32} {nb : Nat} {σ : WS} {sz : Nat → Int32} : lrT p nb sd σ sz 0 = (sd, σ, sz) := rfl
def TN (f : TF) : Prop := ¬ 2 * f 3 + 1 ≤ 0
theorem lrF_3 (p sd : Int32) (f : TF) : lrF p sd f 3 = f 3 := rfl
theorem TN_lrT {p sd : Int32} {nb : Nat} {σ : WS} {sz : Nat → Int32} (h : ∀ t, t < 8 → TN (σ.1 t)) : ∀ i, i ≤ 8 → ∀ t, t < 8 → TN ((lrT p nb sd σ sz i).2.1.1 t)
  | 0, _ => h
  | i + 1, hi => by
    intro t ht
    show TN (va_up (lrT p nb sd σ sz i).2.1.1 i _ t)
    unfold va_up
    split
    · unfold TN
      rw [lrF_3]
      exact TN_lrT h i (by omega) i (by omega)
    · exact TN_lrT h i (by omega) t ht
theorem TN_lrN {p sd : Int32} {σ : WS} (h : ∀ t, t < 8 → TN (σ.1 t)) : ∀ n t, t < 8 → TN ((lrN p sd σ n).2.1.1 t)
  | 0 => h
  | n + 1 => by
    rw [lrN_s]
    exact TN_lrT (TN_lrN h n) k8 (Nat.le_of_eq k8e)
def SL (is iw il : Nat) (ws w : va_W) : Prop := ∀ j, j ≠ is → (j < iw ∨ iw + 12 ≤ j) → j ≠ il → j ≠ il + 1 → w[j]? = ws[j]?
theorem SL.rf {is iw il : Nat} {ws : va_W} : SL is iw il ws ws := fun _ _ _ _ _ => rfl
theorem SL.tr {is iw il : Nat} {ws w w2 : va_W} (h : SL is iw il ws w) (h2 : SL is iw il w w2) : SL is iw il ws w2 := fun j a b c d => (h2 j a b c d).trans (h j a b c d)
def AL (is iw il : Nat) : Prop := (il + 1 < is ∨ is + 26 ≤ il) ∧ is < iw ∧ iw + 12 ≤ is + 25
set_option maxRecDepth 100000 in
set_option maxHeartbeats 4000000 in
theorem m_X1_learnBeat {E : gE} {ad : Nat → Nat} {ws : va_W} {is iw il nb : Nat} {sd0 bt lb : Int32} {se : Nat → Int32} {σ0 : WS} {sz0 : Nat → Int32} (hnb : nb < 128) (hlb : lb = nI nb) (hi : AL is iw il) (hS0 : SD E ad ws is sd0 bt se) (hW0 : WY E ad ws iw σ0) (hL0 : LE E ad ws il lb sz0) (hN : ∀ t, t < 8 → TN (σ0.1 t)) (hp : ¬ se 0 ≤ 0) (hp2 : ¬ (128 : Int32) * se 0 = 0) : C0 E YX1_learnBeat 0 0 [.ref (ad is), .ref (ad iw), .ref (ad il)] ws (fun v w => v = none ∧ SD E ad w is (lrT (se 0) nb sd0 σ0 sz0 k8).1 (bt + 1) se ∧ WY E ad w iw (lrT (se 0) nb sd0 σ0 sz0 k8).2.1 ∧ LE E ad w il (nI (nb + 1)) (lrT (se 0) nb sd0 σ0 sz0 k8).2.2 ∧ SL is iw il ws w) := by
  have e8 := k8e
  obtain ⟨i1, i2, i3⟩ := id hi
  refine c0V vX1_learnBeat (Nat.le_of_ble_eq_true rfl) (lv0 := [(0, .ref (ad is)), (1, .ref (ad iw)), (2, .ref (ad il))]) rfl ?_
  suffices K : ∀ (m i : Nat) (x : Int32) (w : va_W) (lv9 : List (Nat × Value)), i + m = k8 → x = nI i → SD E ad w is (lrT (se 0) nb sd0 σ0 sz0 i).1 bt se → WY E ad w iw (lrT (se 0) nb sd0 σ0 sz0 i).2.1 → LE E ad w il lb (lrT (se 0) nb sd0 σ0 sz0 i).2.2 → SL is iw il ws w → lv9 = [(0, .ref (ad is)), (1, .ref (ad iw)), (2, .ref (ad il)), (3, .int x)] →
      Ev E YX1_learnBeat (fun v w => v = none ∧ SD E ad w is (lrT (se 0) nb sd0 σ0 sz0 k8).1 (bt + 1) se ∧ WY E ad w iw (lrT (se 0) nb sd0 σ0 sz0 k8).2.1 ∧ LE E ad w il (nI (nb + 1)) (lrT (se 0) nb sd0 σ0 sz0 k8).2.2 ∧ SL is iw il ws w) nX 0 0 2 lv9 [] w by
    refine ev_ss DX1_learnBeat 2 0 (pc' := 2) (lv' := [(3, .int 0), (0, .ref _), (1, .ref _), (2, .ref _)]) (st' := []) rfl ?_
    refine ev_lvp (lv2 := [(0, .ref _), (1, .ref _), (2, .ref _), (3, .int _)]) [1, 2, 3, 0] rfl ?_
    exact K k8 0 _ ws _ (Nat.zero_add k8) nI_0.symm (by rw [lrT_0]; exact hS0) (by rw [lrT_0]; exact hW0) (by rw [lrT_0]; exact hL0) SL.rf rfl
  intro m
  induction m with
  | zero =>
    intro i x w lv9 hm hx hS hW hL hO hv
    obtain rfl : i = k8 := by omega
    subst hx; subst hv; subst hlb
    refine ev_ss DX1_learnBeat 2 2 (pc' := 5) (lv' := [(0, .ref _), (1, .ref _), (2, .ref _), (3, .int _)]) (st' := [.int 8, .int _]) rfl ?_
    refine ev_icge DX1_learnBeat 4 rfl (tgt := 100) (by decide) (fun _ => ?_) (fun h => h.elim (by rw [k8e]; decide))
    refine ev_ss DX1_learnBeat 2 50 (pc' := 102) (lv' := [(0, .ref _), (1, .ref _), (2, .ref _), (3, .int _)]) (st' := [.ref _, .ref _]) rfl ?_
    refine ev_get DX1_learnBeat 52 GX0 rfl (k0 := 1) (Nat.le_of_ble_eq_true rfl) fX1_148 hL.1 rfl ?_
    refine ev_ss DX1_learnBeat 2 53 (pc' := 107) (lv' := [(0, .ref _), (1, .ref _), (2, .ref _), (3, .int _)]) (st' := [.int _, .ref _]) rfl ?_
    refine ev_put (fs' := [_, _]) DX1_learnBeat 55 GX0 rfl (k0 := 1) (Nat.le_of_ble_eq_true rfl) fX1_148 rfl ⟨rfl, rfl⟩ hL.1 (Nat.le_of_ble_eq_true rfl) rfl rfl ?_
    refine ev_ss DX1_learnBeat 2 56 (pc' := 112) (lv' := [(0, .ref _), (1, .ref _), (2, .ref _), (3, .int _)]) (st' := [.ref _, .ref _]) rfl ?_
    refine ev_get DX1_learnBeat 58 GX1 rfl (k0 := 4) (Nat.le_of_ble_eq_true rfl) fX1_47 (wset_o hS.1 hL.1 rfl) rfl ?_
    refine ev_ss DX1_learnBeat 2 59 (pc' := 117) (lv' := [(0, .ref _), (1, .ref _), (2, .ref _), (3, .int _)]) (st' := [.int _, .ref _]) rfl ?_
    refine ev_put (fs' := [_, _, _, _, _]) DX1_learnBeat 61 GX1 rfl (k0 := 4) (Nat.le_of_ble_eq_true rfl) fX1_47 rfl ⟨rfl, rfl⟩ (wset_o hS.1 hL.1 rfl) (Nat.le_of_ble_eq_true rfl) rfl rfl ?_
    exact ev_vret DX1_learnBeat 62 rfl rfl ⟨rfl, (hS.of (w := w.set il (ad il, lesC (ad (il + 1)) (nI nb + 1))) (List.getElem?_set_ne (by omega)) (List.getElem?_set_ne (by omega))).seed, (hW.of (w := w.set il (ad il, lesC (ad (il + 1)) (nI nb + 1))) (fun j a b => List.getElem?_set_ne (by omega))).st (Or.inl i2), ⟨wset_n (by rw [← nI_1]; exact wset_get hL.1) (by omega), (by obtain ⟨-, g, g1, g2⟩ := hL; exact ⟨g, wset_n (wset_n g1 (by omega)) (by omega), g2⟩)⟩, hO.tr (fun j a b c d => by rw [List.getElem?_set_ne (by omega), List.getElem?_set_ne (by omega)])⟩
  | succ m ih =>
    intro i x w lv9 hm hx hS hW hL hO hv
    subst hx; subst hv
    obtain ⟨st, sz, r, h1, h2, h3, h4, h5, h6⟩ := id hW
    obtain ⟨hs1, g, hs2, hs3⟩ := id hS
    have hTN := TN_lrT (p := se 0) (sd := sd0) (nb := nb) (sz := sz0) hN i (by omega) i (by omega)
    obtain ⟨sd, esd⟩ : ∃ z, z = (lrT (se 0) nb sd0 σ0 sz0 i).1 := ⟨_, rfl⟩
    obtain ⟨f, ef⟩ : ∃ z, z = (lrT (se 0) nb sd0 σ0 sz0 i).2.1.1 i := ⟨_, rfl⟩
    have hT : w[iw + 4 + i]? = some (ad (iw + 4 + i), toneC f) := by rw [ef]; exact h6 i (by omega)
    rw [← esd] at hs1
    rw [← ef] at hTN
    have g0 : g ((0 : Int32).toNatClampNeg) = se 0 := hs3 0 (by decide)
    refine ev_ss DX1_learnBeat 2 2 (pc' := 5) (lv' := [(0, .ref _), (1, .ref _), (2, .ref _), (3, .int _)]) (st' := [.int 8, .int _]) rfl ?_
    refine ev_icge DX1_learnBeat 4 rfl (tgt := 100) (by decide) (fun h => absurd h (nI_ge (b := 8) (by omega) (by decide))) (fun _ => ?_)
    suffices J : ∀ amp : Int32, lrA sd = amp → Ev E YX1_learnBeat (fun v w => v = none ∧ SD E ad w is (lrT (se 0) nb sd0 σ0 sz0 k8).1 (bt + 1) se ∧ WY E ad w iw (lrT (se 0) nb sd0 σ0 sz0 k8).2.1 ∧ LE E ad w il (nI (nb + 1)) (lrT (se 0) nb sd0 σ0 sz0 k8).2.2 ∧ SL is iw il ws w) nX 0 0 33 [(4, .ref (ad (iw + 4 + i))), (0, .ref (ad is)), (1, .ref (ad iw)), (2, .ref (ad il)), (3, .int (nI i))] [.int amp] (w.set is (ad is, stC (ad (is + 1)) (ad (is + 13)) (ad (is + 25)) (drwS sd) bt)) by
      refine ev_ss DX1_learnBeat 1 5 (pc' := 9) (lv' := [(0, .ref _), (1, .ref _), (2, .ref _), (3, .int _)]) (st' := [.ref _]) rfl ?_
      refine ev_get DX1_learnBeat 6 GX5 rfl (k0 := 0) (Nat.le_of_ble_eq_true rfl) fX1_66 h1 rfl ?_
      refine ev_ss DX1_learnBeat 1 7 (pc' := 13) (lv' := [(0, .ref _), (1, .ref _), (2, .ref _), (3, .int _)]) (st' := [.int _, .ref _]) rfl ?_
      refine ev_aald4 DX1_learnBeat 8 rfl h2 (vp_in_nI (by omega) (by decide)) (b := ad (iw + 4 + i)) (arT_at (by omega)) ?_
      refine ev_ss DX1_learnBeat 3 9 (pc' := 18) (lv' := [(4, .ref _), (0, .ref _), (1, .ref _), (2, .ref _), (3, .int _)]) (st' := [.int 2, .ref _]) rfl ?_
      refine ev_cV DX1_learnBeat 12 (m_X1_draw hs1 (by decide)) vX1_draw rfl qX1_62 rfl hs1 rfl (hd_of rfl rfl rfl rfl) ?_
      refine ev_ss DX1_learnBeat 1 13 (pc' := 22) (lv' := [(4, .ref _), (0, .ref _), (1, .ref _), (2, .ref _), (3, .int _)]) (st' := [.int 1, .int _]) rfl ?_
      refine ev_icne DX1_learnBeat 14 rfl (tgt := 31) (by decide) (fun c_1 => ?_) (fun c_1 => ?_)
      · refine ev_ss DX1_learnBeat 1 17 (pc' := 33) (lv' := [(4, .ref _), (0, .ref _), (1, .ref _), (2, .ref _), (3, .int _)]) (st' := [.int (-128)]) rfl ?_
        exact J _ (if_neg c_1)
      · refine ev_ss DX1_learnBeat 1 15 (pc' := 28) (lv' := [(4, .ref _), (0, .ref _), (1, .ref _), (2, .ref _), (3, .int _)]) (st' := [.int 128]) rfl ?_
        refine ev_goto DX1_learnBeat 16 rfl (tgt := 33) (by decide) ?_
        exact J _ (if_pos c_1)
    intro amp hamp
    refine ev_ss DX1_learnBeat 5 18 (pc' := 42) (lv' := [(5, .int _), (4, .ref _), (0, .ref _), (1, .ref _), (2, .ref _), (3, .int _)]) (st' := [.ref _, .ref _, .int _, .ref _]) rfl ?_
    refine ev_cV DX1_learnBeat 23 (cd_hs (m_X1_drawNoise (wset_get hs1) (wset_o hT hs1 rfl) hTN) wset_set) vX1_drawNoise rfl qX1_93 rfl (wset_get hs1) rfl (hd_of rfl rfl rfl rfl) ?_
    refine ev_cV DX1_learnBeat 24 (m_X3_arriving (wset_o hT hs1 rfl)) vX3_arriving rfl qX1_97 rfl (wset_o hT hs1 rfl) rfl (hd_of rfl rfl rfl rfl) ?_
    refine ev_ss DX1_learnBeat 2 25 (pc' := 52) (lv' := [(5, .int _), (4, .ref _), (0, .ref _), (1, .ref _), (2, .ref _), (3, .int _)]) (st' := [.int _, .ref _, .int _]) rfl ?_
    refine ev_cV DX1_learnBeat 27 (m_X3_expected (wset_o hT hs1 rfl)) vX3_expected rfl qX1_136 rfl (wset_o hT hs1 rfl) rfl (hd_of rfl rfl rfl rfl) ?_
    refine ev_ss DX1_learnBeat 6 28 (pc' := 65) (lv' := [(6, .int _), (5, .int _), (4, .ref _), (0, .ref _), (1, .ref _), (2, .ref _), (3, .int _)]) (st' := [.ref _, .int _, .int _, .ref _]) rfl ?_
    refine ev_get DX1_learnBeat 34 GX1 rfl (k0 := 2) (Nat.le_of_ble_eq_true rfl) fX1_21 (wset_get hs1) rfl ?_
    refine ev_ss DX1_learnBeat 1 35 (pc' := 69) (lv' := [(6, .int _), (5, .int _), (4, .ref _), (0, .ref _), (1, .ref _), (2, .ref _), (3, .int _)]) (st' := [.int 0, .ref _, .int _, .int _, .ref _]) rfl ?_
    refine ev_iald DX1_learnBeat 36 rfl (wset_o hs2 hs1 rfl) (by unfold vp_in; decide) ?_
    refine ev_cV DX1_learnBeat 37 (m_X3_improve (wset_o hT hs1 rfl) (by rw [g0]; exact hp) (by rw [g0]; exact hp2)) vX3_improve rfl qX1_139 rfl (wset_o hT hs1 rfl) rfl (hd_of rfl rfl rfl rfl) ?_
    refine ev_ss DX1_learnBeat 3 38 (pc' := 79) (lv' := [(6, .int _), (5, .int _), (4, .ref _), (0, .ref _), (1, .ref _), (2, .ref _), (3, .int _)]) (st' := [.int _, .int _, .ref _]) rfl ?_
    refine ev_cV DX1_learnBeat 41 (cd_hs (m_X3_pass (wset_get (wset_o hT hs1 rfl))) wset_set) vX3_pass rfl qX1_109 rfl (wset_get (wset_o hT hs1 rfl)) rfl (hd_of rfl rfl rfl rfl) ?_
    refine ev_ss DX1_learnBeat 1 42 (pc' := 84) (lv' := [(6, .int _), (5, .int _), (4, .ref _), (0, .ref _), (1, .ref _), (2, .ref _), (3, .int _)]) (st' := [.ref _]) rfl ?_
    refine ev_cV DX1_learnBeat 43 (cd_hs (m_X3_knowSignBefore (wset_get (wset_o hT hs1 rfl))) wset_set) vX3_knowSignBefore rfl qX1_142 rfl (wset_get (wset_o hT hs1 rfl)) rfl (hd_of rfl rfl rfl rfl) ?_
    refine ev_ss DX1_learnBeat 3 44 (pc' := 91) (lv' := [(6, .int _), (5, .int _), (4, .ref _), (0, .ref _), (1, .ref _), (2, .ref _), (3, .int _)]) (st' := [.int _, .int _, .ref _]) rfl ?_
    have hL2 : LE E ad ((w.set is (ad is, stC (ad (is + 1)) (ad (is + 13)) (ad (is + 25)) (drwS (drwS sd)) bt)).set (iw + 4 + i) (ad (iw + 4 + i), toneC (knowP (passP (impP f (arrP f amp (drwN (drwS sd) f) - expP f amp) amp (g ((0 : Int32).toNatClampNeg))) amp amp)))) il lb (lrT (se 0) nb sd0 σ0 sz0 i).2.2 := hL.of (by rw [List.getElem?_set_ne (by omega), List.getElem?_set_ne (by omega)]) (by rw [List.getElem?_set_ne (by omega), List.getElem?_set_ne (by omega)])
    refine ev_rV DX1_learnBeat 47 (m_X0_note (b := nb) (t := i) hnb (by omega) hlb hL2) vX0_note rfl qX1_145 rfl hL2.1 rfl (hd_of rfl rfl rfl rfl) (fun v w2 hvw => ?_)
    obtain ⟨rfl, hL3, hO3⟩ := hvw
    refine ev_ss DX1_learnBeat 1 48 (pc' := 97) (lv' := [(3, .int _), (6, .int _), (5, .int _), (4, .ref _), (0, .ref _), (1, .ref _), (2, .ref _)]) (st' := []) rfl ?_
    refine ev_goto DX1_learnBeat 49 rfl (tgt := 2) (by decide) ?_
    refine ev_lvp (lv2 := [(0, .ref _), (1, .ref _), (2, .ref _), (3, .int _)]) [4, 5, 6, 0] rfl ?_
    have hS2 : SD E ad (w.set is (ad is, stC (ad (is + 1)) (ad (is + 13)) (ad (is + 25)) (drwS (drwS sd)) bt)) is (drwS (drwS sd)) bt se := hS.seed
    have hW2 := (hW.st (is := is) (x := (ad is, stC (ad (is + 1)) (ad (is + 13)) (ad (is + 25)) (drwS (drwS sd)) bt)) (Or.inl i2)).tone (t := i) (by omega) (f := knowP (passP (impP f (arrP f amp (drwN (drwS sd) f) - expP f amp) amp (g ((0 : Int32).toNatClampNeg))) amp amp))
    have eF : knowP (passP (impP f (arrP f amp (drwN (drwS sd) f) - expP f amp) amp (g ((0 : Int32).toNatClampNeg))) amp amp) = lrF (se 0) sd f := by rw [g0, ← hamp]; rfl
    have eE : absP (arrP f amp (drwN (drwS sd) f) - expP f amp) = absP (lrE sd f) := by rw [← hamp]; rfl
    refine ih (i + 1) _ w2 _ (by omega) (nI_1 i) ?_ ?_ ?_ ?_ rfl
    · show SD E ad w2 is (drwS (drwS (lrT (se 0) nb sd0 σ0 sz0 i).1)) bt se
      rw [← esd]
      exact (hS2.of (w := (w.set is (ad is, stC (ad (is + 1)) (ad (is + 13)) (ad (is + 25)) (drwS (drwS sd)) bt)).set (iw + 4 + i) _) (List.getElem?_set_ne (by omega)) (List.getElem?_set_ne (by omega))).of (hO3 is (by omega)) (hO3 (is + 25) (by omega))
    · show WY E ad w2 iw (va_up (lrT (se 0) nb sd0 σ0 sz0 i).2.1.1 i (lrF (se 0) (lrT (se 0) nb sd0 σ0 sz0 i).1 ((lrT (se 0) nb sd0 σ0 sz0 i).2.1.1 i)), (lrT (se 0) nb sd0 σ0 sz0 i).2.1.2)
      rw [← esd, ← ef, ← eF]
      exact hW2.of (fun j a b => hO3 j (by omega))
    · show LE E ad w2 il lb (upd (lrT (se 0) nb sd0 σ0 sz0 i).2.2 (8 * i + nb % 8) (absP (lrE (lrT (se 0) nb sd0 σ0 sz0 i).1 ((lrT (se 0) nb sd0 σ0 sz0 i).2.1.1 i))))
      rw [← esd, ← ef, ← eE]
      exact hL3
    · exact hO.tr (fun j a b c d => (hO3 j d).trans (by rw [List.getElem?_set_ne (by omega), List.getElem?_set_ne (by omega)]))
end
section
def cpR (f g : Nat → Int32) (n : Int32) : Nat → Int32 := va_cpy f g (0 : Int32).toNatClampNeg (0 : Int32).toNatClampNeg n.toNatClampNeg
theorem cpR_at {f g : Nat → Int32} {n : Int32} {k : Nat} (h : k < n.toNatClampNeg) : cpR f g n k = f k := by
  unfold cpR va_cpy
  rw [show (0 : Int32).toNatClampNeg = 0 from rfl, if_pos ⟨Nat.zero_le k, by omega⟩, Nat.zero_add, Nat.sub_zero]
theorem RQ_cp {r r2 : Nat → Int32} {st sz : Int32} {bs : List Int32} (h : RQ r st sz bs) : RQ (cpR r r2 256) st sz bs := by
  obtain ⟨s0, h1, h2, h3, h4, h5⟩ := h
  refine ⟨s0, h1, h2, h3, h4, fun p hp => ?_⟩
  rw [cpR_at (by rw [show (256 : Int32).toNatClampNeg = 256 from rfl]; omega)]
  exact h5 p hp
set_option maxRecDepth 100000 in
set_option maxHeartbeats 4000000 in
theorem m_X4_copyFrom {E : gE} {ws : va_W} {q a q2 a2 qr ar qr2 ar2 : Nat} {r r2 : Nat → Int32} {st sz st2 sz2 : Int32} (h : ws[q]? = some (a, waitC ar st sz)) (h2 : ws[q2]? = some (a2, waitC ar2 st2 sz2)) (hr : ws[qr]? = some (ar, iaC E 256 r)) (hr2 : ws[qr2]? = some (ar2, iaC E 256 r2)) (hne : q2 ≠ q) : CD E YX4_copyFrom 0 0 [.ref a, .ref a2] ws none ((ws.set qr (ar, iaC E 256 (cpR r2 r 256))).set q (a, waitC ar st2 sz2)) := by
  refine cdV vX4_copyFrom (Nat.le_of_ble_eq_true rfl) (lv0 := [(0, .ref a), (1, .ref a2)]) rfl ?_
  refine ev_ss DX4_copyFrom 1 0 (pc' := 1) (lv' := [(0, .ref _), (1, .ref _)]) (st' := [.ref _]) rfl ?_
  refine ev_get DX4_copyFrom 1 GX4 rfl (k0 := 0) (Nat.le_of_ble_eq_true rfl) fX4_9 h2 rfl ?_
  refine ev_ss DX4_copyFrom 2 2 (pc' := 6) (lv' := [(0, .ref _), (1, .ref _)]) (st' := [.ref _, .int 0, .ref _]) rfl ?_
  refine ev_get DX4_copyFrom 4 GX4 rfl (k0 := 0) (Nat.le_of_ble_eq_true rfl) fX4_9 h rfl ?_
  refine ev_ss DX4_copyFrom 2 5 (pc' := 13) (lv' := [(0, .ref _), (1, .ref _)]) (st' := [.int 256, .int 0, .ref _, .int 0, .ref _]) rfl ?_
  refine ev_copy DX4_copyFrom 7 rfl qX4_15 (Nat.le_of_ble_eq_true rfl) (Nat.le_of_ble_eq_true rfl) hr2 hr (by decide) (by decide) (by decide) (by decide) (by decide) rfl ?_
  refine ev_ss DX4_copyFrom 2 8 (pc' := 18) (lv' := [(0, .ref _), (1, .ref _)]) (st' := [.ref _, .ref _]) rfl ?_
  refine ev_get DX4_copyFrom 10 GX4 rfl (k0 := 1) (Nat.le_of_ble_eq_true rfl) fX4_21 (wset_o h2 hr rfl) rfl ?_
  refine ev_put (fs' := [_, _, _]) DX4_copyFrom 11 GX4 rfl (k0 := 1) (Nat.le_of_ble_eq_true rfl) fX4_21 rfl ⟨rfl, rfl⟩ (wset_o h hr rfl) (Nat.le_of_ble_eq_true rfl) rfl rfl ?_
  refine ev_ss DX4_copyFrom 2 12 (pc' := 26) (lv' := [(0, .ref _), (1, .ref _)]) (st' := [.ref _, .ref _]) rfl ?_
  refine ev_get DX4_copyFrom 14 GX4 rfl (k0 := 2) (Nat.le_of_ble_eq_true rfl) fX4_25 (wset_n (wset_o h2 hr rfl) (Ne.symm hne)) rfl ?_
  refine ev_put (fs' := [_, _, _]) DX4_copyFrom 15 GX4 rfl (k0 := 2) (Nat.le_of_ble_eq_true rfl) fX4_25 rfl ⟨rfl, rfl⟩ (wset_get (wset_o h hr rfl)) (Nat.le_of_ble_eq_true rfl) rfl wset_set ?_
  exact ev_vret DX4_copyFrom 16 rfl rfl ⟨rfl, rfl⟩
set_option maxRecDepth 100000 in
set_option maxHeartbeats 4000000 in
theorem m_X1_copyCommonFrom {E : gE} {ws : va_W} {q a q2 a2 qs sg qs2 sg2 w0 w1 w2 w3 : Nat} {g g2 : Nat → Int32} {sd bt sd2 bt2 : Int32} (h : ws[q]? = some (a, stC w0 w1 sg sd bt)) (h2 : ws[q2]? = some (a2, stC w2 w3 sg2 sd2 bt2)) (hr : ws[qs]? = some (sg, iaC E 3 g)) (hr2 : ws[qs2]? = some (sg2, iaC E 3 g2)) (hne : q2 ≠ q) : CD E YX1_copyCommonFrom 0 0 [.ref a, .ref a2] ws none ((ws.set qs (sg, iaC E 3 (cpR g2 g 3))).set q (a, stC w0 w1 sg sd2 bt2)) := by
  refine cdV vX1_copyCommonFrom (Nat.le_of_ble_eq_true rfl) (lv0 := [(0, .ref a), (1, .ref a2)]) rfl ?_
  refine ev_ss DX1_copyCommonFrom 1 0 (pc' := 1) (lv' := [(0, .ref _), (1, .ref _)]) (st' := [.ref _]) rfl ?_
  refine ev_get DX1_copyCommonFrom 1 GX1 rfl (k0 := 2) (Nat.le_of_ble_eq_true rfl) fX1_21 h2 rfl ?_
  refine ev_ss DX1_copyCommonFrom 2 2 (pc' := 6) (lv' := [(0, .ref _), (1, .ref _)]) (st' := [.ref _, .int 0, .ref _]) rfl ?_
  refine ev_get DX1_copyCommonFrom 4 GX1 rfl (k0 := 2) (Nat.le_of_ble_eq_true rfl) fX1_21 h rfl ?_
  refine ev_ss DX1_copyCommonFrom 2 5 (pc' := 11) (lv' := [(0, .ref _), (1, .ref _)]) (st' := [.int 3, .int 0, .ref _, .int 0, .ref _]) rfl ?_
  refine ev_copy DX1_copyCommonFrom 7 rfl qX1_41 (Nat.le_of_ble_eq_true rfl) (Nat.le_of_ble_eq_true rfl) hr2 hr (by decide) (by decide) (by decide) (by decide) (by decide) rfl ?_
  refine ev_ss DX1_copyCommonFrom 2 8 (pc' := 16) (lv' := [(0, .ref _), (1, .ref _)]) (st' := [.ref _, .ref _]) rfl ?_
  refine ev_get DX1_copyCommonFrom 10 GX1 rfl (k0 := 3) (Nat.le_of_ble_eq_true rfl) fX1_25 (wset_o h2 hr rfl) rfl ?_
  refine ev_put (fs' := [_, _, _, _, _]) DX1_copyCommonFrom 11 GX1 rfl (k0 := 3) (Nat.le_of_ble_eq_true rfl) fX1_25 rfl ⟨rfl, rfl⟩ (wset_o h hr rfl) (Nat.le_of_ble_eq_true rfl) rfl rfl ?_
  refine ev_ss DX1_copyCommonFrom 2 12 (pc' := 24) (lv' := [(0, .ref _), (1, .ref _)]) (st' := [.ref _, .ref _]) rfl ?_
  refine ev_get DX1_copyCommonFrom 14 GX1 rfl (k0 := 4) (Nat.le_of_ble_eq_true rfl) fX1_47 (wset_n (wset_o h2 hr rfl) (Ne.symm hne)) rfl ?_
  refine ev_put (fs' := [_, _, _, _, _]) DX1_copyCommonFrom 15 GX1 rfl (k0 := 4) (Nat.le_of_ble_eq_true rfl) fX1_47 rfl ⟨rfl, rfl⟩ (wset_get (wset_o h hr rfl)) (Nat.le_of_ble_eq_true rfl) rfl wset_set ?_
  exact ev_vret DX1_copyCommonFrom 16 rfl rfl ⟨rfl, rfl⟩
def cpT (τ σ : WS) (i : Nat) : WS := (fun t => if t < i then τ.1 t else σ.1 t, σ.2)
theorem cpT_0 {τ σ : WS} : cpT τ σ 0 = σ := rfl
theorem cpT_s {τ σ : WS} {i : Nat} : (va_up (cpT τ σ i).1 i (τ.1 i), (cpT τ σ i).2) = cpT τ σ (i + 1) := by
  refine Prod.ext (funext fun t => ?_) rfl
  show (if t = i then τ.1 i else if t < i then τ.1 t else σ.1 t) = if t < i + 1 then τ.1 t else σ.1 t
  by_cases h1 : t = i
  · subst h1
    rw [if_pos rfl]
    exact (if_pos (Nat.lt_succ_self t)).symm
  · rw [if_neg h1]
    by_cases h2 : t < i
    · show (if t < i then τ.1 t else σ.1 t) = if t < i + 1 then τ.1 t else σ.1 t
      rw [if_pos h2, if_pos (by omega)]
    · show (if t < i then τ.1 t else σ.1 t) = if t < i + 1 then τ.1 t else σ.1 t
      rw [if_neg h2, if_neg (by omega)]
/-- two ways lie apart -/
def WP (iw iv : Nat) : Prop := iw + 12 ≤ iv ∨ iv + 12 ≤ iw
/-- nothing has changed outside a way -/
def WO (iw : Nat) (ws w : va_W) : Prop := ∀ j, (j < iw ∨ iw + 12 ≤ j) → w[j]? = ws[j]?
theorem WO.rf {iw : Nat} {ws : va_W} : WO iw ws ws := fun _ _ => rfl
theorem WO.tr {iw : Nat} {ws w w2 : va_W} (h : WO iw ws w) (h2 : WO iw w w2) : WO iw ws w2 := fun j a => (h2 j a).trans (h j a)
theorem WO.set {iw j : Nat} {ws : va_W} {x : Nat × va_E} (h1 : iw ≤ j) (h2 : j < iw + 12) : WO iw ws (ws.set j x) := fun j2 a => List.getElem?_set_ne (by omega)
theorem WY.ext {E : gE} {ad : Nat → Nat} {ws : va_W} {iw : Nat} {σ τ : WS} (h : WY E ad ws iw σ) (h1 : ∀ t, t < 8 → σ.1 t = τ.1 t) (h2 : σ.2 = τ.2) : WY E ad ws iw τ := by
  obtain ⟨st, sz, r, a, b, c, d, e, f⟩ := h
  rw [h2] at a e
  exact ⟨st, sz, r, a, b, c, d, e, fun t ht => by rw [← h1 t ht]; exact f t ht⟩
set_option maxRecDepth 100000 in
set_option maxHeartbeats 4000000 in
theorem m_X5_copyFrom {E : gE} {ad : Nat → Nat} {ws : va_W} {iw iv : Nat} {σ τ : WS} (hi : WP iw iv) (hW0 : WY E ad ws iw σ) (hV0 : WY E ad ws iv τ) : C0 E YX5_copyFrom 0 0 [.ref (ad iw), .ref (ad iv)] ws (fun v w => v = none ∧ WY E ad w iw τ ∧ WO iw ws w) := by
  have e8 := k8e
  unfold WP at hi
  refine c0V vX5_copyFrom (Nat.le_of_ble_eq_true rfl) (lv0 := [(0, .ref (ad iw)), (1, .ref (ad iv))]) rfl ?_
  suffices K : ∀ (m i : Nat) (x : Int32) (w : va_W) (lv9 : List (Nat × Value)), i + m = k8 → x = nI i → WY E ad w iw (cpT τ σ i) → WO iw ws w → lv9 = [(0, .ref (ad iw)), (1, .ref (ad iv)), (2, .int x)] →
      Ev E YX5_copyFrom (fun v w => v = none ∧ WY E ad w iw τ ∧ WO iw ws w) nX 0 0 2 lv9 [] w by
    refine ev_ss DX5_copyFrom 2 0 (pc' := 2) (lv' := [(2, .int 0), (0, .ref _), (1, .ref _)]) (st' := []) rfl ?_
    refine ev_lvp (lv2 := [(0, .ref _), (1, .ref _), (2, .int _)]) [1, 2, 0] rfl ?_
    exact K k8 0 _ ws _ (Nat.zero_add k8) nI_0.symm (by rw [cpT_0]; exact hW0) WO.rf rfl
  intro m
  induction m with
  | zero =>
    intro i x w lv9 hm hx hW hO hv
    obtain rfl : i = k8 := by omega
    subst hx; subst hv
    have hV : WY E ad w iv τ := hV0.of (fun j a b => hO j (by omega))
    obtain ⟨st, sz, r, h1, h2, h3, h4, h5, h6⟩ := id hW
    obtain ⟨st2, sz2, r2, g1, g2, g3, g4, g5, g6⟩ := id hV
    refine ev_ss DX5_copyFrom 2 2 (pc' := 5) (lv' := [(0, .ref _), (1, .ref _), (2, .int _)]) (st' := [.int 8, .int _]) rfl ?_
    refine ev_icge DX5_copyFrom 4 rfl (tgt := 29) (by decide) (fun _ => ?_) (fun h => h.elim (by rw [k8e]; decide))
    refine ev_ss DX5_copyFrom 1 16 (pc' := 30) (lv' := [(0, .ref _), (1, .ref _), (2, .int _)]) (st' := [.ref _]) rfl ?_
    refine ev_get DX5_copyFrom 17 GX5 rfl (k0 := 1) (Nat.le_of_ble_eq_true rfl) fX5_20 h1 rfl ?_
    refine ev_ss DX5_copyFrom 1 18 (pc' := 34) (lv' := [(0, .ref _), (1, .ref _), (2, .int _)]) (st' := [.ref _, .ref _]) rfl ?_
    refine ev_get DX5_copyFrom 19 GX5 rfl (k0 := 1) (Nat.le_of_ble_eq_true rfl) fX5_20 g1 rfl ?_
    refine ev_cV DX5_copyFrom 20 (m_X4_copyFrom h3 g3 h4 g4 (by omega)) vX4_copyFrom rfl qX5_29 rfl h3 rfl (hd_of rfl rfl rfl rfl) ?_
    refine ev_ss DX5_copyFrom 2 21 (pc' := 42) (lv' := [(0, .ref _), (1, .ref _), (2, .int _)]) (st' := [.ref _, .ref _]) rfl ?_
    refine ev_get DX5_copyFrom 23 GX5 rfl (k0 := 2) (Nat.le_of_ble_eq_true rfl) fX5_32 (wset_n (wset_n g1 (by omega)) (by omega)) rfl ?_
    refine ev_put (fs' := [_, _, _, _, _]) DX5_copyFrom 24 GX5 rfl (k0 := 2) (Nat.le_of_ble_eq_true rfl) fX5_32 rfl ⟨rfl, rfl⟩ (wset_n (wset_n h1 (by omega)) (by omega)) (Nat.le_of_ble_eq_true rfl) rfl rfl ?_
    refine ev_ss DX5_copyFrom 2 25 (pc' := 50) (lv' := [(0, .ref _), (1, .ref _), (2, .int _)]) (st' := [.ref _, .ref _]) rfl ?_
    refine ev_get DX5_copyFrom 27 GX5 rfl (k0 := 3) (Nat.le_of_ble_eq_true rfl) fX5_36 (wset_n (wset_n (wset_n g1 (by omega)) (by omega)) (by omega)) rfl ?_
    refine ev_put (fs' := [_, _, _, _, _]) DX5_copyFrom 28 GX5 rfl (k0 := 3) (Nat.le_of_ble_eq_true rfl) fX5_36 rfl ⟨rfl, rfl⟩ (wset_get (wset_n (wset_n h1 (by omega)) (by omega))) (Nat.le_of_ble_eq_true rfl) rfl wset_set ?_
    refine ev_ss DX5_copyFrom 2 29 (pc' := 58) (lv' := [(0, .ref _), (1, .ref _), (2, .int _)]) (st' := [.ref _, .ref _]) rfl ?_
    refine ev_get DX5_copyFrom 31 GX5 rfl (k0 := 4) (Nat.le_of_ble_eq_true rfl) fX5_40 (wset_n (wset_n (wset_n g1 (by omega)) (by omega)) (by omega)) rfl ?_
    refine ev_put (fs' := [_, _, _, _, _]) DX5_copyFrom 32 GX5 rfl (k0 := 4) (Nat.le_of_ble_eq_true rfl) fX5_40 rfl ⟨rfl, rfl⟩ (wset_get (wset_n (wset_n h1 (by omega)) (by omega))) (Nat.le_of_ble_eq_true rfl) rfl wset_set ?_
    refine ev_vret DX5_copyFrom 33 rfl rfl ⟨rfl, ?_, hO.tr ?_⟩
    · exact ⟨st2, sz2, _, wset_get (wset_n (wset_n h1 (by omega)) (by omega)), wset_n (wset_n (wset_n h2 (by omega)) (by omega)) (by omega), wset_n (wset_get (wset_n h3 (by omega))) (by omega), wset_n (wset_n (wset_get h4) (by omega)) (by omega), RQ_cp g5, fun t ht => wset_n (wset_n (wset_n (by have e := h6 t ht; rw [show (cpT τ σ k8).1 t = τ.1 t from if_pos (by omega)] at e; exact e) (by omega)) (by omega)) (by omega)⟩
    · exact ((WO.set (by omega) (by omega)).tr (WO.set (by omega) (by omega))).tr (WO.set (by omega) (by omega))
  | succ m ih =>
    intro i x w lv9 hm hx hW hO hv
    subst hx; subst hv
    have hV : WY E ad w iv τ := hV0.of (fun j a b => hO j (by omega))
    obtain ⟨st, sz, r, h1, h2, h3, h4, h5, h6⟩ := id hW
    obtain ⟨st2, sz2, r2, g1, g2, g3, g4, g5, g6⟩ := id hV
    refine ev_ss DX5_copyFrom 2 2 (pc' := 5) (lv' := [(0, .ref _), (1, .ref _), (2, .int _)]) (st' := [.int 8, .int _]) rfl ?_
    refine ev_icge DX5_copyFrom 4 rfl (tgt := 29) (by decide) (fun h => absurd h (nI_ge (b := 8) (by omega) (by decide))) (fun _ => ?_)
    refine ev_ss DX5_copyFrom 1 5 (pc' := 9) (lv' := [(0, .ref _), (1, .ref _), (2, .int _)]) (st' := [.ref _]) rfl ?_
    refine ev_get DX5_copyFrom 6 GX5 rfl (k0 := 0) (Nat.le_of_ble_eq_true rfl) fX5_11 h1 rfl ?_
    refine ev_ss DX5_copyFrom 1 7 (pc' := 13) (lv' := [(0, .ref _), (1, .ref _), (2, .int _)]) (st' := [.int _, .ref _]) rfl ?_
    refine ev_aald4 DX5_copyFrom 8 rfl h2 (vp_in_nI (by omega) (by decide)) (b := ad (iw + 4 + i)) (arT_at (by omega)) ?_
    refine ev_ss DX5_copyFrom 1 9 (pc' := 15) (lv' := [(0, .ref _), (1, .ref _), (2, .int _)]) (st' := [.ref _, .ref _]) rfl ?_
    refine ev_get DX5_copyFrom 10 GX5 rfl (k0 := 0) (Nat.le_of_ble_eq_true rfl) fX5_11 g1 rfl ?_
    refine ev_ss DX5_copyFrom 1 11 (pc' := 19) (lv' := [(0, .ref _), (1, .ref _), (2, .int _)]) (st' := [.int _, .ref _, .ref _]) rfl ?_
    refine ev_aald4 DX5_copyFrom 12 rfl g2 (vp_in_nI (by omega) (by decide)) (b := ad (iv + 4 + i)) (arT_at (by omega)) ?_
    refine ev_cV DX5_copyFrom 13 (m_X3_copyFrom (h6 i (by omega)) (g6 i (by omega)) (by omega)) vX3_copyFrom rfl qX5_25 rfl (h6 i (by omega)) rfl (hd_of rfl rfl rfl rfl) ?_
    refine ev_ss DX5_copyFrom 1 14 (pc' := 26) (lv' := [(2, .int _), (0, .ref _), (1, .ref _)]) (st' := []) rfl ?_
    refine ev_goto DX5_copyFrom 15 rfl (tgt := 2) (by decide) ?_
    refine ev_lvp (lv2 := [(0, .ref _), (1, .ref _), (2, .int _)]) [1, 2, 0] rfl ?_
    exact ih (i + 1) _ _ _ (by omega) (nI_1 i) (by rw [← cpT_s]; exact hW.tone (by omega)) (hO.tr (WO.set (by omega) (by omega))) rfl
/-- two states lie apart -/
def PP (is io : Nat) : Prop := is + 26 ≤ io ∨ io + 26 ≤ is
/-- nothing has changed outside a state -/
def PO (is : Nat) (ws w : va_W) : Prop := ∀ j, (j < is ∨ is + 26 ≤ j) → w[j]? = ws[j]?
theorem SD.cp {E : gE} {ad : Nat → Nat} {ws w : va_W} {is io : Nat} {sd bt sd2 bt2 : Int32} {se se2 g g2 : Nat → Int32} (h : ws[is + 25]? = some (ad (is + 25), iaC E 3 g)) (h0 : ws[is]? = some (ad is, stC (ad (is + 1)) (ad (is + 13)) (ad (is + 25)) sd bt)) (h3 : ∀ j, j < 3 → g2 j = se2 j) : SD E ad ((ws.set (is + 25) (ad (is + 25), iaC E 3 (cpR g2 g 3))).set is (ad is, stC (ad (is + 1)) (ad (is + 13)) (ad (is + 25)) sd2 bt2)) is sd2 bt2 se2 :=
  ⟨wset_get (wset_n h0 (by omega)), _, wset_n (wset_get h) (by omega), fun j hj => by rw [cpR_at (by rw [show (3 : Int32).toNatClampNeg = 3 from rfl]; exact hj)]; exact h3 j hj⟩
theorem m_X1_ccf {E : gE} {ad : Nat → Nat} {ws : va_W} {is io : Nat} {sd bt sd2 bt2 : Int32} {se se2 : Nat → Int32} (hi : PP is io) (hS : SD E ad ws is sd bt se) (hO : SD E ad ws io sd2 bt2 se2) :
    C0 E YX1_copyCommonFrom 0 0 [.ref (ad is), .ref (ad io)] ws (fun v w => v = none ∧ SD E ad w is sd2 bt2 se2 ∧ ∀ j, j ≠ is → j ≠ is + 25 → w[j]? = ws[j]?) := by
  unfold PP at hi
  obtain ⟨h0, g, h1, h2⟩ := hS
  obtain ⟨k0, g2, k1, k2⟩ := hO
  refine c0_mono (m_X1_copyCommonFrom h0 k0 h1 k1 (by omega)) (fun v w hvw => ?_)
  obtain ⟨rfl, rfl⟩ := hvw
  exact ⟨rfl, SD.cp (io := io) (w := ws) (se := se2) h1 h0 k2, fun j a b => by rw [List.getElem?_set_ne (by omega), List.getElem?_set_ne (by omega)]⟩
set_option maxRecDepth 100000 in
set_option maxHeartbeats 4000000 in
theorem m_X1_copyFrom {E : gE} {ad : Nat → Nat} {ws : va_W} {is io : Nat} {sd bt sd2 bt2 : Int32} {se se2 : Nat → Int32} {σ0 σ1 τ0 τ1 : WS} (hi : PP is io) (hS : SD E ad ws is sd bt se) (hO : SD E ad ws io sd2 bt2 se2) (hA : WY E ad ws (is + 1) σ0) (hB : WY E ad ws (is + 13) σ1) (hC : WY E ad ws (io + 1) τ0) (hD : WY E ad ws (io + 13) τ1) : C0 E YX1_copyFrom 0 0 [.ref (ad is), .ref (ad io)] ws (fun v w => v = none ∧ SD E ad w is sd2 bt2 se2 ∧ WY E ad w (is + 1) τ0 ∧ WY E ad w (is + 13) τ1 ∧ PO is ws w) := by
  have hi0 := hi
  unfold PP at hi0
  refine c0V vX1_copyFrom (Nat.le_of_ble_eq_true rfl) (lv0 := [(0, .ref (ad is)), (1, .ref (ad io))]) rfl ?_
  refine ev_ss DX1_copyFrom 1 0 (pc' := 1) (lv' := [(0, .ref _), (1, .ref _)]) (st' := [.ref _]) rfl ?_
  refine ev_get DX1_copyFrom 1 GX1 rfl (k0 := 0) (Nat.le_of_ble_eq_true rfl) fX1_12 hS.1 rfl ?_
  refine ev_ss DX1_copyFrom 1 2 (pc' := 5) (lv' := [(0, .ref _), (1, .ref _)]) (st' := [.ref _, .ref _]) rfl ?_
  refine ev_get DX1_copyFrom 3 GX1 rfl (k0 := 0) (Nat.le_of_ble_eq_true rfl) fX1_12 hO.1 rfl ?_
  refine ev_rV DX1_copyFrom 4 (m_X5_copyFrom (iw := is + 1) (iv := io + 1) (by unfold WP; omega) hA hC) vX5_copyFrom rfl qX1_29 rfl (have ⟨_, _, _, h, _⟩ := hA; h) rfl (hd_of rfl rfl rfl rfl) (fun v w1 hvw => ?_)
  obtain ⟨rfl, hA1, hO1⟩ := hvw
  have hS1 : SD E ad w1 is sd bt se := hS.of (hO1 _ (by omega)) (hO1 _ (by omega))
  have hQ1 : SD E ad w1 io sd2 bt2 se2 := hO.of (hO1 _ (by omega)) (hO1 _ (by omega))
  have hB1 : WY E ad w1 (is + 13) σ1 := hB.of (fun j a b => hO1 _ (by omega))
  have hD1 : WY E ad w1 (io + 13) τ1 := hD.of (fun j a b => hO1 _ (by omega))
  refine ev_ss DX1_copyFrom 1 5 (pc' := 12) (lv' := [(0, .ref _), (1, .ref _)]) (st' := [.ref _]) rfl ?_
  refine ev_get DX1_copyFrom 6 GX1 rfl (k0 := 1) (Nat.le_of_ble_eq_true rfl) fX1_18 hS1.1 rfl ?_
  refine ev_ss DX1_copyFrom 1 7 (pc' := 16) (lv' := [(0, .ref _), (1, .ref _)]) (st' := [.ref _, .ref _]) rfl ?_
  refine ev_get DX1_copyFrom 8 GX1 rfl (k0 := 1) (Nat.le_of_ble_eq_true rfl) fX1_18 hQ1.1 rfl ?_
  refine ev_rV DX1_copyFrom 9 (m_X5_copyFrom (iw := is + 13) (iv := io + 13) (by unfold WP; omega) hB1 hD1) vX5_copyFrom rfl qX1_29 rfl (have ⟨_, _, _, h, _⟩ := hB1; h) rfl (hd_of rfl rfl rfl rfl) (fun v w2 hvw => ?_)
  obtain ⟨rfl, hB2, hO2⟩ := hvw
  have hS2 : SD E ad w2 is sd bt se := hS1.of (hO2 _ (by omega)) (hO2 _ (by omega))
  have hQ2 : SD E ad w2 io sd2 bt2 se2 := hQ1.of (hO2 _ (by omega)) (hO2 _ (by omega))
  have hA2 : WY E ad w2 (is + 1) τ0 := hA1.of (fun j a b => hO2 _ (by omega))
  refine ev_ss DX1_copyFrom 2 10 (pc' := 24) (lv' := [(0, .ref _), (1, .ref _)]) (st' := [.ref _, .ref _]) rfl ?_
  refine ev_rV DX1_copyFrom 12 (m_X1_ccf hi hS2 hQ2) vX1_copyCommonFrom rfl qX1_33 rfl hS2.1 rfl (hd_of rfl rfl rfl rfl) (fun v w9 hvw => ?_)
  obtain ⟨rfl, hS9, hO9⟩ := hvw
  exact ev_vret DX1_copyFrom 13 rfl rfl ⟨rfl, hS9, hA2.of (fun j a b => hO9 j (by omega) (by omega)), hB2.of (fun j a b => hO9 j (by omega) (by omega)), fun j a => ((hO9 j (by omega) (by omega)).trans (hO2 j (by omega))).trans (hO1 j (by omega))⟩
set_option maxRecDepth 100000 in
set_option maxHeartbeats 4000000 in
theorem m_X1_copyWayFrom_0 {E : gE} {ad : Nat → Nat} {ws : va_W} {is io : Nat} {sd bt sd2 bt2 : Int32} {se se2 : Nat → Int32} {σ τ : WS} (hi : PP is io) (hS : SD E ad ws is sd bt se) (hO : SD E ad ws io sd2 bt2 se2) (hA : WY E ad ws (is + 1) σ) (hC : WY E ad ws (io + 1) τ) : C0 E YX1_copyWayFrom 0 0 [.ref (ad is), .ref (ad io), .int 0] ws (fun v w => v = some (.ref (ad (is + 1))) ∧ SD E ad w is sd2 bt2 se2 ∧ WY E ad w (is + 1) τ ∧ ∀ j, j ≠ is → j ≠ is + 25 → (j < is + 1 ∨ is + 13 ≤ j) → w[j]? = ws[j]?) := by
  have hi0 := hi
  unfold PP at hi0
  refine c0V vX1_copyWayFrom (Nat.le_of_ble_eq_true rfl) (lv0 := [(0, .ref (ad is)), (1, .ref (ad io)), (2, .int 0)]) rfl ?_
  refine ev_ss DX1_copyWayFrom 2 0 (pc' := 2) (lv' := [(0, .ref _), (1, .ref _), (2, .int 0)]) (st' := [.int 0, .ref _]) rfl ?_
  refine ev_cV DX1_copyWayFrom 2 (m_X1_wayAt_0 hS.1) vX1_wayAt rfl qX1_37 rfl hS.1 rfl (hd_of rfl rfl rfl rfl) ?_
  refine ev_ss DX1_copyWayFrom 4 3 (pc' := 9) (lv' := [(3, .ref _), (0, .ref _), (1, .ref _), (2, .int 0)]) (st' := [.int 0, .ref _, .ref _]) rfl ?_
  refine ev_cV DX1_copyWayFrom 7 (m_X1_wayAt_0 hO.1) vX1_wayAt rfl qX1_37 rfl hO.1 rfl (hd_of rfl rfl rfl rfl) ?_
  refine ev_rV DX1_copyWayFrom 8 (m_X5_copyFrom (iw := is + 1) (iv := io + 1) (by unfold WP; omega) hA hC) vX5_copyFrom rfl qX1_29 rfl (have ⟨_, _, _, h, _⟩ := hA; h) rfl (hd_of rfl rfl rfl rfl) (fun v w1 hvw => ?_)
  obtain ⟨rfl, hA1, hO1⟩ := hvw
  have hS1 : SD E ad w1 is sd bt se := hS.of (hO1 _ (by omega)) (hO1 _ (by omega))
  have hQ1 : SD E ad w1 io sd2 bt2 se2 := hO.of (hO1 _ (by omega)) (hO1 _ (by omega))
  refine ev_ss DX1_copyWayFrom 2 9 (pc' := 17) (lv' := [(3, .ref _), (0, .ref _), (1, .ref _), (2, .int 0)]) (st' := [.ref _, .ref _]) rfl ?_
  refine ev_rV DX1_copyWayFrom 11 (m_X1_ccf hi hS1 hQ1) vX1_copyCommonFrom rfl qX1_33 rfl hS1.1 rfl (hd_of rfl rfl rfl rfl) (fun v w9 hvw => ?_)
  obtain ⟨rfl, hS9, hO9⟩ := hvw
  refine ev_ss DX1_copyWayFrom 1 12 (pc' := 21) (lv' := [(3, .ref _), (0, .ref _), (1, .ref _), (2, .int 0)]) (st' := [.ref _]) rfl ?_
  exact ev_aret DX1_copyWayFrom 13 rfl rfl ⟨rfl, hS9, hA1.of (fun j a b => hO9 j (by omega) (by omega)), fun j a b c => (hO9 j a b).trans (hO1 j c)⟩
set_option maxRecDepth 100000 in
set_option maxHeartbeats 4000000 in
theorem m_X1_copyWayFrom_1 {E : gE} {ad : Nat → Nat} {ws : va_W} {is io : Nat} {sd bt sd2 bt2 : Int32} {se se2 : Nat → Int32} {σ τ : WS} (hi : PP is io) (hS : SD E ad ws is sd bt se) (hO : SD E ad ws io sd2 bt2 se2) (hA : WY E ad ws (is + 13) σ) (hC : WY E ad ws (io + 13) τ) : C0 E YX1_copyWayFrom 0 0 [.ref (ad is), .ref (ad io), .int 1] ws (fun v w => v = some (.ref (ad (is + 13))) ∧ SD E ad w is sd2 bt2 se2 ∧ WY E ad w (is + 13) τ ∧ ∀ j, j ≠ is → j ≠ is + 25 → (j < is + 13 ∨ is + 25 ≤ j) → w[j]? = ws[j]?) := by
  have hi0 := hi
  unfold PP at hi0
  refine c0V vX1_copyWayFrom (Nat.le_of_ble_eq_true rfl) (lv0 := [(0, .ref (ad is)), (1, .ref (ad io)), (2, .int 1)]) rfl ?_
  refine ev_ss DX1_copyWayFrom 2 0 (pc' := 2) (lv' := [(0, .ref _), (1, .ref _), (2, .int 1)]) (st' := [.int 1, .ref _]) rfl ?_
  refine ev_cV DX1_copyWayFrom 2 (m_X1_wayAt_1 hS.1) vX1_wayAt rfl qX1_37 rfl hS.1 rfl (hd_of rfl rfl rfl rfl) ?_
  refine ev_ss DX1_copyWayFrom 4 3 (pc' := 9) (lv' := [(3, .ref _), (0, .ref _), (1, .ref _), (2, .int 1)]) (st' := [.int 1, .ref _, .ref _]) rfl ?_
  refine ev_cV DX1_copyWayFrom 7 (m_X1_wayAt_1 hO.1) vX1_wayAt rfl qX1_37 rfl hO.1 rfl (hd_of rfl rfl rfl rfl) ?_
  refine ev_rV DX1_copyWayFrom 8 (m_X5_copyFrom (iw := is + 13) (iv := io + 13) (by unfold WP; omega) hA hC) vX5_copyFrom rfl qX1_29 rfl (have ⟨_, _, _, h, _⟩ := hA; h) rfl (hd_of rfl rfl rfl rfl) (fun v w1 hvw => ?_)
  obtain ⟨rfl, hA1, hO1⟩ := hvw
  have hS1 : SD E ad w1 is sd bt se := hS.of (hO1 _ (by omega)) (hO1 _ (by omega))
  have hQ1 : SD E ad w1 io sd2 bt2 se2 := hO.of (hO1 _ (by omega)) (hO1 _ (by omega))
  refine ev_ss DX1_copyWayFrom 2 9 (pc' := 17) (lv' := [(3, .ref _), (0, .ref _), (1, .ref _), (2, .int 1)]) (st' := [.ref _, .ref _]) rfl ?_
  refine ev_rV DX1_copyWayFrom 11 (m_X1_ccf hi hS1 hQ1) vX1_copyCommonFrom rfl qX1_33 rfl hS1.1 rfl (hd_of rfl rfl rfl rfl) (fun v w9 hvw => ?_)
  obtain ⟨rfl, hS9, hO9⟩ := hvw
  refine ev_ss DX1_copyWayFrom 1 12 (pc' := 21) (lv' := [(3, .ref _), (0, .ref _), (1, .ref _), (2, .int 1)]) (st' := [.ref _]) rfl ?_
  exact ev_aret DX1_copyWayFrom 13 rfl rfl ⟨rfl, hS9, hA1.of (fun j a b => hO9 j (by omega) (by omega)), fun j a b c => (hO9 j a b).trans (hO1 j c)⟩
end
section
noncomputable def enT (mg : Int32) (sz : Nat → Int32) (σ : WS) : Nat → WS
  | 0 => σ
  | i + 1 => (va_up (enT mg sz σ i).1 i (endP ((enT mg sz σ i).1 i) (worN sz i k8) mg), (enT mg sz σ i).2)
theorem enT_0 {mg : Int32} {sz : Nat → Int32} {σ : WS} : enT mg sz σ 0 = σ := rfl
/-- what a lesson makes of a way -/
noncomputable def tlW (p mg sd : Int32) (σ : WS) (n : Nat) : WS := enT mg (lrN p sd σ n).2.2 (lrN p sd σ n).2.1 k8
noncomputable def bbN (mg : Int32) (sz : Nat → Int32) (σ : WS) : Nat → Int32
  | 0 => 0
  | i + 1 => bbN mg sz σ i + bfP ((σ.1 i) 7) (worN sz i k8 * mg / 4)
theorem bbN_0 {mg : Int32} {sz : Nat → Int32} {σ : WS} : bbN mg sz σ 0 = 0 := rfl
/-- three hundred and one, that nothing unrolls -/
noncomputable def k301 : Nat := Classical.choose (⟨301, rfl⟩ : ∃ n : Nat, n = 301)
theorem k301e : k301 = 301 := Classical.choose_spec (⟨301, rfl⟩ : ∃ n : Nat, n = 301)
def lhP (f : TF) (sent arr : Int32) : Nat → Nat → Int32
  | 0, _ => -1
  | m + 1, i => if decP f (arr + nI i) = sent then (if decP f (arr - nI i) = sent then lhP f sent arr m (i + 1) else nI i) else nI i
theorem lhP_s {f : TF} {sent arr : Int32} {m i : Nat} : lhP f sent arr (m + 1) i = if decP f (arr + nI i) = sent then (if decP f (arr - nI i) = sent then lhP f sent arr m (i + 1) else nI i) else nI i := rfl
noncomputable def luP (sd : Int32) (f : TF) (bs : List Int32) : Int32 := lhP f (sgV f bs) (arrP f (sgA f bs) (drwN sd f)) k301 0
set_option maxRecDepth 100000 in
set_option maxHeartbeats 4000000 in
theorem m_X1_takeLesson {E : gE} {ad : Nat → Nat} {ws : va_W} {is iw il n : Nat} {sd0 bt0 lb : Int32} {se : Nat → Int32} {σ0 : WS} {sz0 : Nat → Int32} (hn : n < 128) (hi : AL is iw il) (hS0 : SD E ad ws is sd0 bt0 se) (hW0 : WY E ad ws iw σ0) (hL0 : LE E ad ws il lb sz0) (hN : ∀ t, t < 8 → TN (σ0.1 t)) (hp : ¬ se 0 ≤ 0) (hp2 : ¬ (128 : Int32) * se 0 = 0) : C0 E YX1_takeLesson 0 0 [.ref (ad is), .ref (ad iw), .int (nI n), .ref (ad il)] ws (fun v w => v = none ∧ SD E ad w is (lrN (se 0) sd0 σ0 n).1 (bt0 + nI n) se ∧ WY E ad w iw (tlW (se 0) (se 1) sd0 σ0 n) ∧ (∃ lb2 sz2, LE E ad w il lb2 sz2) ∧ SL is iw il ws w) := by
  have e8 := k8e
  obtain ⟨i1, i2, i3⟩ := id hi
  refine c0V vX1_takeLesson (Nat.le_of_ble_eq_true rfl) (lv0 := [(0, .ref (ad is)), (1, .ref (ad iw)), (2, .int (nI n)), (3, .ref (ad il))]) rfl ?_
  have K2 : ∀ (m i : Nat) (x : Int32) (w : va_W) (lv9 : List (Nat × Value)), i + m = k8 → x = nI i → SD E ad w is (lrN (se 0) sd0 σ0 n).1 (bt0 + nI n) se → WY E ad w iw (enT (se 1) (lrN (se 0) sd0 σ0 n).2.2 (lrN (se 0) sd0 σ0 n).2.1 i) → (∃ lb2, LE E ad w il lb2 (lrN (se 0) sd0 σ0 n).2.2) → SL is iw il ws w → lv9 = [(0, .ref (ad is)), (1, .ref (ad iw)), (2, .int (nI n)), (3, .ref (ad il)), (4, .int x)] →
      Ev E YX1_takeLesson (fun v w => v = none ∧ SD E ad w is (lrN (se 0) sd0 σ0 n).1 (bt0 + nI n) se ∧ WY E ad w iw (tlW (se 0) (se 1) sd0 σ0 n) ∧ (∃ lb2 sz2, LE E ad w il lb2 sz2) ∧ SL is iw il ws w) nX 0 0 28 lv9 [] w := by
    intro m
    induction m with
    | zero =>
      intro i x w lv9 hm hx hS hW hL hO hv
      obtain rfl : i = k8 := by omega
      obtain ⟨lb2, hL2⟩ := hL
      subst hx; subst hv
      refine ev_ss DX1_takeLesson 2 15 (pc' := 32) (lv' := [(0, .ref _), (1, .ref _), (2, .int _), (3, .ref _), (4, .int _)]) (st' := [.int 8, .int _]) rfl ?_
      refine ev_icge DX1_takeLesson 17 rfl (tgt := 63) (by decide) (fun _ => ?_) (fun h => h.elim (by rw [k8e]; decide))
      exact ev_vret DX1_takeLesson 32 rfl rfl ⟨rfl, hS, hW, ⟨lb2, _, hL2⟩, hO⟩
    | succ m ih =>
      intro i x w lv9 hm hx hS hW hL hO hv
      subst hx; subst hv
      obtain ⟨lb2, hL2⟩ := hL
      obtain ⟨st, sz, r, h1, h2, h3, h4, h5, h6⟩ := id hW
      obtain ⟨hs1, g, hs2, hs3⟩ := id hS
      have g1 : g ((1 : Int32).toNatClampNeg) = se 1 := hs3 1 (by decide)
      refine ev_ss DX1_takeLesson 2 15 (pc' := 32) (lv' := [(0, .ref _), (1, .ref _), (2, .int _), (3, .ref _), (4, .int _)]) (st' := [.int 8, .int _]) rfl ?_
      refine ev_icge DX1_takeLesson 17 rfl (tgt := 63) (by decide) (fun h => absurd h (nI_ge (b := 8) (by omega) (by decide))) (fun _ => ?_)
      refine ev_ss DX1_takeLesson 1 18 (pc' := 36) (lv' := [(0, .ref _), (1, .ref _), (2, .int _), (3, .ref _), (4, .int _)]) (st' := [.ref _]) rfl ?_
      refine ev_get DX1_takeLesson 19 GX5 rfl (k0 := 0) (Nat.le_of_ble_eq_true rfl) fX1_66 h1 rfl ?_
      refine ev_ss DX1_takeLesson 1 20 (pc' := 41) (lv' := [(0, .ref _), (1, .ref _), (2, .int _), (3, .ref _), (4, .int _)]) (st' := [.int _, .ref _]) rfl ?_
      refine ev_aald4 DX1_takeLesson 21 rfl h2 (vp_in_nI (by omega) (by decide)) (b := ad (iw + 4 + i)) (arT_at (by omega)) ?_
      refine ev_ss DX1_takeLesson 2 22 (pc' := 45) (lv' := [(0, .ref _), (1, .ref _), (2, .int _), (3, .ref _), (4, .int _)]) (st' := [.int _, .ref _, .ref _]) rfl ?_
      refine ev_cV DX1_takeLesson 24 (m_X0_worstOf (by omega) hL2) vX0_worstOf rfl qX1_130 rfl hL2.1 rfl (hd_of rfl rfl rfl rfl) ?_
      refine ev_ss DX1_takeLesson 1 25 (pc' := 49) (lv' := [(0, .ref _), (1, .ref _), (2, .int _), (3, .ref _), (4, .int _)]) (st' := [.ref _, .int _, .ref _]) rfl ?_
      refine ev_get DX1_takeLesson 26 GX1 rfl (k0 := 2) (Nat.le_of_ble_eq_true rfl) fX1_21 hs1 rfl ?_
      refine ev_ss DX1_takeLesson 1 27 (pc' := 53) (lv' := [(0, .ref _), (1, .ref _), (2, .int _), (3, .ref _), (4, .int _)]) (st' := [.int 1, .ref _, .int _, .ref _]) rfl ?_
      refine ev_iald DX1_takeLesson 28 rfl hs2 (by unfold vp_in; decide) ?_
      refine ev_cV DX1_takeLesson 29 (m_X3_endLesson (h6 i (by omega))) vX3_endLesson rfl qX1_133 rfl (h6 i (by omega)) rfl (hd_of rfl rfl rfl rfl) ?_
      refine ev_ss DX1_takeLesson 1 30 (pc' := 60) (lv' := [(4, .int _), (0, .ref _), (1, .ref _), (2, .int _), (3, .ref _)]) (st' := []) rfl ?_
      refine ev_goto DX1_takeLesson 31 rfl (tgt := 28) (by decide) ?_
      refine ev_lvp (lv2 := [(0, .ref _), (1, .ref _), (2, .int _), (3, .ref _), (4, .int _)]) [1, 2, 3, 4, 0] rfl ?_
      have hW2 := hW.tone (t := i) (by omega) (f := endP ((enT (se 1) (lrN (se 0) sd0 σ0 n).2.2 (lrN (se 0) sd0 σ0 n).2.1 i).1 i) (worN (lrN (se 0) sd0 σ0 n).2.2 i k8) (g ((1 : Int32).toNatClampNeg)))
      refine ih (i + 1) _ _ _ (by omega) (nI_1 i) (hS.of (List.getElem?_set_ne (by omega)) (List.getElem?_set_ne (by omega))) ?_ ⟨lb2, hL2.of (List.getElem?_set_ne (by omega)) (List.getElem?_set_ne (by omega))⟩ (hO.tr (fun j a b c d => List.getElem?_set_ne (by omega))) rfl
      show WY E ad _ iw (va_up (enT (se 1) (lrN (se 0) sd0 σ0 n).2.2 (lrN (se 0) sd0 σ0 n).2.1 i).1 i (endP ((enT (se 1) (lrN (se 0) sd0 σ0 n).2.2 (lrN (se 0) sd0 σ0 n).2.1 i).1 i) (worN (lrN (se 0) sd0 σ0 n).2.2 i k8) (se 1)), (enT (se 1) (lrN (se 0) sd0 σ0 n).2.2 (lrN (se 0) sd0 σ0 n).2.1 i).2)
      exact (congrArg (fun z => WY E ad (w.set (iw + 4 + i) (ad (iw + 4 + i), toneC (endP ((enT (se 1) (lrN (se 0) sd0 σ0 n).2.2 (lrN (se 0) sd0 σ0 n).2.1 i).1 i) (worN (lrN (se 0) sd0 σ0 n).2.2 i k8) (g ((1 : Int32).toNatClampNeg))))) iw (va_up (enT (se 1) (lrN (se 0) sd0 σ0 n).2.2 (lrN (se 0) sd0 σ0 n).2.1 i).1 i (endP ((enT (se 1) (lrN (se 0) sd0 σ0 n).2.2 (lrN (se 0) sd0 σ0 n).2.1 i).1 i) (worN (lrN (se 0) sd0 σ0 n).2.2 i k8) z), (enT (se 1) (lrN (se 0) sd0 σ0 n).2.2 (lrN (se 0) sd0 σ0 n).2.1 i).2)) g1).mp hW2
  have K1 : ∀ (m i : Nat) (x : Int32) (w : va_W) (lv9 : List (Nat × Value)), i + m = n → x = nI i → SD E ad w is (lrN (se 0) sd0 σ0 i).1 (bt0 + nI i) se → WY E ad w iw (lrN (se 0) sd0 σ0 i).2.1 → LE E ad w il (nI i) (lrN (se 0) sd0 σ0 i).2.2 → SL is iw il ws w → lv9 = [(0, .ref (ad is)), (1, .ref (ad iw)), (2, .int (nI n)), (3, .ref (ad il)), (4, .int x)] →
      Ev E YX1_takeLesson (fun v w => v = none ∧ SD E ad w is (lrN (se 0) sd0 σ0 n).1 (bt0 + nI n) se ∧ WY E ad w iw (tlW (se 0) (se 1) sd0 σ0 n) ∧ (∃ lb2 sz2, LE E ad w il lb2 sz2) ∧ SL is iw il ws w) nX 0 0 7 lv9 [] w := by
    intro m
    induction m with
    | zero =>
      intro i x w lv9 hm hx hS hW hL hO hv
      obtain rfl : i = n := by omega
      subst hx; subst hv
      refine ev_ss DX1_takeLesson 2 4 (pc' := 10) (lv' := [(0, .ref _), (1, .ref _), (2, .int _), (3, .ref _), (4, .int _)]) (st' := [.int _, .int _]) rfl ?_
      refine ev_icge DX1_takeLesson 6 rfl (tgt := 25) (by decide) (fun _ => ?_) (fun h => h.elim (nI_le (Nat.le_refl _) (by omega)))
      refine ev_ss DX1_takeLesson 2 13 (pc' := 28) (lv' := [(4, .int 0), (0, .ref _), (1, .ref _), (2, .int _), (3, .ref _)]) (st' := []) rfl ?_
      refine ev_lvp (lv2 := [(0, .ref _), (1, .ref _), (2, .int _), (3, .ref _), (4, .int _)]) [1, 2, 3, 4, 0] rfl ?_
      exact K2 k8 0 _ w _ (Nat.zero_add k8) nI_0.symm hS (by rw [enT_0]; exact hW) ⟨_, hL⟩ hO rfl
    | succ m ih =>
      intro i x w lv9 hm hx hS hW hL hO hv
      subst hx; subst hv
      refine ev_ss DX1_takeLesson 2 4 (pc' := 10) (lv' := [(0, .ref _), (1, .ref _), (2, .int _), (3, .ref _), (4, .int _)]) (st' := [.int _, .int _]) rfl ?_
      refine ev_icge DX1_takeLesson 6 rfl (tgt := 25) (by decide) (fun h => absurd h (nI_ge (b := n) (by omega) (by omega))) (fun _ => ?_)
      refine ev_ss DX1_takeLesson 3 7 (pc' := 16) (lv' := [(0, .ref _), (1, .ref _), (2, .int _), (3, .ref _), (4, .int _)]) (st' := [.ref _, .ref _, .ref _]) rfl ?_
      refine ev_rV DX1_takeLesson 10 (m_X1_learnBeat (nb := i) (by omega) rfl hi hS hW hL (TN_lrN hN i) hp hp2) vX1_learnBeat rfl qX1_126 rfl hS.1 rfl (hd_of rfl rfl rfl rfl) (fun v w2 hvw => ?_)
      obtain ⟨rfl, hS2, hW2, hL2, hO2⟩ := hvw
      refine ev_ss DX1_takeLesson 1 11 (pc' := 22) (lv' := [(4, .int _), (0, .ref _), (1, .ref _), (2, .int _), (3, .ref _)]) (st' := []) rfl ?_
      refine ev_goto DX1_takeLesson 12 rfl (tgt := 7) (by decide) ?_
      refine ev_lvp (lv2 := [(0, .ref _), (1, .ref _), (2, .int _), (3, .ref _), (4, .int _)]) [1, 2, 3, 4, 0] rfl ?_
      exact ih (i + 1) _ w2 _ (by omega) (nI_1 i) (by rw [lrN_s, ← nI_1 i, ← Int32.add_assoc]; exact hS2) (by rw [lrN_s]; exact hW2) (by rw [lrN_s]; exact hL2) (hO.tr hO2) rfl
  refine ev_ss DX1_takeLesson 1 0 (pc' := 1) (lv' := [(0, .ref _), (1, .ref _), (2, .int _), (3, .ref _)]) (st' := [.ref _]) rfl ?_
  refine ev_rV DX1_takeLesson 1 (m_X0_begin hL0) vX0_begin rfl qX1_121 rfl hL0.1 rfl (hd_of rfl rfl rfl rfl) (fun v w2 hvw => ?_)
  obtain ⟨rfl, hL2, hO2⟩ := hvw
  refine ev_ss DX1_takeLesson 2 2 (pc' := 7) (lv' := [(4, .int 0), (0, .ref _), (1, .ref _), (2, .int _), (3, .ref _)]) (st' := []) rfl ?_
  refine ev_lvp (lv2 := [(0, .ref _), (1, .ref _), (2, .int _), (3, .ref _), (4, .int _)]) [1, 2, 3, 4, 0] rfl ?_
  exact K1 n 0 _ w2 _ (Nat.zero_add n) nI_0.symm (by rw [lrN_0, nI_0, Int32.add_zero]; exact hS0.of (hO2 _ (by omega) (by omega)) (hO2 _ (by omega) (by omega))) (by rw [lrN_0]; exact hW0.of (fun j a b => hO2 j (by omega) (by omega))) (by rw [lrN_0, nI_0]; exact hL2) (fun j a b c d => hO2 j c d) rfl
set_option maxRecDepth 100000 in
set_option maxHeartbeats 4000000 in
theorem m_X1_bitsBehind {E : gE} {ad : Nat → Nat} {ws : va_W} {is iw il : Nat} {sd bt lb : Int32} {se : Nat → Int32} {σ : WS} {sz0 : Nat → Int32} (hS : SD E ad ws is sd bt se) (hW : WY E ad ws iw σ) (hL : LE E ad ws il lb sz0) : CD E YX1_bitsBehind 0 0 [.ref (ad is), .ref (ad iw), .ref (ad il)] ws (some (.int (bbN (se 1) sz0 σ k8))) ws := by
  have e8 := k8e
  obtain ⟨st, sz, r, h1, h2, h3, h4, h5, h6⟩ := id hW
  obtain ⟨hs1, g, hs2, hs3⟩ := id hS
  have g1 : g ((1 : Int32).toNatClampNeg) = se 1 := hs3 1 (by decide)
  refine cdV vX1_bitsBehind (Nat.le_of_ble_eq_true rfl) (lv0 := [(0, .ref (ad is)), (1, .ref (ad iw)), (2, .ref (ad il))]) rfl ?_
  suffices K : ∀ (m i : Nat) (x acc : Int32) (lv9 : List (Nat × Value)), i + m = k8 → x = nI i → acc = bbN (se 1) sz0 σ i → lv9 = [(0, .ref (ad is)), (1, .ref (ad iw)), (2, .ref (ad il)), (3, .int acc), (4, .int x)] →
      Ev E YX1_bitsBehind (fun v2 w2 => v2 = some (.int (bbN (se 1) sz0 σ k8)) ∧ w2 = ws) nX 0 0 5 lv9 [] ws by
    refine ev_ss DX1_bitsBehind 4 0 (pc' := 5) (lv' := [(4, .int 0), (3, .int 0), (0, .ref _), (1, .ref _), (2, .ref _)]) (st' := []) rfl ?_
    refine ev_lvp (lv2 := [(0, .ref _), (1, .ref _), (2, .ref _), (3, .int _), (4, .int _)]) [2, 3, 4, 1, 0] rfl ?_
    exact K k8 0 _ _ _ (Nat.zero_add k8) nI_0.symm bbN_0.symm rfl
  intro m
  induction m with
  | zero =>
    intro i x acc lv9 hm hx ha hv
    obtain rfl : i = k8 := by omega
    subst hx; subst ha; subst hv
    refine ev_ss DX1_bitsBehind 2 4 (pc' := 9) (lv' := [(0, .ref _), (1, .ref _), (2, .ref _), (3, .int _), (4, .int _)]) (st' := [.int 8, .int _]) rfl ?_
    refine ev_icge DX1_bitsBehind 6 rfl (tgt := 43) (by decide) (fun _ => ?_) (fun h => h.elim (by rw [k8e]; decide))
    refine ev_ss DX1_bitsBehind 1 24 (pc' := 44) (lv' := [(0, .ref _), (1, .ref _), (2, .ref _), (3, .int _), (4, .int _)]) (st' := [.int _]) rfl ?_
    exact ev_iret DX1_bitsBehind 25 rfl rfl ⟨rfl, rfl⟩
  | succ m ih =>
    intro i x acc lv9 hm hx ha hv
    subst hx; subst hv
    refine ev_ss DX1_bitsBehind 2 4 (pc' := 9) (lv' := [(0, .ref _), (1, .ref _), (2, .ref _), (3, .int _), (4, .int _)]) (st' := [.int 8, .int _]) rfl ?_
    refine ev_icge DX1_bitsBehind 6 rfl (tgt := 43) (by decide) (fun h => absurd h (nI_ge (b := 8) (by omega) (by decide))) (fun _ => ?_)
    refine ev_ss DX1_bitsBehind 2 7 (pc' := 14) (lv' := [(0, .ref _), (1, .ref _), (2, .ref _), (3, .int _), (4, .int _)]) (st' := [.ref _, .int _]) rfl ?_
    refine ev_get DX1_bitsBehind 9 GX5 rfl (k0 := 0) (Nat.le_of_ble_eq_true rfl) fX1_66 h1 rfl ?_
    refine ev_ss DX1_bitsBehind 1 10 (pc' := 19) (lv' := [(0, .ref _), (1, .ref _), (2, .ref _), (3, .int _), (4, .int _)]) (st' := [.int _, .ref _, .int _]) rfl ?_
    refine ev_aald4 DX1_bitsBehind 11 rfl h2 (vp_in_nI (by omega) (by decide)) (b := ad (iw + 4 + i)) (arT_at (by omega)) ?_
    refine ev_ss DX1_bitsBehind 2 12 (pc' := 23) (lv' := [(0, .ref _), (1, .ref _), (2, .ref _), (3, .int _), (4, .int _)]) (st' := [.int _, .ref _, .ref _, .int _]) rfl ?_
    refine ev_cV DX1_bitsBehind 14 (m_X0_worstOf (by omega) hL) vX0_worstOf rfl qX1_130 rfl hL.1 rfl (hd_of rfl rfl rfl rfl) ?_
    refine ev_ss DX1_bitsBehind 1 15 (pc' := 27) (lv' := [(0, .ref _), (1, .ref _), (2, .ref _), (3, .int _), (4, .int _)]) (st' := [.ref _, .int _, .ref _, .int _]) rfl ?_
    refine ev_get DX1_bitsBehind 16 GX1 rfl (k0 := 2) (Nat.le_of_ble_eq_true rfl) fX1_21 hs1 rfl ?_
    refine ev_ss DX1_bitsBehind 1 17 (pc' := 31) (lv' := [(0, .ref _), (1, .ref _), (2, .ref _), (3, .int _), (4, .int _)]) (st' := [.int 1, .ref _, .int _, .ref _, .int _]) rfl ?_
    refine ev_iald DX1_bitsBehind 18 rfl hs2 (by unfold vp_in; decide) ?_
    refine ev_cV DX1_bitsBehind 19 (m_X3_bitsFor (h6 i (by omega))) vX3_bitsFor rfl qX1_149 rfl (h6 i (by omega)) rfl (hd_of rfl rfl rfl rfl) ?_
    refine ev_ss DX1_bitsBehind 3 20 (pc' := 40) (lv' := [(4, .int _), (3, .int _), (0, .ref _), (1, .ref _), (2, .ref _)]) (st' := []) rfl ?_
    refine ev_goto DX1_bitsBehind 23 rfl (tgt := 5) (by decide) ?_
    refine ev_lvp (lv2 := [(0, .ref _), (1, .ref _), (2, .ref _), (3, .int _), (4, .int _)]) [2, 3, 4, 1, 0] rfl ?_
    exact ih (i + 1) _ _ _ (by omega) (nI_1 i) (by show acc + bfP ((σ.1 i) 7) (worN sz0 i k8 * g ((1 : Int32).toNatClampNeg) / 4) = bbN (se 1) sz0 σ i + bfP ((σ.1 i) 7) (worN sz0 i k8 * se 1 / 4); rw [ha, g1]) rfl
set_option maxRecDepth 100000 in
set_option maxHeartbeats 4000000 in
theorem lh_loop {E : gE} {Pr : Option Value → va_W → Prop} {w8 : va_W} {q aS aW aT : Nat} {f : TF} {sent arr : Int32} (hT3 : w8[q]? = some (aT, toneC f)) (hg : ¬ f 7 ≤ 0) : ∀ (m i : Nat) (x : Int32), i + m = k301 → x = nI i → Pr (some (.int (lhP f sent arr m i))) w8 → Ev E YX1_leastHurt Pr nX 0 0 31 [(0, .ref aS), (1, .ref aW), (2, .ref aT), (3, .int sent), (4, .int arr), (5, .int x)] [] w8 := by
  have e301 := k301e
  intro m
  induction m with
  | zero =>
    intro i x hm hx hP
    obtain rfl : i = k301 := by omega
    subst hx
    refine ev_ss DX1_leastHurt 2 17 (pc' := 36) (lv' := [(0, .ref _), (1, .ref _), (2, .ref _), (3, .int _), (4, .int _), (5, .int _)]) (st' := [.int 300, .int _]) rfl ?_
    refine ev_icgt DX1_leastHurt 19 rfl (tgt := 74) (by decide) (fun _ => ?_) (fun h => h.elim (by rw [k301e]; decide))
    refine ev_ss DX1_leastHurt 1 38 (pc' := 75) (lv' := [(0, .ref _), (1, .ref _), (2, .ref _), (3, .int _), (4, .int _), (5, .int _)]) (st' := [.int (-1)]) rfl ?_
    exact ev_iret DX1_leastHurt 39 rfl rfl hP
  | succ m ih =>
    intro i x hm hx hP
    subst hx
    rw [lhP_s] at hP
    refine ev_ss DX1_leastHurt 2 17 (pc' := 36) (lv' := [(0, .ref _), (1, .ref _), (2, .ref _), (3, .int _), (4, .int _), (5, .int _)]) (st' := [.int 300, .int _]) rfl ?_
    refine ev_icgt DX1_leastHurt 19 rfl (tgt := 74) (by decide) (fun h => absurd h (Int32.not_lt.mpr (nI_le (b := 300) (by omega) (by decide)))) (fun _ => ?_)
    refine ev_ss DX1_leastHurt 4 20 (pc' := 45) (lv' := [(0, .ref _), (1, .ref _), (2, .ref _), (3, .int _), (4, .int _), (5, .int _)]) (st' := [.int _, .ref _]) rfl ?_
    refine ev_cV DX1_leastHurt 24 (m_X3_decide hT3 hg) vX3_decide rfl qX1_101 rfl hT3 rfl (hd_of rfl rfl rfl rfl) ?_
    refine ev_ss DX1_leastHurt 1 25 (pc' := 49) (lv' := [(0, .ref _), (1, .ref _), (2, .ref _), (3, .int _), (4, .int _), (5, .int _)]) (st' := [.int _, .int _]) rfl ?_
    refine ev_icne DX1_leastHurt 26 rfl (tgt := 65) (by decide) (fun c_1 => ?_) (fun c_1 => ?_)
    · refine ev_ss DX1_leastHurt 1 34 (pc' := 67) (lv' := [(0, .ref _), (1, .ref _), (2, .ref _), (3, .int _), (4, .int _), (5, .int _)]) (st' := [.int _]) rfl ?_
      exact ev_iret DX1_leastHurt 35 rfl rfl (by rw [if_neg c_1] at hP; exact hP)
    · refine ev_ss DX1_leastHurt 4 27 (pc' := 58) (lv' := [(0, .ref _), (1, .ref _), (2, .ref _), (3, .int _), (4, .int _), (5, .int _)]) (st' := [.int _, .ref _]) rfl ?_
      refine ev_cV DX1_leastHurt 31 (m_X3_decide hT3 hg) vX3_decide rfl qX1_101 rfl hT3 rfl (hd_of rfl rfl rfl rfl) ?_
      refine ev_ss DX1_leastHurt 1 32 (pc' := 62) (lv' := [(0, .ref _), (1, .ref _), (2, .ref _), (3, .int _), (4, .int _), (5, .int _)]) (st' := [.int _, .int _]) rfl ?_
      refine ev_iceq DX1_leastHurt 33 rfl (tgt := 68) (by decide) (fun c_2 => ?_) (fun c_2 => ?_)
      · refine ev_ss DX1_leastHurt 1 36 (pc' := 71) (lv' := [(5, .int _), (0, .ref _), (1, .ref _), (2, .ref _), (3, .int _), (4, .int _)]) (st' := []) rfl ?_
        refine ev_goto DX1_leastHurt 37 rfl (tgt := 31) (by decide) ?_
        refine ev_lvp (lv2 := [(0, .ref _), (1, .ref _), (2, .ref _), (3, .int _), (4, .int _), (5, .int _)]) [1, 2, 3, 4, 5, 0] rfl ?_
        exact ih (i + 1) _ (by omega) (nI_1 i) (by rw [if_pos c_1, if_pos c_2] at hP; exact hP)
      · refine ev_ss DX1_leastHurt 1 34 (pc' := 67) (lv' := [(0, .ref _), (1, .ref _), (2, .ref _), (3, .int _), (4, .int _), (5, .int _)]) (st' := [.int _]) rfl ?_
        exact ev_iret DX1_leastHurt 35 rfl rfl (by rw [if_pos c_1, if_neg c_2] at hP; exact hP)
set_option maxRecDepth 100000 in
set_option maxHeartbeats 4000000 in
theorem m_X1_leastHurt {E : gE} {ad : Nat → Nat} {ws : va_W} {is iw t : Nat} {sd bt : Int32} {se : Nat → Int32} {σ : WS} (ht : t < 8) (hi : AP is iw) (hS : SD E ad ws is sd bt se) (hW : WY E ad ws iw σ) (hf : TS (σ.1 t)) : C0 E YX1_leastHurt 0 0 [.ref (ad is), .ref (ad iw), .ref (ad (iw + 4 + t))] ws (fun v w => v = some (.int (luP sd (σ.1 t) σ.2.1)) ∧ SD E ad w is (drwS sd) bt se ∧ WY E ad w iw (σ.1, sgB (σ.1 t) σ.2.1, σ.2.2) ∧ SO is iw ws w) := by
  obtain ⟨hi1, hi2⟩ := hi
  obtain ⟨st, sz, r, h1, h2, h3, h4, h5, h6⟩ := id hW
  have hT := h6 t ht
  obtain ⟨n, hn, hb, hg, hm⟩ := hf
  have hbn : ((σ.1 t) 10).toNatClampNeg = n := by rw [hb, nI_clamp (by omega)]
  refine c0V vX1_leastHurt (Nat.le_of_ble_eq_true rfl) (lv0 := [(0, .ref (ad is)), (1, .ref (ad iw)), (2, .ref (ad (iw + 4 + t)))]) rfl ?_
  refine ev_ss DX1_leastHurt 1 0 (pc' := 1) (lv' := [(0, .ref _), (1, .ref _), (2, .ref _)]) (st' := [.ref _]) rfl ?_
  refine ev_get DX1_leastHurt 1 GX5 rfl (k0 := 1) (Nat.le_of_ble_eq_true rfl) fX1_78 h1 rfl ?_
  refine ev_ss DX1_leastHurt 1 2 (pc' := 5) (lv' := [(0, .ref _), (1, .ref _), (2, .ref _)]) (st' := [.ref _, .ref _]) rfl ?_
  refine ev_get DX1_leastHurt 3 GX3 rfl (k0 := 10) (Nat.le_of_ble_eq_true rfl) fX1_82 hT rfl ?_
  refine ev_rV DX1_leastHurt 4 (m_X4_takeX hb hn h3 h4 h5) vX4_take rfl qX1_85 rfl h3 rfl (hd_of rfl rfl rfl rfl) (fun v w hvw => ?_)
  obtain ⟨rfl, st2, sz2, hq2, hw⟩ := hvw
  have ev : (takeQ n 0 σ.2.1).1 = sgV (σ.1 t) σ.2.1 := by rw [← hbn]; rfl
  have eb : (takeQ n 0 σ.2.1).2 = sgB (σ.1 t) σ.2.1 := by rw [← hbn]; rfl
  rw [ev]
  rw [eb] at hq2
  have hW2 : WY E ad w iw (σ.1, sgB (σ.1 t) σ.2.1, σ.2.2) := by rw [hw]; exact hW.wait (sz := sz) (st := st) h3 h4 hq2
  have hS2 : SD E ad w is sd bt se := by rw [hw]; exact hS.of (List.getElem?_set_ne (by omega)) (List.getElem?_set_ne (by omega))
  have hO2 : SO is iw ws w := by rw [hw]; exact fun j a b => List.getElem?_set_ne (by omega)
  clear hw
  obtain ⟨st3, sz3, r3, k1, k2, k3, k4, k5, k6⟩ := id hW2
  have kT := k6 t ht
  refine ev_ss DX1_leastHurt 4 5 (pc' := 15) (lv' := [(3, .int _), (0, .ref _), (1, .ref _), (2, .ref _)]) (st' := [.int _, .ref _, .ref _]) rfl ?_
  refine ev_cV DX1_leastHurt 9 (m_X3_amplitudeOf kT) vX3_amplitudeOf rfl qX1_90 rfl kT rfl (hd_of rfl rfl rfl rfl) ?_
  refine ev_ss DX1_leastHurt 2 10 (pc' := 20) (lv' := [(3, .int _), (0, .ref _), (1, .ref _), (2, .ref _)]) (st' := [.ref _, .ref _, .int _, .ref _]) rfl ?_
  refine ev_cV DX1_leastHurt 12 (m_X1_drawNoise hS2.1 kT hm) vX1_drawNoise rfl qX1_93 rfl hS2.1 rfl (hd_of rfl rfl rfl rfl) ?_
  refine ev_cV DX1_leastHurt 13 (m_X3_arriving (wset_o kT hS2.1 rfl)) vX3_arriving rfl qX1_97 rfl (wset_o kT hS2.1 rfl) rfl (hd_of rfl rfl rfl rfl) ?_
  refine ev_ss DX1_leastHurt 3 14 (pc' := 31) (lv' := [(5, .int 0), (4, .int _), (3, .int _), (0, .ref _), (1, .ref _), (2, .ref _)]) (st' := []) rfl ?_
  refine ev_lvp (lv2 := [(0, .ref _), (1, .ref _), (2, .ref _), (3, .int _), (4, .int _), (5, .int _)]) [3, 4, 5, 2, 1, 0] rfl ?_
  have hS3 := hS2.seed (sd2 := drwS sd) (bt2 := bt)
  have hW3 := hW2.st (is := is) (x := (ad is, stC (ad (is + 1)) (ad (is + 13)) (ad (is + 25)) (drwS sd) bt)) (Or.inl hi1)
  have hO3 := hO2.tr (w2 := w.set is (ad is, stC (ad (is + 1)) (ad (is + 13)) (ad (is + 25)) (drwS sd) bt)) (fun j a b => List.getElem?_set_ne (Ne.symm a))
  have hT3 : (w.set is (ad is, stC (ad (is + 1)) (ad (is + 13)) (ad (is + 25)) (drwS sd) bt))[iw + 4 + t]? = some (ad (iw + 4 + t), toneC (σ.1 t)) := wset_n kT (by omega)
  generalize w.set is (ad is, stC (ad (is + 1)) (ad (is + 13)) (ad (is + 25)) (drwS sd) bt) = w8 at hS3 hW3 hO3 hT3 ⊢
  exact lh_loop hT3 hg k301 0 _ (Nat.zero_add k301) nI_0.symm ⟨rfl, hS3, hW3, hO3⟩
end
section
def alP (c : Int32) : Int32 := if c < 97 then -1 else if 102 < c then -1 else c - 97 + 10
def dgP (c : Int32) : Int32 := if c < 48 then alP c else if 57 < c then alP c else c - 48
def bhP (c : Int32) : Int32 := if dgP c = -1 then 4 else 3
def nx0 (c : Int32) : Int32 := if c = 97 then 1 else if c = 98 then 1 else 4
def nx1 (c : Int32) : Int32 := if c = 58 then 2 else 4
def nx3 (c : Int32) : Int32 := if c = 59 then 0 else bhP c
def nxP (p c : Int32) : Int32 := if p = 0 then nx0 c else if p = 1 then nx1 c else if p = 2 then bhP c else if p = 3 then nx3 c else 4
def pl5 (p : Int32) : Prop := p = 0 ∨ p = 1 ∨ p = 2 ∨ p = 3 ∨ p = 4
theorem bhP_5 (c : Int32) : bhP c = 3 ∨ bhP c = 4 := by unfold bhP; split <;> simp
theorem nxP_5 (p c : Int32) : pl5 (nxP p c) := by
  unfold nxP pl5
  have h := bhP_5 c
  split
  · unfold nx0; split; simp; split <;> simp
  · split
    · unfold nx1; split <;> simp
    · split
      · rcases h with h | h <;> simp [h]
      · split
        · unfold nx3; split
          · simp
          · rcases h with h | h <;> simp [h]
        · simp
/-- the place behind the first characters -/
def tzP (ch : Nat → Int32) : Nat → Int32
  | 0 => 0
  | n + 1 => nxP (tzP ch n) (ch n)
theorem tzP_5 (ch : Nat → Int32) : ∀ n, pl5 (tzP ch n)
  | 0 => Or.inl rfl
  | n + 1 => nxP_5 _ _
theorem tzP_s {ch : Nat → Int32} {n : Nat} : tzP ch (n + 1) = nxP (tzP ch n) (ch n) := rfl
/-- the way that is spoken of -/
def wnP (ch : Nat → Int32) : Nat → Int32
  | 0 => 0
  | n + 1 => if tzP ch n = 0 then ch n - 97 else wnP ch n
theorem wnP_s {ch : Nat → Int32} {n : Nat} : wnP ch (n + 1) = if tzP ch n = 0 then ch n - 97 else wnP ch n := rfl
theorem nx0_1 {c : Int32} (h : ¬ nx0 c = 4) : c - 97 = 0 ∨ c - 97 = 1 := by
  unfold nx0 at h
  split at h
  · left; rename_i h1; rw [h1]; rfl
  · split at h
    · right; rename_i h1 h2; rw [h2]; rfl
    · exact absurd rfl h
theorem wnP_01 (ch : Nat → Int32) : ∀ n, (¬ tzP ch n = 0 → ¬ tzP ch n = 4 → wnP ch n = 0 ∨ wnP ch n = 1)
  | 0 => fun h => absurd rfl h
  | n + 1 => by
    intro h1 h2
    rw [tzP_s] at h1 h2
    rw [wnP_s]
    by_cases e : tzP ch n = 0
    · rw [if_pos e]
      rw [e, show nxP 0 (ch n) = nx0 (ch n) from if_pos rfl] at h2
      exact nx0_1 h2
    · rw [if_neg e]
      refine wnP_01 ch n e (fun e4 => h2 ?_)
      rw [e4]
      rfl
def erP (ch : Nat → Int32) (len : Nat) : Nat → Nat → Int32
  | 0, _ => nI len
  | m + 1, i => if tzP ch (i + 1) = 4 then nI i else erP ch len m (i + 1)
theorem erP_s {ch : Nat → Int32} {len m i : Nat} : erP ch len (m + 1) i = if tzP ch (i + 1) = 4 then nI i else erP ch len m (i + 1) := rfl
def bfT (ch : Nat → Int32) (w : Int32) : Nat → Int32
  | 0 => 0
  | n + 1 => bfT ch w n + if tzP ch (n + 1) = 3 then (if wnP ch (n + 1) = w then 4 else 0) else 0
theorem bfT_s {ch : Nat → Int32} {w : Int32} {n : Nat} : bfT ch w (n + 1) = bfT ch w n + if tzP ch (n + 1) = 3 then (if wnP ch (n + 1) = w then 4 else 0) else 0 := rfl
/-- the four bits of a digit -/
def dg4 (dg : Int32) : List Int32 := [(dg >>> ((3 : Int32) &&& 31)) &&& 1, (dg >>> ((2 : Int32) &&& 31)) &&& 1, (dg >>> ((1 : Int32) &&& 31)) &&& 1, (dg >>> ((0 : Int32) &&& 31)) &&& 1]
def pbP (ch : Nat → Int32) (b0 b1 : List Int32) : Nat → List Int32 × List Int32
  | 0 => (b0, b1)
  | n + 1 => if tzP ch (n + 1) = 3 then (if wnP ch (n + 1) = 0 then ((pbP ch b0 b1 n).1 ++ dg4 (dgP (ch n)), (pbP ch b0 b1 n).2) else ((pbP ch b0 b1 n).1, (pbP ch b0 b1 n).2 ++ dg4 (dgP (ch n)))) else pbP ch b0 b1 n
theorem pbP_s {ch : Nat → Int32} {b0 b1 : List Int32} {n : Nat} : pbP ch b0 b1 (n + 1) = if tzP ch (n + 1) = 3 then (if wnP ch (n + 1) = 0 then ((pbP ch b0 b1 n).1 ++ dg4 (dgP (ch n)), (pbP ch b0 b1 n).2) else ((pbP ch b0 b1 n).1, (pbP ch b0 b1 n).2 ++ dg4 (dgP (ch n)))) else pbP ch b0 b1 n := rfl
abbrev txC (b : Nat) (l : Int32) : va_E := .inr (2, [.ref b, .int l])
abbrev chA (E : gE) (f : Nat → Int32) : va_E := .inl (gK E 2, 60, .inl f)
/-- a text -/
def TXT (E : gE) (ad : Nat → Nat) (ws : va_W) (it : Nat) (len : Nat) (ch : Nat → Int32) : Prop := len ≤ 60 ∧ ws[it]? = some (ad it, txC (ad (it + 1)) (nI len)) ∧ ∃ g : Nat → Int32, ws[it + 1]? = some (ad (it + 1), chA E g) ∧ ∀ j, j < len → g j = ch j
theorem TXT.of {E : gE} {ad : Nat → Nat} {ws w : va_W} {it len : Nat} {ch : Nat → Int32} (h : TXT E ad ws it len ch) (h1 : w[it]? = ws[it]?) (h2 : w[it + 1]? = ws[it + 1]?) : TXT E ad w it len ch := by
  obtain ⟨a, b, g, c, d⟩ := h
  exact ⟨a, h1.trans b, g, h2.trans c, d⟩
set_option maxRecDepth 100000 in
set_option maxHeartbeats 4000000 in
theorem m_X2_digitOf {E : gE} {ws : va_W} {c : Int32} : CD E YX2_digitOf 0 0 [.int c] ws (some (.int (dgP c))) ws := by
  refine cdS vX2_digitOf (Nat.le_of_ble_eq_true rfl) (lv0 := [(0, .int c)]) rfl ?_
  refine ev_ss DX2_digitOf 2 0 (pc' := 3) (lv' := [(0, .int _)]) (st' := [.int 48, .int _]) rfl ?_
  refine ev_iclt DX2_digitOf 2 rfl (tgt := 17) (by decide) (fun c_1 => ?_) (fun c_1 => ?_)
  · refine ev_ss DX2_digitOf 2 10 (pc' := 20) (lv' := [(0, .int _)]) (st' := [.int 97, .int _]) rfl ?_
    refine ev_iclt DX2_digitOf 12 rfl (tgt := 39) (by decide) (fun c_2 => ?_) (fun c_2 => ?_)
    · refine ev_ss DX2_digitOf 1 22 (pc' := 40) (lv' := [(0, .int _)]) (st' := [.int (-1)]) rfl ?_
      exact ev_iret DX2_digitOf 23 rfl rfl ⟨congrArg (fun z => some (Value.int z)) (Eq.symm ((if_pos c_1).trans (if_pos c_2))), rfl⟩
    · refine ev_ss DX2_digitOf 2 13 (pc' := 26) (lv' := [(0, .int _)]) (st' := [.int 102, .int _]) rfl ?_
      refine ev_icgt DX2_digitOf 15 rfl (tgt := 39) (by decide) (fun c_3 => ?_) (fun c_3 => ?_)
      · refine ev_ss DX2_digitOf 1 22 (pc' := 40) (lv' := [(0, .int _)]) (st' := [.int (-1)]) rfl ?_
        exact ev_iret DX2_digitOf 23 rfl rfl ⟨congrArg (fun z => some (Value.int z)) (Eq.symm ((if_pos c_1).trans ((if_neg c_2).trans (if_pos c_3)))), rfl⟩
      · refine ev_ss DX2_digitOf 5 16 (pc' := 36) (lv' := [(0, .int _)]) (st' := [.int _]) rfl ?_
        refine ev_goto DX2_digitOf 21 rfl (tgt := 40) (by decide) ?_
        exact ev_iret DX2_digitOf 23 rfl rfl ⟨congrArg (fun z => some (Value.int z)) (Eq.symm ((if_pos c_1).trans ((if_neg c_2).trans (if_neg c_3)))), rfl⟩
  · refine ev_ss DX2_digitOf 2 3 (pc' := 9) (lv' := [(0, .int _)]) (st' := [.int 57, .int _]) rfl ?_
    refine ev_icgt DX2_digitOf 5 rfl (tgt := 17) (by decide) (fun c_4 => ?_) (fun c_4 => ?_)
    · refine ev_ss DX2_digitOf 2 10 (pc' := 20) (lv' := [(0, .int _)]) (st' := [.int 97, .int _]) rfl ?_
      refine ev_iclt DX2_digitOf 12 rfl (tgt := 39) (by decide) (fun c_5 => ?_) (fun c_5 => ?_)
      · refine ev_ss DX2_digitOf 1 22 (pc' := 40) (lv' := [(0, .int _)]) (st' := [.int (-1)]) rfl ?_
        exact ev_iret DX2_digitOf 23 rfl rfl ⟨congrArg (fun z => some (Value.int z)) (Eq.symm ((if_neg c_1).trans ((if_pos c_4).trans (if_pos c_5)))), rfl⟩
      · refine ev_ss DX2_digitOf 2 13 (pc' := 26) (lv' := [(0, .int _)]) (st' := [.int 102, .int _]) rfl ?_
        refine ev_icgt DX2_digitOf 15 rfl (tgt := 39) (by decide) (fun c_6 => ?_) (fun c_6 => ?_)
        · refine ev_ss DX2_digitOf 1 22 (pc' := 40) (lv' := [(0, .int _)]) (st' := [.int (-1)]) rfl ?_
          exact ev_iret DX2_digitOf 23 rfl rfl ⟨congrArg (fun z => some (Value.int z)) (Eq.symm ((if_neg c_1).trans ((if_pos c_4).trans ((if_neg c_5).trans (if_pos c_6))))), rfl⟩
        · refine ev_ss DX2_digitOf 5 16 (pc' := 36) (lv' := [(0, .int _)]) (st' := [.int _]) rfl ?_
          refine ev_goto DX2_digitOf 21 rfl (tgt := 40) (by decide) ?_
          exact ev_iret DX2_digitOf 23 rfl rfl ⟨congrArg (fun z => some (Value.int z)) (Eq.symm ((if_neg c_1).trans ((if_pos c_4).trans ((if_neg c_5).trans (if_neg c_6))))), rfl⟩
    · refine ev_ss DX2_digitOf 3 6 (pc' := 16) (lv' := [(0, .int _)]) (st' := [.int _]) rfl ?_
      exact ev_iret DX2_digitOf 9 rfl rfl ⟨congrArg (fun z => some (Value.int z)) (Eq.symm ((if_neg c_1).trans (if_neg c_4))), rfl⟩
set_option maxRecDepth 100000 in
set_option maxHeartbeats 4000000 in
theorem m_X2_behindDigit {E : gE} {ws : va_W} {c : Int32} : CD E YX2_behindDigit 0 0 [.int c] ws (some (.int (bhP c))) ws := by
  refine cdS vX2_behindDigit (Nat.le_of_ble_eq_true rfl) (lv0 := [(0, .int c)]) rfl ?_
  refine ev_ss DX2_behindDigit 1 0 (pc' := 1) (lv' := [(0, .int _)]) (st' := [.int _]) rfl ?_
  refine ev_cS DX2_behindDigit 1 m_X2_digitOf vX2_digitOf rfl qX2_19 rfl (hd_of rfl rfl rfl rfl) ?_
  refine ev_ss DX2_behindDigit 1 2 (pc' := 5) (lv' := [(0, .int _)]) (st' := [.int (-1), .int _]) rfl ?_
  refine ev_icne DX2_behindDigit 3 rfl (tgt := 12) (by decide) (fun c_1 => ?_) (fun c_1 => ?_)
  · refine ev_ss DX2_behindDigit 1 6 (pc' := 13) (lv' := [(0, .int _)]) (st' := [.int 3]) rfl ?_
    exact ev_iret DX2_behindDigit 7 rfl rfl ⟨congrArg (fun z => some (Value.int z)) (Eq.symm (if_neg c_1)), rfl⟩
  · refine ev_ss DX2_behindDigit 1 4 (pc' := 9) (lv' := [(0, .int _)]) (st' := [.int 4]) rfl ?_
    refine ev_goto DX2_behindDigit 5 rfl (tgt := 13) (by decide) ?_
    exact ev_iret DX2_behindDigit 7 rfl rfl ⟨congrArg (fun z => some (Value.int z)) (Eq.symm (if_pos c_1)), rfl⟩
set_option maxRecDepth 100000 in
set_option maxHeartbeats 4000000 in
theorem m_X2_next_0 {E : gE} {ws : va_W} {c : Int32} : CD E YX2_next 0 0 [.int 0, .int c] ws (some (.int (nx0 c))) ws := by
  refine cdS vX2_next (Nat.le_of_ble_eq_true rfl) (lv0 := [(0, .int 0), (1, .int c)]) rfl ?_
  refine ev_ss DX2_next 1 0 (pc' := 1) (lv' := [(0, .int 0), (1, .int _)]) (st' := [.int 0]) rfl ?_
  refine ev_swin DX2_next 1 rfl (by decide) (by decide) (off := 31) (by decide) (tgt := 32) (by decide) ?_
  refine ev_ss DX2_next 2 2 (pc' := 35) (lv' := [(0, .int 0), (1, .int _)]) (st' := [.int 97, .int _]) rfl ?_
  refine ev_iceq DX2_next 4 rfl (tgt := 44) (by decide) (fun c_1 => ?_) (fun c_1 => ?_)
  · refine ev_ss DX2_next 1 8 (pc' := 45) (lv' := [(0, .int 0), (1, .int _)]) (st' := [.int 1]) rfl ?_
    refine ev_goto DX2_next 9 rfl (tgt := 49) (by decide) ?_
    exact ev_iret DX2_next 11 rfl rfl ⟨congrArg (fun z => some (Value.int z)) (Eq.symm (if_pos c_1)), rfl⟩
  · refine ev_ss DX2_next 2 5 (pc' := 41) (lv' := [(0, .int 0), (1, .int _)]) (st' := [.int 98, .int _]) rfl ?_
    refine ev_icne DX2_next 7 rfl (tgt := 48) (by decide) (fun c_2 => ?_) (fun c_2 => ?_)
    · refine ev_ss DX2_next 1 10 (pc' := 49) (lv' := [(0, .int 0), (1, .int _)]) (st' := [.int 4]) rfl ?_
      exact ev_iret DX2_next 11 rfl rfl ⟨congrArg (fun z => some (Value.int z)) (Eq.symm ((if_neg c_1).trans (if_neg c_2))), rfl⟩
    · refine ev_ss DX2_next 1 8 (pc' := 45) (lv' := [(0, .int 0), (1, .int _)]) (st' := [.int 1]) rfl ?_
      refine ev_goto DX2_next 9 rfl (tgt := 49) (by decide) ?_
      exact ev_iret DX2_next 11 rfl rfl ⟨congrArg (fun z => some (Value.int z)) (Eq.symm ((if_neg c_1).trans (if_pos c_2))), rfl⟩
set_option maxRecDepth 100000 in
set_option maxHeartbeats 4000000 in
theorem m_X2_next_1 {E : gE} {ws : va_W} {c : Int32} : CD E YX2_next 0 0 [.int 1, .int c] ws (some (.int (nx1 c))) ws := by
  refine cdS vX2_next (Nat.le_of_ble_eq_true rfl) (lv0 := [(0, .int 1), (1, .int c)]) rfl ?_
  refine ev_ss DX2_next 1 0 (pc' := 1) (lv' := [(0, .int 1), (1, .int _)]) (st' := [.int 1]) rfl ?_
  refine ev_swin DX2_next 1 rfl (by decide) (by decide) (off := 49) (by decide) (tgt := 50) (by decide) ?_
  refine ev_ss DX2_next 2 12 (pc' := 53) (lv' := [(0, .int 1), (1, .int _)]) (st' := [.int 58, .int _]) rfl ?_
  refine ev_icne DX2_next 14 rfl (tgt := 60) (by decide) (fun c_1 => ?_) (fun c_1 => ?_)
  · refine ev_ss DX2_next 1 17 (pc' := 61) (lv' := [(0, .int 1), (1, .int _)]) (st' := [.int 4]) rfl ?_
    exact ev_iret DX2_next 18 rfl rfl ⟨congrArg (fun z => some (Value.int z)) (Eq.symm (if_neg c_1)), rfl⟩
  · refine ev_ss DX2_next 1 15 (pc' := 57) (lv' := [(0, .int 1), (1, .int _)]) (st' := [.int 2]) rfl ?_
    refine ev_goto DX2_next 16 rfl (tgt := 61) (by decide) ?_
    exact ev_iret DX2_next 18 rfl rfl ⟨congrArg (fun z => some (Value.int z)) (Eq.symm (if_pos c_1)), rfl⟩
set_option maxRecDepth 100000 in
set_option maxHeartbeats 4000000 in
theorem m_X2_next_2 {E : gE} {ws : va_W} {c : Int32} : CD E YX2_next 0 0 [.int 2, .int c] ws (some (.int (bhP c))) ws := by
  refine cdS vX2_next (Nat.le_of_ble_eq_true rfl) (lv0 := [(0, .int 2), (1, .int c)]) rfl ?_
  refine ev_ss DX2_next 1 0 (pc' := 1) (lv' := [(0, .int 2), (1, .int _)]) (st' := [.int 2]) rfl ?_
  refine ev_swin DX2_next 1 rfl (by decide) (by decide) (off := 61) (by decide) (tgt := 62) (by decide) ?_
  refine ev_ss DX2_next 1 19 (pc' := 63) (lv' := [(0, .int 2), (1, .int _)]) (st' := [.int _]) rfl ?_
  refine ev_cS DX2_next 20 m_X2_behindDigit vX2_behindDigit rfl qX2_15 rfl (hd_of rfl rfl rfl rfl) ?_
  exact ev_iret DX2_next 21 rfl rfl ⟨congrArg (fun z => some (Value.int z)) (Eq.symm rfl), rfl⟩
set_option maxRecDepth 100000 in
set_option maxHeartbeats 4000000 in
theorem m_X2_next_3 {E : gE} {ws : va_W} {c : Int32} : CD E YX2_next 0 0 [.int 3, .int c] ws (some (.int (nx3 c))) ws := by
  refine cdS vX2_next (Nat.le_of_ble_eq_true rfl) (lv0 := [(0, .int 3), (1, .int c)]) rfl ?_
  refine ev_ss DX2_next 1 0 (pc' := 1) (lv' := [(0, .int 3), (1, .int _)]) (st' := [.int 3]) rfl ?_
  refine ev_swin DX2_next 1 rfl (by decide) (by decide) (off := 66) (by decide) (tgt := 67) (by decide) ?_
  refine ev_ss DX2_next 2 22 (pc' := 70) (lv' := [(0, .int 3), (1, .int _)]) (st' := [.int 59, .int _]) rfl ?_
  refine ev_icne DX2_next 24 rfl (tgt := 77) (by decide) (fun c_1 => ?_) (fun c_1 => ?_)
  · refine ev_ss DX2_next 1 27 (pc' := 78) (lv' := [(0, .int 3), (1, .int _)]) (st' := [.int _]) rfl ?_
    refine ev_cS DX2_next 28 m_X2_behindDigit vX2_behindDigit rfl qX2_15 rfl (hd_of rfl rfl rfl rfl) ?_
    exact ev_iret DX2_next 29 rfl rfl ⟨congrArg (fun z => some (Value.int z)) (Eq.symm (if_neg c_1)), rfl⟩
  · refine ev_ss DX2_next 1 25 (pc' := 74) (lv' := [(0, .int 3), (1, .int _)]) (st' := [.int 0]) rfl ?_
    refine ev_goto DX2_next 26 rfl (tgt := 81) (by decide) ?_
    exact ev_iret DX2_next 29 rfl rfl ⟨congrArg (fun z => some (Value.int z)) (Eq.symm (if_pos c_1)), rfl⟩
set_option maxRecDepth 100000 in
set_option maxHeartbeats 4000000 in
theorem m_X2_next_4 {E : gE} {ws : va_W} {c : Int32} : CD E YX2_next 0 0 [.int 4, .int c] ws (some (.int (4))) ws := by
  refine cdS vX2_next (Nat.le_of_ble_eq_true rfl) (lv0 := [(0, .int 4), (1, .int c)]) rfl ?_
  refine ev_ss DX2_next 1 0 (pc' := 1) (lv' := [(0, .int 4), (1, .int _)]) (st' := [.int 4]) rfl ?_
  refine ev_swout DX2_next 1 rfl (by decide) (tgt := 82) (by decide) ?_
  refine ev_ss DX2_next 1 30 (pc' := 83) (lv' := [(0, .int 4), (1, .int _)]) (st' := [.int 4]) rfl ?_
  exact ev_iret DX2_next 31 rfl rfl ⟨congrArg (fun z => some (Value.int z)) (Eq.symm rfl), rfl⟩
theorem m_X2_next {E : gE} {ws : va_W} {p c : Int32} (hp : pl5 p) : CD E YX2_next 0 0 [.int p, .int c] ws (some (.int (nxP p c))) ws := by
  rcases hp with e | e | e | e | e
  · subst e; rw [show nxP 0 c = nx0 c from if_pos rfl]; exact m_X2_next_0
  · subst e; rw [show nxP 1 c = nx1 c from (if_neg (by decide)).trans (if_pos rfl)]; exact m_X2_next_1
  · subst e; rw [show nxP 2 c = bhP c from ((if_neg (by decide)).trans (if_neg (by decide))).trans (if_pos rfl)]; exact m_X2_next_2
  · subst e; rw [show nxP 3 c = nx3 c from (((if_neg (by decide)).trans (if_neg (by decide))).trans (if_neg (by decide))).trans (if_pos rfl)]; exact m_X2_next_3
  · subst e; rw [show nxP 4 c = 4 from (((if_neg (by decide)).trans (if_neg (by decide))).trans (if_neg (by decide))).trans (if_neg (by decide))]; exact m_X2_next_4
set_option maxRecDepth 100000 in
set_option maxHeartbeats 4000000 in
theorem m_X2_errorPlace {E : gE} {ad : Nat → Nat} {ws : va_W} {it len : Nat} {ch : Nat → Int32} (hX : TXT E ad ws it len ch) : CD E YX2_errorPlace 0 0 [.ref (ad it)] ws (some (.int (erP ch len len 0))) ws := by
  obtain ⟨hlen, h1, g, h2, h3⟩ := id hX
  refine cdV vX2_errorPlace (Nat.le_of_ble_eq_true rfl) (lv0 := [(0, .ref (ad it))]) rfl ?_
  suffices K : ∀ (m i : Nat) (x p : Int32) (lv9 : List (Nat × Value)), i + m = len → x = nI i → p = tzP ch i → erP ch len len 0 = erP ch len m i → lv9 = [(0, .ref (ad it)), (1, .int p), (2, .int x)] →
      Ev E YX2_errorPlace (fun v2 w2 => v2 = some (.int (erP ch len len 0)) ∧ w2 = ws) nX 0 0 4 lv9 [] ws by
    refine ev_ss DX2_errorPlace 4 0 (pc' := 4) (lv' := [(2, .int 0), (1, .int 0), (0, .ref _)]) (st' := []) rfl ?_
    refine ev_lvp (lv2 := [(0, .ref _), (1, .int _), (2, .int _)]) [2, 1, 0] rfl ?_
    exact K len 0 _ _ _ (Nat.zero_add len) nI_0.symm rfl rfl rfl
  intro m
  induction m with
  | zero =>
    intro i x p lv9 hm hx hp he hv
    obtain rfl : i = len := by omega
    subst hx; subst hv
    refine ev_ss DX2_errorPlace 2 4 (pc' := 6) (lv' := [(0, .ref _), (1, .int _), (2, .int _)]) (st' := [.ref _, .int _]) rfl ?_
    refine ev_get DX2_errorPlace 6 GX2 rfl (k0 := 1) (Nat.le_of_ble_eq_true rfl) fX2_22 h1 rfl ?_
    refine ev_icge DX2_errorPlace 7 rfl (tgt := 42) (by decide) (fun _ => ?_) (fun h => h.elim (nI_le (Nat.le_refl _) (by omega)))
    refine ev_ss DX2_errorPlace 1 25 (pc' := 43) (lv' := [(0, .ref _), (1, .int _), (2, .int _)]) (st' := [.ref _]) rfl ?_
    refine ev_get DX2_errorPlace 26 GX2 rfl (k0 := 1) (Nat.le_of_ble_eq_true rfl) fX2_22 h1 rfl ?_
    exact ev_iret DX2_errorPlace 27 rfl rfl ⟨congrArg (fun z => some (Value.int z)) (Eq.symm he), rfl⟩
  | succ m ih =>
    intro i x p lv9 hm hx hp he hv
    subst hx; subst hv; subst hp
    have hg := h3 i (by omega)
    rw [erP_s, tzP_s] at he
    refine ev_ss DX2_errorPlace 2 4 (pc' := 6) (lv' := [(0, .ref _), (1, .int _), (2, .int _)]) (st' := [.ref _, .int _]) rfl ?_
    refine ev_get DX2_errorPlace 6 GX2 rfl (k0 := 1) (Nat.le_of_ble_eq_true rfl) fX2_22 h1 rfl ?_
    refine ev_icge DX2_errorPlace 7 rfl (tgt := 42) (by decide) (fun h => absurd h (nI_ge (b := len) (by omega) (by omega))) (fun _ => ?_)
    refine ev_ss DX2_errorPlace 2 8 (pc' := 15) (lv' := [(0, .ref _), (1, .int _), (2, .int _)]) (st' := [.int 60, .int _]) rfl ?_
    refine ev_icge DX2_errorPlace 10 rfl (tgt := 42) (by decide) (fun h => absurd h (nI_ge (b := 60) (by omega) (by decide))) (fun _ => ?_)
    refine ev_ss DX2_errorPlace 2 11 (pc' := 20) (lv' := [(0, .ref _), (1, .int _), (2, .int _)]) (st' := [.ref _, .int _]) rfl ?_
    refine ev_get DX2_errorPlace 13 GX2 rfl (k0 := 0) (Nat.le_of_ble_eq_true rfl) fX2_9 h1 rfl ?_
    refine ev_ss DX2_errorPlace 1 14 (pc' := 24) (lv' := [(0, .ref _), (1, .int _), (2, .int _)]) (st' := [.int _, .ref _, .int _]) rfl ?_
    refine ev_cald DX2_errorPlace 15 rfl h2 (vp_in_nI (by omega) (by decide)) ?_
    rw [nI_clamp (by omega), hg]
    refine ev_cS DX2_errorPlace 16 (m_X2_next (tzP_5 ch i)) vX2_next rfl qX2_26 rfl (hd_of rfl rfl rfl rfl) ?_
    refine ev_ss DX2_errorPlace 3 17 (pc' := 31) (lv' := [(1, .int _), (0, .ref _), (2, .int _)]) (st' := [.int 4, .int _]) rfl ?_
    refine ev_icne DX2_errorPlace 20 rfl (tgt := 36) (by decide) (fun c_3 => ?_) (fun c_3 => ?_)
    · refine ev_ss DX2_errorPlace 1 23 (pc' := 39) (lv' := [(2, .int _), (1, .int _), (0, .ref _)]) (st' := []) rfl ?_
      refine ev_goto DX2_errorPlace 24 rfl (tgt := 4) (by decide) ?_
      refine ev_lvp (lv2 := [(0, .ref _), (1, .int _), (2, .int _)]) [2, 1, 0] rfl ?_
      exact ih (i + 1) _ _ _ (by omega) (nI_1 i) tzP_s.symm (by rw [if_neg c_3] at he; exact he) rfl
    · refine ev_ss DX2_errorPlace 1 21 (pc' := 35) (lv' := [(1, .int _), (0, .ref _), (2, .int _)]) (st' := [.int _]) rfl ?_
      exact ev_iret DX2_errorPlace 22 rfl rfl ⟨by rw [if_pos c_3] at he; rw [he], rfl⟩
set_option maxRecDepth 100000 in
set_option maxHeartbeats 4000000 in
theorem m_X2_isComplete {E : gE} {ad : Nat → Nat} {ws : va_W} {it len : Nat} {ch : Nat → Int32} (hX : TXT E ad ws it len ch) : CD E YX2_isComplete 0 0 [.ref (ad it)] ws (some (.int (if tzP ch len = 3 then 1 else 0))) ws := by
  obtain ⟨hlen, h1, g, h2, h3⟩ := id hX
  refine cdV vX2_isComplete (Nat.le_of_ble_eq_true rfl) (lv0 := [(0, .ref (ad it))]) rfl ?_
  suffices K : ∀ (m i : Nat) (x p : Int32) (lv9 : List (Nat × Value)), i + m = len → x = nI i → p = tzP ch i → lv9 = [(0, .ref (ad it)), (1, .int p), (2, .int x)] →
      Ev E YX2_isComplete (fun v2 w2 => v2 = some (.int (if tzP ch len = 3 then 1 else 0)) ∧ w2 = ws) nX 0 0 4 lv9 [] ws by
    refine ev_ss DX2_isComplete 4 0 (pc' := 4) (lv' := [(2, .int 0), (1, .int 0), (0, .ref _)]) (st' := []) rfl ?_
    refine ev_lvp (lv2 := [(0, .ref _), (1, .int _), (2, .int _)]) [2, 1, 0] rfl ?_
    exact K len 0 _ _ _ (Nat.zero_add len) nI_0.symm rfl rfl
  intro m
  induction m with
  | zero =>
    intro i x p lv9 hm hx hp hv
    obtain rfl : i = len := by omega
    subst hx; subst hv; subst hp
    refine ev_ss DX2_isComplete 2 4 (pc' := 6) (lv' := [(0, .ref _), (1, .int _), (2, .int _)]) (st' := [.ref _, .int _]) rfl ?_
    refine ev_get DX2_isComplete 6 GX2 rfl (k0 := 1) (Nat.le_of_ble_eq_true rfl) fX2_22 h1 rfl ?_
    refine ev_icge DX2_isComplete 7 rfl (tgt := 35) (by decide) (fun _ => ?_) (fun h => h.elim (nI_le (Nat.le_refl _) (by omega)))
    refine ev_ss DX2_isComplete 2 20 (pc' := 37) (lv' := [(0, .ref _), (1, .int _), (2, .int _)]) (st' := [.int 3, .int _]) rfl ?_
    refine ev_icne DX2_isComplete 22 rfl (tgt := 44) (by decide) (fun c_2 => ?_) (fun c_2 => ?_)
    · refine ev_ss DX2_isComplete 1 25 (pc' := 45) (lv' := [(0, .ref _), (1, .int _), (2, .int _)]) (st' := [.int 0]) rfl ?_
      exact ev_zret DX2_isComplete 26 rfl rfl rfl ⟨congrArg (fun z => some (Value.int z)) (Eq.symm (if_neg c_2)), rfl⟩
    · refine ev_ss DX2_isComplete 1 23 (pc' := 41) (lv' := [(0, .ref _), (1, .int _), (2, .int _)]) (st' := [.int 1]) rfl ?_
      refine ev_goto DX2_isComplete 24 rfl (tgt := 45) (by decide) ?_
      exact ev_zret DX2_isComplete 26 rfl rfl rfl ⟨congrArg (fun z => some (Value.int z)) (Eq.symm (if_pos c_2)), rfl⟩
  | succ m ih =>
    intro i x p lv9 hm hx hp hv
    subst hx; subst hv; subst hp
    have hg := h3 i (by omega)
    refine ev_ss DX2_isComplete 2 4 (pc' := 6) (lv' := [(0, .ref _), (1, .int _), (2, .int _)]) (st' := [.ref _, .int _]) rfl ?_
    refine ev_get DX2_isComplete 6 GX2 rfl (k0 := 1) (Nat.le_of_ble_eq_true rfl) fX2_22 h1 rfl ?_
    refine ev_icge DX2_isComplete 7 rfl (tgt := 35) (by decide) (fun h => absurd h (nI_ge (b := len) (by omega) (by omega))) (fun _ => ?_)
    refine ev_ss DX2_isComplete 2 8 (pc' := 15) (lv' := [(0, .ref _), (1, .int _), (2, .int _)]) (st' := [.int 60, .int _]) rfl ?_
    refine ev_icge DX2_isComplete 10 rfl (tgt := 35) (by decide) (fun h => absurd h (nI_ge (b := 60) (by omega) (by decide))) (fun _ => ?_)
    refine ev_ss DX2_isComplete 2 11 (pc' := 20) (lv' := [(0, .ref _), (1, .int _), (2, .int _)]) (st' := [.ref _, .int _]) rfl ?_
    refine ev_get DX2_isComplete 13 GX2 rfl (k0 := 0) (Nat.le_of_ble_eq_true rfl) fX2_9 h1 rfl ?_
    refine ev_ss DX2_isComplete 1 14 (pc' := 24) (lv' := [(0, .ref _), (1, .int _), (2, .int _)]) (st' := [.int _, .ref _, .int _]) rfl ?_
    refine ev_cald DX2_isComplete 15 rfl h2 (vp_in_nI (by omega) (by decide)) ?_
    rw [nI_clamp (by omega), hg]
    refine ev_cS DX2_isComplete 16 (m_X2_next (tzP_5 ch i)) vX2_next rfl qX2_26 rfl (hd_of rfl rfl rfl rfl) ?_
    refine ev_ss DX2_isComplete 2 17 (pc' := 32) (lv' := [(2, .int _), (1, .int _), (0, .ref _)]) (st' := []) rfl ?_
    refine ev_goto DX2_isComplete 19 rfl (tgt := 4) (by decide) ?_
    refine ev_lvp (lv2 := [(0, .ref _), (1, .int _), (2, .int _)]) [2, 1, 0] rfl ?_
    exact ih (i + 1) _ _ _ (by omega) (nI_1 i) tzP_s.symm rfl
set_option maxRecDepth 100000 in
set_option maxHeartbeats 4000000 in
theorem m_X2_bitsFor {E : gE} {ad : Nat → Nat} {ws : va_W} {it len : Nat} {ch : Nat → Int32} (hX : TXT E ad ws it len ch) {wy : Int32} : CD E YX2_bitsFor 0 0 [.ref (ad it), .int wy] ws (some (.int (bfT ch wy len))) ws := by
  obtain ⟨hlen, h1, g, h2, h3⟩ := id hX
  refine cdV vX2_bitsFor (Nat.le_of_ble_eq_true rfl) (lv0 := [(0, .ref (ad it)), (1, .int wy)]) rfl ?_
  suffices K : ∀ (m i : Nat) (x p wn acc : Int32) (lv9 : List (Nat × Value)), i + m = len → x = nI i → p = tzP ch i → wn = wnP ch i → acc = bfT ch wy i → lv9 = [(0, .ref (ad it)), (1, .int wy), (2, .int p), (3, .int wn), (4, .int acc), (5, .int x)] →
      Ev E YX2_bitsFor (fun v2 w2 => v2 = some (.int (bfT ch wy len)) ∧ w2 = ws) nX 0 0 10 lv9 [] ws by
    refine ev_ss DX2_bitsFor 8 0 (pc' := 10) (lv' := [(5, .int 0), (4, .int 0), (3, .int 0), (2, .int 0), (0, .ref _), (1, .int _)]) (st' := []) rfl ?_
    refine ev_lvp (lv2 := [(0, .ref _), (1, .int _), (2, .int _), (3, .int _), (4, .int _), (5, .int _)]) [4, 5, 3, 2, 1, 0] rfl ?_
    exact K len 0 _ _ _ _ _ (Nat.zero_add len) nI_0.symm rfl rfl rfl rfl
  intro m
  induction m with
  | zero =>
    intro i x p wn acc lv9 hm hx hp hw ha hv
    obtain rfl : i = len := by omega
    subst hx; subst hv; subst hp; subst ha
    refine ev_ss DX2_bitsFor 2 8 (pc' := 13) (lv' := [(0, .ref _), (1, .int _), (2, .int _), (3, .int _), (4, .int _), (5, .int _)]) (st' := [.ref _, .int _]) rfl ?_
    refine ev_get DX2_bitsFor 10 GX2 rfl (k0 := 1) (Nat.le_of_ble_eq_true rfl) fX2_22 h1 rfl ?_
    refine ev_icge DX2_bitsFor 11 rfl (tgt := 82) (by decide) (fun _ => ?_) (fun h => h.elim (nI_le (Nat.le_refl _) (by omega)))
    refine ev_ss DX2_bitsFor 1 46 (pc' := 84) (lv' := [(0, .ref _), (1, .int _), (2, .int _), (3, .int _), (4, .int _), (5, .int _)]) (st' := [.int _]) rfl ?_
    exact ev_iret DX2_bitsFor 47 rfl rfl ⟨rfl, rfl⟩
  | succ m ih =>
    intro i x p wn acc lv9 hm hx hp hw ha hv
    subst hx; subst hv; subst hp
    have hg := h3 i (by omega)
    refine ev_ss DX2_bitsFor 2 8 (pc' := 13) (lv' := [(0, .ref _), (1, .int _), (2, .int _), (3, .int _), (4, .int _), (5, .int _)]) (st' := [.ref _, .int _]) rfl ?_
    refine ev_get DX2_bitsFor 10 GX2 rfl (k0 := 1) (Nat.le_of_ble_eq_true rfl) fX2_22 h1 rfl ?_
    refine ev_icge DX2_bitsFor 11 rfl (tgt := 82) (by decide) (fun h => absurd h (nI_ge (b := len) (by omega) (by omega))) (fun _ => ?_)
    refine ev_ss DX2_bitsFor 2 12 (pc' := 23) (lv' := [(0, .ref _), (1, .int _), (2, .int _), (3, .int _), (4, .int _), (5, .int _)]) (st' := [.int 60, .int _]) rfl ?_
    refine ev_icge DX2_bitsFor 14 rfl (tgt := 82) (by decide) (fun h => absurd h (nI_ge (b := 60) (by omega) (by decide))) (fun _ => ?_)
    refine ev_ss DX2_bitsFor 1 15 (pc' := 27) (lv' := [(0, .ref _), (1, .int _), (2, .int _), (3, .int _), (4, .int _), (5, .int _)]) (st' := [.ref _]) rfl ?_
    refine ev_get DX2_bitsFor 16 GX2 rfl (k0 := 0) (Nat.le_of_ble_eq_true rfl) fX2_9 h1 rfl ?_
    refine ev_ss DX2_bitsFor 1 17 (pc' := 32) (lv' := [(0, .ref _), (1, .int _), (2, .int _), (3, .int _), (4, .int _), (5, .int _)]) (st' := [.int _, .ref _]) rfl ?_
    refine ev_cald DX2_bitsFor 18 rfl h2 (vp_in_nI (by omega) (by decide)) ?_
    rw [nI_clamp (by omega), hg]
    suffices J : ∀ z : Int32, wnP ch (i + 1) = z → Ev E YX2_bitsFor (fun v2 w2 => v2 = some (.int (bfT ch wy len)) ∧ w2 = ws) nX 0 0 48 [(6, .int (ch i)), (0, .ref (ad it)), (1, .int wy), (2, .int (tzP ch i)), (3, .int wn), (4, .int acc), (5, .int (nI i))] [.int z] ws by
      refine ev_ss DX2_bitsFor 2 19 (pc' := 36) (lv' := [(6, .int _), (0, .ref _), (1, .int _), (2, .int _), (3, .int _), (4, .int _), (5, .int _)]) (st' := [.int _]) rfl ?_
      refine ev_ifne DX2_bitsFor 21 rfl (tgt := 47) (by decide) (fun c_3 => ?_) (fun c_3 => ?_)
      · refine ev_ss DX2_bitsFor 1 26 (pc' := 48) (lv' := [(6, .int _), (0, .ref _), (1, .int _), (2, .int _), (3, .int _), (4, .int _), (5, .int _)]) (st' := [.int _]) rfl ?_
        exact J _ (by rw [wnP_s, if_neg c_3]; exact hw.symm)
      · refine ev_ss DX2_bitsFor 3 22 (pc' := 44) (lv' := [(6, .int _), (0, .ref _), (1, .int _), (2, .int _), (3, .int _), (4, .int _), (5, .int _)]) (st' := [.int _]) rfl ?_
        refine ev_goto DX2_bitsFor 25 rfl (tgt := 48) (by decide) ?_
        exact J _ (by rw [wnP_s, if_pos c_3]; rfl)
    intro z hz
    refine ev_ss DX2_bitsFor 3 27 (pc' := 52) (lv' := [(3, .int _), (6, .int _), (0, .ref _), (1, .int _), (2, .int _), (4, .int _), (5, .int _)]) (st' := [.int _, .int _]) rfl ?_
    refine ev_cS DX2_bitsFor 30 (m_X2_next (tzP_5 ch i)) vX2_next rfl qX2_26 rfl (hd_of rfl rfl rfl rfl) ?_
    refine ev_ss DX2_bitsFor 4 31 (pc' := 60) (lv' := [(2, .int _), (3, .int _), (6, .int _), (0, .ref _), (1, .int _), (4, .int _), (5, .int _)]) (st' := [.int 3, .int _, .int _]) rfl ?_
    refine ev_icne DX2_bitsFor 35 rfl (tgt := 72) (by decide) (fun c_4 => ?_) (fun c_4 => ?_)
    · refine ev_ss DX2_bitsFor 4 41 (pc' := 79) (lv' := [(5, .int _), (4, .int _), (2, .int _), (3, .int _), (6, .int _), (0, .ref _), (1, .int _)]) (st' := []) rfl ?_
      refine ev_goto DX2_bitsFor 45 rfl (tgt := 10) (by decide) ?_
      refine ev_lvp (lv2 := [(0, .ref _), (1, .int _), (2, .int _), (3, .int _), (4, .int _), (5, .int _)]) [5, 6, 2, 3, 1, 0] rfl ?_
      exact ih (i + 1) _ _ _ _ _ (by omega) (nI_1 i) tzP_s.symm hz.symm (by rw [bfT_s, tzP_s, hz, if_neg c_4, ← ha] <;> rfl) rfl
    · refine ev_ss DX2_bitsFor 2 36 (pc' := 65) (lv' := [(2, .int _), (3, .int _), (6, .int _), (0, .ref _), (1, .int _), (4, .int _), (5, .int _)]) (st' := [.int _, .int _, .int _]) rfl ?_
      refine ev_icne DX2_bitsFor 38 rfl (tgt := 72) (by decide) (fun c_5 => ?_) (fun c_5 => ?_)
      · refine ev_ss DX2_bitsFor 4 41 (pc' := 79) (lv' := [(5, .int _), (4, .int _), (2, .int _), (3, .int _), (6, .int _), (0, .ref _), (1, .int _)]) (st' := []) rfl ?_
        refine ev_goto DX2_bitsFor 45 rfl (tgt := 10) (by decide) ?_
        refine ev_lvp (lv2 := [(0, .ref _), (1, .int _), (2, .int _), (3, .int _), (4, .int _), (5, .int _)]) [5, 6, 2, 3, 1, 0] rfl ?_
        exact ih (i + 1) _ _ _ _ _ (by omega) (nI_1 i) tzP_s.symm hz.symm (by rw [bfT_s, tzP_s, hz, if_pos c_4, if_neg c_5, ← ha] <;> rfl) rfl
      · refine ev_ss DX2_bitsFor 1 39 (pc' := 69) (lv' := [(2, .int _), (3, .int _), (6, .int _), (0, .ref _), (1, .int _), (4, .int _), (5, .int _)]) (st' := [.int 4, .int _]) rfl ?_
        refine ev_goto DX2_bitsFor 40 rfl (tgt := 73) (by decide) ?_
        refine ev_ss DX2_bitsFor 3 42 (pc' := 79) (lv' := [(5, .int _), (4, .int _), (2, .int _), (3, .int _), (6, .int _), (0, .ref _), (1, .int _)]) (st' := []) rfl ?_
        refine ev_goto DX2_bitsFor 45 rfl (tgt := 10) (by decide) ?_
        refine ev_lvp (lv2 := [(0, .ref _), (1, .int _), (2, .int _), (3, .int _), (4, .int _), (5, .int _)]) [5, 6, 2, 3, 1, 0] rfl ?_
        exact ih (i + 1) _ _ _ _ _ (by omega) (nI_1 i) tzP_s.symm hz.symm (by rw [bfT_s, tzP_s, hz, if_pos c_4, if_pos c_5, ← ha] <;> rfl) rfl
set_option maxRecDepth 100000 in
set_option maxHeartbeats 4000000 in
theorem m_X2_putBits {E : gE} {ad : Nat → Nat} {ws : va_W} {it len is : Nat} {ch : Nat → Int32} {sd bt : Int32} {se : Nat → Int32} {σ0 σ1 : WS} (hi : it + 1 < is ∨ is + 26 ≤ it) (hX : TXT E ad ws it len ch) (hS : SD E ad ws is sd bt se) (hA : WY E ad ws (is + 1) σ0) (hB : WY E ad ws (is + 13) σ1) (hc : ∀ i, i ≤ len → (pbP ch σ0.2.1 σ1.2.1 i).1.length ≤ 256 ∧ (pbP ch σ0.2.1 σ1.2.1 i).2.length ≤ 256) : C0 E YX2_putBits 0 0 [.ref (ad it), .ref (ad is)] ws (fun v w => v = none ∧ WY E ad w (is + 1) (σ0.1, (pbP ch σ0.2.1 σ1.2.1 len).1, σ0.2.2) ∧ WY E ad w (is + 13) (σ1.1, (pbP ch σ0.2.1 σ1.2.1 len).2, σ1.2.2) ∧ ∀ j, (j < is + 1 ∨ is + 25 ≤ j) → w[j]? = ws[j]?) := by
  obtain ⟨hlen, h1, g, h2, h3⟩ := id hX
  refine c0V vX2_putBits (Nat.le_of_ble_eq_true rfl) (lv0 := [(0, .ref (ad it)), (1, .ref (ad is))]) rfl ?_
  suffices K : ∀ (m i : Nat) (x p wn : Int32) (w : va_W) (lv9 : List (Nat × Value)), i + m = len → x = nI i → p = tzP ch i → wn = wnP ch i → WY E ad w (is + 1) (σ0.1, (pbP ch σ0.2.1 σ1.2.1 i).1, σ0.2.2) → WY E ad w (is + 13) (σ1.1, (pbP ch σ0.2.1 σ1.2.1 i).2, σ1.2.2) → (∀ j, (j < is + 1 ∨ is + 25 ≤ j) → w[j]? = ws[j]?) → lv9 = [(0, .ref (ad it)), (1, .ref (ad is)), (2, .int p), (3, .int wn), (4, .int x)] →
      Ev E YX2_putBits (fun v w => v = none ∧ WY E ad w (is + 1) (σ0.1, (pbP ch σ0.2.1 σ1.2.1 len).1, σ0.2.2) ∧ WY E ad w (is + 13) (σ1.1, (pbP ch σ0.2.1 σ1.2.1 len).2, σ1.2.2) ∧ ∀ j, (j < is + 1 ∨ is + 25 ≤ j) → w[j]? = ws[j]?) nX 0 0 7 lv9 [] w by
    refine ev_ss DX2_putBits 6 0 (pc' := 7) (lv' := [(4, .int 0), (3, .int 0), (2, .int 0), (0, .ref _), (1, .ref _)]) (st' := []) rfl ?_
    refine ev_lvp (lv2 := [(0, .ref _), (1, .ref _), (2, .int _), (3, .int _), (4, .int _)]) [3, 4, 2, 1, 0] rfl ?_
    exact K len 0 _ _ _ ws _ (Nat.zero_add len) nI_0.symm rfl rfl hA hB (fun j a => rfl) rfl
  intro m
  induction m with
  | zero =>
    intro i x p wn w lv9 hm hx hp hw hA2 hB2 hO hv
    obtain rfl : i = len := by omega
    subst hx; subst hv; subst hp
    have k1 := (hO it (by omega)).trans h1
    refine ev_ss DX2_putBits 2 6 (pc' := 10) (lv' := [(0, .ref _), (1, .ref _), (2, .int _), (3, .int _), (4, .int _)]) (st' := [.ref _, .int _]) rfl ?_
    refine ev_get DX2_putBits 8 GX2 rfl (k0 := 1) (Nat.le_of_ble_eq_true rfl) fX2_22 k1 rfl ?_
    refine ev_icge DX2_putBits 9 rfl (tgt := 80) (by decide) (fun _ => ?_) (fun h => h.elim (nI_le (Nat.le_refl _) (by omega)))
    exact ev_vret DX2_putBits 42 rfl rfl ⟨rfl, hA2, hB2, hO⟩
  | succ m ih =>
    intro i x p wn w lv9 hm hx hp hw hA2 hB2 hO hv
    subst hx; subst hv; subst hp
    have k1 := (hO it (by omega)).trans h1
    have k2 := (hO (it + 1) (by omega)).trans h2
    have hS2 : SD E ad w is sd bt se := hS.of (hO is (by omega)) (hO (is + 25) (by omega))
    have hcc := hc (i + 1) (by omega)
    rw [pbP_s] at hcc
    have hg := h3 i (by omega)
    refine ev_ss DX2_putBits 2 6 (pc' := 10) (lv' := [(0, .ref _), (1, .ref _), (2, .int _), (3, .int _), (4, .int _)]) (st' := [.ref _, .int _]) rfl ?_
    refine ev_get DX2_putBits 8 GX2 rfl (k0 := 1) (Nat.le_of_ble_eq_true rfl) fX2_22 k1 rfl ?_
    refine ev_icge DX2_putBits 9 rfl (tgt := 80) (by decide) (fun h => absurd h (nI_ge (b := len) (by omega) (by omega))) (fun _ => ?_)
    refine ev_ss DX2_putBits 2 10 (pc' := 20) (lv' := [(0, .ref _), (1, .ref _), (2, .int _), (3, .int _), (4, .int _)]) (st' := [.int 60, .int _]) rfl ?_
    refine ev_icge DX2_putBits 12 rfl (tgt := 80) (by decide) (fun h => absurd h (nI_ge (b := 60) (by omega) (by decide))) (fun _ => ?_)
    refine ev_ss DX2_putBits 1 13 (pc' := 24) (lv' := [(0, .ref _), (1, .ref _), (2, .int _), (3, .int _), (4, .int _)]) (st' := [.ref _]) rfl ?_
    refine ev_get DX2_putBits 14 GX2 rfl (k0 := 0) (Nat.le_of_ble_eq_true rfl) fX2_9 k1 rfl ?_
    refine ev_ss DX2_putBits 1 15 (pc' := 29) (lv' := [(0, .ref _), (1, .ref _), (2, .int _), (3, .int _), (4, .int _)]) (st' := [.int _, .ref _]) rfl ?_
    refine ev_cald DX2_putBits 16 rfl k2 (vp_in_nI (by omega) (by decide)) ?_
    rw [nI_clamp (by omega), hg]
    suffices J : ∀ z : Int32, wnP ch (i + 1) = z → Ev E YX2_putBits (fun v w => v = none ∧ WY E ad w (is + 1) (σ0.1, (pbP ch σ0.2.1 σ1.2.1 len).1, σ0.2.2) ∧ WY E ad w (is + 13) (σ1.1, (pbP ch σ0.2.1 σ1.2.1 len).2, σ1.2.2) ∧ ∀ j, (j < is + 1 ∨ is + 25 ≤ j) → w[j]? = ws[j]?) nX 0 0 45 [(5, .int (ch i)), (0, .ref (ad it)), (1, .ref (ad is)), (2, .int (tzP ch i)), (3, .int wn), (4, .int (nI i))] [.int z] w by
      refine ev_ss DX2_putBits 2 17 (pc' := 33) (lv' := [(5, .int _), (0, .ref _), (1, .ref _), (2, .int _), (3, .int _), (4, .int _)]) (st' := [.int _]) rfl ?_
      refine ev_ifne DX2_putBits 19 rfl (tgt := 44) (by decide) (fun c_3 => ?_) (fun c_3 => ?_)
      · refine ev_ss DX2_putBits 1 24 (pc' := 45) (lv' := [(5, .int _), (0, .ref _), (1, .ref _), (2, .int _), (3, .int _), (4, .int _)]) (st' := [.int _]) rfl ?_
        exact J _ (by rw [wnP_s, if_neg c_3]; exact hw.symm)
      · refine ev_ss DX2_putBits 3 20 (pc' := 41) (lv' := [(5, .int _), (0, .ref _), (1, .ref _), (2, .int _), (3, .int _), (4, .int _)]) (st' := [.int _]) rfl ?_
        refine ev_goto DX2_putBits 23 rfl (tgt := 45) (by decide) ?_
        exact J _ (by rw [wnP_s, if_pos c_3]; rfl)
    intro z hz
    refine ev_ss DX2_putBits 3 25 (pc' := 49) (lv' := [(3, .int _), (5, .int _), (0, .ref _), (1, .ref _), (2, .int _), (4, .int _)]) (st' := [.int _, .int _]) rfl ?_
    refine ev_cS DX2_putBits 28 (m_X2_next (tzP_5 ch i)) vX2_next rfl qX2_26 rfl (hd_of rfl rfl rfl rfl) ?_
    refine ev_ss DX2_putBits 3 29 (pc' := 55) (lv' := [(2, .int _), (3, .int _), (5, .int _), (0, .ref _), (1, .ref _), (4, .int _)]) (st' := [.int 3, .int _]) rfl ?_
    refine ev_icne DX2_putBits 32 rfl (tgt := 74) (by decide) (fun c_4 => ?_) (fun c_4 => ?_)
    · refine ev_ss DX2_putBits 1 40 (pc' := 77) (lv' := [(4, .int _), (2, .int _), (3, .int _), (5, .int _), (0, .ref _), (1, .ref _)]) (st' := []) rfl ?_
      refine ev_goto DX2_putBits 41 rfl (tgt := 7) (by decide) ?_
      refine ev_lvp (lv2 := [(0, .ref _), (1, .ref _), (2, .int _), (3, .int _), (4, .int _)]) [4, 5, 1, 2, 0] rfl ?_
      exact ih (i + 1) _ _ _ w _ (by omega) (nI_1 i) tzP_s.symm hz.symm (by have e := pbP_s (ch := ch) (b0 := σ0.2.1) (b1 := σ1.2.1) (n := i); rw [if_neg (show ¬ tzP ch (i + 1) = 3 from c_4)] at e; rw [e]; exact hA2) (by have e := pbP_s (ch := ch) (b0 := σ0.2.1) (b1 := σ1.2.1) (n := i); rw [if_neg (show ¬ tzP ch (i + 1) = 3 from c_4)] at e; rw [e]; exact hB2) hO rfl
    · have hz3 : tzP ch (i + 1) = 3 := c_4
      rw [if_pos hz3] at hcc
      rcases wnP_01 ch (i + 1) (by rw [hz3]; decide) (by rw [hz3]; decide) with h01 | h01
      · rw [if_pos h01] at hcc
        obtain rfl : z = 0 := hz.symm.trans h01
        obtain ⟨st, sz, r, a1, a2, a3, a4, a5, a6⟩ := id hA2
        refine ev_ss DX2_putBits 2 33 (pc' := 60) (lv' := [(2, .int _), (3, .int _), (5, .int _), (0, .ref _), (1, .ref _), (4, .int _)]) (st' := [.int _, .ref _]) rfl ?_
        refine ev_cV DX2_putBits 35 (m_X1_wayAt_0 hS2.1) vX1_wayAt rfl qX2_30 rfl hS2.1 rfl (hd_of rfl rfl rfl rfl) ?_
        refine ev_get DX2_putBits 36 GX5 rfl (k0 := 1) (Nat.le_of_ble_eq_true rfl) fX2_36 a1 rfl ?_
        refine ev_ss DX2_putBits 1 37 (pc' := 68) (lv' := [(2, .int _), (3, .int _), (5, .int _), (0, .ref _), (1, .ref _), (4, .int _)]) (st' := [.int _, .ref _]) rfl ?_
        refine ev_cS DX2_putBits 38 m_X2_digitOf vX2_digitOf rfl qX2_19 rfl (hd_of rfl rfl rfl rfl) ?_
        refine ev_rV DX2_putBits 39 (m_X4_putDigit (dg := dgP (ch i)) a3 a4 a5 (by show (pbP ch σ0.2.1 σ1.2.1 i).1.length + 4 ≤ 256; have := hcc.1; simp [dg4] at this; omega)) vX4_putDigit rfl qX2_42 rfl a3 rfl (hd_of rfl rfl rfl rfl) (fun v w9 hvw => ?_)
        obtain ⟨rfl, r2, sz2, hq2, hw9⟩ := hvw
        have hW9 : WY E ad w9 (is + 1) (σ0.1, (pbP ch σ0.2.1 σ1.2.1 i).1 ++ dg4 (dgP (ch i)), σ0.2.2) := by rw [hw9]; exact ⟨st, sz2, r2, by unfold hW; exact wset_n (wset_n a1 (by omega)) (by omega), by unfold hW; exact wset_n (wset_n a2 (by omega)) (by omega), by unfold hW; exact wset_get (wset_n a3 (by omega)), by unfold hW; exact wset_n (wset_get a4) (by omega), hq2, fun t ht => by unfold hW; exact wset_n (wset_n (a6 t ht) (by omega)) (by omega)⟩
        have hO9 : ∀ j, (j < is + 1 ∨ is + 1 + 12 ≤ j) → w9[j]? = w[j]? := by rw [hw9]; intro j a; unfold hW; rw [List.getElem?_set_ne (by omega), List.getElem?_set_ne (by omega)]
        have hV9 := hB2.of (w := w9) (fun j a b => hO9 j (by omega))
        refine ev_ss DX2_putBits 1 40 (pc' := 77) (lv' := [(4, .int _), (2, .int _), (3, .int _), (5, .int _), (0, .ref _), (1, .ref _)]) (st' := []) rfl ?_
        refine ev_goto DX2_putBits 41 rfl (tgt := 7) (by decide) ?_
        refine ev_lvp (lv2 := [(0, .ref _), (1, .ref _), (2, .int _), (3, .int _), (4, .int _)]) [4, 5, 1, 2, 0] rfl ?_
        exact ih (i + 1) _ _ _ w9 _ (by omega) (nI_1 i) tzP_s.symm h01.symm (by have e := pbP_s (ch := ch) (b0 := σ0.2.1) (b1 := σ1.2.1) (n := i); rw [if_pos hz3, if_pos h01] at e; rw [e]; exact hW9) (by have e := pbP_s (ch := ch) (b0 := σ0.2.1) (b1 := σ1.2.1) (n := i); rw [if_pos hz3, if_pos h01] at e; rw [e]; exact hV9) (fun j a => (hO9 j (by omega)).trans (hO j a)) rfl
      · rw [if_neg (by rw [h01]; decide)] at hcc
        obtain rfl : z = 1 := hz.symm.trans h01
        obtain ⟨st, sz, r, a1, a2, a3, a4, a5, a6⟩ := id hB2
        refine ev_ss DX2_putBits 2 33 (pc' := 60) (lv' := [(2, .int _), (3, .int _), (5, .int _), (0, .ref _), (1, .ref _), (4, .int _)]) (st' := [.int _, .ref _]) rfl ?_
        refine ev_cV DX2_putBits 35 (m_X1_wayAt_1 hS2.1) vX1_wayAt rfl qX2_30 rfl hS2.1 rfl (hd_of rfl rfl rfl rfl) ?_
        refine ev_get DX2_putBits 36 GX5 rfl (k0 := 1) (Nat.le_of_ble_eq_true rfl) fX2_36 a1 rfl ?_
        refine ev_ss DX2_putBits 1 37 (pc' := 68) (lv' := [(2, .int _), (3, .int _), (5, .int _), (0, .ref _), (1, .ref _), (4, .int _)]) (st' := [.int _, .ref _]) rfl ?_
        refine ev_cS DX2_putBits 38 m_X2_digitOf vX2_digitOf rfl qX2_19 rfl (hd_of rfl rfl rfl rfl) ?_
        refine ev_rV DX2_putBits 39 (m_X4_putDigit (dg := dgP (ch i)) a3 a4 a5 (by show (pbP ch σ0.2.1 σ1.2.1 i).2.length + 4 ≤ 256; have := hcc.2; simp [dg4] at this; omega)) vX4_putDigit rfl qX2_42 rfl a3 rfl (hd_of rfl rfl rfl rfl) (fun v w9 hvw => ?_)
        obtain ⟨rfl, r2, sz2, hq2, hw9⟩ := hvw
        have hW9 : WY E ad w9 (is + 13) (σ1.1, (pbP ch σ0.2.1 σ1.2.1 i).2 ++ dg4 (dgP (ch i)), σ1.2.2) := by rw [hw9]; exact ⟨st, sz2, r2, by unfold hW; exact wset_n (wset_n a1 (by omega)) (by omega), by unfold hW; exact wset_n (wset_n a2 (by omega)) (by omega), by unfold hW; exact wset_get (wset_n a3 (by omega)), by unfold hW; exact wset_n (wset_get a4) (by omega), hq2, fun t ht => by unfold hW; exact wset_n (wset_n (a6 t ht) (by omega)) (by omega)⟩
        have hO9 : ∀ j, (j < is + 13 ∨ is + 13 + 12 ≤ j) → w9[j]? = w[j]? := by rw [hw9]; intro j a; unfold hW; rw [List.getElem?_set_ne (by omega), List.getElem?_set_ne (by omega)]
        have hV9 := hA2.of (w := w9) (fun j a b => hO9 j (by omega))
        refine ev_ss DX2_putBits 1 40 (pc' := 77) (lv' := [(4, .int _), (2, .int _), (3, .int _), (5, .int _), (0, .ref _), (1, .ref _)]) (st' := []) rfl ?_
        refine ev_goto DX2_putBits 41 rfl (tgt := 7) (by decide) ?_
        refine ev_lvp (lv2 := [(0, .ref _), (1, .ref _), (2, .int _), (3, .int _), (4, .int _)]) [4, 5, 1, 2, 0] rfl ?_
        exact ih (i + 1) _ _ _ w9 _ (by omega) (nI_1 i) tzP_s.symm h01.symm (by have e := pbP_s (ch := ch) (b0 := σ0.2.1) (b1 := σ1.2.1) (n := i); rw [if_pos hz3, if_neg (by rw [h01]; decide)] at e; rw [e]; exact hV9) (by have e := pbP_s (ch := ch) (b0 := σ0.2.1) (b1 := σ1.2.1) (n := i); rw [if_pos hz3, if_neg (by rw [h01]; decide)] at e; rw [e]; exact hW9) (fun j a => (hO9 j (by omega)).trans (hO j a)) rfl
end
section
theorem app_o {ws l : va_W} {q : Nat} {x : Nat × va_E} (h : ws[q]? = some x) : (ws ++ l)[q]? = some x := by
  have h1 := (List.getElem?_eq_some_iff.mp h).1
  rw [List.getElem?_append_left h1]
  exact h
theorem app_k {ws l : va_W} {q : Nat} (h : q < ws.length) : (ws ++ l)[q]? = ws[q]? := List.getElem?_append_left h
theorem app_last {ws : va_W} {x : Nat × va_E} : (ws ++ [x])[ws.length]? = some x := by
  rw [List.getElem?_append_right (Nat.le_refl _), Nat.sub_self]
  rfl
theorem app_at {ws : va_W} {x : Nat × va_E} {q : Nat} (h : ws.length = q) : (ws ++ [x])[q]? = some x := by
  subst h
  exact app_last
/-- the addresses of a list of cells -/
def adW (ws : va_W) (j : Nat) : Nat := match ws[j]? with
  | some x => x.1
  | none => 0
theorem adW_of {ws : va_W} {j a : Nat} {v : va_E} (h : ws[j]? = some (a, v)) : adW ws j = a := by
  unfold adW
  rw [h]
theorem adW_eq {ws w : va_W} {j : Nat} (h : w[j]? = ws[j]?) : adW w j = adW ws j := by
  unfold adW
  rw [h]
theorem adW_set {ws : va_W} {q a : Nat} {v v2 : va_E} (h : ws[q]? = some (a, v)) : adW (ws.set q (a, v2)) = adW ws := by
  funext j
  by_cases e : q = j
  · subst e
    rw [adW_of h, adW_of (wset_get h)]
  · exact adW_eq (List.getElem?_set_ne e)
theorem ev_cellq {E : gE} {Y : MI} {Pr : Option Value → va_W → Prop} {Px : String → va_W → Prop} {k n pc : Nat} {lv : List (Nat × Value)} {st : List Value} {ws : va_W} {q a N : Nat} {cA : ClassId} {f g : Nat → Option Nat} (he : ws[q]? = some (a, .inl (cA, N, .inr (.inr (.inr (.inr f)))))) (hfg : ∀ j, j < N → f j = g j) (kt : Ev E Y Pr Px k n pc lv st (ws.set q (a, .inl (cA, N, .inr (.inr (.inr (.inr g))))))) : Ev E Y Pr Px k n pc lv st ws := by
  intro p e R s m args below meth c H locs cells slots ls hC hl hS hP hc hn
  refine kt p e R s m args below meth c H locs cells slots ls hC hl hS ⟨?_, ?_⟩ hc hn
  · intro k2 q2 h2
    by_cases e : q = k2
    · subst e
      rw [wset_get he] at h2
      cases h2
      have h3 := hP.1 q _ he
      have e3 : vp_cell cA (N, .inr (.inr (.inr (.inr f)))) = vp_cell cA (N, .inr (.inr (.inr (.inr g)))) := by
        show arrV cA N (fun j => va_rf (f j)) = arrV cA N (fun j => va_rf (g j))
        unfold arrV
        congr 1
        exact congrArg Array.ofFn (funext fun j => congrArg va_rf (hfg j.1 j.2))
      show H[a]? = some (vp_cell cA (N, .inr (.inr (.inr (.inr g)))))
      rw [← e3]
      exact h3
    · rw [List.getElem?_set_ne e] at h2
      exact hP.1 k2 q2 h2
  · have key : ∀ (i : Nat) (x : Nat × va_E), (ws.set q (a, Sum.inl (cA, N, .inr (.inr (.inr (.inr g))))))[i]? = some x → ∃ y : Nat × va_E, ws[i]? = some y ∧ y.1 = x.1 := by
      intro i x hx
      by_cases e : q = i
      · subst e
        rw [wset_get he] at hx
        cases hx
        exact ⟨_, he, rfl⟩
      · rw [List.getElem?_set_ne e] at hx
        exact ⟨x, hx, rfl⟩
    refine ⟨fun i j x y hx hy hxy => ?_, fun i x hx => ?_⟩
    · obtain ⟨x2, h1, h2⟩ := key i x hx
      obtain ⟨y2, h3, h4⟩ := key j y hy
      exact hP.2.1 i j x2 y2 h1 h3 (by rw [h2, h4, hxy])
    · obtain ⟨x2, h1, h2⟩ := key i x hx
      rw [← h2]
      exact hP.2.2 i x2 h1
theorem WY.mv {E : gE} {ws w : va_W} {iw : Nat} {σ : WS} (h : WY E (adW ws) ws iw σ) (hq : ∀ j, iw ≤ j → j < iw + 12 → w[j]? = ws[j]?) : WY E (adW w) w iw σ := by
  obtain ⟨st, sz, r, h1, h2, h3, h4, h5, h6⟩ := h
  have ha : ∀ j, iw ≤ j → j < iw + 12 → adW w j = adW ws j := fun j a b => adW_eq (hq j a b)
  refine ⟨st, sz, r, ?_, ?_, ?_, ?_, h5, fun t ht => ?_⟩
  · rw [hq _ (by omega) (by omega), ha _ (by omega) (by omega), ha _ (by omega) (by omega), ha _ (by omega) (by omega)]; exact h1
  · rw [hq _ (by omega) (by omega), ha _ (by omega) (by omega), show arT (adW w) iw = arT (adW ws) iw from funext fun t => by unfold arT; split; exact congrArg some (ha _ (by omega) (by omega)); rfl]; exact h2
  · rw [hq _ (by omega) (by omega), ha _ (by omega) (by omega), ha _ (by omega) (by omega)]; exact h3
  · rw [hq _ (by omega) (by omega), ha _ (by omega) (by omega)]; exact h4
  · rw [hq _ (by omega) (by omega), ha _ (by omega) (by omega)]; exact h6 t ht
theorem ev_rIN {E : gE} {Y Y2 : MI} {Pr : Option Value → va_W → Prop} {Px : String → va_W → Prop} {P : va_W → Prop} {k n k1 k2 n1 n2 pc np : Nat} {lv : List (Nat × Value)} {st stk As : List Value} {ws : va_W} {L : LI} (D : Lst Y L) (i : Nat) {idx b : Nat} (hM : C0 E Y2 k1 n1 (.ref b :: As) ws (fun v w => v = none ∧ P w)) (hv : mVi Y2 np) (hi : L[i]? = some (pc, .invokespecial idx, 3)) (hl : ((mnm Y).cls, idx, mnm Y2) ∈ gNest) (hst : stk = As.reverse ++ .ref b :: st) (hin : (mnm Y2).name = "<init>") (hrt : mrt Y2 = none) (hd : mdp Y2 + 1 ≤ mdp Y ∧ mml Y2 ≤ 18 ∧ As.length = np ∧ (st.map fun v => v.category).sum ≤ 8) (hk : k1 + k2 ≤ k) (hn2 : n1 + n2 ≤ n) (kt : ∀ w : va_W, P w → Ev E Y Pr Px k2 n2 (pc + 3) lv st w) : Ev E Y Pr Px k n pc lv stk ws :=
  ev_callIN D i hv hin hrt hi hl hd.1 hd.2.1 hd.2.2.1 hd.2.2.2 hst hk hn2 hM (fun v w h => by obtain ⟨rfl, h2⟩ := h; exact kt w h2)
theorem ev_rI {E : gE} {Y Y2 : MI} {Pr : Option Value → va_W → Prop} {Px : String → va_W → Prop} {P : va_W → Prop} {k n k1 k2 n1 n2 pc np : Nat} {lv : List (Nat × Value)} {st stk As : List Value} {ws : va_W} {L : LI} (D : Lst Y L) (i : Nat) {idx b : Nat} (hM : C0 E Y2 k1 n1 (.ref b :: As) ws (fun v w => v = none ∧ P w)) (hv : mVi Y2 np) (hi : L[i]? = some (pc, .invokespecial idx, 3)) (hl : gw (.methodLink (mnm Y).cls idx (mnm Y2))) (hst : stk = As.reverse ++ .ref b :: st) (hin : (mnm Y2).name = "<init>") (hrt : mrt Y2 = none) (hd : mdp Y2 + 1 ≤ mdp Y ∧ mml Y2 ≤ 18 ∧ As.length = np ∧ (st.map fun v => v.category).sum ≤ 8) (hk : k1 + k2 ≤ k) (hn2 : n1 + n2 ≤ n) (kt : ∀ w : va_W, P w → Ev E Y Pr Px k2 n2 (pc + 3) lv st w) : Ev E Y Pr Px k n pc lv stk ws :=
  ev_callI D i hv hin hrt hi hl hd.1 hd.2.1 hd.2.2.1 hd.2.2.2 hst hk hn2 hM (fun v w h => by obtain ⟨rfl, h2⟩ := h; exact kt w h2)
set_option maxRecDepth 100000 in
set_option maxHeartbeats 4000000 in
theorem m_X4_init {E : gE} {ws : va_W} {q a : Nat} (h : ws[q]? = some (a, .inr (4, [.null, .int 0, .int 0]))) : C0 E YX4_init 1 256 [.ref a] ws (fun v w => v = none ∧ ∃ ar, w = (ws ++ [(ar, iaC E 256 (fun _ => 0))]).set q (a, waitC ar 0 0)) := by
  refine c0I vX4_init (Nat.le_of_ble_eq_true rfl) (lv0 := [(0, .ref a)]) rfl ?_
  refine ev_ss DX4_init 1 0 (pc' := 1) (lv' := [(0, .ref _)]) (st' := [.ref _]) rfl ?_
  refine ev_objI DX4_init 1 rfl qX4_3 (Nat.le_of_ble_eq_true rfl) (Nat.le_of_ble_eq_true rfl) ?_
  refine ev_ss DX4_init 2 2 (pc' := 8) (lv' := [(0, .ref _)]) (st' := [.int 256, .ref _]) rfl ?_
  refine ev_newa DX4_init 4 (k := 0) (n := 0) (t0 := 0) (a0 := (256, .inl (fun _ => 0))) rfl rfl arc_int rfl (fun _ _ h => h) (fun _ => rfl) (by decide) (N := 256) (by decide) (Nat.le_of_ble_eq_true rfl) (fun x_1 => ?_)
  refine ev_putF (fs' := [_, _, _]) DX4_init 5 GX4 rfl (k0 := 0) (Nat.le_of_ble_eq_true rfl) fX4_9 rfl rfl rfl ⟨rfl, rfl⟩ (app_o h) (Nat.le_of_ble_eq_true rfl) rfl rfl ?_
  exact ev_vret DX4_init 6 rfl rfl ⟨rfl, x_1, rfl⟩
set_option maxRecDepth 100000 in
set_option maxHeartbeats 4000000 in
theorem m_X0_init {E : gE} {ws : va_W} {q a : Nat} (h : ws[q]? = some (a, .inr (0, [.null, .int 0]))) : C0 E YX0_init 1 64 [.ref a] ws (fun v w => v = none ∧ ∃ ar, w = (ws ++ [(ar, iaC E 64 (fun _ => 0))]).set q (a, lesC ar 0)) := by
  refine c0I vX0_init (Nat.le_of_ble_eq_true rfl) (lv0 := [(0, .ref a)]) rfl ?_
  refine ev_ss DX0_init 1 0 (pc' := 1) (lv' := [(0, .ref _)]) (st' := [.ref _]) rfl ?_
  refine ev_objI DX0_init 1 rfl qX0_3 (Nat.le_of_ble_eq_true rfl) (Nat.le_of_ble_eq_true rfl) ?_
  refine ev_ss DX0_init 2 2 (pc' := 7) (lv' := [(0, .ref _)]) (st' := [.int 64, .ref _]) rfl ?_
  refine ev_newa DX0_init 4 (k := 0) (n := 0) (t0 := 0) (a0 := (64, .inl (fun _ => 0))) rfl rfl arc_int rfl (fun _ _ h => h) (fun _ => rfl) (by decide) (N := 64) (by decide) (Nat.le_of_ble_eq_true rfl) (fun x_1 => ?_)
  refine ev_putF (fs' := [_, _]) DX0_init 5 GX0 rfl (k0 := 0) (Nat.le_of_ble_eq_true rfl) fX0_9 rfl rfl rfl ⟨rfl, rfl⟩ (app_o h) (Nat.le_of_ble_eq_true rfl) rfl rfl ?_
  exact ev_vret DX0_init 6 rfl rfl ⟨rfl, x_1, rfl⟩
set_option maxRecDepth 100000 in
set_option maxHeartbeats 4000000 in
theorem m_X2_init {E : gE} {ws : va_W} {q a : Nat} (h : ws[q]? = some (a, .inr (2, [.null, .int 0]))) : C0 E YX2_init 1 60 [.ref a] ws (fun v w => v = none ∧ ∃ ar, w = (ws ++ [(ar, chA E (fun _ => 0))]).set q (a, txC ar 0)) := by
  refine c0I vX2_init (Nat.le_of_ble_eq_true rfl) (lv0 := [(0, .ref a)]) rfl ?_
  refine ev_ss DX2_init 1 0 (pc' := 1) (lv' := [(0, .ref _)]) (st' := [.ref _]) rfl ?_
  refine ev_objI DX2_init 1 rfl qX2_3 (Nat.le_of_ble_eq_true rfl) (Nat.le_of_ble_eq_true rfl) ?_
  refine ev_ss DX2_init 2 2 (pc' := 7) (lv' := [(0, .ref _)]) (st' := [.int 60, .ref _]) rfl ?_
  refine ev_newa DX2_init 4 (k := 0) (n := 0) (t0 := 2) (a0 := (60, .inl (fun _ => 0))) rfl rfl arc_char rfl (fun _ _ h => h) (fun _ => rfl) (by decide) (N := 60) (by decide) (Nat.le_of_ble_eq_true rfl) (fun x_1 => ?_)
  refine ev_putF (fs' := [_, _]) DX2_init 5 GX2 rfl (k0 := 0) (Nat.le_of_ble_eq_true rfl) fX2_9 rfl rfl rfl ⟨rfl, rfl⟩ (app_o h) (Nat.le_of_ble_eq_true rfl) rfl rfl ?_
  exact ev_vret DX2_init 6 rfl rfl ⟨rfl, x_1, rfl⟩
def nt0 : TF := fun j => if j = 0 then 64 else if j = 7 then 64 else if j = 11 then -1 else 0
def w0S : WS := (fun _ => nt0, [], 0, 0, 0)
def se0 : Nat → Int32 := fun j => if j = 2 then 3 else 8
set_option maxRecDepth 100000 in
set_option maxHeartbeats 4000000 in
theorem m_X3_init {E : gE} {ws : va_W} {q a : Nat} (h : ws[q]? = some (a, .inr (3, [.int 0, .int 0, .int 0, .int 0, .int 0, .int 0, .int 0, .int 0, .int 0, .int 0, .int 0, .int 0, .int 0, .int 0, .int 0, .int 0, .int 0, .int 0]))) : C0 E YX3_init 0 0 [.ref a] ws (fun v w => v = none ∧ w = ws.set q (a, toneC nt0)) := by
  refine c0I vX3_init (Nat.le_of_ble_eq_true rfl) (lv0 := [(0, .ref a)]) rfl ?_
  refine ev_ss DX3_init 1 0 (pc' := 1) (lv' := [(0, .ref _)]) (st' := [.ref _]) rfl ?_
  refine ev_objI DX3_init 1 rfl qX3_3 (Nat.le_of_ble_eq_true rfl) (Nat.le_of_ble_eq_true rfl) ?_
  refine ev_ss DX3_init 2 2 (pc' := 7) (lv' := [(0, .ref _)]) (st' := [.int 64, .ref _]) rfl ?_
  refine ev_put (fs' := [_, _, _, _, _, _, _, _, _, _, _, _, _, _, _, _, _, _]) DX3_init 4 GX3 rfl (k0 := 0) (Nat.le_of_ble_eq_true rfl) fX3_9 rfl ⟨rfl, rfl⟩ h (Nat.le_of_ble_eq_true rfl) rfl rfl ?_
  refine ev_ss DX3_init 2 5 (pc' := 13) (lv' := [(0, .ref _)]) (st' := [.int 64, .ref _]) rfl ?_
  refine ev_put (fs' := [_, _, _, _, _, _, _, _, _, _, _, _, _, _, _, _, _, _]) DX3_init 7 GX3 rfl (k0 := 7) (Nat.le_of_ble_eq_true rfl) fX3_15 rfl ⟨rfl, rfl⟩ (wset_get h) (Nat.le_of_ble_eq_true rfl) rfl wset_set ?_
  refine ev_ss DX3_init 2 8 (pc' := 18) (lv' := [(0, .ref _)]) (st' := [.int (-1), .ref _]) rfl ?_
  refine ev_put (fs' := [_, _, _, _, _, _, _, _, _, _, _, _, _, _, _, _, _, _]) DX3_init 10 GX3 rfl (k0 := 11) (Nat.le_of_ble_eq_true rfl) fX3_18 rfl ⟨rfl, rfl⟩ (wset_get h) (Nat.le_of_ble_eq_true rfl) rfl wset_set ?_
  exact ev_vret DX3_init 11 rfl rfl ⟨rfl, rfl⟩
set_option maxRecDepth 100000 in
set_option maxHeartbeats 4000000 in
theorem m_X5_init {E : gE} {ws : va_W} {q a : Nat} (hq : ws.length = q + 1) (h : ws[q]? = some (a, .inr (5, [.null, .null, .long 0, .int 0, .int 0]))) : C0 E YX5_init 11 411 [.ref a] ws (fun v w => v = none ∧ w.length = q + 12 ∧ (∀ j, j < q → w[j]? = ws[j]?) ∧ adW w q = a ∧ WY E (adW w) w q w0S) := by
  have e8 := k8e
  refine c0I vX5_init (Nat.le_of_ble_eq_true rfl) (lv0 := [(0, .ref a)]) rfl ?_
  have K : ∀ (m i : Nat) (x : Int32) (w : va_W) (f : Nat → Option Nat) (ta wt ar : Nat) (lv9 : List (Nat × Value)), i + m = k8 → x = nI i → w.length = q + 4 + i → w[q]? = some (a, wayC ta wt 0 0 0) → w[q + 1]? = some (ta, toA E f) → w[q + 2]? = some (wt, waitC ar 0 0) → w[q + 3]? = some (ar, iaC E 256 (fun _ => 0)) → (∀ t, t < i → ∃ b, f t = some b ∧ w[q + 4 + t]? = some (b, toneC nt0)) → (∀ j, j < q → w[j]? = ws[j]?) → lv9 = [(0, .ref a), (1, .int x)] →
      Ev E YX5_init (fun v w => v = none ∧ w.length = q + 12 ∧ (∀ j, j < q → w[j]? = ws[j]?) ∧ adW w q = a ∧ WY E (adW w) w q w0S) nX m (18 * m) 26 lv9 [] w := by
    intro m
    induction m with
    | zero =>
      intro i x w f ta wt ar lv9 hm hx hl k1 k2 k3 k4 k5 k6 hv
      obtain rfl : i = k8 := by omega
      subst hx; subst hv
      refine ev_ss DX5_init 2 13 (pc' := 29) (lv' := [(0, .ref _), (1, .int _)]) (st' := [.int 8, .int _]) rfl ?_
      refine ev_icge DX5_init 15 rfl (tgt := 51) (by decide) (fun _ => ?_) (fun h => h.elim (by rw [k8e]; decide))
      have hf : ∀ j, j < 8 → f j = arT (adW w) q j := fun j hj => by
        obtain ⟨b, b1, b2⟩ := k5 j (by omega)
        rw [b1, show arT (adW w) q j = some (adW w (q + 4 + j)) from if_pos hj, adW_of b2]
      refine ev_cellq k2 hf ?_
      have ea := adW_set (v2 := toA E (arT (adW w) q)) k2
      refine ev_vret DX5_init 25 rfl rfl ⟨rfl, by rw [List.length_set, hl]; omega, fun j hj => by rw [List.getElem?_set_ne (by omega)]; exact k6 j hj, by rw [ea]; exact adW_of k1, ?_⟩
      rw [ea]
      have a0 := adW_of k1
      have a1 := adW_of k2
      have a2 := adW_of k3
      have a3 := adW_of k4
      refine ⟨0, 0, _, wset_n (by rw [a0, a1, a2]; exact k1) (by omega), by rw [a1]; exact wset_get k2, wset_n (by rw [a2, a3]; exact k3) (by omega), wset_n (by rw [a3]; exact k4) (by omega), ⟨0, by decide, rfl, rfl, by decide, fun p hp => absurd hp (Nat.not_lt_zero p)⟩, fun t ht => wset_n ?_ (by omega)⟩
      obtain ⟨b, b1, b2⟩ := k5 t (by omega)
      rw [adW_of b2]
      exact b2
    | succ m ih =>
      intro i x w f ta wt ar lv9 hm hx hl k1 k2 k3 k4 k5 k6 hv
      subst hx; subst hv
      have ei : (nI i).toNatClampNeg = i := nI_clamp (by omega)
      refine ev_ss DX5_init 2 13 (pc' := 29) (lv' := [(0, .ref _), (1, .int _)]) (st' := [.int 8, .int _]) rfl ?_
      refine ev_icge DX5_init 15 rfl (tgt := 51) (by decide) (fun h => absurd h (nI_ge (b := 8) (by omega) (by decide))) (fun _ => ?_)
      refine ev_ss DX5_init 1 16 (pc' := 33) (lv' := [(0, .ref _), (1, .int _)]) (st' := [.ref _]) rfl ?_
      refine ev_get DX5_init 17 GX5 rfl (k0 := 0) (Nat.le_of_ble_eq_true rfl) fX5_11 k1 rfl ?_
      refine ev_ss DX5_init 1 18 (pc' := 37) (lv' := [(0, .ref _), (1, .int _)]) (st' := [.int _, .ref _]) rfl ?_
      refine ev_new DX5_init 19 (k := m) (n := 18 * m) (fs := [.int 0, .int 0, .int 0, .int 0, .int 0, .int 0, .int 0, .int 0, .int 0, .int 0, .int 0, .int 0, .int 0, .int 0, .int 0, .int 0, .int 0, .int 0]) GX3 rfl nX5_9 insX3 iniX3 (by decide) (fun x_1 => ?_)
      refine ev_ss DX5_init 1 20 (pc' := 41) (lv' := [(0, .ref _), (1, .int _)]) (st' := [.ref _, .ref _, .int _, .ref _]) rfl ?_
      refine ev_rIN DX5_init 21 (k1 := 0) (n1 := 0) (k2 := m) (n2 := 18 * m) (m_X3_init app_last) vX3_init rfl (by decide) rfl rfl rfl (hd_of rfl rfl rfl rfl) (Nat.le_of_eq (Nat.zero_add _)) (Nat.le_of_eq (Nat.zero_add _)) (fun w9 hw9 => ?_)
      subst hw9
      refine ev_aast4 DX5_init 22 rfl (wset_n (app_o k2) (by omega)) (wset_get app_last) (vp_in_nI (by omega) (by decide)) rfl ?_
      refine ev_ss DX5_init 1 23 (pc' := 48) (lv' := [(1, .int _), (0, .ref _)]) (st' := []) rfl ?_
      refine ev_goto DX5_init 24 rfl (tgt := 26) (by decide) ?_
      rw [ei]
      refine ev_lvp (lv2 := [(0, .ref _), (1, .int _)]) [1, 0] rfl ?_
      refine ih (i + 1) _ _ (va_up f i (some x_1)) ta wt ar _ (by omega) (nI_1 i) (by rw [List.length_set, List.length_set, List.length_append, hl]; rfl) (wset_n (wset_n (app_o k1) (by omega)) (by omega)) (wset_get (wset_n (app_o k2) (by omega))) (wset_n (wset_n (app_o k3) (by omega)) (by omega)) (wset_n (wset_n (app_o k4) (by omega)) (by omega)) (fun t ht => ?_) (fun j hj => by rw [List.getElem?_set_ne (by omega), List.getElem?_set_ne (by omega), app_k (by omega)]; exact k6 j hj) rfl
      by_cases e : t = i
      · subst e
        refine ⟨x_1, if_pos rfl, wset_n ?_ (by omega)⟩
        rw [← hl]
        exact wset_get app_last
      · obtain ⟨b, b1, b2⟩ := k5 t (by omega)
        exact ⟨b, (if_neg e).trans b1, wset_n (wset_n (app_o b2) (by omega)) (by omega)⟩
  refine ev_ss DX5_init 1 0 (pc' := 1) (lv' := [(0, .ref _)]) (st' := [.ref _]) rfl ?_
  refine ev_objI DX5_init 1 rfl qX5_3 (Nat.le_of_ble_eq_true rfl) (Nat.le_of_ble_eq_true rfl) ?_
  refine ev_ss DX5_init 2 2 (pc' := 7) (lv' := [(0, .ref _)]) (st' := [.int 8, .ref _]) rfl ?_
  refine ev_anew DX5_init 4 (k := 10) (n := 403) (t0 := 4) rfl nX5_9 (Or.inl rfl) rfl (by decide) (N := 8) (by decide) (Nat.le_of_ble_eq_true rfl) (fun x_1 => ?_)
  refine ev_putF (fs' := [_, _, _, _, _]) DX5_init 5 GX5 rfl (k0 := 0) (Nat.le_of_ble_eq_true rfl) fX5_11 rfl rfl rfl ⟨rfl, rfl⟩ (app_o h) (Nat.le_of_ble_eq_true rfl) rfl rfl ?_
  refine ev_ss DX5_init 1 6 (pc' := 14) (lv' := [(0, .ref _)]) (st' := [.ref _]) rfl ?_
  refine ev_new DX5_init 7 (k := 9) (n := 400) (fs := [.null, .int 0, .int 0]) GX4 rfl nX5_17 insX4 iniX4 (by decide) (fun x_2 => ?_)
  refine ev_ss DX5_init 1 8 (pc' := 18) (lv' := [(0, .ref _)]) (st' := [.ref _, .ref _, .ref _]) rfl ?_
  refine ev_rIN DX5_init 9 (k1 := 1) (n1 := 256) (k2 := 8) (n2 := 144) (m_X4_init app_last) vX4_init rfl (by decide) rfl rfl rfl (hd_of rfl rfl rfl rfl) (by decide) (by decide) (fun w9 hw9 => ?_)
  obtain ⟨ar, hw9⟩ := hw9
  have hl9 : w9.length = q + 4 := by rw [hw9]; simp [hq]
  have g0 : w9[q]? = some (a, .inr (5, [.ref x_1, .null, .long 0, .int 0, .int 0])) := by rw [hw9]; exact wset_n (app_o (app_o (wset_get (app_o h)))) (by simp [hq]; omega)
  have g1 : w9[q + 1]? = some (x_1, toA E (fun _ => none)) := by rw [hw9]; exact wset_n (app_o (app_o (wset_n (app_at hq) (by omega)))) (by simp [hq])
  have g2 : w9[q + 2]? = some (x_2, waitC ar 0 0) := by rw [hw9]; have e : ((ws ++ [(x_1, toA E (fun _ => none))]).set q (a, Sum.inr (5, [Value.ref x_1, .null, .long 0, .int 0, .int 0]))).length = q + 2 := (by simp [hq]); rw [← e]; exact wset_get (app_o app_last)
  have g3 : w9[q + 3]? = some (ar, iaC E 256 (fun _ => 0)) := by rw [hw9]; exact wset_n (app_at (by simp [hq])) (by simp [hq])
  have g4 : ∀ j, j < q → w9[j]? = ws[j]? := fun j hj => by rw [hw9, List.getElem?_set_ne (by simp [hq]; omega), app_k (by simp [hq]; omega), app_k (by simp [hq]; omega), List.getElem?_set_ne (by omega), app_k (by omega)]
  clear hw9
  refine ev_putF (fs' := [_, _, _, _, _]) DX5_init 10 GX5 rfl (k0 := 1) (Nat.le_of_ble_eq_true rfl) fX5_20 rfl rfl rfl ⟨rfl, rfl⟩ g0 (Nat.le_of_ble_eq_true rfl) rfl rfl ?_
  refine ev_ss DX5_init 2 11 (pc' := 26) (lv' := [(1, .int 0), (0, .ref _)]) (st' := []) rfl ?_
  refine ev_room (k2 := k8) (n2 := 18 * k8) (by omega) (by omega) ?_
  refine ev_lvp (lv2 := [(0, .ref _), (1, .int _)]) [1, 0] rfl ?_
  exact K k8 0 _ _ (fun _ => none) x_1 x_2 ar _ (Nat.zero_add k8) nI_0.symm (by rw [List.length_set, hl9]) (wset_get g0) (wset_n g1 (by omega)) (wset_n g2 (by omega)) (wset_n g3 (by omega)) (fun t ht => absurd ht (Nat.not_lt_zero t)) (fun j hj => by rw [List.getElem?_set_ne (by omega)]; exact g4 j hj) rfl
/-- all that undo brings back -/
abbrev PS : Type := Int32 × Int32 × (Nat → Int32) × WS × WS
def STA (E : gE) (ad : Nat → Nat) (ws : va_W) (is : Nat) (p : PS) : Prop := SD E ad ws is p.1 p.2.1 p.2.2.1 ∧ WY E ad ws (is + 1) p.2.2.2.1 ∧ WY E ad ws (is + 13) p.2.2.2.2
def ps0 : PS := (1, 0, se0, w0S, w0S)
theorem SD.mv {E : gE} {ws w : va_W} {is : Nat} {sd bt : Int32} {se : Nat → Int32} (h : SD E (adW ws) ws is sd bt se) (hq : ∀ j, is ≤ j → j < is + 26 → w[j]? = ws[j]?) : SD E (adW w) w is sd bt se := by
  obtain ⟨h1, g, h2, h3⟩ := h
  have ha : ∀ j, is ≤ j → j < is + 26 → adW w j = adW ws j := fun j a b => adW_eq (hq j a b)
  refine ⟨?_, g, ?_, h3⟩
  · rw [hq _ (by omega) (by omega), ha _ (by omega) (by omega), ha _ (by omega) (by omega), ha _ (by omega) (by omega), ha _ (by omega) (by omega)]; exact h1
  · rw [hq _ (by omega) (by omega), ha _ (by omega) (by omega)]; exact h2
theorem STA.mv {E : gE} {ws w : va_W} {is : Nat} {p : PS} (h : STA E (adW ws) ws is p) (hq : ∀ j, is ≤ j → j < is + 26 → w[j]? = ws[j]?) : STA E (adW w) w is p :=
  ⟨h.1.mv hq, h.2.1.mv (fun j a b => hq j (by omega) (by omega)), h.2.2.mv (fun j a b => hq j (by omega) (by omega))⟩
theorem STA.of {E : gE} {ad : Nat → Nat} {ws w : va_W} {is : Nat} {p : PS} (h : STA E ad ws is p) (hq : ∀ j, is ≤ j → j < is + 26 → w[j]? = ws[j]?) : STA E ad w is p :=
  ⟨h.1.of (hq _ (by omega) (by omega)) (hq _ (by omega) (by omega)), h.2.1.of (fun j a b => hq j (by omega) (by omega)), h.2.2.of (fun j a b => hq j (by omega) (by omega))⟩
theorem x1_end {E : gE} {ws w2 : va_W} {q a x1 x2 x3 : Nat} {e0 e1 : va_E} {g0 g : Nat → Int32} (l2 : w2.length = q + 25) (g2 : w2[q]? = some (a, e0)) (hg : ∀ j, j < 3 → g j = se0 j) (b1 : adW w2 (q + 1) = x1) (b2 : adW w2 (q + 13) = x2) (y1 : WY E (adW w2) w2 (q + 1) w0S) (y2 : WY E (adW w2) w2 (q + 13) w0S) (hk : ∀ j, j < q → w2[j]? = ws[j]?) :
    (none : Option Value) = none ∧ ((((w2.set q (a, e1)) ++ [(x3, iaC E 3 g0)]).set (w2.set q (a, e1)).length (x3, iaC E 3 g)).set q (a, stC x1 x2 x3 1 0)).length = q + 26 ∧ (∀ j, j < q → ((((w2.set q (a, e1)) ++ [(x3, iaC E 3 g0)]).set (w2.set q (a, e1)).length (x3, iaC E 3 g)).set q (a, stC x1 x2 x3 1 0))[j]? = ws[j]?) ∧ adW ((((w2.set q (a, e1)) ++ [(x3, iaC E 3 g0)]).set (w2.set q (a, e1)).length (x3, iaC E 3 g)).set q (a, stC x1 x2 x3 1 0)) q = a ∧ STA E (adW ((((w2.set q (a, e1)) ++ [(x3, iaC E 3 g0)]).set (w2.set q (a, e1)).length (x3, iaC E 3 g)).set q (a, stC x1 x2 x3 1 0))) ((((w2.set q (a, e1)) ++ [(x3, iaC E 3 g0)]).set (w2.set q (a, e1)).length (x3, iaC E 3 g)).set q (a, stC x1 x2 x3 1 0)) q ps0 := by
  have hl : (w2.set q (a, e1)).length = q + 25 := by rw [List.length_set, l2]
  rw [hl]
  have c0 : ((((w2.set q (a, e1)) ++ [(x3, iaC E 3 g0)]).set (q + 25) (x3, iaC E 3 g)).set q (a, stC x1 x2 x3 1 0))[q]? = some (a, stC x1 x2 x3 1 0) := wset_get (wset_n (app_o (wset_get g2)) (by omega))
  have c1 : ((((w2.set q (a, e1)) ++ [(x3, iaC E 3 g0)]).set (q + 25) (x3, iaC E 3 g)).set q (a, stC x1 x2 x3 1 0))[q + 25]? = some (x3, iaC E 3 g) := wset_n (wset_get (app_at hl)) (by omega)
  have ck : ∀ j, j ≠ q → j < q + 25 → ((((w2.set q (a, e1)) ++ [(x3, iaC E 3 g0)]).set (q + 25) (x3, iaC E 3 g)).set q (a, stC x1 x2 x3 1 0))[j]? = w2[j]? := fun j h1 h2 => by
    rw [List.getElem?_set_ne (Ne.symm h1), List.getElem?_set_ne (by omega), app_k (by rw [hl]; exact h2), List.getElem?_set_ne (Ne.symm h1)]
  have cl : ((((w2.set q (a, e1)) ++ [(x3, iaC E 3 g0)]).set (q + 25) (x3, iaC E 3 g)).set q (a, stC x1 x2 x3 1 0)).length = q + 26 := by simp [l2]
  generalize ((((w2.set q (a, e1)) ++ [(x3, iaC E 3 g0)]).set (q + 25) (x3, iaC E 3 g)).set q (a, stC x1 x2 x3 1 0)) = W at *
  refine ⟨rfl, cl, fun j hj => (ck j (by omega) (by omega)).trans (hk j hj), adW_of c0, ⟨?_, g, ?_, hg⟩, y1.mv (fun j h1 h2 => ck j (by omega) (by omega)), y2.mv (fun j h1 h2 => ck j (by omega) (by omega))⟩
  · rw [adW_of c0, adW_of c1, adW_eq (ck (q + 1) (by omega) (by omega)), adW_eq (ck (q + 13) (by omega) (by omega)), b1, b2]
    exact c0
  · rw [adW_of c1]
    exact c1
set_option maxRecDepth 100000 in
set_option maxHeartbeats 4000000 in
theorem m_X1_init {E : gE} {ws : va_W} {q a : Nat} (hq : ws.length = q + 1) (h : ws[q]? = some (a, .inr (1, [.null, .null, .null, .int 0, .int 0]))) : C0 E YX1_init 25 835 [.ref a] ws (fun v w => v = none ∧ w.length = q + 26 ∧ (∀ j, j < q → w[j]? = ws[j]?) ∧ adW w q = a ∧ STA E (adW w) w q ps0) := by
  refine c0I vX1_init (Nat.le_of_ble_eq_true rfl) (lv0 := [(0, .ref a)]) rfl ?_
  refine ev_ss DX1_init 1 0 (pc' := 1) (lv' := [(0, .ref _)]) (st' := [.ref _]) rfl ?_
  refine ev_objI DX1_init 1 rfl qX1_3 (Nat.le_of_ble_eq_true rfl) (Nat.le_of_ble_eq_true rfl) ?_
  refine ev_ss DX1_init 1 2 (pc' := 5) (lv' := [(0, .ref _)]) (st' := [.ref _]) rfl ?_
  refine ev_new DX1_init 3 (k := 24) (n := 830) (fs := [.null, .null, .long 0, .int 0, .int 0]) GX5 rfl nX1_9 insX5 iniX5 (by decide) (fun x_1 => ?_)
  refine ev_ss DX1_init 1 4 (pc' := 9) (lv' := [(0, .ref _)]) (st' := [.ref _, .ref _, .ref _]) rfl ?_
  refine ev_rI DX1_init 5 (k1 := 11) (n1 := 411) (k2 := 13) (n2 := 419) (m_X5_init (q := q + 1) (by simp [hq]) (app_at hq)) vX5_init rfl qX1_11 rfl rfl rfl (hd_of rfl rfl rfl rfl) (by decide) (by decide) (fun w1 hw1 => ?_)
  obtain ⟨l1, f1, a1, y1⟩ := hw1
  have g1 : w1[q]? = some (a, .inr (1, [.null, .null, .null, .int 0, .int 0])) := by rw [f1 q (by omega)]; exact app_o h
  have e1 : ∀ j, j < q → w1[j]? = ws[j]? := fun j hj => by rw [f1 j (by omega)]; exact app_k (by omega)
  refine ev_putF (fs' := [_, _, _, _, _]) DX1_init 6 GX1 rfl (k0 := 0) (Nat.le_of_ble_eq_true rfl) fX1_12 rfl rfl rfl ⟨rfl, rfl⟩ g1 (Nat.le_of_ble_eq_true rfl) rfl rfl ?_
  refine ev_ss DX1_init 1 7 (pc' := 16) (lv' := [(0, .ref _)]) (st' := [.ref _]) rfl ?_
  refine ev_new DX1_init 8 (k := 12) (n := 414) (fs := [.null, .null, .long 0, .int 0, .int 0]) GX5 rfl nX1_9 insX5 iniX5 (by decide) (fun x_2 => ?_)
  refine ev_ss DX1_init 1 9 (pc' := 20) (lv' := [(0, .ref _)]) (st' := [.ref _, .ref _, .ref _]) rfl ?_
  refine ev_rI DX1_init 10 (k1 := 11) (n1 := 411) (k2 := 1) (n2 := 3) (m_X5_init (q := q + 13) (by simp [l1]) (app_at (by simp [l1]))) vX5_init rfl qX1_11 rfl rfl rfl (hd_of rfl rfl rfl rfl) (by decide) (by decide) (fun w2 hw2 => ?_)
  obtain ⟨l2, f2, a2, y2⟩ := hw2
  have g2 : w2[q]? = some (a, .inr (1, [.ref x_1, .null, .null, .int 0, .int 0])) := by rw [f2 q (by omega)]; exact app_o (wset_get g1)
  have f3 : ∀ j, q < j → j < q + 13 → w2[j]? = w1[j]? := fun j b c => by rw [f2 j (by omega), app_k (by simp [l1]; omega), List.getElem?_set_ne (by omega)]
  have e2 : ∀ j, j < q → w2[j]? = ws[j]? := fun j hj => by rw [f2 j (by omega), app_k (by simp [l1]; omega), List.getElem?_set_ne (by omega)]; exact e1 j hj
  have y3 : WY E (adW w2) w2 (q + 1) w0S := y1.mv (fun j b c => f3 j (by omega) (by omega))
  have a3 : adW w2 (q + 1) = x_1 := by rw [adW_eq (f3 (q + 1) (by omega) (by omega))]; exact a1
  refine ev_putF (fs' := [_, _, _, _, _]) DX1_init 11 GX1 rfl (k0 := 1) (Nat.le_of_ble_eq_true rfl) fX1_18 rfl rfl rfl ⟨rfl, rfl⟩ g2 (Nat.le_of_ble_eq_true rfl) rfl rfl ?_
  refine ev_ss DX1_init 2 12 (pc' := 28) (lv' := [(0, .ref _)]) (st' := [.int 3, .ref _]) rfl ?_
  refine ev_newa DX1_init 14 (k := 0) (n := 0) (t0 := 0) (a0 := (3, .inl (fun _ => 0))) rfl rfl arc_int rfl (fun _ _ h => h) (fun _ => rfl) (by decide) (N := 3) (by decide) (Nat.le_of_ble_eq_true rfl) (fun x_3 => ?_)
  refine ev_ss DX1_init 3 15 (pc' := 34) (lv' := [(0, .ref _)]) (st' := [.int 8, .int 0, .ref _, .ref _, .ref _]) rfl ?_
  refine ev_iast DX1_init 18 rfl app_last (by unfold vp_in; decide) rfl ?_
  refine ev_ss DX1_init 3 19 (pc' := 39) (lv' := [(0, .ref _)]) (st' := [.int 8, .int 1, .ref _, .ref _, .ref _]) rfl ?_
  refine ev_iast DX1_init 22 rfl (wset_get app_last) (by unfold vp_in; decide) wset_set ?_
  refine ev_ss DX1_init 3 23 (pc' := 43) (lv' := [(0, .ref _)]) (st' := [.int 3, .int 2, .ref _, .ref _, .ref _]) rfl ?_
  refine ev_iast DX1_init 26 rfl (wset_get app_last) (by unfold vp_in; decide) wset_set ?_
  refine ev_putF (fs' := [_, _, _, _, _]) DX1_init 27 GX1 rfl (k0 := 2) (Nat.le_of_ble_eq_true rfl) fX1_21 rfl rfl rfl ⟨rfl, rfl⟩ (wset_o (app_o (wset_get g2)) app_last rfl) (Nat.le_of_ble_eq_true rfl) rfl rfl ?_
  refine ev_ss DX1_init 2 28 (pc' := 49) (lv' := [(0, .ref _)]) (st' := [.int 1, .ref _]) rfl ?_
  refine ev_put (fs' := [_, _, _, _, _]) DX1_init 30 GX1 rfl (k0 := 3) (Nat.le_of_ble_eq_true rfl) fX1_25 rfl ⟨rfl, rfl⟩ (wset_get (wset_o (app_o (wset_get g2)) app_last rfl)) (Nat.le_of_ble_eq_true rfl) rfl wset_set ?_
  exact ev_vret DX1_init 31 rfl rfl (x1_end l2 g2 (fun j hj => by rcases j with _ | _ | _ | j <;> first | rfl | omega) a3 a2 y3 y2 e2)
end
section
noncomputable def k6 : Nat := Classical.choose (⟨6, rfl⟩ : ∃ n : Nat, n = 6)
theorem k6e : k6 = 6 := Classical.choose_spec (⟨6, rfl⟩ : ∃ n : Nat, n = 6)
abbrev obC (a1 a2 a3 a4 a5 : Nat) (sc : Int32) : va_E := .inr (6, [.ref a1, .ref a2, .ref a3, .ref a4, .ref a5, .int sc])
abbrev toS (E : gE) (f : Nat → Option Nat) : va_E := .inl (gK E 5, 6, .inr (.inr (.inr (.inr f))))
/-- the place of a saved state, by its number in the row, when the row was turned r times -/
def plS (r k : Nat) : Nat := 58 + 26 * ((r + k) % 6)
def arS (ad : Nat → Nat) (r k : Nat) : Option Nat := if k < 6 then some (ad (plS r k)) else none
theorem arS_at {ad : Nat → Nat} {r i : Nat} (h : i < 6) : arS ad r (nI i).toNatClampNeg = some (ad (plS r i)) := by
  rw [nI_clamp (by omega)]
  exact if_pos h
/-- the program's object and all that it holds -/
def MW (E : gE) (ad : Nat → Nat) (ws : va_W) (p : PS) (sv : Nat → PS) (sc r len : Nat) (ch : Nat → Int32) : Prop :=
  ws[0]? = some (ad 0, obC (ad 1) (ad 27) (ad 53) (ad 54) (ad 56) (nI sc)) ∧ STA E ad ws 1 p ∧ (∃ pt, STA E ad ws 27 pt) ∧ ws[53]? = some (ad 53, toS E (arS ad r)) ∧ (∃ lb sz, LE E ad ws 54 lb sz) ∧ TXT E ad ws 56 len ch ∧ ∀ k, k < 6 → STA E ad ws (plS r k) (sv k)
theorem LE.mv {E : gE} {ws w : va_W} {il : Nat} {lb : Int32} {sz : Nat → Int32} (h : LE E (adW ws) ws il lb sz) (h1 : w[il]? = ws[il]?) (h2 : w[il + 1]? = ws[il + 1]?) : LE E (adW w) w il lb sz := by
  obtain ⟨a, g, b, c⟩ := h
  refine ⟨?_, g, ?_, c⟩
  · rw [h1, adW_eq h1, adW_eq h2]; exact a
  · rw [h2, adW_eq h2]; exact b
theorem make_end {E : gE} {a x1 x2 x3 x4 x5 : Nat} {w5 W : va_W} (hy1 : STA E (adW w5) w5 1 ps0) (hy2 : STA E (adW w5) w5 27 ps0) (hL : LE E (adW w5) w5 54 0 (fun _ => 0)) (hX : w5[56]? = some (x5, txC (adW w5 57) 0) ∧ w5[57]? = some (adW w5 57, chA E (fun _ => 0))) (a1 : adW w5 1 = x1) (a2 : adW w5 27 = x2) (a4 : adW w5 54 = x4)
    (hl : W.length = 214) (h0 : W[0]? = some (a, obC x1 x2 x3 x4 x5 0)) (h53 : W[53]? = some (x3, toS E (arS (adW W) 0))) (hk : ∀ j, 0 < j → j < 58 → j ≠ 53 → W[j]? = w5[j]?) (hs : ∀ t, t < 6 → STA E (adW W) W (58 + 26 * t) ps0) :
    (none : Option Value) = none ∧ W.length = 214 ∧ adW W 0 = a ∧ MW E (adW W) W ps0 (fun _ => ps0) 0 0 0 (fun _ => 0) := by
  have b0 := adW_of h0
  have b53 := adW_of h53
  have b1 : adW W 1 = x1 := (adW_eq (hk 1 (by decide) (by decide) (by decide))).trans a1
  have b2 : adW W 27 = x2 := (adW_eq (hk 27 (by decide) (by decide) (by decide))).trans a2
  have b4 : adW W 54 = x4 := (adW_eq (hk 54 (by decide) (by decide) (by decide))).trans a4
  have b5 : adW W 56 = x5 := (adW_eq (hk 56 (by decide) (by decide) (by decide))).trans (adW_of hX.1)
  have b7 : adW W 57 = adW w5 57 := adW_eq (hk 57 (by decide) (by decide) (by decide))
  refine ⟨rfl, hl, b0, ?_, hy1.mv (fun j h1 h2 => hk j (by omega) (by omega) (by omega)), ⟨_, hy2.mv (fun j h1 h2 => hk j (by omega) (by omega) (by omega))⟩, by rw [b53]; exact h53, ⟨_, _, hL.mv (hk _ (by decide) (by decide) (by decide)) (hk _ (by decide) (by decide) (by decide))⟩, ⟨by decide, ?_, (fun _ => 0), ?_, fun j hj => rfl⟩, fun t ht => ?_⟩
  · rw [b0, b1, b2, b53, b4, b5]
    exact h0
  · rw [hk 56 (by decide) (by decide) (by decide), b5]
    show w5[56]? = some (x5, txC (adW W 57) 0)
    rw [b7]
    exact hX.1
  · show W[57]? = some (adW W 57, chA E (fun _ => 0))
    rw [hk 57 (by decide) (by decide) (by decide), b7]
    exact hX.2
  · have e : plS 0 t = 58 + 26 * t := by unfold plS; rw [Nat.zero_add, Nat.mod_eq_of_lt ht]
    rw [e]
    exact hs t ht
set_option maxRecDepth 100000 in
set_option maxHeartbeats 4000000 in
theorem make_loop {E : gE} {a x1 x2 x3 x4 x5 : Nat} {w5 : va_W} (hy1 : STA E (adW w5) w5 1 ps0) (hy2 : STA E (adW w5) w5 27 ps0) (hL : LE E (adW w5) w5 54 0 (fun _ => 0)) (hX : w5[56]? = some (x5, txC (adW w5 57) 0) ∧ w5[57]? = some (adW w5 57, chA E (fun _ => 0))) (a1 : adW w5 1 = x1) (a2 : adW w5 27 = x2) (a4 : adW w5 54 = x4) : ∀ (m i : Nat) (x : Int32) (w : va_W) (f : Nat → Option Nat), i + m = k6 → x = nI i → w.length = 58 + 26 * i → w[0]? = some (a, obC x1 x2 x3 x4 x5 0) → w[53]? = some (x3, toS E f) → (∀ j, 0 < j → j < 58 → j ≠ 53 → w[j]? = w5[j]?) → (∀ t, t < i → ∃ b, f t = some b ∧ adW w (58 + 26 * t) = b ∧ STA E (adW w) w (58 + 26 * t) ps0) →
      Ev E YX6_init (fun v w => v = none ∧ w.length = 214 ∧ adW w 0 = a ∧ MW E (adW w) w ps0 (fun _ => ps0) 0 0 0 (fun _ => 0)) nX (26 * m) (840 * m) 59 [(0, .ref a), (1, .int x)] [] w := by
  have e6 := k6e
  intro m
  induction m with
  | zero =>
    intro i x w f hm hx hl h0 h53 hk hs
    obtain rfl : i = k6 := by omega
    subst hx
    refine ev_ss DX6_init 2 28 (pc' := 62) (lv' := [(0, .ref _), (1, .int _)]) (st' := [.int 6, .int _]) rfl ?_
    refine ev_icge DX6_init 30 rfl (tgt := 84) (by decide) (fun _ => ?_) (fun h => h.elim (by rw [k6e]; decide))
    have hf : ∀ j, j < 6 → f j = arS (adW w) 0 j := fun j hj => by
      obtain ⟨b, b1, b2, -⟩ := hs j (by omega)
      rw [b1, show arS (adW w) 0 j = some (adW w (plS 0 j)) from if_pos hj, show plS 0 j = 58 + 26 * j by unfold plS; rw [Nat.zero_add, Nat.mod_eq_of_lt hj], b2]
    refine ev_cellq h53 hf ?_
    have ea := adW_set (v2 := toS E (arS (adW w) 0)) h53
    have kq : ∀ j, j ≠ 53 → (w.set 53 (x3, toS E (arS (adW w) 0)))[j]? = w[j]? := fun j hj => List.getElem?_set_ne (Ne.symm hj)
    exact ev_vret DX6_init 40 rfl rfl (make_end hy1 hy2 hL hX a1 a2 a4 (by rw [List.length_set, hl]; omega) ((kq 0 (by decide)).trans h0) (by rw [ea]; exact wset_get h53) (fun j b c d => (kq j d).trans (hk j b c d)) (fun t ht => by
        obtain ⟨b, -, -, b3⟩ := hs t (by omega)
        exact b3.mv (fun j c d => kq j (by omega))))
  | succ m ih =>
    intro i x w f hm hx hl h0 h53 hk hs
    subst hx
    have ei : (nI i).toNatClampNeg = i := nI_clamp (by omega)
    refine ev_ss DX6_init 2 28 (pc' := 62) (lv' := [(0, .ref _), (1, .int _)]) (st' := [.int 6, .int _]) rfl ?_
    refine ev_icge DX6_init 30 rfl (tgt := 84) (by decide) (fun h => absurd h (nI_ge (b := 6) (by omega) (by decide))) (fun _ => ?_)
    refine ev_ss DX6_init 1 31 (pc' := 66) (lv' := [(0, .ref _), (1, .int _)]) (st' := [.ref _]) rfl ?_
    refine ev_get DX6_init 32 GX6 rfl (k0 := 2) (Nat.le_of_ble_eq_true rfl) fX6_19 h0 rfl ?_
    refine ev_ss DX6_init 1 33 (pc' := 70) (lv' := [(0, .ref _), (1, .int _)]) (st' := [.int _, .ref _]) rfl ?_
    refine ev_new DX6_init 34 (k := 26 * m + 25) (n := 840 * m + 835) (fs := [.null, .null, .null, .int 0, .int 0]) GX1 rfl nX6_9 insX1 iniX1 (by decide) (fun x_1 => ?_)
    refine ev_ss DX6_init 1 35 (pc' := 74) (lv' := [(0, .ref _), (1, .int _)]) (st' := [.ref _, .ref _, .int _, .ref _]) rfl ?_
    refine ev_rIN DX6_init 36 (k1 := 25) (n1 := 835) (k2 := 26 * m) (n2 := 840 * m) (m_X1_init (q := 58 + 26 * i) (by simp [hl]) (app_at hl)) vX1_init rfl (by decide) rfl rfl rfl (hd_of rfl rfl rfl rfl) (by omega) (by omega) (fun w9 hw9 => ?_)
    obtain ⟨l9, f9, a9, y9⟩ := hw9
    have f8 : ∀ j, j < 58 + 26 * i → w9[j]? = w[j]? := fun j hj => by rw [f9 j hj]; exact app_k (by omega)
    have hN : ∃ v9, w9[58 + 26 * i]? = some (x_1, .inr (1, v9)) := ⟨_, by have := y9.1.1; rw [a9] at this; exact this⟩
    obtain ⟨v9, hN⟩ := hN
    refine ev_aast5 DX6_init 37 rfl ((f8 53 (by omega)).trans h53) hN (vp_in_nI (by omega) (by decide)) rfl ?_
    refine ev_ss DX6_init 1 38 (pc' := 81) (lv' := [(1, .int _), (0, .ref _)]) (st' := []) rfl ?_
    refine ev_goto DX6_init 39 rfl (tgt := 59) (by decide) ?_
    rw [ei]
    refine ev_lvp (lv2 := [(0, .ref _), (1, .int _)]) [1, 0] rfl ?_
    have kq : ∀ j, j ≠ 53 → (w9.set 53 (x3, toS E (va_up f i (some x_1))))[j]? = w9[j]? := fun j hj => List.getElem?_set_ne (Ne.symm hj)
    refine ih (i + 1) _ _ (va_up f i (some x_1)) (by omega) (nI_1 i) (by rw [List.length_set, l9]; omega) ((kq 0 (by decide)).trans ((f8 0 (by omega)).trans h0)) (wset_get ((f8 53 (by omega)).trans h53)) (fun j b c d => ((kq j d).trans (f8 j (by omega))).trans (hk j b c d)) (fun t ht => ?_)
    by_cases e : t = i
    · subst e
      exact ⟨x_1, if_pos rfl, (adW_eq (kq _ (by omega))).trans a9, y9.mv (fun j c d => kq j (by omega))⟩
    · obtain ⟨b, b1, b2, b3⟩ := hs t (by omega)
      exact ⟨b, (if_neg e).trans b1, (adW_eq ((kq _ (by omega)).trans (f8 _ (by omega)))).trans b2, b3.mv (fun j c d => (kq j (by omega)).trans (f8 j (by omega)))⟩
set_option maxRecDepth 100000 in
set_option maxHeartbeats 4000000 in
theorem m_X6_init {E : gE} {a : Nat} : C0 E YX6_init 213 6854 [.ref a] [(a, .inr (6, [.null, .null, .null, .null, .null, .int 0]))] (fun v w => v = none ∧ w.length = 214 ∧ adW w 0 = a ∧ MW E (adW w) w ps0 (fun _ => ps0) 0 0 0 (fun _ => 0)) := by
  have e6 := k6e
  refine c0I vX6_init (Nat.le_of_ble_eq_true rfl) (lv0 := [(0, .ref a)]) rfl ?_
  refine ev_ss DX6_init 1 0 (pc' := 1) (lv' := [(0, .ref _)]) (st' := [.ref _]) rfl ?_
  refine ev_objI DX6_init 1 rfl qX6_3 (Nat.le_of_ble_eq_true rfl) (Nat.le_of_ble_eq_true rfl) ?_
  refine ev_ss DX6_init 1 2 (pc' := 5) (lv' := [(0, .ref _)]) (st' := [.ref _]) rfl ?_
  refine ev_new DX6_init 3 (k := 212) (n := 6849) (fs := [.null, .null, .null, .int 0, .int 0]) GX1 rfl nX6_9 insX1 iniX1 (by decide) (fun x_1 => ?_)
  refine ev_ss DX6_init 1 4 (pc' := 9) (lv' := [(0, .ref _)]) (st' := [.ref _, .ref _, .ref _]) rfl ?_
  refine ev_rIN DX6_init 5 (k1 := 25) (n1 := 835) (k2 := 187) (n2 := 6014) (m_X1_init (q := 1) rfl rfl) vX1_init rfl (by decide) rfl rfl rfl (hd_of rfl rfl rfl rfl) (by decide) (by decide) (fun w1 hw1 => ?_)
  obtain ⟨l1, f1, a1, y1⟩ := hw1
  have g1 : w1[0]? = some (a, .inr (6, [.null, .null, .null, .null, .null, .int 0])) := f1 0 (by decide)
  refine ev_putF (fs' := [_, _, _, _, _, _]) DX6_init 6 GX6 rfl (k0 := 0) (Nat.le_of_ble_eq_true rfl) fX6_12 rfl rfl rfl ⟨rfl, rfl⟩ g1 (Nat.le_of_ble_eq_true rfl) rfl rfl ?_
  refine ev_ss DX6_init 1 7 (pc' := 16) (lv' := [(0, .ref _)]) (st' := [.ref _]) rfl ?_
  refine ev_new DX6_init 8 (k := 186) (n := 6009) (fs := [.null, .null, .null, .int 0, .int 0]) GX1 rfl nX6_9 insX1 iniX1 (by decide) (fun x_2 => ?_)
  refine ev_ss DX6_init 1 9 (pc' := 20) (lv' := [(0, .ref _)]) (st' := [.ref _, .ref _, .ref _]) rfl ?_
  refine ev_rIN DX6_init 10 (k1 := 25) (n1 := 835) (k2 := 161) (n2 := 5174) (m_X1_init (q := 27) (by simp [l1]) (app_at (by simp [l1]))) vX1_init rfl (by decide) rfl rfl rfl (hd_of rfl rfl rfl rfl) (by decide) (by decide) (fun w2 hw2 => ?_)
  obtain ⟨l2, f2, a2, y2⟩ := hw2
  have g2 : w2[0]? = some (a, .inr (6, [.ref x_1, .null, .null, .null, .null, .int 0])) := by rw [f2 0 (by decide)]; exact app_o (wset_get g1)
  have k2 : ∀ j, 0 < j → j < 27 → w2[j]? = w1[j]? := fun j b c => by rw [f2 j c, app_k (by simp [l1]; omega), List.getElem?_set_ne (by omega)]
  have z1 : STA E (adW w2) w2 1 ps0 := y1.mv (fun j b c => k2 j (by omega) (by omega))
  have b1 : adW w2 1 = x_1 := (adW_eq (k2 1 (by decide) (by decide))).trans a1
  refine ev_putF (fs' := [_, _, _, _, _, _]) DX6_init 11 GX6 rfl (k0 := 1) (Nat.le_of_ble_eq_true rfl) fX6_16 rfl rfl rfl ⟨rfl, rfl⟩ g2 (Nat.le_of_ble_eq_true rfl) rfl rfl ?_
  refine ev_ss DX6_init 2 12 (pc' := 29) (lv' := [(0, .ref _)]) (st' := [.int 6, .ref _]) rfl ?_
  refine ev_anew DX6_init 14 (k := 160) (n := 5168) (t0 := 5) rfl nX6_9 (Or.inr rfl) rfl (by decide) (N := 6) (by decide) (Nat.le_of_ble_eq_true rfl) (fun x_3 => ?_)
  refine ev_putF (fs' := [_, _, _, _, _, _]) DX6_init 15 GX6 rfl (k0 := 2) (Nat.le_of_ble_eq_true rfl) fX6_19 rfl rfl rfl ⟨rfl, rfl⟩ (app_o (wset_get g2)) (Nat.le_of_ble_eq_true rfl) rfl rfl ?_
  refine ev_ss DX6_init 1 16 (pc' := 36) (lv' := [(0, .ref _)]) (st' := [.ref _]) rfl ?_
  refine ev_new DX6_init 17 (k := 159) (n := 5166) (fs := [.null, .int 0]) GX0 rfl nX6_23 insX0 iniX0 (by decide) (fun x_4 => ?_)
  refine ev_ss DX6_init 1 18 (pc' := 40) (lv' := [(0, .ref _)]) (st' := [.ref _, .ref _, .ref _]) rfl ?_
  have hl3 : ((w2.set 0 (a, .inr (6, [.ref x_1, .ref x_2, .null, .null, .null, .int 0]))) ++ [(x_3, toS E (fun _ => none))]).length = 54 := by simp [l2]
  refine ev_rIN DX6_init 19 (k1 := 1) (n1 := 64) (k2 := 158) (n2 := 5102) (m_X0_init app_last) vX0_init rfl (by decide) rfl rfl rfl (hd_of rfl rfl rfl rfl) (by decide) (by decide) (fun w3 hw3 => ?_)
  obtain ⟨ar, hw3⟩ := hw3
  rw [List.length_set, hl3] at hw3
  have hl4 : (((w2.set 0 (a, .inr (6, [.ref x_1, .ref x_2, .null, .null, .null, .int 0]))) ++ [(x_3, toS E (fun _ => none))]).set 0 (a, .inr (6, [.ref x_1, .ref x_2, .ref x_3, .null, .null, .int 0]))).length = 54 := by rw [List.length_set, hl3]
  have l3 : w3.length = 56 := by rw [hw3]; simp [l2]
  have g3 : w3[0]? = some (a, .inr (6, [.ref x_1, .ref x_2, .ref x_3, .null, .null, .int 0])) := by rw [hw3]; exact wset_n (app_o (app_o (wset_get (app_o (wset_get g2))))) (by decide)
  have r3 : w3[53]? = some (x_3, toS E (fun _ => none)) := by rw [hw3]; exact wset_n (app_o (app_o (wset_n (app_at (by simp [l2])) (by decide)))) (by decide)
  have s3 : w3[54]? = some (x_4, lesC ar 0) := by rw [hw3]; exact wset_get (app_o (app_at hl4))
  have t3 : w3[55]? = some (ar, iaC E 64 (fun _ => 0)) := by rw [hw3]; exact wset_n (app_at (by simp [l2])) (by decide)
  have k3 : ∀ j, 0 < j → j < 53 → w3[j]? = w2[j]? := fun j b c => by rw [hw3, List.getElem?_set_ne (by omega), app_k (by simp [l2]; omega), app_k (by simp [l2]; omega), List.getElem?_set_ne (by omega), app_k (by simp [l2]; omega), List.getElem?_set_ne (by omega)]
  clear hw3 hl3 hl4
  refine ev_putF (fs' := [_, _, _, _, _, _]) DX6_init 20 GX6 rfl (k0 := 3) (Nat.le_of_ble_eq_true rfl) fX6_26 rfl rfl rfl ⟨rfl, rfl⟩ g3 (Nat.le_of_ble_eq_true rfl) rfl rfl ?_
  refine ev_ss DX6_init 1 21 (pc' := 47) (lv' := [(0, .ref _)]) (st' := [.ref _]) rfl ?_
  refine ev_new DX6_init 22 (k := 157) (n := 5100) (fs := [.null, .int 0]) GX2 rfl nX6_30 insX2 iniX2 (by decide) (fun x_5 => ?_)
  refine ev_ss DX6_init 1 23 (pc' := 51) (lv' := [(0, .ref _)]) (st' := [.ref _, .ref _, .ref _]) rfl ?_
  refine ev_rIN DX6_init 24 (k1 := 1) (n1 := 60) (k2 := 156) (n2 := 5040) (m_X2_init app_last) vX2_init rfl (by decide) rfl rfl rfl (hd_of rfl rfl rfl rfl) (by decide) (by decide) (fun w4 hw4 => ?_)
  obtain ⟨ac, hw4⟩ := hw4
  rw [List.length_set, l3] at hw4
  have hl4 : (w3.set 0 (a, .inr (6, [.ref x_1, .ref x_2, .ref x_3, .ref x_4, .null, .int 0]))).length = 56 := by rw [List.length_set, l3]
  have l4 : w4.length = 58 := by rw [hw4]; simp [l3]
  have g4 : w4[0]? = some (a, .inr (6, [.ref x_1, .ref x_2, .ref x_3, .ref x_4, .null, .int 0])) := by rw [hw4]; exact wset_n (app_o (app_o (wset_get g3))) (by decide)
  have s4 : w4[56]? = some (x_5, txC ac 0) := by rw [hw4]; exact wset_get (app_o (app_at hl4))
  have t4 : w4[57]? = some (ac, chA E (fun _ => 0)) := by rw [hw4]; exact wset_n (app_at (by simp [l3])) (by decide)
  have k4 : ∀ j, 0 < j → j < 56 → w4[j]? = w3[j]? := fun j b c => by rw [hw4, List.getElem?_set_ne (by omega), app_k (by simp [l3]; omega), app_k (by simp [l3]; omega), List.getElem?_set_ne (by omega)]
  clear hw4 hl4
  refine ev_putF (fs' := [_, _, _, _, _, _]) DX6_init 25 GX6 rfl (k0 := 4) (Nat.le_of_ble_eq_true rfl) fX6_33 rfl rfl rfl ⟨rfl, rfl⟩ g4 (Nat.le_of_ble_eq_true rfl) rfl rfl ?_
  refine ev_ss DX6_init 2 26 (pc' := 59) (lv' := [(1, .int 0), (0, .ref _)]) (st' := []) rfl ?_
  refine ev_room (k2 := 26 * k6) (n2 := 840 * k6) (by omega) (by omega) ?_
  refine ev_lvp (lv2 := [(0, .ref _), (1, .int _)]) [1, 0] rfl ?_
  have q0 : (w4.set 0 (a, obC x_1 x_2 x_3 x_4 x_5 0))[0]? = some (a, obC x_1 x_2 x_3 x_4 x_5 0) := wset_get g4
  have qk : ∀ j, 0 < j → (w4.set 0 (a, obC x_1 x_2 x_3 x_4 x_5 0))[j]? = w4[j]? := fun j b => List.getElem?_set_ne (by omega)
  have ql : (w4.set 0 (a, obC x_1 x_2 x_3 x_4 x_5 0)).length = 58 := by rw [List.length_set, l4]
  generalize w4.set 0 (a, obC x_1 x_2 x_3 x_4 x_5 0) = w5 at *
  have k5 : ∀ j, 0 < j → j < 53 → w5[j]? = w2[j]? := fun j b c => (qk j b).trans ((k4 j b (by omega)).trans (k3 j b c))
  have p54 : w5[54]? = some (x_4, lesC ar 0) := (qk _ (by decide)).trans ((k4 _ (by decide) (by decide)).trans s3)
  have p55 : w5[55]? = some (ar, iaC E 64 (fun _ => 0)) := (qk _ (by decide)).trans ((k4 _ (by decide) (by decide)).trans t3)
  have p57 : w5[57]? = some (ac, chA E (fun _ => 0)) := (qk _ (by decide)).trans t4
  exact make_loop (w5 := w5) (z1.mv (fun j b c => k5 j (by omega) (by omega))) (y2.mv (fun j b c => k5 j (by omega) (by omega))) ⟨by rw [adW_of p54, adW_of p55]; exact p54, _, by rw [adW_of p55]; exact p55, fun j hj => rfl⟩ ⟨by rw [adW_of p57]; exact (qk _ (by decide)).trans s4, by rw [adW_of p57]; exact p57⟩ ((adW_eq (k5 1 (by decide) (by decide))).trans b1) ((adW_eq (k5 27 (by decide) (by decide))).trans a2) (adW_of p54) k6 0 0 w5 (fun _ => none) (Nat.zero_add k6) nI_0.symm ql q0 ((qk _ (by decide)).trans ((k4 _ (by decide) (by decide)).trans r3)) (fun j b c d => rfl) (fun t ht => absurd ht (Nat.not_lt_zero t))
end
