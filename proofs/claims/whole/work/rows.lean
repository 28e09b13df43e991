section
-- ===== PART A: goes FIRST, ahead of the names: the tables' words, and 'selects' of the private methods out of them =====
/-- a private method of a class that the tables say can be made, by its rows of tables_1 -/
def lw_okq (q : MethodName × Nat) : Prop := (q.1.cls ≠ "java/lang/invoke/MethodHandle" ∧ q.1.cls ≠ "java/lang/invoke/VarHandle") ∧ Cond.instantiable q.1.cls q.2 ∈ tables_1 ∧ Cond.privateMethod q.1 ∈ tables_1 ∧ Cond.instanceMethod q.1 ∈ tables_1
theorem lw_p0 : lw_okq (⟨"RealmHouse$Hash", "pad", "([BIII)V"⟩, 8) := ⟨⟨by decide +kernel, by decide +kernel⟩, List.mem_of_getElem? (i := 65) (by decide +kernel), List.mem_of_getElem? (i := 589) (by decide +kernel), List.mem_of_getElem? (i := 590) (by decide +kernel)⟩
theorem lw_p1 : lw_okq (⟨"RealmHouse$Hash", "compress", "()V"⟩, 8) := ⟨⟨by decide +kernel, by decide +kernel⟩, List.mem_of_getElem? (i := 65) (by decide +kernel), List.mem_of_getElem? (i := 598) (by decide +kernel), List.mem_of_getElem? (i := 599) (by decide +kernel)⟩
theorem lw_p2 : lw_okq (⟨"RealmHouse$Vault", "stretch", "(I)V"⟩, 13) := ⟨⟨by decide +kernel, by decide +kernel⟩, List.mem_of_getElem? (i := 29) (by decide +kernel), List.mem_of_getElem? (i := 611) (by decide +kernel), List.mem_of_getElem? (i := 612) (by decide +kernel)⟩
theorem lw_p3 : lw_okq (⟨"RealmHouse$Hash", "close", "()V"⟩, 8) := ⟨⟨by decide +kernel, by decide +kernel⟩, List.mem_of_getElem? (i := 65) (by decide +kernel), List.mem_of_getElem? (i := 627) (by decide +kernel), List.mem_of_getElem? (i := 628) (by decide +kernel)⟩
theorem lw_p4 : lw_okq (⟨"RealmHouse$Vault", "chain", "([BI)V"⟩, 13) := ⟨⟨by decide +kernel, by decide +kernel⟩, List.mem_of_getElem? (i := 29) (by decide +kernel), List.mem_of_getElem? (i := 641) (by decide +kernel), List.mem_of_getElem? (i := 642) (by decide +kernel)⟩
theorem lw_p5 : lw_okq (⟨"RealmHouse$Aes", "mix", "()V"⟩, 7) := ⟨⟨by decide +kernel, by decide +kernel⟩, List.mem_of_getElem? (i := 98) (by decide +kernel), List.mem_of_getElem? (i := 649) (by decide +kernel), List.mem_of_getElem? (i := 650) (by decide +kernel)⟩
theorem lw_p6 : lw_okq (⟨"RealmHouse", "passwordPlace", "()I"⟩, 9) := ⟨⟨by decide +kernel, by decide +kernel⟩, List.mem_of_getElem? (i := 21) (by decide +kernel), List.mem_of_getElem? (i := 780) (by decide +kernel), List.mem_of_getElem? (i := 781) (by decide +kernel)⟩
theorem lw_p7 : lw_okq (⟨"RealmHouse", "readName", "(I)Z"⟩, 9) := ⟨⟨by decide +kernel, by decide +kernel⟩, List.mem_of_getElem? (i := 21) (by decide +kernel), List.mem_of_getElem? (i := 784) (by decide +kernel), List.mem_of_getElem? (i := 785) (by decide +kernel)⟩
theorem lw_p8 : lw_okq (⟨"RealmHouse", "isPassword", "(I)Z"⟩, 9) := ⟨⟨by decide +kernel, by decide +kernel⟩, List.mem_of_getElem? (i := 21) (by decide +kernel), List.mem_of_getElem? (i := 792) (by decide +kernel), List.mem_of_getElem? (i := 793) (by decide +kernel)⟩
theorem lw_p9 : lw_okq (⟨"RealmHouse", "isPrincipal", "(I)Z"⟩, 9) := ⟨⟨by decide +kernel, by decide +kernel⟩, List.mem_of_getElem? (i := 21) (by decide +kernel), List.mem_of_getElem? (i := 815) (by decide +kernel), List.mem_of_getElem? (i := 816) (by decide +kernel)⟩
theorem lw_p10 : lw_okq (⟨"RealmHouse$Bytes", "fits", "(IIII)Z"⟩, 2) := ⟨⟨by decide +kernel, by decide +kernel⟩, List.mem_of_getElem? (i := 36) (by decide +kernel), List.mem_of_getElem? (i := 848) (by decide +kernel), List.mem_of_getElem? (i := 849) (by decide +kernel)⟩
theorem lw_p11 : lw_okq (⟨"RealmHouse$Bytes", "isNumber", "(IIJJ)Z"⟩, 2) := ⟨⟨by decide +kernel, by decide +kernel⟩, List.mem_of_getElem? (i := 36) (by decide +kernel), List.mem_of_getElem? (i := 856) (by decide +kernel), List.mem_of_getElem? (i := 857) (by decide +kernel)⟩
theorem lw_p12 : lw_okq (⟨"RealmHouse$Bytes", "number", "(II)J"⟩, 2) := ⟨⟨by decide +kernel, by decide +kernel⟩, List.mem_of_getElem? (i := 36) (by decide +kernel), List.mem_of_getElem? (i := 860) (by decide +kernel), List.mem_of_getElem? (i := 861) (by decide +kernel)⟩
theorem lw_p13 : lw_okq (⟨"RealmHouse$Bytes", "isTime", "(II)Z"⟩, 2) := ⟨⟨by decide +kernel, by decide +kernel⟩, List.mem_of_getElem? (i := 36) (by decide +kernel), List.mem_of_getElem? (i := 867) (by decide +kernel), List.mem_of_getElem? (i := 868) (by decide +kernel)⟩
theorem lw_p14 : lw_okq (⟨"RealmHouse$Bytes", "digits", "(II)I"⟩, 2) := ⟨⟨by decide +kernel, by decide +kernel⟩, List.mem_of_getElem? (i := 36) (by decide +kernel), List.mem_of_getElem? (i := 871) (by decide +kernel), List.mem_of_getElem? (i := 872) (by decide +kernel)⟩
theorem lw_p15 : lw_okq (⟨"RealmHouse$Bytes", "fitsInside", "(IIII)Z"⟩, 2) := ⟨⟨by decide +kernel, by decide +kernel⟩, List.mem_of_getElem? (i := 36) (by decide +kernel), List.mem_of_getElem? (i := 884) (by decide +kernel), List.mem_of_getElem? (i := 885) (by decide +kernel)⟩
def lw_privs_1 : List (MethodName × Nat) := [(⟨"RealmHouse$Hash", "pad", "([BIII)V"⟩, 8), (⟨"RealmHouse$Hash", "compress", "()V"⟩, 8), (⟨"RealmHouse$Vault", "stretch", "(I)V"⟩, 13), (⟨"RealmHouse$Hash", "close", "()V"⟩, 8), (⟨"RealmHouse$Vault", "chain", "([BI)V"⟩, 13), (⟨"RealmHouse$Aes", "mix", "()V"⟩, 7), (⟨"RealmHouse", "passwordPlace", "()I"⟩, 9), (⟨"RealmHouse", "readName", "(I)Z"⟩, 9), (⟨"RealmHouse", "isPassword", "(I)Z"⟩, 9), (⟨"RealmHouse", "isPrincipal", "(I)Z"⟩, 9), (⟨"RealmHouse$Bytes", "fits", "(IIII)Z"⟩, 2), (⟨"RealmHouse$Bytes", "isNumber", "(IIJJ)Z"⟩, 2), (⟨"RealmHouse$Bytes", "number", "(II)J"⟩, 2), (⟨"RealmHouse$Bytes", "isTime", "(II)Z"⟩, 2), (⟨"RealmHouse$Bytes", "digits", "(II)I"⟩, 2), (⟨"RealmHouse$Bytes", "fitsInside", "(IIII)Z"⟩, 2)]
theorem lw_r1 : ∀ q ∈ lw_privs_1, lw_okq q := List.forall_mem_cons.mpr ⟨lw_p0, List.forall_mem_cons.mpr ⟨lw_p1, List.forall_mem_cons.mpr ⟨lw_p2, List.forall_mem_cons.mpr ⟨lw_p3, List.forall_mem_cons.mpr ⟨lw_p4, List.forall_mem_cons.mpr ⟨lw_p5, List.forall_mem_cons.mpr ⟨lw_p6, List.forall_mem_cons.mpr ⟨lw_p7, List.forall_mem_cons.mpr ⟨lw_p8, List.forall_mem_cons.mpr ⟨lw_p9, List.forall_mem_cons.mpr ⟨lw_p10, List.forall_mem_cons.mpr ⟨lw_p11, List.forall_mem_cons.mpr ⟨lw_p12, List.forall_mem_cons.mpr ⟨lw_p13, List.forall_mem_cons.mpr ⟨lw_p14, List.forall_mem_cons.mpr ⟨lw_p15, fun _ h => absurd h List.not_mem_nil⟩⟩⟩⟩⟩⟩⟩⟩⟩⟩⟩⟩⟩⟩⟩⟩
theorem lw_p16 : lw_okq (⟨"RealmHouse$Bytes", "fitsRow", "(IIII)Z"⟩, 2) := ⟨⟨by decide +kernel, by decide +kernel⟩, List.mem_of_getElem? (i := 36) (by decide +kernel), List.mem_of_getElem? (i := 888) (by decide +kernel), List.mem_of_getElem? (i := 889) (by decide +kernel)⟩
theorem lw_p17 : lw_okq (⟨"RealmHouse$Bytes", "fitsFields", "(Ljava/lang/String;III)Z"⟩, 2) := ⟨⟨by decide +kernel, by decide +kernel⟩, List.mem_of_getElem? (i := 36) (by decide +kernel), List.mem_of_getElem? (i := 922) (by decide +kernel), List.mem_of_getElem? (i := 923) (by decide +kernel)⟩
theorem lw_p18 : lw_okq (⟨"RealmHouse$Gate", "openTicket", "(LRealmHouse$Bytes;ILRealmHouse$Principal;)I"⟩, 5) := ⟨⟨by decide +kernel, by decide +kernel⟩, List.mem_of_getElem? (i := 179) (by decide +kernel), List.mem_of_getElem? (i := 974) (by decide +kernel), List.mem_of_getElem? (i := 975) (by decide +kernel)⟩
theorem lw_p19 : lw_okq (⟨"RealmHouse$Vault", "derive", "([BII)V"⟩, 13) := ⟨⟨by decide +kernel, by decide +kernel⟩, List.mem_of_getElem? (i := 29) (by decide +kernel), List.mem_of_getElem? (i := 1009) (by decide +kernel), List.mem_of_getElem? (i := 1010) (by decide +kernel)⟩
theorem lw_p20 : lw_okq (⟨"RealmHouse$Vault", "fold", "(II)V"⟩, 13) := ⟨⟨by decide +kernel, by decide +kernel⟩, List.mem_of_getElem? (i := 29) (by decide +kernel), List.mem_of_getElem? (i := 1013) (by decide +kernel), List.mem_of_getElem? (i := 1014) (by decide +kernel)⟩
theorem lw_p21 : lw_okq (⟨"RealmHouse$Aes", "prepare", "()V"⟩, 7) := ⟨⟨by decide +kernel, by decide +kernel⟩, List.mem_of_getElem? (i := 98) (by decide +kernel), List.mem_of_getElem? (i := 1026) (by decide +kernel), List.mem_of_getElem? (i := 1027) (by decide +kernel)⟩
theorem lw_p22 : lw_okq (⟨"RealmHouse$Vault", "digest", "(LRealmHouse$Bytes;II)V"⟩, 13) := ⟨⟨by decide +kernel, by decide +kernel⟩, List.mem_of_getElem? (i := 29) (by decide +kernel), List.mem_of_getElem? (i := 1035) (by decide +kernel), List.mem_of_getElem? (i := 1036) (by decide +kernel)⟩
theorem lw_p23 : lw_okq (⟨"RealmHouse$Vault", "isMac", "(LRealmHouse$Bytes;I)Z"⟩, 13) := ⟨⟨by decide +kernel, by decide +kernel⟩, List.mem_of_getElem? (i := 29) (by decide +kernel), List.mem_of_getElem? (i := 1043) (by decide +kernel), List.mem_of_getElem? (i := 1044) (by decide +kernel)⟩
theorem lw_p24 : lw_okq (⟨"RealmHouse$Gate", "openProof", "(LRealmHouse$Bytes;II)I"⟩, 5) := ⟨⟨by decide +kernel, by decide +kernel⟩, List.mem_of_getElem? (i := 179) (by decide +kernel), List.mem_of_getElem? (i := 1058) (by decide +kernel), List.mem_of_getElem? (i := 1059) (by decide +kernel)⟩
theorem lw_p25 : lw_okq (⟨"RealmHouse$Gate", "keep", "(LRealmHouse$Seen;)I"⟩, 5) := ⟨⟨by decide +kernel, by decide +kernel⟩, List.mem_of_getElem? (i := 179) (by decide +kernel), List.mem_of_getElem? (i := 1074) (by decide +kernel), List.mem_of_getElem? (i := 1075) (by decide +kernel)⟩
theorem lw_p26 : lw_okq (⟨"RealmHouse$Seen", "isName", "(ILRealmHouse$Bytes;II)Z"⟩, 5) := ⟨⟨by decide +kernel, by decide +kernel⟩, List.mem_of_getElem? (i := 220) (by decide +kernel), List.mem_of_getElem? (i := 1089) (by decide +kernel), List.mem_of_getElem? (i := 1090) (by decide +kernel)⟩
theorem lw_p27 : lw_okq (⟨"RealmHouse$Centre", "judgeClient", "(LRealmHouse$Bytes;I)I"⟩, 16) := ⟨⟨by decide +kernel, by decide +kernel⟩, List.mem_of_getElem? (i := 653) (by decide +kernel), List.mem_of_getElem? (i := 1102) (by decide +kernel), List.mem_of_getElem? (i := 1103) (by decide +kernel)⟩
theorem lw_p28 : lw_okq (⟨"RealmHouse$Centre", "judgeService", "()I"⟩, 16) := ⟨⟨by decide +kernel, by decide +kernel⟩, List.mem_of_getElem? (i := 653) (by decide +kernel), List.mem_of_getElem? (i := 1118) (by decide +kernel), List.mem_of_getElem? (i := 1119) (by decide +kernel)⟩
theorem lw_p29 : lw_okq (⟨"RealmHouse$Centre", "asks", "(I)Z"⟩, 16) := ⟨⟨by decide +kernel, by decide +kernel⟩, List.mem_of_getElem? (i := 653) (by decide +kernel), List.mem_of_getElem? (i := 1123) (by decide +kernel), List.mem_of_getElem? (i := 1124) (by decide +kernel)⟩
theorem lw_p30 : lw_okq (⟨"RealmHouse$Centre", "findType", "()Z"⟩, 16) := ⟨⟨by decide +kernel, by decide +kernel⟩, List.mem_of_getElem? (i := 653) (by decide +kernel), List.mem_of_getElem? (i := 1129) (by decide +kernel), List.mem_of_getElem? (i := 1130) (by decide +kernel)⟩
theorem lw_p31 : lw_okq (⟨"RealmHouse$Centre", "judgeShown", "()I"⟩, 16) := ⟨⟨by decide +kernel, by decide +kernel⟩, List.mem_of_getElem? (i := 653) (by decide +kernel), List.mem_of_getElem? (i := 1135) (by decide +kernel), List.mem_of_getElem? (i := 1136) (by decide +kernel)⟩
def lw_privs_2 : List (MethodName × Nat) := [(⟨"RealmHouse$Bytes", "fitsRow", "(IIII)Z"⟩, 2), (⟨"RealmHouse$Bytes", "fitsFields", "(Ljava/lang/String;III)Z"⟩, 2), (⟨"RealmHouse$Gate", "openTicket", "(LRealmHouse$Bytes;ILRealmHouse$Principal;)I"⟩, 5), (⟨"RealmHouse$Vault", "derive", "([BII)V"⟩, 13), (⟨"RealmHouse$Vault", "fold", "(II)V"⟩, 13), (⟨"RealmHouse$Aes", "prepare", "()V"⟩, 7), (⟨"RealmHouse$Vault", "digest", "(LRealmHouse$Bytes;II)V"⟩, 13), (⟨"RealmHouse$Vault", "isMac", "(LRealmHouse$Bytes;I)Z"⟩, 13), (⟨"RealmHouse$Gate", "openProof", "(LRealmHouse$Bytes;II)I"⟩, 5), (⟨"RealmHouse$Gate", "keep", "(LRealmHouse$Seen;)I"⟩, 5), (⟨"RealmHouse$Seen", "isName", "(ILRealmHouse$Bytes;II)Z"⟩, 5), (⟨"RealmHouse$Centre", "judgeClient", "(LRealmHouse$Bytes;I)I"⟩, 16), (⟨"RealmHouse$Centre", "judgeService", "()I"⟩, 16), (⟨"RealmHouse$Centre", "asks", "(I)Z"⟩, 16), (⟨"RealmHouse$Centre", "findType", "()Z"⟩, 16), (⟨"RealmHouse$Centre", "judgeShown", "()I"⟩, 16)]
theorem lw_r2 : ∀ q ∈ lw_privs_2, lw_okq q := List.forall_mem_cons.mpr ⟨lw_p16, List.forall_mem_cons.mpr ⟨lw_p17, List.forall_mem_cons.mpr ⟨lw_p18, List.forall_mem_cons.mpr ⟨lw_p19, List.forall_mem_cons.mpr ⟨lw_p20, List.forall_mem_cons.mpr ⟨lw_p21, List.forall_mem_cons.mpr ⟨lw_p22, List.forall_mem_cons.mpr ⟨lw_p23, List.forall_mem_cons.mpr ⟨lw_p24, List.forall_mem_cons.mpr ⟨lw_p25, List.forall_mem_cons.mpr ⟨lw_p26, List.forall_mem_cons.mpr ⟨lw_p27, List.forall_mem_cons.mpr ⟨lw_p28, List.forall_mem_cons.mpr ⟨lw_p29, List.forall_mem_cons.mpr ⟨lw_p30, List.forall_mem_cons.mpr ⟨lw_p31, fun _ h => absurd h List.not_mem_nil⟩⟩⟩⟩⟩⟩⟩⟩⟩⟩⟩⟩⟩⟩⟩⟩
theorem lw_p32 : lw_okq (⟨"RealmHouse$Centre", "setTimes", "()I"⟩, 16) := ⟨⟨by decide +kernel, by decide +kernel⟩, List.mem_of_getElem? (i := 653) (by decide +kernel), List.mem_of_getElem? (i := 1144) (by decide +kernel), List.mem_of_getElem? (i := 1145) (by decide +kernel)⟩
theorem lw_p33 : lw_okq (⟨"RealmHouse$Centre", "setRenewed", "()I"⟩, 16) := ⟨⟨by decide +kernel, by decide +kernel⟩, List.mem_of_getElem? (i := 653) (by decide +kernel), List.mem_of_getElem? (i := 1148) (by decide +kernel), List.mem_of_getElem? (i := 1149) (by decide +kernel)⟩
theorem lw_p34 : lw_okq (⟨"RealmHouse$Centre", "ticketFlags", "()I"⟩, 16) := ⟨⟨by decide +kernel, by decide +kernel⟩, List.mem_of_getElem? (i := 653) (by decide +kernel), List.mem_of_getElem? (i := 1162) (by decide +kernel), List.mem_of_getElem? (i := 1163) (by decide +kernel)⟩
theorem lw_p35 : lw_okq (⟨"RealmHouse$Centre", "timeAsked", "(I)J"⟩, 16) := ⟨⟨by decide +kernel, by decide +kernel⟩, List.mem_of_getElem? (i := 653) (by decide +kernel), List.mem_of_getElem? (i := 1167) (by decide +kernel), List.mem_of_getElem? (i := 1168) (by decide +kernel)⟩
theorem lw_p36 : lw_okq (⟨"RealmHouse$Centre", "setFlags", "(Z)V"⟩, 16) := ⟨⟨by decide +kernel, by decide +kernel⟩, List.mem_of_getElem? (i := 653) (by decide +kernel), List.mem_of_getElem? (i := 1174) (by decide +kernel), List.mem_of_getElem? (i := 1175) (by decide +kernel)⟩
theorem lw_p37 : lw_okq (⟨"RealmHouse$Centre", "setRenewTill", "(J)V"⟩, 16) := ⟨⟨by decide +kernel, by decide +kernel⟩, List.mem_of_getElem? (i := 653) (by decide +kernel), List.mem_of_getElem? (i := 1187) (by decide +kernel), List.mem_of_getElem? (i := 1188) (by decide +kernel)⟩
theorem lw_p38 : lw_okq (⟨"RealmHouse$Centre", "judgeSum", "()I"⟩, 16) := ⟨⟨by decide +kernel, by decide +kernel⟩, List.mem_of_getElem? (i := 653) (by decide +kernel), List.mem_of_getElem? (i := 1195) (by decide +kernel), List.mem_of_getElem? (i := 1196) (by decide +kernel)⟩
theorem lw_p39 : lw_okq (⟨"RealmHouse$Centre", "judgeWishes", "()I"⟩, 16) := ⟨⟨by decide +kernel, by decide +kernel⟩, List.mem_of_getElem? (i := 653) (by decide +kernel), List.mem_of_getElem? (i := 1215) (by decide +kernel), List.mem_of_getElem? (i := 1216) (by decide +kernel)⟩
theorem lw_p40 : lw_okq (⟨"RealmHouse$Centre", "putInfo", "(Z)V"⟩, 16) := ⟨⟨by decide +kernel, by decide +kernel⟩, List.mem_of_getElem? (i := 653) (by decide +kernel), List.mem_of_getElem? (i := 1250) (by decide +kernel), List.mem_of_getElem? (i := 1251) (by decide +kernel)⟩
theorem lw_p41 : lw_okq (⟨"RealmHouse$Centre", "putTypeInfo", "(I)V"⟩, 16) := ⟨⟨by decide +kernel, by decide +kernel⟩, List.mem_of_getElem? (i := 653) (by decide +kernel), List.mem_of_getElem? (i := 1255) (by decide +kernel), List.mem_of_getElem? (i := 1256) (by decide +kernel)⟩
theorem lw_p42 : lw_okq (⟨"RealmHouse$Centre", "isWanted", "(I)Z"⟩, 16) := ⟨⟨by decide +kernel, by decide +kernel⟩, List.mem_of_getElem? (i := 653) (by decide +kernel), List.mem_of_getElem? (i := 1262) (by decide +kernel), List.mem_of_getElem? (i := 1263) (by decide +kernel)⟩
theorem lw_p43 : lw_okq (⟨"RealmHouse$Centre", "putClient", "(LRealmHouse$Bytes;I)V"⟩, 16) := ⟨⟨by decide +kernel, by decide +kernel⟩, List.mem_of_getElem? (i := 653) (by decide +kernel), List.mem_of_getElem? (i := 1271) (by decide +kernel), List.mem_of_getElem? (i := 1272) (by decide +kernel)⟩
theorem lw_p44 : lw_okq (⟨"RealmHouse$Centre", "putTicket", "([B)V"⟩, 16) := ⟨⟨by decide +kernel, by decide +kernel⟩, List.mem_of_getElem? (i := 653) (by decide +kernel), List.mem_of_getElem? (i := 1279) (by decide +kernel), List.mem_of_getElem? (i := 1280) (by decide +kernel)⟩
theorem lw_p45 : lw_okq (⟨"RealmHouse$Centre", "putTimes", "(LRealmHouse$Bytes;)V"⟩, 16) := ⟨⟨by decide +kernel, by decide +kernel⟩, List.mem_of_getElem? (i := 653) (by decide +kernel), List.mem_of_getElem? (i := 1305) (by decide +kernel), List.mem_of_getElem? (i := 1306) (by decide +kernel)⟩
theorem lw_p46 : lw_okq (⟨"RealmHouse$Bytes", "putDigits", "(I)V"⟩, 2) := ⟨⟨by decide +kernel, by decide +kernel⟩, List.mem_of_getElem? (i := 36) (by decide +kernel), List.mem_of_getElem? (i := 1313) (by decide +kernel), List.mem_of_getElem? (i := 1314) (by decide +kernel)⟩
theorem lw_p47 : lw_okq (⟨"RealmHouse$Centre", "putAddresses", "(LRealmHouse$Bytes;I)V"⟩, 16) := ⟨⟨by decide +kernel, by decide +kernel⟩, List.mem_of_getElem? (i := 653) (by decide +kernel), List.mem_of_getElem? (i := 1317) (by decide +kernel), List.mem_of_getElem? (i := 1318) (by decide +kernel)⟩
def lw_privs_3 : List (MethodName × Nat) := [(⟨"RealmHouse$Centre", "setTimes", "()I"⟩, 16), (⟨"RealmHouse$Centre", "setRenewed", "()I"⟩, 16), (⟨"RealmHouse$Centre", "ticketFlags", "()I"⟩, 16), (⟨"RealmHouse$Centre", "timeAsked", "(I)J"⟩, 16), (⟨"RealmHouse$Centre", "setFlags", "(Z)V"⟩, 16), (⟨"RealmHouse$Centre", "setRenewTill", "(J)V"⟩, 16), (⟨"RealmHouse$Centre", "judgeSum", "()I"⟩, 16), (⟨"RealmHouse$Centre", "judgeWishes", "()I"⟩, 16), (⟨"RealmHouse$Centre", "putInfo", "(Z)V"⟩, 16), (⟨"RealmHouse$Centre", "putTypeInfo", "(I)V"⟩, 16), (⟨"RealmHouse$Centre", "isWanted", "(I)Z"⟩, 16), (⟨"RealmHouse$Centre", "putClient", "(LRealmHouse$Bytes;I)V"⟩, 16), (⟨"RealmHouse$Centre", "putTicket", "([B)V"⟩, 16), (⟨"RealmHouse$Centre", "putTimes", "(LRealmHouse$Bytes;)V"⟩, 16), (⟨"RealmHouse$Bytes", "putDigits", "(I)V"⟩, 2), (⟨"RealmHouse$Centre", "putAddresses", "(LRealmHouse$Bytes;I)V"⟩, 16)]
theorem lw_r3 : ∀ q ∈ lw_privs_3, lw_okq q := List.forall_mem_cons.mpr ⟨lw_p32, List.forall_mem_cons.mpr ⟨lw_p33, List.forall_mem_cons.mpr ⟨lw_p34, List.forall_mem_cons.mpr ⟨lw_p35, List.forall_mem_cons.mpr ⟨lw_p36, List.forall_mem_cons.mpr ⟨lw_p37, List.forall_mem_cons.mpr ⟨lw_p38, List.forall_mem_cons.mpr ⟨lw_p39, List.forall_mem_cons.mpr ⟨lw_p40, List.forall_mem_cons.mpr ⟨lw_p41, List.forall_mem_cons.mpr ⟨lw_p42, List.forall_mem_cons.mpr ⟨lw_p43, List.forall_mem_cons.mpr ⟨lw_p44, List.forall_mem_cons.mpr ⟨lw_p45, List.forall_mem_cons.mpr ⟨lw_p46, List.forall_mem_cons.mpr ⟨lw_p47, fun _ h => absurd h List.not_mem_nil⟩⟩⟩⟩⟩⟩⟩⟩⟩⟩⟩⟩⟩⟩⟩⟩
theorem lw_p48 : lw_okq (⟨"RealmHouse$Centre", "putReplyPart", "([B)V"⟩, 16) := ⟨⟨by decide +kernel, by decide +kernel⟩, List.mem_of_getElem? (i := 653) (by decide +kernel), List.mem_of_getElem? (i := 1335) (by decide +kernel), List.mem_of_getElem? (i := 1336) (by decide +kernel)⟩
theorem lw_p49 : lw_okq (⟨"RealmHouse$Centre", "sealReply", "()V"⟩, 16) := ⟨⟨by decide +kernel, by decide +kernel⟩, List.mem_of_getElem? (i := 653) (by decide +kernel), List.mem_of_getElem? (i := 1339) (by decide +kernel), List.mem_of_getElem? (i := 1340) (by decide +kernel)⟩
theorem lw_p50 : lw_okq (⟨"RealmHouse$Centre", "putMethods", "()V"⟩, 16) := ⟨⟨by decide +kernel, by decide +kernel⟩, List.mem_of_getElem? (i := 653) (by decide +kernel), List.mem_of_getElem? (i := 1359) (by decide +kernel), List.mem_of_getElem? (i := 1360) (by decide +kernel)⟩
theorem lw_p51 : lw_okq (⟨"RealmHouse", "isAgent", "(I)Z"⟩, 9) := ⟨⟨by decide +kernel, by decide +kernel⟩, List.mem_of_getElem? (i := 21) (by decide +kernel), List.mem_of_getElem? (i := 1384) (by decide +kernel), List.mem_of_getElem? (i := 1385) (by decide +kernel)⟩
theorem lw_p52 : lw_okq (⟨"RealmHouse", "readService", "()Z"⟩, 9) := ⟨⟨by decide +kernel, by decide +kernel⟩, List.mem_of_getElem? (i := 21) (by decide +kernel), List.mem_of_getElem? (i := 1402) (by decide +kernel), List.mem_of_getElem? (i := 1403) (by decide +kernel)⟩
theorem lw_p53 : lw_okq (⟨"RealmHouse$Agent", "putShown", "(LRealmHouse$Bytes;)V"⟩, 21) := ⟨⟨by decide +kernel, by decide +kernel⟩, List.mem_of_getElem? (i := 297) (by decide +kernel), List.mem_of_getElem? (i := 1447) (by decide +kernel), List.mem_of_getElem? (i := 1448) (by decide +kernel)⟩
theorem lw_p54 : lw_okq (⟨"RealmHouse$Agent", "keyOf", "(J)[B"⟩, 21) := ⟨⟨by decide +kernel, by decide +kernel⟩, List.mem_of_getElem? (i := 297) (by decide +kernel), List.mem_of_getElem? (i := 1454) (by decide +kernel), List.mem_of_getElem? (i := 1455) (by decide +kernel)⟩
theorem lw_p55 : lw_okq (⟨"RealmHouse$Agent", "putAuthenticator", "(LRealmHouse$Ticket;[BLRealmHouse$Bytes;J)V"⟩, 21) := ⟨⟨by decide +kernel, by decide +kernel⟩, List.mem_of_getElem? (i := 297) (by decide +kernel), List.mem_of_getElem? (i := 1459) (by decide +kernel), List.mem_of_getElem? (i := 1460) (by decide +kernel)⟩
theorem lw_p56 : lw_okq (⟨"RealmHouse$Agent", "putApReq", "(LRealmHouse$Ticket;IILRealmHouse$Bytes;)V"⟩, 21) := ⟨⟨by decide +kernel, by decide +kernel⟩, List.mem_of_getElem? (i := 297) (by decide +kernel), List.mem_of_getElem? (i := 1470) (by decide +kernel), List.mem_of_getElem? (i := 1471) (by decide +kernel)⟩
theorem lw_p57 : lw_okq (⟨"RealmHouse$Agent", "openReply", "(ILRealmHouse$Bytes;)I"⟩, 21) := ⟨⟨by decide +kernel, by decide +kernel⟩, List.mem_of_getElem? (i := 297) (by decide +kernel), List.mem_of_getElem? (i := 1489) (by decide +kernel), List.mem_of_getElem? (i := 1490) (by decide +kernel)⟩
theorem lw_p58 : lw_okq (⟨"RealmHouse$Agent", "isAsked", "(J)Z"⟩, 21) := ⟨⟨by decide +kernel, by decide +kernel⟩, List.mem_of_getElem? (i := 297) (by decide +kernel), List.mem_of_getElem? (i := 1493) (by decide +kernel), List.mem_of_getElem? (i := 1494) (by decide +kernel)⟩
theorem lw_p59 : lw_okq (⟨"RealmHouse$Agent", "judgeReply", "(LRealmHouse$Bytes;)I"⟩, 21) := ⟨⟨by decide +kernel, by decide +kernel⟩, List.mem_of_getElem? (i := 297) (by decide +kernel), List.mem_of_getElem? (i := 1498) (by decide +kernel), List.mem_of_getElem? (i := 1499) (by decide +kernel)⟩
theorem lw_p60 : lw_okq (⟨"RealmHouse$Agent", "freePlace", "()I"⟩, 21) := ⟨⟨by decide +kernel, by decide +kernel⟩, List.mem_of_getElem? (i := 297) (by decide +kernel), List.mem_of_getElem? (i := 1507) (by decide +kernel), List.mem_of_getElem? (i := 1508) (by decide +kernel)⟩
theorem lw_p61 : lw_okq (⟨"RealmHouse", "hasTicket", "(II)Z"⟩, 9) := ⟨⟨by decide +kernel, by decide +kernel⟩, List.mem_of_getElem? (i := 21) (by decide +kernel), List.mem_of_getElem? (i := 1535) (by decide +kernel), List.mem_of_getElem? (i := 1536) (by decide +kernel)⟩
theorem lw_p62 : lw_okq (⟨"RealmHouse", "putRefusal", "(LRealmHouse$Principal;I)V"⟩, 9) := ⟨⟨by decide +kernel, by decide +kernel⟩, List.mem_of_getElem? (i := 21) (by decide +kernel), List.mem_of_getElem? (i := 1568) (by decide +kernel), List.mem_of_getElem? (i := 1569) (by decide +kernel)⟩
theorem lw_p63 : lw_okq (⟨"RealmHouse$Session", "putApRep", "(LRealmHouse$Bytes;)V"⟩, 11) := ⟨⟨by decide +kernel, by decide +kernel⟩, List.mem_of_getElem? (i := 427) (by decide +kernel), List.mem_of_getElem? (i := 1591) (by decide +kernel), List.mem_of_getElem? (i := 1592) (by decide +kernel)⟩
def lw_privs_4 : List (MethodName × Nat) := [(⟨"RealmHouse$Centre", "putReplyPart", "([B)V"⟩, 16), (⟨"RealmHouse$Centre", "sealReply", "()V"⟩, 16), (⟨"RealmHouse$Centre", "putMethods", "()V"⟩, 16), (⟨"RealmHouse", "isAgent", "(I)Z"⟩, 9), (⟨"RealmHouse", "readService", "()Z"⟩, 9), (⟨"RealmHouse$Agent", "putShown", "(LRealmHouse$Bytes;)V"⟩, 21), (⟨"RealmHouse$Agent", "keyOf", "(J)[B"⟩, 21), (⟨"RealmHouse$Agent", "putAuthenticator", "(LRealmHouse$Ticket;[BLRealmHouse$Bytes;J)V"⟩, 21), (⟨"RealmHouse$Agent", "putApReq", "(LRealmHouse$Ticket;IILRealmHouse$Bytes;)V"⟩, 21), (⟨"RealmHouse$Agent", "openReply", "(ILRealmHouse$Bytes;)I"⟩, 21), (⟨"RealmHouse$Agent", "isAsked", "(J)Z"⟩, 21), (⟨"RealmHouse$Agent", "judgeReply", "(LRealmHouse$Bytes;)I"⟩, 21), (⟨"RealmHouse$Agent", "freePlace", "()I"⟩, 21), (⟨"RealmHouse", "hasTicket", "(II)Z"⟩, 9), (⟨"RealmHouse", "putRefusal", "(LRealmHouse$Principal;I)V"⟩, 9), (⟨"RealmHouse$Session", "putApRep", "(LRealmHouse$Bytes;)V"⟩, 11)]
theorem lw_r4 : ∀ q ∈ lw_privs_4, lw_okq q := List.forall_mem_cons.mpr ⟨lw_p48, List.forall_mem_cons.mpr ⟨lw_p49, List.forall_mem_cons.mpr ⟨lw_p50, List.forall_mem_cons.mpr ⟨lw_p51, List.forall_mem_cons.mpr ⟨lw_p52, List.forall_mem_cons.mpr ⟨lw_p53, List.forall_mem_cons.mpr ⟨lw_p54, List.forall_mem_cons.mpr ⟨lw_p55, List.forall_mem_cons.mpr ⟨lw_p56, List.forall_mem_cons.mpr ⟨lw_p57, List.forall_mem_cons.mpr ⟨lw_p58, List.forall_mem_cons.mpr ⟨lw_p59, List.forall_mem_cons.mpr ⟨lw_p60, List.forall_mem_cons.mpr ⟨lw_p61, List.forall_mem_cons.mpr ⟨lw_p62, List.forall_mem_cons.mpr ⟨lw_p63, fun _ h => absurd h List.not_mem_nil⟩⟩⟩⟩⟩⟩⟩⟩⟩⟩⟩⟩⟩⟩⟩⟩
theorem lw_p64 : lw_okq (⟨"RealmHouse", "isSession", "(I)Z"⟩, 9) := ⟨⟨by decide +kernel, by decide +kernel⟩, List.mem_of_getElem? (i := 21) (by decide +kernel), List.mem_of_getElem? (i := 1617) (by decide +kernel), List.mem_of_getElem? (i := 1618) (by decide +kernel)⟩
theorem lw_p65 : lw_okq (⟨"RealmHouse$Session", "isTicketKey", "([B)Z"⟩, 11) := ⟨⟨by decide +kernel, by decide +kernel⟩, List.mem_of_getElem? (i := 427) (by decide +kernel), List.mem_of_getElem? (i := 1625) (by decide +kernel), List.mem_of_getElem? (i := 1626) (by decide +kernel)⟩
theorem lw_p66 : lw_okq (⟨"RealmHouse", "isSide", "(II)Z"⟩, 9) := ⟨⟨by decide +kernel, by decide +kernel⟩, List.mem_of_getElem? (i := 21) (by decide +kernel), List.mem_of_getElem? (i := 1633) (by decide +kernel), List.mem_of_getElem? (i := 1634) (by decide +kernel)⟩
theorem lw_p67 : lw_okq (⟨"RealmHouse", "timeOf", "(II)I"⟩, 9) := ⟨⟨by decide +kernel, by decide +kernel⟩, List.mem_of_getElem? (i := 21) (by decide +kernel), List.mem_of_getElem? (i := 1637) (by decide +kernel), List.mem_of_getElem? (i := 1638) (by decide +kernel)⟩
theorem lw_p68 : lw_okq (⟨"RealmHouse$Session", "putData", "(IILRealmHouse$Bytes;LRealmHouse$Bytes;)V"⟩, 11) := ⟨⟨by decide +kernel, by decide +kernel⟩, List.mem_of_getElem? (i := 427) (by decide +kernel), List.mem_of_getElem? (i := 1646) (by decide +kernel), List.mem_of_getElem? (i := 1647) (by decide +kernel)⟩
theorem lw_p69 : lw_okq (⟨"RealmHouse$Session", "hearData", "(IILRealmHouse$Bytes;ILRealmHouse$Bytes;)I"⟩, 11) := ⟨⟨by decide +kernel, by decide +kernel⟩, List.mem_of_getElem? (i := 427) (by decide +kernel), List.mem_of_getElem? (i := 1668) (by decide +kernel), List.mem_of_getElem? (i := 1669) (by decide +kernel)⟩
theorem lw_p70 : lw_okq (⟨"RealmHouseModel", "word", "(ILjava/lang/String;)V"⟩, 145) := ⟨⟨by decide +kernel, by decide +kernel⟩, List.mem_of_getElem? (i := 1746) (by decide +kernel), List.mem_of_getElem? (i := 1756) (by decide +kernel), List.mem_of_getElem? (i := 1757) (by decide +kernel)⟩
theorem lw_p71 : lw_okq (⟨"RealmHouseModel", "add", "(IZ)I"⟩, 145) := ⟨⟨by decide +kernel, by decide +kernel⟩, List.mem_of_getElem? (i := 1746) (by decide +kernel), List.mem_of_getElem? (i := 1762) (by decide +kernel), List.mem_of_getElem? (i := 1763) (by decide +kernel)⟩
theorem lw_p72 : lw_okq (⟨"RealmHouseModel", "bothRead", "(Z)Z"⟩, 145) := ⟨⟨by decide +kernel, by decide +kernel⟩, List.mem_of_getElem? (i := 1746) (by decide +kernel), List.mem_of_getElem? (i := 1766) (by decide +kernel), List.mem_of_getElem? (i := 1767) (by decide +kernel)⟩
theorem lw_p73 : lw_okq (⟨"RealmHouseModel", "nameRead", "(Z)Z"⟩, 145) := ⟨⟨by decide +kernel, by decide +kernel⟩, List.mem_of_getElem? (i := 1746) (by decide +kernel), List.mem_of_getElem? (i := 1770) (by decide +kernel), List.mem_of_getElem? (i := 1771) (by decide +kernel)⟩
theorem lw_p74 : lw_okq (⟨"RealmHouseModel", "isHouse", "(I)Z"⟩, 145) := ⟨⟨by decide +kernel, by decide +kernel⟩, List.mem_of_getElem? (i := 1746) (by decide +kernel), List.mem_of_getElem? (i := 1774) (by decide +kernel), List.mem_of_getElem? (i := 1775) (by decide +kernel)⟩
theorem lw_p75 : lw_okq (⟨"RealmHouseModel", "passwordRead", "(II)Z"⟩, 145) := ⟨⟨by decide +kernel, by decide +kernel⟩, List.mem_of_getElem? (i := 1746) (by decide +kernel), List.mem_of_getElem? (i := 1779) (by decide +kernel), List.mem_of_getElem? (i := 1780) (by decide +kernel)⟩
theorem lw_p76 : lw_okq (⟨"RealmHouseModel", "findName", "()I"⟩, 145) := ⟨⟨by decide +kernel, by decide +kernel⟩, List.mem_of_getElem? (i := 1746) (by decide +kernel), List.mem_of_getElem? (i := 1783) (by decide +kernel), List.mem_of_getElem? (i := 1784) (by decide +kernel)⟩
theorem lw_p77 : lw_okq (⟨"RealmHouseModel", "setKeys", "(II)V"⟩, 145) := ⟨⟨by decide +kernel, by decide +kernel⟩, List.mem_of_getElem? (i := 1746) (by decide +kernel), List.mem_of_getElem? (i := 1789) (by decide +kernel), List.mem_of_getElem? (i := 1790) (by decide +kernel)⟩
theorem lw_p78 : lw_okq (⟨"RealmHouseModel", "saltOf", "([BII)V"⟩, 145) := ⟨⟨by decide +kernel, by decide +kernel⟩, List.mem_of_getElem? (i := 1746) (by decide +kernel), List.mem_of_getElem? (i := 1793) (by decide +kernel), List.mem_of_getElem? (i := 1794) (by decide +kernel)⟩
theorem lw_p79 : lw_okq (⟨"RealmHouseModel", "passwordKey", "(II[B)V"⟩, 145) := ⟨⟨by decide +kernel, by decide +kernel⟩, List.mem_of_getElem? (i := 1746) (by decide +kernel), List.mem_of_getElem? (i := 1798) (by decide +kernel), List.mem_of_getElem? (i := 1799) (by decide +kernel)⟩
def lw_privs_5 : List (MethodName × Nat) := [(⟨"RealmHouse", "isSession", "(I)Z"⟩, 9), (⟨"RealmHouse$Session", "isTicketKey", "([B)Z"⟩, 11), (⟨"RealmHouse", "isSide", "(II)Z"⟩, 9), (⟨"RealmHouse", "timeOf", "(II)I"⟩, 9), (⟨"RealmHouse$Session", "putData", "(IILRealmHouse$Bytes;LRealmHouse$Bytes;)V"⟩, 11), (⟨"RealmHouse$Session", "hearData", "(IILRealmHouse$Bytes;ILRealmHouse$Bytes;)I"⟩, 11), (⟨"RealmHouseModel", "word", "(ILjava/lang/String;)V"⟩, 145), (⟨"RealmHouseModel", "add", "(IZ)I"⟩, 145), (⟨"RealmHouseModel", "bothRead", "(Z)Z"⟩, 145), (⟨"RealmHouseModel", "nameRead", "(Z)Z"⟩, 145), (⟨"RealmHouseModel", "isHouse", "(I)Z"⟩, 145), (⟨"RealmHouseModel", "passwordRead", "(II)Z"⟩, 145), (⟨"RealmHouseModel", "findName", "()I"⟩, 145), (⟨"RealmHouseModel", "setKeys", "(II)V"⟩, 145), (⟨"RealmHouseModel", "saltOf", "([BII)V"⟩, 145), (⟨"RealmHouseModel", "passwordKey", "(II[B)V"⟩, 145)]
theorem lw_r5 : ∀ q ∈ lw_privs_5, lw_okq q := List.forall_mem_cons.mpr ⟨lw_p64, List.forall_mem_cons.mpr ⟨lw_p65, List.forall_mem_cons.mpr ⟨lw_p66, List.forall_mem_cons.mpr ⟨lw_p67, List.forall_mem_cons.mpr ⟨lw_p68, List.forall_mem_cons.mpr ⟨lw_p69, List.forall_mem_cons.mpr ⟨lw_p70, List.forall_mem_cons.mpr ⟨lw_p71, List.forall_mem_cons.mpr ⟨lw_p72, List.forall_mem_cons.mpr ⟨lw_p73, List.forall_mem_cons.mpr ⟨lw_p74, List.forall_mem_cons.mpr ⟨lw_p75, List.forall_mem_cons.mpr ⟨lw_p76, List.forall_mem_cons.mpr ⟨lw_p77, List.forall_mem_cons.mpr ⟨lw_p78, List.forall_mem_cons.mpr ⟨lw_p79, fun _ h => absurd h List.not_mem_nil⟩⟩⟩⟩⟩⟩⟩⟩⟩⟩⟩⟩⟩⟩⟩⟩
theorem lw_p80 : lw_okq (⟨"RealmHouseModel", "macKey", "([BI)V"⟩, 145) := ⟨⟨by decide +kernel, by decide +kernel⟩, List.mem_of_getElem? (i := 1746) (by decide +kernel), List.mem_of_getElem? (i := 1802) (by decide +kernel), List.mem_of_getElem? (i := 1803) (by decide +kernel)⟩
theorem lw_p81 : lw_okq (⟨"RealmHouseModel", "begin", "()V"⟩, 145) := ⟨⟨by decide +kernel, by decide +kernel⟩, List.mem_of_getElem? (i := 1746) (by decide +kernel), List.mem_of_getElem? (i := 1806) (by decide +kernel), List.mem_of_getElem? (i := 1807) (by decide +kernel)⟩
theorem lw_p82 : lw_okq (⟨"RealmHouseModel", "hash", "(I)V"⟩, 145) := ⟨⟨by decide +kernel, by decide +kernel⟩, List.mem_of_getElem? (i := 1746) (by decide +kernel), List.mem_of_getElem? (i := 1815) (by decide +kernel), List.mem_of_getElem? (i := 1816) (by decide +kernel)⟩
theorem lw_p83 : lw_okq (⟨"RealmHouseModel", "finish", "([B)V"⟩, 145) := ⟨⟨by decide +kernel, by decide +kernel⟩, List.mem_of_getElem? (i := 1746) (by decide +kernel), List.mem_of_getElem? (i := 1826) (by decide +kernel), List.mem_of_getElem? (i := 1827) (by decide +kernel)⟩
theorem lw_p84 : lw_okq (⟨"RealmHouseModel", "macBegin", "()V"⟩, 145) := ⟨⟨by decide +kernel, by decide +kernel⟩, List.mem_of_getElem? (i := 1746) (by decide +kernel), List.mem_of_getElem? (i := 1831) (by decide +kernel), List.mem_of_getElem? (i := 1832) (by decide +kernel)⟩
theorem lw_p85 : lw_okq (⟨"RealmHouseModel", "macEnd", "()V"⟩, 145) := ⟨⟨by decide +kernel, by decide +kernel⟩, List.mem_of_getElem? (i := 1746) (by decide +kernel), List.mem_of_getElem? (i := 1835) (by decide +kernel), List.mem_of_getElem? (i := 1836) (by decide +kernel)⟩
theorem lw_p86 : lw_okq (⟨"RealmHouseModel", "derive", "([BI[BI[B)V"⟩, 145) := ⟨⟨by decide +kernel, by decide +kernel⟩, List.mem_of_getElem? (i := 1746) (by decide +kernel), List.mem_of_getElem? (i := 1839) (by decide +kernel), List.mem_of_getElem? (i := 1840) (by decide +kernel)⟩
theorem lw_p87 : lw_okq (⟨"RealmHouseModel", "foldOf", "([BI)V"⟩, 145) := ⟨⟨by decide +kernel, by decide +kernel⟩, List.mem_of_getElem? (i := 1746) (by decide +kernel), List.mem_of_getElem? (i := 1843) (by decide +kernel), List.mem_of_getElem? (i := 1844) (by decide +kernel)⟩
theorem lw_p88 : lw_okq (⟨"RealmHouseModel", "aesKey", "([BI)V"⟩, 145) := ⟨⟨by decide +kernel, by decide +kernel⟩, List.mem_of_getElem? (i := 1746) (by decide +kernel), List.mem_of_getElem? (i := 1847) (by decide +kernel), List.mem_of_getElem? (i := 1848) (by decide +kernel)⟩
theorem lw_p89 : lw_okq (⟨"RealmHouseModel", "makeBox", "()V"⟩, 145) := ⟨⟨by decide +kernel, by decide +kernel⟩, List.mem_of_getElem? (i := 1746) (by decide +kernel), List.mem_of_getElem? (i := 1851) (by decide +kernel), List.mem_of_getElem? (i := 1852) (by decide +kernel)⟩
theorem lw_p90 : lw_okq (⟨"RealmHouseModel", "boxed", "(I)I"⟩, 145) := ⟨⟨by decide +kernel, by decide +kernel⟩, List.mem_of_getElem? (i := 1746) (by decide +kernel), List.mem_of_getElem? (i := 1861) (by decide +kernel), List.mem_of_getElem? (i := 1862) (by decide +kernel)⟩
theorem lw_p91 : lw_okq (⟨"RealmHouseModel", "cover", "()V"⟩, 145) := ⟨⟨by decide +kernel, by decide +kernel⟩, List.mem_of_getElem? (i := 1746) (by decide +kernel), List.mem_of_getElem? (i := 1865) (by decide +kernel), List.mem_of_getElem? (i := 1866) (by decide +kernel)⟩
theorem lw_p92 : lw_okq (⟨"RealmHouseModel", "addKey", "(I)V"⟩, 145) := ⟨⟨by decide +kernel, by decide +kernel⟩, List.mem_of_getElem? (i := 1746) (by decide +kernel), List.mem_of_getElem? (i := 1869) (by decide +kernel), List.mem_of_getElem? (i := 1870) (by decide +kernel)⟩
theorem lw_p93 : lw_okq (⟨"RealmHouseModel", "asked", "(I)I"⟩, 145) := ⟨⟨by decide +kernel, by decide +kernel⟩, List.mem_of_getElem? (i := 1746) (by decide +kernel), List.mem_of_getElem? (i := 2357) (by decide +kernel), List.mem_of_getElem? (i := 2358) (by decide +kernel)⟩
theorem lw_p94 : lw_okq (⟨"RealmHouseModel", "applied", "(ILjava/lang/String;III)Z"⟩, 145) := ⟨⟨by decide +kernel, by decide +kernel⟩, List.mem_of_getElem? (i := 1746) (by decide +kernel), List.mem_of_getElem? (i := 2362) (by decide +kernel), List.mem_of_getElem? (i := 2363) (by decide +kernel)⟩
theorem lw_p95 : lw_okq (⟨"RealmHouseModel", "whole", "(III)Z"⟩, 145) := ⟨⟨by decide +kernel, by decide +kernel⟩, List.mem_of_getElem? (i := 1746) (by decide +kernel), List.mem_of_getElem? (i := 2366) (by decide +kernel), List.mem_of_getElem? (i := 2367) (by decide +kernel)⟩
def lw_privs_6 : List (MethodName × Nat) := [(⟨"RealmHouseModel", "macKey", "([BI)V"⟩, 145), (⟨"RealmHouseModel", "begin", "()V"⟩, 145), (⟨"RealmHouseModel", "hash", "(I)V"⟩, 145), (⟨"RealmHouseModel", "finish", "([B)V"⟩, 145), (⟨"RealmHouseModel", "macBegin", "()V"⟩, 145), (⟨"RealmHouseModel", "macEnd", "()V"⟩, 145), (⟨"RealmHouseModel", "derive", "([BI[BI[B)V"⟩, 145), (⟨"RealmHouseModel", "foldOf", "([BI)V"⟩, 145), (⟨"RealmHouseModel", "aesKey", "([BI)V"⟩, 145), (⟨"RealmHouseModel", "makeBox", "()V"⟩, 145), (⟨"RealmHouseModel", "boxed", "(I)I"⟩, 145), (⟨"RealmHouseModel", "cover", "()V"⟩, 145), (⟨"RealmHouseModel", "addKey", "(I)V"⟩, 145), (⟨"RealmHouseModel", "asked", "(I)I"⟩, 145), (⟨"RealmHouseModel", "applied", "(ILjava/lang/String;III)Z"⟩, 145), (⟨"RealmHouseModel", "whole", "(III)Z"⟩, 145)]
theorem lw_r6 : ∀ q ∈ lw_privs_6, lw_okq q := List.forall_mem_cons.mpr ⟨lw_p80, List.forall_mem_cons.mpr ⟨lw_p81, List.forall_mem_cons.mpr ⟨lw_p82, List.forall_mem_cons.mpr ⟨lw_p83, List.forall_mem_cons.mpr ⟨lw_p84, List.forall_mem_cons.mpr ⟨lw_p85, List.forall_mem_cons.mpr ⟨lw_p86, List.forall_mem_cons.mpr ⟨lw_p87, List.forall_mem_cons.mpr ⟨lw_p88, List.forall_mem_cons.mpr ⟨lw_p89, List.forall_mem_cons.mpr ⟨lw_p90, List.forall_mem_cons.mpr ⟨lw_p91, List.forall_mem_cons.mpr ⟨lw_p92, List.forall_mem_cons.mpr ⟨lw_p93, List.forall_mem_cons.mpr ⟨lw_p94, List.forall_mem_cons.mpr ⟨lw_p95, fun _ h => absurd h List.not_mem_nil⟩⟩⟩⟩⟩⟩⟩⟩⟩⟩⟩⟩⟩⟩⟩⟩
theorem lw_p96 : lw_okq (⟨"RealmHouseModel", "element", "(III)Z"⟩, 145) := ⟨⟨by decide +kernel, by decide +kernel⟩, List.mem_of_getElem? (i := 1746) (by decide +kernel), List.mem_of_getElem? (i := 2370) (by decide +kernel), List.mem_of_getElem? (i := 2371) (by decide +kernel)⟩
theorem lw_p97 : lw_okq (⟨"RealmHouseModel", "sequence", "(Ljava/lang/String;III)Z"⟩, 145) := ⟨⟨by decide +kernel, by decide +kernel⟩, List.mem_of_getElem? (i := 1746) (by decide +kernel), List.mem_of_getElem? (i := 2374) (by decide +kernel), List.mem_of_getElem? (i := 2375) (by decide +kernel)⟩
theorem lw_p98 : lw_okq (⟨"RealmHouseModel", "is", "(CII)Z"⟩, 145) := ⟨⟨by decide +kernel, by decide +kernel⟩, List.mem_of_getElem? (i := 1746) (by decide +kernel), List.mem_of_getElem? (i := 2378) (by decide +kernel), List.mem_of_getElem? (i := 2379) (by decide +kernel)⟩
theorem lw_p99 : lw_okq (⟨"RealmHouseModel", "number", "(IIJJ)Z"⟩, 145) := ⟨⟨by decide +kernel, by decide +kernel⟩, List.mem_of_getElem? (i := 1746) (by decide +kernel), List.mem_of_getElem? (i := 2384) (by decide +kernel), List.mem_of_getElem? (i := 2385) (by decide +kernel)⟩
theorem lw_p100 : lw_okq (⟨"RealmHouseModel", "timeAt", "(I)J"⟩, 145) := ⟨⟨by decide +kernel, by decide +kernel⟩, List.mem_of_getElem? (i := 1746) (by decide +kernel), List.mem_of_getElem? (i := 2390) (by decide +kernel), List.mem_of_getElem? (i := 2391) (by decide +kernel)⟩
theorem lw_p101 : lw_okq (⟨"RealmHouseModel", "two", "(I)I"⟩, 145) := ⟨⟨by decide +kernel, by decide +kernel⟩, List.mem_of_getElem? (i := 1746) (by decide +kernel), List.mem_of_getElem? (i := 2394) (by decide +kernel), List.mem_of_getElem? (i := 2395) (by decide +kernel)⟩
theorem lw_p102 : lw_okq (⟨"RealmHouseModel", "row", "(CII)Z"⟩, 145) := ⟨⟨by decide +kernel, by decide +kernel⟩, List.mem_of_getElem? (i := 1746) (by decide +kernel), List.mem_of_getElem? (i := 2409) (by decide +kernel), List.mem_of_getElem? (i := 2410) (by decide +kernel)⟩
theorem lw_p103 : lw_okq (⟨"RealmHouseModel", "a", "(II)I"⟩, 145) := ⟨⟨by decide +kernel, by decide +kernel⟩, List.mem_of_getElem? (i := 1746) (by decide +kernel), List.mem_of_getElem? (i := 2421) (by decide +kernel), List.mem_of_getElem? (i := 2422) (by decide +kernel)⟩
theorem lw_p104 : lw_okq (⟨"RealmHouseModel", "b", "(II)I"⟩, 145) := ⟨⟨by decide +kernel, by decide +kernel⟩, List.mem_of_getElem? (i := 1746) (by decide +kernel), List.mem_of_getElem? (i := 2425) (by decide +kernel), List.mem_of_getElem? (i := 2426) (by decide +kernel)⟩
theorem lw_p105 : lw_okq (⟨"RealmHouseModel", "numberAt", "(II)J"⟩, 145) := ⟨⟨by decide +kernel, by decide +kernel⟩, List.mem_of_getElem? (i := 1746) (by decide +kernel), List.mem_of_getElem? (i := 2429) (by decide +kernel), List.mem_of_getElem? (i := 2430) (by decide +kernel)⟩
theorem lw_p106 : lw_okq (⟨"RealmHouseModel", "has", "(II)Z"⟩, 145) := ⟨⟨by decide +kernel, by decide +kernel⟩, List.mem_of_getElem? (i := 1746) (by decide +kernel), List.mem_of_getElem? (i := 2438) (by decide +kernel), List.mem_of_getElem? (i := 2439) (by decide +kernel)⟩
theorem lw_p107 : lw_okq (⟨"RealmHouseModel", "isWord", "(IILjava/lang/String;)Z"⟩, 145) := ⟨⟨by decide +kernel, by decide +kernel⟩, List.mem_of_getElem? (i := 1746) (by decide +kernel), List.mem_of_getElem? (i := 2442) (by decide +kernel), List.mem_of_getElem? (i := 2443) (by decide +kernel)⟩
theorem lw_p108 : lw_okq (⟨"RealmHouseModel", "initial", "()I"⟩, 145) := ⟨⟨by decide +kernel, by decide +kernel⟩, List.mem_of_getElem? (i := 1746) (by decide +kernel), List.mem_of_getElem? (i := 2446) (by decide +kernel), List.mem_of_getElem? (i := 2447) (by decide +kernel)⟩
theorem lw_p109 : lw_okq (⟨"RealmHouseModel", "principalAt", "(II)I"⟩, 145) := ⟨⟨by decide +kernel, by decide +kernel⟩, List.mem_of_getElem? (i := 1746) (by decide +kernel), List.mem_of_getElem? (i := 2450) (by decide +kernel), List.mem_of_getElem? (i := 2451) (by decide +kernel)⟩
theorem lw_p110 : lw_okq (⟨"RealmHouseModel", "partsAt", "(II)I"⟩, 145) := ⟨⟨by decide +kernel, by decide +kernel⟩, List.mem_of_getElem? (i := 1746) (by decide +kernel), List.mem_of_getElem? (i := 2454) (by decide +kernel), List.mem_of_getElem? (i := 2455) (by decide +kernel)⟩
theorem lw_p111 : lw_okq (⟨"RealmHouseModel", "says", "(II)Z"⟩, 145) := ⟨⟨by decide +kernel, by decide +kernel⟩, List.mem_of_getElem? (i := 1746) (by decide +kernel), List.mem_of_getElem? (i := 2458) (by decide +kernel), List.mem_of_getElem? (i := 2459) (by decide +kernel)⟩
def lw_privs_7 : List (MethodName × Nat) := [(⟨"RealmHouseModel", "element", "(III)Z"⟩, 145), (⟨"RealmHouseModel", "sequence", "(Ljava/lang/String;III)Z"⟩, 145), (⟨"RealmHouseModel", "is", "(CII)Z"⟩, 145), (⟨"RealmHouseModel", "number", "(IIJJ)Z"⟩, 145), (⟨"RealmHouseModel", "timeAt", "(I)J"⟩, 145), (⟨"RealmHouseModel", "two", "(I)I"⟩, 145), (⟨"RealmHouseModel", "row", "(CII)Z"⟩, 145), (⟨"RealmHouseModel", "a", "(II)I"⟩, 145), (⟨"RealmHouseModel", "b", "(II)I"⟩, 145), (⟨"RealmHouseModel", "numberAt", "(II)J"⟩, 145), (⟨"RealmHouseModel", "has", "(II)Z"⟩, 145), (⟨"RealmHouseModel", "isWord", "(IILjava/lang/String;)Z"⟩, 145), (⟨"RealmHouseModel", "initial", "()I"⟩, 145), (⟨"RealmHouseModel", "principalAt", "(II)I"⟩, 145), (⟨"RealmHouseModel", "partsAt", "(II)I"⟩, 145), (⟨"RealmHouseModel", "says", "(II)Z"⟩, 145)]
theorem lw_r7 : ∀ q ∈ lw_privs_7, lw_okq q := List.forall_mem_cons.mpr ⟨lw_p96, List.forall_mem_cons.mpr ⟨lw_p97, List.forall_mem_cons.mpr ⟨lw_p98, List.forall_mem_cons.mpr ⟨lw_p99, List.forall_mem_cons.mpr ⟨lw_p100, List.forall_mem_cons.mpr ⟨lw_p101, List.forall_mem_cons.mpr ⟨lw_p102, List.forall_mem_cons.mpr ⟨lw_p103, List.forall_mem_cons.mpr ⟨lw_p104, List.forall_mem_cons.mpr ⟨lw_p105, List.forall_mem_cons.mpr ⟨lw_p106, List.forall_mem_cons.mpr ⟨lw_p107, List.forall_mem_cons.mpr ⟨lw_p108, List.forall_mem_cons.mpr ⟨lw_p109, List.forall_mem_cons.mpr ⟨lw_p110, List.forall_mem_cons.mpr ⟨lw_p111, fun _ h => absurd h List.not_mem_nil⟩⟩⟩⟩⟩⟩⟩⟩⟩⟩⟩⟩⟩⟩⟩⟩
theorem lw_p112 : lw_okq (⟨"RealmHouseModel", "isExpired", "(I)Z"⟩, 145) := ⟨⟨by decide +kernel, by decide +kernel⟩, List.mem_of_getElem? (i := 1746) (by decide +kernel), List.mem_of_getElem? (i := 2462) (by decide +kernel), List.mem_of_getElem? (i := 2463) (by decide +kernel)⟩
theorem lw_p113 : lw_okq (⟨"RealmHouseModel", "forService", "()I"⟩, 145) := ⟨⟨by decide +kernel, by decide +kernel⟩, List.mem_of_getElem? (i := 1746) (by decide +kernel), List.mem_of_getElem? (i := 2466) (by decide +kernel), List.mem_of_getElem? (i := 2467) (by decide +kernel)⟩
theorem lw_p114 : lw_okq (⟨"RealmHouseModel", "mayOptions", "(I)Z"⟩, 145) := ⟨⟨by decide +kernel, by decide +kernel⟩, List.mem_of_getElem? (i := 1746) (by decide +kernel), List.mem_of_getElem? (i := 2470) (by decide +kernel), List.mem_of_getElem? (i := 2471) (by decide +kernel)⟩
theorem lw_p115 : lw_okq (⟨"RealmHouseModel", "flagsAt", "(II)I"⟩, 145) := ⟨⟨by decide +kernel, by decide +kernel⟩, List.mem_of_getElem? (i := 1746) (by decide +kernel), List.mem_of_getElem? (i := 2477) (by decide +kernel), List.mem_of_getElem? (i := 2478) (by decide +kernel)⟩
theorem lw_p116 : lw_okq (⟨"RealmHouseModel", "hasMoreFlags", "(II)Z"⟩, 145) := ⟨⟨by decide +kernel, by decide +kernel⟩, List.mem_of_getElem? (i := 1746) (by decide +kernel), List.mem_of_getElem? (i := 2481) (by decide +kernel), List.mem_of_getElem? (i := 2482) (by decide +kernel)⟩
theorem lw_p117 : lw_okq (⟨"RealmHouseModel", "timeOf", "(II)J"⟩, 145) := ⟨⟨by decide +kernel, by decide +kernel⟩, List.mem_of_getElem? (i := 1746) (by decide +kernel), List.mem_of_getElem? (i := 2485) (by decide +kernel), List.mem_of_getElem? (i := 2486) (by decide +kernel)⟩
theorem lw_p118 : lw_okq (⟨"RealmHouseModel", "typeAsked", "(I)I"⟩, 145) := ⟨⟨by decide +kernel, by decide +kernel⟩, List.mem_of_getElem? (i := 1746) (by decide +kernel), List.mem_of_getElem? (i := 2490) (by decide +kernel), List.mem_of_getElem? (i := 2491) (by decide +kernel)⟩
theorem lw_p119 : lw_okq (⟨"RealmHouseModel", "nth", "(III)Z"⟩, 145) := ⟨⟨by decide +kernel, by decide +kernel⟩, List.mem_of_getElem? (i := 1746) (by decide +kernel), List.mem_of_getElem? (i := 2494) (by decide +kernel), List.mem_of_getElem? (i := 2495) (by decide +kernel)⟩
theorem lw_p120 : lw_okq (⟨"RealmHouseModel", "shownAhead", "()I"⟩, 145) := ⟨⟨by decide +kernel, by decide +kernel⟩, List.mem_of_getElem? (i := 1746) (by decide +kernel), List.mem_of_getElem? (i := 2500) (by decide +kernel), List.mem_of_getElem? (i := 2501) (by decide +kernel)⟩
theorem lw_p121 : lw_okq (⟨"RealmHouseModel", "padata", "(I)Z"⟩, 145) := ⟨⟨by decide +kernel, by decide +kernel⟩, List.mem_of_getElem? (i := 1746) (by decide +kernel), List.mem_of_getElem? (i := 2504) (by decide +kernel), List.mem_of_getElem? (i := 2505) (by decide +kernel)⟩
theorem lw_p122 : lw_okq (⟨"RealmHouseModel", "keyOf", "(III[B)V"⟩, 145) := ⟨⟨by decide +kernel, by decide +kernel⟩, List.mem_of_getElem? (i := 1746) (by decide +kernel), List.mem_of_getElem? (i := 2508) (by decide +kernel), List.mem_of_getElem? (i := 2509) (by decide +kernel)⟩
theorem lw_p123 : lw_okq (⟨"RealmHouseModel", "open", "([BIIIII)I"⟩, 145) := ⟨⟨by decide +kernel, by decide +kernel⟩, List.mem_of_getElem? (i := 1746) (by decide +kernel), List.mem_of_getElem? (i := 2512) (by decide +kernel), List.mem_of_getElem? (i := 2513) (by decide +kernel)⟩
theorem lw_p124 : lw_okq (⟨"RealmHouseModel", "useKey", "([BIII)V"⟩, 145) := ⟨⟨by decide +kernel, by decide +kernel⟩, List.mem_of_getElem? (i := 1746) (by decide +kernel), List.mem_of_getElem? (i := 2519) (by decide +kernel), List.mem_of_getElem? (i := 2520) (by decide +kernel)⟩
theorem lw_p125 : lw_okq (⟨"RealmHouseModel", "uncover", "()V"⟩, 145) := ⟨⟨by decide +kernel, by decide +kernel⟩, List.mem_of_getElem? (i := 1746) (by decide +kernel), List.mem_of_getElem? (i := 2523) (by decide +kernel), List.mem_of_getElem? (i := 2524) (by decide +kernel)⟩
theorem lw_p126 : lw_okq (⟨"RealmHouseModel", "isFar", "(JJ)Z"⟩, 145) := ⟨⟨by decide +kernel, by decide +kernel⟩, List.mem_of_getElem? (i := 1746) (by decide +kernel), List.mem_of_getElem? (i := 2528) (by decide +kernel), List.mem_of_getElem? (i := 2529) (by decide +kernel)⟩
theorem lw_p127 : lw_okq (⟨"RealmHouseModel", "issued", "()I"⟩, 145) := ⟨⟨by decide +kernel, by decide +kernel⟩, List.mem_of_getElem? (i := 1746) (by decide +kernel), List.mem_of_getElem? (i := 2532) (by decide +kernel), List.mem_of_getElem? (i := 2533) (by decide +kernel)⟩
def lw_privs_8 : List (MethodName × Nat) := [(⟨"RealmHouseModel", "isExpired", "(I)Z"⟩, 145), (⟨"RealmHouseModel", "forService", "()I"⟩, 145), (⟨"RealmHouseModel", "mayOptions", "(I)Z"⟩, 145), (⟨"RealmHouseModel", "flagsAt", "(II)I"⟩, 145), (⟨"RealmHouseModel", "hasMoreFlags", "(II)Z"⟩, 145), (⟨"RealmHouseModel", "timeOf", "(II)J"⟩, 145), (⟨"RealmHouseModel", "typeAsked", "(I)I"⟩, 145), (⟨"RealmHouseModel", "nth", "(III)Z"⟩, 145), (⟨"RealmHouseModel", "shownAhead", "()I"⟩, 145), (⟨"RealmHouseModel", "padata", "(I)Z"⟩, 145), (⟨"RealmHouseModel", "keyOf", "(III[B)V"⟩, 145), (⟨"RealmHouseModel", "open", "([BIIIII)I"⟩, 145), (⟨"RealmHouseModel", "useKey", "([BIII)V"⟩, 145), (⟨"RealmHouseModel", "uncover", "()V"⟩, 145), (⟨"RealmHouseModel", "isFar", "(JJ)Z"⟩, 145), (⟨"RealmHouseModel", "issued", "()I"⟩, 145)]
theorem lw_r8 : ∀ q ∈ lw_privs_8, lw_okq q := List.forall_mem_cons.mpr ⟨lw_p112, List.forall_mem_cons.mpr ⟨lw_p113, List.forall_mem_cons.mpr ⟨lw_p114, List.forall_mem_cons.mpr ⟨lw_p115, List.forall_mem_cons.mpr ⟨lw_p116, List.forall_mem_cons.mpr ⟨lw_p117, List.forall_mem_cons.mpr ⟨lw_p118, List.forall_mem_cons.mpr ⟨lw_p119, List.forall_mem_cons.mpr ⟨lw_p120, List.forall_mem_cons.mpr ⟨lw_p121, List.forall_mem_cons.mpr ⟨lw_p122, List.forall_mem_cons.mpr ⟨lw_p123, List.forall_mem_cons.mpr ⟨lw_p124, List.forall_mem_cons.mpr ⟨lw_p125, List.forall_mem_cons.mpr ⟨lw_p126, List.forall_mem_cons.mpr ⟨lw_p127, fun _ h => absurd h List.not_mem_nil⟩⟩⟩⟩⟩⟩⟩⟩⟩⟩⟩⟩⟩⟩⟩⟩
theorem lw_p128 : lw_okq (⟨"RealmHouseModel", "bit", "(II)Z"⟩, 145) := ⟨⟨by decide +kernel, by decide +kernel⟩, List.mem_of_getElem? (i := 1746) (by decide +kernel), List.mem_of_getElem? (i := 2536) (by decide +kernel), List.mem_of_getElem? (i := 2537) (by decide +kernel)⟩
theorem lw_p129 : lw_okq (⟨"RealmHouseModel", "startOf", "(III)J"⟩, 145) := ⟨⟨by decide +kernel, by decide +kernel⟩, List.mem_of_getElem? (i := 1746) (by decide +kernel), List.mem_of_getElem? (i := 2543) (by decide +kernel), List.mem_of_getElem? (i := 2544) (by decide +kernel)⟩
theorem lw_p130 : lw_okq (⟨"RealmHouseModel", "both", "(II)Z"⟩, 145) := ⟨⟨by decide +kernel, by decide +kernel⟩, List.mem_of_getElem? (i := 1746) (by decide +kernel), List.mem_of_getElem? (i := 2547) (by decide +kernel), List.mem_of_getElem? (i := 2548) (by decide +kernel)⟩
theorem lw_p131 : lw_okq (⟨"RealmHouseModel", "newKey", "(I[B)V"⟩, 145) := ⟨⟨by decide +kernel, by decide +kernel⟩, List.mem_of_getElem? (i := 1746) (by decide +kernel), List.mem_of_getElem? (i := 2551) (by decide +kernel), List.mem_of_getElem? (i := 2552) (by decide +kernel)⟩
theorem lw_p132 : lw_okq (⟨"RealmHouseModel", "coin", "()I"⟩, 145) := ⟨⟨by decide +kernel, by decide +kernel⟩, List.mem_of_getElem? (i := 1746) (by decide +kernel), List.mem_of_getElem? (i := 2555) (by decide +kernel), List.mem_of_getElem? (i := 2556) (by decide +kernel)⟩
theorem lw_p133 : lw_okq (⟨"RealmHouseModel", "start", "()V"⟩, 145) := ⟨⟨by decide +kernel, by decide +kernel⟩, List.mem_of_getElem? (i := 1746) (by decide +kernel), List.mem_of_getElem? (i := 2559) (by decide +kernel), List.mem_of_getElem? (i := 2560) (by decide +kernel)⟩
theorem lw_p134 : lw_okq (⟨"RealmHouseModel", "part", "()V"⟩, 145) := ⟨⟨by decide +kernel, by decide +kernel⟩, List.mem_of_getElem? (i := 1746) (by decide +kernel), List.mem_of_getElem? (i := 2563) (by decide +kernel), List.mem_of_getElem? (i := 2564) (by decide +kernel)⟩
theorem lw_p135 : lw_okq (⟨"RealmHouseModel", "copyField", "(III)V"⟩, 145) := ⟨⟨by decide +kernel, by decide +kernel⟩, List.mem_of_getElem? (i := 1746) (by decide +kernel), List.mem_of_getElem? (i := 2567) (by decide +kernel), List.mem_of_getElem? (i := 2568) (by decide +kernel)⟩
theorem lw_p136 : lw_okq (⟨"RealmHouseModel", "putBytes", "([BII)V"⟩, 145) := ⟨⟨by decide +kernel, by decide +kernel⟩, List.mem_of_getElem? (i := 1746) (by decide +kernel), List.mem_of_getElem? (i := 2571) (by decide +kernel), List.mem_of_getElem? (i := 2572) (by decide +kernel)⟩
theorem lw_p137 : lw_okq (⟨"RealmHouseModel", "one", "(I)V"⟩, 145) := ⟨⟨by decide +kernel, by decide +kernel⟩, List.mem_of_getElem? (i := 1746) (by decide +kernel), List.mem_of_getElem? (i := 2575) (by decide +kernel), List.mem_of_getElem? (i := 2576) (by decide +kernel)⟩
theorem lw_p138 : lw_okq (⟨"RealmHouseModel", "field", "(II)V"⟩, 145) := ⟨⟨by decide +kernel, by decide +kernel⟩, List.mem_of_getElem? (i := 1746) (by decide +kernel), List.mem_of_getElem? (i := 2579) (by decide +kernel), List.mem_of_getElem? (i := 2580) (by decide +kernel)⟩
theorem lw_p139 : lw_okq (⟨"RealmHouseModel", "head", "(II)V"⟩, 145) := ⟨⟨by decide +kernel, by decide +kernel⟩, List.mem_of_getElem? (i := 1746) (by decide +kernel), List.mem_of_getElem? (i := 2583) (by decide +kernel), List.mem_of_getElem? (i := 2584) (by decide +kernel)⟩
theorem lw_p140 : lw_okq (⟨"RealmHouseModel", "timeField", "(IJ)V"⟩, 145) := ⟨⟨by decide +kernel, by decide +kernel⟩, List.mem_of_getElem? (i := 1746) (by decide +kernel), List.mem_of_getElem? (i := 2587) (by decide +kernel), List.mem_of_getElem? (i := 2588) (by decide +kernel)⟩
theorem lw_p141 : lw_okq (⟨"RealmHouseModel", "putTime", "(J)V"⟩, 145) := ⟨⟨by decide +kernel, by decide +kernel⟩, List.mem_of_getElem? (i := 1746) (by decide +kernel), List.mem_of_getElem? (i := 2591) (by decide +kernel), List.mem_of_getElem? (i := 2592) (by decide +kernel)⟩
theorem lw_p142 : lw_okq (⟨"RealmHouseModel", "putTwo", "(I)V"⟩, 145) := ⟨⟨by decide +kernel, by decide +kernel⟩, List.mem_of_getElem? (i := 1746) (by decide +kernel), List.mem_of_getElem? (i := 2595) (by decide +kernel), List.mem_of_getElem? (i := 2596) (by decide +kernel)⟩
theorem lw_p143 : lw_okq (⟨"RealmHouseModel", "octetField", "(I[BII)V"⟩, 145) := ⟨⟨by decide +kernel, by decide +kernel⟩, List.mem_of_getElem? (i := 1746) (by decide +kernel), List.mem_of_getElem? (i := 2599) (by decide +kernel), List.mem_of_getElem? (i := 2600) (by decide +kernel)⟩
def lw_privs_9 : List (MethodName × Nat) := [(⟨"RealmHouseModel", "bit", "(II)Z"⟩, 145), (⟨"RealmHouseModel", "startOf", "(III)J"⟩, 145), (⟨"RealmHouseModel", "both", "(II)Z"⟩, 145), (⟨"RealmHouseModel", "newKey", "(I[B)V"⟩, 145), (⟨"RealmHouseModel", "coin", "()I"⟩, 145), (⟨"RealmHouseModel", "start", "()V"⟩, 145), (⟨"RealmHouseModel", "part", "()V"⟩, 145), (⟨"RealmHouseModel", "copyField", "(III)V"⟩, 145), (⟨"RealmHouseModel", "putBytes", "([BII)V"⟩, 145), (⟨"RealmHouseModel", "one", "(I)V"⟩, 145), (⟨"RealmHouseModel", "field", "(II)V"⟩, 145), (⟨"RealmHouseModel", "head", "(II)V"⟩, 145), (⟨"RealmHouseModel", "timeField", "(IJ)V"⟩, 145), (⟨"RealmHouseModel", "putTime", "(J)V"⟩, 145), (⟨"RealmHouseModel", "putTwo", "(I)V"⟩, 145), (⟨"RealmHouseModel", "octetField", "(I[BII)V"⟩, 145)]
theorem lw_r9 : ∀ q ∈ lw_privs_9, lw_okq q := List.forall_mem_cons.mpr ⟨lw_p128, List.forall_mem_cons.mpr ⟨lw_p129, List.forall_mem_cons.mpr ⟨lw_p130, List.forall_mem_cons.mpr ⟨lw_p131, List.forall_mem_cons.mpr ⟨lw_p132, List.forall_mem_cons.mpr ⟨lw_p133, List.forall_mem_cons.mpr ⟨lw_p134, List.forall_mem_cons.mpr ⟨lw_p135, List.forall_mem_cons.mpr ⟨lw_p136, List.forall_mem_cons.mpr ⟨lw_p137, List.forall_mem_cons.mpr ⟨lw_p138, List.forall_mem_cons.mpr ⟨lw_p139, List.forall_mem_cons.mpr ⟨lw_p140, List.forall_mem_cons.mpr ⟨lw_p141, List.forall_mem_cons.mpr ⟨lw_p142, List.forall_mem_cons.mpr ⟨lw_p143, fun _ h => absurd h List.not_mem_nil⟩⟩⟩⟩⟩⟩⟩⟩⟩⟩⟩⟩⟩⟩⟩⟩
theorem lw_p144 : lw_okq (⟨"RealmHouseModel", "numberField", "(IJ)V"⟩, 145) := ⟨⟨by decide +kernel, by decide +kernel⟩, List.mem_of_getElem? (i := 1746) (by decide +kernel), List.mem_of_getElem? (i := 2603) (by decide +kernel), List.mem_of_getElem? (i := 2604) (by decide +kernel)⟩
theorem lw_p145 : lw_okq (⟨"RealmHouseModel", "putNumber", "(J)V"⟩, 145) := ⟨⟨by decide +kernel, by decide +kernel⟩, List.mem_of_getElem? (i := 1746) (by decide +kernel), List.mem_of_getElem? (i := 2607) (by decide +kernel), List.mem_of_getElem? (i := 2608) (by decide +kernel)⟩
theorem lw_p146 : lw_okq (⟨"RealmHouseModel", "wordField", "(ILjava/lang/String;)V"⟩, 145) := ⟨⟨by decide +kernel, by decide +kernel⟩, List.mem_of_getElem? (i := 1746) (by decide +kernel), List.mem_of_getElem? (i := 2611) (by decide +kernel), List.mem_of_getElem? (i := 2612) (by decide +kernel)⟩
theorem lw_p147 : lw_okq (⟨"RealmHouseModel", "putWord", "(Ljava/lang/String;)V"⟩, 145) := ⟨⟨by decide +kernel, by decide +kernel⟩, List.mem_of_getElem? (i := 1746) (by decide +kernel), List.mem_of_getElem? (i := 2615) (by decide +kernel), List.mem_of_getElem? (i := 2616) (by decide +kernel)⟩
theorem lw_p148 : lw_okq (⟨"RealmHouseModel", "keyField", "(II[B)V"⟩, 145) := ⟨⟨by decide +kernel, by decide +kernel⟩, List.mem_of_getElem? (i := 1746) (by decide +kernel), List.mem_of_getElem? (i := 2619) (by decide +kernel), List.mem_of_getElem? (i := 2620) (by decide +kernel)⟩
theorem lw_p149 : lw_okq (⟨"RealmHouseModel", "flagsField", "(II)V"⟩, 145) := ⟨⟨by decide +kernel, by decide +kernel⟩, List.mem_of_getElem? (i := 1746) (by decide +kernel), List.mem_of_getElem? (i := 2623) (by decide +kernel), List.mem_of_getElem? (i := 2624) (by decide +kernel)⟩
theorem lw_p150 : lw_okq (⟨"RealmHouseModel", "seal", "([BIIII)V"⟩, 145) := ⟨⟨by decide +kernel, by decide +kernel⟩, List.mem_of_getElem? (i := 1746) (by decide +kernel), List.mem_of_getElem? (i := 2627) (by decide +kernel), List.mem_of_getElem? (i := 2628) (by decide +kernel)⟩
theorem lw_p151 : lw_okq (⟨"RealmHouseModel", "sealedField", "(IIJ)V"⟩, 145) := ⟨⟨by decide +kernel, by decide +kernel⟩, List.mem_of_getElem? (i := 1746) (by decide +kernel), List.mem_of_getElem? (i := 2631) (by decide +kernel), List.mem_of_getElem? (i := 2632) (by decide +kernel)⟩
theorem lw_p152 : lw_okq (⟨"RealmHouseModel", "putSealed", "(IJ)V"⟩, 145) := ⟨⟨by decide +kernel, by decide +kernel⟩, List.mem_of_getElem? (i := 1746) (by decide +kernel), List.mem_of_getElem? (i := 2635) (by decide +kernel), List.mem_of_getElem? (i := 2636) (by decide +kernel)⟩
theorem lw_p153 : lw_okq (⟨"RealmHouseModel", "reply", "(I)V"⟩, 145) := ⟨⟨by decide +kernel, by decide +kernel⟩, List.mem_of_getElem? (i := 1746) (by decide +kernel), List.mem_of_getElem? (i := 2639) (by decide +kernel), List.mem_of_getElem? (i := 2640) (by decide +kernel)⟩
theorem lw_p154 : lw_okq (⟨"RealmHouseModel", "keyIn", "(II[B)I"⟩, 145) := ⟨⟨by decide +kernel, by decide +kernel⟩, List.mem_of_getElem? (i := 1746) (by decide +kernel), List.mem_of_getElem? (i := 2643) (by decide +kernel), List.mem_of_getElem? (i := 2644) (by decide +kernel)⟩
theorem lw_p155 : lw_okq (⟨"RealmHouseModel", "infoOf", "(III)V"⟩, 145) := ⟨⟨by decide +kernel, by decide +kernel⟩, List.mem_of_getElem? (i := 1746) (by decide +kernel), List.mem_of_getElem? (i := 2647) (by decide +kernel), List.mem_of_getElem? (i := 2648) (by decide +kernel)⟩
theorem lw_p156 : lw_okq (⟨"RealmHouseModel", "written", "()V"⟩, 145) := ⟨⟨by decide +kernel, by decide +kernel⟩, List.mem_of_getElem? (i := 1746) (by decide +kernel), List.mem_of_getElem? (i := 2654) (by decide +kernel), List.mem_of_getElem? (i := 2655) (by decide +kernel)⟩
theorem lw_p157 : lw_okq (⟨"RealmHouseModel", "toOut", "(II)V"⟩, 145) := ⟨⟨by decide +kernel, by decide +kernel⟩, List.mem_of_getElem? (i := 1746) (by decide +kernel), List.mem_of_getElem? (i := 2658) (by decide +kernel), List.mem_of_getElem? (i := 2659) (by decide +kernel)⟩
theorem lw_p158 : lw_okq (⟨"RealmHouseModel", "further", "()I"⟩, 145) := ⟨⟨by decide +kernel, by decide +kernel⟩, List.mem_of_getElem? (i := 1746) (by decide +kernel), List.mem_of_getElem? (i := 2662) (by decide +kernel), List.mem_of_getElem? (i := 2663) (by decide +kernel)⟩
theorem lw_p159 : lw_okq (⟨"RealmHouseModel", "opensTicket", "(IZ)I"⟩, 145) := ⟨⟨by decide +kernel, by decide +kernel⟩, List.mem_of_getElem? (i := 1746) (by decide +kernel), List.mem_of_getElem? (i := 2668) (by decide +kernel), List.mem_of_getElem? (i := 2669) (by decide +kernel)⟩
def lw_privs_10 : List (MethodName × Nat) := [(⟨"RealmHouseModel", "numberField", "(IJ)V"⟩, 145), (⟨"RealmHouseModel", "putNumber", "(J)V"⟩, 145), (⟨"RealmHouseModel", "wordField", "(ILjava/lang/String;)V"⟩, 145), (⟨"RealmHouseModel", "putWord", "(Ljava/lang/String;)V"⟩, 145), (⟨"RealmHouseModel", "keyField", "(II[B)V"⟩, 145), (⟨"RealmHouseModel", "flagsField", "(II)V"⟩, 145), (⟨"RealmHouseModel", "seal", "([BIIII)V"⟩, 145), (⟨"RealmHouseModel", "sealedField", "(IIJ)V"⟩, 145), (⟨"RealmHouseModel", "putSealed", "(IJ)V"⟩, 145), (⟨"RealmHouseModel", "reply", "(I)V"⟩, 145), (⟨"RealmHouseModel", "keyIn", "(II[B)I"⟩, 145), (⟨"RealmHouseModel", "infoOf", "(III)V"⟩, 145), (⟨"RealmHouseModel", "written", "()V"⟩, 145), (⟨"RealmHouseModel", "toOut", "(II)V"⟩, 145), (⟨"RealmHouseModel", "further", "()I"⟩, 145), (⟨"RealmHouseModel", "opensTicket", "(IZ)I"⟩, 145)]
theorem lw_r10 : ∀ q ∈ lw_privs_10, lw_okq q := List.forall_mem_cons.mpr ⟨lw_p144, List.forall_mem_cons.mpr ⟨lw_p145, List.forall_mem_cons.mpr ⟨lw_p146, List.forall_mem_cons.mpr ⟨lw_p147, List.forall_mem_cons.mpr ⟨lw_p148, List.forall_mem_cons.mpr ⟨lw_p149, List.forall_mem_cons.mpr ⟨lw_p150, List.forall_mem_cons.mpr ⟨lw_p151, List.forall_mem_cons.mpr ⟨lw_p152, List.forall_mem_cons.mpr ⟨lw_p153, List.forall_mem_cons.mpr ⟨lw_p154, List.forall_mem_cons.mpr ⟨lw_p155, List.forall_mem_cons.mpr ⟨lw_p156, List.forall_mem_cons.mpr ⟨lw_p157, List.forall_mem_cons.mpr ⟨lw_p158, List.forall_mem_cons.mpr ⟨lw_p159, fun _ h => absurd h List.not_mem_nil⟩⟩⟩⟩⟩⟩⟩⟩⟩⟩⟩⟩⟩⟩⟩⟩
theorem lw_p160 : lw_okq (⟨"RealmHouseModel", "mayOpen", "(IJ)Z"⟩, 145) := ⟨⟨by decide +kernel, by decide +kernel⟩, List.mem_of_getElem? (i := 1746) (by decide +kernel), List.mem_of_getElem? (i := 2672) (by decide +kernel), List.mem_of_getElem? (i := 2673) (by decide +kernel)⟩
theorem lw_p161 : lw_okq (⟨"RealmHouseModel", "opensAuthenticator", "(I)I"⟩, 145) := ⟨⟨by decide +kernel, by decide +kernel⟩, List.mem_of_getElem? (i := 1746) (by decide +kernel), List.mem_of_getElem? (i := 2677) (by decide +kernel), List.mem_of_getElem? (i := 2678) (by decide +kernel)⟩
theorem lw_p162 : lw_okq (⟨"RealmHouseModel", "sameTime", "(I)I"⟩, 145) := ⟨⟨by decide +kernel, by decide +kernel⟩, List.mem_of_getElem? (i := 1746) (by decide +kernel), List.mem_of_getElem? (i := 2682) (by decide +kernel), List.mem_of_getElem? (i := 2683) (by decide +kernel)⟩
theorem lw_p163 : lw_okq (⟨"RealmHouseModel", "isSame", "(IIII)Z"⟩, 145) := ⟨⟨by decide +kernel, by decide +kernel⟩, List.mem_of_getElem? (i := 1746) (by decide +kernel), List.mem_of_getElem? (i := 2686) (by decide +kernel), List.mem_of_getElem? (i := 2687) (by decide +kernel)⟩
theorem lw_p164 : lw_okq (⟨"RealmHouseModel", "sameNames", "(IIII)Z"⟩, 145) := ⟨⟨by decide +kernel, by decide +kernel⟩, List.mem_of_getElem? (i := 1746) (by decide +kernel), List.mem_of_getElem? (i := 2690) (by decide +kernel), List.mem_of_getElem? (i := 2691) (by decide +kernel)⟩
theorem lw_p165 : lw_okq (⟨"RealmHouseModel", "seen", "(IIIJI)I"⟩, 145) := ⟨⟨by decide +kernel, by decide +kernel⟩, List.mem_of_getElem? (i := 1746) (by decide +kernel), List.mem_of_getElem? (i := 2694) (by decide +kernel), List.mem_of_getElem? (i := 2695) (by decide +kernel)⟩
theorem lw_p166 : lw_okq (⟨"RealmHouseModel", "checksum", "([BIIII)V"⟩, 145) := ⟨⟨by decide +kernel, by decide +kernel⟩, List.mem_of_getElem? (i := 1746) (by decide +kernel), List.mem_of_getElem? (i := 2699) (by decide +kernel), List.mem_of_getElem? (i := 2700) (by decide +kernel)⟩
theorem lw_p167 : lw_okq (⟨"RealmHouseModel", "error", "(I)V"⟩, 145) := ⟨⟨by decide +kernel, by decide +kernel⟩, List.mem_of_getElem? (i := 1746) (by decide +kernel), List.mem_of_getElem? (i := 2703) (by decide +kernel), List.mem_of_getElem? (i := 2704) (by decide +kernel)⟩
theorem lw_p168 : lw_okq (⟨"RealmHouseModel", "nameField", "(III)V"⟩, 145) := ⟨⟨by decide +kernel, by decide +kernel⟩, List.mem_of_getElem? (i := 1746) (by decide +kernel), List.mem_of_getElem? (i := 2707) (by decide +kernel), List.mem_of_getElem? (i := 2708) (by decide +kernel)⟩
theorem lw_p169 : lw_okq (⟨"RealmHouseModel", "putParts", "([BII)V"⟩, 145) := ⟨⟨by decide +kernel, by decide +kernel⟩, List.mem_of_getElem? (i := 1746) (by decide +kernel), List.mem_of_getElem? (i := 2711) (by decide +kernel), List.mem_of_getElem? (i := 2712) (by decide +kernel)⟩
theorem lw_p170 : lw_okq (⟨"RealmHouseModel", "errorHead", "(I)V"⟩, 145) := ⟨⟨by decide +kernel, by decide +kernel⟩, List.mem_of_getElem? (i := 1746) (by decide +kernel), List.mem_of_getElem? (i := 2715) (by decide +kernel), List.mem_of_getElem? (i := 2716) (by decide +kernel)⟩
theorem lw_p171 : lw_okq (⟨"RealmHouseModel", "hasAgent", "(I)Z"⟩, 145) := ⟨⟨by decide +kernel, by decide +kernel⟩, List.mem_of_getElem? (i := 1746) (by decide +kernel), List.mem_of_getElem? (i := 2728) (by decide +kernel), List.mem_of_getElem? (i := 2729) (by decide +kernel)⟩
theorem lw_p172 : lw_okq (⟨"RealmHouseModel", "hasTicket", "(II)Z"⟩, 145) := ⟨⟨by decide +kernel, by decide +kernel⟩, List.mem_of_getElem? (i := 1746) (by decide +kernel), List.mem_of_getElem? (i := 2738) (by decide +kernel), List.mem_of_getElem? (i := 2739) (by decide +kernel)⟩
theorem lw_p173 : lw_okq (⟨"RealmHouseModel", "clockOf", "(I)J"⟩, 145) := ⟨⟨by decide +kernel, by decide +kernel⟩, List.mem_of_getElem? (i := 1746) (by decide +kernel), List.mem_of_getElem? (i := 2751) (by decide +kernel), List.mem_of_getElem? (i := 2752) (by decide +kernel)⟩
theorem lw_p174 : lw_okq (⟨"RealmHouseModel", "fourCoins", "()I"⟩, 145) := ⟨⟨by decide +kernel, by decide +kernel⟩, List.mem_of_getElem? (i := 1746) (by decide +kernel), List.mem_of_getElem? (i := 2756) (by decide +kernel), List.mem_of_getElem? (i := 2757) (by decide +kernel)⟩
theorem lw_p175 : lw_okq (⟨"RealmHouseModel", "partsField", "(I[BIII)V"⟩, 145) := ⟨⟨by decide +kernel, by decide +kernel⟩, List.mem_of_getElem? (i := 1746) (by decide +kernel), List.mem_of_getElem? (i := 2765) (by decide +kernel), List.mem_of_getElem? (i := 2766) (by decide +kernel)⟩
def lw_privs_11 : List (MethodName × Nat) := [(⟨"RealmHouseModel", "mayOpen", "(IJ)Z"⟩, 145), (⟨"RealmHouseModel", "opensAuthenticator", "(I)I"⟩, 145), (⟨"RealmHouseModel", "sameTime", "(I)I"⟩, 145), (⟨"RealmHouseModel", "isSame", "(IIII)Z"⟩, 145), (⟨"RealmHouseModel", "sameNames", "(IIII)Z"⟩, 145), (⟨"RealmHouseModel", "seen", "(IIIJI)I"⟩, 145), (⟨"RealmHouseModel", "checksum", "([BIIII)V"⟩, 145), (⟨"RealmHouseModel", "error", "(I)V"⟩, 145), (⟨"RealmHouseModel", "nameField", "(III)V"⟩, 145), (⟨"RealmHouseModel", "putParts", "([BII)V"⟩, 145), (⟨"RealmHouseModel", "errorHead", "(I)V"⟩, 145), (⟨"RealmHouseModel", "hasAgent", "(I)Z"⟩, 145), (⟨"RealmHouseModel", "hasTicket", "(II)Z"⟩, 145), (⟨"RealmHouseModel", "clockOf", "(I)J"⟩, 145), (⟨"RealmHouseModel", "fourCoins", "()I"⟩, 145), (⟨"RealmHouseModel", "partsField", "(I[BIII)V"⟩, 145)]
theorem lw_r11 : ∀ q ∈ lw_privs_11, lw_okq q := List.forall_mem_cons.mpr ⟨lw_p160, List.forall_mem_cons.mpr ⟨lw_p161, List.forall_mem_cons.mpr ⟨lw_p162, List.forall_mem_cons.mpr ⟨lw_p163, List.forall_mem_cons.mpr ⟨lw_p164, List.forall_mem_cons.mpr ⟨lw_p165, List.forall_mem_cons.mpr ⟨lw_p166, List.forall_mem_cons.mpr ⟨lw_p167, List.forall_mem_cons.mpr ⟨lw_p168, List.forall_mem_cons.mpr ⟨lw_p169, List.forall_mem_cons.mpr ⟨lw_p170, List.forall_mem_cons.mpr ⟨lw_p171, List.forall_mem_cons.mpr ⟨lw_p172, List.forall_mem_cons.mpr ⟨lw_p173, List.forall_mem_cons.mpr ⟨lw_p174, List.forall_mem_cons.mpr ⟨lw_p175, fun _ h => absurd h List.not_mem_nil⟩⟩⟩⟩⟩⟩⟩⟩⟩⟩⟩⟩⟩⟩⟩⟩
theorem lw_p176 : lw_okq (⟨"RealmHouseModel", "toRoom", "()I"⟩, 145) := ⟨⟨by decide +kernel, by decide +kernel⟩, List.mem_of_getElem? (i := 1746) (by decide +kernel), List.mem_of_getElem? (i := 2769) (by decide +kernel), List.mem_of_getElem? (i := 2770) (by decide +kernel)⟩
theorem lw_p177 : lw_okq (⟨"RealmHouseModel", "authenticator", "(IIJZ)V"⟩, 145) := ⟨⟨by decide +kernel, by decide +kernel⟩, List.mem_of_getElem? (i := 1746) (by decide +kernel), List.mem_of_getElem? (i := 2773) (by decide +kernel), List.mem_of_getElem? (i := 2774) (by decide +kernel)⟩
theorem lw_p178 : lw_okq (⟨"RealmHouseModel", "rowField", "(I[BII)V"⟩, 145) := ⟨⟨by decide +kernel, by decide +kernel⟩, List.mem_of_getElem? (i := 1746) (by decide +kernel), List.mem_of_getElem? (i := 2777) (by decide +kernel), List.mem_of_getElem? (i := 2778) (by decide +kernel)⟩
theorem lw_p179 : lw_okq (⟨"RealmHouseModel", "apReq", "(II)V"⟩, 145) := ⟨⟨by decide +kernel, by decide +kernel⟩, List.mem_of_getElem? (i := 1746) (by decide +kernel), List.mem_of_getElem? (i := 2781) (by decide +kernel), List.mem_of_getElem? (i := 2782) (by decide +kernel)⟩
theorem lw_p180 : lw_okq (⟨"RealmHouseModel", "taken", "(II)I"⟩, 145) := ⟨⟨by decide +kernel, by decide +kernel⟩, List.mem_of_getElem? (i := 1746) (by decide +kernel), List.mem_of_getElem? (i := 2793) (by decide +kernel), List.mem_of_getElem? (i := 2794) (by decide +kernel)⟩
theorem lw_p181 : lw_okq (⟨"RealmHouseModel", "isParts", "(II[BII)Z"⟩, 145) := ⟨⟨by decide +kernel, by decide +kernel⟩, List.mem_of_getElem? (i := 1746) (by decide +kernel), List.mem_of_getElem? (i := 2797) (by decide +kernel), List.mem_of_getElem? (i := 2798) (by decide +kernel)⟩
theorem lw_p182 : lw_okq (⟨"RealmHouseModel", "isBytes", "(II[BII)Z"⟩, 145) := ⟨⟨by decide +kernel, by decide +kernel⟩, List.mem_of_getElem? (i := 1746) (by decide +kernel), List.mem_of_getElem? (i := 2801) (by decide +kernel), List.mem_of_getElem? (i := 2802) (by decide +kernel)⟩
theorem lw_p183 : lw_okq (⟨"RealmHouseModel", "served", "(II)I"⟩, 145) := ⟨⟨by decide +kernel, by decide +kernel⟩, List.mem_of_getElem? (i := 1746) (by decide +kernel), List.mem_of_getElem? (i := 2814) (by decide +kernel), List.mem_of_getElem? (i := 2815) (by decide +kernel)⟩
theorem lw_p184 : lw_okq (⟨"RealmHouseModel", "hasSide", "(II)Z"⟩, 145) := ⟨⟨by decide +kernel, by decide +kernel⟩, List.mem_of_getElem? (i := 1746) (by decide +kernel), List.mem_of_getElem? (i := 2833) (by decide +kernel), List.mem_of_getElem? (i := 2834) (by decide +kernel)⟩
theorem lw_p185 : lw_okq (⟨"RealmHouseModel", "message", "(III)V"⟩, 145) := ⟨⟨by decide +kernel, by decide +kernel⟩, List.mem_of_getElem? (i := 1746) (by decide +kernel), List.mem_of_getElem? (i := 2837) (by decide +kernel), List.mem_of_getElem? (i := 2838) (by decide +kernel)⟩
theorem lw_p186 : lw_okq (⟨"RealmHouseModel", "clockOfSide", "(II)J"⟩, 145) := ⟨⟨by decide +kernel, by decide +kernel⟩, List.mem_of_getElem? (i := 1746) (by decide +kernel), List.mem_of_getElem? (i := 2841) (by decide +kernel), List.mem_of_getElem? (i := 2842) (by decide +kernel)⟩
theorem lw_p187 : lw_okq (⟨"RealmHouseModel", "heard", "(II)I"⟩, 145) := ⟨⟨by decide +kernel, by decide +kernel⟩, List.mem_of_getElem? (i := 1746) (by decide +kernel), List.mem_of_getElem? (i := 2851) (by decide +kernel), List.mem_of_getElem? (i := 2852) (by decide +kernel)⟩
def lw_privs_12 : List (MethodName × Nat) := [(⟨"RealmHouseModel", "toRoom", "()I"⟩, 145), (⟨"RealmHouseModel", "authenticator", "(IIJZ)V"⟩, 145), (⟨"RealmHouseModel", "rowField", "(I[BII)V"⟩, 145), (⟨"RealmHouseModel", "apReq", "(II)V"⟩, 145), (⟨"RealmHouseModel", "taken", "(II)I"⟩, 145), (⟨"RealmHouseModel", "isParts", "(II[BII)Z"⟩, 145), (⟨"RealmHouseModel", "isBytes", "(II[BII)Z"⟩, 145), (⟨"RealmHouseModel", "served", "(II)I"⟩, 145), (⟨"RealmHouseModel", "hasSide", "(II)Z"⟩, 145), (⟨"RealmHouseModel", "message", "(III)V"⟩, 145), (⟨"RealmHouseModel", "clockOfSide", "(II)J"⟩, 145), (⟨"RealmHouseModel", "heard", "(II)I"⟩, 145)]
theorem lw_r12 : ∀ q ∈ lw_privs_12, lw_okq q := List.forall_mem_cons.mpr ⟨lw_p176, List.forall_mem_cons.mpr ⟨lw_p177, List.forall_mem_cons.mpr ⟨lw_p178, List.forall_mem_cons.mpr ⟨lw_p179, List.forall_mem_cons.mpr ⟨lw_p180, List.forall_mem_cons.mpr ⟨lw_p181, List.forall_mem_cons.mpr ⟨lw_p182, List.forall_mem_cons.mpr ⟨lw_p183, List.forall_mem_cons.mpr ⟨lw_p184, List.forall_mem_cons.mpr ⟨lw_p185, List.forall_mem_cons.mpr ⟨lw_p186, List.forall_mem_cons.mpr ⟨lw_p187, fun _ h => absurd h List.not_mem_nil⟩⟩⟩⟩⟩⟩⟩⟩⟩⟩⟩⟩
def lw_privs : List (MethodName × Nat) := lw_privs_1 ++ (lw_privs_2 ++ (lw_privs_3 ++ (lw_privs_4 ++ (lw_privs_5 ++ (lw_privs_6 ++ (lw_privs_7 ++ (lw_privs_8 ++ (lw_privs_9 ++ (lw_privs_10 ++ (lw_privs_11 ++ (lw_privs_12)))))))))))
def lw_tbl : List Cond := k2_sels lw_privs ++ tables_1
theorem lw_privs_ok : ∀ q ∈ lw_privs, lw_okq q := by
  show ∀ q ∈ lw_privs_1 ++ (lw_privs_2 ++ (lw_privs_3 ++ (lw_privs_4 ++ (lw_privs_5 ++ (lw_privs_6 ++ (lw_privs_7 ++ (lw_privs_8 ++ (lw_privs_9 ++ (lw_privs_10 ++ (lw_privs_11 ++ (lw_privs_12))))))))))), lw_okq q
  exact List.forall_mem_append.mpr ⟨lw_r1, List.forall_mem_append.mpr ⟨lw_r2, List.forall_mem_append.mpr ⟨lw_r3, List.forall_mem_append.mpr ⟨lw_r4, List.forall_mem_append.mpr ⟨lw_r5, List.forall_mem_append.mpr ⟨lw_r6, List.forall_mem_append.mpr ⟨lw_r7, List.forall_mem_append.mpr ⟨lw_r8, List.forall_mem_append.mpr ⟨lw_r9, List.forall_mem_append.mpr ⟨lw_r10, List.forall_mem_append.mpr ⟨lw_r11, lw_r12⟩⟩⟩⟩⟩⟩⟩⟩⟩⟩⟩
end
section
-- printed by wip/tools/gen/model.py: names of RealmHouseModel
def R_M : String := "RealmHouseModel"
def F_M : u_T := fun k => match k with
  | 0 => ("RealmHouseModel", "mem", "[B", true)
  | 1 => ("RealmHouseModel", "outs", "[B", true)
  | 2 => ("RealmHouseModel", "length", "I", false)
  | 3 => ("RealmHouseModel", "outMany", "I", false)
  | 4 => ("RealmHouseModel", "now", "I", false)
  | 5 => ("RealmHouseModel", "h", "[I", true)
  | 6 => ("RealmHouseModel", "w", "[I", true)
  | 7 => ("RealmHouseModel", "block", "[B", true)
  | 8 => ("RealmHouseModel", "hashed", "I", false)
  | 9 => ("RealmHouseModel", "inner", "[B", true)
  | 10 => ("RealmHouseModel", "mac", "[B", true)
  | 11 => ("RealmHouseModel", "macKey", "[B", true)
  | 12 => ("RealmHouseModel", "box", "[I", true)
  | 13 => ("RealmHouseModel", "back", "[I", true)
  | 14 => ("RealmHouseModel", "hasBox", "Z", false)
  | 15 => ("RealmHouseModel", "schedule", "[I", true)
  | 16 => ("RealmHouseModel", "state", "[I", true)
  | 17 => ("RealmHouseModel", "other", "[I", true)
  | 18 => ("RealmHouseModel", "rounds", "I", false)
  | 19 => ("RealmHouseModel", "fold", "[B", true)
  | 20 => ("RealmHouseModel", "derived", "[B", true)
  | 21 => ("RealmHouseModel", "folding", "[I", true)
  | 22 => ("RealmHouseModel", "constant", "[B", true)
  | 23 => ("RealmHouseModel", "use", "[B", true)
  | 24 => ("RealmHouseModel", "salt", "[B", true)
  | 25 => ("RealmHouseModel", "password", "[B", true)
  | 26 => ("RealmHouseModel", "mixed", "[B", true)
  | 27 => ("RealmHouseModel", "long0", "[B", true)
  | 28 => ("RealmHouseModel", "kerberos", "[B", true)
  | 29 => ("RealmHouseModel", "saltMany", "I", false)
  | 30 => ("RealmHouseModel", "passwordMany", "I", false)
  | 31 => ("RealmHouseModel", "seed", "[B", true)
  | 32 => ("RealmHouseModel", "seedMany", "I", false)
  | 33 => ("RealmHouseModel", "coin", "I", false)
  | 34 => ("RealmHouseModel", "text", "[B", true)
  | 35 => ("RealmHouseModel", "secret", "[B", true)
  | 36 => ("RealmHouseModel", "secretMany", "I", false)
  | 37 => ("RealmHouseModel", "from", "[I", true)
  | 38 => ("RealmHouseModel", "to", "[I", true)
  | 39 => ("RealmHouseModel", "inside", "I", false)
  | 40 => ("RealmHouseModel", "behind", "I", false)
  | 41 => ("RealmHouseModel", "value", "J", false)
  | 42 => ("RealmHouseModel", "w0", "I", false)
  | 43 => ("RealmHouseModel", "principals", "I", false)
  | 44 => ("RealmHouseModel", "names", "[B", true)
  | 45 => ("RealmHouseModel", "nameSizes", "[I", true)
  | 46 => ("RealmHouseModel", "versions", "[I", true)
  | 47 => ("RealmHouseModel", "counts", "[I", true)
  | 48 => ("RealmHouseModel", "lifes", "[I", true)
  | 49 => ("RealmHouseModel", "renews", "[I", true)
  | 50 => ("RealmHouseModel", "flags", "[I", true)
  | 51 => ("RealmHouseModel", "ends", "[I", true)
  | 52 => ("RealmHouseModel", "keys", "[B", true)
  | 53 => ("RealmHouseModel", "name", "[B", true)
  | 54 => ("RealmHouseModel", "nameSize", "I", false)
  | 55 => ("RealmHouseModel", "colon", "I", false)
  | 56 => ("RealmHouseModel", "made", "[B", true)
  | 57 => ("RealmHouseModel", "most", "I", false)
  | 58 => ("RealmHouseModel", "key", "[B", true)
  | 59 => ("RealmHouseModel", "sub", "[B", true)
  | 60 => ("RealmHouseModel", "fresh", "[B", true)
  | 61 => ("RealmHouseModel", "seenNames", "[B", true)
  | 62 => ("RealmHouseModel", "seenSizes", "[I", true)
  | 63 => ("RealmHouseModel", "seenMicros", "[I", true)
  | 64 => ("RealmHouseModel", "seenMany", "[I", true)
  | 65 => ("RealmHouseModel", "seenTimes", "[J", true)
  | 66 => ("RealmHouseModel", "dataMany", "I", false)
  | 67 => ("RealmHouseModel", "isRead", "Z", false)
  | 68 => ("RealmHouseModel", "hasData", "Z", false)
  | 69 => ("RealmHouseModel", "isAs", "Z", false)
  | 70 => ("RealmHouseModel", "dataFor", "I", false)
  | 71 => ("RealmHouseModel", "dataFirst", "I", false)
  | 72 => ("RealmHouseModel", "dataBoth", "Z", false)
  | 73 => ("RealmHouseModel", "nthAt", "I", false)
  | 74 => ("RealmHouseModel", "nthEnd", "I", false)
  | 75 => ("RealmHouseModel", "client", "I", false)
  | 76 => ("RealmHouseModel", "service", "I", false)
  | 77 => ("RealmHouseModel", "type", "I", false)
  | 78 => ("RealmHouseModel", "shown", "Z", false)
  | 79 => ("RealmHouseModel", "ticketType", "I", false)
  | 80 => ("RealmHouseModel", "subType", "I", false)
  | 81 => ("RealmHouseModel", "newFlags", "I", false)
  | 82 => ("RealmHouseModel", "newEnd", "J", false)
  | 83 => ("RealmHouseModel", "newRenew", "J", false)
  | 84 => ("RealmHouseModel", "hasRenew", "Z", false)
  | 85 => ("RealmHouseModel", "hasAddress", "Z", false)
  | 86 => ("RealmHouseModel", "addressAt", "I", false)
  | 87 => ("RealmHouseModel", "addressEnd", "I", false)
  | 88 => ("RealmHouseModel", "clientAt", "I", false)
  | 89 => ("RealmHouseModel", "clientEnd", "I", false)
  | 90 => ("RealmHouseModel", "rounds4", "[B", true)
  | 91 => ("RealmHouseModel", "isAgent", "[Z", true)
  | 92 => ("RealmHouseModel", "agentNames", "[B", true)
  | 93 => ("RealmHouseModel", "agentSizes", "[I", true)
  | 94 => ("RealmHouseModel", "shifts", "[I", true)
  | 95 => ("RealmHouseModel", "micros", "[I", true)
  | 96 => ("RealmHouseModel", "agentKeys", "[B", true)
  | 97 => ("RealmHouseModel", "isTicket", "[Z", true)
  | 98 => ("RealmHouseModel", "ticketBytes", "[B", true)
  | 99 => ("RealmHouseModel", "ticketKeys", "[B", true)
  | 100 => ("RealmHouseModel", "ticketSizes", "[I", true)
  | 101 => ("RealmHouseModel", "ticketFlags", "[I", true)
  | 102 => ("RealmHouseModel", "ticketTypes", "[I", true)
  | 103 => ("RealmHouseModel", "authTimes", "[J", true)
  | 104 => ("RealmHouseModel", "startTimes", "[J", true)
  | 105 => ("RealmHouseModel", "endTimes", "[J", true)
  | 106 => ("RealmHouseModel", "renewTimes", "[J", true)
  | 107 => ("RealmHouseModel", "clientBytes", "[B", true)
  | 108 => ("RealmHouseModel", "realmSizes", "[I", true)
  | 109 => ("RealmHouseModel", "clientSizes", "[I", true)
  | 110 => ("RealmHouseModel", "askedKind", "[I", true)
  | 111 => ("RealmHouseModel", "askedTypes", "[I", true)
  | 112 => ("RealmHouseModel", "askedSub", "[I", true)
  | 113 => ("RealmHouseModel", "askedSize", "[I", true)
  | 114 => ("RealmHouseModel", "askedNonce", "[J", true)
  | 115 => ("RealmHouseModel", "askedRenew", "[Z", true)
  | 116 => ("RealmHouseModel", "askedKeys", "[B", true)
  | 117 => ("RealmHouseModel", "askedNames", "[B", true)
  | 118 => ("RealmHouseModel", "askedClients", "[B", true)
  | 119 => ("RealmHouseModel", "askedRealm", "[I", true)
  | 120 => ("RealmHouseModel", "askedClient", "[I", true)
  | 121 => ("RealmHouseModel", "wantsMet", "[Z", true)
  | 122 => ("RealmHouseModel", "apType", "[I", true)
  | 123 => ("RealmHouseModel", "apSubType", "[I", true)
  | 124 => ("RealmHouseModel", "apMicros", "[I", true)
  | 125 => ("RealmHouseModel", "apSerial", "[I", true)
  | 126 => ("RealmHouseModel", "apKeys", "[B", true)
  | 127 => ("RealmHouseModel", "apSubs", "[B", true)
  | 128 => ("RealmHouseModel", "apTime", "[J", true)
  | 129 => ("RealmHouseModel", "apNumber", "[J", true)
  | 130 => ("RealmHouseModel", "apOther", "[J", true)
  | 131 => ("RealmHouseModel", "serial", "I", false)
  | 132 => ("RealmHouseModel", "kept", "[B", true)
  | 133 => ("RealmHouseModel", "isSession", "[Z", true)
  | 134 => ("RealmHouseModel", "sessionTypes", "[I", true)
  | 135 => ("RealmHouseModel", "sessionAgents", "[I", true)
  | 136 => ("RealmHouseModel", "sessionKeys", "[B", true)
  | 137 => ("RealmHouseModel", "ownNumber", "[J", true)
  | 138 => ("RealmHouseModel", "dueNumber", "[J", true)
  | 139 => ("RealmHouseModel", "beganTime", "[J", true)
  | 140 => ("RealmHouseModel", "beganNumber", "[J", true)
  | 141 => ("RealmHouseModel", "beganMicros", "[I", true)
  | 142 => ("RealmHouseModel", "beganTypes", "[I", true)
  | 143 => ("RealmHouseModel", "beganKeys", "[B", true)
  | _ => ("RealmHouseModel", "address", "[B", true)
def t_M : Nat → FieldType := fun k => match k with
  | 0 => .array .byte
  | 1 => .array .byte
  | 2 => .int
  | 3 => .int
  | 4 => .int
  | 5 => .array .int
  | 6 => .array .int
  | 7 => .array .byte
  | 8 => .int
  | 9 => .array .byte
  | 10 => .array .byte
  | 11 => .array .byte
  | 12 => .array .int
  | 13 => .array .int
  | 14 => .boolean
  | 15 => .array .int
  | 16 => .array .int
  | 17 => .array .int
  | 18 => .int
  | 19 => .array .byte
  | 20 => .array .byte
  | 21 => .array .int
  | 22 => .array .byte
  | 23 => .array .byte
  | 24 => .array .byte
  | 25 => .array .byte
  | 26 => .array .byte
  | 27 => .array .byte
  | 28 => .array .byte
  | 29 => .int
  | 30 => .int
  | 31 => .array .byte
  | 32 => .int
  | 33 => .int
  | 34 => .array .byte
  | 35 => .array .byte
  | 36 => .int
  | 37 => .array .int
  | 38 => .array .int
  | 39 => .int
  | 40 => .int
  | 41 => .long
  | 42 => .int
  | 43 => .int
  | 44 => .array .byte
  | 45 => .array .int
  | 46 => .array .int
  | 47 => .array .int
  | 48 => .array .int
  | 49 => .array .int
  | 50 => .array .int
  | 51 => .array .int
  | 52 => .array .byte
  | 53 => .array .byte
  | 54 => .int
  | 55 => .int
  | 56 => .array .byte
  | 57 => .int
  | 58 => .array .byte
  | 59 => .array .byte
  | 60 => .array .byte
  | 61 => .array .byte
  | 62 => .array .int
  | 63 => .array .int
  | 64 => .array .int
  | 65 => .array .long
  | 66 => .int
  | 67 => .boolean
  | 68 => .boolean
  | 69 => .boolean
  | 70 => .int
  | 71 => .int
  | 72 => .boolean
  | 73 => .int
  | 74 => .int
  | 75 => .int
  | 76 => .int
  | 77 => .int
  | 78 => .boolean
  | 79 => .int
  | 80 => .int
  | 81 => .int
  | 82 => .long
  | 83 => .long
  | 84 => .boolean
  | 85 => .boolean
  | 86 => .int
  | 87 => .int
  | 88 => .int
  | 89 => .int
  | 90 => .array .byte
  | 91 => .array .boolean
  | 92 => .array .byte
  | 93 => .array .int
  | 94 => .array .int
  | 95 => .array .int
  | 96 => .array .byte
  | 97 => .array .boolean
  | 98 => .array .byte
  | 99 => .array .byte
  | 100 => .array .int
  | 101 => .array .int
  | 102 => .array .int
  | 103 => .array .long
  | 104 => .array .long
  | 105 => .array .long
  | 106 => .array .long
  | 107 => .array .byte
  | 108 => .array .int
  | 109 => .array .int
  | 110 => .array .int
  | 111 => .array .int
  | 112 => .array .int
  | 113 => .array .int
  | 114 => .array .long
  | 115 => .array .boolean
  | 116 => .array .byte
  | 117 => .array .byte
  | 118 => .array .byte
  | 119 => .array .int
  | 120 => .array .int
  | 121 => .array .boolean
  | 122 => .array .int
  | 123 => .array .int
  | 124 => .array .int
  | 125 => .array .int
  | 126 => .array .byte
  | 127 => .array .byte
  | 128 => .array .long
  | 129 => .array .long
  | 130 => .array .long
  | 131 => .int
  | 132 => .array .byte
  | 133 => .array .boolean
  | 134 => .array .int
  | 135 => .array .int
  | 136 => .array .byte
  | 137 => .array .long
  | 138 => .array .long
  | 139 => .array .long
  | 140 => .array .long
  | 141 => .array .int
  | 142 => .array .int
  | 143 => .array .byte
  | _ => .array .byte
theorem n_M : ∀ a, a < 145 → ∀ b, b < 145 → a ≠ b → (F_M a).2.1 ≠ (F_M b).2.1 := by decide +kernel
theorem t_M_ok : ∀ k, k < 145 → parseFieldDescriptor (F_M k).2.2.1 = some (t_M k) := by decide +kernel
theorem i_M0 : u_ws R_M F_M 145 = ([2016, 2018, 2020, 2022, 2024, 2026, 2028, 2030, 2032, 2034, 2036, 2038, 2040, 2042, 2044, 2046, 2048, 2050, 2052, 2054, 2056, 2058, 2060, 2062, 2064, 2066, 2068, 2070, 2072, 2074, 2076, 2078, 2080, 2082, 2084, 2086, 2088, 2090, 2092, 2094, 2096, 2098, 2100, 2102, 2104, 2106, 2108, 2110, 2112, 2114, 2116, 2118, 2120, 2122, 2124, 2126, 2128, 2130, 2132, 2134, 2136, 2138, 2140, 2142, 2144, 2146, 2148, 2150, 2152, 2154, 2156, 2158, 2160, 2162, 2164, 2166, 2168, 2170, 2172, 2174, 2176, 2178, 2180, 2182, 2184, 2186, 2188, 2190, 2192, 2194, 2196, 2198, 2200, 2202, 2204, 2206, 2208, 2210, 2212, 2214, 2216, 2218, 2220, 2222, 2224, 2226, 2228, 2230, 2232, 2234, 2236, 2238, 2240, 2242, 2244, 2246, 2248, 2250, 2252, 2254, 2256, 2258, 2260, 2262, 2264, 2266, 2268, 2270, 2272, 2274, 2276, 2278, 2280, 2282, 2284, 2286, 2288, 2290, 2292, 2294, 2296, 2298, 2300, 2302, 2304] : List Nat).filterMap (fun i => tables_1[i]?) := by decide +kernel
def lw_tg : List Cond := lw_tbl.filter goodWord
theorem i_M1 : (u_ws R_M F_M 145).all goodWord = true := by decide +kernel
theorem i_M : ∀ w ∈ u_ws R_M F_M 145, w ∈ lw_tg := by
  intro w hw
  have hg := List.all_eq_true.mp i_M1 w hw
  rw [i_M0] at hw
  obtain ⟨i, -, hi⟩ := List.mem_filterMap.mp hw
  exact List.mem_filter.mpr ⟨List.mem_append_right _ (List.mem_of_getElem? hi), hg⟩
theorem in_t {w : Cond} (i : Nat) (h : tables_1[i]? = some w) (hg : goodWord w = true := by rfl) : w ∈ lw_tg := List.mem_filter.mpr ⟨List.mem_append_right _ (List.mem_of_getElem? h), hg⟩
theorem lk_mem : Cond.fieldLink R_M 10 R_M (F_M 0).2.1 (F_M 0).2.2.1 ∈ lw_tg := in_t 1872 (by decide +kernel)
theorem lk_outs : Cond.fieldLink R_M 14 R_M (F_M 1).2.1 (F_M 1).2.2.1 ∈ lw_tg := in_t 1873 (by decide +kernel)
theorem lk_length : Cond.fieldLink R_M 332 R_M (F_M 2).2.1 (F_M 2).2.2.1 ∈ lw_tg := in_t 1874 (by decide +kernel)
theorem lk_outMany : Cond.fieldLink R_M 348 R_M (F_M 3).2.1 (F_M 3).2.2.1 ∈ lw_tg := in_t 1875 (by decide +kernel)
theorem lk_now : Cond.fieldLink R_M 18 R_M (F_M 4).2.1 (F_M 4).2.2.1 ∈ lw_tg := in_t 1876 (by decide +kernel)
theorem lk_h : Cond.fieldLink R_M 22 R_M (F_M 5).2.1 (F_M 5).2.2.1 ∈ lw_tg := in_t 1877 (by decide +kernel)
theorem lk_w : Cond.fieldLink R_M 26 R_M (F_M 6).2.1 (F_M 6).2.2.1 ∈ lw_tg := in_t 1878 (by decide +kernel)
theorem lk_block : Cond.fieldLink R_M 29 R_M (F_M 7).2.1 (F_M 7).2.2.1 ∈ lw_tg := in_t 1879 (by decide +kernel)
theorem lk_hashed : Cond.fieldLink R_M 357 R_M (F_M 8).2.1 (F_M 8).2.2.1 ∈ lw_tg := in_t 1880 (by decide +kernel)
theorem lk_inner : Cond.fieldLink R_M 32 R_M (F_M 9).2.1 (F_M 9).2.2.1 ∈ lw_tg := in_t 1881 (by decide +kernel)
theorem lk_mac : Cond.fieldLink R_M 35 R_M (F_M 10).2.1 (F_M 10).2.2.1 ∈ lw_tg := in_t 1882 (by decide +kernel)
theorem lk_macKey : Cond.fieldLink R_M 38 R_M (F_M 11).2.1 (F_M 11).2.2.1 ∈ lw_tg := in_t 1883 (by decide +kernel)
theorem lk_box : Cond.fieldLink R_M 41 R_M (F_M 12).2.1 (F_M 12).2.2.1 ∈ lw_tg := in_t 1884 (by decide +kernel)
theorem lk_back : Cond.fieldLink R_M 44 R_M (F_M 13).2.1 (F_M 13).2.2.1 ∈ lw_tg := in_t 1885 (by decide +kernel)
theorem lk_hasBox : Cond.fieldLink R_M 385 R_M (F_M 14).2.1 (F_M 14).2.2.1 ∈ lw_tg := in_t 1886 (by decide +kernel)
theorem lk_schedule : Cond.fieldLink R_M 47 R_M (F_M 15).2.1 (F_M 15).2.2.1 ∈ lw_tg := in_t 1887 (by decide +kernel)
theorem lk_state : Cond.fieldLink R_M 50 R_M (F_M 16).2.1 (F_M 16).2.2.1 ∈ lw_tg := in_t 1888 (by decide +kernel)
theorem lk_other : Cond.fieldLink R_M 53 R_M (F_M 17).2.1 (F_M 17).2.2.1 ∈ lw_tg := in_t 1889 (by decide +kernel)
theorem lk_rounds : Cond.fieldLink R_M 395 R_M (F_M 18).2.1 (F_M 18).2.2.1 ∈ lw_tg := in_t 1890 (by decide +kernel)
theorem lk_fold : Cond.fieldLink R_M 56 R_M (F_M 19).2.1 (F_M 19).2.2.1 ∈ lw_tg := in_t 1891 (by decide +kernel)
theorem lk_derived : Cond.fieldLink R_M 59 R_M (F_M 20).2.1 (F_M 20).2.2.1 ∈ lw_tg := in_t 1892 (by decide +kernel)
theorem lk_folding : Cond.fieldLink R_M 62 R_M (F_M 21).2.1 (F_M 21).2.2.1 ∈ lw_tg := in_t 1893 (by decide +kernel)
theorem lk_constant : Cond.fieldLink R_M 65 R_M (F_M 22).2.1 (F_M 22).2.2.1 ∈ lw_tg := in_t 1894 (by decide +kernel)
theorem lk_use : Cond.fieldLink R_M 68 R_M (F_M 23).2.1 (F_M 23).2.2.1 ∈ lw_tg := in_t 1895 (by decide +kernel)
theorem lk_salt : Cond.fieldLink R_M 71 R_M (F_M 24).2.1 (F_M 24).2.2.1 ∈ lw_tg := in_t 1896 (by decide +kernel)
theorem lk_password : Cond.fieldLink R_M 74 R_M (F_M 25).2.1 (F_M 25).2.2.1 ∈ lw_tg := in_t 1897 (by decide +kernel)
theorem lk_mixed : Cond.fieldLink R_M 77 R_M (F_M 26).2.1 (F_M 26).2.2.1 ∈ lw_tg := in_t 1898 (by decide +kernel)
theorem lk_long0 : Cond.fieldLink R_M 80 R_M (F_M 27).2.1 (F_M 27).2.2.1 ∈ lw_tg := in_t 1899 (by decide +kernel)
theorem lk_kerberos : Cond.fieldLink R_M 83 R_M (F_M 28).2.1 (F_M 28).2.2.1 ∈ lw_tg := in_t 1900 (by decide +kernel)
theorem lk_saltMany : Cond.fieldLink R_M 426 R_M (F_M 29).2.1 (F_M 29).2.2.1 ∈ lw_tg := in_t 1901 (by decide +kernel)
theorem lk_passwordMany : Cond.fieldLink R_M 418 R_M (F_M 30).2.1 (F_M 30).2.2.1 ∈ lw_tg := in_t 1902 (by decide +kernel)
theorem lk_seed : Cond.fieldLink R_M 86 R_M (F_M 31).2.1 (F_M 31).2.2.1 ∈ lw_tg := in_t 1903 (by decide +kernel)
theorem lk_seedMany : Cond.fieldLink R_M 432 R_M (F_M 32).2.1 (F_M 32).2.2.1 ∈ lw_tg := in_t 1904 (by decide +kernel)
theorem lk_coin : Cond.fieldLink R_M 435 R_M (F_M 33).2.1 (F_M 33).2.2.1 ∈ lw_tg := in_t 1905 (by decide +kernel)
theorem lk_text : Cond.fieldLink R_M 89 R_M (F_M 34).2.1 (F_M 34).2.2.1 ∈ lw_tg := in_t 1906 (by decide +kernel)
theorem lk_secret : Cond.fieldLink R_M 92 R_M (F_M 35).2.1 (F_M 35).2.2.1 ∈ lw_tg := in_t 1907 (by decide +kernel)
theorem lk_secretMany : Cond.fieldLink R_M 447 R_M (F_M 36).2.1 (F_M 36).2.2.1 ∈ lw_tg := in_t 1908 (by decide +kernel)
theorem lk_from : Cond.fieldLink R_M 95 R_M (F_M 37).2.1 (F_M 37).2.2.1 ∈ lw_tg := in_t 1909 (by decide +kernel)
theorem lk_to : Cond.fieldLink R_M 98 R_M (F_M 38).2.1 (F_M 38).2.2.1 ∈ lw_tg := in_t 1910 (by decide +kernel)
theorem lk_inside : Cond.fieldLink R_M 470 R_M (F_M 39).2.1 (F_M 39).2.2.1 ∈ lw_tg := in_t 1911 (by decide +kernel)
theorem lk_behind : Cond.fieldLink R_M 473 R_M (F_M 40).2.1 (F_M 40).2.2.1 ∈ lw_tg := in_t 1912 (by decide +kernel)
theorem lk_value : Cond.fieldLink R_M 491 R_M (F_M 41).2.1 (F_M 41).2.2.1 ∈ lw_tg := in_t 1913 (by decide +kernel)
theorem lk_w0 : Cond.fieldLink R_M 553 R_M (F_M 42).2.1 (F_M 42).2.2.1 ∈ lw_tg := in_t 1914 (by decide +kernel)
theorem lk_principals : Cond.fieldLink R_M 630 R_M (F_M 43).2.1 (F_M 43).2.2.1 ∈ lw_tg := in_t 1915 (by decide +kernel)
theorem lk_names : Cond.fieldLink R_M 101 R_M (F_M 44).2.1 (F_M 44).2.2.1 ∈ lw_tg := in_t 1916 (by decide +kernel)
theorem lk_nameSizes : Cond.fieldLink R_M 104 R_M (F_M 45).2.1 (F_M 45).2.2.1 ∈ lw_tg := in_t 1917 (by decide +kernel)
theorem lk_versions : Cond.fieldLink R_M 107 R_M (F_M 46).2.1 (F_M 46).2.2.1 ∈ lw_tg := in_t 1918 (by decide +kernel)
theorem lk_counts : Cond.fieldLink R_M 110 R_M (F_M 47).2.1 (F_M 47).2.2.1 ∈ lw_tg := in_t 1919 (by decide +kernel)
theorem lk_lifes : Cond.fieldLink R_M 113 R_M (F_M 48).2.1 (F_M 48).2.2.1 ∈ lw_tg := in_t 1920 (by decide +kernel)
theorem lk_renews : Cond.fieldLink R_M 116 R_M (F_M 49).2.1 (F_M 49).2.2.1 ∈ lw_tg := in_t 1921 (by decide +kernel)
theorem lk_flags : Cond.fieldLink R_M 119 R_M (F_M 50).2.1 (F_M 50).2.2.1 ∈ lw_tg := in_t 1922 (by decide +kernel)
theorem lk_ends : Cond.fieldLink R_M 122 R_M (F_M 51).2.1 (F_M 51).2.2.1 ∈ lw_tg := in_t 1923 (by decide +kernel)
theorem lk_keys : Cond.fieldLink R_M 125 R_M (F_M 52).2.1 (F_M 52).2.2.1 ∈ lw_tg := in_t 1924 (by decide +kernel)
theorem lk_name : Cond.fieldLink R_M 128 R_M (F_M 53).2.1 (F_M 53).2.2.1 ∈ lw_tg := in_t 1925 (by decide +kernel)
theorem lk_nameSize : Cond.fieldLink R_M 608 R_M (F_M 54).2.1 (F_M 54).2.2.1 ∈ lw_tg := in_t 1926 (by decide +kernel)
theorem lk_colon : Cond.fieldLink R_M 605 R_M (F_M 55).2.1 (F_M 55).2.2.1 ∈ lw_tg := in_t 1927 (by decide +kernel)
theorem lk_made : Cond.fieldLink R_M 131 R_M (F_M 56).2.1 (F_M 56).2.2.1 ∈ lw_tg := in_t 1928 (by decide +kernel)
theorem lk_most : Cond.fieldLink R_M 134 R_M (F_M 57).2.1 (F_M 57).2.2.1 ∈ lw_tg := in_t 1929 (by decide +kernel)
theorem lk_key : Cond.fieldLink R_M 137 R_M (F_M 58).2.1 (F_M 58).2.2.1 ∈ lw_tg := in_t 1930 (by decide +kernel)
theorem lk_sub : Cond.fieldLink R_M 140 R_M (F_M 59).2.1 (F_M 59).2.2.1 ∈ lw_tg := in_t 1931 (by decide +kernel)
theorem lk_fresh : Cond.fieldLink R_M 143 R_M (F_M 60).2.1 (F_M 60).2.2.1 ∈ lw_tg := in_t 1932 (by decide +kernel)
theorem lk_seenNames : Cond.fieldLink R_M 146 R_M (F_M 61).2.1 (F_M 61).2.2.1 ∈ lw_tg := in_t 1933 (by decide +kernel)
theorem lk_seenSizes : Cond.fieldLink R_M 149 R_M (F_M 62).2.1 (F_M 62).2.2.1 ∈ lw_tg := in_t 1934 (by decide +kernel)
theorem lk_seenMicros : Cond.fieldLink R_M 152 R_M (F_M 63).2.1 (F_M 63).2.2.1 ∈ lw_tg := in_t 1935 (by decide +kernel)
theorem lk_seenMany : Cond.fieldLink R_M 155 R_M (F_M 64).2.1 (F_M 64).2.2.1 ∈ lw_tg := in_t 1936 (by decide +kernel)
theorem lk_seenTimes : Cond.fieldLink R_M 158 R_M (F_M 65).2.1 (F_M 65).2.2.1 ∈ lw_tg := in_t 1937 (by decide +kernel)
theorem lk_isRead : Cond.fieldLink R_M 648 R_M (F_M 67).2.1 (F_M 67).2.2.1 ∈ lw_tg := in_t 1938 (by decide +kernel)
theorem lk_hasData : Cond.fieldLink R_M 651 R_M (F_M 68).2.1 (F_M 68).2.2.1 ∈ lw_tg := in_t 1939 (by decide +kernel)
theorem lk_isAs : Cond.fieldLink R_M 660 R_M (F_M 69).2.1 (F_M 69).2.2.1 ∈ lw_tg := in_t 1940 (by decide +kernel)
theorem lk_dataFor : Cond.fieldLink R_M 752 R_M (F_M 70).2.1 (F_M 70).2.2.1 ∈ lw_tg := in_t 1941 (by decide +kernel)
theorem lk_dataFirst : Cond.fieldLink R_M 755 R_M (F_M 71).2.1 (F_M 71).2.2.1 ∈ lw_tg := in_t 1942 (by decide +kernel)
theorem lk_dataBoth : Cond.fieldLink R_M 758 R_M (F_M 72).2.1 (F_M 72).2.2.1 ∈ lw_tg := in_t 1943 (by decide +kernel)
theorem lk_nthAt : Cond.fieldLink R_M 688 R_M (F_M 73).2.1 (F_M 73).2.2.1 ∈ lw_tg := in_t 1944 (by decide +kernel)
theorem lk_nthEnd : Cond.fieldLink R_M 691 R_M (F_M 74).2.1 (F_M 74).2.2.1 ∈ lw_tg := in_t 1945 (by decide +kernel)
theorem lk_client : Cond.fieldLink R_M 722 R_M (F_M 75).2.1 (F_M 75).2.2.1 ∈ lw_tg := in_t 1946 (by decide +kernel)
theorem lk_service : Cond.fieldLink R_M 713 R_M (F_M 76).2.1 (F_M 76).2.2.1 ∈ lw_tg := in_t 1947 (by decide +kernel)
theorem lk_type : Cond.fieldLink R_M 737 R_M (F_M 77).2.1 (F_M 77).2.2.1 ∈ lw_tg := in_t 1948 (by decide +kernel)
theorem lk_shown : Cond.fieldLink R_M 740 R_M (F_M 78).2.1 (F_M 78).2.2.1 ∈ lw_tg := in_t 1949 (by decide +kernel)
theorem lk_ticketType : Cond.fieldLink R_M 785 R_M (F_M 79).2.1 (F_M 79).2.2.1 ∈ lw_tg := in_t 1950 (by decide +kernel)
theorem lk_subType : Cond.fieldLink R_M 893 R_M (F_M 80).2.1 (F_M 80).2.2.1 ∈ lw_tg := in_t 1951 (by decide +kernel)
theorem lk_newFlags : Cond.fieldLink R_M 830 R_M (F_M 81).2.1 (F_M 81).2.2.1 ∈ lw_tg := in_t 1952 (by decide +kernel)
theorem lk_newEnd : Cond.fieldLink R_M 827 R_M (F_M 82).2.1 (F_M 82).2.2.1 ∈ lw_tg := in_t 1953 (by decide +kernel)
theorem lk_newRenew : Cond.fieldLink R_M 836 R_M (F_M 83).2.1 (F_M 83).2.2.1 ∈ lw_tg := in_t 1954 (by decide +kernel)
theorem lk_hasRenew : Cond.fieldLink R_M 839 R_M (F_M 84).2.1 (F_M 84).2.2.1 ∈ lw_tg := in_t 1955 (by decide +kernel)
theorem lk_hasAddress : Cond.fieldLink R_M 842 R_M (F_M 85).2.1 (F_M 85).2.2.1 ∈ lw_tg := in_t 1956 (by decide +kernel)
theorem lk_addressAt : Cond.fieldLink R_M 845 R_M (F_M 86).2.1 (F_M 86).2.2.1 ∈ lw_tg := in_t 1957 (by decide +kernel)
theorem lk_addressEnd : Cond.fieldLink R_M 848 R_M (F_M 87).2.1 (F_M 87).2.2.1 ∈ lw_tg := in_t 1958 (by decide +kernel)
theorem lk_clientAt : Cond.fieldLink R_M 851 R_M (F_M 88).2.1 (F_M 88).2.2.1 ∈ lw_tg := in_t 1959 (by decide +kernel)
theorem lk_clientEnd : Cond.fieldLink R_M 854 R_M (F_M 89).2.1 (F_M 89).2.2.1 ∈ lw_tg := in_t 1960 (by decide +kernel)
theorem lk_rounds4 : Cond.fieldLink R_M 162 R_M (F_M 90).2.1 (F_M 90).2.2.1 ∈ lw_tg := in_t 1961 (by decide +kernel)
theorem lk_isAgent : Cond.fieldLink R_M 165 R_M (F_M 91).2.1 (F_M 91).2.2.1 ∈ lw_tg := in_t 1962 (by decide +kernel)
theorem lk_agentNames : Cond.fieldLink R_M 169 R_M (F_M 92).2.1 (F_M 92).2.2.1 ∈ lw_tg := in_t 1963 (by decide +kernel)
theorem lk_agentSizes : Cond.fieldLink R_M 172 R_M (F_M 93).2.1 (F_M 93).2.2.1 ∈ lw_tg := in_t 1964 (by decide +kernel)
theorem lk_shifts : Cond.fieldLink R_M 175 R_M (F_M 94).2.1 (F_M 94).2.2.1 ∈ lw_tg := in_t 1965 (by decide +kernel)
theorem lk_micros : Cond.fieldLink R_M 178 R_M (F_M 95).2.1 (F_M 95).2.2.1 ∈ lw_tg := in_t 1966 (by decide +kernel)
theorem lk_agentKeys : Cond.fieldLink R_M 181 R_M (F_M 96).2.1 (F_M 96).2.2.1 ∈ lw_tg := in_t 1967 (by decide +kernel)
theorem lk_isTicket : Cond.fieldLink R_M 184 R_M (F_M 97).2.1 (F_M 97).2.2.1 ∈ lw_tg := in_t 1968 (by decide +kernel)
theorem lk_ticketBytes : Cond.fieldLink R_M 188 R_M (F_M 98).2.1 (F_M 98).2.2.1 ∈ lw_tg := in_t 1969 (by decide +kernel)
theorem lk_ticketKeys : Cond.fieldLink R_M 191 R_M (F_M 99).2.1 (F_M 99).2.2.1 ∈ lw_tg := in_t 1970 (by decide +kernel)
theorem lk_ticketSizes : Cond.fieldLink R_M 194 R_M (F_M 100).2.1 (F_M 100).2.2.1 ∈ lw_tg := in_t 1971 (by decide +kernel)
theorem lk_ticketFlags : Cond.fieldLink R_M 197 R_M (F_M 101).2.1 (F_M 101).2.2.1 ∈ lw_tg := in_t 1972 (by decide +kernel)
theorem lk_ticketTypes : Cond.fieldLink R_M 200 R_M (F_M 102).2.1 (F_M 102).2.2.1 ∈ lw_tg := in_t 1973 (by decide +kernel)
theorem lk_authTimes : Cond.fieldLink R_M 203 R_M (F_M 103).2.1 (F_M 103).2.2.1 ∈ lw_tg := in_t 1974 (by decide +kernel)
theorem lk_startTimes : Cond.fieldLink R_M 206 R_M (F_M 104).2.1 (F_M 104).2.2.1 ∈ lw_tg := in_t 1975 (by decide +kernel)
theorem lk_endTimes : Cond.fieldLink R_M 209 R_M (F_M 105).2.1 (F_M 105).2.2.1 ∈ lw_tg := in_t 1976 (by decide +kernel)
theorem lk_renewTimes : Cond.fieldLink R_M 212 R_M (F_M 106).2.1 (F_M 106).2.2.1 ∈ lw_tg := in_t 1977 (by decide +kernel)
theorem lk_clientBytes : Cond.fieldLink R_M 215 R_M (F_M 107).2.1 (F_M 107).2.2.1 ∈ lw_tg := in_t 1978 (by decide +kernel)
theorem lk_realmSizes : Cond.fieldLink R_M 218 R_M (F_M 108).2.1 (F_M 108).2.2.1 ∈ lw_tg := in_t 1979 (by decide +kernel)
theorem lk_clientSizes : Cond.fieldLink R_M 221 R_M (F_M 109).2.1 (F_M 109).2.2.1 ∈ lw_tg := in_t 1980 (by decide +kernel)
theorem lk_askedKind : Cond.fieldLink R_M 224 R_M (F_M 110).2.1 (F_M 110).2.2.1 ∈ lw_tg := in_t 1981 (by decide +kernel)
theorem lk_askedTypes : Cond.fieldLink R_M 227 R_M (F_M 111).2.1 (F_M 111).2.2.1 ∈ lw_tg := in_t 1982 (by decide +kernel)
theorem lk_askedSub : Cond.fieldLink R_M 230 R_M (F_M 112).2.1 (F_M 112).2.2.1 ∈ lw_tg := in_t 1983 (by decide +kernel)
theorem lk_askedSize : Cond.fieldLink R_M 233 R_M (F_M 113).2.1 (F_M 113).2.2.1 ∈ lw_tg := in_t 1984 (by decide +kernel)
theorem lk_askedNonce : Cond.fieldLink R_M 236 R_M (F_M 114).2.1 (F_M 114).2.2.1 ∈ lw_tg := in_t 1985 (by decide +kernel)
theorem lk_askedRenew : Cond.fieldLink R_M 239 R_M (F_M 115).2.1 (F_M 115).2.2.1 ∈ lw_tg := in_t 1986 (by decide +kernel)
theorem lk_askedKeys : Cond.fieldLink R_M 242 R_M (F_M 116).2.1 (F_M 116).2.2.1 ∈ lw_tg := in_t 1987 (by decide +kernel)
theorem lk_askedNames : Cond.fieldLink R_M 245 R_M (F_M 117).2.1 (F_M 117).2.2.1 ∈ lw_tg := in_t 1988 (by decide +kernel)
theorem lk_askedClients : Cond.fieldLink R_M 248 R_M (F_M 118).2.1 (F_M 118).2.2.1 ∈ lw_tg := in_t 1989 (by decide +kernel)
theorem lk_askedRealm : Cond.fieldLink R_M 251 R_M (F_M 119).2.1 (F_M 119).2.2.1 ∈ lw_tg := in_t 1990 (by decide +kernel)
theorem lk_askedClient : Cond.fieldLink R_M 254 R_M (F_M 120).2.1 (F_M 120).2.2.1 ∈ lw_tg := in_t 1991 (by decide +kernel)
theorem lk_wantsMet : Cond.fieldLink R_M 257 R_M (F_M 121).2.1 (F_M 121).2.2.1 ∈ lw_tg := in_t 1992 (by decide +kernel)
theorem lk_apType : Cond.fieldLink R_M 260 R_M (F_M 122).2.1 (F_M 122).2.2.1 ∈ lw_tg := in_t 1993 (by decide +kernel)
theorem lk_apSubType : Cond.fieldLink R_M 263 R_M (F_M 123).2.1 (F_M 123).2.2.1 ∈ lw_tg := in_t 1994 (by decide +kernel)
theorem lk_apMicros : Cond.fieldLink R_M 266 R_M (F_M 124).2.1 (F_M 124).2.2.1 ∈ lw_tg := in_t 1995 (by decide +kernel)
theorem lk_apSerial : Cond.fieldLink R_M 269 R_M (F_M 125).2.1 (F_M 125).2.2.1 ∈ lw_tg := in_t 1996 (by decide +kernel)
theorem lk_apKeys : Cond.fieldLink R_M 272 R_M (F_M 126).2.1 (F_M 126).2.2.1 ∈ lw_tg := in_t 1997 (by decide +kernel)
theorem lk_apSubs : Cond.fieldLink R_M 275 R_M (F_M 127).2.1 (F_M 127).2.2.1 ∈ lw_tg := in_t 1998 (by decide +kernel)
theorem lk_apTime : Cond.fieldLink R_M 278 R_M (F_M 128).2.1 (F_M 128).2.2.1 ∈ lw_tg := in_t 1999 (by decide +kernel)
theorem lk_apNumber : Cond.fieldLink R_M 281 R_M (F_M 129).2.1 (F_M 129).2.2.1 ∈ lw_tg := in_t 2000 (by decide +kernel)
theorem lk_apOther : Cond.fieldLink R_M 284 R_M (F_M 130).2.1 (F_M 130).2.2.1 ∈ lw_tg := in_t 2001 (by decide +kernel)
theorem lk_serial : Cond.fieldLink R_M 975 R_M (F_M 131).2.1 (F_M 131).2.2.1 ∈ lw_tg := in_t 2002 (by decide +kernel)
theorem lk_kept : Cond.fieldLink R_M 287 R_M (F_M 132).2.1 (F_M 132).2.2.1 ∈ lw_tg := in_t 2003 (by decide +kernel)
theorem lk_isSession : Cond.fieldLink R_M 290 R_M (F_M 133).2.1 (F_M 133).2.2.1 ∈ lw_tg := in_t 2004 (by decide +kernel)
theorem lk_sessionTypes : Cond.fieldLink R_M 293 R_M (F_M 134).2.1 (F_M 134).2.2.1 ∈ lw_tg := in_t 2005 (by decide +kernel)
theorem lk_sessionAgents : Cond.fieldLink R_M 296 R_M (F_M 135).2.1 (F_M 135).2.2.1 ∈ lw_tg := in_t 2006 (by decide +kernel)
theorem lk_sessionKeys : Cond.fieldLink R_M 299 R_M (F_M 136).2.1 (F_M 136).2.2.1 ∈ lw_tg := in_t 2007 (by decide +kernel)
theorem lk_ownNumber : Cond.fieldLink R_M 302 R_M (F_M 137).2.1 (F_M 137).2.2.1 ∈ lw_tg := in_t 2008 (by decide +kernel)
theorem lk_dueNumber : Cond.fieldLink R_M 305 R_M (F_M 138).2.1 (F_M 138).2.2.1 ∈ lw_tg := in_t 2009 (by decide +kernel)
theorem lk_beganTime : Cond.fieldLink R_M 308 R_M (F_M 139).2.1 (F_M 139).2.2.1 ∈ lw_tg := in_t 2010 (by decide +kernel)
theorem lk_beganNumber : Cond.fieldLink R_M 311 R_M (F_M 140).2.1 (F_M 140).2.2.1 ∈ lw_tg := in_t 2011 (by decide +kernel)
theorem lk_beganMicros : Cond.fieldLink R_M 314 R_M (F_M 141).2.1 (F_M 141).2.2.1 ∈ lw_tg := in_t 2012 (by decide +kernel)
theorem lk_beganTypes : Cond.fieldLink R_M 317 R_M (F_M 142).2.1 (F_M 142).2.2.1 ∈ lw_tg := in_t 2013 (by decide +kernel)
theorem lk_beganKeys : Cond.fieldLink R_M 320 R_M (F_M 143).2.1 (F_M 143).2.2.1 ∈ lw_tg := in_t 2014 (by decide +kernel)
theorem lk_address : Cond.fieldLink R_M 323 R_M (F_M 144).2.1 (F_M 144).2.2.1 ∈ lw_tg := in_t 2015 (by decide +kernel)
end
section
/-! The reference as one world: the object and its arrays. q k: where the array of field k lies; I, J: its numbers by field; B, G: its arrays by field. -/
def mFs (q : Nat → Nat) (I : Nat → Int32) (J : Nat → Int64) : List Value := [.ref (q 0), .ref (q 1), .int (I 2), .int (I 3), .int (I 4), .ref (q 5), .ref (q 6), .ref (q 7), .int (I 8), .ref (q 9), .ref (q 10), .ref (q 11), .ref (q 12), .ref (q 13), .int (I 14), .ref (q 15), .ref (q 16), .ref (q 17), .int (I 18), .ref (q 19), .ref (q 20), .ref (q 21), .ref (q 22), .ref (q 23), .ref (q 24), .ref (q 25), .ref (q 26), .ref (q 27), .ref (q 28), .int (I 29), .int (I 30), .ref (q 31), .int (I 32), .int (I 33), .ref (q 34), .ref (q 35), .int (I 36), .ref (q 37), .ref (q 38), .int (I 39), .int (I 40), .long (J 41), .int (I 42), .int (I 43), .ref (q 44), .ref (q 45), .ref (q 46), .ref (q 47), .ref (q 48), .ref (q 49), .ref (q 50), .ref (q 51), .ref (q 52), .ref (q 53), .int (I 54), .int (I 55), .ref (q 56), .int (I 57), .ref (q 58), .ref (q 59), .ref (q 60), .ref (q 61), .ref (q 62), .ref (q 63), .ref (q 64), .ref (q 65), .int (I 66), .int (I 67), .int (I 68), .int (I 69), .int (I 70), .int (I 71), .int (I 72), .int (I 73), .int (I 74), .int (I 75), .int (I 76), .int (I 77), .int (I 78), .int (I 79), .int (I 80), .int (I 81), .long (J 82), .long (J 83), .int (I 84), .int (I 85), .int (I 86), .int (I 87), .int (I 88), .int (I 89), .ref (q 90), .ref (q 91), .ref (q 92), .ref (q 93), .ref (q 94), .ref (q 95), .ref (q 96), .ref (q 97), .ref (q 98), .ref (q 99), .ref (q 100), .ref (q 101), .ref (q 102), .ref (q 103), .ref (q 104), .ref (q 105), .ref (q 106), .ref (q 107), .ref (q 108), .ref (q 109), .ref (q 110), .ref (q 111), .ref (q 112), .ref (q 113), .ref (q 114), .ref (q 115), .ref (q 116), .ref (q 117), .ref (q 118), .ref (q 119), .ref (q 120), .ref (q 121), .ref (q 122), .ref (q 123), .ref (q 124), .ref (q 125), .ref (q 126), .ref (q 127), .ref (q 128), .ref (q 129), .ref (q 130), .int (I 131), .ref (q 132), .ref (q 133), .ref (q 134), .ref (q 135), .ref (q 136), .ref (q 137), .ref (q 138), .ref (q 139), .ref (q 140), .ref (q 141), .ref (q 142), .ref (q 143), .ref (q 144)]
def mAs (cB cI cJ cZ : ClassId) (q : Nat → Nat) (B : Nat → Nat → Int32) (G : Nat → Nat → Int64) : va_W := [(q 0, .inl (cB, 60000, .inl (B 0))), (q 1, .inl (cB, 20000, .inl (B 1))), (q 5, .inl (cI, 5, .inl (B 5))), (q 6, .inl (cI, 80, .inl (B 6))), (q 7, .inl (cB, 64, .inl (B 7))), (q 9, .inl (cB, 20, .inl (B 9))), (q 10, .inl (cB, 20, .inl (B 10))), (q 11, .inl (cB, 64, .inl (B 11))), (q 12, .inl (cI, 256, .inl (B 12))), (q 13, .inl (cI, 256, .inl (B 13))), (q 15, .inl (cI, 60, .inl (B 15))), (q 16, .inl (cI, 16, .inl (B 16))), (q 17, .inl (cI, 16, .inl (B 17))), (q 19, .inl (cB, 16, .inl (B 19))), (q 20, .inl (cB, 32, .inl (B 20))), (q 21, .inl (cI, 16, .inl (B 21))), (q 22, .inl (cB, 5, .inl (B 22))), (q 23, .inl (cB, 32, .inl (B 23))), (q 24, .inl (cB, 60, .inl (B 24))), (q 25, .inl (cB, 30, .inl (B 25))), (q 26, .inl (cB, 20, .inl (B 26))), (q 27, .inl (cB, 40, .inl (B 27))), (q 28, .inl (cB, 8, .inl (B 28))), (q 31, .inl (cB, 64, .inl (B 31))), (q 34, .inl (cB, 20000, .inl (B 34))), (q 35, .inl (cB, 20000, .inl (B 35))), (q 37, .inl (cI, 192, .inl (B 37))), (q 38, .inl (cI, 192, .inl (B 38))), (q 44, .inl (cB, 480, .inl (B 44))), (q 45, .inl (cI, 12, .inl (B 45))), (q 46, .inl (cI, 12, .inl (B 46))), (q 47, .inl (cI, 12, .inl (B 47))), (q 48, .inl (cI, 12, .inl (B 48))), (q 49, .inl (cI, 12, .inl (B 49))), (q 50, .inl (cI, 12, .inl (B 50))), (q 51, .inl (cI, 12, .inl (B 51))), (q 52, .inl (cB, 1536, .inl (B 52))), (q 53, .inl (cB, 40, .inl (B 53))), (q 56, .inl (cB, 32, .inl (B 56))), (q 58, .inl (cB, 32, .inl (B 58))), (q 59, .inl (cB, 32, .inl (B 59))), (q 60, .inl (cB, 32, .inl (B 60))), (q 61, .inl (cB, 18304, .inl (B 61))), (q 62, .inl (cI, 416, .inl (B 62))), (q 63, .inl (cI, 416, .inl (B 63))), (q 64, .inl (cI, 13, .inl (B 64))), (q 65, .inl (cJ, 416, .inr (.inl (G 65)))), (q 90, .inl (cB, 4, .inl (B 90))), (q 91, .inl (cZ, 4, .inl (B 91))), (q 92, .inl (cB, 160, .inl (B 92))), (q 93, .inl (cI, 4, .inl (B 93))), (q 94, .inl (cI, 4, .inl (B 94))), (q 95, .inl (cI, 4, .inl (B 95))), (q 96, .inl (cB, 256, .inl (B 96))), (q 97, .inl (cZ, 32, .inl (B 97))), (q 98, .inl (cB, 134400, .inl (B 98))), (q 99, .inl (cB, 1024, .inl (B 99))), (q 100, .inl (cI, 32, .inl (B 100))), (q 101, .inl (cI, 32, .inl (B 101))), (q 102, .inl (cI, 32, .inl (B 102))), (q 103, .inl (cJ, 32, .inr (.inl (G 103)))), (q 104, .inl (cJ, 32, .inr (.inl (G 104)))), (q 105, .inl (cJ, 32, .inr (.inl (G 105)))), (q 106, .inl (cJ, 32, .inr (.inl (G 106)))), (q 107, .inl (cB, 12800, .inl (B 107))), (q 108, .inl (cI, 32, .inl (B 108))), (q 109, .inl (cI, 32, .inl (B 109))), (q 110, .inl (cI, 4, .inl (B 110))), (q 111, .inl (cI, 4, .inl (B 111))), (q 112, .inl (cI, 4, .inl (B 112))), (q 113, .inl (cI, 4, .inl (B 113))), (q 114, .inl (cJ, 4, .inr (.inl (G 114)))), (q 115, .inl (cZ, 4, .inl (B 115))), (q 116, .inl (cB, 128, .inl (B 116))), (q 117, .inl (cB, 160, .inl (B 117))), (q 118, .inl (cB, 1600, .inl (B 118))), (q 119, .inl (cI, 4, .inl (B 119))), (q 120, .inl (cI, 4, .inl (B 120))), (q 121, .inl (cZ, 4, .inl (B 121))), (q 122, .inl (cI, 4, .inl (B 122))), (q 123, .inl (cI, 4, .inl (B 123))), (q 124, .inl (cI, 4, .inl (B 124))), (q 125, .inl (cI, 4, .inl (B 125))), (q 126, .inl (cB, 128, .inl (B 126))), (q 127, .inl (cB, 128, .inl (B 127))), (q 128, .inl (cJ, 4, .inr (.inl (G 128)))), (q 129, .inl (cJ, 4, .inr (.inl (G 129)))), (q 130, .inl (cJ, 4, .inr (.inl (G 130)))), (q 132, .inl (cB, 12, .inl (B 132))), (q 133, .inl (cZ, 8, .inl (B 133))), (q 134, .inl (cI, 8, .inl (B 134))), (q 135, .inl (cI, 8, .inl (B 135))), (q 136, .inl (cB, 256, .inl (B 136))), (q 137, .inl (cJ, 16, .inr (.inl (G 137)))), (q 138, .inl (cJ, 16, .inr (.inl (G 138)))), (q 139, .inl (cJ, 8, .inr (.inl (G 139)))), (q 140, .inl (cJ, 8, .inr (.inl (G 140)))), (q 141, .inl (cI, 8, .inl (B 141))), (q 142, .inl (cI, 8, .inl (B 142))), (q 143, .inl (cB, 256, .inl (B 143))), (q 144, .inl (cB, 4, .inl (B 144)))]
def mW (E : ClassId × ClassId × ClassId × ClassId) (h : Nat) (q : Nat → Nat) (I : Nat → Int32) (J : Nat → Int64) (B : Nat → Nat → Int32) (G : Nat → Nat → Int64) : va_W := (h, .inr (0, mFs q I J)) :: mAs E.1 E.2.1 E.2.2.1 E.2.2.2 q B G
def mTy (E : ClassId × ClassId × ClassId × ClassId) : List (ClassId × FieldType) := [(E.1, .byte), (E.2.1, .int), (E.2.2.1, .long), (E.2.2.2, .boolean)]
abbrev mCl : List vw_C := [(R_M, F_M, 145)]
def upB (B : Nat → Nat → Int32) (k : Nat) (f : Nat → Int32) : Nat → Nat → Int32 := fun j => if j = k then f else B j
def upG (G : Nat → Nat → Int64) (k : Nat) (f : Nat → Int64) : Nat → Nat → Int64 := fun j => if j = k then f else G j
theorem upB_s (B : Nat → Nat → Int32) (k : Nat) (f : Nat → Int32) : upB B k f k = f := if_pos rfl
theorem upB_n {B : Nat → Nat → Int32} {k j : Nat} {f : Nat → Int32} (h : j ≠ k) : upB B k f j = B j := if_neg h
theorem gf_mem (q : Nat → Nat) (I : Nat → Int32) (J : Nat → Int64) : (mFs q I J)[0]? = some (.ref (q 0)) := rfl
theorem gf_outs (q : Nat → Nat) (I : Nat → Int32) (J : Nat → Int64) : (mFs q I J)[1]? = some (.ref (q 1)) := rfl
theorem gf_length (q : Nat → Nat) (I : Nat → Int32) (J : Nat → Int64) : (mFs q I J)[2]? = some (.int (I 2)) := rfl
set_option maxRecDepth 20000 in
theorem sf_length (q : Nat → Nat) (I : Nat → Int32) (J : Nat → Int64) (v : Int32) : (mFs q I J).set 2 (.int v) = mFs q (upd I 2 v) J := rfl
theorem gf_outMany (q : Nat → Nat) (I : Nat → Int32) (J : Nat → Int64) : (mFs q I J)[3]? = some (.int (I 3)) := rfl
set_option maxRecDepth 20000 in
theorem sf_outMany (q : Nat → Nat) (I : Nat → Int32) (J : Nat → Int64) (v : Int32) : (mFs q I J).set 3 (.int v) = mFs q (upd I 3 v) J := rfl
theorem gf_now (q : Nat → Nat) (I : Nat → Int32) (J : Nat → Int64) : (mFs q I J)[4]? = some (.int (I 4)) := rfl
set_option maxRecDepth 20000 in
theorem sf_now (q : Nat → Nat) (I : Nat → Int32) (J : Nat → Int64) (v : Int32) : (mFs q I J).set 4 (.int v) = mFs q (upd I 4 v) J := rfl
theorem gf_h (q : Nat → Nat) (I : Nat → Int32) (J : Nat → Int64) : (mFs q I J)[5]? = some (.ref (q 5)) := rfl
theorem gf_w (q : Nat → Nat) (I : Nat → Int32) (J : Nat → Int64) : (mFs q I J)[6]? = some (.ref (q 6)) := rfl
theorem gf_block (q : Nat → Nat) (I : Nat → Int32) (J : Nat → Int64) : (mFs q I J)[7]? = some (.ref (q 7)) := rfl
theorem gf_hashed (q : Nat → Nat) (I : Nat → Int32) (J : Nat → Int64) : (mFs q I J)[8]? = some (.int (I 8)) := rfl
set_option maxRecDepth 20000 in
theorem sf_hashed (q : Nat → Nat) (I : Nat → Int32) (J : Nat → Int64) (v : Int32) : (mFs q I J).set 8 (.int v) = mFs q (upd I 8 v) J := rfl
theorem gf_inner (q : Nat → Nat) (I : Nat → Int32) (J : Nat → Int64) : (mFs q I J)[9]? = some (.ref (q 9)) := rfl
theorem gf_mac (q : Nat → Nat) (I : Nat → Int32) (J : Nat → Int64) : (mFs q I J)[10]? = some (.ref (q 10)) := rfl
theorem gf_macKey (q : Nat → Nat) (I : Nat → Int32) (J : Nat → Int64) : (mFs q I J)[11]? = some (.ref (q 11)) := rfl
theorem gf_box (q : Nat → Nat) (I : Nat → Int32) (J : Nat → Int64) : (mFs q I J)[12]? = some (.ref (q 12)) := rfl
theorem gf_back (q : Nat → Nat) (I : Nat → Int32) (J : Nat → Int64) : (mFs q I J)[13]? = some (.ref (q 13)) := rfl
theorem gf_hasBox (q : Nat → Nat) (I : Nat → Int32) (J : Nat → Int64) : (mFs q I J)[14]? = some (.int (I 14)) := rfl
set_option maxRecDepth 20000 in
theorem sf_hasBox (q : Nat → Nat) (I : Nat → Int32) (J : Nat → Int64) (v : Int32) : (mFs q I J).set 14 (.int v) = mFs q (upd I 14 v) J := rfl
theorem gf_schedule (q : Nat → Nat) (I : Nat → Int32) (J : Nat → Int64) : (mFs q I J)[15]? = some (.ref (q 15)) := rfl
theorem gf_state (q : Nat → Nat) (I : Nat → Int32) (J : Nat → Int64) : (mFs q I J)[16]? = some (.ref (q 16)) := rfl
theorem gf_other (q : Nat → Nat) (I : Nat → Int32) (J : Nat → Int64) : (mFs q I J)[17]? = some (.ref (q 17)) := rfl
theorem gf_rounds (q : Nat → Nat) (I : Nat → Int32) (J : Nat → Int64) : (mFs q I J)[18]? = some (.int (I 18)) := rfl
set_option maxRecDepth 20000 in
theorem sf_rounds (q : Nat → Nat) (I : Nat → Int32) (J : Nat → Int64) (v : Int32) : (mFs q I J).set 18 (.int v) = mFs q (upd I 18 v) J := rfl
theorem gf_fold (q : Nat → Nat) (I : Nat → Int32) (J : Nat → Int64) : (mFs q I J)[19]? = some (.ref (q 19)) := rfl
theorem gf_derived (q : Nat → Nat) (I : Nat → Int32) (J : Nat → Int64) : (mFs q I J)[20]? = some (.ref (q 20)) := rfl
theorem gf_folding (q : Nat → Nat) (I : Nat → Int32) (J : Nat → Int64) : (mFs q I J)[21]? = some (.ref (q 21)) := rfl
theorem gf_constant (q : Nat → Nat) (I : Nat → Int32) (J : Nat → Int64) : (mFs q I J)[22]? = some (.ref (q 22)) := rfl
theorem gf_use (q : Nat → Nat) (I : Nat → Int32) (J : Nat → Int64) : (mFs q I J)[23]? = some (.ref (q 23)) := rfl
theorem gf_salt (q : Nat → Nat) (I : Nat → Int32) (J : Nat → Int64) : (mFs q I J)[24]? = some (.ref (q 24)) := rfl
theorem gf_password (q : Nat → Nat) (I : Nat → Int32) (J : Nat → Int64) : (mFs q I J)[25]? = some (.ref (q 25)) := rfl
theorem gf_mixed (q : Nat → Nat) (I : Nat → Int32) (J : Nat → Int64) : (mFs q I J)[26]? = some (.ref (q 26)) := rfl
theorem gf_long0 (q : Nat → Nat) (I : Nat → Int32) (J : Nat → Int64) : (mFs q I J)[27]? = some (.ref (q 27)) := rfl
theorem gf_kerberos (q : Nat → Nat) (I : Nat → Int32) (J : Nat → Int64) : (mFs q I J)[28]? = some (.ref (q 28)) := rfl
theorem gf_saltMany (q : Nat → Nat) (I : Nat → Int32) (J : Nat → Int64) : (mFs q I J)[29]? = some (.int (I 29)) := rfl
set_option maxRecDepth 20000 in
theorem sf_saltMany (q : Nat → Nat) (I : Nat → Int32) (J : Nat → Int64) (v : Int32) : (mFs q I J).set 29 (.int v) = mFs q (upd I 29 v) J := rfl
theorem gf_passwordMany (q : Nat → Nat) (I : Nat → Int32) (J : Nat → Int64) : (mFs q I J)[30]? = some (.int (I 30)) := rfl
set_option maxRecDepth 20000 in
theorem sf_passwordMany (q : Nat → Nat) (I : Nat → Int32) (J : Nat → Int64) (v : Int32) : (mFs q I J).set 30 (.int v) = mFs q (upd I 30 v) J := rfl
theorem gf_seed (q : Nat → Nat) (I : Nat → Int32) (J : Nat → Int64) : (mFs q I J)[31]? = some (.ref (q 31)) := rfl
theorem gf_seedMany (q : Nat → Nat) (I : Nat → Int32) (J : Nat → Int64) : (mFs q I J)[32]? = some (.int (I 32)) := rfl
set_option maxRecDepth 20000 in
theorem sf_seedMany (q : Nat → Nat) (I : Nat → Int32) (J : Nat → Int64) (v : Int32) : (mFs q I J).set 32 (.int v) = mFs q (upd I 32 v) J := rfl
theorem gf_coin (q : Nat → Nat) (I : Nat → Int32) (J : Nat → Int64) : (mFs q I J)[33]? = some (.int (I 33)) := rfl
set_option maxRecDepth 20000 in
theorem sf_coin (q : Nat → Nat) (I : Nat → Int32) (J : Nat → Int64) (v : Int32) : (mFs q I J).set 33 (.int v) = mFs q (upd I 33 v) J := rfl
theorem gf_text (q : Nat → Nat) (I : Nat → Int32) (J : Nat → Int64) : (mFs q I J)[34]? = some (.ref (q 34)) := rfl
theorem gf_secret (q : Nat → Nat) (I : Nat → Int32) (J : Nat → Int64) : (mFs q I J)[35]? = some (.ref (q 35)) := rfl
theorem gf_secretMany (q : Nat → Nat) (I : Nat → Int32) (J : Nat → Int64) : (mFs q I J)[36]? = some (.int (I 36)) := rfl
set_option maxRecDepth 20000 in
theorem sf_secretMany (q : Nat → Nat) (I : Nat → Int32) (J : Nat → Int64) (v : Int32) : (mFs q I J).set 36 (.int v) = mFs q (upd I 36 v) J := rfl
theorem gf_from (q : Nat → Nat) (I : Nat → Int32) (J : Nat → Int64) : (mFs q I J)[37]? = some (.ref (q 37)) := rfl
theorem gf_to (q : Nat → Nat) (I : Nat → Int32) (J : Nat → Int64) : (mFs q I J)[38]? = some (.ref (q 38)) := rfl
theorem gf_inside (q : Nat → Nat) (I : Nat → Int32) (J : Nat → Int64) : (mFs q I J)[39]? = some (.int (I 39)) := rfl
set_option maxRecDepth 20000 in
theorem sf_inside (q : Nat → Nat) (I : Nat → Int32) (J : Nat → Int64) (v : Int32) : (mFs q I J).set 39 (.int v) = mFs q (upd I 39 v) J := rfl
theorem gf_behind (q : Nat → Nat) (I : Nat → Int32) (J : Nat → Int64) : (mFs q I J)[40]? = some (.int (I 40)) := rfl
set_option maxRecDepth 20000 in
theorem sf_behind (q : Nat → Nat) (I : Nat → Int32) (J : Nat → Int64) (v : Int32) : (mFs q I J).set 40 (.int v) = mFs q (upd I 40 v) J := rfl
theorem gf_value (q : Nat → Nat) (I : Nat → Int32) (J : Nat → Int64) : (mFs q I J)[41]? = some (.long (J 41)) := rfl
set_option maxRecDepth 20000 in
theorem sf_value (q : Nat → Nat) (I : Nat → Int32) (J : Nat → Int64) (v : Int64) : (mFs q I J).set 41 (.long v) = mFs q I (vp_updL J 41 v) := rfl
theorem gf_w0 (q : Nat → Nat) (I : Nat → Int32) (J : Nat → Int64) : (mFs q I J)[42]? = some (.int (I 42)) := rfl
set_option maxRecDepth 20000 in
theorem sf_w0 (q : Nat → Nat) (I : Nat → Int32) (J : Nat → Int64) (v : Int32) : (mFs q I J).set 42 (.int v) = mFs q (upd I 42 v) J := rfl
theorem gf_principals (q : Nat → Nat) (I : Nat → Int32) (J : Nat → Int64) : (mFs q I J)[43]? = some (.int (I 43)) := rfl
set_option maxRecDepth 20000 in
theorem sf_principals (q : Nat → Nat) (I : Nat → Int32) (J : Nat → Int64) (v : Int32) : (mFs q I J).set 43 (.int v) = mFs q (upd I 43 v) J := rfl
theorem gf_names (q : Nat → Nat) (I : Nat → Int32) (J : Nat → Int64) : (mFs q I J)[44]? = some (.ref (q 44)) := rfl
theorem gf_nameSizes (q : Nat → Nat) (I : Nat → Int32) (J : Nat → Int64) : (mFs q I J)[45]? = some (.ref (q 45)) := rfl
theorem gf_versions (q : Nat → Nat) (I : Nat → Int32) (J : Nat → Int64) : (mFs q I J)[46]? = some (.ref (q 46)) := rfl
theorem gf_counts (q : Nat → Nat) (I : Nat → Int32) (J : Nat → Int64) : (mFs q I J)[47]? = some (.ref (q 47)) := rfl
theorem gf_lifes (q : Nat → Nat) (I : Nat → Int32) (J : Nat → Int64) : (mFs q I J)[48]? = some (.ref (q 48)) := rfl
theorem gf_renews (q : Nat → Nat) (I : Nat → Int32) (J : Nat → Int64) : (mFs q I J)[49]? = some (.ref (q 49)) := rfl
theorem gf_flags (q : Nat → Nat) (I : Nat → Int32) (J : Nat → Int64) : (mFs q I J)[50]? = some (.ref (q 50)) := rfl
theorem gf_ends (q : Nat → Nat) (I : Nat → Int32) (J : Nat → Int64) : (mFs q I J)[51]? = some (.ref (q 51)) := rfl
theorem gf_keys (q : Nat → Nat) (I : Nat → Int32) (J : Nat → Int64) : (mFs q I J)[52]? = some (.ref (q 52)) := rfl
theorem gf_name (q : Nat → Nat) (I : Nat → Int32) (J : Nat → Int64) : (mFs q I J)[53]? = some (.ref (q 53)) := rfl
theorem gf_nameSize (q : Nat → Nat) (I : Nat → Int32) (J : Nat → Int64) : (mFs q I J)[54]? = some (.int (I 54)) := rfl
set_option maxRecDepth 20000 in
theorem sf_nameSize (q : Nat → Nat) (I : Nat → Int32) (J : Nat → Int64) (v : Int32) : (mFs q I J).set 54 (.int v) = mFs q (upd I 54 v) J := rfl
theorem gf_colon (q : Nat → Nat) (I : Nat → Int32) (J : Nat → Int64) : (mFs q I J)[55]? = some (.int (I 55)) := rfl
set_option maxRecDepth 20000 in
theorem sf_colon (q : Nat → Nat) (I : Nat → Int32) (J : Nat → Int64) (v : Int32) : (mFs q I J).set 55 (.int v) = mFs q (upd I 55 v) J := rfl
theorem gf_made (q : Nat → Nat) (I : Nat → Int32) (J : Nat → Int64) : (mFs q I J)[56]? = some (.ref (q 56)) := rfl
theorem gf_most (q : Nat → Nat) (I : Nat → Int32) (J : Nat → Int64) : (mFs q I J)[57]? = some (.int (I 57)) := rfl
set_option maxRecDepth 20000 in
theorem sf_most (q : Nat → Nat) (I : Nat → Int32) (J : Nat → Int64) (v : Int32) : (mFs q I J).set 57 (.int v) = mFs q (upd I 57 v) J := rfl
theorem gf_key (q : Nat → Nat) (I : Nat → Int32) (J : Nat → Int64) : (mFs q I J)[58]? = some (.ref (q 58)) := rfl
theorem gf_sub (q : Nat → Nat) (I : Nat → Int32) (J : Nat → Int64) : (mFs q I J)[59]? = some (.ref (q 59)) := rfl
theorem gf_fresh (q : Nat → Nat) (I : Nat → Int32) (J : Nat → Int64) : (mFs q I J)[60]? = some (.ref (q 60)) := rfl
theorem gf_seenNames (q : Nat → Nat) (I : Nat → Int32) (J : Nat → Int64) : (mFs q I J)[61]? = some (.ref (q 61)) := rfl
theorem gf_seenSizes (q : Nat → Nat) (I : Nat → Int32) (J : Nat → Int64) : (mFs q I J)[62]? = some (.ref (q 62)) := rfl
theorem gf_seenMicros (q : Nat → Nat) (I : Nat → Int32) (J : Nat → Int64) : (mFs q I J)[63]? = some (.ref (q 63)) := rfl
theorem gf_seenMany (q : Nat → Nat) (I : Nat → Int32) (J : Nat → Int64) : (mFs q I J)[64]? = some (.ref (q 64)) := rfl
theorem gf_seenTimes (q : Nat → Nat) (I : Nat → Int32) (J : Nat → Int64) : (mFs q I J)[65]? = some (.ref (q 65)) := rfl
theorem gf_dataMany (q : Nat → Nat) (I : Nat → Int32) (J : Nat → Int64) : (mFs q I J)[66]? = some (.int (I 66)) := rfl
set_option maxRecDepth 20000 in
theorem sf_dataMany (q : Nat → Nat) (I : Nat → Int32) (J : Nat → Int64) (v : Int32) : (mFs q I J).set 66 (.int v) = mFs q (upd I 66 v) J := rfl
theorem gf_isRead (q : Nat → Nat) (I : Nat → Int32) (J : Nat → Int64) : (mFs q I J)[67]? = some (.int (I 67)) := rfl
set_option maxRecDepth 20000 in
theorem sf_isRead (q : Nat → Nat) (I : Nat → Int32) (J : Nat → Int64) (v : Int32) : (mFs q I J).set 67 (.int v) = mFs q (upd I 67 v) J := rfl
theorem gf_hasData (q : Nat → Nat) (I : Nat → Int32) (J : Nat → Int64) : (mFs q I J)[68]? = some (.int (I 68)) := rfl
set_option maxRecDepth 20000 in
theorem sf_hasData (q : Nat → Nat) (I : Nat → Int32) (J : Nat → Int64) (v : Int32) : (mFs q I J).set 68 (.int v) = mFs q (upd I 68 v) J := rfl
theorem gf_isAs (q : Nat → Nat) (I : Nat → Int32) (J : Nat → Int64) : (mFs q I J)[69]? = some (.int (I 69)) := rfl
set_option maxRecDepth 20000 in
theorem sf_isAs (q : Nat → Nat) (I : Nat → Int32) (J : Nat → Int64) (v : Int32) : (mFs q I J).set 69 (.int v) = mFs q (upd I 69 v) J := rfl
theorem gf_dataFor (q : Nat → Nat) (I : Nat → Int32) (J : Nat → Int64) : (mFs q I J)[70]? = some (.int (I 70)) := rfl
set_option maxRecDepth 20000 in
theorem sf_dataFor (q : Nat → Nat) (I : Nat → Int32) (J : Nat → Int64) (v : Int32) : (mFs q I J).set 70 (.int v) = mFs q (upd I 70 v) J := rfl
theorem gf_dataFirst (q : Nat → Nat) (I : Nat → Int32) (J : Nat → Int64) : (mFs q I J)[71]? = some (.int (I 71)) := rfl
set_option maxRecDepth 20000 in
theorem sf_dataFirst (q : Nat → Nat) (I : Nat → Int32) (J : Nat → Int64) (v : Int32) : (mFs q I J).set 71 (.int v) = mFs q (upd I 71 v) J := rfl
theorem gf_dataBoth (q : Nat → Nat) (I : Nat → Int32) (J : Nat → Int64) : (mFs q I J)[72]? = some (.int (I 72)) := rfl
set_option maxRecDepth 20000 in
theorem sf_dataBoth (q : Nat → Nat) (I : Nat → Int32) (J : Nat → Int64) (v : Int32) : (mFs q I J).set 72 (.int v) = mFs q (upd I 72 v) J := rfl
theorem gf_nthAt (q : Nat → Nat) (I : Nat → Int32) (J : Nat → Int64) : (mFs q I J)[73]? = some (.int (I 73)) := rfl
set_option maxRecDepth 20000 in
theorem sf_nthAt (q : Nat → Nat) (I : Nat → Int32) (J : Nat → Int64) (v : Int32) : (mFs q I J).set 73 (.int v) = mFs q (upd I 73 v) J := rfl
theorem gf_nthEnd (q : Nat → Nat) (I : Nat → Int32) (J : Nat → Int64) : (mFs q I J)[74]? = some (.int (I 74)) := rfl
set_option maxRecDepth 20000 in
theorem sf_nthEnd (q : Nat → Nat) (I : Nat → Int32) (J : Nat → Int64) (v : Int32) : (mFs q I J).set 74 (.int v) = mFs q (upd I 74 v) J := rfl
theorem gf_client (q : Nat → Nat) (I : Nat → Int32) (J : Nat → Int64) : (mFs q I J)[75]? = some (.int (I 75)) := rfl
set_option maxRecDepth 20000 in
theorem sf_client (q : Nat → Nat) (I : Nat → Int32) (J : Nat → Int64) (v : Int32) : (mFs q I J).set 75 (.int v) = mFs q (upd I 75 v) J := rfl
theorem gf_service (q : Nat → Nat) (I : Nat → Int32) (J : Nat → Int64) : (mFs q I J)[76]? = some (.int (I 76)) := rfl
set_option maxRecDepth 20000 in
theorem sf_service (q : Nat → Nat) (I : Nat → Int32) (J : Nat → Int64) (v : Int32) : (mFs q I J).set 76 (.int v) = mFs q (upd I 76 v) J := rfl
theorem gf_type (q : Nat → Nat) (I : Nat → Int32) (J : Nat → Int64) : (mFs q I J)[77]? = some (.int (I 77)) := rfl
set_option maxRecDepth 20000 in
theorem sf_type (q : Nat → Nat) (I : Nat → Int32) (J : Nat → Int64) (v : Int32) : (mFs q I J).set 77 (.int v) = mFs q (upd I 77 v) J := rfl
theorem gf_shown (q : Nat → Nat) (I : Nat → Int32) (J : Nat → Int64) : (mFs q I J)[78]? = some (.int (I 78)) := rfl
set_option maxRecDepth 20000 in
theorem sf_shown (q : Nat → Nat) (I : Nat → Int32) (J : Nat → Int64) (v : Int32) : (mFs q I J).set 78 (.int v) = mFs q (upd I 78 v) J := rfl
theorem gf_ticketType (q : Nat → Nat) (I : Nat → Int32) (J : Nat → Int64) : (mFs q I J)[79]? = some (.int (I 79)) := rfl
set_option maxRecDepth 20000 in
theorem sf_ticketType (q : Nat → Nat) (I : Nat → Int32) (J : Nat → Int64) (v : Int32) : (mFs q I J).set 79 (.int v) = mFs q (upd I 79 v) J := rfl
theorem gf_subType (q : Nat → Nat) (I : Nat → Int32) (J : Nat → Int64) : (mFs q I J)[80]? = some (.int (I 80)) := rfl
set_option maxRecDepth 20000 in
theorem sf_subType (q : Nat → Nat) (I : Nat → Int32) (J : Nat → Int64) (v : Int32) : (mFs q I J).set 80 (.int v) = mFs q (upd I 80 v) J := rfl
theorem gf_newFlags (q : Nat → Nat) (I : Nat → Int32) (J : Nat → Int64) : (mFs q I J)[81]? = some (.int (I 81)) := rfl
set_option maxRecDepth 20000 in
theorem sf_newFlags (q : Nat → Nat) (I : Nat → Int32) (J : Nat → Int64) (v : Int32) : (mFs q I J).set 81 (.int v) = mFs q (upd I 81 v) J := rfl
theorem gf_newEnd (q : Nat → Nat) (I : Nat → Int32) (J : Nat → Int64) : (mFs q I J)[82]? = some (.long (J 82)) := rfl
set_option maxRecDepth 20000 in
theorem sf_newEnd (q : Nat → Nat) (I : Nat → Int32) (J : Nat → Int64) (v : Int64) : (mFs q I J).set 82 (.long v) = mFs q I (vp_updL J 82 v) := rfl
theorem gf_newRenew (q : Nat → Nat) (I : Nat → Int32) (J : Nat → Int64) : (mFs q I J)[83]? = some (.long (J 83)) := rfl
set_option maxRecDepth 20000 in
theorem sf_newRenew (q : Nat → Nat) (I : Nat → Int32) (J : Nat → Int64) (v : Int64) : (mFs q I J).set 83 (.long v) = mFs q I (vp_updL J 83 v) := rfl
theorem gf_hasRenew (q : Nat → Nat) (I : Nat → Int32) (J : Nat → Int64) : (mFs q I J)[84]? = some (.int (I 84)) := rfl
set_option maxRecDepth 20000 in
theorem sf_hasRenew (q : Nat → Nat) (I : Nat → Int32) (J : Nat → Int64) (v : Int32) : (mFs q I J).set 84 (.int v) = mFs q (upd I 84 v) J := rfl
theorem gf_hasAddress (q : Nat → Nat) (I : Nat → Int32) (J : Nat → Int64) : (mFs q I J)[85]? = some (.int (I 85)) := rfl
set_option maxRecDepth 20000 in
theorem sf_hasAddress (q : Nat → Nat) (I : Nat → Int32) (J : Nat → Int64) (v : Int32) : (mFs q I J).set 85 (.int v) = mFs q (upd I 85 v) J := rfl
theorem gf_addressAt (q : Nat → Nat) (I : Nat → Int32) (J : Nat → Int64) : (mFs q I J)[86]? = some (.int (I 86)) := rfl
set_option maxRecDepth 20000 in
theorem sf_addressAt (q : Nat → Nat) (I : Nat → Int32) (J : Nat → Int64) (v : Int32) : (mFs q I J).set 86 (.int v) = mFs q (upd I 86 v) J := rfl
theorem gf_addressEnd (q : Nat → Nat) (I : Nat → Int32) (J : Nat → Int64) : (mFs q I J)[87]? = some (.int (I 87)) := rfl
set_option maxRecDepth 20000 in
theorem sf_addressEnd (q : Nat → Nat) (I : Nat → Int32) (J : Nat → Int64) (v : Int32) : (mFs q I J).set 87 (.int v) = mFs q (upd I 87 v) J := rfl
theorem gf_clientAt (q : Nat → Nat) (I : Nat → Int32) (J : Nat → Int64) : (mFs q I J)[88]? = some (.int (I 88)) := rfl
set_option maxRecDepth 20000 in
theorem sf_clientAt (q : Nat → Nat) (I : Nat → Int32) (J : Nat → Int64) (v : Int32) : (mFs q I J).set 88 (.int v) = mFs q (upd I 88 v) J := rfl
theorem gf_clientEnd (q : Nat → Nat) (I : Nat → Int32) (J : Nat → Int64) : (mFs q I J)[89]? = some (.int (I 89)) := rfl
set_option maxRecDepth 20000 in
theorem sf_clientEnd (q : Nat → Nat) (I : Nat → Int32) (J : Nat → Int64) (v : Int32) : (mFs q I J).set 89 (.int v) = mFs q (upd I 89 v) J := rfl
theorem gf_rounds4 (q : Nat → Nat) (I : Nat → Int32) (J : Nat → Int64) : (mFs q I J)[90]? = some (.ref (q 90)) := rfl
theorem gf_isAgent (q : Nat → Nat) (I : Nat → Int32) (J : Nat → Int64) : (mFs q I J)[91]? = some (.ref (q 91)) := rfl
theorem gf_agentNames (q : Nat → Nat) (I : Nat → Int32) (J : Nat → Int64) : (mFs q I J)[92]? = some (.ref (q 92)) := rfl
theorem gf_agentSizes (q : Nat → Nat) (I : Nat → Int32) (J : Nat → Int64) : (mFs q I J)[93]? = some (.ref (q 93)) := rfl
theorem gf_shifts (q : Nat → Nat) (I : Nat → Int32) (J : Nat → Int64) : (mFs q I J)[94]? = some (.ref (q 94)) := rfl
theorem gf_micros (q : Nat → Nat) (I : Nat → Int32) (J : Nat → Int64) : (mFs q I J)[95]? = some (.ref (q 95)) := rfl
theorem gf_agentKeys (q : Nat → Nat) (I : Nat → Int32) (J : Nat → Int64) : (mFs q I J)[96]? = some (.ref (q 96)) := rfl
theorem gf_isTicket (q : Nat → Nat) (I : Nat → Int32) (J : Nat → Int64) : (mFs q I J)[97]? = some (.ref (q 97)) := rfl
theorem gf_ticketBytes (q : Nat → Nat) (I : Nat → Int32) (J : Nat → Int64) : (mFs q I J)[98]? = some (.ref (q 98)) := rfl
theorem gf_ticketKeys (q : Nat → Nat) (I : Nat → Int32) (J : Nat → Int64) : (mFs q I J)[99]? = some (.ref (q 99)) := rfl
theorem gf_ticketSizes (q : Nat → Nat) (I : Nat → Int32) (J : Nat → Int64) : (mFs q I J)[100]? = some (.ref (q 100)) := rfl
theorem gf_ticketFlags (q : Nat → Nat) (I : Nat → Int32) (J : Nat → Int64) : (mFs q I J)[101]? = some (.ref (q 101)) := rfl
theorem gf_ticketTypes (q : Nat → Nat) (I : Nat → Int32) (J : Nat → Int64) : (mFs q I J)[102]? = some (.ref (q 102)) := rfl
theorem gf_authTimes (q : Nat → Nat) (I : Nat → Int32) (J : Nat → Int64) : (mFs q I J)[103]? = some (.ref (q 103)) := rfl
theorem gf_startTimes (q : Nat → Nat) (I : Nat → Int32) (J : Nat → Int64) : (mFs q I J)[104]? = some (.ref (q 104)) := rfl
theorem gf_endTimes (q : Nat → Nat) (I : Nat → Int32) (J : Nat → Int64) : (mFs q I J)[105]? = some (.ref (q 105)) := rfl
theorem gf_renewTimes (q : Nat → Nat) (I : Nat → Int32) (J : Nat → Int64) : (mFs q I J)[106]? = some (.ref (q 106)) := rfl
theorem gf_clientBytes (q : Nat → Nat) (I : Nat → Int32) (J : Nat → Int64) : (mFs q I J)[107]? = some (.ref (q 107)) := rfl
theorem gf_realmSizes (q : Nat → Nat) (I : Nat → Int32) (J : Nat → Int64) : (mFs q I J)[108]? = some (.ref (q 108)) := rfl
theorem gf_clientSizes (q : Nat → Nat) (I : Nat → Int32) (J : Nat → Int64) : (mFs q I J)[109]? = some (.ref (q 109)) := rfl
theorem gf_askedKind (q : Nat → Nat) (I : Nat → Int32) (J : Nat → Int64) : (mFs q I J)[110]? = some (.ref (q 110)) := rfl
theorem gf_askedTypes (q : Nat → Nat) (I : Nat → Int32) (J : Nat → Int64) : (mFs q I J)[111]? = some (.ref (q 111)) := rfl
theorem gf_askedSub (q : Nat → Nat) (I : Nat → Int32) (J : Nat → Int64) : (mFs q I J)[112]? = some (.ref (q 112)) := rfl
theorem gf_askedSize (q : Nat → Nat) (I : Nat → Int32) (J : Nat → Int64) : (mFs q I J)[113]? = some (.ref (q 113)) := rfl
theorem gf_askedNonce (q : Nat → Nat) (I : Nat → Int32) (J : Nat → Int64) : (mFs q I J)[114]? = some (.ref (q 114)) := rfl
theorem gf_askedRenew (q : Nat → Nat) (I : Nat → Int32) (J : Nat → Int64) : (mFs q I J)[115]? = some (.ref (q 115)) := rfl
theorem gf_askedKeys (q : Nat → Nat) (I : Nat → Int32) (J : Nat → Int64) : (mFs q I J)[116]? = some (.ref (q 116)) := rfl
theorem gf_askedNames (q : Nat → Nat) (I : Nat → Int32) (J : Nat → Int64) : (mFs q I J)[117]? = some (.ref (q 117)) := rfl
theorem gf_askedClients (q : Nat → Nat) (I : Nat → Int32) (J : Nat → Int64) : (mFs q I J)[118]? = some (.ref (q 118)) := rfl
theorem gf_askedRealm (q : Nat → Nat) (I : Nat → Int32) (J : Nat → Int64) : (mFs q I J)[119]? = some (.ref (q 119)) := rfl
theorem gf_askedClient (q : Nat → Nat) (I : Nat → Int32) (J : Nat → Int64) : (mFs q I J)[120]? = some (.ref (q 120)) := rfl
theorem gf_wantsMet (q : Nat → Nat) (I : Nat → Int32) (J : Nat → Int64) : (mFs q I J)[121]? = some (.ref (q 121)) := rfl
theorem gf_apType (q : Nat → Nat) (I : Nat → Int32) (J : Nat → Int64) : (mFs q I J)[122]? = some (.ref (q 122)) := rfl
theorem gf_apSubType (q : Nat → Nat) (I : Nat → Int32) (J : Nat → Int64) : (mFs q I J)[123]? = some (.ref (q 123)) := rfl
theorem gf_apMicros (q : Nat → Nat) (I : Nat → Int32) (J : Nat → Int64) : (mFs q I J)[124]? = some (.ref (q 124)) := rfl
theorem gf_apSerial (q : Nat → Nat) (I : Nat → Int32) (J : Nat → Int64) : (mFs q I J)[125]? = some (.ref (q 125)) := rfl
theorem gf_apKeys (q : Nat → Nat) (I : Nat → Int32) (J : Nat → Int64) : (mFs q I J)[126]? = some (.ref (q 126)) := rfl
theorem gf_apSubs (q : Nat → Nat) (I : Nat → Int32) (J : Nat → Int64) : (mFs q I J)[127]? = some (.ref (q 127)) := rfl
theorem gf_apTime (q : Nat → Nat) (I : Nat → Int32) (J : Nat → Int64) : (mFs q I J)[128]? = some (.ref (q 128)) := rfl
theorem gf_apNumber (q : Nat → Nat) (I : Nat → Int32) (J : Nat → Int64) : (mFs q I J)[129]? = some (.ref (q 129)) := rfl
theorem gf_apOther (q : Nat → Nat) (I : Nat → Int32) (J : Nat → Int64) : (mFs q I J)[130]? = some (.ref (q 130)) := rfl
theorem gf_serial (q : Nat → Nat) (I : Nat → Int32) (J : Nat → Int64) : (mFs q I J)[131]? = some (.int (I 131)) := rfl
set_option maxRecDepth 20000 in
theorem sf_serial (q : Nat → Nat) (I : Nat → Int32) (J : Nat → Int64) (v : Int32) : (mFs q I J).set 131 (.int v) = mFs q (upd I 131 v) J := rfl
theorem gf_kept (q : Nat → Nat) (I : Nat → Int32) (J : Nat → Int64) : (mFs q I J)[132]? = some (.ref (q 132)) := rfl
theorem gf_isSession (q : Nat → Nat) (I : Nat → Int32) (J : Nat → Int64) : (mFs q I J)[133]? = some (.ref (q 133)) := rfl
theorem gf_sessionTypes (q : Nat → Nat) (I : Nat → Int32) (J : Nat → Int64) : (mFs q I J)[134]? = some (.ref (q 134)) := rfl
theorem gf_sessionAgents (q : Nat → Nat) (I : Nat → Int32) (J : Nat → Int64) : (mFs q I J)[135]? = some (.ref (q 135)) := rfl
theorem gf_sessionKeys (q : Nat → Nat) (I : Nat → Int32) (J : Nat → Int64) : (mFs q I J)[136]? = some (.ref (q 136)) := rfl
theorem gf_ownNumber (q : Nat → Nat) (I : Nat → Int32) (J : Nat → Int64) : (mFs q I J)[137]? = some (.ref (q 137)) := rfl
theorem gf_dueNumber (q : Nat → Nat) (I : Nat → Int32) (J : Nat → Int64) : (mFs q I J)[138]? = some (.ref (q 138)) := rfl
theorem gf_beganTime (q : Nat → Nat) (I : Nat → Int32) (J : Nat → Int64) : (mFs q I J)[139]? = some (.ref (q 139)) := rfl
theorem gf_beganNumber (q : Nat → Nat) (I : Nat → Int32) (J : Nat → Int64) : (mFs q I J)[140]? = some (.ref (q 140)) := rfl
theorem gf_beganMicros (q : Nat → Nat) (I : Nat → Int32) (J : Nat → Int64) : (mFs q I J)[141]? = some (.ref (q 141)) := rfl
theorem gf_beganTypes (q : Nat → Nat) (I : Nat → Int32) (J : Nat → Int64) : (mFs q I J)[142]? = some (.ref (q 142)) := rfl
theorem gf_beganKeys (q : Nat → Nat) (I : Nat → Int32) (J : Nat → Int64) : (mFs q I J)[143]? = some (.ref (q 143)) := rfl
theorem gf_address (q : Nat → Nat) (I : Nat → Int32) (J : Nat → Int64) : (mFs q I J)[144]? = some (.ref (q 144)) := rfl
theorem aw_mem (E : ClassId × ClassId × ClassId × ClassId) (h : Nat) (q : Nat → Nat) (I : Nat → Int32) (J : Nat → Int64) (B : Nat → Nat → Int32) (G : Nat → Nat → Int64) : (mW E h q I J B G)[1]? = some (q 0, .inl (E.1, 60000, .inl (B 0))) := rfl
theorem sw_mem (E : ClassId × ClassId × ClassId × ClassId) (h : Nat) (q : Nat → Nat) (I : Nat → Int32) (J : Nat → Int64) (B : Nat → Nat → Int32) (G : Nat → Nat → Int64) (f : Nat → Int32) : (mW E h q I J B G).set 1 (q 0, .inl (E.1, 60000, .inl f)) = mW E h q I J (upB B 0 f) G := rfl
theorem aw_outs (E : ClassId × ClassId × ClassId × ClassId) (h : Nat) (q : Nat → Nat) (I : Nat → Int32) (J : Nat → Int64) (B : Nat → Nat → Int32) (G : Nat → Nat → Int64) : (mW E h q I J B G)[2]? = some (q 1, .inl (E.1, 20000, .inl (B 1))) := rfl
theorem sw_outs (E : ClassId × ClassId × ClassId × ClassId) (h : Nat) (q : Nat → Nat) (I : Nat → Int32) (J : Nat → Int64) (B : Nat → Nat → Int32) (G : Nat → Nat → Int64) (f : Nat → Int32) : (mW E h q I J B G).set 2 (q 1, .inl (E.1, 20000, .inl f)) = mW E h q I J (upB B 1 f) G := rfl
theorem aw_h (E : ClassId × ClassId × ClassId × ClassId) (h : Nat) (q : Nat → Nat) (I : Nat → Int32) (J : Nat → Int64) (B : Nat → Nat → Int32) (G : Nat → Nat → Int64) : (mW E h q I J B G)[3]? = some (q 5, .inl (E.2.1, 5, .inl (B 5))) := rfl
theorem sw_h (E : ClassId × ClassId × ClassId × ClassId) (h : Nat) (q : Nat → Nat) (I : Nat → Int32) (J : Nat → Int64) (B : Nat → Nat → Int32) (G : Nat → Nat → Int64) (f : Nat → Int32) : (mW E h q I J B G).set 3 (q 5, .inl (E.2.1, 5, .inl f)) = mW E h q I J (upB B 5 f) G := rfl
theorem aw_w (E : ClassId × ClassId × ClassId × ClassId) (h : Nat) (q : Nat → Nat) (I : Nat → Int32) (J : Nat → Int64) (B : Nat → Nat → Int32) (G : Nat → Nat → Int64) : (mW E h q I J B G)[4]? = some (q 6, .inl (E.2.1, 80, .inl (B 6))) := rfl
theorem sw_w (E : ClassId × ClassId × ClassId × ClassId) (h : Nat) (q : Nat → Nat) (I : Nat → Int32) (J : Nat → Int64) (B : Nat → Nat → Int32) (G : Nat → Nat → Int64) (f : Nat → Int32) : (mW E h q I J B G).set 4 (q 6, .inl (E.2.1, 80, .inl f)) = mW E h q I J (upB B 6 f) G := rfl
theorem aw_block (E : ClassId × ClassId × ClassId × ClassId) (h : Nat) (q : Nat → Nat) (I : Nat → Int32) (J : Nat → Int64) (B : Nat → Nat → Int32) (G : Nat → Nat → Int64) : (mW E h q I J B G)[5]? = some (q 7, .inl (E.1, 64, .inl (B 7))) := rfl
theorem sw_block (E : ClassId × ClassId × ClassId × ClassId) (h : Nat) (q : Nat → Nat) (I : Nat → Int32) (J : Nat → Int64) (B : Nat → Nat → Int32) (G : Nat → Nat → Int64) (f : Nat → Int32) : (mW E h q I J B G).set 5 (q 7, .inl (E.1, 64, .inl f)) = mW E h q I J (upB B 7 f) G := rfl
theorem aw_inner (E : ClassId × ClassId × ClassId × ClassId) (h : Nat) (q : Nat → Nat) (I : Nat → Int32) (J : Nat → Int64) (B : Nat → Nat → Int32) (G : Nat → Nat → Int64) : (mW E h q I J B G)[6]? = some (q 9, .inl (E.1, 20, .inl (B 9))) := rfl
theorem sw_inner (E : ClassId × ClassId × ClassId × ClassId) (h : Nat) (q : Nat → Nat) (I : Nat → Int32) (J : Nat → Int64) (B : Nat → Nat → Int32) (G : Nat → Nat → Int64) (f : Nat → Int32) : (mW E h q I J B G).set 6 (q 9, .inl (E.1, 20, .inl f)) = mW E h q I J (upB B 9 f) G := rfl
theorem aw_mac (E : ClassId × ClassId × ClassId × ClassId) (h : Nat) (q : Nat → Nat) (I : Nat → Int32) (J : Nat → Int64) (B : Nat → Nat → Int32) (G : Nat → Nat → Int64) : (mW E h q I J B G)[7]? = some (q 10, .inl (E.1, 20, .inl (B 10))) := rfl
theorem sw_mac (E : ClassId × ClassId × ClassId × ClassId) (h : Nat) (q : Nat → Nat) (I : Nat → Int32) (J : Nat → Int64) (B : Nat → Nat → Int32) (G : Nat → Nat → Int64) (f : Nat → Int32) : (mW E h q I J B G).set 7 (q 10, .inl (E.1, 20, .inl f)) = mW E h q I J (upB B 10 f) G := rfl
theorem aw_macKey (E : ClassId × ClassId × ClassId × ClassId) (h : Nat) (q : Nat → Nat) (I : Nat → Int32) (J : Nat → Int64) (B : Nat → Nat → Int32) (G : Nat → Nat → Int64) : (mW E h q I J B G)[8]? = some (q 11, .inl (E.1, 64, .inl (B 11))) := rfl
theorem sw_macKey (E : ClassId × ClassId × ClassId × ClassId) (h : Nat) (q : Nat → Nat) (I : Nat → Int32) (J : Nat → Int64) (B : Nat → Nat → Int32) (G : Nat → Nat → Int64) (f : Nat → Int32) : (mW E h q I J B G).set 8 (q 11, .inl (E.1, 64, .inl f)) = mW E h q I J (upB B 11 f) G := rfl
theorem aw_box (E : ClassId × ClassId × ClassId × ClassId) (h : Nat) (q : Nat → Nat) (I : Nat → Int32) (J : Nat → Int64) (B : Nat → Nat → Int32) (G : Nat → Nat → Int64) : (mW E h q I J B G)[9]? = some (q 12, .inl (E.2.1, 256, .inl (B 12))) := rfl
theorem sw_box (E : ClassId × ClassId × ClassId × ClassId) (h : Nat) (q : Nat → Nat) (I : Nat → Int32) (J : Nat → Int64) (B : Nat → Nat → Int32) (G : Nat → Nat → Int64) (f : Nat → Int32) : (mW E h q I J B G).set 9 (q 12, .inl (E.2.1, 256, .inl f)) = mW E h q I J (upB B 12 f) G := rfl
theorem aw_back (E : ClassId × ClassId × ClassId × ClassId) (h : Nat) (q : Nat → Nat) (I : Nat → Int32) (J : Nat → Int64) (B : Nat → Nat → Int32) (G : Nat → Nat → Int64) : (mW E h q I J B G)[10]? = some (q 13, .inl (E.2.1, 256, .inl (B 13))) := rfl
theorem sw_back (E : ClassId × ClassId × ClassId × ClassId) (h : Nat) (q : Nat → Nat) (I : Nat → Int32) (J : Nat → Int64) (B : Nat → Nat → Int32) (G : Nat → Nat → Int64) (f : Nat → Int32) : (mW E h q I J B G).set 10 (q 13, .inl (E.2.1, 256, .inl f)) = mW E h q I J (upB B 13 f) G := rfl
theorem aw_schedule (E : ClassId × ClassId × ClassId × ClassId) (h : Nat) (q : Nat → Nat) (I : Nat → Int32) (J : Nat → Int64) (B : Nat → Nat → Int32) (G : Nat → Nat → Int64) : (mW E h q I J B G)[11]? = some (q 15, .inl (E.2.1, 60, .inl (B 15))) := rfl
theorem sw_schedule (E : ClassId × ClassId × ClassId × ClassId) (h : Nat) (q : Nat → Nat) (I : Nat → Int32) (J : Nat → Int64) (B : Nat → Nat → Int32) (G : Nat → Nat → Int64) (f : Nat → Int32) : (mW E h q I J B G).set 11 (q 15, .inl (E.2.1, 60, .inl f)) = mW E h q I J (upB B 15 f) G := rfl
theorem aw_state (E : ClassId × ClassId × ClassId × ClassId) (h : Nat) (q : Nat → Nat) (I : Nat → Int32) (J : Nat → Int64) (B : Nat → Nat → Int32) (G : Nat → Nat → Int64) : (mW E h q I J B G)[12]? = some (q 16, .inl (E.2.1, 16, .inl (B 16))) := rfl
theorem sw_state (E : ClassId × ClassId × ClassId × ClassId) (h : Nat) (q : Nat → Nat) (I : Nat → Int32) (J : Nat → Int64) (B : Nat → Nat → Int32) (G : Nat → Nat → Int64) (f : Nat → Int32) : (mW E h q I J B G).set 12 (q 16, .inl (E.2.1, 16, .inl f)) = mW E h q I J (upB B 16 f) G := rfl
theorem aw_other (E : ClassId × ClassId × ClassId × ClassId) (h : Nat) (q : Nat → Nat) (I : Nat → Int32) (J : Nat → Int64) (B : Nat → Nat → Int32) (G : Nat → Nat → Int64) : (mW E h q I J B G)[13]? = some (q 17, .inl (E.2.1, 16, .inl (B 17))) := rfl
theorem sw_other (E : ClassId × ClassId × ClassId × ClassId) (h : Nat) (q : Nat → Nat) (I : Nat → Int32) (J : Nat → Int64) (B : Nat → Nat → Int32) (G : Nat → Nat → Int64) (f : Nat → Int32) : (mW E h q I J B G).set 13 (q 17, .inl (E.2.1, 16, .inl f)) = mW E h q I J (upB B 17 f) G := rfl
theorem aw_fold (E : ClassId × ClassId × ClassId × ClassId) (h : Nat) (q : Nat → Nat) (I : Nat → Int32) (J : Nat → Int64) (B : Nat → Nat → Int32) (G : Nat → Nat → Int64) : (mW E h q I J B G)[14]? = some (q 19, .inl (E.1, 16, .inl (B 19))) := rfl
theorem sw_fold (E : ClassId × ClassId × ClassId × ClassId) (h : Nat) (q : Nat → Nat) (I : Nat → Int32) (J : Nat → Int64) (B : Nat → Nat → Int32) (G : Nat → Nat → Int64) (f : Nat → Int32) : (mW E h q I J B G).set 14 (q 19, .inl (E.1, 16, .inl f)) = mW E h q I J (upB B 19 f) G := rfl
theorem aw_derived (E : ClassId × ClassId × ClassId × ClassId) (h : Nat) (q : Nat → Nat) (I : Nat → Int32) (J : Nat → Int64) (B : Nat → Nat → Int32) (G : Nat → Nat → Int64) : (mW E h q I J B G)[15]? = some (q 20, .inl (E.1, 32, .inl (B 20))) := rfl
theorem sw_derived (E : ClassId × ClassId × ClassId × ClassId) (h : Nat) (q : Nat → Nat) (I : Nat → Int32) (J : Nat → Int64) (B : Nat → Nat → Int32) (G : Nat → Nat → Int64) (f : Nat → Int32) : (mW E h q I J B G).set 15 (q 20, .inl (E.1, 32, .inl f)) = mW E h q I J (upB B 20 f) G := rfl
theorem aw_folding (E : ClassId × ClassId × ClassId × ClassId) (h : Nat) (q : Nat → Nat) (I : Nat → Int32) (J : Nat → Int64) (B : Nat → Nat → Int32) (G : Nat → Nat → Int64) : (mW E h q I J B G)[16]? = some (q 21, .inl (E.2.1, 16, .inl (B 21))) := rfl
theorem sw_folding (E : ClassId × ClassId × ClassId × ClassId) (h : Nat) (q : Nat → Nat) (I : Nat → Int32) (J : Nat → Int64) (B : Nat → Nat → Int32) (G : Nat → Nat → Int64) (f : Nat → Int32) : (mW E h q I J B G).set 16 (q 21, .inl (E.2.1, 16, .inl f)) = mW E h q I J (upB B 21 f) G := rfl
theorem aw_constant (E : ClassId × ClassId × ClassId × ClassId) (h : Nat) (q : Nat → Nat) (I : Nat → Int32) (J : Nat → Int64) (B : Nat → Nat → Int32) (G : Nat → Nat → Int64) : (mW E h q I J B G)[17]? = some (q 22, .inl (E.1, 5, .inl (B 22))) := rfl
theorem sw_constant (E : ClassId × ClassId × ClassId × ClassId) (h : Nat) (q : Nat → Nat) (I : Nat → Int32) (J : Nat → Int64) (B : Nat → Nat → Int32) (G : Nat → Nat → Int64) (f : Nat → Int32) : (mW E h q I J B G).set 17 (q 22, .inl (E.1, 5, .inl f)) = mW E h q I J (upB B 22 f) G := rfl
theorem aw_use (E : ClassId × ClassId × ClassId × ClassId) (h : Nat) (q : Nat → Nat) (I : Nat → Int32) (J : Nat → Int64) (B : Nat → Nat → Int32) (G : Nat → Nat → Int64) : (mW E h q I J B G)[18]? = some (q 23, .inl (E.1, 32, .inl (B 23))) := rfl
theorem sw_use (E : ClassId × ClassId × ClassId × ClassId) (h : Nat) (q : Nat → Nat) (I : Nat → Int32) (J : Nat → Int64) (B : Nat → Nat → Int32) (G : Nat → Nat → Int64) (f : Nat → Int32) : (mW E h q I J B G).set 18 (q 23, .inl (E.1, 32, .inl f)) = mW E h q I J (upB B 23 f) G := rfl
theorem aw_salt (E : ClassId × ClassId × ClassId × ClassId) (h : Nat) (q : Nat → Nat) (I : Nat → Int32) (J : Nat → Int64) (B : Nat → Nat → Int32) (G : Nat → Nat → Int64) : (mW E h q I J B G)[19]? = some (q 24, .inl (E.1, 60, .inl (B 24))) := rfl
theorem sw_salt (E : ClassId × ClassId × ClassId × ClassId) (h : Nat) (q : Nat → Nat) (I : Nat → Int32) (J : Nat → Int64) (B : Nat → Nat → Int32) (G : Nat → Nat → Int64) (f : Nat → Int32) : (mW E h q I J B G).set 19 (q 24, .inl (E.1, 60, .inl f)) = mW E h q I J (upB B 24 f) G := rfl
theorem aw_password (E : ClassId × ClassId × ClassId × ClassId) (h : Nat) (q : Nat → Nat) (I : Nat → Int32) (J : Nat → Int64) (B : Nat → Nat → Int32) (G : Nat → Nat → Int64) : (mW E h q I J B G)[20]? = some (q 25, .inl (E.1, 30, .inl (B 25))) := rfl
theorem sw_password (E : ClassId × ClassId × ClassId × ClassId) (h : Nat) (q : Nat → Nat) (I : Nat → Int32) (J : Nat → Int64) (B : Nat → Nat → Int32) (G : Nat → Nat → Int64) (f : Nat → Int32) : (mW E h q I J B G).set 20 (q 25, .inl (E.1, 30, .inl f)) = mW E h q I J (upB B 25 f) G := rfl
theorem aw_mixed (E : ClassId × ClassId × ClassId × ClassId) (h : Nat) (q : Nat → Nat) (I : Nat → Int32) (J : Nat → Int64) (B : Nat → Nat → Int32) (G : Nat → Nat → Int64) : (mW E h q I J B G)[21]? = some (q 26, .inl (E.1, 20, .inl (B 26))) := rfl
theorem sw_mixed (E : ClassId × ClassId × ClassId × ClassId) (h : Nat) (q : Nat → Nat) (I : Nat → Int32) (J : Nat → Int64) (B : Nat → Nat → Int32) (G : Nat → Nat → Int64) (f : Nat → Int32) : (mW E h q I J B G).set 21 (q 26, .inl (E.1, 20, .inl f)) = mW E h q I J (upB B 26 f) G := rfl
theorem aw_long0 (E : ClassId × ClassId × ClassId × ClassId) (h : Nat) (q : Nat → Nat) (I : Nat → Int32) (J : Nat → Int64) (B : Nat → Nat → Int32) (G : Nat → Nat → Int64) : (mW E h q I J B G)[22]? = some (q 27, .inl (E.1, 40, .inl (B 27))) := rfl
theorem sw_long0 (E : ClassId × ClassId × ClassId × ClassId) (h : Nat) (q : Nat → Nat) (I : Nat → Int32) (J : Nat → Int64) (B : Nat → Nat → Int32) (G : Nat → Nat → Int64) (f : Nat → Int32) : (mW E h q I J B G).set 22 (q 27, .inl (E.1, 40, .inl f)) = mW E h q I J (upB B 27 f) G := rfl
theorem aw_kerberos (E : ClassId × ClassId × ClassId × ClassId) (h : Nat) (q : Nat → Nat) (I : Nat → Int32) (J : Nat → Int64) (B : Nat → Nat → Int32) (G : Nat → Nat → Int64) : (mW E h q I J B G)[23]? = some (q 28, .inl (E.1, 8, .inl (B 28))) := rfl
theorem sw_kerberos (E : ClassId × ClassId × ClassId × ClassId) (h : Nat) (q : Nat → Nat) (I : Nat → Int32) (J : Nat → Int64) (B : Nat → Nat → Int32) (G : Nat → Nat → Int64) (f : Nat → Int32) : (mW E h q I J B G).set 23 (q 28, .inl (E.1, 8, .inl f)) = mW E h q I J (upB B 28 f) G := rfl
theorem aw_seed (E : ClassId × ClassId × ClassId × ClassId) (h : Nat) (q : Nat → Nat) (I : Nat → Int32) (J : Nat → Int64) (B : Nat → Nat → Int32) (G : Nat → Nat → Int64) : (mW E h q I J B G)[24]? = some (q 31, .inl (E.1, 64, .inl (B 31))) := rfl
theorem sw_seed (E : ClassId × ClassId × ClassId × ClassId) (h : Nat) (q : Nat → Nat) (I : Nat → Int32) (J : Nat → Int64) (B : Nat → Nat → Int32) (G : Nat → Nat → Int64) (f : Nat → Int32) : (mW E h q I J B G).set 24 (q 31, .inl (E.1, 64, .inl f)) = mW E h q I J (upB B 31 f) G := rfl
theorem aw_text (E : ClassId × ClassId × ClassId × ClassId) (h : Nat) (q : Nat → Nat) (I : Nat → Int32) (J : Nat → Int64) (B : Nat → Nat → Int32) (G : Nat → Nat → Int64) : (mW E h q I J B G)[25]? = some (q 34, .inl (E.1, 20000, .inl (B 34))) := rfl
theorem sw_text (E : ClassId × ClassId × ClassId × ClassId) (h : Nat) (q : Nat → Nat) (I : Nat → Int32) (J : Nat → Int64) (B : Nat → Nat → Int32) (G : Nat → Nat → Int64) (f : Nat → Int32) : (mW E h q I J B G).set 25 (q 34, .inl (E.1, 20000, .inl f)) = mW E h q I J (upB B 34 f) G := rfl
theorem aw_secret (E : ClassId × ClassId × ClassId × ClassId) (h : Nat) (q : Nat → Nat) (I : Nat → Int32) (J : Nat → Int64) (B : Nat → Nat → Int32) (G : Nat → Nat → Int64) : (mW E h q I J B G)[26]? = some (q 35, .inl (E.1, 20000, .inl (B 35))) := rfl
theorem sw_secret (E : ClassId × ClassId × ClassId × ClassId) (h : Nat) (q : Nat → Nat) (I : Nat → Int32) (J : Nat → Int64) (B : Nat → Nat → Int32) (G : Nat → Nat → Int64) (f : Nat → Int32) : (mW E h q I J B G).set 26 (q 35, .inl (E.1, 20000, .inl f)) = mW E h q I J (upB B 35 f) G := rfl
theorem aw_from (E : ClassId × ClassId × ClassId × ClassId) (h : Nat) (q : Nat → Nat) (I : Nat → Int32) (J : Nat → Int64) (B : Nat → Nat → Int32) (G : Nat → Nat → Int64) : (mW E h q I J B G)[27]? = some (q 37, .inl (E.2.1, 192, .inl (B 37))) := rfl
theorem sw_from (E : ClassId × ClassId × ClassId × ClassId) (h : Nat) (q : Nat → Nat) (I : Nat → Int32) (J : Nat → Int64) (B : Nat → Nat → Int32) (G : Nat → Nat → Int64) (f : Nat → Int32) : (mW E h q I J B G).set 27 (q 37, .inl (E.2.1, 192, .inl f)) = mW E h q I J (upB B 37 f) G := rfl
theorem aw_to (E : ClassId × ClassId × ClassId × ClassId) (h : Nat) (q : Nat → Nat) (I : Nat → Int32) (J : Nat → Int64) (B : Nat → Nat → Int32) (G : Nat → Nat → Int64) : (mW E h q I J B G)[28]? = some (q 38, .inl (E.2.1, 192, .inl (B 38))) := rfl
theorem sw_to (E : ClassId × ClassId × ClassId × ClassId) (h : Nat) (q : Nat → Nat) (I : Nat → Int32) (J : Nat → Int64) (B : Nat → Nat → Int32) (G : Nat → Nat → Int64) (f : Nat → Int32) : (mW E h q I J B G).set 28 (q 38, .inl (E.2.1, 192, .inl f)) = mW E h q I J (upB B 38 f) G := rfl
theorem aw_names (E : ClassId × ClassId × ClassId × ClassId) (h : Nat) (q : Nat → Nat) (I : Nat → Int32) (J : Nat → Int64) (B : Nat → Nat → Int32) (G : Nat → Nat → Int64) : (mW E h q I J B G)[29]? = some (q 44, .inl (E.1, 480, .inl (B 44))) := rfl
theorem sw_names (E : ClassId × ClassId × ClassId × ClassId) (h : Nat) (q : Nat → Nat) (I : Nat → Int32) (J : Nat → Int64) (B : Nat → Nat → Int32) (G : Nat → Nat → Int64) (f : Nat → Int32) : (mW E h q I J B G).set 29 (q 44, .inl (E.1, 480, .inl f)) = mW E h q I J (upB B 44 f) G := rfl
theorem aw_nameSizes (E : ClassId × ClassId × ClassId × ClassId) (h : Nat) (q : Nat → Nat) (I : Nat → Int32) (J : Nat → Int64) (B : Nat → Nat → Int32) (G : Nat → Nat → Int64) : (mW E h q I J B G)[30]? = some (q 45, .inl (E.2.1, 12, .inl (B 45))) := rfl
theorem sw_nameSizes (E : ClassId × ClassId × ClassId × ClassId) (h : Nat) (q : Nat → Nat) (I : Nat → Int32) (J : Nat → Int64) (B : Nat → Nat → Int32) (G : Nat → Nat → Int64) (f : Nat → Int32) : (mW E h q I J B G).set 30 (q 45, .inl (E.2.1, 12, .inl f)) = mW E h q I J (upB B 45 f) G := rfl
theorem aw_versions (E : ClassId × ClassId × ClassId × ClassId) (h : Nat) (q : Nat → Nat) (I : Nat → Int32) (J : Nat → Int64) (B : Nat → Nat → Int32) (G : Nat → Nat → Int64) : (mW E h q I J B G)[31]? = some (q 46, .inl (E.2.1, 12, .inl (B 46))) := rfl
theorem sw_versions (E : ClassId × ClassId × ClassId × ClassId) (h : Nat) (q : Nat → Nat) (I : Nat → Int32) (J : Nat → Int64) (B : Nat → Nat → Int32) (G : Nat → Nat → Int64) (f : Nat → Int32) : (mW E h q I J B G).set 31 (q 46, .inl (E.2.1, 12, .inl f)) = mW E h q I J (upB B 46 f) G := rfl
theorem aw_counts (E : ClassId × ClassId × ClassId × ClassId) (h : Nat) (q : Nat → Nat) (I : Nat → Int32) (J : Nat → Int64) (B : Nat → Nat → Int32) (G : Nat → Nat → Int64) : (mW E h q I J B G)[32]? = some (q 47, .inl (E.2.1, 12, .inl (B 47))) := rfl
theorem sw_counts (E : ClassId × ClassId × ClassId × ClassId) (h : Nat) (q : Nat → Nat) (I : Nat → Int32) (J : Nat → Int64) (B : Nat → Nat → Int32) (G : Nat → Nat → Int64) (f : Nat → Int32) : (mW E h q I J B G).set 32 (q 47, .inl (E.2.1, 12, .inl f)) = mW E h q I J (upB B 47 f) G := rfl
theorem aw_lifes (E : ClassId × ClassId × ClassId × ClassId) (h : Nat) (q : Nat → Nat) (I : Nat → Int32) (J : Nat → Int64) (B : Nat → Nat → Int32) (G : Nat → Nat → Int64) : (mW E h q I J B G)[33]? = some (q 48, .inl (E.2.1, 12, .inl (B 48))) := rfl
theorem sw_lifes (E : ClassId × ClassId × ClassId × ClassId) (h : Nat) (q : Nat → Nat) (I : Nat → Int32) (J : Nat → Int64) (B : Nat → Nat → Int32) (G : Nat → Nat → Int64) (f : Nat → Int32) : (mW E h q I J B G).set 33 (q 48, .inl (E.2.1, 12, .inl f)) = mW E h q I J (upB B 48 f) G := rfl
theorem aw_renews (E : ClassId × ClassId × ClassId × ClassId) (h : Nat) (q : Nat → Nat) (I : Nat → Int32) (J : Nat → Int64) (B : Nat → Nat → Int32) (G : Nat → Nat → Int64) : (mW E h q I J B G)[34]? = some (q 49, .inl (E.2.1, 12, .inl (B 49))) := rfl
theorem sw_renews (E : ClassId × ClassId × ClassId × ClassId) (h : Nat) (q : Nat → Nat) (I : Nat → Int32) (J : Nat → Int64) (B : Nat → Nat → Int32) (G : Nat → Nat → Int64) (f : Nat → Int32) : (mW E h q I J B G).set 34 (q 49, .inl (E.2.1, 12, .inl f)) = mW E h q I J (upB B 49 f) G := rfl
theorem aw_flags (E : ClassId × ClassId × ClassId × ClassId) (h : Nat) (q : Nat → Nat) (I : Nat → Int32) (J : Nat → Int64) (B : Nat → Nat → Int32) (G : Nat → Nat → Int64) : (mW E h q I J B G)[35]? = some (q 50, .inl (E.2.1, 12, .inl (B 50))) := rfl
theorem sw_flags (E : ClassId × ClassId × ClassId × ClassId) (h : Nat) (q : Nat → Nat) (I : Nat → Int32) (J : Nat → Int64) (B : Nat → Nat → Int32) (G : Nat → Nat → Int64) (f : Nat → Int32) : (mW E h q I J B G).set 35 (q 50, .inl (E.2.1, 12, .inl f)) = mW E h q I J (upB B 50 f) G := rfl
theorem aw_ends (E : ClassId × ClassId × ClassId × ClassId) (h : Nat) (q : Nat → Nat) (I : Nat → Int32) (J : Nat → Int64) (B : Nat → Nat → Int32) (G : Nat → Nat → Int64) : (mW E h q I J B G)[36]? = some (q 51, .inl (E.2.1, 12, .inl (B 51))) := rfl
theorem sw_ends (E : ClassId × ClassId × ClassId × ClassId) (h : Nat) (q : Nat → Nat) (I : Nat → Int32) (J : Nat → Int64) (B : Nat → Nat → Int32) (G : Nat → Nat → Int64) (f : Nat → Int32) : (mW E h q I J B G).set 36 (q 51, .inl (E.2.1, 12, .inl f)) = mW E h q I J (upB B 51 f) G := rfl
theorem aw_keys (E : ClassId × ClassId × ClassId × ClassId) (h : Nat) (q : Nat → Nat) (I : Nat → Int32) (J : Nat → Int64) (B : Nat → Nat → Int32) (G : Nat → Nat → Int64) : (mW E h q I J B G)[37]? = some (q 52, .inl (E.1, 1536, .inl (B 52))) := rfl
theorem sw_keys (E : ClassId × ClassId × ClassId × ClassId) (h : Nat) (q : Nat → Nat) (I : Nat → Int32) (J : Nat → Int64) (B : Nat → Nat → Int32) (G : Nat → Nat → Int64) (f : Nat → Int32) : (mW E h q I J B G).set 37 (q 52, .inl (E.1, 1536, .inl f)) = mW E h q I J (upB B 52 f) G := rfl
theorem aw_name (E : ClassId × ClassId × ClassId × ClassId) (h : Nat) (q : Nat → Nat) (I : Nat → Int32) (J : Nat → Int64) (B : Nat → Nat → Int32) (G : Nat → Nat → Int64) : (mW E h q I J B G)[38]? = some (q 53, .inl (E.1, 40, .inl (B 53))) := rfl
theorem sw_name (E : ClassId × ClassId × ClassId × ClassId) (h : Nat) (q : Nat → Nat) (I : Nat → Int32) (J : Nat → Int64) (B : Nat → Nat → Int32) (G : Nat → Nat → Int64) (f : Nat → Int32) : (mW E h q I J B G).set 38 (q 53, .inl (E.1, 40, .inl f)) = mW E h q I J (upB B 53 f) G := rfl
theorem aw_made (E : ClassId × ClassId × ClassId × ClassId) (h : Nat) (q : Nat → Nat) (I : Nat → Int32) (J : Nat → Int64) (B : Nat → Nat → Int32) (G : Nat → Nat → Int64) : (mW E h q I J B G)[39]? = some (q 56, .inl (E.1, 32, .inl (B 56))) := rfl
theorem sw_made (E : ClassId × ClassId × ClassId × ClassId) (h : Nat) (q : Nat → Nat) (I : Nat → Int32) (J : Nat → Int64) (B : Nat → Nat → Int32) (G : Nat → Nat → Int64) (f : Nat → Int32) : (mW E h q I J B G).set 39 (q 56, .inl (E.1, 32, .inl f)) = mW E h q I J (upB B 56 f) G := rfl
theorem aw_key (E : ClassId × ClassId × ClassId × ClassId) (h : Nat) (q : Nat → Nat) (I : Nat → Int32) (J : Nat → Int64) (B : Nat → Nat → Int32) (G : Nat → Nat → Int64) : (mW E h q I J B G)[40]? = some (q 58, .inl (E.1, 32, .inl (B 58))) := rfl
theorem sw_key (E : ClassId × ClassId × ClassId × ClassId) (h : Nat) (q : Nat → Nat) (I : Nat → Int32) (J : Nat → Int64) (B : Nat → Nat → Int32) (G : Nat → Nat → Int64) (f : Nat → Int32) : (mW E h q I J B G).set 40 (q 58, .inl (E.1, 32, .inl f)) = mW E h q I J (upB B 58 f) G := rfl
theorem aw_sub (E : ClassId × ClassId × ClassId × ClassId) (h : Nat) (q : Nat → Nat) (I : Nat → Int32) (J : Nat → Int64) (B : Nat → Nat → Int32) (G : Nat → Nat → Int64) : (mW E h q I J B G)[41]? = some (q 59, .inl (E.1, 32, .inl (B 59))) := rfl
theorem sw_sub (E : ClassId × ClassId × ClassId × ClassId) (h : Nat) (q : Nat → Nat) (I : Nat → Int32) (J : Nat → Int64) (B : Nat → Nat → Int32) (G : Nat → Nat → Int64) (f : Nat → Int32) : (mW E h q I J B G).set 41 (q 59, .inl (E.1, 32, .inl f)) = mW E h q I J (upB B 59 f) G := rfl
theorem aw_fresh (E : ClassId × ClassId × ClassId × ClassId) (h : Nat) (q : Nat → Nat) (I : Nat → Int32) (J : Nat → Int64) (B : Nat → Nat → Int32) (G : Nat → Nat → Int64) : (mW E h q I J B G)[42]? = some (q 60, .inl (E.1, 32, .inl (B 60))) := rfl
theorem sw_fresh (E : ClassId × ClassId × ClassId × ClassId) (h : Nat) (q : Nat → Nat) (I : Nat → Int32) (J : Nat → Int64) (B : Nat → Nat → Int32) (G : Nat → Nat → Int64) (f : Nat → Int32) : (mW E h q I J B G).set 42 (q 60, .inl (E.1, 32, .inl f)) = mW E h q I J (upB B 60 f) G := rfl
theorem aw_seenNames (E : ClassId × ClassId × ClassId × ClassId) (h : Nat) (q : Nat → Nat) (I : Nat → Int32) (J : Nat → Int64) (B : Nat → Nat → Int32) (G : Nat → Nat → Int64) : (mW E h q I J B G)[43]? = some (q 61, .inl (E.1, 18304, .inl (B 61))) := rfl
theorem sw_seenNames (E : ClassId × ClassId × ClassId × ClassId) (h : Nat) (q : Nat → Nat) (I : Nat → Int32) (J : Nat → Int64) (B : Nat → Nat → Int32) (G : Nat → Nat → Int64) (f : Nat → Int32) : (mW E h q I J B G).set 43 (q 61, .inl (E.1, 18304, .inl f)) = mW E h q I J (upB B 61 f) G := rfl
theorem aw_seenSizes (E : ClassId × ClassId × ClassId × ClassId) (h : Nat) (q : Nat → Nat) (I : Nat → Int32) (J : Nat → Int64) (B : Nat → Nat → Int32) (G : Nat → Nat → Int64) : (mW E h q I J B G)[44]? = some (q 62, .inl (E.2.1, 416, .inl (B 62))) := rfl
theorem sw_seenSizes (E : ClassId × ClassId × ClassId × ClassId) (h : Nat) (q : Nat → Nat) (I : Nat → Int32) (J : Nat → Int64) (B : Nat → Nat → Int32) (G : Nat → Nat → Int64) (f : Nat → Int32) : (mW E h q I J B G).set 44 (q 62, .inl (E.2.1, 416, .inl f)) = mW E h q I J (upB B 62 f) G := rfl
theorem aw_seenMicros (E : ClassId × ClassId × ClassId × ClassId) (h : Nat) (q : Nat → Nat) (I : Nat → Int32) (J : Nat → Int64) (B : Nat → Nat → Int32) (G : Nat → Nat → Int64) : (mW E h q I J B G)[45]? = some (q 63, .inl (E.2.1, 416, .inl (B 63))) := rfl
theorem sw_seenMicros (E : ClassId × ClassId × ClassId × ClassId) (h : Nat) (q : Nat → Nat) (I : Nat → Int32) (J : Nat → Int64) (B : Nat → Nat → Int32) (G : Nat → Nat → Int64) (f : Nat → Int32) : (mW E h q I J B G).set 45 (q 63, .inl (E.2.1, 416, .inl f)) = mW E h q I J (upB B 63 f) G := rfl
theorem aw_seenMany (E : ClassId × ClassId × ClassId × ClassId) (h : Nat) (q : Nat → Nat) (I : Nat → Int32) (J : Nat → Int64) (B : Nat → Nat → Int32) (G : Nat → Nat → Int64) : (mW E h q I J B G)[46]? = some (q 64, .inl (E.2.1, 13, .inl (B 64))) := rfl
theorem sw_seenMany (E : ClassId × ClassId × ClassId × ClassId) (h : Nat) (q : Nat → Nat) (I : Nat → Int32) (J : Nat → Int64) (B : Nat → Nat → Int32) (G : Nat → Nat → Int64) (f : Nat → Int32) : (mW E h q I J B G).set 46 (q 64, .inl (E.2.1, 13, .inl f)) = mW E h q I J (upB B 64 f) G := rfl
theorem aw_seenTimes (E : ClassId × ClassId × ClassId × ClassId) (h : Nat) (q : Nat → Nat) (I : Nat → Int32) (J : Nat → Int64) (B : Nat → Nat → Int32) (G : Nat → Nat → Int64) : (mW E h q I J B G)[47]? = some (q 65, .inl (E.2.2.1, 416, .inr (.inl (G 65)))) := rfl
theorem sw_seenTimes (E : ClassId × ClassId × ClassId × ClassId) (h : Nat) (q : Nat → Nat) (I : Nat → Int32) (J : Nat → Int64) (B : Nat → Nat → Int32) (G : Nat → Nat → Int64) (f : Nat → Int64) : (mW E h q I J B G).set 47 (q 65, .inl (E.2.2.1, 416, .inr (.inl f))) = mW E h q I J B (upG G 65 f) := rfl
theorem aw_rounds4 (E : ClassId × ClassId × ClassId × ClassId) (h : Nat) (q : Nat → Nat) (I : Nat → Int32) (J : Nat → Int64) (B : Nat → Nat → Int32) (G : Nat → Nat → Int64) : (mW E h q I J B G)[48]? = some (q 90, .inl (E.1, 4, .inl (B 90))) := rfl
theorem sw_rounds4 (E : ClassId × ClassId × ClassId × ClassId) (h : Nat) (q : Nat → Nat) (I : Nat → Int32) (J : Nat → Int64) (B : Nat → Nat → Int32) (G : Nat → Nat → Int64) (f : Nat → Int32) : (mW E h q I J B G).set 48 (q 90, .inl (E.1, 4, .inl f)) = mW E h q I J (upB B 90 f) G := rfl
theorem aw_isAgent (E : ClassId × ClassId × ClassId × ClassId) (h : Nat) (q : Nat → Nat) (I : Nat → Int32) (J : Nat → Int64) (B : Nat → Nat → Int32) (G : Nat → Nat → Int64) : (mW E h q I J B G)[49]? = some (q 91, .inl (E.2.2.2, 4, .inl (B 91))) := rfl
theorem sw_isAgent (E : ClassId × ClassId × ClassId × ClassId) (h : Nat) (q : Nat → Nat) (I : Nat → Int32) (J : Nat → Int64) (B : Nat → Nat → Int32) (G : Nat → Nat → Int64) (f : Nat → Int32) : (mW E h q I J B G).set 49 (q 91, .inl (E.2.2.2, 4, .inl f)) = mW E h q I J (upB B 91 f) G := rfl
theorem aw_agentNames (E : ClassId × ClassId × ClassId × ClassId) (h : Nat) (q : Nat → Nat) (I : Nat → Int32) (J : Nat → Int64) (B : Nat → Nat → Int32) (G : Nat → Nat → Int64) : (mW E h q I J B G)[50]? = some (q 92, .inl (E.1, 160, .inl (B 92))) := rfl
theorem sw_agentNames (E : ClassId × ClassId × ClassId × ClassId) (h : Nat) (q : Nat → Nat) (I : Nat → Int32) (J : Nat → Int64) (B : Nat → Nat → Int32) (G : Nat → Nat → Int64) (f : Nat → Int32) : (mW E h q I J B G).set 50 (q 92, .inl (E.1, 160, .inl f)) = mW E h q I J (upB B 92 f) G := rfl
theorem aw_agentSizes (E : ClassId × ClassId × ClassId × ClassId) (h : Nat) (q : Nat → Nat) (I : Nat → Int32) (J : Nat → Int64) (B : Nat → Nat → Int32) (G : Nat → Nat → Int64) : (mW E h q I J B G)[51]? = some (q 93, .inl (E.2.1, 4, .inl (B 93))) := rfl
theorem sw_agentSizes (E : ClassId × ClassId × ClassId × ClassId) (h : Nat) (q : Nat → Nat) (I : Nat → Int32) (J : Nat → Int64) (B : Nat → Nat → Int32) (G : Nat → Nat → Int64) (f : Nat → Int32) : (mW E h q I J B G).set 51 (q 93, .inl (E.2.1, 4, .inl f)) = mW E h q I J (upB B 93 f) G := rfl
theorem aw_shifts (E : ClassId × ClassId × ClassId × ClassId) (h : Nat) (q : Nat → Nat) (I : Nat → Int32) (J : Nat → Int64) (B : Nat → Nat → Int32) (G : Nat → Nat → Int64) : (mW E h q I J B G)[52]? = some (q 94, .inl (E.2.1, 4, .inl (B 94))) := rfl
theorem sw_shifts (E : ClassId × ClassId × ClassId × ClassId) (h : Nat) (q : Nat → Nat) (I : Nat → Int32) (J : Nat → Int64) (B : Nat → Nat → Int32) (G : Nat → Nat → Int64) (f : Nat → Int32) : (mW E h q I J B G).set 52 (q 94, .inl (E.2.1, 4, .inl f)) = mW E h q I J (upB B 94 f) G := rfl
theorem aw_micros (E : ClassId × ClassId × ClassId × ClassId) (h : Nat) (q : Nat → Nat) (I : Nat → Int32) (J : Nat → Int64) (B : Nat → Nat → Int32) (G : Nat → Nat → Int64) : (mW E h q I J B G)[53]? = some (q 95, .inl (E.2.1, 4, .inl (B 95))) := rfl
theorem sw_micros (E : ClassId × ClassId × ClassId × ClassId) (h : Nat) (q : Nat → Nat) (I : Nat → Int32) (J : Nat → Int64) (B : Nat → Nat → Int32) (G : Nat → Nat → Int64) (f : Nat → Int32) : (mW E h q I J B G).set 53 (q 95, .inl (E.2.1, 4, .inl f)) = mW E h q I J (upB B 95 f) G := rfl
theorem aw_agentKeys (E : ClassId × ClassId × ClassId × ClassId) (h : Nat) (q : Nat → Nat) (I : Nat → Int32) (J : Nat → Int64) (B : Nat → Nat → Int32) (G : Nat → Nat → Int64) : (mW E h q I J B G)[54]? = some (q 96, .inl (E.1, 256, .inl (B 96))) := rfl
theorem sw_agentKeys (E : ClassId × ClassId × ClassId × ClassId) (h : Nat) (q : Nat → Nat) (I : Nat → Int32) (J : Nat → Int64) (B : Nat → Nat → Int32) (G : Nat → Nat → Int64) (f : Nat → Int32) : (mW E h q I J B G).set 54 (q 96, .inl (E.1, 256, .inl f)) = mW E h q I J (upB B 96 f) G := rfl
theorem aw_isTicket (E : ClassId × ClassId × ClassId × ClassId) (h : Nat) (q : Nat → Nat) (I : Nat → Int32) (J : Nat → Int64) (B : Nat → Nat → Int32) (G : Nat → Nat → Int64) : (mW E h q I J B G)[55]? = some (q 97, .inl (E.2.2.2, 32, .inl (B 97))) := rfl
theorem sw_isTicket (E : ClassId × ClassId × ClassId × ClassId) (h : Nat) (q : Nat → Nat) (I : Nat → Int32) (J : Nat → Int64) (B : Nat → Nat → Int32) (G : Nat → Nat → Int64) (f : Nat → Int32) : (mW E h q I J B G).set 55 (q 97, .inl (E.2.2.2, 32, .inl f)) = mW E h q I J (upB B 97 f) G := rfl
theorem aw_ticketBytes (E : ClassId × ClassId × ClassId × ClassId) (h : Nat) (q : Nat → Nat) (I : Nat → Int32) (J : Nat → Int64) (B : Nat → Nat → Int32) (G : Nat → Nat → Int64) : (mW E h q I J B G)[56]? = some (q 98, .inl (E.1, 134400, .inl (B 98))) := rfl
theorem sw_ticketBytes (E : ClassId × ClassId × ClassId × ClassId) (h : Nat) (q : Nat → Nat) (I : Nat → Int32) (J : Nat → Int64) (B : Nat → Nat → Int32) (G : Nat → Nat → Int64) (f : Nat → Int32) : (mW E h q I J B G).set 56 (q 98, .inl (E.1, 134400, .inl f)) = mW E h q I J (upB B 98 f) G := rfl
theorem aw_ticketKeys (E : ClassId × ClassId × ClassId × ClassId) (h : Nat) (q : Nat → Nat) (I : Nat → Int32) (J : Nat → Int64) (B : Nat → Nat → Int32) (G : Nat → Nat → Int64) : (mW E h q I J B G)[57]? = some (q 99, .inl (E.1, 1024, .inl (B 99))) := rfl
theorem sw_ticketKeys (E : ClassId × ClassId × ClassId × ClassId) (h : Nat) (q : Nat → Nat) (I : Nat → Int32) (J : Nat → Int64) (B : Nat → Nat → Int32) (G : Nat → Nat → Int64) (f : Nat → Int32) : (mW E h q I J B G).set 57 (q 99, .inl (E.1, 1024, .inl f)) = mW E h q I J (upB B 99 f) G := rfl
theorem aw_ticketSizes (E : ClassId × ClassId × ClassId × ClassId) (h : Nat) (q : Nat → Nat) (I : Nat → Int32) (J : Nat → Int64) (B : Nat → Nat → Int32) (G : Nat → Nat → Int64) : (mW E h q I J B G)[58]? = some (q 100, .inl (E.2.1, 32, .inl (B 100))) := rfl
theorem sw_ticketSizes (E : ClassId × ClassId × ClassId × ClassId) (h : Nat) (q : Nat → Nat) (I : Nat → Int32) (J : Nat → Int64) (B : Nat → Nat → Int32) (G : Nat → Nat → Int64) (f : Nat → Int32) : (mW E h q I J B G).set 58 (q 100, .inl (E.2.1, 32, .inl f)) = mW E h q I J (upB B 100 f) G := rfl
theorem aw_ticketFlags (E : ClassId × ClassId × ClassId × ClassId) (h : Nat) (q : Nat → Nat) (I : Nat → Int32) (J : Nat → Int64) (B : Nat → Nat → Int32) (G : Nat → Nat → Int64) : (mW E h q I J B G)[59]? = some (q 101, .inl (E.2.1, 32, .inl (B 101))) := rfl
theorem sw_ticketFlags (E : ClassId × ClassId × ClassId × ClassId) (h : Nat) (q : Nat → Nat) (I : Nat → Int32) (J : Nat → Int64) (B : Nat → Nat → Int32) (G : Nat → Nat → Int64) (f : Nat → Int32) : (mW E h q I J B G).set 59 (q 101, .inl (E.2.1, 32, .inl f)) = mW E h q I J (upB B 101 f) G := rfl
theorem aw_ticketTypes (E : ClassId × ClassId × ClassId × ClassId) (h : Nat) (q : Nat → Nat) (I : Nat → Int32) (J : Nat → Int64) (B : Nat → Nat → Int32) (G : Nat → Nat → Int64) : (mW E h q I J B G)[60]? = some (q 102, .inl (E.2.1, 32, .inl (B 102))) := rfl
theorem sw_ticketTypes (E : ClassId × ClassId × ClassId × ClassId) (h : Nat) (q : Nat → Nat) (I : Nat → Int32) (J : Nat → Int64) (B : Nat → Nat → Int32) (G : Nat → Nat → Int64) (f : Nat → Int32) : (mW E h q I J B G).set 60 (q 102, .inl (E.2.1, 32, .inl f)) = mW E h q I J (upB B 102 f) G := rfl
theorem aw_authTimes (E : ClassId × ClassId × ClassId × ClassId) (h : Nat) (q : Nat → Nat) (I : Nat → Int32) (J : Nat → Int64) (B : Nat → Nat → Int32) (G : Nat → Nat → Int64) : (mW E h q I J B G)[61]? = some (q 103, .inl (E.2.2.1, 32, .inr (.inl (G 103)))) := rfl
theorem sw_authTimes (E : ClassId × ClassId × ClassId × ClassId) (h : Nat) (q : Nat → Nat) (I : Nat → Int32) (J : Nat → Int64) (B : Nat → Nat → Int32) (G : Nat → Nat → Int64) (f : Nat → Int64) : (mW E h q I J B G).set 61 (q 103, .inl (E.2.2.1, 32, .inr (.inl f))) = mW E h q I J B (upG G 103 f) := rfl
theorem aw_startTimes (E : ClassId × ClassId × ClassId × ClassId) (h : Nat) (q : Nat → Nat) (I : Nat → Int32) (J : Nat → Int64) (B : Nat → Nat → Int32) (G : Nat → Nat → Int64) : (mW E h q I J B G)[62]? = some (q 104, .inl (E.2.2.1, 32, .inr (.inl (G 104)))) := rfl
theorem sw_startTimes (E : ClassId × ClassId × ClassId × ClassId) (h : Nat) (q : Nat → Nat) (I : Nat → Int32) (J : Nat → Int64) (B : Nat → Nat → Int32) (G : Nat → Nat → Int64) (f : Nat → Int64) : (mW E h q I J B G).set 62 (q 104, .inl (E.2.2.1, 32, .inr (.inl f))) = mW E h q I J B (upG G 104 f) := rfl
theorem aw_endTimes (E : ClassId × ClassId × ClassId × ClassId) (h : Nat) (q : Nat → Nat) (I : Nat → Int32) (J : Nat → Int64) (B : Nat → Nat → Int32) (G : Nat → Nat → Int64) : (mW E h q I J B G)[63]? = some (q 105, .inl (E.2.2.1, 32, .inr (.inl (G 105)))) := rfl
theorem sw_endTimes (E : ClassId × ClassId × ClassId × ClassId) (h : Nat) (q : Nat → Nat) (I : Nat → Int32) (J : Nat → Int64) (B : Nat → Nat → Int32) (G : Nat → Nat → Int64) (f : Nat → Int64) : (mW E h q I J B G).set 63 (q 105, .inl (E.2.2.1, 32, .inr (.inl f))) = mW E h q I J B (upG G 105 f) := rfl
theorem aw_renewTimes (E : ClassId × ClassId × ClassId × ClassId) (h : Nat) (q : Nat → Nat) (I : Nat → Int32) (J : Nat → Int64) (B : Nat → Nat → Int32) (G : Nat → Nat → Int64) : (mW E h q I J B G)[64]? = some (q 106, .inl (E.2.2.1, 32, .inr (.inl (G 106)))) := rfl
theorem sw_renewTimes (E : ClassId × ClassId × ClassId × ClassId) (h : Nat) (q : Nat → Nat) (I : Nat → Int32) (J : Nat → Int64) (B : Nat → Nat → Int32) (G : Nat → Nat → Int64) (f : Nat → Int64) : (mW E h q I J B G).set 64 (q 106, .inl (E.2.2.1, 32, .inr (.inl f))) = mW E h q I J B (upG G 106 f) := rfl
theorem aw_clientBytes (E : ClassId × ClassId × ClassId × ClassId) (h : Nat) (q : Nat → Nat) (I : Nat → Int32) (J : Nat → Int64) (B : Nat → Nat → Int32) (G : Nat → Nat → Int64) : (mW E h q I J B G)[65]? = some (q 107, .inl (E.1, 12800, .inl (B 107))) := rfl
theorem sw_clientBytes (E : ClassId × ClassId × ClassId × ClassId) (h : Nat) (q : Nat → Nat) (I : Nat → Int32) (J : Nat → Int64) (B : Nat → Nat → Int32) (G : Nat → Nat → Int64) (f : Nat → Int32) : (mW E h q I J B G).set 65 (q 107, .inl (E.1, 12800, .inl f)) = mW E h q I J (upB B 107 f) G := rfl
theorem aw_realmSizes (E : ClassId × ClassId × ClassId × ClassId) (h : Nat) (q : Nat → Nat) (I : Nat → Int32) (J : Nat → Int64) (B : Nat → Nat → Int32) (G : Nat → Nat → Int64) : (mW E h q I J B G)[66]? = some (q 108, .inl (E.2.1, 32, .inl (B 108))) := rfl
theorem sw_realmSizes (E : ClassId × ClassId × ClassId × ClassId) (h : Nat) (q : Nat → Nat) (I : Nat → Int32) (J : Nat → Int64) (B : Nat → Nat → Int32) (G : Nat → Nat → Int64) (f : Nat → Int32) : (mW E h q I J B G).set 66 (q 108, .inl (E.2.1, 32, .inl f)) = mW E h q I J (upB B 108 f) G := rfl
theorem aw_clientSizes (E : ClassId × ClassId × ClassId × ClassId) (h : Nat) (q : Nat → Nat) (I : Nat → Int32) (J : Nat → Int64) (B : Nat → Nat → Int32) (G : Nat → Nat → Int64) : (mW E h q I J B G)[67]? = some (q 109, .inl (E.2.1, 32, .inl (B 109))) := rfl
theorem sw_clientSizes (E : ClassId × ClassId × ClassId × ClassId) (h : Nat) (q : Nat → Nat) (I : Nat → Int32) (J : Nat → Int64) (B : Nat → Nat → Int32) (G : Nat → Nat → Int64) (f : Nat → Int32) : (mW E h q I J B G).set 67 (q 109, .inl (E.2.1, 32, .inl f)) = mW E h q I J (upB B 109 f) G := rfl
theorem aw_askedKind (E : ClassId × ClassId × ClassId × ClassId) (h : Nat) (q : Nat → Nat) (I : Nat → Int32) (J : Nat → Int64) (B : Nat → Nat → Int32) (G : Nat → Nat → Int64) : (mW E h q I J B G)[68]? = some (q 110, .inl (E.2.1, 4, .inl (B 110))) := rfl
theorem sw_askedKind (E : ClassId × ClassId × ClassId × ClassId) (h : Nat) (q : Nat → Nat) (I : Nat → Int32) (J : Nat → Int64) (B : Nat → Nat → Int32) (G : Nat → Nat → Int64) (f : Nat → Int32) : (mW E h q I J B G).set 68 (q 110, .inl (E.2.1, 4, .inl f)) = mW E h q I J (upB B 110 f) G := rfl
theorem aw_askedTypes (E : ClassId × ClassId × ClassId × ClassId) (h : Nat) (q : Nat → Nat) (I : Nat → Int32) (J : Nat → Int64) (B : Nat → Nat → Int32) (G : Nat → Nat → Int64) : (mW E h q I J B G)[69]? = some (q 111, .inl (E.2.1, 4, .inl (B 111))) := rfl
theorem sw_askedTypes (E : ClassId × ClassId × ClassId × ClassId) (h : Nat) (q : Nat → Nat) (I : Nat → Int32) (J : Nat → Int64) (B : Nat → Nat → Int32) (G : Nat → Nat → Int64) (f : Nat → Int32) : (mW E h q I J B G).set 69 (q 111, .inl (E.2.1, 4, .inl f)) = mW E h q I J (upB B 111 f) G := rfl
theorem aw_askedSub (E : ClassId × ClassId × ClassId × ClassId) (h : Nat) (q : Nat → Nat) (I : Nat → Int32) (J : Nat → Int64) (B : Nat → Nat → Int32) (G : Nat → Nat → Int64) : (mW E h q I J B G)[70]? = some (q 112, .inl (E.2.1, 4, .inl (B 112))) := rfl
theorem sw_askedSub (E : ClassId × ClassId × ClassId × ClassId) (h : Nat) (q : Nat → Nat) (I : Nat → Int32) (J : Nat → Int64) (B : Nat → Nat → Int32) (G : Nat → Nat → Int64) (f : Nat → Int32) : (mW E h q I J B G).set 70 (q 112, .inl (E.2.1, 4, .inl f)) = mW E h q I J (upB B 112 f) G := rfl
theorem aw_askedSize (E : ClassId × ClassId × ClassId × ClassId) (h : Nat) (q : Nat → Nat) (I : Nat → Int32) (J : Nat → Int64) (B : Nat → Nat → Int32) (G : Nat → Nat → Int64) : (mW E h q I J B G)[71]? = some (q 113, .inl (E.2.1, 4, .inl (B 113))) := rfl
theorem sw_askedSize (E : ClassId × ClassId × ClassId × ClassId) (h : Nat) (q : Nat → Nat) (I : Nat → Int32) (J : Nat → Int64) (B : Nat → Nat → Int32) (G : Nat → Nat → Int64) (f : Nat → Int32) : (mW E h q I J B G).set 71 (q 113, .inl (E.2.1, 4, .inl f)) = mW E h q I J (upB B 113 f) G := rfl
theorem aw_askedNonce (E : ClassId × ClassId × ClassId × ClassId) (h : Nat) (q : Nat → Nat) (I : Nat → Int32) (J : Nat → Int64) (B : Nat → Nat → Int32) (G : Nat → Nat → Int64) : (mW E h q I J B G)[72]? = some (q 114, .inl (E.2.2.1, 4, .inr (.inl (G 114)))) := rfl
theorem sw_askedNonce (E : ClassId × ClassId × ClassId × ClassId) (h : Nat) (q : Nat → Nat) (I : Nat → Int32) (J : Nat → Int64) (B : Nat → Nat → Int32) (G : Nat → Nat → Int64) (f : Nat → Int64) : (mW E h q I J B G).set 72 (q 114, .inl (E.2.2.1, 4, .inr (.inl f))) = mW E h q I J B (upG G 114 f) := rfl
theorem aw_askedRenew (E : ClassId × ClassId × ClassId × ClassId) (h : Nat) (q : Nat → Nat) (I : Nat → Int32) (J : Nat → Int64) (B : Nat → Nat → Int32) (G : Nat → Nat → Int64) : (mW E h q I J B G)[73]? = some (q 115, .inl (E.2.2.2, 4, .inl (B 115))) := rfl
theorem sw_askedRenew (E : ClassId × ClassId × ClassId × ClassId) (h : Nat) (q : Nat → Nat) (I : Nat → Int32) (J : Nat → Int64) (B : Nat → Nat → Int32) (G : Nat → Nat → Int64) (f : Nat → Int32) : (mW E h q I J B G).set 73 (q 115, .inl (E.2.2.2, 4, .inl f)) = mW E h q I J (upB B 115 f) G := rfl
theorem aw_askedKeys (E : ClassId × ClassId × ClassId × ClassId) (h : Nat) (q : Nat → Nat) (I : Nat → Int32) (J : Nat → Int64) (B : Nat → Nat → Int32) (G : Nat → Nat → Int64) : (mW E h q I J B G)[74]? = some (q 116, .inl (E.1, 128, .inl (B 116))) := rfl
theorem sw_askedKeys (E : ClassId × ClassId × ClassId × ClassId) (h : Nat) (q : Nat → Nat) (I : Nat → Int32) (J : Nat → Int64) (B : Nat → Nat → Int32) (G : Nat → Nat → Int64) (f : Nat → Int32) : (mW E h q I J B G).set 74 (q 116, .inl (E.1, 128, .inl f)) = mW E h q I J (upB B 116 f) G := rfl
theorem aw_askedNames (E : ClassId × ClassId × ClassId × ClassId) (h : Nat) (q : Nat → Nat) (I : Nat → Int32) (J : Nat → Int64) (B : Nat → Nat → Int32) (G : Nat → Nat → Int64) : (mW E h q I J B G)[75]? = some (q 117, .inl (E.1, 160, .inl (B 117))) := rfl
theorem sw_askedNames (E : ClassId × ClassId × ClassId × ClassId) (h : Nat) (q : Nat → Nat) (I : Nat → Int32) (J : Nat → Int64) (B : Nat → Nat → Int32) (G : Nat → Nat → Int64) (f : Nat → Int32) : (mW E h q I J B G).set 75 (q 117, .inl (E.1, 160, .inl f)) = mW E h q I J (upB B 117 f) G := rfl
theorem aw_askedClients (E : ClassId × ClassId × ClassId × ClassId) (h : Nat) (q : Nat → Nat) (I : Nat → Int32) (J : Nat → Int64) (B : Nat → Nat → Int32) (G : Nat → Nat → Int64) : (mW E h q I J B G)[76]? = some (q 118, .inl (E.1, 1600, .inl (B 118))) := rfl
theorem sw_askedClients (E : ClassId × ClassId × ClassId × ClassId) (h : Nat) (q : Nat → Nat) (I : Nat → Int32) (J : Nat → Int64) (B : Nat → Nat → Int32) (G : Nat → Nat → Int64) (f : Nat → Int32) : (mW E h q I J B G).set 76 (q 118, .inl (E.1, 1600, .inl f)) = mW E h q I J (upB B 118 f) G := rfl
theorem aw_askedRealm (E : ClassId × ClassId × ClassId × ClassId) (h : Nat) (q : Nat → Nat) (I : Nat → Int32) (J : Nat → Int64) (B : Nat → Nat → Int32) (G : Nat → Nat → Int64) : (mW E h q I J B G)[77]? = some (q 119, .inl (E.2.1, 4, .inl (B 119))) := rfl
theorem sw_askedRealm (E : ClassId × ClassId × ClassId × ClassId) (h : Nat) (q : Nat → Nat) (I : Nat → Int32) (J : Nat → Int64) (B : Nat → Nat → Int32) (G : Nat → Nat → Int64) (f : Nat → Int32) : (mW E h q I J B G).set 77 (q 119, .inl (E.2.1, 4, .inl f)) = mW E h q I J (upB B 119 f) G := rfl
theorem aw_askedClient (E : ClassId × ClassId × ClassId × ClassId) (h : Nat) (q : Nat → Nat) (I : Nat → Int32) (J : Nat → Int64) (B : Nat → Nat → Int32) (G : Nat → Nat → Int64) : (mW E h q I J B G)[78]? = some (q 120, .inl (E.2.1, 4, .inl (B 120))) := rfl
theorem sw_askedClient (E : ClassId × ClassId × ClassId × ClassId) (h : Nat) (q : Nat → Nat) (I : Nat → Int32) (J : Nat → Int64) (B : Nat → Nat → Int32) (G : Nat → Nat → Int64) (f : Nat → Int32) : (mW E h q I J B G).set 78 (q 120, .inl (E.2.1, 4, .inl f)) = mW E h q I J (upB B 120 f) G := rfl
theorem aw_wantsMet (E : ClassId × ClassId × ClassId × ClassId) (h : Nat) (q : Nat → Nat) (I : Nat → Int32) (J : Nat → Int64) (B : Nat → Nat → Int32) (G : Nat → Nat → Int64) : (mW E h q I J B G)[79]? = some (q 121, .inl (E.2.2.2, 4, .inl (B 121))) := rfl
theorem sw_wantsMet (E : ClassId × ClassId × ClassId × ClassId) (h : Nat) (q : Nat → Nat) (I : Nat → Int32) (J : Nat → Int64) (B : Nat → Nat → Int32) (G : Nat → Nat → Int64) (f : Nat → Int32) : (mW E h q I J B G).set 79 (q 121, .inl (E.2.2.2, 4, .inl f)) = mW E h q I J (upB B 121 f) G := rfl
theorem aw_apType (E : ClassId × ClassId × ClassId × ClassId) (h : Nat) (q : Nat → Nat) (I : Nat → Int32) (J : Nat → Int64) (B : Nat → Nat → Int32) (G : Nat → Nat → Int64) : (mW E h q I J B G)[80]? = some (q 122, .inl (E.2.1, 4, .inl (B 122))) := rfl
theorem sw_apType (E : ClassId × ClassId × ClassId × ClassId) (h : Nat) (q : Nat → Nat) (I : Nat → Int32) (J : Nat → Int64) (B : Nat → Nat → Int32) (G : Nat → Nat → Int64) (f : Nat → Int32) : (mW E h q I J B G).set 80 (q 122, .inl (E.2.1, 4, .inl f)) = mW E h q I J (upB B 122 f) G := rfl
theorem aw_apSubType (E : ClassId × ClassId × ClassId × ClassId) (h : Nat) (q : Nat → Nat) (I : Nat → Int32) (J : Nat → Int64) (B : Nat → Nat → Int32) (G : Nat → Nat → Int64) : (mW E h q I J B G)[81]? = some (q 123, .inl (E.2.1, 4, .inl (B 123))) := rfl
theorem sw_apSubType (E : ClassId × ClassId × ClassId × ClassId) (h : Nat) (q : Nat → Nat) (I : Nat → Int32) (J : Nat → Int64) (B : Nat → Nat → Int32) (G : Nat → Nat → Int64) (f : Nat → Int32) : (mW E h q I J B G).set 81 (q 123, .inl (E.2.1, 4, .inl f)) = mW E h q I J (upB B 123 f) G := rfl
theorem aw_apMicros (E : ClassId × ClassId × ClassId × ClassId) (h : Nat) (q : Nat → Nat) (I : Nat → Int32) (J : Nat → Int64) (B : Nat → Nat → Int32) (G : Nat → Nat → Int64) : (mW E h q I J B G)[82]? = some (q 124, .inl (E.2.1, 4, .inl (B 124))) := rfl
theorem sw_apMicros (E : ClassId × ClassId × ClassId × ClassId) (h : Nat) (q : Nat → Nat) (I : Nat → Int32) (J : Nat → Int64) (B : Nat → Nat → Int32) (G : Nat → Nat → Int64) (f : Nat → Int32) : (mW E h q I J B G).set 82 (q 124, .inl (E.2.1, 4, .inl f)) = mW E h q I J (upB B 124 f) G := rfl
theorem aw_apSerial (E : ClassId × ClassId × ClassId × ClassId) (h : Nat) (q : Nat → Nat) (I : Nat → Int32) (J : Nat → Int64) (B : Nat → Nat → Int32) (G : Nat → Nat → Int64) : (mW E h q I J B G)[83]? = some (q 125, .inl (E.2.1, 4, .inl (B 125))) := rfl
theorem sw_apSerial (E : ClassId × ClassId × ClassId × ClassId) (h : Nat) (q : Nat → Nat) (I : Nat → Int32) (J : Nat → Int64) (B : Nat → Nat → Int32) (G : Nat → Nat → Int64) (f : Nat → Int32) : (mW E h q I J B G).set 83 (q 125, .inl (E.2.1, 4, .inl f)) = mW E h q I J (upB B 125 f) G := rfl
theorem aw_apKeys (E : ClassId × ClassId × ClassId × ClassId) (h : Nat) (q : Nat → Nat) (I : Nat → Int32) (J : Nat → Int64) (B : Nat → Nat → Int32) (G : Nat → Nat → Int64) : (mW E h q I J B G)[84]? = some (q 126, .inl (E.1, 128, .inl (B 126))) := rfl
theorem sw_apKeys (E : ClassId × ClassId × ClassId × ClassId) (h : Nat) (q : Nat → Nat) (I : Nat → Int32) (J : Nat → Int64) (B : Nat → Nat → Int32) (G : Nat → Nat → Int64) (f : Nat → Int32) : (mW E h q I J B G).set 84 (q 126, .inl (E.1, 128, .inl f)) = mW E h q I J (upB B 126 f) G := rfl
theorem aw_apSubs (E : ClassId × ClassId × ClassId × ClassId) (h : Nat) (q : Nat → Nat) (I : Nat → Int32) (J : Nat → Int64) (B : Nat → Nat → Int32) (G : Nat → Nat → Int64) : (mW E h q I J B G)[85]? = some (q 127, .inl (E.1, 128, .inl (B 127))) := rfl
theorem sw_apSubs (E : ClassId × ClassId × ClassId × ClassId) (h : Nat) (q : Nat → Nat) (I : Nat → Int32) (J : Nat → Int64) (B : Nat → Nat → Int32) (G : Nat → Nat → Int64) (f : Nat → Int32) : (mW E h q I J B G).set 85 (q 127, .inl (E.1, 128, .inl f)) = mW E h q I J (upB B 127 f) G := rfl
theorem aw_apTime (E : ClassId × ClassId × ClassId × ClassId) (h : Nat) (q : Nat → Nat) (I : Nat → Int32) (J : Nat → Int64) (B : Nat → Nat → Int32) (G : Nat → Nat → Int64) : (mW E h q I J B G)[86]? = some (q 128, .inl (E.2.2.1, 4, .inr (.inl (G 128)))) := rfl
theorem sw_apTime (E : ClassId × ClassId × ClassId × ClassId) (h : Nat) (q : Nat → Nat) (I : Nat → Int32) (J : Nat → Int64) (B : Nat → Nat → Int32) (G : Nat → Nat → Int64) (f : Nat → Int64) : (mW E h q I J B G).set 86 (q 128, .inl (E.2.2.1, 4, .inr (.inl f))) = mW E h q I J B (upG G 128 f) := rfl
theorem aw_apNumber (E : ClassId × ClassId × ClassId × ClassId) (h : Nat) (q : Nat → Nat) (I : Nat → Int32) (J : Nat → Int64) (B : Nat → Nat → Int32) (G : Nat → Nat → Int64) : (mW E h q I J B G)[87]? = some (q 129, .inl (E.2.2.1, 4, .inr (.inl (G 129)))) := rfl
theorem sw_apNumber (E : ClassId × ClassId × ClassId × ClassId) (h : Nat) (q : Nat → Nat) (I : Nat → Int32) (J : Nat → Int64) (B : Nat → Nat → Int32) (G : Nat → Nat → Int64) (f : Nat → Int64) : (mW E h q I J B G).set 87 (q 129, .inl (E.2.2.1, 4, .inr (.inl f))) = mW E h q I J B (upG G 129 f) := rfl
theorem aw_apOther (E : ClassId × ClassId × ClassId × ClassId) (h : Nat) (q : Nat → Nat) (I : Nat → Int32) (J : Nat → Int64) (B : Nat → Nat → Int32) (G : Nat → Nat → Int64) : (mW E h q I J B G)[88]? = some (q 130, .inl (E.2.2.1, 4, .inr (.inl (G 130)))) := rfl
theorem sw_apOther (E : ClassId × ClassId × ClassId × ClassId) (h : Nat) (q : Nat → Nat) (I : Nat → Int32) (J : Nat → Int64) (B : Nat → Nat → Int32) (G : Nat → Nat → Int64) (f : Nat → Int64) : (mW E h q I J B G).set 88 (q 130, .inl (E.2.2.1, 4, .inr (.inl f))) = mW E h q I J B (upG G 130 f) := rfl
theorem aw_kept (E : ClassId × ClassId × ClassId × ClassId) (h : Nat) (q : Nat → Nat) (I : Nat → Int32) (J : Nat → Int64) (B : Nat → Nat → Int32) (G : Nat → Nat → Int64) : (mW E h q I J B G)[89]? = some (q 132, .inl (E.1, 12, .inl (B 132))) := rfl
theorem sw_kept (E : ClassId × ClassId × ClassId × ClassId) (h : Nat) (q : Nat → Nat) (I : Nat → Int32) (J : Nat → Int64) (B : Nat → Nat → Int32) (G : Nat → Nat → Int64) (f : Nat → Int32) : (mW E h q I J B G).set 89 (q 132, .inl (E.1, 12, .inl f)) = mW E h q I J (upB B 132 f) G := rfl
theorem aw_isSession (E : ClassId × ClassId × ClassId × ClassId) (h : Nat) (q : Nat → Nat) (I : Nat → Int32) (J : Nat → Int64) (B : Nat → Nat → Int32) (G : Nat → Nat → Int64) : (mW E h q I J B G)[90]? = some (q 133, .inl (E.2.2.2, 8, .inl (B 133))) := rfl
theorem sw_isSession (E : ClassId × ClassId × ClassId × ClassId) (h : Nat) (q : Nat → Nat) (I : Nat → Int32) (J : Nat → Int64) (B : Nat → Nat → Int32) (G : Nat → Nat → Int64) (f : Nat → Int32) : (mW E h q I J B G).set 90 (q 133, .inl (E.2.2.2, 8, .inl f)) = mW E h q I J (upB B 133 f) G := rfl
theorem aw_sessionTypes (E : ClassId × ClassId × ClassId × ClassId) (h : Nat) (q : Nat → Nat) (I : Nat → Int32) (J : Nat → Int64) (B : Nat → Nat → Int32) (G : Nat → Nat → Int64) : (mW E h q I J B G)[91]? = some (q 134, .inl (E.2.1, 8, .inl (B 134))) := rfl
theorem sw_sessionTypes (E : ClassId × ClassId × ClassId × ClassId) (h : Nat) (q : Nat → Nat) (I : Nat → Int32) (J : Nat → Int64) (B : Nat → Nat → Int32) (G : Nat → Nat → Int64) (f : Nat → Int32) : (mW E h q I J B G).set 91 (q 134, .inl (E.2.1, 8, .inl f)) = mW E h q I J (upB B 134 f) G := rfl
theorem aw_sessionAgents (E : ClassId × ClassId × ClassId × ClassId) (h : Nat) (q : Nat → Nat) (I : Nat → Int32) (J : Nat → Int64) (B : Nat → Nat → Int32) (G : Nat → Nat → Int64) : (mW E h q I J B G)[92]? = some (q 135, .inl (E.2.1, 8, .inl (B 135))) := rfl
theorem sw_sessionAgents (E : ClassId × ClassId × ClassId × ClassId) (h : Nat) (q : Nat → Nat) (I : Nat → Int32) (J : Nat → Int64) (B : Nat → Nat → Int32) (G : Nat → Nat → Int64) (f : Nat → Int32) : (mW E h q I J B G).set 92 (q 135, .inl (E.2.1, 8, .inl f)) = mW E h q I J (upB B 135 f) G := rfl
theorem aw_sessionKeys (E : ClassId × ClassId × ClassId × ClassId) (h : Nat) (q : Nat → Nat) (I : Nat → Int32) (J : Nat → Int64) (B : Nat → Nat → Int32) (G : Nat → Nat → Int64) : (mW E h q I J B G)[93]? = some (q 136, .inl (E.1, 256, .inl (B 136))) := rfl
theorem sw_sessionKeys (E : ClassId × ClassId × ClassId × ClassId) (h : Nat) (q : Nat → Nat) (I : Nat → Int32) (J : Nat → Int64) (B : Nat → Nat → Int32) (G : Nat → Nat → Int64) (f : Nat → Int32) : (mW E h q I J B G).set 93 (q 136, .inl (E.1, 256, .inl f)) = mW E h q I J (upB B 136 f) G := rfl
theorem aw_ownNumber (E : ClassId × ClassId × ClassId × ClassId) (h : Nat) (q : Nat → Nat) (I : Nat → Int32) (J : Nat → Int64) (B : Nat → Nat → Int32) (G : Nat → Nat → Int64) : (mW E h q I J B G)[94]? = some (q 137, .inl (E.2.2.1, 16, .inr (.inl (G 137)))) := rfl
theorem sw_ownNumber (E : ClassId × ClassId × ClassId × ClassId) (h : Nat) (q : Nat → Nat) (I : Nat → Int32) (J : Nat → Int64) (B : Nat → Nat → Int32) (G : Nat → Nat → Int64) (f : Nat → Int64) : (mW E h q I J B G).set 94 (q 137, .inl (E.2.2.1, 16, .inr (.inl f))) = mW E h q I J B (upG G 137 f) := rfl
theorem aw_dueNumber (E : ClassId × ClassId × ClassId × ClassId) (h : Nat) (q : Nat → Nat) (I : Nat → Int32) (J : Nat → Int64) (B : Nat → Nat → Int32) (G : Nat → Nat → Int64) : (mW E h q I J B G)[95]? = some (q 138, .inl (E.2.2.1, 16, .inr (.inl (G 138)))) := rfl
theorem sw_dueNumber (E : ClassId × ClassId × ClassId × ClassId) (h : Nat) (q : Nat → Nat) (I : Nat → Int32) (J : Nat → Int64) (B : Nat → Nat → Int32) (G : Nat → Nat → Int64) (f : Nat → Int64) : (mW E h q I J B G).set 95 (q 138, .inl (E.2.2.1, 16, .inr (.inl f))) = mW E h q I J B (upG G 138 f) := rfl
theorem aw_beganTime (E : ClassId × ClassId × ClassId × ClassId) (h : Nat) (q : Nat → Nat) (I : Nat → Int32) (J : Nat → Int64) (B : Nat → Nat → Int32) (G : Nat → Nat → Int64) : (mW E h q I J B G)[96]? = some (q 139, .inl (E.2.2.1, 8, .inr (.inl (G 139)))) := rfl
theorem sw_beganTime (E : ClassId × ClassId × ClassId × ClassId) (h : Nat) (q : Nat → Nat) (I : Nat → Int32) (J : Nat → Int64) (B : Nat → Nat → Int32) (G : Nat → Nat → Int64) (f : Nat → Int64) : (mW E h q I J B G).set 96 (q 139, .inl (E.2.2.1, 8, .inr (.inl f))) = mW E h q I J B (upG G 139 f) := rfl
theorem aw_beganNumber (E : ClassId × ClassId × ClassId × ClassId) (h : Nat) (q : Nat → Nat) (I : Nat → Int32) (J : Nat → Int64) (B : Nat → Nat → Int32) (G : Nat → Nat → Int64) : (mW E h q I J B G)[97]? = some (q 140, .inl (E.2.2.1, 8, .inr (.inl (G 140)))) := rfl
theorem sw_beganNumber (E : ClassId × ClassId × ClassId × ClassId) (h : Nat) (q : Nat → Nat) (I : Nat → Int32) (J : Nat → Int64) (B : Nat → Nat → Int32) (G : Nat → Nat → Int64) (f : Nat → Int64) : (mW E h q I J B G).set 97 (q 140, .inl (E.2.2.1, 8, .inr (.inl f))) = mW E h q I J B (upG G 140 f) := rfl
theorem aw_beganMicros (E : ClassId × ClassId × ClassId × ClassId) (h : Nat) (q : Nat → Nat) (I : Nat → Int32) (J : Nat → Int64) (B : Nat → Nat → Int32) (G : Nat → Nat → Int64) : (mW E h q I J B G)[98]? = some (q 141, .inl (E.2.1, 8, .inl (B 141))) := rfl
theorem sw_beganMicros (E : ClassId × ClassId × ClassId × ClassId) (h : Nat) (q : Nat → Nat) (I : Nat → Int32) (J : Nat → Int64) (B : Nat → Nat → Int32) (G : Nat → Nat → Int64) (f : Nat → Int32) : (mW E h q I J B G).set 98 (q 141, .inl (E.2.1, 8, .inl f)) = mW E h q I J (upB B 141 f) G := rfl
theorem aw_beganTypes (E : ClassId × ClassId × ClassId × ClassId) (h : Nat) (q : Nat → Nat) (I : Nat → Int32) (J : Nat → Int64) (B : Nat → Nat → Int32) (G : Nat → Nat → Int64) : (mW E h q I J B G)[99]? = some (q 142, .inl (E.2.1, 8, .inl (B 142))) := rfl
theorem sw_beganTypes (E : ClassId × ClassId × ClassId × ClassId) (h : Nat) (q : Nat → Nat) (I : Nat → Int32) (J : Nat → Int64) (B : Nat → Nat → Int32) (G : Nat → Nat → Int64) (f : Nat → Int32) : (mW E h q I J B G).set 99 (q 142, .inl (E.2.1, 8, .inl f)) = mW E h q I J (upB B 142 f) G := rfl
theorem aw_beganKeys (E : ClassId × ClassId × ClassId × ClassId) (h : Nat) (q : Nat → Nat) (I : Nat → Int32) (J : Nat → Int64) (B : Nat → Nat → Int32) (G : Nat → Nat → Int64) : (mW E h q I J B G)[100]? = some (q 143, .inl (E.1, 256, .inl (B 143))) := rfl
theorem sw_beganKeys (E : ClassId × ClassId × ClassId × ClassId) (h : Nat) (q : Nat → Nat) (I : Nat → Int32) (J : Nat → Int64) (B : Nat → Nat → Int32) (G : Nat → Nat → Int64) (f : Nat → Int32) : (mW E h q I J B G).set 100 (q 143, .inl (E.1, 256, .inl f)) = mW E h q I J (upB B 143 f) G := rfl
theorem aw_address (E : ClassId × ClassId × ClassId × ClassId) (h : Nat) (q : Nat → Nat) (I : Nat → Int32) (J : Nat → Int64) (B : Nat → Nat → Int32) (G : Nat → Nat → Int64) : (mW E h q I J B G)[101]? = some (q 144, .inl (E.1, 4, .inl (B 144))) := rfl
theorem sw_address (E : ClassId × ClassId × ClassId × ClassId) (h : Nat) (q : Nat → Nat) (I : Nat → Int32) (J : Nat → Int64) (B : Nat → Nat → Int32) (G : Nat → Nat → Int64) (f : Nat → Int32) : (mW E h q I J B G).set 101 (q 144, .inl (E.1, 4, .inl f)) = mW E h q I J (upB B 144 f) G := rfl
end
section
/-! Rows that all walks use. -/
theorem lw_good {w : Cond} (h : w ∈ lw_tg) : (w.onTables && w.keeps) = true ∨ ∃ ty, w = .arrayClass ty := good_of_word (List.mem_filter.mp h).2
theorem gd_t {c1 : Cond} (h1 : c1 ∈ lw_tg) : GoodIn lw_tg (c1 :: lw_tg) := by
  intro w hw
  have h2 : w ∈ lw_tg := (List.mem_cons.mp hw).elim (fun e => e ▸ h1) id
  exact ⟨h2, lw_good h2⟩
theorem gd_V {own : String} {ix : Nat} {C : String} {y : MethodName} {c1 : Cond} (a1 : Cond.methodLink own ix y ∈ lw_tg) (a2 : Cond.instanceMethod y ∈ lw_tg) (a3 : Cond.selects C y y ∈ lw_tg) (a4 : Cond.initialized C ∈ lw_tg) (h1 : c1 ∈ lw_tg) : GoodIn lw_tg (wsV own ix C y (c1 :: lw_tg)) := by
  intro w hw
  have h2 : w ∈ lw_tg := by
    rcases List.mem_append.mp hw with h | h
    · simp only [List.mem_cons, List.not_mem_nil, or_false] at h
      rcases h with rfl | rfl | rfl | rfl <;> assumption
    · exact (List.mem_cons.mp h).elim (fun e => e ▸ h1) id
  exact ⟨h2, lw_good h2⟩
theorem gd_S {own : String} {ix : Nat} {y : MethodName} {c1 : Cond} (a1 : Cond.methodLink own ix y ∈ lw_tg) (a2 : Cond.static y ∈ lw_tg) (a4 : Cond.initialized own ∈ lw_tg) (h1 : c1 ∈ lw_tg) : GoodIn lw_tg (wsS own ix y (c1 :: lw_tg)) := by
  intro w hw
  have h2 : w ∈ lw_tg := by
    rcases List.mem_append.mp hw with h | h
    · simp only [List.mem_cons, List.not_mem_nil, or_false] at h
      rcases h with rfl | rfl | rfl <;> assumption
    · exact (List.mem_cons.mp h).elim (fun e => e ▸ h1) id
  exact ⟨h2, lw_good h2⟩
def mR (f L : Nat) : Room := { frames := f, cells := 0, slots := 0, locals := L }
def pPre : State → Prop := fun _ => True
section TOPS
variable {p : Program} {l : Launch} {e : Env} {R : Room} {s : State} {m : MethodId} {args : Array Value} {below : List Frame} {meth : Method} {c : Code} {H : Heap} {locs : List Loc} {cells slots : Nat} {Q : State → Prop} {pc : Nat} {ls : Array Slot} {rest : List Value}
/-- the top of the stack under another name -/
theorem t_eq {x y : Int32} (hxy : x = y) (kk : W p l e R s m args below meth c H locs cells slots Q (F0 m pc ls (.int y :: rest))) : W p l e R s m args below meth c H locs cells slots Q (F0 m pc ls (.int x :: rest)) := hxy ▸ kk
theorem t_any {x : Int32} (kk : ∀ y : Int32, W p l e R s m args below meth c H locs cells slots Q (F0 m pc ls (.int y :: rest))) : W p l e R s m args below meth c H locs cells slots Q (F0 m pc ls (.int x :: rest)) := kk x
end TOPS
end
section
/-! Texts: the JDK's own length() and charAt() over a String that is a constant: its cell, its bytes. -/
def R_S : String := "java/lang/String"
def R_S1 : String := "java/lang/StringLatin1"
def R_Pc : String := "jdk/internal/util/Preconditions"
abbrev b_Pcheck : ByteArray := prog_20_method_11_code
def y_Pcheck : MethodName := ⟨R_Pc, "checkIndex", "(IILjava/util/function/BiFunction;)I"⟩
abbrev b_Scheck : ByteArray := prog_16_method_155_code
def y_Scheck : MethodName := ⟨R_S, "checkIndex", "(II)V"⟩
abbrev b_S1charAt : ByteArray := prog_17_method_2_code
def y_S1charAt : MethodName := ⟨R_S1, "charAt", "([BI)C"⟩
abbrev b_isLatin1 : ByteArray := prog_16_method_154_code
def y_isLatin1 : MethodName := ⟨R_S, "isLatin1", "()Z"⟩
abbrev b_coder : ByteArray := prog_16_method_152_code
def y_coder : MethodName := ⟨R_S, "coder", "()B"⟩
abbrev b_charAt : ByteArray := prog_16_method_56_code
def y_charAt : MethodName := ⟨R_S, "charAt", "(I)C"⟩
abbrev b_length : ByteArray := prog_16_method_54_code
def y_length : MethodName := ⟨R_S, "length", "()I"⟩
theorem ki_Pcheck : Cond.code y_Pcheck b_Pcheck 3 (some .int) ∈ lw_tg := in_t 517 (by decide +kernel)
theorem ks_Pcheck : Cond.static y_Pcheck ∈ lw_tg := in_t 516 (by decide +kernel)
theorem kl_Pcheck : Cond.methodLink R_S 1059 y_Pcheck ∈ lw_tg := in_t 515 (by decide +kernel)
theorem ki_Scheck : Cond.code y_Scheck b_Scheck 2 none ∈ lw_tg := in_t 512 (by decide +kernel)
theorem ks_Scheck : Cond.static y_Scheck ∈ lw_tg := in_t 511 (by decide +kernel)
theorem kl_Scheck : Cond.methodLink R_S1 9 y_Scheck ∈ lw_tg := in_t 510 (by decide +kernel)
theorem kf_fmt : Cond.fieldLink R_S 1053 R_Pc "SIOOBE_FORMATTER" "Ljava/util/function/BiFunction;" ∈ lw_tg := in_t 513 (by decide +kernel)
theorem ini_S : Cond.initialized R_S ∈ lw_tg := in_t 13 (by decide +kernel)
theorem ini_S1 : Cond.initialized R_S1 ∈ lw_tg := in_t 14 (by decide +kernel)
theorem ini_Pc : Cond.initialized R_Pc ∈ lw_tg := in_t 15 (by decide +kernel)
/-- a String constant's cells: at a, its bytes at v, n of them, f; the statics that its methods read -/
def sO (a v n : Nat) (f : Nat → Int32) (fv : Value) (U : State) : Prop := va_O R_S a (fun _ => False) U U.heap ∧ va_OF R_S "coder" "B" (.int 0) a (fun _ => False) U U.heap ∧ va_OF R_S "value" "[B" (.ref v) a (fun _ => False) U U.heap ∧ va_T .byte v n (fun j => .int (f j)) (fun _ => False) U U.heap ∧ va_Z R_S "COMPACT_STRINGS" "Z" (.int 1) (fun _ => False) U U.heap ∧ va_Z R_Pc "SIOOBE_FORMATTER" "Ljava/util/function/BiFunction;" fv (fun _ => False) U U.heap
theorem sO_moved {a v n : Nat} {f : Nat → Int32} {fv : Value} {u U : State} (hh : U.heap = u.heap) (hvm : u.vm.Alike U.vm) (h : sO a v n f fv u) : sO a v n f fv U := by
  unfold sO at h ⊢
  rw [hh]
  exact ⟨va_O.moved hvm h.1, va_OF.moved hvm h.2.1, va_OF.moved hvm h.2.2.1, va_T.moved hvm h.2.2.2.1, va_Z.moved hvm h.2.2.2.2.1, va_Z.moved hvm h.2.2.2.2.2⟩
/-- what a walk of a JDK method keeps -/
def gX (own : String) (p : Program) (c : Code) (cc : ByteArray) (args : Array Value) (s : State) (m : MethodId) : Prop := p.tables.exec = Jvm.exec ∧ c.code = cc ∧ (∀ w ∈ lw_tg, w.before args s = true) ∧ s.vm.findClass own = some m.cls
theorem g_enter {own : String} {l : Launch} {cc : ByteArray} {y : MethodName} {maxL : Nat} {ret : Option FieldType} {rm : Room} {as : List Value} {Qc : Array Value → State → Outcome → State → Prop} {free : Addr → Prop} {Pr : State → Prop} (hy : plainName y.cls = true) (hyc : y.cls = own) (hlen : (lg_sl as).length ≤ maxL)
    (body : ∀ (p : Program) (e : Env) (s : State) (m : MethodId) (below : List Frame) (meth : Method) (c : Code) (ls : Array Slot) (AV : Array Value) (QQ : State → Prop) (H : Heap) (locs : List Loc), Pr s → QQ = MQ below Qc AV s 0 0 free → va_S (fun _ => False) s.heap H locs → gX own p c cc AV s m → meth.sig.returnType = ret → meth.locks = false → c.maxLocals = maxL → lv_has ls maxL (lv_args 0 as) →
      W p l e rm s m AV below meth c H locs 0 0 QQ (F0 m 0 ls [])) :
    Met l y (Cond.code y cc maxL ret :: lw_tg) rm (va_Pc as Pr) Qc 0 0 free := by
  refine Met.ofW (cc := cc) (maxL := maxL) (ret := ret) hy rfl ?_
  intro p e s m args below meth c s₁ X hml hv
  obtain ⟨rfl, hPr⟩ := hv
  have hts := atoms_spec (ws := Cond.code y cc maxL ret :: lw_tg) X.pre
  have hown : s.vm.findClass own = some m.cls := by rw [← hyc]; exact findClass_of_methodNamed X.named
  have hl := lv_entry as (n := maxL) hlen
  rw [lg_entry_eq]
  exact body p e s m below meth c _ _ _ _ _ hPr rfl va_S.rf ⟨X.exec, X.bytes, fun w hw => hts w (List.mem_cons_of_mem _ hw), hown⟩ X.returns X.notSynchronized hml hl
section GRETS
variable {own : String} {p : Program} {l : Launch} {e : Env} {R : Room} {s : State} {m : MethodId} {below : List Frame} {meth : Method} {c : Code} {H : Heap} {locs : List Loc} {cc : ByteArray} {pc : Nat} {ls : Array Slot} {rest : List Value} {AV : Array Value} {QQ : State → Prop}
theorem g_reti {post : Int32 → Unit → Prop} {x : Int32} {ty : FieldType} (hQ : QQ = MQ below (va_Qi post (fun _ _ => True) (fun _ => False)) AV s 0 0 (fun _ => False)) (hS : va_S (fun _ => False) s.heap H locs) (X : gX own p c cc AV s m) (hr : meth.sig.returnType = some ty) (hn : narrow ty (.int x) = .int x) (hlk : meth.locks = false) (hp : post x ()) (hdg : decode cc pc = .ok (.ireturn, 1)) : W p l e R s m AV below meth c H locs 0 0 QQ (F0 m pc ls [.int x]) := by
  rw [hQ]
  exact W.zret X.1 X.2.1 hr hn (fun t ht hW => ⟨⟨x, (), rfl, hp, trivial⟩, hS.F ht⟩) hS.2.2 hdg
theorem g_retv (hQ : QQ = MQ below (va_Qv (fun _ : Unit => True) (fun _ _ => True) (fun _ => False)) AV s 0 0 (fun _ => False)) (hS : va_S (fun _ => False) s.heap H locs) (X : gX own p c cc AV s m) (hr : meth.sig.returnType = none) (hlk : meth.locks = false) (hdg : decode cc pc = .ok (.return_, 1)) : W p l e R s m AV below meth c H locs 0 0 QQ (F0 m pc ls []) := by
  rw [hQ]
  exact W.vret X.1 X.2.1 hr (fun t ht hW => ⟨⟨(), rfl, trivial, trivial⟩, hS.F ht⟩) hS.2.2 hdg
end GRETS
set_option maxHeartbeats 4000000 in
set_option maxRecDepth 100000 in
/-- Preconditions.checkIndex(i, n, ..): i, where i is below n -/
theorem c_Pcheck (l : Launch) (i n : Nat) (fv : Value) (hi : i < n) (hn : n < 2 ^ 31) (hfv : fv = .null ∨ ∃ x, fv = .ref x) : Met l y_Pcheck (Cond.code y_Pcheck b_Pcheck 3 (some .int) :: lw_tg) (mR 0 0) (va_Pc [.int (nI i), .int (nI n), fv] pPre) (va_Qi (fun (r : Int32) (_ : Unit) => r = nI i) (fun _ _ => True) (fun _ => False)) 0 0 (fun _ => False) := by
  refine g_enter (own := R_Pc) (by decide) rfl (by rcases hfv with rfl | ⟨x, rfl⟩ <;> exact Nat.le_of_ble_eq_true rfl) (fun p e s m below meth c ls AV QQ H locs hPr hQQ hS X hr hlk hml hl => ?_)
  have hl : lv_has ls 3 [(0, .int (nI i)), (1, .int (nI n))] := ⟨hl.1, hl.2.1, fun q hq => hl.2.2 q (by simp only [List.mem_cons, List.not_mem_nil, or_false] at hq; rcases hq with rfl | rfl <;> simp [lv_args, Value.category])⟩
  refine lv_iload_n X.1 X.2.1 (show decode b_Pcheck 0 = .ok (.iload_n 0, 1) by decide +kernel) rfl (lv_at hl 0 rfl) ?_
  refine lv_if_lt (tgt := 9) X.1 X.2.1 (show decode b_Pcheck 1 = .ok (.ifCond .lt 8, 3) by decide +kernel) (by decide) (fun c1 => absurd c1 (nI_pos (by omega))) (fun c1 => ?_)
  refine lv_iload_n X.1 X.2.1 (show decode b_Pcheck 4 = .ok (.iload_n 0, 1) by decide +kernel) rfl (lv_at hl 0 rfl) ?_
  refine lv_iload_n X.1 X.2.1 (show decode b_Pcheck 5 = .ok (.iload_n 1, 1) by decide +kernel) rfl (lv_at hl 1 rfl) ?_
  refine lv_icmp_lt (tgt := 16) X.1 X.2.1 (show decode b_Pcheck 6 = .ok (.if_icmp .lt 10, 3) by decide +kernel) (by decide) (fun c2 => ?_) (fun c2 => absurd (nI_lt hi hn) c2)
  refine lv_iload_n X.1 X.2.1 (show decode b_Pcheck 16 = .ok (.iload_n 0, 1) by decide +kernel) rfl (lv_at hl 0 rfl) ?_
  exact g_reti hQQ hS X hr rfl hlk rfl (show decode b_Pcheck 17 = .ok (.ireturn, 1) by decide +kernel)
theorem gd_S2 {own : String} {ix : Nat} {y : MethodName} {c1 : Cond} (a1 : Cond.methodLink own ix y ∈ lw_tg) (a2 : Cond.static y ∈ lw_tg) (a4 : Cond.initialized y.cls ∈ lw_tg) (h1 : c1 ∈ lw_tg) : GoodIn lw_tg (va_wsS own ix y (c1 :: lw_tg)) := by
  intro w hw
  have h2 : w ∈ lw_tg := by
    rcases List.mem_append.mp hw with h | h
    · simp only [List.mem_cons, List.not_mem_nil, or_false] at h
      rcases h with rfl | rfl | rfl <;> assumption
    · exact (List.mem_cons.mp h).elim (fun e => e ▸ h1) id
  exact ⟨h2, lw_good h2⟩
section GCALLS
variable {own : String} {p : Program} {l : Launch} {e : Env} {R : Room} {s : State} {m : MethodId} {below : List Frame} {meth : Method} {c : Code} {H : Heap} {locs : List Loc} {cc : ByteArray} {pc : Nat} {ls : Array Slot} {rest : List Value} {AV : Array Value} {Q : State → Prop} {Pr : State → Prop}
/-- a static call out of a JDK method; what the callee wants of the heap (Pr) doesn't hang on frames -/
theorem g_runS {y : MethodName} {bytes : ByteArray} {maxL nL n ix f L : Nat} {ret : Option FieldType} {As : List Value} {Qc : Array Value → State → Outcome → State → Prop} (X : gX own p c cc AV s m) (hml : c.maxLocals = nL) (hsz : ls.size = nL) (hM : Met l y (Cond.code y bytes maxL ret :: lw_tg) (mR f L) (va_Pc As Pr) Qc 0 0 (fun _ => False))
    (a1 : Cond.methodLink own ix y ∈ lw_tg) (a2 : Cond.static y ∈ lw_tg) (a4 : Cond.code y bytes maxL ret ∈ lw_tg) (a5 : Cond.initialized y.cls ∈ lw_tg) (hbl : ∀ (a : Array Value) (U : State) (g : JFrame) (mk : MethodId), Pr U → Pr (U.calling g mk a)) (hPr : ∀ U : State, U.heap = H → s.WarmedH U.vm → Pr U) (hd : y.cls ≠ "java/lang/invoke/MethodHandle" ∧ y.cls ≠ "java/lang/invoke/VarHandle" ∧ (parseMethodDescriptor y.desc).map (fun d => d.parameters.length) = some n) (hR : f + 1 ≤ R.frames ∧ 8 + (maxL + 11) + L ≤ R.locals) (hn : As.length = n) (hw : (rest.map fun v => v.category).sum ≤ 8) (hdg : decode cc pc = .ok (.invokestatic ix, 3)) :
    va_Run p l e R s m AV below meth c H locs 0 0 0 0 (F0 m pc ls (As.reverse ++ rest)) rest (Qc As.toArray) (fun _ => False) :=
  va_runS (As := As) (rest := rest) ⟨X.1, X.2.1, hml, X.2.2.2, X.2.2.1⟩ hM (va_cwS n X.2.2.1 (gd_S2 a1 a2 a5 a4) rfl rfl rfl hd hR) ⟨fun a U g mk x => ⟨x.1, hbl a U g mk x.2⟩, fun U hU hW => ⟨rfl, hPr U hU hW⟩⟩ rfl hn hsz rfl (lv_room hw) hdg ⟨Nat.zero_le _, Nat.zero_le _⟩
end GCALLS
/-- what String.checkIndex reads: the formatter -/
def sF (fv : Value) (U : State) : Prop := va_Z R_Pc "SIOOBE_FORMATTER" "Ljava/util/function/BiFunction;" fv (fun _ => False) U U.heap
theorem hd_Pcheck : y_Pcheck.cls ≠ "java/lang/invoke/MethodHandle" ∧ y_Pcheck.cls ≠ "java/lang/invoke/VarHandle" ∧ (parseMethodDescriptor y_Pcheck.desc).map (fun d => d.parameters.length) = some 3 := by decide +kernel
theorem hd_Scheck : y_Scheck.cls ≠ "java/lang/invoke/MethodHandle" ∧ y_Scheck.cls ≠ "java/lang/invoke/VarHandle" ∧ (parseMethodDescriptor y_Scheck.desc).map (fun d => d.parameters.length) = some 2 := by decide +kernel
set_option maxHeartbeats 4000000 in
set_option maxRecDepth 100000 in
/-- String.checkIndex(i, n): returns, where i is below n -/
theorem c_Scheck (l : Launch) (i n : Nat) (fv : Value) (hi : i < n) (hn : n < 2 ^ 31) (hfv : fv = .null ∨ ∃ x, fv = .ref x) : Met l y_Scheck (Cond.code y_Scheck b_Scheck 2 none :: lw_tg) (mR 1 22) (va_Pc [.int (nI i), .int (nI n)] (sF fv)) (va_Qv (fun _ : Unit => True) (fun _ _ => True) (fun _ => False)) 0 0 (fun _ => False) := by
  refine g_enter (own := R_S) (by decide) rfl (Nat.le_of_ble_eq_true rfl) (fun p e s m below meth c ls AV QQ H locs hPr hQQ hS X hr hlk hml hl => ?_)
  have hl : lv_has ls 2 [(0, .int (nI i)), (1, .int (nI n))] := hl
  have hcat : fv.category = 1 := by rcases hfv with rfl | ⟨x, rfl⟩ <;> rfl
  refine lv_iload_n X.1 X.2.1 (show decode b_Scheck 0 = .ok (.iload_n 0, 1) by decide +kernel) rfl (lv_at hl 0 rfl) ?_
  refine lv_iload_n X.1 X.2.1 (show decode b_Scheck 1 = .ok (.iload_n 1, 1) by decide +kernel) rfl (lv_at hl 1 rfl) ?_
  refine va_gets X.1 X.2.1 hPr hS X.2.2.2 (X.2.2.1 _ kf_fmt) (fun _ h9 => h9) (show decode b_Scheck 2 = .ok (.getstatic 1053, 3) by decide +kernel) ?_
  refine va_calli (g_runS (As := [.int (nI i), .int (nI n), fv]) (rest := []) (n := 3) X hml hl.1 (c_Pcheck l i n fv hi hn hfv) kl_Pcheck ks_Pcheck ki_Pcheck ini_Pc (fun _ _ _ _ _ => trivial) (fun _ _ _ => trivial) hd_Pcheck ⟨by decide, by decide⟩ rfl (Nat.le_of_ble_eq_true rfl) (show decode b_Scheck 5 = .ok (.invokestatic 1059, 3) by decide +kernel)) hS (fun _ _ hh => hh.elim) (fun _ hh => hh.elim) (fun r u t H1 locs1 ht hvm hp hB hz hk hS => ?_)
  refine lv_pop X.1 X.2.1 (show decode b_Scheck 8 = .ok (.pop, 1) by decide +kernel) rfl ?_
  exact g_retv hQQ hS X hr hlk (show decode b_Scheck 9 = .ok (.return_, 1) by decide +kernel)
theorem ki_S1charAt : Cond.code y_S1charAt b_S1charAt 2 (some .char) ∈ lw_tg := in_t 509 (by decide +kernel)
theorem ks_S1charAt : Cond.static y_S1charAt ∈ lw_tg := in_t 508 (by decide +kernel)
theorem kl_S1charAt : Cond.methodLink R_S 495 y_S1charAt ∈ lw_tg := in_t 507 (by decide +kernel)
theorem hd_S1charAt : y_S1charAt.cls ≠ "java/lang/invoke/MethodHandle" ∧ y_S1charAt.cls ≠ "java/lang/invoke/VarHandle" ∧ (parseMethodDescriptor y_S1charAt.desc).map (fun d => d.parameters.length) = some 2 := by decide +kernel
theorem kf_compact : Cond.fieldLink R_S 38 R_S "COMPACT_STRINGS" "Z" ∈ lw_tg := in_t 497 (by decide +kernel)
theorem kf_value : Cond.fieldLink R_S 9 R_S "value" "[B" ∈ lw_tg := in_t 2879 (by decide +kernel)
theorem kf_coder : Cond.fieldLink R_S 15 R_S "coder" "B" ∈ lw_tg := in_t 2880 (by decide +kernel)
theorem ki_isLatin1 : Cond.code y_isLatin1 b_isLatin1 1 (some .boolean) ∈ lw_tg := in_t 506 (by decide +kernel)
theorem kx_isLatin1 : Cond.selects R_S y_isLatin1 y_isLatin1 ∈ lw_tg := in_t 505 (by decide +kernel)
theorem ks_isLatin1 : Cond.instanceMethod y_isLatin1 ∈ lw_tg := in_t 504 (by decide +kernel)
theorem kl_isLatin1 : Cond.methodLink R_S 492 y_isLatin1 ∈ lw_tg := in_t 503 (by decide +kernel)
theorem ki_coder : Cond.code y_coder b_coder 1 (some .byte) ∈ lw_tg := in_t 496 (by decide +kernel)
theorem kx_coder : Cond.selects R_S y_coder y_coder ∈ lw_tg := in_t 495 (by decide +kernel)
theorem ks_coder : Cond.instanceMethod y_coder ∈ lw_tg := in_t 494 (by decide +kernel)
theorem kl_coder : Cond.methodLink R_S 335 y_coder ∈ lw_tg := in_t 493 (by decide +kernel)
/-- what StringLatin1.charAt reads -/
def sT (v n : Nat) (f : Nat → Int32) (fv : Value) (U : State) : Prop := va_T .byte v n (fun j => .int (f j)) (fun _ => False) U U.heap ∧ sF fv U
theorem sF_moved {fv : Value} {u U : State} (hh : U.heap = u.heap) (hvm : u.vm.Alike U.vm) (h : sF fv u) : sF fv U := by
  unfold sF at h ⊢
  rw [hh]
  exact va_Z.moved hvm h
theorem sF_kept {fv : Value} {s U : State} {H : Heap} {locs : List Loc} (hU : U.heap = H) (hW : s.WarmedH U.vm) (hS : va_S (fun _ => False) s.heap H locs) (h : sF fv s) : sF fv U := by
  obtain ⟨cf, kf, fi, f, a, cell, h1, h2, h3, h4, h5, h6⟩ := va_Z.moved hW.alike h
  refine ⟨cf, kf, fi, f, a, cell, h1, h2, h3, h4, ?_, h6⟩
  rw [hU, hS.2.1 a (Array.getElem?_eq_some_iff.mp h5).1 (fun h => h)]
  exact h5
theorem sT_kept {v n : Nat} {f : Nat → Int32} {fv : Value} {s U : State} {H : Heap} {locs : List Loc} (hU : U.heap = H) (hW : s.WarmedH U.vm) (hS : va_S (fun _ => False) s.heap H locs) (h : sT v n f fv s) : sT v n f fv U := by
  refine ⟨?_, sF_kept hU hW hS h.2⟩
  rw [hU]
  exact (va_T.moved hW.alike h.1).kept (fun a ha hn => hS.2.1 a ha hn)
set_option maxHeartbeats 4000000 in
set_option maxRecDepth 100000 in
/-- StringLatin1.charAt(v, i) -/
theorem c_S1charAt (l : Launch) (v n i : Nat) (f : Nat → Int32) (fv : Value) (hi : i < n) (hn : n < 2 ^ 31) (hfv : fv = .null ∨ ∃ x, fv = .ref x) : Met l y_S1charAt (Cond.code y_S1charAt b_S1charAt 2 (some .char) :: lw_tg) (mR 2 43) (va_Pc [.ref v, .int (nI i)] (sT v n f fv)) (va_Qi (fun (r : Int32) (_ : Unit) => r = f i &&& 255) (fun _ _ => True) (fun _ => False)) 0 0 (fun _ => False) := by
  refine g_enter (own := R_S1) (by decide) rfl (Nat.le_of_ble_eq_true rfl) (fun p e s m below meth c ls AV QQ H locs hPr hQQ hS X hr hlk hml hl => ?_)
  have hl : lv_has ls 2 [(0, .ref v), (1, .int (nI i))] := hl
  refine lv_iload_n X.1 X.2.1 (show decode b_S1charAt 0 = .ok (.iload_n 1, 1) by decide +kernel) rfl (lv_at hl 1 rfl) ?_
  refine lv_aload_n X.1 X.2.1 (show decode b_S1charAt 1 = .ok (.aload_n 0, 1) by decide +kernel) rfl (lv_at hl 0 rfl) ?_
  refine va_tlen (v := nI n) X.1 X.2.1 hPr.1 hS rfl (show decode b_S1charAt 2 = .ok (.arraylength, 1) by decide +kernel) ?_
  refine va_callv (g_runS (As := [.int (nI i), .int (nI n)]) (rest := []) (n := 2) X hml hl.1 (c_Scheck l i n fv hi hn hfv) kl_Scheck ks_Scheck ki_Scheck ini_S (fun a U g mk h => sF_moved (u := U) rfl (Vm.Alike.refl U.vm) h) (fun U hU hW => sF_kept hU hW hS hPr.2) hd_Scheck ⟨by decide, by decide⟩ rfl (Nat.le_of_ble_eq_true rfl) (show decode b_S1charAt 3 = .ok (.invokestatic 9, 3) by decide +kernel)) hS (fun _ _ hh => hh.elim) (fun _ hh => hh.elim) (fun u t H1 locs1 ht hvm hp hB hz hk hS => ?_)
  refine lv_aload_n X.1 X.2.1 (show decode b_S1charAt 6 = .ok (.aload_n 0, 1) by decide +kernel) rfl (lv_at hl 0 rfl) ?_
  refine lv_iload_n X.1 X.2.1 (show decode b_S1charAt 7 = .ok (.iload_n 1, 1) by decide +kernel) rfl (lv_at hl 1 rfl) ?_
  refine va_tb (v := .int (f i)) X.1 X.2.1 hPr.1 hS (vp_in_nI hi hn) (by rw [nI_clamp (by omega)]) (show decode b_S1charAt 8 = .ok (.baload, 1) by decide +kernel) ?_
  refine lv_sipush (v := 255) X.1 X.2.1 (show decode b_S1charAt 9 = .ok (.sipush 255, 3) by decide +kernel) (by decide) ?_
  refine lv_iand X.1 X.2.1 (show decode b_S1charAt 12 = .ok (.iand, 1) by decide +kernel) ?_
  refine lv_i2c (v := f i &&& 255) X.1 X.2.1 (show decode b_S1charAt 13 = .ok (.i2c, 1) by decide +kernel) (sc_c2 _) ?_
  exact g_reti hQQ hS X hr (sc_nar _) hlk rfl (show decode b_S1charAt 14 = .ok (.ireturn, 1) by decide +kernel)
set_option maxHeartbeats 4000000 in
set_option maxRecDepth 100000 in
/-- isLatin1(): true -/
theorem c_isLatin1 (l : Launch) (a v n : Nat) (f : Nat → Int32) (fv : Value) : Met l y_isLatin1 (Cond.code y_isLatin1 b_isLatin1 1 (some .boolean) :: lw_tg) (mR 0 0) (va_Pc [.ref a] (sO a v n f fv)) (va_Qi (fun (r : Int32) (_ : Unit) => r = nI 1) (fun _ _ => True) (fun _ => False)) 0 0 (fun _ => False) := by
  refine g_enter (own := R_S) (by decide) rfl (Nat.le_of_ble_eq_true rfl) (fun p e s m below meth c ls AV QQ H locs hPr hQQ hS X hr hlk hml hl => ?_)
  have hl : lv_has ls 1 [(0, .ref a)] := hl
  refine va_gets X.1 X.2.1 hPr.2.2.2.2.1 hS X.2.2.2 (X.2.2.1 _ kf_compact) (fun _ h9 => h9) (show decode b_isLatin1 0 = .ok (.getstatic 38, 3) by decide +kernel) ?_
  refine lv_if_eq (tgt := 17) X.1 X.2.1 (show decode b_isLatin1 3 = .ok (.ifCond .eq 14, 3) by decide +kernel) (by decide) (fun c1 => absurd c1 (by decide)) (fun _ => ?_)
  refine lv_aload_n X.1 X.2.1 (show decode b_isLatin1 6 = .ok (.aload_n 0, 1) by decide +kernel) rfl (lv_at hl 0 rfl) ?_
  refine vk_getf X.1 X.2.1 hPr.2.1 hS X.2.2.2 (X.2.2.1 _ kf_coder) (fun _ h9 => h9) (show decode b_isLatin1 7 = .ok (.getfield 15, 3) by decide +kernel) ?_
  refine lv_if_ne (tgt := 17) X.1 X.2.1 (show decode b_isLatin1 10 = .ok (.ifCond .ne 7, 3) by decide +kernel) (by decide) (fun c1 => absurd rfl c1) (fun _ => ?_)
  refine lv_iconst (v := nI 1) X.1 X.2.1 (show decode b_isLatin1 13 = .ok (.iconst 1, 1) by decide +kernel) (by decide) ?_
  refine lv_goto (tgt := 18) X.1 X.2.1 (show decode b_isLatin1 14 = .ok (.goto 4, 3) by decide +kernel) (by decide) ?_
  exact g_reti hQQ hS X hr rfl hlk rfl (show decode b_isLatin1 18 = .ok (.ireturn, 1) by decide +kernel)
set_option maxHeartbeats 4000000 in
set_option maxRecDepth 100000 in
/-- coder(): 0 -/
theorem c_coder (l : Launch) (a v n : Nat) (f : Nat → Int32) (fv : Value) : Met l y_coder (Cond.code y_coder b_coder 1 (some .byte) :: lw_tg) (mR 0 0) (va_Pc [.ref a] (sO a v n f fv)) (va_Qi (fun (r : Int32) (_ : Unit) => r = 0) (fun _ _ => True) (fun _ => False)) 0 0 (fun _ => False) := by
  refine g_enter (own := R_S) (by decide) rfl (Nat.le_of_ble_eq_true rfl) (fun p e s m below meth c ls AV QQ H locs hPr hQQ hS X hr hlk hml hl => ?_)
  have hl : lv_has ls 1 [(0, .ref a)] := hl
  refine va_gets X.1 X.2.1 hPr.2.2.2.2.1 hS X.2.2.2 (X.2.2.1 _ kf_compact) (fun _ h9 => h9) (show decode b_coder 0 = .ok (.getstatic 38, 3) by decide +kernel) ?_
  refine lv_if_eq (tgt := 13) X.1 X.2.1 (show decode b_coder 3 = .ok (.ifCond .eq 10, 3) by decide +kernel) (by decide) (fun c1 => absurd c1 (by decide)) (fun _ => ?_)
  refine lv_aload_n X.1 X.2.1 (show decode b_coder 6 = .ok (.aload_n 0, 1) by decide +kernel) rfl (lv_at hl 0 rfl) ?_
  refine vk_getf X.1 X.2.1 hPr.2.1 hS X.2.2.2 (X.2.2.1 _ kf_coder) (fun _ h9 => h9) (show decode b_coder 7 = .ok (.getfield 15, 3) by decide +kernel) ?_
  refine lv_goto (tgt := 14) X.1 X.2.1 (show decode b_coder 10 = .ok (.goto 4, 3) by decide +kernel) (by decide) ?_
  exact g_reti hQQ hS X hr rfl hlk rfl (show decode b_coder 14 = .ok (.ireturn, 1) by decide +kernel)
theorem sO_kept {a v n : Nat} {f : Nat → Int32} {fv : Value} {s U : State} {H : Heap} {locs : List Loc} (hU : U.heap = H) (hW : s.WarmedH U.vm) (hS : va_S (fun _ => False) s.heap H locs) (h : sO a v n f fv s) : sO a v n f fv U := by
  have hq : ∀ a : Nat, a < s.heap.size → ¬ (fun _ : Nat => False) a → H[a]? = s.heap[a]? := fun a ha hn => hS.2.1 a ha hn
  unfold sO
  rw [hU]
  refine ⟨(va_O.moved hW.alike h.1).kept hq, (va_OF.moved hW.alike h.2.1).kept hq, (va_OF.moved hW.alike h.2.2.1).kept hq, (va_T.moved hW.alike h.2.2.2.1).kept hq, ?_, ?_⟩
  · obtain ⟨cf, kf, fi, g, x, cell, h1, h2, h3, h4, h5, h6⟩ := va_Z.moved hW.alike h.2.2.2.2.1
    exact ⟨cf, kf, fi, g, x, cell, h1, h2, h3, h4, by rw [hS.2.1 x (Array.getElem?_eq_some_iff.mp h5).1 (fun h => h)]; exact h5, h6⟩
  · obtain ⟨cf, kf, fi, g, x, cell, h1, h2, h3, h4, h5, h6⟩ := va_Z.moved hW.alike h.2.2.2.2.2
    exact ⟨cf, kf, fi, g, x, cell, h1, h2, h3, h4, by rw [hS.2.1 x (Array.getElem?_eq_some_iff.mp h5).1 (fun h => h)]; exact h5, h6⟩
section GCALLV
variable {own : String} {p : Program} {l : Launch} {e : Env} {R : Room} {s : State} {m : MethodId} {below : List Frame} {meth : Method} {c : Code} {H : Heap} {locs : List Loc} {cc : ByteArray} {pc : Nat} {ls : Array Slot} {rest : List Value} {AV : Array Value} {Q : State → Prop}
/-- a call of a String's method, out of any method whose own words are lw_tg -/
theorem g_runV {y : MethodName} {bytes : ByteArray} {maxL nL n ix f L a v k : Nat} {g : Nat → Int32} {fv : Value} {ret : Option FieldType} {As : List Value} {Qc : Array Value → State → Outcome → State → Prop} (X : gX own p c cc AV s m) (hS : va_S (fun _ => False) s.heap H locs) (hO : sO a v k g fv s) (hml : c.maxLocals = nL) (hsz : ls.size = nL) (hM : Met l y (Cond.code y bytes maxL ret :: lw_tg) (mR f L) (va_Pc (.ref a :: As) (sO a v k g fv)) Qc 0 0 (fun _ => False))
    (a1 : Cond.methodLink own ix y ∈ lw_tg) (a2 : Cond.instanceMethod y ∈ lw_tg) (a3 : Cond.selects R_S y y ∈ lw_tg) (a4 : Cond.code y bytes maxL ret ∈ lw_tg) (hd : y.cls = R_S ∧ y.cls ≠ "java/lang/invoke/MethodHandle" ∧ y.cls ≠ "java/lang/invoke/VarHandle" ∧ (parseMethodDescriptor y.desc).map (fun d => d.parameters.length) = some n) (hR : f + 1 ≤ R.frames ∧ 8 + (maxL + 11) + L ≤ R.locals) (hn : As.length = n) (hw : (rest.map fun v => v.category).sum ≤ 8) (hdg : decode cc pc = .ok (.invokevirtual ix, 3)) :
    va_Run p l e R s m AV below meth c H locs 0 0 0 0 (F0 m pc ls (As.reverse ++ .ref a :: rest)) rest (Qc (Value.ref a :: As).toArray) (fun _ => False) := by
  refine va_runV (As := As) (rest := rest) ⟨X.1, X.2.1, hml, X.2.2.2, X.2.2.1⟩ hM (cwV n X.2.2.1 (gd_V a1 a2 a3 ini_S a4) rfl rfl rfl hd hR) ⟨fun a U g mk x => ⟨x.1, sO_moved (u := U) rfl (Vm.Alike.refl U.vm) x.2⟩, ?_, fun U hU hW => ⟨rfl, sO_kept hU hW hS hO⟩⟩ rfl hn hsz rfl (lv_room hw) hdg ⟨Nat.zero_le _, Nat.zero_le _⟩
  obtain ⟨cell, h1, h2, h3, -⟩ := hO.1.kept (H1 := H) (fun a ha hn => hS.2.1 a ha hn)
  exact ⟨cell, h1, h2, h3⟩
end GCALLV
theorem hd_isLatin1 : y_isLatin1.cls = R_S ∧ y_isLatin1.cls ≠ "java/lang/invoke/MethodHandle" ∧ y_isLatin1.cls ≠ "java/lang/invoke/VarHandle" ∧ (parseMethodDescriptor y_isLatin1.desc).map (fun d => d.parameters.length) = some 0 := by decide +kernel
theorem hd_coder : y_coder.cls = R_S ∧ y_coder.cls ≠ "java/lang/invoke/MethodHandle" ∧ y_coder.cls ≠ "java/lang/invoke/VarHandle" ∧ (parseMethodDescriptor y_coder.desc).map (fun d => d.parameters.length) = some 0 := by decide +kernel
set_option maxHeartbeats 4000000 in
set_option maxRecDepth 100000 in
/-- charAt(i) of a constant -/
theorem c_charAt (l : Launch) (a v n i : Nat) (f : Nat → Int32) (fv : Value) (hi : i < n) (hn : n < 2 ^ 31) (hfv : fv = .null ∨ ∃ x, fv = .ref x) : Met l y_charAt (Cond.code y_charAt b_charAt 2 (some .char) :: lw_tg) (mR 3 64) (va_Pc [.ref a, .int (nI i)] (sO a v n f fv)) (va_Qi (fun (r : Int32) (_ : Unit) => r = f i &&& 255) (fun _ _ => True) (fun _ => False)) 0 0 (fun _ => False) := by
  refine g_enter (own := R_S) (by decide) rfl (Nat.le_of_ble_eq_true rfl) (fun p e s m below meth c ls AV QQ H locs hPr hQQ hS X hr hlk hml hl => ?_)
  have hl : lv_has ls 2 [(0, .ref a), (1, .int (nI i))] := hl
  refine lv_aload_n X.1 X.2.1 (show decode b_charAt 0 = .ok (.aload_n 0, 1) by decide +kernel) rfl (lv_at hl 0 rfl) ?_
  refine va_calli (g_runV (As := []) (rest := []) (n := 0) X hS hPr hml hl.1 (c_isLatin1 l a v n f fv) kl_isLatin1 ks_isLatin1 kx_isLatin1 ki_isLatin1 hd_isLatin1 ⟨by decide, by decide⟩ rfl (Nat.le_of_ble_eq_true rfl) (show decode b_charAt 1 = .ok (.invokevirtual 492, 3) by decide +kernel)) hS (fun _ _ hh => hh.elim) (fun _ hh => hh.elim) (fun r u t H1 locs1 ht hvm hp hB hz hk hS => ?_)
  refine lv_if_eq (tgt := 16) X.1 X.2.1 (show decode b_charAt 4 = .ok (.ifCond .eq 12, 3) by decide +kernel) (by decide) (fun c1 => absurd (hp.symm.trans c1) (by decide)) (fun _ => ?_)
  refine lv_aload_n X.1 X.2.1 (show decode b_charAt 7 = .ok (.aload_n 0, 1) by decide +kernel) rfl (lv_at hl 0 rfl) ?_
  refine vk_getf X.1 X.2.1 hPr.2.2.1 hS X.2.2.2 (X.2.2.1 _ kf_value) (fun _ h9 => h9) (show decode b_charAt 8 = .ok (.getfield 9, 3) by decide +kernel) ?_
  refine lv_iload_n X.1 X.2.1 (show decode b_charAt 11 = .ok (.iload_n 1, 1) by decide +kernel) rfl (lv_at hl 1 rfl) ?_
  refine va_calli (g_runS (As := [.ref v, .int (nI i)]) (rest := []) (n := 2) X hml hl.1 (c_S1charAt l v n i f fv hi hn hfv) kl_S1charAt ks_S1charAt ki_S1charAt ini_S1 (fun a U g mk h => ⟨va_T.moved (u := U) (Vm.Alike.refl U.vm) h.1, sF_moved (u := U) rfl (Vm.Alike.refl U.vm) h.2⟩) (fun U hU hW => sT_kept hU hW hS ⟨hPr.2.2.2.1, hPr.2.2.2.2.2⟩) hd_S1charAt ⟨by decide, by decide⟩ rfl (Nat.le_of_ble_eq_true rfl) (show decode b_charAt 12 = .ok (.invokestatic 495, 3) by decide +kernel)) hS (fun _ _ hh => hh.elim) (fun _ hh => hh.elim) (fun r2 u t H1 locs1 ht hvm hp2 hB hz hk hS => ?_)
  exact g_reti hQQ hS X hr (by rw [hp2]; exact sc_nar _) hlk hp2 (show decode b_charAt 15 = .ok (.ireturn, 1) by decide +kernel)
set_option maxHeartbeats 4000000 in
set_option maxRecDepth 100000 in
/-- length() of a constant -/
theorem c_length (l : Launch) (a v n : Nat) (f : Nat → Int32) (fv : Value) (hn : n < 2 ^ 31) : Met l y_length (Cond.code y_length b_length 1 (some .int) :: lw_tg) (mR 1 20) (va_Pc [.ref a] (sO a v n f fv)) (va_Qi (fun (r : Int32) (_ : Unit) => r = nI n) (fun _ _ => True) (fun _ => False)) 0 0 (fun _ => False) := by
  refine g_enter (own := R_S) (by decide) rfl (Nat.le_of_ble_eq_true rfl) (fun p e s m below meth c ls AV QQ H locs hPr hQQ hS X hr hlk hml hl => ?_)
  have hl : lv_has ls 1 [(0, .ref a)] := hl
  refine lv_aload_n X.1 X.2.1 (show decode b_length 0 = .ok (.aload_n 0, 1) by decide +kernel) rfl (lv_at hl 0 rfl) ?_
  refine vk_getf X.1 X.2.1 hPr.2.2.1 hS X.2.2.2 (X.2.2.1 _ kf_value) (fun _ h9 => h9) (show decode b_length 1 = .ok (.getfield 9, 3) by decide +kernel) ?_
  refine va_tlen (v := nI n) X.1 X.2.1 hPr.2.2.2.1 hS rfl (show decode b_length 4 = .ok (.arraylength, 1) by decide +kernel) ?_
  refine lv_aload_n X.1 X.2.1 (show decode b_length 5 = .ok (.aload_n 0, 1) by decide +kernel) rfl (lv_at hl 0 rfl) ?_
  refine va_calli (g_runV (As := []) (rest := [.int (nI n)]) (n := 0) X hS hPr hml hl.1 (c_coder l a v n f fv) kl_coder ks_coder kx_coder ki_coder hd_coder ⟨by decide, by decide⟩ rfl (Nat.le_of_ble_eq_true rfl) (show decode b_length 6 = .ok (.invokevirtual 335, 3) by decide +kernel)) hS (fun _ _ hh => hh.elim) (fun _ hh => hh.elim) (fun r u t H1 locs1 ht hvm hp hB hz hk hS => ?_)
  refine lv_ishr X.1 X.2.1 (show decode b_length 9 = .ok (.ishr, 1) by decide +kernel) ?_
  refine t_eq (y := nI n) (by rw [hp]; exact sb_shr0 _) ?_
  exact g_reti hQQ hS X hr rfl hlk rfl (show decode b_length 10 = .ok (.ireturn, 1) by decide +kernel)
/-! The reference's literals, by number: zL their bytes, zX where its constant pool has them, zT their texts. -/
def zL : List (List Nat) := [[107, 114, 98, 116, 103, 116, 47, 72, 79, 85, 83, 69, 58], [107, 114, 98, 116, 103, 116, 47, 72, 79, 85, 83, 69], [72, 79, 85, 83, 69], [49, 105, 32, 50, 105, 32, 51, 63, 80, 32, 52, 81, 32], [48, 105, 32, 49, 83, 32], [48, 105, 32, 49, 63, 117, 32, 50, 111, 32], [48, 105, 32, 49, 111, 32], [48, 105, 32, 49, 115, 32, 50, 78, 32, 51, 69, 32], [49, 105, 32, 50, 111, 32], [48, 111, 32, 49, 63, 116, 32, 50, 63, 109, 32, 51, 63, 117, 32, 52, 72, 32, 53, 63, 72, 32], [48, 75, 32, 49, 63, 115, 32, 50, 63, 78, 32, 51, 63, 102, 32, 52, 63, 116, 32, 53, 63, 116, 32, 54, 63, 116, 32, 55, 63, 116, 32, 56, 63, 115, 32, 57, 63, 78, 32, 49, 48, 63, 104, 32], [48, 105, 32, 49, 116, 32], [48, 102, 32, 49, 63, 78, 32, 50, 115, 32, 51, 63, 78, 32, 52, 63, 116, 32, 53, 116, 32, 54, 63, 116, 32, 55, 117, 32, 56, 101, 32, 57, 63, 104, 32, 49, 48, 63, 69, 32, 49, 49, 63, 107, 32], [48, 116, 32, 49, 63, 109, 32], [48, 105, 32, 49, 105, 32, 50, 102, 32, 51, 84, 32, 52, 69, 32], [48, 102, 32, 49, 75, 32, 50, 115, 32, 51, 78, 32, 52, 82, 32, 53, 116, 32, 54, 63, 116, 32, 55, 116, 32, 56, 63, 116, 32, 57, 63, 104, 32, 49, 48, 63, 65, 32], [48, 105, 32, 49, 115, 32, 50, 78, 32, 51, 63, 67, 32, 52, 109, 32, 53, 116, 32, 54, 63, 75, 32, 55, 63, 117, 32, 56, 63, 65, 32], [48, 105, 32, 49, 105, 32, 50, 63, 116, 32, 51, 63, 109, 32, 52, 116, 32, 53, 109, 32, 54, 105, 32, 55, 63, 115, 32, 56, 63, 78, 32, 57, 115, 32, 49, 48, 78, 32, 49, 49, 63, 115, 32, 49, 50, 63, 111, 32], [48, 105, 32, 49, 105, 32, 50, 63, 80, 32, 51, 115, 32, 52, 78, 32, 53, 84, 32, 54, 69, 32], [48, 75, 32, 49, 76, 32, 50, 117, 32, 51, 63, 116, 32, 52, 102, 32, 53, 116, 32, 54, 63, 116, 32, 55, 116, 32, 56, 63, 116, 32, 57, 115, 32, 49, 48, 78, 32, 49, 49, 63, 104, 32], [48, 105, 32, 49, 105, 32, 50, 69, 32], [48, 116, 32, 49, 109, 32, 50, 63, 75, 32, 51, 63, 117, 32], [48, 105, 32, 49, 105, 32, 51, 69, 32], [48, 105, 32, 49, 105, 32, 50, 89, 32, 51, 67, 32], [48, 105, 32, 49, 105, 32, 50, 107, 32, 51, 69, 32], [48, 86, 32, 49, 63, 117, 32, 50, 63, 116, 32, 51, 63, 109, 32, 52, 63, 72, 32, 53, 63, 72, 32]]
def zX : List Nat := [326, 611, 621, 663, 511, 516, 518, 520, 526, 528, 530, 532, 534, 769, 797, 779, 788, 956, 960, 962, 983, 985, 998, 1005, 1009, 1011]
def zT : List String := ["krbtgt/HOUSE:", "krbtgt/HOUSE", "HOUSE", "1i 2i 3?P 4Q ", "0i 1S ", "0i 1?u 2o ", "0i 1o ", "0i 1s 2N 3E ", "1i 2o ", "0o 1?t 2?m 3?u 4H 5?H ", "0K 1?s 2?N 3?f 4?t 5?t 6?t 7?t 8?s 9?N 10?h ", "0i 1t ", "0f 1?N 2s 3?N 4?t 5t 6?t 7u 8e 9?h 10?E 11?k ", "0t 1?m ", "0i 1i 2f 3T 4E ", "0f 1K 2s 3N 4R 5t 6?t 7t 8?t 9?h 10?A ", "0i 1s 2N 3?C 4m 5t 6?K 7?u 8?A ", "0i 1i 2?t 3?m 4t 5m 6i 7?s 8?N 9s 10N 11?s 12?o ", "0i 1i 2?P 3s 4N 5T 6E ", "0K 1L 2u 3?t 4f 5t 6?t 7t 8?t 9s 10N 11?h ", "0i 1i 2E ", "0t 1m 2?K 3?u ", "0i 1i 3E ", "0i 1i 2Y 3C ", "0i 1i 2k 3E ", "0V 1?u 2?t 3?m 4?H 5?H "]
def nZ : Nat := 26
def zn (i : Nat) : Nat := (zL.getD i []).length
def zb (i j : Nat) : Int32 := nI ((zL.getD i []).getD j 0)
def zS (z zv : Nat → Nat) (fv : Value) (A : Nat → Prop) (U : State) (H : Heap) : Prop := (∀ i, i < nZ → va_O R_S (z i) A U H ∧ va_OF R_S "coder" "B" (.int 0) (z i) A U H ∧ va_OF R_S "value" "[B" (.ref (zv i)) (z i) A U H ∧ va_T .byte (zv i) (zn i) (fun j => .int (zb i j)) A U H) ∧ va_Z R_S "COMPACT_STRINGS" "Z" (.int 1) A U H ∧ va_Z R_Pc "SIOOBE_FORMATTER" "Ljava/util/function/BiFunction;" fv A U H ∧ (fv = .null ∨ ∃ x, fv = .ref x)
theorem zZ_kept {C n d : String} {v : Value} {A : Nat → Prop} {U : State} {H H1 : Heap} (h : va_Z C n d v A U H) (hq : ∀ a : Nat, a < H.size → ¬ A a → H1[a]? = H[a]?) : va_Z C n d v A U H1 := by
  obtain ⟨cf, kf, fi, f, a, cell, h1, h2, h3, h4, h5, h6, h7, h8⟩ := h
  exact ⟨cf, kf, fi, f, a, cell, h1, h2, h3, h4, by rw [hq a (Array.getElem?_eq_some_iff.mp h5).1 h8]; exact h5, h6, h7, h8⟩
theorem zZ_narrow {C n d : String} {v : Value} {A B : Nat → Prop} {U : State} {H : Heap} (h : va_Z C n d v A U H) (hAB : ∀ q, B q → A q) : va_Z C n d v B U H := by
  obtain ⟨cf, kf, fi, f, a, cell, h1, h2, h3, h4, h5, h6, h7, h8⟩ := h
  exact ⟨cf, kf, fi, f, a, cell, h1, h2, h3, h4, h5, h6, h7, fun h => h8 (hAB _ h)⟩
theorem zS_moved {z zv : Nat → Nat} {fv : Value} {A : Nat → Prop} {u U : State} {H : Heap} (hvm : u.vm.Alike U.vm) (h : zS z zv fv A u H) : zS z zv fv A U H :=
  ⟨fun i hi => ⟨va_O.moved hvm (h.1 i hi).1, va_OF.moved hvm (h.1 i hi).2.1, va_OF.moved hvm (h.1 i hi).2.2.1, va_T.moved hvm (h.1 i hi).2.2.2⟩, va_Z.moved hvm h.2.1, va_Z.moved hvm h.2.2.1, h.2.2.2⟩
theorem zS_kept {z zv : Nat → Nat} {fv : Value} {A : Nat → Prop} {U : State} {H H1 : Heap} (h : zS z zv fv A U H) (hq : ∀ a : Nat, a < H.size → ¬ A a → H1[a]? = H[a]?) : zS z zv fv A U H1 :=
  ⟨fun i hi => ⟨(h.1 i hi).1.kept hq, (h.1 i hi).2.1.kept hq, (h.1 i hi).2.2.1.kept hq, (h.1 i hi).2.2.2.kept hq⟩, zZ_kept h.2.1 hq, zZ_kept h.2.2.1 hq, h.2.2.2⟩
theorem zS_narrow {z zv : Nat → Nat} {fv : Value} {A B : Nat → Prop} {U : State} {H : Heap} (h : zS z zv fv A U H) (hAB : ∀ q, B q → A q) : zS z zv fv B U H :=
  ⟨fun i hi => ⟨(h.1 i hi).1.narrow hAB, (h.1 i hi).2.1.narrow hAB, (h.1 i hi).2.2.1.narrow hAB, (h.1 i hi).2.2.2.narrow hAB⟩, zZ_narrow h.2.1 hAB, zZ_narrow h.2.2.1 hAB, h.2.2.2⟩
/-- one of them, as its methods want it -/
theorem zS_one {z zv : Nat → Nat} {fv : Value} {A : Nat → Prop} {U : State} (h : zS z zv fv A U U.heap) (i : Nat) (hi : i < nZ) : sO (z i) (zv i) (zn i) (zb i) fv U :=
  ⟨(h.1 i hi).1.narrow (fun _ h => h.elim), (h.1 i hi).2.1.narrow (fun _ h => h.elim), (h.1 i hi).2.2.1.narrow (fun _ h => h.elim), (h.1 i hi).2.2.2.narrow (fun _ h => h.elim), zZ_narrow h.2.1 (fun _ h => h.elim), zZ_narrow h.2.2.1 (fun _ h => h.elim)⟩
def zR (z : Nat → Nat) (U : State) : Prop := ∀ i, i < nZ → vk_R R_M (zX.getD i 0) (zT.getD i "") (z i) U
end
section
abbrev mD : Type := va_G × (Nat → Nat) × (Nat → Nat) × Value
/-- what a walk of a method of the reference keeps: machine, code, words, owner, tables -/
def mX (p : Program) (c : Code) (cc : ByteArray) (args : Array Value) (s : State) (m : MethodId) (D : mD) (E : ClassId × ClassId × ClassId × ClassId) : Prop := p.tables.exec = Jvm.exec ∧ c.code = cc ∧ (∀ w ∈ lw_tg, w.before args s = true) ∧ s.vm.findClass R_M = some m.cls ∧ va_K D.1 mCl (mTy E) s ∧ zR D.2.1 s
/-- its world at a heap -/
def mH (D : mD) (E : ClassId × ClassId × ClassId × ClassId) (A : Nat → Prop) (H0 : Heap) (h : Nat) (q : Nat → Nat) (I : Nat → Int32) (J : Nat → Int64) (B : Nat → Nat → Int32) (G : Nat → Nat → Int64) (H : Heap) (locs : List Loc) : Prop := va_P D.1 mCl (mW E h q I J B G) H ∧ va_D A (mW E h q I J B G) ∧ va_S A H0 H locs
section MROWS
variable {p : Program} {l : Launch} {e : Env} {R : Room} {s : State} {m : MethodId} {args : Array Value} {below : List Frame} {meth : Method} {c : Code} {H : Heap} {locs : List Loc} {cells slots : Nat} {Q : State → Prop} {cc : ByteArray} {pc : Nat} {ls : Array Slot} {rest : List Value} {D : mD} {E : ClassId × ClassId × ClassId × ClassId} {A : Nat → Prop} {H0 : Heap} {h : Nat} {q : Nat → Nat} {I : Nat → Int32} {J : Nat → Int64} {B : Nat → Nat → Int32} {G : Nat → Nat → Int64}
/-- getfield -/
theorem m_get (X : mX p c cc args s m D E) (Y : mH D E A H0 h q I J B G H locs) (k : Nat) {ix : Nat} {v : Value} (hk : k < 145) (hl : Cond.fieldLink R_M ix R_M (F_M k).2.1 (F_M k).2.2.1 ∈ lw_tg) (hv : (mFs q I J)[k]? = some v) (hs : (F_M k).1 = R_M) (hdg : decode cc pc = .ok (.getfield ix, 3)) (kk : W p l e R s m args below meth c H locs cells slots Q (F0 m (pc + 3) ls (v :: rest))) : W p l e R s m args below meth c H locs cells slots Q (F0 m pc ls (.ref h :: rest)) :=
  va_get (D := D.1) (ci := 0) (C := R_M) (T := F_M) (N := 145) X.1 X.2.1 X.2.2.1 i_M X.2.2.2.1 X.2.2.2.2.1 Y.1 0 rfl rfl k hk (X.2.2.1 _ hl) (fun _ h9 => by rw [hs] at h9; exact h9) hv hdg kk
/-- putfield of an int (or boolean) -/
theorem m_puti (X : mX p c cc args s m D E) (Y : mH D E A H0 h q I J B G H locs) (k : Nat) {ix : Nat} {x : Int32} {I2 : Nat → Int32} (hk : k < 145) (hl : Cond.fieldLink R_M ix R_M (F_M k).2.1 (F_M k).2.2.1 ∈ lw_tg) (hs : (F_M k).1 = R_M) (hf : (F_M k).2.2.2 = false) {ty : FieldType} (hd : parseFieldDescriptor (F_M k).2.2.1 = some ty) (hn : narrow ty (.int x) = .int x) (hfit : fits ty (.int x) = true) (hset : (mFs q I J).set k (.int x) = mFs q I2 J) (hlen : k < (mFs q I J).length) (hdg : decode cc pc = .ok (.putfield ix, 3))
    (kk : ∀ (H1 : Heap) (locs1 : List Loc), mH D E A H0 h q I2 J B G H1 locs1 → W p l e R s m args below meth c H1 locs1 cells slots Q (F0 m (pc + 3) ls rest)) : W p l e R s m args below meth c H locs cells slots Q (F0 m pc ls (.int x :: .ref h :: rest)) := by
  refine va_put (D := D.1) (ci := 0) (C := R_M) (T := F_M) (N := 145) X.1 X.2.1 X.2.2.1 i_M t_M t_M_ok n_M X.2.2.2.1 X.2.2.2.2.1 Y.1 Y.2.1 Y.2.2 0 rfl rfl k hk (X.2.2.1 _ hl) (fun _ h9 => by rw [hs] at h9; exact h9) hf hd hn hfit hlen hdg (fun H1 locs1 hP hD hS => ?_)
  rw [hset] at hP hD
  exact kk H1 locs1 ⟨hP, hD, hS⟩
/-- putfield of a long -/
theorem m_putl (X : mX p c cc args s m D E) (Y : mH D E A H0 h q I J B G H locs) (k : Nat) {ix : Nat} {x : Int64} {J2 : Nat → Int64} (hk : k < 145) (hl : Cond.fieldLink R_M ix R_M (F_M k).2.1 (F_M k).2.2.1 ∈ lw_tg) (hs : (F_M k).1 = R_M) (hf : (F_M k).2.2.2 = false) {ty : FieldType} (hd : parseFieldDescriptor (F_M k).2.2.1 = some ty) (hn : narrow ty (.long x) = .long x) (hfit : fits ty (.long x) = true) (hset : (mFs q I J).set k (.long x) = mFs q I J2) (hlen : k < (mFs q I J).length) (hdg : decode cc pc = .ok (.putfield ix, 3))
    (kk : ∀ (H1 : Heap) (locs1 : List Loc), mH D E A H0 h q I J2 B G H1 locs1 → W p l e R s m args below meth c H1 locs1 cells slots Q (F0 m (pc + 3) ls rest)) : W p l e R s m args below meth c H locs cells slots Q (F0 m pc ls (.long x :: .ref h :: rest)) := by
  refine va_put (D := D.1) (ci := 0) (C := R_M) (T := F_M) (N := 145) X.1 X.2.1 X.2.2.1 i_M t_M t_M_ok n_M X.2.2.2.1 X.2.2.2.2.1 Y.1 Y.2.1 Y.2.2 0 rfl rfl k hk (X.2.2.1 _ hl) (fun _ h9 => by rw [hs] at h9; exact h9) hf hd hn hfit hlen hdg (fun H1 locs1 hP hD hS => ?_)
  rw [hset] at hP hD
  exact kk H1 locs1 ⟨hP, hD, hS⟩
/-- arrays: reads -/
theorem m_iald (X : mX p c cc args s m D E) (Y : mH D E A H0 h q I J B G H locs) {k n : Nat} {f : Nat → Int32} {a : Nat} {i : Int32} (ha : (mW E h q I J B G)[k]? = some (a, .inl (E.2.1, n, .inl f))) (hin : vp_in i n) (hdg : decode cc pc = .ok (.iaload, 1)) (kk : W p l e R s m args below meth c H locs cells slots Q (F0 m (pc + 1) ls (.int (f i.toNatClampNeg) :: rest))) : W p l e R s m args below meth c H locs cells slots Q (F0 m pc ls (.int i :: .ref a :: rest)) := va_iald X.1 X.2.1 X.2.2.2.2.1 Y.1 k 1 ha rfl hin hdg kk
theorem m_bald (X : mX p c cc args s m D E) (Y : mH D E A H0 h q I J B G H locs) {k n : Nat} {f : Nat → Int32} {a : Nat} {i : Int32} (ha : (mW E h q I J B G)[k]? = some (a, .inl (E.1, n, .inl f))) (hin : vp_in i n) (hdg : decode cc pc = .ok (.baload, 1)) (kk : W p l e R s m args below meth c H locs cells slots Q (F0 m (pc + 1) ls (.int (f i.toNatClampNeg) :: rest))) : W p l e R s m args below meth c H locs cells slots Q (F0 m pc ls (.int i :: .ref a :: rest)) := va_bald X.1 X.2.1 X.2.2.2.2.1 Y.1 k 0 ha rfl hin hdg kk
theorem m_zald (X : mX p c cc args s m D E) (Y : mH D E A H0 h q I J B G H locs) {k n : Nat} {f : Nat → Int32} {a : Nat} {i : Int32} (ha : (mW E h q I J B G)[k]? = some (a, .inl (E.2.2.2, n, .inl f))) (hin : vp_in i n) (hdg : decode cc pc = .ok (.baload, 1)) (kk : W p l e R s m args below meth c H locs cells slots Q (F0 m (pc + 1) ls (.int (f i.toNatClampNeg) :: rest))) : W p l e R s m args below meth c H locs cells slots Q (F0 m pc ls (.int i :: .ref a :: rest)) := va_zald X.1 X.2.1 X.2.2.2.2.1 Y.1 k 3 ha rfl hin hdg kk
theorem m_lald (X : mX p c cc args s m D E) (Y : mH D E A H0 h q I J B G H locs) {k n : Nat} {f : Nat → Int64} {a : Nat} {i : Int32} (ha : (mW E h q I J B G)[k]? = some (a, .inl (E.2.2.1, n, .inr (.inl f)))) (hin : vp_in i n) (hdg : decode cc pc = .ok (.laload, 1)) (kk : W p l e R s m args below meth c H locs cells slots Q (F0 m (pc + 1) ls (.long (f i.toNatClampNeg) :: rest))) : W p l e R s m args below meth c H locs cells slots Q (F0 m pc ls (.int i :: .ref a :: rest)) := va_lald X.1 X.2.1 X.2.2.2.2.1 Y.1 k 2 ha rfl hin hdg kk
/-- arrays: writes -/
theorem m_iast (X : mX p c cc args s m D E) (Y : mH D E A H0 h q I J B G H locs) {k n : Nat} {f : Nat → Int32} {a : Nat} {i x : Int32} {B2 : Nat → Nat → Int32} (ha : (mW E h q I J B G)[k]? = some (a, .inl (E.2.1, n, .inl f))) (hin : vp_in i n) (hset : (mW E h q I J B G).set k (a, .inl (E.2.1, n, .inl (upd f i.toNatClampNeg x))) = mW E h q I J B2 G) (hdg : decode cc pc = .ok (.iastore, 1)) (kk : ∀ (H1 : Heap) (locs1 : List Loc), mH D E A H0 h q I J B2 G H1 locs1 → W p l e R s m args below meth c H1 locs1 cells slots Q (F0 m (pc + 1) ls rest)) : W p l e R s m args below meth c H locs cells slots Q (F0 m pc ls (.int x :: .int i :: .ref a :: rest)) := by
  refine va_iast X.1 X.2.1 X.2.2.2.2.1 Y.1 Y.2.1 Y.2.2 k 1 ha rfl hin hdg (fun H1 locs1 hP hD hS => ?_)
  rw [hset] at hP hD
  exact kk H1 locs1 ⟨hP, hD, hS⟩
theorem m_bast (X : mX p c cc args s m D E) (Y : mH D E A H0 h q I J B G H locs) {k n : Nat} {f : Nat → Int32} {a : Nat} {i x : Int32} {B2 : Nat → Nat → Int32} (ha : (mW E h q I J B G)[k]? = some (a, .inl (E.1, n, .inl f))) (hin : vp_in i n) (hset : (mW E h q I J B G).set k (a, .inl (E.1, n, .inl (upd f i.toNatClampNeg (vp_nar .byte x)))) = mW E h q I J B2 G) (hdg : decode cc pc = .ok (.bastore, 1)) (kk : ∀ (H1 : Heap) (locs1 : List Loc), mH D E A H0 h q I J B2 G H1 locs1 → W p l e R s m args below meth c H1 locs1 cells slots Q (F0 m (pc + 1) ls rest)) : W p l e R s m args below meth c H locs cells slots Q (F0 m pc ls (.int x :: .int i :: .ref a :: rest)) := by
  refine va_bast X.1 X.2.1 X.2.2.2.2.1 Y.1 Y.2.1 Y.2.2 k 0 ha rfl hin hdg (fun H1 locs1 hP hD hS => ?_)
  rw [hset] at hP hD
  exact kk H1 locs1 ⟨hP, hD, hS⟩
theorem m_zast (X : mX p c cc args s m D E) (Y : mH D E A H0 h q I J B G H locs) {k n : Nat} {f : Nat → Int32} {a : Nat} {i x : Int32} {B2 : Nat → Nat → Int32} (ha : (mW E h q I J B G)[k]? = some (a, .inl (E.2.2.2, n, .inl f))) (hin : vp_in i n) (hset : (mW E h q I J B G).set k (a, .inl (E.2.2.2, n, .inl (upd f i.toNatClampNeg (vp_nar .boolean x)))) = mW E h q I J B2 G) (hdg : decode cc pc = .ok (.bastore, 1)) (kk : ∀ (H1 : Heap) (locs1 : List Loc), mH D E A H0 h q I J B2 G H1 locs1 → W p l e R s m args below meth c H1 locs1 cells slots Q (F0 m (pc + 1) ls rest)) : W p l e R s m args below meth c H locs cells slots Q (F0 m pc ls (.int x :: .int i :: .ref a :: rest)) := by
  refine va_zast X.1 X.2.1 X.2.2.2.2.1 Y.1 Y.2.1 Y.2.2 k 3 ha rfl hin hdg (fun H1 locs1 hP hD hS => ?_)
  rw [hset] at hP hD
  exact kk H1 locs1 ⟨hP, hD, hS⟩
theorem m_last (X : mX p c cc args s m D E) (Y : mH D E A H0 h q I J B G H locs) {k n : Nat} {f : Nat → Int64} {a : Nat} {i : Int32} {x : Int64} {G2 : Nat → Nat → Int64} (ha : (mW E h q I J B G)[k]? = some (a, .inl (E.2.2.1, n, .inr (.inl f)))) (hin : vp_in i n) (hset : (mW E h q I J B G).set k (a, .inl (E.2.2.1, n, .inr (.inl (vp_updL f i.toNatClampNeg x)))) = mW E h q I J B G2) (hdg : decode cc pc = .ok (.lastore, 1)) (kk : ∀ (H1 : Heap) (locs1 : List Loc), mH D E A H0 h q I J B G2 H1 locs1 → W p l e R s m args below meth c H1 locs1 cells slots Q (F0 m (pc + 1) ls rest)) : W p l e R s m args below meth c H locs cells slots Q (F0 m pc ls (.long x :: .int i :: .ref a :: rest)) := by
  refine va_last X.1 X.2.1 X.2.2.2.2.1 Y.1 Y.2.1 Y.2.2 k 2 ha rfl hin hdg (fun H1 locs1 hP hD hS => ?_)
  rw [hset] at hP hD
  exact kk H1 locs1 ⟨hP, hD, hS⟩
end MROWS
/-! Contracts of the reference's methods: one shape for all. -/
abbrev mE : Type := ClassId × ClassId × ClassId × ClassId
abbrev mS : Type := (Nat → Int32) × (Nat → Int64) × (Nat → Nat → Int32) × (Nat → Nat → Int64)
def mA (E : mE) (h : Nat) (q : Nat → Nat) (sz : Nat) : Nat → Prop := fun a => (∃ (k : Nat) (x : va_E), (mW E h q (fun _ => 0) (fun _ => 0) (fun _ _ => 0) (fun _ _ => 0))[k]? = some (a, x)) ∨ sz ≤ a
def mPre (D : mD) (E : mE) (h : Nat) (q : Nat → Nat) (u : mS) (sz : Nat) : State → Prop := fun U => U.heap.size = sz ∧ va_P D.1 mCl (mW E h q u.1 u.2.1 u.2.2.1 u.2.2.2) U.heap ∧ va_K D.1 mCl (mTy E) U ∧ va_D (fun _ => True) (mW E h q u.1 u.2.1 u.2.2.1 u.2.2.2) ∧ zS D.2.1 D.2.2.1 D.2.2.2 (mA E h q sz) U U.heap ∧ zR D.2.1 U
def mPost (D : mD) (E : mE) (h : Nat) (q : Nat → Nat) (A : Nat → Prop) : mS → State → Prop := fun u t => va_P D.1 mCl (mW E h q u.1 u.2.1 u.2.2.1 u.2.2.2) t.heap ∧ va_K D.1 mCl (mTy E) t ∧ va_D A (mW E h q u.1 u.2.1 u.2.2.1 u.2.2.2)
/-- the addresses of the world don't hang on what it holds -/
theorem mW_fst (E : mE) (h : Nat) (q : Nat → Nat) (I I2 : Nat → Int32) (J J2 : Nat → Int64) (B B2 : Nat → Nat → Int32) (G G2 : Nat → Nat → Int64) : (mW E h q I J B G).map (fun x => x.1) = (mW E h q I2 J2 B2 G2).map (fun x => x.1) := rfl
theorem mW_at {E : mE} {h : Nat} {q : Nat → Nat} {I : Nat → Int32} {J : Nat → Int64} {B : Nat → Nat → Int32} {G : Nat → Nat → Int64} {k : Nat} {x : Nat × va_E} (I2 : Nat → Int32) (J2 : Nat → Int64) (B2 : Nat → Nat → Int32) (G2 : Nat → Nat → Int64) (hk : (mW E h q I J B G)[k]? = some x) : ∃ y : va_E, (mW E h q I2 J2 B2 G2)[k]? = some (x.1, y) := by
  have h1 : ((mW E h q I J B G).map (fun x => x.1))[k]? = some x.1 := by rw [List.getElem?_map, hk]; rfl
  rw [mW_fst E h q I I2 J J2 B B2 G G2, List.getElem?_map] at h1
  cases h2 : (mW E h q I2 J2 B2 G2)[k]? with
  | none => rw [h2] at h1; cases h1
  | some z => rw [h2] at h1; exact ⟨z.2, by have := Option.some.inj h1; rw [← this]⟩
theorem mA_in {E : mE} {h : Nat} {q : Nat → Nat} {I : Nat → Int32} {J : Nat → Int64} {B : Nat → Nat → Int32} {G : Nat → Nat → Int64} {k sz : Nat} {x : Nat × va_E} (hk : (mW E h q I J B G)[k]? = some x) : mA E h q sz x.1 := by
  obtain ⟨y, hy⟩ := mW_at (fun _ => 0) (fun _ => 0) (fun _ _ => 0) (fun _ _ => 0) hk
  exact Or.inl ⟨k, y, hy⟩
theorem mA_sub {E : mE} {h : Nat} {q : Nat → Nat} {I : Nat → Int32} {J : Nat → Int64} {B : Nat → Nat → Int32} {G : Nat → Nat → Int64} {sz : Nat} {A : Nat → Prop} (hD : va_D A (mW E h q I J B G)) (hA : ∀ a, sz ≤ a → A a) : ∀ a, mA E h q sz a → A a := by
  intro a ha
  rcases ha with ⟨k, x, hk⟩ | ha
  · obtain ⟨y, hy⟩ := mW_at I J B G hk
    exact hD.2 k _ hy
  · exact hA a ha
section MCALLS
variable {p : Program} {l : Launch} {e : Env} {R : Room} {s : State} {m : MethodId} {args : Array Value} {below : List Frame} {meth : Method} {c : Code} {H : Heap} {locs : List Loc} {Q : State → Prop} {cc : ByteArray} {pc : Nat} {ls : Array Slot} {rest : List Value} {D : mD} {E : mE} {A : Nat → Prop} {H0 : Heap} {h : Nat} {q : Nat → Nat} {I : Nat → Int32} {J : Nat → Int64} {B : Nat → Nat → Int32} {G : Nat → Nat → Int64}
/-- the entry of a method -/
theorem m_enter {y : MethodName} {maxL : Nat} {ret : Option FieldType} {rm : Room} {as : List Value} {Qc : Array Value → State → Outcome → State → Prop} {u : mS} {sz : Nat} {free : Addr → Prop} (hy : plainName y.cls = true) (hyc : y.cls = R_M) (hlen : (lg_sl (.ref h :: as)).length ≤ maxL)
    (body : ∀ (p : Program) (e : Env) (s : State) (m : MethodId) (below : List Frame) (meth : Method) (c : Code) (ls : Array Slot) (AV : Array Value) (QQ : State → Prop) (H : Heap) (locs : List Loc), QQ = MQ below Qc AV s 0 0 free → mX p c cc AV s m D E → mH D E (mA E h q sz) s.heap h q u.1 u.2.1 u.2.2.1 u.2.2.2 H locs → zS D.2.1 D.2.2.1 D.2.2.2 (mA E h q sz) s s.heap → (∀ a, s.heap.size ≤ a → mA E h q sz a) → meth.sig.returnType = ret → meth.locks = false → c.maxLocals = maxL → lv_has ls maxL (lv_args 0 (.ref h :: as)) →
      W p l e rm s m AV below meth c H locs 0 0 QQ (F0 m 0 ls [])) :
    Met l y (Cond.code y cc maxL ret :: lw_tg) rm (va_Pc (.ref h :: as) (mPre D E h q u sz)) Qc 0 0 free := by
  refine Met.ofW (cc := cc) (maxL := maxL) (ret := ret) hy rfl ?_
  intro p e s m args below meth c s₁ X hml hv
  obtain ⟨rfl, hsz, hP, hK, hD0, hZ, hR⟩ := hv
  have hts := atoms_spec (ws := Cond.code y cc maxL ret :: lw_tg) X.pre
  have hown : s.vm.findClass R_M = some m.cls := by rw [← hyc]; exact findClass_of_methodNamed X.named
  have hl := lv_entry (.ref h :: as) (n := maxL) hlen
  rw [lg_entry_eq]
  exact body p e s m below meth c _ _ _ _ _ rfl ⟨X.exec, X.bytes, fun w hw => hts w (List.mem_cons_of_mem _ hw), hown, hK, hR⟩ ⟨hP, ⟨hD0.1, fun k x hk => mA_in hk⟩, va_S.rf⟩ hZ (fun a ha => Or.inr (by rw [← hsz]; exact ha)) X.returns X.notSynchronized hml hl
theorem m_back (X : mX p c cc args s m D E) (Y : mH D E A H0 h q I J B G H locs) {u : mS} {t : State} {H1 : Heap} (ht : t.heap = H1) (hvm : s.vm.Alike t.vm) (hB : mPost D E h q (mA E h q H.size) u t) (hA : ∀ a, H0.size ≤ a → A a) {locs1 : List Loc} (hS : va_S A H0 H1 locs1) : mH D E A H0 h q u.1 u.2.1 u.2.2.1 u.2.2.2 H1 locs1 := by
  obtain ⟨h1, -, h3⟩ := hB
  rw [ht] at h1
  exact ⟨h1, h3.weaken (fun k x hk hx => mA_sub Y.2.1 (fun a ha => hA a (Nat.le_trans Y.2.2.1 ha)) x.1 hx), hS⟩
theorem m_blind {as : List Value} {u : mS} {sz : Nat} : FrameBlind (va_Pc as (mPre D E h q u sz)) := fun a U g mk x => by
  obtain ⟨x0, x1, xP, xK, xD, xZ, xR⟩ := x
  exact ⟨x0, x1, xP, va_K.moved (u := U) (U := U.calling g mk a) (Vm.Alike.refl U.vm) xK, xD, zS_moved (u := U) (Vm.Alike.refl U.vm) xZ, fun i hi => vk_R.same (u := U) rfl (xR i hi)⟩
variable {cells slots : Nat}
theorem m_run {y : MethodName} {bytes : ByteArray} {maxL nL n ix f L : Nat} {ret : Option FieldType} {As : List Value} {Qc : Array Value → State → Outcome → State → Prop} (X : mX p c cc args s m D E) (Y : mH D E A H0 h q I J B G H locs) (hZ : zS D.2.1 D.2.2.1 D.2.2.2 A s H0) (hA : ∀ a, H0.size ≤ a → A a) (hml : c.maxLocals = nL) (hsz : ls.size = nL) (hM : Met l y (Cond.code y bytes maxL ret :: lw_tg) (mR f L) (va_Pc (.ref h :: As) (mPre D E h q (I, J, B, G) H.size)) Qc 0 0 (mA E h q H.size))
    (a1 : Cond.methodLink R_M ix y ∈ lw_tg) (a2 : Cond.instanceMethod y ∈ lw_tg) (a3 : Cond.selects R_M y y ∈ lw_tg) (a4 : Cond.code y bytes maxL ret ∈ lw_tg) (a5 : Cond.initialized R_M ∈ lw_tg) (hd : y.cls = R_M ∧ y.cls ≠ "java/lang/invoke/MethodHandle" ∧ y.cls ≠ "java/lang/invoke/VarHandle" ∧ (parseMethodDescriptor y.desc).map (fun d => d.parameters.length) = some n) (hR : f + 1 ≤ R.frames ∧ 8 + (maxL + 11) + L ≤ R.locals) (hn : As.length = n) (hw : (rest.map fun v => v.category).sum ≤ 8) (hdg : decode cc pc = .ok (.invokevirtual ix, 3)) (hf : cells ≤ R.cells ∧ slots ≤ R.slots) :
    va_Run p l e R s m args below meth c H locs cells slots 0 0 (F0 m pc ls (As.reverse ++ .ref h :: rest)) rest (Qc (Value.ref h :: As).toArray) (mA E h q H.size) :=
  va_runV (As := As) (rest := rest) ⟨X.1, X.2.1, hml, X.2.2.2.1, X.2.2.1⟩ hM (cwV n X.2.2.1 (gd_V a1 a2 a3 a5 a4) rfl rfl rfl hd hR) ⟨m_blind, va_recv X.2.2.2.2.1 Y.1 (ci := 0) (q0 := 0) rfl rfl, fun U hU hW => ⟨rfl, by rw [hU], by rw [hU]; exact Y.1, va_K.moved hW.alike X.2.2.2.2.1, Y.2.1.weaken (fun _ _ _ _ => trivial), by rw [hU]; exact zS_narrow (zS_kept (zS_moved hW.alike hZ) Y.2.2.2.1) (mA_sub Y.2.1 (fun a ha => hA a (Nat.le_trans Y.2.2.1 ha))), fun i hi => vk_R.warm hW (X.2.2.2.2.2 i hi)⟩⟩ rfl hn hsz rfl (lv_room hw) hdg hf
theorem m_callv {y : MethodName} {bytes : ByteArray} {maxL nL n ix f L : Nat} {ret : Option FieldType} {As : List Value} {post : mS → Prop} (X : mX p c cc args s m D E) (Y : mH D E A H0 h q I J B G H locs) (hZ : zS D.2.1 D.2.2.1 D.2.2.2 A s H0) (hA : ∀ a, H0.size ≤ a → A a) (hml : c.maxLocals = nL) (hsz : ls.size = nL) (hM : Met l y (Cond.code y bytes maxL ret :: lw_tg) (mR f L) (va_Pc (.ref h :: As) (mPre D E h q (I, J, B, G) H.size)) (va_Qv post (mPost D E h q (mA E h q H.size)) (mA E h q H.size)) 0 0 (mA E h q H.size))
    (a1 : Cond.methodLink R_M ix y ∈ lw_tg) (a2 : Cond.instanceMethod y ∈ lw_tg) (a3 : Cond.selects R_M y y ∈ lw_tg) (a4 : Cond.code y bytes maxL ret ∈ lw_tg) (a5 : Cond.initialized R_M ∈ lw_tg) (hd : y.cls = R_M ∧ y.cls ≠ "java/lang/invoke/MethodHandle" ∧ y.cls ≠ "java/lang/invoke/VarHandle" ∧ (parseMethodDescriptor y.desc).map (fun d => d.parameters.length) = some n) (hR : f + 1 ≤ R.frames ∧ 8 + (maxL + 11) + L ≤ R.locals) (hn : As.length = n) (hw : (rest.map fun v => v.category).sum ≤ 8) (hdg : decode cc pc = .ok (.invokevirtual ix, 3)) (hf : cells ≤ R.cells ∧ slots ≤ R.slots)
    (kk : ∀ (u : mS) (H1 : Heap) (locs1 : List Loc), post u → mH D E A H0 h q u.1 u.2.1 u.2.2.1 u.2.2.2 H1 locs1 → W p l e R s m args below meth c H1 locs1 cells slots Q (F0 m (pc + 3) ls rest)) : W p l e R s m args below meth c H locs cells slots Q (F0 m pc ls (As.reverse ++ .ref h :: rest)) :=
  va_callv (m_run X Y hZ hA hml hsz hM a1 a2 a3 a4 a5 hd hR hn hw hdg hf) Y.2.2 (fun a _ ha => mA_sub Y.2.1 (fun a ha => hA a (Nat.le_trans Y.2.2.1 ha)) a ha) (mA_sub Y.2.1 (fun a ha => hA a (Nat.le_trans Y.2.2.1 ha))) (fun u t H1 locs1 ht hvm hp hB _ _ hS => kk u H1 locs1 hp (m_back X Y ht hvm hB hA hS))
theorem m_calli {y : MethodName} {bytes : ByteArray} {maxL nL n ix f L : Nat} {ret : Option FieldType} {As : List Value} {post : Int32 → mS → Prop} (X : mX p c cc args s m D E) (Y : mH D E A H0 h q I J B G H locs) (hZ : zS D.2.1 D.2.2.1 D.2.2.2 A s H0) (hA : ∀ a, H0.size ≤ a → A a) (hml : c.maxLocals = nL) (hsz : ls.size = nL) (hM : Met l y (Cond.code y bytes maxL ret :: lw_tg) (mR f L) (va_Pc (.ref h :: As) (mPre D E h q (I, J, B, G) H.size)) (va_Qi post (mPost D E h q (mA E h q H.size)) (mA E h q H.size)) 0 0 (mA E h q H.size))
    (a1 : Cond.methodLink R_M ix y ∈ lw_tg) (a2 : Cond.instanceMethod y ∈ lw_tg) (a3 : Cond.selects R_M y y ∈ lw_tg) (a4 : Cond.code y bytes maxL ret ∈ lw_tg) (a5 : Cond.initialized R_M ∈ lw_tg) (hd : y.cls = R_M ∧ y.cls ≠ "java/lang/invoke/MethodHandle" ∧ y.cls ≠ "java/lang/invoke/VarHandle" ∧ (parseMethodDescriptor y.desc).map (fun d => d.parameters.length) = some n) (hR : f + 1 ≤ R.frames ∧ 8 + (maxL + 11) + L ≤ R.locals) (hn : As.length = n) (hw : (rest.map fun v => v.category).sum ≤ 8) (hdg : decode cc pc = .ok (.invokevirtual ix, 3)) (hf : cells ≤ R.cells ∧ slots ≤ R.slots)
    (kk : ∀ (r : Int32) (u : mS) (H1 : Heap) (locs1 : List Loc), post r u → mH D E A H0 h q u.1 u.2.1 u.2.2.1 u.2.2.2 H1 locs1 → W p l e R s m args below meth c H1 locs1 cells slots Q (F0 m (pc + 3) ls (.int r :: rest))) : W p l e R s m args below meth c H locs cells slots Q (F0 m pc ls (As.reverse ++ .ref h :: rest)) :=
  va_calli (m_run X Y hZ hA hml hsz hM a1 a2 a3 a4 a5 hd hR hn hw hdg hf) Y.2.2 (fun a _ ha => mA_sub Y.2.1 (fun a ha => hA a (Nat.le_trans Y.2.2.1 ha)) a ha) (mA_sub Y.2.1 (fun a ha => hA a (Nat.le_trans Y.2.2.1 ha))) (fun r u t H1 locs1 ht hvm hp hB _ _ hS => kk r u H1 locs1 hp (m_back X Y ht hvm hB hA hS))
/-- a static method that reads and writes no cell -/
theorem p_calli {y : MethodName} {bytes : ByteArray} {maxL nL n ix f L : Nat} {ret : Option FieldType} {As : List Value} {post : Int32 → Unit → Prop} (X : mX p c cc args s m D E) (Y : mH D E A H0 h q I J B G H locs) (hml : c.maxLocals = nL) (hsz : ls.size = nL) (hM : Met l y (Cond.code y bytes maxL ret :: lw_tg) (mR f L) (va_Pc As pPre) (va_Qi post (fun _ _ => True) (fun _ => False)) 0 0 (fun _ => False))
    (a1 : Cond.methodLink R_M ix y ∈ lw_tg) (a2 : Cond.static y ∈ lw_tg) (a4 : Cond.code y bytes maxL ret ∈ lw_tg) (a5 : Cond.initialized R_M ∈ lw_tg) (hd : y.cls = R_M ∧ y.cls ≠ "java/lang/invoke/MethodHandle" ∧ y.cls ≠ "java/lang/invoke/VarHandle" ∧ (parseMethodDescriptor y.desc).map (fun d => d.parameters.length) = some n) (hR : f + 1 ≤ R.frames ∧ 8 + (maxL + 11) + L ≤ R.locals) (hn : As.length = n) (hw : (rest.map fun v => v.category).sum ≤ 8) (hdg : decode cc pc = .ok (.invokestatic ix, 3)) (hf : cells ≤ R.cells ∧ slots ≤ R.slots)
    (kk : ∀ (r : Int32) (H1 : Heap) (locs1 : List Loc), post r () → mH D E A H0 h q I J B G H1 locs1 → W p l e R s m args below meth c H1 locs1 cells slots Q (F0 m (pc + 3) ls (.int r :: rest))) : W p l e R s m args below meth c H locs cells slots Q (F0 m pc ls (As.reverse ++ rest)) :=
  va_calli (va_runS (As := As) (rest := rest) ⟨X.1, X.2.1, hml, X.2.2.2.1, X.2.2.1⟩ hM (cwS n X.2.2.1 (gd_S a1 a2 a5 a4) rfl rfl rfl hd hR) ⟨fun _ _ _ _ x => ⟨x.1, trivial⟩, fun U hU hW => ⟨rfl, trivial⟩⟩ rfl hn hsz rfl (lv_room hw) hdg hf) Y.2.2 (fun _ _ hh => hh.elim) (fun _ hh => hh.elim) (fun r u t H1 locs1 ht hvm hp hB hz hk hS => kk r H1 locs1 hp ⟨fun k x hkx => (Y.1 k x hkx).kept (hk x.1 (Y.1 k x hkx).lt id), Y.2.1, hS⟩)
end MCALLS
/-- what a walk of a static method without a world keeps -/
def pX (p : Program) (c : Code) (cc : ByteArray) (args : Array Value) (s : State) (m : MethodId) : Prop := p.tables.exec = Jvm.exec ∧ c.code = cc ∧ (∀ w ∈ lw_tg, w.before args s = true) ∧ s.vm.findClass R_M = some m.cls
theorem p_enter {l : Launch} {cc : ByteArray} {y : MethodName} {maxL : Nat} {ret : Option FieldType} {rm : Room} {as : List Value} {Qc : Array Value → State → Outcome → State → Prop} {free : Addr → Prop} (hy : plainName y.cls = true) (hyc : y.cls = R_M) (hlen : (lg_sl as).length ≤ maxL)
    (body : ∀ (p : Program) (e : Env) (s : State) (m : MethodId) (below : List Frame) (meth : Method) (c : Code) (ls : Array Slot) (AV : Array Value) (QQ : State → Prop) (H : Heap) (locs : List Loc), QQ = MQ below Qc AV s 0 0 free → va_S (fun _ => False) s.heap H locs → pX p c cc AV s m → meth.sig.returnType = ret → meth.locks = false → c.maxLocals = maxL → lv_has ls maxL (lv_args 0 as) →
      W p l e rm s m AV below meth c H locs 0 0 QQ (F0 m 0 ls [])) :
    Met l y (Cond.code y cc maxL ret :: lw_tg) rm (va_Pc as pPre) Qc 0 0 free := by
  refine Met.ofW (cc := cc) (maxL := maxL) (ret := ret) hy rfl ?_
  intro p e s m args below meth c s₁ X hml hv
  obtain ⟨rfl, -⟩ := hv
  have hts := atoms_spec (ws := Cond.code y cc maxL ret :: lw_tg) X.pre
  have hown : s.vm.findClass R_M = some m.cls := by rw [← hyc]; exact findClass_of_methodNamed X.named
  have hl := lv_entry as (n := maxL) hlen
  rw [lg_entry_eq]
  exact body p e s m below meth c _ _ _ _ _ rfl va_S.rf ⟨X.exec, X.bytes, fun w hw => hts w (List.mem_cons_of_mem _ hw), hown⟩ X.returns X.notSynchronized hml hl
theorem ini_M : Cond.initialized R_M ∈ lw_tg := in_t 19 (by decide +kernel)
section MRETS
variable {p : Program} {l : Launch} {e : Env} {R : Room} {s : State} {m : MethodId} {below : List Frame} {meth : Method} {c : Code} {H : Heap} {locs : List Loc} {cc : ByteArray} {pc : Nat} {ls : Array Slot} {rest : List Value} {D : mD} {E : mE} {A : Nat → Prop} {h : Nat} {q : Nat → Nat} {I : Nat → Int32} {J : Nat → Int64} {B : Nat → Nat → Int32} {G : Nat → Nat → Int64} {AV : Array Value} {QQ : State → Prop}
theorem m_retv {post : mS → Prop} (hQ : QQ = MQ below (va_Qv post (mPost D E h q A) A) AV s 0 0 A) (X : mX p c cc AV s m D E) (Y : mH D E A s.heap h q I J B G H locs) (hr : meth.sig.returnType = none) (hlk : meth.locks = false) (hp : post (I, J, B, G)) (hdg : decode cc pc = .ok (.return_, 1)) : W p l e R s m AV below meth c H locs 0 0 QQ (F0 m pc ls []) := by
  rw [hQ]
  exact W.vret X.1 X.2.1 hr (fun t ht hW => ⟨⟨(I, J, B, G), rfl, hp, by rw [ht]; exact Y.1, va_K.moved hW.alike X.2.2.2.2.1, Y.2.1⟩, Y.2.2.F ht⟩) Y.2.2.2.2 hdg
theorem m_reti {post : Int32 → mS → Prop} {x : Int32} (hQ : QQ = MQ below (va_Qi post (mPost D E h q A) A) AV s 0 0 A) (X : mX p c cc AV s m D E) (Y : mH D E A s.heap h q I J B G H locs) (hr : meth.sig.returnType = some .int) (hlk : meth.locks = false) (hp : post x (I, J, B, G)) (hdg : decode cc pc = .ok (.ireturn, 1)) : W p l e R s m AV below meth c H locs 0 0 QQ (F0 m pc ls [.int x]) := by
  rw [hQ]
  exact W.iret X.1 X.2.1 hr (fun t ht hW => ⟨⟨x, (I, J, B, G), rfl, hp, by rw [ht]; exact Y.1, va_K.moved hW.alike X.2.2.2.2.1, Y.2.1⟩, Y.2.2.F ht⟩) Y.2.2.2.2 hdg
theorem m_retz {post : Int32 → mS → Prop} {x : Int32} (hQ : QQ = MQ below (va_Qi post (mPost D E h q A) A) AV s 0 0 A) (X : mX p c cc AV s m D E) (Y : mH D E A s.heap h q I J B G H locs) (hr : meth.sig.returnType = some .boolean) (hlk : meth.locks = false) (hn : narrow .boolean (.int x) = .int x) (hp : post x (I, J, B, G)) (hdg : decode cc pc = .ok (.ireturn, 1)) : W p l e R s m AV below meth c H locs 0 0 QQ (F0 m pc ls [.int x]) := by
  rw [hQ]
  exact W.zret X.1 X.2.1 hr hn (fun t ht hW => ⟨⟨x, (I, J, B, G), rfl, hp, by rw [ht]; exact Y.1, va_K.moved hW.alike X.2.2.2.2.1, Y.2.1⟩, Y.2.2.F ht⟩) Y.2.2.2.2 hdg
theorem p_reti {post : Int32 → Unit → Prop} {x : Int32} (hQ : QQ = MQ below (va_Qi post (fun _ _ => True) (fun _ => False)) AV s 0 0 (fun _ => False)) (hS : va_S (fun _ => False) s.heap H locs) (X : pX p c cc AV s m) (hr : meth.sig.returnType = some .int) (hlk : meth.locks = false) (hp : post x ()) (hdg : decode cc pc = .ok (.ireturn, 1)) : W p l e R s m AV below meth c H locs 0 0 QQ (F0 m pc ls [.int x]) := by
  rw [hQ]
  exact W.iret X.1 X.2.1 hr (fun t ht hW => ⟨⟨x, (), rfl, hp, trivial⟩, hS.F ht⟩) hS.2.2 hdg
/-- a static method without a world calls another one -/
theorem pp_calli {y : MethodName} {bytes : ByteArray} {maxL nL n ix f L : Nat} {ret : Option FieldType} {As : List Value} {post : Int32 → Unit → Prop} {Q : State → Prop} (hS : va_S (fun _ => False) s.heap H locs) (X : pX p c cc AV s m) (hml : c.maxLocals = nL) (hsz : ls.size = nL) (hM : Met l y (Cond.code y bytes maxL ret :: lw_tg) (mR f L) (va_Pc As pPre) (va_Qi post (fun _ _ => True) (fun _ => False)) 0 0 (fun _ => False))
    (a1 : Cond.methodLink R_M ix y ∈ lw_tg) (a2 : Cond.static y ∈ lw_tg) (a4 : Cond.code y bytes maxL ret ∈ lw_tg) (a5 : Cond.initialized R_M ∈ lw_tg) (hd : y.cls = R_M ∧ y.cls ≠ "java/lang/invoke/MethodHandle" ∧ y.cls ≠ "java/lang/invoke/VarHandle" ∧ (parseMethodDescriptor y.desc).map (fun d => d.parameters.length) = some n) (hR : f + 1 ≤ R.frames ∧ 8 + (maxL + 11) + L ≤ R.locals) (hn : As.length = n) (hw : (rest.map fun v => v.category).sum ≤ 8) (hdg : decode cc pc = .ok (.invokestatic ix, 3))
    (kk : ∀ (r : Int32) (H1 : Heap) (locs1 : List Loc), post r () → va_S (fun _ => False) s.heap H1 locs1 → W p l e R s m AV below meth c H1 locs1 0 0 Q (F0 m (pc + 3) ls (.int r :: rest))) : W p l e R s m AV below meth c H locs 0 0 Q (F0 m pc ls (As.reverse ++ rest)) :=
  va_calli (va_runS (As := As) (rest := rest) ⟨X.1, X.2.1, hml, X.2.2.2, X.2.2.1⟩ hM (cwS n X.2.2.1 (gd_S a1 a2 a5 a4) rfl rfl rfl hd hR) ⟨fun _ _ _ _ x => ⟨x.1, trivial⟩, fun U hU hW => ⟨rfl, trivial⟩⟩ rfl hn hsz rfl (lv_room hw) hdg ⟨Nat.zero_le _, Nat.zero_le _⟩) hS (fun _ _ hh => hh.elim) (fun _ hh => hh.elim) (fun r u t H1 locs1 ht hvm hp hB hz hk hS => kk r H1 locs1 hp hS)
end MRETS
section TOPL
variable {p : Program} {l : Launch} {e : Env} {R : Room} {s : State} {m : MethodId} {args : Array Value} {below : List Frame} {meth : Method} {c : Code} {H : Heap} {locs : List Loc} {cells slots : Nat} {Q : State → Prop} {pc : Nat} {ls : Array Slot} {rest : List Value}
theorem t_anyl {x : Int64} (kk : ∀ y : Int64, W p l e R s m args below meth c H locs cells slots Q (F0 m pc ls (.long y :: rest))) : W p l e R s m args below meth c H locs cells slots Q (F0 m pc ls (.long x :: rest)) := kk x
end TOPL
/-! Bytes: numbers below 256. -/
theorem nb_xor (a b : Nat) : nI a ^^^ nI b = nI (a ^^^ b) := by
  apply Int32.toBitVec_inj.1
  show BitVec.ofNat 32 a ^^^ BitVec.ofNat 32 b = BitVec.ofNat 32 (a ^^^ b)
  apply BitVec.eq_of_getLsbD_eq
  intro i hi
  simp [hi]
theorem nb_or (a b : Nat) : nI a ||| nI b = nI (a ||| b) := by
  apply Int32.toBitVec_inj.1
  show BitVec.ofNat 32 a ||| BitVec.ofNat 32 b = BitVec.ofNat 32 (a ||| b)
  apply BitVec.eq_of_getLsbD_eq
  intro i hi
  simp [hi]
theorem by_ixor {a b : Nat} (ha : a < 256) (hb : b < 256) : ∃ c, c < 256 ∧ nI a ^^^ nI b = nI c := ⟨_, Nat.xor_lt_two_pow (n := 8) ha hb, nb_xor a b⟩
theorem by_ior {a b : Nat} (ha : a < 256) (hb : b < 256) : ∃ c, c < 256 ∧ nI a ||| nI b = nI c := ⟨_, Nat.or_lt_two_pow (n := 8) ha hb, nb_or a b⟩
theorem by_bit : ∀ i, i < 8 → ∀ c, c < 2 → ∃ t, t < 256 ∧ nI c <<< (nI i &&& 31) = nI t := by
  intro i hi c hc
  refine ⟨c * 2 ^ i, ?_, ?_⟩
  · have h1 : 2 ^ i ≤ 2 ^ 7 := Nat.pow_le_pow_right (by decide) (by omega)
    rcases (show c = 0 ∨ c = 1 by omega) with rfl | rfl <;> omega
  · have h2 : ∀ k, k < 8 → ∀ d, d < 2 → nI d <<< (nI k &&& 31) = nI (d * 2 ^ k) := by decide +kernel
    exact h2 i hi c hc
/-- an array of bytes: each place holds a number below 256 -/
def by8 (f : Nat → Int32) : Prop := ∀ j, ∃ n, n < 256 ∧ f j = nI n
theorem by8_upd {f : Nat → Int32} {k n : Nat} (h : by8 f) (hn : n < 256) : by8 (upd f k (nI n)) := by
  intro j
  by_cases hj : j = k
  · exact ⟨n, hn, if_pos hj⟩
  · obtain ⟨x, hx, e⟩ := h j
    exact ⟨x, hx, (if_neg hj).trans e⟩
theorem by8_eq {f g : Nat → Int32} (h : g = f) (hf : by8 f) : by8 g := h ▸ hf
theorem by_us24 (x : Int32) : ∃ j, j < 256 ∧ (x.toUInt32 >>> ((nI 24).toUInt32 &&& Int32.toUInt32 31)).toInt32 = nI j := by
  refine ⟨x.toBitVec.toNat / 2 ^ 24, ?_, ?_⟩
  · have := x.toBitVec.isLt
    omega
  · apply Int32.toBitVec_inj.1
    apply BitVec.eq_of_toNat_eq
    have := x.toBitVec.isLt
    rw [pk_ushr x (nI 24) 24 (by decide), pk_tn (by omega)]
theorem n_subadd {a t c : Nat} (h : t ≤ a + c) : nI a - nI t + nI c = nI (a + c - t) := by
  rw [Int32.sub_eq_add_neg, Int32.add_assoc, Int32.add_comm (-nI t), ← Int32.add_assoc, ← Int32.sub_eq_add_neg, nI_add, pk_sub h]
end
section
/-! The reference's methods and the literals: ldc, length(), charAt(). -/
theorem ki_charAt : Cond.code y_charAt b_charAt 2 (some .char) ∈ lw_tg := in_t 502 (by decide +kernel)
theorem kx_charAt : Cond.selects R_S y_charAt y_charAt ∈ lw_tg := in_t 501 (by decide +kernel)
theorem ks_charAt : Cond.instanceMethod y_charAt ∈ lw_tg := in_t 500 (by decide +kernel)
theorem kl_charAt : Cond.methodLink R_M 344 y_charAt ∈ lw_tg := in_t 1760 (by decide +kernel)
theorem ki_length : Cond.code y_length b_length 1 (some .int) ∈ lw_tg := in_t 492 (by decide +kernel)
theorem kx_length : Cond.selects R_S y_length y_length ∈ lw_tg := in_t 491 (by decide +kernel)
theorem ks_length : Cond.instanceMethod y_length ∈ lw_tg := in_t 490 (by decide +kernel)
theorem kl_length : Cond.methodLink R_M 339 y_length ∈ lw_tg := in_t 1759 (by decide +kernel)
theorem hd_charAt : y_charAt.cls = R_S ∧ y_charAt.cls ≠ "java/lang/invoke/MethodHandle" ∧ y_charAt.cls ≠ "java/lang/invoke/VarHandle" ∧ (parseMethodDescriptor y_charAt.desc).map (fun d => d.parameters.length) = some 1 := by decide +kernel
theorem hd_length : y_length.cls = R_S ∧ y_length.cls ≠ "java/lang/invoke/MethodHandle" ∧ y_length.cls ≠ "java/lang/invoke/VarHandle" ∧ (parseMethodDescriptor y_length.desc).map (fun d => d.parameters.length) = some 0 := by decide +kernel
theorem zn_small : ∀ i, i < nZ → zn i < 2 ^ 31 := by decide +kernel
section MTEXT
variable {p : Program} {l : Launch} {e : Env} {R : Room} {s : State} {m : MethodId} {args : Array Value} {below : List Frame} {meth : Method} {c : Code} {H : Heap} {locs : List Loc} {cells slots : Nat} {Q : State → Prop} {cc : ByteArray} {pc : Nat} {ls : Array Slot} {rest : List Value} {D : mD} {E : mE} {A : Nat → Prop} {h : Nat} {q : Nat → Nat} {I : Nat → Int32} {J : Nat → Int64} {B : Nat → Nat → Int32} {G : Nat → Nat → Int64}
/-- a call of a literal's method -/
theorem m_runS {y : MethodName} {bytes : ByteArray} {maxL nL n ix f L i : Nat} {ret : Option FieldType} {As : List Value} {Qc : Array Value → State → Outcome → State → Prop} (X : mX p c cc args s m D E) (Y : mH D E A s.heap h q I J B G H locs) (hZ : zS D.2.1 D.2.2.1 D.2.2.2 A s s.heap) (hi : i < nZ) (hml : c.maxLocals = nL) (hsz : ls.size = nL) (hM : Met l y (Cond.code y bytes maxL ret :: lw_tg) (mR f L) (va_Pc (.ref (D.2.1 i) :: As) (sO (D.2.1 i) (D.2.2.1 i) (zn i) (zb i) D.2.2.2)) Qc 0 0 (fun _ => False))
    (a1 : Cond.methodLink R_M ix y ∈ lw_tg) (a2 : Cond.instanceMethod y ∈ lw_tg) (a3 : Cond.selects R_S y y ∈ lw_tg) (a4 : Cond.code y bytes maxL ret ∈ lw_tg) (hd : y.cls = R_S ∧ y.cls ≠ "java/lang/invoke/MethodHandle" ∧ y.cls ≠ "java/lang/invoke/VarHandle" ∧ (parseMethodDescriptor y.desc).map (fun d => d.parameters.length) = some n) (hR : f + 1 ≤ R.frames ∧ 8 + (maxL + 11) + L ≤ R.locals) (hn : As.length = n) (hw : (rest.map fun v => v.category).sum ≤ 8) (hdg : decode cc pc = .ok (.invokevirtual ix, 3)) (hf : cells ≤ R.cells ∧ slots ≤ R.slots) :
    va_Run p l e R s m args below meth c H locs cells slots 0 0 (F0 m pc ls (As.reverse ++ .ref (D.2.1 i) :: rest)) rest (Qc (Value.ref (D.2.1 i) :: As).toArray) (fun _ => False) := by
  refine va_runV (As := As) (rest := rest) ⟨X.1, X.2.1, hml, X.2.2.2.1, X.2.2.1⟩ hM (cwV n X.2.2.1 (gd_V a1 a2 a3 ini_S a4) rfl rfl rfl hd hR) ⟨fun a U g mk x => ⟨x.1, sO_moved (u := U) rfl (Vm.Alike.refl U.vm) x.2⟩, ?_, fun U hU hW => ⟨rfl, zS_one (A := A) (by rw [hU]; exact zS_kept (zS_moved hW.alike hZ) Y.2.2.2.1) i hi⟩⟩ rfl hn hsz rfl (lv_room hw) hdg hf
  obtain ⟨cell, h1, h2, h3, -⟩ := (hZ.1 i hi).1.kept (H1 := H) Y.2.2.2.1
  exact ⟨cell, h1, h2, h3⟩
theorem m_charAt {nL i k : Nat} (X : mX p c cc args s m D E) (Y : mH D E A s.heap h q I J B G H locs) (hZ : zS D.2.1 D.2.2.1 D.2.2.2 A s s.heap) (hi : i < nZ) (hk : k < zn i) (hml : c.maxLocals = nL) (hsz : ls.size = nL) (hR : 3 + 1 ≤ R.frames ∧ 8 + (2 + 11) + 64 ≤ R.locals) (hw : (rest.map fun v => v.category).sum ≤ 8) (hdg : decode cc pc = .ok (.invokevirtual 344, 3)) (hf : cells ≤ R.cells ∧ slots ≤ R.slots)
    (kk : ∀ (H1 : Heap) (locs1 : List Loc), mH D E A s.heap h q I J B G H1 locs1 → W p l e R s m args below meth c H1 locs1 cells slots Q (F0 m (pc + 3) ls (.int (zb i k &&& 255) :: rest))) : W p l e R s m args below meth c H locs cells slots Q (F0 m pc ls (.int (nI k) :: .ref (D.2.1 i) :: rest)) :=
  va_calli (m_runS (As := [.int (nI k)]) X Y hZ hi hml hsz (c_charAt l (D.2.1 i) (D.2.2.1 i) (zn i) k (zb i) D.2.2.2 hk (zn_small i hi) hZ.2.2.2) kl_charAt ks_charAt kx_charAt ki_charAt hd_charAt hR rfl hw hdg hf) Y.2.2 (fun _ _ hh => hh.elim) (fun _ hh => hh.elim) (fun r u t H1 locs1 ht hvm hp hB hz hk2 hS => hp ▸ kk H1 locs1 ⟨fun j x hkx => (Y.1 j x hkx).kept (hk2 x.1 (Y.1 j x hkx).lt id), Y.2.1, hS⟩)
theorem m_length {nL i : Nat} (X : mX p c cc args s m D E) (Y : mH D E A s.heap h q I J B G H locs) (hZ : zS D.2.1 D.2.2.1 D.2.2.2 A s s.heap) (hi : i < nZ) (hml : c.maxLocals = nL) (hsz : ls.size = nL) (hR : 1 + 1 ≤ R.frames ∧ 8 + (1 + 11) + 20 ≤ R.locals) (hw : (rest.map fun v => v.category).sum ≤ 8) (hdg : decode cc pc = .ok (.invokevirtual 339, 3)) (hf : cells ≤ R.cells ∧ slots ≤ R.slots)
    (kk : ∀ (H1 : Heap) (locs1 : List Loc), mH D E A s.heap h q I J B G H1 locs1 → W p l e R s m args below meth c H1 locs1 cells slots Q (F0 m (pc + 3) ls (.int (nI (zn i)) :: rest))) : W p l e R s m args below meth c H locs cells slots Q (F0 m pc ls (.ref (D.2.1 i) :: rest)) :=
  va_calli (m_runS (As := []) X Y hZ hi hml hsz (c_length l (D.2.1 i) (D.2.2.1 i) (zn i) (zb i) D.2.2.2 (zn_small i hi)) kl_length ks_length kx_length ki_length hd_length hR rfl hw hdg hf) Y.2.2 (fun _ _ hh => hh.elim) (fun _ hh => hh.elim) (fun r u t H1 locs1 ht hvm hp hB hz hk2 hS => hp ▸ kk H1 locs1 ⟨fun j x hkx => (Y.1 j x hkx).kept (hk2 x.1 (Y.1 j x hkx).lt id), Y.2.1, hS⟩)
theorem m_ldcS {i : Nat} (X : mX p c cc args s m D E) (hi : i < nZ) {ix : Nat} (hix : zX.getD i 0 = ix) (hdg : decode cc pc = .ok (.ldc ix, 2)) (k : W p l e R s m args below meth c H locs cells slots Q (F0 m (pc + 2) ls (.ref (D.2.1 i) :: rest))) : W p l e R s m args below meth c H locs cells slots Q (F0 m pc ls rest) :=
  va_ldcS X.1 X.2.1 X.2.2.2.1 (by subst hix; exact X.2.2.2.2.2 i hi) hdg k
end MTEXT
end
section
abbrev b_left : ByteArray := prog_14_method_9_code
def y_left : MethodName := ⟨R_M, "left", "(II)I"⟩
abbrev k_left : Cond := .code y_left b_left 2 (some .int)
theorem ki_left : k_left ∈ lw_tg := in_t 1820 (by decide +kernel)
theorem ks_left : Cond.static y_left ∈ lw_tg := in_t 1819 (by decide +kernel)
theorem kl_left : Cond.methodLink R_M 360 y_left ∈ lw_tg := in_t 1818 (by decide +kernel)
theorem d_left_0 : decode b_left 0 = .ok (.iload_n 0, 1) := by decide +kernel
theorem d_left_1 : decode b_left 1 = .ok (.iload_n 1, 1) := by decide +kernel
theorem d_left_2 : decode b_left 2 = .ok (.ishl, 1) := by decide +kernel
theorem d_left_3 : decode b_left 3 = .ok (.iload_n 0, 1) := by decide +kernel
theorem d_left_4 : decode b_left 4 = .ok (.bipush 32, 2) := by decide +kernel
theorem d_left_6 : decode b_left 6 = .ok (.iload_n 1, 1) := by decide +kernel
theorem d_left_7 : decode b_left 7 = .ok (.isub, 1) := by decide +kernel
theorem d_left_8 : decode b_left 8 = .ok (.iushr, 1) := by decide +kernel
theorem d_left_9 : decode b_left 9 = .ok (.ior, 1) := by decide +kernel
theorem d_left_10 : decode b_left 10 = .ok (.ireturn, 1) := by decide +kernel
abbrev b_twice : ByteArray := prog_14_method_15_code
def y_twice : MethodName := ⟨R_M, "twice", "(I)I"⟩
abbrev k_twice : Cond := .code y_twice b_twice 1 (some .int)
theorem ki_twice : k_twice ∈ lw_tg := in_t 1859 (by decide +kernel)
theorem ks_twice : Cond.static y_twice ∈ lw_tg := in_t 1858 (by decide +kernel)
theorem kl_twice : Cond.methodLink R_M 381 y_twice ∈ lw_tg := in_t 1857 (by decide +kernel)
theorem d_twice_0 : decode b_twice 0 = .ok (.iload_n 0, 1) := by decide +kernel
theorem d_twice_1 : decode b_twice 1 = .ok (.iconst 1, 1) := by decide +kernel
theorem d_twice_2 : decode b_twice 2 = .ok (.ishl, 1) := by decide +kernel
theorem d_twice_3 : decode b_twice 3 = .ok (.iload_n 0, 1) := by decide +kernel
theorem d_twice_4 : decode b_twice 4 = .ok (.bipush 127, 2) := by decide +kernel
theorem d_twice_6 : decode b_twice 6 = .ok (.if_icmp .le 8, 3) := by decide +kernel
theorem d_twice_9 : decode b_twice 9 = .ok (.bipush 27, 2) := by decide +kernel
theorem d_twice_11 : decode b_twice 11 = .ok (.goto 4, 3) := by decide +kernel
theorem d_twice_14 : decode b_twice 14 = .ok (.iconst 0, 1) := by decide +kernel
theorem d_twice_15 : decode b_twice 15 = .ok (.ixor, 1) := by decide +kernel
theorem d_twice_16 : decode b_twice 16 = .ok (.sipush 255, 3) := by decide +kernel
theorem d_twice_19 : decode b_twice 19 = .ok (.iand, 1) := by decide +kernel
theorem d_twice_20 : decode b_twice 20 = .ok (.ireturn, 1) := by decide +kernel
abbrev b_product : ByteArray := prog_14_method_16_code
def y_product : MethodName := ⟨R_M, "product", "(II)I"⟩
abbrev k_product : Cond := .code y_product b_product 5 (some .int)
theorem ki_product : k_product ∈ lw_tg := in_t 1856 (by decide +kernel)
theorem ks_product : Cond.static y_product ∈ lw_tg := in_t 1855 (by decide +kernel)
theorem kl_product : Cond.methodLink R_M 389 y_product ∈ lw_tg := in_t 1854 (by decide +kernel)
theorem d_product_0 : decode b_product 0 = .ok (.iconst 0, 1) := by decide +kernel
theorem d_product_1 : decode b_product 1 = .ok (.istore_n 2, 1) := by decide +kernel
theorem d_product_2 : decode b_product 2 = .ok (.iload_n 0, 1) := by decide +kernel
theorem d_product_3 : decode b_product 3 = .ok (.istore_n 3, 1) := by decide +kernel
theorem d_product_4 : decode b_product 4 = .ok (.iload_n 1, 1) := by decide +kernel
theorem d_product_5 : decode b_product 5 = .ok (.istore 4, 2) := by decide +kernel
theorem d_product_7 : decode b_product 7 = .ok (.iload 4, 2) := by decide +kernel
theorem d_product_9 : decode b_product 9 = .ok (.ifCond .le 29, 3) := by decide +kernel
theorem d_product_12 : decode b_product 12 = .ok (.iload 4, 2) := by decide +kernel
theorem d_product_14 : decode b_product 14 = .ok (.iconst 1, 1) := by decide +kernel
theorem d_product_15 : decode b_product 15 = .ok (.iand, 1) := by decide +kernel
theorem d_product_16 : decode b_product 16 = .ok (.iconst 1, 1) := by decide +kernel
theorem d_product_17 : decode b_product 17 = .ok (.if_icmp .ne 7, 3) := by decide +kernel
theorem d_product_20 : decode b_product 20 = .ok (.iload_n 2, 1) := by decide +kernel
theorem d_product_21 : decode b_product 21 = .ok (.iload_n 3, 1) := by decide +kernel
theorem d_product_22 : decode b_product 22 = .ok (.ixor, 1) := by decide +kernel
theorem d_product_23 : decode b_product 23 = .ok (.istore_n 2, 1) := by decide +kernel
theorem d_product_24 : decode b_product 24 = .ok (.iload_n 3, 1) := by decide +kernel
theorem d_product_25 : decode b_product 25 = .ok (.invokestatic 381, 3) := by decide +kernel
theorem d_product_28 : decode b_product 28 = .ok (.istore_n 3, 1) := by decide +kernel
theorem d_product_29 : decode b_product 29 = .ok (.iload 4, 2) := by decide +kernel
theorem d_product_31 : decode b_product 31 = .ok (.iconst 1, 1) := by decide +kernel
theorem d_product_32 : decode b_product 32 = .ok (.ishr, 1) := by decide +kernel
theorem d_product_33 : decode b_product 33 = .ok (.istore 4, 2) := by decide +kernel
theorem d_product_35 : decode b_product 35 = .ok (.goto (-28), 3) := by decide +kernel
theorem d_product_38 : decode b_product 38 = .ok (.iload_n 2, 1) := by decide +kernel
theorem d_product_39 : decode b_product 39 = .ok (.ireturn, 1) := by decide +kernel
abbrev b_begin : ByteArray := prog_14_method_8_code
def y_begin : MethodName := ⟨R_M, "begin", "()V"⟩
abbrev k_begin : Cond := .code y_begin b_begin 1 none
theorem ki_begin : k_begin ∈ lw_tg := in_t 1808 (by decide +kernel)
theorem ks_begin : Cond.instanceMethod y_begin ∈ lw_tg := in_t 1807 (by decide +kernel)
theorem kl_begin : Cond.methodLink R_M 374 y_begin ∈ lw_tg := in_t 1805 (by decide +kernel)
theorem d_begin_0 : decode b_begin 0 = .ok (.aload_n 0, 1) := by decide +kernel
theorem d_begin_1 : decode b_begin 1 = .ok (.getfield 22, 3) := by decide +kernel
theorem d_begin_4 : decode b_begin 4 = .ok (.iconst 0, 1) := by decide +kernel
theorem d_begin_5 : decode b_begin 5 = .ok (.ldc_w 352, 3) := by decide +kernel
theorem d_begin_8 : decode b_begin 8 = .ok (.iastore, 1) := by decide +kernel
theorem d_begin_9 : decode b_begin 9 = .ok (.aload_n 0, 1) := by decide +kernel
theorem d_begin_10 : decode b_begin 10 = .ok (.getfield 22, 3) := by decide +kernel
theorem d_begin_13 : decode b_begin 13 = .ok (.iconst 1, 1) := by decide +kernel
theorem d_begin_14 : decode b_begin 14 = .ok (.ldc_w 353, 3) := by decide +kernel
theorem d_begin_17 : decode b_begin 17 = .ok (.iastore, 1) := by decide +kernel
theorem d_begin_18 : decode b_begin 18 = .ok (.aload_n 0, 1) := by decide +kernel
theorem d_begin_19 : decode b_begin 19 = .ok (.getfield 22, 3) := by decide +kernel
theorem d_begin_22 : decode b_begin 22 = .ok (.iconst 2, 1) := by decide +kernel
theorem d_begin_23 : decode b_begin 23 = .ok (.ldc_w 354, 3) := by decide +kernel
theorem d_begin_26 : decode b_begin 26 = .ok (.iastore, 1) := by decide +kernel
theorem d_begin_27 : decode b_begin 27 = .ok (.aload_n 0, 1) := by decide +kernel
theorem d_begin_28 : decode b_begin 28 = .ok (.getfield 22, 3) := by decide +kernel
theorem d_begin_31 : decode b_begin 31 = .ok (.iconst 3, 1) := by decide +kernel
theorem d_begin_32 : decode b_begin 32 = .ok (.ldc_w 355, 3) := by decide +kernel
theorem d_begin_35 : decode b_begin 35 = .ok (.iastore, 1) := by decide +kernel
theorem d_begin_36 : decode b_begin 36 = .ok (.aload_n 0, 1) := by decide +kernel
theorem d_begin_37 : decode b_begin 37 = .ok (.getfield 22, 3) := by decide +kernel
theorem d_begin_40 : decode b_begin 40 = .ok (.iconst 4, 1) := by decide +kernel
theorem d_begin_41 : decode b_begin 41 = .ok (.ldc_w 356, 3) := by decide +kernel
theorem d_begin_44 : decode b_begin 44 = .ok (.iastore, 1) := by decide +kernel
theorem d_begin_45 : decode b_begin 45 = .ok (.aload_n 0, 1) := by decide +kernel
theorem d_begin_46 : decode b_begin 46 = .ok (.iconst 0, 1) := by decide +kernel
theorem d_begin_47 : decode b_begin 47 = .ok (.putfield 357, 3) := by decide +kernel
theorem d_begin_50 : decode b_begin 50 = .ok (.return_, 1) := by decide +kernel
theorem cn_352 : Cond.constant R_M 352 (1732584193) ∈ lw_tg := in_t 1809 (by decide +kernel)
theorem cn_353 : Cond.constant R_M 353 (-271733879) ∈ lw_tg := in_t 1810 (by decide +kernel)
theorem cn_354 : Cond.constant R_M 354 (-1732584194) ∈ lw_tg := in_t 1811 (by decide +kernel)
theorem cn_355 : Cond.constant R_M 355 (271733878) ∈ lw_tg := in_t 1812 (by decide +kernel)
theorem cn_356 : Cond.constant R_M 356 (-1009589776) ∈ lw_tg := in_t 1813 (by decide +kernel)
set_option maxHeartbeats 4000000 in
set_option maxRecDepth 100000 in
theorem c_left (l : Launch) (a0 a1 : Int32) : Met l y_left (k_left :: lw_tg) (mR 0 0) (va_Pc [.int a0, .int a1] pPre) (va_Qi (fun (r : Int32) (_ : Unit) => True) (fun _ _ => True) (fun _ => False)) 0 0 (fun _ => False) := by
  refine p_enter (by decide) rfl (Nat.le_of_ble_eq_true rfl) (fun p e s m below meth c ls AV QQ H locs hQQ hS X hr hlk hml hl => ?_)
  have hl : lv_has ls 2 [(0, .int a0), (1, .int a1)] := hl
  refine lv_iload_n X.1 X.2.1 d_left_0 rfl (lv_at hl 0 rfl) ?_
  refine lv_iload_n X.1 X.2.1 d_left_1 rfl (lv_at hl 1 rfl) ?_
  refine lv_ishl X.1 X.2.1 d_left_2 ?_
  refine t_any (fun v1 => ?_)
  refine lv_iload_n X.1 X.2.1 d_left_3 rfl (lv_at hl 0 rfl) ?_
  refine lv_bipush (v := (nI 32)) X.1 X.2.1 d_left_4 (by decide) ?_
  refine lv_iload_n X.1 X.2.1 d_left_6 rfl (lv_at hl 1 rfl) ?_
  refine lv_isub X.1 X.2.1 d_left_7 ?_
  refine t_any (fun v2 => ?_)
  obtain ⟨v3, ev3⟩ : ∃ z : Int32, ((a0 : Int32).toUInt32 >>> ((v2 : Int32).toUInt32 &&& Int32.toUInt32 31)).toInt32 = z := ⟨_, rfl⟩
  refine lv_iushr (v := v3) X.1 X.2.1 d_left_8 ev3 ?_
  refine lv_ior X.1 X.2.1 d_left_9 ?_
  refine t_any (fun v4 => ?_)
  exact p_reti hQQ hS X hr hlk trivial d_left_10
set_option maxHeartbeats 4000000 in
set_option maxRecDepth 100000 in
theorem c_twice (l : Launch) (a0 : Int32) : Met l y_twice (k_twice :: lw_tg) (mR 0 0) (va_Pc [.int a0] pPre) (va_Qi (fun (r : Int32) (_ : Unit) => ∃ n, n < 256 ∧ r = nI n) (fun _ _ => True) (fun _ => False)) 0 0 (fun _ => False) := by
  refine p_enter (by decide) rfl (Nat.le_of_ble_eq_true rfl) (fun p e s m below meth c ls AV QQ H locs hQQ hS X hr hlk hml hl => ?_)
  have hl : lv_has ls 1 [(0, .int a0)] := hl
  refine lv_iload_n X.1 X.2.1 d_twice_0 rfl (lv_at hl 0 rfl) ?_
  refine lv_iconst (v := (nI 1)) X.1 X.2.1 d_twice_1 (by decide) ?_
  refine lv_ishl X.1 X.2.1 d_twice_2 ?_
  refine t_any (fun v1 => ?_)
  have jn3 : ∀ w2 : Int32, W p l e (mR 0 0) s m AV below meth c H locs 0 0 QQ (F0 m 15 ls [.int w2, .int v1]) := by
    intro w2
    refine lv_ixor X.1 X.2.1 d_twice_15 ?_
    refine t_any (fun v4 => ?_)
    refine lv_sipush (v := (nI 255)) X.1 X.2.1 d_twice_16 (by decide) ?_
    refine lv_iand X.1 X.2.1 d_twice_19 ?_
    obtain ⟨j5, hj5, ej5⟩ := pk_andE v4 (m := nI 255) 8 (by decide)
    refine t_eq ej5 ?_
    have hj5 : j5 < 256 := hj5
    exact p_reti hQQ hS X hr hlk ⟨_, hj5, rfl⟩ d_twice_20
  refine lv_iload_n X.1 X.2.1 d_twice_3 rfl (lv_at hl 0 rfl) ?_
  refine lv_bipush (v := (nI 127)) X.1 X.2.1 d_twice_4 (by decide) ?_
  refine lv_icmp_le (tgt := 14) X.1 X.2.1 d_twice_6 (by decide) (fun c6 => ?_) (fun c6 => ?_)
  · skip
    refine lv_iconst (v := (nI 0)) X.1 X.2.1 d_twice_14 (by decide) ?_
    exact jn3 _
  · skip
    refine lv_bipush (v := (nI 27)) X.1 X.2.1 d_twice_9 (by decide) ?_
    refine lv_goto (tgt := 15) X.1 X.2.1 d_twice_11 (by decide) ?_
    exact jn3 _
set_option maxHeartbeats 4000000 in
set_option maxRecDepth 100000 in
theorem c_begin (l : Launch) (D : mD) (E : mE) (h : Nat) (q : Nat → Nat) (sz : Nat) (I : Nat → Int32) (J : Nat → Int64) (B : Nat → Nat → Int32) (G : Nat → Nat → Int64)  : Met l y_begin (k_begin :: lw_tg) (mR 0 0) (va_Pc [.ref h] (mPre D E h q (I, J, B, G) sz)) (va_Qv (fun (u : mS) => u.1 = upd I 8 (nI 0) ∧ u.2.1 = J ∧ (∀ j, j ≠ 5 → u.2.2.1 j = B j) ∧ u.2.2.2 = G) (mPost D E h q (mA E h q sz)) (mA E h q sz)) 0 0 (mA E h q sz) := by
  refine m_enter (by decide) rfl (Nat.le_of_ble_eq_true rfl) (fun p e s m below meth c ls AV QQ H locs hQQ X Y hZ hA hr hlk hml hl => ?_)
  have Y : mH D E (mA E h q sz) s.heap h q I J B G H locs := Y
  have hl : lv_has ls 1 [(0, .ref h)] := hl
  refine lv_aload_n X.1 X.2.1 d_begin_0 rfl (lv_at hl 0 rfl) ?_
  refine m_get X Y 5 (by decide) lk_h (gf_h _ _ _) rfl d_begin_1 ?_
  refine lv_iconst (v := (nI 0)) X.1 X.2.1 d_begin_4 (by decide) ?_
  refine lv_ldcw (v := (1732584193)) X.1 X.2.1 X.2.2.2.1 (X.2.2.1 _ cn_352) d_begin_5 ?_
  refine t_eq (y := nI 1732584193) (by decide) ?_
  refine m_iast X Y (aw_h _ _ _ _ _ _ _) (vp_in_nI (by omega) (by decide)) (sw_h _ _ _ _ _ _ _ _) d_begin_8 (fun H locs Y => ?_)
  generalize (upd (B 5) ((nI 0)).toNatClampNeg (nI 1732584193)) = f1 at Y
  refine lv_aload_n X.1 X.2.1 d_begin_9 rfl (lv_at hl 0 rfl) ?_
  refine m_get X Y 5 (by decide) lk_h (gf_h _ _ _) rfl d_begin_10 ?_
  refine lv_iconst (v := (nI 1)) X.1 X.2.1 d_begin_13 (by decide) ?_
  refine lv_ldcw (v := (-271733879)) X.1 X.2.1 X.2.2.2.1 (X.2.2.1 _ cn_353) d_begin_14 ?_
  refine m_iast X Y (aw_h _ _ _ _ _ _ _) (vp_in_nI (by omega) (by decide)) (sw_h _ _ _ _ _ _ _ _) d_begin_17 (fun H locs Y => ?_)
  generalize (upd ((upB B 5 f1) 5) ((nI 1)).toNatClampNeg (-271733879)) = f2 at Y
  refine lv_aload_n X.1 X.2.1 d_begin_18 rfl (lv_at hl 0 rfl) ?_
  refine m_get X Y 5 (by decide) lk_h (gf_h _ _ _) rfl d_begin_19 ?_
  refine lv_iconst (v := (nI 2)) X.1 X.2.1 d_begin_22 (by decide) ?_
  refine lv_ldcw (v := (-1732584194)) X.1 X.2.1 X.2.2.2.1 (X.2.2.1 _ cn_354) d_begin_23 ?_
  refine m_iast X Y (aw_h _ _ _ _ _ _ _) (vp_in_nI (by omega) (by decide)) (sw_h _ _ _ _ _ _ _ _) d_begin_26 (fun H locs Y => ?_)
  generalize (upd ((upB (upB B 5 f1) 5 f2) 5) ((nI 2)).toNatClampNeg (-1732584194)) = f3 at Y
  refine lv_aload_n X.1 X.2.1 d_begin_27 rfl (lv_at hl 0 rfl) ?_
  refine m_get X Y 5 (by decide) lk_h (gf_h _ _ _) rfl d_begin_28 ?_
  refine lv_iconst (v := (nI 3)) X.1 X.2.1 d_begin_31 (by decide) ?_
  refine lv_ldcw (v := (271733878)) X.1 X.2.1 X.2.2.2.1 (X.2.2.1 _ cn_355) d_begin_32 ?_
  refine t_eq (y := nI 271733878) (by decide) ?_
  refine m_iast X Y (aw_h _ _ _ _ _ _ _) (vp_in_nI (by omega) (by decide)) (sw_h _ _ _ _ _ _ _ _) d_begin_35 (fun H locs Y => ?_)
  generalize (upd ((upB (upB (upB B 5 f1) 5 f2) 5 f3) 5) ((nI 3)).toNatClampNeg (nI 271733878)) = f4 at Y
  refine lv_aload_n X.1 X.2.1 d_begin_36 rfl (lv_at hl 0 rfl) ?_
  refine m_get X Y 5 (by decide) lk_h (gf_h _ _ _) rfl d_begin_37 ?_
  refine lv_iconst (v := (nI 4)) X.1 X.2.1 d_begin_40 (by decide) ?_
  refine lv_ldcw (v := (-1009589776)) X.1 X.2.1 X.2.2.2.1 (X.2.2.1 _ cn_356) d_begin_41 ?_
  refine m_iast X Y (aw_h _ _ _ _ _ _ _) (vp_in_nI (by omega) (by decide)) (sw_h _ _ _ _ _ _ _ _) d_begin_44 (fun H locs Y => ?_)
  generalize (upd ((upB (upB (upB (upB B 5 f1) 5 f2) 5 f3) 5 f4) 5) ((nI 4)).toNatClampNeg (-1009589776)) = f5 at Y
  refine lv_aload_n X.1 X.2.1 d_begin_45 rfl (lv_at hl 0 rfl) ?_
  refine lv_iconst (v := (nI 0)) X.1 X.2.1 d_begin_46 (by decide) ?_
  refine m_puti X Y 8 (by decide) lk_hashed rfl rfl (t_M_ok 8 (by decide)) rfl rfl (sf_hashed _ _ _ _) (Nat.le_of_ble_eq_true rfl) d_begin_47 (fun H locs Y => ?_)
  exact m_retv hQQ X Y hr hlk ⟨rfl, rfl, fun j hj => (if_neg hj).trans ((if_neg hj).trans ((if_neg hj).trans ((if_neg hj).trans ((if_neg hj).trans (rfl))))), rfl⟩ d_begin_50
end
section
theorem kx_begin : Cond.selects R_M y_begin y_begin ∈ lw_tg := List.mem_filter.mpr ⟨List.mem_append_left _ (List.mem_of_getElem? (i := 81) (by decide +kernel)), rfl⟩
theorem hd_begin : y_begin.cls = R_M ∧ y_begin.cls ≠ "java/lang/invoke/MethodHandle" ∧ y_begin.cls ≠ "java/lang/invoke/VarHandle" ∧ (parseMethodDescriptor y_begin.desc).map (fun d => d.parameters.length) = some 0 := by decide +kernel
abbrev b_hash : ByteArray := prog_14_method_10_code
def y_hash : MethodName := ⟨R_M, "hash", "(I)V"⟩
abbrev k_hash : Cond := .code y_hash b_hash 11 none
theorem ki_hash : k_hash ∈ lw_tg := in_t 1817 (by decide +kernel)
theorem ks_hash : Cond.instanceMethod y_hash ∈ lw_tg := in_t 1816 (by decide +kernel)
theorem kl_hash : Cond.methodLink R_M 370 y_hash ∈ lw_tg := in_t 1814 (by decide +kernel)
theorem d_hash_0 : decode b_hash 0 = .ok (.aload_n 0, 1) := by decide +kernel
theorem d_hash_1 : decode b_hash 1 = .ok (.getfield 29, 3) := by decide +kernel
theorem d_hash_4 : decode b_hash 4 = .ok (.aload_n 0, 1) := by decide +kernel
theorem d_hash_5 : decode b_hash 5 = .ok (.getfield 357, 3) := by decide +kernel
theorem d_hash_8 : decode b_hash 8 = .ok (.bipush 64, 2) := by decide +kernel
theorem d_hash_10 : decode b_hash 10 = .ok (.irem, 1) := by decide +kernel
theorem d_hash_11 : decode b_hash 11 = .ok (.iload_n 1, 1) := by decide +kernel
theorem d_hash_12 : decode b_hash 12 = .ok (.i2b, 1) := by decide +kernel
theorem d_hash_13 : decode b_hash 13 = .ok (.bastore, 1) := by decide +kernel
theorem d_hash_14 : decode b_hash 14 = .ok (.aload_n 0, 1) := by decide +kernel
theorem d_hash_15 : decode b_hash 15 = .ok (.dup, 1) := by decide +kernel
theorem d_hash_16 : decode b_hash 16 = .ok (.getfield 357, 3) := by decide +kernel
theorem d_hash_19 : decode b_hash 19 = .ok (.iconst 1, 1) := by decide +kernel
theorem d_hash_20 : decode b_hash 20 = .ok (.iadd, 1) := by decide +kernel
theorem d_hash_21 : decode b_hash 21 = .ok (.putfield 357, 3) := by decide +kernel
theorem d_hash_24 : decode b_hash 24 = .ok (.aload_n 0, 1) := by decide +kernel
theorem d_hash_25 : decode b_hash 25 = .ok (.getfield 357, 3) := by decide +kernel
theorem d_hash_28 : decode b_hash 28 = .ok (.bipush 64, 2) := by decide +kernel
theorem d_hash_30 : decode b_hash 30 = .ok (.irem, 1) := by decide +kernel
theorem d_hash_31 : decode b_hash 31 = .ok (.ifCond .eq 4, 3) := by decide +kernel
theorem d_hash_34 : decode b_hash 34 = .ok (.return_, 1) := by decide +kernel
theorem d_hash_35 : decode b_hash 35 = .ok (.iconst 0, 1) := by decide +kernel
theorem d_hash_36 : decode b_hash 36 = .ok (.istore_n 2, 1) := by decide +kernel
theorem d_hash_37 : decode b_hash 37 = .ok (.iload_n 2, 1) := by decide +kernel
theorem d_hash_38 : decode b_hash 38 = .ok (.bipush 16, 2) := by decide +kernel
theorem d_hash_40 : decode b_hash 40 = .ok (.if_icmp .ge 77, 3) := by decide +kernel
theorem d_hash_43 : decode b_hash 43 = .ok (.aload_n 0, 1) := by decide +kernel
theorem d_hash_44 : decode b_hash 44 = .ok (.getfield 26, 3) := by decide +kernel
theorem d_hash_47 : decode b_hash 47 = .ok (.iload_n 2, 1) := by decide +kernel
theorem d_hash_48 : decode b_hash 48 = .ok (.aload_n 0, 1) := by decide +kernel
theorem d_hash_49 : decode b_hash 49 = .ok (.getfield 29, 3) := by decide +kernel
theorem d_hash_52 : decode b_hash 52 = .ok (.iconst 4, 1) := by decide +kernel
theorem d_hash_53 : decode b_hash 53 = .ok (.iload_n 2, 1) := by decide +kernel
theorem d_hash_54 : decode b_hash 54 = .ok (.imul, 1) := by decide +kernel
theorem d_hash_55 : decode b_hash 55 = .ok (.baload, 1) := by decide +kernel
theorem d_hash_56 : decode b_hash 56 = .ok (.bipush 24, 2) := by decide +kernel
theorem d_hash_58 : decode b_hash 58 = .ok (.ishl, 1) := by decide +kernel
theorem d_hash_59 : decode b_hash 59 = .ok (.aload_n 0, 1) := by decide +kernel
theorem d_hash_60 : decode b_hash 60 = .ok (.getfield 29, 3) := by decide +kernel
theorem d_hash_63 : decode b_hash 63 = .ok (.iconst 4, 1) := by decide +kernel
theorem d_hash_64 : decode b_hash 64 = .ok (.iload_n 2, 1) := by decide +kernel
theorem d_hash_65 : decode b_hash 65 = .ok (.imul, 1) := by decide +kernel
theorem d_hash_66 : decode b_hash 66 = .ok (.iconst 1, 1) := by decide +kernel
theorem d_hash_67 : decode b_hash 67 = .ok (.iadd, 1) := by decide +kernel
theorem d_hash_68 : decode b_hash 68 = .ok (.baload, 1) := by decide +kernel
theorem d_hash_69 : decode b_hash 69 = .ok (.sipush 255, 3) := by decide +kernel
theorem d_hash_72 : decode b_hash 72 = .ok (.iand, 1) := by decide +kernel
theorem d_hash_73 : decode b_hash 73 = .ok (.bipush 16, 2) := by decide +kernel
theorem d_hash_75 : decode b_hash 75 = .ok (.ishl, 1) := by decide +kernel
theorem d_hash_76 : decode b_hash 76 = .ok (.ior, 1) := by decide +kernel
theorem d_hash_77 : decode b_hash 77 = .ok (.aload_n 0, 1) := by decide +kernel
theorem d_hash_78 : decode b_hash 78 = .ok (.getfield 29, 3) := by decide +kernel
theorem d_hash_81 : decode b_hash 81 = .ok (.iconst 4, 1) := by decide +kernel
theorem d_hash_82 : decode b_hash 82 = .ok (.iload_n 2, 1) := by decide +kernel
theorem d_hash_83 : decode b_hash 83 = .ok (.imul, 1) := by decide +kernel
theorem d_hash_84 : decode b_hash 84 = .ok (.iconst 2, 1) := by decide +kernel
theorem d_hash_85 : decode b_hash 85 = .ok (.iadd, 1) := by decide +kernel
theorem d_hash_86 : decode b_hash 86 = .ok (.baload, 1) := by decide +kernel
theorem d_hash_87 : decode b_hash 87 = .ok (.sipush 255, 3) := by decide +kernel
theorem d_hash_90 : decode b_hash 90 = .ok (.iand, 1) := by decide +kernel
theorem d_hash_91 : decode b_hash 91 = .ok (.bipush 8, 2) := by decide +kernel
theorem d_hash_93 : decode b_hash 93 = .ok (.ishl, 1) := by decide +kernel
theorem d_hash_94 : decode b_hash 94 = .ok (.ior, 1) := by decide +kernel
theorem d_hash_95 : decode b_hash 95 = .ok (.aload_n 0, 1) := by decide +kernel
theorem d_hash_96 : decode b_hash 96 = .ok (.getfield 29, 3) := by decide +kernel
theorem d_hash_99 : decode b_hash 99 = .ok (.iconst 4, 1) := by decide +kernel
theorem d_hash_100 : decode b_hash 100 = .ok (.iload_n 2, 1) := by decide +kernel
theorem d_hash_101 : decode b_hash 101 = .ok (.imul, 1) := by decide +kernel
theorem d_hash_102 : decode b_hash 102 = .ok (.iconst 3, 1) := by decide +kernel
theorem d_hash_103 : decode b_hash 103 = .ok (.iadd, 1) := by decide +kernel
theorem d_hash_104 : decode b_hash 104 = .ok (.baload, 1) := by decide +kernel
theorem d_hash_105 : decode b_hash 105 = .ok (.sipush 255, 3) := by decide +kernel
theorem d_hash_108 : decode b_hash 108 = .ok (.iand, 1) := by decide +kernel
theorem d_hash_109 : decode b_hash 109 = .ok (.ior, 1) := by decide +kernel
theorem d_hash_110 : decode b_hash 110 = .ok (.iastore, 1) := by decide +kernel
theorem d_hash_111 : decode b_hash 111 = .ok (.iinc 2 1, 3) := by decide +kernel
theorem d_hash_114 : decode b_hash 114 = .ok (.goto (-77), 3) := by decide +kernel
theorem d_hash_117 : decode b_hash 117 = .ok (.bipush 16, 2) := by decide +kernel
theorem d_hash_119 : decode b_hash 119 = .ok (.istore_n 2, 1) := by decide +kernel
theorem d_hash_120 : decode b_hash 120 = .ok (.iload_n 2, 1) := by decide +kernel
theorem d_hash_121 : decode b_hash 121 = .ok (.bipush 80, 2) := by decide +kernel
theorem d_hash_123 : decode b_hash 123 = .ok (.if_icmp .ge 57, 3) := by decide +kernel
theorem d_hash_126 : decode b_hash 126 = .ok (.aload_n 0, 1) := by decide +kernel
theorem d_hash_127 : decode b_hash 127 = .ok (.getfield 26, 3) := by decide +kernel
theorem d_hash_130 : decode b_hash 130 = .ok (.iload_n 2, 1) := by decide +kernel
theorem d_hash_131 : decode b_hash 131 = .ok (.aload_n 0, 1) := by decide +kernel
theorem d_hash_132 : decode b_hash 132 = .ok (.getfield 26, 3) := by decide +kernel
theorem d_hash_135 : decode b_hash 135 = .ok (.iload_n 2, 1) := by decide +kernel
theorem d_hash_136 : decode b_hash 136 = .ok (.iconst 3, 1) := by decide +kernel
theorem d_hash_137 : decode b_hash 137 = .ok (.isub, 1) := by decide +kernel
theorem d_hash_138 : decode b_hash 138 = .ok (.iaload, 1) := by decide +kernel
theorem d_hash_139 : decode b_hash 139 = .ok (.aload_n 0, 1) := by decide +kernel
theorem d_hash_140 : decode b_hash 140 = .ok (.getfield 26, 3) := by decide +kernel
theorem d_hash_143 : decode b_hash 143 = .ok (.iload_n 2, 1) := by decide +kernel
theorem d_hash_144 : decode b_hash 144 = .ok (.bipush 8, 2) := by decide +kernel
theorem d_hash_146 : decode b_hash 146 = .ok (.isub, 1) := by decide +kernel
theorem d_hash_147 : decode b_hash 147 = .ok (.iaload, 1) := by decide +kernel
theorem d_hash_148 : decode b_hash 148 = .ok (.ixor, 1) := by decide +kernel
theorem d_hash_149 : decode b_hash 149 = .ok (.aload_n 0, 1) := by decide +kernel
theorem d_hash_150 : decode b_hash 150 = .ok (.getfield 26, 3) := by decide +kernel
theorem d_hash_153 : decode b_hash 153 = .ok (.iload_n 2, 1) := by decide +kernel
theorem d_hash_154 : decode b_hash 154 = .ok (.bipush 14, 2) := by decide +kernel
theorem d_hash_156 : decode b_hash 156 = .ok (.isub, 1) := by decide +kernel
theorem d_hash_157 : decode b_hash 157 = .ok (.iaload, 1) := by decide +kernel
theorem d_hash_158 : decode b_hash 158 = .ok (.ixor, 1) := by decide +kernel
theorem d_hash_159 : decode b_hash 159 = .ok (.aload_n 0, 1) := by decide +kernel
theorem d_hash_160 : decode b_hash 160 = .ok (.getfield 26, 3) := by decide +kernel
theorem d_hash_163 : decode b_hash 163 = .ok (.iload_n 2, 1) := by decide +kernel
theorem d_hash_164 : decode b_hash 164 = .ok (.bipush 16, 2) := by decide +kernel
theorem d_hash_166 : decode b_hash 166 = .ok (.isub, 1) := by decide +kernel
theorem d_hash_167 : decode b_hash 167 = .ok (.iaload, 1) := by decide +kernel
theorem d_hash_168 : decode b_hash 168 = .ok (.ixor, 1) := by decide +kernel
theorem d_hash_169 : decode b_hash 169 = .ok (.iconst 1, 1) := by decide +kernel
theorem d_hash_170 : decode b_hash 170 = .ok (.invokestatic 360, 3) := by decide +kernel
theorem d_hash_173 : decode b_hash 173 = .ok (.iastore, 1) := by decide +kernel
theorem d_hash_174 : decode b_hash 174 = .ok (.iinc 2 1, 3) := by decide +kernel
theorem d_hash_177 : decode b_hash 177 = .ok (.goto (-57), 3) := by decide +kernel
theorem d_hash_180 : decode b_hash 180 = .ok (.aload_n 0, 1) := by decide +kernel
theorem d_hash_181 : decode b_hash 181 = .ok (.getfield 22, 3) := by decide +kernel
theorem d_hash_184 : decode b_hash 184 = .ok (.iconst 0, 1) := by decide +kernel
theorem d_hash_185 : decode b_hash 185 = .ok (.iaload, 1) := by decide +kernel
theorem d_hash_186 : decode b_hash 186 = .ok (.istore_n 2, 1) := by decide +kernel
theorem d_hash_187 : decode b_hash 187 = .ok (.aload_n 0, 1) := by decide +kernel
theorem d_hash_188 : decode b_hash 188 = .ok (.getfield 22, 3) := by decide +kernel
theorem d_hash_191 : decode b_hash 191 = .ok (.iconst 1, 1) := by decide +kernel
theorem d_hash_192 : decode b_hash 192 = .ok (.iaload, 1) := by decide +kernel
theorem d_hash_193 : decode b_hash 193 = .ok (.istore_n 3, 1) := by decide +kernel
theorem d_hash_194 : decode b_hash 194 = .ok (.aload_n 0, 1) := by decide +kernel
theorem d_hash_195 : decode b_hash 195 = .ok (.getfield 22, 3) := by decide +kernel
theorem d_hash_198 : decode b_hash 198 = .ok (.iconst 2, 1) := by decide +kernel
theorem d_hash_199 : decode b_hash 199 = .ok (.iaload, 1) := by decide +kernel
theorem d_hash_200 : decode b_hash 200 = .ok (.istore 4, 2) := by decide +kernel
theorem d_hash_202 : decode b_hash 202 = .ok (.aload_n 0, 1) := by decide +kernel
theorem d_hash_203 : decode b_hash 203 = .ok (.getfield 22, 3) := by decide +kernel
theorem d_hash_206 : decode b_hash 206 = .ok (.iconst 3, 1) := by decide +kernel
theorem d_hash_207 : decode b_hash 207 = .ok (.iaload, 1) := by decide +kernel
theorem d_hash_208 : decode b_hash 208 = .ok (.istore 5, 2) := by decide +kernel
theorem d_hash_210 : decode b_hash 210 = .ok (.aload_n 0, 1) := by decide +kernel
theorem d_hash_211 : decode b_hash 211 = .ok (.getfield 22, 3) := by decide +kernel
theorem d_hash_214 : decode b_hash 214 = .ok (.iconst 4, 1) := by decide +kernel
theorem d_hash_215 : decode b_hash 215 = .ok (.iaload, 1) := by decide +kernel
theorem d_hash_216 : decode b_hash 216 = .ok (.istore 6, 2) := by decide +kernel
theorem d_hash_218 : decode b_hash 218 = .ok (.iconst 0, 1) := by decide +kernel
theorem d_hash_219 : decode b_hash 219 = .ok (.istore 7, 2) := by decide +kernel
theorem d_hash_221 : decode b_hash 221 = .ok (.iload 7, 2) := by decide +kernel
theorem d_hash_223 : decode b_hash 223 = .ok (.bipush 80, 2) := by decide +kernel
theorem d_hash_225 : decode b_hash 225 = .ok (.if_icmp .ge 160, 3) := by decide +kernel
theorem d_hash_228 : decode b_hash 228 = .ok (.iload 7, 2) := by decide +kernel
theorem d_hash_230 : decode b_hash 230 = .ok (.bipush 20, 2) := by decide +kernel
theorem d_hash_232 : decode b_hash 232 = .ok (.if_icmp .ge 17, 3) := by decide +kernel
theorem d_hash_235 : decode b_hash 235 = .ok (.iload_n 3, 1) := by decide +kernel
theorem d_hash_236 : decode b_hash 236 = .ok (.iload 4, 2) := by decide +kernel
theorem d_hash_238 : decode b_hash 238 = .ok (.iand, 1) := by decide +kernel
theorem d_hash_239 : decode b_hash 239 = .ok (.iload_n 3, 1) := by decide +kernel
theorem d_hash_240 : decode b_hash 240 = .ok (.iconst (-1), 1) := by decide +kernel
theorem d_hash_241 : decode b_hash 241 = .ok (.ixor, 1) := by decide +kernel
theorem d_hash_242 : decode b_hash 242 = .ok (.iload 5, 2) := by decide +kernel
theorem d_hash_244 : decode b_hash 244 = .ok (.iand, 1) := by decide +kernel
theorem d_hash_245 : decode b_hash 245 = .ok (.ior, 1) := by decide +kernel
theorem d_hash_246 : decode b_hash 246 = .ok (.goto 42, 3) := by decide +kernel
theorem d_hash_249 : decode b_hash 249 = .ok (.iload 7, 2) := by decide +kernel
theorem d_hash_251 : decode b_hash 251 = .ok (.bipush 40, 2) := by decide +kernel
theorem d_hash_253 : decode b_hash 253 = .ok (.if_icmp .lt 10, 3) := by decide +kernel
theorem d_hash_256 : decode b_hash 256 = .ok (.iload 7, 2) := by decide +kernel
theorem d_hash_258 : decode b_hash 258 = .ok (.bipush 59, 2) := by decide +kernel
theorem d_hash_260 : decode b_hash 260 = .ok (.if_icmp .le 13, 3) := by decide +kernel
theorem d_hash_263 : decode b_hash 263 = .ok (.iload_n 3, 1) := by decide +kernel
theorem d_hash_264 : decode b_hash 264 = .ok (.iload 4, 2) := by decide +kernel
theorem d_hash_266 : decode b_hash 266 = .ok (.ixor, 1) := by decide +kernel
theorem d_hash_267 : decode b_hash 267 = .ok (.iload 5, 2) := by decide +kernel
theorem d_hash_269 : decode b_hash 269 = .ok (.ixor, 1) := by decide +kernel
theorem d_hash_270 : decode b_hash 270 = .ok (.goto 18, 3) := by decide +kernel
theorem d_hash_273 : decode b_hash 273 = .ok (.iload_n 3, 1) := by decide +kernel
theorem d_hash_274 : decode b_hash 274 = .ok (.iload 4, 2) := by decide +kernel
theorem d_hash_276 : decode b_hash 276 = .ok (.iand, 1) := by decide +kernel
theorem d_hash_277 : decode b_hash 277 = .ok (.iload_n 3, 1) := by decide +kernel
theorem d_hash_278 : decode b_hash 278 = .ok (.iload 5, 2) := by decide +kernel
theorem d_hash_280 : decode b_hash 280 = .ok (.iand, 1) := by decide +kernel
theorem d_hash_281 : decode b_hash 281 = .ok (.ior, 1) := by decide +kernel
theorem d_hash_282 : decode b_hash 282 = .ok (.iload 4, 2) := by decide +kernel
theorem d_hash_284 : decode b_hash 284 = .ok (.iload 5, 2) := by decide +kernel
theorem d_hash_286 : decode b_hash 286 = .ok (.iand, 1) := by decide +kernel
theorem d_hash_287 : decode b_hash 287 = .ok (.ior, 1) := by decide +kernel
theorem d_hash_288 : decode b_hash 288 = .ok (.istore 8, 2) := by decide +kernel
theorem d_hash_290 : decode b_hash 290 = .ok (.iload 7, 2) := by decide +kernel
theorem d_hash_292 : decode b_hash 292 = .ok (.bipush 20, 2) := by decide +kernel
theorem d_hash_294 : decode b_hash 294 = .ok (.if_icmp .ge 9, 3) := by decide +kernel
theorem d_hash_297 : decode b_hash 297 = .ok (.ldc_w 364, 3) := by decide +kernel
theorem d_hash_300 : decode b_hash 300 = .ok (.goto 32, 3) := by decide +kernel
theorem d_hash_303 : decode b_hash 303 = .ok (.iload 7, 2) := by decide +kernel
theorem d_hash_305 : decode b_hash 305 = .ok (.bipush 40, 2) := by decide +kernel
theorem d_hash_307 : decode b_hash 307 = .ok (.if_icmp .ge 9, 3) := by decide +kernel
theorem d_hash_310 : decode b_hash 310 = .ok (.ldc_w 365, 3) := by decide +kernel
theorem d_hash_313 : decode b_hash 313 = .ok (.goto 19, 3) := by decide +kernel
theorem d_hash_316 : decode b_hash 316 = .ok (.iload 7, 2) := by decide +kernel
theorem d_hash_318 : decode b_hash 318 = .ok (.bipush 60, 2) := by decide +kernel
theorem d_hash_320 : decode b_hash 320 = .ok (.if_icmp .ge 9, 3) := by decide +kernel
theorem d_hash_323 : decode b_hash 323 = .ok (.ldc_w 366, 3) := by decide +kernel
theorem d_hash_326 : decode b_hash 326 = .ok (.goto 6, 3) := by decide +kernel
theorem d_hash_329 : decode b_hash 329 = .ok (.ldc_w 367, 3) := by decide +kernel
theorem d_hash_332 : decode b_hash 332 = .ok (.istore 9, 2) := by decide +kernel
theorem d_hash_334 : decode b_hash 334 = .ok (.iload_n 2, 1) := by decide +kernel
theorem d_hash_335 : decode b_hash 335 = .ok (.iconst 5, 1) := by decide +kernel
theorem d_hash_336 : decode b_hash 336 = .ok (.invokestatic 360, 3) := by decide +kernel
theorem d_hash_339 : decode b_hash 339 = .ok (.iload 8, 2) := by decide +kernel
theorem d_hash_341 : decode b_hash 341 = .ok (.iadd, 1) := by decide +kernel
theorem d_hash_342 : decode b_hash 342 = .ok (.iload 6, 2) := by decide +kernel
theorem d_hash_344 : decode b_hash 344 = .ok (.iadd, 1) := by decide +kernel
theorem d_hash_345 : decode b_hash 345 = .ok (.iload 9, 2) := by decide +kernel
theorem d_hash_347 : decode b_hash 347 = .ok (.iadd, 1) := by decide +kernel
theorem d_hash_348 : decode b_hash 348 = .ok (.aload_n 0, 1) := by decide +kernel
theorem d_hash_349 : decode b_hash 349 = .ok (.getfield 26, 3) := by decide +kernel
theorem d_hash_352 : decode b_hash 352 = .ok (.iload 7, 2) := by decide +kernel
theorem d_hash_354 : decode b_hash 354 = .ok (.iaload, 1) := by decide +kernel
theorem d_hash_355 : decode b_hash 355 = .ok (.iadd, 1) := by decide +kernel
theorem d_hash_356 : decode b_hash 356 = .ok (.istore 10, 2) := by decide +kernel
theorem d_hash_358 : decode b_hash 358 = .ok (.iload 5, 2) := by decide +kernel
theorem d_hash_360 : decode b_hash 360 = .ok (.istore 6, 2) := by decide +kernel
theorem d_hash_362 : decode b_hash 362 = .ok (.iload 4, 2) := by decide +kernel
theorem d_hash_364 : decode b_hash 364 = .ok (.istore 5, 2) := by decide +kernel
theorem d_hash_366 : decode b_hash 366 = .ok (.iload_n 3, 1) := by decide +kernel
theorem d_hash_367 : decode b_hash 367 = .ok (.bipush 30, 2) := by decide +kernel
theorem d_hash_369 : decode b_hash 369 = .ok (.invokestatic 360, 3) := by decide +kernel
theorem d_hash_372 : decode b_hash 372 = .ok (.istore 4, 2) := by decide +kernel
theorem d_hash_374 : decode b_hash 374 = .ok (.iload_n 2, 1) := by decide +kernel
theorem d_hash_375 : decode b_hash 375 = .ok (.istore_n 3, 1) := by decide +kernel
theorem d_hash_376 : decode b_hash 376 = .ok (.iload 10, 2) := by decide +kernel
theorem d_hash_378 : decode b_hash 378 = .ok (.istore_n 2, 1) := by decide +kernel
theorem d_hash_379 : decode b_hash 379 = .ok (.iinc 7 1, 3) := by decide +kernel
theorem d_hash_382 : decode b_hash 382 = .ok (.goto (-161), 3) := by decide +kernel
theorem d_hash_385 : decode b_hash 385 = .ok (.aload_n 0, 1) := by decide +kernel
theorem d_hash_386 : decode b_hash 386 = .ok (.getfield 22, 3) := by decide +kernel
theorem d_hash_389 : decode b_hash 389 = .ok (.iconst 0, 1) := by decide +kernel
theorem d_hash_390 : decode b_hash 390 = .ok (.dup2, 1) := by decide +kernel
theorem d_hash_391 : decode b_hash 391 = .ok (.iaload, 1) := by decide +kernel
theorem d_hash_392 : decode b_hash 392 = .ok (.iload_n 2, 1) := by decide +kernel
theorem d_hash_393 : decode b_hash 393 = .ok (.iadd, 1) := by decide +kernel
theorem d_hash_394 : decode b_hash 394 = .ok (.iastore, 1) := by decide +kernel
theorem d_hash_395 : decode b_hash 395 = .ok (.aload_n 0, 1) := by decide +kernel
theorem d_hash_396 : decode b_hash 396 = .ok (.getfield 22, 3) := by decide +kernel
theorem d_hash_399 : decode b_hash 399 = .ok (.iconst 1, 1) := by decide +kernel
theorem d_hash_400 : decode b_hash 400 = .ok (.dup2, 1) := by decide +kernel
theorem d_hash_401 : decode b_hash 401 = .ok (.iaload, 1) := by decide +kernel
theorem d_hash_402 : decode b_hash 402 = .ok (.iload_n 3, 1) := by decide +kernel
theorem d_hash_403 : decode b_hash 403 = .ok (.iadd, 1) := by decide +kernel
theorem d_hash_404 : decode b_hash 404 = .ok (.iastore, 1) := by decide +kernel
theorem d_hash_405 : decode b_hash 405 = .ok (.aload_n 0, 1) := by decide +kernel
theorem d_hash_406 : decode b_hash 406 = .ok (.getfield 22, 3) := by decide +kernel
theorem d_hash_409 : decode b_hash 409 = .ok (.iconst 2, 1) := by decide +kernel
theorem d_hash_410 : decode b_hash 410 = .ok (.dup2, 1) := by decide +kernel
theorem d_hash_411 : decode b_hash 411 = .ok (.iaload, 1) := by decide +kernel
theorem d_hash_412 : decode b_hash 412 = .ok (.iload 4, 2) := by decide +kernel
theorem d_hash_414 : decode b_hash 414 = .ok (.iadd, 1) := by decide +kernel
theorem d_hash_415 : decode b_hash 415 = .ok (.iastore, 1) := by decide +kernel
theorem d_hash_416 : decode b_hash 416 = .ok (.aload_n 0, 1) := by decide +kernel
theorem d_hash_417 : decode b_hash 417 = .ok (.getfield 22, 3) := by decide +kernel
theorem d_hash_420 : decode b_hash 420 = .ok (.iconst 3, 1) := by decide +kernel
theorem d_hash_421 : decode b_hash 421 = .ok (.dup2, 1) := by decide +kernel
theorem d_hash_422 : decode b_hash 422 = .ok (.iaload, 1) := by decide +kernel
theorem d_hash_423 : decode b_hash 423 = .ok (.iload 5, 2) := by decide +kernel
theorem d_hash_425 : decode b_hash 425 = .ok (.iadd, 1) := by decide +kernel
theorem d_hash_426 : decode b_hash 426 = .ok (.iastore, 1) := by decide +kernel
theorem d_hash_427 : decode b_hash 427 = .ok (.aload_n 0, 1) := by decide +kernel
theorem d_hash_428 : decode b_hash 428 = .ok (.getfield 22, 3) := by decide +kernel
theorem d_hash_431 : decode b_hash 431 = .ok (.iconst 4, 1) := by decide +kernel
theorem d_hash_432 : decode b_hash 432 = .ok (.dup2, 1) := by decide +kernel
theorem d_hash_433 : decode b_hash 433 = .ok (.iaload, 1) := by decide +kernel
theorem d_hash_434 : decode b_hash 434 = .ok (.iload 6, 2) := by decide +kernel
theorem d_hash_436 : decode b_hash 436 = .ok (.iadd, 1) := by decide +kernel
theorem d_hash_437 : decode b_hash 437 = .ok (.iastore, 1) := by decide +kernel
theorem d_hash_438 : decode b_hash 438 = .ok (.return_, 1) := by decide +kernel
theorem cn_364 : Cond.constant R_M 364 (1518500249) ∈ lw_tg := in_t 1821 (by decide +kernel)
theorem cn_365 : Cond.constant R_M 365 (1859775393) ∈ lw_tg := in_t 1822 (by decide +kernel)
theorem cn_366 : Cond.constant R_M 366 (-1894007588) ∈ lw_tg := in_t 1823 (by decide +kernel)
theorem cn_367 : Cond.constant R_M 367 (-899497514) ∈ lw_tg := in_t 1824 (by decide +kernel)
theorem kx_hash : Cond.selects R_M y_hash y_hash ∈ lw_tg := List.mem_filter.mpr ⟨List.mem_append_left _ (List.mem_of_getElem? (i := 82) (by decide +kernel)), rfl⟩
theorem hd_hash : y_hash.cls = R_M ∧ y_hash.cls ≠ "java/lang/invoke/MethodHandle" ∧ y_hash.cls ≠ "java/lang/invoke/VarHandle" ∧ (parseMethodDescriptor y_hash.desc).map (fun d => d.parameters.length) = some 1 := by decide +kernel
set_option maxHeartbeats 4000000 in
set_option maxRecDepth 100000 in
theorem c_begin2 (l : Launch) (D : mD) (E : mE) (h : Nat) (q : Nat → Nat) (sz : Nat) (I : Nat → Int32) (J : Nat → Int64) (B : Nat → Nat → Int32) (G : Nat → Nat → Int64)  : Met l y_begin (k_begin :: lw_tg) (mR 0 0) (va_Pc [.ref h] (mPre D E h q (I, J, B, G) sz)) (va_Qv (fun (u : mS) => (∀ j, j ≠ 8 → u.1 j = I j) ∧ u.2.1 = J ∧ (∀ j, j ≠ 5 → u.2.2.1 j = B j) ∧ u.2.2.2 = G ∧ u.1 8 = nI (0)) (mPost D E h q (mA E h q sz)) (mA E h q sz)) 0 0 (mA E h q sz) := by
  refine m_enter (by decide) rfl (Nat.le_of_ble_eq_true rfl) (fun p e s m below meth c ls AV QQ H locs hQQ X Y hZ hA hr hlk hml hl => ?_)
  have Y : mH D E (mA E h q sz) s.heap h q I J B G H locs := Y
  have hl : lv_has ls 1 [(0, .ref h)] := hl
  refine lv_aload_n X.1 X.2.1 d_begin_0 rfl (lv_at hl 0 rfl) ?_
  refine m_get X Y 5 (by decide) lk_h (gf_h _ _ _) rfl d_begin_1 ?_
  refine lv_iconst (v := (nI 0)) X.1 X.2.1 d_begin_4 (by decide) ?_
  refine lv_ldcw (v := (1732584193)) X.1 X.2.1 X.2.2.2.1 (X.2.2.1 _ cn_352) d_begin_5 ?_
  refine t_eq (y := nI 1732584193) (by decide) ?_
  refine m_iast X Y (aw_h _ _ _ _ _ _ _) (vp_in_nI (by omega) (by decide)) (sw_h _ _ _ _ _ _ _ _) d_begin_8 (fun H locs Y => ?_)
  generalize (upd (B 5) ((nI 0)).toNatClampNeg (nI 1732584193)) = f1 at Y
  refine lv_aload_n X.1 X.2.1 d_begin_9 rfl (lv_at hl 0 rfl) ?_
  refine m_get X Y 5 (by decide) lk_h (gf_h _ _ _) rfl d_begin_10 ?_
  refine lv_iconst (v := (nI 1)) X.1 X.2.1 d_begin_13 (by decide) ?_
  refine lv_ldcw (v := (-271733879)) X.1 X.2.1 X.2.2.2.1 (X.2.2.1 _ cn_353) d_begin_14 ?_
  refine m_iast X Y (aw_h _ _ _ _ _ _ _) (vp_in_nI (by omega) (by decide)) (sw_h _ _ _ _ _ _ _ _) d_begin_17 (fun H locs Y => ?_)
  generalize (upd ((upB B 5 f1) 5) ((nI 1)).toNatClampNeg (-271733879)) = f2 at Y
  refine lv_aload_n X.1 X.2.1 d_begin_18 rfl (lv_at hl 0 rfl) ?_
  refine m_get X Y 5 (by decide) lk_h (gf_h _ _ _) rfl d_begin_19 ?_
  refine lv_iconst (v := (nI 2)) X.1 X.2.1 d_begin_22 (by decide) ?_
  refine lv_ldcw (v := (-1732584194)) X.1 X.2.1 X.2.2.2.1 (X.2.2.1 _ cn_354) d_begin_23 ?_
  refine m_iast X Y (aw_h _ _ _ _ _ _ _) (vp_in_nI (by omega) (by decide)) (sw_h _ _ _ _ _ _ _ _) d_begin_26 (fun H locs Y => ?_)
  generalize (upd ((upB (upB B 5 f1) 5 f2) 5) ((nI 2)).toNatClampNeg (-1732584194)) = f3 at Y
  refine lv_aload_n X.1 X.2.1 d_begin_27 rfl (lv_at hl 0 rfl) ?_
  refine m_get X Y 5 (by decide) lk_h (gf_h _ _ _) rfl d_begin_28 ?_
  refine lv_iconst (v := (nI 3)) X.1 X.2.1 d_begin_31 (by decide) ?_
  refine lv_ldcw (v := (271733878)) X.1 X.2.1 X.2.2.2.1 (X.2.2.1 _ cn_355) d_begin_32 ?_
  refine t_eq (y := nI 271733878) (by decide) ?_
  refine m_iast X Y (aw_h _ _ _ _ _ _ _) (vp_in_nI (by omega) (by decide)) (sw_h _ _ _ _ _ _ _ _) d_begin_35 (fun H locs Y => ?_)
  generalize (upd ((upB (upB (upB B 5 f1) 5 f2) 5 f3) 5) ((nI 3)).toNatClampNeg (nI 271733878)) = f4 at Y
  refine lv_aload_n X.1 X.2.1 d_begin_36 rfl (lv_at hl 0 rfl) ?_
  refine m_get X Y 5 (by decide) lk_h (gf_h _ _ _) rfl d_begin_37 ?_
  refine lv_iconst (v := (nI 4)) X.1 X.2.1 d_begin_40 (by decide) ?_
  refine lv_ldcw (v := (-1009589776)) X.1 X.2.1 X.2.2.2.1 (X.2.2.1 _ cn_356) d_begin_41 ?_
  refine m_iast X Y (aw_h _ _ _ _ _ _ _) (vp_in_nI (by omega) (by decide)) (sw_h _ _ _ _ _ _ _ _) d_begin_44 (fun H locs Y => ?_)
  generalize (upd ((upB (upB (upB (upB B 5 f1) 5 f2) 5 f3) 5 f4) 5) ((nI 4)).toNatClampNeg (-1009589776)) = f5 at Y
  refine lv_aload_n X.1 X.2.1 d_begin_45 rfl (lv_at hl 0 rfl) ?_
  refine lv_iconst (v := (nI 0)) X.1 X.2.1 d_begin_46 (by decide) ?_
  refine m_puti X Y 8 (by decide) lk_hashed rfl rfl (t_M_ok 8 (by decide)) rfl rfl (sf_hashed _ _ _ _) (Nat.le_of_ble_eq_true rfl) d_begin_47 (fun H locs Y => ?_)
  exact m_retv hQQ X Y hr hlk ⟨(fun j h8 => ((if_neg h8).trans rfl)), rfl, (fun j h5 => ((if_neg h5).trans ((if_neg h5).trans ((if_neg h5).trans ((if_neg h5).trans ((if_neg h5).trans rfl)))))), rfl, (show (upd I 8 (nI 0)) 8 = nI (0) from (show (upd I 8 (nI 0)) 8 = nI (0) from pk_us).trans (congrArg nI (show (0 : Nat) = 0 by omega)))⟩ d_begin_50
set_option maxHeartbeats 4000000 in
set_option maxRecDepth 100000 in
theorem c_hash (l : Launch) (D : mD) (E : mE) (h : Nat) (q : Nat → Nat) (sz : Nat) (I : Nat → Int32) (J : Nat → Int64) (B : Nat → Nat → Int32) (G : Nat → Nat → Int64) (a1 : Int32) (k : Nat) (hk : I 8 = nI k) (hk2 : k < 1000000000) : Met l y_hash (k_hash :: lw_tg) (mR 1 21) (va_Pc [.ref h, .int a1] (mPre D E h q (I, J, B, G) sz)) (va_Qv (fun (u : mS) => (∀ j, j ≠ 8 → u.1 j = I j) ∧ u.2.1 = J ∧ (∀ j, j ≠ 5 → j ≠ 6 → j ≠ 7 → u.2.2.1 j = B j) ∧ u.2.2.2 = G ∧ u.1 8 = nI (k + 1)) (mPost D E h q (mA E h q sz)) (mA E h q sz)) 0 0 (mA E h q sz) := by
  refine m_enter (by decide) rfl (Nat.le_of_ble_eq_true rfl) (fun p e s m below meth c ls AV QQ H locs hQQ X Y hZ hA hr hlk hml hl => ?_)
  have Y : mH D E (mA E h q sz) s.heap h q I J B G H locs := Y
  have hl : lv_has ls 11 [(0, .ref h), (1, .int a1)] := hl
  refine lv_aload_n X.1 X.2.1 d_hash_0 rfl (lv_at hl 0 rfl) ?_
  refine m_get X Y 7 (by decide) lk_block (gf_block _ _ _) rfl d_hash_1 ?_
  refine lv_aload_n X.1 X.2.1 d_hash_4 rfl (lv_at hl 0 rfl) ?_
  refine m_get X Y 8 (by decide) lk_hashed (gf_hashed _ _ _) rfl d_hash_5 ?_
  refine t_eq (show I 8 = nI (k) from hk) ?_
  refine lv_bipush (v := (nI 64)) X.1 X.2.1 d_hash_8 (by decide) ?_
  refine lv_irem X.1 X.2.1 d_hash_10 (nI_ne0 (by omega) (by omega)) ?_
  refine t_eq (y := nI ((k) % (64))) (pk_rem (by omega) (by omega) (by omega)) ?_
  refine lv_iload_n X.1 X.2.1 d_hash_11 rfl (lv_at hl 1 rfl) ?_
  obtain ⟨v1, ev1⟩ : ∃ z : Int32, (a1 : Int32).toInt8.toInt32 = z := ⟨_, rfl⟩
  refine lv_i2b (v := v1) X.1 X.2.1 d_hash_12 ev1 ?_
  refine m_bast X Y (aw_block _ _ _ _ _ _ _) (vp_in_nI (by omega) (by decide)) (sw_block _ _ _ _ _ _ _ _) d_hash_13 (fun H locs Y => ?_)
  generalize (upd (B 7) ((nI ((k) % (64)))).toNatClampNeg (vp_nar .byte v1)) = f2 at Y
  refine lv_aload_n X.1 X.2.1 d_hash_14 rfl (lv_at hl 0 rfl) ?_
  refine lv_dup X.1 X.2.1 d_hash_15 rfl ?_
  refine m_get X Y 8 (by decide) lk_hashed (gf_hashed _ _ _) rfl d_hash_16 ?_
  refine t_eq (show I 8 = nI (k) from hk) ?_
  refine lv_iconst (v := (nI 1)) X.1 X.2.1 d_hash_19 (by decide) ?_
  refine lv_iadd X.1 X.2.1 d_hash_20 ?_
  refine t_eq (y := nI (k + 1)) (nI_add _ _) ?_
  refine m_puti X Y 8 (by decide) lk_hashed rfl rfl (t_M_ok 8 (by decide)) rfl rfl (sf_hashed _ _ _ _) (Nat.le_of_ble_eq_true rfl) d_hash_21 (fun H locs Y => ?_)
  refine lv_aload_n X.1 X.2.1 d_hash_24 rfl (lv_at hl 0 rfl) ?_
  refine m_get X Y 8 (by decide) lk_hashed (gf_hashed _ _ _) rfl d_hash_25 ?_
  refine t_eq (show (upd I 8 (nI (k + 1))) 8 = nI (k + 1) from pk_us) ?_
  refine lv_bipush (v := (nI 64)) X.1 X.2.1 d_hash_28 (by decide) ?_
  refine lv_irem X.1 X.2.1 d_hash_30 (nI_ne0 (by omega) (by omega)) ?_
  refine t_eq (y := nI ((k + 1) % (64))) (pk_rem (by omega) (by omega) (by omega)) ?_
  refine lv_if_eq (tgt := 35) X.1 X.2.1 d_hash_31 (by decide) (fun c3 => ?_) (fun c3 => ?_)
  · skip
    rw [← nI_0] at c3
    rw [nI_eq (by omega) (by omega)] at c3
    refine lv_iconst (v := (nI 0)) X.1 X.2.1 d_hash_35 (by decide) ?_
    refine lv_istore_n (lv' := [(2, .int (nI 0)), (0, .ref h), (1, .int a1)]) X.1 X.2.1 d_hash_36 rfl hl (by decide) rfl (fun ls hl => ?_)
    have lp7 : ∀ (n4 i5 : Nat) (B8 : Nat → Nat → Int32) (H : Heap) (locs : List Loc) (ls : Array Slot), i5 + n4 = 16 → 0 ≤ i5 → (∀ j, j ≠ 5 → j ≠ 6 → j ≠ 7 → B8 j = B j) → mH D E (mA E h q sz) s.heap h q (upd I 8 (nI (k + 1))) J B8 G H locs → lv_has ls 11 [(2, .int (nI i5)), (0, .ref h), (1, .int a1)] → W p l e (mR 1 21) s m AV below meth c H locs 0 0 QQ (F0 m 37 ls []) := by
      intro n4
      induction n4 with
      | zero =>
        intro i5 B8 H locs ls hii5 hsi5 hB9  Y hl
        refine lv_iload_n X.1 X.2.1 d_hash_37 rfl (lv_at hl 0 rfl) ?_
        refine lv_bipush (v := (nI 16)) X.1 X.2.1 d_hash_38 (by decide) ?_
        refine lv_icmp_ge (tgt := 117) X.1 X.2.1 d_hash_40 (by decide) (fun c10 => ?_) (fun c10 => absurd ?_ c10)
        rotate_left
        · (rw [nI_leI (by omega) (by omega)] <;> omega)
        rw [nI_leI (by omega) (by omega)] at c10
        refine lv_bipush (v := (nI 16)) X.1 X.2.1 d_hash_117 (by decide) ?_
        refine lv_istore_n (lv' := [(2, .int (nI 16)), (0, .ref h), (1, .int a1)]) X.1 X.2.1 d_hash_119 rfl hl (by decide) rfl (fun ls hl => ?_)
        have lp14 : ∀ (n11 i12 : Nat) (B15 : Nat → Nat → Int32) (H : Heap) (locs : List Loc) (ls : Array Slot), i12 + n11 = 80 → 16 ≤ i12 → (∀ j, j ≠ 5 → j ≠ 6 → j ≠ 7 → B15 j = B j) → mH D E (mA E h q sz) s.heap h q (upd I 8 (nI (k + 1))) J B15 G H locs → lv_has ls 11 [(2, .int (nI i12)), (0, .ref h), (1, .int a1)] → W p l e (mR 1 21) s m AV below meth c H locs 0 0 QQ (F0 m 120 ls []) := by
          intro n11
          induction n11 with
          | zero =>
            intro i12 B15 H locs ls hii12 hsi12 hB16  Y hl
            refine lv_iload_n X.1 X.2.1 d_hash_120 rfl (lv_at hl 0 rfl) ?_
            refine lv_bipush (v := (nI 80)) X.1 X.2.1 d_hash_121 (by decide) ?_
            refine lv_icmp_ge (tgt := 180) X.1 X.2.1 d_hash_123 (by decide) (fun c17 => ?_) (fun c17 => absurd ?_ c17)
            rotate_left
            · (rw [nI_leI (by omega) (by omega)] <;> omega)
            rw [nI_leI (by omega) (by omega)] at c17
            refine lv_aload_n X.1 X.2.1 d_hash_180 rfl (lv_at hl 1 rfl) ?_
            refine m_get X Y 5 (by decide) lk_h (gf_h _ _ _) rfl d_hash_181 ?_
            refine lv_iconst (v := (nI 0)) X.1 X.2.1 d_hash_184 (by decide) ?_
            refine m_iald X Y (aw_h _ _ _ _ _ _ _) (vp_in_nI (by omega) (by decide)) d_hash_185 ?_
            refine t_any (fun v18 => ?_)
            refine lv_istore_n (lv' := [(2, .int v18), (0, .ref h), (1, .int a1)]) X.1 X.2.1 d_hash_186 rfl hl (by decide) rfl (fun ls hl => ?_)
            refine lv_aload_n X.1 X.2.1 d_hash_187 rfl (lv_at hl 1 rfl) ?_
            refine m_get X Y 5 (by decide) lk_h (gf_h _ _ _) rfl d_hash_188 ?_
            refine lv_iconst (v := (nI 1)) X.1 X.2.1 d_hash_191 (by decide) ?_
            refine m_iald X Y (aw_h _ _ _ _ _ _ _) (vp_in_nI (by omega) (by decide)) d_hash_192 ?_
            refine t_any (fun v19 => ?_)
            refine lv_istore_n (lv' := [(3, .int v19), (2, .int v18), (0, .ref h), (1, .int a1)]) X.1 X.2.1 d_hash_193 rfl hl (by decide) rfl (fun ls hl => ?_)
            refine lv_aload_n X.1 X.2.1 d_hash_194 rfl (lv_at hl 2 rfl) ?_
            refine m_get X Y 5 (by decide) lk_h (gf_h _ _ _) rfl d_hash_195 ?_
            refine lv_iconst (v := (nI 2)) X.1 X.2.1 d_hash_198 (by decide) ?_
            refine m_iald X Y (aw_h _ _ _ _ _ _ _) (vp_in_nI (by omega) (by decide)) d_hash_199 ?_
            refine t_any (fun v20 => ?_)
            refine lv_istore (lv' := [(4, .int v20), (3, .int v19), (2, .int v18), (0, .ref h), (1, .int a1)]) X.1 X.2.1 d_hash_200 hl (by decide) rfl (fun ls hl => ?_)
            refine lv_aload_n X.1 X.2.1 d_hash_202 rfl (lv_at hl 3 rfl) ?_
            refine m_get X Y 5 (by decide) lk_h (gf_h _ _ _) rfl d_hash_203 ?_
            refine lv_iconst (v := (nI 3)) X.1 X.2.1 d_hash_206 (by decide) ?_
            refine m_iald X Y (aw_h _ _ _ _ _ _ _) (vp_in_nI (by omega) (by decide)) d_hash_207 ?_
            refine t_any (fun v21 => ?_)
            refine lv_istore (lv' := [(5, .int v21), (4, .int v20), (3, .int v19), (2, .int v18), (0, .ref h), (1, .int a1)]) X.1 X.2.1 d_hash_208 hl (by decide) rfl (fun ls hl => ?_)
            refine lv_aload_n X.1 X.2.1 d_hash_210 rfl (lv_at hl 4 rfl) ?_
            refine m_get X Y 5 (by decide) lk_h (gf_h _ _ _) rfl d_hash_211 ?_
            refine lv_iconst (v := (nI 4)) X.1 X.2.1 d_hash_214 (by decide) ?_
            refine m_iald X Y (aw_h _ _ _ _ _ _ _) (vp_in_nI (by omega) (by decide)) d_hash_215 ?_
            refine t_any (fun v22 => ?_)
            refine lv_istore (lv' := [(6, .int v22), (5, .int v21), (4, .int v20), (3, .int v19), (2, .int v18), (0, .ref h), (1, .int a1)]) X.1 X.2.1 d_hash_216 hl (by decide) rfl (fun ls hl => ?_)
            refine lv_iconst (v := (nI 0)) X.1 X.2.1 d_hash_218 (by decide) ?_
            refine lv_istore (lv' := [(7, .int (nI 0)), (6, .int v22), (5, .int v21), (4, .int v20), (3, .int v19), (2, .int v18), (0, .ref h), (1, .int a1)]) X.1 X.2.1 d_hash_219 hl (by decide) rfl (fun ls hl => ?_)
            have lp26 : ∀ (n23 i24 : Nat) (B27 : Nat → Nat → Int32) (x28 : Int32) (x29 : Int32) (x30 : Int32) (x31 : Int32) (x32 : Int32) (H : Heap) (locs : List Loc) (ls : Array Slot), i24 + n23 = 80 → 0 ≤ i24 → (∀ j, j ≠ 5 → j ≠ 6 → j ≠ 7 → B27 j = B j) → mH D E (mA E h q sz) s.heap h q (upd I 8 (nI (k + 1))) J B27 G H locs → lv_has ls 11 [(7, .int (nI i24)), (6, .int x32), (5, .int x31), (4, .int x30), (3, .int x29), (2, .int x28), (0, .ref h), (1, .int a1)] → W p l e (mR 1 21) s m AV below meth c H locs 0 0 QQ (F0 m 221 ls []) := by
              intro n23
              induction n23 with
              | zero =>
                intro i24 B27 x28 x29 x30 x31 x32 H locs ls hii24 hsi24 hB33  Y hl
                refine lv_iload X.1 X.2.1 d_hash_221 (lv_at hl 0 rfl) ?_
                refine lv_bipush (v := (nI 80)) X.1 X.2.1 d_hash_223 (by decide) ?_
                refine lv_icmp_ge (tgt := 385) X.1 X.2.1 d_hash_225 (by decide) (fun c34 => ?_) (fun c34 => absurd ?_ c34)
                rotate_left
                · (rw [nI_leI (by omega) (by omega)] <;> omega)
                rw [nI_leI (by omega) (by omega)] at c34
                refine lv_aload_n X.1 X.2.1 d_hash_385 rfl (lv_at hl 6 rfl) ?_
                refine m_get X Y 5 (by decide) lk_h (gf_h _ _ _) rfl d_hash_386 ?_
                refine lv_iconst (v := (nI 0)) X.1 X.2.1 d_hash_389 (by decide) ?_
                refine lv_dup2_11 X.1 X.2.1 d_hash_390 rfl rfl ?_
                refine m_iald X Y (aw_h _ _ _ _ _ _ _) (vp_in_nI (by omega) (by decide)) d_hash_391 ?_
                refine t_any (fun v35 => ?_)
                refine lv_iload_n X.1 X.2.1 d_hash_392 rfl (lv_at hl 5 rfl) ?_
                refine lv_iadd X.1 X.2.1 d_hash_393 ?_
                refine t_any (fun v36 => ?_)
                refine m_iast X Y (aw_h _ _ _ _ _ _ _) (vp_in_nI (by omega) (by decide)) (sw_h _ _ _ _ _ _ _ _) d_hash_394 (fun H locs Y => ?_)
                generalize (upd (B27 5) ((nI 0)).toNatClampNeg v36) = f37 at Y
                refine lv_aload_n X.1 X.2.1 d_hash_395 rfl (lv_at hl 6 rfl) ?_
                refine m_get X Y 5 (by decide) lk_h (gf_h _ _ _) rfl d_hash_396 ?_
                refine lv_iconst (v := (nI 1)) X.1 X.2.1 d_hash_399 (by decide) ?_
                refine lv_dup2_11 X.1 X.2.1 d_hash_400 rfl rfl ?_
                refine m_iald X Y (aw_h _ _ _ _ _ _ _) (vp_in_nI (by omega) (by decide)) d_hash_401 ?_
                refine t_any (fun v38 => ?_)
                refine lv_iload_n X.1 X.2.1 d_hash_402 rfl (lv_at hl 4 rfl) ?_
                refine lv_iadd X.1 X.2.1 d_hash_403 ?_
                refine t_any (fun v39 => ?_)
                refine m_iast X Y (aw_h _ _ _ _ _ _ _) (vp_in_nI (by omega) (by decide)) (sw_h _ _ _ _ _ _ _ _) d_hash_404 (fun H locs Y => ?_)
                generalize (upd ((upB B27 5 f37) 5) ((nI 1)).toNatClampNeg v39) = f40 at Y
                refine lv_aload_n X.1 X.2.1 d_hash_405 rfl (lv_at hl 6 rfl) ?_
                refine m_get X Y 5 (by decide) lk_h (gf_h _ _ _) rfl d_hash_406 ?_
                refine lv_iconst (v := (nI 2)) X.1 X.2.1 d_hash_409 (by decide) ?_
                refine lv_dup2_11 X.1 X.2.1 d_hash_410 rfl rfl ?_
                refine m_iald X Y (aw_h _ _ _ _ _ _ _) (vp_in_nI (by omega) (by decide)) d_hash_411 ?_
                refine t_any (fun v41 => ?_)
                refine lv_iload X.1 X.2.1 d_hash_412 (lv_at hl 3 rfl) ?_
                refine lv_iadd X.1 X.2.1 d_hash_414 ?_
                refine t_any (fun v42 => ?_)
                refine m_iast X Y (aw_h _ _ _ _ _ _ _) (vp_in_nI (by omega) (by decide)) (sw_h _ _ _ _ _ _ _ _) d_hash_415 (fun H locs Y => ?_)
                generalize (upd ((upB (upB B27 5 f37) 5 f40) 5) ((nI 2)).toNatClampNeg v42) = f43 at Y
                refine lv_aload_n X.1 X.2.1 d_hash_416 rfl (lv_at hl 6 rfl) ?_
                refine m_get X Y 5 (by decide) lk_h (gf_h _ _ _) rfl d_hash_417 ?_
                refine lv_iconst (v := (nI 3)) X.1 X.2.1 d_hash_420 (by decide) ?_
                refine lv_dup2_11 X.1 X.2.1 d_hash_421 rfl rfl ?_
                refine m_iald X Y (aw_h _ _ _ _ _ _ _) (vp_in_nI (by omega) (by decide)) d_hash_422 ?_
                refine t_any (fun v44 => ?_)
                refine lv_iload X.1 X.2.1 d_hash_423 (lv_at hl 2 rfl) ?_
                refine lv_iadd X.1 X.2.1 d_hash_425 ?_
                refine t_any (fun v45 => ?_)
                refine m_iast X Y (aw_h _ _ _ _ _ _ _) (vp_in_nI (by omega) (by decide)) (sw_h _ _ _ _ _ _ _ _) d_hash_426 (fun H locs Y => ?_)
                generalize (upd ((upB (upB (upB B27 5 f37) 5 f40) 5 f43) 5) ((nI 3)).toNatClampNeg v45) = f46 at Y
                refine lv_aload_n X.1 X.2.1 d_hash_427 rfl (lv_at hl 6 rfl) ?_
                refine m_get X Y 5 (by decide) lk_h (gf_h _ _ _) rfl d_hash_428 ?_
                refine lv_iconst (v := (nI 4)) X.1 X.2.1 d_hash_431 (by decide) ?_
                refine lv_dup2_11 X.1 X.2.1 d_hash_432 rfl rfl ?_
                refine m_iald X Y (aw_h _ _ _ _ _ _ _) (vp_in_nI (by omega) (by decide)) d_hash_433 ?_
                refine t_any (fun v47 => ?_)
                refine lv_iload X.1 X.2.1 d_hash_434 (lv_at hl 1 rfl) ?_
                refine lv_iadd X.1 X.2.1 d_hash_436 ?_
                refine t_any (fun v48 => ?_)
                refine m_iast X Y (aw_h _ _ _ _ _ _ _) (vp_in_nI (by omega) (by decide)) (sw_h _ _ _ _ _ _ _ _) d_hash_437 (fun H locs Y => ?_)
                generalize (upd ((upB (upB (upB (upB B27 5 f37) 5 f40) 5 f43) 5 f46) 5) ((nI 4)).toNatClampNeg v48) = f49 at Y
                exact m_retv hQQ X Y hr hlk ⟨(fun j h8 => ((if_neg h8).trans rfl)), rfl, (fun j h5 h6 h7 => ((if_neg h5).trans ((if_neg h5).trans ((if_neg h5).trans ((if_neg h5).trans ((if_neg h5).trans (hB33 j h5 h6 h7))))))), rfl, (show (upd I 8 (nI (k + 1))) 8 = nI (k + 1) from (show (upd I 8 (nI (k + 1))) 8 = nI (k + 1) from pk_us).trans (congrArg nI (show (k + 1 : Nat) = k + 1 by omega)))⟩ d_hash_438
              | succ n23 ih25 =>
                intro i24 B27 x28 x29 x30 x31 x32 H locs ls hii24 hsi24 hB33  Y hl
                refine lv_iload X.1 X.2.1 d_hash_221 (lv_at hl 0 rfl) ?_
                refine lv_bipush (v := (nI 80)) X.1 X.2.1 d_hash_223 (by decide) ?_
                refine lv_icmp_ge (tgt := 385) X.1 X.2.1 d_hash_225 (by decide) (fun c50 => absurd c50 ?_) (fun c50 => ?_)
                · (rw [nI_leI (by omega) (by omega)] <;> omega)
                rw [nI_leI (by omega) (by omega)] at c50
                have jn52 : ∀ w51 : Int32, W p l e (mR 1 21) s m AV below meth c H locs 0 0 QQ (F0 m 288 ls [.int w51]) := by
                  intro w51
                  refine lv_istore (lv' := [(8, .int w51), (7, .int (nI i24)), (6, .int x32), (5, .int x31), (4, .int x30), (3, .int x29), (2, .int x28), (0, .ref h), (1, .int a1)]) X.1 X.2.1 d_hash_288 hl (by decide) rfl (fun ls hl => ?_)
                  have jn54 : ∀ w53 : Int32, W p l e (mR 1 21) s m AV below meth c H locs 0 0 QQ (F0 m 332 ls [.int w53]) := by
                    intro w53
                    refine lv_istore (lv' := [(9, .int w53), (8, .int w51), (7, .int (nI i24)), (6, .int x32), (5, .int x31), (4, .int x30), (3, .int x29), (2, .int x28), (0, .ref h), (1, .int a1)]) X.1 X.2.1 d_hash_332 hl (by decide) rfl (fun ls hl => ?_)
                    refine lv_iload_n X.1 X.2.1 d_hash_334 rfl (lv_at hl 7 rfl) ?_
                    refine lv_iconst (v := (nI 5)) X.1 X.2.1 d_hash_335 (by decide) ?_
                    refine p_calli (As := [.int x28, .int (nI 5)]) (rest := []) (n := 2) X Y hml hl.1 (c_left l x28 (nI 5)) kl_left ks_left ki_left ini_M (by decide +kernel) ⟨by decide, by decide⟩ rfl (Nat.le_of_ble_eq_true rfl) d_hash_336 ⟨Nat.le_refl _, Nat.le_refl _⟩ (fun r55 H locs hpr55 Y => ?_)
                    refine lv_iload X.1 X.2.1 d_hash_339 (lv_at hl 1 rfl) ?_
                    refine lv_iadd X.1 X.2.1 d_hash_341 ?_
                    refine t_any (fun v56 => ?_)
                    refine lv_iload X.1 X.2.1 d_hash_342 (lv_at hl 3 rfl) ?_
                    refine lv_iadd X.1 X.2.1 d_hash_344 ?_
                    refine t_any (fun v57 => ?_)
                    refine lv_iload X.1 X.2.1 d_hash_345 (lv_at hl 0 rfl) ?_
                    refine lv_iadd X.1 X.2.1 d_hash_347 ?_
                    refine t_any (fun v58 => ?_)
                    refine lv_aload_n X.1 X.2.1 d_hash_348 rfl (lv_at hl 8 rfl) ?_
                    refine m_get X Y 6 (by decide) lk_w (gf_w _ _ _) rfl d_hash_349 ?_
                    refine lv_iload X.1 X.2.1 d_hash_352 (lv_at hl 2 rfl) ?_
                    refine m_iald X Y (aw_w _ _ _ _ _ _ _) (vp_in_nI (by omega) (by decide)) d_hash_354 ?_
                    refine t_any (fun v59 => ?_)
                    refine lv_iadd X.1 X.2.1 d_hash_355 ?_
                    refine t_any (fun v60 => ?_)
                    refine lv_istore (lv' := [(10, .int v60), (9, .int w53), (8, .int w51), (7, .int (nI i24)), (6, .int x32), (5, .int x31), (4, .int x30), (3, .int x29), (2, .int x28), (0, .ref h), (1, .int a1)]) X.1 X.2.1 d_hash_356 hl (by decide) rfl (fun ls hl => ?_)
                    refine lv_iload X.1 X.2.1 d_hash_358 (lv_at hl 5 rfl) ?_
                    refine lv_istore (lv' := [(6, .int x31), (10, .int v60), (9, .int w53), (8, .int w51), (7, .int (nI i24)), (5, .int x31), (4, .int x30), (3, .int x29), (2, .int x28), (0, .ref h), (1, .int a1)]) X.1 X.2.1 d_hash_360 hl (by decide) rfl (fun ls hl => ?_)
                    refine lv_iload X.1 X.2.1 d_hash_362 (lv_at hl 6 rfl) ?_
                    refine lv_istore (lv' := [(5, .int x30), (6, .int x31), (10, .int v60), (9, .int w53), (8, .int w51), (7, .int (nI i24)), (4, .int x30), (3, .int x29), (2, .int x28), (0, .ref h), (1, .int a1)]) X.1 X.2.1 d_hash_364 hl (by decide) rfl (fun ls hl => ?_)
                    refine lv_iload_n X.1 X.2.1 d_hash_366 rfl (lv_at hl 7 rfl) ?_
                    refine lv_bipush (v := (nI 30)) X.1 X.2.1 d_hash_367 (by decide) ?_
                    refine p_calli (As := [.int x29, .int (nI 30)]) (rest := []) (n := 2) X Y hml hl.1 (c_left l x29 (nI 30)) kl_left ks_left ki_left ini_M (by decide +kernel) ⟨by decide, by decide⟩ rfl (Nat.le_of_ble_eq_true rfl) d_hash_369 ⟨Nat.le_refl _, Nat.le_refl _⟩ (fun r61 H locs hpr61 Y => ?_)
                    refine lv_istore (lv' := [(4, .int r61), (5, .int x30), (6, .int x31), (10, .int v60), (9, .int w53), (8, .int w51), (7, .int (nI i24)), (3, .int x29), (2, .int x28), (0, .ref h), (1, .int a1)]) X.1 X.2.1 d_hash_372 hl (by decide) rfl (fun ls hl => ?_)
                    refine lv_iload_n X.1 X.2.1 d_hash_374 rfl (lv_at hl 8 rfl) ?_
                    refine lv_istore_n (lv' := [(3, .int x28), (4, .int r61), (5, .int x30), (6, .int x31), (10, .int v60), (9, .int w53), (8, .int w51), (7, .int (nI i24)), (2, .int x28), (0, .ref h), (1, .int a1)]) X.1 X.2.1 d_hash_375 rfl hl (by decide) rfl (fun ls hl => ?_)
                    refine lv_iload X.1 X.2.1 d_hash_376 (lv_at hl 4 rfl) ?_
                    refine lv_istore_n (lv' := [(2, .int v60), (3, .int x28), (4, .int r61), (5, .int x30), (6, .int x31), (10, .int v60), (9, .int w53), (8, .int w51), (7, .int (nI i24)), (0, .ref h), (1, .int a1)]) X.1 X.2.1 d_hash_378 rfl hl (by decide) rfl (fun ls hl => ?_)
                    refine lv_iinc (v := (nI (i24 + 1))) (lv' := [(7, .int (nI (i24 + 1))), (2, .int v60), (3, .int x28), (4, .int r61), (5, .int x30), (6, .int x31), (10, .int v60), (9, .int w53), (8, .int w51), (0, .ref h), (1, .int a1)]) X.1 X.2.1 d_hash_379 hl (k := 8) rfl (nI_add _ 1) (by decide) rfl (fun ls hl => ?_)
                    refine lv_goto (tgt := 221) X.1 X.2.1 d_hash_382 (by decide) ?_
                    exact ih25 (i24 + 1) B27 (v60) (x28) (r61) (x30) (x31) _ _ _ (by omega) (by omega) (fun j h5 h6 h7 => (hB33 j h5 h6 h7))  Y (lv_sub hl [0, 5, 4, 3, 2, 1, 9, 10] rfl)
                  refine lv_iload X.1 X.2.1 d_hash_290 (lv_at hl 1 rfl) ?_
                  refine lv_bipush (v := (nI 20)) X.1 X.2.1 d_hash_292 (by decide) ?_
                  refine lv_icmp_ge (tgt := 303) X.1 X.2.1 d_hash_294 (by decide) (fun c62 => ?_) (fun c62 => ?_)
                  · skip
                    rw [nI_leI (by omega) (by omega)] at c62
                    refine lv_iload X.1 X.2.1 d_hash_303 (lv_at hl 1 rfl) ?_
                    refine lv_bipush (v := (nI 40)) X.1 X.2.1 d_hash_305 (by decide) ?_
                    refine lv_icmp_ge (tgt := 316) X.1 X.2.1 d_hash_307 (by decide) (fun c63 => ?_) (fun c63 => ?_)
                    · skip
                      rw [nI_leI (by omega) (by omega)] at c63
                      refine lv_iload X.1 X.2.1 d_hash_316 (lv_at hl 1 rfl) ?_
                      refine lv_bipush (v := (nI 60)) X.1 X.2.1 d_hash_318 (by decide) ?_
                      refine lv_icmp_ge (tgt := 329) X.1 X.2.1 d_hash_320 (by decide) (fun c64 => ?_) (fun c64 => ?_)
                      · skip
                        rw [nI_leI (by omega) (by omega)] at c64
                        refine lv_ldcw (v := (-899497514)) X.1 X.2.1 X.2.2.2.1 (X.2.2.1 _ cn_367) d_hash_329 ?_
                        exact jn54 _
                      · skip
                        rw [nI_leI (by omega) (by omega)] at c64
                        refine lv_ldcw (v := (-1894007588)) X.1 X.2.1 X.2.2.2.1 (X.2.2.1 _ cn_366) d_hash_323 ?_
                        refine lv_goto (tgt := 332) X.1 X.2.1 d_hash_326 (by decide) ?_
                        exact jn54 _
                    · skip
                      rw [nI_leI (by omega) (by omega)] at c63
                      refine lv_ldcw (v := (1859775393)) X.1 X.2.1 X.2.2.2.1 (X.2.2.1 _ cn_365) d_hash_310 ?_
                      refine t_eq (y := nI 1859775393) (by decide) ?_
                      refine lv_goto (tgt := 332) X.1 X.2.1 d_hash_313 (by decide) ?_
                      exact jn54 _
                  · skip
                    rw [nI_leI (by omega) (by omega)] at c62
                    refine lv_ldcw (v := (1518500249)) X.1 X.2.1 X.2.2.2.1 (X.2.2.1 _ cn_364) d_hash_297 ?_
                    refine t_eq (y := nI 1518500249) (by decide) ?_
                    refine lv_goto (tgt := 332) X.1 X.2.1 d_hash_300 (by decide) ?_
                    exact jn54 _
                refine lv_iload X.1 X.2.1 d_hash_228 (lv_at hl 0 rfl) ?_
                refine lv_bipush (v := (nI 20)) X.1 X.2.1 d_hash_230 (by decide) ?_
                refine lv_icmp_ge (tgt := 249) X.1 X.2.1 d_hash_232 (by decide) (fun c65 => ?_) (fun c65 => ?_)
                · skip
                  rw [nI_leI (by omega) (by omega)] at c65
                  refine lv_iload X.1 X.2.1 d_hash_249 (lv_at hl 0 rfl) ?_
                  refine lv_bipush (v := (nI 40)) X.1 X.2.1 d_hash_251 (by decide) ?_
                  refine lv_icmp_lt (tgt := 263) X.1 X.2.1 d_hash_253 (by decide) (fun c66 => ?_) (fun c66 => ?_)
                  · skip
                    rw [nI_ltI (by omega) (by omega)] at c66
                    refine lv_iload_n X.1 X.2.1 d_hash_263 rfl (lv_at hl 4 rfl) ?_
                    refine lv_iload X.1 X.2.1 d_hash_264 (lv_at hl 3 rfl) ?_
                    refine lv_ixor X.1 X.2.1 d_hash_266 ?_
                    refine t_any (fun v67 => ?_)
                    refine lv_iload X.1 X.2.1 d_hash_267 (lv_at hl 2 rfl) ?_
                    refine lv_ixor X.1 X.2.1 d_hash_269 ?_
                    refine t_any (fun v68 => ?_)
                    refine lv_goto (tgt := 288) X.1 X.2.1 d_hash_270 (by decide) ?_
                    exact jn52 _
                  · skip
                    rw [nI_ltI (by omega) (by omega)] at c66
                    refine lv_iload X.1 X.2.1 d_hash_256 (lv_at hl 0 rfl) ?_
                    refine lv_bipush (v := (nI 59)) X.1 X.2.1 d_hash_258 (by decide) ?_
                    refine lv_icmp_le (tgt := 273) X.1 X.2.1 d_hash_260 (by decide) (fun c69 => ?_) (fun c69 => ?_)
                    · skip
                      rw [nI_leI (by omega) (by omega)] at c69
                      refine lv_iload_n X.1 X.2.1 d_hash_273 rfl (lv_at hl 4 rfl) ?_
                      refine lv_iload X.1 X.2.1 d_hash_274 (lv_at hl 3 rfl) ?_
                      refine lv_iand X.1 X.2.1 d_hash_276 ?_
                      refine t_any (fun v70 => ?_)
                      refine lv_iload_n X.1 X.2.1 d_hash_277 rfl (lv_at hl 4 rfl) ?_
                      refine lv_iload X.1 X.2.1 d_hash_278 (lv_at hl 2 rfl) ?_
                      refine lv_iand X.1 X.2.1 d_hash_280 ?_
                      refine t_any (fun v71 => ?_)
                      refine lv_ior X.1 X.2.1 d_hash_281 ?_
                      refine t_any (fun v72 => ?_)
                      refine lv_iload X.1 X.2.1 d_hash_282 (lv_at hl 3 rfl) ?_
                      refine lv_iload X.1 X.2.1 d_hash_284 (lv_at hl 2 rfl) ?_
                      refine lv_iand X.1 X.2.1 d_hash_286 ?_
                      refine t_any (fun v73 => ?_)
                      refine lv_ior X.1 X.2.1 d_hash_287 ?_
                      refine t_any (fun v74 => ?_)
                      exact jn52 _
                    · skip
                      rw [nI_leI (by omega) (by omega)] at c69
                      refine lv_iload_n X.1 X.2.1 d_hash_263 rfl (lv_at hl 4 rfl) ?_
                      refine lv_iload X.1 X.2.1 d_hash_264 (lv_at hl 3 rfl) ?_
                      refine lv_ixor X.1 X.2.1 d_hash_266 ?_
                      refine t_any (fun v75 => ?_)
                      refine lv_iload X.1 X.2.1 d_hash_267 (lv_at hl 2 rfl) ?_
                      refine lv_ixor X.1 X.2.1 d_hash_269 ?_
                      refine t_any (fun v76 => ?_)
                      refine lv_goto (tgt := 288) X.1 X.2.1 d_hash_270 (by decide) ?_
                      exact jn52 _
                · skip
                  rw [nI_leI (by omega) (by omega)] at c65
                  refine lv_iload_n X.1 X.2.1 d_hash_235 rfl (lv_at hl 4 rfl) ?_
                  refine lv_iload X.1 X.2.1 d_hash_236 (lv_at hl 3 rfl) ?_
                  refine lv_iand X.1 X.2.1 d_hash_238 ?_
                  refine t_any (fun v77 => ?_)
                  refine lv_iload_n X.1 X.2.1 d_hash_239 rfl (lv_at hl 4 rfl) ?_
                  refine lv_iconst (v := (-1)) X.1 X.2.1 d_hash_240 (by decide) ?_
                  refine lv_ixor X.1 X.2.1 d_hash_241 ?_
                  refine t_any (fun v78 => ?_)
                  refine lv_iload X.1 X.2.1 d_hash_242 (lv_at hl 2 rfl) ?_
                  refine lv_iand X.1 X.2.1 d_hash_244 ?_
                  refine t_any (fun v79 => ?_)
                  refine lv_ior X.1 X.2.1 d_hash_245 ?_
                  refine t_any (fun v80 => ?_)
                  refine lv_goto (tgt := 288) X.1 X.2.1 d_hash_246 (by decide) ?_
                  exact jn52 _
            exact lp26 (80) 0 B15 (v18) (v19) (v20) (v21) (v22) _ _ _ (by omega) (by omega) (fun j h5 h6 h7 => (hB16 j h5 h6 h7))  Y (lv_sub hl [0, 1, 2, 3, 4, 5, 6, 7] rfl)
          | succ n11 ih13 =>
            intro i12 B15 H locs ls hii12 hsi12 hB16  Y hl
            refine lv_iload_n X.1 X.2.1 d_hash_120 rfl (lv_at hl 0 rfl) ?_
            refine lv_bipush (v := (nI 80)) X.1 X.2.1 d_hash_121 (by decide) ?_
            refine lv_icmp_ge (tgt := 180) X.1 X.2.1 d_hash_123 (by decide) (fun c81 => absurd c81 ?_) (fun c81 => ?_)
            · (rw [nI_leI (by omega) (by omega)] <;> omega)
            rw [nI_leI (by omega) (by omega)] at c81
            refine lv_aload_n X.1 X.2.1 d_hash_126 rfl (lv_at hl 1 rfl) ?_
            refine m_get X Y 6 (by decide) lk_w (gf_w _ _ _) rfl d_hash_127 ?_
            refine lv_iload_n X.1 X.2.1 d_hash_130 rfl (lv_at hl 0 rfl) ?_
            refine lv_aload_n X.1 X.2.1 d_hash_131 rfl (lv_at hl 1 rfl) ?_
            refine m_get X Y 6 (by decide) lk_w (gf_w _ _ _) rfl d_hash_132 ?_
            refine lv_iload_n X.1 X.2.1 d_hash_135 rfl (lv_at hl 0 rfl) ?_
            refine lv_iconst (v := (nI 3)) X.1 X.2.1 d_hash_136 (by decide) ?_
            refine lv_isub X.1 X.2.1 d_hash_137 ?_
            refine t_eq (y := nI (i12 - (3))) (pk_sub (by omega)) ?_
            refine m_iald X Y (aw_w _ _ _ _ _ _ _) (vp_in_nI (by omega) (by decide)) d_hash_138 ?_
            refine t_any (fun v82 => ?_)
            refine lv_aload_n X.1 X.2.1 d_hash_139 rfl (lv_at hl 1 rfl) ?_
            refine m_get X Y 6 (by decide) lk_w (gf_w _ _ _) rfl d_hash_140 ?_
            refine lv_iload_n X.1 X.2.1 d_hash_143 rfl (lv_at hl 0 rfl) ?_
            refine lv_bipush (v := (nI 8)) X.1 X.2.1 d_hash_144 (by decide) ?_
            refine lv_isub X.1 X.2.1 d_hash_146 ?_
            refine t_eq (y := nI (i12 - (8))) (pk_sub (by omega)) ?_
            refine m_iald X Y (aw_w _ _ _ _ _ _ _) (vp_in_nI (by omega) (by decide)) d_hash_147 ?_
            refine t_any (fun v83 => ?_)
            refine lv_ixor X.1 X.2.1 d_hash_148 ?_
            refine t_any (fun v84 => ?_)
            refine lv_aload_n X.1 X.2.1 d_hash_149 rfl (lv_at hl 1 rfl) ?_
            refine m_get X Y 6 (by decide) lk_w (gf_w _ _ _) rfl d_hash_150 ?_
            refine lv_iload_n X.1 X.2.1 d_hash_153 rfl (lv_at hl 0 rfl) ?_
            refine lv_bipush (v := (nI 14)) X.1 X.2.1 d_hash_154 (by decide) ?_
            refine lv_isub X.1 X.2.1 d_hash_156 ?_
            refine t_eq (y := nI (i12 - (14))) (pk_sub (by omega)) ?_
            refine m_iald X Y (aw_w _ _ _ _ _ _ _) (vp_in_nI (by omega) (by decide)) d_hash_157 ?_
            refine t_any (fun v85 => ?_)
            refine lv_ixor X.1 X.2.1 d_hash_158 ?_
            refine t_any (fun v86 => ?_)
            refine lv_aload_n X.1 X.2.1 d_hash_159 rfl (lv_at hl 1 rfl) ?_
            refine m_get X Y 6 (by decide) lk_w (gf_w _ _ _) rfl d_hash_160 ?_
            refine lv_iload_n X.1 X.2.1 d_hash_163 rfl (lv_at hl 0 rfl) ?_
            refine lv_bipush (v := (nI 16)) X.1 X.2.1 d_hash_164 (by decide) ?_
            refine lv_isub X.1 X.2.1 d_hash_166 ?_
            refine t_eq (y := nI (i12 - (16))) (pk_sub (by omega)) ?_
            refine m_iald X Y (aw_w _ _ _ _ _ _ _) (vp_in_nI (by omega) (by decide)) d_hash_167 ?_
            refine t_any (fun v87 => ?_)
            refine lv_ixor X.1 X.2.1 d_hash_168 ?_
            refine t_any (fun v88 => ?_)
            refine lv_iconst (v := (nI 1)) X.1 X.2.1 d_hash_169 (by decide) ?_
            refine p_calli (As := [.int v88, .int (nI 1)]) (rest := [.int (nI i12), .ref (q 6)]) (n := 2) X Y hml hl.1 (c_left l v88 (nI 1)) kl_left ks_left ki_left ini_M (by decide +kernel) ⟨by decide, by decide⟩ rfl (Nat.le_of_ble_eq_true rfl) d_hash_170 ⟨Nat.le_refl _, Nat.le_refl _⟩ (fun r89 H locs hpr89 Y => ?_)
            refine m_iast X Y (aw_w _ _ _ _ _ _ _) (vp_in_nI (by omega) (by decide)) (sw_w _ _ _ _ _ _ _ _) d_hash_173 (fun H locs Y => ?_)
            generalize (upd (B15 6) ((nI i12)).toNatClampNeg r89) = f90 at Y
            refine lv_iinc (v := (nI (i12 + 1))) (lv' := [(2, .int (nI (i12 + 1))), (0, .ref h), (1, .int a1)]) X.1 X.2.1 d_hash_174 hl (k := 0) rfl (nI_add _ 1) (by decide) rfl (fun ls hl => ?_)
            refine lv_goto (tgt := 120) X.1 X.2.1 d_hash_177 (by decide) ?_
            exact ih13 (i12 + 1) (upB B15 6 f90) _ _ _ (by omega) (by omega) (fun j h5 h6 h7 => ((if_neg h6).trans (hB16 j h5 h6 h7)))  Y (lv_sub hl [0, 1, 2] rfl)
        exact lp14 (80 - 16) 16 B8 _ _ _ (by omega) (by omega) (fun j h5 h6 h7 => (hB9 j h5 h6 h7))  Y (lv_sub hl [0, 1, 2] rfl)
      | succ n4 ih6 =>
        intro i5 B8 H locs ls hii5 hsi5 hB9  Y hl
        refine lv_iload_n X.1 X.2.1 d_hash_37 rfl (lv_at hl 0 rfl) ?_
        refine lv_bipush (v := (nI 16)) X.1 X.2.1 d_hash_38 (by decide) ?_
        refine lv_icmp_ge (tgt := 117) X.1 X.2.1 d_hash_40 (by decide) (fun c91 => absurd c91 ?_) (fun c91 => ?_)
        · (rw [nI_leI (by omega) (by omega)] <;> omega)
        rw [nI_leI (by omega) (by omega)] at c91
        refine lv_aload_n X.1 X.2.1 d_hash_43 rfl (lv_at hl 1 rfl) ?_
        refine m_get X Y 6 (by decide) lk_w (gf_w _ _ _) rfl d_hash_44 ?_
        refine lv_iload_n X.1 X.2.1 d_hash_47 rfl (lv_at hl 0 rfl) ?_
        refine lv_aload_n X.1 X.2.1 d_hash_48 rfl (lv_at hl 1 rfl) ?_
        refine m_get X Y 7 (by decide) lk_block (gf_block _ _ _) rfl d_hash_49 ?_
        refine lv_iconst (v := (nI 4)) X.1 X.2.1 d_hash_52 (by decide) ?_
        refine lv_iload_n X.1 X.2.1 d_hash_53 rfl (lv_at hl 0 rfl) ?_
        refine lv_imul X.1 X.2.1 d_hash_54 ?_
        refine t_eq (y := nI ((4) * (i5))) (pk_mul _ _) ?_
        refine m_bald X Y (aw_block _ _ _ _ _ _ _) (vp_in_nI (by omega) (by decide)) d_hash_55 ?_
        refine t_any (fun v92 => ?_)
        refine lv_bipush (v := (nI 24)) X.1 X.2.1 d_hash_56 (by decide) ?_
        refine lv_ishl X.1 X.2.1 d_hash_58 ?_
        refine t_any (fun v93 => ?_)
        refine lv_aload_n X.1 X.2.1 d_hash_59 rfl (lv_at hl 1 rfl) ?_
        refine m_get X Y 7 (by decide) lk_block (gf_block _ _ _) rfl d_hash_60 ?_
        refine lv_iconst (v := (nI 4)) X.1 X.2.1 d_hash_63 (by decide) ?_
        refine lv_iload_n X.1 X.2.1 d_hash_64 rfl (lv_at hl 0 rfl) ?_
        refine lv_imul X.1 X.2.1 d_hash_65 ?_
        refine t_eq (y := nI ((4) * (i5))) (pk_mul _ _) ?_
        refine lv_iconst (v := (nI 1)) X.1 X.2.1 d_hash_66 (by decide) ?_
        refine lv_iadd X.1 X.2.1 d_hash_67 ?_
        refine t_eq (y := nI ((4) * (i5) + 1)) (nI_add _ _) ?_
        refine m_bald X Y (aw_block _ _ _ _ _ _ _) (vp_in_nI (by omega) (by decide)) d_hash_68 ?_
        refine t_any (fun v94 => ?_)
        refine lv_sipush (v := (nI 255)) X.1 X.2.1 d_hash_69 (by decide) ?_
        refine lv_iand X.1 X.2.1 d_hash_72 ?_
        obtain ⟨j95, hj95, ej95⟩ := pk_andE v94 (m := nI 255) 8 (by decide)
        refine t_eq ej95 ?_
        have hj95 : j95 < 256 := hj95
        refine lv_bipush (v := (nI 16)) X.1 X.2.1 d_hash_73 (by decide) ?_
        refine lv_ishl X.1 X.2.1 d_hash_75 ?_
        refine t_any (fun v96 => ?_)
        refine lv_ior X.1 X.2.1 d_hash_76 ?_
        refine t_any (fun v97 => ?_)
        refine lv_aload_n X.1 X.2.1 d_hash_77 rfl (lv_at hl 1 rfl) ?_
        refine m_get X Y 7 (by decide) lk_block (gf_block _ _ _) rfl d_hash_78 ?_
        refine lv_iconst (v := (nI 4)) X.1 X.2.1 d_hash_81 (by decide) ?_
        refine lv_iload_n X.1 X.2.1 d_hash_82 rfl (lv_at hl 0 rfl) ?_
        refine lv_imul X.1 X.2.1 d_hash_83 ?_
        refine t_eq (y := nI ((4) * (i5))) (pk_mul _ _) ?_
        refine lv_iconst (v := (nI 2)) X.1 X.2.1 d_hash_84 (by decide) ?_
        refine lv_iadd X.1 X.2.1 d_hash_85 ?_
        refine t_eq (y := nI ((4) * (i5) + 2)) (nI_add _ _) ?_
        refine m_bald X Y (aw_block _ _ _ _ _ _ _) (vp_in_nI (by omega) (by decide)) d_hash_86 ?_
        refine t_any (fun v98 => ?_)
        refine lv_sipush (v := (nI 255)) X.1 X.2.1 d_hash_87 (by decide) ?_
        refine lv_iand X.1 X.2.1 d_hash_90 ?_
        obtain ⟨j99, hj99, ej99⟩ := pk_andE v98 (m := nI 255) 8 (by decide)
        refine t_eq ej99 ?_
        have hj99 : j99 < 256 := hj99
        refine lv_bipush (v := (nI 8)) X.1 X.2.1 d_hash_91 (by decide) ?_
        refine lv_ishl X.1 X.2.1 d_hash_93 ?_
        refine t_any (fun v100 => ?_)
        refine lv_ior X.1 X.2.1 d_hash_94 ?_
        refine t_any (fun v101 => ?_)
        refine lv_aload_n X.1 X.2.1 d_hash_95 rfl (lv_at hl 1 rfl) ?_
        refine m_get X Y 7 (by decide) lk_block (gf_block _ _ _) rfl d_hash_96 ?_
        refine lv_iconst (v := (nI 4)) X.1 X.2.1 d_hash_99 (by decide) ?_
        refine lv_iload_n X.1 X.2.1 d_hash_100 rfl (lv_at hl 0 rfl) ?_
        refine lv_imul X.1 X.2.1 d_hash_101 ?_
        refine t_eq (y := nI ((4) * (i5))) (pk_mul _ _) ?_
        refine lv_iconst (v := (nI 3)) X.1 X.2.1 d_hash_102 (by decide) ?_
        refine lv_iadd X.1 X.2.1 d_hash_103 ?_
        refine t_eq (y := nI ((4) * (i5) + 3)) (nI_add _ _) ?_
        refine m_bald X Y (aw_block _ _ _ _ _ _ _) (vp_in_nI (by omega) (by decide)) d_hash_104 ?_
        refine t_any (fun v102 => ?_)
        refine lv_sipush (v := (nI 255)) X.1 X.2.1 d_hash_105 (by decide) ?_
        refine lv_iand X.1 X.2.1 d_hash_108 ?_
        obtain ⟨j103, hj103, ej103⟩ := pk_andE v102 (m := nI 255) 8 (by decide)
        refine t_eq ej103 ?_
        have hj103 : j103 < 256 := hj103
        refine lv_ior X.1 X.2.1 d_hash_109 ?_
        refine t_any (fun v104 => ?_)
        refine m_iast X Y (aw_w _ _ _ _ _ _ _) (vp_in_nI (by omega) (by decide)) (sw_w _ _ _ _ _ _ _ _) d_hash_110 (fun H locs Y => ?_)
        generalize (upd (B8 6) ((nI i5)).toNatClampNeg v104) = f105 at Y
        refine lv_iinc (v := (nI (i5 + 1))) (lv' := [(2, .int (nI (i5 + 1))), (0, .ref h), (1, .int a1)]) X.1 X.2.1 d_hash_111 hl (k := 0) rfl (nI_add _ 1) (by decide) rfl (fun ls hl => ?_)
        refine lv_goto (tgt := 37) X.1 X.2.1 d_hash_114 (by decide) ?_
        exact ih6 (i5 + 1) (upB B8 6 f105) _ _ _ (by omega) (by omega) (fun j h5 h6 h7 => ((if_neg h6).trans (hB9 j h5 h6 h7)))  Y (lv_sub hl [0, 1, 2] rfl)
    exact lp7 (16) 0 (upB B 7 f2) _ _ _ (by omega) (by omega) (fun j h5 h6 h7 => ((if_neg h7).trans rfl))  Y (lv_sub hl [0, 1, 2] rfl)
  · skip
    rw [← nI_0] at c3
    rw [nI_eq (by omega) (by omega)] at c3
    exact m_retv hQQ X Y hr hlk ⟨(fun j h8 => ((if_neg h8).trans rfl)), rfl, (fun j h5 h6 h7 => ((if_neg h7).trans rfl)), rfl, (show (upd I 8 (nI (k + 1))) 8 = nI (k + 1) from (show (upd I 8 (nI (k + 1))) 8 = nI (k + 1) from pk_us).trans (congrArg nI (show (k + 1 : Nat) = k + 1 by omega)))⟩ d_hash_34
end
section
abbrev b_finish : ByteArray := prog_14_method_11_code
def y_finish : MethodName := ⟨R_M, "finish", "([B)V"⟩
abbrev k_finish : Cond := .code y_finish b_finish 5 none
theorem ki_finish : k_finish ∈ lw_tg := in_t 1828 (by decide +kernel)
theorem ks_finish : Cond.instanceMethod y_finish ∈ lw_tg := in_t 1827 (by decide +kernel)
theorem kl_finish : Cond.methodLink R_M 377 y_finish ∈ lw_tg := in_t 1825 (by decide +kernel)
theorem d_finish_0 : decode b_finish 0 = .ok (.ldc2_w 368, 3) := by decide +kernel
theorem d_finish_3 : decode b_finish 3 = .ok (.aload_n 0, 1) := by decide +kernel
theorem d_finish_4 : decode b_finish 4 = .ok (.getfield 357, 3) := by decide +kernel
theorem d_finish_7 : decode b_finish 7 = .ok (.i2l, 1) := by decide +kernel
theorem d_finish_8 : decode b_finish 8 = .ok (.lmul, 1) := by decide +kernel
theorem d_finish_9 : decode b_finish 9 = .ok (.lstore_n 2, 1) := by decide +kernel
theorem d_finish_10 : decode b_finish 10 = .ok (.aload_n 0, 1) := by decide +kernel
theorem d_finish_11 : decode b_finish 11 = .ok (.sipush 128, 3) := by decide +kernel
theorem d_finish_14 : decode b_finish 14 = .ok (.invokevirtual 370, 3) := by decide +kernel
theorem d_finish_17 : decode b_finish 17 = .ok (.aload_n 0, 1) := by decide +kernel
theorem d_finish_18 : decode b_finish 18 = .ok (.getfield 357, 3) := by decide +kernel
theorem d_finish_21 : decode b_finish 21 = .ok (.bipush 64, 2) := by decide +kernel
theorem d_finish_23 : decode b_finish 23 = .ok (.irem, 1) := by decide +kernel
theorem d_finish_24 : decode b_finish 24 = .ok (.bipush 56, 2) := by decide +kernel
theorem d_finish_26 : decode b_finish 26 = .ok (.if_icmp .eq 11, 3) := by decide +kernel
theorem d_finish_29 : decode b_finish 29 = .ok (.aload_n 0, 1) := by decide +kernel
theorem d_finish_30 : decode b_finish 30 = .ok (.iconst 0, 1) := by decide +kernel
theorem d_finish_31 : decode b_finish 31 = .ok (.invokevirtual 370, 3) := by decide +kernel
theorem d_finish_34 : decode b_finish 34 = .ok (.goto (-17), 3) := by decide +kernel
theorem d_finish_37 : decode b_finish 37 = .ok (.bipush 7, 2) := by decide +kernel
theorem d_finish_39 : decode b_finish 39 = .ok (.istore 4, 2) := by decide +kernel
theorem d_finish_41 : decode b_finish 41 = .ok (.iload 4, 2) := by decide +kernel
theorem d_finish_43 : decode b_finish 43 = .ok (.ifCond .lt 21, 3) := by decide +kernel
theorem d_finish_46 : decode b_finish 46 = .ok (.aload_n 0, 1) := by decide +kernel
theorem d_finish_47 : decode b_finish 47 = .ok (.lload_n 2, 1) := by decide +kernel
theorem d_finish_48 : decode b_finish 48 = .ok (.bipush 8, 2) := by decide +kernel
theorem d_finish_50 : decode b_finish 50 = .ok (.iload 4, 2) := by decide +kernel
theorem d_finish_52 : decode b_finish 52 = .ok (.imul, 1) := by decide +kernel
theorem d_finish_53 : decode b_finish 53 = .ok (.lushr, 1) := by decide +kernel
theorem d_finish_54 : decode b_finish 54 = .ok (.l2i, 1) := by decide +kernel
theorem d_finish_55 : decode b_finish 55 = .ok (.invokevirtual 370, 3) := by decide +kernel
theorem d_finish_58 : decode b_finish 58 = .ok (.iinc 4 (-1), 3) := by decide +kernel
theorem d_finish_61 : decode b_finish 61 = .ok (.goto (-20), 3) := by decide +kernel
theorem d_finish_64 : decode b_finish 64 = .ok (.iconst 0, 1) := by decide +kernel
theorem d_finish_65 : decode b_finish 65 = .ok (.istore 4, 2) := by decide +kernel
theorem d_finish_67 : decode b_finish 67 = .ok (.iload 4, 2) := by decide +kernel
theorem d_finish_69 : decode b_finish 69 = .ok (.bipush 20, 2) := by decide +kernel
theorem d_finish_71 : decode b_finish 71 = .ok (.if_icmp .ge 34, 3) := by decide +kernel
theorem d_finish_74 : decode b_finish 74 = .ok (.aload_n 1, 1) := by decide +kernel
theorem d_finish_75 : decode b_finish 75 = .ok (.iload 4, 2) := by decide +kernel
theorem d_finish_77 : decode b_finish 77 = .ok (.aload_n 0, 1) := by decide +kernel
theorem d_finish_78 : decode b_finish 78 = .ok (.getfield 22, 3) := by decide +kernel
theorem d_finish_81 : decode b_finish 81 = .ok (.iload 4, 2) := by decide +kernel
theorem d_finish_83 : decode b_finish 83 = .ok (.iconst 4, 1) := by decide +kernel
theorem d_finish_84 : decode b_finish 84 = .ok (.idiv, 1) := by decide +kernel
theorem d_finish_85 : decode b_finish 85 = .ok (.iaload, 1) := by decide +kernel
theorem d_finish_86 : decode b_finish 86 = .ok (.bipush 24, 2) := by decide +kernel
theorem d_finish_88 : decode b_finish 88 = .ok (.bipush 8, 2) := by decide +kernel
theorem d_finish_90 : decode b_finish 90 = .ok (.iload 4, 2) := by decide +kernel
theorem d_finish_92 : decode b_finish 92 = .ok (.iconst 4, 1) := by decide +kernel
theorem d_finish_93 : decode b_finish 93 = .ok (.irem, 1) := by decide +kernel
theorem d_finish_94 : decode b_finish 94 = .ok (.imul, 1) := by decide +kernel
theorem d_finish_95 : decode b_finish 95 = .ok (.isub, 1) := by decide +kernel
theorem d_finish_96 : decode b_finish 96 = .ok (.iushr, 1) := by decide +kernel
theorem d_finish_97 : decode b_finish 97 = .ok (.i2b, 1) := by decide +kernel
theorem d_finish_98 : decode b_finish 98 = .ok (.bastore, 1) := by decide +kernel
theorem d_finish_99 : decode b_finish 99 = .ok (.iinc 4 1, 3) := by decide +kernel
theorem d_finish_102 : decode b_finish 102 = .ok (.goto (-35), 3) := by decide +kernel
theorem d_finish_105 : decode b_finish 105 = .ok (.return_, 1) := by decide +kernel
abbrev b_macKey : ByteArray := prog_14_method_12_code
def y_macKey : MethodName := ⟨R_M, "macKey", "([BI)V"⟩
abbrev k_macKey : Cond := .code y_macKey b_macKey 4 none
theorem ki_macKey : k_macKey ∈ lw_tg := in_t 1804 (by decide +kernel)
theorem ks_macKey : Cond.instanceMethod y_macKey ∈ lw_tg := in_t 1803 (by decide +kernel)
theorem kl_macKey : Cond.methodLink R_M 421 y_macKey ∈ lw_tg := in_t 1801 (by decide +kernel)
theorem d_macKey_0 : decode b_macKey 0 = .ok (.iconst 0, 1) := by decide +kernel
theorem d_macKey_1 : decode b_macKey 1 = .ok (.istore_n 3, 1) := by decide +kernel
theorem d_macKey_2 : decode b_macKey 2 = .ok (.iload_n 3, 1) := by decide +kernel
theorem d_macKey_3 : decode b_macKey 3 = .ok (.bipush 64, 2) := by decide +kernel
theorem d_macKey_5 : decode b_macKey 5 = .ok (.if_icmp .ge 33, 3) := by decide +kernel
theorem d_macKey_8 : decode b_macKey 8 = .ok (.aload_n 0, 1) := by decide +kernel
theorem d_macKey_9 : decode b_macKey 9 = .ok (.getfield 38, 3) := by decide +kernel
theorem d_macKey_12 : decode b_macKey 12 = .ok (.iload_n 3, 1) := by decide +kernel
theorem d_macKey_13 : decode b_macKey 13 = .ok (.iload_n 2, 1) := by decide +kernel
theorem d_macKey_14 : decode b_macKey 14 = .ok (.bipush 64, 2) := by decide +kernel
theorem d_macKey_16 : decode b_macKey 16 = .ok (.if_icmp .gt 14, 3) := by decide +kernel
theorem d_macKey_19 : decode b_macKey 19 = .ok (.iload_n 3, 1) := by decide +kernel
theorem d_macKey_20 : decode b_macKey 20 = .ok (.iload_n 2, 1) := by decide +kernel
theorem d_macKey_21 : decode b_macKey 21 = .ok (.if_icmp .ge 9, 3) := by decide +kernel
theorem d_macKey_24 : decode b_macKey 24 = .ok (.aload_n 1, 1) := by decide +kernel
theorem d_macKey_25 : decode b_macKey 25 = .ok (.iload_n 3, 1) := by decide +kernel
theorem d_macKey_26 : decode b_macKey 26 = .ok (.baload, 1) := by decide +kernel
theorem d_macKey_27 : decode b_macKey 27 = .ok (.goto 4, 3) := by decide +kernel
theorem d_macKey_30 : decode b_macKey 30 = .ok (.iconst 0, 1) := by decide +kernel
theorem d_macKey_31 : decode b_macKey 31 = .ok (.bastore, 1) := by decide +kernel
theorem d_macKey_32 : decode b_macKey 32 = .ok (.iinc 3 1, 3) := by decide +kernel
theorem d_macKey_35 : decode b_macKey 35 = .ok (.goto (-33), 3) := by decide +kernel
theorem d_macKey_38 : decode b_macKey 38 = .ok (.iload_n 2, 1) := by decide +kernel
theorem d_macKey_39 : decode b_macKey 39 = .ok (.bipush 64, 2) := by decide +kernel
theorem d_macKey_41 : decode b_macKey 41 = .ok (.if_icmp .gt 4, 3) := by decide +kernel
theorem d_macKey_44 : decode b_macKey 44 = .ok (.return_, 1) := by decide +kernel
theorem d_macKey_45 : decode b_macKey 45 = .ok (.aload_n 0, 1) := by decide +kernel
theorem d_macKey_46 : decode b_macKey 46 = .ok (.invokevirtual 374, 3) := by decide +kernel
theorem d_macKey_49 : decode b_macKey 49 = .ok (.iconst 0, 1) := by decide +kernel
theorem d_macKey_50 : decode b_macKey 50 = .ok (.istore_n 3, 1) := by decide +kernel
theorem d_macKey_51 : decode b_macKey 51 = .ok (.iload_n 3, 1) := by decide +kernel
theorem d_macKey_52 : decode b_macKey 52 = .ok (.iload_n 2, 1) := by decide +kernel
theorem d_macKey_53 : decode b_macKey 53 = .ok (.if_icmp .ge 16, 3) := by decide +kernel
theorem d_macKey_56 : decode b_macKey 56 = .ok (.aload_n 0, 1) := by decide +kernel
theorem d_macKey_57 : decode b_macKey 57 = .ok (.aload_n 1, 1) := by decide +kernel
theorem d_macKey_58 : decode b_macKey 58 = .ok (.iload_n 3, 1) := by decide +kernel
theorem d_macKey_59 : decode b_macKey 59 = .ok (.baload, 1) := by decide +kernel
theorem d_macKey_60 : decode b_macKey 60 = .ok (.invokevirtual 370, 3) := by decide +kernel
theorem d_macKey_63 : decode b_macKey 63 = .ok (.iinc 3 1, 3) := by decide +kernel
theorem d_macKey_66 : decode b_macKey 66 = .ok (.goto (-15), 3) := by decide +kernel
theorem d_macKey_69 : decode b_macKey 69 = .ok (.aload_n 0, 1) := by decide +kernel
theorem d_macKey_70 : decode b_macKey 70 = .ok (.aload_n 0, 1) := by decide +kernel
theorem d_macKey_71 : decode b_macKey 71 = .ok (.getfield 32, 3) := by decide +kernel
theorem d_macKey_74 : decode b_macKey 74 = .ok (.invokevirtual 377, 3) := by decide +kernel
theorem d_macKey_77 : decode b_macKey 77 = .ok (.iconst 0, 1) := by decide +kernel
theorem d_macKey_78 : decode b_macKey 78 = .ok (.istore_n 3, 1) := by decide +kernel
theorem d_macKey_79 : decode b_macKey 79 = .ok (.iload_n 3, 1) := by decide +kernel
theorem d_macKey_80 : decode b_macKey 80 = .ok (.bipush 20, 2) := by decide +kernel
theorem d_macKey_82 : decode b_macKey 82 = .ok (.if_icmp .ge 21, 3) := by decide +kernel
theorem d_macKey_85 : decode b_macKey 85 = .ok (.aload_n 0, 1) := by decide +kernel
theorem d_macKey_86 : decode b_macKey 86 = .ok (.getfield 38, 3) := by decide +kernel
theorem d_macKey_89 : decode b_macKey 89 = .ok (.iload_n 3, 1) := by decide +kernel
theorem d_macKey_90 : decode b_macKey 90 = .ok (.aload_n 0, 1) := by decide +kernel
theorem d_macKey_91 : decode b_macKey 91 = .ok (.getfield 32, 3) := by decide +kernel
theorem d_macKey_94 : decode b_macKey 94 = .ok (.iload_n 3, 1) := by decide +kernel
theorem d_macKey_95 : decode b_macKey 95 = .ok (.baload, 1) := by decide +kernel
theorem d_macKey_96 : decode b_macKey 96 = .ok (.bastore, 1) := by decide +kernel
theorem d_macKey_97 : decode b_macKey 97 = .ok (.iinc 3 1, 3) := by decide +kernel
theorem d_macKey_100 : decode b_macKey 100 = .ok (.goto (-21), 3) := by decide +kernel
theorem d_macKey_103 : decode b_macKey 103 = .ok (.return_, 1) := by decide +kernel
abbrev b_macBegin : ByteArray := prog_14_method_13_code
def y_macBegin : MethodName := ⟨R_M, "macBegin", "()V"⟩
abbrev k_macBegin : Cond := .code y_macBegin b_macBegin 2 none
theorem ki_macBegin : k_macBegin ∈ lw_tg := in_t 1833 (by decide +kernel)
theorem ks_macBegin : Cond.instanceMethod y_macBegin ∈ lw_tg := in_t 1832 (by decide +kernel)
theorem kl_macBegin : Cond.methodLink R_M 423 y_macBegin ∈ lw_tg := in_t 1830 (by decide +kernel)
theorem d_macBegin_0 : decode b_macBegin 0 = .ok (.aload_n 0, 1) := by decide +kernel
theorem d_macBegin_1 : decode b_macBegin 1 = .ok (.invokevirtual 374, 3) := by decide +kernel
theorem d_macBegin_4 : decode b_macBegin 4 = .ok (.iconst 0, 1) := by decide +kernel
theorem d_macBegin_5 : decode b_macBegin 5 = .ok (.istore_n 1, 1) := by decide +kernel
theorem d_macBegin_6 : decode b_macBegin 6 = .ok (.iload_n 1, 1) := by decide +kernel
theorem d_macBegin_7 : decode b_macBegin 7 = .ok (.bipush 64, 2) := by decide +kernel
theorem d_macBegin_9 : decode b_macBegin 9 = .ok (.if_icmp .ge 22, 3) := by decide +kernel
theorem d_macBegin_12 : decode b_macBegin 12 = .ok (.aload_n 0, 1) := by decide +kernel
theorem d_macBegin_13 : decode b_macBegin 13 = .ok (.aload_n 0, 1) := by decide +kernel
theorem d_macBegin_14 : decode b_macBegin 14 = .ok (.getfield 38, 3) := by decide +kernel
theorem d_macBegin_17 : decode b_macBegin 17 = .ok (.iload_n 1, 1) := by decide +kernel
theorem d_macBegin_18 : decode b_macBegin 18 = .ok (.baload, 1) := by decide +kernel
theorem d_macBegin_19 : decode b_macBegin 19 = .ok (.bipush 54, 2) := by decide +kernel
theorem d_macBegin_21 : decode b_macBegin 21 = .ok (.ixor, 1) := by decide +kernel
theorem d_macBegin_22 : decode b_macBegin 22 = .ok (.invokevirtual 370, 3) := by decide +kernel
theorem d_macBegin_25 : decode b_macBegin 25 = .ok (.iinc 1 1, 3) := by decide +kernel
theorem d_macBegin_28 : decode b_macBegin 28 = .ok (.goto (-22), 3) := by decide +kernel
theorem d_macBegin_31 : decode b_macBegin 31 = .ok (.return_, 1) := by decide +kernel
abbrev b_macEnd : ByteArray := prog_14_method_14_code
def y_macEnd : MethodName := ⟨R_M, "macEnd", "()V"⟩
abbrev k_macEnd : Cond := .code y_macEnd b_macEnd 2 none
theorem ki_macEnd : k_macEnd ∈ lw_tg := in_t 1837 (by decide +kernel)
theorem ks_macEnd : Cond.instanceMethod y_macEnd ∈ lw_tg := in_t 1836 (by decide +kernel)
theorem kl_macEnd : Cond.methodLink R_M 429 y_macEnd ∈ lw_tg := in_t 1834 (by decide +kernel)
theorem d_macEnd_0 : decode b_macEnd 0 = .ok (.aload_n 0, 1) := by decide +kernel
theorem d_macEnd_1 : decode b_macEnd 1 = .ok (.aload_n 0, 1) := by decide +kernel
theorem d_macEnd_2 : decode b_macEnd 2 = .ok (.getfield 32, 3) := by decide +kernel
theorem d_macEnd_5 : decode b_macEnd 5 = .ok (.invokevirtual 377, 3) := by decide +kernel
theorem d_macEnd_8 : decode b_macEnd 8 = .ok (.aload_n 0, 1) := by decide +kernel
theorem d_macEnd_9 : decode b_macEnd 9 = .ok (.invokevirtual 374, 3) := by decide +kernel
theorem d_macEnd_12 : decode b_macEnd 12 = .ok (.iconst 0, 1) := by decide +kernel
theorem d_macEnd_13 : decode b_macEnd 13 = .ok (.istore_n 1, 1) := by decide +kernel
theorem d_macEnd_14 : decode b_macEnd 14 = .ok (.iload_n 1, 1) := by decide +kernel
theorem d_macEnd_15 : decode b_macEnd 15 = .ok (.bipush 64, 2) := by decide +kernel
theorem d_macEnd_17 : decode b_macEnd 17 = .ok (.if_icmp .ge 22, 3) := by decide +kernel
theorem d_macEnd_20 : decode b_macEnd 20 = .ok (.aload_n 0, 1) := by decide +kernel
theorem d_macEnd_21 : decode b_macEnd 21 = .ok (.aload_n 0, 1) := by decide +kernel
theorem d_macEnd_22 : decode b_macEnd 22 = .ok (.getfield 38, 3) := by decide +kernel
theorem d_macEnd_25 : decode b_macEnd 25 = .ok (.iload_n 1, 1) := by decide +kernel
theorem d_macEnd_26 : decode b_macEnd 26 = .ok (.baload, 1) := by decide +kernel
theorem d_macEnd_27 : decode b_macEnd 27 = .ok (.bipush 92, 2) := by decide +kernel
theorem d_macEnd_29 : decode b_macEnd 29 = .ok (.ixor, 1) := by decide +kernel
theorem d_macEnd_30 : decode b_macEnd 30 = .ok (.invokevirtual 370, 3) := by decide +kernel
theorem d_macEnd_33 : decode b_macEnd 33 = .ok (.iinc 1 1, 3) := by decide +kernel
theorem d_macEnd_36 : decode b_macEnd 36 = .ok (.goto (-22), 3) := by decide +kernel
theorem d_macEnd_39 : decode b_macEnd 39 = .ok (.iconst 0, 1) := by decide +kernel
theorem d_macEnd_40 : decode b_macEnd 40 = .ok (.istore_n 1, 1) := by decide +kernel
theorem d_macEnd_41 : decode b_macEnd 41 = .ok (.iload_n 1, 1) := by decide +kernel
theorem d_macEnd_42 : decode b_macEnd 42 = .ok (.bipush 20, 2) := by decide +kernel
theorem d_macEnd_44 : decode b_macEnd 44 = .ok (.if_icmp .ge 19, 3) := by decide +kernel
theorem d_macEnd_47 : decode b_macEnd 47 = .ok (.aload_n 0, 1) := by decide +kernel
theorem d_macEnd_48 : decode b_macEnd 48 = .ok (.aload_n 0, 1) := by decide +kernel
theorem d_macEnd_49 : decode b_macEnd 49 = .ok (.getfield 32, 3) := by decide +kernel
theorem d_macEnd_52 : decode b_macEnd 52 = .ok (.iload_n 1, 1) := by decide +kernel
theorem d_macEnd_53 : decode b_macEnd 53 = .ok (.baload, 1) := by decide +kernel
theorem d_macEnd_54 : decode b_macEnd 54 = .ok (.invokevirtual 370, 3) := by decide +kernel
theorem d_macEnd_57 : decode b_macEnd 57 = .ok (.iinc 1 1, 3) := by decide +kernel
theorem d_macEnd_60 : decode b_macEnd 60 = .ok (.goto (-19), 3) := by decide +kernel
theorem d_macEnd_63 : decode b_macEnd 63 = .ok (.aload_n 0, 1) := by decide +kernel
theorem d_macEnd_64 : decode b_macEnd 64 = .ok (.aload_n 0, 1) := by decide +kernel
theorem d_macEnd_65 : decode b_macEnd 65 = .ok (.getfield 35, 3) := by decide +kernel
theorem d_macEnd_68 : decode b_macEnd 68 = .ok (.invokevirtual 377, 3) := by decide +kernel
theorem d_macEnd_71 : decode b_macEnd 71 = .ok (.return_, 1) := by decide +kernel
theorem cl_368 : Cond.constantLong R_M 368 (8) ∈ lw_tg := in_t 1829 (by decide +kernel)
theorem kx_finish : Cond.selects R_M y_finish y_finish ∈ lw_tg := List.mem_filter.mpr ⟨List.mem_append_left _ (List.mem_of_getElem? (i := 83) (by decide +kernel)), rfl⟩
theorem hd_finish : y_finish.cls = R_M ∧ y_finish.cls ≠ "java/lang/invoke/MethodHandle" ∧ y_finish.cls ≠ "java/lang/invoke/VarHandle" ∧ (parseMethodDescriptor y_finish.desc).map (fun d => d.parameters.length) = some 1 := by decide +kernel
theorem kx_macKey : Cond.selects R_M y_macKey y_macKey ∈ lw_tg := List.mem_filter.mpr ⟨List.mem_append_left _ (List.mem_of_getElem? (i := 80) (by decide +kernel)), rfl⟩
theorem hd_macKey : y_macKey.cls = R_M ∧ y_macKey.cls ≠ "java/lang/invoke/MethodHandle" ∧ y_macKey.cls ≠ "java/lang/invoke/VarHandle" ∧ (parseMethodDescriptor y_macKey.desc).map (fun d => d.parameters.length) = some 2 := by decide +kernel
theorem kx_macBegin : Cond.selects R_M y_macBegin y_macBegin ∈ lw_tg := List.mem_filter.mpr ⟨List.mem_append_left _ (List.mem_of_getElem? (i := 84) (by decide +kernel)), rfl⟩
theorem hd_macBegin : y_macBegin.cls = R_M ∧ y_macBegin.cls ≠ "java/lang/invoke/MethodHandle" ∧ y_macBegin.cls ≠ "java/lang/invoke/VarHandle" ∧ (parseMethodDescriptor y_macBegin.desc).map (fun d => d.parameters.length) = some 0 := by decide +kernel
theorem kx_macEnd : Cond.selects R_M y_macEnd y_macEnd ∈ lw_tg := List.mem_filter.mpr ⟨List.mem_append_left _ (List.mem_of_getElem? (i := 85) (by decide +kernel)), rfl⟩
theorem hd_macEnd : y_macEnd.cls = R_M ∧ y_macEnd.cls ≠ "java/lang/invoke/MethodHandle" ∧ y_macEnd.cls ≠ "java/lang/invoke/VarHandle" ∧ (parseMethodDescriptor y_macEnd.desc).map (fun d => d.parameters.length) = some 0 := by decide +kernel
set_option maxHeartbeats 4000000 in
set_option maxRecDepth 100000 in
theorem c_finish_inner (l : Launch) (D : mD) (E : mE) (h : Nat) (q : Nat → Nat) (sz : Nat) (I : Nat → Int32) (J : Nat → Int64) (B : Nat → Nat → Int32) (G : Nat → Nat → Int64) (k : Nat) (hk : I 8 = nI k) (hk2 : k < 100000000) : Met l y_finish (k_finish :: lw_tg) (mR 2 51) (va_Pc [.ref h, .ref (q 9)] (mPre D E h q (I, J, B, G) sz)) (va_Qv (fun (u : mS) => (∀ j, j ≠ 8 → u.1 j = I j) ∧ u.2.1 = J ∧ (∀ j, j ≠ 5 → j ≠ 6 → j ≠ 7 → j ≠ 9 → u.2.2.1 j = B j) ∧ u.2.2.2 = G) (mPost D E h q (mA E h q sz)) (mA E h q sz)) 0 0 (mA E h q sz) := by
  refine m_enter (by decide) rfl (Nat.le_of_ble_eq_true rfl) (fun p e s m below meth c ls AV QQ H locs hQQ X Y hZ hA hr hlk hml hl => ?_)
  have Y : mH D E (mA E h q sz) s.heap h q I J B G H locs := Y
  have hl : lv_has ls 5 [(0, .ref h), (1, .ref (q 9))] := hl
  refine lv_ldc2 (v := (8)) X.1 X.2.1 X.2.2.2.1 (X.2.2.1 _ cl_368) d_finish_0 ?_
  refine lv_aload_n X.1 X.2.1 d_finish_3 rfl (lv_at hl 0 rfl) ?_
  refine m_get X Y 8 (by decide) lk_hashed (gf_hashed _ _ _) rfl d_finish_4 ?_
  refine t_eq (show I 8 = nI (k) from hk) ?_
  obtain ⟨v1, ev1⟩ : ∃ z : Int64, ((nI (k)) : Int32).toInt64 = z := ⟨_, rfl⟩
  refine lv_i2l (v := v1) X.1 X.2.1 d_finish_7 ev1 ?_
  refine lv_lmul X.1 X.2.1 d_finish_8 ?_
  refine t_anyl (fun v2 => ?_)
  refine lv_lstore_n (lv' := [(2, .long v2), (0, .ref h), (1, .ref (q 9))]) X.1 X.2.1 d_finish_9 rfl hl (by decide) rfl (fun ls hl => ?_)
  refine lv_aload_n X.1 X.2.1 d_finish_10 rfl (lv_at hl 1 rfl) ?_
  refine lv_sipush (v := (nI 128)) X.1 X.2.1 d_finish_11 (by decide) ?_
  refine m_callv (As := [.int (nI 128)]) (rest := []) (n := 1) X Y hZ hA hml hl.1 (c_hash l D E h q H.size I J B G (nI 128) (k) hk (by omega)) kl_hash ks_hash kx_hash ki_hash ini_M hd_hash ⟨by decide, by decide⟩ rfl (Nat.le_of_ble_eq_true rfl) d_finish_14 ⟨Nat.le_refl _, Nat.le_refl _⟩ (fun u H locs hp Y => ?_)
  obtain ⟨I3, J4, B5, G6⟩ := u
  obtain ⟨hI7, eJ9, hB8, eG10, hk12⟩ := hp
  dsimp only at hI7 eJ9 hB8 eG10 hk12 Y
  rw [eJ9, eG10] at Y
  have hI13 : (∀ j, j ≠ 8 → I3 j = I j) := fun j h8 => (hI7 j h8).trans ((fun j h8 => rfl) j h8)
  have hB14 : (∀ j, j ≠ 5 → j ≠ 6 → j ≠ 7 → j ≠ 9 → B5 j = B j) := fun j h5 h6 h7 h9 => (hB8 j h5 h6 h7).trans ((fun j h5 h6 h7 h9 => rfl) j h5 h6 h7 h9)
  obtain ⟨n17, hn17, hn17b⟩ : ∃ n, n < 64 ∧ ((k) + 1 + n) % 64 = 56 := ⟨(56 + 64 - ((k) + 1) % 64) % 64, by omega, by omega⟩
  have lp17 : ∀ (n15 : Nat) (I18 : Nat → Int32) (B19 : Nat → Nat → Int32) (H : Heap) (locs : List Loc) (ls : Array Slot), (∀ j, j ≠ 5 → j ≠ 6 → j ≠ 7 → j ≠ 9 → B19 j = B j) → (∀ j, j ≠ 8 → I18 j = I j) → I18 8 = nI (((k) + 1 + n17 - n15)) → (n15 ≤ n17) → mH D E (mA E h q sz) s.heap h q I18 J B19 G H locs → lv_has ls 5 [(2, .long v2), (0, .ref h), (1, .ref (q 9))] → W p l e (mR 2 51) s m AV below meth c H locs 0 0 QQ (F0 m 17 ls []) := by
    intro n15
    induction n15 with
    | zero =>
      intro I18 B19 H locs ls hB20 hI21 hk22 hle Y hl
      refine lv_aload_n X.1 X.2.1 d_finish_17 rfl (lv_at hl 1 rfl) ?_
      refine m_get X Y 8 (by decide) lk_hashed (gf_hashed _ _ _) rfl d_finish_18 ?_
      refine t_eq (show I18 8 = nI (((k) + 1 + n17 - 0)) from hk22) ?_
      refine lv_bipush (v := (nI 64)) X.1 X.2.1 d_finish_21 (by decide) ?_
      refine lv_irem X.1 X.2.1 d_finish_23 (nI_ne0 (by omega) (by omega)) ?_
      refine t_eq (y := nI ((((k) + 1 + n17 - 0)) % (64))) (pk_rem (by omega) (by omega) (by omega)) ?_
      refine lv_bipush (v := (nI 56)) X.1 X.2.1 d_finish_24 (by decide) ?_
      refine lv_icmp_eq (tgt := 37) X.1 X.2.1 d_finish_26 (by decide) (fun c23 => ?_) (fun c23 => absurd ?_ c23)
      rotate_left
      · (rw [nI_eq (by omega) (by omega)] <;> omega)
      rw [nI_eq (by omega) (by omega)] at c23
      refine lv_bipush (v := (nI 7)) X.1 X.2.1 d_finish_37 (by decide) ?_
      refine lv_istore (lv' := [(4, .int (nI 7)), (2, .long v2), (0, .ref h), (1, .ref (q 9))]) X.1 X.2.1 d_finish_39 hl (by decide) rfl (fun ls hl => ?_)
      rw [show (nI 7) = nI 8 + (-1) from rfl] at hl
      have lp26 : ∀ (n24 : Nat) (I27 : Nat → Int32) (B28 : Nat → Nat → Int32) (H : Heap) (locs : List Loc) (ls : Array Slot), (∀ j, j ≠ 5 → j ≠ 6 → j ≠ 7 → j ≠ 9 → B28 j = B j) → (∀ j, j ≠ 8 → I27 j = I j) → I27 8 = nI ((((k) + 1 + n17 - 0) + 8 - n24)) → (n24 ≤ 8) → mH D E (mA E h q sz) s.heap h q I27 J B28 G H locs → lv_has ls 5 [(4, .int (nI n24 + (-1))), (2, .long v2), (0, .ref h), (1, .ref (q 9))] → W p l e (mR 2 51) s m AV below meth c H locs 0 0 QQ (F0 m 41 ls []) := by
        intro n24
        induction n24 with
        | zero =>
          intro I27 B28 H locs ls hB29 hI30 hk31 hle Y hl
          refine lv_iload X.1 X.2.1 d_finish_41 (lv_at hl 0 rfl) ?_
          refine lv_if_lt (tgt := 64) X.1 X.2.1 d_finish_43 (by decide) (fun c32 => ?_) (fun c32 => absurd ?_ c32)
          rotate_left
          · decide
          refine lv_iconst (v := (nI 0)) X.1 X.2.1 d_finish_64 (by decide) ?_
          refine lv_istore (lv' := [(4, .int (nI 0)), (2, .long v2), (0, .ref h), (1, .ref (q 9))]) X.1 X.2.1 d_finish_65 hl (by decide) rfl (fun ls hl => ?_)
          have lp36 : ∀ (n33 i34 : Nat) (B37 : Nat → Nat → Int32) (H : Heap) (locs : List Loc) (ls : Array Slot), i34 + n33 = 20 → 0 ≤ i34 → (∀ j, j ≠ 5 → j ≠ 6 → j ≠ 7 → j ≠ 9 → B37 j = B j) → mH D E (mA E h q sz) s.heap h q I27 J B37 G H locs → lv_has ls 5 [(4, .int (nI i34)), (2, .long v2), (0, .ref h), (1, .ref (q 9))] → W p l e (mR 2 51) s m AV below meth c H locs 0 0 QQ (F0 m 67 ls []) := by
            intro n33
            induction n33 with
            | zero =>
              intro i34 B37 H locs ls hii34 hsi34 hB38  Y hl
              refine lv_iload X.1 X.2.1 d_finish_67 (lv_at hl 0 rfl) ?_
              refine lv_bipush (v := (nI 20)) X.1 X.2.1 d_finish_69 (by decide) ?_
              refine lv_icmp_ge (tgt := 105) X.1 X.2.1 d_finish_71 (by decide) (fun c39 => ?_) (fun c39 => absurd ?_ c39)
              rotate_left
              · (rw [nI_leI (by omega) (by omega)] <;> omega)
              rw [nI_leI (by omega) (by omega)] at c39
              exact m_retv hQQ X Y hr hlk ⟨(fun j h8 => (hI30 j h8)), rfl, (fun j h5 h6 h7 h9 => (hB38 j h5 h6 h7 h9)), rfl⟩ d_finish_105
            | succ n33 ih35 =>
              intro i34 B37 H locs ls hii34 hsi34 hB38  Y hl
              refine lv_iload X.1 X.2.1 d_finish_67 (lv_at hl 0 rfl) ?_
              refine lv_bipush (v := (nI 20)) X.1 X.2.1 d_finish_69 (by decide) ?_
              refine lv_icmp_ge (tgt := 105) X.1 X.2.1 d_finish_71 (by decide) (fun c40 => absurd c40 ?_) (fun c40 => ?_)
              · (rw [nI_leI (by omega) (by omega)] <;> omega)
              rw [nI_leI (by omega) (by omega)] at c40
              refine lv_aload_n X.1 X.2.1 d_finish_74 rfl (lv_at hl 3 rfl) ?_
              refine lv_iload X.1 X.2.1 d_finish_75 (lv_at hl 0 rfl) ?_
              refine lv_aload_n X.1 X.2.1 d_finish_77 rfl (lv_at hl 2 rfl) ?_
              refine m_get X Y 5 (by decide) lk_h (gf_h _ _ _) rfl d_finish_78 ?_
              refine lv_iload X.1 X.2.1 d_finish_81 (lv_at hl 0 rfl) ?_
              refine lv_iconst (v := (nI 4)) X.1 X.2.1 d_finish_83 (by decide) ?_
              refine lv_idiv X.1 X.2.1 d_finish_84 (nI_ne0 (by omega) (by omega)) ?_
              refine t_eq (y := nI ((i34) / (4))) (pk_div (by omega) (by omega) (by omega)) ?_
              refine m_iald X Y (aw_h _ _ _ _ _ _ _) (vp_in_nI (by omega) (by decide)) d_finish_85 ?_
              refine t_any (fun v41 => ?_)
              refine lv_bipush (v := (nI 24)) X.1 X.2.1 d_finish_86 (by decide) ?_
              refine lv_bipush (v := (nI 8)) X.1 X.2.1 d_finish_88 (by decide) ?_
              refine lv_iload X.1 X.2.1 d_finish_90 (lv_at hl 0 rfl) ?_
              refine lv_iconst (v := (nI 4)) X.1 X.2.1 d_finish_92 (by decide) ?_
              refine lv_irem X.1 X.2.1 d_finish_93 (nI_ne0 (by omega) (by omega)) ?_
              refine t_eq (y := nI ((i34) % (4))) (pk_rem (by omega) (by omega) (by omega)) ?_
              refine lv_imul X.1 X.2.1 d_finish_94 ?_
              refine t_eq (y := nI ((8) * ((i34) % (4)))) (pk_mul _ _) ?_
              refine lv_isub X.1 X.2.1 d_finish_95 ?_
              refine t_eq (y := nI (24 - ((8) * ((i34) % (4))))) (pk_sub (by omega)) ?_
              obtain ⟨v42, ev42⟩ : ∃ z : Int32, ((v41 : Int32).toUInt32 >>> (((nI (24 - ((8) * ((i34) % (4))))) : Int32).toUInt32 &&& Int32.toUInt32 31)).toInt32 = z := ⟨_, rfl⟩
              refine lv_iushr (v := v42) X.1 X.2.1 d_finish_96 ev42 ?_
              obtain ⟨v43, ev43⟩ : ∃ z : Int32, (v42 : Int32).toInt8.toInt32 = z := ⟨_, rfl⟩
              refine lv_i2b (v := v43) X.1 X.2.1 d_finish_97 ev43 ?_
              refine m_bast X Y (aw_inner _ _ _ _ _ _ _) (vp_in_nI (by omega) (by decide)) (sw_inner _ _ _ _ _ _ _ _) d_finish_98 (fun H locs Y => ?_)
              generalize (upd (B37 9) ((nI i34)).toNatClampNeg (vp_nar .byte v43)) = f44 at Y
              refine lv_iinc (v := (nI (i34 + 1))) (lv' := [(4, .int (nI (i34 + 1))), (2, .long v2), (0, .ref h), (1, .ref (q 9))]) X.1 X.2.1 d_finish_99 hl (k := 0) rfl (nI_add _ 1) (by decide) rfl (fun ls hl => ?_)
              refine lv_goto (tgt := 67) X.1 X.2.1 d_finish_102 (by decide) ?_
              exact ih35 (i34 + 1) (upB B37 9 f44) _ _ _ (by omega) (by omega) (fun j h5 h6 h7 h9 => ((if_neg h9).trans (hB38 j h5 h6 h7 h9)))  Y (lv_sub hl [0, 1, 2, 3] rfl)
          exact lp36 (20) 0 B28 _ _ _ (by omega) (by omega) (fun j h5 h6 h7 h9 => (hB29 j h5 h6 h7 h9))  Y (lv_sub hl [0, 1, 2, 3] rfl)
        | succ n24 ih25 =>
          intro I27 B28 H locs ls hB29 hI30 hk31 hle Y hl
          rw [show nI (n24 + 1) + (-1) = nI n24 from pk_m1 n24] at hl
          refine lv_iload X.1 X.2.1 d_finish_41 (lv_at hl 0 rfl) ?_
          refine lv_if_lt (tgt := 64) X.1 X.2.1 d_finish_43 (by decide) (fun c45 => absurd c45 ?_) (fun c45 => ?_)
          · (exact nI_pos (by omega))
          rw [← nI_0] at c45
          rw [nI_ltI (by omega) (by omega)] at c45
          refine lv_aload_n X.1 X.2.1 d_finish_46 rfl (lv_at hl 2 rfl) ?_
          refine lv_lload_n X.1 X.2.1 d_finish_47 rfl (lv_at hl 1 rfl) ?_
          refine lv_bipush (v := (nI 8)) X.1 X.2.1 d_finish_48 (by decide) ?_
          refine lv_iload X.1 X.2.1 d_finish_50 (lv_at hl 0 rfl) ?_
          refine lv_imul X.1 X.2.1 d_finish_52 ?_
          refine t_eq (y := nI ((8) * (n24))) (pk_mul _ _) ?_
          obtain ⟨v46, ev46⟩ : ∃ z : Int64, ((v2 : Int64).toUInt64 >>> (((nI ((8) * (n24))) : Int32).toInt64.toUInt64 &&& Int64.toUInt64 63)).toInt64 = z := ⟨_, rfl⟩
          refine lv_lushr (v := v46) X.1 X.2.1 d_finish_53 ev46 ?_
          obtain ⟨v47, ev47⟩ : ∃ z : Int32, (v46 : Int64).toInt32 = z := ⟨_, rfl⟩
          refine lv_l2i (v := v47) X.1 X.2.1 d_finish_54 ev47 ?_
          refine m_callv (As := [.int v47]) (rest := []) (n := 1) X Y hZ hA hml hl.1 (c_hash l D E h q H.size I27 J B28 G v47 ((((k) + 1 + n17 - 0) + 8 - (n24 + 1))) hk31 (by omega)) kl_hash ks_hash kx_hash ki_hash ini_M hd_hash ⟨by decide, by decide⟩ rfl (Nat.le_of_ble_eq_true rfl) d_finish_55 ⟨Nat.le_refl _, Nat.le_refl _⟩ (fun u H locs hp Y => ?_)
          obtain ⟨I48, J49, B50, G51⟩ := u
          obtain ⟨hI52, eJ54, hB53, eG55, hk57⟩ := hp
          dsimp only at hI52 eJ54 hB53 eG55 hk57 Y
          rw [eJ54, eG55] at Y
          have hI58 : (∀ j, j ≠ 8 → I48 j = I j) := fun j h8 => (hI52 j h8).trans ((fun j h8 => (hI30 j h8)) j h8)
          have hB59 : (∀ j, j ≠ 5 → j ≠ 6 → j ≠ 7 → j ≠ 9 → B50 j = B j) := fun j h5 h6 h7 h9 => (hB53 j h5 h6 h7).trans ((fun j h5 h6 h7 h9 => (hB29 j h5 h6 h7 h9)) j h5 h6 h7 h9)
          refine lv_iinc (v := (nI n24 + (-1))) (lv' := [(4, .int (nI n24 + (-1))), (2, .long v2), (0, .ref h), (1, .ref (q 9))]) X.1 X.2.1 d_finish_58 hl (k := 0) rfl (congrArg (fun z => nI n24 + z) (by decide)) (by decide) rfl (fun ls hl => ?_)
          refine lv_goto (tgt := 41) X.1 X.2.1 d_finish_61 (by decide) ?_
          exact ih25 _ _ _ _ _ (fun j h5 h6 h7 h9 => (hB59 j h5 h6 h7 h9)) (fun j h8 => (hI58 j h8)) ((show I48 8 = nI (((((k) + 1 + n17 - 0) + 8 - (n24 + 1))) + 1) from hk57).trans (congrArg nI (show (((((k) + 1 + n17 - 0) + 8 - (n24 + 1))) + 1 : Nat) = (((k) + 1 + n17 - 0) + 8 - n24) by omega))) (by omega) Y (lv_sub hl [0, 1, 2, 3] rfl)
      exact lp26 (8) _ _ _ _ _ (fun j h5 h6 h7 h9 => (hB20 j h5 h6 h7 h9)) (fun j h8 => (hI21 j h8)) ((show I18 8 = nI (((k) + 1 + n17 - 0)) from hk22).trans (congrArg nI (show (((k) + 1 + n17 - 0) : Nat) = (((k) + 1 + n17 - 0) + 8 - (8)) by omega))) (by omega) Y (lv_sub hl [0, 1, 2, 3] rfl)
    | succ n15 ih16 =>
      intro I18 B19 H locs ls hB20 hI21 hk22 hle Y hl
      refine lv_aload_n X.1 X.2.1 d_finish_17 rfl (lv_at hl 1 rfl) ?_
      refine m_get X Y 8 (by decide) lk_hashed (gf_hashed _ _ _) rfl d_finish_18 ?_
      refine t_eq (show I18 8 = nI (((k) + 1 + n17 - (n15 + 1))) from hk22) ?_
      refine lv_bipush (v := (nI 64)) X.1 X.2.1 d_finish_21 (by decide) ?_
      refine lv_irem X.1 X.2.1 d_finish_23 (nI_ne0 (by omega) (by omega)) ?_
      refine t_eq (y := nI ((((k) + 1 + n17 - (n15 + 1))) % (64))) (pk_rem (by omega) (by omega) (by omega)) ?_
      refine lv_bipush (v := (nI 56)) X.1 X.2.1 d_finish_24 (by decide) ?_
      refine lv_icmp_eq (tgt := 37) X.1 X.2.1 d_finish_26 (by decide) (fun c60 => absurd c60 ?_) (fun c60 => ?_)
      · (rw [nI_eq (by omega) (by omega)] <;> omega)
      rw [nI_eq (by omega) (by omega)] at c60
      refine lv_aload_n X.1 X.2.1 d_finish_29 rfl (lv_at hl 1 rfl) ?_
      refine lv_iconst (v := (nI 0)) X.1 X.2.1 d_finish_30 (by decide) ?_
      refine m_callv (As := [.int (nI 0)]) (rest := []) (n := 1) X Y hZ hA hml hl.1 (c_hash l D E h q H.size I18 J B19 G (nI 0) (((k) + 1 + n17 - (n15 + 1))) hk22 (by omega)) kl_hash ks_hash kx_hash ki_hash ini_M hd_hash ⟨by decide, by decide⟩ rfl (Nat.le_of_ble_eq_true rfl) d_finish_31 ⟨Nat.le_refl _, Nat.le_refl _⟩ (fun u H locs hp Y => ?_)
      obtain ⟨I61, J62, B63, G64⟩ := u
      obtain ⟨hI65, eJ67, hB66, eG68, hk70⟩ := hp
      dsimp only at hI65 eJ67 hB66 eG68 hk70 Y
      rw [eJ67, eG68] at Y
      have hI71 : (∀ j, j ≠ 8 → I61 j = I j) := fun j h8 => (hI65 j h8).trans ((fun j h8 => (hI21 j h8)) j h8)
      have hB72 : (∀ j, j ≠ 5 → j ≠ 6 → j ≠ 7 → j ≠ 9 → B63 j = B j) := fun j h5 h6 h7 h9 => (hB66 j h5 h6 h7).trans ((fun j h5 h6 h7 h9 => (hB20 j h5 h6 h7 h9)) j h5 h6 h7 h9)
      refine lv_goto (tgt := 17) X.1 X.2.1 d_finish_34 (by decide) ?_
      exact ih16 _ _ _ _ _ (fun j h5 h6 h7 h9 => (hB72 j h5 h6 h7 h9)) (fun j h8 => (hI71 j h8)) ((show I61 8 = nI ((((k) + 1 + n17 - (n15 + 1))) + 1) from hk70).trans (congrArg nI (show ((((k) + 1 + n17 - (n15 + 1))) + 1 : Nat) = ((k) + 1 + n17 - n15) by omega))) (by omega) Y (lv_sub hl [0, 1, 2] rfl)
  exact lp17 (n17) _ _ _ _ _ (fun j h5 h6 h7 h9 => (hB14 j h5 h6 h7 h9)) (fun j h8 => (hI13 j h8)) ((show I3 8 = nI ((k) + 1) from hk12).trans (congrArg nI (show ((k) + 1 : Nat) = ((k) + 1 + n17 - (n17)) by omega))) (by omega) Y (lv_sub hl [0, 1, 2] rfl)
set_option maxHeartbeats 4000000 in
set_option maxRecDepth 100000 in
theorem c_finish_mac (l : Launch) (D : mD) (E : mE) (h : Nat) (q : Nat → Nat) (sz : Nat) (I : Nat → Int32) (J : Nat → Int64) (B : Nat → Nat → Int32) (G : Nat → Nat → Int64) (k : Nat) (hk : I 8 = nI k) (hk2 : k < 100000000) : Met l y_finish (k_finish :: lw_tg) (mR 2 51) (va_Pc [.ref h, .ref (q 10)] (mPre D E h q (I, J, B, G) sz)) (va_Qv (fun (u : mS) => (∀ j, j ≠ 8 → u.1 j = I j) ∧ u.2.1 = J ∧ (∀ j, j ≠ 5 → j ≠ 6 → j ≠ 7 → j ≠ 10 → u.2.2.1 j = B j) ∧ u.2.2.2 = G) (mPost D E h q (mA E h q sz)) (mA E h q sz)) 0 0 (mA E h q sz) := by
  refine m_enter (by decide) rfl (Nat.le_of_ble_eq_true rfl) (fun p e s m below meth c ls AV QQ H locs hQQ X Y hZ hA hr hlk hml hl => ?_)
  have Y : mH D E (mA E h q sz) s.heap h q I J B G H locs := Y
  have hl : lv_has ls 5 [(0, .ref h), (1, .ref (q 10))] := hl
  refine lv_ldc2 (v := (8)) X.1 X.2.1 X.2.2.2.1 (X.2.2.1 _ cl_368) d_finish_0 ?_
  refine lv_aload_n X.1 X.2.1 d_finish_3 rfl (lv_at hl 0 rfl) ?_
  refine m_get X Y 8 (by decide) lk_hashed (gf_hashed _ _ _) rfl d_finish_4 ?_
  refine t_eq (show I 8 = nI (k) from hk) ?_
  obtain ⟨v1, ev1⟩ : ∃ z : Int64, ((nI (k)) : Int32).toInt64 = z := ⟨_, rfl⟩
  refine lv_i2l (v := v1) X.1 X.2.1 d_finish_7 ev1 ?_
  refine lv_lmul X.1 X.2.1 d_finish_8 ?_
  refine t_anyl (fun v2 => ?_)
  refine lv_lstore_n (lv' := [(2, .long v2), (0, .ref h), (1, .ref (q 10))]) X.1 X.2.1 d_finish_9 rfl hl (by decide) rfl (fun ls hl => ?_)
  refine lv_aload_n X.1 X.2.1 d_finish_10 rfl (lv_at hl 1 rfl) ?_
  refine lv_sipush (v := (nI 128)) X.1 X.2.1 d_finish_11 (by decide) ?_
  refine m_callv (As := [.int (nI 128)]) (rest := []) (n := 1) X Y hZ hA hml hl.1 (c_hash l D E h q H.size I J B G (nI 128) (k) hk (by omega)) kl_hash ks_hash kx_hash ki_hash ini_M hd_hash ⟨by decide, by decide⟩ rfl (Nat.le_of_ble_eq_true rfl) d_finish_14 ⟨Nat.le_refl _, Nat.le_refl _⟩ (fun u H locs hp Y => ?_)
  obtain ⟨I3, J4, B5, G6⟩ := u
  obtain ⟨hI7, eJ9, hB8, eG10, hk12⟩ := hp
  dsimp only at hI7 eJ9 hB8 eG10 hk12 Y
  rw [eJ9, eG10] at Y
  have hI13 : (∀ j, j ≠ 8 → I3 j = I j) := fun j h8 => (hI7 j h8).trans ((fun j h8 => rfl) j h8)
  have hB14 : (∀ j, j ≠ 5 → j ≠ 6 → j ≠ 7 → j ≠ 10 → B5 j = B j) := fun j h5 h6 h7 h10 => (hB8 j h5 h6 h7).trans ((fun j h5 h6 h7 h10 => rfl) j h5 h6 h7 h10)
  obtain ⟨n17, hn17, hn17b⟩ : ∃ n, n < 64 ∧ ((k) + 1 + n) % 64 = 56 := ⟨(56 + 64 - ((k) + 1) % 64) % 64, by omega, by omega⟩
  have lp17 : ∀ (n15 : Nat) (I18 : Nat → Int32) (B19 : Nat → Nat → Int32) (H : Heap) (locs : List Loc) (ls : Array Slot), (∀ j, j ≠ 5 → j ≠ 6 → j ≠ 7 → j ≠ 10 → B19 j = B j) → (∀ j, j ≠ 8 → I18 j = I j) → I18 8 = nI (((k) + 1 + n17 - n15)) → (n15 ≤ n17) → mH D E (mA E h q sz) s.heap h q I18 J B19 G H locs → lv_has ls 5 [(2, .long v2), (0, .ref h), (1, .ref (q 10))] → W p l e (mR 2 51) s m AV below meth c H locs 0 0 QQ (F0 m 17 ls []) := by
    intro n15
    induction n15 with
    | zero =>
      intro I18 B19 H locs ls hB20 hI21 hk22 hle Y hl
      refine lv_aload_n X.1 X.2.1 d_finish_17 rfl (lv_at hl 1 rfl) ?_
      refine m_get X Y 8 (by decide) lk_hashed (gf_hashed _ _ _) rfl d_finish_18 ?_
      refine t_eq (show I18 8 = nI (((k) + 1 + n17 - 0)) from hk22) ?_
      refine lv_bipush (v := (nI 64)) X.1 X.2.1 d_finish_21 (by decide) ?_
      refine lv_irem X.1 X.2.1 d_finish_23 (nI_ne0 (by omega) (by omega)) ?_
      refine t_eq (y := nI ((((k) + 1 + n17 - 0)) % (64))) (pk_rem (by omega) (by omega) (by omega)) ?_
      refine lv_bipush (v := (nI 56)) X.1 X.2.1 d_finish_24 (by decide) ?_
      refine lv_icmp_eq (tgt := 37) X.1 X.2.1 d_finish_26 (by decide) (fun c23 => ?_) (fun c23 => absurd ?_ c23)
      rotate_left
      · (rw [nI_eq (by omega) (by omega)] <;> omega)
      rw [nI_eq (by omega) (by omega)] at c23
      refine lv_bipush (v := (nI 7)) X.1 X.2.1 d_finish_37 (by decide) ?_
      refine lv_istore (lv' := [(4, .int (nI 7)), (2, .long v2), (0, .ref h), (1, .ref (q 10))]) X.1 X.2.1 d_finish_39 hl (by decide) rfl (fun ls hl => ?_)
      rw [show (nI 7) = nI 8 + (-1) from rfl] at hl
      have lp26 : ∀ (n24 : Nat) (I27 : Nat → Int32) (B28 : Nat → Nat → Int32) (H : Heap) (locs : List Loc) (ls : Array Slot), (∀ j, j ≠ 5 → j ≠ 6 → j ≠ 7 → j ≠ 10 → B28 j = B j) → (∀ j, j ≠ 8 → I27 j = I j) → I27 8 = nI ((((k) + 1 + n17 - 0) + 8 - n24)) → (n24 ≤ 8) → mH D E (mA E h q sz) s.heap h q I27 J B28 G H locs → lv_has ls 5 [(4, .int (nI n24 + (-1))), (2, .long v2), (0, .ref h), (1, .ref (q 10))] → W p l e (mR 2 51) s m AV below meth c H locs 0 0 QQ (F0 m 41 ls []) := by
        intro n24
        induction n24 with
        | zero =>
          intro I27 B28 H locs ls hB29 hI30 hk31 hle Y hl
          refine lv_iload X.1 X.2.1 d_finish_41 (lv_at hl 0 rfl) ?_
          refine lv_if_lt (tgt := 64) X.1 X.2.1 d_finish_43 (by decide) (fun c32 => ?_) (fun c32 => absurd ?_ c32)
          rotate_left
          · decide
          refine lv_iconst (v := (nI 0)) X.1 X.2.1 d_finish_64 (by decide) ?_
          refine lv_istore (lv' := [(4, .int (nI 0)), (2, .long v2), (0, .ref h), (1, .ref (q 10))]) X.1 X.2.1 d_finish_65 hl (by decide) rfl (fun ls hl => ?_)
          have lp36 : ∀ (n33 i34 : Nat) (B37 : Nat → Nat → Int32) (H : Heap) (locs : List Loc) (ls : Array Slot), i34 + n33 = 20 → 0 ≤ i34 → (∀ j, j ≠ 5 → j ≠ 6 → j ≠ 7 → j ≠ 10 → B37 j = B j) → mH D E (mA E h q sz) s.heap h q I27 J B37 G H locs → lv_has ls 5 [(4, .int (nI i34)), (2, .long v2), (0, .ref h), (1, .ref (q 10))] → W p l e (mR 2 51) s m AV below meth c H locs 0 0 QQ (F0 m 67 ls []) := by
            intro n33
            induction n33 with
            | zero =>
              intro i34 B37 H locs ls hii34 hsi34 hB38  Y hl
              refine lv_iload X.1 X.2.1 d_finish_67 (lv_at hl 0 rfl) ?_
              refine lv_bipush (v := (nI 20)) X.1 X.2.1 d_finish_69 (by decide) ?_
              refine lv_icmp_ge (tgt := 105) X.1 X.2.1 d_finish_71 (by decide) (fun c39 => ?_) (fun c39 => absurd ?_ c39)
              rotate_left
              · (rw [nI_leI (by omega) (by omega)] <;> omega)
              rw [nI_leI (by omega) (by omega)] at c39
              exact m_retv hQQ X Y hr hlk ⟨(fun j h8 => (hI30 j h8)), rfl, (fun j h5 h6 h7 h10 => (hB38 j h5 h6 h7 h10)), rfl⟩ d_finish_105
            | succ n33 ih35 =>
              intro i34 B37 H locs ls hii34 hsi34 hB38  Y hl
              refine lv_iload X.1 X.2.1 d_finish_67 (lv_at hl 0 rfl) ?_
              refine lv_bipush (v := (nI 20)) X.1 X.2.1 d_finish_69 (by decide) ?_
              refine lv_icmp_ge (tgt := 105) X.1 X.2.1 d_finish_71 (by decide) (fun c40 => absurd c40 ?_) (fun c40 => ?_)
              · (rw [nI_leI (by omega) (by omega)] <;> omega)
              rw [nI_leI (by omega) (by omega)] at c40
              refine lv_aload_n X.1 X.2.1 d_finish_74 rfl (lv_at hl 3 rfl) ?_
              refine lv_iload X.1 X.2.1 d_finish_75 (lv_at hl 0 rfl) ?_
              refine lv_aload_n X.1 X.2.1 d_finish_77 rfl (lv_at hl 2 rfl) ?_
              refine m_get X Y 5 (by decide) lk_h (gf_h _ _ _) rfl d_finish_78 ?_
              refine lv_iload X.1 X.2.1 d_finish_81 (lv_at hl 0 rfl) ?_
              refine lv_iconst (v := (nI 4)) X.1 X.2.1 d_finish_83 (by decide) ?_
              refine lv_idiv X.1 X.2.1 d_finish_84 (nI_ne0 (by omega) (by omega)) ?_
              refine t_eq (y := nI ((i34) / (4))) (pk_div (by omega) (by omega) (by omega)) ?_
              refine m_iald X Y (aw_h _ _ _ _ _ _ _) (vp_in_nI (by omega) (by decide)) d_finish_85 ?_
              refine t_any (fun v41 => ?_)
              refine lv_bipush (v := (nI 24)) X.1 X.2.1 d_finish_86 (by decide) ?_
              refine lv_bipush (v := (nI 8)) X.1 X.2.1 d_finish_88 (by decide) ?_
              refine lv_iload X.1 X.2.1 d_finish_90 (lv_at hl 0 rfl) ?_
              refine lv_iconst (v := (nI 4)) X.1 X.2.1 d_finish_92 (by decide) ?_
              refine lv_irem X.1 X.2.1 d_finish_93 (nI_ne0 (by omega) (by omega)) ?_
              refine t_eq (y := nI ((i34) % (4))) (pk_rem (by omega) (by omega) (by omega)) ?_
              refine lv_imul X.1 X.2.1 d_finish_94 ?_
              refine t_eq (y := nI ((8) * ((i34) % (4)))) (pk_mul _ _) ?_
              refine lv_isub X.1 X.2.1 d_finish_95 ?_
              refine t_eq (y := nI (24 - ((8) * ((i34) % (4))))) (pk_sub (by omega)) ?_
              obtain ⟨v42, ev42⟩ : ∃ z : Int32, ((v41 : Int32).toUInt32 >>> (((nI (24 - ((8) * ((i34) % (4))))) : Int32).toUInt32 &&& Int32.toUInt32 31)).toInt32 = z := ⟨_, rfl⟩
              refine lv_iushr (v := v42) X.1 X.2.1 d_finish_96 ev42 ?_
              obtain ⟨v43, ev43⟩ : ∃ z : Int32, (v42 : Int32).toInt8.toInt32 = z := ⟨_, rfl⟩
              refine lv_i2b (v := v43) X.1 X.2.1 d_finish_97 ev43 ?_
              refine m_bast X Y (aw_mac _ _ _ _ _ _ _) (vp_in_nI (by omega) (by decide)) (sw_mac _ _ _ _ _ _ _ _) d_finish_98 (fun H locs Y => ?_)
              generalize (upd (B37 10) ((nI i34)).toNatClampNeg (vp_nar .byte v43)) = f44 at Y
              refine lv_iinc (v := (nI (i34 + 1))) (lv' := [(4, .int (nI (i34 + 1))), (2, .long v2), (0, .ref h), (1, .ref (q 10))]) X.1 X.2.1 d_finish_99 hl (k := 0) rfl (nI_add _ 1) (by decide) rfl (fun ls hl => ?_)
              refine lv_goto (tgt := 67) X.1 X.2.1 d_finish_102 (by decide) ?_
              exact ih35 (i34 + 1) (upB B37 10 f44) _ _ _ (by omega) (by omega) (fun j h5 h6 h7 h10 => ((if_neg h10).trans (hB38 j h5 h6 h7 h10)))  Y (lv_sub hl [0, 1, 2, 3] rfl)
          exact lp36 (20) 0 B28 _ _ _ (by omega) (by omega) (fun j h5 h6 h7 h10 => (hB29 j h5 h6 h7 h10))  Y (lv_sub hl [0, 1, 2, 3] rfl)
        | succ n24 ih25 =>
          intro I27 B28 H locs ls hB29 hI30 hk31 hle Y hl
          rw [show nI (n24 + 1) + (-1) = nI n24 from pk_m1 n24] at hl
          refine lv_iload X.1 X.2.1 d_finish_41 (lv_at hl 0 rfl) ?_
          refine lv_if_lt (tgt := 64) X.1 X.2.1 d_finish_43 (by decide) (fun c45 => absurd c45 ?_) (fun c45 => ?_)
          · (exact nI_pos (by omega))
          rw [← nI_0] at c45
          rw [nI_ltI (by omega) (by omega)] at c45
          refine lv_aload_n X.1 X.2.1 d_finish_46 rfl (lv_at hl 2 rfl) ?_
          refine lv_lload_n X.1 X.2.1 d_finish_47 rfl (lv_at hl 1 rfl) ?_
          refine lv_bipush (v := (nI 8)) X.1 X.2.1 d_finish_48 (by decide) ?_
          refine lv_iload X.1 X.2.1 d_finish_50 (lv_at hl 0 rfl) ?_
          refine lv_imul X.1 X.2.1 d_finish_52 ?_
          refine t_eq (y := nI ((8) * (n24))) (pk_mul _ _) ?_
          obtain ⟨v46, ev46⟩ : ∃ z : Int64, ((v2 : Int64).toUInt64 >>> (((nI ((8) * (n24))) : Int32).toInt64.toUInt64 &&& Int64.toUInt64 63)).toInt64 = z := ⟨_, rfl⟩
          refine lv_lushr (v := v46) X.1 X.2.1 d_finish_53 ev46 ?_
          obtain ⟨v47, ev47⟩ : ∃ z : Int32, (v46 : Int64).toInt32 = z := ⟨_, rfl⟩
          refine lv_l2i (v := v47) X.1 X.2.1 d_finish_54 ev47 ?_
          refine m_callv (As := [.int v47]) (rest := []) (n := 1) X Y hZ hA hml hl.1 (c_hash l D E h q H.size I27 J B28 G v47 ((((k) + 1 + n17 - 0) + 8 - (n24 + 1))) hk31 (by omega)) kl_hash ks_hash kx_hash ki_hash ini_M hd_hash ⟨by decide, by decide⟩ rfl (Nat.le_of_ble_eq_true rfl) d_finish_55 ⟨Nat.le_refl _, Nat.le_refl _⟩ (fun u H locs hp Y => ?_)
          obtain ⟨I48, J49, B50, G51⟩ := u
          obtain ⟨hI52, eJ54, hB53, eG55, hk57⟩ := hp
          dsimp only at hI52 eJ54 hB53 eG55 hk57 Y
          rw [eJ54, eG55] at Y
          have hI58 : (∀ j, j ≠ 8 → I48 j = I j) := fun j h8 => (hI52 j h8).trans ((fun j h8 => (hI30 j h8)) j h8)
          have hB59 : (∀ j, j ≠ 5 → j ≠ 6 → j ≠ 7 → j ≠ 10 → B50 j = B j) := fun j h5 h6 h7 h10 => (hB53 j h5 h6 h7).trans ((fun j h5 h6 h7 h10 => (hB29 j h5 h6 h7 h10)) j h5 h6 h7 h10)
          refine lv_iinc (v := (nI n24 + (-1))) (lv' := [(4, .int (nI n24 + (-1))), (2, .long v2), (0, .ref h), (1, .ref (q 10))]) X.1 X.2.1 d_finish_58 hl (k := 0) rfl (congrArg (fun z => nI n24 + z) (by decide)) (by decide) rfl (fun ls hl => ?_)
          refine lv_goto (tgt := 41) X.1 X.2.1 d_finish_61 (by decide) ?_
          exact ih25 _ _ _ _ _ (fun j h5 h6 h7 h10 => (hB59 j h5 h6 h7 h10)) (fun j h8 => (hI58 j h8)) ((show I48 8 = nI (((((k) + 1 + n17 - 0) + 8 - (n24 + 1))) + 1) from hk57).trans (congrArg nI (show (((((k) + 1 + n17 - 0) + 8 - (n24 + 1))) + 1 : Nat) = (((k) + 1 + n17 - 0) + 8 - n24) by omega))) (by omega) Y (lv_sub hl [0, 1, 2, 3] rfl)
      exact lp26 (8) _ _ _ _ _ (fun j h5 h6 h7 h10 => (hB20 j h5 h6 h7 h10)) (fun j h8 => (hI21 j h8)) ((show I18 8 = nI (((k) + 1 + n17 - 0)) from hk22).trans (congrArg nI (show (((k) + 1 + n17 - 0) : Nat) = (((k) + 1 + n17 - 0) + 8 - (8)) by omega))) (by omega) Y (lv_sub hl [0, 1, 2, 3] rfl)
    | succ n15 ih16 =>
      intro I18 B19 H locs ls hB20 hI21 hk22 hle Y hl
      refine lv_aload_n X.1 X.2.1 d_finish_17 rfl (lv_at hl 1 rfl) ?_
      refine m_get X Y 8 (by decide) lk_hashed (gf_hashed _ _ _) rfl d_finish_18 ?_
      refine t_eq (show I18 8 = nI (((k) + 1 + n17 - (n15 + 1))) from hk22) ?_
      refine lv_bipush (v := (nI 64)) X.1 X.2.1 d_finish_21 (by decide) ?_
      refine lv_irem X.1 X.2.1 d_finish_23 (nI_ne0 (by omega) (by omega)) ?_
      refine t_eq (y := nI ((((k) + 1 + n17 - (n15 + 1))) % (64))) (pk_rem (by omega) (by omega) (by omega)) ?_
      refine lv_bipush (v := (nI 56)) X.1 X.2.1 d_finish_24 (by decide) ?_
      refine lv_icmp_eq (tgt := 37) X.1 X.2.1 d_finish_26 (by decide) (fun c60 => absurd c60 ?_) (fun c60 => ?_)
      · (rw [nI_eq (by omega) (by omega)] <;> omega)
      rw [nI_eq (by omega) (by omega)] at c60
      refine lv_aload_n X.1 X.2.1 d_finish_29 rfl (lv_at hl 1 rfl) ?_
      refine lv_iconst (v := (nI 0)) X.1 X.2.1 d_finish_30 (by decide) ?_
      refine m_callv (As := [.int (nI 0)]) (rest := []) (n := 1) X Y hZ hA hml hl.1 (c_hash l D E h q H.size I18 J B19 G (nI 0) (((k) + 1 + n17 - (n15 + 1))) hk22 (by omega)) kl_hash ks_hash kx_hash ki_hash ini_M hd_hash ⟨by decide, by decide⟩ rfl (Nat.le_of_ble_eq_true rfl) d_finish_31 ⟨Nat.le_refl _, Nat.le_refl _⟩ (fun u H locs hp Y => ?_)
      obtain ⟨I61, J62, B63, G64⟩ := u
      obtain ⟨hI65, eJ67, hB66, eG68, hk70⟩ := hp
      dsimp only at hI65 eJ67 hB66 eG68 hk70 Y
      rw [eJ67, eG68] at Y
      have hI71 : (∀ j, j ≠ 8 → I61 j = I j) := fun j h8 => (hI65 j h8).trans ((fun j h8 => (hI21 j h8)) j h8)
      have hB72 : (∀ j, j ≠ 5 → j ≠ 6 → j ≠ 7 → j ≠ 10 → B63 j = B j) := fun j h5 h6 h7 h10 => (hB66 j h5 h6 h7).trans ((fun j h5 h6 h7 h10 => (hB20 j h5 h6 h7 h10)) j h5 h6 h7 h10)
      refine lv_goto (tgt := 17) X.1 X.2.1 d_finish_34 (by decide) ?_
      exact ih16 _ _ _ _ _ (fun j h5 h6 h7 h10 => (hB72 j h5 h6 h7 h10)) (fun j h8 => (hI71 j h8)) ((show I61 8 = nI ((((k) + 1 + n17 - (n15 + 1))) + 1) from hk70).trans (congrArg nI (show ((((k) + 1 + n17 - (n15 + 1))) + 1 : Nat) = ((k) + 1 + n17 - n15) by omega))) (by omega) Y (lv_sub hl [0, 1, 2] rfl)
  exact lp17 (n17) _ _ _ _ _ (fun j h5 h6 h7 h10 => (hB14 j h5 h6 h7 h10)) (fun j h8 => (hI13 j h8)) ((show I3 8 = nI ((k) + 1) from hk12).trans (congrArg nI (show ((k) + 1 : Nat) = ((k) + 1 + n17 - (n17)) by omega))) (by omega) Y (lv_sub hl [0, 1, 2] rfl)
set_option maxHeartbeats 4000000 in
set_option maxRecDepth 100000 in
theorem c_macBegin (l : Launch) (D : mD) (E : mE) (h : Nat) (q : Nat → Nat) (sz : Nat) (I : Nat → Int32) (J : Nat → Int64) (B : Nat → Nat → Int32) (G : Nat → Nat → Int64)  : Met l y_macBegin (k_macBegin :: lw_tg) (mR 2 51) (va_Pc [.ref h] (mPre D E h q (I, J, B, G) sz)) (va_Qv (fun (u : mS) => (∀ j, j ≠ 8 → u.1 j = I j) ∧ u.2.1 = J ∧ (∀ j, j ≠ 5 → j ≠ 6 → j ≠ 7 → u.2.2.1 j = B j) ∧ u.2.2.2 = G ∧ u.1 8 = nI (64)) (mPost D E h q (mA E h q sz)) (mA E h q sz)) 0 0 (mA E h q sz) := by
  refine m_enter (by decide) rfl (Nat.le_of_ble_eq_true rfl) (fun p e s m below meth c ls AV QQ H locs hQQ X Y hZ hA hr hlk hml hl => ?_)
  have Y : mH D E (mA E h q sz) s.heap h q I J B G H locs := Y
  have hl : lv_has ls 2 [(0, .ref h)] := hl
  refine lv_aload_n X.1 X.2.1 d_macBegin_0 rfl (lv_at hl 0 rfl) ?_
  refine m_callv (As := []) (rest := []) (n := 0) X Y hZ hA hml hl.1 (c_begin2 l D E h q H.size I J B G ) kl_begin ks_begin kx_begin ki_begin ini_M hd_begin ⟨by decide, by decide⟩ rfl (Nat.le_of_ble_eq_true rfl) d_macBegin_1 ⟨Nat.le_refl _, Nat.le_refl _⟩ (fun u H locs hp Y => ?_)
  obtain ⟨I1, J2, B3, G4⟩ := u
  obtain ⟨hI5, eJ7, hB6, eG8, hk10⟩ := hp
  dsimp only at hI5 eJ7 hB6 eG8 hk10 Y
  rw [eJ7, eG8] at Y
  have hI11 : (∀ j, j ≠ 8 → I1 j = I j) := fun j h8 => (hI5 j h8).trans ((fun j h8 => rfl) j h8)
  have hB12 : (∀ j, j ≠ 5 → j ≠ 6 → j ≠ 7 → B3 j = B j) := fun j h5 h6 h7 => (hB6 j h5).trans ((fun j h5 h6 h7 => rfl) j h5 h6 h7)
  refine lv_iconst (v := (nI 0)) X.1 X.2.1 d_macBegin_4 (by decide) ?_
  refine lv_istore_n (lv' := [(1, .int (nI 0)), (0, .ref h)]) X.1 X.2.1 d_macBegin_5 rfl hl (by decide) rfl (fun ls hl => ?_)
  have lp16 : ∀ (n13 i14 : Nat) (I17 : Nat → Int32) (B18 : Nat → Nat → Int32) (H : Heap) (locs : List Loc) (ls : Array Slot), i14 + n13 = 64 → 0 ≤ i14 → (∀ j, j ≠ 5 → j ≠ 6 → j ≠ 7 → B18 j = B j) → (∀ j, j ≠ 8 → I17 j = I j) → I17 8 = nI (0 + i14) → mH D E (mA E h q sz) s.heap h q I17 J B18 G H locs → lv_has ls 2 [(1, .int (nI i14)), (0, .ref h)] → W p l e (mR 2 51) s m AV below meth c H locs 0 0 QQ (F0 m 6 ls []) := by
    intro n13
    induction n13 with
    | zero =>
      intro i14 I17 B18 H locs ls hii14 hsi14 hB19 hI20 hk21  Y hl
      refine lv_iload_n X.1 X.2.1 d_macBegin_6 rfl (lv_at hl 0 rfl) ?_
      refine lv_bipush (v := (nI 64)) X.1 X.2.1 d_macBegin_7 (by decide) ?_
      refine lv_icmp_ge (tgt := 31) X.1 X.2.1 d_macBegin_9 (by decide) (fun c22 => ?_) (fun c22 => absurd ?_ c22)
      rotate_left
      · (rw [nI_leI (by omega) (by omega)] <;> omega)
      rw [nI_leI (by omega) (by omega)] at c22
      exact m_retv hQQ X Y hr hlk ⟨(fun j h8 => (hI20 j h8)), rfl, (fun j h5 h6 h7 => (hB19 j h5 h6 h7)), rfl, (show I17 8 = nI (64) from (show I17 8 = nI (0 + i14) from hk21).trans (congrArg nI (show (0 + i14 : Nat) = 64 by omega)))⟩ d_macBegin_31
    | succ n13 ih15 =>
      intro i14 I17 B18 H locs ls hii14 hsi14 hB19 hI20 hk21  Y hl
      refine lv_iload_n X.1 X.2.1 d_macBegin_6 rfl (lv_at hl 0 rfl) ?_
      refine lv_bipush (v := (nI 64)) X.1 X.2.1 d_macBegin_7 (by decide) ?_
      refine lv_icmp_ge (tgt := 31) X.1 X.2.1 d_macBegin_9 (by decide) (fun c23 => absurd c23 ?_) (fun c23 => ?_)
      · (rw [nI_leI (by omega) (by omega)] <;> omega)
      rw [nI_leI (by omega) (by omega)] at c23
      refine lv_aload_n X.1 X.2.1 d_macBegin_12 rfl (lv_at hl 1 rfl) ?_
      refine lv_aload_n X.1 X.2.1 d_macBegin_13 rfl (lv_at hl 1 rfl) ?_
      refine m_get X Y 11 (by decide) lk_macKey (gf_macKey _ _ _) rfl d_macBegin_14 ?_
      refine lv_iload_n X.1 X.2.1 d_macBegin_17 rfl (lv_at hl 0 rfl) ?_
      refine m_bald X Y (aw_macKey _ _ _ _ _ _ _) (vp_in_nI (by omega) (by decide)) d_macBegin_18 ?_
      refine t_any (fun v24 => ?_)
      refine lv_bipush (v := (nI 54)) X.1 X.2.1 d_macBegin_19 (by decide) ?_
      refine lv_ixor X.1 X.2.1 d_macBegin_21 ?_
      refine t_any (fun v25 => ?_)
      refine m_callv (As := [.int v25]) (rest := []) (n := 1) X Y hZ hA hml hl.1 (c_hash l D E h q H.size I17 J B18 G v25 (0 + i14) hk21 (by omega)) kl_hash ks_hash kx_hash ki_hash ini_M hd_hash ⟨by decide, by decide⟩ rfl (Nat.le_of_ble_eq_true rfl) d_macBegin_22 ⟨Nat.le_refl _, Nat.le_refl _⟩ (fun u H locs hp Y => ?_)
      obtain ⟨I26, J27, B28, G29⟩ := u
      obtain ⟨hI30, eJ32, hB31, eG33, hk35⟩ := hp
      dsimp only at hI30 eJ32 hB31 eG33 hk35 Y
      rw [eJ32, eG33] at Y
      have hI36 : (∀ j, j ≠ 8 → I26 j = I j) := fun j h8 => (hI30 j h8).trans ((fun j h8 => (hI20 j h8)) j h8)
      have hB37 : (∀ j, j ≠ 5 → j ≠ 6 → j ≠ 7 → B28 j = B j) := fun j h5 h6 h7 => (hB31 j h5 h6 h7).trans ((fun j h5 h6 h7 => (hB19 j h5 h6 h7)) j h5 h6 h7)
      refine lv_iinc (v := (nI (i14 + 1))) (lv' := [(1, .int (nI (i14 + 1))), (0, .ref h)]) X.1 X.2.1 d_macBegin_25 hl (k := 0) rfl (nI_add _ 1) (by decide) rfl (fun ls hl => ?_)
      refine lv_goto (tgt := 6) X.1 X.2.1 d_macBegin_28 (by decide) ?_
      exact ih15 (i14 + 1) I26 B28 _ _ _ (by omega) (by omega) (fun j h5 h6 h7 => (hB37 j h5 h6 h7)) (fun j h8 => (hI36 j h8)) ((show I26 8 = nI ((0 + i14) + 1) from hk35).trans (congrArg nI (show ((0 + i14) + 1 : Nat) = 0 + (i14 + 1) by omega)))  Y (lv_sub hl [0, 1] rfl)
  exact lp16 (64) 0 I1 B3 _ _ _ (by omega) (by omega) (fun j h5 h6 h7 => (hB12 j h5 h6 h7)) (fun j h8 => (hI11 j h8)) ((show I1 8 = nI (0) from hk10).trans (congrArg nI (show (0 : Nat) = 0 + 0 by omega)))  Y (lv_sub hl [0, 1] rfl)
set_option maxHeartbeats 4000000 in
set_option maxRecDepth 100000 in
theorem c_macEnd (l : Launch) (D : mD) (E : mE) (h : Nat) (q : Nat → Nat) (sz : Nat) (I : Nat → Int32) (J : Nat → Int64) (B : Nat → Nat → Int32) (G : Nat → Nat → Int64) (k : Nat) (hk : I 8 = nI k) (hk2 : k < 100000000) : Met l y_macEnd (k_macEnd :: lw_tg) (mR 3 75) (va_Pc [.ref h] (mPre D E h q (I, J, B, G) sz)) (va_Qv (fun (u : mS) => (∀ j, j ≠ 8 → u.1 j = I j) ∧ u.2.1 = J ∧ (∀ j, j ≠ 5 → j ≠ 6 → j ≠ 7 → j ≠ 9 → j ≠ 10 → u.2.2.1 j = B j) ∧ u.2.2.2 = G) (mPost D E h q (mA E h q sz)) (mA E h q sz)) 0 0 (mA E h q sz) := by
  refine m_enter (by decide) rfl (Nat.le_of_ble_eq_true rfl) (fun p e s m below meth c ls AV QQ H locs hQQ X Y hZ hA hr hlk hml hl => ?_)
  have Y : mH D E (mA E h q sz) s.heap h q I J B G H locs := Y
  have hl : lv_has ls 2 [(0, .ref h)] := hl
  refine lv_aload_n X.1 X.2.1 d_macEnd_0 rfl (lv_at hl 0 rfl) ?_
  refine lv_aload_n X.1 X.2.1 d_macEnd_1 rfl (lv_at hl 0 rfl) ?_
  refine m_get X Y 9 (by decide) lk_inner (gf_inner _ _ _) rfl d_macEnd_2 ?_
  refine m_callv (As := [.ref (q 9)]) (rest := []) (n := 1) X Y hZ hA hml hl.1 (c_finish_inner l D E h q H.size I J B G (k) hk (by omega)) kl_finish ks_finish kx_finish ki_finish ini_M hd_finish ⟨by decide, by decide⟩ rfl (Nat.le_of_ble_eq_true rfl) d_macEnd_5 ⟨Nat.le_refl _, Nat.le_refl _⟩ (fun u H locs hp Y => ?_)
  obtain ⟨I1, J2, B3, G4⟩ := u
  obtain ⟨hI5, eJ7, hB6, eG8⟩ := hp
  dsimp only at hI5 eJ7 hB6 eG8 Y
  rw [eJ7, eG8] at Y
  have hI10 : (∀ j, j ≠ 8 → I1 j = I j) := fun j h8 => (hI5 j h8).trans ((fun j h8 => rfl) j h8)
  have hB11 : (∀ j, j ≠ 5 → j ≠ 6 → j ≠ 7 → j ≠ 9 → j ≠ 10 → B3 j = B j) := fun j h5 h6 h7 h9 h10 => (hB6 j h5 h6 h7 h9).trans ((fun j h5 h6 h7 h9 h10 => rfl) j h5 h6 h7 h9 h10)
  refine lv_aload_n X.1 X.2.1 d_macEnd_8 rfl (lv_at hl 0 rfl) ?_
  refine m_callv (As := []) (rest := []) (n := 0) X Y hZ hA hml hl.1 (c_begin2 l D E h q H.size I1 J B3 G ) kl_begin ks_begin kx_begin ki_begin ini_M hd_begin ⟨by decide, by decide⟩ rfl (Nat.le_of_ble_eq_true rfl) d_macEnd_9 ⟨Nat.le_refl _, Nat.le_refl _⟩ (fun u H locs hp Y => ?_)
  obtain ⟨I12, J13, B14, G15⟩ := u
  obtain ⟨hI16, eJ18, hB17, eG19, hk21⟩ := hp
  dsimp only at hI16 eJ18 hB17 eG19 hk21 Y
  rw [eJ18, eG19] at Y
  have hI22 : (∀ j, j ≠ 8 → I12 j = I j) := fun j h8 => (hI16 j h8).trans ((fun j h8 => (hI10 j h8)) j h8)
  have hB23 : (∀ j, j ≠ 5 → j ≠ 6 → j ≠ 7 → j ≠ 9 → j ≠ 10 → B14 j = B j) := fun j h5 h6 h7 h9 h10 => (hB17 j h5).trans ((fun j h5 h6 h7 h9 h10 => (hB11 j h5 h6 h7 h9 h10)) j h5 h6 h7 h9 h10)
  refine lv_iconst (v := (nI 0)) X.1 X.2.1 d_macEnd_12 (by decide) ?_
  refine lv_istore_n (lv' := [(1, .int (nI 0)), (0, .ref h)]) X.1 X.2.1 d_macEnd_13 rfl hl (by decide) rfl (fun ls hl => ?_)
  have lp27 : ∀ (n24 i25 : Nat) (I28 : Nat → Int32) (B29 : Nat → Nat → Int32) (H : Heap) (locs : List Loc) (ls : Array Slot), i25 + n24 = 64 → 0 ≤ i25 → (∀ j, j ≠ 5 → j ≠ 6 → j ≠ 7 → j ≠ 9 → j ≠ 10 → B29 j = B j) → (∀ j, j ≠ 8 → I28 j = I j) → I28 8 = nI (0 + i25) → mH D E (mA E h q sz) s.heap h q I28 J B29 G H locs → lv_has ls 2 [(1, .int (nI i25)), (0, .ref h)] → W p l e (mR 3 75) s m AV below meth c H locs 0 0 QQ (F0 m 14 ls []) := by
    intro n24
    induction n24 with
    | zero =>
      intro i25 I28 B29 H locs ls hii25 hsi25 hB30 hI31 hk32  Y hl
      refine lv_iload_n X.1 X.2.1 d_macEnd_14 rfl (lv_at hl 0 rfl) ?_
      refine lv_bipush (v := (nI 64)) X.1 X.2.1 d_macEnd_15 (by decide) ?_
      refine lv_icmp_ge (tgt := 39) X.1 X.2.1 d_macEnd_17 (by decide) (fun c33 => ?_) (fun c33 => absurd ?_ c33)
      rotate_left
      · (rw [nI_leI (by omega) (by omega)] <;> omega)
      rw [nI_leI (by omega) (by omega)] at c33
      refine lv_iconst (v := (nI 0)) X.1 X.2.1 d_macEnd_39 (by decide) ?_
      refine lv_istore_n (lv' := [(1, .int (nI 0)), (0, .ref h)]) X.1 X.2.1 d_macEnd_40 rfl hl (by decide) rfl (fun ls hl => ?_)
      have lp37 : ∀ (n34 i35 : Nat) (I38 : Nat → Int32) (B39 : Nat → Nat → Int32) (H : Heap) (locs : List Loc) (ls : Array Slot), i35 + n34 = 20 → 0 ≤ i35 → (∀ j, j ≠ 5 → j ≠ 6 → j ≠ 7 → j ≠ 9 → j ≠ 10 → B39 j = B j) → (∀ j, j ≠ 8 → I38 j = I j) → I38 8 = nI (64 + i35) → mH D E (mA E h q sz) s.heap h q I38 J B39 G H locs → lv_has ls 2 [(1, .int (nI i35)), (0, .ref h)] → W p l e (mR 3 75) s m AV below meth c H locs 0 0 QQ (F0 m 41 ls []) := by
        intro n34
        induction n34 with
        | zero =>
          intro i35 I38 B39 H locs ls hii35 hsi35 hB40 hI41 hk42  Y hl
          refine lv_iload_n X.1 X.2.1 d_macEnd_41 rfl (lv_at hl 0 rfl) ?_
          refine lv_bipush (v := (nI 20)) X.1 X.2.1 d_macEnd_42 (by decide) ?_
          refine lv_icmp_ge (tgt := 63) X.1 X.2.1 d_macEnd_44 (by decide) (fun c43 => ?_) (fun c43 => absurd ?_ c43)
          rotate_left
          · (rw [nI_leI (by omega) (by omega)] <;> omega)
          rw [nI_leI (by omega) (by omega)] at c43
          refine lv_aload_n X.1 X.2.1 d_macEnd_63 rfl (lv_at hl 1 rfl) ?_
          refine lv_aload_n X.1 X.2.1 d_macEnd_64 rfl (lv_at hl 1 rfl) ?_
          refine m_get X Y 10 (by decide) lk_mac (gf_mac _ _ _) rfl d_macEnd_65 ?_
          refine m_callv (As := [.ref (q 10)]) (rest := []) (n := 1) X Y hZ hA hml hl.1 (c_finish_mac l D E h q H.size I38 J B39 G (64 + i35) hk42 (by omega)) kl_finish ks_finish kx_finish ki_finish ini_M hd_finish ⟨by decide, by decide⟩ rfl (Nat.le_of_ble_eq_true rfl) d_macEnd_68 ⟨Nat.le_refl _, Nat.le_refl _⟩ (fun u H locs hp Y => ?_)
          obtain ⟨I44, J45, B46, G47⟩ := u
          obtain ⟨hI48, eJ50, hB49, eG51⟩ := hp
          dsimp only at hI48 eJ50 hB49 eG51 Y
          rw [eJ50, eG51] at Y
          have hI53 : (∀ j, j ≠ 8 → I44 j = I j) := fun j h8 => (hI48 j h8).trans ((fun j h8 => (hI41 j h8)) j h8)
          have hB54 : (∀ j, j ≠ 5 → j ≠ 6 → j ≠ 7 → j ≠ 9 → j ≠ 10 → B46 j = B j) := fun j h5 h6 h7 h9 h10 => (hB49 j h5 h6 h7 h10).trans ((fun j h5 h6 h7 h9 h10 => (hB40 j h5 h6 h7 h9 h10)) j h5 h6 h7 h9 h10)
          exact m_retv hQQ X Y hr hlk ⟨(fun j h8 => (hI53 j h8)), rfl, (fun j h5 h6 h7 h9 h10 => (hB54 j h5 h6 h7 h9 h10)), rfl⟩ d_macEnd_71
        | succ n34 ih36 =>
          intro i35 I38 B39 H locs ls hii35 hsi35 hB40 hI41 hk42  Y hl
          refine lv_iload_n X.1 X.2.1 d_macEnd_41 rfl (lv_at hl 0 rfl) ?_
          refine lv_bipush (v := (nI 20)) X.1 X.2.1 d_macEnd_42 (by decide) ?_
          refine lv_icmp_ge (tgt := 63) X.1 X.2.1 d_macEnd_44 (by decide) (fun c55 => absurd c55 ?_) (fun c55 => ?_)
          · (rw [nI_leI (by omega) (by omega)] <;> omega)
          rw [nI_leI (by omega) (by omega)] at c55
          refine lv_aload_n X.1 X.2.1 d_macEnd_47 rfl (lv_at hl 1 rfl) ?_
          refine lv_aload_n X.1 X.2.1 d_macEnd_48 rfl (lv_at hl 1 rfl) ?_
          refine m_get X Y 9 (by decide) lk_inner (gf_inner _ _ _) rfl d_macEnd_49 ?_
          refine lv_iload_n X.1 X.2.1 d_macEnd_52 rfl (lv_at hl 0 rfl) ?_
          refine m_bald X Y (aw_inner _ _ _ _ _ _ _) (vp_in_nI (by omega) (by decide)) d_macEnd_53 ?_
          refine t_any (fun v56 => ?_)
          refine m_callv (As := [.int v56]) (rest := []) (n := 1) X Y hZ hA hml hl.1 (c_hash l D E h q H.size I38 J B39 G v56 (64 + i35) hk42 (by omega)) kl_hash ks_hash kx_hash ki_hash ini_M hd_hash ⟨by decide, by decide⟩ rfl (Nat.le_of_ble_eq_true rfl) d_macEnd_54 ⟨Nat.le_refl _, Nat.le_refl _⟩ (fun u H locs hp Y => ?_)
          obtain ⟨I57, J58, B59, G60⟩ := u
          obtain ⟨hI61, eJ63, hB62, eG64, hk66⟩ := hp
          dsimp only at hI61 eJ63 hB62 eG64 hk66 Y
          rw [eJ63, eG64] at Y
          have hI67 : (∀ j, j ≠ 8 → I57 j = I j) := fun j h8 => (hI61 j h8).trans ((fun j h8 => (hI41 j h8)) j h8)
          have hB68 : (∀ j, j ≠ 5 → j ≠ 6 → j ≠ 7 → j ≠ 9 → j ≠ 10 → B59 j = B j) := fun j h5 h6 h7 h9 h10 => (hB62 j h5 h6 h7).trans ((fun j h5 h6 h7 h9 h10 => (hB40 j h5 h6 h7 h9 h10)) j h5 h6 h7 h9 h10)
          refine lv_iinc (v := (nI (i35 + 1))) (lv' := [(1, .int (nI (i35 + 1))), (0, .ref h)]) X.1 X.2.1 d_macEnd_57 hl (k := 0) rfl (nI_add _ 1) (by decide) rfl (fun ls hl => ?_)
          refine lv_goto (tgt := 41) X.1 X.2.1 d_macEnd_60 (by decide) ?_
          exact ih36 (i35 + 1) I57 B59 _ _ _ (by omega) (by omega) (fun j h5 h6 h7 h9 h10 => (hB68 j h5 h6 h7 h9 h10)) (fun j h8 => (hI67 j h8)) ((show I57 8 = nI ((64 + i35) + 1) from hk66).trans (congrArg nI (show ((64 + i35) + 1 : Nat) = 64 + (i35 + 1) by omega)))  Y (lv_sub hl [0, 1] rfl)
      exact lp37 (20) 0 I28 B29 _ _ _ (by omega) (by omega) (fun j h5 h6 h7 h9 h10 => (hB30 j h5 h6 h7 h9 h10)) (fun j h8 => (hI31 j h8)) ((show I28 8 = nI (0 + i25) from hk32).trans (congrArg nI (show (0 + i25 : Nat) = 64 + 0 by omega)))  Y (lv_sub hl [0, 1] rfl)
    | succ n24 ih26 =>
      intro i25 I28 B29 H locs ls hii25 hsi25 hB30 hI31 hk32  Y hl
      refine lv_iload_n X.1 X.2.1 d_macEnd_14 rfl (lv_at hl 0 rfl) ?_
      refine lv_bipush (v := (nI 64)) X.1 X.2.1 d_macEnd_15 (by decide) ?_
      refine lv_icmp_ge (tgt := 39) X.1 X.2.1 d_macEnd_17 (by decide) (fun c69 => absurd c69 ?_) (fun c69 => ?_)
      · (rw [nI_leI (by omega) (by omega)] <;> omega)
      rw [nI_leI (by omega) (by omega)] at c69
      refine lv_aload_n X.1 X.2.1 d_macEnd_20 rfl (lv_at hl 1 rfl) ?_
      refine lv_aload_n X.1 X.2.1 d_macEnd_21 rfl (lv_at hl 1 rfl) ?_
      refine m_get X Y 11 (by decide) lk_macKey (gf_macKey _ _ _) rfl d_macEnd_22 ?_
      refine lv_iload_n X.1 X.2.1 d_macEnd_25 rfl (lv_at hl 0 rfl) ?_
      refine m_bald X Y (aw_macKey _ _ _ _ _ _ _) (vp_in_nI (by omega) (by decide)) d_macEnd_26 ?_
      refine t_any (fun v70 => ?_)
      refine lv_bipush (v := (nI 92)) X.1 X.2.1 d_macEnd_27 (by decide) ?_
      refine lv_ixor X.1 X.2.1 d_macEnd_29 ?_
      refine t_any (fun v71 => ?_)
      refine m_callv (As := [.int v71]) (rest := []) (n := 1) X Y hZ hA hml hl.1 (c_hash l D E h q H.size I28 J B29 G v71 (0 + i25) hk32 (by omega)) kl_hash ks_hash kx_hash ki_hash ini_M hd_hash ⟨by decide, by decide⟩ rfl (Nat.le_of_ble_eq_true rfl) d_macEnd_30 ⟨Nat.le_refl _, Nat.le_refl _⟩ (fun u H locs hp Y => ?_)
      obtain ⟨I72, J73, B74, G75⟩ := u
      obtain ⟨hI76, eJ78, hB77, eG79, hk81⟩ := hp
      dsimp only at hI76 eJ78 hB77 eG79 hk81 Y
      rw [eJ78, eG79] at Y
      have hI82 : (∀ j, j ≠ 8 → I72 j = I j) := fun j h8 => (hI76 j h8).trans ((fun j h8 => (hI31 j h8)) j h8)
      have hB83 : (∀ j, j ≠ 5 → j ≠ 6 → j ≠ 7 → j ≠ 9 → j ≠ 10 → B74 j = B j) := fun j h5 h6 h7 h9 h10 => (hB77 j h5 h6 h7).trans ((fun j h5 h6 h7 h9 h10 => (hB30 j h5 h6 h7 h9 h10)) j h5 h6 h7 h9 h10)
      refine lv_iinc (v := (nI (i25 + 1))) (lv' := [(1, .int (nI (i25 + 1))), (0, .ref h)]) X.1 X.2.1 d_macEnd_33 hl (k := 0) rfl (nI_add _ 1) (by decide) rfl (fun ls hl => ?_)
      refine lv_goto (tgt := 14) X.1 X.2.1 d_macEnd_36 (by decide) ?_
      exact ih26 (i25 + 1) I72 B74 _ _ _ (by omega) (by omega) (fun j h5 h6 h7 h9 h10 => (hB83 j h5 h6 h7 h9 h10)) (fun j h8 => (hI82 j h8)) ((show I72 8 = nI ((0 + i25) + 1) from hk81).trans (congrArg nI (show ((0 + i25) + 1 : Nat) = 0 + (i25 + 1) by omega)))  Y (lv_sub hl [0, 1] rfl)
  exact lp27 (64) 0 I12 B14 _ _ _ (by omega) (by omega) (fun j h5 h6 h7 h9 h10 => (hB23 j h5 h6 h7 h9 h10)) (fun j h8 => (hI22 j h8)) ((show I12 8 = nI (0) from hk21).trans (congrArg nI (show (0 : Nat) = 0 + 0 by omega)))  Y (lv_sub hl [0, 1] rfl)
set_option maxHeartbeats 4000000 in
set_option maxRecDepth 100000 in
theorem c_macKey_password (l : Launch) (D : mD) (E : mE) (h : Nat) (q : Nat → Nat) (sz : Nat) (I : Nat → Int32) (J : Nat → Int64) (B : Nat → Nat → Int32) (G : Nat → Nat → Int64) (n : Nat) (hn : n ≤ 30) : Met l y_macKey (k_macKey :: lw_tg) (mR 3 75) (va_Pc [.ref h, .ref (q 25), .int (nI n)] (mPre D E h q (I, J, B, G) sz)) (va_Qv (fun (u : mS) => (∀ j, u.1 j = I j) ∧ u.2.1 = J ∧ (∀ j, j ≠ 11 → u.2.2.1 j = B j) ∧ u.2.2.2 = G) (mPost D E h q (mA E h q sz)) (mA E h q sz)) 0 0 (mA E h q sz) := by
  refine m_enter (by decide) rfl (Nat.le_of_ble_eq_true rfl) (fun p e s m below meth c ls AV QQ H locs hQQ X Y hZ hA hr hlk hml hl => ?_)
  have Y : mH D E (mA E h q sz) s.heap h q I J B G H locs := Y
  have hl : lv_has ls 4 [(0, .ref h), (1, .ref (q 25)), (2, .int (nI n))] := hl
  refine lv_iconst (v := (nI 0)) X.1 X.2.1 d_macKey_0 (by decide) ?_
  refine lv_istore_n (lv' := [(3, .int (nI 0)), (0, .ref h), (1, .ref (q 25)), (2, .int (nI n))]) X.1 X.2.1 d_macKey_1 rfl hl (by decide) rfl (fun ls hl => ?_)
  have lp4 : ∀ (n1 i2 : Nat) (B5 : Nat → Nat → Int32) (H : Heap) (locs : List Loc) (ls : Array Slot), i2 + n1 = 64 → 0 ≤ i2 → (∀ j, j ≠ 11 → B5 j = B j) → mH D E (mA E h q sz) s.heap h q I J B5 G H locs → lv_has ls 4 [(3, .int (nI i2)), (0, .ref h), (1, .ref (q 25)), (2, .int (nI n))] → W p l e (mR 3 75) s m AV below meth c H locs 0 0 QQ (F0 m 2 ls []) := by
    intro n1
    induction n1 with
    | zero =>
      intro i2 B5 H locs ls hii2 hsi2 hB6  Y hl
      refine lv_iload_n X.1 X.2.1 d_macKey_2 rfl (lv_at hl 0 rfl) ?_
      refine lv_bipush (v := (nI 64)) X.1 X.2.1 d_macKey_3 (by decide) ?_
      refine lv_icmp_ge (tgt := 38) X.1 X.2.1 d_macKey_5 (by decide) (fun c7 => ?_) (fun c7 => absurd ?_ c7)
      rotate_left
      · (rw [nI_leI (by omega) (by omega)] <;> omega)
      rw [nI_leI (by omega) (by omega)] at c7
      refine lv_iload_n X.1 X.2.1 d_macKey_38 rfl (lv_at hl 3 rfl) ?_
      refine lv_bipush (v := (nI 64)) X.1 X.2.1 d_macKey_39 (by decide) ?_
      refine lv_icmp_gt (tgt := 45) X.1 X.2.1 d_macKey_41 (by decide) (fun c8 => absurd c8 ?_) (fun c8 => ?_)
      · (rw [nI_ltI (by omega) (by omega)] <;> omega)
      rw [nI_ltI (by omega) (by omega)] at c8
      exact m_retv hQQ X Y hr hlk ⟨(fun j  => rfl), rfl, (fun j h11 => (hB6 j h11)), rfl⟩ d_macKey_44
    | succ n1 ih3 =>
      intro i2 B5 H locs ls hii2 hsi2 hB6  Y hl
      refine lv_iload_n X.1 X.2.1 d_macKey_2 rfl (lv_at hl 0 rfl) ?_
      refine lv_bipush (v := (nI 64)) X.1 X.2.1 d_macKey_3 (by decide) ?_
      refine lv_icmp_ge (tgt := 38) X.1 X.2.1 d_macKey_5 (by decide) (fun c9 => absurd c9 ?_) (fun c9 => ?_)
      · (rw [nI_leI (by omega) (by omega)] <;> omega)
      rw [nI_leI (by omega) (by omega)] at c9
      refine lv_aload_n X.1 X.2.1 d_macKey_8 rfl (lv_at hl 1 rfl) ?_
      refine m_get X Y 11 (by decide) lk_macKey (gf_macKey _ _ _) rfl d_macKey_9 ?_
      refine lv_iload_n X.1 X.2.1 d_macKey_12 rfl (lv_at hl 0 rfl) ?_
      have jn11 : ∀ w10 : Int32, W p l e (mR 3 75) s m AV below meth c H locs 0 0 QQ (F0 m 31 ls [.int w10, .int (nI i2), .ref (q 11)]) := by
        intro w10
        refine m_bast X Y (aw_macKey _ _ _ _ _ _ _) (vp_in_nI (by omega) (by decide)) (sw_macKey _ _ _ _ _ _ _ _) d_macKey_31 (fun H locs Y => ?_)
        generalize (upd (B5 11) ((nI i2)).toNatClampNeg (vp_nar .byte w10)) = f12 at Y
        refine lv_iinc (v := (nI (i2 + 1))) (lv' := [(3, .int (nI (i2 + 1))), (0, .ref h), (1, .ref (q 25)), (2, .int (nI n))]) X.1 X.2.1 d_macKey_32 hl (k := 0) rfl (nI_add _ 1) (by decide) rfl (fun ls hl => ?_)
        refine lv_goto (tgt := 2) X.1 X.2.1 d_macKey_35 (by decide) ?_
        exact ih3 (i2 + 1) (upB B5 11 f12) _ _ _ (by omega) (by omega) (fun j h11 => ((if_neg h11).trans (hB6 j h11)))  Y (lv_sub hl [0, 1, 2, 3] rfl)
      refine lv_iload_n X.1 X.2.1 d_macKey_13 rfl (lv_at hl 3 rfl) ?_
      refine lv_bipush (v := (nI 64)) X.1 X.2.1 d_macKey_14 (by decide) ?_
      refine lv_icmp_gt (tgt := 30) X.1 X.2.1 d_macKey_16 (by decide) (fun c13 => absurd c13 ?_) (fun c13 => ?_)
      · (rw [nI_ltI (by omega) (by omega)] <;> omega)
      rw [nI_ltI (by omega) (by omega)] at c13
      refine lv_iload_n X.1 X.2.1 d_macKey_19 rfl (lv_at hl 0 rfl) ?_
      refine lv_iload_n X.1 X.2.1 d_macKey_20 rfl (lv_at hl 3 rfl) ?_
      refine lv_icmp_ge (tgt := 30) X.1 X.2.1 d_macKey_21 (by decide) (fun c14 => ?_) (fun c14 => ?_)
      · skip
        rw [nI_leI (by omega) (by omega)] at c14
        refine lv_iconst (v := (nI 0)) X.1 X.2.1 d_macKey_30 (by decide) ?_
        exact jn11 _
      · skip
        rw [nI_leI (by omega) (by omega)] at c14
        refine lv_aload_n X.1 X.2.1 d_macKey_24 rfl (lv_at hl 2 rfl) ?_
        refine lv_iload_n X.1 X.2.1 d_macKey_25 rfl (lv_at hl 0 rfl) ?_
        refine m_bald X Y (aw_password _ _ _ _ _ _ _) (vp_in_nI (by omega) (by decide)) d_macKey_26 ?_
        refine t_any (fun v15 => ?_)
        refine lv_goto (tgt := 31) X.1 X.2.1 d_macKey_27 (by decide) ?_
        exact jn11 _
  exact lp4 (64) 0 B _ _ _ (by omega) (by omega) (fun j h11 => rfl)  Y (lv_sub hl [0, 1, 2, 3] rfl)
set_option maxHeartbeats 4000000 in
set_option maxRecDepth 100000 in
theorem c_macKey_seed (l : Launch) (D : mD) (E : mE) (h : Nat) (q : Nat → Nat) (sz : Nat) (I : Nat → Int32) (J : Nat → Int64) (B : Nat → Nat → Int32) (G : Nat → Nat → Int64) (n : Nat) (hn : n ≤ 64) : Met l y_macKey (k_macKey :: lw_tg) (mR 3 75) (va_Pc [.ref h, .ref (q 31), .int (nI n)] (mPre D E h q (I, J, B, G) sz)) (va_Qv (fun (u : mS) => (∀ j, u.1 j = I j) ∧ u.2.1 = J ∧ (∀ j, j ≠ 11 → u.2.2.1 j = B j) ∧ u.2.2.2 = G) (mPost D E h q (mA E h q sz)) (mA E h q sz)) 0 0 (mA E h q sz) := by
  refine m_enter (by decide) rfl (Nat.le_of_ble_eq_true rfl) (fun p e s m below meth c ls AV QQ H locs hQQ X Y hZ hA hr hlk hml hl => ?_)
  have Y : mH D E (mA E h q sz) s.heap h q I J B G H locs := Y
  have hl : lv_has ls 4 [(0, .ref h), (1, .ref (q 31)), (2, .int (nI n))] := hl
  refine lv_iconst (v := (nI 0)) X.1 X.2.1 d_macKey_0 (by decide) ?_
  refine lv_istore_n (lv' := [(3, .int (nI 0)), (0, .ref h), (1, .ref (q 31)), (2, .int (nI n))]) X.1 X.2.1 d_macKey_1 rfl hl (by decide) rfl (fun ls hl => ?_)
  have lp4 : ∀ (n1 i2 : Nat) (B5 : Nat → Nat → Int32) (H : Heap) (locs : List Loc) (ls : Array Slot), i2 + n1 = 64 → 0 ≤ i2 → (∀ j, j ≠ 11 → B5 j = B j) → mH D E (mA E h q sz) s.heap h q I J B5 G H locs → lv_has ls 4 [(3, .int (nI i2)), (0, .ref h), (1, .ref (q 31)), (2, .int (nI n))] → W p l e (mR 3 75) s m AV below meth c H locs 0 0 QQ (F0 m 2 ls []) := by
    intro n1
    induction n1 with
    | zero =>
      intro i2 B5 H locs ls hii2 hsi2 hB6  Y hl
      refine lv_iload_n X.1 X.2.1 d_macKey_2 rfl (lv_at hl 0 rfl) ?_
      refine lv_bipush (v := (nI 64)) X.1 X.2.1 d_macKey_3 (by decide) ?_
      refine lv_icmp_ge (tgt := 38) X.1 X.2.1 d_macKey_5 (by decide) (fun c7 => ?_) (fun c7 => absurd ?_ c7)
      rotate_left
      · (rw [nI_leI (by omega) (by omega)] <;> omega)
      rw [nI_leI (by omega) (by omega)] at c7
      refine lv_iload_n X.1 X.2.1 d_macKey_38 rfl (lv_at hl 3 rfl) ?_
      refine lv_bipush (v := (nI 64)) X.1 X.2.1 d_macKey_39 (by decide) ?_
      refine lv_icmp_gt (tgt := 45) X.1 X.2.1 d_macKey_41 (by decide) (fun c8 => absurd c8 ?_) (fun c8 => ?_)
      · (rw [nI_ltI (by omega) (by omega)] <;> omega)
      rw [nI_ltI (by omega) (by omega)] at c8
      exact m_retv hQQ X Y hr hlk ⟨(fun j  => rfl), rfl, (fun j h11 => (hB6 j h11)), rfl⟩ d_macKey_44
    | succ n1 ih3 =>
      intro i2 B5 H locs ls hii2 hsi2 hB6  Y hl
      refine lv_iload_n X.1 X.2.1 d_macKey_2 rfl (lv_at hl 0 rfl) ?_
      refine lv_bipush (v := (nI 64)) X.1 X.2.1 d_macKey_3 (by decide) ?_
      refine lv_icmp_ge (tgt := 38) X.1 X.2.1 d_macKey_5 (by decide) (fun c9 => absurd c9 ?_) (fun c9 => ?_)
      · (rw [nI_leI (by omega) (by omega)] <;> omega)
      rw [nI_leI (by omega) (by omega)] at c9
      refine lv_aload_n X.1 X.2.1 d_macKey_8 rfl (lv_at hl 1 rfl) ?_
      refine m_get X Y 11 (by decide) lk_macKey (gf_macKey _ _ _) rfl d_macKey_9 ?_
      refine lv_iload_n X.1 X.2.1 d_macKey_12 rfl (lv_at hl 0 rfl) ?_
      have jn11 : ∀ w10 : Int32, W p l e (mR 3 75) s m AV below meth c H locs 0 0 QQ (F0 m 31 ls [.int w10, .int (nI i2), .ref (q 11)]) := by
        intro w10
        refine m_bast X Y (aw_macKey _ _ _ _ _ _ _) (vp_in_nI (by omega) (by decide)) (sw_macKey _ _ _ _ _ _ _ _) d_macKey_31 (fun H locs Y => ?_)
        generalize (upd (B5 11) ((nI i2)).toNatClampNeg (vp_nar .byte w10)) = f12 at Y
        refine lv_iinc (v := (nI (i2 + 1))) (lv' := [(3, .int (nI (i2 + 1))), (0, .ref h), (1, .ref (q 31)), (2, .int (nI n))]) X.1 X.2.1 d_macKey_32 hl (k := 0) rfl (nI_add _ 1) (by decide) rfl (fun ls hl => ?_)
        refine lv_goto (tgt := 2) X.1 X.2.1 d_macKey_35 (by decide) ?_
        exact ih3 (i2 + 1) (upB B5 11 f12) _ _ _ (by omega) (by omega) (fun j h11 => ((if_neg h11).trans (hB6 j h11)))  Y (lv_sub hl [0, 1, 2, 3] rfl)
      refine lv_iload_n X.1 X.2.1 d_macKey_13 rfl (lv_at hl 3 rfl) ?_
      refine lv_bipush (v := (nI 64)) X.1 X.2.1 d_macKey_14 (by decide) ?_
      refine lv_icmp_gt (tgt := 30) X.1 X.2.1 d_macKey_16 (by decide) (fun c13 => absurd c13 ?_) (fun c13 => ?_)
      · (rw [nI_ltI (by omega) (by omega)] <;> omega)
      rw [nI_ltI (by omega) (by omega)] at c13
      refine lv_iload_n X.1 X.2.1 d_macKey_19 rfl (lv_at hl 0 rfl) ?_
      refine lv_iload_n X.1 X.2.1 d_macKey_20 rfl (lv_at hl 3 rfl) ?_
      refine lv_icmp_ge (tgt := 30) X.1 X.2.1 d_macKey_21 (by decide) (fun c14 => ?_) (fun c14 => ?_)
      · skip
        rw [nI_leI (by omega) (by omega)] at c14
        refine lv_iconst (v := (nI 0)) X.1 X.2.1 d_macKey_30 (by decide) ?_
        exact jn11 _
      · skip
        rw [nI_leI (by omega) (by omega)] at c14
        refine lv_aload_n X.1 X.2.1 d_macKey_24 rfl (lv_at hl 2 rfl) ?_
        refine lv_iload_n X.1 X.2.1 d_macKey_25 rfl (lv_at hl 0 rfl) ?_
        refine m_bald X Y (aw_seed _ _ _ _ _ _ _) (vp_in_nI (by omega) (by decide)) d_macKey_26 ?_
        refine t_any (fun v15 => ?_)
        refine lv_goto (tgt := 31) X.1 X.2.1 d_macKey_27 (by decide) ?_
        exact jn11 _
  exact lp4 (64) 0 B _ _ _ (by omega) (by omega) (fun j h11 => rfl)  Y (lv_sub hl [0, 1, 2, 3] rfl)
set_option maxHeartbeats 4000000 in
set_option maxRecDepth 100000 in
theorem c_macKey_use (l : Launch) (D : mD) (E : mE) (h : Nat) (q : Nat → Nat) (sz : Nat) (I : Nat → Int32) (J : Nat → Int64) (B : Nat → Nat → Int32) (G : Nat → Nat → Int64) (n : Nat) (hn : n ≤ 32) : Met l y_macKey (k_macKey :: lw_tg) (mR 3 75) (va_Pc [.ref h, .ref (q 23), .int (nI n)] (mPre D E h q (I, J, B, G) sz)) (va_Qv (fun (u : mS) => (∀ j, u.1 j = I j) ∧ u.2.1 = J ∧ (∀ j, j ≠ 11 → u.2.2.1 j = B j) ∧ u.2.2.2 = G) (mPost D E h q (mA E h q sz)) (mA E h q sz)) 0 0 (mA E h q sz) := by
  refine m_enter (by decide) rfl (Nat.le_of_ble_eq_true rfl) (fun p e s m below meth c ls AV QQ H locs hQQ X Y hZ hA hr hlk hml hl => ?_)
  have Y : mH D E (mA E h q sz) s.heap h q I J B G H locs := Y
  have hl : lv_has ls 4 [(0, .ref h), (1, .ref (q 23)), (2, .int (nI n))] := hl
  refine lv_iconst (v := (nI 0)) X.1 X.2.1 d_macKey_0 (by decide) ?_
  refine lv_istore_n (lv' := [(3, .int (nI 0)), (0, .ref h), (1, .ref (q 23)), (2, .int (nI n))]) X.1 X.2.1 d_macKey_1 rfl hl (by decide) rfl (fun ls hl => ?_)
  have lp4 : ∀ (n1 i2 : Nat) (B5 : Nat → Nat → Int32) (H : Heap) (locs : List Loc) (ls : Array Slot), i2 + n1 = 64 → 0 ≤ i2 → (∀ j, j ≠ 11 → B5 j = B j) → mH D E (mA E h q sz) s.heap h q I J B5 G H locs → lv_has ls 4 [(3, .int (nI i2)), (0, .ref h), (1, .ref (q 23)), (2, .int (nI n))] → W p l e (mR 3 75) s m AV below meth c H locs 0 0 QQ (F0 m 2 ls []) := by
    intro n1
    induction n1 with
    | zero =>
      intro i2 B5 H locs ls hii2 hsi2 hB6  Y hl
      refine lv_iload_n X.1 X.2.1 d_macKey_2 rfl (lv_at hl 0 rfl) ?_
      refine lv_bipush (v := (nI 64)) X.1 X.2.1 d_macKey_3 (by decide) ?_
      refine lv_icmp_ge (tgt := 38) X.1 X.2.1 d_macKey_5 (by decide) (fun c7 => ?_) (fun c7 => absurd ?_ c7)
      rotate_left
      · (rw [nI_leI (by omega) (by omega)] <;> omega)
      rw [nI_leI (by omega) (by omega)] at c7
      refine lv_iload_n X.1 X.2.1 d_macKey_38 rfl (lv_at hl 3 rfl) ?_
      refine lv_bipush (v := (nI 64)) X.1 X.2.1 d_macKey_39 (by decide) ?_
      refine lv_icmp_gt (tgt := 45) X.1 X.2.1 d_macKey_41 (by decide) (fun c8 => absurd c8 ?_) (fun c8 => ?_)
      · (rw [nI_ltI (by omega) (by omega)] <;> omega)
      rw [nI_ltI (by omega) (by omega)] at c8
      exact m_retv hQQ X Y hr hlk ⟨(fun j  => rfl), rfl, (fun j h11 => (hB6 j h11)), rfl⟩ d_macKey_44
    | succ n1 ih3 =>
      intro i2 B5 H locs ls hii2 hsi2 hB6  Y hl
      refine lv_iload_n X.1 X.2.1 d_macKey_2 rfl (lv_at hl 0 rfl) ?_
      refine lv_bipush (v := (nI 64)) X.1 X.2.1 d_macKey_3 (by decide) ?_
      refine lv_icmp_ge (tgt := 38) X.1 X.2.1 d_macKey_5 (by decide) (fun c9 => absurd c9 ?_) (fun c9 => ?_)
      · (rw [nI_leI (by omega) (by omega)] <;> omega)
      rw [nI_leI (by omega) (by omega)] at c9
      refine lv_aload_n X.1 X.2.1 d_macKey_8 rfl (lv_at hl 1 rfl) ?_
      refine m_get X Y 11 (by decide) lk_macKey (gf_macKey _ _ _) rfl d_macKey_9 ?_
      refine lv_iload_n X.1 X.2.1 d_macKey_12 rfl (lv_at hl 0 rfl) ?_
      have jn11 : ∀ w10 : Int32, W p l e (mR 3 75) s m AV below meth c H locs 0 0 QQ (F0 m 31 ls [.int w10, .int (nI i2), .ref (q 11)]) := by
        intro w10
        refine m_bast X Y (aw_macKey _ _ _ _ _ _ _) (vp_in_nI (by omega) (by decide)) (sw_macKey _ _ _ _ _ _ _ _) d_macKey_31 (fun H locs Y => ?_)
        generalize (upd (B5 11) ((nI i2)).toNatClampNeg (vp_nar .byte w10)) = f12 at Y
        refine lv_iinc (v := (nI (i2 + 1))) (lv' := [(3, .int (nI (i2 + 1))), (0, .ref h), (1, .ref (q 23)), (2, .int (nI n))]) X.1 X.2.1 d_macKey_32 hl (k := 0) rfl (nI_add _ 1) (by decide) rfl (fun ls hl => ?_)
        refine lv_goto (tgt := 2) X.1 X.2.1 d_macKey_35 (by decide) ?_
        exact ih3 (i2 + 1) (upB B5 11 f12) _ _ _ (by omega) (by omega) (fun j h11 => ((if_neg h11).trans (hB6 j h11)))  Y (lv_sub hl [0, 1, 2, 3] rfl)
      refine lv_iload_n X.1 X.2.1 d_macKey_13 rfl (lv_at hl 3 rfl) ?_
      refine lv_bipush (v := (nI 64)) X.1 X.2.1 d_macKey_14 (by decide) ?_
      refine lv_icmp_gt (tgt := 30) X.1 X.2.1 d_macKey_16 (by decide) (fun c13 => absurd c13 ?_) (fun c13 => ?_)
      · (rw [nI_ltI (by omega) (by omega)] <;> omega)
      rw [nI_ltI (by omega) (by omega)] at c13
      refine lv_iload_n X.1 X.2.1 d_macKey_19 rfl (lv_at hl 0 rfl) ?_
      refine lv_iload_n X.1 X.2.1 d_macKey_20 rfl (lv_at hl 3 rfl) ?_
      refine lv_icmp_ge (tgt := 30) X.1 X.2.1 d_macKey_21 (by decide) (fun c14 => ?_) (fun c14 => ?_)
      · skip
        rw [nI_leI (by omega) (by omega)] at c14
        refine lv_iconst (v := (nI 0)) X.1 X.2.1 d_macKey_30 (by decide) ?_
        exact jn11 _
      · skip
        rw [nI_leI (by omega) (by omega)] at c14
        refine lv_aload_n X.1 X.2.1 d_macKey_24 rfl (lv_at hl 2 rfl) ?_
        refine lv_iload_n X.1 X.2.1 d_macKey_25 rfl (lv_at hl 0 rfl) ?_
        refine m_bald X Y (aw_use _ _ _ _ _ _ _) (vp_in_nI (by omega) (by decide)) d_macKey_26 ?_
        refine t_any (fun v15 => ?_)
        refine lv_goto (tgt := 31) X.1 X.2.1 d_macKey_27 (by decide) ?_
        exact jn11 _
  exact lp4 (64) 0 B _ _ _ (by omega) (by omega) (fun j h11 => rfl)  Y (lv_sub hl [0, 1, 2, 3] rfl)
end
section
abbrev b_makeBox : ByteArray := prog_14_method_17_code
def y_makeBox : MethodName := ⟨R_M, "makeBox", "()V"⟩
abbrev k_makeBox : Cond := .code y_makeBox b_makeBox 6 none
theorem ki_makeBox : k_makeBox ∈ lw_tg := in_t 1853 (by decide +kernel)
theorem ks_makeBox : Cond.instanceMethod y_makeBox ∈ lw_tg := in_t 1852 (by decide +kernel)
theorem kl_makeBox : Cond.methodLink R_M 392 y_makeBox ∈ lw_tg := in_t 1850 (by decide +kernel)
theorem d_makeBox_0 : decode b_makeBox 0 = .ok (.aload_n 0, 1) := by decide +kernel
theorem d_makeBox_1 : decode b_makeBox 1 = .ok (.iconst 1, 1) := by decide +kernel
theorem d_makeBox_2 : decode b_makeBox 2 = .ok (.putfield 385, 3) := by decide +kernel
theorem d_makeBox_5 : decode b_makeBox 5 = .ok (.iconst 0, 1) := by decide +kernel
theorem d_makeBox_6 : decode b_makeBox 6 = .ok (.istore_n 1, 1) := by decide +kernel
theorem d_makeBox_7 : decode b_makeBox 7 = .ok (.iload_n 1, 1) := by decide +kernel
theorem d_makeBox_8 : decode b_makeBox 8 = .ok (.sipush 256, 3) := by decide +kernel
theorem d_makeBox_11 : decode b_makeBox 11 = .ok (.if_icmp .ge 128, 3) := by decide +kernel
theorem d_makeBox_14 : decode b_makeBox 14 = .ok (.iconst 1, 1) := by decide +kernel
theorem d_makeBox_15 : decode b_makeBox 15 = .ok (.istore_n 2, 1) := by decide +kernel
theorem d_makeBox_16 : decode b_makeBox 16 = .ok (.iconst 0, 1) := by decide +kernel
theorem d_makeBox_17 : decode b_makeBox 17 = .ok (.istore_n 3, 1) := by decide +kernel
theorem d_makeBox_18 : decode b_makeBox 18 = .ok (.iload_n 3, 1) := by decide +kernel
theorem d_makeBox_19 : decode b_makeBox 19 = .ok (.sipush 254, 3) := by decide +kernel
theorem d_makeBox_22 : decode b_makeBox 22 = .ok (.if_icmp .ge 15, 3) := by decide +kernel
theorem d_makeBox_25 : decode b_makeBox 25 = .ok (.iload_n 2, 1) := by decide +kernel
theorem d_makeBox_26 : decode b_makeBox 26 = .ok (.iload_n 1, 1) := by decide +kernel
theorem d_makeBox_27 : decode b_makeBox 27 = .ok (.invokestatic 389, 3) := by decide +kernel
theorem d_makeBox_30 : decode b_makeBox 30 = .ok (.istore_n 2, 1) := by decide +kernel
theorem d_makeBox_31 : decode b_makeBox 31 = .ok (.iinc 3 1, 3) := by decide +kernel
theorem d_makeBox_34 : decode b_makeBox 34 = .ok (.goto (-16), 3) := by decide +kernel
theorem d_makeBox_37 : decode b_makeBox 37 = .ok (.iconst 0, 1) := by decide +kernel
theorem d_makeBox_38 : decode b_makeBox 38 = .ok (.istore_n 3, 1) := by decide +kernel
theorem d_makeBox_39 : decode b_makeBox 39 = .ok (.iconst 0, 1) := by decide +kernel
theorem d_makeBox_40 : decode b_makeBox 40 = .ok (.istore 4, 2) := by decide +kernel
theorem d_makeBox_42 : decode b_makeBox 42 = .ok (.iload 4, 2) := by decide +kernel
theorem d_makeBox_44 : decode b_makeBox 44 = .ok (.bipush 8, 2) := by decide +kernel
theorem d_makeBox_46 : decode b_makeBox 46 = .ok (.if_icmp .ge 73, 3) := by decide +kernel
theorem d_makeBox_49 : decode b_makeBox 49 = .ok (.iload_n 2, 1) := by decide +kernel
theorem d_makeBox_50 : decode b_makeBox 50 = .ok (.iload 4, 2) := by decide +kernel
theorem d_makeBox_52 : decode b_makeBox 52 = .ok (.ishr, 1) := by decide +kernel
theorem d_makeBox_53 : decode b_makeBox 53 = .ok (.iload_n 2, 1) := by decide +kernel
theorem d_makeBox_54 : decode b_makeBox 54 = .ok (.iload 4, 2) := by decide +kernel
theorem d_makeBox_56 : decode b_makeBox 56 = .ok (.iconst 4, 1) := by decide +kernel
theorem d_makeBox_57 : decode b_makeBox 57 = .ok (.iadd, 1) := by decide +kernel
theorem d_makeBox_58 : decode b_makeBox 58 = .ok (.bipush 8, 2) := by decide +kernel
theorem d_makeBox_60 : decode b_makeBox 60 = .ok (.irem, 1) := by decide +kernel
theorem d_makeBox_61 : decode b_makeBox 61 = .ok (.ishr, 1) := by decide +kernel
theorem d_makeBox_62 : decode b_makeBox 62 = .ok (.ixor, 1) := by decide +kernel
theorem d_makeBox_63 : decode b_makeBox 63 = .ok (.iload_n 2, 1) := by decide +kernel
theorem d_makeBox_64 : decode b_makeBox 64 = .ok (.iload 4, 2) := by decide +kernel
theorem d_makeBox_66 : decode b_makeBox 66 = .ok (.iconst 5, 1) := by decide +kernel
theorem d_makeBox_67 : decode b_makeBox 67 = .ok (.iadd, 1) := by decide +kernel
theorem d_makeBox_68 : decode b_makeBox 68 = .ok (.bipush 8, 2) := by decide +kernel
theorem d_makeBox_70 : decode b_makeBox 70 = .ok (.irem, 1) := by decide +kernel
theorem d_makeBox_71 : decode b_makeBox 71 = .ok (.ishr, 1) := by decide +kernel
theorem d_makeBox_72 : decode b_makeBox 72 = .ok (.ixor, 1) := by decide +kernel
theorem d_makeBox_73 : decode b_makeBox 73 = .ok (.iload_n 2, 1) := by decide +kernel
theorem d_makeBox_74 : decode b_makeBox 74 = .ok (.iload 4, 2) := by decide +kernel
theorem d_makeBox_76 : decode b_makeBox 76 = .ok (.bipush 6, 2) := by decide +kernel
theorem d_makeBox_78 : decode b_makeBox 78 = .ok (.iadd, 1) := by decide +kernel
theorem d_makeBox_79 : decode b_makeBox 79 = .ok (.bipush 8, 2) := by decide +kernel
theorem d_makeBox_81 : decode b_makeBox 81 = .ok (.irem, 1) := by decide +kernel
theorem d_makeBox_82 : decode b_makeBox 82 = .ok (.ishr, 1) := by decide +kernel
theorem d_makeBox_83 : decode b_makeBox 83 = .ok (.ixor, 1) := by decide +kernel
theorem d_makeBox_84 : decode b_makeBox 84 = .ok (.iload_n 2, 1) := by decide +kernel
theorem d_makeBox_85 : decode b_makeBox 85 = .ok (.iload 4, 2) := by decide +kernel
theorem d_makeBox_87 : decode b_makeBox 87 = .ok (.bipush 7, 2) := by decide +kernel
theorem d_makeBox_89 : decode b_makeBox 89 = .ok (.iadd, 1) := by decide +kernel
theorem d_makeBox_90 : decode b_makeBox 90 = .ok (.bipush 8, 2) := by decide +kernel
theorem d_makeBox_92 : decode b_makeBox 92 = .ok (.irem, 1) := by decide +kernel
theorem d_makeBox_93 : decode b_makeBox 93 = .ok (.ishr, 1) := by decide +kernel
theorem d_makeBox_94 : decode b_makeBox 94 = .ok (.ixor, 1) := by decide +kernel
theorem d_makeBox_95 : decode b_makeBox 95 = .ok (.bipush 99, 2) := by decide +kernel
theorem d_makeBox_97 : decode b_makeBox 97 = .ok (.iload 4, 2) := by decide +kernel
theorem d_makeBox_99 : decode b_makeBox 99 = .ok (.ishr, 1) := by decide +kernel
theorem d_makeBox_100 : decode b_makeBox 100 = .ok (.ixor, 1) := by decide +kernel
theorem d_makeBox_101 : decode b_makeBox 101 = .ok (.istore 5, 2) := by decide +kernel
theorem d_makeBox_103 : decode b_makeBox 103 = .ok (.iload_n 3, 1) := by decide +kernel
theorem d_makeBox_104 : decode b_makeBox 104 = .ok (.iload 5, 2) := by decide +kernel
theorem d_makeBox_106 : decode b_makeBox 106 = .ok (.iconst 1, 1) := by decide +kernel
theorem d_makeBox_107 : decode b_makeBox 107 = .ok (.iand, 1) := by decide +kernel
theorem d_makeBox_108 : decode b_makeBox 108 = .ok (.iload 4, 2) := by decide +kernel
theorem d_makeBox_110 : decode b_makeBox 110 = .ok (.ishl, 1) := by decide +kernel
theorem d_makeBox_111 : decode b_makeBox 111 = .ok (.ior, 1) := by decide +kernel
theorem d_makeBox_112 : decode b_makeBox 112 = .ok (.istore_n 3, 1) := by decide +kernel
theorem d_makeBox_113 : decode b_makeBox 113 = .ok (.iinc 4 1, 3) := by decide +kernel
theorem d_makeBox_116 : decode b_makeBox 116 = .ok (.goto (-74), 3) := by decide +kernel
theorem d_makeBox_119 : decode b_makeBox 119 = .ok (.aload_n 0, 1) := by decide +kernel
theorem d_makeBox_120 : decode b_makeBox 120 = .ok (.getfield 41, 3) := by decide +kernel
theorem d_makeBox_123 : decode b_makeBox 123 = .ok (.iload_n 1, 1) := by decide +kernel
theorem d_makeBox_124 : decode b_makeBox 124 = .ok (.iload_n 3, 1) := by decide +kernel
theorem d_makeBox_125 : decode b_makeBox 125 = .ok (.iastore, 1) := by decide +kernel
theorem d_makeBox_126 : decode b_makeBox 126 = .ok (.aload_n 0, 1) := by decide +kernel
theorem d_makeBox_127 : decode b_makeBox 127 = .ok (.getfield 44, 3) := by decide +kernel
theorem d_makeBox_130 : decode b_makeBox 130 = .ok (.iload_n 3, 1) := by decide +kernel
theorem d_makeBox_131 : decode b_makeBox 131 = .ok (.iload_n 1, 1) := by decide +kernel
theorem d_makeBox_132 : decode b_makeBox 132 = .ok (.iastore, 1) := by decide +kernel
theorem d_makeBox_133 : decode b_makeBox 133 = .ok (.iinc 1 1, 3) := by decide +kernel
theorem d_makeBox_136 : decode b_makeBox 136 = .ok (.goto (-129), 3) := by decide +kernel
theorem d_makeBox_139 : decode b_makeBox 139 = .ok (.return_, 1) := by decide +kernel
abbrev b_boxed : ByteArray := prog_14_method_18_code
def y_boxed : MethodName := ⟨R_M, "boxed", "(I)I"⟩
abbrev k_boxed : Cond := .code y_boxed b_boxed 2 (some .int)
theorem ki_boxed : k_boxed ∈ lw_tg := in_t 1863 (by decide +kernel)
theorem ks_boxed : Cond.instanceMethod y_boxed ∈ lw_tg := in_t 1862 (by decide +kernel)
theorem kl_boxed : Cond.methodLink R_M 398 y_boxed ∈ lw_tg := in_t 1860 (by decide +kernel)
theorem d_boxed_0 : decode b_boxed 0 = .ok (.aload_n 0, 1) := by decide +kernel
theorem d_boxed_1 : decode b_boxed 1 = .ok (.getfield 41, 3) := by decide +kernel
theorem d_boxed_4 : decode b_boxed 4 = .ok (.iload_n 1, 1) := by decide +kernel
theorem d_boxed_5 : decode b_boxed 5 = .ok (.bipush 24, 2) := by decide +kernel
theorem d_boxed_7 : decode b_boxed 7 = .ok (.iushr, 1) := by decide +kernel
theorem d_boxed_8 : decode b_boxed 8 = .ok (.iaload, 1) := by decide +kernel
theorem d_boxed_9 : decode b_boxed 9 = .ok (.bipush 24, 2) := by decide +kernel
theorem d_boxed_11 : decode b_boxed 11 = .ok (.ishl, 1) := by decide +kernel
theorem d_boxed_12 : decode b_boxed 12 = .ok (.aload_n 0, 1) := by decide +kernel
theorem d_boxed_13 : decode b_boxed 13 = .ok (.getfield 41, 3) := by decide +kernel
theorem d_boxed_16 : decode b_boxed 16 = .ok (.iload_n 1, 1) := by decide +kernel
theorem d_boxed_17 : decode b_boxed 17 = .ok (.bipush 16, 2) := by decide +kernel
theorem d_boxed_19 : decode b_boxed 19 = .ok (.iushr, 1) := by decide +kernel
theorem d_boxed_20 : decode b_boxed 20 = .ok (.sipush 255, 3) := by decide +kernel
theorem d_boxed_23 : decode b_boxed 23 = .ok (.iand, 1) := by decide +kernel
theorem d_boxed_24 : decode b_boxed 24 = .ok (.iaload, 1) := by decide +kernel
theorem d_boxed_25 : decode b_boxed 25 = .ok (.bipush 16, 2) := by decide +kernel
theorem d_boxed_27 : decode b_boxed 27 = .ok (.ishl, 1) := by decide +kernel
theorem d_boxed_28 : decode b_boxed 28 = .ok (.ior, 1) := by decide +kernel
theorem d_boxed_29 : decode b_boxed 29 = .ok (.aload_n 0, 1) := by decide +kernel
theorem d_boxed_30 : decode b_boxed 30 = .ok (.getfield 41, 3) := by decide +kernel
theorem d_boxed_33 : decode b_boxed 33 = .ok (.iload_n 1, 1) := by decide +kernel
theorem d_boxed_34 : decode b_boxed 34 = .ok (.bipush 8, 2) := by decide +kernel
theorem d_boxed_36 : decode b_boxed 36 = .ok (.iushr, 1) := by decide +kernel
theorem d_boxed_37 : decode b_boxed 37 = .ok (.sipush 255, 3) := by decide +kernel
theorem d_boxed_40 : decode b_boxed 40 = .ok (.iand, 1) := by decide +kernel
theorem d_boxed_41 : decode b_boxed 41 = .ok (.iaload, 1) := by decide +kernel
theorem d_boxed_42 : decode b_boxed 42 = .ok (.bipush 8, 2) := by decide +kernel
theorem d_boxed_44 : decode b_boxed 44 = .ok (.ishl, 1) := by decide +kernel
theorem d_boxed_45 : decode b_boxed 45 = .ok (.ior, 1) := by decide +kernel
theorem d_boxed_46 : decode b_boxed 46 = .ok (.aload_n 0, 1) := by decide +kernel
theorem d_boxed_47 : decode b_boxed 47 = .ok (.getfield 41, 3) := by decide +kernel
theorem d_boxed_50 : decode b_boxed 50 = .ok (.iload_n 1, 1) := by decide +kernel
theorem d_boxed_51 : decode b_boxed 51 = .ok (.sipush 255, 3) := by decide +kernel
theorem d_boxed_54 : decode b_boxed 54 = .ok (.iand, 1) := by decide +kernel
theorem d_boxed_55 : decode b_boxed 55 = .ok (.iaload, 1) := by decide +kernel
theorem d_boxed_56 : decode b_boxed 56 = .ok (.ior, 1) := by decide +kernel
theorem d_boxed_57 : decode b_boxed 57 = .ok (.ireturn, 1) := by decide +kernel
abbrev b_aesKey : ByteArray := prog_14_method_19_code
def y_aesKey : MethodName := ⟨R_M, "aesKey", "([BI)V"⟩
abbrev k_aesKey : Cond := .code y_aesKey b_aesKey 7 none
theorem ki_aesKey : k_aesKey ∈ lw_tg := in_t 1849 (by decide +kernel)
theorem ks_aesKey : Cond.instanceMethod y_aesKey ∈ lw_tg := in_t 1848 (by decide +kernel)
theorem kl_aesKey : Cond.methodLink R_M 408 y_aesKey ∈ lw_tg := in_t 1846 (by decide +kernel)
theorem d_aesKey_0 : decode b_aesKey 0 = .ok (.aload_n 0, 1) := by decide +kernel
theorem d_aesKey_1 : decode b_aesKey 1 = .ok (.getfield 385, 3) := by decide +kernel
theorem d_aesKey_4 : decode b_aesKey 4 = .ok (.ifCond .ne 7, 3) := by decide +kernel
theorem d_aesKey_7 : decode b_aesKey 7 = .ok (.aload_n 0, 1) := by decide +kernel
theorem d_aesKey_8 : decode b_aesKey 8 = .ok (.invokevirtual 392, 3) := by decide +kernel
theorem d_aesKey_11 : decode b_aesKey 11 = .ok (.iload_n 2, 1) := by decide +kernel
theorem d_aesKey_12 : decode b_aesKey 12 = .ok (.iconst 4, 1) := by decide +kernel
theorem d_aesKey_13 : decode b_aesKey 13 = .ok (.idiv, 1) := by decide +kernel
theorem d_aesKey_14 : decode b_aesKey 14 = .ok (.istore_n 3, 1) := by decide +kernel
theorem d_aesKey_15 : decode b_aesKey 15 = .ok (.aload_n 0, 1) := by decide +kernel
theorem d_aesKey_16 : decode b_aesKey 16 = .ok (.iload_n 3, 1) := by decide +kernel
theorem d_aesKey_17 : decode b_aesKey 17 = .ok (.bipush 6, 2) := by decide +kernel
theorem d_aesKey_19 : decode b_aesKey 19 = .ok (.iadd, 1) := by decide +kernel
theorem d_aesKey_20 : decode b_aesKey 20 = .ok (.putfield 395, 3) := by decide +kernel
theorem d_aesKey_23 : decode b_aesKey 23 = .ok (.iconst 0, 1) := by decide +kernel
theorem d_aesKey_24 : decode b_aesKey 24 = .ok (.istore 4, 2) := by decide +kernel
theorem d_aesKey_26 : decode b_aesKey 26 = .ok (.iload 4, 2) := by decide +kernel
theorem d_aesKey_28 : decode b_aesKey 28 = .ok (.iload_n 3, 1) := by decide +kernel
theorem d_aesKey_29 : decode b_aesKey 29 = .ok (.if_icmp .ge 70, 3) := by decide +kernel
theorem d_aesKey_32 : decode b_aesKey 32 = .ok (.aload_n 0, 1) := by decide +kernel
theorem d_aesKey_33 : decode b_aesKey 33 = .ok (.getfield 47, 3) := by decide +kernel
theorem d_aesKey_36 : decode b_aesKey 36 = .ok (.iload 4, 2) := by decide +kernel
theorem d_aesKey_38 : decode b_aesKey 38 = .ok (.aload_n 1, 1) := by decide +kernel
theorem d_aesKey_39 : decode b_aesKey 39 = .ok (.iconst 4, 1) := by decide +kernel
theorem d_aesKey_40 : decode b_aesKey 40 = .ok (.iload 4, 2) := by decide +kernel
theorem d_aesKey_42 : decode b_aesKey 42 = .ok (.imul, 1) := by decide +kernel
theorem d_aesKey_43 : decode b_aesKey 43 = .ok (.baload, 1) := by decide +kernel
theorem d_aesKey_44 : decode b_aesKey 44 = .ok (.bipush 24, 2) := by decide +kernel
theorem d_aesKey_46 : decode b_aesKey 46 = .ok (.ishl, 1) := by decide +kernel
theorem d_aesKey_47 : decode b_aesKey 47 = .ok (.aload_n 1, 1) := by decide +kernel
theorem d_aesKey_48 : decode b_aesKey 48 = .ok (.iconst 4, 1) := by decide +kernel
theorem d_aesKey_49 : decode b_aesKey 49 = .ok (.iload 4, 2) := by decide +kernel
theorem d_aesKey_51 : decode b_aesKey 51 = .ok (.imul, 1) := by decide +kernel
theorem d_aesKey_52 : decode b_aesKey 52 = .ok (.iconst 1, 1) := by decide +kernel
theorem d_aesKey_53 : decode b_aesKey 53 = .ok (.iadd, 1) := by decide +kernel
theorem d_aesKey_54 : decode b_aesKey 54 = .ok (.baload, 1) := by decide +kernel
theorem d_aesKey_55 : decode b_aesKey 55 = .ok (.sipush 255, 3) := by decide +kernel
theorem d_aesKey_58 : decode b_aesKey 58 = .ok (.iand, 1) := by decide +kernel
theorem d_aesKey_59 : decode b_aesKey 59 = .ok (.bipush 16, 2) := by decide +kernel
theorem d_aesKey_61 : decode b_aesKey 61 = .ok (.ishl, 1) := by decide +kernel
theorem d_aesKey_62 : decode b_aesKey 62 = .ok (.ior, 1) := by decide +kernel
theorem d_aesKey_63 : decode b_aesKey 63 = .ok (.aload_n 1, 1) := by decide +kernel
theorem d_aesKey_64 : decode b_aesKey 64 = .ok (.iconst 4, 1) := by decide +kernel
theorem d_aesKey_65 : decode b_aesKey 65 = .ok (.iload 4, 2) := by decide +kernel
theorem d_aesKey_67 : decode b_aesKey 67 = .ok (.imul, 1) := by decide +kernel
theorem d_aesKey_68 : decode b_aesKey 68 = .ok (.iconst 2, 1) := by decide +kernel
theorem d_aesKey_69 : decode b_aesKey 69 = .ok (.iadd, 1) := by decide +kernel
theorem d_aesKey_70 : decode b_aesKey 70 = .ok (.baload, 1) := by decide +kernel
theorem d_aesKey_71 : decode b_aesKey 71 = .ok (.sipush 255, 3) := by decide +kernel
theorem d_aesKey_74 : decode b_aesKey 74 = .ok (.iand, 1) := by decide +kernel
theorem d_aesKey_75 : decode b_aesKey 75 = .ok (.bipush 8, 2) := by decide +kernel
theorem d_aesKey_77 : decode b_aesKey 77 = .ok (.ishl, 1) := by decide +kernel
theorem d_aesKey_78 : decode b_aesKey 78 = .ok (.ior, 1) := by decide +kernel
theorem d_aesKey_79 : decode b_aesKey 79 = .ok (.aload_n 1, 1) := by decide +kernel
theorem d_aesKey_80 : decode b_aesKey 80 = .ok (.iconst 4, 1) := by decide +kernel
theorem d_aesKey_81 : decode b_aesKey 81 = .ok (.iload 4, 2) := by decide +kernel
theorem d_aesKey_83 : decode b_aesKey 83 = .ok (.imul, 1) := by decide +kernel
theorem d_aesKey_84 : decode b_aesKey 84 = .ok (.iconst 3, 1) := by decide +kernel
theorem d_aesKey_85 : decode b_aesKey 85 = .ok (.iadd, 1) := by decide +kernel
theorem d_aesKey_86 : decode b_aesKey 86 = .ok (.baload, 1) := by decide +kernel
theorem d_aesKey_87 : decode b_aesKey 87 = .ok (.sipush 255, 3) := by decide +kernel
theorem d_aesKey_90 : decode b_aesKey 90 = .ok (.iand, 1) := by decide +kernel
theorem d_aesKey_91 : decode b_aesKey 91 = .ok (.ior, 1) := by decide +kernel
theorem d_aesKey_92 : decode b_aesKey 92 = .ok (.iastore, 1) := by decide +kernel
theorem d_aesKey_93 : decode b_aesKey 93 = .ok (.iinc 4 1, 3) := by decide +kernel
theorem d_aesKey_96 : decode b_aesKey 96 = .ok (.goto (-70), 3) := by decide +kernel
theorem d_aesKey_99 : decode b_aesKey 99 = .ok (.iconst 1, 1) := by decide +kernel
theorem d_aesKey_100 : decode b_aesKey 100 = .ok (.istore 4, 2) := by decide +kernel
theorem d_aesKey_102 : decode b_aesKey 102 = .ok (.iload_n 3, 1) := by decide +kernel
theorem d_aesKey_103 : decode b_aesKey 103 = .ok (.istore 5, 2) := by decide +kernel
theorem d_aesKey_105 : decode b_aesKey 105 = .ok (.iload 5, 2) := by decide +kernel
theorem d_aesKey_107 : decode b_aesKey 107 = .ok (.iconst 4, 1) := by decide +kernel
theorem d_aesKey_108 : decode b_aesKey 108 = .ok (.aload_n 0, 1) := by decide +kernel
theorem d_aesKey_109 : decode b_aesKey 109 = .ok (.getfield 395, 3) := by decide +kernel
theorem d_aesKey_112 : decode b_aesKey 112 = .ok (.iconst 1, 1) := by decide +kernel
theorem d_aesKey_113 : decode b_aesKey 113 = .ok (.iadd, 1) := by decide +kernel
theorem d_aesKey_114 : decode b_aesKey 114 = .ok (.imul, 1) := by decide +kernel
theorem d_aesKey_115 : decode b_aesKey 115 = .ok (.if_icmp .ge 97, 3) := by decide +kernel
theorem d_aesKey_118 : decode b_aesKey 118 = .ok (.aload_n 0, 1) := by decide +kernel
theorem d_aesKey_119 : decode b_aesKey 119 = .ok (.getfield 47, 3) := by decide +kernel
theorem d_aesKey_122 : decode b_aesKey 122 = .ok (.iload 5, 2) := by decide +kernel
theorem d_aesKey_124 : decode b_aesKey 124 = .ok (.iconst 1, 1) := by decide +kernel
theorem d_aesKey_125 : decode b_aesKey 125 = .ok (.isub, 1) := by decide +kernel
theorem d_aesKey_126 : decode b_aesKey 126 = .ok (.iaload, 1) := by decide +kernel
theorem d_aesKey_127 : decode b_aesKey 127 = .ok (.istore 6, 2) := by decide +kernel
theorem d_aesKey_129 : decode b_aesKey 129 = .ok (.iload 5, 2) := by decide +kernel
theorem d_aesKey_131 : decode b_aesKey 131 = .ok (.iload_n 3, 1) := by decide +kernel
theorem d_aesKey_132 : decode b_aesKey 132 = .ok (.irem, 1) := by decide +kernel
theorem d_aesKey_133 : decode b_aesKey 133 = .ok (.ifCond .ne 32, 3) := by decide +kernel
theorem d_aesKey_136 : decode b_aesKey 136 = .ok (.aload_n 0, 1) := by decide +kernel
theorem d_aesKey_137 : decode b_aesKey 137 = .ok (.iload 6, 2) := by decide +kernel
theorem d_aesKey_139 : decode b_aesKey 139 = .ok (.bipush 8, 2) := by decide +kernel
theorem d_aesKey_141 : decode b_aesKey 141 = .ok (.invokestatic 360, 3) := by decide +kernel
theorem d_aesKey_144 : decode b_aesKey 144 = .ok (.invokevirtual 398, 3) := by decide +kernel
theorem d_aesKey_147 : decode b_aesKey 147 = .ok (.iload 4, 2) := by decide +kernel
theorem d_aesKey_149 : decode b_aesKey 149 = .ok (.bipush 24, 2) := by decide +kernel
theorem d_aesKey_151 : decode b_aesKey 151 = .ok (.ishl, 1) := by decide +kernel
theorem d_aesKey_152 : decode b_aesKey 152 = .ok (.ixor, 1) := by decide +kernel
theorem d_aesKey_153 : decode b_aesKey 153 = .ok (.istore 6, 2) := by decide +kernel
theorem d_aesKey_155 : decode b_aesKey 155 = .ok (.iload 4, 2) := by decide +kernel
theorem d_aesKey_157 : decode b_aesKey 157 = .ok (.invokestatic 381, 3) := by decide +kernel
theorem d_aesKey_160 : decode b_aesKey 160 = .ok (.istore 4, 2) := by decide +kernel
theorem d_aesKey_162 : decode b_aesKey 162 = .ok (.goto 25, 3) := by decide +kernel
theorem d_aesKey_165 : decode b_aesKey 165 = .ok (.iload_n 3, 1) := by decide +kernel
theorem d_aesKey_166 : decode b_aesKey 166 = .ok (.bipush 6, 2) := by decide +kernel
theorem d_aesKey_168 : decode b_aesKey 168 = .ok (.if_icmp .le 19, 3) := by decide +kernel
theorem d_aesKey_171 : decode b_aesKey 171 = .ok (.iload 5, 2) := by decide +kernel
theorem d_aesKey_173 : decode b_aesKey 173 = .ok (.iload_n 3, 1) := by decide +kernel
theorem d_aesKey_174 : decode b_aesKey 174 = .ok (.irem, 1) := by decide +kernel
theorem d_aesKey_175 : decode b_aesKey 175 = .ok (.iconst 4, 1) := by decide +kernel
theorem d_aesKey_176 : decode b_aesKey 176 = .ok (.if_icmp .ne 11, 3) := by decide +kernel
theorem d_aesKey_179 : decode b_aesKey 179 = .ok (.aload_n 0, 1) := by decide +kernel
theorem d_aesKey_180 : decode b_aesKey 180 = .ok (.iload 6, 2) := by decide +kernel
theorem d_aesKey_182 : decode b_aesKey 182 = .ok (.invokevirtual 398, 3) := by decide +kernel
theorem d_aesKey_185 : decode b_aesKey 185 = .ok (.istore 6, 2) := by decide +kernel
theorem d_aesKey_187 : decode b_aesKey 187 = .ok (.aload_n 0, 1) := by decide +kernel
theorem d_aesKey_188 : decode b_aesKey 188 = .ok (.getfield 47, 3) := by decide +kernel
theorem d_aesKey_191 : decode b_aesKey 191 = .ok (.iload 5, 2) := by decide +kernel
theorem d_aesKey_193 : decode b_aesKey 193 = .ok (.aload_n 0, 1) := by decide +kernel
theorem d_aesKey_194 : decode b_aesKey 194 = .ok (.getfield 47, 3) := by decide +kernel
theorem d_aesKey_197 : decode b_aesKey 197 = .ok (.iload 5, 2) := by decide +kernel
theorem d_aesKey_199 : decode b_aesKey 199 = .ok (.iload_n 3, 1) := by decide +kernel
theorem d_aesKey_200 : decode b_aesKey 200 = .ok (.isub, 1) := by decide +kernel
theorem d_aesKey_201 : decode b_aesKey 201 = .ok (.iaload, 1) := by decide +kernel
theorem d_aesKey_202 : decode b_aesKey 202 = .ok (.iload 6, 2) := by decide +kernel
theorem d_aesKey_204 : decode b_aesKey 204 = .ok (.ixor, 1) := by decide +kernel
theorem d_aesKey_205 : decode b_aesKey 205 = .ok (.iastore, 1) := by decide +kernel
theorem d_aesKey_206 : decode b_aesKey 206 = .ok (.iinc 5 1, 3) := by decide +kernel
theorem d_aesKey_209 : decode b_aesKey 209 = .ok (.goto (-104), 3) := by decide +kernel
theorem d_aesKey_212 : decode b_aesKey 212 = .ok (.return_, 1) := by decide +kernel
abbrev b_addKey : ByteArray := prog_14_method_20_code
def y_addKey : MethodName := ⟨R_M, "addKey", "(I)V"⟩
abbrev k_addKey : Cond := .code y_addKey b_addKey 3 none
theorem ki_addKey : k_addKey ∈ lw_tg := in_t 1871 (by decide +kernel)
theorem ks_addKey : Cond.instanceMethod y_addKey ∈ lw_tg := in_t 1870 (by decide +kernel)
theorem kl_addKey : Cond.methodLink R_M 401 y_addKey ∈ lw_tg := in_t 1868 (by decide +kernel)
theorem d_addKey_0 : decode b_addKey 0 = .ok (.iconst 0, 1) := by decide +kernel
theorem d_addKey_1 : decode b_addKey 1 = .ok (.istore_n 2, 1) := by decide +kernel
theorem d_addKey_2 : decode b_addKey 2 = .ok (.iload_n 2, 1) := by decide +kernel
theorem d_addKey_3 : decode b_addKey 3 = .ok (.bipush 16, 2) := by decide +kernel
theorem d_addKey_5 : decode b_addKey 5 = .ok (.if_icmp .ge 44, 3) := by decide +kernel
theorem d_addKey_8 : decode b_addKey 8 = .ok (.aload_n 0, 1) := by decide +kernel
theorem d_addKey_9 : decode b_addKey 9 = .ok (.getfield 50, 3) := by decide +kernel
theorem d_addKey_12 : decode b_addKey 12 = .ok (.iload_n 2, 1) := by decide +kernel
theorem d_addKey_13 : decode b_addKey 13 = .ok (.dup2, 1) := by decide +kernel
theorem d_addKey_14 : decode b_addKey 14 = .ok (.iaload, 1) := by decide +kernel
theorem d_addKey_15 : decode b_addKey 15 = .ok (.aload_n 0, 1) := by decide +kernel
theorem d_addKey_16 : decode b_addKey 16 = .ok (.getfield 47, 3) := by decide +kernel
theorem d_addKey_19 : decode b_addKey 19 = .ok (.iconst 4, 1) := by decide +kernel
theorem d_addKey_20 : decode b_addKey 20 = .ok (.iload_n 1, 1) := by decide +kernel
theorem d_addKey_21 : decode b_addKey 21 = .ok (.imul, 1) := by decide +kernel
theorem d_addKey_22 : decode b_addKey 22 = .ok (.iload_n 2, 1) := by decide +kernel
theorem d_addKey_23 : decode b_addKey 23 = .ok (.iconst 4, 1) := by decide +kernel
theorem d_addKey_24 : decode b_addKey 24 = .ok (.idiv, 1) := by decide +kernel
theorem d_addKey_25 : decode b_addKey 25 = .ok (.iadd, 1) := by decide +kernel
theorem d_addKey_26 : decode b_addKey 26 = .ok (.iaload, 1) := by decide +kernel
theorem d_addKey_27 : decode b_addKey 27 = .ok (.bipush 24, 2) := by decide +kernel
theorem d_addKey_29 : decode b_addKey 29 = .ok (.bipush 8, 2) := by decide +kernel
theorem d_addKey_31 : decode b_addKey 31 = .ok (.iload_n 2, 1) := by decide +kernel
theorem d_addKey_32 : decode b_addKey 32 = .ok (.iconst 4, 1) := by decide +kernel
theorem d_addKey_33 : decode b_addKey 33 = .ok (.irem, 1) := by decide +kernel
theorem d_addKey_34 : decode b_addKey 34 = .ok (.imul, 1) := by decide +kernel
theorem d_addKey_35 : decode b_addKey 35 = .ok (.isub, 1) := by decide +kernel
theorem d_addKey_36 : decode b_addKey 36 = .ok (.iushr, 1) := by decide +kernel
theorem d_addKey_37 : decode b_addKey 37 = .ok (.sipush 255, 3) := by decide +kernel
theorem d_addKey_40 : decode b_addKey 40 = .ok (.iand, 1) := by decide +kernel
theorem d_addKey_41 : decode b_addKey 41 = .ok (.ixor, 1) := by decide +kernel
theorem d_addKey_42 : decode b_addKey 42 = .ok (.iastore, 1) := by decide +kernel
theorem d_addKey_43 : decode b_addKey 43 = .ok (.iinc 2 1, 3) := by decide +kernel
theorem d_addKey_46 : decode b_addKey 46 = .ok (.goto (-44), 3) := by decide +kernel
theorem d_addKey_49 : decode b_addKey 49 = .ok (.return_, 1) := by decide +kernel
abbrev b_cover : ByteArray := prog_14_method_21_code
def y_cover : MethodName := ⟨R_M, "cover", "()V"⟩
abbrev k_cover : Cond := .code y_cover b_cover 6 none
theorem ki_cover : k_cover ∈ lw_tg := in_t 1867 (by decide +kernel)
theorem ks_cover : Cond.instanceMethod y_cover ∈ lw_tg := in_t 1866 (by decide +kernel)
theorem kl_cover : Cond.methodLink R_M 411 y_cover ∈ lw_tg := in_t 1864 (by decide +kernel)
theorem d_cover_0 : decode b_cover 0 = .ok (.aload_n 0, 1) := by decide +kernel
theorem d_cover_1 : decode b_cover 1 = .ok (.iconst 0, 1) := by decide +kernel
theorem d_cover_2 : decode b_cover 2 = .ok (.invokevirtual 401, 3) := by decide +kernel
theorem d_cover_5 : decode b_cover 5 = .ok (.iconst 1, 1) := by decide +kernel
theorem d_cover_6 : decode b_cover 6 = .ok (.istore_n 1, 1) := by decide +kernel
theorem d_cover_7 : decode b_cover 7 = .ok (.iload_n 1, 1) := by decide +kernel
theorem d_cover_8 : decode b_cover 8 = .ok (.aload_n 0, 1) := by decide +kernel
theorem d_cover_9 : decode b_cover 9 = .ok (.getfield 395, 3) := by decide +kernel
theorem d_cover_12 : decode b_cover 12 = .ok (.if_icmp .gt 166, 3) := by decide +kernel
theorem d_cover_15 : decode b_cover 15 = .ok (.iconst 0, 1) := by decide +kernel
theorem d_cover_16 : decode b_cover 16 = .ok (.istore_n 2, 1) := by decide +kernel
theorem d_cover_17 : decode b_cover 17 = .ok (.iload_n 2, 1) := by decide +kernel
theorem d_cover_18 : decode b_cover 18 = .ok (.bipush 16, 2) := by decide +kernel
theorem d_cover_20 : decode b_cover 20 = .ok (.if_icmp .ge 35, 3) := by decide +kernel
theorem d_cover_23 : decode b_cover 23 = .ok (.aload_n 0, 1) := by decide +kernel
theorem d_cover_24 : decode b_cover 24 = .ok (.getfield 53, 3) := by decide +kernel
theorem d_cover_27 : decode b_cover 27 = .ok (.iload_n 2, 1) := by decide +kernel
theorem d_cover_28 : decode b_cover 28 = .ok (.aload_n 0, 1) := by decide +kernel
theorem d_cover_29 : decode b_cover 29 = .ok (.getfield 41, 3) := by decide +kernel
theorem d_cover_32 : decode b_cover 32 = .ok (.aload_n 0, 1) := by decide +kernel
theorem d_cover_33 : decode b_cover 33 = .ok (.getfield 50, 3) := by decide +kernel
theorem d_cover_36 : decode b_cover 36 = .ok (.iload_n 2, 1) := by decide +kernel
theorem d_cover_37 : decode b_cover 37 = .ok (.iconst 4, 1) := by decide +kernel
theorem d_cover_38 : decode b_cover 38 = .ok (.iload_n 2, 1) := by decide +kernel
theorem d_cover_39 : decode b_cover 39 = .ok (.iconst 4, 1) := by decide +kernel
theorem d_cover_40 : decode b_cover 40 = .ok (.irem, 1) := by decide +kernel
theorem d_cover_41 : decode b_cover 41 = .ok (.imul, 1) := by decide +kernel
theorem d_cover_42 : decode b_cover 42 = .ok (.iadd, 1) := by decide +kernel
theorem d_cover_43 : decode b_cover 43 = .ok (.bipush 16, 2) := by decide +kernel
theorem d_cover_45 : decode b_cover 45 = .ok (.irem, 1) := by decide +kernel
theorem d_cover_46 : decode b_cover 46 = .ok (.iaload, 1) := by decide +kernel
theorem d_cover_47 : decode b_cover 47 = .ok (.iaload, 1) := by decide +kernel
theorem d_cover_48 : decode b_cover 48 = .ok (.iastore, 1) := by decide +kernel
theorem d_cover_49 : decode b_cover 49 = .ok (.iinc 2 1, 3) := by decide +kernel
theorem d_cover_52 : decode b_cover 52 = .ok (.goto (-35), 3) := by decide +kernel
theorem d_cover_55 : decode b_cover 55 = .ok (.iconst 0, 1) := by decide +kernel
theorem d_cover_56 : decode b_cover 56 = .ok (.istore_n 2, 1) := by decide +kernel
theorem d_cover_57 : decode b_cover 57 = .ok (.iload_n 2, 1) := by decide +kernel
theorem d_cover_58 : decode b_cover 58 = .ok (.bipush 16, 2) := by decide +kernel
theorem d_cover_60 : decode b_cover 60 = .ok (.if_icmp .ge 107, 3) := by decide +kernel
theorem d_cover_63 : decode b_cover 63 = .ok (.iconst 0, 1) := by decide +kernel
theorem d_cover_64 : decode b_cover 64 = .ok (.istore_n 3, 1) := by decide +kernel
theorem d_cover_65 : decode b_cover 65 = .ok (.iload_n 3, 1) := by decide +kernel
theorem d_cover_66 : decode b_cover 66 = .ok (.iconst 4, 1) := by decide +kernel
theorem d_cover_67 : decode b_cover 67 = .ok (.if_icmp .ge 94, 3) := by decide +kernel
theorem d_cover_70 : decode b_cover 70 = .ok (.aload_n 0, 1) := by decide +kernel
theorem d_cover_71 : decode b_cover 71 = .ok (.getfield 53, 3) := by decide +kernel
theorem d_cover_74 : decode b_cover 74 = .ok (.iload_n 2, 1) := by decide +kernel
theorem d_cover_75 : decode b_cover 75 = .ok (.iload_n 3, 1) := by decide +kernel
theorem d_cover_76 : decode b_cover 76 = .ok (.iadd, 1) := by decide +kernel
theorem d_cover_77 : decode b_cover 77 = .ok (.iaload, 1) := by decide +kernel
theorem d_cover_78 : decode b_cover 78 = .ok (.istore 4, 2) := by decide +kernel
theorem d_cover_80 : decode b_cover 80 = .ok (.aload_n 0, 1) := by decide +kernel
theorem d_cover_81 : decode b_cover 81 = .ok (.getfield 53, 3) := by decide +kernel
theorem d_cover_84 : decode b_cover 84 = .ok (.iload_n 2, 1) := by decide +kernel
theorem d_cover_85 : decode b_cover 85 = .ok (.iload_n 3, 1) := by decide +kernel
theorem d_cover_86 : decode b_cover 86 = .ok (.iconst 1, 1) := by decide +kernel
theorem d_cover_87 : decode b_cover 87 = .ok (.iadd, 1) := by decide +kernel
theorem d_cover_88 : decode b_cover 88 = .ok (.iconst 4, 1) := by decide +kernel
theorem d_cover_89 : decode b_cover 89 = .ok (.irem, 1) := by decide +kernel
theorem d_cover_90 : decode b_cover 90 = .ok (.iadd, 1) := by decide +kernel
theorem d_cover_91 : decode b_cover 91 = .ok (.iaload, 1) := by decide +kernel
theorem d_cover_92 : decode b_cover 92 = .ok (.istore 5, 2) := by decide +kernel
theorem d_cover_94 : decode b_cover 94 = .ok (.aload_n 0, 1) := by decide +kernel
theorem d_cover_95 : decode b_cover 95 = .ok (.getfield 50, 3) := by decide +kernel
theorem d_cover_98 : decode b_cover 98 = .ok (.iload_n 2, 1) := by decide +kernel
theorem d_cover_99 : decode b_cover 99 = .ok (.iload_n 3, 1) := by decide +kernel
theorem d_cover_100 : decode b_cover 100 = .ok (.iadd, 1) := by decide +kernel
theorem d_cover_101 : decode b_cover 101 = .ok (.iload_n 1, 1) := by decide +kernel
theorem d_cover_102 : decode b_cover 102 = .ok (.aload_n 0, 1) := by decide +kernel
theorem d_cover_103 : decode b_cover 103 = .ok (.getfield 395, 3) := by decide +kernel
theorem d_cover_106 : decode b_cover 106 = .ok (.if_icmp .ne 8, 3) := by decide +kernel
theorem d_cover_109 : decode b_cover 109 = .ok (.iload 4, 2) := by decide +kernel
theorem d_cover_111 : decode b_cover 111 = .ok (.goto 43, 3) := by decide +kernel
theorem d_cover_114 : decode b_cover 114 = .ok (.iload 4, 2) := by decide +kernel
theorem d_cover_116 : decode b_cover 116 = .ok (.invokestatic 381, 3) := by decide +kernel
theorem d_cover_119 : decode b_cover 119 = .ok (.iload 5, 2) := by decide +kernel
theorem d_cover_121 : decode b_cover 121 = .ok (.invokestatic 381, 3) := by decide +kernel
theorem d_cover_124 : decode b_cover 124 = .ok (.ixor, 1) := by decide +kernel
theorem d_cover_125 : decode b_cover 125 = .ok (.iload 5, 2) := by decide +kernel
theorem d_cover_127 : decode b_cover 127 = .ok (.ixor, 1) := by decide +kernel
theorem d_cover_128 : decode b_cover 128 = .ok (.aload_n 0, 1) := by decide +kernel
theorem d_cover_129 : decode b_cover 129 = .ok (.getfield 53, 3) := by decide +kernel
theorem d_cover_132 : decode b_cover 132 = .ok (.iload_n 2, 1) := by decide +kernel
theorem d_cover_133 : decode b_cover 133 = .ok (.iload_n 3, 1) := by decide +kernel
theorem d_cover_134 : decode b_cover 134 = .ok (.iconst 2, 1) := by decide +kernel
theorem d_cover_135 : decode b_cover 135 = .ok (.iadd, 1) := by decide +kernel
theorem d_cover_136 : decode b_cover 136 = .ok (.iconst 4, 1) := by decide +kernel
theorem d_cover_137 : decode b_cover 137 = .ok (.irem, 1) := by decide +kernel
theorem d_cover_138 : decode b_cover 138 = .ok (.iadd, 1) := by decide +kernel
theorem d_cover_139 : decode b_cover 139 = .ok (.iaload, 1) := by decide +kernel
theorem d_cover_140 : decode b_cover 140 = .ok (.ixor, 1) := by decide +kernel
theorem d_cover_141 : decode b_cover 141 = .ok (.aload_n 0, 1) := by decide +kernel
theorem d_cover_142 : decode b_cover 142 = .ok (.getfield 53, 3) := by decide +kernel
theorem d_cover_145 : decode b_cover 145 = .ok (.iload_n 2, 1) := by decide +kernel
theorem d_cover_146 : decode b_cover 146 = .ok (.iload_n 3, 1) := by decide +kernel
theorem d_cover_147 : decode b_cover 147 = .ok (.iconst 3, 1) := by decide +kernel
theorem d_cover_148 : decode b_cover 148 = .ok (.iadd, 1) := by decide +kernel
theorem d_cover_149 : decode b_cover 149 = .ok (.iconst 4, 1) := by decide +kernel
theorem d_cover_150 : decode b_cover 150 = .ok (.irem, 1) := by decide +kernel
theorem d_cover_151 : decode b_cover 151 = .ok (.iadd, 1) := by decide +kernel
theorem d_cover_152 : decode b_cover 152 = .ok (.iaload, 1) := by decide +kernel
theorem d_cover_153 : decode b_cover 153 = .ok (.ixor, 1) := by decide +kernel
theorem d_cover_154 : decode b_cover 154 = .ok (.iastore, 1) := by decide +kernel
theorem d_cover_155 : decode b_cover 155 = .ok (.iinc 3 1, 3) := by decide +kernel
theorem d_cover_158 : decode b_cover 158 = .ok (.goto (-93), 3) := by decide +kernel
theorem d_cover_161 : decode b_cover 161 = .ok (.iinc 2 4, 3) := by decide +kernel
theorem d_cover_164 : decode b_cover 164 = .ok (.goto (-107), 3) := by decide +kernel
theorem d_cover_167 : decode b_cover 167 = .ok (.aload_n 0, 1) := by decide +kernel
theorem d_cover_168 : decode b_cover 168 = .ok (.iload_n 1, 1) := by decide +kernel
theorem d_cover_169 : decode b_cover 169 = .ok (.invokevirtual 401, 3) := by decide +kernel
theorem d_cover_172 : decode b_cover 172 = .ok (.iinc 1 1, 3) := by decide +kernel
theorem d_cover_175 : decode b_cover 175 = .ok (.goto (-168), 3) := by decide +kernel
theorem d_cover_178 : decode b_cover 178 = .ok (.return_, 1) := by decide +kernel
theorem kx_makeBox : Cond.selects R_M y_makeBox y_makeBox ∈ lw_tg := List.mem_filter.mpr ⟨List.mem_append_left _ (List.mem_of_getElem? (i := 89) (by decide +kernel)), rfl⟩
theorem hd_makeBox : y_makeBox.cls = R_M ∧ y_makeBox.cls ≠ "java/lang/invoke/MethodHandle" ∧ y_makeBox.cls ≠ "java/lang/invoke/VarHandle" ∧ (parseMethodDescriptor y_makeBox.desc).map (fun d => d.parameters.length) = some 0 := by decide +kernel
theorem kx_boxed : Cond.selects R_M y_boxed y_boxed ∈ lw_tg := List.mem_filter.mpr ⟨List.mem_append_left _ (List.mem_of_getElem? (i := 90) (by decide +kernel)), rfl⟩
theorem hd_boxed : y_boxed.cls = R_M ∧ y_boxed.cls ≠ "java/lang/invoke/MethodHandle" ∧ y_boxed.cls ≠ "java/lang/invoke/VarHandle" ∧ (parseMethodDescriptor y_boxed.desc).map (fun d => d.parameters.length) = some 1 := by decide +kernel
theorem kx_aesKey : Cond.selects R_M y_aesKey y_aesKey ∈ lw_tg := List.mem_filter.mpr ⟨List.mem_append_left _ (List.mem_of_getElem? (i := 88) (by decide +kernel)), rfl⟩
theorem hd_aesKey : y_aesKey.cls = R_M ∧ y_aesKey.cls ≠ "java/lang/invoke/MethodHandle" ∧ y_aesKey.cls ≠ "java/lang/invoke/VarHandle" ∧ (parseMethodDescriptor y_aesKey.desc).map (fun d => d.parameters.length) = some 2 := by decide +kernel
theorem kx_addKey : Cond.selects R_M y_addKey y_addKey ∈ lw_tg := List.mem_filter.mpr ⟨List.mem_append_left _ (List.mem_of_getElem? (i := 92) (by decide +kernel)), rfl⟩
theorem hd_addKey : y_addKey.cls = R_M ∧ y_addKey.cls ≠ "java/lang/invoke/MethodHandle" ∧ y_addKey.cls ≠ "java/lang/invoke/VarHandle" ∧ (parseMethodDescriptor y_addKey.desc).map (fun d => d.parameters.length) = some 1 := by decide +kernel
theorem kx_cover : Cond.selects R_M y_cover y_cover ∈ lw_tg := List.mem_filter.mpr ⟨List.mem_append_left _ (List.mem_of_getElem? (i := 91) (by decide +kernel)), rfl⟩
theorem hd_cover : y_cover.cls = R_M ∧ y_cover.cls ≠ "java/lang/invoke/MethodHandle" ∧ y_cover.cls ≠ "java/lang/invoke/VarHandle" ∧ (parseMethodDescriptor y_cover.desc).map (fun d => d.parameters.length) = some 0 := by decide +kernel
set_option maxHeartbeats 4000000 in
set_option maxRecDepth 100000 in
theorem c_product (l : Launch) (a0 a1 : Nat) (h0 : a0 < 256) (h1 : a1 < 256) : Met l y_product (k_product :: lw_tg) (mR 1 20) (va_Pc [.int (nI a0), .int (nI a1)] pPre) (va_Qi (fun (r : Int32) (_ : Unit) => ∃ n, n < 256 ∧ r = nI n) (fun _ _ => True) (fun _ => False)) 0 0 (fun _ => False) := by
  refine p_enter (by decide) rfl (Nat.le_of_ble_eq_true rfl) (fun p e s m below meth c ls AV QQ H locs hQQ hS X hr hlk hml hl => ?_)
  have hl : lv_has ls 5 [(0, .int (nI a0)), (1, .int (nI a1))] := hl
  refine lv_iconst (v := (nI 0)) X.1 X.2.1 d_product_0 (by decide) ?_
  refine lv_istore_n (lv' := [(2, .int (nI 0)), (0, .int (nI a0)), (1, .int (nI a1))]) X.1 X.2.1 d_product_1 rfl hl (by decide) rfl (fun ls hl => ?_)
  refine lv_iload_n X.1 X.2.1 d_product_2 rfl (lv_at hl 1 rfl) ?_
  refine lv_istore_n (lv' := [(3, .int (nI a0)), (2, .int (nI 0)), (0, .int (nI a0)), (1, .int (nI a1))]) X.1 X.2.1 d_product_3 rfl hl (by decide) rfl (fun ls hl => ?_)
  refine lv_iload_n X.1 X.2.1 d_product_4 rfl (lv_at hl 3 rfl) ?_
  refine lv_istore (lv' := [(4, .int (nI a1)), (3, .int (nI a0)), (2, .int (nI 0)), (0, .int (nI a0)), (1, .int (nI a1))]) X.1 X.2.1 d_product_5 hl (by decide) rfl (fun ls hl => ?_)
  have lp : ∀ (n b a v : Nat) (H : Heap) (locs : List Loc) (ls : Array Slot), b ≤ n → b < 256 → a < 256 → v < 256 → va_S (fun _ => False) s.heap H locs → lv_has ls 5 [(4, .int (nI b)), (3, .int (nI a)), (2, .int (nI v)), (0, .int (nI a0)), (1, .int (nI a1))] → W p l e (mR 1 20) s m AV below meth c H locs 0 0 QQ (F0 m 7 ls []) := by
    intro n
    induction n with
    | zero =>
      intro b a v H locs ls hb hb2 ha hv hS hl
      refine lv_iload X.1 X.2.1 d_product_7 (lv_at hl 0 rfl) ?_
      refine lv_if_le (tgt := 38) X.1 X.2.1 d_product_9 (by decide) (fun c1 => ?_) (fun c1 => absurd ?_ c1)
      rotate_left
      · (rw [← nI_0, nI_leI (by omega) (by omega)] <;> omega)
      rw [← nI_0] at c1
      rw [nI_leI (by omega) (by omega)] at c1
      refine lv_iload_n X.1 X.2.1 d_product_38 rfl (lv_at hl 2 rfl) ?_
      exact p_reti hQQ hS X hr hlk ⟨_, (show v < 256 by omega), rfl⟩ d_product_39
    | succ n ih =>
      intro b a v H locs ls hb hb2 ha hv hS hl
      refine lv_iload X.1 X.2.1 d_product_7 (lv_at hl 0 rfl) ?_
      refine lv_if_le (tgt := 38) X.1 X.2.1 d_product_9 (by decide) (fun c2 => ?_) (fun c2 => ?_)
      · skip
        rw [← nI_0] at c2
        rw [nI_leI (by omega) (by omega)] at c2
        refine lv_iload_n X.1 X.2.1 d_product_38 rfl (lv_at hl 2 rfl) ?_
        exact p_reti hQQ hS X hr hlk ⟨_, (show v < 256 by omega), rfl⟩ d_product_39
      · skip
        rw [← nI_0] at c2
        rw [nI_leI (by omega) (by omega)] at c2
        refine lv_iload X.1 X.2.1 d_product_12 (lv_at hl 0 rfl) ?_
        refine lv_iconst (v := (nI 1)) X.1 X.2.1 d_product_14 (by decide) ?_
        refine lv_iand X.1 X.2.1 d_product_15 ?_
        obtain ⟨j3, hj3, ej3⟩ := pk_andE (nI b) (m := nI 1) 1 (by decide)
        refine t_eq ej3 ?_
        have hj3 : j3 < 2 := hj3
        refine lv_iconst (v := (nI 1)) X.1 X.2.1 d_product_16 (by decide) ?_
        refine lv_icmp_ne (tgt := 24) X.1 X.2.1 d_product_17 (by decide) (fun c4 => ?_) (fun c4 => ?_)
        · skip
          rw [nI_eq (by omega) (by omega)] at c4
          refine lv_iload_n X.1 X.2.1 d_product_24 rfl (lv_at hl 1 rfl) ?_
          refine pp_calli (As := [.int (nI a)]) (rest := []) (n := 1) hS X hml hl.1 (c_twice l (nI a)) kl_twice ks_twice ki_twice ini_M (by decide +kernel) ⟨by decide, by decide⟩ rfl (Nat.le_of_ble_eq_true rfl) d_product_25 (fun r5 H locs hpr5 hS => ?_)
          obtain ⟨j6, hj6, ej6⟩ := hpr5
          refine t_eq ej6 ?_
          refine lv_istore_n (lv' := [(3, .int (nI j6)), (4, .int (nI b)), (2, .int (nI v)), (0, .int (nI a0)), (1, .int (nI a1))]) X.1 X.2.1 d_product_28 rfl hl (by decide) rfl (fun ls hl => ?_)
          refine lv_iload X.1 X.2.1 d_product_29 (lv_at hl 1 rfl) ?_
          refine lv_iconst (v := (nI 1)) X.1 X.2.1 d_product_31 (by decide) ?_
          refine lv_ishr X.1 X.2.1 d_product_32 ?_
          refine t_eq (y := nI (b / 2 ^ 1)) (pk_shrN (by omega) _ 1 (by decide)) ?_
          refine lv_istore (lv' := [(4, .int (nI (b / 2 ^ 1))), (3, .int (nI j6)), (2, .int (nI v)), (0, .int (nI a0)), (1, .int (nI a1))]) X.1 X.2.1 d_product_33 hl (by decide) rfl (fun ls hl => ?_)
          refine lv_goto (tgt := 7) X.1 X.2.1 d_product_35 (by decide) ?_
          exact ih (b / 2 ^ 1) (j6) (v) _ _ _ (by omega) (by omega) (by omega) (by omega) hS (lv_sub hl [0, 1, 2, 3, 4] rfl)
        · skip
          rw [nI_eq (by omega) (by omega)] at c4
          refine lv_iload_n X.1 X.2.1 d_product_20 rfl (lv_at hl 2 rfl) ?_
          refine lv_iload_n X.1 X.2.1 d_product_21 rfl (lv_at hl 1 rfl) ?_
          refine lv_ixor X.1 X.2.1 d_product_22 ?_
          obtain ⟨j7, hj7, ej7⟩ := by_ixor (a := v) (b := a) (by omega) (by omega)
          refine t_eq ej7 ?_
          refine lv_istore_n (lv' := [(2, .int (nI j7)), (4, .int (nI b)), (3, .int (nI a)), (0, .int (nI a0)), (1, .int (nI a1))]) X.1 X.2.1 d_product_23 rfl hl (by decide) rfl (fun ls hl => ?_)
          refine lv_iload_n X.1 X.2.1 d_product_24 rfl (lv_at hl 2 rfl) ?_
          refine pp_calli (As := [.int (nI a)]) (rest := []) (n := 1) hS X hml hl.1 (c_twice l (nI a)) kl_twice ks_twice ki_twice ini_M (by decide +kernel) ⟨by decide, by decide⟩ rfl (Nat.le_of_ble_eq_true rfl) d_product_25 (fun r8 H locs hpr8 hS => ?_)
          obtain ⟨j9, hj9, ej9⟩ := hpr8
          refine t_eq ej9 ?_
          refine lv_istore_n (lv' := [(3, .int (nI j9)), (2, .int (nI j7)), (4, .int (nI b)), (0, .int (nI a0)), (1, .int (nI a1))]) X.1 X.2.1 d_product_28 rfl hl (by decide) rfl (fun ls hl => ?_)
          refine lv_iload X.1 X.2.1 d_product_29 (lv_at hl 2 rfl) ?_
          refine lv_iconst (v := (nI 1)) X.1 X.2.1 d_product_31 (by decide) ?_
          refine lv_ishr X.1 X.2.1 d_product_32 ?_
          refine t_eq (y := nI (b / 2 ^ 1)) (pk_shrN (by omega) _ 1 (by decide)) ?_
          refine lv_istore (lv' := [(4, .int (nI (b / 2 ^ 1))), (3, .int (nI j9)), (2, .int (nI j7)), (0, .int (nI a0)), (1, .int (nI a1))]) X.1 X.2.1 d_product_33 hl (by decide) rfl (fun ls hl => ?_)
          refine lv_goto (tgt := 7) X.1 X.2.1 d_product_35 (by decide) ?_
          exact ih (b / 2 ^ 1) (j9) (j7) _ _ _ (by omega) (by omega) (by omega) (by omega) hS (lv_sub hl [0, 1, 2, 3, 4] rfl)
  exact lp a1 a1 a0 0 _ _ _ (by omega) (by omega) (by omega) (by omega) hS (lv_sub hl [0, 1, 2, 3, 4] rfl)
set_option maxHeartbeats 4000000 in
set_option maxRecDepth 100000 in
theorem c_makeBox (l : Launch) (D : mD) (E : mE) (h : Nat) (q : Nat → Nat) (sz : Nat) (I : Nat → Int32) (J : Nat → Int64) (B : Nat → Nat → Int32) (G : Nat → Nat → Int64)  (y12 : by8 (B 12)) (y13 : by8 (B 13)) : Met l y_makeBox (k_makeBox :: lw_tg) (mR 2 44) (va_Pc [.ref h] (mPre D E h q (I, J, B, G) sz)) (va_Qv (fun (u : mS) => (∀ j, j ≠ 14 → u.1 j = I j) ∧ u.2.1 = J ∧ (∀ j, j ≠ 12 → j ≠ 13 → u.2.2.1 j = B j) ∧ u.2.2.2 = G ∧ u.1 14 = nI (1) ∧ by8 (u.2.2.1 12) ∧ by8 (u.2.2.1 13)) (mPost D E h q (mA E h q sz)) (mA E h q sz)) 0 0 (mA E h q sz) := by
  refine m_enter (by decide) rfl (Nat.le_of_ble_eq_true rfl) (fun p e s m below meth c ls AV QQ H locs hQQ X Y hZ hA hr hlk hml hl => ?_)
  have Y : mH D E (mA E h q sz) s.heap h q I J B G H locs := Y
  have hl : lv_has ls 6 [(0, .ref h)] := hl
  refine lv_aload_n X.1 X.2.1 d_makeBox_0 rfl (lv_at hl 0 rfl) ?_
  refine lv_iconst (v := (nI 1)) X.1 X.2.1 d_makeBox_1 (by decide) ?_
  refine m_puti X Y 14 (by decide) lk_hasBox rfl rfl (t_M_ok 14 (by decide)) rfl rfl (sf_hasBox _ _ _ _) (Nat.le_of_ble_eq_true rfl) d_makeBox_2 (fun H locs Y => ?_)
  refine lv_iconst (v := (nI 0)) X.1 X.2.1 d_makeBox_5 (by decide) ?_
  refine lv_istore_n (lv' := [(1, .int (nI 0)), (0, .ref h)]) X.1 X.2.1 d_makeBox_6 rfl hl (by decide) rfl (fun ls hl => ?_)
  have lp4 : ∀ (n1 i2 : Nat) (B5 : Nat → Nat → Int32) (H : Heap) (locs : List Loc) (ls : Array Slot), i2 + n1 = 256 → 0 ≤ i2 → (∀ j, j ≠ 12 → j ≠ 13 → B5 j = B j) → by8 (B5 12) → by8 (B5 13) → mH D E (mA E h q sz) s.heap h q (upd I 14 (nI 1)) J B5 G H locs → lv_has ls 6 [(1, .int (nI i2)), (0, .ref h)] → W p l e (mR 2 44) s m AV below meth c H locs 0 0 QQ (F0 m 7 ls []) := by
    intro n1
    induction n1 with
    | zero =>
      intro i2 B5 H locs ls hii2 hsi2 hB6 y7 y8  Y hl
      refine lv_iload_n X.1 X.2.1 d_makeBox_7 rfl (lv_at hl 0 rfl) ?_
      refine lv_sipush (v := (nI 256)) X.1 X.2.1 d_makeBox_8 (by decide) ?_
      refine lv_icmp_ge (tgt := 139) X.1 X.2.1 d_makeBox_11 (by decide) (fun c9 => ?_) (fun c9 => absurd ?_ c9)
      rotate_left
      · (rw [nI_leI (by omega) (by omega)] <;> omega)
      rw [nI_leI (by omega) (by omega)] at c9
      exact m_retv hQQ X Y hr hlk ⟨(fun j h14 => ((if_neg h14).trans rfl)), rfl, (fun j h12 h13 => (hB6 j h12 h13)), rfl, (show (upd I 14 (nI 1)) 14 = nI (1) from (show (upd I 14 (nI 1)) 14 = nI (1) from pk_us).trans (congrArg nI (show (1 : Nat) = 1 by omega))), (show by8 (B5 12) from y7), (show by8 (B5 13) from y8)⟩ d_makeBox_139
    | succ n1 ih3 =>
      intro i2 B5 H locs ls hii2 hsi2 hB6 y7 y8  Y hl
      refine lv_iload_n X.1 X.2.1 d_makeBox_7 rfl (lv_at hl 0 rfl) ?_
      refine lv_sipush (v := (nI 256)) X.1 X.2.1 d_makeBox_8 (by decide) ?_
      refine lv_icmp_ge (tgt := 139) X.1 X.2.1 d_makeBox_11 (by decide) (fun c10 => absurd c10 ?_) (fun c10 => ?_)
      · (rw [nI_leI (by omega) (by omega)] <;> omega)
      rw [nI_leI (by omega) (by omega)] at c10
      refine lv_iconst (v := (nI 1)) X.1 X.2.1 d_makeBox_14 (by decide) ?_
      refine lv_istore_n (lv' := [(2, .int (nI 1)), (1, .int (nI i2)), (0, .ref h)]) X.1 X.2.1 d_makeBox_15 rfl hl (by decide) rfl (fun ls hl => ?_)
      refine lv_iconst (v := (nI 0)) X.1 X.2.1 d_makeBox_16 (by decide) ?_
      refine lv_istore_n (lv' := [(3, .int (nI 0)), (2, .int (nI 1)), (1, .int (nI i2)), (0, .ref h)]) X.1 X.2.1 d_makeBox_17 rfl hl (by decide) rfl (fun ls hl => ?_)
      have lp14 : ∀ (n11 i12 : Nat) (x15 : Nat) (H : Heap) (locs : List Loc) (ls : Array Slot), i12 + n11 = 254 → 0 ≤ i12 → x15 < 256 → mH D E (mA E h q sz) s.heap h q (upd I 14 (nI 1)) J B5 G H locs → lv_has ls 6 [(3, .int (nI i12)), (2, .int (nI x15)), (1, .int (nI i2)), (0, .ref h)] → W p l e (mR 2 44) s m AV below meth c H locs 0 0 QQ (F0 m 18 ls []) := by
        intro n11
        induction n11 with
        | zero =>
          intro i12 x15 H locs ls hii12 hsi12 hxx15  Y hl
          refine lv_iload_n X.1 X.2.1 d_makeBox_18 rfl (lv_at hl 0 rfl) ?_
          refine lv_sipush (v := (nI 254)) X.1 X.2.1 d_makeBox_19 (by decide) ?_
          refine lv_icmp_ge (tgt := 37) X.1 X.2.1 d_makeBox_22 (by decide) (fun c16 => ?_) (fun c16 => absurd ?_ c16)
          rotate_left
          · (rw [nI_leI (by omega) (by omega)] <;> omega)
          rw [nI_leI (by omega) (by omega)] at c16
          refine lv_iconst (v := (nI 0)) X.1 X.2.1 d_makeBox_37 (by decide) ?_
          refine lv_istore_n (lv' := [(3, .int (nI 0)), (2, .int (nI x15)), (1, .int (nI i2)), (0, .ref h)]) X.1 X.2.1 d_makeBox_38 rfl hl (by decide) rfl (fun ls hl => ?_)
          refine lv_iconst (v := (nI 0)) X.1 X.2.1 d_makeBox_39 (by decide) ?_
          refine lv_istore (lv' := [(4, .int (nI 0)), (3, .int (nI 0)), (2, .int (nI x15)), (1, .int (nI i2)), (0, .ref h)]) X.1 X.2.1 d_makeBox_40 hl (by decide) rfl (fun ls hl => ?_)
          have lp20 : ∀ (n17 i18 : Nat) (x21 : Nat) (H : Heap) (locs : List Loc) (ls : Array Slot), i18 + n17 = 8 → 0 ≤ i18 → x21 < 256 → mH D E (mA E h q sz) s.heap h q (upd I 14 (nI 1)) J B5 G H locs → lv_has ls 6 [(4, .int (nI i18)), (3, .int (nI x21)), (2, .int (nI x15)), (1, .int (nI i2)), (0, .ref h)] → W p l e (mR 2 44) s m AV below meth c H locs 0 0 QQ (F0 m 42 ls []) := by
            intro n17
            induction n17 with
            | zero =>
              intro i18 x21 H locs ls hii18 hsi18 hxx21  Y hl
              refine lv_iload X.1 X.2.1 d_makeBox_42 (lv_at hl 0 rfl) ?_
              refine lv_bipush (v := (nI 8)) X.1 X.2.1 d_makeBox_44 (by decide) ?_
              refine lv_icmp_ge (tgt := 119) X.1 X.2.1 d_makeBox_46 (by decide) (fun c22 => ?_) (fun c22 => absurd ?_ c22)
              rotate_left
              · (rw [nI_leI (by omega) (by omega)] <;> omega)
              rw [nI_leI (by omega) (by omega)] at c22
              refine lv_aload_n X.1 X.2.1 d_makeBox_119 rfl (lv_at hl 4 rfl) ?_
              refine m_get X Y 12 (by decide) lk_box (gf_box _ _ _) rfl d_makeBox_120 ?_
              refine lv_iload_n X.1 X.2.1 d_makeBox_123 rfl (lv_at hl 3 rfl) ?_
              refine lv_iload_n X.1 X.2.1 d_makeBox_124 rfl (lv_at hl 1 rfl) ?_
              refine m_iast X Y (aw_box _ _ _ _ _ _ _) (vp_in_nI (by omega) (by decide)) (sw_box _ _ _ _ _ _ _ _) d_makeBox_125 (fun H locs Y => ?_)
              have y24 : by8 (upd (B5 12) ((nI i2)).toNatClampNeg (nI x21)) := by8_upd y7 (show x21 < 256 by omega)
              generalize (upd (B5 12) ((nI i2)).toNatClampNeg (nI x21)) = f23 at Y y24
              refine lv_aload_n X.1 X.2.1 d_makeBox_126 rfl (lv_at hl 4 rfl) ?_
              refine m_get X Y 13 (by decide) lk_back (gf_back _ _ _) rfl d_makeBox_127 ?_
              refine lv_iload_n X.1 X.2.1 d_makeBox_130 rfl (lv_at hl 1 rfl) ?_
              refine lv_iload_n X.1 X.2.1 d_makeBox_131 rfl (lv_at hl 3 rfl) ?_
              refine m_iast X Y (aw_back _ _ _ _ _ _ _) (vp_in_nI (by omega) (by decide)) (sw_back _ _ _ _ _ _ _ _) d_makeBox_132 (fun H locs Y => ?_)
              have y26 : by8 (upd ((upB B5 12 f23) 13) ((nI x21)).toNatClampNeg (nI i2)) := by8_upd y8 (show i2 < 256 by omega)
              generalize (upd ((upB B5 12 f23) 13) ((nI x21)).toNatClampNeg (nI i2)) = f25 at Y y26
              refine lv_iinc (v := (nI (i2 + 1))) (lv' := [(1, .int (nI (i2 + 1))), (4, .int (nI i18)), (3, .int (nI x21)), (2, .int (nI x15)), (0, .ref h)]) X.1 X.2.1 d_makeBox_133 hl (k := 3) rfl (nI_add _ 1) (by decide) rfl (fun ls hl => ?_)
              refine lv_goto (tgt := 7) X.1 X.2.1 d_makeBox_136 (by decide) ?_
              exact ih3 (i2 + 1) (upB (upB B5 12 f23) 13 f25) _ _ _ (by omega) (by omega) (fun j h12 h13 => ((if_neg h13).trans ((if_neg h12).trans (hB6 j h12 h13)))) (show by8 ((upB (upB B5 12 f23) 13 f25) 12) from y24) (show by8 ((upB (upB B5 12 f23) 13 f25) 13) from y26)  Y (lv_sub hl [0, 4] rfl)
            | succ n17 ih19 =>
              intro i18 x21 H locs ls hii18 hsi18 hxx21  Y hl
              refine lv_iload X.1 X.2.1 d_makeBox_42 (lv_at hl 0 rfl) ?_
              refine lv_bipush (v := (nI 8)) X.1 X.2.1 d_makeBox_44 (by decide) ?_
              refine lv_icmp_ge (tgt := 119) X.1 X.2.1 d_makeBox_46 (by decide) (fun c27 => absurd c27 ?_) (fun c27 => ?_)
              · (rw [nI_leI (by omega) (by omega)] <;> omega)
              rw [nI_leI (by omega) (by omega)] at c27
              refine lv_iload_n X.1 X.2.1 d_makeBox_49 rfl (lv_at hl 2 rfl) ?_
              refine lv_iload X.1 X.2.1 d_makeBox_50 (lv_at hl 0 rfl) ?_
              refine lv_ishr X.1 X.2.1 d_makeBox_52 ?_
              refine t_any (fun v28 => ?_)
              refine lv_iload_n X.1 X.2.1 d_makeBox_53 rfl (lv_at hl 2 rfl) ?_
              refine lv_iload X.1 X.2.1 d_makeBox_54 (lv_at hl 0 rfl) ?_
              refine lv_iconst (v := (nI 4)) X.1 X.2.1 d_makeBox_56 (by decide) ?_
              refine lv_iadd X.1 X.2.1 d_makeBox_57 ?_
              refine t_eq (y := nI (i18 + 4)) (nI_add _ _) ?_
              refine lv_bipush (v := (nI 8)) X.1 X.2.1 d_makeBox_58 (by decide) ?_
              refine lv_irem X.1 X.2.1 d_makeBox_60 (nI_ne0 (by omega) (by omega)) ?_
              refine t_eq (y := nI ((i18 + 4) % (8))) (pk_rem (by omega) (by omega) (by omega)) ?_
              refine lv_ishr X.1 X.2.1 d_makeBox_61 ?_
              refine t_any (fun v29 => ?_)
              refine lv_ixor X.1 X.2.1 d_makeBox_62 ?_
              refine t_any (fun v30 => ?_)
              refine lv_iload_n X.1 X.2.1 d_makeBox_63 rfl (lv_at hl 2 rfl) ?_
              refine lv_iload X.1 X.2.1 d_makeBox_64 (lv_at hl 0 rfl) ?_
              refine lv_iconst (v := (nI 5)) X.1 X.2.1 d_makeBox_66 (by decide) ?_
              refine lv_iadd X.1 X.2.1 d_makeBox_67 ?_
              refine t_eq (y := nI (i18 + 5)) (nI_add _ _) ?_
              refine lv_bipush (v := (nI 8)) X.1 X.2.1 d_makeBox_68 (by decide) ?_
              refine lv_irem X.1 X.2.1 d_makeBox_70 (nI_ne0 (by omega) (by omega)) ?_
              refine t_eq (y := nI ((i18 + 5) % (8))) (pk_rem (by omega) (by omega) (by omega)) ?_
              refine lv_ishr X.1 X.2.1 d_makeBox_71 ?_
              refine t_any (fun v31 => ?_)
              refine lv_ixor X.1 X.2.1 d_makeBox_72 ?_
              refine t_any (fun v32 => ?_)
              refine lv_iload_n X.1 X.2.1 d_makeBox_73 rfl (lv_at hl 2 rfl) ?_
              refine lv_iload X.1 X.2.1 d_makeBox_74 (lv_at hl 0 rfl) ?_
              refine lv_bipush (v := (nI 6)) X.1 X.2.1 d_makeBox_76 (by decide) ?_
              refine lv_iadd X.1 X.2.1 d_makeBox_78 ?_
              refine t_eq (y := nI (i18 + 6)) (nI_add _ _) ?_
              refine lv_bipush (v := (nI 8)) X.1 X.2.1 d_makeBox_79 (by decide) ?_
              refine lv_irem X.1 X.2.1 d_makeBox_81 (nI_ne0 (by omega) (by omega)) ?_
              refine t_eq (y := nI ((i18 + 6) % (8))) (pk_rem (by omega) (by omega) (by omega)) ?_
              refine lv_ishr X.1 X.2.1 d_makeBox_82 ?_
              refine t_any (fun v33 => ?_)
              refine lv_ixor X.1 X.2.1 d_makeBox_83 ?_
              refine t_any (fun v34 => ?_)
              refine lv_iload_n X.1 X.2.1 d_makeBox_84 rfl (lv_at hl 2 rfl) ?_
              refine lv_iload X.1 X.2.1 d_makeBox_85 (lv_at hl 0 rfl) ?_
              refine lv_bipush (v := (nI 7)) X.1 X.2.1 d_makeBox_87 (by decide) ?_
              refine lv_iadd X.1 X.2.1 d_makeBox_89 ?_
              refine t_eq (y := nI (i18 + 7)) (nI_add _ _) ?_
              refine lv_bipush (v := (nI 8)) X.1 X.2.1 d_makeBox_90 (by decide) ?_
              refine lv_irem X.1 X.2.1 d_makeBox_92 (nI_ne0 (by omega) (by omega)) ?_
              refine t_eq (y := nI ((i18 + 7) % (8))) (pk_rem (by omega) (by omega) (by omega)) ?_
              refine lv_ishr X.1 X.2.1 d_makeBox_93 ?_
              refine t_any (fun v35 => ?_)
              refine lv_ixor X.1 X.2.1 d_makeBox_94 ?_
              refine t_any (fun v36 => ?_)
              refine lv_bipush (v := (nI 99)) X.1 X.2.1 d_makeBox_95 (by decide) ?_
              refine lv_iload X.1 X.2.1 d_makeBox_97 (lv_at hl 0 rfl) ?_
              refine lv_ishr X.1 X.2.1 d_makeBox_99 ?_
              refine t_any (fun v37 => ?_)
              refine lv_ixor X.1 X.2.1 d_makeBox_100 ?_
              refine t_any (fun v38 => ?_)
              refine lv_istore (lv' := [(5, .int v38), (4, .int (nI i18)), (3, .int (nI x21)), (2, .int (nI x15)), (1, .int (nI i2)), (0, .ref h)]) X.1 X.2.1 d_makeBox_101 hl (by decide) rfl (fun ls hl => ?_)
              refine lv_iload_n X.1 X.2.1 d_makeBox_103 rfl (lv_at hl 2 rfl) ?_
              refine lv_iload X.1 X.2.1 d_makeBox_104 (lv_at hl 0 rfl) ?_
              refine lv_iconst (v := (nI 1)) X.1 X.2.1 d_makeBox_106 (by decide) ?_
              refine lv_iand X.1 X.2.1 d_makeBox_107 ?_
              obtain ⟨j39, hj39, ej39⟩ := pk_andE v38 (m := nI 1) 1 (by decide)
              refine t_eq ej39 ?_
              have hj39 : j39 < 2 := hj39
              refine lv_iload X.1 X.2.1 d_makeBox_108 (lv_at hl 1 rfl) ?_
              refine lv_ishl X.1 X.2.1 d_makeBox_110 ?_
              obtain ⟨j40, hj40, ej40⟩ := by_bit (i18) (by omega) (j39) (by omega)
              refine t_eq ej40 ?_
              refine lv_ior X.1 X.2.1 d_makeBox_111 ?_
              obtain ⟨j41, hj41, ej41⟩ := by_ior (a := x21) (b := j40) (by omega) (by omega)
              refine t_eq ej41 ?_
              refine lv_istore_n (lv' := [(3, .int (nI j41)), (5, .int v38), (4, .int (nI i18)), (2, .int (nI x15)), (1, .int (nI i2)), (0, .ref h)]) X.1 X.2.1 d_makeBox_112 rfl hl (by decide) rfl (fun ls hl => ?_)
              refine lv_iinc (v := (nI (i18 + 1))) (lv' := [(4, .int (nI (i18 + 1))), (3, .int (nI j41)), (5, .int v38), (2, .int (nI x15)), (1, .int (nI i2)), (0, .ref h)]) X.1 X.2.1 d_makeBox_113 hl (k := 2) rfl (nI_add _ 1) (by decide) rfl (fun ls hl => ?_)
              refine lv_goto (tgt := 42) X.1 X.2.1 d_makeBox_116 (by decide) ?_
              exact ih19 (i18 + 1) (j41) _ _ _ (by omega) (by omega) (by omega)  Y (lv_sub hl [0, 1, 3, 4, 5] rfl)
          exact lp20 (8) 0 (0) _ _ _ (by omega) (by omega) (by omega)  Y (lv_sub hl [0, 1, 2, 3, 4] rfl)
        | succ n11 ih13 =>
          intro i12 x15 H locs ls hii12 hsi12 hxx15  Y hl
          refine lv_iload_n X.1 X.2.1 d_makeBox_18 rfl (lv_at hl 0 rfl) ?_
          refine lv_sipush (v := (nI 254)) X.1 X.2.1 d_makeBox_19 (by decide) ?_
          refine lv_icmp_ge (tgt := 37) X.1 X.2.1 d_makeBox_22 (by decide) (fun c42 => absurd c42 ?_) (fun c42 => ?_)
          · (rw [nI_leI (by omega) (by omega)] <;> omega)
          rw [nI_leI (by omega) (by omega)] at c42
          refine lv_iload_n X.1 X.2.1 d_makeBox_25 rfl (lv_at hl 1 rfl) ?_
          refine lv_iload_n X.1 X.2.1 d_makeBox_26 rfl (lv_at hl 2 rfl) ?_
          refine p_calli (As := [.int (nI x15), .int (nI i2)]) (rest := []) (n := 2) X Y hml hl.1 (c_product l (x15) (i2) (by omega) (by omega)) kl_product ks_product ki_product ini_M (by decide +kernel) ⟨by decide, by decide⟩ rfl (Nat.le_of_ble_eq_true rfl) d_makeBox_27 ⟨Nat.le_refl _, Nat.le_refl _⟩ (fun r43 H locs hpr43 Y => ?_)
          obtain ⟨j44, hj44, ej44⟩ := hpr43
          refine t_eq ej44 ?_
          refine lv_istore_n (lv' := [(2, .int (nI j44)), (3, .int (nI i12)), (1, .int (nI i2)), (0, .ref h)]) X.1 X.2.1 d_makeBox_30 rfl hl (by decide) rfl (fun ls hl => ?_)
          refine lv_iinc (v := (nI (i12 + 1))) (lv' := [(3, .int (nI (i12 + 1))), (2, .int (nI j44)), (1, .int (nI i2)), (0, .ref h)]) X.1 X.2.1 d_makeBox_31 hl (k := 1) rfl (nI_add _ 1) (by decide) rfl (fun ls hl => ?_)
          refine lv_goto (tgt := 18) X.1 X.2.1 d_makeBox_34 (by decide) ?_
          exact ih13 (i12 + 1) (j44) _ _ _ (by omega) (by omega) (by omega)  Y (lv_sub hl [0, 1, 2, 3] rfl)
      exact lp14 (254) 0 (1) _ _ _ (by omega) (by omega) (by omega)  Y (lv_sub hl [0, 1, 2, 3] rfl)
  exact lp4 (256) 0 B _ _ _ (by omega) (by omega) (fun j h12 h13 => rfl) (show by8 (B 12) from y12) (show by8 (B 13) from y13)  Y (lv_sub hl [0, 1] rfl)
set_option maxHeartbeats 4000000 in
set_option maxRecDepth 100000 in
theorem c_boxed (l : Launch) (D : mD) (E : mE) (h : Nat) (q : Nat → Nat) (sz : Nat) (I : Nat → Int32) (J : Nat → Int64) (B : Nat → Nat → Int32) (G : Nat → Nat → Int64) (a1 : Int32) : Met l y_boxed (k_boxed :: lw_tg) (mR 0 0) (va_Pc [.ref h, .int a1] (mPre D E h q (I, J, B, G) sz)) (va_Qi (fun (r : Int32) (u : mS) => (∀ j, u.1 j = I j) ∧ u.2.1 = J ∧ (∀ j, u.2.2.1 j = B j) ∧ u.2.2.2 = G ∧ (True)) (mPost D E h q (mA E h q sz)) (mA E h q sz)) 0 0 (mA E h q sz) := by
  refine m_enter (by decide) rfl (Nat.le_of_ble_eq_true rfl) (fun p e s m below meth c ls AV QQ H locs hQQ X Y hZ hA hr hlk hml hl => ?_)
  have Y : mH D E (mA E h q sz) s.heap h q I J B G H locs := Y
  have hl : lv_has ls 2 [(0, .ref h), (1, .int a1)] := hl
  refine lv_aload_n X.1 X.2.1 d_boxed_0 rfl (lv_at hl 0 rfl) ?_
  refine m_get X Y 12 (by decide) lk_box (gf_box _ _ _) rfl d_boxed_1 ?_
  refine lv_iload_n X.1 X.2.1 d_boxed_4 rfl (lv_at hl 1 rfl) ?_
  refine lv_bipush (v := (nI 24)) X.1 X.2.1 d_boxed_5 (by decide) ?_
  obtain ⟨j2, hj2, ej2⟩ := by_us24 a1
  refine lv_iushr (v := nI j2) X.1 X.2.1 d_boxed_7 ej2 ?_
  refine m_iald X Y (aw_box _ _ _ _ _ _ _) (vp_in_nI (by omega) (by decide)) d_boxed_8 ?_
  refine t_any (fun v3 => ?_)
  refine lv_bipush (v := (nI 24)) X.1 X.2.1 d_boxed_9 (by decide) ?_
  refine lv_ishl X.1 X.2.1 d_boxed_11 ?_
  refine t_any (fun v4 => ?_)
  refine lv_aload_n X.1 X.2.1 d_boxed_12 rfl (lv_at hl 0 rfl) ?_
  refine m_get X Y 12 (by decide) lk_box (gf_box _ _ _) rfl d_boxed_13 ?_
  refine lv_iload_n X.1 X.2.1 d_boxed_16 rfl (lv_at hl 1 rfl) ?_
  refine lv_bipush (v := (nI 16)) X.1 X.2.1 d_boxed_17 (by decide) ?_
  obtain ⟨v5, ev5⟩ : ∃ z : Int32, ((a1 : Int32).toUInt32 >>> (((nI 16) : Int32).toUInt32 &&& Int32.toUInt32 31)).toInt32 = z := ⟨_, rfl⟩
  refine lv_iushr (v := v5) X.1 X.2.1 d_boxed_19 ev5 ?_
  refine lv_sipush (v := (nI 255)) X.1 X.2.1 d_boxed_20 (by decide) ?_
  refine lv_iand X.1 X.2.1 d_boxed_23 ?_
  obtain ⟨j6, hj6, ej6⟩ := pk_andE v5 (m := nI 255) 8 (by decide)
  refine t_eq ej6 ?_
  have hj6 : j6 < 256 := hj6
  refine m_iald X Y (aw_box _ _ _ _ _ _ _) (vp_in_nI (by omega) (by decide)) d_boxed_24 ?_
  refine t_any (fun v7 => ?_)
  refine lv_bipush (v := (nI 16)) X.1 X.2.1 d_boxed_25 (by decide) ?_
  refine lv_ishl X.1 X.2.1 d_boxed_27 ?_
  refine t_any (fun v8 => ?_)
  refine lv_ior X.1 X.2.1 d_boxed_28 ?_
  refine t_any (fun v9 => ?_)
  refine lv_aload_n X.1 X.2.1 d_boxed_29 rfl (lv_at hl 0 rfl) ?_
  refine m_get X Y 12 (by decide) lk_box (gf_box _ _ _) rfl d_boxed_30 ?_
  refine lv_iload_n X.1 X.2.1 d_boxed_33 rfl (lv_at hl 1 rfl) ?_
  refine lv_bipush (v := (nI 8)) X.1 X.2.1 d_boxed_34 (by decide) ?_
  obtain ⟨v10, ev10⟩ : ∃ z : Int32, ((a1 : Int32).toUInt32 >>> (((nI 8) : Int32).toUInt32 &&& Int32.toUInt32 31)).toInt32 = z := ⟨_, rfl⟩
  refine lv_iushr (v := v10) X.1 X.2.1 d_boxed_36 ev10 ?_
  refine lv_sipush (v := (nI 255)) X.1 X.2.1 d_boxed_37 (by decide) ?_
  refine lv_iand X.1 X.2.1 d_boxed_40 ?_
  obtain ⟨j11, hj11, ej11⟩ := pk_andE v10 (m := nI 255) 8 (by decide)
  refine t_eq ej11 ?_
  have hj11 : j11 < 256 := hj11
  refine m_iald X Y (aw_box _ _ _ _ _ _ _) (vp_in_nI (by omega) (by decide)) d_boxed_41 ?_
  refine t_any (fun v12 => ?_)
  refine lv_bipush (v := (nI 8)) X.1 X.2.1 d_boxed_42 (by decide) ?_
  refine lv_ishl X.1 X.2.1 d_boxed_44 ?_
  refine t_any (fun v13 => ?_)
  refine lv_ior X.1 X.2.1 d_boxed_45 ?_
  refine t_any (fun v14 => ?_)
  refine lv_aload_n X.1 X.2.1 d_boxed_46 rfl (lv_at hl 0 rfl) ?_
  refine m_get X Y 12 (by decide) lk_box (gf_box _ _ _) rfl d_boxed_47 ?_
  refine lv_iload_n X.1 X.2.1 d_boxed_50 rfl (lv_at hl 1 rfl) ?_
  refine lv_sipush (v := (nI 255)) X.1 X.2.1 d_boxed_51 (by decide) ?_
  refine lv_iand X.1 X.2.1 d_boxed_54 ?_
  obtain ⟨j15, hj15, ej15⟩ := pk_andE a1 (m := nI 255) 8 (by decide)
  refine t_eq ej15 ?_
  have hj15 : j15 < 256 := hj15
  refine m_iald X Y (aw_box _ _ _ _ _ _ _) (vp_in_nI (by omega) (by decide)) d_boxed_55 ?_
  refine t_any (fun v16 => ?_)
  refine lv_ior X.1 X.2.1 d_boxed_56 ?_
  refine t_any (fun v17 => ?_)
  exact m_reti hQQ X Y hr hlk ⟨(fun j  => rfl), rfl, (fun j  => rfl), rfl, trivial⟩ d_boxed_57
set_option maxHeartbeats 4000000 in
set_option maxRecDepth 100000 in
theorem c_aesKey_long0_16 (l : Launch) (D : mD) (E : mE) (h : Nat) (q : Nat → Nat) (sz : Nat) (I : Nat → Int32) (J : Nat → Int64) (B : Nat → Nat → Int32) (G : Nat → Nat → Int64)  (y12 : by8 (B 12)) (y13 : by8 (B 13)) : Met l y_aesKey (k_aesKey :: lw_tg) (mR 3 69) (va_Pc [.ref h, .ref (q 27), .int (nI 16)] (mPre D E h q (I, J, B, G) sz)) (va_Qv (fun (u : mS) => (∀ j, j ≠ 14 → j ≠ 18 → u.1 j = I j) ∧ u.2.1 = J ∧ (∀ j, j ≠ 12 → j ≠ 13 → j ≠ 15 → u.2.2.1 j = B j) ∧ u.2.2.2 = G ∧ u.1 18 = nI (10) ∧ by8 (u.2.2.1 12) ∧ by8 (u.2.2.1 13)) (mPost D E h q (mA E h q sz)) (mA E h q sz)) 0 0 (mA E h q sz) := by
  refine m_enter (by decide) rfl (Nat.le_of_ble_eq_true rfl) (fun p e s m below meth c ls AV QQ H locs hQQ X Y hZ hA hr hlk hml hl => ?_)
  have Y : mH D E (mA E h q sz) s.heap h q I J B G H locs := Y
  have hl : lv_has ls 7 [(0, .ref h), (1, .ref (q 27)), (2, .int (nI 16))] := hl
  refine lv_aload_n X.1 X.2.1 d_aesKey_0 rfl (lv_at hl 0 rfl) ?_
  refine m_get X Y 14 (by decide) lk_hasBox (gf_hasBox _ _ _) rfl d_aesKey_1 ?_
  refine lv_if_ne (tgt := 11) X.1 X.2.1 d_aesKey_4 (by decide) (fun c1 => ?_) (fun c1 => ?_)
  · skip
    refine lv_iload_n X.1 X.2.1 d_aesKey_11 rfl (lv_at hl 2 rfl) ?_
    refine lv_iconst (v := (nI 4)) X.1 X.2.1 d_aesKey_12 (by decide) ?_
    refine lv_idiv X.1 X.2.1 d_aesKey_13 (nI_ne0 (by omega) (by omega)) ?_
    refine t_eq (y := nI 4) (by decide) ?_
    refine lv_istore_n (lv' := [(3, .int (nI 4)), (0, .ref h), (1, .ref (q 27)), (2, .int (nI 16))]) X.1 X.2.1 d_aesKey_14 rfl hl (by decide) rfl (fun ls hl => ?_)
    refine lv_aload_n X.1 X.2.1 d_aesKey_15 rfl (lv_at hl 1 rfl) ?_
    refine lv_iload_n X.1 X.2.1 d_aesKey_16 rfl (lv_at hl 0 rfl) ?_
    refine lv_bipush (v := (nI 6)) X.1 X.2.1 d_aesKey_17 (by decide) ?_
    refine lv_iadd X.1 X.2.1 d_aesKey_19 ?_
    refine t_eq (y := nI 10) (by decide) ?_
    refine m_puti X Y 18 (by decide) lk_rounds rfl rfl (t_M_ok 18 (by decide)) rfl rfl (sf_rounds _ _ _ _) (Nat.le_of_ble_eq_true rfl) d_aesKey_20 (fun H locs Y => ?_)
    refine lv_iconst (v := (nI 0)) X.1 X.2.1 d_aesKey_23 (by decide) ?_
    refine lv_istore (lv' := [(4, .int (nI 0)), (3, .int (nI 4)), (0, .ref h), (1, .ref (q 27)), (2, .int (nI 16))]) X.1 X.2.1 d_aesKey_24 hl (by decide) rfl (fun ls hl => ?_)
    have lp5 : ∀ (n2 i3 : Nat) (B6 : Nat → Nat → Int32) (H : Heap) (locs : List Loc) (ls : Array Slot), i3 + n2 = 4 → 0 ≤ i3 → (∀ j, j ≠ 12 → j ≠ 13 → j ≠ 15 → B6 j = B j) → by8 (B6 12) → by8 (B6 13) → mH D E (mA E h q sz) s.heap h q (upd I 18 (nI 10)) J B6 G H locs → lv_has ls 7 [(4, .int (nI i3)), (3, .int (nI 4)), (0, .ref h), (1, .ref (q 27)), (2, .int (nI 16))] → W p l e (mR 3 69) s m AV below meth c H locs 0 0 QQ (F0 m 26 ls []) := by
      intro n2
      induction n2 with
      | zero =>
        intro i3 B6 H locs ls hii3 hsi3 hB7 y8 y9  Y hl
        refine lv_iload X.1 X.2.1 d_aesKey_26 (lv_at hl 0 rfl) ?_
        refine lv_iload_n X.1 X.2.1 d_aesKey_28 rfl (lv_at hl 1 rfl) ?_
        refine lv_icmp_ge (tgt := 99) X.1 X.2.1 d_aesKey_29 (by decide) (fun c10 => ?_) (fun c10 => absurd ?_ c10)
        rotate_left
        · (rw [nI_leI (by omega) (by omega)] <;> omega)
        rw [nI_leI (by omega) (by omega)] at c10
        refine lv_iconst (v := (nI 1)) X.1 X.2.1 d_aesKey_99 (by decide) ?_
        refine lv_istore (lv' := [(4, .int (nI 1)), (3, .int (nI 4)), (0, .ref h), (1, .ref (q 27)), (2, .int (nI 16))]) X.1 X.2.1 d_aesKey_100 hl (by decide) rfl (fun ls hl => ?_)
        refine lv_iload_n X.1 X.2.1 d_aesKey_102 rfl (lv_at hl 1 rfl) ?_
        refine lv_istore (lv' := [(5, .int (nI 4)), (4, .int (nI 1)), (3, .int (nI 4)), (0, .ref h), (1, .ref (q 27)), (2, .int (nI 16))]) X.1 X.2.1 d_aesKey_103 hl (by decide) rfl (fun ls hl => ?_)
        have lp14 : ∀ (n11 i12 : Nat) (B15 : Nat → Nat → Int32) (x16 : Nat) (H : Heap) (locs : List Loc) (ls : Array Slot), i12 + n11 = 44 → 4 ≤ i12 → (∀ j, j ≠ 12 → j ≠ 13 → j ≠ 15 → B15 j = B j) → by8 (B15 12) → by8 (B15 13) → x16 < 256 → mH D E (mA E h q sz) s.heap h q (upd I 18 (nI 10)) J B15 G H locs → lv_has ls 7 [(5, .int (nI i12)), (4, .int (nI x16)), (3, .int (nI 4)), (0, .ref h), (1, .ref (q 27)), (2, .int (nI 16))] → W p l e (mR 3 69) s m AV below meth c H locs 0 0 QQ (F0 m 105 ls []) := by
          intro n11
          induction n11 with
          | zero =>
            intro i12 B15 x16 H locs ls hii12 hsi12 hB17 y18 y19 hxx16  Y hl
            refine lv_iload X.1 X.2.1 d_aesKey_105 (lv_at hl 0 rfl) ?_
            refine lv_iconst (v := (nI 4)) X.1 X.2.1 d_aesKey_107 (by decide) ?_
            refine lv_aload_n X.1 X.2.1 d_aesKey_108 rfl (lv_at hl 3 rfl) ?_
            refine m_get X Y 18 (by decide) lk_rounds (gf_rounds _ _ _) rfl d_aesKey_109 ?_
            refine t_eq (show (upd I 18 (nI 10)) 18 = nI (10) from pk_us) ?_
            refine lv_iconst (v := (nI 1)) X.1 X.2.1 d_aesKey_112 (by decide) ?_
            refine lv_iadd X.1 X.2.1 d_aesKey_113 ?_
            refine t_eq (y := nI 11) (by decide) ?_
            refine lv_imul X.1 X.2.1 d_aesKey_114 ?_
            refine t_eq (y := nI 44) (by decide) ?_
            refine lv_icmp_ge (tgt := 212) X.1 X.2.1 d_aesKey_115 (by decide) (fun c20 => ?_) (fun c20 => absurd ?_ c20)
            rotate_left
            · (rw [nI_leI (by omega) (by omega)] <;> omega)
            rw [nI_leI (by omega) (by omega)] at c20
            exact m_retv hQQ X Y hr hlk ⟨(fun j h14 h18 => ((if_neg h18).trans rfl)), rfl, (fun j h12 h13 h15 => (hB17 j h12 h13 h15)), rfl, (show (upd I 18 (nI 10)) 18 = nI (10) from (show (upd I 18 (nI 10)) 18 = nI (10) from pk_us).trans (congrArg nI (show (10 : Nat) = 10 by omega))), (show by8 (B15 12) from y18), (show by8 (B15 13) from y19)⟩ d_aesKey_212
          | succ n11 ih13 =>
            intro i12 B15 x16 H locs ls hii12 hsi12 hB17 y18 y19 hxx16  Y hl
            refine lv_iload X.1 X.2.1 d_aesKey_105 (lv_at hl 0 rfl) ?_
            refine lv_iconst (v := (nI 4)) X.1 X.2.1 d_aesKey_107 (by decide) ?_
            refine lv_aload_n X.1 X.2.1 d_aesKey_108 rfl (lv_at hl 3 rfl) ?_
            refine m_get X Y 18 (by decide) lk_rounds (gf_rounds _ _ _) rfl d_aesKey_109 ?_
            refine t_eq (show (upd I 18 (nI 10)) 18 = nI (10) from pk_us) ?_
            refine lv_iconst (v := (nI 1)) X.1 X.2.1 d_aesKey_112 (by decide) ?_
            refine lv_iadd X.1 X.2.1 d_aesKey_113 ?_
            refine t_eq (y := nI 11) (by decide) ?_
            refine lv_imul X.1 X.2.1 d_aesKey_114 ?_
            refine t_eq (y := nI 44) (by decide) ?_
            refine lv_icmp_ge (tgt := 212) X.1 X.2.1 d_aesKey_115 (by decide) (fun c21 => absurd c21 ?_) (fun c21 => ?_)
            · (rw [nI_leI (by omega) (by omega)] <;> omega)
            rw [nI_leI (by omega) (by omega)] at c21
            refine lv_aload_n X.1 X.2.1 d_aesKey_118 rfl (lv_at hl 3 rfl) ?_
            refine m_get X Y 15 (by decide) lk_schedule (gf_schedule _ _ _) rfl d_aesKey_119 ?_
            refine lv_iload X.1 X.2.1 d_aesKey_122 (lv_at hl 0 rfl) ?_
            refine lv_iconst (v := (nI 1)) X.1 X.2.1 d_aesKey_124 (by decide) ?_
            refine lv_isub X.1 X.2.1 d_aesKey_125 ?_
            refine t_eq (y := nI (i12 - (1))) (pk_sub (by omega)) ?_
            refine m_iald X Y (aw_schedule _ _ _ _ _ _ _) (vp_in_nI (by omega) (by decide)) d_aesKey_126 ?_
            refine t_any (fun v22 => ?_)
            refine lv_istore (lv' := [(6, .int v22), (5, .int (nI i12)), (4, .int (nI x16)), (3, .int (nI 4)), (0, .ref h), (1, .ref (q 27)), (2, .int (nI 16))]) X.1 X.2.1 d_aesKey_127 hl (by decide) rfl (fun ls hl => ?_)
            refine lv_iload X.1 X.2.1 d_aesKey_129 (lv_at hl 1 rfl) ?_
            refine lv_iload_n X.1 X.2.1 d_aesKey_131 rfl (lv_at hl 3 rfl) ?_
            refine lv_irem X.1 X.2.1 d_aesKey_132 (nI_ne0 (by omega) (by omega)) ?_
            refine t_eq (y := nI ((i12) % (4))) (pk_rem (by omega) (by omega) (by omega)) ?_
            refine lv_if_ne (tgt := 165) X.1 X.2.1 d_aesKey_133 (by decide) (fun c23 => ?_) (fun c23 => ?_)
            · skip
              rw [← nI_0] at c23
              rw [nI_eq (by omega) (by omega)] at c23
              refine lv_iload_n X.1 X.2.1 d_aesKey_165 rfl (lv_at hl 3 rfl) ?_
              refine lv_bipush (v := (nI 6)) X.1 X.2.1 d_aesKey_166 (by decide) ?_
              refine lv_icmp_le (tgt := 187) X.1 X.2.1 d_aesKey_168 (by decide) (fun c24 => ?_) (fun c24 => absurd ?_ c24)
              rotate_left
              · (rw [nI_leI (by omega) (by omega)] <;> omega)
              rw [nI_leI (by omega) (by omega)] at c24
              refine lv_aload_n X.1 X.2.1 d_aesKey_187 rfl (lv_at hl 4 rfl) ?_
              refine m_get X Y 15 (by decide) lk_schedule (gf_schedule _ _ _) rfl d_aesKey_188 ?_
              refine lv_iload X.1 X.2.1 d_aesKey_191 (lv_at hl 1 rfl) ?_
              refine lv_aload_n X.1 X.2.1 d_aesKey_193 rfl (lv_at hl 4 rfl) ?_
              refine m_get X Y 15 (by decide) lk_schedule (gf_schedule _ _ _) rfl d_aesKey_194 ?_
              refine lv_iload X.1 X.2.1 d_aesKey_197 (lv_at hl 1 rfl) ?_
              refine lv_iload_n X.1 X.2.1 d_aesKey_199 rfl (lv_at hl 3 rfl) ?_
              refine lv_isub X.1 X.2.1 d_aesKey_200 ?_
              refine t_eq (y := nI (i12 - (4))) (pk_sub (by omega)) ?_
              refine m_iald X Y (aw_schedule _ _ _ _ _ _ _) (vp_in_nI (by omega) (by decide)) d_aesKey_201 ?_
              refine t_any (fun v25 => ?_)
              refine lv_iload X.1 X.2.1 d_aesKey_202 (lv_at hl 0 rfl) ?_
              refine lv_ixor X.1 X.2.1 d_aesKey_204 ?_
              refine t_any (fun v26 => ?_)
              refine m_iast X Y (aw_schedule _ _ _ _ _ _ _) (vp_in_nI (by omega) (by decide)) (sw_schedule _ _ _ _ _ _ _ _) d_aesKey_205 (fun H locs Y => ?_)
              generalize (upd (B15 15) ((nI i12)).toNatClampNeg v26) = f27 at Y
              refine lv_iinc (v := (nI (i12 + 1))) (lv' := [(5, .int (nI (i12 + 1))), (6, .int v22), (4, .int (nI x16)), (3, .int (nI 4)), (0, .ref h), (1, .ref (q 27)), (2, .int (nI 16))]) X.1 X.2.1 d_aesKey_206 hl (k := 1) rfl (nI_add _ 1) (by decide) rfl (fun ls hl => ?_)
              refine lv_goto (tgt := 105) X.1 X.2.1 d_aesKey_209 (by decide) ?_
              exact ih13 (i12 + 1) (upB B15 15 f27) (x16) _ _ _ (by omega) (by omega) (fun j h12 h13 h15 => ((if_neg h15).trans (hB17 j h12 h13 h15))) (show by8 ((upB B15 15 f27) 12) from y18) (show by8 ((upB B15 15 f27) 13) from y19) (by omega)  Y (lv_sub hl [0, 2, 3, 4, 5, 6] rfl)
            · skip
              rw [← nI_0] at c23
              rw [nI_eq (by omega) (by omega)] at c23
              refine lv_aload_n X.1 X.2.1 d_aesKey_136 rfl (lv_at hl 4 rfl) ?_
              refine lv_iload X.1 X.2.1 d_aesKey_137 (lv_at hl 0 rfl) ?_
              refine lv_bipush (v := (nI 8)) X.1 X.2.1 d_aesKey_139 (by decide) ?_
              refine p_calli (As := [.int v22, .int (nI 8)]) (rest := [.ref h]) (n := 2) X Y hml hl.1 (c_left l v22 (nI 8)) kl_left ks_left ki_left ini_M (by decide +kernel) ⟨by decide, by decide⟩ rfl (Nat.le_of_ble_eq_true rfl) d_aesKey_141 ⟨Nat.le_refl _, Nat.le_refl _⟩ (fun r28 H locs hpr28 Y => ?_)
              refine m_calli (As := [.int r28]) (rest := []) (n := 1) X Y hZ hA hml hl.1 (c_boxed l D E h q H.size (upd I 18 (nI 10)) J B15 G r28) kl_boxed ks_boxed kx_boxed ki_boxed ini_M hd_boxed ⟨by decide, by decide⟩ rfl (Nat.le_of_ble_eq_true rfl) d_aesKey_144 ⟨Nat.le_refl _, Nat.le_refl _⟩ (fun r37 u H locs hp Y => ?_)
              obtain ⟨I29, J30, B31, G32⟩ := u
              obtain ⟨hI33, eJ35, hB34, eG36, pr37⟩ := hp
              dsimp only at hI33 eJ35 hB34 eG36 pr37 Y
              rw [eJ35, eG36] at Y
              rw [show I29 = (upd I 18 (nI 10)) from funext hI33] at Y
              rw [show B31 = B15 from funext hB34] at Y
              refine lv_iload X.1 X.2.1 d_aesKey_147 (lv_at hl 2 rfl) ?_
              refine lv_bipush (v := (nI 24)) X.1 X.2.1 d_aesKey_149 (by decide) ?_
              refine lv_ishl X.1 X.2.1 d_aesKey_151 ?_
              refine t_any (fun v40 => ?_)
              refine lv_ixor X.1 X.2.1 d_aesKey_152 ?_
              refine t_any (fun v41 => ?_)
              refine lv_istore (lv' := [(6, .int v41), (5, .int (nI i12)), (4, .int (nI x16)), (3, .int (nI 4)), (0, .ref h), (1, .ref (q 27)), (2, .int (nI 16))]) X.1 X.2.1 d_aesKey_153 hl (by decide) rfl (fun ls hl => ?_)
              refine lv_iload X.1 X.2.1 d_aesKey_155 (lv_at hl 2 rfl) ?_
              refine p_calli (As := [.int (nI x16)]) (rest := []) (n := 1) X Y hml hl.1 (c_twice l (nI x16)) kl_twice ks_twice ki_twice ini_M (by decide +kernel) ⟨by decide, by decide⟩ rfl (Nat.le_of_ble_eq_true rfl) d_aesKey_157 ⟨Nat.le_refl _, Nat.le_refl _⟩ (fun r42 H locs hpr42 Y => ?_)
              obtain ⟨j43, hj43, ej43⟩ := hpr42
              refine t_eq ej43 ?_
              refine lv_istore (lv' := [(4, .int (nI j43)), (6, .int v41), (5, .int (nI i12)), (3, .int (nI 4)), (0, .ref h), (1, .ref (q 27)), (2, .int (nI 16))]) X.1 X.2.1 d_aesKey_160 hl (by decide) rfl (fun ls hl => ?_)
              refine lv_goto (tgt := 187) X.1 X.2.1 d_aesKey_162 (by decide) ?_
              refine lv_aload_n X.1 X.2.1 d_aesKey_187 rfl (lv_at hl 4 rfl) ?_
              refine m_get X Y 15 (by decide) lk_schedule (gf_schedule _ _ _) rfl d_aesKey_188 ?_
              refine lv_iload X.1 X.2.1 d_aesKey_191 (lv_at hl 2 rfl) ?_
              refine lv_aload_n X.1 X.2.1 d_aesKey_193 rfl (lv_at hl 4 rfl) ?_
              refine m_get X Y 15 (by decide) lk_schedule (gf_schedule _ _ _) rfl d_aesKey_194 ?_
              refine lv_iload X.1 X.2.1 d_aesKey_197 (lv_at hl 2 rfl) ?_
              refine lv_iload_n X.1 X.2.1 d_aesKey_199 rfl (lv_at hl 3 rfl) ?_
              refine lv_isub X.1 X.2.1 d_aesKey_200 ?_
              refine t_eq (y := nI (i12 - (4))) (pk_sub (by omega)) ?_
              refine m_iald X Y (aw_schedule _ _ _ _ _ _ _) (vp_in_nI (by omega) (by decide)) d_aesKey_201 ?_
              refine t_any (fun v44 => ?_)
              refine lv_iload X.1 X.2.1 d_aesKey_202 (lv_at hl 1 rfl) ?_
              refine lv_ixor X.1 X.2.1 d_aesKey_204 ?_
              refine t_any (fun v45 => ?_)
              refine m_iast X Y (aw_schedule _ _ _ _ _ _ _) (vp_in_nI (by omega) (by decide)) (sw_schedule _ _ _ _ _ _ _ _) d_aesKey_205 (fun H locs Y => ?_)
              generalize (upd (B15 15) ((nI i12)).toNatClampNeg v45) = f46 at Y
              refine lv_iinc (v := (nI (i12 + 1))) (lv' := [(5, .int (nI (i12 + 1))), (4, .int (nI j43)), (6, .int v41), (3, .int (nI 4)), (0, .ref h), (1, .ref (q 27)), (2, .int (nI 16))]) X.1 X.2.1 d_aesKey_206 hl (k := 2) rfl (nI_add _ 1) (by decide) rfl (fun ls hl => ?_)
              refine lv_goto (tgt := 105) X.1 X.2.1 d_aesKey_209 (by decide) ?_
              exact ih13 (i12 + 1) (upB B15 15 f46) (j43) _ _ _ (by omega) (by omega) (fun j h12 h13 h15 => ((if_neg h15).trans (hB17 j h12 h13 h15))) (show by8 ((upB B15 15 f46) 12) from y18) (show by8 ((upB B15 15 f46) 13) from y19) (by omega)  Y (lv_sub hl [0, 1, 3, 4, 5, 6] rfl)
        exact lp14 (44 - 4) 4 B6 (1) _ _ _ (by omega) (by omega) (fun j h12 h13 h15 => (hB7 j h12 h13 h15)) (show by8 (B6 12) from y8) (show by8 (B6 13) from y9) (by omega)  Y (lv_sub hl [0, 1, 2, 3, 4, 5] rfl)
      | succ n2 ih4 =>
        intro i3 B6 H locs ls hii3 hsi3 hB7 y8 y9  Y hl
        refine lv_iload X.1 X.2.1 d_aesKey_26 (lv_at hl 0 rfl) ?_
        refine lv_iload_n X.1 X.2.1 d_aesKey_28 rfl (lv_at hl 1 rfl) ?_
        refine lv_icmp_ge (tgt := 99) X.1 X.2.1 d_aesKey_29 (by decide) (fun c47 => absurd c47 ?_) (fun c47 => ?_)
        · (rw [nI_leI (by omega) (by omega)] <;> omega)
        rw [nI_leI (by omega) (by omega)] at c47
        refine lv_aload_n X.1 X.2.1 d_aesKey_32 rfl (lv_at hl 2 rfl) ?_
        refine m_get X Y 15 (by decide) lk_schedule (gf_schedule _ _ _) rfl d_aesKey_33 ?_
        refine lv_iload X.1 X.2.1 d_aesKey_36 (lv_at hl 0 rfl) ?_
        refine lv_aload_n X.1 X.2.1 d_aesKey_38 rfl (lv_at hl 3 rfl) ?_
        refine lv_iconst (v := (nI 4)) X.1 X.2.1 d_aesKey_39 (by decide) ?_
        refine lv_iload X.1 X.2.1 d_aesKey_40 (lv_at hl 0 rfl) ?_
        refine lv_imul X.1 X.2.1 d_aesKey_42 ?_
        refine t_eq (y := nI ((4) * (i3))) (pk_mul _ _) ?_
        refine m_bald X Y (aw_long0 _ _ _ _ _ _ _) (vp_in_nI (by omega) (by decide)) d_aesKey_43 ?_
        refine t_any (fun v48 => ?_)
        refine lv_bipush (v := (nI 24)) X.1 X.2.1 d_aesKey_44 (by decide) ?_
        refine lv_ishl X.1 X.2.1 d_aesKey_46 ?_
        refine t_any (fun v49 => ?_)
        refine lv_aload_n X.1 X.2.1 d_aesKey_47 rfl (lv_at hl 3 rfl) ?_
        refine lv_iconst (v := (nI 4)) X.1 X.2.1 d_aesKey_48 (by decide) ?_
        refine lv_iload X.1 X.2.1 d_aesKey_49 (lv_at hl 0 rfl) ?_
        refine lv_imul X.1 X.2.1 d_aesKey_51 ?_
        refine t_eq (y := nI ((4) * (i3))) (pk_mul _ _) ?_
        refine lv_iconst (v := (nI 1)) X.1 X.2.1 d_aesKey_52 (by decide) ?_
        refine lv_iadd X.1 X.2.1 d_aesKey_53 ?_
        refine t_eq (y := nI ((4) * (i3) + 1)) (nI_add _ _) ?_
        refine m_bald X Y (aw_long0 _ _ _ _ _ _ _) (vp_in_nI (by omega) (by decide)) d_aesKey_54 ?_
        refine t_any (fun v50 => ?_)
        refine lv_sipush (v := (nI 255)) X.1 X.2.1 d_aesKey_55 (by decide) ?_
        refine lv_iand X.1 X.2.1 d_aesKey_58 ?_
        obtain ⟨j51, hj51, ej51⟩ := pk_andE v50 (m := nI 255) 8 (by decide)
        refine t_eq ej51 ?_
        have hj51 : j51 < 256 := hj51
        refine lv_bipush (v := (nI 16)) X.1 X.2.1 d_aesKey_59 (by decide) ?_
        refine lv_ishl X.1 X.2.1 d_aesKey_61 ?_
        refine t_any (fun v52 => ?_)
        refine lv_ior X.1 X.2.1 d_aesKey_62 ?_
        refine t_any (fun v53 => ?_)
        refine lv_aload_n X.1 X.2.1 d_aesKey_63 rfl (lv_at hl 3 rfl) ?_
        refine lv_iconst (v := (nI 4)) X.1 X.2.1 d_aesKey_64 (by decide) ?_
        refine lv_iload X.1 X.2.1 d_aesKey_65 (lv_at hl 0 rfl) ?_
        refine lv_imul X.1 X.2.1 d_aesKey_67 ?_
        refine t_eq (y := nI ((4) * (i3))) (pk_mul _ _) ?_
        refine lv_iconst (v := (nI 2)) X.1 X.2.1 d_aesKey_68 (by decide) ?_
        refine lv_iadd X.1 X.2.1 d_aesKey_69 ?_
        refine t_eq (y := nI ((4) * (i3) + 2)) (nI_add _ _) ?_
        refine m_bald X Y (aw_long0 _ _ _ _ _ _ _) (vp_in_nI (by omega) (by decide)) d_aesKey_70 ?_
        refine t_any (fun v54 => ?_)
        refine lv_sipush (v := (nI 255)) X.1 X.2.1 d_aesKey_71 (by decide) ?_
        refine lv_iand X.1 X.2.1 d_aesKey_74 ?_
        obtain ⟨j55, hj55, ej55⟩ := pk_andE v54 (m := nI 255) 8 (by decide)
        refine t_eq ej55 ?_
        have hj55 : j55 < 256 := hj55
        refine lv_bipush (v := (nI 8)) X.1 X.2.1 d_aesKey_75 (by decide) ?_
        refine lv_ishl X.1 X.2.1 d_aesKey_77 ?_
        refine t_any (fun v56 => ?_)
        refine lv_ior X.1 X.2.1 d_aesKey_78 ?_
        refine t_any (fun v57 => ?_)
        refine lv_aload_n X.1 X.2.1 d_aesKey_79 rfl (lv_at hl 3 rfl) ?_
        refine lv_iconst (v := (nI 4)) X.1 X.2.1 d_aesKey_80 (by decide) ?_
        refine lv_iload X.1 X.2.1 d_aesKey_81 (lv_at hl 0 rfl) ?_
        refine lv_imul X.1 X.2.1 d_aesKey_83 ?_
        refine t_eq (y := nI ((4) * (i3))) (pk_mul _ _) ?_
        refine lv_iconst (v := (nI 3)) X.1 X.2.1 d_aesKey_84 (by decide) ?_
        refine lv_iadd X.1 X.2.1 d_aesKey_85 ?_
        refine t_eq (y := nI ((4) * (i3) + 3)) (nI_add _ _) ?_
        refine m_bald X Y (aw_long0 _ _ _ _ _ _ _) (vp_in_nI (by omega) (by decide)) d_aesKey_86 ?_
        refine t_any (fun v58 => ?_)
        refine lv_sipush (v := (nI 255)) X.1 X.2.1 d_aesKey_87 (by decide) ?_
        refine lv_iand X.1 X.2.1 d_aesKey_90 ?_
        obtain ⟨j59, hj59, ej59⟩ := pk_andE v58 (m := nI 255) 8 (by decide)
        refine t_eq ej59 ?_
        have hj59 : j59 < 256 := hj59
        refine lv_ior X.1 X.2.1 d_aesKey_91 ?_
        refine t_any (fun v60 => ?_)
        refine m_iast X Y (aw_schedule _ _ _ _ _ _ _) (vp_in_nI (by omega) (by decide)) (sw_schedule _ _ _ _ _ _ _ _) d_aesKey_92 (fun H locs Y => ?_)
        generalize (upd (B6 15) ((nI i3)).toNatClampNeg v60) = f61 at Y
        refine lv_iinc (v := (nI (i3 + 1))) (lv' := [(4, .int (nI (i3 + 1))), (3, .int (nI 4)), (0, .ref h), (1, .ref (q 27)), (2, .int (nI 16))]) X.1 X.2.1 d_aesKey_93 hl (k := 0) rfl (nI_add _ 1) (by decide) rfl (fun ls hl => ?_)
        refine lv_goto (tgt := 26) X.1 X.2.1 d_aesKey_96 (by decide) ?_
        exact ih4 (i3 + 1) (upB B6 15 f61) _ _ _ (by omega) (by omega) (fun j h12 h13 h15 => ((if_neg h15).trans (hB7 j h12 h13 h15))) (show by8 ((upB B6 15 f61) 12) from y8) (show by8 ((upB B6 15 f61) 13) from y9)  Y (lv_sub hl [0, 1, 2, 3, 4] rfl)
    exact lp5 (4) 0 B _ _ _ (by omega) (by omega) (fun j h12 h13 h15 => rfl) (show by8 (B 12) from y12) (show by8 (B 13) from y13)  Y (lv_sub hl [0, 1, 2, 3, 4] rfl)
  · skip
    refine lv_aload_n X.1 X.2.1 d_aesKey_7 rfl (lv_at hl 0 rfl) ?_
    refine m_callv (As := []) (rest := []) (n := 0) X Y hZ hA hml hl.1 (c_makeBox l D E h q H.size I J B G  (show by8 (B 12) from y12) (show by8 (B 13) from y13)) kl_makeBox ks_makeBox kx_makeBox ki_makeBox ini_M hd_makeBox ⟨by decide, by decide⟩ rfl (Nat.le_of_ble_eq_true rfl) d_aesKey_8 ⟨Nat.le_refl _, Nat.le_refl _⟩ (fun u H locs hp Y => ?_)
    obtain ⟨I62, J63, B64, G65⟩ := u
    obtain ⟨hI66, eJ68, hB67, eG69, hk73, y71, y72⟩ := hp
    dsimp only at hI66 eJ68 hB67 eG69 hk73 y71 y72 Y
    rw [eJ68, eG69] at Y
    have hI74 : (∀ j, j ≠ 14 → j ≠ 18 → I62 j = I j) := fun j h14 h18 => (hI66 j h14).trans ((fun j h14 h18 => rfl) j h14 h18)
    have hB75 : (∀ j, j ≠ 12 → j ≠ 13 → j ≠ 15 → B64 j = B j) := fun j h12 h13 h15 => (hB67 j h12 h13).trans ((fun j h12 h13 h15 => rfl) j h12 h13 h15)
    refine lv_iload_n X.1 X.2.1 d_aesKey_11 rfl (lv_at hl 2 rfl) ?_
    refine lv_iconst (v := (nI 4)) X.1 X.2.1 d_aesKey_12 (by decide) ?_
    refine lv_idiv X.1 X.2.1 d_aesKey_13 (nI_ne0 (by omega) (by omega)) ?_
    refine t_eq (y := nI 4) (by decide) ?_
    refine lv_istore_n (lv' := [(3, .int (nI 4)), (0, .ref h), (1, .ref (q 27)), (2, .int (nI 16))]) X.1 X.2.1 d_aesKey_14 rfl hl (by decide) rfl (fun ls hl => ?_)
    refine lv_aload_n X.1 X.2.1 d_aesKey_15 rfl (lv_at hl 1 rfl) ?_
    refine lv_iload_n X.1 X.2.1 d_aesKey_16 rfl (lv_at hl 0 rfl) ?_
    refine lv_bipush (v := (nI 6)) X.1 X.2.1 d_aesKey_17 (by decide) ?_
    refine lv_iadd X.1 X.2.1 d_aesKey_19 ?_
    refine t_eq (y := nI 10) (by decide) ?_
    refine m_puti X Y 18 (by decide) lk_rounds rfl rfl (t_M_ok 18 (by decide)) rfl rfl (sf_rounds _ _ _ _) (Nat.le_of_ble_eq_true rfl) d_aesKey_20 (fun H locs Y => ?_)
    refine lv_iconst (v := (nI 0)) X.1 X.2.1 d_aesKey_23 (by decide) ?_
    refine lv_istore (lv' := [(4, .int (nI 0)), (3, .int (nI 4)), (0, .ref h), (1, .ref (q 27)), (2, .int (nI 16))]) X.1 X.2.1 d_aesKey_24 hl (by decide) rfl (fun ls hl => ?_)
    have lp79 : ∀ (n76 i77 : Nat) (B80 : Nat → Nat → Int32) (H : Heap) (locs : List Loc) (ls : Array Slot), i77 + n76 = 4 → 0 ≤ i77 → (∀ j, j ≠ 12 → j ≠ 13 → j ≠ 15 → B80 j = B j) → by8 (B80 12) → by8 (B80 13) → mH D E (mA E h q sz) s.heap h q (upd I62 18 (nI 10)) J B80 G H locs → lv_has ls 7 [(4, .int (nI i77)), (3, .int (nI 4)), (0, .ref h), (1, .ref (q 27)), (2, .int (nI 16))] → W p l e (mR 3 69) s m AV below meth c H locs 0 0 QQ (F0 m 26 ls []) := by
      intro n76
      induction n76 with
      | zero =>
        intro i77 B80 H locs ls hii77 hsi77 hB81 y82 y83  Y hl
        refine lv_iload X.1 X.2.1 d_aesKey_26 (lv_at hl 0 rfl) ?_
        refine lv_iload_n X.1 X.2.1 d_aesKey_28 rfl (lv_at hl 1 rfl) ?_
        refine lv_icmp_ge (tgt := 99) X.1 X.2.1 d_aesKey_29 (by decide) (fun c84 => ?_) (fun c84 => absurd ?_ c84)
        rotate_left
        · (rw [nI_leI (by omega) (by omega)] <;> omega)
        rw [nI_leI (by omega) (by omega)] at c84
        refine lv_iconst (v := (nI 1)) X.1 X.2.1 d_aesKey_99 (by decide) ?_
        refine lv_istore (lv' := [(4, .int (nI 1)), (3, .int (nI 4)), (0, .ref h), (1, .ref (q 27)), (2, .int (nI 16))]) X.1 X.2.1 d_aesKey_100 hl (by decide) rfl (fun ls hl => ?_)
        refine lv_iload_n X.1 X.2.1 d_aesKey_102 rfl (lv_at hl 1 rfl) ?_
        refine lv_istore (lv' := [(5, .int (nI 4)), (4, .int (nI 1)), (3, .int (nI 4)), (0, .ref h), (1, .ref (q 27)), (2, .int (nI 16))]) X.1 X.2.1 d_aesKey_103 hl (by decide) rfl (fun ls hl => ?_)
        have lp88 : ∀ (n85 i86 : Nat) (B89 : Nat → Nat → Int32) (x90 : Nat) (H : Heap) (locs : List Loc) (ls : Array Slot), i86 + n85 = 44 → 4 ≤ i86 → (∀ j, j ≠ 12 → j ≠ 13 → j ≠ 15 → B89 j = B j) → by8 (B89 12) → by8 (B89 13) → x90 < 256 → mH D E (mA E h q sz) s.heap h q (upd I62 18 (nI 10)) J B89 G H locs → lv_has ls 7 [(5, .int (nI i86)), (4, .int (nI x90)), (3, .int (nI 4)), (0, .ref h), (1, .ref (q 27)), (2, .int (nI 16))] → W p l e (mR 3 69) s m AV below meth c H locs 0 0 QQ (F0 m 105 ls []) := by
          intro n85
          induction n85 with
          | zero =>
            intro i86 B89 x90 H locs ls hii86 hsi86 hB91 y92 y93 hxx90  Y hl
            refine lv_iload X.1 X.2.1 d_aesKey_105 (lv_at hl 0 rfl) ?_
            refine lv_iconst (v := (nI 4)) X.1 X.2.1 d_aesKey_107 (by decide) ?_
            refine lv_aload_n X.1 X.2.1 d_aesKey_108 rfl (lv_at hl 3 rfl) ?_
            refine m_get X Y 18 (by decide) lk_rounds (gf_rounds _ _ _) rfl d_aesKey_109 ?_
            refine t_eq (show (upd I62 18 (nI 10)) 18 = nI (10) from pk_us) ?_
            refine lv_iconst (v := (nI 1)) X.1 X.2.1 d_aesKey_112 (by decide) ?_
            refine lv_iadd X.1 X.2.1 d_aesKey_113 ?_
            refine t_eq (y := nI 11) (by decide) ?_
            refine lv_imul X.1 X.2.1 d_aesKey_114 ?_
            refine t_eq (y := nI 44) (by decide) ?_
            refine lv_icmp_ge (tgt := 212) X.1 X.2.1 d_aesKey_115 (by decide) (fun c94 => ?_) (fun c94 => absurd ?_ c94)
            rotate_left
            · (rw [nI_leI (by omega) (by omega)] <;> omega)
            rw [nI_leI (by omega) (by omega)] at c94
            exact m_retv hQQ X Y hr hlk ⟨(fun j h14 h18 => ((if_neg h18).trans (hI74 j h14 h18))), rfl, (fun j h12 h13 h15 => (hB91 j h12 h13 h15)), rfl, (show (upd I62 18 (nI 10)) 18 = nI (10) from (show (upd I62 18 (nI 10)) 18 = nI (10) from pk_us).trans (congrArg nI (show (10 : Nat) = 10 by omega))), (show by8 (B89 12) from y92), (show by8 (B89 13) from y93)⟩ d_aesKey_212
          | succ n85 ih87 =>
            intro i86 B89 x90 H locs ls hii86 hsi86 hB91 y92 y93 hxx90  Y hl
            refine lv_iload X.1 X.2.1 d_aesKey_105 (lv_at hl 0 rfl) ?_
            refine lv_iconst (v := (nI 4)) X.1 X.2.1 d_aesKey_107 (by decide) ?_
            refine lv_aload_n X.1 X.2.1 d_aesKey_108 rfl (lv_at hl 3 rfl) ?_
            refine m_get X Y 18 (by decide) lk_rounds (gf_rounds _ _ _) rfl d_aesKey_109 ?_
            refine t_eq (show (upd I62 18 (nI 10)) 18 = nI (10) from pk_us) ?_
            refine lv_iconst (v := (nI 1)) X.1 X.2.1 d_aesKey_112 (by decide) ?_
            refine lv_iadd X.1 X.2.1 d_aesKey_113 ?_
            refine t_eq (y := nI 11) (by decide) ?_
            refine lv_imul X.1 X.2.1 d_aesKey_114 ?_
            refine t_eq (y := nI 44) (by decide) ?_
            refine lv_icmp_ge (tgt := 212) X.1 X.2.1 d_aesKey_115 (by decide) (fun c95 => absurd c95 ?_) (fun c95 => ?_)
            · (rw [nI_leI (by omega) (by omega)] <;> omega)
            rw [nI_leI (by omega) (by omega)] at c95
            refine lv_aload_n X.1 X.2.1 d_aesKey_118 rfl (lv_at hl 3 rfl) ?_
            refine m_get X Y 15 (by decide) lk_schedule (gf_schedule _ _ _) rfl d_aesKey_119 ?_
            refine lv_iload X.1 X.2.1 d_aesKey_122 (lv_at hl 0 rfl) ?_
            refine lv_iconst (v := (nI 1)) X.1 X.2.1 d_aesKey_124 (by decide) ?_
            refine lv_isub X.1 X.2.1 d_aesKey_125 ?_
            refine t_eq (y := nI (i86 - (1))) (pk_sub (by omega)) ?_
            refine m_iald X Y (aw_schedule _ _ _ _ _ _ _) (vp_in_nI (by omega) (by decide)) d_aesKey_126 ?_
            refine t_any (fun v96 => ?_)
            refine lv_istore (lv' := [(6, .int v96), (5, .int (nI i86)), (4, .int (nI x90)), (3, .int (nI 4)), (0, .ref h), (1, .ref (q 27)), (2, .int (nI 16))]) X.1 X.2.1 d_aesKey_127 hl (by decide) rfl (fun ls hl => ?_)
            refine lv_iload X.1 X.2.1 d_aesKey_129 (lv_at hl 1 rfl) ?_
            refine lv_iload_n X.1 X.2.1 d_aesKey_131 rfl (lv_at hl 3 rfl) ?_
            refine lv_irem X.1 X.2.1 d_aesKey_132 (nI_ne0 (by omega) (by omega)) ?_
            refine t_eq (y := nI ((i86) % (4))) (pk_rem (by omega) (by omega) (by omega)) ?_
            refine lv_if_ne (tgt := 165) X.1 X.2.1 d_aesKey_133 (by decide) (fun c97 => ?_) (fun c97 => ?_)
            · skip
              rw [← nI_0] at c97
              rw [nI_eq (by omega) (by omega)] at c97
              refine lv_iload_n X.1 X.2.1 d_aesKey_165 rfl (lv_at hl 3 rfl) ?_
              refine lv_bipush (v := (nI 6)) X.1 X.2.1 d_aesKey_166 (by decide) ?_
              refine lv_icmp_le (tgt := 187) X.1 X.2.1 d_aesKey_168 (by decide) (fun c98 => ?_) (fun c98 => absurd ?_ c98)
              rotate_left
              · (rw [nI_leI (by omega) (by omega)] <;> omega)
              rw [nI_leI (by omega) (by omega)] at c98
              refine lv_aload_n X.1 X.2.1 d_aesKey_187 rfl (lv_at hl 4 rfl) ?_
              refine m_get X Y 15 (by decide) lk_schedule (gf_schedule _ _ _) rfl d_aesKey_188 ?_
              refine lv_iload X.1 X.2.1 d_aesKey_191 (lv_at hl 1 rfl) ?_
              refine lv_aload_n X.1 X.2.1 d_aesKey_193 rfl (lv_at hl 4 rfl) ?_
              refine m_get X Y 15 (by decide) lk_schedule (gf_schedule _ _ _) rfl d_aesKey_194 ?_
              refine lv_iload X.1 X.2.1 d_aesKey_197 (lv_at hl 1 rfl) ?_
              refine lv_iload_n X.1 X.2.1 d_aesKey_199 rfl (lv_at hl 3 rfl) ?_
              refine lv_isub X.1 X.2.1 d_aesKey_200 ?_
              refine t_eq (y := nI (i86 - (4))) (pk_sub (by omega)) ?_
              refine m_iald X Y (aw_schedule _ _ _ _ _ _ _) (vp_in_nI (by omega) (by decide)) d_aesKey_201 ?_
              refine t_any (fun v99 => ?_)
              refine lv_iload X.1 X.2.1 d_aesKey_202 (lv_at hl 0 rfl) ?_
              refine lv_ixor X.1 X.2.1 d_aesKey_204 ?_
              refine t_any (fun v100 => ?_)
              refine m_iast X Y (aw_schedule _ _ _ _ _ _ _) (vp_in_nI (by omega) (by decide)) (sw_schedule _ _ _ _ _ _ _ _) d_aesKey_205 (fun H locs Y => ?_)
              generalize (upd (B89 15) ((nI i86)).toNatClampNeg v100) = f101 at Y
              refine lv_iinc (v := (nI (i86 + 1))) (lv' := [(5, .int (nI (i86 + 1))), (6, .int v96), (4, .int (nI x90)), (3, .int (nI 4)), (0, .ref h), (1, .ref (q 27)), (2, .int (nI 16))]) X.1 X.2.1 d_aesKey_206 hl (k := 1) rfl (nI_add _ 1) (by decide) rfl (fun ls hl => ?_)
              refine lv_goto (tgt := 105) X.1 X.2.1 d_aesKey_209 (by decide) ?_
              exact ih87 (i86 + 1) (upB B89 15 f101) (x90) _ _ _ (by omega) (by omega) (fun j h12 h13 h15 => ((if_neg h15).trans (hB91 j h12 h13 h15))) (show by8 ((upB B89 15 f101) 12) from y92) (show by8 ((upB B89 15 f101) 13) from y93) (by omega)  Y (lv_sub hl [0, 2, 3, 4, 5, 6] rfl)
            · skip
              rw [← nI_0] at c97
              rw [nI_eq (by omega) (by omega)] at c97
              refine lv_aload_n X.1 X.2.1 d_aesKey_136 rfl (lv_at hl 4 rfl) ?_
              refine lv_iload X.1 X.2.1 d_aesKey_137 (lv_at hl 0 rfl) ?_
              refine lv_bipush (v := (nI 8)) X.1 X.2.1 d_aesKey_139 (by decide) ?_
              refine p_calli (As := [.int v96, .int (nI 8)]) (rest := [.ref h]) (n := 2) X Y hml hl.1 (c_left l v96 (nI 8)) kl_left ks_left ki_left ini_M (by decide +kernel) ⟨by decide, by decide⟩ rfl (Nat.le_of_ble_eq_true rfl) d_aesKey_141 ⟨Nat.le_refl _, Nat.le_refl _⟩ (fun r102 H locs hpr102 Y => ?_)
              refine m_calli (As := [.int r102]) (rest := []) (n := 1) X Y hZ hA hml hl.1 (c_boxed l D E h q H.size (upd I62 18 (nI 10)) J B89 G r102) kl_boxed ks_boxed kx_boxed ki_boxed ini_M hd_boxed ⟨by decide, by decide⟩ rfl (Nat.le_of_ble_eq_true rfl) d_aesKey_144 ⟨Nat.le_refl _, Nat.le_refl _⟩ (fun r111 u H locs hp Y => ?_)
              obtain ⟨I103, J104, B105, G106⟩ := u
              obtain ⟨hI107, eJ109, hB108, eG110, pr111⟩ := hp
              dsimp only at hI107 eJ109 hB108 eG110 pr111 Y
              rw [eJ109, eG110] at Y
              rw [show I103 = (upd I62 18 (nI 10)) from funext hI107] at Y
              rw [show B105 = B89 from funext hB108] at Y
              refine lv_iload X.1 X.2.1 d_aesKey_147 (lv_at hl 2 rfl) ?_
              refine lv_bipush (v := (nI 24)) X.1 X.2.1 d_aesKey_149 (by decide) ?_
              refine lv_ishl X.1 X.2.1 d_aesKey_151 ?_
              refine t_any (fun v114 => ?_)
              refine lv_ixor X.1 X.2.1 d_aesKey_152 ?_
              refine t_any (fun v115 => ?_)
              refine lv_istore (lv' := [(6, .int v115), (5, .int (nI i86)), (4, .int (nI x90)), (3, .int (nI 4)), (0, .ref h), (1, .ref (q 27)), (2, .int (nI 16))]) X.1 X.2.1 d_aesKey_153 hl (by decide) rfl (fun ls hl => ?_)
              refine lv_iload X.1 X.2.1 d_aesKey_155 (lv_at hl 2 rfl) ?_
              refine p_calli (As := [.int (nI x90)]) (rest := []) (n := 1) X Y hml hl.1 (c_twice l (nI x90)) kl_twice ks_twice ki_twice ini_M (by decide +kernel) ⟨by decide, by decide⟩ rfl (Nat.le_of_ble_eq_true rfl) d_aesKey_157 ⟨Nat.le_refl _, Nat.le_refl _⟩ (fun r116 H locs hpr116 Y => ?_)
              obtain ⟨j117, hj117, ej117⟩ := hpr116
              refine t_eq ej117 ?_
              refine lv_istore (lv' := [(4, .int (nI j117)), (6, .int v115), (5, .int (nI i86)), (3, .int (nI 4)), (0, .ref h), (1, .ref (q 27)), (2, .int (nI 16))]) X.1 X.2.1 d_aesKey_160 hl (by decide) rfl (fun ls hl => ?_)
              refine lv_goto (tgt := 187) X.1 X.2.1 d_aesKey_162 (by decide) ?_
              refine lv_aload_n X.1 X.2.1 d_aesKey_187 rfl (lv_at hl 4 rfl) ?_
              refine m_get X Y 15 (by decide) lk_schedule (gf_schedule _ _ _) rfl d_aesKey_188 ?_
              refine lv_iload X.1 X.2.1 d_aesKey_191 (lv_at hl 2 rfl) ?_
              refine lv_aload_n X.1 X.2.1 d_aesKey_193 rfl (lv_at hl 4 rfl) ?_
              refine m_get X Y 15 (by decide) lk_schedule (gf_schedule _ _ _) rfl d_aesKey_194 ?_
              refine lv_iload X.1 X.2.1 d_aesKey_197 (lv_at hl 2 rfl) ?_
              refine lv_iload_n X.1 X.2.1 d_aesKey_199 rfl (lv_at hl 3 rfl) ?_
              refine lv_isub X.1 X.2.1 d_aesKey_200 ?_
              refine t_eq (y := nI (i86 - (4))) (pk_sub (by omega)) ?_
              refine m_iald X Y (aw_schedule _ _ _ _ _ _ _) (vp_in_nI (by omega) (by decide)) d_aesKey_201 ?_
              refine t_any (fun v118 => ?_)
              refine lv_iload X.1 X.2.1 d_aesKey_202 (lv_at hl 1 rfl) ?_
              refine lv_ixor X.1 X.2.1 d_aesKey_204 ?_
              refine t_any (fun v119 => ?_)
              refine m_iast X Y (aw_schedule _ _ _ _ _ _ _) (vp_in_nI (by omega) (by decide)) (sw_schedule _ _ _ _ _ _ _ _) d_aesKey_205 (fun H locs Y => ?_)
              generalize (upd (B89 15) ((nI i86)).toNatClampNeg v119) = f120 at Y
              refine lv_iinc (v := (nI (i86 + 1))) (lv' := [(5, .int (nI (i86 + 1))), (4, .int (nI j117)), (6, .int v115), (3, .int (nI 4)), (0, .ref h), (1, .ref (q 27)), (2, .int (nI 16))]) X.1 X.2.1 d_aesKey_206 hl (k := 2) rfl (nI_add _ 1) (by decide) rfl (fun ls hl => ?_)
              refine lv_goto (tgt := 105) X.1 X.2.1 d_aesKey_209 (by decide) ?_
              exact ih87 (i86 + 1) (upB B89 15 f120) (j117) _ _ _ (by omega) (by omega) (fun j h12 h13 h15 => ((if_neg h15).trans (hB91 j h12 h13 h15))) (show by8 ((upB B89 15 f120) 12) from y92) (show by8 ((upB B89 15 f120) 13) from y93) (by omega)  Y (lv_sub hl [0, 1, 3, 4, 5, 6] rfl)
        exact lp88 (44 - 4) 4 B80 (1) _ _ _ (by omega) (by omega) (fun j h12 h13 h15 => (hB81 j h12 h13 h15)) (show by8 (B80 12) from y82) (show by8 (B80 13) from y83) (by omega)  Y (lv_sub hl [0, 1, 2, 3, 4, 5] rfl)
      | succ n76 ih78 =>
        intro i77 B80 H locs ls hii77 hsi77 hB81 y82 y83  Y hl
        refine lv_iload X.1 X.2.1 d_aesKey_26 (lv_at hl 0 rfl) ?_
        refine lv_iload_n X.1 X.2.1 d_aesKey_28 rfl (lv_at hl 1 rfl) ?_
        refine lv_icmp_ge (tgt := 99) X.1 X.2.1 d_aesKey_29 (by decide) (fun c121 => absurd c121 ?_) (fun c121 => ?_)
        · (rw [nI_leI (by omega) (by omega)] <;> omega)
        rw [nI_leI (by omega) (by omega)] at c121
        refine lv_aload_n X.1 X.2.1 d_aesKey_32 rfl (lv_at hl 2 rfl) ?_
        refine m_get X Y 15 (by decide) lk_schedule (gf_schedule _ _ _) rfl d_aesKey_33 ?_
        refine lv_iload X.1 X.2.1 d_aesKey_36 (lv_at hl 0 rfl) ?_
        refine lv_aload_n X.1 X.2.1 d_aesKey_38 rfl (lv_at hl 3 rfl) ?_
        refine lv_iconst (v := (nI 4)) X.1 X.2.1 d_aesKey_39 (by decide) ?_
        refine lv_iload X.1 X.2.1 d_aesKey_40 (lv_at hl 0 rfl) ?_
        refine lv_imul X.1 X.2.1 d_aesKey_42 ?_
        refine t_eq (y := nI ((4) * (i77))) (pk_mul _ _) ?_
        refine m_bald X Y (aw_long0 _ _ _ _ _ _ _) (vp_in_nI (by omega) (by decide)) d_aesKey_43 ?_
        refine t_any (fun v122 => ?_)
        refine lv_bipush (v := (nI 24)) X.1 X.2.1 d_aesKey_44 (by decide) ?_
        refine lv_ishl X.1 X.2.1 d_aesKey_46 ?_
        refine t_any (fun v123 => ?_)
        refine lv_aload_n X.1 X.2.1 d_aesKey_47 rfl (lv_at hl 3 rfl) ?_
        refine lv_iconst (v := (nI 4)) X.1 X.2.1 d_aesKey_48 (by decide) ?_
        refine lv_iload X.1 X.2.1 d_aesKey_49 (lv_at hl 0 rfl) ?_
        refine lv_imul X.1 X.2.1 d_aesKey_51 ?_
        refine t_eq (y := nI ((4) * (i77))) (pk_mul _ _) ?_
        refine lv_iconst (v := (nI 1)) X.1 X.2.1 d_aesKey_52 (by decide) ?_
        refine lv_iadd X.1 X.2.1 d_aesKey_53 ?_
        refine t_eq (y := nI ((4) * (i77) + 1)) (nI_add _ _) ?_
        refine m_bald X Y (aw_long0 _ _ _ _ _ _ _) (vp_in_nI (by omega) (by decide)) d_aesKey_54 ?_
        refine t_any (fun v124 => ?_)
        refine lv_sipush (v := (nI 255)) X.1 X.2.1 d_aesKey_55 (by decide) ?_
        refine lv_iand X.1 X.2.1 d_aesKey_58 ?_
        obtain ⟨j125, hj125, ej125⟩ := pk_andE v124 (m := nI 255) 8 (by decide)
        refine t_eq ej125 ?_
        have hj125 : j125 < 256 := hj125
        refine lv_bipush (v := (nI 16)) X.1 X.2.1 d_aesKey_59 (by decide) ?_
        refine lv_ishl X.1 X.2.1 d_aesKey_61 ?_
        refine t_any (fun v126 => ?_)
        refine lv_ior X.1 X.2.1 d_aesKey_62 ?_
        refine t_any (fun v127 => ?_)
        refine lv_aload_n X.1 X.2.1 d_aesKey_63 rfl (lv_at hl 3 rfl) ?_
        refine lv_iconst (v := (nI 4)) X.1 X.2.1 d_aesKey_64 (by decide) ?_
        refine lv_iload X.1 X.2.1 d_aesKey_65 (lv_at hl 0 rfl) ?_
        refine lv_imul X.1 X.2.1 d_aesKey_67 ?_
        refine t_eq (y := nI ((4) * (i77))) (pk_mul _ _) ?_
        refine lv_iconst (v := (nI 2)) X.1 X.2.1 d_aesKey_68 (by decide) ?_
        refine lv_iadd X.1 X.2.1 d_aesKey_69 ?_
        refine t_eq (y := nI ((4) * (i77) + 2)) (nI_add _ _) ?_
        refine m_bald X Y (aw_long0 _ _ _ _ _ _ _) (vp_in_nI (by omega) (by decide)) d_aesKey_70 ?_
        refine t_any (fun v128 => ?_)
        refine lv_sipush (v := (nI 255)) X.1 X.2.1 d_aesKey_71 (by decide) ?_
        refine lv_iand X.1 X.2.1 d_aesKey_74 ?_
        obtain ⟨j129, hj129, ej129⟩ := pk_andE v128 (m := nI 255) 8 (by decide)
        refine t_eq ej129 ?_
        have hj129 : j129 < 256 := hj129
        refine lv_bipush (v := (nI 8)) X.1 X.2.1 d_aesKey_75 (by decide) ?_
        refine lv_ishl X.1 X.2.1 d_aesKey_77 ?_
        refine t_any (fun v130 => ?_)
        refine lv_ior X.1 X.2.1 d_aesKey_78 ?_
        refine t_any (fun v131 => ?_)
        refine lv_aload_n X.1 X.2.1 d_aesKey_79 rfl (lv_at hl 3 rfl) ?_
        refine lv_iconst (v := (nI 4)) X.1 X.2.1 d_aesKey_80 (by decide) ?_
        refine lv_iload X.1 X.2.1 d_aesKey_81 (lv_at hl 0 rfl) ?_
        refine lv_imul X.1 X.2.1 d_aesKey_83 ?_
        refine t_eq (y := nI ((4) * (i77))) (pk_mul _ _) ?_
        refine lv_iconst (v := (nI 3)) X.1 X.2.1 d_aesKey_84 (by decide) ?_
        refine lv_iadd X.1 X.2.1 d_aesKey_85 ?_
        refine t_eq (y := nI ((4) * (i77) + 3)) (nI_add _ _) ?_
        refine m_bald X Y (aw_long0 _ _ _ _ _ _ _) (vp_in_nI (by omega) (by decide)) d_aesKey_86 ?_
        refine t_any (fun v132 => ?_)
        refine lv_sipush (v := (nI 255)) X.1 X.2.1 d_aesKey_87 (by decide) ?_
        refine lv_iand X.1 X.2.1 d_aesKey_90 ?_
        obtain ⟨j133, hj133, ej133⟩ := pk_andE v132 (m := nI 255) 8 (by decide)
        refine t_eq ej133 ?_
        have hj133 : j133 < 256 := hj133
        refine lv_ior X.1 X.2.1 d_aesKey_91 ?_
        refine t_any (fun v134 => ?_)
        refine m_iast X Y (aw_schedule _ _ _ _ _ _ _) (vp_in_nI (by omega) (by decide)) (sw_schedule _ _ _ _ _ _ _ _) d_aesKey_92 (fun H locs Y => ?_)
        generalize (upd (B80 15) ((nI i77)).toNatClampNeg v134) = f135 at Y
        refine lv_iinc (v := (nI (i77 + 1))) (lv' := [(4, .int (nI (i77 + 1))), (3, .int (nI 4)), (0, .ref h), (1, .ref (q 27)), (2, .int (nI 16))]) X.1 X.2.1 d_aesKey_93 hl (k := 0) rfl (nI_add _ 1) (by decide) rfl (fun ls hl => ?_)
        refine lv_goto (tgt := 26) X.1 X.2.1 d_aesKey_96 (by decide) ?_
        exact ih78 (i77 + 1) (upB B80 15 f135) _ _ _ (by omega) (by omega) (fun j h12 h13 h15 => ((if_neg h15).trans (hB81 j h12 h13 h15))) (show by8 ((upB B80 15 f135) 12) from y82) (show by8 ((upB B80 15 f135) 13) from y83)  Y (lv_sub hl [0, 1, 2, 3, 4] rfl)
    exact lp79 (4) 0 B64 _ _ _ (by omega) (by omega) (fun j h12 h13 h15 => (hB75 j h12 h13 h15)) (show by8 (B64 12) from y71) (show by8 (B64 13) from y72)  Y (lv_sub hl [0, 1, 2, 3, 4] rfl)
set_option maxHeartbeats 4000000 in
set_option maxRecDepth 100000 in
theorem c_aesKey_long0_32 (l : Launch) (D : mD) (E : mE) (h : Nat) (q : Nat → Nat) (sz : Nat) (I : Nat → Int32) (J : Nat → Int64) (B : Nat → Nat → Int32) (G : Nat → Nat → Int64)  (y12 : by8 (B 12)) (y13 : by8 (B 13)) : Met l y_aesKey (k_aesKey :: lw_tg) (mR 3 69) (va_Pc [.ref h, .ref (q 27), .int (nI 32)] (mPre D E h q (I, J, B, G) sz)) (va_Qv (fun (u : mS) => (∀ j, j ≠ 14 → j ≠ 18 → u.1 j = I j) ∧ u.2.1 = J ∧ (∀ j, j ≠ 12 → j ≠ 13 → j ≠ 15 → u.2.2.1 j = B j) ∧ u.2.2.2 = G ∧ u.1 18 = nI (14) ∧ by8 (u.2.2.1 12) ∧ by8 (u.2.2.1 13)) (mPost D E h q (mA E h q sz)) (mA E h q sz)) 0 0 (mA E h q sz) := by
  refine m_enter (by decide) rfl (Nat.le_of_ble_eq_true rfl) (fun p e s m below meth c ls AV QQ H locs hQQ X Y hZ hA hr hlk hml hl => ?_)
  have Y : mH D E (mA E h q sz) s.heap h q I J B G H locs := Y
  have hl : lv_has ls 7 [(0, .ref h), (1, .ref (q 27)), (2, .int (nI 32))] := hl
  refine lv_aload_n X.1 X.2.1 d_aesKey_0 rfl (lv_at hl 0 rfl) ?_
  refine m_get X Y 14 (by decide) lk_hasBox (gf_hasBox _ _ _) rfl d_aesKey_1 ?_
  refine lv_if_ne (tgt := 11) X.1 X.2.1 d_aesKey_4 (by decide) (fun c1 => ?_) (fun c1 => ?_)
  · skip
    refine lv_iload_n X.1 X.2.1 d_aesKey_11 rfl (lv_at hl 2 rfl) ?_
    refine lv_iconst (v := (nI 4)) X.1 X.2.1 d_aesKey_12 (by decide) ?_
    refine lv_idiv X.1 X.2.1 d_aesKey_13 (nI_ne0 (by omega) (by omega)) ?_
    refine t_eq (y := nI 8) (by decide) ?_
    refine lv_istore_n (lv' := [(3, .int (nI 8)), (0, .ref h), (1, .ref (q 27)), (2, .int (nI 32))]) X.1 X.2.1 d_aesKey_14 rfl hl (by decide) rfl (fun ls hl => ?_)
    refine lv_aload_n X.1 X.2.1 d_aesKey_15 rfl (lv_at hl 1 rfl) ?_
    refine lv_iload_n X.1 X.2.1 d_aesKey_16 rfl (lv_at hl 0 rfl) ?_
    refine lv_bipush (v := (nI 6)) X.1 X.2.1 d_aesKey_17 (by decide) ?_
    refine lv_iadd X.1 X.2.1 d_aesKey_19 ?_
    refine t_eq (y := nI 14) (by decide) ?_
    refine m_puti X Y 18 (by decide) lk_rounds rfl rfl (t_M_ok 18 (by decide)) rfl rfl (sf_rounds _ _ _ _) (Nat.le_of_ble_eq_true rfl) d_aesKey_20 (fun H locs Y => ?_)
    refine lv_iconst (v := (nI 0)) X.1 X.2.1 d_aesKey_23 (by decide) ?_
    refine lv_istore (lv' := [(4, .int (nI 0)), (3, .int (nI 8)), (0, .ref h), (1, .ref (q 27)), (2, .int (nI 32))]) X.1 X.2.1 d_aesKey_24 hl (by decide) rfl (fun ls hl => ?_)
    have lp5 : ∀ (n2 i3 : Nat) (B6 : Nat → Nat → Int32) (H : Heap) (locs : List Loc) (ls : Array Slot), i3 + n2 = 8 → 0 ≤ i3 → (∀ j, j ≠ 12 → j ≠ 13 → j ≠ 15 → B6 j = B j) → by8 (B6 12) → by8 (B6 13) → mH D E (mA E h q sz) s.heap h q (upd I 18 (nI 14)) J B6 G H locs → lv_has ls 7 [(4, .int (nI i3)), (3, .int (nI 8)), (0, .ref h), (1, .ref (q 27)), (2, .int (nI 32))] → W p l e (mR 3 69) s m AV below meth c H locs 0 0 QQ (F0 m 26 ls []) := by
      intro n2
      induction n2 with
      | zero =>
        intro i3 B6 H locs ls hii3 hsi3 hB7 y8 y9  Y hl
        refine lv_iload X.1 X.2.1 d_aesKey_26 (lv_at hl 0 rfl) ?_
        refine lv_iload_n X.1 X.2.1 d_aesKey_28 rfl (lv_at hl 1 rfl) ?_
        refine lv_icmp_ge (tgt := 99) X.1 X.2.1 d_aesKey_29 (by decide) (fun c10 => ?_) (fun c10 => absurd ?_ c10)
        rotate_left
        · (rw [nI_leI (by omega) (by omega)] <;> omega)
        rw [nI_leI (by omega) (by omega)] at c10
        refine lv_iconst (v := (nI 1)) X.1 X.2.1 d_aesKey_99 (by decide) ?_
        refine lv_istore (lv' := [(4, .int (nI 1)), (3, .int (nI 8)), (0, .ref h), (1, .ref (q 27)), (2, .int (nI 32))]) X.1 X.2.1 d_aesKey_100 hl (by decide) rfl (fun ls hl => ?_)
        refine lv_iload_n X.1 X.2.1 d_aesKey_102 rfl (lv_at hl 1 rfl) ?_
        refine lv_istore (lv' := [(5, .int (nI 8)), (4, .int (nI 1)), (3, .int (nI 8)), (0, .ref h), (1, .ref (q 27)), (2, .int (nI 32))]) X.1 X.2.1 d_aesKey_103 hl (by decide) rfl (fun ls hl => ?_)
        have lp14 : ∀ (n11 i12 : Nat) (B15 : Nat → Nat → Int32) (x16 : Nat) (H : Heap) (locs : List Loc) (ls : Array Slot), i12 + n11 = 60 → 8 ≤ i12 → (∀ j, j ≠ 12 → j ≠ 13 → j ≠ 15 → B15 j = B j) → by8 (B15 12) → by8 (B15 13) → x16 < 256 → mH D E (mA E h q sz) s.heap h q (upd I 18 (nI 14)) J B15 G H locs → lv_has ls 7 [(5, .int (nI i12)), (4, .int (nI x16)), (3, .int (nI 8)), (0, .ref h), (1, .ref (q 27)), (2, .int (nI 32))] → W p l e (mR 3 69) s m AV below meth c H locs 0 0 QQ (F0 m 105 ls []) := by
          intro n11
          induction n11 with
          | zero =>
            intro i12 B15 x16 H locs ls hii12 hsi12 hB17 y18 y19 hxx16  Y hl
            refine lv_iload X.1 X.2.1 d_aesKey_105 (lv_at hl 0 rfl) ?_
            refine lv_iconst (v := (nI 4)) X.1 X.2.1 d_aesKey_107 (by decide) ?_
            refine lv_aload_n X.1 X.2.1 d_aesKey_108 rfl (lv_at hl 3 rfl) ?_
            refine m_get X Y 18 (by decide) lk_rounds (gf_rounds _ _ _) rfl d_aesKey_109 ?_
            refine t_eq (show (upd I 18 (nI 14)) 18 = nI (14) from pk_us) ?_
            refine lv_iconst (v := (nI 1)) X.1 X.2.1 d_aesKey_112 (by decide) ?_
            refine lv_iadd X.1 X.2.1 d_aesKey_113 ?_
            refine t_eq (y := nI 15) (by decide) ?_
            refine lv_imul X.1 X.2.1 d_aesKey_114 ?_
            refine t_eq (y := nI 60) (by decide) ?_
            refine lv_icmp_ge (tgt := 212) X.1 X.2.1 d_aesKey_115 (by decide) (fun c20 => ?_) (fun c20 => absurd ?_ c20)
            rotate_left
            · (rw [nI_leI (by omega) (by omega)] <;> omega)
            rw [nI_leI (by omega) (by omega)] at c20
            exact m_retv hQQ X Y hr hlk ⟨(fun j h14 h18 => ((if_neg h18).trans rfl)), rfl, (fun j h12 h13 h15 => (hB17 j h12 h13 h15)), rfl, (show (upd I 18 (nI 14)) 18 = nI (14) from (show (upd I 18 (nI 14)) 18 = nI (14) from pk_us).trans (congrArg nI (show (14 : Nat) = 14 by omega))), (show by8 (B15 12) from y18), (show by8 (B15 13) from y19)⟩ d_aesKey_212
          | succ n11 ih13 =>
            intro i12 B15 x16 H locs ls hii12 hsi12 hB17 y18 y19 hxx16  Y hl
            refine lv_iload X.1 X.2.1 d_aesKey_105 (lv_at hl 0 rfl) ?_
            refine lv_iconst (v := (nI 4)) X.1 X.2.1 d_aesKey_107 (by decide) ?_
            refine lv_aload_n X.1 X.2.1 d_aesKey_108 rfl (lv_at hl 3 rfl) ?_
            refine m_get X Y 18 (by decide) lk_rounds (gf_rounds _ _ _) rfl d_aesKey_109 ?_
            refine t_eq (show (upd I 18 (nI 14)) 18 = nI (14) from pk_us) ?_
            refine lv_iconst (v := (nI 1)) X.1 X.2.1 d_aesKey_112 (by decide) ?_
            refine lv_iadd X.1 X.2.1 d_aesKey_113 ?_
            refine t_eq (y := nI 15) (by decide) ?_
            refine lv_imul X.1 X.2.1 d_aesKey_114 ?_
            refine t_eq (y := nI 60) (by decide) ?_
            refine lv_icmp_ge (tgt := 212) X.1 X.2.1 d_aesKey_115 (by decide) (fun c21 => absurd c21 ?_) (fun c21 => ?_)
            · (rw [nI_leI (by omega) (by omega)] <;> omega)
            rw [nI_leI (by omega) (by omega)] at c21
            refine lv_aload_n X.1 X.2.1 d_aesKey_118 rfl (lv_at hl 3 rfl) ?_
            refine m_get X Y 15 (by decide) lk_schedule (gf_schedule _ _ _) rfl d_aesKey_119 ?_
            refine lv_iload X.1 X.2.1 d_aesKey_122 (lv_at hl 0 rfl) ?_
            refine lv_iconst (v := (nI 1)) X.1 X.2.1 d_aesKey_124 (by decide) ?_
            refine lv_isub X.1 X.2.1 d_aesKey_125 ?_
            refine t_eq (y := nI (i12 - (1))) (pk_sub (by omega)) ?_
            refine m_iald X Y (aw_schedule _ _ _ _ _ _ _) (vp_in_nI (by omega) (by decide)) d_aesKey_126 ?_
            refine t_any (fun v22 => ?_)
            refine lv_istore (lv' := [(6, .int v22), (5, .int (nI i12)), (4, .int (nI x16)), (3, .int (nI 8)), (0, .ref h), (1, .ref (q 27)), (2, .int (nI 32))]) X.1 X.2.1 d_aesKey_127 hl (by decide) rfl (fun ls hl => ?_)
            refine lv_iload X.1 X.2.1 d_aesKey_129 (lv_at hl 1 rfl) ?_
            refine lv_iload_n X.1 X.2.1 d_aesKey_131 rfl (lv_at hl 3 rfl) ?_
            refine lv_irem X.1 X.2.1 d_aesKey_132 (nI_ne0 (by omega) (by omega)) ?_
            refine t_eq (y := nI ((i12) % (8))) (pk_rem (by omega) (by omega) (by omega)) ?_
            refine lv_if_ne (tgt := 165) X.1 X.2.1 d_aesKey_133 (by decide) (fun c23 => ?_) (fun c23 => ?_)
            · skip
              rw [← nI_0] at c23
              rw [nI_eq (by omega) (by omega)] at c23
              refine lv_iload_n X.1 X.2.1 d_aesKey_165 rfl (lv_at hl 3 rfl) ?_
              refine lv_bipush (v := (nI 6)) X.1 X.2.1 d_aesKey_166 (by decide) ?_
              refine lv_icmp_le (tgt := 187) X.1 X.2.1 d_aesKey_168 (by decide) (fun c24 => absurd c24 ?_) (fun c24 => ?_)
              · (rw [nI_leI (by omega) (by omega)] <;> omega)
              rw [nI_leI (by omega) (by omega)] at c24
              refine lv_iload X.1 X.2.1 d_aesKey_171 (lv_at hl 1 rfl) ?_
              refine lv_iload_n X.1 X.2.1 d_aesKey_173 rfl (lv_at hl 3 rfl) ?_
              refine lv_irem X.1 X.2.1 d_aesKey_174 (nI_ne0 (by omega) (by omega)) ?_
              refine t_eq (y := nI ((i12) % (8))) (pk_rem (by omega) (by omega) (by omega)) ?_
              refine lv_iconst (v := (nI 4)) X.1 X.2.1 d_aesKey_175 (by decide) ?_
              refine lv_icmp_ne (tgt := 187) X.1 X.2.1 d_aesKey_176 (by decide) (fun c25 => ?_) (fun c25 => ?_)
              · skip
                rw [nI_eq (by omega) (by omega)] at c25
                refine lv_aload_n X.1 X.2.1 d_aesKey_187 rfl (lv_at hl 4 rfl) ?_
                refine m_get X Y 15 (by decide) lk_schedule (gf_schedule _ _ _) rfl d_aesKey_188 ?_
                refine lv_iload X.1 X.2.1 d_aesKey_191 (lv_at hl 1 rfl) ?_
                refine lv_aload_n X.1 X.2.1 d_aesKey_193 rfl (lv_at hl 4 rfl) ?_
                refine m_get X Y 15 (by decide) lk_schedule (gf_schedule _ _ _) rfl d_aesKey_194 ?_
                refine lv_iload X.1 X.2.1 d_aesKey_197 (lv_at hl 1 rfl) ?_
                refine lv_iload_n X.1 X.2.1 d_aesKey_199 rfl (lv_at hl 3 rfl) ?_
                refine lv_isub X.1 X.2.1 d_aesKey_200 ?_
                refine t_eq (y := nI (i12 - (8))) (pk_sub (by omega)) ?_
                refine m_iald X Y (aw_schedule _ _ _ _ _ _ _) (vp_in_nI (by omega) (by decide)) d_aesKey_201 ?_
                refine t_any (fun v26 => ?_)
                refine lv_iload X.1 X.2.1 d_aesKey_202 (lv_at hl 0 rfl) ?_
                refine lv_ixor X.1 X.2.1 d_aesKey_204 ?_
                refine t_any (fun v27 => ?_)
                refine m_iast X Y (aw_schedule _ _ _ _ _ _ _) (vp_in_nI (by omega) (by decide)) (sw_schedule _ _ _ _ _ _ _ _) d_aesKey_205 (fun H locs Y => ?_)
                generalize (upd (B15 15) ((nI i12)).toNatClampNeg v27) = f28 at Y
                refine lv_iinc (v := (nI (i12 + 1))) (lv' := [(5, .int (nI (i12 + 1))), (6, .int v22), (4, .int (nI x16)), (3, .int (nI 8)), (0, .ref h), (1, .ref (q 27)), (2, .int (nI 32))]) X.1 X.2.1 d_aesKey_206 hl (k := 1) rfl (nI_add _ 1) (by decide) rfl (fun ls hl => ?_)
                refine lv_goto (tgt := 105) X.1 X.2.1 d_aesKey_209 (by decide) ?_
                exact ih13 (i12 + 1) (upB B15 15 f28) (x16) _ _ _ (by omega) (by omega) (fun j h12 h13 h15 => ((if_neg h15).trans (hB17 j h12 h13 h15))) (show by8 ((upB B15 15 f28) 12) from y18) (show by8 ((upB B15 15 f28) 13) from y19) (by omega)  Y (lv_sub hl [0, 2, 3, 4, 5, 6] rfl)
              · skip
                rw [nI_eq (by omega) (by omega)] at c25
                refine lv_aload_n X.1 X.2.1 d_aesKey_179 rfl (lv_at hl 4 rfl) ?_
                refine lv_iload X.1 X.2.1 d_aesKey_180 (lv_at hl 0 rfl) ?_
                refine m_calli (As := [.int v22]) (rest := []) (n := 1) X Y hZ hA hml hl.1 (c_boxed l D E h q H.size (upd I 18 (nI 14)) J B15 G v22) kl_boxed ks_boxed kx_boxed ki_boxed ini_M hd_boxed ⟨by decide, by decide⟩ rfl (Nat.le_of_ble_eq_true rfl) d_aesKey_182 ⟨Nat.le_refl _, Nat.le_refl _⟩ (fun r37 u H locs hp Y => ?_)
                obtain ⟨I29, J30, B31, G32⟩ := u
                obtain ⟨hI33, eJ35, hB34, eG36, pr37⟩ := hp
                dsimp only at hI33 eJ35 hB34 eG36 pr37 Y
                rw [eJ35, eG36] at Y
                rw [show I29 = (upd I 18 (nI 14)) from funext hI33] at Y
                rw [show B31 = B15 from funext hB34] at Y
                refine lv_istore (lv' := [(6, .int r37), (5, .int (nI i12)), (4, .int (nI x16)), (3, .int (nI 8)), (0, .ref h), (1, .ref (q 27)), (2, .int (nI 32))]) X.1 X.2.1 d_aesKey_185 hl (by decide) rfl (fun ls hl => ?_)
                refine lv_aload_n X.1 X.2.1 d_aesKey_187 rfl (lv_at hl 4 rfl) ?_
                refine m_get X Y 15 (by decide) lk_schedule (gf_schedule _ _ _) rfl d_aesKey_188 ?_
                refine lv_iload X.1 X.2.1 d_aesKey_191 (lv_at hl 1 rfl) ?_
                refine lv_aload_n X.1 X.2.1 d_aesKey_193 rfl (lv_at hl 4 rfl) ?_
                refine m_get X Y 15 (by decide) lk_schedule (gf_schedule _ _ _) rfl d_aesKey_194 ?_
                refine lv_iload X.1 X.2.1 d_aesKey_197 (lv_at hl 1 rfl) ?_
                refine lv_iload_n X.1 X.2.1 d_aesKey_199 rfl (lv_at hl 3 rfl) ?_
                refine lv_isub X.1 X.2.1 d_aesKey_200 ?_
                refine t_eq (y := nI (i12 - (8))) (pk_sub (by omega)) ?_
                refine m_iald X Y (aw_schedule _ _ _ _ _ _ _) (vp_in_nI (by omega) (by decide)) d_aesKey_201 ?_
                refine t_any (fun v40 => ?_)
                refine lv_iload X.1 X.2.1 d_aesKey_202 (lv_at hl 0 rfl) ?_
                refine lv_ixor X.1 X.2.1 d_aesKey_204 ?_
                refine t_any (fun v41 => ?_)
                refine m_iast X Y (aw_schedule _ _ _ _ _ _ _) (vp_in_nI (by omega) (by decide)) (sw_schedule _ _ _ _ _ _ _ _) d_aesKey_205 (fun H locs Y => ?_)
                generalize (upd (B15 15) ((nI i12)).toNatClampNeg v41) = f42 at Y
                refine lv_iinc (v := (nI (i12 + 1))) (lv' := [(5, .int (nI (i12 + 1))), (6, .int r37), (4, .int (nI x16)), (3, .int (nI 8)), (0, .ref h), (1, .ref (q 27)), (2, .int (nI 32))]) X.1 X.2.1 d_aesKey_206 hl (k := 1) rfl (nI_add _ 1) (by decide) rfl (fun ls hl => ?_)
                refine lv_goto (tgt := 105) X.1 X.2.1 d_aesKey_209 (by decide) ?_
                exact ih13 (i12 + 1) (upB B15 15 f42) (x16) _ _ _ (by omega) (by omega) (fun j h12 h13 h15 => ((if_neg h15).trans (hB17 j h12 h13 h15))) (show by8 ((upB B15 15 f42) 12) from y18) (show by8 ((upB B15 15 f42) 13) from y19) (by omega)  Y (lv_sub hl [0, 2, 3, 4, 5, 6] rfl)
            · skip
              rw [← nI_0] at c23
              rw [nI_eq (by omega) (by omega)] at c23
              refine lv_aload_n X.1 X.2.1 d_aesKey_136 rfl (lv_at hl 4 rfl) ?_
              refine lv_iload X.1 X.2.1 d_aesKey_137 (lv_at hl 0 rfl) ?_
              refine lv_bipush (v := (nI 8)) X.1 X.2.1 d_aesKey_139 (by decide) ?_
              refine p_calli (As := [.int v22, .int (nI 8)]) (rest := [.ref h]) (n := 2) X Y hml hl.1 (c_left l v22 (nI 8)) kl_left ks_left ki_left ini_M (by decide +kernel) ⟨by decide, by decide⟩ rfl (Nat.le_of_ble_eq_true rfl) d_aesKey_141 ⟨Nat.le_refl _, Nat.le_refl _⟩ (fun r43 H locs hpr43 Y => ?_)
              refine m_calli (As := [.int r43]) (rest := []) (n := 1) X Y hZ hA hml hl.1 (c_boxed l D E h q H.size (upd I 18 (nI 14)) J B15 G r43) kl_boxed ks_boxed kx_boxed ki_boxed ini_M hd_boxed ⟨by decide, by decide⟩ rfl (Nat.le_of_ble_eq_true rfl) d_aesKey_144 ⟨Nat.le_refl _, Nat.le_refl _⟩ (fun r52 u H locs hp Y => ?_)
              obtain ⟨I44, J45, B46, G47⟩ := u
              obtain ⟨hI48, eJ50, hB49, eG51, pr52⟩ := hp
              dsimp only at hI48 eJ50 hB49 eG51 pr52 Y
              rw [eJ50, eG51] at Y
              rw [show I44 = (upd I 18 (nI 14)) from funext hI48] at Y
              rw [show B46 = B15 from funext hB49] at Y
              refine lv_iload X.1 X.2.1 d_aesKey_147 (lv_at hl 2 rfl) ?_
              refine lv_bipush (v := (nI 24)) X.1 X.2.1 d_aesKey_149 (by decide) ?_
              refine lv_ishl X.1 X.2.1 d_aesKey_151 ?_
              refine t_any (fun v55 => ?_)
              refine lv_ixor X.1 X.2.1 d_aesKey_152 ?_
              refine t_any (fun v56 => ?_)
              refine lv_istore (lv' := [(6, .int v56), (5, .int (nI i12)), (4, .int (nI x16)), (3, .int (nI 8)), (0, .ref h), (1, .ref (q 27)), (2, .int (nI 32))]) X.1 X.2.1 d_aesKey_153 hl (by decide) rfl (fun ls hl => ?_)
              refine lv_iload X.1 X.2.1 d_aesKey_155 (lv_at hl 2 rfl) ?_
              refine p_calli (As := [.int (nI x16)]) (rest := []) (n := 1) X Y hml hl.1 (c_twice l (nI x16)) kl_twice ks_twice ki_twice ini_M (by decide +kernel) ⟨by decide, by decide⟩ rfl (Nat.le_of_ble_eq_true rfl) d_aesKey_157 ⟨Nat.le_refl _, Nat.le_refl _⟩ (fun r57 H locs hpr57 Y => ?_)
              obtain ⟨j58, hj58, ej58⟩ := hpr57
              refine t_eq ej58 ?_
              refine lv_istore (lv' := [(4, .int (nI j58)), (6, .int v56), (5, .int (nI i12)), (3, .int (nI 8)), (0, .ref h), (1, .ref (q 27)), (2, .int (nI 32))]) X.1 X.2.1 d_aesKey_160 hl (by decide) rfl (fun ls hl => ?_)
              refine lv_goto (tgt := 187) X.1 X.2.1 d_aesKey_162 (by decide) ?_
              refine lv_aload_n X.1 X.2.1 d_aesKey_187 rfl (lv_at hl 4 rfl) ?_
              refine m_get X Y 15 (by decide) lk_schedule (gf_schedule _ _ _) rfl d_aesKey_188 ?_
              refine lv_iload X.1 X.2.1 d_aesKey_191 (lv_at hl 2 rfl) ?_
              refine lv_aload_n X.1 X.2.1 d_aesKey_193 rfl (lv_at hl 4 rfl) ?_
              refine m_get X Y 15 (by decide) lk_schedule (gf_schedule _ _ _) rfl d_aesKey_194 ?_
              refine lv_iload X.1 X.2.1 d_aesKey_197 (lv_at hl 2 rfl) ?_
              refine lv_iload_n X.1 X.2.1 d_aesKey_199 rfl (lv_at hl 3 rfl) ?_
              refine lv_isub X.1 X.2.1 d_aesKey_200 ?_
              refine t_eq (y := nI (i12 - (8))) (pk_sub (by omega)) ?_
              refine m_iald X Y (aw_schedule _ _ _ _ _ _ _) (vp_in_nI (by omega) (by decide)) d_aesKey_201 ?_
              refine t_any (fun v59 => ?_)
              refine lv_iload X.1 X.2.1 d_aesKey_202 (lv_at hl 1 rfl) ?_
              refine lv_ixor X.1 X.2.1 d_aesKey_204 ?_
              refine t_any (fun v60 => ?_)
              refine m_iast X Y (aw_schedule _ _ _ _ _ _ _) (vp_in_nI (by omega) (by decide)) (sw_schedule _ _ _ _ _ _ _ _) d_aesKey_205 (fun H locs Y => ?_)
              generalize (upd (B15 15) ((nI i12)).toNatClampNeg v60) = f61 at Y
              refine lv_iinc (v := (nI (i12 + 1))) (lv' := [(5, .int (nI (i12 + 1))), (4, .int (nI j58)), (6, .int v56), (3, .int (nI 8)), (0, .ref h), (1, .ref (q 27)), (2, .int (nI 32))]) X.1 X.2.1 d_aesKey_206 hl (k := 2) rfl (nI_add _ 1) (by decide) rfl (fun ls hl => ?_)
              refine lv_goto (tgt := 105) X.1 X.2.1 d_aesKey_209 (by decide) ?_
              exact ih13 (i12 + 1) (upB B15 15 f61) (j58) _ _ _ (by omega) (by omega) (fun j h12 h13 h15 => ((if_neg h15).trans (hB17 j h12 h13 h15))) (show by8 ((upB B15 15 f61) 12) from y18) (show by8 ((upB B15 15 f61) 13) from y19) (by omega)  Y (lv_sub hl [0, 1, 3, 4, 5, 6] rfl)
        exact lp14 (60 - 8) 8 B6 (1) _ _ _ (by omega) (by omega) (fun j h12 h13 h15 => (hB7 j h12 h13 h15)) (show by8 (B6 12) from y8) (show by8 (B6 13) from y9) (by omega)  Y (lv_sub hl [0, 1, 2, 3, 4, 5] rfl)
      | succ n2 ih4 =>
        intro i3 B6 H locs ls hii3 hsi3 hB7 y8 y9  Y hl
        refine lv_iload X.1 X.2.1 d_aesKey_26 (lv_at hl 0 rfl) ?_
        refine lv_iload_n X.1 X.2.1 d_aesKey_28 rfl (lv_at hl 1 rfl) ?_
        refine lv_icmp_ge (tgt := 99) X.1 X.2.1 d_aesKey_29 (by decide) (fun c62 => absurd c62 ?_) (fun c62 => ?_)
        · (rw [nI_leI (by omega) (by omega)] <;> omega)
        rw [nI_leI (by omega) (by omega)] at c62
        refine lv_aload_n X.1 X.2.1 d_aesKey_32 rfl (lv_at hl 2 rfl) ?_
        refine m_get X Y 15 (by decide) lk_schedule (gf_schedule _ _ _) rfl d_aesKey_33 ?_
        refine lv_iload X.1 X.2.1 d_aesKey_36 (lv_at hl 0 rfl) ?_
        refine lv_aload_n X.1 X.2.1 d_aesKey_38 rfl (lv_at hl 3 rfl) ?_
        refine lv_iconst (v := (nI 4)) X.1 X.2.1 d_aesKey_39 (by decide) ?_
        refine lv_iload X.1 X.2.1 d_aesKey_40 (lv_at hl 0 rfl) ?_
        refine lv_imul X.1 X.2.1 d_aesKey_42 ?_
        refine t_eq (y := nI ((4) * (i3))) (pk_mul _ _) ?_
        refine m_bald X Y (aw_long0 _ _ _ _ _ _ _) (vp_in_nI (by omega) (by decide)) d_aesKey_43 ?_
        refine t_any (fun v63 => ?_)
        refine lv_bipush (v := (nI 24)) X.1 X.2.1 d_aesKey_44 (by decide) ?_
        refine lv_ishl X.1 X.2.1 d_aesKey_46 ?_
        refine t_any (fun v64 => ?_)
        refine lv_aload_n X.1 X.2.1 d_aesKey_47 rfl (lv_at hl 3 rfl) ?_
        refine lv_iconst (v := (nI 4)) X.1 X.2.1 d_aesKey_48 (by decide) ?_
        refine lv_iload X.1 X.2.1 d_aesKey_49 (lv_at hl 0 rfl) ?_
        refine lv_imul X.1 X.2.1 d_aesKey_51 ?_
        refine t_eq (y := nI ((4) * (i3))) (pk_mul _ _) ?_
        refine lv_iconst (v := (nI 1)) X.1 X.2.1 d_aesKey_52 (by decide) ?_
        refine lv_iadd X.1 X.2.1 d_aesKey_53 ?_
        refine t_eq (y := nI ((4) * (i3) + 1)) (nI_add _ _) ?_
        refine m_bald X Y (aw_long0 _ _ _ _ _ _ _) (vp_in_nI (by omega) (by decide)) d_aesKey_54 ?_
        refine t_any (fun v65 => ?_)
        refine lv_sipush (v := (nI 255)) X.1 X.2.1 d_aesKey_55 (by decide) ?_
        refine lv_iand X.1 X.2.1 d_aesKey_58 ?_
        obtain ⟨j66, hj66, ej66⟩ := pk_andE v65 (m := nI 255) 8 (by decide)
        refine t_eq ej66 ?_
        have hj66 : j66 < 256 := hj66
        refine lv_bipush (v := (nI 16)) X.1 X.2.1 d_aesKey_59 (by decide) ?_
        refine lv_ishl X.1 X.2.1 d_aesKey_61 ?_
        refine t_any (fun v67 => ?_)
        refine lv_ior X.1 X.2.1 d_aesKey_62 ?_
        refine t_any (fun v68 => ?_)
        refine lv_aload_n X.1 X.2.1 d_aesKey_63 rfl (lv_at hl 3 rfl) ?_
        refine lv_iconst (v := (nI 4)) X.1 X.2.1 d_aesKey_64 (by decide) ?_
        refine lv_iload X.1 X.2.1 d_aesKey_65 (lv_at hl 0 rfl) ?_
        refine lv_imul X.1 X.2.1 d_aesKey_67 ?_
        refine t_eq (y := nI ((4) * (i3))) (pk_mul _ _) ?_
        refine lv_iconst (v := (nI 2)) X.1 X.2.1 d_aesKey_68 (by decide) ?_
        refine lv_iadd X.1 X.2.1 d_aesKey_69 ?_
        refine t_eq (y := nI ((4) * (i3) + 2)) (nI_add _ _) ?_
        refine m_bald X Y (aw_long0 _ _ _ _ _ _ _) (vp_in_nI (by omega) (by decide)) d_aesKey_70 ?_
        refine t_any (fun v69 => ?_)
        refine lv_sipush (v := (nI 255)) X.1 X.2.1 d_aesKey_71 (by decide) ?_
        refine lv_iand X.1 X.2.1 d_aesKey_74 ?_
        obtain ⟨j70, hj70, ej70⟩ := pk_andE v69 (m := nI 255) 8 (by decide)
        refine t_eq ej70 ?_
        have hj70 : j70 < 256 := hj70
        refine lv_bipush (v := (nI 8)) X.1 X.2.1 d_aesKey_75 (by decide) ?_
        refine lv_ishl X.1 X.2.1 d_aesKey_77 ?_
        refine t_any (fun v71 => ?_)
        refine lv_ior X.1 X.2.1 d_aesKey_78 ?_
        refine t_any (fun v72 => ?_)
        refine lv_aload_n X.1 X.2.1 d_aesKey_79 rfl (lv_at hl 3 rfl) ?_
        refine lv_iconst (v := (nI 4)) X.1 X.2.1 d_aesKey_80 (by decide) ?_
        refine lv_iload X.1 X.2.1 d_aesKey_81 (lv_at hl 0 rfl) ?_
        refine lv_imul X.1 X.2.1 d_aesKey_83 ?_
        refine t_eq (y := nI ((4) * (i3))) (pk_mul _ _) ?_
        refine lv_iconst (v := (nI 3)) X.1 X.2.1 d_aesKey_84 (by decide) ?_
        refine lv_iadd X.1 X.2.1 d_aesKey_85 ?_
        refine t_eq (y := nI ((4) * (i3) + 3)) (nI_add _ _) ?_
        refine m_bald X Y (aw_long0 _ _ _ _ _ _ _) (vp_in_nI (by omega) (by decide)) d_aesKey_86 ?_
        refine t_any (fun v73 => ?_)
        refine lv_sipush (v := (nI 255)) X.1 X.2.1 d_aesKey_87 (by decide) ?_
        refine lv_iand X.1 X.2.1 d_aesKey_90 ?_
        obtain ⟨j74, hj74, ej74⟩ := pk_andE v73 (m := nI 255) 8 (by decide)
        refine t_eq ej74 ?_
        have hj74 : j74 < 256 := hj74
        refine lv_ior X.1 X.2.1 d_aesKey_91 ?_
        refine t_any (fun v75 => ?_)
        refine m_iast X Y (aw_schedule _ _ _ _ _ _ _) (vp_in_nI (by omega) (by decide)) (sw_schedule _ _ _ _ _ _ _ _) d_aesKey_92 (fun H locs Y => ?_)
        generalize (upd (B6 15) ((nI i3)).toNatClampNeg v75) = f76 at Y
        refine lv_iinc (v := (nI (i3 + 1))) (lv' := [(4, .int (nI (i3 + 1))), (3, .int (nI 8)), (0, .ref h), (1, .ref (q 27)), (2, .int (nI 32))]) X.1 X.2.1 d_aesKey_93 hl (k := 0) rfl (nI_add _ 1) (by decide) rfl (fun ls hl => ?_)
        refine lv_goto (tgt := 26) X.1 X.2.1 d_aesKey_96 (by decide) ?_
        exact ih4 (i3 + 1) (upB B6 15 f76) _ _ _ (by omega) (by omega) (fun j h12 h13 h15 => ((if_neg h15).trans (hB7 j h12 h13 h15))) (show by8 ((upB B6 15 f76) 12) from y8) (show by8 ((upB B6 15 f76) 13) from y9)  Y (lv_sub hl [0, 1, 2, 3, 4] rfl)
    exact lp5 (8) 0 B _ _ _ (by omega) (by omega) (fun j h12 h13 h15 => rfl) (show by8 (B 12) from y12) (show by8 (B 13) from y13)  Y (lv_sub hl [0, 1, 2, 3, 4] rfl)
  · skip
    refine lv_aload_n X.1 X.2.1 d_aesKey_7 rfl (lv_at hl 0 rfl) ?_
    refine m_callv (As := []) (rest := []) (n := 0) X Y hZ hA hml hl.1 (c_makeBox l D E h q H.size I J B G  (show by8 (B 12) from y12) (show by8 (B 13) from y13)) kl_makeBox ks_makeBox kx_makeBox ki_makeBox ini_M hd_makeBox ⟨by decide, by decide⟩ rfl (Nat.le_of_ble_eq_true rfl) d_aesKey_8 ⟨Nat.le_refl _, Nat.le_refl _⟩ (fun u H locs hp Y => ?_)
    obtain ⟨I77, J78, B79, G80⟩ := u
    obtain ⟨hI81, eJ83, hB82, eG84, hk88, y86, y87⟩ := hp
    dsimp only at hI81 eJ83 hB82 eG84 hk88 y86 y87 Y
    rw [eJ83, eG84] at Y
    have hI89 : (∀ j, j ≠ 14 → j ≠ 18 → I77 j = I j) := fun j h14 h18 => (hI81 j h14).trans ((fun j h14 h18 => rfl) j h14 h18)
    have hB90 : (∀ j, j ≠ 12 → j ≠ 13 → j ≠ 15 → B79 j = B j) := fun j h12 h13 h15 => (hB82 j h12 h13).trans ((fun j h12 h13 h15 => rfl) j h12 h13 h15)
    refine lv_iload_n X.1 X.2.1 d_aesKey_11 rfl (lv_at hl 2 rfl) ?_
    refine lv_iconst (v := (nI 4)) X.1 X.2.1 d_aesKey_12 (by decide) ?_
    refine lv_idiv X.1 X.2.1 d_aesKey_13 (nI_ne0 (by omega) (by omega)) ?_
    refine t_eq (y := nI 8) (by decide) ?_
    refine lv_istore_n (lv' := [(3, .int (nI 8)), (0, .ref h), (1, .ref (q 27)), (2, .int (nI 32))]) X.1 X.2.1 d_aesKey_14 rfl hl (by decide) rfl (fun ls hl => ?_)
    refine lv_aload_n X.1 X.2.1 d_aesKey_15 rfl (lv_at hl 1 rfl) ?_
    refine lv_iload_n X.1 X.2.1 d_aesKey_16 rfl (lv_at hl 0 rfl) ?_
    refine lv_bipush (v := (nI 6)) X.1 X.2.1 d_aesKey_17 (by decide) ?_
    refine lv_iadd X.1 X.2.1 d_aesKey_19 ?_
    refine t_eq (y := nI 14) (by decide) ?_
    refine m_puti X Y 18 (by decide) lk_rounds rfl rfl (t_M_ok 18 (by decide)) rfl rfl (sf_rounds _ _ _ _) (Nat.le_of_ble_eq_true rfl) d_aesKey_20 (fun H locs Y => ?_)
    refine lv_iconst (v := (nI 0)) X.1 X.2.1 d_aesKey_23 (by decide) ?_
    refine lv_istore (lv' := [(4, .int (nI 0)), (3, .int (nI 8)), (0, .ref h), (1, .ref (q 27)), (2, .int (nI 32))]) X.1 X.2.1 d_aesKey_24 hl (by decide) rfl (fun ls hl => ?_)
    have lp94 : ∀ (n91 i92 : Nat) (B95 : Nat → Nat → Int32) (H : Heap) (locs : List Loc) (ls : Array Slot), i92 + n91 = 8 → 0 ≤ i92 → (∀ j, j ≠ 12 → j ≠ 13 → j ≠ 15 → B95 j = B j) → by8 (B95 12) → by8 (B95 13) → mH D E (mA E h q sz) s.heap h q (upd I77 18 (nI 14)) J B95 G H locs → lv_has ls 7 [(4, .int (nI i92)), (3, .int (nI 8)), (0, .ref h), (1, .ref (q 27)), (2, .int (nI 32))] → W p l e (mR 3 69) s m AV below meth c H locs 0 0 QQ (F0 m 26 ls []) := by
      intro n91
      induction n91 with
      | zero =>
        intro i92 B95 H locs ls hii92 hsi92 hB96 y97 y98  Y hl
        refine lv_iload X.1 X.2.1 d_aesKey_26 (lv_at hl 0 rfl) ?_
        refine lv_iload_n X.1 X.2.1 d_aesKey_28 rfl (lv_at hl 1 rfl) ?_
        refine lv_icmp_ge (tgt := 99) X.1 X.2.1 d_aesKey_29 (by decide) (fun c99 => ?_) (fun c99 => absurd ?_ c99)
        rotate_left
        · (rw [nI_leI (by omega) (by omega)] <;> omega)
        rw [nI_leI (by omega) (by omega)] at c99
        refine lv_iconst (v := (nI 1)) X.1 X.2.1 d_aesKey_99 (by decide) ?_
        refine lv_istore (lv' := [(4, .int (nI 1)), (3, .int (nI 8)), (0, .ref h), (1, .ref (q 27)), (2, .int (nI 32))]) X.1 X.2.1 d_aesKey_100 hl (by decide) rfl (fun ls hl => ?_)
        refine lv_iload_n X.1 X.2.1 d_aesKey_102 rfl (lv_at hl 1 rfl) ?_
        refine lv_istore (lv' := [(5, .int (nI 8)), (4, .int (nI 1)), (3, .int (nI 8)), (0, .ref h), (1, .ref (q 27)), (2, .int (nI 32))]) X.1 X.2.1 d_aesKey_103 hl (by decide) rfl (fun ls hl => ?_)
        have lp103 : ∀ (n100 i101 : Nat) (B104 : Nat → Nat → Int32) (x105 : Nat) (H : Heap) (locs : List Loc) (ls : Array Slot), i101 + n100 = 60 → 8 ≤ i101 → (∀ j, j ≠ 12 → j ≠ 13 → j ≠ 15 → B104 j = B j) → by8 (B104 12) → by8 (B104 13) → x105 < 256 → mH D E (mA E h q sz) s.heap h q (upd I77 18 (nI 14)) J B104 G H locs → lv_has ls 7 [(5, .int (nI i101)), (4, .int (nI x105)), (3, .int (nI 8)), (0, .ref h), (1, .ref (q 27)), (2, .int (nI 32))] → W p l e (mR 3 69) s m AV below meth c H locs 0 0 QQ (F0 m 105 ls []) := by
          intro n100
          induction n100 with
          | zero =>
            intro i101 B104 x105 H locs ls hii101 hsi101 hB106 y107 y108 hxx105  Y hl
            refine lv_iload X.1 X.2.1 d_aesKey_105 (lv_at hl 0 rfl) ?_
            refine lv_iconst (v := (nI 4)) X.1 X.2.1 d_aesKey_107 (by decide) ?_
            refine lv_aload_n X.1 X.2.1 d_aesKey_108 rfl (lv_at hl 3 rfl) ?_
            refine m_get X Y 18 (by decide) lk_rounds (gf_rounds _ _ _) rfl d_aesKey_109 ?_
            refine t_eq (show (upd I77 18 (nI 14)) 18 = nI (14) from pk_us) ?_
            refine lv_iconst (v := (nI 1)) X.1 X.2.1 d_aesKey_112 (by decide) ?_
            refine lv_iadd X.1 X.2.1 d_aesKey_113 ?_
            refine t_eq (y := nI 15) (by decide) ?_
            refine lv_imul X.1 X.2.1 d_aesKey_114 ?_
            refine t_eq (y := nI 60) (by decide) ?_
            refine lv_icmp_ge (tgt := 212) X.1 X.2.1 d_aesKey_115 (by decide) (fun c109 => ?_) (fun c109 => absurd ?_ c109)
            rotate_left
            · (rw [nI_leI (by omega) (by omega)] <;> omega)
            rw [nI_leI (by omega) (by omega)] at c109
            exact m_retv hQQ X Y hr hlk ⟨(fun j h14 h18 => ((if_neg h18).trans (hI89 j h14 h18))), rfl, (fun j h12 h13 h15 => (hB106 j h12 h13 h15)), rfl, (show (upd I77 18 (nI 14)) 18 = nI (14) from (show (upd I77 18 (nI 14)) 18 = nI (14) from pk_us).trans (congrArg nI (show (14 : Nat) = 14 by omega))), (show by8 (B104 12) from y107), (show by8 (B104 13) from y108)⟩ d_aesKey_212
          | succ n100 ih102 =>
            intro i101 B104 x105 H locs ls hii101 hsi101 hB106 y107 y108 hxx105  Y hl
            refine lv_iload X.1 X.2.1 d_aesKey_105 (lv_at hl 0 rfl) ?_
            refine lv_iconst (v := (nI 4)) X.1 X.2.1 d_aesKey_107 (by decide) ?_
            refine lv_aload_n X.1 X.2.1 d_aesKey_108 rfl (lv_at hl 3 rfl) ?_
            refine m_get X Y 18 (by decide) lk_rounds (gf_rounds _ _ _) rfl d_aesKey_109 ?_
            refine t_eq (show (upd I77 18 (nI 14)) 18 = nI (14) from pk_us) ?_
            refine lv_iconst (v := (nI 1)) X.1 X.2.1 d_aesKey_112 (by decide) ?_
            refine lv_iadd X.1 X.2.1 d_aesKey_113 ?_
            refine t_eq (y := nI 15) (by decide) ?_
            refine lv_imul X.1 X.2.1 d_aesKey_114 ?_
            refine t_eq (y := nI 60) (by decide) ?_
            refine lv_icmp_ge (tgt := 212) X.1 X.2.1 d_aesKey_115 (by decide) (fun c110 => absurd c110 ?_) (fun c110 => ?_)
            · (rw [nI_leI (by omega) (by omega)] <;> omega)
            rw [nI_leI (by omega) (by omega)] at c110
            refine lv_aload_n X.1 X.2.1 d_aesKey_118 rfl (lv_at hl 3 rfl) ?_
            refine m_get X Y 15 (by decide) lk_schedule (gf_schedule _ _ _) rfl d_aesKey_119 ?_
            refine lv_iload X.1 X.2.1 d_aesKey_122 (lv_at hl 0 rfl) ?_
            refine lv_iconst (v := (nI 1)) X.1 X.2.1 d_aesKey_124 (by decide) ?_
            refine lv_isub X.1 X.2.1 d_aesKey_125 ?_
            refine t_eq (y := nI (i101 - (1))) (pk_sub (by omega)) ?_
            refine m_iald X Y (aw_schedule _ _ _ _ _ _ _) (vp_in_nI (by omega) (by decide)) d_aesKey_126 ?_
            refine t_any (fun v111 => ?_)
            refine lv_istore (lv' := [(6, .int v111), (5, .int (nI i101)), (4, .int (nI x105)), (3, .int (nI 8)), (0, .ref h), (1, .ref (q 27)), (2, .int (nI 32))]) X.1 X.2.1 d_aesKey_127 hl (by decide) rfl (fun ls hl => ?_)
            refine lv_iload X.1 X.2.1 d_aesKey_129 (lv_at hl 1 rfl) ?_
            refine lv_iload_n X.1 X.2.1 d_aesKey_131 rfl (lv_at hl 3 rfl) ?_
            refine lv_irem X.1 X.2.1 d_aesKey_132 (nI_ne0 (by omega) (by omega)) ?_
            refine t_eq (y := nI ((i101) % (8))) (pk_rem (by omega) (by omega) (by omega)) ?_
            refine lv_if_ne (tgt := 165) X.1 X.2.1 d_aesKey_133 (by decide) (fun c112 => ?_) (fun c112 => ?_)
            · skip
              rw [← nI_0] at c112
              rw [nI_eq (by omega) (by omega)] at c112
              refine lv_iload_n X.1 X.2.1 d_aesKey_165 rfl (lv_at hl 3 rfl) ?_
              refine lv_bipush (v := (nI 6)) X.1 X.2.1 d_aesKey_166 (by decide) ?_
              refine lv_icmp_le (tgt := 187) X.1 X.2.1 d_aesKey_168 (by decide) (fun c113 => absurd c113 ?_) (fun c113 => ?_)
              · (rw [nI_leI (by omega) (by omega)] <;> omega)
              rw [nI_leI (by omega) (by omega)] at c113
              refine lv_iload X.1 X.2.1 d_aesKey_171 (lv_at hl 1 rfl) ?_
              refine lv_iload_n X.1 X.2.1 d_aesKey_173 rfl (lv_at hl 3 rfl) ?_
              refine lv_irem X.1 X.2.1 d_aesKey_174 (nI_ne0 (by omega) (by omega)) ?_
              refine t_eq (y := nI ((i101) % (8))) (pk_rem (by omega) (by omega) (by omega)) ?_
              refine lv_iconst (v := (nI 4)) X.1 X.2.1 d_aesKey_175 (by decide) ?_
              refine lv_icmp_ne (tgt := 187) X.1 X.2.1 d_aesKey_176 (by decide) (fun c114 => ?_) (fun c114 => ?_)
              · skip
                rw [nI_eq (by omega) (by omega)] at c114
                refine lv_aload_n X.1 X.2.1 d_aesKey_187 rfl (lv_at hl 4 rfl) ?_
                refine m_get X Y 15 (by decide) lk_schedule (gf_schedule _ _ _) rfl d_aesKey_188 ?_
                refine lv_iload X.1 X.2.1 d_aesKey_191 (lv_at hl 1 rfl) ?_
                refine lv_aload_n X.1 X.2.1 d_aesKey_193 rfl (lv_at hl 4 rfl) ?_
                refine m_get X Y 15 (by decide) lk_schedule (gf_schedule _ _ _) rfl d_aesKey_194 ?_
                refine lv_iload X.1 X.2.1 d_aesKey_197 (lv_at hl 1 rfl) ?_
                refine lv_iload_n X.1 X.2.1 d_aesKey_199 rfl (lv_at hl 3 rfl) ?_
                refine lv_isub X.1 X.2.1 d_aesKey_200 ?_
                refine t_eq (y := nI (i101 - (8))) (pk_sub (by omega)) ?_
                refine m_iald X Y (aw_schedule _ _ _ _ _ _ _) (vp_in_nI (by omega) (by decide)) d_aesKey_201 ?_
                refine t_any (fun v115 => ?_)
                refine lv_iload X.1 X.2.1 d_aesKey_202 (lv_at hl 0 rfl) ?_
                refine lv_ixor X.1 X.2.1 d_aesKey_204 ?_
                refine t_any (fun v116 => ?_)
                refine m_iast X Y (aw_schedule _ _ _ _ _ _ _) (vp_in_nI (by omega) (by decide)) (sw_schedule _ _ _ _ _ _ _ _) d_aesKey_205 (fun H locs Y => ?_)
                generalize (upd (B104 15) ((nI i101)).toNatClampNeg v116) = f117 at Y
                refine lv_iinc (v := (nI (i101 + 1))) (lv' := [(5, .int (nI (i101 + 1))), (6, .int v111), (4, .int (nI x105)), (3, .int (nI 8)), (0, .ref h), (1, .ref (q 27)), (2, .int (nI 32))]) X.1 X.2.1 d_aesKey_206 hl (k := 1) rfl (nI_add _ 1) (by decide) rfl (fun ls hl => ?_)
                refine lv_goto (tgt := 105) X.1 X.2.1 d_aesKey_209 (by decide) ?_
                exact ih102 (i101 + 1) (upB B104 15 f117) (x105) _ _ _ (by omega) (by omega) (fun j h12 h13 h15 => ((if_neg h15).trans (hB106 j h12 h13 h15))) (show by8 ((upB B104 15 f117) 12) from y107) (show by8 ((upB B104 15 f117) 13) from y108) (by omega)  Y (lv_sub hl [0, 2, 3, 4, 5, 6] rfl)
              · skip
                rw [nI_eq (by omega) (by omega)] at c114
                refine lv_aload_n X.1 X.2.1 d_aesKey_179 rfl (lv_at hl 4 rfl) ?_
                refine lv_iload X.1 X.2.1 d_aesKey_180 (lv_at hl 0 rfl) ?_
                refine m_calli (As := [.int v111]) (rest := []) (n := 1) X Y hZ hA hml hl.1 (c_boxed l D E h q H.size (upd I77 18 (nI 14)) J B104 G v111) kl_boxed ks_boxed kx_boxed ki_boxed ini_M hd_boxed ⟨by decide, by decide⟩ rfl (Nat.le_of_ble_eq_true rfl) d_aesKey_182 ⟨Nat.le_refl _, Nat.le_refl _⟩ (fun r126 u H locs hp Y => ?_)
                obtain ⟨I118, J119, B120, G121⟩ := u
                obtain ⟨hI122, eJ124, hB123, eG125, pr126⟩ := hp
                dsimp only at hI122 eJ124 hB123 eG125 pr126 Y
                rw [eJ124, eG125] at Y
                rw [show I118 = (upd I77 18 (nI 14)) from funext hI122] at Y
                rw [show B120 = B104 from funext hB123] at Y
                refine lv_istore (lv' := [(6, .int r126), (5, .int (nI i101)), (4, .int (nI x105)), (3, .int (nI 8)), (0, .ref h), (1, .ref (q 27)), (2, .int (nI 32))]) X.1 X.2.1 d_aesKey_185 hl (by decide) rfl (fun ls hl => ?_)
                refine lv_aload_n X.1 X.2.1 d_aesKey_187 rfl (lv_at hl 4 rfl) ?_
                refine m_get X Y 15 (by decide) lk_schedule (gf_schedule _ _ _) rfl d_aesKey_188 ?_
                refine lv_iload X.1 X.2.1 d_aesKey_191 (lv_at hl 1 rfl) ?_
                refine lv_aload_n X.1 X.2.1 d_aesKey_193 rfl (lv_at hl 4 rfl) ?_
                refine m_get X Y 15 (by decide) lk_schedule (gf_schedule _ _ _) rfl d_aesKey_194 ?_
                refine lv_iload X.1 X.2.1 d_aesKey_197 (lv_at hl 1 rfl) ?_
                refine lv_iload_n X.1 X.2.1 d_aesKey_199 rfl (lv_at hl 3 rfl) ?_
                refine lv_isub X.1 X.2.1 d_aesKey_200 ?_
                refine t_eq (y := nI (i101 - (8))) (pk_sub (by omega)) ?_
                refine m_iald X Y (aw_schedule _ _ _ _ _ _ _) (vp_in_nI (by omega) (by decide)) d_aesKey_201 ?_
                refine t_any (fun v129 => ?_)
                refine lv_iload X.1 X.2.1 d_aesKey_202 (lv_at hl 0 rfl) ?_
                refine lv_ixor X.1 X.2.1 d_aesKey_204 ?_
                refine t_any (fun v130 => ?_)
                refine m_iast X Y (aw_schedule _ _ _ _ _ _ _) (vp_in_nI (by omega) (by decide)) (sw_schedule _ _ _ _ _ _ _ _) d_aesKey_205 (fun H locs Y => ?_)
                generalize (upd (B104 15) ((nI i101)).toNatClampNeg v130) = f131 at Y
                refine lv_iinc (v := (nI (i101 + 1))) (lv' := [(5, .int (nI (i101 + 1))), (6, .int r126), (4, .int (nI x105)), (3, .int (nI 8)), (0, .ref h), (1, .ref (q 27)), (2, .int (nI 32))]) X.1 X.2.1 d_aesKey_206 hl (k := 1) rfl (nI_add _ 1) (by decide) rfl (fun ls hl => ?_)
                refine lv_goto (tgt := 105) X.1 X.2.1 d_aesKey_209 (by decide) ?_
                exact ih102 (i101 + 1) (upB B104 15 f131) (x105) _ _ _ (by omega) (by omega) (fun j h12 h13 h15 => ((if_neg h15).trans (hB106 j h12 h13 h15))) (show by8 ((upB B104 15 f131) 12) from y107) (show by8 ((upB B104 15 f131) 13) from y108) (by omega)  Y (lv_sub hl [0, 2, 3, 4, 5, 6] rfl)
            · skip
              rw [← nI_0] at c112
              rw [nI_eq (by omega) (by omega)] at c112
              refine lv_aload_n X.1 X.2.1 d_aesKey_136 rfl (lv_at hl 4 rfl) ?_
              refine lv_iload X.1 X.2.1 d_aesKey_137 (lv_at hl 0 rfl) ?_
              refine lv_bipush (v := (nI 8)) X.1 X.2.1 d_aesKey_139 (by decide) ?_
              refine p_calli (As := [.int v111, .int (nI 8)]) (rest := [.ref h]) (n := 2) X Y hml hl.1 (c_left l v111 (nI 8)) kl_left ks_left ki_left ini_M (by decide +kernel) ⟨by decide, by decide⟩ rfl (Nat.le_of_ble_eq_true rfl) d_aesKey_141 ⟨Nat.le_refl _, Nat.le_refl _⟩ (fun r132 H locs hpr132 Y => ?_)
              refine m_calli (As := [.int r132]) (rest := []) (n := 1) X Y hZ hA hml hl.1 (c_boxed l D E h q H.size (upd I77 18 (nI 14)) J B104 G r132) kl_boxed ks_boxed kx_boxed ki_boxed ini_M hd_boxed ⟨by decide, by decide⟩ rfl (Nat.le_of_ble_eq_true rfl) d_aesKey_144 ⟨Nat.le_refl _, Nat.le_refl _⟩ (fun r141 u H locs hp Y => ?_)
              obtain ⟨I133, J134, B135, G136⟩ := u
              obtain ⟨hI137, eJ139, hB138, eG140, pr141⟩ := hp
              dsimp only at hI137 eJ139 hB138 eG140 pr141 Y
              rw [eJ139, eG140] at Y
              rw [show I133 = (upd I77 18 (nI 14)) from funext hI137] at Y
              rw [show B135 = B104 from funext hB138] at Y
              refine lv_iload X.1 X.2.1 d_aesKey_147 (lv_at hl 2 rfl) ?_
              refine lv_bipush (v := (nI 24)) X.1 X.2.1 d_aesKey_149 (by decide) ?_
              refine lv_ishl X.1 X.2.1 d_aesKey_151 ?_
              refine t_any (fun v144 => ?_)
              refine lv_ixor X.1 X.2.1 d_aesKey_152 ?_
              refine t_any (fun v145 => ?_)
              refine lv_istore (lv' := [(6, .int v145), (5, .int (nI i101)), (4, .int (nI x105)), (3, .int (nI 8)), (0, .ref h), (1, .ref (q 27)), (2, .int (nI 32))]) X.1 X.2.1 d_aesKey_153 hl (by decide) rfl (fun ls hl => ?_)
              refine lv_iload X.1 X.2.1 d_aesKey_155 (lv_at hl 2 rfl) ?_
              refine p_calli (As := [.int (nI x105)]) (rest := []) (n := 1) X Y hml hl.1 (c_twice l (nI x105)) kl_twice ks_twice ki_twice ini_M (by decide +kernel) ⟨by decide, by decide⟩ rfl (Nat.le_of_ble_eq_true rfl) d_aesKey_157 ⟨Nat.le_refl _, Nat.le_refl _⟩ (fun r146 H locs hpr146 Y => ?_)
              obtain ⟨j147, hj147, ej147⟩ := hpr146
              refine t_eq ej147 ?_
              refine lv_istore (lv' := [(4, .int (nI j147)), (6, .int v145), (5, .int (nI i101)), (3, .int (nI 8)), (0, .ref h), (1, .ref (q 27)), (2, .int (nI 32))]) X.1 X.2.1 d_aesKey_160 hl (by decide) rfl (fun ls hl => ?_)
              refine lv_goto (tgt := 187) X.1 X.2.1 d_aesKey_162 (by decide) ?_
              refine lv_aload_n X.1 X.2.1 d_aesKey_187 rfl (lv_at hl 4 rfl) ?_
              refine m_get X Y 15 (by decide) lk_schedule (gf_schedule _ _ _) rfl d_aesKey_188 ?_
              refine lv_iload X.1 X.2.1 d_aesKey_191 (lv_at hl 2 rfl) ?_
              refine lv_aload_n X.1 X.2.1 d_aesKey_193 rfl (lv_at hl 4 rfl) ?_
              refine m_get X Y 15 (by decide) lk_schedule (gf_schedule _ _ _) rfl d_aesKey_194 ?_
              refine lv_iload X.1 X.2.1 d_aesKey_197 (lv_at hl 2 rfl) ?_
              refine lv_iload_n X.1 X.2.1 d_aesKey_199 rfl (lv_at hl 3 rfl) ?_
              refine lv_isub X.1 X.2.1 d_aesKey_200 ?_
              refine t_eq (y := nI (i101 - (8))) (pk_sub (by omega)) ?_
              refine m_iald X Y (aw_schedule _ _ _ _ _ _ _) (vp_in_nI (by omega) (by decide)) d_aesKey_201 ?_
              refine t_any (fun v148 => ?_)
              refine lv_iload X.1 X.2.1 d_aesKey_202 (lv_at hl 1 rfl) ?_
              refine lv_ixor X.1 X.2.1 d_aesKey_204 ?_
              refine t_any (fun v149 => ?_)
              refine m_iast X Y (aw_schedule _ _ _ _ _ _ _) (vp_in_nI (by omega) (by decide)) (sw_schedule _ _ _ _ _ _ _ _) d_aesKey_205 (fun H locs Y => ?_)
              generalize (upd (B104 15) ((nI i101)).toNatClampNeg v149) = f150 at Y
              refine lv_iinc (v := (nI (i101 + 1))) (lv' := [(5, .int (nI (i101 + 1))), (4, .int (nI j147)), (6, .int v145), (3, .int (nI 8)), (0, .ref h), (1, .ref (q 27)), (2, .int (nI 32))]) X.1 X.2.1 d_aesKey_206 hl (k := 2) rfl (nI_add _ 1) (by decide) rfl (fun ls hl => ?_)
              refine lv_goto (tgt := 105) X.1 X.2.1 d_aesKey_209 (by decide) ?_
              exact ih102 (i101 + 1) (upB B104 15 f150) (j147) _ _ _ (by omega) (by omega) (fun j h12 h13 h15 => ((if_neg h15).trans (hB106 j h12 h13 h15))) (show by8 ((upB B104 15 f150) 12) from y107) (show by8 ((upB B104 15 f150) 13) from y108) (by omega)  Y (lv_sub hl [0, 1, 3, 4, 5, 6] rfl)
        exact lp103 (60 - 8) 8 B95 (1) _ _ _ (by omega) (by omega) (fun j h12 h13 h15 => (hB96 j h12 h13 h15)) (show by8 (B95 12) from y97) (show by8 (B95 13) from y98) (by omega)  Y (lv_sub hl [0, 1, 2, 3, 4, 5] rfl)
      | succ n91 ih93 =>
        intro i92 B95 H locs ls hii92 hsi92 hB96 y97 y98  Y hl
        refine lv_iload X.1 X.2.1 d_aesKey_26 (lv_at hl 0 rfl) ?_
        refine lv_iload_n X.1 X.2.1 d_aesKey_28 rfl (lv_at hl 1 rfl) ?_
        refine lv_icmp_ge (tgt := 99) X.1 X.2.1 d_aesKey_29 (by decide) (fun c151 => absurd c151 ?_) (fun c151 => ?_)
        · (rw [nI_leI (by omega) (by omega)] <;> omega)
        rw [nI_leI (by omega) (by omega)] at c151
        refine lv_aload_n X.1 X.2.1 d_aesKey_32 rfl (lv_at hl 2 rfl) ?_
        refine m_get X Y 15 (by decide) lk_schedule (gf_schedule _ _ _) rfl d_aesKey_33 ?_
        refine lv_iload X.1 X.2.1 d_aesKey_36 (lv_at hl 0 rfl) ?_
        refine lv_aload_n X.1 X.2.1 d_aesKey_38 rfl (lv_at hl 3 rfl) ?_
        refine lv_iconst (v := (nI 4)) X.1 X.2.1 d_aesKey_39 (by decide) ?_
        refine lv_iload X.1 X.2.1 d_aesKey_40 (lv_at hl 0 rfl) ?_
        refine lv_imul X.1 X.2.1 d_aesKey_42 ?_
        refine t_eq (y := nI ((4) * (i92))) (pk_mul _ _) ?_
        refine m_bald X Y (aw_long0 _ _ _ _ _ _ _) (vp_in_nI (by omega) (by decide)) d_aesKey_43 ?_
        refine t_any (fun v152 => ?_)
        refine lv_bipush (v := (nI 24)) X.1 X.2.1 d_aesKey_44 (by decide) ?_
        refine lv_ishl X.1 X.2.1 d_aesKey_46 ?_
        refine t_any (fun v153 => ?_)
        refine lv_aload_n X.1 X.2.1 d_aesKey_47 rfl (lv_at hl 3 rfl) ?_
        refine lv_iconst (v := (nI 4)) X.1 X.2.1 d_aesKey_48 (by decide) ?_
        refine lv_iload X.1 X.2.1 d_aesKey_49 (lv_at hl 0 rfl) ?_
        refine lv_imul X.1 X.2.1 d_aesKey_51 ?_
        refine t_eq (y := nI ((4) * (i92))) (pk_mul _ _) ?_
        refine lv_iconst (v := (nI 1)) X.1 X.2.1 d_aesKey_52 (by decide) ?_
        refine lv_iadd X.1 X.2.1 d_aesKey_53 ?_
        refine t_eq (y := nI ((4) * (i92) + 1)) (nI_add _ _) ?_
        refine m_bald X Y (aw_long0 _ _ _ _ _ _ _) (vp_in_nI (by omega) (by decide)) d_aesKey_54 ?_
        refine t_any (fun v154 => ?_)
        refine lv_sipush (v := (nI 255)) X.1 X.2.1 d_aesKey_55 (by decide) ?_
        refine lv_iand X.1 X.2.1 d_aesKey_58 ?_
        obtain ⟨j155, hj155, ej155⟩ := pk_andE v154 (m := nI 255) 8 (by decide)
        refine t_eq ej155 ?_
        have hj155 : j155 < 256 := hj155
        refine lv_bipush (v := (nI 16)) X.1 X.2.1 d_aesKey_59 (by decide) ?_
        refine lv_ishl X.1 X.2.1 d_aesKey_61 ?_
        refine t_any (fun v156 => ?_)
        refine lv_ior X.1 X.2.1 d_aesKey_62 ?_
        refine t_any (fun v157 => ?_)
        refine lv_aload_n X.1 X.2.1 d_aesKey_63 rfl (lv_at hl 3 rfl) ?_
        refine lv_iconst (v := (nI 4)) X.1 X.2.1 d_aesKey_64 (by decide) ?_
        refine lv_iload X.1 X.2.1 d_aesKey_65 (lv_at hl 0 rfl) ?_
        refine lv_imul X.1 X.2.1 d_aesKey_67 ?_
        refine t_eq (y := nI ((4) * (i92))) (pk_mul _ _) ?_
        refine lv_iconst (v := (nI 2)) X.1 X.2.1 d_aesKey_68 (by decide) ?_
        refine lv_iadd X.1 X.2.1 d_aesKey_69 ?_
        refine t_eq (y := nI ((4) * (i92) + 2)) (nI_add _ _) ?_
        refine m_bald X Y (aw_long0 _ _ _ _ _ _ _) (vp_in_nI (by omega) (by decide)) d_aesKey_70 ?_
        refine t_any (fun v158 => ?_)
        refine lv_sipush (v := (nI 255)) X.1 X.2.1 d_aesKey_71 (by decide) ?_
        refine lv_iand X.1 X.2.1 d_aesKey_74 ?_
        obtain ⟨j159, hj159, ej159⟩ := pk_andE v158 (m := nI 255) 8 (by decide)
        refine t_eq ej159 ?_
        have hj159 : j159 < 256 := hj159
        refine lv_bipush (v := (nI 8)) X.1 X.2.1 d_aesKey_75 (by decide) ?_
        refine lv_ishl X.1 X.2.1 d_aesKey_77 ?_
        refine t_any (fun v160 => ?_)
        refine lv_ior X.1 X.2.1 d_aesKey_78 ?_
        refine t_any (fun v161 => ?_)
        refine lv_aload_n X.1 X.2.1 d_aesKey_79 rfl (lv_at hl 3 rfl) ?_
        refine lv_iconst (v := (nI 4)) X.1 X.2.1 d_aesKey_80 (by decide) ?_
        refine lv_iload X.1 X.2.1 d_aesKey_81 (lv_at hl 0 rfl) ?_
        refine lv_imul X.1 X.2.1 d_aesKey_83 ?_
        refine t_eq (y := nI ((4) * (i92))) (pk_mul _ _) ?_
        refine lv_iconst (v := (nI 3)) X.1 X.2.1 d_aesKey_84 (by decide) ?_
        refine lv_iadd X.1 X.2.1 d_aesKey_85 ?_
        refine t_eq (y := nI ((4) * (i92) + 3)) (nI_add _ _) ?_
        refine m_bald X Y (aw_long0 _ _ _ _ _ _ _) (vp_in_nI (by omega) (by decide)) d_aesKey_86 ?_
        refine t_any (fun v162 => ?_)
        refine lv_sipush (v := (nI 255)) X.1 X.2.1 d_aesKey_87 (by decide) ?_
        refine lv_iand X.1 X.2.1 d_aesKey_90 ?_
        obtain ⟨j163, hj163, ej163⟩ := pk_andE v162 (m := nI 255) 8 (by decide)
        refine t_eq ej163 ?_
        have hj163 : j163 < 256 := hj163
        refine lv_ior X.1 X.2.1 d_aesKey_91 ?_
        refine t_any (fun v164 => ?_)
        refine m_iast X Y (aw_schedule _ _ _ _ _ _ _) (vp_in_nI (by omega) (by decide)) (sw_schedule _ _ _ _ _ _ _ _) d_aesKey_92 (fun H locs Y => ?_)
        generalize (upd (B95 15) ((nI i92)).toNatClampNeg v164) = f165 at Y
        refine lv_iinc (v := (nI (i92 + 1))) (lv' := [(4, .int (nI (i92 + 1))), (3, .int (nI 8)), (0, .ref h), (1, .ref (q 27)), (2, .int (nI 32))]) X.1 X.2.1 d_aesKey_93 hl (k := 0) rfl (nI_add _ 1) (by decide) rfl (fun ls hl => ?_)
        refine lv_goto (tgt := 26) X.1 X.2.1 d_aesKey_96 (by decide) ?_
        exact ih93 (i92 + 1) (upB B95 15 f165) _ _ _ (by omega) (by omega) (fun j h12 h13 h15 => ((if_neg h15).trans (hB96 j h12 h13 h15))) (show by8 ((upB B95 15 f165) 12) from y97) (show by8 ((upB B95 15 f165) 13) from y98)  Y (lv_sub hl [0, 1, 2, 3, 4] rfl)
    exact lp94 (8) 0 B79 _ _ _ (by omega) (by omega) (fun j h12 h13 h15 => (hB90 j h12 h13 h15)) (show by8 (B79 12) from y86) (show by8 (B79 13) from y87)  Y (lv_sub hl [0, 1, 2, 3, 4] rfl)
set_option maxHeartbeats 4000000 in
set_option maxRecDepth 100000 in
theorem c_addKey (l : Launch) (D : mD) (E : mE) (h : Nat) (q : Nat → Nat) (sz : Nat) (I : Nat → Int32) (J : Nat → Int64) (B : Nat → Nat → Int32) (G : Nat → Nat → Int64) (k : Nat) (hk : k ≤ 14) (y16 : by8 (B 16)) : Met l y_addKey (k_addKey :: lw_tg) (mR 0 0) (va_Pc [.ref h, .int (nI k)] (mPre D E h q (I, J, B, G) sz)) (va_Qv (fun (u : mS) => (∀ j, u.1 j = I j) ∧ u.2.1 = J ∧ (∀ j, j ≠ 16 → u.2.2.1 j = B j) ∧ u.2.2.2 = G ∧ by8 (u.2.2.1 16)) (mPost D E h q (mA E h q sz)) (mA E h q sz)) 0 0 (mA E h q sz) := by
  refine m_enter (by decide) rfl (Nat.le_of_ble_eq_true rfl) (fun p e s m below meth c ls AV QQ H locs hQQ X Y hZ hA hr hlk hml hl => ?_)
  have Y : mH D E (mA E h q sz) s.heap h q I J B G H locs := Y
  have hl : lv_has ls 3 [(0, .ref h), (1, .int (nI k))] := hl
  refine lv_iconst (v := (nI 0)) X.1 X.2.1 d_addKey_0 (by decide) ?_
  refine lv_istore_n (lv' := [(2, .int (nI 0)), (0, .ref h), (1, .int (nI k))]) X.1 X.2.1 d_addKey_1 rfl hl (by decide) rfl (fun ls hl => ?_)
  have lp4 : ∀ (n1 i2 : Nat) (B5 : Nat → Nat → Int32) (H : Heap) (locs : List Loc) (ls : Array Slot), i2 + n1 = 16 → 0 ≤ i2 → (∀ j, j ≠ 16 → B5 j = B j) → by8 (B5 16) → mH D E (mA E h q sz) s.heap h q I J B5 G H locs → lv_has ls 3 [(2, .int (nI i2)), (0, .ref h), (1, .int (nI k))] → W p l e (mR 0 0) s m AV below meth c H locs 0 0 QQ (F0 m 2 ls []) := by
    intro n1
    induction n1 with
    | zero =>
      intro i2 B5 H locs ls hii2 hsi2 hB6 y7  Y hl
      refine lv_iload_n X.1 X.2.1 d_addKey_2 rfl (lv_at hl 0 rfl) ?_
      refine lv_bipush (v := (nI 16)) X.1 X.2.1 d_addKey_3 (by decide) ?_
      refine lv_icmp_ge (tgt := 49) X.1 X.2.1 d_addKey_5 (by decide) (fun c8 => ?_) (fun c8 => absurd ?_ c8)
      rotate_left
      · (rw [nI_leI (by omega) (by omega)] <;> omega)
      rw [nI_leI (by omega) (by omega)] at c8
      exact m_retv hQQ X Y hr hlk ⟨(fun j  => rfl), rfl, (fun j h16 => (hB6 j h16)), rfl, (show by8 (B5 16) from y7)⟩ d_addKey_49
    | succ n1 ih3 =>
      intro i2 B5 H locs ls hii2 hsi2 hB6 y7  Y hl
      refine lv_iload_n X.1 X.2.1 d_addKey_2 rfl (lv_at hl 0 rfl) ?_
      refine lv_bipush (v := (nI 16)) X.1 X.2.1 d_addKey_3 (by decide) ?_
      refine lv_icmp_ge (tgt := 49) X.1 X.2.1 d_addKey_5 (by decide) (fun c9 => absurd c9 ?_) (fun c9 => ?_)
      · (rw [nI_leI (by omega) (by omega)] <;> omega)
      rw [nI_leI (by omega) (by omega)] at c9
      refine lv_aload_n X.1 X.2.1 d_addKey_8 rfl (lv_at hl 1 rfl) ?_
      refine m_get X Y 16 (by decide) lk_state (gf_state _ _ _) rfl d_addKey_9 ?_
      refine lv_iload_n X.1 X.2.1 d_addKey_12 rfl (lv_at hl 0 rfl) ?_
      refine lv_dup2_11 X.1 X.2.1 d_addKey_13 rfl rfl ?_
      refine m_iald X Y (aw_state _ _ _ _ _ _ _) (vp_in_nI (by omega) (by decide)) d_addKey_14 ?_
      obtain ⟨j10, hj10, ej10⟩ := y7 ((nI i2)).toNatClampNeg
      refine t_eq (show B5 16 ((nI i2)).toNatClampNeg = nI j10 from ej10) ?_
      refine lv_aload_n X.1 X.2.1 d_addKey_15 rfl (lv_at hl 1 rfl) ?_
      refine m_get X Y 15 (by decide) lk_schedule (gf_schedule _ _ _) rfl d_addKey_16 ?_
      refine lv_iconst (v := (nI 4)) X.1 X.2.1 d_addKey_19 (by decide) ?_
      refine lv_iload_n X.1 X.2.1 d_addKey_20 rfl (lv_at hl 2 rfl) ?_
      refine lv_imul X.1 X.2.1 d_addKey_21 ?_
      refine t_eq (y := nI ((4) * (k))) (pk_mul _ _) ?_
      refine lv_iload_n X.1 X.2.1 d_addKey_22 rfl (lv_at hl 0 rfl) ?_
      refine lv_iconst (v := (nI 4)) X.1 X.2.1 d_addKey_23 (by decide) ?_
      refine lv_idiv X.1 X.2.1 d_addKey_24 (nI_ne0 (by omega) (by omega)) ?_
      refine t_eq (y := nI ((i2) / (4))) (pk_div (by omega) (by omega) (by omega)) ?_
      refine lv_iadd X.1 X.2.1 d_addKey_25 ?_
      refine t_eq (y := nI ((4) * (k) + (i2) / (4))) (nI_add _ _) ?_
      refine m_iald X Y (aw_schedule _ _ _ _ _ _ _) (vp_in_nI (by omega) (by decide)) d_addKey_26 ?_
      refine t_any (fun v11 => ?_)
      refine lv_bipush (v := (nI 24)) X.1 X.2.1 d_addKey_27 (by decide) ?_
      refine lv_bipush (v := (nI 8)) X.1 X.2.1 d_addKey_29 (by decide) ?_
      refine lv_iload_n X.1 X.2.1 d_addKey_31 rfl (lv_at hl 0 rfl) ?_
      refine lv_iconst (v := (nI 4)) X.1 X.2.1 d_addKey_32 (by decide) ?_
      refine lv_irem X.1 X.2.1 d_addKey_33 (nI_ne0 (by omega) (by omega)) ?_
      refine t_eq (y := nI ((i2) % (4))) (pk_rem (by omega) (by omega) (by omega)) ?_
      refine lv_imul X.1 X.2.1 d_addKey_34 ?_
      refine t_eq (y := nI ((8) * ((i2) % (4)))) (pk_mul _ _) ?_
      refine lv_isub X.1 X.2.1 d_addKey_35 ?_
      refine t_eq (y := nI (24 - ((8) * ((i2) % (4))))) (pk_sub (by omega)) ?_
      obtain ⟨v12, ev12⟩ : ∃ z : Int32, ((v11 : Int32).toUInt32 >>> (((nI (24 - ((8) * ((i2) % (4))))) : Int32).toUInt32 &&& Int32.toUInt32 31)).toInt32 = z := ⟨_, rfl⟩
      refine lv_iushr (v := v12) X.1 X.2.1 d_addKey_36 ev12 ?_
      refine lv_sipush (v := (nI 255)) X.1 X.2.1 d_addKey_37 (by decide) ?_
      refine lv_iand X.1 X.2.1 d_addKey_40 ?_
      obtain ⟨j13, hj13, ej13⟩ := pk_andE v12 (m := nI 255) 8 (by decide)
      refine t_eq ej13 ?_
      have hj13 : j13 < 256 := hj13
      refine lv_ixor X.1 X.2.1 d_addKey_41 ?_
      obtain ⟨j14, hj14, ej14⟩ := by_ixor (a := j10) (b := j13) (by omega) (by omega)
      refine t_eq ej14 ?_
      refine m_iast X Y (aw_state _ _ _ _ _ _ _) (vp_in_nI (by omega) (by decide)) (sw_state _ _ _ _ _ _ _ _) d_addKey_42 (fun H locs Y => ?_)
      have y16 : by8 (upd (B5 16) ((nI i2)).toNatClampNeg (nI j14)) := by8_upd y7 (show j14 < 256 by omega)
      generalize (upd (B5 16) ((nI i2)).toNatClampNeg (nI j14)) = f15 at Y y16
      refine lv_iinc (v := (nI (i2 + 1))) (lv' := [(2, .int (nI (i2 + 1))), (0, .ref h), (1, .int (nI k))]) X.1 X.2.1 d_addKey_43 hl (k := 0) rfl (nI_add _ 1) (by decide) rfl (fun ls hl => ?_)
      refine lv_goto (tgt := 2) X.1 X.2.1 d_addKey_46 (by decide) ?_
      exact ih3 (i2 + 1) (upB B5 16 f15) _ _ _ (by omega) (by omega) (fun j h16 => ((if_neg h16).trans (hB6 j h16))) (show by8 ((upB B5 16 f15) 16) from y16)  Y (lv_sub hl [0, 1, 2] rfl)
  exact lp4 (16) 0 B _ _ _ (by omega) (by omega) (fun j h16 => rfl) (show by8 (B 16) from y16)  Y (lv_sub hl [0, 1, 2] rfl)
set_option maxHeartbeats 4000000 in
set_option maxRecDepth 100000 in
theorem c_cover (l : Launch) (D : mD) (E : mE) (h : Nat) (q : Nat → Nat) (sz : Nat) (I : Nat → Int32) (J : Nat → Int64) (B : Nat → Nat → Int32) (G : Nat → Nat → Int64) (rd : Nat) (hrd : I 18 = nI rd) (hrd2 : rd ≤ 14) (y12 : by8 (B 12)) (y16 : by8 (B 16)) (y17 : by8 (B 17)) : Met l y_cover (k_cover :: lw_tg) (mR 1 22) (va_Pc [.ref h] (mPre D E h q (I, J, B, G) sz)) (va_Qv (fun (u : mS) => (∀ j, u.1 j = I j) ∧ u.2.1 = J ∧ (∀ j, j ≠ 16 → j ≠ 17 → u.2.2.1 j = B j) ∧ u.2.2.2 = G ∧ by8 (u.2.2.1 16) ∧ by8 (u.2.2.1 17)) (mPost D E h q (mA E h q sz)) (mA E h q sz)) 0 0 (mA E h q sz) := by
  refine m_enter (by decide) rfl (Nat.le_of_ble_eq_true rfl) (fun p e s m below meth c ls AV QQ H locs hQQ X Y hZ hA hr hlk hml hl => ?_)
  have Y : mH D E (mA E h q sz) s.heap h q I J B G H locs := Y
  have hl : lv_has ls 6 [(0, .ref h)] := hl
  refine lv_aload_n X.1 X.2.1 d_cover_0 rfl (lv_at hl 0 rfl) ?_
  refine lv_iconst (v := (nI 0)) X.1 X.2.1 d_cover_1 (by decide) ?_
  refine m_callv (As := [.int (nI 0)]) (rest := []) (n := 1) X Y hZ hA hml hl.1 (c_addKey l D E h q H.size I J B G (0) (by omega) (show by8 (B 16) from y16)) kl_addKey ks_addKey kx_addKey ki_addKey ini_M hd_addKey ⟨by decide, by decide⟩ rfl (Nat.le_of_ble_eq_true rfl) d_cover_2 ⟨Nat.le_refl _, Nat.le_refl _⟩ (fun u H locs hp Y => ?_)
  obtain ⟨I1, J2, B3, G4⟩ := u
  obtain ⟨hI5, eJ7, hB6, eG8, y10⟩ := hp
  dsimp only at hI5 eJ7 hB6 eG8 y10 Y
  rw [eJ7, eG8] at Y
  rw [show I1 = I from funext hI5] at Y
  have hB12 : (∀ j, j ≠ 16 → j ≠ 17 → B3 j = B j) := fun j h16 h17 => (hB6 j h16).trans ((fun j h16 h17 => rfl) j h16 h17)
  refine lv_iconst (v := (nI 1)) X.1 X.2.1 d_cover_5 (by decide) ?_
  refine lv_istore_n (lv' := [(1, .int (nI 1)), (0, .ref h)]) X.1 X.2.1 d_cover_6 rfl hl (by decide) rfl (fun ls hl => ?_)
  have lp16 : ∀ (n13 i14 : Nat) (B17 : Nat → Nat → Int32) (H : Heap) (locs : List Loc) (ls : Array Slot), i14 + n13 = rd + 1 → 1 ≤ i14 → (∀ j, j ≠ 16 → j ≠ 17 → B17 j = B j) → by8 (B17 12) → by8 (B17 17) → by8 (B17 16) → mH D E (mA E h q sz) s.heap h q I J B17 G H locs → lv_has ls 6 [(1, .int (nI i14)), (0, .ref h)] → W p l e (mR 1 22) s m AV below meth c H locs 0 0 QQ (F0 m 7 ls []) := by
    intro n13
    induction n13 with
    | zero =>
      intro i14 B17 H locs ls hii14 hsi14 hB18 y19 y20 y21  Y hl
      refine lv_iload_n X.1 X.2.1 d_cover_7 rfl (lv_at hl 0 rfl) ?_
      refine lv_aload_n X.1 X.2.1 d_cover_8 rfl (lv_at hl 1 rfl) ?_
      refine m_get X Y 18 (by decide) lk_rounds (gf_rounds _ _ _) rfl d_cover_9 ?_
      refine t_eq (show I 18 = nI (rd) from hrd) ?_
      refine lv_icmp_gt (tgt := 178) X.1 X.2.1 d_cover_12 (by decide) (fun c22 => ?_) (fun c22 => absurd ?_ c22)
      rotate_left
      · (rw [nI_ltI (by omega) (by omega)] <;> omega)
      rw [nI_ltI (by omega) (by omega)] at c22
      exact m_retv hQQ X Y hr hlk ⟨(fun j  => rfl), rfl, (fun j h16 h17 => (hB18 j h16 h17)), rfl, (show by8 (B17 16) from y21), (show by8 (B17 17) from y20)⟩ d_cover_178
    | succ n13 ih15 =>
      intro i14 B17 H locs ls hii14 hsi14 hB18 y19 y20 y21  Y hl
      refine lv_iload_n X.1 X.2.1 d_cover_7 rfl (lv_at hl 0 rfl) ?_
      refine lv_aload_n X.1 X.2.1 d_cover_8 rfl (lv_at hl 1 rfl) ?_
      refine m_get X Y 18 (by decide) lk_rounds (gf_rounds _ _ _) rfl d_cover_9 ?_
      refine t_eq (show I 18 = nI (rd) from hrd) ?_
      refine lv_icmp_gt (tgt := 178) X.1 X.2.1 d_cover_12 (by decide) (fun c23 => absurd c23 ?_) (fun c23 => ?_)
      · (rw [nI_ltI (by omega) (by omega)] <;> omega)
      rw [nI_ltI (by omega) (by omega)] at c23
      refine lv_iconst (v := (nI 0)) X.1 X.2.1 d_cover_15 (by decide) ?_
      refine lv_istore_n (lv' := [(2, .int (nI 0)), (1, .int (nI i14)), (0, .ref h)]) X.1 X.2.1 d_cover_16 rfl hl (by decide) rfl (fun ls hl => ?_)
      have lp27 : ∀ (n24 i25 : Nat) (B28 : Nat → Nat → Int32) (H : Heap) (locs : List Loc) (ls : Array Slot), i25 + n24 = 16 → 0 ≤ i25 → (∀ j, j ≠ 16 → j ≠ 17 → B28 j = B j) → by8 (B28 12) → by8 (B28 17) → by8 (B28 16) → mH D E (mA E h q sz) s.heap h q I J B28 G H locs → lv_has ls 6 [(2, .int (nI i25)), (1, .int (nI i14)), (0, .ref h)] → W p l e (mR 1 22) s m AV below meth c H locs 0 0 QQ (F0 m 17 ls []) := by
        intro n24
        induction n24 with
        | zero =>
          intro i25 B28 H locs ls hii25 hsi25 hB29 y30 y31 y32  Y hl
          refine lv_iload_n X.1 X.2.1 d_cover_17 rfl (lv_at hl 0 rfl) ?_
          refine lv_bipush (v := (nI 16)) X.1 X.2.1 d_cover_18 (by decide) ?_
          refine lv_icmp_ge (tgt := 55) X.1 X.2.1 d_cover_20 (by decide) (fun c33 => ?_) (fun c33 => absurd ?_ c33)
          rotate_left
          · (rw [nI_leI (by omega) (by omega)] <;> omega)
          rw [nI_leI (by omega) (by omega)] at c33
          refine lv_iconst (v := (nI 0)) X.1 X.2.1 d_cover_55 (by decide) ?_
          refine lv_istore_n (lv' := [(2, .int (nI 0)), (1, .int (nI i14)), (0, .ref h)]) X.1 X.2.1 d_cover_56 rfl hl (by decide) rfl (fun ls hl => ?_)
          have lp37 : ∀ (n34 i35 : Nat) (B38 : Nat → Nat → Int32) (H : Heap) (locs : List Loc) (ls : Array Slot), i35 + 4 * n34 = 16 → 0 ≤ i35 → (∀ j, j ≠ 16 → j ≠ 17 → B38 j = B j) → by8 (B38 12) → by8 (B38 17) → by8 (B38 16) → mH D E (mA E h q sz) s.heap h q I J B38 G H locs → lv_has ls 6 [(2, .int (nI i35)), (1, .int (nI i14)), (0, .ref h)] → W p l e (mR 1 22) s m AV below meth c H locs 0 0 QQ (F0 m 57 ls []) := by
            intro n34
            induction n34 with
            | zero =>
              intro i35 B38 H locs ls hii35 hsi35 hB39 y40 y41 y42  Y hl
              refine lv_iload_n X.1 X.2.1 d_cover_57 rfl (lv_at hl 0 rfl) ?_
              refine lv_bipush (v := (nI 16)) X.1 X.2.1 d_cover_58 (by decide) ?_
              refine lv_icmp_ge (tgt := 167) X.1 X.2.1 d_cover_60 (by decide) (fun c43 => ?_) (fun c43 => absurd ?_ c43)
              rotate_left
              · (rw [nI_leI (by omega) (by omega)] <;> omega)
              rw [nI_leI (by omega) (by omega)] at c43
              refine lv_aload_n X.1 X.2.1 d_cover_167 rfl (lv_at hl 2 rfl) ?_
              refine lv_iload_n X.1 X.2.1 d_cover_168 rfl (lv_at hl 1 rfl) ?_
              refine m_callv (As := [.int (nI i14)]) (rest := []) (n := 1) X Y hZ hA hml hl.1 (c_addKey l D E h q H.size I J B38 G (i14) (by omega) (show by8 (B38 16) from y42)) kl_addKey ks_addKey kx_addKey ki_addKey ini_M hd_addKey ⟨by decide, by decide⟩ rfl (Nat.le_of_ble_eq_true rfl) d_cover_169 ⟨Nat.le_refl _, Nat.le_refl _⟩ (fun u H locs hp Y => ?_)
              obtain ⟨I44, J45, B46, G47⟩ := u
              obtain ⟨hI48, eJ50, hB49, eG51, y53⟩ := hp
              dsimp only at hI48 eJ50 hB49 eG51 y53 Y
              rw [eJ50, eG51] at Y
              rw [show I44 = I from funext hI48] at Y
              have hB55 : (∀ j, j ≠ 16 → j ≠ 17 → B46 j = B j) := fun j h16 h17 => (hB49 j h16).trans ((fun j h16 h17 => (hB39 j h16 h17)) j h16 h17)
              refine lv_iinc (v := (nI (i14 + 1))) (lv' := [(1, .int (nI (i14 + 1))), (2, .int (nI i35)), (0, .ref h)]) X.1 X.2.1 d_cover_172 hl (k := 1) rfl (nI_add _ 1) (by decide) rfl (fun ls hl => ?_)
              refine lv_goto (tgt := 7) X.1 X.2.1 d_cover_175 (by decide) ?_
              exact ih15 (i14 + 1) B46 _ _ _ (by omega) (by omega) (fun j h16 h17 => (hB55 j h16 h17)) (show by8 (B46 12) from (by8_eq (hB49 12 (by decide)) y40)) (show by8 (B46 17) from (by8_eq (hB49 17 (by decide)) y41)) (show by8 (B46 16) from y53)  Y (lv_sub hl [0, 2] rfl)
            | succ n34 ih36 =>
              intro i35 B38 H locs ls hii35 hsi35 hB39 y40 y41 y42  Y hl
              refine lv_iload_n X.1 X.2.1 d_cover_57 rfl (lv_at hl 0 rfl) ?_
              refine lv_bipush (v := (nI 16)) X.1 X.2.1 d_cover_58 (by decide) ?_
              refine lv_icmp_ge (tgt := 167) X.1 X.2.1 d_cover_60 (by decide) (fun c56 => absurd c56 ?_) (fun c56 => ?_)
              · (rw [nI_leI (by omega) (by omega)] <;> omega)
              rw [nI_leI (by omega) (by omega)] at c56
              refine lv_iconst (v := (nI 0)) X.1 X.2.1 d_cover_63 (by decide) ?_
              refine lv_istore_n (lv' := [(3, .int (nI 0)), (2, .int (nI i35)), (1, .int (nI i14)), (0, .ref h)]) X.1 X.2.1 d_cover_64 rfl hl (by decide) rfl (fun ls hl => ?_)
              have lp60 : ∀ (n57 i58 : Nat) (B61 : Nat → Nat → Int32) (H : Heap) (locs : List Loc) (ls : Array Slot), i58 + n57 = 4 → 0 ≤ i58 → (∀ j, j ≠ 16 → j ≠ 17 → B61 j = B j) → by8 (B61 12) → by8 (B61 17) → by8 (B61 16) → mH D E (mA E h q sz) s.heap h q I J B61 G H locs → lv_has ls 6 [(3, .int (nI i58)), (2, .int (nI i35)), (1, .int (nI i14)), (0, .ref h)] → W p l e (mR 1 22) s m AV below meth c H locs 0 0 QQ (F0 m 65 ls []) := by
                intro n57
                induction n57 with
                | zero =>
                  intro i58 B61 H locs ls hii58 hsi58 hB62 y63 y64 y65  Y hl
                  refine lv_iload_n X.1 X.2.1 d_cover_65 rfl (lv_at hl 0 rfl) ?_
                  refine lv_iconst (v := (nI 4)) X.1 X.2.1 d_cover_66 (by decide) ?_
                  refine lv_icmp_ge (tgt := 161) X.1 X.2.1 d_cover_67 (by decide) (fun c66 => ?_) (fun c66 => absurd ?_ c66)
                  rotate_left
                  · (rw [nI_leI (by omega) (by omega)] <;> omega)
                  rw [nI_leI (by omega) (by omega)] at c66
                  refine lv_iinc (v := (nI (i35 + 4))) (lv' := [(2, .int (nI (i35 + 4))), (3, .int (nI i58)), (1, .int (nI i14)), (0, .ref h)]) X.1 X.2.1 d_cover_161 hl (k := 1) rfl (nI_add _ 4) (by decide) rfl (fun ls hl => ?_)
                  refine lv_goto (tgt := 57) X.1 X.2.1 d_cover_164 (by decide) ?_
                  exact ih36 (i35 + 4) B61 _ _ _ (by omega) (by omega) (fun j h16 h17 => (hB62 j h16 h17)) (show by8 (B61 12) from y63) (show by8 (B61 17) from y64) (show by8 (B61 16) from y65)  Y (lv_sub hl [0, 2, 3] rfl)
                | succ n57 ih59 =>
                  intro i58 B61 H locs ls hii58 hsi58 hB62 y63 y64 y65  Y hl
                  refine lv_iload_n X.1 X.2.1 d_cover_65 rfl (lv_at hl 0 rfl) ?_
                  refine lv_iconst (v := (nI 4)) X.1 X.2.1 d_cover_66 (by decide) ?_
                  refine lv_icmp_ge (tgt := 161) X.1 X.2.1 d_cover_67 (by decide) (fun c67 => absurd c67 ?_) (fun c67 => ?_)
                  · (rw [nI_leI (by omega) (by omega)] <;> omega)
                  rw [nI_leI (by omega) (by omega)] at c67
                  refine lv_aload_n X.1 X.2.1 d_cover_70 rfl (lv_at hl 3 rfl) ?_
                  refine m_get X Y 17 (by decide) lk_other (gf_other _ _ _) rfl d_cover_71 ?_
                  refine lv_iload_n X.1 X.2.1 d_cover_74 rfl (lv_at hl 1 rfl) ?_
                  refine lv_iload_n X.1 X.2.1 d_cover_75 rfl (lv_at hl 0 rfl) ?_
                  refine lv_iadd X.1 X.2.1 d_cover_76 ?_
                  refine t_eq (y := nI (i35 + i58)) (nI_add _ _) ?_
                  refine m_iald X Y (aw_other _ _ _ _ _ _ _) (vp_in_nI (by omega) (by decide)) d_cover_77 ?_
                  obtain ⟨j68, hj68, ej68⟩ := y64 ((nI (i35 + i58))).toNatClampNeg
                  refine t_eq (show B61 17 ((nI (i35 + i58))).toNatClampNeg = nI j68 from ej68) ?_
                  refine lv_istore (lv' := [(4, .int (nI j68)), (3, .int (nI i58)), (2, .int (nI i35)), (1, .int (nI i14)), (0, .ref h)]) X.1 X.2.1 d_cover_78 hl (by decide) rfl (fun ls hl => ?_)
                  refine lv_aload_n X.1 X.2.1 d_cover_80 rfl (lv_at hl 4 rfl) ?_
                  refine m_get X Y 17 (by decide) lk_other (gf_other _ _ _) rfl d_cover_81 ?_
                  refine lv_iload_n X.1 X.2.1 d_cover_84 rfl (lv_at hl 2 rfl) ?_
                  refine lv_iload_n X.1 X.2.1 d_cover_85 rfl (lv_at hl 1 rfl) ?_
                  refine lv_iconst (v := (nI 1)) X.1 X.2.1 d_cover_86 (by decide) ?_
                  refine lv_iadd X.1 X.2.1 d_cover_87 ?_
                  refine t_eq (y := nI (i58 + 1)) (nI_add _ _) ?_
                  refine lv_iconst (v := (nI 4)) X.1 X.2.1 d_cover_88 (by decide) ?_
                  refine lv_irem X.1 X.2.1 d_cover_89 (nI_ne0 (by omega) (by omega)) ?_
                  refine t_eq (y := nI ((i58 + 1) % (4))) (pk_rem (by omega) (by omega) (by omega)) ?_
                  refine lv_iadd X.1 X.2.1 d_cover_90 ?_
                  refine t_eq (y := nI (i35 + (i58 + 1) % (4))) (nI_add _ _) ?_
                  refine m_iald X Y (aw_other _ _ _ _ _ _ _) (vp_in_nI (by omega) (by decide)) d_cover_91 ?_
                  obtain ⟨j69, hj69, ej69⟩ := y64 ((nI (i35 + (i58 + 1) % (4)))).toNatClampNeg
                  refine t_eq (show B61 17 ((nI (i35 + (i58 + 1) % (4)))).toNatClampNeg = nI j69 from ej69) ?_
                  refine lv_istore (lv' := [(5, .int (nI j69)), (4, .int (nI j68)), (3, .int (nI i58)), (2, .int (nI i35)), (1, .int (nI i14)), (0, .ref h)]) X.1 X.2.1 d_cover_92 hl (by decide) rfl (fun ls hl => ?_)
                  refine lv_aload_n X.1 X.2.1 d_cover_94 rfl (lv_at hl 5 rfl) ?_
                  refine m_get X Y 16 (by decide) lk_state (gf_state _ _ _) rfl d_cover_95 ?_
                  refine lv_iload_n X.1 X.2.1 d_cover_98 rfl (lv_at hl 3 rfl) ?_
                  refine lv_iload_n X.1 X.2.1 d_cover_99 rfl (lv_at hl 2 rfl) ?_
                  refine lv_iadd X.1 X.2.1 d_cover_100 ?_
                  refine t_eq (y := nI (i35 + i58)) (nI_add _ _) ?_
                  have jn71 : ∀ (w70 : Nat) (H : Heap) (locs : List Loc), w70 < 256 → mH D E (mA E h q sz) s.heap h q I J B61 G H locs → W p l e (mR 1 22) s m AV below meth c H locs 0 0 QQ (F0 m 154 ls [.int (nI w70), .int (nI (i35 + i58)), .ref (q 16)]) := by
                    intro w70 H locs hw70 Y
                    refine m_iast X Y (aw_state _ _ _ _ _ _ _) (vp_in_nI (by omega) (by decide)) (sw_state _ _ _ _ _ _ _ _) d_cover_154 (fun H locs Y => ?_)
                    have y73 : by8 (upd (B61 16) ((nI (i35 + i58))).toNatClampNeg (nI w70)) := by8_upd y65 (show w70 < 256 by omega)
                    generalize (upd (B61 16) ((nI (i35 + i58))).toNatClampNeg (nI w70)) = f72 at Y y73
                    refine lv_iinc (v := (nI (i58 + 1))) (lv' := [(3, .int (nI (i58 + 1))), (5, .int (nI j69)), (4, .int (nI j68)), (2, .int (nI i35)), (1, .int (nI i14)), (0, .ref h)]) X.1 X.2.1 d_cover_155 hl (k := 2) rfl (nI_add _ 1) (by decide) rfl (fun ls hl => ?_)
                    refine lv_goto (tgt := 65) X.1 X.2.1 d_cover_158 (by decide) ?_
                    exact ih59 (i58 + 1) (upB B61 16 f72) _ _ _ (by omega) (by omega) (fun j h16 h17 => ((if_neg h16).trans (hB62 j h16 h17))) (show by8 ((upB B61 16 f72) 12) from y63) (show by8 ((upB B61 16 f72) 17) from y64) (show by8 ((upB B61 16 f72) 16) from y73)  Y (lv_sub hl [0, 3, 4, 5] rfl)
                  refine lv_iload_n X.1 X.2.1 d_cover_101 rfl (lv_at hl 4 rfl) ?_
                  refine lv_aload_n X.1 X.2.1 d_cover_102 rfl (lv_at hl 5 rfl) ?_
                  refine m_get X Y 18 (by decide) lk_rounds (gf_rounds _ _ _) rfl d_cover_103 ?_
                  refine t_eq (show I 18 = nI (rd) from hrd) ?_
                  refine lv_icmp_ne (tgt := 114) X.1 X.2.1 d_cover_106 (by decide) (fun c74 => ?_) (fun c74 => ?_)
                  · skip
                    rw [nI_eq (by omega) (by omega)] at c74
                    refine lv_iload X.1 X.2.1 d_cover_114 (lv_at hl 1 rfl) ?_
                    refine p_calli (As := [.int (nI j68)]) (rest := [.int (nI (i35 + i58)), .ref (q 16)]) (n := 1) X Y hml hl.1 (c_twice l (nI j68)) kl_twice ks_twice ki_twice ini_M (by decide +kernel) ⟨by decide, by decide⟩ rfl (Nat.le_of_ble_eq_true rfl) d_cover_116 ⟨Nat.le_refl _, Nat.le_refl _⟩ (fun r75 H locs hpr75 Y => ?_)
                    obtain ⟨j76, hj76, ej76⟩ := hpr75
                    refine t_eq ej76 ?_
                    refine lv_iload X.1 X.2.1 d_cover_119 (lv_at hl 0 rfl) ?_
                    refine p_calli (As := [.int (nI j69)]) (rest := [.int (nI j76), .int (nI (i35 + i58)), .ref (q 16)]) (n := 1) X Y hml hl.1 (c_twice l (nI j69)) kl_twice ks_twice ki_twice ini_M (by decide +kernel) ⟨by decide, by decide⟩ rfl (Nat.le_of_ble_eq_true rfl) d_cover_121 ⟨Nat.le_refl _, Nat.le_refl _⟩ (fun r77 H locs hpr77 Y => ?_)
                    obtain ⟨j78, hj78, ej78⟩ := hpr77
                    refine t_eq ej78 ?_
                    refine lv_ixor X.1 X.2.1 d_cover_124 ?_
                    obtain ⟨j79, hj79, ej79⟩ := by_ixor (a := j76) (b := j78) (by omega) (by omega)
                    refine t_eq ej79 ?_
                    refine lv_iload X.1 X.2.1 d_cover_125 (lv_at hl 0 rfl) ?_
                    refine lv_ixor X.1 X.2.1 d_cover_127 ?_
                    obtain ⟨j80, hj80, ej80⟩ := by_ixor (a := j79) (b := j69) (by omega) (by omega)
                    refine t_eq ej80 ?_
                    refine lv_aload_n X.1 X.2.1 d_cover_128 rfl (lv_at hl 5 rfl) ?_
                    refine m_get X Y 17 (by decide) lk_other (gf_other _ _ _) rfl d_cover_129 ?_
                    refine lv_iload_n X.1 X.2.1 d_cover_132 rfl (lv_at hl 3 rfl) ?_
                    refine lv_iload_n X.1 X.2.1 d_cover_133 rfl (lv_at hl 2 rfl) ?_
                    refine lv_iconst (v := (nI 2)) X.1 X.2.1 d_cover_134 (by decide) ?_
                    refine lv_iadd X.1 X.2.1 d_cover_135 ?_
                    refine t_eq (y := nI (i58 + 2)) (nI_add _ _) ?_
                    refine lv_iconst (v := (nI 4)) X.1 X.2.1 d_cover_136 (by decide) ?_
                    refine lv_irem X.1 X.2.1 d_cover_137 (nI_ne0 (by omega) (by omega)) ?_
                    refine t_eq (y := nI ((i58 + 2) % (4))) (pk_rem (by omega) (by omega) (by omega)) ?_
                    refine lv_iadd X.1 X.2.1 d_cover_138 ?_
                    refine t_eq (y := nI (i35 + (i58 + 2) % (4))) (nI_add _ _) ?_
                    refine m_iald X Y (aw_other _ _ _ _ _ _ _) (vp_in_nI (by omega) (by decide)) d_cover_139 ?_
                    obtain ⟨j81, hj81, ej81⟩ := y64 ((nI (i35 + (i58 + 2) % (4)))).toNatClampNeg
                    refine t_eq (show B61 17 ((nI (i35 + (i58 + 2) % (4)))).toNatClampNeg = nI j81 from ej81) ?_
                    refine lv_ixor X.1 X.2.1 d_cover_140 ?_
                    obtain ⟨j82, hj82, ej82⟩ := by_ixor (a := j80) (b := j81) (by omega) (by omega)
                    refine t_eq ej82 ?_
                    refine lv_aload_n X.1 X.2.1 d_cover_141 rfl (lv_at hl 5 rfl) ?_
                    refine m_get X Y 17 (by decide) lk_other (gf_other _ _ _) rfl d_cover_142 ?_
                    refine lv_iload_n X.1 X.2.1 d_cover_145 rfl (lv_at hl 3 rfl) ?_
                    refine lv_iload_n X.1 X.2.1 d_cover_146 rfl (lv_at hl 2 rfl) ?_
                    refine lv_iconst (v := (nI 3)) X.1 X.2.1 d_cover_147 (by decide) ?_
                    refine lv_iadd X.1 X.2.1 d_cover_148 ?_
                    refine t_eq (y := nI (i58 + 3)) (nI_add _ _) ?_
                    refine lv_iconst (v := (nI 4)) X.1 X.2.1 d_cover_149 (by decide) ?_
                    refine lv_irem X.1 X.2.1 d_cover_150 (nI_ne0 (by omega) (by omega)) ?_
                    refine t_eq (y := nI ((i58 + 3) % (4))) (pk_rem (by omega) (by omega) (by omega)) ?_
                    refine lv_iadd X.1 X.2.1 d_cover_151 ?_
                    refine t_eq (y := nI (i35 + (i58 + 3) % (4))) (nI_add _ _) ?_
                    refine m_iald X Y (aw_other _ _ _ _ _ _ _) (vp_in_nI (by omega) (by decide)) d_cover_152 ?_
                    obtain ⟨j83, hj83, ej83⟩ := y64 ((nI (i35 + (i58 + 3) % (4)))).toNatClampNeg
                    refine t_eq (show B61 17 ((nI (i35 + (i58 + 3) % (4)))).toNatClampNeg = nI j83 from ej83) ?_
                    refine lv_ixor X.1 X.2.1 d_cover_153 ?_
                    obtain ⟨j84, hj84, ej84⟩ := by_ixor (a := j82) (b := j83) (by omega) (by omega)
                    refine t_eq ej84 ?_
                    exact jn71 _ _ _ (show j84 < 256 by omega) Y
                  · skip
                    rw [nI_eq (by omega) (by omega)] at c74
                    refine lv_iload X.1 X.2.1 d_cover_109 (lv_at hl 1 rfl) ?_
                    refine lv_goto (tgt := 154) X.1 X.2.1 d_cover_111 (by decide) ?_
                    exact jn71 _ _ _ (show j68 < 256 by omega) Y
              exact lp60 (4) 0 B38 _ _ _ (by omega) (by omega) (fun j h16 h17 => (hB39 j h16 h17)) (show by8 (B38 12) from y40) (show by8 (B38 17) from y41) (show by8 (B38 16) from y42)  Y (lv_sub hl [0, 1, 2, 3] rfl)
          exact lp37 ((16) / 4) 0 B28 _ _ _ (by omega) (by omega) (fun j h16 h17 => (hB29 j h16 h17)) (show by8 (B28 12) from y30) (show by8 (B28 17) from y31) (show by8 (B28 16) from y32)  Y (lv_sub hl [0, 1, 2] rfl)
        | succ n24 ih26 =>
          intro i25 B28 H locs ls hii25 hsi25 hB29 y30 y31 y32  Y hl
          refine lv_iload_n X.1 X.2.1 d_cover_17 rfl (lv_at hl 0 rfl) ?_
          refine lv_bipush (v := (nI 16)) X.1 X.2.1 d_cover_18 (by decide) ?_
          refine lv_icmp_ge (tgt := 55) X.1 X.2.1 d_cover_20 (by decide) (fun c85 => absurd c85 ?_) (fun c85 => ?_)
          · (rw [nI_leI (by omega) (by omega)] <;> omega)
          rw [nI_leI (by omega) (by omega)] at c85
          refine lv_aload_n X.1 X.2.1 d_cover_23 rfl (lv_at hl 2 rfl) ?_
          refine m_get X Y 17 (by decide) lk_other (gf_other _ _ _) rfl d_cover_24 ?_
          refine lv_iload_n X.1 X.2.1 d_cover_27 rfl (lv_at hl 0 rfl) ?_
          refine lv_aload_n X.1 X.2.1 d_cover_28 rfl (lv_at hl 2 rfl) ?_
          refine m_get X Y 12 (by decide) lk_box (gf_box _ _ _) rfl d_cover_29 ?_
          refine lv_aload_n X.1 X.2.1 d_cover_32 rfl (lv_at hl 2 rfl) ?_
          refine m_get X Y 16 (by decide) lk_state (gf_state _ _ _) rfl d_cover_33 ?_
          refine lv_iload_n X.1 X.2.1 d_cover_36 rfl (lv_at hl 0 rfl) ?_
          refine lv_iconst (v := (nI 4)) X.1 X.2.1 d_cover_37 (by decide) ?_
          refine lv_iload_n X.1 X.2.1 d_cover_38 rfl (lv_at hl 0 rfl) ?_
          refine lv_iconst (v := (nI 4)) X.1 X.2.1 d_cover_39 (by decide) ?_
          refine lv_irem X.1 X.2.1 d_cover_40 (nI_ne0 (by omega) (by omega)) ?_
          refine t_eq (y := nI ((i25) % (4))) (pk_rem (by omega) (by omega) (by omega)) ?_
          refine lv_imul X.1 X.2.1 d_cover_41 ?_
          refine t_eq (y := nI ((4) * ((i25) % (4)))) (pk_mul _ _) ?_
          refine lv_iadd X.1 X.2.1 d_cover_42 ?_
          refine t_eq (y := nI (i25 + (4) * ((i25) % (4)))) (nI_add _ _) ?_
          refine lv_bipush (v := (nI 16)) X.1 X.2.1 d_cover_43 (by decide) ?_
          refine lv_irem X.1 X.2.1 d_cover_45 (nI_ne0 (by omega) (by omega)) ?_
          refine t_eq (y := nI ((i25 + (4) * ((i25) % (4))) % (16))) (pk_rem (by omega) (by omega) (by omega)) ?_
          refine m_iald X Y (aw_state _ _ _ _ _ _ _) (vp_in_nI (by omega) (by decide)) d_cover_46 ?_
          obtain ⟨j86, hj86, ej86⟩ := y32 ((nI ((i25 + (4) * ((i25) % (4))) % (16)))).toNatClampNeg
          refine t_eq (show B28 16 ((nI ((i25 + (4) * ((i25) % (4))) % (16)))).toNatClampNeg = nI j86 from ej86) ?_
          refine m_iald X Y (aw_box _ _ _ _ _ _ _) (vp_in_nI (by omega) (by decide)) d_cover_47 ?_
          obtain ⟨j87, hj87, ej87⟩ := y30 ((nI j86)).toNatClampNeg
          refine t_eq (show B28 12 ((nI j86)).toNatClampNeg = nI j87 from ej87) ?_
          refine m_iast X Y (aw_other _ _ _ _ _ _ _) (vp_in_nI (by omega) (by decide)) (sw_other _ _ _ _ _ _ _ _) d_cover_48 (fun H locs Y => ?_)
          have y89 : by8 (upd (B28 17) ((nI i25)).toNatClampNeg (nI j87)) := by8_upd y31 (show j87 < 256 by omega)
          generalize (upd (B28 17) ((nI i25)).toNatClampNeg (nI j87)) = f88 at Y y89
          refine lv_iinc (v := (nI (i25 + 1))) (lv' := [(2, .int (nI (i25 + 1))), (1, .int (nI i14)), (0, .ref h)]) X.1 X.2.1 d_cover_49 hl (k := 0) rfl (nI_add _ 1) (by decide) rfl (fun ls hl => ?_)
          refine lv_goto (tgt := 17) X.1 X.2.1 d_cover_52 (by decide) ?_
          exact ih26 (i25 + 1) (upB B28 17 f88) _ _ _ (by omega) (by omega) (fun j h16 h17 => ((if_neg h17).trans (hB29 j h16 h17))) (show by8 ((upB B28 17 f88) 12) from y30) (show by8 ((upB B28 17 f88) 17) from y89) (show by8 ((upB B28 17 f88) 16) from y32)  Y (lv_sub hl [0, 1, 2] rfl)
      exact lp27 (16) 0 B17 _ _ _ (by omega) (by omega) (fun j h16 h17 => (hB18 j h16 h17)) (show by8 (B17 12) from y19) (show by8 (B17 17) from y20) (show by8 (B17 16) from y21)  Y (lv_sub hl [0, 1, 2] rfl)
  exact lp16 (rd + 1 - 1) 1 B3 _ _ _ (by omega) (by omega) (fun j h16 h17 => (hB12 j h16 h17)) (show by8 (B3 12) from (by8_eq (hB6 12 (by decide)) y12)) (show by8 (B3 17) from (by8_eq (hB6 17 (by decide)) y17)) (show by8 (B3 16) from y10)  Y (lv_sub hl [0, 1] rfl)
end
section
abbrev b_foldOf : ByteArray := prog_14_method_23_code
def y_foldOf : MethodName := ⟨R_M, "foldOf", "([BI)V"⟩
abbrev k_foldOf : Cond := .code y_foldOf b_foldOf 11 none
theorem ki_foldOf : k_foldOf ∈ lw_tg := in_t 1845 (by decide +kernel)
theorem ks_foldOf : Cond.instanceMethod y_foldOf ∈ lw_tg := in_t 1844 (by decide +kernel)
theorem kl_foldOf : Cond.methodLink R_M 404 y_foldOf ∈ lw_tg := in_t 1842 (by decide +kernel)
theorem d_foldOf_0 : decode b_foldOf 0 = .ok (.iload_n 2, 1) := by decide +kernel
theorem d_foldOf_1 : decode b_foldOf 1 = .ok (.istore_n 3, 1) := by decide +kernel
theorem d_foldOf_2 : decode b_foldOf 2 = .ok (.iload_n 3, 1) := by decide +kernel
theorem d_foldOf_3 : decode b_foldOf 3 = .ok (.bipush 16, 2) := by decide +kernel
theorem d_foldOf_5 : decode b_foldOf 5 = .ok (.irem, 1) := by decide +kernel
theorem d_foldOf_6 : decode b_foldOf 6 = .ok (.ifCond .eq 10, 3) := by decide +kernel
theorem d_foldOf_9 : decode b_foldOf 9 = .ok (.iload_n 3, 1) := by decide +kernel
theorem d_foldOf_10 : decode b_foldOf 10 = .ok (.iload_n 2, 1) := by decide +kernel
theorem d_foldOf_11 : decode b_foldOf 11 = .ok (.iadd, 1) := by decide +kernel
theorem d_foldOf_12 : decode b_foldOf 12 = .ok (.istore_n 3, 1) := by decide +kernel
theorem d_foldOf_13 : decode b_foldOf 13 = .ok (.goto (-11), 3) := by decide +kernel
theorem d_foldOf_16 : decode b_foldOf 16 = .ok (.aload_n 0, 1) := by decide +kernel
theorem d_foldOf_17 : decode b_foldOf 17 = .ok (.getfield 62, 3) := by decide +kernel
theorem d_foldOf_20 : decode b_foldOf 20 = .ok (.astore 4, 2) := by decide +kernel
theorem d_foldOf_22 : decode b_foldOf 22 = .ok (.iconst 0, 1) := by decide +kernel
theorem d_foldOf_23 : decode b_foldOf 23 = .ok (.istore 5, 2) := by decide +kernel
theorem d_foldOf_25 : decode b_foldOf 25 = .ok (.iload 5, 2) := by decide +kernel
theorem d_foldOf_27 : decode b_foldOf 27 = .ok (.bipush 16, 2) := by decide +kernel
theorem d_foldOf_29 : decode b_foldOf 29 = .ok (.if_icmp .ge 15, 3) := by decide +kernel
theorem d_foldOf_32 : decode b_foldOf 32 = .ok (.aload 4, 2) := by decide +kernel
theorem d_foldOf_34 : decode b_foldOf 34 = .ok (.iload 5, 2) := by decide +kernel
theorem d_foldOf_36 : decode b_foldOf 36 = .ok (.iconst 0, 1) := by decide +kernel
theorem d_foldOf_37 : decode b_foldOf 37 = .ok (.iastore, 1) := by decide +kernel
theorem d_foldOf_38 : decode b_foldOf 38 = .ok (.iinc 5 1, 3) := by decide +kernel
theorem d_foldOf_41 : decode b_foldOf 41 = .ok (.goto (-16), 3) := by decide +kernel
theorem d_foldOf_44 : decode b_foldOf 44 = .ok (.iconst 0, 1) := by decide +kernel
theorem d_foldOf_45 : decode b_foldOf 45 = .ok (.istore 5, 2) := by decide +kernel
theorem d_foldOf_47 : decode b_foldOf 47 = .ok (.iload 5, 2) := by decide +kernel
theorem d_foldOf_49 : decode b_foldOf 49 = .ok (.iload_n 3, 1) := by decide +kernel
theorem d_foldOf_50 : decode b_foldOf 50 = .ok (.if_icmp .ge 109, 3) := by decide +kernel
theorem d_foldOf_53 : decode b_foldOf 53 = .ok (.iload 5, 2) := by decide +kernel
theorem d_foldOf_55 : decode b_foldOf 55 = .ok (.iload_n 2, 1) := by decide +kernel
theorem d_foldOf_56 : decode b_foldOf 56 = .ok (.idiv, 1) := by decide +kernel
theorem d_foldOf_57 : decode b_foldOf 57 = .ok (.istore 6, 2) := by decide +kernel
theorem d_foldOf_59 : decode b_foldOf 59 = .ok (.bipush 13, 2) := by decide +kernel
theorem d_foldOf_61 : decode b_foldOf 61 = .ok (.iload 6, 2) := by decide +kernel
theorem d_foldOf_63 : decode b_foldOf 63 = .ok (.imul, 1) := by decide +kernel
theorem d_foldOf_64 : decode b_foldOf 64 = .ok (.bipush 8, 2) := by decide +kernel
theorem d_foldOf_66 : decode b_foldOf 66 = .ok (.iload_n 2, 1) := by decide +kernel
theorem d_foldOf_67 : decode b_foldOf 67 = .ok (.imul, 1) := by decide +kernel
theorem d_foldOf_68 : decode b_foldOf 68 = .ok (.irem, 1) := by decide +kernel
theorem d_foldOf_69 : decode b_foldOf 69 = .ok (.istore 7, 2) := by decide +kernel
theorem d_foldOf_71 : decode b_foldOf 71 = .ok (.iconst 0, 1) := by decide +kernel
theorem d_foldOf_72 : decode b_foldOf 72 = .ok (.istore 8, 2) := by decide +kernel
theorem d_foldOf_74 : decode b_foldOf 74 = .ok (.iconst 0, 1) := by decide +kernel
theorem d_foldOf_75 : decode b_foldOf 75 = .ok (.istore 9, 2) := by decide +kernel
theorem d_foldOf_77 : decode b_foldOf 77 = .ok (.iload 9, 2) := by decide +kernel
theorem d_foldOf_79 : decode b_foldOf 79 = .ok (.bipush 8, 2) := by decide +kernel
theorem d_foldOf_81 : decode b_foldOf 81 = .ok (.if_icmp .ge 59, 3) := by decide +kernel
theorem d_foldOf_84 : decode b_foldOf 84 = .ok (.bipush 8, 2) := by decide +kernel
theorem d_foldOf_86 : decode b_foldOf 86 = .ok (.iload 5, 2) := by decide +kernel
theorem d_foldOf_88 : decode b_foldOf 88 = .ok (.iload_n 2, 1) := by decide +kernel
theorem d_foldOf_89 : decode b_foldOf 89 = .ok (.irem, 1) := by decide +kernel
theorem d_foldOf_90 : decode b_foldOf 90 = .ok (.imul, 1) := by decide +kernel
theorem d_foldOf_91 : decode b_foldOf 91 = .ok (.iload 9, 2) := by decide +kernel
theorem d_foldOf_93 : decode b_foldOf 93 = .ok (.iadd, 1) := by decide +kernel
theorem d_foldOf_94 : decode b_foldOf 94 = .ok (.iload 7, 2) := by decide +kernel
theorem d_foldOf_96 : decode b_foldOf 96 = .ok (.isub, 1) := by decide +kernel
theorem d_foldOf_97 : decode b_foldOf 97 = .ok (.bipush 8, 2) := by decide +kernel
theorem d_foldOf_99 : decode b_foldOf 99 = .ok (.iload_n 2, 1) := by decide +kernel
theorem d_foldOf_100 : decode b_foldOf 100 = .ok (.imul, 1) := by decide +kernel
theorem d_foldOf_101 : decode b_foldOf 101 = .ok (.iadd, 1) := by decide +kernel
theorem d_foldOf_102 : decode b_foldOf 102 = .ok (.bipush 8, 2) := by decide +kernel
theorem d_foldOf_104 : decode b_foldOf 104 = .ok (.iload_n 2, 1) := by decide +kernel
theorem d_foldOf_105 : decode b_foldOf 105 = .ok (.imul, 1) := by decide +kernel
theorem d_foldOf_106 : decode b_foldOf 106 = .ok (.irem, 1) := by decide +kernel
theorem d_foldOf_107 : decode b_foldOf 107 = .ok (.istore 10, 2) := by decide +kernel
theorem d_foldOf_109 : decode b_foldOf 109 = .ok (.iload 8, 2) := by decide +kernel
theorem d_foldOf_111 : decode b_foldOf 111 = .ok (.iconst 1, 1) := by decide +kernel
theorem d_foldOf_112 : decode b_foldOf 112 = .ok (.ishl, 1) := by decide +kernel
theorem d_foldOf_113 : decode b_foldOf 113 = .ok (.aload_n 1, 1) := by decide +kernel
theorem d_foldOf_114 : decode b_foldOf 114 = .ok (.iload 10, 2) := by decide +kernel
theorem d_foldOf_116 : decode b_foldOf 116 = .ok (.bipush 8, 2) := by decide +kernel
theorem d_foldOf_118 : decode b_foldOf 118 = .ok (.idiv, 1) := by decide +kernel
theorem d_foldOf_119 : decode b_foldOf 119 = .ok (.baload, 1) := by decide +kernel
theorem d_foldOf_120 : decode b_foldOf 120 = .ok (.bipush 7, 2) := by decide +kernel
theorem d_foldOf_122 : decode b_foldOf 122 = .ok (.iload 10, 2) := by decide +kernel
theorem d_foldOf_124 : decode b_foldOf 124 = .ok (.bipush 8, 2) := by decide +kernel
theorem d_foldOf_126 : decode b_foldOf 126 = .ok (.irem, 1) := by decide +kernel
theorem d_foldOf_127 : decode b_foldOf 127 = .ok (.isub, 1) := by decide +kernel
theorem d_foldOf_128 : decode b_foldOf 128 = .ok (.ishr, 1) := by decide +kernel
theorem d_foldOf_129 : decode b_foldOf 129 = .ok (.iconst 1, 1) := by decide +kernel
theorem d_foldOf_130 : decode b_foldOf 130 = .ok (.iand, 1) := by decide +kernel
theorem d_foldOf_131 : decode b_foldOf 131 = .ok (.ior, 1) := by decide +kernel
theorem d_foldOf_132 : decode b_foldOf 132 = .ok (.istore 8, 2) := by decide +kernel
theorem d_foldOf_134 : decode b_foldOf 134 = .ok (.iinc 9 1, 3) := by decide +kernel
theorem d_foldOf_137 : decode b_foldOf 137 = .ok (.goto (-60), 3) := by decide +kernel
theorem d_foldOf_140 : decode b_foldOf 140 = .ok (.aload 4, 2) := by decide +kernel
theorem d_foldOf_142 : decode b_foldOf 142 = .ok (.iload 5, 2) := by decide +kernel
theorem d_foldOf_144 : decode b_foldOf 144 = .ok (.bipush 16, 2) := by decide +kernel
theorem d_foldOf_146 : decode b_foldOf 146 = .ok (.irem, 1) := by decide +kernel
theorem d_foldOf_147 : decode b_foldOf 147 = .ok (.dup2, 1) := by decide +kernel
theorem d_foldOf_148 : decode b_foldOf 148 = .ok (.iaload, 1) := by decide +kernel
theorem d_foldOf_149 : decode b_foldOf 149 = .ok (.iload 8, 2) := by decide +kernel
theorem d_foldOf_151 : decode b_foldOf 151 = .ok (.iadd, 1) := by decide +kernel
theorem d_foldOf_152 : decode b_foldOf 152 = .ok (.iastore, 1) := by decide +kernel
theorem d_foldOf_153 : decode b_foldOf 153 = .ok (.iinc 5 1, 3) := by decide +kernel
theorem d_foldOf_156 : decode b_foldOf 156 = .ok (.goto (-109), 3) := by decide +kernel
theorem d_foldOf_159 : decode b_foldOf 159 = .ok (.iconst 0, 1) := by decide +kernel
theorem d_foldOf_160 : decode b_foldOf 160 = .ok (.istore 5, 2) := by decide +kernel
theorem d_foldOf_162 : decode b_foldOf 162 = .ok (.iload 5, 2) := by decide +kernel
theorem d_foldOf_164 : decode b_foldOf 164 = .ok (.bipush 40, 2) := by decide +kernel
theorem d_foldOf_166 : decode b_foldOf 166 = .ok (.if_icmp .ge 65, 3) := by decide +kernel
theorem d_foldOf_169 : decode b_foldOf 169 = .ok (.iconst 0, 1) := by decide +kernel
theorem d_foldOf_170 : decode b_foldOf 170 = .ok (.istore 6, 2) := by decide +kernel
theorem d_foldOf_172 : decode b_foldOf 172 = .ok (.bipush 15, 2) := by decide +kernel
theorem d_foldOf_174 : decode b_foldOf 174 = .ok (.istore 7, 2) := by decide +kernel
theorem d_foldOf_176 : decode b_foldOf 176 = .ok (.iload 7, 2) := by decide +kernel
theorem d_foldOf_178 : decode b_foldOf 178 = .ok (.ifCond .lt 37, 3) := by decide +kernel
theorem d_foldOf_181 : decode b_foldOf 181 = .ok (.aload 4, 2) := by decide +kernel
theorem d_foldOf_183 : decode b_foldOf 183 = .ok (.iload 7, 2) := by decide +kernel
theorem d_foldOf_185 : decode b_foldOf 185 = .ok (.iaload, 1) := by decide +kernel
theorem d_foldOf_186 : decode b_foldOf 186 = .ok (.iload 6, 2) := by decide +kernel
theorem d_foldOf_188 : decode b_foldOf 188 = .ok (.iadd, 1) := by decide +kernel
theorem d_foldOf_189 : decode b_foldOf 189 = .ok (.istore 8, 2) := by decide +kernel
theorem d_foldOf_191 : decode b_foldOf 191 = .ok (.aload 4, 2) := by decide +kernel
theorem d_foldOf_193 : decode b_foldOf 193 = .ok (.iload 7, 2) := by decide +kernel
theorem d_foldOf_195 : decode b_foldOf 195 = .ok (.iload 8, 2) := by decide +kernel
theorem d_foldOf_197 : decode b_foldOf 197 = .ok (.sipush 255, 3) := by decide +kernel
theorem d_foldOf_200 : decode b_foldOf 200 = .ok (.iand, 1) := by decide +kernel
theorem d_foldOf_201 : decode b_foldOf 201 = .ok (.iastore, 1) := by decide +kernel
theorem d_foldOf_202 : decode b_foldOf 202 = .ok (.iload 8, 2) := by decide +kernel
theorem d_foldOf_204 : decode b_foldOf 204 = .ok (.bipush 8, 2) := by decide +kernel
theorem d_foldOf_206 : decode b_foldOf 206 = .ok (.ishr, 1) := by decide +kernel
theorem d_foldOf_207 : decode b_foldOf 207 = .ok (.istore 6, 2) := by decide +kernel
theorem d_foldOf_209 : decode b_foldOf 209 = .ok (.iinc 7 (-1), 3) := by decide +kernel
theorem d_foldOf_212 : decode b_foldOf 212 = .ok (.goto (-36), 3) := by decide +kernel
theorem d_foldOf_215 : decode b_foldOf 215 = .ok (.aload 4, 2) := by decide +kernel
theorem d_foldOf_217 : decode b_foldOf 217 = .ok (.bipush 15, 2) := by decide +kernel
theorem d_foldOf_219 : decode b_foldOf 219 = .ok (.dup2, 1) := by decide +kernel
theorem d_foldOf_220 : decode b_foldOf 220 = .ok (.iaload, 1) := by decide +kernel
theorem d_foldOf_221 : decode b_foldOf 221 = .ok (.iload 6, 2) := by decide +kernel
theorem d_foldOf_223 : decode b_foldOf 223 = .ok (.iadd, 1) := by decide +kernel
theorem d_foldOf_224 : decode b_foldOf 224 = .ok (.iastore, 1) := by decide +kernel
theorem d_foldOf_225 : decode b_foldOf 225 = .ok (.iinc 5 1, 3) := by decide +kernel
theorem d_foldOf_228 : decode b_foldOf 228 = .ok (.goto (-66), 3) := by decide +kernel
theorem d_foldOf_231 : decode b_foldOf 231 = .ok (.iconst 0, 1) := by decide +kernel
theorem d_foldOf_232 : decode b_foldOf 232 = .ok (.istore 5, 2) := by decide +kernel
theorem d_foldOf_234 : decode b_foldOf 234 = .ok (.iload 5, 2) := by decide +kernel
theorem d_foldOf_236 : decode b_foldOf 236 = .ok (.bipush 16, 2) := by decide +kernel
theorem d_foldOf_238 : decode b_foldOf 238 = .ok (.if_icmp .ge 22, 3) := by decide +kernel
theorem d_foldOf_241 : decode b_foldOf 241 = .ok (.aload_n 0, 1) := by decide +kernel
theorem d_foldOf_242 : decode b_foldOf 242 = .ok (.getfield 56, 3) := by decide +kernel
theorem d_foldOf_245 : decode b_foldOf 245 = .ok (.iload 5, 2) := by decide +kernel
theorem d_foldOf_247 : decode b_foldOf 247 = .ok (.aload 4, 2) := by decide +kernel
theorem d_foldOf_249 : decode b_foldOf 249 = .ok (.iload 5, 2) := by decide +kernel
theorem d_foldOf_251 : decode b_foldOf 251 = .ok (.iaload, 1) := by decide +kernel
theorem d_foldOf_252 : decode b_foldOf 252 = .ok (.i2b, 1) := by decide +kernel
theorem d_foldOf_253 : decode b_foldOf 253 = .ok (.bastore, 1) := by decide +kernel
theorem d_foldOf_254 : decode b_foldOf 254 = .ok (.iinc 5 1, 3) := by decide +kernel
theorem d_foldOf_257 : decode b_foldOf 257 = .ok (.goto (-23), 3) := by decide +kernel
theorem d_foldOf_260 : decode b_foldOf 260 = .ok (.return_, 1) := by decide +kernel
abbrev b_derive : ByteArray := prog_14_method_24_code
def y_derive : MethodName := ⟨R_M, "derive", "([BI[BI[B)V"⟩
abbrev k_derive : Cond := .code y_derive b_derive 8 none
theorem ki_derive : k_derive ∈ lw_tg := in_t 1841 (by decide +kernel)
theorem ks_derive : Cond.instanceMethod y_derive ∈ lw_tg := in_t 1840 (by decide +kernel)
theorem kl_derive : Cond.methodLink R_M 414 y_derive ∈ lw_tg := in_t 1838 (by decide +kernel)
theorem d_derive_0 : decode b_derive 0 = .ok (.aload_n 0, 1) := by decide +kernel
theorem d_derive_1 : decode b_derive 1 = .ok (.aload_n 3, 1) := by decide +kernel
theorem d_derive_2 : decode b_derive 2 = .ok (.iload 4, 2) := by decide +kernel
theorem d_derive_4 : decode b_derive 4 = .ok (.invokevirtual 404, 3) := by decide +kernel
theorem d_derive_7 : decode b_derive 7 = .ok (.aload_n 0, 1) := by decide +kernel
theorem d_derive_8 : decode b_derive 8 = .ok (.aload_n 1, 1) := by decide +kernel
theorem d_derive_9 : decode b_derive 9 = .ok (.iload_n 2, 1) := by decide +kernel
theorem d_derive_10 : decode b_derive 10 = .ok (.invokevirtual 408, 3) := by decide +kernel
theorem d_derive_13 : decode b_derive 13 = .ok (.iconst 0, 1) := by decide +kernel
theorem d_derive_14 : decode b_derive 14 = .ok (.istore 6, 2) := by decide +kernel
theorem d_derive_16 : decode b_derive 16 = .ok (.iload 6, 2) := by decide +kernel
theorem d_derive_18 : decode b_derive 18 = .ok (.bipush 16, 2) := by decide +kernel
theorem d_derive_20 : decode b_derive 20 = .ok (.if_icmp .ge 27, 3) := by decide +kernel
theorem d_derive_23 : decode b_derive 23 = .ok (.aload_n 0, 1) := by decide +kernel
theorem d_derive_24 : decode b_derive 24 = .ok (.getfield 50, 3) := by decide +kernel
theorem d_derive_27 : decode b_derive 27 = .ok (.iload 6, 2) := by decide +kernel
theorem d_derive_29 : decode b_derive 29 = .ok (.aload_n 0, 1) := by decide +kernel
theorem d_derive_30 : decode b_derive 30 = .ok (.getfield 56, 3) := by decide +kernel
theorem d_derive_33 : decode b_derive 33 = .ok (.iload 6, 2) := by decide +kernel
theorem d_derive_35 : decode b_derive 35 = .ok (.baload, 1) := by decide +kernel
theorem d_derive_36 : decode b_derive 36 = .ok (.sipush 255, 3) := by decide +kernel
theorem d_derive_39 : decode b_derive 39 = .ok (.iand, 1) := by decide +kernel
theorem d_derive_40 : decode b_derive 40 = .ok (.iastore, 1) := by decide +kernel
theorem d_derive_41 : decode b_derive 41 = .ok (.iinc 6 1, 3) := by decide +kernel
theorem d_derive_44 : decode b_derive 44 = .ok (.goto (-28), 3) := by decide +kernel
theorem d_derive_47 : decode b_derive 47 = .ok (.iconst 0, 1) := by decide +kernel
theorem d_derive_48 : decode b_derive 48 = .ok (.istore 6, 2) := by decide +kernel
theorem d_derive_50 : decode b_derive 50 = .ok (.iload 6, 2) := by decide +kernel
theorem d_derive_52 : decode b_derive 52 = .ok (.iload_n 2, 1) := by decide +kernel
theorem d_derive_53 : decode b_derive 53 = .ok (.if_icmp .ge 47, 3) := by decide +kernel
theorem d_derive_56 : decode b_derive 56 = .ok (.aload_n 0, 1) := by decide +kernel
theorem d_derive_57 : decode b_derive 57 = .ok (.invokevirtual 411, 3) := by decide +kernel
theorem d_derive_60 : decode b_derive 60 = .ok (.iconst 0, 1) := by decide +kernel
theorem d_derive_61 : decode b_derive 61 = .ok (.istore 7, 2) := by decide +kernel
theorem d_derive_63 : decode b_derive 63 = .ok (.iload 7, 2) := by decide +kernel
theorem d_derive_65 : decode b_derive 65 = .ok (.bipush 16, 2) := by decide +kernel
theorem d_derive_67 : decode b_derive 67 = .ok (.if_icmp .ge 27, 3) := by decide +kernel
theorem d_derive_70 : decode b_derive 70 = .ok (.aload_n 0, 1) := by decide +kernel
theorem d_derive_71 : decode b_derive 71 = .ok (.getfield 59, 3) := by decide +kernel
theorem d_derive_74 : decode b_derive 74 = .ok (.iload 6, 2) := by decide +kernel
theorem d_derive_76 : decode b_derive 76 = .ok (.iload 7, 2) := by decide +kernel
theorem d_derive_78 : decode b_derive 78 = .ok (.iadd, 1) := by decide +kernel
theorem d_derive_79 : decode b_derive 79 = .ok (.aload_n 0, 1) := by decide +kernel
theorem d_derive_80 : decode b_derive 80 = .ok (.getfield 50, 3) := by decide +kernel
theorem d_derive_83 : decode b_derive 83 = .ok (.iload 7, 2) := by decide +kernel
theorem d_derive_85 : decode b_derive 85 = .ok (.iaload, 1) := by decide +kernel
theorem d_derive_86 : decode b_derive 86 = .ok (.i2b, 1) := by decide +kernel
theorem d_derive_87 : decode b_derive 87 = .ok (.bastore, 1) := by decide +kernel
theorem d_derive_88 : decode b_derive 88 = .ok (.iinc 7 1, 3) := by decide +kernel
theorem d_derive_91 : decode b_derive 91 = .ok (.goto (-28), 3) := by decide +kernel
theorem d_derive_94 : decode b_derive 94 = .ok (.iinc 6 16, 3) := by decide +kernel
theorem d_derive_97 : decode b_derive 97 = .ok (.goto (-47), 3) := by decide +kernel
theorem d_derive_100 : decode b_derive 100 = .ok (.iconst 0, 1) := by decide +kernel
theorem d_derive_101 : decode b_derive 101 = .ok (.istore 6, 2) := by decide +kernel
theorem d_derive_103 : decode b_derive 103 = .ok (.iload 6, 2) := by decide +kernel
theorem d_derive_105 : decode b_derive 105 = .ok (.iload_n 2, 1) := by decide +kernel
theorem d_derive_106 : decode b_derive 106 = .ok (.if_icmp .ge 21, 3) := by decide +kernel
theorem d_derive_109 : decode b_derive 109 = .ok (.aload 5, 2) := by decide +kernel
theorem d_derive_111 : decode b_derive 111 = .ok (.iload 6, 2) := by decide +kernel
theorem d_derive_113 : decode b_derive 113 = .ok (.aload_n 0, 1) := by decide +kernel
theorem d_derive_114 : decode b_derive 114 = .ok (.getfield 59, 3) := by decide +kernel
theorem d_derive_117 : decode b_derive 117 = .ok (.iload 6, 2) := by decide +kernel
theorem d_derive_119 : decode b_derive 119 = .ok (.baload, 1) := by decide +kernel
theorem d_derive_120 : decode b_derive 120 = .ok (.bastore, 1) := by decide +kernel
theorem d_derive_121 : decode b_derive 121 = .ok (.iinc 6 1, 3) := by decide +kernel
theorem d_derive_124 : decode b_derive 124 = .ok (.goto (-21), 3) := by decide +kernel
theorem d_derive_127 : decode b_derive 127 = .ok (.return_, 1) := by decide +kernel
abbrev b_passwordKey : ByteArray := prog_14_method_26_code
def y_passwordKey : MethodName := ⟨R_M, "passwordKey", "(II[B)V"⟩
abbrev k_passwordKey : Cond := .code y_passwordKey b_passwordKey 7 none
theorem ki_passwordKey : k_passwordKey ∈ lw_tg := in_t 1800 (by decide +kernel)
theorem ks_passwordKey : Cond.instanceMethod y_passwordKey ∈ lw_tg := in_t 1799 (by decide +kernel)
theorem kl_passwordKey : Cond.methodLink R_M 626 y_passwordKey ∈ lw_tg := in_t 1797 (by decide +kernel)
theorem d_passwordKey_0 : decode b_passwordKey 0 = .ok (.iconst 0, 1) := by decide +kernel
theorem d_passwordKey_1 : decode b_passwordKey 1 = .ok (.istore 4, 2) := by decide +kernel
theorem d_passwordKey_3 : decode b_passwordKey 3 = .ok (.bipush 20, 2) := by decide +kernel
theorem d_passwordKey_5 : decode b_passwordKey 5 = .ok (.iload 4, 2) := by decide +kernel
theorem d_passwordKey_7 : decode b_passwordKey 7 = .ok (.imul, 1) := by decide +kernel
theorem d_passwordKey_8 : decode b_passwordKey 8 = .ok (.iload_n 1, 1) := by decide +kernel
theorem d_passwordKey_9 : decode b_passwordKey 9 = .ok (.if_icmp .ge 241, 3) := by decide +kernel
theorem d_passwordKey_12 : decode b_passwordKey 12 = .ok (.aload_n 0, 1) := by decide +kernel
theorem d_passwordKey_13 : decode b_passwordKey 13 = .ok (.aload_n 0, 1) := by decide +kernel
theorem d_passwordKey_14 : decode b_passwordKey 14 = .ok (.getfield 74, 3) := by decide +kernel
theorem d_passwordKey_17 : decode b_passwordKey 17 = .ok (.aload_n 0, 1) := by decide +kernel
theorem d_passwordKey_18 : decode b_passwordKey 18 = .ok (.getfield 418, 3) := by decide +kernel
theorem d_passwordKey_21 : decode b_passwordKey 21 = .ok (.invokevirtual 421, 3) := by decide +kernel
theorem d_passwordKey_24 : decode b_passwordKey 24 = .ok (.aload_n 0, 1) := by decide +kernel
theorem d_passwordKey_25 : decode b_passwordKey 25 = .ok (.invokevirtual 423, 3) := by decide +kernel
theorem d_passwordKey_28 : decode b_passwordKey 28 = .ok (.iconst 0, 1) := by decide +kernel
theorem d_passwordKey_29 : decode b_passwordKey 29 = .ok (.istore 5, 2) := by decide +kernel
theorem d_passwordKey_31 : decode b_passwordKey 31 = .ok (.iload 5, 2) := by decide +kernel
theorem d_passwordKey_33 : decode b_passwordKey 33 = .ok (.aload_n 0, 1) := by decide +kernel
theorem d_passwordKey_34 : decode b_passwordKey 34 = .ok (.getfield 426, 3) := by decide +kernel
theorem d_passwordKey_37 : decode b_passwordKey 37 = .ok (.if_icmp .ge 20, 3) := by decide +kernel
theorem d_passwordKey_40 : decode b_passwordKey 40 = .ok (.aload_n 0, 1) := by decide +kernel
theorem d_passwordKey_41 : decode b_passwordKey 41 = .ok (.aload_n 0, 1) := by decide +kernel
theorem d_passwordKey_42 : decode b_passwordKey 42 = .ok (.getfield 71, 3) := by decide +kernel
theorem d_passwordKey_45 : decode b_passwordKey 45 = .ok (.iload 5, 2) := by decide +kernel
theorem d_passwordKey_47 : decode b_passwordKey 47 = .ok (.baload, 1) := by decide +kernel
theorem d_passwordKey_48 : decode b_passwordKey 48 = .ok (.invokevirtual 370, 3) := by decide +kernel
theorem d_passwordKey_51 : decode b_passwordKey 51 = .ok (.iinc 5 1, 3) := by decide +kernel
theorem d_passwordKey_54 : decode b_passwordKey 54 = .ok (.goto (-23), 3) := by decide +kernel
theorem d_passwordKey_57 : decode b_passwordKey 57 = .ok (.iconst 0, 1) := by decide +kernel
theorem d_passwordKey_58 : decode b_passwordKey 58 = .ok (.istore 5, 2) := by decide +kernel
theorem d_passwordKey_60 : decode b_passwordKey 60 = .ok (.iload 5, 2) := by decide +kernel
theorem d_passwordKey_62 : decode b_passwordKey 62 = .ok (.iconst 4, 1) := by decide +kernel
theorem d_passwordKey_63 : decode b_passwordKey 63 = .ok (.if_icmp .ge 27, 3) := by decide +kernel
theorem d_passwordKey_66 : decode b_passwordKey 66 = .ok (.aload_n 0, 1) := by decide +kernel
theorem d_passwordKey_67 : decode b_passwordKey 67 = .ok (.iload 5, 2) := by decide +kernel
theorem d_passwordKey_69 : decode b_passwordKey 69 = .ok (.iconst 3, 1) := by decide +kernel
theorem d_passwordKey_70 : decode b_passwordKey 70 = .ok (.if_icmp .ne 10, 3) := by decide +kernel
theorem d_passwordKey_73 : decode b_passwordKey 73 = .ok (.iload 4, 2) := by decide +kernel
theorem d_passwordKey_75 : decode b_passwordKey 75 = .ok (.iconst 1, 1) := by decide +kernel
theorem d_passwordKey_76 : decode b_passwordKey 76 = .ok (.iadd, 1) := by decide +kernel
theorem d_passwordKey_77 : decode b_passwordKey 77 = .ok (.goto 4, 3) := by decide +kernel
theorem d_passwordKey_80 : decode b_passwordKey 80 = .ok (.iconst 0, 1) := by decide +kernel
theorem d_passwordKey_81 : decode b_passwordKey 81 = .ok (.invokevirtual 370, 3) := by decide +kernel
theorem d_passwordKey_84 : decode b_passwordKey 84 = .ok (.iinc 5 1, 3) := by decide +kernel
theorem d_passwordKey_87 : decode b_passwordKey 87 = .ok (.goto (-27), 3) := by decide +kernel
theorem d_passwordKey_90 : decode b_passwordKey 90 = .ok (.aload_n 0, 1) := by decide +kernel
theorem d_passwordKey_91 : decode b_passwordKey 91 = .ok (.invokevirtual 429, 3) := by decide +kernel
theorem d_passwordKey_94 : decode b_passwordKey 94 = .ok (.iconst 0, 1) := by decide +kernel
theorem d_passwordKey_95 : decode b_passwordKey 95 = .ok (.istore 5, 2) := by decide +kernel
theorem d_passwordKey_97 : decode b_passwordKey 97 = .ok (.iload 5, 2) := by decide +kernel
theorem d_passwordKey_99 : decode b_passwordKey 99 = .ok (.bipush 20, 2) := by decide +kernel
theorem d_passwordKey_101 : decode b_passwordKey 101 = .ok (.if_icmp .ge 23, 3) := by decide +kernel
theorem d_passwordKey_104 : decode b_passwordKey 104 = .ok (.aload_n 0, 1) := by decide +kernel
theorem d_passwordKey_105 : decode b_passwordKey 105 = .ok (.getfield 77, 3) := by decide +kernel
theorem d_passwordKey_108 : decode b_passwordKey 108 = .ok (.iload 5, 2) := by decide +kernel
theorem d_passwordKey_110 : decode b_passwordKey 110 = .ok (.aload_n 0, 1) := by decide +kernel
theorem d_passwordKey_111 : decode b_passwordKey 111 = .ok (.getfield 35, 3) := by decide +kernel
theorem d_passwordKey_114 : decode b_passwordKey 114 = .ok (.iload 5, 2) := by decide +kernel
theorem d_passwordKey_116 : decode b_passwordKey 116 = .ok (.baload, 1) := by decide +kernel
theorem d_passwordKey_117 : decode b_passwordKey 117 = .ok (.bastore, 1) := by decide +kernel
theorem d_passwordKey_118 : decode b_passwordKey 118 = .ok (.iinc 5 1, 3) := by decide +kernel
theorem d_passwordKey_121 : decode b_passwordKey 121 = .ok (.goto (-24), 3) := by decide +kernel
theorem d_passwordKey_124 : decode b_passwordKey 124 = .ok (.iconst 1, 1) := by decide +kernel
theorem d_passwordKey_125 : decode b_passwordKey 125 = .ok (.istore 5, 2) := by decide +kernel
theorem d_passwordKey_127 : decode b_passwordKey 127 = .ok (.iload 5, 2) := by decide +kernel
theorem d_passwordKey_129 : decode b_passwordKey 129 = .ok (.iload_n 2, 1) := by decide +kernel
theorem d_passwordKey_130 : decode b_passwordKey 130 = .ok (.if_icmp .ge 78, 3) := by decide +kernel
theorem d_passwordKey_133 : decode b_passwordKey 133 = .ok (.aload_n 0, 1) := by decide +kernel
theorem d_passwordKey_134 : decode b_passwordKey 134 = .ok (.invokevirtual 423, 3) := by decide +kernel
theorem d_passwordKey_137 : decode b_passwordKey 137 = .ok (.iconst 0, 1) := by decide +kernel
theorem d_passwordKey_138 : decode b_passwordKey 138 = .ok (.istore 6, 2) := by decide +kernel
theorem d_passwordKey_140 : decode b_passwordKey 140 = .ok (.iload 6, 2) := by decide +kernel
theorem d_passwordKey_142 : decode b_passwordKey 142 = .ok (.bipush 20, 2) := by decide +kernel
theorem d_passwordKey_144 : decode b_passwordKey 144 = .ok (.if_icmp .ge 20, 3) := by decide +kernel
theorem d_passwordKey_147 : decode b_passwordKey 147 = .ok (.aload_n 0, 1) := by decide +kernel
theorem d_passwordKey_148 : decode b_passwordKey 148 = .ok (.aload_n 0, 1) := by decide +kernel
theorem d_passwordKey_149 : decode b_passwordKey 149 = .ok (.getfield 35, 3) := by decide +kernel
theorem d_passwordKey_152 : decode b_passwordKey 152 = .ok (.iload 6, 2) := by decide +kernel
theorem d_passwordKey_154 : decode b_passwordKey 154 = .ok (.baload, 1) := by decide +kernel
theorem d_passwordKey_155 : decode b_passwordKey 155 = .ok (.invokevirtual 370, 3) := by decide +kernel
theorem d_passwordKey_158 : decode b_passwordKey 158 = .ok (.iinc 6 1, 3) := by decide +kernel
theorem d_passwordKey_161 : decode b_passwordKey 161 = .ok (.goto (-21), 3) := by decide +kernel
theorem d_passwordKey_164 : decode b_passwordKey 164 = .ok (.aload_n 0, 1) := by decide +kernel
theorem d_passwordKey_165 : decode b_passwordKey 165 = .ok (.invokevirtual 429, 3) := by decide +kernel
theorem d_passwordKey_168 : decode b_passwordKey 168 = .ok (.iconst 0, 1) := by decide +kernel
theorem d_passwordKey_169 : decode b_passwordKey 169 = .ok (.istore 6, 2) := by decide +kernel
theorem d_passwordKey_171 : decode b_passwordKey 171 = .ok (.iload 6, 2) := by decide +kernel
theorem d_passwordKey_173 : decode b_passwordKey 173 = .ok (.bipush 20, 2) := by decide +kernel
theorem d_passwordKey_175 : decode b_passwordKey 175 = .ok (.if_icmp .ge 27, 3) := by decide +kernel
theorem d_passwordKey_178 : decode b_passwordKey 178 = .ok (.aload_n 0, 1) := by decide +kernel
theorem d_passwordKey_179 : decode b_passwordKey 179 = .ok (.getfield 77, 3) := by decide +kernel
theorem d_passwordKey_182 : decode b_passwordKey 182 = .ok (.iload 6, 2) := by decide +kernel
theorem d_passwordKey_184 : decode b_passwordKey 184 = .ok (.dup2, 1) := by decide +kernel
theorem d_passwordKey_185 : decode b_passwordKey 185 = .ok (.baload, 1) := by decide +kernel
theorem d_passwordKey_186 : decode b_passwordKey 186 = .ok (.aload_n 0, 1) := by decide +kernel
theorem d_passwordKey_187 : decode b_passwordKey 187 = .ok (.getfield 35, 3) := by decide +kernel
theorem d_passwordKey_190 : decode b_passwordKey 190 = .ok (.iload 6, 2) := by decide +kernel
theorem d_passwordKey_192 : decode b_passwordKey 192 = .ok (.baload, 1) := by decide +kernel
theorem d_passwordKey_193 : decode b_passwordKey 193 = .ok (.ixor, 1) := by decide +kernel
theorem d_passwordKey_194 : decode b_passwordKey 194 = .ok (.i2b, 1) := by decide +kernel
theorem d_passwordKey_195 : decode b_passwordKey 195 = .ok (.bastore, 1) := by decide +kernel
theorem d_passwordKey_196 : decode b_passwordKey 196 = .ok (.iinc 6 1, 3) := by decide +kernel
theorem d_passwordKey_199 : decode b_passwordKey 199 = .ok (.goto (-28), 3) := by decide +kernel
theorem d_passwordKey_202 : decode b_passwordKey 202 = .ok (.iinc 5 1, 3) := by decide +kernel
theorem d_passwordKey_205 : decode b_passwordKey 205 = .ok (.goto (-78), 3) := by decide +kernel
theorem d_passwordKey_208 : decode b_passwordKey 208 = .ok (.iconst 0, 1) := by decide +kernel
theorem d_passwordKey_209 : decode b_passwordKey 209 = .ok (.istore 5, 2) := by decide +kernel
theorem d_passwordKey_211 : decode b_passwordKey 211 = .ok (.iload 5, 2) := by decide +kernel
theorem d_passwordKey_213 : decode b_passwordKey 213 = .ok (.bipush 20, 2) := by decide +kernel
theorem d_passwordKey_215 : decode b_passwordKey 215 = .ok (.if_icmp .ge 29, 3) := by decide +kernel
theorem d_passwordKey_218 : decode b_passwordKey 218 = .ok (.aload_n 0, 1) := by decide +kernel
theorem d_passwordKey_219 : decode b_passwordKey 219 = .ok (.getfield 80, 3) := by decide +kernel
theorem d_passwordKey_222 : decode b_passwordKey 222 = .ok (.bipush 20, 2) := by decide +kernel
theorem d_passwordKey_224 : decode b_passwordKey 224 = .ok (.iload 4, 2) := by decide +kernel
theorem d_passwordKey_226 : decode b_passwordKey 226 = .ok (.imul, 1) := by decide +kernel
theorem d_passwordKey_227 : decode b_passwordKey 227 = .ok (.iload 5, 2) := by decide +kernel
theorem d_passwordKey_229 : decode b_passwordKey 229 = .ok (.iadd, 1) := by decide +kernel
theorem d_passwordKey_230 : decode b_passwordKey 230 = .ok (.aload_n 0, 1) := by decide +kernel
theorem d_passwordKey_231 : decode b_passwordKey 231 = .ok (.getfield 77, 3) := by decide +kernel
theorem d_passwordKey_234 : decode b_passwordKey 234 = .ok (.iload 5, 2) := by decide +kernel
theorem d_passwordKey_236 : decode b_passwordKey 236 = .ok (.baload, 1) := by decide +kernel
theorem d_passwordKey_237 : decode b_passwordKey 237 = .ok (.bastore, 1) := by decide +kernel
theorem d_passwordKey_238 : decode b_passwordKey 238 = .ok (.iinc 5 1, 3) := by decide +kernel
theorem d_passwordKey_241 : decode b_passwordKey 241 = .ok (.goto (-30), 3) := by decide +kernel
theorem d_passwordKey_244 : decode b_passwordKey 244 = .ok (.iinc 4 1, 3) := by decide +kernel
theorem d_passwordKey_247 : decode b_passwordKey 247 = .ok (.goto (-244), 3) := by decide +kernel
theorem d_passwordKey_250 : decode b_passwordKey 250 = .ok (.aload_n 0, 1) := by decide +kernel
theorem d_passwordKey_251 : decode b_passwordKey 251 = .ok (.aload_n 0, 1) := by decide +kernel
theorem d_passwordKey_252 : decode b_passwordKey 252 = .ok (.getfield 80, 3) := by decide +kernel
theorem d_passwordKey_255 : decode b_passwordKey 255 = .ok (.iload_n 1, 1) := by decide +kernel
theorem d_passwordKey_256 : decode b_passwordKey 256 = .ok (.aload_n 0, 1) := by decide +kernel
theorem d_passwordKey_257 : decode b_passwordKey 257 = .ok (.getfield 83, 3) := by decide +kernel
theorem d_passwordKey_260 : decode b_passwordKey 260 = .ok (.bipush 8, 2) := by decide +kernel
theorem d_passwordKey_262 : decode b_passwordKey 262 = .ok (.aload_n 3, 1) := by decide +kernel
theorem d_passwordKey_263 : decode b_passwordKey 263 = .ok (.invokevirtual 414, 3) := by decide +kernel
theorem d_passwordKey_266 : decode b_passwordKey 266 = .ok (.return_, 1) := by decide +kernel
theorem kx_foldOf : Cond.selects R_M y_foldOf y_foldOf ∈ lw_tg := List.mem_filter.mpr ⟨List.mem_append_left _ (List.mem_of_getElem? (i := 87) (by decide +kernel)), rfl⟩
theorem hd_foldOf : y_foldOf.cls = R_M ∧ y_foldOf.cls ≠ "java/lang/invoke/MethodHandle" ∧ y_foldOf.cls ≠ "java/lang/invoke/VarHandle" ∧ (parseMethodDescriptor y_foldOf.desc).map (fun d => d.parameters.length) = some 2 := by decide +kernel
theorem kx_derive : Cond.selects R_M y_derive y_derive ∈ lw_tg := List.mem_filter.mpr ⟨List.mem_append_left _ (List.mem_of_getElem? (i := 86) (by decide +kernel)), rfl⟩
theorem hd_derive : y_derive.cls = R_M ∧ y_derive.cls ≠ "java/lang/invoke/MethodHandle" ∧ y_derive.cls ≠ "java/lang/invoke/VarHandle" ∧ (parseMethodDescriptor y_derive.desc).map (fun d => d.parameters.length) = some 5 := by decide +kernel
theorem kx_passwordKey : Cond.selects R_M y_passwordKey y_passwordKey ∈ lw_tg := List.mem_filter.mpr ⟨List.mem_append_left _ (List.mem_of_getElem? (i := 79) (by decide +kernel)), rfl⟩
theorem hd_passwordKey : y_passwordKey.cls = R_M ∧ y_passwordKey.cls ≠ "java/lang/invoke/MethodHandle" ∧ y_passwordKey.cls ≠ "java/lang/invoke/VarHandle" ∧ (parseMethodDescriptor y_passwordKey.desc).map (fun d => d.parameters.length) = some 3 := by decide +kernel
set_option maxHeartbeats 4000000 in
set_option maxRecDepth 100000 in
theorem c_foldOf_kerberos (l : Launch) (D : mD) (E : mE) (h : Nat) (q : Nat → Nat) (sz : Nat) (I : Nat → Int32) (J : Nat → Int64) (B : Nat → Nat → Int32) (G : Nat → Nat → Int64)  : Met l y_foldOf (k_foldOf :: lw_tg) (mR 0 0) (va_Pc [.ref h, .ref (q 28), .int (nI 8)] (mPre D E h q (I, J, B, G) sz)) (va_Qv (fun (u : mS) => (∀ j, u.1 j = I j) ∧ u.2.1 = J ∧ (∀ j, j ≠ 19 → j ≠ 21 → u.2.2.1 j = B j) ∧ u.2.2.2 = G) (mPost D E h q (mA E h q sz)) (mA E h q sz)) 0 0 (mA E h q sz) := by
  refine m_enter (by decide) rfl (Nat.le_of_ble_eq_true rfl) (fun p e s m below meth c ls AV QQ H locs hQQ X Y hZ hA hr hlk hml hl => ?_)
  have Y : mH D E (mA E h q sz) s.heap h q I J B G H locs := Y
  have hl : lv_has ls 11 [(0, .ref h), (1, .ref (q 28)), (2, .int (nI 8))] := hl
  refine lv_iload_n X.1 X.2.1 d_foldOf_0 rfl (lv_at hl 2 rfl) ?_
  refine lv_istore_n (lv' := [(3, .int (nI 8)), (0, .ref h), (1, .ref (q 28)), (2, .int (nI 8))]) X.1 X.2.1 d_foldOf_1 rfl hl (by decide) rfl (fun ls hl => ?_)
  refine lv_iload_n X.1 X.2.1 d_foldOf_2 rfl (lv_at hl 0 rfl) ?_
  refine lv_bipush (v := (nI 16)) X.1 X.2.1 d_foldOf_3 (by decide) ?_
  refine lv_irem X.1 X.2.1 d_foldOf_5 (nI_ne0 (by omega) (by omega)) ?_
  refine t_eq (y := nI 8) (by decide) ?_
  refine lv_if_eq (tgt := 16) X.1 X.2.1 d_foldOf_6 (by decide) (fun c1 => absurd c1 ?_) (fun c1 => ?_)
  · (rw [← nI_0, nI_eq (by omega) (by omega)] <;> omega)
  rw [← nI_0] at c1
  rw [nI_eq (by omega) (by omega)] at c1
  refine lv_iload_n X.1 X.2.1 d_foldOf_9 rfl (lv_at hl 0 rfl) ?_
  refine lv_iload_n X.1 X.2.1 d_foldOf_10 rfl (lv_at hl 3 rfl) ?_
  refine lv_iadd X.1 X.2.1 d_foldOf_11 ?_
  refine t_eq (y := nI 16) (by decide) ?_
  refine lv_istore_n (lv' := [(3, .int (nI 16)), (0, .ref h), (1, .ref (q 28)), (2, .int (nI 8))]) X.1 X.2.1 d_foldOf_12 rfl hl (by decide) rfl (fun ls hl => ?_)
  refine lv_goto (tgt := 2) X.1 X.2.1 d_foldOf_13 (by decide) ?_
  refine lv_iload_n X.1 X.2.1 d_foldOf_2 rfl (lv_at hl 0 rfl) ?_
  refine lv_bipush (v := (nI 16)) X.1 X.2.1 d_foldOf_3 (by decide) ?_
  refine lv_irem X.1 X.2.1 d_foldOf_5 (nI_ne0 (by omega) (by omega)) ?_
  refine t_eq (y := nI 0) (by decide) ?_
  refine lv_if_eq (tgt := 16) X.1 X.2.1 d_foldOf_6 (by decide) (fun c2 => ?_) (fun c2 => absurd ?_ c2)
  rotate_left
  · (rw [← nI_0, nI_eq (by omega) (by omega)] <;> omega)
  rw [← nI_0] at c2
  rw [nI_eq (by omega) (by omega)] at c2
  refine lv_aload_n X.1 X.2.1 d_foldOf_16 rfl (lv_at hl 1 rfl) ?_
  refine m_get X Y 21 (by decide) lk_folding (gf_folding _ _ _) rfl d_foldOf_17 ?_
  refine lv_astore (lv' := [(4, .ref (q 21)), (3, .int (nI 16)), (0, .ref h), (1, .ref (q 28)), (2, .int (nI 8))]) X.1 X.2.1 d_foldOf_20 hl (by decide) rfl (fun ls hl => ?_)
  refine lv_iconst (v := (nI 0)) X.1 X.2.1 d_foldOf_22 (by decide) ?_
  refine lv_istore (lv' := [(5, .int (nI 0)), (4, .ref (q 21)), (3, .int (nI 16)), (0, .ref h), (1, .ref (q 28)), (2, .int (nI 8))]) X.1 X.2.1 d_foldOf_23 hl (by decide) rfl (fun ls hl => ?_)
  have lp6 : ∀ (n3 i4 : Nat) (B7 : Nat → Nat → Int32) (H : Heap) (locs : List Loc) (ls : Array Slot), i4 + n3 = 16 → 0 ≤ i4 → (∀ j, j ≠ 19 → j ≠ 21 → B7 j = B j) → mH D E (mA E h q sz) s.heap h q I J B7 G H locs → lv_has ls 11 [(5, .int (nI i4)), (4, .ref (q 21)), (3, .int (nI 16)), (0, .ref h), (1, .ref (q 28)), (2, .int (nI 8))] → W p l e (mR 0 0) s m AV below meth c H locs 0 0 QQ (F0 m 25 ls []) := by
    intro n3
    induction n3 with
    | zero =>
      intro i4 B7 H locs ls hii4 hsi4 hB8  Y hl
      refine lv_iload X.1 X.2.1 d_foldOf_25 (lv_at hl 0 rfl) ?_
      refine lv_bipush (v := (nI 16)) X.1 X.2.1 d_foldOf_27 (by decide) ?_
      refine lv_icmp_ge (tgt := 44) X.1 X.2.1 d_foldOf_29 (by decide) (fun c9 => ?_) (fun c9 => absurd ?_ c9)
      rotate_left
      · (rw [nI_leI (by omega) (by omega)] <;> omega)
      rw [nI_leI (by omega) (by omega)] at c9
      refine lv_iconst (v := (nI 0)) X.1 X.2.1 d_foldOf_44 (by decide) ?_
      refine lv_istore (lv' := [(5, .int (nI 0)), (4, .ref (q 21)), (3, .int (nI 16)), (0, .ref h), (1, .ref (q 28)), (2, .int (nI 8))]) X.1 X.2.1 d_foldOf_45 hl (by decide) rfl (fun ls hl => ?_)
      have lp13 : ∀ (n10 i11 : Nat) (B14 : Nat → Nat → Int32) (H : Heap) (locs : List Loc) (ls : Array Slot), i11 + n10 = 16 → 0 ≤ i11 → (∀ j, j ≠ 19 → j ≠ 21 → B14 j = B j) → mH D E (mA E h q sz) s.heap h q I J B14 G H locs → lv_has ls 11 [(5, .int (nI i11)), (4, .ref (q 21)), (3, .int (nI 16)), (0, .ref h), (1, .ref (q 28)), (2, .int (nI 8))] → W p l e (mR 0 0) s m AV below meth c H locs 0 0 QQ (F0 m 47 ls []) := by
        intro n10
        induction n10 with
        | zero =>
          intro i11 B14 H locs ls hii11 hsi11 hB15  Y hl
          refine lv_iload X.1 X.2.1 d_foldOf_47 (lv_at hl 0 rfl) ?_
          refine lv_iload_n X.1 X.2.1 d_foldOf_49 rfl (lv_at hl 2 rfl) ?_
          refine lv_icmp_ge (tgt := 159) X.1 X.2.1 d_foldOf_50 (by decide) (fun c16 => ?_) (fun c16 => absurd ?_ c16)
          rotate_left
          · (rw [nI_leI (by omega) (by omega)] <;> omega)
          rw [nI_leI (by omega) (by omega)] at c16
          refine lv_iconst (v := (nI 0)) X.1 X.2.1 d_foldOf_159 (by decide) ?_
          refine lv_istore (lv' := [(5, .int (nI 0)), (4, .ref (q 21)), (3, .int (nI 16)), (0, .ref h), (1, .ref (q 28)), (2, .int (nI 8))]) X.1 X.2.1 d_foldOf_160 hl (by decide) rfl (fun ls hl => ?_)
          have lp20 : ∀ (n17 i18 : Nat) (B21 : Nat → Nat → Int32) (H : Heap) (locs : List Loc) (ls : Array Slot), i18 + n17 = 40 → 0 ≤ i18 → (∀ j, j ≠ 19 → j ≠ 21 → B21 j = B j) → mH D E (mA E h q sz) s.heap h q I J B21 G H locs → lv_has ls 11 [(5, .int (nI i18)), (4, .ref (q 21)), (3, .int (nI 16)), (0, .ref h), (1, .ref (q 28)), (2, .int (nI 8))] → W p l e (mR 0 0) s m AV below meth c H locs 0 0 QQ (F0 m 162 ls []) := by
            intro n17
            induction n17 with
            | zero =>
              intro i18 B21 H locs ls hii18 hsi18 hB22  Y hl
              refine lv_iload X.1 X.2.1 d_foldOf_162 (lv_at hl 0 rfl) ?_
              refine lv_bipush (v := (nI 40)) X.1 X.2.1 d_foldOf_164 (by decide) ?_
              refine lv_icmp_ge (tgt := 231) X.1 X.2.1 d_foldOf_166 (by decide) (fun c23 => ?_) (fun c23 => absurd ?_ c23)
              rotate_left
              · (rw [nI_leI (by omega) (by omega)] <;> omega)
              rw [nI_leI (by omega) (by omega)] at c23
              refine lv_iconst (v := (nI 0)) X.1 X.2.1 d_foldOf_231 (by decide) ?_
              refine lv_istore (lv' := [(5, .int (nI 0)), (4, .ref (q 21)), (3, .int (nI 16)), (0, .ref h), (1, .ref (q 28)), (2, .int (nI 8))]) X.1 X.2.1 d_foldOf_232 hl (by decide) rfl (fun ls hl => ?_)
              have lp27 : ∀ (n24 i25 : Nat) (B28 : Nat → Nat → Int32) (H : Heap) (locs : List Loc) (ls : Array Slot), i25 + n24 = 16 → 0 ≤ i25 → (∀ j, j ≠ 19 → j ≠ 21 → B28 j = B j) → mH D E (mA E h q sz) s.heap h q I J B28 G H locs → lv_has ls 11 [(5, .int (nI i25)), (4, .ref (q 21)), (3, .int (nI 16)), (0, .ref h), (1, .ref (q 28)), (2, .int (nI 8))] → W p l e (mR 0 0) s m AV below meth c H locs 0 0 QQ (F0 m 234 ls []) := by
                intro n24
                induction n24 with
                | zero =>
                  intro i25 B28 H locs ls hii25 hsi25 hB29  Y hl
                  refine lv_iload X.1 X.2.1 d_foldOf_234 (lv_at hl 0 rfl) ?_
                  refine lv_bipush (v := (nI 16)) X.1 X.2.1 d_foldOf_236 (by decide) ?_
                  refine lv_icmp_ge (tgt := 260) X.1 X.2.1 d_foldOf_238 (by decide) (fun c30 => ?_) (fun c30 => absurd ?_ c30)
                  rotate_left
                  · (rw [nI_leI (by omega) (by omega)] <;> omega)
                  rw [nI_leI (by omega) (by omega)] at c30
                  exact m_retv hQQ X Y hr hlk ⟨(fun j  => rfl), rfl, (fun j h19 h21 => (hB29 j h19 h21)), rfl⟩ d_foldOf_260
                | succ n24 ih26 =>
                  intro i25 B28 H locs ls hii25 hsi25 hB29  Y hl
                  refine lv_iload X.1 X.2.1 d_foldOf_234 (lv_at hl 0 rfl) ?_
                  refine lv_bipush (v := (nI 16)) X.1 X.2.1 d_foldOf_236 (by decide) ?_
                  refine lv_icmp_ge (tgt := 260) X.1 X.2.1 d_foldOf_238 (by decide) (fun c31 => absurd c31 ?_) (fun c31 => ?_)
                  · (rw [nI_leI (by omega) (by omega)] <;> omega)
                  rw [nI_leI (by omega) (by omega)] at c31
                  refine lv_aload_n X.1 X.2.1 d_foldOf_241 rfl (lv_at hl 3 rfl) ?_
                  refine m_get X Y 19 (by decide) lk_fold (gf_fold _ _ _) rfl d_foldOf_242 ?_
                  refine lv_iload X.1 X.2.1 d_foldOf_245 (lv_at hl 0 rfl) ?_
                  refine lv_aload X.1 X.2.1 d_foldOf_247 (lv_at hl 1 rfl) ?_
                  refine lv_iload X.1 X.2.1 d_foldOf_249 (lv_at hl 0 rfl) ?_
                  refine m_iald X Y (aw_folding _ _ _ _ _ _ _) (vp_in_nI (by omega) (by decide)) d_foldOf_251 ?_
                  refine t_any (fun v32 => ?_)
                  obtain ⟨v33, ev33⟩ : ∃ z : Int32, (v32 : Int32).toInt8.toInt32 = z := ⟨_, rfl⟩
                  refine lv_i2b (v := v33) X.1 X.2.1 d_foldOf_252 ev33 ?_
                  refine m_bast X Y (aw_fold _ _ _ _ _ _ _) (vp_in_nI (by omega) (by decide)) (sw_fold _ _ _ _ _ _ _ _) d_foldOf_253 (fun H locs Y => ?_)
                  generalize (upd (B28 19) ((nI i25)).toNatClampNeg (vp_nar .byte v33)) = f34 at Y
                  refine lv_iinc (v := (nI (i25 + 1))) (lv' := [(5, .int (nI (i25 + 1))), (4, .ref (q 21)), (3, .int (nI 16)), (0, .ref h), (1, .ref (q 28)), (2, .int (nI 8))]) X.1 X.2.1 d_foldOf_254 hl (k := 0) rfl (nI_add _ 1) (by decide) rfl (fun ls hl => ?_)
                  refine lv_goto (tgt := 234) X.1 X.2.1 d_foldOf_257 (by decide) ?_
                  exact ih26 (i25 + 1) (upB B28 19 f34) _ _ _ (by omega) (by omega) (fun j h19 h21 => ((if_neg h19).trans (hB29 j h19 h21)))  Y (lv_sub hl [0, 1, 2, 3, 4, 5] rfl)
              exact lp27 (16) 0 B21 _ _ _ (by omega) (by omega) (fun j h19 h21 => (hB22 j h19 h21))  Y (lv_sub hl [0, 1, 2, 3, 4, 5] rfl)
            | succ n17 ih19 =>
              intro i18 B21 H locs ls hii18 hsi18 hB22  Y hl
              refine lv_iload X.1 X.2.1 d_foldOf_162 (lv_at hl 0 rfl) ?_
              refine lv_bipush (v := (nI 40)) X.1 X.2.1 d_foldOf_164 (by decide) ?_
              refine lv_icmp_ge (tgt := 231) X.1 X.2.1 d_foldOf_166 (by decide) (fun c35 => absurd c35 ?_) (fun c35 => ?_)
              · (rw [nI_leI (by omega) (by omega)] <;> omega)
              rw [nI_leI (by omega) (by omega)] at c35
              refine lv_iconst (v := (nI 0)) X.1 X.2.1 d_foldOf_169 (by decide) ?_
              refine lv_istore (lv' := [(6, .int (nI 0)), (5, .int (nI i18)), (4, .ref (q 21)), (3, .int (nI 16)), (0, .ref h), (1, .ref (q 28)), (2, .int (nI 8))]) X.1 X.2.1 d_foldOf_170 hl (by decide) rfl (fun ls hl => ?_)
              refine lv_bipush (v := (nI 15)) X.1 X.2.1 d_foldOf_172 (by decide) ?_
              refine lv_istore (lv' := [(7, .int (nI 15)), (6, .int (nI 0)), (5, .int (nI i18)), (4, .ref (q 21)), (3, .int (nI 16)), (0, .ref h), (1, .ref (q 28)), (2, .int (nI 8))]) X.1 X.2.1 d_foldOf_174 hl (by decide) rfl (fun ls hl => ?_)
              have lp39 : ∀ (n36 : Nat) (B40 : Nat → Nat → Int32) (x41 : Int32) (H : Heap) (locs : List Loc) (ls : Array Slot), n36 ≤ 16 → (∀ j, j ≠ 19 → j ≠ 21 → B40 j = B j) → mH D E (mA E h q sz) s.heap h q I J B40 G H locs → lv_has ls 11 [(7, .int (nI n36 + (-1))), (6, .int x41), (5, .int (nI i18)), (4, .ref (q 21)), (3, .int (nI 16)), (0, .ref h), (1, .ref (q 28)), (2, .int (nI 8))] → W p l e (mR 0 0) s m AV below meth c H locs 0 0 QQ (F0 m 176 ls []) := by
                intro n36
                induction n36 with
                | zero =>
                  intro  B40 x41 H locs ls hii37  hB42  Y hl
                  refine lv_iload X.1 X.2.1 d_foldOf_176 (lv_at hl 0 rfl) ?_
                  refine lv_if_lt (tgt := 215) X.1 X.2.1 d_foldOf_178 (by decide) (fun c43 => ?_) (fun c43 => absurd ?_ c43)
                  rotate_left
                  · decide
                  refine lv_aload X.1 X.2.1 d_foldOf_215 (lv_at hl 3 rfl) ?_
                  refine lv_bipush (v := (nI 15)) X.1 X.2.1 d_foldOf_217 (by decide) ?_
                  refine lv_dup2_11 X.1 X.2.1 d_foldOf_219 rfl rfl ?_
                  refine m_iald X Y (aw_folding _ _ _ _ _ _ _) (vp_in_nI (by omega) (by decide)) d_foldOf_220 ?_
                  refine t_any (fun v44 => ?_)
                  refine lv_iload X.1 X.2.1 d_foldOf_221 (lv_at hl 1 rfl) ?_
                  refine lv_iadd X.1 X.2.1 d_foldOf_223 ?_
                  refine t_any (fun v45 => ?_)
                  refine m_iast X Y (aw_folding _ _ _ _ _ _ _) (vp_in_nI (by omega) (by decide)) (sw_folding _ _ _ _ _ _ _ _) d_foldOf_224 (fun H locs Y => ?_)
                  generalize (upd (B40 21) ((nI 15)).toNatClampNeg v45) = f46 at Y
                  refine lv_iinc (v := (nI (i18 + 1))) (lv' := [(5, .int (nI (i18 + 1))), (7, .int (nI 0 + (-1))), (6, .int x41), (4, .ref (q 21)), (3, .int (nI 16)), (0, .ref h), (1, .ref (q 28)), (2, .int (nI 8))]) X.1 X.2.1 d_foldOf_225 hl (k := 2) rfl (nI_add _ 1) (by decide) rfl (fun ls hl => ?_)
                  refine lv_goto (tgt := 162) X.1 X.2.1 d_foldOf_228 (by decide) ?_
                  exact ih19 (i18 + 1) (upB B40 21 f46) _ _ _ (by omega) (by omega) (fun j h19 h21 => ((if_neg h21).trans (hB42 j h19 h21)))  Y (lv_sub hl [0, 3, 4, 5, 6, 7] rfl)
                | succ n36 ih38 =>
                  intro  B40 x41 H locs ls hii37  hB42  Y hl
                  rw [show nI (n36 + 1) + (-1) = nI n36 from pk_m1 n36] at hl
                  refine lv_iload X.1 X.2.1 d_foldOf_176 (lv_at hl 0 rfl) ?_
                  refine lv_if_lt (tgt := 215) X.1 X.2.1 d_foldOf_178 (by decide) (fun c47 => absurd c47 ?_) (fun c47 => ?_)
                  · (exact nI_pos (by omega))
                  rw [← nI_0] at c47
                  rw [nI_ltI (by omega) (by omega)] at c47
                  refine lv_aload X.1 X.2.1 d_foldOf_181 (lv_at hl 3 rfl) ?_
                  refine lv_iload X.1 X.2.1 d_foldOf_183 (lv_at hl 0 rfl) ?_
                  refine m_iald X Y (aw_folding _ _ _ _ _ _ _) (vp_in_nI (by omega) (by decide)) d_foldOf_185 ?_
                  refine t_any (fun v48 => ?_)
                  refine lv_iload X.1 X.2.1 d_foldOf_186 (lv_at hl 1 rfl) ?_
                  refine lv_iadd X.1 X.2.1 d_foldOf_188 ?_
                  refine t_any (fun v49 => ?_)
                  refine lv_istore (lv' := [(8, .int v49), (7, .int (nI n36)), (6, .int x41), (5, .int (nI i18)), (4, .ref (q 21)), (3, .int (nI 16)), (0, .ref h), (1, .ref (q 28)), (2, .int (nI 8))]) X.1 X.2.1 d_foldOf_189 hl (by decide) rfl (fun ls hl => ?_)
                  refine lv_aload X.1 X.2.1 d_foldOf_191 (lv_at hl 4 rfl) ?_
                  refine lv_iload X.1 X.2.1 d_foldOf_193 (lv_at hl 1 rfl) ?_
                  refine lv_iload X.1 X.2.1 d_foldOf_195 (lv_at hl 0 rfl) ?_
                  refine lv_sipush (v := (nI 255)) X.1 X.2.1 d_foldOf_197 (by decide) ?_
                  refine lv_iand X.1 X.2.1 d_foldOf_200 ?_
                  obtain ⟨j50, hj50, ej50⟩ := pk_andE v49 (m := nI 255) 8 (by decide)
                  refine t_eq ej50 ?_
                  have hj50 : j50 < 256 := hj50
                  refine m_iast X Y (aw_folding _ _ _ _ _ _ _) (vp_in_nI (by omega) (by decide)) (sw_folding _ _ _ _ _ _ _ _) d_foldOf_201 (fun H locs Y => ?_)
                  generalize (upd (B40 21) ((nI n36)).toNatClampNeg (nI j50)) = f51 at Y
                  refine lv_iload X.1 X.2.1 d_foldOf_202 (lv_at hl 0 rfl) ?_
                  refine lv_bipush (v := (nI 8)) X.1 X.2.1 d_foldOf_204 (by decide) ?_
                  refine lv_ishr X.1 X.2.1 d_foldOf_206 ?_
                  refine t_any (fun v52 => ?_)
                  refine lv_istore (lv' := [(6, .int v52), (8, .int v49), (7, .int (nI n36)), (5, .int (nI i18)), (4, .ref (q 21)), (3, .int (nI 16)), (0, .ref h), (1, .ref (q 28)), (2, .int (nI 8))]) X.1 X.2.1 d_foldOf_207 hl (by decide) rfl (fun ls hl => ?_)
                  refine lv_iinc (v := (nI n36 + (-1))) (lv' := [(7, .int (nI n36 + (-1))), (6, .int v52), (8, .int v49), (5, .int (nI i18)), (4, .ref (q 21)), (3, .int (nI 16)), (0, .ref h), (1, .ref (q 28)), (2, .int (nI 8))]) X.1 X.2.1 d_foldOf_209 hl (k := 2) rfl (congrArg (fun z => nI n36 + z) (by decide)) (by decide) rfl (fun ls hl => ?_)
                  refine lv_goto (tgt := 176) X.1 X.2.1 d_foldOf_212 (by decide) ?_
                  exact ih38  (upB B40 21 f51) (v52) _ _ _ (by omega)  (fun j h19 h21 => ((if_neg h21).trans (hB42 j h19 h21)))  Y (lv_sub hl [0, 1, 3, 4, 5, 6, 7, 8] rfl)
              rw [show (nI 15) = nI 16 + (-1) from rfl] at hl
              exact lp39 (16)  B21 ((nI 0)) _ _ _ (by omega)  (fun j h19 h21 => (hB22 j h19 h21))  Y (lv_sub hl [0, 1, 2, 3, 4, 5, 6, 7] rfl)
          exact lp20 (40) 0 B14 _ _ _ (by omega) (by omega) (fun j h19 h21 => (hB15 j h19 h21))  Y (lv_sub hl [0, 1, 2, 3, 4, 5] rfl)
        | succ n10 ih12 =>
          intro i11 B14 H locs ls hii11 hsi11 hB15  Y hl
          refine lv_iload X.1 X.2.1 d_foldOf_47 (lv_at hl 0 rfl) ?_
          refine lv_iload_n X.1 X.2.1 d_foldOf_49 rfl (lv_at hl 2 rfl) ?_
          refine lv_icmp_ge (tgt := 159) X.1 X.2.1 d_foldOf_50 (by decide) (fun c53 => absurd c53 ?_) (fun c53 => ?_)
          · (rw [nI_leI (by omega) (by omega)] <;> omega)
          rw [nI_leI (by omega) (by omega)] at c53
          refine lv_iload X.1 X.2.1 d_foldOf_53 (lv_at hl 0 rfl) ?_
          refine lv_iload_n X.1 X.2.1 d_foldOf_55 rfl (lv_at hl 5 rfl) ?_
          refine lv_idiv X.1 X.2.1 d_foldOf_56 (nI_ne0 (by omega) (by omega)) ?_
          refine t_eq (y := nI ((i11) / (8))) (pk_div (by omega) (by omega) (by omega)) ?_
          refine lv_istore (lv' := [(6, .int (nI ((i11) / (8)))), (5, .int (nI i11)), (4, .ref (q 21)), (3, .int (nI 16)), (0, .ref h), (1, .ref (q 28)), (2, .int (nI 8))]) X.1 X.2.1 d_foldOf_57 hl (by decide) rfl (fun ls hl => ?_)
          refine lv_bipush (v := (nI 13)) X.1 X.2.1 d_foldOf_59 (by decide) ?_
          refine lv_iload X.1 X.2.1 d_foldOf_61 (lv_at hl 0 rfl) ?_
          refine lv_imul X.1 X.2.1 d_foldOf_63 ?_
          refine t_eq (y := nI ((13) * ((i11) / (8)))) (pk_mul _ _) ?_
          refine lv_bipush (v := (nI 8)) X.1 X.2.1 d_foldOf_64 (by decide) ?_
          refine lv_iload_n X.1 X.2.1 d_foldOf_66 rfl (lv_at hl 6 rfl) ?_
          refine lv_imul X.1 X.2.1 d_foldOf_67 ?_
          refine t_eq (y := nI 64) (by decide) ?_
          refine lv_irem X.1 X.2.1 d_foldOf_68 (nI_ne0 (by omega) (by omega)) ?_
          refine t_eq (y := nI (((13) * ((i11) / (8))) % (64))) (pk_rem (by omega) (by omega) (by omega)) ?_
          refine lv_istore (lv' := [(7, .int (nI (((13) * ((i11) / (8))) % (64)))), (6, .int (nI ((i11) / (8)))), (5, .int (nI i11)), (4, .ref (q 21)), (3, .int (nI 16)), (0, .ref h), (1, .ref (q 28)), (2, .int (nI 8))]) X.1 X.2.1 d_foldOf_69 hl (by decide) rfl (fun ls hl => ?_)
          refine lv_iconst (v := (nI 0)) X.1 X.2.1 d_foldOf_71 (by decide) ?_
          refine lv_istore (lv' := [(8, .int (nI 0)), (7, .int (nI (((13) * ((i11) / (8))) % (64)))), (6, .int (nI ((i11) / (8)))), (5, .int (nI i11)), (4, .ref (q 21)), (3, .int (nI 16)), (0, .ref h), (1, .ref (q 28)), (2, .int (nI 8))]) X.1 X.2.1 d_foldOf_72 hl (by decide) rfl (fun ls hl => ?_)
          refine lv_iconst (v := (nI 0)) X.1 X.2.1 d_foldOf_74 (by decide) ?_
          refine lv_istore (lv' := [(9, .int (nI 0)), (8, .int (nI 0)), (7, .int (nI (((13) * ((i11) / (8))) % (64)))), (6, .int (nI ((i11) / (8)))), (5, .int (nI i11)), (4, .ref (q 21)), (3, .int (nI 16)), (0, .ref h), (1, .ref (q 28)), (2, .int (nI 8))]) X.1 X.2.1 d_foldOf_75 hl (by decide) rfl (fun ls hl => ?_)
          have lp57 : ∀ (n54 i55 : Nat) (x58 : Int32) (H : Heap) (locs : List Loc) (ls : Array Slot), i55 + n54 = 8 → 0 ≤ i55 → mH D E (mA E h q sz) s.heap h q I J B14 G H locs → lv_has ls 11 [(9, .int (nI i55)), (8, .int x58), (7, .int (nI (((13) * ((i11) / (8))) % (64)))), (6, .int (nI ((i11) / (8)))), (5, .int (nI i11)), (4, .ref (q 21)), (3, .int (nI 16)), (0, .ref h), (1, .ref (q 28)), (2, .int (nI 8))] → W p l e (mR 0 0) s m AV below meth c H locs 0 0 QQ (F0 m 77 ls []) := by
            intro n54
            induction n54 with
            | zero =>
              intro i55 x58 H locs ls hii55 hsi55   Y hl
              refine lv_iload X.1 X.2.1 d_foldOf_77 (lv_at hl 0 rfl) ?_
              refine lv_bipush (v := (nI 8)) X.1 X.2.1 d_foldOf_79 (by decide) ?_
              refine lv_icmp_ge (tgt := 140) X.1 X.2.1 d_foldOf_81 (by decide) (fun c59 => ?_) (fun c59 => absurd ?_ c59)
              rotate_left
              · (rw [nI_leI (by omega) (by omega)] <;> omega)
              rw [nI_leI (by omega) (by omega)] at c59
              refine lv_aload X.1 X.2.1 d_foldOf_140 (lv_at hl 5 rfl) ?_
              refine lv_iload X.1 X.2.1 d_foldOf_142 (lv_at hl 4 rfl) ?_
              refine lv_bipush (v := (nI 16)) X.1 X.2.1 d_foldOf_144 (by decide) ?_
              refine lv_irem X.1 X.2.1 d_foldOf_146 (nI_ne0 (by omega) (by omega)) ?_
              refine t_eq (y := nI ((i11) % (16))) (pk_rem (by omega) (by omega) (by omega)) ?_
              refine lv_dup2_11 X.1 X.2.1 d_foldOf_147 rfl rfl ?_
              refine m_iald X Y (aw_folding _ _ _ _ _ _ _) (vp_in_nI (by omega) (by decide)) d_foldOf_148 ?_
              refine t_any (fun v60 => ?_)
              refine lv_iload X.1 X.2.1 d_foldOf_149 (lv_at hl 1 rfl) ?_
              refine lv_iadd X.1 X.2.1 d_foldOf_151 ?_
              refine t_any (fun v61 => ?_)
              refine m_iast X Y (aw_folding _ _ _ _ _ _ _) (vp_in_nI (by omega) (by decide)) (sw_folding _ _ _ _ _ _ _ _) d_foldOf_152 (fun H locs Y => ?_)
              generalize (upd (B14 21) ((nI ((i11) % (16)))).toNatClampNeg v61) = f62 at Y
              refine lv_iinc (v := (nI (i11 + 1))) (lv' := [(5, .int (nI (i11 + 1))), (9, .int (nI i55)), (8, .int x58), (7, .int (nI (((13) * ((i11) / (8))) % (64)))), (6, .int (nI ((i11) / (8)))), (4, .ref (q 21)), (3, .int (nI 16)), (0, .ref h), (1, .ref (q 28)), (2, .int (nI 8))]) X.1 X.2.1 d_foldOf_153 hl (k := 4) rfl (nI_add _ 1) (by decide) rfl (fun ls hl => ?_)
              refine lv_goto (tgt := 47) X.1 X.2.1 d_foldOf_156 (by decide) ?_
              exact ih12 (i11 + 1) (upB B14 21 f62) _ _ _ (by omega) (by omega) (fun j h19 h21 => ((if_neg h21).trans (hB15 j h19 h21)))  Y (lv_sub hl [0, 5, 6, 7, 8, 9] rfl)
            | succ n54 ih56 =>
              intro i55 x58 H locs ls hii55 hsi55   Y hl
              refine lv_iload X.1 X.2.1 d_foldOf_77 (lv_at hl 0 rfl) ?_
              refine lv_bipush (v := (nI 8)) X.1 X.2.1 d_foldOf_79 (by decide) ?_
              refine lv_icmp_ge (tgt := 140) X.1 X.2.1 d_foldOf_81 (by decide) (fun c63 => absurd c63 ?_) (fun c63 => ?_)
              · (rw [nI_leI (by omega) (by omega)] <;> omega)
              rw [nI_leI (by omega) (by omega)] at c63
              refine lv_bipush (v := (nI 8)) X.1 X.2.1 d_foldOf_84 (by decide) ?_
              refine lv_iload X.1 X.2.1 d_foldOf_86 (lv_at hl 4 rfl) ?_
              refine lv_iload_n X.1 X.2.1 d_foldOf_88 rfl (lv_at hl 9 rfl) ?_
              refine lv_irem X.1 X.2.1 d_foldOf_89 (nI_ne0 (by omega) (by omega)) ?_
              refine t_eq (y := nI ((i11) % (8))) (pk_rem (by omega) (by omega) (by omega)) ?_
              refine lv_imul X.1 X.2.1 d_foldOf_90 ?_
              refine t_eq (y := nI ((8) * ((i11) % (8)))) (pk_mul _ _) ?_
              refine lv_iload X.1 X.2.1 d_foldOf_91 (lv_at hl 0 rfl) ?_
              refine lv_iadd X.1 X.2.1 d_foldOf_93 ?_
              refine t_eq (y := nI ((8) * ((i11) % (8)) + i55)) (nI_add _ _) ?_
              refine lv_iload X.1 X.2.1 d_foldOf_94 (lv_at hl 2 rfl) ?_
              refine lv_isub X.1 X.2.1 d_foldOf_96 ?_
              refine lv_bipush (v := (nI 8)) X.1 X.2.1 d_foldOf_97 (by decide) ?_
              refine lv_iload_n X.1 X.2.1 d_foldOf_99 rfl (lv_at hl 9 rfl) ?_
              refine lv_imul X.1 X.2.1 d_foldOf_100 ?_
              refine t_eq (y := nI 64) (by decide) ?_
              refine lv_iadd X.1 X.2.1 d_foldOf_101 ?_
              refine t_eq (y := nI ((8) * ((i11) % (8)) + i55 + (64) - (((13) * ((i11) / (8))) % (64)))) (n_subadd (by omega)) ?_
              refine lv_bipush (v := (nI 8)) X.1 X.2.1 d_foldOf_102 (by decide) ?_
              refine lv_iload_n X.1 X.2.1 d_foldOf_104 rfl (lv_at hl 9 rfl) ?_
              refine lv_imul X.1 X.2.1 d_foldOf_105 ?_
              refine t_eq (y := nI 64) (by decide) ?_
              refine lv_irem X.1 X.2.1 d_foldOf_106 (nI_ne0 (by omega) (by omega)) ?_
              refine t_eq (y := nI (((8) * ((i11) % (8)) + i55 + (64) - (((13) * ((i11) / (8))) % (64))) % (64))) (pk_rem (by omega) (by omega) (by omega)) ?_
              refine lv_istore (lv' := [(10, .int (nI (((8) * ((i11) % (8)) + i55 + (64) - (((13) * ((i11) / (8))) % (64))) % (64)))), (9, .int (nI i55)), (8, .int x58), (7, .int (nI (((13) * ((i11) / (8))) % (64)))), (6, .int (nI ((i11) / (8)))), (5, .int (nI i11)), (4, .ref (q 21)), (3, .int (nI 16)), (0, .ref h), (1, .ref (q 28)), (2, .int (nI 8))]) X.1 X.2.1 d_foldOf_107 hl (by decide) rfl (fun ls hl => ?_)
              refine lv_iload X.1 X.2.1 d_foldOf_109 (lv_at hl 2 rfl) ?_
              refine lv_iconst (v := (nI 1)) X.1 X.2.1 d_foldOf_111 (by decide) ?_
              refine lv_ishl X.1 X.2.1 d_foldOf_112 ?_
              refine t_any (fun v64 => ?_)
              refine lv_aload_n X.1 X.2.1 d_foldOf_113 rfl (lv_at hl 9 rfl) ?_
              refine lv_iload X.1 X.2.1 d_foldOf_114 (lv_at hl 0 rfl) ?_
              refine lv_bipush (v := (nI 8)) X.1 X.2.1 d_foldOf_116 (by decide) ?_
              refine lv_idiv X.1 X.2.1 d_foldOf_118 (nI_ne0 (by omega) (by omega)) ?_
              refine t_eq (y := nI ((((8) * ((i11) % (8)) + i55 + (64) - (((13) * ((i11) / (8))) % (64))) % (64)) / (8))) (pk_div (by omega) (by omega) (by omega)) ?_
              refine m_bald X Y (aw_kerberos _ _ _ _ _ _ _) (vp_in_nI (by omega) (by decide)) d_foldOf_119 ?_
              refine t_any (fun v65 => ?_)
              refine lv_bipush (v := (nI 7)) X.1 X.2.1 d_foldOf_120 (by decide) ?_
              refine lv_iload X.1 X.2.1 d_foldOf_122 (lv_at hl 0 rfl) ?_
              refine lv_bipush (v := (nI 8)) X.1 X.2.1 d_foldOf_124 (by decide) ?_
              refine lv_irem X.1 X.2.1 d_foldOf_126 (nI_ne0 (by omega) (by omega)) ?_
              refine t_eq (y := nI ((((8) * ((i11) % (8)) + i55 + (64) - (((13) * ((i11) / (8))) % (64))) % (64)) % (8))) (pk_rem (by omega) (by omega) (by omega)) ?_
              refine lv_isub X.1 X.2.1 d_foldOf_127 ?_
              refine t_eq (y := nI (7 - ((((8) * ((i11) % (8)) + i55 + (64) - (((13) * ((i11) / (8))) % (64))) % (64)) % (8)))) (pk_sub (by omega)) ?_
              refine lv_ishr X.1 X.2.1 d_foldOf_128 ?_
              refine t_any (fun v66 => ?_)
              refine lv_iconst (v := (nI 1)) X.1 X.2.1 d_foldOf_129 (by decide) ?_
              refine lv_iand X.1 X.2.1 d_foldOf_130 ?_
              obtain ⟨j67, hj67, ej67⟩ := pk_andE v66 (m := nI 1) 1 (by decide)
              refine t_eq ej67 ?_
              have hj67 : j67 < 2 := hj67
              refine lv_ior X.1 X.2.1 d_foldOf_131 ?_
              refine t_any (fun v68 => ?_)
              refine lv_istore (lv' := [(8, .int v68), (10, .int (nI (((8) * ((i11) % (8)) + i55 + (64) - (((13) * ((i11) / (8))) % (64))) % (64)))), (9, .int (nI i55)), (7, .int (nI (((13) * ((i11) / (8))) % (64)))), (6, .int (nI ((i11) / (8)))), (5, .int (nI i11)), (4, .ref (q 21)), (3, .int (nI 16)), (0, .ref h), (1, .ref (q 28)), (2, .int (nI 8))]) X.1 X.2.1 d_foldOf_132 hl (by decide) rfl (fun ls hl => ?_)
              refine lv_iinc (v := (nI (i55 + 1))) (lv' := [(9, .int (nI (i55 + 1))), (8, .int v68), (10, .int (nI (((8) * ((i11) % (8)) + i55 + (64) - (((13) * ((i11) / (8))) % (64))) % (64)))), (7, .int (nI (((13) * ((i11) / (8))) % (64)))), (6, .int (nI ((i11) / (8)))), (5, .int (nI i11)), (4, .ref (q 21)), (3, .int (nI 16)), (0, .ref h), (1, .ref (q 28)), (2, .int (nI 8))]) X.1 X.2.1 d_foldOf_134 hl (k := 2) rfl (nI_add _ 1) (by decide) rfl (fun ls hl => ?_)
              refine lv_goto (tgt := 77) X.1 X.2.1 d_foldOf_137 (by decide) ?_
              exact ih56 (i55 + 1) (v68) _ _ _ (by omega) (by omega)   Y (lv_sub hl [0, 1, 3, 4, 5, 6, 7, 8, 9, 10] rfl)
          exact lp57 (8) 0 ((nI 0)) _ _ _ (by omega) (by omega)   Y (lv_sub hl [0, 1, 2, 3, 4, 5, 6, 7, 8, 9] rfl)
      exact lp13 (16) 0 B7 _ _ _ (by omega) (by omega) (fun j h19 h21 => (hB8 j h19 h21))  Y (lv_sub hl [0, 1, 2, 3, 4, 5] rfl)
    | succ n3 ih5 =>
      intro i4 B7 H locs ls hii4 hsi4 hB8  Y hl
      refine lv_iload X.1 X.2.1 d_foldOf_25 (lv_at hl 0 rfl) ?_
      refine lv_bipush (v := (nI 16)) X.1 X.2.1 d_foldOf_27 (by decide) ?_
      refine lv_icmp_ge (tgt := 44) X.1 X.2.1 d_foldOf_29 (by decide) (fun c69 => absurd c69 ?_) (fun c69 => ?_)
      · (rw [nI_leI (by omega) (by omega)] <;> omega)
      rw [nI_leI (by omega) (by omega)] at c69
      refine lv_aload X.1 X.2.1 d_foldOf_32 (lv_at hl 1 rfl) ?_
      refine lv_iload X.1 X.2.1 d_foldOf_34 (lv_at hl 0 rfl) ?_
      refine lv_iconst (v := (nI 0)) X.1 X.2.1 d_foldOf_36 (by decide) ?_
      refine m_iast X Y (aw_folding _ _ _ _ _ _ _) (vp_in_nI (by omega) (by decide)) (sw_folding _ _ _ _ _ _ _ _) d_foldOf_37 (fun H locs Y => ?_)
      generalize (upd (B7 21) ((nI i4)).toNatClampNeg (nI 0)) = f70 at Y
      refine lv_iinc (v := (nI (i4 + 1))) (lv' := [(5, .int (nI (i4 + 1))), (4, .ref (q 21)), (3, .int (nI 16)), (0, .ref h), (1, .ref (q 28)), (2, .int (nI 8))]) X.1 X.2.1 d_foldOf_38 hl (k := 0) rfl (nI_add _ 1) (by decide) rfl (fun ls hl => ?_)
      refine lv_goto (tgt := 25) X.1 X.2.1 d_foldOf_41 (by decide) ?_
      exact ih5 (i4 + 1) (upB B7 21 f70) _ _ _ (by omega) (by omega) (fun j h19 h21 => ((if_neg h21).trans (hB8 j h19 h21)))  Y (lv_sub hl [0, 1, 2, 3, 4, 5] rfl)
  exact lp6 (16) 0 B _ _ _ (by omega) (by omega) (fun j h19 h21 => rfl)  Y (lv_sub hl [0, 1, 2, 3, 4, 5] rfl)
set_option maxHeartbeats 4000000 in
set_option maxRecDepth 100000 in
theorem c_derive_16 (l : Launch) (D : mD) (E : mE) (h : Nat) (q : Nat → Nat) (sz : Nat) (I : Nat → Int32) (J : Nat → Int64) (B : Nat → Nat → Int32) (G : Nat → Nat → Int64)  (y12 : by8 (B 12)) (y13 : by8 (B 13)) (y16 : by8 (B 16)) (y17 : by8 (B 17)) : Met l y_derive (k_derive :: lw_tg) (mR 4 95) (va_Pc [.ref h, .ref (q 27), .int (nI 16), .ref (q 28), .int (nI 8), .ref (q 56)] (mPre D E h q (I, J, B, G) sz)) (va_Qv (fun (u : mS) => (∀ j, j ≠ 14 → j ≠ 18 → u.1 j = I j) ∧ u.2.1 = J ∧ (∀ j, j ≠ 12 → j ≠ 13 → j ≠ 15 → j ≠ 16 → j ≠ 17 → j ≠ 19 → j ≠ 20 → j ≠ 21 → j ≠ 56 → u.2.2.1 j = B j) ∧ u.2.2.2 = G ∧ by8 (u.2.2.1 12) ∧ by8 (u.2.2.1 13) ∧ by8 (u.2.2.1 16) ∧ by8 (u.2.2.1 17)) (mPost D E h q (mA E h q sz)) (mA E h q sz)) 0 0 (mA E h q sz) := by
  refine m_enter (by decide) rfl (Nat.le_of_ble_eq_true rfl) (fun p e s m below meth c ls AV QQ H locs hQQ X Y hZ hA hr hlk hml hl => ?_)
  have Y : mH D E (mA E h q sz) s.heap h q I J B G H locs := Y
  have hl : lv_has ls 8 [(0, .ref h), (1, .ref (q 27)), (2, .int (nI 16)), (3, .ref (q 28)), (4, .int (nI 8)), (5, .ref (q 56))] := hl
  refine lv_aload_n X.1 X.2.1 d_derive_0 rfl (lv_at hl 0 rfl) ?_
  refine lv_aload_n X.1 X.2.1 d_derive_1 rfl (lv_at hl 3 rfl) ?_
  refine lv_iload X.1 X.2.1 d_derive_2 (lv_at hl 4 rfl) ?_
  refine m_callv (As := [.ref (q 28), .int (nI 8)]) (rest := []) (n := 2) X Y hZ hA hml hl.1 (c_foldOf_kerberos l D E h q H.size I J B G ) kl_foldOf ks_foldOf kx_foldOf ki_foldOf ini_M hd_foldOf ⟨by decide, by decide⟩ rfl (Nat.le_of_ble_eq_true rfl) d_derive_4 ⟨Nat.le_refl _, Nat.le_refl _⟩ (fun u H locs hp Y => ?_)
  obtain ⟨I1, J2, B3, G4⟩ := u
  obtain ⟨hI5, eJ7, hB6, eG8⟩ := hp
  dsimp only at hI5 eJ7 hB6 eG8 Y
  rw [eJ7, eG8] at Y
  rw [show I1 = I from funext hI5] at Y
  have hB11 : (∀ j, j ≠ 12 → j ≠ 13 → j ≠ 15 → j ≠ 16 → j ≠ 17 → j ≠ 19 → j ≠ 20 → j ≠ 21 → j ≠ 56 → B3 j = B j) := fun j h12 h13 h15 h16 h17 h19 h20 h21 h56 => (hB6 j h19 h21).trans ((fun j h12 h13 h15 h16 h17 h19 h20 h21 h56 => rfl) j h12 h13 h15 h16 h17 h19 h20 h21 h56)
  refine lv_aload_n X.1 X.2.1 d_derive_7 rfl (lv_at hl 0 rfl) ?_
  refine lv_aload_n X.1 X.2.1 d_derive_8 rfl (lv_at hl 1 rfl) ?_
  refine lv_iload_n X.1 X.2.1 d_derive_9 rfl (lv_at hl 2 rfl) ?_
  refine m_callv (As := [.ref (q 27), .int (nI 16)]) (rest := []) (n := 2) X Y hZ hA hml hl.1 (c_aesKey_long0_16 l D E h q H.size I J B3 G  (show by8 (B3 12) from (by8_eq (hB6 12 (by decide) (by decide)) y12)) (show by8 (B3 13) from (by8_eq (hB6 13 (by decide) (by decide)) y13))) kl_aesKey ks_aesKey kx_aesKey ki_aesKey ini_M hd_aesKey ⟨by decide, by decide⟩ rfl (Nat.le_of_ble_eq_true rfl) d_derive_10 ⟨Nat.le_refl _, Nat.le_refl _⟩ (fun u H locs hp Y => ?_)
  obtain ⟨I12, J13, B14, G15⟩ := u
  obtain ⟨hI16, eJ18, hB17, eG19, hk23, y21, y22⟩ := hp
  dsimp only at hI16 eJ18 hB17 eG19 hk23 y21 y22 Y
  rw [eJ18, eG19] at Y
  have hI24 : (∀ j, j ≠ 14 → j ≠ 18 → I12 j = I j) := fun j h14 h18 => (hI16 j h14 h18).trans ((fun j h14 h18 => rfl) j h14 h18)
  have hB25 : (∀ j, j ≠ 12 → j ≠ 13 → j ≠ 15 → j ≠ 16 → j ≠ 17 → j ≠ 19 → j ≠ 20 → j ≠ 21 → j ≠ 56 → B14 j = B j) := fun j h12 h13 h15 h16 h17 h19 h20 h21 h56 => (hB17 j h12 h13 h15).trans ((fun j h12 h13 h15 h16 h17 h19 h20 h21 h56 => (hB11 j h12 h13 h15 h16 h17 h19 h20 h21 h56)) j h12 h13 h15 h16 h17 h19 h20 h21 h56)
  refine lv_iconst (v := (nI 0)) X.1 X.2.1 d_derive_13 (by decide) ?_
  refine lv_istore (lv' := [(6, .int (nI 0)), (0, .ref h), (1, .ref (q 27)), (2, .int (nI 16)), (3, .ref (q 28)), (4, .int (nI 8)), (5, .ref (q 56))]) X.1 X.2.1 d_derive_14 hl (by decide) rfl (fun ls hl => ?_)
  have lp29 : ∀ (n26 i27 : Nat) (B30 : Nat → Nat → Int32) (H : Heap) (locs : List Loc) (ls : Array Slot), i27 + n26 = 16 → 0 ≤ i27 → (∀ j, j ≠ 12 → j ≠ 13 → j ≠ 15 → j ≠ 16 → j ≠ 17 → j ≠ 19 → j ≠ 20 → j ≠ 21 → j ≠ 56 → B30 j = B j) → by8 (B30 16) → by8 (B30 17) → by8 (B30 12) → by8 (B30 13) → mH D E (mA E h q sz) s.heap h q I12 J B30 G H locs → lv_has ls 8 [(6, .int (nI i27)), (0, .ref h), (1, .ref (q 27)), (2, .int (nI 16)), (3, .ref (q 28)), (4, .int (nI 8)), (5, .ref (q 56))] → W p l e (mR 4 95) s m AV below meth c H locs 0 0 QQ (F0 m 16 ls []) := by
    intro n26
    induction n26 with
    | zero =>
      intro i27 B30 H locs ls hii27 hsi27 hB31 y32 y33 y34 y35  Y hl
      refine lv_iload X.1 X.2.1 d_derive_16 (lv_at hl 0 rfl) ?_
      refine lv_bipush (v := (nI 16)) X.1 X.2.1 d_derive_18 (by decide) ?_
      refine lv_icmp_ge (tgt := 47) X.1 X.2.1 d_derive_20 (by decide) (fun c36 => ?_) (fun c36 => absurd ?_ c36)
      rotate_left
      · (rw [nI_leI (by omega) (by omega)] <;> omega)
      rw [nI_leI (by omega) (by omega)] at c36
      refine lv_iconst (v := (nI 0)) X.1 X.2.1 d_derive_47 (by decide) ?_
      refine lv_istore (lv' := [(6, .int (nI 0)), (0, .ref h), (1, .ref (q 27)), (2, .int (nI 16)), (3, .ref (q 28)), (4, .int (nI 8)), (5, .ref (q 56))]) X.1 X.2.1 d_derive_48 hl (by decide) rfl (fun ls hl => ?_)
      have lp40 : ∀ (n37 i38 : Nat) (B41 : Nat → Nat → Int32) (H : Heap) (locs : List Loc) (ls : Array Slot), i38 + 16 * n37 = 16 → 0 ≤ i38 → (∀ j, j ≠ 12 → j ≠ 13 → j ≠ 15 → j ≠ 16 → j ≠ 17 → j ≠ 19 → j ≠ 20 → j ≠ 21 → j ≠ 56 → B41 j = B j) → by8 (B41 16) → by8 (B41 17) → by8 (B41 12) → by8 (B41 13) → mH D E (mA E h q sz) s.heap h q I12 J B41 G H locs → lv_has ls 8 [(6, .int (nI i38)), (0, .ref h), (1, .ref (q 27)), (2, .int (nI 16)), (3, .ref (q 28)), (4, .int (nI 8)), (5, .ref (q 56))] → W p l e (mR 4 95) s m AV below meth c H locs 0 0 QQ (F0 m 50 ls []) := by
        intro n37
        induction n37 with
        | zero =>
          intro i38 B41 H locs ls hii38 hsi38 hB42 y43 y44 y45 y46  Y hl
          refine lv_iload X.1 X.2.1 d_derive_50 (lv_at hl 0 rfl) ?_
          refine lv_iload_n X.1 X.2.1 d_derive_52 rfl (lv_at hl 3 rfl) ?_
          refine lv_icmp_ge (tgt := 100) X.1 X.2.1 d_derive_53 (by decide) (fun c47 => ?_) (fun c47 => absurd ?_ c47)
          rotate_left
          · (rw [nI_leI (by omega) (by omega)] <;> omega)
          rw [nI_leI (by omega) (by omega)] at c47
          refine lv_iconst (v := (nI 0)) X.1 X.2.1 d_derive_100 (by decide) ?_
          refine lv_istore (lv' := [(6, .int (nI 0)), (0, .ref h), (1, .ref (q 27)), (2, .int (nI 16)), (3, .ref (q 28)), (4, .int (nI 8)), (5, .ref (q 56))]) X.1 X.2.1 d_derive_101 hl (by decide) rfl (fun ls hl => ?_)
          have lp51 : ∀ (n48 i49 : Nat) (B52 : Nat → Nat → Int32) (H : Heap) (locs : List Loc) (ls : Array Slot), i49 + n48 = 16 → 0 ≤ i49 → (∀ j, j ≠ 12 → j ≠ 13 → j ≠ 15 → j ≠ 16 → j ≠ 17 → j ≠ 19 → j ≠ 20 → j ≠ 21 → j ≠ 56 → B52 j = B j) → by8 (B52 16) → by8 (B52 17) → by8 (B52 12) → by8 (B52 13) → mH D E (mA E h q sz) s.heap h q I12 J B52 G H locs → lv_has ls 8 [(6, .int (nI i49)), (0, .ref h), (1, .ref (q 27)), (2, .int (nI 16)), (3, .ref (q 28)), (4, .int (nI 8)), (5, .ref (q 56))] → W p l e (mR 4 95) s m AV below meth c H locs 0 0 QQ (F0 m 103 ls []) := by
            intro n48
            induction n48 with
            | zero =>
              intro i49 B52 H locs ls hii49 hsi49 hB53 y54 y55 y56 y57  Y hl
              refine lv_iload X.1 X.2.1 d_derive_103 (lv_at hl 0 rfl) ?_
              refine lv_iload_n X.1 X.2.1 d_derive_105 rfl (lv_at hl 3 rfl) ?_
              refine lv_icmp_ge (tgt := 127) X.1 X.2.1 d_derive_106 (by decide) (fun c58 => ?_) (fun c58 => absurd ?_ c58)
              rotate_left
              · (rw [nI_leI (by omega) (by omega)] <;> omega)
              rw [nI_leI (by omega) (by omega)] at c58
              exact m_retv hQQ X Y hr hlk ⟨(fun j h14 h18 => (hI24 j h14 h18)), rfl, (fun j h12 h13 h15 h16 h17 h19 h20 h21 h56 => (hB53 j h12 h13 h15 h16 h17 h19 h20 h21 h56)), rfl, (show by8 (B52 12) from y56), (show by8 (B52 13) from y57), (show by8 (B52 16) from y54), (show by8 (B52 17) from y55)⟩ d_derive_127
            | succ n48 ih50 =>
              intro i49 B52 H locs ls hii49 hsi49 hB53 y54 y55 y56 y57  Y hl
              refine lv_iload X.1 X.2.1 d_derive_103 (lv_at hl 0 rfl) ?_
              refine lv_iload_n X.1 X.2.1 d_derive_105 rfl (lv_at hl 3 rfl) ?_
              refine lv_icmp_ge (tgt := 127) X.1 X.2.1 d_derive_106 (by decide) (fun c59 => absurd c59 ?_) (fun c59 => ?_)
              · (rw [nI_leI (by omega) (by omega)] <;> omega)
              rw [nI_leI (by omega) (by omega)] at c59
              refine lv_aload X.1 X.2.1 d_derive_109 (lv_at hl 6 rfl) ?_
              refine lv_iload X.1 X.2.1 d_derive_111 (lv_at hl 0 rfl) ?_
              refine lv_aload_n X.1 X.2.1 d_derive_113 rfl (lv_at hl 1 rfl) ?_
              refine m_get X Y 20 (by decide) lk_derived (gf_derived _ _ _) rfl d_derive_114 ?_
              refine lv_iload X.1 X.2.1 d_derive_117 (lv_at hl 0 rfl) ?_
              refine m_bald X Y (aw_derived _ _ _ _ _ _ _) (vp_in_nI (by omega) (by decide)) d_derive_119 ?_
              refine t_any (fun v60 => ?_)
              refine m_bast X Y (aw_made _ _ _ _ _ _ _) (vp_in_nI (by omega) (by decide)) (sw_made _ _ _ _ _ _ _ _) d_derive_120 (fun H locs Y => ?_)
              generalize (upd (B52 56) ((nI i49)).toNatClampNeg (vp_nar .byte v60)) = f61 at Y
              refine lv_iinc (v := (nI (i49 + 1))) (lv' := [(6, .int (nI (i49 + 1))), (0, .ref h), (1, .ref (q 27)), (2, .int (nI 16)), (3, .ref (q 28)), (4, .int (nI 8)), (5, .ref (q 56))]) X.1 X.2.1 d_derive_121 hl (k := 0) rfl (nI_add _ 1) (by decide) rfl (fun ls hl => ?_)
              refine lv_goto (tgt := 103) X.1 X.2.1 d_derive_124 (by decide) ?_
              exact ih50 (i49 + 1) (upB B52 56 f61) _ _ _ (by omega) (by omega) (fun j h12 h13 h15 h16 h17 h19 h20 h21 h56 => ((if_neg h56).trans (hB53 j h12 h13 h15 h16 h17 h19 h20 h21 h56))) (show by8 ((upB B52 56 f61) 16) from y54) (show by8 ((upB B52 56 f61) 17) from y55) (show by8 ((upB B52 56 f61) 12) from y56) (show by8 ((upB B52 56 f61) 13) from y57)  Y (lv_sub hl [0, 1, 2, 3, 4, 5, 6] rfl)
          exact lp51 (16) 0 B41 _ _ _ (by omega) (by omega) (fun j h12 h13 h15 h16 h17 h19 h20 h21 h56 => (hB42 j h12 h13 h15 h16 h17 h19 h20 h21 h56)) (show by8 (B41 16) from y43) (show by8 (B41 17) from y44) (show by8 (B41 12) from y45) (show by8 (B41 13) from y46)  Y (lv_sub hl [0, 1, 2, 3, 4, 5, 6] rfl)
        | succ n37 ih39 =>
          intro i38 B41 H locs ls hii38 hsi38 hB42 y43 y44 y45 y46  Y hl
          refine lv_iload X.1 X.2.1 d_derive_50 (lv_at hl 0 rfl) ?_
          refine lv_iload_n X.1 X.2.1 d_derive_52 rfl (lv_at hl 3 rfl) ?_
          refine lv_icmp_ge (tgt := 100) X.1 X.2.1 d_derive_53 (by decide) (fun c62 => absurd c62 ?_) (fun c62 => ?_)
          · (rw [nI_leI (by omega) (by omega)] <;> omega)
          rw [nI_leI (by omega) (by omega)] at c62
          refine lv_aload_n X.1 X.2.1 d_derive_56 rfl (lv_at hl 1 rfl) ?_
          refine m_callv (As := []) (rest := []) (n := 0) X Y hZ hA hml hl.1 (c_cover l D E h q H.size I12 J B41 G (10) hk23 (by omega) (show by8 (B41 12) from y45) (show by8 (B41 16) from y43) (show by8 (B41 17) from y44)) kl_cover ks_cover kx_cover ki_cover ini_M hd_cover ⟨by decide, by decide⟩ rfl (Nat.le_of_ble_eq_true rfl) d_derive_57 ⟨Nat.le_refl _, Nat.le_refl _⟩ (fun u H locs hp Y => ?_)
          obtain ⟨I63, J64, B65, G66⟩ := u
          obtain ⟨hI67, eJ69, hB68, eG70, y72, y73⟩ := hp
          dsimp only at hI67 eJ69 hB68 eG70 y72 y73 Y
          rw [eJ69, eG70] at Y
          rw [show I63 = I12 from funext hI67] at Y
          have hB75 : (∀ j, j ≠ 12 → j ≠ 13 → j ≠ 15 → j ≠ 16 → j ≠ 17 → j ≠ 19 → j ≠ 20 → j ≠ 21 → j ≠ 56 → B65 j = B j) := fun j h12 h13 h15 h16 h17 h19 h20 h21 h56 => (hB68 j h16 h17).trans ((fun j h12 h13 h15 h16 h17 h19 h20 h21 h56 => (hB42 j h12 h13 h15 h16 h17 h19 h20 h21 h56)) j h12 h13 h15 h16 h17 h19 h20 h21 h56)
          refine lv_iconst (v := (nI 0)) X.1 X.2.1 d_derive_60 (by decide) ?_
          refine lv_istore (lv' := [(7, .int (nI 0)), (6, .int (nI i38)), (0, .ref h), (1, .ref (q 27)), (2, .int (nI 16)), (3, .ref (q 28)), (4, .int (nI 8)), (5, .ref (q 56))]) X.1 X.2.1 d_derive_61 hl (by decide) rfl (fun ls hl => ?_)
          have lp79 : ∀ (n76 i77 : Nat) (B80 : Nat → Nat → Int32) (H : Heap) (locs : List Loc) (ls : Array Slot), i77 + n76 = 16 → 0 ≤ i77 → (∀ j, j ≠ 12 → j ≠ 13 → j ≠ 15 → j ≠ 16 → j ≠ 17 → j ≠ 19 → j ≠ 20 → j ≠ 21 → j ≠ 56 → B80 j = B j) → by8 (B80 12) → by8 (B80 13) → by8 (B80 16) → by8 (B80 17) → mH D E (mA E h q sz) s.heap h q I12 J B80 G H locs → lv_has ls 8 [(7, .int (nI i77)), (6, .int (nI i38)), (0, .ref h), (1, .ref (q 27)), (2, .int (nI 16)), (3, .ref (q 28)), (4, .int (nI 8)), (5, .ref (q 56))] → W p l e (mR 4 95) s m AV below meth c H locs 0 0 QQ (F0 m 63 ls []) := by
            intro n76
            induction n76 with
            | zero =>
              intro i77 B80 H locs ls hii77 hsi77 hB81 y82 y83 y84 y85  Y hl
              refine lv_iload X.1 X.2.1 d_derive_63 (lv_at hl 0 rfl) ?_
              refine lv_bipush (v := (nI 16)) X.1 X.2.1 d_derive_65 (by decide) ?_
              refine lv_icmp_ge (tgt := 94) X.1 X.2.1 d_derive_67 (by decide) (fun c86 => ?_) (fun c86 => absurd ?_ c86)
              rotate_left
              · (rw [nI_leI (by omega) (by omega)] <;> omega)
              rw [nI_leI (by omega) (by omega)] at c86
              refine lv_iinc (v := (nI (i38 + 16))) (lv' := [(6, .int (nI (i38 + 16))), (7, .int (nI i77)), (0, .ref h), (1, .ref (q 27)), (2, .int (nI 16)), (3, .ref (q 28)), (4, .int (nI 8)), (5, .ref (q 56))]) X.1 X.2.1 d_derive_94 hl (k := 1) rfl (nI_add _ 16) (by decide) rfl (fun ls hl => ?_)
              refine lv_goto (tgt := 50) X.1 X.2.1 d_derive_97 (by decide) ?_
              exact ih39 (i38 + 16) B80 _ _ _ (by omega) (by omega) (fun j h12 h13 h15 h16 h17 h19 h20 h21 h56 => (hB81 j h12 h13 h15 h16 h17 h19 h20 h21 h56)) (show by8 (B80 16) from y84) (show by8 (B80 17) from y85) (show by8 (B80 12) from y82) (show by8 (B80 13) from y83)  Y (lv_sub hl [0, 2, 3, 4, 5, 6, 7] rfl)
            | succ n76 ih78 =>
              intro i77 B80 H locs ls hii77 hsi77 hB81 y82 y83 y84 y85  Y hl
              refine lv_iload X.1 X.2.1 d_derive_63 (lv_at hl 0 rfl) ?_
              refine lv_bipush (v := (nI 16)) X.1 X.2.1 d_derive_65 (by decide) ?_
              refine lv_icmp_ge (tgt := 94) X.1 X.2.1 d_derive_67 (by decide) (fun c87 => absurd c87 ?_) (fun c87 => ?_)
              · (rw [nI_leI (by omega) (by omega)] <;> omega)
              rw [nI_leI (by omega) (by omega)] at c87
              refine lv_aload_n X.1 X.2.1 d_derive_70 rfl (lv_at hl 2 rfl) ?_
              refine m_get X Y 20 (by decide) lk_derived (gf_derived _ _ _) rfl d_derive_71 ?_
              refine lv_iload X.1 X.2.1 d_derive_74 (lv_at hl 1 rfl) ?_
              refine lv_iload X.1 X.2.1 d_derive_76 (lv_at hl 0 rfl) ?_
              refine lv_iadd X.1 X.2.1 d_derive_78 ?_
              refine t_eq (y := nI (i38 + i77)) (nI_add _ _) ?_
              refine lv_aload_n X.1 X.2.1 d_derive_79 rfl (lv_at hl 2 rfl) ?_
              refine m_get X Y 16 (by decide) lk_state (gf_state _ _ _) rfl d_derive_80 ?_
              refine lv_iload X.1 X.2.1 d_derive_83 (lv_at hl 0 rfl) ?_
              refine m_iald X Y (aw_state _ _ _ _ _ _ _) (vp_in_nI (by omega) (by decide)) d_derive_85 ?_
              obtain ⟨j88, hj88, ej88⟩ := y84 ((nI i77)).toNatClampNeg
              refine t_eq (show B80 16 ((nI i77)).toNatClampNeg = nI j88 from ej88) ?_
              obtain ⟨v89, ev89⟩ : ∃ z : Int32, ((nI j88) : Int32).toInt8.toInt32 = z := ⟨_, rfl⟩
              refine lv_i2b (v := v89) X.1 X.2.1 d_derive_86 ev89 ?_
              refine m_bast X Y (aw_derived _ _ _ _ _ _ _) (vp_in_nI (by omega) (by decide)) (sw_derived _ _ _ _ _ _ _ _) d_derive_87 (fun H locs Y => ?_)
              generalize (upd (B80 20) ((nI (i38 + i77))).toNatClampNeg (vp_nar .byte v89)) = f90 at Y
              refine lv_iinc (v := (nI (i77 + 1))) (lv' := [(7, .int (nI (i77 + 1))), (6, .int (nI i38)), (0, .ref h), (1, .ref (q 27)), (2, .int (nI 16)), (3, .ref (q 28)), (4, .int (nI 8)), (5, .ref (q 56))]) X.1 X.2.1 d_derive_88 hl (k := 0) rfl (nI_add _ 1) (by decide) rfl (fun ls hl => ?_)
              refine lv_goto (tgt := 63) X.1 X.2.1 d_derive_91 (by decide) ?_
              exact ih78 (i77 + 1) (upB B80 20 f90) _ _ _ (by omega) (by omega) (fun j h12 h13 h15 h16 h17 h19 h20 h21 h56 => ((if_neg h20).trans (hB81 j h12 h13 h15 h16 h17 h19 h20 h21 h56))) (show by8 ((upB B80 20 f90) 12) from y82) (show by8 ((upB B80 20 f90) 13) from y83) (show by8 ((upB B80 20 f90) 16) from y84) (show by8 ((upB B80 20 f90) 17) from y85)  Y (lv_sub hl [0, 1, 2, 3, 4, 5, 6, 7] rfl)
          exact lp79 (16) 0 B65 _ _ _ (by omega) (by omega) (fun j h12 h13 h15 h16 h17 h19 h20 h21 h56 => (hB75 j h12 h13 h15 h16 h17 h19 h20 h21 h56)) (show by8 (B65 12) from (by8_eq (hB68 12 (by decide) (by decide)) y45)) (show by8 (B65 13) from (by8_eq (hB68 13 (by decide) (by decide)) y46)) (show by8 (B65 16) from y72) (show by8 (B65 17) from y73)  Y (lv_sub hl [0, 1, 2, 3, 4, 5, 6, 7] rfl)
      exact lp40 ((16) / 16) 0 B30 _ _ _ (by omega) (by omega) (fun j h12 h13 h15 h16 h17 h19 h20 h21 h56 => (hB31 j h12 h13 h15 h16 h17 h19 h20 h21 h56)) (show by8 (B30 16) from y32) (show by8 (B30 17) from y33) (show by8 (B30 12) from y34) (show by8 (B30 13) from y35)  Y (lv_sub hl [0, 1, 2, 3, 4, 5, 6] rfl)
    | succ n26 ih28 =>
      intro i27 B30 H locs ls hii27 hsi27 hB31 y32 y33 y34 y35  Y hl
      refine lv_iload X.1 X.2.1 d_derive_16 (lv_at hl 0 rfl) ?_
      refine lv_bipush (v := (nI 16)) X.1 X.2.1 d_derive_18 (by decide) ?_
      refine lv_icmp_ge (tgt := 47) X.1 X.2.1 d_derive_20 (by decide) (fun c91 => absurd c91 ?_) (fun c91 => ?_)
      · (rw [nI_leI (by omega) (by omega)] <;> omega)
      rw [nI_leI (by omega) (by omega)] at c91
      refine lv_aload_n X.1 X.2.1 d_derive_23 rfl (lv_at hl 1 rfl) ?_
      refine m_get X Y 16 (by decide) lk_state (gf_state _ _ _) rfl d_derive_24 ?_
      refine lv_iload X.1 X.2.1 d_derive_27 (lv_at hl 0 rfl) ?_
      refine lv_aload_n X.1 X.2.1 d_derive_29 rfl (lv_at hl 1 rfl) ?_
      refine m_get X Y 19 (by decide) lk_fold (gf_fold _ _ _) rfl d_derive_30 ?_
      refine lv_iload X.1 X.2.1 d_derive_33 (lv_at hl 0 rfl) ?_
      refine m_bald X Y (aw_fold _ _ _ _ _ _ _) (vp_in_nI (by omega) (by decide)) d_derive_35 ?_
      refine t_any (fun v92 => ?_)
      refine lv_sipush (v := (nI 255)) X.1 X.2.1 d_derive_36 (by decide) ?_
      refine lv_iand X.1 X.2.1 d_derive_39 ?_
      obtain ⟨j93, hj93, ej93⟩ := pk_andE v92 (m := nI 255) 8 (by decide)
      refine t_eq ej93 ?_
      have hj93 : j93 < 256 := hj93
      refine m_iast X Y (aw_state _ _ _ _ _ _ _) (vp_in_nI (by omega) (by decide)) (sw_state _ _ _ _ _ _ _ _) d_derive_40 (fun H locs Y => ?_)
      have y95 : by8 (upd (B30 16) ((nI i27)).toNatClampNeg (nI j93)) := by8_upd y32 (show j93 < 256 by omega)
      generalize (upd (B30 16) ((nI i27)).toNatClampNeg (nI j93)) = f94 at Y y95
      refine lv_iinc (v := (nI (i27 + 1))) (lv' := [(6, .int (nI (i27 + 1))), (0, .ref h), (1, .ref (q 27)), (2, .int (nI 16)), (3, .ref (q 28)), (4, .int (nI 8)), (5, .ref (q 56))]) X.1 X.2.1 d_derive_41 hl (k := 0) rfl (nI_add _ 1) (by decide) rfl (fun ls hl => ?_)
      refine lv_goto (tgt := 16) X.1 X.2.1 d_derive_44 (by decide) ?_
      exact ih28 (i27 + 1) (upB B30 16 f94) _ _ _ (by omega) (by omega) (fun j h12 h13 h15 h16 h17 h19 h20 h21 h56 => ((if_neg h16).trans (hB31 j h12 h13 h15 h16 h17 h19 h20 h21 h56))) (show by8 ((upB B30 16 f94) 16) from y95) (show by8 ((upB B30 16 f94) 17) from y33) (show by8 ((upB B30 16 f94) 12) from y34) (show by8 ((upB B30 16 f94) 13) from y35)  Y (lv_sub hl [0, 1, 2, 3, 4, 5, 6] rfl)
  exact lp29 (16) 0 B14 _ _ _ (by omega) (by omega) (fun j h12 h13 h15 h16 h17 h19 h20 h21 h56 => (hB25 j h12 h13 h15 h16 h17 h19 h20 h21 h56)) (show by8 (B14 16) from (by8_eq (hB17 16 (by decide) (by decide) (by decide)) (by8_eq (hB6 16 (by decide) (by decide)) y16))) (show by8 (B14 17) from (by8_eq (hB17 17 (by decide) (by decide) (by decide)) (by8_eq (hB6 17 (by decide) (by decide)) y17))) (show by8 (B14 12) from y21) (show by8 (B14 13) from y22)  Y (lv_sub hl [0, 1, 2, 3, 4, 5, 6] rfl)
set_option maxHeartbeats 4000000 in
set_option maxRecDepth 100000 in
theorem c_derive_32 (l : Launch) (D : mD) (E : mE) (h : Nat) (q : Nat → Nat) (sz : Nat) (I : Nat → Int32) (J : Nat → Int64) (B : Nat → Nat → Int32) (G : Nat → Nat → Int64)  (y12 : by8 (B 12)) (y13 : by8 (B 13)) (y16 : by8 (B 16)) (y17 : by8 (B 17)) : Met l y_derive (k_derive :: lw_tg) (mR 4 95) (va_Pc [.ref h, .ref (q 27), .int (nI 32), .ref (q 28), .int (nI 8), .ref (q 56)] (mPre D E h q (I, J, B, G) sz)) (va_Qv (fun (u : mS) => (∀ j, j ≠ 14 → j ≠ 18 → u.1 j = I j) ∧ u.2.1 = J ∧ (∀ j, j ≠ 12 → j ≠ 13 → j ≠ 15 → j ≠ 16 → j ≠ 17 → j ≠ 19 → j ≠ 20 → j ≠ 21 → j ≠ 56 → u.2.2.1 j = B j) ∧ u.2.2.2 = G ∧ by8 (u.2.2.1 12) ∧ by8 (u.2.2.1 13) ∧ by8 (u.2.2.1 16) ∧ by8 (u.2.2.1 17)) (mPost D E h q (mA E h q sz)) (mA E h q sz)) 0 0 (mA E h q sz) := by
  refine m_enter (by decide) rfl (Nat.le_of_ble_eq_true rfl) (fun p e s m below meth c ls AV QQ H locs hQQ X Y hZ hA hr hlk hml hl => ?_)
  have Y : mH D E (mA E h q sz) s.heap h q I J B G H locs := Y
  have hl : lv_has ls 8 [(0, .ref h), (1, .ref (q 27)), (2, .int (nI 32)), (3, .ref (q 28)), (4, .int (nI 8)), (5, .ref (q 56))] := hl
  refine lv_aload_n X.1 X.2.1 d_derive_0 rfl (lv_at hl 0 rfl) ?_
  refine lv_aload_n X.1 X.2.1 d_derive_1 rfl (lv_at hl 3 rfl) ?_
  refine lv_iload X.1 X.2.1 d_derive_2 (lv_at hl 4 rfl) ?_
  refine m_callv (As := [.ref (q 28), .int (nI 8)]) (rest := []) (n := 2) X Y hZ hA hml hl.1 (c_foldOf_kerberos l D E h q H.size I J B G ) kl_foldOf ks_foldOf kx_foldOf ki_foldOf ini_M hd_foldOf ⟨by decide, by decide⟩ rfl (Nat.le_of_ble_eq_true rfl) d_derive_4 ⟨Nat.le_refl _, Nat.le_refl _⟩ (fun u H locs hp Y => ?_)
  obtain ⟨I1, J2, B3, G4⟩ := u
  obtain ⟨hI5, eJ7, hB6, eG8⟩ := hp
  dsimp only at hI5 eJ7 hB6 eG8 Y
  rw [eJ7, eG8] at Y
  rw [show I1 = I from funext hI5] at Y
  have hB11 : (∀ j, j ≠ 12 → j ≠ 13 → j ≠ 15 → j ≠ 16 → j ≠ 17 → j ≠ 19 → j ≠ 20 → j ≠ 21 → j ≠ 56 → B3 j = B j) := fun j h12 h13 h15 h16 h17 h19 h20 h21 h56 => (hB6 j h19 h21).trans ((fun j h12 h13 h15 h16 h17 h19 h20 h21 h56 => rfl) j h12 h13 h15 h16 h17 h19 h20 h21 h56)
  refine lv_aload_n X.1 X.2.1 d_derive_7 rfl (lv_at hl 0 rfl) ?_
  refine lv_aload_n X.1 X.2.1 d_derive_8 rfl (lv_at hl 1 rfl) ?_
  refine lv_iload_n X.1 X.2.1 d_derive_9 rfl (lv_at hl 2 rfl) ?_
  refine m_callv (As := [.ref (q 27), .int (nI 32)]) (rest := []) (n := 2) X Y hZ hA hml hl.1 (c_aesKey_long0_32 l D E h q H.size I J B3 G  (show by8 (B3 12) from (by8_eq (hB6 12 (by decide) (by decide)) y12)) (show by8 (B3 13) from (by8_eq (hB6 13 (by decide) (by decide)) y13))) kl_aesKey ks_aesKey kx_aesKey ki_aesKey ini_M hd_aesKey ⟨by decide, by decide⟩ rfl (Nat.le_of_ble_eq_true rfl) d_derive_10 ⟨Nat.le_refl _, Nat.le_refl _⟩ (fun u H locs hp Y => ?_)
  obtain ⟨I12, J13, B14, G15⟩ := u
  obtain ⟨hI16, eJ18, hB17, eG19, hk23, y21, y22⟩ := hp
  dsimp only at hI16 eJ18 hB17 eG19 hk23 y21 y22 Y
  rw [eJ18, eG19] at Y
  have hI24 : (∀ j, j ≠ 14 → j ≠ 18 → I12 j = I j) := fun j h14 h18 => (hI16 j h14 h18).trans ((fun j h14 h18 => rfl) j h14 h18)
  have hB25 : (∀ j, j ≠ 12 → j ≠ 13 → j ≠ 15 → j ≠ 16 → j ≠ 17 → j ≠ 19 → j ≠ 20 → j ≠ 21 → j ≠ 56 → B14 j = B j) := fun j h12 h13 h15 h16 h17 h19 h20 h21 h56 => (hB17 j h12 h13 h15).trans ((fun j h12 h13 h15 h16 h17 h19 h20 h21 h56 => (hB11 j h12 h13 h15 h16 h17 h19 h20 h21 h56)) j h12 h13 h15 h16 h17 h19 h20 h21 h56)
  refine lv_iconst (v := (nI 0)) X.1 X.2.1 d_derive_13 (by decide) ?_
  refine lv_istore (lv' := [(6, .int (nI 0)), (0, .ref h), (1, .ref (q 27)), (2, .int (nI 32)), (3, .ref (q 28)), (4, .int (nI 8)), (5, .ref (q 56))]) X.1 X.2.1 d_derive_14 hl (by decide) rfl (fun ls hl => ?_)
  have lp29 : ∀ (n26 i27 : Nat) (B30 : Nat → Nat → Int32) (H : Heap) (locs : List Loc) (ls : Array Slot), i27 + n26 = 16 → 0 ≤ i27 → (∀ j, j ≠ 12 → j ≠ 13 → j ≠ 15 → j ≠ 16 → j ≠ 17 → j ≠ 19 → j ≠ 20 → j ≠ 21 → j ≠ 56 → B30 j = B j) → by8 (B30 16) → by8 (B30 17) → by8 (B30 12) → by8 (B30 13) → mH D E (mA E h q sz) s.heap h q I12 J B30 G H locs → lv_has ls 8 [(6, .int (nI i27)), (0, .ref h), (1, .ref (q 27)), (2, .int (nI 32)), (3, .ref (q 28)), (4, .int (nI 8)), (5, .ref (q 56))] → W p l e (mR 4 95) s m AV below meth c H locs 0 0 QQ (F0 m 16 ls []) := by
    intro n26
    induction n26 with
    | zero =>
      intro i27 B30 H locs ls hii27 hsi27 hB31 y32 y33 y34 y35  Y hl
      refine lv_iload X.1 X.2.1 d_derive_16 (lv_at hl 0 rfl) ?_
      refine lv_bipush (v := (nI 16)) X.1 X.2.1 d_derive_18 (by decide) ?_
      refine lv_icmp_ge (tgt := 47) X.1 X.2.1 d_derive_20 (by decide) (fun c36 => ?_) (fun c36 => absurd ?_ c36)
      rotate_left
      · (rw [nI_leI (by omega) (by omega)] <;> omega)
      rw [nI_leI (by omega) (by omega)] at c36
      refine lv_iconst (v := (nI 0)) X.1 X.2.1 d_derive_47 (by decide) ?_
      refine lv_istore (lv' := [(6, .int (nI 0)), (0, .ref h), (1, .ref (q 27)), (2, .int (nI 32)), (3, .ref (q 28)), (4, .int (nI 8)), (5, .ref (q 56))]) X.1 X.2.1 d_derive_48 hl (by decide) rfl (fun ls hl => ?_)
      have lp40 : ∀ (n37 i38 : Nat) (B41 : Nat → Nat → Int32) (H : Heap) (locs : List Loc) (ls : Array Slot), i38 + 16 * n37 = 32 → 0 ≤ i38 → (∀ j, j ≠ 12 → j ≠ 13 → j ≠ 15 → j ≠ 16 → j ≠ 17 → j ≠ 19 → j ≠ 20 → j ≠ 21 → j ≠ 56 → B41 j = B j) → by8 (B41 16) → by8 (B41 17) → by8 (B41 12) → by8 (B41 13) → mH D E (mA E h q sz) s.heap h q I12 J B41 G H locs → lv_has ls 8 [(6, .int (nI i38)), (0, .ref h), (1, .ref (q 27)), (2, .int (nI 32)), (3, .ref (q 28)), (4, .int (nI 8)), (5, .ref (q 56))] → W p l e (mR 4 95) s m AV below meth c H locs 0 0 QQ (F0 m 50 ls []) := by
        intro n37
        induction n37 with
        | zero =>
          intro i38 B41 H locs ls hii38 hsi38 hB42 y43 y44 y45 y46  Y hl
          refine lv_iload X.1 X.2.1 d_derive_50 (lv_at hl 0 rfl) ?_
          refine lv_iload_n X.1 X.2.1 d_derive_52 rfl (lv_at hl 3 rfl) ?_
          refine lv_icmp_ge (tgt := 100) X.1 X.2.1 d_derive_53 (by decide) (fun c47 => ?_) (fun c47 => absurd ?_ c47)
          rotate_left
          · (rw [nI_leI (by omega) (by omega)] <;> omega)
          rw [nI_leI (by omega) (by omega)] at c47
          refine lv_iconst (v := (nI 0)) X.1 X.2.1 d_derive_100 (by decide) ?_
          refine lv_istore (lv' := [(6, .int (nI 0)), (0, .ref h), (1, .ref (q 27)), (2, .int (nI 32)), (3, .ref (q 28)), (4, .int (nI 8)), (5, .ref (q 56))]) X.1 X.2.1 d_derive_101 hl (by decide) rfl (fun ls hl => ?_)
          have lp51 : ∀ (n48 i49 : Nat) (B52 : Nat → Nat → Int32) (H : Heap) (locs : List Loc) (ls : Array Slot), i49 + n48 = 32 → 0 ≤ i49 → (∀ j, j ≠ 12 → j ≠ 13 → j ≠ 15 → j ≠ 16 → j ≠ 17 → j ≠ 19 → j ≠ 20 → j ≠ 21 → j ≠ 56 → B52 j = B j) → by8 (B52 16) → by8 (B52 17) → by8 (B52 12) → by8 (B52 13) → mH D E (mA E h q sz) s.heap h q I12 J B52 G H locs → lv_has ls 8 [(6, .int (nI i49)), (0, .ref h), (1, .ref (q 27)), (2, .int (nI 32)), (3, .ref (q 28)), (4, .int (nI 8)), (5, .ref (q 56))] → W p l e (mR 4 95) s m AV below meth c H locs 0 0 QQ (F0 m 103 ls []) := by
            intro n48
            induction n48 with
            | zero =>
              intro i49 B52 H locs ls hii49 hsi49 hB53 y54 y55 y56 y57  Y hl
              refine lv_iload X.1 X.2.1 d_derive_103 (lv_at hl 0 rfl) ?_
              refine lv_iload_n X.1 X.2.1 d_derive_105 rfl (lv_at hl 3 rfl) ?_
              refine lv_icmp_ge (tgt := 127) X.1 X.2.1 d_derive_106 (by decide) (fun c58 => ?_) (fun c58 => absurd ?_ c58)
              rotate_left
              · (rw [nI_leI (by omega) (by omega)] <;> omega)
              rw [nI_leI (by omega) (by omega)] at c58
              exact m_retv hQQ X Y hr hlk ⟨(fun j h14 h18 => (hI24 j h14 h18)), rfl, (fun j h12 h13 h15 h16 h17 h19 h20 h21 h56 => (hB53 j h12 h13 h15 h16 h17 h19 h20 h21 h56)), rfl, (show by8 (B52 12) from y56), (show by8 (B52 13) from y57), (show by8 (B52 16) from y54), (show by8 (B52 17) from y55)⟩ d_derive_127
            | succ n48 ih50 =>
              intro i49 B52 H locs ls hii49 hsi49 hB53 y54 y55 y56 y57  Y hl
              refine lv_iload X.1 X.2.1 d_derive_103 (lv_at hl 0 rfl) ?_
              refine lv_iload_n X.1 X.2.1 d_derive_105 rfl (lv_at hl 3 rfl) ?_
              refine lv_icmp_ge (tgt := 127) X.1 X.2.1 d_derive_106 (by decide) (fun c59 => absurd c59 ?_) (fun c59 => ?_)
              · (rw [nI_leI (by omega) (by omega)] <;> omega)
              rw [nI_leI (by omega) (by omega)] at c59
              refine lv_aload X.1 X.2.1 d_derive_109 (lv_at hl 6 rfl) ?_
              refine lv_iload X.1 X.2.1 d_derive_111 (lv_at hl 0 rfl) ?_
              refine lv_aload_n X.1 X.2.1 d_derive_113 rfl (lv_at hl 1 rfl) ?_
              refine m_get X Y 20 (by decide) lk_derived (gf_derived _ _ _) rfl d_derive_114 ?_
              refine lv_iload X.1 X.2.1 d_derive_117 (lv_at hl 0 rfl) ?_
              refine m_bald X Y (aw_derived _ _ _ _ _ _ _) (vp_in_nI (by omega) (by decide)) d_derive_119 ?_
              refine t_any (fun v60 => ?_)
              refine m_bast X Y (aw_made _ _ _ _ _ _ _) (vp_in_nI (by omega) (by decide)) (sw_made _ _ _ _ _ _ _ _) d_derive_120 (fun H locs Y => ?_)
              generalize (upd (B52 56) ((nI i49)).toNatClampNeg (vp_nar .byte v60)) = f61 at Y
              refine lv_iinc (v := (nI (i49 + 1))) (lv' := [(6, .int (nI (i49 + 1))), (0, .ref h), (1, .ref (q 27)), (2, .int (nI 32)), (3, .ref (q 28)), (4, .int (nI 8)), (5, .ref (q 56))]) X.1 X.2.1 d_derive_121 hl (k := 0) rfl (nI_add _ 1) (by decide) rfl (fun ls hl => ?_)
              refine lv_goto (tgt := 103) X.1 X.2.1 d_derive_124 (by decide) ?_
              exact ih50 (i49 + 1) (upB B52 56 f61) _ _ _ (by omega) (by omega) (fun j h12 h13 h15 h16 h17 h19 h20 h21 h56 => ((if_neg h56).trans (hB53 j h12 h13 h15 h16 h17 h19 h20 h21 h56))) (show by8 ((upB B52 56 f61) 16) from y54) (show by8 ((upB B52 56 f61) 17) from y55) (show by8 ((upB B52 56 f61) 12) from y56) (show by8 ((upB B52 56 f61) 13) from y57)  Y (lv_sub hl [0, 1, 2, 3, 4, 5, 6] rfl)
          exact lp51 (32) 0 B41 _ _ _ (by omega) (by omega) (fun j h12 h13 h15 h16 h17 h19 h20 h21 h56 => (hB42 j h12 h13 h15 h16 h17 h19 h20 h21 h56)) (show by8 (B41 16) from y43) (show by8 (B41 17) from y44) (show by8 (B41 12) from y45) (show by8 (B41 13) from y46)  Y (lv_sub hl [0, 1, 2, 3, 4, 5, 6] rfl)
        | succ n37 ih39 =>
          intro i38 B41 H locs ls hii38 hsi38 hB42 y43 y44 y45 y46  Y hl
          refine lv_iload X.1 X.2.1 d_derive_50 (lv_at hl 0 rfl) ?_
          refine lv_iload_n X.1 X.2.1 d_derive_52 rfl (lv_at hl 3 rfl) ?_
          refine lv_icmp_ge (tgt := 100) X.1 X.2.1 d_derive_53 (by decide) (fun c62 => absurd c62 ?_) (fun c62 => ?_)
          · (rw [nI_leI (by omega) (by omega)] <;> omega)
          rw [nI_leI (by omega) (by omega)] at c62
          refine lv_aload_n X.1 X.2.1 d_derive_56 rfl (lv_at hl 1 rfl) ?_
          refine m_callv (As := []) (rest := []) (n := 0) X Y hZ hA hml hl.1 (c_cover l D E h q H.size I12 J B41 G (14) hk23 (by omega) (show by8 (B41 12) from y45) (show by8 (B41 16) from y43) (show by8 (B41 17) from y44)) kl_cover ks_cover kx_cover ki_cover ini_M hd_cover ⟨by decide, by decide⟩ rfl (Nat.le_of_ble_eq_true rfl) d_derive_57 ⟨Nat.le_refl _, Nat.le_refl _⟩ (fun u H locs hp Y => ?_)
          obtain ⟨I63, J64, B65, G66⟩ := u
          obtain ⟨hI67, eJ69, hB68, eG70, y72, y73⟩ := hp
          dsimp only at hI67 eJ69 hB68 eG70 y72 y73 Y
          rw [eJ69, eG70] at Y
          rw [show I63 = I12 from funext hI67] at Y
          have hB75 : (∀ j, j ≠ 12 → j ≠ 13 → j ≠ 15 → j ≠ 16 → j ≠ 17 → j ≠ 19 → j ≠ 20 → j ≠ 21 → j ≠ 56 → B65 j = B j) := fun j h12 h13 h15 h16 h17 h19 h20 h21 h56 => (hB68 j h16 h17).trans ((fun j h12 h13 h15 h16 h17 h19 h20 h21 h56 => (hB42 j h12 h13 h15 h16 h17 h19 h20 h21 h56)) j h12 h13 h15 h16 h17 h19 h20 h21 h56)
          refine lv_iconst (v := (nI 0)) X.1 X.2.1 d_derive_60 (by decide) ?_
          refine lv_istore (lv' := [(7, .int (nI 0)), (6, .int (nI i38)), (0, .ref h), (1, .ref (q 27)), (2, .int (nI 32)), (3, .ref (q 28)), (4, .int (nI 8)), (5, .ref (q 56))]) X.1 X.2.1 d_derive_61 hl (by decide) rfl (fun ls hl => ?_)
          have lp79 : ∀ (n76 i77 : Nat) (B80 : Nat → Nat → Int32) (H : Heap) (locs : List Loc) (ls : Array Slot), i77 + n76 = 16 → 0 ≤ i77 → (∀ j, j ≠ 12 → j ≠ 13 → j ≠ 15 → j ≠ 16 → j ≠ 17 → j ≠ 19 → j ≠ 20 → j ≠ 21 → j ≠ 56 → B80 j = B j) → by8 (B80 12) → by8 (B80 13) → by8 (B80 16) → by8 (B80 17) → mH D E (mA E h q sz) s.heap h q I12 J B80 G H locs → lv_has ls 8 [(7, .int (nI i77)), (6, .int (nI i38)), (0, .ref h), (1, .ref (q 27)), (2, .int (nI 32)), (3, .ref (q 28)), (4, .int (nI 8)), (5, .ref (q 56))] → W p l e (mR 4 95) s m AV below meth c H locs 0 0 QQ (F0 m 63 ls []) := by
            intro n76
            induction n76 with
            | zero =>
              intro i77 B80 H locs ls hii77 hsi77 hB81 y82 y83 y84 y85  Y hl
              refine lv_iload X.1 X.2.1 d_derive_63 (lv_at hl 0 rfl) ?_
              refine lv_bipush (v := (nI 16)) X.1 X.2.1 d_derive_65 (by decide) ?_
              refine lv_icmp_ge (tgt := 94) X.1 X.2.1 d_derive_67 (by decide) (fun c86 => ?_) (fun c86 => absurd ?_ c86)
              rotate_left
              · (rw [nI_leI (by omega) (by omega)] <;> omega)
              rw [nI_leI (by omega) (by omega)] at c86
              refine lv_iinc (v := (nI (i38 + 16))) (lv' := [(6, .int (nI (i38 + 16))), (7, .int (nI i77)), (0, .ref h), (1, .ref (q 27)), (2, .int (nI 32)), (3, .ref (q 28)), (4, .int (nI 8)), (5, .ref (q 56))]) X.1 X.2.1 d_derive_94 hl (k := 1) rfl (nI_add _ 16) (by decide) rfl (fun ls hl => ?_)
              refine lv_goto (tgt := 50) X.1 X.2.1 d_derive_97 (by decide) ?_
              exact ih39 (i38 + 16) B80 _ _ _ (by omega) (by omega) (fun j h12 h13 h15 h16 h17 h19 h20 h21 h56 => (hB81 j h12 h13 h15 h16 h17 h19 h20 h21 h56)) (show by8 (B80 16) from y84) (show by8 (B80 17) from y85) (show by8 (B80 12) from y82) (show by8 (B80 13) from y83)  Y (lv_sub hl [0, 2, 3, 4, 5, 6, 7] rfl)
            | succ n76 ih78 =>
              intro i77 B80 H locs ls hii77 hsi77 hB81 y82 y83 y84 y85  Y hl
              refine lv_iload X.1 X.2.1 d_derive_63 (lv_at hl 0 rfl) ?_
              refine lv_bipush (v := (nI 16)) X.1 X.2.1 d_derive_65 (by decide) ?_
              refine lv_icmp_ge (tgt := 94) X.1 X.2.1 d_derive_67 (by decide) (fun c87 => absurd c87 ?_) (fun c87 => ?_)
              · (rw [nI_leI (by omega) (by omega)] <;> omega)
              rw [nI_leI (by omega) (by omega)] at c87
              refine lv_aload_n X.1 X.2.1 d_derive_70 rfl (lv_at hl 2 rfl) ?_
              refine m_get X Y 20 (by decide) lk_derived (gf_derived _ _ _) rfl d_derive_71 ?_
              refine lv_iload X.1 X.2.1 d_derive_74 (lv_at hl 1 rfl) ?_
              refine lv_iload X.1 X.2.1 d_derive_76 (lv_at hl 0 rfl) ?_
              refine lv_iadd X.1 X.2.1 d_derive_78 ?_
              refine t_eq (y := nI (i38 + i77)) (nI_add _ _) ?_
              refine lv_aload_n X.1 X.2.1 d_derive_79 rfl (lv_at hl 2 rfl) ?_
              refine m_get X Y 16 (by decide) lk_state (gf_state _ _ _) rfl d_derive_80 ?_
              refine lv_iload X.1 X.2.1 d_derive_83 (lv_at hl 0 rfl) ?_
              refine m_iald X Y (aw_state _ _ _ _ _ _ _) (vp_in_nI (by omega) (by decide)) d_derive_85 ?_
              obtain ⟨j88, hj88, ej88⟩ := y84 ((nI i77)).toNatClampNeg
              refine t_eq (show B80 16 ((nI i77)).toNatClampNeg = nI j88 from ej88) ?_
              obtain ⟨v89, ev89⟩ : ∃ z : Int32, ((nI j88) : Int32).toInt8.toInt32 = z := ⟨_, rfl⟩
              refine lv_i2b (v := v89) X.1 X.2.1 d_derive_86 ev89 ?_
              refine m_bast X Y (aw_derived _ _ _ _ _ _ _) (vp_in_nI (by omega) (by decide)) (sw_derived _ _ _ _ _ _ _ _) d_derive_87 (fun H locs Y => ?_)
              generalize (upd (B80 20) ((nI (i38 + i77))).toNatClampNeg (vp_nar .byte v89)) = f90 at Y
              refine lv_iinc (v := (nI (i77 + 1))) (lv' := [(7, .int (nI (i77 + 1))), (6, .int (nI i38)), (0, .ref h), (1, .ref (q 27)), (2, .int (nI 32)), (3, .ref (q 28)), (4, .int (nI 8)), (5, .ref (q 56))]) X.1 X.2.1 d_derive_88 hl (k := 0) rfl (nI_add _ 1) (by decide) rfl (fun ls hl => ?_)
              refine lv_goto (tgt := 63) X.1 X.2.1 d_derive_91 (by decide) ?_
              exact ih78 (i77 + 1) (upB B80 20 f90) _ _ _ (by omega) (by omega) (fun j h12 h13 h15 h16 h17 h19 h20 h21 h56 => ((if_neg h20).trans (hB81 j h12 h13 h15 h16 h17 h19 h20 h21 h56))) (show by8 ((upB B80 20 f90) 12) from y82) (show by8 ((upB B80 20 f90) 13) from y83) (show by8 ((upB B80 20 f90) 16) from y84) (show by8 ((upB B80 20 f90) 17) from y85)  Y (lv_sub hl [0, 1, 2, 3, 4, 5, 6, 7] rfl)
          exact lp79 (16) 0 B65 _ _ _ (by omega) (by omega) (fun j h12 h13 h15 h16 h17 h19 h20 h21 h56 => (hB75 j h12 h13 h15 h16 h17 h19 h20 h21 h56)) (show by8 (B65 12) from (by8_eq (hB68 12 (by decide) (by decide)) y45)) (show by8 (B65 13) from (by8_eq (hB68 13 (by decide) (by decide)) y46)) (show by8 (B65 16) from y72) (show by8 (B65 17) from y73)  Y (lv_sub hl [0, 1, 2, 3, 4, 5, 6, 7] rfl)
      exact lp40 ((32) / 16) 0 B30 _ _ _ (by omega) (by omega) (fun j h12 h13 h15 h16 h17 h19 h20 h21 h56 => (hB31 j h12 h13 h15 h16 h17 h19 h20 h21 h56)) (show by8 (B30 16) from y32) (show by8 (B30 17) from y33) (show by8 (B30 12) from y34) (show by8 (B30 13) from y35)  Y (lv_sub hl [0, 1, 2, 3, 4, 5, 6] rfl)
    | succ n26 ih28 =>
      intro i27 B30 H locs ls hii27 hsi27 hB31 y32 y33 y34 y35  Y hl
      refine lv_iload X.1 X.2.1 d_derive_16 (lv_at hl 0 rfl) ?_
      refine lv_bipush (v := (nI 16)) X.1 X.2.1 d_derive_18 (by decide) ?_
      refine lv_icmp_ge (tgt := 47) X.1 X.2.1 d_derive_20 (by decide) (fun c91 => absurd c91 ?_) (fun c91 => ?_)
      · (rw [nI_leI (by omega) (by omega)] <;> omega)
      rw [nI_leI (by omega) (by omega)] at c91
      refine lv_aload_n X.1 X.2.1 d_derive_23 rfl (lv_at hl 1 rfl) ?_
      refine m_get X Y 16 (by decide) lk_state (gf_state _ _ _) rfl d_derive_24 ?_
      refine lv_iload X.1 X.2.1 d_derive_27 (lv_at hl 0 rfl) ?_
      refine lv_aload_n X.1 X.2.1 d_derive_29 rfl (lv_at hl 1 rfl) ?_
      refine m_get X Y 19 (by decide) lk_fold (gf_fold _ _ _) rfl d_derive_30 ?_
      refine lv_iload X.1 X.2.1 d_derive_33 (lv_at hl 0 rfl) ?_
      refine m_bald X Y (aw_fold _ _ _ _ _ _ _) (vp_in_nI (by omega) (by decide)) d_derive_35 ?_
      refine t_any (fun v92 => ?_)
      refine lv_sipush (v := (nI 255)) X.1 X.2.1 d_derive_36 (by decide) ?_
      refine lv_iand X.1 X.2.1 d_derive_39 ?_
      obtain ⟨j93, hj93, ej93⟩ := pk_andE v92 (m := nI 255) 8 (by decide)
      refine t_eq ej93 ?_
      have hj93 : j93 < 256 := hj93
      refine m_iast X Y (aw_state _ _ _ _ _ _ _) (vp_in_nI (by omega) (by decide)) (sw_state _ _ _ _ _ _ _ _) d_derive_40 (fun H locs Y => ?_)
      have y95 : by8 (upd (B30 16) ((nI i27)).toNatClampNeg (nI j93)) := by8_upd y32 (show j93 < 256 by omega)
      generalize (upd (B30 16) ((nI i27)).toNatClampNeg (nI j93)) = f94 at Y y95
      refine lv_iinc (v := (nI (i27 + 1))) (lv' := [(6, .int (nI (i27 + 1))), (0, .ref h), (1, .ref (q 27)), (2, .int (nI 32)), (3, .ref (q 28)), (4, .int (nI 8)), (5, .ref (q 56))]) X.1 X.2.1 d_derive_41 hl (k := 0) rfl (nI_add _ 1) (by decide) rfl (fun ls hl => ?_)
      refine lv_goto (tgt := 16) X.1 X.2.1 d_derive_44 (by decide) ?_
      exact ih28 (i27 + 1) (upB B30 16 f94) _ _ _ (by omega) (by omega) (fun j h12 h13 h15 h16 h17 h19 h20 h21 h56 => ((if_neg h16).trans (hB31 j h12 h13 h15 h16 h17 h19 h20 h21 h56))) (show by8 ((upB B30 16 f94) 16) from y95) (show by8 ((upB B30 16 f94) 17) from y33) (show by8 ((upB B30 16 f94) 12) from y34) (show by8 ((upB B30 16 f94) 13) from y35)  Y (lv_sub hl [0, 1, 2, 3, 4, 5, 6] rfl)
  exact lp29 (16) 0 B14 _ _ _ (by omega) (by omega) (fun j h12 h13 h15 h16 h17 h19 h20 h21 h56 => (hB25 j h12 h13 h15 h16 h17 h19 h20 h21 h56)) (show by8 (B14 16) from (by8_eq (hB17 16 (by decide) (by decide) (by decide)) (by8_eq (hB6 16 (by decide) (by decide)) y16))) (show by8 (B14 17) from (by8_eq (hB17 17 (by decide) (by decide) (by decide)) (by8_eq (hB6 17 (by decide) (by decide)) y17))) (show by8 (B14 12) from y21) (show by8 (B14 13) from y22)  Y (lv_sub hl [0, 1, 2, 3, 4, 5, 6] rfl)
set_option maxHeartbeats 4000000 in
set_option maxRecDepth 100000 in
theorem c_passwordKey_16 (l : Launch) (D : mD) (E : mE) (h : Nat) (q : Nat → Nat) (sz : Nat) (I : Nat → Int32) (J : Nat → Int64) (B : Nat → Nat → Int32) (G : Nat → Nat → Int64) (cnt pm sm : Nat) (hcnt1 : 1 ≤ cnt) (hcnt : cnt ≤ 200) (hpm : I 30 = nI pm) (hpm2 : pm ≤ 30) (hsm : I 29 = nI sm) (hsm2 : sm ≤ 60) (y12 : by8 (B 12)) (y13 : by8 (B 13)) (y16 : by8 (B 16)) (y17 : by8 (B 17)) : Met l y_passwordKey (k_passwordKey :: lw_tg) (mR 5 122) (va_Pc [.ref h, .int (nI 16), .int (nI cnt), .ref (q 56)] (mPre D E h q (I, J, B, G) sz)) (va_Qv (fun (u : mS) => (∀ j, j ≠ 8 → j ≠ 14 → j ≠ 18 → u.1 j = I j) ∧ u.2.1 = J ∧ (∀ j, j ≠ 5 → j ≠ 6 → j ≠ 7 → j ≠ 9 → j ≠ 10 → j ≠ 11 → j ≠ 12 → j ≠ 13 → j ≠ 15 → j ≠ 16 → j ≠ 17 → j ≠ 19 → j ≠ 20 → j ≠ 21 → j ≠ 26 → j ≠ 27 → j ≠ 56 → u.2.2.1 j = B j) ∧ u.2.2.2 = G ∧ by8 (u.2.2.1 12) ∧ by8 (u.2.2.1 13) ∧ by8 (u.2.2.1 16) ∧ by8 (u.2.2.1 17)) (mPost D E h q (mA E h q sz)) (mA E h q sz)) 0 0 (mA E h q sz) := by
  refine m_enter (by decide) rfl (Nat.le_of_ble_eq_true rfl) (fun p e s m below meth c ls AV QQ H locs hQQ X Y hZ hA hr hlk hml hl => ?_)
  have Y : mH D E (mA E h q sz) s.heap h q I J B G H locs := Y
  have hl : lv_has ls 7 [(0, .ref h), (1, .int (nI 16)), (2, .int (nI cnt)), (3, .ref (q 56))] := hl
  refine lv_iconst (v := (nI 0)) X.1 X.2.1 d_passwordKey_0 (by decide) ?_
  refine lv_istore (lv' := [(4, .int (nI 0)), (0, .ref h), (1, .int (nI 16)), (2, .int (nI cnt)), (3, .ref (q 56))]) X.1 X.2.1 d_passwordKey_1 hl (by decide) rfl (fun ls hl => ?_)
  have lp4 : ∀ (n1 i2 : Nat) (I5 : Nat → Int32) (B6 : Nat → Nat → Int32) (H : Heap) (locs : List Loc) (ls : Array Slot), i2 + n1 = 1 → 0 ≤ i2 → (∀ j, j ≠ 5 → j ≠ 6 → j ≠ 7 → j ≠ 9 → j ≠ 10 → j ≠ 11 → j ≠ 12 → j ≠ 13 → j ≠ 15 → j ≠ 16 → j ≠ 17 → j ≠ 19 → j ≠ 20 → j ≠ 21 → j ≠ 26 → j ≠ 27 → j ≠ 56 → B6 j = B j) → (∀ j, j ≠ 8 → j ≠ 14 → j ≠ 18 → I5 j = I j) → by8 (B6 12) → by8 (B6 13) → by8 (B6 16) → by8 (B6 17) → I5 30 = nI (pm) → I5 29 = nI (sm) → mH D E (mA E h q sz) s.heap h q I5 J B6 G H locs → lv_has ls 7 [(4, .int (nI i2)), (0, .ref h), (1, .int (nI 16)), (2, .int (nI cnt)), (3, .ref (q 56))] → W p l e (mR 5 122) s m AV below meth c H locs 0 0 QQ (F0 m 3 ls []) := by
    intro n1
    induction n1 with
    | zero =>
      intro i2 I5 B6 H locs ls hii2 hsi2 hB7 hI8 y9 y10 y11 y12 hk13 hk14  Y hl
      refine lv_bipush (v := (nI 20)) X.1 X.2.1 d_passwordKey_3 (by decide) ?_
      refine lv_iload X.1 X.2.1 d_passwordKey_5 (lv_at hl 0 rfl) ?_
      refine lv_imul X.1 X.2.1 d_passwordKey_7 ?_
      refine t_eq (y := nI ((20) * (i2))) (pk_mul _ _) ?_
      refine lv_iload_n X.1 X.2.1 d_passwordKey_8 rfl (lv_at hl 2 rfl) ?_
      refine lv_icmp_ge (tgt := 250) X.1 X.2.1 d_passwordKey_9 (by decide) (fun c15 => ?_) (fun c15 => absurd ?_ c15)
      rotate_left
      · (rw [nI_leI (by omega) (by omega)] <;> omega)
      rw [nI_leI (by omega) (by omega)] at c15
      refine lv_aload_n X.1 X.2.1 d_passwordKey_250 rfl (lv_at hl 1 rfl) ?_
      refine lv_aload_n X.1 X.2.1 d_passwordKey_251 rfl (lv_at hl 1 rfl) ?_
      refine m_get X Y 27 (by decide) lk_long0 (gf_long0 _ _ _) rfl d_passwordKey_252 ?_
      refine lv_iload_n X.1 X.2.1 d_passwordKey_255 rfl (lv_at hl 2 rfl) ?_
      refine lv_aload_n X.1 X.2.1 d_passwordKey_256 rfl (lv_at hl 1 rfl) ?_
      refine m_get X Y 28 (by decide) lk_kerberos (gf_kerberos _ _ _) rfl d_passwordKey_257 ?_
      refine lv_bipush (v := (nI 8)) X.1 X.2.1 d_passwordKey_260 (by decide) ?_
      refine lv_aload_n X.1 X.2.1 d_passwordKey_262 rfl (lv_at hl 4 rfl) ?_
      refine m_callv (As := [.ref (q 27), .int (nI 16), .ref (q 28), .int (nI 8), .ref (q 56)]) (rest := []) (n := 5) X Y hZ hA hml hl.1 (c_derive_16 l D E h q H.size I5 J B6 G  (show by8 (B6 12) from y9) (show by8 (B6 13) from y10) (show by8 (B6 16) from y11) (show by8 (B6 17) from y12)) kl_derive ks_derive kx_derive ki_derive ini_M hd_derive ⟨by decide, by decide⟩ rfl (Nat.le_of_ble_eq_true rfl) d_passwordKey_263 ⟨Nat.le_refl _, Nat.le_refl _⟩ (fun u H locs hp Y => ?_)
      obtain ⟨I16, J17, B18, G19⟩ := u
      obtain ⟨hI20, eJ22, hB21, eG23, y25, y26, y27, y28⟩ := hp
      dsimp only at hI20 eJ22 hB21 eG23 y25 y26 y27 y28 Y
      rw [eJ22, eG23] at Y
      have hI29 : (∀ j, j ≠ 8 → j ≠ 14 → j ≠ 18 → I16 j = I j) := fun j h8 h14 h18 => (hI20 j h14 h18).trans ((fun j h8 h14 h18 => (hI8 j h8 h14 h18)) j h8 h14 h18)
      have hB30 : (∀ j, j ≠ 5 → j ≠ 6 → j ≠ 7 → j ≠ 9 → j ≠ 10 → j ≠ 11 → j ≠ 12 → j ≠ 13 → j ≠ 15 → j ≠ 16 → j ≠ 17 → j ≠ 19 → j ≠ 20 → j ≠ 21 → j ≠ 26 → j ≠ 27 → j ≠ 56 → B18 j = B j) := fun j h5 h6 h7 h9 h10 h11 h12 h13 h15 h16 h17 h19 h20 h21 h26 h27 h56 => (hB21 j h12 h13 h15 h16 h17 h19 h20 h21 h56).trans ((fun j h5 h6 h7 h9 h10 h11 h12 h13 h15 h16 h17 h19 h20 h21 h26 h27 h56 => (hB7 j h5 h6 h7 h9 h10 h11 h12 h13 h15 h16 h17 h19 h20 h21 h26 h27 h56)) j h5 h6 h7 h9 h10 h11 h12 h13 h15 h16 h17 h19 h20 h21 h26 h27 h56)
      exact m_retv hQQ X Y hr hlk ⟨(fun j h8 h14 h18 => (hI29 j h8 h14 h18)), rfl, (fun j h5 h6 h7 h9 h10 h11 h12 h13 h15 h16 h17 h19 h20 h21 h26 h27 h56 => (hB30 j h5 h6 h7 h9 h10 h11 h12 h13 h15 h16 h17 h19 h20 h21 h26 h27 h56)), rfl, (show by8 (B18 12) from y25), (show by8 (B18 13) from y26), (show by8 (B18 16) from y27), (show by8 (B18 17) from y28)⟩ d_passwordKey_266
    | succ n1 ih3 =>
      intro i2 I5 B6 H locs ls hii2 hsi2 hB7 hI8 y9 y10 y11 y12 hk13 hk14  Y hl
      refine lv_bipush (v := (nI 20)) X.1 X.2.1 d_passwordKey_3 (by decide) ?_
      refine lv_iload X.1 X.2.1 d_passwordKey_5 (lv_at hl 0 rfl) ?_
      refine lv_imul X.1 X.2.1 d_passwordKey_7 ?_
      refine t_eq (y := nI ((20) * (i2))) (pk_mul _ _) ?_
      refine lv_iload_n X.1 X.2.1 d_passwordKey_8 rfl (lv_at hl 2 rfl) ?_
      refine lv_icmp_ge (tgt := 250) X.1 X.2.1 d_passwordKey_9 (by decide) (fun c31 => absurd c31 ?_) (fun c31 => ?_)
      · (rw [nI_leI (by omega) (by omega)] <;> omega)
      rw [nI_leI (by omega) (by omega)] at c31
      refine lv_aload_n X.1 X.2.1 d_passwordKey_12 rfl (lv_at hl 1 rfl) ?_
      refine lv_aload_n X.1 X.2.1 d_passwordKey_13 rfl (lv_at hl 1 rfl) ?_
      refine m_get X Y 25 (by decide) lk_password (gf_password _ _ _) rfl d_passwordKey_14 ?_
      refine lv_aload_n X.1 X.2.1 d_passwordKey_17 rfl (lv_at hl 1 rfl) ?_
      refine m_get X Y 30 (by decide) lk_passwordMany (gf_passwordMany _ _ _) rfl d_passwordKey_18 ?_
      refine t_eq (show I5 30 = nI (pm) from hk13) ?_
      refine m_callv (As := [.ref (q 25), .int (nI (pm))]) (rest := []) (n := 2) X Y hZ hA hml hl.1 (c_macKey_password l D E h q H.size I5 J B6 G (pm) (by omega)) kl_macKey ks_macKey kx_macKey ki_macKey ini_M hd_macKey ⟨by decide, by decide⟩ rfl (Nat.le_of_ble_eq_true rfl) d_passwordKey_21 ⟨Nat.le_refl _, Nat.le_refl _⟩ (fun u H locs hp Y => ?_)
      obtain ⟨I32, J33, B34, G35⟩ := u
      obtain ⟨hI36, eJ38, hB37, eG39⟩ := hp
      dsimp only at hI36 eJ38 hB37 eG39 Y
      rw [eJ38, eG39] at Y
      rw [show I32 = I5 from funext hI36] at Y
      have hB42 : (∀ j, j ≠ 5 → j ≠ 6 → j ≠ 7 → j ≠ 9 → j ≠ 10 → j ≠ 11 → j ≠ 12 → j ≠ 13 → j ≠ 15 → j ≠ 16 → j ≠ 17 → j ≠ 19 → j ≠ 20 → j ≠ 21 → j ≠ 26 → j ≠ 27 → j ≠ 56 → B34 j = B j) := fun j h5 h6 h7 h9 h10 h11 h12 h13 h15 h16 h17 h19 h20 h21 h26 h27 h56 => (hB37 j h11).trans ((fun j h5 h6 h7 h9 h10 h11 h12 h13 h15 h16 h17 h19 h20 h21 h26 h27 h56 => (hB7 j h5 h6 h7 h9 h10 h11 h12 h13 h15 h16 h17 h19 h20 h21 h26 h27 h56)) j h5 h6 h7 h9 h10 h11 h12 h13 h15 h16 h17 h19 h20 h21 h26 h27 h56)
      refine lv_aload_n X.1 X.2.1 d_passwordKey_24 rfl (lv_at hl 1 rfl) ?_
      refine m_callv (As := []) (rest := []) (n := 0) X Y hZ hA hml hl.1 (c_macBegin l D E h q H.size I5 J B34 G ) kl_macBegin ks_macBegin kx_macBegin ki_macBegin ini_M hd_macBegin ⟨by decide, by decide⟩ rfl (Nat.le_of_ble_eq_true rfl) d_passwordKey_25 ⟨Nat.le_refl _, Nat.le_refl _⟩ (fun u H locs hp Y => ?_)
      obtain ⟨I43, J44, B45, G46⟩ := u
      obtain ⟨hI47, eJ49, hB48, eG50, hk52⟩ := hp
      dsimp only at hI47 eJ49 hB48 eG50 hk52 Y
      rw [eJ49, eG50] at Y
      have hI53 : (∀ j, j ≠ 8 → j ≠ 14 → j ≠ 18 → I43 j = I j) := fun j h8 h14 h18 => (hI47 j h8).trans ((fun j h8 h14 h18 => (hI8 j h8 h14 h18)) j h8 h14 h18)
      have hB54 : (∀ j, j ≠ 5 → j ≠ 6 → j ≠ 7 → j ≠ 9 → j ≠ 10 → j ≠ 11 → j ≠ 12 → j ≠ 13 → j ≠ 15 → j ≠ 16 → j ≠ 17 → j ≠ 19 → j ≠ 20 → j ≠ 21 → j ≠ 26 → j ≠ 27 → j ≠ 56 → B45 j = B j) := fun j h5 h6 h7 h9 h10 h11 h12 h13 h15 h16 h17 h19 h20 h21 h26 h27 h56 => (hB48 j h5 h6 h7).trans ((fun j h5 h6 h7 h9 h10 h11 h12 h13 h15 h16 h17 h19 h20 h21 h26 h27 h56 => (hB42 j h5 h6 h7 h9 h10 h11 h12 h13 h15 h16 h17 h19 h20 h21 h26 h27 h56)) j h5 h6 h7 h9 h10 h11 h12 h13 h15 h16 h17 h19 h20 h21 h26 h27 h56)
      refine lv_iconst (v := (nI 0)) X.1 X.2.1 d_passwordKey_28 (by decide) ?_
      refine lv_istore (lv' := [(5, .int (nI 0)), (4, .int (nI i2)), (0, .ref h), (1, .int (nI 16)), (2, .int (nI cnt)), (3, .ref (q 56))]) X.1 X.2.1 d_passwordKey_29 hl (by decide) rfl (fun ls hl => ?_)
      have lp58 : ∀ (n55 i56 : Nat) (I59 : Nat → Int32) (B60 : Nat → Nat → Int32) (H : Heap) (locs : List Loc) (ls : Array Slot), i56 + n55 = sm → 0 ≤ i56 → (∀ j, j ≠ 5 → j ≠ 6 → j ≠ 7 → j ≠ 9 → j ≠ 10 → j ≠ 11 → j ≠ 12 → j ≠ 13 → j ≠ 15 → j ≠ 16 → j ≠ 17 → j ≠ 19 → j ≠ 20 → j ≠ 21 → j ≠ 26 → j ≠ 27 → j ≠ 56 → B60 j = B j) → (∀ j, j ≠ 8 → j ≠ 14 → j ≠ 18 → I59 j = I j) → by8 (B60 12) → by8 (B60 13) → by8 (B60 16) → by8 (B60 17) → I59 30 = nI (pm) → I59 29 = nI (sm) → I59 8 = nI (64 + i56) → mH D E (mA E h q sz) s.heap h q I59 J B60 G H locs → lv_has ls 7 [(5, .int (nI i56)), (4, .int (nI i2)), (0, .ref h), (1, .int (nI 16)), (2, .int (nI cnt)), (3, .ref (q 56))] → W p l e (mR 5 122) s m AV below meth c H locs 0 0 QQ (F0 m 31 ls []) := by
        intro n55
        induction n55 with
        | zero =>
          intro i56 I59 B60 H locs ls hii56 hsi56 hB61 hI62 y63 y64 y65 y66 hk67 hk68 hk69  Y hl
          refine lv_iload X.1 X.2.1 d_passwordKey_31 (lv_at hl 0 rfl) ?_
          refine lv_aload_n X.1 X.2.1 d_passwordKey_33 rfl (lv_at hl 2 rfl) ?_
          refine m_get X Y 29 (by decide) lk_saltMany (gf_saltMany _ _ _) rfl d_passwordKey_34 ?_
          refine t_eq (show I59 29 = nI (sm) from hk68) ?_
          refine lv_icmp_ge (tgt := 57) X.1 X.2.1 d_passwordKey_37 (by decide) (fun c70 => ?_) (fun c70 => absurd ?_ c70)
          rotate_left
          · (rw [nI_leI (by omega) (by omega)] <;> omega)
          rw [nI_leI (by omega) (by omega)] at c70
          refine lv_iconst (v := (nI 0)) X.1 X.2.1 d_passwordKey_57 (by decide) ?_
          refine lv_istore (lv' := [(5, .int (nI 0)), (4, .int (nI i2)), (0, .ref h), (1, .int (nI 16)), (2, .int (nI cnt)), (3, .ref (q 56))]) X.1 X.2.1 d_passwordKey_58 hl (by decide) rfl (fun ls hl => ?_)
          have lp74 : ∀ (n71 i72 : Nat) (I75 : Nat → Int32) (B76 : Nat → Nat → Int32) (H : Heap) (locs : List Loc) (ls : Array Slot), i72 + n71 = 4 → 0 ≤ i72 → (∀ j, j ≠ 5 → j ≠ 6 → j ≠ 7 → j ≠ 9 → j ≠ 10 → j ≠ 11 → j ≠ 12 → j ≠ 13 → j ≠ 15 → j ≠ 16 → j ≠ 17 → j ≠ 19 → j ≠ 20 → j ≠ 21 → j ≠ 26 → j ≠ 27 → j ≠ 56 → B76 j = B j) → (∀ j, j ≠ 8 → j ≠ 14 → j ≠ 18 → I75 j = I j) → by8 (B76 12) → by8 (B76 13) → by8 (B76 16) → by8 (B76 17) → I75 30 = nI (pm) → I75 29 = nI (sm) → I75 8 = nI (64 + sm + i72) → mH D E (mA E h q sz) s.heap h q I75 J B76 G H locs → lv_has ls 7 [(5, .int (nI i72)), (4, .int (nI i2)), (0, .ref h), (1, .int (nI 16)), (2, .int (nI cnt)), (3, .ref (q 56))] → W p l e (mR 5 122) s m AV below meth c H locs 0 0 QQ (F0 m 60 ls []) := by
            intro n71
            induction n71 with
            | zero =>
              intro i72 I75 B76 H locs ls hii72 hsi72 hB77 hI78 y79 y80 y81 y82 hk83 hk84 hk85  Y hl
              refine lv_iload X.1 X.2.1 d_passwordKey_60 (lv_at hl 0 rfl) ?_
              refine lv_iconst (v := (nI 4)) X.1 X.2.1 d_passwordKey_62 (by decide) ?_
              refine lv_icmp_ge (tgt := 90) X.1 X.2.1 d_passwordKey_63 (by decide) (fun c86 => ?_) (fun c86 => absurd ?_ c86)
              rotate_left
              · (rw [nI_leI (by omega) (by omega)] <;> omega)
              rw [nI_leI (by omega) (by omega)] at c86
              refine lv_aload_n X.1 X.2.1 d_passwordKey_90 rfl (lv_at hl 2 rfl) ?_
              refine m_callv (As := []) (rest := []) (n := 0) X Y hZ hA hml hl.1 (c_macEnd l D E h q H.size I75 J B76 G (64 + sm + i72) hk85 (by omega)) kl_macEnd ks_macEnd kx_macEnd ki_macEnd ini_M hd_macEnd ⟨by decide, by decide⟩ rfl (Nat.le_of_ble_eq_true rfl) d_passwordKey_91 ⟨Nat.le_refl _, Nat.le_refl _⟩ (fun u H locs hp Y => ?_)
              obtain ⟨I87, J88, B89, G90⟩ := u
              obtain ⟨hI91, eJ93, hB92, eG94⟩ := hp
              dsimp only at hI91 eJ93 hB92 eG94 Y
              rw [eJ93, eG94] at Y
              have hI96 : (∀ j, j ≠ 8 → j ≠ 14 → j ≠ 18 → I87 j = I j) := fun j h8 h14 h18 => (hI91 j h8).trans ((fun j h8 h14 h18 => (hI78 j h8 h14 h18)) j h8 h14 h18)
              have hB97 : (∀ j, j ≠ 5 → j ≠ 6 → j ≠ 7 → j ≠ 9 → j ≠ 10 → j ≠ 11 → j ≠ 12 → j ≠ 13 → j ≠ 15 → j ≠ 16 → j ≠ 17 → j ≠ 19 → j ≠ 20 → j ≠ 21 → j ≠ 26 → j ≠ 27 → j ≠ 56 → B89 j = B j) := fun j h5 h6 h7 h9 h10 h11 h12 h13 h15 h16 h17 h19 h20 h21 h26 h27 h56 => (hB92 j h5 h6 h7 h9 h10).trans ((fun j h5 h6 h7 h9 h10 h11 h12 h13 h15 h16 h17 h19 h20 h21 h26 h27 h56 => (hB77 j h5 h6 h7 h9 h10 h11 h12 h13 h15 h16 h17 h19 h20 h21 h26 h27 h56)) j h5 h6 h7 h9 h10 h11 h12 h13 h15 h16 h17 h19 h20 h21 h26 h27 h56)
              refine lv_iconst (v := (nI 0)) X.1 X.2.1 d_passwordKey_94 (by decide) ?_
              refine lv_istore (lv' := [(5, .int (nI 0)), (4, .int (nI i2)), (0, .ref h), (1, .int (nI 16)), (2, .int (nI cnt)), (3, .ref (q 56))]) X.1 X.2.1 d_passwordKey_95 hl (by decide) rfl (fun ls hl => ?_)
              have lp101 : ∀ (n98 i99 : Nat) (B102 : Nat → Nat → Int32) (H : Heap) (locs : List Loc) (ls : Array Slot), i99 + n98 = 20 → 0 ≤ i99 → (∀ j, j ≠ 5 → j ≠ 6 → j ≠ 7 → j ≠ 9 → j ≠ 10 → j ≠ 11 → j ≠ 12 → j ≠ 13 → j ≠ 15 → j ≠ 16 → j ≠ 17 → j ≠ 19 → j ≠ 20 → j ≠ 21 → j ≠ 26 → j ≠ 27 → j ≠ 56 → B102 j = B j) → by8 (B102 12) → by8 (B102 13) → by8 (B102 16) → by8 (B102 17) → mH D E (mA E h q sz) s.heap h q I87 J B102 G H locs → lv_has ls 7 [(5, .int (nI i99)), (4, .int (nI i2)), (0, .ref h), (1, .int (nI 16)), (2, .int (nI cnt)), (3, .ref (q 56))] → W p l e (mR 5 122) s m AV below meth c H locs 0 0 QQ (F0 m 97 ls []) := by
                intro n98
                induction n98 with
                | zero =>
                  intro i99 B102 H locs ls hii99 hsi99 hB103 y104 y105 y106 y107  Y hl
                  refine lv_iload X.1 X.2.1 d_passwordKey_97 (lv_at hl 0 rfl) ?_
                  refine lv_bipush (v := (nI 20)) X.1 X.2.1 d_passwordKey_99 (by decide) ?_
                  refine lv_icmp_ge (tgt := 124) X.1 X.2.1 d_passwordKey_101 (by decide) (fun c108 => ?_) (fun c108 => absurd ?_ c108)
                  rotate_left
                  · (rw [nI_leI (by omega) (by omega)] <;> omega)
                  rw [nI_leI (by omega) (by omega)] at c108
                  refine lv_iconst (v := (nI 1)) X.1 X.2.1 d_passwordKey_124 (by decide) ?_
                  refine lv_istore (lv' := [(5, .int (nI 1)), (4, .int (nI i2)), (0, .ref h), (1, .int (nI 16)), (2, .int (nI cnt)), (3, .ref (q 56))]) X.1 X.2.1 d_passwordKey_125 hl (by decide) rfl (fun ls hl => ?_)
                  have lp112 : ∀ (n109 i110 : Nat) (I113 : Nat → Int32) (B114 : Nat → Nat → Int32) (H : Heap) (locs : List Loc) (ls : Array Slot), i110 + n109 = cnt → 1 ≤ i110 → (∀ j, j ≠ 5 → j ≠ 6 → j ≠ 7 → j ≠ 9 → j ≠ 10 → j ≠ 11 → j ≠ 12 → j ≠ 13 → j ≠ 15 → j ≠ 16 → j ≠ 17 → j ≠ 19 → j ≠ 20 → j ≠ 21 → j ≠ 26 → j ≠ 27 → j ≠ 56 → B114 j = B j) → (∀ j, j ≠ 8 → j ≠ 14 → j ≠ 18 → I113 j = I j) → by8 (B114 12) → by8 (B114 13) → by8 (B114 16) → by8 (B114 17) → I113 30 = nI (pm) → I113 29 = nI (sm) → mH D E (mA E h q sz) s.heap h q I113 J B114 G H locs → lv_has ls 7 [(5, .int (nI i110)), (4, .int (nI i2)), (0, .ref h), (1, .int (nI 16)), (2, .int (nI cnt)), (3, .ref (q 56))] → W p l e (mR 5 122) s m AV below meth c H locs 0 0 QQ (F0 m 127 ls []) := by
                    intro n109
                    induction n109 with
                    | zero =>
                      intro i110 I113 B114 H locs ls hii110 hsi110 hB115 hI116 y117 y118 y119 y120 hk121 hk122  Y hl
                      refine lv_iload X.1 X.2.1 d_passwordKey_127 (lv_at hl 0 rfl) ?_
                      refine lv_iload_n X.1 X.2.1 d_passwordKey_129 rfl (lv_at hl 4 rfl) ?_
                      refine lv_icmp_ge (tgt := 208) X.1 X.2.1 d_passwordKey_130 (by decide) (fun c123 => ?_) (fun c123 => absurd ?_ c123)
                      rotate_left
                      · (rw [nI_leI (by omega) (by omega)] <;> omega)
                      rw [nI_leI (by omega) (by omega)] at c123
                      refine lv_iconst (v := (nI 0)) X.1 X.2.1 d_passwordKey_208 (by decide) ?_
                      refine lv_istore (lv' := [(5, .int (nI 0)), (4, .int (nI i2)), (0, .ref h), (1, .int (nI 16)), (2, .int (nI cnt)), (3, .ref (q 56))]) X.1 X.2.1 d_passwordKey_209 hl (by decide) rfl (fun ls hl => ?_)
                      have lp127 : ∀ (n124 i125 : Nat) (B128 : Nat → Nat → Int32) (H : Heap) (locs : List Loc) (ls : Array Slot), i125 + n124 = 20 → 0 ≤ i125 → (∀ j, j ≠ 5 → j ≠ 6 → j ≠ 7 → j ≠ 9 → j ≠ 10 → j ≠ 11 → j ≠ 12 → j ≠ 13 → j ≠ 15 → j ≠ 16 → j ≠ 17 → j ≠ 19 → j ≠ 20 → j ≠ 21 → j ≠ 26 → j ≠ 27 → j ≠ 56 → B128 j = B j) → by8 (B128 12) → by8 (B128 13) → by8 (B128 16) → by8 (B128 17) → mH D E (mA E h q sz) s.heap h q I113 J B128 G H locs → lv_has ls 7 [(5, .int (nI i125)), (4, .int (nI i2)), (0, .ref h), (1, .int (nI 16)), (2, .int (nI cnt)), (3, .ref (q 56))] → W p l e (mR 5 122) s m AV below meth c H locs 0 0 QQ (F0 m 211 ls []) := by
                        intro n124
                        induction n124 with
                        | zero =>
                          intro i125 B128 H locs ls hii125 hsi125 hB129 y130 y131 y132 y133  Y hl
                          refine lv_iload X.1 X.2.1 d_passwordKey_211 (lv_at hl 0 rfl) ?_
                          refine lv_bipush (v := (nI 20)) X.1 X.2.1 d_passwordKey_213 (by decide) ?_
                          refine lv_icmp_ge (tgt := 244) X.1 X.2.1 d_passwordKey_215 (by decide) (fun c134 => ?_) (fun c134 => absurd ?_ c134)
                          rotate_left
                          · (rw [nI_leI (by omega) (by omega)] <;> omega)
                          rw [nI_leI (by omega) (by omega)] at c134
                          refine lv_iinc (v := (nI (i2 + 1))) (lv' := [(4, .int (nI (i2 + 1))), (5, .int (nI i125)), (0, .ref h), (1, .int (nI 16)), (2, .int (nI cnt)), (3, .ref (q 56))]) X.1 X.2.1 d_passwordKey_244 hl (k := 1) rfl (nI_add _ 1) (by decide) rfl (fun ls hl => ?_)
                          refine lv_goto (tgt := 3) X.1 X.2.1 d_passwordKey_247 (by decide) ?_
                          exact ih3 (i2 + 1) I113 B128 _ _ _ (by omega) (by omega) (fun j h5 h6 h7 h9 h10 h11 h12 h13 h15 h16 h17 h19 h20 h21 h26 h27 h56 => (hB129 j h5 h6 h7 h9 h10 h11 h12 h13 h15 h16 h17 h19 h20 h21 h26 h27 h56)) (fun j h8 h14 h18 => (hI116 j h8 h14 h18)) (show by8 (B128 12) from y130) (show by8 (B128 13) from y131) (show by8 (B128 16) from y132) (show by8 (B128 17) from y133) ((show I113 30 = nI (pm) from hk121).trans (congrArg nI (show (pm : Nat) = pm by omega))) ((show I113 29 = nI (sm) from hk122).trans (congrArg nI (show (sm : Nat) = sm by omega)))  Y (lv_sub hl [0, 2, 3, 4, 5] rfl)
                        | succ n124 ih126 =>
                          intro i125 B128 H locs ls hii125 hsi125 hB129 y130 y131 y132 y133  Y hl
                          refine lv_iload X.1 X.2.1 d_passwordKey_211 (lv_at hl 0 rfl) ?_
                          refine lv_bipush (v := (nI 20)) X.1 X.2.1 d_passwordKey_213 (by decide) ?_
                          refine lv_icmp_ge (tgt := 244) X.1 X.2.1 d_passwordKey_215 (by decide) (fun c135 => absurd c135 ?_) (fun c135 => ?_)
                          · (rw [nI_leI (by omega) (by omega)] <;> omega)
                          rw [nI_leI (by omega) (by omega)] at c135
                          refine lv_aload_n X.1 X.2.1 d_passwordKey_218 rfl (lv_at hl 2 rfl) ?_
                          refine m_get X Y 27 (by decide) lk_long0 (gf_long0 _ _ _) rfl d_passwordKey_219 ?_
                          refine lv_bipush (v := (nI 20)) X.1 X.2.1 d_passwordKey_222 (by decide) ?_
                          refine lv_iload X.1 X.2.1 d_passwordKey_224 (lv_at hl 1 rfl) ?_
                          refine lv_imul X.1 X.2.1 d_passwordKey_226 ?_
                          refine t_eq (y := nI ((20) * (i2))) (pk_mul _ _) ?_
                          refine lv_iload X.1 X.2.1 d_passwordKey_227 (lv_at hl 0 rfl) ?_
                          refine lv_iadd X.1 X.2.1 d_passwordKey_229 ?_
                          refine t_eq (y := nI ((20) * (i2) + i125)) (nI_add _ _) ?_
                          refine lv_aload_n X.1 X.2.1 d_passwordKey_230 rfl (lv_at hl 2 rfl) ?_
                          refine m_get X Y 26 (by decide) lk_mixed (gf_mixed _ _ _) rfl d_passwordKey_231 ?_
                          refine lv_iload X.1 X.2.1 d_passwordKey_234 (lv_at hl 0 rfl) ?_
                          refine m_bald X Y (aw_mixed _ _ _ _ _ _ _) (vp_in_nI (by omega) (by decide)) d_passwordKey_236 ?_
                          refine t_any (fun v136 => ?_)
                          refine m_bast X Y (aw_long0 _ _ _ _ _ _ _) (vp_in_nI (by omega) (by decide)) (sw_long0 _ _ _ _ _ _ _ _) d_passwordKey_237 (fun H locs Y => ?_)
                          generalize (upd (B128 27) ((nI ((20) * (i2) + i125))).toNatClampNeg (vp_nar .byte v136)) = f137 at Y
                          refine lv_iinc (v := (nI (i125 + 1))) (lv' := [(5, .int (nI (i125 + 1))), (4, .int (nI i2)), (0, .ref h), (1, .int (nI 16)), (2, .int (nI cnt)), (3, .ref (q 56))]) X.1 X.2.1 d_passwordKey_238 hl (k := 0) rfl (nI_add _ 1) (by decide) rfl (fun ls hl => ?_)
                          refine lv_goto (tgt := 211) X.1 X.2.1 d_passwordKey_241 (by decide) ?_
                          exact ih126 (i125 + 1) (upB B128 27 f137) _ _ _ (by omega) (by omega) (fun j h5 h6 h7 h9 h10 h11 h12 h13 h15 h16 h17 h19 h20 h21 h26 h27 h56 => ((if_neg h27).trans (hB129 j h5 h6 h7 h9 h10 h11 h12 h13 h15 h16 h17 h19 h20 h21 h26 h27 h56))) (show by8 ((upB B128 27 f137) 12) from y130) (show by8 ((upB B128 27 f137) 13) from y131) (show by8 ((upB B128 27 f137) 16) from y132) (show by8 ((upB B128 27 f137) 17) from y133)  Y (lv_sub hl [0, 1, 2, 3, 4, 5] rfl)
                      exact lp127 (20) 0 B114 _ _ _ (by omega) (by omega) (fun j h5 h6 h7 h9 h10 h11 h12 h13 h15 h16 h17 h19 h20 h21 h26 h27 h56 => (hB115 j h5 h6 h7 h9 h10 h11 h12 h13 h15 h16 h17 h19 h20 h21 h26 h27 h56)) (show by8 (B114 12) from y117) (show by8 (B114 13) from y118) (show by8 (B114 16) from y119) (show by8 (B114 17) from y120)  Y (lv_sub hl [0, 1, 2, 3, 4, 5] rfl)
                    | succ n109 ih111 =>
                      intro i110 I113 B114 H locs ls hii110 hsi110 hB115 hI116 y117 y118 y119 y120 hk121 hk122  Y hl
                      refine lv_iload X.1 X.2.1 d_passwordKey_127 (lv_at hl 0 rfl) ?_
                      refine lv_iload_n X.1 X.2.1 d_passwordKey_129 rfl (lv_at hl 4 rfl) ?_
                      refine lv_icmp_ge (tgt := 208) X.1 X.2.1 d_passwordKey_130 (by decide) (fun c138 => absurd c138 ?_) (fun c138 => ?_)
                      · (rw [nI_leI (by omega) (by omega)] <;> omega)
                      rw [nI_leI (by omega) (by omega)] at c138
                      refine lv_aload_n X.1 X.2.1 d_passwordKey_133 rfl (lv_at hl 2 rfl) ?_
                      refine m_callv (As := []) (rest := []) (n := 0) X Y hZ hA hml hl.1 (c_macBegin l D E h q H.size I113 J B114 G ) kl_macBegin ks_macBegin kx_macBegin ki_macBegin ini_M hd_macBegin ⟨by decide, by decide⟩ rfl (Nat.le_of_ble_eq_true rfl) d_passwordKey_134 ⟨Nat.le_refl _, Nat.le_refl _⟩ (fun u H locs hp Y => ?_)
                      obtain ⟨I139, J140, B141, G142⟩ := u
                      obtain ⟨hI143, eJ145, hB144, eG146, hk148⟩ := hp
                      dsimp only at hI143 eJ145 hB144 eG146 hk148 Y
                      rw [eJ145, eG146] at Y
                      have hI149 : (∀ j, j ≠ 8 → j ≠ 14 → j ≠ 18 → I139 j = I j) := fun j h8 h14 h18 => (hI143 j h8).trans ((fun j h8 h14 h18 => (hI116 j h8 h14 h18)) j h8 h14 h18)
                      have hB150 : (∀ j, j ≠ 5 → j ≠ 6 → j ≠ 7 → j ≠ 9 → j ≠ 10 → j ≠ 11 → j ≠ 12 → j ≠ 13 → j ≠ 15 → j ≠ 16 → j ≠ 17 → j ≠ 19 → j ≠ 20 → j ≠ 21 → j ≠ 26 → j ≠ 27 → j ≠ 56 → B141 j = B j) := fun j h5 h6 h7 h9 h10 h11 h12 h13 h15 h16 h17 h19 h20 h21 h26 h27 h56 => (hB144 j h5 h6 h7).trans ((fun j h5 h6 h7 h9 h10 h11 h12 h13 h15 h16 h17 h19 h20 h21 h26 h27 h56 => (hB115 j h5 h6 h7 h9 h10 h11 h12 h13 h15 h16 h17 h19 h20 h21 h26 h27 h56)) j h5 h6 h7 h9 h10 h11 h12 h13 h15 h16 h17 h19 h20 h21 h26 h27 h56)
                      refine lv_iconst (v := (nI 0)) X.1 X.2.1 d_passwordKey_137 (by decide) ?_
                      refine lv_istore (lv' := [(6, .int (nI 0)), (5, .int (nI i110)), (4, .int (nI i2)), (0, .ref h), (1, .int (nI 16)), (2, .int (nI cnt)), (3, .ref (q 56))]) X.1 X.2.1 d_passwordKey_138 hl (by decide) rfl (fun ls hl => ?_)
                      have lp154 : ∀ (n151 i152 : Nat) (I155 : Nat → Int32) (B156 : Nat → Nat → Int32) (H : Heap) (locs : List Loc) (ls : Array Slot), i152 + n151 = 20 → 0 ≤ i152 → (∀ j, j ≠ 5 → j ≠ 6 → j ≠ 7 → j ≠ 9 → j ≠ 10 → j ≠ 11 → j ≠ 12 → j ≠ 13 → j ≠ 15 → j ≠ 16 → j ≠ 17 → j ≠ 19 → j ≠ 20 → j ≠ 21 → j ≠ 26 → j ≠ 27 → j ≠ 56 → B156 j = B j) → (∀ j, j ≠ 8 → j ≠ 14 → j ≠ 18 → I155 j = I j) → by8 (B156 12) → by8 (B156 13) → by8 (B156 16) → by8 (B156 17) → I155 30 = nI (pm) → I155 29 = nI (sm) → I155 8 = nI (64 + i152) → mH D E (mA E h q sz) s.heap h q I155 J B156 G H locs → lv_has ls 7 [(6, .int (nI i152)), (5, .int (nI i110)), (4, .int (nI i2)), (0, .ref h), (1, .int (nI 16)), (2, .int (nI cnt)), (3, .ref (q 56))] → W p l e (mR 5 122) s m AV below meth c H locs 0 0 QQ (F0 m 140 ls []) := by
                        intro n151
                        induction n151 with
                        | zero =>
                          intro i152 I155 B156 H locs ls hii152 hsi152 hB157 hI158 y159 y160 y161 y162 hk163 hk164 hk165  Y hl
                          refine lv_iload X.1 X.2.1 d_passwordKey_140 (lv_at hl 0 rfl) ?_
                          refine lv_bipush (v := (nI 20)) X.1 X.2.1 d_passwordKey_142 (by decide) ?_
                          refine lv_icmp_ge (tgt := 164) X.1 X.2.1 d_passwordKey_144 (by decide) (fun c166 => ?_) (fun c166 => absurd ?_ c166)
                          rotate_left
                          · (rw [nI_leI (by omega) (by omega)] <;> omega)
                          rw [nI_leI (by omega) (by omega)] at c166
                          refine lv_aload_n X.1 X.2.1 d_passwordKey_164 rfl (lv_at hl 3 rfl) ?_
                          refine m_callv (As := []) (rest := []) (n := 0) X Y hZ hA hml hl.1 (c_macEnd l D E h q H.size I155 J B156 G (64 + i152) hk165 (by omega)) kl_macEnd ks_macEnd kx_macEnd ki_macEnd ini_M hd_macEnd ⟨by decide, by decide⟩ rfl (Nat.le_of_ble_eq_true rfl) d_passwordKey_165 ⟨Nat.le_refl _, Nat.le_refl _⟩ (fun u H locs hp Y => ?_)
                          obtain ⟨I167, J168, B169, G170⟩ := u
                          obtain ⟨hI171, eJ173, hB172, eG174⟩ := hp
                          dsimp only at hI171 eJ173 hB172 eG174 Y
                          rw [eJ173, eG174] at Y
                          have hI176 : (∀ j, j ≠ 8 → j ≠ 14 → j ≠ 18 → I167 j = I j) := fun j h8 h14 h18 => (hI171 j h8).trans ((fun j h8 h14 h18 => (hI158 j h8 h14 h18)) j h8 h14 h18)
                          have hB177 : (∀ j, j ≠ 5 → j ≠ 6 → j ≠ 7 → j ≠ 9 → j ≠ 10 → j ≠ 11 → j ≠ 12 → j ≠ 13 → j ≠ 15 → j ≠ 16 → j ≠ 17 → j ≠ 19 → j ≠ 20 → j ≠ 21 → j ≠ 26 → j ≠ 27 → j ≠ 56 → B169 j = B j) := fun j h5 h6 h7 h9 h10 h11 h12 h13 h15 h16 h17 h19 h20 h21 h26 h27 h56 => (hB172 j h5 h6 h7 h9 h10).trans ((fun j h5 h6 h7 h9 h10 h11 h12 h13 h15 h16 h17 h19 h20 h21 h26 h27 h56 => (hB157 j h5 h6 h7 h9 h10 h11 h12 h13 h15 h16 h17 h19 h20 h21 h26 h27 h56)) j h5 h6 h7 h9 h10 h11 h12 h13 h15 h16 h17 h19 h20 h21 h26 h27 h56)
                          refine lv_iconst (v := (nI 0)) X.1 X.2.1 d_passwordKey_168 (by decide) ?_
                          refine lv_istore (lv' := [(6, .int (nI 0)), (5, .int (nI i110)), (4, .int (nI i2)), (0, .ref h), (1, .int (nI 16)), (2, .int (nI cnt)), (3, .ref (q 56))]) X.1 X.2.1 d_passwordKey_169 hl (by decide) rfl (fun ls hl => ?_)
                          have lp181 : ∀ (n178 i179 : Nat) (B182 : Nat → Nat → Int32) (H : Heap) (locs : List Loc) (ls : Array Slot), i179 + n178 = 20 → 0 ≤ i179 → (∀ j, j ≠ 5 → j ≠ 6 → j ≠ 7 → j ≠ 9 → j ≠ 10 → j ≠ 11 → j ≠ 12 → j ≠ 13 → j ≠ 15 → j ≠ 16 → j ≠ 17 → j ≠ 19 → j ≠ 20 → j ≠ 21 → j ≠ 26 → j ≠ 27 → j ≠ 56 → B182 j = B j) → by8 (B182 12) → by8 (B182 13) → by8 (B182 16) → by8 (B182 17) → mH D E (mA E h q sz) s.heap h q I167 J B182 G H locs → lv_has ls 7 [(6, .int (nI i179)), (5, .int (nI i110)), (4, .int (nI i2)), (0, .ref h), (1, .int (nI 16)), (2, .int (nI cnt)), (3, .ref (q 56))] → W p l e (mR 5 122) s m AV below meth c H locs 0 0 QQ (F0 m 171 ls []) := by
                            intro n178
                            induction n178 with
                            | zero =>
                              intro i179 B182 H locs ls hii179 hsi179 hB183 y184 y185 y186 y187  Y hl
                              refine lv_iload X.1 X.2.1 d_passwordKey_171 (lv_at hl 0 rfl) ?_
                              refine lv_bipush (v := (nI 20)) X.1 X.2.1 d_passwordKey_173 (by decide) ?_
                              refine lv_icmp_ge (tgt := 202) X.1 X.2.1 d_passwordKey_175 (by decide) (fun c188 => ?_) (fun c188 => absurd ?_ c188)
                              rotate_left
                              · (rw [nI_leI (by omega) (by omega)] <;> omega)
                              rw [nI_leI (by omega) (by omega)] at c188
                              refine lv_iinc (v := (nI (i110 + 1))) (lv' := [(5, .int (nI (i110 + 1))), (6, .int (nI i179)), (4, .int (nI i2)), (0, .ref h), (1, .int (nI 16)), (2, .int (nI cnt)), (3, .ref (q 56))]) X.1 X.2.1 d_passwordKey_202 hl (k := 1) rfl (nI_add _ 1) (by decide) rfl (fun ls hl => ?_)
                              refine lv_goto (tgt := 127) X.1 X.2.1 d_passwordKey_205 (by decide) ?_
                              exact ih111 (i110 + 1) I167 B182 _ _ _ (by omega) (by omega) (fun j h5 h6 h7 h9 h10 h11 h12 h13 h15 h16 h17 h19 h20 h21 h26 h27 h56 => (hB183 j h5 h6 h7 h9 h10 h11 h12 h13 h15 h16 h17 h19 h20 h21 h26 h27 h56)) (fun j h8 h14 h18 => (hI176 j h8 h14 h18)) (show by8 (B182 12) from y184) (show by8 (B182 13) from y185) (show by8 (B182 16) from y186) (show by8 (B182 17) from y187) ((show I167 30 = nI (pm) from ((hI171 30 (by decide)).trans hk163)).trans (congrArg nI (show (pm : Nat) = pm by omega))) ((show I167 29 = nI (sm) from ((hI171 29 (by decide)).trans hk164)).trans (congrArg nI (show (sm : Nat) = sm by omega)))  Y (lv_sub hl [0, 2, 3, 4, 5, 6] rfl)
                            | succ n178 ih180 =>
                              intro i179 B182 H locs ls hii179 hsi179 hB183 y184 y185 y186 y187  Y hl
                              refine lv_iload X.1 X.2.1 d_passwordKey_171 (lv_at hl 0 rfl) ?_
                              refine lv_bipush (v := (nI 20)) X.1 X.2.1 d_passwordKey_173 (by decide) ?_
                              refine lv_icmp_ge (tgt := 202) X.1 X.2.1 d_passwordKey_175 (by decide) (fun c189 => absurd c189 ?_) (fun c189 => ?_)
                              · (rw [nI_leI (by omega) (by omega)] <;> omega)
                              rw [nI_leI (by omega) (by omega)] at c189
                              refine lv_aload_n X.1 X.2.1 d_passwordKey_178 rfl (lv_at hl 3 rfl) ?_
                              refine m_get X Y 26 (by decide) lk_mixed (gf_mixed _ _ _) rfl d_passwordKey_179 ?_
                              refine lv_iload X.1 X.2.1 d_passwordKey_182 (lv_at hl 0 rfl) ?_
                              refine lv_dup2_11 X.1 X.2.1 d_passwordKey_184 rfl rfl ?_
                              refine m_bald X Y (aw_mixed _ _ _ _ _ _ _) (vp_in_nI (by omega) (by decide)) d_passwordKey_185 ?_
                              refine t_any (fun v190 => ?_)
                              refine lv_aload_n X.1 X.2.1 d_passwordKey_186 rfl (lv_at hl 3 rfl) ?_
                              refine m_get X Y 10 (by decide) lk_mac (gf_mac _ _ _) rfl d_passwordKey_187 ?_
                              refine lv_iload X.1 X.2.1 d_passwordKey_190 (lv_at hl 0 rfl) ?_
                              refine m_bald X Y (aw_mac _ _ _ _ _ _ _) (vp_in_nI (by omega) (by decide)) d_passwordKey_192 ?_
                              refine t_any (fun v191 => ?_)
                              refine lv_ixor X.1 X.2.1 d_passwordKey_193 ?_
                              refine t_any (fun v192 => ?_)
                              obtain ⟨v193, ev193⟩ : ∃ z : Int32, (v192 : Int32).toInt8.toInt32 = z := ⟨_, rfl⟩
                              refine lv_i2b (v := v193) X.1 X.2.1 d_passwordKey_194 ev193 ?_
                              refine m_bast X Y (aw_mixed _ _ _ _ _ _ _) (vp_in_nI (by omega) (by decide)) (sw_mixed _ _ _ _ _ _ _ _) d_passwordKey_195 (fun H locs Y => ?_)
                              generalize (upd (B182 26) ((nI i179)).toNatClampNeg (vp_nar .byte v193)) = f194 at Y
                              refine lv_iinc (v := (nI (i179 + 1))) (lv' := [(6, .int (nI (i179 + 1))), (5, .int (nI i110)), (4, .int (nI i2)), (0, .ref h), (1, .int (nI 16)), (2, .int (nI cnt)), (3, .ref (q 56))]) X.1 X.2.1 d_passwordKey_196 hl (k := 0) rfl (nI_add _ 1) (by decide) rfl (fun ls hl => ?_)
                              refine lv_goto (tgt := 171) X.1 X.2.1 d_passwordKey_199 (by decide) ?_
                              exact ih180 (i179 + 1) (upB B182 26 f194) _ _ _ (by omega) (by omega) (fun j h5 h6 h7 h9 h10 h11 h12 h13 h15 h16 h17 h19 h20 h21 h26 h27 h56 => ((if_neg h26).trans (hB183 j h5 h6 h7 h9 h10 h11 h12 h13 h15 h16 h17 h19 h20 h21 h26 h27 h56))) (show by8 ((upB B182 26 f194) 12) from y184) (show by8 ((upB B182 26 f194) 13) from y185) (show by8 ((upB B182 26 f194) 16) from y186) (show by8 ((upB B182 26 f194) 17) from y187)  Y (lv_sub hl [0, 1, 2, 3, 4, 5, 6] rfl)
                          exact lp181 (20) 0 B169 _ _ _ (by omega) (by omega) (fun j h5 h6 h7 h9 h10 h11 h12 h13 h15 h16 h17 h19 h20 h21 h26 h27 h56 => (hB177 j h5 h6 h7 h9 h10 h11 h12 h13 h15 h16 h17 h19 h20 h21 h26 h27 h56)) (show by8 (B169 12) from (by8_eq (hB172 12 (by decide) (by decide) (by decide) (by decide) (by decide)) y159)) (show by8 (B169 13) from (by8_eq (hB172 13 (by decide) (by decide) (by decide) (by decide) (by decide)) y160)) (show by8 (B169 16) from (by8_eq (hB172 16 (by decide) (by decide) (by decide) (by decide) (by decide)) y161)) (show by8 (B169 17) from (by8_eq (hB172 17 (by decide) (by decide) (by decide) (by decide) (by decide)) y162))  Y (lv_sub hl [0, 1, 2, 3, 4, 5, 6] rfl)
                        | succ n151 ih153 =>
                          intro i152 I155 B156 H locs ls hii152 hsi152 hB157 hI158 y159 y160 y161 y162 hk163 hk164 hk165  Y hl
                          refine lv_iload X.1 X.2.1 d_passwordKey_140 (lv_at hl 0 rfl) ?_
                          refine lv_bipush (v := (nI 20)) X.1 X.2.1 d_passwordKey_142 (by decide) ?_
                          refine lv_icmp_ge (tgt := 164) X.1 X.2.1 d_passwordKey_144 (by decide) (fun c195 => absurd c195 ?_) (fun c195 => ?_)
                          · (rw [nI_leI (by omega) (by omega)] <;> omega)
                          rw [nI_leI (by omega) (by omega)] at c195
                          refine lv_aload_n X.1 X.2.1 d_passwordKey_147 rfl (lv_at hl 3 rfl) ?_
                          refine lv_aload_n X.1 X.2.1 d_passwordKey_148 rfl (lv_at hl 3 rfl) ?_
                          refine m_get X Y 10 (by decide) lk_mac (gf_mac _ _ _) rfl d_passwordKey_149 ?_
                          refine lv_iload X.1 X.2.1 d_passwordKey_152 (lv_at hl 0 rfl) ?_
                          refine m_bald X Y (aw_mac _ _ _ _ _ _ _) (vp_in_nI (by omega) (by decide)) d_passwordKey_154 ?_
                          refine t_any (fun v196 => ?_)
                          refine m_callv (As := [.int v196]) (rest := []) (n := 1) X Y hZ hA hml hl.1 (c_hash l D E h q H.size I155 J B156 G v196 (64 + i152) hk165 (by omega)) kl_hash ks_hash kx_hash ki_hash ini_M hd_hash ⟨by decide, by decide⟩ rfl (Nat.le_of_ble_eq_true rfl) d_passwordKey_155 ⟨Nat.le_refl _, Nat.le_refl _⟩ (fun u H locs hp Y => ?_)
                          obtain ⟨I197, J198, B199, G200⟩ := u
                          obtain ⟨hI201, eJ203, hB202, eG204, hk206⟩ := hp
                          dsimp only at hI201 eJ203 hB202 eG204 hk206 Y
                          rw [eJ203, eG204] at Y
                          have hI207 : (∀ j, j ≠ 8 → j ≠ 14 → j ≠ 18 → I197 j = I j) := fun j h8 h14 h18 => (hI201 j h8).trans ((fun j h8 h14 h18 => (hI158 j h8 h14 h18)) j h8 h14 h18)
                          have hB208 : (∀ j, j ≠ 5 → j ≠ 6 → j ≠ 7 → j ≠ 9 → j ≠ 10 → j ≠ 11 → j ≠ 12 → j ≠ 13 → j ≠ 15 → j ≠ 16 → j ≠ 17 → j ≠ 19 → j ≠ 20 → j ≠ 21 → j ≠ 26 → j ≠ 27 → j ≠ 56 → B199 j = B j) := fun j h5 h6 h7 h9 h10 h11 h12 h13 h15 h16 h17 h19 h20 h21 h26 h27 h56 => (hB202 j h5 h6 h7).trans ((fun j h5 h6 h7 h9 h10 h11 h12 h13 h15 h16 h17 h19 h20 h21 h26 h27 h56 => (hB157 j h5 h6 h7 h9 h10 h11 h12 h13 h15 h16 h17 h19 h20 h21 h26 h27 h56)) j h5 h6 h7 h9 h10 h11 h12 h13 h15 h16 h17 h19 h20 h21 h26 h27 h56)
                          refine lv_iinc (v := (nI (i152 + 1))) (lv' := [(6, .int (nI (i152 + 1))), (5, .int (nI i110)), (4, .int (nI i2)), (0, .ref h), (1, .int (nI 16)), (2, .int (nI cnt)), (3, .ref (q 56))]) X.1 X.2.1 d_passwordKey_158 hl (k := 0) rfl (nI_add _ 1) (by decide) rfl (fun ls hl => ?_)
                          refine lv_goto (tgt := 140) X.1 X.2.1 d_passwordKey_161 (by decide) ?_
                          exact ih153 (i152 + 1) I197 B199 _ _ _ (by omega) (by omega) (fun j h5 h6 h7 h9 h10 h11 h12 h13 h15 h16 h17 h19 h20 h21 h26 h27 h56 => (hB208 j h5 h6 h7 h9 h10 h11 h12 h13 h15 h16 h17 h19 h20 h21 h26 h27 h56)) (fun j h8 h14 h18 => (hI207 j h8 h14 h18)) (show by8 (B199 12) from (by8_eq (hB202 12 (by decide) (by decide) (by decide)) y159)) (show by8 (B199 13) from (by8_eq (hB202 13 (by decide) (by decide) (by decide)) y160)) (show by8 (B199 16) from (by8_eq (hB202 16 (by decide) (by decide) (by decide)) y161)) (show by8 (B199 17) from (by8_eq (hB202 17 (by decide) (by decide) (by decide)) y162)) ((show I197 30 = nI (pm) from ((hI201 30 (by decide)).trans hk163)).trans (congrArg nI (show (pm : Nat) = pm by omega))) ((show I197 29 = nI (sm) from ((hI201 29 (by decide)).trans hk164)).trans (congrArg nI (show (sm : Nat) = sm by omega))) ((show I197 8 = nI ((64 + i152) + 1) from hk206).trans (congrArg nI (show ((64 + i152) + 1 : Nat) = 64 + (i152 + 1) by omega)))  Y (lv_sub hl [0, 1, 2, 3, 4, 5, 6] rfl)
                      exact lp154 (20) 0 I139 B141 _ _ _ (by omega) (by omega) (fun j h5 h6 h7 h9 h10 h11 h12 h13 h15 h16 h17 h19 h20 h21 h26 h27 h56 => (hB150 j h5 h6 h7 h9 h10 h11 h12 h13 h15 h16 h17 h19 h20 h21 h26 h27 h56)) (fun j h8 h14 h18 => (hI149 j h8 h14 h18)) (show by8 (B141 12) from (by8_eq (hB144 12 (by decide) (by decide) (by decide)) y117)) (show by8 (B141 13) from (by8_eq (hB144 13 (by decide) (by decide) (by decide)) y118)) (show by8 (B141 16) from (by8_eq (hB144 16 (by decide) (by decide) (by decide)) y119)) (show by8 (B141 17) from (by8_eq (hB144 17 (by decide) (by decide) (by decide)) y120)) ((show I139 30 = nI (pm) from ((hI143 30 (by decide)).trans hk121)).trans (congrArg nI (show (pm : Nat) = pm by omega))) ((show I139 29 = nI (sm) from ((hI143 29 (by decide)).trans hk122)).trans (congrArg nI (show (sm : Nat) = sm by omega))) ((show I139 8 = nI (64) from hk148).trans (congrArg nI (show (64 : Nat) = 64 + 0 by omega)))  Y (lv_sub hl [0, 1, 2, 3, 4, 5, 6] rfl)
                  exact lp112 (cnt - 1) 1 I87 B102 _ _ _ (by omega) (by omega) (fun j h5 h6 h7 h9 h10 h11 h12 h13 h15 h16 h17 h19 h20 h21 h26 h27 h56 => (hB103 j h5 h6 h7 h9 h10 h11 h12 h13 h15 h16 h17 h19 h20 h21 h26 h27 h56)) (fun j h8 h14 h18 => (hI96 j h8 h14 h18)) (show by8 (B102 12) from y104) (show by8 (B102 13) from y105) (show by8 (B102 16) from y106) (show by8 (B102 17) from y107) ((show I87 30 = nI (pm) from ((hI91 30 (by decide)).trans hk83)).trans (congrArg nI (show (pm : Nat) = pm by omega))) ((show I87 29 = nI (sm) from ((hI91 29 (by decide)).trans hk84)).trans (congrArg nI (show (sm : Nat) = sm by omega)))  Y (lv_sub hl [0, 1, 2, 3, 4, 5] rfl)
                | succ n98 ih100 =>
                  intro i99 B102 H locs ls hii99 hsi99 hB103 y104 y105 y106 y107  Y hl
                  refine lv_iload X.1 X.2.1 d_passwordKey_97 (lv_at hl 0 rfl) ?_
                  refine lv_bipush (v := (nI 20)) X.1 X.2.1 d_passwordKey_99 (by decide) ?_
                  refine lv_icmp_ge (tgt := 124) X.1 X.2.1 d_passwordKey_101 (by decide) (fun c209 => absurd c209 ?_) (fun c209 => ?_)
                  · (rw [nI_leI (by omega) (by omega)] <;> omega)
                  rw [nI_leI (by omega) (by omega)] at c209
                  refine lv_aload_n X.1 X.2.1 d_passwordKey_104 rfl (lv_at hl 2 rfl) ?_
                  refine m_get X Y 26 (by decide) lk_mixed (gf_mixed _ _ _) rfl d_passwordKey_105 ?_
                  refine lv_iload X.1 X.2.1 d_passwordKey_108 (lv_at hl 0 rfl) ?_
                  refine lv_aload_n X.1 X.2.1 d_passwordKey_110 rfl (lv_at hl 2 rfl) ?_
                  refine m_get X Y 10 (by decide) lk_mac (gf_mac _ _ _) rfl d_passwordKey_111 ?_
                  refine lv_iload X.1 X.2.1 d_passwordKey_114 (lv_at hl 0 rfl) ?_
                  refine m_bald X Y (aw_mac _ _ _ _ _ _ _) (vp_in_nI (by omega) (by decide)) d_passwordKey_116 ?_
                  refine t_any (fun v210 => ?_)
                  refine m_bast X Y (aw_mixed _ _ _ _ _ _ _) (vp_in_nI (by omega) (by decide)) (sw_mixed _ _ _ _ _ _ _ _) d_passwordKey_117 (fun H locs Y => ?_)
                  generalize (upd (B102 26) ((nI i99)).toNatClampNeg (vp_nar .byte v210)) = f211 at Y
                  refine lv_iinc (v := (nI (i99 + 1))) (lv' := [(5, .int (nI (i99 + 1))), (4, .int (nI i2)), (0, .ref h), (1, .int (nI 16)), (2, .int (nI cnt)), (3, .ref (q 56))]) X.1 X.2.1 d_passwordKey_118 hl (k := 0) rfl (nI_add _ 1) (by decide) rfl (fun ls hl => ?_)
                  refine lv_goto (tgt := 97) X.1 X.2.1 d_passwordKey_121 (by decide) ?_
                  exact ih100 (i99 + 1) (upB B102 26 f211) _ _ _ (by omega) (by omega) (fun j h5 h6 h7 h9 h10 h11 h12 h13 h15 h16 h17 h19 h20 h21 h26 h27 h56 => ((if_neg h26).trans (hB103 j h5 h6 h7 h9 h10 h11 h12 h13 h15 h16 h17 h19 h20 h21 h26 h27 h56))) (show by8 ((upB B102 26 f211) 12) from y104) (show by8 ((upB B102 26 f211) 13) from y105) (show by8 ((upB B102 26 f211) 16) from y106) (show by8 ((upB B102 26 f211) 17) from y107)  Y (lv_sub hl [0, 1, 2, 3, 4, 5] rfl)
              exact lp101 (20) 0 B89 _ _ _ (by omega) (by omega) (fun j h5 h6 h7 h9 h10 h11 h12 h13 h15 h16 h17 h19 h20 h21 h26 h27 h56 => (hB97 j h5 h6 h7 h9 h10 h11 h12 h13 h15 h16 h17 h19 h20 h21 h26 h27 h56)) (show by8 (B89 12) from (by8_eq (hB92 12 (by decide) (by decide) (by decide) (by decide) (by decide)) y79)) (show by8 (B89 13) from (by8_eq (hB92 13 (by decide) (by decide) (by decide) (by decide) (by decide)) y80)) (show by8 (B89 16) from (by8_eq (hB92 16 (by decide) (by decide) (by decide) (by decide) (by decide)) y81)) (show by8 (B89 17) from (by8_eq (hB92 17 (by decide) (by decide) (by decide) (by decide) (by decide)) y82))  Y (lv_sub hl [0, 1, 2, 3, 4, 5] rfl)
            | succ n71 ih73 =>
              intro i72 I75 B76 H locs ls hii72 hsi72 hB77 hI78 y79 y80 y81 y82 hk83 hk84 hk85  Y hl
              refine lv_iload X.1 X.2.1 d_passwordKey_60 (lv_at hl 0 rfl) ?_
              refine lv_iconst (v := (nI 4)) X.1 X.2.1 d_passwordKey_62 (by decide) ?_
              refine lv_icmp_ge (tgt := 90) X.1 X.2.1 d_passwordKey_63 (by decide) (fun c212 => absurd c212 ?_) (fun c212 => ?_)
              · (rw [nI_leI (by omega) (by omega)] <;> omega)
              rw [nI_leI (by omega) (by omega)] at c212
              refine lv_aload_n X.1 X.2.1 d_passwordKey_66 rfl (lv_at hl 2 rfl) ?_
              have jn214 : ∀ w213 : Int32, W p l e (mR 5 122) s m AV below meth c H locs 0 0 QQ (F0 m 81 ls [.int w213, .ref h]) := by
                intro w213
                refine m_callv (As := [.int w213]) (rest := []) (n := 1) X Y hZ hA hml hl.1 (c_hash l D E h q H.size I75 J B76 G w213 (64 + sm + i72) hk85 (by omega)) kl_hash ks_hash kx_hash ki_hash ini_M hd_hash ⟨by decide, by decide⟩ rfl (Nat.le_of_ble_eq_true rfl) d_passwordKey_81 ⟨Nat.le_refl _, Nat.le_refl _⟩ (fun u H locs hp Y => ?_)
                obtain ⟨I215, J216, B217, G218⟩ := u
                obtain ⟨hI219, eJ221, hB220, eG222, hk224⟩ := hp
                dsimp only at hI219 eJ221 hB220 eG222 hk224 Y
                rw [eJ221, eG222] at Y
                have hI225 : (∀ j, j ≠ 8 → j ≠ 14 → j ≠ 18 → I215 j = I j) := fun j h8 h14 h18 => (hI219 j h8).trans ((fun j h8 h14 h18 => (hI78 j h8 h14 h18)) j h8 h14 h18)
                have hB226 : (∀ j, j ≠ 5 → j ≠ 6 → j ≠ 7 → j ≠ 9 → j ≠ 10 → j ≠ 11 → j ≠ 12 → j ≠ 13 → j ≠ 15 → j ≠ 16 → j ≠ 17 → j ≠ 19 → j ≠ 20 → j ≠ 21 → j ≠ 26 → j ≠ 27 → j ≠ 56 → B217 j = B j) := fun j h5 h6 h7 h9 h10 h11 h12 h13 h15 h16 h17 h19 h20 h21 h26 h27 h56 => (hB220 j h5 h6 h7).trans ((fun j h5 h6 h7 h9 h10 h11 h12 h13 h15 h16 h17 h19 h20 h21 h26 h27 h56 => (hB77 j h5 h6 h7 h9 h10 h11 h12 h13 h15 h16 h17 h19 h20 h21 h26 h27 h56)) j h5 h6 h7 h9 h10 h11 h12 h13 h15 h16 h17 h19 h20 h21 h26 h27 h56)
                refine lv_iinc (v := (nI (i72 + 1))) (lv' := [(5, .int (nI (i72 + 1))), (4, .int (nI i2)), (0, .ref h), (1, .int (nI 16)), (2, .int (nI cnt)), (3, .ref (q 56))]) X.1 X.2.1 d_passwordKey_84 hl (k := 0) rfl (nI_add _ 1) (by decide) rfl (fun ls hl => ?_)
                refine lv_goto (tgt := 60) X.1 X.2.1 d_passwordKey_87 (by decide) ?_
                exact ih73 (i72 + 1) I215 B217 _ _ _ (by omega) (by omega) (fun j h5 h6 h7 h9 h10 h11 h12 h13 h15 h16 h17 h19 h20 h21 h26 h27 h56 => (hB226 j h5 h6 h7 h9 h10 h11 h12 h13 h15 h16 h17 h19 h20 h21 h26 h27 h56)) (fun j h8 h14 h18 => (hI225 j h8 h14 h18)) (show by8 (B217 12) from (by8_eq (hB220 12 (by decide) (by decide) (by decide)) y79)) (show by8 (B217 13) from (by8_eq (hB220 13 (by decide) (by decide) (by decide)) y80)) (show by8 (B217 16) from (by8_eq (hB220 16 (by decide) (by decide) (by decide)) y81)) (show by8 (B217 17) from (by8_eq (hB220 17 (by decide) (by decide) (by decide)) y82)) ((show I215 30 = nI (pm) from ((hI219 30 (by decide)).trans hk83)).trans (congrArg nI (show (pm : Nat) = pm by omega))) ((show I215 29 = nI (sm) from ((hI219 29 (by decide)).trans hk84)).trans (congrArg nI (show (sm : Nat) = sm by omega))) ((show I215 8 = nI ((64 + sm + i72) + 1) from hk224).trans (congrArg nI (show ((64 + sm + i72) + 1 : Nat) = 64 + sm + (i72 + 1) by omega)))  Y (lv_sub hl [0, 1, 2, 3, 4, 5] rfl)
              refine lv_iload X.1 X.2.1 d_passwordKey_67 (lv_at hl 0 rfl) ?_
              refine lv_iconst (v := (nI 3)) X.1 X.2.1 d_passwordKey_69 (by decide) ?_
              refine lv_icmp_ne (tgt := 80) X.1 X.2.1 d_passwordKey_70 (by decide) (fun c227 => ?_) (fun c227 => ?_)
              · skip
                rw [nI_eq (by omega) (by omega)] at c227
                refine lv_iconst (v := (nI 0)) X.1 X.2.1 d_passwordKey_80 (by decide) ?_
                exact jn214 _
              · skip
                rw [nI_eq (by omega) (by omega)] at c227
                refine lv_iload X.1 X.2.1 d_passwordKey_73 (lv_at hl 1 rfl) ?_
                refine lv_iconst (v := (nI 1)) X.1 X.2.1 d_passwordKey_75 (by decide) ?_
                refine lv_iadd X.1 X.2.1 d_passwordKey_76 ?_
                refine t_eq (y := nI (i2 + 1)) (nI_add _ _) ?_
                refine lv_goto (tgt := 81) X.1 X.2.1 d_passwordKey_77 (by decide) ?_
                exact jn214 _
          exact lp74 (4) 0 I59 B60 _ _ _ (by omega) (by omega) (fun j h5 h6 h7 h9 h10 h11 h12 h13 h15 h16 h17 h19 h20 h21 h26 h27 h56 => (hB61 j h5 h6 h7 h9 h10 h11 h12 h13 h15 h16 h17 h19 h20 h21 h26 h27 h56)) (fun j h8 h14 h18 => (hI62 j h8 h14 h18)) (show by8 (B60 12) from y63) (show by8 (B60 13) from y64) (show by8 (B60 16) from y65) (show by8 (B60 17) from y66) ((show I59 30 = nI (pm) from hk67).trans (congrArg nI (show (pm : Nat) = pm by omega))) ((show I59 29 = nI (sm) from hk68).trans (congrArg nI (show (sm : Nat) = sm by omega))) ((show I59 8 = nI (64 + i56) from hk69).trans (congrArg nI (show (64 + i56 : Nat) = 64 + sm + 0 by omega)))  Y (lv_sub hl [0, 1, 2, 3, 4, 5] rfl)
        | succ n55 ih57 =>
          intro i56 I59 B60 H locs ls hii56 hsi56 hB61 hI62 y63 y64 y65 y66 hk67 hk68 hk69  Y hl
          refine lv_iload X.1 X.2.1 d_passwordKey_31 (lv_at hl 0 rfl) ?_
          refine lv_aload_n X.1 X.2.1 d_passwordKey_33 rfl (lv_at hl 2 rfl) ?_
          refine m_get X Y 29 (by decide) lk_saltMany (gf_saltMany _ _ _) rfl d_passwordKey_34 ?_
          refine t_eq (show I59 29 = nI (sm) from hk68) ?_
          refine lv_icmp_ge (tgt := 57) X.1 X.2.1 d_passwordKey_37 (by decide) (fun c228 => absurd c228 ?_) (fun c228 => ?_)
          · (rw [nI_leI (by omega) (by omega)] <;> omega)
          rw [nI_leI (by omega) (by omega)] at c228
          refine lv_aload_n X.1 X.2.1 d_passwordKey_40 rfl (lv_at hl 2 rfl) ?_
          refine lv_aload_n X.1 X.2.1 d_passwordKey_41 rfl (lv_at hl 2 rfl) ?_
          refine m_get X Y 24 (by decide) lk_salt (gf_salt _ _ _) rfl d_passwordKey_42 ?_
          refine lv_iload X.1 X.2.1 d_passwordKey_45 (lv_at hl 0 rfl) ?_
          refine m_bald X Y (aw_salt _ _ _ _ _ _ _) (vp_in_nI (by omega) (by decide)) d_passwordKey_47 ?_
          refine t_any (fun v229 => ?_)
          refine m_callv (As := [.int v229]) (rest := []) (n := 1) X Y hZ hA hml hl.1 (c_hash l D E h q H.size I59 J B60 G v229 (64 + i56) hk69 (by omega)) kl_hash ks_hash kx_hash ki_hash ini_M hd_hash ⟨by decide, by decide⟩ rfl (Nat.le_of_ble_eq_true rfl) d_passwordKey_48 ⟨Nat.le_refl _, Nat.le_refl _⟩ (fun u H locs hp Y => ?_)
          obtain ⟨I230, J231, B232, G233⟩ := u
          obtain ⟨hI234, eJ236, hB235, eG237, hk239⟩ := hp
          dsimp only at hI234 eJ236 hB235 eG237 hk239 Y
          rw [eJ236, eG237] at Y
          have hI240 : (∀ j, j ≠ 8 → j ≠ 14 → j ≠ 18 → I230 j = I j) := fun j h8 h14 h18 => (hI234 j h8).trans ((fun j h8 h14 h18 => (hI62 j h8 h14 h18)) j h8 h14 h18)
          have hB241 : (∀ j, j ≠ 5 → j ≠ 6 → j ≠ 7 → j ≠ 9 → j ≠ 10 → j ≠ 11 → j ≠ 12 → j ≠ 13 → j ≠ 15 → j ≠ 16 → j ≠ 17 → j ≠ 19 → j ≠ 20 → j ≠ 21 → j ≠ 26 → j ≠ 27 → j ≠ 56 → B232 j = B j) := fun j h5 h6 h7 h9 h10 h11 h12 h13 h15 h16 h17 h19 h20 h21 h26 h27 h56 => (hB235 j h5 h6 h7).trans ((fun j h5 h6 h7 h9 h10 h11 h12 h13 h15 h16 h17 h19 h20 h21 h26 h27 h56 => (hB61 j h5 h6 h7 h9 h10 h11 h12 h13 h15 h16 h17 h19 h20 h21 h26 h27 h56)) j h5 h6 h7 h9 h10 h11 h12 h13 h15 h16 h17 h19 h20 h21 h26 h27 h56)
          refine lv_iinc (v := (nI (i56 + 1))) (lv' := [(5, .int (nI (i56 + 1))), (4, .int (nI i2)), (0, .ref h), (1, .int (nI 16)), (2, .int (nI cnt)), (3, .ref (q 56))]) X.1 X.2.1 d_passwordKey_51 hl (k := 0) rfl (nI_add _ 1) (by decide) rfl (fun ls hl => ?_)
          refine lv_goto (tgt := 31) X.1 X.2.1 d_passwordKey_54 (by decide) ?_
          exact ih57 (i56 + 1) I230 B232 _ _ _ (by omega) (by omega) (fun j h5 h6 h7 h9 h10 h11 h12 h13 h15 h16 h17 h19 h20 h21 h26 h27 h56 => (hB241 j h5 h6 h7 h9 h10 h11 h12 h13 h15 h16 h17 h19 h20 h21 h26 h27 h56)) (fun j h8 h14 h18 => (hI240 j h8 h14 h18)) (show by8 (B232 12) from (by8_eq (hB235 12 (by decide) (by decide) (by decide)) y63)) (show by8 (B232 13) from (by8_eq (hB235 13 (by decide) (by decide) (by decide)) y64)) (show by8 (B232 16) from (by8_eq (hB235 16 (by decide) (by decide) (by decide)) y65)) (show by8 (B232 17) from (by8_eq (hB235 17 (by decide) (by decide) (by decide)) y66)) ((show I230 30 = nI (pm) from ((hI234 30 (by decide)).trans hk67)).trans (congrArg nI (show (pm : Nat) = pm by omega))) ((show I230 29 = nI (sm) from ((hI234 29 (by decide)).trans hk68)).trans (congrArg nI (show (sm : Nat) = sm by omega))) ((show I230 8 = nI ((64 + i56) + 1) from hk239).trans (congrArg nI (show ((64 + i56) + 1 : Nat) = 64 + (i56 + 1) by omega)))  Y (lv_sub hl [0, 1, 2, 3, 4, 5] rfl)
      exact lp58 (sm) 0 I43 B45 _ _ _ (by omega) (by omega) (fun j h5 h6 h7 h9 h10 h11 h12 h13 h15 h16 h17 h19 h20 h21 h26 h27 h56 => (hB54 j h5 h6 h7 h9 h10 h11 h12 h13 h15 h16 h17 h19 h20 h21 h26 h27 h56)) (fun j h8 h14 h18 => (hI53 j h8 h14 h18)) (show by8 (B45 12) from (by8_eq (hB48 12 (by decide) (by decide) (by decide)) (by8_eq (hB37 12 (by decide)) y9))) (show by8 (B45 13) from (by8_eq (hB48 13 (by decide) (by decide) (by decide)) (by8_eq (hB37 13 (by decide)) y10))) (show by8 (B45 16) from (by8_eq (hB48 16 (by decide) (by decide) (by decide)) (by8_eq (hB37 16 (by decide)) y11))) (show by8 (B45 17) from (by8_eq (hB48 17 (by decide) (by decide) (by decide)) (by8_eq (hB37 17 (by decide)) y12))) ((show I43 30 = nI (pm) from ((hI47 30 (by decide)).trans hk13)).trans (congrArg nI (show (pm : Nat) = pm by omega))) ((show I43 29 = nI (sm) from ((hI47 29 (by decide)).trans hk14)).trans (congrArg nI (show (sm : Nat) = sm by omega))) ((show I43 8 = nI (64) from hk52).trans (congrArg nI (show (64 : Nat) = 64 + 0 by omega)))  Y (lv_sub hl [0, 1, 2, 3, 4, 5] rfl)
  exact lp4 (1) 0 I B _ _ _ (by omega) (by omega) (fun j h5 h6 h7 h9 h10 h11 h12 h13 h15 h16 h17 h19 h20 h21 h26 h27 h56 => rfl) (fun j h8 h14 h18 => rfl) (show by8 (B 12) from y12) (show by8 (B 13) from y13) (show by8 (B 16) from y16) (show by8 (B 17) from y17) ((show I 30 = nI (pm) from hpm).trans (congrArg nI (show (pm : Nat) = pm by omega))) ((show I 29 = nI (sm) from hsm).trans (congrArg nI (show (sm : Nat) = sm by omega)))  Y (lv_sub hl [0, 1, 2, 3, 4] rfl)
set_option maxHeartbeats 4000000 in
set_option maxRecDepth 100000 in
theorem c_passwordKey_32 (l : Launch) (D : mD) (E : mE) (h : Nat) (q : Nat → Nat) (sz : Nat) (I : Nat → Int32) (J : Nat → Int64) (B : Nat → Nat → Int32) (G : Nat → Nat → Int64) (cnt pm sm : Nat) (hcnt1 : 1 ≤ cnt) (hcnt : cnt ≤ 200) (hpm : I 30 = nI pm) (hpm2 : pm ≤ 30) (hsm : I 29 = nI sm) (hsm2 : sm ≤ 60) (y12 : by8 (B 12)) (y13 : by8 (B 13)) (y16 : by8 (B 16)) (y17 : by8 (B 17)) : Met l y_passwordKey (k_passwordKey :: lw_tg) (mR 5 122) (va_Pc [.ref h, .int (nI 32), .int (nI cnt), .ref (q 56)] (mPre D E h q (I, J, B, G) sz)) (va_Qv (fun (u : mS) => (∀ j, j ≠ 8 → j ≠ 14 → j ≠ 18 → u.1 j = I j) ∧ u.2.1 = J ∧ (∀ j, j ≠ 5 → j ≠ 6 → j ≠ 7 → j ≠ 9 → j ≠ 10 → j ≠ 11 → j ≠ 12 → j ≠ 13 → j ≠ 15 → j ≠ 16 → j ≠ 17 → j ≠ 19 → j ≠ 20 → j ≠ 21 → j ≠ 26 → j ≠ 27 → j ≠ 56 → u.2.2.1 j = B j) ∧ u.2.2.2 = G ∧ by8 (u.2.2.1 12) ∧ by8 (u.2.2.1 13) ∧ by8 (u.2.2.1 16) ∧ by8 (u.2.2.1 17)) (mPost D E h q (mA E h q sz)) (mA E h q sz)) 0 0 (mA E h q sz) := by
  refine m_enter (by decide) rfl (Nat.le_of_ble_eq_true rfl) (fun p e s m below meth c ls AV QQ H locs hQQ X Y hZ hA hr hlk hml hl => ?_)
  have Y : mH D E (mA E h q sz) s.heap h q I J B G H locs := Y
  have hl : lv_has ls 7 [(0, .ref h), (1, .int (nI 32)), (2, .int (nI cnt)), (3, .ref (q 56))] := hl
  refine lv_iconst (v := (nI 0)) X.1 X.2.1 d_passwordKey_0 (by decide) ?_
  refine lv_istore (lv' := [(4, .int (nI 0)), (0, .ref h), (1, .int (nI 32)), (2, .int (nI cnt)), (3, .ref (q 56))]) X.1 X.2.1 d_passwordKey_1 hl (by decide) rfl (fun ls hl => ?_)
  have lp4 : ∀ (n1 i2 : Nat) (I5 : Nat → Int32) (B6 : Nat → Nat → Int32) (H : Heap) (locs : List Loc) (ls : Array Slot), i2 + n1 = 2 → 0 ≤ i2 → (∀ j, j ≠ 5 → j ≠ 6 → j ≠ 7 → j ≠ 9 → j ≠ 10 → j ≠ 11 → j ≠ 12 → j ≠ 13 → j ≠ 15 → j ≠ 16 → j ≠ 17 → j ≠ 19 → j ≠ 20 → j ≠ 21 → j ≠ 26 → j ≠ 27 → j ≠ 56 → B6 j = B j) → (∀ j, j ≠ 8 → j ≠ 14 → j ≠ 18 → I5 j = I j) → by8 (B6 12) → by8 (B6 13) → by8 (B6 16) → by8 (B6 17) → I5 30 = nI (pm) → I5 29 = nI (sm) → mH D E (mA E h q sz) s.heap h q I5 J B6 G H locs → lv_has ls 7 [(4, .int (nI i2)), (0, .ref h), (1, .int (nI 32)), (2, .int (nI cnt)), (3, .ref (q 56))] → W p l e (mR 5 122) s m AV below meth c H locs 0 0 QQ (F0 m 3 ls []) := by
    intro n1
    induction n1 with
    | zero =>
      intro i2 I5 B6 H locs ls hii2 hsi2 hB7 hI8 y9 y10 y11 y12 hk13 hk14  Y hl
      refine lv_bipush (v := (nI 20)) X.1 X.2.1 d_passwordKey_3 (by decide) ?_
      refine lv_iload X.1 X.2.1 d_passwordKey_5 (lv_at hl 0 rfl) ?_
      refine lv_imul X.1 X.2.1 d_passwordKey_7 ?_
      refine t_eq (y := nI ((20) * (i2))) (pk_mul _ _) ?_
      refine lv_iload_n X.1 X.2.1 d_passwordKey_8 rfl (lv_at hl 2 rfl) ?_
      refine lv_icmp_ge (tgt := 250) X.1 X.2.1 d_passwordKey_9 (by decide) (fun c15 => ?_) (fun c15 => absurd ?_ c15)
      rotate_left
      · (rw [nI_leI (by omega) (by omega)] <;> omega)
      rw [nI_leI (by omega) (by omega)] at c15
      refine lv_aload_n X.1 X.2.1 d_passwordKey_250 rfl (lv_at hl 1 rfl) ?_
      refine lv_aload_n X.1 X.2.1 d_passwordKey_251 rfl (lv_at hl 1 rfl) ?_
      refine m_get X Y 27 (by decide) lk_long0 (gf_long0 _ _ _) rfl d_passwordKey_252 ?_
      refine lv_iload_n X.1 X.2.1 d_passwordKey_255 rfl (lv_at hl 2 rfl) ?_
      refine lv_aload_n X.1 X.2.1 d_passwordKey_256 rfl (lv_at hl 1 rfl) ?_
      refine m_get X Y 28 (by decide) lk_kerberos (gf_kerberos _ _ _) rfl d_passwordKey_257 ?_
      refine lv_bipush (v := (nI 8)) X.1 X.2.1 d_passwordKey_260 (by decide) ?_
      refine lv_aload_n X.1 X.2.1 d_passwordKey_262 rfl (lv_at hl 4 rfl) ?_
      refine m_callv (As := [.ref (q 27), .int (nI 32), .ref (q 28), .int (nI 8), .ref (q 56)]) (rest := []) (n := 5) X Y hZ hA hml hl.1 (c_derive_32 l D E h q H.size I5 J B6 G  (show by8 (B6 12) from y9) (show by8 (B6 13) from y10) (show by8 (B6 16) from y11) (show by8 (B6 17) from y12)) kl_derive ks_derive kx_derive ki_derive ini_M hd_derive ⟨by decide, by decide⟩ rfl (Nat.le_of_ble_eq_true rfl) d_passwordKey_263 ⟨Nat.le_refl _, Nat.le_refl _⟩ (fun u H locs hp Y => ?_)
      obtain ⟨I16, J17, B18, G19⟩ := u
      obtain ⟨hI20, eJ22, hB21, eG23, y25, y26, y27, y28⟩ := hp
      dsimp only at hI20 eJ22 hB21 eG23 y25 y26 y27 y28 Y
      rw [eJ22, eG23] at Y
      have hI29 : (∀ j, j ≠ 8 → j ≠ 14 → j ≠ 18 → I16 j = I j) := fun j h8 h14 h18 => (hI20 j h14 h18).trans ((fun j h8 h14 h18 => (hI8 j h8 h14 h18)) j h8 h14 h18)
      have hB30 : (∀ j, j ≠ 5 → j ≠ 6 → j ≠ 7 → j ≠ 9 → j ≠ 10 → j ≠ 11 → j ≠ 12 → j ≠ 13 → j ≠ 15 → j ≠ 16 → j ≠ 17 → j ≠ 19 → j ≠ 20 → j ≠ 21 → j ≠ 26 → j ≠ 27 → j ≠ 56 → B18 j = B j) := fun j h5 h6 h7 h9 h10 h11 h12 h13 h15 h16 h17 h19 h20 h21 h26 h27 h56 => (hB21 j h12 h13 h15 h16 h17 h19 h20 h21 h56).trans ((fun j h5 h6 h7 h9 h10 h11 h12 h13 h15 h16 h17 h19 h20 h21 h26 h27 h56 => (hB7 j h5 h6 h7 h9 h10 h11 h12 h13 h15 h16 h17 h19 h20 h21 h26 h27 h56)) j h5 h6 h7 h9 h10 h11 h12 h13 h15 h16 h17 h19 h20 h21 h26 h27 h56)
      exact m_retv hQQ X Y hr hlk ⟨(fun j h8 h14 h18 => (hI29 j h8 h14 h18)), rfl, (fun j h5 h6 h7 h9 h10 h11 h12 h13 h15 h16 h17 h19 h20 h21 h26 h27 h56 => (hB30 j h5 h6 h7 h9 h10 h11 h12 h13 h15 h16 h17 h19 h20 h21 h26 h27 h56)), rfl, (show by8 (B18 12) from y25), (show by8 (B18 13) from y26), (show by8 (B18 16) from y27), (show by8 (B18 17) from y28)⟩ d_passwordKey_266
    | succ n1 ih3 =>
      intro i2 I5 B6 H locs ls hii2 hsi2 hB7 hI8 y9 y10 y11 y12 hk13 hk14  Y hl
      refine lv_bipush (v := (nI 20)) X.1 X.2.1 d_passwordKey_3 (by decide) ?_
      refine lv_iload X.1 X.2.1 d_passwordKey_5 (lv_at hl 0 rfl) ?_
      refine lv_imul X.1 X.2.1 d_passwordKey_7 ?_
      refine t_eq (y := nI ((20) * (i2))) (pk_mul _ _) ?_
      refine lv_iload_n X.1 X.2.1 d_passwordKey_8 rfl (lv_at hl 2 rfl) ?_
      refine lv_icmp_ge (tgt := 250) X.1 X.2.1 d_passwordKey_9 (by decide) (fun c31 => absurd c31 ?_) (fun c31 => ?_)
      · (rw [nI_leI (by omega) (by omega)] <;> omega)
      rw [nI_leI (by omega) (by omega)] at c31
      refine lv_aload_n X.1 X.2.1 d_passwordKey_12 rfl (lv_at hl 1 rfl) ?_
      refine lv_aload_n X.1 X.2.1 d_passwordKey_13 rfl (lv_at hl 1 rfl) ?_
      refine m_get X Y 25 (by decide) lk_password (gf_password _ _ _) rfl d_passwordKey_14 ?_
      refine lv_aload_n X.1 X.2.1 d_passwordKey_17 rfl (lv_at hl 1 rfl) ?_
      refine m_get X Y 30 (by decide) lk_passwordMany (gf_passwordMany _ _ _) rfl d_passwordKey_18 ?_
      refine t_eq (show I5 30 = nI (pm) from hk13) ?_
      refine m_callv (As := [.ref (q 25), .int (nI (pm))]) (rest := []) (n := 2) X Y hZ hA hml hl.1 (c_macKey_password l D E h q H.size I5 J B6 G (pm) (by omega)) kl_macKey ks_macKey kx_macKey ki_macKey ini_M hd_macKey ⟨by decide, by decide⟩ rfl (Nat.le_of_ble_eq_true rfl) d_passwordKey_21 ⟨Nat.le_refl _, Nat.le_refl _⟩ (fun u H locs hp Y => ?_)
      obtain ⟨I32, J33, B34, G35⟩ := u
      obtain ⟨hI36, eJ38, hB37, eG39⟩ := hp
      dsimp only at hI36 eJ38 hB37 eG39 Y
      rw [eJ38, eG39] at Y
      rw [show I32 = I5 from funext hI36] at Y
      have hB42 : (∀ j, j ≠ 5 → j ≠ 6 → j ≠ 7 → j ≠ 9 → j ≠ 10 → j ≠ 11 → j ≠ 12 → j ≠ 13 → j ≠ 15 → j ≠ 16 → j ≠ 17 → j ≠ 19 → j ≠ 20 → j ≠ 21 → j ≠ 26 → j ≠ 27 → j ≠ 56 → B34 j = B j) := fun j h5 h6 h7 h9 h10 h11 h12 h13 h15 h16 h17 h19 h20 h21 h26 h27 h56 => (hB37 j h11).trans ((fun j h5 h6 h7 h9 h10 h11 h12 h13 h15 h16 h17 h19 h20 h21 h26 h27 h56 => (hB7 j h5 h6 h7 h9 h10 h11 h12 h13 h15 h16 h17 h19 h20 h21 h26 h27 h56)) j h5 h6 h7 h9 h10 h11 h12 h13 h15 h16 h17 h19 h20 h21 h26 h27 h56)
      refine lv_aload_n X.1 X.2.1 d_passwordKey_24 rfl (lv_at hl 1 rfl) ?_
      refine m_callv (As := []) (rest := []) (n := 0) X Y hZ hA hml hl.1 (c_macBegin l D E h q H.size I5 J B34 G ) kl_macBegin ks_macBegin kx_macBegin ki_macBegin ini_M hd_macBegin ⟨by decide, by decide⟩ rfl (Nat.le_of_ble_eq_true rfl) d_passwordKey_25 ⟨Nat.le_refl _, Nat.le_refl _⟩ (fun u H locs hp Y => ?_)
      obtain ⟨I43, J44, B45, G46⟩ := u
      obtain ⟨hI47, eJ49, hB48, eG50, hk52⟩ := hp
      dsimp only at hI47 eJ49 hB48 eG50 hk52 Y
      rw [eJ49, eG50] at Y
      have hI53 : (∀ j, j ≠ 8 → j ≠ 14 → j ≠ 18 → I43 j = I j) := fun j h8 h14 h18 => (hI47 j h8).trans ((fun j h8 h14 h18 => (hI8 j h8 h14 h18)) j h8 h14 h18)
      have hB54 : (∀ j, j ≠ 5 → j ≠ 6 → j ≠ 7 → j ≠ 9 → j ≠ 10 → j ≠ 11 → j ≠ 12 → j ≠ 13 → j ≠ 15 → j ≠ 16 → j ≠ 17 → j ≠ 19 → j ≠ 20 → j ≠ 21 → j ≠ 26 → j ≠ 27 → j ≠ 56 → B45 j = B j) := fun j h5 h6 h7 h9 h10 h11 h12 h13 h15 h16 h17 h19 h20 h21 h26 h27 h56 => (hB48 j h5 h6 h7).trans ((fun j h5 h6 h7 h9 h10 h11 h12 h13 h15 h16 h17 h19 h20 h21 h26 h27 h56 => (hB42 j h5 h6 h7 h9 h10 h11 h12 h13 h15 h16 h17 h19 h20 h21 h26 h27 h56)) j h5 h6 h7 h9 h10 h11 h12 h13 h15 h16 h17 h19 h20 h21 h26 h27 h56)
      refine lv_iconst (v := (nI 0)) X.1 X.2.1 d_passwordKey_28 (by decide) ?_
      refine lv_istore (lv' := [(5, .int (nI 0)), (4, .int (nI i2)), (0, .ref h), (1, .int (nI 32)), (2, .int (nI cnt)), (3, .ref (q 56))]) X.1 X.2.1 d_passwordKey_29 hl (by decide) rfl (fun ls hl => ?_)
      have lp58 : ∀ (n55 i56 : Nat) (I59 : Nat → Int32) (B60 : Nat → Nat → Int32) (H : Heap) (locs : List Loc) (ls : Array Slot), i56 + n55 = sm → 0 ≤ i56 → (∀ j, j ≠ 5 → j ≠ 6 → j ≠ 7 → j ≠ 9 → j ≠ 10 → j ≠ 11 → j ≠ 12 → j ≠ 13 → j ≠ 15 → j ≠ 16 → j ≠ 17 → j ≠ 19 → j ≠ 20 → j ≠ 21 → j ≠ 26 → j ≠ 27 → j ≠ 56 → B60 j = B j) → (∀ j, j ≠ 8 → j ≠ 14 → j ≠ 18 → I59 j = I j) → by8 (B60 12) → by8 (B60 13) → by8 (B60 16) → by8 (B60 17) → I59 30 = nI (pm) → I59 29 = nI (sm) → I59 8 = nI (64 + i56) → mH D E (mA E h q sz) s.heap h q I59 J B60 G H locs → lv_has ls 7 [(5, .int (nI i56)), (4, .int (nI i2)), (0, .ref h), (1, .int (nI 32)), (2, .int (nI cnt)), (3, .ref (q 56))] → W p l e (mR 5 122) s m AV below meth c H locs 0 0 QQ (F0 m 31 ls []) := by
        intro n55
        induction n55 with
        | zero =>
          intro i56 I59 B60 H locs ls hii56 hsi56 hB61 hI62 y63 y64 y65 y66 hk67 hk68 hk69  Y hl
          refine lv_iload X.1 X.2.1 d_passwordKey_31 (lv_at hl 0 rfl) ?_
          refine lv_aload_n X.1 X.2.1 d_passwordKey_33 rfl (lv_at hl 2 rfl) ?_
          refine m_get X Y 29 (by decide) lk_saltMany (gf_saltMany _ _ _) rfl d_passwordKey_34 ?_
          refine t_eq (show I59 29 = nI (sm) from hk68) ?_
          refine lv_icmp_ge (tgt := 57) X.1 X.2.1 d_passwordKey_37 (by decide) (fun c70 => ?_) (fun c70 => absurd ?_ c70)
          rotate_left
          · (rw [nI_leI (by omega) (by omega)] <;> omega)
          rw [nI_leI (by omega) (by omega)] at c70
          refine lv_iconst (v := (nI 0)) X.1 X.2.1 d_passwordKey_57 (by decide) ?_
          refine lv_istore (lv' := [(5, .int (nI 0)), (4, .int (nI i2)), (0, .ref h), (1, .int (nI 32)), (2, .int (nI cnt)), (3, .ref (q 56))]) X.1 X.2.1 d_passwordKey_58 hl (by decide) rfl (fun ls hl => ?_)
          have lp74 : ∀ (n71 i72 : Nat) (I75 : Nat → Int32) (B76 : Nat → Nat → Int32) (H : Heap) (locs : List Loc) (ls : Array Slot), i72 + n71 = 4 → 0 ≤ i72 → (∀ j, j ≠ 5 → j ≠ 6 → j ≠ 7 → j ≠ 9 → j ≠ 10 → j ≠ 11 → j ≠ 12 → j ≠ 13 → j ≠ 15 → j ≠ 16 → j ≠ 17 → j ≠ 19 → j ≠ 20 → j ≠ 21 → j ≠ 26 → j ≠ 27 → j ≠ 56 → B76 j = B j) → (∀ j, j ≠ 8 → j ≠ 14 → j ≠ 18 → I75 j = I j) → by8 (B76 12) → by8 (B76 13) → by8 (B76 16) → by8 (B76 17) → I75 30 = nI (pm) → I75 29 = nI (sm) → I75 8 = nI (64 + sm + i72) → mH D E (mA E h q sz) s.heap h q I75 J B76 G H locs → lv_has ls 7 [(5, .int (nI i72)), (4, .int (nI i2)), (0, .ref h), (1, .int (nI 32)), (2, .int (nI cnt)), (3, .ref (q 56))] → W p l e (mR 5 122) s m AV below meth c H locs 0 0 QQ (F0 m 60 ls []) := by
            intro n71
            induction n71 with
            | zero =>
              intro i72 I75 B76 H locs ls hii72 hsi72 hB77 hI78 y79 y80 y81 y82 hk83 hk84 hk85  Y hl
              refine lv_iload X.1 X.2.1 d_passwordKey_60 (lv_at hl 0 rfl) ?_
              refine lv_iconst (v := (nI 4)) X.1 X.2.1 d_passwordKey_62 (by decide) ?_
              refine lv_icmp_ge (tgt := 90) X.1 X.2.1 d_passwordKey_63 (by decide) (fun c86 => ?_) (fun c86 => absurd ?_ c86)
              rotate_left
              · (rw [nI_leI (by omega) (by omega)] <;> omega)
              rw [nI_leI (by omega) (by omega)] at c86
              refine lv_aload_n X.1 X.2.1 d_passwordKey_90 rfl (lv_at hl 2 rfl) ?_
              refine m_callv (As := []) (rest := []) (n := 0) X Y hZ hA hml hl.1 (c_macEnd l D E h q H.size I75 J B76 G (64 + sm + i72) hk85 (by omega)) kl_macEnd ks_macEnd kx_macEnd ki_macEnd ini_M hd_macEnd ⟨by decide, by decide⟩ rfl (Nat.le_of_ble_eq_true rfl) d_passwordKey_91 ⟨Nat.le_refl _, Nat.le_refl _⟩ (fun u H locs hp Y => ?_)
              obtain ⟨I87, J88, B89, G90⟩ := u
              obtain ⟨hI91, eJ93, hB92, eG94⟩ := hp
              dsimp only at hI91 eJ93 hB92 eG94 Y
              rw [eJ93, eG94] at Y
              have hI96 : (∀ j, j ≠ 8 → j ≠ 14 → j ≠ 18 → I87 j = I j) := fun j h8 h14 h18 => (hI91 j h8).trans ((fun j h8 h14 h18 => (hI78 j h8 h14 h18)) j h8 h14 h18)
              have hB97 : (∀ j, j ≠ 5 → j ≠ 6 → j ≠ 7 → j ≠ 9 → j ≠ 10 → j ≠ 11 → j ≠ 12 → j ≠ 13 → j ≠ 15 → j ≠ 16 → j ≠ 17 → j ≠ 19 → j ≠ 20 → j ≠ 21 → j ≠ 26 → j ≠ 27 → j ≠ 56 → B89 j = B j) := fun j h5 h6 h7 h9 h10 h11 h12 h13 h15 h16 h17 h19 h20 h21 h26 h27 h56 => (hB92 j h5 h6 h7 h9 h10).trans ((fun j h5 h6 h7 h9 h10 h11 h12 h13 h15 h16 h17 h19 h20 h21 h26 h27 h56 => (hB77 j h5 h6 h7 h9 h10 h11 h12 h13 h15 h16 h17 h19 h20 h21 h26 h27 h56)) j h5 h6 h7 h9 h10 h11 h12 h13 h15 h16 h17 h19 h20 h21 h26 h27 h56)
              refine lv_iconst (v := (nI 0)) X.1 X.2.1 d_passwordKey_94 (by decide) ?_
              refine lv_istore (lv' := [(5, .int (nI 0)), (4, .int (nI i2)), (0, .ref h), (1, .int (nI 32)), (2, .int (nI cnt)), (3, .ref (q 56))]) X.1 X.2.1 d_passwordKey_95 hl (by decide) rfl (fun ls hl => ?_)
              have lp101 : ∀ (n98 i99 : Nat) (B102 : Nat → Nat → Int32) (H : Heap) (locs : List Loc) (ls : Array Slot), i99 + n98 = 20 → 0 ≤ i99 → (∀ j, j ≠ 5 → j ≠ 6 → j ≠ 7 → j ≠ 9 → j ≠ 10 → j ≠ 11 → j ≠ 12 → j ≠ 13 → j ≠ 15 → j ≠ 16 → j ≠ 17 → j ≠ 19 → j ≠ 20 → j ≠ 21 → j ≠ 26 → j ≠ 27 → j ≠ 56 → B102 j = B j) → by8 (B102 12) → by8 (B102 13) → by8 (B102 16) → by8 (B102 17) → mH D E (mA E h q sz) s.heap h q I87 J B102 G H locs → lv_has ls 7 [(5, .int (nI i99)), (4, .int (nI i2)), (0, .ref h), (1, .int (nI 32)), (2, .int (nI cnt)), (3, .ref (q 56))] → W p l e (mR 5 122) s m AV below meth c H locs 0 0 QQ (F0 m 97 ls []) := by
                intro n98
                induction n98 with
                | zero =>
                  intro i99 B102 H locs ls hii99 hsi99 hB103 y104 y105 y106 y107  Y hl
                  refine lv_iload X.1 X.2.1 d_passwordKey_97 (lv_at hl 0 rfl) ?_
                  refine lv_bipush (v := (nI 20)) X.1 X.2.1 d_passwordKey_99 (by decide) ?_
                  refine lv_icmp_ge (tgt := 124) X.1 X.2.1 d_passwordKey_101 (by decide) (fun c108 => ?_) (fun c108 => absurd ?_ c108)
                  rotate_left
                  · (rw [nI_leI (by omega) (by omega)] <;> omega)
                  rw [nI_leI (by omega) (by omega)] at c108
                  refine lv_iconst (v := (nI 1)) X.1 X.2.1 d_passwordKey_124 (by decide) ?_
                  refine lv_istore (lv' := [(5, .int (nI 1)), (4, .int (nI i2)), (0, .ref h), (1, .int (nI 32)), (2, .int (nI cnt)), (3, .ref (q 56))]) X.1 X.2.1 d_passwordKey_125 hl (by decide) rfl (fun ls hl => ?_)
                  have lp112 : ∀ (n109 i110 : Nat) (I113 : Nat → Int32) (B114 : Nat → Nat → Int32) (H : Heap) (locs : List Loc) (ls : Array Slot), i110 + n109 = cnt → 1 ≤ i110 → (∀ j, j ≠ 5 → j ≠ 6 → j ≠ 7 → j ≠ 9 → j ≠ 10 → j ≠ 11 → j ≠ 12 → j ≠ 13 → j ≠ 15 → j ≠ 16 → j ≠ 17 → j ≠ 19 → j ≠ 20 → j ≠ 21 → j ≠ 26 → j ≠ 27 → j ≠ 56 → B114 j = B j) → (∀ j, j ≠ 8 → j ≠ 14 → j ≠ 18 → I113 j = I j) → by8 (B114 12) → by8 (B114 13) → by8 (B114 16) → by8 (B114 17) → I113 30 = nI (pm) → I113 29 = nI (sm) → mH D E (mA E h q sz) s.heap h q I113 J B114 G H locs → lv_has ls 7 [(5, .int (nI i110)), (4, .int (nI i2)), (0, .ref h), (1, .int (nI 32)), (2, .int (nI cnt)), (3, .ref (q 56))] → W p l e (mR 5 122) s m AV below meth c H locs 0 0 QQ (F0 m 127 ls []) := by
                    intro n109
                    induction n109 with
                    | zero =>
                      intro i110 I113 B114 H locs ls hii110 hsi110 hB115 hI116 y117 y118 y119 y120 hk121 hk122  Y hl
                      refine lv_iload X.1 X.2.1 d_passwordKey_127 (lv_at hl 0 rfl) ?_
                      refine lv_iload_n X.1 X.2.1 d_passwordKey_129 rfl (lv_at hl 4 rfl) ?_
                      refine lv_icmp_ge (tgt := 208) X.1 X.2.1 d_passwordKey_130 (by decide) (fun c123 => ?_) (fun c123 => absurd ?_ c123)
                      rotate_left
                      · (rw [nI_leI (by omega) (by omega)] <;> omega)
                      rw [nI_leI (by omega) (by omega)] at c123
                      refine lv_iconst (v := (nI 0)) X.1 X.2.1 d_passwordKey_208 (by decide) ?_
                      refine lv_istore (lv' := [(5, .int (nI 0)), (4, .int (nI i2)), (0, .ref h), (1, .int (nI 32)), (2, .int (nI cnt)), (3, .ref (q 56))]) X.1 X.2.1 d_passwordKey_209 hl (by decide) rfl (fun ls hl => ?_)
                      have lp127 : ∀ (n124 i125 : Nat) (B128 : Nat → Nat → Int32) (H : Heap) (locs : List Loc) (ls : Array Slot), i125 + n124 = 20 → 0 ≤ i125 → (∀ j, j ≠ 5 → j ≠ 6 → j ≠ 7 → j ≠ 9 → j ≠ 10 → j ≠ 11 → j ≠ 12 → j ≠ 13 → j ≠ 15 → j ≠ 16 → j ≠ 17 → j ≠ 19 → j ≠ 20 → j ≠ 21 → j ≠ 26 → j ≠ 27 → j ≠ 56 → B128 j = B j) → by8 (B128 12) → by8 (B128 13) → by8 (B128 16) → by8 (B128 17) → mH D E (mA E h q sz) s.heap h q I113 J B128 G H locs → lv_has ls 7 [(5, .int (nI i125)), (4, .int (nI i2)), (0, .ref h), (1, .int (nI 32)), (2, .int (nI cnt)), (3, .ref (q 56))] → W p l e (mR 5 122) s m AV below meth c H locs 0 0 QQ (F0 m 211 ls []) := by
                        intro n124
                        induction n124 with
                        | zero =>
                          intro i125 B128 H locs ls hii125 hsi125 hB129 y130 y131 y132 y133  Y hl
                          refine lv_iload X.1 X.2.1 d_passwordKey_211 (lv_at hl 0 rfl) ?_
                          refine lv_bipush (v := (nI 20)) X.1 X.2.1 d_passwordKey_213 (by decide) ?_
                          refine lv_icmp_ge (tgt := 244) X.1 X.2.1 d_passwordKey_215 (by decide) (fun c134 => ?_) (fun c134 => absurd ?_ c134)
                          rotate_left
                          · (rw [nI_leI (by omega) (by omega)] <;> omega)
                          rw [nI_leI (by omega) (by omega)] at c134
                          refine lv_iinc (v := (nI (i2 + 1))) (lv' := [(4, .int (nI (i2 + 1))), (5, .int (nI i125)), (0, .ref h), (1, .int (nI 32)), (2, .int (nI cnt)), (3, .ref (q 56))]) X.1 X.2.1 d_passwordKey_244 hl (k := 1) rfl (nI_add _ 1) (by decide) rfl (fun ls hl => ?_)
                          refine lv_goto (tgt := 3) X.1 X.2.1 d_passwordKey_247 (by decide) ?_
                          exact ih3 (i2 + 1) I113 B128 _ _ _ (by omega) (by omega) (fun j h5 h6 h7 h9 h10 h11 h12 h13 h15 h16 h17 h19 h20 h21 h26 h27 h56 => (hB129 j h5 h6 h7 h9 h10 h11 h12 h13 h15 h16 h17 h19 h20 h21 h26 h27 h56)) (fun j h8 h14 h18 => (hI116 j h8 h14 h18)) (show by8 (B128 12) from y130) (show by8 (B128 13) from y131) (show by8 (B128 16) from y132) (show by8 (B128 17) from y133) ((show I113 30 = nI (pm) from hk121).trans (congrArg nI (show (pm : Nat) = pm by omega))) ((show I113 29 = nI (sm) from hk122).trans (congrArg nI (show (sm : Nat) = sm by omega)))  Y (lv_sub hl [0, 2, 3, 4, 5] rfl)
                        | succ n124 ih126 =>
                          intro i125 B128 H locs ls hii125 hsi125 hB129 y130 y131 y132 y133  Y hl
                          refine lv_iload X.1 X.2.1 d_passwordKey_211 (lv_at hl 0 rfl) ?_
                          refine lv_bipush (v := (nI 20)) X.1 X.2.1 d_passwordKey_213 (by decide) ?_
                          refine lv_icmp_ge (tgt := 244) X.1 X.2.1 d_passwordKey_215 (by decide) (fun c135 => absurd c135 ?_) (fun c135 => ?_)
                          · (rw [nI_leI (by omega) (by omega)] <;> omega)
                          rw [nI_leI (by omega) (by omega)] at c135
                          refine lv_aload_n X.1 X.2.1 d_passwordKey_218 rfl (lv_at hl 2 rfl) ?_
                          refine m_get X Y 27 (by decide) lk_long0 (gf_long0 _ _ _) rfl d_passwordKey_219 ?_
                          refine lv_bipush (v := (nI 20)) X.1 X.2.1 d_passwordKey_222 (by decide) ?_
                          refine lv_iload X.1 X.2.1 d_passwordKey_224 (lv_at hl 1 rfl) ?_
                          refine lv_imul X.1 X.2.1 d_passwordKey_226 ?_
                          refine t_eq (y := nI ((20) * (i2))) (pk_mul _ _) ?_
                          refine lv_iload X.1 X.2.1 d_passwordKey_227 (lv_at hl 0 rfl) ?_
                          refine lv_iadd X.1 X.2.1 d_passwordKey_229 ?_
                          refine t_eq (y := nI ((20) * (i2) + i125)) (nI_add _ _) ?_
                          refine lv_aload_n X.1 X.2.1 d_passwordKey_230 rfl (lv_at hl 2 rfl) ?_
                          refine m_get X Y 26 (by decide) lk_mixed (gf_mixed _ _ _) rfl d_passwordKey_231 ?_
                          refine lv_iload X.1 X.2.1 d_passwordKey_234 (lv_at hl 0 rfl) ?_
                          refine m_bald X Y (aw_mixed _ _ _ _ _ _ _) (vp_in_nI (by omega) (by decide)) d_passwordKey_236 ?_
                          refine t_any (fun v136 => ?_)
                          refine m_bast X Y (aw_long0 _ _ _ _ _ _ _) (vp_in_nI (by omega) (by decide)) (sw_long0 _ _ _ _ _ _ _ _) d_passwordKey_237 (fun H locs Y => ?_)
                          generalize (upd (B128 27) ((nI ((20) * (i2) + i125))).toNatClampNeg (vp_nar .byte v136)) = f137 at Y
                          refine lv_iinc (v := (nI (i125 + 1))) (lv' := [(5, .int (nI (i125 + 1))), (4, .int (nI i2)), (0, .ref h), (1, .int (nI 32)), (2, .int (nI cnt)), (3, .ref (q 56))]) X.1 X.2.1 d_passwordKey_238 hl (k := 0) rfl (nI_add _ 1) (by decide) rfl (fun ls hl => ?_)
                          refine lv_goto (tgt := 211) X.1 X.2.1 d_passwordKey_241 (by decide) ?_
                          exact ih126 (i125 + 1) (upB B128 27 f137) _ _ _ (by omega) (by omega) (fun j h5 h6 h7 h9 h10 h11 h12 h13 h15 h16 h17 h19 h20 h21 h26 h27 h56 => ((if_neg h27).trans (hB129 j h5 h6 h7 h9 h10 h11 h12 h13 h15 h16 h17 h19 h20 h21 h26 h27 h56))) (show by8 ((upB B128 27 f137) 12) from y130) (show by8 ((upB B128 27 f137) 13) from y131) (show by8 ((upB B128 27 f137) 16) from y132) (show by8 ((upB B128 27 f137) 17) from y133)  Y (lv_sub hl [0, 1, 2, 3, 4, 5] rfl)
                      exact lp127 (20) 0 B114 _ _ _ (by omega) (by omega) (fun j h5 h6 h7 h9 h10 h11 h12 h13 h15 h16 h17 h19 h20 h21 h26 h27 h56 => (hB115 j h5 h6 h7 h9 h10 h11 h12 h13 h15 h16 h17 h19 h20 h21 h26 h27 h56)) (show by8 (B114 12) from y117) (show by8 (B114 13) from y118) (show by8 (B114 16) from y119) (show by8 (B114 17) from y120)  Y (lv_sub hl [0, 1, 2, 3, 4, 5] rfl)
                    | succ n109 ih111 =>
                      intro i110 I113 B114 H locs ls hii110 hsi110 hB115 hI116 y117 y118 y119 y120 hk121 hk122  Y hl
                      refine lv_iload X.1 X.2.1 d_passwordKey_127 (lv_at hl 0 rfl) ?_
                      refine lv_iload_n X.1 X.2.1 d_passwordKey_129 rfl (lv_at hl 4 rfl) ?_
                      refine lv_icmp_ge (tgt := 208) X.1 X.2.1 d_passwordKey_130 (by decide) (fun c138 => absurd c138 ?_) (fun c138 => ?_)
                      · (rw [nI_leI (by omega) (by omega)] <;> omega)
                      rw [nI_leI (by omega) (by omega)] at c138
                      refine lv_aload_n X.1 X.2.1 d_passwordKey_133 rfl (lv_at hl 2 rfl) ?_
                      refine m_callv (As := []) (rest := []) (n := 0) X Y hZ hA hml hl.1 (c_macBegin l D E h q H.size I113 J B114 G ) kl_macBegin ks_macBegin kx_macBegin ki_macBegin ini_M hd_macBegin ⟨by decide, by decide⟩ rfl (Nat.le_of_ble_eq_true rfl) d_passwordKey_134 ⟨Nat.le_refl _, Nat.le_refl _⟩ (fun u H locs hp Y => ?_)
                      obtain ⟨I139, J140, B141, G142⟩ := u
                      obtain ⟨hI143, eJ145, hB144, eG146, hk148⟩ := hp
                      dsimp only at hI143 eJ145 hB144 eG146 hk148 Y
                      rw [eJ145, eG146] at Y
                      have hI149 : (∀ j, j ≠ 8 → j ≠ 14 → j ≠ 18 → I139 j = I j) := fun j h8 h14 h18 => (hI143 j h8).trans ((fun j h8 h14 h18 => (hI116 j h8 h14 h18)) j h8 h14 h18)
                      have hB150 : (∀ j, j ≠ 5 → j ≠ 6 → j ≠ 7 → j ≠ 9 → j ≠ 10 → j ≠ 11 → j ≠ 12 → j ≠ 13 → j ≠ 15 → j ≠ 16 → j ≠ 17 → j ≠ 19 → j ≠ 20 → j ≠ 21 → j ≠ 26 → j ≠ 27 → j ≠ 56 → B141 j = B j) := fun j h5 h6 h7 h9 h10 h11 h12 h13 h15 h16 h17 h19 h20 h21 h26 h27 h56 => (hB144 j h5 h6 h7).trans ((fun j h5 h6 h7 h9 h10 h11 h12 h13 h15 h16 h17 h19 h20 h21 h26 h27 h56 => (hB115 j h5 h6 h7 h9 h10 h11 h12 h13 h15 h16 h17 h19 h20 h21 h26 h27 h56)) j h5 h6 h7 h9 h10 h11 h12 h13 h15 h16 h17 h19 h20 h21 h26 h27 h56)
                      refine lv_iconst (v := (nI 0)) X.1 X.2.1 d_passwordKey_137 (by decide) ?_
                      refine lv_istore (lv' := [(6, .int (nI 0)), (5, .int (nI i110)), (4, .int (nI i2)), (0, .ref h), (1, .int (nI 32)), (2, .int (nI cnt)), (3, .ref (q 56))]) X.1 X.2.1 d_passwordKey_138 hl (by decide) rfl (fun ls hl => ?_)
                      have lp154 : ∀ (n151 i152 : Nat) (I155 : Nat → Int32) (B156 : Nat → Nat → Int32) (H : Heap) (locs : List Loc) (ls : Array Slot), i152 + n151 = 20 → 0 ≤ i152 → (∀ j, j ≠ 5 → j ≠ 6 → j ≠ 7 → j ≠ 9 → j ≠ 10 → j ≠ 11 → j ≠ 12 → j ≠ 13 → j ≠ 15 → j ≠ 16 → j ≠ 17 → j ≠ 19 → j ≠ 20 → j ≠ 21 → j ≠ 26 → j ≠ 27 → j ≠ 56 → B156 j = B j) → (∀ j, j ≠ 8 → j ≠ 14 → j ≠ 18 → I155 j = I j) → by8 (B156 12) → by8 (B156 13) → by8 (B156 16) → by8 (B156 17) → I155 30 = nI (pm) → I155 29 = nI (sm) → I155 8 = nI (64 + i152) → mH D E (mA E h q sz) s.heap h q I155 J B156 G H locs → lv_has ls 7 [(6, .int (nI i152)), (5, .int (nI i110)), (4, .int (nI i2)), (0, .ref h), (1, .int (nI 32)), (2, .int (nI cnt)), (3, .ref (q 56))] → W p l e (mR 5 122) s m AV below meth c H locs 0 0 QQ (F0 m 140 ls []) := by
                        intro n151
                        induction n151 with
                        | zero =>
                          intro i152 I155 B156 H locs ls hii152 hsi152 hB157 hI158 y159 y160 y161 y162 hk163 hk164 hk165  Y hl
                          refine lv_iload X.1 X.2.1 d_passwordKey_140 (lv_at hl 0 rfl) ?_
                          refine lv_bipush (v := (nI 20)) X.1 X.2.1 d_passwordKey_142 (by decide) ?_
                          refine lv_icmp_ge (tgt := 164) X.1 X.2.1 d_passwordKey_144 (by decide) (fun c166 => ?_) (fun c166 => absurd ?_ c166)
                          rotate_left
                          · (rw [nI_leI (by omega) (by omega)] <;> omega)
                          rw [nI_leI (by omega) (by omega)] at c166
                          refine lv_aload_n X.1 X.2.1 d_passwordKey_164 rfl (lv_at hl 3 rfl) ?_
                          refine m_callv (As := []) (rest := []) (n := 0) X Y hZ hA hml hl.1 (c_macEnd l D E h q H.size I155 J B156 G (64 + i152) hk165 (by omega)) kl_macEnd ks_macEnd kx_macEnd ki_macEnd ini_M hd_macEnd ⟨by decide, by decide⟩ rfl (Nat.le_of_ble_eq_true rfl) d_passwordKey_165 ⟨Nat.le_refl _, Nat.le_refl _⟩ (fun u H locs hp Y => ?_)
                          obtain ⟨I167, J168, B169, G170⟩ := u
                          obtain ⟨hI171, eJ173, hB172, eG174⟩ := hp
                          dsimp only at hI171 eJ173 hB172 eG174 Y
                          rw [eJ173, eG174] at Y
                          have hI176 : (∀ j, j ≠ 8 → j ≠ 14 → j ≠ 18 → I167 j = I j) := fun j h8 h14 h18 => (hI171 j h8).trans ((fun j h8 h14 h18 => (hI158 j h8 h14 h18)) j h8 h14 h18)
                          have hB177 : (∀ j, j ≠ 5 → j ≠ 6 → j ≠ 7 → j ≠ 9 → j ≠ 10 → j ≠ 11 → j ≠ 12 → j ≠ 13 → j ≠ 15 → j ≠ 16 → j ≠ 17 → j ≠ 19 → j ≠ 20 → j ≠ 21 → j ≠ 26 → j ≠ 27 → j ≠ 56 → B169 j = B j) := fun j h5 h6 h7 h9 h10 h11 h12 h13 h15 h16 h17 h19 h20 h21 h26 h27 h56 => (hB172 j h5 h6 h7 h9 h10).trans ((fun j h5 h6 h7 h9 h10 h11 h12 h13 h15 h16 h17 h19 h20 h21 h26 h27 h56 => (hB157 j h5 h6 h7 h9 h10 h11 h12 h13 h15 h16 h17 h19 h20 h21 h26 h27 h56)) j h5 h6 h7 h9 h10 h11 h12 h13 h15 h16 h17 h19 h20 h21 h26 h27 h56)
                          refine lv_iconst (v := (nI 0)) X.1 X.2.1 d_passwordKey_168 (by decide) ?_
                          refine lv_istore (lv' := [(6, .int (nI 0)), (5, .int (nI i110)), (4, .int (nI i2)), (0, .ref h), (1, .int (nI 32)), (2, .int (nI cnt)), (3, .ref (q 56))]) X.1 X.2.1 d_passwordKey_169 hl (by decide) rfl (fun ls hl => ?_)
                          have lp181 : ∀ (n178 i179 : Nat) (B182 : Nat → Nat → Int32) (H : Heap) (locs : List Loc) (ls : Array Slot), i179 + n178 = 20 → 0 ≤ i179 → (∀ j, j ≠ 5 → j ≠ 6 → j ≠ 7 → j ≠ 9 → j ≠ 10 → j ≠ 11 → j ≠ 12 → j ≠ 13 → j ≠ 15 → j ≠ 16 → j ≠ 17 → j ≠ 19 → j ≠ 20 → j ≠ 21 → j ≠ 26 → j ≠ 27 → j ≠ 56 → B182 j = B j) → by8 (B182 12) → by8 (B182 13) → by8 (B182 16) → by8 (B182 17) → mH D E (mA E h q sz) s.heap h q I167 J B182 G H locs → lv_has ls 7 [(6, .int (nI i179)), (5, .int (nI i110)), (4, .int (nI i2)), (0, .ref h), (1, .int (nI 32)), (2, .int (nI cnt)), (3, .ref (q 56))] → W p l e (mR 5 122) s m AV below meth c H locs 0 0 QQ (F0 m 171 ls []) := by
                            intro n178
                            induction n178 with
                            | zero =>
                              intro i179 B182 H locs ls hii179 hsi179 hB183 y184 y185 y186 y187  Y hl
                              refine lv_iload X.1 X.2.1 d_passwordKey_171 (lv_at hl 0 rfl) ?_
                              refine lv_bipush (v := (nI 20)) X.1 X.2.1 d_passwordKey_173 (by decide) ?_
                              refine lv_icmp_ge (tgt := 202) X.1 X.2.1 d_passwordKey_175 (by decide) (fun c188 => ?_) (fun c188 => absurd ?_ c188)
                              rotate_left
                              · (rw [nI_leI (by omega) (by omega)] <;> omega)
                              rw [nI_leI (by omega) (by omega)] at c188
                              refine lv_iinc (v := (nI (i110 + 1))) (lv' := [(5, .int (nI (i110 + 1))), (6, .int (nI i179)), (4, .int (nI i2)), (0, .ref h), (1, .int (nI 32)), (2, .int (nI cnt)), (3, .ref (q 56))]) X.1 X.2.1 d_passwordKey_202 hl (k := 1) rfl (nI_add _ 1) (by decide) rfl (fun ls hl => ?_)
                              refine lv_goto (tgt := 127) X.1 X.2.1 d_passwordKey_205 (by decide) ?_
                              exact ih111 (i110 + 1) I167 B182 _ _ _ (by omega) (by omega) (fun j h5 h6 h7 h9 h10 h11 h12 h13 h15 h16 h17 h19 h20 h21 h26 h27 h56 => (hB183 j h5 h6 h7 h9 h10 h11 h12 h13 h15 h16 h17 h19 h20 h21 h26 h27 h56)) (fun j h8 h14 h18 => (hI176 j h8 h14 h18)) (show by8 (B182 12) from y184) (show by8 (B182 13) from y185) (show by8 (B182 16) from y186) (show by8 (B182 17) from y187) ((show I167 30 = nI (pm) from ((hI171 30 (by decide)).trans hk163)).trans (congrArg nI (show (pm : Nat) = pm by omega))) ((show I167 29 = nI (sm) from ((hI171 29 (by decide)).trans hk164)).trans (congrArg nI (show (sm : Nat) = sm by omega)))  Y (lv_sub hl [0, 2, 3, 4, 5, 6] rfl)
                            | succ n178 ih180 =>
                              intro i179 B182 H locs ls hii179 hsi179 hB183 y184 y185 y186 y187  Y hl
                              refine lv_iload X.1 X.2.1 d_passwordKey_171 (lv_at hl 0 rfl) ?_
                              refine lv_bipush (v := (nI 20)) X.1 X.2.1 d_passwordKey_173 (by decide) ?_
                              refine lv_icmp_ge (tgt := 202) X.1 X.2.1 d_passwordKey_175 (by decide) (fun c189 => absurd c189 ?_) (fun c189 => ?_)
                              · (rw [nI_leI (by omega) (by omega)] <;> omega)
                              rw [nI_leI (by omega) (by omega)] at c189
                              refine lv_aload_n X.1 X.2.1 d_passwordKey_178 rfl (lv_at hl 3 rfl) ?_
                              refine m_get X Y 26 (by decide) lk_mixed (gf_mixed _ _ _) rfl d_passwordKey_179 ?_
                              refine lv_iload X.1 X.2.1 d_passwordKey_182 (lv_at hl 0 rfl) ?_
                              refine lv_dup2_11 X.1 X.2.1 d_passwordKey_184 rfl rfl ?_
                              refine m_bald X Y (aw_mixed _ _ _ _ _ _ _) (vp_in_nI (by omega) (by decide)) d_passwordKey_185 ?_
                              refine t_any (fun v190 => ?_)
                              refine lv_aload_n X.1 X.2.1 d_passwordKey_186 rfl (lv_at hl 3 rfl) ?_
                              refine m_get X Y 10 (by decide) lk_mac (gf_mac _ _ _) rfl d_passwordKey_187 ?_
                              refine lv_iload X.1 X.2.1 d_passwordKey_190 (lv_at hl 0 rfl) ?_
                              refine m_bald X Y (aw_mac _ _ _ _ _ _ _) (vp_in_nI (by omega) (by decide)) d_passwordKey_192 ?_
                              refine t_any (fun v191 => ?_)
                              refine lv_ixor X.1 X.2.1 d_passwordKey_193 ?_
                              refine t_any (fun v192 => ?_)
                              obtain ⟨v193, ev193⟩ : ∃ z : Int32, (v192 : Int32).toInt8.toInt32 = z := ⟨_, rfl⟩
                              refine lv_i2b (v := v193) X.1 X.2.1 d_passwordKey_194 ev193 ?_
                              refine m_bast X Y (aw_mixed _ _ _ _ _ _ _) (vp_in_nI (by omega) (by decide)) (sw_mixed _ _ _ _ _ _ _ _) d_passwordKey_195 (fun H locs Y => ?_)
                              generalize (upd (B182 26) ((nI i179)).toNatClampNeg (vp_nar .byte v193)) = f194 at Y
                              refine lv_iinc (v := (nI (i179 + 1))) (lv' := [(6, .int (nI (i179 + 1))), (5, .int (nI i110)), (4, .int (nI i2)), (0, .ref h), (1, .int (nI 32)), (2, .int (nI cnt)), (3, .ref (q 56))]) X.1 X.2.1 d_passwordKey_196 hl (k := 0) rfl (nI_add _ 1) (by decide) rfl (fun ls hl => ?_)
                              refine lv_goto (tgt := 171) X.1 X.2.1 d_passwordKey_199 (by decide) ?_
                              exact ih180 (i179 + 1) (upB B182 26 f194) _ _ _ (by omega) (by omega) (fun j h5 h6 h7 h9 h10 h11 h12 h13 h15 h16 h17 h19 h20 h21 h26 h27 h56 => ((if_neg h26).trans (hB183 j h5 h6 h7 h9 h10 h11 h12 h13 h15 h16 h17 h19 h20 h21 h26 h27 h56))) (show by8 ((upB B182 26 f194) 12) from y184) (show by8 ((upB B182 26 f194) 13) from y185) (show by8 ((upB B182 26 f194) 16) from y186) (show by8 ((upB B182 26 f194) 17) from y187)  Y (lv_sub hl [0, 1, 2, 3, 4, 5, 6] rfl)
                          exact lp181 (20) 0 B169 _ _ _ (by omega) (by omega) (fun j h5 h6 h7 h9 h10 h11 h12 h13 h15 h16 h17 h19 h20 h21 h26 h27 h56 => (hB177 j h5 h6 h7 h9 h10 h11 h12 h13 h15 h16 h17 h19 h20 h21 h26 h27 h56)) (show by8 (B169 12) from (by8_eq (hB172 12 (by decide) (by decide) (by decide) (by decide) (by decide)) y159)) (show by8 (B169 13) from (by8_eq (hB172 13 (by decide) (by decide) (by decide) (by decide) (by decide)) y160)) (show by8 (B169 16) from (by8_eq (hB172 16 (by decide) (by decide) (by decide) (by decide) (by decide)) y161)) (show by8 (B169 17) from (by8_eq (hB172 17 (by decide) (by decide) (by decide) (by decide) (by decide)) y162))  Y (lv_sub hl [0, 1, 2, 3, 4, 5, 6] rfl)
                        | succ n151 ih153 =>
                          intro i152 I155 B156 H locs ls hii152 hsi152 hB157 hI158 y159 y160 y161 y162 hk163 hk164 hk165  Y hl
                          refine lv_iload X.1 X.2.1 d_passwordKey_140 (lv_at hl 0 rfl) ?_
                          refine lv_bipush (v := (nI 20)) X.1 X.2.1 d_passwordKey_142 (by decide) ?_
                          refine lv_icmp_ge (tgt := 164) X.1 X.2.1 d_passwordKey_144 (by decide) (fun c195 => absurd c195 ?_) (fun c195 => ?_)
                          · (rw [nI_leI (by omega) (by omega)] <;> omega)
                          rw [nI_leI (by omega) (by omega)] at c195
                          refine lv_aload_n X.1 X.2.1 d_passwordKey_147 rfl (lv_at hl 3 rfl) ?_
                          refine lv_aload_n X.1 X.2.1 d_passwordKey_148 rfl (lv_at hl 3 rfl) ?_
                          refine m_get X Y 10 (by decide) lk_mac (gf_mac _ _ _) rfl d_passwordKey_149 ?_
                          refine lv_iload X.1 X.2.1 d_passwordKey_152 (lv_at hl 0 rfl) ?_
                          refine m_bald X Y (aw_mac _ _ _ _ _ _ _) (vp_in_nI (by omega) (by decide)) d_passwordKey_154 ?_
                          refine t_any (fun v196 => ?_)
                          refine m_callv (As := [.int v196]) (rest := []) (n := 1) X Y hZ hA hml hl.1 (c_hash l D E h q H.size I155 J B156 G v196 (64 + i152) hk165 (by omega)) kl_hash ks_hash kx_hash ki_hash ini_M hd_hash ⟨by decide, by decide⟩ rfl (Nat.le_of_ble_eq_true rfl) d_passwordKey_155 ⟨Nat.le_refl _, Nat.le_refl _⟩ (fun u H locs hp Y => ?_)
                          obtain ⟨I197, J198, B199, G200⟩ := u
                          obtain ⟨hI201, eJ203, hB202, eG204, hk206⟩ := hp
                          dsimp only at hI201 eJ203 hB202 eG204 hk206 Y
                          rw [eJ203, eG204] at Y
                          have hI207 : (∀ j, j ≠ 8 → j ≠ 14 → j ≠ 18 → I197 j = I j) := fun j h8 h14 h18 => (hI201 j h8).trans ((fun j h8 h14 h18 => (hI158 j h8 h14 h18)) j h8 h14 h18)
                          have hB208 : (∀ j, j ≠ 5 → j ≠ 6 → j ≠ 7 → j ≠ 9 → j ≠ 10 → j ≠ 11 → j ≠ 12 → j ≠ 13 → j ≠ 15 → j ≠ 16 → j ≠ 17 → j ≠ 19 → j ≠ 20 → j ≠ 21 → j ≠ 26 → j ≠ 27 → j ≠ 56 → B199 j = B j) := fun j h5 h6 h7 h9 h10 h11 h12 h13 h15 h16 h17 h19 h20 h21 h26 h27 h56 => (hB202 j h5 h6 h7).trans ((fun j h5 h6 h7 h9 h10 h11 h12 h13 h15 h16 h17 h19 h20 h21 h26 h27 h56 => (hB157 j h5 h6 h7 h9 h10 h11 h12 h13 h15 h16 h17 h19 h20 h21 h26 h27 h56)) j h5 h6 h7 h9 h10 h11 h12 h13 h15 h16 h17 h19 h20 h21 h26 h27 h56)
                          refine lv_iinc (v := (nI (i152 + 1))) (lv' := [(6, .int (nI (i152 + 1))), (5, .int (nI i110)), (4, .int (nI i2)), (0, .ref h), (1, .int (nI 32)), (2, .int (nI cnt)), (3, .ref (q 56))]) X.1 X.2.1 d_passwordKey_158 hl (k := 0) rfl (nI_add _ 1) (by decide) rfl (fun ls hl => ?_)
                          refine lv_goto (tgt := 140) X.1 X.2.1 d_passwordKey_161 (by decide) ?_
                          exact ih153 (i152 + 1) I197 B199 _ _ _ (by omega) (by omega) (fun j h5 h6 h7 h9 h10 h11 h12 h13 h15 h16 h17 h19 h20 h21 h26 h27 h56 => (hB208 j h5 h6 h7 h9 h10 h11 h12 h13 h15 h16 h17 h19 h20 h21 h26 h27 h56)) (fun j h8 h14 h18 => (hI207 j h8 h14 h18)) (show by8 (B199 12) from (by8_eq (hB202 12 (by decide) (by decide) (by decide)) y159)) (show by8 (B199 13) from (by8_eq (hB202 13 (by decide) (by decide) (by decide)) y160)) (show by8 (B199 16) from (by8_eq (hB202 16 (by decide) (by decide) (by decide)) y161)) (show by8 (B199 17) from (by8_eq (hB202 17 (by decide) (by decide) (by decide)) y162)) ((show I197 30 = nI (pm) from ((hI201 30 (by decide)).trans hk163)).trans (congrArg nI (show (pm : Nat) = pm by omega))) ((show I197 29 = nI (sm) from ((hI201 29 (by decide)).trans hk164)).trans (congrArg nI (show (sm : Nat) = sm by omega))) ((show I197 8 = nI ((64 + i152) + 1) from hk206).trans (congrArg nI (show ((64 + i152) + 1 : Nat) = 64 + (i152 + 1) by omega)))  Y (lv_sub hl [0, 1, 2, 3, 4, 5, 6] rfl)
                      exact lp154 (20) 0 I139 B141 _ _ _ (by omega) (by omega) (fun j h5 h6 h7 h9 h10 h11 h12 h13 h15 h16 h17 h19 h20 h21 h26 h27 h56 => (hB150 j h5 h6 h7 h9 h10 h11 h12 h13 h15 h16 h17 h19 h20 h21 h26 h27 h56)) (fun j h8 h14 h18 => (hI149 j h8 h14 h18)) (show by8 (B141 12) from (by8_eq (hB144 12 (by decide) (by decide) (by decide)) y117)) (show by8 (B141 13) from (by8_eq (hB144 13 (by decide) (by decide) (by decide)) y118)) (show by8 (B141 16) from (by8_eq (hB144 16 (by decide) (by decide) (by decide)) y119)) (show by8 (B141 17) from (by8_eq (hB144 17 (by decide) (by decide) (by decide)) y120)) ((show I139 30 = nI (pm) from ((hI143 30 (by decide)).trans hk121)).trans (congrArg nI (show (pm : Nat) = pm by omega))) ((show I139 29 = nI (sm) from ((hI143 29 (by decide)).trans hk122)).trans (congrArg nI (show (sm : Nat) = sm by omega))) ((show I139 8 = nI (64) from hk148).trans (congrArg nI (show (64 : Nat) = 64 + 0 by omega)))  Y (lv_sub hl [0, 1, 2, 3, 4, 5, 6] rfl)
                  exact lp112 (cnt - 1) 1 I87 B102 _ _ _ (by omega) (by omega) (fun j h5 h6 h7 h9 h10 h11 h12 h13 h15 h16 h17 h19 h20 h21 h26 h27 h56 => (hB103 j h5 h6 h7 h9 h10 h11 h12 h13 h15 h16 h17 h19 h20 h21 h26 h27 h56)) (fun j h8 h14 h18 => (hI96 j h8 h14 h18)) (show by8 (B102 12) from y104) (show by8 (B102 13) from y105) (show by8 (B102 16) from y106) (show by8 (B102 17) from y107) ((show I87 30 = nI (pm) from ((hI91 30 (by decide)).trans hk83)).trans (congrArg nI (show (pm : Nat) = pm by omega))) ((show I87 29 = nI (sm) from ((hI91 29 (by decide)).trans hk84)).trans (congrArg nI (show (sm : Nat) = sm by omega)))  Y (lv_sub hl [0, 1, 2, 3, 4, 5] rfl)
                | succ n98 ih100 =>
                  intro i99 B102 H locs ls hii99 hsi99 hB103 y104 y105 y106 y107  Y hl
                  refine lv_iload X.1 X.2.1 d_passwordKey_97 (lv_at hl 0 rfl) ?_
                  refine lv_bipush (v := (nI 20)) X.1 X.2.1 d_passwordKey_99 (by decide) ?_
                  refine lv_icmp_ge (tgt := 124) X.1 X.2.1 d_passwordKey_101 (by decide) (fun c209 => absurd c209 ?_) (fun c209 => ?_)
                  · (rw [nI_leI (by omega) (by omega)] <;> omega)
                  rw [nI_leI (by omega) (by omega)] at c209
                  refine lv_aload_n X.1 X.2.1 d_passwordKey_104 rfl (lv_at hl 2 rfl) ?_
                  refine m_get X Y 26 (by decide) lk_mixed (gf_mixed _ _ _) rfl d_passwordKey_105 ?_
                  refine lv_iload X.1 X.2.1 d_passwordKey_108 (lv_at hl 0 rfl) ?_
                  refine lv_aload_n X.1 X.2.1 d_passwordKey_110 rfl (lv_at hl 2 rfl) ?_
                  refine m_get X Y 10 (by decide) lk_mac (gf_mac _ _ _) rfl d_passwordKey_111 ?_
                  refine lv_iload X.1 X.2.1 d_passwordKey_114 (lv_at hl 0 rfl) ?_
                  refine m_bald X Y (aw_mac _ _ _ _ _ _ _) (vp_in_nI (by omega) (by decide)) d_passwordKey_116 ?_
                  refine t_any (fun v210 => ?_)
                  refine m_bast X Y (aw_mixed _ _ _ _ _ _ _) (vp_in_nI (by omega) (by decide)) (sw_mixed _ _ _ _ _ _ _ _) d_passwordKey_117 (fun H locs Y => ?_)
                  generalize (upd (B102 26) ((nI i99)).toNatClampNeg (vp_nar .byte v210)) = f211 at Y
                  refine lv_iinc (v := (nI (i99 + 1))) (lv' := [(5, .int (nI (i99 + 1))), (4, .int (nI i2)), (0, .ref h), (1, .int (nI 32)), (2, .int (nI cnt)), (3, .ref (q 56))]) X.1 X.2.1 d_passwordKey_118 hl (k := 0) rfl (nI_add _ 1) (by decide) rfl (fun ls hl => ?_)
                  refine lv_goto (tgt := 97) X.1 X.2.1 d_passwordKey_121 (by decide) ?_
                  exact ih100 (i99 + 1) (upB B102 26 f211) _ _ _ (by omega) (by omega) (fun j h5 h6 h7 h9 h10 h11 h12 h13 h15 h16 h17 h19 h20 h21 h26 h27 h56 => ((if_neg h26).trans (hB103 j h5 h6 h7 h9 h10 h11 h12 h13 h15 h16 h17 h19 h20 h21 h26 h27 h56))) (show by8 ((upB B102 26 f211) 12) from y104) (show by8 ((upB B102 26 f211) 13) from y105) (show by8 ((upB B102 26 f211) 16) from y106) (show by8 ((upB B102 26 f211) 17) from y107)  Y (lv_sub hl [0, 1, 2, 3, 4, 5] rfl)
              exact lp101 (20) 0 B89 _ _ _ (by omega) (by omega) (fun j h5 h6 h7 h9 h10 h11 h12 h13 h15 h16 h17 h19 h20 h21 h26 h27 h56 => (hB97 j h5 h6 h7 h9 h10 h11 h12 h13 h15 h16 h17 h19 h20 h21 h26 h27 h56)) (show by8 (B89 12) from (by8_eq (hB92 12 (by decide) (by decide) (by decide) (by decide) (by decide)) y79)) (show by8 (B89 13) from (by8_eq (hB92 13 (by decide) (by decide) (by decide) (by decide) (by decide)) y80)) (show by8 (B89 16) from (by8_eq (hB92 16 (by decide) (by decide) (by decide) (by decide) (by decide)) y81)) (show by8 (B89 17) from (by8_eq (hB92 17 (by decide) (by decide) (by decide) (by decide) (by decide)) y82))  Y (lv_sub hl [0, 1, 2, 3, 4, 5] rfl)
            | succ n71 ih73 =>
              intro i72 I75 B76 H locs ls hii72 hsi72 hB77 hI78 y79 y80 y81 y82 hk83 hk84 hk85  Y hl
              refine lv_iload X.1 X.2.1 d_passwordKey_60 (lv_at hl 0 rfl) ?_
              refine lv_iconst (v := (nI 4)) X.1 X.2.1 d_passwordKey_62 (by decide) ?_
              refine lv_icmp_ge (tgt := 90) X.1 X.2.1 d_passwordKey_63 (by decide) (fun c212 => absurd c212 ?_) (fun c212 => ?_)
              · (rw [nI_leI (by omega) (by omega)] <;> omega)
              rw [nI_leI (by omega) (by omega)] at c212
              refine lv_aload_n X.1 X.2.1 d_passwordKey_66 rfl (lv_at hl 2 rfl) ?_
              have jn214 : ∀ w213 : Int32, W p l e (mR 5 122) s m AV below meth c H locs 0 0 QQ (F0 m 81 ls [.int w213, .ref h]) := by
                intro w213
                refine m_callv (As := [.int w213]) (rest := []) (n := 1) X Y hZ hA hml hl.1 (c_hash l D E h q H.size I75 J B76 G w213 (64 + sm + i72) hk85 (by omega)) kl_hash ks_hash kx_hash ki_hash ini_M hd_hash ⟨by decide, by decide⟩ rfl (Nat.le_of_ble_eq_true rfl) d_passwordKey_81 ⟨Nat.le_refl _, Nat.le_refl _⟩ (fun u H locs hp Y => ?_)
                obtain ⟨I215, J216, B217, G218⟩ := u
                obtain ⟨hI219, eJ221, hB220, eG222, hk224⟩ := hp
                dsimp only at hI219 eJ221 hB220 eG222 hk224 Y
                rw [eJ221, eG222] at Y
                have hI225 : (∀ j, j ≠ 8 → j ≠ 14 → j ≠ 18 → I215 j = I j) := fun j h8 h14 h18 => (hI219 j h8).trans ((fun j h8 h14 h18 => (hI78 j h8 h14 h18)) j h8 h14 h18)
                have hB226 : (∀ j, j ≠ 5 → j ≠ 6 → j ≠ 7 → j ≠ 9 → j ≠ 10 → j ≠ 11 → j ≠ 12 → j ≠ 13 → j ≠ 15 → j ≠ 16 → j ≠ 17 → j ≠ 19 → j ≠ 20 → j ≠ 21 → j ≠ 26 → j ≠ 27 → j ≠ 56 → B217 j = B j) := fun j h5 h6 h7 h9 h10 h11 h12 h13 h15 h16 h17 h19 h20 h21 h26 h27 h56 => (hB220 j h5 h6 h7).trans ((fun j h5 h6 h7 h9 h10 h11 h12 h13 h15 h16 h17 h19 h20 h21 h26 h27 h56 => (hB77 j h5 h6 h7 h9 h10 h11 h12 h13 h15 h16 h17 h19 h20 h21 h26 h27 h56)) j h5 h6 h7 h9 h10 h11 h12 h13 h15 h16 h17 h19 h20 h21 h26 h27 h56)
                refine lv_iinc (v := (nI (i72 + 1))) (lv' := [(5, .int (nI (i72 + 1))), (4, .int (nI i2)), (0, .ref h), (1, .int (nI 32)), (2, .int (nI cnt)), (3, .ref (q 56))]) X.1 X.2.1 d_passwordKey_84 hl (k := 0) rfl (nI_add _ 1) (by decide) rfl (fun ls hl => ?_)
                refine lv_goto (tgt := 60) X.1 X.2.1 d_passwordKey_87 (by decide) ?_
                exact ih73 (i72 + 1) I215 B217 _ _ _ (by omega) (by omega) (fun j h5 h6 h7 h9 h10 h11 h12 h13 h15 h16 h17 h19 h20 h21 h26 h27 h56 => (hB226 j h5 h6 h7 h9 h10 h11 h12 h13 h15 h16 h17 h19 h20 h21 h26 h27 h56)) (fun j h8 h14 h18 => (hI225 j h8 h14 h18)) (show by8 (B217 12) from (by8_eq (hB220 12 (by decide) (by decide) (by decide)) y79)) (show by8 (B217 13) from (by8_eq (hB220 13 (by decide) (by decide) (by decide)) y80)) (show by8 (B217 16) from (by8_eq (hB220 16 (by decide) (by decide) (by decide)) y81)) (show by8 (B217 17) from (by8_eq (hB220 17 (by decide) (by decide) (by decide)) y82)) ((show I215 30 = nI (pm) from ((hI219 30 (by decide)).trans hk83)).trans (congrArg nI (show (pm : Nat) = pm by omega))) ((show I215 29 = nI (sm) from ((hI219 29 (by decide)).trans hk84)).trans (congrArg nI (show (sm : Nat) = sm by omega))) ((show I215 8 = nI ((64 + sm + i72) + 1) from hk224).trans (congrArg nI (show ((64 + sm + i72) + 1 : Nat) = 64 + sm + (i72 + 1) by omega)))  Y (lv_sub hl [0, 1, 2, 3, 4, 5] rfl)
              refine lv_iload X.1 X.2.1 d_passwordKey_67 (lv_at hl 0 rfl) ?_
              refine lv_iconst (v := (nI 3)) X.1 X.2.1 d_passwordKey_69 (by decide) ?_
              refine lv_icmp_ne (tgt := 80) X.1 X.2.1 d_passwordKey_70 (by decide) (fun c227 => ?_) (fun c227 => ?_)
              · skip
                rw [nI_eq (by omega) (by omega)] at c227
                refine lv_iconst (v := (nI 0)) X.1 X.2.1 d_passwordKey_80 (by decide) ?_
                exact jn214 _
              · skip
                rw [nI_eq (by omega) (by omega)] at c227
                refine lv_iload X.1 X.2.1 d_passwordKey_73 (lv_at hl 1 rfl) ?_
                refine lv_iconst (v := (nI 1)) X.1 X.2.1 d_passwordKey_75 (by decide) ?_
                refine lv_iadd X.1 X.2.1 d_passwordKey_76 ?_
                refine t_eq (y := nI (i2 + 1)) (nI_add _ _) ?_
                refine lv_goto (tgt := 81) X.1 X.2.1 d_passwordKey_77 (by decide) ?_
                exact jn214 _
          exact lp74 (4) 0 I59 B60 _ _ _ (by omega) (by omega) (fun j h5 h6 h7 h9 h10 h11 h12 h13 h15 h16 h17 h19 h20 h21 h26 h27 h56 => (hB61 j h5 h6 h7 h9 h10 h11 h12 h13 h15 h16 h17 h19 h20 h21 h26 h27 h56)) (fun j h8 h14 h18 => (hI62 j h8 h14 h18)) (show by8 (B60 12) from y63) (show by8 (B60 13) from y64) (show by8 (B60 16) from y65) (show by8 (B60 17) from y66) ((show I59 30 = nI (pm) from hk67).trans (congrArg nI (show (pm : Nat) = pm by omega))) ((show I59 29 = nI (sm) from hk68).trans (congrArg nI (show (sm : Nat) = sm by omega))) ((show I59 8 = nI (64 + i56) from hk69).trans (congrArg nI (show (64 + i56 : Nat) = 64 + sm + 0 by omega)))  Y (lv_sub hl [0, 1, 2, 3, 4, 5] rfl)
        | succ n55 ih57 =>
          intro i56 I59 B60 H locs ls hii56 hsi56 hB61 hI62 y63 y64 y65 y66 hk67 hk68 hk69  Y hl
          refine lv_iload X.1 X.2.1 d_passwordKey_31 (lv_at hl 0 rfl) ?_
          refine lv_aload_n X.1 X.2.1 d_passwordKey_33 rfl (lv_at hl 2 rfl) ?_
          refine m_get X Y 29 (by decide) lk_saltMany (gf_saltMany _ _ _) rfl d_passwordKey_34 ?_
          refine t_eq (show I59 29 = nI (sm) from hk68) ?_
          refine lv_icmp_ge (tgt := 57) X.1 X.2.1 d_passwordKey_37 (by decide) (fun c228 => absurd c228 ?_) (fun c228 => ?_)
          · (rw [nI_leI (by omega) (by omega)] <;> omega)
          rw [nI_leI (by omega) (by omega)] at c228
          refine lv_aload_n X.1 X.2.1 d_passwordKey_40 rfl (lv_at hl 2 rfl) ?_
          refine lv_aload_n X.1 X.2.1 d_passwordKey_41 rfl (lv_at hl 2 rfl) ?_
          refine m_get X Y 24 (by decide) lk_salt (gf_salt _ _ _) rfl d_passwordKey_42 ?_
          refine lv_iload X.1 X.2.1 d_passwordKey_45 (lv_at hl 0 rfl) ?_
          refine m_bald X Y (aw_salt _ _ _ _ _ _ _) (vp_in_nI (by omega) (by decide)) d_passwordKey_47 ?_
          refine t_any (fun v229 => ?_)
          refine m_callv (As := [.int v229]) (rest := []) (n := 1) X Y hZ hA hml hl.1 (c_hash l D E h q H.size I59 J B60 G v229 (64 + i56) hk69 (by omega)) kl_hash ks_hash kx_hash ki_hash ini_M hd_hash ⟨by decide, by decide⟩ rfl (Nat.le_of_ble_eq_true rfl) d_passwordKey_48 ⟨Nat.le_refl _, Nat.le_refl _⟩ (fun u H locs hp Y => ?_)
          obtain ⟨I230, J231, B232, G233⟩ := u
          obtain ⟨hI234, eJ236, hB235, eG237, hk239⟩ := hp
          dsimp only at hI234 eJ236 hB235 eG237 hk239 Y
          rw [eJ236, eG237] at Y
          have hI240 : (∀ j, j ≠ 8 → j ≠ 14 → j ≠ 18 → I230 j = I j) := fun j h8 h14 h18 => (hI234 j h8).trans ((fun j h8 h14 h18 => (hI62 j h8 h14 h18)) j h8 h14 h18)
          have hB241 : (∀ j, j ≠ 5 → j ≠ 6 → j ≠ 7 → j ≠ 9 → j ≠ 10 → j ≠ 11 → j ≠ 12 → j ≠ 13 → j ≠ 15 → j ≠ 16 → j ≠ 17 → j ≠ 19 → j ≠ 20 → j ≠ 21 → j ≠ 26 → j ≠ 27 → j ≠ 56 → B232 j = B j) := fun j h5 h6 h7 h9 h10 h11 h12 h13 h15 h16 h17 h19 h20 h21 h26 h27 h56 => (hB235 j h5 h6 h7).trans ((fun j h5 h6 h7 h9 h10 h11 h12 h13 h15 h16 h17 h19 h20 h21 h26 h27 h56 => (hB61 j h5 h6 h7 h9 h10 h11 h12 h13 h15 h16 h17 h19 h20 h21 h26 h27 h56)) j h5 h6 h7 h9 h10 h11 h12 h13 h15 h16 h17 h19 h20 h21 h26 h27 h56)
          refine lv_iinc (v := (nI (i56 + 1))) (lv' := [(5, .int (nI (i56 + 1))), (4, .int (nI i2)), (0, .ref h), (1, .int (nI 32)), (2, .int (nI cnt)), (3, .ref (q 56))]) X.1 X.2.1 d_passwordKey_51 hl (k := 0) rfl (nI_add _ 1) (by decide) rfl (fun ls hl => ?_)
          refine lv_goto (tgt := 31) X.1 X.2.1 d_passwordKey_54 (by decide) ?_
          exact ih57 (i56 + 1) I230 B232 _ _ _ (by omega) (by omega) (fun j h5 h6 h7 h9 h10 h11 h12 h13 h15 h16 h17 h19 h20 h21 h26 h27 h56 => (hB241 j h5 h6 h7 h9 h10 h11 h12 h13 h15 h16 h17 h19 h20 h21 h26 h27 h56)) (fun j h8 h14 h18 => (hI240 j h8 h14 h18)) (show by8 (B232 12) from (by8_eq (hB235 12 (by decide) (by decide) (by decide)) y63)) (show by8 (B232 13) from (by8_eq (hB235 13 (by decide) (by decide) (by decide)) y64)) (show by8 (B232 16) from (by8_eq (hB235 16 (by decide) (by decide) (by decide)) y65)) (show by8 (B232 17) from (by8_eq (hB235 17 (by decide) (by decide) (by decide)) y66)) ((show I230 30 = nI (pm) from ((hI234 30 (by decide)).trans hk67)).trans (congrArg nI (show (pm : Nat) = pm by omega))) ((show I230 29 = nI (sm) from ((hI234 29 (by decide)).trans hk68)).trans (congrArg nI (show (sm : Nat) = sm by omega))) ((show I230 8 = nI ((64 + i56) + 1) from hk239).trans (congrArg nI (show ((64 + i56) + 1 : Nat) = 64 + (i56 + 1) by omega)))  Y (lv_sub hl [0, 1, 2, 3, 4, 5] rfl)
      exact lp58 (sm) 0 I43 B45 _ _ _ (by omega) (by omega) (fun j h5 h6 h7 h9 h10 h11 h12 h13 h15 h16 h17 h19 h20 h21 h26 h27 h56 => (hB54 j h5 h6 h7 h9 h10 h11 h12 h13 h15 h16 h17 h19 h20 h21 h26 h27 h56)) (fun j h8 h14 h18 => (hI53 j h8 h14 h18)) (show by8 (B45 12) from (by8_eq (hB48 12 (by decide) (by decide) (by decide)) (by8_eq (hB37 12 (by decide)) y9))) (show by8 (B45 13) from (by8_eq (hB48 13 (by decide) (by decide) (by decide)) (by8_eq (hB37 13 (by decide)) y10))) (show by8 (B45 16) from (by8_eq (hB48 16 (by decide) (by decide) (by decide)) (by8_eq (hB37 16 (by decide)) y11))) (show by8 (B45 17) from (by8_eq (hB48 17 (by decide) (by decide) (by decide)) (by8_eq (hB37 17 (by decide)) y12))) ((show I43 30 = nI (pm) from ((hI47 30 (by decide)).trans hk13)).trans (congrArg nI (show (pm : Nat) = pm by omega))) ((show I43 29 = nI (sm) from ((hI47 29 (by decide)).trans hk14)).trans (congrArg nI (show (sm : Nat) = sm by omega))) ((show I43 8 = nI (64) from hk52).trans (congrArg nI (show (64 : Nat) = 64 + 0 by omega)))  Y (lv_sub hl [0, 1, 2, 3, 4, 5] rfl)
  exact lp4 (2) 0 I B _ _ _ (by omega) (by omega) (fun j h5 h6 h7 h9 h10 h11 h12 h13 h15 h16 h17 h19 h20 h21 h26 h27 h56 => rfl) (fun j h8 h14 h18 => rfl) (show by8 (B 12) from y12) (show by8 (B 13) from y13) (show by8 (B 16) from y16) (show by8 (B 17) from y17) ((show I 30 = nI (pm) from hpm).trans (congrArg nI (show (pm : Nat) = pm by omega))) ((show I 29 = nI (sm) from hsm).trans (congrArg nI (show (sm : Nat) = sm by omega)))  Y (lv_sub hl [0, 1, 2, 3, 4] rfl)
end
section
abbrev b_clock : ByteArray := prog_14_method_7_code
def y_clock : MethodName := ⟨R_M, "clock", "(I)Z"⟩
abbrev k_clock : Cond := .code y_clock b_clock 2 (some .boolean)
theorem ki_clock : k_clock ∈ lw_tg := in_t 2328 (by decide +kernel)
theorem ks_clock : Cond.instanceMethod y_clock ∈ lw_tg := in_t 2326 (by decide +kernel)
theorem d_clock_0 : decode b_clock 0 = .ok (.iload_n 1, 1) := by decide +kernel
theorem d_clock_1 : decode b_clock 1 = .ok (.ifCond .lt 10, 3) := by decide +kernel
theorem d_clock_4 : decode b_clock 4 = .ok (.iload_n 1, 1) := by decide +kernel
theorem d_clock_5 : decode b_clock 5 = .ok (.ldc_w 351, 3) := by decide +kernel
theorem d_clock_8 : decode b_clock 8 = .ok (.if_icmp .le 5, 3) := by decide +kernel
theorem d_clock_11 : decode b_clock 11 = .ok (.iconst 0, 1) := by decide +kernel
theorem d_clock_12 : decode b_clock 12 = .ok (.ireturn, 1) := by decide +kernel
theorem d_clock_13 : decode b_clock 13 = .ok (.aload_n 0, 1) := by decide +kernel
theorem d_clock_14 : decode b_clock 14 = .ok (.iload_n 1, 1) := by decide +kernel
theorem d_clock_15 : decode b_clock 15 = .ok (.putfield 18, 3) := by decide +kernel
theorem d_clock_18 : decode b_clock 18 = .ok (.iconst 1, 1) := by decide +kernel
theorem d_clock_19 : decode b_clock 19 = .ok (.ireturn, 1) := by decide +kernel
abbrev b_room : ByteArray := prog_14_method_93_code
def y_room : MethodName := ⟨R_M, "room", "(I)Z"⟩
abbrev k_room : Cond := .code y_room b_room 2 (some .boolean)
theorem ki_room : k_room ∈ lw_tg := in_t 2351 (by decide +kernel)
theorem ks_room : Cond.instanceMethod y_room ∈ lw_tg := in_t 2349 (by decide +kernel)
theorem d_room_0 : decode b_room 0 = .ok (.iload_n 1, 1) := by decide +kernel
theorem d_room_1 : decode b_room 1 = .ok (.iconst 1, 1) := by decide +kernel
theorem d_room_2 : decode b_room 2 = .ok (.if_icmp .lt 9, 3) := by decide +kernel
theorem d_room_5 : decode b_room 5 = .ok (.iload_n 1, 1) := by decide +kernel
theorem d_room_6 : decode b_room 6 = .ok (.bipush 32, 2) := by decide +kernel
theorem d_room_8 : decode b_room 8 = .ok (.if_icmp .le 5, 3) := by decide +kernel
theorem d_room_11 : decode b_room 11 = .ok (.iconst 0, 1) := by decide +kernel
theorem d_room_12 : decode b_room 12 = .ok (.ireturn, 1) := by decide +kernel
theorem d_room_13 : decode b_room 13 = .ok (.aload_n 0, 1) := by decide +kernel
theorem d_room_14 : decode b_room 14 = .ok (.iload_n 1, 1) := by decide +kernel
theorem d_room_15 : decode b_room 15 = .ok (.putfield 134, 3) := by decide +kernel
theorem d_room_18 : decode b_room 18 = .ok (.iconst 1, 1) := by decide +kernel
theorem d_room_19 : decode b_room 19 = .ok (.ireturn, 1) := by decide +kernel
abbrev b_feed : ByteArray := prog_14_method_3_code
def y_feed : MethodName := ⟨R_M, "feed", "(IIIII)Z"⟩
abbrev k_feed : Cond := .code y_feed b_feed 8 (some .boolean)
theorem ki_feed : k_feed ∈ lw_tg := in_t 2312 (by decide +kernel)
theorem ks_feed : Cond.instanceMethod y_feed ∈ lw_tg := in_t 2310 (by decide +kernel)
theorem d_feed_0 : decode b_feed 0 = .ok (.aload_n 0, 1) := by decide +kernel
theorem d_feed_1 : decode b_feed 1 = .ok (.getfield 332, 3) := by decide +kernel
theorem d_feed_4 : decode b_feed 4 = .ok (.bipush 20, 2) := by decide +kernel
theorem d_feed_6 : decode b_feed 6 = .ok (.iadd, 1) := by decide +kernel
theorem d_feed_7 : decode b_feed 7 = .ok (.sipush 4000, 3) := by decide +kernel
theorem d_feed_10 : decode b_feed 10 = .ok (.if_icmp .le 5, 3) := by decide +kernel
theorem d_feed_13 : decode b_feed 13 = .ok (.iconst 0, 1) := by decide +kernel
theorem d_feed_14 : decode b_feed 14 = .ok (.ireturn, 1) := by decide +kernel
theorem d_feed_15 : decode b_feed 15 = .ok (.iconst 0, 1) := by decide +kernel
theorem d_feed_16 : decode b_feed 16 = .ok (.istore 6, 2) := by decide +kernel
theorem d_feed_18 : decode b_feed 18 = .ok (.iload 6, 2) := by decide +kernel
theorem d_feed_20 : decode b_feed 20 = .ok (.bipush 20, 2) := by decide +kernel
theorem d_feed_22 : decode b_feed 22 = .ok (.if_icmp .ge 90, 3) := by decide +kernel
theorem d_feed_25 : decode b_feed 25 = .ok (.iload 6, 2) := by decide +kernel
theorem d_feed_27 : decode b_feed 27 = .ok (.iconst 4, 1) := by decide +kernel
theorem d_feed_28 : decode b_feed 28 = .ok (.if_icmp .ge 7, 3) := by decide +kernel
theorem d_feed_31 : decode b_feed 31 = .ok (.iload_n 1, 1) := by decide +kernel
theorem d_feed_32 : decode b_feed 32 = .ok (.goto 39, 3) := by decide +kernel
theorem d_feed_35 : decode b_feed 35 = .ok (.iload 6, 2) := by decide +kernel
theorem d_feed_37 : decode b_feed 37 = .ok (.bipush 8, 2) := by decide +kernel
theorem d_feed_39 : decode b_feed 39 = .ok (.if_icmp .ge 7, 3) := by decide +kernel
theorem d_feed_42 : decode b_feed 42 = .ok (.iload_n 2, 1) := by decide +kernel
theorem d_feed_43 : decode b_feed 43 = .ok (.goto 28, 3) := by decide +kernel
theorem d_feed_46 : decode b_feed 46 = .ok (.iload 6, 2) := by decide +kernel
theorem d_feed_48 : decode b_feed 48 = .ok (.bipush 12, 2) := by decide +kernel
theorem d_feed_50 : decode b_feed 50 = .ok (.if_icmp .ge 7, 3) := by decide +kernel
theorem d_feed_53 : decode b_feed 53 = .ok (.iload_n 3, 1) := by decide +kernel
theorem d_feed_54 : decode b_feed 54 = .ok (.goto 17, 3) := by decide +kernel
theorem d_feed_57 : decode b_feed 57 = .ok (.iload 6, 2) := by decide +kernel
theorem d_feed_59 : decode b_feed 59 = .ok (.bipush 16, 2) := by decide +kernel
theorem d_feed_61 : decode b_feed 61 = .ok (.if_icmp .ge 8, 3) := by decide +kernel
theorem d_feed_64 : decode b_feed 64 = .ok (.iload 4, 2) := by decide +kernel
theorem d_feed_66 : decode b_feed 66 = .ok (.goto 5, 3) := by decide +kernel
theorem d_feed_69 : decode b_feed 69 = .ok (.iload 5, 2) := by decide +kernel
theorem d_feed_71 : decode b_feed 71 = .ok (.istore 7, 2) := by decide +kernel
theorem d_feed_73 : decode b_feed 73 = .ok (.aload_n 0, 1) := by decide +kernel
theorem d_feed_74 : decode b_feed 74 = .ok (.getfield 10, 3) := by decide +kernel
theorem d_feed_77 : decode b_feed 77 = .ok (.aload_n 0, 1) := by decide +kernel
theorem d_feed_78 : decode b_feed 78 = .ok (.getfield 332, 3) := by decide +kernel
theorem d_feed_81 : decode b_feed 81 = .ok (.iload 7, 2) := by decide +kernel
theorem d_feed_83 : decode b_feed 83 = .ok (.bipush 24, 2) := by decide +kernel
theorem d_feed_85 : decode b_feed 85 = .ok (.bipush 8, 2) := by decide +kernel
theorem d_feed_87 : decode b_feed 87 = .ok (.iload 6, 2) := by decide +kernel
theorem d_feed_89 : decode b_feed 89 = .ok (.iconst 4, 1) := by decide +kernel
theorem d_feed_90 : decode b_feed 90 = .ok (.irem, 1) := by decide +kernel
theorem d_feed_91 : decode b_feed 91 = .ok (.imul, 1) := by decide +kernel
theorem d_feed_92 : decode b_feed 92 = .ok (.isub, 1) := by decide +kernel
theorem d_feed_93 : decode b_feed 93 = .ok (.ishr, 1) := by decide +kernel
theorem d_feed_94 : decode b_feed 94 = .ok (.i2b, 1) := by decide +kernel
theorem d_feed_95 : decode b_feed 95 = .ok (.bastore, 1) := by decide +kernel
theorem d_feed_96 : decode b_feed 96 = .ok (.aload_n 0, 1) := by decide +kernel
theorem d_feed_97 : decode b_feed 97 = .ok (.dup, 1) := by decide +kernel
theorem d_feed_98 : decode b_feed 98 = .ok (.getfield 332, 3) := by decide +kernel
theorem d_feed_101 : decode b_feed 101 = .ok (.iconst 1, 1) := by decide +kernel
theorem d_feed_102 : decode b_feed 102 = .ok (.iadd, 1) := by decide +kernel
theorem d_feed_103 : decode b_feed 103 = .ok (.putfield 332, 3) := by decide +kernel
theorem d_feed_106 : decode b_feed 106 = .ok (.iinc 6 1, 3) := by decide +kernel
theorem d_feed_109 : decode b_feed 109 = .ok (.goto (-91), 3) := by decide +kernel
theorem d_feed_112 : decode b_feed 112 = .ok (.iconst 1, 1) := by decide +kernel
theorem d_feed_113 : decode b_feed 113 = .ok (.ireturn, 1) := by decide +kernel
abbrev b_carry : ByteArray := prog_14_method_6_code
def y_carry : MethodName := ⟨R_M, "carry", "(II)I"⟩
abbrev k_carry : Cond := .code y_carry b_carry 5 (some .int)
theorem ki_carry : k_carry ∈ lw_tg := in_t 2324 (by decide +kernel)
theorem ks_carry : Cond.instanceMethod y_carry ∈ lw_tg := in_t 2322 (by decide +kernel)
theorem d_carry_0 : decode b_carry 0 = .ok (.aload_n 0, 1) := by decide +kernel
theorem d_carry_1 : decode b_carry 1 = .ok (.getfield 348, 3) := by decide +kernel
theorem d_carry_4 : decode b_carry 4 = .ok (.sipush 4000, 3) := by decide +kernel
theorem d_carry_7 : decode b_carry 7 = .ok (.if_icmp .ge 10, 3) := by decide +kernel
theorem d_carry_10 : decode b_carry 10 = .ok (.aload_n 0, 1) := by decide +kernel
theorem d_carry_11 : decode b_carry 11 = .ok (.getfield 348, 3) := by decide +kernel
theorem d_carry_14 : decode b_carry 14 = .ok (.goto 6, 3) := by decide +kernel
theorem d_carry_17 : decode b_carry 17 = .ok (.sipush 4000, 3) := by decide +kernel
theorem d_carry_20 : decode b_carry 20 = .ok (.istore_n 3, 1) := by decide +kernel
theorem d_carry_21 : decode b_carry 21 = .ok (.iconst 0, 1) := by decide +kernel
theorem d_carry_22 : decode b_carry 22 = .ok (.istore 4, 2) := by decide +kernel
theorem d_carry_24 : decode b_carry 24 = .ok (.iload 4, 2) := by decide +kernel
theorem d_carry_26 : decode b_carry 26 = .ok (.iload_n 3, 1) := by decide +kernel
theorem d_carry_27 : decode b_carry 27 = .ok (.if_icmp .ge 42, 3) := by decide +kernel
theorem d_carry_30 : decode b_carry 30 = .ok (.aload_n 0, 1) := by decide +kernel
theorem d_carry_31 : decode b_carry 31 = .ok (.getfield 10, 3) := by decide +kernel
theorem d_carry_34 : decode b_carry 34 = .ok (.iload 4, 2) := by decide +kernel
theorem d_carry_36 : decode b_carry 36 = .ok (.iload 4, 2) := by decide +kernel
theorem d_carry_38 : decode b_carry 38 = .ok (.iload_n 1, 1) := by decide +kernel
theorem d_carry_39 : decode b_carry 39 = .ok (.if_icmp .ne 16, 3) := by decide +kernel
theorem d_carry_42 : decode b_carry 42 = .ok (.aload_n 0, 1) := by decide +kernel
theorem d_carry_43 : decode b_carry 43 = .ok (.getfield 14, 3) := by decide +kernel
theorem d_carry_46 : decode b_carry 46 = .ok (.iload 4, 2) := by decide +kernel
theorem d_carry_48 : decode b_carry 48 = .ok (.baload, 1) := by decide +kernel
theorem d_carry_49 : decode b_carry 49 = .ok (.iload_n 2, 1) := by decide +kernel
theorem d_carry_50 : decode b_carry 50 = .ok (.ixor, 1) := by decide +kernel
theorem d_carry_51 : decode b_carry 51 = .ok (.i2b, 1) := by decide +kernel
theorem d_carry_52 : decode b_carry 52 = .ok (.goto 10, 3) := by decide +kernel
theorem d_carry_55 : decode b_carry 55 = .ok (.aload_n 0, 1) := by decide +kernel
theorem d_carry_56 : decode b_carry 56 = .ok (.getfield 14, 3) := by decide +kernel
theorem d_carry_59 : decode b_carry 59 = .ok (.iload 4, 2) := by decide +kernel
theorem d_carry_61 : decode b_carry 61 = .ok (.baload, 1) := by decide +kernel
theorem d_carry_62 : decode b_carry 62 = .ok (.bastore, 1) := by decide +kernel
theorem d_carry_63 : decode b_carry 63 = .ok (.iinc 4 1, 3) := by decide +kernel
theorem d_carry_66 : decode b_carry 66 = .ok (.goto (-42), 3) := by decide +kernel
theorem d_carry_69 : decode b_carry 69 = .ok (.aload_n 0, 1) := by decide +kernel
theorem d_carry_70 : decode b_carry 70 = .ok (.iload_n 3, 1) := by decide +kernel
theorem d_carry_71 : decode b_carry 71 = .ok (.putfield 332, 3) := by decide +kernel
theorem d_carry_74 : decode b_carry 74 = .ok (.iload_n 3, 1) := by decide +kernel
theorem d_carry_75 : decode b_carry 75 = .ok (.ireturn, 1) := by decide +kernel
abbrev b_seed : ByteArray := prog_14_method_27_code
def y_seed : MethodName := ⟨R_M, "seed", "()Z"⟩
abbrev k_seed : Cond := .code y_seed b_seed 2 (some .boolean)
theorem ki_seed : k_seed ∈ lw_tg := in_t 2333 (by decide +kernel)
theorem ks_seed : Cond.instanceMethod y_seed ∈ lw_tg := in_t 2331 (by decide +kernel)
theorem d_seed_0 : decode b_seed 0 = .ok (.aload_n 0, 1) := by decide +kernel
theorem d_seed_1 : decode b_seed 1 = .ok (.getfield 332, 3) := by decide +kernel
theorem d_seed_4 : decode b_seed 4 = .ok (.bipush 64, 2) := by decide +kernel
theorem d_seed_6 : decode b_seed 6 = .ok (.if_icmp .le 5, 3) := by decide +kernel
theorem d_seed_9 : decode b_seed 9 = .ok (.iconst 0, 1) := by decide +kernel
theorem d_seed_10 : decode b_seed 10 = .ok (.ireturn, 1) := by decide +kernel
theorem d_seed_11 : decode b_seed 11 = .ok (.iconst 0, 1) := by decide +kernel
theorem d_seed_12 : decode b_seed 12 = .ok (.istore_n 1, 1) := by decide +kernel
theorem d_seed_13 : decode b_seed 13 = .ok (.iload_n 1, 1) := by decide +kernel
theorem d_seed_14 : decode b_seed 14 = .ok (.aload_n 0, 1) := by decide +kernel
theorem d_seed_15 : decode b_seed 15 = .ok (.getfield 332, 3) := by decide +kernel
theorem d_seed_18 : decode b_seed 18 = .ok (.if_icmp .ge 21, 3) := by decide +kernel
theorem d_seed_21 : decode b_seed 21 = .ok (.aload_n 0, 1) := by decide +kernel
theorem d_seed_22 : decode b_seed 22 = .ok (.getfield 86, 3) := by decide +kernel
theorem d_seed_25 : decode b_seed 25 = .ok (.iload_n 1, 1) := by decide +kernel
theorem d_seed_26 : decode b_seed 26 = .ok (.aload_n 0, 1) := by decide +kernel
theorem d_seed_27 : decode b_seed 27 = .ok (.getfield 10, 3) := by decide +kernel
theorem d_seed_30 : decode b_seed 30 = .ok (.iload_n 1, 1) := by decide +kernel
theorem d_seed_31 : decode b_seed 31 = .ok (.baload, 1) := by decide +kernel
theorem d_seed_32 : decode b_seed 32 = .ok (.bastore, 1) := by decide +kernel
theorem d_seed_33 : decode b_seed 33 = .ok (.iinc 1 1, 3) := by decide +kernel
theorem d_seed_36 : decode b_seed 36 = .ok (.goto (-23), 3) := by decide +kernel
theorem d_seed_39 : decode b_seed 39 = .ok (.aload_n 0, 1) := by decide +kernel
theorem d_seed_40 : decode b_seed 40 = .ok (.aload_n 0, 1) := by decide +kernel
theorem d_seed_41 : decode b_seed 41 = .ok (.getfield 332, 3) := by decide +kernel
theorem d_seed_44 : decode b_seed 44 = .ok (.putfield 432, 3) := by decide +kernel
theorem d_seed_47 : decode b_seed 47 = .ok (.aload_n 0, 1) := by decide +kernel
theorem d_seed_48 : decode b_seed 48 = .ok (.iconst 0, 1) := by decide +kernel
theorem d_seed_49 : decode b_seed 49 = .ok (.putfield 332, 3) := by decide +kernel
theorem d_seed_52 : decode b_seed 52 = .ok (.aload_n 0, 1) := by decide +kernel
theorem d_seed_53 : decode b_seed 53 = .ok (.iconst 0, 1) := by decide +kernel
theorem d_seed_54 : decode b_seed 54 = .ok (.putfield 435, 3) := by decide +kernel
theorem d_seed_57 : decode b_seed 57 = .ok (.iconst 1, 1) := by decide +kernel
theorem d_seed_58 : decode b_seed 58 = .ok (.ireturn, 1) := by decide +kernel
abbrev b_end : ByteArray := prog_14_method_4_code
def y_end : MethodName := ⟨R_M, "end", "(I)Z"⟩
abbrev k_end : Cond := .code y_end b_end 2 (some .boolean)
theorem ki_end : k_end ∈ lw_tg := in_t 2316 (by decide +kernel)
theorem ks_end : Cond.instanceMethod y_end ∈ lw_tg := in_t 2314 (by decide +kernel)
theorem d_end_0 : decode b_end 0 = .ok (.iload_n 1, 1) := by decide +kernel
theorem d_end_1 : decode b_end 1 = .ok (.ifCond .lt 11, 3) := by decide +kernel
theorem d_end_4 : decode b_end 4 = .ok (.iload_n 1, 1) := by decide +kernel
theorem d_end_5 : decode b_end 5 = .ok (.aload_n 0, 1) := by decide +kernel
theorem d_end_6 : decode b_end 6 = .ok (.getfield 332, 3) := by decide +kernel
theorem d_end_9 : decode b_end 9 = .ok (.if_icmp .le 5, 3) := by decide +kernel
theorem d_end_12 : decode b_end 12 = .ok (.iconst 0, 1) := by decide +kernel
theorem d_end_13 : decode b_end 13 = .ok (.ireturn, 1) := by decide +kernel
theorem d_end_14 : decode b_end 14 = .ok (.aload_n 0, 1) := by decide +kernel
theorem d_end_15 : decode b_end 15 = .ok (.iload_n 1, 1) := by decide +kernel
theorem d_end_16 : decode b_end 16 = .ok (.putfield 332, 3) := by decide +kernel
theorem d_end_19 : decode b_end 19 = .ok (.iconst 1, 1) := by decide +kernel
theorem d_end_20 : decode b_end 20 = .ok (.ireturn, 1) := by decide +kernel
abbrev b_out : ByteArray := prog_14_method_5_code
def y_out : MethodName := ⟨R_M, "out", "(I)I"⟩
abbrev k_out : Cond := .code y_out b_out 2 (some .int)
theorem ki_out : k_out ∈ lw_tg := in_t 2320 (by decide +kernel)
theorem ks_out : Cond.instanceMethod y_out ∈ lw_tg := in_t 2318 (by decide +kernel)
theorem d_out_0 : decode b_out 0 = .ok (.iload_n 1, 1) := by decide +kernel
theorem d_out_1 : decode b_out 1 = .ok (.iconst (-1), 1) := by decide +kernel
theorem d_out_2 : decode b_out 2 = .ok (.if_icmp .ne 10, 3) := by decide +kernel
theorem d_out_5 : decode b_out 5 = .ok (.aload_n 0, 1) := by decide +kernel
theorem d_out_6 : decode b_out 6 = .ok (.getfield 348, 3) := by decide +kernel
theorem d_out_9 : decode b_out 9 = .ok (.goto 29, 3) := by decide +kernel
theorem d_out_12 : decode b_out 12 = .ok (.iload_n 1, 1) := by decide +kernel
theorem d_out_13 : decode b_out 13 = .ok (.ifCond .lt 24, 3) := by decide +kernel
theorem d_out_16 : decode b_out 16 = .ok (.iload_n 1, 1) := by decide +kernel
theorem d_out_17 : decode b_out 17 = .ok (.aload_n 0, 1) := by decide +kernel
theorem d_out_18 : decode b_out 18 = .ok (.getfield 348, 3) := by decide +kernel
theorem d_out_21 : decode b_out 21 = .ok (.if_icmp .ge 16, 3) := by decide +kernel
theorem d_out_24 : decode b_out 24 = .ok (.aload_n 0, 1) := by decide +kernel
theorem d_out_25 : decode b_out 25 = .ok (.getfield 14, 3) := by decide +kernel
theorem d_out_28 : decode b_out 28 = .ok (.iload_n 1, 1) := by decide +kernel
theorem d_out_29 : decode b_out 29 = .ok (.baload, 1) := by decide +kernel
theorem d_out_30 : decode b_out 30 = .ok (.sipush 255, 3) := by decide +kernel
theorem d_out_33 : decode b_out 33 = .ok (.iand, 1) := by decide +kernel
theorem d_out_34 : decode b_out 34 = .ok (.goto 4, 3) := by decide +kernel
theorem d_out_37 : decode b_out 37 = .ok (.iconst (-1), 1) := by decide +kernel
theorem d_out_38 : decode b_out 38 = .ok (.ireturn, 1) := by decide +kernel
theorem cn_351 : Cond.constant R_M 351 (2000000000) ∈ lw_tg := in_t 2329 (by decide +kernel)
theorem kx_clock : Cond.selects R_M y_clock y_clock ∈ lw_tg := in_t 2327 (by decide +kernel)
theorem hd_clock : y_clock.cls = R_M ∧ y_clock.cls ≠ "java/lang/invoke/MethodHandle" ∧ y_clock.cls ≠ "java/lang/invoke/VarHandle" ∧ (parseMethodDescriptor y_clock.desc).map (fun d => d.parameters.length) = some 1 := by decide +kernel
theorem kx_room : Cond.selects R_M y_room y_room ∈ lw_tg := in_t 2350 (by decide +kernel)
theorem hd_room : y_room.cls = R_M ∧ y_room.cls ≠ "java/lang/invoke/MethodHandle" ∧ y_room.cls ≠ "java/lang/invoke/VarHandle" ∧ (parseMethodDescriptor y_room.desc).map (fun d => d.parameters.length) = some 1 := by decide +kernel
theorem kx_feed : Cond.selects R_M y_feed y_feed ∈ lw_tg := in_t 2311 (by decide +kernel)
theorem hd_feed : y_feed.cls = R_M ∧ y_feed.cls ≠ "java/lang/invoke/MethodHandle" ∧ y_feed.cls ≠ "java/lang/invoke/VarHandle" ∧ (parseMethodDescriptor y_feed.desc).map (fun d => d.parameters.length) = some 5 := by decide +kernel
theorem kx_carry : Cond.selects R_M y_carry y_carry ∈ lw_tg := in_t 2323 (by decide +kernel)
theorem hd_carry : y_carry.cls = R_M ∧ y_carry.cls ≠ "java/lang/invoke/MethodHandle" ∧ y_carry.cls ≠ "java/lang/invoke/VarHandle" ∧ (parseMethodDescriptor y_carry.desc).map (fun d => d.parameters.length) = some 2 := by decide +kernel
theorem kx_seed : Cond.selects R_M y_seed y_seed ∈ lw_tg := in_t 2332 (by decide +kernel)
theorem hd_seed : y_seed.cls = R_M ∧ y_seed.cls ≠ "java/lang/invoke/MethodHandle" ∧ y_seed.cls ≠ "java/lang/invoke/VarHandle" ∧ (parseMethodDescriptor y_seed.desc).map (fun d => d.parameters.length) = some 0 := by decide +kernel
theorem kx_end : Cond.selects R_M y_end y_end ∈ lw_tg := in_t 2315 (by decide +kernel)
theorem hd_end : y_end.cls = R_M ∧ y_end.cls ≠ "java/lang/invoke/MethodHandle" ∧ y_end.cls ≠ "java/lang/invoke/VarHandle" ∧ (parseMethodDescriptor y_end.desc).map (fun d => d.parameters.length) = some 1 := by decide +kernel
theorem kx_out : Cond.selects R_M y_out y_out ∈ lw_tg := in_t 2319 (by decide +kernel)
theorem hd_out : y_out.cls = R_M ∧ y_out.cls ≠ "java/lang/invoke/MethodHandle" ∧ y_out.cls ≠ "java/lang/invoke/VarHandle" ∧ (parseMethodDescriptor y_out.desc).map (fun d => d.parameters.length) = some 1 := by decide +kernel
set_option maxHeartbeats 4000000 in
set_option maxRecDepth 100000 in
theorem c_clock (l : Launch) (D : mD) (E : mE) (h : Nat) (q : Nat → Nat) (sz : Nat) (I : Nat → Int32) (J : Nat → Int64) (B : Nat → Nat → Int32) (G : Nat → Nat → Int64) (a1 : Int32) : Met l y_clock (k_clock :: lw_tg) (mR 0 0) (va_Pc [.ref h, .int a1] (mPre D E h q (I, J, B, G) sz)) (va_Qi (fun (r : Int32) (u : mS) => (∀ j, j ≠ 4 → u.1 j = I j) ∧ u.2.1 = J ∧ (∀ j, u.2.2.1 j = B j) ∧ u.2.2.2 = G ∧ (r = (if a1 < 0 ∨ ¬ a1 ≤ nI 2000000000 then nI 0 else nI 1) ∧ (r = nI 1 → u.1 4 = a1) ∧ (r = nI 0 → u.1 4 = I 4))) (mPost D E h q (mA E h q sz)) (mA E h q sz)) 0 0 (mA E h q sz) := by
  refine m_enter (by decide) rfl (Nat.le_of_ble_eq_true rfl) (fun p e s m below meth c ls AV QQ H locs hQQ X Y hZ hA hr hlk hml hl => ?_)
  have Y : mH D E (mA E h q sz) s.heap h q I J B G H locs := Y
  have hl : lv_has ls 2 [(0, .ref h), (1, .int a1)] := hl
  refine lv_iload_n X.1 X.2.1 d_clock_0 rfl (lv_at hl 1 rfl) ?_
  refine lv_if_lt (tgt := 11) X.1 X.2.1 d_clock_1 (by decide) (fun c1 => ?_) (fun c1 => ?_)
  · skip
    refine lv_iconst (v := (nI 0)) X.1 X.2.1 d_clock_11 (by decide) ?_
    exact m_retz hQQ X Y hr hlk rfl ⟨(fun j h4 => rfl), rfl, (fun j  => rfl), rfl, ⟨(by first | rw [if_pos (Or.inl (by assumption))] | rw [if_pos (Or.inr (by assumption))] | rw [if_neg (by intro h9; rcases h9 with h9 | h9 <;> contradiction)]), fun h9 => absurd h9 (by decide), fun _ => rfl⟩⟩ d_clock_12
  · skip
    refine lv_iload_n X.1 X.2.1 d_clock_4 rfl (lv_at hl 1 rfl) ?_
    refine lv_ldcw (v := (2000000000)) X.1 X.2.1 X.2.2.2.1 (X.2.2.1 _ cn_351) d_clock_5 ?_
    refine t_eq (y := nI 2000000000) (by decide) ?_
    refine lv_icmp_le (tgt := 13) X.1 X.2.1 d_clock_8 (by decide) (fun c2 => ?_) (fun c2 => ?_)
    · skip
      refine lv_aload_n X.1 X.2.1 d_clock_13 rfl (lv_at hl 0 rfl) ?_
      refine lv_iload_n X.1 X.2.1 d_clock_14 rfl (lv_at hl 1 rfl) ?_
      refine m_puti X Y 4 (by decide) lk_now rfl rfl (t_M_ok 4 (by decide)) rfl rfl (sf_now _ _ _ _) (Nat.le_of_ble_eq_true rfl) d_clock_15 (fun H locs Y => ?_)
      refine lv_iconst (v := (nI 1)) X.1 X.2.1 d_clock_18 (by decide) ?_
      exact m_retz hQQ X Y hr hlk rfl ⟨(fun j h4 => ((if_neg h4).trans rfl)), rfl, (fun j  => rfl), rfl, ⟨(by first | rw [if_pos (Or.inl (by assumption))] | rw [if_pos (Or.inr (by assumption))] | rw [if_neg (by intro h9; rcases h9 with h9 | h9 <;> contradiction)]), fun _ => (show upd I 4 a1 4 = a1 from pk_us), fun h9 => absurd h9 (by decide)⟩⟩ d_clock_19
    · skip
      refine lv_iconst (v := (nI 0)) X.1 X.2.1 d_clock_11 (by decide) ?_
      exact m_retz hQQ X Y hr hlk rfl ⟨(fun j h4 => rfl), rfl, (fun j  => rfl), rfl, ⟨(by first | rw [if_pos (Or.inl (by assumption))] | rw [if_pos (Or.inr (by assumption))] | rw [if_neg (by intro h9; rcases h9 with h9 | h9 <;> contradiction)]), fun h9 => absurd h9 (by decide), fun _ => rfl⟩⟩ d_clock_12
set_option maxHeartbeats 4000000 in
set_option maxRecDepth 100000 in
theorem c_room (l : Launch) (D : mD) (E : mE) (h : Nat) (q : Nat → Nat) (sz : Nat) (I : Nat → Int32) (J : Nat → Int64) (B : Nat → Nat → Int32) (G : Nat → Nat → Int64) (a1 : Int32) : Met l y_room (k_room :: lw_tg) (mR 0 0) (va_Pc [.ref h, .int a1] (mPre D E h q (I, J, B, G) sz)) (va_Qi (fun (r : Int32) (u : mS) => (∀ j, j ≠ 57 → u.1 j = I j) ∧ u.2.1 = J ∧ (∀ j, u.2.2.1 j = B j) ∧ u.2.2.2 = G ∧ (r = (if a1 < nI 1 ∨ ¬ a1 ≤ nI 32 then nI 0 else nI 1) ∧ (r = nI 1 → u.1 57 = a1) ∧ (r = nI 0 → u.1 57 = I 57))) (mPost D E h q (mA E h q sz)) (mA E h q sz)) 0 0 (mA E h q sz) := by
  refine m_enter (by decide) rfl (Nat.le_of_ble_eq_true rfl) (fun p e s m below meth c ls AV QQ H locs hQQ X Y hZ hA hr hlk hml hl => ?_)
  have Y : mH D E (mA E h q sz) s.heap h q I J B G H locs := Y
  have hl : lv_has ls 2 [(0, .ref h), (1, .int a1)] := hl
  refine lv_iload_n X.1 X.2.1 d_room_0 rfl (lv_at hl 1 rfl) ?_
  refine lv_iconst (v := (nI 1)) X.1 X.2.1 d_room_1 (by decide) ?_
  refine lv_icmp_lt (tgt := 11) X.1 X.2.1 d_room_2 (by decide) (fun c1 => ?_) (fun c1 => ?_)
  · skip
    refine lv_iconst (v := (nI 0)) X.1 X.2.1 d_room_11 (by decide) ?_
    exact m_retz hQQ X Y hr hlk rfl ⟨(fun j h57 => rfl), rfl, (fun j  => rfl), rfl, ⟨(by first | rw [if_pos (Or.inl (by assumption))] | rw [if_pos (Or.inr (by assumption))] | rw [if_neg (by intro h9; rcases h9 with h9 | h9 <;> contradiction)]), fun h9 => absurd h9 (by decide), fun _ => rfl⟩⟩ d_room_12
  · skip
    refine lv_iload_n X.1 X.2.1 d_room_5 rfl (lv_at hl 1 rfl) ?_
    refine lv_bipush (v := (nI 32)) X.1 X.2.1 d_room_6 (by decide) ?_
    refine lv_icmp_le (tgt := 13) X.1 X.2.1 d_room_8 (by decide) (fun c2 => ?_) (fun c2 => ?_)
    · skip
      refine lv_aload_n X.1 X.2.1 d_room_13 rfl (lv_at hl 0 rfl) ?_
      refine lv_iload_n X.1 X.2.1 d_room_14 rfl (lv_at hl 1 rfl) ?_
      refine m_puti X Y 57 (by decide) lk_most rfl rfl (t_M_ok 57 (by decide)) rfl rfl (sf_most _ _ _ _) (Nat.le_of_ble_eq_true rfl) d_room_15 (fun H locs Y => ?_)
      refine lv_iconst (v := (nI 1)) X.1 X.2.1 d_room_18 (by decide) ?_
      exact m_retz hQQ X Y hr hlk rfl ⟨(fun j h57 => ((if_neg h57).trans rfl)), rfl, (fun j  => rfl), rfl, ⟨(by first | rw [if_pos (Or.inl (by assumption))] | rw [if_pos (Or.inr (by assumption))] | rw [if_neg (by intro h9; rcases h9 with h9 | h9 <;> contradiction)]), fun _ => (show upd I 57 a1 57 = a1 from pk_us), fun h9 => absurd h9 (by decide)⟩⟩ d_room_19
    · skip
      refine lv_iconst (v := (nI 0)) X.1 X.2.1 d_room_11 (by decide) ?_
      exact m_retz hQQ X Y hr hlk rfl ⟨(fun j h57 => rfl), rfl, (fun j  => rfl), rfl, ⟨(by first | rw [if_pos (Or.inl (by assumption))] | rw [if_pos (Or.inr (by assumption))] | rw [if_neg (by intro h9; rcases h9 with h9 | h9 <;> contradiction)]), fun h9 => absurd h9 (by decide), fun _ => rfl⟩⟩ d_room_12
set_option maxHeartbeats 4000000 in
set_option maxRecDepth 100000 in
theorem c_feed (l : Launch) (D : mD) (E : mE) (h : Nat) (q : Nat → Nat) (sz : Nat) (I : Nat → Int32) (J : Nat → Int64) (B : Nat → Nat → Int32) (G : Nat → Nat → Int64) (a1 a2 a3 a4 a5 : Int32) (n : Nat) (hn : I 2 = nI n) (hn2 : n ≤ 4000) : Met l y_feed (k_feed :: lw_tg) (mR 0 0) (va_Pc [.ref h, .int a1, .int a2, .int a3, .int a4, .int a5] (mPre D E h q (I, J, B, G) sz)) (va_Qi (fun (r : Int32) (u : mS) => (∀ j, j ≠ 2 → u.1 j = I j) ∧ u.2.1 = J ∧ (∀ j, j ≠ 0 → u.2.2.1 j = B j) ∧ u.2.2.2 = G ∧ ((n + 20 ≤ 4000 → r = nI 1 ∧ u.1 2 = nI (n + 20)) ∧ (¬ n + 20 ≤ 4000 → r = nI 0 ∧ u.1 2 = nI n))) (mPost D E h q (mA E h q sz)) (mA E h q sz)) 0 0 (mA E h q sz) := by
  refine m_enter (by decide) rfl (Nat.le_of_ble_eq_true rfl) (fun p e s m below meth c ls AV QQ H locs hQQ X Y hZ hA hr hlk hml hl => ?_)
  have Y : mH D E (mA E h q sz) s.heap h q I J B G H locs := Y
  have hl : lv_has ls 8 [(0, .ref h), (1, .int a1), (2, .int a2), (3, .int a3), (4, .int a4), (5, .int a5)] := hl
  refine lv_aload_n X.1 X.2.1 d_feed_0 rfl (lv_at hl 0 rfl) ?_
  refine m_get X Y 2 (by decide) lk_length (gf_length _ _ _) rfl d_feed_1 ?_
  refine t_eq (show I 2 = nI (n) from hn) ?_
  refine lv_bipush (v := (nI 20)) X.1 X.2.1 d_feed_4 (by decide) ?_
  refine lv_iadd X.1 X.2.1 d_feed_6 ?_
  refine t_eq (y := nI (n + 20)) (nI_add _ _) ?_
  refine lv_sipush (v := (nI 4000)) X.1 X.2.1 d_feed_7 (by decide) ?_
  refine lv_icmp_le (tgt := 15) X.1 X.2.1 d_feed_10 (by decide) (fun c1 => ?_) (fun c1 => ?_)
  · skip
    rw [nI_leI (by omega) (by omega)] at c1
    refine lv_iconst (v := (nI 0)) X.1 X.2.1 d_feed_15 (by decide) ?_
    refine lv_istore (lv' := [(6, .int (nI 0)), (0, .ref h), (1, .int a1), (2, .int a2), (3, .int a3), (4, .int a4), (5, .int a5)]) X.1 X.2.1 d_feed_16 hl (by decide) rfl (fun ls hl => ?_)
    have lp5 : ∀ (n2 i3 : Nat) (I6 : Nat → Int32) (B7 : Nat → Nat → Int32) (H : Heap) (locs : List Loc) (ls : Array Slot), i3 + n2 = 20 → 0 ≤ i3 → (∀ j, j ≠ 0 → B7 j = B j) → (∀ j, j ≠ 2 → I6 j = I j) → I6 2 = nI (n + i3) → mH D E (mA E h q sz) s.heap h q I6 J B7 G H locs → lv_has ls 8 [(6, .int (nI i3)), (0, .ref h), (1, .int a1), (2, .int a2), (3, .int a3), (4, .int a4), (5, .int a5)] → W p l e (mR 0 0) s m AV below meth c H locs 0 0 QQ (F0 m 18 ls []) := by
      intro n2
      induction n2 with
      | zero =>
        intro i3 I6 B7 H locs ls hii3 hsi3 hB8 hI9 hk10  Y hl
        refine lv_iload X.1 X.2.1 d_feed_18 (lv_at hl 0 rfl) ?_
        refine lv_bipush (v := (nI 20)) X.1 X.2.1 d_feed_20 (by decide) ?_
        refine lv_icmp_ge (tgt := 112) X.1 X.2.1 d_feed_22 (by decide) (fun c11 => ?_) (fun c11 => absurd ?_ c11)
        rotate_left
        · (rw [nI_leI (by omega) (by omega)] <;> omega)
        rw [nI_leI (by omega) (by omega)] at c11
        refine lv_iconst (v := (nI 1)) X.1 X.2.1 d_feed_112 (by decide) ?_
        exact m_retz hQQ X Y hr hlk rfl ⟨(fun j h2 => (hI9 j h2)), rfl, (fun j h0 => (hB8 j h0)), rfl, ⟨fun _ => ⟨rfl, (show I6 2 = nI (n + i3) from hk10).trans (congrArg nI (show (n + i3 : Nat) = n + 20 by omega))⟩, fun h9 => absurd (show n + 20 ≤ 4000 by omega) h9⟩⟩ d_feed_113
      | succ n2 ih4 =>
        intro i3 I6 B7 H locs ls hii3 hsi3 hB8 hI9 hk10  Y hl
        refine lv_iload X.1 X.2.1 d_feed_18 (lv_at hl 0 rfl) ?_
        refine lv_bipush (v := (nI 20)) X.1 X.2.1 d_feed_20 (by decide) ?_
        refine lv_icmp_ge (tgt := 112) X.1 X.2.1 d_feed_22 (by decide) (fun c12 => absurd c12 ?_) (fun c12 => ?_)
        · (rw [nI_leI (by omega) (by omega)] <;> omega)
        rw [nI_leI (by omega) (by omega)] at c12
        have jn14 : ∀ w13 : Int32, W p l e (mR 0 0) s m AV below meth c H locs 0 0 QQ (F0 m 71 ls [.int w13]) := by
          intro w13
          refine lv_istore (lv' := [(7, .int w13), (6, .int (nI i3)), (0, .ref h), (1, .int a1), (2, .int a2), (3, .int a3), (4, .int a4), (5, .int a5)]) X.1 X.2.1 d_feed_71 hl (by decide) rfl (fun ls hl => ?_)
          refine lv_aload_n X.1 X.2.1 d_feed_73 rfl (lv_at hl 2 rfl) ?_
          refine m_get X Y 0 (by decide) lk_mem (gf_mem _ _ _) rfl d_feed_74 ?_
          refine lv_aload_n X.1 X.2.1 d_feed_77 rfl (lv_at hl 2 rfl) ?_
          refine m_get X Y 2 (by decide) lk_length (gf_length _ _ _) rfl d_feed_78 ?_
          refine t_eq (show I6 2 = nI (n + i3) from hk10) ?_
          refine lv_iload X.1 X.2.1 d_feed_81 (lv_at hl 0 rfl) ?_
          refine lv_bipush (v := (nI 24)) X.1 X.2.1 d_feed_83 (by decide) ?_
          refine lv_bipush (v := (nI 8)) X.1 X.2.1 d_feed_85 (by decide) ?_
          refine lv_iload X.1 X.2.1 d_feed_87 (lv_at hl 1 rfl) ?_
          refine lv_iconst (v := (nI 4)) X.1 X.2.1 d_feed_89 (by decide) ?_
          refine lv_irem X.1 X.2.1 d_feed_90 (nI_ne0 (by omega) (by omega)) ?_
          refine t_eq (y := nI ((i3) % (4))) (pk_rem (by omega) (by omega) (by omega)) ?_
          refine lv_imul X.1 X.2.1 d_feed_91 ?_
          refine t_eq (y := nI ((8) * ((i3) % (4)))) (pk_mul _ _) ?_
          refine lv_isub X.1 X.2.1 d_feed_92 ?_
          refine t_eq (y := nI (24 - ((8) * ((i3) % (4))))) (pk_sub (by omega)) ?_
          refine lv_ishr X.1 X.2.1 d_feed_93 ?_
          refine t_any (fun v15 => ?_)
          obtain ⟨v16, ev16⟩ : ∃ z : Int32, (v15 : Int32).toInt8.toInt32 = z := ⟨_, rfl⟩
          refine lv_i2b (v := v16) X.1 X.2.1 d_feed_94 ev16 ?_
          refine m_bast X Y (aw_mem _ _ _ _ _ _ _) (vp_in_nI (by omega) (by decide)) (sw_mem _ _ _ _ _ _ _ _) d_feed_95 (fun H locs Y => ?_)
          generalize (upd (B7 0) ((nI (n + i3))).toNatClampNeg (vp_nar .byte v16)) = f17 at Y
          refine lv_aload_n X.1 X.2.1 d_feed_96 rfl (lv_at hl 2 rfl) ?_
          refine lv_dup X.1 X.2.1 d_feed_97 rfl ?_
          refine m_get X Y 2 (by decide) lk_length (gf_length _ _ _) rfl d_feed_98 ?_
          refine t_eq (show I6 2 = nI (n + i3) from hk10) ?_
          refine lv_iconst (v := (nI 1)) X.1 X.2.1 d_feed_101 (by decide) ?_
          refine lv_iadd X.1 X.2.1 d_feed_102 ?_
          refine t_eq (y := nI (n + i3 + 1)) (nI_add _ _) ?_
          refine m_puti X Y 2 (by decide) lk_length rfl rfl (t_M_ok 2 (by decide)) rfl rfl (sf_length _ _ _ _) (Nat.le_of_ble_eq_true rfl) d_feed_103 (fun H locs Y => ?_)
          refine lv_iinc (v := (nI (i3 + 1))) (lv' := [(6, .int (nI (i3 + 1))), (7, .int w13), (0, .ref h), (1, .int a1), (2, .int a2), (3, .int a3), (4, .int a4), (5, .int a5)]) X.1 X.2.1 d_feed_106 hl (k := 1) rfl (nI_add _ 1) (by decide) rfl (fun ls hl => ?_)
          refine lv_goto (tgt := 18) X.1 X.2.1 d_feed_109 (by decide) ?_
          exact ih4 (i3 + 1) (upd I6 2 (nI (n + i3 + 1))) (upB B7 0 f17) _ _ _ (by omega) (by omega) (fun j h0 => ((if_neg h0).trans (hB8 j h0))) (fun j h2 => ((if_neg h2).trans (hI9 j h2))) ((show (upd I6 2 (nI (n + i3 + 1))) 2 = nI (n + i3 + 1) from pk_us).trans (congrArg nI (show (n + i3 + 1 : Nat) = n + (i3 + 1) by omega)))  Y (lv_sub hl [0, 2, 3, 4, 5, 6, 7] rfl)
        refine lv_iload X.1 X.2.1 d_feed_25 (lv_at hl 0 rfl) ?_
        refine lv_iconst (v := (nI 4)) X.1 X.2.1 d_feed_27 (by decide) ?_
        refine lv_icmp_ge (tgt := 35) X.1 X.2.1 d_feed_28 (by decide) (fun c18 => ?_) (fun c18 => ?_)
        · skip
          rw [nI_leI (by omega) (by omega)] at c18
          refine lv_iload X.1 X.2.1 d_feed_35 (lv_at hl 0 rfl) ?_
          refine lv_bipush (v := (nI 8)) X.1 X.2.1 d_feed_37 (by decide) ?_
          refine lv_icmp_ge (tgt := 46) X.1 X.2.1 d_feed_39 (by decide) (fun c19 => ?_) (fun c19 => ?_)
          · skip
            rw [nI_leI (by omega) (by omega)] at c19
            refine lv_iload X.1 X.2.1 d_feed_46 (lv_at hl 0 rfl) ?_
            refine lv_bipush (v := (nI 12)) X.1 X.2.1 d_feed_48 (by decide) ?_
            refine lv_icmp_ge (tgt := 57) X.1 X.2.1 d_feed_50 (by decide) (fun c20 => ?_) (fun c20 => ?_)
            · skip
              rw [nI_leI (by omega) (by omega)] at c20
              refine lv_iload X.1 X.2.1 d_feed_57 (lv_at hl 0 rfl) ?_
              refine lv_bipush (v := (nI 16)) X.1 X.2.1 d_feed_59 (by decide) ?_
              refine lv_icmp_ge (tgt := 69) X.1 X.2.1 d_feed_61 (by decide) (fun c21 => ?_) (fun c21 => ?_)
              · skip
                rw [nI_leI (by omega) (by omega)] at c21
                refine lv_iload X.1 X.2.1 d_feed_69 (lv_at hl 6 rfl) ?_
                exact jn14 _
              · skip
                rw [nI_leI (by omega) (by omega)] at c21
                refine lv_iload X.1 X.2.1 d_feed_64 (lv_at hl 5 rfl) ?_
                refine lv_goto (tgt := 71) X.1 X.2.1 d_feed_66 (by decide) ?_
                exact jn14 _
            · skip
              rw [nI_leI (by omega) (by omega)] at c20
              refine lv_iload_n X.1 X.2.1 d_feed_53 rfl (lv_at hl 4 rfl) ?_
              refine lv_goto (tgt := 71) X.1 X.2.1 d_feed_54 (by decide) ?_
              exact jn14 _
          · skip
            rw [nI_leI (by omega) (by omega)] at c19
            refine lv_iload_n X.1 X.2.1 d_feed_42 rfl (lv_at hl 3 rfl) ?_
            refine lv_goto (tgt := 71) X.1 X.2.1 d_feed_43 (by decide) ?_
            exact jn14 _
        · skip
          rw [nI_leI (by omega) (by omega)] at c18
          refine lv_iload_n X.1 X.2.1 d_feed_31 rfl (lv_at hl 2 rfl) ?_
          refine lv_goto (tgt := 71) X.1 X.2.1 d_feed_32 (by decide) ?_
          exact jn14 _
    exact lp5 (20) 0 I B _ _ _ (by omega) (by omega) (fun j h0 => rfl) (fun j h2 => rfl) ((show I 2 = nI (n) from hn).trans (congrArg nI (show (n : Nat) = n + 0 by omega)))  Y (lv_sub hl [0, 1, 2, 3, 4, 5, 6] rfl)
  · skip
    rw [nI_leI (by omega) (by omega)] at c1
    refine lv_iconst (v := (nI 0)) X.1 X.2.1 d_feed_13 (by decide) ?_
    exact m_retz hQQ X Y hr hlk rfl ⟨(fun j h2 => rfl), rfl, (fun j h0 => rfl), rfl, ⟨fun h9 => absurd h9 (by omega), fun _ => ⟨rfl, hn⟩⟩⟩ d_feed_14
set_option maxHeartbeats 4000000 in
set_option maxRecDepth 100000 in
theorem c_seed (l : Launch) (D : mD) (E : mE) (h : Nat) (q : Nat → Nat) (sz : Nat) (I : Nat → Int32) (J : Nat → Int64) (B : Nat → Nat → Int32) (G : Nat → Nat → Int64) (n : Nat) (hn : I 2 = nI n) (hn2 : n ≤ 4000) : Met l y_seed (k_seed :: lw_tg) (mR 0 0) (va_Pc [.ref h] (mPre D E h q (I, J, B, G) sz)) (va_Qi (fun (r : Int32) (u : mS) => (∀ j, j ≠ 2 → j ≠ 32 → j ≠ 33 → u.1 j = I j) ∧ u.2.1 = J ∧ (∀ j, j ≠ 31 → u.2.2.1 j = B j) ∧ u.2.2.2 = G ∧ ((n ≤ 64 → r = nI 1 ∧ u.1 2 = nI 0 ∧ u.1 32 = nI n ∧ u.1 33 = nI 0) ∧ (¬ n ≤ 64 → r = nI 0 ∧ u.1 2 = nI n ∧ u.1 32 = I 32 ∧ u.1 33 = I 33))) (mPost D E h q (mA E h q sz)) (mA E h q sz)) 0 0 (mA E h q sz) := by
  refine m_enter (by decide) rfl (Nat.le_of_ble_eq_true rfl) (fun p e s m below meth c ls AV QQ H locs hQQ X Y hZ hA hr hlk hml hl => ?_)
  have Y : mH D E (mA E h q sz) s.heap h q I J B G H locs := Y
  have hl : lv_has ls 2 [(0, .ref h)] := hl
  refine lv_aload_n X.1 X.2.1 d_seed_0 rfl (lv_at hl 0 rfl) ?_
  refine m_get X Y 2 (by decide) lk_length (gf_length _ _ _) rfl d_seed_1 ?_
  refine t_eq (show I 2 = nI (n) from hn) ?_
  refine lv_bipush (v := (nI 64)) X.1 X.2.1 d_seed_4 (by decide) ?_
  refine lv_icmp_le (tgt := 11) X.1 X.2.1 d_seed_6 (by decide) (fun c1 => ?_) (fun c1 => ?_)
  · skip
    rw [nI_leI (by omega) (by omega)] at c1
    refine lv_iconst (v := (nI 0)) X.1 X.2.1 d_seed_11 (by decide) ?_
    refine lv_istore_n (lv' := [(1, .int (nI 0)), (0, .ref h)]) X.1 X.2.1 d_seed_12 rfl hl (by decide) rfl (fun ls hl => ?_)
    have lp5 : ∀ (n2 i3 : Nat) (B6 : Nat → Nat → Int32) (H : Heap) (locs : List Loc) (ls : Array Slot), i3 + n2 = n → 0 ≤ i3 → (∀ j, j ≠ 31 → B6 j = B j) → mH D E (mA E h q sz) s.heap h q I J B6 G H locs → lv_has ls 2 [(1, .int (nI i3)), (0, .ref h)] → W p l e (mR 0 0) s m AV below meth c H locs 0 0 QQ (F0 m 13 ls []) := by
      intro n2
      induction n2 with
      | zero =>
        intro i3 B6 H locs ls hii3 hsi3 hB7  Y hl
        refine lv_iload_n X.1 X.2.1 d_seed_13 rfl (lv_at hl 0 rfl) ?_
        refine lv_aload_n X.1 X.2.1 d_seed_14 rfl (lv_at hl 1 rfl) ?_
        refine m_get X Y 2 (by decide) lk_length (gf_length _ _ _) rfl d_seed_15 ?_
        refine t_eq (show I 2 = nI (n) from hn) ?_
        refine lv_icmp_ge (tgt := 39) X.1 X.2.1 d_seed_18 (by decide) (fun c8 => ?_) (fun c8 => absurd ?_ c8)
        rotate_left
        · (rw [nI_leI (by omega) (by omega)] <;> omega)
        rw [nI_leI (by omega) (by omega)] at c8
        refine lv_aload_n X.1 X.2.1 d_seed_39 rfl (lv_at hl 1 rfl) ?_
        refine lv_aload_n X.1 X.2.1 d_seed_40 rfl (lv_at hl 1 rfl) ?_
        refine m_get X Y 2 (by decide) lk_length (gf_length _ _ _) rfl d_seed_41 ?_
        refine t_eq (show I 2 = nI (n) from hn) ?_
        refine m_puti X Y 32 (by decide) lk_seedMany rfl rfl (t_M_ok 32 (by decide)) rfl rfl (sf_seedMany _ _ _ _) (Nat.le_of_ble_eq_true rfl) d_seed_44 (fun H locs Y => ?_)
        refine lv_aload_n X.1 X.2.1 d_seed_47 rfl (lv_at hl 1 rfl) ?_
        refine lv_iconst (v := (nI 0)) X.1 X.2.1 d_seed_48 (by decide) ?_
        refine m_puti X Y 2 (by decide) lk_length rfl rfl (t_M_ok 2 (by decide)) rfl rfl (sf_length _ _ _ _) (Nat.le_of_ble_eq_true rfl) d_seed_49 (fun H locs Y => ?_)
        refine lv_aload_n X.1 X.2.1 d_seed_52 rfl (lv_at hl 1 rfl) ?_
        refine lv_iconst (v := (nI 0)) X.1 X.2.1 d_seed_53 (by decide) ?_
        refine m_puti X Y 33 (by decide) lk_coin rfl rfl (t_M_ok 33 (by decide)) rfl rfl (sf_coin _ _ _ _) (Nat.le_of_ble_eq_true rfl) d_seed_54 (fun H locs Y => ?_)
        refine lv_iconst (v := (nI 1)) X.1 X.2.1 d_seed_57 (by decide) ?_
        exact m_retz hQQ X Y hr hlk rfl ⟨(fun j h2 h32 h33 => ((if_neg h33).trans ((if_neg h2).trans ((if_neg h32).trans rfl)))), rfl, (fun j h31 => (hB7 j h31)), rfl, ⟨fun _ => ⟨rfl, (show (upd (upd (upd I 32 (nI (n))) 2 (nI 0)) 33 (nI 0)) 2 = nI (0) from (show (upd (upd (upd I 32 (nI (n))) 2 (nI 0)) 33 (nI 0)) 2 = nI (0) from ((pk_un (by decide)).trans pk_us))), (show (upd (upd (upd I 32 (nI (n))) 2 (nI 0)) 33 (nI 0)) 32 = nI (n) from (show (upd (upd (upd I 32 (nI (n))) 2 (nI 0)) 33 (nI 0)) 32 = nI (n) from ((pk_un (by decide)).trans ((pk_un (by decide)).trans pk_us)))), (show (upd (upd (upd I 32 (nI (n))) 2 (nI 0)) 33 (nI 0)) 33 = nI (0) from (show (upd (upd (upd I 32 (nI (n))) 2 (nI 0)) 33 (nI 0)) 33 = nI (0) from pk_us))⟩, fun h9 => absurd (show n ≤ 64 by omega) h9⟩⟩ d_seed_58
      | succ n2 ih4 =>
        intro i3 B6 H locs ls hii3 hsi3 hB7  Y hl
        refine lv_iload_n X.1 X.2.1 d_seed_13 rfl (lv_at hl 0 rfl) ?_
        refine lv_aload_n X.1 X.2.1 d_seed_14 rfl (lv_at hl 1 rfl) ?_
        refine m_get X Y 2 (by decide) lk_length (gf_length _ _ _) rfl d_seed_15 ?_
        refine t_eq (show I 2 = nI (n) from hn) ?_
        refine lv_icmp_ge (tgt := 39) X.1 X.2.1 d_seed_18 (by decide) (fun c9 => absurd c9 ?_) (fun c9 => ?_)
        · (rw [nI_leI (by omega) (by omega)] <;> omega)
        rw [nI_leI (by omega) (by omega)] at c9
        refine lv_aload_n X.1 X.2.1 d_seed_21 rfl (lv_at hl 1 rfl) ?_
        refine m_get X Y 31 (by decide) lk_seed (gf_seed _ _ _) rfl d_seed_22 ?_
        refine lv_iload_n X.1 X.2.1 d_seed_25 rfl (lv_at hl 0 rfl) ?_
        refine lv_aload_n X.1 X.2.1 d_seed_26 rfl (lv_at hl 1 rfl) ?_
        refine m_get X Y 0 (by decide) lk_mem (gf_mem _ _ _) rfl d_seed_27 ?_
        refine lv_iload_n X.1 X.2.1 d_seed_30 rfl (lv_at hl 0 rfl) ?_
        refine m_bald X Y (aw_mem _ _ _ _ _ _ _) (vp_in_nI (by omega) (by decide)) d_seed_31 ?_
        refine t_any (fun v10 => ?_)
        refine m_bast X Y (aw_seed _ _ _ _ _ _ _) (vp_in_nI (by omega) (by decide)) (sw_seed _ _ _ _ _ _ _ _) d_seed_32 (fun H locs Y => ?_)
        generalize (upd (B6 31) ((nI i3)).toNatClampNeg (vp_nar .byte v10)) = f11 at Y
        refine lv_iinc (v := (nI (i3 + 1))) (lv' := [(1, .int (nI (i3 + 1))), (0, .ref h)]) X.1 X.2.1 d_seed_33 hl (k := 0) rfl (nI_add _ 1) (by decide) rfl (fun ls hl => ?_)
        refine lv_goto (tgt := 13) X.1 X.2.1 d_seed_36 (by decide) ?_
        exact ih4 (i3 + 1) (upB B6 31 f11) _ _ _ (by omega) (by omega) (fun j h31 => ((if_neg h31).trans (hB7 j h31)))  Y (lv_sub hl [0, 1] rfl)
    exact lp5 (n) 0 B _ _ _ (by omega) (by omega) (fun j h31 => rfl)  Y (lv_sub hl [0, 1] rfl)
  · skip
    rw [nI_leI (by omega) (by omega)] at c1
    refine lv_iconst (v := (nI 0)) X.1 X.2.1 d_seed_9 (by decide) ?_
    exact m_retz hQQ X Y hr hlk rfl ⟨(fun j h2 h32 h33 => rfl), rfl, (fun j h31 => rfl), rfl, ⟨fun h9 => absurd h9 (by omega), fun _ => ⟨rfl, hn, rfl, rfl⟩⟩⟩ d_seed_10
set_option maxHeartbeats 4000000 in
set_option maxRecDepth 100000 in
theorem c_carry (l : Launch) (D : mD) (E : mE) (h : Nat) (q : Nat → Nat) (sz : Nat) (I : Nat → Int32) (J : Nat → Int64) (B : Nat → Nat → Int32) (G : Nat → Nat → Int64) (a1 a2 : Int32) (n : Nat) (hn : I 3 = nI n) (hn2 : n ≤ 20000) : Met l y_carry (k_carry :: lw_tg) (mR 0 0) (va_Pc [.ref h, .int a1, .int a2] (mPre D E h q (I, J, B, G) sz)) (va_Qi (fun (r : Int32) (u : mS) => (∀ j, j ≠ 2 → u.1 j = I j) ∧ u.2.1 = J ∧ (∀ j, j ≠ 0 → u.2.2.1 j = B j) ∧ u.2.2.2 = G ∧ (r = nI (min n 4000) ∧ u.1 2 = nI (min n 4000))) (mPost D E h q (mA E h q sz)) (mA E h q sz)) 0 0 (mA E h q sz) := by
  refine m_enter (by decide) rfl (Nat.le_of_ble_eq_true rfl) (fun p e s m below meth c ls AV QQ H locs hQQ X Y hZ hA hr hlk hml hl => ?_)
  have Y : mH D E (mA E h q sz) s.heap h q I J B G H locs := Y
  have hl : lv_has ls 5 [(0, .ref h), (1, .int a1), (2, .int a2)] := hl
  have jn1 : ∀ (k : Nat), k = min n 4000 → W p l e (mR 0 0) s m AV below meth c H locs 0 0 QQ (F0 m 20 ls [.int (nI k)]) := by
    intro k hk
    refine lv_istore_n (lv' := [(3, .int (nI k)), (0, .ref h), (1, .int a1), (2, .int a2)]) X.1 X.2.1 d_carry_20 rfl hl (by decide) rfl (fun ls hl => ?_)
    refine lv_iconst (v := (nI 0)) X.1 X.2.1 d_carry_21 (by decide) ?_
    refine lv_istore (lv' := [(4, .int (nI 0)), (3, .int (nI k)), (0, .ref h), (1, .int a1), (2, .int a2)]) X.1 X.2.1 d_carry_22 hl (by decide) rfl (fun ls hl => ?_)
    have lp5 : ∀ (n2 i3 : Nat) (B6 : Nat → Nat → Int32) (H : Heap) (locs : List Loc) (ls : Array Slot), i3 + n2 = k → 0 ≤ i3 → (∀ j, j ≠ 0 → B6 j = B j) → mH D E (mA E h q sz) s.heap h q I J B6 G H locs → lv_has ls 5 [(4, .int (nI i3)), (3, .int (nI k)), (0, .ref h), (1, .int a1), (2, .int a2)] → W p l e (mR 0 0) s m AV below meth c H locs 0 0 QQ (F0 m 24 ls []) := by
      intro n2
      induction n2 with
      | zero =>
        intro i3 B6 H locs ls hii3 hsi3 hB7  Y hl
        refine lv_iload X.1 X.2.1 d_carry_24 (lv_at hl 0 rfl) ?_
        refine lv_iload_n X.1 X.2.1 d_carry_26 rfl (lv_at hl 1 rfl) ?_
        refine lv_icmp_ge (tgt := 69) X.1 X.2.1 d_carry_27 (by decide) (fun c8 => ?_) (fun c8 => absurd ?_ c8)
        rotate_left
        · (rw [nI_leI (by omega) (by omega)] <;> omega)
        rw [nI_leI (by omega) (by omega)] at c8
        refine lv_aload_n X.1 X.2.1 d_carry_69 rfl (lv_at hl 2 rfl) ?_
        refine lv_iload_n X.1 X.2.1 d_carry_70 rfl (lv_at hl 1 rfl) ?_
        refine m_puti X Y 2 (by decide) lk_length rfl rfl (t_M_ok 2 (by decide)) rfl rfl (sf_length _ _ _ _) (Nat.le_of_ble_eq_true rfl) d_carry_71 (fun H locs Y => ?_)
        refine lv_iload_n X.1 X.2.1 d_carry_74 rfl (lv_at hl 1 rfl) ?_
        exact m_reti hQQ X Y hr hlk ⟨(fun j h2 => ((if_neg h2).trans rfl)), rfl, (fun j h0 => (hB7 j h0)), rfl, ⟨congrArg nI hk, (show (upd I 2 (nI k)) 2 = nI k from pk_us).trans (congrArg nI hk)⟩⟩ d_carry_75
      | succ n2 ih4 =>
        intro i3 B6 H locs ls hii3 hsi3 hB7  Y hl
        refine lv_iload X.1 X.2.1 d_carry_24 (lv_at hl 0 rfl) ?_
        refine lv_iload_n X.1 X.2.1 d_carry_26 rfl (lv_at hl 1 rfl) ?_
        refine lv_icmp_ge (tgt := 69) X.1 X.2.1 d_carry_27 (by decide) (fun c9 => absurd c9 ?_) (fun c9 => ?_)
        · (rw [nI_leI (by omega) (by omega)] <;> omega)
        rw [nI_leI (by omega) (by omega)] at c9
        refine lv_aload_n X.1 X.2.1 d_carry_30 rfl (lv_at hl 2 rfl) ?_
        refine m_get X Y 0 (by decide) lk_mem (gf_mem _ _ _) rfl d_carry_31 ?_
        refine lv_iload X.1 X.2.1 d_carry_34 (lv_at hl 0 rfl) ?_
        have jn11 : ∀ w10 : Int32, W p l e (mR 0 0) s m AV below meth c H locs 0 0 QQ (F0 m 62 ls [.int w10, .int (nI i3), .ref (q 0)]) := by
          intro w10
          refine m_bast X Y (aw_mem _ _ _ _ _ _ _) (vp_in_nI (by omega) (by decide)) (sw_mem _ _ _ _ _ _ _ _) d_carry_62 (fun H locs Y => ?_)
          generalize (upd (B6 0) ((nI i3)).toNatClampNeg (vp_nar .byte w10)) = f12 at Y
          refine lv_iinc (v := (nI (i3 + 1))) (lv' := [(4, .int (nI (i3 + 1))), (3, .int (nI k)), (0, .ref h), (1, .int a1), (2, .int a2)]) X.1 X.2.1 d_carry_63 hl (k := 0) rfl (nI_add _ 1) (by decide) rfl (fun ls hl => ?_)
          refine lv_goto (tgt := 24) X.1 X.2.1 d_carry_66 (by decide) ?_
          exact ih4 (i3 + 1) (upB B6 0 f12) _ _ _ (by omega) (by omega) (fun j h0 => ((if_neg h0).trans (hB7 j h0)))  Y (lv_sub hl [0, 1, 2, 3, 4] rfl)
        refine lv_iload X.1 X.2.1 d_carry_36 (lv_at hl 0 rfl) ?_
        refine lv_iload_n X.1 X.2.1 d_carry_38 rfl (lv_at hl 3 rfl) ?_
        refine lv_icmp_ne (tgt := 55) X.1 X.2.1 d_carry_39 (by decide) (fun c13 => ?_) (fun c13 => ?_)
        · skip
          refine lv_aload_n X.1 X.2.1 d_carry_55 rfl (lv_at hl 2 rfl) ?_
          refine m_get X Y 1 (by decide) lk_outs (gf_outs _ _ _) rfl d_carry_56 ?_
          refine lv_iload X.1 X.2.1 d_carry_59 (lv_at hl 0 rfl) ?_
          refine m_bald X Y (aw_outs _ _ _ _ _ _ _) (vp_in_nI (by omega) (by decide)) d_carry_61 ?_
          refine t_any (fun v14 => ?_)
          exact jn11 _
        · skip
          refine lv_aload_n X.1 X.2.1 d_carry_42 rfl (lv_at hl 2 rfl) ?_
          refine m_get X Y 1 (by decide) lk_outs (gf_outs _ _ _) rfl d_carry_43 ?_
          refine lv_iload X.1 X.2.1 d_carry_46 (lv_at hl 0 rfl) ?_
          refine m_bald X Y (aw_outs _ _ _ _ _ _ _) (vp_in_nI (by omega) (by decide)) d_carry_48 ?_
          refine t_any (fun v15 => ?_)
          refine lv_iload_n X.1 X.2.1 d_carry_49 rfl (lv_at hl 4 rfl) ?_
          refine lv_ixor X.1 X.2.1 d_carry_50 ?_
          refine t_any (fun v16 => ?_)
          obtain ⟨v17, ev17⟩ : ∃ z : Int32, (v16 : Int32).toInt8.toInt32 = z := ⟨_, rfl⟩
          refine lv_i2b (v := v17) X.1 X.2.1 d_carry_51 ev17 ?_
          refine lv_goto (tgt := 62) X.1 X.2.1 d_carry_52 (by decide) ?_
          exact jn11 _
    exact lp5 (k) 0 B _ _ _ (by omega) (by omega) (fun j h0 => rfl)  Y (lv_sub hl [0, 1, 2, 3, 4] rfl)
  refine lv_aload_n X.1 X.2.1 d_carry_0 rfl (lv_at hl 0 rfl) ?_
  refine m_get X Y 3 (by decide) lk_outMany (gf_outMany _ _ _) rfl d_carry_1 ?_
  refine t_eq (show I 3 = nI (n) from hn) ?_
  refine lv_sipush (v := (nI 4000)) X.1 X.2.1 d_carry_4 (by decide) ?_
  refine lv_icmp_ge (tgt := 17) X.1 X.2.1 d_carry_7 (by decide) (fun c18 => ?_) (fun c18 => ?_)
  · skip
    rw [nI_leI (by omega) (by omega)] at c18
    refine lv_sipush (v := (nI 4000)) X.1 X.2.1 d_carry_17 (by decide) ?_
    exact jn1 (4000) (by omega)
  · skip
    rw [nI_leI (by omega) (by omega)] at c18
    refine lv_aload_n X.1 X.2.1 d_carry_10 rfl (lv_at hl 0 rfl) ?_
    refine m_get X Y 3 (by decide) lk_outMany (gf_outMany _ _ _) rfl d_carry_11 ?_
    refine t_eq (show I 3 = nI (n) from hn) ?_
    refine lv_goto (tgt := 20) X.1 X.2.1 d_carry_14 (by decide) ?_
    exact jn1 (n) (by omega)
end
section
section MLDCW
variable {p : Program} {l : Launch} {e : Env} {R : Room} {s : State} {m : MethodId} {args : Array Value} {below : List Frame} {meth : Method} {c : Code} {H : Heap} {locs : List Loc} {cells slots : Nat} {Q : State → Prop} {cc : ByteArray} {pc : Nat} {ls : Array Slot} {rest : List Value} {D : mD} {E : mE}
theorem m_ldcSW {i : Nat} (X : mX p c cc args s m D E) (hi : i < nZ) {ix : Nat} (hix : zX.getD i 0 = ix) (hdg : decode cc pc = .ok (.ldc_w ix, 3)) (k : W p l e R s m args below meth c H locs cells slots Q (F0 m (pc + 3) ls (.ref (D.2.1 i) :: rest))) : W p l e R s m args below meth c H locs cells slots Q (F0 m pc ls rest) := by
  intro T hT XX
  obtain ⟨t, a1, b1⟩ := k T hT XX
  have hz := X.2.2.2.2.2 i hi
  rw [hix] at hz
  exact ⟨t, XX.ldcStringW X.1 X.2.2.2.1 (text := zT.getD i "") (a := D.2.1 i) hz.1 hz.2 (g := F0 m pc ls rest) rfl (by rw [X.2.1]; exact hdg) t a1, b1⟩
end MLDCW
abbrev b_saltOf : ByteArray := prog_14_method_86_code
def y_saltOf : MethodName := ⟨R_M, "saltOf", "([BII)V"⟩
abbrev k_saltOf : Cond := .code y_saltOf b_saltOf 6 none
theorem ki_saltOf : k_saltOf ∈ lw_tg := in_t 1795 (by decide +kernel)
theorem ks_saltOf : Cond.instanceMethod y_saltOf ∈ lw_tg := in_t 1794 (by decide +kernel)
theorem kl_saltOf : Cond.methodLink R_M 623 y_saltOf ∈ lw_tg := in_t 1792 (by decide +kernel)
theorem d_saltOf_0 : decode b_saltOf 0 = .ok (.ldc_w 621, 3) := by decide +kernel
theorem d_saltOf_3 : decode b_saltOf 3 = .ok (.astore 4, 2) := by decide +kernel
theorem d_saltOf_5 : decode b_saltOf 5 = .ok (.aload_n 0, 1) := by decide +kernel
theorem d_saltOf_6 : decode b_saltOf 6 = .ok (.iconst 0, 1) := by decide +kernel
theorem d_saltOf_7 : decode b_saltOf 7 = .ok (.putfield 426, 3) := by decide +kernel
theorem d_saltOf_10 : decode b_saltOf 10 = .ok (.iconst 0, 1) := by decide +kernel
theorem d_saltOf_11 : decode b_saltOf 11 = .ok (.istore 5, 2) := by decide +kernel
theorem d_saltOf_13 : decode b_saltOf 13 = .ok (.iload 5, 2) := by decide +kernel
theorem d_saltOf_15 : decode b_saltOf 15 = .ok (.iconst 5, 1) := by decide +kernel
theorem d_saltOf_16 : decode b_saltOf 16 = .ok (.if_icmp .ge 24, 3) := by decide +kernel
theorem d_saltOf_19 : decode b_saltOf 19 = .ok (.aload_n 0, 1) := by decide +kernel
theorem d_saltOf_20 : decode b_saltOf 20 = .ok (.getfield 71, 3) := by decide +kernel
theorem d_saltOf_23 : decode b_saltOf 23 = .ok (.iload 5, 2) := by decide +kernel
theorem d_saltOf_25 : decode b_saltOf 25 = .ok (.aload 4, 2) := by decide +kernel
theorem d_saltOf_27 : decode b_saltOf 27 = .ok (.iload 5, 2) := by decide +kernel
theorem d_saltOf_29 : decode b_saltOf 29 = .ok (.invokevirtual 344, 3) := by decide +kernel
theorem d_saltOf_32 : decode b_saltOf 32 = .ok (.i2b, 1) := by decide +kernel
theorem d_saltOf_33 : decode b_saltOf 33 = .ok (.bastore, 1) := by decide +kernel
theorem d_saltOf_34 : decode b_saltOf 34 = .ok (.iinc 5 1, 3) := by decide +kernel
theorem d_saltOf_37 : decode b_saltOf 37 = .ok (.goto (-24), 3) := by decide +kernel
theorem d_saltOf_40 : decode b_saltOf 40 = .ok (.aload_n 0, 1) := by decide +kernel
theorem d_saltOf_41 : decode b_saltOf 41 = .ok (.iconst 5, 1) := by decide +kernel
theorem d_saltOf_42 : decode b_saltOf 42 = .ok (.putfield 426, 3) := by decide +kernel
theorem d_saltOf_45 : decode b_saltOf 45 = .ok (.iconst 0, 1) := by decide +kernel
theorem d_saltOf_46 : decode b_saltOf 46 = .ok (.istore 5, 2) := by decide +kernel
theorem d_saltOf_48 : decode b_saltOf 48 = .ok (.iload 5, 2) := by decide +kernel
theorem d_saltOf_50 : decode b_saltOf 50 = .ok (.iload_n 3, 1) := by decide +kernel
theorem d_saltOf_51 : decode b_saltOf 51 = .ok (.if_icmp .ge 48, 3) := by decide +kernel
theorem d_saltOf_54 : decode b_saltOf 54 = .ok (.aload_n 1, 1) := by decide +kernel
theorem d_saltOf_55 : decode b_saltOf 55 = .ok (.iload_n 2, 1) := by decide +kernel
theorem d_saltOf_56 : decode b_saltOf 56 = .ok (.iload 5, 2) := by decide +kernel
theorem d_saltOf_58 : decode b_saltOf 58 = .ok (.iadd, 1) := by decide +kernel
theorem d_saltOf_59 : decode b_saltOf 59 = .ok (.baload, 1) := by decide +kernel
theorem d_saltOf_60 : decode b_saltOf 60 = .ok (.bipush 47, 2) := by decide +kernel
theorem d_saltOf_62 : decode b_saltOf 62 = .ok (.if_icmp .ne 6, 3) := by decide +kernel
theorem d_saltOf_65 : decode b_saltOf 65 = .ok (.goto 28, 3) := by decide +kernel
theorem d_saltOf_68 : decode b_saltOf 68 = .ok (.aload_n 0, 1) := by decide +kernel
theorem d_saltOf_69 : decode b_saltOf 69 = .ok (.getfield 71, 3) := by decide +kernel
theorem d_saltOf_72 : decode b_saltOf 72 = .ok (.aload_n 0, 1) := by decide +kernel
theorem d_saltOf_73 : decode b_saltOf 73 = .ok (.getfield 426, 3) := by decide +kernel
theorem d_saltOf_76 : decode b_saltOf 76 = .ok (.aload_n 1, 1) := by decide +kernel
theorem d_saltOf_77 : decode b_saltOf 77 = .ok (.iload_n 2, 1) := by decide +kernel
theorem d_saltOf_78 : decode b_saltOf 78 = .ok (.iload 5, 2) := by decide +kernel
theorem d_saltOf_80 : decode b_saltOf 80 = .ok (.iadd, 1) := by decide +kernel
theorem d_saltOf_81 : decode b_saltOf 81 = .ok (.baload, 1) := by decide +kernel
theorem d_saltOf_82 : decode b_saltOf 82 = .ok (.bastore, 1) := by decide +kernel
theorem d_saltOf_83 : decode b_saltOf 83 = .ok (.aload_n 0, 1) := by decide +kernel
theorem d_saltOf_84 : decode b_saltOf 84 = .ok (.dup, 1) := by decide +kernel
theorem d_saltOf_85 : decode b_saltOf 85 = .ok (.getfield 426, 3) := by decide +kernel
theorem d_saltOf_88 : decode b_saltOf 88 = .ok (.iconst 1, 1) := by decide +kernel
theorem d_saltOf_89 : decode b_saltOf 89 = .ok (.iadd, 1) := by decide +kernel
theorem d_saltOf_90 : decode b_saltOf 90 = .ok (.putfield 426, 3) := by decide +kernel
theorem d_saltOf_93 : decode b_saltOf 93 = .ok (.iinc 5 1, 3) := by decide +kernel
theorem d_saltOf_96 : decode b_saltOf 96 = .ok (.goto (-48), 3) := by decide +kernel
theorem d_saltOf_99 : decode b_saltOf 99 = .ok (.return_, 1) := by decide +kernel
abbrev b_passwordRead : ByteArray := prog_14_method_85_code
def y_passwordRead : MethodName := ⟨R_M, "passwordRead", "(II)Z"⟩
abbrev k_passwordRead : Cond := .code y_passwordRead b_passwordRead 4 (some .boolean)
theorem ki_passwordRead : k_passwordRead ∈ lw_tg := in_t 1781 (by decide +kernel)
theorem ks_passwordRead : Cond.instanceMethod y_passwordRead ∈ lw_tg := in_t 1780 (by decide +kernel)
theorem kl_passwordRead : Cond.methodLink R_M 617 y_passwordRead ∈ lw_tg := in_t 1778 (by decide +kernel)
theorem d_passwordRead_0 : decode b_passwordRead 0 = .ok (.aload_n 0, 1) := by decide +kernel
theorem d_passwordRead_1 : decode b_passwordRead 1 = .ok (.iload_n 2, 1) := by decide +kernel
theorem d_passwordRead_2 : decode b_passwordRead 2 = .ok (.iload_n 1, 1) := by decide +kernel
theorem d_passwordRead_3 : decode b_passwordRead 3 = .ok (.isub, 1) := by decide +kernel
theorem d_passwordRead_4 : decode b_passwordRead 4 = .ok (.putfield 418, 3) := by decide +kernel
theorem d_passwordRead_7 : decode b_passwordRead 7 = .ok (.aload_n 0, 1) := by decide +kernel
theorem d_passwordRead_8 : decode b_passwordRead 8 = .ok (.getfield 418, 3) := by decide +kernel
theorem d_passwordRead_11 : decode b_passwordRead 11 = .ok (.bipush 20, 2) := by decide +kernel
theorem d_passwordRead_13 : decode b_passwordRead 13 = .ok (.if_icmp .le 5, 3) := by decide +kernel
theorem d_passwordRead_16 : decode b_passwordRead 16 = .ok (.iconst 0, 1) := by decide +kernel
theorem d_passwordRead_17 : decode b_passwordRead 17 = .ok (.ireturn, 1) := by decide +kernel
theorem d_passwordRead_18 : decode b_passwordRead 18 = .ok (.iload_n 1, 1) := by decide +kernel
theorem d_passwordRead_19 : decode b_passwordRead 19 = .ok (.istore_n 3, 1) := by decide +kernel
theorem d_passwordRead_20 : decode b_passwordRead 20 = .ok (.iload_n 3, 1) := by decide +kernel
theorem d_passwordRead_21 : decode b_passwordRead 21 = .ok (.iload_n 2, 1) := by decide +kernel
theorem d_passwordRead_22 : decode b_passwordRead 22 = .ok (.if_icmp .ge 47, 3) := by decide +kernel
theorem d_passwordRead_25 : decode b_passwordRead 25 = .ok (.aload_n 0, 1) := by decide +kernel
theorem d_passwordRead_26 : decode b_passwordRead 26 = .ok (.getfield 10, 3) := by decide +kernel
theorem d_passwordRead_29 : decode b_passwordRead 29 = .ok (.iload_n 3, 1) := by decide +kernel
theorem d_passwordRead_30 : decode b_passwordRead 30 = .ok (.baload, 1) := by decide +kernel
theorem d_passwordRead_31 : decode b_passwordRead 31 = .ok (.bipush 32, 2) := by decide +kernel
theorem d_passwordRead_33 : decode b_passwordRead 33 = .ok (.if_icmp .lt 14, 3) := by decide +kernel
theorem d_passwordRead_36 : decode b_passwordRead 36 = .ok (.aload_n 0, 1) := by decide +kernel
theorem d_passwordRead_37 : decode b_passwordRead 37 = .ok (.getfield 10, 3) := by decide +kernel
theorem d_passwordRead_40 : decode b_passwordRead 40 = .ok (.iload_n 3, 1) := by decide +kernel
theorem d_passwordRead_41 : decode b_passwordRead 41 = .ok (.baload, 1) := by decide +kernel
theorem d_passwordRead_42 : decode b_passwordRead 42 = .ok (.bipush 126, 2) := by decide +kernel
theorem d_passwordRead_44 : decode b_passwordRead 44 = .ok (.if_icmp .le 5, 3) := by decide +kernel
theorem d_passwordRead_47 : decode b_passwordRead 47 = .ok (.iconst 0, 1) := by decide +kernel
theorem d_passwordRead_48 : decode b_passwordRead 48 = .ok (.ireturn, 1) := by decide +kernel
theorem d_passwordRead_49 : decode b_passwordRead 49 = .ok (.aload_n 0, 1) := by decide +kernel
theorem d_passwordRead_50 : decode b_passwordRead 50 = .ok (.getfield 74, 3) := by decide +kernel
theorem d_passwordRead_53 : decode b_passwordRead 53 = .ok (.iload_n 3, 1) := by decide +kernel
theorem d_passwordRead_54 : decode b_passwordRead 54 = .ok (.iload_n 1, 1) := by decide +kernel
theorem d_passwordRead_55 : decode b_passwordRead 55 = .ok (.isub, 1) := by decide +kernel
theorem d_passwordRead_56 : decode b_passwordRead 56 = .ok (.aload_n 0, 1) := by decide +kernel
theorem d_passwordRead_57 : decode b_passwordRead 57 = .ok (.getfield 10, 3) := by decide +kernel
theorem d_passwordRead_60 : decode b_passwordRead 60 = .ok (.iload_n 3, 1) := by decide +kernel
theorem d_passwordRead_61 : decode b_passwordRead 61 = .ok (.baload, 1) := by decide +kernel
theorem d_passwordRead_62 : decode b_passwordRead 62 = .ok (.bastore, 1) := by decide +kernel
theorem d_passwordRead_63 : decode b_passwordRead 63 = .ok (.iinc 3 1, 3) := by decide +kernel
theorem d_passwordRead_66 : decode b_passwordRead 66 = .ok (.goto (-46), 3) := by decide +kernel
theorem d_passwordRead_69 : decode b_passwordRead 69 = .ok (.iconst 1, 1) := by decide +kernel
theorem d_passwordRead_70 : decode b_passwordRead 70 = .ok (.ireturn, 1) := by decide +kernel
abbrev b_findName : ByteArray := prog_14_method_88_code
def y_findName : MethodName := ⟨R_M, "findName", "()I"⟩
abbrev k_findName : Cond := .code y_findName b_findName 4 (some .int)
theorem ki_findName : k_findName ∈ lw_tg := in_t 1785 (by decide +kernel)
theorem ks_findName : Cond.instanceMethod y_findName ∈ lw_tg := in_t 1784 (by decide +kernel)
theorem kl_findName : Cond.methodLink R_M 636 y_findName ∈ lw_tg := in_t 1782 (by decide +kernel)
theorem d_findName_0 : decode b_findName 0 = .ok (.iconst 0, 1) := by decide +kernel
theorem d_findName_1 : decode b_findName 1 = .ok (.istore_n 1, 1) := by decide +kernel
theorem d_findName_2 : decode b_findName 2 = .ok (.iload_n 1, 1) := by decide +kernel
theorem d_findName_3 : decode b_findName 3 = .ok (.aload_n 0, 1) := by decide +kernel
theorem d_findName_4 : decode b_findName 4 = .ok (.getfield 630, 3) := by decide +kernel
theorem d_findName_7 : decode b_findName 7 = .ok (.if_icmp .ge 80, 3) := by decide +kernel
theorem d_findName_10 : decode b_findName 10 = .ok (.aload_n 0, 1) := by decide +kernel
theorem d_findName_11 : decode b_findName 11 = .ok (.getfield 104, 3) := by decide +kernel
theorem d_findName_14 : decode b_findName 14 = .ok (.iload_n 1, 1) := by decide +kernel
theorem d_findName_15 : decode b_findName 15 = .ok (.iaload, 1) := by decide +kernel
theorem d_findName_16 : decode b_findName 16 = .ok (.aload_n 0, 1) := by decide +kernel
theorem d_findName_17 : decode b_findName 17 = .ok (.getfield 608, 3) := by decide +kernel
theorem d_findName_20 : decode b_findName 20 = .ok (.if_icmp .ne 7, 3) := by decide +kernel
theorem d_findName_23 : decode b_findName 23 = .ok (.iconst 1, 1) := by decide +kernel
theorem d_findName_24 : decode b_findName 24 = .ok (.goto 4, 3) := by decide +kernel
theorem d_findName_27 : decode b_findName 27 = .ok (.iconst 0, 1) := by decide +kernel
theorem d_findName_28 : decode b_findName 28 = .ok (.istore_n 2, 1) := by decide +kernel
theorem d_findName_29 : decode b_findName 29 = .ok (.iconst 0, 1) := by decide +kernel
theorem d_findName_30 : decode b_findName 30 = .ok (.istore_n 3, 1) := by decide +kernel
theorem d_findName_31 : decode b_findName 31 = .ok (.iload_n 3, 1) := by decide +kernel
theorem d_findName_32 : decode b_findName 32 = .ok (.aload_n 0, 1) := by decide +kernel
theorem d_findName_33 : decode b_findName 33 = .ok (.getfield 608, 3) := by decide +kernel
theorem d_findName_36 : decode b_findName 36 = .ok (.if_icmp .ge 39, 3) := by decide +kernel
theorem d_findName_39 : decode b_findName 39 = .ok (.iload_n 2, 1) := by decide +kernel
theorem d_findName_40 : decode b_findName 40 = .ok (.ifCond .eq 35, 3) := by decide +kernel
theorem d_findName_43 : decode b_findName 43 = .ok (.aload_n 0, 1) := by decide +kernel
theorem d_findName_44 : decode b_findName 44 = .ok (.getfield 101, 3) := by decide +kernel
theorem d_findName_47 : decode b_findName 47 = .ok (.bipush 40, 2) := by decide +kernel
theorem d_findName_49 : decode b_findName 49 = .ok (.iload_n 1, 1) := by decide +kernel
theorem d_findName_50 : decode b_findName 50 = .ok (.imul, 1) := by decide +kernel
theorem d_findName_51 : decode b_findName 51 = .ok (.iload_n 3, 1) := by decide +kernel
theorem d_findName_52 : decode b_findName 52 = .ok (.iadd, 1) := by decide +kernel
theorem d_findName_53 : decode b_findName 53 = .ok (.baload, 1) := by decide +kernel
theorem d_findName_54 : decode b_findName 54 = .ok (.aload_n 0, 1) := by decide +kernel
theorem d_findName_55 : decode b_findName 55 = .ok (.getfield 128, 3) := by decide +kernel
theorem d_findName_58 : decode b_findName 58 = .ok (.iload_n 3, 1) := by decide +kernel
theorem d_findName_59 : decode b_findName 59 = .ok (.baload, 1) := by decide +kernel
theorem d_findName_60 : decode b_findName 60 = .ok (.if_icmp .ne 7, 3) := by decide +kernel
theorem d_findName_63 : decode b_findName 63 = .ok (.iconst 1, 1) := by decide +kernel
theorem d_findName_64 : decode b_findName 64 = .ok (.goto 4, 3) := by decide +kernel
theorem d_findName_67 : decode b_findName 67 = .ok (.iconst 0, 1) := by decide +kernel
theorem d_findName_68 : decode b_findName 68 = .ok (.istore_n 2, 1) := by decide +kernel
theorem d_findName_69 : decode b_findName 69 = .ok (.iinc 3 1, 3) := by decide +kernel
theorem d_findName_72 : decode b_findName 72 = .ok (.goto (-41), 3) := by decide +kernel
theorem d_findName_75 : decode b_findName 75 = .ok (.iload_n 2, 1) := by decide +kernel
theorem d_findName_76 : decode b_findName 76 = .ok (.ifCond .eq 5, 3) := by decide +kernel
theorem d_findName_79 : decode b_findName 79 = .ok (.iload_n 1, 1) := by decide +kernel
theorem d_findName_80 : decode b_findName 80 = .ok (.ireturn, 1) := by decide +kernel
theorem d_findName_81 : decode b_findName 81 = .ok (.iinc 1 1, 3) := by decide +kernel
theorem d_findName_84 : decode b_findName 84 = .ok (.goto (-82), 3) := by decide +kernel
theorem d_findName_87 : decode b_findName 87 = .ok (.iconst (-1), 1) := by decide +kernel
theorem d_findName_88 : decode b_findName 88 = .ok (.ireturn, 1) := by decide +kernel
abbrev b_setKeys : ByteArray := prog_14_method_87_code
def y_setKeys : MethodName := ⟨R_M, "setKeys", "(II)V"⟩
abbrev k_setKeys : Cond := .code y_setKeys b_setKeys 5 none
theorem ki_setKeys : k_setKeys ∈ lw_tg := in_t 1791 (by decide +kernel)
theorem ks_setKeys : Cond.instanceMethod y_setKeys ∈ lw_tg := in_t 1790 (by decide +kernel)
theorem kl_setKeys : Cond.methodLink R_M 641 y_setKeys ∈ lw_tg := in_t 1788 (by decide +kernel)
theorem d_setKeys_0 : decode b_setKeys 0 = .ok (.aload_n 0, 1) := by decide +kernel
theorem d_setKeys_1 : decode b_setKeys 1 = .ok (.getfield 107, 3) := by decide +kernel
theorem d_setKeys_4 : decode b_setKeys 4 = .ok (.iload_n 1, 1) := by decide +kernel
theorem d_setKeys_5 : decode b_setKeys 5 = .ok (.dup2, 1) := by decide +kernel
theorem d_setKeys_6 : decode b_setKeys 6 = .ok (.iaload, 1) := by decide +kernel
theorem d_setKeys_7 : decode b_setKeys 7 = .ok (.iconst 1, 1) := by decide +kernel
theorem d_setKeys_8 : decode b_setKeys 8 = .ok (.iadd, 1) := by decide +kernel
theorem d_setKeys_9 : decode b_setKeys 9 = .ok (.iastore, 1) := by decide +kernel
theorem d_setKeys_10 : decode b_setKeys 10 = .ok (.aload_n 0, 1) := by decide +kernel
theorem d_setKeys_11 : decode b_setKeys 11 = .ok (.getfield 110, 3) := by decide +kernel
theorem d_setKeys_14 : decode b_setKeys 14 = .ok (.iload_n 1, 1) := by decide +kernel
theorem d_setKeys_15 : decode b_setKeys 15 = .ok (.iload_n 2, 1) := by decide +kernel
theorem d_setKeys_16 : decode b_setKeys 16 = .ok (.iastore, 1) := by decide +kernel
theorem d_setKeys_17 : decode b_setKeys 17 = .ok (.aload_n 0, 1) := by decide +kernel
theorem d_setKeys_18 : decode b_setKeys 18 = .ok (.aload_n 0, 1) := by decide +kernel
theorem d_setKeys_19 : decode b_setKeys 19 = .ok (.getfield 101, 3) := by decide +kernel
theorem d_setKeys_22 : decode b_setKeys 22 = .ok (.bipush 40, 2) := by decide +kernel
theorem d_setKeys_24 : decode b_setKeys 24 = .ok (.iload_n 1, 1) := by decide +kernel
theorem d_setKeys_25 : decode b_setKeys 25 = .ok (.imul, 1) := by decide +kernel
theorem d_setKeys_26 : decode b_setKeys 26 = .ok (.aload_n 0, 1) := by decide +kernel
theorem d_setKeys_27 : decode b_setKeys 27 = .ok (.getfield 104, 3) := by decide +kernel
theorem d_setKeys_30 : decode b_setKeys 30 = .ok (.iload_n 1, 1) := by decide +kernel
theorem d_setKeys_31 : decode b_setKeys 31 = .ok (.iaload, 1) := by decide +kernel
theorem d_setKeys_32 : decode b_setKeys 32 = .ok (.invokevirtual 623, 3) := by decide +kernel
theorem d_setKeys_35 : decode b_setKeys 35 = .ok (.iconst 0, 1) := by decide +kernel
theorem d_setKeys_36 : decode b_setKeys 36 = .ok (.istore_n 3, 1) := by decide +kernel
theorem d_setKeys_37 : decode b_setKeys 37 = .ok (.iload_n 3, 1) := by decide +kernel
theorem d_setKeys_38 : decode b_setKeys 38 = .ok (.iconst 2, 1) := by decide +kernel
theorem d_setKeys_39 : decode b_setKeys 39 = .ok (.if_icmp .ge 94, 3) := by decide +kernel
theorem d_setKeys_42 : decode b_setKeys 42 = .ok (.aload_n 0, 1) := by decide +kernel
theorem d_setKeys_43 : decode b_setKeys 43 = .ok (.iload_n 3, 1) := by decide +kernel
theorem d_setKeys_44 : decode b_setKeys 44 = .ok (.ifCond .ne 8, 3) := by decide +kernel
theorem d_setKeys_47 : decode b_setKeys 47 = .ok (.bipush 16, 2) := by decide +kernel
theorem d_setKeys_49 : decode b_setKeys 49 = .ok (.goto 5, 3) := by decide +kernel
theorem d_setKeys_52 : decode b_setKeys 52 = .ok (.bipush 32, 2) := by decide +kernel
theorem d_setKeys_54 : decode b_setKeys 54 = .ok (.iload_n 2, 1) := by decide +kernel
theorem d_setKeys_55 : decode b_setKeys 55 = .ok (.aload_n 0, 1) := by decide +kernel
theorem d_setKeys_56 : decode b_setKeys 56 = .ok (.getfield 131, 3) := by decide +kernel
theorem d_setKeys_59 : decode b_setKeys 59 = .ok (.invokevirtual 626, 3) := by decide +kernel
theorem d_setKeys_62 : decode b_setKeys 62 = .ok (.iconst 0, 1) := by decide +kernel
theorem d_setKeys_63 : decode b_setKeys 63 = .ok (.istore 4, 2) := by decide +kernel
theorem d_setKeys_65 : decode b_setKeys 65 = .ok (.iload 4, 2) := by decide +kernel
theorem d_setKeys_67 : decode b_setKeys 67 = .ok (.bipush 32, 2) := by decide +kernel
theorem d_setKeys_69 : decode b_setKeys 69 = .ok (.if_icmp .ge 58, 3) := by decide +kernel
theorem d_setKeys_72 : decode b_setKeys 72 = .ok (.aload_n 0, 1) := by decide +kernel
theorem d_setKeys_73 : decode b_setKeys 73 = .ok (.getfield 125, 3) := by decide +kernel
theorem d_setKeys_76 : decode b_setKeys 76 = .ok (.bipush 32, 2) := by decide +kernel
theorem d_setKeys_78 : decode b_setKeys 78 = .ok (.iconst 4, 1) := by decide +kernel
theorem d_setKeys_79 : decode b_setKeys 79 = .ok (.iload_n 1, 1) := by decide +kernel
theorem d_setKeys_80 : decode b_setKeys 80 = .ok (.imul, 1) := by decide +kernel
theorem d_setKeys_81 : decode b_setKeys 81 = .ok (.iconst 2, 1) := by decide +kernel
theorem d_setKeys_82 : decode b_setKeys 82 = .ok (.aload_n 0, 1) := by decide +kernel
theorem d_setKeys_83 : decode b_setKeys 83 = .ok (.getfield 107, 3) := by decide +kernel
theorem d_setKeys_86 : decode b_setKeys 86 = .ok (.iload_n 1, 1) := by decide +kernel
theorem d_setKeys_87 : decode b_setKeys 87 = .ok (.iaload, 1) := by decide +kernel
theorem d_setKeys_88 : decode b_setKeys 88 = .ok (.iconst 2, 1) := by decide +kernel
theorem d_setKeys_89 : decode b_setKeys 89 = .ok (.irem, 1) := by decide +kernel
theorem d_setKeys_90 : decode b_setKeys 90 = .ok (.imul, 1) := by decide +kernel
theorem d_setKeys_91 : decode b_setKeys 91 = .ok (.iadd, 1) := by decide +kernel
theorem d_setKeys_92 : decode b_setKeys 92 = .ok (.iload_n 3, 1) := by decide +kernel
theorem d_setKeys_93 : decode b_setKeys 93 = .ok (.iadd, 1) := by decide +kernel
theorem d_setKeys_94 : decode b_setKeys 94 = .ok (.imul, 1) := by decide +kernel
theorem d_setKeys_95 : decode b_setKeys 95 = .ok (.iload 4, 2) := by decide +kernel
theorem d_setKeys_97 : decode b_setKeys 97 = .ok (.iadd, 1) := by decide +kernel
theorem d_setKeys_98 : decode b_setKeys 98 = .ok (.iload_n 3, 1) := by decide +kernel
theorem d_setKeys_99 : decode b_setKeys 99 = .ok (.ifCond .ne 14, 3) := by decide +kernel
theorem d_setKeys_102 : decode b_setKeys 102 = .ok (.iload 4, 2) := by decide +kernel
theorem d_setKeys_104 : decode b_setKeys 104 = .ok (.bipush 15, 2) := by decide +kernel
theorem d_setKeys_106 : decode b_setKeys 106 = .ok (.if_icmp .le 7, 3) := by decide +kernel
theorem d_setKeys_109 : decode b_setKeys 109 = .ok (.iconst 0, 1) := by decide +kernel
theorem d_setKeys_110 : decode b_setKeys 110 = .ok (.goto 10, 3) := by decide +kernel
theorem d_setKeys_113 : decode b_setKeys 113 = .ok (.aload_n 0, 1) := by decide +kernel
theorem d_setKeys_114 : decode b_setKeys 114 = .ok (.getfield 131, 3) := by decide +kernel
theorem d_setKeys_117 : decode b_setKeys 117 = .ok (.iload 4, 2) := by decide +kernel
theorem d_setKeys_119 : decode b_setKeys 119 = .ok (.baload, 1) := by decide +kernel
theorem d_setKeys_120 : decode b_setKeys 120 = .ok (.bastore, 1) := by decide +kernel
theorem d_setKeys_121 : decode b_setKeys 121 = .ok (.iinc 4 1, 3) := by decide +kernel
theorem d_setKeys_124 : decode b_setKeys 124 = .ok (.goto (-59), 3) := by decide +kernel
theorem d_setKeys_127 : decode b_setKeys 127 = .ok (.iinc 3 1, 3) := by decide +kernel
theorem d_setKeys_130 : decode b_setKeys 130 = .ok (.goto (-93), 3) := by decide +kernel
theorem d_setKeys_133 : decode b_setKeys 133 = .ok (.return_, 1) := by decide +kernel
theorem kx_saltOf : Cond.selects R_M y_saltOf y_saltOf ∈ lw_tg := List.mem_filter.mpr ⟨List.mem_append_left _ (List.mem_of_getElem? (i := 78) (by decide +kernel)), rfl⟩
theorem hd_saltOf : y_saltOf.cls = R_M ∧ y_saltOf.cls ≠ "java/lang/invoke/MethodHandle" ∧ y_saltOf.cls ≠ "java/lang/invoke/VarHandle" ∧ (parseMethodDescriptor y_saltOf.desc).map (fun d => d.parameters.length) = some 3 := by decide +kernel
theorem kx_passwordRead : Cond.selects R_M y_passwordRead y_passwordRead ∈ lw_tg := List.mem_filter.mpr ⟨List.mem_append_left _ (List.mem_of_getElem? (i := 75) (by decide +kernel)), rfl⟩
theorem hd_passwordRead : y_passwordRead.cls = R_M ∧ y_passwordRead.cls ≠ "java/lang/invoke/MethodHandle" ∧ y_passwordRead.cls ≠ "java/lang/invoke/VarHandle" ∧ (parseMethodDescriptor y_passwordRead.desc).map (fun d => d.parameters.length) = some 2 := by decide +kernel
theorem kx_findName : Cond.selects R_M y_findName y_findName ∈ lw_tg := List.mem_filter.mpr ⟨List.mem_append_left _ (List.mem_of_getElem? (i := 76) (by decide +kernel)), rfl⟩
theorem hd_findName : y_findName.cls = R_M ∧ y_findName.cls ≠ "java/lang/invoke/MethodHandle" ∧ y_findName.cls ≠ "java/lang/invoke/VarHandle" ∧ (parseMethodDescriptor y_findName.desc).map (fun d => d.parameters.length) = some 0 := by decide +kernel
theorem kx_setKeys : Cond.selects R_M y_setKeys y_setKeys ∈ lw_tg := List.mem_filter.mpr ⟨List.mem_append_left _ (List.mem_of_getElem? (i := 77) (by decide +kernel)), rfl⟩
theorem hd_setKeys : y_setKeys.cls = R_M ∧ y_setKeys.cls ≠ "java/lang/invoke/MethodHandle" ∧ y_setKeys.cls ≠ "java/lang/invoke/VarHandle" ∧ (parseMethodDescriptor y_setKeys.desc).map (fun d => d.parameters.length) = some 2 := by decide +kernel
set_option maxHeartbeats 4000000 in
set_option maxRecDepth 100000 in
theorem c_saltOf_names (l : Launch) (D : mD) (E : mE) (h : Nat) (q : Nat → Nat) (sz : Nat) (I : Nat → Int32) (J : Nat → Int64) (B : Nat → Nat → Int32) (G : Nat → Nat → Int64) (a n : Nat) (han : a + n ≤ 480) (hn : n ≤ 40) : Met l y_saltOf (k_saltOf :: lw_tg) (mR 4 85) (va_Pc [.ref h, .ref (q 44), .int (nI a), .int (nI n)] (mPre D E h q (I, J, B, G) sz)) (va_Qv (fun (u : mS) => (∀ j, j ≠ 29 → u.1 j = I j) ∧ u.2.1 = J ∧ (∀ j, j ≠ 24 → u.2.2.1 j = B j) ∧ u.2.2.2 = G ∧ (∃ sm, sm ≤ 5 + n ∧ u.1 29 = nI sm)) (mPost D E h q (mA E h q sz)) (mA E h q sz)) 0 0 (mA E h q sz) := by
  refine m_enter (by decide) rfl (Nat.le_of_ble_eq_true rfl) (fun p e s m below meth c ls AV QQ H locs hQQ X Y hZ hA hr hlk hml hl => ?_)
  have Y : mH D E (mA E h q sz) s.heap h q I J B G H locs := Y
  have hl : lv_has ls 6 [(0, .ref h), (1, .ref (q 44)), (2, .int (nI a)), (3, .int (nI n))] := hl
  refine m_ldcSW (i := 2) X (by decide) (by decide) d_saltOf_0 ?_
  refine lv_astore (lv' := [(4, .ref (D.2.1 2)), (0, .ref h), (1, .ref (q 44)), (2, .int (nI a)), (3, .int (nI n))]) X.1 X.2.1 d_saltOf_3 hl (by decide) rfl (fun ls hl => ?_)
  refine lv_aload_n X.1 X.2.1 d_saltOf_5 rfl (lv_at hl 1 rfl) ?_
  refine lv_iconst (v := (nI 0)) X.1 X.2.1 d_saltOf_6 (by decide) ?_
  refine m_puti X Y 29 (by decide) lk_saltMany rfl rfl (t_M_ok 29 (by decide)) rfl rfl (sf_saltMany _ _ _ _) (Nat.le_of_ble_eq_true rfl) d_saltOf_7 (fun H locs Y => ?_)
  refine lv_iconst (v := (nI 0)) X.1 X.2.1 d_saltOf_10 (by decide) ?_
  refine lv_istore (lv' := [(5, .int (nI 0)), (4, .ref (D.2.1 2)), (0, .ref h), (1, .ref (q 44)), (2, .int (nI a)), (3, .int (nI n))]) X.1 X.2.1 d_saltOf_11 hl (by decide) rfl (fun ls hl => ?_)
  have lp4 : ∀ (n1 i2 : Nat) (B5 : Nat → Nat → Int32) (H : Heap) (locs : List Loc) (ls : Array Slot), i2 + n1 = 5 → 0 ≤ i2 → (∀ j, j ≠ 24 → B5 j = B j) → mH D E (mA E h q sz) s.heap h q (upd I 29 (nI 0)) J B5 G H locs → lv_has ls 6 [(5, .int (nI i2)), (4, .ref (D.2.1 2)), (0, .ref h), (1, .ref (q 44)), (2, .int (nI a)), (3, .int (nI n))] → W p l e (mR 4 85) s m AV below meth c H locs 0 0 QQ (F0 m 13 ls []) := by
    intro n1
    induction n1 with
    | zero =>
      intro i2 B5 H locs ls hii2 hsi2 hB6  Y hl
      refine lv_iload X.1 X.2.1 d_saltOf_13 (lv_at hl 0 rfl) ?_
      refine lv_iconst (v := (nI 5)) X.1 X.2.1 d_saltOf_15 (by decide) ?_
      refine lv_icmp_ge (tgt := 40) X.1 X.2.1 d_saltOf_16 (by decide) (fun c7 => ?_) (fun c7 => absurd ?_ c7)
      rotate_left
      · (rw [nI_leI (by omega) (by omega)] <;> omega)
      rw [nI_leI (by omega) (by omega)] at c7
      refine lv_aload_n X.1 X.2.1 d_saltOf_40 rfl (lv_at hl 2 rfl) ?_
      refine lv_iconst (v := (nI 5)) X.1 X.2.1 d_saltOf_41 (by decide) ?_
      refine m_puti X Y 29 (by decide) lk_saltMany rfl rfl (t_M_ok 29 (by decide)) rfl rfl (sf_saltMany _ _ _ _) (Nat.le_of_ble_eq_true rfl) d_saltOf_42 (fun H locs Y => ?_)
      refine lv_iconst (v := (nI 0)) X.1 X.2.1 d_saltOf_45 (by decide) ?_
      refine lv_istore (lv' := [(5, .int (nI 0)), (4, .ref (D.2.1 2)), (0, .ref h), (1, .ref (q 44)), (2, .int (nI a)), (3, .int (nI n))]) X.1 X.2.1 d_saltOf_46 hl (by decide) rfl (fun ls hl => ?_)
      have lp11 : ∀ (n8 i9 : Nat) (I12 : Nat → Int32) (B13 : Nat → Nat → Int32) (H : Heap) (locs : List Loc) (ls : Array Slot), i9 + n8 = n → 0 ≤ i9 → (∀ j, j ≠ 24 → B13 j = B j) → (∀ j, j ≠ 29 → I12 j = I j) → (∃ sm, sm ≤ 5 + i9 ∧ I12 29 = nI sm) → mH D E (mA E h q sz) s.heap h q I12 J B13 G H locs → lv_has ls 6 [(5, .int (nI i9)), (4, .ref (D.2.1 2)), (0, .ref h), (1, .ref (q 44)), (2, .int (nI a)), (3, .int (nI n))] → W p l e (mR 4 85) s m AV below meth c H locs 0 0 QQ (F0 m 48 ls []) := by
        intro n8
        induction n8 with
        | zero =>
          intro i9 I12 B13 H locs ls hii9 hsi9 hB14 hI15 hsm Y hl
          refine lv_iload X.1 X.2.1 d_saltOf_48 (lv_at hl 0 rfl) ?_
          refine lv_iload_n X.1 X.2.1 d_saltOf_50 rfl (lv_at hl 5 rfl) ?_
          refine lv_icmp_ge (tgt := 99) X.1 X.2.1 d_saltOf_51 (by decide) (fun c16 => ?_) (fun c16 => absurd ?_ c16)
          rotate_left
          · (rw [nI_leI (by omega) (by omega)] <;> omega)
          rw [nI_leI (by omega) (by omega)] at c16
          exact m_retv hQQ X Y hr hlk ⟨(fun j h29 => (hI15 j h29)), rfl, (fun j h24 => (hB14 j h24)), rfl, (by obtain ⟨sm, h1, h2⟩ := hsm; exact ⟨sm, by omega, h2⟩)⟩ d_saltOf_99
        | succ n8 ih10 =>
          intro i9 I12 B13 H locs ls hii9 hsi9 hB14 hI15 hsm Y hl
          refine lv_iload X.1 X.2.1 d_saltOf_48 (lv_at hl 0 rfl) ?_
          refine lv_iload_n X.1 X.2.1 d_saltOf_50 rfl (lv_at hl 5 rfl) ?_
          refine lv_icmp_ge (tgt := 99) X.1 X.2.1 d_saltOf_51 (by decide) (fun c17 => absurd c17 ?_) (fun c17 => ?_)
          · (rw [nI_leI (by omega) (by omega)] <;> omega)
          rw [nI_leI (by omega) (by omega)] at c17
          obtain ⟨sm, hsm1, hsm2⟩ := hsm
          refine lv_aload_n X.1 X.2.1 d_saltOf_54 rfl (lv_at hl 3 rfl) ?_
          refine lv_iload_n X.1 X.2.1 d_saltOf_55 rfl (lv_at hl 4 rfl) ?_
          refine lv_iload X.1 X.2.1 d_saltOf_56 (lv_at hl 0 rfl) ?_
          refine lv_iadd X.1 X.2.1 d_saltOf_58 ?_
          refine t_eq (y := nI (a + i9)) (nI_add _ _) ?_
          refine m_bald X Y (aw_names _ _ _ _ _ _ _) (vp_in_nI (by omega) (by decide)) d_saltOf_59 ?_
          refine t_any (fun v18 => ?_)
          refine lv_bipush (v := (nI 47)) X.1 X.2.1 d_saltOf_60 (by decide) ?_
          refine lv_icmp_ne (tgt := 68) X.1 X.2.1 d_saltOf_62 (by decide) (fun c19 => ?_) (fun c19 => ?_)
          · skip
            refine lv_aload_n X.1 X.2.1 d_saltOf_68 rfl (lv_at hl 2 rfl) ?_
            refine m_get X Y 24 (by decide) lk_salt (gf_salt _ _ _) rfl d_saltOf_69 ?_
            refine lv_aload_n X.1 X.2.1 d_saltOf_72 rfl (lv_at hl 2 rfl) ?_
            refine m_get X Y 29 (by decide) lk_saltMany (gf_saltMany _ _ _) rfl d_saltOf_73 ?_
            refine t_eq (show I12 29 = nI (sm) from hsm2) ?_
            refine lv_aload_n X.1 X.2.1 d_saltOf_76 rfl (lv_at hl 3 rfl) ?_
            refine lv_iload_n X.1 X.2.1 d_saltOf_77 rfl (lv_at hl 4 rfl) ?_
            refine lv_iload X.1 X.2.1 d_saltOf_78 (lv_at hl 0 rfl) ?_
            refine lv_iadd X.1 X.2.1 d_saltOf_80 ?_
            refine t_eq (y := nI (a + i9)) (nI_add _ _) ?_
            refine m_bald X Y (aw_names _ _ _ _ _ _ _) (vp_in_nI (by omega) (by decide)) d_saltOf_81 ?_
            refine t_any (fun v20 => ?_)
            refine m_bast X Y (aw_salt _ _ _ _ _ _ _) (vp_in_nI (by omega) (by decide)) (sw_salt _ _ _ _ _ _ _ _) d_saltOf_82 (fun H locs Y => ?_)
            generalize (upd (B13 24) ((nI (sm))).toNatClampNeg (vp_nar .byte v20)) = f21 at Y
            refine lv_aload_n X.1 X.2.1 d_saltOf_83 rfl (lv_at hl 2 rfl) ?_
            refine lv_dup X.1 X.2.1 d_saltOf_84 rfl ?_
            refine m_get X Y 29 (by decide) lk_saltMany (gf_saltMany _ _ _) rfl d_saltOf_85 ?_
            refine t_eq (show I12 29 = nI (sm) from hsm2) ?_
            refine lv_iconst (v := (nI 1)) X.1 X.2.1 d_saltOf_88 (by decide) ?_
            refine lv_iadd X.1 X.2.1 d_saltOf_89 ?_
            refine t_eq (y := nI (sm + 1)) (nI_add _ _) ?_
            refine m_puti X Y 29 (by decide) lk_saltMany rfl rfl (t_M_ok 29 (by decide)) rfl rfl (sf_saltMany _ _ _ _) (Nat.le_of_ble_eq_true rfl) d_saltOf_90 (fun H locs Y => ?_)
            refine lv_iinc (v := (nI (i9 + 1))) (lv' := [(5, .int (nI (i9 + 1))), (4, .ref (D.2.1 2)), (0, .ref h), (1, .ref (q 44)), (2, .int (nI a)), (3, .int (nI n))]) X.1 X.2.1 d_saltOf_93 hl (k := 0) rfl (nI_add _ 1) (by decide) rfl (fun ls hl => ?_)
            refine lv_goto (tgt := 48) X.1 X.2.1 d_saltOf_96 (by decide) ?_
            exact ih10 (i9 + 1) (upd I12 29 (nI (sm + 1))) (upB B13 24 f21) _ _ _ (by omega) (by omega) (fun j h24 => ((if_neg h24).trans (hB14 j h24))) (fun j h29 => ((if_neg h29).trans (hI15 j h29))) ⟨sm + 1, by omega, (show (upd I12 29 (nI (sm + 1))) 29 = nI (sm + 1) from pk_us)⟩ Y (lv_sub hl [0, 1, 2, 3, 4, 5] rfl)
          · skip
            refine lv_goto (tgt := 93) X.1 X.2.1 d_saltOf_65 (by decide) ?_
            refine lv_iinc (v := (nI (i9 + 1))) (lv' := [(5, .int (nI (i9 + 1))), (4, .ref (D.2.1 2)), (0, .ref h), (1, .ref (q 44)), (2, .int (nI a)), (3, .int (nI n))]) X.1 X.2.1 d_saltOf_93 hl (k := 0) rfl (nI_add _ 1) (by decide) rfl (fun ls hl => ?_)
            refine lv_goto (tgt := 48) X.1 X.2.1 d_saltOf_96 (by decide) ?_
            exact ih10 (i9 + 1) I12 B13 _ _ _ (by omega) (by omega) (fun j h24 => (hB14 j h24)) (fun j h29 => (hI15 j h29)) ⟨sm, by omega, (show I12 29 = nI (sm) from hsm2)⟩ Y (lv_sub hl [0, 1, 2, 3, 4, 5] rfl)
      exact lp11 (n) 0 (upd (upd I 29 (nI 0)) 29 (nI 5)) B5 _ _ _ (by omega) (by omega) (fun j h24 => (hB6 j h24)) (fun j h29 => ((if_neg h29).trans ((if_neg h29).trans rfl))) ⟨5, by omega, (show (upd (upd I 29 (nI 0)) 29 (nI 5)) 29 = nI (5) from pk_us)⟩ Y (lv_sub hl [0, 1, 2, 3, 4, 5] rfl)
    | succ n1 ih3 =>
      intro i2 B5 H locs ls hii2 hsi2 hB6  Y hl
      refine lv_iload X.1 X.2.1 d_saltOf_13 (lv_at hl 0 rfl) ?_
      refine lv_iconst (v := (nI 5)) X.1 X.2.1 d_saltOf_15 (by decide) ?_
      refine lv_icmp_ge (tgt := 40) X.1 X.2.1 d_saltOf_16 (by decide) (fun c22 => absurd c22 ?_) (fun c22 => ?_)
      · (rw [nI_leI (by omega) (by omega)] <;> omega)
      rw [nI_leI (by omega) (by omega)] at c22
      refine lv_aload_n X.1 X.2.1 d_saltOf_19 rfl (lv_at hl 2 rfl) ?_
      refine m_get X Y 24 (by decide) lk_salt (gf_salt _ _ _) rfl d_saltOf_20 ?_
      refine lv_iload X.1 X.2.1 d_saltOf_23 (lv_at hl 0 rfl) ?_
      refine lv_aload X.1 X.2.1 d_saltOf_25 (lv_at hl 1 rfl) ?_
      refine lv_iload X.1 X.2.1 d_saltOf_27 (lv_at hl 0 rfl) ?_
      refine m_charAt (i := 2) (k := i2) X Y hZ (by decide) (show i2 < 5 by omega) hml hl.1 ⟨by decide, by decide⟩ (Nat.le_of_ble_eq_true rfl) d_saltOf_29 ⟨Nat.le_refl _, Nat.le_refl _⟩ (fun H locs Y => ?_)
      refine t_any (fun v23 => ?_)
      obtain ⟨v24, ev24⟩ : ∃ z : Int32, (v23 : Int32).toInt8.toInt32 = z := ⟨_, rfl⟩
      refine lv_i2b (v := v24) X.1 X.2.1 d_saltOf_32 ev24 ?_
      refine m_bast X Y (aw_salt _ _ _ _ _ _ _) (vp_in_nI (by omega) (by decide)) (sw_salt _ _ _ _ _ _ _ _) d_saltOf_33 (fun H locs Y => ?_)
      generalize (upd (B5 24) ((nI i2)).toNatClampNeg (vp_nar .byte v24)) = f25 at Y
      refine lv_iinc (v := (nI (i2 + 1))) (lv' := [(5, .int (nI (i2 + 1))), (4, .ref (D.2.1 2)), (0, .ref h), (1, .ref (q 44)), (2, .int (nI a)), (3, .int (nI n))]) X.1 X.2.1 d_saltOf_34 hl (k := 0) rfl (nI_add _ 1) (by decide) rfl (fun ls hl => ?_)
      refine lv_goto (tgt := 13) X.1 X.2.1 d_saltOf_37 (by decide) ?_
      exact ih3 (i2 + 1) (upB B5 24 f25) _ _ _ (by omega) (by omega) (fun j h24 => ((if_neg h24).trans (hB6 j h24)))  Y (lv_sub hl [0, 1, 2, 3, 4, 5] rfl)
  exact lp4 (5) 0 B _ _ _ (by omega) (by omega) (fun j h24 => rfl)  Y (lv_sub hl [0, 1, 2, 3, 4, 5] rfl)
set_option maxHeartbeats 4000000 in
set_option maxRecDepth 100000 in
theorem c_saltOf_name (l : Launch) (D : mD) (E : mE) (h : Nat) (q : Nat → Nat) (sz : Nat) (I : Nat → Int32) (J : Nat → Int64) (B : Nat → Nat → Int32) (G : Nat → Nat → Int64) (a n : Nat) (han : a + n ≤ 40) (hn : n ≤ 40) : Met l y_saltOf (k_saltOf :: lw_tg) (mR 4 85) (va_Pc [.ref h, .ref (q 53), .int (nI a), .int (nI n)] (mPre D E h q (I, J, B, G) sz)) (va_Qv (fun (u : mS) => (∀ j, j ≠ 29 → u.1 j = I j) ∧ u.2.1 = J ∧ (∀ j, j ≠ 24 → u.2.2.1 j = B j) ∧ u.2.2.2 = G ∧ (∃ sm, sm ≤ 5 + n ∧ u.1 29 = nI sm)) (mPost D E h q (mA E h q sz)) (mA E h q sz)) 0 0 (mA E h q sz) := by
  refine m_enter (by decide) rfl (Nat.le_of_ble_eq_true rfl) (fun p e s m below meth c ls AV QQ H locs hQQ X Y hZ hA hr hlk hml hl => ?_)
  have Y : mH D E (mA E h q sz) s.heap h q I J B G H locs := Y
  have hl : lv_has ls 6 [(0, .ref h), (1, .ref (q 53)), (2, .int (nI a)), (3, .int (nI n))] := hl
  refine m_ldcSW (i := 2) X (by decide) (by decide) d_saltOf_0 ?_
  refine lv_astore (lv' := [(4, .ref (D.2.1 2)), (0, .ref h), (1, .ref (q 53)), (2, .int (nI a)), (3, .int (nI n))]) X.1 X.2.1 d_saltOf_3 hl (by decide) rfl (fun ls hl => ?_)
  refine lv_aload_n X.1 X.2.1 d_saltOf_5 rfl (lv_at hl 1 rfl) ?_
  refine lv_iconst (v := (nI 0)) X.1 X.2.1 d_saltOf_6 (by decide) ?_
  refine m_puti X Y 29 (by decide) lk_saltMany rfl rfl (t_M_ok 29 (by decide)) rfl rfl (sf_saltMany _ _ _ _) (Nat.le_of_ble_eq_true rfl) d_saltOf_7 (fun H locs Y => ?_)
  refine lv_iconst (v := (nI 0)) X.1 X.2.1 d_saltOf_10 (by decide) ?_
  refine lv_istore (lv' := [(5, .int (nI 0)), (4, .ref (D.2.1 2)), (0, .ref h), (1, .ref (q 53)), (2, .int (nI a)), (3, .int (nI n))]) X.1 X.2.1 d_saltOf_11 hl (by decide) rfl (fun ls hl => ?_)
  have lp4 : ∀ (n1 i2 : Nat) (B5 : Nat → Nat → Int32) (H : Heap) (locs : List Loc) (ls : Array Slot), i2 + n1 = 5 → 0 ≤ i2 → (∀ j, j ≠ 24 → B5 j = B j) → mH D E (mA E h q sz) s.heap h q (upd I 29 (nI 0)) J B5 G H locs → lv_has ls 6 [(5, .int (nI i2)), (4, .ref (D.2.1 2)), (0, .ref h), (1, .ref (q 53)), (2, .int (nI a)), (3, .int (nI n))] → W p l e (mR 4 85) s m AV below meth c H locs 0 0 QQ (F0 m 13 ls []) := by
    intro n1
    induction n1 with
    | zero =>
      intro i2 B5 H locs ls hii2 hsi2 hB6  Y hl
      refine lv_iload X.1 X.2.1 d_saltOf_13 (lv_at hl 0 rfl) ?_
      refine lv_iconst (v := (nI 5)) X.1 X.2.1 d_saltOf_15 (by decide) ?_
      refine lv_icmp_ge (tgt := 40) X.1 X.2.1 d_saltOf_16 (by decide) (fun c7 => ?_) (fun c7 => absurd ?_ c7)
      rotate_left
      · (rw [nI_leI (by omega) (by omega)] <;> omega)
      rw [nI_leI (by omega) (by omega)] at c7
      refine lv_aload_n X.1 X.2.1 d_saltOf_40 rfl (lv_at hl 2 rfl) ?_
      refine lv_iconst (v := (nI 5)) X.1 X.2.1 d_saltOf_41 (by decide) ?_
      refine m_puti X Y 29 (by decide) lk_saltMany rfl rfl (t_M_ok 29 (by decide)) rfl rfl (sf_saltMany _ _ _ _) (Nat.le_of_ble_eq_true rfl) d_saltOf_42 (fun H locs Y => ?_)
      refine lv_iconst (v := (nI 0)) X.1 X.2.1 d_saltOf_45 (by decide) ?_
      refine lv_istore (lv' := [(5, .int (nI 0)), (4, .ref (D.2.1 2)), (0, .ref h), (1, .ref (q 53)), (2, .int (nI a)), (3, .int (nI n))]) X.1 X.2.1 d_saltOf_46 hl (by decide) rfl (fun ls hl => ?_)
      have lp11 : ∀ (n8 i9 : Nat) (I12 : Nat → Int32) (B13 : Nat → Nat → Int32) (H : Heap) (locs : List Loc) (ls : Array Slot), i9 + n8 = n → 0 ≤ i9 → (∀ j, j ≠ 24 → B13 j = B j) → (∀ j, j ≠ 29 → I12 j = I j) → (∃ sm, sm ≤ 5 + i9 ∧ I12 29 = nI sm) → mH D E (mA E h q sz) s.heap h q I12 J B13 G H locs → lv_has ls 6 [(5, .int (nI i9)), (4, .ref (D.2.1 2)), (0, .ref h), (1, .ref (q 53)), (2, .int (nI a)), (3, .int (nI n))] → W p l e (mR 4 85) s m AV below meth c H locs 0 0 QQ (F0 m 48 ls []) := by
        intro n8
        induction n8 with
        | zero =>
          intro i9 I12 B13 H locs ls hii9 hsi9 hB14 hI15 hsm Y hl
          refine lv_iload X.1 X.2.1 d_saltOf_48 (lv_at hl 0 rfl) ?_
          refine lv_iload_n X.1 X.2.1 d_saltOf_50 rfl (lv_at hl 5 rfl) ?_
          refine lv_icmp_ge (tgt := 99) X.1 X.2.1 d_saltOf_51 (by decide) (fun c16 => ?_) (fun c16 => absurd ?_ c16)
          rotate_left
          · (rw [nI_leI (by omega) (by omega)] <;> omega)
          rw [nI_leI (by omega) (by omega)] at c16
          exact m_retv hQQ X Y hr hlk ⟨(fun j h29 => (hI15 j h29)), rfl, (fun j h24 => (hB14 j h24)), rfl, (by obtain ⟨sm, h1, h2⟩ := hsm; exact ⟨sm, by omega, h2⟩)⟩ d_saltOf_99
        | succ n8 ih10 =>
          intro i9 I12 B13 H locs ls hii9 hsi9 hB14 hI15 hsm Y hl
          refine lv_iload X.1 X.2.1 d_saltOf_48 (lv_at hl 0 rfl) ?_
          refine lv_iload_n X.1 X.2.1 d_saltOf_50 rfl (lv_at hl 5 rfl) ?_
          refine lv_icmp_ge (tgt := 99) X.1 X.2.1 d_saltOf_51 (by decide) (fun c17 => absurd c17 ?_) (fun c17 => ?_)
          · (rw [nI_leI (by omega) (by omega)] <;> omega)
          rw [nI_leI (by omega) (by omega)] at c17
          obtain ⟨sm, hsm1, hsm2⟩ := hsm
          refine lv_aload_n X.1 X.2.1 d_saltOf_54 rfl (lv_at hl 3 rfl) ?_
          refine lv_iload_n X.1 X.2.1 d_saltOf_55 rfl (lv_at hl 4 rfl) ?_
          refine lv_iload X.1 X.2.1 d_saltOf_56 (lv_at hl 0 rfl) ?_
          refine lv_iadd X.1 X.2.1 d_saltOf_58 ?_
          refine t_eq (y := nI (a + i9)) (nI_add _ _) ?_
          refine m_bald X Y (aw_name _ _ _ _ _ _ _) (vp_in_nI (by omega) (by decide)) d_saltOf_59 ?_
          refine t_any (fun v18 => ?_)
          refine lv_bipush (v := (nI 47)) X.1 X.2.1 d_saltOf_60 (by decide) ?_
          refine lv_icmp_ne (tgt := 68) X.1 X.2.1 d_saltOf_62 (by decide) (fun c19 => ?_) (fun c19 => ?_)
          · skip
            refine lv_aload_n X.1 X.2.1 d_saltOf_68 rfl (lv_at hl 2 rfl) ?_
            refine m_get X Y 24 (by decide) lk_salt (gf_salt _ _ _) rfl d_saltOf_69 ?_
            refine lv_aload_n X.1 X.2.1 d_saltOf_72 rfl (lv_at hl 2 rfl) ?_
            refine m_get X Y 29 (by decide) lk_saltMany (gf_saltMany _ _ _) rfl d_saltOf_73 ?_
            refine t_eq (show I12 29 = nI (sm) from hsm2) ?_
            refine lv_aload_n X.1 X.2.1 d_saltOf_76 rfl (lv_at hl 3 rfl) ?_
            refine lv_iload_n X.1 X.2.1 d_saltOf_77 rfl (lv_at hl 4 rfl) ?_
            refine lv_iload X.1 X.2.1 d_saltOf_78 (lv_at hl 0 rfl) ?_
            refine lv_iadd X.1 X.2.1 d_saltOf_80 ?_
            refine t_eq (y := nI (a + i9)) (nI_add _ _) ?_
            refine m_bald X Y (aw_name _ _ _ _ _ _ _) (vp_in_nI (by omega) (by decide)) d_saltOf_81 ?_
            refine t_any (fun v20 => ?_)
            refine m_bast X Y (aw_salt _ _ _ _ _ _ _) (vp_in_nI (by omega) (by decide)) (sw_salt _ _ _ _ _ _ _ _) d_saltOf_82 (fun H locs Y => ?_)
            generalize (upd (B13 24) ((nI (sm))).toNatClampNeg (vp_nar .byte v20)) = f21 at Y
            refine lv_aload_n X.1 X.2.1 d_saltOf_83 rfl (lv_at hl 2 rfl) ?_
            refine lv_dup X.1 X.2.1 d_saltOf_84 rfl ?_
            refine m_get X Y 29 (by decide) lk_saltMany (gf_saltMany _ _ _) rfl d_saltOf_85 ?_
            refine t_eq (show I12 29 = nI (sm) from hsm2) ?_
            refine lv_iconst (v := (nI 1)) X.1 X.2.1 d_saltOf_88 (by decide) ?_
            refine lv_iadd X.1 X.2.1 d_saltOf_89 ?_
            refine t_eq (y := nI (sm + 1)) (nI_add _ _) ?_
            refine m_puti X Y 29 (by decide) lk_saltMany rfl rfl (t_M_ok 29 (by decide)) rfl rfl (sf_saltMany _ _ _ _) (Nat.le_of_ble_eq_true rfl) d_saltOf_90 (fun H locs Y => ?_)
            refine lv_iinc (v := (nI (i9 + 1))) (lv' := [(5, .int (nI (i9 + 1))), (4, .ref (D.2.1 2)), (0, .ref h), (1, .ref (q 53)), (2, .int (nI a)), (3, .int (nI n))]) X.1 X.2.1 d_saltOf_93 hl (k := 0) rfl (nI_add _ 1) (by decide) rfl (fun ls hl => ?_)
            refine lv_goto (tgt := 48) X.1 X.2.1 d_saltOf_96 (by decide) ?_
            exact ih10 (i9 + 1) (upd I12 29 (nI (sm + 1))) (upB B13 24 f21) _ _ _ (by omega) (by omega) (fun j h24 => ((if_neg h24).trans (hB14 j h24))) (fun j h29 => ((if_neg h29).trans (hI15 j h29))) ⟨sm + 1, by omega, (show (upd I12 29 (nI (sm + 1))) 29 = nI (sm + 1) from pk_us)⟩ Y (lv_sub hl [0, 1, 2, 3, 4, 5] rfl)
          · skip
            refine lv_goto (tgt := 93) X.1 X.2.1 d_saltOf_65 (by decide) ?_
            refine lv_iinc (v := (nI (i9 + 1))) (lv' := [(5, .int (nI (i9 + 1))), (4, .ref (D.2.1 2)), (0, .ref h), (1, .ref (q 53)), (2, .int (nI a)), (3, .int (nI n))]) X.1 X.2.1 d_saltOf_93 hl (k := 0) rfl (nI_add _ 1) (by decide) rfl (fun ls hl => ?_)
            refine lv_goto (tgt := 48) X.1 X.2.1 d_saltOf_96 (by decide) ?_
            exact ih10 (i9 + 1) I12 B13 _ _ _ (by omega) (by omega) (fun j h24 => (hB14 j h24)) (fun j h29 => (hI15 j h29)) ⟨sm, by omega, (show I12 29 = nI (sm) from hsm2)⟩ Y (lv_sub hl [0, 1, 2, 3, 4, 5] rfl)
      exact lp11 (n) 0 (upd (upd I 29 (nI 0)) 29 (nI 5)) B5 _ _ _ (by omega) (by omega) (fun j h24 => (hB6 j h24)) (fun j h29 => ((if_neg h29).trans ((if_neg h29).trans rfl))) ⟨5, by omega, (show (upd (upd I 29 (nI 0)) 29 (nI 5)) 29 = nI (5) from pk_us)⟩ Y (lv_sub hl [0, 1, 2, 3, 4, 5] rfl)
    | succ n1 ih3 =>
      intro i2 B5 H locs ls hii2 hsi2 hB6  Y hl
      refine lv_iload X.1 X.2.1 d_saltOf_13 (lv_at hl 0 rfl) ?_
      refine lv_iconst (v := (nI 5)) X.1 X.2.1 d_saltOf_15 (by decide) ?_
      refine lv_icmp_ge (tgt := 40) X.1 X.2.1 d_saltOf_16 (by decide) (fun c22 => absurd c22 ?_) (fun c22 => ?_)
      · (rw [nI_leI (by omega) (by omega)] <;> omega)
      rw [nI_leI (by omega) (by omega)] at c22
      refine lv_aload_n X.1 X.2.1 d_saltOf_19 rfl (lv_at hl 2 rfl) ?_
      refine m_get X Y 24 (by decide) lk_salt (gf_salt _ _ _) rfl d_saltOf_20 ?_
      refine lv_iload X.1 X.2.1 d_saltOf_23 (lv_at hl 0 rfl) ?_
      refine lv_aload X.1 X.2.1 d_saltOf_25 (lv_at hl 1 rfl) ?_
      refine lv_iload X.1 X.2.1 d_saltOf_27 (lv_at hl 0 rfl) ?_
      refine m_charAt (i := 2) (k := i2) X Y hZ (by decide) (show i2 < 5 by omega) hml hl.1 ⟨by decide, by decide⟩ (Nat.le_of_ble_eq_true rfl) d_saltOf_29 ⟨Nat.le_refl _, Nat.le_refl _⟩ (fun H locs Y => ?_)
      refine t_any (fun v23 => ?_)
      obtain ⟨v24, ev24⟩ : ∃ z : Int32, (v23 : Int32).toInt8.toInt32 = z := ⟨_, rfl⟩
      refine lv_i2b (v := v24) X.1 X.2.1 d_saltOf_32 ev24 ?_
      refine m_bast X Y (aw_salt _ _ _ _ _ _ _) (vp_in_nI (by omega) (by decide)) (sw_salt _ _ _ _ _ _ _ _) d_saltOf_33 (fun H locs Y => ?_)
      generalize (upd (B5 24) ((nI i2)).toNatClampNeg (vp_nar .byte v24)) = f25 at Y
      refine lv_iinc (v := (nI (i2 + 1))) (lv' := [(5, .int (nI (i2 + 1))), (4, .ref (D.2.1 2)), (0, .ref h), (1, .ref (q 53)), (2, .int (nI a)), (3, .int (nI n))]) X.1 X.2.1 d_saltOf_34 hl (k := 0) rfl (nI_add _ 1) (by decide) rfl (fun ls hl => ?_)
      refine lv_goto (tgt := 13) X.1 X.2.1 d_saltOf_37 (by decide) ?_
      exact ih3 (i2 + 1) (upB B5 24 f25) _ _ _ (by omega) (by omega) (fun j h24 => ((if_neg h24).trans (hB6 j h24)))  Y (lv_sub hl [0, 1, 2, 3, 4, 5] rfl)
  exact lp4 (5) 0 B _ _ _ (by omega) (by omega) (fun j h24 => rfl)  Y (lv_sub hl [0, 1, 2, 3, 4, 5] rfl)
set_option maxHeartbeats 4000000 in
set_option maxRecDepth 100000 in
theorem c_passwordRead (l : Launch) (D : mD) (E : mE) (h : Nat) (q : Nat → Nat) (sz : Nat) (I : Nat → Int32) (J : Nat → Int64) (B : Nat → Nat → Int32) (G : Nat → Nat → Int64) (a b : Nat) (hab : a ≤ b) (hb : b ≤ 4000) : Met l y_passwordRead (k_passwordRead :: lw_tg) (mR 0 0) (va_Pc [.ref h, .int (nI a), .int (nI b)] (mPre D E h q (I, J, B, G) sz)) (va_Qi (fun (r : Int32) (u : mS) => (∀ j, j ≠ 30 → u.1 j = I j) ∧ u.2.1 = J ∧ (∀ j, j ≠ 25 → u.2.2.1 j = B j) ∧ u.2.2.2 = G ∧ u.1 30 = nI (b - a) ∧ ((r = nI 0 ∨ r = nI 1) ∧ (r = nI 1 → b - a ≤ 20) ∧ (a = b → r = nI 1))) (mPost D E h q (mA E h q sz)) (mA E h q sz)) 0 0 (mA E h q sz) := by
  refine m_enter (by decide) rfl (Nat.le_of_ble_eq_true rfl) (fun p e s m below meth c ls AV QQ H locs hQQ X Y hZ hA hr hlk hml hl => ?_)
  have Y : mH D E (mA E h q sz) s.heap h q I J B G H locs := Y
  have hl : lv_has ls 4 [(0, .ref h), (1, .int (nI a)), (2, .int (nI b))] := hl
  refine lv_aload_n X.1 X.2.1 d_passwordRead_0 rfl (lv_at hl 0 rfl) ?_
  refine lv_iload_n X.1 X.2.1 d_passwordRead_1 rfl (lv_at hl 2 rfl) ?_
  refine lv_iload_n X.1 X.2.1 d_passwordRead_2 rfl (lv_at hl 1 rfl) ?_
  refine lv_isub X.1 X.2.1 d_passwordRead_3 ?_
  refine t_eq (y := nI (b - (a))) (pk_sub (by omega)) ?_
  refine m_puti X Y 30 (by decide) lk_passwordMany rfl rfl (t_M_ok 30 (by decide)) rfl rfl (sf_passwordMany _ _ _ _) (Nat.le_of_ble_eq_true rfl) d_passwordRead_4 (fun H locs Y => ?_)
  refine lv_aload_n X.1 X.2.1 d_passwordRead_7 rfl (lv_at hl 0 rfl) ?_
  refine m_get X Y 30 (by decide) lk_passwordMany (gf_passwordMany _ _ _) rfl d_passwordRead_8 ?_
  refine t_eq (show (upd I 30 (nI (b - (a)))) 30 = nI (b - (a)) from pk_us) ?_
  refine lv_bipush (v := (nI 20)) X.1 X.2.1 d_passwordRead_11 (by decide) ?_
  refine lv_icmp_le (tgt := 18) X.1 X.2.1 d_passwordRead_13 (by decide) (fun c1 => ?_) (fun c1 => ?_)
  · skip
    rw [nI_leI (by omega) (by omega)] at c1
    refine lv_iload_n X.1 X.2.1 d_passwordRead_18 rfl (lv_at hl 1 rfl) ?_
    refine lv_istore_n (lv' := [(3, .int (nI a)), (0, .ref h), (1, .int (nI a)), (2, .int (nI b))]) X.1 X.2.1 d_passwordRead_19 rfl hl (by decide) rfl (fun ls hl => ?_)
    have lp5 : ∀ (n2 i3 : Nat) (B6 : Nat → Nat → Int32) (H : Heap) (locs : List Loc) (ls : Array Slot), i3 + n2 = b → a ≤ i3 → (∀ j, j ≠ 25 → B6 j = B j) → mH D E (mA E h q sz) s.heap h q (upd I 30 (nI (b - (a)))) J B6 G H locs → lv_has ls 4 [(3, .int (nI i3)), (0, .ref h), (1, .int (nI a)), (2, .int (nI b))] → W p l e (mR 0 0) s m AV below meth c H locs 0 0 QQ (F0 m 20 ls []) := by
      intro n2
      induction n2 with
      | zero =>
        intro i3 B6 H locs ls hii3 hsi3 hB7  Y hl
        refine lv_iload_n X.1 X.2.1 d_passwordRead_20 rfl (lv_at hl 0 rfl) ?_
        refine lv_iload_n X.1 X.2.1 d_passwordRead_21 rfl (lv_at hl 3 rfl) ?_
        refine lv_icmp_ge (tgt := 69) X.1 X.2.1 d_passwordRead_22 (by decide) (fun c8 => ?_) (fun c8 => absurd ?_ c8)
        rotate_left
        · (rw [nI_leI (by omega) (by omega)] <;> omega)
        rw [nI_leI (by omega) (by omega)] at c8
        refine lv_iconst (v := (nI 1)) X.1 X.2.1 d_passwordRead_69 (by decide) ?_
        exact m_retz hQQ X Y hr hlk rfl ⟨(fun j h30 => ((if_neg h30).trans rfl)), rfl, (fun j h25 => (hB7 j h25)), rfl, (show (upd I 30 (nI (b - (a)))) 30 = nI (b - a) from (show (upd I 30 (nI (b - (a)))) 30 = nI (b - (a)) from pk_us).trans (congrArg nI (show (b - (a) : Nat) = b - a by omega))), ⟨Or.inr rfl, fun _ => by omega, fun _ => rfl⟩⟩ d_passwordRead_70
      | succ n2 ih4 =>
        intro i3 B6 H locs ls hii3 hsi3 hB7  Y hl
        refine lv_iload_n X.1 X.2.1 d_passwordRead_20 rfl (lv_at hl 0 rfl) ?_
        refine lv_iload_n X.1 X.2.1 d_passwordRead_21 rfl (lv_at hl 3 rfl) ?_
        refine lv_icmp_ge (tgt := 69) X.1 X.2.1 d_passwordRead_22 (by decide) (fun c9 => absurd c9 ?_) (fun c9 => ?_)
        · (rw [nI_leI (by omega) (by omega)] <;> omega)
        rw [nI_leI (by omega) (by omega)] at c9
        refine lv_aload_n X.1 X.2.1 d_passwordRead_25 rfl (lv_at hl 1 rfl) ?_
        refine m_get X Y 0 (by decide) lk_mem (gf_mem _ _ _) rfl d_passwordRead_26 ?_
        refine lv_iload_n X.1 X.2.1 d_passwordRead_29 rfl (lv_at hl 0 rfl) ?_
        refine m_bald X Y (aw_mem _ _ _ _ _ _ _) (vp_in_nI (by omega) (by decide)) d_passwordRead_30 ?_
        refine t_any (fun v10 => ?_)
        refine lv_bipush (v := (nI 32)) X.1 X.2.1 d_passwordRead_31 (by decide) ?_
        refine lv_icmp_lt (tgt := 47) X.1 X.2.1 d_passwordRead_33 (by decide) (fun c11 => ?_) (fun c11 => ?_)
        · skip
          refine lv_iconst (v := (nI 0)) X.1 X.2.1 d_passwordRead_47 (by decide) ?_
          exact m_retz hQQ X Y hr hlk rfl ⟨(fun j h30 => ((if_neg h30).trans rfl)), rfl, (fun j h25 => (hB7 j h25)), rfl, (show (upd I 30 (nI (b - (a)))) 30 = nI (b - a) from (show (upd I 30 (nI (b - (a)))) 30 = nI (b - (a)) from pk_us).trans (congrArg nI (show (b - (a) : Nat) = b - a by omega))), ⟨Or.inl rfl, fun h9 => absurd h9 (by decide), fun h9 => absurd h9 (by omega)⟩⟩ d_passwordRead_48
        · skip
          refine lv_aload_n X.1 X.2.1 d_passwordRead_36 rfl (lv_at hl 1 rfl) ?_
          refine m_get X Y 0 (by decide) lk_mem (gf_mem _ _ _) rfl d_passwordRead_37 ?_
          refine lv_iload_n X.1 X.2.1 d_passwordRead_40 rfl (lv_at hl 0 rfl) ?_
          refine m_bald X Y (aw_mem _ _ _ _ _ _ _) (vp_in_nI (by omega) (by decide)) d_passwordRead_41 ?_
          refine t_any (fun v12 => ?_)
          refine lv_bipush (v := (nI 126)) X.1 X.2.1 d_passwordRead_42 (by decide) ?_
          refine lv_icmp_le (tgt := 49) X.1 X.2.1 d_passwordRead_44 (by decide) (fun c13 => ?_) (fun c13 => ?_)
          · skip
            refine lv_aload_n X.1 X.2.1 d_passwordRead_49 rfl (lv_at hl 1 rfl) ?_
            refine m_get X Y 25 (by decide) lk_password (gf_password _ _ _) rfl d_passwordRead_50 ?_
            refine lv_iload_n X.1 X.2.1 d_passwordRead_53 rfl (lv_at hl 0 rfl) ?_
            refine lv_iload_n X.1 X.2.1 d_passwordRead_54 rfl (lv_at hl 2 rfl) ?_
            refine lv_isub X.1 X.2.1 d_passwordRead_55 ?_
            refine t_eq (y := nI (i3 - (a))) (pk_sub (by omega)) ?_
            refine lv_aload_n X.1 X.2.1 d_passwordRead_56 rfl (lv_at hl 1 rfl) ?_
            refine m_get X Y 0 (by decide) lk_mem (gf_mem _ _ _) rfl d_passwordRead_57 ?_
            refine lv_iload_n X.1 X.2.1 d_passwordRead_60 rfl (lv_at hl 0 rfl) ?_
            refine m_bald X Y (aw_mem _ _ _ _ _ _ _) (vp_in_nI (by omega) (by decide)) d_passwordRead_61 ?_
            refine t_any (fun v14 => ?_)
            refine m_bast X Y (aw_password _ _ _ _ _ _ _) (vp_in_nI (by omega) (by decide)) (sw_password _ _ _ _ _ _ _ _) d_passwordRead_62 (fun H locs Y => ?_)
            generalize (upd (B6 25) ((nI (i3 - (a)))).toNatClampNeg (vp_nar .byte v14)) = f15 at Y
            refine lv_iinc (v := (nI (i3 + 1))) (lv' := [(3, .int (nI (i3 + 1))), (0, .ref h), (1, .int (nI a)), (2, .int (nI b))]) X.1 X.2.1 d_passwordRead_63 hl (k := 0) rfl (nI_add _ 1) (by decide) rfl (fun ls hl => ?_)
            refine lv_goto (tgt := 20) X.1 X.2.1 d_passwordRead_66 (by decide) ?_
            exact ih4 (i3 + 1) (upB B6 25 f15) _ _ _ (by omega) (by omega) (fun j h25 => ((if_neg h25).trans (hB7 j h25)))  Y (lv_sub hl [0, 1, 2, 3] rfl)
          · skip
            refine lv_iconst (v := (nI 0)) X.1 X.2.1 d_passwordRead_47 (by decide) ?_
            exact m_retz hQQ X Y hr hlk rfl ⟨(fun j h30 => ((if_neg h30).trans rfl)), rfl, (fun j h25 => (hB7 j h25)), rfl, (show (upd I 30 (nI (b - (a)))) 30 = nI (b - a) from (show (upd I 30 (nI (b - (a)))) 30 = nI (b - (a)) from pk_us).trans (congrArg nI (show (b - (a) : Nat) = b - a by omega))), ⟨Or.inl rfl, fun h9 => absurd h9 (by decide), fun h9 => absurd h9 (by omega)⟩⟩ d_passwordRead_48
    exact lp5 (b - a) a B _ _ _ (by omega) (by omega) (fun j h25 => rfl)  Y (lv_sub hl [0, 1, 2, 3] rfl)
  · skip
    rw [nI_leI (by omega) (by omega)] at c1
    refine lv_iconst (v := (nI 0)) X.1 X.2.1 d_passwordRead_16 (by decide) ?_
    exact m_retz hQQ X Y hr hlk rfl ⟨(fun j h30 => ((if_neg h30).trans rfl)), rfl, (fun j h25 => rfl), rfl, (show (upd I 30 (nI (b - (a)))) 30 = nI (b - a) from (show (upd I 30 (nI (b - (a)))) 30 = nI (b - (a)) from pk_us).trans (congrArg nI (show (b - (a) : Nat) = b - a by omega))), ⟨Or.inl rfl, fun h9 => absurd h9 (by decide), fun h9 => absurd h9 (by omega)⟩⟩ d_passwordRead_17
end
section
set_option maxHeartbeats 4000000 in
set_option maxRecDepth 100000 in
theorem c_setKeys (l : Launch) (D : mD) (E : mE) (h : Nat) (q : Nat → Nat) (sz : Nat) (I : Nat → Int32) (J : Nat → Int64) (B : Nat → Nat → Int32) (G : Nat → Nat → Int64) (p0 cnt v ns pm : Nat) (hp0 : p0 < 12) (hc1 : 1 ≤ cnt) (hc2 : cnt ≤ 200) (hv : B 46 p0 = nI v) (hv2 : v < 1000000) (hns : B 45 p0 = nI ns) (hns2 : ns ≤ 40) (hpm : I 30 = nI pm) (hpm2 : pm ≤ 20) (y12 : by8 (B 12)) (y13 : by8 (B 13)) (y16 : by8 (B 16)) (y17 : by8 (B 17)) : Met l y_setKeys (k_setKeys :: lw_tg) (mR 6 148) (va_Pc [.ref h, .int (nI p0), .int (nI cnt)] (mPre D E h q (I, J, B, G) sz)) (va_Qv (fun (u : mS) => (∀ j, j ≠ 8 → j ≠ 14 → j ≠ 18 → j ≠ 29 → u.1 j = I j) ∧ u.2.1 = J ∧ (∀ j, j ≠ 5 → j ≠ 6 → j ≠ 7 → j ≠ 9 → j ≠ 10 → j ≠ 11 → j ≠ 12 → j ≠ 13 → j ≠ 15 → j ≠ 16 → j ≠ 17 → j ≠ 19 → j ≠ 20 → j ≠ 21 → j ≠ 24 → j ≠ 26 → j ≠ 27 → j ≠ 46 → j ≠ 47 → j ≠ 52 → j ≠ 56 → u.2.2.1 j = B j) ∧ u.2.2.2 = G ∧ by8 (u.2.2.1 12) ∧ by8 (u.2.2.1 13) ∧ by8 (u.2.2.1 16) ∧ by8 (u.2.2.1 17) ∧ (u.2.2.1 46 p0 = nI (v + 1))) (mPost D E h q (mA E h q sz)) (mA E h q sz)) 0 0 (mA E h q sz) := by
  refine m_enter (by decide) rfl (Nat.le_of_ble_eq_true rfl) (fun p e s m below meth c ls AV QQ H locs hQQ X Y hZ hA hr hlk hml hl => ?_)
  have Y : mH D E (mA E h q sz) s.heap h q I J B G H locs := Y
  have hl : lv_has ls 5 [(0, .ref h), (1, .int (nI p0)), (2, .int (nI cnt))] := hl
  refine lv_aload_n X.1 X.2.1 d_setKeys_0 rfl (lv_at hl 0 rfl) ?_
  refine m_get X Y 46 (by decide) lk_versions (gf_versions _ _ _) rfl d_setKeys_1 ?_
  refine lv_iload_n X.1 X.2.1 d_setKeys_4 rfl (lv_at hl 1 rfl) ?_
  refine lv_dup2_11 X.1 X.2.1 d_setKeys_5 rfl rfl ?_
  refine m_iald X Y (aw_versions _ _ _ _ _ _ _) (vp_in_nI (by omega) (by decide)) d_setKeys_6 ?_
  refine t_eq (show B 46 ((nI p0)).toNatClampNeg = nI (v) from (by rw [nI_clamp (by omega)]; exact hv)) ?_
  refine lv_iconst (v := (nI 1)) X.1 X.2.1 d_setKeys_7 (by decide) ?_
  refine lv_iadd X.1 X.2.1 d_setKeys_8 ?_
  refine t_eq (y := nI (v + 1)) (nI_add _ _) ?_
  refine m_iast X Y (aw_versions _ _ _ _ _ _ _) (vp_in_nI (by omega) (by decide)) (sw_versions _ _ _ _ _ _ _ _) d_setKeys_9 (fun H locs Y => ?_)
  have g2 : (upd (B 46) ((nI p0)).toNatClampNeg (nI (v + 1))) p0 = nI (v + 1) := (by rw [nI_clamp (by omega)]; exact pk_us)
  generalize (upd (B 46) ((nI p0)).toNatClampNeg (nI (v + 1))) = f1 at Y g2
  refine lv_aload_n X.1 X.2.1 d_setKeys_10 rfl (lv_at hl 0 rfl) ?_
  refine m_get X Y 47 (by decide) lk_counts (gf_counts _ _ _) rfl d_setKeys_11 ?_
  refine lv_iload_n X.1 X.2.1 d_setKeys_14 rfl (lv_at hl 1 rfl) ?_
  refine lv_iload_n X.1 X.2.1 d_setKeys_15 rfl (lv_at hl 2 rfl) ?_
  refine m_iast X Y (aw_counts _ _ _ _ _ _ _) (vp_in_nI (by omega) (by decide)) (sw_counts _ _ _ _ _ _ _ _) d_setKeys_16 (fun H locs Y => ?_)
  generalize (upd ((upB B 46 f1) 47) ((nI p0)).toNatClampNeg (nI cnt)) = f3 at Y
  refine lv_aload_n X.1 X.2.1 d_setKeys_17 rfl (lv_at hl 0 rfl) ?_
  refine lv_aload_n X.1 X.2.1 d_setKeys_18 rfl (lv_at hl 0 rfl) ?_
  refine m_get X Y 44 (by decide) lk_names (gf_names _ _ _) rfl d_setKeys_19 ?_
  refine lv_bipush (v := (nI 40)) X.1 X.2.1 d_setKeys_22 (by decide) ?_
  refine lv_iload_n X.1 X.2.1 d_setKeys_24 rfl (lv_at hl 1 rfl) ?_
  refine lv_imul X.1 X.2.1 d_setKeys_25 ?_
  refine t_eq (y := nI ((40) * (p0))) (pk_mul _ _) ?_
  refine lv_aload_n X.1 X.2.1 d_setKeys_26 rfl (lv_at hl 0 rfl) ?_
  refine m_get X Y 45 (by decide) lk_nameSizes (gf_nameSizes _ _ _) rfl d_setKeys_27 ?_
  refine lv_iload_n X.1 X.2.1 d_setKeys_30 rfl (lv_at hl 1 rfl) ?_
  refine m_iald X Y (aw_nameSizes _ _ _ _ _ _ _) (vp_in_nI (by omega) (by decide)) d_setKeys_31 ?_
  refine t_eq (show (upB (upB B 46 f1) 47 f3) 45 ((nI p0)).toNatClampNeg = nI (ns) from (by rw [nI_clamp (by omega)]; exact hns)) ?_
  refine m_callv (As := [.ref (q 44), .int (nI ((40) * (p0))), .int (nI (ns))]) (rest := []) (n := 3) X Y hZ hA hml hl.1 (c_saltOf_names l D E h q H.size I J (upB (upB B 46 f1) 47 f3) G ((40) * (p0)) (ns) (by omega) (by omega)) kl_saltOf ks_saltOf kx_saltOf ki_saltOf ini_M hd_saltOf ⟨by decide, by decide⟩ rfl (Nat.le_of_ble_eq_true rfl) d_setKeys_32 ⟨Nat.le_refl _, Nat.le_refl _⟩ (fun u H locs hp Y => ?_)
  obtain ⟨I4, J5, B6, G7⟩ := u
  obtain ⟨hI8, eJ10, hB9, eG11, hx13⟩ := hp
  dsimp only at hI8 eJ10 hB9 eG11 hx13 Y
  rw [eJ10, eG11] at Y
  have hI14 : (∀ j, j ≠ 8 → j ≠ 14 → j ≠ 18 → j ≠ 29 → I4 j = I j) := fun j h8 h14 h18 h29 => (hI8 j h29).trans ((fun j h8 h14 h18 h29 => rfl) j h8 h14 h18 h29)
  have hB15 : (∀ j, j ≠ 5 → j ≠ 6 → j ≠ 7 → j ≠ 9 → j ≠ 10 → j ≠ 11 → j ≠ 12 → j ≠ 13 → j ≠ 15 → j ≠ 16 → j ≠ 17 → j ≠ 19 → j ≠ 20 → j ≠ 21 → j ≠ 24 → j ≠ 26 → j ≠ 27 → j ≠ 46 → j ≠ 47 → j ≠ 52 → j ≠ 56 → B6 j = B j) := fun j h5 h6 h7 h9 h10 h11 h12 h13 h15 h16 h17 h19 h20 h21 h24 h26 h27 h46 h47 h52 h56 => (hB9 j h24).trans ((fun j h5 h6 h7 h9 h10 h11 h12 h13 h15 h16 h17 h19 h20 h21 h24 h26 h27 h46 h47 h52 h56 => ((if_neg h47).trans ((if_neg h46).trans rfl))) j h5 h6 h7 h9 h10 h11 h12 h13 h15 h16 h17 h19 h20 h21 h24 h26 h27 h46 h47 h52 h56)
  obtain ⟨sm, hsm1, hsm2⟩ := hx13
  refine lv_iconst (v := (nI 0)) X.1 X.2.1 d_setKeys_35 (by decide) ?_
  refine lv_istore_n (lv' := [(3, .int (nI 0)), (0, .ref h), (1, .int (nI p0)), (2, .int (nI cnt))]) X.1 X.2.1 d_setKeys_36 rfl hl (by decide) rfl (fun ls hl => ?_)
  have lp19 : ∀ (n16 i17 : Nat) (I20 : Nat → Int32) (B21 : Nat → Nat → Int32) (H : Heap) (locs : List Loc) (ls : Array Slot), i17 + n16 = 2 → 0 ≤ i17 → (∀ j, j ≠ 5 → j ≠ 6 → j ≠ 7 → j ≠ 9 → j ≠ 10 → j ≠ 11 → j ≠ 12 → j ≠ 13 → j ≠ 15 → j ≠ 16 → j ≠ 17 → j ≠ 19 → j ≠ 20 → j ≠ 21 → j ≠ 24 → j ≠ 26 → j ≠ 27 → j ≠ 46 → j ≠ 47 → j ≠ 52 → j ≠ 56 → B21 j = B j) → (∀ j, j ≠ 8 → j ≠ 14 → j ≠ 18 → j ≠ 29 → I20 j = I j) → by8 (B21 12) → by8 (B21 13) → by8 (B21 16) → by8 (B21 17) → (B21 46) p0 = nI (v + 1) → I20 30 = nI (pm) → I20 29 = nI (sm) → mH D E (mA E h q sz) s.heap h q I20 J B21 G H locs → lv_has ls 5 [(3, .int (nI i17)), (0, .ref h), (1, .int (nI p0)), (2, .int (nI cnt))] → W p l e (mR 6 148) s m AV below meth c H locs 0 0 QQ (F0 m 37 ls []) := by
    intro n16
    induction n16 with
    | zero =>
      intro i17 I20 B21 H locs ls hii17 hsi17 hB22 hI23 y24 y25 y26 y27 g28 hk29 hk30  Y hl
      refine lv_iload_n X.1 X.2.1 d_setKeys_37 rfl (lv_at hl 0 rfl) ?_
      refine lv_iconst (v := (nI 2)) X.1 X.2.1 d_setKeys_38 (by decide) ?_
      refine lv_icmp_ge (tgt := 133) X.1 X.2.1 d_setKeys_39 (by decide) (fun c31 => ?_) (fun c31 => absurd ?_ c31)
      rotate_left
      · (rw [nI_leI (by omega) (by omega)] <;> omega)
      rw [nI_leI (by omega) (by omega)] at c31
      exact m_retv hQQ X Y hr hlk ⟨(fun j h8 h14 h18 h29 => (hI23 j h8 h14 h18 h29)), rfl, (fun j h5 h6 h7 h9 h10 h11 h12 h13 h15 h16 h17 h19 h20 h21 h24 h26 h27 h46 h47 h52 h56 => (hB22 j h5 h6 h7 h9 h10 h11 h12 h13 h15 h16 h17 h19 h20 h21 h24 h26 h27 h46 h47 h52 h56)), rfl, (show by8 (B21 12) from y24), (show by8 (B21 13) from y25), (show by8 (B21 16) from y26), (show by8 (B21 17) from y27), (show B21 46 p0 = nI (v + 1) from g28)⟩ d_setKeys_133
    | succ n16 ih18 =>
      intro i17 I20 B21 H locs ls hii17 hsi17 hB22 hI23 y24 y25 y26 y27 g28 hk29 hk30  Y hl
      refine lv_iload_n X.1 X.2.1 d_setKeys_37 rfl (lv_at hl 0 rfl) ?_
      refine lv_iconst (v := (nI 2)) X.1 X.2.1 d_setKeys_38 (by decide) ?_
      refine lv_icmp_ge (tgt := 133) X.1 X.2.1 d_setKeys_39 (by decide) (fun c32 => absurd c32 ?_) (fun c32 => ?_)
      · (rw [nI_leI (by omega) (by omega)] <;> omega)
      rw [nI_leI (by omega) (by omega)] at c32
      refine lv_aload_n X.1 X.2.1 d_setKeys_42 rfl (lv_at hl 1 rfl) ?_
      refine lv_iload_n X.1 X.2.1 d_setKeys_43 rfl (lv_at hl 0 rfl) ?_
      refine lv_if_ne (tgt := 52) X.1 X.2.1 d_setKeys_44 (by decide) (fun c33 => ?_) (fun c33 => ?_)
      · skip
        rw [← nI_0] at c33
        rw [nI_eq (by omega) (by omega)] at c33
        refine lv_bipush (v := (nI 32)) X.1 X.2.1 d_setKeys_52 (by decide) ?_
        refine lv_iload_n X.1 X.2.1 d_setKeys_54 rfl (lv_at hl 3 rfl) ?_
        refine lv_aload_n X.1 X.2.1 d_setKeys_55 rfl (lv_at hl 1 rfl) ?_
        refine m_get X Y 56 (by decide) lk_made (gf_made _ _ _) rfl d_setKeys_56 ?_
        refine m_callv (As := [.int (nI 32), .int (nI cnt), .ref (q 56)]) (rest := []) (n := 3) X Y hZ hA hml hl.1 (c_passwordKey_32 l D E h q H.size I20 J B21 G (cnt) (pm) (sm) (by omega) (by omega) hk29 (by omega) hk30 (by omega) (show by8 (B21 12) from y24) (show by8 (B21 13) from y25) (show by8 (B21 16) from y26) (show by8 (B21 17) from y27)) kl_passwordKey ks_passwordKey kx_passwordKey ki_passwordKey ini_M hd_passwordKey ⟨by decide, by decide⟩ rfl (Nat.le_of_ble_eq_true rfl) d_setKeys_59 ⟨Nat.le_refl _, Nat.le_refl _⟩ (fun u H locs hp Y => ?_)
        obtain ⟨I34, J35, B36, G37⟩ := u
        obtain ⟨hI38, eJ40, hB39, eG41, y43, y44, y45, y46⟩ := hp
        dsimp only at hI38 eJ40 hB39 eG41 y43 y44 y45 y46 Y
        rw [eJ40, eG41] at Y
        have hI47 : (∀ j, j ≠ 8 → j ≠ 14 → j ≠ 18 → j ≠ 29 → I34 j = I j) := fun j h8 h14 h18 h29 => (hI38 j h8 h14 h18).trans ((fun j h8 h14 h18 h29 => (hI23 j h8 h14 h18 h29)) j h8 h14 h18 h29)
        have hB48 : (∀ j, j ≠ 5 → j ≠ 6 → j ≠ 7 → j ≠ 9 → j ≠ 10 → j ≠ 11 → j ≠ 12 → j ≠ 13 → j ≠ 15 → j ≠ 16 → j ≠ 17 → j ≠ 19 → j ≠ 20 → j ≠ 21 → j ≠ 24 → j ≠ 26 → j ≠ 27 → j ≠ 46 → j ≠ 47 → j ≠ 52 → j ≠ 56 → B36 j = B j) := fun j h5 h6 h7 h9 h10 h11 h12 h13 h15 h16 h17 h19 h20 h21 h24 h26 h27 h46 h47 h52 h56 => (hB39 j h5 h6 h7 h9 h10 h11 h12 h13 h15 h16 h17 h19 h20 h21 h26 h27 h56).trans ((fun j h5 h6 h7 h9 h10 h11 h12 h13 h15 h16 h17 h19 h20 h21 h24 h26 h27 h46 h47 h52 h56 => (hB22 j h5 h6 h7 h9 h10 h11 h12 h13 h15 h16 h17 h19 h20 h21 h24 h26 h27 h46 h47 h52 h56)) j h5 h6 h7 h9 h10 h11 h12 h13 h15 h16 h17 h19 h20 h21 h24 h26 h27 h46 h47 h52 h56)
        refine lv_iconst (v := (nI 0)) X.1 X.2.1 d_setKeys_62 (by decide) ?_
        refine lv_istore (lv' := [(4, .int (nI 0)), (3, .int (nI i17)), (0, .ref h), (1, .int (nI p0)), (2, .int (nI cnt))]) X.1 X.2.1 d_setKeys_63 hl (by decide) rfl (fun ls hl => ?_)
        have lp52 : ∀ (n49 i50 : Nat) (B53 : Nat → Nat → Int32) (H : Heap) (locs : List Loc) (ls : Array Slot), i50 + n49 = 32 → 0 ≤ i50 → (∀ j, j ≠ 5 → j ≠ 6 → j ≠ 7 → j ≠ 9 → j ≠ 10 → j ≠ 11 → j ≠ 12 → j ≠ 13 → j ≠ 15 → j ≠ 16 → j ≠ 17 → j ≠ 19 → j ≠ 20 → j ≠ 21 → j ≠ 24 → j ≠ 26 → j ≠ 27 → j ≠ 46 → j ≠ 47 → j ≠ 52 → j ≠ 56 → B53 j = B j) → by8 (B53 12) → by8 (B53 13) → by8 (B53 16) → by8 (B53 17) → (B53 46) p0 = nI (v + 1) → mH D E (mA E h q sz) s.heap h q I34 J B53 G H locs → lv_has ls 5 [(4, .int (nI i50)), (3, .int (nI i17)), (0, .ref h), (1, .int (nI p0)), (2, .int (nI cnt))] → W p l e (mR 6 148) s m AV below meth c H locs 0 0 QQ (F0 m 65 ls []) := by
          intro n49
          induction n49 with
          | zero =>
            intro i50 B53 H locs ls hii50 hsi50 hB54 y55 y56 y57 y58 g59  Y hl
            refine lv_iload X.1 X.2.1 d_setKeys_65 (lv_at hl 0 rfl) ?_
            refine lv_bipush (v := (nI 32)) X.1 X.2.1 d_setKeys_67 (by decide) ?_
            refine lv_icmp_ge (tgt := 127) X.1 X.2.1 d_setKeys_69 (by decide) (fun c60 => ?_) (fun c60 => absurd ?_ c60)
            rotate_left
            · (rw [nI_leI (by omega) (by omega)] <;> omega)
            rw [nI_leI (by omega) (by omega)] at c60
            refine lv_iinc (v := (nI (i17 + 1))) (lv' := [(3, .int (nI (i17 + 1))), (4, .int (nI i50)), (0, .ref h), (1, .int (nI p0)), (2, .int (nI cnt))]) X.1 X.2.1 d_setKeys_127 hl (k := 1) rfl (nI_add _ 1) (by decide) rfl (fun ls hl => ?_)
            refine lv_goto (tgt := 37) X.1 X.2.1 d_setKeys_130 (by decide) ?_
            exact ih18 (i17 + 1) I34 B53 _ _ _ (by omega) (by omega) (fun j h5 h6 h7 h9 h10 h11 h12 h13 h15 h16 h17 h19 h20 h21 h24 h26 h27 h46 h47 h52 h56 => (hB54 j h5 h6 h7 h9 h10 h11 h12 h13 h15 h16 h17 h19 h20 h21 h24 h26 h27 h46 h47 h52 h56)) (fun j h8 h14 h18 h29 => (hI47 j h8 h14 h18 h29)) (show by8 (B53 12) from y55) (show by8 (B53 13) from y56) (show by8 (B53 16) from y57) (show by8 (B53 17) from y58) (show (B53 46) p0 = nI (v + 1) from g59) ((show I34 30 = nI (pm) from ((hI38 30 (by decide) (by decide) (by decide)).trans hk29)).trans (congrArg nI (show (pm : Nat) = pm by omega))) ((show I34 29 = nI (sm) from ((hI38 29 (by decide) (by decide) (by decide)).trans hk30)).trans (congrArg nI (show (sm : Nat) = sm by omega)))  Y (lv_sub hl [0, 2, 3, 4] rfl)
          | succ n49 ih51 =>
            intro i50 B53 H locs ls hii50 hsi50 hB54 y55 y56 y57 y58 g59  Y hl
            refine lv_iload X.1 X.2.1 d_setKeys_65 (lv_at hl 0 rfl) ?_
            refine lv_bipush (v := (nI 32)) X.1 X.2.1 d_setKeys_67 (by decide) ?_
            refine lv_icmp_ge (tgt := 127) X.1 X.2.1 d_setKeys_69 (by decide) (fun c61 => absurd c61 ?_) (fun c61 => ?_)
            · (rw [nI_leI (by omega) (by omega)] <;> omega)
            rw [nI_leI (by omega) (by omega)] at c61
            refine lv_aload_n X.1 X.2.1 d_setKeys_72 rfl (lv_at hl 2 rfl) ?_
            refine m_get X Y 52 (by decide) lk_keys (gf_keys _ _ _) rfl d_setKeys_73 ?_
            refine lv_bipush (v := (nI 32)) X.1 X.2.1 d_setKeys_76 (by decide) ?_
            refine lv_iconst (v := (nI 4)) X.1 X.2.1 d_setKeys_78 (by decide) ?_
            refine lv_iload_n X.1 X.2.1 d_setKeys_79 rfl (lv_at hl 3 rfl) ?_
            refine lv_imul X.1 X.2.1 d_setKeys_80 ?_
            refine t_eq (y := nI ((4) * (p0))) (pk_mul _ _) ?_
            refine lv_iconst (v := (nI 2)) X.1 X.2.1 d_setKeys_81 (by decide) ?_
            refine lv_aload_n X.1 X.2.1 d_setKeys_82 rfl (lv_at hl 2 rfl) ?_
            refine m_get X Y 46 (by decide) lk_versions (gf_versions _ _ _) rfl d_setKeys_83 ?_
            refine lv_iload_n X.1 X.2.1 d_setKeys_86 rfl (lv_at hl 3 rfl) ?_
            refine m_iald X Y (aw_versions _ _ _ _ _ _ _) (vp_in_nI (by omega) (by decide)) d_setKeys_87 ?_
            refine t_eq (show B53 46 ((nI p0)).toNatClampNeg = nI (v + 1) from (by rw [nI_clamp (by omega)]; exact g59)) ?_
            refine lv_iconst (v := (nI 2)) X.1 X.2.1 d_setKeys_88 (by decide) ?_
            refine lv_irem X.1 X.2.1 d_setKeys_89 (nI_ne0 (by omega) (by omega)) ?_
            refine t_eq (y := nI ((v + 1) % (2))) (pk_rem (by omega) (by omega) (by omega)) ?_
            refine lv_imul X.1 X.2.1 d_setKeys_90 ?_
            refine t_eq (y := nI ((2) * ((v + 1) % (2)))) (pk_mul _ _) ?_
            refine lv_iadd X.1 X.2.1 d_setKeys_91 ?_
            refine t_eq (y := nI ((4) * (p0) + (2) * ((v + 1) % (2)))) (nI_add _ _) ?_
            refine lv_iload_n X.1 X.2.1 d_setKeys_92 rfl (lv_at hl 1 rfl) ?_
            refine lv_iadd X.1 X.2.1 d_setKeys_93 ?_
            refine t_eq (y := nI ((4) * (p0) + (2) * ((v + 1) % (2)) + i17)) (nI_add _ _) ?_
            refine lv_imul X.1 X.2.1 d_setKeys_94 ?_
            refine t_eq (y := nI ((32) * ((4) * (p0) + (2) * ((v + 1) % (2)) + i17))) (pk_mul _ _) ?_
            refine lv_iload X.1 X.2.1 d_setKeys_95 (lv_at hl 0 rfl) ?_
            refine lv_iadd X.1 X.2.1 d_setKeys_97 ?_
            refine t_eq (y := nI ((32) * ((4) * (p0) + (2) * ((v + 1) % (2)) + i17) + i50)) (nI_add _ _) ?_
            have jn63 : ∀ w62 : Int32, W p l e (mR 6 148) s m AV below meth c H locs 0 0 QQ (F0 m 120 ls [.int w62, .int (nI ((32) * ((4) * (p0) + (2) * ((v + 1) % (2)) + i17) + i50)), .ref (q 52)]) := by
              intro w62
              refine m_bast X Y (aw_keys _ _ _ _ _ _ _) (vp_in_nI (by omega) (by decide)) (sw_keys _ _ _ _ _ _ _ _) d_setKeys_120 (fun H locs Y => ?_)
              generalize (upd (B53 52) ((nI ((32) * ((4) * (p0) + (2) * ((v + 1) % (2)) + i17) + i50))).toNatClampNeg (vp_nar .byte w62)) = f64 at Y
              refine lv_iinc (v := (nI (i50 + 1))) (lv' := [(4, .int (nI (i50 + 1))), (3, .int (nI i17)), (0, .ref h), (1, .int (nI p0)), (2, .int (nI cnt))]) X.1 X.2.1 d_setKeys_121 hl (k := 0) rfl (nI_add _ 1) (by decide) rfl (fun ls hl => ?_)
              refine lv_goto (tgt := 65) X.1 X.2.1 d_setKeys_124 (by decide) ?_
              exact ih51 (i50 + 1) (upB B53 52 f64) _ _ _ (by omega) (by omega) (fun j h5 h6 h7 h9 h10 h11 h12 h13 h15 h16 h17 h19 h20 h21 h24 h26 h27 h46 h47 h52 h56 => ((if_neg h52).trans (hB54 j h5 h6 h7 h9 h10 h11 h12 h13 h15 h16 h17 h19 h20 h21 h24 h26 h27 h46 h47 h52 h56))) (show by8 ((upB B53 52 f64) 12) from y55) (show by8 ((upB B53 52 f64) 13) from y56) (show by8 ((upB B53 52 f64) 16) from y57) (show by8 ((upB B53 52 f64) 17) from y58) (show ((upB B53 52 f64) 46) p0 = nI (v + 1) from g59)  Y (lv_sub hl [0, 1, 2, 3, 4] rfl)
            refine lv_iload_n X.1 X.2.1 d_setKeys_98 rfl (lv_at hl 1 rfl) ?_
            refine lv_if_ne (tgt := 113) X.1 X.2.1 d_setKeys_99 (by decide) (fun c65 => ?_) (fun c65 => ?_)
            · skip
              rw [← nI_0] at c65
              rw [nI_eq (by omega) (by omega)] at c65
              refine lv_aload_n X.1 X.2.1 d_setKeys_113 rfl (lv_at hl 2 rfl) ?_
              refine m_get X Y 56 (by decide) lk_made (gf_made _ _ _) rfl d_setKeys_114 ?_
              refine lv_iload X.1 X.2.1 d_setKeys_117 (lv_at hl 0 rfl) ?_
              refine m_bald X Y (aw_made _ _ _ _ _ _ _) (vp_in_nI (by omega) (by decide)) d_setKeys_119 ?_
              refine t_any (fun v66 => ?_)
              exact jn63 _
            · skip
              rw [← nI_0] at c65
              rw [nI_eq (by omega) (by omega)] at c65
              refine lv_iload X.1 X.2.1 d_setKeys_102 (lv_at hl 0 rfl) ?_
              refine lv_bipush (v := (nI 15)) X.1 X.2.1 d_setKeys_104 (by decide) ?_
              refine lv_icmp_le (tgt := 113) X.1 X.2.1 d_setKeys_106 (by decide) (fun c67 => ?_) (fun c67 => ?_)
              · skip
                rw [nI_leI (by omega) (by omega)] at c67
                refine lv_aload_n X.1 X.2.1 d_setKeys_113 rfl (lv_at hl 2 rfl) ?_
                refine m_get X Y 56 (by decide) lk_made (gf_made _ _ _) rfl d_setKeys_114 ?_
                refine lv_iload X.1 X.2.1 d_setKeys_117 (lv_at hl 0 rfl) ?_
                refine m_bald X Y (aw_made _ _ _ _ _ _ _) (vp_in_nI (by omega) (by decide)) d_setKeys_119 ?_
                refine t_any (fun v68 => ?_)
                exact jn63 _
              · skip
                rw [nI_leI (by omega) (by omega)] at c67
                refine lv_iconst (v := (nI 0)) X.1 X.2.1 d_setKeys_109 (by decide) ?_
                refine lv_goto (tgt := 120) X.1 X.2.1 d_setKeys_110 (by decide) ?_
                exact jn63 _
        exact lp52 (32) 0 B36 _ _ _ (by omega) (by omega) (fun j h5 h6 h7 h9 h10 h11 h12 h13 h15 h16 h17 h19 h20 h21 h24 h26 h27 h46 h47 h52 h56 => (hB48 j h5 h6 h7 h9 h10 h11 h12 h13 h15 h16 h17 h19 h20 h21 h24 h26 h27 h46 h47 h52 h56)) (show by8 (B36 12) from y43) (show by8 (B36 13) from y44) (show by8 (B36 16) from y45) (show by8 (B36 17) from y46) (show (B36 46) p0 = nI (v + 1) from (by rw [hB39 46 (by decide) (by decide) (by decide) (by decide) (by decide) (by decide) (by decide) (by decide) (by decide) (by decide) (by decide) (by decide) (by decide) (by decide) (by decide) (by decide) (by decide)]; exact (show (B21 46) p0 = nI (v + 1) from g28)))  Y (lv_sub hl [0, 1, 2, 3, 4] rfl)
      · skip
        rw [← nI_0] at c33
        rw [nI_eq (by omega) (by omega)] at c33
        refine lv_bipush (v := (nI 16)) X.1 X.2.1 d_setKeys_47 (by decide) ?_
        refine lv_goto (tgt := 54) X.1 X.2.1 d_setKeys_49 (by decide) ?_
        refine lv_iload_n X.1 X.2.1 d_setKeys_54 rfl (lv_at hl 3 rfl) ?_
        refine lv_aload_n X.1 X.2.1 d_setKeys_55 rfl (lv_at hl 1 rfl) ?_
        refine m_get X Y 56 (by decide) lk_made (gf_made _ _ _) rfl d_setKeys_56 ?_
        refine m_callv (As := [.int (nI 16), .int (nI cnt), .ref (q 56)]) (rest := []) (n := 3) X Y hZ hA hml hl.1 (c_passwordKey_16 l D E h q H.size I20 J B21 G (cnt) (pm) (sm) (by omega) (by omega) hk29 (by omega) hk30 (by omega) (show by8 (B21 12) from y24) (show by8 (B21 13) from y25) (show by8 (B21 16) from y26) (show by8 (B21 17) from y27)) kl_passwordKey ks_passwordKey kx_passwordKey ki_passwordKey ini_M hd_passwordKey ⟨by decide, by decide⟩ rfl (Nat.le_of_ble_eq_true rfl) d_setKeys_59 ⟨Nat.le_refl _, Nat.le_refl _⟩ (fun u H locs hp Y => ?_)
        obtain ⟨I69, J70, B71, G72⟩ := u
        obtain ⟨hI73, eJ75, hB74, eG76, y78, y79, y80, y81⟩ := hp
        dsimp only at hI73 eJ75 hB74 eG76 y78 y79 y80 y81 Y
        rw [eJ75, eG76] at Y
        have hI82 : (∀ j, j ≠ 8 → j ≠ 14 → j ≠ 18 → j ≠ 29 → I69 j = I j) := fun j h8 h14 h18 h29 => (hI73 j h8 h14 h18).trans ((fun j h8 h14 h18 h29 => (hI23 j h8 h14 h18 h29)) j h8 h14 h18 h29)
        have hB83 : (∀ j, j ≠ 5 → j ≠ 6 → j ≠ 7 → j ≠ 9 → j ≠ 10 → j ≠ 11 → j ≠ 12 → j ≠ 13 → j ≠ 15 → j ≠ 16 → j ≠ 17 → j ≠ 19 → j ≠ 20 → j ≠ 21 → j ≠ 24 → j ≠ 26 → j ≠ 27 → j ≠ 46 → j ≠ 47 → j ≠ 52 → j ≠ 56 → B71 j = B j) := fun j h5 h6 h7 h9 h10 h11 h12 h13 h15 h16 h17 h19 h20 h21 h24 h26 h27 h46 h47 h52 h56 => (hB74 j h5 h6 h7 h9 h10 h11 h12 h13 h15 h16 h17 h19 h20 h21 h26 h27 h56).trans ((fun j h5 h6 h7 h9 h10 h11 h12 h13 h15 h16 h17 h19 h20 h21 h24 h26 h27 h46 h47 h52 h56 => (hB22 j h5 h6 h7 h9 h10 h11 h12 h13 h15 h16 h17 h19 h20 h21 h24 h26 h27 h46 h47 h52 h56)) j h5 h6 h7 h9 h10 h11 h12 h13 h15 h16 h17 h19 h20 h21 h24 h26 h27 h46 h47 h52 h56)
        refine lv_iconst (v := (nI 0)) X.1 X.2.1 d_setKeys_62 (by decide) ?_
        refine lv_istore (lv' := [(4, .int (nI 0)), (3, .int (nI i17)), (0, .ref h), (1, .int (nI p0)), (2, .int (nI cnt))]) X.1 X.2.1 d_setKeys_63 hl (by decide) rfl (fun ls hl => ?_)
        have lp87 : ∀ (n84 i85 : Nat) (B88 : Nat → Nat → Int32) (H : Heap) (locs : List Loc) (ls : Array Slot), i85 + n84 = 32 → 0 ≤ i85 → (∀ j, j ≠ 5 → j ≠ 6 → j ≠ 7 → j ≠ 9 → j ≠ 10 → j ≠ 11 → j ≠ 12 → j ≠ 13 → j ≠ 15 → j ≠ 16 → j ≠ 17 → j ≠ 19 → j ≠ 20 → j ≠ 21 → j ≠ 24 → j ≠ 26 → j ≠ 27 → j ≠ 46 → j ≠ 47 → j ≠ 52 → j ≠ 56 → B88 j = B j) → by8 (B88 12) → by8 (B88 13) → by8 (B88 16) → by8 (B88 17) → (B88 46) p0 = nI (v + 1) → mH D E (mA E h q sz) s.heap h q I69 J B88 G H locs → lv_has ls 5 [(4, .int (nI i85)), (3, .int (nI i17)), (0, .ref h), (1, .int (nI p0)), (2, .int (nI cnt))] → W p l e (mR 6 148) s m AV below meth c H locs 0 0 QQ (F0 m 65 ls []) := by
          intro n84
          induction n84 with
          | zero =>
            intro i85 B88 H locs ls hii85 hsi85 hB89 y90 y91 y92 y93 g94  Y hl
            refine lv_iload X.1 X.2.1 d_setKeys_65 (lv_at hl 0 rfl) ?_
            refine lv_bipush (v := (nI 32)) X.1 X.2.1 d_setKeys_67 (by decide) ?_
            refine lv_icmp_ge (tgt := 127) X.1 X.2.1 d_setKeys_69 (by decide) (fun c95 => ?_) (fun c95 => absurd ?_ c95)
            rotate_left
            · (rw [nI_leI (by omega) (by omega)] <;> omega)
            rw [nI_leI (by omega) (by omega)] at c95
            refine lv_iinc (v := (nI (i17 + 1))) (lv' := [(3, .int (nI (i17 + 1))), (4, .int (nI i85)), (0, .ref h), (1, .int (nI p0)), (2, .int (nI cnt))]) X.1 X.2.1 d_setKeys_127 hl (k := 1) rfl (nI_add _ 1) (by decide) rfl (fun ls hl => ?_)
            refine lv_goto (tgt := 37) X.1 X.2.1 d_setKeys_130 (by decide) ?_
            exact ih18 (i17 + 1) I69 B88 _ _ _ (by omega) (by omega) (fun j h5 h6 h7 h9 h10 h11 h12 h13 h15 h16 h17 h19 h20 h21 h24 h26 h27 h46 h47 h52 h56 => (hB89 j h5 h6 h7 h9 h10 h11 h12 h13 h15 h16 h17 h19 h20 h21 h24 h26 h27 h46 h47 h52 h56)) (fun j h8 h14 h18 h29 => (hI82 j h8 h14 h18 h29)) (show by8 (B88 12) from y90) (show by8 (B88 13) from y91) (show by8 (B88 16) from y92) (show by8 (B88 17) from y93) (show (B88 46) p0 = nI (v + 1) from g94) ((show I69 30 = nI (pm) from ((hI73 30 (by decide) (by decide) (by decide)).trans hk29)).trans (congrArg nI (show (pm : Nat) = pm by omega))) ((show I69 29 = nI (sm) from ((hI73 29 (by decide) (by decide) (by decide)).trans hk30)).trans (congrArg nI (show (sm : Nat) = sm by omega)))  Y (lv_sub hl [0, 2, 3, 4] rfl)
          | succ n84 ih86 =>
            intro i85 B88 H locs ls hii85 hsi85 hB89 y90 y91 y92 y93 g94  Y hl
            refine lv_iload X.1 X.2.1 d_setKeys_65 (lv_at hl 0 rfl) ?_
            refine lv_bipush (v := (nI 32)) X.1 X.2.1 d_setKeys_67 (by decide) ?_
            refine lv_icmp_ge (tgt := 127) X.1 X.2.1 d_setKeys_69 (by decide) (fun c96 => absurd c96 ?_) (fun c96 => ?_)
            · (rw [nI_leI (by omega) (by omega)] <;> omega)
            rw [nI_leI (by omega) (by omega)] at c96
            refine lv_aload_n X.1 X.2.1 d_setKeys_72 rfl (lv_at hl 2 rfl) ?_
            refine m_get X Y 52 (by decide) lk_keys (gf_keys _ _ _) rfl d_setKeys_73 ?_
            refine lv_bipush (v := (nI 32)) X.1 X.2.1 d_setKeys_76 (by decide) ?_
            refine lv_iconst (v := (nI 4)) X.1 X.2.1 d_setKeys_78 (by decide) ?_
            refine lv_iload_n X.1 X.2.1 d_setKeys_79 rfl (lv_at hl 3 rfl) ?_
            refine lv_imul X.1 X.2.1 d_setKeys_80 ?_
            refine t_eq (y := nI ((4) * (p0))) (pk_mul _ _) ?_
            refine lv_iconst (v := (nI 2)) X.1 X.2.1 d_setKeys_81 (by decide) ?_
            refine lv_aload_n X.1 X.2.1 d_setKeys_82 rfl (lv_at hl 2 rfl) ?_
            refine m_get X Y 46 (by decide) lk_versions (gf_versions _ _ _) rfl d_setKeys_83 ?_
            refine lv_iload_n X.1 X.2.1 d_setKeys_86 rfl (lv_at hl 3 rfl) ?_
            refine m_iald X Y (aw_versions _ _ _ _ _ _ _) (vp_in_nI (by omega) (by decide)) d_setKeys_87 ?_
            refine t_eq (show B88 46 ((nI p0)).toNatClampNeg = nI (v + 1) from (by rw [nI_clamp (by omega)]; exact g94)) ?_
            refine lv_iconst (v := (nI 2)) X.1 X.2.1 d_setKeys_88 (by decide) ?_
            refine lv_irem X.1 X.2.1 d_setKeys_89 (nI_ne0 (by omega) (by omega)) ?_
            refine t_eq (y := nI ((v + 1) % (2))) (pk_rem (by omega) (by omega) (by omega)) ?_
            refine lv_imul X.1 X.2.1 d_setKeys_90 ?_
            refine t_eq (y := nI ((2) * ((v + 1) % (2)))) (pk_mul _ _) ?_
            refine lv_iadd X.1 X.2.1 d_setKeys_91 ?_
            refine t_eq (y := nI ((4) * (p0) + (2) * ((v + 1) % (2)))) (nI_add _ _) ?_
            refine lv_iload_n X.1 X.2.1 d_setKeys_92 rfl (lv_at hl 1 rfl) ?_
            refine lv_iadd X.1 X.2.1 d_setKeys_93 ?_
            refine t_eq (y := nI ((4) * (p0) + (2) * ((v + 1) % (2)) + i17)) (nI_add _ _) ?_
            refine lv_imul X.1 X.2.1 d_setKeys_94 ?_
            refine t_eq (y := nI ((32) * ((4) * (p0) + (2) * ((v + 1) % (2)) + i17))) (pk_mul _ _) ?_
            refine lv_iload X.1 X.2.1 d_setKeys_95 (lv_at hl 0 rfl) ?_
            refine lv_iadd X.1 X.2.1 d_setKeys_97 ?_
            refine t_eq (y := nI ((32) * ((4) * (p0) + (2) * ((v + 1) % (2)) + i17) + i85)) (nI_add _ _) ?_
            have jn98 : ∀ w97 : Int32, W p l e (mR 6 148) s m AV below meth c H locs 0 0 QQ (F0 m 120 ls [.int w97, .int (nI ((32) * ((4) * (p0) + (2) * ((v + 1) % (2)) + i17) + i85)), .ref (q 52)]) := by
              intro w97
              refine m_bast X Y (aw_keys _ _ _ _ _ _ _) (vp_in_nI (by omega) (by decide)) (sw_keys _ _ _ _ _ _ _ _) d_setKeys_120 (fun H locs Y => ?_)
              generalize (upd (B88 52) ((nI ((32) * ((4) * (p0) + (2) * ((v + 1) % (2)) + i17) + i85))).toNatClampNeg (vp_nar .byte w97)) = f99 at Y
              refine lv_iinc (v := (nI (i85 + 1))) (lv' := [(4, .int (nI (i85 + 1))), (3, .int (nI i17)), (0, .ref h), (1, .int (nI p0)), (2, .int (nI cnt))]) X.1 X.2.1 d_setKeys_121 hl (k := 0) rfl (nI_add _ 1) (by decide) rfl (fun ls hl => ?_)
              refine lv_goto (tgt := 65) X.1 X.2.1 d_setKeys_124 (by decide) ?_
              exact ih86 (i85 + 1) (upB B88 52 f99) _ _ _ (by omega) (by omega) (fun j h5 h6 h7 h9 h10 h11 h12 h13 h15 h16 h17 h19 h20 h21 h24 h26 h27 h46 h47 h52 h56 => ((if_neg h52).trans (hB89 j h5 h6 h7 h9 h10 h11 h12 h13 h15 h16 h17 h19 h20 h21 h24 h26 h27 h46 h47 h52 h56))) (show by8 ((upB B88 52 f99) 12) from y90) (show by8 ((upB B88 52 f99) 13) from y91) (show by8 ((upB B88 52 f99) 16) from y92) (show by8 ((upB B88 52 f99) 17) from y93) (show ((upB B88 52 f99) 46) p0 = nI (v + 1) from g94)  Y (lv_sub hl [0, 1, 2, 3, 4] rfl)
            refine lv_iload_n X.1 X.2.1 d_setKeys_98 rfl (lv_at hl 1 rfl) ?_
            refine lv_if_ne (tgt := 113) X.1 X.2.1 d_setKeys_99 (by decide) (fun c100 => ?_) (fun c100 => ?_)
            · skip
              rw [← nI_0] at c100
              rw [nI_eq (by omega) (by omega)] at c100
              refine lv_aload_n X.1 X.2.1 d_setKeys_113 rfl (lv_at hl 2 rfl) ?_
              refine m_get X Y 56 (by decide) lk_made (gf_made _ _ _) rfl d_setKeys_114 ?_
              refine lv_iload X.1 X.2.1 d_setKeys_117 (lv_at hl 0 rfl) ?_
              refine m_bald X Y (aw_made _ _ _ _ _ _ _) (vp_in_nI (by omega) (by decide)) d_setKeys_119 ?_
              refine t_any (fun v101 => ?_)
              exact jn98 _
            · skip
              rw [← nI_0] at c100
              rw [nI_eq (by omega) (by omega)] at c100
              refine lv_iload X.1 X.2.1 d_setKeys_102 (lv_at hl 0 rfl) ?_
              refine lv_bipush (v := (nI 15)) X.1 X.2.1 d_setKeys_104 (by decide) ?_
              refine lv_icmp_le (tgt := 113) X.1 X.2.1 d_setKeys_106 (by decide) (fun c102 => ?_) (fun c102 => ?_)
              · skip
                rw [nI_leI (by omega) (by omega)] at c102
                refine lv_aload_n X.1 X.2.1 d_setKeys_113 rfl (lv_at hl 2 rfl) ?_
                refine m_get X Y 56 (by decide) lk_made (gf_made _ _ _) rfl d_setKeys_114 ?_
                refine lv_iload X.1 X.2.1 d_setKeys_117 (lv_at hl 0 rfl) ?_
                refine m_bald X Y (aw_made _ _ _ _ _ _ _) (vp_in_nI (by omega) (by decide)) d_setKeys_119 ?_
                refine t_any (fun v103 => ?_)
                exact jn98 _
              · skip
                rw [nI_leI (by omega) (by omega)] at c102
                refine lv_iconst (v := (nI 0)) X.1 X.2.1 d_setKeys_109 (by decide) ?_
                refine lv_goto (tgt := 120) X.1 X.2.1 d_setKeys_110 (by decide) ?_
                exact jn98 _
        exact lp87 (32) 0 B71 _ _ _ (by omega) (by omega) (fun j h5 h6 h7 h9 h10 h11 h12 h13 h15 h16 h17 h19 h20 h21 h24 h26 h27 h46 h47 h52 h56 => (hB83 j h5 h6 h7 h9 h10 h11 h12 h13 h15 h16 h17 h19 h20 h21 h24 h26 h27 h46 h47 h52 h56)) (show by8 (B71 12) from y78) (show by8 (B71 13) from y79) (show by8 (B71 16) from y80) (show by8 (B71 17) from y81) (show (B71 46) p0 = nI (v + 1) from (by rw [hB74 46 (by decide) (by decide) (by decide) (by decide) (by decide) (by decide) (by decide) (by decide) (by decide) (by decide) (by decide) (by decide) (by decide) (by decide) (by decide) (by decide) (by decide)]; exact (show (B21 46) p0 = nI (v + 1) from g28)))  Y (lv_sub hl [0, 1, 2, 3, 4] rfl)
  exact lp19 (2) 0 I4 B6 _ _ _ (by omega) (by omega) (fun j h5 h6 h7 h9 h10 h11 h12 h13 h15 h16 h17 h19 h20 h21 h24 h26 h27 h46 h47 h52 h56 => (hB15 j h5 h6 h7 h9 h10 h11 h12 h13 h15 h16 h17 h19 h20 h21 h24 h26 h27 h46 h47 h52 h56)) (fun j h8 h14 h18 h29 => (hI14 j h8 h14 h18 h29)) (show by8 (B6 12) from (by8_eq (hB9 12 (by decide)) y12)) (show by8 (B6 13) from (by8_eq (hB9 13 (by decide)) y13)) (show by8 (B6 16) from (by8_eq (hB9 16 (by decide)) y16)) (show by8 (B6 17) from (by8_eq (hB9 17 (by decide)) y17)) (show (B6 46) p0 = nI (v + 1) from (by rw [hB9 46 (by decide)]; exact (show ((upB (upB B 46 f1) 47 f3) 46) p0 = nI (v + 1) from g2))) ((show I4 30 = nI (pm) from ((hI8 30 (by decide)).trans hpm)).trans (congrArg nI (show (pm : Nat) = pm by omega))) ((show I4 29 = nI (sm) from hsm2).trans (congrArg nI (show (sm : Nat) = sm by omega)))  Y (lv_sub hl [0, 1, 2, 3] rfl)
end
