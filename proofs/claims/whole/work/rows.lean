section
-- ===== PART A: goes FIRST, ahead of the names: the tables' words, and 'selects' of the private methods out of them =====
/-- a private method of a class that the tables say can be made, by its rows of tables_1 -/
def lw_okq (q : MethodName × Nat) : Prop := (q.1.cls ≠ "java/lang/invoke/MethodHandle" ∧ q.1.cls ≠ "java/lang/invoke/VarHandle") ∧ Cond.instantiable q.1.cls q.2 ∈ tables_1 ∧ Cond.privateMethod q.1 ∈ tables_1 ∧ Cond.instanceMethod q.1 ∈ tables_1
theorem lw_p0 : lw_okq (⟨"java/lang/Throwable", "fillInStackTrace", "(I)Ljava/lang/Throwable;"⟩, 6) := ⟨⟨by decide +kernel, by decide +kernel⟩, List.mem_of_getElem? (i := 220) (by decide +kernel), List.mem_of_getElem? (i := 218) (by decide +kernel), List.mem_of_getElem? (i := 219) (by decide +kernel)⟩
theorem lw_p1 : lw_okq (⟨"Certhold", "requireRoom", "()V"⟩, 9) := ⟨⟨by decide +kernel, by decide +kernel⟩, List.mem_of_getElem? (i := 20) (by decide +kernel), List.mem_of_getElem? (i := 258) (by decide +kernel), List.mem_of_getElem? (i := 259) (by decide +kernel)⟩
theorem lw_p2 : lw_okq (⟨"Certhold", "newHolder", "(I)LCerthold$Holder;"⟩, 9) := ⟨⟨by decide +kernel, by decide +kernel⟩, List.mem_of_getElem? (i := 20) (by decide +kernel), List.mem_of_getElem? (i := 278) (by decide +kernel), List.mem_of_getElem? (i := 279) (by decide +kernel)⟩
theorem lw_p3 : lw_okq (⟨"Certhold", "enter", "(LCerthold$Holder;LCerthold$Holder;II)I"⟩, 9) := ⟨⟨by decide +kernel, by decide +kernel⟩, List.mem_of_getElem? (i := 20) (by decide +kernel), List.mem_of_getElem? (i := 308) (by decide +kernel), List.mem_of_getElem? (i := 309) (by decide +kernel)⟩
theorem lw_p4 : lw_okq (⟨"Certhold", "find", "(I)LCerthold$Certificate;"⟩, 9) := ⟨⟨by decide +kernel, by decide +kernel⟩, List.mem_of_getElem? (i := 20) (by decide +kernel), List.mem_of_getElem? (i := 388) (by decide +kernel), List.mem_of_getElem? (i := 389) (by decide +kernel)⟩
theorem lw_p5 : lw_okq (⟨"Certhold", "hasIssued", "(LCerthold$Holder;)Z"⟩, 9) := ⟨⟨by decide +kernel, by decide +kernel⟩, List.mem_of_getElem? (i := 20) (by decide +kernel), List.mem_of_getElem? (i := 446) (by decide +kernel), List.mem_of_getElem? (i := 447) (by decide +kernel)⟩
theorem lw_p6 : lw_okq (⟨"Certhold", "trustedRoots", "()I"⟩, 9) := ⟨⟨by decide +kernel, by decide +kernel⟩, List.mem_of_getElem? (i := 20) (by decide +kernel), List.mem_of_getElem? (i := 460) (by decide +kernel), List.mem_of_getElem? (i := 461) (by decide +kernel)⟩
theorem lw_p7 : lw_okq (⟨"Certhold", "pendingOf", "(LCerthold$Holder;)I"⟩, 9) := ⟨⟨by decide +kernel, by decide +kernel⟩, List.mem_of_getElem? (i := 20) (by decide +kernel), List.mem_of_getElem? (i := 473) (by decide +kernel), List.mem_of_getElem? (i := 474) (by decide +kernel)⟩
theorem lw_p8 : lw_okq (⟨"Certhold", "takeEffect", "(LCerthold$Holder;)J"⟩, 9) := ⟨⟨by decide +kernel, by decide +kernel⟩, List.mem_of_getElem? (i := 20) (by decide +kernel), List.mem_of_getElem? (i := 484) (by decide +kernel), List.mem_of_getElem? (i := 485) (by decide +kernel)⟩
theorem lw_p9 : lw_okq (⟨"Certhold", "requireCandidate", "(LCerthold$Certificate;I)LCerthold$Certificate;"⟩, 9) := ⟨⟨by decide +kernel, by decide +kernel⟩, List.mem_of_getElem? (i := 20) (by decide +kernel), List.mem_of_getElem? (i := 616) (by decide +kernel), List.mem_of_getElem? (i := 617) (by decide +kernel)⟩
theorem lw_p10 : lw_okq (⟨"Certhold", "sizeOfBest", "(LCerthold$Certificate;I)I"⟩, 9) := ⟨⟨by decide +kernel, by decide +kernel⟩, List.mem_of_getElem? (i := 20) (by decide +kernel), List.mem_of_getElem? (i := 644) (by decide +kernel), List.mem_of_getElem? (i := 645) (by decide +kernel)⟩
theorem lw_p11 : lw_okq (⟨"Certhold$Chain", "allowsNamesBefore", "(LCerthold$Certificate;I)Z"⟩, 3) := ⟨⟨by decide +kernel, by decide +kernel⟩, List.mem_of_getElem? (i := 86) (by decide +kernel), List.mem_of_getElem? (i := 687) (by decide +kernel), List.mem_of_getElem? (i := 688) (by decide +kernel)⟩
theorem lw_p12 : lw_okq (⟨"Certhold$Chain", "isFitAt", "(LCerthold$Certificate;I)Z"⟩, 3) := ⟨⟨by decide +kernel, by decide +kernel⟩, List.mem_of_getElem? (i := 86) (by decide +kernel), List.mem_of_getElem? (i := 725) (by decide +kernel), List.mem_of_getElem? (i := 726) (by decide +kernel)⟩
theorem lw_p13 : lw_okq (⟨"Certhold", "requireReached", "()LCerthold$Certificate;"⟩, 9) := ⟨⟨by decide +kernel, by decide +kernel⟩, List.mem_of_getElem? (i := 20) (by decide +kernel), List.mem_of_getElem? (i := 754) (by decide +kernel), List.mem_of_getElem? (i := 755) (by decide +kernel)⟩
theorem lw_p14 : lw_okq (⟨"Certhold", "requireSize", "(I)V"⟩, 9) := ⟨⟨by decide +kernel, by decide +kernel⟩, List.mem_of_getElem? (i := 20) (by decide +kernel), List.mem_of_getElem? (i := 773) (by decide +kernel), List.mem_of_getElem? (i := 774) (by decide +kernel)⟩
theorem lw_p15 : lw_okq (⟨"Certhold$Log", "finishedAt", "(I)J"⟩, 4) := ⟨⟨by decide +kernel, by decide +kernel⟩, List.mem_of_getElem? (i := 48) (by decide +kernel), List.mem_of_getElem? (i := 809) (by decide +kernel), List.mem_of_getElem? (i := 810) (by decide +kernel)⟩
def lw_privs_1 : List (MethodName × Nat) := [(⟨"java/lang/Throwable", "fillInStackTrace", "(I)Ljava/lang/Throwable;"⟩, 6), (⟨"Certhold", "requireRoom", "()V"⟩, 9), (⟨"Certhold", "newHolder", "(I)LCerthold$Holder;"⟩, 9), (⟨"Certhold", "enter", "(LCerthold$Holder;LCerthold$Holder;II)I"⟩, 9), (⟨"Certhold", "find", "(I)LCerthold$Certificate;"⟩, 9), (⟨"Certhold", "hasIssued", "(LCerthold$Holder;)Z"⟩, 9), (⟨"Certhold", "trustedRoots", "()I"⟩, 9), (⟨"Certhold", "pendingOf", "(LCerthold$Holder;)I"⟩, 9), (⟨"Certhold", "takeEffect", "(LCerthold$Holder;)J"⟩, 9), (⟨"Certhold", "requireCandidate", "(LCerthold$Certificate;I)LCerthold$Certificate;"⟩, 9), (⟨"Certhold", "sizeOfBest", "(LCerthold$Certificate;I)I"⟩, 9), (⟨"Certhold$Chain", "allowsNamesBefore", "(LCerthold$Certificate;I)Z"⟩, 3), (⟨"Certhold$Chain", "isFitAt", "(LCerthold$Certificate;I)Z"⟩, 3), (⟨"Certhold", "requireReached", "()LCerthold$Certificate;"⟩, 9), (⟨"Certhold", "requireSize", "(I)V"⟩, 9), (⟨"Certhold$Log", "finishedAt", "(I)J"⟩, 4)]
theorem lw_r1 : ∀ q ∈ lw_privs_1, lw_okq q := List.forall_mem_cons.mpr ⟨lw_p0, List.forall_mem_cons.mpr ⟨lw_p1, List.forall_mem_cons.mpr ⟨lw_p2, List.forall_mem_cons.mpr ⟨lw_p3, List.forall_mem_cons.mpr ⟨lw_p4, List.forall_mem_cons.mpr ⟨lw_p5, List.forall_mem_cons.mpr ⟨lw_p6, List.forall_mem_cons.mpr ⟨lw_p7, List.forall_mem_cons.mpr ⟨lw_p8, List.forall_mem_cons.mpr ⟨lw_p9, List.forall_mem_cons.mpr ⟨lw_p10, List.forall_mem_cons.mpr ⟨lw_p11, List.forall_mem_cons.mpr ⟨lw_p12, List.forall_mem_cons.mpr ⟨lw_p13, List.forall_mem_cons.mpr ⟨lw_p14, List.forall_mem_cons.mpr ⟨lw_p15, fun _ h => absurd h List.not_mem_nil⟩⟩⟩⟩⟩⟩⟩⟩⟩⟩⟩⟩⟩⟩⟩⟩
theorem lw_p16 : lw_okq (⟨"Certhold$Log", "rootOfFinished", "(I)J"⟩, 4) := ⟨⟨by decide +kernel, by decide +kernel⟩, List.mem_of_getElem? (i := 48) (by decide +kernel), List.mem_of_getElem? (i := 813) (by decide +kernel), List.mem_of_getElem? (i := 814) (by decide +kernel)⟩
theorem lw_p17 : lw_okq (⟨"Certhold", "prove", "(II)LCerthold$Proof;"⟩, 9) := ⟨⟨by decide +kernel, by decide +kernel⟩, List.mem_of_getElem? (i := 20) (by decide +kernel), List.mem_of_getElem? (i := 824) (by decide +kernel), List.mem_of_getElem? (i := 825) (by decide +kernel)⟩
theorem lw_p18 : lw_okq (⟨"Certhold$Log", "descend", "(IIZ)V"⟩, 4) := ⟨⟨by decide +kernel, by decide +kernel⟩, List.mem_of_getElem? (i := 48) (by decide +kernel), List.mem_of_getElem? (i := 837) (by decide +kernel), List.mem_of_getElem? (i := 838) (by decide +kernel)⟩
theorem lw_p19 : lw_okq (⟨"Certhold", "proveGrowth", "(II)LCerthold$Proof;"⟩, 9) := ⟨⟨by decide +kernel, by decide +kernel⟩, List.mem_of_getElem? (i := 20) (by decide +kernel), List.mem_of_getElem? (i := 886) (by decide +kernel), List.mem_of_getElem? (i := 887) (by decide +kernel)⟩
theorem lw_p20 : lw_okq (⟨"CertholdModel", "isThrown", "(ZI)Z"⟩, 25) := ⟨⟨by decide +kernel, by decide +kernel⟩, List.mem_of_getElem? (i := 935) (by decide +kernel), List.mem_of_getElem? (i := 1031) (by decide +kernel), List.mem_of_getElem? (i := 1032) (by decide +kernel)⟩
theorem lw_p21 : lw_okq (⟨"CertholdModel", "makes", "(IIIII)I"⟩, 25) := ⟨⟨by decide +kernel, by decide +kernel⟩, List.mem_of_getElem? (i := 935) (by decide +kernel), List.mem_of_getElem? (i := 1035) (by decide +kernel), List.mem_of_getElem? (i := 1036) (by decide +kernel)⟩
theorem lw_p22 : lw_okq (⟨"CertholdModel", "authority", "(II)I"⟩, 25) := ⟨⟨by decide +kernel, by decide +kernel⟩, List.mem_of_getElem? (i := 935) (by decide +kernel), List.mem_of_getElem? (i := 1039) (by decide +kernel), List.mem_of_getElem? (i := 1040) (by decide +kernel)⟩
theorem lw_p23 : lw_okq (⟨"CertholdModel", "cannotIssue", "(IZ)Z"⟩, 25) := ⟨⟨by decide +kernel, by decide +kernel⟩, List.mem_of_getElem? (i := 935) (by decide +kernel), List.mem_of_getElem? (i := 1047) (by decide +kernel), List.mem_of_getElem? (i := 1048) (by decide +kernel)⟩
theorem lw_p24 : lw_okq (⟨"CertholdModel", "isNone", "(I)Z"⟩, 25) := ⟨⟨by decide +kernel, by decide +kernel⟩, List.mem_of_getElem? (i := 935) (by decide +kernel), List.mem_of_getElem? (i := 1051) (by decide +kernel), List.mem_of_getElem? (i := 1052) (by decide +kernel)⟩
theorem lw_p25 : lw_okq (⟨"CertholdModel", "isThere", "(I)Z"⟩, 25) := ⟨⟨by decide +kernel, by decide +kernel⟩, List.mem_of_getElem? (i := 935) (by decide +kernel), List.mem_of_getElem? (i := 1055) (by decide +kernel), List.mem_of_getElem? (i := 1056) (by decide +kernel)⟩
theorem lw_p26 : lw_okq (⟨"CertholdModel", "withKey", "(I)I"⟩, 25) := ⟨⟨by decide +kernel, by decide +kernel⟩, List.mem_of_getElem? (i := 935) (by decide +kernel), List.mem_of_getElem? (i := 1067) (by decide +kernel), List.mem_of_getElem? (i := 1068) (by decide +kernel)⟩
theorem lw_p27 : lw_okq (⟨"CertholdModel", "hasIssued", "(I)Z"⟩, 25) := ⟨⟨by decide +kernel, by decide +kernel⟩, List.mem_of_getElem? (i := 935) (by decide +kernel), List.mem_of_getElem? (i := 1075) (by decide +kernel), List.mem_of_getElem? (i := 1076) (by decide +kernel)⟩
theorem lw_p28 : lw_okq (⟨"CertholdModel", "tells", "(I)I"⟩, 25) := ⟨⟨by decide +kernel, by decide +kernel⟩, List.mem_of_getElem? (i := 935) (by decide +kernel), List.mem_of_getElem? (i := 1099) (by decide +kernel), List.mem_of_getElem? (i := 1100) (by decide +kernel)⟩
theorem lw_p29 : lw_okq (⟨"CertholdModel", "isWrong", "(II)Z"⟩, 25) := ⟨⟨by decide +kernel, by decide +kernel⟩, List.mem_of_getElem? (i := 935) (by decide +kernel), List.mem_of_getElem? (i := 1138) (by decide +kernel), List.mem_of_getElem? (i := 1139) (by decide +kernel)⟩
theorem lw_p30 : lw_okq (⟨"CertholdModel", "isOff", "(II)Z"⟩, 25) := ⟨⟨by decide +kernel, by decide +kernel⟩, List.mem_of_getElem? (i := 935) (by decide +kernel), List.mem_of_getElem? (i := 1142) (by decide +kernel), List.mem_of_getElem? (i := 1143) (by decide +kernel)⟩
theorem lw_p31 : lw_okq (⟨"CertholdModel", "isCandidate", "(II)Z"⟩, 25) := ⟨⟨by decide +kernel, by decide +kernel⟩, List.mem_of_getElem? (i := 935) (by decide +kernel), List.mem_of_getElem? (i := 1155) (by decide +kernel), List.mem_of_getElem? (i := 1156) (by decide +kernel)⟩
def lw_privs_2 : List (MethodName × Nat) := [(⟨"Certhold$Log", "rootOfFinished", "(I)J"⟩, 4), (⟨"Certhold", "prove", "(II)LCerthold$Proof;"⟩, 9), (⟨"Certhold$Log", "descend", "(IIZ)V"⟩, 4), (⟨"Certhold", "proveGrowth", "(II)LCerthold$Proof;"⟩, 9), (⟨"CertholdModel", "isThrown", "(ZI)Z"⟩, 25), (⟨"CertholdModel", "makes", "(IIIII)I"⟩, 25), (⟨"CertholdModel", "authority", "(II)I"⟩, 25), (⟨"CertholdModel", "cannotIssue", "(IZ)Z"⟩, 25), (⟨"CertholdModel", "isNone", "(I)Z"⟩, 25), (⟨"CertholdModel", "isThere", "(I)Z"⟩, 25), (⟨"CertholdModel", "withKey", "(I)I"⟩, 25), (⟨"CertholdModel", "hasIssued", "(I)Z"⟩, 25), (⟨"CertholdModel", "tells", "(I)I"⟩, 25), (⟨"CertholdModel", "isWrong", "(II)Z"⟩, 25), (⟨"CertholdModel", "isOff", "(II)Z"⟩, 25), (⟨"CertholdModel", "isCandidate", "(II)Z"⟩, 25)]
theorem lw_r2 : ∀ q ∈ lw_privs_2, lw_okq q := List.forall_mem_cons.mpr ⟨lw_p16, List.forall_mem_cons.mpr ⟨lw_p17, List.forall_mem_cons.mpr ⟨lw_p18, List.forall_mem_cons.mpr ⟨lw_p19, List.forall_mem_cons.mpr ⟨lw_p20, List.forall_mem_cons.mpr ⟨lw_p21, List.forall_mem_cons.mpr ⟨lw_p22, List.forall_mem_cons.mpr ⟨lw_p23, List.forall_mem_cons.mpr ⟨lw_p24, List.forall_mem_cons.mpr ⟨lw_p25, List.forall_mem_cons.mpr ⟨lw_p26, List.forall_mem_cons.mpr ⟨lw_p27, List.forall_mem_cons.mpr ⟨lw_p28, List.forall_mem_cons.mpr ⟨lw_p29, List.forall_mem_cons.mpr ⟨lw_p30, List.forall_mem_cons.mpr ⟨lw_p31, fun _ h => absurd h List.not_mem_nil⟩⟩⟩⟩⟩⟩⟩⟩⟩⟩⟩⟩⟩⟩⟩⟩
theorem lw_p32 : lw_okq (⟨"CertholdModel", "candidate", "(II)I"⟩, 25) := ⟨⟨by decide +kernel, by decide +kernel⟩, List.mem_of_getElem? (i := 935) (by decide +kernel), List.mem_of_getElem? (i := 1163) (by decide +kernel), List.mem_of_getElem? (i := 1164) (by decide +kernel)⟩
theorem lw_p33 : lw_okq (⟨"CertholdModel", "best", "(II)I"⟩, 25) := ⟨⟨by decide +kernel, by decide +kernel⟩, List.mem_of_getElem? (i := 935) (by decide +kernel), List.mem_of_getElem? (i := 1171) (by decide +kernel), List.mem_of_getElem? (i := 1172) (by decide +kernel)⟩
theorem lw_p34 : lw_okq (⟨"CertholdModel", "canBegin", "(II)Z"⟩, 25) := ⟨⟨by decide +kernel, by decide +kernel⟩, List.mem_of_getElem? (i := 935) (by decide +kernel), List.mem_of_getElem? (i := 1175) (by decide +kernel), List.mem_of_getElem? (i := 1176) (by decide +kernel)⟩
theorem lw_p35 : lw_okq (⟨"CertholdModel", "isValid", "(II)Z"⟩, 25) := ⟨⟨by decide +kernel, by decide +kernel⟩, List.mem_of_getElem? (i := 935) (by decide +kernel), List.mem_of_getElem? (i := 1179) (by decide +kernel), List.mem_of_getElem? (i := 1180) (by decide +kernel)⟩
theorem lw_p36 : lw_okq (⟨"CertholdModel", "finds", "(III)Z"⟩, 25) := ⟨⟨by decide +kernel, by decide +kernel⟩, List.mem_of_getElem? (i := 935) (by decide +kernel), List.mem_of_getElem? (i := 1183) (by decide +kernel), List.mem_of_getElem? (i := 1184) (by decide +kernel)⟩
theorem lw_p37 : lw_okq (⟨"CertholdModel", "refusal", "([IIII)C"⟩, 25) := ⟨⟨by decide +kernel, by decide +kernel⟩, List.mem_of_getElem? (i := 935) (by decide +kernel), List.mem_of_getElem? (i := 1187) (by decide +kernel), List.mem_of_getElem? (i := 1188) (by decide +kernel)⟩
theorem lw_p38 : lw_okq (⟨"CertholdModel", "fitsNames", "([III)Z"⟩, 25) := ⟨⟨by decide +kernel, by decide +kernel⟩, List.mem_of_getElem? (i := 935) (by decide +kernel), List.mem_of_getElem? (i := 1191) (by decide +kernel), List.mem_of_getElem? (i := 1192) (by decide +kernel)⟩
theorem lw_p39 : lw_okq (⟨"CertholdModel", "counts", "(II)V"⟩, 25) := ⟨⟨by decide +kernel, by decide +kernel⟩, List.mem_of_getElem? (i := 935) (by decide +kernel), List.mem_of_getElem? (i := 1203) (by decide +kernel), List.mem_of_getElem? (i := 1204) (by decide +kernel)⟩
theorem lw_p40 : lw_okq (⟨"CertholdModel", "isNoSize", "(I)Z"⟩, 25) := ⟨⟨by decide +kernel, by decide +kernel⟩, List.mem_of_getElem? (i := 935) (by decide +kernel), List.mem_of_getElem? (i := 1236) (by decide +kernel), List.mem_of_getElem? (i := 1237) (by decide +kernel)⟩
theorem lw_p41 : lw_okq (⟨"CertholdModel", "rootFrom", "(II)J"⟩, 25) := ⟨⟨by decide +kernel, by decide +kernel⟩, List.mem_of_getElem? (i := 935) (by decide +kernel), List.mem_of_getElem? (i := 1240) (by decide +kernel), List.mem_of_getElem? (i := 1241) (by decide +kernel)⟩
theorem lw_p42 : lw_okq (⟨"CertholdModel", "isProof", "(II)Z"⟩, 25) := ⟨⟨by decide +kernel, by decide +kernel⟩, List.mem_of_getElem? (i := 935) (by decide +kernel), List.mem_of_getElem? (i := 1268) (by decide +kernel), List.mem_of_getElem? (i := 1269) (by decide +kernel)⟩
theorem lw_p43 : lw_okq (⟨"CertholdModel", "proves", "(III)V"⟩, 25) := ⟨⟨by decide +kernel, by decide +kernel⟩, List.mem_of_getElem? (i := 935) (by decide +kernel), List.mem_of_getElem? (i := 1272) (by decide +kernel), List.mem_of_getElem? (i := 1273) (by decide +kernel)⟩
theorem lw_p44 : lw_okq (⟨"CertholdModel", "adds", "(J)V"⟩, 25) := ⟨⟨by decide +kernel, by decide +kernel⟩, List.mem_of_getElem? (i := 935) (by decide +kernel), List.mem_of_getElem? (i := 1276) (by decide +kernel), List.mem_of_getElem? (i := 1277) (by decide +kernel)⟩
theorem lw_p45 : lw_okq (⟨"CertholdModel", "rowAt", "(I)J"⟩, 25) := ⟨⟨by decide +kernel, by decide +kernel⟩, List.mem_of_getElem? (i := 935) (by decide +kernel), List.mem_of_getElem? (i := 1284) (by decide +kernel), List.mem_of_getElem? (i := 1285) (by decide +kernel)⟩
theorem lw_p46 : lw_okq (⟨"CertholdModel", "isGrowth", "(II)Z"⟩, 25) := ⟨⟨by decide +kernel, by decide +kernel⟩, List.mem_of_getElem? (i := 935) (by decide +kernel), List.mem_of_getElem? (i := 1296) (by decide +kernel), List.mem_of_getElem? (i := 1297) (by decide +kernel)⟩
theorem lw_p47 : lw_okq (⟨"CertholdModel", "grows", "(III)V"⟩, 25) := ⟨⟨by decide +kernel, by decide +kernel⟩, List.mem_of_getElem? (i := 935) (by decide +kernel), List.mem_of_getElem? (i := 1300) (by decide +kernel), List.mem_of_getElem? (i := 1301) (by decide +kernel)⟩
def lw_privs_3 : List (MethodName × Nat) := [(⟨"CertholdModel", "candidate", "(II)I"⟩, 25), (⟨"CertholdModel", "best", "(II)I"⟩, 25), (⟨"CertholdModel", "canBegin", "(II)Z"⟩, 25), (⟨"CertholdModel", "isValid", "(II)Z"⟩, 25), (⟨"CertholdModel", "finds", "(III)Z"⟩, 25), (⟨"CertholdModel", "refusal", "([IIII)C"⟩, 25), (⟨"CertholdModel", "fitsNames", "([III)Z"⟩, 25), (⟨"CertholdModel", "counts", "(II)V"⟩, 25), (⟨"CertholdModel", "isNoSize", "(I)Z"⟩, 25), (⟨"CertholdModel", "rootFrom", "(II)J"⟩, 25), (⟨"CertholdModel", "isProof", "(II)Z"⟩, 25), (⟨"CertholdModel", "proves", "(III)V"⟩, 25), (⟨"CertholdModel", "adds", "(J)V"⟩, 25), (⟨"CertholdModel", "rowAt", "(I)J"⟩, 25), (⟨"CertholdModel", "isGrowth", "(II)Z"⟩, 25), (⟨"CertholdModel", "grows", "(III)V"⟩, 25)]
theorem lw_r3 : ∀ q ∈ lw_privs_3, lw_okq q := List.forall_mem_cons.mpr ⟨lw_p32, List.forall_mem_cons.mpr ⟨lw_p33, List.forall_mem_cons.mpr ⟨lw_p34, List.forall_mem_cons.mpr ⟨lw_p35, List.forall_mem_cons.mpr ⟨lw_p36, List.forall_mem_cons.mpr ⟨lw_p37, List.forall_mem_cons.mpr ⟨lw_p38, List.forall_mem_cons.mpr ⟨lw_p39, List.forall_mem_cons.mpr ⟨lw_p40, List.forall_mem_cons.mpr ⟨lw_p41, List.forall_mem_cons.mpr ⟨lw_p42, List.forall_mem_cons.mpr ⟨lw_p43, List.forall_mem_cons.mpr ⟨lw_p44, List.forall_mem_cons.mpr ⟨lw_p45, List.forall_mem_cons.mpr ⟨lw_p46, List.forall_mem_cons.mpr ⟨lw_p47, fun _ h => absurd h List.not_mem_nil⟩⟩⟩⟩⟩⟩⟩⟩⟩⟩⟩⟩⟩⟩⟩⟩
def lw_privs : List (MethodName × Nat) := lw_privs_1 ++ (lw_privs_2 ++ (lw_privs_3))
def lw_tbl : List Cond := k2_sels lw_privs ++ tables_1
theorem lw_privs_ok : ∀ q ∈ lw_privs, lw_okq q := by
  show ∀ q ∈ lw_privs_1 ++ (lw_privs_2 ++ (lw_privs_3)), lw_okq q
  exact List.forall_mem_append.mpr ⟨lw_r1, List.forall_mem_append.mpr ⟨lw_r2, lw_r3⟩⟩
/-- the streams that the claim lets the run draw from -/
abbrev lw_cs : List Choice := [Jvm.Choice.named "NaN.bits"]
theorem lw_bits : nanBits ∈ lw_cs := by first | decide | exact List.mem_cons_self | simp [lw_cs, nanBits]
end
section
/-! ===== BEGIN words of one list among another's, by their places ===== -/
theorem goodIn_r {big : List Cond} (ws : List Cond) (ps : List Nat) (hp : ws = ps.filterMap (fun i => big[i]?)) (h : ws.all goodWord = true) : GoodIn big ws := by
  intro w hw
  have h1 := List.all_eq_true.mp h w hw
  rw [hp] at hw
  obtain ⟨i, -, hi⟩ := List.mem_filterMap.mp hw
  have hm : w ∈ big := by first | exact List.mem_of_getElem? hi | exact List.getElem?_mem hi
  exact ⟨hm, good_of_word h1⟩
theorem goodIn_app {big a b : List Cond} (ha : GoodIn big a) (hb : GoodIn big b) : GoodIn big (a ++ b) := fun w h => (List.mem_append.mp h).elim (ha w) (hb w)
theorem goodIn_ca {big a b : List Cond} {c : Cond} (ha : GoodIn big (c :: a)) (hb : GoodIn big b) : GoodIn big (c :: (a ++ b)) := fun w h => (List.mem_cons.mp h).elim (fun e => ha w (List.mem_cons.mpr (Or.inl e))) (fun h => (List.mem_append.mp h).elim (fun h => ha w (List.mem_cons.mpr (Or.inr h))) (hb w))
theorem goodIn_sub {big ws : List Cond} (hm : ∀ w ∈ ws, w ∈ big) (h : ws.all goodWord = true) : GoodIn big ws := fun w hw => ⟨hm w hw, good_of_word (List.all_eq_true.mp h w hw)⟩
/-! ===== END ===== -/

/-! ===== BEGIN exceptions that leave a method, and their catching by the caller (launches without stack traces) ===== -/
section VXA
/-! The laws vx_back, vx_callV, vx_callS, vx_callSW, vx_throw0, vx_throwS follow proofs of the library, with one case more: JvmDerived/Free/Laws.lean (Back.of_free), Shelf42/LK1.lean (callV, callS), Shelf/KitTraced.lean (throwNew0V, throwNewS). -/
/-- where a method has thrown q: the class by its name, the cell, what was written, the world -/
def vx_T (XC : String → State → State → Prop) (st : State) (q : Addr) (t : State) (mc ms : Nat) (free : Addr → Prop) : Prop :=
  ∃ (E : String) (ce : Cell) (L : List Loc), XC E st t ∧ t.heap[q]? = some ce ∧ ce.vm = .none ∧ st.vm.findClass E = some ce.cls ∧ st.WarmedH t.vm ∧ st.sameButNew ({ t with vm := st.vm } : State) L mc ms ∧ ∀ z ∈ L, free z.base
def vx_Q (Qc : Array Value → State → Outcome → State → Prop) (XC : String → State → State → Prop) (mc ms : Nat) (free : Addr → Prop) : Array Value → State → Outcome → State → Prop := fun a st o t =>
  (Qc a st o t ∧ ∃ L, FrameEnd st o t L mc ms ∧ ∀ q ∈ L, free q.base) ∨ ∃ q, o = .threw q ∧ vx_T XC st q t mc ms free
/-- a callee that returns or throws -/
def vx_Met (l : Launch) (y : MethodName) (ws : List Cond) (rm : Room) (Pc : Array Value → State → Prop) (Qc : Array Value → State → Outcome → State → Prop) (XC : String → State → State → Prop) (mc ms : Nat) (free : Addr → Prop) : Prop :=
  MetFree l y (headSpec ws rm) Pc (fun _ _ _ _ _ => True) (vx_Q Qc XC mc ms free)
def vx_Post (XC : String → State → State → Prop) (mc ms : Nat) (free : Addr → Prop) : Pt → Array Value → Addr → Pt → Prop := fun A a q B =>
  ∃ (g : JFrame) (mk : MethodId) (t : State) (L : List Loc) (E : String) (ce : Cell), B.U.heap = t.heap ∧ B.U.vm = t.vm ∧ XC E (A.U.calling g mk a) t ∧ t.heap[q]? = some ce ∧ ce.vm = .none ∧ A.U.vm.findClass E = some ce.cls ∧ B.locs = A.locs ++ L ∧ (∀ z ∈ L, free z.base) ∧ B.cells = A.cells + mc ∧ B.slots = A.slots + ms
def vx_Back (l : Launch) (R : Room) (p : Program) (e : Env) (below : List Frame) (s : State) (sargs : Array Value) (y : MethodName) (len W9 : Nat)
    (Pre : Pt → Array Value → Prop) (Post : Pt → Array Value → Option Value → Pt → Prop) (PostX : Pt → Array Value → Addr → Pt → Prop) : Prop :=
  ∀ (m : MethodId) (meth : Method) (c : Code) (A : Pt) (g : JFrame) (ig : Instr) (mk : MethodId) (a : Array Value),
    Stand p l e R s m sargs below meth c A.U A.locs A.cells A.slots → g.method = m → g.locals.size = c.maxLocals → decode c.code g.pc = .ok (ig, len) →
    2 * g.monitorRoom + (g.stack.map fun v => v.category).sum ≤ W9 → A.U.methodNamed? y = some mk → Pre A a →
    (∃ (v : Option Value) (B : Pt), Stand p l e R s m sargs below meth c B.U B.locs B.cells B.slots ∧ Post A a v B ∧
      Steps p.tables e below (doInvoke e (A.U.setTop g) [] mk a).1 (B.U.setTop { g with pc := g.pc + len, stack := v.toList ++ g.stack })) ∨
    (∃ (q : Addr) (B : Pt), Stand p l e R s m sargs below meth c B.U B.locs B.cells B.slots ∧ PostX A a q B ∧
      Steps p.tables e below (doInvoke e (A.U.setTop g) [] mk a).1 ((B.U.setTop g).pushFrame (.throwing q)))
section Payer
variable {l : Launch} {R : Room} {p : Program} {e : Env} {below : List Frame} {s : State} {sargs : Array Value} {y : MethodName} {len W9 : Nat}
theorem vx_back {ws : List Cond} {rm : Room} {Pc : Array Value → State → Prop} {Qc : Array Value → State → Outcome → State → Prop} {XC : String → State → State → Prop} {mc ms : Nat} {free : Addr → Prop} {bytes : ByteArray} {maxL : Nat} {ret : Option FieldType}
    (hM : vx_Met l y ws rm Pc Qc XC mc ms free) (hblind : FrameBlind Pc) (hrc : rm.cells = mc) (hrs : rm.slots = ms)
    (hframes : rm.frames + 1 ≤ R.frames) (hlocals : W9 + (maxL + 11) + rm.locals ≤ R.locals)
    (hws : ∀ w ∈ ws, ∀ a' U, s.WarmedH U.vm → w.before a' U = true) (hcode : Cond.code y bytes maxL ret ∈ ws) (hinit : ∀ a' U, s.WarmedH U.vm → (Cond.initialized y.cls).before a' U = true) :
    vx_Back l R p e below s sargs y len W9 (PreOf R mc ms Pc) (PostOf Qc mc ms free) (vx_Post XC mc ms free) := by
  intro m meth c A g ig mk a X hg hsize hdg hW hn hp
  have h1 : (headSpec ws rm).pre.before a A.U = true := atoms_intro fun w hw => hws w hw _ _ X.warmed
  have h2 : (Cond.code y bytes maxL ret).before a A.U = true := hws _ hcode _ _ X.warmed
  have h3 : (Cond.initialized y.cls).before a A.U = true := hinit _ _ X.warmed
  have h4 : A.cells + (headSpec ws rm).room.cells ≤ R.cells := by rw [show (headSpec ws rm).room.cells = mc from hrc]; exact hp.1
  have h5 : A.slots + (headSpec ws rm).room.slots ≤ R.slots := by rw [show (headSpec ws rm).room.slots = ms from hrs]; exact hp.2.1
  have hPc : Pc a (A.U.calling g mk a) := hblind _ _ _ _ hp.2.2
  obtain ⟨U, Ls, c0, s0⟩ := A
  dsimp only [Pt.U, Pt.locs, Pt.cells, Pt.slots] at h1 h2 h3 h4 h5 X hn hPc ⊢
  obtain ⟨methY, cY, hmY, hcY, -, hlY, -, -, -, -⟩ := Cond.code_spec hn h2
  obtain ⟨kY, hkY, -⟩ := className_of_methodNamed hn
  have hinitY : kY.init = .initialized := Cond.initialized_spec (findClass_of_methodNamed hn) hkY h3
  have h : At U g.method c below := by rw [hg]; exact X.here
  have hlocals9 : W9 + (maxL + 11) + (headSpec ws rm).room.locals ≤ R.locals := hlocals
  have happ : (headSpec ws rm).appliesLoose y e.platform (U.calling g mk a) = true :=
    Spec.appliesLoose_calling (g := g) h hdg hn hkY hinitY
      (X.room_calling (g := g) (R' := (headSpec ws rm).room) hsize hmY hcY hframes (by rw [hlY]; omega) h4 h5) h1
  obtain ⟨mid, hmid⟩ := h.above
  have hfr : (U.setTop g).frames = (.java g :: mid) ++ below := by rw [State.frames_setTop' g h.top, hmid]; rfl
  obtain ⟨o, s₂, hsteps, -, hend, hq⟩ := Steps.callFree hM p X.admits X.cas X.clock (acts := []) hfr happ hPc trivial
  have hq' : vx_Q Qc XC mc ms free a (U.calling g mk a) o s₂ := hq
  rw [State.frames_setTop' g h.top] at hend
  obtain ⟨g₀, hg0⟩ := Option.isSome_iff_exists.mp h.top
  obtain ⟨r, hr⟩ := State.topJava?_eq_some.mp hg0
  have hr' : (({ U with heap := s₂.heap, slotsUsed := s₂.slotsUsed } : State).setVm s₂.vm).frames = .java g₀ :: r := hr
  rcases hq' with ⟨hqc, L, hfe, hL⟩ | ⟨q, rfl, E, ce, L, hx, hce, hcv, hcl, hW₂, hsm, hL⟩
  · obtain ⟨⟨v, rfl⟩, hW₂, e2, q2, q3, q4, q5, q6⟩ := id hfe
    have e3 : s₂ = ({ (U.calling g mk a).setFrames s₂.frames with heap := s₂.heap, slotsUsed := s₂.slotsUsed } : State).setVm s₂.vm := by
      have : s₂ = ({ s₂ with vm := (U.calling g mk a).vm } : State).setVm s₂.vm := rfl
      rw [e2] at this
      exact this
    obtain ⟨c₂, i₂, len₂, hc₂, hd₂, hf₂⟩ := hend
    have hW' : U.WarmedH s₂.vm := hW₂
    have hcc : c₂ = c := by
      have h1 : s₂.code? g.method = U.code? g.method := by
        rw [State.code?_eq, State.code?_eq, hW'.alike.method?]
      exact Option.some.inj (hc₂.symm.trans (h1.trans h.code))
    subst hcc
    have hlen : len₂ = len := by rw [hdg] at hd₂; cases hd₂; rfl
    subst hlen
    have hs₂ : s₂ = (({ U with heap := s₂.heap, slotsUsed := s₂.slotsUsed } : State).setVm s₂.vm).setTop { g with pc := g.pc + len₂, stack := v.toList ++ g.stack } := by
      refine e3.trans ?_
      rw [hf₂, State.calling_eq h.top, State.setFrames_setFrames, State.setTop_of_frames _ hr', hr]
      rfl
    have hsame : U.sameButNew ({ U with heap := s₂.heap, slotsUsed := s₂.slotsUsed } : State) L mc ms := by
      refine ⟨?_, q2, q3, q4, q5, q6⟩
      obtain ⟨t, ht, -⟩ := State.frames_cons hr
      show ({ U with heap := s₂.heap, slotsUsed := s₂.slotsUsed } : State) = { U.setFrames U.frames with heap := s₂.heap, slotsUsed := s₂.slotsUsed }
      rw [State.setFrames_self ht]
    subst hg
    refine Or.inl ⟨v, ⟨(({ U with heap := s₂.heap, slotsUsed := s₂.slotsUsed } : State).setVm s₂.vm), Ls ++ L, c0 + mc, s0 + ms⟩,
      ⟨X.admits, X.cas, X.clock, X.frames, X.room, X.hears, X.method, X.code, (X.here.setHeapUsed s₂.heap s₂.slotsUsed).setVm hW'.alike, X.tail, State.WarmedH.trans X.warmed hW', X.limits, X.bytes, X.same.trans (hsame.setVm s.vm)⟩,
      ⟨g, mk, s₂, L, rfl, rfl, hqc, rfl, hL, rfl, rfl⟩, ?_⟩
    show Steps p.tables e below _ ((({ U with heap := s₂.heap, slotsUsed := s₂.slotsUsed } : State).setVm s₂.vm).setTop { g with pc := g.pc + len₂, stack := v.toList ++ g.stack })
    rw [← hs₂]
    exact hsteps
  · obtain ⟨e2, q2, q3, q4, q5, q6⟩ := id hsm
    have e3 : s₂ = ({ (U.calling g mk a).setFrames s₂.frames with heap := s₂.heap, slotsUsed := s₂.slotsUsed } : State).setVm s₂.vm := by
      have : s₂ = ({ s₂ with vm := (U.calling g mk a).vm } : State).setVm s₂.vm := rfl
      rw [e2] at this
      exact this
    have hf₂ : s₂.frames = .throwing q :: .java g :: U.frames.tail := hend
    have hW' : U.WarmedH s₂.vm := hW₂
    have hs₂ : s₂ = ((({ U with heap := s₂.heap, slotsUsed := s₂.slotsUsed } : State).setVm s₂.vm).setTop g).pushFrame (.throwing q) := by
      refine e3.trans ?_
      rw [hf₂, State.calling_eq h.top, State.setFrames_setFrames, State.pushFrame, State.frames_setTop _ hr', State.setTop_of_frames _ hr', State.setFrames_setFrames, hr]
      rfl
    have hsame : U.sameButNew ({ U with heap := s₂.heap, slotsUsed := s₂.slotsUsed } : State) L mc ms := by
      refine ⟨?_, q2, q3, q4, q5, q6⟩
      obtain ⟨t, ht, -⟩ := State.frames_cons hr
      show ({ U with heap := s₂.heap, slotsUsed := s₂.slotsUsed } : State) = { U.setFrames U.frames with heap := s₂.heap, slotsUsed := s₂.slotsUsed }
      rw [State.setFrames_self ht]
    subst hg
    refine Or.inr ⟨q, ⟨(({ U with heap := s₂.heap, slotsUsed := s₂.slotsUsed } : State).setVm s₂.vm), Ls ++ L, c0 + mc, s0 + ms⟩,
      ⟨X.admits, X.cas, X.clock, X.frames, X.room, X.hears, X.method, X.code, (X.here.setHeapUsed s₂.heap s₂.slotsUsed).setVm hW'.alike, X.tail, State.WarmedH.trans X.warmed hW', X.limits, X.bytes, X.same.trans (hsame.setVm s.vm)⟩,
      ⟨g, mk, s₂, L, E, ce, rfl, rfl, hx, hce, hcv, hcl, rfl, hL, rfl, rfl⟩, ?_⟩
    show Steps p.tables e below _ (((({ U with heap := s₂.heap, slotsUsed := s₂.slotsUsed } : State).setVm s₂.vm).setTop g).pushFrame (.throwing q))
    rw [← hs₂]
    exact hsteps
end Payer
section Calls
variable {p : Program} {l : Launch} {e : Env} {R : Room} {s : State} {m : MethodId} {args : Array Value} {below : List Frame} {meth : Method} {c : Code} {T : State} {locs : List Loc} {cells slots : Nat}
theorem vx_callV (X : Stand p l e R s m args below meth c T locs cells slots) (hexec : p.tables.exec = Jvm.exec) {own C : String} {index : Nat} {y : MethodName} {bytes : ByteArray} {maxL : Nat} {ret : Option FieldType}
    (hown : s.vm.findClass own = some m.cls) (hlink : (Cond.methodLink own index y).before args s = true) (hinst : (Cond.instanceMethod y).before args s = true) (hsel : (Cond.selects C y y).before args s = true)
    (hcode : (Cond.code y bytes maxL ret).before args s = true) (hy : y.cls ≠ "java/lang/invoke/MethodHandle" ∧ y.cls ≠ "java/lang/invoke/VarHandle")
    {W9 : Nat} {Pre : Pt → Array Value → Prop} {Post : Pt → Array Value → Option Value → Pt → Prop} {PostX : Pt → Array Value → Addr → Pt → Prop} (hK : vx_Back l R p e below s args y 3 W9 Pre Post PostX)
    {b : Addr} {cellB : Cell} (hcell : T.heap[b]? = some cellB) (hobj : cellB.vm.isStatics = false) (hcls : s.vm.findClass C = some cellB.cls)
    {g : JFrame} (hg : g.method = m) (hsize : g.locals.size = c.maxLocals) {argsL rest : List Value} (hlen : ∀ sig, parseMethodDescriptor y.desc = some sig → argsL.length = sig.parameters.length)
    (hstack : g.stack = argsL.reverse ++ .ref b :: rest) (hW : 2 * g.monitorRoom + (rest.map fun v => v.category).sum ≤ W9) (hdg : decode c.code g.pc = .ok (.invokevirtual index, 3))
    (hpre : ∀ vm₁, s.WarmedH vm₁ → Pre ⟨T.setVm vm₁, locs, cells, slots⟩ (Value.ref b :: argsL).toArray) :
    (∃ (v : Option Value) (vm₁ : Vm) (B : Pt), s.WarmedH vm₁ ∧ Stand p l e R s m args below meth c B.U B.locs B.cells B.slots ∧ Post ⟨T.setVm vm₁, locs, cells, slots⟩ (Value.ref b :: argsL).toArray v B ∧
      ∀ target, Steps p.tables e below (B.U.setTop { g with pc := g.pc + 3, stack := v.toList ++ rest }) target → Steps p.tables e below (T.setTop g) target) ∨
    (∃ (q : Addr) (vm₁ : Vm) (B : Pt), s.WarmedH vm₁ ∧ Stand p l e R s m args below meth c B.U B.locs B.cells B.slots ∧ PostX ⟨T.setVm vm₁, locs, cells, slots⟩ (Value.ref b :: argsL).toArray q B ∧
      Steps p.tables e below (T.setTop g) ((B.U.setTop { g with stack := rest }).pushFrame (.throwing q))) := by
  obtain ⟨mk, methM, hnamed, hmethM, hstM, habM⟩ := Cond.instanceMethod_spec hinst
  obtain ⟨methM', cM, hmethM', -, -, -, -, -, -, hsigM⟩ := Cond.code_spec hnamed hcode
  cases hmethM.symm.trans hmethM'
  obtain ⟨c2, r2, m2, q1, q2, q3, q4, kP, hkP, hkPi⟩ := Cond.selects_spec hsel
  cases hcls.symm.trans q1
  cases (State.methodFound?_of_named hnamed hy).symm.trans q2
  cases hnamed.symm.trans q3
  have hselP : selectMethod e.platform s.vm cellB.cls mk = .method mk := by rw [Launch.admits_selectMethod X.admits]; exact q4
  obtain ⟨vm₁, X₁, hstep₁⟩ := X.invokevirtual hexec hown hlink hnamed hmethM hstM hkP hkPi hy (a := b) (cell := cellB) hcell
    (fun z h => by rw [h] at hobj; cases hobj) hselP hmethM habM hkP hkPi (g := g) hg (argsL := argsL) (rest := rest) (hlen _ hsigM) hstack hdg
  rcases hK m meth c ⟨T.setVm vm₁, locs, cells, slots⟩ { g with stack := rest } (.invokevirtual index) mk (Value.ref b :: argsL).toArray X₁ hg hsize hdg hW (X₁.named hnamed) (hpre vm₁ X₁.warmed) with ⟨v, B, X', hpost, hsteps⟩ | ⟨q, B, X', hpost, hsteps⟩
  · exact Or.inl ⟨v, vm₁, B, X₁.warmed, X', hpost, fun target h => hstep₁ _ fun acts => by rw [doInvoke_state]; exact hsteps.trans h⟩
  · exact Or.inr ⟨q, vm₁, B, X₁.warmed, X', hpost, hstep₁ _ fun acts => by rw [doInvoke_state]; exact hsteps⟩
theorem vx_callS (X : Stand p l e R s m args below meth c T locs cells slots) (hexec : p.tables.exec = Jvm.exec) {own : String} {index : Nat} {y : MethodName} {bytes : ByteArray} {maxL : Nat} {ret : Option FieldType}
    (hown : s.vm.findClass own = some m.cls) (hlink : (Cond.methodLink own index y).before args s = true) (hstat : (Cond.static y).before args s = true) (hinit : (Cond.initialized y.cls).before args s = true)
    (hcode : (Cond.code y bytes maxL ret).before args s = true) (hy : y.cls ≠ "java/lang/invoke/MethodHandle" ∧ y.cls ≠ "java/lang/invoke/VarHandle")
    {W9 : Nat} {Pre : Pt → Array Value → Prop} {Post : Pt → Array Value → Option Value → Pt → Prop} {PostX : Pt → Array Value → Addr → Pt → Prop} (hK : vx_Back l R p e below s args y 3 W9 Pre Post PostX)
    {g : JFrame} (hg : g.method = m) (hsize : g.locals.size = c.maxLocals) {argsL rest : List Value} (hlen : ∀ sig, parseMethodDescriptor y.desc = some sig → argsL.length = sig.parameters.length)
    (hstack : g.stack = argsL.reverse ++ rest) (hW : 2 * g.monitorRoom + (rest.map fun v => v.category).sum ≤ W9) (hdg : decode c.code g.pc = .ok (.invokestatic index, 3))
    (hpre : ∀ vm₁, s.WarmedH vm₁ → Pre ⟨T.setVm vm₁, locs, cells, slots⟩ argsL.toArray) :
    (∃ (v : Option Value) (vm₁ : Vm) (B : Pt), s.WarmedH vm₁ ∧ Stand p l e R s m args below meth c B.U B.locs B.cells B.slots ∧ Post ⟨T.setVm vm₁, locs, cells, slots⟩ argsL.toArray v B ∧
      ∀ target, Steps p.tables e below (B.U.setTop { g with pc := g.pc + 3, stack := v.toList ++ rest }) target → Steps p.tables e below (T.setTop g) target) ∨
    (∃ (q : Addr) (vm₁ : Vm) (B : Pt), s.WarmedH vm₁ ∧ Stand p l e R s m args below meth c B.U B.locs B.cells B.slots ∧ PostX ⟨T.setVm vm₁, locs, cells, slots⟩ argsL.toArray q B ∧
      Steps p.tables e below (T.setTop g) ((B.U.setTop { g with stack := rest }).pushFrame (.throwing q))) := by
  obtain ⟨mk, hnamed⟩ := Cond.code_named hcode
  obtain ⟨methM, cM, hmethM, -, -, -, -, -, -, hsigM⟩ := Cond.code_spec hnamed hcode
  have hstatic : methM.isStatic = true := Cond.static_spec hnamed hmethM hstat
  obtain ⟨kP, hkP, -⟩ := className_of_methodNamed hnamed
  have hinitP : kP.init = .initialized := Cond.initialized_spec (findClass_of_methodNamed hnamed) hkP hinit
  obtain ⟨vm₁, X₁, hstep₁⟩ := X.invokestatic hexec hown hlink hnamed hmethM hstatic hkP hinitP hy (g := g) hg (argsL := argsL) (rest := rest) (hlen _ hsigM) hstack hdg
  rcases hK m meth c ⟨T.setVm vm₁, locs, cells, slots⟩ { g with stack := rest } (.invokestatic index) mk argsL.toArray X₁ hg hsize hdg hW (X₁.named hnamed) (hpre vm₁ X₁.warmed) with ⟨v, B, X', hpost, hsteps⟩ | ⟨q, B, X', hpost, hsteps⟩
  · exact Or.inl ⟨v, vm₁, B, X₁.warmed, X', hpost, fun target h => hstep₁ _ fun acts => by rw [doInvoke_state]; exact hsteps.trans h⟩
  · exact Or.inr ⟨q, vm₁, B, X₁.warmed, X', hpost, hstep₁ _ fun acts => by rw [doInvoke_state]; exact hsteps⟩
end Calls
theorem vx_cls {s : State} {T : State} {vm₁ : Vm} {E : String} {k : ClassId} (hW : s.WarmedH vm₁) (h : (T.setVm vm₁).vm.findClass E = some k) : s.vm.findClass E = some k := by
  have h1 : vm₁.findClass E = some k := h
  rw [hW.alike.findClass] at h1
  exact h1
/-- the method's frame g, with q thrown over it -/
def vx_W (p : Program) (l : Launch) (e : Env) (R : Room) (s : State) (m : MethodId) (args : Array Value) (below : List Frame) (meth : Method) (c : Code) (H : Heap) (locs : List Loc) (cells slots : Nat) (Q : State → Prop) (g : JFrame) (q : Addr) : Prop :=
  ∀ T : State, T.heap = H → Stand p l e R s m args below meth c T locs cells slots → ∃ t, Steps p.tables e below ((T.setTop g).pushFrame (.throwing q)) t ∧ Q t
def vx_Run (p : Program) (l : Launch) (e : Env) (R : Room) (s : State) (m : MethodId) (args : Array Value) (below : List Frame) (meth : Method) (c : Code) (H : Heap) (locs : List Loc) (cells slots mc ms : Nat) (g : JFrame) (rest : List Value) (Qa : State → Outcome → State → Prop) (XC : String → State → State → Prop) (free : Addr → Prop) : Prop :=
  ∀ T : State, T.heap = H → Stand p l e R s m args below meth c T locs cells slots →
    (∃ (v : Option Value) (st₀ t T' : State) (L : List Loc), st₀.heap = H ∧ Stand p l e R s m args below meth c T' (locs ++ L) (cells + mc) (slots + ms) ∧ (∀ q ∈ L, free q.base) ∧ T'.heap = t.heap ∧ T'.vm = t.vm ∧ Qa st₀ (.returned v) t ∧
      Goes p e below T g T' { g with pc := g.pc + 3, stack := v.toList ++ rest }) ∨
    (∃ (q : Addr) (st₀ t T' : State) (L : List Loc) (E : String) (ce : Cell), st₀.heap = H ∧ Stand p l e R s m args below meth c T' (locs ++ L) (cells + mc) (slots + ms) ∧ (∀ z ∈ L, free z.base) ∧ T'.heap = t.heap ∧ T'.vm = t.vm ∧ XC E st₀ t ∧ t.heap[q]? = some ce ∧ ce.vm = .none ∧ s.vm.findClass E = some ce.cls ∧
      Steps p.tables e below (T.setTop g) ((T'.setTop { g with stack := rest }).pushFrame (.throwing q)))
def vx_X {S : Type} (px : S → Prop) (B : String → S → State → Prop) (A : Nat → Prop) : String → State → State → Prop := fun E st t => ∃ u : S, px u ∧ B E u t ∧ va_F A st t
section Runs
variable {p : Program} {l : Launch} {e : Env} {R : Room} {s : State} {m : MethodId} {args : Array Value} {below : List Frame} {meth : Method} {c : Code} {H : Heap} {locs : List Loc} {cells slots : Nat}
variable {y : MethodName} {bytes cc : ByteArray} {maxL nL mc ms n index : Nat} {ret : Option FieldType} {ws : List Cond} {rm : Room} {Pc : Array Value → State → Prop} {Qc : Array Value → State → Outcome → State → Prop} {XC : String → State → State → Prop} {free : Addr → Prop} {Ts : List Cond} {own C : String} {b : Addr} {As rest : List Value} {g : JFrame}
theorem vx_callBack (cb : CallB R s args own index y bytes maxL ret ws rm mc ms n) (hM : vx_Met l y ws rm Pc Qc XC mc ms free) (hbl : FrameBlind Pc) : vx_Back l R p e below s args y 3 8 (PreOf R mc ms Pc) (PostOf Qc mc ms free) (vx_Post XC mc ms free) := by
  obtain ⟨hrc, hrs, hfr, hlo, hws, hcw, -, hini, -⟩ := cb
  exact vx_back (bytes := bytes) (maxL := maxL) (ret := ret) hM hbl hrc hrs hfr hlo hws hcw (fun a' U hW => word_at hW (Or.inl (by first | rfl | simp [Cond.onTables, Cond.keeps, Cond.steady])) hini)
theorem vx_runV (S : CallFix p m c cc nL s args Ts own) (hM : vx_Met l y ws rm Pc Qc XC mc ms free) (cw : CallW R s args own C index y bytes maxL ret ws rm mc ms n) (hp : PreV s H C b Pc As)
    (hg : g.method = m) (hn : As.length = n) (hsize : g.locals.size = nL) (hstack : g.stack = As.reverse ++ .ref b :: rest) (hW : 2 * g.monitorRoom + (rest.map fun v => v.category).sum ≤ 8) (hdg : decode cc g.pc = .ok (.invokevirtual index, 3)) (hf : cells + mc ≤ R.cells ∧ slots + ms ≤ R.slots) :
    vx_Run p l e R s m args below meth c H locs cells slots mc ms g rest (Qc (Value.ref b :: As).toArray) XC free := by
  have hK : vx_Back l R p e below s args y 3 8 (PreOf R mc ms Pc) (PostOf Qc mc ms free) (vx_Post XC mc ms free) := vx_callBack cw.1 hM hp.1
  obtain ⟨⟨-, -, -, -, -, -, hcode, -, hy, hlen, hl⟩, hin, hse⟩ := cw
  obtain ⟨hx, hb, hml, ho, -⟩ := S
  obtain ⟨-, ⟨cellB, hcB, hoB, hclB⟩, hPc⟩ := hp
  intro T hT X
  rcases vx_callV X hx (C := C) (bytes := bytes) (maxL := maxL) (ret := ret) ho hl hin hse hcode hy hK (by rw [hT]; exact hcB) hoB hclB hg (hsize.trans hml.symm) (argsL := As) (rest := rest) (fun sig h => hn.trans (hlen sig h)) hstack hW (by rw [hb]; exact hdg)
    (fun vm₁ hW₁ => ⟨hf.1, hf.2, hPc (T.setVm vm₁) hT hW₁⟩) with ⟨v, vm₁, ⟨U', l2, c2, s2⟩, hW₁, X', ⟨g', mk, t, L, e1, e2, hq, h1, hL, h2, h3⟩, st⟩ | ⟨q, vm₁, ⟨U', l2, c2, s2⟩, hW₁, X', ⟨g', mk, t, L, E, ce, e1, e2, hq, hce, hcv, hcl, h1, hL, h2, h3⟩, st⟩
  · dsimp only [Pt.U, Pt.locs, Pt.cells, Pt.slots] at X' e1 e2 h1 h2 h3 st
    subst h1; subst h2; subst h3
    exact Or.inl ⟨v, (T.setVm vm₁).calling g' mk (Value.ref b :: As).toArray, t, U', L, hT, X', hL, e1, e2, hq, st⟩
  · dsimp only [Pt.U, Pt.locs, Pt.cells, Pt.slots] at X' e1 e2 h1 h2 h3 st hcl
    subst h1; subst h2; subst h3
    exact Or.inr ⟨q, (T.setVm vm₁).calling g' mk (Value.ref b :: As).toArray, t, U', L, E, ce, hT, X', hL, e1, e2, hq, hce, hcv, vx_cls hW₁ hcl, st⟩
theorem vx_runS (S : CallFix p m c cc nL s args Ts own) (hM : vx_Met l y ws rm Pc Qc XC mc ms free) (cw : CallB R s args own index y bytes maxL ret ws rm mc ms n ∧ (Cond.static y).before args s = true) (hp : PreS s H Pc As)
    (hg : g.method = m) (hn : As.length = n) (hsize : g.locals.size = nL) (hstack : g.stack = As.reverse ++ rest) (hW : 2 * g.monitorRoom + (rest.map fun v => v.category).sum ≤ 8) (hdg : decode cc g.pc = .ok (.invokestatic index, 3)) (hf : cells + mc ≤ R.cells ∧ slots + ms ≤ R.slots) :
    vx_Run p l e R s m args below meth c H locs cells slots mc ms g rest (Qc As.toArray) XC free := by
  have hK : vx_Back l R p e below s args y 3 8 (PreOf R mc ms Pc) (PostOf Qc mc ms free) (vx_Post XC mc ms free) := vx_callBack cw.1 hM hp.1
  obtain ⟨⟨-, -, -, -, -, -, hcode, hini, hy, hlen, hl⟩, hstt⟩ := cw
  obtain ⟨hx, hb, hml, ho, -⟩ := S
  intro T hT X
  rcases vx_callS X hx (bytes := bytes) (maxL := maxL) (ret := ret) ho hl hstt hini hcode hy hK hg (hsize.trans hml.symm) (argsL := As) (rest := rest) (fun sig h => hn.trans (hlen sig h)) hstack hW (by rw [hb]; exact hdg)
    (fun vm₁ hW₁ => ⟨hf.1, hf.2, hp.2 (T.setVm vm₁) hT hW₁⟩) with ⟨v, vm₁, ⟨U', l2, c2, s2⟩, hW₁, X', ⟨g', mk, t, L, e1, e2, hq, h1, hL, h2, h3⟩, st⟩ | ⟨q, vm₁, ⟨U', l2, c2, s2⟩, hW₁, X', ⟨g', mk, t, L, E, ce, e1, e2, hq, hce, hcv, hcl, h1, hL, h2, h3⟩, st⟩
  · dsimp only [Pt.U, Pt.locs, Pt.cells, Pt.slots] at X' e1 e2 h1 h2 h3 st
    subst h1; subst h2; subst h3
    exact Or.inl ⟨v, (T.setVm vm₁).calling g' mk As.toArray, t, U', L, hT, X', hL, e1, e2, hq, st⟩
  · dsimp only [Pt.U, Pt.locs, Pt.cells, Pt.slots] at X' e1 e2 h1 h2 h3 st hcl
    subst h1; subst h2; subst h3
    exact Or.inr ⟨q, (T.setVm vm₁).calling g' mk As.toArray, t, U', L, E, ce, hT, X', hL, e1, e2, hq, hce, hcv, vx_cls hW₁ hcl, st⟩
end Runs
section Rows
variable {p : Program} {l : Launch} {e : Env} {R : Room} {s : State} {m : MethodId} {args : Array Value} {below : List Frame} {meth : Method} {c : Code} {H : Heap} {locs : List Loc} {cells slots : Nat} {Q : State → Prop}
variable {mc ms : Nat} {free : Addr → Prop} {A0 A1 : Nat → Prop} {H0 : Heap} {a : Array Value} {pc : Nat} {ls : Array Slot} {st0 rest : List Value}
theorem vx_keep {st₀ t T' : State} {L : List Loc} (h0 : st₀.heap = H) (e1 : T'.heap = t.heap) (hS : va_S A0 H0 H locs) (hA : ∀ q, q < H.size → A1 q → A0 q) (hf : ∀ q, free q → A0 q) (hL : ∀ q ∈ L, free q.base) (hF : va_F A1 st₀ t) :
    H.size ≤ T'.heap.size ∧ (∀ q : Nat, q < H.size → ¬ A1 q → T'.heap[q]? = H[q]?) ∧ va_S A0 H0 T'.heap (locs ++ L) := by
  obtain ⟨hz, hk⟩ := hF
  rw [h0] at hz hk
  exact ⟨by rw [e1]; exact hz, fun q h1 h2 => by rw [e1]; exact hk q h1 h2,
    ⟨Nat.le_trans hS.1 (by rw [e1]; exact hz), fun q h1 h2 => by rw [e1, hk q (Nat.lt_of_lt_of_le h1 hS.1) (fun z => h2 (hA q (Nat.lt_of_lt_of_le h1 hS.1) z))]; exact hS.2.1 q h1 h2, fun q hq => by
      rcases List.mem_append.mp hq with h | h
      · exact hS.2.2 q h
      · exact hf _ (hL q h)⟩⟩
theorem vx_calli {S SX : Type} {post : Int32 → S → Prop} {px : SX → Prop} {B : S → State → Prop} {BX : String → SX → State → Prop} {AX : Nat → Prop} (hr : vx_Run p l e R s m args below meth c H locs cells slots mc ms (F0 m pc ls st0) rest (va_Qi post B A1 a) (vx_X px BX AX) free) (hS : va_S A0 H0 H locs) (hA : ∀ q, q < H.size → A1 q → A0 q) (hf : ∀ q, free q → A0 q) (hAX : ∀ q, q < H.size → AX q → A0 q)
    (kx : ∀ (E : String) (ce : Cell) (q9 : Addr) (u : SX) (t : State) (H1 : Heap) (locs1 : List Loc), t.heap = H1 → s.vm.Alike t.vm → px u → BX E u t → H.size ≤ H1.size → (∀ q : Nat, q < H.size → ¬ AX q → H1[q]? = H[q]?) → va_S A0 H0 H1 locs1 → H1[q9]? = some ce → ce.vm = .none → s.vm.findClass E = some ce.cls → vx_W p l e R s m args below meth c H1 locs1 (cells + mc) (slots + ms) Q (F0 m pc ls rest) q9)
    (kk : ∀ (r : Int32) (u : S) (t : State) (H1 : Heap) (locs1 : List Loc), t.heap = H1 → s.vm.Alike t.vm → post r u → B u t → H.size ≤ H1.size → (∀ q : Nat, q < H.size → ¬ A1 q → H1[q]? = H[q]?) → va_S A0 H0 H1 locs1 → W p l e R s m args below meth c H1 locs1 (cells + mc) (slots + ms) Q (F0 m (pc + 3) ls (.int r :: rest))) : W p l e R s m args below meth c H locs cells slots Q (F0 m pc ls st0) := by
  intro T hT X
  rcases hr T hT X with ⟨v, st₀, t, T', L, h0, X', hL, e1, e2, ⟨⟨r, u, hv, hp, hb⟩, hF⟩, st⟩ | ⟨q, st₀, t, T', L, E, ce, h0, X', hL, e1, e2, ⟨u, hp, hb, hF⟩, hce, hcv, hcl, st⟩
  · cases hv
    obtain ⟨k1, k2, k3⟩ := vx_keep h0 e1 hS hA hf hL hF
    obtain ⟨t2, a1, b1⟩ := kk r u t T'.heap (locs ++ L) e1.symm (by rw [← e2]; exact X'.warmed.alike) hp hb k1 k2 k3 T' rfl X'
    exact ⟨t2, st t2 a1, b1⟩
  · obtain ⟨k1, k2, k3⟩ := vx_keep h0 e1 hS hAX hf hL hF
    obtain ⟨t2, a1, b1⟩ := kx E ce q u t T'.heap (locs ++ L) e1.symm (by rw [← e2]; exact X'.warmed.alike) hp hb k1 k2 k3 (by rw [e1]; exact hce) hcv hcl T' rfl X'
    exact ⟨t2, st.trans a1, b1⟩
theorem vx_calll {S SX : Type} {post : Int64 → S → Prop} {px : SX → Prop} {B : S → State → Prop} {BX : String → SX → State → Prop} {AX : Nat → Prop} (hr : vx_Run p l e R s m args below meth c H locs cells slots mc ms (F0 m pc ls st0) rest (va_Ql post B A1 a) (vx_X px BX AX) free) (hS : va_S A0 H0 H locs) (hA : ∀ q, q < H.size → A1 q → A0 q) (hf : ∀ q, free q → A0 q) (hAX : ∀ q, q < H.size → AX q → A0 q)
    (kx : ∀ (E : String) (ce : Cell) (q9 : Addr) (u : SX) (t : State) (H1 : Heap) (locs1 : List Loc), t.heap = H1 → s.vm.Alike t.vm → px u → BX E u t → H.size ≤ H1.size → (∀ q : Nat, q < H.size → ¬ AX q → H1[q]? = H[q]?) → va_S A0 H0 H1 locs1 → H1[q9]? = some ce → ce.vm = .none → s.vm.findClass E = some ce.cls → vx_W p l e R s m args below meth c H1 locs1 (cells + mc) (slots + ms) Q (F0 m pc ls rest) q9)
    (kk : ∀ (r : Int64) (u : S) (t : State) (H1 : Heap) (locs1 : List Loc), t.heap = H1 → s.vm.Alike t.vm → post r u → B u t → H.size ≤ H1.size → (∀ q : Nat, q < H.size → ¬ A1 q → H1[q]? = H[q]?) → va_S A0 H0 H1 locs1 → W p l e R s m args below meth c H1 locs1 (cells + mc) (slots + ms) Q (F0 m (pc + 3) ls (.long r :: rest))) : W p l e R s m args below meth c H locs cells slots Q (F0 m pc ls st0) := by
  intro T hT X
  rcases hr T hT X with ⟨v, st₀, t, T', L, h0, X', hL, e1, e2, ⟨⟨r, u, hv, hp, hb⟩, hF⟩, st⟩ | ⟨q, st₀, t, T', L, E, ce, h0, X', hL, e1, e2, ⟨u, hp, hb, hF⟩, hce, hcv, hcl, st⟩
  · cases hv
    obtain ⟨k1, k2, k3⟩ := vx_keep h0 e1 hS hA hf hL hF
    obtain ⟨t2, a1, b1⟩ := kk r u t T'.heap (locs ++ L) e1.symm (by rw [← e2]; exact X'.warmed.alike) hp hb k1 k2 k3 T' rfl X'
    exact ⟨t2, st t2 a1, b1⟩
  · obtain ⟨k1, k2, k3⟩ := vx_keep h0 e1 hS hAX hf hL hF
    obtain ⟨t2, a1, b1⟩ := kx E ce q u t T'.heap (locs ++ L) e1.symm (by rw [← e2]; exact X'.warmed.alike) hp hb k1 k2 k3 (by rw [e1]; exact hce) hcv hcl T' rfl X'
    exact ⟨t2, st.trans a1, b1⟩
theorem vx_callf {S SX : Type} {post : UInt32 → S → Prop} {px : SX → Prop} {B : S → State → Prop} {BX : String → SX → State → Prop} {AX : Nat → Prop} (hr : vx_Run p l e R s m args below meth c H locs cells slots mc ms (F0 m pc ls st0) rest (va_Qf post B A1 a) (vx_X px BX AX) free) (hS : va_S A0 H0 H locs) (hA : ∀ q, q < H.size → A1 q → A0 q) (hf : ∀ q, free q → A0 q) (hAX : ∀ q, q < H.size → AX q → A0 q)
    (kx : ∀ (E : String) (ce : Cell) (q9 : Addr) (u : SX) (t : State) (H1 : Heap) (locs1 : List Loc), t.heap = H1 → s.vm.Alike t.vm → px u → BX E u t → H.size ≤ H1.size → (∀ q : Nat, q < H.size → ¬ AX q → H1[q]? = H[q]?) → va_S A0 H0 H1 locs1 → H1[q9]? = some ce → ce.vm = .none → s.vm.findClass E = some ce.cls → vx_W p l e R s m args below meth c H1 locs1 (cells + mc) (slots + ms) Q (F0 m pc ls rest) q9)
    (kk : ∀ (r : UInt32) (u : S) (t : State) (H1 : Heap) (locs1 : List Loc), t.heap = H1 → s.vm.Alike t.vm → post r u → B u t → H.size ≤ H1.size → (∀ q : Nat, q < H.size → ¬ A1 q → H1[q]? = H[q]?) → va_S A0 H0 H1 locs1 → W p l e R s m args below meth c H1 locs1 (cells + mc) (slots + ms) Q (F0 m (pc + 3) ls (.float r :: rest))) : W p l e R s m args below meth c H locs cells slots Q (F0 m pc ls st0) := by
  intro T hT X
  rcases hr T hT X with ⟨v, st₀, t, T', L, h0, X', hL, e1, e2, ⟨⟨r, u, hv, hp, hb⟩, hF⟩, st⟩ | ⟨q, st₀, t, T', L, E, ce, h0, X', hL, e1, e2, ⟨u, hp, hb, hF⟩, hce, hcv, hcl, st⟩
  · cases hv
    obtain ⟨k1, k2, k3⟩ := vx_keep h0 e1 hS hA hf hL hF
    obtain ⟨t2, a1, b1⟩ := kk r u t T'.heap (locs ++ L) e1.symm (by rw [← e2]; exact X'.warmed.alike) hp hb k1 k2 k3 T' rfl X'
    exact ⟨t2, st t2 a1, b1⟩
  · obtain ⟨k1, k2, k3⟩ := vx_keep h0 e1 hS hAX hf hL hF
    obtain ⟨t2, a1, b1⟩ := kx E ce q u t T'.heap (locs ++ L) e1.symm (by rw [← e2]; exact X'.warmed.alike) hp hb k1 k2 k3 (by rw [e1]; exact hce) hcv hcl T' rfl X'
    exact ⟨t2, st.trans a1, b1⟩
theorem vx_calld {S SX : Type} {post : UInt64 → S → Prop} {px : SX → Prop} {B : S → State → Prop} {BX : String → SX → State → Prop} {AX : Nat → Prop} (hr : vx_Run p l e R s m args below meth c H locs cells slots mc ms (F0 m pc ls st0) rest (va_Qd post B A1 a) (vx_X px BX AX) free) (hS : va_S A0 H0 H locs) (hA : ∀ q, q < H.size → A1 q → A0 q) (hf : ∀ q, free q → A0 q) (hAX : ∀ q, q < H.size → AX q → A0 q)
    (kx : ∀ (E : String) (ce : Cell) (q9 : Addr) (u : SX) (t : State) (H1 : Heap) (locs1 : List Loc), t.heap = H1 → s.vm.Alike t.vm → px u → BX E u t → H.size ≤ H1.size → (∀ q : Nat, q < H.size → ¬ AX q → H1[q]? = H[q]?) → va_S A0 H0 H1 locs1 → H1[q9]? = some ce → ce.vm = .none → s.vm.findClass E = some ce.cls → vx_W p l e R s m args below meth c H1 locs1 (cells + mc) (slots + ms) Q (F0 m pc ls rest) q9)
    (kk : ∀ (r : UInt64) (u : S) (t : State) (H1 : Heap) (locs1 : List Loc), t.heap = H1 → s.vm.Alike t.vm → post r u → B u t → H.size ≤ H1.size → (∀ q : Nat, q < H.size → ¬ A1 q → H1[q]? = H[q]?) → va_S A0 H0 H1 locs1 → W p l e R s m args below meth c H1 locs1 (cells + mc) (slots + ms) Q (F0 m (pc + 3) ls (.double r :: rest))) : W p l e R s m args below meth c H locs cells slots Q (F0 m pc ls st0) := by
  intro T hT X
  rcases hr T hT X with ⟨v, st₀, t, T', L, h0, X', hL, e1, e2, ⟨⟨r, u, hv, hp, hb⟩, hF⟩, st⟩ | ⟨q, st₀, t, T', L, E, ce, h0, X', hL, e1, e2, ⟨u, hp, hb, hF⟩, hce, hcv, hcl, st⟩
  · cases hv
    obtain ⟨k1, k2, k3⟩ := vx_keep h0 e1 hS hA hf hL hF
    obtain ⟨t2, a1, b1⟩ := kk r u t T'.heap (locs ++ L) e1.symm (by rw [← e2]; exact X'.warmed.alike) hp hb k1 k2 k3 T' rfl X'
    exact ⟨t2, st t2 a1, b1⟩
  · obtain ⟨k1, k2, k3⟩ := vx_keep h0 e1 hS hAX hf hL hF
    obtain ⟨t2, a1, b1⟩ := kx E ce q u t T'.heap (locs ++ L) e1.symm (by rw [← e2]; exact X'.warmed.alike) hp hb k1 k2 k3 (by rw [e1]; exact hce) hcv hcl T' rfl X'
    exact ⟨t2, st.trans a1, b1⟩
theorem vx_callv {S SX : Type} {post : S → Prop} {px : SX → Prop} {B : S → State → Prop} {BX : String → SX → State → Prop} {AX : Nat → Prop} (hr : vx_Run p l e R s m args below meth c H locs cells slots mc ms (F0 m pc ls st0) rest (va_Qv post B A1 a) (vx_X px BX AX) free) (hS : va_S A0 H0 H locs) (hA : ∀ q, q < H.size → A1 q → A0 q) (hf : ∀ q, free q → A0 q) (hAX : ∀ q, q < H.size → AX q → A0 q)
    (kx : ∀ (E : String) (ce : Cell) (q9 : Addr) (u : SX) (t : State) (H1 : Heap) (locs1 : List Loc), t.heap = H1 → s.vm.Alike t.vm → px u → BX E u t → H.size ≤ H1.size → (∀ q : Nat, q < H.size → ¬ AX q → H1[q]? = H[q]?) → va_S A0 H0 H1 locs1 → H1[q9]? = some ce → ce.vm = .none → s.vm.findClass E = some ce.cls → vx_W p l e R s m args below meth c H1 locs1 (cells + mc) (slots + ms) Q (F0 m pc ls rest) q9)
    (kk : ∀ (u : S) (t : State) (H1 : Heap) (locs1 : List Loc), t.heap = H1 → s.vm.Alike t.vm → post u → B u t → H.size ≤ H1.size → (∀ q : Nat, q < H.size → ¬ A1 q → H1[q]? = H[q]?) → va_S A0 H0 H1 locs1 → W p l e R s m args below meth c H1 locs1 (cells + mc) (slots + ms) Q (F0 m (pc + 3) ls (rest))) : W p l e R s m args below meth c H locs cells slots Q (F0 m pc ls st0) := by
  intro T hT X
  rcases hr T hT X with ⟨v, st₀, t, T', L, h0, X', hL, e1, e2, ⟨⟨u, hv, hp, hb⟩, hF⟩, st⟩ | ⟨q, st₀, t, T', L, E, ce, h0, X', hL, e1, e2, ⟨u, hp, hb, hF⟩, hce, hcv, hcl, st⟩
  · cases hv
    obtain ⟨k1, k2, k3⟩ := vx_keep h0 e1 hS hA hf hL hF
    obtain ⟨t2, a1, b1⟩ := kk u t T'.heap (locs ++ L) e1.symm (by rw [← e2]; exact X'.warmed.alike) hp hb k1 k2 k3 T' rfl X'
    exact ⟨t2, st t2 a1, b1⟩
  · obtain ⟨k1, k2, k3⟩ := vx_keep h0 e1 hS hAX hf hL hF
    obtain ⟨t2, a1, b1⟩ := kx E ce q u t T'.heap (locs ++ L) e1.symm (by rw [← e2]; exact X'.warmed.alike) hp hb k1 k2 k3 (by rw [e1]; exact hce) hcv hcl T' rfl X'
    exact ⟨t2, st.trans a1, b1⟩
/-- caught by the row x of this method's table; the rows ahead don't take it -/
theorem vx_catch {own name : String} {E : String} {ce : Cell} {q : Addr} (hown : s.vm.findClass own = some m.cls) (pre : List ExceptionTableEntry) (x : ExceptionTableEntry) (suf : List ExceptionTableEntry) (hsplit : c.exceptionTable.toList = pre ++ x :: suf)
    (hpass : ∀ z ∈ pre, covers z pc = false ∨ (z.catchType ≠ 0 ∧ ∃ nm : String, (Cond.classLink own z.catchType nm).before args s = true ∧ va_Nc E nm s)) (hx : covers x pc = true) (h0 : x.catchType ≠ 0)
    (hlink : (Cond.classLink own x.catchType name).before args s = true) (hcast : (Cond.castable E name).before args s = true) (hcell : H[q]? = some ce) (hv : ce.vm = .none) (hcl : s.vm.findClass E = some ce.cls)
    (kk : W p l e R s m args below meth c H locs cells slots Q (F0 m x.handlerPc ls [.ref q])) : vx_W p l e R s m args below meth c H locs cells slots Q (F0 m pc ls rest) q := by
  intro T hT X
  have hpl : e.platform.magicAccessors = ({} : Platform).magicAccessors := by rw [X.admits.platform]
  obtain ⟨c3, c4, hc3, hc4, hasg⟩ := Cond.castable_spec hcast
  cases Option.some.inj (hc3.symm.trans hcl)
  obtain ⟨c5, hc5, hcl5⟩ := Cond.classLink_spec hown hlink e.platform hpl
  cases Option.some.inj (hc4.symm.trans hc5)
  obtain ⟨vm', X', st⟩ := X.thenCaughtThrough q (g := F0 m pc ls rest) rfl (Steps.refl _) (by rw [hT]; exact hcell) (by rw [hv]; rfl) (by obtain ⟨k9, h9, -⟩ := Vm.findClass_spec hcl; exact ⟨k9, h9⟩) pre x suf hsplit
    (fun z hz => by
      rcases hpass z hz with h | ⟨hz0, nm, hl1, hn1⟩
      · exact Or.inl h
      · obtain ⟨c6, hc6, hcl6⟩ := Cond.classLink_spec hown hl1 e.platform hpl
        obtain ⟨a8, b8, h1, h2, h3⟩ := hn1
        cases Option.some.inj (h1.symm.trans hcl)
        cases Option.some.inj (h2.symm.trans hc6)
        exact Or.inr ⟨hz0, _, hcl6, h3⟩) hx (Or.inr ⟨h0, c4, hcl5, hasg⟩)
  obtain ⟨t, a1, b1⟩ := kk (T.setVm vm') hT X'
  exact ⟨t, st.trans a1, b1⟩
end Rows
section Ends
variable {p : Program} {l : Launch} {e : Env} {R : Room} {s : State} {m : MethodId} {args : Array Value} {below : List Frame} {meth : Method} {c : Code} {H : Heap} {locs : List Loc} {cells slots : Nat} {Q : State → Prop}
variable {mc ms : Nat} {free : Addr → Prop} {A0 A1 : Nat → Prop} {H0 : Heap} {a : Array Value} {ls : Array Slot} {st0 rest : List Value}
variable {Qc : Array Value → State → Outcome → State → Prop} {XC : String → State → State → Prop}
/-- what a body that may throw owes at its end -/
def vx_MQ (below : List Frame) (Qc : Array Value → State → Outcome → State → Prop) (XC : String → State → State → Prop) (a : Array Value) (s : State) (mc ms : Nat) (free : Addr → Prop) : State → Prop := fun t =>
  ∃ o, t.status = .running ∧ Ended t below o ∧ vx_Q Qc XC mc ms free a s o t
theorem vx_ret {g : JFrame} {mc ms : Nat} (k : W p l e R s m args below meth c H locs cells slots (MQ below Qc args s mc ms free) g) : W p l e R s m args below meth c H locs cells slots (vx_MQ below Qc XC args s mc ms free) g := by
  intro T hT X
  obtain ⟨t, a1, o, b1, b2, b3, b4⟩ := k T hT X
  exact ⟨t, a1, o, b1, b2, Or.inl ⟨b3, b4⟩⟩
/-- not caught here: it goes on to the caller -/
theorem vx_widen {g : JFrame} {q : Addr} {k n : Nat} (h1 : cells ≤ k) (h2 : slots ≤ n) (kk : vx_W p l e R s m args below meth c H locs k n Q g q) : vx_W p l e R s m args below meth c H locs cells slots Q g q := fun T hT X => kk T hT (stand_widen X h1 h2)
theorem vx_out {pc : Nat} {E : String} {ce : Cell} {q : Addr} {mc ms : Nat} (hout : ∀ x ∈ c.exceptionTable.toList, covers x pc = false) (hlocks : meth.locks = false) (hcell : H[q]? = some ce) (hv : ce.vm = .none) (hcl : s.vm.findClass E = some ce.cls)
    (hx : ∀ t : State, t.heap = H → s.vm.Alike t.vm → XC E s t) (hf : ∀ z ∈ locs, free z.base) (hc : cells ≤ mc) (hs : slots ≤ ms) :
    vx_W p l e R s m args below meth c H locs cells slots (vx_MQ below Qc XC args s mc ms free) (F0 m pc ls rest) q := by
  intro T hT X
  obtain ⟨st1, hrun, hend, hW, hsm⟩ := X.leaveThrown q (g := F0 m pc ls rest) rfl rfl rfl hout hlocks
  have hcell9 : (T.setFrames (.throwing q :: below)).heap[q]? = some ce := by
    show T.heap[q]? = some ce
    rw [hT]; exact hcell
  exact ⟨_, st1, .threw q, hrun, hend, Or.inr ⟨q, rfl, E, ce, locs, hx _ hT hW.alike, hcell9, hv, hcl, hW, hsm.mono hc hs, hf⟩⟩
theorem vx_frame {U : State} {k n : Nat} (h : s.sameButNew ({ U with vm := s.vm } : State) locs k n) : s.heap.size ≤ U.heap.size ∧ ∀ q : Nat, q < s.heap.size → (∀ z ∈ locs, z.base ≠ q) → U.heap[q]? = s.heap[q]? := by
  obtain ⟨-, h2, -, -, -, h6⟩ := h
  refine ⟨h2, fun q hq hz => ?_⟩
  obtain ⟨c9, e1, e2, e3, e4⟩ := h6 q _ (Array.getElem?_eq_getElem hq)
  have hs : c9.slots = (s.heap[q]).slots := Array.ext_getElem? fun i => e4 i fun hm => hz _ hm rfl
  have h9 : c9 = s.heap[q] := by
    rw [hs] at e2
    exact e2
  have e5 : U.heap[q]? = some c9 := e1
  rw [e5, h9, Array.getElem?_eq_getElem hq]
/-- the words of a throw but the four that speak of the heap -/
def vx_no (w : Cond) : Bool := decide (w ≠ .isRef (.static Bundle.tN "UNASSIGNED_STACK" Bundle.steD)) && decide (w ≠ .isRef (.static Bundle.tN "SUPPRESSED_SENTINEL" Bundle.listD)) && decide (w ≠ .laysStatic Bundle.tN "UNASSIGNED_STACK" Bundle.steD) && decide (w ≠ .laysStatic Bundle.tN "SUPPRESSED_SENTINEL" Bundle.listD)
def vx_at0 (own : String) (ic : Nat) (X : String) (names : List String) : List Cond := (Bundle.ownAtoms0 own ic X names).filter vx_no
def vx_atS (own : String) (ic : Nat) (X : String) (names : List String) : List Cond := (Bundle.ownAtoms own ic X names).filter vx_no
/-- a word that the tables alone decide, or a good one -/
def vx_ot (w : Cond) : Bool := w.onTables || goodWord w
theorem vx_ot_at {args a' : Array Value} {s U : State} {w : Cond} (hW : s.WarmedH U.vm) (hvm : s.vm = U.vm) (hg : vx_ot w = true) (h : w.before args s = true) : w.before a' U = true := by
  simp only [vx_ot, Bool.or_eq_true] at hg
  rcases hg with hg | hg
  · exact va_tabs hg hvm h
  · exact word_at hW (good_of_word hg) h
/-- a list's words: the good ones out of the method's own list, the others by premises of their own -/
theorem vx_hat {args : Array Value} {s : State} {L B : List Cond} (h1 : ∀ w ∈ L.filter goodWord, w.before args s = true) (h2 : ∀ w ∈ L.filter (fun w => !goodWord w), w ∈ B) (h3 : ∀ w ∈ B, w.before args s = true) : ∀ w ∈ L, w.before args s = true := by
  intro w hw
  by_cases g : goodWord w = true
  · exact h1 w (List.mem_filter.mpr ⟨hw, g⟩)
  · refine h3 w (h2 w (List.mem_filter.mpr ⟨hw, ?_⟩))
    show (!goodWord w) = true
    cases hgw : goodWord w
    · rfl
    · exact absurd hgw g
theorem vx_c {args : Array Value} {s : State} {w : Cond} {B : List Cond} (h : w.before args s = true) (t : ∀ w ∈ B, w.before args s = true) : ∀ w' ∈ w :: B, w'.before args s = true := fun w' h' => (List.mem_cons.mp h').elim (fun e => by rw [e]; exact h) (t w')
theorem vx_n {args : Array Value} {s : State} : ∀ w ∈ ([] : List Cond), w.before args s = true := fun _ h => nomatch h
theorem vx_own {args : Array Value} {s : State} {L : List Cond} (h1 : ∀ w ∈ L.filter vx_no, w.before args s = true)
    (hU : (Cond.isRef (.static Bundle.tN "UNASSIGNED_STACK" Bundle.steD)).before args s = true) (hN : (Cond.isRef (.static Bundle.tN "SUPPRESSED_SENTINEL" Bundle.listD)).before args s = true)
    (lU : (Cond.laysStatic Bundle.tN "UNASSIGNED_STACK" Bundle.steD).before args s = true) (lN : (Cond.laysStatic Bundle.tN "SUPPRESSED_SENTINEL" Bundle.listD).before args s = true) : ∀ w ∈ L, w.before args s = true := by
  intro w hw
  by_cases e1 : w = .isRef (.static Bundle.tN "UNASSIGNED_STACK" Bundle.steD)
  · rw [e1]; exact hU
  · by_cases e2 : w = .isRef (.static Bundle.tN "SUPPRESSED_SENTINEL" Bundle.listD)
    · rw [e2]; exact hN
    · by_cases e3 : w = .laysStatic Bundle.tN "UNASSIGNED_STACK" Bundle.steD
      · rw [e3]; exact lU
      · by_cases e4 : w = .laysStatic Bundle.tN "SUPPRESSED_SENTINEL" Bundle.listD
        · rw [e4]; exact lN
        · exact h1 w (List.mem_filter.mpr ⟨hw, by unfold vx_no; rw [decide_eq_true e1, decide_eq_true e2, decide_eq_true e3, decide_eq_true e4]; rfl⟩)
/-- where a static field lies, its class's statics cell in H -/
def vx_L (C n d : String) (A : Nat → Prop) (U : State) (H : Heap) : Prop := ∃ (c : ClassId) (k : Class) (i : Nat) (f : Field) (a : Nat) (cell : Cell), U.vm.findClass C = some c ∧ U.fieldFound? C n d = some (c, k, i, f) ∧ f.isStatic = true ∧ k.statics = some a ∧ H[a]? = some cell ∧ cell.vm.isStatics = true ∧ cell.cls = c ∧ f.slot < cell.slots.size ∧ k.staticTypes[f.slot]? = some f.type ∧ ¬ A a
theorem vx_L.moved {C n d : String} {A : Nat → Prop} {u U : State} {H : Heap} (hvm : u.vm.Alike U.vm) (h : vx_L C n d A u H) : vx_L C n d A U H := by
  obtain ⟨c, k, i, f, a, cell, h1, h2, h3, h4, h5, h6, h7, h8, h9, h10⟩ := h
  obtain ⟨k', hi', he⟩ := State.fieldFound?_setVm hvm h2
  exact ⟨c, k', i, f, a, cell, by rw [hvm.findClass]; exact h1, hi', h3, by rw [he]; exact h4, h5, h6, h7, h8, by rw [he]; exact h9, h10⟩
theorem vx_L.kept {C n d : String} {A : Nat → Prop} {U : State} {H H1 : Heap} (h : vx_L C n d A U H) (hq : ∀ a : Nat, a < H.size → ¬ A a → H1[a]? = H[a]?) : vx_L C n d A U H1 := by
  obtain ⟨c, k, i, f, a, cell, h1, h2, h3, h4, h5, h6, h7, h8, h9, h10⟩ := h
  exact ⟨c, k, i, f, a, cell, h1, h2, h3, h4, by rw [hq a (Array.getElem?_eq_some_iff.mp h5).1 h10]; exact h5, h6, h7, h8, h9, h10⟩
theorem vx_L.narrow {C n d : String} {A B : Nat → Prop} {U : State} {H : Heap} (h : vx_L C n d A U H) (hAB : ∀ q, B q → A q) : vx_L C n d B U H := by
  obtain ⟨c, k, i, f, a, cell, h1, h2, h3, h4, h5, h6, h7, h8, h9, h10⟩ := h
  exact ⟨c, k, i, f, a, cell, h1, h2, h3, h4, h5, h6, h7, h8, h9, fun z => h10 (hAB _ z)⟩
theorem vx_L.word {C n d : String} {A : Nat → Prop} {s : State} {args : Array Value} (h : vx_L C n d A s s.heap) : (Cond.laysStatic C n d).before args s = true := by
  obtain ⟨c, k, i, f, a, cell, h1, h2, h3, h4, h5, h6, h7, h8, h9, -⟩ := h
  show (Cond.laysStatic C n d).holds args s none s [] = true
  exact Cond.laysStatic_of h1 h2 h3 h4 h5 h6 h7 h8 h9
/-- .. and what it holds: null or some reference -/
def vx_Zq (C n d : String) (A : Nat → Prop) (U : State) (H : Heap) : Prop := va_Zq C n d A U H ∧ vx_L C n d A U H
theorem vx_Zq.moved {C n d : String} {A : Nat → Prop} {u U : State} {H : Heap} (hvm : u.vm.Alike U.vm) (h : vx_Zq C n d A u H) : vx_Zq C n d A U H := ⟨va_Zq.moved hvm h.1, vx_L.moved hvm h.2⟩
theorem vx_Zq.kept {C n d : String} {A : Nat → Prop} {U : State} {H H1 : Heap} (h : vx_Zq C n d A U H) (hq : ∀ a : Nat, a < H.size → ¬ A a → H1[a]? = H[a]?) : vx_Zq C n d A U H1 := ⟨va_Zq.kept h.1 hq, vx_L.kept h.2 hq⟩
theorem vx_Zq.narrow {C n d : String} {A B : Nat → Prop} {U : State} {H : Heap} (h : vx_Zq C n d A U H) (hAB : ∀ q, B q → A q) : vx_Zq C n d B U H := ⟨va_Zq.narrow h.1 hAB, vx_L.narrow h.2 hAB⟩
theorem vx_Zqof {args : Array Value} {s : State} {C n d : String} {A : Nat → Prop} (hl : (Cond.laysStatic C n d).before args s = true) (hini : (Cond.initialized C).before args s = true) (h : (Cond.isRef (.static C n d)).before args s = true) (hA : ∀ a : Nat, a < s.heap.size → ¬ A a) : vx_Zq C n d A s s.heap := by
  refine ⟨va_Zqof hl hini h hA, ?_⟩
  obtain ⟨c, k, i, f, a, cell, h1, h2, h3, h4, h5, h6, h7, h8, h9⟩ := Cond.laysStatic_spec hl
  exact ⟨c, k, i, f, a, cell, h1, h2, h3, h4, h5, h6, h7, h8, h9, hA a (Array.getElem?_eq_some_iff.mp h5).1⟩
theorem vx_isRef {C n d : String} {v : Value} {A : Nat → Prop} {s : State} {args : Array Value} (h : va_Z C n d v A s s.heap) (hv : v.isRef = true) : (Cond.isRef (.static C n d)).before args s = true := by
  obtain ⟨cf, kf, fi, f, a, cell, h1, h2, h3, h4, h5, h6, h7, -⟩ := h
  have he : (Term.static C n d).eval args s none [] s = some v := by
    simp [Term.eval, State.fieldNamed?, h1, h2, h4, h5, h6, h7]
  simp only [Cond.before, Cond.holds, Cond.value, he]
  cases v <;> simp_all [Value.isRef]
theorem vx_isRefq {C n d : String} {A : Nat → Prop} {s : State} {args : Array Value} (h : va_Zq C n d A s s.heap) : (Cond.isRef (.static C n d)).before args s = true := by
  rcases h with h | ⟨t, h⟩
  · exact vx_isRef h rfl
  · exact vx_isRef h rfl
/-- the same frame, seen from here: as if the method were called anew in this heap -/
theorem vx_rebase {T : State} (X : Stand p l e R s m args below meth c T locs cells slots) {R' : Room} (hf : R'.frames ≤ R.frames) (hl : R'.locals ≤ R.locals) (hc : cells + R'.cells ≤ R.cells) (hs : slots + R'.slots ≤ R.slots) :
    Stand p l e R' ((T.setVm s.vm).setFrames (.invoking m args :: below)) m args below meth c T [] 0 0 := by
  have htop : (T.setVm s.vm).topJava?.isSome := X.here.top
  have hF : ((T.setVm s.vm).setFrames (.invoking m args :: below)).frames = .invoking m args :: below := State.frames_setFrames _ (State.cur_lt_of_top htop)
  obtain ⟨g₀, hg0⟩ := Option.isSome_iff_exists.mp htop
  obtain ⟨r, hr⟩ := State.topJava?_eq_some.mp hg0
  have hl9 : e.platform.stackLimits (T.setVm s.vm).me = e.platform.stackLimits s.me := X.limits
  have hb9 : (T.setVm s.vm).me.stackBytes = s.me.stackBytes := X.bytes
  refine ⟨X.admits, X.cas, X.clock, hF, ?_, X.hears, X.method, X.code, X.here, X.tail, X.warmed, ?_, ?_, ?_⟩
  · have h := X.room
    have hU : ((T.setVm s.vm).setFrames (.invoking m args :: below)).localsInUse = s.localsInUse := by
      rw [State.localsInUse_invoking hF (meth := meth) (c := c) X.method X.code, State.localsInUse_invoking X.frames X.method X.code]
    simp only [State.hasRoom, Bool.and_eq_true, decide_eq_true_eq] at h ⊢
    obtain ⟨⟨⟨⟨h1, h2, h3, h4, h5, h6⟩, h7⟩, h8⟩, h9⟩ := h
    rw [X.frames, List.length_cons] at h2 h3
    have q1 := X.heapSize
    have q2 := X.used
    simp only [hF, hU, List.length_cons, State.stackLimits_setFrames, State.stackBytes_setFrames, hl9, hb9]
    refine ⟨⟨⟨⟨by omega, by omega, by omega, by omega, by omega, h6⟩, ?_⟩, ?_⟩, X.book⟩
    · show T.heap.size + R'.cells ≤ e.platform.maxCells
      omega
    · show T.slotsUsed + R'.slots ≤ e.platform.maxSlots
      omega
  · rw [State.stackLimits_setFrames]; rfl
  · rw [State.stackBytes_setFrames]; rfl
  · refine ⟨?_, Nat.le_refl _, Nat.le_refl _, ?_, ?_, fun a c9 h9 => ⟨c9, h9, rfl, rfl, fun _ _ => rfl⟩⟩
    · obtain ⟨t, ht, -⟩ := State.frames_cons hr
      show T.setVm s.vm = { ((T.setVm s.vm).setFrames (.invoking m args :: below)).setFrames (T.setVm s.vm).frames with heap := T.heap, slotsUsed := T.slotsUsed }
      rw [State.setFrames_setFrames, State.setFrames_self ht]
      rfl
    · show T.slotsUsed = T.slotsUsed + ((T.heap.toList.drop T.heap.size).map (·.slots.size)).sum
      rw [List.drop_eq_nil_of_le (Nat.le_of_eq Array.length_toList)]
      rfl
    · show ((T.heap.toList.drop T.heap.size).map (·.slots.size)).sum ≤ 0
      rw [List.drop_eq_nil_of_le (Nat.le_of_eq Array.length_toList)]
      exact Nat.le_refl _
/-- 'throw new E()': new; dup; invokespecial; athrow -/
theorem vx_throw0 {cc : ByteArray} {pc : Nat} (hexec : p.tables.exec = Jvm.exec) (hb : c.code = cc) (hl : l.stackTraces = false) {own cls : String} {names : List String} {ik ic mc ms : Nat} {A : Nat → Prop}
    (hown : s.vm.findClass own = some m.cls) (hcls : Bundle.fit cls = true) (hnames : ∀ n ∈ names, Bundle.fit n = true)
    (hk : (Cond.classLink own ik cls).before args s = true) (hini : (Cond.initialized cls).before args s = true) (hat : ∀ w ∈ vx_at0 own ic cls names, w.before args s = true)
    (hgood : ∀ w ∈ Cond.classLink own ik cls :: Cond.initialized cls :: vx_at0 own ic cls names, vx_ot w = true)
    (hU : vx_Zq Bundle.tN "UNASSIGNED_STACK" Bundle.steD A s s.heap) (hN : vx_Zq Bundle.tN "SUPPRESSED_SENTINEL" Bundle.listD A s s.heap) (hS : va_S A s.heap H locs) (hsize : ls.size = c.maxLocals)
    (d0 : decode cc pc = .ok (.new ik, 3)) (d3 : decode cc (pc + 3) = .ok (.dup, 1)) (d4 : decode cc (pc + 4) = .ok (.invokespecial ic, 3)) (d7 : decode cc (pc + 7) = .ok (.athrow, 1))
    (hout : ∀ x ∈ c.exceptionTable.toList, covers x (pc + 7) = false)
    (hRframes : names.length + 3 < R.frames) (hRlocals : (rest.map fun v => v.category).sum + (13 * (names.length + 1) + 42) ≤ R.locals) (hRcells : cells + 1 ≤ R.cells) (hRslots : slots + 6 ≤ R.slots) (hlocks : meth.locks = false)
    (hx : ∀ t : State, s.vm.Alike t.vm → H.size ≤ t.heap.size → (∀ q : Nat, q < H.size → t.heap[q]? = H[q]?) → XC cls s t)
    (hf : ∀ z ∈ locs, free z.base) (hc : cells + 1 ≤ mc) (hs : slots + 6 ≤ ms) :
    W p l e R s m args below meth c H locs cells slots (vx_MQ below Qc XC args s mc ms free) (F0 m pc ls rest) := by
  intro T hT X
  have htr : e.platform.stackTraces = false := (show e.platform.stackTraces = l.stackTraces by rw [X.admits.platform]).trans hl
  have Y := vx_rebase X (R' := { frames := R.frames, locals := R.locals, cells := 1, slots := 6 }) (Nat.le_refl _) (Nat.le_refl _) hRcells hRslots
  obtain ⟨s', hA⟩ : ∃ z, z = (T.setVm s.vm).setFrames (.invoking m args :: below) := ⟨_, rfl⟩
  rw [← hA] at Y
  have hvm : s'.vm = s.vm := by rw [hA]; rfl
  have hhp : s'.heap = H := by rw [hA]; exact hT
  have hW0 : s.WarmedH s'.vm := by rw [hvm]; exact State.WarmedH.refl s
  have hat' : ∀ w ∈ vx_at0 own ic cls names, w.before args s' = true := fun w hw => vx_ot_at hW0 hvm.symm (hgood w (List.mem_cons_of_mem _ (List.mem_cons_of_mem _ hw))) (hat w hw)
  have hk' : (Cond.classLink own ik cls).before args s' = true := vx_ot_at hW0 hvm.symm (hgood _ List.mem_cons_self) hk
  have hini' : (Cond.initialized cls).before args s' = true := vx_ot_at hW0 hvm.symm (hgood _ (List.mem_cons_of_mem _ List.mem_cons_self)) hini
  have hU' : vx_Zq Bundle.tN "UNASSIGNED_STACK" Bundle.steD A s' s'.heap := by rw [hhp]; exact vx_Zq.moved hW0.alike (hU.kept hS.2.1)
  have hN' : vx_Zq Bundle.tN "SUPPRESSED_SENTINEL" Bundle.listD A s' s'.heap := by rw [hhp]; exact vx_Zq.moved hW0.alike (hN.kept hS.2.1)
  have h : ∀ w ∈ Bundle.ownAtoms0 own ic cls names, w.before args s' = true := vx_own hat' (vx_isRefq hU'.1) (vx_isRefq hN'.1) hU'.2.word hN'.2.word
  have hown' : s'.vm.findClass own = some m.cls := by rw [hvm]; exact hown
  have hins : (Cond.instantiable cls 6).before args s' = true := h _ (by simp [Bundle.ownAtoms0])
  obtain ⟨vm₁, cX, kX, hfX, hkX, -, -, X₁, st1⟩ := Y.newCold hexec (own := own) (C := cls) (index := ik) (n := 6) hown' hk' hins hini'
    (g := F0 m pc ls rest) rfl (by rw [hb]; exact d0) (Nat.le_refl _) (Nat.le_refl _)
  generalize hT1 : (T.setVm vm₁).pushCell { cls := cX, slots := kX.instanceTypes.map defaultValue, vm := .none } = T1 at X₁ st1
  have hcat : (Value.ref T.heap.size).category = 1 := rfl
  have hcellA : T1.heap[T.heap.size]? = some (freshCell cX kX) := by rw [← hT1]; exact State.heap_pushCell_size _ _
  have d3' : decode c.code (pc + 3) = .ok (.dup, 1) := by rw [hb]; exact d3
  obtain ⟨U, hsteps, hrun, hend, hW, hsame, ce, hce, hO⟩ := X₁.ctorThrow0 hexec htr (own := own) (cls := cls) (names := names) (ic := ic) hown' hcls hnames h (fun x hx => nomatch hx) hfX hkX hcellA (by rw [hhp, hT]; exact Nat.le_refl _)
    (g := { method := m, pc := pc + 4, locals := ls, stack := .ref T.heap.size :: .ref T.heap.size :: rest, locked := none }) rfl hsize rfl rfl (rest := rest) rfl
    (by rw [hb]; exact d4) (by rw [hb]; exact d7) hout hRframes (by simp only [List.map_cons, List.sum_cons, hcat]; omega) hlocks
  obtain ⟨f1, f2⟩ := vx_frame hsame
  rw [hhp] at f1 f2
  have hWs : s.WarmedH U.vm := State.WarmedH.trans hW0 hW
  have hcl : s.vm.findClass cls = some ce.cls := by
    have h9 := hO.cls
    rw [hvm] at h9
    exact h9
  have hall : s.sameButNew ({ U with vm := s.vm } : State) locs mc ms := by
    subst hA
    obtain ⟨e1, e2⟩ := hsame
    rw [State.setFrames_setFrames] at e1
    have h2 : (T.setVm s.vm).sameButNew ({ U with vm := s.vm } : State) [] (0 + 1) (0 + 6) := ⟨e1, e2⟩
    have h3 := X.same.trans h2
    rw [List.append_nil] at h3
    exact h3.mono hc hs
  refine ⟨U, ?_, .threw T.heap.size, hrun, hend, Or.inr ⟨T.heap.size, rfl, cls, ce, locs, hx U hWs.alike f1 (fun q hq => f2 q hq (fun z hz => nomatch hz)), hce, hO.vm, hcl, hWs, hall, hf⟩⟩
  refine st1 _ ?_
  show Steps p.tables e below (T1.setTop { method := m, pc := pc + 3, locals := ls, stack := .ref T.heap.size :: rest, locked := none }) _
  jvm_step X₁.here [X₁.here.top, hexec, d3', Value.category]
  exact hsteps
/-- 'throw new E("text")': new; dup; ldc; invokespecial; athrow -/
theorem vx_throwS {cc : ByteArray} {pc : Nat} (hexec : p.tables.exec = Jvm.exec) (hb : c.code = cc) (hl : l.stackTraces = false) {own cls text : String} {names : List String} {ik is ic mc ms sa : Nat} {A : Nat → Prop}
    (hown : s.vm.findClass own = some m.cls) (hcls : Bundle.fit cls = true) (hnames : ∀ n ∈ names, Bundle.fit n = true)
    (hk : (Cond.classLink own ik cls).before args s = true) (hini : (Cond.initialized cls).before args s = true) (hstr : vk_R own is text sa s) (hat : ∀ w ∈ vx_atS own ic cls names, w.before args s = true)
    (hgood : ∀ w ∈ Cond.classLink own ik cls :: Cond.initialized cls :: vx_atS own ic cls names, vx_ot w = true)
    (hU : vx_Zq Bundle.tN "UNASSIGNED_STACK" Bundle.steD A s s.heap) (hN : vx_Zq Bundle.tN "SUPPRESSED_SENTINEL" Bundle.listD A s s.heap) (hS : va_S A s.heap H locs) (hsize : ls.size = c.maxLocals)
    (d0 : decode cc pc = .ok (.new ik, 3)) (d3 : decode cc (pc + 3) = .ok (.dup, 1)) (d4 : decode cc (pc + 4) = .ok (.ldc is, 2)) (d6 : decode cc (pc + 6) = .ok (.invokespecial ic, 3)) (d9 : decode cc (pc + 9) = .ok (.athrow, 1))
    (hout : ∀ x ∈ c.exceptionTable.toList, covers x (pc + 9) = false)
    (hRframes : names.length + 3 < R.frames) (hRlocals : (rest.map fun v => v.category).sum + (13 * (names.length + 1) + 43) ≤ R.locals) (hRcells : cells + 1 ≤ R.cells) (hRslots : slots + 6 ≤ R.slots) (hlocks : meth.locks = false)
    (hx : ∀ t : State, s.vm.Alike t.vm → H.size ≤ t.heap.size → (∀ q : Nat, q < H.size → t.heap[q]? = H[q]?) → XC cls s t)
    (hf : ∀ z ∈ locs, free z.base) (hc : cells + 1 ≤ mc) (hs : slots + 6 ≤ ms) :
    W p l e R s m args below meth c H locs cells slots (vx_MQ below Qc XC args s mc ms free) (F0 m pc ls rest) := by
  intro T hT X
  have htr : e.platform.stackTraces = false := (show e.platform.stackTraces = l.stackTraces by rw [X.admits.platform]).trans hl
  have Y := vx_rebase X (R' := { frames := R.frames, locals := R.locals, cells := 1, slots := 6 }) (Nat.le_refl _) (Nat.le_refl _) hRcells hRslots
  obtain ⟨s', hA⟩ : ∃ z, z = (T.setVm s.vm).setFrames (.invoking m args :: below) := ⟨_, rfl⟩
  rw [← hA] at Y
  have hvm : s'.vm = s.vm := by rw [hA]; rfl
  have hhp : s'.heap = H := by rw [hA]; exact hT
  have hW0 : s.WarmedH s'.vm := by rw [hvm]; exact State.WarmedH.refl s
  have hat' : ∀ w ∈ vx_atS own ic cls names, w.before args s' = true := fun w hw => vx_ot_at hW0 hvm.symm (hgood w (List.mem_cons_of_mem _ (List.mem_cons_of_mem _ hw))) (hat w hw)
  have hk' : (Cond.classLink own ik cls).before args s' = true := vx_ot_at hW0 hvm.symm (hgood _ List.mem_cons_self) hk
  have hini' : (Cond.initialized cls).before args s' = true := vx_ot_at hW0 hvm.symm (hgood _ (List.mem_cons_of_mem _ List.mem_cons_self)) hini
  have hU' : vx_Zq Bundle.tN "UNASSIGNED_STACK" Bundle.steD A s' s'.heap := by rw [hhp]; exact vx_Zq.moved hW0.alike (hU.kept hS.2.1)
  have hN' : vx_Zq Bundle.tN "SUPPRESSED_SENTINEL" Bundle.listD A s' s'.heap := by rw [hhp]; exact vx_Zq.moved hW0.alike (hN.kept hS.2.1)
  have h : ∀ w ∈ Bundle.ownAtoms own ic cls names, w.before args s' = true := vx_own hat' (vx_isRefq hU'.1) (vx_isRefq hN'.1) hU'.2.word hN'.2.word
  have hown' : s'.vm.findClass own = some m.cls := by rw [hvm]; exact hown
  have hins : (Cond.instantiable cls 6).before args s' = true := h _ (by simp [Bundle.ownAtoms])
  obtain ⟨vm₁, cX, kX, hfX, hkX, -, -, X₁, st1⟩ := Y.newCold hexec (own := own) (C := cls) (index := ik) (n := 6) hown' hk' hins hini'
    (g := F0 m pc ls rest) rfl (by rw [hb]; exact d0) (Nat.le_refl _) (Nat.le_refl _)
  generalize hT1 : (T.setVm vm₁).pushCell { cls := cX, slots := kX.instanceTypes.map defaultValue, vm := .none } = T1 at X₁ st1
  have hcat : (Value.ref T.heap.size).category = 1 := rfl
  have hcellA : T1.heap[T.heap.size]? = some (freshCell cX kX) := by rw [← hT1]; exact State.heap_pushCell_size _ _
  have d3' : decode c.code (pc + 3) = .ok (.dup, 1) := by rw [hb]; exact d3
  have d4' : decode c.code (pc + 4) = .ok (.ldc is, 2) := by rw [hb]; exact d4
  have hstr' : vk_R own is text sa s' := vk_R.warm hW0 hstr
  obtain ⟨U, hsteps, hrun, hend, hW, hsame, ce, hce, hO⟩ := X₁.ctorThrowS hexec htr (own := own) (cls := cls) (names := names) (ic := ic) hown' hcls hnames h (fun x hx => nomatch hx) hfX hkX hcellA (by rw [hhp, hT]; exact Nat.le_refl _) (msg := .ref sa) rfl
    (g := { method := m, pc := pc + 6, locals := ls, stack := .ref sa :: .ref T.heap.size :: .ref T.heap.size :: rest, locked := none }) rfl hsize rfl rfl (rest := rest) rfl
    (by rw [hb]; exact d6) (by rw [hb]; exact d9) hout hRframes (by simp only [List.map_cons, List.sum_cons, hcat]; omega) hlocks
  obtain ⟨f1, f2⟩ := vx_frame hsame
  rw [hhp] at f1 f2
  have hWs : s.WarmedH U.vm := State.WarmedH.trans hW0 hW
  have hcl : s.vm.findClass cls = some ce.cls := by
    have h9 := hO.cls
    rw [hvm] at h9
    exact h9
  have hall : s.sameButNew ({ U with vm := s.vm } : State) locs mc ms := by
    subst hA
    obtain ⟨e1, e2⟩ := hsame
    rw [State.setFrames_setFrames] at e1
    have h2 : (T.setVm s.vm).sameButNew ({ U with vm := s.vm } : State) [] (0 + 1) (0 + 6) := ⟨e1, e2⟩
    have h3 := X.same.trans h2
    rw [List.append_nil] at h3
    exact h3.mono hc hs
  refine ⟨U, ?_, .threw T.heap.size, hrun, hend, Or.inr ⟨T.heap.size, rfl, cls, ce, locs, hx U hWs.alike f1 (fun q hq => f2 q hq (fun z hz => nomatch hz)), hce, hO.vm, hcl, hWs, hall, hf⟩⟩
  refine st1 _ ?_
  show Steps p.tables e below (T1.setTop { method := m, pc := pc + 3, locals := ls, stack := .ref T.heap.size :: rest, locked := none }) _
  jvm_step X₁.here [X₁.here.top, hexec, d3', Value.category]
  exact X₁.ldcString hexec (own := own) (text := text) (index := is) (a := sa) hown' hstr'.1 hstr'.2
    (g := { method := m, pc := pc + 4, locals := ls, stack := .ref T.heap.size :: .ref T.heap.size :: rest, locked := none }) rfl d4' _ hsteps
/-- 'throw new E("text")', the text by a wide index -/
theorem vx_throwSW {cc : ByteArray} {pc : Nat} (hexec : p.tables.exec = Jvm.exec) (hb : c.code = cc) (hl : l.stackTraces = false) {own cls text : String} {names : List String} {ik is ic mc ms sa : Nat} {A : Nat → Prop}
    (hown : s.vm.findClass own = some m.cls) (hcls : Bundle.fit cls = true) (hnames : ∀ n ∈ names, Bundle.fit n = true)
    (hk : (Cond.classLink own ik cls).before args s = true) (hini : (Cond.initialized cls).before args s = true) (hstr : vk_R own is text sa s) (hat : ∀ w ∈ vx_atS own ic cls names, w.before args s = true)
    (hgood : ∀ w ∈ Cond.classLink own ik cls :: Cond.initialized cls :: vx_atS own ic cls names, vx_ot w = true)
    (hU : vx_Zq Bundle.tN "UNASSIGNED_STACK" Bundle.steD A s s.heap) (hN : vx_Zq Bundle.tN "SUPPRESSED_SENTINEL" Bundle.listD A s s.heap) (hS : va_S A s.heap H locs) (hsize : ls.size = c.maxLocals)
    (d0 : decode cc pc = .ok (.new ik, 3)) (d3 : decode cc (pc + 3) = .ok (.dup, 1)) (d4 : decode cc (pc + 4) = .ok (.ldc_w is, 3)) (d7 : decode cc (pc + 7) = .ok (.invokespecial ic, 3)) (d10 : decode cc (pc + 10) = .ok (.athrow, 1))
    (hout : ∀ x ∈ c.exceptionTable.toList, covers x (pc + 10) = false)
    (hRframes : names.length + 3 < R.frames) (hRlocals : (rest.map fun v => v.category).sum + (13 * (names.length + 1) + 43) ≤ R.locals) (hRcells : cells + 1 ≤ R.cells) (hRslots : slots + 6 ≤ R.slots) (hlocks : meth.locks = false)
    (hx : ∀ t : State, s.vm.Alike t.vm → H.size ≤ t.heap.size → (∀ q : Nat, q < H.size → t.heap[q]? = H[q]?) → XC cls s t)
    (hf : ∀ z ∈ locs, free z.base) (hc : cells + 1 ≤ mc) (hs : slots + 6 ≤ ms) :
    W p l e R s m args below meth c H locs cells slots (vx_MQ below Qc XC args s mc ms free) (F0 m pc ls rest) := by
  intro T hT X
  have htr : e.platform.stackTraces = false := (show e.platform.stackTraces = l.stackTraces by rw [X.admits.platform]).trans hl
  have Y := vx_rebase X (R' := { frames := R.frames, locals := R.locals, cells := 1, slots := 6 }) (Nat.le_refl _) (Nat.le_refl _) hRcells hRslots
  obtain ⟨s', hA⟩ : ∃ z, z = (T.setVm s.vm).setFrames (.invoking m args :: below) := ⟨_, rfl⟩
  rw [← hA] at Y
  have hvm : s'.vm = s.vm := by rw [hA]; rfl
  have hhp : s'.heap = H := by rw [hA]; exact hT
  have hW0 : s.WarmedH s'.vm := by rw [hvm]; exact State.WarmedH.refl s
  have hat' : ∀ w ∈ vx_atS own ic cls names, w.before args s' = true := fun w hw => vx_ot_at hW0 hvm.symm (hgood w (List.mem_cons_of_mem _ (List.mem_cons_of_mem _ hw))) (hat w hw)
  have hk' : (Cond.classLink own ik cls).before args s' = true := vx_ot_at hW0 hvm.symm (hgood _ List.mem_cons_self) hk
  have hini' : (Cond.initialized cls).before args s' = true := vx_ot_at hW0 hvm.symm (hgood _ (List.mem_cons_of_mem _ List.mem_cons_self)) hini
  have hU' : vx_Zq Bundle.tN "UNASSIGNED_STACK" Bundle.steD A s' s'.heap := by rw [hhp]; exact vx_Zq.moved hW0.alike (hU.kept hS.2.1)
  have hN' : vx_Zq Bundle.tN "SUPPRESSED_SENTINEL" Bundle.listD A s' s'.heap := by rw [hhp]; exact vx_Zq.moved hW0.alike (hN.kept hS.2.1)
  have h : ∀ w ∈ Bundle.ownAtoms own ic cls names, w.before args s' = true := vx_own hat' (vx_isRefq hU'.1) (vx_isRefq hN'.1) hU'.2.word hN'.2.word
  have hown' : s'.vm.findClass own = some m.cls := by rw [hvm]; exact hown
  have hins : (Cond.instantiable cls 6).before args s' = true := h _ (by simp [Bundle.ownAtoms])
  obtain ⟨vm₁, cX, kX, hfX, hkX, -, -, X₁, st1⟩ := Y.newCold hexec (own := own) (C := cls) (index := ik) (n := 6) hown' hk' hins hini'
    (g := F0 m pc ls rest) rfl (by rw [hb]; exact d0) (Nat.le_refl _) (Nat.le_refl _)
  generalize hT1 : (T.setVm vm₁).pushCell { cls := cX, slots := kX.instanceTypes.map defaultValue, vm := .none } = T1 at X₁ st1
  have hcat : (Value.ref T.heap.size).category = 1 := rfl
  have hcellA : T1.heap[T.heap.size]? = some (freshCell cX kX) := by rw [← hT1]; exact State.heap_pushCell_size _ _
  have d3' : decode c.code (pc + 3) = .ok (.dup, 1) := by rw [hb]; exact d3
  have d4' : decode c.code (pc + 4) = .ok (.ldc_w is, 3) := by rw [hb]; exact d4
  have hstr' : vk_R own is text sa s' := vk_R.warm hW0 hstr
  obtain ⟨U, hsteps, hrun, hend, hW, hsame, ce, hce, hO⟩ := X₁.ctorThrowS hexec htr (own := own) (cls := cls) (names := names) (ic := ic) hown' hcls hnames h (fun x hx => nomatch hx) hfX hkX hcellA (by rw [hhp, hT]; exact Nat.le_refl _) (msg := .ref sa) rfl
    (g := { method := m, pc := pc + 7, locals := ls, stack := .ref sa :: .ref T.heap.size :: .ref T.heap.size :: rest, locked := none }) rfl hsize rfl rfl (rest := rest) rfl
    (by rw [hb]; exact d7) (by rw [hb]; exact d10) hout hRframes (by simp only [List.map_cons, List.sum_cons, hcat]; omega) hlocks
  obtain ⟨f1, f2⟩ := vx_frame hsame
  rw [hhp] at f1 f2
  have hWs : s.WarmedH U.vm := State.WarmedH.trans hW0 hW
  have hcl : s.vm.findClass cls = some ce.cls := by
    have h9 := hO.cls
    rw [hvm] at h9
    exact h9
  have hall : s.sameButNew ({ U with vm := s.vm } : State) locs mc ms := by
    subst hA
    obtain ⟨e1, e2⟩ := hsame
    rw [State.setFrames_setFrames] at e1
    have h2 : (T.setVm s.vm).sameButNew ({ U with vm := s.vm } : State) [] (0 + 1) (0 + 6) := ⟨e1, e2⟩
    have h3 := X.same.trans h2
    rw [List.append_nil] at h3
    exact h3.mono hc hs
  refine ⟨U, ?_, .threw T.heap.size, hrun, hend, Or.inr ⟨T.heap.size, rfl, cls, ce, locs, hx U hWs.alike f1 (fun q hq => f2 q hq (fun z hz => nomatch hz)), hce, hO.vm, hcl, hWs, hall, hf⟩⟩
  refine st1 _ ?_
  show Steps p.tables e below (T1.setTop { method := m, pc := pc + 3, locals := ls, stack := .ref T.heap.size :: rest, locked := none }) _
  jvm_step X₁.here [X₁.here.top, hexec, d3', Value.category]
  exact X₁.ldcStringW hexec (own := own) (text := text) (index := is) (a := sa) hown' hstr'.1 hstr'.2
    (g := { method := m, pc := pc + 4, locals := ls, stack := .ref T.heap.size :: .ref T.heap.size :: rest, locked := none }) rfl d4' _ hsteps
end Ends
section Bodies
variable {l : Launch}
theorem vx_ofW {y : MethodName} {ws ws' : List Cond} {rm : Room} {Pc : Array Value → State → Prop} {Qc : Array Value → State → Outcome → State → Prop} {XC : String → State → State → Prop} {mc ms : Nat} {free : Addr → Prop} {cc : ByteArray} {maxL : Nat} {ret : Option FieldType}
    (hy : plainName y.cls = true) (hw : ws = Cond.code y cc maxL ret :: ws')
    (body : ∀ p e s m args below meth c s₁, BodyLoose p l y (headSpec ws rm) cc maxL ret e s m args below meth c s₁ → c.maxLocals = maxL → (∀ x ∈ c.exceptionTable.toList, False) → Pc args s →
      W p l e (headSpec ws rm).room s m args below meth c s.heap [] 0 0 (vx_MQ below Qc XC args s mc ms free) (entryFrame m args maxL)) : vx_Met l y ws rm Pc Qc XC mc ms free := by
  refine MetFree.of_bodyS (code := cc) (maxLocals := maxL) (ret := ret) hy ?_ ?_
  · intro args s m h hn
    obtain ⟨meth, c, h1, h2, h3, h4, h5, h6, -, -⟩ := Cond.code_spec hn (atoms_spec (ws := ws) h _ (by rw [hw]; exact List.mem_cons_self))
    exact ⟨meth, c, h1, h2, h3, h4, h5, h6⟩
  · intro p e s m args below meth c s₁ B hml hP _
    have hh0 : s₁.heap = s.heap := by rw [B.state]; rfl
    have ht : ∀ x ∈ c.exceptionTable.toList, False := by
      obtain ⟨meth9, c9, h1, h2, -, -, -, -, h7, -⟩ := Cond.code_spec B.named (atoms_spec (ws := ws) B.pre _ (by rw [hw]; exact List.mem_cons_self))
      cases Option.some.inj (h1.symm.trans B.method)
      cases Option.some.inj (h2.symm.trans (Stand.of_body B).code)
      intro x hx
      rw [Array.isEmpty_iff.mp h7] at hx
      cases hx
    obtain ⟨t, a1, o, b1, b2, b3⟩ := body p e s m args below meth c s₁ B hml ht hP s₁ hh0 (Stand.of_body B)
    exact ⟨t, o, a1, b1, b2, b3⟩
/-- the table of a body with handlers -/
theorem vx_table {p : Program} {x y : MethodName} {S : Spec} {cc bytes : ByteArray} {maxL maxL' : Nat} {ret ret' : Option FieldType} {e : Env} {s s₁ : State} {m : MethodId} {args : Array Value} {below : List Frame} {meth : Method} {c : Code} {hh : List (Nat × Nat × Nat × Nat)}
    (B : BodyLoose p l y S cc maxL ret e s m args below meth c s₁) (h : (Cond.codeWith y bytes maxL' ret' hh).before args s = true) : c.exceptionTable.toList = tableOf hh := by
  obtain ⟨m9, meth9, c9, hn9, h1, h2, -, -, h6, -⟩ := Cond.codeWith_spec h
  cases Option.some.inj (hn9.symm.trans B.named)
  cases Option.some.inj (h1.symm.trans B.method)
  cases Option.some.inj (h2.symm.trans (Stand.of_body B).code)
  rw [← h6, table_eq]
end Bodies
end VXA
/-! ===== END ===== -/
/-! ===== BEGIN a static call of a method with an exception table ===== -/
section VXS
variable {p : Program} {l : Launch} {e : Env} {R : Room} {s : State} {m : MethodId} {args : Array Value} {below : List Frame} {meth : Method} {c : Code} {T : State} {H : Heap} {locs : List Loc} {cells slots : Nat}
abbrev vx_CSW (R : Room) (s : State) (args : Array Value) (own : String) (index : Nat) (y : MethodName) (bytes : ByteArray) (maxL : Nat) (ret : Option FieldType) (hh : List (Nat × Nat × Nat × Nat)) (ws : List Cond) (rm : Room) (mc ms n : Nat) : Prop :=
  (rm.cells = mc ∧ rm.slots = ms ∧ rm.frames + 1 ≤ R.frames ∧ 8 + (maxL + 11) + rm.locals ≤ R.locals ∧ (∀ w ∈ ws, ∀ (a' : Array Value) (U : State), s.WarmedH U.vm → w.before a' U = true) ∧ Cond.codeWith y bytes maxL ret hh ∈ ws) ∧
  (Cond.codeWith y bytes maxL ret hh).before args s = true ∧ (Cond.initialized y.cls).before args s = true ∧ (y.cls ≠ "java/lang/invoke/MethodHandle" ∧ y.cls ≠ "java/lang/invoke/VarHandle") ∧
  (∀ sig, parseMethodDescriptor y.desc = some sig → n = sig.parameters.length) ∧ (Cond.methodLink own index y).before args s = true ∧ (Cond.static y).before args s = true
theorem vx_cwSW {own : String} {index maxL mc ms : Nat} {y : MethodName} {bytes : ByteArray} {ret : Option FieldType} {hh : List (Nat × Nat × Nat × Nat)} {Ts ws ws' : List Cond} {rm : Room} (n : Nat) (ht : ∀ w ∈ Ts, w.before args s = true) (hT : GoodIn Ts (va_wsS own index y ws)) (hw : ws = Cond.codeWith y bytes maxL ret hh :: ws') (hrc : rm.cells = mc) (hrs : rm.slots = ms)
    (hd : y.cls ≠ "java/lang/invoke/MethodHandle" ∧ y.cls ≠ "java/lang/invoke/VarHandle" ∧ (parseMethodDescriptor y.desc).map (fun d => d.parameters.length) = some n) (hR : rm.frames + 1 ≤ R.frames ∧ 8 + (maxL + 11) + rm.locals ≤ R.locals) :
    vx_CSW R s args own index y bytes maxL ret hh ws rm mc ms n := by
  have ok : ∀ w ∈ va_wsS own index y ws, w.before args s = true := fun w h => ht w (hT w h).1
  have hG : GoodIn Ts ws := fun w h => hT w (by unfold va_wsS; exact List.mem_append_right _ h)
  have hc : Cond.codeWith y bytes maxL ret hh ∈ ws := by rw [hw]; exact List.mem_cons_self
  refine ⟨⟨hrc, hrs, hR.1, hR.2, pay_in ht hG, hc⟩, ht _ (hG _ hc).1, ok _ (by simp [va_wsS]), ⟨hd.1, hd.2.1⟩, fun sig h => ?_, ok _ (by simp [va_wsS]), ok _ (by simp [va_wsS])⟩
  have h2 := hd.2.2
  rw [h] at h2
  exact (Option.some.inj h2).symm
theorem vx_callSW (X : Stand p l e R s m args below meth c T locs cells slots) (hexec : p.tables.exec = Jvm.exec) {own : String} {index : Nat} {y : MethodName} {bytes : ByteArray} {maxL : Nat} {ret : Option FieldType} {hh : List (Nat × Nat × Nat × Nat)}
    (hown : s.vm.findClass own = some m.cls) (hlink : (Cond.methodLink own index y).before args s = true) (hstat : (Cond.static y).before args s = true) (hinit : (Cond.initialized y.cls).before args s = true)
    (hcode : (Cond.codeWith y bytes maxL ret hh).before args s = true) (hy : y.cls ≠ "java/lang/invoke/MethodHandle" ∧ y.cls ≠ "java/lang/invoke/VarHandle")
    {W9 : Nat} {Pre : Pt → Array Value → Prop} {Post : Pt → Array Value → Option Value → Pt → Prop} (hK : Back l R p e below s args y 3 W9 Pre Post)
    {g : JFrame} (hg : g.method = m) (hsize : g.locals.size = c.maxLocals) {argsL rest : List Value} (hlen : ∀ sig, parseMethodDescriptor y.desc = some sig → argsL.length = sig.parameters.length)
    (hstack : g.stack = argsL.reverse ++ rest) (hW : 2 * g.monitorRoom + (rest.map fun v => v.category).sum ≤ W9) (hdg : decode c.code g.pc = .ok (.invokestatic index, 3))
    (hpre : ∀ vm₁, s.WarmedH vm₁ → Pre ⟨T.setVm vm₁, locs, cells, slots⟩ argsL.toArray) :
    ∃ (v : Option Value) (vm₁ : Vm) (B : Pt), s.WarmedH vm₁ ∧ Stand p l e R s m args below meth c B.U B.locs B.cells B.slots ∧ Post ⟨T.setVm vm₁, locs, cells, slots⟩ argsL.toArray v B ∧
      ∀ target, Steps p.tables e below (B.U.setTop { g with pc := g.pc + 3, stack := v.toList ++ rest }) target → Steps p.tables e below (T.setTop g) target := by
  obtain ⟨mk, methM, cM, hnamed, hmethM, -, -, -, -, -, -, hsigM⟩ := Cond.codeWith_spec hcode
  have hstatic : methM.isStatic = true := Cond.static_spec hnamed hmethM hstat
  obtain ⟨kP, hkP, -⟩ := className_of_methodNamed hnamed
  have hinitP : kP.init = .initialized := Cond.initialized_spec (findClass_of_methodNamed hnamed) hkP hinit
  obtain ⟨vm₁, X₁, hstep₁⟩ := X.invokestatic hexec hown hlink hnamed hmethM hstatic hkP hinitP hy (g := g) hg (argsL := argsL) (rest := rest) (hlen _ hsigM) hstack hdg
  obtain ⟨v, B, X', hpost, hsteps⟩ := hK m meth c ⟨T.setVm vm₁, locs, cells, slots⟩ { g with stack := rest } (.invokestatic index) mk argsL.toArray X₁ hg hsize hdg hW (X₁.named hnamed) (hpre vm₁ X₁.warmed)
  exact ⟨v, vm₁, B, X₁.warmed, X', hpost, fun target h => hstep₁ _ fun acts => by rw [doInvoke_state]; exact hsteps.trans h⟩
theorem vx_runSW {y : MethodName} {bytes cc : ByteArray} {maxL nL mc ms n index : Nat} {ret : Option FieldType} {hh : List (Nat × Nat × Nat × Nat)} {ws : List Cond} {rm : Room} {Pc : Array Value → State → Prop} {Qc : Array Value → State → Outcome → State → Prop} {free : Addr → Prop} {Ts : List Cond} {own : String} {As rest : List Value} {g : JFrame}
    (S : CallFix p m c cc nL s args Ts own) (hM : Met l y ws rm Pc Qc mc ms free) (cw : vx_CSW R s args own index y bytes maxL ret hh ws rm mc ms n) (hp : PreS s H Pc As)
    (hg : g.method = m) (hn : As.length = n) (hsize : g.locals.size = nL) (hstack : g.stack = As.reverse ++ rest) (hW : 2 * g.monitorRoom + (rest.map fun v => v.category).sum ≤ 8) (hdg : decode cc g.pc = .ok (.invokestatic index, 3)) (hf : cells + mc ≤ R.cells ∧ slots + ms ≤ R.slots) :
    va_Run p l e R s m args below meth c H locs cells slots mc ms g rest (Qc As.toArray) (free) := by
  obtain ⟨⟨hrc, hrs, hfr, hlo, hws, hcw⟩, hcode, hini, hy, hlen, hl, hstt⟩ := cw
  have hK : Back l R p e below s args y 3 8 (PreOf R mc ms Pc) (PostOf Qc mc ms free) := va_backW (hh := hh) (bytes := bytes) (maxL := maxL) (ret := ret) hM hp.1 hrc hrs hfr hlo hws hcw (fun a' U hW => word_at hW (Or.inl (by first | rfl | simp [Cond.onTables, Cond.keeps, Cond.steady])) hini)
  obtain ⟨hx, hb, hml, ho, -⟩ := S
  intro T hT X
  obtain ⟨v, vm₁, ⟨U', l2, c2, s2⟩, hW₁, X', ⟨g', mk, t, L, e1, e2, hq, h1, hL, h2, h3⟩, st⟩ := vx_callSW X hx (hh := hh) (bytes := bytes) (maxL := maxL) (ret := ret) ho hl hstt hini hcode hy hK hg (hsize.trans hml.symm) (argsL := As) (rest := rest) (fun sig h => hn.trans (hlen sig h)) hstack hW (by rw [hb]; exact hdg)
    (fun vm₁ hW₁ => ⟨hf.1, hf.2, hp.2 (T.setVm vm₁) hT hW₁⟩)
  dsimp only [Pt.U, Pt.locs, Pt.cells, Pt.slots] at X' e1 e2 h1 h2 h3 st
  subst h1; subst h2; subst h3
  exact ⟨v, (T.setVm vm₁).calling g' mk As.toArray, t, U', L, hT, X', hL, e1, e2, hq, st⟩
/-- not caught here, past rows that name other classes: it goes on to the caller -/
theorem vx_outP {p : Program} {l : Launch} {e : Env} {R : Room} {s : State} {m : MethodId} {args : Array Value} {below : List Frame} {meth : Method} {c : Code} {H : Heap} {locs : List Loc} {cells slots : Nat} {free : Addr → Prop} {ls : Array Slot} {rest : List Value} {Qc : Array Value → State → Outcome → State → Prop} {XC : String → State → State → Prop}
    {pc : Nat} {own E : String} {ce : Cell} {q : Addr} {mc ms : Nat} (hown : s.vm.findClass own = some m.cls) (hlocks : meth.locks = false)
    (hpass : ∀ z ∈ c.exceptionTable.toList, covers z pc = false ∨ (z.catchType ≠ 0 ∧ ∃ nm : String, (Cond.classLink own z.catchType nm).before args s = true ∧ va_Nc E nm s)) (hcell : H[q]? = some ce) (hv : ce.vm = .none) (hcl : s.vm.findClass E = some ce.cls)
    (hx : ∀ t : State, t.heap = H → s.vm.Alike t.vm → XC E s t) (hf : ∀ z ∈ locs, free z.base) (hc : cells ≤ mc) (hs : slots ≤ ms) :
    vx_W p l e R s m args below meth c H locs cells slots (vx_MQ below Qc XC args s mc ms free) (F0 m pc ls rest) q := by
  intro T hT X
  have hpl : e.platform.magicAccessors = ({} : Platform).magicAccessors := by rw [X.admits.platform]
  obtain ⟨vm', hW', X', st⟩ := X.outThrough hlocks q (g := F0 m pc ls rest) rfl rfl rfl (cell := ce) (by rw [hT]; exact hcell) (by rw [hv]; rfl)
    (by obtain ⟨k9, h9, -⟩ := Vm.findClass_spec hcl; exact ⟨k9, h9⟩) (fun z hz => by
      rcases hpass z hz with h | ⟨hz0, nm, hl1, hn1⟩
      · exact Or.inl h
      · obtain ⟨c6, hc6, hcl6⟩ := Cond.classLink_spec hown hl1 e.platform hpl
        obtain ⟨a8, b8, h1, h2, h3⟩ := hn1
        cases Option.some.inj (h1.symm.trans hcl)
        cases Option.some.inj (h2.symm.trans hc6)
        exact Or.inr ⟨hz0, _, hcl6, h3⟩)
  obtain ⟨g₀, hfr⟩ := X'.frames_eq
  have hcell9 : ((T.setVm vm').setFrames (.throwing q :: below)).heap[q]? = some ce := by
    show T.heap[q]? = some ce
    rw [hT]; exact hcell
  have hend : Ended ((T.setVm vm').setFrames (.throwing q :: below)) below (.threw q) := State.frames_setFrames _ (State.cur_lt_of_frames hfr)
  refine ⟨(T.setVm vm').setFrames (.throwing q :: below), ?_, .threw q, X'.here.running, hend, Or.inr ⟨q, rfl, E, ce, locs, hx _ hT (X'.ends _).1.alike, hcell9, hv, hcl, (X'.ends _).1, (X'.ends _).2.mono hc hs, hf⟩⟩
  rw [X.pushThrowing_eq]
  exact st
/-- a thing of a world lies in the heap -/
theorem vx_lt {D : va_G} {cl : List vw_C} {ws : va_W} {H1 : Heap} (h : va_P D cl ws H1) {k : Nat} {q : Nat × va_E} (hk : ws[k]? = some q) : q.1 < H1.size := (h k q hk).lt
end VXS
/-! ===== END ===== -/
/-! ===== BEGIN methods with a table of their own: called by a name, returning or throwing ===== -/
section VXH
/-! vx_backW, vx_callVX, vx_callSX, vx_callVW, vx_runVW, vx_runVX, vx_runSX, vx_ofWH follow the same proofs as their sisters above (Free/Laws.lean, Shelf42/LK1.lean); vx_outP calls Shelf42/NT130.lean (outThrough). -/
section
variable {l : Launch} {R : Room} {p : Program} {e : Env} {below : List Frame} {s : State} {sargs : Array Value} {y : MethodName} {len W9 : Nat}
theorem vx_backW {ws : List Cond} {rm : Room} {Pc : Array Value → State → Prop} {Qc : Array Value → State → Outcome → State → Prop} {XC : String → State → State → Prop} {mc ms : Nat} {free : Addr → Prop} {bytes : ByteArray} {maxL : Nat} {ret : Option FieldType} {hh : List (Nat × Nat × Nat × Nat)}
    (hM : vx_Met l y ws rm Pc Qc XC mc ms free) (hblind : FrameBlind Pc) (hrc : rm.cells = mc) (hrs : rm.slots = ms)
    (hframes : rm.frames + 1 ≤ R.frames) (hlocals : W9 + (maxL + 11) + rm.locals ≤ R.locals)
    (hws : ∀ w ∈ ws, ∀ a' U, s.WarmedH U.vm → w.before a' U = true) (hcode : Cond.codeWith y bytes maxL ret hh ∈ ws) (hinit : ∀ a' U, s.WarmedH U.vm → (Cond.initialized y.cls).before a' U = true) :
    vx_Back l R p e below s sargs y len W9 (PreOf R mc ms Pc) (PostOf Qc mc ms free) (vx_Post XC mc ms free) := by
  intro m meth c A g ig mk a X hg hsize hdg hW hn hp
  have h1 : (headSpec ws rm).pre.before a A.U = true := atoms_intro fun w hw => hws w hw _ _ X.warmed
  have h2 : (Cond.codeWith y bytes maxL ret hh).before a A.U = true := hws _ hcode _ _ X.warmed
  have h3 : (Cond.initialized y.cls).before a A.U = true := hinit _ _ X.warmed
  have h4 : A.cells + (headSpec ws rm).room.cells ≤ R.cells := by rw [show (headSpec ws rm).room.cells = mc from hrc]; exact hp.1
  have h5 : A.slots + (headSpec ws rm).room.slots ≤ R.slots := by rw [show (headSpec ws rm).room.slots = ms from hrs]; exact hp.2.1
  have hPc : Pc a (A.U.calling g mk a) := hblind _ _ _ _ hp.2.2
  obtain ⟨U, Ls, c0, s0⟩ := A
  dsimp only [Pt.U, Pt.locs, Pt.cells, Pt.slots] at h1 h2 h3 h4 h5 X hn hPc ⊢
  obtain ⟨m9, methY, cY, hn9, hmY, hcY, -, hlY, -⟩ := Cond.codeWith_spec h2
  cases Option.some.inj (hn9.symm.trans hn)
  obtain ⟨kY, hkY, -⟩ := className_of_methodNamed hn
  have hinitY : kY.init = .initialized := Cond.initialized_spec (findClass_of_methodNamed hn) hkY h3
  have h : At U g.method c below := by rw [hg]; exact X.here
  have hlocals9 : W9 + (maxL + 11) + (headSpec ws rm).room.locals ≤ R.locals := hlocals
  have happ : (headSpec ws rm).appliesLoose y e.platform (U.calling g mk a) = true :=
    Spec.appliesLoose_calling (g := g) h hdg hn hkY hinitY
      (X.room_calling (g := g) (R' := (headSpec ws rm).room) hsize hmY hcY hframes (by rw [hlY]; omega) h4 h5) h1
  obtain ⟨mid, hmid⟩ := h.above
  have hfr : (U.setTop g).frames = (.java g :: mid) ++ below := by rw [State.frames_setTop' g h.top, hmid]; rfl
  obtain ⟨o, s₂, hsteps, -, hend, hq⟩ := Steps.callFree hM p X.admits X.cas X.clock (acts := []) hfr happ hPc trivial
  have hq' : vx_Q Qc XC mc ms free a (U.calling g mk a) o s₂ := hq
  rw [State.frames_setTop' g h.top] at hend
  obtain ⟨g₀, hg0⟩ := Option.isSome_iff_exists.mp h.top
  obtain ⟨r, hr⟩ := State.topJava?_eq_some.mp hg0
  have hr' : (({ U with heap := s₂.heap, slotsUsed := s₂.slotsUsed } : State).setVm s₂.vm).frames = .java g₀ :: r := hr
  rcases hq' with ⟨hqc, L, hfe, hL⟩ | ⟨q, rfl, E, ce, L, hx, hce, hcv, hcl, hW₂, hsm, hL⟩
  · obtain ⟨⟨v, rfl⟩, hW₂, e2, q2, q3, q4, q5, q6⟩ := id hfe
    have e3 : s₂ = ({ (U.calling g mk a).setFrames s₂.frames with heap := s₂.heap, slotsUsed := s₂.slotsUsed } : State).setVm s₂.vm := by
      have : s₂ = ({ s₂ with vm := (U.calling g mk a).vm } : State).setVm s₂.vm := rfl
      rw [e2] at this
      exact this
    obtain ⟨c₂, i₂, len₂, hc₂, hd₂, hf₂⟩ := hend
    have hW' : U.WarmedH s₂.vm := hW₂
    have hcc : c₂ = c := by
      have h1 : s₂.code? g.method = U.code? g.method := by
        rw [State.code?_eq, State.code?_eq, hW'.alike.method?]
      exact Option.some.inj (hc₂.symm.trans (h1.trans h.code))
    subst hcc
    have hlen : len₂ = len := by rw [hdg] at hd₂; cases hd₂; rfl
    subst hlen
    have hs₂ : s₂ = (({ U with heap := s₂.heap, slotsUsed := s₂.slotsUsed } : State).setVm s₂.vm).setTop { g with pc := g.pc + len₂, stack := v.toList ++ g.stack } := by
      refine e3.trans ?_
      rw [hf₂, State.calling_eq h.top, State.setFrames_setFrames, State.setTop_of_frames _ hr', hr]
      rfl
    have hsame : U.sameButNew ({ U with heap := s₂.heap, slotsUsed := s₂.slotsUsed } : State) L mc ms := by
      refine ⟨?_, q2, q3, q4, q5, q6⟩
      obtain ⟨t, ht, -⟩ := State.frames_cons hr
      show ({ U with heap := s₂.heap, slotsUsed := s₂.slotsUsed } : State) = { U.setFrames U.frames with heap := s₂.heap, slotsUsed := s₂.slotsUsed }
      rw [State.setFrames_self ht]
    subst hg
    refine Or.inl ⟨v, ⟨(({ U with heap := s₂.heap, slotsUsed := s₂.slotsUsed } : State).setVm s₂.vm), Ls ++ L, c0 + mc, s0 + ms⟩,
      ⟨X.admits, X.cas, X.clock, X.frames, X.room, X.hears, X.method, X.code, (X.here.setHeapUsed s₂.heap s₂.slotsUsed).setVm hW'.alike, X.tail, State.WarmedH.trans X.warmed hW', X.limits, X.bytes, X.same.trans (hsame.setVm s.vm)⟩,
      ⟨g, mk, s₂, L, rfl, rfl, hqc, rfl, hL, rfl, rfl⟩, ?_⟩
    show Steps p.tables e below _ ((({ U with heap := s₂.heap, slotsUsed := s₂.slotsUsed } : State).setVm s₂.vm).setTop { g with pc := g.pc + len₂, stack := v.toList ++ g.stack })
    rw [← hs₂]
    exact hsteps
  · obtain ⟨e2, q2, q3, q4, q5, q6⟩ := id hsm
    have e3 : s₂ = ({ (U.calling g mk a).setFrames s₂.frames with heap := s₂.heap, slotsUsed := s₂.slotsUsed } : State).setVm s₂.vm := by
      have : s₂ = ({ s₂ with vm := (U.calling g mk a).vm } : State).setVm s₂.vm := rfl
      rw [e2] at this
      exact this
    have hf₂ : s₂.frames = .throwing q :: .java g :: U.frames.tail := hend
    have hW' : U.WarmedH s₂.vm := hW₂
    have hs₂ : s₂ = ((({ U with heap := s₂.heap, slotsUsed := s₂.slotsUsed } : State).setVm s₂.vm).setTop g).pushFrame (.throwing q) := by
      refine e3.trans ?_
      rw [hf₂, State.calling_eq h.top, State.setFrames_setFrames, State.pushFrame, State.frames_setTop _ hr', State.setTop_of_frames _ hr', State.setFrames_setFrames, hr]
      rfl
    have hsame : U.sameButNew ({ U with heap := s₂.heap, slotsUsed := s₂.slotsUsed } : State) L mc ms := by
      refine ⟨?_, q2, q3, q4, q5, q6⟩
      obtain ⟨t, ht, -⟩ := State.frames_cons hr
      show ({ U with heap := s₂.heap, slotsUsed := s₂.slotsUsed } : State) = { U.setFrames U.frames with heap := s₂.heap, slotsUsed := s₂.slotsUsed }
      rw [State.setFrames_self ht]
    subst hg
    refine Or.inr ⟨q, ⟨(({ U with heap := s₂.heap, slotsUsed := s₂.slotsUsed } : State).setVm s₂.vm), Ls ++ L, c0 + mc, s0 + ms⟩,
      ⟨X.admits, X.cas, X.clock, X.frames, X.room, X.hears, X.method, X.code, (X.here.setHeapUsed s₂.heap s₂.slotsUsed).setVm hW'.alike, X.tail, State.WarmedH.trans X.warmed hW', X.limits, X.bytes, X.same.trans (hsame.setVm s.vm)⟩,
      ⟨g, mk, s₂, L, E, ce, rfl, rfl, hx, hce, hcv, hcl, rfl, hL, rfl, rfl⟩, ?_⟩
    show Steps p.tables e below _ (((({ U with heap := s₂.heap, slotsUsed := s₂.slotsUsed } : State).setVm s₂.vm).setTop g).pushFrame (.throwing q))
    rw [← hs₂]
    exact hsteps
end
variable {p : Program} {l : Launch} {e : Env} {R : Room} {s : State} {m : MethodId} {args : Array Value} {below : List Frame} {meth : Method} {c : Code} {T : State} {H : Heap} {locs : List Loc} {cells slots : Nat}
theorem vx_callVX (X : Stand p l e R s m args below meth c T locs cells slots) (hexec : p.tables.exec = Jvm.exec) {own C : String} {index : Nat} {y : MethodName} {bytes : ByteArray} {maxL : Nat} {ret : Option FieldType} {hh : List (Nat × Nat × Nat × Nat)}
    (hown : s.vm.findClass own = some m.cls) (hlink : (Cond.methodLink own index y).before args s = true) (hinst : (Cond.instanceMethod y).before args s = true) (hsel : (Cond.selects C y y).before args s = true)
    (hcode : (Cond.codeWith y bytes maxL ret hh).before args s = true) (hy : y.cls ≠ "java/lang/invoke/MethodHandle" ∧ y.cls ≠ "java/lang/invoke/VarHandle")
    {W9 : Nat} {Pre : Pt → Array Value → Prop} {Post : Pt → Array Value → Option Value → Pt → Prop} {PostX : Pt → Array Value → Addr → Pt → Prop} (hK : vx_Back l R p e below s args y 3 W9 Pre Post PostX)
    {b : Addr} {cellB : Cell} (hcell : T.heap[b]? = some cellB) (hobj : cellB.vm.isStatics = false) (hcls : s.vm.findClass C = some cellB.cls)
    {g : JFrame} (hg : g.method = m) (hsize : g.locals.size = c.maxLocals) {argsL rest : List Value} (hlen : ∀ sig, parseMethodDescriptor y.desc = some sig → argsL.length = sig.parameters.length)
    (hstack : g.stack = argsL.reverse ++ .ref b :: rest) (hW : 2 * g.monitorRoom + (rest.map fun v => v.category).sum ≤ W9) (hdg : decode c.code g.pc = .ok (.invokevirtual index, 3))
    (hpre : ∀ vm₁, s.WarmedH vm₁ → Pre ⟨T.setVm vm₁, locs, cells, slots⟩ (Value.ref b :: argsL).toArray) :
    (∃ (v : Option Value) (vm₁ : Vm) (B : Pt), s.WarmedH vm₁ ∧ Stand p l e R s m args below meth c B.U B.locs B.cells B.slots ∧ Post ⟨T.setVm vm₁, locs, cells, slots⟩ (Value.ref b :: argsL).toArray v B ∧
      ∀ target, Steps p.tables e below (B.U.setTop { g with pc := g.pc + 3, stack := v.toList ++ rest }) target → Steps p.tables e below (T.setTop g) target) ∨
    (∃ (q : Addr) (vm₁ : Vm) (B : Pt), s.WarmedH vm₁ ∧ Stand p l e R s m args below meth c B.U B.locs B.cells B.slots ∧ PostX ⟨T.setVm vm₁, locs, cells, slots⟩ (Value.ref b :: argsL).toArray q B ∧
      Steps p.tables e below (T.setTop g) ((B.U.setTop { g with stack := rest }).pushFrame (.throwing q))) := by
  obtain ⟨mk, methM, hnamed, hmethM, hstM, habM⟩ := Cond.instanceMethod_spec hinst
  obtain ⟨m8, methM', cM, hn8, hmethM', -, -, -, -, -, -, hsigM⟩ := Cond.codeWith_spec hcode
  cases Option.some.inj (hn8.symm.trans hnamed)
  cases hmethM.symm.trans hmethM'
  obtain ⟨c2, r2, m2, q1, q2, q3, q4, kP, hkP, hkPi⟩ := Cond.selects_spec hsel
  cases hcls.symm.trans q1
  cases (State.methodFound?_of_named hnamed hy).symm.trans q2
  cases hnamed.symm.trans q3
  have hselP : selectMethod e.platform s.vm cellB.cls mk = .method mk := by rw [Launch.admits_selectMethod X.admits]; exact q4
  obtain ⟨vm₁, X₁, hstep₁⟩ := X.invokevirtual hexec hown hlink hnamed hmethM hstM hkP hkPi hy (a := b) (cell := cellB) hcell
    (fun z h => by rw [h] at hobj; cases hobj) hselP hmethM habM hkP hkPi (g := g) hg (argsL := argsL) (rest := rest) (hlen _ hsigM) hstack hdg
  rcases hK m meth c ⟨T.setVm vm₁, locs, cells, slots⟩ { g with stack := rest } (.invokevirtual index) mk (Value.ref b :: argsL).toArray X₁ hg hsize hdg hW (X₁.named hnamed) (hpre vm₁ X₁.warmed) with ⟨v, B, X', hpost, hsteps⟩ | ⟨q, B, X', hpost, hsteps⟩
  · exact Or.inl ⟨v, vm₁, B, X₁.warmed, X', hpost, fun target h => hstep₁ _ fun acts => by rw [doInvoke_state]; exact hsteps.trans h⟩
  · exact Or.inr ⟨q, vm₁, B, X₁.warmed, X', hpost, hstep₁ _ fun acts => by rw [doInvoke_state]; exact hsteps⟩
theorem vx_callSX (X : Stand p l e R s m args below meth c T locs cells slots) (hexec : p.tables.exec = Jvm.exec) {own : String} {index : Nat} {y : MethodName} {bytes : ByteArray} {maxL : Nat} {ret : Option FieldType} {hh : List (Nat × Nat × Nat × Nat)}
    (hown : s.vm.findClass own = some m.cls) (hlink : (Cond.methodLink own index y).before args s = true) (hstat : (Cond.static y).before args s = true) (hinit : (Cond.initialized y.cls).before args s = true)
    (hcode : (Cond.codeWith y bytes maxL ret hh).before args s = true) (hy : y.cls ≠ "java/lang/invoke/MethodHandle" ∧ y.cls ≠ "java/lang/invoke/VarHandle")
    {W9 : Nat} {Pre : Pt → Array Value → Prop} {Post : Pt → Array Value → Option Value → Pt → Prop} {PostX : Pt → Array Value → Addr → Pt → Prop} (hK : vx_Back l R p e below s args y 3 W9 Pre Post PostX)
    {g : JFrame} (hg : g.method = m) (hsize : g.locals.size = c.maxLocals) {argsL rest : List Value} (hlen : ∀ sig, parseMethodDescriptor y.desc = some sig → argsL.length = sig.parameters.length)
    (hstack : g.stack = argsL.reverse ++ rest) (hW : 2 * g.monitorRoom + (rest.map fun v => v.category).sum ≤ W9) (hdg : decode c.code g.pc = .ok (.invokestatic index, 3))
    (hpre : ∀ vm₁, s.WarmedH vm₁ → Pre ⟨T.setVm vm₁, locs, cells, slots⟩ argsL.toArray) :
    (∃ (v : Option Value) (vm₁ : Vm) (B : Pt), s.WarmedH vm₁ ∧ Stand p l e R s m args below meth c B.U B.locs B.cells B.slots ∧ Post ⟨T.setVm vm₁, locs, cells, slots⟩ argsL.toArray v B ∧
      ∀ target, Steps p.tables e below (B.U.setTop { g with pc := g.pc + 3, stack := v.toList ++ rest }) target → Steps p.tables e below (T.setTop g) target) ∨
    (∃ (q : Addr) (vm₁ : Vm) (B : Pt), s.WarmedH vm₁ ∧ Stand p l e R s m args below meth c B.U B.locs B.cells B.slots ∧ PostX ⟨T.setVm vm₁, locs, cells, slots⟩ argsL.toArray q B ∧
      Steps p.tables e below (T.setTop g) ((B.U.setTop { g with stack := rest }).pushFrame (.throwing q))) := by
  obtain ⟨mk, methM, cM, hnamed, hmethM, -, -, -, -, -, -, hsigM⟩ := Cond.codeWith_spec hcode
  have hstatic : methM.isStatic = true := Cond.static_spec hnamed hmethM hstat
  obtain ⟨kP, hkP, -⟩ := className_of_methodNamed hnamed
  have hinitP : kP.init = .initialized := Cond.initialized_spec (findClass_of_methodNamed hnamed) hkP hinit
  obtain ⟨vm₁, X₁, hstep₁⟩ := X.invokestatic hexec hown hlink hnamed hmethM hstatic hkP hinitP hy (g := g) hg (argsL := argsL) (rest := rest) (hlen _ hsigM) hstack hdg
  rcases hK m meth c ⟨T.setVm vm₁, locs, cells, slots⟩ { g with stack := rest } (.invokestatic index) mk argsL.toArray X₁ hg hsize hdg hW (X₁.named hnamed) (hpre vm₁ X₁.warmed) with ⟨v, B, X', hpost, hsteps⟩ | ⟨q, B, X', hpost, hsteps⟩
  · exact Or.inl ⟨v, vm₁, B, X₁.warmed, X', hpost, fun target h => hstep₁ _ fun acts => by rw [doInvoke_state]; exact hsteps.trans h⟩
  · exact Or.inr ⟨q, vm₁, B, X₁.warmed, X', hpost, hstep₁ _ fun acts => by rw [doInvoke_state]; exact hsteps⟩
theorem vx_callVW (X : Stand p l e R s m args below meth c T locs cells slots) (hexec : p.tables.exec = Jvm.exec) {own C : String} {index : Nat} {y : MethodName} {bytes : ByteArray} {maxL : Nat} {ret : Option FieldType} {hh : List (Nat × Nat × Nat × Nat)}
    (hown : s.vm.findClass own = some m.cls) (hlink : (Cond.methodLink own index y).before args s = true) (hinst : (Cond.instanceMethod y).before args s = true) (hsel : (Cond.selects C y y).before args s = true)
    (hcode : (Cond.codeWith y bytes maxL ret hh).before args s = true) (hy : y.cls ≠ "java/lang/invoke/MethodHandle" ∧ y.cls ≠ "java/lang/invoke/VarHandle")
    {W9 : Nat} {Pre : Pt → Array Value → Prop} {Post : Pt → Array Value → Option Value → Pt → Prop} (hK : Back l R p e below s args y 3 W9 Pre Post)
    {b : Addr} {cellB : Cell} (hcell : T.heap[b]? = some cellB) (hobj : cellB.vm.isStatics = false) (hcls : s.vm.findClass C = some cellB.cls)
    {g : JFrame} (hg : g.method = m) (hsize : g.locals.size = c.maxLocals) {argsL rest : List Value} (hlen : ∀ sig, parseMethodDescriptor y.desc = some sig → argsL.length = sig.parameters.length)
    (hstack : g.stack = argsL.reverse ++ .ref b :: rest) (hW : 2 * g.monitorRoom + (rest.map fun v => v.category).sum ≤ W9) (hdg : decode c.code g.pc = .ok (.invokevirtual index, 3))
    (hpre : ∀ vm₁, s.WarmedH vm₁ → Pre ⟨T.setVm vm₁, locs, cells, slots⟩ (Value.ref b :: argsL).toArray) :
    ∃ (v : Option Value) (vm₁ : Vm) (B : Pt), s.WarmedH vm₁ ∧ Stand p l e R s m args below meth c B.U B.locs B.cells B.slots ∧ Post ⟨T.setVm vm₁, locs, cells, slots⟩ (Value.ref b :: argsL).toArray v B ∧
      ∀ target, Steps p.tables e below (B.U.setTop { g with pc := g.pc + 3, stack := v.toList ++ rest }) target → Steps p.tables e below (T.setTop g) target := by
  obtain ⟨mk, methM, hnamed, hmethM, hstM, habM⟩ := Cond.instanceMethod_spec hinst
  obtain ⟨m8, methM', cM, hn8, hmethM', -, -, -, -, -, -, hsigM⟩ := Cond.codeWith_spec hcode
  cases Option.some.inj (hn8.symm.trans hnamed)
  cases hmethM.symm.trans hmethM'
  obtain ⟨c2, r2, m2, q1, q2, q3, q4, kP, hkP, hkPi⟩ := Cond.selects_spec hsel
  cases hcls.symm.trans q1
  cases (State.methodFound?_of_named hnamed hy).symm.trans q2
  cases hnamed.symm.trans q3
  have hselP : selectMethod e.platform s.vm cellB.cls mk = .method mk := by rw [Launch.admits_selectMethod X.admits]; exact q4
  obtain ⟨vm₁, X₁, hstep₁⟩ := X.invokevirtual hexec hown hlink hnamed hmethM hstM hkP hkPi hy (a := b) (cell := cellB) hcell
    (fun z h => by rw [h] at hobj; cases hobj) hselP hmethM habM hkP hkPi (g := g) hg (argsL := argsL) (rest := rest) (hlen _ hsigM) hstack hdg
  obtain ⟨v, B, X', hpost, hsteps⟩ := hK m meth c ⟨T.setVm vm₁, locs, cells, slots⟩ { g with stack := rest } (.invokevirtual index) mk (Value.ref b :: argsL).toArray X₁ hg hsize hdg hW (X₁.named hnamed) (hpre vm₁ X₁.warmed)
  exact ⟨v, vm₁, B, X₁.warmed, X', hpost, fun target h => hstep₁ _ fun acts => by rw [doInvoke_state]; exact hsteps.trans h⟩
abbrev vx_CVW (R : Room) (s : State) (args : Array Value) (own C : String) (index : Nat) (y : MethodName) (bytes : ByteArray) (maxL : Nat) (ret : Option FieldType) (hh : List (Nat × Nat × Nat × Nat)) (ws : List Cond) (rm : Room) (mc ms n : Nat) : Prop :=
  (rm.cells = mc ∧ rm.slots = ms ∧ rm.frames + 1 ≤ R.frames ∧ 8 + (maxL + 11) + rm.locals ≤ R.locals ∧ (∀ w ∈ ws, ∀ (a' : Array Value) (U : State), s.WarmedH U.vm → w.before a' U = true) ∧ Cond.codeWith y bytes maxL ret hh ∈ ws) ∧
  (Cond.codeWith y bytes maxL ret hh).before args s = true ∧ (Cond.initialized y.cls).before args s = true ∧ (y.cls ≠ "java/lang/invoke/MethodHandle" ∧ y.cls ≠ "java/lang/invoke/VarHandle") ∧
  (∀ sig, parseMethodDescriptor y.desc = some sig → n = sig.parameters.length) ∧ (Cond.methodLink own index y).before args s = true ∧ (Cond.instanceMethod y).before args s = true ∧ (Cond.selects C y y).before args s = true
theorem vx_cwVW {own C : String} {index maxL mc ms : Nat} {y : MethodName} {bytes : ByteArray} {ret : Option FieldType} {hh : List (Nat × Nat × Nat × Nat)} {Ts ws ws' : List Cond} {rm : Room} (n : Nat) (ht : ∀ w ∈ Ts, w.before args s = true) (hT : GoodIn Ts (wsV own index C y ws)) (hw : ws = Cond.codeWith y bytes maxL ret hh :: ws') (hrc : rm.cells = mc) (hrs : rm.slots = ms)
    (hd : y.cls = C ∧ y.cls ≠ "java/lang/invoke/MethodHandle" ∧ y.cls ≠ "java/lang/invoke/VarHandle" ∧ (parseMethodDescriptor y.desc).map (fun d => d.parameters.length) = some n) (hR : rm.frames + 1 ≤ R.frames ∧ 8 + (maxL + 11) + rm.locals ≤ R.locals) :
    vx_CVW R s args own C index y bytes maxL ret hh ws rm mc ms n := by
  obtain ⟨hC, hd⟩ := hd
  subst hC
  have ok : ∀ w ∈ wsV own index y.cls y ws, w.before args s = true := fun w h => ht w (hT w h).1
  have hG : GoodIn Ts ws := fun w h => hT w (by unfold wsV; exact List.mem_append_right _ h)
  have hc : Cond.codeWith y bytes maxL ret hh ∈ ws := by rw [hw]; exact List.mem_cons_self
  refine ⟨⟨hrc, hrs, hR.1, hR.2, pay_in ht hG, hc⟩, ht _ (hG _ hc).1, ok _ (by simp [wsV]), ⟨hd.1, hd.2.1⟩, fun sig h => ?_, ok _ (by simp [wsV]), ok _ (by simp [wsV]), ok _ (by simp [wsV])⟩
  have h2 := hd.2.2
  rw [h] at h2
  exact (Option.some.inj h2).symm
theorem vx_runVW {y : MethodName} {bytes cc : ByteArray} {maxL nL mc ms n index : Nat} {ret : Option FieldType} {hh : List (Nat × Nat × Nat × Nat)} {ws : List Cond} {rm : Room} {Pc : Array Value → State → Prop} {Qc : Array Value → State → Outcome → State → Prop} {free : Addr → Prop} {Ts : List Cond} {own C : String} {b : Addr} {As rest : List Value} {g : JFrame}
    (S : CallFix p m c cc nL s args Ts own) (hM : Met l y ws rm Pc Qc mc ms free) (cw : vx_CVW R s args own C index y bytes maxL ret hh ws rm mc ms n) (hp : PreV s H C b Pc As)
    (hg : g.method = m) (hn : As.length = n) (hsize : g.locals.size = nL) (hstack : g.stack = As.reverse ++ .ref b :: rest) (hW : 2 * g.monitorRoom + (rest.map fun v => v.category).sum ≤ 8) (hdg : decode cc g.pc = .ok (.invokevirtual index, 3)) (hf : cells + mc ≤ R.cells ∧ slots + ms ≤ R.slots) :
    va_Run p l e R s m args below meth c H locs cells slots mc ms g rest (Qc (Value.ref b :: As).toArray) free := by
  obtain ⟨⟨hrc, hrs, hfr, hlo, hws, hcw⟩, hcode, hini, hy, hlen, hl, hin, hse⟩ := cw
  have hK : Back l R p e below s args y 3 8 (PreOf R mc ms Pc) (PostOf Qc mc ms free) := va_backW (hh := hh) (bytes := bytes) (maxL := maxL) (ret := ret) hM hp.1 hrc hrs hfr hlo hws hcw (fun a' U hW => word_at hW (Or.inl (by first | rfl | simp [Cond.onTables, Cond.keeps, Cond.steady])) hini)
  obtain ⟨hx, hb, hml, ho, -⟩ := S
  obtain ⟨-, ⟨cellB, hcB, hoB, hclB⟩, hPc⟩ := hp
  intro T hT X
  obtain ⟨v, vm₁, ⟨U', l2, c2, s2⟩, hW₁, X', ⟨g', mk, t, L, e1, e2, hq, h1, hL, h2, h3⟩, st⟩ := vx_callVW X hx (C := C) (hh := hh) (bytes := bytes) (maxL := maxL) (ret := ret) ho hl hin hse hcode hy hK (by rw [hT]; exact hcB) hoB hclB hg (hsize.trans hml.symm) (argsL := As) (rest := rest) (fun sig h => hn.trans (hlen sig h)) hstack hW (by rw [hb]; exact hdg)
    (fun vm₁ hW₁ => ⟨hf.1, hf.2, hPc (T.setVm vm₁) hT hW₁⟩)
  dsimp only [Pt.U, Pt.locs, Pt.cells, Pt.slots] at X' e1 e2 h1 h2 h3 st
  subst h1; subst h2; subst h3
  exact ⟨v, (T.setVm vm₁).calling g' mk (Value.ref b :: As).toArray, t, U', L, hT, X', hL, e1, e2, hq, st⟩
section
variable {y : MethodName} {bytes cc : ByteArray} {maxL nL mc ms n index : Nat} {ret : Option FieldType} {ws : List Cond} {rm : Room} {Pc : Array Value → State → Prop} {Qc : Array Value → State → Outcome → State → Prop} {XC : String → State → State → Prop} {free : Addr → Prop} {Ts : List Cond} {own C : String} {b : Addr} {As rest : List Value} {g : JFrame}
theorem vx_runVX {hh : List (Nat × Nat × Nat × Nat)} (S : CallFix p m c cc nL s args Ts own) (hM : vx_Met l y ws rm Pc Qc XC mc ms free) (cw : vx_CVW R s args own C index y bytes maxL ret hh ws rm mc ms n) (hp : PreV s H C b Pc As)
    (hg : g.method = m) (hn : As.length = n) (hsize : g.locals.size = nL) (hstack : g.stack = As.reverse ++ .ref b :: rest) (hW : 2 * g.monitorRoom + (rest.map fun v => v.category).sum ≤ 8) (hdg : decode cc g.pc = .ok (.invokevirtual index, 3)) (hf : cells + mc ≤ R.cells ∧ slots + ms ≤ R.slots) :
    vx_Run p l e R s m args below meth c H locs cells slots mc ms g rest (Qc (Value.ref b :: As).toArray) XC free := by
  obtain ⟨⟨hrc, hrs, hfr, hlo, hws, hcw⟩, hcode, hini, hy, hlen, hl, hin, hse⟩ := cw
  have hK : vx_Back l R p e below s args y 3 8 (PreOf R mc ms Pc) (PostOf Qc mc ms free) (vx_Post XC mc ms free) := vx_backW (hh := hh) (bytes := bytes) (maxL := maxL) (ret := ret) hM hp.1 hrc hrs hfr hlo hws hcw (fun a' U hW => word_at hW (Or.inl (by first | rfl | simp [Cond.onTables, Cond.keeps, Cond.steady])) hini)
  obtain ⟨hx, hb, hml, ho, -⟩ := S
  obtain ⟨-, ⟨cellB, hcB, hoB, hclB⟩, hPc⟩ := hp
  intro T hT X
  rcases vx_callVX X hx (C := C) (hh := hh) (bytes := bytes) (maxL := maxL) (ret := ret) ho hl hin hse hcode hy hK (by rw [hT]; exact hcB) hoB hclB hg (hsize.trans hml.symm) (argsL := As) (rest := rest) (fun sig h => hn.trans (hlen sig h)) hstack hW (by rw [hb]; exact hdg)
    (fun vm₁ hW₁ => ⟨hf.1, hf.2, hPc (T.setVm vm₁) hT hW₁⟩) with ⟨v, vm₁, ⟨U', l2, c2, s2⟩, hW₁, X', ⟨g', mk, t, L, e1, e2, hq, h1, hL, h2, h3⟩, st⟩ | ⟨q, vm₁, ⟨U', l2, c2, s2⟩, hW₁, X', ⟨g', mk, t, L, E, ce, e1, e2, hq, hce, hcv, hcl, h1, hL, h2, h3⟩, st⟩
  · dsimp only [Pt.U, Pt.locs, Pt.cells, Pt.slots] at X' e1 e2 h1 h2 h3 st
    subst h1; subst h2; subst h3
    exact Or.inl ⟨v, (T.setVm vm₁).calling g' mk (Value.ref b :: As).toArray, t, U', L, hT, X', hL, e1, e2, hq, st⟩
  · dsimp only [Pt.U, Pt.locs, Pt.cells, Pt.slots] at X' e1 e2 h1 h2 h3 st hcl
    subst h1; subst h2; subst h3
    exact Or.inr ⟨q, (T.setVm vm₁).calling g' mk (Value.ref b :: As).toArray, t, U', L, E, ce, hT, X', hL, e1, e2, hq, hce, hcv, vx_cls hW₁ hcl, st⟩
theorem vx_runSX {hh : List (Nat × Nat × Nat × Nat)} (S : CallFix p m c cc nL s args Ts own) (hM : vx_Met l y ws rm Pc Qc XC mc ms free) (cw : vx_CSW R s args own index y bytes maxL ret hh ws rm mc ms n) (hp : PreS s H Pc As)
    (hg : g.method = m) (hn : As.length = n) (hsize : g.locals.size = nL) (hstack : g.stack = As.reverse ++ rest) (hW : 2 * g.monitorRoom + (rest.map fun v => v.category).sum ≤ 8) (hdg : decode cc g.pc = .ok (.invokestatic index, 3)) (hf : cells + mc ≤ R.cells ∧ slots + ms ≤ R.slots) :
    vx_Run p l e R s m args below meth c H locs cells slots mc ms g rest (Qc As.toArray) XC free := by
  obtain ⟨⟨hrc, hrs, hfr, hlo, hws, hcw⟩, hcode, hini, hy, hlen, hl, hstt⟩ := cw
  have hK : vx_Back l R p e below s args y 3 8 (PreOf R mc ms Pc) (PostOf Qc mc ms free) (vx_Post XC mc ms free) := vx_backW (hh := hh) (bytes := bytes) (maxL := maxL) (ret := ret) hM hp.1 hrc hrs hfr hlo hws hcw (fun a' U hW => word_at hW (Or.inl (by first | rfl | simp [Cond.onTables, Cond.keeps, Cond.steady])) hini)
  obtain ⟨hx, hb, hml, ho, -⟩ := S
  intro T hT X
  rcases vx_callSX X hx (hh := hh) (bytes := bytes) (maxL := maxL) (ret := ret) ho hl hstt hini hcode hy hK hg (hsize.trans hml.symm) (argsL := As) (rest := rest) (fun sig h => hn.trans (hlen sig h)) hstack hW (by rw [hb]; exact hdg)
    (fun vm₁ hW₁ => ⟨hf.1, hf.2, hp.2 (T.setVm vm₁) hT hW₁⟩) with ⟨v, vm₁, ⟨U', l2, c2, s2⟩, hW₁, X', ⟨g', mk, t, L, e1, e2, hq, h1, hL, h2, h3⟩, st⟩ | ⟨q, vm₁, ⟨U', l2, c2, s2⟩, hW₁, X', ⟨g', mk, t, L, E, ce, e1, e2, hq, hce, hcv, hcl, h1, hL, h2, h3⟩, st⟩
  · dsimp only [Pt.U, Pt.locs, Pt.cells, Pt.slots] at X' e1 e2 h1 h2 h3 st
    subst h1; subst h2; subst h3
    exact Or.inl ⟨v, (T.setVm vm₁).calling g' mk As.toArray, t, U', L, hT, X', hL, e1, e2, hq, st⟩
  · dsimp only [Pt.U, Pt.locs, Pt.cells, Pt.slots] at X' e1 e2 h1 h2 h3 st hcl
    subst h1; subst h2; subst h3
    exact Or.inr ⟨q, (T.setVm vm₁).calling g' mk As.toArray, t, U', L, E, ce, hT, X', hL, e1, e2, hq, hce, hcv, vx_cls hW₁ hcl, st⟩
end
end VXH
theorem vx_ofWH {l : Launch} {y : MethodName} {ws ws' : List Cond} {rm : Room} {Pc : Array Value → State → Prop} {Qc : Array Value → State → Outcome → State → Prop} {XC : String → State → State → Prop} {mc ms : Nat} {free : Addr → Prop} {cc : ByteArray} {maxL : Nat} {ret : Option FieldType} {hh : List (Nat × Nat × Nat × Nat)}
    (hy : plainName y.cls = true) (hw : ws = Cond.codeWith y cc maxL ret hh :: ws')
    (body : ∀ p e s m args below meth c s₁, BodyLoose p l y (headSpec ws rm) cc maxL ret e s m args below meth c s₁ → c.maxLocals = maxL → Pc args s →
      W p l e (headSpec ws rm).room s m args below meth c s.heap [] 0 0 (vx_MQ below Qc XC args s mc ms free) (entryFrame m args maxL)) : vx_Met l y ws rm Pc Qc XC mc ms free := by
  refine MetFree.of_bodyS (code := cc) (maxLocals := maxL) (ret := ret) hy ?_ ?_
  · intro args s m h hn
    obtain ⟨m9, meth, c, hn9, h1, h2, h3, h4, -, h5, h6, -⟩ := Cond.codeWith_spec (atoms_spec (ws := ws) h _ (by rw [hw]; exact List.mem_cons_self))
    cases hn.symm.trans hn9
    exact ⟨meth, c, h1, h2, h3, h4, h5, h6⟩
  · intro p e s m args below meth c s₁ B hml hP _
    have hh0 : s₁.heap = s.heap := by rw [B.state]; rfl
    obtain ⟨t, a1, o, b1, b2, b3⟩ := body p e s m args below meth c s₁ B hml hP s₁ hh0 (Stand.of_body B)
    exact ⟨t, o, a1, b1, b2, b3⟩
/-! ===== END ===== -/
end
section
def RX0 : String := "Certhold$Certificate"
def TX0 : u_T := fun k => match k with
  | 0 => ("Certhold$Certificate", "number", "I", true)
  | 1 => ("Certhold$Certificate", "subject", "LCerthold$Holder;", true)
  | 2 => ("Certhold$Certificate", "issuer", "LCerthold$Holder;", true)
  | 3 => ("Certhold$Certificate", "firstDay", "I", true)
  | 4 => ("Certhold$Certificate", "lastDay", "I", true)
  | 5 => ("Certhold$Certificate", "length", "I", true)
  | 6 => ("Certhold$Certificate", "permitted", "I", false)
  | 7 => ("Certhold$Certificate", "excluded", "I", false)
  | 8 => ("Certhold$Certificate", "isTrusted", "Z", false)
  | 9 => ("Certhold$Certificate", "isMarked", "Z", false)
  | _ => ("Certhold$Certificate", "effectDay", "I", false)
def tyX0 : Nat → FieldType := fun k => match k with
  | 0 => .int
  | 1 => .object "Certhold$Holder"
  | 2 => .object "Certhold$Holder"
  | 3 => .int
  | 4 => .int
  | 5 => .int
  | 6 => .int
  | 7 => .int
  | 8 => .boolean
  | 9 => .boolean
  | _ => .int
abbrev wsX00 : List Cond := u_ws RX0 TX0 11
theorem nmX0 : ∀ a, a < 11 → ∀ b, b < 11 → a ≠ b → (TX0 a).2.1 ≠ (TX0 b).2.1 := by decide +kernel
theorem tyX0_ok : ∀ k, k < 11 → parseFieldDescriptor (TX0 k).2.2.1 = some (tyX0 k) := by decide +kernel
abbrev cX0_init : ByteArray := prog_2_method_1_code
def yX0_init : MethodName := ⟨RX0, "<init>", "(ILCerthold$Holder;LCerthold$Holder;III)V"⟩
abbrev cX0_isRoot : ByteArray := prog_2_method_2_code
def yX0_isRoot : MethodName := ⟨RX0, "isRoot", "()Z"⟩
abbrev cX0_isAuthority : ByteArray := prog_2_method_3_code
def yX0_isAuthority : MethodName := ⟨RX0, "isAuthority", "()Z"⟩
abbrev cX0_isValidOn : ByteArray := prog_2_method_4_code
def yX0_isValidOn : MethodName := ⟨RX0, "isValidOn", "(I)Z"⟩
abbrev cX0_isOutOfForceOn : ByteArray := prog_2_method_5_code
def yX0_isOutOfForceOn : MethodName := ⟨RX0, "isOutOfForceOn", "(I)Z"⟩
abbrev cX0_refusalOn : ByteArray := prog_2_method_6_code
def yX0_refusalOn : MethodName := ⟨RX0, "refusalOn", "(I)C"⟩
abbrev cX0_allows : ByteArray := prog_2_method_7_code
def yX0_allows : MethodName := ⟨RX0, "allows", "(I)Z"⟩
abbrev cX0_countCandidates : ByteArray := prog_2_method_8_code
def yX0_countCandidates : MethodName := ⟨RX0, "countCandidates", "()I"⟩
abbrev cX0_candidate : ByteArray := prog_2_method_9_code
def yX0_candidate : MethodName := ⟨RX0, "candidate", "(I)LCerthold$Certificate;"⟩
def RX1 : String := "Certhold$Chain"
def TX1 : u_T := fun k => match k with
  | 0 => ("Certhold$Chain", "row", "[LCerthold$Certificate;", true)
  | 1 => ("Certhold$Chain", "size", "I", false)
  | _ => ("Certhold$Chain", "day", "I", false)
def tyX1 : Nat → FieldType := fun k => match k with
  | 0 => .array (.object "Certhold$Certificate")
  | 1 => .int
  | _ => .int
abbrev wsX10 : List Cond := u_ws RX1 TX1 3
theorem nmX1 : ∀ a, a < 3 → ∀ b, b < 3 → a ≠ b → (TX1 a).2.1 ≠ (TX1 b).2.1 := by decide +kernel
theorem tyX1_ok : ∀ k, k < 3 → parseFieldDescriptor (TX1 k).2.2.1 = some (tyX1 k) := by decide +kernel
abbrev cX1_init : ByteArray := prog_3_method_1_code
def yX1_init : MethodName := ⟨RX1, "<init>", "()V"⟩
abbrev cX1_clear : ByteArray := prog_3_method_2_code
def yX1_clear : MethodName := ⟨RX1, "clear", "()V"⟩
abbrev cX1_restart : ByteArray := prog_3_method_3_code
def yX1_restart : MethodName := ⟨RX1, "restart", "(LCerthold$Certificate;I)V"⟩
abbrev cX1_add : ByteArray := prog_3_method_4_code
def yX1_add : MethodName := ⟨RX1, "add", "(LCerthold$Certificate;)Z"⟩
abbrev cX1_removeLast : ByteArray := prog_3_method_5_code
def yX1_removeLast : MethodName := ⟨RX1, "removeLast", "()V"⟩
abbrev cX1_copy : ByteArray := prog_3_method_6_code
def yX1_copy : MethodName := ⟨RX1, "copy", "(LCerthold$Chain;)V"⟩
abbrev cX1_at : ByteArray := prog_3_method_7_code
def yX1_at : MethodName := ⟨RX1, "at", "(I)LCerthold$Certificate;"⟩
abbrev cX1_last : ByteArray := prog_3_method_8_code
def yX1_last : MethodName := ⟨RX1, "last", "()LCerthold$Certificate;"⟩
abbrev cX1_has : ByteArray := prog_3_method_9_code
def yX1_has : MethodName := ⟨RX1, "has", "(LCerthold$Certificate;)Z"⟩
abbrev cX1_endsInTrust : ByteArray := prog_3_method_10_code
def yX1_endsInTrust : MethodName := ⟨RX1, "endsInTrust", "()Z"⟩
abbrev cX1_refusalOf : ByteArray := prog_3_method_11_code
def yX1_refusalOf : MethodName := ⟨RX1, "refusalOf", "(LCerthold$Certificate;)C"⟩
abbrev cX1_isGood : ByteArray := prog_3_method_12_code
def yX1_isGood : MethodName := ⟨RX1, "isGood", "()Z"⟩
abbrev cX1_isFitAt : ByteArray := prog_3_method_13_code
def yX1_isFitAt : MethodName := ⟨RX1, "isFitAt", "(LCerthold$Certificate;I)Z"⟩
abbrev cX1_allowsNamesBefore : ByteArray := prog_3_method_14_code
def yX1_allowsNamesBefore : MethodName := ⟨RX1, "allowsNamesBefore", "(LCerthold$Certificate;I)Z"⟩
def RX2 : String := "Certhold$Holder"
def TX2 : u_T := fun k => match k with
  | 0 => ("Certhold$Holder", "name", "I", true)
  | 1 => ("Certhold$Holder", "key", "I", true)
  | 2 => ("Certhold$Holder", "held", "[LCerthold$Certificate;", true)
  | _ => ("Certhold$Holder", "heldCount", "I", false)
def tyX2 : Nat → FieldType := fun k => match k with
  | 0 => .int
  | 1 => .int
  | 2 => .array (.object "Certhold$Certificate")
  | _ => .int
abbrev wsX20 : List Cond := u_ws RX2 TX2 4
theorem nmX2 : ∀ a, a < 4 → ∀ b, b < 4 → a ≠ b → (TX2 a).2.1 ≠ (TX2 b).2.1 := by decide +kernel
theorem tyX2_ok : ∀ k, k < 4 → parseFieldDescriptor (TX2 k).2.2.1 = some (tyX2 k) := by decide +kernel
abbrev cX2_init : ByteArray := prog_4_method_1_code
def yX2_init : MethodName := ⟨RX2, "<init>", "(II)V"⟩
abbrev cX2_isFull : ByteArray := prog_4_method_2_code
def yX2_isFull : MethodName := ⟨RX2, "isFull", "()Z"⟩
abbrev cX2_receive : ByteArray := prog_4_method_3_code
def yX2_receive : MethodName := ⟨RX2, "receive", "(LCerthold$Certificate;)V"⟩
def RX3 : String := "Certhold$Lists"
def TX3 : u_T := fun k => match k with
  | 0 => ("Certhold$Lists", "days", "[I", true)
  | 1 => ("Certhold$Lists", "members", "[J", true)
  | _ => ("Certhold$Lists", "size", "I", false)
def tyX3 : Nat → FieldType := fun k => match k with
  | 0 => .array .int
  | 1 => .array .long
  | _ => .int
abbrev wsX30 : List Cond := u_ws RX3 TX3 3
theorem nmX3 : ∀ a, a < 3 → ∀ b, b < 3 → a ≠ b → (TX3 a).2.1 ≠ (TX3 b).2.1 := by decide +kernel
theorem tyX3_ok : ∀ k, k < 3 → parseFieldDescriptor (TX3 k).2.2.1 = some (tyX3 k) := by decide +kernel
abbrev cX3_init : ByteArray := prog_5_method_1_code
def yX3_init : MethodName := ⟨RX3, "<init>", "()V"⟩
abbrev cX3_keep : ByteArray := prog_5_method_2_code
def yX3_keep : MethodName := ⟨RX3, "keep", "(IJ)V"⟩
abbrev cX3_tellOf : ByteArray := prog_5_method_3_code
def yX3_tellOf : MethodName := ⟨RX3, "tellOf", "(II)Z"⟩
def RX4 : String := "Certhold$Log"
def TX4 : u_T := fun k => match k with
  | 0 => ("Certhold$Log", "entries", "[J", true)
  | 1 => ("Certhold$Log", "finished", "[J", true)
  | 2 => ("Certhold$Log", "proof", "LCerthold$Proof;", true)
  | _ => ("Certhold$Log", "size", "I", false)
def tyX4 : Nat → FieldType := fun k => match k with
  | 0 => .array .long
  | 1 => .array .long
  | 2 => .object "Certhold$Proof"
  | _ => .int
abbrev wsX40 : List Cond := u_ws RX4 TX4 4
theorem nmX4 : ∀ a, a < 4 → ∀ b, b < 4 → a ≠ b → (TX4 a).2.1 ≠ (TX4 b).2.1 := by decide +kernel
theorem tyX4_ok : ∀ k, k < 4 → parseFieldDescriptor (TX4 k).2.2.1 = some (tyX4 k) := by decide +kernel
abbrev cX4_init : ByteArray := prog_6_method_1_code
def yX4_init : MethodName := ⟨RX4, "<init>", "()V"⟩
abbrev cX4_append : ByteArray := prog_6_method_2_code
def yX4_append : MethodName := ⟨RX4, "append", "(LCerthold$Certificate;)V"⟩
abbrev cX4_hashOfEntry : ByteArray := prog_6_method_3_code
def yX4_hashOfEntry : MethodName := ⟨RX4, "hashOfEntry", "(I)J"⟩
abbrev cX4_joined : ByteArray := prog_6_method_4_code
def yX4_joined : MethodName := ⟨RX4, "joined", "(JJ)J"⟩
abbrev cX4_rootByDividing : ByteArray := prog_6_method_5_code
def yX4_rootByDividing : MethodName := ⟨RX4, "rootByDividing", "(II)J"⟩
abbrev cX4_rootOfPart : ByteArray := prog_6_method_6_code
def yX4_rootOfPart : MethodName := ⟨RX4, "rootOfPart", "([JIII)J"⟩
abbrev cX4_sizeOfFirstPart : ByteArray := prog_6_method_7_code
def yX4_sizeOfFirstPart : MethodName := ⟨RX4, "sizeOfFirstPart", "(I)I"⟩
abbrev cX4_rootOfJoined : ByteArray := prog_6_method_8_code
def yX4_rootOfJoined : MethodName := ⟨RX4, "rootOfJoined", "(I)J"⟩
abbrev cX4_rootOfFinished : ByteArray := prog_6_method_9_code
def yX4_rootOfFinished : MethodName := ⟨RX4, "rootOfFinished", "(I)J"⟩
abbrev cX4_finishedAt : ByteArray := prog_6_method_10_code
def yX4_finishedAt : MethodName := ⟨RX4, "finishedAt", "(I)J"⟩
abbrev cX4_proofOfEntry : ByteArray := prog_6_method_11_code
def yX4_proofOfEntry : MethodName := ⟨RX4, "proofOfEntry", "(II)LCerthold$Proof;"⟩
abbrev cX4_proofOfGrowth : ByteArray := prog_6_method_12_code
def yX4_proofOfGrowth : MethodName := ⟨RX4, "proofOfGrowth", "(II)LCerthold$Proof;"⟩
abbrev cX4_descend : ByteArray := prog_6_method_13_code
def yX4_descend : MethodName := ⟨RX4, "descend", "(IIZ)V"⟩
def RX5 : String := "Certhold$Proof"
def TX5 : u_T := fun k => match k with
  | 0 => ("Certhold$Proof", "hashes", "[J", true)
  | 1 => ("Certhold$Proof", "standsFirst", "[Z", true)
  | _ => ("Certhold$Proof", "size", "I", false)
def tyX5 : Nat → FieldType := fun k => match k with
  | 0 => .array .long
  | 1 => .array .boolean
  | _ => .int
abbrev wsX50 : List Cond := u_ws RX5 TX5 3
theorem nmX5 : ∀ a, a < 3 → ∀ b, b < 3 → a ≠ b → (TX5 a).2.1 ≠ (TX5 b).2.1 := by decide +kernel
theorem tyX5_ok : ∀ k, k < 3 → parseFieldDescriptor (TX5 k).2.2.1 = some (tyX5 k) := by decide +kernel
abbrev cX5_init : ByteArray := prog_7_method_1_code
def yX5_init : MethodName := ⟨RX5, "<init>", "()V"⟩
abbrev cX5_clear : ByteArray := prog_7_method_2_code
def yX5_clear : MethodName := ⟨RX5, "clear", "()V"⟩
abbrev cX5_push : ByteArray := prog_7_method_3_code
def yX5_push : MethodName := ⟨RX5, "push", "(JZ)V"⟩
abbrev cX5_hasIndex : ByteArray := prog_7_method_4_code
def yX5_hasIndex : MethodName := ⟨RX5, "hasIndex", "(I)Z"⟩
abbrev cX5_hash : ByteArray := prog_7_method_5_code
def yX5_hash : MethodName := ⟨RX5, "hash", "(I)J"⟩
abbrev cX5_rootFrom : ByteArray := prog_7_method_6_code
def yX5_rootFrom : MethodName := ⟨RX5, "rootFrom", "(J)J"⟩
def RX6 : String := "Certhold"
def TX6 : u_T := fun k => match k with
  | 0 => ("Certhold", "made", "[LCerthold$Certificate;", true)
  | 1 => ("Certhold", "lists", "LCerthold$Lists;", true)
  | 2 => ("Certhold", "log", "LCerthold$Log;", true)
  | 3 => ("Certhold", "walk", "LCerthold$Chain;", true)
  | 4 => ("Certhold", "trial", "LCerthold$Chain;", true)
  | 5 => ("Certhold", "best", "LCerthold$Chain;", true)
  | 6 => ("Certhold", "count", "I", false)
  | 7 => ("Certhold", "lastKey", "I", false)
  | _ => ("Certhold", "today", "I", false)
def tyX6 : Nat → FieldType := fun k => match k with
  | 0 => .array (.object "Certhold$Certificate")
  | 1 => .object "Certhold$Lists"
  | 2 => .object "Certhold$Log"
  | 3 => .object "Certhold$Chain"
  | 4 => .object "Certhold$Chain"
  | 5 => .object "Certhold$Chain"
  | 6 => .int
  | 7 => .int
  | _ => .int
abbrev wsX60 : List Cond := u_ws RX6 TX6 9
theorem nmX6 : ∀ a, a < 9 → ∀ b, b < 9 → a ≠ b → (TX6 a).2.1 ≠ (TX6 b).2.1 := by decide +kernel
theorem tyX6_ok : ∀ k, k < 9 → parseFieldDescriptor (TX6 k).2.2.1 = some (tyX6 k) := by decide +kernel
abbrev cX6_init : ByteArray := prog_1_method_1_code
def yX6_init : MethodName := ⟨RX6, "<init>", "()V"⟩
abbrev cX6_makeRoot : ByteArray := prog_1_method_2_code
def yX6_makeRoot : MethodName := ⟨RX6, "makeRoot", "(III)I"⟩
abbrev cX6_issue : ByteArray := prog_1_method_3_code
def yX6_issue : MethodName := ⟨RX6, "issue", "(III)I"⟩
abbrev cX6_issueAuthority : ByteArray := prog_1_method_4_code
def yX6_issueAuthority : MethodName := ⟨RX6, "issueAuthority", "(IIII)I"⟩
abbrev cX6_cross : ByteArray := prog_1_method_5_code
def yX6_cross : MethodName := ⟨RX6, "cross", "(IIII)I"⟩
abbrev cX6_setNames : ByteArray := prog_1_method_6_code
def yX6_setNames : MethodName := ⟨RX6, "setNames", "(III)I"⟩
abbrev cX6_trust : ByteArray := prog_1_method_7_code
def yX6_trust : MethodName := ⟨RX6, "trust", "(IZ)I"⟩
abbrev cX6_revoke : ByteArray := prog_1_method_8_code
def yX6_revoke : MethodName := ⟨RX6, "revoke", "(I)I"⟩
abbrev cX6_publish : ByteArray := prog_1_method_9_code
def yX6_publish : MethodName := ⟨RX6, "publish", "(I)I"⟩
abbrev cX6_pass : ByteArray := prog_1_method_10_code
def yX6_pass : MethodName := ⟨RX6, "pass", "(I)I"⟩
abbrev cX6_day : ByteArray := prog_1_method_11_code
def yX6_day : MethodName := ⟨RX6, "day", "()I"⟩
abbrev cX6_certificates : ByteArray := prog_1_method_12_code
def yX6_certificates : MethodName := ⟨RX6, "certificates", "()I"⟩
abbrev cX6_nameOf : ByteArray := prog_1_method_13_code
def yX6_nameOf : MethodName := ⟨RX6, "nameOf", "(I)I"⟩
abbrev cX6_keyOf : ByteArray := prog_1_method_14_code
def yX6_keyOf : MethodName := ⟨RX6, "keyOf", "(I)I"⟩
abbrev cX6_issuerKeyOf : ByteArray := prog_1_method_15_code
def yX6_issuerKeyOf : MethodName := ⟨RX6, "issuerKeyOf", "(I)I"⟩
abbrev cX6_lastDayOf : ByteArray := prog_1_method_16_code
def yX6_lastDayOf : MethodName := ⟨RX6, "lastDayOf", "(I)I"⟩
abbrev cX6_kindOf : ByteArray := prog_1_method_17_code
def yX6_kindOf : MethodName := ⟨RX6, "kindOf", "(I)C"⟩
abbrev cX6_isBelow : ByteArray := prog_1_method_18_code
def yX6_isBelow : MethodName := ⟨RX6, "isBelow", "(II)Z"⟩
abbrev cX6_isRevoked : ByteArray := prog_1_method_19_code
def yX6_isRevoked : MethodName := ⟨RX6, "isRevoked", "(II)Z"⟩
abbrev cX6_isRevokedByLists : ByteArray := prog_1_method_20_code
def yX6_isRevokedByLists : MethodName := ⟨RX6, "isRevokedByLists", "(II)Z"⟩
abbrev cX6_candidates : ByteArray := prog_1_method_21_code
def yX6_candidates : MethodName := ⟨RX6, "candidates", "(I)I"⟩
abbrev cX6_candidateAt : ByteArray := prog_1_method_22_code
def yX6_candidateAt : MethodName := ⟨RX6, "candidateAt", "(II)I"⟩
abbrev cX6_chainSize : ByteArray := prog_1_method_23_code
def yX6_chainSize : MethodName := ⟨RX6, "chainSize", "(II)I"⟩
abbrev cX6_chainAt : ByteArray := prog_1_method_24_code
def yX6_chainAt : MethodName := ⟨RX6, "chainAt", "(III)I"⟩
abbrev cX6_goodChains : ByteArray := prog_1_method_25_code
def yX6_goodChains : MethodName := ⟨RX6, "goodChains", "(II)I"⟩
abbrev cX6_goodChainsByWalks : ByteArray := prog_1_method_26_code
def yX6_goodChainsByWalks : MethodName := ⟨RX6, "goodChainsByWalks", "(II)I"⟩
abbrev cX6_begin : ByteArray := prog_1_method_27_code
def yX6_begin : MethodName := ⟨RX6, "begin", "(II)C"⟩
abbrev cX6_step : ByteArray := prog_1_method_28_code
def yX6_step : MethodName := ⟨RX6, "step", "(I)C"⟩
abbrev cX6_reached : ByteArray := prog_1_method_29_code
def yX6_reached : MethodName := ⟨RX6, "reached", "()I"⟩
abbrev cX6_walked : ByteArray := prog_1_method_30_code
def yX6_walked : MethodName := ⟨RX6, "walked", "()I"⟩
abbrev cX6_isThrough : ByteArray := prog_1_method_31_code
def yX6_isThrough : MethodName := ⟨RX6, "isThrough", "()Z"⟩
abbrev cX6_rootOf : ByteArray := prog_1_method_32_code
def yX6_rootOf : MethodName := ⟨RX6, "rootOf", "(I)J"⟩
abbrev cX6_rootByJoining : ByteArray := prog_1_method_33_code
def yX6_rootByJoining : MethodName := ⟨RX6, "rootByJoining", "(I)J"⟩
abbrev cX6_proofSize : ByteArray := prog_1_method_34_code
def yX6_proofSize : MethodName := ⟨RX6, "proofSize", "(II)I"⟩
abbrev cX6_proofAt : ByteArray := prog_1_method_35_code
def yX6_proofAt : MethodName := ⟨RX6, "proofAt", "(III)J"⟩
abbrev cX6_rootByProof : ByteArray := prog_1_method_36_code
def yX6_rootByProof : MethodName := ⟨RX6, "rootByProof", "(II)J"⟩
abbrev cX6_growthSize : ByteArray := prog_1_method_37_code
def yX6_growthSize : MethodName := ⟨RX6, "growthSize", "(II)I"⟩
abbrev cX6_growthAt : ByteArray := prog_1_method_38_code
def yX6_growthAt : MethodName := ⟨RX6, "growthAt", "(III)J"⟩
abbrev cX6_soundShare : ByteArray := prog_1_method_39_code
def yX6_soundShare : MethodName := ⟨RX6, "soundShare", "()F"⟩
abbrev cX6_meanChain : ByteArray := prog_1_method_40_code
def yX6_meanChain : MethodName := ⟨RX6, "meanChain", "()D"⟩
abbrev cX6_find : ByteArray := prog_1_method_41_code
def yX6_find : MethodName := ⟨RX6, "find", "(I)LCerthold$Certificate;"⟩
abbrev cX6_requireCandidate : ByteArray := prog_1_method_42_code
def yX6_requireCandidate : MethodName := ⟨RX6, "requireCandidate", "(LCerthold$Certificate;I)LCerthold$Certificate;"⟩
abbrev cX6_requireReached : ByteArray := prog_1_method_43_code
def yX6_requireReached : MethodName := ⟨RX6, "requireReached", "()LCerthold$Certificate;"⟩
abbrev cX6_requireName : ByteArray := prog_1_method_44_code
def yX6_requireName : MethodName := ⟨RX6, "requireName", "(I)V"⟩
abbrev cX6_requireNameOrNone : ByteArray := prog_1_method_45_code
def yX6_requireNameOrNone : MethodName := ⟨RX6, "requireNameOrNone", "(I)V"⟩
abbrev cX6_requireDays : ByteArray := prog_1_method_46_code
def yX6_requireDays : MethodName := ⟨RX6, "requireDays", "(I)V"⟩
abbrev cX6_requireLength : ByteArray := prog_1_method_47_code
def yX6_requireLength : MethodName := ⟨RX6, "requireLength", "(I)V"⟩
abbrev cX6_requireDay : ByteArray := prog_1_method_48_code
def yX6_requireDay : MethodName := ⟨RX6, "requireDay", "(I)V"⟩
abbrev cX6_requireAuthority : ByteArray := prog_1_method_49_code
def yX6_requireAuthority : MethodName := ⟨RX6, "requireAuthority", "(LCerthold$Certificate;)V"⟩
abbrev cX6_requireRoom : ByteArray := prog_1_method_50_code
def yX6_requireRoom : MethodName := ⟨RX6, "requireRoom", "()V"⟩
abbrev cX6_requireSize : ByteArray := prog_1_method_51_code
def yX6_requireSize : MethodName := ⟨RX6, "requireSize", "(I)V"⟩
abbrev cX6_isName : ByteArray := prog_1_method_52_code
def yX6_isName : MethodName := ⟨RX6, "isName", "(I)Z"⟩
abbrev cX6_beginsWith : ByteArray := prog_1_method_53_code
def yX6_beginsWith : MethodName := ⟨RX6, "beginsWith", "(II)Z"⟩
abbrev cX6_newHolder : ByteArray := prog_1_method_54_code
def yX6_newHolder : MethodName := ⟨RX6, "newHolder", "(I)LCerthold$Holder;"⟩
abbrev cX6_enter : ByteArray := prog_1_method_55_code
def yX6_enter : MethodName := ⟨RX6, "enter", "(LCerthold$Holder;LCerthold$Holder;II)I"⟩
abbrev cX6_hasIssued : ByteArray := prog_1_method_56_code
def yX6_hasIssued : MethodName := ⟨RX6, "hasIssued", "(LCerthold$Holder;)Z"⟩
abbrev cX6_trustedRoots : ByteArray := prog_1_method_57_code
def yX6_trustedRoots : MethodName := ⟨RX6, "trustedRoots", "()I"⟩
abbrev cX6_pendingOf : ByteArray := prog_1_method_58_code
def yX6_pendingOf : MethodName := ⟨RX6, "pendingOf", "(LCerthold$Holder;)I"⟩
abbrev cX6_takeEffect : ByteArray := prog_1_method_59_code
def yX6_takeEffect : MethodName := ⟨RX6, "takeEffect", "(LCerthold$Holder;)J"⟩
abbrev cX6_bitOf : ByteArray := prog_1_method_60_code
def yX6_bitOf : MethodName := ⟨RX6, "bitOf", "(I)J"⟩
abbrev cX6_sizeOfBest : ByteArray := prog_1_method_61_code
def yX6_sizeOfBest : MethodName := ⟨RX6, "sizeOfBest", "(LCerthold$Certificate;I)I"⟩
abbrev cX6_findBest : ByteArray := prog_1_method_62_code
def yX6_findBest : MethodName := ⟨RX6, "findBest", "(LCerthold$Chain;LCerthold$Chain;)V"⟩
abbrev cX6_countLengthened : ByteArray := prog_1_method_63_code
def yX6_countLengthened : MethodName := ⟨RX6, "countLengthened", "(LCerthold$Chain;)I"⟩
abbrev cX6_countJudged : ByteArray := prog_1_method_64_code
def yX6_countJudged : MethodName := ⟨RX6, "countJudged", "(LCerthold$Chain;)I"⟩
abbrev cX6_prove : ByteArray := prog_1_method_65_code
def yX6_prove : MethodName := ⟨RX6, "prove", "(II)LCerthold$Proof;"⟩
abbrev cX6_proveGrowth : ByteArray := prog_1_method_66_code
def yX6_proveGrowth : MethodName := ⟨RX6, "proveGrowth", "(II)LCerthold$Proof;"⟩
abbrev cX6_hashAt : ByteArray := prog_1_method_67_code
def yX6_hashAt : MethodName := ⟨RX6, "hashAt", "(LCerthold$Proof;I)J"⟩
def RX7 : String := "CertholdModel"
def TX7 : u_T := fun k => match k with
  | 0 => ("CertholdModel", "name", "[I", true)
  | 1 => ("CertholdModel", "key", "[I", true)
  | 2 => ("CertholdModel", "first", "[I", true)
  | 3 => ("CertholdModel", "last", "[I", true)
  | 4 => ("CertholdModel", "issuerName", "[I", true)
  | 5 => ("CertholdModel", "issuerKey", "[I", true)
  | 6 => ("CertholdModel", "length", "[I", true)
  | 7 => ("CertholdModel", "permitted", "[I", true)
  | 8 => ("CertholdModel", "excluded", "[I", true)
  | 9 => ("CertholdModel", "effect", "[I", true)
  | 10 => ("CertholdModel", "isAuthority", "[Z", true)
  | 11 => ("CertholdModel", "isRoot", "[Z", true)
  | 12 => ("CertholdModel", "isTrusted", "[Z", true)
  | 13 => ("CertholdModel", "isMarked", "[Z", true)
  | 14 => ("CertholdModel", "chain", "[I", true)
  | 15 => ("CertholdModel", "walk", "[I", true)
  | 16 => ("CertholdModel", "row", "[J", true)
  | 17 => ("CertholdModel", "many", "I", false)
  | 18 => ("CertholdModel", "keys", "I", false)
  | 19 => ("CertholdModel", "day", "I", false)
  | 20 => ("CertholdModel", "walked", "I", false)
  | 21 => ("CertholdModel", "walkDay", "I", false)
  | 22 => ("CertholdModel", "chainMany", "I", false)
  | 23 => ("CertholdModel", "rowMany", "I", false)
  | _ => ("CertholdModel", "thrown", "I", false)
def tyX7 : Nat → FieldType := fun k => match k with
  | 0 => .array .int
  | 1 => .array .int
  | 2 => .array .int
  | 3 => .array .int
  | 4 => .array .int
  | 5 => .array .int
  | 6 => .array .int
  | 7 => .array .int
  | 8 => .array .int
  | 9 => .array .int
  | 10 => .array .boolean
  | 11 => .array .boolean
  | 12 => .array .boolean
  | 13 => .array .boolean
  | 14 => .array .int
  | 15 => .array .int
  | 16 => .array .long
  | 17 => .int
  | 18 => .int
  | 19 => .int
  | 20 => .int
  | 21 => .int
  | 22 => .int
  | 23 => .int
  | _ => .int
abbrev wsX70 : List Cond := u_ws RX7 TX7 25
theorem nmX7 : ∀ a, a < 25 → ∀ b, b < 25 → a ≠ b → (TX7 a).2.1 ≠ (TX7 b).2.1 := by decide +kernel
theorem tyX7_ok : ∀ k, k < 25 → parseFieldDescriptor (TX7 k).2.2.1 = some (tyX7 k) := by decide +kernel
abbrev cX7_init : ByteArray := prog_9_method_1_code
def yX7_init : MethodName := ⟨RX7, "<init>", "()V"⟩
abbrev cX7_thrown : ByteArray := prog_9_method_2_code
def yX7_thrown : MethodName := ⟨RX7, "thrown", "()I"⟩
abbrev cX7_isIn : ByteArray := prog_9_method_3_code
def yX7_isIn : MethodName := ⟨RX7, "isIn", "(III)Z"⟩
abbrev cX7_isThrown : ByteArray := prog_9_method_4_code
def yX7_isThrown : MethodName := ⟨RX7, "isThrown", "(ZI)Z"⟩
abbrev cX7_isName : ByteArray := prog_9_method_5_code
def yX7_isName : MethodName := ⟨RX7, "isName", "(I)Z"⟩
abbrev cX7_isUnder : ByteArray := prog_9_method_6_code
def yX7_isUnder : MethodName := ⟨RX7, "isUnder", "(II)Z"⟩
abbrev cX7_isThere : ByteArray := prog_9_method_7_code
def yX7_isThere : MethodName := ⟨RX7, "isThere", "(I)Z"⟩
abbrev cX7_isNone : ByteArray := prog_9_method_8_code
def yX7_isNone : MethodName := ⟨RX7, "isNone", "(I)Z"⟩
abbrev cX7_makes : ByteArray := prog_9_method_9_code
def yX7_makes : MethodName := ⟨RX7, "makes", "(IIIII)I"⟩
abbrev cX7_authority : ByteArray := prog_9_method_10_code
def yX7_authority : MethodName := ⟨RX7, "authority", "(II)I"⟩
abbrev cX7_makeRoot : ByteArray := prog_9_method_11_code
def yX7_makeRoot : MethodName := ⟨RX7, "makeRoot", "(III)I"⟩
abbrev cX7_cannotIssue : ByteArray := prog_9_method_12_code
def yX7_cannotIssue : MethodName := ⟨RX7, "cannotIssue", "(IZ)Z"⟩
abbrev cX7_issue : ByteArray := prog_9_method_13_code
def yX7_issue : MethodName := ⟨RX7, "issue", "(III)I"⟩
abbrev cX7_issueAuthority : ByteArray := prog_9_method_14_code
def yX7_issueAuthority : MethodName := ⟨RX7, "issueAuthority", "(IIII)I"⟩
abbrev cX7_withKey : ByteArray := prog_9_method_15_code
def yX7_withKey : MethodName := ⟨RX7, "withKey", "(I)I"⟩
abbrev cX7_cross : ByteArray := prog_9_method_16_code
def yX7_cross : MethodName := ⟨RX7, "cross", "(IIII)I"⟩
abbrev cX7_hasIssued : ByteArray := prog_9_method_17_code
def yX7_hasIssued : MethodName := ⟨RX7, "hasIssued", "(I)Z"⟩
abbrev cX7_setNames : ByteArray := prog_9_method_18_code
def yX7_setNames : MethodName := ⟨RX7, "setNames", "(III)I"⟩
abbrev cX7_trust : ByteArray := prog_9_method_19_code
def yX7_trust : MethodName := ⟨RX7, "trust", "(IZ)I"⟩
abbrev cX7_revoke : ByteArray := prog_9_method_20_code
def yX7_revoke : MethodName := ⟨RX7, "revoke", "(I)I"⟩
abbrev cX7_publish : ByteArray := prog_9_method_21_code
def yX7_publish : MethodName := ⟨RX7, "publish", "(I)I"⟩
abbrev cX7_pass : ByteArray := prog_9_method_22_code
def yX7_pass : MethodName := ⟨RX7, "pass", "(I)I"⟩
abbrev cX7_isOff : ByteArray := prog_9_method_23_code
def yX7_isOff : MethodName := ⟨RX7, "isOff", "(II)Z"⟩
abbrev cX7_isValid : ByteArray := prog_9_method_24_code
def yX7_isValid : MethodName := ⟨RX7, "isValid", "(II)Z"⟩
abbrev cX7_tells : ByteArray := prog_9_method_25_code
def yX7_tells : MethodName := ⟨RX7, "tells", "(I)I"⟩
abbrev cX7_day : ByteArray := prog_9_method_26_code
def yX7_day : MethodName := ⟨RX7, "day", "()I"⟩
abbrev cX7_certificates : ByteArray := prog_9_method_27_code
def yX7_certificates : MethodName := ⟨RX7, "certificates", "()I"⟩
abbrev cX7_nameOf : ByteArray := prog_9_method_28_code
def yX7_nameOf : MethodName := ⟨RX7, "nameOf", "(I)I"⟩
abbrev cX7_keyOf : ByteArray := prog_9_method_29_code
def yX7_keyOf : MethodName := ⟨RX7, "keyOf", "(I)I"⟩
abbrev cX7_issuerKeyOf : ByteArray := prog_9_method_30_code
def yX7_issuerKeyOf : MethodName := ⟨RX7, "issuerKeyOf", "(I)I"⟩
abbrev cX7_lastDayOf : ByteArray := prog_9_method_31_code
def yX7_lastDayOf : MethodName := ⟨RX7, "lastDayOf", "(I)I"⟩
abbrev cX7_kindOf : ByteArray := prog_9_method_32_code
def yX7_kindOf : MethodName := ⟨RX7, "kindOf", "(I)C"⟩
abbrev cX7_isBelow : ByteArray := prog_9_method_33_code
def yX7_isBelow : MethodName := ⟨RX7, "isBelow", "(II)Z"⟩
abbrev cX7_isWrong : ByteArray := prog_9_method_34_code
def yX7_isWrong : MethodName := ⟨RX7, "isWrong", "(II)Z"⟩
abbrev cX7_isRevoked : ByteArray := prog_9_method_35_code
def yX7_isRevoked : MethodName := ⟨RX7, "isRevoked", "(II)Z"⟩
abbrev cX7_isRevokedByLists : ByteArray := prog_9_method_36_code
def yX7_isRevokedByLists : MethodName := ⟨RX7, "isRevokedByLists", "(II)Z"⟩
abbrev cX7_isCandidate : ByteArray := prog_9_method_37_code
def yX7_isCandidate : MethodName := ⟨RX7, "isCandidate", "(II)Z"⟩
abbrev cX7_candidates : ByteArray := prog_9_method_38_code
def yX7_candidates : MethodName := ⟨RX7, "candidates", "(I)I"⟩
abbrev cX7_candidate : ByteArray := prog_9_method_39_code
def yX7_candidate : MethodName := ⟨RX7, "candidate", "(II)I"⟩
abbrev cX7_candidateAt : ByteArray := prog_9_method_40_code
def yX7_candidateAt : MethodName := ⟨RX7, "candidateAt", "(II)I"⟩
abbrev cX7_fitsNames : ByteArray := prog_9_method_41_code
def yX7_fitsNames : MethodName := ⟨RX7, "fitsNames", "([III)Z"⟩
abbrev cX7_refusal : ByteArray := prog_9_method_42_code
def yX7_refusal : MethodName := ⟨RX7, "refusal", "([IIII)C"⟩
abbrev cX7_canBegin : ByteArray := prog_9_method_43_code
def yX7_canBegin : MethodName := ⟨RX7, "canBegin", "(II)Z"⟩
abbrev cX7_finds : ByteArray := prog_9_method_44_code
def yX7_finds : MethodName := ⟨RX7, "finds", "(III)Z"⟩
abbrev cX7_best : ByteArray := prog_9_method_45_code
def yX7_best : MethodName := ⟨RX7, "best", "(II)I"⟩
abbrev cX7_chainSize : ByteArray := prog_9_method_46_code
def yX7_chainSize : MethodName := ⟨RX7, "chainSize", "(II)I"⟩
abbrev cX7_chainAt : ByteArray := prog_9_method_47_code
def yX7_chainAt : MethodName := ⟨RX7, "chainAt", "(III)I"⟩
abbrev cX7_counts : ByteArray := prog_9_method_48_code
def yX7_counts : MethodName := ⟨RX7, "counts", "(II)V"⟩
abbrev cX7_goodChains : ByteArray := prog_9_method_49_code
def yX7_goodChains : MethodName := ⟨RX7, "goodChains", "(II)I"⟩
abbrev cX7_goodChainsByWalks : ByteArray := prog_9_method_50_code
def yX7_goodChainsByWalks : MethodName := ⟨RX7, "goodChainsByWalks", "(II)I"⟩
abbrev cX7_begin : ByteArray := prog_9_method_51_code
def yX7_begin : MethodName := ⟨RX7, "begin", "(II)C"⟩
abbrev cX7_step : ByteArray := prog_9_method_52_code
def yX7_step : MethodName := ⟨RX7, "step", "(I)C"⟩
abbrev cX7_reached : ByteArray := prog_9_method_53_code
def yX7_reached : MethodName := ⟨RX7, "reached", "()I"⟩
abbrev cX7_walked : ByteArray := prog_9_method_54_code
def yX7_walked : MethodName := ⟨RX7, "walked", "()I"⟩
abbrev cX7_isThrough : ByteArray := prog_9_method_55_code
def yX7_isThrough : MethodName := ⟨RX7, "isThrough", "()Z"⟩
abbrev cX7_joined : ByteArray := prog_9_method_56_code
def yX7_joined : MethodName := ⟨RX7, "joined", "(JJ)J"⟩
abbrev cX7_split : ByteArray := prog_9_method_57_code
def yX7_split : MethodName := ⟨RX7, "split", "(I)I"⟩
abbrev cX7_rootFrom : ByteArray := prog_9_method_58_code
def yX7_rootFrom : MethodName := ⟨RX7, "rootFrom", "(II)J"⟩
abbrev cX7_isNoSize : ByteArray := prog_9_method_59_code
def yX7_isNoSize : MethodName := ⟨RX7, "isNoSize", "(I)Z"⟩
abbrev cX7_rootOf : ByteArray := prog_9_method_60_code
def yX7_rootOf : MethodName := ⟨RX7, "rootOf", "(I)J"⟩
abbrev cX7_rootByJoining : ByteArray := prog_9_method_61_code
def yX7_rootByJoining : MethodName := ⟨RX7, "rootByJoining", "(I)J"⟩
abbrev cX7_adds : ByteArray := prog_9_method_62_code
def yX7_adds : MethodName := ⟨RX7, "adds", "(J)V"⟩
abbrev cX7_proves : ByteArray := prog_9_method_63_code
def yX7_proves : MethodName := ⟨RX7, "proves", "(III)V"⟩
abbrev cX7_isProof : ByteArray := prog_9_method_64_code
def yX7_isProof : MethodName := ⟨RX7, "isProof", "(II)Z"⟩
abbrev cX7_rowAt : ByteArray := prog_9_method_65_code
def yX7_rowAt : MethodName := ⟨RX7, "rowAt", "(I)J"⟩
abbrev cX7_proofSize : ByteArray := prog_9_method_66_code
def yX7_proofSize : MethodName := ⟨RX7, "proofSize", "(II)I"⟩
abbrev cX7_proofAt : ByteArray := prog_9_method_67_code
def yX7_proofAt : MethodName := ⟨RX7, "proofAt", "(III)J"⟩
abbrev cX7_rootByProof : ByteArray := prog_9_method_68_code
def yX7_rootByProof : MethodName := ⟨RX7, "rootByProof", "(II)J"⟩
abbrev cX7_grows : ByteArray := prog_9_method_69_code
def yX7_grows : MethodName := ⟨RX7, "grows", "(III)V"⟩
abbrev cX7_isGrowth : ByteArray := prog_9_method_70_code
def yX7_isGrowth : MethodName := ⟨RX7, "isGrowth", "(II)Z"⟩
abbrev cX7_growthSize : ByteArray := prog_9_method_71_code
def yX7_growthSize : MethodName := ⟨RX7, "growthSize", "(II)I"⟩
abbrev cX7_growthAt : ByteArray := prog_9_method_72_code
def yX7_growthAt : MethodName := ⟨RX7, "growthAt", "(III)J"⟩
abbrev cX7_soundShare : ByteArray := prog_9_method_73_code
def yX7_soundShare : MethodName := ⟨RX7, "soundShare", "()F"⟩
abbrev cX7_meanChain : ByteArray := prog_9_method_74_code
def yX7_meanChain : MethodName := ⟨RX7, "meanChain", "()D"⟩
def RJx00060 : String := "java/lang/ArrayIndexOutOfBoundsException"
def TJx00060 : u_T := fun k => match k with
  | 0 => ("java/lang/Throwable", "backtrace", "Ljava/lang/Object;", false)
  | 1 => ("java/lang/Throwable", "detailMessage", "Ljava/lang/String;", false)
  | 2 => ("java/lang/Throwable", "cause", "Ljava/lang/Throwable;", false)
  | 3 => ("java/lang/Throwable", "stackTrace", "[Ljava/lang/StackTraceElement;", false)
  | 4 => ("java/lang/Throwable", "depth", "I", false)
  | _ => ("java/lang/Throwable", "suppressedExceptions", "Ljava/util/List;", false)
def tyJx00060 : Nat → FieldType := fun k => match k with
  | 0 => .object "java/lang/Object"
  | 1 => .object "java/lang/String"
  | 2 => .object "java/lang/Throwable"
  | 3 => .array (.object "java/lang/StackTraceElement")
  | 4 => .int
  | _ => .object "java/util/List"
abbrev wsJx000600 : List Cond := u_ws RJx00060 TJx00060 6
theorem nmJx00060 : ∀ a, a < 6 → ∀ b, b < 6 → a ≠ b → (TJx00060 a).2.1 ≠ (TJx00060 b).2.1 := by decide +kernel
theorem tyJx00060_ok : ∀ k, k < 6 → parseFieldDescriptor (TJx00060 k).2.2.1 = some (tyJx00060 k) := by decide +kernel
abbrev cJx00060_init_a7421 : ByteArray := prog_11_method_2_code
def yJx00060_init_a7421 : MethodName := ⟨RJx00060, "<init>", "(Ljava/lang/String;)V"⟩
def RJ0 : String := "java/lang/String"
def TJ0 : u_T := fun k => match k with
  | 0 => ("java/lang/String", "value", "[B", true)
  | _ => ("java/lang/String", "coder", "B", true)
def tyJ0 : Nat → FieldType := fun k => match k with
  | 0 => .array .byte
  | _ => .byte
abbrev wsJ00 : List Cond := u_ws RJ0 TJ0 2
theorem nmJ0 : ∀ a, a < 2 → ∀ b, b < 2 → a ≠ b → (TJ0 a).2.1 ≠ (TJ0 b).2.1 := by decide +kernel
theorem tyJ0_ok : ∀ k, k < 2 → parseFieldDescriptor (TJ0 k).2.2.1 = some (tyJ0 k) := by decide +kernel
def RL : String := "CertholdLaw"
abbrev cL_makeRoot : ByteArray := method_3_code
def yL_makeRoot : MethodName := ⟨RL, "makeRoot", "(LCerthold;III[J)I"⟩
abbrev cL_issue : ByteArray := method_4_code
def yL_issue : MethodName := ⟨RL, "issue", "(LCerthold;III[J)I"⟩
abbrev cL_issueAuthority : ByteArray := method_5_code
def yL_issueAuthority : MethodName := ⟨RL, "issueAuthority", "(LCerthold;IIII[J)I"⟩
abbrev cL_cross : ByteArray := method_6_code
def yL_cross : MethodName := ⟨RL, "cross", "(LCerthold;IIII[J)I"⟩
abbrev cL_setNames : ByteArray := method_7_code
def yL_setNames : MethodName := ⟨RL, "setNames", "(LCerthold;III[J)I"⟩
abbrev cL_trust : ByteArray := method_8_code
def yL_trust : MethodName := ⟨RL, "trust", "(LCerthold;IZ[J)I"⟩
abbrev cL_revoke : ByteArray := method_9_code
def yL_revoke : MethodName := ⟨RL, "revoke", "(LCerthold;I[J)I"⟩
abbrev cL_publish : ByteArray := method_10_code
def yL_publish : MethodName := ⟨RL, "publish", "(LCerthold;I[J)I"⟩
abbrev cL_pass : ByteArray := method_11_code
def yL_pass : MethodName := ⟨RL, "pass", "(LCerthold;I[J)I"⟩
abbrev cL_nameOf : ByteArray := method_12_code
def yL_nameOf : MethodName := ⟨RL, "nameOf", "(LCerthold;I[J)I"⟩
abbrev cL_keyOf : ByteArray := method_13_code
def yL_keyOf : MethodName := ⟨RL, "keyOf", "(LCerthold;I[J)I"⟩
abbrev cL_issuerKeyOf : ByteArray := method_14_code
def yL_issuerKeyOf : MethodName := ⟨RL, "issuerKeyOf", "(LCerthold;I[J)I"⟩
abbrev cL_lastDayOf : ByteArray := method_15_code
def yL_lastDayOf : MethodName := ⟨RL, "lastDayOf", "(LCerthold;I[J)I"⟩
abbrev cL_kindOf : ByteArray := method_16_code
def yL_kindOf : MethodName := ⟨RL, "kindOf", "(LCerthold;I[J)I"⟩
abbrev cL_isBelow : ByteArray := method_17_code
def yL_isBelow : MethodName := ⟨RL, "isBelow", "(LCerthold;II[J)I"⟩
abbrev cL_isRevoked : ByteArray := method_18_code
def yL_isRevoked : MethodName := ⟨RL, "isRevoked", "(LCerthold;II[J)I"⟩
abbrev cL_isRevokedByLists : ByteArray := method_19_code
def yL_isRevokedByLists : MethodName := ⟨RL, "isRevokedByLists", "(LCerthold;II[J)I"⟩
abbrev cL_candidates : ByteArray := method_20_code
def yL_candidates : MethodName := ⟨RL, "candidates", "(LCerthold;I[J)I"⟩
abbrev cL_candidateAt : ByteArray := method_21_code
def yL_candidateAt : MethodName := ⟨RL, "candidateAt", "(LCerthold;II[J)I"⟩
abbrev cL_chainSize : ByteArray := method_22_code
def yL_chainSize : MethodName := ⟨RL, "chainSize", "(LCerthold;II[J)I"⟩
abbrev cL_chainAt : ByteArray := method_23_code
def yL_chainAt : MethodName := ⟨RL, "chainAt", "(LCerthold;III[J)I"⟩
abbrev cL_goodChains : ByteArray := method_24_code
def yL_goodChains : MethodName := ⟨RL, "goodChains", "(LCerthold;II[J)I"⟩
abbrev cL_goodChainsByWalks : ByteArray := method_25_code
def yL_goodChainsByWalks : MethodName := ⟨RL, "goodChainsByWalks", "(LCerthold;II[J)I"⟩
abbrev cL_begin : ByteArray := method_26_code
def yL_begin : MethodName := ⟨RL, "begin", "(LCerthold;II[J)I"⟩
abbrev cL_step : ByteArray := method_27_code
def yL_step : MethodName := ⟨RL, "step", "(LCerthold;I[J)I"⟩
abbrev cL_reached : ByteArray := method_28_code
def yL_reached : MethodName := ⟨RL, "reached", "(LCerthold;[J)I"⟩
abbrev cL_rootOf : ByteArray := method_29_code
def yL_rootOf : MethodName := ⟨RL, "rootOf", "(LCerthold;I[J)I"⟩
abbrev cL_rootByJoining : ByteArray := method_30_code
def yL_rootByJoining : MethodName := ⟨RL, "rootByJoining", "(LCerthold;I[J)I"⟩
abbrev cL_proofSize : ByteArray := method_31_code
def yL_proofSize : MethodName := ⟨RL, "proofSize", "(LCerthold;II[J)I"⟩
abbrev cL_proofAt : ByteArray := method_32_code
def yL_proofAt : MethodName := ⟨RL, "proofAt", "(LCerthold;III[J)I"⟩
abbrev cL_rootByProof : ByteArray := method_33_code
def yL_rootByProof : MethodName := ⟨RL, "rootByProof", "(LCerthold;II[J)I"⟩
abbrev cL_growthSize : ByteArray := method_34_code
def yL_growthSize : MethodName := ⟨RL, "growthSize", "(LCerthold;II[J)I"⟩
abbrev cL_growthAt : ByteArray := method_35_code
def yL_growthAt : MethodName := ⟨RL, "growthAt", "(LCerthold;III[J)I"⟩
abbrev cL_soundShare : ByteArray := method_36_code
def yL_soundShare : MethodName := ⟨RL, "soundShare", "(LCerthold;[D)I"⟩
abbrev cL_meanChain : ByteArray := method_37_code
def yL_meanChain : MethodName := ⟨RL, "meanChain", "(LCerthold;[D)I"⟩
abbrev cL_law : ByteArray := code
def yL_law : MethodName := ⟨RL, "law", "([I)Z"⟩
abbrev vwCl : List vw_C := [(RJ0, TJ0, 2), (RJx00060, TJx00060, 6), (RX0, TX0, 11), (RX1, TX1, 3), (RX2, TX2, 4), (RX3, TX3, 3), (RX4, TX4, 4), (RX5, TX5, 3), (RX6, TX6, 9), (RX7, TX7, 25)]
/-- the words that every method here is stated over: the tables' good ones -/
def wAll : List Cond := lw_tbl.filter goodWord
theorem wAll_ok : wAll.all goodWord = true := List.all_eq_true.mpr fun w h => (List.mem_filter.mp h).2
theorem wAll_tbl : ∀ w ∈ wAll, w ∈ lw_tbl := fun w h => (List.mem_filter.mp h).1
theorem tb1 {w : Cond} (h : w ∈ tables_1_1) : w ∈ lw_tbl := List.mem_append_right _ (List.mem_append_left _ h)
theorem in1 {w : Cond} (i : Nat) (h : tables_1_1[i]? = some w) (hg : goodWord w = true) : w ∈ wAll := List.mem_filter.mpr ⟨tb1 (List.mem_of_getElem? h), hg⟩
theorem tb2 {w : Cond} (h : w ∈ tables_1_2) : w ∈ lw_tbl := List.mem_append_right _ (List.mem_append_right _ (List.mem_append_left _ h))
theorem in2 {w : Cond} (i : Nat) (h : tables_1_2[i]? = some w) (hg : goodWord w = true) : w ∈ wAll := List.mem_filter.mpr ⟨tb2 (List.mem_of_getElem? h), hg⟩
theorem tb3 {w : Cond} (h : w ∈ tables_1_3) : w ∈ lw_tbl := List.mem_append_right _ (List.mem_append_right _ (List.mem_append_right _ (List.mem_append_left _ h)))
theorem in3 {w : Cond} (i : Nat) (h : tables_1_3[i]? = some w) (hg : goodWord w = true) : w ∈ wAll := List.mem_filter.mpr ⟨tb3 (List.mem_of_getElem? h), hg⟩
theorem tb4 {w : Cond} (h : w ∈ tables_1_4) : w ∈ lw_tbl := List.mem_append_right _ (List.mem_append_right _ (List.mem_append_right _ (List.mem_append_right _ (List.mem_append_left _ h))))
theorem in4 {w : Cond} (i : Nat) (h : tables_1_4[i]? = some w) (hg : goodWord w = true) : w ∈ wAll := List.mem_filter.mpr ⟨tb4 (List.mem_of_getElem? h), hg⟩
theorem tb5 {w : Cond} (h : w ∈ tables_1_5) : w ∈ lw_tbl := List.mem_append_right _ (List.mem_append_right _ (List.mem_append_right _ (List.mem_append_right _ (List.mem_append_right _ (List.mem_append_left _ h)))))
theorem in5 {w : Cond} (i : Nat) (h : tables_1_5[i]? = some w) (hg : goodWord w = true) : w ∈ wAll := List.mem_filter.mpr ⟨tb5 (List.mem_of_getElem? h), hg⟩
theorem tb6 {w : Cond} (h : w ∈ tables_1_6) : w ∈ lw_tbl := List.mem_append_right _ (List.mem_append_right _ (List.mem_append_right _ (List.mem_append_right _ (List.mem_append_right _ (List.mem_append_right _ (h))))))
theorem in6 {w : Cond} (i : Nat) (h : tables_1_6[i]? = some w) (hg : goodWord w = true) : w ∈ wAll := List.mem_filter.mpr ⟨tb6 (List.mem_of_getElem? h), hg⟩
theorem inP {w : Cond} (i : Nat) (h : (k2_sels lw_privs)[i]? = some w) (hg : goodWord w = true) : w ∈ wAll := List.mem_filter.mpr ⟨List.mem_append_left _ (List.mem_of_getElem? h), hg⟩
theorem iwX0 : ∀ w ∈ u_ws RX0 TX0 11, w ∈ wAll := List.forall_mem_cons.mpr ⟨(in2 102 rfl rfl), List.forall_mem_cons.mpr ⟨(in2 104 rfl rfl), List.forall_mem_cons.mpr ⟨(in2 106 rfl rfl), List.forall_mem_cons.mpr ⟨(in2 108 rfl rfl), List.forall_mem_cons.mpr ⟨(in2 110 rfl rfl), List.forall_mem_cons.mpr ⟨(in2 112 rfl rfl), List.forall_mem_cons.mpr ⟨(in2 114 rfl rfl), List.forall_mem_cons.mpr ⟨(in2 116 rfl rfl), List.forall_mem_cons.mpr ⟨(in2 118 rfl rfl), List.forall_mem_cons.mpr ⟨(in2 120 rfl rfl), List.forall_mem_cons.mpr ⟨(in2 122 rfl rfl), fun _ h => absurd h List.not_mem_nil⟩⟩⟩⟩⟩⟩⟩⟩⟩⟩⟩
theorem iwX1 : ∀ w ∈ u_ws RX1 TX1 3, w ∈ wAll := List.forall_mem_cons.mpr ⟨(in1 96 rfl rfl), List.forall_mem_cons.mpr ⟨(in1 98 rfl rfl), List.forall_mem_cons.mpr ⟨(in1 100 rfl rfl), fun _ h => absurd h List.not_mem_nil⟩⟩⟩
theorem iwX2 : ∀ w ∈ u_ws RX2 TX2 4, w ∈ wAll := List.forall_mem_cons.mpr ⟨(in2 58 rfl rfl), List.forall_mem_cons.mpr ⟨(in2 60 rfl rfl), List.forall_mem_cons.mpr ⟨(in2 62 rfl rfl), List.forall_mem_cons.mpr ⟨(in2 64 rfl rfl), fun _ h => absurd h List.not_mem_nil⟩⟩⟩⟩
theorem iwX3 : ∀ w ∈ u_ws RX3 TX3 3, w ∈ wAll := List.forall_mem_cons.mpr ⟨(in1 38 rfl rfl), List.forall_mem_cons.mpr ⟨(in1 40 rfl rfl), List.forall_mem_cons.mpr ⟨(in1 42 rfl rfl), fun _ h => absurd h List.not_mem_nil⟩⟩⟩
theorem iwX4 : ∀ w ∈ u_ws RX4 TX4 4, w ∈ wAll := List.forall_mem_cons.mpr ⟨(in1 76 rfl rfl), List.forall_mem_cons.mpr ⟨(in1 78 rfl rfl), List.forall_mem_cons.mpr ⟨(in1 80 rfl rfl), List.forall_mem_cons.mpr ⟨(in1 82 rfl rfl), fun _ h => absurd h List.not_mem_nil⟩⟩⟩⟩
theorem iwX5 : ∀ w ∈ u_ws RX5 TX5 3, w ∈ wAll := List.forall_mem_cons.mpr ⟨(in1 63 rfl rfl), List.forall_mem_cons.mpr ⟨(in1 65 rfl rfl), List.forall_mem_cons.mpr ⟨(in1 67 rfl rfl), fun _ h => absurd h List.not_mem_nil⟩⟩⟩
theorem iwX6 : ∀ w ∈ u_ws RX6 TX6 9, w ∈ wAll := List.forall_mem_cons.mpr ⟨(in1 112 rfl rfl), List.forall_mem_cons.mpr ⟨(in1 114 rfl rfl), List.forall_mem_cons.mpr ⟨(in1 116 rfl rfl), List.forall_mem_cons.mpr ⟨(in1 118 rfl rfl), List.forall_mem_cons.mpr ⟨(in1 120 rfl rfl), List.forall_mem_cons.mpr ⟨(in1 122 rfl rfl), List.forall_mem_cons.mpr ⟨(in1 124 rfl rfl), List.forall_mem_cons.mpr ⟨(in1 126 rfl rfl), List.forall_mem_cons.mpr ⟨(in1 128 rfl rfl), fun _ h => absurd h List.not_mem_nil⟩⟩⟩⟩⟩⟩⟩⟩⟩
theorem iwX7 : ∀ w ∈ u_ws RX7 TX7 25, w ∈ wAll := List.forall_mem_cons.mpr ⟨(in5 5 rfl rfl), List.forall_mem_cons.mpr ⟨(in5 7 rfl rfl), List.forall_mem_cons.mpr ⟨(in5 9 rfl rfl), List.forall_mem_cons.mpr ⟨(in5 11 rfl rfl), List.forall_mem_cons.mpr ⟨(in5 13 rfl rfl), List.forall_mem_cons.mpr ⟨(in5 15 rfl rfl), List.forall_mem_cons.mpr ⟨(in5 17 rfl rfl), List.forall_mem_cons.mpr ⟨(in5 19 rfl rfl), List.forall_mem_cons.mpr ⟨(in5 21 rfl rfl), List.forall_mem_cons.mpr ⟨(in5 23 rfl rfl), List.forall_mem_cons.mpr ⟨(in5 25 rfl rfl), List.forall_mem_cons.mpr ⟨(in5 27 rfl rfl), List.forall_mem_cons.mpr ⟨(in5 29 rfl rfl), List.forall_mem_cons.mpr ⟨(in5 31 rfl rfl), List.forall_mem_cons.mpr ⟨(in5 33 rfl rfl), List.forall_mem_cons.mpr ⟨(in5 35 rfl rfl), List.forall_mem_cons.mpr ⟨(in5 37 rfl rfl), List.forall_mem_cons.mpr ⟨(in5 39 rfl rfl), List.forall_mem_cons.mpr ⟨(in5 41 rfl rfl), List.forall_mem_cons.mpr ⟨(in5 43 rfl rfl), List.forall_mem_cons.mpr ⟨(in5 45 rfl rfl), List.forall_mem_cons.mpr ⟨(in5 47 rfl rfl), List.forall_mem_cons.mpr ⟨(in5 49 rfl rfl), List.forall_mem_cons.mpr ⟨(in5 51 rfl rfl), List.forall_mem_cons.mpr ⟨(in5 53 rfl rfl), fun _ h => absurd h List.not_mem_nil⟩⟩⟩⟩⟩⟩⟩⟩⟩⟩⟩⟩⟩⟩⟩⟩⟩⟩⟩⟩⟩⟩⟩⟩⟩
/-- a field's word: class C (number ci), field k, at the place index of own's pool -/
def GF (own : String) (index ci k : Nat) (C : String) (T : u_T) (N : Nat) : Prop := (∀ w ∈ u_ws C T N, w ∈ wAll) ∧ vwCl[ci]? = some (C, T, N) ∧ Cond.fieldLink own index (T k).1 (T k).2.1 (T k).2.2.1 ∈ wAll ∧ k < N
def PF (T : u_T) (N k : Nat) (ty0 : Nat → FieldType) (ty : FieldType) : Prop := (∀ k, k < N → parseFieldDescriptor (T k).2.2.1 = some (ty0 k)) ∧ (∀ a, a < N → ∀ b, b < N → a ≠ b → (T a).2.1 ≠ (T b).2.1) ∧ parseFieldDescriptor (T k).2.2.1 = some ty
def HD (y : MethodName) (n : Nat) : Prop := y.cls ≠ "java/lang/invoke/MethodHandle" ∧ y.cls ≠ "java/lang/invoke/VarHandle" ∧ (parseMethodDescriptor y.desc).map (fun d => d.parameters.length) = some n
/-- what a call instruction's words are: virtual, static, constructor, static of the nest's host, static with handlers -/
def VW (own : String) (idx : Nat) (y : MethodName) (bytes : ByteArray) (maxL : Nat) (ret : Option FieldType) (n : Nat) : Prop := Cond.methodLink own idx y ∈ wAll ∧ Cond.instanceMethod y ∈ wAll ∧ Cond.selects y.cls y y ∈ wAll ∧ Cond.initialized y.cls ∈ wAll ∧ Cond.code y bytes maxL ret ∈ wAll ∧ HD y n
def SW (own : String) (idx : Nat) (y : MethodName) (bytes : ByteArray) (maxL : Nat) (ret : Option FieldType) (n : Nat) : Prop := Cond.methodLink own idx y ∈ wAll ∧ Cond.static y ∈ wAll ∧ Cond.initialized y.cls ∈ wAll ∧ Cond.code y bytes maxL ret ∈ wAll ∧ HD y n
def CW (own : String) (idx : Nat) (y : MethodName) (bytes : ByteArray) (maxL : Nat) (n : Nat) : Prop := Cond.methodLink own idx y ∈ wAll ∧ Cond.instanceMethod y ∈ wAll ∧ Cond.initialized y.cls ∈ wAll ∧ Cond.code y bytes maxL none ∈ wAll ∧ HD y n ∧ y.name = "<init>"
def NW (own : String) (idx : Nat) (y : MethodName) (host : String) (bytes : ByteArray) (maxL : Nat) (ret : Option FieldType) (n : Nat) : Prop := Cond.methodLinkNest own idx y host ∈ lw_tbl ∧ Cond.static y ∈ wAll ∧ Cond.initialized y.cls ∈ wAll ∧ Cond.code y bytes maxL ret ∈ wAll ∧ HD y n
def HW (own : String) (idx : Nat) (y : MethodName) (bytes : ByteArray) (maxL : Nat) (ret : Option FieldType) (hh : List (Nat × Nat × Nat × Nat)) (n : Nat) : Prop := Cond.methodLink own idx y ∈ wAll ∧ Cond.static y ∈ wAll ∧ Cond.initialized y.cls ∈ wAll ∧ Cond.codeWith y bytes maxL ret hh ∈ wAll ∧ HD y n
theorem zL : Cond.initialized "CertholdLaw" ∈ wAll := (in1 0 rfl rfl)
theorem zX6 : Cond.initialized "Certhold" ∈ wAll := (in1 1 rfl rfl)
theorem zX3 : Cond.initialized "Certhold$Lists" ∈ wAll := (in1 2 rfl rfl)
theorem zX4 : Cond.initialized "Certhold$Log" ∈ wAll := (in1 3 rfl rfl)
theorem zX5 : Cond.initialized "Certhold$Proof" ∈ wAll := (in1 4 rfl rfl)
theorem zX1 : Cond.initialized "Certhold$Chain" ∈ wAll := (in1 5 rfl rfl)
theorem zX7 : Cond.initialized "CertholdModel" ∈ wAll := (in1 6 rfl rfl)
theorem zjava_lang_Throwable : Cond.initialized "java/lang/Throwable" ∈ wAll := (in1 7 rfl rfl)
theorem zjava_lang_Exception : Cond.initialized "java/lang/Exception" ∈ wAll := (in1 8 rfl rfl)
theorem zjava_lang_RuntimeException : Cond.initialized "java/lang/RuntimeException" ∈ wAll := (in1 9 rfl rfl)
theorem zjava_lang_IllegalArgumentException : Cond.initialized "java/lang/IllegalArgumentException" ∈ wAll := (in1 10 rfl rfl)
theorem zjava_lang_IllegalStateException : Cond.initialized "java/lang/IllegalStateException" ∈ wAll := (in1 11 rfl rfl)
theorem zX2 : Cond.initialized "Certhold$Holder" ∈ wAll := (in1 12 rfl rfl)
theorem zX0 : Cond.initialized "Certhold$Certificate" ∈ wAll := (in1 13 rfl rfl)
theorem zjava_util_NoSuchElementException : Cond.initialized "java/util/NoSuchElementException" ∈ wAll := (in1 14 rfl rfl)
theorem zjava_lang_IndexOutOfBoundsException : Cond.initialized "java/lang/IndexOutOfBoundsException" ∈ wAll := (in1 15 rfl rfl)
theorem zjava_lang_ArrayIndexOutOfBoundsException : Cond.initialized "java/lang/ArrayIndexOutOfBoundsException" ∈ wAll := (in1 16 rfl rfl)
theorem zjava_lang_String : Cond.initialized "java/lang/String" ∈ wAll := (in1 17 rfl rfl)
theorem zjava_lang_ArithmeticException : Cond.initialized "java/lang/ArithmeticException" ∈ wAll := (in1 18 rfl rfl)
theorem lL_8 : Cond.classLink RL 8 "Certhold" ∈ wAll := (in1 19 rfl rfl)
theorem nX6 : Cond.instantiable "Certhold" 9 ∈ wAll := (in1 20 rfl rfl)
theorem kL_138 : CW RL 138 yX6_init cX6_init 1 0 := ⟨(in1 21 rfl rfl), (in1 22 rfl rfl), (in1 1 rfl rfl), (in1 23 rfl rfl), ⟨by decide, by decide, by decide +kernel⟩, rfl⟩
theorem oX6_3 : Cond.methodLink RX6 3 Lib.objectInit ∈ wAll := (in1 24 rfl rfl)
theorem lX6_9 : Cond.classLink RX6 9 "Certhold$Certificate" ∈ wAll := (in1 27 rfl rfl)
theorem lX6_15 : Cond.classLink RX6 15 "Certhold$Lists" ∈ wAll := (in1 29 rfl rfl)
theorem nX3 : Cond.instantiable "Certhold$Lists" 3 ∈ wAll := (in1 30 rfl rfl)
theorem kX6_17 : CW RX6 17 yX3_init cX3_init 1 0 := ⟨(in1 31 rfl rfl), (in1 32 rfl rfl), (in1 2 rfl rfl), (in1 33 rfl rfl), ⟨by decide, by decide, by decide +kernel⟩, rfl⟩
theorem oX3_3 : Cond.methodLink RX3 3 Lib.objectInit ∈ wAll := (in1 34 rfl rfl)
theorem fX3_9 : GF RX3 9 5 0 RX3 TX3 3 := ⟨iwX3, rfl, (in1 35 rfl rfl), by decide⟩
theorem fX3_15 : GF RX3 15 5 1 RX3 TX3 3 := ⟨iwX3, rfl, (in1 36 rfl rfl), by decide⟩
theorem fX3_19 : GF RX3 19 5 2 RX3 TX3 3 := ⟨iwX3, rfl, (in1 37 rfl rfl), by decide⟩
theorem ac45 : Cond.arrayClass Jvm.ClassFile.FieldType.int ∈ wAll := (in1 45 rfl rfl)
theorem ac46 : Cond.arrayClass Jvm.ClassFile.FieldType.long ∈ wAll := (in1 46 rfl rfl)
theorem lX6_22 : Cond.classLink RX6 22 "Certhold$Log" ∈ wAll := (in1 47 rfl rfl)
theorem nX4 : Cond.instantiable "Certhold$Log" 4 ∈ wAll := (in1 48 rfl rfl)
theorem kX6_24 : CW RX6 24 yX4_init cX4_init 1 0 := ⟨(in1 49 rfl rfl), (in1 50 rfl rfl), (in1 3 rfl rfl), (in1 51 rfl rfl), ⟨by decide, by decide, by decide +kernel⟩, rfl⟩
theorem oX4_3 : Cond.methodLink RX4 3 Lib.objectInit ∈ wAll := (in1 52 rfl rfl)
theorem lX4_18 : Cond.classLink RX4 18 "Certhold$Proof" ∈ wAll := (in1 53 rfl rfl)
theorem nX5 : Cond.instantiable "Certhold$Proof" 3 ∈ wAll := (in1 54 rfl rfl)
theorem kX4_20 : CW RX4 20 yX5_init cX5_init 1 0 := ⟨(in1 55 rfl rfl), (in1 56 rfl rfl), (in1 4 rfl rfl), (in1 57 rfl rfl), ⟨by decide, by decide, by decide +kernel⟩, rfl⟩
theorem oX5_1 : Cond.methodLink RX5 1 Lib.objectInit ∈ wAll := (in1 58 rfl rfl)
theorem fX5_9 : GF RX5 9 7 0 RX5 TX5 3 := ⟨iwX5, rfl, (in1 59 rfl rfl), by decide⟩
theorem fX5_13 : GF RX5 13 7 1 RX5 TX5 3 := ⟨iwX5, rfl, (in1 60 rfl rfl), by decide⟩
theorem fX5_17 : GF RX5 17 7 2 RX5 TX5 3 := ⟨iwX5, rfl, (in1 61 rfl rfl), by decide⟩
theorem fX6_246 : GF RX6 246 7 2 RX5 TX5 3 := ⟨iwX5, rfl, (in1 62 rfl rfl), by decide⟩
theorem ac70 : Cond.arrayClass Jvm.ClassFile.FieldType.boolean ∈ wAll := (in1 70 rfl rfl)
theorem fX4_9 : GF RX4 9 6 0 RX4 TX4 4 := ⟨iwX4, rfl, (in1 71 rfl rfl), by decide⟩
theorem fX4_15 : GF RX4 15 6 1 RX4 TX4 4 := ⟨iwX4, rfl, (in1 72 rfl rfl), by decide⟩
theorem fX4_21 : GF RX4 21 6 2 RX4 TX4 4 := ⟨iwX4, rfl, (in1 73 rfl rfl), by decide⟩
theorem fX4_25 : GF RX4 25 6 3 RX4 TX4 4 := ⟨iwX4, rfl, (in1 74 rfl rfl), by decide⟩
theorem fX6_309 : GF RX6 309 6 3 RX4 TX4 4 := ⟨iwX4, rfl, (in1 75 rfl rfl), by decide⟩
theorem lX6_29 : Cond.classLink RX6 29 "Certhold$Chain" ∈ wAll := (in1 85 rfl rfl)
theorem nX1 : Cond.instantiable "Certhold$Chain" 3 ∈ wAll := (in1 86 rfl rfl)
theorem kX6_31 : CW RX6 31 yX1_init cX1_init 1 0 := ⟨(in1 87 rfl rfl), (in1 88 rfl rfl), (in1 5 rfl rfl), (in1 89 rfl rfl), ⟨by decide, by decide, by decide +kernel⟩, rfl⟩
theorem oX1_3 : Cond.methodLink RX1 3 Lib.objectInit ∈ wAll := (in1 90 rfl rfl)
theorem lX1_9 : Cond.classLink RX1 9 "Certhold$Certificate" ∈ wAll := (in1 91 rfl rfl)
theorem fX1_11 : GF RX1 11 3 0 RX1 TX1 3 := ⟨iwX1, rfl, (in1 92 rfl rfl), by decide⟩
theorem fX1_17 : GF RX1 17 3 1 RX1 TX1 3 := ⟨iwX1, rfl, (in1 93 rfl rfl), by decide⟩
theorem fX6_225 : GF RX6 225 3 1 RX1 TX1 3 := ⟨iwX1, rfl, (in1 94 rfl rfl), by decide⟩
theorem fX1_21 : GF RX1 21 3 2 RX1 TX1 3 := ⟨iwX1, rfl, (in1 95 rfl rfl), by decide⟩
theorem fX6_11 : GF RX6 11 8 0 RX6 TX6 9 := ⟨iwX6, rfl, (in1 103 rfl rfl), by decide⟩
theorem fX6_18 : GF RX6 18 8 1 RX6 TX6 9 := ⟨iwX6, rfl, (in1 104 rfl rfl), by decide⟩
theorem fX6_25 : GF RX6 25 8 2 RX6 TX6 9 := ⟨iwX6, rfl, (in1 105 rfl rfl), by decide⟩
theorem fX6_32 : GF RX6 32 8 3 RX6 TX6 9 := ⟨iwX6, rfl, (in1 106 rfl rfl), by decide⟩
theorem fX6_36 : GF RX6 36 8 4 RX6 TX6 9 := ⟨iwX6, rfl, (in1 107 rfl rfl), by decide⟩
theorem fX6_39 : GF RX6 39 8 5 RX6 TX6 9 := ⟨iwX6, rfl, (in1 108 rfl rfl), by decide⟩
theorem fX6_42 : GF RX6 42 8 6 RX6 TX6 9 := ⟨iwX6, rfl, (in1 109 rfl rfl), by decide⟩
theorem fX6_46 : GF RX6 46 8 7 RX6 TX6 9 := ⟨iwX6, rfl, (in1 110 rfl rfl), by decide⟩
theorem fX6_49 : GF RX6 49 8 8 RX6 TX6 9 := ⟨iwX6, rfl, (in1 111 rfl rfl), by decide⟩
theorem kL_178 : VW RL 178 yX6_day cX6_day 1 (some .int) 0 := ⟨(in1 131 rfl rfl), (in1 132 rfl rfl), (in1 133 rfl rfl), (in1 1 rfl rfl), (in1 134 rfl rfl), ⟨by decide, by decide, by decide +kernel⟩⟩
theorem kL_182 : VW RL 182 yX6_certificates cX6_certificates 1 (some .int) 0 := ⟨(in1 135 rfl rfl), (in1 136 rfl rfl), (in1 137 rfl rfl), (in1 1 rfl rfl), (in1 138 rfl rfl), ⟨by decide, by decide, by decide +kernel⟩⟩
theorem kL_239 : VW RL 239 yX6_walked cX6_walked 1 (some .int) 0 := ⟨(in1 139 rfl rfl), (in1 140 rfl rfl), (in1 141 rfl rfl), (in1 1 rfl rfl), (in1 142 rfl rfl), ⟨by decide, by decide, by decide +kernel⟩⟩
theorem kL_243 : VW RL 243 yX6_isThrough cX6_isThrough 1 (some .boolean) 0 := ⟨(in1 143 rfl rfl), (in1 144 rfl rfl), (in1 145 rfl rfl), (in1 1 rfl rfl), (in1 146 rfl rfl), ⟨by decide, by decide, by decide +kernel⟩⟩
theorem kX6_228 : VW RX6 228 yX1_endsInTrust cX1_endsInTrust 2 (some .boolean) 0 := ⟨(in1 147 rfl rfl), (in1 148 rfl rfl), (in1 149 rfl rfl), (in1 5 rfl rfl), (in1 150 rfl rfl), ⟨by decide, by decide, by decide +kernel⟩⟩
theorem kX1_32 : VW RX1 32 yX1_last cX1_last 1 (some (.object "Certhold$Certificate")) 0 := ⟨(in1 151 rfl rfl), (in1 152 rfl rfl), (in1 153 rfl rfl), (in1 5 rfl rfl), (in1 154 rfl rfl), ⟨by decide, by decide, by decide +kernel⟩⟩
theorem kX1_28 : VW RX1 28 yX1_at cX1_at 2 (some (.object "Certhold$Certificate")) 1 := ⟨(in1 155 rfl rfl), (in1 156 rfl rfl), (in1 157 rfl rfl), (in1 5 rfl rfl), (in1 158 rfl rfl), ⟨by decide, by decide, by decide +kernel⟩⟩
theorem kX1_36 : VW RX1 36 yX0_isRoot cX0_isRoot 1 (some .boolean) 0 := ⟨(in1 159 rfl rfl), (in1 160 rfl rfl), (in1 161 rfl rfl), (in1 13 rfl rfl), (in1 162 rfl rfl), ⟨by decide, by decide, by decide +kernel⟩⟩
theorem kL_142 : HW RL 142 yL_makeRoot cL_makeRoot 6 (some .int) [(0, 12, 15, 13), (0, 12, 19, 15)] 5 := ⟨(in1 163 rfl rfl), (in1 164 rfl rfl), (in1 0 rfl rfl), (in1 165 rfl rfl), ⟨by decide, by decide, by decide +kernel⟩⟩
theorem lL_13 : Cond.classLink RL 13 "java/lang/IllegalArgumentException" ∈ wAll := (in1 166 rfl rfl)
theorem lL_15 : Cond.classLink RL 15 "java/lang/IllegalStateException" ∈ wAll := (in1 167 rfl rfl)
theorem kL_7 : VW RL 7 yX6_makeRoot cX6_makeRoot 5 (some .int) 3 := ⟨(in1 168 rfl rfl), (in1 169 rfl rfl), (in1 170 rfl rfl), (in1 1 rfl rfl), (in1 171 rfl rfl), ⟨by decide, by decide, by decide +kernel⟩⟩
theorem kX6_52 : SW RX6 52 yX6_requireName cX6_requireName 1 none 1 := ⟨(in1 172 rfl rfl), (in1 173 rfl rfl), (in1 1 rfl rfl), (in1 174 rfl rfl), ⟨by decide, by decide, by decide +kernel⟩⟩
theorem kX6_291 : SW RX6 291 yX6_isName cX6_isName 2 (some .boolean) 1 := ⟨(in1 175 rfl rfl), (in1 176 rfl rfl), (in1 1 rfl rfl), (in1 177 rfl rfl), ⟨by decide, by decide, by decide +kernel⟩⟩
theorem lX6_294 : Cond.classLink RX6 294 "java/lang/IllegalArgumentException" ∈ wAll := (in1 178 rfl rfl)
theorem njava_lang_IllegalArgumentException : Cond.instantiable "java/lang/IllegalArgumentException" 6 ∈ wAll := (in1 179 rfl rfl)
theorem njava_lang_Throwable : Cond.instantiable "java/lang/Throwable" 6 ∈ wAll := (in1 220 rfl rfl)
theorem ac8 : Cond.arrayClass Jvm.ClassFile.FieldType.byte ∈ wAll := (in2 8 rfl rfl)
theorem kX6_56 : SW RX6 56 yX6_requireDays cX6_requireDays 1 none 1 := ⟨(in2 9 rfl rfl), (in2 10 rfl rfl), (in1 1 rfl rfl), (in2 11 rfl rfl), ⟨by decide, by decide, by decide +kernel⟩⟩
theorem kX6_59 : SW RX6 59 yX6_requireLength cX6_requireLength 1 none 1 := ⟨(in2 13 rfl rfl), (in2 14 rfl rfl), (in1 1 rfl rfl), (in2 15 rfl rfl), ⟨by decide, by decide, by decide +kernel⟩⟩
theorem kX6_62 : VW RX6 62 yX6_requireRoom cX6_requireRoom 1 none 0 := ⟨(in2 17 rfl rfl), (in2 19 rfl rfl), (inP 1 rfl rfl), (in1 1 rfl rfl), (in2 20 rfl rfl), ⟨by decide, by decide, by decide +kernel⟩⟩
theorem lX6_85 : Cond.classLink RX6 85 "java/lang/IllegalStateException" ∈ wAll := (in2 21 rfl rfl)
theorem njava_lang_IllegalStateException : Cond.instantiable "java/lang/IllegalStateException" 6 ∈ wAll := (in2 22 rfl rfl)
theorem kX6_65 : VW RX6 65 yX6_newHolder cX6_newHolder 2 (some (.object "Certhold$Holder")) 1 := ⟨(in2 37 rfl rfl), (in2 39 rfl rfl), (inP 2 rfl rfl), (in1 1 rfl rfl), (in2 40 rfl rfl), ⟨by decide, by decide, by decide +kernel⟩⟩
theorem lX6_93 : Cond.classLink RX6 93 "Certhold$Holder" ∈ wAll := (in2 41 rfl rfl)
theorem nX2 : Cond.instantiable "Certhold$Holder" 4 ∈ wAll := (in2 42 rfl rfl)
theorem kX6_312 : CW RX6 312 yX2_init cX2_init 3 2 := ⟨(in2 43 rfl rfl), (in2 44 rfl rfl), (in1 12 rfl rfl), (in2 45 rfl rfl), ⟨by decide, by decide, by decide +kernel⟩, rfl⟩
theorem oX2_3 : Cond.methodLink RX2 3 Lib.objectInit ∈ wAll := (in2 46 rfl rfl)
theorem lX2_18 : Cond.classLink RX2 18 "Certhold$Certificate" ∈ wAll := (in2 47 rfl rfl)
theorem fX2_9 : GF RX2 9 4 0 RX2 TX2 4 := ⟨iwX2, rfl, (in2 48 rfl rfl), by decide⟩
theorem fX4_42 : GF RX4 42 4 0 RX2 TX2 4 := ⟨iwX2, rfl, (in2 49 rfl rfl), by decide⟩
theorem fX6_150 : GF RX6 150 4 0 RX2 TX2 4 := ⟨iwX2, rfl, (in2 50 rfl rfl), by decide⟩
theorem fX1_71 : GF RX1 71 4 0 RX2 TX2 4 := ⟨iwX2, rfl, (in2 51 rfl rfl), by decide⟩
theorem fX2_15 : GF RX2 15 4 1 RX2 TX2 4 := ⟨iwX2, rfl, (in2 52 rfl rfl), by decide⟩
theorem fX4_49 : GF RX4 49 4 1 RX2 TX2 4 := ⟨iwX2, rfl, (in2 53 rfl rfl), by decide⟩
theorem fX6_153 : GF RX6 153 4 1 RX2 TX2 4 := ⟨iwX2, rfl, (in2 54 rfl rfl), by decide⟩
theorem fX2_20 : GF RX2 20 4 2 RX2 TX2 4 := ⟨iwX2, rfl, (in2 55 rfl rfl), by decide⟩
theorem fX0_58 : GF RX0 58 4 2 RX2 TX2 4 := ⟨iwX2, rfl, (in2 56 rfl rfl), by decide⟩
theorem fX2_24 : GF RX2 24 4 3 RX2 TX2 4 := ⟨iwX2, rfl, (in2 57 rfl rfl), by decide⟩
theorem kX6_69 : VW RX6 69 yX6_enter cX6_enter 8 (some .int) 4 := ⟨(in2 67 rfl rfl), (in2 69 rfl rfl), (inP 3 rfl rfl), (in1 1 rfl rfl), (in2 70 rfl rfl), ⟨by decide, by decide, by decide +kernel⟩⟩
theorem nX0 : Cond.instantiable "Certhold$Certificate" 11 ∈ wAll := (in2 71 rfl rfl)
theorem kX6_315 : CW RX6 315 yX0_init cX0_init 7 6 := ⟨(in2 72 rfl rfl), (in2 73 rfl rfl), (in1 13 rfl rfl), (in2 74 rfl rfl), ⟨by decide, by decide, by decide +kernel⟩, rfl⟩
theorem oX0_3 : Cond.methodLink RX0 3 Lib.objectInit ∈ wAll := (in2 75 rfl rfl)
theorem fX0_9 : GF RX0 9 2 0 RX0 TX0 11 := ⟨iwX0, rfl, (in2 76 rfl rfl), by decide⟩
theorem fX4_31 : GF RX4 31 2 0 RX0 TX0 11 := ⟨iwX0, rfl, (in2 77 rfl rfl), by decide⟩
theorem fX6_173 : GF RX6 173 2 0 RX0 TX0 11 := ⟨iwX0, rfl, (in2 78 rfl rfl), by decide⟩
theorem fX0_15 : GF RX0 15 2 1 RX0 TX0 11 := ⟨iwX0, rfl, (in2 79 rfl rfl), by decide⟩
theorem fX4_38 : GF RX4 38 2 1 RX0 TX0 11 := ⟨iwX0, rfl, (in2 80 rfl rfl), by decide⟩
theorem fX6_81 : GF RX6 81 2 1 RX0 TX0 11 := ⟨iwX0, rfl, (in2 81 rfl rfl), by decide⟩
theorem fX1_67 : GF RX1 67 2 1 RX0 TX0 11 := ⟨iwX0, rfl, (in2 82 rfl rfl), by decide⟩
theorem fX0_19 : GF RX0 19 2 2 RX0 TX0 11 := ⟨iwX0, rfl, (in2 83 rfl rfl), by decide⟩
theorem fX4_54 : GF RX4 54 2 2 RX0 TX0 11 := ⟨iwX0, rfl, (in2 84 rfl rfl), by decide⟩
theorem fX6_135 : GF RX6 135 2 2 RX0 TX0 11 := ⟨iwX0, rfl, (in2 85 rfl rfl), by decide⟩
theorem fX0_22 : GF RX0 22 2 3 RX0 TX0 11 := ⟨iwX0, rfl, (in2 86 rfl rfl), by decide⟩
theorem fX0_25 : GF RX0 25 2 4 RX0 TX0 11 := ⟨iwX0, rfl, (in2 87 rfl rfl), by decide⟩
theorem fX6_156 : GF RX6 156 2 4 RX0 TX0 11 := ⟨iwX0, rfl, (in2 88 rfl rfl), by decide⟩
theorem fX0_28 : GF RX0 28 2 5 RX0 TX0 11 := ⟨iwX0, rfl, (in2 89 rfl rfl), by decide⟩
theorem fX1_54 : GF RX1 54 2 5 RX0 TX0 11 := ⟨iwX0, rfl, (in2 90 rfl rfl), by decide⟩
theorem fX0_31 : GF RX0 31 2 6 RX0 TX0 11 := ⟨iwX0, rfl, (in2 91 rfl rfl), by decide⟩
theorem fX6_109 : GF RX6 109 2 6 RX0 TX0 11 := ⟨iwX0, rfl, (in2 92 rfl rfl), by decide⟩
theorem fX0_34 : GF RX0 34 2 7 RX0 TX0 11 := ⟨iwX0, rfl, (in2 93 rfl rfl), by decide⟩
theorem fX6_112 : GF RX6 112 2 7 RX0 TX0 11 := ⟨iwX0, rfl, (in2 94 rfl rfl), by decide⟩
theorem fX0_37 : GF RX0 37 2 8 RX0 TX0 11 := ⟨iwX0, rfl, (in2 95 rfl rfl), by decide⟩
theorem fX6_120 : GF RX6 120 2 8 RX0 TX0 11 := ⟨iwX0, rfl, (in2 96 rfl rfl), by decide⟩
theorem fX1_40 : GF RX1 40 2 8 RX0 TX0 11 := ⟨iwX0, rfl, (in2 97 rfl rfl), by decide⟩
theorem fX0_41 : GF RX0 41 2 9 RX0 TX0 11 := ⟨iwX0, rfl, (in2 98 rfl rfl), by decide⟩
theorem fX6_130 : GF RX6 130 2 9 RX0 TX0 11 := ⟨iwX0, rfl, (in2 99 rfl rfl), by decide⟩
theorem fX0_44 : GF RX0 44 2 10 RX0 TX0 11 := ⟨iwX0, rfl, (in2 100 rfl rfl), by decide⟩
theorem fX6_271 : GF RX6 271 2 10 RX0 TX0 11 := ⟨iwX0, rfl, (in2 101 rfl rfl), by decide⟩
theorem kX6_318 : VW RX6 318 yX2_receive cX2_receive 2 none 1 := ⟨(in2 125 rfl rfl), (in2 126 rfl rfl), (in2 127 rfl rfl), (in1 12 rfl rfl), (in2 128 rfl rfl), ⟨by decide, by decide, by decide +kernel⟩⟩
theorem kX6_321 : VW RX6 321 yX4_append cX4_append 2 none 1 := ⟨(in2 129 rfl rfl), (in2 130 rfl rfl), (in2 131 rfl rfl), (in1 3 rfl rfl), (in2 132 rfl rfl), ⟨by decide, by decide, by decide +kernel⟩⟩
theorem cX4_29 : Cond.constantLong RX4 29 131 ∈ wAll := (in2 133 rfl rfl)
theorem cX4_36 : Cond.constantLong RX4 36 8191 ∈ wAll := (in2 134 rfl rfl)
theorem cX4_47 : Cond.constantLong RX4 47 127 ∈ wAll := (in2 135 rfl rfl)
theorem cX4_52 : Cond.constantLong RX4 52 65537 ∈ wAll := (in2 136 rfl rfl)
theorem cX4_57 : Cond.constantLong RX4 57 11 ∈ wAll := (in2 137 rfl rfl)
theorem cX4_59 : Cond.constantLong RX4 59 1000000007 ∈ wAll := (in2 138 rfl rfl)
theorem kL_151 : HW RL 151 yL_issue cL_issue 6 (some .int) [(0, 12, 15, 20), (0, 12, 19, 13), (0, 12, 23, 15)] 5 := ⟨(in2 139 rfl rfl), (in2 140 rfl rfl), (in1 0 rfl rfl), (in2 141 rfl rfl), ⟨by decide, by decide, by decide +kernel⟩⟩
theorem lL_20 : Cond.classLink RL 20 "java/util/NoSuchElementException" ∈ wAll := (in2 142 rfl rfl)
theorem kL_17 : VW RL 17 yX6_issue cX6_issue 5 (some .int) 3 := ⟨(in2 143 rfl rfl), (in2 144 rfl rfl), (in2 145 rfl rfl), (in1 1 rfl rfl), (in2 146 rfl rfl), ⟨by decide, by decide, by decide +kernel⟩⟩
theorem kX6_73 : VW RX6 73 yX6_find cX6_find 3 (some (.object "Certhold$Certificate")) 1 := ⟨(in2 147 rfl rfl), (in2 149 rfl rfl), (inP 4 rfl rfl), (in1 1 rfl rfl), (in2 150 rfl rfl), ⟨by decide, by decide, by decide +kernel⟩⟩
theorem lX6_276 : Cond.classLink RX6 276 "java/util/NoSuchElementException" ∈ wAll := (in2 151 rfl rfl)
theorem njava_util_NoSuchElementException : Cond.instantiable "java/util/NoSuchElementException" 6 ∈ wAll := (in2 152 rfl rfl)
theorem kX6_77 : SW RX6 77 yX6_requireAuthority cX6_requireAuthority 1 none 1 := ⟨(in2 167 rfl rfl), (in2 168 rfl rfl), (in1 1 rfl rfl), (in2 169 rfl rfl), ⟨by decide, by decide, by decide +kernel⟩⟩
theorem kX6_159 : VW RX6 159 yX0_isAuthority cX0_isAuthority 1 (some .boolean) 0 := ⟨(in2 170 rfl rfl), (in2 171 rfl rfl), (in2 172 rfl rfl), (in1 13 rfl rfl), (in2 173 rfl rfl), ⟨by decide, by decide, by decide +kernel⟩⟩
theorem kL_154 : HW RL 154 yL_issueAuthority cL_issueAuthority 7 (some .int) [(0, 14, 17, 20), (0, 14, 21, 13), (0, 14, 25, 15)] 6 := ⟨(in2 175 rfl rfl), (in2 176 rfl rfl), (in1 0 rfl rfl), (in2 177 rfl rfl), ⟨by decide, by decide, by decide +kernel⟩⟩
theorem kL_22 : VW RL 22 yX6_issueAuthority cX6_issueAuthority 6 (some .int) 4 := ⟨(in2 178 rfl rfl), (in2 179 rfl rfl), (in2 180 rfl rfl), (in1 1 rfl rfl), (in2 181 rfl rfl), ⟨by decide, by decide, by decide +kernel⟩⟩
theorem kL_158 : HW RL 158 yL_cross cL_cross 7 (some .int) [(0, 14, 17, 20), (0, 14, 21, 13), (0, 14, 25, 15)] 6 := ⟨(in2 182 rfl rfl), (in2 183 rfl rfl), (in1 0 rfl rfl), (in2 184 rfl rfl), ⟨by decide, by decide, by decide +kernel⟩⟩
theorem kL_26 : VW RL 26 yX6_cross cX6_cross 7 (some .int) 4 := ⟨(in2 185 rfl rfl), (in2 186 rfl rfl), (in2 187 rfl rfl), (in1 1 rfl rfl), (in2 188 rfl rfl), ⟨by decide, by decide, by decide +kernel⟩⟩
theorem kX6_92 : VW RX6 92 yX2_isFull cX2_isFull 1 (some .boolean) 0 := ⟨(in2 190 rfl rfl), (in2 191 rfl rfl), (in2 192 rfl rfl), (in1 12 rfl rfl), (in2 193 rfl rfl), ⟨by decide, by decide, by decide +kernel⟩⟩
theorem kL_161 : HW RL 161 yL_setNames cL_setNames 6 (some .int) [(0, 12, 15, 20), (0, 12, 19, 13), (0, 12, 23, 15)] 5 := ⟨(in2 195 rfl rfl), (in2 196 rfl rfl), (in1 0 rfl rfl), (in2 197 rfl rfl), ⟨by decide, by decide, by decide +kernel⟩⟩
theorem kL_29 : VW RL 29 yX6_setNames cX6_setNames 5 (some .int) 3 := ⟨(in2 198 rfl rfl), (in2 199 rfl rfl), (in2 200 rfl rfl), (in1 1 rfl rfl), (in2 201 rfl rfl), ⟨by decide, by decide, by decide +kernel⟩⟩
theorem kX6_100 : SW RX6 100 yX6_requireNameOrNone cX6_requireNameOrNone 1 none 1 := ⟨(in2 202 rfl rfl), (in2 203 rfl rfl), (in1 1 rfl rfl), (in2 204 rfl rfl), ⟨by decide, by decide, by decide +kernel⟩⟩
theorem kX6_103 : VW RX6 103 yX6_hasIssued cX6_hasIssued 6 (some .boolean) 1 := ⟨(in2 205 rfl rfl), (in2 207 rfl rfl), (inP 5 rfl rfl), (in1 1 rfl rfl), (in2 208 rfl rfl), ⟨by decide, by decide, by decide +kernel⟩⟩
theorem kX6_115 : VW RX6 115 yX0_isRoot cX0_isRoot 1 (some .boolean) 0 := ⟨(in2 209 rfl rfl), (in1 160 rfl rfl), (in1 161 rfl rfl), (in1 13 rfl rfl), (in1 162 rfl rfl), ⟨by decide, by decide, by decide +kernel⟩⟩
theorem kL_164 : HW RL 164 yL_trust cL_trust 5 (some .int) [(0, 10, 13, 20), (0, 10, 17, 15)] 4 := ⟨(in2 211 rfl rfl), (in2 212 rfl rfl), (in1 0 rfl rfl), (in2 213 rfl rfl), ⟨by decide, by decide, by decide +kernel⟩⟩
theorem kL_32 : VW RL 32 yX6_trust cX6_trust 4 (some .int) 2 := ⟨(in2 214 rfl rfl), (in2 215 rfl rfl), (in2 216 rfl rfl), (in1 1 rfl rfl), (in2 217 rfl rfl), ⟨by decide, by decide, by decide +kernel⟩⟩
theorem kX6_124 : VW RX6 124 yX6_trustedRoots cX6_trustedRoots 6 (some .int) 0 := ⟨(in2 219 rfl rfl), (in2 221 rfl rfl), (inP 6 rfl rfl), (in1 1 rfl rfl), (in2 222 rfl rfl), ⟨by decide, by decide, by decide +kernel⟩⟩
theorem kL_168 : HW RL 168 yL_revoke cL_revoke 4 (some .int) [(0, 9, 12, 20), (0, 9, 15, 15)] 3 := ⟨(in2 223 rfl rfl), (in2 224 rfl rfl), (in1 0 rfl rfl), (in2 225 rfl rfl), ⟨by decide, by decide, by decide +kernel⟩⟩
theorem kL_36 : VW RL 36 yX6_revoke cX6_revoke 3 (some .int) 1 := ⟨(in2 226 rfl rfl), (in2 227 rfl rfl), (in2 228 rfl rfl), (in1 1 rfl rfl), (in2 229 rfl rfl), ⟨by decide, by decide, by decide +kernel⟩⟩
theorem kX6_138 : VW RX6 138 yX6_pendingOf cX6_pendingOf 7 (some .int) 1 := ⟨(in2 232 rfl rfl), (in2 234 rfl rfl), (inP 7 rfl rfl), (in1 1 rfl rfl), (in2 235 rfl rfl), ⟨by decide, by decide, by decide +kernel⟩⟩
theorem kL_172 : HW RL 172 yL_publish cL_publish 4 (some .int) [(0, 9, 12, 20), (0, 9, 15, 15)] 3 := ⟨(in2 236 rfl rfl), (in2 237 rfl rfl), (in1 0 rfl rfl), (in2 238 rfl rfl), ⟨by decide, by decide, by decide +kernel⟩⟩
theorem kL_40 : VW RL 40 yX6_publish cX6_publish 4 (some .int) 1 := ⟨(in2 239 rfl rfl), (in3 0 rfl rfl), (in3 1 rfl rfl), (in1 1 rfl rfl), (in3 2 rfl rfl), ⟨by decide, by decide, by decide +kernel⟩⟩
theorem kX6_142 : VW RX6 142 yX6_takeEffect cX6_takeEffect 8 (some .long) 1 := ⟨(in3 3 rfl rfl), (in3 5 rfl rfl), (inP 8 rfl rfl), (in1 1 rfl rfl), (in3 6 rfl rfl), ⟨by decide, by decide, by decide +kernel⟩⟩
theorem kX6_324 : SW RX6 324 yX6_bitOf cX6_bitOf 1 (some .long) 1 := ⟨(in3 7 rfl rfl), (in3 8 rfl rfl), (in1 1 rfl rfl), (in3 9 rfl rfl), ⟨by decide, by decide, by decide +kernel⟩⟩
theorem kX6_146 : VW RX6 146 yX3_keep cX3_keep 4 none 2 := ⟨(in3 10 rfl rfl), (in3 11 rfl rfl), (in3 12 rfl rfl), (in1 2 rfl rfl), (in3 13 rfl rfl), ⟨by decide, by decide, by decide +kernel⟩⟩
theorem kL_175 : HW RL 175 yL_pass cL_pass 4 (some .int) [(0, 9, 12, 13)] 3 := ⟨(in3 14 rfl rfl), (in3 15 rfl rfl), (in1 0 rfl rfl), (in3 16 rfl rfl), ⟨by decide, by decide, by decide +kernel⟩⟩
theorem kL_43 : VW RL 43 yX6_pass cX6_pass 2 (some .int) 1 := ⟨(in3 17 rfl rfl), (in3 18 rfl rfl), (in3 19 rfl rfl), (in1 1 rfl rfl), (in3 20 rfl rfl), ⟨by decide, by decide, by decide +kernel⟩⟩
theorem kL_186 : HW RL 186 yL_nameOf cL_nameOf 4 (some .int) [(0, 9, 12, 20)] 3 := ⟨(in3 21 rfl rfl), (in3 22 rfl rfl), (in1 0 rfl rfl), (in3 23 rfl rfl), ⟨by decide, by decide, by decide +kernel⟩⟩
theorem kL_46 : VW RL 46 yX6_nameOf cX6_nameOf 2 (some .int) 1 := ⟨(in3 24 rfl rfl), (in3 25 rfl rfl), (in3 26 rfl rfl), (in1 1 rfl rfl), (in3 27 rfl rfl), ⟨by decide, by decide, by decide +kernel⟩⟩
theorem kL_189 : HW RL 189 yL_keyOf cL_keyOf 4 (some .int) [(0, 9, 12, 20)] 3 := ⟨(in3 28 rfl rfl), (in3 29 rfl rfl), (in1 0 rfl rfl), (in3 30 rfl rfl), ⟨by decide, by decide, by decide +kernel⟩⟩
theorem kL_49 : VW RL 49 yX6_keyOf cX6_keyOf 2 (some .int) 1 := ⟨(in3 31 rfl rfl), (in3 32 rfl rfl), (in3 33 rfl rfl), (in1 1 rfl rfl), (in3 34 rfl rfl), ⟨by decide, by decide, by decide +kernel⟩⟩
theorem kL_192 : HW RL 192 yL_issuerKeyOf cL_issuerKeyOf 4 (some .int) [(0, 9, 12, 20)] 3 := ⟨(in3 35 rfl rfl), (in3 36 rfl rfl), (in1 0 rfl rfl), (in3 37 rfl rfl), ⟨by decide, by decide, by decide +kernel⟩⟩
theorem kL_52 : VW RL 52 yX6_issuerKeyOf cX6_issuerKeyOf 2 (some .int) 1 := ⟨(in3 38 rfl rfl), (in3 39 rfl rfl), (in3 40 rfl rfl), (in1 1 rfl rfl), (in3 41 rfl rfl), ⟨by decide, by decide, by decide +kernel⟩⟩
theorem kL_195 : HW RL 195 yL_lastDayOf cL_lastDayOf 4 (some .int) [(0, 9, 12, 20)] 3 := ⟨(in3 42 rfl rfl), (in3 43 rfl rfl), (in1 0 rfl rfl), (in3 44 rfl rfl), ⟨by decide, by decide, by decide +kernel⟩⟩
theorem kL_55 : VW RL 55 yX6_lastDayOf cX6_lastDayOf 2 (some .int) 1 := ⟨(in3 45 rfl rfl), (in3 46 rfl rfl), (in3 47 rfl rfl), (in1 1 rfl rfl), (in3 48 rfl rfl), ⟨by decide, by decide, by decide +kernel⟩⟩
theorem kL_198 : HW RL 198 yL_kindOf cL_kindOf 4 (some .int) [(0, 9, 12, 20)] 3 := ⟨(in3 49 rfl rfl), (in3 50 rfl rfl), (in1 0 rfl rfl), (in3 51 rfl rfl), ⟨by decide, by decide, by decide +kernel⟩⟩
theorem kL_58 : VW RL 58 yX6_kindOf cX6_kindOf 3 (some .char) 1 := ⟨(in3 52 rfl rfl), (in3 53 rfl rfl), (in3 54 rfl rfl), (in1 1 rfl rfl), (in3 55 rfl rfl), ⟨by decide, by decide, by decide +kernel⟩⟩
theorem kL_201 : HW RL 201 yL_isBelow cL_isBelow 5 (some .int) [(0, 17, 20, 13)] 4 := ⟨(in3 56 rfl rfl), (in3 57 rfl rfl), (in1 0 rfl rfl), (in3 58 rfl rfl), ⟨by decide, by decide, by decide +kernel⟩⟩
theorem kL_62 : VW RL 62 yX6_isBelow cX6_isBelow 3 (some .boolean) 2 := ⟨(in3 59 rfl rfl), (in3 60 rfl rfl), (in3 61 rfl rfl), (in1 1 rfl rfl), (in3 62 rfl rfl), ⟨by decide, by decide, by decide +kernel⟩⟩
theorem kX6_162 : SW RX6 162 yX6_beginsWith cX6_beginsWith 4 (some .boolean) 2 := ⟨(in3 63 rfl rfl), (in3 64 rfl rfl), (in1 1 rfl rfl), (in3 65 rfl rfl), ⟨by decide, by decide, by decide +kernel⟩⟩
theorem kL_205 : HW RL 205 yL_isRevoked cL_isRevoked 5 (some .int) [(0, 17, 20, 20), (0, 17, 24, 13)] 4 := ⟨(in3 66 rfl rfl), (in3 67 rfl rfl), (in1 0 rfl rfl), (in3 68 rfl rfl), ⟨by decide, by decide, by decide +kernel⟩⟩
theorem kL_66 : VW RL 66 yX6_isRevoked cX6_isRevoked 4 (some .boolean) 2 := ⟨(in3 69 rfl rfl), (in3 70 rfl rfl), (in3 71 rfl rfl), (in1 1 rfl rfl), (in3 72 rfl rfl), ⟨by decide, by decide, by decide +kernel⟩⟩
theorem kX6_166 : SW RX6 166 yX6_requireDay cX6_requireDay 1 none 1 := ⟨(in3 73 rfl rfl), (in3 74 rfl rfl), (in1 1 rfl rfl), (in3 75 rfl rfl), ⟨by decide, by decide, by decide +kernel⟩⟩
theorem kX6_169 : VW RX6 169 yX0_isOutOfForceOn cX0_isOutOfForceOn 2 (some .boolean) 1 := ⟨(in3 77 rfl rfl), (in3 78 rfl rfl), (in3 79 rfl rfl), (in1 13 rfl rfl), (in3 80 rfl rfl), ⟨by decide, by decide, by decide +kernel⟩⟩
theorem kL_208 : HW RL 208 yL_isRevokedByLists cL_isRevokedByLists 5 (some .int) [(0, 17, 20, 20), (0, 17, 24, 13)] 4 := ⟨(in3 81 rfl rfl), (in3 82 rfl rfl), (in1 0 rfl rfl), (in3 83 rfl rfl), ⟨by decide, by decide, by decide +kernel⟩⟩
theorem kL_69 : VW RL 69 yX6_isRevokedByLists cX6_isRevokedByLists 4 (some .boolean) 2 := ⟨(in3 84 rfl rfl), (in3 85 rfl rfl), (in3 86 rfl rfl), (in1 1 rfl rfl), (in3 87 rfl rfl), ⟨by decide, by decide, by decide +kernel⟩⟩
theorem kX6_176 : VW RX6 176 yX3_tellOf cX3_tellOf 4 (some .boolean) 2 := ⟨(in3 88 rfl rfl), (in3 89 rfl rfl), (in3 90 rfl rfl), (in1 2 rfl rfl), (in3 91 rfl rfl), ⟨by decide, by decide, by decide +kernel⟩⟩
theorem kX3_23 : NW RX3 23 yX6_bitOf "Certhold" cX6_bitOf 1 (some .long) 1 := ⟨tb3 (List.mem_of_getElem? (i := 92) rfl), (in3 8 rfl rfl), (in1 1 rfl rfl), (in3 9 rfl rfl), ⟨by decide, by decide, by decide +kernel⟩⟩
theorem kL_211 : HW RL 211 yL_candidates cL_candidates 4 (some .int) [(0, 9, 12, 20)] 3 := ⟨(in3 93 rfl rfl), (in3 94 rfl rfl), (in1 0 rfl rfl), (in3 95 rfl rfl), ⟨by decide, by decide, by decide +kernel⟩⟩
theorem kL_72 : VW RL 72 yX6_candidates cX6_candidates 2 (some .int) 1 := ⟨(in3 96 rfl rfl), (in3 97 rfl rfl), (in3 98 rfl rfl), (in1 1 rfl rfl), (in3 99 rfl rfl), ⟨by decide, by decide, by decide +kernel⟩⟩
theorem kX6_179 : VW RX6 179 yX0_countCandidates cX0_countCandidates 6 (some .int) 0 := ⟨(in3 100 rfl rfl), (in3 101 rfl rfl), (in3 102 rfl rfl), (in1 13 rfl rfl), (in3 103 rfl rfl), ⟨by decide, by decide, by decide +kernel⟩⟩
theorem kL_214 : HW RL 214 yL_candidateAt cL_candidateAt 5 (some .int) [(0, 10, 13, 20), (0, 10, 17, 79)] 4 := ⟨(in3 104 rfl rfl), (in3 105 rfl rfl), (in1 0 rfl rfl), (in3 106 rfl rfl), ⟨by decide, by decide, by decide +kernel⟩⟩
theorem lL_79 : Cond.classLink RL 79 "java/lang/IndexOutOfBoundsException" ∈ wAll := (in3 107 rfl rfl)
theorem njava_lang_ArrayIndexOutOfBoundsException : Cond.instantiable "java/lang/ArrayIndexOutOfBoundsException" 6 ∈ wAll := (in3 108 rfl rfl)
theorem njava_lang_String : Cond.instantiable "java/lang/String" 4 ∈ wAll := (in3 126 rfl rfl)
theorem kL_75 : VW RL 75 yX6_candidateAt cX6_candidateAt 3 (some .int) 2 := ⟨(in3 131 rfl rfl), (in3 132 rfl rfl), (in3 133 rfl rfl), (in1 1 rfl rfl), (in3 134 rfl rfl), ⟨by decide, by decide, by decide +kernel⟩⟩
theorem kX6_182 : VW RX6 182 yX6_requireCandidate cX6_requireCandidate 4 (some (.object "Certhold$Certificate")) 2 := ⟨(in3 135 rfl rfl), (in3 137 rfl rfl), (inP 9 rfl rfl), (in1 1 rfl rfl), (in3 138 rfl rfl), ⟨by decide, by decide, by decide +kernel⟩⟩
theorem kX6_281 : VW RX6 281 yX0_candidate cX0_candidate 7 (some (.object "Certhold$Certificate")) 1 := ⟨(in3 139 rfl rfl), (in3 140 rfl rfl), (in3 141 rfl rfl), (in1 13 rfl rfl), (in3 142 rfl rfl), ⟨by decide, by decide, by decide +kernel⟩⟩
theorem lX6_193 : Cond.classLink RX6 193 "java/lang/IndexOutOfBoundsException" ∈ wAll := (in3 143 rfl rfl)
theorem njava_lang_IndexOutOfBoundsException : Cond.instantiable "java/lang/IndexOutOfBoundsException" 6 ∈ wAll := (in3 144 rfl rfl)
theorem kL_217 : HW RL 217 yL_chainSize cL_chainSize 5 (some .int) [(0, 10, 13, 20), (0, 10, 17, 13)] 4 := ⟨(in3 156 rfl rfl), (in3 157 rfl rfl), (in1 0 rfl rfl), (in3 158 rfl rfl), ⟨by decide, by decide, by decide +kernel⟩⟩
theorem kL_81 : VW RL 81 yX6_chainSize cX6_chainSize 4 (some .int) 2 := ⟨(in3 159 rfl rfl), (in3 160 rfl rfl), (in3 161 rfl rfl), (in1 1 rfl rfl), (in3 162 rfl rfl), ⟨by decide, by decide, by decide +kernel⟩⟩
theorem kX6_186 : VW RX6 186 yX6_sizeOfBest cX6_sizeOfBest 3 (some .int) 2 := ⟨(in3 163 rfl rfl), (in3 165 rfl rfl), (inP 10 rfl rfl), (in1 1 rfl rfl), (in3 166 rfl rfl), ⟨by decide, by decide, by decide +kernel⟩⟩
theorem kX6_327 : VW RX6 327 yX1_clear cX1_clear 1 none 0 := ⟨(in3 167 rfl rfl), (in3 168 rfl rfl), (in3 169 rfl rfl), (in1 5 rfl rfl), (in3 170 rfl rfl), ⟨by decide, by decide, by decide +kernel⟩⟩
theorem kX6_206 : VW RX6 206 yX0_refusalOn cX0_refusalOn 2 (some .char) 1 := ⟨(in3 171 rfl rfl), (in3 172 rfl rfl), (in3 173 rfl rfl), (in1 13 rfl rfl), (in3 174 rfl rfl), ⟨by decide, by decide, by decide +kernel⟩⟩
theorem kX0_47 : VW RX0 47 yX0_isValidOn cX0_isValidOn 2 (some .boolean) 1 := ⟨(in3 175 rfl rfl), (in3 176 rfl rfl), (in3 177 rfl rfl), (in1 13 rfl rfl), (in3 178 rfl rfl), ⟨by decide, by decide, by decide +kernel⟩⟩
theorem kX0_51 : VW RX0 51 yX0_isOutOfForceOn cX0_isOutOfForceOn 2 (some .boolean) 1 := ⟨(in3 179 rfl rfl), (in3 78 rfl rfl), (in3 79 rfl rfl), (in1 13 rfl rfl), (in3 80 rfl rfl), ⟨by decide, by decide, by decide +kernel⟩⟩
theorem kX6_198 : VW RX6 198 yX1_restart cX1_restart 3 none 2 := ⟨(in3 180 rfl rfl), (in3 181 rfl rfl), (in3 182 rfl rfl), (in1 5 rfl rfl), (in3 183 rfl rfl), ⟨by decide, by decide, by decide +kernel⟩⟩
theorem kX1_24 : VW RX1 24 yX1_add cX1_add 2 (some .boolean) 1 := ⟨(in3 184 rfl rfl), (in3 185 rfl rfl), (in3 186 rfl rfl), (in1 5 rfl rfl), (in3 187 rfl rfl), ⟨by decide, by decide, by decide +kernel⟩⟩
theorem kX6_330 : SW RX6 330 yX6_findBest cX6_findBest 5 none 2 := ⟨(in3 188 rfl rfl), (in3 189 rfl rfl), (in1 1 rfl rfl), (in3 190 rfl rfl), ⟨by decide, by decide, by decide +kernel⟩⟩
theorem kX6_286 : VW RX6 286 yX1_last cX1_last 1 (some (.object "Certhold$Certificate")) 0 := ⟨(in3 191 rfl rfl), (in1 152 rfl rfl), (in1 153 rfl rfl), (in1 5 rfl rfl), (in1 154 rfl rfl), ⟨by decide, by decide, by decide +kernel⟩⟩
theorem kX6_334 : VW RX6 334 yX1_copy cX1_copy 3 none 1 := ⟨(in3 192 rfl rfl), (in3 193 rfl rfl), (in3 194 rfl rfl), (in1 5 rfl rfl), (in3 195 rfl rfl), ⟨by decide, by decide, by decide +kernel⟩⟩
theorem kX6_217 : VW RX6 217 yX1_refusalOf cX1_refusalOf 3 (some .char) 1 := ⟨(in3 196 rfl rfl), (in3 197 rfl rfl), (in3 198 rfl rfl), (in1 5 rfl rfl), (in3 199 rfl rfl), ⟨by decide, by decide, by decide +kernel⟩⟩
theorem kX1_44 : VW RX1 44 yX1_has cX1_has 3 (some .boolean) 1 := ⟨(in3 200 rfl rfl), (in3 201 rfl rfl), (in3 202 rfl rfl), (in1 5 rfl rfl), (in3 203 rfl rfl), ⟨by decide, by decide, by decide +kernel⟩⟩
theorem kX1_47 : VW RX1 47 yX0_refusalOn cX0_refusalOn 2 (some .char) 1 := ⟨(in3 204 rfl rfl), (in3 172 rfl rfl), (in3 173 rfl rfl), (in1 13 rfl rfl), (in3 174 rfl rfl), ⟨by decide, by decide, by decide +kernel⟩⟩
theorem kX1_51 : VW RX1 51 yX0_isAuthority cX0_isAuthority 1 (some .boolean) 0 := ⟨(in3 205 rfl rfl), (in2 171 rfl rfl), (in2 172 rfl rfl), (in1 13 rfl rfl), (in2 173 rfl rfl), ⟨by decide, by decide, by decide +kernel⟩⟩
theorem kX1_57 : VW RX1 57 yX1_allowsNamesBefore cX1_allowsNamesBefore 5 (some .boolean) 2 := ⟨(in3 206 rfl rfl), (in3 208 rfl rfl), (inP 11 rfl rfl), (in1 5 rfl rfl), (in3 209 rfl rfl), ⟨by decide, by decide, by decide +kernel⟩⟩
theorem kX1_76 : VW RX1 76 yX0_allows cX0_allows 2 (some .boolean) 1 := ⟨(in3 210 rfl rfl), (in3 211 rfl rfl), (in3 212 rfl rfl), (in1 13 rfl rfl), (in3 213 rfl rfl), ⟨by decide, by decide, by decide +kernel⟩⟩
theorem kX0_54 : NW RX0 54 yX6_beginsWith "Certhold" cX6_beginsWith 4 (some .boolean) 2 := ⟨tb3 (List.mem_of_getElem? (i := 214) rfl), (in3 64 rfl rfl), (in1 1 rfl rfl), (in3 65 rfl rfl), ⟨by decide, by decide, by decide +kernel⟩⟩
theorem kX6_221 : VW RX6 221 yX1_add cX1_add 2 (some .boolean) 1 := ⟨(in3 215 rfl rfl), (in3 185 rfl rfl), (in3 186 rfl rfl), (in1 5 rfl rfl), (in3 187 rfl rfl), ⟨by decide, by decide, by decide +kernel⟩⟩
theorem kX6_338 : VW RX6 338 yX1_removeLast cX1_removeLast 1 none 0 := ⟨(in3 216 rfl rfl), (in3 217 rfl rfl), (in3 218 rfl rfl), (in1 5 rfl rfl), (in3 219 rfl rfl), ⟨by decide, by decide, by decide +kernel⟩⟩
theorem kL_220 : HW RL 220 yL_chainAt cL_chainAt 6 (some .int) [(0, 12, 15, 20), (0, 12, 19, 13), (0, 12, 23, 79)] 5 := ⟨(in3 220 rfl rfl), (in3 221 rfl rfl), (in1 0 rfl rfl), (in3 222 rfl rfl), ⟨by decide, by decide, by decide +kernel⟩⟩
theorem kL_84 : VW RL 84 yX6_chainAt cX6_chainAt 6 (some .int) 3 := ⟨(in3 223 rfl rfl), (in3 224 rfl rfl), (in3 225 rfl rfl), (in1 1 rfl rfl), (in3 226 rfl rfl), ⟨by decide, by decide, by decide +kernel⟩⟩
theorem kX6_190 : VW RX6 190 yX1_at cX1_at 2 (some (.object "Certhold$Certificate")) 1 := ⟨(in3 227 rfl rfl), (in1 156 rfl rfl), (in1 157 rfl rfl), (in1 5 rfl rfl), (in1 158 rfl rfl), ⟨by decide, by decide, by decide +kernel⟩⟩
theorem kL_223 : HW RL 223 yL_goodChains cL_goodChains 5 (some .int) [(0, 10, 13, 20), (0, 10, 17, 13)] 4 := ⟨(in3 229 rfl rfl), (in3 230 rfl rfl), (in1 0 rfl rfl), (in3 231 rfl rfl), ⟨by decide, by decide, by decide +kernel⟩⟩
theorem kL_87 : VW RL 87 yX6_goodChains cX6_goodChains 4 (some .int) 2 := ⟨(in3 232 rfl rfl), (in3 233 rfl rfl), (in3 234 rfl rfl), (in1 1 rfl rfl), (in3 235 rfl rfl), ⟨by decide, by decide, by decide +kernel⟩⟩
theorem kX6_202 : SW RX6 202 yX6_countJudged cX6_countJudged 5 (some .int) 1 := ⟨(in3 236 rfl rfl), (in3 237 rfl rfl), (in1 1 rfl rfl), (in3 238 rfl rfl), ⟨by decide, by decide, by decide +kernel⟩⟩
theorem kX6_341 : VW RX6 341 yX1_isGood cX1_isGood 3 (some .boolean) 0 := ⟨(in3 239 rfl rfl), (in4 0 rfl rfl), (in4 1 rfl rfl), (in1 5 rfl rfl), (in4 2 rfl rfl), ⟨by decide, by decide, by decide +kernel⟩⟩
theorem kX1_61 : VW RX1 61 yX1_endsInTrust cX1_endsInTrust 2 (some .boolean) 0 := ⟨(in4 3 rfl rfl), (in1 148 rfl rfl), (in1 149 rfl rfl), (in1 5 rfl rfl), (in1 150 rfl rfl), ⟨by decide, by decide, by decide +kernel⟩⟩
theorem kX1_64 : VW RX1 64 yX1_isFitAt cX1_isFitAt 3 (some .boolean) 2 := ⟨(in4 4 rfl rfl), (in4 6 rfl rfl), (inP 12 rfl rfl), (in1 5 rfl rfl), (in4 7 rfl rfl), ⟨by decide, by decide, by decide +kernel⟩⟩
theorem kX6_344 : VW RX6 344 yX1_has cX1_has 3 (some .boolean) 1 := ⟨(in4 8 rfl rfl), (in3 201 rfl rfl), (in3 202 rfl rfl), (in1 5 rfl rfl), (in3 203 rfl rfl), ⟨by decide, by decide, by decide +kernel⟩⟩
theorem kL_226 : HW RL 226 yL_goodChainsByWalks cL_goodChainsByWalks 5 (some .int) [(0, 10, 13, 20), (0, 10, 17, 13)] 4 := ⟨(in4 9 rfl rfl), (in4 10 rfl rfl), (in1 0 rfl rfl), (in4 11 rfl rfl), ⟨by decide, by decide, by decide +kernel⟩⟩
theorem kL_90 : VW RL 90 yX6_goodChainsByWalks cX6_goodChainsByWalks 4 (some .int) 2 := ⟨(in4 12 rfl rfl), (in4 13 rfl rfl), (in4 14 rfl rfl), (in1 1 rfl rfl), (in4 15 rfl rfl), ⟨by decide, by decide, by decide +kernel⟩⟩
theorem kX6_210 : SW RX6 210 yX6_countLengthened cX6_countLengthened 5 (some .int) 1 := ⟨(in4 16 rfl rfl), (in4 17 rfl rfl), (in1 1 rfl rfl), (in4 18 rfl rfl), ⟨by decide, by decide, by decide +kernel⟩⟩
theorem kL_229 : HW RL 229 yL_begin cL_begin 5 (some .int) [(0, 10, 13, 20), (0, 10, 17, 13)] 4 := ⟨(in4 19 rfl rfl), (in4 20 rfl rfl), (in1 0 rfl rfl), (in4 21 rfl rfl), ⟨by decide, by decide, by decide +kernel⟩⟩
theorem kL_93 : VW RL 93 yX6_begin cX6_begin 5 (some .char) 2 := ⟨(in4 22 rfl rfl), (in4 23 rfl rfl), (in4 24 rfl rfl), (in1 1 rfl rfl), (in4 25 rfl rfl), ⟨by decide, by decide, by decide +kernel⟩⟩
theorem kL_232 : HW RL 232 yL_step cL_step 4 (some .int) [(0, 9, 12, 15), (0, 9, 15, 79)] 3 := ⟨(in4 26 rfl rfl), (in4 27 rfl rfl), (in1 0 rfl rfl), (in4 28 rfl rfl), ⟨by decide, by decide, by decide +kernel⟩⟩
theorem kL_97 : VW RL 97 yX6_step cX6_step 4 (some .char) 1 := ⟨(in4 29 rfl rfl), (in4 30 rfl rfl), (in4 31 rfl rfl), (in1 1 rfl rfl), (in4 32 rfl rfl), ⟨by decide, by decide, by decide +kernel⟩⟩
theorem kX6_213 : VW RX6 213 yX6_requireReached cX6_requireReached 2 (some (.object "Certhold$Certificate")) 0 := ⟨(in4 33 rfl rfl), (in4 35 rfl rfl), (inP 13 rfl rfl), (in1 1 rfl rfl), (in4 36 rfl rfl), ⟨by decide, by decide, by decide +kernel⟩⟩
theorem kL_235 : HW RL 235 yL_reached cL_reached 3 (some .int) [(0, 8, 11, 15)] 2 := ⟨(in4 38 rfl rfl), (in4 39 rfl rfl), (in1 0 rfl rfl), (in4 40 rfl rfl), ⟨by decide, by decide, by decide +kernel⟩⟩
theorem kL_100 : VW RL 100 yX6_reached cX6_reached 1 (some .int) 0 := ⟨(in4 41 rfl rfl), (in4 42 rfl rfl), (in4 43 rfl rfl), (in1 1 rfl rfl), (in4 44 rfl rfl), ⟨by decide, by decide, by decide +kernel⟩⟩
theorem kL_248 : HW RL 248 yL_rootOf cL_rootOf 4 (some .int) [(0, 8, 11, 13)] 3 := ⟨(in4 45 rfl rfl), (in4 46 rfl rfl), (in1 0 rfl rfl), (in4 47 rfl rfl), ⟨by decide, by decide, by decide +kernel⟩⟩
theorem kL_104 : VW RL 104 yX6_rootOf cX6_rootOf 2 (some .long) 1 := ⟨(in4 48 rfl rfl), (in4 49 rfl rfl), (in4 50 rfl rfl), (in1 1 rfl rfl), (in4 51 rfl rfl), ⟨by decide, by decide, by decide +kernel⟩⟩
theorem kX6_231 : VW RX6 231 yX6_requireSize cX6_requireSize 2 none 1 := ⟨(in4 52 rfl rfl), (in4 54 rfl rfl), (inP 14 rfl rfl), (in1 1 rfl rfl), (in4 55 rfl rfl), ⟨by decide, by decide, by decide +kernel⟩⟩
theorem kX6_234 : VW RX6 234 yX4_rootByDividing cX4_rootByDividing 3 (some .long) 2 := ⟨(in4 57 rfl rfl), (in4 58 rfl rfl), (in4 59 rfl rfl), (in1 3 rfl rfl), (in4 60 rfl rfl), ⟨by decide, by decide, by decide +kernel⟩⟩
theorem kX4_67 : SW RX4 67 yX4_rootOfPart cX4_rootOfPart 5 (some .long) 4 := ⟨(in4 61 rfl rfl), (in4 62 rfl rfl), (in1 3 rfl rfl), (in4 63 rfl rfl), ⟨by decide, by decide, by decide +kernel⟩⟩
theorem kX4_71 : SW RX4 71 yX4_sizeOfFirstPart cX4_sizeOfFirstPart 3 (some .int) 1 := ⟨(in4 64 rfl rfl), (in4 65 rfl rfl), (in1 3 rfl rfl), (in4 66 rfl rfl), ⟨by decide, by decide, by decide +kernel⟩⟩
theorem kX4_75 : SW RX4 75 yX4_joined cX4_joined 4 (some .long) 2 := ⟨(in4 67 rfl rfl), (in4 68 rfl rfl), (in1 3 rfl rfl), (in4 69 rfl rfl), ⟨by decide, by decide, by decide +kernel⟩⟩
theorem cX4_61 : Cond.constantLong RX4 61 1009 ∈ wAll := (in4 70 rfl rfl)
theorem cX4_63 : Cond.constantLong RX4 63 9176 ∈ wAll := (in4 71 rfl rfl)
theorem cX4_65 : Cond.constantLong RX4 65 31 ∈ wAll := (in4 72 rfl rfl)
theorem kL_251 : HW RL 251 yL_rootByJoining cL_rootByJoining 4 (some .int) [(0, 8, 11, 13)] 3 := ⟨(in4 73 rfl rfl), (in4 74 rfl rfl), (in1 0 rfl rfl), (in4 75 rfl rfl), ⟨by decide, by decide, by decide +kernel⟩⟩
theorem kL_108 : VW RL 108 yX6_rootByJoining cX6_rootByJoining 2 (some .long) 1 := ⟨(in4 76 rfl rfl), (in4 77 rfl rfl), (in4 78 rfl rfl), (in1 1 rfl rfl), (in4 79 rfl rfl), ⟨by decide, by decide, by decide +kernel⟩⟩
theorem kX6_238 : VW RX6 238 yX4_rootOfJoined cX4_rootOfJoined 7 (some .long) 1 := ⟨(in4 80 rfl rfl), (in4 81 rfl rfl), (in4 82 rfl rfl), (in1 3 rfl rfl), (in4 83 rfl rfl), ⟨by decide, by decide, by decide +kernel⟩⟩
theorem kX4_79 : VW RX4 79 yX4_hashOfEntry cX4_hashOfEntry 2 (some .long) 1 := ⟨(in4 84 rfl rfl), (in4 85 rfl rfl), (in4 86 rfl rfl), (in1 3 rfl rfl), (in4 87 rfl rfl), ⟨by decide, by decide, by decide +kernel⟩⟩
theorem kX4_83 : VW RX4 83 yX4_finishedAt cX4_finishedAt 2 (some .long) 1 := ⟨(in4 88 rfl rfl), (in4 90 rfl rfl), (inP 15 rfl rfl), (in1 3 rfl rfl), (in4 91 rfl rfl), ⟨by decide, by decide, by decide +kernel⟩⟩
theorem kX4_86 : VW RX4 86 yX4_rootOfFinished cX4_rootOfFinished 5 (some .long) 1 := ⟨(in4 92 rfl rfl), (in4 94 rfl rfl), (inP 16 rfl rfl), (in1 3 rfl rfl), (in4 95 rfl rfl), ⟨by decide, by decide, by decide +kernel⟩⟩
theorem kL_254 : HW RL 254 yL_proofSize cL_proofSize 5 (some .int) [(0, 10, 13, 13), (0, 10, 17, 79)] 4 := ⟨(in4 96 rfl rfl), (in4 97 rfl rfl), (in1 0 rfl rfl), (in4 98 rfl rfl), ⟨by decide, by decide, by decide +kernel⟩⟩
theorem kL_111 : VW RL 111 yX6_proofSize cX6_proofSize 3 (some .int) 2 := ⟨(in4 99 rfl rfl), (in4 100 rfl rfl), (in4 101 rfl rfl), (in1 1 rfl rfl), (in4 102 rfl rfl), ⟨by decide, by decide, by decide +kernel⟩⟩
theorem kX6_242 : VW RX6 242 yX6_prove cX6_prove 3 (some (.object "Certhold$Proof")) 2 := ⟨(in4 103 rfl rfl), (in4 105 rfl rfl), (inP 17 rfl rfl), (in1 1 rfl rfl), (in4 106 rfl rfl), ⟨by decide, by decide, by decide +kernel⟩⟩
theorem kX6_349 : VW RX6 349 yX4_proofOfEntry cX4_proofOfEntry 3 (some (.object "Certhold$Proof")) 2 := ⟨(in4 108 rfl rfl), (in4 109 rfl rfl), (in4 110 rfl rfl), (in1 3 rfl rfl), (in4 111 rfl rfl), ⟨by decide, by decide, by decide +kernel⟩⟩
theorem kX4_89 : VW RX4 89 yX5_clear cX5_clear 1 none 0 := ⟨(in4 112 rfl rfl), (in4 113 rfl rfl), (in4 114 rfl rfl), (in1 4 rfl rfl), (in4 115 rfl rfl), ⟨by decide, by decide, by decide +kernel⟩⟩
theorem kX4_92 : VW RX4 92 yX4_descend cX4_descend 8 none 3 := ⟨(in4 116 rfl rfl), (in4 118 rfl rfl), (inP 18 rfl rfl), (in1 3 rfl rfl), (in4 119 rfl rfl), ⟨by decide, by decide, by decide +kernel⟩⟩
theorem kX4_96 : VW RX4 96 yX4_rootByDividing cX4_rootByDividing 3 (some .long) 2 := ⟨(in4 120 rfl rfl), (in4 58 rfl rfl), (in4 59 rfl rfl), (in1 3 rfl rfl), (in4 60 rfl rfl), ⟨by decide, by decide, by decide +kernel⟩⟩
theorem kX4_100 : VW RX4 100 yX5_push cX5_push 4 none 2 := ⟨(in4 121 rfl rfl), (in4 122 rfl rfl), (in4 123 rfl rfl), (in1 4 rfl rfl), (in4 124 rfl rfl), ⟨by decide, by decide, by decide +kernel⟩⟩
theorem kL_257 : HW RL 257 yL_proofAt cL_proofAt 6 (some .int) [(0, 11, 14, 13), (0, 11, 18, 79)] 5 := ⟨(in4 125 rfl rfl), (in4 126 rfl rfl), (in1 0 rfl rfl), (in4 127 rfl rfl), ⟨by decide, by decide, by decide +kernel⟩⟩
theorem kL_114 : VW RL 114 yX6_proofAt cX6_proofAt 4 (some .long) 3 := ⟨(in4 128 rfl rfl), (in4 129 rfl rfl), (in4 130 rfl rfl), (in1 1 rfl rfl), (in4 131 rfl rfl), ⟨by decide, by decide, by decide +kernel⟩⟩
theorem kX6_249 : SW RX6 249 yX6_hashAt cX6_hashAt 2 (some .long) 2 := ⟨(in4 132 rfl rfl), (in4 133 rfl rfl), (in1 1 rfl rfl), (in4 134 rfl rfl), ⟨by decide, by decide, by decide +kernel⟩⟩
theorem kX6_357 : VW RX6 357 yX5_hasIndex cX5_hasIndex 2 (some .boolean) 1 := ⟨(in4 135 rfl rfl), (in4 136 rfl rfl), (in4 137 rfl rfl), (in1 4 rfl rfl), (in4 138 rfl rfl), ⟨by decide, by decide, by decide +kernel⟩⟩
theorem kX6_362 : VW RX6 362 yX5_hash cX5_hash 2 (some .long) 1 := ⟨(in4 140 rfl rfl), (in4 141 rfl rfl), (in4 142 rfl rfl), (in1 4 rfl rfl), (in4 143 rfl rfl), ⟨by decide, by decide, by decide +kernel⟩⟩
theorem kX5_21 : VW RX5 21 yX5_hasIndex cX5_hasIndex 2 (some .boolean) 1 := ⟨(in4 144 rfl rfl), (in4 136 rfl rfl), (in4 137 rfl rfl), (in1 4 rfl rfl), (in4 138 rfl rfl), ⟨by decide, by decide, by decide +kernel⟩⟩
theorem kL_260 : HW RL 260 yL_rootByProof cL_rootByProof 5 (some .int) [(0, 9, 12, 13), (0, 9, 16, 79)] 4 := ⟨(in4 145 rfl rfl), (in4 146 rfl rfl), (in1 0 rfl rfl), (in4 147 rfl rfl), ⟨by decide, by decide, by decide +kernel⟩⟩
theorem kL_118 : VW RL 118 yX6_rootByProof cX6_rootByProof 4 (some .long) 2 := ⟨(in4 148 rfl rfl), (in4 149 rfl rfl), (in4 150 rfl rfl), (in1 1 rfl rfl), (in4 151 rfl rfl), ⟨by decide, by decide, by decide +kernel⟩⟩
theorem kX6_253 : VW RX6 253 yX4_hashOfEntry cX4_hashOfEntry 2 (some .long) 1 := ⟨(in4 152 rfl rfl), (in4 85 rfl rfl), (in4 86 rfl rfl), (in1 3 rfl rfl), (in4 87 rfl rfl), ⟨by decide, by decide, by decide +kernel⟩⟩
theorem kX6_256 : VW RX6 256 yX5_rootFrom cX5_rootFrom 6 (some .long) 1 := ⟨(in4 153 rfl rfl), (in4 154 rfl rfl), (in4 155 rfl rfl), (in1 4 rfl rfl), (in4 156 rfl rfl), ⟨by decide, by decide, by decide +kernel⟩⟩
theorem kX5_25 : SW RX5 25 yX4_joined cX4_joined 4 (some .long) 2 := ⟨(in4 157 rfl rfl), (in4 68 rfl rfl), (in1 3 rfl rfl), (in4 69 rfl rfl), ⟨by decide, by decide, by decide +kernel⟩⟩
theorem kL_263 : HW RL 263 yL_growthSize cL_growthSize 5 (some .int) [(0, 10, 13, 13), (0, 10, 17, 79)] 4 := ⟨(in4 158 rfl rfl), (in4 159 rfl rfl), (in1 0 rfl rfl), (in4 160 rfl rfl), ⟨by decide, by decide, by decide +kernel⟩⟩
theorem kL_122 : VW RL 122 yX6_growthSize cX6_growthSize 3 (some .int) 2 := ⟨(in4 161 rfl rfl), (in4 162 rfl rfl), (in4 163 rfl rfl), (in1 1 rfl rfl), (in4 164 rfl rfl), ⟨by decide, by decide, by decide +kernel⟩⟩
theorem kX6_260 : VW RX6 260 yX6_proveGrowth cX6_proveGrowth 3 (some (.object "Certhold$Proof")) 2 := ⟨(in4 165 rfl rfl), (in4 167 rfl rfl), (inP 19 rfl rfl), (in1 1 rfl rfl), (in4 168 rfl rfl), ⟨by decide, by decide, by decide +kernel⟩⟩
theorem kX6_354 : VW RX6 354 yX4_proofOfGrowth cX4_proofOfGrowth 3 (some (.object "Certhold$Proof")) 2 := ⟨(in4 170 rfl rfl), (in4 171 rfl rfl), (in4 172 rfl rfl), (in1 3 rfl rfl), (in4 173 rfl rfl), ⟨by decide, by decide, by decide +kernel⟩⟩
theorem kL_266 : HW RL 266 yL_growthAt cL_growthAt 6 (some .int) [(0, 11, 14, 13), (0, 11, 18, 79)] 5 := ⟨(in4 174 rfl rfl), (in4 175 rfl rfl), (in1 0 rfl rfl), (in4 176 rfl rfl), ⟨by decide, by decide, by decide +kernel⟩⟩
theorem kL_125 : VW RL 125 yX6_growthAt cX6_growthAt 4 (some .long) 3 := ⟨(in4 177 rfl rfl), (in4 178 rfl rfl), (in4 179 rfl rfl), (in1 1 rfl rfl), (in4 180 rfl rfl), ⟨by decide, by decide, by decide +kernel⟩⟩
theorem kL_269 : HW RL 269 yL_soundShare cL_soundShare 3 (some .int) [(0, 8, 11, 132)] 2 := ⟨(in4 181 rfl rfl), (in4 182 rfl rfl), (in1 0 rfl rfl), (in4 183 rfl rfl), ⟨by decide, by decide, by decide +kernel⟩⟩
theorem lL_132 : Cond.classLink RL 132 "java/lang/ArithmeticException" ∈ wAll := (in4 184 rfl rfl)
theorem njava_lang_ArithmeticException : Cond.instantiable "java/lang/ArithmeticException" 6 ∈ wAll := (in4 185 rfl rfl)
theorem kL_128 : VW RL 128 yX6_soundShare cX6_soundShare 6 (some .float) 0 := ⟨(in4 198 rfl rfl), (in4 199 rfl rfl), (in4 200 rfl rfl), (in1 1 rfl rfl), (in4 201 rfl rfl), ⟨by decide, by decide, by decide +kernel⟩⟩
theorem lX6_263 : Cond.classLink RX6 263 "java/lang/ArithmeticException" ∈ wAll := (in4 202 rfl rfl)
theorem kX6_268 : VW RX6 268 yX0_isValidOn cX0_isValidOn 2 (some .boolean) 1 := ⟨(in4 205 rfl rfl), (in3 176 rfl rfl), (in3 177 rfl rfl), (in1 13 rfl rfl), (in3 178 rfl rfl), ⟨by decide, by decide, by decide +kernel⟩⟩
theorem kL_273 : HW RL 273 yL_meanChain cL_meanChain 3 (some .int) [(0, 7, 10, 132)] 2 := ⟨(in4 206 rfl rfl), (in4 207 rfl rfl), (in1 0 rfl rfl), (in4 208 rfl rfl), ⟨by decide, by decide, by decide +kernel⟩⟩
theorem kL_134 : VW RL 134 yX6_meanChain cX6_meanChain 8 (some .double) 0 := ⟨(in4 209 rfl rfl), (in4 210 rfl rfl), (in4 211 rfl rfl), (in1 1 rfl rfl), (in4 212 rfl rfl), ⟨by decide, by decide, by decide +kernel⟩⟩
theorem lL_139 : Cond.classLink RL 139 "CertholdModel" ∈ wAll := (in4 214 rfl rfl)
theorem nX7 : Cond.instantiable "CertholdModel" 25 ∈ wAll := (in4 215 rfl rfl)
theorem kL_141 : CW RL 141 yX7_init cX7_init 1 0 := ⟨(in4 216 rfl rfl), (in4 217 rfl rfl), (in1 6 rfl rfl), (in4 218 rfl rfl), ⟨by decide, by decide, by decide +kernel⟩, rfl⟩
theorem oX7_1 : Cond.methodLink RX7 1 Lib.objectInit ∈ wAll := (in4 219 rfl rfl)
theorem fX7_9 : GF RX7 9 9 0 RX7 TX7 25 := ⟨iwX7, rfl, (in4 220 rfl rfl), by decide⟩
theorem fX7_13 : GF RX7 13 9 1 RX7 TX7 25 := ⟨iwX7, rfl, (in4 221 rfl rfl), by decide⟩
theorem fX7_16 : GF RX7 16 9 2 RX7 TX7 25 := ⟨iwX7, rfl, (in4 222 rfl rfl), by decide⟩
theorem fX7_19 : GF RX7 19 9 3 RX7 TX7 25 := ⟨iwX7, rfl, (in4 223 rfl rfl), by decide⟩
theorem fX7_22 : GF RX7 22 9 4 RX7 TX7 25 := ⟨iwX7, rfl, (in4 224 rfl rfl), by decide⟩
theorem fX7_25 : GF RX7 25 9 5 RX7 TX7 25 := ⟨iwX7, rfl, (in4 225 rfl rfl), by decide⟩
theorem fX7_28 : GF RX7 28 9 6 RX7 TX7 25 := ⟨iwX7, rfl, (in4 226 rfl rfl), by decide⟩
theorem fX7_31 : GF RX7 31 9 7 RX7 TX7 25 := ⟨iwX7, rfl, (in4 227 rfl rfl), by decide⟩
theorem fX7_34 : GF RX7 34 9 8 RX7 TX7 25 := ⟨iwX7, rfl, (in4 228 rfl rfl), by decide⟩
theorem fX7_37 : GF RX7 37 9 9 RX7 TX7 25 := ⟨iwX7, rfl, (in4 229 rfl rfl), by decide⟩
theorem fX7_40 : GF RX7 40 9 10 RX7 TX7 25 := ⟨iwX7, rfl, (in4 230 rfl rfl), by decide⟩
theorem fX7_44 : GF RX7 44 9 11 RX7 TX7 25 := ⟨iwX7, rfl, (in4 231 rfl rfl), by decide⟩
theorem fX7_47 : GF RX7 47 9 12 RX7 TX7 25 := ⟨iwX7, rfl, (in4 232 rfl rfl), by decide⟩
theorem fX7_50 : GF RX7 50 9 13 RX7 TX7 25 := ⟨iwX7, rfl, (in4 233 rfl rfl), by decide⟩
theorem fX7_53 : GF RX7 53 9 14 RX7 TX7 25 := ⟨iwX7, rfl, (in4 234 rfl rfl), by decide⟩
theorem fX7_56 : GF RX7 56 9 15 RX7 TX7 25 := ⟨iwX7, rfl, (in4 235 rfl rfl), by decide⟩
theorem fX7_59 : GF RX7 59 9 16 RX7 TX7 25 := ⟨iwX7, rfl, (in4 236 rfl rfl), by decide⟩
theorem fX7_71 : GF RX7 71 9 17 RX7 TX7 25 := ⟨iwX7, rfl, (in4 237 rfl rfl), by decide⟩
theorem fX7_88 : GF RX7 88 9 18 RX7 TX7 25 := ⟨iwX7, rfl, (in4 238 rfl rfl), by decide⟩
theorem fX7_82 : GF RX7 82 9 19 RX7 TX7 25 := ⟨iwX7, rfl, (in4 239 rfl rfl), by decide⟩
theorem fX7_165 : GF RX7 165 9 20 RX7 TX7 25 := ⟨iwX7, rfl, (in5 0 rfl rfl), by decide⟩
theorem fX7_168 : GF RX7 168 9 21 RX7 TX7 25 := ⟨iwX7, rfl, (in5 1 rfl rfl), by decide⟩
theorem fX7_155 : GF RX7 155 9 22 RX7 TX7 25 := ⟨iwX7, rfl, (in5 2 rfl rfl), by decide⟩
theorem fX7_207 : GF RX7 207 9 23 RX7 TX7 25 := ⟨iwX7, rfl, (in5 3 rfl rfl), by decide⟩
theorem fX7_63 : GF RX7 63 9 24 RX7 TX7 25 := ⟨iwX7, rfl, (in5 4 rfl rfl), by decide⟩
theorem kL_148 : VW RL 148 yX7_thrown cX7_thrown 1 (some .int) 0 := ⟨(in5 56 rfl rfl), (in5 57 rfl rfl), (in5 58 rfl rfl), (in1 6 rfl rfl), (in5 59 rfl rfl), ⟨by decide, by decide, by decide +kernel⟩⟩
theorem kL_147 : VW RL 147 yX7_makeRoot cX7_makeRoot 6 (some .int) 3 := ⟨(in5 60 rfl rfl), (in5 61 rfl rfl), (in5 62 rfl rfl), (in1 6 rfl rfl), (in5 63 rfl rfl), ⟨by decide, by decide, by decide +kernel⟩⟩
theorem kX7_85 : SW RX7 85 yX7_isName cX7_isName 3 (some .boolean) 1 := ⟨(in5 64 rfl rfl), (in5 65 rfl rfl), (in1 6 rfl rfl), (in5 66 rfl rfl), ⟨by decide, by decide, by decide +kernel⟩⟩
theorem kX7_67 : SW RX7 67 yX7_isIn cX7_isIn 3 (some .boolean) 3 := ⟨(in5 67 rfl rfl), (in5 68 rfl rfl), (in1 6 rfl rfl), (in5 69 rfl rfl), ⟨by decide, by decide, by decide +kernel⟩⟩
theorem kX7_78 : VW RX7 78 yX7_isThrown cX7_isThrown 3 (some .boolean) 2 := ⟨(in5 70 rfl rfl), (in5 72 rfl rfl), (inP 20 rfl rfl), (in1 6 rfl rfl), (in5 73 rfl rfl), ⟨by decide, by decide, by decide +kernel⟩⟩
theorem kX7_91 : VW RX7 91 yX7_makes cX7_makes 6 (some .int) 5 := ⟨(in5 74 rfl rfl), (in5 76 rfl rfl), (inP 21 rfl rfl), (in1 6 rfl rfl), (in5 77 rfl rfl), ⟨by decide, by decide, by decide +kernel⟩⟩
theorem kX7_95 : VW RX7 95 yX7_authority cX7_authority 3 (some .int) 2 := ⟨(in5 78 rfl rfl), (in5 80 rfl rfl), (inP 22 rfl rfl), (in1 6 rfl rfl), (in5 81 rfl rfl), ⟨by decide, by decide, by decide +kernel⟩⟩
theorem kL_153 : VW RL 153 yX7_issue cX7_issue 4 (some .int) 3 := ⟨(in5 82 rfl rfl), (in5 83 rfl rfl), (in5 84 rfl rfl), (in1 6 rfl rfl), (in5 85 rfl rfl), ⟨by decide, by decide, by decide +kernel⟩⟩
theorem kX7_102 : VW RX7 102 yX7_cannotIssue cX7_cannotIssue 3 (some .boolean) 2 := ⟨(in5 86 rfl rfl), (in5 88 rfl rfl), (inP 23 rfl rfl), (in1 6 rfl rfl), (in5 89 rfl rfl), ⟨by decide, by decide, by decide +kernel⟩⟩
theorem kX7_99 : VW RX7 99 yX7_isNone cX7_isNone 2 (some .boolean) 1 := ⟨(in5 90 rfl rfl), (in5 92 rfl rfl), (inP 24 rfl rfl), (in1 6 rfl rfl), (in5 93 rfl rfl), ⟨by decide, by decide, by decide +kernel⟩⟩
theorem kX7_74 : VW RX7 74 yX7_isThere cX7_isThere 2 (some .boolean) 1 := ⟨(in5 94 rfl rfl), (in5 96 rfl rfl), (inP 25 rfl rfl), (in1 6 rfl rfl), (in5 97 rfl rfl), ⟨by decide, by decide, by decide +kernel⟩⟩
theorem kL_157 : VW RL 157 yX7_issueAuthority cX7_issueAuthority 5 (some .int) 4 := ⟨(in5 98 rfl rfl), (in5 99 rfl rfl), (in5 100 rfl rfl), (in1 6 rfl rfl), (in5 101 rfl rfl), ⟨by decide, by decide, by decide +kernel⟩⟩
theorem kL_160 : VW RL 160 yX7_cross cX7_cross 5 (some .int) 4 := ⟨(in5 102 rfl rfl), (in5 103 rfl rfl), (in5 104 rfl rfl), (in1 6 rfl rfl), (in5 105 rfl rfl), ⟨by decide, by decide, by decide +kernel⟩⟩
theorem kX7_106 : VW RX7 106 yX7_withKey cX7_withKey 4 (some .int) 1 := ⟨(in5 106 rfl rfl), (in5 108 rfl rfl), (inP 26 rfl rfl), (in1 6 rfl rfl), (in5 109 rfl rfl), ⟨by decide, by decide, by decide +kernel⟩⟩
theorem kL_163 : VW RL 163 yX7_setNames cX7_setNames 5 (some .int) 3 := ⟨(in5 110 rfl rfl), (in5 111 rfl rfl), (in5 112 rfl rfl), (in1 6 rfl rfl), (in5 113 rfl rfl), ⟨by decide, by decide, by decide +kernel⟩⟩
theorem kX7_110 : VW RX7 110 yX7_hasIssued cX7_hasIssued 4 (some .boolean) 1 := ⟨(in5 114 rfl rfl), (in5 116 rfl rfl), (inP 27 rfl rfl), (in1 6 rfl rfl), (in5 117 rfl rfl), ⟨by decide, by decide, by decide +kernel⟩⟩
theorem kL_167 : VW RL 167 yX7_trust cX7_trust 5 (some .int) 2 := ⟨(in5 118 rfl rfl), (in5 119 rfl rfl), (in5 120 rfl rfl), (in1 6 rfl rfl), (in5 121 rfl rfl), ⟨by decide, by decide, by decide +kernel⟩⟩
theorem kL_171 : VW RL 171 yX7_revoke cX7_revoke 4 (some .int) 1 := ⟨(in5 122 rfl rfl), (in5 123 rfl rfl), (in5 124 rfl rfl), (in1 6 rfl rfl), (in5 125 rfl rfl), ⟨by decide, by decide, by decide +kernel⟩⟩
theorem kL_174 : VW RL 174 yX7_publish cX7_publish 5 (some .int) 1 := ⟨(in5 126 rfl rfl), (in5 127 rfl rfl), (in5 128 rfl rfl), (in1 6 rfl rfl), (in5 129 rfl rfl), ⟨by decide, by decide, by decide +kernel⟩⟩
theorem kL_177 : VW RL 177 yX7_pass cX7_pass 2 (some .int) 1 := ⟨(in5 130 rfl rfl), (in5 131 rfl rfl), (in5 132 rfl rfl), (in1 6 rfl rfl), (in5 133 rfl rfl), ⟨by decide, by decide, by decide +kernel⟩⟩
theorem kL_181 : VW RL 181 yX7_day cX7_day 1 (some .int) 0 := ⟨(in5 134 rfl rfl), (in5 135 rfl rfl), (in5 136 rfl rfl), (in1 6 rfl rfl), (in5 137 rfl rfl), ⟨by decide, by decide, by decide +kernel⟩⟩
theorem kX7_113 : VW RX7 113 yX7_tells cX7_tells 2 (some .int) 1 := ⟨(in5 138 rfl rfl), (in5 140 rfl rfl), (inP 28 rfl rfl), (in1 6 rfl rfl), (in5 141 rfl rfl), ⟨by decide, by decide, by decide +kernel⟩⟩
theorem kL_185 : VW RL 185 yX7_certificates cX7_certificates 1 (some .int) 0 := ⟨(in5 142 rfl rfl), (in5 143 rfl rfl), (in5 144 rfl rfl), (in1 6 rfl rfl), (in5 145 rfl rfl), ⟨by decide, by decide, by decide +kernel⟩⟩
theorem kL_188 : VW RL 188 yX7_nameOf cX7_nameOf 2 (some .int) 1 := ⟨(in5 146 rfl rfl), (in5 147 rfl rfl), (in5 148 rfl rfl), (in1 6 rfl rfl), (in5 149 rfl rfl), ⟨by decide, by decide, by decide +kernel⟩⟩
theorem kL_191 : VW RL 191 yX7_keyOf cX7_keyOf 2 (some .int) 1 := ⟨(in5 150 rfl rfl), (in5 151 rfl rfl), (in5 152 rfl rfl), (in1 6 rfl rfl), (in5 153 rfl rfl), ⟨by decide, by decide, by decide +kernel⟩⟩
theorem kL_194 : VW RL 194 yX7_issuerKeyOf cX7_issuerKeyOf 2 (some .int) 1 := ⟨(in5 154 rfl rfl), (in5 155 rfl rfl), (in5 156 rfl rfl), (in1 6 rfl rfl), (in5 157 rfl rfl), ⟨by decide, by decide, by decide +kernel⟩⟩
theorem kL_197 : VW RL 197 yX7_lastDayOf cX7_lastDayOf 2 (some .int) 1 := ⟨(in5 158 rfl rfl), (in5 159 rfl rfl), (in5 160 rfl rfl), (in1 6 rfl rfl), (in5 161 rfl rfl), ⟨by decide, by decide, by decide +kernel⟩⟩
theorem kL_200 : VW RL 200 yX7_kindOf cX7_kindOf 2 (some .char) 1 := ⟨(in5 162 rfl rfl), (in5 163 rfl rfl), (in5 164 rfl rfl), (in1 6 rfl rfl), (in5 165 rfl rfl), ⟨by decide, by decide, by decide +kernel⟩⟩
theorem kL_204 : VW RL 204 yX7_isBelow cX7_isBelow 3 (some .boolean) 2 := ⟨(in5 166 rfl rfl), (in5 167 rfl rfl), (in5 168 rfl rfl), (in1 6 rfl rfl), (in5 169 rfl rfl), ⟨by decide, by decide, by decide +kernel⟩⟩
theorem kX7_116 : SW RX7 116 yX7_isUnder cX7_isUnder 3 (some .boolean) 2 := ⟨(in5 170 rfl rfl), (in5 171 rfl rfl), (in1 6 rfl rfl), (in5 172 rfl rfl), ⟨by decide, by decide, by decide +kernel⟩⟩
theorem kL_207 : VW RL 207 yX7_isRevoked cX7_isRevoked 3 (some .boolean) 2 := ⟨(in5 173 rfl rfl), (in5 174 rfl rfl), (in5 175 rfl rfl), (in1 6 rfl rfl), (in5 176 rfl rfl), ⟨by decide, by decide, by decide +kernel⟩⟩
theorem kX7_120 : VW RX7 120 yX7_isWrong cX7_isWrong 3 (some .boolean) 2 := ⟨(in5 177 rfl rfl), (in5 179 rfl rfl), (inP 29 rfl rfl), (in1 6 rfl rfl), (in5 180 rfl rfl), ⟨by decide, by decide, by decide +kernel⟩⟩
theorem kX7_123 : VW RX7 123 yX7_isOff cX7_isOff 3 (some .boolean) 2 := ⟨(in5 181 rfl rfl), (in5 183 rfl rfl), (inP 30 rfl rfl), (in1 6 rfl rfl), (in5 184 rfl rfl), ⟨by decide, by decide, by decide +kernel⟩⟩
theorem kL_210 : VW RL 210 yX7_isRevokedByLists cX7_isRevokedByLists 3 (some .boolean) 2 := ⟨(in5 185 rfl rfl), (in5 186 rfl rfl), (in5 187 rfl rfl), (in1 6 rfl rfl), (in5 188 rfl rfl), ⟨by decide, by decide, by decide +kernel⟩⟩
theorem kX7_126 : VW RX7 126 yX7_isRevoked cX7_isRevoked 3 (some .boolean) 2 := ⟨(in5 189 rfl rfl), (in5 174 rfl rfl), (in5 175 rfl rfl), (in1 6 rfl rfl), (in5 176 rfl rfl), ⟨by decide, by decide, by decide +kernel⟩⟩
theorem kL_213 : VW RL 213 yX7_candidates cX7_candidates 4 (some .int) 1 := ⟨(in5 190 rfl rfl), (in5 191 rfl rfl), (in5 192 rfl rfl), (in1 6 rfl rfl), (in5 193 rfl rfl), ⟨by decide, by decide, by decide +kernel⟩⟩
theorem kX7_129 : VW RX7 129 yX7_isCandidate cX7_isCandidate 3 (some .boolean) 2 := ⟨(in5 194 rfl rfl), (in5 196 rfl rfl), (inP 31 rfl rfl), (in1 6 rfl rfl), (in5 197 rfl rfl), ⟨by decide, by decide, by decide +kernel⟩⟩
theorem kL_216 : VW RL 216 yX7_candidateAt cX7_candidateAt 4 (some .int) 2 := ⟨(in5 198 rfl rfl), (in5 199 rfl rfl), (in5 200 rfl rfl), (in1 6 rfl rfl), (in5 201 rfl rfl), ⟨by decide, by decide, by decide +kernel⟩⟩
theorem kX7_132 : VW RX7 132 yX7_candidate cX7_candidate 5 (some .int) 2 := ⟨(in5 202 rfl rfl), (in5 204 rfl rfl), (inP 32 rfl rfl), (in1 6 rfl rfl), (in5 205 rfl rfl), ⟨by decide, by decide, by decide +kernel⟩⟩
theorem kL_219 : VW RL 219 yX7_chainSize cX7_chainSize 3 (some .int) 2 := ⟨(in5 206 rfl rfl), (in5 207 rfl rfl), (in5 208 rfl rfl), (in1 6 rfl rfl), (in5 209 rfl rfl), ⟨by decide, by decide, by decide +kernel⟩⟩
theorem kX7_152 : VW RX7 152 yX7_best cX7_best 4 (some .int) 2 := ⟨(in5 210 rfl rfl), (in5 212 rfl rfl), (inP 33 rfl rfl), (in1 6 rfl rfl), (in5 213 rfl rfl), ⟨by decide, by decide, by decide +kernel⟩⟩
theorem kX7_149 : VW RX7 149 yX7_canBegin cX7_canBegin 3 (some .boolean) 2 := ⟨(in5 214 rfl rfl), (in5 216 rfl rfl), (inP 34 rfl rfl), (in1 6 rfl rfl), (in5 217 rfl rfl), ⟨by decide, by decide, by decide +kernel⟩⟩
theorem kX7_135 : VW RX7 135 yX7_isValid cX7_isValid 3 (some .boolean) 2 := ⟨(in5 218 rfl rfl), (in5 220 rfl rfl), (inP 35 rfl rfl), (in1 6 rfl rfl), (in5 221 rfl rfl), ⟨by decide, by decide, by decide +kernel⟩⟩
theorem kX7_146 : VW RX7 146 yX7_finds cX7_finds 6 (some .boolean) 3 := ⟨(in5 222 rfl rfl), (in5 224 rfl rfl), (inP 36 rfl rfl), (in1 6 rfl rfl), (in5 225 rfl rfl), ⟨by decide, by decide, by decide +kernel⟩⟩
theorem kX7_142 : VW RX7 142 yX7_refusal cX7_refusal 6 (some .char) 4 := ⟨(in5 226 rfl rfl), (in5 228 rfl rfl), (inP 37 rfl rfl), (in1 6 rfl rfl), (in5 229 rfl rfl), ⟨by decide, by decide, by decide +kernel⟩⟩
theorem kX7_138 : VW RX7 138 yX7_fitsNames cX7_fitsNames 6 (some .boolean) 3 := ⟨(in5 230 rfl rfl), (in5 232 rfl rfl), (inP 38 rfl rfl), (in1 6 rfl rfl), (in5 233 rfl rfl), ⟨by decide, by decide, by decide +kernel⟩⟩
theorem kL_222 : VW RL 222 yX7_chainAt cX7_chainAt 5 (some .int) 3 := ⟨(in5 234 rfl rfl), (in5 235 rfl rfl), (in5 236 rfl rfl), (in1 6 rfl rfl), (in5 237 rfl rfl), ⟨by decide, by decide, by decide +kernel⟩⟩
theorem kL_225 : VW RL 225 yX7_goodChains cX7_goodChains 3 (some .int) 2 := ⟨(in5 238 rfl rfl), (in5 239 rfl rfl), (in6 0 rfl rfl), (in1 6 rfl rfl), (in6 1 rfl rfl), ⟨by decide, by decide, by decide +kernel⟩⟩
theorem kX7_158 : VW RX7 158 yX7_counts cX7_counts 5 none 2 := ⟨(in6 2 rfl rfl), (in6 4 rfl rfl), (inP 39 rfl rfl), (in1 6 rfl rfl), (in6 5 rfl rfl), ⟨by decide, by decide, by decide +kernel⟩⟩
theorem kL_228 : VW RL 228 yX7_goodChainsByWalks cX7_goodChainsByWalks 3 (some .int) 2 := ⟨(in6 6 rfl rfl), (in6 7 rfl rfl), (in6 8 rfl rfl), (in1 6 rfl rfl), (in6 9 rfl rfl), ⟨by decide, by decide, by decide +kernel⟩⟩
theorem kX7_162 : VW RX7 162 yX7_goodChains cX7_goodChains 3 (some .int) 2 := ⟨(in6 10 rfl rfl), (in5 239 rfl rfl), (in6 0 rfl rfl), (in1 6 rfl rfl), (in6 1 rfl rfl), ⟨by decide, by decide, by decide +kernel⟩⟩
theorem kL_231 : VW RL 231 yX7_begin cX7_begin 3 (some .char) 2 := ⟨(in6 11 rfl rfl), (in6 12 rfl rfl), (in6 13 rfl rfl), (in1 6 rfl rfl), (in6 14 rfl rfl), ⟨by decide, by decide, by decide +kernel⟩⟩
theorem kL_234 : VW RL 234 yX7_step cX7_step 4 (some .char) 1 := ⟨(in6 15 rfl rfl), (in6 16 rfl rfl), (in6 17 rfl rfl), (in1 6 rfl rfl), (in6 18 rfl rfl), ⟨by decide, by decide, by decide +kernel⟩⟩
theorem kL_238 : VW RL 238 yX7_reached cX7_reached 1 (some .int) 0 := ⟨(in6 19 rfl rfl), (in6 20 rfl rfl), (in6 21 rfl rfl), (in1 6 rfl rfl), (in6 22 rfl rfl), ⟨by decide, by decide, by decide +kernel⟩⟩
theorem kL_242 : VW RL 242 yX7_walked cX7_walked 1 (some .int) 0 := ⟨(in6 23 rfl rfl), (in6 24 rfl rfl), (in6 25 rfl rfl), (in1 6 rfl rfl), (in6 26 rfl rfl), ⟨by decide, by decide, by decide +kernel⟩⟩
theorem kL_247 : VW RL 247 yX7_isThrough cX7_isThrough 1 (some .boolean) 0 := ⟨(in6 27 rfl rfl), (in6 28 rfl rfl), (in6 29 rfl rfl), (in1 6 rfl rfl), (in6 30 rfl rfl), ⟨by decide, by decide, by decide +kernel⟩⟩
theorem kL_250 : VW RL 250 yX7_rootOf cX7_rootOf 2 (some .long) 1 := ⟨(in6 31 rfl rfl), (in6 32 rfl rfl), (in6 33 rfl rfl), (in1 6 rfl rfl), (in6 34 rfl rfl), ⟨by decide, by decide, by decide +kernel⟩⟩
theorem kX7_200 : VW RX7 200 yX7_isNoSize cX7_isNoSize 2 (some .boolean) 1 := ⟨(in6 35 rfl rfl), (in6 37 rfl rfl), (inP 40 rfl rfl), (in1 6 rfl rfl), (in6 38 rfl rfl), ⟨by decide, by decide, by decide +kernel⟩⟩
theorem kX7_192 : VW RX7 192 yX7_rootFrom cX7_rootFrom 4 (some .long) 2 := ⟨(in6 39 rfl rfl), (in6 41 rfl rfl), (inP 41 rfl rfl), (in1 6 rfl rfl), (in6 42 rfl rfl), ⟨by decide, by decide, by decide +kernel⟩⟩
theorem cX7_179 : Cond.constantLong RX7 179 131 ∈ wAll := (in6 43 rfl rfl)
theorem cX7_181 : Cond.constantLong RX7 181 8191 ∈ wAll := (in6 44 rfl rfl)
theorem cX7_183 : Cond.constantLong RX7 183 127 ∈ wAll := (in6 45 rfl rfl)
theorem cX7_185 : Cond.constantLong RX7 185 65537 ∈ wAll := (in6 46 rfl rfl)
theorem cX7_187 : Cond.constantLong RX7 187 11 ∈ wAll := (in6 47 rfl rfl)
theorem cX7_177 : Cond.constantLong RX7 177 1000000007 ∈ wAll := (in6 48 rfl rfl)
theorem kX7_189 : SW RX7 189 yX7_split cX7_split 2 (some .int) 1 := ⟨(in6 49 rfl rfl), (in6 50 rfl rfl), (in1 6 rfl rfl), (in6 51 rfl rfl), ⟨by decide, by decide, by decide +kernel⟩⟩
theorem kX7_196 : SW RX7 196 yX7_joined cX7_joined 4 (some .long) 2 := ⟨(in6 52 rfl rfl), (in6 53 rfl rfl), (in1 6 rfl rfl), (in6 54 rfl rfl), ⟨by decide, by decide, by decide +kernel⟩⟩
theorem cX7_171 : Cond.constantLong RX7 171 1009 ∈ wAll := (in6 55 rfl rfl)
theorem cX7_173 : Cond.constantLong RX7 173 9176 ∈ wAll := (in6 56 rfl rfl)
theorem cX7_175 : Cond.constantLong RX7 175 31 ∈ wAll := (in6 57 rfl rfl)
theorem kL_253 : VW RL 253 yX7_rootByJoining cX7_rootByJoining 2 (some .long) 1 := ⟨(in6 58 rfl rfl), (in6 59 rfl rfl), (in6 60 rfl rfl), (in1 6 rfl rfl), (in6 61 rfl rfl), ⟨by decide, by decide, by decide +kernel⟩⟩
theorem kX7_203 : VW RX7 203 yX7_rootOf cX7_rootOf 2 (some .long) 1 := ⟨(in6 62 rfl rfl), (in6 32 rfl rfl), (in6 33 rfl rfl), (in1 6 rfl rfl), (in6 34 rfl rfl), ⟨by decide, by decide, by decide +kernel⟩⟩
theorem kL_256 : VW RL 256 yX7_proofSize cX7_proofSize 3 (some .int) 2 := ⟨(in6 63 rfl rfl), (in6 64 rfl rfl), (in6 65 rfl rfl), (in1 6 rfl rfl), (in6 66 rfl rfl), ⟨by decide, by decide, by decide +kernel⟩⟩
theorem kX7_218 : VW RX7 218 yX7_isProof cX7_isProof 3 (some .boolean) 2 := ⟨(in6 67 rfl rfl), (in6 69 rfl rfl), (inP 42 rfl rfl), (in1 6 rfl rfl), (in6 70 rfl rfl), ⟨by decide, by decide, by decide +kernel⟩⟩
theorem kX7_210 : VW RX7 210 yX7_proves cX7_proves 5 none 3 := ⟨(in6 71 rfl rfl), (in6 73 rfl rfl), (inP 43 rfl rfl), (in1 6 rfl rfl), (in6 74 rfl rfl), ⟨by decide, by decide, by decide +kernel⟩⟩
theorem kX7_214 : VW RX7 214 yX7_adds cX7_adds 3 none 1 := ⟨(in6 75 rfl rfl), (in6 77 rfl rfl), (inP 44 rfl rfl), (in1 6 rfl rfl), (in6 78 rfl rfl), ⟨by decide, by decide, by decide +kernel⟩⟩
theorem kL_259 : VW RL 259 yX7_proofAt cX7_proofAt 4 (some .long) 3 := ⟨(in6 79 rfl rfl), (in6 80 rfl rfl), (in6 81 rfl rfl), (in1 6 rfl rfl), (in6 82 rfl rfl), ⟨by decide, by decide, by decide +kernel⟩⟩
theorem kX7_221 : VW RX7 221 yX7_rowAt cX7_rowAt 2 (some .long) 1 := ⟨(in6 83 rfl rfl), (in6 85 rfl rfl), (inP 45 rfl rfl), (in1 6 rfl rfl), (in6 86 rfl rfl), ⟨by decide, by decide, by decide +kernel⟩⟩
theorem kL_262 : VW RL 262 yX7_rootByProof cX7_rootByProof 3 (some .long) 2 := ⟨(in6 87 rfl rfl), (in6 88 rfl rfl), (in6 89 rfl rfl), (in1 6 rfl rfl), (in6 90 rfl rfl), ⟨by decide, by decide, by decide +kernel⟩⟩
theorem kL_265 : VW RL 265 yX7_growthSize cX7_growthSize 3 (some .int) 2 := ⟨(in6 91 rfl rfl), (in6 92 rfl rfl), (in6 93 rfl rfl), (in1 6 rfl rfl), (in6 94 rfl rfl), ⟨by decide, by decide, by decide +kernel⟩⟩
theorem kX7_227 : VW RX7 227 yX7_isGrowth cX7_isGrowth 3 (some .boolean) 2 := ⟨(in6 95 rfl rfl), (in6 97 rfl rfl), (inP 46 rfl rfl), (in1 6 rfl rfl), (in6 98 rfl rfl), ⟨by decide, by decide, by decide +kernel⟩⟩
theorem kX7_224 : VW RX7 224 yX7_grows cX7_grows 5 none 3 := ⟨(in6 99 rfl rfl), (in6 101 rfl rfl), (inP 47 rfl rfl), (in1 6 rfl rfl), (in6 102 rfl rfl), ⟨by decide, by decide, by decide +kernel⟩⟩
theorem kL_268 : VW RL 268 yX7_growthAt cX7_growthAt 4 (some .long) 3 := ⟨(in6 103 rfl rfl), (in6 104 rfl rfl), (in6 105 rfl rfl), (in1 6 rfl rfl), (in6 106 rfl rfl), ⟨by decide, by decide, by decide +kernel⟩⟩
theorem kL_272 : VW RL 272 yX7_soundShare cX7_soundShare 3 (some .float) 0 := ⟨(in6 107 rfl rfl), (in6 108 rfl rfl), (in6 109 rfl rfl), (in1 6 rfl rfl), (in6 110 rfl rfl), ⟨by decide, by decide, by decide +kernel⟩⟩
theorem kL_275 : VW RL 275 yX7_meanChain cX7_meanChain 5 (some .double) 0 := ⟨(in6 111 rfl rfl), (in6 112 rfl rfl), (in6 113 rfl rfl), (in1 6 rfl rfl), (in6 114 rfl rfl), ⟨by decide, by decide, by decide +kernel⟩⟩
theorem ac115 : Cond.arrayClass Jvm.ClassFile.FieldType.double ∈ wAll := (in6 115 rfl rfl)
theorem oInst : Cond.instanceMethod Lib.objectInit ∈ wAll := (in1 25 rfl rfl)
theorem oCode : Cond.code Lib.objectInit ⟨#[0xb1]⟩ 1 none ∈ wAll := (in1 26 rfl rfl)
def strL : List (Nat × String) := [(296, "this is not a name"), (299, "the days are not between 1 and 999"), (301, "the length is not between 0 and 5"), (307, "there are 40 certificates"), (278, "there is no such certificate"), (305, "it is no authority"), (87, "the subject has the key of the issuer"), (98, "three certificates have this key"), (107, "its key has issued a certificate"), (118, "it is no root"), (128, "a root is not revoked"), (133, "it is marked already"), (303, "the day is less than 0"), (284, "there is no such rank"), (195, "the best chain has no such index"), (289, "no walk was begun"), (310, "the log has no such size"), (347, "the log of this size has no such entry"), (360, "the proof has no such index"), (352, "the smaller size is not between 1 and the size"), (265, "there are no certificates"), (274, "no certificate has a good chain")]
def auxW : Cond → Bool
  | .declares _ => true
  | .castable .. => true
  | .methodLinkNest .. => true
  | _ => false
end
section
theorem dX0_init_0 : decode cX0_init 0 = .ok (.aload_n 0, 1) := by decide +kernel
theorem dX0_init_1 : decode cX0_init 1 = .ok (.invokespecial 3, 3) := by decide +kernel
theorem dX0_init_4 : decode cX0_init 4 = .ok (.aload_n 0, 1) := by decide +kernel
theorem dX0_init_5 : decode cX0_init 5 = .ok (.iload_n 1, 1) := by decide +kernel
theorem dX0_init_6 : decode cX0_init 6 = .ok (.putfield 9, 3) := by decide +kernel
theorem dX0_init_9 : decode cX0_init 9 = .ok (.aload_n 0, 1) := by decide +kernel
theorem dX0_init_10 : decode cX0_init 10 = .ok (.aload_n 2, 1) := by decide +kernel
theorem dX0_init_11 : decode cX0_init 11 = .ok (.putfield 15, 3) := by decide +kernel
theorem dX0_init_14 : decode cX0_init 14 = .ok (.aload_n 0, 1) := by decide +kernel
theorem dX0_init_15 : decode cX0_init 15 = .ok (.aload_n 3, 1) := by decide +kernel
theorem dX0_init_16 : decode cX0_init 16 = .ok (.putfield 19, 3) := by decide +kernel
theorem dX0_init_19 : decode cX0_init 19 = .ok (.aload_n 0, 1) := by decide +kernel
theorem dX0_init_20 : decode cX0_init 20 = .ok (.iload 4, 2) := by decide +kernel
theorem dX0_init_22 : decode cX0_init 22 = .ok (.putfield 22, 3) := by decide +kernel
theorem dX0_init_25 : decode cX0_init 25 = .ok (.aload_n 0, 1) := by decide +kernel
theorem dX0_init_26 : decode cX0_init 26 = .ok (.iload 5, 2) := by decide +kernel
theorem dX0_init_28 : decode cX0_init 28 = .ok (.putfield 25, 3) := by decide +kernel
theorem dX0_init_31 : decode cX0_init 31 = .ok (.aload_n 0, 1) := by decide +kernel
theorem dX0_init_32 : decode cX0_init 32 = .ok (.iload 6, 2) := by decide +kernel
theorem dX0_init_34 : decode cX0_init 34 = .ok (.putfield 28, 3) := by decide +kernel
theorem dX0_init_37 : decode cX0_init 37 = .ok (.aload_n 0, 1) := by decide +kernel
theorem dX0_init_38 : decode cX0_init 38 = .ok (.iconst 0, 1) := by decide +kernel
theorem dX0_init_39 : decode cX0_init 39 = .ok (.putfield 31, 3) := by decide +kernel
theorem dX0_init_42 : decode cX0_init 42 = .ok (.aload_n 0, 1) := by decide +kernel
theorem dX0_init_43 : decode cX0_init 43 = .ok (.iconst 0, 1) := by decide +kernel
theorem dX0_init_44 : decode cX0_init 44 = .ok (.putfield 34, 3) := by decide +kernel
theorem dX0_init_47 : decode cX0_init 47 = .ok (.aload_n 0, 1) := by decide +kernel
theorem dX0_init_48 : decode cX0_init 48 = .ok (.iconst 0, 1) := by decide +kernel
theorem dX0_init_49 : decode cX0_init 49 = .ok (.putfield 37, 3) := by decide +kernel
theorem dX0_init_52 : decode cX0_init 52 = .ok (.aload_n 0, 1) := by decide +kernel
theorem dX0_init_53 : decode cX0_init 53 = .ok (.iconst 0, 1) := by decide +kernel
theorem dX0_init_54 : decode cX0_init 54 = .ok (.putfield 41, 3) := by decide +kernel
theorem dX0_init_57 : decode cX0_init 57 = .ok (.aload_n 0, 1) := by decide +kernel
theorem dX0_init_58 : decode cX0_init 58 = .ok (.iconst (-1), 1) := by decide +kernel
theorem dX0_init_59 : decode cX0_init 59 = .ok (.putfield 44, 3) := by decide +kernel
theorem dX0_init_62 : decode cX0_init 62 = .ok (.return_, 1) := by decide +kernel
theorem dX0_isRoot_0 : decode cX0_isRoot 0 = .ok (.aload_n 0, 1) := by decide +kernel
theorem dX0_isRoot_1 : decode cX0_isRoot 1 = .ok (.getfield 15, 3) := by decide +kernel
theorem dX0_isRoot_4 : decode cX0_isRoot 4 = .ok (.aload_n 0, 1) := by decide +kernel
theorem dX0_isRoot_5 : decode cX0_isRoot 5 = .ok (.getfield 19, 3) := by decide +kernel
theorem dX0_isRoot_8 : decode cX0_isRoot 8 = .ok (.if_acmp .ne 7, 3) := by decide +kernel
theorem dX0_isRoot_11 : decode cX0_isRoot 11 = .ok (.iconst 1, 1) := by decide +kernel
theorem dX0_isRoot_12 : decode cX0_isRoot 12 = .ok (.goto 4, 3) := by decide +kernel
theorem dX0_isRoot_15 : decode cX0_isRoot 15 = .ok (.iconst 0, 1) := by decide +kernel
theorem dX0_isRoot_16 : decode cX0_isRoot 16 = .ok (.ireturn, 1) := by decide +kernel
theorem dX0_isAuthority_0 : decode cX0_isAuthority 0 = .ok (.aload_n 0, 1) := by decide +kernel
theorem dX0_isAuthority_1 : decode cX0_isAuthority 1 = .ok (.getfield 28, 3) := by decide +kernel
theorem dX0_isAuthority_4 : decode cX0_isAuthority 4 = .ok (.iconst (-1), 1) := by decide +kernel
theorem dX0_isAuthority_5 : decode cX0_isAuthority 5 = .ok (.if_icmp .eq 7, 3) := by decide +kernel
theorem dX0_isAuthority_8 : decode cX0_isAuthority 8 = .ok (.iconst 1, 1) := by decide +kernel
theorem dX0_isAuthority_9 : decode cX0_isAuthority 9 = .ok (.goto 4, 3) := by decide +kernel
theorem dX0_isAuthority_12 : decode cX0_isAuthority 12 = .ok (.iconst 0, 1) := by decide +kernel
theorem dX0_isAuthority_13 : decode cX0_isAuthority 13 = .ok (.ireturn, 1) := by decide +kernel
theorem dX0_isValidOn_0 : decode cX0_isValidOn 0 = .ok (.aload_n 0, 1) := by decide +kernel
theorem dX0_isValidOn_1 : decode cX0_isValidOn 1 = .ok (.getfield 22, 3) := by decide +kernel
theorem dX0_isValidOn_4 : decode cX0_isValidOn 4 = .ok (.iload_n 1, 1) := by decide +kernel
theorem dX0_isValidOn_5 : decode cX0_isValidOn 5 = .ok (.if_icmp .gt 15, 3) := by decide +kernel
theorem dX0_isValidOn_8 : decode cX0_isValidOn 8 = .ok (.iload_n 1, 1) := by decide +kernel
theorem dX0_isValidOn_9 : decode cX0_isValidOn 9 = .ok (.aload_n 0, 1) := by decide +kernel
theorem dX0_isValidOn_10 : decode cX0_isValidOn 10 = .ok (.getfield 25, 3) := by decide +kernel
theorem dX0_isValidOn_13 : decode cX0_isValidOn 13 = .ok (.if_icmp .gt 7, 3) := by decide +kernel
theorem dX0_isValidOn_16 : decode cX0_isValidOn 16 = .ok (.iconst 1, 1) := by decide +kernel
theorem dX0_isValidOn_17 : decode cX0_isValidOn 17 = .ok (.goto 4, 3) := by decide +kernel
theorem dX0_isValidOn_20 : decode cX0_isValidOn 20 = .ok (.iconst 0, 1) := by decide +kernel
theorem dX0_isValidOn_21 : decode cX0_isValidOn 21 = .ok (.ireturn, 1) := by decide +kernel
theorem dX0_isOutOfForceOn_0 : decode cX0_isOutOfForceOn 0 = .ok (.aload_n 0, 1) := by decide +kernel
theorem dX0_isOutOfForceOn_1 : decode cX0_isOutOfForceOn 1 = .ok (.getfield 44, 3) := by decide +kernel
theorem dX0_isOutOfForceOn_4 : decode cX0_isOutOfForceOn 4 = .ok (.iconst (-1), 1) := by decide +kernel
theorem dX0_isOutOfForceOn_5 : decode cX0_isOutOfForceOn 5 = .ok (.if_icmp .eq 15, 3) := by decide +kernel
theorem dX0_isOutOfForceOn_8 : decode cX0_isOutOfForceOn 8 = .ok (.aload_n 0, 1) := by decide +kernel
theorem dX0_isOutOfForceOn_9 : decode cX0_isOutOfForceOn 9 = .ok (.getfield 44, 3) := by decide +kernel
theorem dX0_isOutOfForceOn_12 : decode cX0_isOutOfForceOn 12 = .ok (.iload_n 1, 1) := by decide +kernel
theorem dX0_isOutOfForceOn_13 : decode cX0_isOutOfForceOn 13 = .ok (.if_icmp .gt 7, 3) := by decide +kernel
theorem dX0_isOutOfForceOn_16 : decode cX0_isOutOfForceOn 16 = .ok (.iconst 1, 1) := by decide +kernel
theorem dX0_isOutOfForceOn_17 : decode cX0_isOutOfForceOn 17 = .ok (.goto 4, 3) := by decide +kernel
theorem dX0_isOutOfForceOn_20 : decode cX0_isOutOfForceOn 20 = .ok (.iconst 0, 1) := by decide +kernel
theorem dX0_isOutOfForceOn_21 : decode cX0_isOutOfForceOn 21 = .ok (.ireturn, 1) := by decide +kernel
theorem dX0_refusalOn_0 : decode cX0_refusalOn 0 = .ok (.aload_n 0, 1) := by decide +kernel
theorem dX0_refusalOn_1 : decode cX0_refusalOn 1 = .ok (.iload_n 1, 1) := by decide +kernel
theorem dX0_refusalOn_2 : decode cX0_refusalOn 2 = .ok (.invokevirtual 47, 3) := by decide +kernel
theorem dX0_refusalOn_5 : decode cX0_refusalOn 5 = .ok (.ifCond .ne 6, 3) := by decide +kernel
theorem dX0_refusalOn_8 : decode cX0_refusalOn 8 = .ok (.bipush 116, 2) := by decide +kernel
theorem dX0_refusalOn_10 : decode cX0_refusalOn 10 = .ok (.ireturn, 1) := by decide +kernel
theorem dX0_refusalOn_11 : decode cX0_refusalOn 11 = .ok (.aload_n 0, 1) := by decide +kernel
theorem dX0_refusalOn_12 : decode cX0_refusalOn 12 = .ok (.iload_n 1, 1) := by decide +kernel
theorem dX0_refusalOn_13 : decode cX0_refusalOn 13 = .ok (.invokevirtual 51, 3) := by decide +kernel
theorem dX0_refusalOn_16 : decode cX0_refusalOn 16 = .ok (.ifCond .eq 8, 3) := by decide +kernel
theorem dX0_refusalOn_19 : decode cX0_refusalOn 19 = .ok (.bipush 114, 2) := by decide +kernel
theorem dX0_refusalOn_21 : decode cX0_refusalOn 21 = .ok (.goto 5, 3) := by decide +kernel
theorem dX0_refusalOn_24 : decode cX0_refusalOn 24 = .ok (.bipush 111, 2) := by decide +kernel
theorem dX0_refusalOn_26 : decode cX0_refusalOn 26 = .ok (.ireturn, 1) := by decide +kernel
theorem dX0_allows_0 : decode cX0_allows 0 = .ok (.aload_n 0, 1) := by decide +kernel
theorem dX0_allows_1 : decode cX0_allows 1 = .ok (.getfield 31, 3) := by decide +kernel
theorem dX0_allows_4 : decode cX0_allows 4 = .ok (.ifCond .eq 16, 3) := by decide +kernel
theorem dX0_allows_7 : decode cX0_allows 7 = .ok (.iload_n 1, 1) := by decide +kernel
theorem dX0_allows_8 : decode cX0_allows 8 = .ok (.aload_n 0, 1) := by decide +kernel
theorem dX0_allows_9 : decode cX0_allows 9 = .ok (.getfield 31, 3) := by decide +kernel
theorem dX0_allows_12 : decode cX0_allows 12 = .ok (.invokestatic 54, 3) := by decide +kernel
theorem dX0_allows_15 : decode cX0_allows 15 = .ok (.ifCond .ne 5, 3) := by decide +kernel
theorem dX0_allows_18 : decode cX0_allows 18 = .ok (.iconst 0, 1) := by decide +kernel
theorem dX0_allows_19 : decode cX0_allows 19 = .ok (.ireturn, 1) := by decide +kernel
theorem dX0_allows_20 : decode cX0_allows 20 = .ok (.aload_n 0, 1) := by decide +kernel
theorem dX0_allows_21 : decode cX0_allows 21 = .ok (.getfield 34, 3) := by decide +kernel
theorem dX0_allows_24 : decode cX0_allows 24 = .ok (.ifCond .eq 14, 3) := by decide +kernel
theorem dX0_allows_27 : decode cX0_allows 27 = .ok (.iload_n 1, 1) := by decide +kernel
theorem dX0_allows_28 : decode cX0_allows 28 = .ok (.aload_n 0, 1) := by decide +kernel
theorem dX0_allows_29 : decode cX0_allows 29 = .ok (.getfield 34, 3) := by decide +kernel
theorem dX0_allows_32 : decode cX0_allows 32 = .ok (.invokestatic 54, 3) := by decide +kernel
theorem dX0_allows_35 : decode cX0_allows 35 = .ok (.ifCond .ne 7, 3) := by decide +kernel
theorem dX0_allows_38 : decode cX0_allows 38 = .ok (.iconst 1, 1) := by decide +kernel
theorem dX0_allows_39 : decode cX0_allows 39 = .ok (.goto 4, 3) := by decide +kernel
theorem dX0_allows_42 : decode cX0_allows 42 = .ok (.iconst 0, 1) := by decide +kernel
theorem dX0_allows_43 : decode cX0_allows 43 = .ok (.ireturn, 1) := by decide +kernel
theorem dX0_countCandidates_0 : decode cX0_countCandidates 0 = .ok (.iconst 0, 1) := by decide +kernel
theorem dX0_countCandidates_1 : decode cX0_countCandidates 1 = .ok (.istore_n 1, 1) := by decide +kernel
theorem dX0_countCandidates_2 : decode cX0_countCandidates 2 = .ok (.aload_n 0, 1) := by decide +kernel
theorem dX0_countCandidates_3 : decode cX0_countCandidates 3 = .ok (.getfield 19, 3) := by decide +kernel
theorem dX0_countCandidates_6 : decode cX0_countCandidates 6 = .ok (.getfield 58, 3) := by decide +kernel
theorem dX0_countCandidates_9 : decode cX0_countCandidates 9 = .ok (.astore_n 2, 1) := by decide +kernel
theorem dX0_countCandidates_10 : decode cX0_countCandidates 10 = .ok (.aload_n 2, 1) := by decide +kernel
theorem dX0_countCandidates_11 : decode cX0_countCandidates 11 = .ok (.arraylength, 1) := by decide +kernel
theorem dX0_countCandidates_12 : decode cX0_countCandidates 12 = .ok (.istore_n 3, 1) := by decide +kernel
theorem dX0_countCandidates_13 : decode cX0_countCandidates 13 = .ok (.iconst 0, 1) := by decide +kernel
theorem dX0_countCandidates_14 : decode cX0_countCandidates 14 = .ok (.istore 4, 2) := by decide +kernel
theorem dX0_countCandidates_16 : decode cX0_countCandidates 16 = .ok (.iload 4, 2) := by decide +kernel
theorem dX0_countCandidates_18 : decode cX0_countCandidates 18 = .ok (.iload_n 3, 1) := by decide +kernel
theorem dX0_countCandidates_19 : decode cX0_countCandidates 19 = .ok (.if_icmp .ge 29, 3) := by decide +kernel
theorem dX0_countCandidates_22 : decode cX0_countCandidates 22 = .ok (.aload_n 2, 1) := by decide +kernel
theorem dX0_countCandidates_23 : decode cX0_countCandidates 23 = .ok (.iload 4, 2) := by decide +kernel
theorem dX0_countCandidates_25 : decode cX0_countCandidates 25 = .ok (.aaload, 1) := by decide +kernel
theorem dX0_countCandidates_26 : decode cX0_countCandidates 26 = .ok (.astore 5, 2) := by decide +kernel
theorem dX0_countCandidates_28 : decode cX0_countCandidates 28 = .ok (.aload 5, 2) := by decide +kernel
theorem dX0_countCandidates_30 : decode cX0_countCandidates 30 = .ok (.ifnull 12, 3) := by decide +kernel
theorem dX0_countCandidates_33 : decode cX0_countCandidates 33 = .ok (.aload 5, 2) := by decide +kernel
theorem dX0_countCandidates_35 : decode cX0_countCandidates 35 = .ok (.aload_n 0, 1) := by decide +kernel
theorem dX0_countCandidates_36 : decode cX0_countCandidates 36 = .ok (.if_acmp .eq 6, 3) := by decide +kernel
theorem dX0_countCandidates_39 : decode cX0_countCandidates 39 = .ok (.iinc 1 1, 3) := by decide +kernel
theorem dX0_countCandidates_42 : decode cX0_countCandidates 42 = .ok (.iinc 4 1, 3) := by decide +kernel
theorem dX0_countCandidates_45 : decode cX0_countCandidates 45 = .ok (.goto (-29), 3) := by decide +kernel
theorem dX0_countCandidates_48 : decode cX0_countCandidates 48 = .ok (.iload_n 1, 1) := by decide +kernel
theorem dX0_countCandidates_49 : decode cX0_countCandidates 49 = .ok (.ireturn, 1) := by decide +kernel
theorem dX0_candidate_0 : decode cX0_candidate 0 = .ok (.iconst 0, 1) := by decide +kernel
theorem dX0_candidate_1 : decode cX0_candidate 1 = .ok (.istore_n 2, 1) := by decide +kernel
theorem dX0_candidate_2 : decode cX0_candidate 2 = .ok (.aload_n 0, 1) := by decide +kernel
theorem dX0_candidate_3 : decode cX0_candidate 3 = .ok (.getfield 19, 3) := by decide +kernel
theorem dX0_candidate_6 : decode cX0_candidate 6 = .ok (.getfield 58, 3) := by decide +kernel
theorem dX0_candidate_9 : decode cX0_candidate 9 = .ok (.astore_n 3, 1) := by decide +kernel
theorem dX0_candidate_10 : decode cX0_candidate 10 = .ok (.aload_n 3, 1) := by decide +kernel
theorem dX0_candidate_11 : decode cX0_candidate 11 = .ok (.arraylength, 1) := by decide +kernel
theorem dX0_candidate_12 : decode cX0_candidate 12 = .ok (.istore 4, 2) := by decide +kernel
theorem dX0_candidate_14 : decode cX0_candidate 14 = .ok (.iconst 0, 1) := by decide +kernel
theorem dX0_candidate_15 : decode cX0_candidate 15 = .ok (.istore 5, 2) := by decide +kernel
theorem dX0_candidate_17 : decode cX0_candidate 17 = .ok (.iload 5, 2) := by decide +kernel
theorem dX0_candidate_19 : decode cX0_candidate 19 = .ok (.iload 4, 2) := by decide +kernel
theorem dX0_candidate_21 : decode cX0_candidate 21 = .ok (.if_icmp .ge 37, 3) := by decide +kernel
theorem dX0_candidate_24 : decode cX0_candidate 24 = .ok (.aload_n 3, 1) := by decide +kernel
theorem dX0_candidate_25 : decode cX0_candidate 25 = .ok (.iload 5, 2) := by decide +kernel
theorem dX0_candidate_27 : decode cX0_candidate 27 = .ok (.aaload, 1) := by decide +kernel
theorem dX0_candidate_28 : decode cX0_candidate 28 = .ok (.astore 6, 2) := by decide +kernel
theorem dX0_candidate_30 : decode cX0_candidate 30 = .ok (.aload 6, 2) := by decide +kernel
theorem dX0_candidate_32 : decode cX0_candidate 32 = .ok (.ifnull 20, 3) := by decide +kernel
theorem dX0_candidate_35 : decode cX0_candidate 35 = .ok (.aload 6, 2) := by decide +kernel
theorem dX0_candidate_37 : decode cX0_candidate 37 = .ok (.aload_n 0, 1) := by decide +kernel
theorem dX0_candidate_38 : decode cX0_candidate 38 = .ok (.if_acmp .eq 14, 3) := by decide +kernel
theorem dX0_candidate_41 : decode cX0_candidate 41 = .ok (.iload_n 2, 1) := by decide +kernel
theorem dX0_candidate_42 : decode cX0_candidate 42 = .ok (.iload_n 1, 1) := by decide +kernel
theorem dX0_candidate_43 : decode cX0_candidate 43 = .ok (.if_icmp .ne 6, 3) := by decide +kernel
theorem dX0_candidate_46 : decode cX0_candidate 46 = .ok (.aload 6, 2) := by decide +kernel
theorem dX0_candidate_48 : decode cX0_candidate 48 = .ok (.areturn, 1) := by decide +kernel
theorem dX0_candidate_49 : decode cX0_candidate 49 = .ok (.iinc 2 1, 3) := by decide +kernel
theorem dX0_candidate_52 : decode cX0_candidate 52 = .ok (.iinc 5 1, 3) := by decide +kernel
theorem dX0_candidate_55 : decode cX0_candidate 55 = .ok (.goto (-38), 3) := by decide +kernel
theorem dX0_candidate_58 : decode cX0_candidate 58 = .ok (.aconst_null, 1) := by decide +kernel
theorem dX0_candidate_59 : decode cX0_candidate 59 = .ok (.areturn, 1) := by decide +kernel
theorem dX1_init_0 : decode cX1_init 0 = .ok (.aload_n 0, 1) := by decide +kernel
theorem dX1_init_1 : decode cX1_init 1 = .ok (.invokespecial 3, 3) := by decide +kernel
theorem dX1_init_4 : decode cX1_init 4 = .ok (.aload_n 0, 1) := by decide +kernel
theorem dX1_init_5 : decode cX1_init 5 = .ok (.bipush 7, 2) := by decide +kernel
theorem dX1_init_7 : decode cX1_init 7 = .ok (.anewarray 9, 3) := by decide +kernel
theorem dX1_init_10 : decode cX1_init 10 = .ok (.putfield 11, 3) := by decide +kernel
theorem dX1_init_13 : decode cX1_init 13 = .ok (.aload_n 0, 1) := by decide +kernel
theorem dX1_init_14 : decode cX1_init 14 = .ok (.iconst 0, 1) := by decide +kernel
theorem dX1_init_15 : decode cX1_init 15 = .ok (.putfield 17, 3) := by decide +kernel
theorem dX1_init_18 : decode cX1_init 18 = .ok (.aload_n 0, 1) := by decide +kernel
theorem dX1_init_19 : decode cX1_init 19 = .ok (.iconst 0, 1) := by decide +kernel
theorem dX1_init_20 : decode cX1_init 20 = .ok (.putfield 21, 3) := by decide +kernel
theorem dX1_init_23 : decode cX1_init 23 = .ok (.return_, 1) := by decide +kernel
theorem dX1_clear_0 : decode cX1_clear 0 = .ok (.aload_n 0, 1) := by decide +kernel
theorem dX1_clear_1 : decode cX1_clear 1 = .ok (.iconst 0, 1) := by decide +kernel
theorem dX1_clear_2 : decode cX1_clear 2 = .ok (.putfield 17, 3) := by decide +kernel
theorem dX1_clear_5 : decode cX1_clear 5 = .ok (.return_, 1) := by decide +kernel
theorem dX1_restart_0 : decode cX1_restart 0 = .ok (.aload_n 0, 1) := by decide +kernel
theorem dX1_restart_1 : decode cX1_restart 1 = .ok (.iconst 0, 1) := by decide +kernel
theorem dX1_restart_2 : decode cX1_restart 2 = .ok (.putfield 17, 3) := by decide +kernel
theorem dX1_restart_5 : decode cX1_restart 5 = .ok (.aload_n 0, 1) := by decide +kernel
theorem dX1_restart_6 : decode cX1_restart 6 = .ok (.iload_n 2, 1) := by decide +kernel
theorem dX1_restart_7 : decode cX1_restart 7 = .ok (.putfield 21, 3) := by decide +kernel
theorem dX1_restart_10 : decode cX1_restart 10 = .ok (.aload_n 0, 1) := by decide +kernel
theorem dX1_restart_11 : decode cX1_restart 11 = .ok (.aload_n 1, 1) := by decide +kernel
theorem dX1_restart_12 : decode cX1_restart 12 = .ok (.invokevirtual 24, 3) := by decide +kernel
theorem dX1_restart_15 : decode cX1_restart 15 = .ok (.pop, 1) := by decide +kernel
theorem dX1_restart_16 : decode cX1_restart 16 = .ok (.return_, 1) := by decide +kernel
theorem dX1_add_0 : decode cX1_add 0 = .ok (.aload_n 0, 1) := by decide +kernel
theorem dX1_add_1 : decode cX1_add 1 = .ok (.getfield 17, 3) := by decide +kernel
theorem dX1_add_4 : decode cX1_add 4 = .ok (.ifCond .lt 15, 3) := by decide +kernel
theorem dX1_add_7 : decode cX1_add 7 = .ok (.aload_n 0, 1) := by decide +kernel
theorem dX1_add_8 : decode cX1_add 8 = .ok (.getfield 17, 3) := by decide +kernel
theorem dX1_add_11 : decode cX1_add 11 = .ok (.aload_n 0, 1) := by decide +kernel
theorem dX1_add_12 : decode cX1_add 12 = .ok (.getfield 11, 3) := by decide +kernel
theorem dX1_add_15 : decode cX1_add 15 = .ok (.arraylength, 1) := by decide +kernel
theorem dX1_add_16 : decode cX1_add 16 = .ok (.if_icmp .lt 5, 3) := by decide +kernel
theorem dX1_add_19 : decode cX1_add 19 = .ok (.iconst 0, 1) := by decide +kernel
theorem dX1_add_20 : decode cX1_add 20 = .ok (.ireturn, 1) := by decide +kernel
theorem dX1_add_21 : decode cX1_add 21 = .ok (.aload_n 0, 1) := by decide +kernel
theorem dX1_add_22 : decode cX1_add 22 = .ok (.getfield 11, 3) := by decide +kernel
theorem dX1_add_25 : decode cX1_add 25 = .ok (.aload_n 0, 1) := by decide +kernel
theorem dX1_add_26 : decode cX1_add 26 = .ok (.getfield 17, 3) := by decide +kernel
theorem dX1_add_29 : decode cX1_add 29 = .ok (.aload_n 1, 1) := by decide +kernel
theorem dX1_add_30 : decode cX1_add 30 = .ok (.aastore, 1) := by decide +kernel
theorem dX1_add_31 : decode cX1_add 31 = .ok (.aload_n 0, 1) := by decide +kernel
theorem dX1_add_32 : decode cX1_add 32 = .ok (.dup, 1) := by decide +kernel
theorem dX1_add_33 : decode cX1_add 33 = .ok (.getfield 17, 3) := by decide +kernel
theorem dX1_add_36 : decode cX1_add 36 = .ok (.iconst 1, 1) := by decide +kernel
theorem dX1_add_37 : decode cX1_add 37 = .ok (.iadd, 1) := by decide +kernel
theorem dX1_add_38 : decode cX1_add 38 = .ok (.putfield 17, 3) := by decide +kernel
theorem dX1_add_41 : decode cX1_add 41 = .ok (.iconst 1, 1) := by decide +kernel
theorem dX1_add_42 : decode cX1_add 42 = .ok (.ireturn, 1) := by decide +kernel
theorem dX1_removeLast_0 : decode cX1_removeLast 0 = .ok (.aload_n 0, 1) := by decide +kernel
theorem dX1_removeLast_1 : decode cX1_removeLast 1 = .ok (.getfield 17, 3) := by decide +kernel
theorem dX1_removeLast_4 : decode cX1_removeLast 4 = .ok (.ifCond .le 13, 3) := by decide +kernel
theorem dX1_removeLast_7 : decode cX1_removeLast 7 = .ok (.aload_n 0, 1) := by decide +kernel
theorem dX1_removeLast_8 : decode cX1_removeLast 8 = .ok (.dup, 1) := by decide +kernel
theorem dX1_removeLast_9 : decode cX1_removeLast 9 = .ok (.getfield 17, 3) := by decide +kernel
theorem dX1_removeLast_12 : decode cX1_removeLast 12 = .ok (.iconst 1, 1) := by decide +kernel
theorem dX1_removeLast_13 : decode cX1_removeLast 13 = .ok (.isub, 1) := by decide +kernel
theorem dX1_removeLast_14 : decode cX1_removeLast 14 = .ok (.putfield 17, 3) := by decide +kernel
theorem dX1_removeLast_17 : decode cX1_removeLast 17 = .ok (.return_, 1) := by decide +kernel
theorem dX1_copy_0 : decode cX1_copy 0 = .ok (.aload_n 0, 1) := by decide +kernel
theorem dX1_copy_1 : decode cX1_copy 1 = .ok (.iconst 0, 1) := by decide +kernel
theorem dX1_copy_2 : decode cX1_copy 2 = .ok (.putfield 17, 3) := by decide +kernel
theorem dX1_copy_5 : decode cX1_copy 5 = .ok (.aload_n 0, 1) := by decide +kernel
theorem dX1_copy_6 : decode cX1_copy 6 = .ok (.aload_n 1, 1) := by decide +kernel
theorem dX1_copy_7 : decode cX1_copy 7 = .ok (.getfield 21, 3) := by decide +kernel
theorem dX1_copy_10 : decode cX1_copy 10 = .ok (.putfield 21, 3) := by decide +kernel
theorem dX1_copy_13 : decode cX1_copy 13 = .ok (.iconst 0, 1) := by decide +kernel
theorem dX1_copy_14 : decode cX1_copy 14 = .ok (.istore_n 2, 1) := by decide +kernel
theorem dX1_copy_15 : decode cX1_copy 15 = .ok (.iload_n 2, 1) := by decide +kernel
theorem dX1_copy_16 : decode cX1_copy 16 = .ok (.aload_n 1, 1) := by decide +kernel
theorem dX1_copy_17 : decode cX1_copy 17 = .ok (.getfield 17, 3) := by decide +kernel
theorem dX1_copy_20 : decode cX1_copy 20 = .ok (.if_icmp .ge 19, 3) := by decide +kernel
theorem dX1_copy_23 : decode cX1_copy 23 = .ok (.aload_n 0, 1) := by decide +kernel
theorem dX1_copy_24 : decode cX1_copy 24 = .ok (.aload_n 1, 1) := by decide +kernel
theorem dX1_copy_25 : decode cX1_copy 25 = .ok (.iload_n 2, 1) := by decide +kernel
theorem dX1_copy_26 : decode cX1_copy 26 = .ok (.invokevirtual 28, 3) := by decide +kernel
theorem dX1_copy_29 : decode cX1_copy 29 = .ok (.invokevirtual 24, 3) := by decide +kernel
theorem dX1_copy_32 : decode cX1_copy 32 = .ok (.pop, 1) := by decide +kernel
theorem dX1_copy_33 : decode cX1_copy 33 = .ok (.iinc 2 1, 3) := by decide +kernel
theorem dX1_copy_36 : decode cX1_copy 36 = .ok (.goto (-21), 3) := by decide +kernel
theorem dX1_copy_39 : decode cX1_copy 39 = .ok (.return_, 1) := by decide +kernel
theorem dX1_at_0 : decode cX1_at 0 = .ok (.iload_n 1, 1) := by decide +kernel
theorem dX1_at_1 : decode cX1_at 1 = .ok (.ifCond .lt 20, 3) := by decide +kernel
theorem dX1_at_4 : decode cX1_at 4 = .ok (.iload_n 1, 1) := by decide +kernel
theorem dX1_at_5 : decode cX1_at 5 = .ok (.aload_n 0, 1) := by decide +kernel
theorem dX1_at_6 : decode cX1_at 6 = .ok (.getfield 17, 3) := by decide +kernel
theorem dX1_at_9 : decode cX1_at 9 = .ok (.if_icmp .ge 12, 3) := by decide +kernel
theorem dX1_at_12 : decode cX1_at 12 = .ok (.iload_n 1, 1) := by decide +kernel
theorem dX1_at_13 : decode cX1_at 13 = .ok (.aload_n 0, 1) := by decide +kernel
theorem dX1_at_14 : decode cX1_at 14 = .ok (.getfield 11, 3) := by decide +kernel
theorem dX1_at_17 : decode cX1_at 17 = .ok (.arraylength, 1) := by decide +kernel
theorem dX1_at_18 : decode cX1_at 18 = .ok (.if_icmp .lt 7, 3) := by decide +kernel
theorem dX1_at_21 : decode cX1_at 21 = .ok (.aconst_null, 1) := by decide +kernel
theorem dX1_at_22 : decode cX1_at 22 = .ok (.goto 9, 3) := by decide +kernel
theorem dX1_at_25 : decode cX1_at 25 = .ok (.aload_n 0, 1) := by decide +kernel
theorem dX1_at_26 : decode cX1_at 26 = .ok (.getfield 11, 3) := by decide +kernel
theorem dX1_at_29 : decode cX1_at 29 = .ok (.iload_n 1, 1) := by decide +kernel
theorem dX1_at_30 : decode cX1_at 30 = .ok (.aaload, 1) := by decide +kernel
theorem dX1_at_31 : decode cX1_at 31 = .ok (.areturn, 1) := by decide +kernel
theorem dX1_last_0 : decode cX1_last 0 = .ok (.aload_n 0, 1) := by decide +kernel
theorem dX1_last_1 : decode cX1_last 1 = .ok (.aload_n 0, 1) := by decide +kernel
theorem dX1_last_2 : decode cX1_last 2 = .ok (.getfield 17, 3) := by decide +kernel
theorem dX1_last_5 : decode cX1_last 5 = .ok (.iconst 1, 1) := by decide +kernel
theorem dX1_last_6 : decode cX1_last 6 = .ok (.isub, 1) := by decide +kernel
theorem dX1_last_7 : decode cX1_last 7 = .ok (.invokevirtual 28, 3) := by decide +kernel
theorem dX1_last_10 : decode cX1_last 10 = .ok (.areturn, 1) := by decide +kernel
theorem dX1_has_0 : decode cX1_has 0 = .ok (.iconst 0, 1) := by decide +kernel
theorem dX1_has_1 : decode cX1_has 1 = .ok (.istore_n 2, 1) := by decide +kernel
theorem dX1_has_2 : decode cX1_has 2 = .ok (.iload_n 2, 1) := by decide +kernel
theorem dX1_has_3 : decode cX1_has 3 = .ok (.aload_n 0, 1) := by decide +kernel
theorem dX1_has_4 : decode cX1_has 4 = .ok (.getfield 17, 3) := by decide +kernel
theorem dX1_has_7 : decode cX1_has 7 = .ok (.if_icmp .ge 20, 3) := by decide +kernel
theorem dX1_has_10 : decode cX1_has 10 = .ok (.aload_n 0, 1) := by decide +kernel
theorem dX1_has_11 : decode cX1_has 11 = .ok (.iload_n 2, 1) := by decide +kernel
theorem dX1_has_12 : decode cX1_has 12 = .ok (.invokevirtual 28, 3) := by decide +kernel
theorem dX1_has_15 : decode cX1_has 15 = .ok (.aload_n 1, 1) := by decide +kernel
theorem dX1_has_16 : decode cX1_has 16 = .ok (.if_acmp .ne 5, 3) := by decide +kernel
theorem dX1_has_19 : decode cX1_has 19 = .ok (.iconst 1, 1) := by decide +kernel
theorem dX1_has_20 : decode cX1_has 20 = .ok (.ireturn, 1) := by decide +kernel
theorem dX1_has_21 : decode cX1_has 21 = .ok (.iinc 2 1, 3) := by decide +kernel
theorem dX1_has_24 : decode cX1_has 24 = .ok (.goto (-22), 3) := by decide +kernel
theorem dX1_has_27 : decode cX1_has 27 = .ok (.iconst 0, 1) := by decide +kernel
theorem dX1_has_28 : decode cX1_has 28 = .ok (.ireturn, 1) := by decide +kernel
theorem dX1_endsInTrust_0 : decode cX1_endsInTrust 0 = .ok (.aload_n 0, 1) := by decide +kernel
theorem dX1_endsInTrust_1 : decode cX1_endsInTrust 1 = .ok (.invokevirtual 32, 3) := by decide +kernel
theorem dX1_endsInTrust_4 : decode cX1_endsInTrust 4 = .ok (.astore_n 1, 1) := by decide +kernel
theorem dX1_endsInTrust_5 : decode cX1_endsInTrust 5 = .ok (.aload_n 1, 1) := by decide +kernel
theorem dX1_endsInTrust_6 : decode cX1_endsInTrust 6 = .ok (.ifnull 21, 3) := by decide +kernel
theorem dX1_endsInTrust_9 : decode cX1_endsInTrust 9 = .ok (.aload_n 1, 1) := by decide +kernel
theorem dX1_endsInTrust_10 : decode cX1_endsInTrust 10 = .ok (.invokevirtual 36, 3) := by decide +kernel
theorem dX1_endsInTrust_13 : decode cX1_endsInTrust 13 = .ok (.ifCond .eq 14, 3) := by decide +kernel
theorem dX1_endsInTrust_16 : decode cX1_endsInTrust 16 = .ok (.aload_n 1, 1) := by decide +kernel
theorem dX1_endsInTrust_17 : decode cX1_endsInTrust 17 = .ok (.getfield 40, 3) := by decide +kernel
theorem dX1_endsInTrust_20 : decode cX1_endsInTrust 20 = .ok (.ifCond .eq 7, 3) := by decide +kernel
theorem dX1_endsInTrust_23 : decode cX1_endsInTrust 23 = .ok (.iconst 1, 1) := by decide +kernel
theorem dX1_endsInTrust_24 : decode cX1_endsInTrust 24 = .ok (.goto 4, 3) := by decide +kernel
theorem dX1_endsInTrust_27 : decode cX1_endsInTrust 27 = .ok (.iconst 0, 1) := by decide +kernel
theorem dX1_endsInTrust_28 : decode cX1_endsInTrust 28 = .ok (.ireturn, 1) := by decide +kernel
theorem dX1_refusalOf_0 : decode cX1_refusalOf 0 = .ok (.aload_n 0, 1) := by decide +kernel
theorem dX1_refusalOf_1 : decode cX1_refusalOf 1 = .ok (.aload_n 1, 1) := by decide +kernel
theorem dX1_refusalOf_2 : decode cX1_refusalOf 2 = .ok (.invokevirtual 44, 3) := by decide +kernel
theorem dX1_refusalOf_5 : decode cX1_refusalOf 5 = .ok (.ifCond .eq 6, 3) := by decide +kernel
theorem dX1_refusalOf_8 : decode cX1_refusalOf 8 = .ok (.bipush 120, 2) := by decide +kernel
theorem dX1_refusalOf_10 : decode cX1_refusalOf 10 = .ok (.ireturn, 1) := by decide +kernel
theorem dX1_refusalOf_11 : decode cX1_refusalOf 11 = .ok (.aload_n 1, 1) := by decide +kernel
theorem dX1_refusalOf_12 : decode cX1_refusalOf 12 = .ok (.aload_n 0, 1) := by decide +kernel
theorem dX1_refusalOf_13 : decode cX1_refusalOf 13 = .ok (.getfield 21, 3) := by decide +kernel
theorem dX1_refusalOf_16 : decode cX1_refusalOf 16 = .ok (.invokevirtual 47, 3) := by decide +kernel
theorem dX1_refusalOf_19 : decode cX1_refusalOf 19 = .ok (.istore_n 2, 1) := by decide +kernel
theorem dX1_refusalOf_20 : decode cX1_refusalOf 20 = .ok (.iload_n 2, 1) := by decide +kernel
theorem dX1_refusalOf_21 : decode cX1_refusalOf 21 = .ok (.bipush 111, 2) := by decide +kernel
theorem dX1_refusalOf_23 : decode cX1_refusalOf 23 = .ok (.if_icmp .eq 5, 3) := by decide +kernel
theorem dX1_refusalOf_26 : decode cX1_refusalOf 26 = .ok (.iload_n 2, 1) := by decide +kernel
theorem dX1_refusalOf_27 : decode cX1_refusalOf 27 = .ok (.ireturn, 1) := by decide +kernel
theorem dX1_refusalOf_28 : decode cX1_refusalOf 28 = .ok (.aload_n 1, 1) := by decide +kernel
theorem dX1_refusalOf_29 : decode cX1_refusalOf 29 = .ok (.invokevirtual 51, 3) := by decide +kernel
theorem dX1_refusalOf_32 : decode cX1_refusalOf 32 = .ok (.ifCond .ne 6, 3) := by decide +kernel
theorem dX1_refusalOf_35 : decode cX1_refusalOf 35 = .ok (.bipush 97, 2) := by decide +kernel
theorem dX1_refusalOf_37 : decode cX1_refusalOf 37 = .ok (.ireturn, 1) := by decide +kernel
theorem dX1_refusalOf_38 : decode cX1_refusalOf 38 = .ok (.aload_n 1, 1) := by decide +kernel
theorem dX1_refusalOf_39 : decode cX1_refusalOf 39 = .ok (.getfield 54, 3) := by decide +kernel
theorem dX1_refusalOf_42 : decode cX1_refusalOf 42 = .ok (.aload_n 0, 1) := by decide +kernel
theorem dX1_refusalOf_43 : decode cX1_refusalOf 43 = .ok (.getfield 17, 3) := by decide +kernel
theorem dX1_refusalOf_46 : decode cX1_refusalOf 46 = .ok (.iconst 1, 1) := by decide +kernel
theorem dX1_refusalOf_47 : decode cX1_refusalOf 47 = .ok (.isub, 1) := by decide +kernel
theorem dX1_refusalOf_48 : decode cX1_refusalOf 48 = .ok (.if_icmp .ge 6, 3) := by decide +kernel
theorem dX1_refusalOf_51 : decode cX1_refusalOf 51 = .ok (.bipush 108, 2) := by decide +kernel
theorem dX1_refusalOf_53 : decode cX1_refusalOf 53 = .ok (.ireturn, 1) := by decide +kernel
theorem dX1_refusalOf_54 : decode cX1_refusalOf 54 = .ok (.aload_n 0, 1) := by decide +kernel
theorem dX1_refusalOf_55 : decode cX1_refusalOf 55 = .ok (.aload_n 1, 1) := by decide +kernel
theorem dX1_refusalOf_56 : decode cX1_refusalOf 56 = .ok (.aload_n 0, 1) := by decide +kernel
theorem dX1_refusalOf_57 : decode cX1_refusalOf 57 = .ok (.getfield 17, 3) := by decide +kernel
theorem dX1_refusalOf_60 : decode cX1_refusalOf 60 = .ok (.invokevirtual 57, 3) := by decide +kernel
theorem dX1_refusalOf_63 : decode cX1_refusalOf 63 = .ok (.ifCond .eq 8, 3) := by decide +kernel
theorem dX1_refusalOf_66 : decode cX1_refusalOf 66 = .ok (.bipush 111, 2) := by decide +kernel
theorem dX1_refusalOf_68 : decode cX1_refusalOf 68 = .ok (.goto 5, 3) := by decide +kernel
theorem dX1_refusalOf_71 : decode cX1_refusalOf 71 = .ok (.bipush 110, 2) := by decide +kernel
theorem dX1_refusalOf_73 : decode cX1_refusalOf 73 = .ok (.ireturn, 1) := by decide +kernel
theorem dX1_isGood_0 : decode cX1_isGood 0 = .ok (.aload_n 0, 1) := by decide +kernel
theorem dX1_isGood_1 : decode cX1_isGood 1 = .ok (.invokevirtual 61, 3) := by decide +kernel
theorem dX1_isGood_4 : decode cX1_isGood 4 = .ok (.ifCond .ne 5, 3) := by decide +kernel
theorem dX1_isGood_7 : decode cX1_isGood 7 = .ok (.iconst 0, 1) := by decide +kernel
theorem dX1_isGood_8 : decode cX1_isGood 8 = .ok (.ireturn, 1) := by decide +kernel
theorem dX1_isGood_9 : decode cX1_isGood 9 = .ok (.iconst 0, 1) := by decide +kernel
theorem dX1_isGood_10 : decode cX1_isGood 10 = .ok (.istore_n 1, 1) := by decide +kernel
theorem dX1_isGood_11 : decode cX1_isGood 11 = .ok (.iload_n 1, 1) := by decide +kernel
theorem dX1_isGood_12 : decode cX1_isGood 12 = .ok (.aload_n 0, 1) := by decide +kernel
theorem dX1_isGood_13 : decode cX1_isGood 13 = .ok (.getfield 17, 3) := by decide +kernel
theorem dX1_isGood_16 : decode cX1_isGood 16 = .ok (.if_icmp .ge 30, 3) := by decide +kernel
theorem dX1_isGood_19 : decode cX1_isGood 19 = .ok (.aload_n 0, 1) := by decide +kernel
theorem dX1_isGood_20 : decode cX1_isGood 20 = .ok (.iload_n 1, 1) := by decide +kernel
theorem dX1_isGood_21 : decode cX1_isGood 21 = .ok (.invokevirtual 28, 3) := by decide +kernel
theorem dX1_isGood_24 : decode cX1_isGood 24 = .ok (.astore_n 2, 1) := by decide +kernel
theorem dX1_isGood_25 : decode cX1_isGood 25 = .ok (.aload_n 2, 1) := by decide +kernel
theorem dX1_isGood_26 : decode cX1_isGood 26 = .ok (.ifnull 12, 3) := by decide +kernel
theorem dX1_isGood_29 : decode cX1_isGood 29 = .ok (.aload_n 0, 1) := by decide +kernel
theorem dX1_isGood_30 : decode cX1_isGood 30 = .ok (.aload_n 2, 1) := by decide +kernel
theorem dX1_isGood_31 : decode cX1_isGood 31 = .ok (.iload_n 1, 1) := by decide +kernel
theorem dX1_isGood_32 : decode cX1_isGood 32 = .ok (.invokevirtual 64, 3) := by decide +kernel
theorem dX1_isGood_35 : decode cX1_isGood 35 = .ok (.ifCond .ne 5, 3) := by decide +kernel
theorem dX1_isGood_38 : decode cX1_isGood 38 = .ok (.iconst 0, 1) := by decide +kernel
theorem dX1_isGood_39 : decode cX1_isGood 39 = .ok (.ireturn, 1) := by decide +kernel
theorem dX1_isGood_40 : decode cX1_isGood 40 = .ok (.iinc 1 1, 3) := by decide +kernel
theorem dX1_isGood_43 : decode cX1_isGood 43 = .ok (.goto (-32), 3) := by decide +kernel
theorem dX1_isGood_46 : decode cX1_isGood 46 = .ok (.iconst 1, 1) := by decide +kernel
theorem dX1_isGood_47 : decode cX1_isGood 47 = .ok (.ireturn, 1) := by decide +kernel
theorem dX1_isFitAt_0 : decode cX1_isFitAt 0 = .ok (.aload_n 1, 1) := by decide +kernel
theorem dX1_isFitAt_1 : decode cX1_isFitAt 1 = .ok (.aload_n 0, 1) := by decide +kernel
theorem dX1_isFitAt_2 : decode cX1_isFitAt 2 = .ok (.getfield 21, 3) := by decide +kernel
theorem dX1_isFitAt_5 : decode cX1_isFitAt 5 = .ok (.invokevirtual 47, 3) := by decide +kernel
theorem dX1_isFitAt_8 : decode cX1_isFitAt 8 = .ok (.bipush 111, 2) := by decide +kernel
theorem dX1_isFitAt_10 : decode cX1_isFitAt 10 = .ok (.if_icmp .eq 5, 3) := by decide +kernel
theorem dX1_isFitAt_13 : decode cX1_isFitAt 13 = .ok (.iconst 0, 1) := by decide +kernel
theorem dX1_isFitAt_14 : decode cX1_isFitAt 14 = .ok (.ireturn, 1) := by decide +kernel
theorem dX1_isFitAt_15 : decode cX1_isFitAt 15 = .ok (.iload_n 2, 1) := by decide +kernel
theorem dX1_isFitAt_16 : decode cX1_isFitAt 16 = .ok (.ifCond .eq 29, 3) := by decide +kernel
theorem dX1_isFitAt_19 : decode cX1_isFitAt 19 = .ok (.aload_n 1, 1) := by decide +kernel
theorem dX1_isFitAt_20 : decode cX1_isFitAt 20 = .ok (.invokevirtual 51, 3) := by decide +kernel
theorem dX1_isFitAt_23 : decode cX1_isFitAt 23 = .ok (.ifCond .eq 26, 3) := by decide +kernel
theorem dX1_isFitAt_26 : decode cX1_isFitAt 26 = .ok (.aload_n 1, 1) := by decide +kernel
theorem dX1_isFitAt_27 : decode cX1_isFitAt 27 = .ok (.getfield 54, 3) := by decide +kernel
theorem dX1_isFitAt_30 : decode cX1_isFitAt 30 = .ok (.iload_n 2, 1) := by decide +kernel
theorem dX1_isFitAt_31 : decode cX1_isFitAt 31 = .ok (.iconst 1, 1) := by decide +kernel
theorem dX1_isFitAt_32 : decode cX1_isFitAt 32 = .ok (.isub, 1) := by decide +kernel
theorem dX1_isFitAt_33 : decode cX1_isFitAt 33 = .ok (.if_icmp .lt 16, 3) := by decide +kernel
theorem dX1_isFitAt_36 : decode cX1_isFitAt 36 = .ok (.aload_n 0, 1) := by decide +kernel
theorem dX1_isFitAt_37 : decode cX1_isFitAt 37 = .ok (.aload_n 1, 1) := by decide +kernel
theorem dX1_isFitAt_38 : decode cX1_isFitAt 38 = .ok (.iload_n 2, 1) := by decide +kernel
theorem dX1_isFitAt_39 : decode cX1_isFitAt 39 = .ok (.invokevirtual 57, 3) := by decide +kernel
theorem dX1_isFitAt_42 : decode cX1_isFitAt 42 = .ok (.ifCond .eq 7, 3) := by decide +kernel
theorem dX1_isFitAt_45 : decode cX1_isFitAt 45 = .ok (.iconst 1, 1) := by decide +kernel
theorem dX1_isFitAt_46 : decode cX1_isFitAt 46 = .ok (.goto 4, 3) := by decide +kernel
theorem dX1_isFitAt_49 : decode cX1_isFitAt 49 = .ok (.iconst 0, 1) := by decide +kernel
theorem dX1_isFitAt_50 : decode cX1_isFitAt 50 = .ok (.ireturn, 1) := by decide +kernel
theorem dX1_allowsNamesBefore_0 : decode cX1_allowsNamesBefore 0 = .ok (.iconst 0, 1) := by decide +kernel
theorem dX1_allowsNamesBefore_1 : decode cX1_allowsNamesBefore 1 = .ok (.istore_n 3, 1) := by decide +kernel
theorem dX1_allowsNamesBefore_2 : decode cX1_allowsNamesBefore 2 = .ok (.iload_n 3, 1) := by decide +kernel
theorem dX1_allowsNamesBefore_3 : decode cX1_allowsNamesBefore 3 = .ok (.iload_n 2, 1) := by decide +kernel
theorem dX1_allowsNamesBefore_4 : decode cX1_allowsNamesBefore 4 = .ok (.if_icmp .ge 38, 3) := by decide +kernel
theorem dX1_allowsNamesBefore_7 : decode cX1_allowsNamesBefore 7 = .ok (.aload_n 0, 1) := by decide +kernel
theorem dX1_allowsNamesBefore_8 : decode cX1_allowsNamesBefore 8 = .ok (.iload_n 3, 1) := by decide +kernel
theorem dX1_allowsNamesBefore_9 : decode cX1_allowsNamesBefore 9 = .ok (.invokevirtual 28, 3) := by decide +kernel
theorem dX1_allowsNamesBefore_12 : decode cX1_allowsNamesBefore 12 = .ok (.astore 4, 2) := by decide +kernel
theorem dX1_allowsNamesBefore_14 : decode cX1_allowsNamesBefore 14 = .ok (.aload 4, 2) := by decide +kernel
theorem dX1_allowsNamesBefore_16 : decode cX1_allowsNamesBefore 16 = .ok (.ifnull 20, 3) := by decide +kernel
theorem dX1_allowsNamesBefore_19 : decode cX1_allowsNamesBefore 19 = .ok (.aload_n 1, 1) := by decide +kernel
theorem dX1_allowsNamesBefore_20 : decode cX1_allowsNamesBefore 20 = .ok (.aload 4, 2) := by decide +kernel
theorem dX1_allowsNamesBefore_22 : decode cX1_allowsNamesBefore 22 = .ok (.getfield 67, 3) := by decide +kernel
theorem dX1_allowsNamesBefore_25 : decode cX1_allowsNamesBefore 25 = .ok (.getfield 71, 3) := by decide +kernel
theorem dX1_allowsNamesBefore_28 : decode cX1_allowsNamesBefore 28 = .ok (.invokevirtual 76, 3) := by decide +kernel
theorem dX1_allowsNamesBefore_31 : decode cX1_allowsNamesBefore 31 = .ok (.ifCond .ne 5, 3) := by decide +kernel
theorem dX1_allowsNamesBefore_34 : decode cX1_allowsNamesBefore 34 = .ok (.iconst 0, 1) := by decide +kernel
theorem dX1_allowsNamesBefore_35 : decode cX1_allowsNamesBefore 35 = .ok (.ireturn, 1) := by decide +kernel
theorem dX1_allowsNamesBefore_36 : decode cX1_allowsNamesBefore 36 = .ok (.iinc 3 1, 3) := by decide +kernel
theorem dX1_allowsNamesBefore_39 : decode cX1_allowsNamesBefore 39 = .ok (.goto (-37), 3) := by decide +kernel
theorem dX1_allowsNamesBefore_42 : decode cX1_allowsNamesBefore 42 = .ok (.iconst 1, 1) := by decide +kernel
theorem dX1_allowsNamesBefore_43 : decode cX1_allowsNamesBefore 43 = .ok (.ireturn, 1) := by decide +kernel
theorem dX2_init_0 : decode cX2_init 0 = .ok (.aload_n 0, 1) := by decide +kernel
theorem dX2_init_1 : decode cX2_init 1 = .ok (.invokespecial 3, 3) := by decide +kernel
theorem dX2_init_4 : decode cX2_init 4 = .ok (.aload_n 0, 1) := by decide +kernel
theorem dX2_init_5 : decode cX2_init 5 = .ok (.iload_n 1, 1) := by decide +kernel
theorem dX2_init_6 : decode cX2_init 6 = .ok (.putfield 9, 3) := by decide +kernel
theorem dX2_init_9 : decode cX2_init 9 = .ok (.aload_n 0, 1) := by decide +kernel
theorem dX2_init_10 : decode cX2_init 10 = .ok (.iload_n 2, 1) := by decide +kernel
theorem dX2_init_11 : decode cX2_init 11 = .ok (.putfield 15, 3) := by decide +kernel
theorem dX2_init_14 : decode cX2_init 14 = .ok (.aload_n 0, 1) := by decide +kernel
theorem dX2_init_15 : decode cX2_init 15 = .ok (.iconst 3, 1) := by decide +kernel
theorem dX2_init_16 : decode cX2_init 16 = .ok (.anewarray 18, 3) := by decide +kernel
theorem dX2_init_19 : decode cX2_init 19 = .ok (.putfield 20, 3) := by decide +kernel
theorem dX2_init_22 : decode cX2_init 22 = .ok (.aload_n 0, 1) := by decide +kernel
theorem dX2_init_23 : decode cX2_init 23 = .ok (.iconst 0, 1) := by decide +kernel
theorem dX2_init_24 : decode cX2_init 24 = .ok (.putfield 24, 3) := by decide +kernel
theorem dX2_init_27 : decode cX2_init 27 = .ok (.return_, 1) := by decide +kernel
theorem dX2_isFull_0 : decode cX2_isFull 0 = .ok (.aload_n 0, 1) := by decide +kernel
theorem dX2_isFull_1 : decode cX2_isFull 1 = .ok (.getfield 24, 3) := by decide +kernel
theorem dX2_isFull_4 : decode cX2_isFull 4 = .ok (.iconst 3, 1) := by decide +kernel
theorem dX2_isFull_5 : decode cX2_isFull 5 = .ok (.if_icmp .lt 7, 3) := by decide +kernel
theorem dX2_isFull_8 : decode cX2_isFull 8 = .ok (.iconst 1, 1) := by decide +kernel
theorem dX2_isFull_9 : decode cX2_isFull 9 = .ok (.goto 4, 3) := by decide +kernel
theorem dX2_isFull_12 : decode cX2_isFull 12 = .ok (.iconst 0, 1) := by decide +kernel
theorem dX2_isFull_13 : decode cX2_isFull 13 = .ok (.ireturn, 1) := by decide +kernel
theorem dX2_receive_0 : decode cX2_receive 0 = .ok (.aload_n 0, 1) := by decide +kernel
theorem dX2_receive_1 : decode cX2_receive 1 = .ok (.getfield 24, 3) := by decide +kernel
theorem dX2_receive_4 : decode cX2_receive 4 = .ok (.ifCond .lt 35, 3) := by decide +kernel
theorem dX2_receive_7 : decode cX2_receive 7 = .ok (.aload_n 0, 1) := by decide +kernel
theorem dX2_receive_8 : decode cX2_receive 8 = .ok (.getfield 24, 3) := by decide +kernel
theorem dX2_receive_11 : decode cX2_receive 11 = .ok (.aload_n 0, 1) := by decide +kernel
theorem dX2_receive_12 : decode cX2_receive 12 = .ok (.getfield 20, 3) := by decide +kernel
theorem dX2_receive_15 : decode cX2_receive 15 = .ok (.arraylength, 1) := by decide +kernel
theorem dX2_receive_16 : decode cX2_receive 16 = .ok (.if_icmp .ge 23, 3) := by decide +kernel
theorem dX2_receive_19 : decode cX2_receive 19 = .ok (.aload_n 0, 1) := by decide +kernel
theorem dX2_receive_20 : decode cX2_receive 20 = .ok (.getfield 20, 3) := by decide +kernel
theorem dX2_receive_23 : decode cX2_receive 23 = .ok (.aload_n 0, 1) := by decide +kernel
theorem dX2_receive_24 : decode cX2_receive 24 = .ok (.getfield 24, 3) := by decide +kernel
theorem dX2_receive_27 : decode cX2_receive 27 = .ok (.aload_n 1, 1) := by decide +kernel
theorem dX2_receive_28 : decode cX2_receive 28 = .ok (.aastore, 1) := by decide +kernel
theorem dX2_receive_29 : decode cX2_receive 29 = .ok (.aload_n 0, 1) := by decide +kernel
theorem dX2_receive_30 : decode cX2_receive 30 = .ok (.dup, 1) := by decide +kernel
theorem dX2_receive_31 : decode cX2_receive 31 = .ok (.getfield 24, 3) := by decide +kernel
theorem dX2_receive_34 : decode cX2_receive 34 = .ok (.iconst 1, 1) := by decide +kernel
theorem dX2_receive_35 : decode cX2_receive 35 = .ok (.iadd, 1) := by decide +kernel
theorem dX2_receive_36 : decode cX2_receive 36 = .ok (.putfield 24, 3) := by decide +kernel
theorem dX2_receive_39 : decode cX2_receive 39 = .ok (.return_, 1) := by decide +kernel
theorem dX3_init_0 : decode cX3_init 0 = .ok (.aload_n 0, 1) := by decide +kernel
theorem dX3_init_1 : decode cX3_init 1 = .ok (.invokespecial 3, 3) := by decide +kernel
theorem dX3_init_4 : decode cX3_init 4 = .ok (.aload_n 0, 1) := by decide +kernel
theorem dX3_init_5 : decode cX3_init 5 = .ok (.bipush 40, 2) := by decide +kernel
theorem dX3_init_7 : decode cX3_init 7 = .ok (.newarray .int, 2) := by decide +kernel
theorem dX3_init_9 : decode cX3_init 9 = .ok (.putfield 9, 3) := by decide +kernel
theorem dX3_init_12 : decode cX3_init 12 = .ok (.aload_n 0, 1) := by decide +kernel
theorem dX3_init_13 : decode cX3_init 13 = .ok (.bipush 40, 2) := by decide +kernel
theorem dX3_init_15 : decode cX3_init 15 = .ok (.newarray .long, 2) := by decide +kernel
theorem dX3_init_17 : decode cX3_init 17 = .ok (.putfield 15, 3) := by decide +kernel
theorem dX3_init_20 : decode cX3_init 20 = .ok (.aload_n 0, 1) := by decide +kernel
theorem dX3_init_21 : decode cX3_init 21 = .ok (.iconst 0, 1) := by decide +kernel
theorem dX3_init_22 : decode cX3_init 22 = .ok (.putfield 19, 3) := by decide +kernel
theorem dX3_init_25 : decode cX3_init 25 = .ok (.return_, 1) := by decide +kernel
theorem dX3_keep_0 : decode cX3_keep 0 = .ok (.aload_n 0, 1) := by decide +kernel
theorem dX3_keep_1 : decode cX3_keep 1 = .ok (.getfield 19, 3) := by decide +kernel
theorem dX3_keep_4 : decode cX3_keep 4 = .ok (.ifCond .lt 57, 3) := by decide +kernel
theorem dX3_keep_7 : decode cX3_keep 7 = .ok (.aload_n 0, 1) := by decide +kernel
theorem dX3_keep_8 : decode cX3_keep 8 = .ok (.getfield 19, 3) := by decide +kernel
theorem dX3_keep_11 : decode cX3_keep 11 = .ok (.aload_n 0, 1) := by decide +kernel
theorem dX3_keep_12 : decode cX3_keep 12 = .ok (.getfield 9, 3) := by decide +kernel
theorem dX3_keep_15 : decode cX3_keep 15 = .ok (.arraylength, 1) := by decide +kernel
theorem dX3_keep_16 : decode cX3_keep 16 = .ok (.if_icmp .ge 45, 3) := by decide +kernel
theorem dX3_keep_19 : decode cX3_keep 19 = .ok (.aload_n 0, 1) := by decide +kernel
theorem dX3_keep_20 : decode cX3_keep 20 = .ok (.getfield 19, 3) := by decide +kernel
theorem dX3_keep_23 : decode cX3_keep 23 = .ok (.aload_n 0, 1) := by decide +kernel
theorem dX3_keep_24 : decode cX3_keep 24 = .ok (.getfield 15, 3) := by decide +kernel
theorem dX3_keep_27 : decode cX3_keep 27 = .ok (.arraylength, 1) := by decide +kernel
theorem dX3_keep_28 : decode cX3_keep 28 = .ok (.if_icmp .ge 33, 3) := by decide +kernel
theorem dX3_keep_31 : decode cX3_keep 31 = .ok (.aload_n 0, 1) := by decide +kernel
theorem dX3_keep_32 : decode cX3_keep 32 = .ok (.getfield 9, 3) := by decide +kernel
theorem dX3_keep_35 : decode cX3_keep 35 = .ok (.aload_n 0, 1) := by decide +kernel
theorem dX3_keep_36 : decode cX3_keep 36 = .ok (.getfield 19, 3) := by decide +kernel
theorem dX3_keep_39 : decode cX3_keep 39 = .ok (.iload_n 1, 1) := by decide +kernel
theorem dX3_keep_40 : decode cX3_keep 40 = .ok (.iastore, 1) := by decide +kernel
theorem dX3_keep_41 : decode cX3_keep 41 = .ok (.aload_n 0, 1) := by decide +kernel
theorem dX3_keep_42 : decode cX3_keep 42 = .ok (.getfield 15, 3) := by decide +kernel
theorem dX3_keep_45 : decode cX3_keep 45 = .ok (.aload_n 0, 1) := by decide +kernel
theorem dX3_keep_46 : decode cX3_keep 46 = .ok (.getfield 19, 3) := by decide +kernel
theorem dX3_keep_49 : decode cX3_keep 49 = .ok (.lload_n 2, 1) := by decide +kernel
theorem dX3_keep_50 : decode cX3_keep 50 = .ok (.lastore, 1) := by decide +kernel
theorem dX3_keep_51 : decode cX3_keep 51 = .ok (.aload_n 0, 1) := by decide +kernel
theorem dX3_keep_52 : decode cX3_keep 52 = .ok (.dup, 1) := by decide +kernel
theorem dX3_keep_53 : decode cX3_keep 53 = .ok (.getfield 19, 3) := by decide +kernel
theorem dX3_keep_56 : decode cX3_keep 56 = .ok (.iconst 1, 1) := by decide +kernel
theorem dX3_keep_57 : decode cX3_keep 57 = .ok (.iadd, 1) := by decide +kernel
theorem dX3_keep_58 : decode cX3_keep 58 = .ok (.putfield 19, 3) := by decide +kernel
theorem dX3_keep_61 : decode cX3_keep 61 = .ok (.return_, 1) := by decide +kernel
theorem dX3_tellOf_0 : decode cX3_tellOf 0 = .ok (.iconst 0, 1) := by decide +kernel
theorem dX3_tellOf_1 : decode cX3_tellOf 1 = .ok (.istore_n 3, 1) := by decide +kernel
theorem dX3_tellOf_2 : decode cX3_tellOf 2 = .ok (.iload_n 3, 1) := by decide +kernel
theorem dX3_tellOf_3 : decode cX3_tellOf 3 = .ok (.aload_n 0, 1) := by decide +kernel
theorem dX3_tellOf_4 : decode cX3_tellOf 4 = .ok (.getfield 19, 3) := by decide +kernel
theorem dX3_tellOf_7 : decode cX3_tellOf 7 = .ok (.if_icmp .ge 55, 3) := by decide +kernel
theorem dX3_tellOf_10 : decode cX3_tellOf 10 = .ok (.iload_n 3, 1) := by decide +kernel
theorem dX3_tellOf_11 : decode cX3_tellOf 11 = .ok (.aload_n 0, 1) := by decide +kernel
theorem dX3_tellOf_12 : decode cX3_tellOf 12 = .ok (.getfield 9, 3) := by decide +kernel
theorem dX3_tellOf_15 : decode cX3_tellOf 15 = .ok (.arraylength, 1) := by decide +kernel
theorem dX3_tellOf_16 : decode cX3_tellOf 16 = .ok (.if_icmp .ge 46, 3) := by decide +kernel
theorem dX3_tellOf_19 : decode cX3_tellOf 19 = .ok (.iload_n 3, 1) := by decide +kernel
theorem dX3_tellOf_20 : decode cX3_tellOf 20 = .ok (.aload_n 0, 1) := by decide +kernel
theorem dX3_tellOf_21 : decode cX3_tellOf 21 = .ok (.getfield 15, 3) := by decide +kernel
theorem dX3_tellOf_24 : decode cX3_tellOf 24 = .ok (.arraylength, 1) := by decide +kernel
theorem dX3_tellOf_25 : decode cX3_tellOf 25 = .ok (.if_icmp .ge 37, 3) := by decide +kernel
theorem dX3_tellOf_28 : decode cX3_tellOf 28 = .ok (.aload_n 0, 1) := by decide +kernel
theorem dX3_tellOf_29 : decode cX3_tellOf 29 = .ok (.getfield 9, 3) := by decide +kernel
theorem dX3_tellOf_32 : decode cX3_tellOf 32 = .ok (.iload_n 3, 1) := by decide +kernel
theorem dX3_tellOf_33 : decode cX3_tellOf 33 = .ok (.iaload, 1) := by decide +kernel
theorem dX3_tellOf_34 : decode cX3_tellOf 34 = .ok (.iload_n 2, 1) := by decide +kernel
theorem dX3_tellOf_35 : decode cX3_tellOf 35 = .ok (.if_icmp .gt 21, 3) := by decide +kernel
theorem dX3_tellOf_38 : decode cX3_tellOf 38 = .ok (.aload_n 0, 1) := by decide +kernel
theorem dX3_tellOf_39 : decode cX3_tellOf 39 = .ok (.getfield 15, 3) := by decide +kernel
theorem dX3_tellOf_42 : decode cX3_tellOf 42 = .ok (.iload_n 3, 1) := by decide +kernel
theorem dX3_tellOf_43 : decode cX3_tellOf 43 = .ok (.laload, 1) := by decide +kernel
theorem dX3_tellOf_44 : decode cX3_tellOf 44 = .ok (.iload_n 1, 1) := by decide +kernel
theorem dX3_tellOf_45 : decode cX3_tellOf 45 = .ok (.invokestatic 23, 3) := by decide +kernel
theorem dX3_tellOf_48 : decode cX3_tellOf 48 = .ok (.land, 1) := by decide +kernel
theorem dX3_tellOf_49 : decode cX3_tellOf 49 = .ok (.lconst 0, 1) := by decide +kernel
theorem dX3_tellOf_50 : decode cX3_tellOf 50 = .ok (.lcmp, 1) := by decide +kernel
theorem dX3_tellOf_51 : decode cX3_tellOf 51 = .ok (.ifCond .eq 5, 3) := by decide +kernel
theorem dX3_tellOf_54 : decode cX3_tellOf 54 = .ok (.iconst 1, 1) := by decide +kernel
theorem dX3_tellOf_55 : decode cX3_tellOf 55 = .ok (.ireturn, 1) := by decide +kernel
theorem dX3_tellOf_56 : decode cX3_tellOf 56 = .ok (.iinc 3 1, 3) := by decide +kernel
theorem dX3_tellOf_59 : decode cX3_tellOf 59 = .ok (.goto (-57), 3) := by decide +kernel
theorem dX3_tellOf_62 : decode cX3_tellOf 62 = .ok (.iconst 0, 1) := by decide +kernel
theorem dX3_tellOf_63 : decode cX3_tellOf 63 = .ok (.ireturn, 1) := by decide +kernel
theorem dX4_init_0 : decode cX4_init 0 = .ok (.aload_n 0, 1) := by decide +kernel
theorem dX4_init_1 : decode cX4_init 1 = .ok (.invokespecial 3, 3) := by decide +kernel
theorem dX4_init_4 : decode cX4_init 4 = .ok (.aload_n 0, 1) := by decide +kernel
theorem dX4_init_5 : decode cX4_init 5 = .ok (.bipush 40, 2) := by decide +kernel
theorem dX4_init_7 : decode cX4_init 7 = .ok (.newarray .long, 2) := by decide +kernel
theorem dX4_init_9 : decode cX4_init 9 = .ok (.putfield 9, 3) := by decide +kernel
theorem dX4_init_12 : decode cX4_init 12 = .ok (.aload_n 0, 1) := by decide +kernel
theorem dX4_init_13 : decode cX4_init 13 = .ok (.bipush 8, 2) := by decide +kernel
theorem dX4_init_15 : decode cX4_init 15 = .ok (.newarray .long, 2) := by decide +kernel
theorem dX4_init_17 : decode cX4_init 17 = .ok (.putfield 15, 3) := by decide +kernel
theorem dX4_init_20 : decode cX4_init 20 = .ok (.aload_n 0, 1) := by decide +kernel
theorem dX4_init_21 : decode cX4_init 21 = .ok (.new 18, 3) := by decide +kernel
theorem dX4_init_24 : decode cX4_init 24 = .ok (.dup, 1) := by decide +kernel
theorem dX4_init_25 : decode cX4_init 25 = .ok (.invokespecial 20, 3) := by decide +kernel
theorem dX4_init_28 : decode cX4_init 28 = .ok (.putfield 21, 3) := by decide +kernel
theorem dX4_init_31 : decode cX4_init 31 = .ok (.aload_n 0, 1) := by decide +kernel
theorem dX4_init_32 : decode cX4_init 32 = .ok (.iconst 0, 1) := by decide +kernel
theorem dX4_init_33 : decode cX4_init 33 = .ok (.putfield 25, 3) := by decide +kernel
theorem dX4_init_36 : decode cX4_init 36 = .ok (.return_, 1) := by decide +kernel
theorem dX4_append_0 : decode cX4_append 0 = .ok (.aload_n 0, 1) := by decide +kernel
theorem dX4_append_1 : decode cX4_append 1 = .ok (.getfield 25, 3) := by decide +kernel
theorem dX4_append_4 : decode cX4_append 4 = .ok (.ifCond .lt 90, 3) := by decide +kernel
theorem dX4_append_7 : decode cX4_append 7 = .ok (.aload_n 0, 1) := by decide +kernel
theorem dX4_append_8 : decode cX4_append 8 = .ok (.getfield 25, 3) := by decide +kernel
theorem dX4_append_11 : decode cX4_append 11 = .ok (.aload_n 0, 1) := by decide +kernel
theorem dX4_append_12 : decode cX4_append 12 = .ok (.getfield 9, 3) := by decide +kernel
theorem dX4_append_15 : decode cX4_append 15 = .ok (.arraylength, 1) := by decide +kernel
theorem dX4_append_16 : decode cX4_append 16 = .ok (.if_icmp .ge 78, 3) := by decide +kernel
theorem dX4_append_19 : decode cX4_append 19 = .ok (.aload_n 0, 1) := by decide +kernel
theorem dX4_append_20 : decode cX4_append 20 = .ok (.getfield 9, 3) := by decide +kernel
theorem dX4_append_23 : decode cX4_append 23 = .ok (.aload_n 0, 1) := by decide +kernel
theorem dX4_append_24 : decode cX4_append 24 = .ok (.getfield 25, 3) := by decide +kernel
theorem dX4_append_27 : decode cX4_append 27 = .ok (.ldc2_w 29, 3) := by decide +kernel
theorem dX4_append_30 : decode cX4_append 30 = .ok (.aload_n 1, 1) := by decide +kernel
theorem dX4_append_31 : decode cX4_append 31 = .ok (.getfield 31, 3) := by decide +kernel
theorem dX4_append_34 : decode cX4_append 34 = .ok (.i2l, 1) := by decide +kernel
theorem dX4_append_35 : decode cX4_append 35 = .ok (.lmul, 1) := by decide +kernel
theorem dX4_append_36 : decode cX4_append 36 = .ok (.ldc2_w 36, 3) := by decide +kernel
theorem dX4_append_39 : decode cX4_append 39 = .ok (.aload_n 1, 1) := by decide +kernel
theorem dX4_append_40 : decode cX4_append 40 = .ok (.getfield 38, 3) := by decide +kernel
theorem dX4_append_43 : decode cX4_append 43 = .ok (.getfield 42, 3) := by decide +kernel
theorem dX4_append_46 : decode cX4_append 46 = .ok (.i2l, 1) := by decide +kernel
theorem dX4_append_47 : decode cX4_append 47 = .ok (.lmul, 1) := by decide +kernel
theorem dX4_append_48 : decode cX4_append 48 = .ok (.ladd, 1) := by decide +kernel
theorem dX4_append_49 : decode cX4_append 49 = .ok (.ldc2_w 47, 3) := by decide +kernel
theorem dX4_append_52 : decode cX4_append 52 = .ok (.aload_n 1, 1) := by decide +kernel
theorem dX4_append_53 : decode cX4_append 53 = .ok (.getfield 38, 3) := by decide +kernel
theorem dX4_append_56 : decode cX4_append 56 = .ok (.getfield 49, 3) := by decide +kernel
theorem dX4_append_59 : decode cX4_append 59 = .ok (.i2l, 1) := by decide +kernel
theorem dX4_append_60 : decode cX4_append 60 = .ok (.lmul, 1) := by decide +kernel
theorem dX4_append_61 : decode cX4_append 61 = .ok (.ladd, 1) := by decide +kernel
theorem dX4_append_62 : decode cX4_append 62 = .ok (.ldc2_w 52, 3) := by decide +kernel
theorem dX4_append_65 : decode cX4_append 65 = .ok (.aload_n 1, 1) := by decide +kernel
theorem dX4_append_66 : decode cX4_append 66 = .ok (.getfield 54, 3) := by decide +kernel
theorem dX4_append_69 : decode cX4_append 69 = .ok (.getfield 49, 3) := by decide +kernel
theorem dX4_append_72 : decode cX4_append 72 = .ok (.i2l, 1) := by decide +kernel
theorem dX4_append_73 : decode cX4_append 73 = .ok (.lmul, 1) := by decide +kernel
theorem dX4_append_74 : decode cX4_append 74 = .ok (.ladd, 1) := by decide +kernel
theorem dX4_append_75 : decode cX4_append 75 = .ok (.ldc2_w 57, 3) := by decide +kernel
theorem dX4_append_78 : decode cX4_append 78 = .ok (.ladd, 1) := by decide +kernel
theorem dX4_append_79 : decode cX4_append 79 = .ok (.ldc2_w 59, 3) := by decide +kernel
theorem dX4_append_82 : decode cX4_append 82 = .ok (.lrem, 1) := by decide +kernel
theorem dX4_append_83 : decode cX4_append 83 = .ok (.lastore, 1) := by decide +kernel
theorem dX4_append_84 : decode cX4_append 84 = .ok (.aload_n 0, 1) := by decide +kernel
theorem dX4_append_85 : decode cX4_append 85 = .ok (.dup, 1) := by decide +kernel
theorem dX4_append_86 : decode cX4_append 86 = .ok (.getfield 25, 3) := by decide +kernel
theorem dX4_append_89 : decode cX4_append 89 = .ok (.iconst 1, 1) := by decide +kernel
theorem dX4_append_90 : decode cX4_append 90 = .ok (.iadd, 1) := by decide +kernel
theorem dX4_append_91 : decode cX4_append 91 = .ok (.putfield 25, 3) := by decide +kernel
theorem dX4_append_94 : decode cX4_append 94 = .ok (.return_, 1) := by decide +kernel
theorem dX4_hashOfEntry_0 : decode cX4_hashOfEntry 0 = .ok (.iload_n 1, 1) := by decide +kernel
theorem dX4_hashOfEntry_1 : decode cX4_hashOfEntry 1 = .ok (.ifCond .lt 12, 3) := by decide +kernel
theorem dX4_hashOfEntry_4 : decode cX4_hashOfEntry 4 = .ok (.iload_n 1, 1) := by decide +kernel
theorem dX4_hashOfEntry_5 : decode cX4_hashOfEntry 5 = .ok (.aload_n 0, 1) := by decide +kernel
theorem dX4_hashOfEntry_6 : decode cX4_hashOfEntry 6 = .ok (.getfield 9, 3) := by decide +kernel
theorem dX4_hashOfEntry_9 : decode cX4_hashOfEntry 9 = .ok (.arraylength, 1) := by decide +kernel
theorem dX4_hashOfEntry_10 : decode cX4_hashOfEntry 10 = .ok (.if_icmp .lt 7, 3) := by decide +kernel
theorem dX4_hashOfEntry_13 : decode cX4_hashOfEntry 13 = .ok (.lconst 0, 1) := by decide +kernel
theorem dX4_hashOfEntry_14 : decode cX4_hashOfEntry 14 = .ok (.goto 9, 3) := by decide +kernel
theorem dX4_hashOfEntry_17 : decode cX4_hashOfEntry 17 = .ok (.aload_n 0, 1) := by decide +kernel
theorem dX4_hashOfEntry_18 : decode cX4_hashOfEntry 18 = .ok (.getfield 9, 3) := by decide +kernel
theorem dX4_hashOfEntry_21 : decode cX4_hashOfEntry 21 = .ok (.iload_n 1, 1) := by decide +kernel
theorem dX4_hashOfEntry_22 : decode cX4_hashOfEntry 22 = .ok (.laload, 1) := by decide +kernel
theorem dX4_hashOfEntry_23 : decode cX4_hashOfEntry 23 = .ok (.lreturn, 1) := by decide +kernel
theorem dX4_joined_0 : decode cX4_joined 0 = .ok (.ldc2_w 61, 3) := by decide +kernel
theorem dX4_joined_3 : decode cX4_joined 3 = .ok (.lload_n 0, 1) := by decide +kernel
theorem dX4_joined_4 : decode cX4_joined 4 = .ok (.lmul, 1) := by decide +kernel
theorem dX4_joined_5 : decode cX4_joined 5 = .ok (.ldc2_w 63, 3) := by decide +kernel
theorem dX4_joined_8 : decode cX4_joined 8 = .ok (.lload_n 2, 1) := by decide +kernel
theorem dX4_joined_9 : decode cX4_joined 9 = .ok (.lmul, 1) := by decide +kernel
theorem dX4_joined_10 : decode cX4_joined 10 = .ok (.ladd, 1) := by decide +kernel
theorem dX4_joined_11 : decode cX4_joined 11 = .ok (.ldc2_w 65, 3) := by decide +kernel
theorem dX4_joined_14 : decode cX4_joined 14 = .ok (.ladd, 1) := by decide +kernel
theorem dX4_joined_15 : decode cX4_joined 15 = .ok (.ldc2_w 59, 3) := by decide +kernel
theorem dX4_joined_18 : decode cX4_joined 18 = .ok (.lrem, 1) := by decide +kernel
theorem dX4_joined_19 : decode cX4_joined 19 = .ok (.lreturn, 1) := by decide +kernel
theorem dX4_rootByDividing_0 : decode cX4_rootByDividing 0 = .ok (.aload_n 0, 1) := by decide +kernel
theorem dX4_rootByDividing_1 : decode cX4_rootByDividing 1 = .ok (.getfield 9, 3) := by decide +kernel
theorem dX4_rootByDividing_4 : decode cX4_rootByDividing 4 = .ok (.iload_n 1, 1) := by decide +kernel
theorem dX4_rootByDividing_5 : decode cX4_rootByDividing 5 = .ok (.iload_n 2, 1) := by decide +kernel
theorem dX4_rootByDividing_6 : decode cX4_rootByDividing 6 = .ok (.iconst 0, 1) := by decide +kernel
theorem dX4_rootByDividing_7 : decode cX4_rootByDividing 7 = .ok (.invokestatic 67, 3) := by decide +kernel
theorem dX4_rootByDividing_10 : decode cX4_rootByDividing 10 = .ok (.lreturn, 1) := by decide +kernel
theorem dX4_rootOfPart_0 : decode cX4_rootOfPart 0 = .ok (.iload_n 1, 1) := by decide +kernel
theorem dX4_rootOfPart_1 : decode cX4_rootOfPart 1 = .ok (.ifCond .lt 9, 3) := by decide +kernel
theorem dX4_rootOfPart_4 : decode cX4_rootOfPart 4 = .ok (.iload_n 1, 1) := by decide +kernel
theorem dX4_rootOfPart_5 : decode cX4_rootOfPart 5 = .ok (.aload_n 0, 1) := by decide +kernel
theorem dX4_rootOfPart_6 : decode cX4_rootOfPart 6 = .ok (.arraylength, 1) := by decide +kernel
theorem dX4_rootOfPart_7 : decode cX4_rootOfPart 7 = .ok (.if_icmp .lt 5, 3) := by decide +kernel
theorem dX4_rootOfPart_10 : decode cX4_rootOfPart 10 = .ok (.lconst 0, 1) := by decide +kernel
theorem dX4_rootOfPart_11 : decode cX4_rootOfPart 11 = .ok (.lreturn, 1) := by decide +kernel
theorem dX4_rootOfPart_12 : decode cX4_rootOfPart 12 = .ok (.iload_n 2, 1) := by decide +kernel
theorem dX4_rootOfPart_13 : decode cX4_rootOfPart 13 = .ok (.iconst 1, 1) := by decide +kernel
theorem dX4_rootOfPart_14 : decode cX4_rootOfPart 14 = .ok (.if_icmp .le 9, 3) := by decide +kernel
theorem dX4_rootOfPart_17 : decode cX4_rootOfPart 17 = .ok (.iload_n 3, 1) := by decide +kernel
theorem dX4_rootOfPart_18 : decode cX4_rootOfPart 18 = .ok (.bipush 8, 2) := by decide +kernel
theorem dX4_rootOfPart_20 : decode cX4_rootOfPart 20 = .ok (.if_icmp .lt 7, 3) := by decide +kernel
theorem dX4_rootOfPart_23 : decode cX4_rootOfPart 23 = .ok (.aload_n 0, 1) := by decide +kernel
theorem dX4_rootOfPart_24 : decode cX4_rootOfPart 24 = .ok (.iload_n 1, 1) := by decide +kernel
theorem dX4_rootOfPart_25 : decode cX4_rootOfPart 25 = .ok (.laload, 1) := by decide +kernel
theorem dX4_rootOfPart_26 : decode cX4_rootOfPart 26 = .ok (.lreturn, 1) := by decide +kernel
theorem dX4_rootOfPart_27 : decode cX4_rootOfPart 27 = .ok (.iload_n 2, 1) := by decide +kernel
theorem dX4_rootOfPart_28 : decode cX4_rootOfPart 28 = .ok (.invokestatic 71, 3) := by decide +kernel
theorem dX4_rootOfPart_31 : decode cX4_rootOfPart 31 = .ok (.istore 4, 2) := by decide +kernel
theorem dX4_rootOfPart_33 : decode cX4_rootOfPart 33 = .ok (.aload_n 0, 1) := by decide +kernel
theorem dX4_rootOfPart_34 : decode cX4_rootOfPart 34 = .ok (.iload_n 1, 1) := by decide +kernel
theorem dX4_rootOfPart_35 : decode cX4_rootOfPart 35 = .ok (.iload 4, 2) := by decide +kernel
theorem dX4_rootOfPart_37 : decode cX4_rootOfPart 37 = .ok (.iload_n 3, 1) := by decide +kernel
theorem dX4_rootOfPart_38 : decode cX4_rootOfPart 38 = .ok (.iconst 1, 1) := by decide +kernel
theorem dX4_rootOfPart_39 : decode cX4_rootOfPart 39 = .ok (.iadd, 1) := by decide +kernel
theorem dX4_rootOfPart_40 : decode cX4_rootOfPart 40 = .ok (.invokestatic 67, 3) := by decide +kernel
theorem dX4_rootOfPart_43 : decode cX4_rootOfPart 43 = .ok (.aload_n 0, 1) := by decide +kernel
theorem dX4_rootOfPart_44 : decode cX4_rootOfPart 44 = .ok (.iload_n 1, 1) := by decide +kernel
theorem dX4_rootOfPart_45 : decode cX4_rootOfPart 45 = .ok (.iload 4, 2) := by decide +kernel
theorem dX4_rootOfPart_47 : decode cX4_rootOfPart 47 = .ok (.iadd, 1) := by decide +kernel
theorem dX4_rootOfPart_48 : decode cX4_rootOfPart 48 = .ok (.iload_n 2, 1) := by decide +kernel
theorem dX4_rootOfPart_49 : decode cX4_rootOfPart 49 = .ok (.iload 4, 2) := by decide +kernel
theorem dX4_rootOfPart_51 : decode cX4_rootOfPart 51 = .ok (.isub, 1) := by decide +kernel
theorem dX4_rootOfPart_52 : decode cX4_rootOfPart 52 = .ok (.iload_n 3, 1) := by decide +kernel
theorem dX4_rootOfPart_53 : decode cX4_rootOfPart 53 = .ok (.iconst 1, 1) := by decide +kernel
theorem dX4_rootOfPart_54 : decode cX4_rootOfPart 54 = .ok (.iadd, 1) := by decide +kernel
theorem dX4_rootOfPart_55 : decode cX4_rootOfPart 55 = .ok (.invokestatic 67, 3) := by decide +kernel
theorem dX4_rootOfPart_58 : decode cX4_rootOfPart 58 = .ok (.invokestatic 75, 3) := by decide +kernel
theorem dX4_rootOfPart_61 : decode cX4_rootOfPart 61 = .ok (.lreturn, 1) := by decide +kernel
theorem dX4_sizeOfFirstPart_0 : decode cX4_sizeOfFirstPart 0 = .ok (.iconst 1, 1) := by decide +kernel
theorem dX4_sizeOfFirstPart_1 : decode cX4_sizeOfFirstPart 1 = .ok (.istore_n 1, 1) := by decide +kernel
theorem dX4_sizeOfFirstPart_2 : decode cX4_sizeOfFirstPart 2 = .ok (.iconst 2, 1) := by decide +kernel
theorem dX4_sizeOfFirstPart_3 : decode cX4_sizeOfFirstPart 3 = .ok (.istore_n 2, 1) := by decide +kernel
theorem dX4_sizeOfFirstPart_4 : decode cX4_sizeOfFirstPart 4 = .ok (.iload_n 2, 1) := by decide +kernel
theorem dX4_sizeOfFirstPart_5 : decode cX4_sizeOfFirstPart 5 = .ok (.iload_n 0, 1) := by decide +kernel
theorem dX4_sizeOfFirstPart_6 : decode cX4_sizeOfFirstPart 6 = .ok (.if_icmp .ge 18, 3) := by decide +kernel
theorem dX4_sizeOfFirstPart_9 : decode cX4_sizeOfFirstPart 9 = .ok (.iload_n 2, 1) := by decide +kernel
theorem dX4_sizeOfFirstPart_10 : decode cX4_sizeOfFirstPart 10 = .ok (.bipush 40, 2) := by decide +kernel
theorem dX4_sizeOfFirstPart_12 : decode cX4_sizeOfFirstPart 12 = .ok (.if_icmp .gt 12, 3) := by decide +kernel
theorem dX4_sizeOfFirstPart_15 : decode cX4_sizeOfFirstPart 15 = .ok (.iload_n 2, 1) := by decide +kernel
theorem dX4_sizeOfFirstPart_16 : decode cX4_sizeOfFirstPart 16 = .ok (.istore_n 1, 1) := by decide +kernel
theorem dX4_sizeOfFirstPart_17 : decode cX4_sizeOfFirstPart 17 = .ok (.iload_n 2, 1) := by decide +kernel
theorem dX4_sizeOfFirstPart_18 : decode cX4_sizeOfFirstPart 18 = .ok (.iconst 2, 1) := by decide +kernel
theorem dX4_sizeOfFirstPart_19 : decode cX4_sizeOfFirstPart 19 = .ok (.imul, 1) := by decide +kernel
theorem dX4_sizeOfFirstPart_20 : decode cX4_sizeOfFirstPart 20 = .ok (.istore_n 2, 1) := by decide +kernel
theorem dX4_sizeOfFirstPart_21 : decode cX4_sizeOfFirstPart 21 = .ok (.goto (-17), 3) := by decide +kernel
theorem dX4_sizeOfFirstPart_24 : decode cX4_sizeOfFirstPart 24 = .ok (.iload_n 1, 1) := by decide +kernel
theorem dX4_sizeOfFirstPart_25 : decode cX4_sizeOfFirstPart 25 = .ok (.ireturn, 1) := by decide +kernel
theorem dX4_rootOfJoined_0 : decode cX4_rootOfJoined 0 = .ok (.iconst 0, 1) := by decide +kernel
theorem dX4_rootOfJoined_1 : decode cX4_rootOfJoined 1 = .ok (.istore_n 2, 1) := by decide +kernel
theorem dX4_rootOfJoined_2 : decode cX4_rootOfJoined 2 = .ok (.iconst 0, 1) := by decide +kernel
theorem dX4_rootOfJoined_3 : decode cX4_rootOfJoined 3 = .ok (.istore_n 3, 1) := by decide +kernel
theorem dX4_rootOfJoined_4 : decode cX4_rootOfJoined 4 = .ok (.iload_n 3, 1) := by decide +kernel
theorem dX4_rootOfJoined_5 : decode cX4_rootOfJoined 5 = .ok (.iload_n 1, 1) := by decide +kernel
theorem dX4_rootOfJoined_6 : decode cX4_rootOfJoined 6 = .ok (.if_icmp .ge 79, 3) := by decide +kernel
theorem dX4_rootOfJoined_9 : decode cX4_rootOfJoined 9 = .ok (.aload_n 0, 1) := by decide +kernel
theorem dX4_rootOfJoined_10 : decode cX4_rootOfJoined 10 = .ok (.iload_n 3, 1) := by decide +kernel
theorem dX4_rootOfJoined_11 : decode cX4_rootOfJoined 11 = .ok (.invokevirtual 79, 3) := by decide +kernel
theorem dX4_rootOfJoined_14 : decode cX4_rootOfJoined 14 = .ok (.lstore 4, 2) := by decide +kernel
theorem dX4_rootOfJoined_16 : decode cX4_rootOfJoined 16 = .ok (.iload_n 3, 1) := by decide +kernel
theorem dX4_rootOfJoined_17 : decode cX4_rootOfJoined 17 = .ok (.istore 6, 2) := by decide +kernel
theorem dX4_rootOfJoined_19 : decode cX4_rootOfJoined 19 = .ok (.iload 6, 2) := by decide +kernel
theorem dX4_rootOfJoined_21 : decode cX4_rootOfJoined 21 = .ok (.iconst 2, 1) := by decide +kernel
theorem dX4_rootOfJoined_22 : decode cX4_rootOfJoined 22 = .ok (.irem, 1) := by decide +kernel
theorem dX4_rootOfJoined_23 : decode cX4_rootOfJoined 23 = .ok (.iconst 1, 1) := by decide +kernel
theorem dX4_rootOfJoined_24 : decode cX4_rootOfJoined 24 = .ok (.if_icmp .ne 31, 3) := by decide +kernel
theorem dX4_rootOfJoined_27 : decode cX4_rootOfJoined 27 = .ok (.iload_n 2, 1) := by decide +kernel
theorem dX4_rootOfJoined_28 : decode cX4_rootOfJoined 28 = .ok (.ifCond .le 27, 3) := by decide +kernel
theorem dX4_rootOfJoined_31 : decode cX4_rootOfJoined 31 = .ok (.iinc 2 (-1), 3) := by decide +kernel
theorem dX4_rootOfJoined_34 : decode cX4_rootOfJoined 34 = .ok (.aload_n 0, 1) := by decide +kernel
theorem dX4_rootOfJoined_35 : decode cX4_rootOfJoined 35 = .ok (.iload_n 2, 1) := by decide +kernel
theorem dX4_rootOfJoined_36 : decode cX4_rootOfJoined 36 = .ok (.invokevirtual 83, 3) := by decide +kernel
theorem dX4_rootOfJoined_39 : decode cX4_rootOfJoined 39 = .ok (.lload 4, 2) := by decide +kernel
theorem dX4_rootOfJoined_41 : decode cX4_rootOfJoined 41 = .ok (.invokestatic 75, 3) := by decide +kernel
theorem dX4_rootOfJoined_44 : decode cX4_rootOfJoined 44 = .ok (.lstore 4, 2) := by decide +kernel
theorem dX4_rootOfJoined_46 : decode cX4_rootOfJoined 46 = .ok (.iload 6, 2) := by decide +kernel
theorem dX4_rootOfJoined_48 : decode cX4_rootOfJoined 48 = .ok (.iconst 2, 1) := by decide +kernel
theorem dX4_rootOfJoined_49 : decode cX4_rootOfJoined 49 = .ok (.idiv, 1) := by decide +kernel
theorem dX4_rootOfJoined_50 : decode cX4_rootOfJoined 50 = .ok (.istore 6, 2) := by decide +kernel
theorem dX4_rootOfJoined_52 : decode cX4_rootOfJoined 52 = .ok (.goto (-33), 3) := by decide +kernel
theorem dX4_rootOfJoined_55 : decode cX4_rootOfJoined 55 = .ok (.iload_n 2, 1) := by decide +kernel
theorem dX4_rootOfJoined_56 : decode cX4_rootOfJoined 56 = .ok (.ifCond .lt 23, 3) := by decide +kernel
theorem dX4_rootOfJoined_59 : decode cX4_rootOfJoined 59 = .ok (.iload_n 2, 1) := by decide +kernel
theorem dX4_rootOfJoined_60 : decode cX4_rootOfJoined 60 = .ok (.aload_n 0, 1) := by decide +kernel
theorem dX4_rootOfJoined_61 : decode cX4_rootOfJoined 61 = .ok (.getfield 15, 3) := by decide +kernel
theorem dX4_rootOfJoined_64 : decode cX4_rootOfJoined 64 = .ok (.arraylength, 1) := by decide +kernel
theorem dX4_rootOfJoined_65 : decode cX4_rootOfJoined 65 = .ok (.if_icmp .ge 14, 3) := by decide +kernel
theorem dX4_rootOfJoined_68 : decode cX4_rootOfJoined 68 = .ok (.aload_n 0, 1) := by decide +kernel
theorem dX4_rootOfJoined_69 : decode cX4_rootOfJoined 69 = .ok (.getfield 15, 3) := by decide +kernel
theorem dX4_rootOfJoined_72 : decode cX4_rootOfJoined 72 = .ok (.iload_n 2, 1) := by decide +kernel
theorem dX4_rootOfJoined_73 : decode cX4_rootOfJoined 73 = .ok (.lload 4, 2) := by decide +kernel
theorem dX4_rootOfJoined_75 : decode cX4_rootOfJoined 75 = .ok (.lastore, 1) := by decide +kernel
theorem dX4_rootOfJoined_76 : decode cX4_rootOfJoined 76 = .ok (.iinc 2 1, 3) := by decide +kernel
theorem dX4_rootOfJoined_79 : decode cX4_rootOfJoined 79 = .ok (.iinc 3 1, 3) := by decide +kernel
theorem dX4_rootOfJoined_82 : decode cX4_rootOfJoined 82 = .ok (.goto (-78), 3) := by decide +kernel
theorem dX4_rootOfJoined_85 : decode cX4_rootOfJoined 85 = .ok (.aload_n 0, 1) := by decide +kernel
theorem dX4_rootOfJoined_86 : decode cX4_rootOfJoined 86 = .ok (.iload_n 2, 1) := by decide +kernel
theorem dX4_rootOfJoined_87 : decode cX4_rootOfJoined 87 = .ok (.invokevirtual 86, 3) := by decide +kernel
theorem dX4_rootOfJoined_90 : decode cX4_rootOfJoined 90 = .ok (.lreturn, 1) := by decide +kernel
theorem dX4_rootOfFinished_0 : decode cX4_rootOfFinished 0 = .ok (.aload_n 0, 1) := by decide +kernel
theorem dX4_rootOfFinished_1 : decode cX4_rootOfFinished 1 = .ok (.iload_n 1, 1) := by decide +kernel
theorem dX4_rootOfFinished_2 : decode cX4_rootOfFinished 2 = .ok (.iconst 1, 1) := by decide +kernel
theorem dX4_rootOfFinished_3 : decode cX4_rootOfFinished 3 = .ok (.isub, 1) := by decide +kernel
theorem dX4_rootOfFinished_4 : decode cX4_rootOfFinished 4 = .ok (.invokevirtual 83, 3) := by decide +kernel
theorem dX4_rootOfFinished_7 : decode cX4_rootOfFinished 7 = .ok (.lstore_n 2, 1) := by decide +kernel
theorem dX4_rootOfFinished_8 : decode cX4_rootOfFinished 8 = .ok (.iload_n 1, 1) := by decide +kernel
theorem dX4_rootOfFinished_9 : decode cX4_rootOfFinished 9 = .ok (.iconst 2, 1) := by decide +kernel
theorem dX4_rootOfFinished_10 : decode cX4_rootOfFinished 10 = .ok (.isub, 1) := by decide +kernel
theorem dX4_rootOfFinished_11 : decode cX4_rootOfFinished 11 = .ok (.istore 4, 2) := by decide +kernel
theorem dX4_rootOfFinished_13 : decode cX4_rootOfFinished 13 = .ok (.iload 4, 2) := by decide +kernel
theorem dX4_rootOfFinished_15 : decode cX4_rootOfFinished 15 = .ok (.ifCond .lt 20, 3) := by decide +kernel
theorem dX4_rootOfFinished_18 : decode cX4_rootOfFinished 18 = .ok (.aload_n 0, 1) := by decide +kernel
theorem dX4_rootOfFinished_19 : decode cX4_rootOfFinished 19 = .ok (.iload 4, 2) := by decide +kernel
theorem dX4_rootOfFinished_21 : decode cX4_rootOfFinished 21 = .ok (.invokevirtual 83, 3) := by decide +kernel
theorem dX4_rootOfFinished_24 : decode cX4_rootOfFinished 24 = .ok (.lload_n 2, 1) := by decide +kernel
theorem dX4_rootOfFinished_25 : decode cX4_rootOfFinished 25 = .ok (.invokestatic 75, 3) := by decide +kernel
theorem dX4_rootOfFinished_28 : decode cX4_rootOfFinished 28 = .ok (.lstore_n 2, 1) := by decide +kernel
theorem dX4_rootOfFinished_29 : decode cX4_rootOfFinished 29 = .ok (.iinc 4 (-1), 3) := by decide +kernel
theorem dX4_rootOfFinished_32 : decode cX4_rootOfFinished 32 = .ok (.goto (-19), 3) := by decide +kernel
theorem dX4_rootOfFinished_35 : decode cX4_rootOfFinished 35 = .ok (.lload_n 2, 1) := by decide +kernel
theorem dX4_rootOfFinished_36 : decode cX4_rootOfFinished 36 = .ok (.lreturn, 1) := by decide +kernel
theorem dX4_finishedAt_0 : decode cX4_finishedAt 0 = .ok (.iload_n 1, 1) := by decide +kernel
theorem dX4_finishedAt_1 : decode cX4_finishedAt 1 = .ok (.ifCond .lt 12, 3) := by decide +kernel
theorem dX4_finishedAt_4 : decode cX4_finishedAt 4 = .ok (.iload_n 1, 1) := by decide +kernel
theorem dX4_finishedAt_5 : decode cX4_finishedAt 5 = .ok (.aload_n 0, 1) := by decide +kernel
theorem dX4_finishedAt_6 : decode cX4_finishedAt 6 = .ok (.getfield 15, 3) := by decide +kernel
theorem dX4_finishedAt_9 : decode cX4_finishedAt 9 = .ok (.arraylength, 1) := by decide +kernel
theorem dX4_finishedAt_10 : decode cX4_finishedAt 10 = .ok (.if_icmp .lt 7, 3) := by decide +kernel
theorem dX4_finishedAt_13 : decode cX4_finishedAt 13 = .ok (.lconst 0, 1) := by decide +kernel
theorem dX4_finishedAt_14 : decode cX4_finishedAt 14 = .ok (.goto 9, 3) := by decide +kernel
theorem dX4_finishedAt_17 : decode cX4_finishedAt 17 = .ok (.aload_n 0, 1) := by decide +kernel
theorem dX4_finishedAt_18 : decode cX4_finishedAt 18 = .ok (.getfield 15, 3) := by decide +kernel
theorem dX4_finishedAt_21 : decode cX4_finishedAt 21 = .ok (.iload_n 1, 1) := by decide +kernel
theorem dX4_finishedAt_22 : decode cX4_finishedAt 22 = .ok (.laload, 1) := by decide +kernel
theorem dX4_finishedAt_23 : decode cX4_finishedAt 23 = .ok (.lreturn, 1) := by decide +kernel
theorem dX4_proofOfEntry_0 : decode cX4_proofOfEntry 0 = .ok (.aload_n 0, 1) := by decide +kernel
theorem dX4_proofOfEntry_1 : decode cX4_proofOfEntry 1 = .ok (.getfield 21, 3) := by decide +kernel
theorem dX4_proofOfEntry_4 : decode cX4_proofOfEntry 4 = .ok (.invokevirtual 89, 3) := by decide +kernel
theorem dX4_proofOfEntry_7 : decode cX4_proofOfEntry 7 = .ok (.aload_n 0, 1) := by decide +kernel
theorem dX4_proofOfEntry_8 : decode cX4_proofOfEntry 8 = .ok (.iload_n 1, 1) := by decide +kernel
theorem dX4_proofOfEntry_9 : decode cX4_proofOfEntry 9 = .ok (.iconst 1, 1) := by decide +kernel
theorem dX4_proofOfEntry_10 : decode cX4_proofOfEntry 10 = .ok (.iadd, 1) := by decide +kernel
theorem dX4_proofOfEntry_11 : decode cX4_proofOfEntry 11 = .ok (.iload_n 2, 1) := by decide +kernel
theorem dX4_proofOfEntry_12 : decode cX4_proofOfEntry 12 = .ok (.iconst 0, 1) := by decide +kernel
theorem dX4_proofOfEntry_13 : decode cX4_proofOfEntry 13 = .ok (.invokevirtual 92, 3) := by decide +kernel
theorem dX4_proofOfEntry_16 : decode cX4_proofOfEntry 16 = .ok (.aload_n 0, 1) := by decide +kernel
theorem dX4_proofOfEntry_17 : decode cX4_proofOfEntry 17 = .ok (.getfield 21, 3) := by decide +kernel
theorem dX4_proofOfEntry_20 : decode cX4_proofOfEntry 20 = .ok (.areturn, 1) := by decide +kernel
theorem dX4_proofOfGrowth_0 : decode cX4_proofOfGrowth 0 = .ok (.aload_n 0, 1) := by decide +kernel
theorem dX4_proofOfGrowth_1 : decode cX4_proofOfGrowth 1 = .ok (.getfield 21, 3) := by decide +kernel
theorem dX4_proofOfGrowth_4 : decode cX4_proofOfGrowth 4 = .ok (.invokevirtual 89, 3) := by decide +kernel
theorem dX4_proofOfGrowth_7 : decode cX4_proofOfGrowth 7 = .ok (.aload_n 0, 1) := by decide +kernel
theorem dX4_proofOfGrowth_8 : decode cX4_proofOfGrowth 8 = .ok (.iload_n 1, 1) := by decide +kernel
theorem dX4_proofOfGrowth_9 : decode cX4_proofOfGrowth 9 = .ok (.iload_n 2, 1) := by decide +kernel
theorem dX4_proofOfGrowth_10 : decode cX4_proofOfGrowth 10 = .ok (.iconst 1, 1) := by decide +kernel
theorem dX4_proofOfGrowth_11 : decode cX4_proofOfGrowth 11 = .ok (.invokevirtual 92, 3) := by decide +kernel
theorem dX4_proofOfGrowth_14 : decode cX4_proofOfGrowth 14 = .ok (.aload_n 0, 1) := by decide +kernel
theorem dX4_proofOfGrowth_15 : decode cX4_proofOfGrowth 15 = .ok (.getfield 21, 3) := by decide +kernel
theorem dX4_proofOfGrowth_18 : decode cX4_proofOfGrowth 18 = .ok (.areturn, 1) := by decide +kernel
theorem dX4_descend_0 : decode cX4_descend 0 = .ok (.iconst 0, 1) := by decide +kernel
theorem dX4_descend_1 : decode cX4_descend 1 = .ok (.istore 4, 2) := by decide +kernel
theorem dX4_descend_3 : decode cX4_descend 3 = .ok (.iload_n 2, 1) := by decide +kernel
theorem dX4_descend_4 : decode cX4_descend 4 = .ok (.istore 5, 2) := by decide +kernel
theorem dX4_descend_6 : decode cX4_descend 6 = .ok (.iconst 0, 1) := by decide +kernel
theorem dX4_descend_7 : decode cX4_descend 7 = .ok (.istore 6, 2) := by decide +kernel
theorem dX4_descend_9 : decode cX4_descend 9 = .ok (.iload 6, 2) := by decide +kernel
theorem dX4_descend_11 : decode cX4_descend 11 = .ok (.bipush 8, 2) := by decide +kernel
theorem dX4_descend_13 : decode cX4_descend 13 = .ok (.if_icmp .ge 106, 3) := by decide +kernel
theorem dX4_descend_16 : decode cX4_descend 16 = .ok (.iload 5, 2) := by decide +kernel
theorem dX4_descend_18 : decode cX4_descend 18 = .ok (.iconst 1, 1) := by decide +kernel
theorem dX4_descend_19 : decode cX4_descend 19 = .ok (.if_icmp .le 100, 3) := by decide +kernel
theorem dX4_descend_22 : decode cX4_descend 22 = .ok (.iload_n 3, 1) := by decide +kernel
theorem dX4_descend_23 : decode cX4_descend 23 = .ok (.ifCond .eq 15, 3) := by decide +kernel
theorem dX4_descend_26 : decode cX4_descend 26 = .ok (.iload_n 1, 1) := by decide +kernel
theorem dX4_descend_27 : decode cX4_descend 27 = .ok (.iload 4, 2) := by decide +kernel
theorem dX4_descend_29 : decode cX4_descend 29 = .ok (.iload 5, 2) := by decide +kernel
theorem dX4_descend_31 : decode cX4_descend 31 = .ok (.iadd, 1) := by decide +kernel
theorem dX4_descend_32 : decode cX4_descend 32 = .ok (.if_icmp .ne 6, 3) := by decide +kernel
theorem dX4_descend_35 : decode cX4_descend 35 = .ok (.goto 84, 3) := by decide +kernel
theorem dX4_descend_38 : decode cX4_descend 38 = .ok (.iload 5, 2) := by decide +kernel
theorem dX4_descend_40 : decode cX4_descend 40 = .ok (.invokestatic 71, 3) := by decide +kernel
theorem dX4_descend_43 : decode cX4_descend 43 = .ok (.istore 7, 2) := by decide +kernel
theorem dX4_descend_45 : decode cX4_descend 45 = .ok (.iload_n 1, 1) := by decide +kernel
theorem dX4_descend_46 : decode cX4_descend 46 = .ok (.iload 4, 2) := by decide +kernel
theorem dX4_descend_48 : decode cX4_descend 48 = .ok (.iload 7, 2) := by decide +kernel
theorem dX4_descend_50 : decode cX4_descend 50 = .ok (.iadd, 1) := by decide +kernel
theorem dX4_descend_51 : decode cX4_descend 51 = .ok (.if_icmp .gt 32, 3) := by decide +kernel
theorem dX4_descend_54 : decode cX4_descend 54 = .ok (.aload_n 0, 1) := by decide +kernel
theorem dX4_descend_55 : decode cX4_descend 55 = .ok (.getfield 21, 3) := by decide +kernel
theorem dX4_descend_58 : decode cX4_descend 58 = .ok (.aload_n 0, 1) := by decide +kernel
theorem dX4_descend_59 : decode cX4_descend 59 = .ok (.iload 4, 2) := by decide +kernel
theorem dX4_descend_61 : decode cX4_descend 61 = .ok (.iload 7, 2) := by decide +kernel
theorem dX4_descend_63 : decode cX4_descend 63 = .ok (.iadd, 1) := by decide +kernel
theorem dX4_descend_64 : decode cX4_descend 64 = .ok (.iload 5, 2) := by decide +kernel
theorem dX4_descend_66 : decode cX4_descend 66 = .ok (.iload 7, 2) := by decide +kernel
theorem dX4_descend_68 : decode cX4_descend 68 = .ok (.isub, 1) := by decide +kernel
theorem dX4_descend_69 : decode cX4_descend 69 = .ok (.invokevirtual 96, 3) := by decide +kernel
theorem dX4_descend_72 : decode cX4_descend 72 = .ok (.iconst 0, 1) := by decide +kernel
theorem dX4_descend_73 : decode cX4_descend 73 = .ok (.invokevirtual 100, 3) := by decide +kernel
theorem dX4_descend_76 : decode cX4_descend 76 = .ok (.iload 7, 2) := by decide +kernel
theorem dX4_descend_78 : decode cX4_descend 78 = .ok (.istore 5, 2) := by decide +kernel
theorem dX4_descend_80 : decode cX4_descend 80 = .ok (.goto 33, 3) := by decide +kernel
theorem dX4_descend_83 : decode cX4_descend 83 = .ok (.aload_n 0, 1) := by decide +kernel
theorem dX4_descend_84 : decode cX4_descend 84 = .ok (.getfield 21, 3) := by decide +kernel
theorem dX4_descend_87 : decode cX4_descend 87 = .ok (.aload_n 0, 1) := by decide +kernel
theorem dX4_descend_88 : decode cX4_descend 88 = .ok (.iload 4, 2) := by decide +kernel
theorem dX4_descend_90 : decode cX4_descend 90 = .ok (.iload 7, 2) := by decide +kernel
theorem dX4_descend_92 : decode cX4_descend 92 = .ok (.invokevirtual 96, 3) := by decide +kernel
theorem dX4_descend_95 : decode cX4_descend 95 = .ok (.iconst 1, 1) := by decide +kernel
theorem dX4_descend_96 : decode cX4_descend 96 = .ok (.invokevirtual 100, 3) := by decide +kernel
theorem dX4_descend_99 : decode cX4_descend 99 = .ok (.iload 4, 2) := by decide +kernel
theorem dX4_descend_101 : decode cX4_descend 101 = .ok (.iload 7, 2) := by decide +kernel
theorem dX4_descend_103 : decode cX4_descend 103 = .ok (.iadd, 1) := by decide +kernel
theorem dX4_descend_104 : decode cX4_descend 104 = .ok (.istore 4, 2) := by decide +kernel
theorem dX4_descend_106 : decode cX4_descend 106 = .ok (.iload 5, 2) := by decide +kernel
theorem dX4_descend_108 : decode cX4_descend 108 = .ok (.iload 7, 2) := by decide +kernel
theorem dX4_descend_110 : decode cX4_descend 110 = .ok (.isub, 1) := by decide +kernel
theorem dX4_descend_111 : decode cX4_descend 111 = .ok (.istore 5, 2) := by decide +kernel
theorem dX4_descend_113 : decode cX4_descend 113 = .ok (.iinc 6 1, 3) := by decide +kernel
theorem dX4_descend_116 : decode cX4_descend 116 = .ok (.goto (-107), 3) := by decide +kernel
theorem dX4_descend_119 : decode cX4_descend 119 = .ok (.iload_n 3, 1) := by decide +kernel
theorem dX4_descend_120 : decode cX4_descend 120 = .ok (.ifCond .eq 24, 3) := by decide +kernel
theorem dX4_descend_123 : decode cX4_descend 123 = .ok (.iload 4, 2) := by decide +kernel
theorem dX4_descend_125 : decode cX4_descend 125 = .ok (.ifCond .le 19, 3) := by decide +kernel
theorem dX4_descend_128 : decode cX4_descend 128 = .ok (.aload_n 0, 1) := by decide +kernel
theorem dX4_descend_129 : decode cX4_descend 129 = .ok (.getfield 21, 3) := by decide +kernel
theorem dX4_descend_132 : decode cX4_descend 132 = .ok (.aload_n 0, 1) := by decide +kernel
theorem dX4_descend_133 : decode cX4_descend 133 = .ok (.iload 4, 2) := by decide +kernel
theorem dX4_descend_135 : decode cX4_descend 135 = .ok (.iload 5, 2) := by decide +kernel
theorem dX4_descend_137 : decode cX4_descend 137 = .ok (.invokevirtual 96, 3) := by decide +kernel
theorem dX4_descend_140 : decode cX4_descend 140 = .ok (.iconst 1, 1) := by decide +kernel
theorem dX4_descend_141 : decode cX4_descend 141 = .ok (.invokevirtual 100, 3) := by decide +kernel
theorem dX4_descend_144 : decode cX4_descend 144 = .ok (.return_, 1) := by decide +kernel
theorem dX5_init_0 : decode cX5_init 0 = .ok (.aload_n 0, 1) := by decide +kernel
theorem dX5_init_1 : decode cX5_init 1 = .ok (.invokespecial 1, 3) := by decide +kernel
theorem dX5_init_4 : decode cX5_init 4 = .ok (.aload_n 0, 1) := by decide +kernel
theorem dX5_init_5 : decode cX5_init 5 = .ok (.bipush 8, 2) := by decide +kernel
theorem dX5_init_7 : decode cX5_init 7 = .ok (.newarray .long, 2) := by decide +kernel
theorem dX5_init_9 : decode cX5_init 9 = .ok (.putfield 9, 3) := by decide +kernel
theorem dX5_init_12 : decode cX5_init 12 = .ok (.aload_n 0, 1) := by decide +kernel
theorem dX5_init_13 : decode cX5_init 13 = .ok (.bipush 8, 2) := by decide +kernel
theorem dX5_init_15 : decode cX5_init 15 = .ok (.newarray .boolean, 2) := by decide +kernel
theorem dX5_init_17 : decode cX5_init 17 = .ok (.putfield 13, 3) := by decide +kernel
theorem dX5_init_20 : decode cX5_init 20 = .ok (.aload_n 0, 1) := by decide +kernel
theorem dX5_init_21 : decode cX5_init 21 = .ok (.iconst 0, 1) := by decide +kernel
theorem dX5_init_22 : decode cX5_init 22 = .ok (.putfield 17, 3) := by decide +kernel
theorem dX5_init_25 : decode cX5_init 25 = .ok (.return_, 1) := by decide +kernel
theorem dX5_clear_0 : decode cX5_clear 0 = .ok (.aload_n 0, 1) := by decide +kernel
theorem dX5_clear_1 : decode cX5_clear 1 = .ok (.iconst 0, 1) := by decide +kernel
theorem dX5_clear_2 : decode cX5_clear 2 = .ok (.putfield 17, 3) := by decide +kernel
theorem dX5_clear_5 : decode cX5_clear 5 = .ok (.return_, 1) := by decide +kernel
theorem dX5_push_0 : decode cX5_push 0 = .ok (.aload_n 0, 1) := by decide +kernel
theorem dX5_push_1 : decode cX5_push 1 = .ok (.getfield 17, 3) := by decide +kernel
theorem dX5_push_4 : decode cX5_push 4 = .ok (.ifCond .lt 57, 3) := by decide +kernel
theorem dX5_push_7 : decode cX5_push 7 = .ok (.aload_n 0, 1) := by decide +kernel
theorem dX5_push_8 : decode cX5_push 8 = .ok (.getfield 17, 3) := by decide +kernel
theorem dX5_push_11 : decode cX5_push 11 = .ok (.aload_n 0, 1) := by decide +kernel
theorem dX5_push_12 : decode cX5_push 12 = .ok (.getfield 9, 3) := by decide +kernel
theorem dX5_push_15 : decode cX5_push 15 = .ok (.arraylength, 1) := by decide +kernel
theorem dX5_push_16 : decode cX5_push 16 = .ok (.if_icmp .ge 45, 3) := by decide +kernel
theorem dX5_push_19 : decode cX5_push 19 = .ok (.aload_n 0, 1) := by decide +kernel
theorem dX5_push_20 : decode cX5_push 20 = .ok (.getfield 17, 3) := by decide +kernel
theorem dX5_push_23 : decode cX5_push 23 = .ok (.aload_n 0, 1) := by decide +kernel
theorem dX5_push_24 : decode cX5_push 24 = .ok (.getfield 13, 3) := by decide +kernel
theorem dX5_push_27 : decode cX5_push 27 = .ok (.arraylength, 1) := by decide +kernel
theorem dX5_push_28 : decode cX5_push 28 = .ok (.if_icmp .ge 33, 3) := by decide +kernel
theorem dX5_push_31 : decode cX5_push 31 = .ok (.aload_n 0, 1) := by decide +kernel
theorem dX5_push_32 : decode cX5_push 32 = .ok (.getfield 9, 3) := by decide +kernel
theorem dX5_push_35 : decode cX5_push 35 = .ok (.aload_n 0, 1) := by decide +kernel
theorem dX5_push_36 : decode cX5_push 36 = .ok (.getfield 17, 3) := by decide +kernel
theorem dX5_push_39 : decode cX5_push 39 = .ok (.lload_n 1, 1) := by decide +kernel
theorem dX5_push_40 : decode cX5_push 40 = .ok (.lastore, 1) := by decide +kernel
theorem dX5_push_41 : decode cX5_push 41 = .ok (.aload_n 0, 1) := by decide +kernel
theorem dX5_push_42 : decode cX5_push 42 = .ok (.getfield 13, 3) := by decide +kernel
theorem dX5_push_45 : decode cX5_push 45 = .ok (.aload_n 0, 1) := by decide +kernel
theorem dX5_push_46 : decode cX5_push 46 = .ok (.getfield 17, 3) := by decide +kernel
theorem dX5_push_49 : decode cX5_push 49 = .ok (.iload_n 3, 1) := by decide +kernel
theorem dX5_push_50 : decode cX5_push 50 = .ok (.bastore, 1) := by decide +kernel
theorem dX5_push_51 : decode cX5_push 51 = .ok (.aload_n 0, 1) := by decide +kernel
theorem dX5_push_52 : decode cX5_push 52 = .ok (.dup, 1) := by decide +kernel
theorem dX5_push_53 : decode cX5_push 53 = .ok (.getfield 17, 3) := by decide +kernel
theorem dX5_push_56 : decode cX5_push 56 = .ok (.iconst 1, 1) := by decide +kernel
theorem dX5_push_57 : decode cX5_push 57 = .ok (.iadd, 1) := by decide +kernel
theorem dX5_push_58 : decode cX5_push 58 = .ok (.putfield 17, 3) := by decide +kernel
theorem dX5_push_61 : decode cX5_push 61 = .ok (.return_, 1) := by decide +kernel
theorem dX5_hasIndex_0 : decode cX5_hasIndex 0 = .ok (.iload_n 1, 1) := by decide +kernel
theorem dX5_hasIndex_1 : decode cX5_hasIndex 1 = .ok (.ifCond .lt 27, 3) := by decide +kernel
theorem dX5_hasIndex_4 : decode cX5_hasIndex 4 = .ok (.iload_n 1, 1) := by decide +kernel
theorem dX5_hasIndex_5 : decode cX5_hasIndex 5 = .ok (.aload_n 0, 1) := by decide +kernel
theorem dX5_hasIndex_6 : decode cX5_hasIndex 6 = .ok (.getfield 17, 3) := by decide +kernel
theorem dX5_hasIndex_9 : decode cX5_hasIndex 9 = .ok (.if_icmp .ge 19, 3) := by decide +kernel
theorem dX5_hasIndex_12 : decode cX5_hasIndex 12 = .ok (.aload_n 0, 1) := by decide +kernel
theorem dX5_hasIndex_13 : decode cX5_hasIndex 13 = .ok (.getfield 17, 3) := by decide +kernel
theorem dX5_hasIndex_16 : decode cX5_hasIndex 16 = .ok (.aload_n 0, 1) := by decide +kernel
theorem dX5_hasIndex_17 : decode cX5_hasIndex 17 = .ok (.getfield 9, 3) := by decide +kernel
theorem dX5_hasIndex_20 : decode cX5_hasIndex 20 = .ok (.arraylength, 1) := by decide +kernel
theorem dX5_hasIndex_21 : decode cX5_hasIndex 21 = .ok (.if_icmp .gt 7, 3) := by decide +kernel
theorem dX5_hasIndex_24 : decode cX5_hasIndex 24 = .ok (.iconst 1, 1) := by decide +kernel
theorem dX5_hasIndex_25 : decode cX5_hasIndex 25 = .ok (.goto 4, 3) := by decide +kernel
theorem dX5_hasIndex_28 : decode cX5_hasIndex 28 = .ok (.iconst 0, 1) := by decide +kernel
theorem dX5_hasIndex_29 : decode cX5_hasIndex 29 = .ok (.ireturn, 1) := by decide +kernel
theorem dX5_hash_0 : decode cX5_hash 0 = .ok (.aload_n 0, 1) := by decide +kernel
theorem dX5_hash_1 : decode cX5_hash 1 = .ok (.iload_n 1, 1) := by decide +kernel
theorem dX5_hash_2 : decode cX5_hash 2 = .ok (.invokevirtual 21, 3) := by decide +kernel
theorem dX5_hash_5 : decode cX5_hash 5 = .ok (.ifCond .eq 19, 3) := by decide +kernel
theorem dX5_hash_8 : decode cX5_hash 8 = .ok (.aload_n 0, 1) := by decide +kernel
theorem dX5_hash_9 : decode cX5_hash 9 = .ok (.getfield 9, 3) := by decide +kernel
theorem dX5_hash_12 : decode cX5_hash 12 = .ok (.aload_n 0, 1) := by decide +kernel
theorem dX5_hash_13 : decode cX5_hash 13 = .ok (.getfield 17, 3) := by decide +kernel
theorem dX5_hash_16 : decode cX5_hash 16 = .ok (.iconst 1, 1) := by decide +kernel
theorem dX5_hash_17 : decode cX5_hash 17 = .ok (.isub, 1) := by decide +kernel
theorem dX5_hash_18 : decode cX5_hash 18 = .ok (.iload_n 1, 1) := by decide +kernel
theorem dX5_hash_19 : decode cX5_hash 19 = .ok (.isub, 1) := by decide +kernel
theorem dX5_hash_20 : decode cX5_hash 20 = .ok (.laload, 1) := by decide +kernel
theorem dX5_hash_21 : decode cX5_hash 21 = .ok (.goto 4, 3) := by decide +kernel
theorem dX5_hash_24 : decode cX5_hash 24 = .ok (.lconst 0, 1) := by decide +kernel
theorem dX5_hash_25 : decode cX5_hash 25 = .ok (.lreturn, 1) := by decide +kernel
theorem dX5_rootFrom_0 : decode cX5_rootFrom 0 = .ok (.lload_n 1, 1) := by decide +kernel
theorem dX5_rootFrom_1 : decode cX5_rootFrom 1 = .ok (.lstore_n 3, 1) := by decide +kernel
theorem dX5_rootFrom_2 : decode cX5_rootFrom 2 = .ok (.aload_n 0, 1) := by decide +kernel
theorem dX5_rootFrom_3 : decode cX5_rootFrom 3 = .ok (.getfield 17, 3) := by decide +kernel
theorem dX5_rootFrom_6 : decode cX5_rootFrom 6 = .ok (.iconst 1, 1) := by decide +kernel
theorem dX5_rootFrom_7 : decode cX5_rootFrom 7 = .ok (.isub, 1) := by decide +kernel
theorem dX5_rootFrom_8 : decode cX5_rootFrom 8 = .ok (.istore 5, 2) := by decide +kernel
theorem dX5_rootFrom_10 : decode cX5_rootFrom 10 = .ok (.iload 5, 2) := by decide +kernel
theorem dX5_rootFrom_12 : decode cX5_rootFrom 12 = .ok (.ifCond .lt 65, 3) := by decide +kernel
theorem dX5_rootFrom_15 : decode cX5_rootFrom 15 = .ok (.iload 5, 2) := by decide +kernel
theorem dX5_rootFrom_17 : decode cX5_rootFrom 17 = .ok (.aload_n 0, 1) := by decide +kernel
theorem dX5_rootFrom_18 : decode cX5_rootFrom 18 = .ok (.getfield 9, 3) := by decide +kernel
theorem dX5_rootFrom_21 : decode cX5_rootFrom 21 = .ok (.arraylength, 1) := by decide +kernel
theorem dX5_rootFrom_22 : decode cX5_rootFrom 22 = .ok (.if_icmp .ge 55, 3) := by decide +kernel
theorem dX5_rootFrom_25 : decode cX5_rootFrom 25 = .ok (.iload 5, 2) := by decide +kernel
theorem dX5_rootFrom_27 : decode cX5_rootFrom 27 = .ok (.aload_n 0, 1) := by decide +kernel
theorem dX5_rootFrom_28 : decode cX5_rootFrom 28 = .ok (.getfield 13, 3) := by decide +kernel
theorem dX5_rootFrom_31 : decode cX5_rootFrom 31 = .ok (.arraylength, 1) := by decide +kernel
theorem dX5_rootFrom_32 : decode cX5_rootFrom 32 = .ok (.if_icmp .ge 45, 3) := by decide +kernel
theorem dX5_rootFrom_35 : decode cX5_rootFrom 35 = .ok (.aload_n 0, 1) := by decide +kernel
theorem dX5_rootFrom_36 : decode cX5_rootFrom 36 = .ok (.getfield 13, 3) := by decide +kernel
theorem dX5_rootFrom_39 : decode cX5_rootFrom 39 = .ok (.iload 5, 2) := by decide +kernel
theorem dX5_rootFrom_41 : decode cX5_rootFrom 41 = .ok (.baload, 1) := by decide +kernel
theorem dX5_rootFrom_42 : decode cX5_rootFrom 42 = .ok (.ifCond .eq 17, 3) := by decide +kernel
theorem dX5_rootFrom_45 : decode cX5_rootFrom 45 = .ok (.aload_n 0, 1) := by decide +kernel
theorem dX5_rootFrom_46 : decode cX5_rootFrom 46 = .ok (.getfield 9, 3) := by decide +kernel
theorem dX5_rootFrom_49 : decode cX5_rootFrom 49 = .ok (.iload 5, 2) := by decide +kernel
theorem dX5_rootFrom_51 : decode cX5_rootFrom 51 = .ok (.laload, 1) := by decide +kernel
theorem dX5_rootFrom_52 : decode cX5_rootFrom 52 = .ok (.lload_n 3, 1) := by decide +kernel
theorem dX5_rootFrom_53 : decode cX5_rootFrom 53 = .ok (.invokestatic 25, 3) := by decide +kernel
theorem dX5_rootFrom_56 : decode cX5_rootFrom 56 = .ok (.goto 14, 3) := by decide +kernel
theorem dX5_rootFrom_59 : decode cX5_rootFrom 59 = .ok (.lload_n 3, 1) := by decide +kernel
theorem dX5_rootFrom_60 : decode cX5_rootFrom 60 = .ok (.aload_n 0, 1) := by decide +kernel
theorem dX5_rootFrom_61 : decode cX5_rootFrom 61 = .ok (.getfield 9, 3) := by decide +kernel
theorem dX5_rootFrom_64 : decode cX5_rootFrom 64 = .ok (.iload 5, 2) := by decide +kernel
theorem dX5_rootFrom_66 : decode cX5_rootFrom 66 = .ok (.laload, 1) := by decide +kernel
theorem dX5_rootFrom_67 : decode cX5_rootFrom 67 = .ok (.invokestatic 25, 3) := by decide +kernel
theorem dX5_rootFrom_70 : decode cX5_rootFrom 70 = .ok (.lstore_n 3, 1) := by decide +kernel
theorem dX5_rootFrom_71 : decode cX5_rootFrom 71 = .ok (.iinc 5 (-1), 3) := by decide +kernel
theorem dX5_rootFrom_74 : decode cX5_rootFrom 74 = .ok (.goto (-64), 3) := by decide +kernel
theorem dX5_rootFrom_77 : decode cX5_rootFrom 77 = .ok (.lload_n 3, 1) := by decide +kernel
theorem dX5_rootFrom_78 : decode cX5_rootFrom 78 = .ok (.lreturn, 1) := by decide +kernel
theorem dX6_init_0 : decode cX6_init 0 = .ok (.aload_n 0, 1) := by decide +kernel
theorem dX6_init_1 : decode cX6_init 1 = .ok (.invokespecial 3, 3) := by decide +kernel
theorem dX6_init_4 : decode cX6_init 4 = .ok (.aload_n 0, 1) := by decide +kernel
theorem dX6_init_5 : decode cX6_init 5 = .ok (.bipush 40, 2) := by decide +kernel
theorem dX6_init_7 : decode cX6_init 7 = .ok (.anewarray 9, 3) := by decide +kernel
theorem dX6_init_10 : decode cX6_init 10 = .ok (.putfield 11, 3) := by decide +kernel
theorem dX6_init_13 : decode cX6_init 13 = .ok (.aload_n 0, 1) := by decide +kernel
theorem dX6_init_14 : decode cX6_init 14 = .ok (.new 15, 3) := by decide +kernel
theorem dX6_init_17 : decode cX6_init 17 = .ok (.dup, 1) := by decide +kernel
theorem dX6_init_18 : decode cX6_init 18 = .ok (.invokespecial 17, 3) := by decide +kernel
theorem dX6_init_21 : decode cX6_init 21 = .ok (.putfield 18, 3) := by decide +kernel
theorem dX6_init_24 : decode cX6_init 24 = .ok (.aload_n 0, 1) := by decide +kernel
theorem dX6_init_25 : decode cX6_init 25 = .ok (.new 22, 3) := by decide +kernel
theorem dX6_init_28 : decode cX6_init 28 = .ok (.dup, 1) := by decide +kernel
theorem dX6_init_29 : decode cX6_init 29 = .ok (.invokespecial 24, 3) := by decide +kernel
theorem dX6_init_32 : decode cX6_init 32 = .ok (.putfield 25, 3) := by decide +kernel
theorem dX6_init_35 : decode cX6_init 35 = .ok (.aload_n 0, 1) := by decide +kernel
theorem dX6_init_36 : decode cX6_init 36 = .ok (.new 29, 3) := by decide +kernel
theorem dX6_init_39 : decode cX6_init 39 = .ok (.dup, 1) := by decide +kernel
theorem dX6_init_40 : decode cX6_init 40 = .ok (.invokespecial 31, 3) := by decide +kernel
theorem dX6_init_43 : decode cX6_init 43 = .ok (.putfield 32, 3) := by decide +kernel
theorem dX6_init_46 : decode cX6_init 46 = .ok (.aload_n 0, 1) := by decide +kernel
theorem dX6_init_47 : decode cX6_init 47 = .ok (.new 29, 3) := by decide +kernel
theorem dX6_init_50 : decode cX6_init 50 = .ok (.dup, 1) := by decide +kernel
theorem dX6_init_51 : decode cX6_init 51 = .ok (.invokespecial 31, 3) := by decide +kernel
theorem dX6_init_54 : decode cX6_init 54 = .ok (.putfield 36, 3) := by decide +kernel
theorem dX6_init_57 : decode cX6_init 57 = .ok (.aload_n 0, 1) := by decide +kernel
theorem dX6_init_58 : decode cX6_init 58 = .ok (.new 29, 3) := by decide +kernel
theorem dX6_init_61 : decode cX6_init 61 = .ok (.dup, 1) := by decide +kernel
theorem dX6_init_62 : decode cX6_init 62 = .ok (.invokespecial 31, 3) := by decide +kernel
theorem dX6_init_65 : decode cX6_init 65 = .ok (.putfield 39, 3) := by decide +kernel
theorem dX6_init_68 : decode cX6_init 68 = .ok (.aload_n 0, 1) := by decide +kernel
theorem dX6_init_69 : decode cX6_init 69 = .ok (.iconst 0, 1) := by decide +kernel
theorem dX6_init_70 : decode cX6_init 70 = .ok (.putfield 42, 3) := by decide +kernel
theorem dX6_init_73 : decode cX6_init 73 = .ok (.aload_n 0, 1) := by decide +kernel
theorem dX6_init_74 : decode cX6_init 74 = .ok (.iconst 0, 1) := by decide +kernel
theorem dX6_init_75 : decode cX6_init 75 = .ok (.putfield 46, 3) := by decide +kernel
theorem dX6_init_78 : decode cX6_init 78 = .ok (.aload_n 0, 1) := by decide +kernel
theorem dX6_init_79 : decode cX6_init 79 = .ok (.iconst 0, 1) := by decide +kernel
theorem dX6_init_80 : decode cX6_init 80 = .ok (.putfield 49, 3) := by decide +kernel
theorem dX6_init_83 : decode cX6_init 83 = .ok (.return_, 1) := by decide +kernel
theorem dX6_makeRoot_0 : decode cX6_makeRoot 0 = .ok (.iload_n 1, 1) := by decide +kernel
theorem dX6_makeRoot_1 : decode cX6_makeRoot 1 = .ok (.invokestatic 52, 3) := by decide +kernel
theorem dX6_makeRoot_4 : decode cX6_makeRoot 4 = .ok (.iload_n 2, 1) := by decide +kernel
theorem dX6_makeRoot_5 : decode cX6_makeRoot 5 = .ok (.invokestatic 56, 3) := by decide +kernel
theorem dX6_makeRoot_8 : decode cX6_makeRoot 8 = .ok (.iload_n 3, 1) := by decide +kernel
theorem dX6_makeRoot_9 : decode cX6_makeRoot 9 = .ok (.invokestatic 59, 3) := by decide +kernel
theorem dX6_makeRoot_12 : decode cX6_makeRoot 12 = .ok (.aload_n 0, 1) := by decide +kernel
theorem dX6_makeRoot_13 : decode cX6_makeRoot 13 = .ok (.invokevirtual 62, 3) := by decide +kernel
theorem dX6_makeRoot_16 : decode cX6_makeRoot 16 = .ok (.aload_n 0, 1) := by decide +kernel
theorem dX6_makeRoot_17 : decode cX6_makeRoot 17 = .ok (.iload_n 1, 1) := by decide +kernel
theorem dX6_makeRoot_18 : decode cX6_makeRoot 18 = .ok (.invokevirtual 65, 3) := by decide +kernel
theorem dX6_makeRoot_21 : decode cX6_makeRoot 21 = .ok (.astore 4, 2) := by decide +kernel
theorem dX6_makeRoot_23 : decode cX6_makeRoot 23 = .ok (.aload_n 0, 1) := by decide +kernel
theorem dX6_makeRoot_24 : decode cX6_makeRoot 24 = .ok (.aload 4, 2) := by decide +kernel
theorem dX6_makeRoot_26 : decode cX6_makeRoot 26 = .ok (.aload 4, 2) := by decide +kernel
theorem dX6_makeRoot_28 : decode cX6_makeRoot 28 = .ok (.iload_n 2, 1) := by decide +kernel
theorem dX6_makeRoot_29 : decode cX6_makeRoot 29 = .ok (.iload_n 3, 1) := by decide +kernel
theorem dX6_makeRoot_30 : decode cX6_makeRoot 30 = .ok (.invokevirtual 69, 3) := by decide +kernel
theorem dX6_makeRoot_33 : decode cX6_makeRoot 33 = .ok (.ireturn, 1) := by decide +kernel
theorem dX6_issue_0 : decode cX6_issue 0 = .ok (.aload_n 0, 1) := by decide +kernel
theorem dX6_issue_1 : decode cX6_issue 1 = .ok (.iload_n 1, 1) := by decide +kernel
theorem dX6_issue_2 : decode cX6_issue 2 = .ok (.invokevirtual 73, 3) := by decide +kernel
theorem dX6_issue_5 : decode cX6_issue 5 = .ok (.astore 4, 2) := by decide +kernel
theorem dX6_issue_7 : decode cX6_issue 7 = .ok (.iload_n 2, 1) := by decide +kernel
theorem dX6_issue_8 : decode cX6_issue 8 = .ok (.invokestatic 52, 3) := by decide +kernel
theorem dX6_issue_11 : decode cX6_issue 11 = .ok (.iload_n 3, 1) := by decide +kernel
theorem dX6_issue_12 : decode cX6_issue 12 = .ok (.invokestatic 56, 3) := by decide +kernel
theorem dX6_issue_15 : decode cX6_issue 15 = .ok (.aload 4, 2) := by decide +kernel
theorem dX6_issue_17 : decode cX6_issue 17 = .ok (.invokestatic 77, 3) := by decide +kernel
theorem dX6_issue_20 : decode cX6_issue 20 = .ok (.aload_n 0, 1) := by decide +kernel
theorem dX6_issue_21 : decode cX6_issue 21 = .ok (.invokevirtual 62, 3) := by decide +kernel
theorem dX6_issue_24 : decode cX6_issue 24 = .ok (.aload_n 0, 1) := by decide +kernel
theorem dX6_issue_25 : decode cX6_issue 25 = .ok (.aload_n 0, 1) := by decide +kernel
theorem dX6_issue_26 : decode cX6_issue 26 = .ok (.iload_n 2, 1) := by decide +kernel
theorem dX6_issue_27 : decode cX6_issue 27 = .ok (.invokevirtual 65, 3) := by decide +kernel
theorem dX6_issue_30 : decode cX6_issue 30 = .ok (.aload 4, 2) := by decide +kernel
theorem dX6_issue_32 : decode cX6_issue 32 = .ok (.getfield 81, 3) := by decide +kernel
theorem dX6_issue_35 : decode cX6_issue 35 = .ok (.iload_n 3, 1) := by decide +kernel
theorem dX6_issue_36 : decode cX6_issue 36 = .ok (.iconst (-1), 1) := by decide +kernel
theorem dX6_issue_37 : decode cX6_issue 37 = .ok (.invokevirtual 69, 3) := by decide +kernel
theorem dX6_issue_40 : decode cX6_issue 40 = .ok (.ireturn, 1) := by decide +kernel
theorem dX6_issueAuthority_0 : decode cX6_issueAuthority 0 = .ok (.aload_n 0, 1) := by decide +kernel
theorem dX6_issueAuthority_1 : decode cX6_issueAuthority 1 = .ok (.iload_n 1, 1) := by decide +kernel
theorem dX6_issueAuthority_2 : decode cX6_issueAuthority 2 = .ok (.invokevirtual 73, 3) := by decide +kernel
theorem dX6_issueAuthority_5 : decode cX6_issueAuthority 5 = .ok (.astore 5, 2) := by decide +kernel
theorem dX6_issueAuthority_7 : decode cX6_issueAuthority 7 = .ok (.iload_n 2, 1) := by decide +kernel
theorem dX6_issueAuthority_8 : decode cX6_issueAuthority 8 = .ok (.invokestatic 52, 3) := by decide +kernel
theorem dX6_issueAuthority_11 : decode cX6_issueAuthority 11 = .ok (.iload_n 3, 1) := by decide +kernel
theorem dX6_issueAuthority_12 : decode cX6_issueAuthority 12 = .ok (.invokestatic 56, 3) := by decide +kernel
theorem dX6_issueAuthority_15 : decode cX6_issueAuthority 15 = .ok (.iload 4, 2) := by decide +kernel
theorem dX6_issueAuthority_17 : decode cX6_issueAuthority 17 = .ok (.invokestatic 59, 3) := by decide +kernel
theorem dX6_issueAuthority_20 : decode cX6_issueAuthority 20 = .ok (.aload 5, 2) := by decide +kernel
theorem dX6_issueAuthority_22 : decode cX6_issueAuthority 22 = .ok (.invokestatic 77, 3) := by decide +kernel
theorem dX6_issueAuthority_25 : decode cX6_issueAuthority 25 = .ok (.aload_n 0, 1) := by decide +kernel
theorem dX6_issueAuthority_26 : decode cX6_issueAuthority 26 = .ok (.invokevirtual 62, 3) := by decide +kernel
theorem dX6_issueAuthority_29 : decode cX6_issueAuthority 29 = .ok (.aload_n 0, 1) := by decide +kernel
theorem dX6_issueAuthority_30 : decode cX6_issueAuthority 30 = .ok (.aload_n 0, 1) := by decide +kernel
theorem dX6_issueAuthority_31 : decode cX6_issueAuthority 31 = .ok (.iload_n 2, 1) := by decide +kernel
theorem dX6_issueAuthority_32 : decode cX6_issueAuthority 32 = .ok (.invokevirtual 65, 3) := by decide +kernel
theorem dX6_issueAuthority_35 : decode cX6_issueAuthority 35 = .ok (.aload 5, 2) := by decide +kernel
theorem dX6_issueAuthority_37 : decode cX6_issueAuthority 37 = .ok (.getfield 81, 3) := by decide +kernel
theorem dX6_issueAuthority_40 : decode cX6_issueAuthority 40 = .ok (.iload_n 3, 1) := by decide +kernel
theorem dX6_issueAuthority_41 : decode cX6_issueAuthority 41 = .ok (.iload 4, 2) := by decide +kernel
theorem dX6_issueAuthority_43 : decode cX6_issueAuthority 43 = .ok (.invokevirtual 69, 3) := by decide +kernel
theorem dX6_issueAuthority_46 : decode cX6_issueAuthority 46 = .ok (.ireturn, 1) := by decide +kernel
theorem dX6_cross_0 : decode cX6_cross 0 = .ok (.aload_n 0, 1) := by decide +kernel
theorem dX6_cross_1 : decode cX6_cross 1 = .ok (.iload_n 1, 1) := by decide +kernel
theorem dX6_cross_2 : decode cX6_cross 2 = .ok (.invokevirtual 73, 3) := by decide +kernel
theorem dX6_cross_5 : decode cX6_cross 5 = .ok (.astore 5, 2) := by decide +kernel
theorem dX6_cross_7 : decode cX6_cross 7 = .ok (.aload_n 0, 1) := by decide +kernel
theorem dX6_cross_8 : decode cX6_cross 8 = .ok (.iload_n 2, 1) := by decide +kernel
theorem dX6_cross_9 : decode cX6_cross 9 = .ok (.invokevirtual 73, 3) := by decide +kernel
theorem dX6_cross_12 : decode cX6_cross 12 = .ok (.astore 6, 2) := by decide +kernel
theorem dX6_cross_14 : decode cX6_cross 14 = .ok (.iload_n 3, 1) := by decide +kernel
theorem dX6_cross_15 : decode cX6_cross 15 = .ok (.invokestatic 56, 3) := by decide +kernel
theorem dX6_cross_18 : decode cX6_cross 18 = .ok (.iload 4, 2) := by decide +kernel
theorem dX6_cross_20 : decode cX6_cross 20 = .ok (.invokestatic 59, 3) := by decide +kernel
theorem dX6_cross_23 : decode cX6_cross 23 = .ok (.aload 5, 2) := by decide +kernel
theorem dX6_cross_25 : decode cX6_cross 25 = .ok (.invokestatic 77, 3) := by decide +kernel
theorem dX6_cross_28 : decode cX6_cross 28 = .ok (.aload 6, 2) := by decide +kernel
theorem dX6_cross_30 : decode cX6_cross 30 = .ok (.invokestatic 77, 3) := by decide +kernel
theorem dX6_cross_33 : decode cX6_cross 33 = .ok (.aload 6, 2) := by decide +kernel
theorem dX6_cross_35 : decode cX6_cross 35 = .ok (.getfield 81, 3) := by decide +kernel
theorem dX6_cross_38 : decode cX6_cross 38 = .ok (.aload 5, 2) := by decide +kernel
theorem dX6_cross_40 : decode cX6_cross 40 = .ok (.getfield 81, 3) := by decide +kernel
theorem dX6_cross_43 : decode cX6_cross 43 = .ok (.if_acmp .ne 13, 3) := by decide +kernel
theorem dX6_cross_46 : decode cX6_cross 46 = .ok (.new 85, 3) := by decide +kernel
theorem dX6_cross_49 : decode cX6_cross 49 = .ok (.dup, 1) := by decide +kernel
theorem dX6_cross_50 : decode cX6_cross 50 = .ok (.ldc 87, 2) := by decide +kernel
theorem dX6_cross_52 : decode cX6_cross 52 = .ok (.invokespecial 89, 3) := by decide +kernel
theorem dX6_cross_55 : decode cX6_cross 55 = .ok (.athrow, 1) := by decide +kernel
theorem dX6_cross_56 : decode cX6_cross 56 = .ok (.aload 6, 2) := by decide +kernel
theorem dX6_cross_58 : decode cX6_cross 58 = .ok (.getfield 81, 3) := by decide +kernel
theorem dX6_cross_61 : decode cX6_cross 61 = .ok (.invokevirtual 92, 3) := by decide +kernel
theorem dX6_cross_64 : decode cX6_cross 64 = .ok (.ifCond .eq 13, 3) := by decide +kernel
theorem dX6_cross_67 : decode cX6_cross 67 = .ok (.new 85, 3) := by decide +kernel
theorem dX6_cross_70 : decode cX6_cross 70 = .ok (.dup, 1) := by decide +kernel
theorem dX6_cross_71 : decode cX6_cross 71 = .ok (.ldc 98, 2) := by decide +kernel
theorem dX6_cross_73 : decode cX6_cross 73 = .ok (.invokespecial 89, 3) := by decide +kernel
theorem dX6_cross_76 : decode cX6_cross 76 = .ok (.athrow, 1) := by decide +kernel
theorem dX6_cross_77 : decode cX6_cross 77 = .ok (.aload_n 0, 1) := by decide +kernel
theorem dX6_cross_78 : decode cX6_cross 78 = .ok (.invokevirtual 62, 3) := by decide +kernel
theorem dX6_cross_81 : decode cX6_cross 81 = .ok (.aload_n 0, 1) := by decide +kernel
theorem dX6_cross_82 : decode cX6_cross 82 = .ok (.aload 6, 2) := by decide +kernel
theorem dX6_cross_84 : decode cX6_cross 84 = .ok (.getfield 81, 3) := by decide +kernel
theorem dX6_cross_87 : decode cX6_cross 87 = .ok (.aload 5, 2) := by decide +kernel
theorem dX6_cross_89 : decode cX6_cross 89 = .ok (.getfield 81, 3) := by decide +kernel
theorem dX6_cross_92 : decode cX6_cross 92 = .ok (.iload_n 3, 1) := by decide +kernel
theorem dX6_cross_93 : decode cX6_cross 93 = .ok (.iload 4, 2) := by decide +kernel
theorem dX6_cross_95 : decode cX6_cross 95 = .ok (.invokevirtual 69, 3) := by decide +kernel
theorem dX6_cross_98 : decode cX6_cross 98 = .ok (.ireturn, 1) := by decide +kernel
theorem dX6_setNames_0 : decode cX6_setNames 0 = .ok (.aload_n 0, 1) := by decide +kernel
theorem dX6_setNames_1 : decode cX6_setNames 1 = .ok (.iload_n 1, 1) := by decide +kernel
theorem dX6_setNames_2 : decode cX6_setNames 2 = .ok (.invokevirtual 73, 3) := by decide +kernel
theorem dX6_setNames_5 : decode cX6_setNames 5 = .ok (.astore 4, 2) := by decide +kernel
theorem dX6_setNames_7 : decode cX6_setNames 7 = .ok (.iload_n 2, 1) := by decide +kernel
theorem dX6_setNames_8 : decode cX6_setNames 8 = .ok (.invokestatic 100, 3) := by decide +kernel
theorem dX6_setNames_11 : decode cX6_setNames 11 = .ok (.iload_n 3, 1) := by decide +kernel
theorem dX6_setNames_12 : decode cX6_setNames 12 = .ok (.invokestatic 100, 3) := by decide +kernel
theorem dX6_setNames_15 : decode cX6_setNames 15 = .ok (.aload 4, 2) := by decide +kernel
theorem dX6_setNames_17 : decode cX6_setNames 17 = .ok (.invokestatic 77, 3) := by decide +kernel
theorem dX6_setNames_20 : decode cX6_setNames 20 = .ok (.aload_n 0, 1) := by decide +kernel
theorem dX6_setNames_21 : decode cX6_setNames 21 = .ok (.aload 4, 2) := by decide +kernel
theorem dX6_setNames_23 : decode cX6_setNames 23 = .ok (.getfield 81, 3) := by decide +kernel
theorem dX6_setNames_26 : decode cX6_setNames 26 = .ok (.invokevirtual 103, 3) := by decide +kernel
theorem dX6_setNames_29 : decode cX6_setNames 29 = .ok (.ifCond .eq 13, 3) := by decide +kernel
theorem dX6_setNames_32 : decode cX6_setNames 32 = .ok (.new 85, 3) := by decide +kernel
theorem dX6_setNames_35 : decode cX6_setNames 35 = .ok (.dup, 1) := by decide +kernel
theorem dX6_setNames_36 : decode cX6_setNames 36 = .ok (.ldc 107, 2) := by decide +kernel
theorem dX6_setNames_38 : decode cX6_setNames 38 = .ok (.invokespecial 89, 3) := by decide +kernel
theorem dX6_setNames_41 : decode cX6_setNames 41 = .ok (.athrow, 1) := by decide +kernel
theorem dX6_setNames_42 : decode cX6_setNames 42 = .ok (.aload 4, 2) := by decide +kernel
theorem dX6_setNames_44 : decode cX6_setNames 44 = .ok (.iload_n 2, 1) := by decide +kernel
theorem dX6_setNames_45 : decode cX6_setNames 45 = .ok (.putfield 109, 3) := by decide +kernel
theorem dX6_setNames_48 : decode cX6_setNames 48 = .ok (.aload 4, 2) := by decide +kernel
theorem dX6_setNames_50 : decode cX6_setNames 50 = .ok (.iload_n 3, 1) := by decide +kernel
theorem dX6_setNames_51 : decode cX6_setNames 51 = .ok (.putfield 112, 3) := by decide +kernel
theorem dX6_setNames_54 : decode cX6_setNames 54 = .ok (.iload_n 2, 1) := by decide +kernel
theorem dX6_setNames_55 : decode cX6_setNames 55 = .ok (.ifCond .ne 7, 3) := by decide +kernel
theorem dX6_setNames_58 : decode cX6_setNames 58 = .ok (.iconst 0, 1) := by decide +kernel
theorem dX6_setNames_59 : decode cX6_setNames 59 = .ok (.goto 4, 3) := by decide +kernel
theorem dX6_setNames_62 : decode cX6_setNames 62 = .ok (.iconst 1, 1) := by decide +kernel
theorem dX6_setNames_63 : decode cX6_setNames 63 = .ok (.iload_n 3, 1) := by decide +kernel
theorem dX6_setNames_64 : decode cX6_setNames 64 = .ok (.ifCond .ne 7, 3) := by decide +kernel
theorem dX6_setNames_67 : decode cX6_setNames 67 = .ok (.iconst 0, 1) := by decide +kernel
theorem dX6_setNames_68 : decode cX6_setNames 68 = .ok (.goto 4, 3) := by decide +kernel
theorem dX6_setNames_71 : decode cX6_setNames 71 = .ok (.iconst 1, 1) := by decide +kernel
theorem dX6_setNames_72 : decode cX6_setNames 72 = .ok (.iadd, 1) := by decide +kernel
theorem dX6_setNames_73 : decode cX6_setNames 73 = .ok (.ireturn, 1) := by decide +kernel
theorem dX6_trust_0 : decode cX6_trust 0 = .ok (.aload_n 0, 1) := by decide +kernel
theorem dX6_trust_1 : decode cX6_trust 1 = .ok (.iload_n 1, 1) := by decide +kernel
theorem dX6_trust_2 : decode cX6_trust 2 = .ok (.invokevirtual 73, 3) := by decide +kernel
theorem dX6_trust_5 : decode cX6_trust 5 = .ok (.astore_n 3, 1) := by decide +kernel
theorem dX6_trust_6 : decode cX6_trust 6 = .ok (.aload_n 3, 1) := by decide +kernel
theorem dX6_trust_7 : decode cX6_trust 7 = .ok (.invokevirtual 115, 3) := by decide +kernel
theorem dX6_trust_10 : decode cX6_trust 10 = .ok (.ifCond .ne 13, 3) := by decide +kernel
theorem dX6_trust_13 : decode cX6_trust 13 = .ok (.new 85, 3) := by decide +kernel
theorem dX6_trust_16 : decode cX6_trust 16 = .ok (.dup, 1) := by decide +kernel
theorem dX6_trust_17 : decode cX6_trust 17 = .ok (.ldc 118, 2) := by decide +kernel
theorem dX6_trust_19 : decode cX6_trust 19 = .ok (.invokespecial 89, 3) := by decide +kernel
theorem dX6_trust_22 : decode cX6_trust 22 = .ok (.athrow, 1) := by decide +kernel
theorem dX6_trust_23 : decode cX6_trust 23 = .ok (.aload_n 3, 1) := by decide +kernel
theorem dX6_trust_24 : decode cX6_trust 24 = .ok (.iload_n 2, 1) := by decide +kernel
theorem dX6_trust_25 : decode cX6_trust 25 = .ok (.putfield 120, 3) := by decide +kernel
theorem dX6_trust_28 : decode cX6_trust 28 = .ok (.aload_n 0, 1) := by decide +kernel
theorem dX6_trust_29 : decode cX6_trust 29 = .ok (.invokevirtual 124, 3) := by decide +kernel
theorem dX6_trust_32 : decode cX6_trust 32 = .ok (.ireturn, 1) := by decide +kernel
theorem dX6_revoke_0 : decode cX6_revoke 0 = .ok (.aload_n 0, 1) := by decide +kernel
theorem dX6_revoke_1 : decode cX6_revoke 1 = .ok (.iload_n 1, 1) := by decide +kernel
theorem dX6_revoke_2 : decode cX6_revoke 2 = .ok (.invokevirtual 73, 3) := by decide +kernel
theorem dX6_revoke_5 : decode cX6_revoke 5 = .ok (.astore_n 2, 1) := by decide +kernel
theorem dX6_revoke_6 : decode cX6_revoke 6 = .ok (.aload_n 2, 1) := by decide +kernel
theorem dX6_revoke_7 : decode cX6_revoke 7 = .ok (.invokevirtual 115, 3) := by decide +kernel
theorem dX6_revoke_10 : decode cX6_revoke 10 = .ok (.ifCond .eq 13, 3) := by decide +kernel
theorem dX6_revoke_13 : decode cX6_revoke 13 = .ok (.new 85, 3) := by decide +kernel
theorem dX6_revoke_16 : decode cX6_revoke 16 = .ok (.dup, 1) := by decide +kernel
theorem dX6_revoke_17 : decode cX6_revoke 17 = .ok (.ldc 128, 2) := by decide +kernel
theorem dX6_revoke_19 : decode cX6_revoke 19 = .ok (.invokespecial 89, 3) := by decide +kernel
theorem dX6_revoke_22 : decode cX6_revoke 22 = .ok (.athrow, 1) := by decide +kernel
theorem dX6_revoke_23 : decode cX6_revoke 23 = .ok (.aload_n 2, 1) := by decide +kernel
theorem dX6_revoke_24 : decode cX6_revoke 24 = .ok (.getfield 130, 3) := by decide +kernel
theorem dX6_revoke_27 : decode cX6_revoke 27 = .ok (.ifCond .eq 13, 3) := by decide +kernel
theorem dX6_revoke_30 : decode cX6_revoke 30 = .ok (.new 85, 3) := by decide +kernel
theorem dX6_revoke_33 : decode cX6_revoke 33 = .ok (.dup, 1) := by decide +kernel
theorem dX6_revoke_34 : decode cX6_revoke 34 = .ok (.ldc 133, 2) := by decide +kernel
theorem dX6_revoke_36 : decode cX6_revoke 36 = .ok (.invokespecial 89, 3) := by decide +kernel
theorem dX6_revoke_39 : decode cX6_revoke 39 = .ok (.athrow, 1) := by decide +kernel
theorem dX6_revoke_40 : decode cX6_revoke 40 = .ok (.aload_n 2, 1) := by decide +kernel
theorem dX6_revoke_41 : decode cX6_revoke 41 = .ok (.iconst 1, 1) := by decide +kernel
theorem dX6_revoke_42 : decode cX6_revoke 42 = .ok (.putfield 130, 3) := by decide +kernel
theorem dX6_revoke_45 : decode cX6_revoke 45 = .ok (.aload_n 0, 1) := by decide +kernel
theorem dX6_revoke_46 : decode cX6_revoke 46 = .ok (.aload_n 2, 1) := by decide +kernel
theorem dX6_revoke_47 : decode cX6_revoke 47 = .ok (.getfield 135, 3) := by decide +kernel
theorem dX6_revoke_50 : decode cX6_revoke 50 = .ok (.invokevirtual 138, 3) := by decide +kernel
theorem dX6_revoke_53 : decode cX6_revoke 53 = .ok (.ireturn, 1) := by decide +kernel
theorem dX6_publish_0 : decode cX6_publish 0 = .ok (.aload_n 0, 1) := by decide +kernel
theorem dX6_publish_1 : decode cX6_publish 1 = .ok (.iload_n 1, 1) := by decide +kernel
theorem dX6_publish_2 : decode cX6_publish 2 = .ok (.invokevirtual 73, 3) := by decide +kernel
theorem dX6_publish_5 : decode cX6_publish 5 = .ok (.astore_n 2, 1) := by decide +kernel
theorem dX6_publish_6 : decode cX6_publish 6 = .ok (.aload_n 2, 1) := by decide +kernel
theorem dX6_publish_7 : decode cX6_publish 7 = .ok (.invokestatic 77, 3) := by decide +kernel
theorem dX6_publish_10 : decode cX6_publish 10 = .ok (.aload_n 0, 1) := by decide +kernel
theorem dX6_publish_11 : decode cX6_publish 11 = .ok (.aload_n 2, 1) := by decide +kernel
theorem dX6_publish_12 : decode cX6_publish 12 = .ok (.getfield 81, 3) := by decide +kernel
theorem dX6_publish_15 : decode cX6_publish 15 = .ok (.invokevirtual 138, 3) := by decide +kernel
theorem dX6_publish_18 : decode cX6_publish 18 = .ok (.istore_n 3, 1) := by decide +kernel
theorem dX6_publish_19 : decode cX6_publish 19 = .ok (.iload_n 3, 1) := by decide +kernel
theorem dX6_publish_20 : decode cX6_publish 20 = .ok (.ifCond .le 22, 3) := by decide +kernel
theorem dX6_publish_23 : decode cX6_publish 23 = .ok (.aload_n 0, 1) := by decide +kernel
theorem dX6_publish_24 : decode cX6_publish 24 = .ok (.getfield 18, 3) := by decide +kernel
theorem dX6_publish_27 : decode cX6_publish 27 = .ok (.aload_n 0, 1) := by decide +kernel
theorem dX6_publish_28 : decode cX6_publish 28 = .ok (.getfield 49, 3) := by decide +kernel
theorem dX6_publish_31 : decode cX6_publish 31 = .ok (.aload_n 0, 1) := by decide +kernel
theorem dX6_publish_32 : decode cX6_publish 32 = .ok (.aload_n 2, 1) := by decide +kernel
theorem dX6_publish_33 : decode cX6_publish 33 = .ok (.getfield 81, 3) := by decide +kernel
theorem dX6_publish_36 : decode cX6_publish 36 = .ok (.invokevirtual 142, 3) := by decide +kernel
theorem dX6_publish_39 : decode cX6_publish 39 = .ok (.invokevirtual 146, 3) := by decide +kernel
theorem dX6_publish_42 : decode cX6_publish 42 = .ok (.iload_n 3, 1) := by decide +kernel
theorem dX6_publish_43 : decode cX6_publish 43 = .ok (.ireturn, 1) := by decide +kernel
theorem dX6_pass_0 : decode cX6_pass 0 = .ok (.iload_n 1, 1) := by decide +kernel
theorem dX6_pass_1 : decode cX6_pass 1 = .ok (.invokestatic 56, 3) := by decide +kernel
theorem dX6_pass_4 : decode cX6_pass 4 = .ok (.aload_n 0, 1) := by decide +kernel
theorem dX6_pass_5 : decode cX6_pass 5 = .ok (.dup, 1) := by decide +kernel
theorem dX6_pass_6 : decode cX6_pass 6 = .ok (.getfield 49, 3) := by decide +kernel
theorem dX6_pass_9 : decode cX6_pass 9 = .ok (.iload_n 1, 1) := by decide +kernel
theorem dX6_pass_10 : decode cX6_pass 10 = .ok (.iadd, 1) := by decide +kernel
theorem dX6_pass_11 : decode cX6_pass 11 = .ok (.putfield 49, 3) := by decide +kernel
theorem dX6_pass_14 : decode cX6_pass 14 = .ok (.aload_n 0, 1) := by decide +kernel
theorem dX6_pass_15 : decode cX6_pass 15 = .ok (.getfield 49, 3) := by decide +kernel
theorem dX6_pass_18 : decode cX6_pass 18 = .ok (.ireturn, 1) := by decide +kernel
theorem dX6_day_0 : decode cX6_day 0 = .ok (.aload_n 0, 1) := by decide +kernel
theorem dX6_day_1 : decode cX6_day 1 = .ok (.getfield 49, 3) := by decide +kernel
theorem dX6_day_4 : decode cX6_day 4 = .ok (.ireturn, 1) := by decide +kernel
theorem dX6_certificates_0 : decode cX6_certificates 0 = .ok (.aload_n 0, 1) := by decide +kernel
theorem dX6_certificates_1 : decode cX6_certificates 1 = .ok (.getfield 42, 3) := by decide +kernel
theorem dX6_certificates_4 : decode cX6_certificates 4 = .ok (.ireturn, 1) := by decide +kernel
theorem dX6_nameOf_0 : decode cX6_nameOf 0 = .ok (.aload_n 0, 1) := by decide +kernel
theorem dX6_nameOf_1 : decode cX6_nameOf 1 = .ok (.iload_n 1, 1) := by decide +kernel
theorem dX6_nameOf_2 : decode cX6_nameOf 2 = .ok (.invokevirtual 73, 3) := by decide +kernel
theorem dX6_nameOf_5 : decode cX6_nameOf 5 = .ok (.getfield 81, 3) := by decide +kernel
theorem dX6_nameOf_8 : decode cX6_nameOf 8 = .ok (.getfield 150, 3) := by decide +kernel
theorem dX6_nameOf_11 : decode cX6_nameOf 11 = .ok (.ireturn, 1) := by decide +kernel
theorem dX6_keyOf_0 : decode cX6_keyOf 0 = .ok (.aload_n 0, 1) := by decide +kernel
theorem dX6_keyOf_1 : decode cX6_keyOf 1 = .ok (.iload_n 1, 1) := by decide +kernel
theorem dX6_keyOf_2 : decode cX6_keyOf 2 = .ok (.invokevirtual 73, 3) := by decide +kernel
theorem dX6_keyOf_5 : decode cX6_keyOf 5 = .ok (.getfield 81, 3) := by decide +kernel
theorem dX6_keyOf_8 : decode cX6_keyOf 8 = .ok (.getfield 153, 3) := by decide +kernel
theorem dX6_keyOf_11 : decode cX6_keyOf 11 = .ok (.ireturn, 1) := by decide +kernel
theorem dX6_issuerKeyOf_0 : decode cX6_issuerKeyOf 0 = .ok (.aload_n 0, 1) := by decide +kernel
theorem dX6_issuerKeyOf_1 : decode cX6_issuerKeyOf 1 = .ok (.iload_n 1, 1) := by decide +kernel
theorem dX6_issuerKeyOf_2 : decode cX6_issuerKeyOf 2 = .ok (.invokevirtual 73, 3) := by decide +kernel
theorem dX6_issuerKeyOf_5 : decode cX6_issuerKeyOf 5 = .ok (.getfield 135, 3) := by decide +kernel
theorem dX6_issuerKeyOf_8 : decode cX6_issuerKeyOf 8 = .ok (.getfield 153, 3) := by decide +kernel
theorem dX6_issuerKeyOf_11 : decode cX6_issuerKeyOf 11 = .ok (.ireturn, 1) := by decide +kernel
theorem dX6_lastDayOf_0 : decode cX6_lastDayOf 0 = .ok (.aload_n 0, 1) := by decide +kernel
theorem dX6_lastDayOf_1 : decode cX6_lastDayOf 1 = .ok (.iload_n 1, 1) := by decide +kernel
theorem dX6_lastDayOf_2 : decode cX6_lastDayOf 2 = .ok (.invokevirtual 73, 3) := by decide +kernel
theorem dX6_lastDayOf_5 : decode cX6_lastDayOf 5 = .ok (.getfield 156, 3) := by decide +kernel
theorem dX6_lastDayOf_8 : decode cX6_lastDayOf 8 = .ok (.ireturn, 1) := by decide +kernel
theorem dX6_kindOf_0 : decode cX6_kindOf 0 = .ok (.aload_n 0, 1) := by decide +kernel
theorem dX6_kindOf_1 : decode cX6_kindOf 1 = .ok (.iload_n 1, 1) := by decide +kernel
theorem dX6_kindOf_2 : decode cX6_kindOf 2 = .ok (.invokevirtual 73, 3) := by decide +kernel
theorem dX6_kindOf_5 : decode cX6_kindOf 5 = .ok (.astore_n 2, 1) := by decide +kernel
theorem dX6_kindOf_6 : decode cX6_kindOf 6 = .ok (.aload_n 2, 1) := by decide +kernel
theorem dX6_kindOf_7 : decode cX6_kindOf 7 = .ok (.invokevirtual 115, 3) := by decide +kernel
theorem dX6_kindOf_10 : decode cX6_kindOf 10 = .ok (.ifCond .eq 6, 3) := by decide +kernel
theorem dX6_kindOf_13 : decode cX6_kindOf 13 = .ok (.bipush 114, 2) := by decide +kernel
theorem dX6_kindOf_15 : decode cX6_kindOf 15 = .ok (.ireturn, 1) := by decide +kernel
theorem dX6_kindOf_16 : decode cX6_kindOf 16 = .ok (.aload_n 2, 1) := by decide +kernel
theorem dX6_kindOf_17 : decode cX6_kindOf 17 = .ok (.invokevirtual 159, 3) := by decide +kernel
theorem dX6_kindOf_20 : decode cX6_kindOf 20 = .ok (.ifCond .eq 8, 3) := by decide +kernel
theorem dX6_kindOf_23 : decode cX6_kindOf 23 = .ok (.bipush 97, 2) := by decide +kernel
theorem dX6_kindOf_25 : decode cX6_kindOf 25 = .ok (.goto 5, 3) := by decide +kernel
theorem dX6_kindOf_28 : decode cX6_kindOf 28 = .ok (.bipush 101, 2) := by decide +kernel
theorem dX6_kindOf_30 : decode cX6_kindOf 30 = .ok (.ireturn, 1) := by decide +kernel
theorem dX6_isBelow_0 : decode cX6_isBelow 0 = .ok (.iload_n 1, 1) := by decide +kernel
theorem dX6_isBelow_1 : decode cX6_isBelow 1 = .ok (.invokestatic 52, 3) := by decide +kernel
theorem dX6_isBelow_4 : decode cX6_isBelow 4 = .ok (.iload_n 2, 1) := by decide +kernel
theorem dX6_isBelow_5 : decode cX6_isBelow 5 = .ok (.invokestatic 52, 3) := by decide +kernel
theorem dX6_isBelow_8 : decode cX6_isBelow 8 = .ok (.iload_n 1, 1) := by decide +kernel
theorem dX6_isBelow_9 : decode cX6_isBelow 9 = .ok (.iload_n 2, 1) := by decide +kernel
theorem dX6_isBelow_10 : decode cX6_isBelow 10 = .ok (.invokestatic 162, 3) := by decide +kernel
theorem dX6_isBelow_13 : decode cX6_isBelow 13 = .ok (.ireturn, 1) := by decide +kernel
theorem dX6_isRevoked_0 : decode cX6_isRevoked 0 = .ok (.aload_n 0, 1) := by decide +kernel
theorem dX6_isRevoked_1 : decode cX6_isRevoked 1 = .ok (.iload_n 1, 1) := by decide +kernel
theorem dX6_isRevoked_2 : decode cX6_isRevoked 2 = .ok (.invokevirtual 73, 3) := by decide +kernel
theorem dX6_isRevoked_5 : decode cX6_isRevoked 5 = .ok (.astore_n 3, 1) := by decide +kernel
theorem dX6_isRevoked_6 : decode cX6_isRevoked 6 = .ok (.iload_n 2, 1) := by decide +kernel
theorem dX6_isRevoked_7 : decode cX6_isRevoked 7 = .ok (.invokestatic 166, 3) := by decide +kernel
theorem dX6_isRevoked_10 : decode cX6_isRevoked 10 = .ok (.aload_n 3, 1) := by decide +kernel
theorem dX6_isRevoked_11 : decode cX6_isRevoked 11 = .ok (.iload_n 2, 1) := by decide +kernel
theorem dX6_isRevoked_12 : decode cX6_isRevoked 12 = .ok (.invokevirtual 169, 3) := by decide +kernel
theorem dX6_isRevoked_15 : decode cX6_isRevoked 15 = .ok (.ireturn, 1) := by decide +kernel
theorem dX6_isRevokedByLists_0 : decode cX6_isRevokedByLists 0 = .ok (.aload_n 0, 1) := by decide +kernel
theorem dX6_isRevokedByLists_1 : decode cX6_isRevokedByLists 1 = .ok (.iload_n 1, 1) := by decide +kernel
theorem dX6_isRevokedByLists_2 : decode cX6_isRevokedByLists 2 = .ok (.invokevirtual 73, 3) := by decide +kernel
theorem dX6_isRevokedByLists_5 : decode cX6_isRevokedByLists 5 = .ok (.astore_n 3, 1) := by decide +kernel
theorem dX6_isRevokedByLists_6 : decode cX6_isRevokedByLists 6 = .ok (.iload_n 2, 1) := by decide +kernel
theorem dX6_isRevokedByLists_7 : decode cX6_isRevokedByLists 7 = .ok (.invokestatic 166, 3) := by decide +kernel
theorem dX6_isRevokedByLists_10 : decode cX6_isRevokedByLists 10 = .ok (.aload_n 0, 1) := by decide +kernel
theorem dX6_isRevokedByLists_11 : decode cX6_isRevokedByLists 11 = .ok (.getfield 18, 3) := by decide +kernel
theorem dX6_isRevokedByLists_14 : decode cX6_isRevokedByLists 14 = .ok (.aload_n 3, 1) := by decide +kernel
theorem dX6_isRevokedByLists_15 : decode cX6_isRevokedByLists 15 = .ok (.getfield 173, 3) := by decide +kernel
theorem dX6_isRevokedByLists_18 : decode cX6_isRevokedByLists 18 = .ok (.iload_n 2, 1) := by decide +kernel
theorem dX6_isRevokedByLists_19 : decode cX6_isRevokedByLists 19 = .ok (.invokevirtual 176, 3) := by decide +kernel
theorem dX6_isRevokedByLists_22 : decode cX6_isRevokedByLists 22 = .ok (.ireturn, 1) := by decide +kernel
theorem dX6_candidates_0 : decode cX6_candidates 0 = .ok (.aload_n 0, 1) := by decide +kernel
theorem dX6_candidates_1 : decode cX6_candidates 1 = .ok (.iload_n 1, 1) := by decide +kernel
theorem dX6_candidates_2 : decode cX6_candidates 2 = .ok (.invokevirtual 73, 3) := by decide +kernel
theorem dX6_candidates_5 : decode cX6_candidates 5 = .ok (.invokevirtual 179, 3) := by decide +kernel
theorem dX6_candidates_8 : decode cX6_candidates 8 = .ok (.ireturn, 1) := by decide +kernel
theorem dX6_candidateAt_0 : decode cX6_candidateAt 0 = .ok (.aload_n 0, 1) := by decide +kernel
theorem dX6_candidateAt_1 : decode cX6_candidateAt 1 = .ok (.aload_n 0, 1) := by decide +kernel
theorem dX6_candidateAt_2 : decode cX6_candidateAt 2 = .ok (.iload_n 1, 1) := by decide +kernel
theorem dX6_candidateAt_3 : decode cX6_candidateAt 3 = .ok (.invokevirtual 73, 3) := by decide +kernel
theorem dX6_candidateAt_6 : decode cX6_candidateAt 6 = .ok (.iload_n 2, 1) := by decide +kernel
theorem dX6_candidateAt_7 : decode cX6_candidateAt 7 = .ok (.invokevirtual 182, 3) := by decide +kernel
theorem dX6_candidateAt_10 : decode cX6_candidateAt 10 = .ok (.getfield 173, 3) := by decide +kernel
theorem dX6_candidateAt_13 : decode cX6_candidateAt 13 = .ok (.ireturn, 1) := by decide +kernel
theorem dX6_chainSize_0 : decode cX6_chainSize 0 = .ok (.aload_n 0, 1) := by decide +kernel
theorem dX6_chainSize_1 : decode cX6_chainSize 1 = .ok (.iload_n 1, 1) := by decide +kernel
theorem dX6_chainSize_2 : decode cX6_chainSize 2 = .ok (.invokevirtual 73, 3) := by decide +kernel
theorem dX6_chainSize_5 : decode cX6_chainSize 5 = .ok (.astore_n 3, 1) := by decide +kernel
theorem dX6_chainSize_6 : decode cX6_chainSize 6 = .ok (.iload_n 2, 1) := by decide +kernel
theorem dX6_chainSize_7 : decode cX6_chainSize 7 = .ok (.invokestatic 166, 3) := by decide +kernel
theorem dX6_chainSize_10 : decode cX6_chainSize 10 = .ok (.aload_n 0, 1) := by decide +kernel
theorem dX6_chainSize_11 : decode cX6_chainSize 11 = .ok (.aload_n 3, 1) := by decide +kernel
theorem dX6_chainSize_12 : decode cX6_chainSize 12 = .ok (.iload_n 2, 1) := by decide +kernel
theorem dX6_chainSize_13 : decode cX6_chainSize 13 = .ok (.invokevirtual 186, 3) := by decide +kernel
theorem dX6_chainSize_16 : decode cX6_chainSize 16 = .ok (.ireturn, 1) := by decide +kernel
theorem dX6_chainAt_0 : decode cX6_chainAt 0 = .ok (.aload_n 0, 1) := by decide +kernel
theorem dX6_chainAt_1 : decode cX6_chainAt 1 = .ok (.iload_n 1, 1) := by decide +kernel
theorem dX6_chainAt_2 : decode cX6_chainAt 2 = .ok (.invokevirtual 73, 3) := by decide +kernel
theorem dX6_chainAt_5 : decode cX6_chainAt 5 = .ok (.astore 4, 2) := by decide +kernel
theorem dX6_chainAt_7 : decode cX6_chainAt 7 = .ok (.iload_n 2, 1) := by decide +kernel
theorem dX6_chainAt_8 : decode cX6_chainAt 8 = .ok (.invokestatic 166, 3) := by decide +kernel
theorem dX6_chainAt_11 : decode cX6_chainAt 11 = .ok (.aload_n 0, 1) := by decide +kernel
theorem dX6_chainAt_12 : decode cX6_chainAt 12 = .ok (.aload 4, 2) := by decide +kernel
theorem dX6_chainAt_14 : decode cX6_chainAt 14 = .ok (.iload_n 2, 1) := by decide +kernel
theorem dX6_chainAt_15 : decode cX6_chainAt 15 = .ok (.invokevirtual 186, 3) := by decide +kernel
theorem dX6_chainAt_18 : decode cX6_chainAt 18 = .ok (.pop, 1) := by decide +kernel
theorem dX6_chainAt_19 : decode cX6_chainAt 19 = .ok (.aload_n 0, 1) := by decide +kernel
theorem dX6_chainAt_20 : decode cX6_chainAt 20 = .ok (.getfield 39, 3) := by decide +kernel
theorem dX6_chainAt_23 : decode cX6_chainAt 23 = .ok (.iload_n 3, 1) := by decide +kernel
theorem dX6_chainAt_24 : decode cX6_chainAt 24 = .ok (.invokevirtual 190, 3) := by decide +kernel
theorem dX6_chainAt_27 : decode cX6_chainAt 27 = .ok (.astore 5, 2) := by decide +kernel
theorem dX6_chainAt_29 : decode cX6_chainAt 29 = .ok (.aload 5, 2) := by decide +kernel
theorem dX6_chainAt_31 : decode cX6_chainAt 31 = .ok (.ifnonnull 13, 3) := by decide +kernel
theorem dX6_chainAt_34 : decode cX6_chainAt 34 = .ok (.new 193, 3) := by decide +kernel
theorem dX6_chainAt_37 : decode cX6_chainAt 37 = .ok (.dup, 1) := by decide +kernel
theorem dX6_chainAt_38 : decode cX6_chainAt 38 = .ok (.ldc 195, 2) := by decide +kernel
theorem dX6_chainAt_40 : decode cX6_chainAt 40 = .ok (.invokespecial 197, 3) := by decide +kernel
theorem dX6_chainAt_43 : decode cX6_chainAt 43 = .ok (.athrow, 1) := by decide +kernel
theorem dX6_chainAt_44 : decode cX6_chainAt 44 = .ok (.aload 5, 2) := by decide +kernel
theorem dX6_chainAt_46 : decode cX6_chainAt 46 = .ok (.getfield 173, 3) := by decide +kernel
theorem dX6_chainAt_49 : decode cX6_chainAt 49 = .ok (.ireturn, 1) := by decide +kernel
theorem dX6_goodChains_0 : decode cX6_goodChains 0 = .ok (.aload_n 0, 1) := by decide +kernel
theorem dX6_goodChains_1 : decode cX6_goodChains 1 = .ok (.iload_n 1, 1) := by decide +kernel
theorem dX6_goodChains_2 : decode cX6_goodChains 2 = .ok (.invokevirtual 73, 3) := by decide +kernel
theorem dX6_goodChains_5 : decode cX6_goodChains 5 = .ok (.astore_n 3, 1) := by decide +kernel
theorem dX6_goodChains_6 : decode cX6_goodChains 6 = .ok (.iload_n 2, 1) := by decide +kernel
theorem dX6_goodChains_7 : decode cX6_goodChains 7 = .ok (.invokestatic 166, 3) := by decide +kernel
theorem dX6_goodChains_10 : decode cX6_goodChains 10 = .ok (.aload_n 0, 1) := by decide +kernel
theorem dX6_goodChains_11 : decode cX6_goodChains 11 = .ok (.getfield 36, 3) := by decide +kernel
theorem dX6_goodChains_14 : decode cX6_goodChains 14 = .ok (.aload_n 3, 1) := by decide +kernel
theorem dX6_goodChains_15 : decode cX6_goodChains 15 = .ok (.iload_n 2, 1) := by decide +kernel
theorem dX6_goodChains_16 : decode cX6_goodChains 16 = .ok (.invokevirtual 198, 3) := by decide +kernel
theorem dX6_goodChains_19 : decode cX6_goodChains 19 = .ok (.aload_n 0, 1) := by decide +kernel
theorem dX6_goodChains_20 : decode cX6_goodChains 20 = .ok (.getfield 36, 3) := by decide +kernel
theorem dX6_goodChains_23 : decode cX6_goodChains 23 = .ok (.invokestatic 202, 3) := by decide +kernel
theorem dX6_goodChains_26 : decode cX6_goodChains 26 = .ok (.ireturn, 1) := by decide +kernel
theorem dX6_goodChainsByWalks_0 : decode cX6_goodChainsByWalks 0 = .ok (.aload_n 0, 1) := by decide +kernel
theorem dX6_goodChainsByWalks_1 : decode cX6_goodChainsByWalks 1 = .ok (.iload_n 1, 1) := by decide +kernel
theorem dX6_goodChainsByWalks_2 : decode cX6_goodChainsByWalks 2 = .ok (.invokevirtual 73, 3) := by decide +kernel
theorem dX6_goodChainsByWalks_5 : decode cX6_goodChainsByWalks 5 = .ok (.astore_n 3, 1) := by decide +kernel
theorem dX6_goodChainsByWalks_6 : decode cX6_goodChainsByWalks 6 = .ok (.iload_n 2, 1) := by decide +kernel
theorem dX6_goodChainsByWalks_7 : decode cX6_goodChainsByWalks 7 = .ok (.invokestatic 166, 3) := by decide +kernel
theorem dX6_goodChainsByWalks_10 : decode cX6_goodChainsByWalks 10 = .ok (.aload_n 3, 1) := by decide +kernel
theorem dX6_goodChainsByWalks_11 : decode cX6_goodChainsByWalks 11 = .ok (.iload_n 2, 1) := by decide +kernel
theorem dX6_goodChainsByWalks_12 : decode cX6_goodChainsByWalks 12 = .ok (.invokevirtual 206, 3) := by decide +kernel
theorem dX6_goodChainsByWalks_15 : decode cX6_goodChainsByWalks 15 = .ok (.bipush 111, 2) := by decide +kernel
theorem dX6_goodChainsByWalks_17 : decode cX6_goodChainsByWalks 17 = .ok (.if_icmp .eq 5, 3) := by decide +kernel
theorem dX6_goodChainsByWalks_20 : decode cX6_goodChainsByWalks 20 = .ok (.iconst 0, 1) := by decide +kernel
theorem dX6_goodChainsByWalks_21 : decode cX6_goodChainsByWalks 21 = .ok (.ireturn, 1) := by decide +kernel
theorem dX6_goodChainsByWalks_22 : decode cX6_goodChainsByWalks 22 = .ok (.aload_n 0, 1) := by decide +kernel
theorem dX6_goodChainsByWalks_23 : decode cX6_goodChainsByWalks 23 = .ok (.getfield 36, 3) := by decide +kernel
theorem dX6_goodChainsByWalks_26 : decode cX6_goodChainsByWalks 26 = .ok (.aload_n 3, 1) := by decide +kernel
theorem dX6_goodChainsByWalks_27 : decode cX6_goodChainsByWalks 27 = .ok (.iload_n 2, 1) := by decide +kernel
theorem dX6_goodChainsByWalks_28 : decode cX6_goodChainsByWalks 28 = .ok (.invokevirtual 198, 3) := by decide +kernel
theorem dX6_goodChainsByWalks_31 : decode cX6_goodChainsByWalks 31 = .ok (.aload_n 0, 1) := by decide +kernel
theorem dX6_goodChainsByWalks_32 : decode cX6_goodChainsByWalks 32 = .ok (.getfield 36, 3) := by decide +kernel
theorem dX6_goodChainsByWalks_35 : decode cX6_goodChainsByWalks 35 = .ok (.invokestatic 210, 3) := by decide +kernel
theorem dX6_goodChainsByWalks_38 : decode cX6_goodChainsByWalks 38 = .ok (.ireturn, 1) := by decide +kernel
theorem dX6_begin_0 : decode cX6_begin 0 = .ok (.aload_n 0, 1) := by decide +kernel
theorem dX6_begin_1 : decode cX6_begin 1 = .ok (.iload_n 1, 1) := by decide +kernel
theorem dX6_begin_2 : decode cX6_begin 2 = .ok (.invokevirtual 73, 3) := by decide +kernel
theorem dX6_begin_5 : decode cX6_begin 5 = .ok (.astore_n 3, 1) := by decide +kernel
theorem dX6_begin_6 : decode cX6_begin 6 = .ok (.iload_n 2, 1) := by decide +kernel
theorem dX6_begin_7 : decode cX6_begin 7 = .ok (.invokestatic 166, 3) := by decide +kernel
theorem dX6_begin_10 : decode cX6_begin 10 = .ok (.aload_n 3, 1) := by decide +kernel
theorem dX6_begin_11 : decode cX6_begin 11 = .ok (.iload_n 2, 1) := by decide +kernel
theorem dX6_begin_12 : decode cX6_begin 12 = .ok (.invokevirtual 206, 3) := by decide +kernel
theorem dX6_begin_15 : decode cX6_begin 15 = .ok (.istore 4, 2) := by decide +kernel
theorem dX6_begin_17 : decode cX6_begin 17 = .ok (.iload 4, 2) := by decide +kernel
theorem dX6_begin_19 : decode cX6_begin 19 = .ok (.bipush 111, 2) := by decide +kernel
theorem dX6_begin_21 : decode cX6_begin 21 = .ok (.if_icmp .ne 12, 3) := by decide +kernel
theorem dX6_begin_24 : decode cX6_begin 24 = .ok (.aload_n 0, 1) := by decide +kernel
theorem dX6_begin_25 : decode cX6_begin 25 = .ok (.getfield 32, 3) := by decide +kernel
theorem dX6_begin_28 : decode cX6_begin 28 = .ok (.aload_n 3, 1) := by decide +kernel
theorem dX6_begin_29 : decode cX6_begin 29 = .ok (.iload_n 2, 1) := by decide +kernel
theorem dX6_begin_30 : decode cX6_begin 30 = .ok (.invokevirtual 198, 3) := by decide +kernel
theorem dX6_begin_33 : decode cX6_begin 33 = .ok (.iload 4, 2) := by decide +kernel
theorem dX6_begin_35 : decode cX6_begin 35 = .ok (.ireturn, 1) := by decide +kernel
theorem dX6_step_0 : decode cX6_step 0 = .ok (.aload_n 0, 1) := by decide +kernel
theorem dX6_step_1 : decode cX6_step 1 = .ok (.aload_n 0, 1) := by decide +kernel
theorem dX6_step_2 : decode cX6_step 2 = .ok (.invokevirtual 213, 3) := by decide +kernel
theorem dX6_step_5 : decode cX6_step 5 = .ok (.iload_n 1, 1) := by decide +kernel
theorem dX6_step_6 : decode cX6_step 6 = .ok (.invokevirtual 182, 3) := by decide +kernel
theorem dX6_step_9 : decode cX6_step 9 = .ok (.astore_n 2, 1) := by decide +kernel
theorem dX6_step_10 : decode cX6_step 10 = .ok (.aload_n 0, 1) := by decide +kernel
theorem dX6_step_11 : decode cX6_step 11 = .ok (.getfield 32, 3) := by decide +kernel
theorem dX6_step_14 : decode cX6_step 14 = .ok (.aload_n 2, 1) := by decide +kernel
theorem dX6_step_15 : decode cX6_step 15 = .ok (.invokevirtual 217, 3) := by decide +kernel
theorem dX6_step_18 : decode cX6_step 18 = .ok (.istore_n 3, 1) := by decide +kernel
theorem dX6_step_19 : decode cX6_step 19 = .ok (.iload_n 3, 1) := by decide +kernel
theorem dX6_step_20 : decode cX6_step 20 = .ok (.bipush 111, 2) := by decide +kernel
theorem dX6_step_22 : decode cX6_step 22 = .ok (.if_icmp .ne 12, 3) := by decide +kernel
theorem dX6_step_25 : decode cX6_step 25 = .ok (.aload_n 0, 1) := by decide +kernel
theorem dX6_step_26 : decode cX6_step 26 = .ok (.getfield 32, 3) := by decide +kernel
theorem dX6_step_29 : decode cX6_step 29 = .ok (.aload_n 2, 1) := by decide +kernel
theorem dX6_step_30 : decode cX6_step 30 = .ok (.invokevirtual 221, 3) := by decide +kernel
theorem dX6_step_33 : decode cX6_step 33 = .ok (.pop, 1) := by decide +kernel
theorem dX6_step_34 : decode cX6_step 34 = .ok (.iload_n 3, 1) := by decide +kernel
theorem dX6_step_35 : decode cX6_step 35 = .ok (.ireturn, 1) := by decide +kernel
theorem dX6_reached_0 : decode cX6_reached 0 = .ok (.aload_n 0, 1) := by decide +kernel
theorem dX6_reached_1 : decode cX6_reached 1 = .ok (.invokevirtual 213, 3) := by decide +kernel
theorem dX6_reached_4 : decode cX6_reached 4 = .ok (.getfield 173, 3) := by decide +kernel
theorem dX6_reached_7 : decode cX6_reached 7 = .ok (.ireturn, 1) := by decide +kernel
theorem dX6_walked_0 : decode cX6_walked 0 = .ok (.aload_n 0, 1) := by decide +kernel
theorem dX6_walked_1 : decode cX6_walked 1 = .ok (.getfield 32, 3) := by decide +kernel
theorem dX6_walked_4 : decode cX6_walked 4 = .ok (.getfield 225, 3) := by decide +kernel
theorem dX6_walked_7 : decode cX6_walked 7 = .ok (.ireturn, 1) := by decide +kernel
theorem dX6_isThrough_0 : decode cX6_isThrough 0 = .ok (.aload_n 0, 1) := by decide +kernel
theorem dX6_isThrough_1 : decode cX6_isThrough 1 = .ok (.getfield 32, 3) := by decide +kernel
theorem dX6_isThrough_4 : decode cX6_isThrough 4 = .ok (.invokevirtual 228, 3) := by decide +kernel
theorem dX6_isThrough_7 : decode cX6_isThrough 7 = .ok (.ireturn, 1) := by decide +kernel
theorem dX6_rootOf_0 : decode cX6_rootOf 0 = .ok (.aload_n 0, 1) := by decide +kernel
theorem dX6_rootOf_1 : decode cX6_rootOf 1 = .ok (.iload_n 1, 1) := by decide +kernel
theorem dX6_rootOf_2 : decode cX6_rootOf 2 = .ok (.invokevirtual 231, 3) := by decide +kernel
theorem dX6_rootOf_5 : decode cX6_rootOf 5 = .ok (.aload_n 0, 1) := by decide +kernel
theorem dX6_rootOf_6 : decode cX6_rootOf 6 = .ok (.getfield 25, 3) := by decide +kernel
theorem dX6_rootOf_9 : decode cX6_rootOf 9 = .ok (.iconst 0, 1) := by decide +kernel
theorem dX6_rootOf_10 : decode cX6_rootOf 10 = .ok (.iload_n 1, 1) := by decide +kernel
theorem dX6_rootOf_11 : decode cX6_rootOf 11 = .ok (.invokevirtual 234, 3) := by decide +kernel
theorem dX6_rootOf_14 : decode cX6_rootOf 14 = .ok (.lreturn, 1) := by decide +kernel
theorem dX6_rootByJoining_0 : decode cX6_rootByJoining 0 = .ok (.aload_n 0, 1) := by decide +kernel
theorem dX6_rootByJoining_1 : decode cX6_rootByJoining 1 = .ok (.iload_n 1, 1) := by decide +kernel
theorem dX6_rootByJoining_2 : decode cX6_rootByJoining 2 = .ok (.invokevirtual 231, 3) := by decide +kernel
theorem dX6_rootByJoining_5 : decode cX6_rootByJoining 5 = .ok (.aload_n 0, 1) := by decide +kernel
theorem dX6_rootByJoining_6 : decode cX6_rootByJoining 6 = .ok (.getfield 25, 3) := by decide +kernel
theorem dX6_rootByJoining_9 : decode cX6_rootByJoining 9 = .ok (.iload_n 1, 1) := by decide +kernel
theorem dX6_rootByJoining_10 : decode cX6_rootByJoining 10 = .ok (.invokevirtual 238, 3) := by decide +kernel
theorem dX6_rootByJoining_13 : decode cX6_rootByJoining 13 = .ok (.lreturn, 1) := by decide +kernel
theorem dX6_proofSize_0 : decode cX6_proofSize 0 = .ok (.aload_n 0, 1) := by decide +kernel
theorem dX6_proofSize_1 : decode cX6_proofSize 1 = .ok (.iload_n 1, 1) := by decide +kernel
theorem dX6_proofSize_2 : decode cX6_proofSize 2 = .ok (.iload_n 2, 1) := by decide +kernel
theorem dX6_proofSize_3 : decode cX6_proofSize 3 = .ok (.invokevirtual 242, 3) := by decide +kernel
theorem dX6_proofSize_6 : decode cX6_proofSize 6 = .ok (.getfield 246, 3) := by decide +kernel
theorem dX6_proofSize_9 : decode cX6_proofSize 9 = .ok (.ireturn, 1) := by decide +kernel
theorem dX6_proofAt_0 : decode cX6_proofAt 0 = .ok (.aload_n 0, 1) := by decide +kernel
theorem dX6_proofAt_1 : decode cX6_proofAt 1 = .ok (.iload_n 1, 1) := by decide +kernel
theorem dX6_proofAt_2 : decode cX6_proofAt 2 = .ok (.iload_n 2, 1) := by decide +kernel
theorem dX6_proofAt_3 : decode cX6_proofAt 3 = .ok (.invokevirtual 242, 3) := by decide +kernel
theorem dX6_proofAt_6 : decode cX6_proofAt 6 = .ok (.iload_n 3, 1) := by decide +kernel
theorem dX6_proofAt_7 : decode cX6_proofAt 7 = .ok (.invokestatic 249, 3) := by decide +kernel
theorem dX6_proofAt_10 : decode cX6_proofAt 10 = .ok (.lreturn, 1) := by decide +kernel
theorem dX6_rootByProof_0 : decode cX6_rootByProof 0 = .ok (.aload_n 0, 1) := by decide +kernel
theorem dX6_rootByProof_1 : decode cX6_rootByProof 1 = .ok (.iload_n 1, 1) := by decide +kernel
theorem dX6_rootByProof_2 : decode cX6_rootByProof 2 = .ok (.iload_n 2, 1) := by decide +kernel
theorem dX6_rootByProof_3 : decode cX6_rootByProof 3 = .ok (.invokevirtual 242, 3) := by decide +kernel
theorem dX6_rootByProof_6 : decode cX6_rootByProof 6 = .ok (.astore_n 3, 1) := by decide +kernel
theorem dX6_rootByProof_7 : decode cX6_rootByProof 7 = .ok (.aload_n 3, 1) := by decide +kernel
theorem dX6_rootByProof_8 : decode cX6_rootByProof 8 = .ok (.aload_n 0, 1) := by decide +kernel
theorem dX6_rootByProof_9 : decode cX6_rootByProof 9 = .ok (.getfield 25, 3) := by decide +kernel
theorem dX6_rootByProof_12 : decode cX6_rootByProof 12 = .ok (.iload_n 1, 1) := by decide +kernel
theorem dX6_rootByProof_13 : decode cX6_rootByProof 13 = .ok (.invokevirtual 253, 3) := by decide +kernel
theorem dX6_rootByProof_16 : decode cX6_rootByProof 16 = .ok (.invokevirtual 256, 3) := by decide +kernel
theorem dX6_rootByProof_19 : decode cX6_rootByProof 19 = .ok (.lreturn, 1) := by decide +kernel
theorem dX6_growthSize_0 : decode cX6_growthSize 0 = .ok (.aload_n 0, 1) := by decide +kernel
theorem dX6_growthSize_1 : decode cX6_growthSize 1 = .ok (.iload_n 1, 1) := by decide +kernel
theorem dX6_growthSize_2 : decode cX6_growthSize 2 = .ok (.iload_n 2, 1) := by decide +kernel
theorem dX6_growthSize_3 : decode cX6_growthSize 3 = .ok (.invokevirtual 260, 3) := by decide +kernel
theorem dX6_growthSize_6 : decode cX6_growthSize 6 = .ok (.getfield 246, 3) := by decide +kernel
theorem dX6_growthSize_9 : decode cX6_growthSize 9 = .ok (.ireturn, 1) := by decide +kernel
theorem dX6_growthAt_0 : decode cX6_growthAt 0 = .ok (.aload_n 0, 1) := by decide +kernel
theorem dX6_growthAt_1 : decode cX6_growthAt 1 = .ok (.iload_n 1, 1) := by decide +kernel
theorem dX6_growthAt_2 : decode cX6_growthAt 2 = .ok (.iload_n 2, 1) := by decide +kernel
theorem dX6_growthAt_3 : decode cX6_growthAt 3 = .ok (.invokevirtual 260, 3) := by decide +kernel
theorem dX6_growthAt_6 : decode cX6_growthAt 6 = .ok (.iload_n 3, 1) := by decide +kernel
theorem dX6_growthAt_7 : decode cX6_growthAt 7 = .ok (.invokestatic 249, 3) := by decide +kernel
theorem dX6_growthAt_10 : decode cX6_growthAt 10 = .ok (.lreturn, 1) := by decide +kernel
theorem dX6_soundShare_0 : decode cX6_soundShare 0 = .ok (.aload_n 0, 1) := by decide +kernel
theorem dX6_soundShare_1 : decode cX6_soundShare 1 = .ok (.getfield 42, 3) := by decide +kernel
theorem dX6_soundShare_4 : decode cX6_soundShare 4 = .ok (.ifCond .ne 14, 3) := by decide +kernel
theorem dX6_soundShare_7 : decode cX6_soundShare 7 = .ok (.new 263, 3) := by decide +kernel
theorem dX6_soundShare_10 : decode cX6_soundShare 10 = .ok (.dup, 1) := by decide +kernel
theorem dX6_soundShare_11 : decode cX6_soundShare 11 = .ok (.ldc_w 265, 3) := by decide +kernel
theorem dX6_soundShare_14 : decode cX6_soundShare 14 = .ok (.invokespecial 267, 3) := by decide +kernel
theorem dX6_soundShare_17 : decode cX6_soundShare 17 = .ok (.athrow, 1) := by decide +kernel
theorem dX6_soundShare_18 : decode cX6_soundShare 18 = .ok (.iconst 0, 1) := by decide +kernel
theorem dX6_soundShare_19 : decode cX6_soundShare 19 = .ok (.istore_n 1, 1) := by decide +kernel
theorem dX6_soundShare_20 : decode cX6_soundShare 20 = .ok (.aload_n 0, 1) := by decide +kernel
theorem dX6_soundShare_21 : decode cX6_soundShare 21 = .ok (.getfield 11, 3) := by decide +kernel
theorem dX6_soundShare_24 : decode cX6_soundShare 24 = .ok (.astore_n 2, 1) := by decide +kernel
theorem dX6_soundShare_25 : decode cX6_soundShare 25 = .ok (.aload_n 2, 1) := by decide +kernel
theorem dX6_soundShare_26 : decode cX6_soundShare 26 = .ok (.arraylength, 1) := by decide +kernel
theorem dX6_soundShare_27 : decode cX6_soundShare 27 = .ok (.istore_n 3, 1) := by decide +kernel
theorem dX6_soundShare_28 : decode cX6_soundShare 28 = .ok (.iconst 0, 1) := by decide +kernel
theorem dX6_soundShare_29 : decode cX6_soundShare 29 = .ok (.istore 4, 2) := by decide +kernel
theorem dX6_soundShare_31 : decode cX6_soundShare 31 = .ok (.iload 4, 2) := by decide +kernel
theorem dX6_soundShare_33 : decode cX6_soundShare 33 = .ok (.iload_n 3, 1) := by decide +kernel
theorem dX6_soundShare_34 : decode cX6_soundShare 34 = .ok (.if_icmp .ge 44, 3) := by decide +kernel
theorem dX6_soundShare_37 : decode cX6_soundShare 37 = .ok (.aload_n 2, 1) := by decide +kernel
theorem dX6_soundShare_38 : decode cX6_soundShare 38 = .ok (.iload 4, 2) := by decide +kernel
theorem dX6_soundShare_40 : decode cX6_soundShare 40 = .ok (.aaload, 1) := by decide +kernel
theorem dX6_soundShare_41 : decode cX6_soundShare 41 = .ok (.astore 5, 2) := by decide +kernel
theorem dX6_soundShare_43 : decode cX6_soundShare 43 = .ok (.aload 5, 2) := by decide +kernel
theorem dX6_soundShare_45 : decode cX6_soundShare 45 = .ok (.ifnull 27, 3) := by decide +kernel
theorem dX6_soundShare_48 : decode cX6_soundShare 48 = .ok (.aload 5, 2) := by decide +kernel
theorem dX6_soundShare_50 : decode cX6_soundShare 50 = .ok (.aload_n 0, 1) := by decide +kernel
theorem dX6_soundShare_51 : decode cX6_soundShare 51 = .ok (.getfield 49, 3) := by decide +kernel
theorem dX6_soundShare_54 : decode cX6_soundShare 54 = .ok (.invokevirtual 268, 3) := by decide +kernel
theorem dX6_soundShare_57 : decode cX6_soundShare 57 = .ok (.ifCond .eq 15, 3) := by decide +kernel
theorem dX6_soundShare_60 : decode cX6_soundShare 60 = .ok (.aload 5, 2) := by decide +kernel
theorem dX6_soundShare_62 : decode cX6_soundShare 62 = .ok (.getfield 271, 3) := by decide +kernel
theorem dX6_soundShare_65 : decode cX6_soundShare 65 = .ok (.iconst (-1), 1) := by decide +kernel
theorem dX6_soundShare_66 : decode cX6_soundShare 66 = .ok (.if_icmp .ne 6, 3) := by decide +kernel
theorem dX6_soundShare_69 : decode cX6_soundShare 69 = .ok (.iinc 1 1, 3) := by decide +kernel
theorem dX6_soundShare_72 : decode cX6_soundShare 72 = .ok (.iinc 4 1, 3) := by decide +kernel
theorem dX6_soundShare_75 : decode cX6_soundShare 75 = .ok (.goto (-44), 3) := by decide +kernel
theorem dX6_soundShare_78 : decode cX6_soundShare 78 = .ok (.iload_n 1, 1) := by decide +kernel
theorem dX6_soundShare_79 : decode cX6_soundShare 79 = .ok (.i2f, 1) := by decide +kernel
theorem dX6_soundShare_80 : decode cX6_soundShare 80 = .ok (.aload_n 0, 1) := by decide +kernel
theorem dX6_soundShare_81 : decode cX6_soundShare 81 = .ok (.getfield 42, 3) := by decide +kernel
theorem dX6_soundShare_84 : decode cX6_soundShare 84 = .ok (.i2f, 1) := by decide +kernel
theorem dX6_soundShare_85 : decode cX6_soundShare 85 = .ok (.fdiv, 1) := by decide +kernel
theorem dX6_soundShare_86 : decode cX6_soundShare 86 = .ok (.freturn, 1) := by decide +kernel
theorem dX6_meanChain_0 : decode cX6_meanChain 0 = .ok (.iconst 0, 1) := by decide +kernel
theorem dX6_meanChain_1 : decode cX6_meanChain 1 = .ok (.istore_n 1, 1) := by decide +kernel
theorem dX6_meanChain_2 : decode cX6_meanChain 2 = .ok (.iconst 0, 1) := by decide +kernel
theorem dX6_meanChain_3 : decode cX6_meanChain 3 = .ok (.istore_n 2, 1) := by decide +kernel
theorem dX6_meanChain_4 : decode cX6_meanChain 4 = .ok (.aload_n 0, 1) := by decide +kernel
theorem dX6_meanChain_5 : decode cX6_meanChain 5 = .ok (.getfield 11, 3) := by decide +kernel
theorem dX6_meanChain_8 : decode cX6_meanChain 8 = .ok (.astore_n 3, 1) := by decide +kernel
theorem dX6_meanChain_9 : decode cX6_meanChain 9 = .ok (.aload_n 3, 1) := by decide +kernel
theorem dX6_meanChain_10 : decode cX6_meanChain 10 = .ok (.arraylength, 1) := by decide +kernel
theorem dX6_meanChain_11 : decode cX6_meanChain 11 = .ok (.istore 4, 2) := by decide +kernel
theorem dX6_meanChain_13 : decode cX6_meanChain 13 = .ok (.iconst 0, 1) := by decide +kernel
theorem dX6_meanChain_14 : decode cX6_meanChain 14 = .ok (.istore 5, 2) := by decide +kernel
theorem dX6_meanChain_16 : decode cX6_meanChain 16 = .ok (.iload 5, 2) := by decide +kernel
theorem dX6_meanChain_18 : decode cX6_meanChain 18 = .ok (.iload 4, 2) := by decide +kernel
theorem dX6_meanChain_20 : decode cX6_meanChain 20 = .ok (.if_icmp .ge 49, 3) := by decide +kernel
theorem dX6_meanChain_23 : decode cX6_meanChain 23 = .ok (.aload_n 3, 1) := by decide +kernel
theorem dX6_meanChain_24 : decode cX6_meanChain 24 = .ok (.iload 5, 2) := by decide +kernel
theorem dX6_meanChain_26 : decode cX6_meanChain 26 = .ok (.aaload, 1) := by decide +kernel
theorem dX6_meanChain_27 : decode cX6_meanChain 27 = .ok (.astore 6, 2) := by decide +kernel
theorem dX6_meanChain_29 : decode cX6_meanChain 29 = .ok (.aload 6, 2) := by decide +kernel
theorem dX6_meanChain_31 : decode cX6_meanChain 31 = .ok (.ifnonnull 7, 3) := by decide +kernel
theorem dX6_meanChain_34 : decode cX6_meanChain 34 = .ok (.iconst 0, 1) := by decide +kernel
theorem dX6_meanChain_35 : decode cX6_meanChain 35 = .ok (.goto 13, 3) := by decide +kernel
theorem dX6_meanChain_38 : decode cX6_meanChain 38 = .ok (.aload_n 0, 1) := by decide +kernel
theorem dX6_meanChain_39 : decode cX6_meanChain 39 = .ok (.aload 6, 2) := by decide +kernel
theorem dX6_meanChain_41 : decode cX6_meanChain 41 = .ok (.aload_n 0, 1) := by decide +kernel
theorem dX6_meanChain_42 : decode cX6_meanChain 42 = .ok (.getfield 49, 3) := by decide +kernel
theorem dX6_meanChain_45 : decode cX6_meanChain 45 = .ok (.invokevirtual 186, 3) := by decide +kernel
theorem dX6_meanChain_48 : decode cX6_meanChain 48 = .ok (.istore 7, 2) := by decide +kernel
theorem dX6_meanChain_50 : decode cX6_meanChain 50 = .ok (.iload 7, 2) := by decide +kernel
theorem dX6_meanChain_52 : decode cX6_meanChain 52 = .ok (.ifCond .le 11, 3) := by decide +kernel
theorem dX6_meanChain_55 : decode cX6_meanChain 55 = .ok (.iload_n 1, 1) := by decide +kernel
theorem dX6_meanChain_56 : decode cX6_meanChain 56 = .ok (.iload 7, 2) := by decide +kernel
theorem dX6_meanChain_58 : decode cX6_meanChain 58 = .ok (.iadd, 1) := by decide +kernel
theorem dX6_meanChain_59 : decode cX6_meanChain 59 = .ok (.istore_n 1, 1) := by decide +kernel
theorem dX6_meanChain_60 : decode cX6_meanChain 60 = .ok (.iinc 2 1, 3) := by decide +kernel
theorem dX6_meanChain_63 : decode cX6_meanChain 63 = .ok (.iinc 5 1, 3) := by decide +kernel
theorem dX6_meanChain_66 : decode cX6_meanChain 66 = .ok (.goto (-50), 3) := by decide +kernel
theorem dX6_meanChain_69 : decode cX6_meanChain 69 = .ok (.iload_n 2, 1) := by decide +kernel
theorem dX6_meanChain_70 : decode cX6_meanChain 70 = .ok (.ifCond .ne 14, 3) := by decide +kernel
theorem dX6_meanChain_73 : decode cX6_meanChain 73 = .ok (.new 263, 3) := by decide +kernel
theorem dX6_meanChain_76 : decode cX6_meanChain 76 = .ok (.dup, 1) := by decide +kernel
theorem dX6_meanChain_77 : decode cX6_meanChain 77 = .ok (.ldc_w 274, 3) := by decide +kernel
theorem dX6_meanChain_80 : decode cX6_meanChain 80 = .ok (.invokespecial 267, 3) := by decide +kernel
theorem dX6_meanChain_83 : decode cX6_meanChain 83 = .ok (.athrow, 1) := by decide +kernel
theorem dX6_meanChain_84 : decode cX6_meanChain 84 = .ok (.iload_n 1, 1) := by decide +kernel
theorem dX6_meanChain_85 : decode cX6_meanChain 85 = .ok (.i2d, 1) := by decide +kernel
theorem dX6_meanChain_86 : decode cX6_meanChain 86 = .ok (.iload_n 2, 1) := by decide +kernel
theorem dX6_meanChain_87 : decode cX6_meanChain 87 = .ok (.i2d, 1) := by decide +kernel
theorem dX6_meanChain_88 : decode cX6_meanChain 88 = .ok (.ddiv, 1) := by decide +kernel
theorem dX6_meanChain_89 : decode cX6_meanChain 89 = .ok (.dreturn, 1) := by decide +kernel
theorem dX6_find_0 : decode cX6_find 0 = .ok (.iload_n 1, 1) := by decide +kernel
theorem dX6_find_1 : decode cX6_find 1 = .ok (.ifCond .lt 12, 3) := by decide +kernel
theorem dX6_find_4 : decode cX6_find 4 = .ok (.iload_n 1, 1) := by decide +kernel
theorem dX6_find_5 : decode cX6_find 5 = .ok (.aload_n 0, 1) := by decide +kernel
theorem dX6_find_6 : decode cX6_find 6 = .ok (.getfield 11, 3) := by decide +kernel
theorem dX6_find_9 : decode cX6_find 9 = .ok (.arraylength, 1) := by decide +kernel
theorem dX6_find_10 : decode cX6_find 10 = .ok (.if_icmp .lt 7, 3) := by decide +kernel
theorem dX6_find_13 : decode cX6_find 13 = .ok (.aconst_null, 1) := by decide +kernel
theorem dX6_find_14 : decode cX6_find 14 = .ok (.goto 9, 3) := by decide +kernel
theorem dX6_find_17 : decode cX6_find 17 = .ok (.aload_n 0, 1) := by decide +kernel
theorem dX6_find_18 : decode cX6_find 18 = .ok (.getfield 11, 3) := by decide +kernel
theorem dX6_find_21 : decode cX6_find 21 = .ok (.iload_n 1, 1) := by decide +kernel
theorem dX6_find_22 : decode cX6_find 22 = .ok (.aaload, 1) := by decide +kernel
theorem dX6_find_23 : decode cX6_find 23 = .ok (.astore_n 2, 1) := by decide +kernel
theorem dX6_find_24 : decode cX6_find 24 = .ok (.aload_n 2, 1) := by decide +kernel
theorem dX6_find_25 : decode cX6_find 25 = .ok (.ifnonnull 14, 3) := by decide +kernel
theorem dX6_find_28 : decode cX6_find 28 = .ok (.new 276, 3) := by decide +kernel
theorem dX6_find_31 : decode cX6_find 31 = .ok (.dup, 1) := by decide +kernel
theorem dX6_find_32 : decode cX6_find 32 = .ok (.ldc_w 278, 3) := by decide +kernel
theorem dX6_find_35 : decode cX6_find 35 = .ok (.invokespecial 280, 3) := by decide +kernel
end
section
theorem dX6_find_38 : decode cX6_find 38 = .ok (.athrow, 1) := by decide +kernel
theorem dX6_find_39 : decode cX6_find 39 = .ok (.aload_n 2, 1) := by decide +kernel
theorem dX6_find_40 : decode cX6_find 40 = .ok (.areturn, 1) := by decide +kernel
theorem dX6_requireCandidate_0 : decode cX6_requireCandidate 0 = .ok (.aload_n 1, 1) := by decide +kernel
theorem dX6_requireCandidate_1 : decode cX6_requireCandidate 1 = .ok (.iload_n 2, 1) := by decide +kernel
theorem dX6_requireCandidate_2 : decode cX6_requireCandidate 2 = .ok (.invokevirtual 281, 3) := by decide +kernel
theorem dX6_requireCandidate_5 : decode cX6_requireCandidate 5 = .ok (.astore_n 3, 1) := by decide +kernel
theorem dX6_requireCandidate_6 : decode cX6_requireCandidate 6 = .ok (.aload_n 3, 1) := by decide +kernel
theorem dX6_requireCandidate_7 : decode cX6_requireCandidate 7 = .ok (.ifnonnull 14, 3) := by decide +kernel
theorem dX6_requireCandidate_10 : decode cX6_requireCandidate 10 = .ok (.new 193, 3) := by decide +kernel
theorem dX6_requireCandidate_13 : decode cX6_requireCandidate 13 = .ok (.dup, 1) := by decide +kernel
theorem dX6_requireCandidate_14 : decode cX6_requireCandidate 14 = .ok (.ldc_w 284, 3) := by decide +kernel
theorem dX6_requireCandidate_17 : decode cX6_requireCandidate 17 = .ok (.invokespecial 197, 3) := by decide +kernel
theorem dX6_requireCandidate_20 : decode cX6_requireCandidate 20 = .ok (.athrow, 1) := by decide +kernel
theorem dX6_requireCandidate_21 : decode cX6_requireCandidate 21 = .ok (.aload_n 3, 1) := by decide +kernel
theorem dX6_requireCandidate_22 : decode cX6_requireCandidate 22 = .ok (.areturn, 1) := by decide +kernel
theorem dX6_requireReached_0 : decode cX6_requireReached 0 = .ok (.aload_n 0, 1) := by decide +kernel
theorem dX6_requireReached_1 : decode cX6_requireReached 1 = .ok (.getfield 32, 3) := by decide +kernel
theorem dX6_requireReached_4 : decode cX6_requireReached 4 = .ok (.invokevirtual 286, 3) := by decide +kernel
theorem dX6_requireReached_7 : decode cX6_requireReached 7 = .ok (.astore_n 1, 1) := by decide +kernel
theorem dX6_requireReached_8 : decode cX6_requireReached 8 = .ok (.aload_n 1, 1) := by decide +kernel
theorem dX6_requireReached_9 : decode cX6_requireReached 9 = .ok (.ifnonnull 14, 3) := by decide +kernel
theorem dX6_requireReached_12 : decode cX6_requireReached 12 = .ok (.new 85, 3) := by decide +kernel
theorem dX6_requireReached_15 : decode cX6_requireReached 15 = .ok (.dup, 1) := by decide +kernel
theorem dX6_requireReached_16 : decode cX6_requireReached 16 = .ok (.ldc_w 289, 3) := by decide +kernel
theorem dX6_requireReached_19 : decode cX6_requireReached 19 = .ok (.invokespecial 89, 3) := by decide +kernel
theorem dX6_requireReached_22 : decode cX6_requireReached 22 = .ok (.athrow, 1) := by decide +kernel
theorem dX6_requireReached_23 : decode cX6_requireReached 23 = .ok (.aload_n 1, 1) := by decide +kernel
theorem dX6_requireReached_24 : decode cX6_requireReached 24 = .ok (.areturn, 1) := by decide +kernel
theorem dX6_requireName_0 : decode cX6_requireName 0 = .ok (.iload_n 0, 1) := by decide +kernel
theorem dX6_requireName_1 : decode cX6_requireName 1 = .ok (.invokestatic 291, 3) := by decide +kernel
theorem dX6_requireName_4 : decode cX6_requireName 4 = .ok (.ifCond .ne 14, 3) := by decide +kernel
theorem dX6_requireName_7 : decode cX6_requireName 7 = .ok (.new 294, 3) := by decide +kernel
theorem dX6_requireName_10 : decode cX6_requireName 10 = .ok (.dup, 1) := by decide +kernel
theorem dX6_requireName_11 : decode cX6_requireName 11 = .ok (.ldc_w 296, 3) := by decide +kernel
theorem dX6_requireName_14 : decode cX6_requireName 14 = .ok (.invokespecial 298, 3) := by decide +kernel
theorem dX6_requireName_17 : decode cX6_requireName 17 = .ok (.athrow, 1) := by decide +kernel
theorem dX6_requireName_18 : decode cX6_requireName 18 = .ok (.return_, 1) := by decide +kernel
theorem dX6_requireNameOrNone_0 : decode cX6_requireNameOrNone 0 = .ok (.iload_n 0, 1) := by decide +kernel
theorem dX6_requireNameOrNone_1 : decode cX6_requireNameOrNone 1 = .ok (.ifCond .eq 7, 3) := by decide +kernel
theorem dX6_requireNameOrNone_4 : decode cX6_requireNameOrNone 4 = .ok (.iload_n 0, 1) := by decide +kernel
theorem dX6_requireNameOrNone_5 : decode cX6_requireNameOrNone 5 = .ok (.invokestatic 52, 3) := by decide +kernel
theorem dX6_requireNameOrNone_8 : decode cX6_requireNameOrNone 8 = .ok (.return_, 1) := by decide +kernel
theorem dX6_requireDays_0 : decode cX6_requireDays 0 = .ok (.iload_n 0, 1) := by decide +kernel
theorem dX6_requireDays_1 : decode cX6_requireDays 1 = .ok (.iconst 1, 1) := by decide +kernel
theorem dX6_requireDays_2 : decode cX6_requireDays 2 = .ok (.if_icmp .lt 10, 3) := by decide +kernel
theorem dX6_requireDays_5 : decode cX6_requireDays 5 = .ok (.iload_n 0, 1) := by decide +kernel
theorem dX6_requireDays_6 : decode cX6_requireDays 6 = .ok (.sipush 999, 3) := by decide +kernel
theorem dX6_requireDays_9 : decode cX6_requireDays 9 = .ok (.if_icmp .le 14, 3) := by decide +kernel
theorem dX6_requireDays_12 : decode cX6_requireDays 12 = .ok (.new 294, 3) := by decide +kernel
theorem dX6_requireDays_15 : decode cX6_requireDays 15 = .ok (.dup, 1) := by decide +kernel
theorem dX6_requireDays_16 : decode cX6_requireDays 16 = .ok (.ldc_w 299, 3) := by decide +kernel
theorem dX6_requireDays_19 : decode cX6_requireDays 19 = .ok (.invokespecial 298, 3) := by decide +kernel
theorem dX6_requireDays_22 : decode cX6_requireDays 22 = .ok (.athrow, 1) := by decide +kernel
theorem dX6_requireDays_23 : decode cX6_requireDays 23 = .ok (.return_, 1) := by decide +kernel
theorem dX6_requireLength_0 : decode cX6_requireLength 0 = .ok (.iload_n 0, 1) := by decide +kernel
theorem dX6_requireLength_1 : decode cX6_requireLength 1 = .ok (.ifCond .lt 8, 3) := by decide +kernel
theorem dX6_requireLength_4 : decode cX6_requireLength 4 = .ok (.iload_n 0, 1) := by decide +kernel
theorem dX6_requireLength_5 : decode cX6_requireLength 5 = .ok (.iconst 5, 1) := by decide +kernel
theorem dX6_requireLength_6 : decode cX6_requireLength 6 = .ok (.if_icmp .le 14, 3) := by decide +kernel
theorem dX6_requireLength_9 : decode cX6_requireLength 9 = .ok (.new 294, 3) := by decide +kernel
theorem dX6_requireLength_12 : decode cX6_requireLength 12 = .ok (.dup, 1) := by decide +kernel
theorem dX6_requireLength_13 : decode cX6_requireLength 13 = .ok (.ldc_w 301, 3) := by decide +kernel
theorem dX6_requireLength_16 : decode cX6_requireLength 16 = .ok (.invokespecial 298, 3) := by decide +kernel
theorem dX6_requireLength_19 : decode cX6_requireLength 19 = .ok (.athrow, 1) := by decide +kernel
theorem dX6_requireLength_20 : decode cX6_requireLength 20 = .ok (.return_, 1) := by decide +kernel
theorem dX6_requireDay_0 : decode cX6_requireDay 0 = .ok (.iload_n 0, 1) := by decide +kernel
theorem dX6_requireDay_1 : decode cX6_requireDay 1 = .ok (.ifCond .ge 14, 3) := by decide +kernel
theorem dX6_requireDay_4 : decode cX6_requireDay 4 = .ok (.new 294, 3) := by decide +kernel
theorem dX6_requireDay_7 : decode cX6_requireDay 7 = .ok (.dup, 1) := by decide +kernel
theorem dX6_requireDay_8 : decode cX6_requireDay 8 = .ok (.ldc_w 303, 3) := by decide +kernel
theorem dX6_requireDay_11 : decode cX6_requireDay 11 = .ok (.invokespecial 298, 3) := by decide +kernel
theorem dX6_requireDay_14 : decode cX6_requireDay 14 = .ok (.athrow, 1) := by decide +kernel
theorem dX6_requireDay_15 : decode cX6_requireDay 15 = .ok (.return_, 1) := by decide +kernel
theorem dX6_requireAuthority_0 : decode cX6_requireAuthority 0 = .ok (.aload_n 0, 1) := by decide +kernel
theorem dX6_requireAuthority_1 : decode cX6_requireAuthority 1 = .ok (.invokevirtual 159, 3) := by decide +kernel
theorem dX6_requireAuthority_4 : decode cX6_requireAuthority 4 = .ok (.ifCond .ne 14, 3) := by decide +kernel
theorem dX6_requireAuthority_7 : decode cX6_requireAuthority 7 = .ok (.new 85, 3) := by decide +kernel
theorem dX6_requireAuthority_10 : decode cX6_requireAuthority 10 = .ok (.dup, 1) := by decide +kernel
theorem dX6_requireAuthority_11 : decode cX6_requireAuthority 11 = .ok (.ldc_w 305, 3) := by decide +kernel
theorem dX6_requireAuthority_14 : decode cX6_requireAuthority 14 = .ok (.invokespecial 89, 3) := by decide +kernel
theorem dX6_requireAuthority_17 : decode cX6_requireAuthority 17 = .ok (.athrow, 1) := by decide +kernel
theorem dX6_requireAuthority_18 : decode cX6_requireAuthority 18 = .ok (.return_, 1) := by decide +kernel
theorem dX6_requireRoom_0 : decode cX6_requireRoom 0 = .ok (.aload_n 0, 1) := by decide +kernel
theorem dX6_requireRoom_1 : decode cX6_requireRoom 1 = .ok (.getfield 42, 3) := by decide +kernel
theorem dX6_requireRoom_4 : decode cX6_requireRoom 4 = .ok (.bipush 40, 2) := by decide +kernel
theorem dX6_requireRoom_6 : decode cX6_requireRoom 6 = .ok (.if_icmp .lt 14, 3) := by decide +kernel
theorem dX6_requireRoom_9 : decode cX6_requireRoom 9 = .ok (.new 85, 3) := by decide +kernel
theorem dX6_requireRoom_12 : decode cX6_requireRoom 12 = .ok (.dup, 1) := by decide +kernel
theorem dX6_requireRoom_13 : decode cX6_requireRoom 13 = .ok (.ldc_w 307, 3) := by decide +kernel
theorem dX6_requireRoom_16 : decode cX6_requireRoom 16 = .ok (.invokespecial 89, 3) := by decide +kernel
theorem dX6_requireRoom_19 : decode cX6_requireRoom 19 = .ok (.athrow, 1) := by decide +kernel
theorem dX6_requireRoom_20 : decode cX6_requireRoom 20 = .ok (.return_, 1) := by decide +kernel
theorem dX6_requireSize_0 : decode cX6_requireSize 0 = .ok (.iload_n 1, 1) := by decide +kernel
theorem dX6_requireSize_1 : decode cX6_requireSize 1 = .ok (.iconst 1, 1) := by decide +kernel
theorem dX6_requireSize_2 : decode cX6_requireSize 2 = .ok (.if_icmp .lt 14, 3) := by decide +kernel
theorem dX6_requireSize_5 : decode cX6_requireSize 5 = .ok (.iload_n 1, 1) := by decide +kernel
theorem dX6_requireSize_6 : decode cX6_requireSize 6 = .ok (.aload_n 0, 1) := by decide +kernel
theorem dX6_requireSize_7 : decode cX6_requireSize 7 = .ok (.getfield 25, 3) := by decide +kernel
theorem dX6_requireSize_10 : decode cX6_requireSize 10 = .ok (.getfield 309, 3) := by decide +kernel
theorem dX6_requireSize_13 : decode cX6_requireSize 13 = .ok (.if_icmp .le 14, 3) := by decide +kernel
theorem dX6_requireSize_16 : decode cX6_requireSize 16 = .ok (.new 294, 3) := by decide +kernel
theorem dX6_requireSize_19 : decode cX6_requireSize 19 = .ok (.dup, 1) := by decide +kernel
theorem dX6_requireSize_20 : decode cX6_requireSize 20 = .ok (.ldc_w 310, 3) := by decide +kernel
theorem dX6_requireSize_23 : decode cX6_requireSize 23 = .ok (.invokespecial 298, 3) := by decide +kernel
theorem dX6_requireSize_26 : decode cX6_requireSize 26 = .ok (.athrow, 1) := by decide +kernel
theorem dX6_requireSize_27 : decode cX6_requireSize 27 = .ok (.return_, 1) := by decide +kernel
theorem dX6_isName_0 : decode cX6_isName 0 = .ok (.iload_n 0, 1) := by decide +kernel
theorem dX6_isName_1 : decode cX6_isName 1 = .ok (.iconst 1, 1) := by decide +kernel
theorem dX6_isName_2 : decode cX6_isName 2 = .ok (.if_icmp .lt 10, 3) := by decide +kernel
theorem dX6_isName_5 : decode cX6_isName 5 = .ok (.iload_n 0, 1) := by decide +kernel
theorem dX6_isName_6 : decode cX6_isName 6 = .ok (.sipush 9999, 3) := by decide +kernel
theorem dX6_isName_9 : decode cX6_isName 9 = .ok (.if_icmp .le 5, 3) := by decide +kernel
theorem dX6_isName_12 : decode cX6_isName 12 = .ok (.iconst 0, 1) := by decide +kernel
theorem dX6_isName_13 : decode cX6_isName 13 = .ok (.ireturn, 1) := by decide +kernel
theorem dX6_isName_14 : decode cX6_isName 14 = .ok (.iload_n 0, 1) := by decide +kernel
theorem dX6_isName_15 : decode cX6_isName 15 = .ok (.istore_n 1, 1) := by decide +kernel
theorem dX6_isName_16 : decode cX6_isName 16 = .ok (.iload_n 1, 1) := by decide +kernel
theorem dX6_isName_17 : decode cX6_isName 17 = .ok (.ifCond .le 20, 3) := by decide +kernel
theorem dX6_isName_20 : decode cX6_isName 20 = .ok (.iload_n 1, 1) := by decide +kernel
theorem dX6_isName_21 : decode cX6_isName 21 = .ok (.bipush 10, 2) := by decide +kernel
theorem dX6_isName_23 : decode cX6_isName 23 = .ok (.irem, 1) := by decide +kernel
theorem dX6_isName_24 : decode cX6_isName 24 = .ok (.ifCond .ne 5, 3) := by decide +kernel
theorem dX6_isName_27 : decode cX6_isName 27 = .ok (.iconst 0, 1) := by decide +kernel
theorem dX6_isName_28 : decode cX6_isName 28 = .ok (.ireturn, 1) := by decide +kernel
theorem dX6_isName_29 : decode cX6_isName 29 = .ok (.iload_n 1, 1) := by decide +kernel
theorem dX6_isName_30 : decode cX6_isName 30 = .ok (.bipush 10, 2) := by decide +kernel
theorem dX6_isName_32 : decode cX6_isName 32 = .ok (.idiv, 1) := by decide +kernel
theorem dX6_isName_33 : decode cX6_isName 33 = .ok (.istore_n 1, 1) := by decide +kernel
theorem dX6_isName_34 : decode cX6_isName 34 = .ok (.goto (-18), 3) := by decide +kernel
theorem dX6_isName_37 : decode cX6_isName 37 = .ok (.iconst 1, 1) := by decide +kernel
theorem dX6_isName_38 : decode cX6_isName 38 = .ok (.ireturn, 1) := by decide +kernel
theorem dX6_beginsWith_0 : decode cX6_beginsWith 0 = .ok (.iload_n 0, 1) := by decide +kernel
theorem dX6_beginsWith_1 : decode cX6_beginsWith 1 = .ok (.istore_n 2, 1) := by decide +kernel
theorem dX6_beginsWith_2 : decode cX6_beginsWith 2 = .ok (.iconst 0, 1) := by decide +kernel
theorem dX6_beginsWith_3 : decode cX6_beginsWith 3 = .ok (.istore_n 3, 1) := by decide +kernel
theorem dX6_beginsWith_4 : decode cX6_beginsWith 4 = .ok (.iload_n 3, 1) := by decide +kernel
theorem dX6_beginsWith_5 : decode cX6_beginsWith 5 = .ok (.iconst 4, 1) := by decide +kernel
theorem dX6_beginsWith_6 : decode cX6_beginsWith 6 = .ok (.if_icmp .ge 19, 3) := by decide +kernel
theorem dX6_beginsWith_9 : decode cX6_beginsWith 9 = .ok (.iload_n 2, 1) := by decide +kernel
theorem dX6_beginsWith_10 : decode cX6_beginsWith 10 = .ok (.iload_n 1, 1) := by decide +kernel
theorem dX6_beginsWith_11 : decode cX6_beginsWith 11 = .ok (.if_icmp .le 14, 3) := by decide +kernel
theorem dX6_beginsWith_14 : decode cX6_beginsWith 14 = .ok (.iload_n 2, 1) := by decide +kernel
theorem dX6_beginsWith_15 : decode cX6_beginsWith 15 = .ok (.bipush 10, 2) := by decide +kernel
theorem dX6_beginsWith_17 : decode cX6_beginsWith 17 = .ok (.idiv, 1) := by decide +kernel
theorem dX6_beginsWith_18 : decode cX6_beginsWith 18 = .ok (.istore_n 2, 1) := by decide +kernel
theorem dX6_beginsWith_19 : decode cX6_beginsWith 19 = .ok (.iinc 3 1, 3) := by decide +kernel
theorem dX6_beginsWith_22 : decode cX6_beginsWith 22 = .ok (.goto (-18), 3) := by decide +kernel
theorem dX6_beginsWith_25 : decode cX6_beginsWith 25 = .ok (.iload_n 2, 1) := by decide +kernel
theorem dX6_beginsWith_26 : decode cX6_beginsWith 26 = .ok (.iload_n 1, 1) := by decide +kernel
theorem dX6_beginsWith_27 : decode cX6_beginsWith 27 = .ok (.if_icmp .ne 7, 3) := by decide +kernel
theorem dX6_beginsWith_30 : decode cX6_beginsWith 30 = .ok (.iconst 1, 1) := by decide +kernel
theorem dX6_beginsWith_31 : decode cX6_beginsWith 31 = .ok (.goto 4, 3) := by decide +kernel
theorem dX6_beginsWith_34 : decode cX6_beginsWith 34 = .ok (.iconst 0, 1) := by decide +kernel
theorem dX6_beginsWith_35 : decode cX6_beginsWith 35 = .ok (.ireturn, 1) := by decide +kernel
theorem dX6_newHolder_0 : decode cX6_newHolder 0 = .ok (.aload_n 0, 1) := by decide +kernel
theorem dX6_newHolder_1 : decode cX6_newHolder 1 = .ok (.dup, 1) := by decide +kernel
theorem dX6_newHolder_2 : decode cX6_newHolder 2 = .ok (.getfield 46, 3) := by decide +kernel
theorem dX6_newHolder_5 : decode cX6_newHolder 5 = .ok (.iconst 1, 1) := by decide +kernel
theorem dX6_newHolder_6 : decode cX6_newHolder 6 = .ok (.iadd, 1) := by decide +kernel
theorem dX6_newHolder_7 : decode cX6_newHolder 7 = .ok (.putfield 46, 3) := by decide +kernel
theorem dX6_newHolder_10 : decode cX6_newHolder 10 = .ok (.new 93, 3) := by decide +kernel
theorem dX6_newHolder_13 : decode cX6_newHolder 13 = .ok (.dup, 1) := by decide +kernel
theorem dX6_newHolder_14 : decode cX6_newHolder 14 = .ok (.iload_n 1, 1) := by decide +kernel
theorem dX6_newHolder_15 : decode cX6_newHolder 15 = .ok (.aload_n 0, 1) := by decide +kernel
theorem dX6_newHolder_16 : decode cX6_newHolder 16 = .ok (.getfield 46, 3) := by decide +kernel
theorem dX6_newHolder_19 : decode cX6_newHolder 19 = .ok (.invokespecial 312, 3) := by decide +kernel
theorem dX6_newHolder_22 : decode cX6_newHolder 22 = .ok (.areturn, 1) := by decide +kernel
theorem dX6_enter_0 : decode cX6_enter 0 = .ok (.aload_n 0, 1) := by decide +kernel
theorem dX6_enter_1 : decode cX6_enter 1 = .ok (.getfield 42, 3) := by decide +kernel
theorem dX6_enter_4 : decode cX6_enter 4 = .ok (.istore 5, 2) := by decide +kernel
theorem dX6_enter_6 : decode cX6_enter 6 = .ok (.aload_n 0, 1) := by decide +kernel
theorem dX6_enter_7 : decode cX6_enter 7 = .ok (.getfield 49, 3) := by decide +kernel
theorem dX6_enter_10 : decode cX6_enter 10 = .ok (.iload_n 3, 1) := by decide +kernel
theorem dX6_enter_11 : decode cX6_enter 11 = .ok (.iadd, 1) := by decide +kernel
theorem dX6_enter_12 : decode cX6_enter 12 = .ok (.iconst 1, 1) := by decide +kernel
theorem dX6_enter_13 : decode cX6_enter 13 = .ok (.isub, 1) := by decide +kernel
theorem dX6_enter_14 : decode cX6_enter 14 = .ok (.istore 6, 2) := by decide +kernel
theorem dX6_enter_16 : decode cX6_enter 16 = .ok (.new 9, 3) := by decide +kernel
theorem dX6_enter_19 : decode cX6_enter 19 = .ok (.dup, 1) := by decide +kernel
theorem dX6_enter_20 : decode cX6_enter 20 = .ok (.iload 5, 2) := by decide +kernel
theorem dX6_enter_22 : decode cX6_enter 22 = .ok (.aload_n 1, 1) := by decide +kernel
theorem dX6_enter_23 : decode cX6_enter 23 = .ok (.aload_n 2, 1) := by decide +kernel
theorem dX6_enter_24 : decode cX6_enter 24 = .ok (.aload_n 0, 1) := by decide +kernel
theorem dX6_enter_25 : decode cX6_enter 25 = .ok (.getfield 49, 3) := by decide +kernel
theorem dX6_enter_28 : decode cX6_enter 28 = .ok (.iload 6, 2) := by decide +kernel
theorem dX6_enter_30 : decode cX6_enter 30 = .ok (.iload 4, 2) := by decide +kernel
theorem dX6_enter_32 : decode cX6_enter 32 = .ok (.invokespecial 315, 3) := by decide +kernel
theorem dX6_enter_35 : decode cX6_enter 35 = .ok (.astore 7, 2) := by decide +kernel
theorem dX6_enter_37 : decode cX6_enter 37 = .ok (.iload 5, 2) := by decide +kernel
theorem dX6_enter_39 : decode cX6_enter 39 = .ok (.ifCond .lt 47, 3) := by decide +kernel
theorem dX6_enter_42 : decode cX6_enter 42 = .ok (.iload 5, 2) := by decide +kernel
theorem dX6_enter_44 : decode cX6_enter 44 = .ok (.aload_n 0, 1) := by decide +kernel
theorem dX6_enter_45 : decode cX6_enter 45 = .ok (.getfield 11, 3) := by decide +kernel
theorem dX6_enter_48 : decode cX6_enter 48 = .ok (.arraylength, 1) := by decide +kernel
theorem dX6_enter_49 : decode cX6_enter 49 = .ok (.if_icmp .ge 37, 3) := by decide +kernel
theorem dX6_enter_52 : decode cX6_enter 52 = .ok (.aload_n 0, 1) := by decide +kernel
theorem dX6_enter_53 : decode cX6_enter 53 = .ok (.getfield 11, 3) := by decide +kernel
theorem dX6_enter_56 : decode cX6_enter 56 = .ok (.iload 5, 2) := by decide +kernel
theorem dX6_enter_58 : decode cX6_enter 58 = .ok (.aload 7, 2) := by decide +kernel
theorem dX6_enter_60 : decode cX6_enter 60 = .ok (.aastore, 1) := by decide +kernel
theorem dX6_enter_61 : decode cX6_enter 61 = .ok (.aload_n 0, 1) := by decide +kernel
theorem dX6_enter_62 : decode cX6_enter 62 = .ok (.dup, 1) := by decide +kernel
theorem dX6_enter_63 : decode cX6_enter 63 = .ok (.getfield 42, 3) := by decide +kernel
theorem dX6_enter_66 : decode cX6_enter 66 = .ok (.iconst 1, 1) := by decide +kernel
theorem dX6_enter_67 : decode cX6_enter 67 = .ok (.iadd, 1) := by decide +kernel
theorem dX6_enter_68 : decode cX6_enter 68 = .ok (.putfield 42, 3) := by decide +kernel
theorem dX6_enter_71 : decode cX6_enter 71 = .ok (.aload_n 1, 1) := by decide +kernel
theorem dX6_enter_72 : decode cX6_enter 72 = .ok (.aload 7, 2) := by decide +kernel
theorem dX6_enter_74 : decode cX6_enter 74 = .ok (.invokevirtual 318, 3) := by decide +kernel
theorem dX6_enter_77 : decode cX6_enter 77 = .ok (.aload_n 0, 1) := by decide +kernel
theorem dX6_enter_78 : decode cX6_enter 78 = .ok (.getfield 25, 3) := by decide +kernel
theorem dX6_enter_81 : decode cX6_enter 81 = .ok (.aload 7, 2) := by decide +kernel
theorem dX6_enter_83 : decode cX6_enter 83 = .ok (.invokevirtual 321, 3) := by decide +kernel
theorem dX6_enter_86 : decode cX6_enter 86 = .ok (.iload 5, 2) := by decide +kernel
theorem dX6_enter_88 : decode cX6_enter 88 = .ok (.ireturn, 1) := by decide +kernel
theorem dX6_hasIssued_0 : decode cX6_hasIssued 0 = .ok (.aload_n 0, 1) := by decide +kernel
theorem dX6_hasIssued_1 : decode cX6_hasIssued 1 = .ok (.getfield 11, 3) := by decide +kernel
theorem dX6_hasIssued_4 : decode cX6_hasIssued 4 = .ok (.astore_n 2, 1) := by decide +kernel
theorem dX6_hasIssued_5 : decode cX6_hasIssued 5 = .ok (.aload_n 2, 1) := by decide +kernel
theorem dX6_hasIssued_6 : decode cX6_hasIssued 6 = .ok (.arraylength, 1) := by decide +kernel
theorem dX6_hasIssued_7 : decode cX6_hasIssued 7 = .ok (.istore_n 3, 1) := by decide +kernel
theorem dX6_hasIssued_8 : decode cX6_hasIssued 8 = .ok (.iconst 0, 1) := by decide +kernel
theorem dX6_hasIssued_9 : decode cX6_hasIssued 9 = .ok (.istore 4, 2) := by decide +kernel
theorem dX6_hasIssued_11 : decode cX6_hasIssued 11 = .ok (.iload 4, 2) := by decide +kernel
theorem dX6_hasIssued_13 : decode cX6_hasIssued 13 = .ok (.iload_n 3, 1) := by decide +kernel
theorem dX6_hasIssued_14 : decode cX6_hasIssued 14 = .ok (.if_icmp .ge 39, 3) := by decide +kernel
theorem dX6_hasIssued_17 : decode cX6_hasIssued 17 = .ok (.aload_n 2, 1) := by decide +kernel
theorem dX6_hasIssued_18 : decode cX6_hasIssued 18 = .ok (.iload 4, 2) := by decide +kernel
theorem dX6_hasIssued_20 : decode cX6_hasIssued 20 = .ok (.aaload, 1) := by decide +kernel
theorem dX6_hasIssued_21 : decode cX6_hasIssued 21 = .ok (.astore 5, 2) := by decide +kernel
theorem dX6_hasIssued_23 : decode cX6_hasIssued 23 = .ok (.aload 5, 2) := by decide +kernel
theorem dX6_hasIssued_25 : decode cX6_hasIssued 25 = .ok (.ifnull 22, 3) := by decide +kernel
theorem dX6_hasIssued_28 : decode cX6_hasIssued 28 = .ok (.aload 5, 2) := by decide +kernel
theorem dX6_hasIssued_30 : decode cX6_hasIssued 30 = .ok (.getfield 135, 3) := by decide +kernel
theorem dX6_hasIssued_33 : decode cX6_hasIssued 33 = .ok (.aload_n 1, 1) := by decide +kernel
theorem dX6_hasIssued_34 : decode cX6_hasIssued 34 = .ok (.if_acmp .ne 13, 3) := by decide +kernel
theorem dX6_hasIssued_37 : decode cX6_hasIssued 37 = .ok (.aload 5, 2) := by decide +kernel
theorem dX6_hasIssued_39 : decode cX6_hasIssued 39 = .ok (.invokevirtual 115, 3) := by decide +kernel
theorem dX6_hasIssued_42 : decode cX6_hasIssued 42 = .ok (.ifCond .ne 5, 3) := by decide +kernel
theorem dX6_hasIssued_45 : decode cX6_hasIssued 45 = .ok (.iconst 1, 1) := by decide +kernel
theorem dX6_hasIssued_46 : decode cX6_hasIssued 46 = .ok (.ireturn, 1) := by decide +kernel
theorem dX6_hasIssued_47 : decode cX6_hasIssued 47 = .ok (.iinc 4 1, 3) := by decide +kernel
theorem dX6_hasIssued_50 : decode cX6_hasIssued 50 = .ok (.goto (-39), 3) := by decide +kernel
theorem dX6_hasIssued_53 : decode cX6_hasIssued 53 = .ok (.iconst 0, 1) := by decide +kernel
theorem dX6_hasIssued_54 : decode cX6_hasIssued 54 = .ok (.ireturn, 1) := by decide +kernel
theorem dX6_trustedRoots_0 : decode cX6_trustedRoots 0 = .ok (.iconst 0, 1) := by decide +kernel
theorem dX6_trustedRoots_1 : decode cX6_trustedRoots 1 = .ok (.istore_n 1, 1) := by decide +kernel
theorem dX6_trustedRoots_2 : decode cX6_trustedRoots 2 = .ok (.aload_n 0, 1) := by decide +kernel
theorem dX6_trustedRoots_3 : decode cX6_trustedRoots 3 = .ok (.getfield 11, 3) := by decide +kernel
theorem dX6_trustedRoots_6 : decode cX6_trustedRoots 6 = .ok (.astore_n 2, 1) := by decide +kernel
theorem dX6_trustedRoots_7 : decode cX6_trustedRoots 7 = .ok (.aload_n 2, 1) := by decide +kernel
theorem dX6_trustedRoots_8 : decode cX6_trustedRoots 8 = .ok (.arraylength, 1) := by decide +kernel
theorem dX6_trustedRoots_9 : decode cX6_trustedRoots 9 = .ok (.istore_n 3, 1) := by decide +kernel
theorem dX6_trustedRoots_10 : decode cX6_trustedRoots 10 = .ok (.iconst 0, 1) := by decide +kernel
theorem dX6_trustedRoots_11 : decode cX6_trustedRoots 11 = .ok (.istore 4, 2) := by decide +kernel
theorem dX6_trustedRoots_13 : decode cX6_trustedRoots 13 = .ok (.iload 4, 2) := by decide +kernel
theorem dX6_trustedRoots_15 : decode cX6_trustedRoots 15 = .ok (.iload_n 3, 1) := by decide +kernel
theorem dX6_trustedRoots_16 : decode cX6_trustedRoots 16 = .ok (.if_icmp .ge 31, 3) := by decide +kernel
theorem dX6_trustedRoots_19 : decode cX6_trustedRoots 19 = .ok (.aload_n 2, 1) := by decide +kernel
theorem dX6_trustedRoots_20 : decode cX6_trustedRoots 20 = .ok (.iload 4, 2) := by decide +kernel
theorem dX6_trustedRoots_22 : decode cX6_trustedRoots 22 = .ok (.aaload, 1) := by decide +kernel
theorem dX6_trustedRoots_23 : decode cX6_trustedRoots 23 = .ok (.astore 5, 2) := by decide +kernel
theorem dX6_trustedRoots_25 : decode cX6_trustedRoots 25 = .ok (.aload 5, 2) := by decide +kernel
theorem dX6_trustedRoots_27 : decode cX6_trustedRoots 27 = .ok (.ifnull 14, 3) := by decide +kernel
theorem dX6_trustedRoots_30 : decode cX6_trustedRoots 30 = .ok (.aload 5, 2) := by decide +kernel
theorem dX6_trustedRoots_32 : decode cX6_trustedRoots 32 = .ok (.getfield 120, 3) := by decide +kernel
theorem dX6_trustedRoots_35 : decode cX6_trustedRoots 35 = .ok (.ifCond .eq 6, 3) := by decide +kernel
theorem dX6_trustedRoots_38 : decode cX6_trustedRoots 38 = .ok (.iinc 1 1, 3) := by decide +kernel
theorem dX6_trustedRoots_41 : decode cX6_trustedRoots 41 = .ok (.iinc 4 1, 3) := by decide +kernel
theorem dX6_trustedRoots_44 : decode cX6_trustedRoots 44 = .ok (.goto (-31), 3) := by decide +kernel
theorem dX6_trustedRoots_47 : decode cX6_trustedRoots 47 = .ok (.iload_n 1, 1) := by decide +kernel
theorem dX6_trustedRoots_48 : decode cX6_trustedRoots 48 = .ok (.ireturn, 1) := by decide +kernel
theorem dX6_pendingOf_0 : decode cX6_pendingOf 0 = .ok (.iconst 0, 1) := by decide +kernel
theorem dX6_pendingOf_1 : decode cX6_pendingOf 1 = .ok (.istore_n 2, 1) := by decide +kernel
theorem dX6_pendingOf_2 : decode cX6_pendingOf 2 = .ok (.aload_n 0, 1) := by decide +kernel
theorem dX6_pendingOf_3 : decode cX6_pendingOf 3 = .ok (.getfield 11, 3) := by decide +kernel
theorem dX6_pendingOf_6 : decode cX6_pendingOf 6 = .ok (.astore_n 3, 1) := by decide +kernel
theorem dX6_pendingOf_7 : decode cX6_pendingOf 7 = .ok (.aload_n 3, 1) := by decide +kernel
theorem dX6_pendingOf_8 : decode cX6_pendingOf 8 = .ok (.arraylength, 1) := by decide +kernel
theorem dX6_pendingOf_9 : decode cX6_pendingOf 9 = .ok (.istore 4, 2) := by decide +kernel
theorem dX6_pendingOf_11 : decode cX6_pendingOf 11 = .ok (.iconst 0, 1) := by decide +kernel
theorem dX6_pendingOf_12 : decode cX6_pendingOf 12 = .ok (.istore 5, 2) := by decide +kernel
theorem dX6_pendingOf_14 : decode cX6_pendingOf 14 = .ok (.iload 5, 2) := by decide +kernel
theorem dX6_pendingOf_16 : decode cX6_pendingOf 16 = .ok (.iload 4, 2) := by decide +kernel
theorem dX6_pendingOf_18 : decode cX6_pendingOf 18 = .ok (.if_icmp .ge 49, 3) := by decide +kernel
theorem dX6_pendingOf_21 : decode cX6_pendingOf 21 = .ok (.aload_n 3, 1) := by decide +kernel
theorem dX6_pendingOf_22 : decode cX6_pendingOf 22 = .ok (.iload 5, 2) := by decide +kernel
theorem dX6_pendingOf_24 : decode cX6_pendingOf 24 = .ok (.aaload, 1) := by decide +kernel
theorem dX6_pendingOf_25 : decode cX6_pendingOf 25 = .ok (.astore 6, 2) := by decide +kernel
theorem dX6_pendingOf_27 : decode cX6_pendingOf 27 = .ok (.aload 6, 2) := by decide +kernel
theorem dX6_pendingOf_29 : decode cX6_pendingOf 29 = .ok (.ifnull 32, 3) := by decide +kernel
theorem dX6_pendingOf_32 : decode cX6_pendingOf 32 = .ok (.aload 6, 2) := by decide +kernel
theorem dX6_pendingOf_34 : decode cX6_pendingOf 34 = .ok (.getfield 135, 3) := by decide +kernel
theorem dX6_pendingOf_37 : decode cX6_pendingOf 37 = .ok (.aload_n 1, 1) := by decide +kernel
theorem dX6_pendingOf_38 : decode cX6_pendingOf 38 = .ok (.if_acmp .ne 23, 3) := by decide +kernel
theorem dX6_pendingOf_41 : decode cX6_pendingOf 41 = .ok (.aload 6, 2) := by decide +kernel
theorem dX6_pendingOf_43 : decode cX6_pendingOf 43 = .ok (.getfield 130, 3) := by decide +kernel
theorem dX6_pendingOf_46 : decode cX6_pendingOf 46 = .ok (.ifCond .eq 15, 3) := by decide +kernel
theorem dX6_pendingOf_49 : decode cX6_pendingOf 49 = .ok (.aload 6, 2) := by decide +kernel
theorem dX6_pendingOf_51 : decode cX6_pendingOf 51 = .ok (.getfield 271, 3) := by decide +kernel
theorem dX6_pendingOf_54 : decode cX6_pendingOf 54 = .ok (.iconst (-1), 1) := by decide +kernel
theorem dX6_pendingOf_55 : decode cX6_pendingOf 55 = .ok (.if_icmp .ne 6, 3) := by decide +kernel
theorem dX6_pendingOf_58 : decode cX6_pendingOf 58 = .ok (.iinc 2 1, 3) := by decide +kernel
theorem dX6_pendingOf_61 : decode cX6_pendingOf 61 = .ok (.iinc 5 1, 3) := by decide +kernel
theorem dX6_pendingOf_64 : decode cX6_pendingOf 64 = .ok (.goto (-50), 3) := by decide +kernel
theorem dX6_pendingOf_67 : decode cX6_pendingOf 67 = .ok (.iload_n 2, 1) := by decide +kernel
theorem dX6_pendingOf_68 : decode cX6_pendingOf 68 = .ok (.ireturn, 1) := by decide +kernel
theorem dX6_takeEffect_0 : decode cX6_takeEffect 0 = .ok (.lconst 0, 1) := by decide +kernel
theorem dX6_takeEffect_1 : decode cX6_takeEffect 1 = .ok (.lstore_n 2, 1) := by decide +kernel
theorem dX6_takeEffect_2 : decode cX6_takeEffect 2 = .ok (.aload_n 0, 1) := by decide +kernel
theorem dX6_takeEffect_3 : decode cX6_takeEffect 3 = .ok (.getfield 11, 3) := by decide +kernel
theorem dX6_takeEffect_6 : decode cX6_takeEffect 6 = .ok (.astore 4, 2) := by decide +kernel
theorem dX6_takeEffect_8 : decode cX6_takeEffect 8 = .ok (.aload 4, 2) := by decide +kernel
theorem dX6_takeEffect_10 : decode cX6_takeEffect 10 = .ok (.arraylength, 1) := by decide +kernel
theorem dX6_takeEffect_11 : decode cX6_takeEffect 11 = .ok (.istore 5, 2) := by decide +kernel
theorem dX6_takeEffect_13 : decode cX6_takeEffect 13 = .ok (.iconst 0, 1) := by decide +kernel
theorem dX6_takeEffect_14 : decode cX6_takeEffect 14 = .ok (.istore 6, 2) := by decide +kernel
theorem dX6_takeEffect_16 : decode cX6_takeEffect 16 = .ok (.iload 6, 2) := by decide +kernel
theorem dX6_takeEffect_18 : decode cX6_takeEffect 18 = .ok (.iload 5, 2) := by decide +kernel
theorem dX6_takeEffect_20 : decode cX6_takeEffect 20 = .ok (.if_icmp .ge 67, 3) := by decide +kernel
theorem dX6_takeEffect_23 : decode cX6_takeEffect 23 = .ok (.aload 4, 2) := by decide +kernel
theorem dX6_takeEffect_25 : decode cX6_takeEffect 25 = .ok (.iload 6, 2) := by decide +kernel
theorem dX6_takeEffect_27 : decode cX6_takeEffect 27 = .ok (.aaload, 1) := by decide +kernel
theorem dX6_takeEffect_28 : decode cX6_takeEffect 28 = .ok (.astore 7, 2) := by decide +kernel
theorem dX6_takeEffect_30 : decode cX6_takeEffect 30 = .ok (.aload 7, 2) := by decide +kernel
theorem dX6_takeEffect_32 : decode cX6_takeEffect 32 = .ok (.ifnull 49, 3) := by decide +kernel
theorem dX6_takeEffect_35 : decode cX6_takeEffect 35 = .ok (.aload 7, 2) := by decide +kernel
theorem dX6_takeEffect_37 : decode cX6_takeEffect 37 = .ok (.getfield 135, 3) := by decide +kernel
theorem dX6_takeEffect_40 : decode cX6_takeEffect 40 = .ok (.aload_n 1, 1) := by decide +kernel
theorem dX6_takeEffect_41 : decode cX6_takeEffect 41 = .ok (.if_acmp .ne 40, 3) := by decide +kernel
theorem dX6_takeEffect_44 : decode cX6_takeEffect 44 = .ok (.aload 7, 2) := by decide +kernel
theorem dX6_takeEffect_46 : decode cX6_takeEffect 46 = .ok (.getfield 130, 3) := by decide +kernel
theorem dX6_takeEffect_49 : decode cX6_takeEffect 49 = .ok (.ifCond .eq 32, 3) := by decide +kernel
theorem dX6_takeEffect_52 : decode cX6_takeEffect 52 = .ok (.lload_n 2, 1) := by decide +kernel
theorem dX6_takeEffect_53 : decode cX6_takeEffect 53 = .ok (.aload 7, 2) := by decide +kernel
theorem dX6_takeEffect_55 : decode cX6_takeEffect 55 = .ok (.getfield 173, 3) := by decide +kernel
theorem dX6_takeEffect_58 : decode cX6_takeEffect 58 = .ok (.invokestatic 324, 3) := by decide +kernel
theorem dX6_takeEffect_61 : decode cX6_takeEffect 61 = .ok (.lor, 1) := by decide +kernel
theorem dX6_takeEffect_62 : decode cX6_takeEffect 62 = .ok (.lstore_n 2, 1) := by decide +kernel
theorem dX6_takeEffect_63 : decode cX6_takeEffect 63 = .ok (.aload 7, 2) := by decide +kernel
theorem dX6_takeEffect_65 : decode cX6_takeEffect 65 = .ok (.getfield 271, 3) := by decide +kernel
theorem dX6_takeEffect_68 : decode cX6_takeEffect 68 = .ok (.iconst (-1), 1) := by decide +kernel
theorem dX6_takeEffect_69 : decode cX6_takeEffect 69 = .ok (.if_icmp .ne 12, 3) := by decide +kernel
theorem dX6_takeEffect_72 : decode cX6_takeEffect 72 = .ok (.aload 7, 2) := by decide +kernel
theorem dX6_takeEffect_74 : decode cX6_takeEffect 74 = .ok (.aload_n 0, 1) := by decide +kernel
theorem dX6_takeEffect_75 : decode cX6_takeEffect 75 = .ok (.getfield 49, 3) := by decide +kernel
theorem dX6_takeEffect_78 : decode cX6_takeEffect 78 = .ok (.putfield 271, 3) := by decide +kernel
theorem dX6_takeEffect_81 : decode cX6_takeEffect 81 = .ok (.iinc 6 1, 3) := by decide +kernel
theorem dX6_takeEffect_84 : decode cX6_takeEffect 84 = .ok (.goto (-68), 3) := by decide +kernel
theorem dX6_takeEffect_87 : decode cX6_takeEffect 87 = .ok (.lload_n 2, 1) := by decide +kernel
theorem dX6_takeEffect_88 : decode cX6_takeEffect 88 = .ok (.lreturn, 1) := by decide +kernel
theorem dX6_bitOf_0 : decode cX6_bitOf 0 = .ok (.lconst 1, 1) := by decide +kernel
theorem dX6_bitOf_1 : decode cX6_bitOf 1 = .ok (.iload_n 0, 1) := by decide +kernel
theorem dX6_bitOf_2 : decode cX6_bitOf 2 = .ok (.lshl, 1) := by decide +kernel
theorem dX6_bitOf_3 : decode cX6_bitOf 3 = .ok (.lreturn, 1) := by decide +kernel
theorem dX6_sizeOfBest_0 : decode cX6_sizeOfBest 0 = .ok (.aload_n 0, 1) := by decide +kernel
theorem dX6_sizeOfBest_1 : decode cX6_sizeOfBest 1 = .ok (.getfield 39, 3) := by decide +kernel
theorem dX6_sizeOfBest_4 : decode cX6_sizeOfBest 4 = .ok (.invokevirtual 327, 3) := by decide +kernel
theorem dX6_sizeOfBest_7 : decode cX6_sizeOfBest 7 = .ok (.aload_n 1, 1) := by decide +kernel
theorem dX6_sizeOfBest_8 : decode cX6_sizeOfBest 8 = .ok (.iload_n 2, 1) := by decide +kernel
theorem dX6_sizeOfBest_9 : decode cX6_sizeOfBest 9 = .ok (.invokevirtual 206, 3) := by decide +kernel
theorem dX6_sizeOfBest_12 : decode cX6_sizeOfBest 12 = .ok (.bipush 111, 2) := by decide +kernel
theorem dX6_sizeOfBest_14 : decode cX6_sizeOfBest 14 = .ok (.if_icmp .ne 23, 3) := by decide +kernel
theorem dX6_sizeOfBest_17 : decode cX6_sizeOfBest 17 = .ok (.aload_n 0, 1) := by decide +kernel
theorem dX6_sizeOfBest_18 : decode cX6_sizeOfBest 18 = .ok (.getfield 36, 3) := by decide +kernel
theorem dX6_sizeOfBest_21 : decode cX6_sizeOfBest 21 = .ok (.aload_n 1, 1) := by decide +kernel
theorem dX6_sizeOfBest_22 : decode cX6_sizeOfBest 22 = .ok (.iload_n 2, 1) := by decide +kernel
theorem dX6_sizeOfBest_23 : decode cX6_sizeOfBest 23 = .ok (.invokevirtual 198, 3) := by decide +kernel
theorem dX6_sizeOfBest_26 : decode cX6_sizeOfBest 26 = .ok (.aload_n 0, 1) := by decide +kernel
theorem dX6_sizeOfBest_27 : decode cX6_sizeOfBest 27 = .ok (.getfield 36, 3) := by decide +kernel
theorem dX6_sizeOfBest_30 : decode cX6_sizeOfBest 30 = .ok (.aload_n 0, 1) := by decide +kernel
theorem dX6_sizeOfBest_31 : decode cX6_sizeOfBest 31 = .ok (.getfield 39, 3) := by decide +kernel
theorem dX6_sizeOfBest_34 : decode cX6_sizeOfBest 34 = .ok (.invokestatic 330, 3) := by decide +kernel
theorem dX6_sizeOfBest_37 : decode cX6_sizeOfBest 37 = .ok (.aload_n 0, 1) := by decide +kernel
theorem dX6_sizeOfBest_38 : decode cX6_sizeOfBest 38 = .ok (.getfield 39, 3) := by decide +kernel
theorem dX6_sizeOfBest_41 : decode cX6_sizeOfBest 41 = .ok (.getfield 225, 3) := by decide +kernel
theorem dX6_sizeOfBest_44 : decode cX6_sizeOfBest 44 = .ok (.ireturn, 1) := by decide +kernel
theorem dX6_findBest_0 : decode cX6_findBest 0 = .ok (.aload_n 0, 1) := by decide +kernel
theorem dX6_findBest_1 : decode cX6_findBest 1 = .ok (.invokevirtual 286, 3) := by decide +kernel
theorem dX6_findBest_4 : decode cX6_findBest 4 = .ok (.astore_n 2, 1) := by decide +kernel
theorem dX6_findBest_5 : decode cX6_findBest 5 = .ok (.aload_n 2, 1) := by decide +kernel
theorem dX6_findBest_6 : decode cX6_findBest 6 = .ok (.ifnull 21, 3) := by decide +kernel
theorem dX6_findBest_9 : decode cX6_findBest 9 = .ok (.aload_n 1, 1) := by decide +kernel
theorem dX6_findBest_10 : decode cX6_findBest 10 = .ok (.getfield 225, 3) := by decide +kernel
theorem dX6_findBest_13 : decode cX6_findBest 13 = .ok (.ifCond .le 15, 3) := by decide +kernel
theorem dX6_findBest_16 : decode cX6_findBest 16 = .ok (.aload_n 0, 1) := by decide +kernel
theorem dX6_findBest_17 : decode cX6_findBest 17 = .ok (.getfield 225, 3) := by decide +kernel
theorem dX6_findBest_20 : decode cX6_findBest 20 = .ok (.aload_n 1, 1) := by decide +kernel
theorem dX6_findBest_21 : decode cX6_findBest 21 = .ok (.getfield 225, 3) := by decide +kernel
theorem dX6_findBest_24 : decode cX6_findBest 24 = .ok (.if_icmp .lt 4, 3) := by decide +kernel
theorem dX6_findBest_27 : decode cX6_findBest 27 = .ok (.return_, 1) := by decide +kernel
theorem dX6_findBest_28 : decode cX6_findBest 28 = .ok (.aload_n 0, 1) := by decide +kernel
theorem dX6_findBest_29 : decode cX6_findBest 29 = .ok (.invokevirtual 228, 3) := by decide +kernel
theorem dX6_findBest_32 : decode cX6_findBest 32 = .ok (.ifCond .eq 9, 3) := by decide +kernel
theorem dX6_findBest_35 : decode cX6_findBest 35 = .ok (.aload_n 1, 1) := by decide +kernel
theorem dX6_findBest_36 : decode cX6_findBest 36 = .ok (.aload_n 0, 1) := by decide +kernel
theorem dX6_findBest_37 : decode cX6_findBest 37 = .ok (.invokevirtual 334, 3) := by decide +kernel
theorem dX6_findBest_40 : decode cX6_findBest 40 = .ok (.return_, 1) := by decide +kernel
theorem dX6_findBest_41 : decode cX6_findBest 41 = .ok (.iconst 0, 1) := by decide +kernel
theorem dX6_findBest_42 : decode cX6_findBest 42 = .ok (.istore_n 3, 1) := by decide +kernel
theorem dX6_findBest_43 : decode cX6_findBest 43 = .ok (.iload_n 3, 1) := by decide +kernel
theorem dX6_findBest_44 : decode cX6_findBest 44 = .ok (.iconst 3, 1) := by decide +kernel
theorem dX6_findBest_45 : decode cX6_findBest 45 = .ok (.if_icmp .ge 50, 3) := by decide +kernel
theorem dX6_findBest_48 : decode cX6_findBest 48 = .ok (.aload_n 2, 1) := by decide +kernel
theorem dX6_findBest_49 : decode cX6_findBest 49 = .ok (.iload_n 3, 1) := by decide +kernel
theorem dX6_findBest_50 : decode cX6_findBest 50 = .ok (.invokevirtual 281, 3) := by decide +kernel
theorem dX6_findBest_53 : decode cX6_findBest 53 = .ok (.astore 4, 2) := by decide +kernel
theorem dX6_findBest_55 : decode cX6_findBest 55 = .ok (.aload 4, 2) := by decide +kernel
theorem dX6_findBest_57 : decode cX6_findBest 57 = .ok (.ifnull 32, 3) := by decide +kernel
theorem dX6_findBest_60 : decode cX6_findBest 60 = .ok (.aload_n 0, 1) := by decide +kernel
theorem dX6_findBest_61 : decode cX6_findBest 61 = .ok (.aload 4, 2) := by decide +kernel
theorem dX6_findBest_63 : decode cX6_findBest 63 = .ok (.invokevirtual 217, 3) := by decide +kernel
theorem dX6_findBest_66 : decode cX6_findBest 66 = .ok (.bipush 111, 2) := by decide +kernel
theorem dX6_findBest_68 : decode cX6_findBest 68 = .ok (.if_icmp .ne 21, 3) := by decide +kernel
theorem dX6_findBest_71 : decode cX6_findBest 71 = .ok (.aload_n 0, 1) := by decide +kernel
theorem dX6_findBest_72 : decode cX6_findBest 72 = .ok (.aload 4, 2) := by decide +kernel
theorem dX6_findBest_74 : decode cX6_findBest 74 = .ok (.invokevirtual 221, 3) := by decide +kernel
theorem dX6_findBest_77 : decode cX6_findBest 77 = .ok (.ifCond .eq 12, 3) := by decide +kernel
theorem dX6_findBest_80 : decode cX6_findBest 80 = .ok (.aload_n 0, 1) := by decide +kernel
theorem dX6_findBest_81 : decode cX6_findBest 81 = .ok (.aload_n 1, 1) := by decide +kernel
theorem dX6_findBest_82 : decode cX6_findBest 82 = .ok (.invokestatic 330, 3) := by decide +kernel
theorem dX6_findBest_85 : decode cX6_findBest 85 = .ok (.aload_n 0, 1) := by decide +kernel
theorem dX6_findBest_86 : decode cX6_findBest 86 = .ok (.invokevirtual 338, 3) := by decide +kernel
theorem dX6_findBest_89 : decode cX6_findBest 89 = .ok (.iinc 3 1, 3) := by decide +kernel
theorem dX6_findBest_92 : decode cX6_findBest 92 = .ok (.goto (-49), 3) := by decide +kernel
theorem dX6_findBest_95 : decode cX6_findBest 95 = .ok (.return_, 1) := by decide +kernel
theorem dX6_countLengthened_0 : decode cX6_countLengthened 0 = .ok (.aload_n 0, 1) := by decide +kernel
theorem dX6_countLengthened_1 : decode cX6_countLengthened 1 = .ok (.invokevirtual 286, 3) := by decide +kernel
theorem dX6_countLengthened_4 : decode cX6_countLengthened 4 = .ok (.astore_n 1, 1) := by decide +kernel
theorem dX6_countLengthened_5 : decode cX6_countLengthened 5 = .ok (.aload_n 1, 1) := by decide +kernel
theorem dX6_countLengthened_6 : decode cX6_countLengthened 6 = .ok (.ifnonnull 5, 3) := by decide +kernel
theorem dX6_countLengthened_9 : decode cX6_countLengthened 9 = .ok (.iconst 0, 1) := by decide +kernel
theorem dX6_countLengthened_10 : decode cX6_countLengthened 10 = .ok (.ireturn, 1) := by decide +kernel
theorem dX6_countLengthened_11 : decode cX6_countLengthened 11 = .ok (.aload_n 0, 1) := by decide +kernel
theorem dX6_countLengthened_12 : decode cX6_countLengthened 12 = .ok (.invokevirtual 228, 3) := by decide +kernel
theorem dX6_countLengthened_15 : decode cX6_countLengthened 15 = .ok (.ifCond .eq 7, 3) := by decide +kernel
theorem dX6_countLengthened_18 : decode cX6_countLengthened 18 = .ok (.iconst 1, 1) := by decide +kernel
theorem dX6_countLengthened_19 : decode cX6_countLengthened 19 = .ok (.goto 4, 3) := by decide +kernel
theorem dX6_countLengthened_22 : decode cX6_countLengthened 22 = .ok (.iconst 0, 1) := by decide +kernel
theorem dX6_countLengthened_23 : decode cX6_countLengthened 23 = .ok (.istore_n 2, 1) := by decide +kernel
theorem dX6_countLengthened_24 : decode cX6_countLengthened 24 = .ok (.iconst 0, 1) := by decide +kernel
theorem dX6_countLengthened_25 : decode cX6_countLengthened 25 = .ok (.istore_n 3, 1) := by decide +kernel
theorem dX6_countLengthened_26 : decode cX6_countLengthened 26 = .ok (.iload_n 3, 1) := by decide +kernel
theorem dX6_countLengthened_27 : decode cX6_countLengthened 27 = .ok (.iconst 3, 1) := by decide +kernel
theorem dX6_countLengthened_28 : decode cX6_countLengthened 28 = .ok (.if_icmp .ge 52, 3) := by decide +kernel
theorem dX6_countLengthened_31 : decode cX6_countLengthened 31 = .ok (.aload_n 1, 1) := by decide +kernel
theorem dX6_countLengthened_32 : decode cX6_countLengthened 32 = .ok (.iload_n 3, 1) := by decide +kernel
theorem dX6_countLengthened_33 : decode cX6_countLengthened 33 = .ok (.invokevirtual 281, 3) := by decide +kernel
theorem dX6_countLengthened_36 : decode cX6_countLengthened 36 = .ok (.astore 4, 2) := by decide +kernel
theorem dX6_countLengthened_38 : decode cX6_countLengthened 38 = .ok (.aload 4, 2) := by decide +kernel
theorem dX6_countLengthened_40 : decode cX6_countLengthened 40 = .ok (.ifnull 34, 3) := by decide +kernel
theorem dX6_countLengthened_43 : decode cX6_countLengthened 43 = .ok (.aload_n 0, 1) := by decide +kernel
theorem dX6_countLengthened_44 : decode cX6_countLengthened 44 = .ok (.aload 4, 2) := by decide +kernel
theorem dX6_countLengthened_46 : decode cX6_countLengthened 46 = .ok (.invokevirtual 217, 3) := by decide +kernel
theorem dX6_countLengthened_49 : decode cX6_countLengthened 49 = .ok (.bipush 111, 2) := by decide +kernel
theorem dX6_countLengthened_51 : decode cX6_countLengthened 51 = .ok (.if_icmp .ne 23, 3) := by decide +kernel
theorem dX6_countLengthened_54 : decode cX6_countLengthened 54 = .ok (.aload_n 0, 1) := by decide +kernel
theorem dX6_countLengthened_55 : decode cX6_countLengthened 55 = .ok (.aload 4, 2) := by decide +kernel
theorem dX6_countLengthened_57 : decode cX6_countLengthened 57 = .ok (.invokevirtual 221, 3) := by decide +kernel
theorem dX6_countLengthened_60 : decode cX6_countLengthened 60 = .ok (.ifCond .eq 14, 3) := by decide +kernel
theorem dX6_countLengthened_63 : decode cX6_countLengthened 63 = .ok (.iload_n 2, 1) := by decide +kernel
theorem dX6_countLengthened_64 : decode cX6_countLengthened 64 = .ok (.aload_n 0, 1) := by decide +kernel
theorem dX6_countLengthened_65 : decode cX6_countLengthened 65 = .ok (.invokestatic 210, 3) := by decide +kernel
theorem dX6_countLengthened_68 : decode cX6_countLengthened 68 = .ok (.iadd, 1) := by decide +kernel
theorem dX6_countLengthened_69 : decode cX6_countLengthened 69 = .ok (.istore_n 2, 1) := by decide +kernel
theorem dX6_countLengthened_70 : decode cX6_countLengthened 70 = .ok (.aload_n 0, 1) := by decide +kernel
theorem dX6_countLengthened_71 : decode cX6_countLengthened 71 = .ok (.invokevirtual 338, 3) := by decide +kernel
theorem dX6_countLengthened_74 : decode cX6_countLengthened 74 = .ok (.iinc 3 1, 3) := by decide +kernel
theorem dX6_countLengthened_77 : decode cX6_countLengthened 77 = .ok (.goto (-51), 3) := by decide +kernel
theorem dX6_countLengthened_80 : decode cX6_countLengthened 80 = .ok (.iload_n 2, 1) := by decide +kernel
theorem dX6_countLengthened_81 : decode cX6_countLengthened 81 = .ok (.ireturn, 1) := by decide +kernel
theorem dX6_countJudged_0 : decode cX6_countJudged 0 = .ok (.aload_n 0, 1) := by decide +kernel
theorem dX6_countJudged_1 : decode cX6_countJudged 1 = .ok (.invokevirtual 286, 3) := by decide +kernel
theorem dX6_countJudged_4 : decode cX6_countJudged 4 = .ok (.astore_n 1, 1) := by decide +kernel
theorem dX6_countJudged_5 : decode cX6_countJudged 5 = .ok (.aload_n 1, 1) := by decide +kernel
theorem dX6_countJudged_6 : decode cX6_countJudged 6 = .ok (.ifnonnull 5, 3) := by decide +kernel
theorem dX6_countJudged_9 : decode cX6_countJudged 9 = .ok (.iconst 0, 1) := by decide +kernel
theorem dX6_countJudged_10 : decode cX6_countJudged 10 = .ok (.ireturn, 1) := by decide +kernel
theorem dX6_countJudged_11 : decode cX6_countJudged 11 = .ok (.aload_n 0, 1) := by decide +kernel
theorem dX6_countJudged_12 : decode cX6_countJudged 12 = .ok (.invokevirtual 341, 3) := by decide +kernel
theorem dX6_countJudged_15 : decode cX6_countJudged 15 = .ok (.ifCond .eq 7, 3) := by decide +kernel
theorem dX6_countJudged_18 : decode cX6_countJudged 18 = .ok (.iconst 1, 1) := by decide +kernel
theorem dX6_countJudged_19 : decode cX6_countJudged 19 = .ok (.goto 4, 3) := by decide +kernel
theorem dX6_countJudged_22 : decode cX6_countJudged 22 = .ok (.iconst 0, 1) := by decide +kernel
theorem dX6_countJudged_23 : decode cX6_countJudged 23 = .ok (.istore_n 2, 1) := by decide +kernel
theorem dX6_countJudged_24 : decode cX6_countJudged 24 = .ok (.iconst 0, 1) := by decide +kernel
theorem dX6_countJudged_25 : decode cX6_countJudged 25 = .ok (.istore_n 3, 1) := by decide +kernel
theorem dX6_countJudged_26 : decode cX6_countJudged 26 = .ok (.iload_n 3, 1) := by decide +kernel
theorem dX6_countJudged_27 : decode cX6_countJudged 27 = .ok (.iconst 3, 1) := by decide +kernel
theorem dX6_countJudged_28 : decode cX6_countJudged 28 = .ok (.if_icmp .ge 50, 3) := by decide +kernel
theorem dX6_countJudged_31 : decode cX6_countJudged 31 = .ok (.aload_n 1, 1) := by decide +kernel
theorem dX6_countJudged_32 : decode cX6_countJudged 32 = .ok (.iload_n 3, 1) := by decide +kernel
theorem dX6_countJudged_33 : decode cX6_countJudged 33 = .ok (.invokevirtual 281, 3) := by decide +kernel
theorem dX6_countJudged_36 : decode cX6_countJudged 36 = .ok (.astore 4, 2) := by decide +kernel
theorem dX6_countJudged_38 : decode cX6_countJudged 38 = .ok (.aload 4, 2) := by decide +kernel
theorem dX6_countJudged_40 : decode cX6_countJudged 40 = .ok (.ifnull 32, 3) := by decide +kernel
theorem dX6_countJudged_43 : decode cX6_countJudged 43 = .ok (.aload_n 0, 1) := by decide +kernel
theorem dX6_countJudged_44 : decode cX6_countJudged 44 = .ok (.aload 4, 2) := by decide +kernel
theorem dX6_countJudged_46 : decode cX6_countJudged 46 = .ok (.invokevirtual 344, 3) := by decide +kernel
theorem dX6_countJudged_49 : decode cX6_countJudged 49 = .ok (.ifCond .ne 23, 3) := by decide +kernel
theorem dX6_countJudged_52 : decode cX6_countJudged 52 = .ok (.aload_n 0, 1) := by decide +kernel
theorem dX6_countJudged_53 : decode cX6_countJudged 53 = .ok (.aload 4, 2) := by decide +kernel
theorem dX6_countJudged_55 : decode cX6_countJudged 55 = .ok (.invokevirtual 221, 3) := by decide +kernel
theorem dX6_countJudged_58 : decode cX6_countJudged 58 = .ok (.ifCond .eq 14, 3) := by decide +kernel
theorem dX6_countJudged_61 : decode cX6_countJudged 61 = .ok (.iload_n 2, 1) := by decide +kernel
theorem dX6_countJudged_62 : decode cX6_countJudged 62 = .ok (.aload_n 0, 1) := by decide +kernel
theorem dX6_countJudged_63 : decode cX6_countJudged 63 = .ok (.invokestatic 202, 3) := by decide +kernel
theorem dX6_countJudged_66 : decode cX6_countJudged 66 = .ok (.iadd, 1) := by decide +kernel
theorem dX6_countJudged_67 : decode cX6_countJudged 67 = .ok (.istore_n 2, 1) := by decide +kernel
theorem dX6_countJudged_68 : decode cX6_countJudged 68 = .ok (.aload_n 0, 1) := by decide +kernel
theorem dX6_countJudged_69 : decode cX6_countJudged 69 = .ok (.invokevirtual 338, 3) := by decide +kernel
theorem dX6_countJudged_72 : decode cX6_countJudged 72 = .ok (.iinc 3 1, 3) := by decide +kernel
theorem dX6_countJudged_75 : decode cX6_countJudged 75 = .ok (.goto (-49), 3) := by decide +kernel
theorem dX6_countJudged_78 : decode cX6_countJudged 78 = .ok (.iload_n 2, 1) := by decide +kernel
theorem dX6_countJudged_79 : decode cX6_countJudged 79 = .ok (.ireturn, 1) := by decide +kernel
theorem dX6_prove_0 : decode cX6_prove 0 = .ok (.aload_n 0, 1) := by decide +kernel
theorem dX6_prove_1 : decode cX6_prove 1 = .ok (.iload_n 2, 1) := by decide +kernel
theorem dX6_prove_2 : decode cX6_prove 2 = .ok (.invokevirtual 231, 3) := by decide +kernel
theorem dX6_prove_5 : decode cX6_prove 5 = .ok (.iload_n 1, 1) := by decide +kernel
theorem dX6_prove_6 : decode cX6_prove 6 = .ok (.ifCond .lt 8, 3) := by decide +kernel
theorem dX6_prove_9 : decode cX6_prove 9 = .ok (.iload_n 1, 1) := by decide +kernel
theorem dX6_prove_10 : decode cX6_prove 10 = .ok (.iload_n 2, 1) := by decide +kernel
theorem dX6_prove_11 : decode cX6_prove 11 = .ok (.if_icmp .lt 14, 3) := by decide +kernel
theorem dX6_prove_14 : decode cX6_prove 14 = .ok (.new 193, 3) := by decide +kernel
theorem dX6_prove_17 : decode cX6_prove 17 = .ok (.dup, 1) := by decide +kernel
theorem dX6_prove_18 : decode cX6_prove 18 = .ok (.ldc_w 347, 3) := by decide +kernel
theorem dX6_prove_21 : decode cX6_prove 21 = .ok (.invokespecial 197, 3) := by decide +kernel
theorem dX6_prove_24 : decode cX6_prove 24 = .ok (.athrow, 1) := by decide +kernel
theorem dX6_prove_25 : decode cX6_prove 25 = .ok (.aload_n 0, 1) := by decide +kernel
theorem dX6_prove_26 : decode cX6_prove 26 = .ok (.getfield 25, 3) := by decide +kernel
theorem dX6_prove_29 : decode cX6_prove 29 = .ok (.iload_n 1, 1) := by decide +kernel
theorem dX6_prove_30 : decode cX6_prove 30 = .ok (.iload_n 2, 1) := by decide +kernel
theorem dX6_prove_31 : decode cX6_prove 31 = .ok (.invokevirtual 349, 3) := by decide +kernel
theorem dX6_prove_34 : decode cX6_prove 34 = .ok (.areturn, 1) := by decide +kernel
theorem dX6_proveGrowth_0 : decode cX6_proveGrowth 0 = .ok (.aload_n 0, 1) := by decide +kernel
theorem dX6_proveGrowth_1 : decode cX6_proveGrowth 1 = .ok (.iload_n 2, 1) := by decide +kernel
theorem dX6_proveGrowth_2 : decode cX6_proveGrowth 2 = .ok (.invokevirtual 231, 3) := by decide +kernel
theorem dX6_proveGrowth_5 : decode cX6_proveGrowth 5 = .ok (.iload_n 1, 1) := by decide +kernel
theorem dX6_proveGrowth_6 : decode cX6_proveGrowth 6 = .ok (.iconst 1, 1) := by decide +kernel
theorem dX6_proveGrowth_7 : decode cX6_proveGrowth 7 = .ok (.if_icmp .lt 8, 3) := by decide +kernel
theorem dX6_proveGrowth_10 : decode cX6_proveGrowth 10 = .ok (.iload_n 1, 1) := by decide +kernel
theorem dX6_proveGrowth_11 : decode cX6_proveGrowth 11 = .ok (.iload_n 2, 1) := by decide +kernel
theorem dX6_proveGrowth_12 : decode cX6_proveGrowth 12 = .ok (.if_icmp .le 14, 3) := by decide +kernel
theorem dX6_proveGrowth_15 : decode cX6_proveGrowth 15 = .ok (.new 193, 3) := by decide +kernel
theorem dX6_proveGrowth_18 : decode cX6_proveGrowth 18 = .ok (.dup, 1) := by decide +kernel
theorem dX6_proveGrowth_19 : decode cX6_proveGrowth 19 = .ok (.ldc_w 352, 3) := by decide +kernel
theorem dX6_proveGrowth_22 : decode cX6_proveGrowth 22 = .ok (.invokespecial 197, 3) := by decide +kernel
theorem dX6_proveGrowth_25 : decode cX6_proveGrowth 25 = .ok (.athrow, 1) := by decide +kernel
theorem dX6_proveGrowth_26 : decode cX6_proveGrowth 26 = .ok (.aload_n 0, 1) := by decide +kernel
theorem dX6_proveGrowth_27 : decode cX6_proveGrowth 27 = .ok (.getfield 25, 3) := by decide +kernel
theorem dX6_proveGrowth_30 : decode cX6_proveGrowth 30 = .ok (.iload_n 1, 1) := by decide +kernel
theorem dX6_proveGrowth_31 : decode cX6_proveGrowth 31 = .ok (.iload_n 2, 1) := by decide +kernel
theorem dX6_proveGrowth_32 : decode cX6_proveGrowth 32 = .ok (.invokevirtual 354, 3) := by decide +kernel
theorem dX6_proveGrowth_35 : decode cX6_proveGrowth 35 = .ok (.areturn, 1) := by decide +kernel
theorem dX6_hashAt_0 : decode cX6_hashAt 0 = .ok (.aload_n 0, 1) := by decide +kernel
theorem dX6_hashAt_1 : decode cX6_hashAt 1 = .ok (.iload_n 1, 1) := by decide +kernel
theorem dX6_hashAt_2 : decode cX6_hashAt 2 = .ok (.invokevirtual 357, 3) := by decide +kernel
theorem dX6_hashAt_5 : decode cX6_hashAt 5 = .ok (.ifCond .ne 14, 3) := by decide +kernel
theorem dX6_hashAt_8 : decode cX6_hashAt 8 = .ok (.new 193, 3) := by decide +kernel
theorem dX6_hashAt_11 : decode cX6_hashAt 11 = .ok (.dup, 1) := by decide +kernel
theorem dX6_hashAt_12 : decode cX6_hashAt 12 = .ok (.ldc_w 360, 3) := by decide +kernel
theorem dX6_hashAt_15 : decode cX6_hashAt 15 = .ok (.invokespecial 197, 3) := by decide +kernel
theorem dX6_hashAt_18 : decode cX6_hashAt 18 = .ok (.athrow, 1) := by decide +kernel
theorem dX6_hashAt_19 : decode cX6_hashAt 19 = .ok (.aload_n 0, 1) := by decide +kernel
theorem dX6_hashAt_20 : decode cX6_hashAt 20 = .ok (.iload_n 1, 1) := by decide +kernel
theorem dX6_hashAt_21 : decode cX6_hashAt 21 = .ok (.invokevirtual 362, 3) := by decide +kernel
theorem dX6_hashAt_24 : decode cX6_hashAt 24 = .ok (.lreturn, 1) := by decide +kernel
theorem dX7_init_0 : decode cX7_init 0 = .ok (.aload_n 0, 1) := by decide +kernel
theorem dX7_init_1 : decode cX7_init 1 = .ok (.invokespecial 1, 3) := by decide +kernel
theorem dX7_init_4 : decode cX7_init 4 = .ok (.aload_n 0, 1) := by decide +kernel
theorem dX7_init_5 : decode cX7_init 5 = .ok (.bipush 40, 2) := by decide +kernel
theorem dX7_init_7 : decode cX7_init 7 = .ok (.newarray .int, 2) := by decide +kernel
theorem dX7_init_9 : decode cX7_init 9 = .ok (.putfield 9, 3) := by decide +kernel
theorem dX7_init_12 : decode cX7_init 12 = .ok (.aload_n 0, 1) := by decide +kernel
theorem dX7_init_13 : decode cX7_init 13 = .ok (.bipush 40, 2) := by decide +kernel
theorem dX7_init_15 : decode cX7_init 15 = .ok (.newarray .int, 2) := by decide +kernel
theorem dX7_init_17 : decode cX7_init 17 = .ok (.putfield 13, 3) := by decide +kernel
theorem dX7_init_20 : decode cX7_init 20 = .ok (.aload_n 0, 1) := by decide +kernel
theorem dX7_init_21 : decode cX7_init 21 = .ok (.bipush 40, 2) := by decide +kernel
theorem dX7_init_23 : decode cX7_init 23 = .ok (.newarray .int, 2) := by decide +kernel
theorem dX7_init_25 : decode cX7_init 25 = .ok (.putfield 16, 3) := by decide +kernel
theorem dX7_init_28 : decode cX7_init 28 = .ok (.aload_n 0, 1) := by decide +kernel
theorem dX7_init_29 : decode cX7_init 29 = .ok (.bipush 40, 2) := by decide +kernel
theorem dX7_init_31 : decode cX7_init 31 = .ok (.newarray .int, 2) := by decide +kernel
theorem dX7_init_33 : decode cX7_init 33 = .ok (.putfield 19, 3) := by decide +kernel
theorem dX7_init_36 : decode cX7_init 36 = .ok (.aload_n 0, 1) := by decide +kernel
theorem dX7_init_37 : decode cX7_init 37 = .ok (.bipush 40, 2) := by decide +kernel
theorem dX7_init_39 : decode cX7_init 39 = .ok (.newarray .int, 2) := by decide +kernel
theorem dX7_init_41 : decode cX7_init 41 = .ok (.putfield 22, 3) := by decide +kernel
theorem dX7_init_44 : decode cX7_init 44 = .ok (.aload_n 0, 1) := by decide +kernel
theorem dX7_init_45 : decode cX7_init 45 = .ok (.bipush 40, 2) := by decide +kernel
theorem dX7_init_47 : decode cX7_init 47 = .ok (.newarray .int, 2) := by decide +kernel
theorem dX7_init_49 : decode cX7_init 49 = .ok (.putfield 25, 3) := by decide +kernel
theorem dX7_init_52 : decode cX7_init 52 = .ok (.aload_n 0, 1) := by decide +kernel
theorem dX7_init_53 : decode cX7_init 53 = .ok (.bipush 40, 2) := by decide +kernel
theorem dX7_init_55 : decode cX7_init 55 = .ok (.newarray .int, 2) := by decide +kernel
theorem dX7_init_57 : decode cX7_init 57 = .ok (.putfield 28, 3) := by decide +kernel
theorem dX7_init_60 : decode cX7_init 60 = .ok (.aload_n 0, 1) := by decide +kernel
theorem dX7_init_61 : decode cX7_init 61 = .ok (.bipush 40, 2) := by decide +kernel
theorem dX7_init_63 : decode cX7_init 63 = .ok (.newarray .int, 2) := by decide +kernel
theorem dX7_init_65 : decode cX7_init 65 = .ok (.putfield 31, 3) := by decide +kernel
theorem dX7_init_68 : decode cX7_init 68 = .ok (.aload_n 0, 1) := by decide +kernel
theorem dX7_init_69 : decode cX7_init 69 = .ok (.bipush 40, 2) := by decide +kernel
theorem dX7_init_71 : decode cX7_init 71 = .ok (.newarray .int, 2) := by decide +kernel
theorem dX7_init_73 : decode cX7_init 73 = .ok (.putfield 34, 3) := by decide +kernel
theorem dX7_init_76 : decode cX7_init 76 = .ok (.aload_n 0, 1) := by decide +kernel
theorem dX7_init_77 : decode cX7_init 77 = .ok (.bipush 40, 2) := by decide +kernel
theorem dX7_init_79 : decode cX7_init 79 = .ok (.newarray .int, 2) := by decide +kernel
theorem dX7_init_81 : decode cX7_init 81 = .ok (.putfield 37, 3) := by decide +kernel
theorem dX7_init_84 : decode cX7_init 84 = .ok (.aload_n 0, 1) := by decide +kernel
theorem dX7_init_85 : decode cX7_init 85 = .ok (.bipush 40, 2) := by decide +kernel
theorem dX7_init_87 : decode cX7_init 87 = .ok (.newarray .boolean, 2) := by decide +kernel
theorem dX7_init_89 : decode cX7_init 89 = .ok (.putfield 40, 3) := by decide +kernel
theorem dX7_init_92 : decode cX7_init 92 = .ok (.aload_n 0, 1) := by decide +kernel
theorem dX7_init_93 : decode cX7_init 93 = .ok (.bipush 40, 2) := by decide +kernel
theorem dX7_init_95 : decode cX7_init 95 = .ok (.newarray .boolean, 2) := by decide +kernel
theorem dX7_init_97 : decode cX7_init 97 = .ok (.putfield 44, 3) := by decide +kernel
theorem dX7_init_100 : decode cX7_init 100 = .ok (.aload_n 0, 1) := by decide +kernel
theorem dX7_init_101 : decode cX7_init 101 = .ok (.bipush 40, 2) := by decide +kernel
theorem dX7_init_103 : decode cX7_init 103 = .ok (.newarray .boolean, 2) := by decide +kernel
theorem dX7_init_105 : decode cX7_init 105 = .ok (.putfield 47, 3) := by decide +kernel
theorem dX7_init_108 : decode cX7_init 108 = .ok (.aload_n 0, 1) := by decide +kernel
theorem dX7_init_109 : decode cX7_init 109 = .ok (.bipush 40, 2) := by decide +kernel
theorem dX7_init_111 : decode cX7_init 111 = .ok (.newarray .boolean, 2) := by decide +kernel
theorem dX7_init_113 : decode cX7_init 113 = .ok (.putfield 50, 3) := by decide +kernel
theorem dX7_init_116 : decode cX7_init 116 = .ok (.aload_n 0, 1) := by decide +kernel
theorem dX7_init_117 : decode cX7_init 117 = .ok (.bipush 8, 2) := by decide +kernel
theorem dX7_init_119 : decode cX7_init 119 = .ok (.newarray .int, 2) := by decide +kernel
theorem dX7_init_121 : decode cX7_init 121 = .ok (.putfield 53, 3) := by decide +kernel
theorem dX7_init_124 : decode cX7_init 124 = .ok (.aload_n 0, 1) := by decide +kernel
theorem dX7_init_125 : decode cX7_init 125 = .ok (.bipush 40, 2) := by decide +kernel
theorem dX7_init_127 : decode cX7_init 127 = .ok (.newarray .int, 2) := by decide +kernel
theorem dX7_init_129 : decode cX7_init 129 = .ok (.putfield 56, 3) := by decide +kernel
theorem dX7_init_132 : decode cX7_init 132 = .ok (.aload_n 0, 1) := by decide +kernel
theorem dX7_init_133 : decode cX7_init 133 = .ok (.bipush 40, 2) := by decide +kernel
theorem dX7_init_135 : decode cX7_init 135 = .ok (.newarray .long, 2) := by decide +kernel
theorem dX7_init_137 : decode cX7_init 137 = .ok (.putfield 59, 3) := by decide +kernel
theorem dX7_init_140 : decode cX7_init 140 = .ok (.return_, 1) := by decide +kernel
theorem dX7_thrown_0 : decode cX7_thrown 0 = .ok (.aload_n 0, 1) := by decide +kernel
theorem dX7_thrown_1 : decode cX7_thrown 1 = .ok (.getfield 63, 3) := by decide +kernel
theorem dX7_thrown_4 : decode cX7_thrown 4 = .ok (.ireturn, 1) := by decide +kernel
theorem dX7_isIn_0 : decode cX7_isIn 0 = .ok (.iload_n 0, 1) := by decide +kernel
theorem dX7_isIn_1 : decode cX7_isIn 1 = .ok (.iload_n 1, 1) := by decide +kernel
theorem dX7_isIn_2 : decode cX7_isIn 2 = .ok (.if_icmp .lt 12, 3) := by decide +kernel
theorem dX7_isIn_5 : decode cX7_isIn 5 = .ok (.iload_n 0, 1) := by decide +kernel
theorem dX7_isIn_6 : decode cX7_isIn 6 = .ok (.iload_n 2, 1) := by decide +kernel
theorem dX7_isIn_7 : decode cX7_isIn 7 = .ok (.if_icmp .gt 7, 3) := by decide +kernel
theorem dX7_isIn_10 : decode cX7_isIn 10 = .ok (.iconst 1, 1) := by decide +kernel
theorem dX7_isIn_11 : decode cX7_isIn 11 = .ok (.goto 4, 3) := by decide +kernel
theorem dX7_isIn_14 : decode cX7_isIn 14 = .ok (.iconst 0, 1) := by decide +kernel
theorem dX7_isIn_15 : decode cX7_isIn 15 = .ok (.ireturn, 1) := by decide +kernel
theorem dX7_isThrown_0 : decode cX7_isThrown 0 = .ok (.aload_n 0, 1) := by decide +kernel
theorem dX7_isThrown_1 : decode cX7_isThrown 1 = .ok (.iload_n 1, 1) := by decide +kernel
theorem dX7_isThrown_2 : decode cX7_isThrown 2 = .ok (.ifCond .eq 7, 3) := by decide +kernel
theorem dX7_isThrown_5 : decode cX7_isThrown 5 = .ok (.iload_n 2, 1) := by decide +kernel
theorem dX7_isThrown_6 : decode cX7_isThrown 6 = .ok (.goto 4, 3) := by decide +kernel
theorem dX7_isThrown_9 : decode cX7_isThrown 9 = .ok (.iconst 0, 1) := by decide +kernel
theorem dX7_isThrown_10 : decode cX7_isThrown 10 = .ok (.putfield 63, 3) := by decide +kernel
theorem dX7_isThrown_13 : decode cX7_isThrown 13 = .ok (.iload_n 1, 1) := by decide +kernel
theorem dX7_isThrown_14 : decode cX7_isThrown 14 = .ok (.ireturn, 1) := by decide +kernel
theorem dX7_isName_0 : decode cX7_isName 0 = .ok (.iload_n 0, 1) := by decide +kernel
theorem dX7_isName_1 : decode cX7_isName 1 = .ok (.iconst 1, 1) := by decide +kernel
theorem dX7_isName_2 : decode cX7_isName 2 = .ok (.sipush 9999, 3) := by decide +kernel
theorem dX7_isName_5 : decode cX7_isName 5 = .ok (.invokestatic 67, 3) := by decide +kernel
theorem dX7_isName_8 : decode cX7_isName 8 = .ok (.istore_n 1, 1) := by decide +kernel
theorem dX7_isName_9 : decode cX7_isName 9 = .ok (.iload_n 0, 1) := by decide +kernel
theorem dX7_isName_10 : decode cX7_isName 10 = .ok (.istore_n 2, 1) := by decide +kernel
theorem dX7_isName_11 : decode cX7_isName 11 = .ok (.iload_n 2, 1) := by decide +kernel
theorem dX7_isName_12 : decode cX7_isName 12 = .ok (.ifCond .le 26, 3) := by decide +kernel
theorem dX7_isName_15 : decode cX7_isName 15 = .ok (.iload_n 1, 1) := by decide +kernel
theorem dX7_isName_16 : decode cX7_isName 16 = .ok (.iload_n 2, 1) := by decide +kernel
theorem dX7_isName_17 : decode cX7_isName 17 = .ok (.bipush 10, 2) := by decide +kernel
theorem dX7_isName_19 : decode cX7_isName 19 = .ok (.irem, 1) := by decide +kernel
theorem dX7_isName_20 : decode cX7_isName 20 = .ok (.ifCond .eq 7, 3) := by decide +kernel
theorem dX7_isName_23 : decode cX7_isName 23 = .ok (.iconst 1, 1) := by decide +kernel
theorem dX7_isName_24 : decode cX7_isName 24 = .ok (.goto 4, 3) := by decide +kernel
theorem dX7_isName_27 : decode cX7_isName 27 = .ok (.iconst 0, 1) := by decide +kernel
theorem dX7_isName_28 : decode cX7_isName 28 = .ok (.iand, 1) := by decide +kernel
theorem dX7_isName_29 : decode cX7_isName 29 = .ok (.istore_n 1, 1) := by decide +kernel
theorem dX7_isName_30 : decode cX7_isName 30 = .ok (.iload_n 2, 1) := by decide +kernel
theorem dX7_isName_31 : decode cX7_isName 31 = .ok (.bipush 10, 2) := by decide +kernel
theorem dX7_isName_33 : decode cX7_isName 33 = .ok (.idiv, 1) := by decide +kernel
theorem dX7_isName_34 : decode cX7_isName 34 = .ok (.istore_n 2, 1) := by decide +kernel
theorem dX7_isName_35 : decode cX7_isName 35 = .ok (.goto (-24), 3) := by decide +kernel
theorem dX7_isName_38 : decode cX7_isName 38 = .ok (.iload_n 1, 1) := by decide +kernel
theorem dX7_isName_39 : decode cX7_isName 39 = .ok (.ireturn, 1) := by decide +kernel
theorem dX7_isUnder_0 : decode cX7_isUnder 0 = .ok (.iload_n 0, 1) := by decide +kernel
theorem dX7_isUnder_1 : decode cX7_isUnder 1 = .ok (.istore_n 2, 1) := by decide +kernel
theorem dX7_isUnder_2 : decode cX7_isUnder 2 = .ok (.iload_n 2, 1) := by decide +kernel
theorem dX7_isUnder_3 : decode cX7_isUnder 3 = .ok (.iload_n 1, 1) := by decide +kernel
theorem dX7_isUnder_4 : decode cX7_isUnder 4 = .ok (.if_icmp .le 11, 3) := by decide +kernel
theorem dX7_isUnder_7 : decode cX7_isUnder 7 = .ok (.iload_n 2, 1) := by decide +kernel
theorem dX7_isUnder_8 : decode cX7_isUnder 8 = .ok (.bipush 10, 2) := by decide +kernel
theorem dX7_isUnder_10 : decode cX7_isUnder 10 = .ok (.idiv, 1) := by decide +kernel
theorem dX7_isUnder_11 : decode cX7_isUnder 11 = .ok (.istore_n 2, 1) := by decide +kernel
theorem dX7_isUnder_12 : decode cX7_isUnder 12 = .ok (.goto (-10), 3) := by decide +kernel
theorem dX7_isUnder_15 : decode cX7_isUnder 15 = .ok (.iload_n 2, 1) := by decide +kernel
theorem dX7_isUnder_16 : decode cX7_isUnder 16 = .ok (.iload_n 1, 1) := by decide +kernel
theorem dX7_isUnder_17 : decode cX7_isUnder 17 = .ok (.if_icmp .ne 7, 3) := by decide +kernel
theorem dX7_isUnder_20 : decode cX7_isUnder 20 = .ok (.iconst 1, 1) := by decide +kernel
theorem dX7_isUnder_21 : decode cX7_isUnder 21 = .ok (.goto 4, 3) := by decide +kernel
theorem dX7_isUnder_24 : decode cX7_isUnder 24 = .ok (.iconst 0, 1) := by decide +kernel
theorem dX7_isUnder_25 : decode cX7_isUnder 25 = .ok (.ireturn, 1) := by decide +kernel
theorem dX7_isThere_0 : decode cX7_isThere 0 = .ok (.iload_n 1, 1) := by decide +kernel
theorem dX7_isThere_1 : decode cX7_isThere 1 = .ok (.iconst 0, 1) := by decide +kernel
theorem dX7_isThere_2 : decode cX7_isThere 2 = .ok (.aload_n 0, 1) := by decide +kernel
theorem dX7_isThere_3 : decode cX7_isThere 3 = .ok (.getfield 71, 3) := by decide +kernel
theorem dX7_isThere_6 : decode cX7_isThere 6 = .ok (.iconst 1, 1) := by decide +kernel
theorem dX7_isThere_7 : decode cX7_isThere 7 = .ok (.isub, 1) := by decide +kernel
theorem dX7_isThere_8 : decode cX7_isThere 8 = .ok (.invokestatic 67, 3) := by decide +kernel
theorem dX7_isThere_11 : decode cX7_isThere 11 = .ok (.ireturn, 1) := by decide +kernel
theorem dX7_isNone_0 : decode cX7_isNone 0 = .ok (.aload_n 0, 1) := by decide +kernel
theorem dX7_isNone_1 : decode cX7_isNone 1 = .ok (.aload_n 0, 1) := by decide +kernel
theorem dX7_isNone_2 : decode cX7_isNone 2 = .ok (.iload_n 1, 1) := by decide +kernel
theorem dX7_isNone_3 : decode cX7_isNone 3 = .ok (.invokevirtual 74, 3) := by decide +kernel
theorem dX7_isNone_6 : decode cX7_isNone 6 = .ok (.ifCond .ne 7, 3) := by decide +kernel
theorem dX7_isNone_9 : decode cX7_isNone 9 = .ok (.iconst 1, 1) := by decide +kernel
theorem dX7_isNone_10 : decode cX7_isNone 10 = .ok (.goto 4, 3) := by decide +kernel
theorem dX7_isNone_13 : decode cX7_isNone 13 = .ok (.iconst 0, 1) := by decide +kernel
theorem dX7_isNone_14 : decode cX7_isNone 14 = .ok (.iconst 1, 1) := by decide +kernel
theorem dX7_isNone_15 : decode cX7_isNone 15 = .ok (.invokevirtual 78, 3) := by decide +kernel
theorem dX7_isNone_18 : decode cX7_isNone 18 = .ok (.ireturn, 1) := by decide +kernel
theorem dX7_makes_0 : decode cX7_makes 0 = .ok (.aload_n 0, 1) := by decide +kernel
theorem dX7_makes_1 : decode cX7_makes 1 = .ok (.getfield 9, 3) := by decide +kernel
theorem dX7_makes_4 : decode cX7_makes 4 = .ok (.aload_n 0, 1) := by decide +kernel
theorem dX7_makes_5 : decode cX7_makes 5 = .ok (.getfield 71, 3) := by decide +kernel
theorem dX7_makes_8 : decode cX7_makes 8 = .ok (.iload_n 1, 1) := by decide +kernel
theorem dX7_makes_9 : decode cX7_makes 9 = .ok (.iastore, 1) := by decide +kernel
theorem dX7_makes_10 : decode cX7_makes 10 = .ok (.aload_n 0, 1) := by decide +kernel
theorem dX7_makes_11 : decode cX7_makes 11 = .ok (.getfield 13, 3) := by decide +kernel
theorem dX7_makes_14 : decode cX7_makes 14 = .ok (.aload_n 0, 1) := by decide +kernel
theorem dX7_makes_15 : decode cX7_makes 15 = .ok (.getfield 71, 3) := by decide +kernel
theorem dX7_makes_18 : decode cX7_makes 18 = .ok (.iload_n 2, 1) := by decide +kernel
theorem dX7_makes_19 : decode cX7_makes 19 = .ok (.iastore, 1) := by decide +kernel
theorem dX7_makes_20 : decode cX7_makes 20 = .ok (.aload_n 0, 1) := by decide +kernel
theorem dX7_makes_21 : decode cX7_makes 21 = .ok (.getfield 22, 3) := by decide +kernel
theorem dX7_makes_24 : decode cX7_makes 24 = .ok (.aload_n 0, 1) := by decide +kernel
theorem dX7_makes_25 : decode cX7_makes 25 = .ok (.getfield 71, 3) := by decide +kernel
theorem dX7_makes_28 : decode cX7_makes 28 = .ok (.iload_n 3, 1) := by decide +kernel
theorem dX7_makes_29 : decode cX7_makes 29 = .ok (.iastore, 1) := by decide +kernel
theorem dX7_makes_30 : decode cX7_makes 30 = .ok (.aload_n 0, 1) := by decide +kernel
theorem dX7_makes_31 : decode cX7_makes 31 = .ok (.getfield 25, 3) := by decide +kernel
theorem dX7_makes_34 : decode cX7_makes 34 = .ok (.aload_n 0, 1) := by decide +kernel
theorem dX7_makes_35 : decode cX7_makes 35 = .ok (.getfield 71, 3) := by decide +kernel
theorem dX7_makes_38 : decode cX7_makes 38 = .ok (.iload 4, 2) := by decide +kernel
theorem dX7_makes_40 : decode cX7_makes 40 = .ok (.iastore, 1) := by decide +kernel
theorem dX7_makes_41 : decode cX7_makes 41 = .ok (.aload_n 0, 1) := by decide +kernel
theorem dX7_makes_42 : decode cX7_makes 42 = .ok (.getfield 16, 3) := by decide +kernel
theorem dX7_makes_45 : decode cX7_makes 45 = .ok (.aload_n 0, 1) := by decide +kernel
theorem dX7_makes_46 : decode cX7_makes 46 = .ok (.getfield 71, 3) := by decide +kernel
theorem dX7_makes_49 : decode cX7_makes 49 = .ok (.aload_n 0, 1) := by decide +kernel
theorem dX7_makes_50 : decode cX7_makes 50 = .ok (.getfield 82, 3) := by decide +kernel
theorem dX7_makes_53 : decode cX7_makes 53 = .ok (.iastore, 1) := by decide +kernel
theorem dX7_makes_54 : decode cX7_makes 54 = .ok (.aload_n 0, 1) := by decide +kernel
theorem dX7_makes_55 : decode cX7_makes 55 = .ok (.getfield 19, 3) := by decide +kernel
theorem dX7_makes_58 : decode cX7_makes 58 = .ok (.aload_n 0, 1) := by decide +kernel
theorem dX7_makes_59 : decode cX7_makes 59 = .ok (.getfield 71, 3) := by decide +kernel
theorem dX7_makes_62 : decode cX7_makes 62 = .ok (.aload_n 0, 1) := by decide +kernel
theorem dX7_makes_63 : decode cX7_makes 63 = .ok (.getfield 82, 3) := by decide +kernel
theorem dX7_makes_66 : decode cX7_makes 66 = .ok (.iload 5, 2) := by decide +kernel
theorem dX7_makes_68 : decode cX7_makes 68 = .ok (.iadd, 1) := by decide +kernel
theorem dX7_makes_69 : decode cX7_makes 69 = .ok (.iconst 1, 1) := by decide +kernel
theorem dX7_makes_70 : decode cX7_makes 70 = .ok (.isub, 1) := by decide +kernel
theorem dX7_makes_71 : decode cX7_makes 71 = .ok (.iastore, 1) := by decide +kernel
theorem dX7_makes_72 : decode cX7_makes 72 = .ok (.aload_n 0, 1) := by decide +kernel
theorem dX7_makes_73 : decode cX7_makes 73 = .ok (.getfield 37, 3) := by decide +kernel
theorem dX7_makes_76 : decode cX7_makes 76 = .ok (.aload_n 0, 1) := by decide +kernel
theorem dX7_makes_77 : decode cX7_makes 77 = .ok (.getfield 71, 3) := by decide +kernel
theorem dX7_makes_80 : decode cX7_makes 80 = .ok (.iconst (-1), 1) := by decide +kernel
theorem dX7_makes_81 : decode cX7_makes 81 = .ok (.iastore, 1) := by decide +kernel
theorem dX7_makes_82 : decode cX7_makes 82 = .ok (.aload_n 0, 1) := by decide +kernel
theorem dX7_makes_83 : decode cX7_makes 83 = .ok (.dup, 1) := by decide +kernel
theorem dX7_makes_84 : decode cX7_makes 84 = .ok (.getfield 71, 3) := by decide +kernel
theorem dX7_makes_87 : decode cX7_makes 87 = .ok (.iconst 1, 1) := by decide +kernel
theorem dX7_makes_88 : decode cX7_makes 88 = .ok (.iadd, 1) := by decide +kernel
theorem dX7_makes_89 : decode cX7_makes 89 = .ok (.putfield 71, 3) := by decide +kernel
theorem dX7_makes_92 : decode cX7_makes 92 = .ok (.aload_n 0, 1) := by decide +kernel
theorem dX7_makes_93 : decode cX7_makes 93 = .ok (.getfield 71, 3) := by decide +kernel
theorem dX7_makes_96 : decode cX7_makes 96 = .ok (.iconst 1, 1) := by decide +kernel
theorem dX7_makes_97 : decode cX7_makes 97 = .ok (.isub, 1) := by decide +kernel
theorem dX7_makes_98 : decode cX7_makes 98 = .ok (.ireturn, 1) := by decide +kernel
theorem dX7_authority_0 : decode cX7_authority 0 = .ok (.aload_n 0, 1) := by decide +kernel
theorem dX7_authority_1 : decode cX7_authority 1 = .ok (.getfield 40, 3) := by decide +kernel
theorem dX7_authority_4 : decode cX7_authority 4 = .ok (.iload_n 1, 1) := by decide +kernel
theorem dX7_authority_5 : decode cX7_authority 5 = .ok (.iconst 1, 1) := by decide +kernel
theorem dX7_authority_6 : decode cX7_authority 6 = .ok (.bastore, 1) := by decide +kernel
theorem dX7_authority_7 : decode cX7_authority 7 = .ok (.aload_n 0, 1) := by decide +kernel
theorem dX7_authority_8 : decode cX7_authority 8 = .ok (.getfield 28, 3) := by decide +kernel
theorem dX7_authority_11 : decode cX7_authority 11 = .ok (.iload_n 1, 1) := by decide +kernel
theorem dX7_authority_12 : decode cX7_authority 12 = .ok (.iload_n 2, 1) := by decide +kernel
theorem dX7_authority_13 : decode cX7_authority 13 = .ok (.iastore, 1) := by decide +kernel
theorem dX7_authority_14 : decode cX7_authority 14 = .ok (.iload_n 1, 1) := by decide +kernel
theorem dX7_authority_15 : decode cX7_authority 15 = .ok (.ireturn, 1) := by decide +kernel
theorem dX7_makeRoot_0 : decode cX7_makeRoot 0 = .ok (.iload_n 1, 1) := by decide +kernel
theorem dX7_makeRoot_1 : decode cX7_makeRoot 1 = .ok (.invokestatic 85, 3) := by decide +kernel
theorem dX7_makeRoot_4 : decode cX7_makeRoot 4 = .ok (.ifCond .eq 27, 3) := by decide +kernel
theorem dX7_makeRoot_7 : decode cX7_makeRoot 7 = .ok (.iload_n 2, 1) := by decide +kernel
theorem dX7_makeRoot_8 : decode cX7_makeRoot 8 = .ok (.iconst 1, 1) := by decide +kernel
theorem dX7_makeRoot_9 : decode cX7_makeRoot 9 = .ok (.sipush 999, 3) := by decide +kernel
theorem dX7_makeRoot_12 : decode cX7_makeRoot 12 = .ok (.invokestatic 67, 3) := by decide +kernel
theorem dX7_makeRoot_15 : decode cX7_makeRoot 15 = .ok (.ifCond .eq 16, 3) := by decide +kernel
theorem dX7_makeRoot_18 : decode cX7_makeRoot 18 = .ok (.iload_n 3, 1) := by decide +kernel
theorem dX7_makeRoot_19 : decode cX7_makeRoot 19 = .ok (.iconst 0, 1) := by decide +kernel
theorem dX7_makeRoot_20 : decode cX7_makeRoot 20 = .ok (.iconst 5, 1) := by decide +kernel
theorem dX7_makeRoot_21 : decode cX7_makeRoot 21 = .ok (.invokestatic 67, 3) := by decide +kernel
theorem dX7_makeRoot_24 : decode cX7_makeRoot 24 = .ok (.ifCond .eq 7, 3) := by decide +kernel
theorem dX7_makeRoot_27 : decode cX7_makeRoot 27 = .ok (.iconst 1, 1) := by decide +kernel
theorem dX7_makeRoot_28 : decode cX7_makeRoot 28 = .ok (.goto 4, 3) := by decide +kernel
theorem dX7_makeRoot_31 : decode cX7_makeRoot 31 = .ok (.iconst 0, 1) := by decide +kernel
theorem dX7_makeRoot_32 : decode cX7_makeRoot 32 = .ok (.istore 4, 2) := by decide +kernel
theorem dX7_makeRoot_34 : decode cX7_makeRoot 34 = .ok (.aload_n 0, 1) := by decide +kernel
theorem dX7_makeRoot_35 : decode cX7_makeRoot 35 = .ok (.iload 4, 2) := by decide +kernel
theorem dX7_makeRoot_37 : decode cX7_makeRoot 37 = .ok (.ifCond .ne 7, 3) := by decide +kernel
theorem dX7_makeRoot_40 : decode cX7_makeRoot 40 = .ok (.iconst 1, 1) := by decide +kernel
theorem dX7_makeRoot_41 : decode cX7_makeRoot 41 = .ok (.goto 4, 3) := by decide +kernel
theorem dX7_makeRoot_44 : decode cX7_makeRoot 44 = .ok (.iconst 0, 1) := by decide +kernel
theorem dX7_makeRoot_45 : decode cX7_makeRoot 45 = .ok (.iconst 1, 1) := by decide +kernel
theorem dX7_makeRoot_46 : decode cX7_makeRoot 46 = .ok (.invokevirtual 78, 3) := by decide +kernel
theorem dX7_makeRoot_49 : decode cX7_makeRoot 49 = .ok (.ifCond .ne 25, 3) := by decide +kernel
theorem dX7_makeRoot_52 : decode cX7_makeRoot 52 = .ok (.aload_n 0, 1) := by decide +kernel
theorem dX7_makeRoot_53 : decode cX7_makeRoot 53 = .ok (.aload_n 0, 1) := by decide +kernel
theorem dX7_makeRoot_54 : decode cX7_makeRoot 54 = .ok (.getfield 71, 3) := by decide +kernel
theorem dX7_makeRoot_57 : decode cX7_makeRoot 57 = .ok (.bipush 40, 2) := by decide +kernel
theorem dX7_makeRoot_59 : decode cX7_makeRoot 59 = .ok (.if_icmp .ne 7, 3) := by decide +kernel
theorem dX7_makeRoot_62 : decode cX7_makeRoot 62 = .ok (.iconst 1, 1) := by decide +kernel
theorem dX7_makeRoot_63 : decode cX7_makeRoot 63 = .ok (.goto 4, 3) := by decide +kernel
theorem dX7_makeRoot_66 : decode cX7_makeRoot 66 = .ok (.iconst 0, 1) := by decide +kernel
theorem dX7_makeRoot_67 : decode cX7_makeRoot 67 = .ok (.iconst 2, 1) := by decide +kernel
theorem dX7_makeRoot_68 : decode cX7_makeRoot 68 = .ok (.invokevirtual 78, 3) := by decide +kernel
theorem dX7_makeRoot_71 : decode cX7_makeRoot 71 = .ok (.ifCond .eq 5, 3) := by decide +kernel
theorem dX7_makeRoot_74 : decode cX7_makeRoot 74 = .ok (.iconst 0, 1) := by decide +kernel
theorem dX7_makeRoot_75 : decode cX7_makeRoot 75 = .ok (.ireturn, 1) := by decide +kernel
theorem dX7_makeRoot_76 : decode cX7_makeRoot 76 = .ok (.aload_n 0, 1) := by decide +kernel
theorem dX7_makeRoot_77 : decode cX7_makeRoot 77 = .ok (.dup, 1) := by decide +kernel
theorem dX7_makeRoot_78 : decode cX7_makeRoot 78 = .ok (.getfield 88, 3) := by decide +kernel
theorem dX7_makeRoot_81 : decode cX7_makeRoot 81 = .ok (.iconst 1, 1) := by decide +kernel
theorem dX7_makeRoot_82 : decode cX7_makeRoot 82 = .ok (.iadd, 1) := by decide +kernel
theorem dX7_makeRoot_83 : decode cX7_makeRoot 83 = .ok (.putfield 88, 3) := by decide +kernel
theorem dX7_makeRoot_86 : decode cX7_makeRoot 86 = .ok (.aload_n 0, 1) := by decide +kernel
theorem dX7_makeRoot_87 : decode cX7_makeRoot 87 = .ok (.aload_n 0, 1) := by decide +kernel
theorem dX7_makeRoot_88 : decode cX7_makeRoot 88 = .ok (.iload_n 1, 1) := by decide +kernel
theorem dX7_makeRoot_89 : decode cX7_makeRoot 89 = .ok (.aload_n 0, 1) := by decide +kernel
theorem dX7_makeRoot_90 : decode cX7_makeRoot 90 = .ok (.getfield 88, 3) := by decide +kernel
theorem dX7_makeRoot_93 : decode cX7_makeRoot 93 = .ok (.iload_n 1, 1) := by decide +kernel
theorem dX7_makeRoot_94 : decode cX7_makeRoot 94 = .ok (.aload_n 0, 1) := by decide +kernel
theorem dX7_makeRoot_95 : decode cX7_makeRoot 95 = .ok (.getfield 88, 3) := by decide +kernel
theorem dX7_makeRoot_98 : decode cX7_makeRoot 98 = .ok (.iload_n 2, 1) := by decide +kernel
theorem dX7_makeRoot_99 : decode cX7_makeRoot 99 = .ok (.invokevirtual 91, 3) := by decide +kernel
theorem dX7_makeRoot_102 : decode cX7_makeRoot 102 = .ok (.iload_n 3, 1) := by decide +kernel
theorem dX7_makeRoot_103 : decode cX7_makeRoot 103 = .ok (.invokevirtual 95, 3) := by decide +kernel
theorem dX7_makeRoot_106 : decode cX7_makeRoot 106 = .ok (.istore 5, 2) := by decide +kernel
theorem dX7_makeRoot_108 : decode cX7_makeRoot 108 = .ok (.aload_n 0, 1) := by decide +kernel
theorem dX7_makeRoot_109 : decode cX7_makeRoot 109 = .ok (.getfield 44, 3) := by decide +kernel
theorem dX7_makeRoot_112 : decode cX7_makeRoot 112 = .ok (.iload 5, 2) := by decide +kernel
theorem dX7_makeRoot_114 : decode cX7_makeRoot 114 = .ok (.iconst 1, 1) := by decide +kernel
theorem dX7_makeRoot_115 : decode cX7_makeRoot 115 = .ok (.bastore, 1) := by decide +kernel
theorem dX7_makeRoot_116 : decode cX7_makeRoot 116 = .ok (.iload 5, 2) := by decide +kernel
theorem dX7_makeRoot_118 : decode cX7_makeRoot 118 = .ok (.ireturn, 1) := by decide +kernel
theorem dX7_cannotIssue_0 : decode cX7_cannotIssue 0 = .ok (.aload_n 0, 1) := by decide +kernel
theorem dX7_cannotIssue_1 : decode cX7_cannotIssue 1 = .ok (.iload_n 1, 1) := by decide +kernel
theorem dX7_cannotIssue_2 : decode cX7_cannotIssue 2 = .ok (.invokevirtual 99, 3) := by decide +kernel
theorem dX7_cannotIssue_5 : decode cX7_cannotIssue 5 = .ok (.ifCond .ne 51, 3) := by decide +kernel
theorem dX7_cannotIssue_8 : decode cX7_cannotIssue 8 = .ok (.aload_n 0, 1) := by decide +kernel
theorem dX7_cannotIssue_9 : decode cX7_cannotIssue 9 = .ok (.iload_n 2, 1) := by decide +kernel
theorem dX7_cannotIssue_10 : decode cX7_cannotIssue 10 = .ok (.ifCond .ne 7, 3) := by decide +kernel
theorem dX7_cannotIssue_13 : decode cX7_cannotIssue 13 = .ok (.iconst 1, 1) := by decide +kernel
theorem dX7_cannotIssue_14 : decode cX7_cannotIssue 14 = .ok (.goto 4, 3) := by decide +kernel
theorem dX7_cannotIssue_17 : decode cX7_cannotIssue 17 = .ok (.iconst 0, 1) := by decide +kernel
theorem dX7_cannotIssue_18 : decode cX7_cannotIssue 18 = .ok (.iconst 2, 1) := by decide +kernel
theorem dX7_cannotIssue_19 : decode cX7_cannotIssue 19 = .ok (.invokevirtual 78, 3) := by decide +kernel
theorem dX7_cannotIssue_22 : decode cX7_cannotIssue 22 = .ok (.ifCond .ne 34, 3) := by decide +kernel
theorem dX7_cannotIssue_25 : decode cX7_cannotIssue 25 = .ok (.aload_n 0, 1) := by decide +kernel
theorem dX7_cannotIssue_26 : decode cX7_cannotIssue 26 = .ok (.aload_n 0, 1) := by decide +kernel
theorem dX7_cannotIssue_27 : decode cX7_cannotIssue 27 = .ok (.getfield 40, 3) := by decide +kernel
theorem dX7_cannotIssue_30 : decode cX7_cannotIssue 30 = .ok (.iload_n 1, 1) := by decide +kernel
theorem dX7_cannotIssue_31 : decode cX7_cannotIssue 31 = .ok (.baload, 1) := by decide +kernel
theorem dX7_cannotIssue_32 : decode cX7_cannotIssue 32 = .ok (.ifCond .eq 12, 3) := by decide +kernel
theorem dX7_cannotIssue_35 : decode cX7_cannotIssue 35 = .ok (.aload_n 0, 1) := by decide +kernel
theorem dX7_cannotIssue_36 : decode cX7_cannotIssue 36 = .ok (.getfield 71, 3) := by decide +kernel
theorem dX7_cannotIssue_39 : decode cX7_cannotIssue 39 = .ok (.bipush 40, 2) := by decide +kernel
theorem dX7_cannotIssue_41 : decode cX7_cannotIssue 41 = .ok (.if_icmp .ne 7, 3) := by decide +kernel
theorem dX7_cannotIssue_44 : decode cX7_cannotIssue 44 = .ok (.iconst 1, 1) := by decide +kernel
theorem dX7_cannotIssue_45 : decode cX7_cannotIssue 45 = .ok (.goto 4, 3) := by decide +kernel
theorem dX7_cannotIssue_48 : decode cX7_cannotIssue 48 = .ok (.iconst 0, 1) := by decide +kernel
theorem dX7_cannotIssue_49 : decode cX7_cannotIssue 49 = .ok (.iconst 3, 1) := by decide +kernel
theorem dX7_cannotIssue_50 : decode cX7_cannotIssue 50 = .ok (.invokevirtual 78, 3) := by decide +kernel
theorem dX7_cannotIssue_53 : decode cX7_cannotIssue 53 = .ok (.ifCond .eq 7, 3) := by decide +kernel
theorem dX7_cannotIssue_56 : decode cX7_cannotIssue 56 = .ok (.iconst 1, 1) := by decide +kernel
theorem dX7_cannotIssue_57 : decode cX7_cannotIssue 57 = .ok (.goto 4, 3) := by decide +kernel
theorem dX7_cannotIssue_60 : decode cX7_cannotIssue 60 = .ok (.iconst 0, 1) := by decide +kernel
theorem dX7_cannotIssue_61 : decode cX7_cannotIssue 61 = .ok (.ireturn, 1) := by decide +kernel
theorem dX7_issue_0 : decode cX7_issue 0 = .ok (.aload_n 0, 1) := by decide +kernel
theorem dX7_issue_1 : decode cX7_issue 1 = .ok (.iload_n 1, 1) := by decide +kernel
theorem dX7_issue_2 : decode cX7_issue 2 = .ok (.iload_n 2, 1) := by decide +kernel
theorem dX7_issue_3 : decode cX7_issue 3 = .ok (.invokestatic 85, 3) := by decide +kernel
theorem dX7_issue_6 : decode cX7_issue 6 = .ok (.ifCond .eq 18, 3) := by decide +kernel
theorem dX7_issue_9 : decode cX7_issue 9 = .ok (.iload_n 3, 1) := by decide +kernel
theorem dX7_issue_10 : decode cX7_issue 10 = .ok (.iconst 1, 1) := by decide +kernel
theorem dX7_issue_11 : decode cX7_issue 11 = .ok (.sipush 999, 3) := by decide +kernel
theorem dX7_issue_14 : decode cX7_issue 14 = .ok (.invokestatic 67, 3) := by decide +kernel
theorem dX7_issue_17 : decode cX7_issue 17 = .ok (.ifCond .eq 7, 3) := by decide +kernel
theorem dX7_issue_20 : decode cX7_issue 20 = .ok (.iconst 1, 1) := by decide +kernel
theorem dX7_issue_21 : decode cX7_issue 21 = .ok (.goto 4, 3) := by decide +kernel
theorem dX7_issue_24 : decode cX7_issue 24 = .ok (.iconst 0, 1) := by decide +kernel
theorem dX7_issue_25 : decode cX7_issue 25 = .ok (.invokevirtual 102, 3) := by decide +kernel
theorem dX7_issue_28 : decode cX7_issue 28 = .ok (.ifCond .eq 5, 3) := by decide +kernel
theorem dX7_issue_31 : decode cX7_issue 31 = .ok (.iconst 0, 1) := by decide +kernel
theorem dX7_issue_32 : decode cX7_issue 32 = .ok (.ireturn, 1) := by decide +kernel
theorem dX7_issue_33 : decode cX7_issue 33 = .ok (.aload_n 0, 1) := by decide +kernel
theorem dX7_issue_34 : decode cX7_issue 34 = .ok (.dup, 1) := by decide +kernel
theorem dX7_issue_35 : decode cX7_issue 35 = .ok (.getfield 88, 3) := by decide +kernel
theorem dX7_issue_38 : decode cX7_issue 38 = .ok (.iconst 1, 1) := by decide +kernel
theorem dX7_issue_39 : decode cX7_issue 39 = .ok (.iadd, 1) := by decide +kernel
theorem dX7_issue_40 : decode cX7_issue 40 = .ok (.putfield 88, 3) := by decide +kernel
theorem dX7_issue_43 : decode cX7_issue 43 = .ok (.aload_n 0, 1) := by decide +kernel
theorem dX7_issue_44 : decode cX7_issue 44 = .ok (.iload_n 2, 1) := by decide +kernel
theorem dX7_issue_45 : decode cX7_issue 45 = .ok (.aload_n 0, 1) := by decide +kernel
theorem dX7_issue_46 : decode cX7_issue 46 = .ok (.getfield 88, 3) := by decide +kernel
theorem dX7_issue_49 : decode cX7_issue 49 = .ok (.aload_n 0, 1) := by decide +kernel
theorem dX7_issue_50 : decode cX7_issue 50 = .ok (.getfield 9, 3) := by decide +kernel
theorem dX7_issue_53 : decode cX7_issue 53 = .ok (.iload_n 1, 1) := by decide +kernel
theorem dX7_issue_54 : decode cX7_issue 54 = .ok (.iaload, 1) := by decide +kernel
theorem dX7_issue_55 : decode cX7_issue 55 = .ok (.aload_n 0, 1) := by decide +kernel
theorem dX7_issue_56 : decode cX7_issue 56 = .ok (.getfield 13, 3) := by decide +kernel
theorem dX7_issue_59 : decode cX7_issue 59 = .ok (.iload_n 1, 1) := by decide +kernel
theorem dX7_issue_60 : decode cX7_issue 60 = .ok (.iaload, 1) := by decide +kernel
theorem dX7_issue_61 : decode cX7_issue 61 = .ok (.iload_n 3, 1) := by decide +kernel
theorem dX7_issue_62 : decode cX7_issue 62 = .ok (.invokevirtual 91, 3) := by decide +kernel
theorem dX7_issue_65 : decode cX7_issue 65 = .ok (.ireturn, 1) := by decide +kernel
theorem dX7_issueAuthority_0 : decode cX7_issueAuthority 0 = .ok (.aload_n 0, 1) := by decide +kernel
theorem dX7_issueAuthority_1 : decode cX7_issueAuthority 1 = .ok (.iload_n 1, 1) := by decide +kernel
theorem dX7_issueAuthority_2 : decode cX7_issueAuthority 2 = .ok (.iload_n 2, 1) := by decide +kernel
theorem dX7_issueAuthority_3 : decode cX7_issueAuthority 3 = .ok (.invokestatic 85, 3) := by decide +kernel
theorem dX7_issueAuthority_6 : decode cX7_issueAuthority 6 = .ok (.ifCond .eq 28, 3) := by decide +kernel
theorem dX7_issueAuthority_9 : decode cX7_issueAuthority 9 = .ok (.iload_n 3, 1) := by decide +kernel
theorem dX7_issueAuthority_10 : decode cX7_issueAuthority 10 = .ok (.iconst 1, 1) := by decide +kernel
theorem dX7_issueAuthority_11 : decode cX7_issueAuthority 11 = .ok (.sipush 999, 3) := by decide +kernel
theorem dX7_issueAuthority_14 : decode cX7_issueAuthority 14 = .ok (.invokestatic 67, 3) := by decide +kernel
theorem dX7_issueAuthority_17 : decode cX7_issueAuthority 17 = .ok (.ifCond .eq 17, 3) := by decide +kernel
theorem dX7_issueAuthority_20 : decode cX7_issueAuthority 20 = .ok (.iload 4, 2) := by decide +kernel
theorem dX7_issueAuthority_22 : decode cX7_issueAuthority 22 = .ok (.iconst 0, 1) := by decide +kernel
theorem dX7_issueAuthority_23 : decode cX7_issueAuthority 23 = .ok (.iconst 5, 1) := by decide +kernel
theorem dX7_issueAuthority_24 : decode cX7_issueAuthority 24 = .ok (.invokestatic 67, 3) := by decide +kernel
theorem dX7_issueAuthority_27 : decode cX7_issueAuthority 27 = .ok (.ifCond .eq 7, 3) := by decide +kernel
theorem dX7_issueAuthority_30 : decode cX7_issueAuthority 30 = .ok (.iconst 1, 1) := by decide +kernel
theorem dX7_issueAuthority_31 : decode cX7_issueAuthority 31 = .ok (.goto 4, 3) := by decide +kernel
theorem dX7_issueAuthority_34 : decode cX7_issueAuthority 34 = .ok (.iconst 0, 1) := by decide +kernel
theorem dX7_issueAuthority_35 : decode cX7_issueAuthority 35 = .ok (.invokevirtual 102, 3) := by decide +kernel
theorem dX7_issueAuthority_38 : decode cX7_issueAuthority 38 = .ok (.ifCond .eq 5, 3) := by decide +kernel
theorem dX7_issueAuthority_41 : decode cX7_issueAuthority 41 = .ok (.iconst 0, 1) := by decide +kernel
theorem dX7_issueAuthority_42 : decode cX7_issueAuthority 42 = .ok (.ireturn, 1) := by decide +kernel
theorem dX7_issueAuthority_43 : decode cX7_issueAuthority 43 = .ok (.aload_n 0, 1) := by decide +kernel
theorem dX7_issueAuthority_44 : decode cX7_issueAuthority 44 = .ok (.dup, 1) := by decide +kernel
theorem dX7_issueAuthority_45 : decode cX7_issueAuthority 45 = .ok (.getfield 88, 3) := by decide +kernel
theorem dX7_issueAuthority_48 : decode cX7_issueAuthority 48 = .ok (.iconst 1, 1) := by decide +kernel
theorem dX7_issueAuthority_49 : decode cX7_issueAuthority 49 = .ok (.iadd, 1) := by decide +kernel
theorem dX7_issueAuthority_50 : decode cX7_issueAuthority 50 = .ok (.putfield 88, 3) := by decide +kernel
theorem dX7_issueAuthority_53 : decode cX7_issueAuthority 53 = .ok (.aload_n 0, 1) := by decide +kernel
theorem dX7_issueAuthority_54 : decode cX7_issueAuthority 54 = .ok (.aload_n 0, 1) := by decide +kernel
theorem dX7_issueAuthority_55 : decode cX7_issueAuthority 55 = .ok (.iload_n 2, 1) := by decide +kernel
theorem dX7_issueAuthority_56 : decode cX7_issueAuthority 56 = .ok (.aload_n 0, 1) := by decide +kernel
theorem dX7_issueAuthority_57 : decode cX7_issueAuthority 57 = .ok (.getfield 88, 3) := by decide +kernel
theorem dX7_issueAuthority_60 : decode cX7_issueAuthority 60 = .ok (.aload_n 0, 1) := by decide +kernel
theorem dX7_issueAuthority_61 : decode cX7_issueAuthority 61 = .ok (.getfield 9, 3) := by decide +kernel
theorem dX7_issueAuthority_64 : decode cX7_issueAuthority 64 = .ok (.iload_n 1, 1) := by decide +kernel
theorem dX7_issueAuthority_65 : decode cX7_issueAuthority 65 = .ok (.iaload, 1) := by decide +kernel
theorem dX7_issueAuthority_66 : decode cX7_issueAuthority 66 = .ok (.aload_n 0, 1) := by decide +kernel
theorem dX7_issueAuthority_67 : decode cX7_issueAuthority 67 = .ok (.getfield 13, 3) := by decide +kernel
theorem dX7_issueAuthority_70 : decode cX7_issueAuthority 70 = .ok (.iload_n 1, 1) := by decide +kernel
theorem dX7_issueAuthority_71 : decode cX7_issueAuthority 71 = .ok (.iaload, 1) := by decide +kernel
theorem dX7_issueAuthority_72 : decode cX7_issueAuthority 72 = .ok (.iload_n 3, 1) := by decide +kernel
theorem dX7_issueAuthority_73 : decode cX7_issueAuthority 73 = .ok (.invokevirtual 91, 3) := by decide +kernel
theorem dX7_issueAuthority_76 : decode cX7_issueAuthority 76 = .ok (.iload 4, 2) := by decide +kernel
theorem dX7_issueAuthority_78 : decode cX7_issueAuthority 78 = .ok (.invokevirtual 95, 3) := by decide +kernel
theorem dX7_issueAuthority_81 : decode cX7_issueAuthority 81 = .ok (.ireturn, 1) := by decide +kernel
theorem dX7_withKey_0 : decode cX7_withKey 0 = .ok (.iconst 0, 1) := by decide +kernel
theorem dX7_withKey_1 : decode cX7_withKey 1 = .ok (.istore_n 2, 1) := by decide +kernel
theorem dX7_withKey_2 : decode cX7_withKey 2 = .ok (.iconst 0, 1) := by decide +kernel
theorem dX7_withKey_3 : decode cX7_withKey 3 = .ok (.istore_n 3, 1) := by decide +kernel
theorem dX7_withKey_4 : decode cX7_withKey 4 = .ok (.iload_n 3, 1) := by decide +kernel
theorem dX7_withKey_5 : decode cX7_withKey 5 = .ok (.aload_n 0, 1) := by decide +kernel
theorem dX7_withKey_6 : decode cX7_withKey 6 = .ok (.getfield 71, 3) := by decide +kernel
theorem dX7_withKey_9 : decode cX7_withKey 9 = .ok (.if_icmp .ge 27, 3) := by decide +kernel
theorem dX7_withKey_12 : decode cX7_withKey 12 = .ok (.iload_n 2, 1) := by decide +kernel
theorem dX7_withKey_13 : decode cX7_withKey 13 = .ok (.aload_n 0, 1) := by decide +kernel
theorem dX7_withKey_14 : decode cX7_withKey 14 = .ok (.getfield 13, 3) := by decide +kernel
theorem dX7_withKey_17 : decode cX7_withKey 17 = .ok (.iload_n 3, 1) := by decide +kernel
theorem dX7_withKey_18 : decode cX7_withKey 18 = .ok (.iaload, 1) := by decide +kernel
theorem dX7_withKey_19 : decode cX7_withKey 19 = .ok (.iload_n 1, 1) := by decide +kernel
theorem dX7_withKey_20 : decode cX7_withKey 20 = .ok (.if_icmp .ne 7, 3) := by decide +kernel
theorem dX7_withKey_23 : decode cX7_withKey 23 = .ok (.iconst 1, 1) := by decide +kernel
theorem dX7_withKey_24 : decode cX7_withKey 24 = .ok (.goto 4, 3) := by decide +kernel
theorem dX7_withKey_27 : decode cX7_withKey 27 = .ok (.iconst 0, 1) := by decide +kernel
theorem dX7_withKey_28 : decode cX7_withKey 28 = .ok (.iadd, 1) := by decide +kernel
theorem dX7_withKey_29 : decode cX7_withKey 29 = .ok (.istore_n 2, 1) := by decide +kernel
theorem dX7_withKey_30 : decode cX7_withKey 30 = .ok (.iinc 3 1, 3) := by decide +kernel
theorem dX7_withKey_33 : decode cX7_withKey 33 = .ok (.goto (-29), 3) := by decide +kernel
theorem dX7_withKey_36 : decode cX7_withKey 36 = .ok (.iload_n 2, 1) := by decide +kernel
theorem dX7_withKey_37 : decode cX7_withKey 37 = .ok (.ireturn, 1) := by decide +kernel
theorem dX7_cross_0 : decode cX7_cross 0 = .ok (.aload_n 0, 1) := by decide +kernel
theorem dX7_cross_1 : decode cX7_cross 1 = .ok (.aload_n 0, 1) := by decide +kernel
theorem dX7_cross_2 : decode cX7_cross 2 = .ok (.iload_n 1, 1) := by decide +kernel
theorem dX7_cross_3 : decode cX7_cross 3 = .ok (.invokevirtual 74, 3) := by decide +kernel
theorem dX7_cross_6 : decode cX7_cross 6 = .ok (.ifCond .eq 11, 3) := by decide +kernel
theorem dX7_cross_9 : decode cX7_cross 9 = .ok (.aload_n 0, 1) := by decide +kernel
theorem dX7_cross_10 : decode cX7_cross 10 = .ok (.iload_n 2, 1) := by decide +kernel
theorem dX7_cross_11 : decode cX7_cross 11 = .ok (.invokevirtual 74, 3) := by decide +kernel
theorem dX7_cross_14 : decode cX7_cross 14 = .ok (.ifCond .ne 7, 3) := by decide +kernel
theorem dX7_cross_17 : decode cX7_cross 17 = .ok (.iconst 1, 1) := by decide +kernel
theorem dX7_cross_18 : decode cX7_cross 18 = .ok (.goto 4, 3) := by decide +kernel
theorem dX7_cross_21 : decode cX7_cross 21 = .ok (.iconst 0, 1) := by decide +kernel
theorem dX7_cross_22 : decode cX7_cross 22 = .ok (.iconst 1, 1) := by decide +kernel
theorem dX7_cross_23 : decode cX7_cross 23 = .ok (.invokevirtual 78, 3) := by decide +kernel
theorem dX7_cross_26 : decode cX7_cross 26 = .ok (.ifCond .ne 37, 3) := by decide +kernel
theorem dX7_cross_29 : decode cX7_cross 29 = .ok (.aload_n 0, 1) := by decide +kernel
theorem dX7_cross_30 : decode cX7_cross 30 = .ok (.iload_n 3, 1) := by decide +kernel
theorem dX7_cross_31 : decode cX7_cross 31 = .ok (.iconst 1, 1) := by decide +kernel
theorem dX7_cross_32 : decode cX7_cross 32 = .ok (.sipush 999, 3) := by decide +kernel
theorem dX7_cross_35 : decode cX7_cross 35 = .ok (.invokestatic 67, 3) := by decide +kernel
theorem dX7_cross_38 : decode cX7_cross 38 = .ok (.ifCond .eq 13, 3) := by decide +kernel
theorem dX7_cross_41 : decode cX7_cross 41 = .ok (.iload 4, 2) := by decide +kernel
theorem dX7_cross_43 : decode cX7_cross 43 = .ok (.iconst 0, 1) := by decide +kernel
theorem dX7_cross_44 : decode cX7_cross 44 = .ok (.iconst 5, 1) := by decide +kernel
theorem dX7_cross_45 : decode cX7_cross 45 = .ok (.invokestatic 67, 3) := by decide +kernel
theorem dX7_cross_48 : decode cX7_cross 48 = .ok (.ifCond .ne 7, 3) := by decide +kernel
theorem dX7_cross_51 : decode cX7_cross 51 = .ok (.iconst 1, 1) := by decide +kernel
theorem dX7_cross_52 : decode cX7_cross 52 = .ok (.goto 4, 3) := by decide +kernel
theorem dX7_cross_55 : decode cX7_cross 55 = .ok (.iconst 0, 1) := by decide +kernel
theorem dX7_cross_56 : decode cX7_cross 56 = .ok (.iconst 2, 1) := by decide +kernel
theorem dX7_cross_57 : decode cX7_cross 57 = .ok (.invokevirtual 78, 3) := by decide +kernel
theorem dX7_cross_60 : decode cX7_cross 60 = .ok (.ifCond .eq 5, 3) := by decide +kernel
theorem dX7_cross_63 : decode cX7_cross 63 = .ok (.iconst 0, 1) := by decide +kernel
theorem dX7_cross_64 : decode cX7_cross 64 = .ok (.ireturn, 1) := by decide +kernel
theorem dX7_cross_65 : decode cX7_cross 65 = .ok (.aload_n 0, 1) := by decide +kernel
theorem dX7_cross_66 : decode cX7_cross 66 = .ok (.aload_n 0, 1) := by decide +kernel
theorem dX7_cross_67 : decode cX7_cross 67 = .ok (.getfield 40, 3) := by decide +kernel
theorem dX7_cross_70 : decode cX7_cross 70 = .ok (.iload_n 1, 1) := by decide +kernel
theorem dX7_cross_71 : decode cX7_cross 71 = .ok (.baload, 1) := by decide +kernel
theorem dX7_cross_72 : decode cX7_cross 72 = .ok (.ifCond .eq 50, 3) := by decide +kernel
theorem dX7_cross_75 : decode cX7_cross 75 = .ok (.aload_n 0, 1) := by decide +kernel
theorem dX7_cross_76 : decode cX7_cross 76 = .ok (.getfield 40, 3) := by decide +kernel
theorem dX7_cross_79 : decode cX7_cross 79 = .ok (.iload_n 2, 1) := by decide +kernel
theorem dX7_cross_80 : decode cX7_cross 80 = .ok (.baload, 1) := by decide +kernel
theorem dX7_cross_81 : decode cX7_cross 81 = .ok (.ifCond .eq 41, 3) := by decide +kernel
theorem dX7_cross_84 : decode cX7_cross 84 = .ok (.aload_n 0, 1) := by decide +kernel
theorem dX7_cross_85 : decode cX7_cross 85 = .ok (.getfield 13, 3) := by decide +kernel
theorem dX7_cross_88 : decode cX7_cross 88 = .ok (.iload_n 1, 1) := by decide +kernel
theorem dX7_cross_89 : decode cX7_cross 89 = .ok (.iaload, 1) := by decide +kernel
theorem dX7_cross_90 : decode cX7_cross 90 = .ok (.aload_n 0, 1) := by decide +kernel
theorem dX7_cross_91 : decode cX7_cross 91 = .ok (.getfield 13, 3) := by decide +kernel
theorem dX7_cross_94 : decode cX7_cross 94 = .ok (.iload_n 2, 1) := by decide +kernel
theorem dX7_cross_95 : decode cX7_cross 95 = .ok (.iaload, 1) := by decide +kernel
theorem dX7_cross_96 : decode cX7_cross 96 = .ok (.if_icmp .eq 26, 3) := by decide +kernel
theorem dX7_cross_99 : decode cX7_cross 99 = .ok (.aload_n 0, 1) := by decide +kernel
theorem dX7_cross_100 : decode cX7_cross 100 = .ok (.aload_n 0, 1) := by decide +kernel
theorem dX7_cross_101 : decode cX7_cross 101 = .ok (.getfield 13, 3) := by decide +kernel
theorem dX7_cross_104 : decode cX7_cross 104 = .ok (.iload_n 2, 1) := by decide +kernel
theorem dX7_cross_105 : decode cX7_cross 105 = .ok (.iaload, 1) := by decide +kernel
theorem dX7_cross_106 : decode cX7_cross 106 = .ok (.invokevirtual 106, 3) := by decide +kernel
theorem dX7_cross_109 : decode cX7_cross 109 = .ok (.iconst 2, 1) := by decide +kernel
theorem dX7_cross_110 : decode cX7_cross 110 = .ok (.if_icmp .gt 12, 3) := by decide +kernel
theorem dX7_cross_113 : decode cX7_cross 113 = .ok (.aload_n 0, 1) := by decide +kernel
theorem dX7_cross_114 : decode cX7_cross 114 = .ok (.getfield 71, 3) := by decide +kernel
theorem dX7_cross_117 : decode cX7_cross 117 = .ok (.bipush 40, 2) := by decide +kernel
theorem dX7_cross_119 : decode cX7_cross 119 = .ok (.if_icmp .ne 7, 3) := by decide +kernel
theorem dX7_cross_122 : decode cX7_cross 122 = .ok (.iconst 1, 1) := by decide +kernel
theorem dX7_cross_123 : decode cX7_cross 123 = .ok (.goto 4, 3) := by decide +kernel
theorem dX7_cross_126 : decode cX7_cross 126 = .ok (.iconst 0, 1) := by decide +kernel
theorem dX7_cross_127 : decode cX7_cross 127 = .ok (.iconst 3, 1) := by decide +kernel
theorem dX7_cross_128 : decode cX7_cross 128 = .ok (.invokevirtual 78, 3) := by decide +kernel
theorem dX7_cross_131 : decode cX7_cross 131 = .ok (.ifCond .eq 5, 3) := by decide +kernel
theorem dX7_cross_134 : decode cX7_cross 134 = .ok (.iconst 0, 1) := by decide +kernel
theorem dX7_cross_135 : decode cX7_cross 135 = .ok (.ireturn, 1) := by decide +kernel
theorem dX7_cross_136 : decode cX7_cross 136 = .ok (.aload_n 0, 1) := by decide +kernel
theorem dX7_cross_137 : decode cX7_cross 137 = .ok (.aload_n 0, 1) := by decide +kernel
theorem dX7_cross_138 : decode cX7_cross 138 = .ok (.aload_n 0, 1) := by decide +kernel
theorem dX7_cross_139 : decode cX7_cross 139 = .ok (.getfield 9, 3) := by decide +kernel
theorem dX7_cross_142 : decode cX7_cross 142 = .ok (.iload_n 2, 1) := by decide +kernel
theorem dX7_cross_143 : decode cX7_cross 143 = .ok (.iaload, 1) := by decide +kernel
theorem dX7_cross_144 : decode cX7_cross 144 = .ok (.aload_n 0, 1) := by decide +kernel
theorem dX7_cross_145 : decode cX7_cross 145 = .ok (.getfield 13, 3) := by decide +kernel
theorem dX7_cross_148 : decode cX7_cross 148 = .ok (.iload_n 2, 1) := by decide +kernel
theorem dX7_cross_149 : decode cX7_cross 149 = .ok (.iaload, 1) := by decide +kernel
theorem dX7_cross_150 : decode cX7_cross 150 = .ok (.aload_n 0, 1) := by decide +kernel
theorem dX7_cross_151 : decode cX7_cross 151 = .ok (.getfield 9, 3) := by decide +kernel
theorem dX7_cross_154 : decode cX7_cross 154 = .ok (.iload_n 1, 1) := by decide +kernel
theorem dX7_cross_155 : decode cX7_cross 155 = .ok (.iaload, 1) := by decide +kernel
theorem dX7_cross_156 : decode cX7_cross 156 = .ok (.aload_n 0, 1) := by decide +kernel
theorem dX7_cross_157 : decode cX7_cross 157 = .ok (.getfield 13, 3) := by decide +kernel
theorem dX7_cross_160 : decode cX7_cross 160 = .ok (.iload_n 1, 1) := by decide +kernel
theorem dX7_cross_161 : decode cX7_cross 161 = .ok (.iaload, 1) := by decide +kernel
theorem dX7_cross_162 : decode cX7_cross 162 = .ok (.iload_n 3, 1) := by decide +kernel
theorem dX7_cross_163 : decode cX7_cross 163 = .ok (.invokevirtual 91, 3) := by decide +kernel
theorem dX7_cross_166 : decode cX7_cross 166 = .ok (.iload 4, 2) := by decide +kernel
theorem dX7_cross_168 : decode cX7_cross 168 = .ok (.invokevirtual 95, 3) := by decide +kernel
theorem dX7_cross_171 : decode cX7_cross 171 = .ok (.ireturn, 1) := by decide +kernel
theorem dX7_hasIssued_0 : decode cX7_hasIssued 0 = .ok (.iconst 0, 1) := by decide +kernel
theorem dX7_hasIssued_1 : decode cX7_hasIssued 1 = .ok (.istore_n 2, 1) := by decide +kernel
theorem dX7_hasIssued_2 : decode cX7_hasIssued 2 = .ok (.iconst 0, 1) := by decide +kernel
theorem dX7_hasIssued_3 : decode cX7_hasIssued 3 = .ok (.istore_n 3, 1) := by decide +kernel
theorem dX7_hasIssued_4 : decode cX7_hasIssued 4 = .ok (.iload_n 3, 1) := by decide +kernel
theorem dX7_hasIssued_5 : decode cX7_hasIssued 5 = .ok (.aload_n 0, 1) := by decide +kernel
theorem dX7_hasIssued_6 : decode cX7_hasIssued 6 = .ok (.getfield 71, 3) := by decide +kernel
theorem dX7_hasIssued_9 : decode cX7_hasIssued 9 = .ok (.if_icmp .ge 36, 3) := by decide +kernel
theorem dX7_hasIssued_12 : decode cX7_hasIssued 12 = .ok (.iload_n 2, 1) := by decide +kernel
theorem dX7_hasIssued_13 : decode cX7_hasIssued 13 = .ok (.aload_n 0, 1) := by decide +kernel
theorem dX7_hasIssued_14 : decode cX7_hasIssued 14 = .ok (.getfield 25, 3) := by decide +kernel
theorem dX7_hasIssued_17 : decode cX7_hasIssued 17 = .ok (.iload_n 3, 1) := by decide +kernel
theorem dX7_hasIssued_18 : decode cX7_hasIssued 18 = .ok (.iaload, 1) := by decide +kernel
theorem dX7_hasIssued_19 : decode cX7_hasIssued 19 = .ok (.iload_n 1, 1) := by decide +kernel
theorem dX7_hasIssued_20 : decode cX7_hasIssued 20 = .ok (.if_icmp .ne 16, 3) := by decide +kernel
theorem dX7_hasIssued_23 : decode cX7_hasIssued 23 = .ok (.aload_n 0, 1) := by decide +kernel
theorem dX7_hasIssued_24 : decode cX7_hasIssued 24 = .ok (.getfield 44, 3) := by decide +kernel
theorem dX7_hasIssued_27 : decode cX7_hasIssued 27 = .ok (.iload_n 3, 1) := by decide +kernel
theorem dX7_hasIssued_28 : decode cX7_hasIssued 28 = .ok (.baload, 1) := by decide +kernel
theorem dX7_hasIssued_29 : decode cX7_hasIssued 29 = .ok (.ifCond .ne 7, 3) := by decide +kernel
theorem dX7_hasIssued_32 : decode cX7_hasIssued 32 = .ok (.iconst 1, 1) := by decide +kernel
theorem dX7_hasIssued_33 : decode cX7_hasIssued 33 = .ok (.goto 4, 3) := by decide +kernel
theorem dX7_hasIssued_36 : decode cX7_hasIssued 36 = .ok (.iconst 0, 1) := by decide +kernel
theorem dX7_hasIssued_37 : decode cX7_hasIssued 37 = .ok (.ior, 1) := by decide +kernel
theorem dX7_hasIssued_38 : decode cX7_hasIssued 38 = .ok (.istore_n 2, 1) := by decide +kernel
theorem dX7_hasIssued_39 : decode cX7_hasIssued 39 = .ok (.iinc 3 1, 3) := by decide +kernel
theorem dX7_hasIssued_42 : decode cX7_hasIssued 42 = .ok (.goto (-38), 3) := by decide +kernel
theorem dX7_hasIssued_45 : decode cX7_hasIssued 45 = .ok (.iload_n 2, 1) := by decide +kernel
theorem dX7_hasIssued_46 : decode cX7_hasIssued 46 = .ok (.ireturn, 1) := by decide +kernel
theorem dX7_setNames_0 : decode cX7_setNames 0 = .ok (.iload_n 2, 1) := by decide +kernel
theorem dX7_setNames_1 : decode cX7_setNames 1 = .ok (.ifCond .eq 10, 3) := by decide +kernel
theorem dX7_setNames_4 : decode cX7_setNames 4 = .ok (.iload_n 2, 1) := by decide +kernel
theorem dX7_setNames_5 : decode cX7_setNames 5 = .ok (.invokestatic 85, 3) := by decide +kernel
theorem dX7_setNames_8 : decode cX7_setNames 8 = .ok (.ifCond .eq 18, 3) := by decide +kernel
theorem dX7_setNames_11 : decode cX7_setNames 11 = .ok (.iload_n 3, 1) := by decide +kernel
theorem dX7_setNames_12 : decode cX7_setNames 12 = .ok (.ifCond .eq 10, 3) := by decide +kernel
theorem dX7_setNames_15 : decode cX7_setNames 15 = .ok (.iload_n 3, 1) := by decide +kernel
theorem dX7_setNames_16 : decode cX7_setNames 16 = .ok (.invokestatic 85, 3) := by decide +kernel
theorem dX7_setNames_19 : decode cX7_setNames 19 = .ok (.ifCond .eq 7, 3) := by decide +kernel
theorem dX7_setNames_22 : decode cX7_setNames 22 = .ok (.iconst 1, 1) := by decide +kernel
theorem dX7_setNames_23 : decode cX7_setNames 23 = .ok (.goto 4, 3) := by decide +kernel
theorem dX7_setNames_26 : decode cX7_setNames 26 = .ok (.iconst 0, 1) := by decide +kernel
theorem dX7_setNames_27 : decode cX7_setNames 27 = .ok (.istore 4, 2) := by decide +kernel
theorem dX7_setNames_29 : decode cX7_setNames 29 = .ok (.aload_n 0, 1) := by decide +kernel
theorem dX7_setNames_30 : decode cX7_setNames 30 = .ok (.iload_n 1, 1) := by decide +kernel
theorem dX7_setNames_31 : decode cX7_setNames 31 = .ok (.invokevirtual 99, 3) := by decide +kernel
theorem dX7_setNames_34 : decode cX7_setNames 34 = .ok (.ifCond .ne 56, 3) := by decide +kernel
theorem dX7_setNames_37 : decode cX7_setNames 37 = .ok (.aload_n 0, 1) := by decide +kernel
theorem dX7_setNames_38 : decode cX7_setNames 38 = .ok (.iload 4, 2) := by decide +kernel
theorem dX7_setNames_40 : decode cX7_setNames 40 = .ok (.ifCond .ne 7, 3) := by decide +kernel
theorem dX7_setNames_43 : decode cX7_setNames 43 = .ok (.iconst 1, 1) := by decide +kernel
theorem dX7_setNames_44 : decode cX7_setNames 44 = .ok (.goto 4, 3) := by decide +kernel
theorem dX7_setNames_47 : decode cX7_setNames 47 = .ok (.iconst 0, 1) := by decide +kernel
theorem dX7_setNames_48 : decode cX7_setNames 48 = .ok (.iconst 2, 1) := by decide +kernel
theorem dX7_setNames_49 : decode cX7_setNames 49 = .ok (.invokevirtual 78, 3) := by decide +kernel
theorem dX7_setNames_52 : decode cX7_setNames 52 = .ok (.ifCond .ne 38, 3) := by decide +kernel
theorem dX7_setNames_55 : decode cX7_setNames 55 = .ok (.aload_n 0, 1) := by decide +kernel
theorem dX7_setNames_56 : decode cX7_setNames 56 = .ok (.aload_n 0, 1) := by decide +kernel
theorem dX7_setNames_57 : decode cX7_setNames 57 = .ok (.getfield 40, 3) := by decide +kernel
theorem dX7_setNames_60 : decode cX7_setNames 60 = .ok (.iload_n 1, 1) := by decide +kernel
theorem dX7_setNames_61 : decode cX7_setNames 61 = .ok (.baload, 1) := by decide +kernel
theorem dX7_setNames_62 : decode cX7_setNames 62 = .ok (.ifCond .eq 16, 3) := by decide +kernel
theorem dX7_setNames_65 : decode cX7_setNames 65 = .ok (.aload_n 0, 1) := by decide +kernel
theorem dX7_setNames_66 : decode cX7_setNames 66 = .ok (.aload_n 0, 1) := by decide +kernel
theorem dX7_setNames_67 : decode cX7_setNames 67 = .ok (.getfield 13, 3) := by decide +kernel
theorem dX7_setNames_70 : decode cX7_setNames 70 = .ok (.iload_n 1, 1) := by decide +kernel
theorem dX7_setNames_71 : decode cX7_setNames 71 = .ok (.iaload, 1) := by decide +kernel
theorem dX7_setNames_72 : decode cX7_setNames 72 = .ok (.invokevirtual 110, 3) := by decide +kernel
theorem dX7_setNames_75 : decode cX7_setNames 75 = .ok (.ifCond .eq 7, 3) := by decide +kernel
theorem dX7_setNames_78 : decode cX7_setNames 78 = .ok (.iconst 1, 1) := by decide +kernel
theorem dX7_setNames_79 : decode cX7_setNames 79 = .ok (.goto 4, 3) := by decide +kernel
theorem dX7_setNames_82 : decode cX7_setNames 82 = .ok (.iconst 0, 1) := by decide +kernel
theorem dX7_setNames_83 : decode cX7_setNames 83 = .ok (.iconst 3, 1) := by decide +kernel
theorem dX7_setNames_84 : decode cX7_setNames 84 = .ok (.invokevirtual 78, 3) := by decide +kernel
theorem dX7_setNames_87 : decode cX7_setNames 87 = .ok (.ifCond .eq 5, 3) := by decide +kernel
theorem dX7_setNames_90 : decode cX7_setNames 90 = .ok (.iconst 0, 1) := by decide +kernel
theorem dX7_setNames_91 : decode cX7_setNames 91 = .ok (.ireturn, 1) := by decide +kernel
theorem dX7_setNames_92 : decode cX7_setNames 92 = .ok (.aload_n 0, 1) := by decide +kernel
theorem dX7_setNames_93 : decode cX7_setNames 93 = .ok (.getfield 31, 3) := by decide +kernel
theorem dX7_setNames_96 : decode cX7_setNames 96 = .ok (.iload_n 1, 1) := by decide +kernel
theorem dX7_setNames_97 : decode cX7_setNames 97 = .ok (.iload_n 2, 1) := by decide +kernel
theorem dX7_setNames_98 : decode cX7_setNames 98 = .ok (.iastore, 1) := by decide +kernel
theorem dX7_setNames_99 : decode cX7_setNames 99 = .ok (.aload_n 0, 1) := by decide +kernel
theorem dX7_setNames_100 : decode cX7_setNames 100 = .ok (.getfield 34, 3) := by decide +kernel
theorem dX7_setNames_103 : decode cX7_setNames 103 = .ok (.iload_n 1, 1) := by decide +kernel
theorem dX7_setNames_104 : decode cX7_setNames 104 = .ok (.iload_n 3, 1) := by decide +kernel
theorem dX7_setNames_105 : decode cX7_setNames 105 = .ok (.iastore, 1) := by decide +kernel
theorem dX7_setNames_106 : decode cX7_setNames 106 = .ok (.iload_n 2, 1) := by decide +kernel
theorem dX7_setNames_107 : decode cX7_setNames 107 = .ok (.ifCond .eq 7, 3) := by decide +kernel
theorem dX7_setNames_110 : decode cX7_setNames 110 = .ok (.iconst 1, 1) := by decide +kernel
theorem dX7_setNames_111 : decode cX7_setNames 111 = .ok (.goto 4, 3) := by decide +kernel
theorem dX7_setNames_114 : decode cX7_setNames 114 = .ok (.iconst 0, 1) := by decide +kernel
theorem dX7_setNames_115 : decode cX7_setNames 115 = .ok (.iload_n 3, 1) := by decide +kernel
theorem dX7_setNames_116 : decode cX7_setNames 116 = .ok (.ifCond .eq 7, 3) := by decide +kernel
theorem dX7_setNames_119 : decode cX7_setNames 119 = .ok (.iconst 1, 1) := by decide +kernel
theorem dX7_setNames_120 : decode cX7_setNames 120 = .ok (.goto 4, 3) := by decide +kernel
theorem dX7_setNames_123 : decode cX7_setNames 123 = .ok (.iconst 0, 1) := by decide +kernel
theorem dX7_setNames_124 : decode cX7_setNames 124 = .ok (.iadd, 1) := by decide +kernel
theorem dX7_setNames_125 : decode cX7_setNames 125 = .ok (.ireturn, 1) := by decide +kernel
theorem dX7_trust_0 : decode cX7_trust 0 = .ok (.aload_n 0, 1) := by decide +kernel
theorem dX7_trust_1 : decode cX7_trust 1 = .ok (.iload_n 1, 1) := by decide +kernel
theorem dX7_trust_2 : decode cX7_trust 2 = .ok (.invokevirtual 99, 3) := by decide +kernel
theorem dX7_trust_5 : decode cX7_trust 5 = .ok (.ifCond .ne 25, 3) := by decide +kernel
theorem dX7_trust_8 : decode cX7_trust 8 = .ok (.aload_n 0, 1) := by decide +kernel
theorem dX7_trust_9 : decode cX7_trust 9 = .ok (.aload_n 0, 1) := by decide +kernel
theorem dX7_trust_10 : decode cX7_trust 10 = .ok (.getfield 44, 3) := by decide +kernel
theorem dX7_trust_13 : decode cX7_trust 13 = .ok (.iload_n 1, 1) := by decide +kernel
theorem dX7_trust_14 : decode cX7_trust 14 = .ok (.baload, 1) := by decide +kernel
theorem dX7_trust_15 : decode cX7_trust 15 = .ok (.ifCond .ne 7, 3) := by decide +kernel
theorem dX7_trust_18 : decode cX7_trust 18 = .ok (.iconst 1, 1) := by decide +kernel
theorem dX7_trust_19 : decode cX7_trust 19 = .ok (.goto 4, 3) := by decide +kernel
theorem dX7_trust_22 : decode cX7_trust 22 = .ok (.iconst 0, 1) := by decide +kernel
theorem dX7_trust_23 : decode cX7_trust 23 = .ok (.iconst 2, 1) := by decide +kernel
theorem dX7_trust_24 : decode cX7_trust 24 = .ok (.invokevirtual 78, 3) := by decide +kernel
theorem dX7_trust_27 : decode cX7_trust 27 = .ok (.ifCond .eq 5, 3) := by decide +kernel
theorem dX7_trust_30 : decode cX7_trust 30 = .ok (.iconst 0, 1) := by decide +kernel
theorem dX7_trust_31 : decode cX7_trust 31 = .ok (.ireturn, 1) := by decide +kernel
theorem dX7_trust_32 : decode cX7_trust 32 = .ok (.aload_n 0, 1) := by decide +kernel
theorem dX7_trust_33 : decode cX7_trust 33 = .ok (.getfield 47, 3) := by decide +kernel
theorem dX7_trust_36 : decode cX7_trust 36 = .ok (.iload_n 1, 1) := by decide +kernel
theorem dX7_trust_37 : decode cX7_trust 37 = .ok (.iload_n 2, 1) := by decide +kernel
theorem dX7_trust_38 : decode cX7_trust 38 = .ok (.bastore, 1) := by decide +kernel
theorem dX7_trust_39 : decode cX7_trust 39 = .ok (.iconst 0, 1) := by decide +kernel
theorem dX7_trust_40 : decode cX7_trust 40 = .ok (.istore_n 3, 1) := by decide +kernel
theorem dX7_trust_41 : decode cX7_trust 41 = .ok (.iconst 0, 1) := by decide +kernel
theorem dX7_trust_42 : decode cX7_trust 42 = .ok (.istore 4, 2) := by decide +kernel
theorem dX7_trust_44 : decode cX7_trust 44 = .ok (.iload 4, 2) := by decide +kernel
theorem dX7_trust_46 : decode cX7_trust 46 = .ok (.aload_n 0, 1) := by decide +kernel
theorem dX7_trust_47 : decode cX7_trust 47 = .ok (.getfield 71, 3) := by decide +kernel
theorem dX7_trust_50 : decode cX7_trust 50 = .ok (.if_icmp .ge 27, 3) := by decide +kernel
theorem dX7_trust_53 : decode cX7_trust 53 = .ok (.iload_n 3, 1) := by decide +kernel
theorem dX7_trust_54 : decode cX7_trust 54 = .ok (.aload_n 0, 1) := by decide +kernel
theorem dX7_trust_55 : decode cX7_trust 55 = .ok (.getfield 47, 3) := by decide +kernel
theorem dX7_trust_58 : decode cX7_trust 58 = .ok (.iload 4, 2) := by decide +kernel
theorem dX7_trust_60 : decode cX7_trust 60 = .ok (.baload, 1) := by decide +kernel
theorem dX7_trust_61 : decode cX7_trust 61 = .ok (.ifCond .eq 7, 3) := by decide +kernel
theorem dX7_trust_64 : decode cX7_trust 64 = .ok (.iconst 1, 1) := by decide +kernel
theorem dX7_trust_65 : decode cX7_trust 65 = .ok (.goto 4, 3) := by decide +kernel
theorem dX7_trust_68 : decode cX7_trust 68 = .ok (.iconst 0, 1) := by decide +kernel
theorem dX7_trust_69 : decode cX7_trust 69 = .ok (.iadd, 1) := by decide +kernel
theorem dX7_trust_70 : decode cX7_trust 70 = .ok (.istore_n 3, 1) := by decide +kernel
theorem dX7_trust_71 : decode cX7_trust 71 = .ok (.iinc 4 1, 3) := by decide +kernel
theorem dX7_trust_74 : decode cX7_trust 74 = .ok (.goto (-30), 3) := by decide +kernel
theorem dX7_trust_77 : decode cX7_trust 77 = .ok (.iload_n 3, 1) := by decide +kernel
theorem dX7_trust_78 : decode cX7_trust 78 = .ok (.ireturn, 1) := by decide +kernel
theorem dX7_revoke_0 : decode cX7_revoke 0 = .ok (.aload_n 0, 1) := by decide +kernel
theorem dX7_revoke_1 : decode cX7_revoke 1 = .ok (.iload_n 1, 1) := by decide +kernel
theorem dX7_revoke_2 : decode cX7_revoke 2 = .ok (.invokevirtual 99, 3) := by decide +kernel
theorem dX7_revoke_5 : decode cX7_revoke 5 = .ok (.ifCond .ne 34, 3) := by decide +kernel
theorem dX7_revoke_8 : decode cX7_revoke 8 = .ok (.aload_n 0, 1) := by decide +kernel
theorem dX7_revoke_9 : decode cX7_revoke 9 = .ok (.aload_n 0, 1) := by decide +kernel
theorem dX7_revoke_10 : decode cX7_revoke 10 = .ok (.getfield 44, 3) := by decide +kernel
theorem dX7_revoke_13 : decode cX7_revoke 13 = .ok (.iload_n 1, 1) := by decide +kernel
theorem dX7_revoke_14 : decode cX7_revoke 14 = .ok (.baload, 1) := by decide +kernel
theorem dX7_revoke_15 : decode cX7_revoke 15 = .ok (.ifCond .ne 12, 3) := by decide +kernel
theorem dX7_revoke_18 : decode cX7_revoke 18 = .ok (.aload_n 0, 1) := by decide +kernel
theorem dX7_revoke_19 : decode cX7_revoke 19 = .ok (.getfield 50, 3) := by decide +kernel
theorem dX7_revoke_22 : decode cX7_revoke 22 = .ok (.iload_n 1, 1) := by decide +kernel
theorem dX7_revoke_23 : decode cX7_revoke 23 = .ok (.baload, 1) := by decide +kernel
theorem dX7_revoke_24 : decode cX7_revoke 24 = .ok (.ifCond .eq 7, 3) := by decide +kernel
theorem dX7_revoke_27 : decode cX7_revoke 27 = .ok (.iconst 1, 1) := by decide +kernel
theorem dX7_revoke_28 : decode cX7_revoke 28 = .ok (.goto 4, 3) := by decide +kernel
theorem dX7_revoke_31 : decode cX7_revoke 31 = .ok (.iconst 0, 1) := by decide +kernel
theorem dX7_revoke_32 : decode cX7_revoke 32 = .ok (.iconst 2, 1) := by decide +kernel
theorem dX7_revoke_33 : decode cX7_revoke 33 = .ok (.invokevirtual 78, 3) := by decide +kernel
theorem dX7_revoke_36 : decode cX7_revoke 36 = .ok (.ifCond .eq 5, 3) := by decide +kernel
theorem dX7_revoke_39 : decode cX7_revoke 39 = .ok (.iconst 0, 1) := by decide +kernel
theorem dX7_revoke_40 : decode cX7_revoke 40 = .ok (.ireturn, 1) := by decide +kernel
theorem dX7_revoke_41 : decode cX7_revoke 41 = .ok (.aload_n 0, 1) := by decide +kernel
theorem dX7_revoke_42 : decode cX7_revoke 42 = .ok (.getfield 50, 3) := by decide +kernel
theorem dX7_revoke_45 : decode cX7_revoke 45 = .ok (.iload_n 1, 1) := by decide +kernel
theorem dX7_revoke_46 : decode cX7_revoke 46 = .ok (.iconst 1, 1) := by decide +kernel
theorem dX7_revoke_47 : decode cX7_revoke 47 = .ok (.bastore, 1) := by decide +kernel
theorem dX7_revoke_48 : decode cX7_revoke 48 = .ok (.iconst 0, 1) := by decide +kernel
theorem dX7_revoke_49 : decode cX7_revoke 49 = .ok (.istore_n 2, 1) := by decide +kernel
theorem dX7_revoke_50 : decode cX7_revoke 50 = .ok (.iconst 0, 1) := by decide +kernel
theorem dX7_revoke_51 : decode cX7_revoke 51 = .ok (.istore_n 3, 1) := by decide +kernel
theorem dX7_revoke_52 : decode cX7_revoke 52 = .ok (.iload_n 3, 1) := by decide +kernel
theorem dX7_revoke_53 : decode cX7_revoke 53 = .ok (.aload_n 0, 1) := by decide +kernel
theorem dX7_revoke_54 : decode cX7_revoke 54 = .ok (.getfield 71, 3) := by decide +kernel
theorem dX7_revoke_57 : decode cX7_revoke 57 = .ok (.if_icmp .ge 50, 3) := by decide +kernel
theorem dX7_revoke_60 : decode cX7_revoke 60 = .ok (.iload_n 2, 1) := by decide +kernel
theorem dX7_revoke_61 : decode cX7_revoke 61 = .ok (.aload_n 0, 1) := by decide +kernel
theorem dX7_revoke_62 : decode cX7_revoke 62 = .ok (.getfield 25, 3) := by decide +kernel
theorem dX7_revoke_65 : decode cX7_revoke 65 = .ok (.iload_n 3, 1) := by decide +kernel
theorem dX7_revoke_66 : decode cX7_revoke 66 = .ok (.iaload, 1) := by decide +kernel
theorem dX7_revoke_67 : decode cX7_revoke 67 = .ok (.aload_n 0, 1) := by decide +kernel
theorem dX7_revoke_68 : decode cX7_revoke 68 = .ok (.getfield 25, 3) := by decide +kernel
theorem dX7_revoke_71 : decode cX7_revoke 71 = .ok (.iload_n 1, 1) := by decide +kernel
theorem dX7_revoke_72 : decode cX7_revoke 72 = .ok (.iaload, 1) := by decide +kernel
theorem dX7_revoke_73 : decode cX7_revoke 73 = .ok (.if_icmp .ne 25, 3) := by decide +kernel
theorem dX7_revoke_76 : decode cX7_revoke 76 = .ok (.aload_n 0, 1) := by decide +kernel
theorem dX7_revoke_77 : decode cX7_revoke 77 = .ok (.getfield 50, 3) := by decide +kernel
theorem dX7_revoke_80 : decode cX7_revoke 80 = .ok (.iload_n 3, 1) := by decide +kernel
theorem dX7_revoke_81 : decode cX7_revoke 81 = .ok (.baload, 1) := by decide +kernel
theorem dX7_revoke_82 : decode cX7_revoke 82 = .ok (.ifCond .eq 16, 3) := by decide +kernel
theorem dX7_revoke_85 : decode cX7_revoke 85 = .ok (.aload_n 0, 1) := by decide +kernel
theorem dX7_revoke_86 : decode cX7_revoke 86 = .ok (.getfield 37, 3) := by decide +kernel
theorem dX7_revoke_89 : decode cX7_revoke 89 = .ok (.iload_n 3, 1) := by decide +kernel
theorem dX7_revoke_90 : decode cX7_revoke 90 = .ok (.iaload, 1) := by decide +kernel
theorem dX7_revoke_91 : decode cX7_revoke 91 = .ok (.ifCond .ge 7, 3) := by decide +kernel
theorem dX7_revoke_94 : decode cX7_revoke 94 = .ok (.iconst 1, 1) := by decide +kernel
theorem dX7_revoke_95 : decode cX7_revoke 95 = .ok (.goto 4, 3) := by decide +kernel
theorem dX7_revoke_98 : decode cX7_revoke 98 = .ok (.iconst 0, 1) := by decide +kernel
theorem dX7_revoke_99 : decode cX7_revoke 99 = .ok (.iadd, 1) := by decide +kernel
theorem dX7_revoke_100 : decode cX7_revoke 100 = .ok (.istore_n 2, 1) := by decide +kernel
theorem dX7_revoke_101 : decode cX7_revoke 101 = .ok (.iinc 3 1, 3) := by decide +kernel
theorem dX7_revoke_104 : decode cX7_revoke 104 = .ok (.goto (-52), 3) := by decide +kernel
theorem dX7_revoke_107 : decode cX7_revoke 107 = .ok (.iload_n 2, 1) := by decide +kernel
theorem dX7_revoke_108 : decode cX7_revoke 108 = .ok (.ireturn, 1) := by decide +kernel
theorem dX7_publish_0 : decode cX7_publish 0 = .ok (.aload_n 0, 1) := by decide +kernel
theorem dX7_publish_1 : decode cX7_publish 1 = .ok (.iload_n 1, 1) := by decide +kernel
theorem dX7_publish_2 : decode cX7_publish 2 = .ok (.invokevirtual 99, 3) := by decide +kernel
theorem dX7_publish_5 : decode cX7_publish 5 = .ok (.ifCond .ne 25, 3) := by decide +kernel
theorem dX7_publish_8 : decode cX7_publish 8 = .ok (.aload_n 0, 1) := by decide +kernel
theorem dX7_publish_9 : decode cX7_publish 9 = .ok (.aload_n 0, 1) := by decide +kernel
theorem dX7_publish_10 : decode cX7_publish 10 = .ok (.getfield 40, 3) := by decide +kernel
theorem dX7_publish_13 : decode cX7_publish 13 = .ok (.iload_n 1, 1) := by decide +kernel
theorem dX7_publish_14 : decode cX7_publish 14 = .ok (.baload, 1) := by decide +kernel
theorem dX7_publish_15 : decode cX7_publish 15 = .ok (.ifCond .ne 7, 3) := by decide +kernel
theorem dX7_publish_18 : decode cX7_publish 18 = .ok (.iconst 1, 1) := by decide +kernel
theorem dX7_publish_19 : decode cX7_publish 19 = .ok (.goto 4, 3) := by decide +kernel
theorem dX7_publish_22 : decode cX7_publish 22 = .ok (.iconst 0, 1) := by decide +kernel
theorem dX7_publish_23 : decode cX7_publish 23 = .ok (.iconst 2, 1) := by decide +kernel
theorem dX7_publish_24 : decode cX7_publish 24 = .ok (.invokevirtual 78, 3) := by decide +kernel
theorem dX7_publish_27 : decode cX7_publish 27 = .ok (.ifCond .eq 5, 3) := by decide +kernel
theorem dX7_publish_30 : decode cX7_publish 30 = .ok (.iconst 0, 1) := by decide +kernel
theorem dX7_publish_31 : decode cX7_publish 31 = .ok (.ireturn, 1) := by decide +kernel
theorem dX7_publish_32 : decode cX7_publish 32 = .ok (.iconst 0, 1) := by decide +kernel
theorem dX7_publish_33 : decode cX7_publish 33 = .ok (.istore_n 2, 1) := by decide +kernel
theorem dX7_publish_34 : decode cX7_publish 34 = .ok (.iconst 0, 1) := by decide +kernel
theorem dX7_publish_35 : decode cX7_publish 35 = .ok (.istore_n 3, 1) := by decide +kernel
theorem dX7_publish_36 : decode cX7_publish 36 = .ok (.iload_n 3, 1) := by decide +kernel
theorem dX7_publish_37 : decode cX7_publish 37 = .ok (.aload_n 0, 1) := by decide +kernel
theorem dX7_publish_38 : decode cX7_publish 38 = .ok (.getfield 71, 3) := by decide +kernel
theorem dX7_publish_41 : decode cX7_publish 41 = .ok (.if_icmp .ge 86, 3) := by decide +kernel
theorem dX7_publish_44 : decode cX7_publish 44 = .ok (.aload_n 0, 1) := by decide +kernel
theorem dX7_publish_45 : decode cX7_publish 45 = .ok (.getfield 25, 3) := by decide +kernel
theorem dX7_publish_48 : decode cX7_publish 48 = .ok (.iload_n 3, 1) := by decide +kernel
theorem dX7_publish_49 : decode cX7_publish 49 = .ok (.iaload, 1) := by decide +kernel
theorem dX7_publish_50 : decode cX7_publish 50 = .ok (.aload_n 0, 1) := by decide +kernel
theorem dX7_publish_51 : decode cX7_publish 51 = .ok (.getfield 13, 3) := by decide +kernel
theorem dX7_publish_54 : decode cX7_publish 54 = .ok (.iload_n 1, 1) := by decide +kernel
theorem dX7_publish_55 : decode cX7_publish 55 = .ok (.iaload, 1) := by decide +kernel
theorem dX7_publish_56 : decode cX7_publish 56 = .ok (.if_icmp .ne 25, 3) := by decide +kernel
theorem dX7_publish_59 : decode cX7_publish 59 = .ok (.aload_n 0, 1) := by decide +kernel
theorem dX7_publish_60 : decode cX7_publish 60 = .ok (.getfield 50, 3) := by decide +kernel
theorem dX7_publish_63 : decode cX7_publish 63 = .ok (.iload_n 3, 1) := by decide +kernel
theorem dX7_publish_64 : decode cX7_publish 64 = .ok (.baload, 1) := by decide +kernel
theorem dX7_publish_65 : decode cX7_publish 65 = .ok (.ifCond .eq 16, 3) := by decide +kernel
theorem dX7_publish_68 : decode cX7_publish 68 = .ok (.aload_n 0, 1) := by decide +kernel
theorem dX7_publish_69 : decode cX7_publish 69 = .ok (.getfield 37, 3) := by decide +kernel
theorem dX7_publish_72 : decode cX7_publish 72 = .ok (.iload_n 3, 1) := by decide +kernel
theorem dX7_publish_73 : decode cX7_publish 73 = .ok (.iaload, 1) := by decide +kernel
theorem dX7_publish_74 : decode cX7_publish 74 = .ok (.ifCond .ge 7, 3) := by decide +kernel
theorem dX7_publish_77 : decode cX7_publish 77 = .ok (.iconst 1, 1) := by decide +kernel
theorem dX7_publish_78 : decode cX7_publish 78 = .ok (.goto 4, 3) := by decide +kernel
theorem dX7_publish_81 : decode cX7_publish 81 = .ok (.iconst 0, 1) := by decide +kernel
theorem dX7_publish_82 : decode cX7_publish 82 = .ok (.istore 4, 2) := by decide +kernel
theorem dX7_publish_84 : decode cX7_publish 84 = .ok (.aload_n 0, 1) := by decide +kernel
theorem dX7_publish_85 : decode cX7_publish 85 = .ok (.getfield 37, 3) := by decide +kernel
theorem dX7_publish_88 : decode cX7_publish 88 = .ok (.iload_n 3, 1) := by decide +kernel
theorem dX7_publish_89 : decode cX7_publish 89 = .ok (.iload 4, 2) := by decide +kernel
theorem dX7_publish_91 : decode cX7_publish 91 = .ok (.ifCond .eq 10, 3) := by decide +kernel
theorem dX7_publish_94 : decode cX7_publish 94 = .ok (.aload_n 0, 1) := by decide +kernel
theorem dX7_publish_95 : decode cX7_publish 95 = .ok (.getfield 82, 3) := by decide +kernel
theorem dX7_publish_98 : decode cX7_publish 98 = .ok (.goto 9, 3) := by decide +kernel
theorem dX7_publish_101 : decode cX7_publish 101 = .ok (.aload_n 0, 1) := by decide +kernel
theorem dX7_publish_102 : decode cX7_publish 102 = .ok (.getfield 37, 3) := by decide +kernel
theorem dX7_publish_105 : decode cX7_publish 105 = .ok (.iload_n 3, 1) := by decide +kernel
theorem dX7_publish_106 : decode cX7_publish 106 = .ok (.iaload, 1) := by decide +kernel
theorem dX7_publish_107 : decode cX7_publish 107 = .ok (.iastore, 1) := by decide +kernel
theorem dX7_publish_108 : decode cX7_publish 108 = .ok (.iload_n 2, 1) := by decide +kernel
theorem dX7_publish_109 : decode cX7_publish 109 = .ok (.iload 4, 2) := by decide +kernel
theorem dX7_publish_111 : decode cX7_publish 111 = .ok (.ifCond .eq 7, 3) := by decide +kernel
theorem dX7_publish_114 : decode cX7_publish 114 = .ok (.iconst 1, 1) := by decide +kernel
theorem dX7_publish_115 : decode cX7_publish 115 = .ok (.goto 4, 3) := by decide +kernel
theorem dX7_publish_118 : decode cX7_publish 118 = .ok (.iconst 0, 1) := by decide +kernel
theorem dX7_publish_119 : decode cX7_publish 119 = .ok (.iadd, 1) := by decide +kernel
theorem dX7_publish_120 : decode cX7_publish 120 = .ok (.istore_n 2, 1) := by decide +kernel
theorem dX7_publish_121 : decode cX7_publish 121 = .ok (.iinc 3 1, 3) := by decide +kernel
theorem dX7_publish_124 : decode cX7_publish 124 = .ok (.goto (-88), 3) := by decide +kernel
theorem dX7_publish_127 : decode cX7_publish 127 = .ok (.iload_n 2, 1) := by decide +kernel
theorem dX7_publish_128 : decode cX7_publish 128 = .ok (.ireturn, 1) := by decide +kernel
theorem dX7_pass_0 : decode cX7_pass 0 = .ok (.aload_n 0, 1) := by decide +kernel
theorem dX7_pass_1 : decode cX7_pass 1 = .ok (.iload_n 1, 1) := by decide +kernel
theorem dX7_pass_2 : decode cX7_pass 2 = .ok (.iconst 1, 1) := by decide +kernel
theorem dX7_pass_3 : decode cX7_pass 3 = .ok (.sipush 999, 3) := by decide +kernel
theorem dX7_pass_6 : decode cX7_pass 6 = .ok (.invokestatic 67, 3) := by decide +kernel
theorem dX7_pass_9 : decode cX7_pass 9 = .ok (.ifCond .ne 7, 3) := by decide +kernel
theorem dX7_pass_12 : decode cX7_pass 12 = .ok (.iconst 1, 1) := by decide +kernel
theorem dX7_pass_13 : decode cX7_pass 13 = .ok (.goto 4, 3) := by decide +kernel
theorem dX7_pass_16 : decode cX7_pass 16 = .ok (.iconst 0, 1) := by decide +kernel
theorem dX7_pass_17 : decode cX7_pass 17 = .ok (.iconst 1, 1) := by decide +kernel
theorem dX7_pass_18 : decode cX7_pass 18 = .ok (.invokevirtual 78, 3) := by decide +kernel
theorem dX7_pass_21 : decode cX7_pass 21 = .ok (.ifCond .eq 5, 3) := by decide +kernel
theorem dX7_pass_24 : decode cX7_pass 24 = .ok (.iconst 0, 1) := by decide +kernel
theorem dX7_pass_25 : decode cX7_pass 25 = .ok (.ireturn, 1) := by decide +kernel
theorem dX7_pass_26 : decode cX7_pass 26 = .ok (.aload_n 0, 1) := by decide +kernel
theorem dX7_pass_27 : decode cX7_pass 27 = .ok (.dup, 1) := by decide +kernel
theorem dX7_pass_28 : decode cX7_pass 28 = .ok (.getfield 82, 3) := by decide +kernel
theorem dX7_pass_31 : decode cX7_pass 31 = .ok (.iload_n 1, 1) := by decide +kernel
theorem dX7_pass_32 : decode cX7_pass 32 = .ok (.iadd, 1) := by decide +kernel
theorem dX7_pass_33 : decode cX7_pass 33 = .ok (.putfield 82, 3) := by decide +kernel
theorem dX7_pass_36 : decode cX7_pass 36 = .ok (.aload_n 0, 1) := by decide +kernel
theorem dX7_pass_37 : decode cX7_pass 37 = .ok (.getfield 82, 3) := by decide +kernel
theorem dX7_pass_40 : decode cX7_pass 40 = .ok (.ireturn, 1) := by decide +kernel
theorem dX7_isOff_0 : decode cX7_isOff 0 = .ok (.aload_n 0, 1) := by decide +kernel
theorem dX7_isOff_1 : decode cX7_isOff 1 = .ok (.getfield 37, 3) := by decide +kernel
theorem dX7_isOff_4 : decode cX7_isOff 4 = .ok (.iload_n 1, 1) := by decide +kernel
theorem dX7_isOff_5 : decode cX7_isOff 5 = .ok (.iaload, 1) := by decide +kernel
theorem dX7_isOff_6 : decode cX7_isOff 6 = .ok (.ifCond .lt 17, 3) := by decide +kernel
theorem dX7_isOff_9 : decode cX7_isOff 9 = .ok (.aload_n 0, 1) := by decide +kernel
theorem dX7_isOff_10 : decode cX7_isOff 10 = .ok (.getfield 37, 3) := by decide +kernel
theorem dX7_isOff_13 : decode cX7_isOff 13 = .ok (.iload_n 1, 1) := by decide +kernel
theorem dX7_isOff_14 : decode cX7_isOff 14 = .ok (.iaload, 1) := by decide +kernel
theorem dX7_isOff_15 : decode cX7_isOff 15 = .ok (.iload_n 2, 1) := by decide +kernel
theorem dX7_isOff_16 : decode cX7_isOff 16 = .ok (.if_icmp .gt 7, 3) := by decide +kernel
theorem dX7_isOff_19 : decode cX7_isOff 19 = .ok (.iconst 1, 1) := by decide +kernel
theorem dX7_isOff_20 : decode cX7_isOff 20 = .ok (.goto 4, 3) := by decide +kernel
theorem dX7_isOff_23 : decode cX7_isOff 23 = .ok (.iconst 0, 1) := by decide +kernel
theorem dX7_isOff_24 : decode cX7_isOff 24 = .ok (.ireturn, 1) := by decide +kernel
theorem dX7_isValid_0 : decode cX7_isValid 0 = .ok (.iload_n 2, 1) := by decide +kernel
theorem dX7_isValid_1 : decode cX7_isValid 1 = .ok (.aload_n 0, 1) := by decide +kernel
theorem dX7_isValid_2 : decode cX7_isValid 2 = .ok (.getfield 16, 3) := by decide +kernel
theorem dX7_isValid_5 : decode cX7_isValid 5 = .ok (.iload_n 1, 1) := by decide +kernel
theorem dX7_isValid_6 : decode cX7_isValid 6 = .ok (.iaload, 1) := by decide +kernel
theorem dX7_isValid_7 : decode cX7_isValid 7 = .ok (.aload_n 0, 1) := by decide +kernel
theorem dX7_isValid_8 : decode cX7_isValid 8 = .ok (.getfield 19, 3) := by decide +kernel
theorem dX7_isValid_11 : decode cX7_isValid 11 = .ok (.iload_n 1, 1) := by decide +kernel
theorem dX7_isValid_12 : decode cX7_isValid 12 = .ok (.iaload, 1) := by decide +kernel
theorem dX7_isValid_13 : decode cX7_isValid 13 = .ok (.invokestatic 67, 3) := by decide +kernel
theorem dX7_isValid_16 : decode cX7_isValid 16 = .ok (.ireturn, 1) := by decide +kernel
theorem dX7_tells_0 : decode cX7_tells 0 = .ok (.aload_n 0, 1) := by decide +kernel
theorem dX7_tells_1 : decode cX7_tells 1 = .ok (.iconst 0, 1) := by decide +kernel
theorem dX7_tells_2 : decode cX7_tells 2 = .ok (.putfield 63, 3) := by decide +kernel
theorem dX7_tells_5 : decode cX7_tells 5 = .ok (.iload_n 1, 1) := by decide +kernel
theorem dX7_tells_6 : decode cX7_tells 6 = .ok (.ireturn, 1) := by decide +kernel
theorem dX7_day_0 : decode cX7_day 0 = .ok (.aload_n 0, 1) := by decide +kernel
theorem dX7_day_1 : decode cX7_day 1 = .ok (.aload_n 0, 1) := by decide +kernel
theorem dX7_day_2 : decode cX7_day 2 = .ok (.getfield 82, 3) := by decide +kernel
theorem dX7_day_5 : decode cX7_day 5 = .ok (.invokevirtual 113, 3) := by decide +kernel
theorem dX7_day_8 : decode cX7_day 8 = .ok (.ireturn, 1) := by decide +kernel
theorem dX7_certificates_0 : decode cX7_certificates 0 = .ok (.aload_n 0, 1) := by decide +kernel
theorem dX7_certificates_1 : decode cX7_certificates 1 = .ok (.aload_n 0, 1) := by decide +kernel
theorem dX7_certificates_2 : decode cX7_certificates 2 = .ok (.getfield 71, 3) := by decide +kernel
theorem dX7_certificates_5 : decode cX7_certificates 5 = .ok (.invokevirtual 113, 3) := by decide +kernel
theorem dX7_certificates_8 : decode cX7_certificates 8 = .ok (.ireturn, 1) := by decide +kernel
theorem dX7_nameOf_0 : decode cX7_nameOf 0 = .ok (.aload_n 0, 1) := by decide +kernel
theorem dX7_nameOf_1 : decode cX7_nameOf 1 = .ok (.iload_n 1, 1) := by decide +kernel
theorem dX7_nameOf_2 : decode cX7_nameOf 2 = .ok (.invokevirtual 99, 3) := by decide +kernel
theorem dX7_nameOf_5 : decode cX7_nameOf 5 = .ok (.ifCond .eq 7, 3) := by decide +kernel
theorem dX7_nameOf_8 : decode cX7_nameOf 8 = .ok (.iconst 0, 1) := by decide +kernel
theorem dX7_nameOf_9 : decode cX7_nameOf 9 = .ok (.goto 9, 3) := by decide +kernel
theorem dX7_nameOf_12 : decode cX7_nameOf 12 = .ok (.aload_n 0, 1) := by decide +kernel
theorem dX7_nameOf_13 : decode cX7_nameOf 13 = .ok (.getfield 9, 3) := by decide +kernel
theorem dX7_nameOf_16 : decode cX7_nameOf 16 = .ok (.iload_n 1, 1) := by decide +kernel
theorem dX7_nameOf_17 : decode cX7_nameOf 17 = .ok (.iaload, 1) := by decide +kernel
theorem dX7_nameOf_18 : decode cX7_nameOf 18 = .ok (.ireturn, 1) := by decide +kernel
theorem dX7_keyOf_0 : decode cX7_keyOf 0 = .ok (.aload_n 0, 1) := by decide +kernel
theorem dX7_keyOf_1 : decode cX7_keyOf 1 = .ok (.iload_n 1, 1) := by decide +kernel
theorem dX7_keyOf_2 : decode cX7_keyOf 2 = .ok (.invokevirtual 99, 3) := by decide +kernel
theorem dX7_keyOf_5 : decode cX7_keyOf 5 = .ok (.ifCond .eq 7, 3) := by decide +kernel
theorem dX7_keyOf_8 : decode cX7_keyOf 8 = .ok (.iconst 0, 1) := by decide +kernel
theorem dX7_keyOf_9 : decode cX7_keyOf 9 = .ok (.goto 9, 3) := by decide +kernel
theorem dX7_keyOf_12 : decode cX7_keyOf 12 = .ok (.aload_n 0, 1) := by decide +kernel
theorem dX7_keyOf_13 : decode cX7_keyOf 13 = .ok (.getfield 13, 3) := by decide +kernel
theorem dX7_keyOf_16 : decode cX7_keyOf 16 = .ok (.iload_n 1, 1) := by decide +kernel
theorem dX7_keyOf_17 : decode cX7_keyOf 17 = .ok (.iaload, 1) := by decide +kernel
theorem dX7_keyOf_18 : decode cX7_keyOf 18 = .ok (.ireturn, 1) := by decide +kernel
theorem dX7_issuerKeyOf_0 : decode cX7_issuerKeyOf 0 = .ok (.aload_n 0, 1) := by decide +kernel
theorem dX7_issuerKeyOf_1 : decode cX7_issuerKeyOf 1 = .ok (.iload_n 1, 1) := by decide +kernel
theorem dX7_issuerKeyOf_2 : decode cX7_issuerKeyOf 2 = .ok (.invokevirtual 99, 3) := by decide +kernel
theorem dX7_issuerKeyOf_5 : decode cX7_issuerKeyOf 5 = .ok (.ifCond .eq 7, 3) := by decide +kernel
theorem dX7_issuerKeyOf_8 : decode cX7_issuerKeyOf 8 = .ok (.iconst 0, 1) := by decide +kernel
theorem dX7_issuerKeyOf_9 : decode cX7_issuerKeyOf 9 = .ok (.goto 9, 3) := by decide +kernel
theorem dX7_issuerKeyOf_12 : decode cX7_issuerKeyOf 12 = .ok (.aload_n 0, 1) := by decide +kernel
theorem dX7_issuerKeyOf_13 : decode cX7_issuerKeyOf 13 = .ok (.getfield 25, 3) := by decide +kernel
theorem dX7_issuerKeyOf_16 : decode cX7_issuerKeyOf 16 = .ok (.iload_n 1, 1) := by decide +kernel
theorem dX7_issuerKeyOf_17 : decode cX7_issuerKeyOf 17 = .ok (.iaload, 1) := by decide +kernel
theorem dX7_issuerKeyOf_18 : decode cX7_issuerKeyOf 18 = .ok (.ireturn, 1) := by decide +kernel
theorem dX7_lastDayOf_0 : decode cX7_lastDayOf 0 = .ok (.aload_n 0, 1) := by decide +kernel
theorem dX7_lastDayOf_1 : decode cX7_lastDayOf 1 = .ok (.iload_n 1, 1) := by decide +kernel
theorem dX7_lastDayOf_2 : decode cX7_lastDayOf 2 = .ok (.invokevirtual 99, 3) := by decide +kernel
theorem dX7_lastDayOf_5 : decode cX7_lastDayOf 5 = .ok (.ifCond .eq 7, 3) := by decide +kernel
theorem dX7_lastDayOf_8 : decode cX7_lastDayOf 8 = .ok (.iconst 0, 1) := by decide +kernel
theorem dX7_lastDayOf_9 : decode cX7_lastDayOf 9 = .ok (.goto 9, 3) := by decide +kernel
theorem dX7_lastDayOf_12 : decode cX7_lastDayOf 12 = .ok (.aload_n 0, 1) := by decide +kernel
theorem dX7_lastDayOf_13 : decode cX7_lastDayOf 13 = .ok (.getfield 19, 3) := by decide +kernel
theorem dX7_lastDayOf_16 : decode cX7_lastDayOf 16 = .ok (.iload_n 1, 1) := by decide +kernel
theorem dX7_lastDayOf_17 : decode cX7_lastDayOf 17 = .ok (.iaload, 1) := by decide +kernel
theorem dX7_lastDayOf_18 : decode cX7_lastDayOf 18 = .ok (.ireturn, 1) := by decide +kernel
theorem dX7_kindOf_0 : decode cX7_kindOf 0 = .ok (.aload_n 0, 1) := by decide +kernel
theorem dX7_kindOf_1 : decode cX7_kindOf 1 = .ok (.iload_n 1, 1) := by decide +kernel
theorem dX7_kindOf_2 : decode cX7_kindOf 2 = .ok (.invokevirtual 99, 3) := by decide +kernel
theorem dX7_kindOf_5 : decode cX7_kindOf 5 = .ok (.ifCond .eq 7, 3) := by decide +kernel
theorem dX7_kindOf_8 : decode cX7_kindOf 8 = .ok (.iconst 0, 1) := by decide +kernel
theorem dX7_kindOf_9 : decode cX7_kindOf 9 = .ok (.goto 33, 3) := by decide +kernel
theorem dX7_kindOf_12 : decode cX7_kindOf 12 = .ok (.aload_n 0, 1) := by decide +kernel
theorem dX7_kindOf_13 : decode cX7_kindOf 13 = .ok (.getfield 44, 3) := by decide +kernel
theorem dX7_kindOf_16 : decode cX7_kindOf 16 = .ok (.iload_n 1, 1) := by decide +kernel
theorem dX7_kindOf_17 : decode cX7_kindOf 17 = .ok (.baload, 1) := by decide +kernel
theorem dX7_kindOf_18 : decode cX7_kindOf 18 = .ok (.ifCond .eq 8, 3) := by decide +kernel
theorem dX7_kindOf_21 : decode cX7_kindOf 21 = .ok (.bipush 114, 2) := by decide +kernel
theorem dX7_kindOf_23 : decode cX7_kindOf 23 = .ok (.goto 19, 3) := by decide +kernel
theorem dX7_kindOf_26 : decode cX7_kindOf 26 = .ok (.aload_n 0, 1) := by decide +kernel
theorem dX7_kindOf_27 : decode cX7_kindOf 27 = .ok (.getfield 40, 3) := by decide +kernel
theorem dX7_kindOf_30 : decode cX7_kindOf 30 = .ok (.iload_n 1, 1) := by decide +kernel
theorem dX7_kindOf_31 : decode cX7_kindOf 31 = .ok (.baload, 1) := by decide +kernel
theorem dX7_kindOf_32 : decode cX7_kindOf 32 = .ok (.ifCond .eq 8, 3) := by decide +kernel
theorem dX7_kindOf_35 : decode cX7_kindOf 35 = .ok (.bipush 97, 2) := by decide +kernel
theorem dX7_kindOf_37 : decode cX7_kindOf 37 = .ok (.goto 5, 3) := by decide +kernel
theorem dX7_kindOf_40 : decode cX7_kindOf 40 = .ok (.bipush 101, 2) := by decide +kernel
theorem dX7_kindOf_42 : decode cX7_kindOf 42 = .ok (.ireturn, 1) := by decide +kernel
theorem dX7_isBelow_0 : decode cX7_isBelow 0 = .ok (.aload_n 0, 1) := by decide +kernel
theorem dX7_isBelow_1 : decode cX7_isBelow 1 = .ok (.iload_n 1, 1) := by decide +kernel
theorem dX7_isBelow_2 : decode cX7_isBelow 2 = .ok (.invokestatic 85, 3) := by decide +kernel
theorem dX7_isBelow_5 : decode cX7_isBelow 5 = .ok (.ifCond .eq 10, 3) := by decide +kernel
theorem dX7_isBelow_8 : decode cX7_isBelow 8 = .ok (.iload_n 2, 1) := by decide +kernel
theorem dX7_isBelow_9 : decode cX7_isBelow 9 = .ok (.invokestatic 85, 3) := by decide +kernel
theorem dX7_isBelow_12 : decode cX7_isBelow 12 = .ok (.ifCond .ne 7, 3) := by decide +kernel
theorem dX7_isBelow_15 : decode cX7_isBelow 15 = .ok (.iconst 1, 1) := by decide +kernel
theorem dX7_isBelow_16 : decode cX7_isBelow 16 = .ok (.goto 4, 3) := by decide +kernel
theorem dX7_isBelow_19 : decode cX7_isBelow 19 = .ok (.iconst 0, 1) := by decide +kernel
theorem dX7_isBelow_20 : decode cX7_isBelow 20 = .ok (.iconst 1, 1) := by decide +kernel
theorem dX7_isBelow_21 : decode cX7_isBelow 21 = .ok (.invokevirtual 78, 3) := by decide +kernel
theorem dX7_isBelow_24 : decode cX7_isBelow 24 = .ok (.ifCond .ne 15, 3) := by decide +kernel
theorem dX7_isBelow_27 : decode cX7_isBelow 27 = .ok (.iload_n 1, 1) := by decide +kernel
theorem dX7_isBelow_28 : decode cX7_isBelow 28 = .ok (.iload_n 2, 1) := by decide +kernel
theorem dX7_isBelow_29 : decode cX7_isBelow 29 = .ok (.invokestatic 116, 3) := by decide +kernel
theorem dX7_isBelow_32 : decode cX7_isBelow 32 = .ok (.ifCond .eq 7, 3) := by decide +kernel
theorem dX7_isBelow_35 : decode cX7_isBelow 35 = .ok (.iconst 1, 1) := by decide +kernel
theorem dX7_isBelow_36 : decode cX7_isBelow 36 = .ok (.goto 4, 3) := by decide +kernel
theorem dX7_isBelow_39 : decode cX7_isBelow 39 = .ok (.iconst 0, 1) := by decide +kernel
theorem dX7_isBelow_40 : decode cX7_isBelow 40 = .ok (.ireturn, 1) := by decide +kernel
theorem dX7_isWrong_0 : decode cX7_isWrong 0 = .ok (.aload_n 0, 1) := by decide +kernel
theorem dX7_isWrong_1 : decode cX7_isWrong 1 = .ok (.iload_n 1, 1) := by decide +kernel
theorem dX7_isWrong_2 : decode cX7_isWrong 2 = .ok (.invokevirtual 99, 3) := by decide +kernel
theorem dX7_isWrong_5 : decode cX7_isWrong 5 = .ok (.ifCond .ne 20, 3) := by decide +kernel
theorem dX7_isWrong_8 : decode cX7_isWrong 8 = .ok (.aload_n 0, 1) := by decide +kernel
theorem dX7_isWrong_9 : decode cX7_isWrong 9 = .ok (.iload_n 2, 1) := by decide +kernel
theorem dX7_isWrong_10 : decode cX7_isWrong 10 = .ok (.ifCond .ge 7, 3) := by decide +kernel
theorem dX7_isWrong_13 : decode cX7_isWrong 13 = .ok (.iconst 1, 1) := by decide +kernel
theorem dX7_isWrong_14 : decode cX7_isWrong 14 = .ok (.goto 4, 3) := by decide +kernel
theorem dX7_isWrong_17 : decode cX7_isWrong 17 = .ok (.iconst 0, 1) := by decide +kernel
theorem dX7_isWrong_18 : decode cX7_isWrong 18 = .ok (.iconst 2, 1) := by decide +kernel
theorem dX7_isWrong_19 : decode cX7_isWrong 19 = .ok (.invokevirtual 78, 3) := by decide +kernel
theorem dX7_isWrong_22 : decode cX7_isWrong 22 = .ok (.ifCond .eq 7, 3) := by decide +kernel
theorem dX7_isWrong_25 : decode cX7_isWrong 25 = .ok (.iconst 1, 1) := by decide +kernel
theorem dX7_isWrong_26 : decode cX7_isWrong 26 = .ok (.goto 4, 3) := by decide +kernel
theorem dX7_isWrong_29 : decode cX7_isWrong 29 = .ok (.iconst 0, 1) := by decide +kernel
theorem dX7_isWrong_30 : decode cX7_isWrong 30 = .ok (.ireturn, 1) := by decide +kernel
theorem dX7_isRevoked_0 : decode cX7_isRevoked 0 = .ok (.aload_n 0, 1) := by decide +kernel
theorem dX7_isRevoked_1 : decode cX7_isRevoked 1 = .ok (.iload_n 1, 1) := by decide +kernel
theorem dX7_isRevoked_2 : decode cX7_isRevoked 2 = .ok (.iload_n 2, 1) := by decide +kernel
theorem dX7_isRevoked_3 : decode cX7_isRevoked 3 = .ok (.invokevirtual 120, 3) := by decide +kernel
theorem dX7_isRevoked_6 : decode cX7_isRevoked 6 = .ok (.ifCond .ne 16, 3) := by decide +kernel
theorem dX7_isRevoked_9 : decode cX7_isRevoked 9 = .ok (.aload_n 0, 1) := by decide +kernel
theorem dX7_isRevoked_10 : decode cX7_isRevoked 10 = .ok (.iload_n 1, 1) := by decide +kernel
theorem dX7_isRevoked_11 : decode cX7_isRevoked 11 = .ok (.iload_n 2, 1) := by decide +kernel
theorem dX7_isRevoked_12 : decode cX7_isRevoked 12 = .ok (.invokevirtual 123, 3) := by decide +kernel
theorem dX7_isRevoked_15 : decode cX7_isRevoked 15 = .ok (.ifCond .eq 7, 3) := by decide +kernel
theorem dX7_isRevoked_18 : decode cX7_isRevoked 18 = .ok (.iconst 1, 1) := by decide +kernel
theorem dX7_isRevoked_19 : decode cX7_isRevoked 19 = .ok (.goto 4, 3) := by decide +kernel
theorem dX7_isRevoked_22 : decode cX7_isRevoked 22 = .ok (.iconst 0, 1) := by decide +kernel
theorem dX7_isRevoked_23 : decode cX7_isRevoked 23 = .ok (.ireturn, 1) := by decide +kernel
theorem dX7_isRevokedByLists_0 : decode cX7_isRevokedByLists 0 = .ok (.aload_n 0, 1) := by decide +kernel
theorem dX7_isRevokedByLists_1 : decode cX7_isRevokedByLists 1 = .ok (.iload_n 1, 1) := by decide +kernel
theorem dX7_isRevokedByLists_2 : decode cX7_isRevokedByLists 2 = .ok (.iload_n 2, 1) := by decide +kernel
theorem dX7_isRevokedByLists_3 : decode cX7_isRevokedByLists 3 = .ok (.invokevirtual 126, 3) := by decide +kernel
theorem dX7_isRevokedByLists_6 : decode cX7_isRevokedByLists 6 = .ok (.ireturn, 1) := by decide +kernel
theorem dX7_isCandidate_0 : decode cX7_isCandidate 0 = .ok (.iload_n 2, 1) := by decide +kernel
theorem dX7_isCandidate_1 : decode cX7_isCandidate 1 = .ok (.iload_n 1, 1) := by decide +kernel
theorem dX7_isCandidate_2 : decode cX7_isCandidate 2 = .ok (.if_icmp .eq 37, 3) := by decide +kernel
theorem dX7_isCandidate_5 : decode cX7_isCandidate 5 = .ok (.aload_n 0, 1) := by decide +kernel
theorem dX7_isCandidate_6 : decode cX7_isCandidate 6 = .ok (.getfield 13, 3) := by decide +kernel
theorem dX7_isCandidate_9 : decode cX7_isCandidate 9 = .ok (.iload_n 2, 1) := by decide +kernel
theorem dX7_isCandidate_10 : decode cX7_isCandidate 10 = .ok (.iaload, 1) := by decide +kernel
theorem dX7_isCandidate_11 : decode cX7_isCandidate 11 = .ok (.aload_n 0, 1) := by decide +kernel
theorem dX7_isCandidate_12 : decode cX7_isCandidate 12 = .ok (.getfield 25, 3) := by decide +kernel
theorem dX7_isCandidate_15 : decode cX7_isCandidate 15 = .ok (.iload_n 1, 1) := by decide +kernel
theorem dX7_isCandidate_16 : decode cX7_isCandidate 16 = .ok (.iaload, 1) := by decide +kernel
theorem dX7_isCandidate_17 : decode cX7_isCandidate 17 = .ok (.if_icmp .ne 22, 3) := by decide +kernel
theorem dX7_isCandidate_20 : decode cX7_isCandidate 20 = .ok (.aload_n 0, 1) := by decide +kernel
theorem dX7_isCandidate_21 : decode cX7_isCandidate 21 = .ok (.getfield 9, 3) := by decide +kernel
theorem dX7_isCandidate_24 : decode cX7_isCandidate 24 = .ok (.iload_n 2, 1) := by decide +kernel
theorem dX7_isCandidate_25 : decode cX7_isCandidate 25 = .ok (.iaload, 1) := by decide +kernel
theorem dX7_isCandidate_26 : decode cX7_isCandidate 26 = .ok (.aload_n 0, 1) := by decide +kernel
theorem dX7_isCandidate_27 : decode cX7_isCandidate 27 = .ok (.getfield 22, 3) := by decide +kernel
theorem dX7_isCandidate_30 : decode cX7_isCandidate 30 = .ok (.iload_n 1, 1) := by decide +kernel
theorem dX7_isCandidate_31 : decode cX7_isCandidate 31 = .ok (.iaload, 1) := by decide +kernel
theorem dX7_isCandidate_32 : decode cX7_isCandidate 32 = .ok (.if_icmp .ne 7, 3) := by decide +kernel
theorem dX7_isCandidate_35 : decode cX7_isCandidate 35 = .ok (.iconst 1, 1) := by decide +kernel
theorem dX7_isCandidate_36 : decode cX7_isCandidate 36 = .ok (.goto 4, 3) := by decide +kernel
theorem dX7_isCandidate_39 : decode cX7_isCandidate 39 = .ok (.iconst 0, 1) := by decide +kernel
theorem dX7_isCandidate_40 : decode cX7_isCandidate 40 = .ok (.ireturn, 1) := by decide +kernel
theorem dX7_candidates_0 : decode cX7_candidates 0 = .ok (.aload_n 0, 1) := by decide +kernel
theorem dX7_candidates_1 : decode cX7_candidates 1 = .ok (.iload_n 1, 1) := by decide +kernel
theorem dX7_candidates_2 : decode cX7_candidates 2 = .ok (.invokevirtual 99, 3) := by decide +kernel
theorem dX7_candidates_5 : decode cX7_candidates 5 = .ok (.ifCond .eq 5, 3) := by decide +kernel
theorem dX7_candidates_8 : decode cX7_candidates 8 = .ok (.iconst 0, 1) := by decide +kernel
theorem dX7_candidates_9 : decode cX7_candidates 9 = .ok (.ireturn, 1) := by decide +kernel
theorem dX7_candidates_10 : decode cX7_candidates 10 = .ok (.iconst 0, 1) := by decide +kernel
theorem dX7_candidates_11 : decode cX7_candidates 11 = .ok (.istore_n 2, 1) := by decide +kernel
theorem dX7_candidates_12 : decode cX7_candidates 12 = .ok (.iconst 0, 1) := by decide +kernel
theorem dX7_candidates_13 : decode cX7_candidates 13 = .ok (.istore_n 3, 1) := by decide +kernel
theorem dX7_candidates_14 : decode cX7_candidates 14 = .ok (.iload_n 3, 1) := by decide +kernel
theorem dX7_candidates_15 : decode cX7_candidates 15 = .ok (.aload_n 0, 1) := by decide +kernel
theorem dX7_candidates_16 : decode cX7_candidates 16 = .ok (.getfield 71, 3) := by decide +kernel
theorem dX7_candidates_19 : decode cX7_candidates 19 = .ok (.if_icmp .ge 26, 3) := by decide +kernel
theorem dX7_candidates_22 : decode cX7_candidates 22 = .ok (.iload_n 2, 1) := by decide +kernel
theorem dX7_candidates_23 : decode cX7_candidates 23 = .ok (.aload_n 0, 1) := by decide +kernel
theorem dX7_candidates_24 : decode cX7_candidates 24 = .ok (.iload_n 1, 1) := by decide +kernel
theorem dX7_candidates_25 : decode cX7_candidates 25 = .ok (.iload_n 3, 1) := by decide +kernel
theorem dX7_candidates_26 : decode cX7_candidates 26 = .ok (.invokevirtual 129, 3) := by decide +kernel
theorem dX7_candidates_29 : decode cX7_candidates 29 = .ok (.ifCond .eq 7, 3) := by decide +kernel
theorem dX7_candidates_32 : decode cX7_candidates 32 = .ok (.iconst 1, 1) := by decide +kernel
theorem dX7_candidates_33 : decode cX7_candidates 33 = .ok (.goto 4, 3) := by decide +kernel
theorem dX7_candidates_36 : decode cX7_candidates 36 = .ok (.iconst 0, 1) := by decide +kernel
theorem dX7_candidates_37 : decode cX7_candidates 37 = .ok (.iadd, 1) := by decide +kernel
theorem dX7_candidates_38 : decode cX7_candidates 38 = .ok (.istore_n 2, 1) := by decide +kernel
theorem dX7_candidates_39 : decode cX7_candidates 39 = .ok (.iinc 3 1, 3) := by decide +kernel
theorem dX7_candidates_42 : decode cX7_candidates 42 = .ok (.goto (-28), 3) := by decide +kernel
theorem dX7_candidates_45 : decode cX7_candidates 45 = .ok (.iload_n 2, 1) := by decide +kernel
theorem dX7_candidates_46 : decode cX7_candidates 46 = .ok (.ireturn, 1) := by decide +kernel
theorem dX7_candidate_0 : decode cX7_candidate 0 = .ok (.iconst 0, 1) := by decide +kernel
theorem dX7_candidate_1 : decode cX7_candidate 1 = .ok (.istore_n 3, 1) := by decide +kernel
theorem dX7_candidate_2 : decode cX7_candidate 2 = .ok (.iconst 0, 1) := by decide +kernel
theorem dX7_candidate_3 : decode cX7_candidate 3 = .ok (.istore 4, 2) := by decide +kernel
theorem dX7_candidate_5 : decode cX7_candidate 5 = .ok (.iload 4, 2) := by decide +kernel
theorem dX7_candidate_7 : decode cX7_candidate 7 = .ok (.aload_n 0, 1) := by decide +kernel
theorem dX7_candidate_8 : decode cX7_candidate 8 = .ok (.getfield 71, 3) := by decide +kernel
theorem dX7_candidate_11 : decode cX7_candidate 11 = .ok (.if_icmp .ge 30, 3) := by decide +kernel
theorem dX7_candidate_14 : decode cX7_candidate 14 = .ok (.aload_n 0, 1) := by decide +kernel
theorem dX7_candidate_15 : decode cX7_candidate 15 = .ok (.iload_n 1, 1) := by decide +kernel
theorem dX7_candidate_16 : decode cX7_candidate 16 = .ok (.iload 4, 2) := by decide +kernel
theorem dX7_candidate_18 : decode cX7_candidate 18 = .ok (.invokevirtual 129, 3) := by decide +kernel
theorem dX7_candidate_21 : decode cX7_candidate 21 = .ok (.ifCond .eq 14, 3) := by decide +kernel
theorem dX7_candidate_24 : decode cX7_candidate 24 = .ok (.iload_n 3, 1) := by decide +kernel
theorem dX7_candidate_25 : decode cX7_candidate 25 = .ok (.iload_n 2, 1) := by decide +kernel
theorem dX7_candidate_26 : decode cX7_candidate 26 = .ok (.if_icmp .ne 6, 3) := by decide +kernel
theorem dX7_candidate_29 : decode cX7_candidate 29 = .ok (.iload 4, 2) := by decide +kernel
theorem dX7_candidate_31 : decode cX7_candidate 31 = .ok (.ireturn, 1) := by decide +kernel
theorem dX7_candidate_32 : decode cX7_candidate 32 = .ok (.iinc 3 1, 3) := by decide +kernel
theorem dX7_candidate_35 : decode cX7_candidate 35 = .ok (.iinc 4 1, 3) := by decide +kernel
theorem dX7_candidate_38 : decode cX7_candidate 38 = .ok (.goto (-33), 3) := by decide +kernel
theorem dX7_candidate_41 : decode cX7_candidate 41 = .ok (.iconst (-1), 1) := by decide +kernel
theorem dX7_candidate_42 : decode cX7_candidate 42 = .ok (.ireturn, 1) := by decide +kernel
theorem dX7_candidateAt_0 : decode cX7_candidateAt 0 = .ok (.aload_n 0, 1) := by decide +kernel
theorem dX7_candidateAt_1 : decode cX7_candidateAt 1 = .ok (.iload_n 1, 1) := by decide +kernel
theorem dX7_candidateAt_2 : decode cX7_candidateAt 2 = .ok (.invokevirtual 99, 3) := by decide +kernel
theorem dX7_candidateAt_5 : decode cX7_candidateAt 5 = .ok (.ifCond .eq 5, 3) := by decide +kernel
theorem dX7_candidateAt_8 : decode cX7_candidateAt 8 = .ok (.iconst 0, 1) := by decide +kernel
theorem dX7_candidateAt_9 : decode cX7_candidateAt 9 = .ok (.ireturn, 1) := by decide +kernel
theorem dX7_candidateAt_10 : decode cX7_candidateAt 10 = .ok (.aload_n 0, 1) := by decide +kernel
theorem dX7_candidateAt_11 : decode cX7_candidateAt 11 = .ok (.iload_n 1, 1) := by decide +kernel
theorem dX7_candidateAt_12 : decode cX7_candidateAt 12 = .ok (.iload_n 2, 1) := by decide +kernel
theorem dX7_candidateAt_13 : decode cX7_candidateAt 13 = .ok (.invokevirtual 132, 3) := by decide +kernel
theorem dX7_candidateAt_16 : decode cX7_candidateAt 16 = .ok (.istore_n 3, 1) := by decide +kernel
theorem dX7_candidateAt_17 : decode cX7_candidateAt 17 = .ok (.aload_n 0, 1) := by decide +kernel
theorem dX7_candidateAt_18 : decode cX7_candidateAt 18 = .ok (.iload_n 3, 1) := by decide +kernel
theorem dX7_candidateAt_19 : decode cX7_candidateAt 19 = .ok (.ifCond .ge 7, 3) := by decide +kernel
theorem dX7_candidateAt_22 : decode cX7_candidateAt 22 = .ok (.iconst 1, 1) := by decide +kernel
theorem dX7_candidateAt_23 : decode cX7_candidateAt 23 = .ok (.goto 4, 3) := by decide +kernel
theorem dX7_candidateAt_26 : decode cX7_candidateAt 26 = .ok (.iconst 0, 1) := by decide +kernel
theorem dX7_candidateAt_27 : decode cX7_candidateAt 27 = .ok (.iconst 2, 1) := by decide +kernel
theorem dX7_candidateAt_28 : decode cX7_candidateAt 28 = .ok (.invokevirtual 78, 3) := by decide +kernel
theorem dX7_candidateAt_31 : decode cX7_candidateAt 31 = .ok (.ifCond .eq 7, 3) := by decide +kernel
theorem dX7_candidateAt_34 : decode cX7_candidateAt 34 = .ok (.iconst 0, 1) := by decide +kernel
theorem dX7_candidateAt_35 : decode cX7_candidateAt 35 = .ok (.goto 4, 3) := by decide +kernel
theorem dX7_candidateAt_38 : decode cX7_candidateAt 38 = .ok (.iload_n 3, 1) := by decide +kernel
theorem dX7_candidateAt_39 : decode cX7_candidateAt 39 = .ok (.ireturn, 1) := by decide +kernel
theorem dX7_fitsNames_0 : decode cX7_fitsNames 0 = .ok (.iconst 1, 1) := by decide +kernel
theorem dX7_fitsNames_1 : decode cX7_fitsNames 1 = .ok (.istore 4, 2) := by decide +kernel
theorem dX7_fitsNames_3 : decode cX7_fitsNames 3 = .ok (.iconst 0, 1) := by decide +kernel
theorem dX7_fitsNames_4 : decode cX7_fitsNames 4 = .ok (.istore 5, 2) := by decide +kernel
theorem dX7_fitsNames_6 : decode cX7_fitsNames 6 = .ok (.iload 5, 2) := by decide +kernel
theorem dX7_fitsNames_8 : decode cX7_fitsNames 8 = .ok (.iload_n 2, 1) := by decide +kernel
theorem dX7_fitsNames_9 : decode cX7_fitsNames 9 = .ok (.if_icmp .ge 89, 3) := by decide +kernel
theorem dX7_fitsNames_12 : decode cX7_fitsNames 12 = .ok (.iload 4, 2) := by decide +kernel
theorem dX7_fitsNames_14 : decode cX7_fitsNames 14 = .ok (.aload_n 0, 1) := by decide +kernel
theorem dX7_fitsNames_15 : decode cX7_fitsNames 15 = .ok (.getfield 31, 3) := by decide +kernel
theorem dX7_fitsNames_18 : decode cX7_fitsNames 18 = .ok (.iload_n 3, 1) := by decide +kernel
theorem dX7_fitsNames_19 : decode cX7_fitsNames 19 = .ok (.iaload, 1) := by decide +kernel
theorem dX7_fitsNames_20 : decode cX7_fitsNames 20 = .ok (.ifCond .eq 24, 3) := by decide +kernel
theorem dX7_fitsNames_23 : decode cX7_fitsNames 23 = .ok (.aload_n 0, 1) := by decide +kernel
theorem dX7_fitsNames_24 : decode cX7_fitsNames 24 = .ok (.getfield 9, 3) := by decide +kernel
theorem dX7_fitsNames_27 : decode cX7_fitsNames 27 = .ok (.aload_n 1, 1) := by decide +kernel
theorem dX7_fitsNames_28 : decode cX7_fitsNames 28 = .ok (.iload 5, 2) := by decide +kernel
theorem dX7_fitsNames_30 : decode cX7_fitsNames 30 = .ok (.iaload, 1) := by decide +kernel
theorem dX7_fitsNames_31 : decode cX7_fitsNames 31 = .ok (.iaload, 1) := by decide +kernel
theorem dX7_fitsNames_32 : decode cX7_fitsNames 32 = .ok (.aload_n 0, 1) := by decide +kernel
theorem dX7_fitsNames_33 : decode cX7_fitsNames 33 = .ok (.getfield 31, 3) := by decide +kernel
theorem dX7_fitsNames_36 : decode cX7_fitsNames 36 = .ok (.iload_n 3, 1) := by decide +kernel
theorem dX7_fitsNames_37 : decode cX7_fitsNames 37 = .ok (.iaload, 1) := by decide +kernel
theorem dX7_fitsNames_38 : decode cX7_fitsNames 38 = .ok (.invokestatic 116, 3) := by decide +kernel
theorem dX7_fitsNames_41 : decode cX7_fitsNames 41 = .ok (.ifCond .eq 7, 3) := by decide +kernel
theorem dX7_fitsNames_44 : decode cX7_fitsNames 44 = .ok (.iconst 1, 1) := by decide +kernel
theorem dX7_fitsNames_45 : decode cX7_fitsNames 45 = .ok (.goto 4, 3) := by decide +kernel
theorem dX7_fitsNames_48 : decode cX7_fitsNames 48 = .ok (.iconst 0, 1) := by decide +kernel
theorem dX7_fitsNames_49 : decode cX7_fitsNames 49 = .ok (.iand, 1) := by decide +kernel
theorem dX7_fitsNames_50 : decode cX7_fitsNames 50 = .ok (.istore 4, 2) := by decide +kernel
theorem dX7_fitsNames_52 : decode cX7_fitsNames 52 = .ok (.iload 4, 2) := by decide +kernel
end
section
theorem dX7_fitsNames_54 : decode cX7_fitsNames 54 = .ok (.aload_n 0, 1) := by decide +kernel
theorem dX7_fitsNames_55 : decode cX7_fitsNames 55 = .ok (.getfield 34, 3) := by decide +kernel
theorem dX7_fitsNames_58 : decode cX7_fitsNames 58 = .ok (.iload_n 3, 1) := by decide +kernel
theorem dX7_fitsNames_59 : decode cX7_fitsNames 59 = .ok (.iaload, 1) := by decide +kernel
theorem dX7_fitsNames_60 : decode cX7_fitsNames 60 = .ok (.ifCond .eq 24, 3) := by decide +kernel
theorem dX7_fitsNames_63 : decode cX7_fitsNames 63 = .ok (.aload_n 0, 1) := by decide +kernel
theorem dX7_fitsNames_64 : decode cX7_fitsNames 64 = .ok (.getfield 9, 3) := by decide +kernel
theorem dX7_fitsNames_67 : decode cX7_fitsNames 67 = .ok (.aload_n 1, 1) := by decide +kernel
theorem dX7_fitsNames_68 : decode cX7_fitsNames 68 = .ok (.iload 5, 2) := by decide +kernel
theorem dX7_fitsNames_70 : decode cX7_fitsNames 70 = .ok (.iaload, 1) := by decide +kernel
theorem dX7_fitsNames_71 : decode cX7_fitsNames 71 = .ok (.iaload, 1) := by decide +kernel
theorem dX7_fitsNames_72 : decode cX7_fitsNames 72 = .ok (.aload_n 0, 1) := by decide +kernel
theorem dX7_fitsNames_73 : decode cX7_fitsNames 73 = .ok (.getfield 34, 3) := by decide +kernel
theorem dX7_fitsNames_76 : decode cX7_fitsNames 76 = .ok (.iload_n 3, 1) := by decide +kernel
theorem dX7_fitsNames_77 : decode cX7_fitsNames 77 = .ok (.iaload, 1) := by decide +kernel
theorem dX7_fitsNames_78 : decode cX7_fitsNames 78 = .ok (.invokestatic 116, 3) := by decide +kernel
theorem dX7_fitsNames_81 : decode cX7_fitsNames 81 = .ok (.ifCond .ne 7, 3) := by decide +kernel
theorem dX7_fitsNames_84 : decode cX7_fitsNames 84 = .ok (.iconst 1, 1) := by decide +kernel
theorem dX7_fitsNames_85 : decode cX7_fitsNames 85 = .ok (.goto 4, 3) := by decide +kernel
theorem dX7_fitsNames_88 : decode cX7_fitsNames 88 = .ok (.iconst 0, 1) := by decide +kernel
theorem dX7_fitsNames_89 : decode cX7_fitsNames 89 = .ok (.iand, 1) := by decide +kernel
theorem dX7_fitsNames_90 : decode cX7_fitsNames 90 = .ok (.istore 4, 2) := by decide +kernel
theorem dX7_fitsNames_92 : decode cX7_fitsNames 92 = .ok (.iinc 5 1, 3) := by decide +kernel
theorem dX7_fitsNames_95 : decode cX7_fitsNames 95 = .ok (.goto (-89), 3) := by decide +kernel
theorem dX7_fitsNames_98 : decode cX7_fitsNames 98 = .ok (.iload 4, 2) := by decide +kernel
theorem dX7_fitsNames_100 : decode cX7_fitsNames 100 = .ok (.ireturn, 1) := by decide +kernel
theorem dX7_refusal_0 : decode cX7_refusal 0 = .ok (.iconst 0, 1) := by decide +kernel
theorem dX7_refusal_1 : decode cX7_refusal 1 = .ok (.istore 5, 2) := by decide +kernel
theorem dX7_refusal_3 : decode cX7_refusal 3 = .ok (.iload 5, 2) := by decide +kernel
theorem dX7_refusal_5 : decode cX7_refusal 5 = .ok (.iload_n 2, 1) := by decide +kernel
theorem dX7_refusal_6 : decode cX7_refusal 6 = .ok (.if_icmp .ge 20, 3) := by decide +kernel
theorem dX7_refusal_9 : decode cX7_refusal 9 = .ok (.aload_n 1, 1) := by decide +kernel
theorem dX7_refusal_10 : decode cX7_refusal 10 = .ok (.iload 5, 2) := by decide +kernel
theorem dX7_refusal_12 : decode cX7_refusal 12 = .ok (.iaload, 1) := by decide +kernel
theorem dX7_refusal_13 : decode cX7_refusal 13 = .ok (.iload_n 3, 1) := by decide +kernel
theorem dX7_refusal_14 : decode cX7_refusal 14 = .ok (.if_icmp .ne 6, 3) := by decide +kernel
theorem dX7_refusal_17 : decode cX7_refusal 17 = .ok (.bipush 120, 2) := by decide +kernel
theorem dX7_refusal_19 : decode cX7_refusal 19 = .ok (.ireturn, 1) := by decide +kernel
theorem dX7_refusal_20 : decode cX7_refusal 20 = .ok (.iinc 5 1, 3) := by decide +kernel
theorem dX7_refusal_23 : decode cX7_refusal 23 = .ok (.goto (-20), 3) := by decide +kernel
theorem dX7_refusal_26 : decode cX7_refusal 26 = .ok (.aload_n 0, 1) := by decide +kernel
theorem dX7_refusal_27 : decode cX7_refusal 27 = .ok (.iload_n 3, 1) := by decide +kernel
theorem dX7_refusal_28 : decode cX7_refusal 28 = .ok (.iload 4, 2) := by decide +kernel
theorem dX7_refusal_30 : decode cX7_refusal 30 = .ok (.invokevirtual 135, 3) := by decide +kernel
theorem dX7_refusal_33 : decode cX7_refusal 33 = .ok (.ifCond .eq 13, 3) := by decide +kernel
theorem dX7_refusal_36 : decode cX7_refusal 36 = .ok (.aload_n 0, 1) := by decide +kernel
theorem dX7_refusal_37 : decode cX7_refusal 37 = .ok (.iload_n 3, 1) := by decide +kernel
theorem dX7_refusal_38 : decode cX7_refusal 38 = .ok (.iload 4, 2) := by decide +kernel
theorem dX7_refusal_40 : decode cX7_refusal 40 = .ok (.invokevirtual 123, 3) := by decide +kernel
theorem dX7_refusal_43 : decode cX7_refusal 43 = .ok (.ifCond .eq 21, 3) := by decide +kernel
theorem dX7_refusal_46 : decode cX7_refusal 46 = .ok (.aload_n 0, 1) := by decide +kernel
theorem dX7_refusal_47 : decode cX7_refusal 47 = .ok (.iload_n 3, 1) := by decide +kernel
theorem dX7_refusal_48 : decode cX7_refusal 48 = .ok (.iload 4, 2) := by decide +kernel
theorem dX7_refusal_50 : decode cX7_refusal 50 = .ok (.invokevirtual 135, 3) := by decide +kernel
theorem dX7_refusal_53 : decode cX7_refusal 53 = .ok (.ifCond .eq 8, 3) := by decide +kernel
theorem dX7_refusal_56 : decode cX7_refusal 56 = .ok (.bipush 114, 2) := by decide +kernel
theorem dX7_refusal_58 : decode cX7_refusal 58 = .ok (.goto 5, 3) := by decide +kernel
theorem dX7_refusal_61 : decode cX7_refusal 61 = .ok (.bipush 116, 2) := by decide +kernel
theorem dX7_refusal_63 : decode cX7_refusal 63 = .ok (.ireturn, 1) := by decide +kernel
theorem dX7_refusal_64 : decode cX7_refusal 64 = .ok (.aload_n 0, 1) := by decide +kernel
theorem dX7_refusal_65 : decode cX7_refusal 65 = .ok (.getfield 40, 3) := by decide +kernel
theorem dX7_refusal_68 : decode cX7_refusal 68 = .ok (.iload_n 3, 1) := by decide +kernel
theorem dX7_refusal_69 : decode cX7_refusal 69 = .ok (.baload, 1) := by decide +kernel
theorem dX7_refusal_70 : decode cX7_refusal 70 = .ok (.ifCond .eq 15, 3) := by decide +kernel
theorem dX7_refusal_73 : decode cX7_refusal 73 = .ok (.aload_n 0, 1) := by decide +kernel
theorem dX7_refusal_74 : decode cX7_refusal 74 = .ok (.getfield 28, 3) := by decide +kernel
theorem dX7_refusal_77 : decode cX7_refusal 77 = .ok (.iload_n 3, 1) := by decide +kernel
theorem dX7_refusal_78 : decode cX7_refusal 78 = .ok (.iaload, 1) := by decide +kernel
theorem dX7_refusal_79 : decode cX7_refusal 79 = .ok (.iload_n 2, 1) := by decide +kernel
theorem dX7_refusal_80 : decode cX7_refusal 80 = .ok (.iconst 1, 1) := by decide +kernel
theorem dX7_refusal_81 : decode cX7_refusal 81 = .ok (.isub, 1) := by decide +kernel
theorem dX7_refusal_82 : decode cX7_refusal 82 = .ok (.if_icmp .ge 20, 3) := by decide +kernel
theorem dX7_refusal_85 : decode cX7_refusal 85 = .ok (.aload_n 0, 1) := by decide +kernel
theorem dX7_refusal_86 : decode cX7_refusal 86 = .ok (.getfield 40, 3) := by decide +kernel
theorem dX7_refusal_89 : decode cX7_refusal 89 = .ok (.iload_n 3, 1) := by decide +kernel
theorem dX7_refusal_90 : decode cX7_refusal 90 = .ok (.baload, 1) := by decide +kernel
theorem dX7_refusal_91 : decode cX7_refusal 91 = .ok (.ifCond .eq 8, 3) := by decide +kernel
theorem dX7_refusal_94 : decode cX7_refusal 94 = .ok (.bipush 108, 2) := by decide +kernel
theorem dX7_refusal_96 : decode cX7_refusal 96 = .ok (.goto 5, 3) := by decide +kernel
theorem dX7_refusal_99 : decode cX7_refusal 99 = .ok (.bipush 97, 2) := by decide +kernel
theorem dX7_refusal_101 : decode cX7_refusal 101 = .ok (.ireturn, 1) := by decide +kernel
theorem dX7_refusal_102 : decode cX7_refusal 102 = .ok (.aload_n 0, 1) := by decide +kernel
theorem dX7_refusal_103 : decode cX7_refusal 103 = .ok (.aload_n 1, 1) := by decide +kernel
theorem dX7_refusal_104 : decode cX7_refusal 104 = .ok (.iload_n 2, 1) := by decide +kernel
theorem dX7_refusal_105 : decode cX7_refusal 105 = .ok (.iload_n 3, 1) := by decide +kernel
theorem dX7_refusal_106 : decode cX7_refusal 106 = .ok (.invokevirtual 138, 3) := by decide +kernel
theorem dX7_refusal_109 : decode cX7_refusal 109 = .ok (.ifCond .eq 8, 3) := by decide +kernel
theorem dX7_refusal_112 : decode cX7_refusal 112 = .ok (.bipush 111, 2) := by decide +kernel
theorem dX7_refusal_114 : decode cX7_refusal 114 = .ok (.goto 5, 3) := by decide +kernel
theorem dX7_refusal_117 : decode cX7_refusal 117 = .ok (.bipush 110, 2) := by decide +kernel
theorem dX7_refusal_119 : decode cX7_refusal 119 = .ok (.ireturn, 1) := by decide +kernel
theorem dX7_canBegin_0 : decode cX7_canBegin 0 = .ok (.aload_n 0, 1) := by decide +kernel
theorem dX7_canBegin_1 : decode cX7_canBegin 1 = .ok (.iload_n 1, 1) := by decide +kernel
theorem dX7_canBegin_2 : decode cX7_canBegin 2 = .ok (.iload_n 2, 1) := by decide +kernel
theorem dX7_canBegin_3 : decode cX7_canBegin 3 = .ok (.invokevirtual 135, 3) := by decide +kernel
theorem dX7_canBegin_6 : decode cX7_canBegin 6 = .ok (.ifCond .eq 16, 3) := by decide +kernel
theorem dX7_canBegin_9 : decode cX7_canBegin 9 = .ok (.aload_n 0, 1) := by decide +kernel
theorem dX7_canBegin_10 : decode cX7_canBegin 10 = .ok (.iload_n 1, 1) := by decide +kernel
theorem dX7_canBegin_11 : decode cX7_canBegin 11 = .ok (.iload_n 2, 1) := by decide +kernel
theorem dX7_canBegin_12 : decode cX7_canBegin 12 = .ok (.invokevirtual 123, 3) := by decide +kernel
theorem dX7_canBegin_15 : decode cX7_canBegin 15 = .ok (.ifCond .ne 7, 3) := by decide +kernel
theorem dX7_canBegin_18 : decode cX7_canBegin 18 = .ok (.iconst 1, 1) := by decide +kernel
theorem dX7_canBegin_19 : decode cX7_canBegin 19 = .ok (.goto 4, 3) := by decide +kernel
theorem dX7_canBegin_22 : decode cX7_canBegin 22 = .ok (.iconst 0, 1) := by decide +kernel
theorem dX7_canBegin_23 : decode cX7_canBegin 23 = .ok (.ireturn, 1) := by decide +kernel
theorem dX7_finds_0 : decode cX7_finds 0 = .ok (.aload_n 0, 1) := by decide +kernel
theorem dX7_finds_1 : decode cX7_finds 1 = .ok (.getfield 53, 3) := by decide +kernel
theorem dX7_finds_4 : decode cX7_finds 4 = .ok (.iload_n 1, 1) := by decide +kernel
theorem dX7_finds_5 : decode cX7_finds 5 = .ok (.iconst 1, 1) := by decide +kernel
theorem dX7_finds_6 : decode cX7_finds 6 = .ok (.isub, 1) := by decide +kernel
theorem dX7_finds_7 : decode cX7_finds 7 = .ok (.iaload, 1) := by decide +kernel
theorem dX7_finds_8 : decode cX7_finds 8 = .ok (.istore 4, 2) := by decide +kernel
theorem dX7_finds_10 : decode cX7_finds 10 = .ok (.iload_n 1, 1) := by decide +kernel
theorem dX7_finds_11 : decode cX7_finds 11 = .ok (.iload_n 2, 1) := by decide +kernel
theorem dX7_finds_12 : decode cX7_finds 12 = .ok (.if_icmp .ne 29, 3) := by decide +kernel
theorem dX7_finds_15 : decode cX7_finds 15 = .ok (.aload_n 0, 1) := by decide +kernel
theorem dX7_finds_16 : decode cX7_finds 16 = .ok (.getfield 44, 3) := by decide +kernel
theorem dX7_finds_19 : decode cX7_finds 19 = .ok (.iload 4, 2) := by decide +kernel
theorem dX7_finds_21 : decode cX7_finds 21 = .ok (.baload, 1) := by decide +kernel
theorem dX7_finds_22 : decode cX7_finds 22 = .ok (.ifCond .eq 17, 3) := by decide +kernel
theorem dX7_finds_25 : decode cX7_finds 25 = .ok (.aload_n 0, 1) := by decide +kernel
theorem dX7_finds_26 : decode cX7_finds 26 = .ok (.getfield 47, 3) := by decide +kernel
theorem dX7_finds_29 : decode cX7_finds 29 = .ok (.iload 4, 2) := by decide +kernel
theorem dX7_finds_31 : decode cX7_finds 31 = .ok (.baload, 1) := by decide +kernel
theorem dX7_finds_32 : decode cX7_finds 32 = .ok (.ifCond .eq 7, 3) := by decide +kernel
theorem dX7_finds_35 : decode cX7_finds 35 = .ok (.iconst 1, 1) := by decide +kernel
theorem dX7_finds_36 : decode cX7_finds 36 = .ok (.goto 4, 3) := by decide +kernel
theorem dX7_finds_39 : decode cX7_finds 39 = .ok (.iconst 0, 1) := by decide +kernel
theorem dX7_finds_40 : decode cX7_finds 40 = .ok (.ireturn, 1) := by decide +kernel
theorem dX7_finds_41 : decode cX7_finds 41 = .ok (.iconst 0, 1) := by decide +kernel
theorem dX7_finds_42 : decode cX7_finds 42 = .ok (.istore 5, 2) := by decide +kernel
theorem dX7_finds_44 : decode cX7_finds 44 = .ok (.iload 5, 2) := by decide +kernel
theorem dX7_finds_46 : decode cX7_finds 46 = .ok (.aload_n 0, 1) := by decide +kernel
theorem dX7_finds_47 : decode cX7_finds 47 = .ok (.getfield 71, 3) := by decide +kernel
theorem dX7_finds_50 : decode cX7_finds 50 = .ok (.if_icmp .ge 59, 3) := by decide +kernel
theorem dX7_finds_53 : decode cX7_finds 53 = .ok (.aload_n 0, 1) := by decide +kernel
theorem dX7_finds_54 : decode cX7_finds 54 = .ok (.iload 4, 2) := by decide +kernel
theorem dX7_finds_56 : decode cX7_finds 56 = .ok (.iload 5, 2) := by decide +kernel
theorem dX7_finds_58 : decode cX7_finds 58 = .ok (.invokevirtual 129, 3) := by decide +kernel
theorem dX7_finds_61 : decode cX7_finds 61 = .ok (.ifCond .eq 42, 3) := by decide +kernel
theorem dX7_finds_64 : decode cX7_finds 64 = .ok (.aload_n 0, 1) := by decide +kernel
theorem dX7_finds_65 : decode cX7_finds 65 = .ok (.aload_n 0, 1) := by decide +kernel
theorem dX7_finds_66 : decode cX7_finds 66 = .ok (.getfield 53, 3) := by decide +kernel
theorem dX7_finds_69 : decode cX7_finds 69 = .ok (.iload_n 1, 1) := by decide +kernel
theorem dX7_finds_70 : decode cX7_finds 70 = .ok (.iload 5, 2) := by decide +kernel
theorem dX7_finds_72 : decode cX7_finds 72 = .ok (.iload_n 3, 1) := by decide +kernel
theorem dX7_finds_73 : decode cX7_finds 73 = .ok (.invokevirtual 142, 3) := by decide +kernel
theorem dX7_finds_76 : decode cX7_finds 76 = .ok (.bipush 111, 2) := by decide +kernel
theorem dX7_finds_78 : decode cX7_finds 78 = .ok (.if_icmp .ne 25, 3) := by decide +kernel
theorem dX7_finds_81 : decode cX7_finds 81 = .ok (.aload_n 0, 1) := by decide +kernel
theorem dX7_finds_82 : decode cX7_finds 82 = .ok (.getfield 53, 3) := by decide +kernel
theorem dX7_finds_85 : decode cX7_finds 85 = .ok (.iload_n 1, 1) := by decide +kernel
theorem dX7_finds_86 : decode cX7_finds 86 = .ok (.iload 5, 2) := by decide +kernel
theorem dX7_finds_88 : decode cX7_finds 88 = .ok (.iastore, 1) := by decide +kernel
theorem dX7_finds_89 : decode cX7_finds 89 = .ok (.aload_n 0, 1) := by decide +kernel
theorem dX7_finds_90 : decode cX7_finds 90 = .ok (.iload_n 1, 1) := by decide +kernel
theorem dX7_finds_91 : decode cX7_finds 91 = .ok (.iconst 1, 1) := by decide +kernel
theorem dX7_finds_92 : decode cX7_finds 92 = .ok (.iadd, 1) := by decide +kernel
theorem dX7_finds_93 : decode cX7_finds 93 = .ok (.iload_n 2, 1) := by decide +kernel
theorem dX7_finds_94 : decode cX7_finds 94 = .ok (.iload_n 3, 1) := by decide +kernel
theorem dX7_finds_95 : decode cX7_finds 95 = .ok (.invokevirtual 146, 3) := by decide +kernel
theorem dX7_finds_98 : decode cX7_finds 98 = .ok (.ifCond .eq 5, 3) := by decide +kernel
theorem dX7_finds_101 : decode cX7_finds 101 = .ok (.iconst 1, 1) := by decide +kernel
theorem dX7_finds_102 : decode cX7_finds 102 = .ok (.ireturn, 1) := by decide +kernel
theorem dX7_finds_103 : decode cX7_finds 103 = .ok (.iinc 5 1, 3) := by decide +kernel
theorem dX7_finds_106 : decode cX7_finds 106 = .ok (.goto (-62), 3) := by decide +kernel
theorem dX7_finds_109 : decode cX7_finds 109 = .ok (.iconst 0, 1) := by decide +kernel
theorem dX7_finds_110 : decode cX7_finds 110 = .ok (.ireturn, 1) := by decide +kernel
theorem dX7_best_0 : decode cX7_best 0 = .ok (.aload_n 0, 1) := by decide +kernel
theorem dX7_best_1 : decode cX7_best 1 = .ok (.getfield 53, 3) := by decide +kernel
theorem dX7_best_4 : decode cX7_best 4 = .ok (.iconst 0, 1) := by decide +kernel
theorem dX7_best_5 : decode cX7_best 5 = .ok (.iload_n 1, 1) := by decide +kernel
theorem dX7_best_6 : decode cX7_best 6 = .ok (.iastore, 1) := by decide +kernel
theorem dX7_best_7 : decode cX7_best 7 = .ok (.iconst 1, 1) := by decide +kernel
theorem dX7_best_8 : decode cX7_best 8 = .ok (.istore_n 3, 1) := by decide +kernel
theorem dX7_best_9 : decode cX7_best 9 = .ok (.iload_n 3, 1) := by decide +kernel
theorem dX7_best_10 : decode cX7_best 10 = .ok (.bipush 8, 2) := by decide +kernel
theorem dX7_best_12 : decode cX7_best 12 = .ok (.if_icmp .ge 30, 3) := by decide +kernel
theorem dX7_best_15 : decode cX7_best 15 = .ok (.aload_n 0, 1) := by decide +kernel
theorem dX7_best_16 : decode cX7_best 16 = .ok (.iload_n 1, 1) := by decide +kernel
theorem dX7_best_17 : decode cX7_best 17 = .ok (.iload_n 2, 1) := by decide +kernel
theorem dX7_best_18 : decode cX7_best 18 = .ok (.invokevirtual 149, 3) := by decide +kernel
theorem dX7_best_21 : decode cX7_best 21 = .ok (.ifCond .eq 21, 3) := by decide +kernel
theorem dX7_best_24 : decode cX7_best 24 = .ok (.aload_n 0, 1) := by decide +kernel
theorem dX7_best_25 : decode cX7_best 25 = .ok (.iconst 1, 1) := by decide +kernel
theorem dX7_best_26 : decode cX7_best 26 = .ok (.iload_n 3, 1) := by decide +kernel
theorem dX7_best_27 : decode cX7_best 27 = .ok (.iload_n 2, 1) := by decide +kernel
theorem dX7_best_28 : decode cX7_best 28 = .ok (.invokevirtual 146, 3) := by decide +kernel
theorem dX7_best_31 : decode cX7_best 31 = .ok (.ifCond .eq 5, 3) := by decide +kernel
theorem dX7_best_34 : decode cX7_best 34 = .ok (.iload_n 3, 1) := by decide +kernel
theorem dX7_best_35 : decode cX7_best 35 = .ok (.ireturn, 1) := by decide +kernel
theorem dX7_best_36 : decode cX7_best 36 = .ok (.iinc 3 1, 3) := by decide +kernel
theorem dX7_best_39 : decode cX7_best 39 = .ok (.goto (-30), 3) := by decide +kernel
theorem dX7_best_42 : decode cX7_best 42 = .ok (.iconst 0, 1) := by decide +kernel
theorem dX7_best_43 : decode cX7_best 43 = .ok (.ireturn, 1) := by decide +kernel
theorem dX7_chainSize_0 : decode cX7_chainSize 0 = .ok (.aload_n 0, 1) := by decide +kernel
theorem dX7_chainSize_1 : decode cX7_chainSize 1 = .ok (.iload_n 1, 1) := by decide +kernel
theorem dX7_chainSize_2 : decode cX7_chainSize 2 = .ok (.iload_n 2, 1) := by decide +kernel
theorem dX7_chainSize_3 : decode cX7_chainSize 3 = .ok (.invokevirtual 120, 3) := by decide +kernel
theorem dX7_chainSize_6 : decode cX7_chainSize 6 = .ok (.ifCond .eq 7, 3) := by decide +kernel
theorem dX7_chainSize_9 : decode cX7_chainSize 9 = .ok (.iconst 0, 1) := by decide +kernel
theorem dX7_chainSize_10 : decode cX7_chainSize 10 = .ok (.goto 9, 3) := by decide +kernel
theorem dX7_chainSize_13 : decode cX7_chainSize 13 = .ok (.aload_n 0, 1) := by decide +kernel
theorem dX7_chainSize_14 : decode cX7_chainSize 14 = .ok (.iload_n 1, 1) := by decide +kernel
theorem dX7_chainSize_15 : decode cX7_chainSize 15 = .ok (.iload_n 2, 1) := by decide +kernel
theorem dX7_chainSize_16 : decode cX7_chainSize 16 = .ok (.invokevirtual 152, 3) := by decide +kernel
theorem dX7_chainSize_19 : decode cX7_chainSize 19 = .ok (.ireturn, 1) := by decide +kernel
theorem dX7_chainAt_0 : decode cX7_chainAt 0 = .ok (.aload_n 0, 1) := by decide +kernel
theorem dX7_chainAt_1 : decode cX7_chainAt 1 = .ok (.iload_n 1, 1) := by decide +kernel
theorem dX7_chainAt_2 : decode cX7_chainAt 2 = .ok (.iload_n 2, 1) := by decide +kernel
theorem dX7_chainAt_3 : decode cX7_chainAt 3 = .ok (.invokevirtual 120, 3) := by decide +kernel
theorem dX7_chainAt_6 : decode cX7_chainAt 6 = .ok (.ifCond .eq 5, 3) := by decide +kernel
theorem dX7_chainAt_9 : decode cX7_chainAt 9 = .ok (.iconst 0, 1) := by decide +kernel
theorem dX7_chainAt_10 : decode cX7_chainAt 10 = .ok (.ireturn, 1) := by decide +kernel
theorem dX7_chainAt_11 : decode cX7_chainAt 11 = .ok (.aload_n 0, 1) := by decide +kernel
theorem dX7_chainAt_12 : decode cX7_chainAt 12 = .ok (.iload_n 1, 1) := by decide +kernel
theorem dX7_chainAt_13 : decode cX7_chainAt 13 = .ok (.iload_n 2, 1) := by decide +kernel
theorem dX7_chainAt_14 : decode cX7_chainAt 14 = .ok (.invokevirtual 152, 3) := by decide +kernel
theorem dX7_chainAt_17 : decode cX7_chainAt 17 = .ok (.istore 4, 2) := by decide +kernel
theorem dX7_chainAt_19 : decode cX7_chainAt 19 = .ok (.aload_n 0, 1) := by decide +kernel
theorem dX7_chainAt_20 : decode cX7_chainAt 20 = .ok (.iload_n 3, 1) := by decide +kernel
theorem dX7_chainAt_21 : decode cX7_chainAt 21 = .ok (.iconst 0, 1) := by decide +kernel
theorem dX7_chainAt_22 : decode cX7_chainAt 22 = .ok (.iload 4, 2) := by decide +kernel
theorem dX7_chainAt_24 : decode cX7_chainAt 24 = .ok (.iconst 1, 1) := by decide +kernel
theorem dX7_chainAt_25 : decode cX7_chainAt 25 = .ok (.isub, 1) := by decide +kernel
theorem dX7_chainAt_26 : decode cX7_chainAt 26 = .ok (.invokestatic 67, 3) := by decide +kernel
theorem dX7_chainAt_29 : decode cX7_chainAt 29 = .ok (.ifCond .ne 7, 3) := by decide +kernel
theorem dX7_chainAt_32 : decode cX7_chainAt 32 = .ok (.iconst 1, 1) := by decide +kernel
theorem dX7_chainAt_33 : decode cX7_chainAt 33 = .ok (.goto 4, 3) := by decide +kernel
theorem dX7_chainAt_36 : decode cX7_chainAt 36 = .ok (.iconst 0, 1) := by decide +kernel
theorem dX7_chainAt_37 : decode cX7_chainAt 37 = .ok (.iconst 3, 1) := by decide +kernel
theorem dX7_chainAt_38 : decode cX7_chainAt 38 = .ok (.invokevirtual 78, 3) := by decide +kernel
theorem dX7_chainAt_41 : decode cX7_chainAt 41 = .ok (.ifCond .eq 7, 3) := by decide +kernel
theorem dX7_chainAt_44 : decode cX7_chainAt 44 = .ok (.iconst 0, 1) := by decide +kernel
theorem dX7_chainAt_45 : decode cX7_chainAt 45 = .ok (.goto 9, 3) := by decide +kernel
theorem dX7_chainAt_48 : decode cX7_chainAt 48 = .ok (.aload_n 0, 1) := by decide +kernel
theorem dX7_chainAt_49 : decode cX7_chainAt 49 = .ok (.getfield 53, 3) := by decide +kernel
theorem dX7_chainAt_52 : decode cX7_chainAt 52 = .ok (.iload_n 3, 1) := by decide +kernel
theorem dX7_chainAt_53 : decode cX7_chainAt 53 = .ok (.iaload, 1) := by decide +kernel
theorem dX7_chainAt_54 : decode cX7_chainAt 54 = .ok (.ireturn, 1) := by decide +kernel
theorem dX7_counts_0 : decode cX7_counts 0 = .ok (.aload_n 0, 1) := by decide +kernel
theorem dX7_counts_1 : decode cX7_counts 1 = .ok (.getfield 53, 3) := by decide +kernel
theorem dX7_counts_4 : decode cX7_counts 4 = .ok (.iload_n 1, 1) := by decide +kernel
theorem dX7_counts_5 : decode cX7_counts 5 = .ok (.iconst 1, 1) := by decide +kernel
theorem dX7_counts_6 : decode cX7_counts 6 = .ok (.isub, 1) := by decide +kernel
theorem dX7_counts_7 : decode cX7_counts 7 = .ok (.iaload, 1) := by decide +kernel
theorem dX7_counts_8 : decode cX7_counts 8 = .ok (.istore_n 3, 1) := by decide +kernel
theorem dX7_counts_9 : decode cX7_counts 9 = .ok (.aload_n 0, 1) := by decide +kernel
theorem dX7_counts_10 : decode cX7_counts 10 = .ok (.dup, 1) := by decide +kernel
theorem dX7_counts_11 : decode cX7_counts 11 = .ok (.getfield 155, 3) := by decide +kernel
theorem dX7_counts_14 : decode cX7_counts 14 = .ok (.aload_n 0, 1) := by decide +kernel
theorem dX7_counts_15 : decode cX7_counts 15 = .ok (.getfield 44, 3) := by decide +kernel
theorem dX7_counts_18 : decode cX7_counts 18 = .ok (.iload_n 3, 1) := by decide +kernel
theorem dX7_counts_19 : decode cX7_counts 19 = .ok (.baload, 1) := by decide +kernel
theorem dX7_counts_20 : decode cX7_counts 20 = .ok (.ifCond .eq 16, 3) := by decide +kernel
theorem dX7_counts_23 : decode cX7_counts 23 = .ok (.aload_n 0, 1) := by decide +kernel
theorem dX7_counts_24 : decode cX7_counts 24 = .ok (.getfield 47, 3) := by decide +kernel
theorem dX7_counts_27 : decode cX7_counts 27 = .ok (.iload_n 3, 1) := by decide +kernel
theorem dX7_counts_28 : decode cX7_counts 28 = .ok (.baload, 1) := by decide +kernel
theorem dX7_counts_29 : decode cX7_counts 29 = .ok (.ifCond .eq 7, 3) := by decide +kernel
theorem dX7_counts_32 : decode cX7_counts 32 = .ok (.iconst 1, 1) := by decide +kernel
theorem dX7_counts_33 : decode cX7_counts 33 = .ok (.goto 4, 3) := by decide +kernel
theorem dX7_counts_36 : decode cX7_counts 36 = .ok (.iconst 0, 1) := by decide +kernel
theorem dX7_counts_37 : decode cX7_counts 37 = .ok (.iadd, 1) := by decide +kernel
theorem dX7_counts_38 : decode cX7_counts 38 = .ok (.putfield 155, 3) := by decide +kernel
theorem dX7_counts_41 : decode cX7_counts 41 = .ok (.iconst 0, 1) := by decide +kernel
theorem dX7_counts_42 : decode cX7_counts 42 = .ok (.istore 4, 2) := by decide +kernel
theorem dX7_counts_44 : decode cX7_counts 44 = .ok (.iload 4, 2) := by decide +kernel
theorem dX7_counts_46 : decode cX7_counts 46 = .ok (.aload_n 0, 1) := by decide +kernel
theorem dX7_counts_47 : decode cX7_counts 47 = .ok (.getfield 71, 3) := by decide +kernel
theorem dX7_counts_50 : decode cX7_counts 50 = .ok (.if_icmp .ge 52, 3) := by decide +kernel
theorem dX7_counts_53 : decode cX7_counts 53 = .ok (.aload_n 0, 1) := by decide +kernel
theorem dX7_counts_54 : decode cX7_counts 54 = .ok (.iload_n 3, 1) := by decide +kernel
theorem dX7_counts_55 : decode cX7_counts 55 = .ok (.iload 4, 2) := by decide +kernel
theorem dX7_counts_57 : decode cX7_counts 57 = .ok (.invokevirtual 129, 3) := by decide +kernel
theorem dX7_counts_60 : decode cX7_counts 60 = .ok (.ifCond .eq 36, 3) := by decide +kernel
theorem dX7_counts_63 : decode cX7_counts 63 = .ok (.aload_n 0, 1) := by decide +kernel
theorem dX7_counts_64 : decode cX7_counts 64 = .ok (.aload_n 0, 1) := by decide +kernel
theorem dX7_counts_65 : decode cX7_counts 65 = .ok (.getfield 53, 3) := by decide +kernel
theorem dX7_counts_68 : decode cX7_counts 68 = .ok (.iload_n 1, 1) := by decide +kernel
theorem dX7_counts_69 : decode cX7_counts 69 = .ok (.iload 4, 2) := by decide +kernel
theorem dX7_counts_71 : decode cX7_counts 71 = .ok (.iload_n 2, 1) := by decide +kernel
theorem dX7_counts_72 : decode cX7_counts 72 = .ok (.invokevirtual 142, 3) := by decide +kernel
theorem dX7_counts_75 : decode cX7_counts 75 = .ok (.bipush 111, 2) := by decide +kernel
theorem dX7_counts_77 : decode cX7_counts 77 = .ok (.if_icmp .ne 19, 3) := by decide +kernel
theorem dX7_counts_80 : decode cX7_counts 80 = .ok (.aload_n 0, 1) := by decide +kernel
theorem dX7_counts_81 : decode cX7_counts 81 = .ok (.getfield 53, 3) := by decide +kernel
theorem dX7_counts_84 : decode cX7_counts 84 = .ok (.iload_n 1, 1) := by decide +kernel
theorem dX7_counts_85 : decode cX7_counts 85 = .ok (.iload 4, 2) := by decide +kernel
theorem dX7_counts_87 : decode cX7_counts 87 = .ok (.iastore, 1) := by decide +kernel
theorem dX7_counts_88 : decode cX7_counts 88 = .ok (.aload_n 0, 1) := by decide +kernel
theorem dX7_counts_89 : decode cX7_counts 89 = .ok (.iload_n 1, 1) := by decide +kernel
theorem dX7_counts_90 : decode cX7_counts 90 = .ok (.iconst 1, 1) := by decide +kernel
theorem dX7_counts_91 : decode cX7_counts 91 = .ok (.iadd, 1) := by decide +kernel
theorem dX7_counts_92 : decode cX7_counts 92 = .ok (.iload_n 2, 1) := by decide +kernel
theorem dX7_counts_93 : decode cX7_counts 93 = .ok (.invokevirtual 158, 3) := by decide +kernel
theorem dX7_counts_96 : decode cX7_counts 96 = .ok (.iinc 4 1, 3) := by decide +kernel
theorem dX7_counts_99 : decode cX7_counts 99 = .ok (.goto (-55), 3) := by decide +kernel
theorem dX7_counts_102 : decode cX7_counts 102 = .ok (.return_, 1) := by decide +kernel
theorem dX7_goodChains_0 : decode cX7_goodChains 0 = .ok (.aload_n 0, 1) := by decide +kernel
theorem dX7_goodChains_1 : decode cX7_goodChains 1 = .ok (.iload_n 1, 1) := by decide +kernel
theorem dX7_goodChains_2 : decode cX7_goodChains 2 = .ok (.iload_n 2, 1) := by decide +kernel
theorem dX7_goodChains_3 : decode cX7_goodChains 3 = .ok (.invokevirtual 120, 3) := by decide +kernel
theorem dX7_goodChains_6 : decode cX7_goodChains 6 = .ok (.ifCond .eq 5, 3) := by decide +kernel
theorem dX7_goodChains_9 : decode cX7_goodChains 9 = .ok (.iconst 0, 1) := by decide +kernel
theorem dX7_goodChains_10 : decode cX7_goodChains 10 = .ok (.ireturn, 1) := by decide +kernel
theorem dX7_goodChains_11 : decode cX7_goodChains 11 = .ok (.aload_n 0, 1) := by decide +kernel
theorem dX7_goodChains_12 : decode cX7_goodChains 12 = .ok (.iconst 0, 1) := by decide +kernel
theorem dX7_goodChains_13 : decode cX7_goodChains 13 = .ok (.putfield 155, 3) := by decide +kernel
theorem dX7_goodChains_16 : decode cX7_goodChains 16 = .ok (.aload_n 0, 1) := by decide +kernel
theorem dX7_goodChains_17 : decode cX7_goodChains 17 = .ok (.getfield 53, 3) := by decide +kernel
theorem dX7_goodChains_20 : decode cX7_goodChains 20 = .ok (.iconst 0, 1) := by decide +kernel
theorem dX7_goodChains_21 : decode cX7_goodChains 21 = .ok (.iload_n 1, 1) := by decide +kernel
theorem dX7_goodChains_22 : decode cX7_goodChains 22 = .ok (.iastore, 1) := by decide +kernel
theorem dX7_goodChains_23 : decode cX7_goodChains 23 = .ok (.aload_n 0, 1) := by decide +kernel
theorem dX7_goodChains_24 : decode cX7_goodChains 24 = .ok (.iload_n 1, 1) := by decide +kernel
theorem dX7_goodChains_25 : decode cX7_goodChains 25 = .ok (.iload_n 2, 1) := by decide +kernel
theorem dX7_goodChains_26 : decode cX7_goodChains 26 = .ok (.invokevirtual 149, 3) := by decide +kernel
theorem dX7_goodChains_29 : decode cX7_goodChains 29 = .ok (.ifCond .eq 9, 3) := by decide +kernel
theorem dX7_goodChains_32 : decode cX7_goodChains 32 = .ok (.aload_n 0, 1) := by decide +kernel
theorem dX7_goodChains_33 : decode cX7_goodChains 33 = .ok (.iconst 1, 1) := by decide +kernel
theorem dX7_goodChains_34 : decode cX7_goodChains 34 = .ok (.iload_n 2, 1) := by decide +kernel
theorem dX7_goodChains_35 : decode cX7_goodChains 35 = .ok (.invokevirtual 158, 3) := by decide +kernel
theorem dX7_goodChains_38 : decode cX7_goodChains 38 = .ok (.aload_n 0, 1) := by decide +kernel
theorem dX7_goodChains_39 : decode cX7_goodChains 39 = .ok (.getfield 155, 3) := by decide +kernel
theorem dX7_goodChains_42 : decode cX7_goodChains 42 = .ok (.ireturn, 1) := by decide +kernel
theorem dX7_goodChainsByWalks_0 : decode cX7_goodChainsByWalks 0 = .ok (.aload_n 0, 1) := by decide +kernel
theorem dX7_goodChainsByWalks_1 : decode cX7_goodChainsByWalks 1 = .ok (.iload_n 1, 1) := by decide +kernel
theorem dX7_goodChainsByWalks_2 : decode cX7_goodChainsByWalks 2 = .ok (.iload_n 2, 1) := by decide +kernel
theorem dX7_goodChainsByWalks_3 : decode cX7_goodChainsByWalks 3 = .ok (.invokevirtual 162, 3) := by decide +kernel
theorem dX7_goodChainsByWalks_6 : decode cX7_goodChainsByWalks 6 = .ok (.ireturn, 1) := by decide +kernel
theorem dX7_begin_0 : decode cX7_begin 0 = .ok (.aload_n 0, 1) := by decide +kernel
theorem dX7_begin_1 : decode cX7_begin 1 = .ok (.iload_n 1, 1) := by decide +kernel
theorem dX7_begin_2 : decode cX7_begin 2 = .ok (.iload_n 2, 1) := by decide +kernel
theorem dX7_begin_3 : decode cX7_begin 3 = .ok (.invokevirtual 120, 3) := by decide +kernel
theorem dX7_begin_6 : decode cX7_begin 6 = .ok (.ifCond .eq 5, 3) := by decide +kernel
theorem dX7_begin_9 : decode cX7_begin 9 = .ok (.iconst 0, 1) := by decide +kernel
theorem dX7_begin_10 : decode cX7_begin 10 = .ok (.ireturn, 1) := by decide +kernel
theorem dX7_begin_11 : decode cX7_begin 11 = .ok (.aload_n 0, 1) := by decide +kernel
theorem dX7_begin_12 : decode cX7_begin 12 = .ok (.iload_n 1, 1) := by decide +kernel
theorem dX7_begin_13 : decode cX7_begin 13 = .ok (.iload_n 2, 1) := by decide +kernel
theorem dX7_begin_14 : decode cX7_begin 14 = .ok (.invokevirtual 149, 3) := by decide +kernel
theorem dX7_begin_17 : decode cX7_begin 17 = .ok (.ifCond .ne 20, 3) := by decide +kernel
theorem dX7_begin_20 : decode cX7_begin 20 = .ok (.aload_n 0, 1) := by decide +kernel
theorem dX7_begin_21 : decode cX7_begin 21 = .ok (.iload_n 1, 1) := by decide +kernel
theorem dX7_begin_22 : decode cX7_begin 22 = .ok (.iload_n 2, 1) := by decide +kernel
theorem dX7_begin_23 : decode cX7_begin 23 = .ok (.invokevirtual 135, 3) := by decide +kernel
theorem dX7_begin_26 : decode cX7_begin 26 = .ok (.ifCond .eq 8, 3) := by decide +kernel
theorem dX7_begin_29 : decode cX7_begin 29 = .ok (.bipush 114, 2) := by decide +kernel
theorem dX7_begin_31 : decode cX7_begin 31 = .ok (.goto 5, 3) := by decide +kernel
theorem dX7_begin_34 : decode cX7_begin 34 = .ok (.bipush 116, 2) := by decide +kernel
theorem dX7_begin_36 : decode cX7_begin 36 = .ok (.ireturn, 1) := by decide +kernel
theorem dX7_begin_37 : decode cX7_begin 37 = .ok (.aload_n 0, 1) := by decide +kernel
theorem dX7_begin_38 : decode cX7_begin 38 = .ok (.getfield 56, 3) := by decide +kernel
theorem dX7_begin_41 : decode cX7_begin 41 = .ok (.iconst 0, 1) := by decide +kernel
theorem dX7_begin_42 : decode cX7_begin 42 = .ok (.iload_n 1, 1) := by decide +kernel
theorem dX7_begin_43 : decode cX7_begin 43 = .ok (.iastore, 1) := by decide +kernel
theorem dX7_begin_44 : decode cX7_begin 44 = .ok (.aload_n 0, 1) := by decide +kernel
theorem dX7_begin_45 : decode cX7_begin 45 = .ok (.iconst 1, 1) := by decide +kernel
theorem dX7_begin_46 : decode cX7_begin 46 = .ok (.putfield 165, 3) := by decide +kernel
theorem dX7_begin_49 : decode cX7_begin 49 = .ok (.aload_n 0, 1) := by decide +kernel
theorem dX7_begin_50 : decode cX7_begin 50 = .ok (.iload_n 2, 1) := by decide +kernel
theorem dX7_begin_51 : decode cX7_begin 51 = .ok (.putfield 168, 3) := by decide +kernel
theorem dX7_begin_54 : decode cX7_begin 54 = .ok (.bipush 111, 2) := by decide +kernel
theorem dX7_begin_56 : decode cX7_begin 56 = .ok (.ireturn, 1) := by decide +kernel
theorem dX7_step_0 : decode cX7_step 0 = .ok (.aload_n 0, 1) := by decide +kernel
theorem dX7_step_1 : decode cX7_step 1 = .ok (.aload_n 0, 1) := by decide +kernel
theorem dX7_step_2 : decode cX7_step 2 = .ok (.getfield 165, 3) := by decide +kernel
theorem dX7_step_5 : decode cX7_step 5 = .ok (.ifCond .ne 7, 3) := by decide +kernel
theorem dX7_step_8 : decode cX7_step 8 = .ok (.iconst 1, 1) := by decide +kernel
theorem dX7_step_9 : decode cX7_step 9 = .ok (.goto 4, 3) := by decide +kernel
theorem dX7_step_12 : decode cX7_step 12 = .ok (.iconst 0, 1) := by decide +kernel
theorem dX7_step_13 : decode cX7_step 13 = .ok (.iconst 1, 1) := by decide +kernel
theorem dX7_step_14 : decode cX7_step 14 = .ok (.invokevirtual 78, 3) := by decide +kernel
theorem dX7_step_17 : decode cX7_step 17 = .ok (.ifCond .eq 5, 3) := by decide +kernel
theorem dX7_step_20 : decode cX7_step 20 = .ok (.iconst 0, 1) := by decide +kernel
theorem dX7_step_21 : decode cX7_step 21 = .ok (.ireturn, 1) := by decide +kernel
theorem dX7_step_22 : decode cX7_step 22 = .ok (.aload_n 0, 1) := by decide +kernel
theorem dX7_step_23 : decode cX7_step 23 = .ok (.aload_n 0, 1) := by decide +kernel
theorem dX7_step_24 : decode cX7_step 24 = .ok (.getfield 56, 3) := by decide +kernel
theorem dX7_step_27 : decode cX7_step 27 = .ok (.aload_n 0, 1) := by decide +kernel
theorem dX7_step_28 : decode cX7_step 28 = .ok (.getfield 165, 3) := by decide +kernel
theorem dX7_step_31 : decode cX7_step 31 = .ok (.iconst 1, 1) := by decide +kernel
theorem dX7_step_32 : decode cX7_step 32 = .ok (.isub, 1) := by decide +kernel
theorem dX7_step_33 : decode cX7_step 33 = .ok (.iaload, 1) := by decide +kernel
theorem dX7_step_34 : decode cX7_step 34 = .ok (.iload_n 1, 1) := by decide +kernel
theorem dX7_step_35 : decode cX7_step 35 = .ok (.invokevirtual 132, 3) := by decide +kernel
theorem dX7_step_38 : decode cX7_step 38 = .ok (.istore_n 2, 1) := by decide +kernel
theorem dX7_step_39 : decode cX7_step 39 = .ok (.aload_n 0, 1) := by decide +kernel
theorem dX7_step_40 : decode cX7_step 40 = .ok (.iload_n 2, 1) := by decide +kernel
theorem dX7_step_41 : decode cX7_step 41 = .ok (.ifCond .ge 7, 3) := by decide +kernel
theorem dX7_step_44 : decode cX7_step 44 = .ok (.iconst 1, 1) := by decide +kernel
theorem dX7_step_45 : decode cX7_step 45 = .ok (.goto 4, 3) := by decide +kernel
theorem dX7_step_48 : decode cX7_step 48 = .ok (.iconst 0, 1) := by decide +kernel
theorem dX7_step_49 : decode cX7_step 49 = .ok (.iconst 2, 1) := by decide +kernel
theorem dX7_step_50 : decode cX7_step 50 = .ok (.invokevirtual 78, 3) := by decide +kernel
theorem dX7_step_53 : decode cX7_step 53 = .ok (.ifCond .eq 5, 3) := by decide +kernel
theorem dX7_step_56 : decode cX7_step 56 = .ok (.iconst 0, 1) := by decide +kernel
theorem dX7_step_57 : decode cX7_step 57 = .ok (.ireturn, 1) := by decide +kernel
theorem dX7_step_58 : decode cX7_step 58 = .ok (.aload_n 0, 1) := by decide +kernel
theorem dX7_step_59 : decode cX7_step 59 = .ok (.aload_n 0, 1) := by decide +kernel
theorem dX7_step_60 : decode cX7_step 60 = .ok (.getfield 56, 3) := by decide +kernel
theorem dX7_step_63 : decode cX7_step 63 = .ok (.aload_n 0, 1) := by decide +kernel
theorem dX7_step_64 : decode cX7_step 64 = .ok (.getfield 165, 3) := by decide +kernel
theorem dX7_step_67 : decode cX7_step 67 = .ok (.iload_n 2, 1) := by decide +kernel
theorem dX7_step_68 : decode cX7_step 68 = .ok (.aload_n 0, 1) := by decide +kernel
theorem dX7_step_69 : decode cX7_step 69 = .ok (.getfield 168, 3) := by decide +kernel
theorem dX7_step_72 : decode cX7_step 72 = .ok (.invokevirtual 142, 3) := by decide +kernel
theorem dX7_step_75 : decode cX7_step 75 = .ok (.istore_n 3, 1) := by decide +kernel
theorem dX7_step_76 : decode cX7_step 76 = .ok (.iload_n 3, 1) := by decide +kernel
theorem dX7_step_77 : decode cX7_step 77 = .ok (.bipush 111, 2) := by decide +kernel
theorem dX7_step_79 : decode cX7_step 79 = .ok (.if_icmp .ne 23, 3) := by decide +kernel
theorem dX7_step_82 : decode cX7_step 82 = .ok (.aload_n 0, 1) := by decide +kernel
theorem dX7_step_83 : decode cX7_step 83 = .ok (.getfield 56, 3) := by decide +kernel
theorem dX7_step_86 : decode cX7_step 86 = .ok (.aload_n 0, 1) := by decide +kernel
theorem dX7_step_87 : decode cX7_step 87 = .ok (.getfield 165, 3) := by decide +kernel
theorem dX7_step_90 : decode cX7_step 90 = .ok (.iload_n 2, 1) := by decide +kernel
theorem dX7_step_91 : decode cX7_step 91 = .ok (.iastore, 1) := by decide +kernel
theorem dX7_step_92 : decode cX7_step 92 = .ok (.aload_n 0, 1) := by decide +kernel
theorem dX7_step_93 : decode cX7_step 93 = .ok (.dup, 1) := by decide +kernel
theorem dX7_step_94 : decode cX7_step 94 = .ok (.getfield 165, 3) := by decide +kernel
theorem dX7_step_97 : decode cX7_step 97 = .ok (.iconst 1, 1) := by decide +kernel
theorem dX7_step_98 : decode cX7_step 98 = .ok (.iadd, 1) := by decide +kernel
theorem dX7_step_99 : decode cX7_step 99 = .ok (.putfield 165, 3) := by decide +kernel
theorem dX7_step_102 : decode cX7_step 102 = .ok (.iload_n 3, 1) := by decide +kernel
theorem dX7_step_103 : decode cX7_step 103 = .ok (.ireturn, 1) := by decide +kernel
theorem dX7_reached_0 : decode cX7_reached 0 = .ok (.aload_n 0, 1) := by decide +kernel
theorem dX7_reached_1 : decode cX7_reached 1 = .ok (.aload_n 0, 1) := by decide +kernel
theorem dX7_reached_2 : decode cX7_reached 2 = .ok (.getfield 165, 3) := by decide +kernel
theorem dX7_reached_5 : decode cX7_reached 5 = .ok (.ifCond .ne 7, 3) := by decide +kernel
theorem dX7_reached_8 : decode cX7_reached 8 = .ok (.iconst 1, 1) := by decide +kernel
theorem dX7_reached_9 : decode cX7_reached 9 = .ok (.goto 4, 3) := by decide +kernel
theorem dX7_reached_12 : decode cX7_reached 12 = .ok (.iconst 0, 1) := by decide +kernel
theorem dX7_reached_13 : decode cX7_reached 13 = .ok (.iconst 1, 1) := by decide +kernel
theorem dX7_reached_14 : decode cX7_reached 14 = .ok (.invokevirtual 78, 3) := by decide +kernel
theorem dX7_reached_17 : decode cX7_reached 17 = .ok (.ifCond .eq 7, 3) := by decide +kernel
theorem dX7_reached_20 : decode cX7_reached 20 = .ok (.iconst 0, 1) := by decide +kernel
theorem dX7_reached_21 : decode cX7_reached 21 = .ok (.goto 14, 3) := by decide +kernel
theorem dX7_reached_24 : decode cX7_reached 24 = .ok (.aload_n 0, 1) := by decide +kernel
theorem dX7_reached_25 : decode cX7_reached 25 = .ok (.getfield 56, 3) := by decide +kernel
theorem dX7_reached_28 : decode cX7_reached 28 = .ok (.aload_n 0, 1) := by decide +kernel
theorem dX7_reached_29 : decode cX7_reached 29 = .ok (.getfield 165, 3) := by decide +kernel
theorem dX7_reached_32 : decode cX7_reached 32 = .ok (.iconst 1, 1) := by decide +kernel
theorem dX7_reached_33 : decode cX7_reached 33 = .ok (.isub, 1) := by decide +kernel
theorem dX7_reached_34 : decode cX7_reached 34 = .ok (.iaload, 1) := by decide +kernel
theorem dX7_reached_35 : decode cX7_reached 35 = .ok (.ireturn, 1) := by decide +kernel
theorem dX7_walked_0 : decode cX7_walked 0 = .ok (.aload_n 0, 1) := by decide +kernel
theorem dX7_walked_1 : decode cX7_walked 1 = .ok (.aload_n 0, 1) := by decide +kernel
theorem dX7_walked_2 : decode cX7_walked 2 = .ok (.getfield 165, 3) := by decide +kernel
theorem dX7_walked_5 : decode cX7_walked 5 = .ok (.invokevirtual 113, 3) := by decide +kernel
theorem dX7_walked_8 : decode cX7_walked 8 = .ok (.ireturn, 1) := by decide +kernel
theorem dX7_isThrough_0 : decode cX7_isThrough 0 = .ok (.aload_n 0, 1) := by decide +kernel
theorem dX7_isThrough_1 : decode cX7_isThrough 1 = .ok (.iconst 0, 1) := by decide +kernel
theorem dX7_isThrough_2 : decode cX7_isThrough 2 = .ok (.putfield 63, 3) := by decide +kernel
theorem dX7_isThrough_5 : decode cX7_isThrough 5 = .ok (.aload_n 0, 1) := by decide +kernel
theorem dX7_isThrough_6 : decode cX7_isThrough 6 = .ok (.getfield 165, 3) := by decide +kernel
theorem dX7_isThrough_9 : decode cX7_isThrough 9 = .ok (.ifCond .le 45, 3) := by decide +kernel
theorem dX7_isThrough_12 : decode cX7_isThrough 12 = .ok (.aload_n 0, 1) := by decide +kernel
theorem dX7_isThrough_13 : decode cX7_isThrough 13 = .ok (.getfield 44, 3) := by decide +kernel
theorem dX7_isThrough_16 : decode cX7_isThrough 16 = .ok (.aload_n 0, 1) := by decide +kernel
theorem dX7_isThrough_17 : decode cX7_isThrough 17 = .ok (.getfield 56, 3) := by decide +kernel
theorem dX7_isThrough_20 : decode cX7_isThrough 20 = .ok (.aload_n 0, 1) := by decide +kernel
theorem dX7_isThrough_21 : decode cX7_isThrough 21 = .ok (.getfield 165, 3) := by decide +kernel
theorem dX7_isThrough_24 : decode cX7_isThrough 24 = .ok (.iconst 1, 1) := by decide +kernel
theorem dX7_isThrough_25 : decode cX7_isThrough 25 = .ok (.isub, 1) := by decide +kernel
theorem dX7_isThrough_26 : decode cX7_isThrough 26 = .ok (.iaload, 1) := by decide +kernel
theorem dX7_isThrough_27 : decode cX7_isThrough 27 = .ok (.baload, 1) := by decide +kernel
theorem dX7_isThrough_28 : decode cX7_isThrough 28 = .ok (.ifCond .eq 26, 3) := by decide +kernel
theorem dX7_isThrough_31 : decode cX7_isThrough 31 = .ok (.aload_n 0, 1) := by decide +kernel
theorem dX7_isThrough_32 : decode cX7_isThrough 32 = .ok (.getfield 47, 3) := by decide +kernel
theorem dX7_isThrough_35 : decode cX7_isThrough 35 = .ok (.aload_n 0, 1) := by decide +kernel
theorem dX7_isThrough_36 : decode cX7_isThrough 36 = .ok (.getfield 56, 3) := by decide +kernel
theorem dX7_isThrough_39 : decode cX7_isThrough 39 = .ok (.aload_n 0, 1) := by decide +kernel
theorem dX7_isThrough_40 : decode cX7_isThrough 40 = .ok (.getfield 165, 3) := by decide +kernel
theorem dX7_isThrough_43 : decode cX7_isThrough 43 = .ok (.iconst 1, 1) := by decide +kernel
theorem dX7_isThrough_44 : decode cX7_isThrough 44 = .ok (.isub, 1) := by decide +kernel
theorem dX7_isThrough_45 : decode cX7_isThrough 45 = .ok (.iaload, 1) := by decide +kernel
theorem dX7_isThrough_46 : decode cX7_isThrough 46 = .ok (.baload, 1) := by decide +kernel
theorem dX7_isThrough_47 : decode cX7_isThrough 47 = .ok (.ifCond .eq 7, 3) := by decide +kernel
theorem dX7_isThrough_50 : decode cX7_isThrough 50 = .ok (.iconst 1, 1) := by decide +kernel
theorem dX7_isThrough_51 : decode cX7_isThrough 51 = .ok (.goto 4, 3) := by decide +kernel
theorem dX7_isThrough_54 : decode cX7_isThrough 54 = .ok (.iconst 0, 1) := by decide +kernel
theorem dX7_isThrough_55 : decode cX7_isThrough 55 = .ok (.ireturn, 1) := by decide +kernel
theorem dX7_joined_0 : decode cX7_joined 0 = .ok (.ldc2_w 171, 3) := by decide +kernel
theorem dX7_joined_3 : decode cX7_joined 3 = .ok (.lload_n 0, 1) := by decide +kernel
theorem dX7_joined_4 : decode cX7_joined 4 = .ok (.lmul, 1) := by decide +kernel
theorem dX7_joined_5 : decode cX7_joined 5 = .ok (.ldc2_w 173, 3) := by decide +kernel
theorem dX7_joined_8 : decode cX7_joined 8 = .ok (.lload_n 2, 1) := by decide +kernel
theorem dX7_joined_9 : decode cX7_joined 9 = .ok (.lmul, 1) := by decide +kernel
theorem dX7_joined_10 : decode cX7_joined 10 = .ok (.ladd, 1) := by decide +kernel
theorem dX7_joined_11 : decode cX7_joined 11 = .ok (.ldc2_w 175, 3) := by decide +kernel
theorem dX7_joined_14 : decode cX7_joined 14 = .ok (.ladd, 1) := by decide +kernel
theorem dX7_joined_15 : decode cX7_joined 15 = .ok (.ldc2_w 177, 3) := by decide +kernel
theorem dX7_joined_18 : decode cX7_joined 18 = .ok (.lrem, 1) := by decide +kernel
theorem dX7_joined_19 : decode cX7_joined 19 = .ok (.lreturn, 1) := by decide +kernel
theorem dX7_split_0 : decode cX7_split 0 = .ok (.iconst 1, 1) := by decide +kernel
theorem dX7_split_1 : decode cX7_split 1 = .ok (.istore_n 1, 1) := by decide +kernel
theorem dX7_split_2 : decode cX7_split 2 = .ok (.iconst 2, 1) := by decide +kernel
theorem dX7_split_3 : decode cX7_split 3 = .ok (.iload_n 1, 1) := by decide +kernel
theorem dX7_split_4 : decode cX7_split 4 = .ok (.imul, 1) := by decide +kernel
theorem dX7_split_5 : decode cX7_split 5 = .ok (.iload_n 0, 1) := by decide +kernel
theorem dX7_split_6 : decode cX7_split 6 = .ok (.if_icmp .ge 10, 3) := by decide +kernel
theorem dX7_split_9 : decode cX7_split 9 = .ok (.iload_n 1, 1) := by decide +kernel
theorem dX7_split_10 : decode cX7_split 10 = .ok (.iconst 2, 1) := by decide +kernel
theorem dX7_split_11 : decode cX7_split 11 = .ok (.imul, 1) := by decide +kernel
theorem dX7_split_12 : decode cX7_split 12 = .ok (.istore_n 1, 1) := by decide +kernel
theorem dX7_split_13 : decode cX7_split 13 = .ok (.goto (-11), 3) := by decide +kernel
theorem dX7_split_16 : decode cX7_split 16 = .ok (.iload_n 1, 1) := by decide +kernel
theorem dX7_split_17 : decode cX7_split 17 = .ok (.ireturn, 1) := by decide +kernel
theorem dX7_rootFrom_0 : decode cX7_rootFrom 0 = .ok (.iload_n 2, 1) := by decide +kernel
theorem dX7_rootFrom_1 : decode cX7_rootFrom 1 = .ok (.iconst 1, 1) := by decide +kernel
theorem dX7_rootFrom_2 : decode cX7_rootFrom 2 = .ok (.if_icmp .ne 54, 3) := by decide +kernel
theorem dX7_rootFrom_5 : decode cX7_rootFrom 5 = .ok (.ldc2_w 179, 3) := by decide +kernel
theorem dX7_rootFrom_8 : decode cX7_rootFrom 8 = .ok (.iload_n 1, 1) := by decide +kernel
theorem dX7_rootFrom_9 : decode cX7_rootFrom 9 = .ok (.i2l, 1) := by decide +kernel
theorem dX7_rootFrom_10 : decode cX7_rootFrom 10 = .ok (.lmul, 1) := by decide +kernel
theorem dX7_rootFrom_11 : decode cX7_rootFrom 11 = .ok (.ldc2_w 181, 3) := by decide +kernel
theorem dX7_rootFrom_14 : decode cX7_rootFrom 14 = .ok (.aload_n 0, 1) := by decide +kernel
theorem dX7_rootFrom_15 : decode cX7_rootFrom 15 = .ok (.getfield 9, 3) := by decide +kernel
theorem dX7_rootFrom_18 : decode cX7_rootFrom 18 = .ok (.iload_n 1, 1) := by decide +kernel
theorem dX7_rootFrom_19 : decode cX7_rootFrom 19 = .ok (.iaload, 1) := by decide +kernel
theorem dX7_rootFrom_20 : decode cX7_rootFrom 20 = .ok (.i2l, 1) := by decide +kernel
theorem dX7_rootFrom_21 : decode cX7_rootFrom 21 = .ok (.lmul, 1) := by decide +kernel
theorem dX7_rootFrom_22 : decode cX7_rootFrom 22 = .ok (.ladd, 1) := by decide +kernel
theorem dX7_rootFrom_23 : decode cX7_rootFrom 23 = .ok (.ldc2_w 183, 3) := by decide +kernel
theorem dX7_rootFrom_26 : decode cX7_rootFrom 26 = .ok (.aload_n 0, 1) := by decide +kernel
theorem dX7_rootFrom_27 : decode cX7_rootFrom 27 = .ok (.getfield 13, 3) := by decide +kernel
theorem dX7_rootFrom_30 : decode cX7_rootFrom 30 = .ok (.iload_n 1, 1) := by decide +kernel
theorem dX7_rootFrom_31 : decode cX7_rootFrom 31 = .ok (.iaload, 1) := by decide +kernel
theorem dX7_rootFrom_32 : decode cX7_rootFrom 32 = .ok (.i2l, 1) := by decide +kernel
theorem dX7_rootFrom_33 : decode cX7_rootFrom 33 = .ok (.lmul, 1) := by decide +kernel
theorem dX7_rootFrom_34 : decode cX7_rootFrom 34 = .ok (.ladd, 1) := by decide +kernel
theorem dX7_rootFrom_35 : decode cX7_rootFrom 35 = .ok (.ldc2_w 185, 3) := by decide +kernel
theorem dX7_rootFrom_38 : decode cX7_rootFrom 38 = .ok (.aload_n 0, 1) := by decide +kernel
theorem dX7_rootFrom_39 : decode cX7_rootFrom 39 = .ok (.getfield 25, 3) := by decide +kernel
theorem dX7_rootFrom_42 : decode cX7_rootFrom 42 = .ok (.iload_n 1, 1) := by decide +kernel
theorem dX7_rootFrom_43 : decode cX7_rootFrom 43 = .ok (.iaload, 1) := by decide +kernel
theorem dX7_rootFrom_44 : decode cX7_rootFrom 44 = .ok (.i2l, 1) := by decide +kernel
theorem dX7_rootFrom_45 : decode cX7_rootFrom 45 = .ok (.lmul, 1) := by decide +kernel
theorem dX7_rootFrom_46 : decode cX7_rootFrom 46 = .ok (.ladd, 1) := by decide +kernel
theorem dX7_rootFrom_47 : decode cX7_rootFrom 47 = .ok (.ldc2_w 187, 3) := by decide +kernel
theorem dX7_rootFrom_50 : decode cX7_rootFrom 50 = .ok (.ladd, 1) := by decide +kernel
theorem dX7_rootFrom_51 : decode cX7_rootFrom 51 = .ok (.ldc2_w 177, 3) := by decide +kernel
theorem dX7_rootFrom_54 : decode cX7_rootFrom 54 = .ok (.lrem, 1) := by decide +kernel
theorem dX7_rootFrom_55 : decode cX7_rootFrom 55 = .ok (.lreturn, 1) := by decide +kernel
theorem dX7_rootFrom_56 : decode cX7_rootFrom 56 = .ok (.iload_n 2, 1) := by decide +kernel
theorem dX7_rootFrom_57 : decode cX7_rootFrom 57 = .ok (.invokestatic 189, 3) := by decide +kernel
theorem dX7_rootFrom_60 : decode cX7_rootFrom 60 = .ok (.istore_n 3, 1) := by decide +kernel
theorem dX7_rootFrom_61 : decode cX7_rootFrom 61 = .ok (.aload_n 0, 1) := by decide +kernel
theorem dX7_rootFrom_62 : decode cX7_rootFrom 62 = .ok (.iload_n 1, 1) := by decide +kernel
theorem dX7_rootFrom_63 : decode cX7_rootFrom 63 = .ok (.iload_n 3, 1) := by decide +kernel
theorem dX7_rootFrom_64 : decode cX7_rootFrom 64 = .ok (.invokevirtual 192, 3) := by decide +kernel
theorem dX7_rootFrom_67 : decode cX7_rootFrom 67 = .ok (.aload_n 0, 1) := by decide +kernel
theorem dX7_rootFrom_68 : decode cX7_rootFrom 68 = .ok (.iload_n 1, 1) := by decide +kernel
theorem dX7_rootFrom_69 : decode cX7_rootFrom 69 = .ok (.iload_n 3, 1) := by decide +kernel
theorem dX7_rootFrom_70 : decode cX7_rootFrom 70 = .ok (.iadd, 1) := by decide +kernel
theorem dX7_rootFrom_71 : decode cX7_rootFrom 71 = .ok (.iload_n 2, 1) := by decide +kernel
theorem dX7_rootFrom_72 : decode cX7_rootFrom 72 = .ok (.iload_n 3, 1) := by decide +kernel
theorem dX7_rootFrom_73 : decode cX7_rootFrom 73 = .ok (.isub, 1) := by decide +kernel
theorem dX7_rootFrom_74 : decode cX7_rootFrom 74 = .ok (.invokevirtual 192, 3) := by decide +kernel
theorem dX7_rootFrom_77 : decode cX7_rootFrom 77 = .ok (.invokestatic 196, 3) := by decide +kernel
theorem dX7_rootFrom_80 : decode cX7_rootFrom 80 = .ok (.lreturn, 1) := by decide +kernel
theorem dX7_isNoSize_0 : decode cX7_isNoSize 0 = .ok (.aload_n 0, 1) := by decide +kernel
theorem dX7_isNoSize_1 : decode cX7_isNoSize 1 = .ok (.iload_n 1, 1) := by decide +kernel
theorem dX7_isNoSize_2 : decode cX7_isNoSize 2 = .ok (.iconst 1, 1) := by decide +kernel
theorem dX7_isNoSize_3 : decode cX7_isNoSize 3 = .ok (.aload_n 0, 1) := by decide +kernel
theorem dX7_isNoSize_4 : decode cX7_isNoSize 4 = .ok (.getfield 71, 3) := by decide +kernel
theorem dX7_isNoSize_7 : decode cX7_isNoSize 7 = .ok (.invokestatic 67, 3) := by decide +kernel
theorem dX7_isNoSize_10 : decode cX7_isNoSize 10 = .ok (.ifCond .ne 7, 3) := by decide +kernel
theorem dX7_isNoSize_13 : decode cX7_isNoSize 13 = .ok (.iconst 1, 1) := by decide +kernel
theorem dX7_isNoSize_14 : decode cX7_isNoSize 14 = .ok (.goto 4, 3) := by decide +kernel
theorem dX7_isNoSize_17 : decode cX7_isNoSize 17 = .ok (.iconst 0, 1) := by decide +kernel
theorem dX7_isNoSize_18 : decode cX7_isNoSize 18 = .ok (.iconst 1, 1) := by decide +kernel
theorem dX7_isNoSize_19 : decode cX7_isNoSize 19 = .ok (.invokevirtual 78, 3) := by decide +kernel
theorem dX7_isNoSize_22 : decode cX7_isNoSize 22 = .ok (.ireturn, 1) := by decide +kernel
theorem dX7_rootOf_0 : decode cX7_rootOf 0 = .ok (.aload_n 0, 1) := by decide +kernel
theorem dX7_rootOf_1 : decode cX7_rootOf 1 = .ok (.iload_n 1, 1) := by decide +kernel
theorem dX7_rootOf_2 : decode cX7_rootOf 2 = .ok (.invokevirtual 200, 3) := by decide +kernel
theorem dX7_rootOf_5 : decode cX7_rootOf 5 = .ok (.ifCond .eq 7, 3) := by decide +kernel
theorem dX7_rootOf_8 : decode cX7_rootOf 8 = .ok (.lconst 0, 1) := by decide +kernel
theorem dX7_rootOf_9 : decode cX7_rootOf 9 = .ok (.goto 9, 3) := by decide +kernel
theorem dX7_rootOf_12 : decode cX7_rootOf 12 = .ok (.aload_n 0, 1) := by decide +kernel
theorem dX7_rootOf_13 : decode cX7_rootOf 13 = .ok (.iconst 0, 1) := by decide +kernel
theorem dX7_rootOf_14 : decode cX7_rootOf 14 = .ok (.iload_n 1, 1) := by decide +kernel
theorem dX7_rootOf_15 : decode cX7_rootOf 15 = .ok (.invokevirtual 192, 3) := by decide +kernel
theorem dX7_rootOf_18 : decode cX7_rootOf 18 = .ok (.lreturn, 1) := by decide +kernel
theorem dX7_rootByJoining_0 : decode cX7_rootByJoining 0 = .ok (.aload_n 0, 1) := by decide +kernel
theorem dX7_rootByJoining_1 : decode cX7_rootByJoining 1 = .ok (.iload_n 1, 1) := by decide +kernel
theorem dX7_rootByJoining_2 : decode cX7_rootByJoining 2 = .ok (.invokevirtual 203, 3) := by decide +kernel
theorem dX7_rootByJoining_5 : decode cX7_rootByJoining 5 = .ok (.lreturn, 1) := by decide +kernel
theorem dX7_adds_0 : decode cX7_adds 0 = .ok (.aload_n 0, 1) := by decide +kernel
theorem dX7_adds_1 : decode cX7_adds 1 = .ok (.getfield 59, 3) := by decide +kernel
theorem dX7_adds_4 : decode cX7_adds 4 = .ok (.aload_n 0, 1) := by decide +kernel
theorem dX7_adds_5 : decode cX7_adds 5 = .ok (.getfield 207, 3) := by decide +kernel
theorem dX7_adds_8 : decode cX7_adds 8 = .ok (.lload_n 1, 1) := by decide +kernel
theorem dX7_adds_9 : decode cX7_adds 9 = .ok (.lastore, 1) := by decide +kernel
theorem dX7_adds_10 : decode cX7_adds 10 = .ok (.aload_n 0, 1) := by decide +kernel
theorem dX7_adds_11 : decode cX7_adds 11 = .ok (.dup, 1) := by decide +kernel
theorem dX7_adds_12 : decode cX7_adds 12 = .ok (.getfield 207, 3) := by decide +kernel
theorem dX7_adds_15 : decode cX7_adds 15 = .ok (.iconst 1, 1) := by decide +kernel
theorem dX7_adds_16 : decode cX7_adds 16 = .ok (.iadd, 1) := by decide +kernel
theorem dX7_adds_17 : decode cX7_adds 17 = .ok (.putfield 207, 3) := by decide +kernel
theorem dX7_adds_20 : decode cX7_adds 20 = .ok (.return_, 1) := by decide +kernel
theorem dX7_proves_0 : decode cX7_proves 0 = .ok (.iload_n 3, 1) := by decide +kernel
theorem dX7_proves_1 : decode cX7_proves 1 = .ok (.iconst 1, 1) := by decide +kernel
theorem dX7_proves_2 : decode cX7_proves 2 = .ok (.if_icmp .le 68, 3) := by decide +kernel
theorem dX7_proves_5 : decode cX7_proves 5 = .ok (.iload_n 3, 1) := by decide +kernel
theorem dX7_proves_6 : decode cX7_proves 6 = .ok (.invokestatic 189, 3) := by decide +kernel
theorem dX7_proves_9 : decode cX7_proves 9 = .ok (.istore 4, 2) := by decide +kernel
theorem dX7_proves_11 : decode cX7_proves 11 = .ok (.iload_n 1, 1) := by decide +kernel
theorem dX7_proves_12 : decode cX7_proves 12 = .ok (.iload_n 2, 1) := by decide +kernel
theorem dX7_proves_13 : decode cX7_proves 13 = .ok (.iload 4, 2) := by decide +kernel
theorem dX7_proves_15 : decode cX7_proves 15 = .ok (.iadd, 1) := by decide +kernel
theorem dX7_proves_16 : decode cX7_proves 16 = .ok (.if_icmp .ge 30, 3) := by decide +kernel
theorem dX7_proves_19 : decode cX7_proves 19 = .ok (.aload_n 0, 1) := by decide +kernel
theorem dX7_proves_20 : decode cX7_proves 20 = .ok (.iload_n 1, 1) := by decide +kernel
theorem dX7_proves_21 : decode cX7_proves 21 = .ok (.iload_n 2, 1) := by decide +kernel
theorem dX7_proves_22 : decode cX7_proves 22 = .ok (.iload 4, 2) := by decide +kernel
theorem dX7_proves_24 : decode cX7_proves 24 = .ok (.invokevirtual 210, 3) := by decide +kernel
theorem dX7_proves_27 : decode cX7_proves 27 = .ok (.aload_n 0, 1) := by decide +kernel
theorem dX7_proves_28 : decode cX7_proves 28 = .ok (.aload_n 0, 1) := by decide +kernel
theorem dX7_proves_29 : decode cX7_proves 29 = .ok (.iload_n 2, 1) := by decide +kernel
theorem dX7_proves_30 : decode cX7_proves 30 = .ok (.iload 4, 2) := by decide +kernel
theorem dX7_proves_32 : decode cX7_proves 32 = .ok (.iadd, 1) := by decide +kernel
theorem dX7_proves_33 : decode cX7_proves 33 = .ok (.iload_n 3, 1) := by decide +kernel
theorem dX7_proves_34 : decode cX7_proves 34 = .ok (.iload 4, 2) := by decide +kernel
theorem dX7_proves_36 : decode cX7_proves 36 = .ok (.isub, 1) := by decide +kernel
theorem dX7_proves_37 : decode cX7_proves 37 = .ok (.invokevirtual 192, 3) := by decide +kernel
theorem dX7_proves_40 : decode cX7_proves 40 = .ok (.invokevirtual 214, 3) := by decide +kernel
theorem dX7_proves_43 : decode cX7_proves 43 = .ok (.goto 27, 3) := by decide +kernel
theorem dX7_proves_46 : decode cX7_proves 46 = .ok (.aload_n 0, 1) := by decide +kernel
theorem dX7_proves_47 : decode cX7_proves 47 = .ok (.iload_n 1, 1) := by decide +kernel
theorem dX7_proves_48 : decode cX7_proves 48 = .ok (.iload_n 2, 1) := by decide +kernel
theorem dX7_proves_49 : decode cX7_proves 49 = .ok (.iload 4, 2) := by decide +kernel
theorem dX7_proves_51 : decode cX7_proves 51 = .ok (.iadd, 1) := by decide +kernel
theorem dX7_proves_52 : decode cX7_proves 52 = .ok (.iload_n 3, 1) := by decide +kernel
theorem dX7_proves_53 : decode cX7_proves 53 = .ok (.iload 4, 2) := by decide +kernel
theorem dX7_proves_55 : decode cX7_proves 55 = .ok (.isub, 1) := by decide +kernel
theorem dX7_proves_56 : decode cX7_proves 56 = .ok (.invokevirtual 210, 3) := by decide +kernel
theorem dX7_proves_59 : decode cX7_proves 59 = .ok (.aload_n 0, 1) := by decide +kernel
theorem dX7_proves_60 : decode cX7_proves 60 = .ok (.aload_n 0, 1) := by decide +kernel
theorem dX7_proves_61 : decode cX7_proves 61 = .ok (.iload_n 2, 1) := by decide +kernel
theorem dX7_proves_62 : decode cX7_proves 62 = .ok (.iload 4, 2) := by decide +kernel
theorem dX7_proves_64 : decode cX7_proves 64 = .ok (.invokevirtual 192, 3) := by decide +kernel
theorem dX7_proves_67 : decode cX7_proves 67 = .ok (.invokevirtual 214, 3) := by decide +kernel
theorem dX7_proves_70 : decode cX7_proves 70 = .ok (.return_, 1) := by decide +kernel
theorem dX7_isProof_0 : decode cX7_isProof 0 = .ok (.aload_n 0, 1) := by decide +kernel
theorem dX7_isProof_1 : decode cX7_isProof 1 = .ok (.iload_n 2, 1) := by decide +kernel
theorem dX7_isProof_2 : decode cX7_isProof 2 = .ok (.invokevirtual 200, 3) := by decide +kernel
theorem dX7_isProof_5 : decode cX7_isProof 5 = .ok (.ifCond .ne 27, 3) := by decide +kernel
theorem dX7_isProof_8 : decode cX7_isProof 8 = .ok (.aload_n 0, 1) := by decide +kernel
theorem dX7_isProof_9 : decode cX7_isProof 9 = .ok (.iload_n 1, 1) := by decide +kernel
theorem dX7_isProof_10 : decode cX7_isProof 10 = .ok (.iconst 0, 1) := by decide +kernel
theorem dX7_isProof_11 : decode cX7_isProof 11 = .ok (.iload_n 2, 1) := by decide +kernel
theorem dX7_isProof_12 : decode cX7_isProof 12 = .ok (.iconst 1, 1) := by decide +kernel
theorem dX7_isProof_13 : decode cX7_isProof 13 = .ok (.isub, 1) := by decide +kernel
theorem dX7_isProof_14 : decode cX7_isProof 14 = .ok (.invokestatic 67, 3) := by decide +kernel
theorem dX7_isProof_17 : decode cX7_isProof 17 = .ok (.ifCond .ne 7, 3) := by decide +kernel
theorem dX7_isProof_20 : decode cX7_isProof 20 = .ok (.iconst 1, 1) := by decide +kernel
theorem dX7_isProof_21 : decode cX7_isProof 21 = .ok (.goto 4, 3) := by decide +kernel
theorem dX7_isProof_24 : decode cX7_isProof 24 = .ok (.iconst 0, 1) := by decide +kernel
theorem dX7_isProof_25 : decode cX7_isProof 25 = .ok (.iconst 2, 1) := by decide +kernel
theorem dX7_isProof_26 : decode cX7_isProof 26 = .ok (.invokevirtual 78, 3) := by decide +kernel
theorem dX7_isProof_29 : decode cX7_isProof 29 = .ok (.ifCond .eq 5, 3) := by decide +kernel
theorem dX7_isProof_32 : decode cX7_isProof 32 = .ok (.iconst 0, 1) := by decide +kernel
theorem dX7_isProof_33 : decode cX7_isProof 33 = .ok (.ireturn, 1) := by decide +kernel
theorem dX7_isProof_34 : decode cX7_isProof 34 = .ok (.aload_n 0, 1) := by decide +kernel
theorem dX7_isProof_35 : decode cX7_isProof 35 = .ok (.iconst 0, 1) := by decide +kernel
theorem dX7_isProof_36 : decode cX7_isProof 36 = .ok (.putfield 207, 3) := by decide +kernel
theorem dX7_isProof_39 : decode cX7_isProof 39 = .ok (.aload_n 0, 1) := by decide +kernel
theorem dX7_isProof_40 : decode cX7_isProof 40 = .ok (.iload_n 1, 1) := by decide +kernel
theorem dX7_isProof_41 : decode cX7_isProof 41 = .ok (.iconst 0, 1) := by decide +kernel
theorem dX7_isProof_42 : decode cX7_isProof 42 = .ok (.iload_n 2, 1) := by decide +kernel
theorem dX7_isProof_43 : decode cX7_isProof 43 = .ok (.invokevirtual 210, 3) := by decide +kernel
theorem dX7_isProof_46 : decode cX7_isProof 46 = .ok (.iconst 1, 1) := by decide +kernel
theorem dX7_isProof_47 : decode cX7_isProof 47 = .ok (.ireturn, 1) := by decide +kernel
theorem dX7_rowAt_0 : decode cX7_rowAt 0 = .ok (.aload_n 0, 1) := by decide +kernel
theorem dX7_rowAt_1 : decode cX7_rowAt 1 = .ok (.iload_n 1, 1) := by decide +kernel
theorem dX7_rowAt_2 : decode cX7_rowAt 2 = .ok (.iconst 0, 1) := by decide +kernel
theorem dX7_rowAt_3 : decode cX7_rowAt 3 = .ok (.aload_n 0, 1) := by decide +kernel
theorem dX7_rowAt_4 : decode cX7_rowAt 4 = .ok (.getfield 207, 3) := by decide +kernel
theorem dX7_rowAt_7 : decode cX7_rowAt 7 = .ok (.iconst 1, 1) := by decide +kernel
theorem dX7_rowAt_8 : decode cX7_rowAt 8 = .ok (.isub, 1) := by decide +kernel
theorem dX7_rowAt_9 : decode cX7_rowAt 9 = .ok (.invokestatic 67, 3) := by decide +kernel
theorem dX7_rowAt_12 : decode cX7_rowAt 12 = .ok (.ifCond .ne 7, 3) := by decide +kernel
theorem dX7_rowAt_15 : decode cX7_rowAt 15 = .ok (.iconst 1, 1) := by decide +kernel
theorem dX7_rowAt_16 : decode cX7_rowAt 16 = .ok (.goto 4, 3) := by decide +kernel
theorem dX7_rowAt_19 : decode cX7_rowAt 19 = .ok (.iconst 0, 1) := by decide +kernel
theorem dX7_rowAt_20 : decode cX7_rowAt 20 = .ok (.iconst 2, 1) := by decide +kernel
theorem dX7_rowAt_21 : decode cX7_rowAt 21 = .ok (.invokevirtual 78, 3) := by decide +kernel
theorem dX7_rowAt_24 : decode cX7_rowAt 24 = .ok (.ifCond .eq 7, 3) := by decide +kernel
theorem dX7_rowAt_27 : decode cX7_rowAt 27 = .ok (.lconst 0, 1) := by decide +kernel
theorem dX7_rowAt_28 : decode cX7_rowAt 28 = .ok (.goto 9, 3) := by decide +kernel
theorem dX7_rowAt_31 : decode cX7_rowAt 31 = .ok (.aload_n 0, 1) := by decide +kernel
theorem dX7_rowAt_32 : decode cX7_rowAt 32 = .ok (.getfield 59, 3) := by decide +kernel
theorem dX7_rowAt_35 : decode cX7_rowAt 35 = .ok (.iload_n 1, 1) := by decide +kernel
theorem dX7_rowAt_36 : decode cX7_rowAt 36 = .ok (.laload, 1) := by decide +kernel
theorem dX7_rowAt_37 : decode cX7_rowAt 37 = .ok (.lreturn, 1) := by decide +kernel
theorem dX7_proofSize_0 : decode cX7_proofSize 0 = .ok (.aload_n 0, 1) := by decide +kernel
theorem dX7_proofSize_1 : decode cX7_proofSize 1 = .ok (.iload_n 1, 1) := by decide +kernel
theorem dX7_proofSize_2 : decode cX7_proofSize 2 = .ok (.iload_n 2, 1) := by decide +kernel
theorem dX7_proofSize_3 : decode cX7_proofSize 3 = .ok (.invokevirtual 218, 3) := by decide +kernel
theorem dX7_proofSize_6 : decode cX7_proofSize 6 = .ok (.ifCond .eq 10, 3) := by decide +kernel
theorem dX7_proofSize_9 : decode cX7_proofSize 9 = .ok (.aload_n 0, 1) := by decide +kernel
theorem dX7_proofSize_10 : decode cX7_proofSize 10 = .ok (.getfield 207, 3) := by decide +kernel
theorem dX7_proofSize_13 : decode cX7_proofSize 13 = .ok (.goto 4, 3) := by decide +kernel
theorem dX7_proofSize_16 : decode cX7_proofSize 16 = .ok (.iconst 0, 1) := by decide +kernel
theorem dX7_proofSize_17 : decode cX7_proofSize 17 = .ok (.ireturn, 1) := by decide +kernel
theorem dX7_proofAt_0 : decode cX7_proofAt 0 = .ok (.aload_n 0, 1) := by decide +kernel
theorem dX7_proofAt_1 : decode cX7_proofAt 1 = .ok (.iload_n 1, 1) := by decide +kernel
theorem dX7_proofAt_2 : decode cX7_proofAt 2 = .ok (.iload_n 2, 1) := by decide +kernel
theorem dX7_proofAt_3 : decode cX7_proofAt 3 = .ok (.invokevirtual 218, 3) := by decide +kernel
theorem dX7_proofAt_6 : decode cX7_proofAt 6 = .ok (.ifCond .eq 11, 3) := by decide +kernel
theorem dX7_proofAt_9 : decode cX7_proofAt 9 = .ok (.aload_n 0, 1) := by decide +kernel
theorem dX7_proofAt_10 : decode cX7_proofAt 10 = .ok (.iload_n 3, 1) := by decide +kernel
theorem dX7_proofAt_11 : decode cX7_proofAt 11 = .ok (.invokevirtual 221, 3) := by decide +kernel
theorem dX7_proofAt_14 : decode cX7_proofAt 14 = .ok (.goto 4, 3) := by decide +kernel
theorem dX7_proofAt_17 : decode cX7_proofAt 17 = .ok (.lconst 0, 1) := by decide +kernel
theorem dX7_proofAt_18 : decode cX7_proofAt 18 = .ok (.lreturn, 1) := by decide +kernel
theorem dX7_rootByProof_0 : decode cX7_rootByProof 0 = .ok (.aload_n 0, 1) := by decide +kernel
theorem dX7_rootByProof_1 : decode cX7_rootByProof 1 = .ok (.iload_n 1, 1) := by decide +kernel
theorem dX7_rootByProof_2 : decode cX7_rootByProof 2 = .ok (.iload_n 2, 1) := by decide +kernel
theorem dX7_rootByProof_3 : decode cX7_rootByProof 3 = .ok (.invokevirtual 218, 3) := by decide +kernel
theorem dX7_rootByProof_6 : decode cX7_rootByProof 6 = .ok (.ifCond .eq 12, 3) := by decide +kernel
theorem dX7_rootByProof_9 : decode cX7_rootByProof 9 = .ok (.aload_n 0, 1) := by decide +kernel
theorem dX7_rootByProof_10 : decode cX7_rootByProof 10 = .ok (.iconst 0, 1) := by decide +kernel
theorem dX7_rootByProof_11 : decode cX7_rootByProof 11 = .ok (.iload_n 2, 1) := by decide +kernel
theorem dX7_rootByProof_12 : decode cX7_rootByProof 12 = .ok (.invokevirtual 192, 3) := by decide +kernel
theorem dX7_rootByProof_15 : decode cX7_rootByProof 15 = .ok (.goto 4, 3) := by decide +kernel
theorem dX7_rootByProof_18 : decode cX7_rootByProof 18 = .ok (.lconst 0, 1) := by decide +kernel
theorem dX7_rootByProof_19 : decode cX7_rootByProof 19 = .ok (.lreturn, 1) := by decide +kernel
theorem dX7_grows_0 : decode cX7_grows 0 = .ok (.iload_n 1, 1) := by decide +kernel
theorem dX7_grows_1 : decode cX7_grows 1 = .ok (.iload_n 2, 1) := by decide +kernel
theorem dX7_grows_2 : decode cX7_grows 2 = .ok (.iload_n 3, 1) := by decide +kernel
theorem dX7_grows_3 : decode cX7_grows 3 = .ok (.iadd, 1) := by decide +kernel
theorem dX7_grows_4 : decode cX7_grows 4 = .ok (.if_icmp .ne 18, 3) := by decide +kernel
theorem dX7_grows_7 : decode cX7_grows 7 = .ok (.iload_n 2, 1) := by decide +kernel
theorem dX7_grows_8 : decode cX7_grows 8 = .ok (.ifCond .le 13, 3) := by decide +kernel
theorem dX7_grows_11 : decode cX7_grows 11 = .ok (.aload_n 0, 1) := by decide +kernel
theorem dX7_grows_12 : decode cX7_grows 12 = .ok (.aload_n 0, 1) := by decide +kernel
theorem dX7_grows_13 : decode cX7_grows 13 = .ok (.iload_n 2, 1) := by decide +kernel
theorem dX7_grows_14 : decode cX7_grows 14 = .ok (.iload_n 3, 1) := by decide +kernel
theorem dX7_grows_15 : decode cX7_grows 15 = .ok (.invokevirtual 192, 3) := by decide +kernel
theorem dX7_grows_18 : decode cX7_grows 18 = .ok (.invokevirtual 214, 3) := by decide +kernel
theorem dX7_grows_21 : decode cX7_grows 21 = .ok (.return_, 1) := by decide +kernel
theorem dX7_grows_22 : decode cX7_grows 22 = .ok (.iload_n 3, 1) := by decide +kernel
theorem dX7_grows_23 : decode cX7_grows 23 = .ok (.invokestatic 189, 3) := by decide +kernel
theorem dX7_grows_26 : decode cX7_grows 26 = .ok (.istore 4, 2) := by decide +kernel
theorem dX7_grows_28 : decode cX7_grows 28 = .ok (.iload_n 1, 1) := by decide +kernel
theorem dX7_grows_29 : decode cX7_grows 29 = .ok (.iload_n 2, 1) := by decide +kernel
theorem dX7_grows_30 : decode cX7_grows 30 = .ok (.iload 4, 2) := by decide +kernel
theorem dX7_grows_32 : decode cX7_grows 32 = .ok (.iadd, 1) := by decide +kernel
theorem dX7_grows_33 : decode cX7_grows 33 = .ok (.if_icmp .gt 30, 3) := by decide +kernel
theorem dX7_grows_36 : decode cX7_grows 36 = .ok (.aload_n 0, 1) := by decide +kernel
theorem dX7_grows_37 : decode cX7_grows 37 = .ok (.iload_n 1, 1) := by decide +kernel
theorem dX7_grows_38 : decode cX7_grows 38 = .ok (.iload_n 2, 1) := by decide +kernel
theorem dX7_grows_39 : decode cX7_grows 39 = .ok (.iload 4, 2) := by decide +kernel
theorem dX7_grows_41 : decode cX7_grows 41 = .ok (.invokevirtual 224, 3) := by decide +kernel
theorem dX7_grows_44 : decode cX7_grows 44 = .ok (.aload_n 0, 1) := by decide +kernel
theorem dX7_grows_45 : decode cX7_grows 45 = .ok (.aload_n 0, 1) := by decide +kernel
theorem dX7_grows_46 : decode cX7_grows 46 = .ok (.iload_n 2, 1) := by decide +kernel
theorem dX7_grows_47 : decode cX7_grows 47 = .ok (.iload 4, 2) := by decide +kernel
theorem dX7_grows_49 : decode cX7_grows 49 = .ok (.iadd, 1) := by decide +kernel
theorem dX7_grows_50 : decode cX7_grows 50 = .ok (.iload_n 3, 1) := by decide +kernel
theorem dX7_grows_51 : decode cX7_grows 51 = .ok (.iload 4, 2) := by decide +kernel
theorem dX7_grows_53 : decode cX7_grows 53 = .ok (.isub, 1) := by decide +kernel
theorem dX7_grows_54 : decode cX7_grows 54 = .ok (.invokevirtual 192, 3) := by decide +kernel
theorem dX7_grows_57 : decode cX7_grows 57 = .ok (.invokevirtual 214, 3) := by decide +kernel
theorem dX7_grows_60 : decode cX7_grows 60 = .ok (.goto 27, 3) := by decide +kernel
theorem dX7_grows_63 : decode cX7_grows 63 = .ok (.aload_n 0, 1) := by decide +kernel
theorem dX7_grows_64 : decode cX7_grows 64 = .ok (.iload_n 1, 1) := by decide +kernel
theorem dX7_grows_65 : decode cX7_grows 65 = .ok (.iload_n 2, 1) := by decide +kernel
theorem dX7_grows_66 : decode cX7_grows 66 = .ok (.iload 4, 2) := by decide +kernel
theorem dX7_grows_68 : decode cX7_grows 68 = .ok (.iadd, 1) := by decide +kernel
theorem dX7_grows_69 : decode cX7_grows 69 = .ok (.iload_n 3, 1) := by decide +kernel
theorem dX7_grows_70 : decode cX7_grows 70 = .ok (.iload 4, 2) := by decide +kernel
theorem dX7_grows_72 : decode cX7_grows 72 = .ok (.isub, 1) := by decide +kernel
theorem dX7_grows_73 : decode cX7_grows 73 = .ok (.invokevirtual 224, 3) := by decide +kernel
theorem dX7_grows_76 : decode cX7_grows 76 = .ok (.aload_n 0, 1) := by decide +kernel
theorem dX7_grows_77 : decode cX7_grows 77 = .ok (.aload_n 0, 1) := by decide +kernel
theorem dX7_grows_78 : decode cX7_grows 78 = .ok (.iload_n 2, 1) := by decide +kernel
theorem dX7_grows_79 : decode cX7_grows 79 = .ok (.iload 4, 2) := by decide +kernel
theorem dX7_grows_81 : decode cX7_grows 81 = .ok (.invokevirtual 192, 3) := by decide +kernel
theorem dX7_grows_84 : decode cX7_grows 84 = .ok (.invokevirtual 214, 3) := by decide +kernel
theorem dX7_grows_87 : decode cX7_grows 87 = .ok (.return_, 1) := by decide +kernel
theorem dX7_isGrowth_0 : decode cX7_isGrowth 0 = .ok (.aload_n 0, 1) := by decide +kernel
theorem dX7_isGrowth_1 : decode cX7_isGrowth 1 = .ok (.iload_n 2, 1) := by decide +kernel
theorem dX7_isGrowth_2 : decode cX7_isGrowth 2 = .ok (.invokevirtual 200, 3) := by decide +kernel
theorem dX7_isGrowth_5 : decode cX7_isGrowth 5 = .ok (.ifCond .ne 25, 3) := by decide +kernel
theorem dX7_isGrowth_8 : decode cX7_isGrowth 8 = .ok (.aload_n 0, 1) := by decide +kernel
theorem dX7_isGrowth_9 : decode cX7_isGrowth 9 = .ok (.iload_n 1, 1) := by decide +kernel
theorem dX7_isGrowth_10 : decode cX7_isGrowth 10 = .ok (.iconst 1, 1) := by decide +kernel
theorem dX7_isGrowth_11 : decode cX7_isGrowth 11 = .ok (.iload_n 2, 1) := by decide +kernel
theorem dX7_isGrowth_12 : decode cX7_isGrowth 12 = .ok (.invokestatic 67, 3) := by decide +kernel
theorem dX7_isGrowth_15 : decode cX7_isGrowth 15 = .ok (.ifCond .ne 7, 3) := by decide +kernel
theorem dX7_isGrowth_18 : decode cX7_isGrowth 18 = .ok (.iconst 1, 1) := by decide +kernel
theorem dX7_isGrowth_19 : decode cX7_isGrowth 19 = .ok (.goto 4, 3) := by decide +kernel
theorem dX7_isGrowth_22 : decode cX7_isGrowth 22 = .ok (.iconst 0, 1) := by decide +kernel
theorem dX7_isGrowth_23 : decode cX7_isGrowth 23 = .ok (.iconst 2, 1) := by decide +kernel
theorem dX7_isGrowth_24 : decode cX7_isGrowth 24 = .ok (.invokevirtual 78, 3) := by decide +kernel
theorem dX7_isGrowth_27 : decode cX7_isGrowth 27 = .ok (.ifCond .eq 5, 3) := by decide +kernel
theorem dX7_isGrowth_30 : decode cX7_isGrowth 30 = .ok (.iconst 0, 1) := by decide +kernel
theorem dX7_isGrowth_31 : decode cX7_isGrowth 31 = .ok (.ireturn, 1) := by decide +kernel
theorem dX7_isGrowth_32 : decode cX7_isGrowth 32 = .ok (.aload_n 0, 1) := by decide +kernel
theorem dX7_isGrowth_33 : decode cX7_isGrowth 33 = .ok (.iconst 0, 1) := by decide +kernel
theorem dX7_isGrowth_34 : decode cX7_isGrowth 34 = .ok (.putfield 207, 3) := by decide +kernel
theorem dX7_isGrowth_37 : decode cX7_isGrowth 37 = .ok (.aload_n 0, 1) := by decide +kernel
theorem dX7_isGrowth_38 : decode cX7_isGrowth 38 = .ok (.iload_n 1, 1) := by decide +kernel
theorem dX7_isGrowth_39 : decode cX7_isGrowth 39 = .ok (.iconst 0, 1) := by decide +kernel
theorem dX7_isGrowth_40 : decode cX7_isGrowth 40 = .ok (.iload_n 2, 1) := by decide +kernel
theorem dX7_isGrowth_41 : decode cX7_isGrowth 41 = .ok (.invokevirtual 224, 3) := by decide +kernel
theorem dX7_isGrowth_44 : decode cX7_isGrowth 44 = .ok (.iconst 1, 1) := by decide +kernel
theorem dX7_isGrowth_45 : decode cX7_isGrowth 45 = .ok (.ireturn, 1) := by decide +kernel
theorem dX7_growthSize_0 : decode cX7_growthSize 0 = .ok (.aload_n 0, 1) := by decide +kernel
theorem dX7_growthSize_1 : decode cX7_growthSize 1 = .ok (.iload_n 1, 1) := by decide +kernel
theorem dX7_growthSize_2 : decode cX7_growthSize 2 = .ok (.iload_n 2, 1) := by decide +kernel
theorem dX7_growthSize_3 : decode cX7_growthSize 3 = .ok (.invokevirtual 227, 3) := by decide +kernel
theorem dX7_growthSize_6 : decode cX7_growthSize 6 = .ok (.ifCond .eq 10, 3) := by decide +kernel
theorem dX7_growthSize_9 : decode cX7_growthSize 9 = .ok (.aload_n 0, 1) := by decide +kernel
theorem dX7_growthSize_10 : decode cX7_growthSize 10 = .ok (.getfield 207, 3) := by decide +kernel
theorem dX7_growthSize_13 : decode cX7_growthSize 13 = .ok (.goto 4, 3) := by decide +kernel
theorem dX7_growthSize_16 : decode cX7_growthSize 16 = .ok (.iconst 0, 1) := by decide +kernel
theorem dX7_growthSize_17 : decode cX7_growthSize 17 = .ok (.ireturn, 1) := by decide +kernel
theorem dX7_growthAt_0 : decode cX7_growthAt 0 = .ok (.aload_n 0, 1) := by decide +kernel
theorem dX7_growthAt_1 : decode cX7_growthAt 1 = .ok (.iload_n 1, 1) := by decide +kernel
theorem dX7_growthAt_2 : decode cX7_growthAt 2 = .ok (.iload_n 2, 1) := by decide +kernel
theorem dX7_growthAt_3 : decode cX7_growthAt 3 = .ok (.invokevirtual 227, 3) := by decide +kernel
theorem dX7_growthAt_6 : decode cX7_growthAt 6 = .ok (.ifCond .eq 11, 3) := by decide +kernel
theorem dX7_growthAt_9 : decode cX7_growthAt 9 = .ok (.aload_n 0, 1) := by decide +kernel
theorem dX7_growthAt_10 : decode cX7_growthAt 10 = .ok (.iload_n 3, 1) := by decide +kernel
theorem dX7_growthAt_11 : decode cX7_growthAt 11 = .ok (.invokevirtual 221, 3) := by decide +kernel
theorem dX7_growthAt_14 : decode cX7_growthAt 14 = .ok (.goto 4, 3) := by decide +kernel
theorem dX7_growthAt_17 : decode cX7_growthAt 17 = .ok (.lconst 0, 1) := by decide +kernel
theorem dX7_growthAt_18 : decode cX7_growthAt 18 = .ok (.lreturn, 1) := by decide +kernel
theorem dX7_soundShare_0 : decode cX7_soundShare 0 = .ok (.iconst 0, 1) := by decide +kernel
theorem dX7_soundShare_1 : decode cX7_soundShare 1 = .ok (.istore_n 1, 1) := by decide +kernel
theorem dX7_soundShare_2 : decode cX7_soundShare 2 = .ok (.iconst 0, 1) := by decide +kernel
theorem dX7_soundShare_3 : decode cX7_soundShare 3 = .ok (.istore_n 2, 1) := by decide +kernel
theorem dX7_soundShare_4 : decode cX7_soundShare 4 = .ok (.iload_n 2, 1) := by decide +kernel
theorem dX7_soundShare_5 : decode cX7_soundShare 5 = .ok (.aload_n 0, 1) := by decide +kernel
theorem dX7_soundShare_6 : decode cX7_soundShare 6 = .ok (.getfield 71, 3) := by decide +kernel
theorem dX7_soundShare_9 : decode cX7_soundShare 9 = .ok (.if_icmp .ge 29, 3) := by decide +kernel
theorem dX7_soundShare_12 : decode cX7_soundShare 12 = .ok (.iload_n 1, 1) := by decide +kernel
theorem dX7_soundShare_13 : decode cX7_soundShare 13 = .ok (.aload_n 0, 1) := by decide +kernel
theorem dX7_soundShare_14 : decode cX7_soundShare 14 = .ok (.iload_n 2, 1) := by decide +kernel
theorem dX7_soundShare_15 : decode cX7_soundShare 15 = .ok (.aload_n 0, 1) := by decide +kernel
theorem dX7_soundShare_16 : decode cX7_soundShare 16 = .ok (.getfield 82, 3) := by decide +kernel
theorem dX7_soundShare_19 : decode cX7_soundShare 19 = .ok (.invokevirtual 149, 3) := by decide +kernel
theorem dX7_soundShare_22 : decode cX7_soundShare 22 = .ok (.ifCond .eq 7, 3) := by decide +kernel
theorem dX7_soundShare_25 : decode cX7_soundShare 25 = .ok (.iconst 1, 1) := by decide +kernel
theorem dX7_soundShare_26 : decode cX7_soundShare 26 = .ok (.goto 4, 3) := by decide +kernel
theorem dX7_soundShare_29 : decode cX7_soundShare 29 = .ok (.iconst 0, 1) := by decide +kernel
theorem dX7_soundShare_30 : decode cX7_soundShare 30 = .ok (.iadd, 1) := by decide +kernel
theorem dX7_soundShare_31 : decode cX7_soundShare 31 = .ok (.istore_n 1, 1) := by decide +kernel
theorem dX7_soundShare_32 : decode cX7_soundShare 32 = .ok (.iinc 2 1, 3) := by decide +kernel
theorem dX7_soundShare_35 : decode cX7_soundShare 35 = .ok (.goto (-31), 3) := by decide +kernel
theorem dX7_soundShare_38 : decode cX7_soundShare 38 = .ok (.aload_n 0, 1) := by decide +kernel
theorem dX7_soundShare_39 : decode cX7_soundShare 39 = .ok (.aload_n 0, 1) := by decide +kernel
theorem dX7_soundShare_40 : decode cX7_soundShare 40 = .ok (.getfield 71, 3) := by decide +kernel
theorem dX7_soundShare_43 : decode cX7_soundShare 43 = .ok (.ifCond .ne 7, 3) := by decide +kernel
theorem dX7_soundShare_46 : decode cX7_soundShare 46 = .ok (.iconst 1, 1) := by decide +kernel
theorem dX7_soundShare_47 : decode cX7_soundShare 47 = .ok (.goto 4, 3) := by decide +kernel
theorem dX7_soundShare_50 : decode cX7_soundShare 50 = .ok (.iconst 0, 1) := by decide +kernel
theorem dX7_soundShare_51 : decode cX7_soundShare 51 = .ok (.iconst 1, 1) := by decide +kernel
theorem dX7_soundShare_52 : decode cX7_soundShare 52 = .ok (.invokevirtual 78, 3) := by decide +kernel
theorem dX7_soundShare_55 : decode cX7_soundShare 55 = .ok (.ifCond .eq 7, 3) := by decide +kernel
theorem dX7_soundShare_58 : decode cX7_soundShare 58 = .ok (.fconst 0, 1) := by decide +kernel
theorem dX7_soundShare_59 : decode cX7_soundShare 59 = .ok (.goto 11, 3) := by decide +kernel
theorem dX7_soundShare_62 : decode cX7_soundShare 62 = .ok (.iload_n 1, 1) := by decide +kernel
theorem dX7_soundShare_63 : decode cX7_soundShare 63 = .ok (.i2f, 1) := by decide +kernel
theorem dX7_soundShare_64 : decode cX7_soundShare 64 = .ok (.aload_n 0, 1) := by decide +kernel
theorem dX7_soundShare_65 : decode cX7_soundShare 65 = .ok (.getfield 71, 3) := by decide +kernel
theorem dX7_soundShare_68 : decode cX7_soundShare 68 = .ok (.i2f, 1) := by decide +kernel
theorem dX7_soundShare_69 : decode cX7_soundShare 69 = .ok (.fdiv, 1) := by decide +kernel
theorem dX7_soundShare_70 : decode cX7_soundShare 70 = .ok (.freturn, 1) := by decide +kernel
theorem dX7_meanChain_0 : decode cX7_meanChain 0 = .ok (.iconst 0, 1) := by decide +kernel
theorem dX7_meanChain_1 : decode cX7_meanChain 1 = .ok (.istore_n 1, 1) := by decide +kernel
theorem dX7_meanChain_2 : decode cX7_meanChain 2 = .ok (.iconst 0, 1) := by decide +kernel
theorem dX7_meanChain_3 : decode cX7_meanChain 3 = .ok (.istore_n 2, 1) := by decide +kernel
theorem dX7_meanChain_4 : decode cX7_meanChain 4 = .ok (.iconst 0, 1) := by decide +kernel
theorem dX7_meanChain_5 : decode cX7_meanChain 5 = .ok (.istore_n 3, 1) := by decide +kernel
theorem dX7_meanChain_6 : decode cX7_meanChain 6 = .ok (.iload_n 3, 1) := by decide +kernel
theorem dX7_meanChain_7 : decode cX7_meanChain 7 = .ok (.aload_n 0, 1) := by decide +kernel
theorem dX7_meanChain_8 : decode cX7_meanChain 8 = .ok (.getfield 71, 3) := by decide +kernel
theorem dX7_meanChain_11 : decode cX7_meanChain 11 = .ok (.if_icmp .ge 38, 3) := by decide +kernel
theorem dX7_meanChain_14 : decode cX7_meanChain 14 = .ok (.aload_n 0, 1) := by decide +kernel
theorem dX7_meanChain_15 : decode cX7_meanChain 15 = .ok (.iload_n 3, 1) := by decide +kernel
theorem dX7_meanChain_16 : decode cX7_meanChain 16 = .ok (.aload_n 0, 1) := by decide +kernel
theorem dX7_meanChain_17 : decode cX7_meanChain 17 = .ok (.getfield 82, 3) := by decide +kernel
theorem dX7_meanChain_20 : decode cX7_meanChain 20 = .ok (.invokevirtual 152, 3) := by decide +kernel
theorem dX7_meanChain_23 : decode cX7_meanChain 23 = .ok (.istore 4, 2) := by decide +kernel
theorem dX7_meanChain_25 : decode cX7_meanChain 25 = .ok (.iload_n 1, 1) := by decide +kernel
theorem dX7_meanChain_26 : decode cX7_meanChain 26 = .ok (.iload 4, 2) := by decide +kernel
theorem dX7_meanChain_28 : decode cX7_meanChain 28 = .ok (.iadd, 1) := by decide +kernel
theorem dX7_meanChain_29 : decode cX7_meanChain 29 = .ok (.istore_n 1, 1) := by decide +kernel
theorem dX7_meanChain_30 : decode cX7_meanChain 30 = .ok (.iload_n 2, 1) := by decide +kernel
theorem dX7_meanChain_31 : decode cX7_meanChain 31 = .ok (.iload 4, 2) := by decide +kernel
theorem dX7_meanChain_33 : decode cX7_meanChain 33 = .ok (.ifCond .le 7, 3) := by decide +kernel
theorem dX7_meanChain_36 : decode cX7_meanChain 36 = .ok (.iconst 1, 1) := by decide +kernel
theorem dX7_meanChain_37 : decode cX7_meanChain 37 = .ok (.goto 4, 3) := by decide +kernel
theorem dX7_meanChain_40 : decode cX7_meanChain 40 = .ok (.iconst 0, 1) := by decide +kernel
theorem dX7_meanChain_41 : decode cX7_meanChain 41 = .ok (.iadd, 1) := by decide +kernel
theorem dX7_meanChain_42 : decode cX7_meanChain 42 = .ok (.istore_n 2, 1) := by decide +kernel
theorem dX7_meanChain_43 : decode cX7_meanChain 43 = .ok (.iinc 3 1, 3) := by decide +kernel
theorem dX7_meanChain_46 : decode cX7_meanChain 46 = .ok (.goto (-40), 3) := by decide +kernel
theorem dX7_meanChain_49 : decode cX7_meanChain 49 = .ok (.aload_n 0, 1) := by decide +kernel
theorem dX7_meanChain_50 : decode cX7_meanChain 50 = .ok (.iload_n 2, 1) := by decide +kernel
theorem dX7_meanChain_51 : decode cX7_meanChain 51 = .ok (.ifCond .ne 7, 3) := by decide +kernel
theorem dX7_meanChain_54 : decode cX7_meanChain 54 = .ok (.iconst 1, 1) := by decide +kernel
theorem dX7_meanChain_55 : decode cX7_meanChain 55 = .ok (.goto 4, 3) := by decide +kernel
theorem dX7_meanChain_58 : decode cX7_meanChain 58 = .ok (.iconst 0, 1) := by decide +kernel
theorem dX7_meanChain_59 : decode cX7_meanChain 59 = .ok (.iconst 1, 1) := by decide +kernel
theorem dX7_meanChain_60 : decode cX7_meanChain 60 = .ok (.invokevirtual 78, 3) := by decide +kernel
theorem dX7_meanChain_63 : decode cX7_meanChain 63 = .ok (.ifCond .eq 7, 3) := by decide +kernel
theorem dX7_meanChain_66 : decode cX7_meanChain 66 = .ok (.dconst 0, 1) := by decide +kernel
theorem dX7_meanChain_67 : decode cX7_meanChain 67 = .ok (.goto 8, 3) := by decide +kernel
theorem dX7_meanChain_70 : decode cX7_meanChain 70 = .ok (.iload_n 1, 1) := by decide +kernel
theorem dX7_meanChain_71 : decode cX7_meanChain 71 = .ok (.i2d, 1) := by decide +kernel
theorem dX7_meanChain_72 : decode cX7_meanChain 72 = .ok (.iload_n 2, 1) := by decide +kernel
theorem dX7_meanChain_73 : decode cX7_meanChain 73 = .ok (.i2d, 1) := by decide +kernel
theorem dX7_meanChain_74 : decode cX7_meanChain 74 = .ok (.ddiv, 1) := by decide +kernel
theorem dX7_meanChain_75 : decode cX7_meanChain 75 = .ok (.dreturn, 1) := by decide +kernel
theorem dJx00060_init_a7421_0 : decode cJx00060_init_a7421 0 = .ok (.aload_n 0, 1) := by decide +kernel
theorem dJx00060_init_a7421_1 : decode cJx00060_init_a7421 1 = .ok (.aload_n 1, 1) := by decide +kernel
theorem dJx00060_init_a7421_2 : decode cJx00060_init_a7421 2 = .ok (.invokespecial 7, 3) := by decide +kernel
theorem dJx00060_init_a7421_5 : decode cJx00060_init_a7421 5 = .ok (.return_, 1) := by decide +kernel
end
section
/-! my layer: a walk at an explicit world, explicit locals, explicit stack -/
def tysA (g : Nat → ClassId) : List (ClassId × FieldType) := [(g 0, .int), (g 1, .long), (g 2, .boolean), (g 3, .object "Certhold$Certificate")]
theorem auxW_moved {w : Cond} {s U : State} (hW : s.WarmedH U.vm) (ha : auxW w = true) (h : va_Nw w s) : va_Nw w U := by
  cases w <;> first | (simp [auxW] at ha; done) | exact va_Nw.warmM hW h | exact va_tabs (u := s.setVm U.vm) rfl rfl (by rw [Cond.declares_setVm hW.alike]; exact h) | exact va_tabs (u := s.setVm U.vm) rfl rfl (by rw [Cond.castable_setVm hW.alike]; exact h)
/-- what every method of the class and of the reference may take as given of its start, beside its world -/
def SP (A : Nat → Prop) (U : State) : Prop := vx_Zq Bundle.tN "UNASSIGNED_STACK" Bundle.steD A U U.heap ∧ vx_Zq Bundle.tN "SUPPRESSED_SENTINEL" Bundle.listD A U U.heap ∧ (∀ q ∈ strL, ∃ a, vk_R RX6 q.1 q.2 a U) ∧ va_AO "Certhold$Certificate" U ∧ (∀ w ∈ lw_tbl, auxW w = true → va_Nw w U)
def PRE (D : va_G) (g : Nat → ClassId) (A : Nat → Prop) (ws : va_W) (U : State) : Prop := va_P D vwCl ws U.heap ∧ va_K D vwCl (tysA g) U ∧ va_D A ws ∧ (∀ q, U.heap.size ≤ q → A q) ∧ SP A U
def PO (D : va_G) (A : Nat → Prop) (ws : va_W) (t : State) : Prop := va_P D vwCl ws t.heap ∧ va_D A ws
theorem SP.moved {A : Nat → Prop} {s U : State} {H : Heap} {locs : List Loc} (h : SP A s) (hS : va_S A s.heap H locs) (hU : U.heap = H) (hW : s.WarmedH U.vm) : SP A U := by
  obtain ⟨h1, h2, h3, h4, h5⟩ := h
  refine ⟨?_, ?_, fun q hq => ?_, va_AO.moved hW.alike h4, fun w hw ha => auxW_moved hW ha (h5 w hw ha)⟩
  · rw [hU]; exact vx_Zq.moved hW.alike (h1.kept hS.2.1)
  · rw [hU]; exact vx_Zq.moved hW.alike (h2.kept hS.2.1)
  · obtain ⟨a, ha⟩ := h3 q hq
    exact ⟨a, vk_R.warm hW ha⟩
theorem PRE.blind {D : va_G} {g : Nat → ClassId} {A : Nat → Prop} {ws : va_W} {U : State} {gf : JFrame} {mk : MethodId} {a : Array Value} (h : PRE D g A ws U) : PRE D g A ws (U.calling gf mk a) := by
  obtain ⟨h1, h2, h3, h4, h5⟩ := h
  exact ⟨h1, va_K.moved (u := U) (U := U.calling gf mk a) (Vm.Alike.refl U.vm) h2, h3, h4, SP.moved (U := U.calling gf mk a) h5 (va_S.rf (A := A)) rfl (State.WarmedH.refl U)⟩
theorem PRE.fblind {D : va_G} {g : Nat → ClassId} {A : Nat → Prop} {ws : va_W} {av : List Value} : FrameBlind (va_Pc av (PRE D g A ws)) := fun _ _ _ _ h => ⟨h.1, h.2.blind⟩
/-- the fixed part of a method's walk -/
def CX (p : Program) (l : Launch) (s : State) (m : MethodId) (args : Array Value) (meth : Method) (c : Code) (own : String) (cc : ByteArray) (ret : Option FieldType) (nL : Nat) (D : va_G) (g : Nat → ClassId) (A : Nat → Prop) : Prop :=
  p.tables.exec = Jvm.exec ∧ c.code = cc ∧ meth.sig.returnType = ret ∧ c.maxLocals = nL ∧ s.vm.findClass own = some m.cls ∧ (∀ w ∈ wAll, w.before args s = true) ∧ meth.locks = false ∧ va_K D vwCl (tysA g) s ∧ (∀ q, s.heap.size ≤ q → A q) ∧ SP A s
def J (p : Program) (l : Launch) (e : Env) (R : Room) (s : State) (m : MethodId) (args : Array Value) (below : List Frame) (meth : Method) (c : Code) (D : va_G) (A : Nat → Prop) (nL : Nat) (Q : State → Prop) (cells slots : Nat) (ws : va_W) (L : List (Nat × Value)) (pc : Nat) (st : List Value) : Prop :=
  ∀ (H : Heap) (locs : List Loc) (ls : Array Slot), va_P D vwCl ws H → va_D A ws → va_S A s.heap H locs → lv_has ls nL L → W p l e R s m args below meth c H locs cells slots Q (F0 m pc ls st)
def wsA (y : MethodName) (bytes : ByteArray) (maxL : Nat) (ret : Option FieldType) : List Cond := .code y bytes maxL ret :: wAll
theorem wAll_good : ∀ w ∈ wAll, (w.onTables && w.keeps) = true ∨ ∃ ty, w = .arrayClass ty := fun w h => good_of_word (List.all_eq_true.mp wAll_ok w h)
theorem gA {y : MethodName} {bytes : ByteArray} {maxL : Nat} {ret : Option FieldType} (h : Cond.code y bytes maxL ret ∈ wAll) : GoodIn wAll (wsA y bytes maxL ret) := fun w hw => (List.mem_cons.mp hw).elim (fun q => by rw [q]; exact ⟨h, wAll_good _ h⟩) (fun q => ⟨q, wAll_good _ q⟩)
/-- a method's contract from its walk -/
theorem metJ {l : Launch} {D : va_G} {g : Nat → ClassId} {A : Nat → Prop} {ws : va_W} {av : List Value} {y : MethodName} {cc : ByteArray} {nL : Nat} {ret : Option FieldType} {rm : Room} {Qc : Array Value → State → Outcome → State → Prop} {mc ms : Nat}
    (hy : plainName y.cls = true) (hn : (lg_sl av).length ≤ nL)
    (body : ∀ p e s m args below meth c, args = av.toArray → meth.name = y.name → CX p l s m args meth c y.cls cc ret nL D g A → J p l e rm s m args below meth c D A nL (MQ below Qc args s mc ms A) 0 0 ws (lv_args 0 av) 0 []) :
    Met l y (wsA y cc nL ret) rm (va_Pc av (PRE D g A ws)) Qc mc ms A := by
  refine Met.ofW (cc := cc) (maxL := nL) (ret := ret) hy rfl ?_
  intro p e s m args below meth c s₁ B hml hv
  obtain ⟨ha, hP, hK, hD, hA, hSP⟩ := hv
  have hts := atoms_spec (ws := wsA y cc nL ret) B.pre
  have hl := lv_entry av (n := nL) hn
  have hname : meth.name = y.name := (name_of_methodNamed B.named B.method).1
  have k := body p e s m args below meth c ha hname ⟨B.exec, B.bytes, B.returns, hml, findClass_of_methodNamed B.named, fun w h => hts w (List.mem_cons_of_mem _ h), B.notSynchronized, hK, hA, hSP⟩
  subst ha
  rw [lg_entry_eq]
  exact k s.heap [] _ hP hD va_S.rf hl
/-- .. of a method that may throw -/
theorem metX {l : Launch} {D : va_G} {g : Nat → ClassId} {A : Nat → Prop} {ws : va_W} {av : List Value} {y : MethodName} {cc : ByteArray} {nL : Nat} {ret : Option FieldType} {rm : Room} {Qc : Array Value → State → Outcome → State → Prop} {XC : String → State → State → Prop} {mc ms : Nat}
    (hy : plainName y.cls = true) (hn : (lg_sl av).length ≤ nL)
    (body : ∀ p e s m args below meth c, args = av.toArray → (∀ x ∈ c.exceptionTable.toList, False) → CX p l s m args meth c y.cls cc ret nL D g A → J p l e rm s m args below meth c D A nL (vx_MQ below Qc XC args s mc ms A) 0 0 ws (lv_args 0 av) 0 []) :
    vx_Met l y (wsA y cc nL ret) rm (va_Pc av (PRE D g A ws)) Qc XC mc ms A := by
  refine vx_ofW (cc := cc) (maxL := nL) (ret := ret) hy rfl ?_
  intro p e s m args below meth c s₁ B hml ht hv
  obtain ⟨ha, hP, hK, hD, hA, hSP⟩ := hv
  have hts := atoms_spec (ws := wsA y cc nL ret) B.pre
  have hl := lv_entry av (n := nL) hn
  have k := body p e s m args below meth c ha ht ⟨B.exec, B.bytes, B.returns, hml, findClass_of_methodNamed B.named, fun w h => hts w (List.mem_cons_of_mem _ h), B.notSynchronized, hK, hA, hSP⟩
  subst ha
  rw [lg_entry_eq]
  exact k s.heap [] _ hP hD va_S.rf hl
def zb (b : Bool) : Int32 := if b then nI 1 else nI 0
theorem bn_t {a : Bool} (h : (!a) = true) : a = false := by cases a <;> simp_all
theorem bn_f {a : Bool} (h : (!a) = false) : a = true := by cases a <;> simp_all
theorem zb_t : zb true = nI 1 := rfl
theorem zb_f : zb false = nI 0 := rfl
theorem zb_and (a b : Bool) : zb a &&& zb b = zb (a && b) := by cases a <;> cases b <;> rfl
theorem zb_or (a b : Bool) : zb a ||| zb b = zb (a || b) := by cases a <;> cases b <;> rfl
theorem zb_nar (b : Bool) : narrow .boolean (.int (zb b)) = .int (zb b) := by cases b <;> rfl
theorem zb_fit (b : Bool) : fits .boolean (.int (zb b)) = true := by cases b <;> rfl
theorem zb_vnar (b : Bool) : vp_nar .boolean (zb b) = zb b := by cases b <;> rfl
theorem zb_eq0 (b : Bool) : zb b = 0 ↔ b = false := by cases b <;> decide
theorem zb_inj {a b : Bool} : zb a = zb b ↔ a = b := by cases a <;> cases b <;> decide
theorem nat_if_eq {a : Nat} (h : a < 2147483648) : nI a = 0 ↔ a = 0 := by rw [← nI_0]; exact nI_eq h (by omega)
theorem nat_if_eq_f {a : Nat} (h : a < 2147483648) : ¬ nI a = 0 ↔ a ≠ 0 := not_congr (nat_if_eq h)
theorem nat_if_ne {a : Nat} (h : a < 2147483648) : ¬ nI a = 0 ↔ a ≠ 0 := not_congr (nat_if_eq h)
theorem nat_if_ne_f {a : Nat} (h : a < 2147483648) : nI a = 0 ↔ a = 0 := nat_if_eq h
theorem nat_if_lt {a : Nat} (h : a < 2147483648) : nI a < 0 ↔ False := ⟨fun q => nI_pos h q, False.elim⟩
theorem nat_if_lt_f {a : Nat} (h : a < 2147483648) : ¬ nI a < 0 ↔ True := ⟨fun _ => trivial, fun _ => nI_pos h⟩
theorem nat_if_ge {a : Nat} (h : a < 2147483648) : 0 ≤ nI a ↔ True := ⟨fun _ => trivial, fun _ => nI_pos' h⟩
theorem nat_if_ge_f {a : Nat} (h : a < 2147483648) : ¬ 0 ≤ nI a ↔ False := ⟨fun q => q (nI_pos' h), False.elim⟩
theorem nat_if_le {a : Nat} (h : a < 2147483648) : nI a ≤ 0 ↔ a = 0 := by rw [← nI_0, nI_leI h (by omega)]; omega
theorem nat_if_le_f {a : Nat} (h : a < 2147483648) : ¬ nI a ≤ 0 ↔ 0 < a := by rw [nat_if_le h]; omega
theorem nat_if_gt {a : Nat} (h : a < 2147483648) : 0 < nI a ↔ 0 < a := by rw [← nI_0, nI_ltI (by omega) h]
theorem nat_if_gt_f {a : Nat} (h : a < 2147483648) : ¬ 0 < nI a ↔ a = 0 := by rw [nat_if_gt h]; omega
theorem nat_ic_eq {a b : Nat} (ha : a < 2147483648) (hb : b < 2147483648) : nI a = nI b ↔ a = b := nI_eq ha hb
theorem nat_ic_eq_f {a b : Nat} (ha : a < 2147483648) (hb : b < 2147483648) : ¬ nI a = nI b ↔ a ≠ b := not_congr (nI_eq ha hb)
theorem nat_ic_ne {a b : Nat} (ha : a < 2147483648) (hb : b < 2147483648) : ¬ nI a = nI b ↔ a ≠ b := not_congr (nI_eq ha hb)
theorem nat_ic_ne_f {a b : Nat} (ha : a < 2147483648) (hb : b < 2147483648) : nI a = nI b ↔ a = b := nI_eq ha hb
theorem nat_ic_lt {a b : Nat} (ha : a < 2147483648) (hb : b < 2147483648) : nI a < nI b ↔ a < b := nI_ltI ha hb
theorem nat_ic_lt_f {a b : Nat} (ha : a < 2147483648) (hb : b < 2147483648) : ¬ nI a < nI b ↔ b ≤ a := by rw [nI_ltI ha hb]; omega
theorem nat_ic_ge {a b : Nat} (ha : a < 2147483648) (hb : b < 2147483648) : nI b ≤ nI a ↔ b ≤ a := nI_leI hb ha
theorem nat_ic_ge_f {a b : Nat} (ha : a < 2147483648) (hb : b < 2147483648) : ¬ nI b ≤ nI a ↔ a < b := by rw [nI_leI hb ha]; omega
theorem nat_ic_gt {a b : Nat} (ha : a < 2147483648) (hb : b < 2147483648) : nI b < nI a ↔ b < a := nI_ltI hb ha
theorem nat_ic_gt_f {a b : Nat} (ha : a < 2147483648) (hb : b < 2147483648) : ¬ nI b < nI a ↔ a ≤ b := by rw [nI_ltI hb ha]; omega
theorem nat_ic_le {a b : Nat} (ha : a < 2147483648) (hb : b < 2147483648) : nI a ≤ nI b ↔ a ≤ b := nI_leI ha hb
theorem nat_ic_le_f {a b : Nat} (ha : a < 2147483648) (hb : b < 2147483648) : ¬ nI a ≤ nI b ↔ b < a := by rw [nI_leI ha hb]; omega
theorem i32_cases (x : Int32) : (∃ j : Nat, j < 2147483648 ∧ x = nI j) ∨ x < 0 := by
  by_cases h : x < 0
  · exact Or.inr h
  · exact Or.inl (nI_of h)
theorem i32_lt {a b : Int32} : a < b ↔ a.toInt < b.toInt := Int32.lt_iff_toInt_lt
theorem i32_le {a b : Int32} : a ≤ b ↔ a.toInt ≤ b.toInt := Int32.le_iff_toInt_le
section JJ
variable {p : Program} {l : Launch} {e : Env} {R : Room} {s : State} {m : MethodId} {args : Array Value} {below : List Frame} {meth : Method} {c : Code} {own : String} {cc : ByteArray} {ret : Option FieldType} {nL : Nat} {D : va_G} {g : Nat → ClassId} {A : Nat → Prop} {Q : State → Prop} {cells slots : Nat} {ws : va_W} {L : List (Nat × Value)} {pc : Nat} {st : List Value}

theorem J_iconst (cx : CX p l s m args meth c own cc ret nL D g A) {n : Int} {v : Int32} (d : decode cc pc = .ok (.iconst n, 1)) (hv : Int32.ofInt n = v) (kk : J p l e R s m args below meth c D A nL Q cells slots ws L (pc + 1) (.int v :: st)) : J p l e R s m args below meth c D A nL Q cells slots ws L pc st :=
  fun H locs ls hP hD hS hl => lv_iconst cx.1 cx.2.1  d hv (kk H locs ls hP hD hS hl)

theorem J_bipush (cx : CX p l s m args meth c own cc ret nL D g A) {n : Int} {v : Int32} (d : decode cc pc = .ok (.bipush n, 2)) (hv : (Int8.ofInt n).toInt32 = v) (kk : J p l e R s m args below meth c D A nL Q cells slots ws L (pc + 2) (.int v :: st)) : J p l e R s m args below meth c D A nL Q cells slots ws L pc st :=
  fun H locs ls hP hD hS hl => lv_bipush cx.1 cx.2.1  d hv (kk H locs ls hP hD hS hl)

theorem J_sipush (cx : CX p l s m args meth c own cc ret nL D g A) {n : Int} {v : Int32} (d : decode cc pc = .ok (.sipush n, 3)) (hv : (Int16.ofInt n).toInt32 = v) (kk : J p l e R s m args below meth c D A nL Q cells slots ws L (pc + 3) (.int v :: st)) : J p l e R s m args below meth c D A nL Q cells slots ws L pc st :=
  fun H locs ls hP hD hS hl => lv_sipush cx.1 cx.2.1  d hv (kk H locs ls hP hD hS hl)

theorem J_lconst (cx : CX p l s m args meth c own cc ret nL D g A) {n : Fin 2} {v : Int64} (d : decode cc pc = .ok (.lconst n, 1)) (hv : Int64.ofNat (n : Nat) = v) (kk : J p l e R s m args below meth c D A nL Q cells slots ws L (pc + 1) (.long v :: st)) : J p l e R s m args below meth c D A nL Q cells slots ws L pc st :=
  fun H locs ls hP hD hS hl => lv_lconst cx.1 cx.2.1  d hv (kk H locs ls hP hD hS hl)

theorem J_fconst0 (cx : CX p l s m args meth c own cc ret nL D g A)  (d : decode cc pc = .ok (.fconst 0, 1))  (kk : J p l e R s m args below meth c D A nL Q cells slots ws L (pc + 1) (.float 0 :: st)) : J p l e R s m args below meth c D A nL Q cells slots ws L pc st :=
  fun H locs ls hP hD hS hl => lv_fconst0 cx.1 cx.2.1  d  (kk H locs ls hP hD hS hl)

theorem J_dconst0 (cx : CX p l s m args meth c own cc ret nL D g A)  (d : decode cc pc = .ok (.dconst 0, 1))  (kk : J p l e R s m args below meth c D A nL Q cells slots ws L (pc + 1) (.double 0 :: st)) : J p l e R s m args below meth c D A nL Q cells slots ws L pc st :=
  fun H locs ls hP hD hS hl => lv_dconst0 cx.1 cx.2.1  d  (kk H locs ls hP hD hS hl)

theorem J_null (cx : CX p l s m args meth c own cc ret nL D g A)  (d : decode cc pc = .ok (.aconst_null, 1))  (kk : J p l e R s m args below meth c D A nL Q cells slots ws L (pc + 1) (.null :: st)) : J p l e R s m args below meth c D A nL Q cells slots ws L pc st :=
  fun H locs ls hP hD hS hl => lv_null cx.1 cx.2.1  d  (kk H locs ls hP hD hS hl)

theorem J_ldc2 (cx : CX p l s m args meth c own cc ret nL D g A) {index : Nat} {v : Int64} (d : decode cc pc = .ok (.ldc2_w index, 3)) (hw : Cond.constantLong own index v ∈ wAll) (kk : J p l e R s m args below meth c D A nL Q cells slots ws L (pc + 3) (.long v :: st)) : J p l e R s m args below meth c D A nL Q cells slots ws L pc st :=
  fun H locs ls hP hD hS hl => lv_ldc2 cx.1 cx.2.1 cx.2.2.2.2.1 (cx.2.2.2.2.2.1 _ hw) d (kk H locs ls hP hD hS hl)

theorem J_iadd (cx : CX p l s m args meth c own cc ret nL D g A) {x y : Int32} (d : decode cc pc = .ok (.iadd, 1))  (kk : J p l e R s m args below meth c D A nL Q cells slots ws L (pc + 1) (.int (x + y) :: st)) : J p l e R s m args below meth c D A nL Q cells slots ws L pc (.int y :: .int x :: st) :=
  fun H locs ls hP hD hS hl => lv_iadd cx.1 cx.2.1  d  (kk H locs ls hP hD hS hl)

theorem J_isub (cx : CX p l s m args meth c own cc ret nL D g A) {x y : Int32} (d : decode cc pc = .ok (.isub, 1))  (kk : J p l e R s m args below meth c D A nL Q cells slots ws L (pc + 1) (.int (x - y) :: st)) : J p l e R s m args below meth c D A nL Q cells slots ws L pc (.int y :: .int x :: st) :=
  fun H locs ls hP hD hS hl => lv_isub cx.1 cx.2.1  d  (kk H locs ls hP hD hS hl)

theorem J_imul (cx : CX p l s m args meth c own cc ret nL D g A) {x y : Int32} (d : decode cc pc = .ok (.imul, 1))  (kk : J p l e R s m args below meth c D A nL Q cells slots ws L (pc + 1) (.int (x * y) :: st)) : J p l e R s m args below meth c D A nL Q cells slots ws L pc (.int y :: .int x :: st) :=
  fun H locs ls hP hD hS hl => lv_imul cx.1 cx.2.1  d  (kk H locs ls hP hD hS hl)

theorem J_iand (cx : CX p l s m args meth c own cc ret nL D g A) {x y : Int32} (d : decode cc pc = .ok (.iand, 1))  (kk : J p l e R s m args below meth c D A nL Q cells slots ws L (pc + 1) (.int (x &&& y) :: st)) : J p l e R s m args below meth c D A nL Q cells slots ws L pc (.int y :: .int x :: st) :=
  fun H locs ls hP hD hS hl => lv_iand cx.1 cx.2.1  d  (kk H locs ls hP hD hS hl)

theorem J_ior (cx : CX p l s m args meth c own cc ret nL D g A) {x y : Int32} (d : decode cc pc = .ok (.ior, 1))  (kk : J p l e R s m args below meth c D A nL Q cells slots ws L (pc + 1) (.int (x ||| y) :: st)) : J p l e R s m args below meth c D A nL Q cells slots ws L pc (.int y :: .int x :: st) :=
  fun H locs ls hP hD hS hl => lv_ior cx.1 cx.2.1  d  (kk H locs ls hP hD hS hl)

theorem J_idiv (cx : CX p l s m args meth c own cc ret nL D g A) {x y : Int32} (d : decode cc pc = .ok (.idiv, 1)) (hne : ¬ y = 0) (kk : J p l e R s m args below meth c D A nL Q cells slots ws L (pc + 1) (.int (x / y) :: st)) : J p l e R s m args below meth c D A nL Q cells slots ws L pc (.int y :: .int x :: st) :=
  fun H locs ls hP hD hS hl => lv_idiv cx.1 cx.2.1  d hne (kk H locs ls hP hD hS hl)

theorem J_irem (cx : CX p l s m args meth c own cc ret nL D g A) {x y : Int32} (d : decode cc pc = .ok (.irem, 1)) (hne : ¬ y = 0) (kk : J p l e R s m args below meth c D A nL Q cells slots ws L (pc + 1) (.int (x - x / y * y) :: st)) : J p l e R s m args below meth c D A nL Q cells slots ws L pc (.int y :: .int x :: st) :=
  fun H locs ls hP hD hS hl => lv_irem cx.1 cx.2.1  d hne (kk H locs ls hP hD hS hl)

theorem J_ladd (cx : CX p l s m args meth c own cc ret nL D g A) {x y : Int64} (d : decode cc pc = .ok (.ladd, 1))  (kk : J p l e R s m args below meth c D A nL Q cells slots ws L (pc + 1) (.long (x + y) :: st)) : J p l e R s m args below meth c D A nL Q cells slots ws L pc (.long y :: .long x :: st) :=
  fun H locs ls hP hD hS hl => lv_ladd cx.1 cx.2.1  d  (kk H locs ls hP hD hS hl)

theorem J_lsub (cx : CX p l s m args meth c own cc ret nL D g A) {x y : Int64} (d : decode cc pc = .ok (.lsub, 1))  (kk : J p l e R s m args below meth c D A nL Q cells slots ws L (pc + 1) (.long (x - y) :: st)) : J p l e R s m args below meth c D A nL Q cells slots ws L pc (.long y :: .long x :: st) :=
  fun H locs ls hP hD hS hl => lv_lsub cx.1 cx.2.1  d  (kk H locs ls hP hD hS hl)

theorem J_lmul (cx : CX p l s m args meth c own cc ret nL D g A) {x y : Int64} (d : decode cc pc = .ok (.lmul, 1))  (kk : J p l e R s m args below meth c D A nL Q cells slots ws L (pc + 1) (.long (x * y) :: st)) : J p l e R s m args below meth c D A nL Q cells slots ws L pc (.long y :: .long x :: st) :=
  fun H locs ls hP hD hS hl => lv_lmul cx.1 cx.2.1  d  (kk H locs ls hP hD hS hl)

theorem J_land (cx : CX p l s m args meth c own cc ret nL D g A) {x y : Int64} (d : decode cc pc = .ok (.land, 1))  (kk : J p l e R s m args below meth c D A nL Q cells slots ws L (pc + 1) (.long (x &&& y) :: st)) : J p l e R s m args below meth c D A nL Q cells slots ws L pc (.long y :: .long x :: st) :=
  fun H locs ls hP hD hS hl => lv_land cx.1 cx.2.1  d  (kk H locs ls hP hD hS hl)

theorem J_lor (cx : CX p l s m args meth c own cc ret nL D g A) {x y : Int64} (d : decode cc pc = .ok (.lor, 1))  (kk : J p l e R s m args below meth c D A nL Q cells slots ws L (pc + 1) (.long (x ||| y) :: st)) : J p l e R s m args below meth c D A nL Q cells slots ws L pc (.long y :: .long x :: st) :=
  fun H locs ls hP hD hS hl => lv_lor cx.1 cx.2.1  d  (kk H locs ls hP hD hS hl)

theorem J_lrem (cx : CX p l s m args meth c own cc ret nL D g A) {x y : Int64} (d : decode cc pc = .ok (.lrem, 1)) (hne : ¬ y = 0) (kk : J p l e R s m args below meth c D A nL Q cells slots ws L (pc + 1) (.long (x - x / y * y) :: st)) : J p l e R s m args below meth c D A nL Q cells slots ws L pc (.long y :: .long x :: st) :=
  fun H locs ls hP hD hS hl => lv_lrem cx.1 cx.2.1  d hne (kk H locs ls hP hD hS hl)

theorem J_lshl (cx : CX p l s m args meth c own cc ret nL D g A) {x v : Int64} {y : Int32} (d : decode cc pc = .ok (.lshl, 1)) (hv : x <<< (y.toInt64 &&& 63) = v) (kk : J p l e R s m args below meth c D A nL Q cells slots ws L (pc + 1) (.long v :: st)) : J p l e R s m args below meth c D A nL Q cells slots ws L pc (.int y :: .long x :: st) :=
  fun H locs ls hP hD hS hl => lv_lshl cx.1 cx.2.1  d hv (kk H locs ls hP hD hS hl)

theorem J_i2l (cx : CX p l s m args meth c own cc ret nL D g A) {x : Int32} {v : Int64} (d : decode cc pc = .ok (.i2l, 1)) (hv : x.toInt64 = v) (kk : J p l e R s m args below meth c D A nL Q cells slots ws L (pc + 1) (.long v :: st)) : J p l e R s m args below meth c D A nL Q cells slots ws L pc (.int x :: st) :=
  fun H locs ls hP hD hS hl => lv_i2l cx.1 cx.2.1  d hv (kk H locs ls hP hD hS hl)

theorem J_i2f (cx : CX p l s m args meth c own cc ret nL D g A) {x : Int32} (d : decode cc pc = .ok (.i2f, 1))  (kk : J p l e R s m args below meth c D A nL Q cells slots ws L (pc + 1) (.float (FP.i2f x) :: st)) : J p l e R s m args below meth c D A nL Q cells slots ws L pc (.int x :: st) :=
  fun H locs ls hP hD hS hl => lv_i2f cx.1 cx.2.1  d  (kk H locs ls hP hD hS hl)

theorem J_i2d (cx : CX p l s m args meth c own cc ret nL D g A) {x : Int32} (d : decode cc pc = .ok (.i2d, 1))  (kk : J p l e R s m args below meth c D A nL Q cells slots ws L (pc + 1) (.double (FP.i2d x) :: st)) : J p l e R s m args below meth c D A nL Q cells slots ws L pc (.int x :: st) :=
  fun H locs ls hP hD hS hl => lv_i2d cx.1 cx.2.1  d  (kk H locs ls hP hD hS hl)

theorem J_fdiv (cx : CX p l s m args meth c own cc ret nL D g A) {x y : UInt32} (d : decode cc pc = .ok (.fdiv, 1)) (hne : vf_n32 (FP.fdiv x y)) (kk : J p l e R s m args below meth c D A nL Q cells slots ws L (pc + 1) (.float (FP.fdiv x y) :: st)) : J p l e R s m args below meth c D A nL Q cells slots ws L pc (.float y :: .float x :: st) :=
  fun H locs ls hP hD hS hl => lv_fdiv cx.1 cx.2.1  d hne (kk H locs ls hP hD hS hl)

theorem J_ddiv (cx : CX p l s m args meth c own cc ret nL D g A) {x y : UInt64} (d : decode cc pc = .ok (.ddiv, 1)) (hne : vf_n64 (FP.ddiv x y)) (kk : J p l e R s m args below meth c D A nL Q cells slots ws L (pc + 1) (.double (FP.ddiv x y) :: st)) : J p l e R s m args below meth c D A nL Q cells slots ws L pc (.double y :: .double x :: st) :=
  fun H locs ls hP hD hS hl => lv_ddiv cx.1 cx.2.1  d hne (kk H locs ls hP hD hS hl)

theorem J_f2d (cx : CX p l s m args meth c own cc ret nL D g A) {x : UInt32} (d : decode cc pc = .ok (.f2d, 1)) (hne : vf_n64 (FP.f2d x)) (kk : J p l e R s m args below meth c D A nL Q cells slots ws L (pc + 1) (.double (FP.f2d x) :: st)) : J p l e R s m args below meth c D A nL Q cells slots ws L pc (.float x :: st) :=
  fun H locs ls hP hD hS hl => lv_f2d cx.1 cx.2.1  d hne (kk H locs ls hP hD hS hl)

theorem J_dcmp (cx : CX p l s m args meth c own cc ret nL D g A) {x y : UInt64} {op : CmpOp} (d : decode cc pc = .ok (.dcmp op, 1))  (kk : J p l e R s m args below meth c D A nL Q cells slots ws L (pc + 1) (.int (Op.cmpValue (FP.dcmp x y) op) :: st)) : J p l e R s m args below meth c D A nL Q cells slots ws L pc (.double y :: .double x :: st) :=
  fun H locs ls hP hD hS hl => lv_dcmp cx.1 cx.2.1  d  (kk H locs ls hP hD hS hl)

theorem J_fcmp (cx : CX p l s m args meth c own cc ret nL D g A) {x y : UInt32} {op : CmpOp} (d : decode cc pc = .ok (.fcmp op, 1))  (kk : J p l e R s m args below meth c D A nL Q cells slots ws L (pc + 1) (.int (Op.cmpValue (FP.fcmp x y) op) :: st)) : J p l e R s m args below meth c D A nL Q cells slots ws L pc (.float y :: .float x :: st) :=
  fun H locs ls hP hD hS hl => lv_fcmp cx.1 cx.2.1  d  (kk H locs ls hP hD hS hl)

theorem J_lcmp (cx : CX p l s m args meth c own cc ret nL D g A) {x y : Int64} (d : decode cc pc = .ok (.lcmp, 1))  (kk : J p l e R s m args below meth c D A nL Q cells slots ws L (pc + 1) (.int (lg_cmp x y) :: st)) : J p l e R s m args below meth c D A nL Q cells slots ws L pc (.long y :: .long x :: st) :=
  fun H locs ls hP hD hS hl => W.lcmp cx.1 cx.2.1  d  (kk H locs ls hP hD hS hl)

theorem J_dup (cx : CX p l s m args meth c own cc ret nL D g A) {va : Value} (d : decode cc pc = .ok (.dup, 1)) (hva : va.category = 1) (kk : J p l e R s m args below meth c D A nL Q cells slots ws L (pc + 1) (va :: va :: st)) : J p l e R s m args below meth c D A nL Q cells slots ws L pc (va :: st) :=
  fun H locs ls hP hD hS hl => lv_dup cx.1 cx.2.1  d hva (kk H locs ls hP hD hS hl)

theorem J_pop (cx : CX p l s m args meth c own cc ret nL D g A) {va : Value} (d : decode cc pc = .ok (.pop, 1)) (hva : va.category = 1) (kk : J p l e R s m args below meth c D A nL Q cells slots ws L (pc + 1) st) : J p l e R s m args below meth c D A nL Q cells slots ws L pc (va :: st) :=
  fun H locs ls hP hD hS hl => lv_pop cx.1 cx.2.1  d hva (kk H locs ls hP hD hS hl)

theorem J_dup_x1 (cx : CX p l s m args meth c own cc ret nL D g A) {va vb : Value} (d : decode cc pc = .ok (.dup_x1, 1)) (hva : va.category = 1) (hvb : vb.category = 1) (kk : J p l e R s m args below meth c D A nL Q cells slots ws L (pc + 1) (va :: vb :: va :: st)) : J p l e R s m args below meth c D A nL Q cells slots ws L pc (va :: vb :: st) :=
  fun H locs ls hP hD hS hl => lv_dup_x1 cx.1 cx.2.1  d hva hvb (kk H locs ls hP hD hS hl)

theorem J_iload_n (cx : CX p l s m args meth c own cc ret nL D g A) {k : Fin 4} {i : Nat} {x : Int32} (d : decode cc pc = .ok (.iload_n k, 1)) (hi : (k : Nat) = i) (q : Nat) (hq : L[q]? = some (i, .int x)) (kk : J p l e R s m args below meth c D A nL Q cells slots ws L (pc + 1) (.int x :: st)) : J p l e R s m args below meth c D A nL Q cells slots ws L pc st :=
  fun H locs ls hP hD hS hl => lv_iload_n cx.1 cx.2.1 d hi (lv_at hl q hq) (kk H locs ls hP hD hS hl)

theorem J_iload (cx : CX p l s m args meth c own cc ret nL D g A) {i : Nat} {x : Int32} (d : decode cc pc = .ok (.iload i, 2)) (q : Nat) (hq : L[q]? = some (i, .int x)) (kk : J p l e R s m args below meth c D A nL Q cells slots ws L (pc + 2) (.int x :: st)) : J p l e R s m args below meth c D A nL Q cells slots ws L pc st :=
  fun H locs ls hP hD hS hl => lv_iload cx.1 cx.2.1 d (lv_at hl q hq) (kk H locs ls hP hD hS hl)

theorem J_lload_n (cx : CX p l s m args meth c own cc ret nL D g A) {k : Fin 4} {i : Nat} {x : Int64} (d : decode cc pc = .ok (.lload_n k, 1)) (hi : (k : Nat) = i) (q : Nat) (hq : L[q]? = some (i, .long x)) (kk : J p l e R s m args below meth c D A nL Q cells slots ws L (pc + 1) (.long x :: st)) : J p l e R s m args below meth c D A nL Q cells slots ws L pc st :=
  fun H locs ls hP hD hS hl => lv_lload_n cx.1 cx.2.1 d hi (lv_at hl q hq) (kk H locs ls hP hD hS hl)

theorem J_lload (cx : CX p l s m args meth c own cc ret nL D g A) {i : Nat} {x : Int64} (d : decode cc pc = .ok (.lload i, 2)) (q : Nat) (hq : L[q]? = some (i, .long x)) (kk : J p l e R s m args below meth c D A nL Q cells slots ws L (pc + 2) (.long x :: st)) : J p l e R s m args below meth c D A nL Q cells slots ws L pc st :=
  fun H locs ls hP hD hS hl => lv_lload cx.1 cx.2.1 d (lv_at hl q hq) (kk H locs ls hP hD hS hl)

theorem J_fload_n (cx : CX p l s m args meth c own cc ret nL D g A) {k : Fin 4} {i : Nat} {x : UInt32} (d : decode cc pc = .ok (.fload_n k, 1)) (hi : (k : Nat) = i) (q : Nat) (hq : L[q]? = some (i, .float x)) (kk : J p l e R s m args below meth c D A nL Q cells slots ws L (pc + 1) (.float x :: st)) : J p l e R s m args below meth c D A nL Q cells slots ws L pc st :=
  fun H locs ls hP hD hS hl => lv_fload_n cx.1 cx.2.1 d hi (lv_at hl q hq) (kk H locs ls hP hD hS hl)

theorem J_fload (cx : CX p l s m args meth c own cc ret nL D g A) {i : Nat} {x : UInt32} (d : decode cc pc = .ok (.fload i, 2)) (q : Nat) (hq : L[q]? = some (i, .float x)) (kk : J p l e R s m args below meth c D A nL Q cells slots ws L (pc + 2) (.float x :: st)) : J p l e R s m args below meth c D A nL Q cells slots ws L pc st :=
  fun H locs ls hP hD hS hl => lv_fload cx.1 cx.2.1 d (lv_at hl q hq) (kk H locs ls hP hD hS hl)

theorem J_dload_n (cx : CX p l s m args meth c own cc ret nL D g A) {k : Fin 4} {i : Nat} {x : UInt64} (d : decode cc pc = .ok (.dload_n k, 1)) (hi : (k : Nat) = i) (q : Nat) (hq : L[q]? = some (i, .double x)) (kk : J p l e R s m args below meth c D A nL Q cells slots ws L (pc + 1) (.double x :: st)) : J p l e R s m args below meth c D A nL Q cells slots ws L pc st :=
  fun H locs ls hP hD hS hl => lv_dload_n cx.1 cx.2.1 d hi (lv_at hl q hq) (kk H locs ls hP hD hS hl)

theorem J_dload (cx : CX p l s m args meth c own cc ret nL D g A) {i : Nat} {x : UInt64} (d : decode cc pc = .ok (.dload i, 2)) (q : Nat) (hq : L[q]? = some (i, .double x)) (kk : J p l e R s m args below meth c D A nL Q cells slots ws L (pc + 2) (.double x :: st)) : J p l e R s m args below meth c D A nL Q cells slots ws L pc st :=
  fun H locs ls hP hD hS hl => lv_dload cx.1 cx.2.1 d (lv_at hl q hq) (kk H locs ls hP hD hS hl)

theorem J_aload_n (cx : CX p l s m args meth c own cc ret nL D g A) {k : Fin 4} {i : Nat} {x : Nat} (d : decode cc pc = .ok (.aload_n k, 1)) (hi : (k : Nat) = i) (q : Nat) (hq : L[q]? = some (i, .ref x)) (kk : J p l e R s m args below meth c D A nL Q cells slots ws L (pc + 1) (.ref x :: st)) : J p l e R s m args below meth c D A nL Q cells slots ws L pc st :=
  fun H locs ls hP hD hS hl => lv_aload_n cx.1 cx.2.1 d hi (lv_at hl q hq) (kk H locs ls hP hD hS hl)

theorem J_aload (cx : CX p l s m args meth c own cc ret nL D g A) {i : Nat} {x : Nat} (d : decode cc pc = .ok (.aload i, 2)) (q : Nat) (hq : L[q]? = some (i, .ref x)) (kk : J p l e R s m args below meth c D A nL Q cells slots ws L (pc + 2) (.ref x :: st)) : J p l e R s m args below meth c D A nL Q cells slots ws L pc st :=
  fun H locs ls hP hD hS hl => lv_aload cx.1 cx.2.1 d (lv_at hl q hq) (kk H locs ls hP hD hS hl)

theorem J_aload_nq (cx : CX p l s m args meth c own cc ret nL D g A) {k : Fin 4} {i : Nat} {x : Option Nat} (d : decode cc pc = .ok (.aload_n k, 1)) (hi : (k : Nat) = i) (q : Nat) (hq : L[q]? = some (i, va_rf x)) (kk : J p l e R s m args below meth c D A nL Q cells slots ws L (pc + 1) (va_rf x :: st)) : J p l e R s m args below meth c D A nL Q cells slots ws L pc st := by
  cases x with
  | none => exact fun H locs ls hP hD hS hl => lv_aload_nN cx.1 cx.2.1 d hi (lv_at hl q hq) (kk H locs ls hP hD hS hl)
  | some x => exact fun H locs ls hP hD hS hl => lv_aload_n cx.1 cx.2.1 d hi (lv_at hl q hq) (kk H locs ls hP hD hS hl)
theorem J_aloadq (cx : CX p l s m args meth c own cc ret nL D g A) {i : Nat} {x : Option Nat} (d : decode cc pc = .ok (.aload i, 2)) (q : Nat) (hq : L[q]? = some (i, va_rf x)) (kk : J p l e R s m args below meth c D A nL Q cells slots ws L (pc + 2) (va_rf x :: st)) : J p l e R s m args below meth c D A nL Q cells slots ws L pc st := by
  cases x with
  | none => exact fun H locs ls hP hD hS hl => lv_aloadN cx.1 cx.2.1 d (lv_at hl q hq) (kk H locs ls hP hD hS hl)
  | some x => exact fun H locs ls hP hD hS hl => lv_aload cx.1 cx.2.1 d (lv_at hl q hq) (kk H locs ls hP hD hS hl)

theorem J_istore_n (cx : CX p l s m args meth c own cc ret nL D g A) {k : Fin 4} {i : Nat} {x : Int32} {L' : List (Nat × Value)} (d : decode cc pc = .ok (.istore_n k, 1)) (hi : (k : Nat) = i) (hn : i < nL) (hL : (i, Value.int x) :: L.filter (fun q => !(q.1 == i) && !(q.1 + 1 == i && q.2.category == 2)) = L') (kk : J p l e R s m args below meth c D A nL Q cells slots ws L' (pc + 1) st) : J p l e R s m args below meth c D A nL Q cells slots ws L pc (.int x :: st) :=
  fun H locs ls hP hD hS hl => lv_istore_n cx.1 cx.2.1 d hi hl hn hL (fun ls hl => kk H locs ls hP hD hS hl)

theorem J_istore (cx : CX p l s m args meth c own cc ret nL D g A) {i : Nat} {x : Int32} {L' : List (Nat × Value)} (d : decode cc pc = .ok (.istore i, 2)) (hn : i < nL) (hL : (i, Value.int x) :: L.filter (fun q => !(q.1 == i) && !(q.1 + 1 == i && q.2.category == 2)) = L') (kk : J p l e R s m args below meth c D A nL Q cells slots ws L' (pc + 2) st) : J p l e R s m args below meth c D A nL Q cells slots ws L pc (.int x :: st) :=
  fun H locs ls hP hD hS hl => lv_istore cx.1 cx.2.1 d hl hn hL (fun ls hl => kk H locs ls hP hD hS hl)

theorem J_lstore_n (cx : CX p l s m args meth c own cc ret nL D g A) {k : Fin 4} {i : Nat} {x : Int64} {L' : List (Nat × Value)} (d : decode cc pc = .ok (.lstore_n k, 1)) (hi : (k : Nat) = i) (hn : i + 1 < nL) (hL : (i, Value.long x) :: L.filter (fun q => !(q.1 == i) && (!(q.1 == i + 1) && !(q.1 + 1 == i && q.2.category == 2))) = L') (kk : J p l e R s m args below meth c D A nL Q cells slots ws L' (pc + 1) st) : J p l e R s m args below meth c D A nL Q cells slots ws L pc (.long x :: st) :=
  fun H locs ls hP hD hS hl => lv_lstore_n cx.1 cx.2.1 d hi hl hn hL (fun ls hl => kk H locs ls hP hD hS hl)

theorem J_lstore (cx : CX p l s m args meth c own cc ret nL D g A) {i : Nat} {x : Int64} {L' : List (Nat × Value)} (d : decode cc pc = .ok (.lstore i, 2)) (hn : i + 1 < nL) (hL : (i, Value.long x) :: L.filter (fun q => !(q.1 == i) && (!(q.1 == i + 1) && !(q.1 + 1 == i && q.2.category == 2))) = L') (kk : J p l e R s m args below meth c D A nL Q cells slots ws L' (pc + 2) st) : J p l e R s m args below meth c D A nL Q cells slots ws L pc (.long x :: st) :=
  fun H locs ls hP hD hS hl => lv_lstore cx.1 cx.2.1 d hl hn hL (fun ls hl => kk H locs ls hP hD hS hl)

theorem J_fstore_n (cx : CX p l s m args meth c own cc ret nL D g A) {k : Fin 4} {i : Nat} {x : UInt32} {L' : List (Nat × Value)} (d : decode cc pc = .ok (.fstore_n k, 1)) (hi : (k : Nat) = i) (hn : i < nL) (hL : (i, Value.float x) :: L.filter (fun q => !(q.1 == i) && !(q.1 + 1 == i && q.2.category == 2)) = L') (kk : J p l e R s m args below meth c D A nL Q cells slots ws L' (pc + 1) st) : J p l e R s m args below meth c D A nL Q cells slots ws L pc (.float x :: st) :=
  fun H locs ls hP hD hS hl => lv_fstore_n cx.1 cx.2.1 d hi hl hn hL (fun ls hl => kk H locs ls hP hD hS hl)

theorem J_fstore (cx : CX p l s m args meth c own cc ret nL D g A) {i : Nat} {x : UInt32} {L' : List (Nat × Value)} (d : decode cc pc = .ok (.fstore i, 2)) (hn : i < nL) (hL : (i, Value.float x) :: L.filter (fun q => !(q.1 == i) && !(q.1 + 1 == i && q.2.category == 2)) = L') (kk : J p l e R s m args below meth c D A nL Q cells slots ws L' (pc + 2) st) : J p l e R s m args below meth c D A nL Q cells slots ws L pc (.float x :: st) :=
  fun H locs ls hP hD hS hl => lv_fstore cx.1 cx.2.1 d hl hn hL (fun ls hl => kk H locs ls hP hD hS hl)

theorem J_dstore_n (cx : CX p l s m args meth c own cc ret nL D g A) {k : Fin 4} {i : Nat} {x : UInt64} {L' : List (Nat × Value)} (d : decode cc pc = .ok (.dstore_n k, 1)) (hi : (k : Nat) = i) (hn : i + 1 < nL) (hL : (i, Value.double x) :: L.filter (fun q => !(q.1 == i) && (!(q.1 == i + 1) && !(q.1 + 1 == i && q.2.category == 2))) = L') (kk : J p l e R s m args below meth c D A nL Q cells slots ws L' (pc + 1) st) : J p l e R s m args below meth c D A nL Q cells slots ws L pc (.double x :: st) :=
  fun H locs ls hP hD hS hl => lv_dstore_n cx.1 cx.2.1 d hi hl hn hL (fun ls hl => kk H locs ls hP hD hS hl)

theorem J_dstore (cx : CX p l s m args meth c own cc ret nL D g A) {i : Nat} {x : UInt64} {L' : List (Nat × Value)} (d : decode cc pc = .ok (.dstore i, 2)) (hn : i + 1 < nL) (hL : (i, Value.double x) :: L.filter (fun q => !(q.1 == i) && (!(q.1 == i + 1) && !(q.1 + 1 == i && q.2.category == 2))) = L') (kk : J p l e R s m args below meth c D A nL Q cells slots ws L' (pc + 2) st) : J p l e R s m args below meth c D A nL Q cells slots ws L pc (.double x :: st) :=
  fun H locs ls hP hD hS hl => lv_dstore cx.1 cx.2.1 d hl hn hL (fun ls hl => kk H locs ls hP hD hS hl)

theorem J_astore_n (cx : CX p l s m args meth c own cc ret nL D g A) {k : Fin 4} {i : Nat} {x : Nat} {L' : List (Nat × Value)} (d : decode cc pc = .ok (.astore_n k, 1)) (hi : (k : Nat) = i) (hn : i < nL) (hL : (i, Value.ref x) :: L.filter (fun q => !(q.1 == i) && !(q.1 + 1 == i && q.2.category == 2)) = L') (kk : J p l e R s m args below meth c D A nL Q cells slots ws L' (pc + 1) st) : J p l e R s m args below meth c D A nL Q cells slots ws L pc (.ref x :: st) :=
  fun H locs ls hP hD hS hl => lv_astore_n cx.1 cx.2.1 d hi hl hn hL (fun ls hl => kk H locs ls hP hD hS hl)

theorem J_astore (cx : CX p l s m args meth c own cc ret nL D g A) {i : Nat} {x : Nat} {L' : List (Nat × Value)} (d : decode cc pc = .ok (.astore i, 2)) (hn : i < nL) (hL : (i, Value.ref x) :: L.filter (fun q => !(q.1 == i) && !(q.1 + 1 == i && q.2.category == 2)) = L') (kk : J p l e R s m args below meth c D A nL Q cells slots ws L' (pc + 2) st) : J p l e R s m args below meth c D A nL Q cells slots ws L pc (.ref x :: st) :=
  fun H locs ls hP hD hS hl => lv_astore cx.1 cx.2.1 d hl hn hL (fun ls hl => kk H locs ls hP hD hS hl)

theorem J_astore_nq (cx : CX p l s m args meth c own cc ret nL D g A) {k : Fin 4} {i : Nat} {x : Option Nat} {L' : List (Nat × Value)} (d : decode cc pc = .ok (.astore_n k, 1)) (hi : (k : Nat) = i) (hn : i < nL) (hL : (i, va_rf x) :: L.filter (fun q => !(q.1 == i) && !(q.1 + 1 == i && q.2.category == 2)) = L') (kk : J p l e R s m args below meth c D A nL Q cells slots ws L' (pc + 1) st) : J p l e R s m args below meth c D A nL Q cells slots ws L pc (va_rf x :: st) := by
  cases x with
  | none => exact fun H locs ls hP hD hS hl => lv_astore_nN cx.1 cx.2.1 d hi hl hn hL (fun ls hl => kk H locs ls hP hD hS hl)
  | some x => exact fun H locs ls hP hD hS hl => lv_astore_n cx.1 cx.2.1 d hi hl hn hL (fun ls hl => kk H locs ls hP hD hS hl)
theorem J_astoreq (cx : CX p l s m args meth c own cc ret nL D g A) {i : Nat} {x : Option Nat} {L' : List (Nat × Value)} (d : decode cc pc = .ok (.astore i, 2)) (hn : i < nL) (hL : (i, va_rf x) :: L.filter (fun q => !(q.1 == i) && !(q.1 + 1 == i && q.2.category == 2)) = L') (kk : J p l e R s m args below meth c D A nL Q cells slots ws L' (pc + 2) st) : J p l e R s m args below meth c D A nL Q cells slots ws L pc (va_rf x :: st) := by
  cases x with
  | none => exact fun H locs ls hP hD hS hl => lv_astoreN cx.1 cx.2.1 d hl hn hL (fun ls hl => kk H locs ls hP hD hS hl)
  | some x => exact fun H locs ls hP hD hS hl => lv_astore cx.1 cx.2.1 d hl hn hL (fun ls hl => kk H locs ls hP hD hS hl)

theorem J_iinc (cx : CX p l s m args meth c own cc ret nL D g A) {i : Nat} {n : Int} {x v : Int32} {L' : List (Nat × Value)} (d : decode cc pc = .ok (.iinc i n, 3)) (q : Nat) (hq : L[q]? = some (i, .int x)) (hv : x + Int32.ofInt n = v) (hn : i < nL) (hL : (i, Value.int v) :: L.filter (fun q => !(q.1 == i) && !(q.1 + 1 == i && q.2.category == 2)) = L') (kk : J p l e R s m args below meth c D A nL Q cells slots ws L' (pc + 3) st) : J p l e R s m args below meth c D A nL Q cells slots ws L pc st :=
  fun H locs ls hP hD hS hl => lv_iinc cx.1 cx.2.1 d hl hq hv hn hL (fun ls hl => kk H locs ls hP hD hS hl)

theorem J_goto (cx : CX p l s m args meth c own cc ret nL D g A) {off : Int} {tgt : Nat} (d : decode cc pc = .ok (.goto off, 3)) (ht : (pc : Int) + off = (tgt : Int)) (kk : J p l e R s m args below meth c D A nL Q cells slots ws L tgt st) : J p l e R s m args below meth c D A nL Q cells slots ws L pc st :=
  fun H locs ls hP hD hS hl => lv_goto cx.1 cx.2.1 d ht (kk H locs ls hP hD hS hl)

theorem J_if_eq (cx : CX p l s m args meth c own cc ret nL D g A) {x : Int32} {off : Int} {tgt : Nat} (d : decode cc pc = .ok (.ifCond .eq off, 3)) (ht : (pc : Int) + off = (tgt : Int)) (kt : x = 0 → J p l e R s m args below meth c D A nL Q cells slots ws L tgt st) (kf : ¬ x = 0 → J p l e R s m args below meth c D A nL Q cells slots ws L (pc + 3) st) : J p l e R s m args below meth c D A nL Q cells slots ws L pc (.int x :: st) :=
  fun H locs ls hP hD hS hl => lv_if_eq cx.1 cx.2.1 d ht (fun h => kt h H locs ls hP hD hS hl) (fun h => kf h H locs ls hP hD hS hl)

theorem J_if_ne (cx : CX p l s m args meth c own cc ret nL D g A) {x : Int32} {off : Int} {tgt : Nat} (d : decode cc pc = .ok (.ifCond .ne off, 3)) (ht : (pc : Int) + off = (tgt : Int)) (kt : ¬ x = 0 → J p l e R s m args below meth c D A nL Q cells slots ws L tgt st) (kf : x = 0 → J p l e R s m args below meth c D A nL Q cells slots ws L (pc + 3) st) : J p l e R s m args below meth c D A nL Q cells slots ws L pc (.int x :: st) :=
  fun H locs ls hP hD hS hl => lv_if_ne cx.1 cx.2.1 d ht (fun h => kt h H locs ls hP hD hS hl) (fun h => kf h H locs ls hP hD hS hl)

theorem J_if_lt (cx : CX p l s m args meth c own cc ret nL D g A) {x : Int32} {off : Int} {tgt : Nat} (d : decode cc pc = .ok (.ifCond .lt off, 3)) (ht : (pc : Int) + off = (tgt : Int)) (kt : x < 0 → J p l e R s m args below meth c D A nL Q cells slots ws L tgt st) (kf : ¬ x < 0 → J p l e R s m args below meth c D A nL Q cells slots ws L (pc + 3) st) : J p l e R s m args below meth c D A nL Q cells slots ws L pc (.int x :: st) :=
  fun H locs ls hP hD hS hl => lv_if_lt cx.1 cx.2.1 d ht (fun h => kt h H locs ls hP hD hS hl) (fun h => kf h H locs ls hP hD hS hl)

theorem J_if_le (cx : CX p l s m args meth c own cc ret nL D g A) {x : Int32} {off : Int} {tgt : Nat} (d : decode cc pc = .ok (.ifCond .le off, 3)) (ht : (pc : Int) + off = (tgt : Int)) (kt : x ≤ 0 → J p l e R s m args below meth c D A nL Q cells slots ws L tgt st) (kf : ¬ x ≤ 0 → J p l e R s m args below meth c D A nL Q cells slots ws L (pc + 3) st) : J p l e R s m args below meth c D A nL Q cells slots ws L pc (.int x :: st) :=
  fun H locs ls hP hD hS hl => lv_if_le cx.1 cx.2.1 d ht (fun h => kt h H locs ls hP hD hS hl) (fun h => kf h H locs ls hP hD hS hl)

theorem J_if_ge (cx : CX p l s m args meth c own cc ret nL D g A) {x : Int32} {off : Int} {tgt : Nat} (d : decode cc pc = .ok (.ifCond .ge off, 3)) (ht : (pc : Int) + off = (tgt : Int)) (kt : 0 ≤ x → J p l e R s m args below meth c D A nL Q cells slots ws L tgt st) (kf : ¬ 0 ≤ x → J p l e R s m args below meth c D A nL Q cells slots ws L (pc + 3) st) : J p l e R s m args below meth c D A nL Q cells slots ws L pc (.int x :: st) :=
  fun H locs ls hP hD hS hl => lv_if_ge cx.1 cx.2.1 d ht (fun h => kt h H locs ls hP hD hS hl) (fun h => kf h H locs ls hP hD hS hl)

theorem J_if_gt (cx : CX p l s m args meth c own cc ret nL D g A) {x : Int32} {off : Int} {tgt : Nat} (d : decode cc pc = .ok (.ifCond .gt off, 3)) (ht : (pc : Int) + off = (tgt : Int)) (kt : 0 < x → J p l e R s m args below meth c D A nL Q cells slots ws L tgt st) (kf : ¬ 0 < x → J p l e R s m args below meth c D A nL Q cells slots ws L (pc + 3) st) : J p l e R s m args below meth c D A nL Q cells slots ws L pc (.int x :: st) :=
  fun H locs ls hP hD hS hl => lv_if_gt cx.1 cx.2.1 d ht (fun h => kt h H locs ls hP hD hS hl) (fun h => kf h H locs ls hP hD hS hl)

theorem J_icmp_eq (cx : CX p l s m args meth c own cc ret nL D g A) {x y : Int32} {off : Int} {tgt : Nat} (d : decode cc pc = .ok (.if_icmp .eq off, 3)) (ht : (pc : Int) + off = (tgt : Int)) (kt : x = y → J p l e R s m args below meth c D A nL Q cells slots ws L tgt st) (kf : ¬ x = y → J p l e R s m args below meth c D A nL Q cells slots ws L (pc + 3) st) : J p l e R s m args below meth c D A nL Q cells slots ws L pc (.int y :: .int x :: st) :=
  fun H locs ls hP hD hS hl => lv_icmp_eq cx.1 cx.2.1 d ht (fun h => kt h H locs ls hP hD hS hl) (fun h => kf h H locs ls hP hD hS hl)

theorem J_icmp_ne (cx : CX p l s m args meth c own cc ret nL D g A) {x y : Int32} {off : Int} {tgt : Nat} (d : decode cc pc = .ok (.if_icmp .ne off, 3)) (ht : (pc : Int) + off = (tgt : Int)) (kt : ¬ x = y → J p l e R s m args below meth c D A nL Q cells slots ws L tgt st) (kf : x = y → J p l e R s m args below meth c D A nL Q cells slots ws L (pc + 3) st) : J p l e R s m args below meth c D A nL Q cells slots ws L pc (.int y :: .int x :: st) :=
  fun H locs ls hP hD hS hl => lv_icmp_ne cx.1 cx.2.1 d ht (fun h => kt h H locs ls hP hD hS hl) (fun h => kf h H locs ls hP hD hS hl)

theorem J_icmp_lt (cx : CX p l s m args meth c own cc ret nL D g A) {x y : Int32} {off : Int} {tgt : Nat} (d : decode cc pc = .ok (.if_icmp .lt off, 3)) (ht : (pc : Int) + off = (tgt : Int)) (kt : x < y → J p l e R s m args below meth c D A nL Q cells slots ws L tgt st) (kf : ¬ x < y → J p l e R s m args below meth c D A nL Q cells slots ws L (pc + 3) st) : J p l e R s m args below meth c D A nL Q cells slots ws L pc (.int y :: .int x :: st) :=
  fun H locs ls hP hD hS hl => lv_icmp_lt cx.1 cx.2.1 d ht (fun h => kt h H locs ls hP hD hS hl) (fun h => kf h H locs ls hP hD hS hl)

theorem J_icmp_ge (cx : CX p l s m args meth c own cc ret nL D g A) {x y : Int32} {off : Int} {tgt : Nat} (d : decode cc pc = .ok (.if_icmp .ge off, 3)) (ht : (pc : Int) + off = (tgt : Int)) (kt : y ≤ x → J p l e R s m args below meth c D A nL Q cells slots ws L tgt st) (kf : ¬ y ≤ x → J p l e R s m args below meth c D A nL Q cells slots ws L (pc + 3) st) : J p l e R s m args below meth c D A nL Q cells slots ws L pc (.int y :: .int x :: st) :=
  fun H locs ls hP hD hS hl => lv_icmp_ge cx.1 cx.2.1 d ht (fun h => kt h H locs ls hP hD hS hl) (fun h => kf h H locs ls hP hD hS hl)

theorem J_icmp_gt (cx : CX p l s m args meth c own cc ret nL D g A) {x y : Int32} {off : Int} {tgt : Nat} (d : decode cc pc = .ok (.if_icmp .gt off, 3)) (ht : (pc : Int) + off = (tgt : Int)) (kt : y < x → J p l e R s m args below meth c D A nL Q cells slots ws L tgt st) (kf : ¬ y < x → J p l e R s m args below meth c D A nL Q cells slots ws L (pc + 3) st) : J p l e R s m args below meth c D A nL Q cells slots ws L pc (.int y :: .int x :: st) :=
  fun H locs ls hP hD hS hl => lv_icmp_gt cx.1 cx.2.1 d ht (fun h => kt h H locs ls hP hD hS hl) (fun h => kf h H locs ls hP hD hS hl)

theorem J_icmp_le (cx : CX p l s m args meth c own cc ret nL D g A) {x y : Int32} {off : Int} {tgt : Nat} (d : decode cc pc = .ok (.if_icmp .le off, 3)) (ht : (pc : Int) + off = (tgt : Int)) (kt : x ≤ y → J p l e R s m args below meth c D A nL Q cells slots ws L tgt st) (kf : ¬ x ≤ y → J p l e R s m args below meth c D A nL Q cells slots ws L (pc + 3) st) : J p l e R s m args below meth c D A nL Q cells slots ws L pc (.int y :: .int x :: st) :=
  fun H locs ls hP hD hS hl => lv_icmp_le cx.1 cx.2.1 d ht (fun h => kt h H locs ls hP hD hS hl) (fun h => kf h H locs ls hP hD hS hl)

theorem J_acmp_eq (cx : CX p l s m args meth c own cc ret nL D g A) {rx ry : Option Nat} {off : Int} {tgt : Nat} (d : decode cc pc = .ok (.if_acmp .eq off, 3)) (ht : (pc : Int) + off = (tgt : Int)) (kt : rx = ry → J p l e R s m args below meth c D A nL Q cells slots ws L tgt st) (kf : ¬ rx = ry → J p l e R s m args below meth c D A nL Q cells slots ws L (pc + 3) st) : J p l e R s m args below meth c D A nL Q cells slots ws L pc (va_rf ry :: va_rf rx :: st) :=
  fun H locs ls hP hD hS hl => lv_acmp_eq cx.1 cx.2.1 d ht (fun h => kt h H locs ls hP hD hS hl) (fun h => kf h H locs ls hP hD hS hl)

theorem J_acmp_ne (cx : CX p l s m args meth c own cc ret nL D g A) {rx ry : Option Nat} {off : Int} {tgt : Nat} (d : decode cc pc = .ok (.if_acmp .ne off, 3)) (ht : (pc : Int) + off = (tgt : Int)) (kt : ¬ rx = ry → J p l e R s m args below meth c D A nL Q cells slots ws L tgt st) (kf : rx = ry → J p l e R s m args below meth c D A nL Q cells slots ws L (pc + 3) st) : J p l e R s m args below meth c D A nL Q cells slots ws L pc (va_rf ry :: va_rf rx :: st) :=
  fun H locs ls hP hD hS hl => lv_acmp_ne cx.1 cx.2.1 d ht (fun h => kt h H locs ls hP hD hS hl) (fun h => kf h H locs ls hP hD hS hl)

theorem J_ifnull (cx : CX p l s m args meth c own cc ret nL D g A) {r : Option Nat} {off : Int} {tgt : Nat} (d : decode cc pc = .ok (.ifnull off, 3)) (ht : (pc : Int) + off = (tgt : Int)) (kt : r = none → J p l e R s m args below meth c D A nL Q cells slots ws L tgt st) (kf : ∀ x, r = some x → J p l e R s m args below meth c D A nL Q cells slots ws L (pc + 3) st) : J p l e R s m args below meth c D A nL Q cells slots ws L pc (va_rf r :: st) := by
  cases r with
  | none => exact fun H locs ls hP hD hS hl => lv_ifnullN cx.1 cx.2.1 d ht (kt rfl H locs ls hP hD hS hl)
  | some x => exact fun H locs ls hP hD hS hl => lv_ifnull cx.1 cx.2.1 d (kf x rfl H locs ls hP hD hS hl)
theorem J_ifnonnull (cx : CX p l s m args meth c own cc ret nL D g A) {r : Option Nat} {off : Int} {tgt : Nat} (d : decode cc pc = .ok (.ifnonnull off, 3)) (ht : (pc : Int) + off = (tgt : Int)) (kt : ∀ x, r = some x → J p l e R s m args below meth c D A nL Q cells slots ws L tgt st) (kf : r = none → J p l e R s m args below meth c D A nL Q cells slots ws L (pc + 3) st) : J p l e R s m args below meth c D A nL Q cells slots ws L pc (va_rf r :: st) := by
  cases r with
  | none => exact fun H locs ls hP hD hS hl => lv_ifnonnullN cx.1 cx.2.1 d (kf rfl H locs ls hP hD hS hl)
  | some x => exact fun H locs ls hP hD hS hl => lv_ifnonnull cx.1 cx.2.1 d ht (kt x rfl H locs ls hP hD hS hl)

theorem J_ifz_eq (cx : CX p l s m args meth c own cc ret nL D g A) {b : Bool} {off : Int} {tgt : Nat} (d : decode cc pc = .ok (.ifCond .eq off, 3)) (ht : (pc : Int) + off = (tgt : Int)) (kt : b = false → J p l e R s m args below meth c D A nL Q cells slots ws L tgt st) (kf : b = true → J p l e R s m args below meth c D A nL Q cells slots ws L (pc + 3) st) : J p l e R s m args below meth c D A nL Q cells slots ws L pc (.int (zb b) :: st) :=
  J_if_eq cx d ht (fun h => kt ((zb_eq0 b).mp h)) (fun h => kf (by rw [zb_eq0] at h; simpa using h))

theorem J_ifz_ne (cx : CX p l s m args meth c own cc ret nL D g A) {b : Bool} {off : Int} {tgt : Nat} (d : decode cc pc = .ok (.ifCond .ne off, 3)) (ht : (pc : Int) + off = (tgt : Int)) (kt : b = true → J p l e R s m args below meth c D A nL Q cells slots ws L tgt st) (kf : b = false → J p l e R s m args below meth c D A nL Q cells slots ws L (pc + 3) st) : J p l e R s m args below meth c D A nL Q cells slots ws L pc (.int (zb b) :: st) :=
  J_if_ne cx d ht (fun h => kt (by rw [zb_eq0] at h; simpa using h)) (fun h => kf ((zb_eq0 b).mp h))

theorem J_top {v v' : Value} (h : v = v') (kk : J p l e R s m args below meth c D A nL Q cells slots ws L pc (v' :: st)) : J p l e R s m args below meth c D A nL Q cells slots ws L pc (v :: st) := h ▸ kk
theorem J_Le {L' : List (Nat × Value)} (h : L = L') (kk : J p l e R s m args below meth c D A nL Q cells slots ws L' pc st) : J p l e R s m args below meth c D A nL Q cells slots ws L pc st := h ▸ kk
theorem J_ws {ws' : va_W} (h : ws = ws') (kk : J p l e R s m args below meth c D A nL Q cells slots ws' L pc st) : J p l e R s m args below meth c D A nL Q cells slots ws L pc st := h ▸ kk
theorem J_L {L' : List (Nat × Value)} (ks : List Nat) (h : lv_pick L ks = L') (kk : J p l e R s m args below meth c D A nL Q cells slots ws L' pc st) : J p l e R s m args below meth c D A nL Q cells slots ws L pc st := fun H locs ls hP hD hS hl => kk H locs ls hP hD hS (lv_sub hl ks h)
theorem J_widen {k n : Nat} (h1 : cells ≤ k) (h2 : slots ≤ n) (kk : J p l e R s m args below meth c D A nL Q k n ws L pc st) : J p l e R s m args below meth c D A nL Q cells slots ws L pc st := fun H locs ls hP hD hS hl => W.widen h1 h2 (kk H locs ls hP hD hS hl)
/-- the world in another order, or less of it -/
theorem J_wsub {ws' : va_W} (hP' : ∀ H, va_P D vwCl ws H → va_P D vwCl ws' H) (hD' : va_D A ws → va_D A ws') (kk : J p l e R s m args below meth c D A nL Q cells slots ws' L pc st) : J p l e R s m args below meth c D A nL Q cells slots ws L pc st := fun H locs ls hP hD hS hl => kk H locs ls (hP' H hP) (hD' hD) hS hl
/-- what the world's addresses tell -/
theorem J_apart (kk : va_D A ws → J p l e R s m args below meth c D A nL Q cells slots ws L pc st) : J p l e R s m args below meth c D A nL Q cells slots ws L pc st := fun H locs ls hP hD hS hl => kk hD H locs ls hP hD hS hl

theorem J_get (cx : CX p l s m args meth c own cc ret nL D g A) {C : String} {T : u_T} {N ci index k a : Nat} {fs : List Value} {v : Value} (gf : GF own index ci k C T N) (q0 : Nat) (he : ws[q0]? = some (a, .inr (ci, fs))) (hv : fs[k]? = some v) (d : decode cc pc = .ok (.getfield index, 3)) (kk : J p l e R s m args below meth c D A nL Q cells slots ws L (pc + 3) (v :: st)) : J p l e R s m args below meth c D A nL Q cells slots ws L pc (.ref a :: st) :=
  fun H locs ls hP hD hS hl => va_get cx.1 cx.2.1 cx.2.2.2.2.2.1 gf.1 cx.2.2.2.2.1 cx.2.2.2.2.2.2.2.1 hP q0 he gf.2.1 k gf.2.2.2 (cx.2.2.2.2.2.1 _ gf.2.2.1) (fun _ h => h) hv d (kk H locs ls hP hD hS hl)

theorem J_put (cx : CX p l s m args meth c own cc ret nL D g A) {C : String} {T : u_T} {N ci index k a : Nat} {fs : List Value} {v : Value} {ty0 : Nat → FieldType} {ty : FieldType} {ws' : va_W} (gf : GF own index ci k C T N) (pf : PF T N k ty0 ty) (hfin : (T k).2.2.2 = false) (q0 : Nat) (he : ws[q0]? = some (a, .inr (ci, fs))) (hn : narrow ty v = v) (hfit : fits ty v = true) (hl : k < fs.length) (hw : ws.set q0 (a, .inr (ci, fs.set k v)) = ws') (d : decode cc pc = .ok (.putfield index, 3)) (kk : J p l e R s m args below meth c D A nL Q cells slots ws' L (pc + 3) st) : J p l e R s m args below meth c D A nL Q cells slots ws L pc (v :: .ref a :: st) :=
  fun H locs ls hP hD hS hl_1 => va_put cx.1 cx.2.1 cx.2.2.2.2.2.1 gf.1 ty0 pf.1 pf.2.1 cx.2.2.2.2.1 cx.2.2.2.2.2.2.2.1 hP hD hS q0 he gf.2.1 k gf.2.2.2 (cx.2.2.2.2.2.1 _ gf.2.2.1) (fun _ h => h) hfin pf.2.2 hn hfit hl d (fun H1 locs1 hP1 hD1 hS1 => kk H1 locs1 ls (hw ▸ hP1) (hw ▸ hD1) hS1 hl_1)

theorem J_putF (cx : CX p l s m args meth c own cc ret nL D g A) {C : String} {T : u_T} {N ci index k a : Nat} {fs : List Value} {v : Value} {ty0 : Nat → FieldType} {ty : FieldType} {ws' : va_W} (gf : GF own index ci k C T N) (pf : PF T N k ty0 ty) (hfin : (T k).2.2.2 = true) (hin2 : meth.name = "<init>") (hdecl : (T k).1 = own) (q0 : Nat) (he : ws[q0]? = some (a, .inr (ci, fs))) (hn : narrow ty v = v) (hfit : fits ty v = true) (hl : k < fs.length) (hw : ws.set q0 (a, .inr (ci, fs.set k v)) = ws') (d : decode cc pc = .ok (.putfield index, 3)) (kk : J p l e R s m args below meth c D A nL Q cells slots ws' L (pc + 3) st) : J p l e R s m args below meth c D A nL Q cells slots ws L pc (v :: .ref a :: st) :=
  fun H locs ls hP hD hS hl_1 => va_putF cx.1 cx.2.1 cx.2.2.2.2.2.1 gf.1 ty0 pf.1 pf.2.1 cx.2.2.2.2.1 cx.2.2.2.2.2.2.2.1 hP hD hS q0 he gf.2.1 k gf.2.2.2 (cx.2.2.2.2.2.1 _ gf.2.2.1) (fun _ h => h) hfin hin2 hdecl pf.2.2 hn hfit hl d (fun H1 locs1 hP1 hD1 hS1 => kk H1 locs1 ls (hw ▸ hP1) (hw ▸ hD1) hS1 hl_1)

theorem J_iald (cx : CX p l s m args meth c own cc ret nL D g A) {a n j : Nat} {f : Nat → Int32} {i : Int32} (q0 : Nat) (he : ws[q0]? = some (a, .inl (g 0, n, .inl f))) (hi : i = nI j) (hj : j < n) (hn : n < 2 ^ 31) (d : decode cc pc = .ok (.iaload, 1)) (kk : J p l e R s m args below meth c D A nL Q cells slots ws L (pc + 1) (.int (f j) :: st)) : J p l e R s m args below meth c D A nL Q cells slots ws L pc (.int i :: .ref a :: st) := by
  subst hi
  intro H locs ls hP hD hS hl
  refine va_iald cx.1 cx.2.1 cx.2.2.2.2.2.2.2.1 hP q0 0 he rfl (vp_in_nI hj hn) d ?_
  rw [nI_clamp (Nat.lt_trans hj hn)]
  exact kk H locs ls hP hD hS hl

theorem J_lald (cx : CX p l s m args meth c own cc ret nL D g A) {a n j : Nat} {f : Nat → Int64} {i : Int32} (q0 : Nat) (he : ws[q0]? = some (a, .inl (g 1, n, .inr (.inl f)))) (hi : i = nI j) (hj : j < n) (hn : n < 2 ^ 31) (d : decode cc pc = .ok (.laload, 1)) (kk : J p l e R s m args below meth c D A nL Q cells slots ws L (pc + 1) (.long (f j) :: st)) : J p l e R s m args below meth c D A nL Q cells slots ws L pc (.int i :: .ref a :: st) := by
  subst hi
  intro H locs ls hP hD hS hl
  refine va_lald cx.1 cx.2.1 cx.2.2.2.2.2.2.2.1 hP q0 1 he rfl (vp_in_nI hj hn) d ?_
  rw [nI_clamp (Nat.lt_trans hj hn)]
  exact kk H locs ls hP hD hS hl

theorem J_zald (cx : CX p l s m args meth c own cc ret nL D g A) {a n j : Nat} {f : Nat → Int32} {i : Int32} (q0 : Nat) (he : ws[q0]? = some (a, .inl (g 2, n, .inl f))) (hi : i = nI j) (hj : j < n) (hn : n < 2 ^ 31) (d : decode cc pc = .ok (.baload, 1)) (kk : J p l e R s m args below meth c D A nL Q cells slots ws L (pc + 1) (.int (f j) :: st)) : J p l e R s m args below meth c D A nL Q cells slots ws L pc (.int i :: .ref a :: st) := by
  subst hi
  intro H locs ls hP hD hS hl
  refine va_zald cx.1 cx.2.1 cx.2.2.2.2.2.2.2.1 hP q0 2 he rfl (vp_in_nI hj hn) d ?_
  rw [nI_clamp (Nat.lt_trans hj hn)]
  exact kk H locs ls hP hD hS hl

theorem J_aald (cx : CX p l s m args meth c own cc ret nL D g A) {a n j : Nat} {f : Nat → Option Nat} {i : Int32} (q0 : Nat) (he : ws[q0]? = some (a, .inl (g 3, n, .inr (.inr (.inr (.inr f)))))) (hi : i = nI j) (hj : j < n) (hn : n < 2 ^ 31) (d : decode cc pc = .ok (.aaload, 1)) (kk : J p l e R s m args below meth c D A nL Q cells slots ws L (pc + 1) (va_rf (f j) :: st)) : J p l e R s m args below meth c D A nL Q cells slots ws L pc (.int i :: .ref a :: st) := by
  subst hi
  intro H locs ls hP hD hS hl
  refine va_aldq (C := "Certhold$Certificate") cx.1 cx.2.1 cx.2.2.2.2.2.2.2.1 hP q0 3 he rfl (vp_in_nI hj hn) d ?_
  rw [nI_clamp (Nat.lt_trans hj hn)]
  exact kk H locs ls hP hD hS hl

theorem J_alen (cx : CX p l s m args meth c own cc ret nL D g A) {a : Nat} {t0 : Nat} {cA : ClassId} {x : vp_A} {ty : FieldType} {v : Int32} (q0 : Nat) (he : ws[q0]? = some (a, .inl (cA, x))) (ht : (tysA g)[t0]? = some (cA, ty)) (hv : Int32.ofNat x.1 = v) (d : decode cc pc = .ok (.arraylength, 1)) (kk : J p l e R s m args below meth c D A nL Q cells slots ws L (pc + 1) (.int v :: st)) : J p l e R s m args below meth c D A nL Q cells slots ws L pc (.ref a :: st) :=
  fun H locs ls hP hD hS hl => va_alen cx.1 cx.2.1 cx.2.2.2.2.2.2.2.1 hP q0 t0 he ht hv d (kk H locs ls hP hD hS hl)

theorem J_iret (cx : CX p l s m args meth c own cc ret nL D g A) {mc ms : Nat} {S : Type} {W' : S → va_W} {post : Int32 → S → Prop} (hr : ret = some .int) {v : Int32} {u : S} (hp : post v u) (hw : ws = W' u) (hc : cells ≤ mc) (hs : slots ≤ ms) (d : decode cc pc = .ok (.ireturn, 1)) : J p l e R s m args below meth c D A nL (MQ below (va_Qi post (fun u => PO D A (W' u)) A) args s mc ms A) cells slots ws L pc [.int v] := by
  intro H locs ls hP hD hS hl
  subst hw
  refine W.widen hc hs ?_
  exact W.iret cx.1 cx.2.1 (cx.2.2.1.trans hr) (fun t ht hW => ⟨⟨v, u, rfl, hp, ⟨by rw [ht]; exact hP, hD⟩⟩, hS.F ht⟩) hS.2.2 d cx.2.2.2.2.2.2.1

theorem J_zret (cx : CX p l s m args meth c own cc ret nL D g A) {mc ms : Nat} {S : Type} {W' : S → va_W} {post : Int32 → S → Prop} {ty : FieldType} (hr : ret = some ty) {v : Int32} {u : S} (hn : narrow ty (.int v) = .int v) (hp : post v u) (hw : ws = W' u) (hc : cells ≤ mc) (hs : slots ≤ ms) (d : decode cc pc = .ok (.ireturn, 1)) : J p l e R s m args below meth c D A nL (MQ below (va_Qi post (fun u => PO D A (W' u)) A) args s mc ms A) cells slots ws L pc [.int v] := by
  intro H locs ls hP hD hS hl
  subst hw
  refine W.widen hc hs ?_
  exact W.zret cx.1 cx.2.1 (cx.2.2.1.trans hr) hn (fun t ht hW => ⟨⟨v, u, rfl, hp, ⟨by rw [ht]; exact hP, hD⟩⟩, hS.F ht⟩) hS.2.2 d cx.2.2.2.2.2.2.1

theorem J_lret (cx : CX p l s m args meth c own cc ret nL D g A) {mc ms : Nat} {S : Type} {W' : S → va_W} {post : Int64 → S → Prop} (hr : ret = some .long) {v : Int64} {u : S} (hp : post v u) (hw : ws = W' u) (hc : cells ≤ mc) (hs : slots ≤ ms) (d : decode cc pc = .ok (.lreturn, 1)) : J p l e R s m args below meth c D A nL (MQ below (va_Ql post (fun u => PO D A (W' u)) A) args s mc ms A) cells slots ws L pc [.long v] := by
  intro H locs ls hP hD hS hl
  subst hw
  refine W.widen hc hs ?_
  exact W.lret cx.1 cx.2.1 (cx.2.2.1.trans hr) (fun t ht hW => ⟨⟨v, u, rfl, hp, ⟨by rw [ht]; exact hP, hD⟩⟩, hS.F ht⟩) hS.2.2 d cx.2.2.2.2.2.2.1

theorem J_fret (cx : CX p l s m args meth c own cc ret nL D g A) {mc ms : Nat} {S : Type} {W' : S → va_W} {post : UInt32 → S → Prop} (hr : ret = some .float) {v : UInt32} {u : S} (hp : post v u) (hw : ws = W' u) (hc : cells ≤ mc) (hs : slots ≤ ms) (d : decode cc pc = .ok (.freturn, 1)) : J p l e R s m args below meth c D A nL (MQ below (va_Qf post (fun u => PO D A (W' u)) A) args s mc ms A) cells slots ws L pc [.float v] := by
  intro H locs ls hP hD hS hl
  subst hw
  refine W.widen hc hs ?_
  exact W.fret cx.1 cx.2.1 (cx.2.2.1.trans hr) (fun t ht hW => ⟨⟨v, u, rfl, hp, ⟨by rw [ht]; exact hP, hD⟩⟩, hS.F ht⟩) hS.2.2 d cx.2.2.2.2.2.2.1

theorem J_dret (cx : CX p l s m args meth c own cc ret nL D g A) {mc ms : Nat} {S : Type} {W' : S → va_W} {post : UInt64 → S → Prop} (hr : ret = some .double) {v : UInt64} {u : S} (hp : post v u) (hw : ws = W' u) (hc : cells ≤ mc) (hs : slots ≤ ms) (d : decode cc pc = .ok (.dreturn, 1)) : J p l e R s m args below meth c D A nL (MQ below (va_Qd post (fun u => PO D A (W' u)) A) args s mc ms A) cells slots ws L pc [.double v] := by
  intro H locs ls hP hD hS hl
  subst hw
  refine W.widen hc hs ?_
  exact W.dret cx.1 cx.2.1 (cx.2.2.1.trans hr) (fun t ht hW => ⟨⟨v, u, rfl, hp, ⟨by rw [ht]; exact hP, hD⟩⟩, hS.F ht⟩) hS.2.2 d cx.2.2.2.2.2.2.1

theorem J_vret (cx : CX p l s m args meth c own cc ret nL D g A) {mc ms : Nat} {S : Type} {W' : S → va_W} {post : S → Prop} (hr : ret = none) {u : S} (hp : post u) (hw : ws = W' u) (hc : cells ≤ mc) (hs : slots ≤ ms) (d : decode cc pc = .ok (.return_, 1)) : J p l e R s m args below meth c D A nL (MQ below (va_Qv post (fun u => PO D A (W' u)) A) args s mc ms A) cells slots ws L pc [] := by
  intro H locs ls hP hD hS hl
  subst hw
  refine W.widen hc hs ?_
  exact W.vret cx.1 cx.2.1 (cx.2.2.1.trans hr) (fun t ht hW => ⟨⟨u, rfl, hp, ⟨by rw [ht]; exact hP, hD⟩⟩, hS.F ht⟩) hS.2.2 d cx.2.2.2.2.2.2.1

theorem J_qret (cx : CX p l s m args meth c own cc ret nL D g A) {mc ms : Nat} {S : Type} {W' : S → va_W} {post : Option Nat → S → Prop} {cn : String} (hr : ret = some (.object cn)) {v : Option Nat} {u : S} (hp : post v u) (hw : ws = W' u) (hc : cells ≤ mc) (hs : slots ≤ ms) (d : decode cc pc = .ok (.areturn, 1)) : J p l e R s m args below meth c D A nL (MQ below (va_Qq post (fun u => PO D A (W' u)) A) args s mc ms A) cells slots ws L pc [va_rf v] := by
  intro H locs ls hP hD hS hl
  subst hw
  refine W.widen hc hs ?_
  exact W.aret cx.1 cx.2.1 (cx.2.2.1.trans hr) (Or.inl ⟨cn, rfl⟩) (va_rf_or v) (fun t ht hW => ⟨⟨v, u, rfl, hp, ⟨by rw [ht]; exact hP, hD⟩⟩, hS.F ht⟩) hS.2.2 d cx.2.2.2.2.2.2.1

theorem J_rret (cx : CX p l s m args meth c own cc ret nL D g A) {mc ms : Nat} {S : Type} {W' : S → Nat → va_W} {post : S → Prop} {cn : String} (hr : ret = some (.object cn)) {v : Nat} {u : S} (hp : post u) (hw : ws = W' u v) (hc : cells ≤ mc) (hs : slots ≤ ms) (d : decode cc pc = .ok (.areturn, 1)) : J p l e R s m args below meth c D A nL (MQ below (va_Qr post (fun u v => PO D A (W' u v)) A) args s mc ms A) cells slots ws L pc [.ref v] := by
  intro H locs ls hP hD hS hl
  subst hw
  refine W.widen hc hs ?_
  exact W.aret cx.1 cx.2.1 (cx.2.2.1.trans hr) (Or.inl ⟨cn, rfl⟩) (Or.inr ⟨v, rfl⟩) (fun t ht hW => ⟨⟨u, v, rfl, hp, ⟨by rw [ht]; exact hP, hD⟩⟩, hS.F ht⟩) hS.2.2 d cx.2.2.2.2.2.2.1

theorem J_x {Qc : Array Value → State → Outcome → State → Prop} {XC : String → State → State → Prop} {mc ms : Nat} (kk : J p l e R s m args below meth c D A nL (MQ below Qc args s mc ms A) cells slots ws L pc st) : J p l e R s m args below meth c D A nL (vx_MQ below Qc XC args s mc ms A) cells slots ws L pc st := fun H locs ls hP hD hS hl => vx_ret (kk H locs ls hP hD hS hl)

theorem J_callVi (cx : CX p l s m args meth c own cc ret nL D g A) {idx maxL n mc ms : Nat} {y : MethodName} {bytes : ByteArray} {retc : Option FieldType} {b : Nat} (kw : VW own idx y bytes maxL retc n) {rm : Room} {As st0 : List Value} {S : Type} {post : Int32 → S → Prop} {W' : S → va_W} (hM : Met l y (wsA y bytes maxL retc) rm (va_Pc (.ref b :: As) (PRE D g A ws)) (va_Qi post (fun u => PO D A (W' u)) A) mc ms A) (hrm : rm.cells = mc ∧ rm.slots = ms ∧ rm.frames + 1 ≤ R.frames ∧ 8 + (maxL + 11) + rm.locals ≤ R.locals) (hf : cells + mc ≤ R.cells ∧ slots + ms ≤ R.slots) (hn : As.length = n) (q0 : Nat) {ci N : Nat} {fs : List Value} {T : u_T} (he : ws[q0]? = some (b, .inr (ci, fs))) (hc : vwCl[ci]? = some (y.cls, T, N)) (hst : st0 = As.reverse ++ .ref b :: st) (hcat : (st.map fun v => v.category).sum ≤ 8) (d : decode cc pc = .ok (.invokevirtual idx, 3)) (kk : ∀ (r : Int32) (u : S), post r u → J p l e R s m args below meth c D A nL Q (cells + mc) (slots + ms) (W' u) L (pc + 3) (.int r :: st)) : J p l e R s m args below meth c D A nL Q cells slots ws L pc st0 := by
  intro H locs ls hP hD hS hl
  subst hst
  exact va_calli (va_runV (C := y.cls) (As := As) (rest := st) ⟨cx.1, cx.2.1, cx.2.2.2.1, cx.2.2.2.2.1, cx.2.2.2.2.2.1⟩ hM ⟨callB_of n cx.2.2.2.2.2.1 (gA kw.2.2.2.2.1) rfl hrm.1 hrm.2.1 (cx.2.2.2.2.2.1 _ kw.2.2.2.1) (cx.2.2.2.2.2.1 _ kw.1) kw.2.2.2.2.2 ⟨hrm.2.2.1, hrm.2.2.2⟩, cx.2.2.2.2.2.1 _ kw.2.1, cx.2.2.2.2.2.1 _ kw.2.2.1⟩ ⟨PRE.fblind, va_recv cx.2.2.2.2.2.2.2.1 hP hc he, fun U hU hW => ⟨rfl, by rw [hU]; exact hP, va_K.moved hW.alike cx.2.2.2.2.2.2.2.1, hD, fun q hq => cx.2.2.2.2.2.2.2.2.1 q (Nat.le_trans hS.1 (by rw [← hU]; exact hq)), cx.2.2.2.2.2.2.2.2.2.moved hS hU hW⟩⟩ rfl hn hl.1 rfl (lv_room hcat) d hf) hS (fun _ _ h => h) (fun _ h => h) (fun r u t H1 locs1 ht hvm hw hB _ _ hS1 => kk r u hw H1 locs1 ls (ht ▸ hB.1) hB.2 hS1 hl)

theorem J_callVl (cx : CX p l s m args meth c own cc ret nL D g A) {idx maxL n mc ms : Nat} {y : MethodName} {bytes : ByteArray} {retc : Option FieldType} {b : Nat} (kw : VW own idx y bytes maxL retc n) {rm : Room} {As st0 : List Value} {S : Type} {post : Int64 → S → Prop} {W' : S → va_W} (hM : Met l y (wsA y bytes maxL retc) rm (va_Pc (.ref b :: As) (PRE D g A ws)) (va_Ql post (fun u => PO D A (W' u)) A) mc ms A) (hrm : rm.cells = mc ∧ rm.slots = ms ∧ rm.frames + 1 ≤ R.frames ∧ 8 + (maxL + 11) + rm.locals ≤ R.locals) (hf : cells + mc ≤ R.cells ∧ slots + ms ≤ R.slots) (hn : As.length = n) (q0 : Nat) {ci N : Nat} {fs : List Value} {T : u_T} (he : ws[q0]? = some (b, .inr (ci, fs))) (hc : vwCl[ci]? = some (y.cls, T, N)) (hst : st0 = As.reverse ++ .ref b :: st) (hcat : (st.map fun v => v.category).sum ≤ 8) (d : decode cc pc = .ok (.invokevirtual idx, 3)) (kk : ∀ (r : Int64) (u : S), post r u → J p l e R s m args below meth c D A nL Q (cells + mc) (slots + ms) (W' u) L (pc + 3) (.long r :: st)) : J p l e R s m args below meth c D A nL Q cells slots ws L pc st0 := by
  intro H locs ls hP hD hS hl
  subst hst
  exact va_calll (va_runV (C := y.cls) (As := As) (rest := st) ⟨cx.1, cx.2.1, cx.2.2.2.1, cx.2.2.2.2.1, cx.2.2.2.2.2.1⟩ hM ⟨callB_of n cx.2.2.2.2.2.1 (gA kw.2.2.2.2.1) rfl hrm.1 hrm.2.1 (cx.2.2.2.2.2.1 _ kw.2.2.2.1) (cx.2.2.2.2.2.1 _ kw.1) kw.2.2.2.2.2 ⟨hrm.2.2.1, hrm.2.2.2⟩, cx.2.2.2.2.2.1 _ kw.2.1, cx.2.2.2.2.2.1 _ kw.2.2.1⟩ ⟨PRE.fblind, va_recv cx.2.2.2.2.2.2.2.1 hP hc he, fun U hU hW => ⟨rfl, by rw [hU]; exact hP, va_K.moved hW.alike cx.2.2.2.2.2.2.2.1, hD, fun q hq => cx.2.2.2.2.2.2.2.2.1 q (Nat.le_trans hS.1 (by rw [← hU]; exact hq)), cx.2.2.2.2.2.2.2.2.2.moved hS hU hW⟩⟩ rfl hn hl.1 rfl (lv_room hcat) d hf) hS (fun _ _ h => h) (fun _ h => h) (fun r u t H1 locs1 ht hvm hw hB _ _ hS1 => kk r u hw H1 locs1 ls (ht ▸ hB.1) hB.2 hS1 hl)

theorem J_callVf (cx : CX p l s m args meth c own cc ret nL D g A) {idx maxL n mc ms : Nat} {y : MethodName} {bytes : ByteArray} {retc : Option FieldType} {b : Nat} (kw : VW own idx y bytes maxL retc n) {rm : Room} {As st0 : List Value} {S : Type} {post : UInt32 → S → Prop} {W' : S → va_W} (hM : Met l y (wsA y bytes maxL retc) rm (va_Pc (.ref b :: As) (PRE D g A ws)) (va_Qf post (fun u => PO D A (W' u)) A) mc ms A) (hrm : rm.cells = mc ∧ rm.slots = ms ∧ rm.frames + 1 ≤ R.frames ∧ 8 + (maxL + 11) + rm.locals ≤ R.locals) (hf : cells + mc ≤ R.cells ∧ slots + ms ≤ R.slots) (hn : As.length = n) (q0 : Nat) {ci N : Nat} {fs : List Value} {T : u_T} (he : ws[q0]? = some (b, .inr (ci, fs))) (hc : vwCl[ci]? = some (y.cls, T, N)) (hst : st0 = As.reverse ++ .ref b :: st) (hcat : (st.map fun v => v.category).sum ≤ 8) (d : decode cc pc = .ok (.invokevirtual idx, 3)) (kk : ∀ (r : UInt32) (u : S), post r u → J p l e R s m args below meth c D A nL Q (cells + mc) (slots + ms) (W' u) L (pc + 3) (.float r :: st)) : J p l e R s m args below meth c D A nL Q cells slots ws L pc st0 := by
  intro H locs ls hP hD hS hl
  subst hst
  exact va_callf (va_runV (C := y.cls) (As := As) (rest := st) ⟨cx.1, cx.2.1, cx.2.2.2.1, cx.2.2.2.2.1, cx.2.2.2.2.2.1⟩ hM ⟨callB_of n cx.2.2.2.2.2.1 (gA kw.2.2.2.2.1) rfl hrm.1 hrm.2.1 (cx.2.2.2.2.2.1 _ kw.2.2.2.1) (cx.2.2.2.2.2.1 _ kw.1) kw.2.2.2.2.2 ⟨hrm.2.2.1, hrm.2.2.2⟩, cx.2.2.2.2.2.1 _ kw.2.1, cx.2.2.2.2.2.1 _ kw.2.2.1⟩ ⟨PRE.fblind, va_recv cx.2.2.2.2.2.2.2.1 hP hc he, fun U hU hW => ⟨rfl, by rw [hU]; exact hP, va_K.moved hW.alike cx.2.2.2.2.2.2.2.1, hD, fun q hq => cx.2.2.2.2.2.2.2.2.1 q (Nat.le_trans hS.1 (by rw [← hU]; exact hq)), cx.2.2.2.2.2.2.2.2.2.moved hS hU hW⟩⟩ rfl hn hl.1 rfl (lv_room hcat) d hf) hS (fun _ _ h => h) (fun _ h => h) (fun r u t H1 locs1 ht hvm hw hB _ _ hS1 => kk r u hw H1 locs1 ls (ht ▸ hB.1) hB.2 hS1 hl)

theorem J_callVd (cx : CX p l s m args meth c own cc ret nL D g A) {idx maxL n mc ms : Nat} {y : MethodName} {bytes : ByteArray} {retc : Option FieldType} {b : Nat} (kw : VW own idx y bytes maxL retc n) {rm : Room} {As st0 : List Value} {S : Type} {post : UInt64 → S → Prop} {W' : S → va_W} (hM : Met l y (wsA y bytes maxL retc) rm (va_Pc (.ref b :: As) (PRE D g A ws)) (va_Qd post (fun u => PO D A (W' u)) A) mc ms A) (hrm : rm.cells = mc ∧ rm.slots = ms ∧ rm.frames + 1 ≤ R.frames ∧ 8 + (maxL + 11) + rm.locals ≤ R.locals) (hf : cells + mc ≤ R.cells ∧ slots + ms ≤ R.slots) (hn : As.length = n) (q0 : Nat) {ci N : Nat} {fs : List Value} {T : u_T} (he : ws[q0]? = some (b, .inr (ci, fs))) (hc : vwCl[ci]? = some (y.cls, T, N)) (hst : st0 = As.reverse ++ .ref b :: st) (hcat : (st.map fun v => v.category).sum ≤ 8) (d : decode cc pc = .ok (.invokevirtual idx, 3)) (kk : ∀ (r : UInt64) (u : S), post r u → J p l e R s m args below meth c D A nL Q (cells + mc) (slots + ms) (W' u) L (pc + 3) (.double r :: st)) : J p l e R s m args below meth c D A nL Q cells slots ws L pc st0 := by
  intro H locs ls hP hD hS hl
  subst hst
  exact va_calld (va_runV (C := y.cls) (As := As) (rest := st) ⟨cx.1, cx.2.1, cx.2.2.2.1, cx.2.2.2.2.1, cx.2.2.2.2.2.1⟩ hM ⟨callB_of n cx.2.2.2.2.2.1 (gA kw.2.2.2.2.1) rfl hrm.1 hrm.2.1 (cx.2.2.2.2.2.1 _ kw.2.2.2.1) (cx.2.2.2.2.2.1 _ kw.1) kw.2.2.2.2.2 ⟨hrm.2.2.1, hrm.2.2.2⟩, cx.2.2.2.2.2.1 _ kw.2.1, cx.2.2.2.2.2.1 _ kw.2.2.1⟩ ⟨PRE.fblind, va_recv cx.2.2.2.2.2.2.2.1 hP hc he, fun U hU hW => ⟨rfl, by rw [hU]; exact hP, va_K.moved hW.alike cx.2.2.2.2.2.2.2.1, hD, fun q hq => cx.2.2.2.2.2.2.2.2.1 q (Nat.le_trans hS.1 (by rw [← hU]; exact hq)), cx.2.2.2.2.2.2.2.2.2.moved hS hU hW⟩⟩ rfl hn hl.1 rfl (lv_room hcat) d hf) hS (fun _ _ h => h) (fun _ h => h) (fun r u t H1 locs1 ht hvm hw hB _ _ hS1 => kk r u hw H1 locs1 ls (ht ▸ hB.1) hB.2 hS1 hl)

theorem J_callVv (cx : CX p l s m args meth c own cc ret nL D g A) {idx maxL n mc ms : Nat} {y : MethodName} {bytes : ByteArray} {retc : Option FieldType} {b : Nat} (kw : VW own idx y bytes maxL retc n) {rm : Room} {As st0 : List Value} {S : Type} {post : S → Prop} {W' : S → va_W} (hM : Met l y (wsA y bytes maxL retc) rm (va_Pc (.ref b :: As) (PRE D g A ws)) (va_Qv post (fun u => PO D A (W' u)) A) mc ms A) (hrm : rm.cells = mc ∧ rm.slots = ms ∧ rm.frames + 1 ≤ R.frames ∧ 8 + (maxL + 11) + rm.locals ≤ R.locals) (hf : cells + mc ≤ R.cells ∧ slots + ms ≤ R.slots) (hn : As.length = n) (q0 : Nat) {ci N : Nat} {fs : List Value} {T : u_T} (he : ws[q0]? = some (b, .inr (ci, fs))) (hc : vwCl[ci]? = some (y.cls, T, N)) (hst : st0 = As.reverse ++ .ref b :: st) (hcat : (st.map fun v => v.category).sum ≤ 8) (d : decode cc pc = .ok (.invokevirtual idx, 3)) (kk : ∀ (u : S), post u → J p l e R s m args below meth c D A nL Q (cells + mc) (slots + ms) (W' u) L (pc + 3) st) : J p l e R s m args below meth c D A nL Q cells slots ws L pc st0 := by
  intro H locs ls hP hD hS hl
  subst hst
  exact va_callv (va_runV (C := y.cls) (As := As) (rest := st) ⟨cx.1, cx.2.1, cx.2.2.2.1, cx.2.2.2.2.1, cx.2.2.2.2.2.1⟩ hM ⟨callB_of n cx.2.2.2.2.2.1 (gA kw.2.2.2.2.1) rfl hrm.1 hrm.2.1 (cx.2.2.2.2.2.1 _ kw.2.2.2.1) (cx.2.2.2.2.2.1 _ kw.1) kw.2.2.2.2.2 ⟨hrm.2.2.1, hrm.2.2.2⟩, cx.2.2.2.2.2.1 _ kw.2.1, cx.2.2.2.2.2.1 _ kw.2.2.1⟩ ⟨PRE.fblind, va_recv cx.2.2.2.2.2.2.2.1 hP hc he, fun U hU hW => ⟨rfl, by rw [hU]; exact hP, va_K.moved hW.alike cx.2.2.2.2.2.2.2.1, hD, fun q hq => cx.2.2.2.2.2.2.2.2.1 q (Nat.le_trans hS.1 (by rw [← hU]; exact hq)), cx.2.2.2.2.2.2.2.2.2.moved hS hU hW⟩⟩ rfl hn hl.1 rfl (lv_room hcat) d hf) hS (fun _ _ h => h) (fun _ h => h) (fun u t H1 locs1 ht hvm hw hB _ _ hS1 => kk u hw H1 locs1 ls (ht ▸ hB.1) hB.2 hS1 hl)

theorem J_callVq (cx : CX p l s m args meth c own cc ret nL D g A) {idx maxL n mc ms : Nat} {y : MethodName} {bytes : ByteArray} {retc : Option FieldType} {b : Nat} (kw : VW own idx y bytes maxL retc n) {rm : Room} {As st0 : List Value} {S : Type} {post : Option Nat → S → Prop} {W' : S → va_W} (hM : Met l y (wsA y bytes maxL retc) rm (va_Pc (.ref b :: As) (PRE D g A ws)) (va_Qq post (fun u => PO D A (W' u)) A) mc ms A) (hrm : rm.cells = mc ∧ rm.slots = ms ∧ rm.frames + 1 ≤ R.frames ∧ 8 + (maxL + 11) + rm.locals ≤ R.locals) (hf : cells + mc ≤ R.cells ∧ slots + ms ≤ R.slots) (hn : As.length = n) (q0 : Nat) {ci N : Nat} {fs : List Value} {T : u_T} (he : ws[q0]? = some (b, .inr (ci, fs))) (hc : vwCl[ci]? = some (y.cls, T, N)) (hst : st0 = As.reverse ++ .ref b :: st) (hcat : (st.map fun v => v.category).sum ≤ 8) (d : decode cc pc = .ok (.invokevirtual idx, 3)) (kk : ∀ (r : Option Nat) (u : S), post r u → J p l e R s m args below meth c D A nL Q (cells + mc) (slots + ms) (W' u) L (pc + 3) (va_rf r :: st)) : J p l e R s m args below meth c D A nL Q cells slots ws L pc st0 := by
  intro H locs ls hP hD hS hl
  subst hst
  exact va_callq (va_runV (C := y.cls) (As := As) (rest := st) ⟨cx.1, cx.2.1, cx.2.2.2.1, cx.2.2.2.2.1, cx.2.2.2.2.2.1⟩ hM ⟨callB_of n cx.2.2.2.2.2.1 (gA kw.2.2.2.2.1) rfl hrm.1 hrm.2.1 (cx.2.2.2.2.2.1 _ kw.2.2.2.1) (cx.2.2.2.2.2.1 _ kw.1) kw.2.2.2.2.2 ⟨hrm.2.2.1, hrm.2.2.2⟩, cx.2.2.2.2.2.1 _ kw.2.1, cx.2.2.2.2.2.1 _ kw.2.2.1⟩ ⟨PRE.fblind, va_recv cx.2.2.2.2.2.2.2.1 hP hc he, fun U hU hW => ⟨rfl, by rw [hU]; exact hP, va_K.moved hW.alike cx.2.2.2.2.2.2.2.1, hD, fun q hq => cx.2.2.2.2.2.2.2.2.1 q (Nat.le_trans hS.1 (by rw [← hU]; exact hq)), cx.2.2.2.2.2.2.2.2.2.moved hS hU hW⟩⟩ rfl hn hl.1 rfl (lv_room hcat) d hf) hS (fun _ _ h => h) (fun _ h => h) (fun r u t H1 locs1 ht hvm hw hB _ _ hS1 => kk r u hw H1 locs1 ls (ht ▸ hB.1) hB.2 hS1 hl)

theorem J_callVr (cx : CX p l s m args meth c own cc ret nL D g A) {idx maxL n mc ms : Nat} {y : MethodName} {bytes : ByteArray} {retc : Option FieldType} {b : Nat} (kw : VW own idx y bytes maxL retc n) {rm : Room} {As st0 : List Value} {S : Type} {post : S → Prop} {W' : S → Nat → va_W} (hM : Met l y (wsA y bytes maxL retc) rm (va_Pc (.ref b :: As) (PRE D g A ws)) (va_Qr post (fun u r => PO D A (W' u r)) A) mc ms A) (hrm : rm.cells = mc ∧ rm.slots = ms ∧ rm.frames + 1 ≤ R.frames ∧ 8 + (maxL + 11) + rm.locals ≤ R.locals) (hf : cells + mc ≤ R.cells ∧ slots + ms ≤ R.slots) (hn : As.length = n) (q0 : Nat) {ci N : Nat} {fs : List Value} {T : u_T} (he : ws[q0]? = some (b, .inr (ci, fs))) (hc : vwCl[ci]? = some (y.cls, T, N)) (hst : st0 = As.reverse ++ .ref b :: st) (hcat : (st.map fun v => v.category).sum ≤ 8) (d : decode cc pc = .ok (.invokevirtual idx, 3)) (kk : ∀ (u : S) (r : Nat), post u → J p l e R s m args below meth c D A nL Q (cells + mc) (slots + ms) (W' u r) L (pc + 3) (.ref r :: st)) : J p l e R s m args below meth c D A nL Q cells slots ws L pc st0 := by
  intro H locs ls hP hD hS hl
  subst hst
  exact va_callr (va_runV (C := y.cls) (As := As) (rest := st) ⟨cx.1, cx.2.1, cx.2.2.2.1, cx.2.2.2.2.1, cx.2.2.2.2.2.1⟩ hM ⟨callB_of n cx.2.2.2.2.2.1 (gA kw.2.2.2.2.1) rfl hrm.1 hrm.2.1 (cx.2.2.2.2.2.1 _ kw.2.2.2.1) (cx.2.2.2.2.2.1 _ kw.1) kw.2.2.2.2.2 ⟨hrm.2.2.1, hrm.2.2.2⟩, cx.2.2.2.2.2.1 _ kw.2.1, cx.2.2.2.2.2.1 _ kw.2.2.1⟩ ⟨PRE.fblind, va_recv cx.2.2.2.2.2.2.2.1 hP hc he, fun U hU hW => ⟨rfl, by rw [hU]; exact hP, va_K.moved hW.alike cx.2.2.2.2.2.2.2.1, hD, fun q hq => cx.2.2.2.2.2.2.2.2.1 q (Nat.le_trans hS.1 (by rw [← hU]; exact hq)), cx.2.2.2.2.2.2.2.2.2.moved hS hU hW⟩⟩ rfl hn hl.1 rfl (lv_room hcat) d hf) hS (fun _ _ h => h) (fun _ h => h) (fun u r t H1 locs1 ht hvm hw hB _ _ hS1 => kk u r hw H1 locs1 ls (ht ▸ hB.1) hB.2 hS1 hl)

theorem J_callSi (cx : CX p l s m args meth c own cc ret nL D g A) {idx maxL n mc ms : Nat} {y : MethodName} {bytes : ByteArray} {retc : Option FieldType} (kw : SW own idx y bytes maxL retc n) {rm : Room} {As st0 : List Value} {S : Type} {post : Int32 → S → Prop} {W' : S → va_W} (hM : Met l y (wsA y bytes maxL retc) rm (va_Pc As (PRE D g A ws)) (va_Qi post (fun u => PO D A (W' u)) A) mc ms A) (hrm : rm.cells = mc ∧ rm.slots = ms ∧ rm.frames + 1 ≤ R.frames ∧ 8 + (maxL + 11) + rm.locals ≤ R.locals) (hf : cells + mc ≤ R.cells ∧ slots + ms ≤ R.slots) (hn : As.length = n)  (hst : st0 = As.reverse ++ st) (hcat : (st.map fun v => v.category).sum ≤ 8) (d : decode cc pc = .ok (.invokestatic idx, 3)) (kk : ∀ (r : Int32) (u : S), post r u → J p l e R s m args below meth c D A nL Q (cells + mc) (slots + ms) (W' u) L (pc + 3) (.int r :: st)) : J p l e R s m args below meth c D A nL Q cells slots ws L pc st0 := by
  intro H locs ls hP hD hS hl
  subst hst
  exact va_calli (va_runS (As := As) (rest := st) ⟨cx.1, cx.2.1, cx.2.2.2.1, cx.2.2.2.2.1, cx.2.2.2.2.2.1⟩ hM ⟨callB_of n cx.2.2.2.2.2.1 (gA kw.2.2.2.1) rfl hrm.1 hrm.2.1 (cx.2.2.2.2.2.1 _ kw.2.2.1) (cx.2.2.2.2.2.1 _ kw.1) kw.2.2.2.2 ⟨hrm.2.2.1, hrm.2.2.2⟩, cx.2.2.2.2.2.1 _ kw.2.1⟩ ⟨PRE.fblind, fun U hU hW => ⟨rfl, by rw [hU]; exact hP, va_K.moved hW.alike cx.2.2.2.2.2.2.2.1, hD, fun q hq => cx.2.2.2.2.2.2.2.2.1 q (Nat.le_trans hS.1 (by rw [← hU]; exact hq)), cx.2.2.2.2.2.2.2.2.2.moved hS hU hW⟩⟩ rfl hn hl.1 rfl (lv_room hcat) d hf) hS (fun _ _ h => h) (fun _ h => h) (fun r u t H1 locs1 ht hvm hw hB _ _ hS1 => kk r u hw H1 locs1 ls (ht ▸ hB.1) hB.2 hS1 hl)

theorem J_callSl (cx : CX p l s m args meth c own cc ret nL D g A) {idx maxL n mc ms : Nat} {y : MethodName} {bytes : ByteArray} {retc : Option FieldType} (kw : SW own idx y bytes maxL retc n) {rm : Room} {As st0 : List Value} {S : Type} {post : Int64 → S → Prop} {W' : S → va_W} (hM : Met l y (wsA y bytes maxL retc) rm (va_Pc As (PRE D g A ws)) (va_Ql post (fun u => PO D A (W' u)) A) mc ms A) (hrm : rm.cells = mc ∧ rm.slots = ms ∧ rm.frames + 1 ≤ R.frames ∧ 8 + (maxL + 11) + rm.locals ≤ R.locals) (hf : cells + mc ≤ R.cells ∧ slots + ms ≤ R.slots) (hn : As.length = n)  (hst : st0 = As.reverse ++ st) (hcat : (st.map fun v => v.category).sum ≤ 8) (d : decode cc pc = .ok (.invokestatic idx, 3)) (kk : ∀ (r : Int64) (u : S), post r u → J p l e R s m args below meth c D A nL Q (cells + mc) (slots + ms) (W' u) L (pc + 3) (.long r :: st)) : J p l e R s m args below meth c D A nL Q cells slots ws L pc st0 := by
  intro H locs ls hP hD hS hl
  subst hst
  exact va_calll (va_runS (As := As) (rest := st) ⟨cx.1, cx.2.1, cx.2.2.2.1, cx.2.2.2.2.1, cx.2.2.2.2.2.1⟩ hM ⟨callB_of n cx.2.2.2.2.2.1 (gA kw.2.2.2.1) rfl hrm.1 hrm.2.1 (cx.2.2.2.2.2.1 _ kw.2.2.1) (cx.2.2.2.2.2.1 _ kw.1) kw.2.2.2.2 ⟨hrm.2.2.1, hrm.2.2.2⟩, cx.2.2.2.2.2.1 _ kw.2.1⟩ ⟨PRE.fblind, fun U hU hW => ⟨rfl, by rw [hU]; exact hP, va_K.moved hW.alike cx.2.2.2.2.2.2.2.1, hD, fun q hq => cx.2.2.2.2.2.2.2.2.1 q (Nat.le_trans hS.1 (by rw [← hU]; exact hq)), cx.2.2.2.2.2.2.2.2.2.moved hS hU hW⟩⟩ rfl hn hl.1 rfl (lv_room hcat) d hf) hS (fun _ _ h => h) (fun _ h => h) (fun r u t H1 locs1 ht hvm hw hB _ _ hS1 => kk r u hw H1 locs1 ls (ht ▸ hB.1) hB.2 hS1 hl)

theorem J_callSv (cx : CX p l s m args meth c own cc ret nL D g A) {idx maxL n mc ms : Nat} {y : MethodName} {bytes : ByteArray} {retc : Option FieldType} (kw : SW own idx y bytes maxL retc n) {rm : Room} {As st0 : List Value} {S : Type} {post : S → Prop} {W' : S → va_W} (hM : Met l y (wsA y bytes maxL retc) rm (va_Pc As (PRE D g A ws)) (va_Qv post (fun u => PO D A (W' u)) A) mc ms A) (hrm : rm.cells = mc ∧ rm.slots = ms ∧ rm.frames + 1 ≤ R.frames ∧ 8 + (maxL + 11) + rm.locals ≤ R.locals) (hf : cells + mc ≤ R.cells ∧ slots + ms ≤ R.slots) (hn : As.length = n)  (hst : st0 = As.reverse ++ st) (hcat : (st.map fun v => v.category).sum ≤ 8) (d : decode cc pc = .ok (.invokestatic idx, 3)) (kk : ∀ (u : S), post u → J p l e R s m args below meth c D A nL Q (cells + mc) (slots + ms) (W' u) L (pc + 3) st) : J p l e R s m args below meth c D A nL Q cells slots ws L pc st0 := by
  intro H locs ls hP hD hS hl
  subst hst
  exact va_callv (va_runS (As := As) (rest := st) ⟨cx.1, cx.2.1, cx.2.2.2.1, cx.2.2.2.2.1, cx.2.2.2.2.2.1⟩ hM ⟨callB_of n cx.2.2.2.2.2.1 (gA kw.2.2.2.1) rfl hrm.1 hrm.2.1 (cx.2.2.2.2.2.1 _ kw.2.2.1) (cx.2.2.2.2.2.1 _ kw.1) kw.2.2.2.2 ⟨hrm.2.2.1, hrm.2.2.2⟩, cx.2.2.2.2.2.1 _ kw.2.1⟩ ⟨PRE.fblind, fun U hU hW => ⟨rfl, by rw [hU]; exact hP, va_K.moved hW.alike cx.2.2.2.2.2.2.2.1, hD, fun q hq => cx.2.2.2.2.2.2.2.2.1 q (Nat.le_trans hS.1 (by rw [← hU]; exact hq)), cx.2.2.2.2.2.2.2.2.2.moved hS hU hW⟩⟩ rfl hn hl.1 rfl (lv_room hcat) d hf) hS (fun _ _ h => h) (fun _ h => h) (fun u t H1 locs1 ht hvm hw hB _ _ hS1 => kk u hw H1 locs1 ls (ht ▸ hB.1) hB.2 hS1 hl)

theorem J_callCv (cx : CX p l s m args meth c own cc ret nL D g A) {idx maxL n mc ms : Nat} {y : MethodName} {bytes : ByteArray} {b : Nat} (kw : CW own idx y bytes maxL n) {rm : Room} {As st0 : List Value} {S : Type} {post : S → Prop} {W' : S → va_W} (hM : Met l y (wsA y bytes maxL none) rm (va_Pc (.ref b :: As) (PRE D g A ws)) (va_Qv post (fun u => PO D A (W' u)) A) mc ms A) (hrm : rm.cells = mc ∧ rm.slots = ms ∧ rm.frames + 1 ≤ R.frames ∧ 8 + (maxL + 11) + rm.locals ≤ R.locals) (hf : cells + mc ≤ R.cells ∧ slots + ms ≤ R.slots) (hn : As.length = n)  (hst : st0 = As.reverse ++ .ref b :: st) (hcat : (st.map fun v => v.category).sum ≤ 8) (d : decode cc pc = .ok (.invokespecial idx, 3)) (kk : ∀ (u : S), post u → J p l e R s m args below meth c D A nL Q (cells + mc) (slots + ms) (W' u) L (pc + 3) st) : J p l e R s m args below meth c D A nL Q cells slots ws L pc st0 := by
  intro H locs ls hP hD hS hl
  subst hst
  exact va_callv (va_runI (As := As) (rest := st) ⟨cx.1, cx.2.1, cx.2.2.2.1, cx.2.2.2.2.1, cx.2.2.2.2.2.1⟩ hM ⟨callB_of n cx.2.2.2.2.2.1 (gA kw.2.2.2.1) rfl hrm.1 hrm.2.1 (cx.2.2.2.2.2.1 _ kw.2.2.1) (cx.2.2.2.2.2.1 _ kw.1) kw.2.2.2.2.1 ⟨hrm.2.2.1, hrm.2.2.2⟩, kw.2.2.2.2.2, cx.2.2.2.2.2.1 _ kw.2.1⟩ ⟨PRE.fblind, fun U hU hW => ⟨rfl, by rw [hU]; exact hP, va_K.moved hW.alike cx.2.2.2.2.2.2.2.1, hD, fun q hq => cx.2.2.2.2.2.2.2.2.1 q (Nat.le_trans hS.1 (by rw [← hU]; exact hq)), cx.2.2.2.2.2.2.2.2.2.moved hS hU hW⟩⟩ rfl hn hl.1 rfl (lv_room hcat) d hf) hS (fun _ _ h => h) (fun _ h => h) (fun u t H1 locs1 ht hvm hw hB _ _ hS1 => kk u hw H1 locs1 ls (ht ▸ hB.1) hB.2 hS1 hl)

theorem J_callNi (cx : CX p l s m args meth c own cc ret nL D g A) {idx maxL n mc ms : Nat} {y : MethodName} {bytes : ByteArray} {retc : Option FieldType} {host : String} (kw : NW own idx y host bytes maxL retc n) {rm : Room} {As st0 : List Value} {S : Type} {post : Int32 → S → Prop} {W' : S → va_W} (hM : Met l y (wsA y bytes maxL retc) rm (va_Pc As (PRE D g A ws)) (va_Qi post (fun u => PO D A (W' u)) A) mc ms A) (hrm : rm.cells = mc ∧ rm.slots = ms ∧ rm.frames + 1 ≤ R.frames ∧ 8 + (maxL + 11) + rm.locals ≤ R.locals) (hf : cells + mc ≤ R.cells ∧ slots + ms ≤ R.slots) (hn : As.length = n)  (hst : st0 = As.reverse ++ st) (hcat : (st.map fun v => v.category).sum ≤ 8) (d : decode cc pc = .ok (.invokestatic idx, 3)) (kk : ∀ (r : Int32) (u : S), post r u → J p l e R s m args below meth c D A nL Q (cells + mc) (slots + ms) (W' u) L (pc + 3) (.int r :: st)) : J p l e R s m args below meth c D A nL Q cells slots ws L pc st0 := by
  intro H locs ls hP hD hS hl
  subst hst
  exact va_calli (va_runSN (As := As) (rest := st) ⟨cx.1, cx.2.1, cx.2.2.2.1, cx.2.2.2.2.1, cx.2.2.2.2.2.1⟩ hM ⟨va_cnB (ws' := wAll) n cx.2.2.2.2.2.1 (gA kw.2.2.2.1) rfl hrm.1 hrm.2.1 (cx.2.2.2.2.2.2.2.2.2.2.2.2.2 _ kw.1 rfl) (cx.2.2.2.2.2.1 _ kw.2.2.1) kw.2.2.2.2 ⟨hrm.2.2.1, hrm.2.2.2⟩, cx.2.2.2.2.2.1 _ kw.2.1, trivial⟩ ⟨PRE.fblind, fun U hU hW => ⟨rfl, by rw [hU]; exact hP, va_K.moved hW.alike cx.2.2.2.2.2.2.2.1, hD, fun q hq => cx.2.2.2.2.2.2.2.2.1 q (Nat.le_trans hS.1 (by rw [← hU]; exact hq)), cx.2.2.2.2.2.2.2.2.2.moved hS hU hW⟩⟩ rfl hn hl.1 rfl (lv_room hcat) d hf) hS (fun _ _ h => h) (fun _ h => h) (fun r u t H1 locs1 ht hvm hw hB _ _ hS1 => kk r u hw H1 locs1 ls (ht ▸ hB.1) hB.2 hS1 hl)

theorem J_callNl (cx : CX p l s m args meth c own cc ret nL D g A) {idx maxL n mc ms : Nat} {y : MethodName} {bytes : ByteArray} {retc : Option FieldType} {host : String} (kw : NW own idx y host bytes maxL retc n) {rm : Room} {As st0 : List Value} {S : Type} {post : Int64 → S → Prop} {W' : S → va_W} (hM : Met l y (wsA y bytes maxL retc) rm (va_Pc As (PRE D g A ws)) (va_Ql post (fun u => PO D A (W' u)) A) mc ms A) (hrm : rm.cells = mc ∧ rm.slots = ms ∧ rm.frames + 1 ≤ R.frames ∧ 8 + (maxL + 11) + rm.locals ≤ R.locals) (hf : cells + mc ≤ R.cells ∧ slots + ms ≤ R.slots) (hn : As.length = n)  (hst : st0 = As.reverse ++ st) (hcat : (st.map fun v => v.category).sum ≤ 8) (d : decode cc pc = .ok (.invokestatic idx, 3)) (kk : ∀ (r : Int64) (u : S), post r u → J p l e R s m args below meth c D A nL Q (cells + mc) (slots + ms) (W' u) L (pc + 3) (.long r :: st)) : J p l e R s m args below meth c D A nL Q cells slots ws L pc st0 := by
  intro H locs ls hP hD hS hl
  subst hst
  exact va_calll (va_runSN (As := As) (rest := st) ⟨cx.1, cx.2.1, cx.2.2.2.1, cx.2.2.2.2.1, cx.2.2.2.2.2.1⟩ hM ⟨va_cnB (ws' := wAll) n cx.2.2.2.2.2.1 (gA kw.2.2.2.1) rfl hrm.1 hrm.2.1 (cx.2.2.2.2.2.2.2.2.2.2.2.2.2 _ kw.1 rfl) (cx.2.2.2.2.2.1 _ kw.2.2.1) kw.2.2.2.2 ⟨hrm.2.2.1, hrm.2.2.2⟩, cx.2.2.2.2.2.1 _ kw.2.1, trivial⟩ ⟨PRE.fblind, fun U hU hW => ⟨rfl, by rw [hU]; exact hP, va_K.moved hW.alike cx.2.2.2.2.2.2.2.1, hD, fun q hq => cx.2.2.2.2.2.2.2.2.1 q (Nat.le_trans hS.1 (by rw [← hU]; exact hq)), cx.2.2.2.2.2.2.2.2.2.moved hS hU hW⟩⟩ rfl hn hl.1 rfl (lv_room hcat) d hf) hS (fun _ _ h => h) (fun _ h => h) (fun r u t H1 locs1 ht hvm hw hB _ _ hS1 => kk r u hw H1 locs1 ls (ht ▸ hB.1) hB.2 hS1 hl)

/-- where a method has thrown: the class fits, the world is as it was -/
def XQ (XP : String → Prop) (D : va_G) (A : Nat → Prop) (wsx : va_W) : String → State → State → Prop := vx_X (S := Unit) (fun _ => True) (fun E _ t => XP E ∧ PO D A wsx t) A

theorem vx_callq {mc ms : Nat} {free : Addr → Prop} {A0 A1 : Nat → Prop} {H0 : Heap} {a : Array Value} {H : Heap} {locs : List Loc} {ls : Array Slot} {st0 rest : List Value} {S SX : Type} {post : Option Nat → S → Prop} {px : SX → Prop} {B : S → State → Prop} {BX : String → SX → State → Prop} {AX : Nat → Prop} (hr : vx_Run p l e R s m args below meth c H locs cells slots mc ms (F0 m pc ls st0) rest (va_Qq post B A1 a) (vx_X px BX AX) free) (hS : va_S A0 H0 H locs) (hA : ∀ q, q < H.size → A1 q → A0 q) (hf : ∀ q, free q → A0 q) (hAX : ∀ q, q < H.size → AX q → A0 q)
    (kx : ∀ (E : String) (ce : Cell) (q9 : Addr) (u : SX) (t : State) (H1 : Heap) (locs1 : List Loc), t.heap = H1 → s.vm.Alike t.vm → px u → BX E u t → H.size ≤ H1.size → (∀ q : Nat, q < H.size → ¬ AX q → H1[q]? = H[q]?) → va_S A0 H0 H1 locs1 → H1[q9]? = some ce → ce.vm = .none → s.vm.findClass E = some ce.cls → vx_W p l e R s m args below meth c H1 locs1 (cells + mc) (slots + ms) Q (F0 m pc ls rest) q9)
    (kk : ∀ (r : Option Nat) (u : S) (t : State) (H1 : Heap) (locs1 : List Loc), t.heap = H1 → s.vm.Alike t.vm → post r u → B u t → H.size ≤ H1.size → (∀ q : Nat, q < H.size → ¬ A1 q → H1[q]? = H[q]?) → va_S A0 H0 H1 locs1 → W p l e R s m args below meth c H1 locs1 (cells + mc) (slots + ms) Q (F0 m (pc + 3) ls (va_rf r :: rest))) : W p l e R s m args below meth c H locs cells slots Q (F0 m pc ls st0) := by
  intro T hT X
  rcases hr T hT X with ⟨v, st₀, t, T', L, h0, X', hL, e1, e2, ⟨⟨r, u, hv, hp, hb⟩, hF⟩, st⟩ | ⟨q, st₀, t, T', L, E, ce, h0, X', hL, e1, e2, ⟨u, hp, hb, hF⟩, hce, hcv, hcl, st⟩
  · cases hv
    obtain ⟨k1, k2, k3⟩ := vx_keep h0 e1 hS hA hf hL hF
    obtain ⟨t2, a1, b1⟩ := kk r u t T'.heap (locs ++ L) e1.symm (by rw [← e2]; exact X'.warmed.alike) hp hb k1 k2 k3 T' rfl X'
    exact ⟨t2, st t2 a1, b1⟩
  · obtain ⟨k1, k2, k3⟩ := vx_keep h0 e1 hS hAX hf hL hF
    obtain ⟨t2, a1, b1⟩ := kx E ce q u t T'.heap (locs ++ L) e1.symm (by rw [← e2]; exact X'.warmed.alike) hp hb k1 k2 k3 (by rw [e1]; exact hce) hcv hcl T' rfl X'
    exact ⟨t2, st.trans a1, b1⟩

theorem vx_callr {mc ms : Nat} {free : Addr → Prop} {A0 A1 : Nat → Prop} {H0 : Heap} {a : Array Value} {H : Heap} {locs : List Loc} {ls : Array Slot} {st0 rest : List Value} {S SX : Type} {post : S → Prop} {px : SX → Prop} {B : S → Nat → State → Prop} {BX : String → SX → State → Prop} {AX : Nat → Prop} (hr : vx_Run p l e R s m args below meth c H locs cells slots mc ms (F0 m pc ls st0) rest (va_Qr post B A1 a) (vx_X px BX AX) free) (hS : va_S A0 H0 H locs) (hA : ∀ q, q < H.size → A1 q → A0 q) (hf : ∀ q, free q → A0 q) (hAX : ∀ q, q < H.size → AX q → A0 q)
    (kx : ∀ (E : String) (ce : Cell) (q9 : Addr) (u : SX) (t : State) (H1 : Heap) (locs1 : List Loc), t.heap = H1 → s.vm.Alike t.vm → px u → BX E u t → H.size ≤ H1.size → (∀ q : Nat, q < H.size → ¬ AX q → H1[q]? = H[q]?) → va_S A0 H0 H1 locs1 → H1[q9]? = some ce → ce.vm = .none → s.vm.findClass E = some ce.cls → vx_W p l e R s m args below meth c H1 locs1 (cells + mc) (slots + ms) Q (F0 m pc ls rest) q9)
    (kk : ∀ (u : S) (r : Nat) (t : State) (H1 : Heap) (locs1 : List Loc), t.heap = H1 → s.vm.Alike t.vm → post u → B u r t → H.size ≤ H1.size → (∀ q : Nat, q < H.size → ¬ A1 q → H1[q]? = H[q]?) → va_S A0 H0 H1 locs1 → W p l e R s m args below meth c H1 locs1 (cells + mc) (slots + ms) Q (F0 m (pc + 3) ls (.ref r :: rest))) : W p l e R s m args below meth c H locs cells slots Q (F0 m pc ls st0) := by
  intro T hT X
  rcases hr T hT X with ⟨v, st₀, t, T', L, h0, X', hL, e1, e2, ⟨⟨u, r, hv, hp, hb⟩, hF⟩, st⟩ | ⟨q, st₀, t, T', L, E, ce, h0, X', hL, e1, e2, ⟨u, hp, hb, hF⟩, hce, hcv, hcl, st⟩
  · cases hv
    obtain ⟨k1, k2, k3⟩ := vx_keep h0 e1 hS hA hf hL hF
    obtain ⟨t2, a1, b1⟩ := kk u r t T'.heap (locs ++ L) e1.symm (by rw [← e2]; exact X'.warmed.alike) hp hb k1 k2 k3 T' rfl X'
    exact ⟨t2, st t2 a1, b1⟩
  · obtain ⟨k1, k2, k3⟩ := vx_keep h0 e1 hS hAX hf hL hF
    obtain ⟨t2, a1, b1⟩ := kx E ce q u t T'.heap (locs ++ L) e1.symm (by rw [← e2]; exact X'.warmed.alike) hp hb k1 k2 k3 (by rw [e1]; exact hce) hcv hcl T' rfl X'
    exact ⟨t2, st.trans a1, b1⟩

theorem J_xcallVi (cx : CX p l s m args meth c own cc ret nL D g A) (hex : ∀ x ∈ c.exceptionTable.toList, False) {idx maxL n mc ms mc0 ms0 : Nat} {y : MethodName} {bytes : ByteArray} {retc : Option FieldType} {b : Nat} (kw : VW own idx y bytes maxL retc n) {rm : Room} {As st0 : List Value} {S : Type} {post : Int32 → S → Prop} {W' : S → va_W} {XP XP' : String → Prop} {wsx : va_W} {Qc : Array Value → State → Outcome → State → Prop} (hM : vx_Met l y (wsA y bytes maxL retc) rm (va_Pc (.ref b :: As) (PRE D g A ws)) (va_Qi post (fun u => PO D A (W' u)) A) (XQ XP' D A wsx) mc ms A) (hX : ∀ E, XP' E → XP E) (hm0 : cells + mc ≤ mc0 ∧ slots + ms ≤ ms0) (hrm : rm.cells = mc ∧ rm.slots = ms ∧ rm.frames + 1 ≤ R.frames ∧ 8 + (maxL + 11) + rm.locals ≤ R.locals) (hf : cells + mc ≤ R.cells ∧ slots + ms ≤ R.slots) (hn : As.length = n) (q0 : Nat) {ci N : Nat} {fs : List Value} {T : u_T} (he : ws[q0]? = some (b, .inr (ci, fs))) (hc : vwCl[ci]? = some (y.cls, T, N)) (hst : st0 = As.reverse ++ .ref b :: st) (hcat : (st.map fun v => v.category).sum ≤ 8) (d : decode cc pc = .ok (.invokevirtual idx, 3)) (kk : ∀ (r : Int32) (u : S), post r u → J p l e R s m args below meth c D A nL (vx_MQ below Qc (XQ XP D A wsx) args s mc0 ms0 A) (cells + mc) (slots + ms) (W' u) L (pc + 3) (.int r :: st)) : J p l e R s m args below meth c D A nL (vx_MQ below Qc (XQ XP D A wsx) args s mc0 ms0 A) cells slots ws L pc st0 := by
  intro H locs ls hP hD hS hl
  subst hst
  exact vx_calli (vx_runV (C := y.cls) (As := As) (rest := st) ⟨cx.1, cx.2.1, cx.2.2.2.1, cx.2.2.2.2.1, cx.2.2.2.2.2.1⟩ hM ⟨callB_of n cx.2.2.2.2.2.1 (gA kw.2.2.2.2.1) rfl hrm.1 hrm.2.1 (cx.2.2.2.2.2.1 _ kw.2.2.2.1) (cx.2.2.2.2.2.1 _ kw.1) kw.2.2.2.2.2 ⟨hrm.2.2.1, hrm.2.2.2⟩, cx.2.2.2.2.2.1 _ kw.2.1, cx.2.2.2.2.2.1 _ kw.2.2.1⟩ ⟨PRE.fblind, va_recv cx.2.2.2.2.2.2.2.1 hP hc he, fun U hU hW => ⟨rfl, by rw [hU]; exact hP, va_K.moved hW.alike cx.2.2.2.2.2.2.2.1, hD, fun q hq => cx.2.2.2.2.2.2.2.2.1 q (Nat.le_trans hS.1 (by rw [← hU]; exact hq)), cx.2.2.2.2.2.2.2.2.2.moved hS hU hW⟩⟩ rfl hn hl.1 rfl (lv_room hcat) d hf) hS (fun _ _ h => h) (fun _ h => h) (fun _ _ h => h) (fun E ce q9 u t H1 locs1 ht hvm hp hB hz hk hS1 hce hcv hcl => vx_out (fun x hx => (hex x hx).elim) cx.2.2.2.2.2.2.1 hce hcv hcl (fun t' ht' _ => ⟨(), trivial, ⟨hX E hB.1, by rw [ht', ← ht]; exact hB.2.1, hB.2.2⟩, hS1.F ht'⟩) hS1.2.2 hm0.1 hm0.2) (fun r u t H1 locs1 ht hvm hw hB _ _ hS1 => kk r u hw H1 locs1 ls (ht ▸ hB.1) hB.2 hS1 hl)

theorem J_xcallVl (cx : CX p l s m args meth c own cc ret nL D g A) (hex : ∀ x ∈ c.exceptionTable.toList, False) {idx maxL n mc ms mc0 ms0 : Nat} {y : MethodName} {bytes : ByteArray} {retc : Option FieldType} {b : Nat} (kw : VW own idx y bytes maxL retc n) {rm : Room} {As st0 : List Value} {S : Type} {post : Int64 → S → Prop} {W' : S → va_W} {XP XP' : String → Prop} {wsx : va_W} {Qc : Array Value → State → Outcome → State → Prop} (hM : vx_Met l y (wsA y bytes maxL retc) rm (va_Pc (.ref b :: As) (PRE D g A ws)) (va_Ql post (fun u => PO D A (W' u)) A) (XQ XP' D A wsx) mc ms A) (hX : ∀ E, XP' E → XP E) (hm0 : cells + mc ≤ mc0 ∧ slots + ms ≤ ms0) (hrm : rm.cells = mc ∧ rm.slots = ms ∧ rm.frames + 1 ≤ R.frames ∧ 8 + (maxL + 11) + rm.locals ≤ R.locals) (hf : cells + mc ≤ R.cells ∧ slots + ms ≤ R.slots) (hn : As.length = n) (q0 : Nat) {ci N : Nat} {fs : List Value} {T : u_T} (he : ws[q0]? = some (b, .inr (ci, fs))) (hc : vwCl[ci]? = some (y.cls, T, N)) (hst : st0 = As.reverse ++ .ref b :: st) (hcat : (st.map fun v => v.category).sum ≤ 8) (d : decode cc pc = .ok (.invokevirtual idx, 3)) (kk : ∀ (r : Int64) (u : S), post r u → J p l e R s m args below meth c D A nL (vx_MQ below Qc (XQ XP D A wsx) args s mc0 ms0 A) (cells + mc) (slots + ms) (W' u) L (pc + 3) (.long r :: st)) : J p l e R s m args below meth c D A nL (vx_MQ below Qc (XQ XP D A wsx) args s mc0 ms0 A) cells slots ws L pc st0 := by
  intro H locs ls hP hD hS hl
  subst hst
  exact vx_calll (vx_runV (C := y.cls) (As := As) (rest := st) ⟨cx.1, cx.2.1, cx.2.2.2.1, cx.2.2.2.2.1, cx.2.2.2.2.2.1⟩ hM ⟨callB_of n cx.2.2.2.2.2.1 (gA kw.2.2.2.2.1) rfl hrm.1 hrm.2.1 (cx.2.2.2.2.2.1 _ kw.2.2.2.1) (cx.2.2.2.2.2.1 _ kw.1) kw.2.2.2.2.2 ⟨hrm.2.2.1, hrm.2.2.2⟩, cx.2.2.2.2.2.1 _ kw.2.1, cx.2.2.2.2.2.1 _ kw.2.2.1⟩ ⟨PRE.fblind, va_recv cx.2.2.2.2.2.2.2.1 hP hc he, fun U hU hW => ⟨rfl, by rw [hU]; exact hP, va_K.moved hW.alike cx.2.2.2.2.2.2.2.1, hD, fun q hq => cx.2.2.2.2.2.2.2.2.1 q (Nat.le_trans hS.1 (by rw [← hU]; exact hq)), cx.2.2.2.2.2.2.2.2.2.moved hS hU hW⟩⟩ rfl hn hl.1 rfl (lv_room hcat) d hf) hS (fun _ _ h => h) (fun _ h => h) (fun _ _ h => h) (fun E ce q9 u t H1 locs1 ht hvm hp hB hz hk hS1 hce hcv hcl => vx_out (fun x hx => (hex x hx).elim) cx.2.2.2.2.2.2.1 hce hcv hcl (fun t' ht' _ => ⟨(), trivial, ⟨hX E hB.1, by rw [ht', ← ht]; exact hB.2.1, hB.2.2⟩, hS1.F ht'⟩) hS1.2.2 hm0.1 hm0.2) (fun r u t H1 locs1 ht hvm hw hB _ _ hS1 => kk r u hw H1 locs1 ls (ht ▸ hB.1) hB.2 hS1 hl)

theorem J_xcallVv (cx : CX p l s m args meth c own cc ret nL D g A) (hex : ∀ x ∈ c.exceptionTable.toList, False) {idx maxL n mc ms mc0 ms0 : Nat} {y : MethodName} {bytes : ByteArray} {retc : Option FieldType} {b : Nat} (kw : VW own idx y bytes maxL retc n) {rm : Room} {As st0 : List Value} {S : Type} {post : S → Prop} {W' : S → va_W} {XP XP' : String → Prop} {wsx : va_W} {Qc : Array Value → State → Outcome → State → Prop} (hM : vx_Met l y (wsA y bytes maxL retc) rm (va_Pc (.ref b :: As) (PRE D g A ws)) (va_Qv post (fun u => PO D A (W' u)) A) (XQ XP' D A wsx) mc ms A) (hX : ∀ E, XP' E → XP E) (hm0 : cells + mc ≤ mc0 ∧ slots + ms ≤ ms0) (hrm : rm.cells = mc ∧ rm.slots = ms ∧ rm.frames + 1 ≤ R.frames ∧ 8 + (maxL + 11) + rm.locals ≤ R.locals) (hf : cells + mc ≤ R.cells ∧ slots + ms ≤ R.slots) (hn : As.length = n) (q0 : Nat) {ci N : Nat} {fs : List Value} {T : u_T} (he : ws[q0]? = some (b, .inr (ci, fs))) (hc : vwCl[ci]? = some (y.cls, T, N)) (hst : st0 = As.reverse ++ .ref b :: st) (hcat : (st.map fun v => v.category).sum ≤ 8) (d : decode cc pc = .ok (.invokevirtual idx, 3)) (kk : ∀ (u : S), post u → J p l e R s m args below meth c D A nL (vx_MQ below Qc (XQ XP D A wsx) args s mc0 ms0 A) (cells + mc) (slots + ms) (W' u) L (pc + 3) st) : J p l e R s m args below meth c D A nL (vx_MQ below Qc (XQ XP D A wsx) args s mc0 ms0 A) cells slots ws L pc st0 := by
  intro H locs ls hP hD hS hl
  subst hst
  exact vx_callv (vx_runV (C := y.cls) (As := As) (rest := st) ⟨cx.1, cx.2.1, cx.2.2.2.1, cx.2.2.2.2.1, cx.2.2.2.2.2.1⟩ hM ⟨callB_of n cx.2.2.2.2.2.1 (gA kw.2.2.2.2.1) rfl hrm.1 hrm.2.1 (cx.2.2.2.2.2.1 _ kw.2.2.2.1) (cx.2.2.2.2.2.1 _ kw.1) kw.2.2.2.2.2 ⟨hrm.2.2.1, hrm.2.2.2⟩, cx.2.2.2.2.2.1 _ kw.2.1, cx.2.2.2.2.2.1 _ kw.2.2.1⟩ ⟨PRE.fblind, va_recv cx.2.2.2.2.2.2.2.1 hP hc he, fun U hU hW => ⟨rfl, by rw [hU]; exact hP, va_K.moved hW.alike cx.2.2.2.2.2.2.2.1, hD, fun q hq => cx.2.2.2.2.2.2.2.2.1 q (Nat.le_trans hS.1 (by rw [← hU]; exact hq)), cx.2.2.2.2.2.2.2.2.2.moved hS hU hW⟩⟩ rfl hn hl.1 rfl (lv_room hcat) d hf) hS (fun _ _ h => h) (fun _ h => h) (fun _ _ h => h) (fun E ce q9 u t H1 locs1 ht hvm hp hB hz hk hS1 hce hcv hcl => vx_out (fun x hx => (hex x hx).elim) cx.2.2.2.2.2.2.1 hce hcv hcl (fun t' ht' _ => ⟨(), trivial, ⟨hX E hB.1, by rw [ht', ← ht]; exact hB.2.1, hB.2.2⟩, hS1.F ht'⟩) hS1.2.2 hm0.1 hm0.2) (fun u t H1 locs1 ht hvm hw hB _ _ hS1 => kk u hw H1 locs1 ls (ht ▸ hB.1) hB.2 hS1 hl)

theorem J_xcallVq (cx : CX p l s m args meth c own cc ret nL D g A) (hex : ∀ x ∈ c.exceptionTable.toList, False) {idx maxL n mc ms mc0 ms0 : Nat} {y : MethodName} {bytes : ByteArray} {retc : Option FieldType} {b : Nat} (kw : VW own idx y bytes maxL retc n) {rm : Room} {As st0 : List Value} {S : Type} {post : Option Nat → S → Prop} {W' : S → va_W} {XP XP' : String → Prop} {wsx : va_W} {Qc : Array Value → State → Outcome → State → Prop} (hM : vx_Met l y (wsA y bytes maxL retc) rm (va_Pc (.ref b :: As) (PRE D g A ws)) (va_Qq post (fun u => PO D A (W' u)) A) (XQ XP' D A wsx) mc ms A) (hX : ∀ E, XP' E → XP E) (hm0 : cells + mc ≤ mc0 ∧ slots + ms ≤ ms0) (hrm : rm.cells = mc ∧ rm.slots = ms ∧ rm.frames + 1 ≤ R.frames ∧ 8 + (maxL + 11) + rm.locals ≤ R.locals) (hf : cells + mc ≤ R.cells ∧ slots + ms ≤ R.slots) (hn : As.length = n) (q0 : Nat) {ci N : Nat} {fs : List Value} {T : u_T} (he : ws[q0]? = some (b, .inr (ci, fs))) (hc : vwCl[ci]? = some (y.cls, T, N)) (hst : st0 = As.reverse ++ .ref b :: st) (hcat : (st.map fun v => v.category).sum ≤ 8) (d : decode cc pc = .ok (.invokevirtual idx, 3)) (kk : ∀ (r : Option Nat) (u : S), post r u → J p l e R s m args below meth c D A nL (vx_MQ below Qc (XQ XP D A wsx) args s mc0 ms0 A) (cells + mc) (slots + ms) (W' u) L (pc + 3) (va_rf r :: st)) : J p l e R s m args below meth c D A nL (vx_MQ below Qc (XQ XP D A wsx) args s mc0 ms0 A) cells slots ws L pc st0 := by
  intro H locs ls hP hD hS hl
  subst hst
  exact vx_callq (vx_runV (C := y.cls) (As := As) (rest := st) ⟨cx.1, cx.2.1, cx.2.2.2.1, cx.2.2.2.2.1, cx.2.2.2.2.2.1⟩ hM ⟨callB_of n cx.2.2.2.2.2.1 (gA kw.2.2.2.2.1) rfl hrm.1 hrm.2.1 (cx.2.2.2.2.2.1 _ kw.2.2.2.1) (cx.2.2.2.2.2.1 _ kw.1) kw.2.2.2.2.2 ⟨hrm.2.2.1, hrm.2.2.2⟩, cx.2.2.2.2.2.1 _ kw.2.1, cx.2.2.2.2.2.1 _ kw.2.2.1⟩ ⟨PRE.fblind, va_recv cx.2.2.2.2.2.2.2.1 hP hc he, fun U hU hW => ⟨rfl, by rw [hU]; exact hP, va_K.moved hW.alike cx.2.2.2.2.2.2.2.1, hD, fun q hq => cx.2.2.2.2.2.2.2.2.1 q (Nat.le_trans hS.1 (by rw [← hU]; exact hq)), cx.2.2.2.2.2.2.2.2.2.moved hS hU hW⟩⟩ rfl hn hl.1 rfl (lv_room hcat) d hf) hS (fun _ _ h => h) (fun _ h => h) (fun _ _ h => h) (fun E ce q9 u t H1 locs1 ht hvm hp hB hz hk hS1 hce hcv hcl => vx_out (fun x hx => (hex x hx).elim) cx.2.2.2.2.2.2.1 hce hcv hcl (fun t' ht' _ => ⟨(), trivial, ⟨hX E hB.1, by rw [ht', ← ht]; exact hB.2.1, hB.2.2⟩, hS1.F ht'⟩) hS1.2.2 hm0.1 hm0.2) (fun r u t H1 locs1 ht hvm hw hB _ _ hS1 => kk r u hw H1 locs1 ls (ht ▸ hB.1) hB.2 hS1 hl)

theorem J_xcallVr (cx : CX p l s m args meth c own cc ret nL D g A) (hex : ∀ x ∈ c.exceptionTable.toList, False) {idx maxL n mc ms mc0 ms0 : Nat} {y : MethodName} {bytes : ByteArray} {retc : Option FieldType} {b : Nat} (kw : VW own idx y bytes maxL retc n) {rm : Room} {As st0 : List Value} {S : Type} {post : S → Prop} {W' : S → Nat → va_W} {XP XP' : String → Prop} {wsx : va_W} {Qc : Array Value → State → Outcome → State → Prop} (hM : vx_Met l y (wsA y bytes maxL retc) rm (va_Pc (.ref b :: As) (PRE D g A ws)) (va_Qr post (fun u r => PO D A (W' u r)) A) (XQ XP' D A wsx) mc ms A) (hX : ∀ E, XP' E → XP E) (hm0 : cells + mc ≤ mc0 ∧ slots + ms ≤ ms0) (hrm : rm.cells = mc ∧ rm.slots = ms ∧ rm.frames + 1 ≤ R.frames ∧ 8 + (maxL + 11) + rm.locals ≤ R.locals) (hf : cells + mc ≤ R.cells ∧ slots + ms ≤ R.slots) (hn : As.length = n) (q0 : Nat) {ci N : Nat} {fs : List Value} {T : u_T} (he : ws[q0]? = some (b, .inr (ci, fs))) (hc : vwCl[ci]? = some (y.cls, T, N)) (hst : st0 = As.reverse ++ .ref b :: st) (hcat : (st.map fun v => v.category).sum ≤ 8) (d : decode cc pc = .ok (.invokevirtual idx, 3)) (kk : ∀ (u : S) (r : Nat), post u → J p l e R s m args below meth c D A nL (vx_MQ below Qc (XQ XP D A wsx) args s mc0 ms0 A) (cells + mc) (slots + ms) (W' u r) L (pc + 3) (.ref r :: st)) : J p l e R s m args below meth c D A nL (vx_MQ below Qc (XQ XP D A wsx) args s mc0 ms0 A) cells slots ws L pc st0 := by
  intro H locs ls hP hD hS hl
  subst hst
  exact vx_callr (vx_runV (C := y.cls) (As := As) (rest := st) ⟨cx.1, cx.2.1, cx.2.2.2.1, cx.2.2.2.2.1, cx.2.2.2.2.2.1⟩ hM ⟨callB_of n cx.2.2.2.2.2.1 (gA kw.2.2.2.2.1) rfl hrm.1 hrm.2.1 (cx.2.2.2.2.2.1 _ kw.2.2.2.1) (cx.2.2.2.2.2.1 _ kw.1) kw.2.2.2.2.2 ⟨hrm.2.2.1, hrm.2.2.2⟩, cx.2.2.2.2.2.1 _ kw.2.1, cx.2.2.2.2.2.1 _ kw.2.2.1⟩ ⟨PRE.fblind, va_recv cx.2.2.2.2.2.2.2.1 hP hc he, fun U hU hW => ⟨rfl, by rw [hU]; exact hP, va_K.moved hW.alike cx.2.2.2.2.2.2.2.1, hD, fun q hq => cx.2.2.2.2.2.2.2.2.1 q (Nat.le_trans hS.1 (by rw [← hU]; exact hq)), cx.2.2.2.2.2.2.2.2.2.moved hS hU hW⟩⟩ rfl hn hl.1 rfl (lv_room hcat) d hf) hS (fun _ _ h => h) (fun _ h => h) (fun _ _ h => h) (fun E ce q9 u t H1 locs1 ht hvm hp hB hz hk hS1 hce hcv hcl => vx_out (fun x hx => (hex x hx).elim) cx.2.2.2.2.2.2.1 hce hcv hcl (fun t' ht' _ => ⟨(), trivial, ⟨hX E hB.1, by rw [ht', ← ht]; exact hB.2.1, hB.2.2⟩, hS1.F ht'⟩) hS1.2.2 hm0.1 hm0.2) (fun u r t H1 locs1 ht hvm hw hB _ _ hS1 => kk u r hw H1 locs1 ls (ht ▸ hB.1) hB.2 hS1 hl)

theorem J_xcallSl (cx : CX p l s m args meth c own cc ret nL D g A) (hex : ∀ x ∈ c.exceptionTable.toList, False) {idx maxL n mc ms mc0 ms0 : Nat} {y : MethodName} {bytes : ByteArray} {retc : Option FieldType} (kw : SW own idx y bytes maxL retc n) {rm : Room} {As st0 : List Value} {S : Type} {post : Int64 → S → Prop} {W' : S → va_W} {XP XP' : String → Prop} {wsx : va_W} {Qc : Array Value → State → Outcome → State → Prop} (hM : vx_Met l y (wsA y bytes maxL retc) rm (va_Pc As (PRE D g A ws)) (va_Ql post (fun u => PO D A (W' u)) A) (XQ XP' D A wsx) mc ms A) (hX : ∀ E, XP' E → XP E) (hm0 : cells + mc ≤ mc0 ∧ slots + ms ≤ ms0) (hrm : rm.cells = mc ∧ rm.slots = ms ∧ rm.frames + 1 ≤ R.frames ∧ 8 + (maxL + 11) + rm.locals ≤ R.locals) (hf : cells + mc ≤ R.cells ∧ slots + ms ≤ R.slots) (hn : As.length = n)  (hst : st0 = As.reverse ++ st) (hcat : (st.map fun v => v.category).sum ≤ 8) (d : decode cc pc = .ok (.invokestatic idx, 3)) (kk : ∀ (r : Int64) (u : S), post r u → J p l e R s m args below meth c D A nL (vx_MQ below Qc (XQ XP D A wsx) args s mc0 ms0 A) (cells + mc) (slots + ms) (W' u) L (pc + 3) (.long r :: st)) : J p l e R s m args below meth c D A nL (vx_MQ below Qc (XQ XP D A wsx) args s mc0 ms0 A) cells slots ws L pc st0 := by
  intro H locs ls hP hD hS hl
  subst hst
  exact vx_calll (vx_runS (As := As) (rest := st) ⟨cx.1, cx.2.1, cx.2.2.2.1, cx.2.2.2.2.1, cx.2.2.2.2.2.1⟩ hM ⟨callB_of n cx.2.2.2.2.2.1 (gA kw.2.2.2.1) rfl hrm.1 hrm.2.1 (cx.2.2.2.2.2.1 _ kw.2.2.1) (cx.2.2.2.2.2.1 _ kw.1) kw.2.2.2.2 ⟨hrm.2.2.1, hrm.2.2.2⟩, cx.2.2.2.2.2.1 _ kw.2.1⟩ ⟨PRE.fblind, fun U hU hW => ⟨rfl, by rw [hU]; exact hP, va_K.moved hW.alike cx.2.2.2.2.2.2.2.1, hD, fun q hq => cx.2.2.2.2.2.2.2.2.1 q (Nat.le_trans hS.1 (by rw [← hU]; exact hq)), cx.2.2.2.2.2.2.2.2.2.moved hS hU hW⟩⟩ rfl hn hl.1 rfl (lv_room hcat) d hf) hS (fun _ _ h => h) (fun _ h => h) (fun _ _ h => h) (fun E ce q9 u t H1 locs1 ht hvm hp hB hz hk hS1 hce hcv hcl => vx_out (fun x hx => (hex x hx).elim) cx.2.2.2.2.2.2.1 hce hcv hcl (fun t' ht' _ => ⟨(), trivial, ⟨hX E hB.1, by rw [ht', ← ht]; exact hB.2.1, hB.2.2⟩, hS1.F ht'⟩) hS1.2.2 hm0.1 hm0.2) (fun r u t H1 locs1 ht hvm hw hB _ _ hS1 => kk r u hw H1 locs1 ls (ht ▸ hB.1) hB.2 hS1 hl)

theorem J_xcallSv (cx : CX p l s m args meth c own cc ret nL D g A) (hex : ∀ x ∈ c.exceptionTable.toList, False) {idx maxL n mc ms mc0 ms0 : Nat} {y : MethodName} {bytes : ByteArray} {retc : Option FieldType} (kw : SW own idx y bytes maxL retc n) {rm : Room} {As st0 : List Value} {S : Type} {post : S → Prop} {W' : S → va_W} {XP XP' : String → Prop} {wsx : va_W} {Qc : Array Value → State → Outcome → State → Prop} (hM : vx_Met l y (wsA y bytes maxL retc) rm (va_Pc As (PRE D g A ws)) (va_Qv post (fun u => PO D A (W' u)) A) (XQ XP' D A wsx) mc ms A) (hX : ∀ E, XP' E → XP E) (hm0 : cells + mc ≤ mc0 ∧ slots + ms ≤ ms0) (hrm : rm.cells = mc ∧ rm.slots = ms ∧ rm.frames + 1 ≤ R.frames ∧ 8 + (maxL + 11) + rm.locals ≤ R.locals) (hf : cells + mc ≤ R.cells ∧ slots + ms ≤ R.slots) (hn : As.length = n)  (hst : st0 = As.reverse ++ st) (hcat : (st.map fun v => v.category).sum ≤ 8) (d : decode cc pc = .ok (.invokestatic idx, 3)) (kk : ∀ (u : S), post u → J p l e R s m args below meth c D A nL (vx_MQ below Qc (XQ XP D A wsx) args s mc0 ms0 A) (cells + mc) (slots + ms) (W' u) L (pc + 3) st) : J p l e R s m args below meth c D A nL (vx_MQ below Qc (XQ XP D A wsx) args s mc0 ms0 A) cells slots ws L pc st0 := by
  intro H locs ls hP hD hS hl
  subst hst
  exact vx_callv (vx_runS (As := As) (rest := st) ⟨cx.1, cx.2.1, cx.2.2.2.1, cx.2.2.2.2.1, cx.2.2.2.2.2.1⟩ hM ⟨callB_of n cx.2.2.2.2.2.1 (gA kw.2.2.2.1) rfl hrm.1 hrm.2.1 (cx.2.2.2.2.2.1 _ kw.2.2.1) (cx.2.2.2.2.2.1 _ kw.1) kw.2.2.2.2 ⟨hrm.2.2.1, hrm.2.2.2⟩, cx.2.2.2.2.2.1 _ kw.2.1⟩ ⟨PRE.fblind, fun U hU hW => ⟨rfl, by rw [hU]; exact hP, va_K.moved hW.alike cx.2.2.2.2.2.2.2.1, hD, fun q hq => cx.2.2.2.2.2.2.2.2.1 q (Nat.le_trans hS.1 (by rw [← hU]; exact hq)), cx.2.2.2.2.2.2.2.2.2.moved hS hU hW⟩⟩ rfl hn hl.1 rfl (lv_room hcat) d hf) hS (fun _ _ h => h) (fun _ h => h) (fun _ _ h => h) (fun E ce q9 u t H1 locs1 ht hvm hp hB hz hk hS1 hce hcv hcl => vx_out (fun x hx => (hex x hx).elim) cx.2.2.2.2.2.2.1 hce hcv hcl (fun t' ht' _ => ⟨(), trivial, ⟨hX E hB.1, by rw [ht', ← ht]; exact hB.2.1, hB.2.2⟩, hS1.F ht'⟩) hS1.2.2 hm0.1 hm0.2) (fun u t H1 locs1 ht hvm hw hB _ _ hS1 => kk u hw H1 locs1 ls (ht ▸ hB.1) hB.2 hS1 hl)

theorem J_new (cx : CX p l s m args meth c own cc ret nL D g A) {ci N index : Nat} {C : String} {T : u_T} {ty : Nat → FieldType} {fs : List Value} (hin : ∀ w ∈ u_ws C T N, w ∈ wAll) (hty : ∀ k, k < N → parseFieldDescriptor (T k).2.2.1 = some (ty k)) (hcl : Cond.classLink own index C ∈ wAll) (hinst : Cond.instantiable C N ∈ wAll) (hini : Cond.initialized C ∈ wAll) (hc : vwCl[ci]? = some (C, T, N)) (hfs : ∀ j, j < N → defaultValue (ty j) = vp_V fs j) (hf : cells + 1 ≤ R.cells ∧ slots + N ≤ R.slots) (d : decode cc pc = .ok (.new index, 3)) (kk : ∀ q, J p l e R s m args below meth c D A nL Q (cells + 1) (slots + N) (ws ++ [(q, .inr (ci, fs))]) L (pc + 3) (.ref q :: st)) : J p l e R s m args below meth c D A nL Q cells slots ws L pc st :=
  fun H locs ls hP hD hS hl => va_new cx.1 cx.2.1 cx.2.2.2.2.2.1 hin ty hty cx.2.2.2.2.1 (cx.2.2.2.2.2.1 _ hcl) (cx.2.2.2.2.2.1 _ hinst) (cx.2.2.2.2.2.1 _ hini) cx.2.2.2.2.2.2.2.1 hP hD hS cx.2.2.2.2.2.2.2.2.1 hc hfs hf.1 hf.2 d (fun q H1 hP1 hD1 hS1 => kk q H1 locs ls hP1 hD1 hS1 hl)

theorem J_newa (cx : CX p l s m args meth c own cc ret nL D g A) {atype : ArrayType} {ty : FieldType} (hac : Cond.arrayClass (newarray.typeOf atype) ∈ wAll) (hty : newarray.typeOf atype = ty) (t0 : Nat) {k : Nat} (ht0 : (tysA g)[t0]? = some (g k, ty)) (hno : ∀ C, ty ≠ .object C) {n : Int32} {N' : Nat} {a0 : vp_A} (ha : ∀ cA : ClassId, vp_cell cA a0 = arrV cA N' (fun _ => defaultValue ty)) (hn : ¬ n < 0) (hN : n.toNatClampNeg = N') (hbytes : N' * componentBytes ty ≤ 536870912) (hf : cells + 1 ≤ R.cells ∧ slots + N' ≤ R.slots) (d : decode cc pc = .ok (.newarray atype, 2)) (kk : ∀ q, J p l e R s m args below meth c D A nL Q (cells + 1) (slots + N') (ws ++ [(q, .inl (g k, a0))]) L (pc + 2) (.ref q :: st)) : J p l e R s m args below meth c D A nL Q cells slots ws L pc (.int n :: st) := by
  intro H locs ls hP hD hS hl
  refine va_newa cx.1 cx.2.1 (cx.2.2.2.2.2.1 _ hac) hty cx.2.2.2.2.2.2.2.1 hP hD hS cx.2.2.2.2.2.2.2.2.1 ha hn hN hbytes hf.1 hf.2 d (fun q cA H1 hK1 hP1 hD1 hS1 => ?_)
  have e1 := (hK1.2 4 (cA, ty) (by rfl)).2
  have e2 := (cx.2.2.2.2.2.2.2.1.2 t0 _ ht0).2
  have e3 : cA = g k := by
    cases ty with
    | object C => exact absurd rfl (hno C)
    | _ => exact Option.some.inj (e1.symm.trans e2)
  subst e3
  exact kk q H1 locs ls hP1 hD1 hS1 hl
theorem J_newq (cx : CX p l s m args meth c own cc ret nL D g A) {index : Nat} (hcl : Cond.classLink own index "Certhold$Certificate" ∈ wAll) {n : Int32} {N' : Nat} (hn : ¬ n < 0) (hN : n.toNatClampNeg = N') (hbytes : N' * 4 ≤ 536870912) (hf : cells + 1 ≤ R.cells ∧ slots + N' ≤ R.slots) (d : decode cc pc = .ok (.anewarray index, 3)) (kk : ∀ q, J p l e R s m args below meth c D A nL Q (cells + 1) (slots + N') (ws ++ [(q, .inl (g 3, N', .inr (.inr (.inr (.inr (fun _ => none))))))]) L (pc + 3) (.ref q :: st)) : J p l e R s m args below meth c D A nL Q cells slots ws L pc (.int n :: st) := by
  intro H locs ls hP hD hS hl
  refine va_newq cx.1 cx.2.1 cx.2.2.2.2.1 (cx.2.2.2.2.2.1 _ hcl) cx.2.2.2.2.2.2.2.2.2.2.2.2.1 cx.2.2.2.2.2.2.2.1 hP hD hS cx.2.2.2.2.2.2.2.2.1 hn hN hbytes hf.1 hf.2 d (fun q cA H1 hK1 hP1 hD1 hS1 => ?_)
  obtain ⟨_, _, -, -, -, e1⟩ := (hK1.2 4 (cA, .object "Certhold$Certificate") (by rfl)).2
  obtain ⟨_, _, -, -, -, e2⟩ := (cx.2.2.2.2.2.2.2.1.2 3 (g 3, .object "Certhold$Certificate") (by rfl)).2
  have e3 : cA = g 3 := Option.some.inj (e1.symm.trans e2)
  subst e3
  exact kk q H1 locs ls hP1 hD1 hS1 hl
theorem J_objInit (cx : CX p l s m args meth c own cc ret nL D g A) {idx a : Nat} (hw : Cond.methodLink own idx Lib.objectInit ∈ wAll) (hR : 1 ≤ R.frames ∧ (st.map fun v => v.category).sum + 12 ≤ R.locals) (d : decode cc pc = .ok (.invokespecial idx, 3)) (kk : J p l e R s m args below meth c D A nL Q cells slots ws L (pc + 3) st) : J p l e R s m args below meth c D A nL Q cells slots ws L pc (.ref a :: st) :=
  fun H locs ls hP hD hS hl => W.objInit cx.1 cx.2.1 cx.2.2.2.2.1 (cx.2.2.2.2.2.1 _ hw) (cx.2.2.2.2.2.1 _ oInst) (cx.2.2.2.2.2.1 _ oCode) rfl (hl.1.trans cx.2.2.2.1.symm) rfl d hR.1 (by show 0 + _ + 12 ≤ _; omega) (kk H locs ls hP hD hS hl)

theorem J_iast (cx : CX p l s m args meth c own cc ret nL D g A) {a n j : Nat} {f : Nat → Int32} {i : Int32} {x : Int32} {ws' : va_W} (q0 : Nat) (he : ws[q0]? = some (a, .inl (g 0, n, .inl f))) (hi : i = nI j) (hj : j < n) (hn : n < 2 ^ 31) (hw : ws.set q0 (a, .inl (g 0, n, .inl (upd f j x))) = ws') (d : decode cc pc = .ok (.iastore, 1)) (kk : J p l e R s m args below meth c D A nL Q cells slots ws' L (pc + 1) st) : J p l e R s m args below meth c D A nL Q cells slots ws L pc (.int x :: .int i :: .ref a :: st) := by
  subst hi
  intro H locs ls hP hD hS hl
  refine va_iast cx.1 cx.2.1 cx.2.2.2.2.2.2.2.1 hP hD hS q0 0 he rfl (vp_in_nI hj hn) d (fun H1 locs1 hP1 hD1 hS1 => ?_)
  rw [nI_clamp (Nat.lt_trans hj hn)] at hP1 hD1
  exact kk H1 locs1 ls (hw ▸ hP1) (hw ▸ hD1) hS1 hl

theorem J_last (cx : CX p l s m args meth c own cc ret nL D g A) {a n j : Nat} {f : Nat → Int64} {i : Int32} {x : Int64} {ws' : va_W} (q0 : Nat) (he : ws[q0]? = some (a, .inl (g 1, n, .inr (.inl f)))) (hi : i = nI j) (hj : j < n) (hn : n < 2 ^ 31) (hw : ws.set q0 (a, .inl (g 1, n, .inr (.inl (vp_updL f j x)))) = ws') (d : decode cc pc = .ok (.lastore, 1)) (kk : J p l e R s m args below meth c D A nL Q cells slots ws' L (pc + 1) st) : J p l e R s m args below meth c D A nL Q cells slots ws L pc (.long x :: .int i :: .ref a :: st) := by
  subst hi
  intro H locs ls hP hD hS hl
  refine va_last cx.1 cx.2.1 cx.2.2.2.2.2.2.2.1 hP hD hS q0 1 he rfl (vp_in_nI hj hn) d (fun H1 locs1 hP1 hD1 hS1 => ?_)
  rw [nI_clamp (Nat.lt_trans hj hn)] at hP1 hD1
  exact kk H1 locs1 ls (hw ▸ hP1) (hw ▸ hD1) hS1 hl

theorem J_zast (cx : CX p l s m args meth c own cc ret nL D g A) {a n j : Nat} {f : Nat → Int32} {i : Int32} {x : Int32} {ws' : va_W} (q0 : Nat) (he : ws[q0]? = some (a, .inl (g 2, n, .inl f))) (hi : i = nI j) (hj : j < n) (hn : n < 2 ^ 31) (hw : ws.set q0 (a, .inl (g 2, n, .inl (upd f j (vp_nar .boolean x)))) = ws') (d : decode cc pc = .ok (.bastore, 1)) (kk : J p l e R s m args below meth c D A nL Q cells slots ws' L (pc + 1) st) : J p l e R s m args below meth c D A nL Q cells slots ws L pc (.int x :: .int i :: .ref a :: st) := by
  subst hi
  intro H locs ls hP hD hS hl
  refine va_zast cx.1 cx.2.1 cx.2.2.2.2.2.2.2.1 hP hD hS q0 2 he rfl (vp_in_nI hj hn) d (fun H1 locs1 hP1 hD1 hS1 => ?_)
  rw [nI_clamp (Nat.lt_trans hj hn)] at hP1 hD1
  exact kk H1 locs1 ls (hw ▸ hP1) (hw ▸ hD1) hS1 hl

theorem J_aast (cx : CX p l s m args meth c own cc ret nL D g A) {a n j v qk : Nat} {vs : List Value} {f : Nat → Option Nat} {i : Int32} {ws' : va_W} (q0 : Nat) (he : ws[q0]? = some (a, .inl (g 3, n, .inr (.inr (.inr (.inr f)))))) (hv : ws[qk]? = some (v, .inr (2, vs))) (hi : i = nI j) (hj : j < n) (hn : n < 2 ^ 31) (hw : ws.set q0 (a, .inl (g 3, n, .inr (.inr (.inr (.inr (va_up f j (some v))))))) = ws') (d : decode cc pc = .ok (.aastore, 1)) (kk : J p l e R s m args below meth c D A nL Q cells slots ws' L (pc + 1) st) : J p l e R s m args below meth c D A nL Q cells slots ws L pc (.ref v :: .int i :: .ref a :: st) := by
  subst hi
  intro H locs ls hP hD hS hl
  refine va_astq (r := (RX0, TX0, 11)) cx.1 cx.2.1 cx.2.2.2.2.2.2.2.1 hP hD hS q0 3 qk 2 he rfl hv rfl (vp_in_nI hj hn) d (fun H1 locs1 hP1 hD1 hS1 => ?_)
  rw [nI_clamp (Nat.lt_trans hj hn)] at hP1 hD1
  exact kk H1 locs1 ls (hw ▸ hP1) (hw ▸ hD1) hS1 hl

/-- what 'throw new E(text)' in the class asks of the tables -/
def TH (ik ic : Nat) (E : String) : Prop := Cond.classLink RX6 ik E ∈ wAll ∧ Cond.initialized E ∈ wAll ∧ (∀ w ∈ vx_atS RX6 ic E ["java/lang/RuntimeException", "java/lang/Exception"], w ∈ lw_tbl ∧ (goodWord w || auxW w) = true) ∧ Bundle.fit E = true
theorem auxW_on {w : Cond} (h : auxW w = true) : w.onTables = true := by cases w <;> first | rfl | (simp [auxW] at h; done)
theorem ot_of {w : Cond} (h : (goodWord w || auxW w) = true) : vx_ot w = true := by
  simp only [Bool.or_eq_true] at h
  rcases h with h | h
  · simp [vx_ot, h]
  · simp [vx_ot, auxW_on h]
theorem J_throw (cx : CX p l s m args meth c own cc ret nL D g A) (hex : ∀ x ∈ c.exceptionTable.toList, False) (htr : l.stackTraces = false) (ho : own = RX6) {ik is ic mc ms : Nat} {E text : String} {XP : String → Prop} {Qc : Array Value → State → Outcome → State → Prop} (th : TH ik ic E) (hs : (is, text) ∈ strL) (hX : XP E)
    (d0 : decode cc pc = .ok (.new ik, 3)) (d3 : decode cc (pc + 3) = .ok (.dup, 1)) (d4 : decode cc (pc + 4) = .ok (.ldc is, 2) ∧ decode cc (pc + 6) = .ok (.invokespecial ic, 3) ∧ decode cc (pc + 9) = .ok (.athrow, 1) ∨ decode cc (pc + 4) = .ok (.ldc_w is, 3) ∧ decode cc (pc + 7) = .ok (.invokespecial ic, 3) ∧ decode cc (pc + 10) = .ok (.athrow, 1))
    (hR : 5 < R.frames ∧ (st.map fun v => v.category).sum + 82 ≤ R.locals ∧ cells + 1 ≤ R.cells ∧ slots + 6 ≤ R.slots) (hm : cells + 1 ≤ mc ∧ slots + 6 ≤ ms) : J p l e R s m args below meth c D A nL (vx_MQ below Qc (XQ XP D A ws) args s mc ms A) cells slots ws L pc st := by
  intro H locs ls hP hD hS hl
  subst ho
  obtain ⟨sa, hstr⟩ := cx.2.2.2.2.2.2.2.2.2.2.2.1 _ hs
  have hat : ∀ w ∈ vx_atS RX6 ic E ["java/lang/RuntimeException", "java/lang/Exception"], w.before args s = true := by
    intro w hw
    obtain ⟨h1, h2⟩ := th.2.2.1 w hw
    by_cases h3 : goodWord w = true
    · exact cx.2.2.2.2.2.1 w (List.mem_filter.mpr ⟨h1, h3⟩)
    · have h4 : auxW w = true := by simpa [h3] using h2
      exact va_Nw.use (auxW_on h4) (cx.2.2.2.2.2.2.2.2.2.2.2.2.2 w h1 h4)
  have hgd : ∀ w ∈ Cond.classLink RX6 ik E :: Cond.initialized E :: vx_atS RX6 ic E ["java/lang/RuntimeException", "java/lang/Exception"], vx_ot w = true :=
    List.forall_mem_cons.mpr ⟨rfl, List.forall_mem_cons.mpr ⟨rfl, fun w hw => ot_of (th.2.2.1 w hw).2⟩⟩
  have hx : ∀ t : State, s.vm.Alike t.vm → H.size ≤ t.heap.size → (∀ q : Nat, q < H.size → t.heap[q]? = H[q]?) → XQ XP D A ws E s t := fun t _ h1 h2 =>
    ⟨(), trivial, ⟨hX, hP.kept (fun k x hk => h2 x.1 (hP k x hk).lt), hD⟩, Nat.le_trans hS.1 h1, fun q q1 q2 => (h2 q (Nat.lt_of_lt_of_le q1 hS.1)).trans (hS.2.1 q q1 q2)⟩
  rcases d4 with ⟨d4, d6, d9⟩ | ⟨d4, d6, d9⟩
  · exact vx_throwS cx.1 cx.2.1 htr cx.2.2.2.2.1 th.2.2.2 (by decide) (cx.2.2.2.2.2.1 _ th.1) (cx.2.2.2.2.2.1 _ th.2.1) hstr hat hgd cx.2.2.2.2.2.2.2.2.2.1 cx.2.2.2.2.2.2.2.2.2.2.1 hS (hl.1.trans cx.2.2.2.1.symm) d0 d3 d4 d6 d9 (fun x hx => (hex x hx).elim) hR.1 (by simpa using hR.2.1) hR.2.2.1 hR.2.2.2 cx.2.2.2.2.2.2.1 hx hS.2.2 hm.1 hm.2
  · exact vx_throwSW cx.1 cx.2.1 htr cx.2.2.2.2.1 th.2.2.2 (by decide) (cx.2.2.2.2.2.1 _ th.1) (cx.2.2.2.2.2.1 _ th.2.1) hstr hat hgd cx.2.2.2.2.2.2.2.2.2.1 cx.2.2.2.2.2.2.2.2.2.2.1 hS (hl.1.trans cx.2.2.2.1.symm) d0 d3 d4 d6 d9 (fun x hx => (hex x hx).elim) hR.1 (by simpa using hR.2.1) hR.2.2.1 hR.2.2.2 cx.2.2.2.2.2.2.1 hx hS.2.2 hm.1 hm.2

end JJ
end
section
theorem th_298 : TH 294 298 "java/lang/IllegalArgumentException" := ⟨lX6_294, zjava_lang_IllegalArgumentException, by decide +kernel, rfl⟩
theorem th_89 : TH 85 89 "java/lang/IllegalStateException" := ⟨lX6_85, zjava_lang_IllegalStateException, by decide +kernel, rfl⟩
theorem th_197 : TH 193 197 "java/lang/IndexOutOfBoundsException" := ⟨lX6_193, zjava_lang_IndexOutOfBoundsException, by decide +kernel, rfl⟩
theorem th_267 : TH 263 267 "java/lang/ArithmeticException" := ⟨lX6_263, zjava_lang_ArithmeticException, by decide +kernel, rfl⟩
end
section
/-! the mathematical state that both sides are tied to, and what the small methods answer -/
/-- certificates' ints (0 name, 1 key, 2 first, 3 last, 4 issuer's name, 5 issuer's key, 6 length, 7 permitted, 8 excluded, 9 effect) and booleans (0 authority, 1 root, 2 trusted, 3 marked); numbers (0 certificates, 1 keys, 2 day, 3 walked); the walk; its day -/
abbrev CS : Type := (Nat → Nat → Int32) × (Nat → Nat → Bool) × (Nat → Nat) × (Nat → Nat) × Int32
def upI (I : Nat → Nat → Int32) (f j : Nat) (x : Int32) : Nat → Nat → Int32 := fun f' => if f' = f then upd (I f) j x else I f'
def upb (f : Nat → Bool) (j : Nat) (x : Bool) : Nat → Bool := fun k => if k = j then x else f k
def upB (B : Nat → Nat → Bool) (f j : Nat) (x : Bool) : Nat → Nat → Bool := fun f' => if f' = f then upb (B f) j x else B f'
def upn (f : Nat → Nat) (j x : Nat) : Nat → Nat := fun k => if k = j then x else f k
theorem upn_nI (f : Nat → Nat) (j x : Nat) : upd (fun i => nI (f i)) j (nI x) = fun i => nI (upn f j x i) := by
  funext k; unfold upd upn; split <;> rfl
theorem upb_zb (f : Nat → Bool) (j : Nat) (x : Bool) : upd (fun i => zb (f i)) j (zb x) = fun i => zb (upb f j x i) := by
  funext k; unfold upd upb; split <;> rfl
/-- all digits of a number but the leading zeros are not 0 -/
def nz : Nat → Nat → Bool
  | 0, _ => true
  | f + 1, j => if j = 0 then true else decide (j % 10 ≠ 0) && nz f (j / 10)
theorem nz_0 (f : Nat) : nz f 0 = true := by cases f <;> rfl
theorem nz_s {f j : Nat} (hj : 0 < j) (h : j < 10 ^ f) : nz f j = (decide (j % 10 ≠ 0) && nz (f - 1) (j / 10)) ∧ j / 10 < 10 ^ (f - 1) := by
  cases f with
  | zero => simp at h; omega
  | succ f =>
    refine ⟨?_, ?_⟩
    · show (if j = 0 then true else decide (j % 10 ≠ 0) && nz f (j / 10)) = _
      rw [if_neg (by omega)]
      rfl
    · rw [Nat.pow_succ] at h
      show j / 10 < 10 ^ f
      omega
def nameB (x : Int32) : Bool := decide ((1 : Int32) ≤ x ∧ x ≤ 9999) && nz 10 x.toNatClampNeg
/-- a name is below another one -/
def und : Nat → Nat → Nat → Bool
  | 0, k, o => k == o
  | f + 1, k, o => if o < k then und f (k / 10) o else k == o
theorem und_le {f k o : Nat} (h : k ≤ o) : und f k o = (k == o) := by
  cases f with
  | zero => rfl
  | succ f => show (if o < k then _ else _) = _; rw [if_neg (by omega)]
theorem und_s {f k o : Nat} (h : o < k) (hk : k < 10 ^ f) : und f k o = und (f - 1) (k / 10) o ∧ k / 10 < 10 ^ (f - 1) := by
  cases f with
  | zero => simp at hk; omega
  | succ f =>
    refine ⟨?_, ?_⟩
    · show (if o < k then _ else _) = _
      rw [if_pos h]; rfl
    · rw [Nat.pow_succ] at hk
      show k / 10 < 10 ^ f
      omega
def belowB (x y : Int32) : Bool := und 10 x.toNatClampNeg y.toNatClampNeg
/-- a certificate's number of n -/
def inR (n : Nat) (c : Int32) : Bool := decide ((0 : Int32) ≤ c) && decide (c.toNatClampNeg < n)
theorem inR_nI {n j : Nat} (hj : j < 2147483648) : inR n (nI j) = decide (j < n) := by
  unfold inR; rw [nI_clamp hj, decide_eq_true (nI_pos' hj)]; rfl
theorem inR_neg {n : Nat} {x : Int32} (h : x < 0) : inR n x = false := by
  unfold inR; rw [decide_eq_false (fun q => Int32.lt_irrefl (Int32.lt_of_lt_of_le h q))]; rfl
theorem inR_spec {n : Nat} {c : Int32} (h : inR n c = true) (hn : n < 2147483648) : ∃ j, j < n ∧ c = nI j := by
  rcases i32_cases c with ⟨j, hj, rfl⟩ | h2
  · rw [inR_nI hj] at h; exact ⟨j, of_decide_eq_true h, rfl⟩
  · rw [inR_neg h2] at h; cases h
def dayB (x : Int32) : Bool := decide ((1 : Int32) ≤ x ∧ x ≤ 999)
def lenB (x : Int32) : Bool := decide ((0 : Int32) ≤ x ∧ x ≤ 5)
def isInB (v lo hi : Int32) : Bool := decide (lo ≤ v ∧ v ≤ hi)
theorem isInB_lo {v lo hi : Int32} (h : v < lo) : isInB v lo hi = false := decide_eq_false fun q => Int32.lt_irrefl (Int32.lt_of_lt_of_le h q.1)
theorem isInB_hi {v lo hi : Int32} (h : hi < v) : isInB v lo hi = false := decide_eq_false fun q => Int32.lt_irrefl (Int32.lt_of_lt_of_le h q.2)
theorem isInB_in {v lo hi : Int32} (h1 : ¬ v < lo) (h2 : ¬ hi < v) : isInB v lo hi = true := decide_eq_true ⟨Int32.not_lt.mp h1, Int32.not_lt.mp h2⟩
theorem isInB_nI {j a b : Nat} (hj : j < 2147483648) (ha : a < 2147483648) (hb : b < 2147483648) : isInB (nI j) (nI a) (nI b) = decide (a ≤ j ∧ j ≤ b) := by
  unfold isInB; rw [decide_eq_decide, nI_leI ha hj, nI_leI hj hb]
theorem isInB_neg {x b : Int32} {a : Nat} (h : x < 0) (ha : a < 2147483648) : isInB x (nI a) b = false := decide_eq_false fun q => Int32.lt_irrefl (Int32.lt_of_lt_of_le h (Int32.le_trans (nI_pos' ha) q.1))
theorem isInB_inR {n : Nat} {x : Int32} (hn : n ≤ 40) : isInB x (nI 0) (nI n - nI 1) = inR n x := by
  rcases i32_cases x with ⟨j, hj, rfl⟩ | h
  · rw [inR_nI hj]
    rcases Nat.eq_zero_or_pos n with h0 | h0
    · subst h0
      have e : nI 0 - nI 1 = -1 := by decide
      rw [e, decide_eq_false (by omega)]
      refine decide_eq_false fun q => ?_
      have h1 := Int32.le_trans (nI_pos' hj) q.2
      exact absurd h1 (by decide)
    · rw [pk_sub h0, isInB_nI hj (by omega) (by omega), decide_eq_decide]
      omega
  · rw [inR_neg h, isInB_neg h (by omega)]
theorem nameB_neg {x : Int32} (h : x < 0) : nameB x = false := by
  unfold nameB; rw [decide_eq_false (fun q => Int32.lt_irrefl (Int32.lt_of_lt_of_le h (Int32.le_trans (by decide) q.1)))]; rfl
theorem nameB_nI {j : Nat} (hj : j < 2147483648) : nameB (nI j) = (isInB (nI j) (nI 1) (nI 9999) && nz 10 j) := by
  unfold nameB isInB; rw [nI_clamp hj]; rfl
theorem nameB_le {x : Int32} (h : nameB x = true) : ∃ j, 1 ≤ j ∧ j ≤ 9999 ∧ x = nI j ∧ nz 10 j = true := by
  rcases i32_cases x with ⟨j, hj, rfl⟩ | h2
  · rw [nameB_nI hj, isInB_nI hj (by omega) (by omega)] at h
    simp at h
    exact ⟨j, h.1.1, h.1.2, rfl, h.2⟩
  · rw [nameB_neg h2] at h; cases h
theorem belowB_nI {a b : Nat} (ha : a < 2147483648) (hb : b < 2147483648) : belowB (nI a) (nI b) = und 10 a b := by
  unfold belowB; rw [nI_clamp ha, nI_clamp hb]
/-- a certificate is made: its row, one more of them -/
def mkK (κ : CS) (nm ky bn bk dy : Int32) : CS :=
  (upI (upI (upI (upI (upI (upI (upI κ.1 0 (κ.2.2.1 0) nm) 1 (κ.2.2.1 0) ky) 4 (κ.2.2.1 0) bn) 5 (κ.2.2.1 0) bk) 2 (κ.2.2.1 0) (nI (κ.2.2.1 2))) 3 (κ.2.2.1 0) (nI (κ.2.2.1 2) + dy - nI 1)) 9 (κ.2.2.1 0) (-1), κ.2.1, upn κ.2.2.1 0 (κ.2.2.1 0 + 1), κ.2.2.2)
/-- it is an authority -/
def auK (κ : CS) (i : Nat) (ln : Int32) : CS := (upI κ.1 6 i ln, upB κ.2.1 0 i true, κ.2.2)
/-- a key more -/
def kyK (κ : CS) : CS := (κ.1, κ.2.1, upn κ.2.2.1 1 (κ.2.2.1 1 + 1), κ.2.2.2)
def setB (κ : CS) (f i : Nat) (b : Bool) : CS := (κ.1, upB κ.2.1 f i b, κ.2.2)
def setI (κ : CS) (f i : Nat) (v : Int32) : CS := (upI κ.1 f i v, κ.2)
def setN (κ : CS) (j v : Nat) : CS := (κ.1, κ.2.1, upn κ.2.2.1 j v, κ.2.2.2)
/-- an operation's outcome: which exception of its list (0 none), the answer, the state behind -/
abbrev Out : Type := Nat × Int32 × CS
def opMakeRoot (κ : CS) (nm dy ln : Int32) : Out :=
  if nameB nm && isInB dy (nI 1) (nI 999) && isInB ln (nI 0) (nI 5) then
    if decide (κ.2.2.1 0 = 40) then (2, nI 0, κ) else (0, nI (κ.2.2.1 0), setB (auK (mkK (kyK κ) nm (nI (κ.2.2.1 1 + 1)) nm (nI (κ.2.2.1 1 + 1)) dy) (κ.2.2.1 0) ln) 1 (κ.2.2.1 0) true)
  else (1, nI 0, κ)
/-- how many of the first k numbers are so; whether one is -/
def cnt (p : Nat → Bool) : Nat → Nat
  | 0 => 0
  | k + 1 => cnt p k + (if p k then 1 else 0)
theorem cnt_le (p : Nat → Bool) : ∀ k, cnt p k ≤ k
  | 0 => Nat.le_refl _
  | k + 1 => by have := cnt_le p k; show cnt p k + _ ≤ k + 1; split <;> omega
theorem cnt_t {p : Nat → Bool} {k : Nat} (h : p k = true) : cnt p k + 1 = cnt p (k + 1) := by show _ = cnt p k + _; rw [if_pos h]
theorem cnt_f {p : Nat → Bool} {k : Nat} (h : p k = false) : cnt p k + 0 = cnt p (k + 1) := by show _ = cnt p k + _; rw [if_neg (by rw [h]; decide)]
theorem cnt_congr {p q : Nat → Bool} {n : Nat} (h : ∀ k, k < n → p k = q k) : cnt p n = cnt q n := by
  induction n with
  | zero => rfl
  | succ n ih => show cnt p n + _ = cnt q n + _; rw [ih (fun k hk => h k (by omega)), h n (by omega)]
def anyN (p : Nat → Bool) : Nat → Bool
  | 0 => false
  | k + 1 => anyN p k || p k
theorem anyN_congr {p q : Nat → Bool} {n : Nat} (h : ∀ k, k < n → p k = q k) : anyN p n = anyN q n := by
  induction n with
  | zero => rfl
  | succ n ih => show (anyN p n || _) = (anyN q n || _); rw [ih (fun k hk => h k (by omega)), h n (by omega)]
/-- the first of n numbers that is so -/
def fstN (q : Nat → Bool) : Nat → Option Nat
  | 0 => none
  | k + 1 => match fstN q k with | some j => some j | none => if q k then some k else none
theorem fstN_none {q : Nat → Bool} {n : Nat} (h : ∀ k, k < n → q k = false) : fstN q n = none := by
  induction n with
  | zero => rfl
  | succ n ih => show (match fstN q n with | some j => some j | none => if q n then some n else none) = none; rw [ih (fun k hk => h k (by omega))]; simp [h n (by omega)]
theorem fstN_some {q : Nat → Bool} {n k : Nat} (hk : k < n) (hq : q k = true) (h : ∀ j, j < k → q j = false) : fstN q n = some k := by
  induction n with
  | zero => omega
  | succ n ih =>
    show (match fstN q n with | some j => some j | none => if q n then some n else none) = some k
    rcases Nat.lt_or_ge k n with h1 | h1
    · rw [ih h1]
    · have e : k = n := by omega
      subst e
      rw [fstN_none h]; simp [hq]
theorem fstN_spec {q : Nat → Bool} {n k : Nat} (h : fstN q n = some k) : k < n ∧ q k = true ∧ ∀ j, j < k → q j = false := by
  induction n with
  | zero => cases h
  | succ n ih =>
    have h1 : (match fstN q n with | some j => some j | none => if q n then some n else none) = some k := h
    cases hf : fstN q n with
    | some j =>
      rw [hf] at h1
      obtain ⟨a, b, c⟩ := ih (by rw [hf]; exact h1)
      exact ⟨by omega, b, c⟩
    | none =>
      rw [hf] at h1
      by_cases hq : q n = true
      · simp [hq] at h1
        subst h1
        refine ⟨by omega, hq, fun j hj => ?_⟩
        cases hqj : q j with
        | false => rfl
        | true =>
          exfalso
          obtain ⟨k', hk', hm⟩ := pk_least (fun z => q z = true) ⟨j, hqj⟩
          have hlt : k' < n := Nat.lt_of_le_of_lt (Nat.le_of_not_lt fun hc => hm j hc hqj) hj
          have := fstN_some (n := n) hlt hk' (fun z hz => by cases hz2 : q z with | false => rfl | true => exact absurd hz2 (hm z hz))
          rw [hf] at this; cases this
      · simp [hq] at h1
def offB (κ : CS) (i : Nat) (on : Int32) : Bool := !decide (κ.1 9 i < 0) && !decide (on < κ.1 9 i)
def validB (κ : CS) (i : Nat) (on : Int32) : Bool := isInB on (κ.1 2 i) (κ.1 3 i)
def candB (κ : CS) (i k : Nat) : Bool := !decide (k = i) && (decide (κ.1 1 k = κ.1 5 i) && decide (κ.1 0 k = κ.1 4 i))
def pendF (i5 i9 : Nat → Int32) (b3 : Nat → Bool) (ky : Int32) (k : Nat) : Bool := decide (i5 k = ky) && (b3 k && decide (i9 k < 0))
abbrev pendB (κ : CS) (ky : Int32) : Nat → Bool := pendF (κ.1 5) (κ.1 9) (κ.2.1 3) ky
def issB (κ : CS) (ky : Int32) (k : Nat) : Bool := decide (κ.1 5 k = ky) && !κ.2.1 1 k
/-- the effects after the first j certificates, when a list is published -/
def pubI (κ : CS) (ky : Int32) : Nat → Nat → Nat → Int32
  | 0 => κ.1
  | j + 1 => upI (pubI κ ky j) 9 j (if pendB κ ky j then nI (κ.2.2.1 2) else κ.1 9 j)
theorem pubI_ge (κ : CS) (ky : Int32) : ∀ (j k : Nat), j ≤ k → ∀ f, pubI κ ky j f k = κ.1 f k
  | 0, _, _, _ => rfl
  | j + 1, k, h, f => by
    show (if f = 9 then upd (pubI κ ky j 9) j _ else pubI κ ky j f) k = _
    by_cases h9 : f = 9
    · subst h9
      rw [if_pos rfl, pk_un (by omega)]
      exact pubI_ge κ ky j k (by omega) 9
    · rw [if_neg h9]
      exact pubI_ge κ ky j k (by omega) f
theorem pubI_ne (κ : CS) (ky : Int32) (f : Nat) (h : f ≠ 9) : ∀ j, pubI κ ky j f = κ.1 f
  | 0 => rfl
  | j + 1 => by
    show (if f = 9 then upd (pubI κ ky j 9) j _ else pubI κ ky j f) = _
    rw [if_neg h]; exact pubI_ne κ ky f h j
/-- why a certificate cannot be issued (0: it can) -/
def canI (κ : CS) (xc : Int32) (is : Bool) : Nat :=
  if inR (κ.2.2.1 0) xc then (if is then (if κ.2.1 0 xc.toNatClampNeg && !decide (κ.2.2.1 0 = 40) then 0 else 3) else 2) else 1
theorem canI_0 {κ : CS} {xc : Int32} {is : Bool} (h : canI κ xc is = 0) (hn : κ.2.2.1 0 ≤ 40) : ∃ j, j < κ.2.2.1 0 ∧ xc = nI j ∧ is = true ∧ κ.2.1 0 j = true ∧ κ.2.2.1 0 < 40 := by
  unfold canI at h
  by_cases h1 : inR (κ.2.2.1 0) xc = true
  · obtain ⟨j, hj, rfl⟩ := inR_spec h1 (by omega)
    rw [if_pos h1, nI_clamp (by omega)] at h
    cases is
    · simp at h
    · cases hb : κ.2.1 0 j
      · simp [hb] at h
      · simp [hb] at h
        refine ⟨j, hj, rfl, rfl, hb, ?_⟩
        by_cases h4 : κ.2.2.1 0 = 40
        · simp [h4] at h
        · omega
  · rw [if_neg h1] at h; cases h
abbrev xj (x : Int32) : Nat := x.toNatClampNeg
def opIssue (κ : CS) (xc nm dy : Int32) : Out :=
  if canI κ xc (nameB nm && isInB dy (nI 1) (nI 999)) = 0 then (0, nI (κ.2.2.1 0), mkK (kyK κ) nm (nI (κ.2.2.1 1 + 1)) (κ.1 0 (xj xc)) (κ.1 1 (xj xc)) dy) else (canI κ xc (nameB nm && isInB dy (nI 1) (nI 999)), nI 0, κ)
def opIssueA (κ : CS) (xc nm dy ln : Int32) : Out :=
  if canI κ xc (nameB nm && (isInB dy (nI 1) (nI 999) && isInB ln (nI 0) (nI 5))) = 0 then (0, nI (κ.2.2.1 0), auK (mkK (kyK κ) nm (nI (κ.2.2.1 1 + 1)) (κ.1 0 (xj xc)) (κ.1 1 (xj xc)) dy) (κ.2.2.1 0) ln) else (canI κ xc (nameB nm && (isInB dy (nI 1) (nI 999) && isInB ln (nI 0) (nI 5))), nI 0, κ)
def wkB (κ : CS) (ky : Int32) (k : Nat) : Bool := decide (κ.1 1 k = ky)
def opCross (κ : CS) (xc xs dy ln : Int32) : Out :=
  if inR (κ.2.2.1 0) xc && inR (κ.2.2.1 0) xs then
    if isInB dy (nI 1) (nI 999) && isInB ln (nI 0) (nI 5) then
      if κ.2.1 0 (xj xc) && (κ.2.1 0 (xj xs) && (!decide (κ.1 1 (xj xc) = κ.1 1 (xj xs)) && (!decide (2 < cnt (wkB κ (κ.1 1 (xj xs))) (κ.2.2.1 0)) && !decide (κ.2.2.1 0 = 40)))) then
        (0, nI (κ.2.2.1 0), auK (mkK κ (κ.1 0 (xj xs)) (κ.1 1 (xj xs)) (κ.1 0 (xj xc)) (κ.1 1 (xj xc)) dy) (κ.2.2.1 0) ln)
      else (3, nI 0, κ)
    else (2, nI 0, κ)
  else (1, nI 0, κ)
def nm0 (x : Int32) : Bool := decide (x = 0) || nameB x
def opSetNames (κ : CS) (xc xp xe : Int32) : Out :=
  if inR (κ.2.2.1 0) xc then
    if nm0 xp && nm0 xe then
      if κ.2.1 0 (xj xc) && !anyN (issB κ (κ.1 1 (xj xc))) (κ.2.2.1 0) then
        (0, nI ((if decide (xp = 0) then 0 else 1) + (if decide (xe = 0) then 0 else 1)), setI (setI κ 7 (xj xc) xp) 8 (xj xc) xe)
      else (3, nI 0, κ)
    else (2, nI 0, κ)
  else (1, nI 0, κ)
def opTrust (κ : CS) (xc : Int32) (b : Bool) : Out :=
  if inR (κ.2.2.1 0) xc then
    if κ.2.1 1 (xj xc) then (0, nI (cnt (upB κ.2.1 2 (xj xc) b 2) (κ.2.2.1 0)), setB κ 2 (xj xc) b) else (2, nI 0, κ)
  else (1, nI 0, κ)
def opRevoke (κ : CS) (xc : Int32) : Out :=
  if inR (κ.2.2.1 0) xc then
    if κ.2.1 1 (xj xc) || κ.2.1 3 (xj xc) then (2, nI 0, κ) else (0, nI (cnt (pendF (κ.1 5) (κ.1 9) (upB κ.2.1 3 (xj xc) true 3) (κ.1 5 (xj xc))) (κ.2.2.1 0)), setB κ 3 (xj xc) true)
  else (1, nI 0, κ)
def opPublish (κ : CS) (xc : Int32) : Out :=
  if inR (κ.2.2.1 0) xc then
    if κ.2.1 0 (xj xc) then (0, nI (cnt (pendB κ (κ.1 1 (xj xc))) (κ.2.2.1 0)), (pubI κ (κ.1 1 (xj xc)) (κ.2.2.1 0), κ.2)) else (2, nI 0, κ)
  else (1, nI 0, κ)
def opPass (κ : CS) (dy : Int32) : Out :=
  if isInB dy (nI 1) (nI 999) then (0, nI (κ.2.2.1 2 + xj dy), setN κ 2 (κ.2.2.1 2 + xj dy)) else (1, nI 0, κ)
theorem any_t {p : Nat → Bool} {k : Nat} (h : p k = true) : (anyN p k || true) = anyN p (k + 1) := by show _ = (anyN p k || p k); rw [h]
theorem any_f {p : Nat → Bool} {k : Nat} (h : p k = false) : (anyN p k || false) = anyN p (k + 1) := by show _ = (anyN p k || p k); rw [h]
def nthB (κ : CS) (i : Nat) (rk : Int32) (k : Nat) : Bool := candB κ i k && decide (nI (cnt (candB κ i) k) = rk)
def cdI : Option Nat → Int32
  | some k => nI k
  | none => -1
def opCandidates (κ : CS) (xc : Int32) : Nat × Int32 := if inR (κ.2.2.1 0) xc then (0, nI (cnt (candB κ (xj xc)) (κ.2.2.1 0))) else (1, nI 0)
def opCandidateAt (κ : CS) (xc rk : Int32) : Nat × Int32 :=
  if inR (κ.2.2.1 0) xc then (match fstN (nthB κ (xj xc) rk) (κ.2.2.1 0) with | some k => (0, nI k) | none => (2, nI 0)) else (1, nI 0)
def opGet (κ : CS) (f : Nat) (xc : Int32) : Nat × Int32 := if inR (κ.2.2.1 0) xc then (0, κ.1 f (xj xc)) else (1, nI 0)
def opKind (κ : CS) (xc : Int32) : Nat × Int32 := if inR (κ.2.2.1 0) xc then (0, if κ.2.1 1 (xj xc) then nI 114 else if κ.2.1 0 (xj xc) then nI 97 else nI 101) else (1, nI 0)
def opBelow (x y : Int32) : Nat × Bool := if nameB x && nameB y then (0, belowB x y) else (1, false)
def wrongC (κ : CS) (xc dy : Int32) : Nat := if inR (κ.2.2.1 0) xc then (if decide (dy < 0) then 2 else 0) else 1
def opRevoked (κ : CS) (xc dy : Int32) : Nat × Bool := if decide (wrongC κ xc dy = 0) then (0, offB κ (xj xc) dy) else (wrongC κ xc dy, false)
theorem isInB_ex {x : Int32} (h : isInB x (nI 1) (nI 999) = true) : ∃ j : Nat, 1 ≤ j ∧ j ≤ 999 ∧ x = nI j := by
  rcases i32_cases x with ⟨j, hj, rfl⟩ | h2
  · rw [isInB_nI hj (by omega) (by omega)] at h
    have := of_decide_eq_true h
    exact ⟨j, this.1, this.2, rfl⟩
  · rw [isInB_neg h2 (by omega)] at h; cases h
end
section
/-! the reference's world: one object and its 17 rows; κ is the mathematical state, the rest its scratch -/
abbrev kI (κ : CS) : Nat → Nat → Int32 := κ.1
abbrev kB (κ : CS) : Nat → Nat → Bool := κ.2.1
abbrev kN (κ : CS) : Nat → Nat := κ.2.2.1
abbrev kW (κ : CS) : Nat → Nat := κ.2.2.2.1
abbrev kD (κ : CS) : Int32 := κ.2.2.2.2
def mW (ad : Nat → Nat) (g : Nat → ClassId) (κ : CS) (th : Int32) (ch : Nat → Nat) (cm rm : Nat) (row : Nat → Int64) : va_W :=
  [(ad 0, .inr (9, [.ref (ad 1), .ref (ad 2), .ref (ad 3), .ref (ad 4), .ref (ad 5), .ref (ad 6), .ref (ad 7), .ref (ad 8), .ref (ad 9), .ref (ad 10), .ref (ad 11), .ref (ad 12), .ref (ad 13), .ref (ad 14), .ref (ad 15), .ref (ad 16), .ref (ad 17), .int (nI (kN κ 0)), .int (nI (kN κ 1)), .int (nI (kN κ 2)), .int (nI (kN κ 3)), .int (kD κ), .int (nI cm), .int (nI rm), .int th])),
   (ad 1, .inl (g 0, 40, .inl (kI κ 0))), (ad 2, .inl (g 0, 40, .inl (kI κ 1))), (ad 3, .inl (g 0, 40, .inl (kI κ 2))), (ad 4, .inl (g 0, 40, .inl (kI κ 3))), (ad 5, .inl (g 0, 40, .inl (kI κ 4))), (ad 6, .inl (g 0, 40, .inl (kI κ 5))), (ad 7, .inl (g 0, 40, .inl (kI κ 6))), (ad 8, .inl (g 0, 40, .inl (kI κ 7))), (ad 9, .inl (g 0, 40, .inl (kI κ 8))), (ad 10, .inl (g 0, 40, .inl (kI κ 9))),
   (ad 11, .inl (g 2, 40, .inl (fun i => zb (kB κ 0 i)))), (ad 12, .inl (g 2, 40, .inl (fun i => zb (kB κ 1 i)))), (ad 13, .inl (g 2, 40, .inl (fun i => zb (kB κ 2 i)))), (ad 14, .inl (g 2, 40, .inl (fun i => zb (kB κ 3 i)))),
   (ad 15, .inl (g 0, 8, .inl (fun i => nI (ch i)))), (ad 16, .inl (g 0, 40, .inl (fun i => nI (kW κ i)))), (ad 17, .inl (g 1, 40, .inr (.inl row)))]
/-- contracts of methods that make nothing and throw nothing: the answer and the world behind -/
abbrev CtI (l : Launch) (D : va_G) (g : Nat → ClassId) (A : Nat → Prop) (y : MethodName) (cc : ByteArray) (nL : Nat) (rt : FieldType) (rm : Room) (av : List Value) (ws : va_W) (f : Int32) (ws' : va_W) : Prop := Met l y (wsA y cc nL (some rt)) rm (va_Pc av (PRE D g A ws)) (va_Qi (fun (r : Int32) (_ : Unit) => r = f) (fun _ => PO D A ws') A) 0 0 A
abbrev CtL (l : Launch) (D : va_G) (g : Nat → ClassId) (A : Nat → Prop) (y : MethodName) (cc : ByteArray) (nL : Nat) (rt : FieldType) (rm : Room) (av : List Value) (ws : va_W) (f : Int64) (ws' : va_W) : Prop := Met l y (wsA y cc nL (some rt)) rm (va_Pc av (PRE D g A ws)) (va_Ql (fun (r : Int64) (_ : Unit) => r = f) (fun _ => PO D A ws') A) 0 0 A
abbrev CtF (l : Launch) (D : va_G) (g : Nat → ClassId) (A : Nat → Prop) (y : MethodName) (cc : ByteArray) (nL : Nat) (rt : FieldType) (rm : Room) (av : List Value) (ws : va_W) (f : UInt32) (ws' : va_W) : Prop := Met l y (wsA y cc nL (some rt)) rm (va_Pc av (PRE D g A ws)) (va_Qf (fun (r : UInt32) (_ : Unit) => r = f) (fun _ => PO D A ws') A) 0 0 A
abbrev CtD (l : Launch) (D : va_G) (g : Nat → ClassId) (A : Nat → Prop) (y : MethodName) (cc : ByteArray) (nL : Nat) (rt : FieldType) (rm : Room) (av : List Value) (ws : va_W) (f : UInt64) (ws' : va_W) : Prop := Met l y (wsA y cc nL (some rt)) rm (va_Pc av (PRE D g A ws)) (va_Qd (fun (r : UInt64) (_ : Unit) => r = f) (fun _ => PO D A ws') A) 0 0 A
abbrev CtV (l : Launch) (D : va_G) (g : Nat → ClassId) (A : Nat → Prop) (y : MethodName) (cc : ByteArray) (nL : Nat) (rm : Room) (av : List Value) (ws ws' : va_W) : Prop := Met l y (wsA y cc nL none) rm (va_Pc av (PRE D g A ws)) (va_Qv (fun (_ : Unit) => True) (fun _ => PO D A ws') A) 0 0 A
end
section
set_option maxHeartbeats 4000000 in
set_option maxRecDepth 100000 in
theorem tX7_thrown (l : Launch) (D : va_G) (g : Nat → ClassId) (A : Nat → Prop) (ad : Nat → Nat) (κ : CS) (th : Int32) (ch : Nat → Nat) (cm rm : Nat) (row : Nat → Int64)    : CtI l D g A yX7_thrown cX7_thrown 1 .int ({ frames := 0, cells := 0, slots := 0, locals := 0 } : Room) [.ref (ad 0)] (mW ad g κ th ch cm rm row) (th) (mW ad g κ th ch cm rm row) := by
  refine metJ (by decide) (Nat.le_of_ble_eq_true rfl) ?_
  intro p e s m args below meth c _ _ cx
  refine J_aload_n cx dX7_thrown_0 rfl 0 rfl ?_
  refine J_get cx (v := .int th) fX7_63 0 rfl rfl dX7_thrown_1 ?_
  exact J_iret cx rfl (u := ()) rfl rfl (by decide) (by decide) dX7_thrown_4
set_option maxHeartbeats 4000000 in
set_option maxRecDepth 100000 in
theorem tX7_tells (l : Launch) (D : va_G) (g : Nat → ClassId) (A : Nat → Prop) (ad : Nat → Nat) (κ : CS) (th : Int32) (ch : Nat → Nat) (cm rm : Nat) (row : Nat → Int64)  (v : Int32)  : CtI l D g A yX7_tells cX7_tells 2 .int ({ frames := 0, cells := 0, slots := 0, locals := 0 } : Room) [.ref (ad 0), .int v] (mW ad g κ th ch cm rm row) (v) (mW ad g κ (nI 0) ch cm rm row) := by
  refine metJ (by decide) (Nat.le_of_ble_eq_true rfl) ?_
  intro p e s m args below meth c _ _ cx
  refine J_aload_n cx dX7_tells_0 rfl 0 rfl ?_
  refine J_iconst cx (v := nI 0) dX7_tells_1 (by decide) ?_
  refine J_put cx (ws' := (mW ad g κ (nI 0) ch cm rm row)) fX7_63 ⟨tyX7_ok, nmX7, tyX7_ok 24 (by decide)⟩ rfl 0 rfl rfl rfl (Nat.le_of_ble_eq_true rfl) rfl dX7_tells_2 ?_
  refine J_iload_n cx dX7_tells_5 rfl 1 rfl ?_
  exact J_iret cx rfl (u := ()) rfl rfl (by decide) (by decide) dX7_tells_6
set_option maxHeartbeats 4000000 in
set_option maxRecDepth 100000 in
theorem tX7_isIn (l : Launch) (D : va_G) (g : Nat → ClassId) (A : Nat → Prop) (ad : Nat → Nat) (κ : CS) (th : Int32) (ch : Nat → Nat) (cm rm : Nat) (row : Nat → Int64)  (v : Int32) (lo : Int32) (hi : Int32)  : CtI l D g A yX7_isIn cX7_isIn 3 .boolean ({ frames := 0, cells := 0, slots := 0, locals := 0 } : Room) [.int v, .int lo, .int hi] (mW ad g κ th ch cm rm row) (zb (isInB v lo hi)) (mW ad g κ th ch cm rm row) := by
  refine metJ (by decide) (Nat.le_of_ble_eq_true rfl) ?_
  intro p e s m args below meth c _ _ cx
  refine J_iload_n cx dX7_isIn_0 rfl 0 rfl ?_
  refine J_iload_n cx dX7_isIn_1 rfl 1 rfl ?_
  refine J_icmp_lt cx (tgt := 14) dX7_isIn_2 (by decide) (fun c_1 => ?_) (fun c_1 => ?_)
  · have c_1d := decide_eq_true c_1
    refine J_iconst cx (v := nI 0) dX7_isIn_14 (by decide) ?_
    exact J_zret cx rfl (u := ()) (rfl) (by first | rw [isInB_lo c_1]; rfl | rw [isInB_hi c_2]; rfl | rw [isInB_in c_1 c_2]; rfl) rfl (by decide) (by decide) dX7_isIn_15
  · have c_1d := decide_eq_false c_1
    refine J_iload_n cx dX7_isIn_5 rfl 0 rfl ?_
    refine J_iload_n cx dX7_isIn_6 rfl 2 rfl ?_
    refine J_icmp_gt cx (tgt := 14) dX7_isIn_7 (by decide) (fun c_2 => ?_) (fun c_2 => ?_)
    · have c_2d := decide_eq_true c_2
      refine J_iconst cx (v := nI 0) dX7_isIn_14 (by decide) ?_
      exact J_zret cx rfl (u := ()) (rfl) (by first | rw [isInB_lo c_1]; rfl | rw [isInB_hi c_2]; rfl | rw [isInB_in c_1 c_2]; rfl) rfl (by decide) (by decide) dX7_isIn_15
    · have c_2d := decide_eq_false c_2
      refine J_iconst cx (v := nI 1) dX7_isIn_10 (by decide) ?_
      refine J_goto cx (tgt := 15) dX7_isIn_11 (by decide) ?_
      exact J_zret cx rfl (u := ()) (rfl) (by first | rw [isInB_lo c_1]; rfl | rw [isInB_hi c_2]; rfl | rw [isInB_in c_1 c_2]; rfl) rfl (by decide) (by decide) dX7_isIn_15
set_option maxHeartbeats 4000000 in
set_option maxRecDepth 100000 in
theorem tX7_isThrown (l : Launch) (D : va_G) (g : Nat → ClassId) (A : Nat → Prop) (ad : Nat → Nat) (κ : CS) (th : Int32) (ch : Nat → Nat) (cm rm : Nat) (row : Nat → Int64)  (is : Bool) (as : Int32)  : CtI l D g A yX7_isThrown cX7_isThrown 3 .boolean ({ frames := 0, cells := 0, slots := 0, locals := 0 } : Room) [.ref (ad 0), .int (zb is), .int as] (mW ad g κ th ch cm rm row) (zb is) (mW ad g κ (if is then as else nI 0) ch cm rm row) := by
  refine metJ (by decide) (Nat.le_of_ble_eq_true rfl) ?_
  intro p e s m args below meth c _ _ cx
  refine J_aload_n cx dX7_isThrown_0 rfl 0 rfl ?_
  refine J_iload_n cx dX7_isThrown_1 rfl 1 rfl ?_
  refine J_ifz_eq cx (tgt := 9) dX7_isThrown_2 (by decide) (fun c_1 => ?_) (fun c_1 => ?_)
  · refine J_iconst cx (v := nI 0) dX7_isThrown_9 (by decide) ?_
    refine J_put cx (ws' := (mW ad g κ (nI 0) ch cm rm row)) fX7_63 ⟨tyX7_ok, nmX7, tyX7_ok 24 (by decide)⟩ rfl 0 rfl rfl rfl (Nat.le_of_ble_eq_true rfl) rfl dX7_isThrown_10 ?_
    refine J_iload_n cx dX7_isThrown_13 rfl 1 rfl ?_
    exact J_zret cx rfl (u := ()) (zb_nar _) rfl (by simp [*]) (by decide) (by decide) dX7_isThrown_14
  · refine J_iload_n cx dX7_isThrown_5 rfl 2 rfl ?_
    refine J_goto cx (tgt := 10) dX7_isThrown_6 (by decide) ?_
    refine J_put cx (ws' := (mW ad g κ as ch cm rm row)) fX7_63 ⟨tyX7_ok, nmX7, tyX7_ok 24 (by decide)⟩ rfl 0 rfl rfl rfl (Nat.le_of_ble_eq_true rfl) rfl dX7_isThrown_10 ?_
    refine J_iload_n cx dX7_isThrown_13 rfl 1 rfl ?_
    exact J_zret cx rfl (u := ()) (zb_nar _) rfl (by simp [*]) (by decide) (by decide) dX7_isThrown_14
set_option maxHeartbeats 4000000 in
set_option maxRecDepth 100000 in
theorem tX7_isName (l : Launch) (D : va_G) (g : Nat → ClassId) (A : Nat → Prop) (ad : Nat → Nat) (κ : CS) (th : Int32) (ch : Nat → Nat) (cm rm : Nat) (row : Nat → Int64)  (xn : Int32)  : CtI l D g A yX7_isName cX7_isName 3 .boolean ({ frames := 1, cells := 0, slots := 0, locals := 22 } : Room) [.int xn] (mW ad g κ th ch cm rm row) (zb (nameB xn)) (mW ad g κ th ch cm rm row) := by
  rcases i32_cases xn with ⟨j0, hj0, rfl⟩ | hneg
  · refine metJ (by decide) (Nat.le_of_ble_eq_true rfl) ?_
    intro p e s m args below meth c _ _ cx
    refine J_iload_n cx dX7_isName_0 rfl 0 rfl ?_
    refine J_iconst cx (v := nI 1) dX7_isName_1 (by decide) ?_
    refine J_sipush cx (v := nI 9999) dX7_isName_2 (by decide) ?_
    refine J_callSi cx kX7_67 (As := [.int (nI j0), .int (nI 1), .int (nI 9999)]) (tX7_isIn l D g A ad κ th ch cm rm row  (nI j0) (nI 1) (nI 9999) ) ⟨rfl, rfl, by decide, by decide⟩ ⟨by decide, by decide⟩ rfl rfl (Nat.le_of_ble_eq_true rfl) dX7_isName_5 ?_
    intro _ _ hr; cases hr
    refine J_istore_n cx (L' := [(1, .int (zb (isInB (nI j0) (nI 1) (nI 9999)))), (0, .int (nI j0))]) dX7_isName_8 rfl (by decide) rfl ?_
    refine J_iload_n cx dX7_isName_9 rfl 1 rfl ?_
    refine J_istore_n cx (L' := [(2, .int (nI j0)), (1, .int (zb (isInB (nI j0) (nI 1) (nI 9999)))), (0, .int (nI j0))]) dX7_isName_10 rfl (by decide) rfl ?_
    have LP : ∀ (fu : Nat) (f : Nat) (b : Bool) (j : Nat), (j < 10 ^ f) → (j < 2147483648) → ((b && nz f j) = (isInB (nI j0) (nI 1) (nI 9999) && nz 10 j0)) → j < fu → J p l e ({ frames := 1, cells := 0, slots := 0, locals := 22 } : Room) s m args below meth c D A 3 (MQ below (va_Qi (fun (r : Int32) (_ : Unit) => r = (zb (nameB (nI j0)))) (fun _ => PO D A (mW ad g κ th ch cm rm row)) A) args s 0 0 A) 0 0 (mW ad g κ th ch cm rm row) [(1, .int (zb b)), (2, .int (nI j)), (0, .int (nI j0))] 11 [] := by
      intro fu; induction fu with
      | zero => intro f b j hj hj2 hb hfu; exact absurd hfu (Nat.not_lt_zero _)
      | succ fu ih =>
        intro f b j hj hj2 hb hfu
        refine J_iload_n cx dX7_isName_11 rfl 1 rfl ?_
        refine J_if_le cx (tgt := 38) dX7_isName_12 (by decide) (fun c_1 => ?_) (fun c_1 => ?_)
        · have c_1 := (nat_if_le (by omega)).mp c_1
          refine J_iload_n cx dX7_isName_38 rfl 0 rfl ?_
          exact J_zret cx rfl (u := ()) (zb_nar _) (by rw [nameB_nI hj0, ← hb, c_1]; simp [nz_0]) rfl (by decide) (by decide) dX7_isName_39
        · have c_1 := (nat_if_le_f (by omega)).mp c_1
          refine J_iload_n cx dX7_isName_15 rfl 0 rfl ?_
          refine J_iload_n cx dX7_isName_16 rfl 1 rfl ?_
          refine J_bipush cx (v := nI 10) dX7_isName_17 (by decide) ?_
          refine J_irem cx dX7_isName_19 (by decide) ?_
          refine J_top (v' := .int (nI (j % 10))) (congrArg Value.int (pk_rem (by omega) (by decide) (by decide))) ?_
          refine J_if_eq cx (tgt := 27) dX7_isName_20 (by decide) (fun c_2 => ?_) (fun c_2 => ?_)
          · have c_2 := (nat_if_eq (by omega)).mp c_2
            have c_2d := decide_eq_true c_2
            refine J_iconst cx (v := nI 0) dX7_isName_27 (by decide) ?_
            refine J_iand cx dX7_isName_28 ?_
            refine J_top (v' := .int (zb (b && false))) (congrArg Value.int (zb_and b false)) ?_
            refine J_istore_n cx (L' := [(1, .int (zb (b && false))), (2, .int (nI j)), (0, .int (nI j0))]) dX7_isName_29 rfl (by decide) rfl ?_
            refine J_iload_n cx dX7_isName_30 rfl 1 rfl ?_
            refine J_bipush cx (v := nI 10) dX7_isName_31 (by decide) ?_
            refine J_idiv cx dX7_isName_33 (by decide) ?_
            refine J_top (v' := .int (nI (j / 10))) (congrArg Value.int (pk_div (by omega) (by decide) (by decide))) ?_
            refine J_istore_n cx (L' := [(2, .int (nI (j / 10))), (1, .int (zb (b && false))), (0, .int (nI j0))]) dX7_isName_34 rfl (by decide) rfl ?_
            refine J_goto cx (tgt := 11) dX7_isName_35 (by decide) ?_
            refine J_L [1, 0, 2] rfl ?_
            exact ih (f - 1) _ _ (nz_s c_1 hj).2 (by omega) (by rw [← hb, (nz_s c_1 hj).1]; simp [c_2]) (by omega)
          · have c_2 := (nat_if_eq_f (by omega)).mp c_2
            have c_2d := decide_eq_false c_2
            refine J_iconst cx (v := nI 1) dX7_isName_23 (by decide) ?_
            refine J_goto cx (tgt := 28) dX7_isName_24 (by decide) ?_
            refine J_iand cx dX7_isName_28 ?_
            refine J_top (v' := .int (zb (b && true))) (congrArg Value.int (zb_and b true)) ?_
            refine J_istore_n cx (L' := [(1, .int (zb (b && true))), (2, .int (nI j)), (0, .int (nI j0))]) dX7_isName_29 rfl (by decide) rfl ?_
            refine J_iload_n cx dX7_isName_30 rfl 1 rfl ?_
            refine J_bipush cx (v := nI 10) dX7_isName_31 (by decide) ?_
            refine J_idiv cx dX7_isName_33 (by decide) ?_
            refine J_top (v' := .int (nI (j / 10))) (congrArg Value.int (pk_div (by omega) (by decide) (by decide))) ?_
            refine J_istore_n cx (L' := [(2, .int (nI (j / 10))), (1, .int (zb (b && true))), (0, .int (nI j0))]) dX7_isName_34 rfl (by decide) rfl ?_
            refine J_goto cx (tgt := 11) dX7_isName_35 (by decide) ?_
            refine J_L [1, 0, 2] rfl ?_
            exact ih (f - 1) _ _ (nz_s c_1 hj).2 (by omega) (by rw [← hb, (nz_s c_1 hj).1]; simp [c_2]) (by omega)
    refine J_L [1, 0, 2] rfl ?_
    exact LP _ 10 _ _ (by omega) hj0 rfl (Nat.lt_succ_self _)
  · refine metJ (by decide) (Nat.le_of_ble_eq_true rfl) ?_
    intro p e s m args below meth c _ _ cx
    refine J_iload_n cx dX7_isName_0 rfl 0 rfl ?_
    refine J_iconst cx (v := nI 1) dX7_isName_1 (by decide) ?_
    refine J_sipush cx (v := nI 9999) dX7_isName_2 (by decide) ?_
    refine J_callSi cx kX7_67 (As := [.int xn, .int (nI 1), .int (nI 9999)]) (tX7_isIn l D g A ad κ th ch cm rm row  xn (nI 1) (nI 9999) ) ⟨rfl, rfl, by decide, by decide⟩ ⟨by decide, by decide⟩ rfl rfl (Nat.le_of_ble_eq_true rfl) dX7_isName_5 ?_
    intro _ _ hr; cases hr
    refine J_istore_n cx (L' := [(1, .int (zb (isInB xn (nI 1) (nI 9999)))), (0, .int xn)]) dX7_isName_8 rfl (by decide) rfl ?_
    refine J_iload_n cx dX7_isName_9 rfl 1 rfl ?_
    refine J_istore_n cx (L' := [(2, .int xn), (1, .int (zb (isInB xn (nI 1) (nI 9999)))), (0, .int xn)]) dX7_isName_10 rfl (by decide) rfl ?_
    refine J_iload_n cx dX7_isName_11 rfl 0 rfl ?_
    refine J_if_le cx (tgt := 38) dX7_isName_12 (by decide) (fun c_1 => ?_) (fun c_1 => ?_)
    · have c_1d := decide_eq_true c_1
      have c_1c := decide_eq_false (Int32.not_lt.mpr c_1)
      refine J_iload_n cx dX7_isName_38 rfl 1 rfl ?_
      exact J_zret cx rfl (u := ()) (zb_nar _) (by rw [isInB_neg hneg (by decide), nameB_neg hneg]) rfl (by decide) (by decide) dX7_isName_39
    · have c_1d := decide_eq_false c_1
      have c_1c := decide_eq_true (Int32.not_le.mp c_1)
      exact absurd (Int32.le_of_lt hneg) c_1
set_option maxHeartbeats 4000000 in
set_option maxRecDepth 100000 in
theorem tX7_isUnder (l : Launch) (D : va_G) (g : Nat → ClassId) (A : Nat → Prop) (ad : Nat → Nat) (κ : CS) (th : Int32) (ch : Nat → Nat) (cm rm : Nat) (row : Nat → Int64)  (k0 : Nat) (o : Nat) (hk0 : k0 < 2147483648) (ho : o < 2147483648) : CtI l D g A yX7_isUnder cX7_isUnder 3 .boolean ({ frames := 0, cells := 0, slots := 0, locals := 0 } : Room) [.int (nI k0), .int (nI o)] (mW ad g κ th ch cm rm row) (zb (und 10 k0 o)) (mW ad g κ th ch cm rm row) := by
  refine metJ (by decide) (Nat.le_of_ble_eq_true rfl) ?_
  intro p e s m args below meth c _ _ cx
  refine J_iload_n cx dX7_isUnder_0 rfl 0 rfl ?_
  refine J_istore_n cx (L' := [(2, .int (nI k0)), (0, .int (nI k0)), (1, .int (nI o))]) dX7_isUnder_1 rfl (by decide) rfl ?_
  have LP : ∀ (fu : Nat) (f : Nat) (k : Nat), (k < 10 ^ f) → (k < 2147483648) → (und f k o = und 10 k0 o) → k < fu → J p l e ({ frames := 0, cells := 0, slots := 0, locals := 0 } : Room) s m args below meth c D A 3 (MQ below (va_Qi (fun (r : Int32) (_ : Unit) => r = (zb (und 10 k0 o))) (fun _ => PO D A (mW ad g κ th ch cm rm row)) A) args s 0 0 A) 0 0 (mW ad g κ th ch cm rm row) [(2, .int (nI k)), (0, .int (nI k0)), (1, .int (nI o))] 2 [] := by
    intro fu; induction fu with
    | zero => intro f k hk hk2 hb hfu; exact absurd hfu (Nat.not_lt_zero _)
    | succ fu ih =>
      intro f k hk hk2 hb hfu
      refine J_iload_n cx dX7_isUnder_2 rfl 0 rfl ?_
      refine J_iload_n cx dX7_isUnder_3 rfl 2 rfl ?_
      refine J_icmp_le cx (tgt := 15) dX7_isUnder_4 (by decide) (fun c_1 => ?_) (fun c_1 => ?_)
      · have c_1 := (nat_ic_le (by omega) (by omega)).mp c_1
        have c_1d := decide_eq_true c_1
        refine J_iload_n cx dX7_isUnder_15 rfl 0 rfl ?_
        refine J_iload_n cx dX7_isUnder_16 rfl 2 rfl ?_
        refine J_icmp_ne cx (tgt := 24) dX7_isUnder_17 (by decide) (fun c_2 => ?_) (fun c_2 => ?_)
        · have c_2 := (nat_ic_ne (by omega) (by omega)).mp c_2
          have c_2d := decide_eq_false c_2
          refine J_iconst cx (v := nI 0) dX7_isUnder_24 (by decide) ?_
          exact J_zret cx rfl (u := ()) (rfl) (by rw [← hb, und_le c_1]; simp [zb, *]) rfl (by decide) (by decide) dX7_isUnder_25
        · have c_2 := (nat_ic_ne_f (by omega) (by omega)).mp c_2
          have c_2d := decide_eq_true c_2
          refine J_iconst cx (v := nI 1) dX7_isUnder_20 (by decide) ?_
          refine J_goto cx (tgt := 25) dX7_isUnder_21 (by decide) ?_
          exact J_zret cx rfl (u := ()) (rfl) (by rw [← hb, und_le c_1]; simp [zb, *]) rfl (by decide) (by decide) dX7_isUnder_25
      · have c_1 := (nat_ic_le_f (by omega) (by omega)).mp c_1
        have c_1d := decide_eq_false (Nat.not_le.mpr c_1)
        refine J_iload_n cx dX7_isUnder_7 rfl 0 rfl ?_
        refine J_bipush cx (v := nI 10) dX7_isUnder_8 (by decide) ?_
        refine J_idiv cx dX7_isUnder_10 (by decide) ?_
        refine J_top (v' := .int (nI (k / 10))) (congrArg Value.int (pk_div (by omega) (by decide) (by decide))) ?_
        refine J_istore_n cx (L' := [(2, .int (nI (k / 10))), (0, .int (nI k0)), (1, .int (nI o))]) dX7_isUnder_11 rfl (by decide) rfl ?_
        refine J_goto cx (tgt := 2) dX7_isUnder_12 (by decide) ?_
        refine J_L [0, 1, 2] rfl ?_
        exact ih (f - 1) _ (und_s c_1 hk).2 (by omega) (by rw [← hb, (und_s c_1 hk).1]) (by omega)
  refine J_L [0, 1, 2] rfl ?_
  exact LP _ 10 _ (by omega) (by omega) rfl (Nat.lt_succ_self _)
set_option maxHeartbeats 4000000 in
set_option maxRecDepth 100000 in
theorem tX7_isThere (l : Launch) (D : va_G) (g : Nat → ClassId) (A : Nat → Prop) (ad : Nat → Nat) (κ : CS) (th : Int32) (ch : Nat → Nat) (cm rm : Nat) (row : Nat → Int64)  (xc : Int32) (hn : κ.2.2.1 0 ≤ 40) : CtI l D g A yX7_isThere cX7_isThere 2 .boolean ({ frames := 1, cells := 0, slots := 0, locals := 22 } : Room) [.ref (ad 0), .int xc] (mW ad g κ th ch cm rm row) (zb (inR (κ.2.2.1 0) xc)) (mW ad g κ th ch cm rm row) := by
  refine metJ (by decide) (Nat.le_of_ble_eq_true rfl) ?_
  intro p e s m args below meth c _ _ cx
  refine J_iload_n cx dX7_isThere_0 rfl 1 rfl ?_
  refine J_iconst cx (v := nI 0) dX7_isThere_1 (by decide) ?_
  refine J_aload_n cx dX7_isThere_2 rfl 0 rfl ?_
  refine J_get cx (v := .int (nI (κ.2.2.1 0))) fX7_71 0 rfl rfl dX7_isThere_3 ?_
  refine J_iconst cx (v := nI 1) dX7_isThere_6 (by decide) ?_
  refine J_isub cx dX7_isThere_7 ?_
  refine J_callSi cx kX7_67 (As := [.int xc, .int (nI 0), .int ((nI (κ.2.2.1 0)) - (nI 1))]) (tX7_isIn l D g A ad κ th ch cm rm row  xc (nI 0) ((nI (κ.2.2.1 0)) - (nI 1)) ) ⟨rfl, rfl, by decide, by decide⟩ ⟨by decide, by decide⟩ rfl rfl (Nat.le_of_ble_eq_true rfl) dX7_isThere_8 ?_
  intro _ _ hr; cases hr
  exact J_zret cx rfl (u := ()) (zb_nar _) (by rw [isInB_inR hn]) rfl (by decide) (by decide) dX7_isThere_11
set_option maxHeartbeats 4000000 in
set_option maxRecDepth 100000 in
theorem tX7_isNone (l : Launch) (D : va_G) (g : Nat → ClassId) (A : Nat → Prop) (ad : Nat → Nat) (κ : CS) (th : Int32) (ch : Nat → Nat) (cm rm : Nat) (row : Nat → Int64)  (xc : Int32) (hn : κ.2.2.1 0 ≤ 40) : CtI l D g A yX7_isNone cX7_isNone 2 .boolean ({ frames := 2, cells := 0, slots := 0, locals := 43 } : Room) [.ref (ad 0), .int xc] (mW ad g κ th ch cm rm row) (zb (!inR (κ.2.2.1 0) xc)) (mW ad g κ (if inR (κ.2.2.1 0) xc then nI 0 else nI 1) ch cm rm row) := by
  refine metJ (by decide) (Nat.le_of_ble_eq_true rfl) ?_
  intro p e s m args below meth c _ _ cx
  refine J_aload_n cx dX7_isNone_0 rfl 0 rfl ?_
  refine J_aload_n cx dX7_isNone_1 rfl 0 rfl ?_
  refine J_iload_n cx dX7_isNone_2 rfl 1 rfl ?_
  refine J_callVi cx kX7_74 (As := [.int xc]) (tX7_isThere l D g A ad κ th ch cm rm row  xc (by first | assumption | omega)) ⟨rfl, rfl, by decide, by decide⟩ ⟨by decide, by decide⟩ rfl 0 rfl rfl rfl (Nat.le_of_ble_eq_true rfl) dX7_isNone_3 ?_
  intro _ _ hr; cases hr
  refine J_ifz_ne cx (tgt := 13) dX7_isNone_6 (by decide) (fun c_1 => ?_) (fun c_1 => ?_)
  · refine J_iconst cx (v := nI 0) dX7_isNone_13 (by decide) ?_
    refine J_iconst cx (v := nI 1) dX7_isNone_14 (by decide) ?_
    refine J_callVi cx kX7_78 (As := [.int (nI 0), .int (nI 1)]) (tX7_isThrown l D g A ad κ th ch cm rm row  false (nI 1) ) ⟨rfl, rfl, by decide, by decide⟩ ⟨by decide, by decide⟩ rfl 0 rfl rfl rfl (Nat.le_of_ble_eq_true rfl) dX7_isNone_15 ?_
    intro _ _ hr; cases hr
    exact J_zret cx rfl (u := ()) (zb_nar _) (by simp [*, zb]) (by simp [*]) (by decide) (by decide) dX7_isNone_18
  · refine J_iconst cx (v := nI 1) dX7_isNone_9 (by decide) ?_
    refine J_goto cx (tgt := 14) dX7_isNone_10 (by decide) ?_
    refine J_iconst cx (v := nI 1) dX7_isNone_14 (by decide) ?_
    refine J_callVi cx kX7_78 (As := [.int (nI 1), .int (nI 1)]) (tX7_isThrown l D g A ad κ th ch cm rm row  true (nI 1) ) ⟨rfl, rfl, by decide, by decide⟩ ⟨by decide, by decide⟩ rfl 0 rfl rfl rfl (Nat.le_of_ble_eq_true rfl) dX7_isNone_15 ?_
    intro _ _ hr; cases hr
    exact J_zret cx rfl (u := ()) (zb_nar _) (by simp [*, zb]) (by simp [*]) (by decide) (by decide) dX7_isNone_18
set_option maxHeartbeats 4000000 in
set_option maxRecDepth 100000 in
theorem tX7_makes (l : Launch) (D : va_G) (g : Nat → ClassId) (A : Nat → Prop) (ad : Nat → Nat) (κ : CS) (th : Int32) (ch : Nat → Nat) (cm rm : Nat) (row : Nat → Int64)  (xn : Int32) (xk : Int32) (bn : Int32) (bk : Int32) (dy : Int32) (hn : κ.2.2.1 0 < 40) : CtI l D g A yX7_makes cX7_makes 6 .int ({ frames := 0, cells := 0, slots := 0, locals := 0 } : Room) [.ref (ad 0), .int xn, .int xk, .int bn, .int bk, .int dy] (mW ad g κ th ch cm rm row) (nI (κ.2.2.1 0)) (mW ad g (mkK κ xn xk bn bk dy) th ch cm rm row) := by
  refine metJ (by decide) (Nat.le_of_ble_eq_true rfl) ?_
  intro p e s m args below meth c _ _ cx
  refine J_aload_n cx dX7_makes_0 rfl 0 rfl ?_
  refine J_get cx (v := .ref (ad 1)) fX7_9 0 rfl rfl dX7_makes_1 ?_
  refine J_aload_n cx dX7_makes_4 rfl 0 rfl ?_
  refine J_get cx (v := .int (nI (κ.2.2.1 0))) fX7_71 0 rfl rfl dX7_makes_5 ?_
  refine J_iload_n cx dX7_makes_8 rfl 1 rfl ?_
  refine J_iast cx (ws' := (mW ad g (upI κ.1 0 (κ.2.2.1 0) xn, κ.2.1, κ.2.2.1, κ.2.2.2.1, κ.2.2.2.2) th ch cm rm row)) (j := (κ.2.2.1 0)) 1 rfl  rfl (by omega) (by decide) rfl dX7_makes_9 ?_
  refine J_aload_n cx dX7_makes_10 rfl 0 rfl ?_
  refine J_get cx (v := .ref (ad 2)) fX7_13 0 rfl rfl dX7_makes_11 ?_
  refine J_aload_n cx dX7_makes_14 rfl 0 rfl ?_
  refine J_get cx (v := .int (nI (κ.2.2.1 0))) fX7_71 0 rfl rfl dX7_makes_15 ?_
  refine J_iload_n cx dX7_makes_18 rfl 2 rfl ?_
  refine J_iast cx (ws' := (mW ad g (upI (upI κ.1 0 (κ.2.2.1 0) xn) 1 (κ.2.2.1 0) xk, κ.2.1, κ.2.2.1, κ.2.2.2.1, κ.2.2.2.2) th ch cm rm row)) (j := (κ.2.2.1 0)) 2 rfl  rfl (by omega) (by decide) rfl dX7_makes_19 ?_
  refine J_aload_n cx dX7_makes_20 rfl 0 rfl ?_
  refine J_get cx (v := .ref (ad 5)) fX7_22 0 rfl rfl dX7_makes_21 ?_
  refine J_aload_n cx dX7_makes_24 rfl 0 rfl ?_
  refine J_get cx (v := .int (nI (κ.2.2.1 0))) fX7_71 0 rfl rfl dX7_makes_25 ?_
  refine J_iload_n cx dX7_makes_28 rfl 3 rfl ?_
  refine J_iast cx (ws' := (mW ad g (upI (upI (upI κ.1 0 (κ.2.2.1 0) xn) 1 (κ.2.2.1 0) xk) 4 (κ.2.2.1 0) bn, κ.2.1, κ.2.2.1, κ.2.2.2.1, κ.2.2.2.2) th ch cm rm row)) (j := (κ.2.2.1 0)) 5 rfl  rfl (by omega) (by decide) rfl dX7_makes_29 ?_
  refine J_aload_n cx dX7_makes_30 rfl 0 rfl ?_
  refine J_get cx (v := .ref (ad 6)) fX7_25 0 rfl rfl dX7_makes_31 ?_
  refine J_aload_n cx dX7_makes_34 rfl 0 rfl ?_
  refine J_get cx (v := .int (nI (κ.2.2.1 0))) fX7_71 0 rfl rfl dX7_makes_35 ?_
  refine J_iload cx dX7_makes_38 4 rfl ?_
  refine J_iast cx (ws' := (mW ad g (upI (upI (upI (upI κ.1 0 (κ.2.2.1 0) xn) 1 (κ.2.2.1 0) xk) 4 (κ.2.2.1 0) bn) 5 (κ.2.2.1 0) bk, κ.2.1, κ.2.2.1, κ.2.2.2.1, κ.2.2.2.2) th ch cm rm row)) (j := (κ.2.2.1 0)) 6 rfl  rfl (by omega) (by decide) rfl dX7_makes_40 ?_
  refine J_aload_n cx dX7_makes_41 rfl 0 rfl ?_
  refine J_get cx (v := .ref (ad 3)) fX7_16 0 rfl rfl dX7_makes_42 ?_
  refine J_aload_n cx dX7_makes_45 rfl 0 rfl ?_
  refine J_get cx (v := .int (nI (κ.2.2.1 0))) fX7_71 0 rfl rfl dX7_makes_46 ?_
  refine J_aload_n cx dX7_makes_49 rfl 0 rfl ?_
  refine J_get cx (v := .int (nI (κ.2.2.1 2))) fX7_82 0 rfl rfl dX7_makes_50 ?_
  refine J_iast cx (ws' := (mW ad g (upI (upI (upI (upI (upI κ.1 0 (κ.2.2.1 0) xn) 1 (κ.2.2.1 0) xk) 4 (κ.2.2.1 0) bn) 5 (κ.2.2.1 0) bk) 2 (κ.2.2.1 0) (nI (κ.2.2.1 2)), κ.2.1, κ.2.2.1, κ.2.2.2.1, κ.2.2.2.2) th ch cm rm row)) (j := (κ.2.2.1 0)) 3 rfl  rfl (by omega) (by decide) rfl dX7_makes_53 ?_
  refine J_aload_n cx dX7_makes_54 rfl 0 rfl ?_
  refine J_get cx (v := .ref (ad 4)) fX7_19 0 rfl rfl dX7_makes_55 ?_
  refine J_aload_n cx dX7_makes_58 rfl 0 rfl ?_
  refine J_get cx (v := .int (nI (κ.2.2.1 0))) fX7_71 0 rfl rfl dX7_makes_59 ?_
  refine J_aload_n cx dX7_makes_62 rfl 0 rfl ?_
  refine J_get cx (v := .int (nI (κ.2.2.1 2))) fX7_82 0 rfl rfl dX7_makes_63 ?_
  refine J_iload cx dX7_makes_66 5 rfl ?_
  refine J_iadd cx dX7_makes_68 ?_
  refine J_iconst cx (v := nI 1) dX7_makes_69 (by decide) ?_
  refine J_isub cx dX7_makes_70 ?_
  refine J_iast cx (ws' := (mW ad g (upI (upI (upI (upI (upI (upI κ.1 0 (κ.2.2.1 0) xn) 1 (κ.2.2.1 0) xk) 4 (κ.2.2.1 0) bn) 5 (κ.2.2.1 0) bk) 2 (κ.2.2.1 0) (nI (κ.2.2.1 2))) 3 (κ.2.2.1 0) (((nI (κ.2.2.1 2)) + dy) - (nI 1)), κ.2.1, κ.2.2.1, κ.2.2.2.1, κ.2.2.2.2) th ch cm rm row)) (j := (κ.2.2.1 0)) 4 rfl  rfl (by omega) (by decide) rfl dX7_makes_71 ?_
  refine J_aload_n cx dX7_makes_72 rfl 0 rfl ?_
  refine J_get cx (v := .ref (ad 10)) fX7_37 0 rfl rfl dX7_makes_73 ?_
  refine J_aload_n cx dX7_makes_76 rfl 0 rfl ?_
  refine J_get cx (v := .int (nI (κ.2.2.1 0))) fX7_71 0 rfl rfl dX7_makes_77 ?_
  refine J_iconst cx (v := (-1)) dX7_makes_80 (by decide) ?_
  refine J_iast cx (ws' := (mW ad g (upI (upI (upI (upI (upI (upI (upI κ.1 0 (κ.2.2.1 0) xn) 1 (κ.2.2.1 0) xk) 4 (κ.2.2.1 0) bn) 5 (κ.2.2.1 0) bk) 2 (κ.2.2.1 0) (nI (κ.2.2.1 2))) 3 (κ.2.2.1 0) (((nI (κ.2.2.1 2)) + dy) - (nI 1))) 9 (κ.2.2.1 0) (-1), κ.2.1, κ.2.2.1, κ.2.2.2.1, κ.2.2.2.2) th ch cm rm row)) (j := (κ.2.2.1 0)) 10 rfl  rfl (by omega) (by decide) rfl dX7_makes_81 ?_
  refine J_aload_n cx dX7_makes_82 rfl 0 rfl ?_
  refine J_dup cx dX7_makes_83 rfl ?_
  refine J_get cx (v := .int (nI (κ.2.2.1 0))) fX7_71 0 rfl rfl dX7_makes_84 ?_
  refine J_iconst cx (v := nI 1) dX7_makes_87 (by decide) ?_
  refine J_iadd cx dX7_makes_88 ?_
  refine J_top (v' := .int (nI ((κ.2.2.1 0) + 1))) (congrArg Value.int (nI_add (κ.2.2.1 0) 1)) ?_
  refine J_put cx (ws' := (mW ad g (upI (upI (upI (upI (upI (upI (upI κ.1 0 (κ.2.2.1 0) xn) 1 (κ.2.2.1 0) xk) 4 (κ.2.2.1 0) bn) 5 (κ.2.2.1 0) bk) 2 (κ.2.2.1 0) (nI (κ.2.2.1 2))) 3 (κ.2.2.1 0) (((nI (κ.2.2.1 2)) + dy) - (nI 1))) 9 (κ.2.2.1 0) (-1), κ.2.1, upn κ.2.2.1 0 ((κ.2.2.1 0) + 1), κ.2.2.2.1, κ.2.2.2.2) th ch cm rm row)) fX7_71 ⟨tyX7_ok, nmX7, tyX7_ok 17 (by decide)⟩ rfl 0 rfl rfl rfl (Nat.le_of_ble_eq_true rfl) rfl dX7_makes_89 ?_
  refine J_aload_n cx dX7_makes_92 rfl 0 rfl ?_
  refine J_get cx (v := .int (nI ((κ.2.2.1 0) + 1))) fX7_71 0 rfl rfl dX7_makes_93 ?_
  refine J_iconst cx (v := nI 1) dX7_makes_96 (by decide) ?_
  refine J_isub cx dX7_makes_97 ?_
  refine J_top (v' := .int (nI (((κ.2.2.1 0) + 1) - 1))) (congrArg Value.int (pk_sub (by omega))) ?_
  exact J_iret cx rfl (u := ()) rfl rfl (by decide) (by decide) dX7_makes_98
set_option maxHeartbeats 4000000 in
set_option maxRecDepth 100000 in
theorem tX7_authority (l : Launch) (D : va_G) (g : Nat → ClassId) (A : Nat → Prop) (ad : Nat → Nat) (κ : CS) (th : Int32) (ch : Nat → Nat) (cm rm : Nat) (row : Nat → Int64)  (i : Nat) (ln : Int32) (hi : i < 40) : CtI l D g A yX7_authority cX7_authority 3 .int ({ frames := 0, cells := 0, slots := 0, locals := 0 } : Room) [.ref (ad 0), .int (nI i), .int ln] (mW ad g κ th ch cm rm row) (nI i) (mW ad g (auK κ i ln) th ch cm rm row) := by
  refine metJ (by decide) (Nat.le_of_ble_eq_true rfl) ?_
  intro p e s m args below meth c _ _ cx
  refine J_aload_n cx dX7_authority_0 rfl 0 rfl ?_
  refine J_get cx (v := .ref (ad 11)) fX7_40 0 rfl rfl dX7_authority_1 ?_
  refine J_iload_n cx dX7_authority_4 rfl 1 rfl ?_
  refine J_iconst cx (v := nI 1) dX7_authority_5 (by decide) ?_
  refine J_zast cx (ws' := (mW ad g (κ.1, upB κ.2.1 0 i true, κ.2.2.1, κ.2.2.2.1, κ.2.2.2.2) th ch cm rm row)) (j := i) 11 rfl  rfl (by omega) (by decide) (by rw [show vp_nar .boolean (nI 1) = zb true from zb_vnar true, upb_zb]; rfl) dX7_authority_6 ?_
  refine J_aload_n cx dX7_authority_7 rfl 0 rfl ?_
  refine J_get cx (v := .ref (ad 7)) fX7_28 0 rfl rfl dX7_authority_8 ?_
  refine J_iload_n cx dX7_authority_11 rfl 1 rfl ?_
  refine J_iload_n cx dX7_authority_12 rfl 2 rfl ?_
  refine J_iast cx (ws' := (mW ad g (upI κ.1 6 i ln, upB κ.2.1 0 i true, κ.2.2.1, κ.2.2.2.1, κ.2.2.2.2) th ch cm rm row)) (j := i) 7 rfl  rfl (by omega) (by decide) rfl dX7_authority_13 ?_
  refine J_iload_n cx dX7_authority_14 rfl 1 rfl ?_
  exact J_iret cx rfl (u := ()) rfl rfl (by decide) (by decide) dX7_authority_15
end
section
set_option maxHeartbeats 4000000 in
set_option maxRecDepth 100000 in
theorem tX7_isOff (l : Launch) (D : va_G) (g : Nat → ClassId) (A : Nat → Prop) (ad : Nat → Nat) (κ : CS) (th : Int32) (ch : Nat → Nat) (cm rm : Nat) (row : Nat → Int64)  (i : Nat) (on : Int32) (hi : i < 40) : CtI l D g A yX7_isOff cX7_isOff 3 .boolean ({ frames := 0, cells := 0, slots := 0, locals := 0 } : Room) [.ref (ad 0), .int (nI i), .int on] (mW ad g κ th ch cm rm row) (zb (offB κ i on)) (mW ad g κ th ch cm rm row) := by
  refine metJ (by decide) (Nat.le_of_ble_eq_true rfl) ?_
  intro p e s m args below meth c _ _ cx
  refine J_aload_n cx dX7_isOff_0 rfl 0 rfl ?_
  refine J_get cx (v := .ref (ad 10)) fX7_37 0 rfl rfl dX7_isOff_1 ?_
  refine J_iload_n cx dX7_isOff_4 rfl 1 rfl ?_
  refine J_iald cx (j := i) (f := κ.1 9) 10 rfl rfl (by omega) (by decide) dX7_isOff_5 ?_
  refine J_if_lt cx (tgt := 23) dX7_isOff_6 (by decide) (fun c_1 => ?_) (fun c_1 => ?_)
  · have c_1d := decide_eq_true c_1
    refine J_iconst cx (v := nI 0) dX7_isOff_23 (by decide) ?_
    exact J_zret cx rfl (u := ()) (rfl) (by simp [offB, zb, c_1, c_1d]) rfl (by decide) (by decide) dX7_isOff_24
  · have c_1d := decide_eq_false c_1
    refine J_aload_n cx dX7_isOff_9 rfl 0 rfl ?_
    refine J_get cx (v := .ref (ad 10)) fX7_37 0 rfl rfl dX7_isOff_10 ?_
    refine J_iload_n cx dX7_isOff_13 rfl 1 rfl ?_
    refine J_iald cx (j := i) (f := κ.1 9) 10 rfl rfl (by omega) (by decide) dX7_isOff_14 ?_
    refine J_iload_n cx dX7_isOff_15 rfl 2 rfl ?_
    refine J_icmp_gt cx (tgt := 23) dX7_isOff_16 (by decide) (fun c_2 => ?_) (fun c_2 => ?_)
    · have c_2d := decide_eq_true c_2
      refine J_iconst cx (v := nI 0) dX7_isOff_23 (by decide) ?_
      exact J_zret cx rfl (u := ()) (rfl) (by simp [offB, zb, c_1, c_1d, c_2, c_2d]) rfl (by decide) (by decide) dX7_isOff_24
    · have c_2d := decide_eq_false c_2
      refine J_iconst cx (v := nI 1) dX7_isOff_19 (by decide) ?_
      refine J_goto cx (tgt := 24) dX7_isOff_20 (by decide) ?_
      exact J_zret cx rfl (u := ()) (rfl) (by simp [offB, zb, c_1, c_1d, c_2, c_2d]) rfl (by decide) (by decide) dX7_isOff_24
set_option maxHeartbeats 4000000 in
set_option maxRecDepth 100000 in
theorem tX7_isValid (l : Launch) (D : va_G) (g : Nat → ClassId) (A : Nat → Prop) (ad : Nat → Nat) (κ : CS) (th : Int32) (ch : Nat → Nat) (cm rm : Nat) (row : Nat → Int64)  (i : Nat) (on : Int32) (hi : i < 40) : CtI l D g A yX7_isValid cX7_isValid 3 .boolean ({ frames := 1, cells := 0, slots := 0, locals := 22 } : Room) [.ref (ad 0), .int (nI i), .int on] (mW ad g κ th ch cm rm row) (zb (validB κ i on)) (mW ad g κ th ch cm rm row) := by
  refine metJ (by decide) (Nat.le_of_ble_eq_true rfl) ?_
  intro p e s m args below meth c _ _ cx
  refine J_iload_n cx dX7_isValid_0 rfl 2 rfl ?_
  refine J_aload_n cx dX7_isValid_1 rfl 0 rfl ?_
  refine J_get cx (v := .ref (ad 3)) fX7_16 0 rfl rfl dX7_isValid_2 ?_
  refine J_iload_n cx dX7_isValid_5 rfl 1 rfl ?_
  refine J_iald cx (j := i) (f := κ.1 2) 3 rfl rfl (by omega) (by decide) dX7_isValid_6 ?_
  refine J_aload_n cx dX7_isValid_7 rfl 0 rfl ?_
  refine J_get cx (v := .ref (ad 4)) fX7_19 0 rfl rfl dX7_isValid_8 ?_
  refine J_iload_n cx dX7_isValid_11 rfl 1 rfl ?_
  refine J_iald cx (j := i) (f := κ.1 3) 4 rfl rfl (by omega) (by decide) dX7_isValid_12 ?_
  refine J_callSi cx kX7_67 (As := [.int on, .int (κ.1 2 i), .int (κ.1 3 i)]) (tX7_isIn l D g A ad κ th ch cm rm row  on (κ.1 2 i) (κ.1 3 i) ) ⟨rfl, rfl, by decide, by decide⟩ ⟨by decide, by decide⟩ rfl rfl (Nat.le_of_ble_eq_true rfl) dX7_isValid_13 ?_
  intro _ _ hr; cases hr
  exact J_zret cx rfl (u := ()) (zb_nar _) rfl rfl (by decide) (by decide) dX7_isValid_16
set_option maxHeartbeats 4000000 in
set_option maxRecDepth 100000 in
theorem tX7_day (l : Launch) (D : va_G) (g : Nat → ClassId) (A : Nat → Prop) (ad : Nat → Nat) (κ : CS) (th : Int32) (ch : Nat → Nat) (cm rm : Nat) (row : Nat → Int64)    : CtI l D g A yX7_day cX7_day 1 .int ({ frames := 1, cells := 0, slots := 0, locals := 21 } : Room) [.ref (ad 0)] (mW ad g κ th ch cm rm row) (nI (κ.2.2.1 2)) (mW ad g κ (nI 0) ch cm rm row) := by
  refine metJ (by decide) (Nat.le_of_ble_eq_true rfl) ?_
  intro p e s m args below meth c _ _ cx
  refine J_aload_n cx dX7_day_0 rfl 0 rfl ?_
  refine J_aload_n cx dX7_day_1 rfl 0 rfl ?_
  refine J_get cx (v := .int (nI (κ.2.2.1 2))) fX7_82 0 rfl rfl dX7_day_2 ?_
  refine J_callVi cx kX7_113 (As := [.int (nI (κ.2.2.1 2))]) (tX7_tells l D g A ad κ th ch cm rm row  (nI (κ.2.2.1 2)) ) ⟨rfl, rfl, by decide, by decide⟩ ⟨by decide, by decide⟩ rfl 0 rfl rfl rfl (Nat.le_of_ble_eq_true rfl) dX7_day_5 ?_
  intro _ _ hr; cases hr
  exact J_iret cx rfl (u := ()) rfl rfl (by decide) (by decide) dX7_day_8
set_option maxHeartbeats 4000000 in
set_option maxRecDepth 100000 in
theorem tX7_certificates (l : Launch) (D : va_G) (g : Nat → ClassId) (A : Nat → Prop) (ad : Nat → Nat) (κ : CS) (th : Int32) (ch : Nat → Nat) (cm rm : Nat) (row : Nat → Int64)    : CtI l D g A yX7_certificates cX7_certificates 1 .int ({ frames := 1, cells := 0, slots := 0, locals := 21 } : Room) [.ref (ad 0)] (mW ad g κ th ch cm rm row) (nI (κ.2.2.1 0)) (mW ad g κ (nI 0) ch cm rm row) := by
  refine metJ (by decide) (Nat.le_of_ble_eq_true rfl) ?_
  intro p e s m args below meth c _ _ cx
  refine J_aload_n cx dX7_certificates_0 rfl 0 rfl ?_
  refine J_aload_n cx dX7_certificates_1 rfl 0 rfl ?_
  refine J_get cx (v := .int (nI (κ.2.2.1 0))) fX7_71 0 rfl rfl dX7_certificates_2 ?_
  refine J_callVi cx kX7_113 (As := [.int (nI (κ.2.2.1 0))]) (tX7_tells l D g A ad κ th ch cm rm row  (nI (κ.2.2.1 0)) ) ⟨rfl, rfl, by decide, by decide⟩ ⟨by decide, by decide⟩ rfl 0 rfl rfl rfl (Nat.le_of_ble_eq_true rfl) dX7_certificates_5 ?_
  intro _ _ hr; cases hr
  exact J_iret cx rfl (u := ()) rfl rfl (by decide) (by decide) dX7_certificates_8
set_option maxHeartbeats 4000000 in
set_option maxRecDepth 100000 in
theorem tX7_walked (l : Launch) (D : va_G) (g : Nat → ClassId) (A : Nat → Prop) (ad : Nat → Nat) (κ : CS) (th : Int32) (ch : Nat → Nat) (cm rm : Nat) (row : Nat → Int64)    : CtI l D g A yX7_walked cX7_walked 1 .int ({ frames := 1, cells := 0, slots := 0, locals := 21 } : Room) [.ref (ad 0)] (mW ad g κ th ch cm rm row) (nI (κ.2.2.1 3)) (mW ad g κ (nI 0) ch cm rm row) := by
  refine metJ (by decide) (Nat.le_of_ble_eq_true rfl) ?_
  intro p e s m args below meth c _ _ cx
  refine J_aload_n cx dX7_walked_0 rfl 0 rfl ?_
  refine J_aload_n cx dX7_walked_1 rfl 0 rfl ?_
  refine J_get cx (v := .int (nI (κ.2.2.1 3))) fX7_165 0 rfl rfl dX7_walked_2 ?_
  refine J_callVi cx kX7_113 (As := [.int (nI (κ.2.2.1 3))]) (tX7_tells l D g A ad κ th ch cm rm row  (nI (κ.2.2.1 3)) ) ⟨rfl, rfl, by decide, by decide⟩ ⟨by decide, by decide⟩ rfl 0 rfl rfl rfl (Nat.le_of_ble_eq_true rfl) dX7_walked_5 ?_
  intro _ _ hr; cases hr
  exact J_iret cx rfl (u := ()) rfl rfl (by decide) (by decide) dX7_walked_8
set_option maxHeartbeats 4000000 in
set_option maxRecDepth 100000 in
theorem tX7_isCandidate (l : Launch) (D : va_G) (g : Nat → ClassId) (A : Nat → Prop) (ad : Nat → Nat) (κ : CS) (th : Int32) (ch : Nat → Nat) (cm rm : Nat) (row : Nat → Int64)  (i : Nat) (k : Nat) (hi : i < 40) (hk : k < 40) : CtI l D g A yX7_isCandidate cX7_isCandidate 3 .boolean ({ frames := 0, cells := 0, slots := 0, locals := 0 } : Room) [.ref (ad 0), .int (nI i), .int (nI k)] (mW ad g κ th ch cm rm row) (zb (candB κ i k)) (mW ad g κ th ch cm rm row) := by
  refine metJ (by decide) (Nat.le_of_ble_eq_true rfl) ?_
  intro p e s m args below meth c _ _ cx
  refine J_iload_n cx dX7_isCandidate_0 rfl 2 rfl ?_
  refine J_iload_n cx dX7_isCandidate_1 rfl 1 rfl ?_
  refine J_icmp_eq cx (tgt := 39) dX7_isCandidate_2 (by decide) (fun c_1 => ?_) (fun c_1 => ?_)
  · have c_1 := (nat_ic_eq (by omega) (by omega)).mp c_1
    have c_1d := decide_eq_true c_1
    refine J_iconst cx (v := nI 0) dX7_isCandidate_39 (by decide) ?_
    exact J_zret cx rfl (u := ()) (rfl) (by simp [candB, zb, c_1d]) rfl (by decide) (by decide) dX7_isCandidate_40
  · have c_1 := (nat_ic_eq_f (by omega) (by omega)).mp c_1
    have c_1d := decide_eq_false c_1
    refine J_aload_n cx dX7_isCandidate_5 rfl 0 rfl ?_
    refine J_get cx (v := .ref (ad 2)) fX7_13 0 rfl rfl dX7_isCandidate_6 ?_
    refine J_iload_n cx dX7_isCandidate_9 rfl 2 rfl ?_
    refine J_iald cx (j := k) (f := κ.1 1) 2 rfl rfl (by omega) (by decide) dX7_isCandidate_10 ?_
    refine J_aload_n cx dX7_isCandidate_11 rfl 0 rfl ?_
    refine J_get cx (v := .ref (ad 6)) fX7_25 0 rfl rfl dX7_isCandidate_12 ?_
    refine J_iload_n cx dX7_isCandidate_15 rfl 1 rfl ?_
    refine J_iald cx (j := i) (f := κ.1 5) 6 rfl rfl (by omega) (by decide) dX7_isCandidate_16 ?_
    refine J_icmp_ne cx (tgt := 39) dX7_isCandidate_17 (by decide) (fun c_2 => ?_) (fun c_2 => ?_)
    · have c_2d := decide_eq_false c_2
      refine J_iconst cx (v := nI 0) dX7_isCandidate_39 (by decide) ?_
      exact J_zret cx rfl (u := ()) (rfl) (by simp [candB, zb, c_1, c_1d, c_2, c_2d]) rfl (by decide) (by decide) dX7_isCandidate_40
    · have c_2d := decide_eq_true c_2
      refine J_aload_n cx dX7_isCandidate_20 rfl 0 rfl ?_
      refine J_get cx (v := .ref (ad 1)) fX7_9 0 rfl rfl dX7_isCandidate_21 ?_
      refine J_iload_n cx dX7_isCandidate_24 rfl 2 rfl ?_
      refine J_iald cx (j := k) (f := κ.1 0) 1 rfl rfl (by omega) (by decide) dX7_isCandidate_25 ?_
      refine J_aload_n cx dX7_isCandidate_26 rfl 0 rfl ?_
      refine J_get cx (v := .ref (ad 5)) fX7_22 0 rfl rfl dX7_isCandidate_27 ?_
      refine J_iload_n cx dX7_isCandidate_30 rfl 1 rfl ?_
      refine J_iald cx (j := i) (f := κ.1 4) 5 rfl rfl (by omega) (by decide) dX7_isCandidate_31 ?_
      refine J_icmp_ne cx (tgt := 39) dX7_isCandidate_32 (by decide) (fun c_3 => ?_) (fun c_3 => ?_)
      · have c_3d := decide_eq_false c_3
        refine J_iconst cx (v := nI 0) dX7_isCandidate_39 (by decide) ?_
        exact J_zret cx rfl (u := ()) (rfl) (by simp [candB, zb, c_1, c_1d, c_2d, c_3, c_3d]) rfl (by decide) (by decide) dX7_isCandidate_40
      · have c_3d := decide_eq_true c_3
        refine J_iconst cx (v := nI 1) dX7_isCandidate_35 (by decide) ?_
        refine J_goto cx (tgt := 40) dX7_isCandidate_36 (by decide) ?_
        exact J_zret cx rfl (u := ()) (rfl) (by simp [candB, zb, c_1, c_1d, c_2d, c_3d]) rfl (by decide) (by decide) dX7_isCandidate_40
set_option maxHeartbeats 4000000 in
set_option maxRecDepth 100000 in
theorem tX7_cannotIssue (l : Launch) (D : va_G) (g : Nat → ClassId) (A : Nat → Prop) (ad : Nat → Nat) (κ : CS) (th : Int32) (ch : Nat → Nat) (cm rm : Nat) (row : Nat → Int64)  (xc : Int32) (is : Bool) (hn : κ.2.2.1 0 ≤ 40) : CtI l D g A yX7_cannotIssue cX7_cannotIssue 3 .boolean ({ frames := 3, cells := 0, slots := 0, locals := 64 } : Room) [.ref (ad 0), .int xc, .int (zb is)] (mW ad g κ th ch cm rm row) (zb (!decide (canI κ xc is = 0))) (mW ad g κ (nI (canI κ xc is)) ch cm rm row) := by
  refine metJ (by decide) (Nat.le_of_ble_eq_true rfl) ?_
  intro p e s m args below meth c _ _ cx
  refine J_aload_n cx dX7_cannotIssue_0 rfl 0 rfl ?_
  refine J_iload_n cx dX7_cannotIssue_1 rfl 1 rfl ?_
  refine J_callVi cx kX7_99 (As := [.int xc]) (tX7_isNone l D g A ad κ th ch cm rm row  xc (by first | assumption | omega)) ⟨rfl, rfl, by decide, by decide⟩ ⟨by decide, by decide⟩ rfl 0 rfl rfl rfl (Nat.le_of_ble_eq_true rfl) dX7_cannotIssue_2 ?_
  intro _ _ hr; cases hr
  refine J_ifz_ne cx (tgt := 56) dX7_cannotIssue_5 (by decide) (fun c_1 => ?_) (fun c_1 => ?_)
  · have c_1 := bn_t c_1
    refine J_iconst cx (v := nI 1) dX7_cannotIssue_56 (by decide) ?_
    refine J_goto cx (tgt := 61) dX7_cannotIssue_57 (by decide) ?_
    exact J_zret cx rfl (u := ()) (rfl) (by simp [canI, zb, c_1]) (by simp [canI, c_1]; try rfl) (by decide) (by decide) dX7_cannotIssue_61
  · have c_1 := bn_f c_1
    obtain ⟨j, hj, hxj⟩ := inR_spec c_1 (by omega)
    subst hxj
    have hjc : (nI j).toNatClampNeg = j := nI_clamp (by omega)
    refine J_aload_n cx dX7_cannotIssue_8 rfl 0 rfl ?_
    refine J_iload_n cx dX7_cannotIssue_9 rfl 2 rfl ?_
    refine J_ifz_ne cx (tgt := 17) dX7_cannotIssue_10 (by decide) (fun c_2 => ?_) (fun c_2 => ?_)
    · refine J_iconst cx (v := nI 0) dX7_cannotIssue_17 (by decide) ?_
      refine J_iconst cx (v := nI 2) dX7_cannotIssue_18 (by decide) ?_
      refine J_callVi cx kX7_78 (As := [.int (nI 0), .int (nI 2)]) (tX7_isThrown l D g A ad κ (if inR (κ.2.2.1 0) (nI j) then nI 0 else nI 1) ch cm rm row  false (nI 2) ) ⟨rfl, rfl, by decide, by decide⟩ ⟨by decide, by decide⟩ rfl 0 rfl rfl rfl (Nat.le_of_ble_eq_true rfl) dX7_cannotIssue_19 ?_
      intro _ _ hr; cases hr
      refine J_ifz_ne cx (tgt := 56) dX7_cannotIssue_22 (by decide) (fun h => absurd h (by decide)) (fun _ => ?_)
      refine J_aload_n cx dX7_cannotIssue_25 rfl 0 rfl ?_
      refine J_aload_n cx dX7_cannotIssue_26 rfl 0 rfl ?_
      refine J_get cx (v := .ref (ad 11)) fX7_40 0 rfl rfl dX7_cannotIssue_27 ?_
      refine J_iload_n cx dX7_cannotIssue_30 rfl 1 rfl ?_
      refine J_zald cx (j := j) (f := fun i => zb (κ.2.1 0 i)) 11 rfl rfl (by omega) (by decide) dX7_cannotIssue_31 ?_
      refine J_ifz_eq cx (tgt := 44) dX7_cannotIssue_32 (by decide) (fun c_4 => ?_) (fun c_4 => ?_)
      · refine J_iconst cx (v := nI 1) dX7_cannotIssue_44 (by decide) ?_
        refine J_goto cx (tgt := 49) dX7_cannotIssue_45 (by decide) ?_
        refine J_iconst cx (v := nI 3) dX7_cannotIssue_49 (by decide) ?_
        refine J_callVi cx kX7_78 (As := [.int (nI 1), .int (nI 3)]) (tX7_isThrown l D g A ad κ (if false then (nI 2) else nI 0) ch cm rm row  true (nI 3) ) ⟨rfl, rfl, by decide, by decide⟩ ⟨by decide, by decide⟩ rfl 0 rfl rfl rfl (Nat.le_of_ble_eq_true rfl) dX7_cannotIssue_50 ?_
        intro _ _ hr; cases hr
        refine J_ifz_eq cx (tgt := 60) dX7_cannotIssue_53 (by decide) (fun h => absurd h (by decide)) (fun _ => ?_)
        refine J_iconst cx (v := nI 1) dX7_cannotIssue_56 (by decide) ?_
        refine J_goto cx (tgt := 61) dX7_cannotIssue_57 (by decide) ?_
        exact J_zret cx rfl (u := ()) (rfl) (by simp [canI, zb, c_1, hjc, c_2, c_4]) (by simp [canI, c_1, hjc, c_2, c_4]; try rfl) (by decide) (by decide) dX7_cannotIssue_61
      · refine J_aload_n cx dX7_cannotIssue_35 rfl 0 rfl ?_
        refine J_get cx (v := .int (nI (κ.2.2.1 0))) fX7_71 0 rfl rfl dX7_cannotIssue_36 ?_
        refine J_bipush cx (v := nI 40) dX7_cannotIssue_39 (by decide) ?_
        refine J_icmp_ne cx (tgt := 48) dX7_cannotIssue_41 (by decide) (fun c_6 => ?_) (fun c_6 => ?_)
        · have c_6 := (nat_ic_ne (by omega) (by omega)).mp c_6
          have c_6d := decide_eq_false c_6
          refine J_iconst cx (v := nI 0) dX7_cannotIssue_48 (by decide) ?_
          refine J_iconst cx (v := nI 3) dX7_cannotIssue_49 (by decide) ?_
          refine J_callVi cx kX7_78 (As := [.int (nI 0), .int (nI 3)]) (tX7_isThrown l D g A ad κ (if false then (nI 2) else nI 0) ch cm rm row  false (nI 3) ) ⟨rfl, rfl, by decide, by decide⟩ ⟨by decide, by decide⟩ rfl 0 rfl rfl rfl (Nat.le_of_ble_eq_true rfl) dX7_cannotIssue_50 ?_
          intro _ _ hr; cases hr
          refine J_ifz_eq cx (tgt := 60) dX7_cannotIssue_53 (by decide) (fun _ => ?_) (fun h => absurd h (by decide))
          refine J_iconst cx (v := nI 0) dX7_cannotIssue_60 (by decide) ?_
          exact J_zret cx rfl (u := ()) (rfl) (by simp [canI, zb, c_1, hjc, c_2, c_4, c_6, c_6d]) (by simp [canI, c_1, hjc, c_2, c_4, c_6, c_6d]; try rfl) (by decide) (by decide) dX7_cannotIssue_61
        · have c_6 := (nat_ic_ne_f (by omega) (by omega)).mp c_6
          have c_6d := decide_eq_true c_6
          refine J_iconst cx (v := nI 1) dX7_cannotIssue_44 (by decide) ?_
          refine J_goto cx (tgt := 49) dX7_cannotIssue_45 (by decide) ?_
          refine J_iconst cx (v := nI 3) dX7_cannotIssue_49 (by decide) ?_
          refine J_callVi cx kX7_78 (As := [.int (nI 1), .int (nI 3)]) (tX7_isThrown l D g A ad κ (if false then (nI 2) else nI 0) ch cm rm row  true (nI 3) ) ⟨rfl, rfl, by decide, by decide⟩ ⟨by decide, by decide⟩ rfl 0 rfl rfl rfl (Nat.le_of_ble_eq_true rfl) dX7_cannotIssue_50 ?_
          intro _ _ hr; cases hr
          refine J_ifz_eq cx (tgt := 60) dX7_cannotIssue_53 (by decide) (fun h => absurd h (by decide)) (fun _ => ?_)
          refine J_iconst cx (v := nI 1) dX7_cannotIssue_56 (by decide) ?_
          refine J_goto cx (tgt := 61) dX7_cannotIssue_57 (by decide) ?_
          exact J_zret cx rfl (u := ()) (rfl) (by simp [canI, zb, c_1, hjc, c_2, c_4, c_6d]) (by simp [canI, c_1, hjc, c_2, c_4, c_6d]; try rfl) (by decide) (by decide) dX7_cannotIssue_61
    · refine J_iconst cx (v := nI 1) dX7_cannotIssue_13 (by decide) ?_
      refine J_goto cx (tgt := 18) dX7_cannotIssue_14 (by decide) ?_
      refine J_iconst cx (v := nI 2) dX7_cannotIssue_18 (by decide) ?_
      refine J_callVi cx kX7_78 (As := [.int (nI 1), .int (nI 2)]) (tX7_isThrown l D g A ad κ (if inR (κ.2.2.1 0) (nI j) then nI 0 else nI 1) ch cm rm row  true (nI 2) ) ⟨rfl, rfl, by decide, by decide⟩ ⟨by decide, by decide⟩ rfl 0 rfl rfl rfl (Nat.le_of_ble_eq_true rfl) dX7_cannotIssue_19 ?_
      intro _ _ hr; cases hr
      refine J_ifz_ne cx (tgt := 56) dX7_cannotIssue_22 (by decide) (fun _ => ?_) (fun h => absurd h (by decide))
      refine J_iconst cx (v := nI 1) dX7_cannotIssue_56 (by decide) ?_
      refine J_goto cx (tgt := 61) dX7_cannotIssue_57 (by decide) ?_
      exact J_zret cx rfl (u := ()) (rfl) (by simp [canI, zb, c_1, hjc, c_2]) (by simp [canI, c_1, hjc, c_2]; try rfl) (by decide) (by decide) dX7_cannotIssue_61
end
section
set_option maxHeartbeats 4000000 in
set_option maxRecDepth 100000 in
theorem tX7_withKey (l : Launch) (D : va_G) (g : Nat → ClassId) (A : Nat → Prop) (ad : Nat → Nat) (κ : CS) (th : Int32) (ch : Nat → Nat) (cm rm : Nat) (row : Nat → Int64)  (xk : Int32) (hn : κ.2.2.1 0 ≤ 40) : CtI l D g A yX7_withKey cX7_withKey 4 .int ({ frames := 0, cells := 0, slots := 0, locals := 0 } : Room) [.ref (ad 0), .int xk] (mW ad g κ th ch cm rm row) (nI (cnt (wkB κ xk) (κ.2.2.1 0))) (mW ad g κ th ch cm rm row) := by
  refine metJ (by decide) (Nat.le_of_ble_eq_true rfl) ?_
  intro p e s m args below meth c _ _ cx
  refine J_iconst cx (v := nI 0) dX7_withKey_0 (by decide) ?_
  refine J_istore_n cx (L' := [(2, .int (nI 0)), (0, .ref (ad 0)), (1, .int xk)]) dX7_withKey_1 rfl (by decide) rfl ?_
  refine J_iconst cx (v := nI 0) dX7_withKey_2 (by decide) ?_
  refine J_istore_n cx (L' := [(3, .int (nI 0)), (2, .int (nI 0)), (0, .ref (ad 0)), (1, .int xk)]) dX7_withKey_3 rfl (by decide) rfl ?_
  have LP : ∀ (fu : Nat) (k : Nat), (k ≤ κ.2.2.1 0) → κ.2.2.1 0 - k < fu → J p l e ({ frames := 0, cells := 0, slots := 0, locals := 0 } : Room) s m args below meth c D A 4 (MQ below (va_Qi (fun (r : Int32) (_ : Unit) => r = (nI (cnt (wkB κ xk) (κ.2.2.1 0)))) (fun _ => PO D A (mW ad g κ th ch cm rm row)) A) args s 0 0 A) 0 0 (mW ad g κ th ch cm rm row) [(2, .int (nI (cnt (wkB κ xk) k))), (3, .int (nI k)), (0, .ref (ad 0)), (1, .int xk)] 4 [] := by
    intro fu; induction fu with
    | zero => intro k hk hfu; exact absurd hfu (Nat.not_lt_zero _)
    | succ fu ih =>
      intro k hk hfu
      refine J_iload_n cx dX7_withKey_4 rfl 1 rfl ?_
      refine J_aload_n cx dX7_withKey_5 rfl 2 rfl ?_
      refine J_get cx (v := .int (nI (κ.2.2.1 0))) fX7_71 0 rfl rfl dX7_withKey_6 ?_
      refine J_icmp_ge cx (tgt := 36) dX7_withKey_9 (by decide) (fun c_1 => ?_) (fun c_1 => ?_)
      · have c_1 := (nat_ic_ge (by omega) (by omega)).mp c_1
        have c_1d := decide_eq_true c_1
        refine J_iload_n cx dX7_withKey_36 rfl 0 rfl ?_
        exact J_iret cx rfl (u := ()) (by rw [show k = κ.2.2.1 0 from by omega]) rfl (by decide) (by decide) dX7_withKey_37
      · have c_1 := (nat_ic_ge_f (by omega) (by omega)).mp c_1
        have c_1d := decide_eq_false (Nat.not_le.mpr c_1)
        refine J_iload_n cx dX7_withKey_12 rfl 0 rfl ?_
        refine J_aload_n cx dX7_withKey_13 rfl 2 rfl ?_
        refine J_get cx (v := .ref (ad 2)) fX7_13 0 rfl rfl dX7_withKey_14 ?_
        refine J_iload_n cx dX7_withKey_17 rfl 1 rfl ?_
        refine J_iald cx (j := k) (f := κ.1 1) 2 rfl rfl (by omega) (by decide) dX7_withKey_18 ?_
        refine J_iload_n cx dX7_withKey_19 rfl 3 rfl ?_
        refine J_icmp_ne cx (tgt := 27) dX7_withKey_20 (by decide) (fun c_2 => ?_) (fun c_2 => ?_)
        · have c_2d := decide_eq_false c_2
          refine J_iconst cx (v := nI 0) dX7_withKey_27 (by decide) ?_
          refine J_iadd cx dX7_withKey_28 ?_
          refine J_top (v' := .int (nI ((cnt (wkB κ xk) k) + 0))) (congrArg Value.int (nI_add (cnt (wkB κ xk) k) 0)) ?_
          refine J_top (v' := .int (nI (cnt (wkB κ xk) (k + 1)))) (congrArg (fun z => Value.int (nI z)) (cnt_f (by simp [wkB, hk, c_1, c_1d, c_2, c_2d]))) ?_
          refine J_istore_n cx (L' := [(2, .int (nI (cnt (wkB κ xk) (k + 1)))), (3, .int (nI k)), (0, .ref (ad 0)), (1, .int xk)]) dX7_withKey_29 rfl (by decide) rfl ?_
          refine J_iinc cx (v := (nI (k + 1))) (L' := [(3, .int (nI (k + 1))), (2, .int (nI (cnt (wkB κ xk) (k + 1)))), (0, .ref (ad 0)), (1, .int xk)]) dX7_withKey_30 1 rfl (by exact nI_add k 1) (by decide) rfl ?_
          refine J_goto cx (tgt := 4) dX7_withKey_33 (by decide) ?_
          refine J_L [1, 0, 2, 3] rfl ?_
          exact ih (k + 1) (by omega) (by omega)
        · have c_2d := decide_eq_true c_2
          refine J_iconst cx (v := nI 1) dX7_withKey_23 (by decide) ?_
          refine J_goto cx (tgt := 28) dX7_withKey_24 (by decide) ?_
          refine J_iadd cx dX7_withKey_28 ?_
          refine J_top (v' := .int (nI ((cnt (wkB κ xk) k) + 1))) (congrArg Value.int (nI_add (cnt (wkB κ xk) k) 1)) ?_
          refine J_top (v' := .int (nI (cnt (wkB κ xk) (k + 1)))) (congrArg (fun z => Value.int (nI z)) (cnt_t (by simp [wkB, hk, c_1, c_1d, c_2d]))) ?_
          refine J_istore_n cx (L' := [(2, .int (nI (cnt (wkB κ xk) (k + 1)))), (3, .int (nI k)), (0, .ref (ad 0)), (1, .int xk)]) dX7_withKey_29 rfl (by decide) rfl ?_
          refine J_iinc cx (v := (nI (k + 1))) (L' := [(3, .int (nI (k + 1))), (2, .int (nI (cnt (wkB κ xk) (k + 1)))), (0, .ref (ad 0)), (1, .int xk)]) dX7_withKey_30 1 rfl (by exact nI_add k 1) (by decide) rfl ?_
          refine J_goto cx (tgt := 4) dX7_withKey_33 (by decide) ?_
          refine J_L [1, 0, 2, 3] rfl ?_
          exact ih (k + 1) (by omega) (by omega)
  refine J_L [1, 0, 2, 3] rfl ?_
  exact LP _ 0 (by omega) (Nat.lt_succ_self _)
set_option maxHeartbeats 4000000 in
set_option maxRecDepth 100000 in
theorem tX7_hasIssued (l : Launch) (D : va_G) (g : Nat → ClassId) (A : Nat → Prop) (ad : Nat → Nat) (κ : CS) (th : Int32) (ch : Nat → Nat) (cm rm : Nat) (row : Nat → Int64)  (xk : Int32) (hn : κ.2.2.1 0 ≤ 40) : CtI l D g A yX7_hasIssued cX7_hasIssued 4 .boolean ({ frames := 0, cells := 0, slots := 0, locals := 0 } : Room) [.ref (ad 0), .int xk] (mW ad g κ th ch cm rm row) (zb (anyN (issB κ xk) (κ.2.2.1 0))) (mW ad g κ th ch cm rm row) := by
  refine metJ (by decide) (Nat.le_of_ble_eq_true rfl) ?_
  intro p e s m args below meth c _ _ cx
  refine J_iconst cx (v := nI 0) dX7_hasIssued_0 (by decide) ?_
  refine J_istore_n cx (L' := [(2, .int (nI 0)), (0, .ref (ad 0)), (1, .int xk)]) dX7_hasIssued_1 rfl (by decide) rfl ?_
  refine J_iconst cx (v := nI 0) dX7_hasIssued_2 (by decide) ?_
  refine J_istore_n cx (L' := [(3, .int (nI 0)), (2, .int (nI 0)), (0, .ref (ad 0)), (1, .int xk)]) dX7_hasIssued_3 rfl (by decide) rfl ?_
  have LP : ∀ (fu : Nat) (k : Nat), (k ≤ κ.2.2.1 0) → κ.2.2.1 0 - k < fu → J p l e ({ frames := 0, cells := 0, slots := 0, locals := 0 } : Room) s m args below meth c D A 4 (MQ below (va_Qi (fun (r : Int32) (_ : Unit) => r = (zb (anyN (issB κ xk) (κ.2.2.1 0)))) (fun _ => PO D A (mW ad g κ th ch cm rm row)) A) args s 0 0 A) 0 0 (mW ad g κ th ch cm rm row) [(2, .int (zb (anyN (issB κ xk) k))), (3, .int (nI k)), (0, .ref (ad 0)), (1, .int xk)] 4 [] := by
    intro fu; induction fu with
    | zero => intro k hk hfu; exact absurd hfu (Nat.not_lt_zero _)
    | succ fu ih =>
      intro k hk hfu
      refine J_iload_n cx dX7_hasIssued_4 rfl 1 rfl ?_
      refine J_aload_n cx dX7_hasIssued_5 rfl 2 rfl ?_
      refine J_get cx (v := .int (nI (κ.2.2.1 0))) fX7_71 0 rfl rfl dX7_hasIssued_6 ?_
      refine J_icmp_ge cx (tgt := 45) dX7_hasIssued_9 (by decide) (fun c_1 => ?_) (fun c_1 => ?_)
      · have c_1 := (nat_ic_ge (by omega) (by omega)).mp c_1
        have c_1d := decide_eq_true c_1
        refine J_iload_n cx dX7_hasIssued_45 rfl 0 rfl ?_
        exact J_zret cx rfl (u := ()) (zb_nar _) (by rw [show k = κ.2.2.1 0 from by omega]) rfl (by decide) (by decide) dX7_hasIssued_46
      · have c_1 := (nat_ic_ge_f (by omega) (by omega)).mp c_1
        have c_1d := decide_eq_false (Nat.not_le.mpr c_1)
        refine J_iload_n cx dX7_hasIssued_12 rfl 0 rfl ?_
        refine J_aload_n cx dX7_hasIssued_13 rfl 2 rfl ?_
        refine J_get cx (v := .ref (ad 6)) fX7_25 0 rfl rfl dX7_hasIssued_14 ?_
        refine J_iload_n cx dX7_hasIssued_17 rfl 1 rfl ?_
        refine J_iald cx (j := k) (f := κ.1 5) 6 rfl rfl (by omega) (by decide) dX7_hasIssued_18 ?_
        refine J_iload_n cx dX7_hasIssued_19 rfl 3 rfl ?_
        refine J_icmp_ne cx (tgt := 36) dX7_hasIssued_20 (by decide) (fun c_2 => ?_) (fun c_2 => ?_)
        · have c_2d := decide_eq_false c_2
          refine J_iconst cx (v := nI 0) dX7_hasIssued_36 (by decide) ?_
          refine J_ior cx dX7_hasIssued_37 ?_
          refine J_top (v' := .int (zb ((anyN (issB κ xk) k) || false))) (congrArg Value.int (zb_or (anyN (issB κ xk) k) false)) ?_
          refine J_top (v' := .int (zb (anyN (issB κ xk) (k + 1)))) (congrArg (fun z => Value.int (zb z)) (any_f (by simp [issB, hk, c_1, c_1d, c_2, c_2d]))) ?_
          refine J_istore_n cx (L' := [(2, .int (zb (anyN (issB κ xk) (k + 1)))), (3, .int (nI k)), (0, .ref (ad 0)), (1, .int xk)]) dX7_hasIssued_38 rfl (by decide) rfl ?_
          refine J_iinc cx (v := (nI (k + 1))) (L' := [(3, .int (nI (k + 1))), (2, .int (zb (anyN (issB κ xk) (k + 1)))), (0, .ref (ad 0)), (1, .int xk)]) dX7_hasIssued_39 1 rfl (by exact nI_add k 1) (by decide) rfl ?_
          refine J_goto cx (tgt := 4) dX7_hasIssued_42 (by decide) ?_
          refine J_L [1, 0, 2, 3] rfl ?_
          exact ih (k + 1) (by omega) (by omega)
        · have c_2d := decide_eq_true c_2
          refine J_aload_n cx dX7_hasIssued_23 rfl 2 rfl ?_
          refine J_get cx (v := .ref (ad 12)) fX7_44 0 rfl rfl dX7_hasIssued_24 ?_
          refine J_iload_n cx dX7_hasIssued_27 rfl 1 rfl ?_
          refine J_zald cx (j := k) (f := fun i => zb (κ.2.1 1 i)) 12 rfl rfl (by omega) (by decide) dX7_hasIssued_28 ?_
          refine J_ifz_ne cx (tgt := 36) dX7_hasIssued_29 (by decide) (fun c_3 => ?_) (fun c_3 => ?_)
          · refine J_iconst cx (v := nI 0) dX7_hasIssued_36 (by decide) ?_
            refine J_ior cx dX7_hasIssued_37 ?_
            refine J_top (v' := .int (zb ((anyN (issB κ xk) k) || false))) (congrArg Value.int (zb_or (anyN (issB κ xk) k) false)) ?_
            refine J_top (v' := .int (zb (anyN (issB κ xk) (k + 1)))) (congrArg (fun z => Value.int (zb z)) (any_f (by simp [issB, hk, c_1, c_1d, c_2d, c_3]))) ?_
            refine J_istore_n cx (L' := [(2, .int (zb (anyN (issB κ xk) (k + 1)))), (3, .int (nI k)), (0, .ref (ad 0)), (1, .int xk)]) dX7_hasIssued_38 rfl (by decide) rfl ?_
            refine J_iinc cx (v := (nI (k + 1))) (L' := [(3, .int (nI (k + 1))), (2, .int (zb (anyN (issB κ xk) (k + 1)))), (0, .ref (ad 0)), (1, .int xk)]) dX7_hasIssued_39 1 rfl (by exact nI_add k 1) (by decide) rfl ?_
            refine J_goto cx (tgt := 4) dX7_hasIssued_42 (by decide) ?_
            refine J_L [1, 0, 2, 3] rfl ?_
            exact ih (k + 1) (by omega) (by omega)
          · refine J_iconst cx (v := nI 1) dX7_hasIssued_32 (by decide) ?_
            refine J_goto cx (tgt := 37) dX7_hasIssued_33 (by decide) ?_
            refine J_ior cx dX7_hasIssued_37 ?_
            refine J_top (v' := .int (zb ((anyN (issB κ xk) k) || true))) (congrArg Value.int (zb_or (anyN (issB κ xk) k) true)) ?_
            refine J_top (v' := .int (zb (anyN (issB κ xk) (k + 1)))) (congrArg (fun z => Value.int (zb z)) (any_t (by simp [issB, hk, c_1, c_1d, c_2d, c_3]))) ?_
            refine J_istore_n cx (L' := [(2, .int (zb (anyN (issB κ xk) (k + 1)))), (3, .int (nI k)), (0, .ref (ad 0)), (1, .int xk)]) dX7_hasIssued_38 rfl (by decide) rfl ?_
            refine J_iinc cx (v := (nI (k + 1))) (L' := [(3, .int (nI (k + 1))), (2, .int (zb (anyN (issB κ xk) (k + 1)))), (0, .ref (ad 0)), (1, .int xk)]) dX7_hasIssued_39 1 rfl (by exact nI_add k 1) (by decide) rfl ?_
            refine J_goto cx (tgt := 4) dX7_hasIssued_42 (by decide) ?_
            refine J_L [1, 0, 2, 3] rfl ?_
            exact ih (k + 1) (by omega) (by omega)
  refine J_L [1, 0, 2, 3] rfl ?_
  exact LP _ 0 (by omega) (Nat.lt_succ_self _)
set_option maxHeartbeats 4000000 in
set_option maxRecDepth 100000 in
theorem tX7_makeRoot (l : Launch) (D : va_G) (g : Nat → ClassId) (A : Nat → Prop) (ad : Nat → Nat) (κ : CS) (th : Int32) (ch : Nat → Nat) (cm rm : Nat) (row : Nat → Int64)  (xn : Int32) (dy : Int32) (ln : Int32) (hn : κ.2.2.1 0 ≤ 40) : CtI l D g A yX7_makeRoot cX7_makeRoot 6 .int ({ frames := 2, cells := 0, slots := 0, locals := 44 } : Room) [.ref (ad 0), .int xn, .int dy, .int ln] (mW ad g κ th ch cm rm row) ((opMakeRoot κ xn dy ln).2.1) (mW ad g ((opMakeRoot κ xn dy ln).2.2) (nI (opMakeRoot κ xn dy ln).1) ch cm rm row) := by
  refine metJ (by decide) (Nat.le_of_ble_eq_true rfl) ?_
  intro p e s m args below meth c _ _ cx
  refine J_iload_n cx dX7_makeRoot_0 rfl 1 rfl ?_
  refine J_callSi cx kX7_85 (As := [.int xn]) (tX7_isName l D g A ad κ th ch cm rm row  xn ) ⟨rfl, rfl, by decide, by decide⟩ ⟨by decide, by decide⟩ rfl rfl (Nat.le_of_ble_eq_true rfl) dX7_makeRoot_1 ?_
  intro _ _ hr; cases hr
  refine J_ifz_eq cx (tgt := 31) dX7_makeRoot_4 (by decide) (fun c_1 => ?_) (fun c_1 => ?_)
  · refine J_iconst cx (v := nI 0) dX7_makeRoot_31 (by decide) ?_
    refine J_istore cx (L' := [(4, .int (nI 0)), (0, .ref (ad 0)), (1, .int xn), (2, .int dy), (3, .int ln)]) dX7_makeRoot_32 (by decide) rfl ?_
    refine J_aload_n cx dX7_makeRoot_34 rfl 1 rfl ?_
    refine J_iload cx dX7_makeRoot_35 0 rfl ?_
    refine J_if_ne cx (tgt := 44) dX7_makeRoot_37 (by decide) (fun h => absurd h (by decide)) (fun _ => ?_)
    refine J_iconst cx (v := nI 1) dX7_makeRoot_40 (by decide) ?_
    refine J_goto cx (tgt := 45) dX7_makeRoot_41 (by decide) ?_
    refine J_iconst cx (v := nI 1) dX7_makeRoot_45 (by decide) ?_
    refine J_callVi cx kX7_78 (As := [.int (nI 1), .int (nI 1)]) (tX7_isThrown l D g A ad κ th ch cm rm row  true (nI 1) ) ⟨rfl, rfl, by decide, by decide⟩ ⟨by decide, by decide⟩ rfl 0 rfl rfl rfl (Nat.le_of_ble_eq_true rfl) dX7_makeRoot_46 ?_
    intro _ _ hr; cases hr
    refine J_ifz_ne cx (tgt := 74) dX7_makeRoot_49 (by decide) (fun _ => ?_) (fun h => absurd h (by decide))
    refine J_iconst cx (v := nI 0) dX7_makeRoot_74 (by decide) ?_
    exact J_iret cx rfl (u := ()) (by simp only [opMakeRoot, Bool.and_true, Bool.true_and, Bool.and_false, Bool.false_and, Bool.or_true, Bool.true_or, Bool.or_false, Bool.false_or, Bool.not_true, Bool.not_false, if_true, if_false, Bool.false_eq_true, decide_true, decide_false, ite_true, ite_false, ne_eq, not_true_eq_false, not_false_eq_true, xj, c_1]; try rfl) (by simp only [opMakeRoot, Bool.and_true, Bool.true_and, Bool.and_false, Bool.false_and, Bool.or_true, Bool.true_or, Bool.or_false, Bool.false_or, Bool.not_true, Bool.not_false, if_true, if_false, Bool.false_eq_true, decide_true, decide_false, ite_true, ite_false, ne_eq, not_true_eq_false, not_false_eq_true, xj, c_1]; try rfl) (by decide) (by decide) dX7_makeRoot_75
  · refine J_iload_n cx dX7_makeRoot_7 rfl 2 rfl ?_
    refine J_iconst cx (v := nI 1) dX7_makeRoot_8 (by decide) ?_
    refine J_sipush cx (v := nI 999) dX7_makeRoot_9 (by decide) ?_
    refine J_callSi cx kX7_67 (As := [.int dy, .int (nI 1), .int (nI 999)]) (tX7_isIn l D g A ad κ th ch cm rm row  dy (nI 1) (nI 999) ) ⟨rfl, rfl, by decide, by decide⟩ ⟨by decide, by decide⟩ rfl rfl (Nat.le_of_ble_eq_true rfl) dX7_makeRoot_12 ?_
    intro _ _ hr; cases hr
    refine J_ifz_eq cx (tgt := 31) dX7_makeRoot_15 (by decide) (fun c_4 => ?_) (fun c_4 => ?_)
    · refine J_iconst cx (v := nI 0) dX7_makeRoot_31 (by decide) ?_
      refine J_istore cx (L' := [(4, .int (nI 0)), (0, .ref (ad 0)), (1, .int xn), (2, .int dy), (3, .int ln)]) dX7_makeRoot_32 (by decide) rfl ?_
      refine J_aload_n cx dX7_makeRoot_34 rfl 1 rfl ?_
      refine J_iload cx dX7_makeRoot_35 0 rfl ?_
      refine J_if_ne cx (tgt := 44) dX7_makeRoot_37 (by decide) (fun h => absurd h (by decide)) (fun _ => ?_)
      refine J_iconst cx (v := nI 1) dX7_makeRoot_40 (by decide) ?_
      refine J_goto cx (tgt := 45) dX7_makeRoot_41 (by decide) ?_
      refine J_iconst cx (v := nI 1) dX7_makeRoot_45 (by decide) ?_
      refine J_callVi cx kX7_78 (As := [.int (nI 1), .int (nI 1)]) (tX7_isThrown l D g A ad κ th ch cm rm row  true (nI 1) ) ⟨rfl, rfl, by decide, by decide⟩ ⟨by decide, by decide⟩ rfl 0 rfl rfl rfl (Nat.le_of_ble_eq_true rfl) dX7_makeRoot_46 ?_
      intro _ _ hr; cases hr
      refine J_ifz_ne cx (tgt := 74) dX7_makeRoot_49 (by decide) (fun _ => ?_) (fun h => absurd h (by decide))
      refine J_iconst cx (v := nI 0) dX7_makeRoot_74 (by decide) ?_
      exact J_iret cx rfl (u := ()) (by simp only [opMakeRoot, Bool.and_true, Bool.true_and, Bool.and_false, Bool.false_and, Bool.or_true, Bool.true_or, Bool.or_false, Bool.false_or, Bool.not_true, Bool.not_false, if_true, if_false, Bool.false_eq_true, decide_true, decide_false, ite_true, ite_false, ne_eq, not_true_eq_false, not_false_eq_true, xj, c_1, c_4]; try rfl) (by simp only [opMakeRoot, Bool.and_true, Bool.true_and, Bool.and_false, Bool.false_and, Bool.or_true, Bool.true_or, Bool.or_false, Bool.false_or, Bool.not_true, Bool.not_false, if_true, if_false, Bool.false_eq_true, decide_true, decide_false, ite_true, ite_false, ne_eq, not_true_eq_false, not_false_eq_true, xj, c_1, c_4]; try rfl) (by decide) (by decide) dX7_makeRoot_75
    · refine J_iload_n cx dX7_makeRoot_18 rfl 3 rfl ?_
      refine J_iconst cx (v := nI 0) dX7_makeRoot_19 (by decide) ?_
      refine J_iconst cx (v := nI 5) dX7_makeRoot_20 (by decide) ?_
      refine J_callSi cx kX7_67 (As := [.int ln, .int (nI 0), .int (nI 5)]) (tX7_isIn l D g A ad κ th ch cm rm row  ln (nI 0) (nI 5) ) ⟨rfl, rfl, by decide, by decide⟩ ⟨by decide, by decide⟩ rfl rfl (Nat.le_of_ble_eq_true rfl) dX7_makeRoot_21 ?_
      intro _ _ hr; cases hr
      refine J_ifz_eq cx (tgt := 31) dX7_makeRoot_24 (by decide) (fun c_7 => ?_) (fun c_7 => ?_)
      · refine J_iconst cx (v := nI 0) dX7_makeRoot_31 (by decide) ?_
        refine J_istore cx (L' := [(4, .int (nI 0)), (0, .ref (ad 0)), (1, .int xn), (2, .int dy), (3, .int ln)]) dX7_makeRoot_32 (by decide) rfl ?_
        refine J_aload_n cx dX7_makeRoot_34 rfl 1 rfl ?_
        refine J_iload cx dX7_makeRoot_35 0 rfl ?_
        refine J_if_ne cx (tgt := 44) dX7_makeRoot_37 (by decide) (fun h => absurd h (by decide)) (fun _ => ?_)
        refine J_iconst cx (v := nI 1) dX7_makeRoot_40 (by decide) ?_
        refine J_goto cx (tgt := 45) dX7_makeRoot_41 (by decide) ?_
        refine J_iconst cx (v := nI 1) dX7_makeRoot_45 (by decide) ?_
        refine J_callVi cx kX7_78 (As := [.int (nI 1), .int (nI 1)]) (tX7_isThrown l D g A ad κ th ch cm rm row  true (nI 1) ) ⟨rfl, rfl, by decide, by decide⟩ ⟨by decide, by decide⟩ rfl 0 rfl rfl rfl (Nat.le_of_ble_eq_true rfl) dX7_makeRoot_46 ?_
        intro _ _ hr; cases hr
        refine J_ifz_ne cx (tgt := 74) dX7_makeRoot_49 (by decide) (fun _ => ?_) (fun h => absurd h (by decide))
        refine J_iconst cx (v := nI 0) dX7_makeRoot_74 (by decide) ?_
        exact J_iret cx rfl (u := ()) (by simp only [opMakeRoot, Bool.and_true, Bool.true_and, Bool.and_false, Bool.false_and, Bool.or_true, Bool.true_or, Bool.or_false, Bool.false_or, Bool.not_true, Bool.not_false, if_true, if_false, Bool.false_eq_true, decide_true, decide_false, ite_true, ite_false, ne_eq, not_true_eq_false, not_false_eq_true, xj, c_1, c_4, c_7]; try rfl) (by simp only [opMakeRoot, Bool.and_true, Bool.true_and, Bool.and_false, Bool.false_and, Bool.or_true, Bool.true_or, Bool.or_false, Bool.false_or, Bool.not_true, Bool.not_false, if_true, if_false, Bool.false_eq_true, decide_true, decide_false, ite_true, ite_false, ne_eq, not_true_eq_false, not_false_eq_true, xj, c_1, c_4, c_7]; try rfl) (by decide) (by decide) dX7_makeRoot_75
      · refine J_iconst cx (v := nI 1) dX7_makeRoot_27 (by decide) ?_
        refine J_goto cx (tgt := 32) dX7_makeRoot_28 (by decide) ?_
        refine J_istore cx (L' := [(4, .int (nI 1)), (0, .ref (ad 0)), (1, .int xn), (2, .int dy), (3, .int ln)]) dX7_makeRoot_32 (by decide) rfl ?_
        refine J_aload_n cx dX7_makeRoot_34 rfl 1 rfl ?_
        refine J_iload cx dX7_makeRoot_35 0 rfl ?_
        refine J_if_ne cx (tgt := 44) dX7_makeRoot_37 (by decide) (fun _ => ?_) (fun h => absurd h (by decide))
        refine J_iconst cx (v := nI 0) dX7_makeRoot_44 (by decide) ?_
        refine J_iconst cx (v := nI 1) dX7_makeRoot_45 (by decide) ?_
        refine J_callVi cx kX7_78 (As := [.int (nI 0), .int (nI 1)]) (tX7_isThrown l D g A ad κ th ch cm rm row  false (nI 1) ) ⟨rfl, rfl, by decide, by decide⟩ ⟨by decide, by decide⟩ rfl 0 rfl rfl rfl (Nat.le_of_ble_eq_true rfl) dX7_makeRoot_46 ?_
        intro _ _ hr; cases hr
        refine J_ifz_ne cx (tgt := 74) dX7_makeRoot_49 (by decide) (fun h => absurd h (by decide)) (fun _ => ?_)
        refine J_aload_n cx dX7_makeRoot_52 rfl 1 rfl ?_
        refine J_aload_n cx dX7_makeRoot_53 rfl 1 rfl ?_
        refine J_get cx (v := .int (nI (κ.2.2.1 0))) fX7_71 0 rfl rfl dX7_makeRoot_54 ?_
        refine J_bipush cx (v := nI 40) dX7_makeRoot_57 (by decide) ?_
        refine J_icmp_ne cx (tgt := 66) dX7_makeRoot_59 (by decide) (fun c_12 => ?_) (fun c_12 => ?_)
        · have c_12 := (nat_ic_ne (by omega) (by omega)).mp c_12
          have c_12d := decide_eq_false c_12
          refine J_iconst cx (v := nI 0) dX7_makeRoot_66 (by decide) ?_
          refine J_iconst cx (v := nI 2) dX7_makeRoot_67 (by decide) ?_
          refine J_callVi cx kX7_78 (As := [.int (nI 0), .int (nI 2)]) (tX7_isThrown l D g A ad κ (if false then (nI 1) else nI 0) ch cm rm row  false (nI 2) ) ⟨rfl, rfl, by decide, by decide⟩ ⟨by decide, by decide⟩ rfl 0 rfl rfl rfl (Nat.le_of_ble_eq_true rfl) dX7_makeRoot_68 ?_
          intro _ _ hr; cases hr
          refine J_ifz_eq cx (tgt := 76) dX7_makeRoot_71 (by decide) (fun _ => ?_) (fun h => absurd h (by decide))
          refine J_aload_n cx dX7_makeRoot_76 rfl 1 rfl ?_
          refine J_dup cx dX7_makeRoot_77 rfl ?_
          refine J_get cx (v := .int (nI (κ.2.2.1 1))) fX7_88 0 rfl rfl dX7_makeRoot_78 ?_
          refine J_iconst cx (v := nI 1) dX7_makeRoot_81 (by decide) ?_
          refine J_iadd cx dX7_makeRoot_82 ?_
          refine J_top (v' := .int (nI ((κ.2.2.1 1) + 1))) (congrArg Value.int (nI_add (κ.2.2.1 1) 1)) ?_
          refine J_put cx (ws' := (mW ad g (κ.1, κ.2.1, upn κ.2.2.1 1 ((κ.2.2.1 1) + 1), κ.2.2.2.1, κ.2.2.2.2) (if false then (nI 2) else nI 0) ch cm rm row)) fX7_88 ⟨tyX7_ok, nmX7, tyX7_ok 18 (by decide)⟩ rfl 0 rfl rfl rfl (Nat.le_of_ble_eq_true rfl) rfl dX7_makeRoot_83 ?_
          refine J_aload_n cx dX7_makeRoot_86 rfl 1 rfl ?_
          refine J_aload_n cx dX7_makeRoot_87 rfl 1 rfl ?_
          refine J_iload_n cx dX7_makeRoot_88 rfl 2 rfl ?_
          refine J_aload_n cx dX7_makeRoot_89 rfl 1 rfl ?_
          refine J_get cx (v := .int (nI ((κ.2.2.1 1) + 1))) fX7_88 0 rfl rfl dX7_makeRoot_90 ?_
          refine J_iload_n cx dX7_makeRoot_93 rfl 2 rfl ?_
          refine J_aload_n cx dX7_makeRoot_94 rfl 1 rfl ?_
          refine J_get cx (v := .int (nI ((κ.2.2.1 1) + 1))) fX7_88 0 rfl rfl dX7_makeRoot_95 ?_
          refine J_iload_n cx dX7_makeRoot_98 rfl 3 rfl ?_
          refine J_callVi cx kX7_91 (As := [.int xn, .int (nI ((κ.2.2.1 1) + 1)), .int xn, .int (nI ((κ.2.2.1 1) + 1)), .int dy]) (tX7_makes l D g A ad (κ.1, κ.2.1, upn κ.2.2.1 1 ((κ.2.2.1 1) + 1), κ.2.2.2.1, κ.2.2.2.2) (if false then (nI 2) else nI 0) ch cm rm row  xn (nI ((κ.2.2.1 1) + 1)) xn (nI ((κ.2.2.1 1) + 1)) dy (show κ.2.2.1 0 < 40 by omega)) ⟨rfl, rfl, by decide, by decide⟩ ⟨by decide, by decide⟩ rfl 0 rfl rfl rfl (Nat.le_of_ble_eq_true rfl) dX7_makeRoot_99 ?_
          intro _ _ hr; cases hr
          refine J_iload_n cx dX7_makeRoot_102 rfl 4 rfl ?_
          refine J_callVi cx kX7_95 (As := [.int (nI ((κ.1, κ.2.1, upn κ.2.2.1 1 ((κ.2.2.1 1) + 1), κ.2.2.2.1, κ.2.2.2.2).2.2.1 0)), .int ln]) (tX7_authority l D g A ad (mkK (κ.1, κ.2.1, upn κ.2.2.1 1 ((κ.2.2.1 1) + 1), κ.2.2.2.1, κ.2.2.2.2) xn (nI ((κ.2.2.1 1) + 1)) xn (nI ((κ.2.2.1 1) + 1)) dy) (if false then (nI 2) else nI 0) ch cm rm row  ((κ.1, κ.2.1, upn κ.2.2.1 1 ((κ.2.2.1 1) + 1), κ.2.2.2.1, κ.2.2.2.2).2.2.1 0) ln (show κ.2.2.1 0 < 40 by omega)) ⟨rfl, rfl, by decide, by decide⟩ ⟨by decide, by decide⟩ rfl 0 rfl rfl rfl (Nat.le_of_ble_eq_true rfl) dX7_makeRoot_103 ?_
          intro _ _ hr; cases hr
          refine J_top (v' := .int (nI (κ.2.2.1 0))) rfl ?_
          refine J_istore cx (L' := [(5, .int (nI (κ.2.2.1 0))), (4, .int (nI 1)), (0, .ref (ad 0)), (1, .int xn), (2, .int dy), (3, .int ln)]) dX7_makeRoot_106 (by decide) rfl ?_
          refine J_aload_n cx dX7_makeRoot_108 rfl 2 rfl ?_
          refine J_get cx (v := .ref (ad 12)) fX7_44 0 rfl rfl dX7_makeRoot_109 ?_
          refine J_iload cx dX7_makeRoot_112 0 rfl ?_
          refine J_iconst cx (v := nI 1) dX7_makeRoot_114 (by decide) ?_
          refine J_zast cx (ws' := (mW ad g ((auK (mkK (κ.1, κ.2.1, upn κ.2.2.1 1 ((κ.2.2.1 1) + 1), κ.2.2.2.1, κ.2.2.2.2) xn (nI ((κ.2.2.1 1) + 1)) xn (nI ((κ.2.2.1 1) + 1)) dy) ((κ.1, κ.2.1, upn κ.2.2.1 1 ((κ.2.2.1 1) + 1), κ.2.2.2.1, κ.2.2.2.2).2.2.1 0) ln).1, upB ((auK (mkK (κ.1, κ.2.1, upn κ.2.2.1 1 ((κ.2.2.1 1) + 1), κ.2.2.2.1, κ.2.2.2.2) xn (nI ((κ.2.2.1 1) + 1)) xn (nI ((κ.2.2.1 1) + 1)) dy) ((κ.1, κ.2.1, upn κ.2.2.1 1 ((κ.2.2.1 1) + 1), κ.2.2.2.1, κ.2.2.2.2).2.2.1 0) ln).2.1) 1 (κ.2.2.1 0) true, (auK (mkK (κ.1, κ.2.1, upn κ.2.2.1 1 ((κ.2.2.1 1) + 1), κ.2.2.2.1, κ.2.2.2.2) xn (nI ((κ.2.2.1 1) + 1)) xn (nI ((κ.2.2.1 1) + 1)) dy) ((κ.1, κ.2.1, upn κ.2.2.1 1 ((κ.2.2.1 1) + 1), κ.2.2.2.1, κ.2.2.2.2).2.2.1 0) ln).2.2.1, (auK (mkK (κ.1, κ.2.1, upn κ.2.2.1 1 ((κ.2.2.1 1) + 1), κ.2.2.2.1, κ.2.2.2.2) xn (nI ((κ.2.2.1 1) + 1)) xn (nI ((κ.2.2.1 1) + 1)) dy) ((κ.1, κ.2.1, upn κ.2.2.1 1 ((κ.2.2.1 1) + 1), κ.2.2.2.1, κ.2.2.2.2).2.2.1 0) ln).2.2.2.1, (auK (mkK (κ.1, κ.2.1, upn κ.2.2.1 1 ((κ.2.2.1 1) + 1), κ.2.2.2.1, κ.2.2.2.2) xn (nI ((κ.2.2.1 1) + 1)) xn (nI ((κ.2.2.1 1) + 1)) dy) ((κ.1, κ.2.1, upn κ.2.2.1 1 ((κ.2.2.1 1) + 1), κ.2.2.2.1, κ.2.2.2.2).2.2.1 0) ln).2.2.2.2) (if false then (nI 2) else nI 0) ch cm rm row)) (j := (κ.2.2.1 0)) 12 rfl  rfl (by omega) (by decide) (by rw [show vp_nar .boolean (nI 1) = zb true from zb_vnar true, upb_zb]; rfl) dX7_makeRoot_115 ?_
          refine J_iload cx dX7_makeRoot_116 0 rfl ?_
          exact J_iret cx rfl (u := ()) (by simp only [opMakeRoot, Bool.and_true, Bool.true_and, Bool.and_false, Bool.false_and, Bool.or_true, Bool.true_or, Bool.or_false, Bool.false_or, Bool.not_true, Bool.not_false, if_true, if_false, Bool.false_eq_true, decide_true, decide_false, ite_true, ite_false, ne_eq, not_true_eq_false, not_false_eq_true, xj, c_1, c_4, c_7, c_12, c_12d]; try rfl) (by simp only [opMakeRoot, Bool.and_true, Bool.true_and, Bool.and_false, Bool.false_and, Bool.or_true, Bool.true_or, Bool.or_false, Bool.false_or, Bool.not_true, Bool.not_false, if_true, if_false, Bool.false_eq_true, decide_true, decide_false, ite_true, ite_false, ne_eq, not_true_eq_false, not_false_eq_true, xj, c_1, c_4, c_7, c_12, c_12d]; try rfl) (by decide) (by decide) dX7_makeRoot_118
        · have c_12 := (nat_ic_ne_f (by omega) (by omega)).mp c_12
          have c_12d := decide_eq_true c_12
          refine J_iconst cx (v := nI 1) dX7_makeRoot_62 (by decide) ?_
          refine J_goto cx (tgt := 67) dX7_makeRoot_63 (by decide) ?_
          refine J_iconst cx (v := nI 2) dX7_makeRoot_67 (by decide) ?_
          refine J_callVi cx kX7_78 (As := [.int (nI 1), .int (nI 2)]) (tX7_isThrown l D g A ad κ (if false then (nI 1) else nI 0) ch cm rm row  true (nI 2) ) ⟨rfl, rfl, by decide, by decide⟩ ⟨by decide, by decide⟩ rfl 0 rfl rfl rfl (Nat.le_of_ble_eq_true rfl) dX7_makeRoot_68 ?_
          intro _ _ hr; cases hr
          refine J_ifz_eq cx (tgt := 76) dX7_makeRoot_71 (by decide) (fun h => absurd h (by decide)) (fun _ => ?_)
          refine J_iconst cx (v := nI 0) dX7_makeRoot_74 (by decide) ?_
          exact J_iret cx rfl (u := ()) (by simp only [opMakeRoot, Bool.and_true, Bool.true_and, Bool.and_false, Bool.false_and, Bool.or_true, Bool.true_or, Bool.or_false, Bool.false_or, Bool.not_true, Bool.not_false, if_true, if_false, Bool.false_eq_true, decide_true, decide_false, ite_true, ite_false, ne_eq, not_true_eq_false, not_false_eq_true, xj, c_1, c_4, c_7, c_12d]; try rfl) (by simp only [opMakeRoot, Bool.and_true, Bool.true_and, Bool.and_false, Bool.false_and, Bool.or_true, Bool.true_or, Bool.or_false, Bool.false_or, Bool.not_true, Bool.not_false, if_true, if_false, Bool.false_eq_true, decide_true, decide_false, ite_true, ite_false, ne_eq, not_true_eq_false, not_false_eq_true, xj, c_1, c_4, c_7, c_12d]; try rfl) (by decide) (by decide) dX7_makeRoot_75
set_option maxHeartbeats 4000000 in
set_option maxRecDepth 100000 in
theorem tX7_issue (l : Launch) (D : va_G) (g : Nat → ClassId) (A : Nat → Prop) (ad : Nat → Nat) (κ : CS) (th : Int32) (ch : Nat → Nat) (cm rm : Nat) (row : Nat → Int64)  (xc : Int32) (xn : Int32) (dy : Int32) (hn : κ.2.2.1 0 ≤ 40) : CtI l D g A yX7_issue cX7_issue 4 .int ({ frames := 4, cells := 0, slots := 0, locals := 86 } : Room) [.ref (ad 0), .int xc, .int xn, .int dy] (mW ad g κ th ch cm rm row) ((opIssue κ xc xn dy).2.1) (mW ad g ((opIssue κ xc xn dy).2.2) (nI (opIssue κ xc xn dy).1) ch cm rm row) := by
  refine metJ (by decide) (Nat.le_of_ble_eq_true rfl) ?_
  intro p e s m args below meth c _ _ cx
  refine J_aload_n cx dX7_issue_0 rfl 0 rfl ?_
  refine J_iload_n cx dX7_issue_1 rfl 1 rfl ?_
  refine J_iload_n cx dX7_issue_2 rfl 2 rfl ?_
  refine J_callSi cx kX7_85 (As := [.int xn]) (tX7_isName l D g A ad κ th ch cm rm row  xn ) ⟨rfl, rfl, by decide, by decide⟩ ⟨by decide, by decide⟩ rfl rfl (Nat.le_of_ble_eq_true rfl) dX7_issue_3 ?_
  intro _ _ hr; cases hr
  refine J_ifz_eq cx (tgt := 24) dX7_issue_6 (by decide) (fun c_1 => ?_) (fun c_1 => ?_)
  · refine J_iconst cx (v := nI 0) dX7_issue_24 (by decide) ?_
    refine J_callVi cx kX7_102 (As := [.int xc, .int (nI 0)]) (tX7_cannotIssue l D g A ad κ th ch cm rm row  xc false (by first | assumption | omega)) ⟨rfl, rfl, by decide, by decide⟩ ⟨by decide, by decide⟩ rfl 0 rfl rfl rfl (Nat.le_of_ble_eq_true rfl) dX7_issue_25 ?_
    intro _ _ hr; cases hr
    refine J_ifz_eq cx (tgt := 33) dX7_issue_28 (by decide) (fun c_2 => ?_) (fun c_2 => ?_)
    · have c_2 := bn_f c_2
      have c_2 := of_decide_eq_true c_2
      obtain ⟨j, hj, hxj, -, hau, hn4⟩ := canI_0 c_2 hn; subst hxj
      have hjc : (nI j).toNatClampNeg = j := nI_clamp (by omega)
      refine J_aload_n cx dX7_issue_33 rfl 0 rfl ?_
      refine J_dup cx dX7_issue_34 rfl ?_
      refine J_get cx (v := .int (nI (κ.2.2.1 1))) fX7_88 0 rfl rfl dX7_issue_35 ?_
      refine J_iconst cx (v := nI 1) dX7_issue_38 (by decide) ?_
      refine J_iadd cx dX7_issue_39 ?_
      refine J_top (v' := .int (nI ((κ.2.2.1 1) + 1))) (congrArg Value.int (nI_add (κ.2.2.1 1) 1)) ?_
      refine J_put cx (ws' := (mW ad g (κ.1, κ.2.1, upn κ.2.2.1 1 ((κ.2.2.1 1) + 1), κ.2.2.2.1, κ.2.2.2.2) (nI (canI κ (nI j) false)) ch cm rm row)) fX7_88 ⟨tyX7_ok, nmX7, tyX7_ok 18 (by decide)⟩ rfl 0 rfl rfl rfl (Nat.le_of_ble_eq_true rfl) rfl dX7_issue_40 ?_
      refine J_aload_n cx dX7_issue_43 rfl 0 rfl ?_
      refine J_iload_n cx dX7_issue_44 rfl 2 rfl ?_
      refine J_aload_n cx dX7_issue_45 rfl 0 rfl ?_
      refine J_get cx (v := .int (nI ((κ.2.2.1 1) + 1))) fX7_88 0 rfl rfl dX7_issue_46 ?_
      refine J_aload_n cx dX7_issue_49 rfl 0 rfl ?_
      refine J_get cx (v := .ref (ad 1)) fX7_9 0 rfl rfl dX7_issue_50 ?_
      refine J_iload_n cx dX7_issue_53 rfl 1 rfl ?_
      refine J_iald cx (j := j) (f := κ.1 0) 1 rfl rfl (by omega) (by decide) dX7_issue_54 ?_
      refine J_aload_n cx dX7_issue_55 rfl 0 rfl ?_
      refine J_get cx (v := .ref (ad 2)) fX7_13 0 rfl rfl dX7_issue_56 ?_
      refine J_iload_n cx dX7_issue_59 rfl 1 rfl ?_
      refine J_iald cx (j := j) (f := κ.1 1) 2 rfl rfl (by omega) (by decide) dX7_issue_60 ?_
      refine J_iload_n cx dX7_issue_61 rfl 3 rfl ?_
      refine J_callVi cx kX7_91 (As := [.int xn, .int (nI ((κ.2.2.1 1) + 1)), .int (κ.1 0 j), .int (κ.1 1 j), .int dy]) (tX7_makes l D g A ad (κ.1, κ.2.1, upn κ.2.2.1 1 ((κ.2.2.1 1) + 1), κ.2.2.2.1, κ.2.2.2.2) (nI (canI κ (nI j) false)) ch cm rm row  xn (nI ((κ.2.2.1 1) + 1)) (κ.1 0 j) (κ.1 1 j) dy (show κ.2.2.1 0 < 40 by omega)) ⟨rfl, rfl, by decide, by decide⟩ ⟨by decide, by decide⟩ rfl 0 rfl rfl rfl (Nat.le_of_ble_eq_true rfl) dX7_issue_62 ?_
      intro _ _ hr; cases hr
      exact J_iret cx rfl (u := ()) (by simp only [opIssue, Bool.and_true, Bool.true_and, Bool.and_false, Bool.false_and, Bool.or_true, Bool.true_or, Bool.or_false, Bool.false_or, Bool.not_true, Bool.not_false, if_true, if_false, Bool.false_eq_true, decide_true, decide_false, ite_true, ite_false, ne_eq, not_true_eq_false, not_false_eq_true, xj, c_1, c_2, hjc]; try rfl) (by simp only [opIssue, Bool.and_true, Bool.true_and, Bool.and_false, Bool.false_and, Bool.or_true, Bool.true_or, Bool.or_false, Bool.false_or, Bool.not_true, Bool.not_false, if_true, if_false, Bool.false_eq_true, decide_true, decide_false, ite_true, ite_false, ne_eq, not_true_eq_false, not_false_eq_true, xj, c_1, c_2, hjc]; try rfl) (by decide) (by decide) dX7_issue_65
    · have c_2 := bn_t c_2
      have c_2 := of_decide_eq_false c_2
      refine J_iconst cx (v := nI 0) dX7_issue_31 (by decide) ?_
      exact J_iret cx rfl (u := ()) (by simp only [opIssue, Bool.and_true, Bool.true_and, Bool.and_false, Bool.false_and, Bool.or_true, Bool.true_or, Bool.or_false, Bool.false_or, Bool.not_true, Bool.not_false, if_true, if_false, Bool.false_eq_true, decide_true, decide_false, ite_true, ite_false, ne_eq, not_true_eq_false, not_false_eq_true, xj, c_1, c_2]; try rfl) (by simp only [opIssue, Bool.and_true, Bool.true_and, Bool.and_false, Bool.false_and, Bool.or_true, Bool.true_or, Bool.or_false, Bool.false_or, Bool.not_true, Bool.not_false, if_true, if_false, Bool.false_eq_true, decide_true, decide_false, ite_true, ite_false, ne_eq, not_true_eq_false, not_false_eq_true, xj, c_1, c_2]; try rfl) (by decide) (by decide) dX7_issue_32
  · refine J_iload_n cx dX7_issue_9 rfl 3 rfl ?_
    refine J_iconst cx (v := nI 1) dX7_issue_10 (by decide) ?_
    refine J_sipush cx (v := nI 999) dX7_issue_11 (by decide) ?_
    refine J_callSi cx kX7_67 (As := [.int dy, .int (nI 1), .int (nI 999)]) (tX7_isIn l D g A ad κ th ch cm rm row  dy (nI 1) (nI 999) ) ⟨rfl, rfl, by decide, by decide⟩ ⟨by decide, by decide⟩ rfl rfl (Nat.le_of_ble_eq_true rfl) dX7_issue_14 ?_
    intro _ _ hr; cases hr
    refine J_ifz_eq cx (tgt := 24) dX7_issue_17 (by decide) (fun c_3 => ?_) (fun c_3 => ?_)
    · refine J_iconst cx (v := nI 0) dX7_issue_24 (by decide) ?_
      refine J_callVi cx kX7_102 (As := [.int xc, .int (nI 0)]) (tX7_cannotIssue l D g A ad κ th ch cm rm row  xc false (by first | assumption | omega)) ⟨rfl, rfl, by decide, by decide⟩ ⟨by decide, by decide⟩ rfl 0 rfl rfl rfl (Nat.le_of_ble_eq_true rfl) dX7_issue_25 ?_
      intro _ _ hr; cases hr
      refine J_ifz_eq cx (tgt := 33) dX7_issue_28 (by decide) (fun c_4 => ?_) (fun c_4 => ?_)
      · have c_4 := bn_f c_4
        have c_4 := of_decide_eq_true c_4
        obtain ⟨j, hj, hxj, -, hau, hn4⟩ := canI_0 c_4 hn; subst hxj
        have hjc : (nI j).toNatClampNeg = j := nI_clamp (by omega)
        refine J_aload_n cx dX7_issue_33 rfl 0 rfl ?_
        refine J_dup cx dX7_issue_34 rfl ?_
        refine J_get cx (v := .int (nI (κ.2.2.1 1))) fX7_88 0 rfl rfl dX7_issue_35 ?_
        refine J_iconst cx (v := nI 1) dX7_issue_38 (by decide) ?_
        refine J_iadd cx dX7_issue_39 ?_
        refine J_top (v' := .int (nI ((κ.2.2.1 1) + 1))) (congrArg Value.int (nI_add (κ.2.2.1 1) 1)) ?_
        refine J_put cx (ws' := (mW ad g (κ.1, κ.2.1, upn κ.2.2.1 1 ((κ.2.2.1 1) + 1), κ.2.2.2.1, κ.2.2.2.2) (nI (canI κ (nI j) false)) ch cm rm row)) fX7_88 ⟨tyX7_ok, nmX7, tyX7_ok 18 (by decide)⟩ rfl 0 rfl rfl rfl (Nat.le_of_ble_eq_true rfl) rfl dX7_issue_40 ?_
        refine J_aload_n cx dX7_issue_43 rfl 0 rfl ?_
        refine J_iload_n cx dX7_issue_44 rfl 2 rfl ?_
        refine J_aload_n cx dX7_issue_45 rfl 0 rfl ?_
        refine J_get cx (v := .int (nI ((κ.2.2.1 1) + 1))) fX7_88 0 rfl rfl dX7_issue_46 ?_
        refine J_aload_n cx dX7_issue_49 rfl 0 rfl ?_
        refine J_get cx (v := .ref (ad 1)) fX7_9 0 rfl rfl dX7_issue_50 ?_
        refine J_iload_n cx dX7_issue_53 rfl 1 rfl ?_
        refine J_iald cx (j := j) (f := κ.1 0) 1 rfl rfl (by omega) (by decide) dX7_issue_54 ?_
        refine J_aload_n cx dX7_issue_55 rfl 0 rfl ?_
        refine J_get cx (v := .ref (ad 2)) fX7_13 0 rfl rfl dX7_issue_56 ?_
        refine J_iload_n cx dX7_issue_59 rfl 1 rfl ?_
        refine J_iald cx (j := j) (f := κ.1 1) 2 rfl rfl (by omega) (by decide) dX7_issue_60 ?_
        refine J_iload_n cx dX7_issue_61 rfl 3 rfl ?_
        refine J_callVi cx kX7_91 (As := [.int xn, .int (nI ((κ.2.2.1 1) + 1)), .int (κ.1 0 j), .int (κ.1 1 j), .int dy]) (tX7_makes l D g A ad (κ.1, κ.2.1, upn κ.2.2.1 1 ((κ.2.2.1 1) + 1), κ.2.2.2.1, κ.2.2.2.2) (nI (canI κ (nI j) false)) ch cm rm row  xn (nI ((κ.2.2.1 1) + 1)) (κ.1 0 j) (κ.1 1 j) dy (show κ.2.2.1 0 < 40 by omega)) ⟨rfl, rfl, by decide, by decide⟩ ⟨by decide, by decide⟩ rfl 0 rfl rfl rfl (Nat.le_of_ble_eq_true rfl) dX7_issue_62 ?_
        intro _ _ hr; cases hr
        exact J_iret cx rfl (u := ()) (by simp only [opIssue, Bool.and_true, Bool.true_and, Bool.and_false, Bool.false_and, Bool.or_true, Bool.true_or, Bool.or_false, Bool.false_or, Bool.not_true, Bool.not_false, if_true, if_false, Bool.false_eq_true, decide_true, decide_false, ite_true, ite_false, ne_eq, not_true_eq_false, not_false_eq_true, xj, c_1, c_3, c_4, hjc]; try rfl) (by simp only [opIssue, Bool.and_true, Bool.true_and, Bool.and_false, Bool.false_and, Bool.or_true, Bool.true_or, Bool.or_false, Bool.false_or, Bool.not_true, Bool.not_false, if_true, if_false, Bool.false_eq_true, decide_true, decide_false, ite_true, ite_false, ne_eq, not_true_eq_false, not_false_eq_true, xj, c_1, c_3, c_4, hjc]; try rfl) (by decide) (by decide) dX7_issue_65
      · have c_4 := bn_t c_4
        have c_4 := of_decide_eq_false c_4
        refine J_iconst cx (v := nI 0) dX7_issue_31 (by decide) ?_
        exact J_iret cx rfl (u := ()) (by simp only [opIssue, Bool.and_true, Bool.true_and, Bool.and_false, Bool.false_and, Bool.or_true, Bool.true_or, Bool.or_false, Bool.false_or, Bool.not_true, Bool.not_false, if_true, if_false, Bool.false_eq_true, decide_true, decide_false, ite_true, ite_false, ne_eq, not_true_eq_false, not_false_eq_true, xj, c_1, c_3, c_4]; try rfl) (by simp only [opIssue, Bool.and_true, Bool.true_and, Bool.and_false, Bool.false_and, Bool.or_true, Bool.true_or, Bool.or_false, Bool.false_or, Bool.not_true, Bool.not_false, if_true, if_false, Bool.false_eq_true, decide_true, decide_false, ite_true, ite_false, ne_eq, not_true_eq_false, not_false_eq_true, xj, c_1, c_3, c_4]; try rfl) (by decide) (by decide) dX7_issue_32
    · refine J_iconst cx (v := nI 1) dX7_issue_20 (by decide) ?_
      refine J_goto cx (tgt := 25) dX7_issue_21 (by decide) ?_
      refine J_callVi cx kX7_102 (As := [.int xc, .int (nI 1)]) (tX7_cannotIssue l D g A ad κ th ch cm rm row  xc true (by first | assumption | omega)) ⟨rfl, rfl, by decide, by decide⟩ ⟨by decide, by decide⟩ rfl 0 rfl rfl rfl (Nat.le_of_ble_eq_true rfl) dX7_issue_25 ?_
      intro _ _ hr; cases hr
      refine J_ifz_eq cx (tgt := 33) dX7_issue_28 (by decide) (fun c_5 => ?_) (fun c_5 => ?_)
      · have c_5 := bn_f c_5
        have c_5 := of_decide_eq_true c_5
        obtain ⟨j, hj, hxj, -, hau, hn4⟩ := canI_0 c_5 hn; subst hxj
        have hjc : (nI j).toNatClampNeg = j := nI_clamp (by omega)
        refine J_aload_n cx dX7_issue_33 rfl 0 rfl ?_
        refine J_dup cx dX7_issue_34 rfl ?_
        refine J_get cx (v := .int (nI (κ.2.2.1 1))) fX7_88 0 rfl rfl dX7_issue_35 ?_
        refine J_iconst cx (v := nI 1) dX7_issue_38 (by decide) ?_
        refine J_iadd cx dX7_issue_39 ?_
        refine J_top (v' := .int (nI ((κ.2.2.1 1) + 1))) (congrArg Value.int (nI_add (κ.2.2.1 1) 1)) ?_
        refine J_put cx (ws' := (mW ad g (κ.1, κ.2.1, upn κ.2.2.1 1 ((κ.2.2.1 1) + 1), κ.2.2.2.1, κ.2.2.2.2) (nI (canI κ (nI j) true)) ch cm rm row)) fX7_88 ⟨tyX7_ok, nmX7, tyX7_ok 18 (by decide)⟩ rfl 0 rfl rfl rfl (Nat.le_of_ble_eq_true rfl) rfl dX7_issue_40 ?_
        refine J_aload_n cx dX7_issue_43 rfl 0 rfl ?_
        refine J_iload_n cx dX7_issue_44 rfl 2 rfl ?_
        refine J_aload_n cx dX7_issue_45 rfl 0 rfl ?_
        refine J_get cx (v := .int (nI ((κ.2.2.1 1) + 1))) fX7_88 0 rfl rfl dX7_issue_46 ?_
        refine J_aload_n cx dX7_issue_49 rfl 0 rfl ?_
        refine J_get cx (v := .ref (ad 1)) fX7_9 0 rfl rfl dX7_issue_50 ?_
        refine J_iload_n cx dX7_issue_53 rfl 1 rfl ?_
        refine J_iald cx (j := j) (f := κ.1 0) 1 rfl rfl (by omega) (by decide) dX7_issue_54 ?_
        refine J_aload_n cx dX7_issue_55 rfl 0 rfl ?_
        refine J_get cx (v := .ref (ad 2)) fX7_13 0 rfl rfl dX7_issue_56 ?_
        refine J_iload_n cx dX7_issue_59 rfl 1 rfl ?_
        refine J_iald cx (j := j) (f := κ.1 1) 2 rfl rfl (by omega) (by decide) dX7_issue_60 ?_
        refine J_iload_n cx dX7_issue_61 rfl 3 rfl ?_
        refine J_callVi cx kX7_91 (As := [.int xn, .int (nI ((κ.2.2.1 1) + 1)), .int (κ.1 0 j), .int (κ.1 1 j), .int dy]) (tX7_makes l D g A ad (κ.1, κ.2.1, upn κ.2.2.1 1 ((κ.2.2.1 1) + 1), κ.2.2.2.1, κ.2.2.2.2) (nI (canI κ (nI j) true)) ch cm rm row  xn (nI ((κ.2.2.1 1) + 1)) (κ.1 0 j) (κ.1 1 j) dy (show κ.2.2.1 0 < 40 by omega)) ⟨rfl, rfl, by decide, by decide⟩ ⟨by decide, by decide⟩ rfl 0 rfl rfl rfl (Nat.le_of_ble_eq_true rfl) dX7_issue_62 ?_
        intro _ _ hr; cases hr
        exact J_iret cx rfl (u := ()) (by simp only [opIssue, Bool.and_true, Bool.true_and, Bool.and_false, Bool.false_and, Bool.or_true, Bool.true_or, Bool.or_false, Bool.false_or, Bool.not_true, Bool.not_false, if_true, if_false, Bool.false_eq_true, decide_true, decide_false, ite_true, ite_false, ne_eq, not_true_eq_false, not_false_eq_true, xj, c_1, c_3, c_5, hjc]; try rfl) (by simp only [opIssue, Bool.and_true, Bool.true_and, Bool.and_false, Bool.false_and, Bool.or_true, Bool.true_or, Bool.or_false, Bool.false_or, Bool.not_true, Bool.not_false, if_true, if_false, Bool.false_eq_true, decide_true, decide_false, ite_true, ite_false, ne_eq, not_true_eq_false, not_false_eq_true, xj, c_1, c_3, c_5, hjc]; try rfl) (by decide) (by decide) dX7_issue_65
      · have c_5 := bn_t c_5
        have c_5 := of_decide_eq_false c_5
        refine J_iconst cx (v := nI 0) dX7_issue_31 (by decide) ?_
        exact J_iret cx rfl (u := ()) (by simp only [opIssue, Bool.and_true, Bool.true_and, Bool.and_false, Bool.false_and, Bool.or_true, Bool.true_or, Bool.or_false, Bool.false_or, Bool.not_true, Bool.not_false, if_true, if_false, Bool.false_eq_true, decide_true, decide_false, ite_true, ite_false, ne_eq, not_true_eq_false, not_false_eq_true, xj, c_1, c_3, c_5]; try rfl) (by simp only [opIssue, Bool.and_true, Bool.true_and, Bool.and_false, Bool.false_and, Bool.or_true, Bool.true_or, Bool.or_false, Bool.false_or, Bool.not_true, Bool.not_false, if_true, if_false, Bool.false_eq_true, decide_true, decide_false, ite_true, ite_false, ne_eq, not_true_eq_false, not_false_eq_true, xj, c_1, c_3, c_5]; try rfl) (by decide) (by decide) dX7_issue_32
set_option maxHeartbeats 4000000 in
set_option maxRecDepth 100000 in
theorem tX7_issueAuthority (l : Launch) (D : va_G) (g : Nat → ClassId) (A : Nat → Prop) (ad : Nat → Nat) (κ : CS) (th : Int32) (ch : Nat → Nat) (cm rm : Nat) (row : Nat → Int64)  (xc : Int32) (xn : Int32) (dy : Int32) (ln : Int32) (hn : κ.2.2.1 0 ≤ 40) : CtI l D g A yX7_issueAuthority cX7_issueAuthority 5 .int ({ frames := 4, cells := 0, slots := 0, locals := 86 } : Room) [.ref (ad 0), .int xc, .int xn, .int dy, .int ln] (mW ad g κ th ch cm rm row) ((opIssueA κ xc xn dy ln).2.1) (mW ad g ((opIssueA κ xc xn dy ln).2.2) (nI (opIssueA κ xc xn dy ln).1) ch cm rm row) := by
  refine metJ (by decide) (Nat.le_of_ble_eq_true rfl) ?_
  intro p e s m args below meth c _ _ cx
  refine J_aload_n cx dX7_issueAuthority_0 rfl 0 rfl ?_
  refine J_iload_n cx dX7_issueAuthority_1 rfl 1 rfl ?_
  refine J_iload_n cx dX7_issueAuthority_2 rfl 2 rfl ?_
  refine J_callSi cx kX7_85 (As := [.int xn]) (tX7_isName l D g A ad κ th ch cm rm row  xn ) ⟨rfl, rfl, by decide, by decide⟩ ⟨by decide, by decide⟩ rfl rfl (Nat.le_of_ble_eq_true rfl) dX7_issueAuthority_3 ?_
  intro _ _ hr; cases hr
  refine J_ifz_eq cx (tgt := 34) dX7_issueAuthority_6 (by decide) (fun c_1 => ?_) (fun c_1 => ?_)
  · refine J_iconst cx (v := nI 0) dX7_issueAuthority_34 (by decide) ?_
    refine J_callVi cx kX7_102 (As := [.int xc, .int (nI 0)]) (tX7_cannotIssue l D g A ad κ th ch cm rm row  xc false (by first | assumption | omega)) ⟨rfl, rfl, by decide, by decide⟩ ⟨by decide, by decide⟩ rfl 0 rfl rfl rfl (Nat.le_of_ble_eq_true rfl) dX7_issueAuthority_35 ?_
    intro _ _ hr; cases hr
    refine J_ifz_eq cx (tgt := 43) dX7_issueAuthority_38 (by decide) (fun c_2 => ?_) (fun c_2 => ?_)
    · have c_2 := bn_f c_2
      have c_2 := of_decide_eq_true c_2
      obtain ⟨j, hj, hxj, -, hau, hn4⟩ := canI_0 c_2 hn; subst hxj
      have hjc : (nI j).toNatClampNeg = j := nI_clamp (by omega)
      refine J_aload_n cx dX7_issueAuthority_43 rfl 0 rfl ?_
      refine J_dup cx dX7_issueAuthority_44 rfl ?_
      refine J_get cx (v := .int (nI (κ.2.2.1 1))) fX7_88 0 rfl rfl dX7_issueAuthority_45 ?_
      refine J_iconst cx (v := nI 1) dX7_issueAuthority_48 (by decide) ?_
      refine J_iadd cx dX7_issueAuthority_49 ?_
      refine J_top (v' := .int (nI ((κ.2.2.1 1) + 1))) (congrArg Value.int (nI_add (κ.2.2.1 1) 1)) ?_
      refine J_put cx (ws' := (mW ad g (κ.1, κ.2.1, upn κ.2.2.1 1 ((κ.2.2.1 1) + 1), κ.2.2.2.1, κ.2.2.2.2) (nI (canI κ (nI j) false)) ch cm rm row)) fX7_88 ⟨tyX7_ok, nmX7, tyX7_ok 18 (by decide)⟩ rfl 0 rfl rfl rfl (Nat.le_of_ble_eq_true rfl) rfl dX7_issueAuthority_50 ?_
      refine J_aload_n cx dX7_issueAuthority_53 rfl 0 rfl ?_
      refine J_aload_n cx dX7_issueAuthority_54 rfl 0 rfl ?_
      refine J_iload_n cx dX7_issueAuthority_55 rfl 2 rfl ?_
      refine J_aload_n cx dX7_issueAuthority_56 rfl 0 rfl ?_
      refine J_get cx (v := .int (nI ((κ.2.2.1 1) + 1))) fX7_88 0 rfl rfl dX7_issueAuthority_57 ?_
      refine J_aload_n cx dX7_issueAuthority_60 rfl 0 rfl ?_
      refine J_get cx (v := .ref (ad 1)) fX7_9 0 rfl rfl dX7_issueAuthority_61 ?_
      refine J_iload_n cx dX7_issueAuthority_64 rfl 1 rfl ?_
      refine J_iald cx (j := j) (f := κ.1 0) 1 rfl rfl (by omega) (by decide) dX7_issueAuthority_65 ?_
      refine J_aload_n cx dX7_issueAuthority_66 rfl 0 rfl ?_
      refine J_get cx (v := .ref (ad 2)) fX7_13 0 rfl rfl dX7_issueAuthority_67 ?_
      refine J_iload_n cx dX7_issueAuthority_70 rfl 1 rfl ?_
      refine J_iald cx (j := j) (f := κ.1 1) 2 rfl rfl (by omega) (by decide) dX7_issueAuthority_71 ?_
      refine J_iload_n cx dX7_issueAuthority_72 rfl 3 rfl ?_
      refine J_callVi cx kX7_91 (As := [.int xn, .int (nI ((κ.2.2.1 1) + 1)), .int (κ.1 0 j), .int (κ.1 1 j), .int dy]) (tX7_makes l D g A ad (κ.1, κ.2.1, upn κ.2.2.1 1 ((κ.2.2.1 1) + 1), κ.2.2.2.1, κ.2.2.2.2) (nI (canI κ (nI j) false)) ch cm rm row  xn (nI ((κ.2.2.1 1) + 1)) (κ.1 0 j) (κ.1 1 j) dy (show κ.2.2.1 0 < 40 by omega)) ⟨rfl, rfl, by decide, by decide⟩ ⟨by decide, by decide⟩ rfl 0 rfl rfl rfl (Nat.le_of_ble_eq_true rfl) dX7_issueAuthority_73 ?_
      intro _ _ hr; cases hr
      refine J_top (v' := .int (nI (κ.2.2.1 0))) rfl ?_
      refine J_iload cx dX7_issueAuthority_76 4 rfl ?_
      refine J_callVi cx kX7_95 (As := [.int (nI (κ.2.2.1 0)), .int ln]) (tX7_authority l D g A ad (mkK (κ.1, κ.2.1, upn κ.2.2.1 1 ((κ.2.2.1 1) + 1), κ.2.2.2.1, κ.2.2.2.2) xn (nI ((κ.2.2.1 1) + 1)) (κ.1 0 j) (κ.1 1 j) dy) (nI (canI κ (nI j) false)) ch cm rm row  (κ.2.2.1 0) ln (by omega)) ⟨rfl, rfl, by decide, by decide⟩ ⟨by decide, by decide⟩ rfl 0 rfl rfl rfl (Nat.le_of_ble_eq_true rfl) dX7_issueAuthority_78 ?_
      intro _ _ hr; cases hr
      exact J_iret cx rfl (u := ()) (by simp only [opIssueA, Bool.and_true, Bool.true_and, Bool.and_false, Bool.false_and, Bool.or_true, Bool.true_or, Bool.or_false, Bool.false_or, Bool.not_true, Bool.not_false, if_true, if_false, Bool.false_eq_true, decide_true, decide_false, ite_true, ite_false, ne_eq, not_true_eq_false, not_false_eq_true, xj, c_1, c_2, hjc]; try rfl) (by simp only [opIssueA, Bool.and_true, Bool.true_and, Bool.and_false, Bool.false_and, Bool.or_true, Bool.true_or, Bool.or_false, Bool.false_or, Bool.not_true, Bool.not_false, if_true, if_false, Bool.false_eq_true, decide_true, decide_false, ite_true, ite_false, ne_eq, not_true_eq_false, not_false_eq_true, xj, c_1, c_2, hjc]; try rfl) (by decide) (by decide) dX7_issueAuthority_81
    · have c_2 := bn_t c_2
      have c_2 := of_decide_eq_false c_2
      refine J_iconst cx (v := nI 0) dX7_issueAuthority_41 (by decide) ?_
      exact J_iret cx rfl (u := ()) (by simp only [opIssueA, Bool.and_true, Bool.true_and, Bool.and_false, Bool.false_and, Bool.or_true, Bool.true_or, Bool.or_false, Bool.false_or, Bool.not_true, Bool.not_false, if_true, if_false, Bool.false_eq_true, decide_true, decide_false, ite_true, ite_false, ne_eq, not_true_eq_false, not_false_eq_true, xj, c_1, c_2]; try rfl) (by simp only [opIssueA, Bool.and_true, Bool.true_and, Bool.and_false, Bool.false_and, Bool.or_true, Bool.true_or, Bool.or_false, Bool.false_or, Bool.not_true, Bool.not_false, if_true, if_false, Bool.false_eq_true, decide_true, decide_false, ite_true, ite_false, ne_eq, not_true_eq_false, not_false_eq_true, xj, c_1, c_2]; try rfl) (by decide) (by decide) dX7_issueAuthority_42
  · refine J_iload_n cx dX7_issueAuthority_9 rfl 3 rfl ?_
    refine J_iconst cx (v := nI 1) dX7_issueAuthority_10 (by decide) ?_
    refine J_sipush cx (v := nI 999) dX7_issueAuthority_11 (by decide) ?_
    refine J_callSi cx kX7_67 (As := [.int dy, .int (nI 1), .int (nI 999)]) (tX7_isIn l D g A ad κ th ch cm rm row  dy (nI 1) (nI 999) ) ⟨rfl, rfl, by decide, by decide⟩ ⟨by decide, by decide⟩ rfl rfl (Nat.le_of_ble_eq_true rfl) dX7_issueAuthority_14 ?_
    intro _ _ hr; cases hr
    refine J_ifz_eq cx (tgt := 34) dX7_issueAuthority_17 (by decide) (fun c_3 => ?_) (fun c_3 => ?_)
    · refine J_iconst cx (v := nI 0) dX7_issueAuthority_34 (by decide) ?_
      refine J_callVi cx kX7_102 (As := [.int xc, .int (nI 0)]) (tX7_cannotIssue l D g A ad κ th ch cm rm row  xc false (by first | assumption | omega)) ⟨rfl, rfl, by decide, by decide⟩ ⟨by decide, by decide⟩ rfl 0 rfl rfl rfl (Nat.le_of_ble_eq_true rfl) dX7_issueAuthority_35 ?_
      intro _ _ hr; cases hr
      refine J_ifz_eq cx (tgt := 43) dX7_issueAuthority_38 (by decide) (fun c_4 => ?_) (fun c_4 => ?_)
      · have c_4 := bn_f c_4
        have c_4 := of_decide_eq_true c_4
        obtain ⟨j, hj, hxj, -, hau, hn4⟩ := canI_0 c_4 hn; subst hxj
        have hjc : (nI j).toNatClampNeg = j := nI_clamp (by omega)
        refine J_aload_n cx dX7_issueAuthority_43 rfl 0 rfl ?_
        refine J_dup cx dX7_issueAuthority_44 rfl ?_
        refine J_get cx (v := .int (nI (κ.2.2.1 1))) fX7_88 0 rfl rfl dX7_issueAuthority_45 ?_
        refine J_iconst cx (v := nI 1) dX7_issueAuthority_48 (by decide) ?_
        refine J_iadd cx dX7_issueAuthority_49 ?_
        refine J_top (v' := .int (nI ((κ.2.2.1 1) + 1))) (congrArg Value.int (nI_add (κ.2.2.1 1) 1)) ?_
        refine J_put cx (ws' := (mW ad g (κ.1, κ.2.1, upn κ.2.2.1 1 ((κ.2.2.1 1) + 1), κ.2.2.2.1, κ.2.2.2.2) (nI (canI κ (nI j) false)) ch cm rm row)) fX7_88 ⟨tyX7_ok, nmX7, tyX7_ok 18 (by decide)⟩ rfl 0 rfl rfl rfl (Nat.le_of_ble_eq_true rfl) rfl dX7_issueAuthority_50 ?_
        refine J_aload_n cx dX7_issueAuthority_53 rfl 0 rfl ?_
        refine J_aload_n cx dX7_issueAuthority_54 rfl 0 rfl ?_
        refine J_iload_n cx dX7_issueAuthority_55 rfl 2 rfl ?_
        refine J_aload_n cx dX7_issueAuthority_56 rfl 0 rfl ?_
        refine J_get cx (v := .int (nI ((κ.2.2.1 1) + 1))) fX7_88 0 rfl rfl dX7_issueAuthority_57 ?_
        refine J_aload_n cx dX7_issueAuthority_60 rfl 0 rfl ?_
        refine J_get cx (v := .ref (ad 1)) fX7_9 0 rfl rfl dX7_issueAuthority_61 ?_
        refine J_iload_n cx dX7_issueAuthority_64 rfl 1 rfl ?_
        refine J_iald cx (j := j) (f := κ.1 0) 1 rfl rfl (by omega) (by decide) dX7_issueAuthority_65 ?_
        refine J_aload_n cx dX7_issueAuthority_66 rfl 0 rfl ?_
        refine J_get cx (v := .ref (ad 2)) fX7_13 0 rfl rfl dX7_issueAuthority_67 ?_
        refine J_iload_n cx dX7_issueAuthority_70 rfl 1 rfl ?_
        refine J_iald cx (j := j) (f := κ.1 1) 2 rfl rfl (by omega) (by decide) dX7_issueAuthority_71 ?_
        refine J_iload_n cx dX7_issueAuthority_72 rfl 3 rfl ?_
        refine J_callVi cx kX7_91 (As := [.int xn, .int (nI ((κ.2.2.1 1) + 1)), .int (κ.1 0 j), .int (κ.1 1 j), .int dy]) (tX7_makes l D g A ad (κ.1, κ.2.1, upn κ.2.2.1 1 ((κ.2.2.1 1) + 1), κ.2.2.2.1, κ.2.2.2.2) (nI (canI κ (nI j) false)) ch cm rm row  xn (nI ((κ.2.2.1 1) + 1)) (κ.1 0 j) (κ.1 1 j) dy (show κ.2.2.1 0 < 40 by omega)) ⟨rfl, rfl, by decide, by decide⟩ ⟨by decide, by decide⟩ rfl 0 rfl rfl rfl (Nat.le_of_ble_eq_true rfl) dX7_issueAuthority_73 ?_
        intro _ _ hr; cases hr
        refine J_top (v' := .int (nI (κ.2.2.1 0))) rfl ?_
        refine J_iload cx dX7_issueAuthority_76 4 rfl ?_
        refine J_callVi cx kX7_95 (As := [.int (nI (κ.2.2.1 0)), .int ln]) (tX7_authority l D g A ad (mkK (κ.1, κ.2.1, upn κ.2.2.1 1 ((κ.2.2.1 1) + 1), κ.2.2.2.1, κ.2.2.2.2) xn (nI ((κ.2.2.1 1) + 1)) (κ.1 0 j) (κ.1 1 j) dy) (nI (canI κ (nI j) false)) ch cm rm row  (κ.2.2.1 0) ln (by omega)) ⟨rfl, rfl, by decide, by decide⟩ ⟨by decide, by decide⟩ rfl 0 rfl rfl rfl (Nat.le_of_ble_eq_true rfl) dX7_issueAuthority_78 ?_
        intro _ _ hr; cases hr
        exact J_iret cx rfl (u := ()) (by simp only [opIssueA, Bool.and_true, Bool.true_and, Bool.and_false, Bool.false_and, Bool.or_true, Bool.true_or, Bool.or_false, Bool.false_or, Bool.not_true, Bool.not_false, if_true, if_false, Bool.false_eq_true, decide_true, decide_false, ite_true, ite_false, ne_eq, not_true_eq_false, not_false_eq_true, xj, c_1, c_3, c_4, hjc]; try rfl) (by simp only [opIssueA, Bool.and_true, Bool.true_and, Bool.and_false, Bool.false_and, Bool.or_true, Bool.true_or, Bool.or_false, Bool.false_or, Bool.not_true, Bool.not_false, if_true, if_false, Bool.false_eq_true, decide_true, decide_false, ite_true, ite_false, ne_eq, not_true_eq_false, not_false_eq_true, xj, c_1, c_3, c_4, hjc]; try rfl) (by decide) (by decide) dX7_issueAuthority_81
      · have c_4 := bn_t c_4
        have c_4 := of_decide_eq_false c_4
        refine J_iconst cx (v := nI 0) dX7_issueAuthority_41 (by decide) ?_
        exact J_iret cx rfl (u := ()) (by simp only [opIssueA, Bool.and_true, Bool.true_and, Bool.and_false, Bool.false_and, Bool.or_true, Bool.true_or, Bool.or_false, Bool.false_or, Bool.not_true, Bool.not_false, if_true, if_false, Bool.false_eq_true, decide_true, decide_false, ite_true, ite_false, ne_eq, not_true_eq_false, not_false_eq_true, xj, c_1, c_3, c_4]; try rfl) (by simp only [opIssueA, Bool.and_true, Bool.true_and, Bool.and_false, Bool.false_and, Bool.or_true, Bool.true_or, Bool.or_false, Bool.false_or, Bool.not_true, Bool.not_false, if_true, if_false, Bool.false_eq_true, decide_true, decide_false, ite_true, ite_false, ne_eq, not_true_eq_false, not_false_eq_true, xj, c_1, c_3, c_4]; try rfl) (by decide) (by decide) dX7_issueAuthority_42
    · refine J_iload cx dX7_issueAuthority_20 4 rfl ?_
      refine J_iconst cx (v := nI 0) dX7_issueAuthority_22 (by decide) ?_
      refine J_iconst cx (v := nI 5) dX7_issueAuthority_23 (by decide) ?_
      refine J_callSi cx kX7_67 (As := [.int ln, .int (nI 0), .int (nI 5)]) (tX7_isIn l D g A ad κ th ch cm rm row  ln (nI 0) (nI 5) ) ⟨rfl, rfl, by decide, by decide⟩ ⟨by decide, by decide⟩ rfl rfl (Nat.le_of_ble_eq_true rfl) dX7_issueAuthority_24 ?_
      intro _ _ hr; cases hr
      refine J_ifz_eq cx (tgt := 34) dX7_issueAuthority_27 (by decide) (fun c_5 => ?_) (fun c_5 => ?_)
      · refine J_iconst cx (v := nI 0) dX7_issueAuthority_34 (by decide) ?_
        refine J_callVi cx kX7_102 (As := [.int xc, .int (nI 0)]) (tX7_cannotIssue l D g A ad κ th ch cm rm row  xc false (by first | assumption | omega)) ⟨rfl, rfl, by decide, by decide⟩ ⟨by decide, by decide⟩ rfl 0 rfl rfl rfl (Nat.le_of_ble_eq_true rfl) dX7_issueAuthority_35 ?_
        intro _ _ hr; cases hr
        refine J_ifz_eq cx (tgt := 43) dX7_issueAuthority_38 (by decide) (fun c_6 => ?_) (fun c_6 => ?_)
        · have c_6 := bn_f c_6
          have c_6 := of_decide_eq_true c_6
          obtain ⟨j, hj, hxj, -, hau, hn4⟩ := canI_0 c_6 hn; subst hxj
          have hjc : (nI j).toNatClampNeg = j := nI_clamp (by omega)
          refine J_aload_n cx dX7_issueAuthority_43 rfl 0 rfl ?_
          refine J_dup cx dX7_issueAuthority_44 rfl ?_
          refine J_get cx (v := .int (nI (κ.2.2.1 1))) fX7_88 0 rfl rfl dX7_issueAuthority_45 ?_
          refine J_iconst cx (v := nI 1) dX7_issueAuthority_48 (by decide) ?_
          refine J_iadd cx dX7_issueAuthority_49 ?_
          refine J_top (v' := .int (nI ((κ.2.2.1 1) + 1))) (congrArg Value.int (nI_add (κ.2.2.1 1) 1)) ?_
          refine J_put cx (ws' := (mW ad g (κ.1, κ.2.1, upn κ.2.2.1 1 ((κ.2.2.1 1) + 1), κ.2.2.2.1, κ.2.2.2.2) (nI (canI κ (nI j) false)) ch cm rm row)) fX7_88 ⟨tyX7_ok, nmX7, tyX7_ok 18 (by decide)⟩ rfl 0 rfl rfl rfl (Nat.le_of_ble_eq_true rfl) rfl dX7_issueAuthority_50 ?_
          refine J_aload_n cx dX7_issueAuthority_53 rfl 0 rfl ?_
          refine J_aload_n cx dX7_issueAuthority_54 rfl 0 rfl ?_
          refine J_iload_n cx dX7_issueAuthority_55 rfl 2 rfl ?_
          refine J_aload_n cx dX7_issueAuthority_56 rfl 0 rfl ?_
          refine J_get cx (v := .int (nI ((κ.2.2.1 1) + 1))) fX7_88 0 rfl rfl dX7_issueAuthority_57 ?_
          refine J_aload_n cx dX7_issueAuthority_60 rfl 0 rfl ?_
          refine J_get cx (v := .ref (ad 1)) fX7_9 0 rfl rfl dX7_issueAuthority_61 ?_
          refine J_iload_n cx dX7_issueAuthority_64 rfl 1 rfl ?_
          refine J_iald cx (j := j) (f := κ.1 0) 1 rfl rfl (by omega) (by decide) dX7_issueAuthority_65 ?_
          refine J_aload_n cx dX7_issueAuthority_66 rfl 0 rfl ?_
          refine J_get cx (v := .ref (ad 2)) fX7_13 0 rfl rfl dX7_issueAuthority_67 ?_
          refine J_iload_n cx dX7_issueAuthority_70 rfl 1 rfl ?_
          refine J_iald cx (j := j) (f := κ.1 1) 2 rfl rfl (by omega) (by decide) dX7_issueAuthority_71 ?_
          refine J_iload_n cx dX7_issueAuthority_72 rfl 3 rfl ?_
          refine J_callVi cx kX7_91 (As := [.int xn, .int (nI ((κ.2.2.1 1) + 1)), .int (κ.1 0 j), .int (κ.1 1 j), .int dy]) (tX7_makes l D g A ad (κ.1, κ.2.1, upn κ.2.2.1 1 ((κ.2.2.1 1) + 1), κ.2.2.2.1, κ.2.2.2.2) (nI (canI κ (nI j) false)) ch cm rm row  xn (nI ((κ.2.2.1 1) + 1)) (κ.1 0 j) (κ.1 1 j) dy (show κ.2.2.1 0 < 40 by omega)) ⟨rfl, rfl, by decide, by decide⟩ ⟨by decide, by decide⟩ rfl 0 rfl rfl rfl (Nat.le_of_ble_eq_true rfl) dX7_issueAuthority_73 ?_
          intro _ _ hr; cases hr
          refine J_top (v' := .int (nI (κ.2.2.1 0))) rfl ?_
          refine J_iload cx dX7_issueAuthority_76 4 rfl ?_
          refine J_callVi cx kX7_95 (As := [.int (nI (κ.2.2.1 0)), .int ln]) (tX7_authority l D g A ad (mkK (κ.1, κ.2.1, upn κ.2.2.1 1 ((κ.2.2.1 1) + 1), κ.2.2.2.1, κ.2.2.2.2) xn (nI ((κ.2.2.1 1) + 1)) (κ.1 0 j) (κ.1 1 j) dy) (nI (canI κ (nI j) false)) ch cm rm row  (κ.2.2.1 0) ln (by omega)) ⟨rfl, rfl, by decide, by decide⟩ ⟨by decide, by decide⟩ rfl 0 rfl rfl rfl (Nat.le_of_ble_eq_true rfl) dX7_issueAuthority_78 ?_
          intro _ _ hr; cases hr
          exact J_iret cx rfl (u := ()) (by simp only [opIssueA, Bool.and_true, Bool.true_and, Bool.and_false, Bool.false_and, Bool.or_true, Bool.true_or, Bool.or_false, Bool.false_or, Bool.not_true, Bool.not_false, if_true, if_false, Bool.false_eq_true, decide_true, decide_false, ite_true, ite_false, ne_eq, not_true_eq_false, not_false_eq_true, xj, c_1, c_3, c_5, c_6, hjc]; try rfl) (by simp only [opIssueA, Bool.and_true, Bool.true_and, Bool.and_false, Bool.false_and, Bool.or_true, Bool.true_or, Bool.or_false, Bool.false_or, Bool.not_true, Bool.not_false, if_true, if_false, Bool.false_eq_true, decide_true, decide_false, ite_true, ite_false, ne_eq, not_true_eq_false, not_false_eq_true, xj, c_1, c_3, c_5, c_6, hjc]; try rfl) (by decide) (by decide) dX7_issueAuthority_81
        · have c_6 := bn_t c_6
          have c_6 := of_decide_eq_false c_6
          refine J_iconst cx (v := nI 0) dX7_issueAuthority_41 (by decide) ?_
          exact J_iret cx rfl (u := ()) (by simp only [opIssueA, Bool.and_true, Bool.true_and, Bool.and_false, Bool.false_and, Bool.or_true, Bool.true_or, Bool.or_false, Bool.false_or, Bool.not_true, Bool.not_false, if_true, if_false, Bool.false_eq_true, decide_true, decide_false, ite_true, ite_false, ne_eq, not_true_eq_false, not_false_eq_true, xj, c_1, c_3, c_5, c_6]; try rfl) (by simp only [opIssueA, Bool.and_true, Bool.true_and, Bool.and_false, Bool.false_and, Bool.or_true, Bool.true_or, Bool.or_false, Bool.false_or, Bool.not_true, Bool.not_false, if_true, if_false, Bool.false_eq_true, decide_true, decide_false, ite_true, ite_false, ne_eq, not_true_eq_false, not_false_eq_true, xj, c_1, c_3, c_5, c_6]; try rfl) (by decide) (by decide) dX7_issueAuthority_42
      · refine J_iconst cx (v := nI 1) dX7_issueAuthority_30 (by decide) ?_
        refine J_goto cx (tgt := 35) dX7_issueAuthority_31 (by decide) ?_
        refine J_callVi cx kX7_102 (As := [.int xc, .int (nI 1)]) (tX7_cannotIssue l D g A ad κ th ch cm rm row  xc true (by first | assumption | omega)) ⟨rfl, rfl, by decide, by decide⟩ ⟨by decide, by decide⟩ rfl 0 rfl rfl rfl (Nat.le_of_ble_eq_true rfl) dX7_issueAuthority_35 ?_
        intro _ _ hr; cases hr
        refine J_ifz_eq cx (tgt := 43) dX7_issueAuthority_38 (by decide) (fun c_7 => ?_) (fun c_7 => ?_)
        · have c_7 := bn_f c_7
          have c_7 := of_decide_eq_true c_7
          obtain ⟨j, hj, hxj, -, hau, hn4⟩ := canI_0 c_7 hn; subst hxj
          have hjc : (nI j).toNatClampNeg = j := nI_clamp (by omega)
          refine J_aload_n cx dX7_issueAuthority_43 rfl 0 rfl ?_
          refine J_dup cx dX7_issueAuthority_44 rfl ?_
          refine J_get cx (v := .int (nI (κ.2.2.1 1))) fX7_88 0 rfl rfl dX7_issueAuthority_45 ?_
          refine J_iconst cx (v := nI 1) dX7_issueAuthority_48 (by decide) ?_
          refine J_iadd cx dX7_issueAuthority_49 ?_
          refine J_top (v' := .int (nI ((κ.2.2.1 1) + 1))) (congrArg Value.int (nI_add (κ.2.2.1 1) 1)) ?_
          refine J_put cx (ws' := (mW ad g (κ.1, κ.2.1, upn κ.2.2.1 1 ((κ.2.2.1 1) + 1), κ.2.2.2.1, κ.2.2.2.2) (nI (canI κ (nI j) true)) ch cm rm row)) fX7_88 ⟨tyX7_ok, nmX7, tyX7_ok 18 (by decide)⟩ rfl 0 rfl rfl rfl (Nat.le_of_ble_eq_true rfl) rfl dX7_issueAuthority_50 ?_
          refine J_aload_n cx dX7_issueAuthority_53 rfl 0 rfl ?_
          refine J_aload_n cx dX7_issueAuthority_54 rfl 0 rfl ?_
          refine J_iload_n cx dX7_issueAuthority_55 rfl 2 rfl ?_
          refine J_aload_n cx dX7_issueAuthority_56 rfl 0 rfl ?_
          refine J_get cx (v := .int (nI ((κ.2.2.1 1) + 1))) fX7_88 0 rfl rfl dX7_issueAuthority_57 ?_
          refine J_aload_n cx dX7_issueAuthority_60 rfl 0 rfl ?_
          refine J_get cx (v := .ref (ad 1)) fX7_9 0 rfl rfl dX7_issueAuthority_61 ?_
          refine J_iload_n cx dX7_issueAuthority_64 rfl 1 rfl ?_
          refine J_iald cx (j := j) (f := κ.1 0) 1 rfl rfl (by omega) (by decide) dX7_issueAuthority_65 ?_
          refine J_aload_n cx dX7_issueAuthority_66 rfl 0 rfl ?_
          refine J_get cx (v := .ref (ad 2)) fX7_13 0 rfl rfl dX7_issueAuthority_67 ?_
          refine J_iload_n cx dX7_issueAuthority_70 rfl 1 rfl ?_
          refine J_iald cx (j := j) (f := κ.1 1) 2 rfl rfl (by omega) (by decide) dX7_issueAuthority_71 ?_
          refine J_iload_n cx dX7_issueAuthority_72 rfl 3 rfl ?_
          refine J_callVi cx kX7_91 (As := [.int xn, .int (nI ((κ.2.2.1 1) + 1)), .int (κ.1 0 j), .int (κ.1 1 j), .int dy]) (tX7_makes l D g A ad (κ.1, κ.2.1, upn κ.2.2.1 1 ((κ.2.2.1 1) + 1), κ.2.2.2.1, κ.2.2.2.2) (nI (canI κ (nI j) true)) ch cm rm row  xn (nI ((κ.2.2.1 1) + 1)) (κ.1 0 j) (κ.1 1 j) dy (show κ.2.2.1 0 < 40 by omega)) ⟨rfl, rfl, by decide, by decide⟩ ⟨by decide, by decide⟩ rfl 0 rfl rfl rfl (Nat.le_of_ble_eq_true rfl) dX7_issueAuthority_73 ?_
          intro _ _ hr; cases hr
          refine J_top (v' := .int (nI (κ.2.2.1 0))) rfl ?_
          refine J_iload cx dX7_issueAuthority_76 4 rfl ?_
          refine J_callVi cx kX7_95 (As := [.int (nI (κ.2.2.1 0)), .int ln]) (tX7_authority l D g A ad (mkK (κ.1, κ.2.1, upn κ.2.2.1 1 ((κ.2.2.1 1) + 1), κ.2.2.2.1, κ.2.2.2.2) xn (nI ((κ.2.2.1 1) + 1)) (κ.1 0 j) (κ.1 1 j) dy) (nI (canI κ (nI j) true)) ch cm rm row  (κ.2.2.1 0) ln (by omega)) ⟨rfl, rfl, by decide, by decide⟩ ⟨by decide, by decide⟩ rfl 0 rfl rfl rfl (Nat.le_of_ble_eq_true rfl) dX7_issueAuthority_78 ?_
          intro _ _ hr; cases hr
          exact J_iret cx rfl (u := ()) (by simp only [opIssueA, Bool.and_true, Bool.true_and, Bool.and_false, Bool.false_and, Bool.or_true, Bool.true_or, Bool.or_false, Bool.false_or, Bool.not_true, Bool.not_false, if_true, if_false, Bool.false_eq_true, decide_true, decide_false, ite_true, ite_false, ne_eq, not_true_eq_false, not_false_eq_true, xj, c_1, c_3, c_5, c_7, hjc]; try rfl) (by simp only [opIssueA, Bool.and_true, Bool.true_and, Bool.and_false, Bool.false_and, Bool.or_true, Bool.true_or, Bool.or_false, Bool.false_or, Bool.not_true, Bool.not_false, if_true, if_false, Bool.false_eq_true, decide_true, decide_false, ite_true, ite_false, ne_eq, not_true_eq_false, not_false_eq_true, xj, c_1, c_3, c_5, c_7, hjc]; try rfl) (by decide) (by decide) dX7_issueAuthority_81
        · have c_7 := bn_t c_7
          have c_7 := of_decide_eq_false c_7
          refine J_iconst cx (v := nI 0) dX7_issueAuthority_41 (by decide) ?_
          exact J_iret cx rfl (u := ()) (by simp only [opIssueA, Bool.and_true, Bool.true_and, Bool.and_false, Bool.false_and, Bool.or_true, Bool.true_or, Bool.or_false, Bool.false_or, Bool.not_true, Bool.not_false, if_true, if_false, Bool.false_eq_true, decide_true, decide_false, ite_true, ite_false, ne_eq, not_true_eq_false, not_false_eq_true, xj, c_1, c_3, c_5, c_7]; try rfl) (by simp only [opIssueA, Bool.and_true, Bool.true_and, Bool.and_false, Bool.false_and, Bool.or_true, Bool.true_or, Bool.or_false, Bool.false_or, Bool.not_true, Bool.not_false, if_true, if_false, Bool.false_eq_true, decide_true, decide_false, ite_true, ite_false, ne_eq, not_true_eq_false, not_false_eq_true, xj, c_1, c_3, c_5, c_7]; try rfl) (by decide) (by decide) dX7_issueAuthority_42
set_option maxHeartbeats 4000000 in
set_option maxRecDepth 100000 in
theorem tX7_cross (l : Launch) (D : va_G) (g : Nat → ClassId) (A : Nat → Prop) (ad : Nat → Nat) (κ : CS) (th : Int32) (ch : Nat → Nat) (cm rm : Nat) (row : Nat → Int64)  (xc : Int32) (xs : Int32) (dy : Int32) (ln : Int32) (hn : κ.2.2.1 0 ≤ 40) : CtI l D g A yX7_cross cX7_cross 5 .int ({ frames := 2, cells := 0, slots := 0, locals := 43 } : Room) [.ref (ad 0), .int xc, .int xs, .int dy, .int ln] (mW ad g κ th ch cm rm row) ((opCross κ xc xs dy ln).2.1) (mW ad g ((opCross κ xc xs dy ln).2.2) (nI (opCross κ xc xs dy ln).1) ch cm rm row) := by
  refine metJ (by decide) (Nat.le_of_ble_eq_true rfl) ?_
  intro p e s m args below meth c _ _ cx
  refine J_aload_n cx dX7_cross_0 rfl 0 rfl ?_
  refine J_aload_n cx dX7_cross_1 rfl 0 rfl ?_
  refine J_iload_n cx dX7_cross_2 rfl 1 rfl ?_
  refine J_callVi cx kX7_74 (As := [.int xc]) (tX7_isThere l D g A ad κ th ch cm rm row  xc (by first | assumption | omega)) ⟨rfl, rfl, by decide, by decide⟩ ⟨by decide, by decide⟩ rfl 0 rfl rfl rfl (Nat.le_of_ble_eq_true rfl) dX7_cross_3 ?_
  intro _ _ hr; cases hr
  refine J_ifz_eq cx (tgt := 17) dX7_cross_6 (by decide) (fun c_1 => ?_) (fun c_1 => ?_)
  · refine J_iconst cx (v := nI 1) dX7_cross_17 (by decide) ?_
    refine J_goto cx (tgt := 22) dX7_cross_18 (by decide) ?_
    refine J_iconst cx (v := nI 1) dX7_cross_22 (by decide) ?_
    refine J_callVi cx kX7_78 (As := [.int (nI 1), .int (nI 1)]) (tX7_isThrown l D g A ad κ th ch cm rm row  true (nI 1) ) ⟨rfl, rfl, by decide, by decide⟩ ⟨by decide, by decide⟩ rfl 0 rfl rfl rfl (Nat.le_of_ble_eq_true rfl) dX7_cross_23 ?_
    intro _ _ hr; cases hr
    refine J_ifz_ne cx (tgt := 63) dX7_cross_26 (by decide) (fun _ => ?_) (fun h => absurd h (by decide))
    refine J_iconst cx (v := nI 0) dX7_cross_63 (by decide) ?_
    exact J_iret cx rfl (u := ()) (by simp only [opCross, Bool.and_true, Bool.true_and, Bool.and_false, Bool.false_and, Bool.or_true, Bool.true_or, Bool.or_false, Bool.false_or, Bool.not_true, Bool.not_false, if_true, if_false, Bool.false_eq_true, decide_true, decide_false, ite_true, ite_false, ne_eq, not_true_eq_false, not_false_eq_true, xj, c_1]; try rfl) (by simp only [opCross, Bool.and_true, Bool.true_and, Bool.and_false, Bool.false_and, Bool.or_true, Bool.true_or, Bool.or_false, Bool.false_or, Bool.not_true, Bool.not_false, if_true, if_false, Bool.false_eq_true, decide_true, decide_false, ite_true, ite_false, ne_eq, not_true_eq_false, not_false_eq_true, xj, c_1]; try rfl) (by decide) (by decide) dX7_cross_64
  · obtain ⟨j, hj, hxj⟩ := inR_spec c_1 (by omega)
    subst hxj
    have hjc : (nI j).toNatClampNeg = j := nI_clamp (by omega)
    refine J_aload_n cx dX7_cross_9 rfl 0 rfl ?_
    refine J_iload_n cx dX7_cross_10 rfl 2 rfl ?_
    refine J_callVi cx kX7_74 (As := [.int xs]) (tX7_isThere l D g A ad κ th ch cm rm row  xs (by first | assumption | omega)) ⟨rfl, rfl, by decide, by decide⟩ ⟨by decide, by decide⟩ rfl 0 rfl rfl rfl (Nat.le_of_ble_eq_true rfl) dX7_cross_11 ?_
    intro _ _ hr; cases hr
    refine J_ifz_ne cx (tgt := 21) dX7_cross_14 (by decide) (fun c_3 => ?_) (fun c_3 => ?_)
    · obtain ⟨i, hi, hxi⟩ := inR_spec c_3 (by omega)
      subst hxi
      have hic : (nI i).toNatClampNeg = i := nI_clamp (by omega)
      refine J_iconst cx (v := nI 0) dX7_cross_21 (by decide) ?_
      refine J_iconst cx (v := nI 1) dX7_cross_22 (by decide) ?_
      refine J_callVi cx kX7_78 (As := [.int (nI 0), .int (nI 1)]) (tX7_isThrown l D g A ad κ th ch cm rm row  false (nI 1) ) ⟨rfl, rfl, by decide, by decide⟩ ⟨by decide, by decide⟩ rfl 0 rfl rfl rfl (Nat.le_of_ble_eq_true rfl) dX7_cross_23 ?_
      intro _ _ hr; cases hr
      refine J_ifz_ne cx (tgt := 63) dX7_cross_26 (by decide) (fun h => absurd h (by decide)) (fun _ => ?_)
      refine J_aload_n cx dX7_cross_29 rfl 0 rfl ?_
      refine J_iload_n cx dX7_cross_30 rfl 3 rfl ?_
      refine J_iconst cx (v := nI 1) dX7_cross_31 (by decide) ?_
      refine J_sipush cx (v := nI 999) dX7_cross_32 (by decide) ?_
      refine J_callSi cx kX7_67 (As := [.int dy, .int (nI 1), .int (nI 999)]) (tX7_isIn l D g A ad κ (if false then (nI 1) else nI 0) ch cm rm row  dy (nI 1) (nI 999) ) ⟨rfl, rfl, by decide, by decide⟩ ⟨by decide, by decide⟩ rfl rfl (Nat.le_of_ble_eq_true rfl) dX7_cross_35 ?_
      intro _ _ hr; cases hr
      refine J_ifz_eq cx (tgt := 51) dX7_cross_38 (by decide) (fun c_5 => ?_) (fun c_5 => ?_)
      · refine J_iconst cx (v := nI 1) dX7_cross_51 (by decide) ?_
        refine J_goto cx (tgt := 56) dX7_cross_52 (by decide) ?_
        refine J_iconst cx (v := nI 2) dX7_cross_56 (by decide) ?_
        refine J_callVi cx kX7_78 (As := [.int (nI 1), .int (nI 2)]) (tX7_isThrown l D g A ad κ (if false then (nI 1) else nI 0) ch cm rm row  true (nI 2) ) ⟨rfl, rfl, by decide, by decide⟩ ⟨by decide, by decide⟩ rfl 0 rfl rfl rfl (Nat.le_of_ble_eq_true rfl) dX7_cross_57 ?_
        intro _ _ hr; cases hr
        refine J_ifz_eq cx (tgt := 65) dX7_cross_60 (by decide) (fun h => absurd h (by decide)) (fun _ => ?_)
        refine J_iconst cx (v := nI 0) dX7_cross_63 (by decide) ?_
        exact J_iret cx rfl (u := ()) (by simp only [opCross, Bool.and_true, Bool.true_and, Bool.and_false, Bool.false_and, Bool.or_true, Bool.true_or, Bool.or_false, Bool.false_or, Bool.not_true, Bool.not_false, if_true, if_false, Bool.false_eq_true, decide_true, decide_false, ite_true, ite_false, ne_eq, not_true_eq_false, not_false_eq_true, xj, c_1, hjc, c_3, hic, c_5]; try rfl) (by simp only [opCross, Bool.and_true, Bool.true_and, Bool.and_false, Bool.false_and, Bool.or_true, Bool.true_or, Bool.or_false, Bool.false_or, Bool.not_true, Bool.not_false, if_true, if_false, Bool.false_eq_true, decide_true, decide_false, ite_true, ite_false, ne_eq, not_true_eq_false, not_false_eq_true, xj, c_1, hjc, c_3, hic, c_5]; try rfl) (by decide) (by decide) dX7_cross_64
      · refine J_iload cx dX7_cross_41 4 rfl ?_
        refine J_iconst cx (v := nI 0) dX7_cross_43 (by decide) ?_
        refine J_iconst cx (v := nI 5) dX7_cross_44 (by decide) ?_
        refine J_callSi cx kX7_67 (As := [.int ln, .int (nI 0), .int (nI 5)]) (tX7_isIn l D g A ad κ (if false then (nI 1) else nI 0) ch cm rm row  ln (nI 0) (nI 5) ) ⟨rfl, rfl, by decide, by decide⟩ ⟨by decide, by decide⟩ rfl rfl (Nat.le_of_ble_eq_true rfl) dX7_cross_45 ?_
        intro _ _ hr; cases hr
        refine J_ifz_ne cx (tgt := 55) dX7_cross_48 (by decide) (fun c_7 => ?_) (fun c_7 => ?_)
        · refine J_iconst cx (v := nI 0) dX7_cross_55 (by decide) ?_
          refine J_iconst cx (v := nI 2) dX7_cross_56 (by decide) ?_
          refine J_callVi cx kX7_78 (As := [.int (nI 0), .int (nI 2)]) (tX7_isThrown l D g A ad κ (if false then (nI 1) else nI 0) ch cm rm row  false (nI 2) ) ⟨rfl, rfl, by decide, by decide⟩ ⟨by decide, by decide⟩ rfl 0 rfl rfl rfl (Nat.le_of_ble_eq_true rfl) dX7_cross_57 ?_
          intro _ _ hr; cases hr
          refine J_ifz_eq cx (tgt := 65) dX7_cross_60 (by decide) (fun _ => ?_) (fun h => absurd h (by decide))
          refine J_aload_n cx dX7_cross_65 rfl 0 rfl ?_
          refine J_aload_n cx dX7_cross_66 rfl 0 rfl ?_
          refine J_get cx (v := .ref (ad 11)) fX7_40 0 rfl rfl dX7_cross_67 ?_
          refine J_iload_n cx dX7_cross_70 rfl 1 rfl ?_
          refine J_zald cx (j := j) (f := fun i => zb (κ.2.1 0 i)) 11 rfl rfl (by omega) (by decide) dX7_cross_71 ?_
          refine J_ifz_eq cx (tgt := 122) dX7_cross_72 (by decide) (fun c_9 => ?_) (fun c_9 => ?_)
          · refine J_iconst cx (v := nI 1) dX7_cross_122 (by decide) ?_
            refine J_goto cx (tgt := 127) dX7_cross_123 (by decide) ?_
            refine J_iconst cx (v := nI 3) dX7_cross_127 (by decide) ?_
            refine J_callVi cx kX7_78 (As := [.int (nI 1), .int (nI 3)]) (tX7_isThrown l D g A ad κ (if false then (nI 2) else nI 0) ch cm rm row  true (nI 3) ) ⟨rfl, rfl, by decide, by decide⟩ ⟨by decide, by decide⟩ rfl 0 rfl rfl rfl (Nat.le_of_ble_eq_true rfl) dX7_cross_128 ?_
            intro _ _ hr; cases hr
            refine J_ifz_eq cx (tgt := 136) dX7_cross_131 (by decide) (fun h => absurd h (by decide)) (fun _ => ?_)
            refine J_iconst cx (v := nI 0) dX7_cross_134 (by decide) ?_
            exact J_iret cx rfl (u := ()) (by simp only [opCross, Bool.and_true, Bool.true_and, Bool.and_false, Bool.false_and, Bool.or_true, Bool.true_or, Bool.or_false, Bool.false_or, Bool.not_true, Bool.not_false, if_true, if_false, Bool.false_eq_true, decide_true, decide_false, ite_true, ite_false, ne_eq, not_true_eq_false, not_false_eq_true, xj, c_1, hjc, c_3, hic, c_5, c_7, c_9]; try rfl) (by simp only [opCross, Bool.and_true, Bool.true_and, Bool.and_false, Bool.false_and, Bool.or_true, Bool.true_or, Bool.or_false, Bool.false_or, Bool.not_true, Bool.not_false, if_true, if_false, Bool.false_eq_true, decide_true, decide_false, ite_true, ite_false, ne_eq, not_true_eq_false, not_false_eq_true, xj, c_1, hjc, c_3, hic, c_5, c_7, c_9]; try rfl) (by decide) (by decide) dX7_cross_135
          · refine J_aload_n cx dX7_cross_75 rfl 0 rfl ?_
            refine J_get cx (v := .ref (ad 11)) fX7_40 0 rfl rfl dX7_cross_76 ?_
            refine J_iload_n cx dX7_cross_79 rfl 2 rfl ?_
            refine J_zald cx (j := i) (f := fun i => zb (κ.2.1 0 i)) 11 rfl rfl (by omega) (by decide) dX7_cross_80 ?_
            refine J_ifz_eq cx (tgt := 122) dX7_cross_81 (by decide) (fun c_11 => ?_) (fun c_11 => ?_)
            · refine J_iconst cx (v := nI 1) dX7_cross_122 (by decide) ?_
              refine J_goto cx (tgt := 127) dX7_cross_123 (by decide) ?_
              refine J_iconst cx (v := nI 3) dX7_cross_127 (by decide) ?_
              refine J_callVi cx kX7_78 (As := [.int (nI 1), .int (nI 3)]) (tX7_isThrown l D g A ad κ (if false then (nI 2) else nI 0) ch cm rm row  true (nI 3) ) ⟨rfl, rfl, by decide, by decide⟩ ⟨by decide, by decide⟩ rfl 0 rfl rfl rfl (Nat.le_of_ble_eq_true rfl) dX7_cross_128 ?_
              intro _ _ hr; cases hr
              refine J_ifz_eq cx (tgt := 136) dX7_cross_131 (by decide) (fun h => absurd h (by decide)) (fun _ => ?_)
              refine J_iconst cx (v := nI 0) dX7_cross_134 (by decide) ?_
              exact J_iret cx rfl (u := ()) (by simp only [opCross, Bool.and_true, Bool.true_and, Bool.and_false, Bool.false_and, Bool.or_true, Bool.true_or, Bool.or_false, Bool.false_or, Bool.not_true, Bool.not_false, if_true, if_false, Bool.false_eq_true, decide_true, decide_false, ite_true, ite_false, ne_eq, not_true_eq_false, not_false_eq_true, xj, c_1, hjc, c_3, hic, c_5, c_7, c_9, c_11]; try rfl) (by simp only [opCross, Bool.and_true, Bool.true_and, Bool.and_false, Bool.false_and, Bool.or_true, Bool.true_or, Bool.or_false, Bool.false_or, Bool.not_true, Bool.not_false, if_true, if_false, Bool.false_eq_true, decide_true, decide_false, ite_true, ite_false, ne_eq, not_true_eq_false, not_false_eq_true, xj, c_1, hjc, c_3, hic, c_5, c_7, c_9, c_11]; try rfl) (by decide) (by decide) dX7_cross_135
            · refine J_aload_n cx dX7_cross_84 rfl 0 rfl ?_
              refine J_get cx (v := .ref (ad 2)) fX7_13 0 rfl rfl dX7_cross_85 ?_
              refine J_iload_n cx dX7_cross_88 rfl 1 rfl ?_
              refine J_iald cx (j := j) (f := κ.1 1) 2 rfl rfl (by omega) (by decide) dX7_cross_89 ?_
              refine J_aload_n cx dX7_cross_90 rfl 0 rfl ?_
              refine J_get cx (v := .ref (ad 2)) fX7_13 0 rfl rfl dX7_cross_91 ?_
              refine J_iload_n cx dX7_cross_94 rfl 2 rfl ?_
              refine J_iald cx (j := i) (f := κ.1 1) 2 rfl rfl (by omega) (by decide) dX7_cross_95 ?_
              refine J_icmp_eq cx (tgt := 122) dX7_cross_96 (by decide) (fun c_13 => ?_) (fun c_13 => ?_)
              · have c_13d := decide_eq_true c_13
                refine J_iconst cx (v := nI 1) dX7_cross_122 (by decide) ?_
                refine J_goto cx (tgt := 127) dX7_cross_123 (by decide) ?_
                refine J_iconst cx (v := nI 3) dX7_cross_127 (by decide) ?_
                refine J_callVi cx kX7_78 (As := [.int (nI 1), .int (nI 3)]) (tX7_isThrown l D g A ad κ (if false then (nI 2) else nI 0) ch cm rm row  true (nI 3) ) ⟨rfl, rfl, by decide, by decide⟩ ⟨by decide, by decide⟩ rfl 0 rfl rfl rfl (Nat.le_of_ble_eq_true rfl) dX7_cross_128 ?_
                intro _ _ hr; cases hr
                refine J_ifz_eq cx (tgt := 136) dX7_cross_131 (by decide) (fun h => absurd h (by decide)) (fun _ => ?_)
                refine J_iconst cx (v := nI 0) dX7_cross_134 (by decide) ?_
                exact J_iret cx rfl (u := ()) (by simp only [opCross, Bool.and_true, Bool.true_and, Bool.and_false, Bool.false_and, Bool.or_true, Bool.true_or, Bool.or_false, Bool.false_or, Bool.not_true, Bool.not_false, if_true, if_false, Bool.false_eq_true, decide_true, decide_false, ite_true, ite_false, ne_eq, not_true_eq_false, not_false_eq_true, xj, c_1, hjc, c_3, hic, c_5, c_7, c_9, c_11, c_13d]; try rfl) (by simp only [opCross, Bool.and_true, Bool.true_and, Bool.and_false, Bool.false_and, Bool.or_true, Bool.true_or, Bool.or_false, Bool.false_or, Bool.not_true, Bool.not_false, if_true, if_false, Bool.false_eq_true, decide_true, decide_false, ite_true, ite_false, ne_eq, not_true_eq_false, not_false_eq_true, xj, c_1, hjc, c_3, hic, c_5, c_7, c_9, c_11, c_13d]; try rfl) (by decide) (by decide) dX7_cross_135
              · have c_13d := decide_eq_false c_13
                refine J_aload_n cx dX7_cross_99 rfl 0 rfl ?_
                refine J_aload_n cx dX7_cross_100 rfl 0 rfl ?_
                refine J_get cx (v := .ref (ad 2)) fX7_13 0 rfl rfl dX7_cross_101 ?_
                refine J_iload_n cx dX7_cross_104 rfl 2 rfl ?_
                refine J_iald cx (j := i) (f := κ.1 1) 2 rfl rfl (by omega) (by decide) dX7_cross_105 ?_
                refine J_callVi cx kX7_106 (As := [.int (κ.1 1 i)]) (tX7_withKey l D g A ad κ (if false then (nI 2) else nI 0) ch cm rm row  (κ.1 1 i) (by first | assumption | omega)) ⟨rfl, rfl, by decide, by decide⟩ ⟨by decide, by decide⟩ rfl 0 rfl rfl rfl (Nat.le_of_ble_eq_true rfl) dX7_cross_106 ?_
                intro _ _ hr; cases hr
                have hcb := cnt_le (wkB κ (κ.1 1 i)) (κ.2.2.1 0)
                refine J_iconst cx (v := nI 2) dX7_cross_109 (by decide) ?_
                refine J_icmp_gt cx (tgt := 122) dX7_cross_110 (by decide) (fun c_15 => ?_) (fun c_15 => ?_)
                · have c_15 := (nat_ic_gt (by omega) (by omega)).mp c_15
                  have c_15d := decide_eq_true c_15
                  refine J_iconst cx (v := nI 1) dX7_cross_122 (by decide) ?_
                  refine J_goto cx (tgt := 127) dX7_cross_123 (by decide) ?_
                  refine J_iconst cx (v := nI 3) dX7_cross_127 (by decide) ?_
                  refine J_callVi cx kX7_78 (As := [.int (nI 1), .int (nI 3)]) (tX7_isThrown l D g A ad κ (if false then (nI 2) else nI 0) ch cm rm row  true (nI 3) ) ⟨rfl, rfl, by decide, by decide⟩ ⟨by decide, by decide⟩ rfl 0 rfl rfl rfl (Nat.le_of_ble_eq_true rfl) dX7_cross_128 ?_
                  intro _ _ hr; cases hr
                  refine J_ifz_eq cx (tgt := 136) dX7_cross_131 (by decide) (fun h => absurd h (by decide)) (fun _ => ?_)
                  refine J_iconst cx (v := nI 0) dX7_cross_134 (by decide) ?_
                  exact J_iret cx rfl (u := ()) (by simp only [opCross, Bool.and_true, Bool.true_and, Bool.and_false, Bool.false_and, Bool.or_true, Bool.true_or, Bool.or_false, Bool.false_or, Bool.not_true, Bool.not_false, if_true, if_false, Bool.false_eq_true, decide_true, decide_false, ite_true, ite_false, ne_eq, not_true_eq_false, not_false_eq_true, xj, c_1, hjc, c_3, hic, c_5, c_7, c_9, c_11, c_13, c_13d, c_15, c_15d]; try rfl) (by simp only [opCross, Bool.and_true, Bool.true_and, Bool.and_false, Bool.false_and, Bool.or_true, Bool.true_or, Bool.or_false, Bool.false_or, Bool.not_true, Bool.not_false, if_true, if_false, Bool.false_eq_true, decide_true, decide_false, ite_true, ite_false, ne_eq, not_true_eq_false, not_false_eq_true, xj, c_1, hjc, c_3, hic, c_5, c_7, c_9, c_11, c_13, c_13d, c_15, c_15d]; try rfl) (by decide) (by decide) dX7_cross_135
                · have c_15 := (nat_ic_gt_f (by omega) (by omega)).mp c_15
                  have c_15d := decide_eq_false (Nat.not_lt.mpr c_15)
                  refine J_aload_n cx dX7_cross_113 rfl 0 rfl ?_
                  refine J_get cx (v := .int (nI (κ.2.2.1 0))) fX7_71 0 rfl rfl dX7_cross_114 ?_
                  refine J_bipush cx (v := nI 40) dX7_cross_117 (by decide) ?_
                  refine J_icmp_ne cx (tgt := 126) dX7_cross_119 (by decide) (fun c_17 => ?_) (fun c_17 => ?_)
                  · have c_17 := (nat_ic_ne (by omega) (by omega)).mp c_17
                    have c_17d := decide_eq_false c_17
                    refine J_iconst cx (v := nI 0) dX7_cross_126 (by decide) ?_
                    refine J_iconst cx (v := nI 3) dX7_cross_127 (by decide) ?_
                    refine J_callVi cx kX7_78 (As := [.int (nI 0), .int (nI 3)]) (tX7_isThrown l D g A ad κ (if false then (nI 2) else nI 0) ch cm rm row  false (nI 3) ) ⟨rfl, rfl, by decide, by decide⟩ ⟨by decide, by decide⟩ rfl 0 rfl rfl rfl (Nat.le_of_ble_eq_true rfl) dX7_cross_128 ?_
                    intro _ _ hr; cases hr
                    refine J_ifz_eq cx (tgt := 136) dX7_cross_131 (by decide) (fun _ => ?_) (fun h => absurd h (by decide))
                    refine J_aload_n cx dX7_cross_136 rfl 0 rfl ?_
                    refine J_aload_n cx dX7_cross_137 rfl 0 rfl ?_
                    refine J_aload_n cx dX7_cross_138 rfl 0 rfl ?_
                    refine J_get cx (v := .ref (ad 1)) fX7_9 0 rfl rfl dX7_cross_139 ?_
                    refine J_iload_n cx dX7_cross_142 rfl 2 rfl ?_
                    refine J_iald cx (j := i) (f := κ.1 0) 1 rfl rfl (by omega) (by decide) dX7_cross_143 ?_
                    refine J_aload_n cx dX7_cross_144 rfl 0 rfl ?_
                    refine J_get cx (v := .ref (ad 2)) fX7_13 0 rfl rfl dX7_cross_145 ?_
                    refine J_iload_n cx dX7_cross_148 rfl 2 rfl ?_
                    refine J_iald cx (j := i) (f := κ.1 1) 2 rfl rfl (by omega) (by decide) dX7_cross_149 ?_
                    refine J_aload_n cx dX7_cross_150 rfl 0 rfl ?_
                    refine J_get cx (v := .ref (ad 1)) fX7_9 0 rfl rfl dX7_cross_151 ?_
                    refine J_iload_n cx dX7_cross_154 rfl 1 rfl ?_
                    refine J_iald cx (j := j) (f := κ.1 0) 1 rfl rfl (by omega) (by decide) dX7_cross_155 ?_
                    refine J_aload_n cx dX7_cross_156 rfl 0 rfl ?_
                    refine J_get cx (v := .ref (ad 2)) fX7_13 0 rfl rfl dX7_cross_157 ?_
                    refine J_iload_n cx dX7_cross_160 rfl 1 rfl ?_
                    refine J_iald cx (j := j) (f := κ.1 1) 2 rfl rfl (by omega) (by decide) dX7_cross_161 ?_
                    refine J_iload_n cx dX7_cross_162 rfl 3 rfl ?_
                    refine J_callVi cx kX7_91 (As := [.int (κ.1 0 i), .int (κ.1 1 i), .int (κ.1 0 j), .int (κ.1 1 j), .int dy]) (tX7_makes l D g A ad κ (if false then (nI 3) else nI 0) ch cm rm row  (κ.1 0 i) (κ.1 1 i) (κ.1 0 j) (κ.1 1 j) dy (show κ.2.2.1 0 < 40 by omega)) ⟨rfl, rfl, by decide, by decide⟩ ⟨by decide, by decide⟩ rfl 0 rfl rfl rfl (Nat.le_of_ble_eq_true rfl) dX7_cross_163 ?_
                    intro _ _ hr; cases hr
                    refine J_iload cx dX7_cross_166 4 rfl ?_
                    refine J_callVi cx kX7_95 (As := [.int (nI (κ.2.2.1 0)), .int ln]) (tX7_authority l D g A ad (mkK κ (κ.1 0 i) (κ.1 1 i) (κ.1 0 j) (κ.1 1 j) dy) (if false then (nI 3) else nI 0) ch cm rm row  (κ.2.2.1 0) ln (by omega)) ⟨rfl, rfl, by decide, by decide⟩ ⟨by decide, by decide⟩ rfl 0 rfl rfl rfl (Nat.le_of_ble_eq_true rfl) dX7_cross_168 ?_
                    intro _ _ hr; cases hr
                    exact J_iret cx rfl (u := ()) (by simp only [opCross, Bool.and_true, Bool.true_and, Bool.and_false, Bool.false_and, Bool.or_true, Bool.true_or, Bool.or_false, Bool.false_or, Bool.not_true, Bool.not_false, if_true, if_false, Bool.false_eq_true, decide_true, decide_false, ite_true, ite_false, ne_eq, not_true_eq_false, not_false_eq_true, xj, c_1, hjc, c_3, hic, c_5, c_7, c_9, c_11, c_13, c_13d, c_15, c_15d, c_17, c_17d]; try rfl) (by simp only [opCross, Bool.and_true, Bool.true_and, Bool.and_false, Bool.false_and, Bool.or_true, Bool.true_or, Bool.or_false, Bool.false_or, Bool.not_true, Bool.not_false, if_true, if_false, Bool.false_eq_true, decide_true, decide_false, ite_true, ite_false, ne_eq, not_true_eq_false, not_false_eq_true, xj, c_1, hjc, c_3, hic, c_5, c_7, c_9, c_11, c_13, c_13d, c_15, c_15d, c_17, c_17d]; try rfl) (by decide) (by decide) dX7_cross_171
                  · have c_17 := (nat_ic_ne_f (by omega) (by omega)).mp c_17
                    have c_17d := decide_eq_true c_17
                    refine J_iconst cx (v := nI 1) dX7_cross_122 (by decide) ?_
                    refine J_goto cx (tgt := 127) dX7_cross_123 (by decide) ?_
                    refine J_iconst cx (v := nI 3) dX7_cross_127 (by decide) ?_
                    refine J_callVi cx kX7_78 (As := [.int (nI 1), .int (nI 3)]) (tX7_isThrown l D g A ad κ (if false then (nI 2) else nI 0) ch cm rm row  true (nI 3) ) ⟨rfl, rfl, by decide, by decide⟩ ⟨by decide, by decide⟩ rfl 0 rfl rfl rfl (Nat.le_of_ble_eq_true rfl) dX7_cross_128 ?_
                    intro _ _ hr; cases hr
                    refine J_ifz_eq cx (tgt := 136) dX7_cross_131 (by decide) (fun h => absurd h (by decide)) (fun _ => ?_)
                    refine J_iconst cx (v := nI 0) dX7_cross_134 (by decide) ?_
                    exact J_iret cx rfl (u := ()) (by simp only [opCross, Bool.and_true, Bool.true_and, Bool.and_false, Bool.false_and, Bool.or_true, Bool.true_or, Bool.or_false, Bool.false_or, Bool.not_true, Bool.not_false, if_true, if_false, Bool.false_eq_true, decide_true, decide_false, ite_true, ite_false, ne_eq, not_true_eq_false, not_false_eq_true, xj, c_1, hjc, c_3, hic, c_5, c_7, c_9, c_11, c_13, c_13d, c_15, c_15d, c_17d]; try rfl) (by simp only [opCross, Bool.and_true, Bool.true_and, Bool.and_false, Bool.false_and, Bool.or_true, Bool.true_or, Bool.or_false, Bool.false_or, Bool.not_true, Bool.not_false, if_true, if_false, Bool.false_eq_true, decide_true, decide_false, ite_true, ite_false, ne_eq, not_true_eq_false, not_false_eq_true, xj, c_1, hjc, c_3, hic, c_5, c_7, c_9, c_11, c_13, c_13d, c_15, c_15d, c_17d]; try rfl) (by decide) (by decide) dX7_cross_135
        · refine J_iconst cx (v := nI 1) dX7_cross_51 (by decide) ?_
          refine J_goto cx (tgt := 56) dX7_cross_52 (by decide) ?_
          refine J_iconst cx (v := nI 2) dX7_cross_56 (by decide) ?_
          refine J_callVi cx kX7_78 (As := [.int (nI 1), .int (nI 2)]) (tX7_isThrown l D g A ad κ (if false then (nI 1) else nI 0) ch cm rm row  true (nI 2) ) ⟨rfl, rfl, by decide, by decide⟩ ⟨by decide, by decide⟩ rfl 0 rfl rfl rfl (Nat.le_of_ble_eq_true rfl) dX7_cross_57 ?_
          intro _ _ hr; cases hr
          refine J_ifz_eq cx (tgt := 65) dX7_cross_60 (by decide) (fun h => absurd h (by decide)) (fun _ => ?_)
          refine J_iconst cx (v := nI 0) dX7_cross_63 (by decide) ?_
          exact J_iret cx rfl (u := ()) (by simp only [opCross, Bool.and_true, Bool.true_and, Bool.and_false, Bool.false_and, Bool.or_true, Bool.true_or, Bool.or_false, Bool.false_or, Bool.not_true, Bool.not_false, if_true, if_false, Bool.false_eq_true, decide_true, decide_false, ite_true, ite_false, ne_eq, not_true_eq_false, not_false_eq_true, xj, c_1, hjc, c_3, hic, c_5, c_7]; try rfl) (by simp only [opCross, Bool.and_true, Bool.true_and, Bool.and_false, Bool.false_and, Bool.or_true, Bool.true_or, Bool.or_false, Bool.false_or, Bool.not_true, Bool.not_false, if_true, if_false, Bool.false_eq_true, decide_true, decide_false, ite_true, ite_false, ne_eq, not_true_eq_false, not_false_eq_true, xj, c_1, hjc, c_3, hic, c_5, c_7]; try rfl) (by decide) (by decide) dX7_cross_64
    · refine J_iconst cx (v := nI 1) dX7_cross_17 (by decide) ?_
      refine J_goto cx (tgt := 22) dX7_cross_18 (by decide) ?_
      refine J_iconst cx (v := nI 1) dX7_cross_22 (by decide) ?_
      refine J_callVi cx kX7_78 (As := [.int (nI 1), .int (nI 1)]) (tX7_isThrown l D g A ad κ th ch cm rm row  true (nI 1) ) ⟨rfl, rfl, by decide, by decide⟩ ⟨by decide, by decide⟩ rfl 0 rfl rfl rfl (Nat.le_of_ble_eq_true rfl) dX7_cross_23 ?_
      intro _ _ hr; cases hr
      refine J_ifz_ne cx (tgt := 63) dX7_cross_26 (by decide) (fun _ => ?_) (fun h => absurd h (by decide))
      refine J_iconst cx (v := nI 0) dX7_cross_63 (by decide) ?_
      exact J_iret cx rfl (u := ()) (by simp only [opCross, Bool.and_true, Bool.true_and, Bool.and_false, Bool.false_and, Bool.or_true, Bool.true_or, Bool.or_false, Bool.false_or, Bool.not_true, Bool.not_false, if_true, if_false, Bool.false_eq_true, decide_true, decide_false, ite_true, ite_false, ne_eq, not_true_eq_false, not_false_eq_true, xj, c_1, hjc, c_3]; try rfl) (by simp only [opCross, Bool.and_true, Bool.true_and, Bool.and_false, Bool.false_and, Bool.or_true, Bool.true_or, Bool.or_false, Bool.false_or, Bool.not_true, Bool.not_false, if_true, if_false, Bool.false_eq_true, decide_true, decide_false, ite_true, ite_false, ne_eq, not_true_eq_false, not_false_eq_true, xj, c_1, hjc, c_3]; try rfl) (by decide) (by decide) dX7_cross_64
set_option maxHeartbeats 4000000 in
set_option maxRecDepth 100000 in
theorem tX7_setNames (l : Launch) (D : va_G) (g : Nat → ClassId) (A : Nat → Prop) (ad : Nat → Nat) (κ : CS) (th : Int32) (ch : Nat → Nat) (cm rm : Nat) (row : Nat → Int64)  (xc : Int32) (xp : Int32) (xe : Int32) (hn : κ.2.2.1 0 ≤ 40) : CtI l D g A yX7_setNames cX7_setNames 5 .int ({ frames := 3, cells := 0, slots := 0, locals := 64 } : Room) [.ref (ad 0), .int xc, .int xp, .int xe] (mW ad g κ th ch cm rm row) ((opSetNames κ xc xp xe).2.1) (mW ad g ((opSetNames κ xc xp xe).2.2) (nI (opSetNames κ xc xp xe).1) ch cm rm row) := by
  refine metJ (by decide) (Nat.le_of_ble_eq_true rfl) ?_
  intro p e s m args below meth c _ _ cx
  have JN : J p l e ({ frames := 3, cells := 0, slots := 0, locals := 64 } : Room) s m args below meth c D A 5 (MQ below (va_Qi (fun (r : Int32) (_ : Unit) => r = ((opSetNames κ xc xp xe).2.1)) (fun _ => PO D A (mW ad g ((opSetNames κ xc xp xe).2.2) (nI (opSetNames κ xc xp xe).1) ch cm rm row)) A) args s 0 0 A) 0 0 (mW ad g κ th ch cm rm row) [(4, .int (zb (nm0 xp && nm0 xe))), (0, .ref (ad 0)), (1, .int xc), (2, .int xp), (3, .int xe)] 29 [] := by
    refine J_aload_n cx dX7_setNames_29 rfl 1 rfl ?_
    refine J_iload_n cx dX7_setNames_30 rfl 2 rfl ?_
    refine J_callVi cx kX7_99 (As := [.int xc]) (tX7_isNone l D g A ad κ th ch cm rm row  xc (by first | assumption | omega)) ⟨rfl, rfl, by decide, by decide⟩ ⟨by decide, by decide⟩ rfl 0 rfl rfl rfl (Nat.le_of_ble_eq_true rfl) dX7_setNames_31 ?_
    intro _ _ hr; cases hr
    refine J_ifz_ne cx (tgt := 90) dX7_setNames_34 (by decide) (fun c_1 => ?_) (fun c_1 => ?_)
    · have c_1 := bn_t c_1
      refine J_iconst cx (v := nI 0) dX7_setNames_90 (by decide) ?_
      exact J_iret cx rfl (u := ()) (by simp only [opSetNames, Bool.and_true, Bool.true_and, Bool.and_false, Bool.false_and, Bool.or_true, Bool.true_or, Bool.or_false, Bool.false_or, Bool.not_true, Bool.not_false, if_true, if_false, Bool.false_eq_true, decide_true, decide_false, ite_true, ite_false, ne_eq, not_true_eq_false, not_false_eq_true, xj, c_1]; try rfl) (by simp only [opSetNames, Bool.and_true, Bool.true_and, Bool.and_false, Bool.false_and, Bool.or_true, Bool.true_or, Bool.or_false, Bool.false_or, Bool.not_true, Bool.not_false, if_true, if_false, Bool.false_eq_true, decide_true, decide_false, ite_true, ite_false, ne_eq, not_true_eq_false, not_false_eq_true, xj, c_1]; try rfl) (by decide) (by decide) dX7_setNames_91
    · have c_1 := bn_f c_1
      obtain ⟨j, hj, hxj⟩ := inR_spec c_1 (by omega)
      subst hxj
      have hjc : (nI j).toNatClampNeg = j := nI_clamp (by omega)
      refine J_aload_n cx dX7_setNames_37 rfl 1 rfl ?_
      refine J_iload cx dX7_setNames_38 0 rfl ?_
      refine J_ifz_ne cx (tgt := 47) dX7_setNames_40 (by decide) (fun c_2 => ?_) (fun c_2 => ?_)
      · refine J_iconst cx (v := nI 0) dX7_setNames_47 (by decide) ?_
        refine J_iconst cx (v := nI 2) dX7_setNames_48 (by decide) ?_
        refine J_callVi cx kX7_78 (As := [.int (nI 0), .int (nI 2)]) (tX7_isThrown l D g A ad κ (if inR (κ.2.2.1 0) (nI j) then nI 0 else nI 1) ch cm rm row  false (nI 2) ) ⟨rfl, rfl, by decide, by decide⟩ ⟨by decide, by decide⟩ rfl 0 rfl rfl rfl (Nat.le_of_ble_eq_true rfl) dX7_setNames_49 ?_
        intro _ _ hr; cases hr
        refine J_ifz_ne cx (tgt := 90) dX7_setNames_52 (by decide) (fun h => absurd h (by decide)) (fun _ => ?_)
        refine J_aload_n cx dX7_setNames_55 rfl 1 rfl ?_
        refine J_aload_n cx dX7_setNames_56 rfl 1 rfl ?_
        refine J_get cx (v := .ref (ad 11)) fX7_40 0 rfl rfl dX7_setNames_57 ?_
        refine J_iload_n cx dX7_setNames_60 rfl 2 rfl ?_
        refine J_zald cx (j := j) (f := fun i => zb (κ.2.1 0 i)) 11 rfl rfl (by omega) (by decide) dX7_setNames_61 ?_
        refine J_ifz_eq cx (tgt := 78) dX7_setNames_62 (by decide) (fun c_4 => ?_) (fun c_4 => ?_)
        · refine J_iconst cx (v := nI 1) dX7_setNames_78 (by decide) ?_
          refine J_goto cx (tgt := 83) dX7_setNames_79 (by decide) ?_
          refine J_iconst cx (v := nI 3) dX7_setNames_83 (by decide) ?_
          refine J_callVi cx kX7_78 (As := [.int (nI 1), .int (nI 3)]) (tX7_isThrown l D g A ad κ (if false then (nI 2) else nI 0) ch cm rm row  true (nI 3) ) ⟨rfl, rfl, by decide, by decide⟩ ⟨by decide, by decide⟩ rfl 0 rfl rfl rfl (Nat.le_of_ble_eq_true rfl) dX7_setNames_84 ?_
          intro _ _ hr; cases hr
          refine J_ifz_eq cx (tgt := 92) dX7_setNames_87 (by decide) (fun h => absurd h (by decide)) (fun _ => ?_)
          refine J_iconst cx (v := nI 0) dX7_setNames_90 (by decide) ?_
          exact J_iret cx rfl (u := ()) (by simp only [opSetNames, Bool.and_true, Bool.true_and, Bool.and_false, Bool.false_and, Bool.or_true, Bool.true_or, Bool.or_false, Bool.false_or, Bool.not_true, Bool.not_false, if_true, if_false, Bool.false_eq_true, decide_true, decide_false, ite_true, ite_false, ne_eq, not_true_eq_false, not_false_eq_true, xj, c_1, hjc, c_2, c_4]; try rfl) (by simp only [opSetNames, Bool.and_true, Bool.true_and, Bool.and_false, Bool.false_and, Bool.or_true, Bool.true_or, Bool.or_false, Bool.false_or, Bool.not_true, Bool.not_false, if_true, if_false, Bool.false_eq_true, decide_true, decide_false, ite_true, ite_false, ne_eq, not_true_eq_false, not_false_eq_true, xj, c_1, hjc, c_2, c_4]; try rfl) (by decide) (by decide) dX7_setNames_91
        · refine J_aload_n cx dX7_setNames_65 rfl 1 rfl ?_
          refine J_aload_n cx dX7_setNames_66 rfl 1 rfl ?_
          refine J_get cx (v := .ref (ad 2)) fX7_13 0 rfl rfl dX7_setNames_67 ?_
          refine J_iload_n cx dX7_setNames_70 rfl 2 rfl ?_
          refine J_iald cx (j := j) (f := κ.1 1) 2 rfl rfl (by omega) (by decide) dX7_setNames_71 ?_
          refine J_callVi cx kX7_110 (As := [.int (κ.1 1 j)]) (tX7_hasIssued l D g A ad κ (if false then (nI 2) else nI 0) ch cm rm row  (κ.1 1 j) (by first | assumption | omega)) ⟨rfl, rfl, by decide, by decide⟩ ⟨by decide, by decide⟩ rfl 0 rfl rfl rfl (Nat.le_of_ble_eq_true rfl) dX7_setNames_72 ?_
          intro _ _ hr; cases hr
          refine J_ifz_eq cx (tgt := 82) dX7_setNames_75 (by decide) (fun c_6 => ?_) (fun c_6 => ?_)
          · refine J_iconst cx (v := nI 0) dX7_setNames_82 (by decide) ?_
            refine J_iconst cx (v := nI 3) dX7_setNames_83 (by decide) ?_
            refine J_callVi cx kX7_78 (As := [.int (nI 0), .int (nI 3)]) (tX7_isThrown l D g A ad κ (if false then (nI 2) else nI 0) ch cm rm row  false (nI 3) ) ⟨rfl, rfl, by decide, by decide⟩ ⟨by decide, by decide⟩ rfl 0 rfl rfl rfl (Nat.le_of_ble_eq_true rfl) dX7_setNames_84 ?_
            intro _ _ hr; cases hr
            refine J_ifz_eq cx (tgt := 92) dX7_setNames_87 (by decide) (fun _ => ?_) (fun h => absurd h (by decide))
            refine J_aload_n cx dX7_setNames_92 rfl 1 rfl ?_
            refine J_get cx (v := .ref (ad 8)) fX7_31 0 rfl rfl dX7_setNames_93 ?_
            refine J_iload_n cx dX7_setNames_96 rfl 2 rfl ?_
            refine J_iload_n cx dX7_setNames_97 rfl 3 rfl ?_
            refine J_iast cx (ws' := (mW ad g (upI κ.1 7 j xp, κ.2.1, κ.2.2.1, κ.2.2.2.1, κ.2.2.2.2) (if false then (nI 3) else nI 0) ch cm rm row)) (j := j) 8 rfl  rfl (by omega) (by decide) rfl dX7_setNames_98 ?_
            refine J_aload_n cx dX7_setNames_99 rfl 1 rfl ?_
            refine J_get cx (v := .ref (ad 9)) fX7_34 0 rfl rfl dX7_setNames_100 ?_
            refine J_iload_n cx dX7_setNames_103 rfl 2 rfl ?_
            refine J_iload_n cx dX7_setNames_104 rfl 4 rfl ?_
            refine J_iast cx (ws' := (mW ad g (upI (upI κ.1 7 j xp) 8 j xe, κ.2.1, κ.2.2.1, κ.2.2.2.1, κ.2.2.2.2) (if false then (nI 3) else nI 0) ch cm rm row)) (j := j) 9 rfl  rfl (by omega) (by decide) rfl dX7_setNames_105 ?_
            refine J_iload_n cx dX7_setNames_106 rfl 3 rfl ?_
            refine J_if_eq cx (tgt := 114) dX7_setNames_107 (by decide) (fun c_8 => ?_) (fun c_8 => ?_)
            · have c_8d := decide_eq_true c_8
              refine J_iconst cx (v := nI 0) dX7_setNames_114 (by decide) ?_
              refine J_iload_n cx dX7_setNames_115 rfl 4 rfl ?_
              refine J_if_eq cx (tgt := 123) dX7_setNames_116 (by decide) (fun c_9 => ?_) (fun c_9 => ?_)
              · have c_9d := decide_eq_true c_9
                refine J_iconst cx (v := nI 0) dX7_setNames_123 (by decide) ?_
                refine J_iadd cx dX7_setNames_124 ?_
                refine J_top (v' := .int (nI (0 + 0))) (congrArg Value.int (nI_add 0 0)) ?_
                exact J_iret cx rfl (u := ()) (by simp only [opSetNames, Bool.and_true, Bool.true_and, Bool.and_false, Bool.false_and, Bool.or_true, Bool.true_or, Bool.or_false, Bool.false_or, Bool.not_true, Bool.not_false, if_true, if_false, Bool.false_eq_true, decide_true, decide_false, ite_true, ite_false, ne_eq, not_true_eq_false, not_false_eq_true, xj, c_1, hjc, c_2, c_4, c_6, c_8d, c_9d]; try rfl) (by simp only [opSetNames, Bool.and_true, Bool.true_and, Bool.and_false, Bool.false_and, Bool.or_true, Bool.true_or, Bool.or_false, Bool.false_or, Bool.not_true, Bool.not_false, if_true, if_false, Bool.false_eq_true, decide_true, decide_false, ite_true, ite_false, ne_eq, not_true_eq_false, not_false_eq_true, xj, c_1, hjc, c_2, c_4, c_6, c_8d, c_9d]; try rfl) (by decide) (by decide) dX7_setNames_125
              · have c_9d := decide_eq_false c_9
                refine J_iconst cx (v := nI 1) dX7_setNames_119 (by decide) ?_
                refine J_goto cx (tgt := 124) dX7_setNames_120 (by decide) ?_
                refine J_iadd cx dX7_setNames_124 ?_
                refine J_top (v' := .int (nI (0 + 1))) (congrArg Value.int (nI_add 0 1)) ?_
                exact J_iret cx rfl (u := ()) (by simp only [opSetNames, Bool.and_true, Bool.true_and, Bool.and_false, Bool.false_and, Bool.or_true, Bool.true_or, Bool.or_false, Bool.false_or, Bool.not_true, Bool.not_false, if_true, if_false, Bool.false_eq_true, decide_true, decide_false, ite_true, ite_false, ne_eq, not_true_eq_false, not_false_eq_true, xj, c_1, hjc, c_2, c_4, c_6, c_8d, c_9, c_9d]; try rfl) (by simp only [opSetNames, Bool.and_true, Bool.true_and, Bool.and_false, Bool.false_and, Bool.or_true, Bool.true_or, Bool.or_false, Bool.false_or, Bool.not_true, Bool.not_false, if_true, if_false, Bool.false_eq_true, decide_true, decide_false, ite_true, ite_false, ne_eq, not_true_eq_false, not_false_eq_true, xj, c_1, hjc, c_2, c_4, c_6, c_8d, c_9, c_9d]; try rfl) (by decide) (by decide) dX7_setNames_125
            · have c_8d := decide_eq_false c_8
              refine J_iconst cx (v := nI 1) dX7_setNames_110 (by decide) ?_
              refine J_goto cx (tgt := 115) dX7_setNames_111 (by decide) ?_
              refine J_iload_n cx dX7_setNames_115 rfl 4 rfl ?_
              refine J_if_eq cx (tgt := 123) dX7_setNames_116 (by decide) (fun c_10 => ?_) (fun c_10 => ?_)
              · have c_10d := decide_eq_true c_10
                refine J_iconst cx (v := nI 0) dX7_setNames_123 (by decide) ?_
                refine J_iadd cx dX7_setNames_124 ?_
                refine J_top (v' := .int (nI (1 + 0))) (congrArg Value.int (nI_add 1 0)) ?_
                exact J_iret cx rfl (u := ()) (by simp only [opSetNames, Bool.and_true, Bool.true_and, Bool.and_false, Bool.false_and, Bool.or_true, Bool.true_or, Bool.or_false, Bool.false_or, Bool.not_true, Bool.not_false, if_true, if_false, Bool.false_eq_true, decide_true, decide_false, ite_true, ite_false, ne_eq, not_true_eq_false, not_false_eq_true, xj, c_1, hjc, c_2, c_4, c_6, c_8, c_8d, c_10d]; try rfl) (by simp only [opSetNames, Bool.and_true, Bool.true_and, Bool.and_false, Bool.false_and, Bool.or_true, Bool.true_or, Bool.or_false, Bool.false_or, Bool.not_true, Bool.not_false, if_true, if_false, Bool.false_eq_true, decide_true, decide_false, ite_true, ite_false, ne_eq, not_true_eq_false, not_false_eq_true, xj, c_1, hjc, c_2, c_4, c_6, c_8, c_8d, c_10d]; try rfl) (by decide) (by decide) dX7_setNames_125
              · have c_10d := decide_eq_false c_10
                refine J_iconst cx (v := nI 1) dX7_setNames_119 (by decide) ?_
                refine J_goto cx (tgt := 124) dX7_setNames_120 (by decide) ?_
                refine J_iadd cx dX7_setNames_124 ?_
                refine J_top (v' := .int (nI (1 + 1))) (congrArg Value.int (nI_add 1 1)) ?_
                exact J_iret cx rfl (u := ()) (by simp only [opSetNames, Bool.and_true, Bool.true_and, Bool.and_false, Bool.false_and, Bool.or_true, Bool.true_or, Bool.or_false, Bool.false_or, Bool.not_true, Bool.not_false, if_true, if_false, Bool.false_eq_true, decide_true, decide_false, ite_true, ite_false, ne_eq, not_true_eq_false, not_false_eq_true, xj, c_1, hjc, c_2, c_4, c_6, c_8, c_8d, c_10, c_10d]; try rfl) (by simp only [opSetNames, Bool.and_true, Bool.true_and, Bool.and_false, Bool.false_and, Bool.or_true, Bool.true_or, Bool.or_false, Bool.false_or, Bool.not_true, Bool.not_false, if_true, if_false, Bool.false_eq_true, decide_true, decide_false, ite_true, ite_false, ne_eq, not_true_eq_false, not_false_eq_true, xj, c_1, hjc, c_2, c_4, c_6, c_8, c_8d, c_10, c_10d]; try rfl) (by decide) (by decide) dX7_setNames_125
          · refine J_iconst cx (v := nI 1) dX7_setNames_78 (by decide) ?_
            refine J_goto cx (tgt := 83) dX7_setNames_79 (by decide) ?_
            refine J_iconst cx (v := nI 3) dX7_setNames_83 (by decide) ?_
            refine J_callVi cx kX7_78 (As := [.int (nI 1), .int (nI 3)]) (tX7_isThrown l D g A ad κ (if false then (nI 2) else nI 0) ch cm rm row  true (nI 3) ) ⟨rfl, rfl, by decide, by decide⟩ ⟨by decide, by decide⟩ rfl 0 rfl rfl rfl (Nat.le_of_ble_eq_true rfl) dX7_setNames_84 ?_
            intro _ _ hr; cases hr
            refine J_ifz_eq cx (tgt := 92) dX7_setNames_87 (by decide) (fun h => absurd h (by decide)) (fun _ => ?_)
            refine J_iconst cx (v := nI 0) dX7_setNames_90 (by decide) ?_
            exact J_iret cx rfl (u := ()) (by simp only [opSetNames, Bool.and_true, Bool.true_and, Bool.and_false, Bool.false_and, Bool.or_true, Bool.true_or, Bool.or_false, Bool.false_or, Bool.not_true, Bool.not_false, if_true, if_false, Bool.false_eq_true, decide_true, decide_false, ite_true, ite_false, ne_eq, not_true_eq_false, not_false_eq_true, xj, c_1, hjc, c_2, c_4, c_6]; try rfl) (by simp only [opSetNames, Bool.and_true, Bool.true_and, Bool.and_false, Bool.false_and, Bool.or_true, Bool.true_or, Bool.or_false, Bool.false_or, Bool.not_true, Bool.not_false, if_true, if_false, Bool.false_eq_true, decide_true, decide_false, ite_true, ite_false, ne_eq, not_true_eq_false, not_false_eq_true, xj, c_1, hjc, c_2, c_4, c_6]; try rfl) (by decide) (by decide) dX7_setNames_91
      · refine J_iconst cx (v := nI 1) dX7_setNames_43 (by decide) ?_
        refine J_goto cx (tgt := 48) dX7_setNames_44 (by decide) ?_
        refine J_iconst cx (v := nI 2) dX7_setNames_48 (by decide) ?_
        refine J_callVi cx kX7_78 (As := [.int (nI 1), .int (nI 2)]) (tX7_isThrown l D g A ad κ (if inR (κ.2.2.1 0) (nI j) then nI 0 else nI 1) ch cm rm row  true (nI 2) ) ⟨rfl, rfl, by decide, by decide⟩ ⟨by decide, by decide⟩ rfl 0 rfl rfl rfl (Nat.le_of_ble_eq_true rfl) dX7_setNames_49 ?_
        intro _ _ hr; cases hr
        refine J_ifz_ne cx (tgt := 90) dX7_setNames_52 (by decide) (fun _ => ?_) (fun h => absurd h (by decide))
        refine J_iconst cx (v := nI 0) dX7_setNames_90 (by decide) ?_
        exact J_iret cx rfl (u := ()) (by simp only [opSetNames, Bool.and_true, Bool.true_and, Bool.and_false, Bool.false_and, Bool.or_true, Bool.true_or, Bool.or_false, Bool.false_or, Bool.not_true, Bool.not_false, if_true, if_false, Bool.false_eq_true, decide_true, decide_false, ite_true, ite_false, ne_eq, not_true_eq_false, not_false_eq_true, xj, c_1, hjc, c_2]; try rfl) (by simp only [opSetNames, Bool.and_true, Bool.true_and, Bool.and_false, Bool.false_and, Bool.or_true, Bool.true_or, Bool.or_false, Bool.false_or, Bool.not_true, Bool.not_false, if_true, if_false, Bool.false_eq_true, decide_true, decide_false, ite_true, ite_false, ne_eq, not_true_eq_false, not_false_eq_true, xj, c_1, hjc, c_2]; try rfl) (by decide) (by decide) dX7_setNames_91
  refine J_iload_n cx dX7_setNames_0 rfl 2 rfl ?_
  refine J_if_eq cx (tgt := 11) dX7_setNames_1 (by decide) (fun c_13 => ?_) (fun c_13 => ?_)
  · have c_13d := decide_eq_true c_13
    refine J_iload_n cx dX7_setNames_11 rfl 3 rfl ?_
    refine J_if_eq cx (tgt := 22) dX7_setNames_12 (by decide) (fun c_14 => ?_) (fun c_14 => ?_)
    · have c_14d := decide_eq_true c_14
      refine J_iconst cx (v := nI 1) dX7_setNames_22 (by decide) ?_
      refine J_goto cx (tgt := 27) dX7_setNames_23 (by decide) ?_
      refine J_top (v' := .int (zb (nm0 xp && nm0 xe))) (congrArg Value.int (by simp [nm0, zb, c_13d, c_14d])) ?_
      refine J_istore cx (L' := [(4, .int (zb (nm0 xp && nm0 xe))), (0, .ref (ad 0)), (1, .int xc), (2, .int xp), (3, .int xe)]) dX7_setNames_27 (by decide) rfl ?_
      refine J_L [0, 1, 2, 3, 4] rfl ?_
      exact JN  
    · have c_14d := decide_eq_false c_14
      refine J_iload_n cx dX7_setNames_15 rfl 3 rfl ?_
      refine J_callSi cx kX7_85 (As := [.int xe]) (tX7_isName l D g A ad κ th ch cm rm row  xe ) ⟨rfl, rfl, by decide, by decide⟩ ⟨by decide, by decide⟩ rfl rfl (Nat.le_of_ble_eq_true rfl) dX7_setNames_16 ?_
      intro _ _ hr; cases hr
      refine J_ifz_eq cx (tgt := 26) dX7_setNames_19 (by decide) (fun c_15 => ?_) (fun c_15 => ?_)
      · refine J_iconst cx (v := nI 0) dX7_setNames_26 (by decide) ?_
        refine J_top (v' := .int (zb (nm0 xp && nm0 xe))) (congrArg Value.int (by simp [nm0, zb, c_13d, c_14, c_14d, c_15])) ?_
        refine J_istore cx (L' := [(4, .int (zb (nm0 xp && nm0 xe))), (0, .ref (ad 0)), (1, .int xc), (2, .int xp), (3, .int xe)]) dX7_setNames_27 (by decide) rfl ?_
        refine J_L [0, 1, 2, 3, 4] rfl ?_
        exact JN  
      · refine J_iconst cx (v := nI 1) dX7_setNames_22 (by decide) ?_
        refine J_goto cx (tgt := 27) dX7_setNames_23 (by decide) ?_
        refine J_top (v' := .int (zb (nm0 xp && nm0 xe))) (congrArg Value.int (by simp [nm0, zb, c_13d, c_14, c_14d, c_15])) ?_
        refine J_istore cx (L' := [(4, .int (zb (nm0 xp && nm0 xe))), (0, .ref (ad 0)), (1, .int xc), (2, .int xp), (3, .int xe)]) dX7_setNames_27 (by decide) rfl ?_
        refine J_L [0, 1, 2, 3, 4] rfl ?_
        exact JN  
  · have c_13d := decide_eq_false c_13
    refine J_iload_n cx dX7_setNames_4 rfl 2 rfl ?_
    refine J_callSi cx kX7_85 (As := [.int xp]) (tX7_isName l D g A ad κ th ch cm rm row  xp ) ⟨rfl, rfl, by decide, by decide⟩ ⟨by decide, by decide⟩ rfl rfl (Nat.le_of_ble_eq_true rfl) dX7_setNames_5 ?_
    intro _ _ hr; cases hr
    refine J_ifz_eq cx (tgt := 26) dX7_setNames_8 (by decide) (fun c_16 => ?_) (fun c_16 => ?_)
    · refine J_iconst cx (v := nI 0) dX7_setNames_26 (by decide) ?_
      refine J_top (v' := .int (zb (nm0 xp && nm0 xe))) (congrArg Value.int (by simp [nm0, zb, c_13, c_13d, c_16])) ?_
      refine J_istore cx (L' := [(4, .int (zb (nm0 xp && nm0 xe))), (0, .ref (ad 0)), (1, .int xc), (2, .int xp), (3, .int xe)]) dX7_setNames_27 (by decide) rfl ?_
      refine J_L [0, 1, 2, 3, 4] rfl ?_
      exact JN  
    · refine J_iload_n cx dX7_setNames_11 rfl 3 rfl ?_
      refine J_if_eq cx (tgt := 22) dX7_setNames_12 (by decide) (fun c_17 => ?_) (fun c_17 => ?_)
      · have c_17d := decide_eq_true c_17
        refine J_iconst cx (v := nI 1) dX7_setNames_22 (by decide) ?_
        refine J_goto cx (tgt := 27) dX7_setNames_23 (by decide) ?_
        refine J_top (v' := .int (zb (nm0 xp && nm0 xe))) (congrArg Value.int (by simp [nm0, zb, c_13, c_13d, c_16, c_17d])) ?_
        refine J_istore cx (L' := [(4, .int (zb (nm0 xp && nm0 xe))), (0, .ref (ad 0)), (1, .int xc), (2, .int xp), (3, .int xe)]) dX7_setNames_27 (by decide) rfl ?_
        refine J_L [0, 1, 2, 3, 4] rfl ?_
        exact JN  
      · have c_17d := decide_eq_false c_17
        refine J_iload_n cx dX7_setNames_15 rfl 3 rfl ?_
        refine J_callSi cx kX7_85 (As := [.int xe]) (tX7_isName l D g A ad κ th ch cm rm row  xe ) ⟨rfl, rfl, by decide, by decide⟩ ⟨by decide, by decide⟩ rfl rfl (Nat.le_of_ble_eq_true rfl) dX7_setNames_16 ?_
        intro _ _ hr; cases hr
        refine J_ifz_eq cx (tgt := 26) dX7_setNames_19 (by decide) (fun c_18 => ?_) (fun c_18 => ?_)
        · refine J_iconst cx (v := nI 0) dX7_setNames_26 (by decide) ?_
          refine J_top (v' := .int (zb (nm0 xp && nm0 xe))) (congrArg Value.int (by simp [nm0, zb, c_13, c_13d, c_16, c_17, c_17d, c_18])) ?_
          refine J_istore cx (L' := [(4, .int (zb (nm0 xp && nm0 xe))), (0, .ref (ad 0)), (1, .int xc), (2, .int xp), (3, .int xe)]) dX7_setNames_27 (by decide) rfl ?_
          refine J_L [0, 1, 2, 3, 4] rfl ?_
          exact JN  
        · refine J_iconst cx (v := nI 1) dX7_setNames_22 (by decide) ?_
          refine J_goto cx (tgt := 27) dX7_setNames_23 (by decide) ?_
          refine J_top (v' := .int (zb (nm0 xp && nm0 xe))) (congrArg Value.int (by simp [nm0, zb, c_13, c_13d, c_16, c_17, c_17d, c_18])) ?_
          refine J_istore cx (L' := [(4, .int (zb (nm0 xp && nm0 xe))), (0, .ref (ad 0)), (1, .int xc), (2, .int xp), (3, .int xe)]) dX7_setNames_27 (by decide) rfl ?_
          refine J_L [0, 1, 2, 3, 4] rfl ?_
          exact JN  
set_option maxHeartbeats 4000000 in
set_option maxRecDepth 100000 in
theorem tX7_trust (l : Launch) (D : va_G) (g : Nat → ClassId) (A : Nat → Prop) (ad : Nat → Nat) (κ : CS) (th : Int32) (ch : Nat → Nat) (cm rm : Nat) (row : Nat → Int64)  (xc : Int32) (b : Bool) (hn : κ.2.2.1 0 ≤ 40) : CtI l D g A yX7_trust cX7_trust 5 .int ({ frames := 3, cells := 0, slots := 0, locals := 64 } : Room) [.ref (ad 0), .int xc, .int (zb b)] (mW ad g κ th ch cm rm row) ((opTrust κ xc b).2.1) (mW ad g ((opTrust κ xc b).2.2) (nI (opTrust κ xc b).1) ch cm rm row) := by
  refine metJ (by decide) (Nat.le_of_ble_eq_true rfl) ?_
  intro p e s m args below meth c _ _ cx
  refine J_aload_n cx dX7_trust_0 rfl 0 rfl ?_
  refine J_iload_n cx dX7_trust_1 rfl 1 rfl ?_
  refine J_callVi cx kX7_99 (As := [.int xc]) (tX7_isNone l D g A ad κ th ch cm rm row  xc (by first | assumption | omega)) ⟨rfl, rfl, by decide, by decide⟩ ⟨by decide, by decide⟩ rfl 0 rfl rfl rfl (Nat.le_of_ble_eq_true rfl) dX7_trust_2 ?_
  intro _ _ hr; cases hr
  refine J_ifz_ne cx (tgt := 30) dX7_trust_5 (by decide) (fun c_1 => ?_) (fun c_1 => ?_)
  · have c_1 := bn_t c_1
    refine J_iconst cx (v := nI 0) dX7_trust_30 (by decide) ?_
    exact J_iret cx rfl (u := ()) (by simp only [opTrust, Bool.and_true, Bool.true_and, Bool.and_false, Bool.false_and, Bool.or_true, Bool.true_or, Bool.or_false, Bool.false_or, Bool.not_true, Bool.not_false, if_true, if_false, Bool.false_eq_true, decide_true, decide_false, ite_true, ite_false, ne_eq, not_true_eq_false, not_false_eq_true, xj, c_1]; try rfl) (by simp only [opTrust, Bool.and_true, Bool.true_and, Bool.and_false, Bool.false_and, Bool.or_true, Bool.true_or, Bool.or_false, Bool.false_or, Bool.not_true, Bool.not_false, if_true, if_false, Bool.false_eq_true, decide_true, decide_false, ite_true, ite_false, ne_eq, not_true_eq_false, not_false_eq_true, xj, c_1]; try rfl) (by decide) (by decide) dX7_trust_31
  · have c_1 := bn_f c_1
    obtain ⟨j, hj, hxj⟩ := inR_spec c_1 (by omega)
    subst hxj
    have hjc : (nI j).toNatClampNeg = j := nI_clamp (by omega)
    refine J_aload_n cx dX7_trust_8 rfl 0 rfl ?_
    refine J_aload_n cx dX7_trust_9 rfl 0 rfl ?_
    refine J_get cx (v := .ref (ad 12)) fX7_44 0 rfl rfl dX7_trust_10 ?_
    refine J_iload_n cx dX7_trust_13 rfl 1 rfl ?_
    refine J_zald cx (j := j) (f := fun i => zb (κ.2.1 1 i)) 12 rfl rfl (by omega) (by decide) dX7_trust_14 ?_
    refine J_ifz_ne cx (tgt := 22) dX7_trust_15 (by decide) (fun c_2 => ?_) (fun c_2 => ?_)
    · refine J_iconst cx (v := nI 0) dX7_trust_22 (by decide) ?_
      refine J_iconst cx (v := nI 2) dX7_trust_23 (by decide) ?_
      refine J_callVi cx kX7_78 (As := [.int (nI 0), .int (nI 2)]) (tX7_isThrown l D g A ad κ (if inR (κ.2.2.1 0) (nI j) then nI 0 else nI 1) ch cm rm row  false (nI 2) ) ⟨rfl, rfl, by decide, by decide⟩ ⟨by decide, by decide⟩ rfl 0 rfl rfl rfl (Nat.le_of_ble_eq_true rfl) dX7_trust_24 ?_
      intro _ _ hr; cases hr
      refine J_ifz_eq cx (tgt := 32) dX7_trust_27 (by decide) (fun _ => ?_) (fun h => absurd h (by decide))
      refine J_aload_n cx dX7_trust_32 rfl 0 rfl ?_
      refine J_get cx (v := .ref (ad 13)) fX7_47 0 rfl rfl dX7_trust_33 ?_
      refine J_iload_n cx dX7_trust_36 rfl 1 rfl ?_
      refine J_iload_n cx dX7_trust_37 rfl 2 rfl ?_
      refine J_zast cx (ws' := (mW ad g (κ.1, upB κ.2.1 2 j b, κ.2.2.1, κ.2.2.2.1, κ.2.2.2.2) (if false then (nI 2) else nI 0) ch cm rm row)) (j := j) 13 rfl  rfl (by omega) (by decide) (by rw [show vp_nar .boolean (zb b) = zb b from zb_vnar b, upb_zb]; rfl) dX7_trust_38 ?_
      refine J_iconst cx (v := nI 0) dX7_trust_39 (by decide) ?_
      refine J_istore_n cx (L' := [(3, .int (nI 0)), (0, .ref (ad 0)), (1, .int (nI j)), (2, .int (zb b))]) dX7_trust_40 rfl (by decide) rfl ?_
      refine J_iconst cx (v := nI 0) dX7_trust_41 (by decide) ?_
      refine J_istore cx (L' := [(4, .int (nI 0)), (3, .int (nI 0)), (0, .ref (ad 0)), (1, .int (nI j)), (2, .int (zb b))]) dX7_trust_42 (by decide) rfl ?_
      have LP : ∀ (fu : Nat) (k : Nat), (k ≤ κ.2.2.1 0) → κ.2.2.1 0 - k < fu → J p l e ({ frames := 3, cells := 0, slots := 0, locals := 64 } : Room) s m args below meth c D A 5 (MQ below (va_Qi (fun (r : Int32) (_ : Unit) => r = ((opTrust κ (nI j) b).2.1)) (fun _ => PO D A (mW ad g ((opTrust κ (nI j) b).2.2) (nI (opTrust κ (nI j) b).1) ch cm rm row)) A) args s 0 0 A) 0 0 (mW ad g (κ.1, upB κ.2.1 2 j b, κ.2.2.1, κ.2.2.2.1, κ.2.2.2.2) (if false then (nI 2) else nI 0) ch cm rm row) [(3, .int (nI (cnt (upB κ.2.1 2 j b 2) k))), (4, .int (nI k)), (0, .ref (ad 0)), (1, .int (nI j)), (2, .int (zb b))] 44 [] := by
        intro fu; induction fu with
        | zero => intro k hk hfu; exact absurd hfu (Nat.not_lt_zero _)
        | succ fu ih =>
          intro k hk hfu
          refine J_iload cx dX7_trust_44 1 rfl ?_
          refine J_aload_n cx dX7_trust_46 rfl 2 rfl ?_
          refine J_get cx (v := .int (nI (κ.2.2.1 0))) fX7_71 0 rfl rfl dX7_trust_47 ?_
          refine J_icmp_ge cx (tgt := 77) dX7_trust_50 (by decide) (fun c_4 => ?_) (fun c_4 => ?_)
          · have c_4 := (nat_ic_ge (by omega) (by omega)).mp c_4
            have c_4d := decide_eq_true c_4
            refine J_iload_n cx dX7_trust_77 rfl 0 rfl ?_
            exact J_iret cx rfl (u := ()) (by rw [show k = κ.2.2.1 0 from by omega]; simp only [opTrust, Bool.and_true, Bool.true_and, Bool.and_false, Bool.false_and, Bool.or_true, Bool.true_or, Bool.or_false, Bool.false_or, Bool.not_true, Bool.not_false, if_true, if_false, Bool.false_eq_true, decide_true, decide_false, ite_true, ite_false, ne_eq, not_true_eq_false, not_false_eq_true, xj, c_1, hjc, c_2, hk, c_4, c_4d]; try rfl) (by simp only [opTrust, Bool.and_true, Bool.true_and, Bool.and_false, Bool.false_and, Bool.or_true, Bool.true_or, Bool.or_false, Bool.false_or, Bool.not_true, Bool.not_false, if_true, if_false, Bool.false_eq_true, decide_true, decide_false, ite_true, ite_false, ne_eq, not_true_eq_false, not_false_eq_true, xj, c_1, hjc, c_2, hk, c_4, c_4d]; try rfl) (by decide) (by decide) dX7_trust_78
          · have c_4 := (nat_ic_ge_f (by omega) (by omega)).mp c_4
            have c_4d := decide_eq_false (Nat.not_le.mpr c_4)
            refine J_iload_n cx dX7_trust_53 rfl 0 rfl ?_
            refine J_aload_n cx dX7_trust_54 rfl 2 rfl ?_
            refine J_get cx (v := .ref (ad 13)) fX7_47 0 rfl rfl dX7_trust_55 ?_
            refine J_iload cx dX7_trust_58 1 rfl ?_
            refine J_zald cx (j := k) (f := fun i => zb ((upB κ.2.1 2 j b) 2 i)) 13 rfl rfl (by omega) (by decide) dX7_trust_60 ?_
            refine J_ifz_eq cx (tgt := 68) dX7_trust_61 (by decide) (fun c_5 => ?_) (fun c_5 => ?_)
            · refine J_iconst cx (v := nI 0) dX7_trust_68 (by decide) ?_
              refine J_iadd cx dX7_trust_69 ?_
              refine J_top (v' := .int (nI ((cnt (upB κ.2.1 2 j b 2) k) + 0))) (congrArg Value.int (nI_add (cnt (upB κ.2.1 2 j b 2) k) 0)) ?_
              refine J_top (v' := .int (nI (cnt (upB κ.2.1 2 j b 2) (k + 1)))) (congrArg (fun z => Value.int (nI z)) (cnt_f (by simp [true_and, c_1, hjc, c_2, hk, c_4, c_4d, c_5]))) ?_
              refine J_istore_n cx (L' := [(3, .int (nI (cnt (upB κ.2.1 2 j b 2) (k + 1)))), (4, .int (nI k)), (0, .ref (ad 0)), (1, .int (nI j)), (2, .int (zb b))]) dX7_trust_70 rfl (by decide) rfl ?_
              refine J_iinc cx (v := (nI (k + 1))) (L' := [(4, .int (nI (k + 1))), (3, .int (nI (cnt (upB κ.2.1 2 j b 2) (k + 1)))), (0, .ref (ad 0)), (1, .int (nI j)), (2, .int (zb b))]) dX7_trust_71 1 rfl (by exact nI_add k 1) (by decide) rfl ?_
              refine J_goto cx (tgt := 44) dX7_trust_74 (by decide) ?_
              refine J_L [1, 0, 2, 3, 4] rfl ?_
              exact ih (k + 1) (by omega) (by omega)
            · refine J_iconst cx (v := nI 1) dX7_trust_64 (by decide) ?_
              refine J_goto cx (tgt := 69) dX7_trust_65 (by decide) ?_
              refine J_iadd cx dX7_trust_69 ?_
              refine J_top (v' := .int (nI ((cnt (upB κ.2.1 2 j b 2) k) + 1))) (congrArg Value.int (nI_add (cnt (upB κ.2.1 2 j b 2) k) 1)) ?_
              refine J_top (v' := .int (nI (cnt (upB κ.2.1 2 j b 2) (k + 1)))) (congrArg (fun z => Value.int (nI z)) (cnt_t (by simp [true_and, c_1, hjc, c_2, hk, c_4, c_4d, c_5]))) ?_
              refine J_istore_n cx (L' := [(3, .int (nI (cnt (upB κ.2.1 2 j b 2) (k + 1)))), (4, .int (nI k)), (0, .ref (ad 0)), (1, .int (nI j)), (2, .int (zb b))]) dX7_trust_70 rfl (by decide) rfl ?_
              refine J_iinc cx (v := (nI (k + 1))) (L' := [(4, .int (nI (k + 1))), (3, .int (nI (cnt (upB κ.2.1 2 j b 2) (k + 1)))), (0, .ref (ad 0)), (1, .int (nI j)), (2, .int (zb b))]) dX7_trust_71 1 rfl (by exact nI_add k 1) (by decide) rfl ?_
              refine J_goto cx (tgt := 44) dX7_trust_74 (by decide) ?_
              refine J_L [1, 0, 2, 3, 4] rfl ?_
              exact ih (k + 1) (by omega) (by omega)
      refine J_L [1, 0, 2, 3, 4] rfl ?_
      exact LP _ 0 (by omega) (Nat.lt_succ_self _)
    · refine J_iconst cx (v := nI 1) dX7_trust_18 (by decide) ?_
      refine J_goto cx (tgt := 23) dX7_trust_19 (by decide) ?_
      refine J_iconst cx (v := nI 2) dX7_trust_23 (by decide) ?_
      refine J_callVi cx kX7_78 (As := [.int (nI 1), .int (nI 2)]) (tX7_isThrown l D g A ad κ (if inR (κ.2.2.1 0) (nI j) then nI 0 else nI 1) ch cm rm row  true (nI 2) ) ⟨rfl, rfl, by decide, by decide⟩ ⟨by decide, by decide⟩ rfl 0 rfl rfl rfl (Nat.le_of_ble_eq_true rfl) dX7_trust_24 ?_
      intro _ _ hr; cases hr
      refine J_ifz_eq cx (tgt := 32) dX7_trust_27 (by decide) (fun h => absurd h (by decide)) (fun _ => ?_)
      refine J_iconst cx (v := nI 0) dX7_trust_30 (by decide) ?_
      exact J_iret cx rfl (u := ()) (by simp only [opTrust, Bool.and_true, Bool.true_and, Bool.and_false, Bool.false_and, Bool.or_true, Bool.true_or, Bool.or_false, Bool.false_or, Bool.not_true, Bool.not_false, if_true, if_false, Bool.false_eq_true, decide_true, decide_false, ite_true, ite_false, ne_eq, not_true_eq_false, not_false_eq_true, xj, c_1, hjc, c_2]; try rfl) (by simp only [opTrust, Bool.and_true, Bool.true_and, Bool.and_false, Bool.false_and, Bool.or_true, Bool.true_or, Bool.or_false, Bool.false_or, Bool.not_true, Bool.not_false, if_true, if_false, Bool.false_eq_true, decide_true, decide_false, ite_true, ite_false, ne_eq, not_true_eq_false, not_false_eq_true, xj, c_1, hjc, c_2]; try rfl) (by decide) (by decide) dX7_trust_31
end
section
set_option maxHeartbeats 4000000 in
set_option maxRecDepth 100000 in
theorem tX7_revoke (l : Launch) (D : va_G) (g : Nat → ClassId) (A : Nat → Prop) (ad : Nat → Nat) (κ : CS) (th : Int32) (ch : Nat → Nat) (cm rm : Nat) (row : Nat → Int64)  (xc : Int32) (hn : κ.2.2.1 0 ≤ 40) : CtI l D g A yX7_revoke cX7_revoke 4 .int ({ frames := 3, cells := 0, slots := 0, locals := 64 } : Room) [.ref (ad 0), .int xc] (mW ad g κ th ch cm rm row) ((opRevoke κ xc).2.1) (mW ad g ((opRevoke κ xc).2.2) (nI (opRevoke κ xc).1) ch cm rm row) := by
  refine metJ (by decide) (Nat.le_of_ble_eq_true rfl) ?_
  intro p e s m args below meth c _ _ cx
  refine J_aload_n cx dX7_revoke_0 rfl 0 rfl ?_
  refine J_iload_n cx dX7_revoke_1 rfl 1 rfl ?_
  refine J_callVi cx kX7_99 (As := [.int xc]) (tX7_isNone l D g A ad κ th ch cm rm row  xc (by first | assumption | omega)) ⟨rfl, rfl, by decide, by decide⟩ ⟨by decide, by decide⟩ rfl 0 rfl rfl rfl (Nat.le_of_ble_eq_true rfl) dX7_revoke_2 ?_
  intro _ _ hr; cases hr
  refine J_ifz_ne cx (tgt := 39) dX7_revoke_5 (by decide) (fun c_1 => ?_) (fun c_1 => ?_)
  · have c_1 := bn_t c_1
    refine J_iconst cx (v := nI 0) dX7_revoke_39 (by decide) ?_
    exact J_iret cx rfl (u := ()) (by simp only [opRevoke, Bool.and_true, Bool.true_and, Bool.and_false, Bool.false_and, Bool.or_true, Bool.true_or, Bool.or_false, Bool.false_or, Bool.not_true, Bool.not_false, if_true, if_false, Bool.false_eq_true, decide_true, decide_false, ite_true, ite_false, ne_eq, not_true_eq_false, not_false_eq_true, xj, c_1]; try rfl) (by simp only [opRevoke, Bool.and_true, Bool.true_and, Bool.and_false, Bool.false_and, Bool.or_true, Bool.true_or, Bool.or_false, Bool.false_or, Bool.not_true, Bool.not_false, if_true, if_false, Bool.false_eq_true, decide_true, decide_false, ite_true, ite_false, ne_eq, not_true_eq_false, not_false_eq_true, xj, c_1]; try rfl) (by decide) (by decide) dX7_revoke_40
  · have c_1 := bn_f c_1
    obtain ⟨j, hj, hxj⟩ := inR_spec c_1 (by omega)
    subst hxj
    have hjc : (nI j).toNatClampNeg = j := nI_clamp (by omega)
    refine J_aload_n cx dX7_revoke_8 rfl 0 rfl ?_
    refine J_aload_n cx dX7_revoke_9 rfl 0 rfl ?_
    refine J_get cx (v := .ref (ad 12)) fX7_44 0 rfl rfl dX7_revoke_10 ?_
    refine J_iload_n cx dX7_revoke_13 rfl 1 rfl ?_
    refine J_zald cx (j := j) (f := fun i => zb (κ.2.1 1 i)) 12 rfl rfl (by omega) (by decide) dX7_revoke_14 ?_
    refine J_ifz_ne cx (tgt := 27) dX7_revoke_15 (by decide) (fun c_2 => ?_) (fun c_2 => ?_)
    · refine J_iconst cx (v := nI 1) dX7_revoke_27 (by decide) ?_
      refine J_goto cx (tgt := 32) dX7_revoke_28 (by decide) ?_
      refine J_iconst cx (v := nI 2) dX7_revoke_32 (by decide) ?_
      refine J_callVi cx kX7_78 (As := [.int (nI 1), .int (nI 2)]) (tX7_isThrown l D g A ad κ (if inR (κ.2.2.1 0) (nI j) then nI 0 else nI 1) ch cm rm row  true (nI 2) ) ⟨rfl, rfl, by decide, by decide⟩ ⟨by decide, by decide⟩ rfl 0 rfl rfl rfl (Nat.le_of_ble_eq_true rfl) dX7_revoke_33 ?_
      intro _ _ hr; cases hr
      refine J_ifz_eq cx (tgt := 41) dX7_revoke_36 (by decide) (fun h => absurd h (by decide)) (fun _ => ?_)
      refine J_iconst cx (v := nI 0) dX7_revoke_39 (by decide) ?_
      exact J_iret cx rfl (u := ()) (by simp only [opRevoke, Bool.and_true, Bool.true_and, Bool.and_false, Bool.false_and, Bool.or_true, Bool.true_or, Bool.or_false, Bool.false_or, Bool.not_true, Bool.not_false, if_true, if_false, Bool.false_eq_true, decide_true, decide_false, ite_true, ite_false, ne_eq, not_true_eq_false, not_false_eq_true, xj, c_1, hjc, c_2]; try rfl) (by simp only [opRevoke, Bool.and_true, Bool.true_and, Bool.and_false, Bool.false_and, Bool.or_true, Bool.true_or, Bool.or_false, Bool.false_or, Bool.not_true, Bool.not_false, if_true, if_false, Bool.false_eq_true, decide_true, decide_false, ite_true, ite_false, ne_eq, not_true_eq_false, not_false_eq_true, xj, c_1, hjc, c_2]; try rfl) (by decide) (by decide) dX7_revoke_40
    · refine J_aload_n cx dX7_revoke_18 rfl 0 rfl ?_
      refine J_get cx (v := .ref (ad 14)) fX7_50 0 rfl rfl dX7_revoke_19 ?_
      refine J_iload_n cx dX7_revoke_22 rfl 1 rfl ?_
      refine J_zald cx (j := j) (f := fun i => zb (κ.2.1 3 i)) 14 rfl rfl (by omega) (by decide) dX7_revoke_23 ?_
      refine J_ifz_eq cx (tgt := 31) dX7_revoke_24 (by decide) (fun c_4 => ?_) (fun c_4 => ?_)
      · refine J_iconst cx (v := nI 0) dX7_revoke_31 (by decide) ?_
        refine J_iconst cx (v := nI 2) dX7_revoke_32 (by decide) ?_
        refine J_callVi cx kX7_78 (As := [.int (nI 0), .int (nI 2)]) (tX7_isThrown l D g A ad κ (if inR (κ.2.2.1 0) (nI j) then nI 0 else nI 1) ch cm rm row  false (nI 2) ) ⟨rfl, rfl, by decide, by decide⟩ ⟨by decide, by decide⟩ rfl 0 rfl rfl rfl (Nat.le_of_ble_eq_true rfl) dX7_revoke_33 ?_
        intro _ _ hr; cases hr
        refine J_ifz_eq cx (tgt := 41) dX7_revoke_36 (by decide) (fun _ => ?_) (fun h => absurd h (by decide))
        refine J_aload_n cx dX7_revoke_41 rfl 0 rfl ?_
        refine J_get cx (v := .ref (ad 14)) fX7_50 0 rfl rfl dX7_revoke_42 ?_
        refine J_iload_n cx dX7_revoke_45 rfl 1 rfl ?_
        refine J_iconst cx (v := nI 1) dX7_revoke_46 (by decide) ?_
        refine J_zast cx (ws' := (mW ad g (κ.1, upB κ.2.1 3 j true, κ.2.2.1, κ.2.2.2.1, κ.2.2.2.2) (if false then (nI 2) else nI 0) ch cm rm row)) (j := j) 14 rfl  rfl (by omega) (by decide) (by rw [show vp_nar .boolean (nI 1) = zb true from zb_vnar true, upb_zb]; rfl) dX7_revoke_47 ?_
        refine J_iconst cx (v := nI 0) dX7_revoke_48 (by decide) ?_
        refine J_istore_n cx (L' := [(2, .int (nI 0)), (0, .ref (ad 0)), (1, .int (nI j))]) dX7_revoke_49 rfl (by decide) rfl ?_
        refine J_iconst cx (v := nI 0) dX7_revoke_50 (by decide) ?_
        refine J_istore_n cx (L' := [(3, .int (nI 0)), (2, .int (nI 0)), (0, .ref (ad 0)), (1, .int (nI j))]) dX7_revoke_51 rfl (by decide) rfl ?_
        have LP : ∀ (fu : Nat) (k : Nat), (k ≤ κ.2.2.1 0) → κ.2.2.1 0 - k < fu → J p l e ({ frames := 3, cells := 0, slots := 0, locals := 64 } : Room) s m args below meth c D A 4 (MQ below (va_Qi (fun (r : Int32) (_ : Unit) => r = ((opRevoke κ (nI j)).2.1)) (fun _ => PO D A (mW ad g ((opRevoke κ (nI j)).2.2) (nI (opRevoke κ (nI j)).1) ch cm rm row)) A) args s 0 0 A) 0 0 (mW ad g (κ.1, upB κ.2.1 3 j true, κ.2.2.1, κ.2.2.2.1, κ.2.2.2.2) (if false then (nI 2) else nI 0) ch cm rm row) [(2, .int (nI (cnt (pendF (κ.1 5) (κ.1 9) (upB κ.2.1 3 j true 3) (κ.1 5 j)) k))), (3, .int (nI k)), (0, .ref (ad 0)), (1, .int (nI j))] 52 [] := by
          intro fu; induction fu with
          | zero => intro k hk hfu; exact absurd hfu (Nat.not_lt_zero _)
          | succ fu ih =>
            intro k hk hfu
            refine J_iload_n cx dX7_revoke_52 rfl 1 rfl ?_
            refine J_aload_n cx dX7_revoke_53 rfl 2 rfl ?_
            refine J_get cx (v := .int (nI (κ.2.2.1 0))) fX7_71 0 rfl rfl dX7_revoke_54 ?_
            refine J_icmp_ge cx (tgt := 107) dX7_revoke_57 (by decide) (fun c_6 => ?_) (fun c_6 => ?_)
            · have c_6 := (nat_ic_ge (by omega) (by omega)).mp c_6
              have c_6d := decide_eq_true c_6
              refine J_iload_n cx dX7_revoke_107 rfl 0 rfl ?_
              exact J_iret cx rfl (u := ()) (by rw [show k = κ.2.2.1 0 from by omega]; simp only [opRevoke, Bool.and_true, Bool.true_and, Bool.and_false, Bool.false_and, Bool.or_true, Bool.true_or, Bool.or_false, Bool.false_or, Bool.not_true, Bool.not_false, if_true, if_false, Bool.false_eq_true, decide_true, decide_false, ite_true, ite_false, ne_eq, not_true_eq_false, not_false_eq_true, xj, c_1, hjc, c_2, c_4, hk, c_6, c_6d]; try rfl) (by simp only [opRevoke, Bool.and_true, Bool.true_and, Bool.and_false, Bool.false_and, Bool.or_true, Bool.true_or, Bool.or_false, Bool.false_or, Bool.not_true, Bool.not_false, if_true, if_false, Bool.false_eq_true, decide_true, decide_false, ite_true, ite_false, ne_eq, not_true_eq_false, not_false_eq_true, xj, c_1, hjc, c_2, c_4, hk, c_6, c_6d]; try rfl) (by decide) (by decide) dX7_revoke_108
            · have c_6 := (nat_ic_ge_f (by omega) (by omega)).mp c_6
              have c_6d := decide_eq_false (Nat.not_le.mpr c_6)
              refine J_iload_n cx dX7_revoke_60 rfl 0 rfl ?_
              refine J_aload_n cx dX7_revoke_61 rfl 2 rfl ?_
              refine J_get cx (v := .ref (ad 6)) fX7_25 0 rfl rfl dX7_revoke_62 ?_
              refine J_iload_n cx dX7_revoke_65 rfl 1 rfl ?_
              refine J_iald cx (j := k) (f := κ.1 5) 6 rfl rfl (by omega) (by decide) dX7_revoke_66 ?_
              refine J_aload_n cx dX7_revoke_67 rfl 2 rfl ?_
              refine J_get cx (v := .ref (ad 6)) fX7_25 0 rfl rfl dX7_revoke_68 ?_
              refine J_iload_n cx dX7_revoke_71 rfl 3 rfl ?_
              refine J_iald cx (j := j) (f := κ.1 5) 6 rfl rfl (by omega) (by decide) dX7_revoke_72 ?_
              refine J_icmp_ne cx (tgt := 98) dX7_revoke_73 (by decide) (fun c_7 => ?_) (fun c_7 => ?_)
              · have c_7d := decide_eq_false c_7
                refine J_iconst cx (v := nI 0) dX7_revoke_98 (by decide) ?_
                refine J_iadd cx dX7_revoke_99 ?_
                refine J_top (v' := .int (nI ((cnt (pendF (κ.1 5) (κ.1 9) (upB κ.2.1 3 j true 3) (κ.1 5 j)) k) + 0))) (congrArg Value.int (nI_add (cnt (pendF (κ.1 5) (κ.1 9) (upB κ.2.1 3 j true 3) (κ.1 5 j)) k) 0)) ?_
                refine J_top (v' := .int (nI (cnt (pendF (κ.1 5) (κ.1 9) (upB κ.2.1 3 j true 3) (κ.1 5 j)) (k + 1)))) (congrArg (fun z => Value.int (nI z)) (cnt_f (by simp [pendF, c_1, hjc, c_2, c_4, hk, c_6, c_6d, c_7, c_7d]))) ?_
                refine J_istore_n cx (L' := [(2, .int (nI (cnt (pendF (κ.1 5) (κ.1 9) (upB κ.2.1 3 j true 3) (κ.1 5 j)) (k + 1)))), (3, .int (nI k)), (0, .ref (ad 0)), (1, .int (nI j))]) dX7_revoke_100 rfl (by decide) rfl ?_
                refine J_iinc cx (v := (nI (k + 1))) (L' := [(3, .int (nI (k + 1))), (2, .int (nI (cnt (pendF (κ.1 5) (κ.1 9) (upB κ.2.1 3 j true 3) (κ.1 5 j)) (k + 1)))), (0, .ref (ad 0)), (1, .int (nI j))]) dX7_revoke_101 1 rfl (by exact nI_add k 1) (by decide) rfl ?_
                refine J_goto cx (tgt := 52) dX7_revoke_104 (by decide) ?_
                refine J_L [1, 0, 2, 3] rfl ?_
                exact ih (k + 1) (by omega) (by omega)
              · have c_7d := decide_eq_true c_7
                refine J_aload_n cx dX7_revoke_76 rfl 2 rfl ?_
                refine J_get cx (v := .ref (ad 14)) fX7_50 0 rfl rfl dX7_revoke_77 ?_
                refine J_iload_n cx dX7_revoke_80 rfl 1 rfl ?_
                refine J_zald cx (j := k) (f := fun i => zb ((upB κ.2.1 3 j true) 3 i)) 14 rfl rfl (by omega) (by decide) dX7_revoke_81 ?_
                refine J_ifz_eq cx (tgt := 98) dX7_revoke_82 (by decide) (fun c_8 => ?_) (fun c_8 => ?_)
                · refine J_iconst cx (v := nI 0) dX7_revoke_98 (by decide) ?_
                  refine J_iadd cx dX7_revoke_99 ?_
                  refine J_top (v' := .int (nI ((cnt (pendF (κ.1 5) (κ.1 9) (upB κ.2.1 3 j true 3) (κ.1 5 j)) k) + 0))) (congrArg Value.int (nI_add (cnt (pendF (κ.1 5) (κ.1 9) (upB κ.2.1 3 j true 3) (κ.1 5 j)) k) 0)) ?_
                  refine J_top (v' := .int (nI (cnt (pendF (κ.1 5) (κ.1 9) (upB κ.2.1 3 j true 3) (κ.1 5 j)) (k + 1)))) (congrArg (fun z => Value.int (nI z)) (cnt_f (by simp [pendF, c_1, hjc, c_2, c_4, hk, c_6, c_6d, c_7d, c_8]))) ?_
                  refine J_istore_n cx (L' := [(2, .int (nI (cnt (pendF (κ.1 5) (κ.1 9) (upB κ.2.1 3 j true 3) (κ.1 5 j)) (k + 1)))), (3, .int (nI k)), (0, .ref (ad 0)), (1, .int (nI j))]) dX7_revoke_100 rfl (by decide) rfl ?_
                  refine J_iinc cx (v := (nI (k + 1))) (L' := [(3, .int (nI (k + 1))), (2, .int (nI (cnt (pendF (κ.1 5) (κ.1 9) (upB κ.2.1 3 j true 3) (κ.1 5 j)) (k + 1)))), (0, .ref (ad 0)), (1, .int (nI j))]) dX7_revoke_101 1 rfl (by exact nI_add k 1) (by decide) rfl ?_
                  refine J_goto cx (tgt := 52) dX7_revoke_104 (by decide) ?_
                  refine J_L [1, 0, 2, 3] rfl ?_
                  exact ih (k + 1) (by omega) (by omega)
                · refine J_aload_n cx dX7_revoke_85 rfl 2 rfl ?_
                  refine J_get cx (v := .ref (ad 10)) fX7_37 0 rfl rfl dX7_revoke_86 ?_
                  refine J_iload_n cx dX7_revoke_89 rfl 1 rfl ?_
                  refine J_iald cx (j := k) (f := κ.1 9) 10 rfl rfl (by omega) (by decide) dX7_revoke_90 ?_
                  refine J_if_ge cx (tgt := 98) dX7_revoke_91 (by decide) (fun c_9 => ?_) (fun c_9 => ?_)
                  · have c_9d := decide_eq_true c_9
                    have c_9c := decide_eq_false (Int32.not_lt.mpr c_9)
                    refine J_iconst cx (v := nI 0) dX7_revoke_98 (by decide) ?_
                    refine J_iadd cx dX7_revoke_99 ?_
                    refine J_top (v' := .int (nI ((cnt (pendF (κ.1 5) (κ.1 9) (upB κ.2.1 3 j true 3) (κ.1 5 j)) k) + 0))) (congrArg Value.int (nI_add (cnt (pendF (κ.1 5) (κ.1 9) (upB κ.2.1 3 j true 3) (κ.1 5 j)) k) 0)) ?_
                    refine J_top (v' := .int (nI (cnt (pendF (κ.1 5) (κ.1 9) (upB κ.2.1 3 j true 3) (κ.1 5 j)) (k + 1)))) (congrArg (fun z => Value.int (nI z)) (cnt_f (by simp [pendF, c_1, hjc, c_2, c_4, hk, c_6, c_6d, c_7d, c_8, c_9, c_9d, c_9c]))) ?_
                    refine J_istore_n cx (L' := [(2, .int (nI (cnt (pendF (κ.1 5) (κ.1 9) (upB κ.2.1 3 j true 3) (κ.1 5 j)) (k + 1)))), (3, .int (nI k)), (0, .ref (ad 0)), (1, .int (nI j))]) dX7_revoke_100 rfl (by decide) rfl ?_
                    refine J_iinc cx (v := (nI (k + 1))) (L' := [(3, .int (nI (k + 1))), (2, .int (nI (cnt (pendF (κ.1 5) (κ.1 9) (upB κ.2.1 3 j true 3) (κ.1 5 j)) (k + 1)))), (0, .ref (ad 0)), (1, .int (nI j))]) dX7_revoke_101 1 rfl (by exact nI_add k 1) (by decide) rfl ?_
                    refine J_goto cx (tgt := 52) dX7_revoke_104 (by decide) ?_
                    refine J_L [1, 0, 2, 3] rfl ?_
                    exact ih (k + 1) (by omega) (by omega)
                  · have c_9d := decide_eq_false c_9
                    have c_9c := decide_eq_true (Int32.not_le.mp c_9)
                    refine J_iconst cx (v := nI 1) dX7_revoke_94 (by decide) ?_
                    refine J_goto cx (tgt := 99) dX7_revoke_95 (by decide) ?_
                    refine J_iadd cx dX7_revoke_99 ?_
                    refine J_top (v' := .int (nI ((cnt (pendF (κ.1 5) (κ.1 9) (upB κ.2.1 3 j true 3) (κ.1 5 j)) k) + 1))) (congrArg Value.int (nI_add (cnt (pendF (κ.1 5) (κ.1 9) (upB κ.2.1 3 j true 3) (κ.1 5 j)) k) 1)) ?_
                    refine J_top (v' := .int (nI (cnt (pendF (κ.1 5) (κ.1 9) (upB κ.2.1 3 j true 3) (κ.1 5 j)) (k + 1)))) (congrArg (fun z => Value.int (nI z)) (cnt_t (by simp [pendF, c_1, hjc, c_2, c_4, hk, c_6, c_6d, c_7d, c_8, c_9, c_9d, c_9c]))) ?_
                    refine J_istore_n cx (L' := [(2, .int (nI (cnt (pendF (κ.1 5) (κ.1 9) (upB κ.2.1 3 j true 3) (κ.1 5 j)) (k + 1)))), (3, .int (nI k)), (0, .ref (ad 0)), (1, .int (nI j))]) dX7_revoke_100 rfl (by decide) rfl ?_
                    refine J_iinc cx (v := (nI (k + 1))) (L' := [(3, .int (nI (k + 1))), (2, .int (nI (cnt (pendF (κ.1 5) (κ.1 9) (upB κ.2.1 3 j true 3) (κ.1 5 j)) (k + 1)))), (0, .ref (ad 0)), (1, .int (nI j))]) dX7_revoke_101 1 rfl (by exact nI_add k 1) (by decide) rfl ?_
                    refine J_goto cx (tgt := 52) dX7_revoke_104 (by decide) ?_
                    refine J_L [1, 0, 2, 3] rfl ?_
                    exact ih (k + 1) (by omega) (by omega)
        refine J_L [1, 0, 2, 3] rfl ?_
        exact LP _ 0 (by omega) (Nat.lt_succ_self _)
      · refine J_iconst cx (v := nI 1) dX7_revoke_27 (by decide) ?_
        refine J_goto cx (tgt := 32) dX7_revoke_28 (by decide) ?_
        refine J_iconst cx (v := nI 2) dX7_revoke_32 (by decide) ?_
        refine J_callVi cx kX7_78 (As := [.int (nI 1), .int (nI 2)]) (tX7_isThrown l D g A ad κ (if inR (κ.2.2.1 0) (nI j) then nI 0 else nI 1) ch cm rm row  true (nI 2) ) ⟨rfl, rfl, by decide, by decide⟩ ⟨by decide, by decide⟩ rfl 0 rfl rfl rfl (Nat.le_of_ble_eq_true rfl) dX7_revoke_33 ?_
        intro _ _ hr; cases hr
        refine J_ifz_eq cx (tgt := 41) dX7_revoke_36 (by decide) (fun h => absurd h (by decide)) (fun _ => ?_)
        refine J_iconst cx (v := nI 0) dX7_revoke_39 (by decide) ?_
        exact J_iret cx rfl (u := ()) (by simp only [opRevoke, Bool.and_true, Bool.true_and, Bool.and_false, Bool.false_and, Bool.or_true, Bool.true_or, Bool.or_false, Bool.false_or, Bool.not_true, Bool.not_false, if_true, if_false, Bool.false_eq_true, decide_true, decide_false, ite_true, ite_false, ne_eq, not_true_eq_false, not_false_eq_true, xj, c_1, hjc, c_2, c_4]; try rfl) (by simp only [opRevoke, Bool.and_true, Bool.true_and, Bool.and_false, Bool.false_and, Bool.or_true, Bool.true_or, Bool.or_false, Bool.false_or, Bool.not_true, Bool.not_false, if_true, if_false, Bool.false_eq_true, decide_true, decide_false, ite_true, ite_false, ne_eq, not_true_eq_false, not_false_eq_true, xj, c_1, hjc, c_2, c_4]; try rfl) (by decide) (by decide) dX7_revoke_40
set_option maxHeartbeats 4000000 in
set_option maxRecDepth 100000 in
theorem tX7_publish (l : Launch) (D : va_G) (g : Nat → ClassId) (A : Nat → Prop) (ad : Nat → Nat) (κ : CS) (th : Int32) (ch : Nat → Nat) (cm rm : Nat) (row : Nat → Int64)  (xc : Int32) (hn : κ.2.2.1 0 ≤ 40) : CtI l D g A yX7_publish cX7_publish 5 .int ({ frames := 3, cells := 0, slots := 0, locals := 64 } : Room) [.ref (ad 0), .int xc] (mW ad g κ th ch cm rm row) ((opPublish κ xc).2.1) (mW ad g ((opPublish κ xc).2.2) (nI (opPublish κ xc).1) ch cm rm row) := by
  refine metJ (by decide) (Nat.le_of_ble_eq_true rfl) ?_
  intro p e s m args below meth c _ _ cx
  refine J_aload_n cx dX7_publish_0 rfl 0 rfl ?_
  refine J_iload_n cx dX7_publish_1 rfl 1 rfl ?_
  refine J_callVi cx kX7_99 (As := [.int xc]) (tX7_isNone l D g A ad κ th ch cm rm row  xc (by first | assumption | omega)) ⟨rfl, rfl, by decide, by decide⟩ ⟨by decide, by decide⟩ rfl 0 rfl rfl rfl (Nat.le_of_ble_eq_true rfl) dX7_publish_2 ?_
  intro _ _ hr; cases hr
  refine J_ifz_ne cx (tgt := 30) dX7_publish_5 (by decide) (fun c_1 => ?_) (fun c_1 => ?_)
  · have c_1 := bn_t c_1
    refine J_iconst cx (v := nI 0) dX7_publish_30 (by decide) ?_
    exact J_iret cx rfl (u := ()) (by simp only [opPublish, Bool.and_true, Bool.true_and, Bool.and_false, Bool.false_and, Bool.or_true, Bool.true_or, Bool.or_false, Bool.false_or, Bool.not_true, Bool.not_false, if_true, if_false, Bool.false_eq_true, decide_true, decide_false, ite_true, ite_false, ne_eq, not_true_eq_false, not_false_eq_true, xj, c_1]; try rfl) (by simp only [opPublish, Bool.and_true, Bool.true_and, Bool.and_false, Bool.false_and, Bool.or_true, Bool.true_or, Bool.or_false, Bool.false_or, Bool.not_true, Bool.not_false, if_true, if_false, Bool.false_eq_true, decide_true, decide_false, ite_true, ite_false, ne_eq, not_true_eq_false, not_false_eq_true, xj, c_1]; try rfl) (by decide) (by decide) dX7_publish_31
  · have c_1 := bn_f c_1
    obtain ⟨j, hj, hxj⟩ := inR_spec c_1 (by omega)
    subst hxj
    have hjc : (nI j).toNatClampNeg = j := nI_clamp (by omega)
    refine J_aload_n cx dX7_publish_8 rfl 0 rfl ?_
    refine J_aload_n cx dX7_publish_9 rfl 0 rfl ?_
    refine J_get cx (v := .ref (ad 11)) fX7_40 0 rfl rfl dX7_publish_10 ?_
    refine J_iload_n cx dX7_publish_13 rfl 1 rfl ?_
    refine J_zald cx (j := j) (f := fun i => zb (κ.2.1 0 i)) 11 rfl rfl (by omega) (by decide) dX7_publish_14 ?_
    refine J_ifz_ne cx (tgt := 22) dX7_publish_15 (by decide) (fun c_2 => ?_) (fun c_2 => ?_)
    · refine J_iconst cx (v := nI 0) dX7_publish_22 (by decide) ?_
      refine J_iconst cx (v := nI 2) dX7_publish_23 (by decide) ?_
      refine J_callVi cx kX7_78 (As := [.int (nI 0), .int (nI 2)]) (tX7_isThrown l D g A ad κ (if inR (κ.2.2.1 0) (nI j) then nI 0 else nI 1) ch cm rm row  false (nI 2) ) ⟨rfl, rfl, by decide, by decide⟩ ⟨by decide, by decide⟩ rfl 0 rfl rfl rfl (Nat.le_of_ble_eq_true rfl) dX7_publish_24 ?_
      intro _ _ hr; cases hr
      refine J_ifz_eq cx (tgt := 32) dX7_publish_27 (by decide) (fun _ => ?_) (fun h => absurd h (by decide))
      refine J_ws (ws' := (mW ad g κ (nI 0) ch cm rm row)) rfl ?_
      refine J_iconst cx (v := nI 0) dX7_publish_32 (by decide) ?_
      refine J_istore_n cx (L' := [(2, .int (nI 0)), (0, .ref (ad 0)), (1, .int (nI j))]) dX7_publish_33 rfl (by decide) rfl ?_
      refine J_iconst cx (v := nI 0) dX7_publish_34 (by decide) ?_
      refine J_istore_n cx (L' := [(3, .int (nI 0)), (2, .int (nI 0)), (0, .ref (ad 0)), (1, .int (nI j))]) dX7_publish_35 rfl (by decide) rfl ?_
      have LP : ∀ (fu : Nat) (k : Nat), (k ≤ κ.2.2.1 0) → κ.2.2.1 0 - k < fu → J p l e ({ frames := 3, cells := 0, slots := 0, locals := 64 } : Room) s m args below meth c D A 5 (MQ below (va_Qi (fun (r : Int32) (_ : Unit) => r = ((opPublish κ (nI j)).2.1)) (fun _ => PO D A (mW ad g ((opPublish κ (nI j)).2.2) (nI (opPublish κ (nI j)).1) ch cm rm row)) A) args s 0 0 A) 0 0 (mW ad g (pubI κ (κ.1 1 j) k, κ.2.1, κ.2.2.1, κ.2.2.2.1, κ.2.2.2.2) (nI 0) ch cm rm row) [(2, .int (nI (cnt (pendB κ (κ.1 1 j)) k))), (3, .int (nI k)), (0, .ref (ad 0)), (1, .int (nI j))] 36 [] := by
        intro fu; induction fu with
        | zero => intro k hk hfu; exact absurd hfu (Nat.not_lt_zero _)
        | succ fu ih =>
          intro k hk hfu
          refine J_iload_n cx dX7_publish_36 rfl 1 rfl ?_
          refine J_aload_n cx dX7_publish_37 rfl 2 rfl ?_
          refine J_get cx (v := .int (nI (κ.2.2.1 0))) fX7_71 0 rfl rfl dX7_publish_38 ?_
          refine J_icmp_ge cx (tgt := 127) dX7_publish_41 (by decide) (fun c_4 => ?_) (fun c_4 => ?_)
          · have c_4 := (nat_ic_ge (by omega) (by omega)).mp c_4
            have c_4d := decide_eq_true c_4
            refine J_iload_n cx dX7_publish_127 rfl 0 rfl ?_
            exact J_iret cx rfl (u := ()) (by rw [show k = κ.2.2.1 0 from by omega]; simp only [opPublish, Bool.and_true, Bool.true_and, Bool.and_false, Bool.false_and, Bool.or_true, Bool.true_or, Bool.or_false, Bool.false_or, Bool.not_true, Bool.not_false, if_true, if_false, Bool.false_eq_true, decide_true, decide_false, ite_true, ite_false, ne_eq, not_true_eq_false, not_false_eq_true, xj, c_1, hjc, c_2, hk, c_4, c_4d]; try rfl) (by rw [show k = κ.2.2.1 0 from by omega]; simp only [opPublish, Bool.and_true, Bool.true_and, Bool.and_false, Bool.false_and, Bool.or_true, Bool.true_or, Bool.or_false, Bool.false_or, Bool.not_true, Bool.not_false, if_true, if_false, Bool.false_eq_true, decide_true, decide_false, ite_true, ite_false, ne_eq, not_true_eq_false, not_false_eq_true, xj, c_1, hjc, c_2, hk, c_4, c_4d]; try rfl) (by decide) (by decide) dX7_publish_128
          · have c_4 := (nat_ic_ge_f (by omega) (by omega)).mp c_4
            have c_4d := decide_eq_false (Nat.not_le.mpr c_4)
            refine J_aload_n cx dX7_publish_44 rfl 2 rfl ?_
            refine J_get cx (v := .ref (ad 6)) fX7_25 0 rfl rfl dX7_publish_45 ?_
            refine J_iload_n cx dX7_publish_48 rfl 1 rfl ?_
            refine J_iald cx (j := k) (f := (pubI κ (κ.1 1 j) k) 5) 6 rfl rfl (by omega) (by decide) dX7_publish_49 ?_
            refine J_top (v' := .int (κ.1 5 k)) (congrArg Value.int (congrFun (pubI_ne κ _ 5 (by decide) k) k)) ?_
            refine J_aload_n cx dX7_publish_50 rfl 2 rfl ?_
            refine J_get cx (v := .ref (ad 2)) fX7_13 0 rfl rfl dX7_publish_51 ?_
            refine J_iload_n cx dX7_publish_54 rfl 3 rfl ?_
            refine J_iald cx (j := j) (f := (pubI κ (κ.1 1 j) k) 1) 2 rfl rfl (by omega) (by decide) dX7_publish_55 ?_
            refine J_top (v' := .int (κ.1 1 j)) (congrArg Value.int (congrFun (pubI_ne κ _ 1 (by decide) k) j)) ?_
            refine J_icmp_ne cx (tgt := 81) dX7_publish_56 (by decide) (fun c_5 => ?_) (fun c_5 => ?_)
            · have c_5d := decide_eq_false c_5
              refine J_iconst cx (v := nI 0) dX7_publish_81 (by decide) ?_
              refine J_istore cx (L' := [(4, .int (nI 0)), (2, .int (nI (cnt (pendB κ (κ.1 1 j)) k))), (3, .int (nI k)), (0, .ref (ad 0)), (1, .int (nI j))]) dX7_publish_82 (by decide) rfl ?_
              refine J_aload_n cx dX7_publish_84 rfl 3 rfl ?_
              refine J_get cx (v := .ref (ad 10)) fX7_37 0 rfl rfl dX7_publish_85 ?_
              refine J_iload_n cx dX7_publish_88 rfl 2 rfl ?_
              refine J_iload cx dX7_publish_89 0 rfl ?_
              refine J_if_eq cx (tgt := 101) dX7_publish_91 (by decide) (fun _ => ?_) (fun h => absurd h (by decide))
              refine J_aload_n cx dX7_publish_101 rfl 3 rfl ?_
              refine J_get cx (v := .ref (ad 10)) fX7_37 0 rfl rfl dX7_publish_102 ?_
              refine J_iload_n cx dX7_publish_105 rfl 2 rfl ?_
              refine J_iald cx (j := k) (f := (pubI κ (κ.1 1 j) k) 9) 10 rfl rfl (by omega) (by decide) dX7_publish_106 ?_
              refine J_top (v' := .int (κ.1 9 k)) (congrArg Value.int (pubI_ge κ _ k k (Nat.le_refl _) 9)) ?_
              refine J_iast cx (ws' := (mW ad g (upI (pubI κ (κ.1 1 j) k) 9 k (κ.1 9 k), κ.2.1, κ.2.2.1, κ.2.2.2.1, κ.2.2.2.2) (nI 0) ch cm rm row)) (j := k) 10 rfl  rfl (by omega) (by decide) rfl dX7_publish_107 ?_
              refine J_iload_n cx dX7_publish_108 rfl 1 rfl ?_
              refine J_iload cx dX7_publish_109 0 rfl ?_
              refine J_if_eq cx (tgt := 118) dX7_publish_111 (by decide) (fun _ => ?_) (fun h => absurd h (by decide))
              refine J_iconst cx (v := nI 0) dX7_publish_118 (by decide) ?_
              refine J_iadd cx dX7_publish_119 ?_
              refine J_top (v' := .int (nI ((cnt (pendB κ (κ.1 1 j)) k) + 0))) (congrArg Value.int (nI_add (cnt (pendB κ (κ.1 1 j)) k) 0)) ?_
              refine J_top (v' := .int (nI (cnt (pendB κ (κ.1 1 j)) (k + 1)))) (congrArg (fun z => Value.int (nI z)) (cnt_f (by simp [pendB, pendF, c_1, hjc, c_2, hk, c_4, c_4d, c_5, c_5d]))) ?_
              refine J_istore_n cx (L' := [(2, .int (nI (cnt (pendB κ (κ.1 1 j)) (k + 1)))), (4, .int (nI 0)), (3, .int (nI k)), (0, .ref (ad 0)), (1, .int (nI j))]) dX7_publish_120 rfl (by decide) rfl ?_
              refine J_ws (ws' := (mW ad g (pubI κ (κ.1 1 j) (k + 1), κ.2.1, κ.2.2.1, κ.2.2.2.1, κ.2.2.2.2) (nI 0) ch cm rm row)) (by simp [pubI, pendB, pendF, c_1, hjc, c_2, hk, c_4, c_4d, c_5, c_5d]) ?_
              refine J_iinc cx (v := (nI (k + 1))) (L' := [(3, .int (nI (k + 1))), (2, .int (nI (cnt (pendB κ (κ.1 1 j)) (k + 1)))), (4, .int (nI 0)), (0, .ref (ad 0)), (1, .int (nI j))]) dX7_publish_121 2 rfl (by exact nI_add k 1) (by decide) rfl ?_
              refine J_goto cx (tgt := 36) dX7_publish_124 (by decide) ?_
              refine J_L [1, 0, 3, 4] rfl ?_
              exact ih (k + 1) (by omega) (by omega)
            · have c_5d := decide_eq_true c_5
              refine J_aload_n cx dX7_publish_59 rfl 2 rfl ?_
              refine J_get cx (v := .ref (ad 14)) fX7_50 0 rfl rfl dX7_publish_60 ?_
              refine J_iload_n cx dX7_publish_63 rfl 1 rfl ?_
              refine J_zald cx (j := k) (f := fun i => zb (κ.2.1 3 i)) 14 rfl rfl (by omega) (by decide) dX7_publish_64 ?_
              refine J_ifz_eq cx (tgt := 81) dX7_publish_65 (by decide) (fun c_8 => ?_) (fun c_8 => ?_)
              · refine J_iconst cx (v := nI 0) dX7_publish_81 (by decide) ?_
                refine J_istore cx (L' := [(4, .int (nI 0)), (2, .int (nI (cnt (pendB κ (κ.1 1 j)) k))), (3, .int (nI k)), (0, .ref (ad 0)), (1, .int (nI j))]) dX7_publish_82 (by decide) rfl ?_
                refine J_aload_n cx dX7_publish_84 rfl 3 rfl ?_
                refine J_get cx (v := .ref (ad 10)) fX7_37 0 rfl rfl dX7_publish_85 ?_
                refine J_iload_n cx dX7_publish_88 rfl 2 rfl ?_
                refine J_iload cx dX7_publish_89 0 rfl ?_
                refine J_if_eq cx (tgt := 101) dX7_publish_91 (by decide) (fun _ => ?_) (fun h => absurd h (by decide))
                refine J_aload_n cx dX7_publish_101 rfl 3 rfl ?_
                refine J_get cx (v := .ref (ad 10)) fX7_37 0 rfl rfl dX7_publish_102 ?_
                refine J_iload_n cx dX7_publish_105 rfl 2 rfl ?_
                refine J_iald cx (j := k) (f := (pubI κ (κ.1 1 j) k) 9) 10 rfl rfl (by omega) (by decide) dX7_publish_106 ?_
                refine J_top (v' := .int (κ.1 9 k)) (congrArg Value.int (pubI_ge κ _ k k (Nat.le_refl _) 9)) ?_
                refine J_iast cx (ws' := (mW ad g (upI (pubI κ (κ.1 1 j) k) 9 k (κ.1 9 k), κ.2.1, κ.2.2.1, κ.2.2.2.1, κ.2.2.2.2) (nI 0) ch cm rm row)) (j := k) 10 rfl  rfl (by omega) (by decide) rfl dX7_publish_107 ?_
                refine J_iload_n cx dX7_publish_108 rfl 1 rfl ?_
                refine J_iload cx dX7_publish_109 0 rfl ?_
                refine J_if_eq cx (tgt := 118) dX7_publish_111 (by decide) (fun _ => ?_) (fun h => absurd h (by decide))
                refine J_iconst cx (v := nI 0) dX7_publish_118 (by decide) ?_
                refine J_iadd cx dX7_publish_119 ?_
                refine J_top (v' := .int (nI ((cnt (pendB κ (κ.1 1 j)) k) + 0))) (congrArg Value.int (nI_add (cnt (pendB κ (κ.1 1 j)) k) 0)) ?_
                refine J_top (v' := .int (nI (cnt (pendB κ (κ.1 1 j)) (k + 1)))) (congrArg (fun z => Value.int (nI z)) (cnt_f (by simp [pendB, pendF, c_1, hjc, c_2, hk, c_4, c_4d, c_5d, c_8]))) ?_
                refine J_istore_n cx (L' := [(2, .int (nI (cnt (pendB κ (κ.1 1 j)) (k + 1)))), (4, .int (nI 0)), (3, .int (nI k)), (0, .ref (ad 0)), (1, .int (nI j))]) dX7_publish_120 rfl (by decide) rfl ?_
                refine J_ws (ws' := (mW ad g (pubI κ (κ.1 1 j) (k + 1), κ.2.1, κ.2.2.1, κ.2.2.2.1, κ.2.2.2.2) (nI 0) ch cm rm row)) (by simp [pubI, pendB, pendF, c_1, hjc, c_2, hk, c_4, c_4d, c_5d, c_8]) ?_
                refine J_iinc cx (v := (nI (k + 1))) (L' := [(3, .int (nI (k + 1))), (2, .int (nI (cnt (pendB κ (κ.1 1 j)) (k + 1)))), (4, .int (nI 0)), (0, .ref (ad 0)), (1, .int (nI j))]) dX7_publish_121 2 rfl (by exact nI_add k 1) (by decide) rfl ?_
                refine J_goto cx (tgt := 36) dX7_publish_124 (by decide) ?_
                refine J_L [1, 0, 3, 4] rfl ?_
                exact ih (k + 1) (by omega) (by omega)
              · refine J_aload_n cx dX7_publish_68 rfl 2 rfl ?_
                refine J_get cx (v := .ref (ad 10)) fX7_37 0 rfl rfl dX7_publish_69 ?_
                refine J_iload_n cx dX7_publish_72 rfl 1 rfl ?_
                refine J_iald cx (j := k) (f := (pubI κ (κ.1 1 j) k) 9) 10 rfl rfl (by omega) (by decide) dX7_publish_73 ?_
                refine J_top (v' := .int (κ.1 9 k)) (congrArg Value.int (pubI_ge κ _ k k (Nat.le_refl _) 9)) ?_
                refine J_if_ge cx (tgt := 81) dX7_publish_74 (by decide) (fun c_11 => ?_) (fun c_11 => ?_)
                · have c_11d := decide_eq_true c_11
                  have c_11c := decide_eq_false (Int32.not_lt.mpr c_11)
                  refine J_iconst cx (v := nI 0) dX7_publish_81 (by decide) ?_
                  refine J_istore cx (L' := [(4, .int (nI 0)), (2, .int (nI (cnt (pendB κ (κ.1 1 j)) k))), (3, .int (nI k)), (0, .ref (ad 0)), (1, .int (nI j))]) dX7_publish_82 (by decide) rfl ?_
                  refine J_aload_n cx dX7_publish_84 rfl 3 rfl ?_
                  refine J_get cx (v := .ref (ad 10)) fX7_37 0 rfl rfl dX7_publish_85 ?_
                  refine J_iload_n cx dX7_publish_88 rfl 2 rfl ?_
                  refine J_iload cx dX7_publish_89 0 rfl ?_
                  refine J_if_eq cx (tgt := 101) dX7_publish_91 (by decide) (fun _ => ?_) (fun h => absurd h (by decide))
                  refine J_aload_n cx dX7_publish_101 rfl 3 rfl ?_
                  refine J_get cx (v := .ref (ad 10)) fX7_37 0 rfl rfl dX7_publish_102 ?_
                  refine J_iload_n cx dX7_publish_105 rfl 2 rfl ?_
                  refine J_iald cx (j := k) (f := (pubI κ (κ.1 1 j) k) 9) 10 rfl rfl (by omega) (by decide) dX7_publish_106 ?_
                  refine J_top (v' := .int (κ.1 9 k)) (congrArg Value.int (pubI_ge κ _ k k (Nat.le_refl _) 9)) ?_
                  refine J_iast cx (ws' := (mW ad g (upI (pubI κ (κ.1 1 j) k) 9 k (κ.1 9 k), κ.2.1, κ.2.2.1, κ.2.2.2.1, κ.2.2.2.2) (nI 0) ch cm rm row)) (j := k) 10 rfl  rfl (by omega) (by decide) rfl dX7_publish_107 ?_
                  refine J_iload_n cx dX7_publish_108 rfl 1 rfl ?_
                  refine J_iload cx dX7_publish_109 0 rfl ?_
                  refine J_if_eq cx (tgt := 118) dX7_publish_111 (by decide) (fun _ => ?_) (fun h => absurd h (by decide))
                  refine J_iconst cx (v := nI 0) dX7_publish_118 (by decide) ?_
                  refine J_iadd cx dX7_publish_119 ?_
                  refine J_top (v' := .int (nI ((cnt (pendB κ (κ.1 1 j)) k) + 0))) (congrArg Value.int (nI_add (cnt (pendB κ (κ.1 1 j)) k) 0)) ?_
                  refine J_top (v' := .int (nI (cnt (pendB κ (κ.1 1 j)) (k + 1)))) (congrArg (fun z => Value.int (nI z)) (cnt_f (by simp [pendB, pendF, c_1, hjc, c_2, hk, c_4, c_4d, c_5d, c_8, c_11, c_11d, c_11c]))) ?_
                  refine J_istore_n cx (L' := [(2, .int (nI (cnt (pendB κ (κ.1 1 j)) (k + 1)))), (4, .int (nI 0)), (3, .int (nI k)), (0, .ref (ad 0)), (1, .int (nI j))]) dX7_publish_120 rfl (by decide) rfl ?_
                  refine J_ws (ws' := (mW ad g (pubI κ (κ.1 1 j) (k + 1), κ.2.1, κ.2.2.1, κ.2.2.2.1, κ.2.2.2.2) (nI 0) ch cm rm row)) (by simp [pubI, pendB, pendF, c_1, hjc, c_2, hk, c_4, c_4d, c_5d, c_8, c_11, c_11d, c_11c]) ?_
                  refine J_iinc cx (v := (nI (k + 1))) (L' := [(3, .int (nI (k + 1))), (2, .int (nI (cnt (pendB κ (κ.1 1 j)) (k + 1)))), (4, .int (nI 0)), (0, .ref (ad 0)), (1, .int (nI j))]) dX7_publish_121 2 rfl (by exact nI_add k 1) (by decide) rfl ?_
                  refine J_goto cx (tgt := 36) dX7_publish_124 (by decide) ?_
                  refine J_L [1, 0, 3, 4] rfl ?_
                  exact ih (k + 1) (by omega) (by omega)
                · have c_11d := decide_eq_false c_11
                  have c_11c := decide_eq_true (Int32.not_le.mp c_11)
                  refine J_iconst cx (v := nI 1) dX7_publish_77 (by decide) ?_
                  refine J_goto cx (tgt := 82) dX7_publish_78 (by decide) ?_
                  refine J_istore cx (L' := [(4, .int (nI 1)), (2, .int (nI (cnt (pendB κ (κ.1 1 j)) k))), (3, .int (nI k)), (0, .ref (ad 0)), (1, .int (nI j))]) dX7_publish_82 (by decide) rfl ?_
                  refine J_aload_n cx dX7_publish_84 rfl 3 rfl ?_
                  refine J_get cx (v := .ref (ad 10)) fX7_37 0 rfl rfl dX7_publish_85 ?_
                  refine J_iload_n cx dX7_publish_88 rfl 2 rfl ?_
                  refine J_iload cx dX7_publish_89 0 rfl ?_
                  refine J_if_eq cx (tgt := 101) dX7_publish_91 (by decide) (fun h => absurd h (by decide)) (fun _ => ?_)
                  refine J_aload_n cx dX7_publish_94 rfl 3 rfl ?_
                  refine J_get cx (v := .int (nI (κ.2.2.1 2))) fX7_82 0 rfl rfl dX7_publish_95 ?_
                  refine J_goto cx (tgt := 107) dX7_publish_98 (by decide) ?_
                  refine J_iast cx (ws' := (mW ad g (upI (pubI κ (κ.1 1 j) k) 9 k (nI (κ.2.2.1 2)), κ.2.1, κ.2.2.1, κ.2.2.2.1, κ.2.2.2.2) (nI 0) ch cm rm row)) (j := k) 10 rfl  rfl (by omega) (by decide) rfl dX7_publish_107 ?_
                  refine J_iload_n cx dX7_publish_108 rfl 1 rfl ?_
                  refine J_iload cx dX7_publish_109 0 rfl ?_
                  refine J_if_eq cx (tgt := 118) dX7_publish_111 (by decide) (fun h => absurd h (by decide)) (fun _ => ?_)
                  refine J_iconst cx (v := nI 1) dX7_publish_114 (by decide) ?_
                  refine J_goto cx (tgt := 119) dX7_publish_115 (by decide) ?_
                  refine J_iadd cx dX7_publish_119 ?_
                  refine J_top (v' := .int (nI ((cnt (pendB κ (κ.1 1 j)) k) + 1))) (congrArg Value.int (nI_add (cnt (pendB κ (κ.1 1 j)) k) 1)) ?_
                  refine J_top (v' := .int (nI (cnt (pendB κ (κ.1 1 j)) (k + 1)))) (congrArg (fun z => Value.int (nI z)) (cnt_t (by simp [pendB, pendF, c_1, hjc, c_2, hk, c_4, c_4d, c_5d, c_8, c_11, c_11d, c_11c]))) ?_
                  refine J_istore_n cx (L' := [(2, .int (nI (cnt (pendB κ (κ.1 1 j)) (k + 1)))), (4, .int (nI 1)), (3, .int (nI k)), (0, .ref (ad 0)), (1, .int (nI j))]) dX7_publish_120 rfl (by decide) rfl ?_
                  refine J_ws (ws' := (mW ad g (pubI κ (κ.1 1 j) (k + 1), κ.2.1, κ.2.2.1, κ.2.2.2.1, κ.2.2.2.2) (nI 0) ch cm rm row)) (by simp [pubI, pendB, pendF, c_1, hjc, c_2, hk, c_4, c_4d, c_5d, c_8, c_11, c_11d, c_11c]) ?_
                  refine J_iinc cx (v := (nI (k + 1))) (L' := [(3, .int (nI (k + 1))), (2, .int (nI (cnt (pendB κ (κ.1 1 j)) (k + 1)))), (4, .int (nI 1)), (0, .ref (ad 0)), (1, .int (nI j))]) dX7_publish_121 2 rfl (by exact nI_add k 1) (by decide) rfl ?_
                  refine J_goto cx (tgt := 36) dX7_publish_124 (by decide) ?_
                  refine J_L [1, 0, 3, 4] rfl ?_
                  exact ih (k + 1) (by omega) (by omega)
      refine J_L [1, 0, 2, 3] rfl ?_
      exact LP _ 0 (by omega) (Nat.lt_succ_self _)
    · refine J_iconst cx (v := nI 1) dX7_publish_18 (by decide) ?_
      refine J_goto cx (tgt := 23) dX7_publish_19 (by decide) ?_
      refine J_iconst cx (v := nI 2) dX7_publish_23 (by decide) ?_
      refine J_callVi cx kX7_78 (As := [.int (nI 1), .int (nI 2)]) (tX7_isThrown l D g A ad κ (if inR (κ.2.2.1 0) (nI j) then nI 0 else nI 1) ch cm rm row  true (nI 2) ) ⟨rfl, rfl, by decide, by decide⟩ ⟨by decide, by decide⟩ rfl 0 rfl rfl rfl (Nat.le_of_ble_eq_true rfl) dX7_publish_24 ?_
      intro _ _ hr; cases hr
      refine J_ifz_eq cx (tgt := 32) dX7_publish_27 (by decide) (fun h => absurd h (by decide)) (fun _ => ?_)
      refine J_iconst cx (v := nI 0) dX7_publish_30 (by decide) ?_
      exact J_iret cx rfl (u := ()) (by simp only [opPublish, Bool.and_true, Bool.true_and, Bool.and_false, Bool.false_and, Bool.or_true, Bool.true_or, Bool.or_false, Bool.false_or, Bool.not_true, Bool.not_false, if_true, if_false, Bool.false_eq_true, decide_true, decide_false, ite_true, ite_false, ne_eq, not_true_eq_false, not_false_eq_true, xj, c_1, hjc, c_2]; try rfl) (by simp only [opPublish, Bool.and_true, Bool.true_and, Bool.and_false, Bool.false_and, Bool.or_true, Bool.true_or, Bool.or_false, Bool.false_or, Bool.not_true, Bool.not_false, if_true, if_false, Bool.false_eq_true, decide_true, decide_false, ite_true, ite_false, ne_eq, not_true_eq_false, not_false_eq_true, xj, c_1, hjc, c_2]; try rfl) (by decide) (by decide) dX7_publish_31
set_option maxHeartbeats 4000000 in
set_option maxRecDepth 100000 in
theorem tX7_pass (l : Launch) (D : va_G) (g : Nat → ClassId) (A : Nat → Prop) (ad : Nat → Nat) (κ : CS) (th : Int32) (ch : Nat → Nat) (cm rm : Nat) (row : Nat → Int64)  (dy : Int32)  : CtI l D g A yX7_pass cX7_pass 2 .int ({ frames := 1, cells := 0, slots := 0, locals := 22 } : Room) [.ref (ad 0), .int dy] (mW ad g κ th ch cm rm row) ((opPass κ dy).2.1) (mW ad g ((opPass κ dy).2.2) (nI (opPass κ dy).1) ch cm rm row) := by
  refine metJ (by decide) (Nat.le_of_ble_eq_true rfl) ?_
  intro p e s m args below meth c _ _ cx
  refine J_aload_n cx dX7_pass_0 rfl 0 rfl ?_
  refine J_iload_n cx dX7_pass_1 rfl 1 rfl ?_
  refine J_iconst cx (v := nI 1) dX7_pass_2 (by decide) ?_
  refine J_sipush cx (v := nI 999) dX7_pass_3 (by decide) ?_
  refine J_callSi cx kX7_67 (As := [.int dy, .int (nI 1), .int (nI 999)]) (tX7_isIn l D g A ad κ th ch cm rm row  dy (nI 1) (nI 999) ) ⟨rfl, rfl, by decide, by decide⟩ ⟨by decide, by decide⟩ rfl rfl (Nat.le_of_ble_eq_true rfl) dX7_pass_6 ?_
  intro _ _ hr; cases hr
  refine J_ifz_ne cx (tgt := 16) dX7_pass_9 (by decide) (fun c_1 => ?_) (fun c_1 => ?_)
  · obtain ⟨j, hj, hjb, hxj⟩ := isInB_ex c_1; subst hxj
    have hjc : (nI j).toNatClampNeg = j := nI_clamp (by omega)
    refine J_iconst cx (v := nI 0) dX7_pass_16 (by decide) ?_
    refine J_iconst cx (v := nI 1) dX7_pass_17 (by decide) ?_
    refine J_callVi cx kX7_78 (As := [.int (nI 0), .int (nI 1)]) (tX7_isThrown l D g A ad κ th ch cm rm row  false (nI 1) ) ⟨rfl, rfl, by decide, by decide⟩ ⟨by decide, by decide⟩ rfl 0 rfl rfl rfl (Nat.le_of_ble_eq_true rfl) dX7_pass_18 ?_
    intro _ _ hr; cases hr
    refine J_ifz_eq cx (tgt := 26) dX7_pass_21 (by decide) (fun _ => ?_) (fun h => absurd h (by decide))
    refine J_aload_n cx dX7_pass_26 rfl 0 rfl ?_
    refine J_dup cx dX7_pass_27 rfl ?_
    refine J_get cx (v := .int (nI (κ.2.2.1 2))) fX7_82 0 rfl rfl dX7_pass_28 ?_
    refine J_iload_n cx dX7_pass_31 rfl 1 rfl ?_
    refine J_iadd cx dX7_pass_32 ?_
    refine J_top (v' := .int (nI ((κ.2.2.1 2) + j))) (congrArg Value.int (nI_add (κ.2.2.1 2) j)) ?_
    refine J_put cx (ws' := (mW ad g (κ.1, κ.2.1, upn κ.2.2.1 2 ((κ.2.2.1 2) + j), κ.2.2.2.1, κ.2.2.2.2) (if false then (nI 1) else nI 0) ch cm rm row)) fX7_82 ⟨tyX7_ok, nmX7, tyX7_ok 19 (by decide)⟩ rfl 0 rfl rfl rfl (Nat.le_of_ble_eq_true rfl) rfl dX7_pass_33 ?_
    refine J_aload_n cx dX7_pass_36 rfl 0 rfl ?_
    refine J_get cx (v := .int (nI ((κ.2.2.1 2) + j))) fX7_82 0 rfl rfl dX7_pass_37 ?_
    exact J_iret cx rfl (u := ()) (by simp only [opPass, Bool.and_true, Bool.true_and, Bool.and_false, Bool.false_and, Bool.or_true, Bool.true_or, Bool.or_false, Bool.false_or, Bool.not_true, Bool.not_false, if_true, if_false, Bool.false_eq_true, decide_true, decide_false, ite_true, ite_false, ne_eq, not_true_eq_false, not_false_eq_true, xj, c_1, hjc]; try rfl) (by simp only [opPass, Bool.and_true, Bool.true_and, Bool.and_false, Bool.false_and, Bool.or_true, Bool.true_or, Bool.or_false, Bool.false_or, Bool.not_true, Bool.not_false, if_true, if_false, Bool.false_eq_true, decide_true, decide_false, ite_true, ite_false, ne_eq, not_true_eq_false, not_false_eq_true, xj, c_1, hjc]; try rfl) (by decide) (by decide) dX7_pass_40
  · refine J_iconst cx (v := nI 1) dX7_pass_12 (by decide) ?_
    refine J_goto cx (tgt := 17) dX7_pass_13 (by decide) ?_
    refine J_iconst cx (v := nI 1) dX7_pass_17 (by decide) ?_
    refine J_callVi cx kX7_78 (As := [.int (nI 1), .int (nI 1)]) (tX7_isThrown l D g A ad κ th ch cm rm row  true (nI 1) ) ⟨rfl, rfl, by decide, by decide⟩ ⟨by decide, by decide⟩ rfl 0 rfl rfl rfl (Nat.le_of_ble_eq_true rfl) dX7_pass_18 ?_
    intro _ _ hr; cases hr
    refine J_ifz_eq cx (tgt := 26) dX7_pass_21 (by decide) (fun h => absurd h (by decide)) (fun _ => ?_)
    refine J_iconst cx (v := nI 0) dX7_pass_24 (by decide) ?_
    exact J_iret cx rfl (u := ()) (by simp only [opPass, Bool.and_true, Bool.true_and, Bool.and_false, Bool.false_and, Bool.or_true, Bool.true_or, Bool.or_false, Bool.false_or, Bool.not_true, Bool.not_false, if_true, if_false, Bool.false_eq_true, decide_true, decide_false, ite_true, ite_false, ne_eq, not_true_eq_false, not_false_eq_true, xj, c_1]; try rfl) (by simp only [opPass, Bool.and_true, Bool.true_and, Bool.and_false, Bool.false_and, Bool.or_true, Bool.true_or, Bool.or_false, Bool.false_or, Bool.not_true, Bool.not_false, if_true, if_false, Bool.false_eq_true, decide_true, decide_false, ite_true, ite_false, ne_eq, not_true_eq_false, not_false_eq_true, xj, c_1]; try rfl) (by decide) (by decide) dX7_pass_25
set_option maxHeartbeats 4000000 in
set_option maxRecDepth 100000 in
theorem tX7_nameOf (l : Launch) (D : va_G) (g : Nat → ClassId) (A : Nat → Prop) (ad : Nat → Nat) (κ : CS) (th : Int32) (ch : Nat → Nat) (cm rm : Nat) (row : Nat → Int64)  (xc : Int32) (hn : κ.2.2.1 0 ≤ 40) : CtI l D g A yX7_nameOf cX7_nameOf 2 .int ({ frames := 3, cells := 0, slots := 0, locals := 64 } : Room) [.ref (ad 0), .int xc] (mW ad g κ th ch cm rm row) ((opGet κ 0 xc).2) (mW ad g κ (nI (opGet κ 0 xc).1) ch cm rm row) := by
  refine metJ (by decide) (Nat.le_of_ble_eq_true rfl) ?_
  intro p e s m args below meth c _ _ cx
  refine J_aload_n cx dX7_nameOf_0 rfl 0 rfl ?_
  refine J_iload_n cx dX7_nameOf_1 rfl 1 rfl ?_
  refine J_callVi cx kX7_99 (As := [.int xc]) (tX7_isNone l D g A ad κ th ch cm rm row  xc (by first | assumption | omega)) ⟨rfl, rfl, by decide, by decide⟩ ⟨by decide, by decide⟩ rfl 0 rfl rfl rfl (Nat.le_of_ble_eq_true rfl) dX7_nameOf_2 ?_
  intro _ _ hr; cases hr
  refine J_ifz_eq cx (tgt := 12) dX7_nameOf_5 (by decide) (fun c_1 => ?_) (fun c_1 => ?_)
  · have c_1 := bn_f c_1
    obtain ⟨j, hj, hxj⟩ := inR_spec c_1 (by omega)
    subst hxj
    have hjc : (nI j).toNatClampNeg = j := nI_clamp (by omega)
    refine J_aload_n cx dX7_nameOf_12 rfl 0 rfl ?_
    refine J_get cx (v := .ref (ad 1)) fX7_9 0 rfl rfl dX7_nameOf_13 ?_
    refine J_iload_n cx dX7_nameOf_16 rfl 1 rfl ?_
    refine J_iald cx (j := j) (f := κ.1 0) 1 rfl rfl (by omega) (by decide) dX7_nameOf_17 ?_
    exact J_iret cx rfl (u := ()) (by simp only [opGet, Bool.and_true, Bool.true_and, Bool.and_false, Bool.false_and, Bool.or_true, Bool.true_or, Bool.or_false, Bool.false_or, Bool.not_true, Bool.not_false, if_true, if_false, Bool.false_eq_true, decide_true, decide_false, ite_true, ite_false, ne_eq, not_true_eq_false, not_false_eq_true, xj, c_1, hjc]; try rfl) (by simp only [opGet, Bool.and_true, Bool.true_and, Bool.and_false, Bool.false_and, Bool.or_true, Bool.true_or, Bool.or_false, Bool.false_or, Bool.not_true, Bool.not_false, if_true, if_false, Bool.false_eq_true, decide_true, decide_false, ite_true, ite_false, ne_eq, not_true_eq_false, not_false_eq_true, xj, c_1, hjc]; try rfl) (by decide) (by decide) dX7_nameOf_18
  · have c_1 := bn_t c_1
    refine J_iconst cx (v := nI 0) dX7_nameOf_8 (by decide) ?_
    refine J_goto cx (tgt := 18) dX7_nameOf_9 (by decide) ?_
    exact J_iret cx rfl (u := ()) (by simp only [opGet, Bool.and_true, Bool.true_and, Bool.and_false, Bool.false_and, Bool.or_true, Bool.true_or, Bool.or_false, Bool.false_or, Bool.not_true, Bool.not_false, if_true, if_false, Bool.false_eq_true, decide_true, decide_false, ite_true, ite_false, ne_eq, not_true_eq_false, not_false_eq_true, xj, c_1]; try rfl) (by simp only [opGet, Bool.and_true, Bool.true_and, Bool.and_false, Bool.false_and, Bool.or_true, Bool.true_or, Bool.or_false, Bool.false_or, Bool.not_true, Bool.not_false, if_true, if_false, Bool.false_eq_true, decide_true, decide_false, ite_true, ite_false, ne_eq, not_true_eq_false, not_false_eq_true, xj, c_1]; try rfl) (by decide) (by decide) dX7_nameOf_18
set_option maxHeartbeats 4000000 in
set_option maxRecDepth 100000 in
theorem tX7_keyOf (l : Launch) (D : va_G) (g : Nat → ClassId) (A : Nat → Prop) (ad : Nat → Nat) (κ : CS) (th : Int32) (ch : Nat → Nat) (cm rm : Nat) (row : Nat → Int64)  (xc : Int32) (hn : κ.2.2.1 0 ≤ 40) : CtI l D g A yX7_keyOf cX7_keyOf 2 .int ({ frames := 3, cells := 0, slots := 0, locals := 64 } : Room) [.ref (ad 0), .int xc] (mW ad g κ th ch cm rm row) ((opGet κ 1 xc).2) (mW ad g κ (nI (opGet κ 1 xc).1) ch cm rm row) := by
  refine metJ (by decide) (Nat.le_of_ble_eq_true rfl) ?_
  intro p e s m args below meth c _ _ cx
  refine J_aload_n cx dX7_keyOf_0 rfl 0 rfl ?_
  refine J_iload_n cx dX7_keyOf_1 rfl 1 rfl ?_
  refine J_callVi cx kX7_99 (As := [.int xc]) (tX7_isNone l D g A ad κ th ch cm rm row  xc (by first | assumption | omega)) ⟨rfl, rfl, by decide, by decide⟩ ⟨by decide, by decide⟩ rfl 0 rfl rfl rfl (Nat.le_of_ble_eq_true rfl) dX7_keyOf_2 ?_
  intro _ _ hr; cases hr
  refine J_ifz_eq cx (tgt := 12) dX7_keyOf_5 (by decide) (fun c_1 => ?_) (fun c_1 => ?_)
  · have c_1 := bn_f c_1
    obtain ⟨j, hj, hxj⟩ := inR_spec c_1 (by omega)
    subst hxj
    have hjc : (nI j).toNatClampNeg = j := nI_clamp (by omega)
    refine J_aload_n cx dX7_keyOf_12 rfl 0 rfl ?_
    refine J_get cx (v := .ref (ad 2)) fX7_13 0 rfl rfl dX7_keyOf_13 ?_
    refine J_iload_n cx dX7_keyOf_16 rfl 1 rfl ?_
    refine J_iald cx (j := j) (f := κ.1 1) 2 rfl rfl (by omega) (by decide) dX7_keyOf_17 ?_
    exact J_iret cx rfl (u := ()) (by simp only [opGet, Bool.and_true, Bool.true_and, Bool.and_false, Bool.false_and, Bool.or_true, Bool.true_or, Bool.or_false, Bool.false_or, Bool.not_true, Bool.not_false, if_true, if_false, Bool.false_eq_true, decide_true, decide_false, ite_true, ite_false, ne_eq, not_true_eq_false, not_false_eq_true, xj, c_1, hjc]; try rfl) (by simp only [opGet, Bool.and_true, Bool.true_and, Bool.and_false, Bool.false_and, Bool.or_true, Bool.true_or, Bool.or_false, Bool.false_or, Bool.not_true, Bool.not_false, if_true, if_false, Bool.false_eq_true, decide_true, decide_false, ite_true, ite_false, ne_eq, not_true_eq_false, not_false_eq_true, xj, c_1, hjc]; try rfl) (by decide) (by decide) dX7_keyOf_18
  · have c_1 := bn_t c_1
    refine J_iconst cx (v := nI 0) dX7_keyOf_8 (by decide) ?_
    refine J_goto cx (tgt := 18) dX7_keyOf_9 (by decide) ?_
    exact J_iret cx rfl (u := ()) (by simp only [opGet, Bool.and_true, Bool.true_and, Bool.and_false, Bool.false_and, Bool.or_true, Bool.true_or, Bool.or_false, Bool.false_or, Bool.not_true, Bool.not_false, if_true, if_false, Bool.false_eq_true, decide_true, decide_false, ite_true, ite_false, ne_eq, not_true_eq_false, not_false_eq_true, xj, c_1]; try rfl) (by simp only [opGet, Bool.and_true, Bool.true_and, Bool.and_false, Bool.false_and, Bool.or_true, Bool.true_or, Bool.or_false, Bool.false_or, Bool.not_true, Bool.not_false, if_true, if_false, Bool.false_eq_true, decide_true, decide_false, ite_true, ite_false, ne_eq, not_true_eq_false, not_false_eq_true, xj, c_1]; try rfl) (by decide) (by decide) dX7_keyOf_18
set_option maxHeartbeats 4000000 in
set_option maxRecDepth 100000 in
theorem tX7_issuerKeyOf (l : Launch) (D : va_G) (g : Nat → ClassId) (A : Nat → Prop) (ad : Nat → Nat) (κ : CS) (th : Int32) (ch : Nat → Nat) (cm rm : Nat) (row : Nat → Int64)  (xc : Int32) (hn : κ.2.2.1 0 ≤ 40) : CtI l D g A yX7_issuerKeyOf cX7_issuerKeyOf 2 .int ({ frames := 3, cells := 0, slots := 0, locals := 64 } : Room) [.ref (ad 0), .int xc] (mW ad g κ th ch cm rm row) ((opGet κ 5 xc).2) (mW ad g κ (nI (opGet κ 5 xc).1) ch cm rm row) := by
  refine metJ (by decide) (Nat.le_of_ble_eq_true rfl) ?_
  intro p e s m args below meth c _ _ cx
  refine J_aload_n cx dX7_issuerKeyOf_0 rfl 0 rfl ?_
  refine J_iload_n cx dX7_issuerKeyOf_1 rfl 1 rfl ?_
  refine J_callVi cx kX7_99 (As := [.int xc]) (tX7_isNone l D g A ad κ th ch cm rm row  xc (by first | assumption | omega)) ⟨rfl, rfl, by decide, by decide⟩ ⟨by decide, by decide⟩ rfl 0 rfl rfl rfl (Nat.le_of_ble_eq_true rfl) dX7_issuerKeyOf_2 ?_
  intro _ _ hr; cases hr
  refine J_ifz_eq cx (tgt := 12) dX7_issuerKeyOf_5 (by decide) (fun c_1 => ?_) (fun c_1 => ?_)
  · have c_1 := bn_f c_1
    obtain ⟨j, hj, hxj⟩ := inR_spec c_1 (by omega)
    subst hxj
    have hjc : (nI j).toNatClampNeg = j := nI_clamp (by omega)
    refine J_aload_n cx dX7_issuerKeyOf_12 rfl 0 rfl ?_
    refine J_get cx (v := .ref (ad 6)) fX7_25 0 rfl rfl dX7_issuerKeyOf_13 ?_
    refine J_iload_n cx dX7_issuerKeyOf_16 rfl 1 rfl ?_
    refine J_iald cx (j := j) (f := κ.1 5) 6 rfl rfl (by omega) (by decide) dX7_issuerKeyOf_17 ?_
    exact J_iret cx rfl (u := ()) (by simp only [opGet, Bool.and_true, Bool.true_and, Bool.and_false, Bool.false_and, Bool.or_true, Bool.true_or, Bool.or_false, Bool.false_or, Bool.not_true, Bool.not_false, if_true, if_false, Bool.false_eq_true, decide_true, decide_false, ite_true, ite_false, ne_eq, not_true_eq_false, not_false_eq_true, xj, c_1, hjc]; try rfl) (by simp only [opGet, Bool.and_true, Bool.true_and, Bool.and_false, Bool.false_and, Bool.or_true, Bool.true_or, Bool.or_false, Bool.false_or, Bool.not_true, Bool.not_false, if_true, if_false, Bool.false_eq_true, decide_true, decide_false, ite_true, ite_false, ne_eq, not_true_eq_false, not_false_eq_true, xj, c_1, hjc]; try rfl) (by decide) (by decide) dX7_issuerKeyOf_18
  · have c_1 := bn_t c_1
    refine J_iconst cx (v := nI 0) dX7_issuerKeyOf_8 (by decide) ?_
    refine J_goto cx (tgt := 18) dX7_issuerKeyOf_9 (by decide) ?_
    exact J_iret cx rfl (u := ()) (by simp only [opGet, Bool.and_true, Bool.true_and, Bool.and_false, Bool.false_and, Bool.or_true, Bool.true_or, Bool.or_false, Bool.false_or, Bool.not_true, Bool.not_false, if_true, if_false, Bool.false_eq_true, decide_true, decide_false, ite_true, ite_false, ne_eq, not_true_eq_false, not_false_eq_true, xj, c_1]; try rfl) (by simp only [opGet, Bool.and_true, Bool.true_and, Bool.and_false, Bool.false_and, Bool.or_true, Bool.true_or, Bool.or_false, Bool.false_or, Bool.not_true, Bool.not_false, if_true, if_false, Bool.false_eq_true, decide_true, decide_false, ite_true, ite_false, ne_eq, not_true_eq_false, not_false_eq_true, xj, c_1]; try rfl) (by decide) (by decide) dX7_issuerKeyOf_18
set_option maxHeartbeats 4000000 in
set_option maxRecDepth 100000 in
theorem tX7_lastDayOf (l : Launch) (D : va_G) (g : Nat → ClassId) (A : Nat → Prop) (ad : Nat → Nat) (κ : CS) (th : Int32) (ch : Nat → Nat) (cm rm : Nat) (row : Nat → Int64)  (xc : Int32) (hn : κ.2.2.1 0 ≤ 40) : CtI l D g A yX7_lastDayOf cX7_lastDayOf 2 .int ({ frames := 3, cells := 0, slots := 0, locals := 64 } : Room) [.ref (ad 0), .int xc] (mW ad g κ th ch cm rm row) ((opGet κ 3 xc).2) (mW ad g κ (nI (opGet κ 3 xc).1) ch cm rm row) := by
  refine metJ (by decide) (Nat.le_of_ble_eq_true rfl) ?_
  intro p e s m args below meth c _ _ cx
  refine J_aload_n cx dX7_lastDayOf_0 rfl 0 rfl ?_
  refine J_iload_n cx dX7_lastDayOf_1 rfl 1 rfl ?_
  refine J_callVi cx kX7_99 (As := [.int xc]) (tX7_isNone l D g A ad κ th ch cm rm row  xc (by first | assumption | omega)) ⟨rfl, rfl, by decide, by decide⟩ ⟨by decide, by decide⟩ rfl 0 rfl rfl rfl (Nat.le_of_ble_eq_true rfl) dX7_lastDayOf_2 ?_
  intro _ _ hr; cases hr
  refine J_ifz_eq cx (tgt := 12) dX7_lastDayOf_5 (by decide) (fun c_1 => ?_) (fun c_1 => ?_)
  · have c_1 := bn_f c_1
    obtain ⟨j, hj, hxj⟩ := inR_spec c_1 (by omega)
    subst hxj
    have hjc : (nI j).toNatClampNeg = j := nI_clamp (by omega)
    refine J_aload_n cx dX7_lastDayOf_12 rfl 0 rfl ?_
    refine J_get cx (v := .ref (ad 4)) fX7_19 0 rfl rfl dX7_lastDayOf_13 ?_
    refine J_iload_n cx dX7_lastDayOf_16 rfl 1 rfl ?_
    refine J_iald cx (j := j) (f := κ.1 3) 4 rfl rfl (by omega) (by decide) dX7_lastDayOf_17 ?_
    exact J_iret cx rfl (u := ()) (by simp only [opGet, Bool.and_true, Bool.true_and, Bool.and_false, Bool.false_and, Bool.or_true, Bool.true_or, Bool.or_false, Bool.false_or, Bool.not_true, Bool.not_false, if_true, if_false, Bool.false_eq_true, decide_true, decide_false, ite_true, ite_false, ne_eq, not_true_eq_false, not_false_eq_true, xj, c_1, hjc]; try rfl) (by simp only [opGet, Bool.and_true, Bool.true_and, Bool.and_false, Bool.false_and, Bool.or_true, Bool.true_or, Bool.or_false, Bool.false_or, Bool.not_true, Bool.not_false, if_true, if_false, Bool.false_eq_true, decide_true, decide_false, ite_true, ite_false, ne_eq, not_true_eq_false, not_false_eq_true, xj, c_1, hjc]; try rfl) (by decide) (by decide) dX7_lastDayOf_18
  · have c_1 := bn_t c_1
    refine J_iconst cx (v := nI 0) dX7_lastDayOf_8 (by decide) ?_
    refine J_goto cx (tgt := 18) dX7_lastDayOf_9 (by decide) ?_
    exact J_iret cx rfl (u := ()) (by simp only [opGet, Bool.and_true, Bool.true_and, Bool.and_false, Bool.false_and, Bool.or_true, Bool.true_or, Bool.or_false, Bool.false_or, Bool.not_true, Bool.not_false, if_true, if_false, Bool.false_eq_true, decide_true, decide_false, ite_true, ite_false, ne_eq, not_true_eq_false, not_false_eq_true, xj, c_1]; try rfl) (by simp only [opGet, Bool.and_true, Bool.true_and, Bool.and_false, Bool.false_and, Bool.or_true, Bool.true_or, Bool.or_false, Bool.false_or, Bool.not_true, Bool.not_false, if_true, if_false, Bool.false_eq_true, decide_true, decide_false, ite_true, ite_false, ne_eq, not_true_eq_false, not_false_eq_true, xj, c_1]; try rfl) (by decide) (by decide) dX7_lastDayOf_18
set_option maxHeartbeats 4000000 in
set_option maxRecDepth 100000 in
theorem tX7_kindOf (l : Launch) (D : va_G) (g : Nat → ClassId) (A : Nat → Prop) (ad : Nat → Nat) (κ : CS) (th : Int32) (ch : Nat → Nat) (cm rm : Nat) (row : Nat → Int64)  (xc : Int32) (hn : κ.2.2.1 0 ≤ 40) : CtI l D g A yX7_kindOf cX7_kindOf 2 .char ({ frames := 3, cells := 0, slots := 0, locals := 64 } : Room) [.ref (ad 0), .int xc] (mW ad g κ th ch cm rm row) ((opKind κ xc).2) (mW ad g κ (nI (opKind κ xc).1) ch cm rm row) := by
  refine metJ (by decide) (Nat.le_of_ble_eq_true rfl) ?_
  intro p e s m args below meth c _ _ cx
  refine J_aload_n cx dX7_kindOf_0 rfl 0 rfl ?_
  refine J_iload_n cx dX7_kindOf_1 rfl 1 rfl ?_
  refine J_callVi cx kX7_99 (As := [.int xc]) (tX7_isNone l D g A ad κ th ch cm rm row  xc (by first | assumption | omega)) ⟨rfl, rfl, by decide, by decide⟩ ⟨by decide, by decide⟩ rfl 0 rfl rfl rfl (Nat.le_of_ble_eq_true rfl) dX7_kindOf_2 ?_
  intro _ _ hr; cases hr
  refine J_ifz_eq cx (tgt := 12) dX7_kindOf_5 (by decide) (fun c_1 => ?_) (fun c_1 => ?_)
  · have c_1 := bn_f c_1
    obtain ⟨j, hj, hxj⟩ := inR_spec c_1 (by omega)
    subst hxj
    have hjc : (nI j).toNatClampNeg = j := nI_clamp (by omega)
    refine J_aload_n cx dX7_kindOf_12 rfl 0 rfl ?_
    refine J_get cx (v := .ref (ad 12)) fX7_44 0 rfl rfl dX7_kindOf_13 ?_
    refine J_iload_n cx dX7_kindOf_16 rfl 1 rfl ?_
    refine J_zald cx (j := j) (f := fun i => zb (κ.2.1 1 i)) 12 rfl rfl (by omega) (by decide) dX7_kindOf_17 ?_
    refine J_ifz_eq cx (tgt := 26) dX7_kindOf_18 (by decide) (fun c_2 => ?_) (fun c_2 => ?_)
    · refine J_aload_n cx dX7_kindOf_26 rfl 0 rfl ?_
      refine J_get cx (v := .ref (ad 11)) fX7_40 0 rfl rfl dX7_kindOf_27 ?_
      refine J_iload_n cx dX7_kindOf_30 rfl 1 rfl ?_
      refine J_zald cx (j := j) (f := fun i => zb (κ.2.1 0 i)) 11 rfl rfl (by omega) (by decide) dX7_kindOf_31 ?_
      refine J_ifz_eq cx (tgt := 40) dX7_kindOf_32 (by decide) (fun c_3 => ?_) (fun c_3 => ?_)
      · refine J_bipush cx (v := nI 101) dX7_kindOf_40 (by decide) ?_
        exact J_zret cx rfl (u := ()) (by decide) (by simp only [opKind, Bool.and_true, Bool.true_and, Bool.and_false, Bool.false_and, Bool.or_true, Bool.true_or, Bool.or_false, Bool.false_or, Bool.not_true, Bool.not_false, if_true, if_false, Bool.false_eq_true, decide_true, decide_false, ite_true, ite_false, ne_eq, not_true_eq_false, not_false_eq_true, xj, c_1, hjc, c_2, c_3]; try rfl) (by simp only [opKind, Bool.and_true, Bool.true_and, Bool.and_false, Bool.false_and, Bool.or_true, Bool.true_or, Bool.or_false, Bool.false_or, Bool.not_true, Bool.not_false, if_true, if_false, Bool.false_eq_true, decide_true, decide_false, ite_true, ite_false, ne_eq, not_true_eq_false, not_false_eq_true, xj, c_1, hjc, c_2, c_3]; try rfl) (by decide) (by decide) dX7_kindOf_42
      · refine J_bipush cx (v := nI 97) dX7_kindOf_35 (by decide) ?_
        refine J_goto cx (tgt := 42) dX7_kindOf_37 (by decide) ?_
        exact J_zret cx rfl (u := ()) (by decide) (by simp only [opKind, Bool.and_true, Bool.true_and, Bool.and_false, Bool.false_and, Bool.or_true, Bool.true_or, Bool.or_false, Bool.false_or, Bool.not_true, Bool.not_false, if_true, if_false, Bool.false_eq_true, decide_true, decide_false, ite_true, ite_false, ne_eq, not_true_eq_false, not_false_eq_true, xj, c_1, hjc, c_2, c_3]; try rfl) (by simp only [opKind, Bool.and_true, Bool.true_and, Bool.and_false, Bool.false_and, Bool.or_true, Bool.true_or, Bool.or_false, Bool.false_or, Bool.not_true, Bool.not_false, if_true, if_false, Bool.false_eq_true, decide_true, decide_false, ite_true, ite_false, ne_eq, not_true_eq_false, not_false_eq_true, xj, c_1, hjc, c_2, c_3]; try rfl) (by decide) (by decide) dX7_kindOf_42
    · refine J_bipush cx (v := nI 114) dX7_kindOf_21 (by decide) ?_
      refine J_goto cx (tgt := 42) dX7_kindOf_23 (by decide) ?_
      exact J_zret cx rfl (u := ()) (by decide) (by simp only [opKind, Bool.and_true, Bool.true_and, Bool.and_false, Bool.false_and, Bool.or_true, Bool.true_or, Bool.or_false, Bool.false_or, Bool.not_true, Bool.not_false, if_true, if_false, Bool.false_eq_true, decide_true, decide_false, ite_true, ite_false, ne_eq, not_true_eq_false, not_false_eq_true, xj, c_1, hjc, c_2]; try rfl) (by simp only [opKind, Bool.and_true, Bool.true_and, Bool.and_false, Bool.false_and, Bool.or_true, Bool.true_or, Bool.or_false, Bool.false_or, Bool.not_true, Bool.not_false, if_true, if_false, Bool.false_eq_true, decide_true, decide_false, ite_true, ite_false, ne_eq, not_true_eq_false, not_false_eq_true, xj, c_1, hjc, c_2]; try rfl) (by decide) (by decide) dX7_kindOf_42
  · have c_1 := bn_t c_1
    refine J_iconst cx (v := nI 0) dX7_kindOf_8 (by decide) ?_
    refine J_goto cx (tgt := 42) dX7_kindOf_9 (by decide) ?_
    exact J_zret cx rfl (u := ()) (by decide) (by simp only [opKind, Bool.and_true, Bool.true_and, Bool.and_false, Bool.false_and, Bool.or_true, Bool.true_or, Bool.or_false, Bool.false_or, Bool.not_true, Bool.not_false, if_true, if_false, Bool.false_eq_true, decide_true, decide_false, ite_true, ite_false, ne_eq, not_true_eq_false, not_false_eq_true, xj, c_1]; try rfl) (by simp only [opKind, Bool.and_true, Bool.true_and, Bool.and_false, Bool.false_and, Bool.or_true, Bool.true_or, Bool.or_false, Bool.false_or, Bool.not_true, Bool.not_false, if_true, if_false, Bool.false_eq_true, decide_true, decide_false, ite_true, ite_false, ne_eq, not_true_eq_false, not_false_eq_true, xj, c_1]; try rfl) (by decide) (by decide) dX7_kindOf_42
end
