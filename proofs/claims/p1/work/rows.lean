section
-- ===== PART A: goes FIRST, ahead of the names: the tables' words, and 'selects' of the private methods out of them =====
/-- a private method of a class that the tables say can be made, by its rows of tables_1 -/
def lw_okq (q : MethodName × Nat) : Prop := (q.1.cls ≠ "java/lang/invoke/MethodHandle" ∧ q.1.cls ≠ "java/lang/invoke/VarHandle") ∧ Cond.instantiable q.1.cls q.2 ∈ tables_1 ∧ Cond.privateMethod q.1 ∈ tables_1 ∧ Cond.instanceMethod q.1 ∈ tables_1
theorem lw_p0 : lw_okq (⟨"FileVolume", "sizeOfFile", "(I)I"⟩, 8) := ⟨⟨by decide +kernel, by decide +kernel⟩, List.mem_of_getElem? (i := 19) (by decide +kernel), List.mem_of_getElem? (i := 223) (by decide +kernel), List.mem_of_getElem? (i := 224) (by decide +kernel)⟩
theorem lw_p1 : lw_okq (⟨"FileVolume", "demandSoundDisk", "()V"⟩, 8) := ⟨⟨by decide +kernel, by decide +kernel⟩, List.mem_of_getElem? (i := 19) (by decide +kernel), List.mem_of_getElem? (i := 306) (by decide +kernel), List.mem_of_getElem? (i := 307) (by decide +kernel)⟩
theorem lw_p2 : lw_okq (⟨"java/lang/Throwable", "fillInStackTrace", "(I)Ljava/lang/Throwable;"⟩, 6) := ⟨⟨by decide +kernel, by decide +kernel⟩, List.mem_of_getElem? (i := 350) (by decide +kernel), List.mem_of_getElem? (i := 348) (by decide +kernel), List.mem_of_getElem? (i := 349) (by decide +kernel)⟩
theorem lw_p3 : lw_okq (⟨"FileVolume", "makeFreeRow", "(I)I"⟩, 8) := ⟨⟨by decide +kernel, by decide +kernel⟩, List.mem_of_getElem? (i := 19) (by decide +kernel), List.mem_of_getElem? (i := 554) (by decide +kernel), List.mem_of_getElem? (i := 555) (by decide +kernel)⟩
theorem lw_p4 : lw_okq (⟨"FileVolume", "writeEntries", "(III)V"⟩, 8) := ⟨⟨by decide +kernel, by decide +kernel⟩, List.mem_of_getElem? (i := 19) (by decide +kernel), List.mem_of_getElem? (i := 567) (by decide +kernel), List.mem_of_getElem? (i := 568) (by decide +kernel)⟩
theorem lw_p5 : lw_okq (⟨"FileVolume", "canBeDeleted", "(I)Z"⟩, 8) := ⟨⟨by decide +kernel, by decide +kernel⟩, List.mem_of_getElem? (i := 19) (by decide +kernel), List.mem_of_getElem? (i := 617) (by decide +kernel), List.mem_of_getElem? (i := 618) (by decide +kernel)⟩
theorem lw_p6 : lw_okq (⟨"FileVolume", "addressInChain", "(II)I"⟩, 8) := ⟨⟨by decide +kernel, by decide +kernel⟩, List.mem_of_getElem? (i := 19) (by decide +kernel), List.mem_of_getElem? (i := 698) (by decide +kernel), List.mem_of_getElem? (i := 699) (by decide +kernel)⟩
theorem lw_p7 : lw_okq (⟨"FileVolume", "roomAfterGrowing", "(II)I"⟩, 8) := ⟨⟨by decide +kernel, by decide +kernel⟩, List.mem_of_getElem? (i := 19) (by decide +kernel), List.mem_of_getElem? (i := 716) (by decide +kernel), List.mem_of_getElem? (i := 717) (by decide +kernel)⟩
theorem lw_p8 : lw_okq (⟨"FileVolume", "spread", "(JI)V"⟩, 8) := ⟨⟨by decide +kernel, by decide +kernel⟩, List.mem_of_getElem? (i := 19) (by decide +kernel), List.mem_of_getElem? (i := 725) (by decide +kernel), List.mem_of_getElem? (i := 726) (by decide +kernel)⟩
theorem lw_p9 : lw_okq (⟨"FileVolume", "writeData", "(III)V"⟩, 8) := ⟨⟨by decide +kernel, by decide +kernel⟩, List.mem_of_getElem? (i := 19) (by decide +kernel), List.mem_of_getElem? (i := 729) (by decide +kernel), List.mem_of_getElem? (i := 730) (by decide +kernel)⟩
theorem lw_p10 : lw_okq (⟨"FileVolume$Repairer", "goThrough", "(II)V"⟩, 5) := ⟨⟨by decide +kernel, by decide +kernel⟩, List.mem_of_getElem? (i := 128) (by decide +kernel), List.mem_of_getElem? (i := 816) (by decide +kernel), List.mem_of_getElem? (i := 817) (by decide +kernel)⟩
theorem lw_p11 : lw_okq (⟨"FileVolumeModel", "number", "(II)V"⟩, 20) := ⟨⟨by decide +kernel, by decide +kernel⟩, List.mem_of_getElem? (i := 855) (by decide +kernel), List.mem_of_getElem? (i := 862) (by decide +kernel), List.mem_of_getElem? (i := 863) (by decide +kernel)⟩
theorem lw_p12 : lw_okq (⟨"FileVolumeModel", "ready", "()Z"⟩, 20) := ⟨⟨by decide +kernel, by decide +kernel⟩, List.mem_of_getElem? (i := 855) (by decide +kernel), List.mem_of_getElem? (i := 939) (by decide +kernel), List.mem_of_getElem? (i := 940) (by decide +kernel)⟩
theorem lw_p13 : lw_okq (⟨"FileVolumeModel", "find", "()I"⟩, 20) := ⟨⟨by decide +kernel, by decide +kernel⟩, List.mem_of_getElem? (i := 855) (by decide +kernel), List.mem_of_getElem? (i := 946) (by decide +kernel), List.mem_of_getElem? (i := 947) (by decide +kernel)⟩
theorem lw_p14 : lw_okq (⟨"FileVolumeModel", "length", "(I)I"⟩, 20) := ⟨⟨by decide +kernel, by decide +kernel⟩, List.mem_of_getElem? (i := 855) (by decide +kernel), List.mem_of_getElem? (i := 950) (by decide +kernel), List.mem_of_getElem? (i := 951) (by decide +kernel)⟩
theorem lw_p15 : lw_okq (⟨"FileVolumeModel", "cluster", "(II)I"⟩, 20) := ⟨⟨by decide +kernel, by decide +kernel⟩, List.mem_of_getElem? (i := 855) (by decide +kernel), List.mem_of_getElem? (i := 954) (by decide +kernel), List.mem_of_getElem? (i := 955) (by decide +kernel)⟩
def lw_privs_1 : List (MethodName × Nat) := [(⟨"FileVolume", "sizeOfFile", "(I)I"⟩, 8), (⟨"FileVolume", "demandSoundDisk", "()V"⟩, 8), (⟨"java/lang/Throwable", "fillInStackTrace", "(I)Ljava/lang/Throwable;"⟩, 6), (⟨"FileVolume", "makeFreeRow", "(I)I"⟩, 8), (⟨"FileVolume", "writeEntries", "(III)V"⟩, 8), (⟨"FileVolume", "canBeDeleted", "(I)Z"⟩, 8), (⟨"FileVolume", "addressInChain", "(II)I"⟩, 8), (⟨"FileVolume", "roomAfterGrowing", "(II)I"⟩, 8), (⟨"FileVolume", "spread", "(JI)V"⟩, 8), (⟨"FileVolume", "writeData", "(III)V"⟩, 8), (⟨"FileVolume$Repairer", "goThrough", "(II)V"⟩, 5), (⟨"FileVolumeModel", "number", "(II)V"⟩, 20), (⟨"FileVolumeModel", "ready", "()Z"⟩, 20), (⟨"FileVolumeModel", "find", "()I"⟩, 20), (⟨"FileVolumeModel", "length", "(I)I"⟩, 20), (⟨"FileVolumeModel", "cluster", "(II)I"⟩, 20)]
theorem lw_r1 : ∀ q ∈ lw_privs_1, lw_okq q := List.forall_mem_cons.mpr ⟨lw_p0, List.forall_mem_cons.mpr ⟨lw_p1, List.forall_mem_cons.mpr ⟨lw_p2, List.forall_mem_cons.mpr ⟨lw_p3, List.forall_mem_cons.mpr ⟨lw_p4, List.forall_mem_cons.mpr ⟨lw_p5, List.forall_mem_cons.mpr ⟨lw_p6, List.forall_mem_cons.mpr ⟨lw_p7, List.forall_mem_cons.mpr ⟨lw_p8, List.forall_mem_cons.mpr ⟨lw_p9, List.forall_mem_cons.mpr ⟨lw_p10, List.forall_mem_cons.mpr ⟨lw_p11, List.forall_mem_cons.mpr ⟨lw_p12, List.forall_mem_cons.mpr ⟨lw_p13, List.forall_mem_cons.mpr ⟨lw_p14, List.forall_mem_cons.mpr ⟨lw_p15, fun _ h => absurd h List.not_mem_nil⟩⟩⟩⟩⟩⟩⟩⟩⟩⟩⟩⟩⟩⟩⟩⟩
theorem lw_p16 : lw_okq (⟨"FileVolumeModel", "cell", "(I)I"⟩, 20) := ⟨⟨by decide +kernel, by decide +kernel⟩, List.mem_of_getElem? (i := 855) (by decide +kernel), List.mem_of_getElem? (i := 958) (by decide +kernel), List.mem_of_getElem? (i := 959) (by decide +kernel)⟩
theorem lw_p17 : lw_okq (⟨"FileVolumeModel", "numberAt", "(I)I"⟩, 20) := ⟨⟨by decide +kernel, by decide +kernel⟩, List.mem_of_getElem? (i := 855) (by decide +kernel), List.mem_of_getElem? (i := 962) (by decide +kernel), List.mem_of_getElem? (i := 963) (by decide +kernel)⟩
theorem lw_p18 : lw_okq (⟨"FileVolumeModel", "isCalled", "(I)Z"⟩, 20) := ⟨⟨by decide +kernel, by decide +kernel⟩, List.mem_of_getElem? (i := 855) (by decide +kernel), List.mem_of_getElem? (i := 966) (by decide +kernel), List.mem_of_getElem? (i := 967) (by decide +kernel)⟩
theorem lw_p19 : lw_okq (⟨"FileVolumeModel", "place", "(II)I"⟩, 20) := ⟨⟨by decide +kernel, by decide +kernel⟩, List.mem_of_getElem? (i := 855) (by decide +kernel), List.mem_of_getElem? (i := 970) (by decide +kernel), List.mem_of_getElem? (i := 971) (by decide +kernel)⟩
theorem lw_p20 : lw_okq (⟨"FileVolumeModel", "isNamed", "(I)Z"⟩, 20) := ⟨⟨by decide +kernel, by decide +kernel⟩, List.mem_of_getElem? (i := 855) (by decide +kernel), List.mem_of_getElem? (i := 974) (by decide +kernel), List.mem_of_getElem? (i := 975) (by decide +kernel)⟩
theorem lw_p21 : lw_okq (⟨"FileVolumeModel", "isFree", "(I)Z"⟩, 20) := ⟨⟨by decide +kernel, by decide +kernel⟩, List.mem_of_getElem? (i := 855) (by decide +kernel), List.mem_of_getElem? (i := 978) (by decide +kernel), List.mem_of_getElem? (i := 979) (by decide +kernel)⟩
theorem lw_p22 : lw_okq (⟨"FileVolumeModel", "partsOf", "(II)I"⟩, 20) := ⟨⟨by decide +kernel, by decide +kernel⟩, List.mem_of_getElem? (i := 855) (by decide +kernel), List.mem_of_getElem? (i := 982) (by decide +kernel), List.mem_of_getElem? (i := 983) (by decide +kernel)⟩
theorem lw_p23 : lw_okq (⟨"FileVolumeModel", "isPart", "(III)Z"⟩, 20) := ⟨⟨by decide +kernel, by decide +kernel⟩, List.mem_of_getElem? (i := 855) (by decide +kernel), List.mem_of_getElem? (i := 989) (by decide +kernel), List.mem_of_getElem? (i := 990) (by decide +kernel)⟩
theorem lw_p24 : lw_okq (⟨"FileVolumeModel", "shortLetter", "(II)I"⟩, 20) := ⟨⟨by decide +kernel, by decide +kernel⟩, List.mem_of_getElem? (i := 855) (by decide +kernel), List.mem_of_getElem? (i := 996) (by decide +kernel), List.mem_of_getElem? (i := 997) (by decide +kernel)⟩
theorem lw_p25 : lw_okq (⟨"FileVolumeModel", "letter", "(III)I"⟩, 20) := ⟨⟨by decide +kernel, by decide +kernel⟩, List.mem_of_getElem? (i := 855) (by decide +kernel), List.mem_of_getElem? (i := 1000) (by decide +kernel), List.mem_of_getElem? (i := 1001) (by decide +kernel)⟩
theorem lw_p26 : lw_okq (⟨"FileVolumeModel", "shorten", "()Z"⟩, 20) := ⟨⟨by decide +kernel, by decide +kernel⟩, List.mem_of_getElem? (i := 855) (by decide +kernel), List.mem_of_getElem? (i := 1007) (by decide +kernel), List.mem_of_getElem? (i := 1008) (by decide +kernel)⟩
theorem lw_p27 : lw_okq (⟨"FileVolumeModel", "isTaken", "()Z"⟩, 20) := ⟨⟨by decide +kernel, by decide +kernel⟩, List.mem_of_getElem? (i := 855) (by decide +kernel), List.mem_of_getElem? (i := 1014) (by decide +kernel), List.mem_of_getElem? (i := 1015) (by decide +kernel)⟩
theorem lw_p28 : lw_okq (⟨"FileVolumeModel", "make", "(I)Z"⟩, 20) := ⟨⟨by decide +kernel, by decide +kernel⟩, List.mem_of_getElem? (i := 855) (by decide +kernel), List.mem_of_getElem? (i := 1018) (by decide +kernel), List.mem_of_getElem? (i := 1019) (by decide +kernel)⟩
theorem lw_p29 : lw_okq (⟨"FileVolumeModel", "take", "()I"⟩, 20) := ⟨⟨by decide +kernel, by decide +kernel⟩, List.mem_of_getElem? (i := 855) (by decide +kernel), List.mem_of_getElem? (i := 1022) (by decide +kernel), List.mem_of_getElem? (i := 1023) (by decide +kernel)⟩
theorem lw_p30 : lw_okq (⟨"FileVolumeModel", "set", "(II)V"⟩, 20) := ⟨⟨by decide +kernel, by decide +kernel⟩, List.mem_of_getElem? (i := 855) (by decide +kernel), List.mem_of_getElem? (i := 1026) (by decide +kernel), List.mem_of_getElem? (i := 1027) (by decide +kernel)⟩
theorem lw_p31 : lw_okq (⟨"FileVolumeModel", "door", "()Z"⟩, 20) := ⟨⟨by decide +kernel, by decide +kernel⟩, List.mem_of_getElem? (i := 855) (by decide +kernel), List.mem_of_getElem? (i := 1030) (by decide +kernel), List.mem_of_getElem? (i := 1031) (by decide +kernel)⟩
def lw_privs_2 : List (MethodName × Nat) := [(⟨"FileVolumeModel", "cell", "(I)I"⟩, 20), (⟨"FileVolumeModel", "numberAt", "(I)I"⟩, 20), (⟨"FileVolumeModel", "isCalled", "(I)Z"⟩, 20), (⟨"FileVolumeModel", "place", "(II)I"⟩, 20), (⟨"FileVolumeModel", "isNamed", "(I)Z"⟩, 20), (⟨"FileVolumeModel", "isFree", "(I)Z"⟩, 20), (⟨"FileVolumeModel", "partsOf", "(II)I"⟩, 20), (⟨"FileVolumeModel", "isPart", "(III)Z"⟩, 20), (⟨"FileVolumeModel", "shortLetter", "(II)I"⟩, 20), (⟨"FileVolumeModel", "letter", "(III)I"⟩, 20), (⟨"FileVolumeModel", "shorten", "()Z"⟩, 20), (⟨"FileVolumeModel", "isTaken", "()Z"⟩, 20), (⟨"FileVolumeModel", "make", "(I)Z"⟩, 20), (⟨"FileVolumeModel", "take", "()I"⟩, 20), (⟨"FileVolumeModel", "set", "(II)V"⟩, 20), (⟨"FileVolumeModel", "door", "()Z"⟩, 20)]
theorem lw_r2 : ∀ q ∈ lw_privs_2, lw_okq q := List.forall_mem_cons.mpr ⟨lw_p16, List.forall_mem_cons.mpr ⟨lw_p17, List.forall_mem_cons.mpr ⟨lw_p18, List.forall_mem_cons.mpr ⟨lw_p19, List.forall_mem_cons.mpr ⟨lw_p20, List.forall_mem_cons.mpr ⟨lw_p21, List.forall_mem_cons.mpr ⟨lw_p22, List.forall_mem_cons.mpr ⟨lw_p23, List.forall_mem_cons.mpr ⟨lw_p24, List.forall_mem_cons.mpr ⟨lw_p25, List.forall_mem_cons.mpr ⟨lw_p26, List.forall_mem_cons.mpr ⟨lw_p27, List.forall_mem_cons.mpr ⟨lw_p28, List.forall_mem_cons.mpr ⟨lw_p29, List.forall_mem_cons.mpr ⟨lw_p30, List.forall_mem_cons.mpr ⟨lw_p31, fun _ h => absurd h List.not_mem_nil⟩⟩⟩⟩⟩⟩⟩⟩⟩⟩⟩⟩⟩⟩⟩⟩
theorem lw_p32 : lw_okq (⟨"FileVolumeModel", "home", "()V"⟩, 20) := ⟨⟨by decide +kernel, by decide +kernel⟩, List.mem_of_getElem? (i := 855) (by decide +kernel), List.mem_of_getElem? (i := 1034) (by decide +kernel), List.mem_of_getElem? (i := 1035) (by decide +kernel)⟩
theorem lw_p33 : lw_okq (⟨"FileVolumeModel", "space", "(I)I"⟩, 20) := ⟨⟨by decide +kernel, by decide +kernel⟩, List.mem_of_getElem? (i := 855) (by decide +kernel), List.mem_of_getElem? (i := 1038) (by decide +kernel), List.mem_of_getElem? (i := 1039) (by decide +kernel)⟩
theorem lw_p34 : lw_okq (⟨"FileVolumeModel", "writePart", "(II)V"⟩, 20) := ⟨⟨by decide +kernel, by decide +kernel⟩, List.mem_of_getElem? (i := 855) (by decide +kernel), List.mem_of_getElem? (i := 1042) (by decide +kernel), List.mem_of_getElem? (i := 1043) (by decide +kernel)⟩
theorem lw_p35 : lw_okq (⟨"FileVolumeModel", "writeEntry", "(III)V"⟩, 20) := ⟨⟨by decide +kernel, by decide +kernel⟩, List.mem_of_getElem? (i := 855) (by decide +kernel), List.mem_of_getElem? (i := 1046) (by decide +kernel), List.mem_of_getElem? (i := 1047) (by decide +kernel)⟩
theorem lw_p36 : lw_okq (⟨"FileVolumeModel", "isEmpty", "(I)Z"⟩, 20) := ⟨⟨by decide +kernel, by decide +kernel⟩, List.mem_of_getElem? (i := 855) (by decide +kernel), List.mem_of_getElem? (i := 1054) (by decide +kernel), List.mem_of_getElem? (i := 1055) (by decide +kernel)⟩
theorem lw_p37 : lw_okq (⟨"FileVolumeModel", "free", "(II)V"⟩, 20) := ⟨⟨by decide +kernel, by decide +kernel⟩, List.mem_of_getElem? (i := 855) (by decide +kernel), List.mem_of_getElem? (i := 1058) (by decide +kernel), List.mem_of_getElem? (i := 1059) (by decide +kernel)⟩
theorem lw_p38 : lw_okq (⟨"FileVolumeModel", "mark", "(I)V"⟩, 20) := ⟨⟨by decide +kernel, by decide +kernel⟩, List.mem_of_getElem? (i := 855) (by decide +kernel), List.mem_of_getElem? (i := 1062) (by decide +kernel), List.mem_of_getElem? (i := 1063) (by decide +kernel)⟩
theorem lw_p39 : lw_okq (⟨"FileVolumeModel", "isOpen", "(I)Z"⟩, 20) := ⟨⟨by decide +kernel, by decide +kernel⟩, List.mem_of_getElem? (i := 855) (by decide +kernel), List.mem_of_getElem? (i := 1078) (by decide +kernel), List.mem_of_getElem? (i := 1079) (by decide +kernel)⟩
theorem lw_p40 : lw_okq (⟨"FileVolumeModel", "sizeOf", "(I)I"⟩, 20) := ⟨⟨by decide +kernel, by decide +kernel⟩, List.mem_of_getElem? (i := 855) (by decide +kernel), List.mem_of_getElem? (i := 1086) (by decide +kernel), List.mem_of_getElem? (i := 1087) (by decide +kernel)⟩
theorem lw_p41 : lw_okq (⟨"FileVolumeModel", "byteOf", "(II)I"⟩, 20) := ⟨⟨by decide +kernel, by decide +kernel⟩, List.mem_of_getElem? (i := 855) (by decide +kernel), List.mem_of_getElem? (i := 1095) (by decide +kernel), List.mem_of_getElem? (i := 1096) (by decide +kernel)⟩
theorem lw_p42 : lw_okq (⟨"FileVolumeModel", "writeNumber", "(II)V"⟩, 20) := ⟨⟨by decide +kernel, by decide +kernel⟩, List.mem_of_getElem? (i := 855) (by decide +kernel), List.mem_of_getElem? (i := 1103) (by decide +kernel), List.mem_of_getElem? (i := 1104) (by decide +kernel)⟩
theorem lw_p43 : lw_okq (⟨"FileVolumeModel", "fill", "(IIIJI)V"⟩, 20) := ⟨⟨by decide +kernel, by decide +kernel⟩, List.mem_of_getElem? (i := 855) (by decide +kernel), List.mem_of_getElem? (i := 1107) (by decide +kernel), List.mem_of_getElem? (i := 1108) (by decide +kernel)⟩
theorem lw_p44 : lw_okq (⟨"FileVolumeModel", "mendTables", "()V"⟩, 20) := ⟨⟨by decide +kernel, by decide +kernel⟩, List.mem_of_getElem? (i := 855) (by decide +kernel), List.mem_of_getElem? (i := 1128) (by decide +kernel), List.mem_of_getElem? (i := 1129) (by decide +kernel)⟩
theorem lw_p45 : lw_okq (⟨"FileVolumeModel", "fix", "(II)V"⟩, 20) := ⟨⟨by decide +kernel, by decide +kernel⟩, List.mem_of_getElem? (i := 855) (by decide +kernel), List.mem_of_getElem? (i := 1133) (by decide +kernel), List.mem_of_getElem? (i := 1134) (by decide +kernel)⟩
theorem lw_p46 : lw_okq (⟨"FileVolumeModel", "follow", "(I)I"⟩, 20) := ⟨⟨by decide +kernel, by decide +kernel⟩, List.mem_of_getElem? (i := 855) (by decide +kernel), List.mem_of_getElem? (i := 1137) (by decide +kernel), List.mem_of_getElem? (i := 1138) (by decide +kernel)⟩
theorem lw_p47 : lw_okq (⟨"FileVolumeModel", "walk", "()V"⟩, 20) := ⟨⟨by decide +kernel, by decide +kernel⟩, List.mem_of_getElem? (i := 855) (by decide +kernel), List.mem_of_getElem? (i := 1141) (by decide +kernel), List.mem_of_getElem? (i := 1142) (by decide +kernel)⟩
def lw_privs_3 : List (MethodName × Nat) := [(⟨"FileVolumeModel", "home", "()V"⟩, 20), (⟨"FileVolumeModel", "space", "(I)I"⟩, 20), (⟨"FileVolumeModel", "writePart", "(II)V"⟩, 20), (⟨"FileVolumeModel", "writeEntry", "(III)V"⟩, 20), (⟨"FileVolumeModel", "isEmpty", "(I)Z"⟩, 20), (⟨"FileVolumeModel", "free", "(II)V"⟩, 20), (⟨"FileVolumeModel", "mark", "(I)V"⟩, 20), (⟨"FileVolumeModel", "isOpen", "(I)Z"⟩, 20), (⟨"FileVolumeModel", "sizeOf", "(I)I"⟩, 20), (⟨"FileVolumeModel", "byteOf", "(II)I"⟩, 20), (⟨"FileVolumeModel", "writeNumber", "(II)V"⟩, 20), (⟨"FileVolumeModel", "fill", "(IIIJI)V"⟩, 20), (⟨"FileVolumeModel", "mendTables", "()V"⟩, 20), (⟨"FileVolumeModel", "fix", "(II)V"⟩, 20), (⟨"FileVolumeModel", "follow", "(I)I"⟩, 20), (⟨"FileVolumeModel", "walk", "()V"⟩, 20)]
theorem lw_r3 : ∀ q ∈ lw_privs_3, lw_okq q := List.forall_mem_cons.mpr ⟨lw_p32, List.forall_mem_cons.mpr ⟨lw_p33, List.forall_mem_cons.mpr ⟨lw_p34, List.forall_mem_cons.mpr ⟨lw_p35, List.forall_mem_cons.mpr ⟨lw_p36, List.forall_mem_cons.mpr ⟨lw_p37, List.forall_mem_cons.mpr ⟨lw_p38, List.forall_mem_cons.mpr ⟨lw_p39, List.forall_mem_cons.mpr ⟨lw_p40, List.forall_mem_cons.mpr ⟨lw_p41, List.forall_mem_cons.mpr ⟨lw_p42, List.forall_mem_cons.mpr ⟨lw_p43, List.forall_mem_cons.mpr ⟨lw_p44, List.forall_mem_cons.mpr ⟨lw_p45, List.forall_mem_cons.mpr ⟨lw_p46, List.forall_mem_cons.mpr ⟨lw_p47, fun _ h => absurd h List.not_mem_nil⟩⟩⟩⟩⟩⟩⟩⟩⟩⟩⟩⟩⟩⟩⟩⟩
theorem lw_p48 : lw_okq (⟨"FileVolumeModel", "tells", "(II)Z"⟩, 20) := ⟨⟨by decide +kernel, by decide +kernel⟩, List.mem_of_getElem? (i := 855) (by decide +kernel), List.mem_of_getElem? (i := 1145) (by decide +kernel), List.mem_of_getElem? (i := 1146) (by decide +kernel)⟩
theorem lw_p49 : lw_okq (⟨"FileVolumeModel", "isBad", "(II)Z"⟩, 20) := ⟨⟨by decide +kernel, by decide +kernel⟩, List.mem_of_getElem? (i := 855) (by decide +kernel), List.mem_of_getElem? (i := 1149) (by decide +kernel), List.mem_of_getElem? (i := 1150) (by decide +kernel)⟩
theorem lw_p50 : lw_okq (⟨"FileVolumeModel", "mendFile", "(II)V"⟩, 20) := ⟨⟨by decide +kernel, by decide +kernel⟩, List.mem_of_getElem? (i := 855) (by decide +kernel), List.mem_of_getElem? (i := 1153) (by decide +kernel), List.mem_of_getElem? (i := 1154) (by decide +kernel)⟩
def lw_privs_4 : List (MethodName × Nat) := [(⟨"FileVolumeModel", "tells", "(II)Z"⟩, 20), (⟨"FileVolumeModel", "isBad", "(II)Z"⟩, 20), (⟨"FileVolumeModel", "mendFile", "(II)V"⟩, 20)]
theorem lw_r4 : ∀ q ∈ lw_privs_4, lw_okq q := List.forall_mem_cons.mpr ⟨lw_p48, List.forall_mem_cons.mpr ⟨lw_p49, List.forall_mem_cons.mpr ⟨lw_p50, fun _ h => absurd h List.not_mem_nil⟩⟩⟩
def lw_privs : List (MethodName × Nat) := lw_privs_1 ++ (lw_privs_2 ++ (lw_privs_3 ++ (lw_privs_4)))
def lw_tbl : List Cond := k2_sels lw_privs ++ tables_1
theorem lw_privs_ok : ∀ q ∈ lw_privs, lw_okq q := by
  show ∀ q ∈ lw_privs_1 ++ (lw_privs_2 ++ (lw_privs_3 ++ (lw_privs_4))), lw_okq q
  exact List.forall_mem_append.mpr ⟨lw_r1, List.forall_mem_append.mpr ⟨lw_r2, List.forall_mem_append.mpr ⟨lw_r3, lw_r4⟩⟩⟩
end
section
/-! The machine under labels. A cell is named by its place in a list of cells, not by its address: then what an instruction reads and writes is decided by 'rfl'. -/
abbrev am_E : Type := (FieldType × vp_A) ⊕ (Nat × List Value)
abbrev am_O : Type := Option Value ⊕ String
/-- a value whose references are labels, as the machine has it: sb is the cell that no label below the list's length names (the law's script) -/
def am_v (sb : Nat) (ad : List Nat) (v : Value) : Value := match v with
  | .ref k => .ref (ad.getD k sb)
  | w => w
def am_e (dA : FieldType → ClassId) (sb : Nat) (ad : List Nat) (x : am_E) : va_E := match x with
  | .inl q => .inl (dA q.1, q.2)
  | .inr q => .inr (q.1, q.2.map (am_v sb ad))
def am_w (dA : FieldType → ClassId) (sb : Nat) (ad : List Nat) (h : List am_E) : va_W := List.zipWith (fun a x => (a, am_e dA sb ad x)) ad h
def am_ls (sb : Nat) (ad : List Nat) (ls : List (Nat × Value)) : List (Nat × Value) := ls.map (fun q => (q.1, am_v sb ad q.2))
theorem am_v_cat (sb : Nat) (ad : List Nat) (v : Value) : (am_v sb ad v).category = v.category := by cases v <;> rfl
theorem am_w_at {dA : FieldType → ClassId} {sb : Nat} {ad : List Nat} {h : List am_E} (hl : ad.length = h.length) {k : Nat} {x : am_E} (hk : h[k]? = some x) : (am_w dA sb ad h)[k]? = some (ad.getD k sb, am_e dA sb ad x) := by
  have hlt : k < h.length := (List.getElem?_eq_some_iff.mp hk).1
  have ha : ad[k]? = some (ad.getD k sb) := by
    rw [List.getD_eq_getElem?_getD, List.getElem?_eq_getElem (by omega)]
    rfl
  unfold am_w
  rw [List.getElem?_zipWith, ha, hk]
theorem am_w_of {dA : FieldType → ClassId} {sb : Nat} {ad : List Nat} {h : List am_E} {k : Nat} {q : Nat × va_E} (hq : (am_w dA sb ad h)[k]? = some q) : ∃ x, h[k]? = some x ∧ ad[k]? = some q.1 ∧ q.2 = am_e dA sb ad x := by
  unfold am_w at hq
  rw [List.getElem?_zipWith] at hq
  cases ha : ad[k]? with
  | none => rw [ha] at hq; cases hq
  | some a =>
    cases hx : h[k]? with
    | none => rw [ha, hx] at hq; cases hq
    | some x =>
      rw [ha, hx] at hq
      cases hq
      exact ⟨x, rfl, rfl, rfl⟩
theorem am_w_len {dA : FieldType → ClassId} {sb : Nat} {ad : List Nat} {h : List am_E} (hl : ad.length = h.length) : (am_w dA sb ad h).length = h.length := by
  unfold am_w
  rw [List.length_zipWith, hl, Nat.min_self]
theorem am_w_set {dA : FieldType → ClassId} {sb : Nat} {ad : List Nat} {h : List am_E} (hl : ad.length = h.length) {k : Nat} {x : am_E} (hk : k < h.length) :
    (am_w dA sb ad h).set k (ad.getD k sb, am_e dA sb ad x) = am_w dA sb ad (h.set k x) := by
  apply List.ext_getElem?
  intro j
  by_cases hj : j = k
  · subst hj
    rw [List.getElem?_set_self (by rw [am_w_len hl]; exact hk)]
    rw [am_w_at (by rw [List.length_set]; exact hl) (List.getElem?_set_self hk)]
  · rw [List.getElem?_set_ne (Ne.symm hj)]
    unfold am_w
    rw [List.getElem?_zipWith, List.getElem?_zipWith, List.getElem?_set_ne (Ne.symm hj)]
/-- which cells a method may change: those that have labels, and those that it makes -/
def am_A (ad : List Nat) (sz : Nat) : Nat → Prop := fun q => q ∈ ad ∨ sz ≤ q
def am_ty (dA : FieldType → ClassId) : List (ClassId × FieldType) := [(dA .int, .int), (dA .boolean, .boolean), (dA .char, .char), (dA .long, .long)]
/-- words that stay under warmer tables, though the kit's lists do not take them -/
def am_nest (w : Cond) : Bool := match w with
  | .fieldLinkNest .. => true
  | .methodLinkNest .. => true
  | c => c.onTables && c.keepsCast
/-- what the tables say beside the words: the classes, the nest's links, the texts -/
def am_T (D : va_G) (dA : FieldType → ClassId) (cl : List vw_C) (NW : List Cond) (SL : List (String × Nat × String)) (U : State) : Prop :=
  va_K D cl (am_ty dA) U ∧ (∀ w ∈ NW, am_nest w = true ∧ va_Nw w U) ∧ ∀ q ∈ SL, ∃ a, vk_R q.1 q.2.1 q.2.2 a U
/-- the words that speak of the heap: what Throwable's two statics hold -/
def am_hw : List Cond := [.isRef (.static Bundle.tN "UNASSIGNED_STACK" Bundle.steD), .isRef (.static Bundle.tN "SUPPRESSED_SENTINEL" Bundle.listD), .laysStatic Bundle.tN "UNASSIGNED_STACK" Bundle.steD, .laysStatic Bundle.tN "SUPPRESSED_SENTINEL" Bundle.listD]
/-- a later state: warmer tables, and of the cells that were there only those in A may have changed -/
def am_later (A : Nat → Prop) (s U : State) : Prop := s.WarmedH U.vm ∧ s.heap.size ≤ U.heap.size ∧ ∀ q : Nat, q < s.heap.size → ¬ A q → U.heap[q]? = s.heap[q]?
def am_Z (A : Nat → Prop) (s : State) : Prop := ∀ U : State, am_later A s U → ∀ w ∈ am_hw, ∀ a : Array Value, w.before a U = true
theorem am_Z.next {A B : Nat → Prop} {s U : State} (h : am_Z A s) (hU : am_later A s U) (hB : ∀ q, B q → A q) : am_Z B U := by
  intro V hV w hw a
  refine h V ⟨State.WarmedH.trans hU.1 hV.1, Nat.le_trans hU.2.1 hV.2.1, fun q h1 h2 => ?_⟩ w hw a
  rw [hV.2.2 q (Nat.lt_of_lt_of_le h1 hU.2.1) (fun z => h2 (hB q z))]
  exact hU.2.2 q h1 h2
/-- the claim's constants: launch, numbers of classes and slots, array classes, classes, links of the nest, texts -/
abbrev am_K : Type := Launch × va_G × (FieldType → ClassId) × List vw_C × List Cond × List (String × Nat × String)
/-- a method: its words, its class, its code, its locals, what it returns, its name, its handlers, its room, the script if it is the law's -/
abbrev am_N : Type := List Cond × String × ByteArray × Nat × Option FieldType × String × List ExceptionTableEntry × Room × Option (Nat × (Nat → Int32))
abbrev am_l (κ : am_K) : Launch := κ.1
abbrev am_D (κ : am_K) : va_G := κ.2.1
abbrev am_dA (κ : am_K) : FieldType → ClassId := κ.2.2.1
abbrev am_cl (κ : am_K) : List vw_C := κ.2.2.2.1
abbrev am_NW (κ : am_K) : List Cond := κ.2.2.2.2.1
abbrev am_SL (κ : am_K) : List (String × Nat × String) := κ.2.2.2.2.2
abbrev am_ws (μ : am_N) : List Cond := μ.1
abbrev am_own (μ : am_N) : String := μ.2.1
abbrev am_cc (μ : am_N) : ByteArray := μ.2.2.1
abbrev am_nL (μ : am_N) : Nat := μ.2.2.2.1
abbrev am_rt (μ : am_N) : Option FieldType := μ.2.2.2.2.1
abbrev am_nm (μ : am_N) : String := μ.2.2.2.2.2.1
abbrev am_tb (μ : am_N) : List ExceptionTableEntry := μ.2.2.2.2.2.2.1
abbrev am_R (μ : am_N) : Room := μ.2.2.2.2.2.2.2.1
abbrev am_X (μ : am_N) : Option (Nat × (Nat → Int32)) := μ.2.2.2.2.2.2.2.2
/-- the script, where there is one -/
def am_S (x : Option (Nat × (Nat → Int32))) (sb : Nat) (A : Nat → Prop) (s : State) : Prop := match x with
  | none => True
  | some q => va_X sb q.1 q.2 s s.heap ∧ sb < s.heap.size ∧ ¬ A sb
/-- where a method stands: the facts of its invocation, and the cells -/
def am_I (κ : am_K) (μ : am_N) (p : Program) (s : State) (m : MethodId) (args : Array Value) (meth : Method) (c : Code) (H : Heap) (locs : List Loc) (A : Nat → Prop) (sb : Nat) (ad0 ad : List Nat) (h : List am_E) : Prop :=
  CallFix p m c (am_cc μ) (am_nL μ) s args (am_ws μ) (am_own μ) ∧ (meth.sig.returnType = am_rt μ ∧ meth.locks = false ∧ meth.name = am_nm μ ∧ c.exceptionTable.toList = am_tb μ) ∧
  am_T (am_D κ) (am_dA κ) (am_cl κ) (am_NW κ) (am_SL κ) s ∧ am_Z A s ∧ (∀ q, s.heap.size ≤ q → A q) ∧ am_S (am_X μ) sb A s ∧
  ad0 <+: ad ∧ ad.length = h.length ∧ va_P (am_D κ) (am_cl κ) (am_w (am_dA κ) sb ad h) H ∧ va_D A (am_w (am_dA κ) sb ad h) ∧ va_S A s.heap H locs
/-- the cells behind a method -/
def am_B (κ : am_K) (sb : Nat) (ad0 : List Nat) (A : Nat → Prop) (h : List am_E) (ad : List Nat) (t : State) : Prop :=
  ad0 <+: ad ∧ ad.length = h.length ∧ va_P (am_D κ) (am_cl κ) (am_w (am_dA κ) sb ad h) t.heap ∧ va_D A (am_w (am_dA κ) sb ad h)
/-- how a method ended: with a value, or with an exception of a class -/
def am_oc (sb : Nat) (ad : List Nat) (o : am_O) (oc : Outcome) (s t : State) : Prop := match o with
  | .inl v => oc = .returned (v.map (am_v sb ad))
  | .inr E => ∃ (q : Addr) (ce : Cell), oc = .threw q ∧ t.heap[q]? = some ce ∧ ce.vm = .none ∧ s.vm.findClass E = some ce.cls
def am_Q (κ : am_K) (sb : Nat) (ad0 : List Nat) (A : Nat → Prop) (rm : Room) (o : am_O) (h : List am_E) : Array Value → State → Outcome → State → Prop := fun _ s oc t =>
  (∃ ad : List Nat, am_oc sb ad o oc s t ∧ am_B κ sb ad0 A h ad t) ∧ va_F A s t ∧ ∃ L : List Loc, (s.WarmedH t.vm ∧ s.sameButNew ({ t with vm := s.vm } : State) L rm.cells rm.slots) ∧ ∀ q ∈ L, A q.base
def am_MQ (κ : am_K) (below : List Frame) (sb : Nat) (ad0 : List Nat) (A : Nat → Prop) (rm : Room) (o : am_O) (h : List am_E) (a : Array Value) (s : State) : State → Prop := fun t =>
  ∃ oc, t.status = .running ∧ Ended t below oc ∧ am_Q κ sb ad0 A rm o h a s oc t
/-- a contract's start -/
def am_Pc (κ : am_K) (sb : Nat) (ad : List Nat) (sz : Nat) (as : List Value) (h : List am_E) : Array Value → State → Prop := fun v U =>
  v = (as.map (am_v sb ad)).toArray ∧ U.heap.size = sz ∧ va_P (am_D κ) (am_cl κ) (am_w (am_dA κ) sb ad h) U.heap ∧ va_D (fun _ => True) (am_w (am_dA κ) sb ad h) ∧
  am_T (am_D κ) (am_dA κ) (am_cl κ) (am_NW κ) (am_SL κ) U ∧ am_Z (am_A ad sz) U
/-- A CONTRACT: from these arguments and these cells the method y ends with o1 (a value, or the class of what it throws), and then the cells are h1 -/
def am_M (κ : am_K) (y : MethodName) (ws : List Cond) (rm : Room) (as : List Value) (h : List am_E) (o1 : am_O) (h1 : List am_E) : Prop :=
  ∀ (sb : Nat) (ad : List Nat) (sz : Nat), ad.length = h.length → MetFree (am_l κ) y (headSpec ws rm) (am_Pc κ sb ad sz as h) (fun _ _ _ _ _ => True) (am_Q κ sb ad (am_A ad sz) rm o1 h1)
/-- THE WALK: the method μ at pc, with these locals, this stack and these cells, ends with o1 and the cells h1; nc cells of ns slots have been made in it -/
def am_G (κ : am_K) (μ : am_N) (o1 : am_O) (h1 : List am_E) (nc ns pc : Nat) (ls : List (Nat × Value)) (st : List Value) (h : List am_E) : Prop :=
  ∀ (p : Program) (e : Env) (s : State) (m : MethodId) (args : Array Value) (below : List Frame) (meth : Method) (c : Code) (H : Heap) (locs : List Loc) (A : Nat → Prop) (sb : Nat) (ad0 ad : List Nat) (lv : Array Slot),
    am_I κ μ p s m args meth c H locs A sb ad0 ad h → lv_has lv (am_nL μ) (am_ls sb ad ls) →
    W p (am_l κ) e (am_R μ) s m args below meth c H locs nc ns (am_MQ κ below sb ad0 A (am_R μ) o1 h1 args s) (F0 m pc lv (st.map (am_v sb ad)))
/-- the same, where an exception of the class E has come into the frame -/
def am_GX (κ : am_K) (μ : am_N) (o1 : am_O) (h1 : List am_E) (nc ns pc : Nat) (ls : List (Nat × Value)) (st : List Value) (h : List am_E) (E : String) : Prop :=
  ∀ (p : Program) (e : Env) (s : State) (m : MethodId) (args : Array Value) (below : List Frame) (meth : Method) (c : Code) (H : Heap) (locs : List Loc) (A : Nat → Prop) (sb : Nat) (ad0 ad : List Nat) (lv : Array Slot) (ce : Cell) (q : Addr),
    am_I κ μ p s m args meth c H locs A sb ad0 ad h → lv_has lv (am_nL μ) (am_ls sb ad ls) → H[q]? = some ce → ce.vm = .none → s.vm.findClass E = some ce.cls →
    ∀ T : State, T.heap = H → Stand p (am_l κ) e (am_R μ) s m args below meth c T locs nc ns → ∃ t, Steps p.tables e below ((T.setTop (F0 m pc lv (st.map (am_v sb ad)))).pushFrame (.throwing q)) t ∧ am_MQ κ below sb ad0 A (am_R μ) o1 h1 args s t
theorem am_T.warm {D : va_G} {dA : FieldType → ClassId} {cl : List vw_C} {NW : List Cond} {SL : List (String × Nat × String)} {s U : State} (hW : s.WarmedH U.vm) (h : am_T D dA cl NW SL s) : am_T D dA cl NW SL U := by
  refine ⟨va_K.moved hW.alike h.1, fun w hw => ?_, fun q hq => ?_⟩
  · obtain ⟨h2, h1⟩ := h.2.1 w hw
    refine ⟨h2, ?_⟩
    have other : (w.onTables && w.keepsCast) = true → va_Nw w U := fun hk => by
      simp only [Bool.and_eq_true] at hk
      exact va_tabs hk.1 (rfl : (s.setVm U.vm).vm = U.vm) (Cond.before_shiftedCast (State.Shifted.of_warmed hW) w hk.2 h1)
    cases w <;> first | exact va_Nw.warmF hW h1 | exact va_Nw.warmM hW h1 | exact other h2
  · obtain ⟨a, ha⟩ := h.2.2 q hq
    exact ⟨a, vk_R.warm hW ha⟩
theorem am_Pc.blind {κ : am_K} {sb : Nat} {ad : List Nat} {sz : Nat} {as : List Value} {h : List am_E} : FrameBlind (am_Pc κ sb ad sz as h) := by
  intro a U g mk q
  obtain ⟨q0, q1, qP, qD, qT, qZ⟩ := q
  exact ⟨q0, q1, qP, qD, am_T.warm (State.WarmedH.refl U) qT, qZ.next ⟨State.WarmedH.refl U, Nat.le_refl _, fun _ _ _ => rfl⟩ (fun _ z => z)⟩
theorem am_free {κ : am_K} {μ : am_N} {p : Program} {s : State} {m : MethodId} {args : Array Value} {meth : Method} {c : Code} {H : Heap} {locs : List Loc} {A : Nat → Prop} {sb : Nat} {ad0 ad : List Nat} {h : List am_E}
    (I : am_I κ μ p s m args meth c H locs A sb ad0 ad h) : ∀ q, am_A ad H.size q → A q := by
  obtain ⟨-, -, -, -, hA, -, -, hlen, -, hD, hS⟩ := I
  intro q hq
  rcases hq with hq | hq
  · obtain ⟨k, hk⟩ := List.getElem?_of_mem hq
    have hlt : k < h.length := by rw [← hlen]; exact (List.getElem?_eq_some_iff.mp hk).1
    have h1 := am_w_at (dA := am_dA κ) (sb := sb) hlen (List.getElem?_eq_getElem hlt)
    have h2 := hD.2 k _ h1
    have h3 : ad.getD k sb = q := by rw [List.getD_eq_getElem?_getD, hk]; rfl
    rw [← h3]
    exact h2
  · exact hA q (Nat.le_trans hS.1 hq)
theorem am_Pc.at {κ : am_K} {μ : am_N} {p : Program} {s : State} {m : MethodId} {args : Array Value} {meth : Method} {c : Code} {H : Heap} {locs : List Loc} {A : Nat → Prop} {sb : Nat} {ad0 ad : List Nat} {h : List am_E} (as : List Value)
    (I : am_I κ μ p s m args meth c H locs A sb ad0 ad h) : ∀ U : State, U.heap = H → s.WarmedH U.vm → am_Pc κ sb ad H.size as h (as.map (am_v sb ad)).toArray U := by
  intro U hU hW
  have hF := am_free I
  obtain ⟨-, -, hT, hZ, hA, -, -, hlen, hP, hD, hS⟩ := I
  refine ⟨rfl, by rw [hU], by rw [hU]; exact hP, hD.weaken (fun _ _ _ _ => trivial), am_T.warm hW hT, ?_⟩
  exact hZ.next ⟨hW, by rw [hU]; exact hS.1, fun q h1 h2 => by rw [hU]; exact hS.2.1 q h1 h2⟩ hF
end
section
theorem g_iconst {κ : am_K} {μ : am_N} {o1 : am_O} {h1 : List am_E} {nc ns pc n : Nat} {ls : List (Nat × Value)} {st : List Value} {h : List am_E} {i : Int} {v : Int32} (d : decode (am_cc μ) pc = .ok (.iconst i, 1)) (en : pc + 1 = n) (hv : Int32.ofInt i = v)
    (k : am_G κ μ o1 h1 nc ns n ls (.int v :: st) h) : am_G κ μ o1 h1 nc ns pc ls st h := by
  subst en
  intro p e s m args below meth c H locs A sb ad0 ad lv I hl
  exact lv_iconst I.1.1 I.1.2.1 d hv (k p e s m args below meth c H locs A sb ad0 ad lv I hl)
theorem g_bipush {κ : am_K} {μ : am_N} {o1 : am_O} {h1 : List am_E} {nc ns pc n : Nat} {ls : List (Nat × Value)} {st : List Value} {h : List am_E} {i : Int} {v : Int32} (d : decode (am_cc μ) pc = .ok (.bipush i, 2)) (en : pc + 2 = n) (hv : (Int8.ofInt i).toInt32 = v)
    (k : am_G κ μ o1 h1 nc ns n ls (.int v :: st) h) : am_G κ μ o1 h1 nc ns pc ls st h := by
  subst en
  intro p e s m args below meth c H locs A sb ad0 ad lv I hl
  exact lv_bipush I.1.1 I.1.2.1 d hv (k p e s m args below meth c H locs A sb ad0 ad lv I hl)
theorem g_sipush {κ : am_K} {μ : am_N} {o1 : am_O} {h1 : List am_E} {nc ns pc n : Nat} {ls : List (Nat × Value)} {st : List Value} {h : List am_E} {i : Int} {v : Int32} (d : decode (am_cc μ) pc = .ok (.sipush i, 3)) (en : pc + 3 = n) (hv : (Int16.ofInt i).toInt32 = v)
    (k : am_G κ μ o1 h1 nc ns n ls (.int v :: st) h) : am_G κ μ o1 h1 nc ns pc ls st h := by
  subst en
  intro p e s m args below meth c H locs A sb ad0 ad lv I hl
  exact lv_sipush I.1.1 I.1.2.1 d hv (k p e s m args below meth c H locs A sb ad0 ad lv I hl)
theorem g_lconst {κ : am_K} {μ : am_N} {o1 : am_O} {h1 : List am_E} {nc ns pc n : Nat} {ls : List (Nat × Value)} {st : List Value} {h : List am_E} {i : Fin 2} {v : Int64} (d : decode (am_cc μ) pc = .ok (.lconst i, 1)) (en : pc + 1 = n) (hv : Int64.ofNat (i : Nat) = v)
    (k : am_G κ μ o1 h1 nc ns n ls (.long v :: st) h) : am_G κ μ o1 h1 nc ns pc ls st h := by
  subst en
  intro p e s m args below meth c H locs A sb ad0 ad lv I hl
  exact lv_lconst I.1.1 I.1.2.1 d hv (k p e s m args below meth c H locs A sb ad0 ad lv I hl)
theorem g_iadd {κ : am_K} {μ : am_N} {o1 : am_O} {h1 : List am_E} {nc ns pc n : Nat} {ls : List (Nat × Value)} {st : List Value} {h : List am_E} {x y : Int32} (d : decode (am_cc μ) pc = .ok (.iadd, 1)) (en : pc + 1 = n) 
    (k : am_G κ μ o1 h1 nc ns n ls (.int (x + y) :: st) h) : am_G κ μ o1 h1 nc ns pc ls (.int y :: .int x :: st) h := by
  subst en
  intro p e s m args below meth c H locs A sb ad0 ad lv I hl
  exact lv_iadd I.1.1 I.1.2.1 d  (k p e s m args below meth c H locs A sb ad0 ad lv I hl)
theorem g_isub {κ : am_K} {μ : am_N} {o1 : am_O} {h1 : List am_E} {nc ns pc n : Nat} {ls : List (Nat × Value)} {st : List Value} {h : List am_E} {x y : Int32} (d : decode (am_cc μ) pc = .ok (.isub, 1)) (en : pc + 1 = n) 
    (k : am_G κ μ o1 h1 nc ns n ls (.int (x - y) :: st) h) : am_G κ μ o1 h1 nc ns pc ls (.int y :: .int x :: st) h := by
  subst en
  intro p e s m args below meth c H locs A sb ad0 ad lv I hl
  exact lv_isub I.1.1 I.1.2.1 d  (k p e s m args below meth c H locs A sb ad0 ad lv I hl)
theorem g_imul {κ : am_K} {μ : am_N} {o1 : am_O} {h1 : List am_E} {nc ns pc n : Nat} {ls : List (Nat × Value)} {st : List Value} {h : List am_E} {x y : Int32} (d : decode (am_cc μ) pc = .ok (.imul, 1)) (en : pc + 1 = n) 
    (k : am_G κ μ o1 h1 nc ns n ls (.int (x * y) :: st) h) : am_G κ μ o1 h1 nc ns pc ls (.int y :: .int x :: st) h := by
  subst en
  intro p e s m args below meth c H locs A sb ad0 ad lv I hl
  exact lv_imul I.1.1 I.1.2.1 d  (k p e s m args below meth c H locs A sb ad0 ad lv I hl)
theorem g_iand {κ : am_K} {μ : am_N} {o1 : am_O} {h1 : List am_E} {nc ns pc n : Nat} {ls : List (Nat × Value)} {st : List Value} {h : List am_E} {x y : Int32} (d : decode (am_cc μ) pc = .ok (.iand, 1)) (en : pc + 1 = n) 
    (k : am_G κ μ o1 h1 nc ns n ls (.int (x &&& y) :: st) h) : am_G κ μ o1 h1 nc ns pc ls (.int y :: .int x :: st) h := by
  subst en
  intro p e s m args below meth c H locs A sb ad0 ad lv I hl
  exact lv_iand I.1.1 I.1.2.1 d  (k p e s m args below meth c H locs A sb ad0 ad lv I hl)
theorem g_ior {κ : am_K} {μ : am_N} {o1 : am_O} {h1 : List am_E} {nc ns pc n : Nat} {ls : List (Nat × Value)} {st : List Value} {h : List am_E} {x y : Int32} (d : decode (am_cc μ) pc = .ok (.ior, 1)) (en : pc + 1 = n) 
    (k : am_G κ μ o1 h1 nc ns n ls (.int (x ||| y) :: st) h) : am_G κ μ o1 h1 nc ns pc ls (.int y :: .int x :: st) h := by
  subst en
  intro p e s m args below meth c H locs A sb ad0 ad lv I hl
  exact lv_ior I.1.1 I.1.2.1 d  (k p e s m args below meth c H locs A sb ad0 ad lv I hl)
theorem g_ixor {κ : am_K} {μ : am_N} {o1 : am_O} {h1 : List am_E} {nc ns pc n : Nat} {ls : List (Nat × Value)} {st : List Value} {h : List am_E} {x y : Int32} (d : decode (am_cc μ) pc = .ok (.ixor, 1)) (en : pc + 1 = n) 
    (k : am_G κ μ o1 h1 nc ns n ls (.int (x ^^^ y) :: st) h) : am_G κ μ o1 h1 nc ns pc ls (.int y :: .int x :: st) h := by
  subst en
  intro p e s m args below meth c H locs A sb ad0 ad lv I hl
  exact lv_ixor I.1.1 I.1.2.1 d  (k p e s m args below meth c H locs A sb ad0 ad lv I hl)
theorem g_ishl {κ : am_K} {μ : am_N} {o1 : am_O} {h1 : List am_E} {nc ns pc n : Nat} {ls : List (Nat × Value)} {st : List Value} {h : List am_E} {x y : Int32} (d : decode (am_cc μ) pc = .ok (.ishl, 1)) (en : pc + 1 = n) 
    (k : am_G κ μ o1 h1 nc ns n ls (.int (x <<< (y &&& 31)) :: st) h) : am_G κ μ o1 h1 nc ns pc ls (.int y :: .int x :: st) h := by
  subst en
  intro p e s m args below meth c H locs A sb ad0 ad lv I hl
  exact lv_ishl I.1.1 I.1.2.1 d  (k p e s m args below meth c H locs A sb ad0 ad lv I hl)
theorem g_ishr {κ : am_K} {μ : am_N} {o1 : am_O} {h1 : List am_E} {nc ns pc n : Nat} {ls : List (Nat × Value)} {st : List Value} {h : List am_E} {x y : Int32} (d : decode (am_cc μ) pc = .ok (.ishr, 1)) (en : pc + 1 = n) 
    (k : am_G κ μ o1 h1 nc ns n ls (.int (x >>> (y &&& 31)) :: st) h) : am_G κ μ o1 h1 nc ns pc ls (.int y :: .int x :: st) h := by
  subst en
  intro p e s m args below meth c H locs A sb ad0 ad lv I hl
  exact lv_ishr I.1.1 I.1.2.1 d  (k p e s m args below meth c H locs A sb ad0 ad lv I hl)
theorem g_idiv {κ : am_K} {μ : am_N} {o1 : am_O} {h1 : List am_E} {nc ns pc n : Nat} {ls : List (Nat × Value)} {st : List Value} {h : List am_E} {x y : Int32} (d : decode (am_cc μ) pc = .ok (.idiv, 1)) (en : pc + 1 = n) (hne : ¬ y = 0)
    (k : am_G κ μ o1 h1 nc ns n ls (.int (x / y) :: st) h) : am_G κ μ o1 h1 nc ns pc ls (.int y :: .int x :: st) h := by
  subst en
  intro p e s m args below meth c H locs A sb ad0 ad lv I hl
  exact lv_idiv I.1.1 I.1.2.1 d hne (k p e s m args below meth c H locs A sb ad0 ad lv I hl)
theorem g_irem {κ : am_K} {μ : am_N} {o1 : am_O} {h1 : List am_E} {nc ns pc n : Nat} {ls : List (Nat × Value)} {st : List Value} {h : List am_E} {x y : Int32} (d : decode (am_cc μ) pc = .ok (.irem, 1)) (en : pc + 1 = n) (hne : ¬ y = 0)
    (k : am_G κ μ o1 h1 nc ns n ls (.int (x - x / y * y) :: st) h) : am_G κ μ o1 h1 nc ns pc ls (.int y :: .int x :: st) h := by
  subst en
  intro p e s m args below meth c H locs A sb ad0 ad lv I hl
  exact lv_irem I.1.1 I.1.2.1 d hne (k p e s m args below meth c H locs A sb ad0 ad lv I hl)
theorem g_iushr {κ : am_K} {μ : am_N} {o1 : am_O} {h1 : List am_E} {nc ns pc n : Nat} {ls : List (Nat × Value)} {st : List Value} {h : List am_E} {x y : Int32} (d : decode (am_cc μ) pc = .ok (.iushr, 1)) (en : pc + 1 = n) 
    (k : am_G κ μ o1 h1 nc ns n ls (.int (x.toUInt32 >>> (y.toUInt32 &&& Int32.toUInt32 31)).toInt32 :: st) h) : am_G κ μ o1 h1 nc ns pc ls (.int y :: .int x :: st) h := by
  subst en
  intro p e s m args below meth c H locs A sb ad0 ad lv I hl
  exact lv_iushr I.1.1 I.1.2.1 d rfl (k p e s m args below meth c H locs A sb ad0 ad lv I hl)
theorem g_ineg {κ : am_K} {μ : am_N} {o1 : am_O} {h1 : List am_E} {nc ns pc n : Nat} {ls : List (Nat × Value)} {st : List Value} {h : List am_E} {x : Int32} (d : decode (am_cc μ) pc = .ok (.ineg, 1)) (en : pc + 1 = n) 
    (k : am_G κ μ o1 h1 nc ns n ls (.int (-x) :: st) h) : am_G κ μ o1 h1 nc ns pc ls (.int x :: st) h := by
  subst en
  intro p e s m args below meth c H locs A sb ad0 ad lv I hl
  exact lv_ineg I.1.1 I.1.2.1 d  (k p e s m args below meth c H locs A sb ad0 ad lv I hl)
theorem g_ladd {κ : am_K} {μ : am_N} {o1 : am_O} {h1 : List am_E} {nc ns pc n : Nat} {ls : List (Nat × Value)} {st : List Value} {h : List am_E} {x y : Int64} (d : decode (am_cc μ) pc = .ok (.ladd, 1)) (en : pc + 1 = n) 
    (k : am_G κ μ o1 h1 nc ns n ls (.long (x + y) :: st) h) : am_G κ μ o1 h1 nc ns pc ls (.long y :: .long x :: st) h := by
  subst en
  intro p e s m args below meth c H locs A sb ad0 ad lv I hl
  exact lv_ladd I.1.1 I.1.2.1 d  (k p e s m args below meth c H locs A sb ad0 ad lv I hl)
theorem g_lsub {κ : am_K} {μ : am_N} {o1 : am_O} {h1 : List am_E} {nc ns pc n : Nat} {ls : List (Nat × Value)} {st : List Value} {h : List am_E} {x y : Int64} (d : decode (am_cc μ) pc = .ok (.lsub, 1)) (en : pc + 1 = n) 
    (k : am_G κ μ o1 h1 nc ns n ls (.long (x - y) :: st) h) : am_G κ μ o1 h1 nc ns pc ls (.long y :: .long x :: st) h := by
  subst en
  intro p e s m args below meth c H locs A sb ad0 ad lv I hl
  exact lv_lsub I.1.1 I.1.2.1 d  (k p e s m args below meth c H locs A sb ad0 ad lv I hl)
theorem g_lmul {κ : am_K} {μ : am_N} {o1 : am_O} {h1 : List am_E} {nc ns pc n : Nat} {ls : List (Nat × Value)} {st : List Value} {h : List am_E} {x y : Int64} (d : decode (am_cc μ) pc = .ok (.lmul, 1)) (en : pc + 1 = n) 
    (k : am_G κ μ o1 h1 nc ns n ls (.long (x * y) :: st) h) : am_G κ μ o1 h1 nc ns pc ls (.long y :: .long x :: st) h := by
  subst en
  intro p e s m args below meth c H locs A sb ad0 ad lv I hl
  exact lv_lmul I.1.1 I.1.2.1 d  (k p e s m args below meth c H locs A sb ad0 ad lv I hl)
theorem g_land {κ : am_K} {μ : am_N} {o1 : am_O} {h1 : List am_E} {nc ns pc n : Nat} {ls : List (Nat × Value)} {st : List Value} {h : List am_E} {x y : Int64} (d : decode (am_cc μ) pc = .ok (.land, 1)) (en : pc + 1 = n) 
    (k : am_G κ μ o1 h1 nc ns n ls (.long (x &&& y) :: st) h) : am_G κ μ o1 h1 nc ns pc ls (.long y :: .long x :: st) h := by
  subst en
  intro p e s m args below meth c H locs A sb ad0 ad lv I hl
  exact lv_land I.1.1 I.1.2.1 d  (k p e s m args below meth c H locs A sb ad0 ad lv I hl)
theorem g_lor {κ : am_K} {μ : am_N} {o1 : am_O} {h1 : List am_E} {nc ns pc n : Nat} {ls : List (Nat × Value)} {st : List Value} {h : List am_E} {x y : Int64} (d : decode (am_cc μ) pc = .ok (.lor, 1)) (en : pc + 1 = n) 
    (k : am_G κ μ o1 h1 nc ns n ls (.long (x ||| y) :: st) h) : am_G κ μ o1 h1 nc ns pc ls (.long y :: .long x :: st) h := by
  subst en
  intro p e s m args below meth c H locs A sb ad0 ad lv I hl
  exact lv_lor I.1.1 I.1.2.1 d  (k p e s m args below meth c H locs A sb ad0 ad lv I hl)
theorem g_lxor {κ : am_K} {μ : am_N} {o1 : am_O} {h1 : List am_E} {nc ns pc n : Nat} {ls : List (Nat × Value)} {st : List Value} {h : List am_E} {x y : Int64} (d : decode (am_cc μ) pc = .ok (.lxor, 1)) (en : pc + 1 = n) 
    (k : am_G κ μ o1 h1 nc ns n ls (.long (x ^^^ y) :: st) h) : am_G κ μ o1 h1 nc ns pc ls (.long y :: .long x :: st) h := by
  subst en
  intro p e s m args below meth c H locs A sb ad0 ad lv I hl
  exact lv_lxor I.1.1 I.1.2.1 d  (k p e s m args below meth c H locs A sb ad0 ad lv I hl)
theorem g_lshl {κ : am_K} {μ : am_N} {o1 : am_O} {h1 : List am_E} {nc ns pc n : Nat} {ls : List (Nat × Value)} {st : List Value} {h : List am_E} {x : Int64} {y : Int32} (d : decode (am_cc μ) pc = .ok (.lshl, 1)) (en : pc + 1 = n) 
    (k : am_G κ μ o1 h1 nc ns n ls (.long (x <<< (y.toInt64 &&& 63)) :: st) h) : am_G κ μ o1 h1 nc ns pc ls (.int y :: .long x :: st) h := by
  subst en
  intro p e s m args below meth c H locs A sb ad0 ad lv I hl
  exact lv_lshl I.1.1 I.1.2.1 d rfl (k p e s m args below meth c H locs A sb ad0 ad lv I hl)
theorem g_lshr {κ : am_K} {μ : am_N} {o1 : am_O} {h1 : List am_E} {nc ns pc n : Nat} {ls : List (Nat × Value)} {st : List Value} {h : List am_E} {x : Int64} {y : Int32} (d : decode (am_cc μ) pc = .ok (.lshr, 1)) (en : pc + 1 = n) 
    (k : am_G κ μ o1 h1 nc ns n ls (.long (x >>> (y.toInt64 &&& 63)) :: st) h) : am_G κ μ o1 h1 nc ns pc ls (.int y :: .long x :: st) h := by
  subst en
  intro p e s m args below meth c H locs A sb ad0 ad lv I hl
  exact lv_lshr I.1.1 I.1.2.1 d rfl (k p e s m args below meth c H locs A sb ad0 ad lv I hl)
theorem g_lushr {κ : am_K} {μ : am_N} {o1 : am_O} {h1 : List am_E} {nc ns pc n : Nat} {ls : List (Nat × Value)} {st : List Value} {h : List am_E} {x : Int64} {y : Int32} (d : decode (am_cc μ) pc = .ok (.lushr, 1)) (en : pc + 1 = n) 
    (k : am_G κ μ o1 h1 nc ns n ls (.long (x.toUInt64 >>> (y.toInt64.toUInt64 &&& Int64.toUInt64 63)).toInt64 :: st) h) : am_G κ μ o1 h1 nc ns pc ls (.int y :: .long x :: st) h := by
  subst en
  intro p e s m args below meth c H locs A sb ad0 ad lv I hl
  exact lv_lushr I.1.1 I.1.2.1 d rfl (k p e s m args below meth c H locs A sb ad0 ad lv I hl)
theorem g_i2l {κ : am_K} {μ : am_N} {o1 : am_O} {h1 : List am_E} {nc ns pc n : Nat} {ls : List (Nat × Value)} {st : List Value} {h : List am_E} {x : Int32} (d : decode (am_cc μ) pc = .ok (.i2l, 1)) (en : pc + 1 = n) 
    (k : am_G κ μ o1 h1 nc ns n ls (.long x.toInt64 :: st) h) : am_G κ μ o1 h1 nc ns pc ls (.int x :: st) h := by
  subst en
  intro p e s m args below meth c H locs A sb ad0 ad lv I hl
  exact lv_i2l I.1.1 I.1.2.1 d rfl (k p e s m args below meth c H locs A sb ad0 ad lv I hl)
theorem g_l2i {κ : am_K} {μ : am_N} {o1 : am_O} {h1 : List am_E} {nc ns pc n : Nat} {ls : List (Nat × Value)} {st : List Value} {h : List am_E} {x : Int64} (d : decode (am_cc μ) pc = .ok (.l2i, 1)) (en : pc + 1 = n) 
    (k : am_G κ μ o1 h1 nc ns n ls (.int x.toInt32 :: st) h) : am_G κ μ o1 h1 nc ns pc ls (.long x :: st) h := by
  subst en
  intro p e s m args below meth c H locs A sb ad0 ad lv I hl
  exact lv_l2i I.1.1 I.1.2.1 d rfl (k p e s m args below meth c H locs A sb ad0 ad lv I hl)
theorem g_i2b {κ : am_K} {μ : am_N} {o1 : am_O} {h1 : List am_E} {nc ns pc n : Nat} {ls : List (Nat × Value)} {st : List Value} {h : List am_E} {x : Int32} (d : decode (am_cc μ) pc = .ok (.i2b, 1)) (en : pc + 1 = n) 
    (k : am_G κ μ o1 h1 nc ns n ls (.int x.toInt8.toInt32 :: st) h) : am_G κ μ o1 h1 nc ns pc ls (.int x :: st) h := by
  subst en
  intro p e s m args below meth c H locs A sb ad0 ad lv I hl
  exact lv_i2b I.1.1 I.1.2.1 d rfl (k p e s m args below meth c H locs A sb ad0 ad lv I hl)
theorem g_i2s {κ : am_K} {μ : am_N} {o1 : am_O} {h1 : List am_E} {nc ns pc n : Nat} {ls : List (Nat × Value)} {st : List Value} {h : List am_E} {x : Int32} (d : decode (am_cc μ) pc = .ok (.i2s, 1)) (en : pc + 1 = n) 
    (k : am_G κ μ o1 h1 nc ns n ls (.int x.toInt16.toInt32 :: st) h) : am_G κ μ o1 h1 nc ns pc ls (.int x :: st) h := by
  subst en
  intro p e s m args below meth c H locs A sb ad0 ad lv I hl
  exact lv_i2s I.1.1 I.1.2.1 d rfl (k p e s m args below meth c H locs A sb ad0 ad lv I hl)
theorem g_i2c {κ : am_K} {μ : am_N} {o1 : am_O} {h1 : List am_E} {nc ns pc n : Nat} {ls : List (Nat × Value)} {st : List Value} {h : List am_E} {x : Int32} (d : decode (am_cc μ) pc = .ok (.i2c, 1)) (en : pc + 1 = n) 
    (k : am_G κ μ o1 h1 nc ns n ls (.int (x.toUInt32 % 65536).toInt32 :: st) h) : am_G κ μ o1 h1 nc ns pc ls (.int x :: st) h := by
  subst en
  intro p e s m args below meth c H locs A sb ad0 ad lv I hl
  exact lv_i2c I.1.1 I.1.2.1 d rfl (k p e s m args below meth c H locs A sb ad0 ad lv I hl)
theorem g_lcmp {κ : am_K} {μ : am_N} {o1 : am_O} {h1 : List am_E} {nc ns pc n : Nat} {ls : List (Nat × Value)} {st : List Value} {h : List am_E} {x y : Int64} (d : decode (am_cc μ) pc = .ok (.lcmp, 1)) (en : pc + 1 = n) 
    (k : am_G κ μ o1 h1 nc ns n ls (.int (lg_cmp x y) :: st) h) : am_G κ μ o1 h1 nc ns pc ls (.long y :: .long x :: st) h := by
  subst en
  intro p e s m args below meth c H locs A sb ad0 ad lv I hl
  exact W.lcmp I.1.1 I.1.2.1 d  (k p e s m args below meth c H locs A sb ad0 ad lv I hl)
theorem g_dup {κ : am_K} {μ : am_N} {o1 : am_O} {h1 : List am_E} {nc ns pc n : Nat} {ls : List (Nat × Value)} {st : List Value} {h : List am_E} {v : Value} (d : decode (am_cc μ) pc = .ok (.dup, 1)) (en : pc + 1 = n) (hv : v.category = 1)
    (k : am_G κ μ o1 h1 nc ns n ls (v :: v :: st) h) : am_G κ μ o1 h1 nc ns pc ls (v :: st) h := by
  subst en
  intro p e s m args below meth c H locs A sb ad0 ad lv I hl
  exact lv_dup I.1.1 I.1.2.1 d (by rw [am_v_cat]; exact hv) (k p e s m args below meth c H locs A sb ad0 ad lv I hl)
theorem g_pop {κ : am_K} {μ : am_N} {o1 : am_O} {h1 : List am_E} {nc ns pc n : Nat} {ls : List (Nat × Value)} {st : List Value} {h : List am_E} {v : Value} (d : decode (am_cc μ) pc = .ok (.pop, 1)) (en : pc + 1 = n) (hv : v.category = 1)
    (k : am_G κ μ o1 h1 nc ns n ls st h) : am_G κ μ o1 h1 nc ns pc ls (v :: st) h := by
  subst en
  intro p e s m args below meth c H locs A sb ad0 ad lv I hl
  exact lv_pop I.1.1 I.1.2.1 d (by rw [am_v_cat]; exact hv) (k p e s m args below meth c H locs A sb ad0 ad lv I hl)
theorem g_dup_x1 {κ : am_K} {μ : am_N} {o1 : am_O} {h1 : List am_E} {nc ns pc n : Nat} {ls : List (Nat × Value)} {st : List Value} {h : List am_E} {v w : Value} (d : decode (am_cc μ) pc = .ok (.dup_x1, 1)) (en : pc + 1 = n) (hv : v.category = 1) (hw : w.category = 1)
    (k : am_G κ μ o1 h1 nc ns n ls (v :: w :: v :: st) h) : am_G κ μ o1 h1 nc ns pc ls (v :: w :: st) h := by
  subst en
  intro p e s m args below meth c H locs A sb ad0 ad lv I hl
  exact lv_dup_x1 I.1.1 I.1.2.1 d (by rw [am_v_cat]; exact hv) (by rw [am_v_cat]; exact hw) (k p e s m args below meth c H locs A sb ad0 ad lv I hl)
theorem g_dup_x2 {κ : am_K} {μ : am_N} {o1 : am_O} {h1 : List am_E} {nc ns pc n : Nat} {ls : List (Nat × Value)} {st : List Value} {h : List am_E} {v w u : Value} (d : decode (am_cc μ) pc = .ok (.dup_x2, 1)) (en : pc + 1 = n) (hv : v.category = 1) (hw : w.category = 1) (hu : u.category = 1)
    (k : am_G κ μ o1 h1 nc ns n ls (v :: w :: u :: v :: st) h) : am_G κ μ o1 h1 nc ns pc ls (v :: w :: u :: st) h := by
  subst en
  intro p e s m args below meth c H locs A sb ad0 ad lv I hl
  exact lv_dup_x2 I.1.1 I.1.2.1 d (by rw [am_v_cat]; exact hv) (by rw [am_v_cat]; exact hw) (by rw [am_v_cat]; exact hu) (k p e s m args below meth c H locs A sb ad0 ad lv I hl)
theorem g_dup2 {κ : am_K} {μ : am_N} {o1 : am_O} {h1 : List am_E} {nc ns pc n : Nat} {ls : List (Nat × Value)} {st : List Value} {h : List am_E} {v w : Value} (d : decode (am_cc μ) pc = .ok (.dup2, 1)) (en : pc + 1 = n) (hv : v.category = 1) (hw : w.category = 1)
    (k : am_G κ μ o1 h1 nc ns n ls (v :: w :: v :: w :: st) h) : am_G κ μ o1 h1 nc ns pc ls (v :: w :: st) h := by
  subst en
  intro p e s m args below meth c H locs A sb ad0 ad lv I hl
  exact lv_dup2_11 I.1.1 I.1.2.1 d (by rw [am_v_cat]; exact hv) (by rw [am_v_cat]; exact hw) (k p e s m args below meth c H locs A sb ad0 ad lv I hl)
theorem g_dup2l {κ : am_K} {μ : am_N} {o1 : am_O} {h1 : List am_E} {nc ns pc n : Nat} {ls : List (Nat × Value)} {st : List Value} {h : List am_E} {v : Value} (d : decode (am_cc μ) pc = .ok (.dup2, 1)) (en : pc + 1 = n) (hv : v.category = 2)
    (k : am_G κ μ o1 h1 nc ns n ls (v :: v :: st) h) : am_G κ μ o1 h1 nc ns pc ls (v :: st) h := by
  subst en
  intro p e s m args below meth c H locs A sb ad0 ad lv I hl
  exact lv_dup2_2 I.1.1 I.1.2.1 d (by rw [am_v_cat]; exact hv) (k p e s m args below meth c H locs A sb ad0 ad lv I hl)
theorem g_pop2l {κ : am_K} {μ : am_N} {o1 : am_O} {h1 : List am_E} {nc ns pc n : Nat} {ls : List (Nat × Value)} {st : List Value} {h : List am_E} {v : Value} (d : decode (am_cc μ) pc = .ok (.pop2, 1)) (en : pc + 1 = n) (hv : v.category = 2)
    (k : am_G κ μ o1 h1 nc ns n ls st h) : am_G κ μ o1 h1 nc ns pc ls (v :: st) h := by
  subst en
  intro p e s m args below meth c H locs A sb ad0 ad lv I hl
  exact lv_pop2_2 I.1.1 I.1.2.1 d (by rw [am_v_cat]; exact hv) (k p e s m args below meth c H locs A sb ad0 ad lv I hl)
theorem g_ldc {κ : am_K} {μ : am_N} {o1 : am_O} {h1 : List am_E} {nc ns pc n : Nat} {ls : List (Nat × Value)} {st : List Value} {h : List am_E} {i : Nat} {v : Int32} (d : decode (am_cc μ) pc = .ok (.ldc i, 2)) (en : pc + 2 = n) (hc : Jvm.Cond.constant (am_own μ) i v ∈ am_ws μ)
    (k : am_G κ μ o1 h1 nc ns n ls (.int v :: st) h) : am_G κ μ o1 h1 nc ns pc ls st h := by
  subst en
  intro p e s m args below meth c H locs A sb ad0 ad lv I hl
  exact lv_ldc I.1.1 I.1.2.1 I.1.2.2.2.1 (I.1.2.2.2.2 _ hc) d (k p e s m args below meth c H locs A sb ad0 ad lv I hl)
theorem g_ldc2 {κ : am_K} {μ : am_N} {o1 : am_O} {h1 : List am_E} {nc ns pc n : Nat} {ls : List (Nat × Value)} {st : List Value} {h : List am_E} {i : Nat} {v : Int64} (d : decode (am_cc μ) pc = .ok (.ldc2_w i, 3)) (en : pc + 3 = n) (hc : Jvm.Cond.constantLong (am_own μ) i v ∈ am_ws μ)
    (k : am_G κ μ o1 h1 nc ns n ls (.long v :: st) h) : am_G κ μ o1 h1 nc ns pc ls st h := by
  subst en
  intro p e s m args below meth c H locs A sb ad0 ad lv I hl
  exact lv_ldc2 I.1.1 I.1.2.1 I.1.2.2.2.1 (I.1.2.2.2.2 _ hc) d (k p e s m args below meth c H locs A sb ad0 ad lv I hl)
theorem am_at {sb : Nat} {ad : List Nat} {ls : List (Nat × Value)} {lv : Array Slot} {nL k i : Nat} {v : Value} (hl : lv_has lv nL (am_ls sb ad ls)) (hk : ls[k]? = some (i, v)) : lv[i]? = some (.val (am_v sb ad v)) :=
  lv_at hl k (by unfold am_ls; rw [List.getElem?_map, hk]; rfl)
def am_keep (i : Nat) (q : Nat × Value) : Bool := !(q.1 == i) && !(q.1 + 1 == i && q.2.category == 2)
def am_keep2 (i : Nat) (q : Nat × Value) : Bool := !(q.1 == i) && (!(q.1 == i + 1) && !(q.1 + 1 == i && q.2.category == 2))
theorem am_st {sb : Nat} {ad : List Nat} {ls ls' : List (Nat × Value)} {i : Nat} {v : Value} (e : (i, v) :: ls.filter (am_keep i) = ls') : (i, am_v sb ad v) :: (am_ls sb ad ls).filter (fun q => !(q.1 == i) && !(q.1 + 1 == i && q.2.category == 2)) = am_ls sb ad ls' := by
  subst e
  unfold am_ls
  rw [List.map_cons, List.filter_map]
  congr 2
  apply List.filter_congr
  intro q _
  simp only [Function.comp, am_keep, am_v_cat]
theorem am_st2 {sb : Nat} {ad : List Nat} {ls ls' : List (Nat × Value)} {i : Nat} {v : Value} (e : (i, v) :: ls.filter (am_keep2 i) = ls') : (i, am_v sb ad v) :: (am_ls sb ad ls).filter (fun q => !(q.1 == i) && (!(q.1 == i + 1) && !(q.1 + 1 == i && q.2.category == 2))) = am_ls sb ad ls' := by
  subst e
  unfold am_ls
  rw [List.map_cons, List.filter_map]
  congr 2
  apply List.filter_congr
  intro q _
  simp only [Function.comp, am_keep2, am_v_cat]
theorem g_iload_n {κ : am_K} {μ : am_N} {o1 : am_O} {h1 : List am_E} {nc ns pc n : Nat} {ls : List (Nat × Value)} {st : List Value} {h : List am_E} {j : Fin 4} {i : Nat} {x : Int32} (d : decode (am_cc μ) pc = .ok (.iload_n j, 1)) (en : pc + 1 = n) (kx : Nat) (hi : (j : Nat) = i) (hk : ls[kx]? = some (i, .int x))
    (k : am_G κ μ o1 h1 nc ns n ls (.int x :: st) h) : am_G κ μ o1 h1 nc ns pc ls st h := by
  subst en
  intro p e s m args below meth c H locs A sb ad0 ad lv I hl
  exact lv_iload_n I.1.1 I.1.2.1 d hi (am_at hl hk) (k p e s m args below meth c H locs A sb ad0 ad lv I hl)
theorem g_iload {κ : am_K} {μ : am_N} {o1 : am_O} {h1 : List am_E} {nc ns pc n : Nat} {ls : List (Nat × Value)} {st : List Value} {h : List am_E} {i : Nat} {x : Int32} (d : decode (am_cc μ) pc = .ok (.iload i, 2)) (en : pc + 2 = n) (kx : Nat) (hk : ls[kx]? = some (i, .int x))
    (k : am_G κ μ o1 h1 nc ns n ls (.int x :: st) h) : am_G κ μ o1 h1 nc ns pc ls st h := by
  subst en
  intro p e s m args below meth c H locs A sb ad0 ad lv I hl
  exact lv_iload I.1.1 I.1.2.1 d (am_at hl hk) (k p e s m args below meth c H locs A sb ad0 ad lv I hl)
theorem g_istore_n {κ : am_K} {μ : am_N} {o1 : am_O} {h1 : List am_E} {nc ns pc n : Nat} {ls : List (Nat × Value)} {st : List Value} {h : List am_E} {j : Fin 4} {i : Nat} {x : Int32} {ls' : List (Nat × Value)} (d : decode (am_cc μ) pc = .ok (.istore_n j, 1)) (en : pc + 1 = n) (hi : (j : Nat) = i) (hn : i < am_nL μ) (e : (i, Value.int x) :: ls.filter (am_keep i) = ls')
    (k : am_G κ μ o1 h1 nc ns n ls' st h) : am_G κ μ o1 h1 nc ns pc ls (.int x :: st) h := by
  subst en
  intro p e9 s m args below meth c H locs A sb ad0 ad lv I hl
  exact lv_istore_n I.1.1 I.1.2.1 d hi hl hn (am_st e) (fun lv' hl' => k p e9 s m args below meth c H locs A sb ad0 ad lv' I hl')
theorem g_istore {κ : am_K} {μ : am_N} {o1 : am_O} {h1 : List am_E} {nc ns pc n : Nat} {ls : List (Nat × Value)} {st : List Value} {h : List am_E} {i : Nat} {x : Int32} {ls' : List (Nat × Value)} (d : decode (am_cc μ) pc = .ok (.istore i, 2)) (en : pc + 2 = n) (hn : i < am_nL μ) (e : (i, Value.int x) :: ls.filter (am_keep i) = ls')
    (k : am_G κ μ o1 h1 nc ns n ls' st h) : am_G κ μ o1 h1 nc ns pc ls (.int x :: st) h := by
  subst en
  intro p e9 s m args below meth c H locs A sb ad0 ad lv I hl
  exact lv_istore I.1.1 I.1.2.1 d hl hn (am_st e) (fun lv' hl' => k p e9 s m args below meth c H locs A sb ad0 ad lv' I hl')
theorem g_lload_n {κ : am_K} {μ : am_N} {o1 : am_O} {h1 : List am_E} {nc ns pc n : Nat} {ls : List (Nat × Value)} {st : List Value} {h : List am_E} {j : Fin 4} {i : Nat} {x : Int64} (d : decode (am_cc μ) pc = .ok (.lload_n j, 1)) (en : pc + 1 = n) (kx : Nat) (hi : (j : Nat) = i) (hk : ls[kx]? = some (i, .long x))
    (k : am_G κ μ o1 h1 nc ns n ls (.long x :: st) h) : am_G κ μ o1 h1 nc ns pc ls st h := by
  subst en
  intro p e s m args below meth c H locs A sb ad0 ad lv I hl
  exact lv_lload_n I.1.1 I.1.2.1 d hi (am_at hl hk) (k p e s m args below meth c H locs A sb ad0 ad lv I hl)
theorem g_lload {κ : am_K} {μ : am_N} {o1 : am_O} {h1 : List am_E} {nc ns pc n : Nat} {ls : List (Nat × Value)} {st : List Value} {h : List am_E} {i : Nat} {x : Int64} (d : decode (am_cc μ) pc = .ok (.lload i, 2)) (en : pc + 2 = n) (kx : Nat) (hk : ls[kx]? = some (i, .long x))
    (k : am_G κ μ o1 h1 nc ns n ls (.long x :: st) h) : am_G κ μ o1 h1 nc ns pc ls st h := by
  subst en
  intro p e s m args below meth c H locs A sb ad0 ad lv I hl
  exact lv_lload I.1.1 I.1.2.1 d (am_at hl hk) (k p e s m args below meth c H locs A sb ad0 ad lv I hl)
theorem g_lstore_n {κ : am_K} {μ : am_N} {o1 : am_O} {h1 : List am_E} {nc ns pc n : Nat} {ls : List (Nat × Value)} {st : List Value} {h : List am_E} {j : Fin 4} {i : Nat} {x : Int64} {ls' : List (Nat × Value)} (d : decode (am_cc μ) pc = .ok (.lstore_n j, 1)) (en : pc + 1 = n) (hi : (j : Nat) = i) (hn : i + 1 < am_nL μ) (e : (i, Value.long x) :: ls.filter (am_keep2 i) = ls')
    (k : am_G κ μ o1 h1 nc ns n ls' st h) : am_G κ μ o1 h1 nc ns pc ls (.long x :: st) h := by
  subst en
  intro p e9 s m args below meth c H locs A sb ad0 ad lv I hl
  exact lv_lstore_n I.1.1 I.1.2.1 d hi hl hn (am_st2 e) (fun lv' hl' => k p e9 s m args below meth c H locs A sb ad0 ad lv' I hl')
theorem g_lstore {κ : am_K} {μ : am_N} {o1 : am_O} {h1 : List am_E} {nc ns pc n : Nat} {ls : List (Nat × Value)} {st : List Value} {h : List am_E} {i : Nat} {x : Int64} {ls' : List (Nat × Value)} (d : decode (am_cc μ) pc = .ok (.lstore i, 2)) (en : pc + 2 = n) (hn : i + 1 < am_nL μ) (e : (i, Value.long x) :: ls.filter (am_keep2 i) = ls')
    (k : am_G κ μ o1 h1 nc ns n ls' st h) : am_G κ μ o1 h1 nc ns pc ls (.long x :: st) h := by
  subst en
  intro p e9 s m args below meth c H locs A sb ad0 ad lv I hl
  exact lv_lstore I.1.1 I.1.2.1 d hl hn (am_st2 e) (fun lv' hl' => k p e9 s m args below meth c H locs A sb ad0 ad lv' I hl')
theorem g_aload_n {κ : am_K} {μ : am_N} {o1 : am_O} {h1 : List am_E} {nc ns pc n : Nat} {ls : List (Nat × Value)} {st : List Value} {h : List am_E} {j : Fin 4} {i : Nat} {x : Nat} (d : decode (am_cc μ) pc = .ok (.aload_n j, 1)) (en : pc + 1 = n) (kx : Nat) (hi : (j : Nat) = i) (hk : ls[kx]? = some (i, .ref x))
    (k : am_G κ μ o1 h1 nc ns n ls (.ref x :: st) h) : am_G κ μ o1 h1 nc ns pc ls st h := by
  subst en
  intro p e s m args below meth c H locs A sb ad0 ad lv I hl
  exact lv_aload_n I.1.1 I.1.2.1 d hi (am_at hl hk) (k p e s m args below meth c H locs A sb ad0 ad lv I hl)
theorem g_aload {κ : am_K} {μ : am_N} {o1 : am_O} {h1 : List am_E} {nc ns pc n : Nat} {ls : List (Nat × Value)} {st : List Value} {h : List am_E} {i : Nat} {x : Nat} (d : decode (am_cc μ) pc = .ok (.aload i, 2)) (en : pc + 2 = n) (kx : Nat) (hk : ls[kx]? = some (i, .ref x))
    (k : am_G κ μ o1 h1 nc ns n ls (.ref x :: st) h) : am_G κ μ o1 h1 nc ns pc ls st h := by
  subst en
  intro p e s m args below meth c H locs A sb ad0 ad lv I hl
  exact lv_aload I.1.1 I.1.2.1 d (am_at hl hk) (k p e s m args below meth c H locs A sb ad0 ad lv I hl)
theorem g_astore_n {κ : am_K} {μ : am_N} {o1 : am_O} {h1 : List am_E} {nc ns pc n : Nat} {ls : List (Nat × Value)} {st : List Value} {h : List am_E} {j : Fin 4} {i : Nat} {x : Nat} {ls' : List (Nat × Value)} (d : decode (am_cc μ) pc = .ok (.astore_n j, 1)) (en : pc + 1 = n) (hi : (j : Nat) = i) (hn : i < am_nL μ) (e : (i, Value.ref x) :: ls.filter (am_keep i) = ls')
    (k : am_G κ μ o1 h1 nc ns n ls' st h) : am_G κ μ o1 h1 nc ns pc ls (.ref x :: st) h := by
  subst en
  intro p e9 s m args below meth c H locs A sb ad0 ad lv I hl
  exact lv_astore_n I.1.1 I.1.2.1 d hi hl hn (am_st e) (fun lv' hl' => k p e9 s m args below meth c H locs A sb ad0 ad lv' I hl')
theorem g_astore {κ : am_K} {μ : am_N} {o1 : am_O} {h1 : List am_E} {nc ns pc n : Nat} {ls : List (Nat × Value)} {st : List Value} {h : List am_E} {i : Nat} {x : Nat} {ls' : List (Nat × Value)} (d : decode (am_cc μ) pc = .ok (.astore i, 2)) (en : pc + 2 = n) (hn : i < am_nL μ) (e : (i, Value.ref x) :: ls.filter (am_keep i) = ls')
    (k : am_G κ μ o1 h1 nc ns n ls' st h) : am_G κ μ o1 h1 nc ns pc ls (.ref x :: st) h := by
  subst en
  intro p e9 s m args below meth c H locs A sb ad0 ad lv I hl
  exact lv_astore I.1.1 I.1.2.1 d hl hn (am_st e) (fun lv' hl' => k p e9 s m args below meth c H locs A sb ad0 ad lv' I hl')
theorem g_iinc {κ : am_K} {μ : am_N} {o1 : am_O} {h1 : List am_E} {nc ns pc n : Nat} {ls : List (Nat × Value)} {st : List Value} {h : List am_E} {i : Nat} {a : Int} {x v : Int32} {ls' : List (Nat × Value)} (d : decode (am_cc μ) pc = .ok (.iinc i a, 3)) (en : pc + 3 = n) (kx : Nat) (hk : ls[kx]? = some (i, .int x)) (hv : x + Int32.ofInt a = v) (hn : i < am_nL μ) (e : (i, Value.int v) :: ls.filter (am_keep i) = ls')
    (k : am_G κ μ o1 h1 nc ns n ls' st h) : am_G κ μ o1 h1 nc ns pc ls st h := by
  subst en
  intro p e9 s m args below meth c H locs A sb ad0 ad lv I hl
  exact lv_iinc (k := kx) I.1.1 I.1.2.1 d hl (by unfold am_ls; rw [List.getElem?_map, hk]; rfl) hv hn (am_st e) (fun lv' hl' => k p e9 s m args below meth c H locs A sb ad0 ad lv' I hl')
theorem g_if_eq {κ : am_K} {μ : am_N} {o1 : am_O} {h1 : List am_E} {nc ns pc n : Nat} {ls : List (Nat × Value)} {st : List Value} {h : List am_E} {x : Int32} {off : Int} {tgt : Nat} (d : decode (am_cc μ) pc = .ok (.ifCond .eq off, 3)) (en : pc + 3 = n) (ht : (pc : Int) + off = (tgt : Int))
    (kt : x = 0 → am_G κ μ o1 h1 nc ns tgt ls st h) (kf : ¬ x = 0 → am_G κ μ o1 h1 nc ns n ls st h) : am_G κ μ o1 h1 nc ns pc ls (.int x :: st) h := by
  subst en
  intro p e s m args below meth c H locs A sb ad0 ad lv I hl
  exact lv_if_eq I.1.1 I.1.2.1 d ht (fun z => kt z p e s m args below meth c H locs A sb ad0 ad lv I hl) (fun z => kf z p e s m args below meth c H locs A sb ad0 ad lv I hl)
theorem g_if_ne {κ : am_K} {μ : am_N} {o1 : am_O} {h1 : List am_E} {nc ns pc n : Nat} {ls : List (Nat × Value)} {st : List Value} {h : List am_E} {x : Int32} {off : Int} {tgt : Nat} (d : decode (am_cc μ) pc = .ok (.ifCond .ne off, 3)) (en : pc + 3 = n) (ht : (pc : Int) + off = (tgt : Int))
    (kt : ¬ x = 0 → am_G κ μ o1 h1 nc ns tgt ls st h) (kf : x = 0 → am_G κ μ o1 h1 nc ns n ls st h) : am_G κ μ o1 h1 nc ns pc ls (.int x :: st) h := by
  subst en
  intro p e s m args below meth c H locs A sb ad0 ad lv I hl
  exact lv_if_ne I.1.1 I.1.2.1 d ht (fun z => kt z p e s m args below meth c H locs A sb ad0 ad lv I hl) (fun z => kf z p e s m args below meth c H locs A sb ad0 ad lv I hl)
theorem g_if_lt {κ : am_K} {μ : am_N} {o1 : am_O} {h1 : List am_E} {nc ns pc n : Nat} {ls : List (Nat × Value)} {st : List Value} {h : List am_E} {x : Int32} {off : Int} {tgt : Nat} (d : decode (am_cc μ) pc = .ok (.ifCond .lt off, 3)) (en : pc + 3 = n) (ht : (pc : Int) + off = (tgt : Int))
    (kt : x < 0 → am_G κ μ o1 h1 nc ns tgt ls st h) (kf : ¬ x < 0 → am_G κ μ o1 h1 nc ns n ls st h) : am_G κ μ o1 h1 nc ns pc ls (.int x :: st) h := by
  subst en
  intro p e s m args below meth c H locs A sb ad0 ad lv I hl
  exact lv_if_lt I.1.1 I.1.2.1 d ht (fun z => kt z p e s m args below meth c H locs A sb ad0 ad lv I hl) (fun z => kf z p e s m args below meth c H locs A sb ad0 ad lv I hl)
theorem g_if_ge {κ : am_K} {μ : am_N} {o1 : am_O} {h1 : List am_E} {nc ns pc n : Nat} {ls : List (Nat × Value)} {st : List Value} {h : List am_E} {x : Int32} {off : Int} {tgt : Nat} (d : decode (am_cc μ) pc = .ok (.ifCond .ge off, 3)) (en : pc + 3 = n) (ht : (pc : Int) + off = (tgt : Int))
    (kt : 0 ≤ x → am_G κ μ o1 h1 nc ns tgt ls st h) (kf : ¬ 0 ≤ x → am_G κ μ o1 h1 nc ns n ls st h) : am_G κ μ o1 h1 nc ns pc ls (.int x :: st) h := by
  subst en
  intro p e s m args below meth c H locs A sb ad0 ad lv I hl
  exact lv_if_ge I.1.1 I.1.2.1 d ht (fun z => kt z p e s m args below meth c H locs A sb ad0 ad lv I hl) (fun z => kf z p e s m args below meth c H locs A sb ad0 ad lv I hl)
theorem g_if_gt {κ : am_K} {μ : am_N} {o1 : am_O} {h1 : List am_E} {nc ns pc n : Nat} {ls : List (Nat × Value)} {st : List Value} {h : List am_E} {x : Int32} {off : Int} {tgt : Nat} (d : decode (am_cc μ) pc = .ok (.ifCond .gt off, 3)) (en : pc + 3 = n) (ht : (pc : Int) + off = (tgt : Int))
    (kt : 0 < x → am_G κ μ o1 h1 nc ns tgt ls st h) (kf : ¬ 0 < x → am_G κ μ o1 h1 nc ns n ls st h) : am_G κ μ o1 h1 nc ns pc ls (.int x :: st) h := by
  subst en
  intro p e s m args below meth c H locs A sb ad0 ad lv I hl
  exact lv_if_gt I.1.1 I.1.2.1 d ht (fun z => kt z p e s m args below meth c H locs A sb ad0 ad lv I hl) (fun z => kf z p e s m args below meth c H locs A sb ad0 ad lv I hl)
theorem g_if_le {κ : am_K} {μ : am_N} {o1 : am_O} {h1 : List am_E} {nc ns pc n : Nat} {ls : List (Nat × Value)} {st : List Value} {h : List am_E} {x : Int32} {off : Int} {tgt : Nat} (d : decode (am_cc μ) pc = .ok (.ifCond .le off, 3)) (en : pc + 3 = n) (ht : (pc : Int) + off = (tgt : Int))
    (kt : x ≤ 0 → am_G κ μ o1 h1 nc ns tgt ls st h) (kf : ¬ x ≤ 0 → am_G κ μ o1 h1 nc ns n ls st h) : am_G κ μ o1 h1 nc ns pc ls (.int x :: st) h := by
  subst en
  intro p e s m args below meth c H locs A sb ad0 ad lv I hl
  exact lv_if_le I.1.1 I.1.2.1 d ht (fun z => kt z p e s m args below meth c H locs A sb ad0 ad lv I hl) (fun z => kf z p e s m args below meth c H locs A sb ad0 ad lv I hl)
theorem g_icmp_eq {κ : am_K} {μ : am_N} {o1 : am_O} {h1 : List am_E} {nc ns pc n : Nat} {ls : List (Nat × Value)} {st : List Value} {h : List am_E} {x y : Int32} {off : Int} {tgt : Nat} (d : decode (am_cc μ) pc = .ok (.if_icmp .eq off, 3)) (en : pc + 3 = n) (ht : (pc : Int) + off = (tgt : Int))
    (kt : x = y → am_G κ μ o1 h1 nc ns tgt ls st h) (kf : ¬ x = y → am_G κ μ o1 h1 nc ns n ls st h) : am_G κ μ o1 h1 nc ns pc ls (.int y :: .int x :: st) h := by
  subst en
  intro p e s m args below meth c H locs A sb ad0 ad lv I hl
  exact lv_icmp_eq I.1.1 I.1.2.1 d ht (fun z => kt z p e s m args below meth c H locs A sb ad0 ad lv I hl) (fun z => kf z p e s m args below meth c H locs A sb ad0 ad lv I hl)
theorem g_icmp_ne {κ : am_K} {μ : am_N} {o1 : am_O} {h1 : List am_E} {nc ns pc n : Nat} {ls : List (Nat × Value)} {st : List Value} {h : List am_E} {x y : Int32} {off : Int} {tgt : Nat} (d : decode (am_cc μ) pc = .ok (.if_icmp .ne off, 3)) (en : pc + 3 = n) (ht : (pc : Int) + off = (tgt : Int))
    (kt : ¬ x = y → am_G κ μ o1 h1 nc ns tgt ls st h) (kf : x = y → am_G κ μ o1 h1 nc ns n ls st h) : am_G κ μ o1 h1 nc ns pc ls (.int y :: .int x :: st) h := by
  subst en
  intro p e s m args below meth c H locs A sb ad0 ad lv I hl
  exact lv_icmp_ne I.1.1 I.1.2.1 d ht (fun z => kt z p e s m args below meth c H locs A sb ad0 ad lv I hl) (fun z => kf z p e s m args below meth c H locs A sb ad0 ad lv I hl)
theorem g_icmp_lt {κ : am_K} {μ : am_N} {o1 : am_O} {h1 : List am_E} {nc ns pc n : Nat} {ls : List (Nat × Value)} {st : List Value} {h : List am_E} {x y : Int32} {off : Int} {tgt : Nat} (d : decode (am_cc μ) pc = .ok (.if_icmp .lt off, 3)) (en : pc + 3 = n) (ht : (pc : Int) + off = (tgt : Int))
    (kt : x < y → am_G κ μ o1 h1 nc ns tgt ls st h) (kf : ¬ x < y → am_G κ μ o1 h1 nc ns n ls st h) : am_G κ μ o1 h1 nc ns pc ls (.int y :: .int x :: st) h := by
  subst en
  intro p e s m args below meth c H locs A sb ad0 ad lv I hl
  exact lv_icmp_lt I.1.1 I.1.2.1 d ht (fun z => kt z p e s m args below meth c H locs A sb ad0 ad lv I hl) (fun z => kf z p e s m args below meth c H locs A sb ad0 ad lv I hl)
theorem g_icmp_ge {κ : am_K} {μ : am_N} {o1 : am_O} {h1 : List am_E} {nc ns pc n : Nat} {ls : List (Nat × Value)} {st : List Value} {h : List am_E} {x y : Int32} {off : Int} {tgt : Nat} (d : decode (am_cc μ) pc = .ok (.if_icmp .ge off, 3)) (en : pc + 3 = n) (ht : (pc : Int) + off = (tgt : Int))
    (kt : y ≤ x → am_G κ μ o1 h1 nc ns tgt ls st h) (kf : ¬ y ≤ x → am_G κ μ o1 h1 nc ns n ls st h) : am_G κ μ o1 h1 nc ns pc ls (.int y :: .int x :: st) h := by
  subst en
  intro p e s m args below meth c H locs A sb ad0 ad lv I hl
  exact lv_icmp_ge I.1.1 I.1.2.1 d ht (fun z => kt z p e s m args below meth c H locs A sb ad0 ad lv I hl) (fun z => kf z p e s m args below meth c H locs A sb ad0 ad lv I hl)
theorem g_icmp_gt {κ : am_K} {μ : am_N} {o1 : am_O} {h1 : List am_E} {nc ns pc n : Nat} {ls : List (Nat × Value)} {st : List Value} {h : List am_E} {x y : Int32} {off : Int} {tgt : Nat} (d : decode (am_cc μ) pc = .ok (.if_icmp .gt off, 3)) (en : pc + 3 = n) (ht : (pc : Int) + off = (tgt : Int))
    (kt : y < x → am_G κ μ o1 h1 nc ns tgt ls st h) (kf : ¬ y < x → am_G κ μ o1 h1 nc ns n ls st h) : am_G κ μ o1 h1 nc ns pc ls (.int y :: .int x :: st) h := by
  subst en
  intro p e s m args below meth c H locs A sb ad0 ad lv I hl
  exact lv_icmp_gt I.1.1 I.1.2.1 d ht (fun z => kt z p e s m args below meth c H locs A sb ad0 ad lv I hl) (fun z => kf z p e s m args below meth c H locs A sb ad0 ad lv I hl)
theorem g_icmp_le {κ : am_K} {μ : am_N} {o1 : am_O} {h1 : List am_E} {nc ns pc n : Nat} {ls : List (Nat × Value)} {st : List Value} {h : List am_E} {x y : Int32} {off : Int} {tgt : Nat} (d : decode (am_cc μ) pc = .ok (.if_icmp .le off, 3)) (en : pc + 3 = n) (ht : (pc : Int) + off = (tgt : Int))
    (kt : x ≤ y → am_G κ μ o1 h1 nc ns tgt ls st h) (kf : ¬ x ≤ y → am_G κ μ o1 h1 nc ns n ls st h) : am_G κ μ o1 h1 nc ns pc ls (.int y :: .int x :: st) h := by
  subst en
  intro p e s m args below meth c H locs A sb ad0 ad lv I hl
  exact lv_icmp_le I.1.1 I.1.2.1 d ht (fun z => kt z p e s m args below meth c H locs A sb ad0 ad lv I hl) (fun z => kf z p e s m args below meth c H locs A sb ad0 ad lv I hl)
theorem g_goto {κ : am_K} {μ : am_N} {o1 : am_O} {h1 : List am_E} {nc ns pc n : Nat} {ls : List (Nat × Value)} {st : List Value} {h : List am_E} {off : Int} (d : decode (am_cc μ) pc = .ok (.goto off, 3)) (ht : (pc : Int) + off = (n : Int)) (k : am_G κ μ o1 h1 nc ns n ls st h) : am_G κ μ o1 h1 nc ns pc ls st h := by
  intro p e s m args below meth c H locs A sb ad0 ad lv I hl
  exact lv_goto I.1.1 I.1.2.1 d ht (k p e s m args below meth c H locs A sb ad0 ad lv I hl)
theorem g_tabIn {κ : am_K} {μ : am_N} {o1 : am_O} {h1 : List am_E} {nc ns pc n : Nat} {ls : List (Nat × Value)} {st : List Value} {h : List am_E} {dflt lo hi : Int} {offs : Array Int} {len : Nat} {x : Int32} {off : Int} (d : decode (am_cc μ) pc = .ok (.tableswitch dflt lo hi offs, len)) (z1 : ¬ x.toInt < lo) (z2 : ¬ hi < x.toInt) (ho : offs[(x.toInt - lo).toNat]? = some off) (ht : (pc : Int) + off = (n : Int)) (k : am_G κ μ o1 h1 nc ns n ls st h) : am_G κ μ o1 h1 nc ns pc ls (.int x :: st) h := by
  intro p e s m args below meth c H locs A sb ad0 ad lv I hl
  exact lv_tableIn I.1.1 I.1.2.1 d z1 z2 ho ht (k p e s m args below meth c H locs A sb ad0 ad lv I hl)
theorem g_tabOut {κ : am_K} {μ : am_N} {o1 : am_O} {h1 : List am_E} {nc ns pc n : Nat} {ls : List (Nat × Value)} {st : List Value} {h : List am_E} {dflt lo hi : Int} {offs : Array Int} {len : Nat} {x : Int32} (d : decode (am_cc μ) pc = .ok (.tableswitch dflt lo hi offs, len)) (z1 : x.toInt < lo ∨ hi < x.toInt) (ht : (pc : Int) + dflt = (n : Int)) (k : am_G κ μ o1 h1 nc ns n ls st h) : am_G κ μ o1 h1 nc ns pc ls (.int x :: st) h := by
  intro p e s m args below meth c H locs A sb ad0 ad lv I hl
  exact lv_tableOut I.1.1 I.1.2.1 d z1 ht (k p e s m args below meth c H locs A sb ad0 ad lv I hl)
theorem g_lookup {κ : am_K} {μ : am_N} {o1 : am_O} {h1 : List am_E} {nc ns pc n : Nat} {ls : List (Nat × Value)} {st : List Value} {h : List am_E} {dflt : Int} {ps : Array (Int × Int)} {len : Nat} {x : Int32} {off : Int} (d : decode (am_cc μ) pc = .ok (.lookupswitch dflt ps, len)) (hp : (ps.toList.zip (ps.toList.drop 1)).all (fun (a, next) => a.1 < next.1) = true) (ho : Op.lookupswitch.offset ps.toList dflt x.toInt = off) (ht : (pc : Int) + off = (n : Int)) (k : am_G κ μ o1 h1 nc ns n ls st h) : am_G κ μ o1 h1 nc ns pc ls (.int x :: st) h := by
  intro p e s m args below meth c H locs A sb ad0 ad lv I hl
  exact lv_lookup I.1.1 I.1.2.1 d hp ho ht (k p e s m args below meth c H locs A sb ad0 ad lv I hl)
end
section
/-! rows on the cells -/
/-- the facts that an access to a field of the class number ci needs, k its place -/
def am_fld (κ : am_K) (μ : am_N) (ci k : Nat) (C : String) (T : u_T) (N : Nat) : Prop := (∀ w ∈ u_ws C T N, w ∈ am_ws μ) ∧ (am_cl κ)[ci]? = some (C, T, N) ∧ k < N
theorem g_get {κ : am_K} {μ : am_N} {o1 : am_O} {h1 : List am_E} {nc ns pc n : Nat} {ls : List (Nat × Value)} {st : List Value} {h : List am_E} {idx ci k q0 : Nat} {C : String} {T : u_T} {N : Nat} {fs : List Value} {v : Value}
    (d : decode (am_cc μ) pc = .ok (.getfield idx, 3)) (en : pc + 3 = n) (hf : am_fld κ μ ci k C T N) (hl : Cond.fieldLink (am_own μ) idx (T k).1 (T k).2.1 (T k).2.2.1 ∈ am_ws μ)
    (he : h[q0]? = some (.inr (ci, fs))) (hv : fs[k]? = some v) (kk : am_G κ μ o1 h1 nc ns n ls (v :: st) h) : am_G κ μ o1 h1 nc ns pc ls (.ref q0 :: st) h := by
  subst en
  intro p e s m args below meth c H locs A sb ad0 ad lv I hlv
  have I0 := I
  obtain ⟨S, -, hT, -, -, -, -, hlen, hP, -, -⟩ := I
  refine va_get (D := am_D κ) (ci := ci) (C := C) (T := T) (N := N) S.1 S.2.1 S.2.2.2.2 hf.1 S.2.2.2.1 hT.1 hP q0 (am_w_at hlen he) hf.2.1 k hf.2.2 (S.2.2.2.2 _ hl) (fun _ z => z) (v := am_v sb ad v) ?_ d (kk p e s m args below meth c H locs A sb ad0 ad lv I0 hlv)
  rw [List.getElem?_map, hv]
  rfl
theorem g_getN {κ : am_K} {μ : am_N} {o1 : am_O} {h1 : List am_E} {nc ns pc n : Nat} {ls : List (Nat × Value)} {st : List Value} {h : List am_E} {idx ci k q0 : Nat} {C host : String} {T : u_T} {N : Nat} {fs : List Value} {v : Value}
    (d : decode (am_cc μ) pc = .ok (.getfield idx, 3)) (en : pc + 3 = n) (hf : am_fld κ μ ci k C T N) (hl : Cond.fieldLinkNest (am_own μ) idx (T k).1 (T k).2.1 (T k).2.2.1 host ∈ am_NW κ)
    (he : h[q0]? = some (.inr (ci, fs))) (hv : fs[k]? = some v) (kk : am_G κ μ o1 h1 nc ns n ls (v :: st) h) : am_G κ μ o1 h1 nc ns pc ls (.ref q0 :: st) h := by
  subst en
  intro p e s m args below meth c H locs A sb ad0 ad lv I hlv
  have I0 := I
  obtain ⟨S, -, hT, -, -, -, -, hlen, hP, -, -⟩ := I
  refine va_getN (D := am_D κ) (ci := ci) (C := C) (T := T) (N := N) S.1 S.2.1 S.2.2.2.2 hf.1 S.2.2.2.1 hT.1 hP q0 (am_w_at hlen he) hf.2.1 k hf.2.2 (va_Nw.use rfl (hT.2.1 _ hl).2) (fun _ z => z) (v := am_v sb ad v) ?_ d (kk p e s m args below meth c H locs A sb ad0 ad lv I0 hlv)
  rw [List.getElem?_map, hv]
  rfl
/-- what a store into a field needs beside that: the types, the names apart -/
def am_typ (T : u_T) (N : Nat) (ty : Nat → FieldType) : Prop := (∀ k, k < N → parseFieldDescriptor (T k).2.2.1 = some (ty k)) ∧ ∀ a, a < N → ∀ b, b < N → a ≠ b → (T a).2.1 ≠ (T b).2.1
theorem am_I.put {κ : am_K} {μ : am_N} {p : Program} {s : State} {m : MethodId} {args : Array Value} {meth : Method} {c : Code} {H H1 : Heap} {locs locs1 : List Loc} {A : Nat → Prop} {sb : Nat} {ad0 ad : List Nat} {h h' : List am_E} {q0 : Nat} {x : am_E}
    (I : am_I κ μ p s m args meth c H locs A sb ad0 ad h) (hq : q0 < h.length) (hs : h.set q0 x = h')
    (hP : va_P (am_D κ) (am_cl κ) ((am_w (am_dA κ) sb ad h).set q0 (ad.getD q0 sb, am_e (am_dA κ) sb ad x)) H1) (hD : va_D A ((am_w (am_dA κ) sb ad h).set q0 (ad.getD q0 sb, am_e (am_dA κ) sb ad x))) (hS : va_S A s.heap H1 locs1) :
    am_I κ μ p s m args meth c H1 locs1 A sb ad0 ad h' := by
  obtain ⟨S, a1, hT, hZ, hA, hX, hpre, hlen, -, -, -⟩ := I
  subst hs
  rw [am_w_set hlen hq] at hP hD
  exact ⟨S, a1, hT, hZ, hA, hX, hpre, by rw [List.length_set]; exact hlen, hP, hD, hS⟩
theorem am_lt {h : List am_E} {q0 : Nat} {x : am_E} (he : h[q0]? = some x) : q0 < h.length := (List.getElem?_eq_some_iff.mp he).1
theorem g_put {κ : am_K} {μ : am_N} {o1 : am_O} {h1 : List am_E} {nc ns pc n : Nat} {ls : List (Nat × Value)} {st : List Value} {h h' : List am_E} {idx ci k q0 : Nat} {C : String} {T : u_T} {N : Nat} {fs : List Value} {v : Value} {ty0 : Nat → FieldType}
    (d : decode (am_cc μ) pc = .ok (.putfield idx, 3)) (en : pc + 3 = n) (hf : am_fld κ μ ci k C T N) (ht : am_typ T N ty0) (hl : Cond.fieldLink (am_own μ) idx (T k).1 (T k).2.1 (T k).2.2.1 ∈ am_ws μ) (hfin : (T k).2.2.2 = false)
    (hn : ∀ sb ad, narrow (ty0 k) (am_v sb ad v) = am_v sb ad v) (hfit : ∀ sb ad, fits (ty0 k) (am_v sb ad v) = true)
    (he : h[q0]? = some (.inr (ci, fs))) (hk : k < fs.length) (hs : h.set q0 (.inr (ci, fs.set k v)) = h') (kk : am_G κ μ o1 h1 nc ns n ls st h') : am_G κ μ o1 h1 nc ns pc ls (v :: .ref q0 :: st) h := by
  subst en
  intro p e s m args below meth c H locs A sb ad0 ad lv I hlv
  have I0 := I
  obtain ⟨S, -, hT, -, -, -, -, hlen, hP, hD, hS⟩ := I
  refine va_put (D := am_D κ) (ci := ci) (C := C) (T := T) (N := N) (ty := ty0 k) (v := am_v sb ad v) S.1 S.2.1 S.2.2.2.2 hf.1 ty0 ht.1 ht.2 S.2.2.2.1 hT.1 hP hD hS q0 (am_w_at hlen he) hf.2.1 k hf.2.2 (S.2.2.2.2 _ hl) (fun _ z => z) hfin (ht.1 k hf.2.2) (hn sb ad) (hfit sb ad) (by rw [List.length_map]; exact hk) d (fun H1 locs1 hP1 hD1 hS1 => ?_)
  have e1 : (ad.getD q0 sb, (Sum.inr (ci, (fs.map (am_v sb ad)).set k (am_v sb ad v)) : va_E)) = (ad.getD q0 sb, am_e (am_dA κ) sb ad (.inr (ci, fs.set k v))) := by
    simp only [am_e, List.map_set]
  exact kk p e s m args below meth c H1 locs1 A sb ad0 ad lv (I0.put (am_lt he) hs (e1 ▸ hP1) (e1 ▸ hD1) hS1) hlv
theorem g_putN {κ : am_K} {μ : am_N} {o1 : am_O} {h1 : List am_E} {nc ns pc n : Nat} {ls : List (Nat × Value)} {st : List Value} {h h' : List am_E} {idx ci k q0 : Nat} {C host : String} {T : u_T} {N : Nat} {fs : List Value} {v : Value} {ty0 : Nat → FieldType}
    (d : decode (am_cc μ) pc = .ok (.putfield idx, 3)) (en : pc + 3 = n) (hf : am_fld κ μ ci k C T N) (ht : am_typ T N ty0) (hl : Cond.fieldLinkNest (am_own μ) idx (T k).1 (T k).2.1 (T k).2.2.1 host ∈ am_NW κ) (hfin : (T k).2.2.2 = false)
    (hn : ∀ sb ad, narrow (ty0 k) (am_v sb ad v) = am_v sb ad v) (hfit : ∀ sb ad, fits (ty0 k) (am_v sb ad v) = true)
    (he : h[q0]? = some (.inr (ci, fs))) (hk : k < fs.length) (hs : h.set q0 (.inr (ci, fs.set k v)) = h') (kk : am_G κ μ o1 h1 nc ns n ls st h') : am_G κ μ o1 h1 nc ns pc ls (v :: .ref q0 :: st) h := by
  subst en
  intro p e s m args below meth c H locs A sb ad0 ad lv I hlv
  have I0 := I
  obtain ⟨S, -, hT, -, -, -, -, hlen, hP, hD, hS⟩ := I
  refine va_putN (D := am_D κ) (ci := ci) (C := C) (T := T) (N := N) (ty := ty0 k) (v := am_v sb ad v) S.1 S.2.1 S.2.2.2.2 hf.1 ty0 ht.1 ht.2 S.2.2.2.1 hT.1 hP hD hS q0 (am_w_at hlen he) hf.2.1 k hf.2.2 (va_Nw.use rfl (hT.2.1 _ hl).2) (fun _ z => z) hfin (ht.1 k hf.2.2) (hn sb ad) (hfit sb ad) (by rw [List.length_map]; exact hk) d (fun H1 locs1 hP1 hD1 hS1 => ?_)
  have e1 : (ad.getD q0 sb, (Sum.inr (ci, (fs.map (am_v sb ad)).set k (am_v sb ad v)) : va_E)) = (ad.getD q0 sb, am_e (am_dA κ) sb ad (.inr (ci, fs.set k v))) := by
    simp only [am_e, List.map_set]
  exact kk p e s m args below meth c H1 locs1 A sb ad0 ad lv (I0.put (am_lt he) hs (e1 ▸ hP1) (e1 ▸ hD1) hS1) hlv
/-- a final field, in the constructor of its own class -/
theorem g_putF {κ : am_K} {μ : am_N} {o1 : am_O} {h1 : List am_E} {nc ns pc n : Nat} {ls : List (Nat × Value)} {st : List Value} {h h' : List am_E} {idx ci k q0 : Nat} {C : String} {T : u_T} {N : Nat} {fs : List Value} {v : Value} {ty0 : Nat → FieldType}
    (d : decode (am_cc μ) pc = .ok (.putfield idx, 3)) (en : pc + 3 = n) (hf : am_fld κ μ ci k C T N) (ht : am_typ T N ty0) (hl : Cond.fieldLink (am_own μ) idx (T k).1 (T k).2.1 (T k).2.2.1 ∈ am_ws μ) (hfin : (T k).2.2.2 = true) (hi : am_nm μ = "<init>") (ho : (T k).1 = am_own μ)
    (hn : ∀ sb ad, narrow (ty0 k) (am_v sb ad v) = am_v sb ad v) (hfit : ∀ sb ad, fits (ty0 k) (am_v sb ad v) = true)
    (he : h[q0]? = some (.inr (ci, fs))) (hk : k < fs.length) (hs : h.set q0 (.inr (ci, fs.set k v)) = h') (kk : am_G κ μ o1 h1 nc ns n ls st h') : am_G κ μ o1 h1 nc ns pc ls (v :: .ref q0 :: st) h := by
  subst en
  intro p e s m args below meth c H locs A sb ad0 ad lv I hlv
  have I0 := I
  obtain ⟨S, a1, hT, -, -, -, -, hlen, hP, hD, hS⟩ := I
  refine va_putF (D := am_D κ) (ci := ci) (C := C) (T := T) (N := N) (ty := ty0 k) (v := am_v sb ad v) S.1 S.2.1 S.2.2.2.2 hf.1 ty0 ht.1 ht.2 S.2.2.2.1 hT.1 hP hD hS q0 (am_w_at hlen he) hf.2.1 k hf.2.2 (S.2.2.2.2 _ hl) (fun _ z => z) hfin (a1.2.2.1.trans hi) ho (ht.1 k hf.2.2) (hn sb ad) (hfit sb ad) (by rw [List.length_map]; exact hk) d (fun H1 locs1 hP1 hD1 hS1 => ?_)
  have e1 : (ad.getD q0 sb, (Sum.inr (ci, (fs.map (am_v sb ad)).set k (am_v sb ad v)) : va_E)) = (ad.getD q0 sb, am_e (am_dA κ) sb ad (.inr (ci, fs.set k v))) := by
    simp only [am_e, List.map_set]
  exact kk p e s m args below meth c H1 locs1 A sb ad0 ad lv (I0.put (am_lt he) hs (e1 ▸ hP1) (e1 ▸ hD1) hS1) hlv
end
section
theorem g_iald {κ : am_K} {μ : am_N} {o1 : am_O} {h1 : List am_E} {nc ns pc n : Nat} {ls : List (Nat × Value)} {st : List Value} {h : List am_E} {q0 N : Nat} {f : Nat → Int32} {i : Int32} (d : decode (am_cc μ) pc = .ok (.iaload, 1)) (en : pc + 1 = n) (he : h[q0]? = some (.inl (.int, N, .inl f))) (hin : vp_in i N)
    (kk : am_G κ μ o1 h1 nc ns n ls (.int (f i.toNatClampNeg) :: st) h) : am_G κ μ o1 h1 nc ns pc ls (.int i :: .ref q0 :: st) h := by
  subst en
  intro p e s m args below meth c H locs A sb ad0 ad lv I hlv
  have I0 := I
  obtain ⟨S, -, hT, -, -, -, -, hlen, hP, hD, hS⟩ := I
  exact va_iald S.1 S.2.1 hT.1 hP q0 0 (am_w_at hlen he) rfl hin d (kk p e s m args below meth c H locs A sb ad0 ad lv I0 hlv)
theorem g_iast {κ : am_K} {μ : am_N} {o1 : am_O} {h1 : List am_E} {nc ns pc n : Nat} {ls : List (Nat × Value)} {st : List Value} {h : List am_E} {h' : List am_E} {q0 N : Nat} {f : Nat → Int32} {i : Int32} {x : Int32} (d : decode (am_cc μ) pc = .ok (.iastore, 1)) (en : pc + 1 = n) (he : h[q0]? = some (.inl (.int, N, .inl f))) (hin : vp_in i N) (hs : h.set q0 (.inl (.int, N, .inl (upd f i.toNatClampNeg x))) = h')
    (kk : am_G κ μ o1 h1 nc ns n ls st h') : am_G κ μ o1 h1 nc ns pc ls (.int x :: .int i :: .ref q0 :: st) h := by
  subst en
  intro p e s m args below meth c H locs A sb ad0 ad lv I hlv
  have I0 := I
  obtain ⟨S, -, hT, -, -, -, -, hlen, hP, hD, hS⟩ := I
  exact va_iast S.1 S.2.1 hT.1 hP hD hS q0 0 (am_w_at hlen he) rfl hin d (fun H1 locs1 hP1 hD1 hS1 => kk p e s m args below meth c H1 locs1 A sb ad0 ad lv (I0.put (am_lt he) hs hP1 hD1 hS1) hlv)
theorem g_ialen {κ : am_K} {μ : am_N} {o1 : am_O} {h1 : List am_E} {nc ns pc n : Nat} {ls : List (Nat × Value)} {st : List Value} {h : List am_E} {q0 N : Nat} {f : Nat → Int32} {v : Int32} (d : decode (am_cc μ) pc = .ok (.arraylength, 1)) (en : pc + 1 = n) (he : h[q0]? = some (.inl (.int, N, .inl f))) (hv : Int32.ofNat N = v)
    (kk : am_G κ μ o1 h1 nc ns n ls (.int v :: st) h) : am_G κ μ o1 h1 nc ns pc ls (.ref q0 :: st) h := by
  subst en
  intro p e s m args below meth c H locs A sb ad0 ad lv I hlv
  have I0 := I
  obtain ⟨S, -, hT, -, -, -, -, hlen, hP, hD, hS⟩ := I
  exact va_alen S.1 S.2.1 hT.1 hP q0 0 (am_w_at hlen he) (ty := .int) rfl hv d (kk p e s m args below meth c H locs A sb ad0 ad lv I0 hlv)
theorem g_zald {κ : am_K} {μ : am_N} {o1 : am_O} {h1 : List am_E} {nc ns pc n : Nat} {ls : List (Nat × Value)} {st : List Value} {h : List am_E} {q0 N : Nat} {f : Nat → Int32} {i : Int32} (d : decode (am_cc μ) pc = .ok (.baload, 1)) (en : pc + 1 = n) (he : h[q0]? = some (.inl (.boolean, N, .inl f))) (hin : vp_in i N)
    (kk : am_G κ μ o1 h1 nc ns n ls (.int (f i.toNatClampNeg) :: st) h) : am_G κ μ o1 h1 nc ns pc ls (.int i :: .ref q0 :: st) h := by
  subst en
  intro p e s m args below meth c H locs A sb ad0 ad lv I hlv
  have I0 := I
  obtain ⟨S, -, hT, -, -, -, -, hlen, hP, hD, hS⟩ := I
  exact va_zald S.1 S.2.1 hT.1 hP q0 1 (am_w_at hlen he) rfl hin d (kk p e s m args below meth c H locs A sb ad0 ad lv I0 hlv)
theorem g_zast {κ : am_K} {μ : am_N} {o1 : am_O} {h1 : List am_E} {nc ns pc n : Nat} {ls : List (Nat × Value)} {st : List Value} {h : List am_E} {h' : List am_E} {q0 N : Nat} {f : Nat → Int32} {i : Int32} {x : Int32} (d : decode (am_cc μ) pc = .ok (.bastore, 1)) (en : pc + 1 = n) (he : h[q0]? = some (.inl (.boolean, N, .inl f))) (hin : vp_in i N) (hs : h.set q0 (.inl (.boolean, N, .inl (upd f i.toNatClampNeg (vp_nar .boolean x)))) = h')
    (kk : am_G κ μ o1 h1 nc ns n ls st h') : am_G κ μ o1 h1 nc ns pc ls (.int x :: .int i :: .ref q0 :: st) h := by
  subst en
  intro p e s m args below meth c H locs A sb ad0 ad lv I hlv
  have I0 := I
  obtain ⟨S, -, hT, -, -, -, -, hlen, hP, hD, hS⟩ := I
  exact va_zast S.1 S.2.1 hT.1 hP hD hS q0 1 (am_w_at hlen he) rfl hin d (fun H1 locs1 hP1 hD1 hS1 => kk p e s m args below meth c H1 locs1 A sb ad0 ad lv (I0.put (am_lt he) hs hP1 hD1 hS1) hlv)
theorem g_zalen {κ : am_K} {μ : am_N} {o1 : am_O} {h1 : List am_E} {nc ns pc n : Nat} {ls : List (Nat × Value)} {st : List Value} {h : List am_E} {q0 N : Nat} {f : Nat → Int32} {v : Int32} (d : decode (am_cc μ) pc = .ok (.arraylength, 1)) (en : pc + 1 = n) (he : h[q0]? = some (.inl (.boolean, N, .inl f))) (hv : Int32.ofNat N = v)
    (kk : am_G κ μ o1 h1 nc ns n ls (.int v :: st) h) : am_G κ μ o1 h1 nc ns pc ls (.ref q0 :: st) h := by
  subst en
  intro p e s m args below meth c H locs A sb ad0 ad lv I hlv
  have I0 := I
  obtain ⟨S, -, hT, -, -, -, -, hlen, hP, hD, hS⟩ := I
  exact va_alen S.1 S.2.1 hT.1 hP q0 1 (am_w_at hlen he) (ty := .boolean) rfl hv d (kk p e s m args below meth c H locs A sb ad0 ad lv I0 hlv)
theorem g_cald {κ : am_K} {μ : am_N} {o1 : am_O} {h1 : List am_E} {nc ns pc n : Nat} {ls : List (Nat × Value)} {st : List Value} {h : List am_E} {q0 N : Nat} {f : Nat → Int32} {i : Int32} (d : decode (am_cc μ) pc = .ok (.caload, 1)) (en : pc + 1 = n) (he : h[q0]? = some (.inl (.char, N, .inl f))) (hin : vp_in i N)
    (kk : am_G κ μ o1 h1 nc ns n ls (.int (f i.toNatClampNeg) :: st) h) : am_G κ μ o1 h1 nc ns pc ls (.int i :: .ref q0 :: st) h := by
  subst en
  intro p e s m args below meth c H locs A sb ad0 ad lv I hlv
  have I0 := I
  obtain ⟨S, -, hT, -, -, -, -, hlen, hP, hD, hS⟩ := I
  exact va_cald S.1 S.2.1 hT.1 hP q0 2 (am_w_at hlen he) rfl hin d (kk p e s m args below meth c H locs A sb ad0 ad lv I0 hlv)
theorem g_cast {κ : am_K} {μ : am_N} {o1 : am_O} {h1 : List am_E} {nc ns pc n : Nat} {ls : List (Nat × Value)} {st : List Value} {h : List am_E} {h' : List am_E} {q0 N : Nat} {f : Nat → Int32} {i : Int32} {x : Int32} (d : decode (am_cc μ) pc = .ok (.castore, 1)) (en : pc + 1 = n) (he : h[q0]? = some (.inl (.char, N, .inl f))) (hin : vp_in i N) (hs : h.set q0 (.inl (.char, N, .inl (upd f i.toNatClampNeg (vp_nar .char x)))) = h')
    (kk : am_G κ μ o1 h1 nc ns n ls st h') : am_G κ μ o1 h1 nc ns pc ls (.int x :: .int i :: .ref q0 :: st) h := by
  subst en
  intro p e s m args below meth c H locs A sb ad0 ad lv I hlv
  have I0 := I
  obtain ⟨S, -, hT, -, -, -, -, hlen, hP, hD, hS⟩ := I
  exact va_cast S.1 S.2.1 hT.1 hP hD hS q0 2 (am_w_at hlen he) rfl hin d (fun H1 locs1 hP1 hD1 hS1 => kk p e s m args below meth c H1 locs1 A sb ad0 ad lv (I0.put (am_lt he) hs hP1 hD1 hS1) hlv)
theorem g_calen {κ : am_K} {μ : am_N} {o1 : am_O} {h1 : List am_E} {nc ns pc n : Nat} {ls : List (Nat × Value)} {st : List Value} {h : List am_E} {q0 N : Nat} {f : Nat → Int32} {v : Int32} (d : decode (am_cc μ) pc = .ok (.arraylength, 1)) (en : pc + 1 = n) (he : h[q0]? = some (.inl (.char, N, .inl f))) (hv : Int32.ofNat N = v)
    (kk : am_G κ μ o1 h1 nc ns n ls (.int v :: st) h) : am_G κ μ o1 h1 nc ns pc ls (.ref q0 :: st) h := by
  subst en
  intro p e s m args below meth c H locs A sb ad0 ad lv I hlv
  have I0 := I
  obtain ⟨S, -, hT, -, -, -, -, hlen, hP, hD, hS⟩ := I
  exact va_alen S.1 S.2.1 hT.1 hP q0 2 (am_w_at hlen he) (ty := .char) rfl hv d (kk p e s m args below meth c H locs A sb ad0 ad lv I0 hlv)
theorem g_lald {κ : am_K} {μ : am_N} {o1 : am_O} {h1 : List am_E} {nc ns pc n : Nat} {ls : List (Nat × Value)} {st : List Value} {h : List am_E} {q0 N : Nat} {f : Nat → Int64} {i : Int32} (d : decode (am_cc μ) pc = .ok (.laload, 1)) (en : pc + 1 = n) (he : h[q0]? = some (.inl (.long, N, .inr (.inl f)))) (hin : vp_in i N)
    (kk : am_G κ μ o1 h1 nc ns n ls (.long (f i.toNatClampNeg) :: st) h) : am_G κ μ o1 h1 nc ns pc ls (.int i :: .ref q0 :: st) h := by
  subst en
  intro p e s m args below meth c H locs A sb ad0 ad lv I hlv
  have I0 := I
  obtain ⟨S, -, hT, -, -, -, -, hlen, hP, hD, hS⟩ := I
  exact va_lald S.1 S.2.1 hT.1 hP q0 3 (am_w_at hlen he) rfl hin d (kk p e s m args below meth c H locs A sb ad0 ad lv I0 hlv)
theorem g_last {κ : am_K} {μ : am_N} {o1 : am_O} {h1 : List am_E} {nc ns pc n : Nat} {ls : List (Nat × Value)} {st : List Value} {h : List am_E} {h' : List am_E} {q0 N : Nat} {f : Nat → Int64} {i : Int32} {x : Int64} (d : decode (am_cc μ) pc = .ok (.lastore, 1)) (en : pc + 1 = n) (he : h[q0]? = some (.inl (.long, N, .inr (.inl f)))) (hin : vp_in i N) (hs : h.set q0 (.inl (.long, N, .inr (.inl (vp_updL f i.toNatClampNeg x)))) = h')
    (kk : am_G κ μ o1 h1 nc ns n ls st h') : am_G κ μ o1 h1 nc ns pc ls (.long x :: .int i :: .ref q0 :: st) h := by
  subst en
  intro p e s m args below meth c H locs A sb ad0 ad lv I hlv
  have I0 := I
  obtain ⟨S, -, hT, -, -, -, -, hlen, hP, hD, hS⟩ := I
  exact va_last S.1 S.2.1 hT.1 hP hD hS q0 3 (am_w_at hlen he) rfl hin d (fun H1 locs1 hP1 hD1 hS1 => kk p e s m args below meth c H1 locs1 A sb ad0 ad lv (I0.put (am_lt he) hs hP1 hD1 hS1) hlv)
theorem g_lalen {κ : am_K} {μ : am_N} {o1 : am_O} {h1 : List am_E} {nc ns pc n : Nat} {ls : List (Nat × Value)} {st : List Value} {h : List am_E} {q0 N : Nat} {f : Nat → Int64} {v : Int32} (d : decode (am_cc μ) pc = .ok (.arraylength, 1)) (en : pc + 1 = n) (he : h[q0]? = some (.inl (.long, N, .inr (.inl f)))) (hv : Int32.ofNat N = v)
    (kk : am_G κ μ o1 h1 nc ns n ls (.int v :: st) h) : am_G κ μ o1 h1 nc ns pc ls (.ref q0 :: st) h := by
  subst en
  intro p e s m args below meth c H locs A sb ad0 ad lv I hlv
  have I0 := I
  obtain ⟨S, -, hT, -, -, -, -, hlen, hP, hD, hS⟩ := I
  exact va_alen S.1 S.2.1 hT.1 hP q0 3 (am_w_at hlen he) (ty := .long) rfl hv d (kk p e s m args below meth c H locs A sb ad0 ad lv I0 hlv)
end
section
/-! returns, calls, exceptions -/
theorem am_mono {p : Program} {l : Launch} {e : Env} {R : Room} {s : State} {m : MethodId} {args : Array Value} {below : List Frame} {meth : Method} {c : Code} {H : Heap} {locs : List Loc} {cells slots : Nat} {Q Q' : State → Prop} {g : JFrame} (hq : ∀ t, Q t → Q' t)
    (k : W p l e R s m args below meth c H locs cells slots Q g) : W p l e R s m args below meth c H locs cells slots Q' g := by
  intro T hT X
  obtain ⟨t, a, b⟩ := k T hT X
  exact ⟨t, a, hq t b⟩
theorem am_loc {κ : am_K} {μ : am_N} {p : Program} {s : State} {m : MethodId} {args : Array Value} {meth : Method} {c : Code} {H : Heap} {locs : List Loc} {A : Nat → Prop} {sb : Nat} {ad0 ad : List Nat} {h : List am_E}
    (I : am_I κ μ p s m args meth c H locs A sb ad0 ad h) : va_S A s.heap H locs := I.2.2.2.2.2.2.2.2.2.2
/-- what the kit's return rows ask -/
def am_Qr (κ : am_K) (sb : Nat) (ad0 : List Nat) (A : Nat → Prop) (v : Option Value) (h : List am_E) : Array Value → State → Outcome → State → Prop := fun _ s oc t =>
  (∃ ad : List Nat, am_oc sb ad (.inl v) oc s t ∧ am_B κ sb ad0 A h ad t) ∧ va_F A s t
theorem am_end {κ : am_K} {μ : am_N} {p : Program} {s : State} {m : MethodId} {args : Array Value} {meth : Method} {c : Code} {H : Heap} {locs : List Loc} {A : Nat → Prop} {sb : Nat} {ad0 ad : List Nat} {h : List am_E} {v : Option Value}
    (I : am_I κ μ p s m args meth c H locs A sb ad0 ad h) : ∀ t : State, t.heap = H → s.WarmedH t.vm → am_Qr κ sb ad0 A v h args s (.returned (v.map (am_v sb ad))) t := by
  intro t ht _
  obtain ⟨-, -, -, -, -, -, hpre, hlen, hP, hD, hS⟩ := I
  exact ⟨⟨ad, rfl, hpre, hlen, by rw [ht]; exact hP, hD⟩, hS.F ht⟩
theorem am_fin {κ : am_K} {below : List Frame} {sb : Nat} {ad0 : List Nat} {A : Nat → Prop} {rm : Room} {v : Option Value} {h : List am_E} {a : Array Value} {s : State} : ∀ t, MQ below (am_Qr κ sb ad0 A v h) a s rm.cells rm.slots A t → am_MQ κ below sb ad0 A rm (.inl v) h a s t := by
  rintro t ⟨oc, h1, h2, ⟨h3, h4⟩, L, ⟨-, h5, h6⟩, h7⟩
  exact ⟨oc, h1, h2, h3, h4, L, ⟨h5, h6⟩, h7⟩
theorem g_iret {κ : am_K} {μ : am_N} {nc ns pc : Nat} {ls : List (Nat × Value)} {h : List am_E} {v : Int32}
    (d : decode (am_cc μ) pc = .ok (.ireturn, 1)) (hr : am_rt μ = some .int) (hc : nc ≤ (am_R μ).cells) (hs : ns ≤ (am_R μ).slots) : am_G κ μ (.inl (some (.int v))) h nc ns pc ls [.int v] h := by
  intro p e s m args below meth c H locs A sb ad0 ad lv I hlv
  refine W.widen hc hs (am_mono am_fin ?_)
  exact W.iret (v := v) I.1.1 I.1.2.1 (I.2.1.1.trans hr) (am_end (v := some (.int v)) I) (am_loc I).2.2 d I.2.1.2.1
theorem g_zret {κ : am_K} {μ : am_N} {nc ns pc : Nat} {ls : List (Nat × Value)} {h : List am_E} {v : Int32} {ty : FieldType}
    (d : decode (am_cc μ) pc = .ok (.ireturn, 1)) (hr : am_rt μ = some ty) (hn : narrow ty (.int v) = .int v) (hc : nc ≤ (am_R μ).cells) (hs : ns ≤ (am_R μ).slots) : am_G κ μ (.inl (some (.int v))) h nc ns pc ls [.int v] h := by
  intro p e s m args below meth c H locs A sb ad0 ad lv I hlv
  refine W.widen hc hs (am_mono am_fin ?_)
  exact W.zret (v := v) I.1.1 I.1.2.1 (I.2.1.1.trans hr) hn (am_end (v := some (.int v)) I) (am_loc I).2.2 d I.2.1.2.1
theorem g_lret {κ : am_K} {μ : am_N} {nc ns pc : Nat} {ls : List (Nat × Value)} {h : List am_E} {v : Int64}
    (d : decode (am_cc μ) pc = .ok (.lreturn, 1)) (hr : am_rt μ = some .long) (hc : nc ≤ (am_R μ).cells) (hs : ns ≤ (am_R μ).slots) : am_G κ μ (.inl (some (.long v))) h nc ns pc ls [.long v] h := by
  intro p e s m args below meth c H locs A sb ad0 ad lv I hlv
  refine W.widen hc hs (am_mono am_fin ?_)
  exact W.lret (v := v) I.1.1 I.1.2.1 (I.2.1.1.trans hr) (am_end (v := some (.long v)) I) (am_loc I).2.2 d I.2.1.2.1
theorem g_vret {κ : am_K} {μ : am_N} {nc ns pc : Nat} {ls : List (Nat × Value)} {h : List am_E}
    (d : decode (am_cc μ) pc = .ok (.return_, 1)) (hr : am_rt μ = none) (hc : nc ≤ (am_R μ).cells) (hs : ns ≤ (am_R μ).slots) : am_G κ μ (.inl none) h nc ns pc ls [] h := by
  intro p e s m args below meth c H locs A sb ad0 ad lv I hlv
  refine W.widen hc hs (am_mono am_fin ?_)
  exact W.vret I.1.1 I.1.2.1 (I.2.1.1.trans hr) (am_end (v := none) I) (am_loc I).2.2 d I.2.1.2.1
/-- an exception that no handler of this method takes -/
theorem g_out {κ : am_K} {μ : am_N} {nc ns pc : Nat} {ls : List (Nat × Value)} {st : List Value} {h : List am_E} {E : String}
    (ht : am_tb μ = []) (hc : nc ≤ (am_R μ).cells) (hs : ns ≤ (am_R μ).slots) : am_GX κ μ (.inr E) h nc ns pc ls st h E := by
  intro p e s m args below meth c H locs A sb ad0 ad lv ce q I hlv hce hcv hcl T hT X
  obtain ⟨-, a1, -, -, -, -, hpre, hlen, hP, hD, hS⟩ := I
  obtain ⟨st1, hrun, hend, hW, hsm⟩ := X.leaveThrown q (g := F0 m pc lv (st.map (am_v sb ad))) rfl rfl rfl (fun x hx => by rw [a1.2.2.2, ht] at hx; cases hx) a1.2.1
  have hh : (T.setFrames (.throwing q :: below)).heap = H := hT
  exact ⟨_, st1, .threw q, hrun, hend, ⟨ad, ⟨q, ce, rfl, by rw [hh]; exact hce, hcv, hcl⟩, hpre, hlen, by rw [hh]; exact hP, hD⟩, hS.F hh, locs, ⟨hW, hsm.mono hc hs⟩, hS.2.2⟩
theorem am_mapO (f : Value → Value) (v : Option Value) (st : List Value) : (v.map f).toList ++ st.map f = (v.toList ++ st).map f := by
  cases v <;> simp
/-- a contract whose method returns, as the kit's calls take it -/
theorem am_met {κ : am_K} {y : MethodName} {ws : List Cond} {rm : Room} {as : List Value} {h h2 : List am_E} {v : Option Value} (hM : am_M κ y ws rm as h (.inl v) h2) (sb : Nat) (ad : List Nat) (sz : Nat) (hl : ad.length = h.length) :
    Met (am_l κ) y ws rm (am_Pc κ sb ad sz as h) (am_Qr κ sb ad (am_A ad sz) v h2) rm.cells rm.slots (am_A ad sz) := by
  refine MetFree.mono (hM sb ad sz hl) (fun _ _ z => z) (fun _ _ _ _ _ z => z) (fun a st oc t _ z => ?_)
  obtain ⟨⟨ad', h1, h3⟩, h4, L, ⟨h5, h6⟩, h7⟩ := z
  exact ⟨⟨⟨ad', h1, h3⟩, h4⟩, L, ⟨⟨_, h1⟩, h5, h6⟩, h7⟩
/-- behind a call: the cells that came back -/
theorem am_I.back {κ : am_K} {μ : am_N} {p : Program} {s : State} {m : MethodId} {args : Array Value} {meth : Method} {c : Code} {H : Heap} {locs L : List Loc} {A : Nat → Prop} {sb : Nat} {ad0 ad ad' : List Nat} {h h2 : List am_E} {t st₀ : State}
    (I : am_I κ μ p s m args meth c H locs A sb ad0 ad h) (h0 : st₀.heap = H) (hL : ∀ q ∈ L, am_A ad H.size q.base) (hB : am_B κ sb ad (am_A ad H.size) h2 ad' t) (hF : va_F (am_A ad H.size) st₀ t) :
    am_I κ μ p s m args meth c t.heap (locs ++ L) A sb ad0 ad' h2 := by
  have hA := am_free I
  obtain ⟨S, a1, hT, hZ, hN, hX, hpre, hlen, hP, hD, hS⟩ := I
  obtain ⟨b1, b2, b3, b4⟩ := hB
  obtain ⟨f1, f2⟩ := hF
  rw [h0] at f1 f2
  refine ⟨S, a1, hT, hZ, hN, hX, hpre.trans b1, b2, b3, b4.weaken (fun _ q _ z => hA q.1 z), Nat.le_trans hS.1 f1, fun q z1 z2 => ?_, fun q hq => ?_⟩
  · rw [f2 q (Nat.lt_of_lt_of_le z1 hS.1) (fun z => z2 (hA q z))]
    exact hS.2.1 q z1 z2
  · rcases List.mem_append.mp hq with z | z
    · exact hS.2.2 q z
    · exact hA _ (hL q z)
theorem am_same {ad ad' : List Nat} {a b : Nat} (h1 : ad <+: ad') (h2 : ad.length = a) (h3 : ad'.length = b) (h4 : b = a) : ad' = ad := (h1.eq_of_length (by rw [h2, h3, h4])).symm
theorem am_run {κ : am_K} {μ : am_N} {o1 : am_O} {h1 : List am_E} {nc ns pc n mc ms : Nat} {ls : List (Nat × Value)} {st stk : List Value} {h h2 : List am_E} {v : Option Value} {p : Program} {e : Env} {s : State} {m : MethodId} {args a' : Array Value} {below : List Frame} {meth : Method} {c : Code} {H : Heap} {locs : List Loc} {A : Nat → Prop} {sb : Nat} {ad0 ad : List Nat} {lv : Array Slot}
    (I : am_I κ μ p s m args meth c H locs A sb ad0 ad h) (hlv : lv_has lv (am_nL μ) (am_ls sb ad ls)) (en : pc + 3 = n)
    (hr : va_Run p (am_l κ) e (am_R μ) s m args below meth c H locs nc ns mc ms (F0 m pc lv stk) (st.map (am_v sb ad)) (am_Qr κ sb ad (am_A ad H.size) v h2 a') (am_A ad H.size)) (hl : h2.length = h.length)
    (kr : am_G κ μ o1 h1 (nc + mc) (ns + ms) n ls (v.toList ++ st) h2) :
    W p (am_l κ) e (am_R μ) s m args below meth c H locs nc ns (am_MQ κ below sb ad0 A (am_R μ) o1 h1 args s) (F0 m pc lv stk) := by
  subst en
  intro T hT X
  obtain ⟨v', st₀, t, T', L, h0, X', hL, e1, e2, ⟨⟨ad', ho, hB⟩, hFr⟩, go⟩ := hr T hT X
  have had : ad' = ad := am_same hB.1 I.2.2.2.2.2.2.2.1 hB.2.1 hl
  subst had
  cases ho
  have I' := I.back h0 hL hB hFr
  rw [← e1] at I'
  obtain ⟨t2, a1, b1⟩ := kr p e s m args below meth c T'.heap (locs ++ L) A sb ad0 ad' lv I' hlv T' rfl X'
  rw [← am_mapO] at a1
  exact ⟨t2, go t2 a1, b1⟩
theorem am_recv {κ : am_K} {μ : am_N} {p : Program} {s : State} {m : MethodId} {args : Array Value} {meth : Method} {c : Code} {H : Heap} {locs : List Loc} {A : Nat → Prop} {sb : Nat} {ad0 ad : List Nat} {h : List am_E} {ci q0 N : Nat} {C : String} {T : u_T} {fs : List Value}
    (I : am_I κ μ p s m args meth c H locs A sb ad0 ad h) (hcl : (am_cl κ)[ci]? = some (C, T, N)) (he : h[q0]? = some (.inr (ci, fs))) : ∃ cellB : Cell, H[ad.getD q0 sb]? = some cellB ∧ cellB.vm.isStatics = false ∧ s.vm.findClass C = some cellB.cls := by
  obtain ⟨-, -, hT, -, -, -, -, hlen, hP, -, -⟩ := I
  obtain ⟨r, z1, cell, q1, q2, q3, -⟩ := hP q0 _ (am_w_at hlen he)
  exact ⟨cell, q1, by rw [q3]; rfl, by rw [q2]; exact (hT.1.1 ci _ hcl).2.1⟩
theorem am_revmap (f : Value → Value) (as st : List Value) (v : Value) : (as.reverse ++ v :: st).map f = (as.map f).reverse ++ f v :: st.map f := by
  rw [List.map_append, List.map_reverse, List.map_cons]
theorem am_revmapS (f : Value → Value) (as st : List Value) : (as.reverse ++ st).map f = (as.map f).reverse ++ st.map f := by
  rw [List.map_append, List.map_reverse]
theorem am_catE (sb : Nat) (ad : List Nat) (st : List Value) : ((st.map (am_v sb ad)).map fun v => v.category).sum = (st.map fun v => v.category).sum := by
  rw [List.map_map]
  congr 2
  funext v
  exact am_v_cat sb ad v
theorem g_callV {κ : am_K} {μ : am_N} {o1 : am_O} {h1 : List am_E} {nc ns pc n : Nat} {ls : List (Nat × Value)} {stk : List Value} {h h2 : List am_E} {v : Option Value} {idx ci q0 N maxL : Nat} {y : MethodName} {bytes : ByteArray} {ret : Option FieldType} {ws ws' : List Cond} {rm : Room} {T : u_T} {fs : List Value}
    (as st : List Value) (d : decode (am_cc μ) pc = .ok (.invokevirtual idx, 3)) (en : pc + 3 = n) (hM : am_M κ y ws rm (.ref q0 :: as) h (.inl v) h2) (hG : GoodIn (am_ws μ) (wsV (am_own μ) idx y.cls y ws)) (hw : ws = Cond.code y bytes maxL ret :: ws')
    (hd : y.cls = y.cls ∧ y.cls ≠ "java/lang/invoke/MethodHandle" ∧ y.cls ≠ "java/lang/invoke/VarHandle" ∧ (parseMethodDescriptor y.desc).map (fun d => d.parameters.length) = some as.length) (hR : rm.frames + 1 ≤ (am_R μ).frames ∧ 8 + (maxL + 11) + rm.locals ≤ (am_R μ).locals) (hf : nc + rm.cells ≤ (am_R μ).cells ∧ ns + rm.slots ≤ (am_R μ).slots)
    (hcl : (am_cl κ)[ci]? = some (y.cls, T, N)) (he : h[q0]? = some (.inr (ci, fs))) (hst : stk = as.reverse ++ .ref q0 :: st) (hcat : (st.map fun v => v.category).sum ≤ 8) (hl : h2.length = h.length)
    (kr : am_G κ μ o1 h1 (nc + rm.cells) (ns + rm.slots) n ls (v.toList ++ st) h2) : am_G κ μ o1 h1 nc ns pc ls stk h := by
  intro p e s m args below meth c H locs A sb ad0 ad lv I hlv
  have hlen : ad.length = h.length := I.2.2.2.2.2.2.2.1
  subst hst
  rw [am_revmap]
  have hp : PreV s H y.cls (ad.getD q0 sb) (am_Pc κ sb ad H.size (.ref q0 :: as) h) (as.map (am_v sb ad)) := ⟨am_Pc.blind, am_recv I hcl he, am_Pc.at (.ref q0 :: as) I⟩
  exact am_run I hlv en (va_runV I.1 (am_met hM sb ad H.size hlen) (cwV as.length I.1.2.2.2.2 hG hw rfl rfl hd hR) hp rfl (by rw [List.length_map]) hlv.1 rfl (lv_room (by rw [am_catE]; exact hcat)) d hf) hl kr
theorem g_callS {κ : am_K} {μ : am_N} {o1 : am_O} {h1 : List am_E} {nc ns pc n : Nat} {ls : List (Nat × Value)} {stk : List Value} {h h2 : List am_E} {v : Option Value} {idx maxL : Nat} {y : MethodName} {bytes : ByteArray} {ret : Option FieldType} {ws ws' : List Cond} {rm : Room}
    (as st : List Value) (d : decode (am_cc μ) pc = .ok (.invokestatic idx, 3)) (en : pc + 3 = n) (hM : am_M κ y ws rm as h (.inl v) h2) (hG : GoodIn (am_ws μ) (wsS (am_own μ) idx y ws)) (hw : ws = Cond.code y bytes maxL ret :: ws')
    (hd : y.cls = am_own μ ∧ y.cls ≠ "java/lang/invoke/MethodHandle" ∧ y.cls ≠ "java/lang/invoke/VarHandle" ∧ (parseMethodDescriptor y.desc).map (fun d => d.parameters.length) = some as.length) (hR : rm.frames + 1 ≤ (am_R μ).frames ∧ 8 + (maxL + 11) + rm.locals ≤ (am_R μ).locals) (hf : nc + rm.cells ≤ (am_R μ).cells ∧ ns + rm.slots ≤ (am_R μ).slots)
    (hst : stk = as.reverse ++ st) (hcat : (st.map fun v => v.category).sum ≤ 8) (hl : h2.length = h.length)
    (kr : am_G κ μ o1 h1 (nc + rm.cells) (ns + rm.slots) n ls (v.toList ++ st) h2) : am_G κ μ o1 h1 nc ns pc ls stk h := by
  intro p e s m args below meth c H locs A sb ad0 ad lv I hlv
  have hlen : ad.length = h.length := I.2.2.2.2.2.2.2.1
  subst hst
  rw [am_revmapS]
  have hp : PreS s H (am_Pc κ sb ad H.size as h) (as.map (am_v sb ad)) := ⟨am_Pc.blind, am_Pc.at as I⟩
  exact am_run I hlv en (va_runS I.1 (am_met hM sb ad H.size hlen) (cwS as.length I.1.2.2.2.2 hG hw rfl rfl hd hR) hp rfl (by rw [List.length_map]) hlv.1 rfl (lv_room (by rw [am_catE]; exact hcat)) d hf) hl kr
theorem g_callSN {κ : am_K} {μ : am_N} {o1 : am_O} {h1 : List am_E} {nc ns pc n : Nat} {ls : List (Nat × Value)} {stk : List Value} {h h2 : List am_E} {v : Option Value} {idx maxL : Nat} {y : MethodName} {host : String} {bytes : ByteArray} {ret : Option FieldType} {ws ws' : List Cond} {rm : Room}
    (as st : List Value) (d : decode (am_cc μ) pc = .ok (.invokestatic idx, 3)) (en : pc + 3 = n) (hM : am_M κ y ws rm as h (.inl v) h2) (hG : GoodIn (am_ws μ) ws) (hw : ws = Cond.code y bytes maxL ret :: ws') (hn : Cond.methodLinkNest (am_own μ) idx y host ∈ am_NW κ) (hi : Cond.initialized y.cls ∈ am_ws μ) (hsx : Cond.static y ∈ am_ws μ)
    (hd : y.cls ≠ "java/lang/invoke/MethodHandle" ∧ y.cls ≠ "java/lang/invoke/VarHandle" ∧ (parseMethodDescriptor y.desc).map (fun d => d.parameters.length) = some as.length) (hR : rm.frames + 1 ≤ (am_R μ).frames ∧ 8 + (maxL + 11) + rm.locals ≤ (am_R μ).locals) (hf : nc + rm.cells ≤ (am_R μ).cells ∧ ns + rm.slots ≤ (am_R μ).slots)
    (hst : stk = as.reverse ++ st) (hcat : (st.map fun v => v.category).sum ≤ 8) (hl : h2.length = h.length)
    (kr : am_G κ μ o1 h1 (nc + rm.cells) (ns + rm.slots) n ls (v.toList ++ st) h2) : am_G κ μ o1 h1 nc ns pc ls stk h := by
  intro p e s m args below meth c H locs A sb ad0 ad lv I hlv
  have hlen : ad.length = h.length := I.2.2.2.2.2.2.2.1
  have ht := I.1.2.2.2.2
  subst hst
  rw [am_revmapS]
  have hp : PreS s H (am_Pc κ sb ad H.size as h) (as.map (am_v sb ad)) := ⟨am_Pc.blind, am_Pc.at as I⟩
  exact am_run I hlv en (va_runSN I.1 (am_met hM sb ad H.size hlen) ⟨va_cnB as.length ht hG hw rfl rfl (I.2.2.1.2.1 _ hn).2 (ht _ hi) hd hR, ht _ hsx, trivial⟩ hp rfl (by rw [List.length_map]) hlv.1 rfl (lv_room (by rw [am_catE]; exact hcat)) d hf) hl kr
theorem g_callVN {κ : am_K} {μ : am_N} {o1 : am_O} {h1 : List am_E} {nc ns pc n : Nat} {ls : List (Nat × Value)} {stk : List Value} {h h2 : List am_E} {v : Option Value} {idx ci q0 N maxL : Nat} {y : MethodName} {host : String} {bytes : ByteArray} {ret : Option FieldType} {ws ws' : List Cond} {rm : Room} {T : u_T} {fs : List Value}
    (as st : List Value) (d : decode (am_cc μ) pc = .ok (.invokevirtual idx, 3)) (en : pc + 3 = n) (hM : am_M κ y ws rm (.ref q0 :: as) h (.inl v) h2) (hG : GoodIn (am_ws μ) ws) (hw : ws = Cond.code y bytes maxL ret :: ws') (hn : Cond.methodLinkNest (am_own μ) idx y host ∈ am_NW κ) (hi : Cond.initialized y.cls ∈ am_ws μ) (hsx : Cond.instanceMethod y ∈ am_ws μ) (hsl : Cond.selects y.cls y y ∈ am_ws μ)
    (hd : y.cls ≠ "java/lang/invoke/MethodHandle" ∧ y.cls ≠ "java/lang/invoke/VarHandle" ∧ (parseMethodDescriptor y.desc).map (fun d => d.parameters.length) = some as.length) (hR : rm.frames + 1 ≤ (am_R μ).frames ∧ 8 + (maxL + 11) + rm.locals ≤ (am_R μ).locals) (hf : nc + rm.cells ≤ (am_R μ).cells ∧ ns + rm.slots ≤ (am_R μ).slots)
    (hcl : (am_cl κ)[ci]? = some (y.cls, T, N)) (he : h[q0]? = some (.inr (ci, fs))) (hst : stk = as.reverse ++ .ref q0 :: st) (hcat : (st.map fun v => v.category).sum ≤ 8) (hl : h2.length = h.length)
    (kr : am_G κ μ o1 h1 (nc + rm.cells) (ns + rm.slots) n ls (v.toList ++ st) h2) : am_G κ μ o1 h1 nc ns pc ls stk h := by
  intro p e s m args below meth c H locs A sb ad0 ad lv I hlv
  have hlen : ad.length = h.length := I.2.2.2.2.2.2.2.1
  have ht := I.1.2.2.2.2
  subst hst
  rw [am_revmap]
  have hp : PreV s H y.cls (ad.getD q0 sb) (am_Pc κ sb ad H.size (.ref q0 :: as) h) (as.map (am_v sb ad)) := ⟨am_Pc.blind, am_recv I hcl he, am_Pc.at (.ref q0 :: as) I⟩
  exact am_run I hlv en (va_runVN I.1 (am_met hM sb ad H.size hlen) ⟨va_cnB as.length ht hG hw rfl rfl (I.2.2.1.2.1 _ hn).2 (ht _ hi) hd hR, ht _ hsx, ht _ hsl⟩ hp rfl (by rw [List.length_map]) hlv.1 rfl (lv_room (by rw [am_catE]; exact hcat)) d hf) hl kr
theorem am_sl_len (sb : Nat) (ad : List Nat) : ∀ as : List Value, (lg_sl (as.map (am_v sb ad))).length = (lg_sl as).length := by
  intro as
  induction as with
  | nil => rfl
  | cons v t ih =>
    simp only [lg_sl, List.map_cons, List.flatMap_cons, List.length_append, am_v_cat] at ih ⊢
    rw [ih]
    congr 1
    split <;> rfl
theorem am_args (sb : Nat) (ad : List Nat) : ∀ (as : List Value) (i : Nat), lv_args i (as.map (am_v sb ad)) = am_ls sb ad (lv_args i as) := by
  intro as
  induction as with
  | nil => intro i; rfl
  | cons v t ih =>
    intro i
    simp only [lv_args, List.map_cons, am_v_cat]
    rw [ih]
    rfl
/-- a method out of its walk -/
theorem am_body {κ : am_K} {y : MethodName} {cc : ByteArray} {maxL : Nat} {ret : Option FieldType} {ws ws' : List Cond} {rm : Room} {as : List Value} {h h1 : List am_E} {o1 : am_O} {ls : List (Nat × Value)}
    (hy : plainName y.cls = true) (hw : ws = Cond.code y cc maxL ret :: ws') (hn : (lg_sl as).length ≤ maxL) (hls : lv_args 0 as = ls)
    (k : am_G κ (ws, y.cls, cc, maxL, ret, y.name, [], rm, none) o1 h1 0 0 0 ls [] h) : am_M κ y ws rm as h o1 h1 := by
  intro sb ad sz hlen
  refine MetFree.of_bodyS (code := cc) (maxLocals := maxL) (ret := ret) hy ?_ ?_
  · intro args s m hb hnm
    obtain ⟨meth, c, z1, z2, z3, z4, z5, z6, -, -⟩ := Cond.code_spec hnm (atoms_spec (ws := ws) hb _ (by rw [hw]; exact List.mem_cons_self))
    exact ⟨meth, c, z1, z2, z3, z4, z5, z6⟩
  · intro p e s m args below meth c s₁ B hml hv _
    obtain ⟨rfl, hsz, hP, hD, hT, hZ⟩ := hv
    subst hsz
    have hts := atoms_spec (ws := ws) B.pre
    have hown : s.vm.findClass y.cls = some m.cls := findClass_of_methodNamed B.named
    have hnm : meth.name = y.name := (name_of_methodNamed B.named B.method).1
    have htb : c.exceptionTable.toList = [] := by
      obtain ⟨meth9, c9, z1, z2, -, -, -, -, z7, -⟩ := Cond.code_spec B.named (hts _ (by rw [hw]; exact List.mem_cons_self))
      cases Option.some.inj (z1.symm.trans B.method)
      cases Option.some.inj (z2.symm.trans (Stand.of_body B).code)
      rw [Array.isEmpty_iff.mp z7]
    have hl := lv_entry (as.map (am_v sb ad)) (n := maxL) (by rw [am_sl_len]; exact hn)
    rw [am_args, hls] at hl
    have hw0 := k p e s m (as.map (am_v sb ad)).toArray below meth c s.heap [] (am_A ad s.heap.size) sb ad ad _ ⟨⟨B.exec, B.bytes, hml, hown, hts⟩, ⟨B.returns, B.notSynchronized, hnm, htb⟩, hT, hZ, fun q z => Or.inr z, trivial, List.prefix_refl _, hlen, hP, ⟨hD.1, fun k q hk => by
      obtain ⟨x, -, z2, -⟩ := am_w_of hk
      exact Or.inl (List.mem_of_getElem? z2)⟩, va_S.rf⟩ hl
    have hh0 : s₁.heap = s.heap := by rw [B.state]; rfl
    rw [List.map_nil, ← lg_entry_eq] at hw0
    obtain ⟨t, a1, oc, b1, b2, b3⟩ := hw0 s₁ hh0 (Stand.of_body B)
    exact ⟨t, oc, a1, b1, b2, b3⟩
end
section
/-! cells that come: labels stay what they were if no label in sight is the new one -/
def am_okv (a b : Nat) (v : Value) : Bool := match v with
  | .ref k => decide (k < a) || decide (b ≤ k)
  | _ => true
def am_oke (a b : Nat) (x : am_E) : Bool := match x with
  | .inl _ => true
  | .inr q => q.2.all (am_okv a b)
theorem am_okv_v {sb : Nat} {ad ad' : List Nat} {v : Value} (hp : ad <+: ad') (h : am_okv ad.length ad'.length v = true) : am_v sb ad' v = am_v sb ad v := by
  cases v with
  | ref k =>
    simp only [am_okv, Bool.or_eq_true, decide_eq_true_eq] at h
    simp only [am_v, Value.ref.injEq]
    obtain ⟨t, rfl⟩ := hp
    rw [List.length_append] at h
    rw [List.getD_eq_getElem?_getD, List.getD_eq_getElem?_getD]
    rcases h with h | h
    · rw [List.getElem?_append_left h]
    · rw [List.getElem?_eq_none (by rw [List.length_append]; exact h), List.getElem?_eq_none (by omega)]
  | _ => rfl
theorem am_okv_e {dA : FieldType → ClassId} {sb : Nat} {ad ad' : List Nat} {x : am_E} (hp : ad <+: ad') (h : am_oke ad.length ad'.length x = true) : am_e dA sb ad' x = am_e dA sb ad x := by
  cases x with
  | inl q => rfl
  | inr q =>
    simp only [am_oke, List.all_eq_true] at h
    simp only [am_e]
    congr 2
    exact List.map_congr_left (fun v hv => am_okv_v hp (h v hv))
theorem am_okv_l {sb : Nat} {ad ad' : List Nat} {ls : List (Nat × Value)} (hp : ad <+: ad') (h : ls.all (fun q => am_okv ad.length ad'.length q.2) = true) : am_ls sb ad' ls = am_ls sb ad ls := by
  rw [List.all_eq_true] at h
  unfold am_ls
  exact List.map_congr_left (fun q hq => by rw [am_okv_v hp (h q hq)])
theorem am_okv_s {sb : Nat} {ad ad' : List Nat} {st : List Value} (hp : ad <+: ad') (h : st.all (am_okv ad.length ad'.length) = true) : st.map (am_v sb ad') = st.map (am_v sb ad) := by
  rw [List.all_eq_true] at h
  exact List.map_congr_left (fun v hv => am_okv_v hp (h v hv))
theorem am_w_push {dA : FieldType → ClassId} {sb q : Nat} {ad : List Nat} {h : List am_E} {x : am_E} (hl : ad.length = h.length) (hh : h.all (am_oke h.length (h.length + 1)) = true) (hx : am_oke h.length (h.length + 1) x = true) :
    am_w dA sb (ad ++ [q]) (h ++ [x]) = am_w dA sb ad h ++ [(q, am_e dA sb ad x)] := by
  have hp : ad <+: ad ++ [q] := List.prefix_append _ _
  have hlen : (ad ++ [q]).length = h.length + 1 := by rw [List.length_append, hl]; rfl
  rw [List.all_eq_true] at hh
  have e1 : ∀ y, am_oke h.length (h.length + 1) y = true → am_e dA sb (ad ++ [q]) y = am_e dA sb ad y := fun y hy => am_okv_e hp (by rw [hlen, hl]; exact hy)
  unfold am_w
  rw [List.zipWith_append (by exact hl)]
  congr 1
  · clear hx
    have : ∀ (a : List Nat) (g : List am_E), (∀ y ∈ g, am_e dA sb (ad ++ [q]) y = am_e dA sb ad y) → List.zipWith (fun a x => (a, am_e dA sb (ad ++ [q]) x)) a g = List.zipWith (fun a x => (a, am_e dA sb ad x)) a g := by
      intro a g
      induction g generalizing a with
      | nil => intro _; cases a <;> rfl
      | cons y g ih =>
        intro hy
        cases a with
        | nil => rfl
        | cons b a =>
          simp only [List.zipWith_cons_cons]
          rw [hy y List.mem_cons_self, ih a (fun z hz => hy z (List.mem_cons_of_mem _ hz))]
    exact this ad h (fun y hy => e1 y (hh y hy))
  · simp only [List.zipWith_cons_cons, List.zipWith_nil_left]
    rw [e1 x hx]
def am_ok (nh : Nat) (ls : List (Nat × Value)) (st : List Value) (h : List am_E) (x : am_E) : Bool := h.all (am_oke nh (nh + 1)) && am_oke nh (nh + 1) x && ls.all (fun q => am_okv nh (nh + 1) q.2) && st.all (am_okv nh (nh + 1))
theorem am_I.push {κ : am_K} {μ : am_N} {p : Program} {s : State} {m : MethodId} {args : Array Value} {meth : Method} {c : Code} {H H1 : Heap} {locs locs1 : List Loc} {A : Nat → Prop} {sb q : Nat} {ad0 ad : List Nat} {h : List am_E} {x : am_E}
    (I : am_I κ μ p s m args meth c H locs A sb ad0 ad h) (hh : h.all (am_oke h.length (h.length + 1)) = true) (hx : am_oke h.length (h.length + 1) x = true)
    (hP : va_P (am_D κ) (am_cl κ) (am_w (am_dA κ) sb ad h ++ [(q, am_e (am_dA κ) sb ad x)]) H1) (hD : va_D A (am_w (am_dA κ) sb ad h ++ [(q, am_e (am_dA κ) sb ad x)])) (hS : va_S A s.heap H1 locs1) :
    am_I κ μ p s m args meth c H1 locs1 A sb ad0 (ad ++ [q]) (h ++ [x]) := by
  obtain ⟨S, a1, hT, hZ, hA, hX, hpre, hlen, -, -, -⟩ := I
  rw [← am_w_push hlen hh hx] at hP hD
  exact ⟨S, a1, hT, hZ, hA, hX, hpre.trans (List.prefix_append _ _), by rw [List.length_append, List.length_append, hlen]; rfl, hP, hD, hS⟩
theorem g_new {κ : am_K} {μ : am_N} {o1 : am_O} {h1 : List am_E} {nc ns pc n : Nat} {ls : List (Nat × Value)} {st : List Value} {h h' : List am_E} {idx ci nh : Nat} {C : String} {T : u_T} {N : Nat} {fs : List Value} {ty0 : Nat → FieldType}
    (d : decode (am_cc μ) pc = .ok (.new idx, 3)) (en : pc + 3 = n) (hin : ∀ w ∈ u_ws C T N, w ∈ am_ws μ) (hc : (am_cl κ)[ci]? = some (C, T, N)) (ht : ∀ k, k < N → parseFieldDescriptor (T k).2.2.1 = some (ty0 k)) (w1 : Cond.classLink (am_own μ) idx C ∈ am_ws μ) (w2 : Cond.instantiable C N ∈ am_ws μ) (w3 : Cond.initialized C ∈ am_ws μ)
    (hfs : ∀ j, j < N → defaultValue (ty0 j) = vp_V fs j) (hr : nc + 1 ≤ (am_R μ).cells) (hr2 : ns + N ≤ (am_R μ).slots) (hnh : h.length = nh) (hfv : ∀ sb ad, fs.map (am_v sb ad) = fs) (hok : am_ok nh ls st h (.inr (ci, fs)) = true) (hh : h ++ [.inr (ci, fs)] = h')
    (kk : am_G κ μ o1 h1 (nc + 1) (ns + N) n ls (.ref nh :: st) h') : am_G κ μ o1 h1 nc ns pc ls st h := by
  subst en
  subst hnh
  subst hh
  intro p e s m args below meth c H locs A sb ad0 ad lv I hlv
  have I0 := I
  obtain ⟨S, -, hT, -, hA, -, -, hlen, hP, hD, hS⟩ := I
  simp only [am_ok, Bool.and_eq_true] at hok
  obtain ⟨⟨⟨k1, k2⟩, k3⟩, k4⟩ := hok
  refine va_new (D := am_D κ) (ci := ci) (C := C) (T := T) (N := N) (fs := fs) S.1 S.2.1 S.2.2.2.2 hin ty0 ht S.2.2.2.1 (S.2.2.2.2 _ w1) (S.2.2.2.2 _ w2) (S.2.2.2.2 _ w3) hT.1 hP hD hS hA hc hfs hr hr2 d (fun q H1 hP1 hD1 hS1 => ?_)
  have hp : ad <+: ad ++ [q] := List.prefix_append _ _
  have hlen' : (ad ++ [q]).length = h.length + 1 := by rw [List.length_append, hlen]; rfl
  have e1 : (q, (Sum.inr (ci, fs) : va_E)) = (q, am_e (am_dA κ) sb ad (.inr (ci, fs))) := by simp only [am_e, hfv]
  have I1 := I0.push (q := q) k1 k2 (e1 ▸ hP1) (e1 ▸ hD1) hS1
  have hk := kk p e s m args below meth c H1 locs A sb ad0 (ad ++ [q]) lv I1 (by rw [am_okv_l hp (by rw [hlen', hlen]; exact k3)]; exact hlv)
  rw [List.map_cons, am_okv_s hp (by rw [hlen', hlen]; exact k4)] at hk
  have e2 : am_v sb (ad ++ [q]) (.ref h.length) = .ref q := by
    simp only [am_v]
    rw [List.getD_eq_getElem?_getD, ← hlen, List.getElem?_append_right (Nat.le_refl _), Nat.sub_self]
    rfl
  rw [e2] at hk
  exact hk
/-- the array class of a type is the one that the tables name -/
theorem am_dA_eq {κ : am_K} {s : State} {cA : ClassId} {ty : FieldType} {k : Nat} (h : va_K (am_D κ) (am_cl κ) (am_ty (am_dA κ) ++ [(cA, ty)]) s) (hk : (am_ty (am_dA κ))[k]? = some (am_dA κ ty, ty)) (hp : ∀ C, ty ≠ .object C) : cA = am_dA κ ty := by
  have h1 := (h.2 k (am_dA κ ty, ty) (by rw [List.getElem?_append_left (List.getElem?_eq_some_iff.mp hk).1]; exact hk)).2
  have h2 := (h.2 (am_ty (am_dA κ)).length (cA, ty) (by rw [List.getElem?_append_right (Nat.le_refl _), Nat.sub_self]; rfl)).2
  cases ty with
  | object C => exact absurd rfl (hp C)
  | _ => exact Option.some.inj (h2.symm.trans h1)
theorem g_newa {κ : am_K} {μ : am_N} {o1 : am_O} {h1 : List am_E} {nc ns pc n : Nat} {ls : List (Nat × Value)} {st : List Value} {h h' : List am_E} {nh N k9 : Nat} {atype : ArrayType} {ty : FieldType} {i : Int32} {a0 : vp_A}
    (d : decode (am_cc μ) pc = .ok (.newarray atype, 2)) (en : pc + 2 = n) (hw : Cond.arrayClass (newarray.typeOf atype) ∈ am_ws μ) (hty : newarray.typeOf atype = ty) (hk9 : ∀ dA, (am_ty dA)[k9]? = some (dA ty, ty)) (hpr : ∀ C, ty ≠ .object C)
    (ha : ∀ cA : ClassId, vp_cell cA a0 = arrV cA N (fun _ => defaultValue ty)) (hi : ¬ i < 0) (hN : i.toNatClampNeg = N) (hb : N * componentBytes ty ≤ 536870912) (hr : nc + 1 ≤ (am_R μ).cells) (hr2 : ns + N ≤ (am_R μ).slots) (hnh : h.length = nh) (hok : am_ok nh ls st h (.inl (ty, a0)) = true) (hh : h ++ [.inl (ty, a0)] = h')
    (kk : am_G κ μ o1 h1 (nc + 1) (ns + N) n ls (.ref nh :: st) h') : am_G κ μ o1 h1 nc ns pc ls (.int i :: st) h := by
  subst en
  subst hnh
  subst hh
  intro p e s m args below meth c H locs A sb ad0 ad lv I hlv
  have I0 := I
  obtain ⟨S, -, hT, -, hA, -, -, hlen, hP, hD, hS⟩ := I
  simp only [am_ok, Bool.and_eq_true] at hok
  obtain ⟨⟨⟨k1, k2⟩, k3⟩, k4⟩ := hok
  refine va_newa (D := am_D κ) (a0 := a0) (N' := N) (n := i) S.1 S.2.1 (S.2.2.2.2 _ hw) hty hT.1 hP hD hS hA ha hi hN hb hr hr2 d (fun q cA H1 hK1 hP1 hD1 hS1 => ?_)
  have hp : ad <+: ad ++ [q] := List.prefix_append _ _
  have hlen' : (ad ++ [q]).length = h.length + 1 := by rw [List.length_append, hlen]; rfl
  have hcA := am_dA_eq hK1 (hk9 _) hpr
  subst hcA
  have I1 := I0.push (q := q) (x := .inl (ty, a0)) k1 k2 hP1 hD1 hS1
  have hk := kk p e s m args below meth c H1 locs A sb ad0 (ad ++ [q]) lv I1 (by rw [am_okv_l hp (by rw [hlen', hlen]; exact k3)]; exact hlv)
  rw [List.map_cons, am_okv_s hp (by rw [hlen', hlen]; exact k4)] at hk
  have e2 : am_v sb (ad ++ [q]) (.ref h.length) = .ref q := by
    simp only [am_v]
    rw [List.getD_eq_getElem?_getD, ← hlen, List.getElem?_append_right (Nat.le_refl _), Nat.sub_self]
    rfl
  rw [e2] at hk
  exact hk
/-- a call that makes cells -/
theorem am_runG {κ : am_K} {μ : am_N} {o1 : am_O} {h1 : List am_E} {nc ns pc n mc ms : Nat} {ls : List (Nat × Value)} {st stk : List Value} {h h2 : List am_E} {v : Option Value} {p : Program} {e : Env} {s : State} {m : MethodId} {args a' : Array Value} {below : List Frame} {meth : Method} {c : Code} {H : Heap} {locs : List Loc} {A : Nat → Prop} {sb : Nat} {ad0 ad : List Nat} {lv : Array Slot}
    (I : am_I κ μ p s m args meth c H locs A sb ad0 ad h) (hlv : lv_has lv (am_nL μ) (am_ls sb ad ls)) (en : pc + 3 = n)
    (hr : va_Run p (am_l κ) e (am_R μ) s m args below meth c H locs nc ns mc ms (F0 m pc lv stk) (st.map (am_v sb ad)) (am_Qr κ sb ad (am_A ad H.size) v h2 a') (am_A ad H.size))
    (z1 : ls.all (fun q => am_okv h.length h2.length q.2) = true) (z2 : st.all (am_okv h.length h2.length) = true)
    (kr : am_G κ μ o1 h1 (nc + mc) (ns + ms) n ls (v.toList ++ st) h2) :
    W p (am_l κ) e (am_R μ) s m args below meth c H locs nc ns (am_MQ κ below sb ad0 A (am_R μ) o1 h1 args s) (F0 m pc lv stk) := by
  subst en
  intro T hT X
  obtain ⟨v', st₀, t, T', L, h0, X', hL, e1, e2, ⟨⟨ad', ho, hB⟩, hFr⟩, go⟩ := hr T hT X
  have hlen := I.2.2.2.2.2.2.2.1
  have hl2 := hB.2.1
  have hp := hB.1
  cases ho
  have I' := I.back h0 hL hB hFr
  rw [← e1] at I'
  obtain ⟨t2, a1, b1⟩ := kr p e s m args below meth c T'.heap (locs ++ L) A sb ad0 ad' lv I' (by rw [am_okv_l hp (by rw [hlen, hl2]; exact z1)]; exact hlv) T' rfl X'
  rw [← am_mapO, am_okv_s hp (by rw [hlen, hl2]; exact z2)] at a1
  exact ⟨t2, go t2 a1, b1⟩
theorem g_callI {κ : am_K} {μ : am_N} {o1 : am_O} {h1 : List am_E} {nc ns pc n : Nat} {ls : List (Nat × Value)} {stk : List Value} {h h2 : List am_E} {idx q0 maxL : Nat} {y : MethodName} {bytes : ByteArray} {ws ws' : List Cond} {rm : Room}
    (as st : List Value) (d : decode (am_cc μ) pc = .ok (.invokespecial idx, 3)) (en : pc + 3 = n) (hM : am_M κ y ws rm (.ref q0 :: as) h (.inl none) h2) (hG : GoodIn (am_ws μ) ws) (hw : ws = Cond.code y bytes maxL none :: ws') (hi : Cond.initialized y.cls ∈ am_ws μ) (hk : Cond.methodLink (am_own μ) idx y ∈ am_ws μ) (hsx : Cond.instanceMethod y ∈ am_ws μ) (hy : y.name = "<init>")
    (hd : y.cls ≠ "java/lang/invoke/MethodHandle" ∧ y.cls ≠ "java/lang/invoke/VarHandle" ∧ (parseMethodDescriptor y.desc).map (fun d => d.parameters.length) = some as.length) (hR : rm.frames + 1 ≤ (am_R μ).frames ∧ 8 + (maxL + 11) + rm.locals ≤ (am_R μ).locals) (hf : nc + rm.cells ≤ (am_R μ).cells ∧ ns + rm.slots ≤ (am_R μ).slots)
    (hst : stk = as.reverse ++ .ref q0 :: st) (hcat : (st.map fun v => v.category).sum ≤ 8) (z1 : ls.all (fun q => am_okv h.length h2.length q.2) = true) (z2 : st.all (am_okv h.length h2.length) = true)
    (kr : am_G κ μ o1 h1 (nc + rm.cells) (ns + rm.slots) n ls st h2) : am_G κ μ o1 h1 nc ns pc ls stk h := by
  intro p e s m args below meth c H locs A sb ad0 ad lv I hlv
  have hlen : ad.length = h.length := I.2.2.2.2.2.2.2.1
  have ht := I.1.2.2.2.2
  subst hst
  rw [am_revmap]
  have hp : PreS s H (am_Pc κ sb ad H.size (.ref q0 :: as) h) (.ref (ad.getD q0 sb) :: as.map (am_v sb ad)) := ⟨am_Pc.blind, am_Pc.at (.ref q0 :: as) I⟩
  exact am_runG (v := none) I hlv en (va_runI I.1 (am_met hM sb ad H.size hlen) (cwI as.length ht hG hw rfl rfl (ht _ hi) (ht _ hk) (ht _ hsx) hy hd hR) hp rfl (by rw [List.length_map]) hlv.1 rfl (lv_room (by rw [am_catE]; exact hcat)) d hf) z1 z2 kr
theorem g_objInit {κ : am_K} {μ : am_N} {o1 : am_O} {h1 : List am_E} {nc ns pc n : Nat} {ls : List (Nat × Value)} {st : List Value} {h : List am_E} {idx q0 : Nat}
    (d : decode (am_cc μ) pc = .ok (.invokespecial idx, 3)) (en : pc + 3 = n) (w1 : Cond.methodLink (am_own μ) idx Lib.objectInit ∈ am_ws μ) (w2 : Cond.instanceMethod Lib.objectInit ∈ am_ws μ) (w3 : Cond.code Lib.objectInit ⟨#[0xb1]⟩ 1 none ∈ am_ws μ) (hR : 1 ≤ (am_R μ).frames) (hR2 : (st.map fun v => v.category).sum + 12 ≤ (am_R μ).locals)
    (kk : am_G κ μ o1 h1 nc ns n ls st h) : am_G κ μ o1 h1 nc ns pc ls (.ref q0 :: st) h := by
  subst en
  intro p e s m args below meth c H locs A sb ad0 ad lv I hlv
  have ht := I.1.2.2.2.2
  refine W.objInit I.1.1 I.1.2.1 I.1.2.2.2.1 (ht _ w1) (ht _ w2) (ht _ w3) rfl (by rw [I.1.2.2.1]; exact hlv.1) rfl d hR ?_ (kk p e s m args below meth c H locs A sb ad0 ad lv I hlv)
  show 2 * 0 + _ + 12 ≤ _
  have e1 := am_catE sb ad st
  rw [e1]
  omega
theorem g_mmin {κ : am_K} {μ : am_N} {o1 : am_O} {h1 : List am_E} {nc ns pc n : Nat} {ls : List (Nat × Value)} {st : List Value} {h : List am_E} {idx : Nat} {x y : Int32}
    (d : decode (am_cc μ) pc = .ok (.invokestatic idx, 3)) (en : pc + 3 = n) (w1 : Cond.methodLink (am_own μ) idx Lib.Math.min.name ∈ am_ws μ) (w2 : Cond.static Lib.Math.min.name ∈ am_ws μ) (w3 : Cond.initialized "java/lang/Math" ∈ am_ws μ) (w4 : Cond.code Lib.Math.min.name Lib.Math.min.code 2 (some .int) ∈ am_ws μ)
    (hR : 1 ≤ (am_R μ).frames) (hR2 : (st.map fun v => v.category).sum + 13 ≤ (am_R μ).locals) (hc : nc ≤ (am_R μ).cells) (hs : ns ≤ (am_R μ).slots)
    (kk : am_G κ μ o1 h1 nc ns n ls (.int (if y < x then y else x) :: st) h) : am_G κ μ o1 h1 nc ns pc ls (.int y :: .int x :: st) h := by
  subst en
  intro p e s m args below meth c H locs A sb ad0 ad lv I hlv
  have ht := I.1.2.2.2.2
  have e1 := am_catE sb ad st
  exact va_mmin I.1.1 I.1.2.1 (by rw [I.1.2.2.1]; exact hlv.1.symm) I.1.2.2.2.1 (ht _ w1) (ht _ w2) (ht _ w3) (ht _ w4) hR (by rw [e1]; exact hR2) hc hs d (kk p e s m args below meth c H locs A sb ad0 ad lv I hlv)
end
section
/-! what a function says: lemmas on its shape -/
def am_in (i : Int32) (n : Nat) : Bool := decide (¬ i < 0) && decide (i.toNatClampNeg < n)
theorem am_inl {i : Int32} {n : Nat} (h : am_in i n = true) : vp_in i n := by
  simp only [am_in, Bool.and_eq_true, decide_eq_true_eq] at h
  intro z
  rcases z with z | z
  · exact h.1 z
  · omega
def am_bl (v : Int32) : Bool := decide (v = 0) || decide (v = 1)
theorem am_blz {v : Int32} (h : am_bl v = true) : narrow .boolean (.int v) = .int v := by
  simp only [am_bl, Bool.or_eq_true, decide_eq_true_eq] at h
  rcases h with rfl | rfl <;> rfl
def am_t {α β : Type} (x : String ⊕ α) (f : String → Option β) (g : α → Option β) : Option β := match x with
  | .inl E => f E
  | .inr v => g v
theorem ob_bind {α β : Type} {x : Option α} {f : α → Option β} {r : β} (h : x.bind f = some r) : ∃ a, x = some a ∧ f a = some r := by
  cases x with
  | none => cases h
  | some a => exact ⟨a, rfl, h⟩
theorem ob_t {α β : Type} {x : String ⊕ α} {f : String → Option β} {g : α → Option β} {r : β} (h : am_t x f g = some r) : (∃ E, x = .inl E ∧ f E = some r) ∨ ∃ v, x = .inr v ∧ g v = some r := by
  cases x with
  | inl E => exact Or.inl ⟨E, rfl, h⟩
  | inr v => exact Or.inr ⟨v, rfl, h⟩
theorem ob_chk {β : Type} {c : Prop} [Decidable c] {a : Option β} {r : β} (h : (if c then a else none) = some r) : c ∧ a = some r := by
  by_cases hc : c
  · rw [if_pos hc] at h
    exact ⟨hc, h⟩
  · rw [if_neg hc] at h
    cases h
theorem ob_pos {β : Type} {c : Prop} [Decidable c] {a b : Option β} {r : β} (hc : c) (h : (if c then a else b) = some r) : a = some r := by
  rw [if_pos hc] at h
  exact h
theorem ob_neg {β : Type} {c : Prop} [Decidable c] {a b : Option β} {r : β} (hc : ¬ c) (h : (if c then a else b) = some r) : b = some r := by
  rw [if_neg hc] at h
  exact h
def am_oi (x : String ⊕ Int32) : am_O := match x with
  | .inl E => .inr E
  | .inr v => .inl (some (.int v))
def am_ol (x : String ⊕ Int64) : am_O := match x with
  | .inl E => .inr E
  | .inr v => .inl (some (.long v))
def am_ov (x : String ⊕ Unit) : am_O := match x with
  | .inl E => .inr E
  | .inr _ => .inl none
/-- the room of a method that stands d calls above the lowest; a throw makes one cell of six slots -/
def am_rm (d : Nat) (o : am_O) : Room := match o with
  | .inl _ => { frames := 8 + d, cells := 0, slots := 0, locals := 256 + 64 * d }
  | .inr _ => { frames := 8 + d, cells := 1, slots := 6, locals := 256 + 64 * d }
theorem am_rm_f (d : Nat) (o : am_O) : (am_rm d o).frames = 8 + d := by cases o <;> rfl
theorem am_rm_l (d : Nat) (o : am_O) : (am_rm d o).locals = 256 + 64 * d := by cases o <;> rfl
theorem am_rmR {a b maxL : Nat} {o o' : am_O} (h : a < b) (hm : maxL ≤ 45) : (am_rm a o).frames + 1 ≤ (am_rm b o').frames ∧ 8 + (maxL + 11) + (am_rm a o).locals ≤ (am_rm b o').locals := by
  rw [am_rm_f, am_rm_f, am_rm_l, am_rm_l]
  omega
theorem g_ls {κ : am_K} {μ : am_N} {o1 : am_O} {h1 : List am_E} {nc ns pc : Nat} {ls ls' : List (Nat × Value)} {st : List Value} {h : List am_E} (ks : List Nat) (e : lv_pick ls ks = ls') (k : am_G κ μ o1 h1 nc ns pc ls' st h) : am_G κ μ o1 h1 nc ns pc ls st h := by
  intro p e9 s m args below meth c H locs A sb ad0 ad lv I hl
  refine k p e9 s m args below meth c H locs A sb ad0 ad lv I (lv_sub hl ks ?_)
  subst e
  unfold lv_pick am_ls
  rw [List.map_filterMap]
  congr 1
  funext k
  rw [List.getElem?_map]
theorem am_ltb {a b : Nat} (h : Nat.ble (a + 1) b = true) : a < b := Nat.le_of_ble_eq_true h
theorem am_z0 : narrow .boolean (.int 0) = .int 0 := by decide
theorem am_z1 : narrow .boolean (.int 1) = .int 1 := by decide
end
section
/-! A constructor of an exception with a text, whatever its own class file's entry for the constructor above it is: the library's row (Stand.ctorThrowS) asks entry 7, java/util/NoSuchElementException has another. -/
/-- the words: Throwable's, the first constructor's (entry i1 of its class's pool, code b1), those of the classes between, and what the class lays -/
def am_atoms (own : String) (ic i1 : Nat) (b1 : ByteArray) (cls Y : String) (names : List String) : List Cond :=
  Bundle.throwableAtoms ++ (Bundle.throwableSAtoms ++ (Bundle.passSAtoms cls Y i1 b1 ++ (Bundle.chainSAtoms Y names ++
  [.methodLink own ic (Bundle.initS cls), .instantiable cls 6, .selects cls Bundle.tFill0 Bundle.tFill0, .selects cls Bundle.tFill Bundle.tFill,
   .lays cls Bundle.tN "cause" "Ljava/lang/Throwable;", .lays cls Bundle.tN "stackTrace" Bundle.steD, .lays cls Bundle.tN "suppressedExceptions" Bundle.listD, .lays cls Bundle.tN "detailMessage" "Ljava/lang/String;", .lays cls Bundle.tN "backtrace" "Ljava/lang/Object;",
   .isRef (.static Bundle.tN "UNASSIGNED_STACK" Bundle.steD), .isRef (.static Bundle.tN "SUPPRESSED_SENTINEL" Bundle.listD), .fieldLink Bundle.tN 198 Bundle.tN "backtrace" "Ljava/lang/Object;", .lays Bundle.tN Bundle.tN "backtrace" "Ljava/lang/Object;"])))
theorem am_atT {own : String} {ic i1 : Nat} {b1 : ByteArray} {cls Y : String} {names : List String} {w : Cond} (h : w ∈ [Cond.methodLink own ic (Bundle.initS cls), .instantiable cls 6, .selects cls Bundle.tFill0 Bundle.tFill0, .selects cls Bundle.tFill Bundle.tFill,
   .lays cls Bundle.tN "cause" "Ljava/lang/Throwable;", .lays cls Bundle.tN "stackTrace" Bundle.steD, .lays cls Bundle.tN "suppressedExceptions" Bundle.listD, .lays cls Bundle.tN "detailMessage" "Ljava/lang/String;", .lays cls Bundle.tN "backtrace" "Ljava/lang/Object;",
   .isRef (.static Bundle.tN "UNASSIGNED_STACK" Bundle.steD), .isRef (.static Bundle.tN "SUPPRESSED_SENTINEL" Bundle.listD), .fieldLink Bundle.tN 198 Bundle.tN "backtrace" "Ljava/lang/Object;", .lays Bundle.tN Bundle.tN "backtrace" "Ljava/lang/Object;"]) : w ∈ am_atoms own ic i1 b1 cls Y names :=
  List.mem_append_right _ (List.mem_append_right _ (List.mem_append_right _ (List.mem_append_right _ h)))
set_option maxHeartbeats 4000000 in
theorem am_ctor {p : Program} {l : Launch} {e : Env} {R : Room} {s W : State} {m : MethodId} {args : Array Value} {below : List Frame} {meth : Method} {c : Code} {cells slots : Nat} (X : Stand p l e R s m args below meth c W [] cells slots) (hx : p.tables.exec = Jvm.exec) (htr : e.platform.stackTraces = false)
    {own cls Y : String} {names : List String} {ic i1 : Nat} {b1 : ByteArray} (hown : s.vm.findClass own = some m.cls) (hcls : Bundle.fit cls = true) (hY : Bundle.fit Y = true) (hnames : ∀ n ∈ names, Bundle.fit n = true)
    (e0 : decode b1 0 = .ok (.aload_n 0, 1)) (e1 : decode b1 1 = .ok (.aload_n 1, 1)) (e2 : decode b1 2 = .ok (.invokespecial i1, 3)) (e5 : decode b1 5 = .ok (.return_, 1))
    (h : ∀ w ∈ am_atoms own ic i1 b1 cls Y names, w.before args s = true) {a : Addr} {cX : ClassId} {kX : Class} (hfX : s.vm.findClass cls = some cX) (hkX : s.vm.classes[cX]? = some kX) (hcell : W.heap[a]? = some (freshCell cX kX)) (hnew : s.heap.size ≤ a) {msg : Value} (hmsg : msg.isRef = true)
    {g : JFrame} (hg : g.method = m) (hsize : g.locals.size = c.maxLocals) (hlocked : g.locked = none) (hentered : g.entered = []) {rest : List Value} (hstack : g.stack = msg :: .ref a :: .ref a :: rest)
    (d6 : decode c.code g.pc = .ok (.invokespecial ic, 3)) (d9 : decode c.code (g.pc + 3) = .ok (.athrow, 1)) (hout : ∀ x ∈ c.exceptionTable.toList, False)
    (hRf : names.length + 4 < R.frames) (hRl : 2 * g.monitorRoom + ((Value.ref a :: rest).map fun v => v.category).sum + (13 * (names.length + 2) + 42) ≤ R.locals) (hlocks : meth.locks = false) :
    ∃ U : State, Steps p.tables e below (W.setTop g) U ∧ U.status = .running ∧ Ended U below (.threw a) ∧ s.WarmedH U.vm ∧ s.sameButNew ({ U with vm := s.vm } : State) [] cells slots ∧ ∃ ce, U.heap[a]? = some ce ∧ ce.vm = .none ∧ ce.cls = cX := by
  have hpl : e.platform.magicAccessors = ({} : Platform).magicAccessors := by rw [X.admits.platform]
  have hz : ∀ w, w ∈ am_atoms own ic i1 b1 cls Y names → w.holds args s none s [] = true := fun w hw => h w hw
  obtain ⟨T, Z0, L, -, K⟩ := ThrowableC.of_atoms (args := args) (s := s) (pl := e.platform) (by rw [X.admits.platform]) (by rw [X.admits.platform]) hpl (fun w hw => h w (List.mem_append_left _ hw))
  obtain ⟨Z, M, LZ, LM, hnZ⟩ := Init0T.ofS_atoms (args := args) hpl L K (fun w hw => h w (List.mem_append_right _ (List.mem_append_left _ hw)))
  obtain ⟨P1, L1, hm1, hs1⟩ := PassC.ofS_atoms (args := args) (s := s) hpl (X := cls) (Y := Y) (Bundle.fit_spec hcls).1 (Bundle.fit_spec hY).2 e0 e1 e2 e5 (fun w hw => h w (List.mem_append_right _ (List.mem_append_right _ (List.mem_append_left _ hw))))
  obtain ⟨P2, Ps, hlen, L2, hL, hm2, hl2, hps⟩ := Bundle.chainS (args := args) hpl hnZ names Y hY hnames (fun w hw => h w (List.mem_append_right _ (List.mem_append_right _ (List.mem_append_right _ (List.mem_append_left _ hw)))))
  have hl1 : P1.sup = P2.m := Option.some.inj (hs1.symm.trans hm2)
  have hP1 : P1.m.cls = cX := Option.some.inj ((findClass_of_methodNamed hm1).symm.trans hfX)
  obtain ⟨c1, k1, z1, z2, hord, -, -, -⟩ := Cond.instantiable_spec (hz (.instantiable cls 6) (am_atT (by simp)))
  cases Option.some.inj (z1.symm.trans hfX)
  cases Option.some.inj (z2.symm.trans hkX)
  have sel : ∀ {y : MethodName} {i : MethodId}, (Cond.selects cls y y).holds args s none s [] = true → s.methodNamed? y = some i → y.cls ≠ "java/lang/invoke/MethodHandle" ∧ y.cls ≠ "java/lang/invoke/VarHandle" → selectMethod e.platform s.vm cX i = .method i := by
    intro y i w1 w2 w3
    obtain ⟨c2, r2, m2, q1, q2, q3, q4, -⟩ := Cond.selects_spec w1
    cases Option.some.inj (q1.symm.trans hfX)
    cases Option.some.inj (q2.symm.trans (State.methodFound?_of_named w2 w3))
    cases Option.some.inj (q3.symm.trans w2)
    rw [Launch.admits_selectMethod X.admits]
    exact q4
  obtain ⟨cS, hcS, hiS⟩ := K.statics
  obtain ⟨u0, hu0⟩ := Cond.staticRefV K.unassigned L.unassignedStatic L.statics hcS hiS (hz (.isRef (.static Bundle.tN "UNASSIGNED_STACK" Bundle.steD)) (am_atT (by simp)))
  obtain ⟨sn, hsn⟩ := Cond.staticRefV K.sentinel L.sentinelStatic L.statics hcS hiS (hz (.isRef (.static Bundle.tN "SUPPRESSED_SENTINEL" Bundle.listD)) (am_atT (by simp)))
  obtain ⟨cS', hcS', heS, -, hkS⟩ := X.same.2.2.2.2.2 T.aS cS hcS
  have hcSW : W.heap[T.aS]? = some cS' := hcS'
  have hSv : cS'.vm = cS.vm := by rw [heS]
  have hSk : ∀ i : Nat, cS'.slots[i]? = cS.slots[i]? := fun i => hkS i (fun z => by cases z)
  have hSne : T.aS ≠ a := fun z => by
    have y := (Array.getElem?_eq_some_iff.mp hcS).1
    rw [z] at y
    exact Nat.not_lt.mpr hnew y
  have hSu : cS'.vm ≠ .unknown := fun z => by
    rw [hSv] at z
    rw [z] at hiS
    cases hiS
  obtain ⟨ci9, i9, fB, b1', b2', b3', b4', -, b5', b6', b7'⟩ := Cond.ownField (t := .object "java/lang/Object") K.found L.cls (by decide +kernel) (hz (.fieldLink Bundle.tN 198 Bundle.tN "backtrace" "Ljava/lang/Object;") (am_atT (by simp))) (hz (.lays Bundle.tN Bundle.tN "backtrace" "Ljava/lang/Object;") (am_atT (by simp))) e.platform hpl
  obtain ⟨iM, hfM⟩ := K.msg
  obtain ⟨tyC, dC, hdC, hnC⟩ := Cond.laysAt hfX hkX K.cause (hz (.lays cls Bundle.tN "cause" "Ljava/lang/Throwable;") (am_atT (by simp)))
  obtain ⟨tyS, dS, hdS, hnS⟩ := Cond.laysAt hfX hkX K.stack (hz (.lays cls Bundle.tN "stackTrace" Bundle.steD) (am_atT (by simp)))
  obtain ⟨tyP, dP, hdP, hnP⟩ := Cond.laysAt hfX hkX K.supp (hz (.lays cls Bundle.tN "suppressedExceptions" Bundle.listD) (am_atT (by simp)))
  obtain ⟨tyM, dM, hdM, hnM⟩ := Cond.laysAt hfX hkX hfM (hz (.lays cls Bundle.tN "detailMessage" "Ljava/lang/String;") (am_atT (by simp)))
  obtain ⟨tyB, dB, hdB, hnB⟩ := Cond.laysAt hfX hkX b7' (hz (.lays cls Bundle.tN "backtrace" "Ljava/lang/Object;") (am_atT (by simp)))
  have nC := Cond.laysApart hdB hdC hnB hnC (by rw [b5', K.causeName]; decide)
  have nS := Cond.laysApart hdB hdS hnB hnS (by rw [b5', K.stackName]; decide)
  have nP := Cond.laysApart hdB hdP hnB hnP (by rw [b5', K.suppName]; decide)
  have hskip : SkipFacts T e.platform s (fun u => u) u0 ((preparedCellV T.toThrowableT (freshCell cX kX) a u0 sn).withEntry W.cur) := by
    refine ⟨{ ci198 := ci9, i198 := i9, fBack := fB }, ⟨b1', b2', b3', b4'⟩, ?_, fun _ _ => rfl⟩
    have z := fresh_default (c := cX) tyB
    rw [b6'] at z
    simpa [preparedCellV, Cell.setSlot, Cell.withEntry, Array.getElem?_setIfInBounds, nC, nS, nP, nC.symm, nS.symm, nP.symm, defaultValue] using z
  obtain ⟨tm, -, -, -, vm₁, hnT, -, -, -, -, -, -, -, hW₁, st1⟩ := Steps.initColdS (tb := p.tables) (e := e) (below := below) (s := s) (U := W) X.here hx X.warmed hpl hown (t := Bundle.initS cls) rfl rfl (Bundle.fit_spec hcls).2
    (hz (.methodLink own ic (Bundle.initS cls)) (am_atT (by simp))) (h (.instanceMethod (Bundle.initS cls)) (List.mem_append_right _ (List.mem_append_right _ (List.mem_append_left _ (by simp [Bundle.passSAtoms]))))) (bytes := b1) (maxL := 2) (h (.code (Bundle.initS cls) b1 2 none) (List.mem_append_right _ (List.mem_append_right _ (List.mem_append_left _ (by simp [Bundle.passSAtoms])))))
    (f := g) hg (a := a) (msg := msg) (rest := .ref a :: rest) hstack d6
  cases Option.some.inj (hnT.symm.trans hm1)
  obtain ⟨vm₂, X₂, st2⟩ := (X.noted hW₁).ctorMessageOffV hx (g := { g with stack := .ref a :: rest }) hg hsize T L Z LZ M LM (P1 :: P2 :: Ps)
    (fun P hP => by
      rcases List.mem_cons.mp hP with rfl | hP
      · exact L1
      · rcases List.mem_cons.mp hP with rfl | hP
        · exact L2
        · exact hL P hP) ⟨hl1, hl2, hps⟩ (u0 := u0) (sen := sn) (self := a) hmsg (cell := freshCell cX kX) (cellS := cS')
    hcell (fun _ => by simp) (by simp) rfl rfl (sel (hz (.selects cls Bundle.tFill0 Bundle.tFill0) (am_atT (by simp))) K.fill0 (by decide)) (sel (hz (.selects cls Bundle.tFill Bundle.tFill) (am_atT (by simp))) K.fill (by decide))
    hcSW hSne hSu (by rw [hSk]; exact hu0) (by rw [hSk]; exact hsn)
    (Takes.of_laid hkX hord tyC (by rw [K.causeType]; rfl)) (Takes.of_laid hkX hord tyS (by rw [K.stackType]; exact fits_refV_array _ u0)) (Takes.of_laid hkX hord tyP (by rw [K.suppType]; exact fits_refV_object _ sn))
    (Takes.of_laid hkX hord tyM (by rw [K.msgType]; exact fits_refV_object _ ⟨msg, hmsg⟩)) K.objLocals hskip htr [] d6
    (by simp only [List.length_cons, hlen]; omega) (by simp only [List.length_cons, hlen]; exact hRl)
  obtain ⟨hwalk, hrun, hend, hWU, hsm⟩ := X₂.athrowLeaves hx (g := { g with stack := .ref a :: rest, pc := g.pc + 3 }) hg hlocked hentered (fun x z => (hout x z).elim) (a := a) (rest := rest) rfl d9 hlocks
  have hlt : a < ((W.setVm vm₁).setVm vm₂).heap.size := (Array.getElem?_eq_some_iff.mp hcell).1
  refine ⟨_, st1 _ (fun acts => by rw [doInvoke_state]; exact st2 _ hwalk), hrun, hend, hWU, hsm.weaken (fun y hy hlt' => ?_) (Nat.le_refl _) (Nat.le_refl _), _, heapAt_setCell_self (s := (W.setVm vm₁).setVm vm₂) _ hlt, rfl, rfl⟩
  exfalso
  have hb : y.base = a := by
    simp only [List.nil_append, List.mem_cons, List.not_mem_nil, or_false] at hy
    rcases hy with rfl | rfl | rfl | rfl | rfl <;> rfl
  rw [hb] at hlt'
  exact Nat.not_lt.mpr hnew hlt'
end
section
/-! exceptions: a method that throws one, a call from which one comes -/
/-- the state of a walk, seen as if its method were entered there -/
def am_re (s T : State) (m : MethodId) (args : Array Value) (below : List Frame) : State := (T.setVm s.vm).setFrames (.invoking m args :: below)
theorem am_re_fr {p : Program} {l : Launch} {e : Env} {R : Room} {s T : State} {m : MethodId} {args : Array Value} {below : List Frame} {meth : Method} {c : Code} {locs : List Loc} {nc ns : Nat} (X : Stand p l e R s m args below meth c T locs nc ns) : (am_re s T m args below).frames = .invoking m args :: below := by
  obtain ⟨g, hg⟩ := X.frames_eq
  exact State.frames_setFrames _ (State.cur_lt_of_frames (s := T.setVm s.vm) hg)
theorem am_re_same {p : Program} {l : Launch} {e : Env} {R : Room} {s T : State} {m : MethodId} {args : Array Value} {below : List Frame} {meth : Method} {c : Code} {locs : List Loc} {nc ns : Nat} (X : Stand p l e R s m args below meth c T locs nc ns) : (am_re s T m args below).sameButNew (T.setVm s.vm) [] 0 0 := by
  have hd : ((T.setVm s.vm).heap.toList.drop (am_re s T m args below).heap.size) = [] := List.drop_eq_nil_of_le (Nat.le_of_eq (Array.length_toList (xs := T.heap)))
  obtain ⟨g, hg⟩ := X.frames_eq
  have hg' : (T.setVm s.vm).frames = .java g :: below := hg
  obtain ⟨th, hth, -⟩ := State.frames_cons hg'
  refine ⟨?_, Nat.le_refl _, Nat.le_refl _, ?_, ?_, fun a c9 z => ⟨c9, z, rfl, rfl, fun _ _ => rfl⟩⟩
  · unfold am_re
    rw [State.setFrames_setFrames, State.setFrames_self hth]
  · rw [hd]
    rfl
  · rw [hd]
    exact Nat.le_refl _
theorem am_re_stand {p : Program} {l : Launch} {e : Env} {R : Room} {s T : State} {m : MethodId} {args : Array Value} {below : List Frame} {meth : Method} {c : Code} {locs : List Loc} {nc ns k n : Nat} (X : Stand p l e R s m args below meth c T locs nc ns) (hk : nc + k ≤ R.cells) (hn : ns + n ≤ R.slots) :
    Stand p l e { frames := R.frames, cells := k, slots := n, locals := R.locals } (am_re s T m args below) m args below meth c T [] 0 0 := by
  have hF := am_re_fr X
  have e1 : e.platform.stackLimits (am_re s T m args below).me = e.platform.stackLimits s.me := by
    unfold am_re
    rw [State.stackLimits_setFrames]
    exact X.limits
  have e2 : (am_re s T m args below).me.stackBytes = s.me.stackBytes := by
    unfold am_re
    rw [State.stackBytes_setFrames]
    exact X.bytes
  have e3 : (am_re s T m args below).localsInUse = s.localsInUse := by
    rw [State.localsInUse_invoking hF (meth := meth) (c := c) X.method X.code, State.localsInUse_invoking X.frames X.method X.code]
  have z1 := X.heapSize
  have z2 := X.used
  have hroom : (am_re s T m args below).hasRoom e.platform { frames := R.frames, cells := k, slots := n, locals := R.locals } = true := by
    have z := X.room
    simp only [State.hasRoom, Bool.and_eq_true, decide_eq_true_eq] at z ⊢
    obtain ⟨⟨⟨⟨a1, a2, a3, a4, a5, a6⟩, a7⟩, a8⟩, -⟩ := z
    rw [X.frames] at a2 a3
    have b1 : (am_re s T m args below).heap.size = T.heap.size := rfl
    have b2 : (am_re s T m args below).slotsUsed = T.slotsUsed := rfl
    simp only [hF, e1, e2, e3, b1, b2]
    exact ⟨⟨⟨⟨by omega, by omega, by omega, by omega, by omega, a6⟩, by omega⟩, by omega⟩, X.book⟩
  exact ⟨X.admits, X.cas, X.clock, hF, hroom, X.hears, X.method, X.code, X.here, X.tail, X.warmed, X.limits.trans e1.symm, X.bytes.trans e2.symm, am_re_same X⟩
theorem am_kept {s U : State} {k n : Nat} (z : s.sameButNew ({ U with vm := s.vm } : State) [] k n) : s.heap.size ≤ U.heap.size ∧ ∀ q : Nat, q < s.heap.size → U.heap[q]? = s.heap[q]? := by
  obtain ⟨-, z2, -, -, -, z6⟩ := z
  refine ⟨z2, fun q hq => ?_⟩
  obtain ⟨c9, e1, e2, -, e4⟩ := z6 q _ (Array.getElem?_eq_getElem hq)
  have e5 : c9.slots = s.heap[q].slots := Array.ext_getElem? (fun i => e4 i (fun z => by cases z))
  have e6 : c9 = s.heap[q] := by
    rw [e5] at e2
    exact e2
  have e7 : U.heap[q]? = some c9 := e1
  rw [e7, e6, Array.getElem?_eq_getElem hq]
/-- throw new E("text"): the exception is a cell beside the labelled ones, and these stay -/
theorem am_throw {κ : am_K} {μ : am_N} {nc ns pc pi : Nat} {ls : List (Nat × Value)} {st : List Value} {h : List am_E} {cls text : String} {ik is ic i1 : Nat} {b1 : ByteArray}
    (htr : (am_l κ).stackTraces = false) (hcls : Bundle.fit cls = true) (e0 : decode b1 0 = .ok (.aload_n 0, 1)) (e1 : decode b1 1 = .ok (.aload_n 1, 1)) (e2 : decode b1 2 = .ok (.invokespecial i1, 3)) (e5 : decode b1 5 = .ok (.return_, 1)) (w1 : Cond.classLink (am_own μ) ik cls ∈ am_ws μ) (w2 : Cond.initialized cls ∈ am_ws μ) (hg : ∀ w ∈ am_ws μ, goodWord w = true) (hstr : ((am_own μ, is, text) : String × Nat × String) ∈ am_SL κ)
    (hat : ∀ w ∈ am_atoms (am_own μ) ic i1 b1 cls "java/lang/RuntimeException" ["java/lang/Exception"], w ∈ am_ws μ ∨ w ∈ am_NW κ ∨ w ∈ am_hw) (htb : am_tb μ = [])
    (d0 : decode (am_cc μ) pc = .ok (.new ik, 3)) (d3 : decode (am_cc μ) (pc + 3) = .ok (.dup, 1)) (d4 : (decode (am_cc μ) (pc + 4) = .ok (.ldc is, 2) ∧ pi = pc + 6) ∨ (decode (am_cc μ) (pc + 4) = .ok (.ldc_w is, 3) ∧ pi = pc + 7)) (d6 : decode (am_cc μ) pi = .ok (.invokespecial ic, 3)) (d9 : decode (am_cc μ) (pi + 3) = .ok (.athrow, 1))
    (hR : 5 < (am_R μ).frames) (hR2 : (st.map fun v => v.category).sum + 82 ≤ (am_R μ).locals) (hc : nc + 1 ≤ (am_R μ).cells) (hs : ns + 6 ≤ (am_R μ).slots) :
    am_G κ μ (.inr cls) h nc ns pc ls st h := by
  intro p e s m args below meth c H locs A sb ad0 ad lv I hlv T hT X
  have htr' : e.platform.stackTraces = false := (show e.platform.stackTraces = (am_l κ).stackTraces by rw [X.admits.platform]).trans htr
  obtain ⟨S, a1, hTb, hZ, hA, hX, hpre, hlen, hP, hD, hS⟩ := I
  have hx := S.1
  have hb := S.2.1
  have ht := S.2.2.2.2
  have Y := am_re_stand X hc hs
  have hF := am_re_fr X
  have hW0 : s.WarmedH (am_re s T m args below).vm := State.WarmedH.refl s
  have hheap : (am_re s T m args below).heap = H := hT
  have good : ∀ w ∈ am_ws μ, w.before args (am_re s T m args below) = true := fun w hw => word_at hW0 (good_of_word (hg w hw)) (ht w hw)
  have hTs : am_T (am_D κ) (am_dA κ) (am_cl κ) (am_NW κ) (am_SL κ) (am_re s T m args below) := am_T.warm hW0 hTb
  have hlat : am_later A s (am_re s T m args below) := ⟨hW0, by rw [hheap]; exact hS.1, fun q z1 z2 => by rw [hheap]; exact hS.2.1 q z1 z2⟩
  have hall : ∀ w ∈ am_atoms (am_own μ) ic i1 b1 cls "java/lang/RuntimeException" ["java/lang/Exception"], w.before args (am_re s T m args below) = true := by
    intro w hw
    rcases hat w hw with z | z | z
    · exact good w z
    · obtain ⟨y1, y2⟩ := hTs.2.1 w z
      have y3 : w.onTables = true := by
        cases w <;> first | rfl | (simp only [am_nest, Bool.and_eq_true] at y1; exact y1.1)
      exact va_Nw.use y3 y2
    · exact hZ _ hlat w z args
  have hown : (am_re s T m args below).vm.findClass (am_own μ) = some m.cls := S.2.2.2.1
  have hins : (Cond.instantiable cls 6).before args (am_re s T m args below) = true := hall _ (am_atT (by simp))
  obtain ⟨sa, hsa⟩ := hTs.2.2 _ hstr
  obtain ⟨vm₁, cX, kX, hfX, hkX, -, -, X₁, st1⟩ := Y.newCold hx hown (good _ w1) hins (good _ w2) (g := F0 m pc lv (st.map (am_v sb ad))) rfl (by rw [hb]; exact d0) (Nat.le_refl _) (Nat.le_refl _)
  generalize hT1 : (T.setVm vm₁).pushCell { cls := cX, slots := kX.instanceTypes.map defaultValue, vm := .none } = T1 at X₁ st1
  have hcell : T1.heap[T.heap.size]? = some (freshCell cX kX) := by rw [← hT1]; exact State.heap_pushCell_size _ _
  have hsz : lv.size = c.maxLocals := hlv.1.trans S.2.2.1.symm
  have hcat : (((Value.ref T.heap.size) :: st.map (am_v sb ad)).map fun v => v.category).sum = 1 + (st.map fun v => v.category).sum := by
    rw [List.map_cons, List.sum_cons, am_catE]
    rfl
  obtain ⟨U, hsteps, hrun, hend, hWm, hsame, ce, hce, hcv, hcc⟩ := am_ctor X₁ hx htr' (own := am_own μ) (cls := cls) (Y := "java/lang/RuntimeException") (names := ["java/lang/Exception"]) (ic := ic) hown hcls (by decide +kernel) (by decide +kernel) e0 e1 e2 e5 hall hfX hkX hcell (by rw [hheap, hT]; exact Nat.le_refl _) (msg := .ref sa) rfl
    (g := { method := m, pc := pi, locals := lv, stack := .ref sa :: .ref T.heap.size :: .ref T.heap.size :: st.map (am_v sb ad), locked := none }) rfl hsz rfl rfl (rest := st.map (am_v sb ad)) rfl
    (by rw [hb]; exact d6) (by rw [hb]; exact d9) (fun x z => by rw [a1.2.2.2, htb] at z; cases z) hR (by show 2 * 0 + ((Value.ref T.heap.size :: st.map (am_v sb ad)).map fun v => v.category).sum + (13 * 3 + 42) ≤ (am_R μ).locals; rw [hcat]; omega) a1.2.1
  obtain ⟨f1, f2⟩ := am_kept hsame
  rw [hheap] at f1 f2
  have hWs : s.WarmedH U.vm := hWm
  have hall2 : s.sameButNew ({ U with vm := s.vm } : State) locs (am_R μ).cells (am_R μ).slots := by
    have z2 : (T.setVm s.vm).sameButNew ({ U with vm := s.vm } : State) [] (0 + 1) (0 + 6) := by
      obtain ⟨e1, e2⟩ := hsame
      unfold am_re at e1
      rw [State.setFrames_setFrames] at e1
      exact ⟨e1, e2⟩
    have z3 := X.same.trans z2
    rw [List.append_nil] at z3
    exact z3.mono hc hs
  have hkeep : ∀ (j : Nat) (q : Nat × va_E), (am_w (am_dA κ) sb ad h)[j]? = some q → U.heap[q.1]? = H[q.1]? := fun j q hq => f2 q.1 (hP j q hq).lt
  refine ⟨U, ?_, .threw T.heap.size, hrun, hend, ⟨ad, ⟨T.heap.size, ce, rfl, hce, hcv, hcc ▸ hfX⟩, hpre, hlen, hP.kept hkeep, hD⟩, ⟨Nat.le_trans hS.1 f1, fun q z1 z2 => ?_⟩, locs, ⟨hWs, hall2⟩, hS.2.2⟩
  · refine st1 _ ?_
    show Steps p.tables e below (T1.setTop { method := m, pc := pc + 3, locals := lv, stack := .ref T.heap.size :: st.map (am_v sb ad), locked := none }) _
    have d3' : decode c.code (pc + 3) = .ok (.dup, 1) := by rw [hb]; exact d3
    jvm_step X₁.here [X₁.here.top, hx, d3', Value.category]
    rcases d4 with ⟨d4, rfl⟩ | ⟨d4, rfl⟩
    · exact X₁.ldcString hx hown hsa.1 hsa.2 (g := { method := m, pc := pc + 4, locals := lv, stack := .ref T.heap.size :: .ref T.heap.size :: st.map (am_v sb ad), locked := none }) rfl (by rw [hb]; exact d4) _ hsteps
    · exact X₁.ldcStringW hx hown hsa.1 hsa.2 (g := { method := m, pc := pc + 4, locals := lv, stack := .ref T.heap.size :: .ref T.heap.size :: st.map (am_v sb ad), locked := none }) rfl (by rw [hb]; exact d4) _ hsteps
  · rw [f2 q (Nat.lt_of_lt_of_le z1 hS.1)]
    exact hS.2.1 q z1 z2
/-- a call of a method that throws: what stands over the caller's frame then -/
theorem am_thrown {κ : am_K} {μ : am_N} {y : MethodName} {ws : List Cond} {rm : Room} {as : List Value} {h h2 : List am_E} {E : String} {bytes : ByteArray} {maxL len nc ns : Nat} {ret : Option FieldType} {p : Program} {e : Env} {s T : State} {m mk : MethodId} {args : Array Value} {below : List Frame} {meth : Method} {c : Code} {H : Heap} {locs : List Loc} {A : Nat → Prop} {sb : Nat} {ad0 ad : List Nat} {g : JFrame} {ig : Instr}
    (I : am_I κ μ p s m args meth c H locs A sb ad0 ad h) (X : Stand p (am_l κ) e (am_R μ) s m args below meth c T locs nc ns) (hT : T.heap = H) (hM : am_M κ y ws rm as h (.inr E) h2)
    (hg : g.method = m) (hsize : g.locals.size = c.maxLocals) (hdg : decode c.code g.pc = .ok (ig, len)) (hW : 2 * g.monitorRoom + (g.stack.map fun v => v.category).sum ≤ 8) (hn : T.methodNamed? y = some mk)
    (hws : ∀ w ∈ ws, ∀ (a' : Array Value) (U : State), s.WarmedH U.vm → w.before a' U = true) (hcode : Cond.code y bytes maxL ret ∈ ws) (hini : (Cond.initialized y.cls).before args s = true)
    (hR : rm.frames + 1 ≤ (am_R μ).frames ∧ 8 + (maxL + 11) + rm.locals ≤ (am_R μ).locals) (hf : nc + rm.cells ≤ (am_R μ).cells ∧ ns + rm.slots ≤ (am_R μ).slots) (hl : h2.length = h.length) :
    ∃ (q : Addr) (ce : Cell) (L : List Loc) (B : State), Stand p (am_l κ) e (am_R μ) s m args below meth c B (locs ++ L) (nc + rm.cells) (ns + rm.slots) ∧ am_I κ μ p s m args meth c B.heap (locs ++ L) A sb ad0 ad h2 ∧ B.heap[q]? = some ce ∧ ce.vm = .none ∧ s.vm.findClass E = some ce.cls ∧
      Steps p.tables e below (doInvoke e (T.setTop g) [] mk (as.map (am_v sb ad)).toArray).1 ((B.setTop g).pushFrame (.throwing q)) := by
  have hlen : ad.length = h.length := I.2.2.2.2.2.2.2.1
  have w1 : (headSpec ws rm).pre.before (as.map (am_v sb ad)).toArray T = true := atoms_intro (fun w z => hws w z _ _ X.warmed)
  have w2 : (Cond.code y bytes maxL ret).before (as.map (am_v sb ad)).toArray T = true := hws _ hcode _ _ X.warmed
  have w3 : (Cond.initialized y.cls).before (as.map (am_v sb ad)).toArray T = true := word_at X.warmed (Or.inl rfl) hini
  obtain ⟨methY, cY, hmY, hcY, -, hlY, -, -, -, -⟩ := Cond.code_spec hn w2
  obtain ⟨kY, hkY, -⟩ := className_of_methodNamed hn
  have hiY : kY.init = .initialized := Cond.initialized_spec (findClass_of_methodNamed hn) hkY w3
  have hAt : At T g.method c below := by rw [hg]; exact X.here
  have happ : (headSpec ws rm).appliesLoose y e.platform (T.calling g mk (as.map (am_v sb ad)).toArray) = true :=
    Spec.appliesLoose_calling (g := g) hAt hdg hn hkY hiY (X.room_calling (g := g) (R' := (headSpec ws rm).room) hsize hmY hcY hR.1 (by rw [hlY]; have := hR.2; show _ + rm.locals ≤ _; omega) hf.1 hf.2) w1
  obtain ⟨mid, hmid⟩ := hAt.above
  have hfr : (T.setTop g).frames = (.java g :: mid) ++ below := by rw [State.frames_setTop' g hAt.top, hmid]; rfl
  obtain ⟨oc, t, hsteps, -, hend, hq⟩ := Steps.callFree (hM sb ad H.size hlen) p X.admits X.cas X.clock (acts := []) hfr happ (am_Pc.blind _ _ _ _ (am_Pc.at as I T hT X.warmed)) trivial
  obtain ⟨⟨ad', ⟨q, ce, rfl, hce, hcv, hcl⟩, hB⟩, hF, L, ⟨hWm, hsm⟩, hL⟩ := hq
  have had : ad' = ad := am_same hB.1 hlen hB.2.1 hl
  subst had
  rw [State.frames_setTop' g hAt.top] at hend
  have hft : t.frames = .throwing q :: .java g :: T.frames.tail := hend
  obtain ⟨g₀, hg0⟩ := Option.isSome_iff_exists.mp hAt.top
  obtain ⟨r, hr⟩ := State.topJava?_eq_some.mp hg0
  obtain ⟨th, hth, -⟩ := State.frames_cons hr
  generalize hBd : (({ T with heap := t.heap, slotsUsed := t.slotsUsed } : State).setVm t.vm) = B
  have hrB : B.frames = .java g₀ :: r := by rw [← hBd]; exact hr
  have hWT : T.WarmedH t.vm := hWm
  have hsame : T.sameButNew ({ T with heap := t.heap, slotsUsed := t.slotsUsed } : State) L rm.cells rm.slots := by
    obtain ⟨-, z⟩ := hsm
    refine ⟨?_, z⟩
    show ({ T with heap := t.heap, slotsUsed := t.slotsUsed } : State) = { T.setFrames T.frames with heap := t.heap, slotsUsed := t.slotsUsed }
    rw [State.setFrames_self hth]
  have ht : t = (B.setTop g).pushFrame (.throwing q) := by
    have e1 := congrArg (fun z : State => z.setVm t.vm) hsm.1
    have e2 : t = ({ (T.calling g mk (as.map (am_v sb ad')).toArray).setFrames t.frames with heap := t.heap, slotsUsed := t.slotsUsed } : State).setVm t.vm := e1
    refine e2.trans ?_
    rw [State.pushFrame, State.frames_setTop _ hrB, State.setTop_of_frames _ hrB, State.setFrames_setFrames, ← hBd, State.calling_eq hAt.top, State.setFrames_setFrames]
    show (({ T.setFrames t.frames with heap := t.heap, slotsUsed := t.slotsUsed } : State)).setVm t.vm = _
    rw [hft, hr]
    rfl
  have I' : am_I κ μ p s m args meth c t.heap (locs ++ L) A sb ad0 ad' h2 := I.back (st₀ := T.calling g mk (as.map (am_v sb ad')).toArray) hT hL hB hF
  have hBh : B.heap = t.heap := by rw [← hBd]; rfl
  refine ⟨q, ce, L, B, ?_, by rw [hBh]; exact I', by rw [hBh]; exact hce, hcv, ?_, ht ▸ hsteps⟩
  · subst hg
    rw [← hBd]
    exact ⟨X.admits, X.cas, X.clock, X.frames, X.room, X.hears, X.method, X.code, (X.here.setHeapUsed t.heap t.slotsUsed).setVm hWT.alike, X.tail, State.WarmedH.trans X.warmed hWT, X.limits, X.bytes, X.same.trans (hsame.setVm s.vm)⟩
  · have z : T.vm.findClass E = some ce.cls := hcl
    rw [X.warmed.alike.findClass] at z
    exact z
theorem g_callVx {κ : am_K} {μ : am_N} {o1 : am_O} {h1 : List am_E} {nc ns pc : Nat} {ls : List (Nat × Value)} {stk : List Value} {h h2 : List am_E} {E : String} {idx ci q0 N maxL : Nat} {y : MethodName} {bytes : ByteArray} {ret : Option FieldType} {ws : List Cond} {rm : Room} {T : u_T} {fs : List Value}
    (as st : List Value) (d : decode (am_cc μ) pc = .ok (.invokevirtual idx, 3)) (hM : am_M κ y ws rm (.ref q0 :: as) h (.inr E) h2) (hG : GoodIn (am_ws μ) ws) (hcode : Cond.code y bytes maxL ret ∈ ws) (w1 : Cond.methodLink (am_own μ) idx y ∈ am_ws μ ∨ ∃ host, Cond.methodLinkNest (am_own μ) idx y host ∈ am_NW κ) (w2 : Cond.instanceMethod y ∈ am_ws μ) (w3 : Cond.selects y.cls y y ∈ am_ws μ) (w4 : Cond.initialized y.cls ∈ am_ws μ)
    (hd : y.cls ≠ "java/lang/invoke/MethodHandle" ∧ y.cls ≠ "java/lang/invoke/VarHandle" ∧ (parseMethodDescriptor y.desc).map (fun d => d.parameters.length) = some as.length) (hR : rm.frames + 1 ≤ (am_R μ).frames ∧ 8 + (maxL + 11) + rm.locals ≤ (am_R μ).locals) (hf : nc + rm.cells ≤ (am_R μ).cells ∧ ns + rm.slots ≤ (am_R μ).slots)
    (hcl : (am_cl κ)[ci]? = some (y.cls, T, N)) (he : h[q0]? = some (.inr (ci, fs))) (hst : stk = as.reverse ++ .ref q0 :: st) (hcat : (st.map fun v => v.category).sum ≤ 8) (hl : h2.length = h.length)
    (kx : am_GX κ μ o1 h1 (nc + rm.cells) (ns + rm.slots) pc ls st h2 E) : am_G κ μ o1 h1 nc ns pc ls stk h := by
  intro p e s m args below meth c H locs A sb ad0 ad lv I hlv Tt hT X
  subst hst
  rw [am_revmap]
  obtain ⟨cellB, hcellB, hobj, hclsB⟩ := am_recv I hcl he
  have ht := I.1.2.2.2.2
  have hws : ∀ w ∈ ws, ∀ (a' : Array Value) (U : State), s.WarmedH U.vm → w.before a' U = true := pay_in ht hG
  have hcd : (Cond.code y bytes maxL ret).before args s = true := ht _ (hG _ hcode).1
  obtain ⟨mk, methM, hnamed, hmethM, hstM, habM⟩ := Cond.instanceMethod_spec (ht _ w2)
  obtain ⟨methM', cM, hmethM', -, -, -, -, -, -, hsigM⟩ := Cond.code_spec hnamed hcd
  cases hmethM.symm.trans hmethM'
  obtain ⟨c2, r2, m2, q1, q2, q3, q4, kP, hkP, hkPi⟩ := Cond.selects_spec (ht _ w3)
  cases hclsB.symm.trans q1
  cases (State.methodFound?_of_named hnamed ⟨hd.1, hd.2.1⟩).symm.trans q2
  cases hnamed.symm.trans q3
  have hselP : selectMethod e.platform s.vm cellB.cls mk = .method mk := by rw [Launch.admits_selectMethod X.admits]; exact q4
  have hpar : (as.map (am_v sb ad)).length = methM.sig.parameters.length := by
    have z := hd.2.2
    rw [hsigM] at z
    rw [List.length_map]
    exact (Option.some.inj z).symm
  have hsz : lv.size = c.maxLocals := hlv.1.trans I.1.2.2.1.symm
  have hdc : decode c.code pc = .ok (.invokevirtual idx, 3) := by rw [I.1.2.1]; exact d
  have fin : ∀ (vm₁ : Vm), Stand p (am_l κ) e (am_R μ) s m args below meth c (Tt.setVm vm₁) locs nc ns → ∃ t, Steps p.tables e below (doInvoke e ((Tt.setVm vm₁).setTop (F0 m pc lv (st.map (am_v sb ad)))) [] mk ((Value.ref q0 :: as).map (am_v sb ad)).toArray).1 t ∧ am_MQ κ below sb ad0 A (am_R μ) o1 h1 args s t := by
    intro vm₁ X₁
    obtain ⟨q, ce, L, B, XB, IB, z1, z2, z3, go⟩ := am_thrown (bytes := bytes) (maxL := maxL) (ret := ret) (g := F0 m pc lv (st.map (am_v sb ad))) (as := .ref q0 :: as) I X₁ hT hM rfl hsz hdc (lv_room (by rw [am_catE]; exact hcat)) (X₁.named hnamed) hws hcode (ht _ w4) hR hf hl
    obtain ⟨t, a1, b1⟩ := kx p e s m args below meth c B.heap (locs ++ L) A sb ad0 ad lv ce q IB hlv z1 z2 z3 B rfl XB
    exact ⟨t, go.trans a1, b1⟩
  rcases w1 with w1 | ⟨host, w1⟩
  · obtain ⟨vm₁, X₁, hstep⟩ := X.invokevirtual I.1.1 I.1.2.2.2.1 (ht _ w1) hnamed hmethM hstM hkP hkPi ⟨hd.1, hd.2.1⟩ (a := ad.getD q0 sb) (cell := cellB) (by rw [hT]; exact hcellB)
      (fun z zz => by rw [zz] at hobj; cases hobj) hselP hmethM habM hkP hkPi (g := F0 m pc lv ((as.map (am_v sb ad)).reverse ++ .ref (ad.getD q0 sb) :: st.map (am_v sb ad))) rfl (argsL := as.map (am_v sb ad)) (rest := st.map (am_v sb ad)) hpar rfl hdc
    obtain ⟨t, a1, b1⟩ := fin vm₁ X₁
    exact ⟨t, hstep _ (fun acts => by rw [doInvoke_state]; exact a1), b1⟩
  · obtain ⟨vm₁, X₁, hstep⟩ := X.invokevirtualNest I.1.1 I.1.2.2.2.1 (va_Nw.use rfl (I.2.2.1.2.1 _ w1).2) hnamed hmethM hstM hkP hkPi ⟨hd.1, hd.2.1⟩ (a := ad.getD q0 sb) (cell := cellB) (by rw [hT]; exact hcellB)
      (fun z zz => by rw [zz] at hobj; cases hobj) hselP hmethM habM hkP hkPi (g := F0 m pc lv ((as.map (am_v sb ad)).reverse ++ .ref (ad.getD q0 sb) :: st.map (am_v sb ad))) rfl (argsL := as.map (am_v sb ad)) (rest := st.map (am_v sb ad)) hpar rfl hdc
    obtain ⟨t, a1, b1⟩ := fin vm₁ X₁
    exact ⟨t, hstep _ (fun acts => by rw [doInvoke_state]; exact a1), b1⟩
end
section
/-! words and classes of the claim: written by program (wip/am/names.py) out of the Statement and the listing -/
def am_tw : List Cond := lw_tbl.filter goodWord
theorem am_mem {w : Cond} (i : Nat) (h : tables_1[i]? = some w) (g : goodWord w = true) : w ∈ am_tw := List.mem_filter.mpr ⟨List.mem_append_right _ (List.mem_of_getElem? h), g⟩
theorem am_memS {w : Cond} (i : Nat) (h : (k2_sels lw_privs)[i]? = some w) (g : goodWord w = true) : w ∈ am_tw := List.mem_filter.mpr ⟨List.mem_append_left _ (List.mem_of_getElem? h), g⟩
theorem am_inw {ws : List Cond} (h : ws.all (fun w => decide (w ∈ tables_1) && goodWord w) = true) : ∀ w ∈ ws, w ∈ am_tw := by
  intro w hw
  have h1 := List.all_eq_true.mp h w hw
  simp only [Bool.and_eq_true, decide_eq_true_eq] at h1
  exact List.mem_filter.mpr ⟨List.mem_append_right _ h1.1, h1.2⟩
def T_Disk : u_T := fun k => match k with
  | 0 => ("FileVolume$Disk", "bytes", "[I", true)
  | 1 => ("FileVolume$Disk", "session", "LFileVolume$Session;", true)
  | 2 => ("FileVolume$Disk", "powered", "Z", false)
  | 3 => ("FileVolume$Disk", "suspect", "Z", false)
  | 4 => ("FileVolume$Disk", "writes", "I", false)
  | 5 => ("FileVolume$Disk", "cutIsSet", "Z", false)
  | _ => ("FileVolume$Disk", "writesBeforeCut", "I", false)
def ft_Disk : Nat → FieldType := fun k => match k with
  | 0 => .array .int
  | 1 => .object "FileVolume$Session"
  | 2 => .boolean
  | 3 => .boolean
  | 4 => .int
  | 5 => .boolean
  | _ => .int
theorem in_Disk : ∀ w ∈ u_ws "FileVolume$Disk" T_Disk 7, w ∈ am_tw := am_inw (by decide +kernel)
theorem typ_Disk : am_typ T_Disk 7 ft_Disk := ⟨by decide +kernel, by decide +kernel⟩
def T_Folder : u_T := fun k => match k with
  | 0 => ("FileVolume$Folder", "disk", "LFileVolume$Disk;", true)
  | 1 => ("FileVolume$Folder", "table", "LFileVolume$Table;", true)
  | 2 => ("FileVolume$Folder", "addresses", "[I", true)
  | 3 => ("FileVolume$Folder", "count", "I", false)
  | _ => ("FileVolume$Folder", "lastCluster", "I", false)
def ft_Folder : Nat → FieldType := fun k => match k with
  | 0 => .object "FileVolume$Disk"
  | 1 => .object "FileVolume$Table"
  | 2 => .array .int
  | 3 => .int
  | _ => .int
theorem in_Folder : ∀ w ∈ u_ws "FileVolume$Folder" T_Folder 5, w ∈ am_tw := am_inw (by decide +kernel)
theorem typ_Folder : am_typ T_Folder 5 ft_Folder := ⟨by decide +kernel, by decide +kernel⟩
def T_Name : u_T := fun k => match k with
  | 0 => ("FileVolume$Name", "text", "[C", true)
  | 1 => ("FileVolume$Name", "brief", "[I", true)
  | 2 => ("FileVolume$Name", "length", "I", false)
  | _ => ("FileVolume$Name", "parts", "I", false)
def ft_Name : Nat → FieldType := fun k => match k with
  | 0 => .array .char
  | 1 => .array .int
  | 2 => .int
  | _ => .int
theorem in_Name : ∀ w ∈ u_ws "FileVolume$Name" T_Name 4, w ∈ am_tw := am_inw (by decide +kernel)
theorem typ_Name : am_typ T_Name 4 ft_Name := ⟨by decide +kernel, by decide +kernel⟩
def T_Rep : u_T := fun k => match k with
  | 0 => ("FileVolume$Repairer", "disk", "LFileVolume$Disk;", true)
  | 1 => ("FileVolume$Repairer", "table", "LFileVolume$Table;", true)
  | 2 => ("FileVolume$Repairer", "folder", "LFileVolume$Folder;", true)
  | 3 => ("FileVolume$Repairer", "used", "[Z", true)
  | _ => ("FileVolume$Repairer", "fixes", "I", false)
def ft_Rep : Nat → FieldType := fun k => match k with
  | 0 => .object "FileVolume$Disk"
  | 1 => .object "FileVolume$Table"
  | 2 => .object "FileVolume$Folder"
  | 3 => .array .boolean
  | _ => .int
theorem in_Rep : ∀ w ∈ u_ws "FileVolume$Repairer" T_Rep 5, w ∈ am_tw := am_inw (by decide +kernel)
theorem typ_Rep : am_typ T_Rep 5 ft_Rep := ⟨by decide +kernel, by decide +kernel⟩
def T_Ses : u_T := fun k => match k with
  | 0 => ("FileVolume$Session", "line", "[C", true)
  | 1 => ("FileVolume$Session", "entries", "[I", true)
  | 2 => ("FileVolume$Session", "positions", "[I", true)
  | 3 => ("FileVolume$Session", "lineLength", "I", false)
  | 4 => ("FileVolume$Session", "here", "I", false)
  | _ => ("FileVolume$Session", "depth", "I", false)
def ft_Ses : Nat → FieldType := fun k => match k with
  | 0 => .array .char
  | 1 => .array .int
  | 2 => .array .int
  | 3 => .int
  | 4 => .int
  | _ => .int
theorem in_Ses : ∀ w ∈ u_ws "FileVolume$Session" T_Ses 6, w ∈ am_tw := am_inw (by decide +kernel)
theorem typ_Ses : am_typ T_Ses 6 ft_Ses := ⟨by decide +kernel, by decide +kernel⟩
def T_Table : u_T := fun k => match k with
  | _ => ("FileVolume$Table", "disk", "LFileVolume$Disk;", true)
def ft_Table : Nat → FieldType := fun k => match k with
  | _ => .object "FileVolume$Disk"
theorem in_Table : ∀ w ∈ u_ws "FileVolume$Table" T_Table 1, w ∈ am_tw := am_inw (by decide +kernel)
theorem typ_Table : am_typ T_Table 1 ft_Table := ⟨by decide +kernel, by decide +kernel⟩
def T_V : u_T := fun k => match k with
  | 0 => ("FileVolume", "session", "LFileVolume$Session;", true)
  | 1 => ("FileVolume", "disk", "LFileVolume$Disk;", true)
  | 2 => ("FileVolume", "table", "LFileVolume$Table;", true)
  | 3 => ("FileVolume", "folder", "LFileVolume$Folder;", true)
  | 4 => ("FileVolume", "below", "LFileVolume$Folder;", true)
  | 5 => ("FileVolume", "repairer", "LFileVolume$Repairer;", true)
  | 6 => ("FileVolume", "name", "LFileVolume$Name;", true)
  | _ => ("FileVolume", "row", "[I", true)
def ft_V : Nat → FieldType := fun k => match k with
  | 0 => .object "FileVolume$Session"
  | 1 => .object "FileVolume$Disk"
  | 2 => .object "FileVolume$Table"
  | 3 => .object "FileVolume$Folder"
  | 4 => .object "FileVolume$Folder"
  | 5 => .object "FileVolume$Repairer"
  | 6 => .object "FileVolume$Name"
  | _ => .array .int
theorem in_V : ∀ w ∈ u_ws "FileVolume" T_V 8, w ∈ am_tw := am_inw (by decide +kernel)
theorem typ_V : am_typ T_V 8 ft_V := ⟨by decide +kernel, by decide +kernel⟩
def T_M : u_T := fun k => match k with
  | 0 => ("FileVolumeModel", "thrown", "I", false)
  | 1 => ("FileVolumeModel", "disk", "[I", true)
  | 2 => ("FileVolumeModel", "on", "Z", false)
  | 3 => ("FileVolumeModel", "suspect", "Z", false)
  | 4 => ("FileVolumeModel", "dead", "Z", false)
  | 5 => ("FileVolumeModel", "writes", "I", false)
  | 6 => ("FileVolumeModel", "cut", "I", false)
  | 7 => ("FileVolumeModel", "line", "[I", true)
  | 8 => ("FileVolumeModel", "typed", "I", false)
  | 9 => ("FileVolumeModel", "here", "I", false)
  | 10 => ("FileVolumeModel", "depth", "I", false)
  | 11 => ("FileVolumeModel", "open", "[I", true)
  | 12 => ("FileVolumeModel", "position", "[I", true)
  | 13 => ("FileVolumeModel", "name", "[I", true)
  | 14 => ("FileVolumeModel", "parts", "I", false)
  | 15 => ("FileVolumeModel", "used", "[Z", true)
  | 16 => ("FileVolumeModel", "chain", "[I", true)
  | 17 => ("FileVolumeModel", "way", "[I", true)
  | 18 => ("FileVolumeModel", "next", "[I", true)
  | _ => ("FileVolumeModel", "fixes", "I", false)
def ft_M : Nat → FieldType := fun k => match k with
  | 0 => .int
  | 1 => .array .int
  | 2 => .boolean
  | 3 => .boolean
  | 4 => .boolean
  | 5 => .int
  | 6 => .int
  | 7 => .array .int
  | 8 => .int
  | 9 => .int
  | 10 => .int
  | 11 => .array .int
  | 12 => .array .int
  | 13 => .array .int
  | 14 => .int
  | 15 => .array .boolean
  | 16 => .array .int
  | 17 => .array .int
  | 18 => .array .int
  | _ => .int
theorem in_M : ∀ w ∈ u_ws "FileVolumeModel" T_M 20, w ∈ am_tw := am_inw (by decide +kernel)
theorem typ_M : am_typ T_M 20 ft_M := ⟨by decide +kernel, by decide +kernel⟩
abbrev am_cls : List vw_C := [("FileVolume$Disk", T_Disk, 7), ("FileVolume$Folder", T_Folder, 5), ("FileVolume$Name", T_Name, 4), ("FileVolume$Repairer", T_Rep, 5), ("FileVolume$Session", T_Ses, 6), ("FileVolume$Table", T_Table, 1), ("FileVolume", T_V, 8), ("FileVolumeModel", T_M, 20)]
def am_nws : List Cond := tables_1.filter (fun w => !goodWord w && am_nest w)
theorem am_nmem {w : Cond} (i : Nat) (h : tables_1[i]? = some w) (g : (!goodWord w && am_nest w) = true) : w ∈ am_nws := List.mem_filter.mpr ⟨List.mem_of_getElem? h, g⟩
def am_sls : List (String × Nat × String) := [("FileVolume", 308, "no power, or the disk is suspect"), ("FileVolume", 82, "no good name or no such kind"), ("FileVolume", 108, "too deep, called so already, or no short name"), ("FileVolume$Disk", 40, "the power was cut"), ("FileVolume", 115, "no room"), ("FileVolume", 130, "nothing is called so"), ("FileVolume", 137, "it is open or not empty"), ("FileVolume", 154, "no directory is called so"), ("FileVolume", 159, "no file is called so"), ("FileVolume", 164, "all handles are open"), ("FileVolume", 185, "not open, or not 1 to 7 bytes"), ("FileVolume", 208, "not open, or not 1 to 8 bytes"), ("FileVolume", 210, "the file would be too great"), ("FileVolume", 228, "so many there are not"), ("FileVolume", 235, "nothing to list"), ("FileVolume", 268, "no power")]
abbrev am_kk (l : Launch) (D : va_G) (dA : FieldType → ClassId) : am_K := (l, D, dA, am_cls, am_nws, am_sls)
abbrev y_Ses_append : MethodName := ({ cls := "FileVolume$Session", name := "append", desc := "(C)Z" } : Jvm.MethodName)
def ws_Ses_append : List Cond := .code y_Ses_append prog_6_method_2_code 2 (some .boolean) :: am_tw
theorem hd_Ses_append : y_Ses_append.cls ≠ "java/lang/invoke/MethodHandle" ∧ y_Ses_append.cls ≠ "java/lang/invoke/VarHandle" ∧ (parseMethodDescriptor y_Ses_append.desc).map (fun d => d.parameters.length) = some 1 := by decide +kernel
abbrev y_V_type : MethodName := ({ cls := "FileVolume", name := "type", desc := "(C)Z" } : Jvm.MethodName)
def ws_V_type : List Cond := .code y_V_type prog_1_method_2_code 2 (some .boolean) :: am_tw
theorem hd_V_type : y_V_type.cls ≠ "java/lang/invoke/MethodHandle" ∧ y_V_type.cls ≠ "java/lang/invoke/VarHandle" ∧ (parseMethodDescriptor y_V_type.desc).map (fun d => d.parameters.length) = some 1 := by decide +kernel
abbrev y_V_demandSoundDisk : MethodName := ({ cls := "FileVolume", name := "demandSoundDisk", desc := "()V" } : Jvm.MethodName)
def ws_V_demandSoundDisk : List Cond := .code y_V_demandSoundDisk prog_1_method_18_code 1 none :: am_tw
theorem hd_V_demandSoundDisk : y_V_demandSoundDisk.cls ≠ "java/lang/invoke/MethodHandle" ∧ y_V_demandSoundDisk.cls ≠ "java/lang/invoke/VarHandle" ∧ (parseMethodDescriptor y_V_demandSoundDisk.desc).map (fun d => d.parameters.length) = some 0 := by decide +kernel
abbrev y_Name_takeLineOf : MethodName := ({ cls := "FileVolume$Name", name := "takeLineOf", desc := "(LFileVolume$Session;)V" } : Jvm.MethodName)
def ws_Name_takeLineOf : List Cond := .code y_Name_takeLineOf prog_4_method_2_code 3 none :: am_tw
theorem hd_Name_takeLineOf : y_Name_takeLineOf.cls ≠ "java/lang/invoke/MethodHandle" ∧ y_Name_takeLineOf.cls ≠ "java/lang/invoke/VarHandle" ∧ (parseMethodDescriptor y_Name_takeLineOf.desc).map (fun d => d.parameters.length) = some 1 := by decide +kernel
abbrev y_Ses_goToRoot : MethodName := ({ cls := "FileVolume$Session", name := "goToRoot", desc := "()V" } : Jvm.MethodName)
def ws_Ses_goToRoot : List Cond := .code y_Ses_goToRoot prog_6_method_3_code 1 none :: am_tw
theorem hd_Ses_goToRoot : y_Ses_goToRoot.cls ≠ "java/lang/invoke/MethodHandle" ∧ y_Ses_goToRoot.cls ≠ "java/lang/invoke/VarHandle" ∧ (parseMethodDescriptor y_Ses_goToRoot.desc).map (fun d => d.parameters.length) = some 0 := by decide +kernel
abbrev y_V_isCluster : MethodName := ({ cls := "FileVolume", name := "isCluster", desc := "(I)Z" } : Jvm.MethodName)
def ws_V_isCluster : List Cond := .code y_V_isCluster prog_1_method_29_code 1 (some .boolean) :: am_tw
theorem hd_V_isCluster : y_V_isCluster.cls ≠ "java/lang/invoke/MethodHandle" ∧ y_V_isCluster.cls ≠ "java/lang/invoke/VarHandle" ∧ (parseMethodDescriptor y_V_isCluster.desc).map (fun d => d.parameters.length) = some 1 := by decide +kernel
abbrev y_V_sectorOf : MethodName := ({ cls := "FileVolume", name := "sectorOf", desc := "(I)I" } : Jvm.MethodName)
def ws_V_sectorOf : List Cond := .code y_V_sectorOf prog_1_method_30_code 1 (some .int) :: am_tw
theorem hd_V_sectorOf : y_V_sectorOf.cls ≠ "java/lang/invoke/MethodHandle" ∧ y_V_sectorOf.cls ≠ "java/lang/invoke/VarHandle" ∧ (parseMethodDescriptor y_V_sectorOf.desc).map (fun d => d.parameters.length) = some 1 := by decide +kernel
abbrev y_Disk_pairAt : MethodName := ({ cls := "FileVolume$Disk", name := "pairAt", desc := "(I)I" } : Jvm.MethodName)
def ws_Disk_pairAt : List Cond := .code y_Disk_pairAt prog_2_method_3_code 3 (some .int) :: am_tw
theorem hd_Disk_pairAt : y_Disk_pairAt.cls ≠ "java/lang/invoke/MethodHandle" ∧ y_Disk_pairAt.cls ≠ "java/lang/invoke/VarHandle" ∧ (parseMethodDescriptor y_Disk_pairAt.desc).map (fun d => d.parameters.length) = some 1 := by decide +kernel
abbrev y_Table_cell : MethodName := ({ cls := "FileVolume$Table", name := "cell", desc := "(I)I" } : Jvm.MethodName)
def ws_Table_cell : List Cond := .code y_Table_cell prog_7_method_2_code 2 (some .int) :: am_tw
theorem hd_Table_cell : y_Table_cell.cls ≠ "java/lang/invoke/MethodHandle" ∧ y_Table_cell.cls ≠ "java/lang/invoke/VarHandle" ∧ (parseMethodDescriptor y_Table_cell.desc).map (fun d => d.parameters.length) = some 1 := by decide +kernel
abbrev y_Folder_load : MethodName := ({ cls := "FileVolume$Folder", name := "load", desc := "(I)V" } : Jvm.MethodName)
def ws_Folder_load : List Cond := .code y_Folder_load prog_3_method_2_code 5 none :: am_tw
theorem hd_Folder_load : y_Folder_load.cls ≠ "java/lang/invoke/MethodHandle" ∧ y_Folder_load.cls ≠ "java/lang/invoke/VarHandle" ∧ (parseMethodDescriptor y_Folder_load.desc).map (fun d => d.parameters.length) = some 1 := by decide +kernel
abbrev y_Disk_at : MethodName := ({ cls := "FileVolume$Disk", name := "at", desc := "(I)I" } : Jvm.MethodName)
def ws_Disk_at : List Cond := .code y_Disk_at prog_2_method_2_code 2 (some .int) :: am_tw
theorem hd_Disk_at : y_Disk_at.cls ≠ "java/lang/invoke/MethodHandle" ∧ y_Disk_at.cls ≠ "java/lang/invoke/VarHandle" ∧ (parseMethodDescriptor y_Disk_at.desc).map (fun d => d.parameters.length) = some 1 := by decide +kernel
abbrev y_Folder_byteOf : MethodName := ({ cls := "FileVolume$Folder", name := "byteOf", desc := "(II)I" } : Jvm.MethodName)
def ws_Folder_byteOf : List Cond := .code y_Folder_byteOf prog_3_method_4_code 3 (some .int) :: am_tw
theorem hd_Folder_byteOf : y_Folder_byteOf.cls ≠ "java/lang/invoke/MethodHandle" ∧ y_Folder_byteOf.cls ≠ "java/lang/invoke/VarHandle" ∧ (parseMethodDescriptor y_Folder_byteOf.desc).map (fun d => d.parameters.length) = some 2 := by decide +kernel
abbrev y_Folder_kindOf : MethodName := ({ cls := "FileVolume$Folder", name := "kindOf", desc := "(I)I" } : Jvm.MethodName)
def ws_Folder_kindOf : List Cond := .code y_Folder_kindOf prog_3_method_7_code 2 (some .int) :: am_tw
theorem hd_Folder_kindOf : y_Folder_kindOf.cls ≠ "java/lang/invoke/MethodHandle" ∧ y_Folder_kindOf.cls ≠ "java/lang/invoke/VarHandle" ∧ (parseMethodDescriptor y_Folder_kindOf.desc).map (fun d => d.parameters.length) = some 1 := by decide +kernel
abbrev y_Folder_isNamed : MethodName := ({ cls := "FileVolume$Folder", name := "isNamed", desc := "(I)Z" } : Jvm.MethodName)
def ws_Folder_isNamed : List Cond := .code y_Folder_isNamed prog_3_method_10_code 4 (some .boolean) :: am_tw
theorem hd_Folder_isNamed : y_Folder_isNamed.cls ≠ "java/lang/invoke/MethodHandle" ∧ y_Folder_isNamed.cls ≠ "java/lang/invoke/VarHandle" ∧ (parseMethodDescriptor y_Folder_isNamed.desc).map (fun d => d.parameters.length) = some 1 := by decide +kernel
abbrev y_Folder_shortLengthOf : MethodName := ({ cls := "FileVolume$Folder", name := "shortLengthOf", desc := "(I)I" } : Jvm.MethodName)
def ws_Folder_shortLengthOf : List Cond := .code y_Folder_shortLengthOf prog_3_method_20_code 4 (some .int) :: am_tw
theorem hd_Folder_shortLengthOf : y_Folder_shortLengthOf.cls ≠ "java/lang/invoke/MethodHandle" ∧ y_Folder_shortLengthOf.cls ≠ "java/lang/invoke/VarHandle" ∧ (parseMethodDescriptor y_Folder_shortLengthOf.desc).map (fun d => d.parameters.length) = some 1 := by decide +kernel
abbrev y_V_capital : MethodName := ({ cls := "FileVolume", name := "capital", desc := "(I)I" } : Jvm.MethodName)
def ws_V_capital : List Cond := .code y_V_capital prog_1_method_32_code 1 (some .int) :: am_tw
theorem hd_V_capital : y_V_capital.cls ≠ "java/lang/invoke/MethodHandle" ∧ y_V_capital.cls ≠ "java/lang/invoke/VarHandle" ∧ (parseMethodDescriptor y_V_capital.desc).map (fun d => d.parameters.length) = some 1 := by decide +kernel
abbrev y_Name_charAt : MethodName := ({ cls := "FileVolume$Name", name := "charAt", desc := "(I)I" } : Jvm.MethodName)
def ws_Name_charAt : List Cond := .code y_Name_charAt prog_4_method_3_code 2 (some .int) :: am_tw
theorem hd_Name_charAt : y_Name_charAt.cls ≠ "java/lang/invoke/MethodHandle" ∧ y_Name_charAt.cls ≠ "java/lang/invoke/VarHandle" ∧ (parseMethodDescriptor y_Name_charAt.desc).map (fun d => d.parameters.length) = some 1 := by decide +kernel
abbrev y_Folder_isShortCalled : MethodName := ({ cls := "FileVolume$Folder", name := "isShortCalled", desc := "(ILFileVolume$Name;)Z" } : Jvm.MethodName)
def ws_Folder_isShortCalled : List Cond := .code y_Folder_isShortCalled prog_3_method_16_code 4 (some .boolean) :: am_tw
theorem hd_Folder_isShortCalled : y_Folder_isShortCalled.cls ≠ "java/lang/invoke/MethodHandle" ∧ y_Folder_isShortCalled.cls ≠ "java/lang/invoke/VarHandle" ∧ (parseMethodDescriptor y_Folder_isShortCalled.desc).map (fun d => d.parameters.length) = some 2 := by decide +kernel
abbrev y_V_addToSum : MethodName := ({ cls := "FileVolume", name := "addToSum", desc := "(II)I" } : Jvm.MethodName)
def ws_V_addToSum : List Cond := .code y_V_addToSum prog_1_method_33_code 2 (some .int) :: am_tw
theorem hd_V_addToSum : y_V_addToSum.cls ≠ "java/lang/invoke/MethodHandle" ∧ y_V_addToSum.cls ≠ "java/lang/invoke/VarHandle" ∧ (parseMethodDescriptor y_V_addToSum.desc).map (fun d => d.parameters.length) = some 2 := by decide +kernel
abbrev y_Folder_sumOf : MethodName := ({ cls := "FileVolume$Folder", name := "sumOf", desc := "(I)I" } : Jvm.MethodName)
def ws_Folder_sumOf : List Cond := .code y_Folder_sumOf prog_3_method_22_code 4 (some .int) :: am_tw
theorem hd_Folder_sumOf : y_Folder_sumOf.cls ≠ "java/lang/invoke/MethodHandle" ∧ y_Folder_sumOf.cls ≠ "java/lang/invoke/VarHandle" ∧ (parseMethodDescriptor y_Folder_sumOf.desc).map (fun d => d.parameters.length) = some 1 := by decide +kernel
abbrev y_Folder_isPart : MethodName := ({ cls := "FileVolume$Folder", name := "isPart", desc := "(III)Z" } : Jvm.MethodName)
def ws_Folder_isPart : List Cond := .code y_Folder_isPart prog_3_method_24_code 4 (some .boolean) :: am_tw
theorem hd_Folder_isPart : y_Folder_isPart.cls ≠ "java/lang/invoke/MethodHandle" ∧ y_Folder_isPart.cls ≠ "java/lang/invoke/VarHandle" ∧ (parseMethodDescriptor y_Folder_isPart.desc).map (fun d => d.parameters.length) = some 3 := by decide +kernel
abbrev y_Folder_partsOf : MethodName := ({ cls := "FileVolume$Folder", name := "partsOf", desc := "(I)I" } : Jvm.MethodName)
def ws_Folder_partsOf : List Cond := .code y_Folder_partsOf prog_3_method_23_code 4 (some .int) :: am_tw
theorem hd_Folder_partsOf : y_Folder_partsOf.cls ≠ "java/lang/invoke/MethodHandle" ∧ y_Folder_partsOf.cls ≠ "java/lang/invoke/VarHandle" ∧ (parseMethodDescriptor y_Folder_partsOf.desc).map (fun d => d.parameters.length) = some 1 := by decide +kernel
abbrev y_V_placeInPart : MethodName := ({ cls := "FileVolume", name := "placeInPart", desc := "(I)I" } : Jvm.MethodName)
def ws_V_placeInPart : List Cond := .code y_V_placeInPart prog_1_method_34_code 1 (some .int) :: am_tw
theorem hd_V_placeInPart : y_V_placeInPart.cls ≠ "java/lang/invoke/MethodHandle" ∧ y_V_placeInPart.cls ≠ "java/lang/invoke/VarHandle" ∧ (parseMethodDescriptor y_V_placeInPart.desc).map (fun d => d.parameters.length) = some 1 := by decide +kernel
abbrev y_Folder_longByteOf : MethodName := ({ cls := "FileVolume$Folder", name := "longByteOf", desc := "(II)I" } : Jvm.MethodName)
def ws_Folder_longByteOf : List Cond := .code y_Folder_longByteOf prog_3_method_26_code 3 (some .int) :: am_tw
theorem hd_Folder_longByteOf : y_Folder_longByteOf.cls ≠ "java/lang/invoke/MethodHandle" ∧ y_Folder_longByteOf.cls ≠ "java/lang/invoke/VarHandle" ∧ (parseMethodDescriptor y_Folder_longByteOf.desc).map (fun d => d.parameters.length) = some 2 := by decide +kernel
abbrev y_Folder_longLengthOf : MethodName := ({ cls := "FileVolume$Folder", name := "longLengthOf", desc := "(II)I" } : Jvm.MethodName)
def ws_Folder_longLengthOf : List Cond := .code y_Folder_longLengthOf prog_3_method_27_code 4 (some .int) :: am_tw
theorem hd_Folder_longLengthOf : y_Folder_longLengthOf.cls ≠ "java/lang/invoke/MethodHandle" ∧ y_Folder_longLengthOf.cls ≠ "java/lang/invoke/VarHandle" ∧ (parseMethodDescriptor y_Folder_longLengthOf.desc).map (fun d => d.parameters.length) = some 2 := by decide +kernel
abbrev y_Folder_isLongCalled : MethodName := ({ cls := "FileVolume$Folder", name := "isLongCalled", desc := "(ILFileVolume$Name;I)Z" } : Jvm.MethodName)
def ws_Folder_isLongCalled : List Cond := .code y_Folder_isLongCalled prog_3_method_17_code 5 (some .boolean) :: am_tw
theorem hd_Folder_isLongCalled : y_Folder_isLongCalled.cls ≠ "java/lang/invoke/MethodHandle" ∧ y_Folder_isLongCalled.cls ≠ "java/lang/invoke/VarHandle" ∧ (parseMethodDescriptor y_Folder_isLongCalled.desc).map (fun d => d.parameters.length) = some 3 := by decide +kernel
abbrev y_Folder_isCalled : MethodName := ({ cls := "FileVolume$Folder", name := "isCalled", desc := "(ILFileVolume$Name;)Z" } : Jvm.MethodName)
def ws_Folder_isCalled : List Cond := .code y_Folder_isCalled prog_3_method_15_code 3 (some .boolean) :: am_tw
theorem hd_Folder_isCalled : y_Folder_isCalled.cls ≠ "java/lang/invoke/MethodHandle" ∧ y_Folder_isCalled.cls ≠ "java/lang/invoke/VarHandle" ∧ (parseMethodDescriptor y_Folder_isCalled.desc).map (fun d => d.parameters.length) = some 2 := by decide +kernel
abbrev y_Folder_find : MethodName := ({ cls := "FileVolume$Folder", name := "find", desc := "(LFileVolume$Name;I)I" } : Jvm.MethodName)
def ws_Folder_find : List Cond := .code y_Folder_find prog_3_method_14_code 5 (some .int) :: am_tw
theorem hd_Folder_find : y_Folder_find.cls ≠ "java/lang/invoke/MethodHandle" ∧ y_Folder_find.cls ≠ "java/lang/invoke/VarHandle" ∧ (parseMethodDescriptor y_Folder_find.desc).map (fun d => d.parameters.length) = some 2 := by decide +kernel
abbrev y_Folder_pairOf : MethodName := ({ cls := "FileVolume$Folder", name := "pairOf", desc := "(II)I" } : Jvm.MethodName)
def ws_Folder_pairOf : List Cond := .code y_Folder_pairOf prog_3_method_5_code 3 (some .int) :: am_tw
theorem hd_Folder_pairOf : y_Folder_pairOf.cls ≠ "java/lang/invoke/MethodHandle" ∧ y_Folder_pairOf.cls ≠ "java/lang/invoke/VarHandle" ∧ (parseMethodDescriptor y_Folder_pairOf.desc).map (fun d => d.parameters.length) = some 2 := by decide +kernel
abbrev y_Folder_firstClusterOf : MethodName := ({ cls := "FileVolume$Folder", name := "firstClusterOf", desc := "(I)I" } : Jvm.MethodName)
def ws_Folder_firstClusterOf : List Cond := .code y_Folder_firstClusterOf prog_3_method_8_code 2 (some .int) :: am_tw
theorem hd_Folder_firstClusterOf : y_Folder_firstClusterOf.cls ≠ "java/lang/invoke/MethodHandle" ∧ y_Folder_firstClusterOf.cls ≠ "java/lang/invoke/VarHandle" ∧ (parseMethodDescriptor y_Folder_firstClusterOf.desc).map (fun d => d.parameters.length) = some 1 := by decide +kernel
abbrev y_Ses_goDown : MethodName := ({ cls := "FileVolume$Session", name := "goDown", desc := "(I)V" } : Jvm.MethodName)
def ws_Ses_goDown : List Cond := .code y_Ses_goDown prog_6_method_4_code 2 none :: am_tw
theorem hd_Ses_goDown : y_Ses_goDown.cls ≠ "java/lang/invoke/MethodHandle" ∧ y_Ses_goDown.cls ≠ "java/lang/invoke/VarHandle" ∧ (parseMethodDescriptor y_Ses_goDown.desc).map (fun d => d.parameters.length) = some 1 := by decide +kernel
abbrev y_V_enter : MethodName := ({ cls := "FileVolume", name := "enter", desc := "()V" } : Jvm.MethodName)
def ws_V_enter : List Cond := .code y_V_enter prog_1_method_5_code 2 none :: am_tw
theorem hd_V_enter : y_V_enter.cls ≠ "java/lang/invoke/MethodHandle" ∧ y_V_enter.cls ≠ "java/lang/invoke/VarHandle" ∧ (parseMethodDescriptor y_V_enter.desc).map (fun d => d.parameters.length) = some 0 := by decide +kernel
abbrev y_Ses_leastFreeHandle : MethodName := ({ cls := "FileVolume$Session", name := "leastFreeHandle", desc := "()I" } : Jvm.MethodName)
def ws_Ses_leastFreeHandle : List Cond := .code y_Ses_leastFreeHandle prog_6_method_7_code 2 (some .int) :: am_tw
theorem hd_Ses_leastFreeHandle : y_Ses_leastFreeHandle.cls ≠ "java/lang/invoke/MethodHandle" ∧ y_Ses_leastFreeHandle.cls ≠ "java/lang/invoke/VarHandle" ∧ (parseMethodDescriptor y_Ses_leastFreeHandle.desc).map (fun d => d.parameters.length) = some 0 := by decide +kernel
abbrev y_Folder_addressOf : MethodName := ({ cls := "FileVolume$Folder", name := "addressOf", desc := "(I)I" } : Jvm.MethodName)
def ws_Folder_addressOf : List Cond := .code y_Folder_addressOf prog_3_method_3_code 2 (some .int) :: am_tw
theorem hd_Folder_addressOf : y_Folder_addressOf.cls ≠ "java/lang/invoke/MethodHandle" ∧ y_Folder_addressOf.cls ≠ "java/lang/invoke/VarHandle" ∧ (parseMethodDescriptor y_Folder_addressOf.desc).map (fun d => d.parameters.length) = some 1 := by decide +kernel
abbrev y_Ses_hold : MethodName := ({ cls := "FileVolume$Session", name := "hold", desc := "(II)V" } : Jvm.MethodName)
def ws_Ses_hold : List Cond := .code y_Ses_hold prog_6_method_9_code 3 none :: am_tw
theorem hd_Ses_hold : y_Ses_hold.cls ≠ "java/lang/invoke/MethodHandle" ∧ y_Ses_hold.cls ≠ "java/lang/invoke/VarHandle" ∧ (parseMethodDescriptor y_Ses_hold.desc).map (fun d => d.parameters.length) = some 2 := by decide +kernel
abbrev y_V_open : MethodName := ({ cls := "FileVolume", name := "open", desc := "()I" } : Jvm.MethodName)
def ws_V_open : List Cond := .code y_V_open prog_1_method_6_code 3 (some .int) :: am_tw
theorem hd_V_open : y_V_open.cls ≠ "java/lang/invoke/MethodHandle" ∧ y_V_open.cls ≠ "java/lang/invoke/VarHandle" ∧ (parseMethodDescriptor y_V_open.desc).map (fun d => d.parameters.length) = some 0 := by decide +kernel
abbrev y_Ses_isOpen : MethodName := ({ cls := "FileVolume$Session", name := "isOpen", desc := "(I)Z" } : Jvm.MethodName)
def ws_Ses_isOpen : List Cond := .code y_Ses_isOpen prog_6_method_6_code 2 (some .boolean) :: am_tw
theorem hd_Ses_isOpen : y_Ses_isOpen.cls ≠ "java/lang/invoke/MethodHandle" ∧ y_Ses_isOpen.cls ≠ "java/lang/invoke/VarHandle" ∧ (parseMethodDescriptor y_Ses_isOpen.desc).map (fun d => d.parameters.length) = some 1 := by decide +kernel
abbrev y_Ses_drop : MethodName := ({ cls := "FileVolume$Session", name := "drop", desc := "(I)V" } : Jvm.MethodName)
def ws_Ses_drop : List Cond := .code y_Ses_drop prog_6_method_10_code 2 none :: am_tw
theorem hd_Ses_drop : y_Ses_drop.cls ≠ "java/lang/invoke/MethodHandle" ∧ y_Ses_drop.cls ≠ "java/lang/invoke/VarHandle" ∧ (parseMethodDescriptor y_Ses_drop.desc).map (fun d => d.parameters.length) = some 1 := by decide +kernel
abbrev y_V_close : MethodName := ({ cls := "FileVolume", name := "close", desc := "(I)Z" } : Jvm.MethodName)
def ws_V_close : List Cond := .code y_V_close prog_1_method_7_code 2 (some .boolean) :: am_tw
theorem hd_V_close : y_V_close.cls ≠ "java/lang/invoke/MethodHandle" ∧ y_V_close.cls ≠ "java/lang/invoke/VarHandle" ∧ (parseMethodDescriptor y_V_close.desc).map (fun d => d.parameters.length) = some 1 := by decide +kernel
abbrev y_Ses_entryOf : MethodName := ({ cls := "FileVolume$Session", name := "entryOf", desc := "(I)I" } : Jvm.MethodName)
def ws_Ses_entryOf : List Cond := .code y_Ses_entryOf prog_6_method_12_code 2 (some .int) :: am_tw
theorem hd_Ses_entryOf : y_Ses_entryOf.cls ≠ "java/lang/invoke/MethodHandle" ∧ y_Ses_entryOf.cls ≠ "java/lang/invoke/VarHandle" ∧ (parseMethodDescriptor y_Ses_entryOf.desc).map (fun d => d.parameters.length) = some 1 := by decide +kernel
abbrev y_V_sizeOfFile : MethodName := ({ cls := "FileVolume", name := "sizeOfFile", desc := "(I)I" } : Jvm.MethodName)
def ws_V_sizeOfFile : List Cond := .code y_V_sizeOfFile prog_1_method_22_code 2 (some .int) :: am_tw
theorem hd_V_sizeOfFile : y_V_sizeOfFile.cls ≠ "java/lang/invoke/MethodHandle" ∧ y_V_sizeOfFile.cls ≠ "java/lang/invoke/VarHandle" ∧ (parseMethodDescriptor y_V_sizeOfFile.desc).map (fun d => d.parameters.length) = some 1 := by decide +kernel
abbrev y_Ses_moveTo : MethodName := ({ cls := "FileVolume$Session", name := "moveTo", desc := "(II)V" } : Jvm.MethodName)
def ws_Ses_moveTo : List Cond := .code y_Ses_moveTo prog_6_method_11_code 3 none :: am_tw
theorem hd_Ses_moveTo : y_Ses_moveTo.cls ≠ "java/lang/invoke/MethodHandle" ∧ y_Ses_moveTo.cls ≠ "java/lang/invoke/VarHandle" ∧ (parseMethodDescriptor y_Ses_moveTo.desc).map (fun d => d.parameters.length) = some 2 := by decide +kernel
abbrev y_V_seek : MethodName := ({ cls := "FileVolume", name := "seek", desc := "(II)Z" } : Jvm.MethodName)
def ws_V_seek : List Cond := .code y_V_seek prog_1_method_8_code 3 (some .boolean) :: am_tw
theorem hd_V_seek : y_V_seek.cls ≠ "java/lang/invoke/MethodHandle" ∧ y_V_seek.cls ≠ "java/lang/invoke/VarHandle" ∧ (parseMethodDescriptor y_V_seek.desc).map (fun d => d.parameters.length) = some 2 := by decide +kernel
abbrev y_Ses_positionOf : MethodName := ({ cls := "FileVolume$Session", name := "positionOf", desc := "(I)I" } : Jvm.MethodName)
def ws_Ses_positionOf : List Cond := .code y_Ses_positionOf prog_6_method_13_code 2 (some .int) :: am_tw
theorem hd_Ses_positionOf : y_Ses_positionOf.cls ≠ "java/lang/invoke/MethodHandle" ∧ y_Ses_positionOf.cls ≠ "java/lang/invoke/VarHandle" ∧ (parseMethodDescriptor y_Ses_positionOf.desc).map (fun d => d.parameters.length) = some 1 := by decide +kernel
abbrev y_Table_clusterAt : MethodName := ({ cls := "FileVolume$Table", name := "clusterAt", desc := "(II)I" } : Jvm.MethodName)
def ws_Table_clusterAt : List Cond := .code y_Table_clusterAt prog_7_method_12_code 5 (some .int) :: am_tw
theorem hd_Table_clusterAt : y_Table_clusterAt.cls ≠ "java/lang/invoke/MethodHandle" ∧ y_Table_clusterAt.cls ≠ "java/lang/invoke/VarHandle" ∧ (parseMethodDescriptor y_Table_clusterAt.desc).map (fun d => d.parameters.length) = some 2 := by decide +kernel
abbrev y_V_addressInChain : MethodName := ({ cls := "FileVolume", name := "addressInChain", desc := "(II)I" } : Jvm.MethodName)
def ws_V_addressInChain : List Cond := .code y_V_addressInChain prog_1_method_23_code 4 (some .int) :: am_tw
theorem hd_V_addressInChain : y_V_addressInChain.cls ≠ "java/lang/invoke/MethodHandle" ∧ y_V_addressInChain.cls ≠ "java/lang/invoke/VarHandle" ∧ (parseMethodDescriptor y_V_addressInChain.desc).map (fun d => d.parameters.length) = some 2 := by decide +kernel
abbrev y_V_read : MethodName := ({ cls := "FileVolume", name := "read", desc := "(II)J" } : Jvm.MethodName)
def ws_V_read : List Cond := .code y_V_read prog_1_method_9_code 9 (some .long) :: am_tw
theorem hd_V_read : y_V_read.cls ≠ "java/lang/invoke/MethodHandle" ∧ y_V_read.cls ≠ "java/lang/invoke/VarHandle" ∧ (parseMethodDescriptor y_V_read.desc).map (fun d => d.parameters.length) = some 2 := by decide +kernel
abbrev y_Folder_indexOfNamed : MethodName := ({ cls := "FileVolume$Folder", name := "indexOfNamed", desc := "(I)I" } : Jvm.MethodName)
def ws_Folder_indexOfNamed : List Cond := .code y_Folder_indexOfNamed prog_3_method_13_code 4 (some .int) :: am_tw
theorem hd_Folder_indexOfNamed : y_Folder_indexOfNamed.cls ≠ "java/lang/invoke/MethodHandle" ∧ y_Folder_indexOfNamed.cls ≠ "java/lang/invoke/VarHandle" ∧ (parseMethodDescriptor y_Folder_indexOfNamed.desc).map (fun d => d.parameters.length) = some 1 := by decide +kernel
abbrev y_V_canBeListed : MethodName := ({ cls := "FileVolume", name := "canBeListed", desc := "(I)Z" } : Jvm.MethodName)
def ws_V_canBeListed : List Cond := .code y_V_canBeListed prog_1_method_27_code 1 (some .boolean) :: am_tw
theorem hd_V_canBeListed : y_V_canBeListed.cls ≠ "java/lang/invoke/MethodHandle" ∧ y_V_canBeListed.cls ≠ "java/lang/invoke/VarHandle" ∧ (parseMethodDescriptor y_V_canBeListed.desc).map (fun d => d.parameters.length) = some 1 := by decide +kernel
abbrev y_Folder_shortCharOf : MethodName := ({ cls := "FileVolume$Folder", name := "shortCharOf", desc := "(II)I" } : Jvm.MethodName)
def ws_Folder_shortCharOf : List Cond := .code y_Folder_shortCharOf prog_3_method_21_code 3 (some .int) :: am_tw
theorem hd_Folder_shortCharOf : y_Folder_shortCharOf.cls ≠ "java/lang/invoke/MethodHandle" ∧ y_Folder_shortCharOf.cls ≠ "java/lang/invoke/VarHandle" ∧ (parseMethodDescriptor y_Folder_shortCharOf.desc).map (fun d => d.parameters.length) = some 2 := by decide +kernel
abbrev y_Folder_longCharOf : MethodName := ({ cls := "FileVolume$Folder", name := "longCharOf", desc := "(II)I" } : Jvm.MethodName)
def ws_Folder_longCharOf : List Cond := .code y_Folder_longCharOf prog_3_method_28_code 3 (some .int) :: am_tw
theorem hd_Folder_longCharOf : y_Folder_longCharOf.cls ≠ "java/lang/invoke/MethodHandle" ∧ y_Folder_longCharOf.cls ≠ "java/lang/invoke/VarHandle" ∧ (parseMethodDescriptor y_Folder_longCharOf.desc).map (fun d => d.parameters.length) = some 2 := by decide +kernel
abbrev y_Folder_sizeOf : MethodName := ({ cls := "FileVolume$Folder", name := "sizeOf", desc := "(I)I" } : Jvm.MethodName)
def ws_Folder_sizeOf : List Cond := .code y_Folder_sizeOf prog_3_method_9_code 2 (some .int) :: am_tw
theorem hd_Folder_sizeOf : y_Folder_sizeOf.cls ≠ "java/lang/invoke/MethodHandle" ∧ y_Folder_sizeOf.cls ≠ "java/lang/invoke/VarHandle" ∧ (parseMethodDescriptor y_Folder_sizeOf.desc).map (fun d => d.parameters.length) = some 1 := by decide +kernel
abbrev y_V_list : MethodName := ({ cls := "FileVolume", name := "list", desc := "(II)I" } : Jvm.MethodName)
def ws_V_list : List Cond := .code y_V_list prog_1_method_11_code 4 (some .int) :: am_tw
theorem hd_V_list : y_V_list.cls ≠ "java/lang/invoke/MethodHandle" ∧ y_V_list.cls ≠ "java/lang/invoke/VarHandle" ∧ (parseMethodDescriptor y_V_list.desc).map (fun d => d.parameters.length) = some 2 := by decide +kernel
abbrev y_Disk_setCut : MethodName := ({ cls := "FileVolume$Disk", name := "setCut", desc := "(I)Z" } : Jvm.MethodName)
def ws_Disk_setCut : List Cond := .code y_Disk_setCut prog_2_method_5_code 2 (some .boolean) :: am_tw
theorem hd_Disk_setCut : y_Disk_setCut.cls ≠ "java/lang/invoke/MethodHandle" ∧ y_Disk_setCut.cls ≠ "java/lang/invoke/VarHandle" ∧ (parseMethodDescriptor y_Disk_setCut.desc).map (fun d => d.parameters.length) = some 1 := by decide +kernel
abbrev y_V_cut : MethodName := ({ cls := "FileVolume", name := "cut", desc := "(I)Z" } : Jvm.MethodName)
def ws_V_cut : List Cond := .code y_V_cut prog_1_method_12_code 2 (some .boolean) :: am_tw
theorem hd_V_cut : y_V_cut.cls ≠ "java/lang/invoke/MethodHandle" ∧ y_V_cut.cls ≠ "java/lang/invoke/VarHandle" ∧ (parseMethodDescriptor y_V_cut.desc).map (fun d => d.parameters.length) = some 1 := by decide +kernel
abbrev y_Disk_switchOn : MethodName := ({ cls := "FileVolume$Disk", name := "switchOn", desc := "()Z" } : Jvm.MethodName)
def ws_Disk_switchOn : List Cond := .code y_Disk_switchOn prog_2_method_6_code 2 (some .boolean) :: am_tw
theorem hd_Disk_switchOn : y_Disk_switchOn.cls ≠ "java/lang/invoke/MethodHandle" ∧ y_Disk_switchOn.cls ≠ "java/lang/invoke/VarHandle" ∧ (parseMethodDescriptor y_Disk_switchOn.desc).map (fun d => d.parameters.length) = some 0 := by decide +kernel
abbrev y_V_power : MethodName := ({ cls := "FileVolume", name := "power", desc := "()Z" } : Jvm.MethodName)
def ws_V_power : List Cond := .code y_V_power prog_1_method_13_code 1 (some .boolean) :: am_tw
theorem hd_V_power : y_V_power.cls ≠ "java/lang/invoke/MethodHandle" ∧ y_V_power.cls ≠ "java/lang/invoke/VarHandle" ∧ (parseMethodDescriptor y_V_power.desc).map (fun d => d.parameters.length) = some 0 := by decide +kernel
abbrev y_V_isOnDisk : MethodName := ({ cls := "FileVolume", name := "isOnDisk", desc := "(II)Z" } : Jvm.MethodName)
def ws_V_isOnDisk : List Cond := .code y_V_isOnDisk prog_1_method_28_code 2 (some .boolean) :: am_tw
theorem hd_V_isOnDisk : y_V_isOnDisk.cls ≠ "java/lang/invoke/MethodHandle" ∧ y_V_isOnDisk.cls ≠ "java/lang/invoke/VarHandle" ∧ (parseMethodDescriptor y_V_isOnDisk.desc).map (fun d => d.parameters.length) = some 2 := by decide +kernel
abbrev y_V_octet : MethodName := ({ cls := "FileVolume", name := "octet", desc := "(II)I" } : Jvm.MethodName)
def ws_V_octet : List Cond := .code y_V_octet prog_1_method_15_code 3 (some .int) :: am_tw
theorem hd_V_octet : y_V_octet.cls ≠ "java/lang/invoke/MethodHandle" ∧ y_V_octet.cls ≠ "java/lang/invoke/VarHandle" ∧ (parseMethodDescriptor y_V_octet.desc).map (fun d => d.parameters.length) = some 2 := by decide +kernel
abbrev y_Disk_put : MethodName := ({ cls := "FileVolume$Disk", name := "put", desc := "(II)V" } : Jvm.MethodName)
def ws_Disk_put : List Cond := .code y_Disk_put prog_2_method_4_code 3 none :: am_tw
theorem hd_Disk_put : y_Disk_put.cls ≠ "java/lang/invoke/MethodHandle" ∧ y_Disk_put.cls ≠ "java/lang/invoke/VarHandle" ∧ (parseMethodDescriptor y_Disk_put.desc).map (fun d => d.parameters.length) = some 2 := by decide +kernel
abbrev y_Ses_leave : MethodName := ({ cls := "FileVolume$Session", name := "leave", desc := "()V" } : Jvm.MethodName)
def ws_Ses_leave : List Cond := .code y_Ses_leave prog_6_method_5_code 2 none :: am_tw
theorem hd_Ses_leave : y_Ses_leave.cls ≠ "java/lang/invoke/MethodHandle" ∧ y_Ses_leave.cls ≠ "java/lang/invoke/VarHandle" ∧ (parseMethodDescriptor y_Ses_leave.desc).map (fun d => d.parameters.length) = some 0 := by decide +kernel
abbrev y_V_poke : MethodName := ({ cls := "FileVolume", name := "poke", desc := "(III)Z" } : Jvm.MethodName)
def ws_V_poke : List Cond := .code y_V_poke prog_1_method_16_code 4 (some .boolean) :: am_tw
theorem hd_V_poke : y_V_poke.cls ≠ "java/lang/invoke/MethodHandle" ∧ y_V_poke.cls ≠ "java/lang/invoke/VarHandle" ∧ (parseMethodDescriptor y_V_poke.desc).map (fun d => d.parameters.length) = some 3 := by decide +kernel
abbrev y_Table_isFree : MethodName := ({ cls := "FileVolume$Table", name := "isFree", desc := "(I)Z" } : Jvm.MethodName)
def ws_Table_isFree : List Cond := .code y_Table_isFree prog_7_method_6_code 2 (some .boolean) :: am_tw
theorem hd_Table_isFree : y_Table_isFree.cls ≠ "java/lang/invoke/MethodHandle" ∧ y_Table_isFree.cls ≠ "java/lang/invoke/VarHandle" ∧ (parseMethodDescriptor y_Table_isFree.desc).map (fun d => d.parameters.length) = some 1 := by decide +kernel
abbrev y_Table_countFree : MethodName := ({ cls := "FileVolume$Table", name := "countFree", desc := "()I" } : Jvm.MethodName)
def ws_Table_countFree : List Cond := .code y_Table_countFree prog_7_method_7_code 3 (some .int) :: am_tw
theorem hd_Table_countFree : y_Table_countFree.cls ≠ "java/lang/invoke/MethodHandle" ∧ y_Table_countFree.cls ≠ "java/lang/invoke/VarHandle" ∧ (parseMethodDescriptor y_Table_countFree.desc).map (fun d => d.parameters.length) = some 0 := by decide +kernel
abbrev y_V_look : MethodName := ({ cls := "FileVolume", name := "look", desc := "(I)I" } : Jvm.MethodName)
def ws_V_look : List Cond := .code y_V_look prog_1_method_17_code 2 (some .int) :: am_tw
theorem hd_V_look : y_V_look.cls ≠ "java/lang/invoke/MethodHandle" ∧ y_V_look.cls ≠ "java/lang/invoke/VarHandle" ∧ (parseMethodDescriptor y_V_look.desc).map (fun d => d.parameters.length) = some 1 := by decide +kernel
theorem tw_1 : (Jvm.Cond.initialized "FileVolume") ∈ am_tw := am_mem 1 (by decide +kernel) (by decide +kernel)
theorem tw_2 : (Jvm.Cond.initialized "FileVolume$Session") ∈ am_tw := am_mem 2 (by decide +kernel) (by decide +kernel)
theorem tw_3 : (Jvm.Cond.initialized "FileVolume$Disk") ∈ am_tw := am_mem 3 (by decide +kernel) (by decide +kernel)
theorem tw_4 : (Jvm.Cond.initialized "FileVolume$Table") ∈ am_tw := am_mem 4 (by decide +kernel) (by decide +kernel)
theorem tw_5 : (Jvm.Cond.initialized "FileVolume$Folder") ∈ am_tw := am_mem 5 (by decide +kernel) (by decide +kernel)
theorem tw_7 : (Jvm.Cond.initialized "FileVolume$Name") ∈ am_tw := am_mem 7 (by decide +kernel) (by decide +kernel)
theorem tw_12 : (Jvm.Cond.initialized "java/lang/IllegalStateException") ∈ am_tw := am_mem 12 (by decide +kernel) (by decide +kernel)
theorem tw_13 : (Jvm.Cond.initialized "java/lang/IllegalArgumentException") ∈ am_tw := am_mem 13 (by decide +kernel) (by decide +kernel)
theorem tw_14 : (Jvm.Cond.initialized "java/lang/UnsupportedOperationException") ∈ am_tw := am_mem 14 (by decide +kernel) (by decide +kernel)
theorem tw_15 : (Jvm.Cond.initialized "java/util/NoSuchElementException") ∈ am_tw := am_mem 15 (by decide +kernel) (by decide +kernel)
theorem tw_16 : (Jvm.Cond.initialized "java/lang/Math") ∈ am_tw := am_mem 16 (by decide +kernel) (by decide +kernel)
theorem tw_17 : (Jvm.Cond.initialized "java/lang/IndexOutOfBoundsException") ∈ am_tw := am_mem 17 (by decide +kernel) (by decide +kernel)
theorem tw_33 : (Jvm.Cond.instanceMethod ({ cls := "FileVolume$Session", name := "leave", desc := "()V" } : Jvm.MethodName)) ∈ am_tw := am_mem 33 (by decide +kernel) (by decide +kernel)
theorem tw_34 : (Jvm.Cond.selects "FileVolume$Session" ({ cls := "FileVolume$Session", name := "leave", desc := "()V" } : Jvm.MethodName) ({ cls := "FileVolume$Session", name := "leave", desc := "()V" } : Jvm.MethodName)) ∈ am_tw := am_mem 34 (by decide +kernel) (by decide +kernel)
theorem tw_35 : (Jvm.Cond.code ({ cls := "FileVolume$Session", name := "leave", desc := "()V" } : Jvm.MethodName) prog_6_method_5_code (2 : Nat) (Option.none : Option Jvm.ClassFile.FieldType)) ∈ am_tw := am_mem 35 (by decide +kernel) (by decide +kernel)
theorem tw_36 : (Jvm.Cond.fieldLink "FileVolume$Session" (9 : Nat) "FileVolume$Session" "line" "[C") ∈ am_tw := am_mem 36 (by decide +kernel) (by decide +kernel)
theorem tw_38 : (Jvm.Cond.fieldLink "FileVolume$Session" (15 : Nat) "FileVolume$Session" "entries" "[I") ∈ am_tw := am_mem 38 (by decide +kernel) (by decide +kernel)
theorem tw_39 : (Jvm.Cond.fieldLink "FileVolume$Session" (19 : Nat) "FileVolume$Session" "positions" "[I") ∈ am_tw := am_mem 39 (by decide +kernel) (by decide +kernel)
theorem tw_41 : (Jvm.Cond.fieldLink "FileVolume$Session" (25 : Nat) "FileVolume$Session" "lineLength" "I") ∈ am_tw := am_mem 41 (by decide +kernel) (by decide +kernel)
theorem tw_44 : (Jvm.Cond.fieldLink "FileVolume$Session" (29 : Nat) "FileVolume$Session" "here" "I") ∈ am_tw := am_mem 44 (by decide +kernel) (by decide +kernel)
theorem tw_46 : (Jvm.Cond.fieldLink "FileVolume$Session" (32 : Nat) "FileVolume$Session" "depth" "I") ∈ am_tw := am_mem 46 (by decide +kernel) (by decide +kernel)
theorem tw_69 : (Jvm.Cond.fieldLink "FileVolume$Disk" (15 : Nat) "FileVolume$Disk" "bytes" "[I") ∈ am_tw := am_mem 69 (by decide +kernel) (by decide +kernel)
theorem tw_71 : (Jvm.Cond.fieldLink "FileVolume$Disk" (19 : Nat) "FileVolume$Disk" "powered" "Z") ∈ am_tw := am_mem 71 (by decide +kernel) (by decide +kernel)
theorem tw_76 : (Jvm.Cond.fieldLink "FileVolume$Disk" (23 : Nat) "FileVolume$Disk" "cutIsSet" "Z") ∈ am_tw := am_mem 76 (by decide +kernel) (by decide +kernel)
theorem tw_77 : (Jvm.Cond.fieldLink "FileVolume$Disk" (26 : Nat) "FileVolume$Disk" "writesBeforeCut" "I") ∈ am_tw := am_mem 77 (by decide +kernel) (by decide +kernel)
theorem tw_99 : (Jvm.Cond.fieldLink "FileVolume$Table" (9 : Nat) "FileVolume$Table" "disk" "LFileVolume$Disk;") ∈ am_tw := am_mem 99 (by decide +kernel) (by decide +kernel)
theorem tw_109 : (Jvm.Cond.fieldLink "FileVolume$Folder" (9 : Nat) "FileVolume$Folder" "disk" "LFileVolume$Disk;") ∈ am_tw := am_mem 109 (by decide +kernel) (by decide +kernel)
theorem tw_110 : (Jvm.Cond.fieldLink "FileVolume$Folder" (15 : Nat) "FileVolume$Folder" "table" "LFileVolume$Table;") ∈ am_tw := am_mem 110 (by decide +kernel) (by decide +kernel)
theorem tw_111 : (Jvm.Cond.fieldLink "FileVolume$Folder" (19 : Nat) "FileVolume$Folder" "addresses" "[I") ∈ am_tw := am_mem 111 (by decide +kernel) (by decide +kernel)
theorem tw_112 : (Jvm.Cond.fieldLink "FileVolume$Folder" (23 : Nat) "FileVolume$Folder" "count" "I") ∈ am_tw := am_mem 112 (by decide +kernel) (by decide +kernel)
theorem tw_114 : (Jvm.Cond.fieldLink "FileVolume$Folder" (35 : Nat) "FileVolume$Folder" "lastCluster" "I") ∈ am_tw := am_mem 114 (by decide +kernel) (by decide +kernel)
theorem tw_157 : (Jvm.Cond.fieldLink "FileVolume$Name" (9 : Nat) "FileVolume$Name" "text" "[C") ∈ am_tw := am_mem 157 (by decide +kernel) (by decide +kernel)
theorem tw_159 : (Jvm.Cond.fieldLink "FileVolume$Name" (25 : Nat) "FileVolume$Name" "length" "I") ∈ am_tw := am_mem 159 (by decide +kernel) (by decide +kernel)
theorem tw_173 : (Jvm.Cond.fieldLink "FileVolume" (12 : Nat) "FileVolume" "session" "LFileVolume$Session;") ∈ am_tw := am_mem 173 (by decide +kernel) (by decide +kernel)
theorem tw_174 : (Jvm.Cond.fieldLink "FileVolume" (21 : Nat) "FileVolume" "disk" "LFileVolume$Disk;") ∈ am_tw := am_mem 174 (by decide +kernel) (by decide +kernel)
theorem tw_175 : (Jvm.Cond.fieldLink "FileVolume" (30 : Nat) "FileVolume" "table" "LFileVolume$Table;") ∈ am_tw := am_mem 175 (by decide +kernel) (by decide +kernel)
theorem tw_176 : (Jvm.Cond.fieldLink "FileVolume" (39 : Nat) "FileVolume" "folder" "LFileVolume$Folder;") ∈ am_tw := am_mem 176 (by decide +kernel) (by decide +kernel)
theorem tw_179 : (Jvm.Cond.fieldLink "FileVolume" (58 : Nat) "FileVolume" "name" "LFileVolume$Name;") ∈ am_tw := am_mem 179 (by decide +kernel) (by decide +kernel)
theorem tw_202 : (Jvm.Cond.methodLink "FileVolume" (66 : Nat) ({ cls := "FileVolume$Session", name := "append", desc := "(C)Z" } : Jvm.MethodName)) ∈ am_tw := am_mem 202 (by decide +kernel) (by decide +kernel)
theorem tw_203 : (Jvm.Cond.instanceMethod ({ cls := "FileVolume$Session", name := "append", desc := "(C)Z" } : Jvm.MethodName)) ∈ am_tw := am_mem 203 (by decide +kernel) (by decide +kernel)
theorem tw_204 : (Jvm.Cond.selects "FileVolume$Session" ({ cls := "FileVolume$Session", name := "append", desc := "(C)Z" } : Jvm.MethodName) ({ cls := "FileVolume$Session", name := "append", desc := "(C)Z" } : Jvm.MethodName)) ∈ am_tw := am_mem 204 (by decide +kernel) (by decide +kernel)
theorem tw_205 : (Jvm.Cond.code ({ cls := "FileVolume$Session", name := "append", desc := "(C)Z" } : Jvm.MethodName) prog_6_method_2_code (2 : Nat) (Option.some Jvm.ClassFile.FieldType.boolean)) ∈ am_tw := am_mem 205 (by decide +kernel) (by decide +kernel)
theorem tw_210 : (Jvm.Cond.methodLink "FileVolume" (173 : Nat) ({ cls := "FileVolume$Session", name := "isOpen", desc := "(I)Z" } : Jvm.MethodName)) ∈ am_tw := am_mem 210 (by decide +kernel) (by decide +kernel)
theorem tw_211 : (Jvm.Cond.instanceMethod ({ cls := "FileVolume$Session", name := "isOpen", desc := "(I)Z" } : Jvm.MethodName)) ∈ am_tw := am_mem 211 (by decide +kernel) (by decide +kernel)
theorem tw_212 : (Jvm.Cond.selects "FileVolume$Session" ({ cls := "FileVolume$Session", name := "isOpen", desc := "(I)Z" } : Jvm.MethodName) ({ cls := "FileVolume$Session", name := "isOpen", desc := "(I)Z" } : Jvm.MethodName)) ∈ am_tw := am_mem 212 (by decide +kernel) (by decide +kernel)
theorem tw_213 : (Jvm.Cond.code ({ cls := "FileVolume$Session", name := "isOpen", desc := "(I)Z" } : Jvm.MethodName) prog_6_method_6_code (2 : Nat) (Option.some Jvm.ClassFile.FieldType.boolean)) ∈ am_tw := am_mem 213 (by decide +kernel) (by decide +kernel)
theorem tw_214 : (Jvm.Cond.methodLink "FileVolume" (176 : Nat) ({ cls := "FileVolume$Session", name := "drop", desc := "(I)V" } : Jvm.MethodName)) ∈ am_tw := am_mem 214 (by decide +kernel) (by decide +kernel)
theorem tw_215 : (Jvm.Cond.instanceMethod ({ cls := "FileVolume$Session", name := "drop", desc := "(I)V" } : Jvm.MethodName)) ∈ am_tw := am_mem 215 (by decide +kernel) (by decide +kernel)
theorem tw_216 : (Jvm.Cond.selects "FileVolume$Session" ({ cls := "FileVolume$Session", name := "drop", desc := "(I)V" } : Jvm.MethodName) ({ cls := "FileVolume$Session", name := "drop", desc := "(I)V" } : Jvm.MethodName)) ∈ am_tw := am_mem 216 (by decide +kernel) (by decide +kernel)
theorem tw_217 : (Jvm.Cond.code ({ cls := "FileVolume$Session", name := "drop", desc := "(I)V" } : Jvm.MethodName) prog_6_method_10_code (2 : Nat) (Option.none : Option Jvm.ClassFile.FieldType)) ∈ am_tw := am_mem 217 (by decide +kernel) (by decide +kernel)
theorem tw_222 : (Jvm.Cond.methodLink "FileVolume" (179 : Nat) ({ cls := "FileVolume", name := "sizeOfFile", desc := "(I)I" } : Jvm.MethodName)) ∈ am_tw := am_mem 222 (by decide +kernel) (by decide +kernel)
theorem tw_224 : (Jvm.Cond.instanceMethod ({ cls := "FileVolume", name := "sizeOfFile", desc := "(I)I" } : Jvm.MethodName)) ∈ am_tw := am_mem 224 (by decide +kernel) (by decide +kernel)
theorem tw_225 : (Jvm.Cond.code ({ cls := "FileVolume", name := "sizeOfFile", desc := "(I)I" } : Jvm.MethodName) prog_1_method_22_code (2 : Nat) (Option.some Jvm.ClassFile.FieldType.int)) ∈ am_tw := am_mem 225 (by decide +kernel) (by decide +kernel)
theorem tw_226 : (Jvm.Cond.methodLink "FileVolume" (190 : Nat) ({ cls := "FileVolume$Session", name := "entryOf", desc := "(I)I" } : Jvm.MethodName)) ∈ am_tw := am_mem 226 (by decide +kernel) (by decide +kernel)
theorem tw_227 : (Jvm.Cond.instanceMethod ({ cls := "FileVolume$Session", name := "entryOf", desc := "(I)I" } : Jvm.MethodName)) ∈ am_tw := am_mem 227 (by decide +kernel) (by decide +kernel)
theorem tw_228 : (Jvm.Cond.selects "FileVolume$Session" ({ cls := "FileVolume$Session", name := "entryOf", desc := "(I)I" } : Jvm.MethodName) ({ cls := "FileVolume$Session", name := "entryOf", desc := "(I)I" } : Jvm.MethodName)) ∈ am_tw := am_mem 228 (by decide +kernel) (by decide +kernel)
theorem tw_229 : (Jvm.Cond.code ({ cls := "FileVolume$Session", name := "entryOf", desc := "(I)I" } : Jvm.MethodName) prog_6_method_12_code (2 : Nat) (Option.some Jvm.ClassFile.FieldType.int)) ∈ am_tw := am_mem 229 (by decide +kernel) (by decide +kernel)
theorem tw_230 : (Jvm.Cond.methodLink "FileVolume" (193 : Nat) ({ cls := "FileVolume$Disk", name := "pairAt", desc := "(I)I" } : Jvm.MethodName)) ∈ am_tw := am_mem 230 (by decide +kernel) (by decide +kernel)
theorem tw_231 : (Jvm.Cond.instanceMethod ({ cls := "FileVolume$Disk", name := "pairAt", desc := "(I)I" } : Jvm.MethodName)) ∈ am_tw := am_mem 231 (by decide +kernel) (by decide +kernel)
theorem tw_232 : (Jvm.Cond.selects "FileVolume$Disk" ({ cls := "FileVolume$Disk", name := "pairAt", desc := "(I)I" } : Jvm.MethodName) ({ cls := "FileVolume$Disk", name := "pairAt", desc := "(I)I" } : Jvm.MethodName)) ∈ am_tw := am_mem 232 (by decide +kernel) (by decide +kernel)
theorem tw_233 : (Jvm.Cond.code ({ cls := "FileVolume$Disk", name := "pairAt", desc := "(I)I" } : Jvm.MethodName) prog_2_method_3_code (3 : Nat) (Option.some Jvm.ClassFile.FieldType.int)) ∈ am_tw := am_mem 233 (by decide +kernel) (by decide +kernel)
theorem tw_234 : (Jvm.Cond.methodLink "FileVolume" (182 : Nat) ({ cls := "FileVolume$Session", name := "moveTo", desc := "(II)V" } : Jvm.MethodName)) ∈ am_tw := am_mem 234 (by decide +kernel) (by decide +kernel)
theorem tw_235 : (Jvm.Cond.instanceMethod ({ cls := "FileVolume$Session", name := "moveTo", desc := "(II)V" } : Jvm.MethodName)) ∈ am_tw := am_mem 235 (by decide +kernel) (by decide +kernel)
theorem tw_236 : (Jvm.Cond.selects "FileVolume$Session" ({ cls := "FileVolume$Session", name := "moveTo", desc := "(II)V" } : Jvm.MethodName) ({ cls := "FileVolume$Session", name := "moveTo", desc := "(II)V" } : Jvm.MethodName)) ∈ am_tw := am_mem 236 (by decide +kernel) (by decide +kernel)
theorem tw_237 : (Jvm.Cond.code ({ cls := "FileVolume$Session", name := "moveTo", desc := "(II)V" } : Jvm.MethodName) prog_6_method_11_code (3 : Nat) (Option.none : Option Jvm.ClassFile.FieldType)) ∈ am_tw := am_mem 237 (by decide +kernel) (by decide +kernel)
theorem tw_242 : (Jvm.Cond.methodLink "FileVolume" (256 : Nat) ({ cls := "FileVolume$Disk", name := "setCut", desc := "(I)Z" } : Jvm.MethodName)) ∈ am_tw := am_mem 242 (by decide +kernel) (by decide +kernel)
theorem tw_243 : (Jvm.Cond.instanceMethod ({ cls := "FileVolume$Disk", name := "setCut", desc := "(I)Z" } : Jvm.MethodName)) ∈ am_tw := am_mem 243 (by decide +kernel) (by decide +kernel)
theorem tw_244 : (Jvm.Cond.selects "FileVolume$Disk" ({ cls := "FileVolume$Disk", name := "setCut", desc := "(I)Z" } : Jvm.MethodName) ({ cls := "FileVolume$Disk", name := "setCut", desc := "(I)Z" } : Jvm.MethodName)) ∈ am_tw := am_mem 244 (by decide +kernel) (by decide +kernel)
theorem tw_245 : (Jvm.Cond.code ({ cls := "FileVolume$Disk", name := "setCut", desc := "(I)Z" } : Jvm.MethodName) prog_2_method_5_code (2 : Nat) (Option.some Jvm.ClassFile.FieldType.boolean)) ∈ am_tw := am_mem 245 (by decide +kernel) (by decide +kernel)
theorem tw_250 : (Jvm.Cond.methodLink "FileVolume" (259 : Nat) ({ cls := "FileVolume$Disk", name := "switchOn", desc := "()Z" } : Jvm.MethodName)) ∈ am_tw := am_mem 250 (by decide +kernel) (by decide +kernel)
theorem tw_251 : (Jvm.Cond.instanceMethod ({ cls := "FileVolume$Disk", name := "switchOn", desc := "()Z" } : Jvm.MethodName)) ∈ am_tw := am_mem 251 (by decide +kernel) (by decide +kernel)
theorem tw_252 : (Jvm.Cond.selects "FileVolume$Disk" ({ cls := "FileVolume$Disk", name := "switchOn", desc := "()Z" } : Jvm.MethodName) ({ cls := "FileVolume$Disk", name := "switchOn", desc := "()Z" } : Jvm.MethodName)) ∈ am_tw := am_mem 252 (by decide +kernel) (by decide +kernel)
theorem tw_253 : (Jvm.Cond.code ({ cls := "FileVolume$Disk", name := "switchOn", desc := "()Z" } : Jvm.MethodName) prog_2_method_6_code (2 : Nat) (Option.some Jvm.ClassFile.FieldType.boolean)) ∈ am_tw := am_mem 253 (by decide +kernel) (by decide +kernel)
theorem tw_258 : (Jvm.Cond.methodLink "FileVolume" (292 : Nat) ({ cls := "FileVolume", name := "isOnDisk", desc := "(II)Z" } : Jvm.MethodName)) ∈ am_tw := am_mem 258 (by decide +kernel) (by decide +kernel)
theorem tw_259 : (Jvm.Cond.static ({ cls := "FileVolume", name := "isOnDisk", desc := "(II)Z" } : Jvm.MethodName)) ∈ am_tw := am_mem 259 (by decide +kernel) (by decide +kernel)
theorem tw_260 : (Jvm.Cond.code ({ cls := "FileVolume", name := "isOnDisk", desc := "(II)Z" } : Jvm.MethodName) prog_1_method_28_code (2 : Nat) (Option.some Jvm.ClassFile.FieldType.boolean)) ∈ am_tw := am_mem 260 (by decide +kernel) (by decide +kernel)
theorem tw_261 : (Jvm.Cond.methodLink "FileVolume" (205 : Nat) ({ cls := "FileVolume$Disk", name := "at", desc := "(I)I" } : Jvm.MethodName)) ∈ am_tw := am_mem 261 (by decide +kernel) (by decide +kernel)
theorem tw_262 : (Jvm.Cond.instanceMethod ({ cls := "FileVolume$Disk", name := "at", desc := "(I)I" } : Jvm.MethodName)) ∈ am_tw := am_mem 262 (by decide +kernel) (by decide +kernel)
theorem tw_263 : (Jvm.Cond.selects "FileVolume$Disk" ({ cls := "FileVolume$Disk", name := "at", desc := "(I)I" } : Jvm.MethodName) ({ cls := "FileVolume$Disk", name := "at", desc := "(I)I" } : Jvm.MethodName)) ∈ am_tw := am_mem 263 (by decide +kernel) (by decide +kernel)
theorem tw_264 : (Jvm.Cond.code ({ cls := "FileVolume$Disk", name := "at", desc := "(I)I" } : Jvm.MethodName) prog_2_method_2_code (2 : Nat) (Option.some Jvm.ClassFile.FieldType.int)) ∈ am_tw := am_mem 264 (by decide +kernel) (by decide +kernel)
theorem tw_269 : (Jvm.Cond.methodLink "FileVolume" (296 : Nat) ({ cls := "FileVolume$Disk", name := "put", desc := "(II)V" } : Jvm.MethodName)) ∈ am_tw := am_mem 269 (by decide +kernel) (by decide +kernel)
theorem tw_270 : (Jvm.Cond.instanceMethod ({ cls := "FileVolume$Disk", name := "put", desc := "(II)V" } : Jvm.MethodName)) ∈ am_tw := am_mem 270 (by decide +kernel) (by decide +kernel)
theorem tw_271 : (Jvm.Cond.selects "FileVolume$Disk" ({ cls := "FileVolume$Disk", name := "put", desc := "(II)V" } : Jvm.MethodName) ({ cls := "FileVolume$Disk", name := "put", desc := "(II)V" } : Jvm.MethodName)) ∈ am_tw := am_mem 271 (by decide +kernel) (by decide +kernel)
theorem tw_272 : (Jvm.Cond.code ({ cls := "FileVolume$Disk", name := "put", desc := "(II)V" } : Jvm.MethodName) prog_2_method_4_code (3 : Nat) (Option.none : Option Jvm.ClassFile.FieldType)) ∈ am_tw := am_mem 272 (by decide +kernel) (by decide +kernel)
theorem tw_273 : (Jvm.Cond.methodLink "FileVolume" (271 : Nat) ({ cls := "FileVolume$Session", name := "leave", desc := "()V" } : Jvm.MethodName)) ∈ am_tw := am_mem 273 (by decide +kernel) (by decide +kernel)
theorem tw_278 : (Jvm.Cond.methodLink "FileVolume" (302 : Nat) ({ cls := "FileVolume$Table", name := "countFree", desc := "()I" } : Jvm.MethodName)) ∈ am_tw := am_mem 278 (by decide +kernel) (by decide +kernel)
theorem tw_279 : (Jvm.Cond.instanceMethod ({ cls := "FileVolume$Table", name := "countFree", desc := "()I" } : Jvm.MethodName)) ∈ am_tw := am_mem 279 (by decide +kernel) (by decide +kernel)
theorem tw_280 : (Jvm.Cond.selects "FileVolume$Table" ({ cls := "FileVolume$Table", name := "countFree", desc := "()I" } : Jvm.MethodName) ({ cls := "FileVolume$Table", name := "countFree", desc := "()I" } : Jvm.MethodName)) ∈ am_tw := am_mem 280 (by decide +kernel) (by decide +kernel)
theorem tw_281 : (Jvm.Cond.code ({ cls := "FileVolume$Table", name := "countFree", desc := "()I" } : Jvm.MethodName) prog_7_method_7_code (3 : Nat) (Option.some Jvm.ClassFile.FieldType.int)) ∈ am_tw := am_mem 281 (by decide +kernel) (by decide +kernel)
theorem tw_282 : (Jvm.Cond.methodLink "FileVolume$Table" (28 : Nat) ({ cls := "FileVolume$Table", name := "isFree", desc := "(I)Z" } : Jvm.MethodName)) ∈ am_tw := am_mem 282 (by decide +kernel) (by decide +kernel)
theorem tw_283 : (Jvm.Cond.instanceMethod ({ cls := "FileVolume$Table", name := "isFree", desc := "(I)Z" } : Jvm.MethodName)) ∈ am_tw := am_mem 283 (by decide +kernel) (by decide +kernel)
theorem tw_284 : (Jvm.Cond.selects "FileVolume$Table" ({ cls := "FileVolume$Table", name := "isFree", desc := "(I)Z" } : Jvm.MethodName) ({ cls := "FileVolume$Table", name := "isFree", desc := "(I)Z" } : Jvm.MethodName)) ∈ am_tw := am_mem 284 (by decide +kernel) (by decide +kernel)
theorem tw_285 : (Jvm.Cond.code ({ cls := "FileVolume$Table", name := "isFree", desc := "(I)Z" } : Jvm.MethodName) prog_7_method_6_code (2 : Nat) (Option.some Jvm.ClassFile.FieldType.boolean)) ∈ am_tw := am_mem 285 (by decide +kernel) (by decide +kernel)
theorem tw_286 : (Jvm.Cond.methodLink "FileVolume$Table" (25 : Nat) ({ cls := "FileVolume$Table", name := "cell", desc := "(I)I" } : Jvm.MethodName)) ∈ am_tw := am_mem 286 (by decide +kernel) (by decide +kernel)
theorem tw_287 : (Jvm.Cond.instanceMethod ({ cls := "FileVolume$Table", name := "cell", desc := "(I)I" } : Jvm.MethodName)) ∈ am_tw := am_mem 287 (by decide +kernel) (by decide +kernel)
theorem tw_288 : (Jvm.Cond.selects "FileVolume$Table" ({ cls := "FileVolume$Table", name := "cell", desc := "(I)I" } : Jvm.MethodName) ({ cls := "FileVolume$Table", name := "cell", desc := "(I)I" } : Jvm.MethodName)) ∈ am_tw := am_mem 288 (by decide +kernel) (by decide +kernel)
theorem tw_289 : (Jvm.Cond.code ({ cls := "FileVolume$Table", name := "cell", desc := "(I)I" } : Jvm.MethodName) prog_7_method_2_code (2 : Nat) (Option.some Jvm.ClassFile.FieldType.int)) ∈ am_tw := am_mem 289 (by decide +kernel) (by decide +kernel)
theorem tw_290 : (Jvm.Cond.methodLink "FileVolume$Table" (15 : Nat) ({ cls := "FileVolume$Disk", name := "pairAt", desc := "(I)I" } : Jvm.MethodName)) ∈ am_tw := am_mem 290 (by decide +kernel) (by decide +kernel)
theorem tw_291 : (Jvm.Cond.methodLink "FileVolume" (187 : Nat) ({ cls := "FileVolume$Session", name := "positionOf", desc := "(I)I" } : Jvm.MethodName)) ∈ am_tw := am_mem 291 (by decide +kernel) (by decide +kernel)
theorem tw_292 : (Jvm.Cond.instanceMethod ({ cls := "FileVolume$Session", name := "positionOf", desc := "(I)I" } : Jvm.MethodName)) ∈ am_tw := am_mem 292 (by decide +kernel) (by decide +kernel)
theorem tw_293 : (Jvm.Cond.selects "FileVolume$Session" ({ cls := "FileVolume$Session", name := "positionOf", desc := "(I)I" } : Jvm.MethodName) ({ cls := "FileVolume$Session", name := "positionOf", desc := "(I)I" } : Jvm.MethodName)) ∈ am_tw := am_mem 293 (by decide +kernel) (by decide +kernel)
theorem tw_294 : (Jvm.Cond.code ({ cls := "FileVolume$Session", name := "positionOf", desc := "(I)I" } : Jvm.MethodName) prog_6_method_13_code (2 : Nat) (Option.some Jvm.ClassFile.FieldType.int)) ∈ am_tw := am_mem 294 (by decide +kernel) (by decide +kernel)
theorem tw_305 : (Jvm.Cond.methodLink "FileVolume" (70 : Nat) ({ cls := "FileVolume", name := "demandSoundDisk", desc := "()V" } : Jvm.MethodName)) ∈ am_tw := am_mem 305 (by decide +kernel) (by decide +kernel)
theorem tw_307 : (Jvm.Cond.instanceMethod ({ cls := "FileVolume", name := "demandSoundDisk", desc := "()V" } : Jvm.MethodName)) ∈ am_tw := am_mem 307 (by decide +kernel) (by decide +kernel)
theorem tw_308 : (Jvm.Cond.code ({ cls := "FileVolume", name := "demandSoundDisk", desc := "()V" } : Jvm.MethodName) prog_1_method_18_code (1 : Nat) (Option.none : Option Jvm.ClassFile.FieldType)) ∈ am_tw := am_mem 308 (by decide +kernel) (by decide +kernel)
theorem tw_309 : (Jvm.Cond.classLink "FileVolume" (266 : Nat) "java/lang/IllegalStateException") ∈ am_tw := am_mem 309 (by decide +kernel) (by decide +kernel)
theorem tw_379 : (Jvm.Cond.methodLink "FileVolume" (73 : Nat) ({ cls := "FileVolume$Name", name := "takeLineOf", desc := "(LFileVolume$Session;)V" } : Jvm.MethodName)) ∈ am_tw := am_mem 379 (by decide +kernel) (by decide +kernel)
theorem tw_380 : (Jvm.Cond.instanceMethod ({ cls := "FileVolume$Name", name := "takeLineOf", desc := "(LFileVolume$Session;)V" } : Jvm.MethodName)) ∈ am_tw := am_mem 380 (by decide +kernel) (by decide +kernel)
theorem tw_381 : (Jvm.Cond.selects "FileVolume$Name" ({ cls := "FileVolume$Name", name := "takeLineOf", desc := "(LFileVolume$Session;)V" } : Jvm.MethodName) ({ cls := "FileVolume$Name", name := "takeLineOf", desc := "(LFileVolume$Session;)V" } : Jvm.MethodName)) ∈ am_tw := am_mem 381 (by decide +kernel) (by decide +kernel)
theorem tw_382 : (Jvm.Cond.code ({ cls := "FileVolume$Name", name := "takeLineOf", desc := "(LFileVolume$Session;)V" } : Jvm.MethodName) prog_4_method_2_code (3 : Nat) (Option.none : Option Jvm.ClassFile.FieldType)) ∈ am_tw := am_mem 382 (by decide +kernel) (by decide +kernel)
theorem tw_388 : (Jvm.Cond.instanceMethod ({ cls := "FileVolume$Name", name := "charAt", desc := "(I)I" } : Jvm.MethodName)) ∈ am_tw := am_mem 388 (by decide +kernel) (by decide +kernel)
theorem tw_389 : (Jvm.Cond.selects "FileVolume$Name" ({ cls := "FileVolume$Name", name := "charAt", desc := "(I)I" } : Jvm.MethodName) ({ cls := "FileVolume$Name", name := "charAt", desc := "(I)I" } : Jvm.MethodName)) ∈ am_tw := am_mem 389 (by decide +kernel) (by decide +kernel)
theorem tw_390 : (Jvm.Cond.code ({ cls := "FileVolume$Name", name := "charAt", desc := "(I)I" } : Jvm.MethodName) prog_4_method_3_code (2 : Nat) (Option.some Jvm.ClassFile.FieldType.int)) ∈ am_tw := am_mem 390 (by decide +kernel) (by decide +kernel)
theorem tw_391 : (Jvm.Cond.classLink "FileVolume" (80 : Nat) "java/lang/IllegalArgumentException") ∈ am_tw := am_mem 391 (by decide +kernel) (by decide +kernel)
theorem tw_407 : (Jvm.Cond.methodLink "FileVolume" (91 : Nat) ({ cls := "FileVolume$Folder", name := "load", desc := "(I)V" } : Jvm.MethodName)) ∈ am_tw := am_mem 407 (by decide +kernel) (by decide +kernel)
theorem tw_408 : (Jvm.Cond.instanceMethod ({ cls := "FileVolume$Folder", name := "load", desc := "(I)V" } : Jvm.MethodName)) ∈ am_tw := am_mem 408 (by decide +kernel) (by decide +kernel)
theorem tw_409 : (Jvm.Cond.selects "FileVolume$Folder" ({ cls := "FileVolume$Folder", name := "load", desc := "(I)V" } : Jvm.MethodName) ({ cls := "FileVolume$Folder", name := "load", desc := "(I)V" } : Jvm.MethodName)) ∈ am_tw := am_mem 409 (by decide +kernel) (by decide +kernel)
theorem tw_410 : (Jvm.Cond.code ({ cls := "FileVolume$Folder", name := "load", desc := "(I)V" } : Jvm.MethodName) prog_3_method_2_code (5 : Nat) (Option.none : Option Jvm.ClassFile.FieldType)) ∈ am_tw := am_mem 410 (by decide +kernel) (by decide +kernel)
theorem tw_412 : (Jvm.Cond.static ({ cls := "FileVolume", name := "isCluster", desc := "(I)Z" } : Jvm.MethodName)) ∈ am_tw := am_mem 412 (by decide +kernel) (by decide +kernel)
theorem tw_413 : (Jvm.Cond.code ({ cls := "FileVolume", name := "isCluster", desc := "(I)Z" } : Jvm.MethodName) prog_1_method_29_code (1 : Nat) (Option.some Jvm.ClassFile.FieldType.boolean)) ∈ am_tw := am_mem 413 (by decide +kernel) (by decide +kernel)
theorem tw_415 : (Jvm.Cond.static ({ cls := "FileVolume", name := "sectorOf", desc := "(I)I" } : Jvm.MethodName)) ∈ am_tw := am_mem 415 (by decide +kernel) (by decide +kernel)
theorem tw_416 : (Jvm.Cond.code ({ cls := "FileVolume", name := "sectorOf", desc := "(I)I" } : Jvm.MethodName) prog_1_method_30_code (1 : Nat) (Option.some Jvm.ClassFile.FieldType.int)) ∈ am_tw := am_mem 416 (by decide +kernel) (by decide +kernel)
theorem tw_417 : (Jvm.Cond.methodLink "FileVolume$Folder" (38 : Nat) ({ cls := "FileVolume$Table", name := "cell", desc := "(I)I" } : Jvm.MethodName)) ∈ am_tw := am_mem 417 (by decide +kernel) (by decide +kernel)
theorem tw_418 : (Jvm.Cond.methodLink "FileVolume" (98 : Nat) ({ cls := "FileVolume$Folder", name := "find", desc := "(LFileVolume$Name;I)I" } : Jvm.MethodName)) ∈ am_tw := am_mem 418 (by decide +kernel) (by decide +kernel)
theorem tw_419 : (Jvm.Cond.instanceMethod ({ cls := "FileVolume$Folder", name := "find", desc := "(LFileVolume$Name;I)I" } : Jvm.MethodName)) ∈ am_tw := am_mem 419 (by decide +kernel) (by decide +kernel)
theorem tw_420 : (Jvm.Cond.selects "FileVolume$Folder" ({ cls := "FileVolume$Folder", name := "find", desc := "(LFileVolume$Name;I)I" } : Jvm.MethodName) ({ cls := "FileVolume$Folder", name := "find", desc := "(LFileVolume$Name;I)I" } : Jvm.MethodName)) ∈ am_tw := am_mem 420 (by decide +kernel) (by decide +kernel)
theorem tw_421 : (Jvm.Cond.code ({ cls := "FileVolume$Folder", name := "find", desc := "(LFileVolume$Name;I)I" } : Jvm.MethodName) prog_3_method_14_code (5 : Nat) (Option.some Jvm.ClassFile.FieldType.int)) ∈ am_tw := am_mem 421 (by decide +kernel) (by decide +kernel)
theorem tw_422 : (Jvm.Cond.methodLink "FileVolume$Folder" (64 : Nat) ({ cls := "FileVolume$Folder", name := "kindOf", desc := "(I)I" } : Jvm.MethodName)) ∈ am_tw := am_mem 422 (by decide +kernel) (by decide +kernel)
theorem tw_423 : (Jvm.Cond.instanceMethod ({ cls := "FileVolume$Folder", name := "kindOf", desc := "(I)I" } : Jvm.MethodName)) ∈ am_tw := am_mem 423 (by decide +kernel) (by decide +kernel)
theorem tw_424 : (Jvm.Cond.selects "FileVolume$Folder" ({ cls := "FileVolume$Folder", name := "kindOf", desc := "(I)I" } : Jvm.MethodName) ({ cls := "FileVolume$Folder", name := "kindOf", desc := "(I)I" } : Jvm.MethodName)) ∈ am_tw := am_mem 424 (by decide +kernel) (by decide +kernel)
theorem tw_425 : (Jvm.Cond.code ({ cls := "FileVolume$Folder", name := "kindOf", desc := "(I)I" } : Jvm.MethodName) prog_3_method_7_code (2 : Nat) (Option.some Jvm.ClassFile.FieldType.int)) ∈ am_tw := am_mem 425 (by decide +kernel) (by decide +kernel)
theorem tw_426 : (Jvm.Cond.methodLink "FileVolume$Folder" (51 : Nat) ({ cls := "FileVolume$Folder", name := "byteOf", desc := "(II)I" } : Jvm.MethodName)) ∈ am_tw := am_mem 426 (by decide +kernel) (by decide +kernel)
theorem tw_427 : (Jvm.Cond.instanceMethod ({ cls := "FileVolume$Folder", name := "byteOf", desc := "(II)I" } : Jvm.MethodName)) ∈ am_tw := am_mem 427 (by decide +kernel) (by decide +kernel)
theorem tw_428 : (Jvm.Cond.selects "FileVolume$Folder" ({ cls := "FileVolume$Folder", name := "byteOf", desc := "(II)I" } : Jvm.MethodName) ({ cls := "FileVolume$Folder", name := "byteOf", desc := "(II)I" } : Jvm.MethodName)) ∈ am_tw := am_mem 428 (by decide +kernel) (by decide +kernel)
theorem tw_429 : (Jvm.Cond.code ({ cls := "FileVolume$Folder", name := "byteOf", desc := "(II)I" } : Jvm.MethodName) prog_3_method_4_code (3 : Nat) (Option.some Jvm.ClassFile.FieldType.int)) ∈ am_tw := am_mem 429 (by decide +kernel) (by decide +kernel)
theorem tw_430 : (Jvm.Cond.methodLink "FileVolume$Folder" (43 : Nat) ({ cls := "FileVolume$Disk", name := "at", desc := "(I)I" } : Jvm.MethodName)) ∈ am_tw := am_mem 430 (by decide +kernel) (by decide +kernel)
theorem tw_431 : (Jvm.Cond.methodLink "FileVolume$Folder" (61 : Nat) ({ cls := "FileVolume$Folder", name := "isNamed", desc := "(I)Z" } : Jvm.MethodName)) ∈ am_tw := am_mem 431 (by decide +kernel) (by decide +kernel)
theorem tw_432 : (Jvm.Cond.instanceMethod ({ cls := "FileVolume$Folder", name := "isNamed", desc := "(I)Z" } : Jvm.MethodName)) ∈ am_tw := am_mem 432 (by decide +kernel) (by decide +kernel)
theorem tw_433 : (Jvm.Cond.selects "FileVolume$Folder" ({ cls := "FileVolume$Folder", name := "isNamed", desc := "(I)Z" } : Jvm.MethodName) ({ cls := "FileVolume$Folder", name := "isNamed", desc := "(I)Z" } : Jvm.MethodName)) ∈ am_tw := am_mem 433 (by decide +kernel) (by decide +kernel)
theorem tw_434 : (Jvm.Cond.code ({ cls := "FileVolume$Folder", name := "isNamed", desc := "(I)Z" } : Jvm.MethodName) prog_3_method_10_code (4 : Nat) (Option.some Jvm.ClassFile.FieldType.boolean)) ∈ am_tw := am_mem 434 (by decide +kernel) (by decide +kernel)
theorem tw_435 : (Jvm.Cond.methodLink "FileVolume$Folder" (67 : Nat) ({ cls := "FileVolume$Folder", name := "isCalled", desc := "(ILFileVolume$Name;)Z" } : Jvm.MethodName)) ∈ am_tw := am_mem 435 (by decide +kernel) (by decide +kernel)
theorem tw_436 : (Jvm.Cond.instanceMethod ({ cls := "FileVolume$Folder", name := "isCalled", desc := "(ILFileVolume$Name;)Z" } : Jvm.MethodName)) ∈ am_tw := am_mem 436 (by decide +kernel) (by decide +kernel)
theorem tw_437 : (Jvm.Cond.selects "FileVolume$Folder" ({ cls := "FileVolume$Folder", name := "isCalled", desc := "(ILFileVolume$Name;)Z" } : Jvm.MethodName) ({ cls := "FileVolume$Folder", name := "isCalled", desc := "(ILFileVolume$Name;)Z" } : Jvm.MethodName)) ∈ am_tw := am_mem 437 (by decide +kernel) (by decide +kernel)
theorem tw_438 : (Jvm.Cond.code ({ cls := "FileVolume$Folder", name := "isCalled", desc := "(ILFileVolume$Name;)Z" } : Jvm.MethodName) prog_3_method_15_code (3 : Nat) (Option.some Jvm.ClassFile.FieldType.boolean)) ∈ am_tw := am_mem 438 (by decide +kernel) (by decide +kernel)
theorem tw_439 : (Jvm.Cond.methodLink "FileVolume$Folder" (71 : Nat) ({ cls := "FileVolume$Folder", name := "isShortCalled", desc := "(ILFileVolume$Name;)Z" } : Jvm.MethodName)) ∈ am_tw := am_mem 439 (by decide +kernel) (by decide +kernel)
theorem tw_440 : (Jvm.Cond.instanceMethod ({ cls := "FileVolume$Folder", name := "isShortCalled", desc := "(ILFileVolume$Name;)Z" } : Jvm.MethodName)) ∈ am_tw := am_mem 440 (by decide +kernel) (by decide +kernel)
theorem tw_441 : (Jvm.Cond.selects "FileVolume$Folder" ({ cls := "FileVolume$Folder", name := "isShortCalled", desc := "(ILFileVolume$Name;)Z" } : Jvm.MethodName) ({ cls := "FileVolume$Folder", name := "isShortCalled", desc := "(ILFileVolume$Name;)Z" } : Jvm.MethodName)) ∈ am_tw := am_mem 441 (by decide +kernel) (by decide +kernel)
theorem tw_442 : (Jvm.Cond.code ({ cls := "FileVolume$Folder", name := "isShortCalled", desc := "(ILFileVolume$Name;)Z" } : Jvm.MethodName) prog_3_method_16_code (4 : Nat) (Option.some Jvm.ClassFile.FieldType.boolean)) ∈ am_tw := am_mem 442 (by decide +kernel) (by decide +kernel)
theorem tw_443 : (Jvm.Cond.methodLink "FileVolume$Folder" (81 : Nat) ({ cls := "FileVolume$Folder", name := "shortLengthOf", desc := "(I)I" } : Jvm.MethodName)) ∈ am_tw := am_mem 443 (by decide +kernel) (by decide +kernel)
theorem tw_444 : (Jvm.Cond.instanceMethod ({ cls := "FileVolume$Folder", name := "shortLengthOf", desc := "(I)I" } : Jvm.MethodName)) ∈ am_tw := am_mem 444 (by decide +kernel) (by decide +kernel)
theorem tw_445 : (Jvm.Cond.selects "FileVolume$Folder" ({ cls := "FileVolume$Folder", name := "shortLengthOf", desc := "(I)I" } : Jvm.MethodName) ({ cls := "FileVolume$Folder", name := "shortLengthOf", desc := "(I)I" } : Jvm.MethodName)) ∈ am_tw := am_mem 445 (by decide +kernel) (by decide +kernel)
theorem tw_446 : (Jvm.Cond.code ({ cls := "FileVolume$Folder", name := "shortLengthOf", desc := "(I)I" } : Jvm.MethodName) prog_3_method_20_code (4 : Nat) (Option.some Jvm.ClassFile.FieldType.int)) ∈ am_tw := am_mem 446 (by decide +kernel) (by decide +kernel)
theorem tw_448 : (Jvm.Cond.static ({ cls := "FileVolume", name := "capital", desc := "(I)I" } : Jvm.MethodName)) ∈ am_tw := am_mem 448 (by decide +kernel) (by decide +kernel)
theorem tw_449 : (Jvm.Cond.code ({ cls := "FileVolume", name := "capital", desc := "(I)I" } : Jvm.MethodName) prog_1_method_32_code (1 : Nat) (Option.some Jvm.ClassFile.FieldType.int)) ∈ am_tw := am_mem 449 (by decide +kernel) (by decide +kernel)
theorem tw_450 : (Jvm.Cond.methodLink "FileVolume$Folder" (92 : Nat) ({ cls := "FileVolume$Name", name := "charAt", desc := "(I)I" } : Jvm.MethodName)) ∈ am_tw := am_mem 450 (by decide +kernel) (by decide +kernel)
theorem tw_451 : (Jvm.Cond.methodLink "FileVolume$Folder" (74 : Nat) ({ cls := "FileVolume$Folder", name := "partsOf", desc := "(I)I" } : Jvm.MethodName)) ∈ am_tw := am_mem 451 (by decide +kernel) (by decide +kernel)
theorem tw_452 : (Jvm.Cond.instanceMethod ({ cls := "FileVolume$Folder", name := "partsOf", desc := "(I)I" } : Jvm.MethodName)) ∈ am_tw := am_mem 452 (by decide +kernel) (by decide +kernel)
theorem tw_453 : (Jvm.Cond.selects "FileVolume$Folder" ({ cls := "FileVolume$Folder", name := "partsOf", desc := "(I)I" } : Jvm.MethodName) ({ cls := "FileVolume$Folder", name := "partsOf", desc := "(I)I" } : Jvm.MethodName)) ∈ am_tw := am_mem 453 (by decide +kernel) (by decide +kernel)
theorem tw_454 : (Jvm.Cond.code ({ cls := "FileVolume$Folder", name := "partsOf", desc := "(I)I" } : Jvm.MethodName) prog_3_method_23_code (4 : Nat) (Option.some Jvm.ClassFile.FieldType.int)) ∈ am_tw := am_mem 454 (by decide +kernel) (by decide +kernel)
theorem tw_455 : (Jvm.Cond.methodLink "FileVolume$Folder" (108 : Nat) ({ cls := "FileVolume$Folder", name := "sumOf", desc := "(I)I" } : Jvm.MethodName)) ∈ am_tw := am_mem 455 (by decide +kernel) (by decide +kernel)
theorem tw_456 : (Jvm.Cond.instanceMethod ({ cls := "FileVolume$Folder", name := "sumOf", desc := "(I)I" } : Jvm.MethodName)) ∈ am_tw := am_mem 456 (by decide +kernel) (by decide +kernel)
theorem tw_457 : (Jvm.Cond.selects "FileVolume$Folder" ({ cls := "FileVolume$Folder", name := "sumOf", desc := "(I)I" } : Jvm.MethodName) ({ cls := "FileVolume$Folder", name := "sumOf", desc := "(I)I" } : Jvm.MethodName)) ∈ am_tw := am_mem 457 (by decide +kernel) (by decide +kernel)
theorem tw_458 : (Jvm.Cond.code ({ cls := "FileVolume$Folder", name := "sumOf", desc := "(I)I" } : Jvm.MethodName) prog_3_method_22_code (4 : Nat) (Option.some Jvm.ClassFile.FieldType.int)) ∈ am_tw := am_mem 458 (by decide +kernel) (by decide +kernel)
theorem tw_460 : (Jvm.Cond.static ({ cls := "FileVolume", name := "addToSum", desc := "(II)I" } : Jvm.MethodName)) ∈ am_tw := am_mem 460 (by decide +kernel) (by decide +kernel)
theorem tw_461 : (Jvm.Cond.code ({ cls := "FileVolume", name := "addToSum", desc := "(II)I" } : Jvm.MethodName) prog_1_method_33_code (2 : Nat) (Option.some Jvm.ClassFile.FieldType.int)) ∈ am_tw := am_mem 461 (by decide +kernel) (by decide +kernel)
theorem tw_462 : (Jvm.Cond.methodLink "FileVolume$Folder" (111 : Nat) ({ cls := "FileVolume$Folder", name := "isPart", desc := "(III)Z" } : Jvm.MethodName)) ∈ am_tw := am_mem 462 (by decide +kernel) (by decide +kernel)
theorem tw_463 : (Jvm.Cond.instanceMethod ({ cls := "FileVolume$Folder", name := "isPart", desc := "(III)Z" } : Jvm.MethodName)) ∈ am_tw := am_mem 463 (by decide +kernel) (by decide +kernel)
theorem tw_464 : (Jvm.Cond.selects "FileVolume$Folder" ({ cls := "FileVolume$Folder", name := "isPart", desc := "(III)Z" } : Jvm.MethodName) ({ cls := "FileVolume$Folder", name := "isPart", desc := "(III)Z" } : Jvm.MethodName)) ∈ am_tw := am_mem 464 (by decide +kernel) (by decide +kernel)
theorem tw_465 : (Jvm.Cond.code ({ cls := "FileVolume$Folder", name := "isPart", desc := "(III)Z" } : Jvm.MethodName) prog_3_method_24_code (4 : Nat) (Option.some Jvm.ClassFile.FieldType.boolean)) ∈ am_tw := am_mem 465 (by decide +kernel) (by decide +kernel)
theorem tw_466 : (Jvm.Cond.methodLink "FileVolume$Folder" (77 : Nat) ({ cls := "FileVolume$Folder", name := "isLongCalled", desc := "(ILFileVolume$Name;I)Z" } : Jvm.MethodName)) ∈ am_tw := am_mem 466 (by decide +kernel) (by decide +kernel)
theorem tw_467 : (Jvm.Cond.instanceMethod ({ cls := "FileVolume$Folder", name := "isLongCalled", desc := "(ILFileVolume$Name;I)Z" } : Jvm.MethodName)) ∈ am_tw := am_mem 467 (by decide +kernel) (by decide +kernel)
theorem tw_468 : (Jvm.Cond.selects "FileVolume$Folder" ({ cls := "FileVolume$Folder", name := "isLongCalled", desc := "(ILFileVolume$Name;I)Z" } : Jvm.MethodName) ({ cls := "FileVolume$Folder", name := "isLongCalled", desc := "(ILFileVolume$Name;I)Z" } : Jvm.MethodName)) ∈ am_tw := am_mem 468 (by decide +kernel) (by decide +kernel)
theorem tw_469 : (Jvm.Cond.code ({ cls := "FileVolume$Folder", name := "isLongCalled", desc := "(ILFileVolume$Name;I)Z" } : Jvm.MethodName) prog_3_method_17_code (5 : Nat) (Option.some Jvm.ClassFile.FieldType.boolean)) ∈ am_tw := am_mem 469 (by decide +kernel) (by decide +kernel)
theorem tw_470 : (Jvm.Cond.methodLink "FileVolume$Folder" (95 : Nat) ({ cls := "FileVolume$Folder", name := "longLengthOf", desc := "(II)I" } : Jvm.MethodName)) ∈ am_tw := am_mem 470 (by decide +kernel) (by decide +kernel)
theorem tw_471 : (Jvm.Cond.instanceMethod ({ cls := "FileVolume$Folder", name := "longLengthOf", desc := "(II)I" } : Jvm.MethodName)) ∈ am_tw := am_mem 471 (by decide +kernel) (by decide +kernel)
theorem tw_472 : (Jvm.Cond.selects "FileVolume$Folder" ({ cls := "FileVolume$Folder", name := "longLengthOf", desc := "(II)I" } : Jvm.MethodName) ({ cls := "FileVolume$Folder", name := "longLengthOf", desc := "(II)I" } : Jvm.MethodName)) ∈ am_tw := am_mem 472 (by decide +kernel) (by decide +kernel)
theorem tw_473 : (Jvm.Cond.code ({ cls := "FileVolume$Folder", name := "longLengthOf", desc := "(II)I" } : Jvm.MethodName) prog_3_method_27_code (4 : Nat) (Option.some Jvm.ClassFile.FieldType.int)) ∈ am_tw := am_mem 473 (by decide +kernel) (by decide +kernel)
theorem tw_474 : (Jvm.Cond.methodLink "FileVolume$Folder" (98 : Nat) ({ cls := "FileVolume$Folder", name := "longByteOf", desc := "(II)I" } : Jvm.MethodName)) ∈ am_tw := am_mem 474 (by decide +kernel) (by decide +kernel)
theorem tw_475 : (Jvm.Cond.instanceMethod ({ cls := "FileVolume$Folder", name := "longByteOf", desc := "(II)I" } : Jvm.MethodName)) ∈ am_tw := am_mem 475 (by decide +kernel) (by decide +kernel)
theorem tw_476 : (Jvm.Cond.selects "FileVolume$Folder" ({ cls := "FileVolume$Folder", name := "longByteOf", desc := "(II)I" } : Jvm.MethodName) ({ cls := "FileVolume$Folder", name := "longByteOf", desc := "(II)I" } : Jvm.MethodName)) ∈ am_tw := am_mem 476 (by decide +kernel) (by decide +kernel)
theorem tw_477 : (Jvm.Cond.code ({ cls := "FileVolume$Folder", name := "longByteOf", desc := "(II)I" } : Jvm.MethodName) prog_3_method_26_code (3 : Nat) (Option.some Jvm.ClassFile.FieldType.int)) ∈ am_tw := am_mem 477 (by decide +kernel) (by decide +kernel)
theorem tw_479 : (Jvm.Cond.static ({ cls := "FileVolume", name := "placeInPart", desc := "(I)I" } : Jvm.MethodName)) ∈ am_tw := am_mem 479 (by decide +kernel) (by decide +kernel)
theorem tw_480 : (Jvm.Cond.code ({ cls := "FileVolume", name := "placeInPart", desc := "(I)I" } : Jvm.MethodName) prog_1_method_34_code (1 : Nat) (Option.some Jvm.ClassFile.FieldType.int)) ∈ am_tw := am_mem 480 (by decide +kernel) (by decide +kernel)
theorem tw_505 : (Jvm.Cond.classLink "FileVolume" (106 : Nat) "java/lang/UnsupportedOperationException") ∈ am_tw := am_mem 505 (by decide +kernel) (by decide +kernel)
theorem tw_580 : (Jvm.Cond.methodLink "FileVolume" (166 : Nat) ({ cls := "FileVolume$Folder", name := "addressOf", desc := "(I)I" } : Jvm.MethodName)) ∈ am_tw := am_mem 580 (by decide +kernel) (by decide +kernel)
theorem tw_581 : (Jvm.Cond.instanceMethod ({ cls := "FileVolume$Folder", name := "addressOf", desc := "(I)I" } : Jvm.MethodName)) ∈ am_tw := am_mem 581 (by decide +kernel) (by decide +kernel)
theorem tw_582 : (Jvm.Cond.selects "FileVolume$Folder" ({ cls := "FileVolume$Folder", name := "addressOf", desc := "(I)I" } : Jvm.MethodName) ({ cls := "FileVolume$Folder", name := "addressOf", desc := "(I)I" } : Jvm.MethodName)) ∈ am_tw := am_mem 582 (by decide +kernel) (by decide +kernel)
theorem tw_583 : (Jvm.Cond.code ({ cls := "FileVolume$Folder", name := "addressOf", desc := "(I)I" } : Jvm.MethodName) prog_3_method_3_code (2 : Nat) (Option.some Jvm.ClassFile.FieldType.int)) ∈ am_tw := am_mem 583 (by decide +kernel) (by decide +kernel)
theorem tw_600 : (Jvm.Cond.classLink "FileVolume" (128 : Nat) "java/util/NoSuchElementException") ∈ am_tw := am_mem 600 (by decide +kernel) (by decide +kernel)
theorem tw_620 : (Jvm.Cond.methodLink "FileVolume" (238 : Nat) ({ cls := "FileVolume$Folder", name := "kindOf", desc := "(I)I" } : Jvm.MethodName)) ∈ am_tw := am_mem 620 (by decide +kernel) (by decide +kernel)
theorem tw_625 : (Jvm.Cond.methodLink "FileVolume" (142 : Nat) ({ cls := "FileVolume$Folder", name := "firstClusterOf", desc := "(I)I" } : Jvm.MethodName)) ∈ am_tw := am_mem 625 (by decide +kernel) (by decide +kernel)
theorem tw_626 : (Jvm.Cond.instanceMethod ({ cls := "FileVolume$Folder", name := "firstClusterOf", desc := "(I)I" } : Jvm.MethodName)) ∈ am_tw := am_mem 626 (by decide +kernel) (by decide +kernel)
theorem tw_627 : (Jvm.Cond.selects "FileVolume$Folder" ({ cls := "FileVolume$Folder", name := "firstClusterOf", desc := "(I)I" } : Jvm.MethodName) ({ cls := "FileVolume$Folder", name := "firstClusterOf", desc := "(I)I" } : Jvm.MethodName)) ∈ am_tw := am_mem 627 (by decide +kernel) (by decide +kernel)
theorem tw_628 : (Jvm.Cond.code ({ cls := "FileVolume$Folder", name := "firstClusterOf", desc := "(I)I" } : Jvm.MethodName) prog_3_method_8_code (2 : Nat) (Option.some Jvm.ClassFile.FieldType.int)) ∈ am_tw := am_mem 628 (by decide +kernel) (by decide +kernel)
theorem tw_629 : (Jvm.Cond.methodLink "FileVolume$Folder" (55 : Nat) ({ cls := "FileVolume$Folder", name := "pairOf", desc := "(II)I" } : Jvm.MethodName)) ∈ am_tw := am_mem 629 (by decide +kernel) (by decide +kernel)
theorem tw_630 : (Jvm.Cond.instanceMethod ({ cls := "FileVolume$Folder", name := "pairOf", desc := "(II)I" } : Jvm.MethodName)) ∈ am_tw := am_mem 630 (by decide +kernel) (by decide +kernel)
theorem tw_631 : (Jvm.Cond.selects "FileVolume$Folder" ({ cls := "FileVolume$Folder", name := "pairOf", desc := "(II)I" } : Jvm.MethodName) ({ cls := "FileVolume$Folder", name := "pairOf", desc := "(II)I" } : Jvm.MethodName)) ∈ am_tw := am_mem 631 (by decide +kernel) (by decide +kernel)
theorem tw_632 : (Jvm.Cond.code ({ cls := "FileVolume$Folder", name := "pairOf", desc := "(II)I" } : Jvm.MethodName) prog_3_method_5_code (3 : Nat) (Option.some Jvm.ClassFile.FieldType.int)) ∈ am_tw := am_mem 632 (by decide +kernel) (by decide +kernel)
theorem tw_633 : (Jvm.Cond.methodLink "FileVolume$Folder" (48 : Nat) ({ cls := "FileVolume$Disk", name := "pairAt", desc := "(I)I" } : Jvm.MethodName)) ∈ am_tw := am_mem 633 (by decide +kernel) (by decide +kernel)
theorem tw_660 : (Jvm.Cond.methodLink "FileVolume" (151 : Nat) ({ cls := "FileVolume$Session", name := "goToRoot", desc := "()V" } : Jvm.MethodName)) ∈ am_tw := am_mem 660 (by decide +kernel) (by decide +kernel)
theorem tw_661 : (Jvm.Cond.instanceMethod ({ cls := "FileVolume$Session", name := "goToRoot", desc := "()V" } : Jvm.MethodName)) ∈ am_tw := am_mem 661 (by decide +kernel) (by decide +kernel)
theorem tw_662 : (Jvm.Cond.selects "FileVolume$Session" ({ cls := "FileVolume$Session", name := "goToRoot", desc := "()V" } : Jvm.MethodName) ({ cls := "FileVolume$Session", name := "goToRoot", desc := "()V" } : Jvm.MethodName)) ∈ am_tw := am_mem 662 (by decide +kernel) (by decide +kernel)
theorem tw_663 : (Jvm.Cond.code ({ cls := "FileVolume$Session", name := "goToRoot", desc := "()V" } : Jvm.MethodName) prog_6_method_3_code (1 : Nat) (Option.none : Option Jvm.ClassFile.FieldType)) ∈ am_tw := am_mem 663 (by decide +kernel) (by decide +kernel)
theorem tw_665 : (Jvm.Cond.methodLink "FileVolume" (156 : Nat) ({ cls := "FileVolume$Session", name := "goDown", desc := "(I)V" } : Jvm.MethodName)) ∈ am_tw := am_mem 665 (by decide +kernel) (by decide +kernel)
theorem tw_666 : (Jvm.Cond.instanceMethod ({ cls := "FileVolume$Session", name := "goDown", desc := "(I)V" } : Jvm.MethodName)) ∈ am_tw := am_mem 666 (by decide +kernel) (by decide +kernel)
theorem tw_667 : (Jvm.Cond.selects "FileVolume$Session" ({ cls := "FileVolume$Session", name := "goDown", desc := "(I)V" } : Jvm.MethodName) ({ cls := "FileVolume$Session", name := "goDown", desc := "(I)V" } : Jvm.MethodName)) ∈ am_tw := am_mem 667 (by decide +kernel) (by decide +kernel)
theorem tw_668 : (Jvm.Cond.code ({ cls := "FileVolume$Session", name := "goDown", desc := "(I)V" } : Jvm.MethodName) prog_6_method_4_code (2 : Nat) (Option.none : Option Jvm.ClassFile.FieldType)) ∈ am_tw := am_mem 668 (by decide +kernel) (by decide +kernel)
theorem tw_677 : (Jvm.Cond.methodLink "FileVolume" (161 : Nat) ({ cls := "FileVolume$Session", name := "leastFreeHandle", desc := "()I" } : Jvm.MethodName)) ∈ am_tw := am_mem 677 (by decide +kernel) (by decide +kernel)
theorem tw_678 : (Jvm.Cond.instanceMethod ({ cls := "FileVolume$Session", name := "leastFreeHandle", desc := "()I" } : Jvm.MethodName)) ∈ am_tw := am_mem 678 (by decide +kernel) (by decide +kernel)
theorem tw_679 : (Jvm.Cond.selects "FileVolume$Session" ({ cls := "FileVolume$Session", name := "leastFreeHandle", desc := "()I" } : Jvm.MethodName) ({ cls := "FileVolume$Session", name := "leastFreeHandle", desc := "()I" } : Jvm.MethodName)) ∈ am_tw := am_mem 679 (by decide +kernel) (by decide +kernel)
theorem tw_680 : (Jvm.Cond.code ({ cls := "FileVolume$Session", name := "leastFreeHandle", desc := "()I" } : Jvm.MethodName) prog_6_method_7_code (2 : Nat) (Option.some Jvm.ClassFile.FieldType.int)) ∈ am_tw := am_mem 680 (by decide +kernel) (by decide +kernel)
theorem tw_682 : (Jvm.Cond.methodLink "FileVolume" (169 : Nat) ({ cls := "FileVolume$Session", name := "hold", desc := "(II)V" } : Jvm.MethodName)) ∈ am_tw := am_mem 682 (by decide +kernel) (by decide +kernel)
theorem tw_683 : (Jvm.Cond.instanceMethod ({ cls := "FileVolume$Session", name := "hold", desc := "(II)V" } : Jvm.MethodName)) ∈ am_tw := am_mem 683 (by decide +kernel) (by decide +kernel)
theorem tw_684 : (Jvm.Cond.selects "FileVolume$Session" ({ cls := "FileVolume$Session", name := "hold", desc := "(II)V" } : Jvm.MethodName) ({ cls := "FileVolume$Session", name := "hold", desc := "(II)V" } : Jvm.MethodName)) ∈ am_tw := am_mem 684 (by decide +kernel) (by decide +kernel)
theorem tw_685 : (Jvm.Cond.code ({ cls := "FileVolume$Session", name := "hold", desc := "(II)V" } : Jvm.MethodName) prog_6_method_9_code (3 : Nat) (Option.none : Option Jvm.ClassFile.FieldType)) ∈ am_tw := am_mem 685 (by decide +kernel) (by decide +kernel)
theorem tw_694 : (Jvm.Cond.methodLink "FileVolume" (196 : Nat) ({ cls := "java/lang/Math", name := "min", desc := "(II)I" } : Jvm.MethodName)) ∈ am_tw := am_mem 694 (by decide +kernel) (by decide +kernel)
theorem tw_695 : (Jvm.Cond.static ({ cls := "java/lang/Math", name := "min", desc := "(II)I" } : Jvm.MethodName)) ∈ am_tw := am_mem 695 (by decide +kernel) (by decide +kernel)
theorem tw_696 : (Jvm.Cond.code ({ cls := "java/lang/Math", name := "min", desc := "(II)I" } : Jvm.MethodName) prog_14_method_69_code (2 : Nat) (Option.some Jvm.ClassFile.FieldType.int)) ∈ am_tw := am_mem 696 (by decide +kernel) (by decide +kernel)
theorem tw_697 : (Jvm.Cond.methodLink "FileVolume" (202 : Nat) ({ cls := "FileVolume", name := "addressInChain", desc := "(II)I" } : Jvm.MethodName)) ∈ am_tw := am_mem 697 (by decide +kernel) (by decide +kernel)
theorem tw_699 : (Jvm.Cond.instanceMethod ({ cls := "FileVolume", name := "addressInChain", desc := "(II)I" } : Jvm.MethodName)) ∈ am_tw := am_mem 699 (by decide +kernel) (by decide +kernel)
theorem tw_700 : (Jvm.Cond.code ({ cls := "FileVolume", name := "addressInChain", desc := "(II)I" } : Jvm.MethodName) prog_1_method_23_code (4 : Nat) (Option.some Jvm.ClassFile.FieldType.int)) ∈ am_tw := am_mem 700 (by decide +kernel) (by decide +kernel)
theorem tw_701 : (Jvm.Cond.methodLink "FileVolume" (337 : Nat) ({ cls := "FileVolume$Table", name := "clusterAt", desc := "(II)I" } : Jvm.MethodName)) ∈ am_tw := am_mem 701 (by decide +kernel) (by decide +kernel)
theorem tw_702 : (Jvm.Cond.instanceMethod ({ cls := "FileVolume$Table", name := "clusterAt", desc := "(II)I" } : Jvm.MethodName)) ∈ am_tw := am_mem 702 (by decide +kernel) (by decide +kernel)
theorem tw_703 : (Jvm.Cond.selects "FileVolume$Table" ({ cls := "FileVolume$Table", name := "clusterAt", desc := "(II)I" } : Jvm.MethodName) ({ cls := "FileVolume$Table", name := "clusterAt", desc := "(II)I" } : Jvm.MethodName)) ∈ am_tw := am_mem 703 (by decide +kernel) (by decide +kernel)
theorem tw_704 : (Jvm.Cond.code ({ cls := "FileVolume$Table", name := "clusterAt", desc := "(II)I" } : Jvm.MethodName) prog_7_method_12_code (5 : Nat) (Option.some Jvm.ClassFile.FieldType.int)) ∈ am_tw := am_mem 704 (by decide +kernel) (by decide +kernel)
theorem tw_705 : (Jvm.Cond.methodLink "FileVolume" (340 : Nat) ({ cls := "FileVolume", name := "sectorOf", desc := "(I)I" } : Jvm.MethodName)) ∈ am_tw := am_mem 705 (by decide +kernel) (by decide +kernel)
theorem tw_740 : (Jvm.Cond.methodLink "FileVolume" (225 : Nat) ({ cls := "FileVolume$Folder", name := "indexOfNamed", desc := "(I)I" } : Jvm.MethodName)) ∈ am_tw := am_mem 740 (by decide +kernel) (by decide +kernel)
theorem tw_741 : (Jvm.Cond.instanceMethod ({ cls := "FileVolume$Folder", name := "indexOfNamed", desc := "(I)I" } : Jvm.MethodName)) ∈ am_tw := am_mem 741 (by decide +kernel) (by decide +kernel)
theorem tw_742 : (Jvm.Cond.selects "FileVolume$Folder" ({ cls := "FileVolume$Folder", name := "indexOfNamed", desc := "(I)I" } : Jvm.MethodName) ({ cls := "FileVolume$Folder", name := "indexOfNamed", desc := "(I)I" } : Jvm.MethodName)) ∈ am_tw := am_mem 742 (by decide +kernel) (by decide +kernel)
theorem tw_743 : (Jvm.Cond.code ({ cls := "FileVolume$Folder", name := "indexOfNamed", desc := "(I)I" } : Jvm.MethodName) prog_3_method_13_code (4 : Nat) (Option.some Jvm.ClassFile.FieldType.int)) ∈ am_tw := am_mem 743 (by decide +kernel) (by decide +kernel)
theorem tw_745 : (Jvm.Cond.methodLink "FileVolume" (230 : Nat) ({ cls := "FileVolume", name := "canBeListed", desc := "(I)Z" } : Jvm.MethodName)) ∈ am_tw := am_mem 745 (by decide +kernel) (by decide +kernel)
theorem tw_746 : (Jvm.Cond.static ({ cls := "FileVolume", name := "canBeListed", desc := "(I)Z" } : Jvm.MethodName)) ∈ am_tw := am_mem 746 (by decide +kernel) (by decide +kernel)
theorem tw_747 : (Jvm.Cond.code ({ cls := "FileVolume", name := "canBeListed", desc := "(I)Z" } : Jvm.MethodName) prog_1_method_27_code (1 : Nat) (Option.some Jvm.ClassFile.FieldType.boolean)) ∈ am_tw := am_mem 747 (by decide +kernel) (by decide +kernel)
theorem tw_748 : (Jvm.Cond.classLink "FileVolume" (233 : Nat) "java/lang/IndexOutOfBoundsException") ∈ am_tw := am_mem 748 (by decide +kernel) (by decide +kernel)
theorem tw_764 : (Jvm.Cond.methodLink "FileVolume" (241 : Nat) ({ cls := "FileVolume$Folder", name := "sizeOf", desc := "(I)I" } : Jvm.MethodName)) ∈ am_tw := am_mem 764 (by decide +kernel) (by decide +kernel)
theorem tw_765 : (Jvm.Cond.instanceMethod ({ cls := "FileVolume$Folder", name := "sizeOf", desc := "(I)I" } : Jvm.MethodName)) ∈ am_tw := am_mem 765 (by decide +kernel) (by decide +kernel)
theorem tw_766 : (Jvm.Cond.selects "FileVolume$Folder" ({ cls := "FileVolume$Folder", name := "sizeOf", desc := "(I)I" } : Jvm.MethodName) ({ cls := "FileVolume$Folder", name := "sizeOf", desc := "(I)I" } : Jvm.MethodName)) ∈ am_tw := am_mem 766 (by decide +kernel) (by decide +kernel)
theorem tw_767 : (Jvm.Cond.code ({ cls := "FileVolume$Folder", name := "sizeOf", desc := "(I)I" } : Jvm.MethodName) prog_3_method_9_code (2 : Nat) (Option.some Jvm.ClassFile.FieldType.int)) ∈ am_tw := am_mem 767 (by decide +kernel) (by decide +kernel)
theorem tw_768 : (Jvm.Cond.methodLink "FileVolume" (244 : Nat) ({ cls := "FileVolume$Folder", name := "partsOf", desc := "(I)I" } : Jvm.MethodName)) ∈ am_tw := am_mem 768 (by decide +kernel) (by decide +kernel)
theorem tw_769 : (Jvm.Cond.methodLink "FileVolume" (247 : Nat) ({ cls := "FileVolume$Folder", name := "longLengthOf", desc := "(II)I" } : Jvm.MethodName)) ∈ am_tw := am_mem 769 (by decide +kernel) (by decide +kernel)
theorem tw_770 : (Jvm.Cond.methodLink "FileVolume" (250 : Nat) ({ cls := "FileVolume$Folder", name := "shortCharOf", desc := "(II)I" } : Jvm.MethodName)) ∈ am_tw := am_mem 770 (by decide +kernel) (by decide +kernel)
theorem tw_771 : (Jvm.Cond.instanceMethod ({ cls := "FileVolume$Folder", name := "shortCharOf", desc := "(II)I" } : Jvm.MethodName)) ∈ am_tw := am_mem 771 (by decide +kernel) (by decide +kernel)
theorem tw_772 : (Jvm.Cond.selects "FileVolume$Folder" ({ cls := "FileVolume$Folder", name := "shortCharOf", desc := "(II)I" } : Jvm.MethodName) ({ cls := "FileVolume$Folder", name := "shortCharOf", desc := "(II)I" } : Jvm.MethodName)) ∈ am_tw := am_mem 772 (by decide +kernel) (by decide +kernel)
theorem tw_773 : (Jvm.Cond.code ({ cls := "FileVolume$Folder", name := "shortCharOf", desc := "(II)I" } : Jvm.MethodName) prog_3_method_21_code (3 : Nat) (Option.some Jvm.ClassFile.FieldType.int)) ∈ am_tw := am_mem 773 (by decide +kernel) (by decide +kernel)
theorem tw_774 : (Jvm.Cond.methodLink "FileVolume" (253 : Nat) ({ cls := "FileVolume$Folder", name := "longCharOf", desc := "(II)I" } : Jvm.MethodName)) ∈ am_tw := am_mem 774 (by decide +kernel) (by decide +kernel)
theorem tw_775 : (Jvm.Cond.instanceMethod ({ cls := "FileVolume$Folder", name := "longCharOf", desc := "(II)I" } : Jvm.MethodName)) ∈ am_tw := am_mem 775 (by decide +kernel) (by decide +kernel)
theorem tw_776 : (Jvm.Cond.selects "FileVolume$Folder" ({ cls := "FileVolume$Folder", name := "longCharOf", desc := "(II)I" } : Jvm.MethodName) ({ cls := "FileVolume$Folder", name := "longCharOf", desc := "(II)I" } : Jvm.MethodName)) ∈ am_tw := am_mem 776 (by decide +kernel) (by decide +kernel)
theorem tw_777 : (Jvm.Cond.code ({ cls := "FileVolume$Folder", name := "longCharOf", desc := "(II)I" } : Jvm.MethodName) prog_3_method_28_code (3 : Nat) (Option.some Jvm.ClassFile.FieldType.int)) ∈ am_tw := am_mem 777 (by decide +kernel) (by decide +kernel)
theorem nw_37 : (Jvm.Cond.fieldLinkNest "FileVolume$Name" (28 : Nat) "FileVolume$Session" "line" "[C" "FileVolume") ∈ am_nws := am_nmem 37 (by decide +kernel) (by decide +kernel)
theorem nw_40 : (Jvm.Cond.fieldLinkNest "FileVolume$Name" (19 : Nat) "FileVolume$Session" "lineLength" "I" "FileVolume") ∈ am_nws := am_nmem 40 (by decide +kernel) (by decide +kernel)
theorem nw_43 : (Jvm.Cond.fieldLinkNest "FileVolume" (305 : Nat) "FileVolume$Session" "lineLength" "I" "FileVolume") ∈ am_nws := am_nmem 43 (by decide +kernel) (by decide +kernel)
theorem nw_45 : (Jvm.Cond.fieldLinkNest "FileVolume" (87 : Nat) "FileVolume$Session" "here" "I" "FileVolume") ∈ am_nws := am_nmem 45 (by decide +kernel) (by decide +kernel)
theorem nw_72 : (Jvm.Cond.fieldLinkNest "FileVolume" (262 : Nat) "FileVolume$Disk" "powered" "Z" "FileVolume") ∈ am_nws := am_nmem 72 (by decide +kernel) (by decide +kernel)
theorem nw_73 : (Jvm.Cond.fieldLinkNest "FileVolume" (286 : Nat) "FileVolume$Disk" "suspect" "Z" "FileVolume") ∈ am_nws := am_nmem 73 (by decide +kernel) (by decide +kernel)
theorem nw_75 : (Jvm.Cond.fieldLinkNest "FileVolume" (299 : Nat) "FileVolume$Disk" "writes" "I" "FileVolume") ∈ am_nws := am_nmem 75 (by decide +kernel) (by decide +kernel)
theorem nw_160 : (Jvm.Cond.fieldLinkNest "FileVolume" (148 : Nat) "FileVolume$Name" "length" "I" "FileVolume") ∈ am_nws := am_nmem 160 (by decide +kernel) (by decide +kernel)
theorem nw_161 : (Jvm.Cond.fieldLinkNest "FileVolume$Folder" (84 : Nat) "FileVolume$Name" "length" "I" "FileVolume") ∈ am_nws := am_nmem 161 (by decide +kernel) (by decide +kernel)
theorem nw_411 : (Jvm.Cond.methodLinkNest "FileVolume$Folder" (27 : Nat) ({ cls := "FileVolume", name := "isCluster", desc := "(I)Z" } : Jvm.MethodName) "FileVolume") ∈ am_nws := am_nmem 411 (by decide +kernel) (by decide +kernel)
theorem nw_414 : (Jvm.Cond.methodLinkNest "FileVolume$Folder" (31 : Nat) ({ cls := "FileVolume", name := "sectorOf", desc := "(I)I" } : Jvm.MethodName) "FileVolume") ∈ am_nws := am_nmem 414 (by decide +kernel) (by decide +kernel)
theorem nw_447 : (Jvm.Cond.methodLinkNest "FileVolume$Folder" (89 : Nat) ({ cls := "FileVolume", name := "capital", desc := "(I)I" } : Jvm.MethodName) "FileVolume") ∈ am_nws := am_nmem 447 (by decide +kernel) (by decide +kernel)
theorem nw_459 : (Jvm.Cond.methodLinkNest "FileVolume$Folder" (105 : Nat) ({ cls := "FileVolume", name := "addToSum", desc := "(II)I" } : Jvm.MethodName) "FileVolume") ∈ am_nws := am_nmem 459 (by decide +kernel) (by decide +kernel)
theorem nw_478 : (Jvm.Cond.methodLinkNest "FileVolume$Folder" (115 : Nat) ({ cls := "FileVolume", name := "placeInPart", desc := "(I)I" } : Jvm.MethodName) "FileVolume") ∈ am_nws := am_nmem 478 (by decide +kernel) (by decide +kernel)
theorem nw_652 : (Jvm.Cond.methodLinkNest "FileVolume$Table" (47 : Nat) ({ cls := "FileVolume", name := "isCluster", desc := "(I)Z" } : Jvm.MethodName) "FileVolume") ∈ am_nws := am_nmem 652 (by decide +kernel) (by decide +kernel)
end
section
theorem at_c : ∀ w ∈ Bundle.throwableAtoms ++ (Bundle.throwableSAtoms ++ Bundle.chainSAtoms "java/lang/RuntimeException" ["java/lang/Exception"]), w ∈ am_tw ∨ w ∈ am_nws ∨ w ∈ am_hw := by decide +kernel
theorem at_of {own : String} {ic i1 : Nat} {b1 : ByteArray} {cls : String} (z1 : ∀ w ∈ Bundle.passSAtoms cls "java/lang/RuntimeException" i1 b1, w ∈ am_tw ∨ w ∈ am_nws ∨ w ∈ am_hw)
    (z2 : ∀ w ∈ [Cond.methodLink own ic (Bundle.initS cls), .instantiable cls 6, .selects cls Bundle.tFill0 Bundle.tFill0, .selects cls Bundle.tFill Bundle.tFill,
   .lays cls Bundle.tN "cause" "Ljava/lang/Throwable;", .lays cls Bundle.tN "stackTrace" Bundle.steD, .lays cls Bundle.tN "suppressedExceptions" Bundle.listD, .lays cls Bundle.tN "detailMessage" "Ljava/lang/String;", .lays cls Bundle.tN "backtrace" "Ljava/lang/Object;",
   .isRef (.static Bundle.tN "UNASSIGNED_STACK" Bundle.steD), .isRef (.static Bundle.tN "SUPPRESSED_SENTINEL" Bundle.listD), .fieldLink Bundle.tN 198 Bundle.tN "backtrace" "Ljava/lang/Object;", .lays Bundle.tN Bundle.tN "backtrace" "Ljava/lang/Object;"], w ∈ am_tw ∨ w ∈ am_nws ∨ w ∈ am_hw) :
    ∀ w ∈ am_atoms own ic i1 b1 cls "java/lang/RuntimeException" ["java/lang/Exception"], w ∈ am_tw ∨ w ∈ am_nws ∨ w ∈ am_hw := by
  intro w hw
  rcases List.mem_append.mp hw with z | hw
  · exact at_c w (List.mem_append_left _ z)
  · rcases List.mem_append.mp hw with z | hw
    · exact at_c w (List.mem_append_right _ (List.mem_append_left _ z))
    · rcases List.mem_append.mp hw with z | hw
      · exact z1 w z
      · rcases List.mem_append.mp hw with z | z
        · exact at_c w (List.mem_append_right _ (List.mem_append_right _ z))
        · exact z2 w z
theorem e_IllegalStateException_0 : decode prog_12_method_2_code 0 = .ok (.aload_n 0, 1) := by decide +kernel
theorem e_IllegalStateException_1 : decode prog_12_method_2_code 1 = .ok (.aload_n 1, 1) := by decide +kernel
theorem e_IllegalStateException_2 : decode prog_12_method_2_code 2 = .ok (.invokespecial 7, 3) := by decide +kernel
theorem e_IllegalStateException_5 : decode prog_12_method_2_code 5 = .ok (.return_, 1) := by decide +kernel
theorem at_V_270 : ∀ w ∈ am_atoms "FileVolume" 270 7 prog_12_method_2_code "java/lang/IllegalStateException" "java/lang/RuntimeException" ["java/lang/Exception"], w ∈ am_tw ∨ w ∈ am_nws ∨ w ∈ am_hw := at_of (by decide +kernel) (by decide +kernel)
theorem e_NoSuchElementException_0 : decode prog_19_method_4_code 0 = .ok (.aload_n 0, 1) := by decide +kernel
theorem e_NoSuchElementException_1 : decode prog_19_method_4_code 1 = .ok (.aload_n 1, 1) := by decide +kernel
theorem e_NoSuchElementException_2 : decode prog_19_method_4_code 2 = .ok (.invokespecial 13, 3) := by decide +kernel
theorem e_NoSuchElementException_5 : decode prog_19_method_4_code 5 = .ok (.return_, 1) := by decide +kernel
theorem at_V_132 : ∀ w ∈ am_atoms "FileVolume" 132 13 prog_19_method_4_code "java/util/NoSuchElementException" "java/lang/RuntimeException" ["java/lang/Exception"], w ∈ am_tw ∨ w ∈ am_nws ∨ w ∈ am_hw := at_of (by decide +kernel) (by decide +kernel)
theorem e_UnsupportedOperationException_0 : decode prog_18_method_2_code 0 = .ok (.aload_n 0, 1) := by decide +kernel
theorem e_UnsupportedOperationException_1 : decode prog_18_method_2_code 1 = .ok (.aload_n 1, 1) := by decide +kernel
theorem e_UnsupportedOperationException_2 : decode prog_18_method_2_code 2 = .ok (.invokespecial 7, 3) := by decide +kernel
theorem e_UnsupportedOperationException_5 : decode prog_18_method_2_code 5 = .ok (.return_, 1) := by decide +kernel
theorem at_V_110 : ∀ w ∈ am_atoms "FileVolume" 110 7 prog_18_method_2_code "java/lang/UnsupportedOperationException" "java/lang/RuntimeException" ["java/lang/Exception"], w ∈ am_tw ∨ w ∈ am_nws ∨ w ∈ am_hw := at_of (by decide +kernel) (by decide +kernel)
theorem e_IllegalArgumentException_0 : decode prog_11_method_2_code 0 = .ok (.aload_n 0, 1) := by decide +kernel
theorem e_IllegalArgumentException_1 : decode prog_11_method_2_code 1 = .ok (.aload_n 1, 1) := by decide +kernel
theorem e_IllegalArgumentException_2 : decode prog_11_method_2_code 2 = .ok (.invokespecial 7, 3) := by decide +kernel
theorem e_IllegalArgumentException_5 : decode prog_11_method_2_code 5 = .ok (.return_, 1) := by decide +kernel
theorem at_V_84 : ∀ w ∈ am_atoms "FileVolume" 84 7 prog_11_method_2_code "java/lang/IllegalArgumentException" "java/lang/RuntimeException" ["java/lang/Exception"], w ∈ am_tw ∨ w ∈ am_nws ∨ w ∈ am_hw := at_of (by decide +kernel) (by decide +kernel)
theorem e_IndexOutOfBoundsException_0 : decode prog_13_method_2_code 0 = .ok (.aload_n 0, 1) := by decide +kernel
theorem e_IndexOutOfBoundsException_1 : decode prog_13_method_2_code 1 = .ok (.aload_n 1, 1) := by decide +kernel
theorem e_IndexOutOfBoundsException_2 : decode prog_13_method_2_code 2 = .ok (.invokespecial 7, 3) := by decide +kernel
theorem e_IndexOutOfBoundsException_5 : decode prog_13_method_2_code 5 = .ok (.return_, 1) := by decide +kernel
theorem at_V_237 : ∀ w ∈ am_atoms "FileVolume" 237 7 prog_13_method_2_code "java/lang/IndexOutOfBoundsException" "java/lang/RuntimeException" ["java/lang/Exception"], w ∈ am_tw ∨ w ∈ am_nws ∨ w ∈ am_hw := at_of (by decide +kernel) (by decide +kernel)
end
section
theorem d_Ses_append_0 : decode prog_6_method_2_code 0 = .ok (.iload_n 1, 1) := by decide +kernel
theorem d_Ses_append_1 : decode prog_6_method_2_code 1 = .ok (.bipush 33, 2) := by decide +kernel
theorem d_Ses_append_3 : decode prog_6_method_2_code 3 = .ok (.if_icmp .lt 24, 3) := by decide +kernel
theorem d_Ses_append_6 : decode prog_6_method_2_code 6 = .ok (.iload_n 1, 1) := by decide +kernel
theorem d_Ses_append_7 : decode prog_6_method_2_code 7 = .ok (.bipush 126, 2) := by decide +kernel
theorem d_Ses_append_9 : decode prog_6_method_2_code 9 = .ok (.if_icmp .gt 18, 3) := by decide +kernel
theorem d_Ses_append_12 : decode prog_6_method_2_code 12 = .ok (.iload_n 1, 1) := by decide +kernel
theorem d_Ses_append_13 : decode prog_6_method_2_code 13 = .ok (.bipush 47, 2) := by decide +kernel
theorem d_Ses_append_15 : decode prog_6_method_2_code 15 = .ok (.if_icmp .eq 12, 3) := by decide +kernel
theorem d_Ses_append_18 : decode prog_6_method_2_code 18 = .ok (.aload_n 0, 1) := by decide +kernel
theorem d_Ses_append_19 : decode prog_6_method_2_code 19 = .ok (.getfield 25, 3) := by decide +kernel
theorem d_Ses_append_22 : decode prog_6_method_2_code 22 = .ok (.bipush 26, 2) := by decide +kernel
theorem d_Ses_append_24 : decode prog_6_method_2_code 24 = .ok (.if_icmp .lt 5, 3) := by decide +kernel
theorem d_Ses_append_27 : decode prog_6_method_2_code 27 = .ok (.iconst 0, 1) := by decide +kernel
theorem d_Ses_append_28 : decode prog_6_method_2_code 28 = .ok (.ireturn, 1) := by decide +kernel
theorem d_Ses_append_29 : decode prog_6_method_2_code 29 = .ok (.aload_n 0, 1) := by decide +kernel
theorem d_Ses_append_30 : decode prog_6_method_2_code 30 = .ok (.getfield 9, 3) := by decide +kernel
theorem d_Ses_append_33 : decode prog_6_method_2_code 33 = .ok (.aload_n 0, 1) := by decide +kernel
theorem d_Ses_append_34 : decode prog_6_method_2_code 34 = .ok (.getfield 25, 3) := by decide +kernel
theorem d_Ses_append_37 : decode prog_6_method_2_code 37 = .ok (.iload_n 1, 1) := by decide +kernel
theorem d_Ses_append_38 : decode prog_6_method_2_code 38 = .ok (.castore, 1) := by decide +kernel
theorem d_Ses_append_39 : decode prog_6_method_2_code 39 = .ok (.aload_n 0, 1) := by decide +kernel
theorem d_Ses_append_40 : decode prog_6_method_2_code 40 = .ok (.dup, 1) := by decide +kernel
theorem d_Ses_append_41 : decode prog_6_method_2_code 41 = .ok (.getfield 25, 3) := by decide +kernel
theorem d_Ses_append_44 : decode prog_6_method_2_code 44 = .ok (.iconst 1, 1) := by decide +kernel
theorem d_Ses_append_45 : decode prog_6_method_2_code 45 = .ok (.iadd, 1) := by decide +kernel
theorem d_Ses_append_46 : decode prog_6_method_2_code 46 = .ok (.putfield 25, 3) := by decide +kernel
theorem d_Ses_append_49 : decode prog_6_method_2_code 49 = .ok (.iconst 1, 1) := by decide +kernel
theorem d_Ses_append_50 : decode prog_6_method_2_code 50 = .ok (.ireturn, 1) := by decide +kernel
theorem d_V_type_0 : decode prog_1_method_2_code 0 = .ok (.aload_n 0, 1) := by decide +kernel
theorem d_V_type_1 : decode prog_1_method_2_code 1 = .ok (.getfield 12, 3) := by decide +kernel
theorem d_V_type_4 : decode prog_1_method_2_code 4 = .ok (.iload_n 1, 1) := by decide +kernel
theorem d_V_type_5 : decode prog_1_method_2_code 5 = .ok (.invokevirtual 66, 3) := by decide +kernel
theorem d_V_type_8 : decode prog_1_method_2_code 8 = .ok (.ireturn, 1) := by decide +kernel
theorem d_V_demandSoundDisk_0 : decode prog_1_method_18_code 0 = .ok (.aload_n 0, 1) := by decide +kernel
theorem d_V_demandSoundDisk_1 : decode prog_1_method_18_code 1 = .ok (.getfield 21, 3) := by decide +kernel
theorem d_V_demandSoundDisk_4 : decode prog_1_method_18_code 4 = .ok (.getfield 262, 3) := by decide +kernel
theorem d_V_demandSoundDisk_7 : decode prog_1_method_18_code 7 = .ok (.ifCond .eq 13, 3) := by decide +kernel
theorem d_V_demandSoundDisk_10 : decode prog_1_method_18_code 10 = .ok (.aload_n 0, 1) := by decide +kernel
theorem d_V_demandSoundDisk_11 : decode prog_1_method_18_code 11 = .ok (.getfield 21, 3) := by decide +kernel
theorem d_V_demandSoundDisk_14 : decode prog_1_method_18_code 14 = .ok (.getfield 286, 3) := by decide +kernel
theorem d_V_demandSoundDisk_17 : decode prog_1_method_18_code 17 = .ok (.ifCond .eq 14, 3) := by decide +kernel
theorem d_V_demandSoundDisk_20 : decode prog_1_method_18_code 20 = .ok (.new 266, 3) := by decide +kernel
theorem d_V_demandSoundDisk_23 : decode prog_1_method_18_code 23 = .ok (.dup, 1) := by decide +kernel
theorem d_V_demandSoundDisk_24 : decode prog_1_method_18_code 24 = .ok (.ldc_w 308, 3) := by decide +kernel
theorem d_V_demandSoundDisk_27 : decode prog_1_method_18_code 27 = .ok (.invokespecial 270, 3) := by decide +kernel
theorem d_V_demandSoundDisk_30 : decode prog_1_method_18_code 30 = .ok (.athrow, 1) := by decide +kernel
theorem d_V_demandSoundDisk_31 : decode prog_1_method_18_code 31 = .ok (.return_, 1) := by decide +kernel
theorem d_Name_takeLineOf_0 : decode prog_4_method_2_code 0 = .ok (.aload_n 0, 1) := by decide +kernel
theorem d_Name_takeLineOf_1 : decode prog_4_method_2_code 1 = .ok (.aload_n 1, 1) := by decide +kernel
theorem d_Name_takeLineOf_2 : decode prog_4_method_2_code 2 = .ok (.getfield 19, 3) := by decide +kernel
theorem d_Name_takeLineOf_5 : decode prog_4_method_2_code 5 = .ok (.putfield 25, 3) := by decide +kernel
theorem d_Name_takeLineOf_8 : decode prog_4_method_2_code 8 = .ok (.iconst 0, 1) := by decide +kernel
theorem d_Name_takeLineOf_9 : decode prog_4_method_2_code 9 = .ok (.istore_n 2, 1) := by decide +kernel
theorem d_Name_takeLineOf_10 : decode prog_4_method_2_code 10 = .ok (.iload_n 2, 1) := by decide +kernel
theorem d_Name_takeLineOf_11 : decode prog_4_method_2_code 11 = .ok (.bipush 26, 2) := by decide +kernel
theorem d_Name_takeLineOf_13 : decode prog_4_method_2_code 13 = .ok (.if_icmp .ge 21, 3) := by decide +kernel
theorem d_Name_takeLineOf_16 : decode prog_4_method_2_code 16 = .ok (.aload_n 0, 1) := by decide +kernel
theorem d_Name_takeLineOf_17 : decode prog_4_method_2_code 17 = .ok (.getfield 9, 3) := by decide +kernel
theorem d_Name_takeLineOf_20 : decode prog_4_method_2_code 20 = .ok (.iload_n 2, 1) := by decide +kernel
theorem d_Name_takeLineOf_21 : decode prog_4_method_2_code 21 = .ok (.aload_n 1, 1) := by decide +kernel
theorem d_Name_takeLineOf_22 : decode prog_4_method_2_code 22 = .ok (.getfield 28, 3) := by decide +kernel
theorem d_Name_takeLineOf_25 : decode prog_4_method_2_code 25 = .ok (.iload_n 2, 1) := by decide +kernel
theorem d_Name_takeLineOf_26 : decode prog_4_method_2_code 26 = .ok (.caload, 1) := by decide +kernel
theorem d_Name_takeLineOf_27 : decode prog_4_method_2_code 27 = .ok (.castore, 1) := by decide +kernel
theorem d_Name_takeLineOf_28 : decode prog_4_method_2_code 28 = .ok (.iinc 2 1, 3) := by decide +kernel
theorem d_Name_takeLineOf_31 : decode prog_4_method_2_code 31 = .ok (.goto (-21), 3) := by decide +kernel
theorem d_Name_takeLineOf_34 : decode prog_4_method_2_code 34 = .ok (.aload_n 1, 1) := by decide +kernel
theorem d_Name_takeLineOf_35 : decode prog_4_method_2_code 35 = .ok (.iconst 0, 1) := by decide +kernel
theorem d_Name_takeLineOf_36 : decode prog_4_method_2_code 36 = .ok (.putfield 19, 3) := by decide +kernel
theorem d_Name_takeLineOf_39 : decode prog_4_method_2_code 39 = .ok (.return_, 1) := by decide +kernel
theorem d_Ses_goToRoot_0 : decode prog_6_method_3_code 0 = .ok (.aload_n 0, 1) := by decide +kernel
theorem d_Ses_goToRoot_1 : decode prog_6_method_3_code 1 = .ok (.iconst 2, 1) := by decide +kernel
theorem d_Ses_goToRoot_2 : decode prog_6_method_3_code 2 = .ok (.putfield 29, 3) := by decide +kernel
theorem d_Ses_goToRoot_5 : decode prog_6_method_3_code 5 = .ok (.aload_n 0, 1) := by decide +kernel
theorem d_Ses_goToRoot_6 : decode prog_6_method_3_code 6 = .ok (.iconst 1, 1) := by decide +kernel
theorem d_Ses_goToRoot_7 : decode prog_6_method_3_code 7 = .ok (.putfield 32, 3) := by decide +kernel
theorem d_Ses_goToRoot_10 : decode prog_6_method_3_code 10 = .ok (.return_, 1) := by decide +kernel
theorem d_V_isCluster_0 : decode prog_1_method_29_code 0 = .ok (.iload_n 0, 1) := by decide +kernel
theorem d_V_isCluster_1 : decode prog_1_method_29_code 1 = .ok (.iconst 2, 1) := by decide +kernel
theorem d_V_isCluster_2 : decode prog_1_method_29_code 2 = .ok (.if_icmp .lt 13, 3) := by decide +kernel
theorem d_V_isCluster_5 : decode prog_1_method_29_code 5 = .ok (.iload_n 0, 1) := by decide +kernel
theorem d_V_isCluster_6 : decode prog_1_method_29_code 6 = .ok (.bipush 64, 2) := by decide +kernel
theorem d_V_isCluster_8 : decode prog_1_method_29_code 8 = .ok (.if_icmp .ge 7, 3) := by decide +kernel
theorem d_V_isCluster_11 : decode prog_1_method_29_code 11 = .ok (.iconst 1, 1) := by decide +kernel
theorem d_V_isCluster_12 : decode prog_1_method_29_code 12 = .ok (.goto 4, 3) := by decide +kernel
theorem d_V_isCluster_15 : decode prog_1_method_29_code 15 = .ok (.iconst 0, 1) := by decide +kernel
theorem d_V_isCluster_16 : decode prog_1_method_29_code 16 = .ok (.ireturn, 1) := by decide +kernel
theorem d_V_sectorOf_0 : decode prog_1_method_30_code 0 = .ok (.iload_n 0, 1) := by decide +kernel
theorem d_V_sectorOf_1 : decode prog_1_method_30_code 1 = .ok (.bipush 6, 2) := by decide +kernel
theorem d_V_sectorOf_3 : decode prog_1_method_30_code 3 = .ok (.iadd, 1) := by decide +kernel
theorem d_V_sectorOf_4 : decode prog_1_method_30_code 4 = .ok (.ireturn, 1) := by decide +kernel
theorem d_Disk_pairAt_0 : decode prog_2_method_3_code 0 = .ok (.iload_n 1, 1) := by decide +kernel
theorem d_Disk_pairAt_1 : decode prog_2_method_3_code 1 = .ok (.ifCond .lt 18, 3) := by decide +kernel
theorem d_Disk_pairAt_4 : decode prog_2_method_3_code 4 = .ok (.iload_n 1, 1) := by decide +kernel
theorem d_Disk_pairAt_5 : decode prog_2_method_3_code 5 = .ok (.aload_n 0, 1) := by decide +kernel
theorem d_Disk_pairAt_6 : decode prog_2_method_3_code 6 = .ok (.getfield 15, 3) := by decide +kernel
theorem d_Disk_pairAt_9 : decode prog_2_method_3_code 9 = .ok (.arraylength, 1) := by decide +kernel
theorem d_Disk_pairAt_10 : decode prog_2_method_3_code 10 = .ok (.iconst 1, 1) := by decide +kernel
theorem d_Disk_pairAt_11 : decode prog_2_method_3_code 11 = .ok (.isub, 1) := by decide +kernel
theorem d_Disk_pairAt_12 : decode prog_2_method_3_code 12 = .ok (.if_icmp .ge 7, 3) := by decide +kernel
theorem d_Disk_pairAt_15 : decode prog_2_method_3_code 15 = .ok (.iconst 1, 1) := by decide +kernel
theorem d_Disk_pairAt_16 : decode prog_2_method_3_code 16 = .ok (.goto 4, 3) := by decide +kernel
theorem d_Disk_pairAt_19 : decode prog_2_method_3_code 19 = .ok (.iconst 0, 1) := by decide +kernel
theorem d_Disk_pairAt_20 : decode prog_2_method_3_code 20 = .ok (.istore_n 2, 1) := by decide +kernel
theorem d_Disk_pairAt_21 : decode prog_2_method_3_code 21 = .ok (.iload_n 2, 1) := by decide +kernel
theorem d_Disk_pairAt_22 : decode prog_2_method_3_code 22 = .ok (.ifCond .eq 25, 3) := by decide +kernel
theorem d_Disk_pairAt_25 : decode prog_2_method_3_code 25 = .ok (.aload_n 0, 1) := by decide +kernel
theorem d_Disk_pairAt_26 : decode prog_2_method_3_code 26 = .ok (.getfield 15, 3) := by decide +kernel
theorem d_Disk_pairAt_29 : decode prog_2_method_3_code 29 = .ok (.iload_n 1, 1) := by decide +kernel
theorem d_Disk_pairAt_30 : decode prog_2_method_3_code 30 = .ok (.iaload, 1) := by decide +kernel
theorem d_Disk_pairAt_31 : decode prog_2_method_3_code 31 = .ok (.sipush 256, 3) := by decide +kernel
theorem d_Disk_pairAt_34 : decode prog_2_method_3_code 34 = .ok (.aload_n 0, 1) := by decide +kernel
theorem d_Disk_pairAt_35 : decode prog_2_method_3_code 35 = .ok (.getfield 15, 3) := by decide +kernel
theorem d_Disk_pairAt_38 : decode prog_2_method_3_code 38 = .ok (.iload_n 1, 1) := by decide +kernel
theorem d_Disk_pairAt_39 : decode prog_2_method_3_code 39 = .ok (.iconst 1, 1) := by decide +kernel
theorem d_Disk_pairAt_40 : decode prog_2_method_3_code 40 = .ok (.iadd, 1) := by decide +kernel
theorem d_Disk_pairAt_41 : decode prog_2_method_3_code 41 = .ok (.iaload, 1) := by decide +kernel
theorem d_Disk_pairAt_42 : decode prog_2_method_3_code 42 = .ok (.imul, 1) := by decide +kernel
theorem d_Disk_pairAt_43 : decode prog_2_method_3_code 43 = .ok (.iadd, 1) := by decide +kernel
theorem d_Disk_pairAt_44 : decode prog_2_method_3_code 44 = .ok (.goto 4, 3) := by decide +kernel
theorem d_Disk_pairAt_47 : decode prog_2_method_3_code 47 = .ok (.iconst 0, 1) := by decide +kernel
theorem d_Disk_pairAt_48 : decode prog_2_method_3_code 48 = .ok (.ireturn, 1) := by decide +kernel
theorem d_Table_cell_0 : decode prog_7_method_2_code 0 = .ok (.aload_n 0, 1) := by decide +kernel
theorem d_Table_cell_1 : decode prog_7_method_2_code 1 = .ok (.getfield 9, 3) := by decide +kernel
theorem d_Table_cell_4 : decode prog_7_method_2_code 4 = .ok (.iconst 2, 1) := by decide +kernel
theorem d_Table_cell_5 : decode prog_7_method_2_code 5 = .ok (.iload_n 1, 1) := by decide +kernel
theorem d_Table_cell_6 : decode prog_7_method_2_code 6 = .ok (.imul, 1) := by decide +kernel
theorem d_Table_cell_7 : decode prog_7_method_2_code 7 = .ok (.invokevirtual 15, 3) := by decide +kernel
theorem d_Table_cell_10 : decode prog_7_method_2_code 10 = .ok (.ireturn, 1) := by decide +kernel
theorem d_Folder_load_0 : decode prog_3_method_2_code 0 = .ok (.aload_n 0, 1) := by decide +kernel
theorem d_Folder_load_1 : decode prog_3_method_2_code 1 = .ok (.iconst 0, 1) := by decide +kernel
theorem d_Folder_load_2 : decode prog_3_method_2_code 2 = .ok (.putfield 23, 3) := by decide +kernel
theorem d_Folder_load_5 : decode prog_3_method_2_code 5 = .ok (.iload_n 1, 1) := by decide +kernel
theorem d_Folder_load_6 : decode prog_3_method_2_code 6 = .ok (.istore_n 2, 1) := by decide +kernel
theorem d_Folder_load_7 : decode prog_3_method_2_code 7 = .ok (.iconst 0, 1) := by decide +kernel
theorem d_Folder_load_8 : decode prog_3_method_2_code 8 = .ok (.istore_n 3, 1) := by decide +kernel
theorem d_Folder_load_9 : decode prog_3_method_2_code 9 = .ok (.iload_n 3, 1) := by decide +kernel
theorem d_Folder_load_10 : decode prog_3_method_2_code 10 = .ok (.bipush 64, 2) := by decide +kernel
theorem d_Folder_load_12 : decode prog_3_method_2_code 12 = .ok (.if_icmp .ge 74, 3) := by decide +kernel
theorem d_Folder_load_15 : decode prog_3_method_2_code 15 = .ok (.iload_n 2, 1) := by decide +kernel
theorem d_Folder_load_16 : decode prog_3_method_2_code 16 = .ok (.invokestatic 27, 3) := by decide +kernel
theorem d_Folder_load_19 : decode prog_3_method_2_code 19 = .ok (.ifCond .eq 67, 3) := by decide +kernel
theorem d_Folder_load_22 : decode prog_3_method_2_code 22 = .ok (.iload_n 2, 1) := by decide +kernel
theorem d_Folder_load_23 : decode prog_3_method_2_code 23 = .ok (.invokestatic 31, 3) := by decide +kernel
theorem d_Folder_load_26 : decode prog_3_method_2_code 26 = .ok (.bipush 32, 2) := by decide +kernel
theorem d_Folder_load_28 : decode prog_3_method_2_code 28 = .ok (.imul, 1) := by decide +kernel
theorem d_Folder_load_29 : decode prog_3_method_2_code 29 = .ok (.istore 4, 2) := by decide +kernel
theorem d_Folder_load_31 : decode prog_3_method_2_code 31 = .ok (.aload_n 0, 1) := by decide +kernel
theorem d_Folder_load_32 : decode prog_3_method_2_code 32 = .ok (.getfield 19, 3) := by decide +kernel
theorem d_Folder_load_35 : decode prog_3_method_2_code 35 = .ok (.iconst 2, 1) := by decide +kernel
theorem d_Folder_load_36 : decode prog_3_method_2_code 36 = .ok (.iload_n 3, 1) := by decide +kernel
theorem d_Folder_load_37 : decode prog_3_method_2_code 37 = .ok (.imul, 1) := by decide +kernel
theorem d_Folder_load_38 : decode prog_3_method_2_code 38 = .ok (.iload 4, 2) := by decide +kernel
theorem d_Folder_load_40 : decode prog_3_method_2_code 40 = .ok (.iastore, 1) := by decide +kernel
theorem d_Folder_load_41 : decode prog_3_method_2_code 41 = .ok (.aload_n 0, 1) := by decide +kernel
theorem d_Folder_load_42 : decode prog_3_method_2_code 42 = .ok (.getfield 19, 3) := by decide +kernel
theorem d_Folder_load_45 : decode prog_3_method_2_code 45 = .ok (.iconst 2, 1) := by decide +kernel
theorem d_Folder_load_46 : decode prog_3_method_2_code 46 = .ok (.iload_n 3, 1) := by decide +kernel
theorem d_Folder_load_47 : decode prog_3_method_2_code 47 = .ok (.imul, 1) := by decide +kernel
theorem d_Folder_load_48 : decode prog_3_method_2_code 48 = .ok (.iconst 1, 1) := by decide +kernel
theorem d_Folder_load_49 : decode prog_3_method_2_code 49 = .ok (.iadd, 1) := by decide +kernel
theorem d_Folder_load_50 : decode prog_3_method_2_code 50 = .ok (.iload 4, 2) := by decide +kernel
theorem d_Folder_load_52 : decode prog_3_method_2_code 52 = .ok (.bipush 16, 2) := by decide +kernel
theorem d_Folder_load_54 : decode prog_3_method_2_code 54 = .ok (.iadd, 1) := by decide +kernel
theorem d_Folder_load_55 : decode prog_3_method_2_code 55 = .ok (.iastore, 1) := by decide +kernel
theorem d_Folder_load_56 : decode prog_3_method_2_code 56 = .ok (.aload_n 0, 1) := by decide +kernel
theorem d_Folder_load_57 : decode prog_3_method_2_code 57 = .ok (.dup, 1) := by decide +kernel
theorem d_Folder_load_58 : decode prog_3_method_2_code 58 = .ok (.getfield 23, 3) := by decide +kernel
theorem d_Folder_load_61 : decode prog_3_method_2_code 61 = .ok (.iconst 2, 1) := by decide +kernel
theorem d_Folder_load_62 : decode prog_3_method_2_code 62 = .ok (.iadd, 1) := by decide +kernel
theorem d_Folder_load_63 : decode prog_3_method_2_code 63 = .ok (.putfield 23, 3) := by decide +kernel
theorem d_Folder_load_66 : decode prog_3_method_2_code 66 = .ok (.aload_n 0, 1) := by decide +kernel
theorem d_Folder_load_67 : decode prog_3_method_2_code 67 = .ok (.iload_n 2, 1) := by decide +kernel
theorem d_Folder_load_68 : decode prog_3_method_2_code 68 = .ok (.putfield 35, 3) := by decide +kernel
theorem d_Folder_load_71 : decode prog_3_method_2_code 71 = .ok (.aload_n 0, 1) := by decide +kernel
theorem d_Folder_load_72 : decode prog_3_method_2_code 72 = .ok (.getfield 15, 3) := by decide +kernel
theorem d_Folder_load_75 : decode prog_3_method_2_code 75 = .ok (.iload_n 2, 1) := by decide +kernel
theorem d_Folder_load_76 : decode prog_3_method_2_code 76 = .ok (.invokevirtual 38, 3) := by decide +kernel
theorem d_Folder_load_79 : decode prog_3_method_2_code 79 = .ok (.istore_n 2, 1) := by decide +kernel
theorem d_Folder_load_80 : decode prog_3_method_2_code 80 = .ok (.iinc 3 1, 3) := by decide +kernel
theorem d_Folder_load_83 : decode prog_3_method_2_code 83 = .ok (.goto (-74), 3) := by decide +kernel
theorem d_Folder_load_86 : decode prog_3_method_2_code 86 = .ok (.return_, 1) := by decide +kernel
theorem d_Disk_at_0 : decode prog_2_method_2_code 0 = .ok (.iload_n 1, 1) := by decide +kernel
theorem d_Disk_at_1 : decode prog_2_method_2_code 1 = .ok (.ifCond .lt 21, 3) := by decide +kernel
theorem d_Disk_at_4 : decode prog_2_method_2_code 4 = .ok (.iload_n 1, 1) := by decide +kernel
theorem d_Disk_at_5 : decode prog_2_method_2_code 5 = .ok (.aload_n 0, 1) := by decide +kernel
theorem d_Disk_at_6 : decode prog_2_method_2_code 6 = .ok (.getfield 15, 3) := by decide +kernel
theorem d_Disk_at_9 : decode prog_2_method_2_code 9 = .ok (.arraylength, 1) := by decide +kernel
theorem d_Disk_at_10 : decode prog_2_method_2_code 10 = .ok (.if_icmp .ge 12, 3) := by decide +kernel
theorem d_Disk_at_13 : decode prog_2_method_2_code 13 = .ok (.aload_n 0, 1) := by decide +kernel
theorem d_Disk_at_14 : decode prog_2_method_2_code 14 = .ok (.getfield 15, 3) := by decide +kernel
theorem d_Disk_at_17 : decode prog_2_method_2_code 17 = .ok (.iload_n 1, 1) := by decide +kernel
theorem d_Disk_at_18 : decode prog_2_method_2_code 18 = .ok (.iaload, 1) := by decide +kernel
theorem d_Disk_at_19 : decode prog_2_method_2_code 19 = .ok (.goto 4, 3) := by decide +kernel
theorem d_Disk_at_22 : decode prog_2_method_2_code 22 = .ok (.iconst 0, 1) := by decide +kernel
theorem d_Disk_at_23 : decode prog_2_method_2_code 23 = .ok (.ireturn, 1) := by decide +kernel
theorem d_Folder_byteOf_0 : decode prog_3_method_4_code 0 = .ok (.iload_n 1, 1) := by decide +kernel
theorem d_Folder_byteOf_1 : decode prog_3_method_4_code 1 = .ok (.ifCond .lt 29, 3) := by decide +kernel
theorem d_Folder_byteOf_4 : decode prog_3_method_4_code 4 = .ok (.iload_n 1, 1) := by decide +kernel
theorem d_Folder_byteOf_5 : decode prog_3_method_4_code 5 = .ok (.aload_n 0, 1) := by decide +kernel
theorem d_Folder_byteOf_6 : decode prog_3_method_4_code 6 = .ok (.getfield 23, 3) := by decide +kernel
theorem d_Folder_byteOf_9 : decode prog_3_method_4_code 9 = .ok (.if_icmp .ge 21, 3) := by decide +kernel
theorem d_Folder_byteOf_12 : decode prog_3_method_4_code 12 = .ok (.aload_n 0, 1) := by decide +kernel
theorem d_Folder_byteOf_13 : decode prog_3_method_4_code 13 = .ok (.getfield 9, 3) := by decide +kernel
theorem d_Folder_byteOf_16 : decode prog_3_method_4_code 16 = .ok (.aload_n 0, 1) := by decide +kernel
theorem d_Folder_byteOf_17 : decode prog_3_method_4_code 17 = .ok (.getfield 19, 3) := by decide +kernel
theorem d_Folder_byteOf_20 : decode prog_3_method_4_code 20 = .ok (.iload_n 1, 1) := by decide +kernel
theorem d_Folder_byteOf_21 : decode prog_3_method_4_code 21 = .ok (.iaload, 1) := by decide +kernel
theorem d_Folder_byteOf_22 : decode prog_3_method_4_code 22 = .ok (.iload_n 2, 1) := by decide +kernel
theorem d_Folder_byteOf_23 : decode prog_3_method_4_code 23 = .ok (.iadd, 1) := by decide +kernel
theorem d_Folder_byteOf_24 : decode prog_3_method_4_code 24 = .ok (.invokevirtual 43, 3) := by decide +kernel
theorem d_Folder_byteOf_27 : decode prog_3_method_4_code 27 = .ok (.goto 4, 3) := by decide +kernel
theorem d_Folder_byteOf_30 : decode prog_3_method_4_code 30 = .ok (.iconst 0, 1) := by decide +kernel
theorem d_Folder_byteOf_31 : decode prog_3_method_4_code 31 = .ok (.ireturn, 1) := by decide +kernel
theorem d_Folder_kindOf_0 : decode prog_3_method_7_code 0 = .ok (.aload_n 0, 1) := by decide +kernel
theorem d_Folder_kindOf_1 : decode prog_3_method_7_code 1 = .ok (.iload_n 1, 1) := by decide +kernel
theorem d_Folder_kindOf_2 : decode prog_3_method_7_code 2 = .ok (.bipush 6, 2) := by decide +kernel
theorem d_Folder_kindOf_4 : decode prog_3_method_7_code 4 = .ok (.invokevirtual 51, 3) := by decide +kernel
theorem d_Folder_kindOf_7 : decode prog_3_method_7_code 7 = .ok (.ireturn, 1) := by decide +kernel
theorem d_Folder_isNamed_0 : decode prog_3_method_10_code 0 = .ok (.aload_n 0, 1) := by decide +kernel
theorem d_Folder_isNamed_1 : decode prog_3_method_10_code 1 = .ok (.iload_n 1, 1) := by decide +kernel
theorem d_Folder_isNamed_2 : decode prog_3_method_10_code 2 = .ok (.iconst 0, 1) := by decide +kernel
theorem d_Folder_isNamed_3 : decode prog_3_method_10_code 3 = .ok (.invokevirtual 51, 3) := by decide +kernel
theorem d_Folder_isNamed_6 : decode prog_3_method_10_code 6 = .ok (.istore_n 2, 1) := by decide +kernel
theorem d_Folder_isNamed_7 : decode prog_3_method_10_code 7 = .ok (.aload_n 0, 1) := by decide +kernel
theorem d_Folder_isNamed_8 : decode prog_3_method_10_code 8 = .ok (.iload_n 1, 1) := by decide +kernel
theorem d_Folder_isNamed_9 : decode prog_3_method_10_code 9 = .ok (.bipush 6, 2) := by decide +kernel
theorem d_Folder_isNamed_11 : decode prog_3_method_10_code 11 = .ok (.invokevirtual 51, 3) := by decide +kernel
theorem d_Folder_isNamed_14 : decode prog_3_method_10_code 14 = .ok (.istore_n 3, 1) := by decide +kernel
theorem d_Folder_isNamed_15 : decode prog_3_method_10_code 15 = .ok (.iload_n 2, 1) := by decide +kernel
theorem d_Folder_isNamed_16 : decode prog_3_method_10_code 16 = .ok (.ifCond .eq 24, 3) := by decide +kernel
theorem d_Folder_isNamed_19 : decode prog_3_method_10_code 19 = .ok (.iload_n 2, 1) := by decide +kernel
theorem d_Folder_isNamed_20 : decode prog_3_method_10_code 20 = .ok (.sipush 229, 3) := by decide +kernel
theorem d_Folder_isNamed_23 : decode prog_3_method_10_code 23 = .ok (.if_icmp .eq 17, 3) := by decide +kernel
theorem d_Folder_isNamed_26 : decode prog_3_method_10_code 26 = .ok (.iload_n 3, 1) := by decide +kernel
theorem d_Folder_isNamed_27 : decode prog_3_method_10_code 27 = .ok (.iconst 1, 1) := by decide +kernel
theorem d_Folder_isNamed_28 : decode prog_3_method_10_code 28 = .ok (.if_icmp .eq 8, 3) := by decide +kernel
theorem d_Folder_isNamed_31 : decode prog_3_method_10_code 31 = .ok (.iload_n 3, 1) := by decide +kernel
theorem d_Folder_isNamed_32 : decode prog_3_method_10_code 32 = .ok (.iconst 2, 1) := by decide +kernel
theorem d_Folder_isNamed_33 : decode prog_3_method_10_code 33 = .ok (.if_icmp .ne 7, 3) := by decide +kernel
theorem d_Folder_isNamed_36 : decode prog_3_method_10_code 36 = .ok (.iconst 1, 1) := by decide +kernel
theorem d_Folder_isNamed_37 : decode prog_3_method_10_code 37 = .ok (.goto 4, 3) := by decide +kernel
theorem d_Folder_isNamed_40 : decode prog_3_method_10_code 40 = .ok (.iconst 0, 1) := by decide +kernel
theorem d_Folder_isNamed_41 : decode prog_3_method_10_code 41 = .ok (.ireturn, 1) := by decide +kernel
theorem d_Folder_shortLengthOf_0 : decode prog_3_method_20_code 0 = .ok (.iconst 0, 1) := by decide +kernel
theorem d_Folder_shortLengthOf_1 : decode prog_3_method_20_code 1 = .ok (.istore_n 2, 1) := by decide +kernel
theorem d_Folder_shortLengthOf_2 : decode prog_3_method_20_code 2 = .ok (.iload_n 2, 1) := by decide +kernel
theorem d_Folder_shortLengthOf_3 : decode prog_3_method_20_code 3 = .ok (.bipush 6, 2) := by decide +kernel
theorem d_Folder_shortLengthOf_5 : decode prog_3_method_20_code 5 = .ok (.if_icmp .ge 28, 3) := by decide +kernel
theorem d_Folder_shortLengthOf_8 : decode prog_3_method_20_code 8 = .ok (.aload_n 0, 1) := by decide +kernel
theorem d_Folder_shortLengthOf_9 : decode prog_3_method_20_code 9 = .ok (.iload_n 1, 1) := by decide +kernel
theorem d_Folder_shortLengthOf_10 : decode prog_3_method_20_code 10 = .ok (.iload_n 2, 1) := by decide +kernel
theorem d_Folder_shortLengthOf_11 : decode prog_3_method_20_code 11 = .ok (.invokevirtual 51, 3) := by decide +kernel
theorem d_Folder_shortLengthOf_14 : decode prog_3_method_20_code 14 = .ok (.istore_n 3, 1) := by decide +kernel
theorem d_Folder_shortLengthOf_15 : decode prog_3_method_20_code 15 = .ok (.iload_n 3, 1) := by decide +kernel
theorem d_Folder_shortLengthOf_16 : decode prog_3_method_20_code 16 = .ok (.bipush 32, 2) := by decide +kernel
theorem d_Folder_shortLengthOf_18 : decode prog_3_method_20_code 18 = .ok (.if_icmp .eq 7, 3) := by decide +kernel
theorem d_Folder_shortLengthOf_21 : decode prog_3_method_20_code 21 = .ok (.iload_n 3, 1) := by decide +kernel
theorem d_Folder_shortLengthOf_22 : decode prog_3_method_20_code 22 = .ok (.ifCond .ne 5, 3) := by decide +kernel
theorem d_Folder_shortLengthOf_25 : decode prog_3_method_20_code 25 = .ok (.iload_n 2, 1) := by decide +kernel
theorem d_Folder_shortLengthOf_26 : decode prog_3_method_20_code 26 = .ok (.ireturn, 1) := by decide +kernel
theorem d_Folder_shortLengthOf_27 : decode prog_3_method_20_code 27 = .ok (.iinc 2 1, 3) := by decide +kernel
theorem d_Folder_shortLengthOf_30 : decode prog_3_method_20_code 30 = .ok (.goto (-28), 3) := by decide +kernel
theorem d_Folder_shortLengthOf_33 : decode prog_3_method_20_code 33 = .ok (.bipush 6, 2) := by decide +kernel
theorem d_Folder_shortLengthOf_35 : decode prog_3_method_20_code 35 = .ok (.ireturn, 1) := by decide +kernel
theorem d_V_capital_0 : decode prog_1_method_32_code 0 = .ok (.iload_n 0, 1) := by decide +kernel
theorem d_V_capital_1 : decode prog_1_method_32_code 1 = .ok (.bipush 97, 2) := by decide +kernel
theorem d_V_capital_3 : decode prog_1_method_32_code 3 = .ok (.if_icmp .lt 19, 3) := by decide +kernel
theorem d_V_capital_6 : decode prog_1_method_32_code 6 = .ok (.iload_n 0, 1) := by decide +kernel
theorem d_V_capital_7 : decode prog_1_method_32_code 7 = .ok (.bipush 122, 2) := by decide +kernel
theorem d_V_capital_9 : decode prog_1_method_32_code 9 = .ok (.if_icmp .gt 13, 3) := by decide +kernel
theorem d_V_capital_12 : decode prog_1_method_32_code 12 = .ok (.iload_n 0, 1) := by decide +kernel
theorem d_V_capital_13 : decode prog_1_method_32_code 13 = .ok (.bipush 97, 2) := by decide +kernel
theorem d_V_capital_15 : decode prog_1_method_32_code 15 = .ok (.isub, 1) := by decide +kernel
theorem d_V_capital_16 : decode prog_1_method_32_code 16 = .ok (.bipush 65, 2) := by decide +kernel
theorem d_V_capital_18 : decode prog_1_method_32_code 18 = .ok (.iadd, 1) := by decide +kernel
theorem d_V_capital_19 : decode prog_1_method_32_code 19 = .ok (.goto 4, 3) := by decide +kernel
theorem d_V_capital_22 : decode prog_1_method_32_code 22 = .ok (.iload_n 0, 1) := by decide +kernel
theorem d_V_capital_23 : decode prog_1_method_32_code 23 = .ok (.ireturn, 1) := by decide +kernel
theorem d_Name_charAt_0 : decode prog_4_method_3_code 0 = .ok (.iload_n 1, 1) := by decide +kernel
theorem d_Name_charAt_1 : decode prog_4_method_3_code 1 = .ok (.ifCond .lt 29, 3) := by decide +kernel
theorem d_Name_charAt_4 : decode prog_4_method_3_code 4 = .ok (.iload_n 1, 1) := by decide +kernel
theorem d_Name_charAt_5 : decode prog_4_method_3_code 5 = .ok (.aload_n 0, 1) := by decide +kernel
theorem d_Name_charAt_6 : decode prog_4_method_3_code 6 = .ok (.getfield 25, 3) := by decide +kernel
theorem d_Name_charAt_9 : decode prog_4_method_3_code 9 = .ok (.if_icmp .ge 21, 3) := by decide +kernel
theorem d_Name_charAt_12 : decode prog_4_method_3_code 12 = .ok (.iload_n 1, 1) := by decide +kernel
theorem d_Name_charAt_13 : decode prog_4_method_3_code 13 = .ok (.aload_n 0, 1) := by decide +kernel
theorem d_Name_charAt_14 : decode prog_4_method_3_code 14 = .ok (.getfield 9, 3) := by decide +kernel
theorem d_Name_charAt_17 : decode prog_4_method_3_code 17 = .ok (.arraylength, 1) := by decide +kernel
theorem d_Name_charAt_18 : decode prog_4_method_3_code 18 = .ok (.if_icmp .ge 12, 3) := by decide +kernel
theorem d_Name_charAt_21 : decode prog_4_method_3_code 21 = .ok (.aload_n 0, 1) := by decide +kernel
theorem d_Name_charAt_22 : decode prog_4_method_3_code 22 = .ok (.getfield 9, 3) := by decide +kernel
theorem d_Name_charAt_25 : decode prog_4_method_3_code 25 = .ok (.iload_n 1, 1) := by decide +kernel
theorem d_Name_charAt_26 : decode prog_4_method_3_code 26 = .ok (.caload, 1) := by decide +kernel
theorem d_Name_charAt_27 : decode prog_4_method_3_code 27 = .ok (.goto 4, 3) := by decide +kernel
theorem d_Name_charAt_30 : decode prog_4_method_3_code 30 = .ok (.iconst 0, 1) := by decide +kernel
theorem d_Name_charAt_31 : decode prog_4_method_3_code 31 = .ok (.ireturn, 1) := by decide +kernel
theorem d_Folder_isShortCalled_0 : decode prog_3_method_16_code 0 = .ok (.aload_n 0, 1) := by decide +kernel
theorem d_Folder_isShortCalled_1 : decode prog_3_method_16_code 1 = .ok (.iload_n 1, 1) := by decide +kernel
theorem d_Folder_isShortCalled_2 : decode prog_3_method_16_code 2 = .ok (.invokevirtual 81, 3) := by decide +kernel
theorem d_Folder_isShortCalled_5 : decode prog_3_method_16_code 5 = .ok (.aload_n 2, 1) := by decide +kernel
theorem d_Folder_isShortCalled_6 : decode prog_3_method_16_code 6 = .ok (.getfield 84, 3) := by decide +kernel
theorem d_Folder_isShortCalled_9 : decode prog_3_method_16_code 9 = .ok (.if_icmp .eq 5, 3) := by decide +kernel
theorem d_Folder_isShortCalled_12 : decode prog_3_method_16_code 12 = .ok (.iconst 0, 1) := by decide +kernel
theorem d_Folder_isShortCalled_13 : decode prog_3_method_16_code 13 = .ok (.ireturn, 1) := by decide +kernel
theorem d_Folder_isShortCalled_14 : decode prog_3_method_16_code 14 = .ok (.iconst 0, 1) := by decide +kernel
theorem d_Folder_isShortCalled_15 : decode prog_3_method_16_code 15 = .ok (.istore_n 3, 1) := by decide +kernel
theorem d_Folder_isShortCalled_16 : decode prog_3_method_16_code 16 = .ok (.iload_n 3, 1) := by decide +kernel
theorem d_Folder_isShortCalled_17 : decode prog_3_method_16_code 17 = .ok (.aload_n 2, 1) := by decide +kernel
theorem d_Folder_isShortCalled_18 : decode prog_3_method_16_code 18 = .ok (.getfield 84, 3) := by decide +kernel
theorem d_Folder_isShortCalled_21 : decode prog_3_method_16_code 21 = .ok (.if_icmp .ge 31, 3) := by decide +kernel
theorem d_Folder_isShortCalled_24 : decode prog_3_method_16_code 24 = .ok (.aload_n 0, 1) := by decide +kernel
theorem d_Folder_isShortCalled_25 : decode prog_3_method_16_code 25 = .ok (.iload_n 1, 1) := by decide +kernel
theorem d_Folder_isShortCalled_26 : decode prog_3_method_16_code 26 = .ok (.iload_n 3, 1) := by decide +kernel
theorem d_Folder_isShortCalled_27 : decode prog_3_method_16_code 27 = .ok (.invokevirtual 51, 3) := by decide +kernel
theorem d_Folder_isShortCalled_30 : decode prog_3_method_16_code 30 = .ok (.invokestatic 89, 3) := by decide +kernel
theorem d_Folder_isShortCalled_33 : decode prog_3_method_16_code 33 = .ok (.aload_n 2, 1) := by decide +kernel
theorem d_Folder_isShortCalled_34 : decode prog_3_method_16_code 34 = .ok (.iload_n 3, 1) := by decide +kernel
theorem d_Folder_isShortCalled_35 : decode prog_3_method_16_code 35 = .ok (.invokevirtual 92, 3) := by decide +kernel
theorem d_Folder_isShortCalled_38 : decode prog_3_method_16_code 38 = .ok (.invokestatic 89, 3) := by decide +kernel
theorem d_Folder_isShortCalled_41 : decode prog_3_method_16_code 41 = .ok (.if_icmp .eq 5, 3) := by decide +kernel
theorem d_Folder_isShortCalled_44 : decode prog_3_method_16_code 44 = .ok (.iconst 0, 1) := by decide +kernel
theorem d_Folder_isShortCalled_45 : decode prog_3_method_16_code 45 = .ok (.ireturn, 1) := by decide +kernel
theorem d_Folder_isShortCalled_46 : decode prog_3_method_16_code 46 = .ok (.iinc 3 1, 3) := by decide +kernel
theorem d_Folder_isShortCalled_49 : decode prog_3_method_16_code 49 = .ok (.goto (-33), 3) := by decide +kernel
theorem d_Folder_isShortCalled_52 : decode prog_3_method_16_code 52 = .ok (.iconst 1, 1) := by decide +kernel
theorem d_Folder_isShortCalled_53 : decode prog_3_method_16_code 53 = .ok (.ireturn, 1) := by decide +kernel
theorem d_V_addToSum_0 : decode prog_1_method_33_code 0 = .ok (.iload_n 0, 1) := by decide +kernel
theorem d_V_addToSum_1 : decode prog_1_method_33_code 1 = .ok (.iconst 2, 1) := by decide +kernel
theorem d_V_addToSum_2 : decode prog_1_method_33_code 2 = .ok (.imul, 1) := by decide +kernel
theorem d_V_addToSum_3 : decode prog_1_method_33_code 3 = .ok (.iload_n 0, 1) := by decide +kernel
theorem d_V_addToSum_4 : decode prog_1_method_33_code 4 = .ok (.sipush 128, 3) := by decide +kernel
theorem d_V_addToSum_7 : decode prog_1_method_33_code 7 = .ok (.idiv, 1) := by decide +kernel
theorem d_V_addToSum_8 : decode prog_1_method_33_code 8 = .ok (.iadd, 1) := by decide +kernel
theorem d_V_addToSum_9 : decode prog_1_method_33_code 9 = .ok (.iload_n 1, 1) := by decide +kernel
theorem d_V_addToSum_10 : decode prog_1_method_33_code 10 = .ok (.iadd, 1) := by decide +kernel
theorem d_V_addToSum_11 : decode prog_1_method_33_code 11 = .ok (.sipush 255, 3) := by decide +kernel
theorem d_V_addToSum_14 : decode prog_1_method_33_code 14 = .ok (.iand, 1) := by decide +kernel
theorem d_V_addToSum_15 : decode prog_1_method_33_code 15 = .ok (.ireturn, 1) := by decide +kernel
theorem d_Folder_sumOf_0 : decode prog_3_method_22_code 0 = .ok (.iconst 0, 1) := by decide +kernel
theorem d_Folder_sumOf_1 : decode prog_3_method_22_code 1 = .ok (.istore_n 2, 1) := by decide +kernel
theorem d_Folder_sumOf_2 : decode prog_3_method_22_code 2 = .ok (.iconst 0, 1) := by decide +kernel
theorem d_Folder_sumOf_3 : decode prog_3_method_22_code 3 = .ok (.istore_n 3, 1) := by decide +kernel
theorem d_Folder_sumOf_4 : decode prog_3_method_22_code 4 = .ok (.iload_n 3, 1) := by decide +kernel
theorem d_Folder_sumOf_5 : decode prog_3_method_22_code 5 = .ok (.bipush 6, 2) := by decide +kernel
theorem d_Folder_sumOf_7 : decode prog_3_method_22_code 7 = .ok (.if_icmp .ge 20, 3) := by decide +kernel
theorem d_Folder_sumOf_10 : decode prog_3_method_22_code 10 = .ok (.iload_n 2, 1) := by decide +kernel
theorem d_Folder_sumOf_11 : decode prog_3_method_22_code 11 = .ok (.aload_n 0, 1) := by decide +kernel
theorem d_Folder_sumOf_12 : decode prog_3_method_22_code 12 = .ok (.iload_n 1, 1) := by decide +kernel
theorem d_Folder_sumOf_13 : decode prog_3_method_22_code 13 = .ok (.iload_n 3, 1) := by decide +kernel
theorem d_Folder_sumOf_14 : decode prog_3_method_22_code 14 = .ok (.invokevirtual 51, 3) := by decide +kernel
theorem d_Folder_sumOf_17 : decode prog_3_method_22_code 17 = .ok (.invokestatic 105, 3) := by decide +kernel
theorem d_Folder_sumOf_20 : decode prog_3_method_22_code 20 = .ok (.istore_n 2, 1) := by decide +kernel
theorem d_Folder_sumOf_21 : decode prog_3_method_22_code 21 = .ok (.iinc 3 1, 3) := by decide +kernel
theorem d_Folder_sumOf_24 : decode prog_3_method_22_code 24 = .ok (.goto (-20), 3) := by decide +kernel
theorem d_Folder_sumOf_27 : decode prog_3_method_22_code 27 = .ok (.iload_n 2, 1) := by decide +kernel
theorem d_Folder_sumOf_28 : decode prog_3_method_22_code 28 = .ok (.ireturn, 1) := by decide +kernel
theorem d_Folder_isPart_0 : decode prog_3_method_24_code 0 = .ok (.aload_n 0, 1) := by decide +kernel
theorem d_Folder_isPart_1 : decode prog_3_method_24_code 1 = .ok (.iload_n 1, 1) := by decide +kernel
theorem d_Folder_isPart_2 : decode prog_3_method_24_code 2 = .ok (.iconst 0, 1) := by decide +kernel
theorem d_Folder_isPart_3 : decode prog_3_method_24_code 3 = .ok (.invokevirtual 51, 3) := by decide +kernel
theorem d_Folder_isPart_6 : decode prog_3_method_24_code 6 = .ok (.iload_n 2, 1) := by decide +kernel
theorem d_Folder_isPart_7 : decode prog_3_method_24_code 7 = .ok (.if_icmp .ne 30, 3) := by decide +kernel
theorem d_Folder_isPart_10 : decode prog_3_method_24_code 10 = .ok (.aload_n 0, 1) := by decide +kernel
theorem d_Folder_isPart_11 : decode prog_3_method_24_code 11 = .ok (.iload_n 1, 1) := by decide +kernel
theorem d_Folder_isPart_12 : decode prog_3_method_24_code 12 = .ok (.bipush 6, 2) := by decide +kernel
theorem d_Folder_isPart_14 : decode prog_3_method_24_code 14 = .ok (.invokevirtual 51, 3) := by decide +kernel
theorem d_Folder_isPart_17 : decode prog_3_method_24_code 17 = .ok (.bipush 15, 2) := by decide +kernel
theorem d_Folder_isPart_19 : decode prog_3_method_24_code 19 = .ok (.if_icmp .ne 18, 3) := by decide +kernel
theorem d_Folder_isPart_22 : decode prog_3_method_24_code 22 = .ok (.aload_n 0, 1) := by decide +kernel
theorem d_Folder_isPart_23 : decode prog_3_method_24_code 23 = .ok (.iload_n 1, 1) := by decide +kernel
theorem d_Folder_isPart_24 : decode prog_3_method_24_code 24 = .ok (.bipush 7, 2) := by decide +kernel
theorem d_Folder_isPart_26 : decode prog_3_method_24_code 26 = .ok (.invokevirtual 51, 3) := by decide +kernel
theorem d_Folder_isPart_29 : decode prog_3_method_24_code 29 = .ok (.iload_n 3, 1) := by decide +kernel
theorem d_Folder_isPart_30 : decode prog_3_method_24_code 30 = .ok (.if_icmp .ne 7, 3) := by decide +kernel
theorem d_Folder_isPart_33 : decode prog_3_method_24_code 33 = .ok (.iconst 1, 1) := by decide +kernel
theorem d_Folder_isPart_34 : decode prog_3_method_24_code 34 = .ok (.goto 4, 3) := by decide +kernel
theorem d_Folder_isPart_37 : decode prog_3_method_24_code 37 = .ok (.iconst 0, 1) := by decide +kernel
theorem d_Folder_isPart_38 : decode prog_3_method_24_code 38 = .ok (.ireturn, 1) := by decide +kernel
theorem d_Folder_partsOf_0 : decode prog_3_method_23_code 0 = .ok (.aload_n 0, 1) := by decide +kernel
theorem d_Folder_partsOf_1 : decode prog_3_method_23_code 1 = .ok (.iload_n 1, 1) := by decide +kernel
theorem d_Folder_partsOf_2 : decode prog_3_method_23_code 2 = .ok (.invokevirtual 61, 3) := by decide +kernel
theorem d_Folder_partsOf_5 : decode prog_3_method_23_code 5 = .ok (.ifCond .ne 5, 3) := by decide +kernel
theorem d_Folder_partsOf_8 : decode prog_3_method_23_code 8 = .ok (.iconst 0, 1) := by decide +kernel
theorem d_Folder_partsOf_9 : decode prog_3_method_23_code 9 = .ok (.ireturn, 1) := by decide +kernel
theorem d_Folder_partsOf_10 : decode prog_3_method_23_code 10 = .ok (.aload_n 0, 1) := by decide +kernel
theorem d_Folder_partsOf_11 : decode prog_3_method_23_code 11 = .ok (.iload_n 1, 1) := by decide +kernel
theorem d_Folder_partsOf_12 : decode prog_3_method_23_code 12 = .ok (.invokevirtual 108, 3) := by decide +kernel
theorem d_Folder_partsOf_15 : decode prog_3_method_23_code 15 = .ok (.istore_n 2, 1) := by decide +kernel
theorem d_Folder_partsOf_16 : decode prog_3_method_23_code 16 = .ok (.aload_n 0, 1) := by decide +kernel
theorem d_Folder_partsOf_17 : decode prog_3_method_23_code 17 = .ok (.iload_n 1, 1) := by decide +kernel
theorem d_Folder_partsOf_18 : decode prog_3_method_23_code 18 = .ok (.iconst 1, 1) := by decide +kernel
theorem d_Folder_partsOf_19 : decode prog_3_method_23_code 19 = .ok (.isub, 1) := by decide +kernel
theorem d_Folder_partsOf_20 : decode prog_3_method_23_code 20 = .ok (.bipush 65, 2) := by decide +kernel
theorem d_Folder_partsOf_22 : decode prog_3_method_23_code 22 = .ok (.iload_n 2, 1) := by decide +kernel
theorem d_Folder_partsOf_23 : decode prog_3_method_23_code 23 = .ok (.invokevirtual 111, 3) := by decide +kernel
theorem d_Folder_partsOf_26 : decode prog_3_method_23_code 26 = .ok (.ifCond .eq 5, 3) := by decide +kernel
theorem d_Folder_partsOf_29 : decode prog_3_method_23_code 29 = .ok (.iconst 1, 1) := by decide +kernel
theorem d_Folder_partsOf_30 : decode prog_3_method_23_code 30 = .ok (.ireturn, 1) := by decide +kernel
theorem d_Folder_partsOf_31 : decode prog_3_method_23_code 31 = .ok (.aload_n 0, 1) := by decide +kernel
theorem d_Folder_partsOf_32 : decode prog_3_method_23_code 32 = .ok (.iload_n 1, 1) := by decide +kernel
theorem d_Folder_partsOf_33 : decode prog_3_method_23_code 33 = .ok (.iconst 1, 1) := by decide +kernel
theorem d_Folder_partsOf_34 : decode prog_3_method_23_code 34 = .ok (.isub, 1) := by decide +kernel
theorem d_Folder_partsOf_35 : decode prog_3_method_23_code 35 = .ok (.iconst 1, 1) := by decide +kernel
theorem d_Folder_partsOf_36 : decode prog_3_method_23_code 36 = .ok (.iload_n 2, 1) := by decide +kernel
theorem d_Folder_partsOf_37 : decode prog_3_method_23_code 37 = .ok (.invokevirtual 111, 3) := by decide +kernel
theorem d_Folder_partsOf_40 : decode prog_3_method_23_code 40 = .ok (.ifCond .eq 20, 3) := by decide +kernel
theorem d_Folder_partsOf_43 : decode prog_3_method_23_code 43 = .ok (.aload_n 0, 1) := by decide +kernel
theorem d_Folder_partsOf_44 : decode prog_3_method_23_code 44 = .ok (.iload_n 1, 1) := by decide +kernel
theorem d_Folder_partsOf_45 : decode prog_3_method_23_code 45 = .ok (.iconst 2, 1) := by decide +kernel
theorem d_Folder_partsOf_46 : decode prog_3_method_23_code 46 = .ok (.isub, 1) := by decide +kernel
theorem d_Folder_partsOf_47 : decode prog_3_method_23_code 47 = .ok (.bipush 66, 2) := by decide +kernel
theorem d_Folder_partsOf_49 : decode prog_3_method_23_code 49 = .ok (.iload_n 2, 1) := by decide +kernel
theorem d_Folder_partsOf_50 : decode prog_3_method_23_code 50 = .ok (.invokevirtual 111, 3) := by decide +kernel
theorem d_Folder_partsOf_53 : decode prog_3_method_23_code 53 = .ok (.ifCond .eq 7, 3) := by decide +kernel
theorem d_Folder_partsOf_56 : decode prog_3_method_23_code 56 = .ok (.iconst 1, 1) := by decide +kernel
theorem d_Folder_partsOf_57 : decode prog_3_method_23_code 57 = .ok (.goto 4, 3) := by decide +kernel
theorem d_Folder_partsOf_60 : decode prog_3_method_23_code 60 = .ok (.iconst 0, 1) := by decide +kernel
theorem d_Folder_partsOf_61 : decode prog_3_method_23_code 61 = .ok (.istore_n 3, 1) := by decide +kernel
theorem d_Folder_partsOf_62 : decode prog_3_method_23_code 62 = .ok (.iload_n 3, 1) := by decide +kernel
theorem d_Folder_partsOf_63 : decode prog_3_method_23_code 63 = .ok (.ifCond .eq 7, 3) := by decide +kernel
theorem d_Folder_partsOf_66 : decode prog_3_method_23_code 66 = .ok (.iconst 2, 1) := by decide +kernel
theorem d_Folder_partsOf_67 : decode prog_3_method_23_code 67 = .ok (.goto 4, 3) := by decide +kernel
theorem d_Folder_partsOf_70 : decode prog_3_method_23_code 70 = .ok (.iconst 0, 1) := by decide +kernel
theorem d_Folder_partsOf_71 : decode prog_3_method_23_code 71 = .ok (.ireturn, 1) := by decide +kernel
theorem d_V_placeInPart_0 : decode prog_1_method_34_code 0 = .ok (.iload_n 0, 1) := by decide +kernel
theorem d_V_placeInPart_1 : decode prog_1_method_34_code 1 = .ok (.iconst 5, 1) := by decide +kernel
theorem d_V_placeInPart_2 : decode prog_1_method_34_code 2 = .ok (.if_icmp .ge 9, 3) := by decide +kernel
theorem d_V_placeInPart_5 : decode prog_1_method_34_code 5 = .ok (.iload_n 0, 1) := by decide +kernel
theorem d_V_placeInPart_6 : decode prog_1_method_34_code 6 = .ok (.iconst 1, 1) := by decide +kernel
theorem d_V_placeInPart_7 : decode prog_1_method_34_code 7 = .ok (.iadd, 1) := by decide +kernel
theorem d_V_placeInPart_8 : decode prog_1_method_34_code 8 = .ok (.goto 6, 3) := by decide +kernel
theorem d_V_placeInPart_11 : decode prog_1_method_34_code 11 = .ok (.iload_n 0, 1) := by decide +kernel
theorem d_V_placeInPart_12 : decode prog_1_method_34_code 12 = .ok (.iconst 3, 1) := by decide +kernel
theorem d_V_placeInPart_13 : decode prog_1_method_34_code 13 = .ok (.iadd, 1) := by decide +kernel
theorem d_V_placeInPart_14 : decode prog_1_method_34_code 14 = .ok (.ireturn, 1) := by decide +kernel
theorem d_Folder_longByteOf_0 : decode prog_3_method_26_code 0 = .ok (.aload_n 0, 1) := by decide +kernel
theorem d_Folder_longByteOf_1 : decode prog_3_method_26_code 1 = .ok (.iload_n 1, 1) := by decide +kernel
theorem d_Folder_longByteOf_2 : decode prog_3_method_26_code 2 = .ok (.iconst 1, 1) := by decide +kernel
theorem d_Folder_longByteOf_3 : decode prog_3_method_26_code 3 = .ok (.isub, 1) := by decide +kernel
theorem d_Folder_longByteOf_4 : decode prog_3_method_26_code 4 = .ok (.iload_n 2, 1) := by decide +kernel
theorem d_Folder_longByteOf_5 : decode prog_3_method_26_code 5 = .ok (.bipush 13, 2) := by decide +kernel
theorem d_Folder_longByteOf_7 : decode prog_3_method_26_code 7 = .ok (.idiv, 1) := by decide +kernel
theorem d_Folder_longByteOf_8 : decode prog_3_method_26_code 8 = .ok (.isub, 1) := by decide +kernel
theorem d_Folder_longByteOf_9 : decode prog_3_method_26_code 9 = .ok (.iload_n 2, 1) := by decide +kernel
theorem d_Folder_longByteOf_10 : decode prog_3_method_26_code 10 = .ok (.bipush 13, 2) := by decide +kernel
theorem d_Folder_longByteOf_12 : decode prog_3_method_26_code 12 = .ok (.irem, 1) := by decide +kernel
theorem d_Folder_longByteOf_13 : decode prog_3_method_26_code 13 = .ok (.invokestatic 115, 3) := by decide +kernel
theorem d_Folder_longByteOf_16 : decode prog_3_method_26_code 16 = .ok (.invokevirtual 51, 3) := by decide +kernel
theorem d_Folder_longByteOf_19 : decode prog_3_method_26_code 19 = .ok (.ireturn, 1) := by decide +kernel
theorem d_Folder_longLengthOf_0 : decode prog_3_method_27_code 0 = .ok (.iconst 0, 1) := by decide +kernel
theorem d_Folder_longLengthOf_1 : decode prog_3_method_27_code 1 = .ok (.istore_n 3, 1) := by decide +kernel
theorem d_Folder_longLengthOf_2 : decode prog_3_method_27_code 2 = .ok (.iload_n 3, 1) := by decide +kernel
theorem d_Folder_longLengthOf_3 : decode prog_3_method_27_code 3 = .ok (.iload_n 2, 1) := by decide +kernel
theorem d_Folder_longLengthOf_4 : decode prog_3_method_27_code 4 = .ok (.bipush 13, 2) := by decide +kernel
theorem d_Folder_longLengthOf_6 : decode prog_3_method_27_code 6 = .ok (.imul, 1) := by decide +kernel
theorem d_Folder_longLengthOf_7 : decode prog_3_method_27_code 7 = .ok (.if_icmp .ge 20, 3) := by decide +kernel
theorem d_Folder_longLengthOf_10 : decode prog_3_method_27_code 10 = .ok (.aload_n 0, 1) := by decide +kernel
theorem d_Folder_longLengthOf_11 : decode prog_3_method_27_code 11 = .ok (.iload_n 1, 1) := by decide +kernel
theorem d_Folder_longLengthOf_12 : decode prog_3_method_27_code 12 = .ok (.iload_n 3, 1) := by decide +kernel
theorem d_Folder_longLengthOf_13 : decode prog_3_method_27_code 13 = .ok (.invokevirtual 98, 3) := by decide +kernel
theorem d_Folder_longLengthOf_16 : decode prog_3_method_27_code 16 = .ok (.ifCond .ne 5, 3) := by decide +kernel
theorem d_Folder_longLengthOf_19 : decode prog_3_method_27_code 19 = .ok (.iload_n 3, 1) := by decide +kernel
theorem d_Folder_longLengthOf_20 : decode prog_3_method_27_code 20 = .ok (.ireturn, 1) := by decide +kernel
theorem d_Folder_longLengthOf_21 : decode prog_3_method_27_code 21 = .ok (.iinc 3 1, 3) := by decide +kernel
theorem d_Folder_longLengthOf_24 : decode prog_3_method_27_code 24 = .ok (.goto (-22), 3) := by decide +kernel
theorem d_Folder_longLengthOf_27 : decode prog_3_method_27_code 27 = .ok (.iload_n 2, 1) := by decide +kernel
theorem d_Folder_longLengthOf_28 : decode prog_3_method_27_code 28 = .ok (.bipush 13, 2) := by decide +kernel
theorem d_Folder_longLengthOf_30 : decode prog_3_method_27_code 30 = .ok (.imul, 1) := by decide +kernel
theorem d_Folder_longLengthOf_31 : decode prog_3_method_27_code 31 = .ok (.ireturn, 1) := by decide +kernel
theorem d_Folder_isLongCalled_0 : decode prog_3_method_17_code 0 = .ok (.iload_n 3, 1) := by decide +kernel
theorem d_Folder_isLongCalled_1 : decode prog_3_method_17_code 1 = .ok (.ifCond .eq 16, 3) := by decide +kernel
theorem d_Folder_isLongCalled_4 : decode prog_3_method_17_code 4 = .ok (.aload_n 0, 1) := by decide +kernel
theorem d_Folder_isLongCalled_5 : decode prog_3_method_17_code 5 = .ok (.iload_n 1, 1) := by decide +kernel
theorem d_Folder_isLongCalled_6 : decode prog_3_method_17_code 6 = .ok (.iload_n 3, 1) := by decide +kernel
theorem d_Folder_isLongCalled_7 : decode prog_3_method_17_code 7 = .ok (.invokevirtual 95, 3) := by decide +kernel
theorem d_Folder_isLongCalled_10 : decode prog_3_method_17_code 10 = .ok (.aload_n 2, 1) := by decide +kernel
theorem d_Folder_isLongCalled_11 : decode prog_3_method_17_code 11 = .ok (.getfield 84, 3) := by decide +kernel
theorem d_Folder_isLongCalled_14 : decode prog_3_method_17_code 14 = .ok (.if_icmp .eq 5, 3) := by decide +kernel
theorem d_Folder_isLongCalled_17 : decode prog_3_method_17_code 17 = .ok (.iconst 0, 1) := by decide +kernel
theorem d_Folder_isLongCalled_18 : decode prog_3_method_17_code 18 = .ok (.ireturn, 1) := by decide +kernel
theorem d_Folder_isLongCalled_19 : decode prog_3_method_17_code 19 = .ok (.iconst 0, 1) := by decide +kernel
theorem d_Folder_isLongCalled_20 : decode prog_3_method_17_code 20 = .ok (.istore 4, 2) := by decide +kernel
theorem d_Folder_isLongCalled_22 : decode prog_3_method_17_code 22 = .ok (.iload 4, 2) := by decide +kernel
theorem d_Folder_isLongCalled_24 : decode prog_3_method_17_code 24 = .ok (.aload_n 2, 1) := by decide +kernel
theorem d_Folder_isLongCalled_25 : decode prog_3_method_17_code 25 = .ok (.getfield 84, 3) := by decide +kernel
theorem d_Folder_isLongCalled_28 : decode prog_3_method_17_code 28 = .ok (.if_icmp .ge 33, 3) := by decide +kernel
theorem d_Folder_isLongCalled_31 : decode prog_3_method_17_code 31 = .ok (.aload_n 0, 1) := by decide +kernel
theorem d_Folder_isLongCalled_32 : decode prog_3_method_17_code 32 = .ok (.iload_n 1, 1) := by decide +kernel
theorem d_Folder_isLongCalled_33 : decode prog_3_method_17_code 33 = .ok (.iload 4, 2) := by decide +kernel
theorem d_Folder_isLongCalled_35 : decode prog_3_method_17_code 35 = .ok (.invokevirtual 98, 3) := by decide +kernel
theorem d_Folder_isLongCalled_38 : decode prog_3_method_17_code 38 = .ok (.invokestatic 89, 3) := by decide +kernel
theorem d_Folder_isLongCalled_41 : decode prog_3_method_17_code 41 = .ok (.aload_n 2, 1) := by decide +kernel
theorem d_Folder_isLongCalled_42 : decode prog_3_method_17_code 42 = .ok (.iload 4, 2) := by decide +kernel
theorem d_Folder_isLongCalled_44 : decode prog_3_method_17_code 44 = .ok (.invokevirtual 92, 3) := by decide +kernel
theorem d_Folder_isLongCalled_47 : decode prog_3_method_17_code 47 = .ok (.invokestatic 89, 3) := by decide +kernel
theorem d_Folder_isLongCalled_50 : decode prog_3_method_17_code 50 = .ok (.if_icmp .eq 5, 3) := by decide +kernel
theorem d_Folder_isLongCalled_53 : decode prog_3_method_17_code 53 = .ok (.iconst 0, 1) := by decide +kernel
theorem d_Folder_isLongCalled_54 : decode prog_3_method_17_code 54 = .ok (.ireturn, 1) := by decide +kernel
theorem d_Folder_isLongCalled_55 : decode prog_3_method_17_code 55 = .ok (.iinc 4 1, 3) := by decide +kernel
theorem d_Folder_isLongCalled_58 : decode prog_3_method_17_code 58 = .ok (.goto (-36), 3) := by decide +kernel
theorem d_Folder_isLongCalled_61 : decode prog_3_method_17_code 61 = .ok (.iconst 1, 1) := by decide +kernel
theorem d_Folder_isLongCalled_62 : decode prog_3_method_17_code 62 = .ok (.ireturn, 1) := by decide +kernel
theorem d_Folder_isCalled_0 : decode prog_3_method_15_code 0 = .ok (.aload_n 0, 1) := by decide +kernel
theorem d_Folder_isCalled_1 : decode prog_3_method_15_code 1 = .ok (.iload_n 1, 1) := by decide +kernel
theorem d_Folder_isCalled_2 : decode prog_3_method_15_code 2 = .ok (.aload_n 2, 1) := by decide +kernel
theorem d_Folder_isCalled_3 : decode prog_3_method_15_code 3 = .ok (.invokevirtual 71, 3) := by decide +kernel
theorem d_Folder_isCalled_6 : decode prog_3_method_15_code 6 = .ok (.ifCond .ne 17, 3) := by decide +kernel
theorem d_Folder_isCalled_9 : decode prog_3_method_15_code 9 = .ok (.aload_n 0, 1) := by decide +kernel
theorem d_Folder_isCalled_10 : decode prog_3_method_15_code 10 = .ok (.iload_n 1, 1) := by decide +kernel
theorem d_Folder_isCalled_11 : decode prog_3_method_15_code 11 = .ok (.aload_n 2, 1) := by decide +kernel
theorem d_Folder_isCalled_12 : decode prog_3_method_15_code 12 = .ok (.aload_n 0, 1) := by decide +kernel
theorem d_Folder_isCalled_13 : decode prog_3_method_15_code 13 = .ok (.iload_n 1, 1) := by decide +kernel
theorem d_Folder_isCalled_14 : decode prog_3_method_15_code 14 = .ok (.invokevirtual 74, 3) := by decide +kernel
theorem d_Folder_isCalled_17 : decode prog_3_method_15_code 17 = .ok (.invokevirtual 77, 3) := by decide +kernel
theorem d_Folder_isCalled_20 : decode prog_3_method_15_code 20 = .ok (.ifCond .eq 7, 3) := by decide +kernel
theorem d_Folder_isCalled_23 : decode prog_3_method_15_code 23 = .ok (.iconst 1, 1) := by decide +kernel
theorem d_Folder_isCalled_24 : decode prog_3_method_15_code 24 = .ok (.goto 4, 3) := by decide +kernel
theorem d_Folder_isCalled_27 : decode prog_3_method_15_code 27 = .ok (.iconst 0, 1) := by decide +kernel
theorem d_Folder_isCalled_28 : decode prog_3_method_15_code 28 = .ok (.ireturn, 1) := by decide +kernel
theorem d_Folder_find_0 : decode prog_3_method_14_code 0 = .ok (.iconst 0, 1) := by decide +kernel
theorem d_Folder_find_1 : decode prog_3_method_14_code 1 = .ok (.istore_n 3, 1) := by decide +kernel
theorem d_Folder_find_2 : decode prog_3_method_14_code 2 = .ok (.iload_n 3, 1) := by decide +kernel
theorem d_Folder_find_3 : decode prog_3_method_14_code 3 = .ok (.aload_n 0, 1) := by decide +kernel
theorem d_Folder_find_4 : decode prog_3_method_14_code 4 = .ok (.getfield 23, 3) := by decide +kernel
theorem d_Folder_find_7 : decode prog_3_method_14_code 7 = .ok (.if_icmp .ge 53, 3) := by decide +kernel
theorem d_Folder_find_10 : decode prog_3_method_14_code 10 = .ok (.iload_n 2, 1) := by decide +kernel
theorem d_Folder_find_11 : decode prog_3_method_14_code 11 = .ok (.ifCond .eq 12, 3) := by decide +kernel
theorem d_Folder_find_14 : decode prog_3_method_14_code 14 = .ok (.aload_n 0, 1) := by decide +kernel
theorem d_Folder_find_15 : decode prog_3_method_14_code 15 = .ok (.iload_n 3, 1) := by decide +kernel
theorem d_Folder_find_16 : decode prog_3_method_14_code 16 = .ok (.invokevirtual 64, 3) := by decide +kernel
theorem d_Folder_find_19 : decode prog_3_method_14_code 19 = .ok (.iload_n 2, 1) := by decide +kernel
theorem d_Folder_find_20 : decode prog_3_method_14_code 20 = .ok (.if_icmp .ne 7, 3) := by decide +kernel
theorem d_Folder_find_23 : decode prog_3_method_14_code 23 = .ok (.iconst 1, 1) := by decide +kernel
theorem d_Folder_find_24 : decode prog_3_method_14_code 24 = .ok (.goto 4, 3) := by decide +kernel
theorem d_Folder_find_27 : decode prog_3_method_14_code 27 = .ok (.iconst 0, 1) := by decide +kernel
theorem d_Folder_find_28 : decode prog_3_method_14_code 28 = .ok (.istore 4, 2) := by decide +kernel
theorem d_Folder_find_30 : decode prog_3_method_14_code 30 = .ok (.iload 4, 2) := by decide +kernel
theorem d_Folder_find_32 : decode prog_3_method_14_code 32 = .ok (.ifCond .eq 22, 3) := by decide +kernel
theorem d_Folder_find_35 : decode prog_3_method_14_code 35 = .ok (.aload_n 0, 1) := by decide +kernel
theorem d_Folder_find_36 : decode prog_3_method_14_code 36 = .ok (.iload_n 3, 1) := by decide +kernel
theorem d_Folder_find_37 : decode prog_3_method_14_code 37 = .ok (.invokevirtual 61, 3) := by decide +kernel
theorem d_Folder_find_40 : decode prog_3_method_14_code 40 = .ok (.ifCond .eq 14, 3) := by decide +kernel
theorem d_Folder_find_43 : decode prog_3_method_14_code 43 = .ok (.aload_n 0, 1) := by decide +kernel
theorem d_Folder_find_44 : decode prog_3_method_14_code 44 = .ok (.iload_n 3, 1) := by decide +kernel
theorem d_Folder_find_45 : decode prog_3_method_14_code 45 = .ok (.aload_n 1, 1) := by decide +kernel
theorem d_Folder_find_46 : decode prog_3_method_14_code 46 = .ok (.invokevirtual 67, 3) := by decide +kernel
theorem d_Folder_find_49 : decode prog_3_method_14_code 49 = .ok (.ifCond .eq 5, 3) := by decide +kernel
theorem d_Folder_find_52 : decode prog_3_method_14_code 52 = .ok (.iload_n 3, 1) := by decide +kernel
theorem d_Folder_find_53 : decode prog_3_method_14_code 53 = .ok (.ireturn, 1) := by decide +kernel
theorem d_Folder_find_54 : decode prog_3_method_14_code 54 = .ok (.iinc 3 1, 3) := by decide +kernel
theorem d_Folder_find_57 : decode prog_3_method_14_code 57 = .ok (.goto (-55), 3) := by decide +kernel
theorem d_Folder_find_60 : decode prog_3_method_14_code 60 = .ok (.iconst (-1), 1) := by decide +kernel
theorem d_Folder_find_61 : decode prog_3_method_14_code 61 = .ok (.ireturn, 1) := by decide +kernel
theorem d_Folder_pairOf_0 : decode prog_3_method_5_code 0 = .ok (.iload_n 1, 1) := by decide +kernel
theorem d_Folder_pairOf_1 : decode prog_3_method_5_code 1 = .ok (.ifCond .lt 29, 3) := by decide +kernel
theorem d_Folder_pairOf_4 : decode prog_3_method_5_code 4 = .ok (.iload_n 1, 1) := by decide +kernel
theorem d_Folder_pairOf_5 : decode prog_3_method_5_code 5 = .ok (.aload_n 0, 1) := by decide +kernel
theorem d_Folder_pairOf_6 : decode prog_3_method_5_code 6 = .ok (.getfield 23, 3) := by decide +kernel
theorem d_Folder_pairOf_9 : decode prog_3_method_5_code 9 = .ok (.if_icmp .ge 21, 3) := by decide +kernel
theorem d_Folder_pairOf_12 : decode prog_3_method_5_code 12 = .ok (.aload_n 0, 1) := by decide +kernel
theorem d_Folder_pairOf_13 : decode prog_3_method_5_code 13 = .ok (.getfield 9, 3) := by decide +kernel
theorem d_Folder_pairOf_16 : decode prog_3_method_5_code 16 = .ok (.aload_n 0, 1) := by decide +kernel
theorem d_Folder_pairOf_17 : decode prog_3_method_5_code 17 = .ok (.getfield 19, 3) := by decide +kernel
theorem d_Folder_pairOf_20 : decode prog_3_method_5_code 20 = .ok (.iload_n 1, 1) := by decide +kernel
theorem d_Folder_pairOf_21 : decode prog_3_method_5_code 21 = .ok (.iaload, 1) := by decide +kernel
theorem d_Folder_pairOf_22 : decode prog_3_method_5_code 22 = .ok (.iload_n 2, 1) := by decide +kernel
theorem d_Folder_pairOf_23 : decode prog_3_method_5_code 23 = .ok (.iadd, 1) := by decide +kernel
theorem d_Folder_pairOf_24 : decode prog_3_method_5_code 24 = .ok (.invokevirtual 48, 3) := by decide +kernel
theorem d_Folder_pairOf_27 : decode prog_3_method_5_code 27 = .ok (.goto 4, 3) := by decide +kernel
theorem d_Folder_pairOf_30 : decode prog_3_method_5_code 30 = .ok (.iconst 0, 1) := by decide +kernel
theorem d_Folder_pairOf_31 : decode prog_3_method_5_code 31 = .ok (.ireturn, 1) := by decide +kernel
theorem d_Folder_firstClusterOf_0 : decode prog_3_method_8_code 0 = .ok (.aload_n 0, 1) := by decide +kernel
theorem d_Folder_firstClusterOf_1 : decode prog_3_method_8_code 1 = .ok (.iload_n 1, 1) := by decide +kernel
theorem d_Folder_firstClusterOf_2 : decode prog_3_method_8_code 2 = .ok (.bipush 8, 2) := by decide +kernel
theorem d_Folder_firstClusterOf_4 : decode prog_3_method_8_code 4 = .ok (.invokevirtual 55, 3) := by decide +kernel
theorem d_Folder_firstClusterOf_7 : decode prog_3_method_8_code 7 = .ok (.ireturn, 1) := by decide +kernel
theorem d_Ses_goDown_0 : decode prog_6_method_4_code 0 = .ok (.aload_n 0, 1) := by decide +kernel
theorem d_Ses_goDown_1 : decode prog_6_method_4_code 1 = .ok (.iload_n 1, 1) := by decide +kernel
theorem d_Ses_goDown_2 : decode prog_6_method_4_code 2 = .ok (.putfield 29, 3) := by decide +kernel
theorem d_Ses_goDown_5 : decode prog_6_method_4_code 5 = .ok (.aload_n 0, 1) := by decide +kernel
theorem d_Ses_goDown_6 : decode prog_6_method_4_code 6 = .ok (.dup, 1) := by decide +kernel
theorem d_Ses_goDown_7 : decode prog_6_method_4_code 7 = .ok (.getfield 32, 3) := by decide +kernel
theorem d_Ses_goDown_10 : decode prog_6_method_4_code 10 = .ok (.iconst 1, 1) := by decide +kernel
theorem d_Ses_goDown_11 : decode prog_6_method_4_code 11 = .ok (.iadd, 1) := by decide +kernel
theorem d_Ses_goDown_12 : decode prog_6_method_4_code 12 = .ok (.putfield 32, 3) := by decide +kernel
theorem d_Ses_goDown_15 : decode prog_6_method_4_code 15 = .ok (.return_, 1) := by decide +kernel
theorem d_V_enter_0 : decode prog_1_method_5_code 0 = .ok (.aload_n 0, 1) := by decide +kernel
theorem d_V_enter_1 : decode prog_1_method_5_code 1 = .ok (.invokevirtual 70, 3) := by decide +kernel
theorem d_V_enter_4 : decode prog_1_method_5_code 4 = .ok (.aload_n 0, 1) := by decide +kernel
theorem d_V_enter_5 : decode prog_1_method_5_code 5 = .ok (.getfield 58, 3) := by decide +kernel
theorem d_V_enter_8 : decode prog_1_method_5_code 8 = .ok (.aload_n 0, 1) := by decide +kernel
theorem d_V_enter_9 : decode prog_1_method_5_code 9 = .ok (.getfield 12, 3) := by decide +kernel
theorem d_V_enter_12 : decode prog_1_method_5_code 12 = .ok (.invokevirtual 73, 3) := by decide +kernel
theorem d_V_enter_15 : decode prog_1_method_5_code 15 = .ok (.aload_n 0, 1) := by decide +kernel
theorem d_V_enter_16 : decode prog_1_method_5_code 16 = .ok (.getfield 58, 3) := by decide +kernel
theorem d_V_enter_19 : decode prog_1_method_5_code 19 = .ok (.getfield 148, 3) := by decide +kernel
theorem d_V_enter_22 : decode prog_1_method_5_code 22 = .ok (.ifCond .ne 11, 3) := by decide +kernel
theorem d_V_enter_25 : decode prog_1_method_5_code 25 = .ok (.aload_n 0, 1) := by decide +kernel
theorem d_V_enter_26 : decode prog_1_method_5_code 26 = .ok (.getfield 12, 3) := by decide +kernel
theorem d_V_enter_29 : decode prog_1_method_5_code 29 = .ok (.invokevirtual 151, 3) := by decide +kernel
theorem d_V_enter_32 : decode prog_1_method_5_code 32 = .ok (.return_, 1) := by decide +kernel
theorem d_V_enter_33 : decode prog_1_method_5_code 33 = .ok (.aload_n 0, 1) := by decide +kernel
theorem d_V_enter_34 : decode prog_1_method_5_code 34 = .ok (.getfield 39, 3) := by decide +kernel
theorem d_V_enter_37 : decode prog_1_method_5_code 37 = .ok (.aload_n 0, 1) := by decide +kernel
theorem d_V_enter_38 : decode prog_1_method_5_code 38 = .ok (.getfield 12, 3) := by decide +kernel
theorem d_V_enter_41 : decode prog_1_method_5_code 41 = .ok (.getfield 87, 3) := by decide +kernel
theorem d_V_enter_44 : decode prog_1_method_5_code 44 = .ok (.invokevirtual 91, 3) := by decide +kernel
theorem d_V_enter_47 : decode prog_1_method_5_code 47 = .ok (.aload_n 0, 1) := by decide +kernel
theorem d_V_enter_48 : decode prog_1_method_5_code 48 = .ok (.getfield 39, 3) := by decide +kernel
theorem d_V_enter_51 : decode prog_1_method_5_code 51 = .ok (.aload_n 0, 1) := by decide +kernel
theorem d_V_enter_52 : decode prog_1_method_5_code 52 = .ok (.getfield 58, 3) := by decide +kernel
theorem d_V_enter_55 : decode prog_1_method_5_code 55 = .ok (.iconst 2, 1) := by decide +kernel
theorem d_V_enter_56 : decode prog_1_method_5_code 56 = .ok (.invokevirtual 98, 3) := by decide +kernel
theorem d_V_enter_59 : decode prog_1_method_5_code 59 = .ok (.istore_n 1, 1) := by decide +kernel
theorem d_V_enter_60 : decode prog_1_method_5_code 60 = .ok (.iload_n 1, 1) := by decide +kernel
theorem d_V_enter_61 : decode prog_1_method_5_code 61 = .ok (.iconst (-1), 1) := by decide +kernel
theorem d_V_enter_62 : decode prog_1_method_5_code 62 = .ok (.if_icmp .ne 13, 3) := by decide +kernel
theorem d_V_enter_65 : decode prog_1_method_5_code 65 = .ok (.new 128, 3) := by decide +kernel
theorem d_V_enter_68 : decode prog_1_method_5_code 68 = .ok (.dup, 1) := by decide +kernel
theorem d_V_enter_69 : decode prog_1_method_5_code 69 = .ok (.ldc 154, 2) := by decide +kernel
theorem d_V_enter_71 : decode prog_1_method_5_code 71 = .ok (.invokespecial 132, 3) := by decide +kernel
theorem d_V_enter_74 : decode prog_1_method_5_code 74 = .ok (.athrow, 1) := by decide +kernel
theorem d_V_enter_75 : decode prog_1_method_5_code 75 = .ok (.aload_n 0, 1) := by decide +kernel
theorem d_V_enter_76 : decode prog_1_method_5_code 76 = .ok (.getfield 12, 3) := by decide +kernel
theorem d_V_enter_79 : decode prog_1_method_5_code 79 = .ok (.aload_n 0, 1) := by decide +kernel
theorem d_V_enter_80 : decode prog_1_method_5_code 80 = .ok (.getfield 39, 3) := by decide +kernel
theorem d_V_enter_83 : decode prog_1_method_5_code 83 = .ok (.iload_n 1, 1) := by decide +kernel
theorem d_V_enter_84 : decode prog_1_method_5_code 84 = .ok (.invokevirtual 142, 3) := by decide +kernel
theorem d_V_enter_87 : decode prog_1_method_5_code 87 = .ok (.invokevirtual 156, 3) := by decide +kernel
theorem d_V_enter_90 : decode prog_1_method_5_code 90 = .ok (.return_, 1) := by decide +kernel
theorem d_Ses_leastFreeHandle_0 : decode prog_6_method_7_code 0 = .ok (.iconst 0, 1) := by decide +kernel
theorem d_Ses_leastFreeHandle_1 : decode prog_6_method_7_code 1 = .ok (.istore_n 1, 1) := by decide +kernel
theorem d_Ses_leastFreeHandle_2 : decode prog_6_method_7_code 2 = .ok (.iload_n 1, 1) := by decide +kernel
theorem d_Ses_leastFreeHandle_3 : decode prog_6_method_7_code 3 = .ok (.iconst 4, 1) := by decide +kernel
theorem d_Ses_leastFreeHandle_4 : decode prog_6_method_7_code 4 = .ok (.if_icmp .ge 21, 3) := by decide +kernel
theorem d_Ses_leastFreeHandle_7 : decode prog_6_method_7_code 7 = .ok (.aload_n 0, 1) := by decide +kernel
theorem d_Ses_leastFreeHandle_8 : decode prog_6_method_7_code 8 = .ok (.getfield 15, 3) := by decide +kernel
theorem d_Ses_leastFreeHandle_11 : decode prog_6_method_7_code 11 = .ok (.iload_n 1, 1) := by decide +kernel
theorem d_Ses_leastFreeHandle_12 : decode prog_6_method_7_code 12 = .ok (.iaload, 1) := by decide +kernel
theorem d_Ses_leastFreeHandle_13 : decode prog_6_method_7_code 13 = .ok (.iconst (-1), 1) := by decide +kernel
theorem d_Ses_leastFreeHandle_14 : decode prog_6_method_7_code 14 = .ok (.if_icmp .ne 5, 3) := by decide +kernel
theorem d_Ses_leastFreeHandle_17 : decode prog_6_method_7_code 17 = .ok (.iload_n 1, 1) := by decide +kernel
theorem d_Ses_leastFreeHandle_18 : decode prog_6_method_7_code 18 = .ok (.ireturn, 1) := by decide +kernel
theorem d_Ses_leastFreeHandle_19 : decode prog_6_method_7_code 19 = .ok (.iinc 1 1, 3) := by decide +kernel
theorem d_Ses_leastFreeHandle_22 : decode prog_6_method_7_code 22 = .ok (.goto (-20), 3) := by decide +kernel
theorem d_Ses_leastFreeHandle_25 : decode prog_6_method_7_code 25 = .ok (.iconst (-1), 1) := by decide +kernel
theorem d_Ses_leastFreeHandle_26 : decode prog_6_method_7_code 26 = .ok (.ireturn, 1) := by decide +kernel
theorem d_Folder_addressOf_0 : decode prog_3_method_3_code 0 = .ok (.iload_n 1, 1) := by decide +kernel
theorem d_Folder_addressOf_1 : decode prog_3_method_3_code 1 = .ok (.ifCond .lt 20, 3) := by decide +kernel
theorem d_Folder_addressOf_4 : decode prog_3_method_3_code 4 = .ok (.iload_n 1, 1) := by decide +kernel
theorem d_Folder_addressOf_5 : decode prog_3_method_3_code 5 = .ok (.aload_n 0, 1) := by decide +kernel
theorem d_Folder_addressOf_6 : decode prog_3_method_3_code 6 = .ok (.getfield 23, 3) := by decide +kernel
theorem d_Folder_addressOf_9 : decode prog_3_method_3_code 9 = .ok (.if_icmp .ge 12, 3) := by decide +kernel
theorem d_Folder_addressOf_12 : decode prog_3_method_3_code 12 = .ok (.aload_n 0, 1) := by decide +kernel
theorem d_Folder_addressOf_13 : decode prog_3_method_3_code 13 = .ok (.getfield 19, 3) := by decide +kernel
theorem d_Folder_addressOf_16 : decode prog_3_method_3_code 16 = .ok (.iload_n 1, 1) := by decide +kernel
theorem d_Folder_addressOf_17 : decode prog_3_method_3_code 17 = .ok (.iaload, 1) := by decide +kernel
theorem d_Folder_addressOf_18 : decode prog_3_method_3_code 18 = .ok (.goto 4, 3) := by decide +kernel
theorem d_Folder_addressOf_21 : decode prog_3_method_3_code 21 = .ok (.iconst (-1), 1) := by decide +kernel
theorem d_Folder_addressOf_22 : decode prog_3_method_3_code 22 = .ok (.ireturn, 1) := by decide +kernel
theorem d_Ses_hold_0 : decode prog_6_method_9_code 0 = .ok (.iload_n 1, 1) := by decide +kernel
theorem d_Ses_hold_1 : decode prog_6_method_9_code 1 = .ok (.ifCond .lt 22, 3) := by decide +kernel
theorem d_Ses_hold_4 : decode prog_6_method_9_code 4 = .ok (.iload_n 1, 1) := by decide +kernel
theorem d_Ses_hold_5 : decode prog_6_method_9_code 5 = .ok (.iconst 4, 1) := by decide +kernel
theorem d_Ses_hold_6 : decode prog_6_method_9_code 6 = .ok (.if_icmp .ge 17, 3) := by decide +kernel
theorem d_Ses_hold_9 : decode prog_6_method_9_code 9 = .ok (.aload_n 0, 1) := by decide +kernel
theorem d_Ses_hold_10 : decode prog_6_method_9_code 10 = .ok (.getfield 15, 3) := by decide +kernel
theorem d_Ses_hold_13 : decode prog_6_method_9_code 13 = .ok (.iload_n 1, 1) := by decide +kernel
theorem d_Ses_hold_14 : decode prog_6_method_9_code 14 = .ok (.iload_n 2, 1) := by decide +kernel
theorem d_Ses_hold_15 : decode prog_6_method_9_code 15 = .ok (.iastore, 1) := by decide +kernel
theorem d_Ses_hold_16 : decode prog_6_method_9_code 16 = .ok (.aload_n 0, 1) := by decide +kernel
theorem d_Ses_hold_17 : decode prog_6_method_9_code 17 = .ok (.getfield 19, 3) := by decide +kernel
theorem d_Ses_hold_20 : decode prog_6_method_9_code 20 = .ok (.iload_n 1, 1) := by decide +kernel
theorem d_Ses_hold_21 : decode prog_6_method_9_code 21 = .ok (.iconst 0, 1) := by decide +kernel
theorem d_Ses_hold_22 : decode prog_6_method_9_code 22 = .ok (.iastore, 1) := by decide +kernel
theorem d_Ses_hold_23 : decode prog_6_method_9_code 23 = .ok (.return_, 1) := by decide +kernel
theorem d_V_open_0 : decode prog_1_method_6_code 0 = .ok (.aload_n 0, 1) := by decide +kernel
theorem d_V_open_1 : decode prog_1_method_6_code 1 = .ok (.invokevirtual 70, 3) := by decide +kernel
theorem d_V_open_4 : decode prog_1_method_6_code 4 = .ok (.aload_n 0, 1) := by decide +kernel
theorem d_V_open_5 : decode prog_1_method_6_code 5 = .ok (.getfield 58, 3) := by decide +kernel
theorem d_V_open_8 : decode prog_1_method_6_code 8 = .ok (.aload_n 0, 1) := by decide +kernel
theorem d_V_open_9 : decode prog_1_method_6_code 9 = .ok (.getfield 12, 3) := by decide +kernel
theorem d_V_open_12 : decode prog_1_method_6_code 12 = .ok (.invokevirtual 73, 3) := by decide +kernel
theorem d_V_open_15 : decode prog_1_method_6_code 15 = .ok (.aload_n 0, 1) := by decide +kernel
theorem d_V_open_16 : decode prog_1_method_6_code 16 = .ok (.getfield 39, 3) := by decide +kernel
theorem d_V_open_19 : decode prog_1_method_6_code 19 = .ok (.aload_n 0, 1) := by decide +kernel
theorem d_V_open_20 : decode prog_1_method_6_code 20 = .ok (.getfield 12, 3) := by decide +kernel
theorem d_V_open_23 : decode prog_1_method_6_code 23 = .ok (.getfield 87, 3) := by decide +kernel
theorem d_V_open_26 : decode prog_1_method_6_code 26 = .ok (.invokevirtual 91, 3) := by decide +kernel
theorem d_V_open_29 : decode prog_1_method_6_code 29 = .ok (.aload_n 0, 1) := by decide +kernel
theorem d_V_open_30 : decode prog_1_method_6_code 30 = .ok (.getfield 39, 3) := by decide +kernel
theorem d_V_open_33 : decode prog_1_method_6_code 33 = .ok (.aload_n 0, 1) := by decide +kernel
theorem d_V_open_34 : decode prog_1_method_6_code 34 = .ok (.getfield 58, 3) := by decide +kernel
theorem d_V_open_37 : decode prog_1_method_6_code 37 = .ok (.iconst 1, 1) := by decide +kernel
theorem d_V_open_38 : decode prog_1_method_6_code 38 = .ok (.invokevirtual 98, 3) := by decide +kernel
theorem d_V_open_41 : decode prog_1_method_6_code 41 = .ok (.istore_n 1, 1) := by decide +kernel
theorem d_V_open_42 : decode prog_1_method_6_code 42 = .ok (.iload_n 1, 1) := by decide +kernel
theorem d_V_open_43 : decode prog_1_method_6_code 43 = .ok (.iconst (-1), 1) := by decide +kernel
end
section
theorem d_V_open_44 : decode prog_1_method_6_code 44 = .ok (.if_icmp .ne 13, 3) := by decide +kernel
theorem d_V_open_47 : decode prog_1_method_6_code 47 = .ok (.new 128, 3) := by decide +kernel
theorem d_V_open_50 : decode prog_1_method_6_code 50 = .ok (.dup, 1) := by decide +kernel
theorem d_V_open_51 : decode prog_1_method_6_code 51 = .ok (.ldc 159, 2) := by decide +kernel
theorem d_V_open_53 : decode prog_1_method_6_code 53 = .ok (.invokespecial 132, 3) := by decide +kernel
theorem d_V_open_56 : decode prog_1_method_6_code 56 = .ok (.athrow, 1) := by decide +kernel
theorem d_V_open_57 : decode prog_1_method_6_code 57 = .ok (.aload_n 0, 1) := by decide +kernel
theorem d_V_open_58 : decode prog_1_method_6_code 58 = .ok (.getfield 12, 3) := by decide +kernel
theorem d_V_open_61 : decode prog_1_method_6_code 61 = .ok (.invokevirtual 161, 3) := by decide +kernel
theorem d_V_open_64 : decode prog_1_method_6_code 64 = .ok (.istore_n 2, 1) := by decide +kernel
theorem d_V_open_65 : decode prog_1_method_6_code 65 = .ok (.iload_n 2, 1) := by decide +kernel
theorem d_V_open_66 : decode prog_1_method_6_code 66 = .ok (.iconst (-1), 1) := by decide +kernel
theorem d_V_open_67 : decode prog_1_method_6_code 67 = .ok (.if_icmp .ne 13, 3) := by decide +kernel
theorem d_V_open_70 : decode prog_1_method_6_code 70 = .ok (.new 106, 3) := by decide +kernel
theorem d_V_open_73 : decode prog_1_method_6_code 73 = .ok (.dup, 1) := by decide +kernel
theorem d_V_open_74 : decode prog_1_method_6_code 74 = .ok (.ldc 164, 2) := by decide +kernel
theorem d_V_open_76 : decode prog_1_method_6_code 76 = .ok (.invokespecial 110, 3) := by decide +kernel
theorem d_V_open_79 : decode prog_1_method_6_code 79 = .ok (.athrow, 1) := by decide +kernel
theorem d_V_open_80 : decode prog_1_method_6_code 80 = .ok (.aload_n 0, 1) := by decide +kernel
theorem d_V_open_81 : decode prog_1_method_6_code 81 = .ok (.getfield 12, 3) := by decide +kernel
theorem d_V_open_84 : decode prog_1_method_6_code 84 = .ok (.iload_n 2, 1) := by decide +kernel
theorem d_V_open_85 : decode prog_1_method_6_code 85 = .ok (.aload_n 0, 1) := by decide +kernel
theorem d_V_open_86 : decode prog_1_method_6_code 86 = .ok (.getfield 39, 3) := by decide +kernel
theorem d_V_open_89 : decode prog_1_method_6_code 89 = .ok (.iload_n 1, 1) := by decide +kernel
theorem d_V_open_90 : decode prog_1_method_6_code 90 = .ok (.invokevirtual 166, 3) := by decide +kernel
theorem d_V_open_93 : decode prog_1_method_6_code 93 = .ok (.invokevirtual 169, 3) := by decide +kernel
theorem d_V_open_96 : decode prog_1_method_6_code 96 = .ok (.iload_n 2, 1) := by decide +kernel
theorem d_V_open_97 : decode prog_1_method_6_code 97 = .ok (.ireturn, 1) := by decide +kernel
theorem d_Ses_isOpen_0 : decode prog_6_method_6_code 0 = .ok (.iload_n 1, 1) := by decide +kernel
theorem d_Ses_isOpen_1 : decode prog_6_method_6_code 1 = .ok (.ifCond .lt 22, 3) := by decide +kernel
theorem d_Ses_isOpen_4 : decode prog_6_method_6_code 4 = .ok (.iload_n 1, 1) := by decide +kernel
theorem d_Ses_isOpen_5 : decode prog_6_method_6_code 5 = .ok (.iconst 4, 1) := by decide +kernel
theorem d_Ses_isOpen_6 : decode prog_6_method_6_code 6 = .ok (.if_icmp .ge 17, 3) := by decide +kernel
theorem d_Ses_isOpen_9 : decode prog_6_method_6_code 9 = .ok (.aload_n 0, 1) := by decide +kernel
theorem d_Ses_isOpen_10 : decode prog_6_method_6_code 10 = .ok (.getfield 15, 3) := by decide +kernel
theorem d_Ses_isOpen_13 : decode prog_6_method_6_code 13 = .ok (.iload_n 1, 1) := by decide +kernel
theorem d_Ses_isOpen_14 : decode prog_6_method_6_code 14 = .ok (.iaload, 1) := by decide +kernel
theorem d_Ses_isOpen_15 : decode prog_6_method_6_code 15 = .ok (.iconst (-1), 1) := by decide +kernel
theorem d_Ses_isOpen_16 : decode prog_6_method_6_code 16 = .ok (.if_icmp .eq 7, 3) := by decide +kernel
theorem d_Ses_isOpen_19 : decode prog_6_method_6_code 19 = .ok (.iconst 1, 1) := by decide +kernel
theorem d_Ses_isOpen_20 : decode prog_6_method_6_code 20 = .ok (.goto 4, 3) := by decide +kernel
theorem d_Ses_isOpen_23 : decode prog_6_method_6_code 23 = .ok (.iconst 0, 1) := by decide +kernel
theorem d_Ses_isOpen_24 : decode prog_6_method_6_code 24 = .ok (.ireturn, 1) := by decide +kernel
theorem d_Ses_drop_0 : decode prog_6_method_10_code 0 = .ok (.iload_n 1, 1) := by decide +kernel
theorem d_Ses_drop_1 : decode prog_6_method_10_code 1 = .ok (.ifCond .lt 15, 3) := by decide +kernel
theorem d_Ses_drop_4 : decode prog_6_method_10_code 4 = .ok (.iload_n 1, 1) := by decide +kernel
theorem d_Ses_drop_5 : decode prog_6_method_10_code 5 = .ok (.iconst 4, 1) := by decide +kernel
theorem d_Ses_drop_6 : decode prog_6_method_10_code 6 = .ok (.if_icmp .ge 10, 3) := by decide +kernel
theorem d_Ses_drop_9 : decode prog_6_method_10_code 9 = .ok (.aload_n 0, 1) := by decide +kernel
theorem d_Ses_drop_10 : decode prog_6_method_10_code 10 = .ok (.getfield 15, 3) := by decide +kernel
theorem d_Ses_drop_13 : decode prog_6_method_10_code 13 = .ok (.iload_n 1, 1) := by decide +kernel
theorem d_Ses_drop_14 : decode prog_6_method_10_code 14 = .ok (.iconst (-1), 1) := by decide +kernel
theorem d_Ses_drop_15 : decode prog_6_method_10_code 15 = .ok (.iastore, 1) := by decide +kernel
theorem d_Ses_drop_16 : decode prog_6_method_10_code 16 = .ok (.return_, 1) := by decide +kernel
theorem d_V_close_0 : decode prog_1_method_7_code 0 = .ok (.aload_n 0, 1) := by decide +kernel
theorem d_V_close_1 : decode prog_1_method_7_code 1 = .ok (.getfield 12, 3) := by decide +kernel
theorem d_V_close_4 : decode prog_1_method_7_code 4 = .ok (.iload_n 1, 1) := by decide +kernel
theorem d_V_close_5 : decode prog_1_method_7_code 5 = .ok (.invokevirtual 173, 3) := by decide +kernel
theorem d_V_close_8 : decode prog_1_method_7_code 8 = .ok (.ifCond .ne 5, 3) := by decide +kernel
theorem d_V_close_11 : decode prog_1_method_7_code 11 = .ok (.iconst 0, 1) := by decide +kernel
theorem d_V_close_12 : decode prog_1_method_7_code 12 = .ok (.ireturn, 1) := by decide +kernel
theorem d_V_close_13 : decode prog_1_method_7_code 13 = .ok (.aload_n 0, 1) := by decide +kernel
theorem d_V_close_14 : decode prog_1_method_7_code 14 = .ok (.getfield 12, 3) := by decide +kernel
theorem d_V_close_17 : decode prog_1_method_7_code 17 = .ok (.iload_n 1, 1) := by decide +kernel
theorem d_V_close_18 : decode prog_1_method_7_code 18 = .ok (.invokevirtual 176, 3) := by decide +kernel
theorem d_V_close_21 : decode prog_1_method_7_code 21 = .ok (.iconst 1, 1) := by decide +kernel
theorem d_V_close_22 : decode prog_1_method_7_code 22 = .ok (.ireturn, 1) := by decide +kernel
theorem d_Ses_entryOf_0 : decode prog_6_method_12_code 0 = .ok (.iload_n 1, 1) := by decide +kernel
theorem d_Ses_entryOf_1 : decode prog_6_method_12_code 1 = .ok (.ifCond .lt 17, 3) := by decide +kernel
theorem d_Ses_entryOf_4 : decode prog_6_method_12_code 4 = .ok (.iload_n 1, 1) := by decide +kernel
theorem d_Ses_entryOf_5 : decode prog_6_method_12_code 5 = .ok (.iconst 4, 1) := by decide +kernel
theorem d_Ses_entryOf_6 : decode prog_6_method_12_code 6 = .ok (.if_icmp .ge 12, 3) := by decide +kernel
theorem d_Ses_entryOf_9 : decode prog_6_method_12_code 9 = .ok (.aload_n 0, 1) := by decide +kernel
theorem d_Ses_entryOf_10 : decode prog_6_method_12_code 10 = .ok (.getfield 15, 3) := by decide +kernel
theorem d_Ses_entryOf_13 : decode prog_6_method_12_code 13 = .ok (.iload_n 1, 1) := by decide +kernel
theorem d_Ses_entryOf_14 : decode prog_6_method_12_code 14 = .ok (.iaload, 1) := by decide +kernel
theorem d_Ses_entryOf_15 : decode prog_6_method_12_code 15 = .ok (.goto 4, 3) := by decide +kernel
theorem d_Ses_entryOf_18 : decode prog_6_method_12_code 18 = .ok (.iconst (-1), 1) := by decide +kernel
theorem d_Ses_entryOf_19 : decode prog_6_method_12_code 19 = .ok (.ireturn, 1) := by decide +kernel
theorem d_V_sizeOfFile_0 : decode prog_1_method_22_code 0 = .ok (.aload_n 0, 1) := by decide +kernel
theorem d_V_sizeOfFile_1 : decode prog_1_method_22_code 1 = .ok (.getfield 21, 3) := by decide +kernel
theorem d_V_sizeOfFile_4 : decode prog_1_method_22_code 4 = .ok (.aload_n 0, 1) := by decide +kernel
theorem d_V_sizeOfFile_5 : decode prog_1_method_22_code 5 = .ok (.getfield 12, 3) := by decide +kernel
theorem d_V_sizeOfFile_8 : decode prog_1_method_22_code 8 = .ok (.iload_n 1, 1) := by decide +kernel
theorem d_V_sizeOfFile_9 : decode prog_1_method_22_code 9 = .ok (.invokevirtual 190, 3) := by decide +kernel
theorem d_V_sizeOfFile_12 : decode prog_1_method_22_code 12 = .ok (.bipush 10, 2) := by decide +kernel
theorem d_V_sizeOfFile_14 : decode prog_1_method_22_code 14 = .ok (.iadd, 1) := by decide +kernel
theorem d_V_sizeOfFile_15 : decode prog_1_method_22_code 15 = .ok (.invokevirtual 193, 3) := by decide +kernel
theorem d_V_sizeOfFile_18 : decode prog_1_method_22_code 18 = .ok (.ireturn, 1) := by decide +kernel
theorem d_Ses_moveTo_0 : decode prog_6_method_11_code 0 = .ok (.iload_n 1, 1) := by decide +kernel
theorem d_Ses_moveTo_1 : decode prog_6_method_11_code 1 = .ok (.ifCond .lt 15, 3) := by decide +kernel
theorem d_Ses_moveTo_4 : decode prog_6_method_11_code 4 = .ok (.iload_n 1, 1) := by decide +kernel
theorem d_Ses_moveTo_5 : decode prog_6_method_11_code 5 = .ok (.iconst 4, 1) := by decide +kernel
theorem d_Ses_moveTo_6 : decode prog_6_method_11_code 6 = .ok (.if_icmp .ge 10, 3) := by decide +kernel
theorem d_Ses_moveTo_9 : decode prog_6_method_11_code 9 = .ok (.aload_n 0, 1) := by decide +kernel
theorem d_Ses_moveTo_10 : decode prog_6_method_11_code 10 = .ok (.getfield 19, 3) := by decide +kernel
theorem d_Ses_moveTo_13 : decode prog_6_method_11_code 13 = .ok (.iload_n 1, 1) := by decide +kernel
theorem d_Ses_moveTo_14 : decode prog_6_method_11_code 14 = .ok (.iload_n 2, 1) := by decide +kernel
theorem d_Ses_moveTo_15 : decode prog_6_method_11_code 15 = .ok (.iastore, 1) := by decide +kernel
theorem d_Ses_moveTo_16 : decode prog_6_method_11_code 16 = .ok (.return_, 1) := by decide +kernel
theorem d_V_seek_0 : decode prog_1_method_8_code 0 = .ok (.aload_n 0, 1) := by decide +kernel
theorem d_V_seek_1 : decode prog_1_method_8_code 1 = .ok (.getfield 12, 3) := by decide +kernel
theorem d_V_seek_4 : decode prog_1_method_8_code 4 = .ok (.iload_n 1, 1) := by decide +kernel
theorem d_V_seek_5 : decode prog_1_method_8_code 5 = .ok (.invokevirtual 173, 3) := by decide +kernel
theorem d_V_seek_8 : decode prog_1_method_8_code 8 = .ok (.ifCond .eq 16, 3) := by decide +kernel
theorem d_V_seek_11 : decode prog_1_method_8_code 11 = .ok (.iload_n 2, 1) := by decide +kernel
theorem d_V_seek_12 : decode prog_1_method_8_code 12 = .ok (.ifCond .lt 12, 3) := by decide +kernel
theorem d_V_seek_15 : decode prog_1_method_8_code 15 = .ok (.iload_n 2, 1) := by decide +kernel
theorem d_V_seek_16 : decode prog_1_method_8_code 16 = .ok (.aload_n 0, 1) := by decide +kernel
theorem d_V_seek_17 : decode prog_1_method_8_code 17 = .ok (.iload_n 1, 1) := by decide +kernel
theorem d_V_seek_18 : decode prog_1_method_8_code 18 = .ok (.invokevirtual 179, 3) := by decide +kernel
theorem d_V_seek_21 : decode prog_1_method_8_code 21 = .ok (.if_icmp .le 5, 3) := by decide +kernel
theorem d_V_seek_24 : decode prog_1_method_8_code 24 = .ok (.iconst 0, 1) := by decide +kernel
theorem d_V_seek_25 : decode prog_1_method_8_code 25 = .ok (.ireturn, 1) := by decide +kernel
theorem d_V_seek_26 : decode prog_1_method_8_code 26 = .ok (.aload_n 0, 1) := by decide +kernel
theorem d_V_seek_27 : decode prog_1_method_8_code 27 = .ok (.getfield 12, 3) := by decide +kernel
theorem d_V_seek_30 : decode prog_1_method_8_code 30 = .ok (.iload_n 1, 1) := by decide +kernel
theorem d_V_seek_31 : decode prog_1_method_8_code 31 = .ok (.iload_n 2, 1) := by decide +kernel
theorem d_V_seek_32 : decode prog_1_method_8_code 32 = .ok (.invokevirtual 182, 3) := by decide +kernel
theorem d_V_seek_35 : decode prog_1_method_8_code 35 = .ok (.iconst 1, 1) := by decide +kernel
theorem d_V_seek_36 : decode prog_1_method_8_code 36 = .ok (.ireturn, 1) := by decide +kernel
theorem d_Ses_positionOf_0 : decode prog_6_method_13_code 0 = .ok (.iload_n 1, 1) := by decide +kernel
theorem d_Ses_positionOf_1 : decode prog_6_method_13_code 1 = .ok (.ifCond .lt 17, 3) := by decide +kernel
theorem d_Ses_positionOf_4 : decode prog_6_method_13_code 4 = .ok (.iload_n 1, 1) := by decide +kernel
theorem d_Ses_positionOf_5 : decode prog_6_method_13_code 5 = .ok (.iconst 4, 1) := by decide +kernel
theorem d_Ses_positionOf_6 : decode prog_6_method_13_code 6 = .ok (.if_icmp .ge 12, 3) := by decide +kernel
theorem d_Ses_positionOf_9 : decode prog_6_method_13_code 9 = .ok (.aload_n 0, 1) := by decide +kernel
theorem d_Ses_positionOf_10 : decode prog_6_method_13_code 10 = .ok (.getfield 19, 3) := by decide +kernel
theorem d_Ses_positionOf_13 : decode prog_6_method_13_code 13 = .ok (.iload_n 1, 1) := by decide +kernel
theorem d_Ses_positionOf_14 : decode prog_6_method_13_code 14 = .ok (.iaload, 1) := by decide +kernel
theorem d_Ses_positionOf_15 : decode prog_6_method_13_code 15 = .ok (.goto 4, 3) := by decide +kernel
theorem d_Ses_positionOf_18 : decode prog_6_method_13_code 18 = .ok (.iconst 0, 1) := by decide +kernel
theorem d_Ses_positionOf_19 : decode prog_6_method_13_code 19 = .ok (.ireturn, 1) := by decide +kernel
theorem d_Table_clusterAt_0 : decode prog_7_method_12_code 0 = .ok (.iload_n 1, 1) := by decide +kernel
theorem d_Table_clusterAt_1 : decode prog_7_method_12_code 1 = .ok (.istore_n 3, 1) := by decide +kernel
theorem d_Table_clusterAt_2 : decode prog_7_method_12_code 2 = .ok (.iconst 0, 1) := by decide +kernel
theorem d_Table_clusterAt_3 : decode prog_7_method_12_code 3 = .ok (.istore 4, 2) := by decide +kernel
theorem d_Table_clusterAt_5 : decode prog_7_method_12_code 5 = .ok (.iload 4, 2) := by decide +kernel
theorem d_Table_clusterAt_7 : decode prog_7_method_12_code 7 = .ok (.iload_n 2, 1) := by decide +kernel
theorem d_Table_clusterAt_8 : decode prog_7_method_12_code 8 = .ok (.if_icmp .ge 29, 3) := by decide +kernel
theorem d_Table_clusterAt_11 : decode prog_7_method_12_code 11 = .ok (.iload 4, 2) := by decide +kernel
theorem d_Table_clusterAt_13 : decode prog_7_method_12_code 13 = .ok (.bipush 64, 2) := by decide +kernel
theorem d_Table_clusterAt_15 : decode prog_7_method_12_code 15 = .ok (.if_icmp .ge 22, 3) := by decide +kernel
theorem d_Table_clusterAt_18 : decode prog_7_method_12_code 18 = .ok (.iload_n 3, 1) := by decide +kernel
theorem d_Table_clusterAt_19 : decode prog_7_method_12_code 19 = .ok (.invokestatic 47, 3) := by decide +kernel
theorem d_Table_clusterAt_22 : decode prog_7_method_12_code 22 = .ok (.ifCond .eq 15, 3) := by decide +kernel
theorem d_Table_clusterAt_25 : decode prog_7_method_12_code 25 = .ok (.aload_n 0, 1) := by decide +kernel
theorem d_Table_clusterAt_26 : decode prog_7_method_12_code 26 = .ok (.iload_n 3, 1) := by decide +kernel
theorem d_Table_clusterAt_27 : decode prog_7_method_12_code 27 = .ok (.invokevirtual 25, 3) := by decide +kernel
theorem d_Table_clusterAt_30 : decode prog_7_method_12_code 30 = .ok (.istore_n 3, 1) := by decide +kernel
theorem d_Table_clusterAt_31 : decode prog_7_method_12_code 31 = .ok (.iinc 4 1, 3) := by decide +kernel
theorem d_Table_clusterAt_34 : decode prog_7_method_12_code 34 = .ok (.goto (-29), 3) := by decide +kernel
theorem d_Table_clusterAt_37 : decode prog_7_method_12_code 37 = .ok (.iload_n 3, 1) := by decide +kernel
theorem d_Table_clusterAt_38 : decode prog_7_method_12_code 38 = .ok (.invokestatic 47, 3) := by decide +kernel
theorem d_Table_clusterAt_41 : decode prog_7_method_12_code 41 = .ok (.ifCond .eq 7, 3) := by decide +kernel
theorem d_Table_clusterAt_44 : decode prog_7_method_12_code 44 = .ok (.iload_n 3, 1) := by decide +kernel
theorem d_Table_clusterAt_45 : decode prog_7_method_12_code 45 = .ok (.goto 4, 3) := by decide +kernel
theorem d_Table_clusterAt_48 : decode prog_7_method_12_code 48 = .ok (.iconst 0, 1) := by decide +kernel
theorem d_Table_clusterAt_49 : decode prog_7_method_12_code 49 = .ok (.ireturn, 1) := by decide +kernel
theorem d_V_addressInChain_0 : decode prog_1_method_23_code 0 = .ok (.aload_n 0, 1) := by decide +kernel
theorem d_V_addressInChain_1 : decode prog_1_method_23_code 1 = .ok (.getfield 30, 3) := by decide +kernel
theorem d_V_addressInChain_4 : decode prog_1_method_23_code 4 = .ok (.iload_n 1, 1) := by decide +kernel
theorem d_V_addressInChain_5 : decode prog_1_method_23_code 5 = .ok (.iload_n 2, 1) := by decide +kernel
theorem d_V_addressInChain_6 : decode prog_1_method_23_code 6 = .ok (.bipush 32, 2) := by decide +kernel
theorem d_V_addressInChain_8 : decode prog_1_method_23_code 8 = .ok (.idiv, 1) := by decide +kernel
theorem d_V_addressInChain_9 : decode prog_1_method_23_code 9 = .ok (.invokevirtual 337, 3) := by decide +kernel
theorem d_V_addressInChain_12 : decode prog_1_method_23_code 12 = .ok (.istore_n 3, 1) := by decide +kernel
theorem d_V_addressInChain_13 : decode prog_1_method_23_code 13 = .ok (.iload_n 3, 1) := by decide +kernel
theorem d_V_addressInChain_14 : decode prog_1_method_23_code 14 = .ok (.invokestatic 340, 3) := by decide +kernel
theorem d_V_addressInChain_17 : decode prog_1_method_23_code 17 = .ok (.bipush 32, 2) := by decide +kernel
theorem d_V_addressInChain_19 : decode prog_1_method_23_code 19 = .ok (.imul, 1) := by decide +kernel
theorem d_V_addressInChain_20 : decode prog_1_method_23_code 20 = .ok (.iload_n 2, 1) := by decide +kernel
theorem d_V_addressInChain_21 : decode prog_1_method_23_code 21 = .ok (.bipush 32, 2) := by decide +kernel
theorem d_V_addressInChain_23 : decode prog_1_method_23_code 23 = .ok (.irem, 1) := by decide +kernel
theorem d_V_addressInChain_24 : decode prog_1_method_23_code 24 = .ok (.iadd, 1) := by decide +kernel
theorem d_V_addressInChain_25 : decode prog_1_method_23_code 25 = .ok (.ireturn, 1) := by decide +kernel
theorem d_V_read_0 : decode prog_1_method_9_code 0 = .ok (.aload_n 0, 1) := by decide +kernel
theorem d_V_read_1 : decode prog_1_method_9_code 1 = .ok (.invokevirtual 70, 3) := by decide +kernel
theorem d_V_read_4 : decode prog_1_method_9_code 4 = .ok (.aload_n 0, 1) := by decide +kernel
theorem d_V_read_5 : decode prog_1_method_9_code 5 = .ok (.getfield 12, 3) := by decide +kernel
theorem d_V_read_8 : decode prog_1_method_9_code 8 = .ok (.iload_n 1, 1) := by decide +kernel
theorem d_V_read_9 : decode prog_1_method_9_code 9 = .ok (.invokevirtual 173, 3) := by decide +kernel
theorem d_V_read_12 : decode prog_1_method_9_code 12 = .ok (.ifCond .eq 14, 3) := by decide +kernel
theorem d_V_read_15 : decode prog_1_method_9_code 15 = .ok (.iload_n 2, 1) := by decide +kernel
theorem d_V_read_16 : decode prog_1_method_9_code 16 = .ok (.iconst 1, 1) := by decide +kernel
theorem d_V_read_17 : decode prog_1_method_9_code 17 = .ok (.if_icmp .lt 9, 3) := by decide +kernel
theorem d_V_read_20 : decode prog_1_method_9_code 20 = .ok (.iload_n 2, 1) := by decide +kernel
theorem d_V_read_21 : decode prog_1_method_9_code 21 = .ok (.bipush 7, 2) := by decide +kernel
theorem d_V_read_23 : decode prog_1_method_9_code 23 = .ok (.if_icmp .le 13, 3) := by decide +kernel
theorem d_V_read_26 : decode prog_1_method_9_code 26 = .ok (.new 80, 3) := by decide +kernel
theorem d_V_read_29 : decode prog_1_method_9_code 29 = .ok (.dup, 1) := by decide +kernel
theorem d_V_read_30 : decode prog_1_method_9_code 30 = .ok (.ldc 185, 2) := by decide +kernel
theorem d_V_read_32 : decode prog_1_method_9_code 32 = .ok (.invokespecial 84, 3) := by decide +kernel
theorem d_V_read_35 : decode prog_1_method_9_code 35 = .ok (.athrow, 1) := by decide +kernel
theorem d_V_read_36 : decode prog_1_method_9_code 36 = .ok (.aload_n 0, 1) := by decide +kernel
theorem d_V_read_37 : decode prog_1_method_9_code 37 = .ok (.getfield 12, 3) := by decide +kernel
theorem d_V_read_40 : decode prog_1_method_9_code 40 = .ok (.iload_n 1, 1) := by decide +kernel
theorem d_V_read_41 : decode prog_1_method_9_code 41 = .ok (.invokevirtual 187, 3) := by decide +kernel
theorem d_V_read_44 : decode prog_1_method_9_code 44 = .ok (.istore_n 3, 1) := by decide +kernel
theorem d_V_read_45 : decode prog_1_method_9_code 45 = .ok (.aload_n 0, 1) := by decide +kernel
theorem d_V_read_46 : decode prog_1_method_9_code 46 = .ok (.getfield 21, 3) := by decide +kernel
theorem d_V_read_49 : decode prog_1_method_9_code 49 = .ok (.aload_n 0, 1) := by decide +kernel
theorem d_V_read_50 : decode prog_1_method_9_code 50 = .ok (.getfield 12, 3) := by decide +kernel
theorem d_V_read_53 : decode prog_1_method_9_code 53 = .ok (.iload_n 1, 1) := by decide +kernel
theorem d_V_read_54 : decode prog_1_method_9_code 54 = .ok (.invokevirtual 190, 3) := by decide +kernel
theorem d_V_read_57 : decode prog_1_method_9_code 57 = .ok (.bipush 8, 2) := by decide +kernel
theorem d_V_read_59 : decode prog_1_method_9_code 59 = .ok (.iadd, 1) := by decide +kernel
theorem d_V_read_60 : decode prog_1_method_9_code 60 = .ok (.invokevirtual 193, 3) := by decide +kernel
theorem d_V_read_63 : decode prog_1_method_9_code 63 = .ok (.istore 4, 2) := by decide +kernel
theorem d_V_read_65 : decode prog_1_method_9_code 65 = .ok (.iload_n 2, 1) := by decide +kernel
theorem d_V_read_66 : decode prog_1_method_9_code 66 = .ok (.aload_n 0, 1) := by decide +kernel
theorem d_V_read_67 : decode prog_1_method_9_code 67 = .ok (.iload_n 1, 1) := by decide +kernel
theorem d_V_read_68 : decode prog_1_method_9_code 68 = .ok (.invokevirtual 179, 3) := by decide +kernel
theorem d_V_read_71 : decode prog_1_method_9_code 71 = .ok (.iload_n 3, 1) := by decide +kernel
theorem d_V_read_72 : decode prog_1_method_9_code 72 = .ok (.isub, 1) := by decide +kernel
theorem d_V_read_73 : decode prog_1_method_9_code 73 = .ok (.invokestatic 196, 3) := by decide +kernel
theorem d_V_read_76 : decode prog_1_method_9_code 76 = .ok (.istore 5, 2) := by decide +kernel
theorem d_V_read_78 : decode prog_1_method_9_code 78 = .ok (.lconst 0, 1) := by decide +kernel
theorem d_V_read_79 : decode prog_1_method_9_code 79 = .ok (.lstore 6, 2) := by decide +kernel
theorem d_V_read_81 : decode prog_1_method_9_code 81 = .ok (.iconst 0, 1) := by decide +kernel
theorem d_V_read_82 : decode prog_1_method_9_code 82 = .ok (.istore 8, 2) := by decide +kernel
theorem d_V_read_84 : decode prog_1_method_9_code 84 = .ok (.iload 8, 2) := by decide +kernel
theorem d_V_read_86 : decode prog_1_method_9_code 86 = .ok (.iload 5, 2) := by decide +kernel
theorem d_V_read_88 : decode prog_1_method_9_code 88 = .ok (.if_icmp .ge 35, 3) := by decide +kernel
theorem d_V_read_91 : decode prog_1_method_9_code 91 = .ok (.lload 6, 2) := by decide +kernel
theorem d_V_read_93 : decode prog_1_method_9_code 93 = .ok (.bipush 8, 2) := by decide +kernel
theorem d_V_read_95 : decode prog_1_method_9_code 95 = .ok (.lshl, 1) := by decide +kernel
theorem d_V_read_96 : decode prog_1_method_9_code 96 = .ok (.aload_n 0, 1) := by decide +kernel
theorem d_V_read_97 : decode prog_1_method_9_code 97 = .ok (.getfield 21, 3) := by decide +kernel
theorem d_V_read_100 : decode prog_1_method_9_code 100 = .ok (.aload_n 0, 1) := by decide +kernel
theorem d_V_read_101 : decode prog_1_method_9_code 101 = .ok (.iload 4, 2) := by decide +kernel
theorem d_V_read_103 : decode prog_1_method_9_code 103 = .ok (.iload_n 3, 1) := by decide +kernel
theorem d_V_read_104 : decode prog_1_method_9_code 104 = .ok (.iload 8, 2) := by decide +kernel
theorem d_V_read_106 : decode prog_1_method_9_code 106 = .ok (.iadd, 1) := by decide +kernel
theorem d_V_read_107 : decode prog_1_method_9_code 107 = .ok (.invokevirtual 202, 3) := by decide +kernel
theorem d_V_read_110 : decode prog_1_method_9_code 110 = .ok (.invokevirtual 205, 3) := by decide +kernel
theorem d_V_read_113 : decode prog_1_method_9_code 113 = .ok (.i2l, 1) := by decide +kernel
theorem d_V_read_114 : decode prog_1_method_9_code 114 = .ok (.lor, 1) := by decide +kernel
theorem d_V_read_115 : decode prog_1_method_9_code 115 = .ok (.lstore 6, 2) := by decide +kernel
theorem d_V_read_117 : decode prog_1_method_9_code 117 = .ok (.iinc 8 1, 3) := by decide +kernel
theorem d_V_read_120 : decode prog_1_method_9_code 120 = .ok (.goto (-36), 3) := by decide +kernel
theorem d_V_read_123 : decode prog_1_method_9_code 123 = .ok (.aload_n 0, 1) := by decide +kernel
theorem d_V_read_124 : decode prog_1_method_9_code 124 = .ok (.getfield 12, 3) := by decide +kernel
theorem d_V_read_127 : decode prog_1_method_9_code 127 = .ok (.iload_n 1, 1) := by decide +kernel
theorem d_V_read_128 : decode prog_1_method_9_code 128 = .ok (.iload_n 3, 1) := by decide +kernel
theorem d_V_read_129 : decode prog_1_method_9_code 129 = .ok (.iload 5, 2) := by decide +kernel
theorem d_V_read_131 : decode prog_1_method_9_code 131 = .ok (.iadd, 1) := by decide +kernel
theorem d_V_read_132 : decode prog_1_method_9_code 132 = .ok (.invokevirtual 182, 3) := by decide +kernel
theorem d_V_read_135 : decode prog_1_method_9_code 135 = .ok (.lload 6, 2) := by decide +kernel
theorem d_V_read_137 : decode prog_1_method_9_code 137 = .ok (.iload 5, 2) := by decide +kernel
theorem d_V_read_139 : decode prog_1_method_9_code 139 = .ok (.i2l, 1) := by decide +kernel
theorem d_V_read_140 : decode prog_1_method_9_code 140 = .ok (.bipush 56, 2) := by decide +kernel
theorem d_V_read_142 : decode prog_1_method_9_code 142 = .ok (.lshl, 1) := by decide +kernel
theorem d_V_read_143 : decode prog_1_method_9_code 143 = .ok (.lor, 1) := by decide +kernel
theorem d_V_read_144 : decode prog_1_method_9_code 144 = .ok (.lreturn, 1) := by decide +kernel
theorem d_Folder_indexOfNamed_0 : decode prog_3_method_13_code 0 = .ok (.iconst 0, 1) := by decide +kernel
theorem d_Folder_indexOfNamed_1 : decode prog_3_method_13_code 1 = .ok (.istore_n 2, 1) := by decide +kernel
theorem d_Folder_indexOfNamed_2 : decode prog_3_method_13_code 2 = .ok (.iconst 0, 1) := by decide +kernel
theorem d_Folder_indexOfNamed_3 : decode prog_3_method_13_code 3 = .ok (.istore_n 3, 1) := by decide +kernel
theorem d_Folder_indexOfNamed_4 : decode prog_3_method_13_code 4 = .ok (.iload_n 3, 1) := by decide +kernel
theorem d_Folder_indexOfNamed_5 : decode prog_3_method_13_code 5 = .ok (.aload_n 0, 1) := by decide +kernel
theorem d_Folder_indexOfNamed_6 : decode prog_3_method_13_code 6 = .ok (.getfield 23, 3) := by decide +kernel
theorem d_Folder_indexOfNamed_9 : decode prog_3_method_13_code 9 = .ok (.if_icmp .ge 27, 3) := by decide +kernel
theorem d_Folder_indexOfNamed_12 : decode prog_3_method_13_code 12 = .ok (.aload_n 0, 1) := by decide +kernel
theorem d_Folder_indexOfNamed_13 : decode prog_3_method_13_code 13 = .ok (.iload_n 3, 1) := by decide +kernel
theorem d_Folder_indexOfNamed_14 : decode prog_3_method_13_code 14 = .ok (.invokevirtual 61, 3) := by decide +kernel
theorem d_Folder_indexOfNamed_17 : decode prog_3_method_13_code 17 = .ok (.ifCond .eq 13, 3) := by decide +kernel
theorem d_Folder_indexOfNamed_20 : decode prog_3_method_13_code 20 = .ok (.iload_n 2, 1) := by decide +kernel
theorem d_Folder_indexOfNamed_21 : decode prog_3_method_13_code 21 = .ok (.iload_n 1, 1) := by decide +kernel
theorem d_Folder_indexOfNamed_22 : decode prog_3_method_13_code 22 = .ok (.if_icmp .ne 5, 3) := by decide +kernel
theorem d_Folder_indexOfNamed_25 : decode prog_3_method_13_code 25 = .ok (.iload_n 3, 1) := by decide +kernel
theorem d_Folder_indexOfNamed_26 : decode prog_3_method_13_code 26 = .ok (.ireturn, 1) := by decide +kernel
theorem d_Folder_indexOfNamed_27 : decode prog_3_method_13_code 27 = .ok (.iinc 2 1, 3) := by decide +kernel
theorem d_Folder_indexOfNamed_30 : decode prog_3_method_13_code 30 = .ok (.iinc 3 1, 3) := by decide +kernel
theorem d_Folder_indexOfNamed_33 : decode prog_3_method_13_code 33 = .ok (.goto (-29), 3) := by decide +kernel
theorem d_Folder_indexOfNamed_36 : decode prog_3_method_13_code 36 = .ok (.iconst (-1), 1) := by decide +kernel
theorem d_Folder_indexOfNamed_37 : decode prog_3_method_13_code 37 = .ok (.ireturn, 1) := by decide +kernel
theorem d_V_canBeListed_0 : decode prog_1_method_27_code 0 = .ok (.iload_n 0, 1) := by decide +kernel
theorem d_V_canBeListed_1 : decode prog_1_method_27_code 1 = .ok (.ifCond .lt 8, 3) := by decide +kernel
theorem d_V_canBeListed_4 : decode prog_1_method_27_code 4 = .ok (.iload_n 0, 1) := by decide +kernel
theorem d_V_canBeListed_5 : decode prog_1_method_27_code 5 = .ok (.iconst 3, 1) := by decide +kernel
theorem d_V_canBeListed_6 : decode prog_1_method_27_code 6 = .ok (.if_icmp .le 27, 3) := by decide +kernel
theorem d_V_canBeListed_9 : decode prog_1_method_27_code 9 = .ok (.iload_n 0, 1) := by decide +kernel
theorem d_V_canBeListed_10 : decode prog_1_method_27_code 10 = .ok (.bipush 10, 2) := by decide +kernel
theorem d_V_canBeListed_12 : decode prog_1_method_27_code 12 = .ok (.if_icmp .lt 9, 3) := by decide +kernel
theorem d_V_canBeListed_15 : decode prog_1_method_27_code 15 = .ok (.iload_n 0, 1) := by decide +kernel
theorem d_V_canBeListed_16 : decode prog_1_method_27_code 16 = .ok (.bipush 16, 2) := by decide +kernel
theorem d_V_canBeListed_18 : decode prog_1_method_27_code 18 = .ok (.if_icmp .lt 15, 3) := by decide +kernel
theorem d_V_canBeListed_21 : decode prog_1_method_27_code 21 = .ok (.iload_n 0, 1) := by decide +kernel
theorem d_V_canBeListed_22 : decode prog_1_method_27_code 22 = .ok (.bipush 20, 2) := by decide +kernel
theorem d_V_canBeListed_24 : decode prog_1_method_27_code 24 = .ok (.if_icmp .lt 13, 3) := by decide +kernel
theorem d_V_canBeListed_27 : decode prog_1_method_27_code 27 = .ok (.iload_n 0, 1) := by decide +kernel
theorem d_V_canBeListed_28 : decode prog_1_method_27_code 28 = .ok (.bipush 46, 2) := by decide +kernel
theorem d_V_canBeListed_30 : decode prog_1_method_27_code 30 = .ok (.if_icmp .ge 7, 3) := by decide +kernel
theorem d_V_canBeListed_33 : decode prog_1_method_27_code 33 = .ok (.iconst 1, 1) := by decide +kernel
theorem d_V_canBeListed_34 : decode prog_1_method_27_code 34 = .ok (.goto 4, 3) := by decide +kernel
theorem d_V_canBeListed_37 : decode prog_1_method_27_code 37 = .ok (.iconst 0, 1) := by decide +kernel
theorem d_V_canBeListed_38 : decode prog_1_method_27_code 38 = .ok (.ireturn, 1) := by decide +kernel
theorem d_Folder_shortCharOf_0 : decode prog_3_method_21_code 0 = .ok (.iload_n 2, 1) := by decide +kernel
theorem d_Folder_shortCharOf_1 : decode prog_3_method_21_code 1 = .ok (.aload_n 0, 1) := by decide +kernel
theorem d_Folder_shortCharOf_2 : decode prog_3_method_21_code 2 = .ok (.iload_n 1, 1) := by decide +kernel
theorem d_Folder_shortCharOf_3 : decode prog_3_method_21_code 3 = .ok (.invokevirtual 81, 3) := by decide +kernel
theorem d_Folder_shortCharOf_6 : decode prog_3_method_21_code 6 = .ok (.if_icmp .ge 12, 3) := by decide +kernel
theorem d_Folder_shortCharOf_9 : decode prog_3_method_21_code 9 = .ok (.aload_n 0, 1) := by decide +kernel
theorem d_Folder_shortCharOf_10 : decode prog_3_method_21_code 10 = .ok (.iload_n 1, 1) := by decide +kernel
theorem d_Folder_shortCharOf_11 : decode prog_3_method_21_code 11 = .ok (.iload_n 2, 1) := by decide +kernel
theorem d_Folder_shortCharOf_12 : decode prog_3_method_21_code 12 = .ok (.invokevirtual 51, 3) := by decide +kernel
theorem d_Folder_shortCharOf_15 : decode prog_3_method_21_code 15 = .ok (.goto 4, 3) := by decide +kernel
theorem d_Folder_shortCharOf_18 : decode prog_3_method_21_code 18 = .ok (.iconst (-1), 1) := by decide +kernel
theorem d_Folder_shortCharOf_19 : decode prog_3_method_21_code 19 = .ok (.ireturn, 1) := by decide +kernel
theorem d_Folder_longCharOf_0 : decode prog_3_method_28_code 0 = .ok (.iload_n 2, 1) := by decide +kernel
theorem d_Folder_longCharOf_1 : decode prog_3_method_28_code 1 = .ok (.aload_n 0, 1) := by decide +kernel
theorem d_Folder_longCharOf_2 : decode prog_3_method_28_code 2 = .ok (.iload_n 1, 1) := by decide +kernel
theorem d_Folder_longCharOf_3 : decode prog_3_method_28_code 3 = .ok (.aload_n 0, 1) := by decide +kernel
theorem d_Folder_longCharOf_4 : decode prog_3_method_28_code 4 = .ok (.iload_n 1, 1) := by decide +kernel
theorem d_Folder_longCharOf_5 : decode prog_3_method_28_code 5 = .ok (.invokevirtual 74, 3) := by decide +kernel
theorem d_Folder_longCharOf_8 : decode prog_3_method_28_code 8 = .ok (.invokevirtual 95, 3) := by decide +kernel
theorem d_Folder_longCharOf_11 : decode prog_3_method_28_code 11 = .ok (.if_icmp .ge 12, 3) := by decide +kernel
theorem d_Folder_longCharOf_14 : decode prog_3_method_28_code 14 = .ok (.aload_n 0, 1) := by decide +kernel
theorem d_Folder_longCharOf_15 : decode prog_3_method_28_code 15 = .ok (.iload_n 1, 1) := by decide +kernel
theorem d_Folder_longCharOf_16 : decode prog_3_method_28_code 16 = .ok (.iload_n 2, 1) := by decide +kernel
theorem d_Folder_longCharOf_17 : decode prog_3_method_28_code 17 = .ok (.invokevirtual 98, 3) := by decide +kernel
theorem d_Folder_longCharOf_20 : decode prog_3_method_28_code 20 = .ok (.goto 4, 3) := by decide +kernel
theorem d_Folder_longCharOf_23 : decode prog_3_method_28_code 23 = .ok (.iconst (-1), 1) := by decide +kernel
theorem d_Folder_longCharOf_24 : decode prog_3_method_28_code 24 = .ok (.ireturn, 1) := by decide +kernel
theorem d_Folder_sizeOf_0 : decode prog_3_method_9_code 0 = .ok (.aload_n 0, 1) := by decide +kernel
theorem d_Folder_sizeOf_1 : decode prog_3_method_9_code 1 = .ok (.iload_n 1, 1) := by decide +kernel
theorem d_Folder_sizeOf_2 : decode prog_3_method_9_code 2 = .ok (.bipush 10, 2) := by decide +kernel
theorem d_Folder_sizeOf_4 : decode prog_3_method_9_code 4 = .ok (.invokevirtual 55, 3) := by decide +kernel
theorem d_Folder_sizeOf_7 : decode prog_3_method_9_code 7 = .ok (.ireturn, 1) := by decide +kernel
theorem d_V_list_0 : decode prog_1_method_11_code 0 = .ok (.aload_n 0, 1) := by decide +kernel
theorem d_V_list_1 : decode prog_1_method_11_code 1 = .ok (.invokevirtual 70, 3) := by decide +kernel
theorem d_V_list_4 : decode prog_1_method_11_code 4 = .ok (.aload_n 0, 1) := by decide +kernel
theorem d_V_list_5 : decode prog_1_method_11_code 5 = .ok (.getfield 39, 3) := by decide +kernel
theorem d_V_list_8 : decode prog_1_method_11_code 8 = .ok (.aload_n 0, 1) := by decide +kernel
theorem d_V_list_9 : decode prog_1_method_11_code 9 = .ok (.getfield 12, 3) := by decide +kernel
theorem d_V_list_12 : decode prog_1_method_11_code 12 = .ok (.getfield 87, 3) := by decide +kernel
theorem d_V_list_15 : decode prog_1_method_11_code 15 = .ok (.invokevirtual 91, 3) := by decide +kernel
theorem d_V_list_18 : decode prog_1_method_11_code 18 = .ok (.aload_n 0, 1) := by decide +kernel
theorem d_V_list_19 : decode prog_1_method_11_code 19 = .ok (.getfield 39, 3) := by decide +kernel
theorem d_V_list_22 : decode prog_1_method_11_code 22 = .ok (.iload_n 1, 1) := by decide +kernel
theorem d_V_list_23 : decode prog_1_method_11_code 23 = .ok (.invokevirtual 225, 3) := by decide +kernel
theorem d_V_list_26 : decode prog_1_method_11_code 26 = .ok (.istore_n 3, 1) := by decide +kernel
theorem d_V_list_27 : decode prog_1_method_11_code 27 = .ok (.iload_n 3, 1) := by decide +kernel
theorem d_V_list_28 : decode prog_1_method_11_code 28 = .ok (.iconst (-1), 1) := by decide +kernel
theorem d_V_list_29 : decode prog_1_method_11_code 29 = .ok (.if_icmp .ne 13, 3) := by decide +kernel
theorem d_V_list_32 : decode prog_1_method_11_code 32 = .ok (.new 128, 3) := by decide +kernel
theorem d_V_list_35 : decode prog_1_method_11_code 35 = .ok (.dup, 1) := by decide +kernel
theorem d_V_list_36 : decode prog_1_method_11_code 36 = .ok (.ldc 228, 2) := by decide +kernel
theorem d_V_list_38 : decode prog_1_method_11_code 38 = .ok (.invokespecial 132, 3) := by decide +kernel
theorem d_V_list_41 : decode prog_1_method_11_code 41 = .ok (.athrow, 1) := by decide +kernel
theorem d_V_list_42 : decode prog_1_method_11_code 42 = .ok (.iload_n 2, 1) := by decide +kernel
theorem d_V_list_43 : decode prog_1_method_11_code 43 = .ok (.invokestatic 230, 3) := by decide +kernel
theorem d_V_list_46 : decode prog_1_method_11_code 46 = .ok (.ifCond .ne 13, 3) := by decide +kernel
theorem d_V_list_49 : decode prog_1_method_11_code 49 = .ok (.new 233, 3) := by decide +kernel
theorem d_V_list_52 : decode prog_1_method_11_code 52 = .ok (.dup, 1) := by decide +kernel
theorem d_V_list_53 : decode prog_1_method_11_code 53 = .ok (.ldc 235, 2) := by decide +kernel
theorem d_V_list_55 : decode prog_1_method_11_code 55 = .ok (.invokespecial 237, 3) := by decide +kernel
theorem d_V_list_58 : decode prog_1_method_11_code 58 = .ok (.athrow, 1) := by decide +kernel
theorem d_V_list_59 : decode prog_1_method_11_code 59 = .ok (.iload_n 2, 1) := by decide +kernel
theorem d_V_list_60 : decode prog_1_method_11_code 60 = .ok (.tableswitch 76 0 3 #[32, 41, 50, 59], 32) := by decide +kernel
theorem d_V_list_92 : decode prog_1_method_11_code 92 = .ok (.aload_n 0, 1) := by decide +kernel
theorem d_V_list_93 : decode prog_1_method_11_code 93 = .ok (.getfield 39, 3) := by decide +kernel
theorem d_V_list_96 : decode prog_1_method_11_code 96 = .ok (.iload_n 3, 1) := by decide +kernel
theorem d_V_list_97 : decode prog_1_method_11_code 97 = .ok (.invokevirtual 238, 3) := by decide +kernel
theorem d_V_list_100 : decode prog_1_method_11_code 100 = .ok (.ireturn, 1) := by decide +kernel
theorem d_V_list_101 : decode prog_1_method_11_code 101 = .ok (.aload_n 0, 1) := by decide +kernel
theorem d_V_list_102 : decode prog_1_method_11_code 102 = .ok (.getfield 39, 3) := by decide +kernel
theorem d_V_list_105 : decode prog_1_method_11_code 105 = .ok (.iload_n 3, 1) := by decide +kernel
theorem d_V_list_106 : decode prog_1_method_11_code 106 = .ok (.invokevirtual 241, 3) := by decide +kernel
theorem d_V_list_109 : decode prog_1_method_11_code 109 = .ok (.ireturn, 1) := by decide +kernel
theorem d_V_list_110 : decode prog_1_method_11_code 110 = .ok (.aload_n 0, 1) := by decide +kernel
theorem d_V_list_111 : decode prog_1_method_11_code 111 = .ok (.getfield 39, 3) := by decide +kernel
theorem d_V_list_114 : decode prog_1_method_11_code 114 = .ok (.iload_n 3, 1) := by decide +kernel
theorem d_V_list_115 : decode prog_1_method_11_code 115 = .ok (.invokevirtual 142, 3) := by decide +kernel
theorem d_V_list_118 : decode prog_1_method_11_code 118 = .ok (.ireturn, 1) := by decide +kernel
theorem d_V_list_119 : decode prog_1_method_11_code 119 = .ok (.aload_n 0, 1) := by decide +kernel
theorem d_V_list_120 : decode prog_1_method_11_code 120 = .ok (.getfield 39, 3) := by decide +kernel
theorem d_V_list_123 : decode prog_1_method_11_code 123 = .ok (.iload_n 3, 1) := by decide +kernel
theorem d_V_list_124 : decode prog_1_method_11_code 124 = .ok (.aload_n 0, 1) := by decide +kernel
theorem d_V_list_125 : decode prog_1_method_11_code 125 = .ok (.getfield 39, 3) := by decide +kernel
theorem d_V_list_128 : decode prog_1_method_11_code 128 = .ok (.iload_n 3, 1) := by decide +kernel
theorem d_V_list_129 : decode prog_1_method_11_code 129 = .ok (.invokevirtual 244, 3) := by decide +kernel
theorem d_V_list_132 : decode prog_1_method_11_code 132 = .ok (.invokevirtual 247, 3) := by decide +kernel
theorem d_V_list_135 : decode prog_1_method_11_code 135 = .ok (.ireturn, 1) := by decide +kernel
theorem d_V_list_136 : decode prog_1_method_11_code 136 = .ok (.iload_n 2, 1) := by decide +kernel
theorem d_V_list_137 : decode prog_1_method_11_code 137 = .ok (.bipush 20, 2) := by decide +kernel
theorem d_V_list_139 : decode prog_1_method_11_code 139 = .ok (.if_icmp .ge 18, 3) := by decide +kernel
theorem d_V_list_142 : decode prog_1_method_11_code 142 = .ok (.aload_n 0, 1) := by decide +kernel
theorem d_V_list_143 : decode prog_1_method_11_code 143 = .ok (.getfield 39, 3) := by decide +kernel
theorem d_V_list_146 : decode prog_1_method_11_code 146 = .ok (.iload_n 3, 1) := by decide +kernel
theorem d_V_list_147 : decode prog_1_method_11_code 147 = .ok (.iload_n 2, 1) := by decide +kernel
theorem d_V_list_148 : decode prog_1_method_11_code 148 = .ok (.bipush 10, 2) := by decide +kernel
theorem d_V_list_150 : decode prog_1_method_11_code 150 = .ok (.isub, 1) := by decide +kernel
theorem d_V_list_151 : decode prog_1_method_11_code 151 = .ok (.invokevirtual 250, 3) := by decide +kernel
theorem d_V_list_154 : decode prog_1_method_11_code 154 = .ok (.goto 15, 3) := by decide +kernel
theorem d_V_list_157 : decode prog_1_method_11_code 157 = .ok (.aload_n 0, 1) := by decide +kernel
theorem d_V_list_158 : decode prog_1_method_11_code 158 = .ok (.getfield 39, 3) := by decide +kernel
theorem d_V_list_161 : decode prog_1_method_11_code 161 = .ok (.iload_n 3, 1) := by decide +kernel
theorem d_V_list_162 : decode prog_1_method_11_code 162 = .ok (.iload_n 2, 1) := by decide +kernel
theorem d_V_list_163 : decode prog_1_method_11_code 163 = .ok (.bipush 20, 2) := by decide +kernel
theorem d_V_list_165 : decode prog_1_method_11_code 165 = .ok (.isub, 1) := by decide +kernel
theorem d_V_list_166 : decode prog_1_method_11_code 166 = .ok (.invokevirtual 253, 3) := by decide +kernel
theorem d_V_list_169 : decode prog_1_method_11_code 169 = .ok (.ireturn, 1) := by decide +kernel
theorem d_Disk_setCut_0 : decode prog_2_method_5_code 0 = .ok (.iload_n 1, 1) := by decide +kernel
theorem d_Disk_setCut_1 : decode prog_2_method_5_code 1 = .ok (.ifCond .lt 10, 3) := by decide +kernel
theorem d_Disk_setCut_4 : decode prog_2_method_5_code 4 = .ok (.aload_n 0, 1) := by decide +kernel
theorem d_Disk_setCut_5 : decode prog_2_method_5_code 5 = .ok (.getfield 19, 3) := by decide +kernel
theorem d_Disk_setCut_8 : decode prog_2_method_5_code 8 = .ok (.ifCond .ne 5, 3) := by decide +kernel
theorem d_Disk_setCut_11 : decode prog_2_method_5_code 11 = .ok (.iconst 0, 1) := by decide +kernel
theorem d_Disk_setCut_12 : decode prog_2_method_5_code 12 = .ok (.ireturn, 1) := by decide +kernel
theorem d_Disk_setCut_13 : decode prog_2_method_5_code 13 = .ok (.aload_n 0, 1) := by decide +kernel
theorem d_Disk_setCut_14 : decode prog_2_method_5_code 14 = .ok (.iconst 1, 1) := by decide +kernel
theorem d_Disk_setCut_15 : decode prog_2_method_5_code 15 = .ok (.putfield 23, 3) := by decide +kernel
theorem d_Disk_setCut_18 : decode prog_2_method_5_code 18 = .ok (.aload_n 0, 1) := by decide +kernel
theorem d_Disk_setCut_19 : decode prog_2_method_5_code 19 = .ok (.iload_n 1, 1) := by decide +kernel
theorem d_Disk_setCut_20 : decode prog_2_method_5_code 20 = .ok (.putfield 26, 3) := by decide +kernel
theorem d_Disk_setCut_23 : decode prog_2_method_5_code 23 = .ok (.iconst 1, 1) := by decide +kernel
theorem d_Disk_setCut_24 : decode prog_2_method_5_code 24 = .ok (.ireturn, 1) := by decide +kernel
theorem d_V_cut_0 : decode prog_1_method_12_code 0 = .ok (.aload_n 0, 1) := by decide +kernel
theorem d_V_cut_1 : decode prog_1_method_12_code 1 = .ok (.getfield 21, 3) := by decide +kernel
theorem d_V_cut_4 : decode prog_1_method_12_code 4 = .ok (.iload_n 1, 1) := by decide +kernel
theorem d_V_cut_5 : decode prog_1_method_12_code 5 = .ok (.invokevirtual 256, 3) := by decide +kernel
theorem d_V_cut_8 : decode prog_1_method_12_code 8 = .ok (.ireturn, 1) := by decide +kernel
theorem d_Disk_switchOn_0 : decode prog_2_method_6_code 0 = .ok (.aload_n 0, 1) := by decide +kernel
theorem d_Disk_switchOn_1 : decode prog_2_method_6_code 1 = .ok (.getfield 19, 3) := by decide +kernel
theorem d_Disk_switchOn_4 : decode prog_2_method_6_code 4 = .ok (.ifCond .ne 7, 3) := by decide +kernel
theorem d_Disk_switchOn_7 : decode prog_2_method_6_code 7 = .ok (.iconst 1, 1) := by decide +kernel
theorem d_Disk_switchOn_8 : decode prog_2_method_6_code 8 = .ok (.goto 4, 3) := by decide +kernel
theorem d_Disk_switchOn_11 : decode prog_2_method_6_code 11 = .ok (.iconst 0, 1) := by decide +kernel
theorem d_Disk_switchOn_12 : decode prog_2_method_6_code 12 = .ok (.istore_n 1, 1) := by decide +kernel
theorem d_Disk_switchOn_13 : decode prog_2_method_6_code 13 = .ok (.aload_n 0, 1) := by decide +kernel
theorem d_Disk_switchOn_14 : decode prog_2_method_6_code 14 = .ok (.iconst 1, 1) := by decide +kernel
theorem d_Disk_switchOn_15 : decode prog_2_method_6_code 15 = .ok (.putfield 19, 3) := by decide +kernel
theorem d_Disk_switchOn_18 : decode prog_2_method_6_code 18 = .ok (.iload_n 1, 1) := by decide +kernel
theorem d_Disk_switchOn_19 : decode prog_2_method_6_code 19 = .ok (.ireturn, 1) := by decide +kernel
theorem d_V_power_0 : decode prog_1_method_13_code 0 = .ok (.aload_n 0, 1) := by decide +kernel
theorem d_V_power_1 : decode prog_1_method_13_code 1 = .ok (.getfield 21, 3) := by decide +kernel
theorem d_V_power_4 : decode prog_1_method_13_code 4 = .ok (.invokevirtual 259, 3) := by decide +kernel
theorem d_V_power_7 : decode prog_1_method_13_code 7 = .ok (.ireturn, 1) := by decide +kernel
theorem d_V_isOnDisk_0 : decode prog_1_method_28_code 0 = .ok (.iload_n 0, 1) := by decide +kernel
theorem d_V_isOnDisk_1 : decode prog_1_method_28_code 1 = .ok (.ifCond .lt 23, 3) := by decide +kernel
theorem d_V_isOnDisk_4 : decode prog_1_method_28_code 4 = .ok (.iload_n 0, 1) := by decide +kernel
theorem d_V_isOnDisk_5 : decode prog_1_method_28_code 5 = .ok (.bipush 70, 2) := by decide +kernel
theorem d_V_isOnDisk_7 : decode prog_1_method_28_code 7 = .ok (.if_icmp .ge 17, 3) := by decide +kernel
theorem d_V_isOnDisk_10 : decode prog_1_method_28_code 10 = .ok (.iload_n 1, 1) := by decide +kernel
theorem d_V_isOnDisk_11 : decode prog_1_method_28_code 11 = .ok (.ifCond .lt 13, 3) := by decide +kernel
theorem d_V_isOnDisk_14 : decode prog_1_method_28_code 14 = .ok (.iload_n 1, 1) := by decide +kernel
theorem d_V_isOnDisk_15 : decode prog_1_method_28_code 15 = .ok (.bipush 32, 2) := by decide +kernel
theorem d_V_isOnDisk_17 : decode prog_1_method_28_code 17 = .ok (.if_icmp .ge 7, 3) := by decide +kernel
theorem d_V_isOnDisk_20 : decode prog_1_method_28_code 20 = .ok (.iconst 1, 1) := by decide +kernel
theorem d_V_isOnDisk_21 : decode prog_1_method_28_code 21 = .ok (.goto 4, 3) := by decide +kernel
theorem d_V_isOnDisk_24 : decode prog_1_method_28_code 24 = .ok (.iconst 0, 1) := by decide +kernel
theorem d_V_isOnDisk_25 : decode prog_1_method_28_code 25 = .ok (.ireturn, 1) := by decide +kernel
theorem d_V_octet_0 : decode prog_1_method_15_code 0 = .ok (.iload_n 1, 1) := by decide +kernel
theorem d_V_octet_1 : decode prog_1_method_15_code 1 = .ok (.iload_n 2, 1) := by decide +kernel
theorem d_V_octet_2 : decode prog_1_method_15_code 2 = .ok (.invokestatic 292, 3) := by decide +kernel
theorem d_V_octet_5 : decode prog_1_method_15_code 5 = .ok (.ifCond .eq 19, 3) := by decide +kernel
theorem d_V_octet_8 : decode prog_1_method_15_code 8 = .ok (.aload_n 0, 1) := by decide +kernel
theorem d_V_octet_9 : decode prog_1_method_15_code 9 = .ok (.getfield 21, 3) := by decide +kernel
theorem d_V_octet_12 : decode prog_1_method_15_code 12 = .ok (.iload_n 1, 1) := by decide +kernel
theorem d_V_octet_13 : decode prog_1_method_15_code 13 = .ok (.bipush 32, 2) := by decide +kernel
theorem d_V_octet_15 : decode prog_1_method_15_code 15 = .ok (.imul, 1) := by decide +kernel
theorem d_V_octet_16 : decode prog_1_method_15_code 16 = .ok (.iload_n 2, 1) := by decide +kernel
theorem d_V_octet_17 : decode prog_1_method_15_code 17 = .ok (.iadd, 1) := by decide +kernel
theorem d_V_octet_18 : decode prog_1_method_15_code 18 = .ok (.invokevirtual 205, 3) := by decide +kernel
theorem d_V_octet_21 : decode prog_1_method_15_code 21 = .ok (.goto 4, 3) := by decide +kernel
theorem d_V_octet_24 : decode prog_1_method_15_code 24 = .ok (.iconst (-1), 1) := by decide +kernel
theorem d_V_octet_25 : decode prog_1_method_15_code 25 = .ok (.ireturn, 1) := by decide +kernel
theorem d_Disk_put_0 : decode prog_2_method_4_code 0 = .ok (.iload_n 1, 1) := by decide +kernel
theorem d_Disk_put_1 : decode prog_2_method_4_code 1 = .ok (.ifCond .lt 23, 3) := by decide +kernel
theorem d_Disk_put_4 : decode prog_2_method_4_code 4 = .ok (.iload_n 1, 1) := by decide +kernel
theorem d_Disk_put_5 : decode prog_2_method_4_code 5 = .ok (.aload_n 0, 1) := by decide +kernel
theorem d_Disk_put_6 : decode prog_2_method_4_code 6 = .ok (.getfield 15, 3) := by decide +kernel
theorem d_Disk_put_9 : decode prog_2_method_4_code 9 = .ok (.arraylength, 1) := by decide +kernel
theorem d_Disk_put_10 : decode prog_2_method_4_code 10 = .ok (.if_icmp .ge 14, 3) := by decide +kernel
theorem d_Disk_put_13 : decode prog_2_method_4_code 13 = .ok (.aload_n 0, 1) := by decide +kernel
theorem d_Disk_put_14 : decode prog_2_method_4_code 14 = .ok (.getfield 15, 3) := by decide +kernel
theorem d_Disk_put_17 : decode prog_2_method_4_code 17 = .ok (.iload_n 1, 1) := by decide +kernel
theorem d_Disk_put_18 : decode prog_2_method_4_code 18 = .ok (.iload_n 2, 1) := by decide +kernel
theorem d_Disk_put_19 : decode prog_2_method_4_code 19 = .ok (.sipush 255, 3) := by decide +kernel
theorem d_Disk_put_22 : decode prog_2_method_4_code 22 = .ok (.iand, 1) := by decide +kernel
theorem d_Disk_put_23 : decode prog_2_method_4_code 23 = .ok (.iastore, 1) := by decide +kernel
theorem d_Disk_put_24 : decode prog_2_method_4_code 24 = .ok (.return_, 1) := by decide +kernel
theorem d_Ses_leave_0 : decode prog_6_method_5_code 0 = .ok (.aload_n 0, 1) := by decide +kernel
theorem d_Ses_leave_1 : decode prog_6_method_5_code 1 = .ok (.iconst 2, 1) := by decide +kernel
theorem d_Ses_leave_2 : decode prog_6_method_5_code 2 = .ok (.putfield 29, 3) := by decide +kernel
theorem d_Ses_leave_5 : decode prog_6_method_5_code 5 = .ok (.aload_n 0, 1) := by decide +kernel
theorem d_Ses_leave_6 : decode prog_6_method_5_code 6 = .ok (.iconst 1, 1) := by decide +kernel
theorem d_Ses_leave_7 : decode prog_6_method_5_code 7 = .ok (.putfield 32, 3) := by decide +kernel
theorem d_Ses_leave_10 : decode prog_6_method_5_code 10 = .ok (.iconst 0, 1) := by decide +kernel
theorem d_Ses_leave_11 : decode prog_6_method_5_code 11 = .ok (.istore_n 1, 1) := by decide +kernel
theorem d_Ses_leave_12 : decode prog_6_method_5_code 12 = .ok (.iload_n 1, 1) := by decide +kernel
theorem d_Ses_leave_13 : decode prog_6_method_5_code 13 = .ok (.iconst 4, 1) := by decide +kernel
theorem d_Ses_leave_14 : decode prog_6_method_5_code 14 = .ok (.if_icmp .ge 23, 3) := by decide +kernel
theorem d_Ses_leave_17 : decode prog_6_method_5_code 17 = .ok (.aload_n 0, 1) := by decide +kernel
theorem d_Ses_leave_18 : decode prog_6_method_5_code 18 = .ok (.getfield 15, 3) := by decide +kernel
theorem d_Ses_leave_21 : decode prog_6_method_5_code 21 = .ok (.iload_n 1, 1) := by decide +kernel
theorem d_Ses_leave_22 : decode prog_6_method_5_code 22 = .ok (.iconst (-1), 1) := by decide +kernel
theorem d_Ses_leave_23 : decode prog_6_method_5_code 23 = .ok (.iastore, 1) := by decide +kernel
theorem d_Ses_leave_24 : decode prog_6_method_5_code 24 = .ok (.aload_n 0, 1) := by decide +kernel
theorem d_Ses_leave_25 : decode prog_6_method_5_code 25 = .ok (.getfield 19, 3) := by decide +kernel
theorem d_Ses_leave_28 : decode prog_6_method_5_code 28 = .ok (.iload_n 1, 1) := by decide +kernel
theorem d_Ses_leave_29 : decode prog_6_method_5_code 29 = .ok (.iconst 0, 1) := by decide +kernel
theorem d_Ses_leave_30 : decode prog_6_method_5_code 30 = .ok (.iastore, 1) := by decide +kernel
theorem d_Ses_leave_31 : decode prog_6_method_5_code 31 = .ok (.iinc 1 1, 3) := by decide +kernel
theorem d_Ses_leave_34 : decode prog_6_method_5_code 34 = .ok (.goto (-22), 3) := by decide +kernel
theorem d_Ses_leave_37 : decode prog_6_method_5_code 37 = .ok (.return_, 1) := by decide +kernel
theorem d_V_poke_0 : decode prog_1_method_16_code 0 = .ok (.iload_n 1, 1) := by decide +kernel
theorem d_V_poke_1 : decode prog_1_method_16_code 1 = .ok (.iload_n 2, 1) := by decide +kernel
theorem d_V_poke_2 : decode prog_1_method_16_code 2 = .ok (.invokestatic 292, 3) := by decide +kernel
theorem d_V_poke_5 : decode prog_1_method_16_code 5 = .ok (.ifCond .ne 5, 3) := by decide +kernel
theorem d_V_poke_8 : decode prog_1_method_16_code 8 = .ok (.iconst 0, 1) := by decide +kernel
theorem d_V_poke_9 : decode prog_1_method_16_code 9 = .ok (.ireturn, 1) := by decide +kernel
theorem d_V_poke_10 : decode prog_1_method_16_code 10 = .ok (.aload_n 0, 1) := by decide +kernel
theorem d_V_poke_11 : decode prog_1_method_16_code 11 = .ok (.getfield 21, 3) := by decide +kernel
theorem d_V_poke_14 : decode prog_1_method_16_code 14 = .ok (.iload_n 1, 1) := by decide +kernel
theorem d_V_poke_15 : decode prog_1_method_16_code 15 = .ok (.bipush 32, 2) := by decide +kernel
theorem d_V_poke_17 : decode prog_1_method_16_code 17 = .ok (.imul, 1) := by decide +kernel
theorem d_V_poke_18 : decode prog_1_method_16_code 18 = .ok (.iload_n 2, 1) := by decide +kernel
theorem d_V_poke_19 : decode prog_1_method_16_code 19 = .ok (.iadd, 1) := by decide +kernel
theorem d_V_poke_20 : decode prog_1_method_16_code 20 = .ok (.iload_n 3, 1) := by decide +kernel
theorem d_V_poke_21 : decode prog_1_method_16_code 21 = .ok (.invokevirtual 296, 3) := by decide +kernel
theorem d_V_poke_24 : decode prog_1_method_16_code 24 = .ok (.aload_n 0, 1) := by decide +kernel
theorem d_V_poke_25 : decode prog_1_method_16_code 25 = .ok (.getfield 21, 3) := by decide +kernel
theorem d_V_poke_28 : decode prog_1_method_16_code 28 = .ok (.iconst 1, 1) := by decide +kernel
theorem d_V_poke_29 : decode prog_1_method_16_code 29 = .ok (.putfield 286, 3) := by decide +kernel
theorem d_V_poke_32 : decode prog_1_method_16_code 32 = .ok (.aload_n 0, 1) := by decide +kernel
theorem d_V_poke_33 : decode prog_1_method_16_code 33 = .ok (.getfield 12, 3) := by decide +kernel
theorem d_V_poke_36 : decode prog_1_method_16_code 36 = .ok (.invokevirtual 271, 3) := by decide +kernel
theorem d_V_poke_39 : decode prog_1_method_16_code 39 = .ok (.iconst 1, 1) := by decide +kernel
theorem d_V_poke_40 : decode prog_1_method_16_code 40 = .ok (.ireturn, 1) := by decide +kernel
theorem d_Table_isFree_0 : decode prog_7_method_6_code 0 = .ok (.aload_n 0, 1) := by decide +kernel
theorem d_Table_isFree_1 : decode prog_7_method_6_code 1 = .ok (.iload_n 1, 1) := by decide +kernel
theorem d_Table_isFree_2 : decode prog_7_method_6_code 2 = .ok (.invokevirtual 25, 3) := by decide +kernel
theorem d_Table_isFree_5 : decode prog_7_method_6_code 5 = .ok (.ifCond .ne 7, 3) := by decide +kernel
theorem d_Table_isFree_8 : decode prog_7_method_6_code 8 = .ok (.iconst 1, 1) := by decide +kernel
theorem d_Table_isFree_9 : decode prog_7_method_6_code 9 = .ok (.goto 4, 3) := by decide +kernel
theorem d_Table_isFree_12 : decode prog_7_method_6_code 12 = .ok (.iconst 0, 1) := by decide +kernel
theorem d_Table_isFree_13 : decode prog_7_method_6_code 13 = .ok (.ireturn, 1) := by decide +kernel
theorem d_Table_countFree_0 : decode prog_7_method_7_code 0 = .ok (.iconst 0, 1) := by decide +kernel
theorem d_Table_countFree_1 : decode prog_7_method_7_code 1 = .ok (.istore_n 1, 1) := by decide +kernel
theorem d_Table_countFree_2 : decode prog_7_method_7_code 2 = .ok (.iconst 2, 1) := by decide +kernel
theorem d_Table_countFree_3 : decode prog_7_method_7_code 3 = .ok (.istore_n 2, 1) := by decide +kernel
theorem d_Table_countFree_4 : decode prog_7_method_7_code 4 = .ok (.iload_n 2, 1) := by decide +kernel
theorem d_Table_countFree_5 : decode prog_7_method_7_code 5 = .ok (.bipush 64, 2) := by decide +kernel
theorem d_Table_countFree_7 : decode prog_7_method_7_code 7 = .ok (.if_icmp .ge 20, 3) := by decide +kernel
theorem d_Table_countFree_10 : decode prog_7_method_7_code 10 = .ok (.aload_n 0, 1) := by decide +kernel
theorem d_Table_countFree_11 : decode prog_7_method_7_code 11 = .ok (.iload_n 2, 1) := by decide +kernel
theorem d_Table_countFree_12 : decode prog_7_method_7_code 12 = .ok (.invokevirtual 28, 3) := by decide +kernel
theorem d_Table_countFree_15 : decode prog_7_method_7_code 15 = .ok (.ifCond .eq 6, 3) := by decide +kernel
theorem d_Table_countFree_18 : decode prog_7_method_7_code 18 = .ok (.iinc 1 1, 3) := by decide +kernel
theorem d_Table_countFree_21 : decode prog_7_method_7_code 21 = .ok (.iinc 2 1, 3) := by decide +kernel
theorem d_Table_countFree_24 : decode prog_7_method_7_code 24 = .ok (.goto (-20), 3) := by decide +kernel
theorem d_Table_countFree_27 : decode prog_7_method_7_code 27 = .ok (.iload_n 1, 1) := by decide +kernel
theorem d_Table_countFree_28 : decode prog_7_method_7_code 28 = .ok (.ireturn, 1) := by decide +kernel
theorem d_V_look_0 : decode prog_1_method_17_code 0 = .ok (.iload_n 1, 1) := by decide +kernel
theorem d_V_look_1 : decode prog_1_method_17_code 1 = .ok (.tableswitch 83 0 4 #[35, 51, 59, 67, 75], 35) := by decide +kernel
theorem d_V_look_36 : decode prog_1_method_17_code 36 = .ok (.aload_n 0, 1) := by decide +kernel
theorem d_V_look_37 : decode prog_1_method_17_code 37 = .ok (.getfield 21, 3) := by decide +kernel
theorem d_V_look_40 : decode prog_1_method_17_code 40 = .ok (.getfield 262, 3) := by decide +kernel
theorem d_V_look_43 : decode prog_1_method_17_code 43 = .ok (.ifCond .eq 7, 3) := by decide +kernel
theorem d_V_look_46 : decode prog_1_method_17_code 46 = .ok (.iconst 1, 1) := by decide +kernel
theorem d_V_look_47 : decode prog_1_method_17_code 47 = .ok (.goto 4, 3) := by decide +kernel
theorem d_V_look_50 : decode prog_1_method_17_code 50 = .ok (.iconst 0, 1) := by decide +kernel
theorem d_V_look_51 : decode prog_1_method_17_code 51 = .ok (.ireturn, 1) := by decide +kernel
theorem d_V_look_52 : decode prog_1_method_17_code 52 = .ok (.aload_n 0, 1) := by decide +kernel
theorem d_V_look_53 : decode prog_1_method_17_code 53 = .ok (.getfield 21, 3) := by decide +kernel
theorem d_V_look_56 : decode prog_1_method_17_code 56 = .ok (.getfield 299, 3) := by decide +kernel
theorem d_V_look_59 : decode prog_1_method_17_code 59 = .ok (.ireturn, 1) := by decide +kernel
theorem d_V_look_60 : decode prog_1_method_17_code 60 = .ok (.aload_n 0, 1) := by decide +kernel
theorem d_V_look_61 : decode prog_1_method_17_code 61 = .ok (.getfield 30, 3) := by decide +kernel
theorem d_V_look_64 : decode prog_1_method_17_code 64 = .ok (.invokevirtual 302, 3) := by decide +kernel
theorem d_V_look_67 : decode prog_1_method_17_code 67 = .ok (.ireturn, 1) := by decide +kernel
theorem d_V_look_68 : decode prog_1_method_17_code 68 = .ok (.aload_n 0, 1) := by decide +kernel
theorem d_V_look_69 : decode prog_1_method_17_code 69 = .ok (.getfield 12, 3) := by decide +kernel
theorem d_V_look_72 : decode prog_1_method_17_code 72 = .ok (.getfield 87, 3) := by decide +kernel
theorem d_V_look_75 : decode prog_1_method_17_code 75 = .ok (.ireturn, 1) := by decide +kernel
theorem d_V_look_76 : decode prog_1_method_17_code 76 = .ok (.aload_n 0, 1) := by decide +kernel
theorem d_V_look_77 : decode prog_1_method_17_code 77 = .ok (.getfield 12, 3) := by decide +kernel
theorem d_V_look_80 : decode prog_1_method_17_code 80 = .ok (.getfield 305, 3) := by decide +kernel
theorem d_V_look_83 : decode prog_1_method_17_code 83 = .ok (.ireturn, 1) := by decide +kernel
theorem d_V_look_84 : decode prog_1_method_17_code 84 = .ok (.iload_n 1, 1) := by decide +kernel
theorem d_V_look_85 : decode prog_1_method_17_code 85 = .ok (.bipush 10, 2) := by decide +kernel
theorem d_V_look_87 : decode prog_1_method_17_code 87 = .ok (.if_icmp .lt 31, 3) := by decide +kernel
theorem d_V_look_90 : decode prog_1_method_17_code 90 = .ok (.aload_n 0, 1) := by decide +kernel
theorem d_V_look_91 : decode prog_1_method_17_code 91 = .ok (.getfield 12, 3) := by decide +kernel
theorem d_V_look_94 : decode prog_1_method_17_code 94 = .ok (.iload_n 1, 1) := by decide +kernel
theorem d_V_look_95 : decode prog_1_method_17_code 95 = .ok (.bipush 10, 2) := by decide +kernel
theorem d_V_look_97 : decode prog_1_method_17_code 97 = .ok (.isub, 1) := by decide +kernel
theorem d_V_look_98 : decode prog_1_method_17_code 98 = .ok (.invokevirtual 173, 3) := by decide +kernel
theorem d_V_look_101 : decode prog_1_method_17_code 101 = .ok (.ifCond .eq 17, 3) := by decide +kernel
theorem d_V_look_104 : decode prog_1_method_17_code 104 = .ok (.aload_n 0, 1) := by decide +kernel
theorem d_V_look_105 : decode prog_1_method_17_code 105 = .ok (.getfield 12, 3) := by decide +kernel
theorem d_V_look_108 : decode prog_1_method_17_code 108 = .ok (.iload_n 1, 1) := by decide +kernel
theorem d_V_look_109 : decode prog_1_method_17_code 109 = .ok (.bipush 10, 2) := by decide +kernel
theorem d_V_look_111 : decode prog_1_method_17_code 111 = .ok (.isub, 1) := by decide +kernel
theorem d_V_look_112 : decode prog_1_method_17_code 112 = .ok (.invokevirtual 187, 3) := by decide +kernel
theorem d_V_look_115 : decode prog_1_method_17_code 115 = .ok (.goto 4, 3) := by decide +kernel
theorem d_V_look_118 : decode prog_1_method_17_code 118 = .ok (.iconst (-1), 1) := by decide +kernel
theorem d_V_look_119 : decode prog_1_method_17_code 119 = .ok (.ireturn, 1) := by decide +kernel
end
section
/-! the rows of calls, for this claim's lists of words and rooms -/
theorem am_fl {κ : am_K} {c0 : Cond} {tw : List Cond} {r : String × ByteArray × Nat × Option FieldType × String × List ExceptionTableEntry × Room × Option (Nat × (Nat → Int32))} {ci k N : Nat} {C : String} {T : u_T} (h : ∀ w ∈ u_ws C T N, w ∈ tw) (hc : (am_cl κ)[ci]? = some (C, T, N)) (hk : k < N) : am_fld κ (c0 :: tw, r) ci k C T N :=
  ⟨fun w z => List.mem_cons_of_mem _ (h w z), hc, hk⟩
theorem am_gd {c0 : Cond} {ws : List Cond} (h : ∀ w ∈ ws, w ∈ am_tw) : GoodIn (c0 :: am_tw) ws := fun w hw => ⟨List.mem_cons_of_mem _ (h w hw), good_of_word (List.mem_filter.mp (h w hw)).2⟩
theorem am_gdC {c0 c1 : Cond} (h : c1 ∈ am_tw) : GoodIn (c0 :: am_tw) (c1 :: am_tw) := am_gd (fun w hw => (List.mem_cons.mp hw).elim (fun e => e ▸ h) (fun z => z))
theorem c_Vr {κ : am_K} {c0 : Cond} {own : String} {cc : ByteArray} {nL : Nat} {rt : Option FieldType} {nm : String} {tb : List ExceptionTableEntry} {X : Option (Nat × (Nat → Int32))} {o o1 : am_O} {b a pc n idx ci q0 N maxL : Nat} {h1 h h2 : List am_E} {ls : List (Nat × Value)} {stk st' : List Value} {v : Option Value} {y : MethodName} {bytes : ByteArray} {ret : Option FieldType} {T : u_T} {fs : List Value}
    (as st : List Value) (d : decode cc pc = .ok (.invokevirtual idx, 3)) (en : pc + 3 = n) (hM : am_M κ y (.code y bytes maxL ret :: am_tw) (am_rm a (.inl v)) (.ref q0 :: as) h (.inl v) h2)
    (w1 : Cond.methodLink own idx y ∈ am_tw) (w2 : Cond.instanceMethod y ∈ am_tw) (w3 : Cond.selects y.cls y y ∈ am_tw) (w4 : Cond.initialized y.cls ∈ am_tw) (w5 : Cond.code y bytes maxL ret ∈ am_tw)
    (hd : y.cls ≠ "java/lang/invoke/MethodHandle" ∧ y.cls ≠ "java/lang/invoke/VarHandle" ∧ (parseMethodDescriptor y.desc).map (fun d => d.parameters.length) = some as.length) (hab : a < b) (hm : maxL ≤ 45)
    (hcl : (am_cl κ)[ci]? = some (y.cls, T, N)) (he : h[q0]? = some (.inr (ci, fs))) (hst : stk = as.reverse ++ .ref q0 :: st) (hcat : (st.map fun v => v.category).sum ≤ 8) (hl : h2.length = h.length) (hv : v.toList ++ st = st')
    (kr : am_G κ (c0 :: am_tw, own, cc, nL, rt, nm, tb, am_rm b o, X) o1 h1 0 0 n ls st' h2) : am_G κ (c0 :: am_tw, own, cc, nL, rt, nm, tb, am_rm b o, X) o1 h1 0 0 pc ls stk h := by
  subst hv
  refine g_callV as st d en hM (am_gd (fun w hw => ?_)) rfl ⟨rfl, hd⟩ (am_rmR hab hm) ⟨Nat.zero_le _, Nat.zero_le _⟩ hcl he hst hcat hl kr
  rcases List.mem_append.mp hw with z | z
  · simp only [List.mem_cons, List.not_mem_nil, or_false] at z
    rcases z with rfl | rfl | rfl | rfl <;> assumption
  · exact (List.mem_cons.mp z).elim (fun e => e ▸ w5) (fun z => z)
theorem c_VNr {κ : am_K} {c0 : Cond} {own host : String} {cc : ByteArray} {nL : Nat} {rt : Option FieldType} {nm : String} {tb : List ExceptionTableEntry} {X : Option (Nat × (Nat → Int32))} {o o1 : am_O} {b a pc n idx ci q0 N maxL : Nat} {h1 h h2 : List am_E} {ls : List (Nat × Value)} {stk st' : List Value} {v : Option Value} {y : MethodName} {bytes : ByteArray} {ret : Option FieldType} {T : u_T} {fs : List Value}
    (as st : List Value) (d : decode cc pc = .ok (.invokevirtual idx, 3)) (en : pc + 3 = n) (hM : am_M κ y (.code y bytes maxL ret :: am_tw) (am_rm a (.inl v)) (.ref q0 :: as) h (.inl v) h2)
    (w1 : Cond.methodLinkNest own idx y host ∈ am_NW κ) (w2 : Cond.instanceMethod y ∈ am_tw) (w3 : Cond.selects y.cls y y ∈ am_tw) (w4 : Cond.initialized y.cls ∈ am_tw) (w5 : Cond.code y bytes maxL ret ∈ am_tw)
    (hd : y.cls ≠ "java/lang/invoke/MethodHandle" ∧ y.cls ≠ "java/lang/invoke/VarHandle" ∧ (parseMethodDescriptor y.desc).map (fun d => d.parameters.length) = some as.length) (hab : a < b) (hm : maxL ≤ 45)
    (hcl : (am_cl κ)[ci]? = some (y.cls, T, N)) (he : h[q0]? = some (.inr (ci, fs))) (hst : stk = as.reverse ++ .ref q0 :: st) (hcat : (st.map fun v => v.category).sum ≤ 8) (hl : h2.length = h.length) (hv : v.toList ++ st = st')
    (kr : am_G κ (c0 :: am_tw, own, cc, nL, rt, nm, tb, am_rm b o, X) o1 h1 0 0 n ls st' h2) : am_G κ (c0 :: am_tw, own, cc, nL, rt, nm, tb, am_rm b o, X) o1 h1 0 0 pc ls stk h := by
  subst hv
  exact g_callVN as st d en hM (am_gdC w5) rfl w1 (List.mem_cons_of_mem _ w4) (List.mem_cons_of_mem _ w2) (List.mem_cons_of_mem _ w3) hd (am_rmR hab hm) ⟨Nat.zero_le _, Nat.zero_le _⟩ hcl he hst hcat hl kr
theorem c_Sr {κ : am_K} {c0 : Cond} {own : String} {cc : ByteArray} {nL : Nat} {rt : Option FieldType} {nm : String} {tb : List ExceptionTableEntry} {X : Option (Nat × (Nat → Int32))} {o o1 : am_O} {b a pc n idx maxL : Nat} {h1 h h2 : List am_E} {ls : List (Nat × Value)} {stk st' : List Value} {v : Option Value} {y : MethodName} {bytes : ByteArray} {ret : Option FieldType}
    (as st : List Value) (d : decode cc pc = .ok (.invokestatic idx, 3)) (en : pc + 3 = n) (hM : am_M κ y (.code y bytes maxL ret :: am_tw) (am_rm a (.inl v)) as h (.inl v) h2)
    (w1 : Cond.methodLink own idx y ∈ am_tw) (w2 : Cond.static y ∈ am_tw) (w4 : Cond.initialized y.cls ∈ am_tw) (w5 : Cond.code y bytes maxL ret ∈ am_tw) (hy : y.cls = own)
    (hd : y.cls ≠ "java/lang/invoke/MethodHandle" ∧ y.cls ≠ "java/lang/invoke/VarHandle" ∧ (parseMethodDescriptor y.desc).map (fun d => d.parameters.length) = some as.length) (hab : a < b) (hm : maxL ≤ 45)
    (hst : stk = as.reverse ++ st) (hcat : (st.map fun v => v.category).sum ≤ 8) (hl : h2.length = h.length) (hv : v.toList ++ st = st')
    (kr : am_G κ (c0 :: am_tw, own, cc, nL, rt, nm, tb, am_rm b o, X) o1 h1 0 0 n ls st' h2) : am_G κ (c0 :: am_tw, own, cc, nL, rt, nm, tb, am_rm b o, X) o1 h1 0 0 pc ls stk h := by
  subst hv
  refine g_callS as st d en hM (am_gd (fun w hw => ?_)) rfl ⟨hy, hd⟩ (am_rmR hab hm) ⟨Nat.zero_le _, Nat.zero_le _⟩ hst hcat hl kr
  rcases List.mem_append.mp hw with z | z
  · simp only [List.mem_cons, List.not_mem_nil, or_false] at z
    rcases z with rfl | rfl | rfl
    · exact w1
    · exact w2
    · have e : Cond.initialized y.cls = Cond.initialized own := by rw [hy]
      exact e ▸ w4
  · exact (List.mem_cons.mp z).elim (fun e => e ▸ w5) (fun z => z)
theorem c_SNr {κ : am_K} {c0 : Cond} {own host : String} {cc : ByteArray} {nL : Nat} {rt : Option FieldType} {nm : String} {tb : List ExceptionTableEntry} {X : Option (Nat × (Nat → Int32))} {o o1 : am_O} {b a pc n idx maxL : Nat} {h1 h h2 : List am_E} {ls : List (Nat × Value)} {stk st' : List Value} {v : Option Value} {y : MethodName} {bytes : ByteArray} {ret : Option FieldType}
    (as st : List Value) (d : decode cc pc = .ok (.invokestatic idx, 3)) (en : pc + 3 = n) (hM : am_M κ y (.code y bytes maxL ret :: am_tw) (am_rm a (.inl v)) as h (.inl v) h2)
    (w1 : Cond.methodLinkNest own idx y host ∈ am_NW κ) (w2 : Cond.static y ∈ am_tw) (w4 : Cond.initialized y.cls ∈ am_tw) (w5 : Cond.code y bytes maxL ret ∈ am_tw)
    (hd : y.cls ≠ "java/lang/invoke/MethodHandle" ∧ y.cls ≠ "java/lang/invoke/VarHandle" ∧ (parseMethodDescriptor y.desc).map (fun d => d.parameters.length) = some as.length) (hab : a < b) (hm : maxL ≤ 45)
    (hst : stk = as.reverse ++ st) (hcat : (st.map fun v => v.category).sum ≤ 8) (hl : h2.length = h.length) (hv : v.toList ++ st = st')
    (kr : am_G κ (c0 :: am_tw, own, cc, nL, rt, nm, tb, am_rm b o, X) o1 h1 0 0 n ls st' h2) : am_G κ (c0 :: am_tw, own, cc, nL, rt, nm, tb, am_rm b o, X) o1 h1 0 0 pc ls stk h := by
  subst hv
  exact g_callSN as st d en hM (am_gdC w5) rfl w1 (List.mem_cons_of_mem _ w4) (List.mem_cons_of_mem _ w2) hd (am_rmR hab hm) ⟨Nat.zero_le _, Nat.zero_le _⟩ hst hcat hl kr
theorem c_Vx {κ : am_K} {c0 : Cond} {own : String} {cc : ByteArray} {nL : Nat} {rt : Option FieldType} {nm : String} {tb : List ExceptionTableEntry} {X : Option (Nat × (Nat → Int32))} {o1 : am_O} {b a pc n idx ci q0 N maxL : Nat} {h1 h h2 : List am_E} {ls : List (Nat × Value)} {stk st' : List Value} {E E9 : String} {y : MethodName} {bytes : ByteArray} {ret : Option FieldType} {T : u_T} {fs : List Value}
    (as st : List Value) (d : decode cc pc = .ok (.invokevirtual idx, 3)) (en : pc + 3 = n) (hM : am_M κ y (.code y bytes maxL ret :: am_tw) (am_rm a (.inr E)) (.ref q0 :: as) h (.inr E) h2)
    (w1 : Cond.methodLink own idx y ∈ am_tw) (w2 : Cond.instanceMethod y ∈ am_tw) (w3 : Cond.selects y.cls y y ∈ am_tw) (w4 : Cond.initialized y.cls ∈ am_tw) (w5 : Cond.code y bytes maxL ret ∈ am_tw)
    (hd : y.cls ≠ "java/lang/invoke/MethodHandle" ∧ y.cls ≠ "java/lang/invoke/VarHandle" ∧ (parseMethodDescriptor y.desc).map (fun d => d.parameters.length) = some as.length) (hab : a < b) (hm : maxL ≤ 45)
    (hcl : (am_cl κ)[ci]? = some (y.cls, T, N)) (he : h[q0]? = some (.inr (ci, fs))) (hst : stk = as.reverse ++ .ref q0 :: st) (hcat : (st.map fun v => v.category).sum ≤ 8) (hl : h2.length = h.length)
    (kx : am_GX κ (c0 :: am_tw, own, cc, nL, rt, nm, tb, am_rm b (.inr E9), X) o1 h1 1 6 pc ls st h2 E) : am_G κ (c0 :: am_tw, own, cc, nL, rt, nm, tb, am_rm b (.inr E9), X) o1 h1 0 0 pc ls stk h :=
  g_callVx as st d hM (am_gdC w5) List.mem_cons_self (Or.inl (List.mem_cons_of_mem _ w1)) (List.mem_cons_of_mem _ w2) (List.mem_cons_of_mem _ w3) (List.mem_cons_of_mem _ w4) hd (am_rmR hab hm) ⟨Nat.le_refl _, Nat.le_refl _⟩ hcl he hst hcat hl kx
theorem c_VNx {κ : am_K} {c0 : Cond} {own host : String} {cc : ByteArray} {nL : Nat} {rt : Option FieldType} {nm : String} {tb : List ExceptionTableEntry} {X : Option (Nat × (Nat → Int32))} {o1 : am_O} {b a pc n idx ci q0 N maxL : Nat} {h1 h h2 : List am_E} {ls : List (Nat × Value)} {stk st' : List Value} {E E9 : String} {y : MethodName} {bytes : ByteArray} {ret : Option FieldType} {T : u_T} {fs : List Value}
    (as st : List Value) (d : decode cc pc = .ok (.invokevirtual idx, 3)) (en : pc + 3 = n) (hM : am_M κ y (.code y bytes maxL ret :: am_tw) (am_rm a (.inr E)) (.ref q0 :: as) h (.inr E) h2)
    (w1 : Cond.methodLinkNest own idx y host ∈ am_NW κ) (w2 : Cond.instanceMethod y ∈ am_tw) (w3 : Cond.selects y.cls y y ∈ am_tw) (w4 : Cond.initialized y.cls ∈ am_tw) (w5 : Cond.code y bytes maxL ret ∈ am_tw)
    (hd : y.cls ≠ "java/lang/invoke/MethodHandle" ∧ y.cls ≠ "java/lang/invoke/VarHandle" ∧ (parseMethodDescriptor y.desc).map (fun d => d.parameters.length) = some as.length) (hab : a < b) (hm : maxL ≤ 45)
    (hcl : (am_cl κ)[ci]? = some (y.cls, T, N)) (he : h[q0]? = some (.inr (ci, fs))) (hst : stk = as.reverse ++ .ref q0 :: st) (hcat : (st.map fun v => v.category).sum ≤ 8) (hl : h2.length = h.length)
    (kx : am_GX κ (c0 :: am_tw, own, cc, nL, rt, nm, tb, am_rm b (.inr E9), X) o1 h1 1 6 pc ls st h2 E) : am_G κ (c0 :: am_tw, own, cc, nL, rt, nm, tb, am_rm b (.inr E9), X) o1 h1 0 0 pc ls stk h :=
  g_callVx as st d hM (am_gdC w5) List.mem_cons_self (Or.inr ⟨host, w1⟩) (List.mem_cons_of_mem _ w2) (List.mem_cons_of_mem _ w3) (List.mem_cons_of_mem _ w4) hd (am_rmR hab hm) ⟨Nat.le_refl _, Nat.le_refl _⟩ hcl he hst hcat hl kx
theorem c_T {κ : am_K} {c0 : Cond} {own : String} {cc : ByteArray} {nL : Nat} {rt : Option FieldType} {nm : String} {X : Option (Nat × (Nat → Int32))} {b pc pi ik is ic i1 : Nat} {b1 : ByteArray} {h : List am_E} {ls : List (Nat × Value)} {st : List Value} {cls text : String}
    (htr : (am_l κ).stackTraces = false) (hcls : Bundle.fit cls = true) (e0 : decode b1 0 = .ok (.aload_n 0, 1)) (e1 : decode b1 1 = .ok (.aload_n 1, 1)) (e2 : decode b1 2 = .ok (.invokespecial i1, 3)) (e5 : decode b1 5 = .ok (.return_, 1)) (w1 : Cond.classLink own ik cls ∈ am_tw) (w2 : Cond.initialized cls ∈ am_tw) (hc0 : goodWord c0 = true) (hstr : ((own, is, text) : String × Nat × String) ∈ am_SL κ)
    (hat : ∀ w ∈ am_atoms own ic i1 b1 cls "java/lang/RuntimeException" ["java/lang/Exception"], w ∈ am_tw ∨ w ∈ am_NW κ ∨ w ∈ am_hw)
    (d0 : decode cc pc = .ok (.new ik, 3)) (d3 : decode cc (pc + 3) = .ok (.dup, 1)) (d4 : (decode cc (pc + 4) = .ok (.ldc is, 2) ∧ pi = pc + 6) ∨ (decode cc (pc + 4) = .ok (.ldc_w is, 3) ∧ pi = pc + 7)) (d6 : decode cc pi = .ok (.invokespecial ic, 3)) (d9 : decode cc (pi + 3) = .ok (.athrow, 1)) (hcat : (st.map fun v => v.category).sum ≤ 8) :
    am_G κ (c0 :: am_tw, own, cc, nL, rt, nm, [], am_rm b (.inr cls), X) (.inr cls) h 0 0 pc ls st h := by
  refine am_throw htr hcls e0 e1 e2 e5 (List.mem_cons_of_mem _ w1) (List.mem_cons_of_mem _ w2) (fun w hw => ?_) hstr (fun w hw => ?_) rfl d0 d3 d4 d6 d9 ?_ ?_ (Nat.le_refl _) (Nat.le_refl _)
  · exact (List.mem_cons.mp hw).elim (fun z => z ▸ hc0) (fun z => (List.mem_filter.mp z).2)
  · exact (hat w hw).elim (fun z => Or.inl (List.mem_cons_of_mem _ z)) Or.inr
  · show 5 < (am_rm b (.inr cls)).frames
    rw [am_rm_f]
    omega
  · show _ + 82 ≤ (am_rm b (.inr cls)).locals
    rw [am_rm_l]
    omega
theorem c_mmin {κ : am_K} {c0 : Cond} {own : String} {cc : ByteArray} {nL : Nat} {rt : Option FieldType} {nm : String} {tb : List ExceptionTableEntry} {X : Option (Nat × (Nat → Int32))} {o o1 : am_O} {b pc n idx : Nat} {h1 h : List am_E} {ls : List (Nat × Value)} {st : List Value} {x y : Int32}
    (d : decode cc pc = .ok (.invokestatic idx, 3)) (en : pc + 3 = n) (w1 : Cond.methodLink own idx Lib.Math.min.name ∈ am_tw) (w2 : Cond.static Lib.Math.min.name ∈ am_tw) (w3 : Cond.initialized "java/lang/Math" ∈ am_tw) (w4 : Cond.code Lib.Math.min.name Lib.Math.min.code 2 (some .int) ∈ am_tw) (hcat : (st.map fun v => v.category).sum ≤ 8)
    (kk : am_G κ (c0 :: am_tw, own, cc, nL, rt, nm, tb, am_rm b o, X) o1 h1 0 0 n ls (.int (if y < x then y else x) :: st) h) : am_G κ (c0 :: am_tw, own, cc, nL, rt, nm, tb, am_rm b o, X) o1 h1 0 0 pc ls (.int y :: .int x :: st) h := by
  refine g_mmin d en (List.mem_cons_of_mem _ w1) (List.mem_cons_of_mem _ w2) (List.mem_cons_of_mem _ w3) (List.mem_cons_of_mem _ w4) ?_ ?_ (Nat.zero_le _) (Nat.zero_le _) kk
  · show 1 ≤ (am_rm b o).frames
    rw [am_rm_f]
    omega
  · show _ + 13 ≤ (am_rm b o).locals
    rw [am_rm_l]
    omega
end
section
abbrev am_WS : Type := Int32 × Int32 × Int32 × (Nat → Int32) × (Nat → Int32) × Int32 × Int32 × Int32 × Int32 × (Nat → Int32)
def hC (ll : Int32) (he : Int32) (de : Int32) (li : Nat → Int32) (en : Nat → Int32) (po : Nat → Int32) (pw : Int32) (su : Int32) (wr : Int32) (cs : Int32) (wb : Int32) (bt : Nat → Int32) (ct : Int32) (lc : Int32) (ad : Nat → Int32) (ctb : Int32) (lcb : Int32) (adb : Nat → Int32) (fx : Int32) (us : Nat → Int32) (ln : Int32) (pt : Int32) (tx : Nat → Int32) (br : Nat → Int32) (rw : Nat → Int32) (rest : List am_E) : List am_E :=
  (.inr (6, [.ref 1, .ref 5, .ref 7, .ref 8, .ref 10, .ref 12, .ref 14, .ref 17])) :: (.inr (4, [.ref 2, .ref 3, .ref 4, .int ll, .int he, .int de])) :: (.inl (.char, 26, .inl li)) :: (.inl (.int, 4, .inl en)) :: (.inl (.int, 4, .inl po)) :: (.inr (0, [.ref 6, .ref 1, .int pw, .int su, .int wr, .int cs, .int wb])) :: (.inl (.int, 2240, .inl bt)) :: (.inr (5, [.ref 5])) :: (.inr (1, [.ref 5, .ref 7, .ref 9, .int ct, .int lc])) :: (.inl (.int, 128, .inl ad)) :: (.inr (1, [.ref 5, .ref 7, .ref 11, .int ctb, .int lcb])) :: (.inl (.int, 128, .inl adb)) :: (.inr (3, [.ref 5, .ref 7, .ref 8, .ref 13, .int fx])) :: (.inl (.boolean, 64, .inl us)) :: (.inr (2, [.ref 15, .ref 16, .int ln, .int pt])) :: (.inl (.char, 26, .inl tx)) :: (.inl (.int, 6, .inl br)) :: (.inl (.int, 16, .inl rw)) :: rest
end
section
def f_Ses_append (ll : Int32) (li : Nat → Int32) (x1 : Int32) : Option (Int32 × Int32 × (Nat → Int32)) :=
  (if x1 < 33 then some (0, ll, li) else (if 126 < x1 then some (0, ll, li) else (if x1 = 47 then some (0, ll, li) else (if ll < 26 then (if am_in ll 26 = true then some (1, (ll + 1), (upd li ll.toNatClampNeg (vp_nar .char x1))) else none) else some (0, ll, li)))))
set_option maxHeartbeats 4000000 in
set_option maxRecDepth 100000 in
theorem s_Ses_append {l : Launch} {D : va_G} {dA : FieldType → ClassId} (htr : l.stackTraces = false) {rest : List am_E} {ll : Int32} {he : Int32} {de : Int32} {li : Nat → Int32} {en : Nat → Int32} {po : Nat → Int32} {pw : Int32} {su : Int32} {wr : Int32} {cs : Int32} {wb : Int32} {bt : Nat → Int32} {ct : Int32} {lc : Int32} {ad : Nat → Int32} {ctb : Int32} {lcb : Int32} {adb : Nat → Int32} {fx : Int32} {us : Nat → Int32} {ln : Int32} {pt : Int32} {tx : Nat → Int32} {br : Nat → Int32} {rw : Nat → Int32}  {x1 : Int32} {r : Int32 × Int32 × (Nat → Int32)} (hf : f_Ses_append ll li x1 = some r) {o : am_O} (ho : .inl (some (.int r.1)) = o) :
    am_M (am_kk l D dA) y_Ses_append ws_Ses_append (am_rm 0 o) [.ref 1, .int x1] (hC ll he de li en po pw su wr cs wb bt ct lc ad ctb lcb adb fx us ln pt tx br rw rest) o (hC r.2.1 he de r.2.2 en po pw su wr cs wb bt ct lc ad ctb lcb adb fx us ln pt tx br rw rest) := by
  subst ho
  refine am_body (by decide) rfl (Nat.le_of_ble_eq_true rfl) rfl ?_
  rw [f_Ses_append] at hf
  refine g_iload_n (n := 1) d_Ses_append_0 rfl 1 rfl rfl ?_
  refine g_bipush (n := 3) (v := 33) d_Ses_append_1 rfl (by decide) ?_
  refine g_icmp_lt (n := 6) (tgt := 27) d_Ses_append_3 rfl (by decide) (fun q1 => ?_) (fun q1 => ?_)
  · have hf := ob_pos q1 hf
    refine g_iconst (n := 28) (v := 0) d_Ses_append_27 rfl (by decide) ?_
    cases hf
    exact g_zret d_Ses_append_28 rfl am_z0 (Nat.zero_le _) (Nat.zero_le _)
  · have hf := ob_neg q1 hf
    refine g_iload_n (n := 7) d_Ses_append_6 rfl 1 rfl rfl ?_
    refine g_bipush (n := 9) (v := 126) d_Ses_append_7 rfl (by decide) ?_
    refine g_icmp_gt (n := 12) (tgt := 27) d_Ses_append_9 rfl (by decide) (fun q2 => ?_) (fun q2 => ?_)
    · have hf := ob_pos q2 hf
      refine g_iconst (n := 28) (v := 0) d_Ses_append_27 rfl (by decide) ?_
      cases hf
      exact g_zret d_Ses_append_28 rfl am_z0 (Nat.zero_le _) (Nat.zero_le _)
    · have hf := ob_neg q2 hf
      refine g_iload_n (n := 13) d_Ses_append_12 rfl 1 rfl rfl ?_
      refine g_bipush (n := 15) (v := 47) d_Ses_append_13 rfl (by decide) ?_
      refine g_icmp_eq (n := 18) (tgt := 27) d_Ses_append_15 rfl (by decide) (fun q3 => ?_) (fun q3 => ?_)
      · have hf := ob_pos q3 hf
        refine g_iconst (n := 28) (v := 0) d_Ses_append_27 rfl (by decide) ?_
        cases hf
        exact g_zret d_Ses_append_28 rfl am_z0 (Nat.zero_le _) (Nat.zero_le _)
      · have hf := ob_neg q3 hf
        refine g_aload_n (n := 19) d_Ses_append_18 rfl 0 rfl rfl ?_
        refine g_get (n := 22) (q0 := 1) d_Ses_append_19 rfl (am_fl in_Ses rfl (by decide : 3 < 6)) (List.mem_cons_of_mem _ tw_41) rfl rfl ?_
        refine g_bipush (n := 24) (v := 26) d_Ses_append_22 rfl (by decide) ?_
        refine g_icmp_lt (n := 27) (tgt := 29) d_Ses_append_24 rfl (by decide) (fun q4 => ?_) (fun q4 => ?_)
        · have hf := ob_pos q4 hf
          refine g_aload_n (n := 30) d_Ses_append_29 rfl 0 rfl rfl ?_
          refine g_get (n := 33) (q0 := 1) d_Ses_append_30 rfl (am_fl in_Ses rfl (by decide : 0 < 6)) (List.mem_cons_of_mem _ tw_36) rfl rfl ?_
          refine g_aload_n (n := 34) d_Ses_append_33 rfl 0 rfl rfl ?_
          refine g_get (n := 37) (q0 := 1) d_Ses_append_34 rfl (am_fl in_Ses rfl (by decide : 3 < 6)) (List.mem_cons_of_mem _ tw_41) rfl rfl ?_
          refine g_iload_n (n := 38) d_Ses_append_37 rfl 1 rfl rfl ?_
          obtain ⟨b5, hf⟩ := ob_chk hf
          refine g_cast (n := 39) (q0 := 2) (h' := (hC ll he de (upd li ll.toNatClampNeg (vp_nar .char x1)) en po pw su wr cs wb bt ct lc ad ctb lcb adb fx us ln pt tx br rw rest)) d_Ses_append_38 rfl rfl (am_inl b5) rfl ?_
          refine g_aload_n (n := 40) d_Ses_append_39 rfl 0 rfl rfl ?_
          refine g_dup (n := 41) d_Ses_append_40 rfl rfl ?_
          refine g_get (n := 44) (q0 := 1) d_Ses_append_41 rfl (am_fl in_Ses rfl (by decide : 3 < 6)) (List.mem_cons_of_mem _ tw_41) rfl rfl ?_
          refine g_iconst (n := 45) (v := 1) d_Ses_append_44 rfl (by decide) ?_
          refine g_iadd (n := 46) d_Ses_append_45 rfl ?_
          refine g_put (n := 49) (q0 := 1) (h' := (hC (ll + 1) he de (upd li ll.toNatClampNeg (vp_nar .char x1)) en po pw su wr cs wb bt ct lc ad ctb lcb adb fx us ln pt tx br rw rest)) d_Ses_append_46 rfl (am_fl in_Ses rfl (by decide : 3 < 6)) typ_Ses (List.mem_cons_of_mem _ tw_41) rfl (fun _ _ => rfl) (fun _ _ => rfl) rfl (am_ltb rfl) rfl ?_
          refine g_iconst (n := 50) (v := 1) d_Ses_append_49 rfl (by decide) ?_
          cases hf
          exact g_zret d_Ses_append_50 rfl am_z1 (Nat.zero_le _) (Nat.zero_le _)
        · have hf := ob_neg q4 hf
          refine g_iconst (n := 28) (v := 0) d_Ses_append_27 rfl (by decide) ?_
          cases hf
          exact g_zret d_Ses_append_28 rfl am_z0 (Nat.zero_le _) (Nat.zero_le _)
def f_V_type (ll : Int32) (li : Nat → Int32) (x1 : Int32) : Option (Int32 × Int32 × (Nat → Int32)) :=
  ((f_Ses_append ll li x1).bind fun r1 => (if am_bl r1.1 = true then some (r1.1, r1.2.1, r1.2.2) else none))
set_option maxHeartbeats 4000000 in
set_option maxRecDepth 100000 in
theorem s_V_type {l : Launch} {D : va_G} {dA : FieldType → ClassId} (htr : l.stackTraces = false) {rest : List am_E} {ll : Int32} {he : Int32} {de : Int32} {li : Nat → Int32} {en : Nat → Int32} {po : Nat → Int32} {pw : Int32} {su : Int32} {wr : Int32} {cs : Int32} {wb : Int32} {bt : Nat → Int32} {ct : Int32} {lc : Int32} {ad : Nat → Int32} {ctb : Int32} {lcb : Int32} {adb : Nat → Int32} {fx : Int32} {us : Nat → Int32} {ln : Int32} {pt : Int32} {tx : Nat → Int32} {br : Nat → Int32} {rw : Nat → Int32}  {x1 : Int32} {r : Int32 × Int32 × (Nat → Int32)} (hf : f_V_type ll li x1 = some r) {o : am_O} (ho : .inl (some (.int r.1)) = o) :
    am_M (am_kk l D dA) y_V_type ws_V_type (am_rm 1 o) [.ref 0, .int x1] (hC ll he de li en po pw su wr cs wb bt ct lc ad ctb lcb adb fx us ln pt tx br rw rest) o (hC r.2.1 he de r.2.2 en po pw su wr cs wb bt ct lc ad ctb lcb adb fx us ln pt tx br rw rest) := by
  subst ho
  refine am_body (by decide) rfl (Nat.le_of_ble_eq_true rfl) rfl ?_
  rw [f_V_type] at hf
  refine g_aload_n (n := 1) d_V_type_0 rfl 0 rfl rfl ?_
  refine g_get (n := 4) (q0 := 0) d_V_type_1 rfl (am_fl in_V rfl (by decide : 0 < 8)) (List.mem_cons_of_mem _ tw_173) rfl rfl ?_
  refine g_iload_n (n := 5) d_V_type_4 rfl 1 rfl rfl ?_
  obtain ⟨r1, h2, hf⟩ := ob_bind hf
  refine c_Vr (n := 8) (st' := [.int r1.1]) [.int x1] [] d_V_type_5 rfl (s_Ses_append htr h2 rfl) tw_202 tw_203 tw_204 tw_2 tw_205 hd_Ses_append (by omega) (by decide) (ci := 4) rfl rfl rfl (Nat.le_of_ble_eq_true rfl) rfl rfl ?_
  obtain ⟨b3, hf⟩ := ob_chk hf
  cases hf
  exact g_zret d_V_type_8 rfl (am_blz b3) (Nat.zero_le _) (Nat.zero_le _)
def f_V_demandSoundDisk (pw : Int32) (su : Int32) : Option ((String ⊕ Unit)) :=
  (if pw = 0 then some (.inl "java/lang/IllegalStateException") else (if su = 0 then some (.inr ()) else some (.inl "java/lang/IllegalStateException")))
set_option maxHeartbeats 4000000 in
set_option maxRecDepth 100000 in
theorem s_V_demandSoundDisk {l : Launch} {D : va_G} {dA : FieldType → ClassId} (htr : l.stackTraces = false) {rest : List am_E} {ll : Int32} {he : Int32} {de : Int32} {li : Nat → Int32} {en : Nat → Int32} {po : Nat → Int32} {pw : Int32} {su : Int32} {wr : Int32} {cs : Int32} {wb : Int32} {bt : Nat → Int32} {ct : Int32} {lc : Int32} {ad : Nat → Int32} {ctb : Int32} {lcb : Int32} {adb : Nat → Int32} {fx : Int32} {us : Nat → Int32} {ln : Int32} {pt : Int32} {tx : Nat → Int32} {br : Nat → Int32} {rw : Nat → Int32}   {r : (String ⊕ Unit)} (hf : f_V_demandSoundDisk pw su = some r) {o : am_O} (ho : am_ov r = o) :
    am_M (am_kk l D dA) y_V_demandSoundDisk ws_V_demandSoundDisk (am_rm 0 o) [.ref 0] (hC ll he de li en po pw su wr cs wb bt ct lc ad ctb lcb adb fx us ln pt tx br rw rest) o (hC ll he de li en po pw su wr cs wb bt ct lc ad ctb lcb adb fx us ln pt tx br rw rest) := by
  subst ho
  refine am_body (by decide) rfl (Nat.le_of_ble_eq_true rfl) rfl ?_
  rw [f_V_demandSoundDisk] at hf
  refine g_aload_n (n := 1) d_V_demandSoundDisk_0 rfl 0 rfl rfl ?_
  refine g_get (n := 4) (q0 := 0) d_V_demandSoundDisk_1 rfl (am_fl in_V rfl (by decide : 1 < 8)) (List.mem_cons_of_mem _ tw_174) rfl rfl ?_
  refine g_getN (n := 7) (q0 := 5) d_V_demandSoundDisk_4 rfl (am_fl in_Disk rfl (by decide : 2 < 7)) nw_72 rfl rfl ?_
  refine g_if_eq (n := 10) (tgt := 20) d_V_demandSoundDisk_7 rfl (by decide) (fun q1 => ?_) (fun q1 => ?_)
  · have hf := ob_pos q1 hf
    cases hf
    exact c_T htr (by decide +kernel) e_IllegalStateException_0 e_IllegalStateException_1 e_IllegalStateException_2 e_IllegalStateException_5 tw_309 tw_12 rfl (List.mem_of_getElem? (i := 0) rfl) at_V_270 d_V_demandSoundDisk_20 d_V_demandSoundDisk_23 (Or.inr ⟨d_V_demandSoundDisk_24, rfl⟩) d_V_demandSoundDisk_27 d_V_demandSoundDisk_30 (Nat.le_of_ble_eq_true rfl)
  · have hf := ob_neg q1 hf
    refine g_aload_n (n := 11) d_V_demandSoundDisk_10 rfl 0 rfl rfl ?_
    refine g_get (n := 14) (q0 := 0) d_V_demandSoundDisk_11 rfl (am_fl in_V rfl (by decide : 1 < 8)) (List.mem_cons_of_mem _ tw_174) rfl rfl ?_
    refine g_getN (n := 17) (q0 := 5) d_V_demandSoundDisk_14 rfl (am_fl in_Disk rfl (by decide : 3 < 7)) nw_73 rfl rfl ?_
    refine g_if_eq (n := 20) (tgt := 31) d_V_demandSoundDisk_17 rfl (by decide) (fun q2 => ?_) (fun q2 => ?_)
    · have hf := ob_pos q2 hf
      cases hf
      exact g_vret d_V_demandSoundDisk_31 rfl (Nat.zero_le _) (Nat.zero_le _)
    · have hf := ob_neg q2 hf
      cases hf
      exact c_T htr (by decide +kernel) e_IllegalStateException_0 e_IllegalStateException_1 e_IllegalStateException_2 e_IllegalStateException_5 tw_309 tw_12 rfl (List.mem_of_getElem? (i := 0) rfl) at_V_270 d_V_demandSoundDisk_20 d_V_demandSoundDisk_23 (Or.inr ⟨d_V_demandSoundDisk_24, rfl⟩) d_V_demandSoundDisk_27 d_V_demandSoundDisk_30 (Nat.le_of_ble_eq_true rfl)
def f_Name_takeLineOf_L10 : Nat → Int32 → (Nat → Int32) → Int32 → (Nat → Int32) → Int32 → Option (Int32 × Int32 × (Nat → Int32))
  | 0, _, _, _, _, _ => none
  | fuel + 1, ll, li, ln, tx, x2 =>
  (if 26 ≤ x2 then some (0, ln, tx) else (if am_in x2 26 = true then (if am_in x2 26 = true then f_Name_takeLineOf_L10 fuel ll li ln (upd tx x2.toNatClampNeg (vp_nar .char (li x2.toNatClampNeg))) (x2 + 1) else none) else none))
set_option maxHeartbeats 4000000 in
set_option maxRecDepth 100000 in
theorem s_Name_takeLineOf_L10 {l : Launch} {D : va_G} {dA : FieldType → ClassId} (htr : l.stackTraces = false) {rest : List am_E} {he : Int32} {de : Int32} {en : Nat → Int32} {po : Nat → Int32} {pw : Int32} {su : Int32} {wr : Int32} {cs : Int32} {wb : Int32} {bt : Nat → Int32} {ct : Int32} {lc : Int32} {ad : Nat → Int32} {ctb : Int32} {lcb : Int32} {adb : Nat → Int32} {fx : Int32} {us : Nat → Int32} {pt : Int32} {br : Nat → Int32} {rw : Nat → Int32}  : ∀ (fuel : Nat) (ll : Int32) (li : Nat → Int32) (ln : Int32) (tx : Nat → Int32) (x2 : Int32) (r : Int32 × Int32 × (Nat → Int32)), f_Name_takeLineOf_L10 fuel ll li ln tx x2 = some r → ∀ o : am_O, .inl none = o →
    am_G (am_kk l D dA) (ws_Name_takeLineOf, y_Name_takeLineOf.cls, prog_4_method_2_code, 3, none, y_Name_takeLineOf.name, [], am_rm 0 (o), none) o (hC r.1 he de li en po pw su wr cs wb bt ct lc ad ctb lcb adb fx us r.2.1 pt r.2.2 br rw rest) 0 0 10 [(0, .ref 14), (1, .ref 1), (2, .int x2)] [] (hC ll he de li en po pw su wr cs wb bt ct lc ad ctb lcb adb fx us ln pt tx br rw rest) := by
  intro fuel
  induction fuel with
  | zero =>
    intro ll li ln tx x2 r hf
    cases hf
  | succ fuel ih =>
    intro ll li ln tx x2 r hf o ho
    subst ho
    rw [f_Name_takeLineOf_L10] at hf
    refine g_iload_n (n := 11) d_Name_takeLineOf_10 rfl 2 rfl rfl ?_
    refine g_bipush (n := 13) (v := 26) d_Name_takeLineOf_11 rfl (by decide) ?_
    refine g_icmp_ge (n := 16) (tgt := 34) d_Name_takeLineOf_13 rfl (by decide) (fun q1 => ?_) (fun q1 => ?_)
    · have hf := ob_pos q1 hf
      refine g_aload_n (n := 35) d_Name_takeLineOf_34 rfl 1 rfl rfl ?_
      refine g_iconst (n := 36) (v := 0) d_Name_takeLineOf_35 rfl (by decide) ?_
      refine g_putN (n := 39) (q0 := 1) (h' := (hC 0 he de li en po pw su wr cs wb bt ct lc ad ctb lcb adb fx us ln pt tx br rw rest)) d_Name_takeLineOf_36 rfl (am_fl in_Ses rfl (by decide : 3 < 6)) typ_Ses nw_40 rfl (fun _ _ => rfl) (fun _ _ => rfl) rfl (am_ltb rfl) rfl ?_
      cases hf
      exact g_vret d_Name_takeLineOf_39 rfl (Nat.zero_le _) (Nat.zero_le _)
    · have hf := ob_neg q1 hf
      refine g_aload_n (n := 17) d_Name_takeLineOf_16 rfl 0 rfl rfl ?_
      refine g_get (n := 20) (q0 := 14) d_Name_takeLineOf_17 rfl (am_fl in_Name rfl (by decide : 0 < 4)) (List.mem_cons_of_mem _ tw_157) rfl rfl ?_
      refine g_iload_n (n := 21) d_Name_takeLineOf_20 rfl 2 rfl rfl ?_
      refine g_aload_n (n := 22) d_Name_takeLineOf_21 rfl 1 rfl rfl ?_
      refine g_getN (n := 25) (q0 := 1) d_Name_takeLineOf_22 rfl (am_fl in_Ses rfl (by decide : 0 < 6)) nw_37 rfl rfl ?_
      refine g_iload_n (n := 26) d_Name_takeLineOf_25 rfl 2 rfl rfl ?_
      obtain ⟨b2, hf⟩ := ob_chk hf
      refine g_cald (n := 27) (q0 := 2) d_Name_takeLineOf_26 rfl rfl (am_inl b2) ?_
      obtain ⟨b3, hf⟩ := ob_chk hf
      refine g_cast (n := 28) (q0 := 15) (h' := (hC ll he de li en po pw su wr cs wb bt ct lc ad ctb lcb adb fx us ln pt (upd tx x2.toNatClampNeg (vp_nar .char (li x2.toNatClampNeg))) br rw rest)) d_Name_takeLineOf_27 rfl rfl (am_inl b3) rfl ?_
      refine g_iinc (n := 31) (v := (x2 + 1)) (ls' := [(2, .int (x2 + 1)), (0, .ref 14), (1, .ref 1)]) d_Name_takeLineOf_28 rfl 2 rfl rfl (am_ltb rfl) rfl ?_
      refine g_goto (n := 10) d_Name_takeLineOf_31 (by decide) ?_
      refine g_ls [1, 2, 0] rfl ?_
      exact ih ll li ln (upd tx x2.toNatClampNeg (vp_nar .char (li x2.toNatClampNeg))) (x2 + 1) _ hf _ rfl
def f_Name_takeLineOf (ll : Int32) (li : Nat → Int32) (ln : Int32) (tx : Nat → Int32) : Option (Int32 × Int32 × (Nat → Int32)) :=
  f_Name_takeLineOf_L10 3000 ll li ll tx 0
set_option maxHeartbeats 4000000 in
set_option maxRecDepth 100000 in
theorem s_Name_takeLineOf {l : Launch} {D : va_G} {dA : FieldType → ClassId} (htr : l.stackTraces = false) {rest : List am_E} {ll : Int32} {he : Int32} {de : Int32} {li : Nat → Int32} {en : Nat → Int32} {po : Nat → Int32} {pw : Int32} {su : Int32} {wr : Int32} {cs : Int32} {wb : Int32} {bt : Nat → Int32} {ct : Int32} {lc : Int32} {ad : Nat → Int32} {ctb : Int32} {lcb : Int32} {adb : Nat → Int32} {fx : Int32} {us : Nat → Int32} {ln : Int32} {pt : Int32} {tx : Nat → Int32} {br : Nat → Int32} {rw : Nat → Int32}   {r : Int32 × Int32 × (Nat → Int32)} (hf : f_Name_takeLineOf ll li ln tx = some r) {o : am_O} (ho : .inl none = o) :
    am_M (am_kk l D dA) y_Name_takeLineOf ws_Name_takeLineOf (am_rm 0 o) [.ref 14, .ref 1] (hC ll he de li en po pw su wr cs wb bt ct lc ad ctb lcb adb fx us ln pt tx br rw rest) o (hC r.1 he de li en po pw su wr cs wb bt ct lc ad ctb lcb adb fx us r.2.1 pt r.2.2 br rw rest) := by
  subst ho
  refine am_body (by decide) rfl (Nat.le_of_ble_eq_true rfl) rfl ?_
  rw [f_Name_takeLineOf] at hf
  refine g_aload_n (n := 1) d_Name_takeLineOf_0 rfl 0 rfl rfl ?_
  refine g_aload_n (n := 2) d_Name_takeLineOf_1 rfl 1 rfl rfl ?_
  refine g_getN (n := 5) (q0 := 1) d_Name_takeLineOf_2 rfl (am_fl in_Ses rfl (by decide : 3 < 6)) nw_40 rfl rfl ?_
  refine g_put (n := 8) (q0 := 14) (h' := (hC ll he de li en po pw su wr cs wb bt ct lc ad ctb lcb adb fx us ll pt tx br rw rest)) d_Name_takeLineOf_5 rfl (am_fl in_Name rfl (by decide : 2 < 4)) typ_Name (List.mem_cons_of_mem _ tw_159) rfl (fun _ _ => rfl) (fun _ _ => rfl) rfl (am_ltb rfl) rfl ?_
  refine g_iconst (n := 9) (v := 0) d_Name_takeLineOf_8 rfl (by decide) ?_
  refine g_istore_n (n := 10) (ls' := [(2, .int 0), (0, .ref 14), (1, .ref 1)]) d_Name_takeLineOf_9 rfl rfl (am_ltb rfl) rfl ?_
  refine g_ls [1, 2, 0] rfl ?_
  exact s_Name_takeLineOf_L10 htr 3000 ll li ll tx 0 _ hf _ rfl
def f_Ses_goToRoot (he : Int32) (de : Int32) : Option (Int32 × Int32) :=
  some (2, 1)
set_option maxHeartbeats 4000000 in
set_option maxRecDepth 100000 in
theorem s_Ses_goToRoot {l : Launch} {D : va_G} {dA : FieldType → ClassId} (htr : l.stackTraces = false) {rest : List am_E} {ll : Int32} {he : Int32} {de : Int32} {li : Nat → Int32} {en : Nat → Int32} {po : Nat → Int32} {pw : Int32} {su : Int32} {wr : Int32} {cs : Int32} {wb : Int32} {bt : Nat → Int32} {ct : Int32} {lc : Int32} {ad : Nat → Int32} {ctb : Int32} {lcb : Int32} {adb : Nat → Int32} {fx : Int32} {us : Nat → Int32} {ln : Int32} {pt : Int32} {tx : Nat → Int32} {br : Nat → Int32} {rw : Nat → Int32}   {r : Int32 × Int32} (hf : f_Ses_goToRoot he de = some r) {o : am_O} (ho : .inl none = o) :
    am_M (am_kk l D dA) y_Ses_goToRoot ws_Ses_goToRoot (am_rm 0 o) [.ref 1] (hC ll he de li en po pw su wr cs wb bt ct lc ad ctb lcb adb fx us ln pt tx br rw rest) o (hC ll r.1 r.2 li en po pw su wr cs wb bt ct lc ad ctb lcb adb fx us ln pt tx br rw rest) := by
  subst ho
  refine am_body (by decide) rfl (Nat.le_of_ble_eq_true rfl) rfl ?_
  rw [f_Ses_goToRoot] at hf
  refine g_aload_n (n := 1) d_Ses_goToRoot_0 rfl 0 rfl rfl ?_
  refine g_iconst (n := 2) (v := 2) d_Ses_goToRoot_1 rfl (by decide) ?_
  refine g_put (n := 5) (q0 := 1) (h' := (hC ll 2 de li en po pw su wr cs wb bt ct lc ad ctb lcb adb fx us ln pt tx br rw rest)) d_Ses_goToRoot_2 rfl (am_fl in_Ses rfl (by decide : 4 < 6)) typ_Ses (List.mem_cons_of_mem _ tw_44) rfl (fun _ _ => rfl) (fun _ _ => rfl) rfl (am_ltb rfl) rfl ?_
  refine g_aload_n (n := 6) d_Ses_goToRoot_5 rfl 0 rfl rfl ?_
  refine g_iconst (n := 7) (v := 1) d_Ses_goToRoot_6 rfl (by decide) ?_
  refine g_put (n := 10) (q0 := 1) (h' := (hC ll 2 1 li en po pw su wr cs wb bt ct lc ad ctb lcb adb fx us ln pt tx br rw rest)) d_Ses_goToRoot_7 rfl (am_fl in_Ses rfl (by decide : 5 < 6)) typ_Ses (List.mem_cons_of_mem _ tw_46) rfl (fun _ _ => rfl) (fun _ _ => rfl) rfl (am_ltb rfl) rfl ?_
  cases hf
  exact g_vret d_Ses_goToRoot_10 rfl (Nat.zero_le _) (Nat.zero_le _)
def f_V_isCluster (x0 : Int32) : Option (Int32) :=
  (if x0 < 2 then some 0 else (if 64 ≤ x0 then some 0 else some 1))
set_option maxHeartbeats 4000000 in
set_option maxRecDepth 100000 in
theorem s_V_isCluster {l : Launch} {D : va_G} {dA : FieldType → ClassId} (htr : l.stackTraces = false) {rest : List am_E} {ll : Int32} {he : Int32} {de : Int32} {li : Nat → Int32} {en : Nat → Int32} {po : Nat → Int32} {pw : Int32} {su : Int32} {wr : Int32} {cs : Int32} {wb : Int32} {bt : Nat → Int32} {ct : Int32} {lc : Int32} {ad : Nat → Int32} {ctb : Int32} {lcb : Int32} {adb : Nat → Int32} {fx : Int32} {us : Nat → Int32} {ln : Int32} {pt : Int32} {tx : Nat → Int32} {br : Nat → Int32} {rw : Nat → Int32}  {x0 : Int32} {r : Int32} (hf : f_V_isCluster x0 = some r) {o : am_O} (ho : .inl (some (.int r)) = o) :
    am_M (am_kk l D dA) y_V_isCluster ws_V_isCluster (am_rm 0 o) [.int x0] (hC ll he de li en po pw su wr cs wb bt ct lc ad ctb lcb adb fx us ln pt tx br rw rest) o (hC ll he de li en po pw su wr cs wb bt ct lc ad ctb lcb adb fx us ln pt tx br rw rest) := by
  subst ho
  refine am_body (by decide) rfl (Nat.le_of_ble_eq_true rfl) rfl ?_
  rw [f_V_isCluster] at hf
  refine g_iload_n (n := 1) d_V_isCluster_0 rfl 0 rfl rfl ?_
  refine g_iconst (n := 2) (v := 2) d_V_isCluster_1 rfl (by decide) ?_
  refine g_icmp_lt (n := 5) (tgt := 15) d_V_isCluster_2 rfl (by decide) (fun q1 => ?_) (fun q1 => ?_)
  · have hf := ob_pos q1 hf
    refine g_iconst (n := 16) (v := 0) d_V_isCluster_15 rfl (by decide) ?_
    cases hf
    exact g_zret d_V_isCluster_16 rfl am_z0 (Nat.zero_le _) (Nat.zero_le _)
  · have hf := ob_neg q1 hf
    refine g_iload_n (n := 6) d_V_isCluster_5 rfl 0 rfl rfl ?_
    refine g_bipush (n := 8) (v := 64) d_V_isCluster_6 rfl (by decide) ?_
    refine g_icmp_ge (n := 11) (tgt := 15) d_V_isCluster_8 rfl (by decide) (fun q2 => ?_) (fun q2 => ?_)
    · have hf := ob_pos q2 hf
      refine g_iconst (n := 16) (v := 0) d_V_isCluster_15 rfl (by decide) ?_
      cases hf
      exact g_zret d_V_isCluster_16 rfl am_z0 (Nat.zero_le _) (Nat.zero_le _)
    · have hf := ob_neg q2 hf
      refine g_iconst (n := 12) (v := 1) d_V_isCluster_11 rfl (by decide) ?_
      refine g_goto (n := 16) d_V_isCluster_12 (by decide) ?_
      cases hf
      exact g_zret d_V_isCluster_16 rfl am_z1 (Nat.zero_le _) (Nat.zero_le _)
def f_V_sectorOf (x0 : Int32) : Option (Int32) :=
  some (x0 + 6)
set_option maxHeartbeats 4000000 in
set_option maxRecDepth 100000 in
theorem s_V_sectorOf {l : Launch} {D : va_G} {dA : FieldType → ClassId} (htr : l.stackTraces = false) {rest : List am_E} {ll : Int32} {he : Int32} {de : Int32} {li : Nat → Int32} {en : Nat → Int32} {po : Nat → Int32} {pw : Int32} {su : Int32} {wr : Int32} {cs : Int32} {wb : Int32} {bt : Nat → Int32} {ct : Int32} {lc : Int32} {ad : Nat → Int32} {ctb : Int32} {lcb : Int32} {adb : Nat → Int32} {fx : Int32} {us : Nat → Int32} {ln : Int32} {pt : Int32} {tx : Nat → Int32} {br : Nat → Int32} {rw : Nat → Int32}  {x0 : Int32} {r : Int32} (hf : f_V_sectorOf x0 = some r) {o : am_O} (ho : .inl (some (.int r)) = o) :
    am_M (am_kk l D dA) y_V_sectorOf ws_V_sectorOf (am_rm 0 o) [.int x0] (hC ll he de li en po pw su wr cs wb bt ct lc ad ctb lcb adb fx us ln pt tx br rw rest) o (hC ll he de li en po pw su wr cs wb bt ct lc ad ctb lcb adb fx us ln pt tx br rw rest) := by
  subst ho
  refine am_body (by decide) rfl (Nat.le_of_ble_eq_true rfl) rfl ?_
  rw [f_V_sectorOf] at hf
  refine g_iload_n (n := 1) d_V_sectorOf_0 rfl 0 rfl rfl ?_
  refine g_bipush (n := 3) (v := 6) d_V_sectorOf_1 rfl (by decide) ?_
  refine g_iadd (n := 4) d_V_sectorOf_3 rfl ?_
  cases hf
  exact g_iret d_V_sectorOf_4 rfl (Nat.zero_le _) (Nat.zero_le _)
def f_Disk_pairAt (bt : Nat → Int32) (x1 : Int32) : Option (Int32) :=
  (if x1 < 0 then some 0 else (if (2240 - 1) ≤ x1 then some 0 else (if am_in x1 2240 = true then (if am_in (x1 + 1) 2240 = true then some ((bt x1.toNatClampNeg) + (256 * (bt (x1 + 1).toNatClampNeg))) else none) else none)))
set_option maxHeartbeats 4000000 in
set_option maxRecDepth 100000 in
theorem s_Disk_pairAt {l : Launch} {D : va_G} {dA : FieldType → ClassId} (htr : l.stackTraces = false) {rest : List am_E} {ll : Int32} {he : Int32} {de : Int32} {li : Nat → Int32} {en : Nat → Int32} {po : Nat → Int32} {pw : Int32} {su : Int32} {wr : Int32} {cs : Int32} {wb : Int32} {bt : Nat → Int32} {ct : Int32} {lc : Int32} {ad : Nat → Int32} {ctb : Int32} {lcb : Int32} {adb : Nat → Int32} {fx : Int32} {us : Nat → Int32} {ln : Int32} {pt : Int32} {tx : Nat → Int32} {br : Nat → Int32} {rw : Nat → Int32}  {x1 : Int32} {r : Int32} (hf : f_Disk_pairAt bt x1 = some r) {o : am_O} (ho : .inl (some (.int r)) = o) :
    am_M (am_kk l D dA) y_Disk_pairAt ws_Disk_pairAt (am_rm 0 o) [.ref 5, .int x1] (hC ll he de li en po pw su wr cs wb bt ct lc ad ctb lcb adb fx us ln pt tx br rw rest) o (hC ll he de li en po pw su wr cs wb bt ct lc ad ctb lcb adb fx us ln pt tx br rw rest) := by
  subst ho
  refine am_body (by decide) rfl (Nat.le_of_ble_eq_true rfl) rfl ?_
  rw [f_Disk_pairAt] at hf
  refine g_iload_n (n := 1) d_Disk_pairAt_0 rfl 1 rfl rfl ?_
  refine g_if_lt (n := 4) (tgt := 19) d_Disk_pairAt_1 rfl (by decide) (fun q1 => ?_) (fun q1 => ?_)
  · have hf := ob_pos q1 hf
    refine g_iconst (n := 20) (v := 0) d_Disk_pairAt_19 rfl (by decide) ?_
    refine g_istore_n (n := 21) (ls' := [(2, .int 0), (0, .ref 5), (1, .int x1)]) d_Disk_pairAt_20 rfl rfl (am_ltb rfl) rfl ?_
    refine g_iload_n (n := 22) d_Disk_pairAt_21 rfl 0 rfl rfl ?_
    refine g_if_eq (n := 25) (tgt := 47) d_Disk_pairAt_22 rfl (by decide) (fun _ => ?_) (fun q2 => absurd q2 (by decide))
    refine g_iconst (n := 48) (v := 0) d_Disk_pairAt_47 rfl (by decide) ?_
    cases hf
    exact g_iret d_Disk_pairAt_48 rfl (Nat.zero_le _) (Nat.zero_le _)
  · have hf := ob_neg q1 hf
    refine g_iload_n (n := 5) d_Disk_pairAt_4 rfl 1 rfl rfl ?_
    refine g_aload_n (n := 6) d_Disk_pairAt_5 rfl 0 rfl rfl ?_
    refine g_get (n := 9) (q0 := 5) d_Disk_pairAt_6 rfl (am_fl in_Disk rfl (by decide : 0 < 7)) (List.mem_cons_of_mem _ tw_69) rfl rfl ?_
    refine g_ialen (n := 10) (q0 := 6) (v := 2240) d_Disk_pairAt_9 rfl rfl (by decide) ?_
    refine g_iconst (n := 11) (v := 1) d_Disk_pairAt_10 rfl (by decide) ?_
    refine g_isub (n := 12) d_Disk_pairAt_11 rfl ?_
    refine g_icmp_ge (n := 15) (tgt := 19) d_Disk_pairAt_12 rfl (by decide) (fun q3 => ?_) (fun q3 => ?_)
    · have hf := ob_pos q3 hf
      refine g_iconst (n := 20) (v := 0) d_Disk_pairAt_19 rfl (by decide) ?_
      refine g_istore_n (n := 21) (ls' := [(2, .int 0), (0, .ref 5), (1, .int x1)]) d_Disk_pairAt_20 rfl rfl (am_ltb rfl) rfl ?_
      refine g_iload_n (n := 22) d_Disk_pairAt_21 rfl 0 rfl rfl ?_
      refine g_if_eq (n := 25) (tgt := 47) d_Disk_pairAt_22 rfl (by decide) (fun _ => ?_) (fun q4 => absurd q4 (by decide))
      refine g_iconst (n := 48) (v := 0) d_Disk_pairAt_47 rfl (by decide) ?_
      cases hf
      exact g_iret d_Disk_pairAt_48 rfl (Nat.zero_le _) (Nat.zero_le _)
    · have hf := ob_neg q3 hf
      refine g_iconst (n := 16) (v := 1) d_Disk_pairAt_15 rfl (by decide) ?_
      refine g_goto (n := 20) d_Disk_pairAt_16 (by decide) ?_
      refine g_istore_n (n := 21) (ls' := [(2, .int 1), (0, .ref 5), (1, .int x1)]) d_Disk_pairAt_20 rfl rfl (am_ltb rfl) rfl ?_
      refine g_iload_n (n := 22) d_Disk_pairAt_21 rfl 0 rfl rfl ?_
      refine g_if_eq (n := 25) (tgt := 47) d_Disk_pairAt_22 rfl (by decide) (fun q5 => absurd q5 (by decide)) (fun _ => ?_)
      refine g_aload_n (n := 26) d_Disk_pairAt_25 rfl 1 rfl rfl ?_
      refine g_get (n := 29) (q0 := 5) d_Disk_pairAt_26 rfl (am_fl in_Disk rfl (by decide : 0 < 7)) (List.mem_cons_of_mem _ tw_69) rfl rfl ?_
      refine g_iload_n (n := 30) d_Disk_pairAt_29 rfl 2 rfl rfl ?_
      obtain ⟨b6, hf⟩ := ob_chk hf
      refine g_iald (n := 31) (q0 := 6) d_Disk_pairAt_30 rfl rfl (am_inl b6) ?_
      refine g_sipush (n := 34) (v := 256) d_Disk_pairAt_31 rfl (by decide) ?_
      refine g_aload_n (n := 35) d_Disk_pairAt_34 rfl 1 rfl rfl ?_
      refine g_get (n := 38) (q0 := 5) d_Disk_pairAt_35 rfl (am_fl in_Disk rfl (by decide : 0 < 7)) (List.mem_cons_of_mem _ tw_69) rfl rfl ?_
      refine g_iload_n (n := 39) d_Disk_pairAt_38 rfl 2 rfl rfl ?_
      refine g_iconst (n := 40) (v := 1) d_Disk_pairAt_39 rfl (by decide) ?_
      refine g_iadd (n := 41) d_Disk_pairAt_40 rfl ?_
      obtain ⟨b7, hf⟩ := ob_chk hf
      refine g_iald (n := 42) (q0 := 6) d_Disk_pairAt_41 rfl rfl (am_inl b7) ?_
      refine g_imul (n := 43) d_Disk_pairAt_42 rfl ?_
      refine g_iadd (n := 44) d_Disk_pairAt_43 rfl ?_
      refine g_goto (n := 48) d_Disk_pairAt_44 (by decide) ?_
      cases hf
      exact g_iret d_Disk_pairAt_48 rfl (Nat.zero_le _) (Nat.zero_le _)
def f_Table_cell (bt : Nat → Int32) (x1 : Int32) : Option (Int32) :=
  ((f_Disk_pairAt bt (2 * x1)).bind fun r1 => some r1)
set_option maxHeartbeats 4000000 in
set_option maxRecDepth 100000 in
theorem s_Table_cell {l : Launch} {D : va_G} {dA : FieldType → ClassId} (htr : l.stackTraces = false) {rest : List am_E} {ll : Int32} {he : Int32} {de : Int32} {li : Nat → Int32} {en : Nat → Int32} {po : Nat → Int32} {pw : Int32} {su : Int32} {wr : Int32} {cs : Int32} {wb : Int32} {bt : Nat → Int32} {ct : Int32} {lc : Int32} {ad : Nat → Int32} {ctb : Int32} {lcb : Int32} {adb : Nat → Int32} {fx : Int32} {us : Nat → Int32} {ln : Int32} {pt : Int32} {tx : Nat → Int32} {br : Nat → Int32} {rw : Nat → Int32}  {x1 : Int32} {r : Int32} (hf : f_Table_cell bt x1 = some r) {o : am_O} (ho : .inl (some (.int r)) = o) :
    am_M (am_kk l D dA) y_Table_cell ws_Table_cell (am_rm 1 o) [.ref 7, .int x1] (hC ll he de li en po pw su wr cs wb bt ct lc ad ctb lcb adb fx us ln pt tx br rw rest) o (hC ll he de li en po pw su wr cs wb bt ct lc ad ctb lcb adb fx us ln pt tx br rw rest) := by
  subst ho
  refine am_body (by decide) rfl (Nat.le_of_ble_eq_true rfl) rfl ?_
  rw [f_Table_cell] at hf
  refine g_aload_n (n := 1) d_Table_cell_0 rfl 0 rfl rfl ?_
  refine g_get (n := 4) (q0 := 7) d_Table_cell_1 rfl (am_fl in_Table rfl (by decide : 0 < 1)) (List.mem_cons_of_mem _ tw_99) rfl rfl ?_
  refine g_iconst (n := 5) (v := 2) d_Table_cell_4 rfl (by decide) ?_
  refine g_iload_n (n := 6) d_Table_cell_5 rfl 1 rfl rfl ?_
  refine g_imul (n := 7) d_Table_cell_6 rfl ?_
  obtain ⟨r1, h2, hf⟩ := ob_bind hf
  refine c_Vr (n := 10) (st' := [.int r1]) [.int (2 * x1)] [] d_Table_cell_7 rfl (s_Disk_pairAt htr h2 rfl) tw_290 tw_231 tw_232 tw_3 tw_233 hd_Disk_pairAt (by omega) (by decide) (ci := 0) rfl rfl rfl (Nat.le_of_ble_eq_true rfl) rfl rfl ?_
  cases hf
  exact g_iret d_Table_cell_10 rfl (Nat.zero_le _) (Nat.zero_le _)
def f_Folder_load_L9 : Nat → (Nat → Int32) → Int32 → Int32 → (Nat → Int32) → Int32 → Int32 → Option (Int32 × Int32 × (Nat → Int32))
  | 0, _, _, _, _, _, _ => none
  | fuel + 1, bt, ct, lc, ad, x2, x3 =>
  (if 64 ≤ x3 then some (ct, lc, ad) else ((f_V_isCluster x2).bind fun r2 => (if r2 = 0 then some (ct, lc, ad) else ((f_V_sectorOf x2).bind fun r5 => (if am_in (2 * x3) 128 = true then (if am_in ((2 * x3) + 1) 128 = true then ((f_Table_cell bt x2).bind fun r9 => f_Folder_load_L9 fuel bt (ct + 2) x2 (upd (upd ad (2 * x3).toNatClampNeg (r5 * 32)) ((2 * x3) + 1).toNatClampNeg ((r5 * 32) + 16)) r9 (x3 + 1)) else none) else none)))))
set_option maxHeartbeats 4000000 in
set_option maxRecDepth 100000 in
theorem s_Folder_load_L9 {l : Launch} {D : va_G} {dA : FieldType → ClassId} (htr : l.stackTraces = false) {rest : List am_E} {ll : Int32} {he : Int32} {de : Int32} {li : Nat → Int32} {en : Nat → Int32} {po : Nat → Int32} {pw : Int32} {su : Int32} {wr : Int32} {cs : Int32} {wb : Int32} {ctb : Int32} {lcb : Int32} {adb : Nat → Int32} {fx : Int32} {us : Nat → Int32} {ln : Int32} {pt : Int32} {tx : Nat → Int32} {br : Nat → Int32} {rw : Nat → Int32}  : ∀ (fuel : Nat) (bt : Nat → Int32) (ct : Int32) (lc : Int32) (ad : Nat → Int32) (x2 : Int32) (x3 : Int32) (r : Int32 × Int32 × (Nat → Int32)), f_Folder_load_L9 fuel bt ct lc ad x2 x3 = some r → ∀ o : am_O, .inl none = o →
    am_G (am_kk l D dA) (ws_Folder_load, y_Folder_load.cls, prog_3_method_2_code, 5, none, y_Folder_load.name, [], am_rm 2 (o), none) o (hC ll he de li en po pw su wr cs wb bt r.1 r.2.1 r.2.2 ctb lcb adb fx us ln pt tx br rw rest) 0 0 9 [(0, .ref 8), (2, .int x2), (3, .int x3)] [] (hC ll he de li en po pw su wr cs wb bt ct lc ad ctb lcb adb fx us ln pt tx br rw rest) := by
  intro fuel
  induction fuel with
  | zero =>
    intro bt ct lc ad x2 x3 r hf
    cases hf
  | succ fuel ih =>
    intro bt ct lc ad x2 x3 r hf o ho
    subst ho
    rw [f_Folder_load_L9] at hf
    refine g_iload_n (n := 10) d_Folder_load_9 rfl 2 rfl rfl ?_
    refine g_bipush (n := 12) (v := 64) d_Folder_load_10 rfl (by decide) ?_
    refine g_icmp_ge (n := 15) (tgt := 86) d_Folder_load_12 rfl (by decide) (fun q1 => ?_) (fun q1 => ?_)
    · have hf := ob_pos q1 hf
      cases hf
      exact g_vret d_Folder_load_86 rfl (Nat.zero_le _) (Nat.zero_le _)
    · have hf := ob_neg q1 hf
      refine g_iload_n (n := 16) d_Folder_load_15 rfl 1 rfl rfl ?_
      obtain ⟨r2, h3, hf⟩ := ob_bind hf
      refine c_SNr (n := 19) (st' := [.int r2]) [.int x2] [] d_Folder_load_16 rfl (s_V_isCluster htr h3 rfl) nw_411 tw_412 tw_1 tw_413 hd_V_isCluster (by omega) (by decide) rfl (Nat.le_of_ble_eq_true rfl) rfl rfl ?_
      refine g_if_eq (n := 22) (tgt := 86) d_Folder_load_19 rfl (by decide) (fun q4 => ?_) (fun q4 => ?_)
      · have hf := ob_pos q4 hf
        cases hf
        exact g_vret d_Folder_load_86 rfl (Nat.zero_le _) (Nat.zero_le _)
      · have hf := ob_neg q4 hf
        refine g_iload_n (n := 23) d_Folder_load_22 rfl 1 rfl rfl ?_
        obtain ⟨r5, h6, hf⟩ := ob_bind hf
        refine c_SNr (n := 26) (st' := [.int r5]) [.int x2] [] d_Folder_load_23 rfl (s_V_sectorOf htr h6 rfl) nw_414 tw_415 tw_1 tw_416 hd_V_sectorOf (by omega) (by decide) rfl (Nat.le_of_ble_eq_true rfl) rfl rfl ?_
        refine g_bipush (n := 28) (v := 32) d_Folder_load_26 rfl (by decide) ?_
        refine g_imul (n := 29) d_Folder_load_28 rfl ?_
        refine g_istore (n := 31) (ls' := [(4, .int (r5 * 32)), (0, .ref 8), (2, .int x2), (3, .int x3)]) d_Folder_load_29 rfl (am_ltb rfl) rfl ?_
        refine g_aload_n (n := 32) d_Folder_load_31 rfl 1 rfl rfl ?_
        refine g_get (n := 35) (q0 := 8) d_Folder_load_32 rfl (am_fl in_Folder rfl (by decide : 2 < 5)) (List.mem_cons_of_mem _ tw_111) rfl rfl ?_
        refine g_iconst (n := 36) (v := 2) d_Folder_load_35 rfl (by decide) ?_
        refine g_iload_n (n := 37) d_Folder_load_36 rfl 3 rfl rfl ?_
        refine g_imul (n := 38) d_Folder_load_37 rfl ?_
        refine g_iload (n := 40) d_Folder_load_38 rfl 0 rfl ?_
        obtain ⟨b7, hf⟩ := ob_chk hf
        refine g_iast (n := 41) (q0 := 9) (h' := (hC ll he de li en po pw su wr cs wb bt ct lc (upd ad (2 * x3).toNatClampNeg (r5 * 32)) ctb lcb adb fx us ln pt tx br rw rest)) d_Folder_load_40 rfl rfl (am_inl b7) rfl ?_
        refine g_aload_n (n := 42) d_Folder_load_41 rfl 1 rfl rfl ?_
        refine g_get (n := 45) (q0 := 8) d_Folder_load_42 rfl (am_fl in_Folder rfl (by decide : 2 < 5)) (List.mem_cons_of_mem _ tw_111) rfl rfl ?_
        refine g_iconst (n := 46) (v := 2) d_Folder_load_45 rfl (by decide) ?_
        refine g_iload_n (n := 47) d_Folder_load_46 rfl 3 rfl rfl ?_
        refine g_imul (n := 48) d_Folder_load_47 rfl ?_
        refine g_iconst (n := 49) (v := 1) d_Folder_load_48 rfl (by decide) ?_
        refine g_iadd (n := 50) d_Folder_load_49 rfl ?_
        refine g_iload (n := 52) d_Folder_load_50 rfl 0 rfl ?_
        refine g_bipush (n := 54) (v := 16) d_Folder_load_52 rfl (by decide) ?_
        refine g_iadd (n := 55) d_Folder_load_54 rfl ?_
        obtain ⟨b8, hf⟩ := ob_chk hf
        refine g_iast (n := 56) (q0 := 9) (h' := (hC ll he de li en po pw su wr cs wb bt ct lc (upd (upd ad (2 * x3).toNatClampNeg (r5 * 32)) ((2 * x3) + 1).toNatClampNeg ((r5 * 32) + 16)) ctb lcb adb fx us ln pt tx br rw rest)) d_Folder_load_55 rfl rfl (am_inl b8) rfl ?_
        refine g_aload_n (n := 57) d_Folder_load_56 rfl 1 rfl rfl ?_
        refine g_dup (n := 58) d_Folder_load_57 rfl rfl ?_
        refine g_get (n := 61) (q0 := 8) d_Folder_load_58 rfl (am_fl in_Folder rfl (by decide : 3 < 5)) (List.mem_cons_of_mem _ tw_112) rfl rfl ?_
        refine g_iconst (n := 62) (v := 2) d_Folder_load_61 rfl (by decide) ?_
        refine g_iadd (n := 63) d_Folder_load_62 rfl ?_
        refine g_put (n := 66) (q0 := 8) (h' := (hC ll he de li en po pw su wr cs wb bt (ct + 2) lc (upd (upd ad (2 * x3).toNatClampNeg (r5 * 32)) ((2 * x3) + 1).toNatClampNeg ((r5 * 32) + 16)) ctb lcb adb fx us ln pt tx br rw rest)) d_Folder_load_63 rfl (am_fl in_Folder rfl (by decide : 3 < 5)) typ_Folder (List.mem_cons_of_mem _ tw_112) rfl (fun _ _ => rfl) (fun _ _ => rfl) rfl (am_ltb rfl) rfl ?_
        refine g_aload_n (n := 67) d_Folder_load_66 rfl 1 rfl rfl ?_
        refine g_iload_n (n := 68) d_Folder_load_67 rfl 2 rfl rfl ?_
        refine g_put (n := 71) (q0 := 8) (h' := (hC ll he de li en po pw su wr cs wb bt (ct + 2) x2 (upd (upd ad (2 * x3).toNatClampNeg (r5 * 32)) ((2 * x3) + 1).toNatClampNeg ((r5 * 32) + 16)) ctb lcb adb fx us ln pt tx br rw rest)) d_Folder_load_68 rfl (am_fl in_Folder rfl (by decide : 4 < 5)) typ_Folder (List.mem_cons_of_mem _ tw_114) rfl (fun _ _ => rfl) (fun _ _ => rfl) rfl (am_ltb rfl) rfl ?_
        refine g_aload_n (n := 72) d_Folder_load_71 rfl 1 rfl rfl ?_
        refine g_get (n := 75) (q0 := 8) d_Folder_load_72 rfl (am_fl in_Folder rfl (by decide : 1 < 5)) (List.mem_cons_of_mem _ tw_110) rfl rfl ?_
        refine g_iload_n (n := 76) d_Folder_load_75 rfl 2 rfl rfl ?_
        obtain ⟨r9, h10, hf⟩ := ob_bind hf
        refine c_Vr (n := 79) (st' := [.int r9]) [.int x2] [] d_Folder_load_76 rfl (s_Table_cell htr h10 rfl) tw_417 tw_287 tw_288 tw_4 tw_289 hd_Table_cell (by omega) (by decide) (ci := 5) rfl rfl rfl (Nat.le_of_ble_eq_true rfl) rfl rfl ?_
        refine g_istore_n (n := 80) (ls' := [(2, .int r9), (4, .int (r5 * 32)), (0, .ref 8), (3, .int x3)]) d_Folder_load_79 rfl rfl (am_ltb rfl) rfl ?_
        refine g_iinc (n := 83) (v := (x3 + 1)) (ls' := [(3, .int (x3 + 1)), (2, .int r9), (4, .int (r5 * 32)), (0, .ref 8)]) d_Folder_load_80 rfl 3 rfl rfl (am_ltb rfl) rfl ?_
        refine g_goto (n := 9) d_Folder_load_83 (by decide) ?_
        refine g_ls [3, 1, 0] rfl ?_
        exact ih bt (ct + 2) x2 (upd (upd ad (2 * x3).toNatClampNeg (r5 * 32)) ((2 * x3) + 1).toNatClampNeg ((r5 * 32) + 16)) r9 (x3 + 1) _ hf _ rfl
def f_Folder_load (bt : Nat → Int32) (ct : Int32) (lc : Int32) (ad : Nat → Int32) (x1 : Int32) : Option (Int32 × Int32 × (Nat → Int32)) :=
  f_Folder_load_L9 3000 bt 0 lc ad x1 0
set_option maxHeartbeats 4000000 in
set_option maxRecDepth 100000 in
theorem s_Folder_load {l : Launch} {D : va_G} {dA : FieldType → ClassId} (htr : l.stackTraces = false) {rest : List am_E} {ll : Int32} {he : Int32} {de : Int32} {li : Nat → Int32} {en : Nat → Int32} {po : Nat → Int32} {pw : Int32} {su : Int32} {wr : Int32} {cs : Int32} {wb : Int32} {bt : Nat → Int32} {ct : Int32} {lc : Int32} {ad : Nat → Int32} {ctb : Int32} {lcb : Int32} {adb : Nat → Int32} {fx : Int32} {us : Nat → Int32} {ln : Int32} {pt : Int32} {tx : Nat → Int32} {br : Nat → Int32} {rw : Nat → Int32}  {x1 : Int32} {r : Int32 × Int32 × (Nat → Int32)} (hf : f_Folder_load bt ct lc ad x1 = some r) {o : am_O} (ho : .inl none = o) :
    am_M (am_kk l D dA) y_Folder_load ws_Folder_load (am_rm 2 o) [.ref 8, .int x1] (hC ll he de li en po pw su wr cs wb bt ct lc ad ctb lcb adb fx us ln pt tx br rw rest) o (hC ll he de li en po pw su wr cs wb bt r.1 r.2.1 r.2.2 ctb lcb adb fx us ln pt tx br rw rest) := by
  subst ho
  refine am_body (by decide) rfl (Nat.le_of_ble_eq_true rfl) rfl ?_
  rw [f_Folder_load] at hf
  refine g_aload_n (n := 1) d_Folder_load_0 rfl 0 rfl rfl ?_
  refine g_iconst (n := 2) (v := 0) d_Folder_load_1 rfl (by decide) ?_
  refine g_put (n := 5) (q0 := 8) (h' := (hC ll he de li en po pw su wr cs wb bt 0 lc ad ctb lcb adb fx us ln pt tx br rw rest)) d_Folder_load_2 rfl (am_fl in_Folder rfl (by decide : 3 < 5)) typ_Folder (List.mem_cons_of_mem _ tw_112) rfl (fun _ _ => rfl) (fun _ _ => rfl) rfl (am_ltb rfl) rfl ?_
  refine g_iload_n (n := 6) d_Folder_load_5 rfl 1 rfl rfl ?_
  refine g_istore_n (n := 7) (ls' := [(2, .int x1), (0, .ref 8), (1, .int x1)]) d_Folder_load_6 rfl rfl (am_ltb rfl) rfl ?_
  refine g_iconst (n := 8) (v := 0) d_Folder_load_7 rfl (by decide) ?_
  refine g_istore_n (n := 9) (ls' := [(3, .int 0), (2, .int x1), (0, .ref 8), (1, .int x1)]) d_Folder_load_8 rfl rfl (am_ltb rfl) rfl ?_
  refine g_ls [2, 1, 0] rfl ?_
  exact s_Folder_load_L9 htr 3000 bt 0 lc ad x1 0 _ hf _ rfl
def f_Disk_at (bt : Nat → Int32) (x1 : Int32) : Option (Int32) :=
  (if x1 < 0 then some 0 else (if 2240 ≤ x1 then some 0 else (if am_in x1 2240 = true then some (bt x1.toNatClampNeg) else none)))
set_option maxHeartbeats 4000000 in
set_option maxRecDepth 100000 in
theorem s_Disk_at {l : Launch} {D : va_G} {dA : FieldType → ClassId} (htr : l.stackTraces = false) {rest : List am_E} {ll : Int32} {he : Int32} {de : Int32} {li : Nat → Int32} {en : Nat → Int32} {po : Nat → Int32} {pw : Int32} {su : Int32} {wr : Int32} {cs : Int32} {wb : Int32} {bt : Nat → Int32} {ct : Int32} {lc : Int32} {ad : Nat → Int32} {ctb : Int32} {lcb : Int32} {adb : Nat → Int32} {fx : Int32} {us : Nat → Int32} {ln : Int32} {pt : Int32} {tx : Nat → Int32} {br : Nat → Int32} {rw : Nat → Int32}  {x1 : Int32} {r : Int32} (hf : f_Disk_at bt x1 = some r) {o : am_O} (ho : .inl (some (.int r)) = o) :
    am_M (am_kk l D dA) y_Disk_at ws_Disk_at (am_rm 0 o) [.ref 5, .int x1] (hC ll he de li en po pw su wr cs wb bt ct lc ad ctb lcb adb fx us ln pt tx br rw rest) o (hC ll he de li en po pw su wr cs wb bt ct lc ad ctb lcb adb fx us ln pt tx br rw rest) := by
  subst ho
  refine am_body (by decide) rfl (Nat.le_of_ble_eq_true rfl) rfl ?_
  rw [f_Disk_at] at hf
  refine g_iload_n (n := 1) d_Disk_at_0 rfl 1 rfl rfl ?_
  refine g_if_lt (n := 4) (tgt := 22) d_Disk_at_1 rfl (by decide) (fun q1 => ?_) (fun q1 => ?_)
  · have hf := ob_pos q1 hf
    refine g_iconst (n := 23) (v := 0) d_Disk_at_22 rfl (by decide) ?_
    cases hf
    exact g_iret d_Disk_at_23 rfl (Nat.zero_le _) (Nat.zero_le _)
  · have hf := ob_neg q1 hf
    refine g_iload_n (n := 5) d_Disk_at_4 rfl 1 rfl rfl ?_
    refine g_aload_n (n := 6) d_Disk_at_5 rfl 0 rfl rfl ?_
    refine g_get (n := 9) (q0 := 5) d_Disk_at_6 rfl (am_fl in_Disk rfl (by decide : 0 < 7)) (List.mem_cons_of_mem _ tw_69) rfl rfl ?_
    refine g_ialen (n := 10) (q0 := 6) (v := 2240) d_Disk_at_9 rfl rfl (by decide) ?_
    refine g_icmp_ge (n := 13) (tgt := 22) d_Disk_at_10 rfl (by decide) (fun q2 => ?_) (fun q2 => ?_)
    · have hf := ob_pos q2 hf
      refine g_iconst (n := 23) (v := 0) d_Disk_at_22 rfl (by decide) ?_
      cases hf
      exact g_iret d_Disk_at_23 rfl (Nat.zero_le _) (Nat.zero_le _)
    · have hf := ob_neg q2 hf
      refine g_aload_n (n := 14) d_Disk_at_13 rfl 0 rfl rfl ?_
      refine g_get (n := 17) (q0 := 5) d_Disk_at_14 rfl (am_fl in_Disk rfl (by decide : 0 < 7)) (List.mem_cons_of_mem _ tw_69) rfl rfl ?_
      refine g_iload_n (n := 18) d_Disk_at_17 rfl 1 rfl rfl ?_
      obtain ⟨b3, hf⟩ := ob_chk hf
      refine g_iald (n := 19) (q0 := 6) d_Disk_at_18 rfl rfl (am_inl b3) ?_
      refine g_goto (n := 23) d_Disk_at_19 (by decide) ?_
      cases hf
      exact g_iret d_Disk_at_23 rfl (Nat.zero_le _) (Nat.zero_le _)
def f_Folder_byteOf (bt : Nat → Int32) (ct : Int32) (ad : Nat → Int32) (x1 : Int32) (x2 : Int32) : Option (Int32) :=
  (if x1 < 0 then some 0 else (if ct ≤ x1 then some 0 else (if am_in x1 128 = true then ((f_Disk_at bt ((ad x1.toNatClampNeg) + x2)).bind fun r4 => some r4) else none)))
set_option maxHeartbeats 4000000 in
set_option maxRecDepth 100000 in
theorem s_Folder_byteOf {l : Launch} {D : va_G} {dA : FieldType → ClassId} (htr : l.stackTraces = false) {rest : List am_E} {ll : Int32} {he : Int32} {de : Int32} {li : Nat → Int32} {en : Nat → Int32} {po : Nat → Int32} {pw : Int32} {su : Int32} {wr : Int32} {cs : Int32} {wb : Int32} {bt : Nat → Int32} {ct : Int32} {lc : Int32} {ad : Nat → Int32} {ctb : Int32} {lcb : Int32} {adb : Nat → Int32} {fx : Int32} {us : Nat → Int32} {ln : Int32} {pt : Int32} {tx : Nat → Int32} {br : Nat → Int32} {rw : Nat → Int32}  {x1 : Int32} {x2 : Int32} {r : Int32} (hf : f_Folder_byteOf bt ct ad x1 x2 = some r) {o : am_O} (ho : .inl (some (.int r)) = o) :
    am_M (am_kk l D dA) y_Folder_byteOf ws_Folder_byteOf (am_rm 1 o) [.ref 8, .int x1, .int x2] (hC ll he de li en po pw su wr cs wb bt ct lc ad ctb lcb adb fx us ln pt tx br rw rest) o (hC ll he de li en po pw su wr cs wb bt ct lc ad ctb lcb adb fx us ln pt tx br rw rest) := by
  subst ho
  refine am_body (by decide) rfl (Nat.le_of_ble_eq_true rfl) rfl ?_
  rw [f_Folder_byteOf] at hf
  refine g_iload_n (n := 1) d_Folder_byteOf_0 rfl 1 rfl rfl ?_
  refine g_if_lt (n := 4) (tgt := 30) d_Folder_byteOf_1 rfl (by decide) (fun q1 => ?_) (fun q1 => ?_)
  · have hf := ob_pos q1 hf
    refine g_iconst (n := 31) (v := 0) d_Folder_byteOf_30 rfl (by decide) ?_
    cases hf
    exact g_iret d_Folder_byteOf_31 rfl (Nat.zero_le _) (Nat.zero_le _)
  · have hf := ob_neg q1 hf
    refine g_iload_n (n := 5) d_Folder_byteOf_4 rfl 1 rfl rfl ?_
    refine g_aload_n (n := 6) d_Folder_byteOf_5 rfl 0 rfl rfl ?_
    refine g_get (n := 9) (q0 := 8) d_Folder_byteOf_6 rfl (am_fl in_Folder rfl (by decide : 3 < 5)) (List.mem_cons_of_mem _ tw_112) rfl rfl ?_
    refine g_icmp_ge (n := 12) (tgt := 30) d_Folder_byteOf_9 rfl (by decide) (fun q2 => ?_) (fun q2 => ?_)
    · have hf := ob_pos q2 hf
      refine g_iconst (n := 31) (v := 0) d_Folder_byteOf_30 rfl (by decide) ?_
      cases hf
      exact g_iret d_Folder_byteOf_31 rfl (Nat.zero_le _) (Nat.zero_le _)
    · have hf := ob_neg q2 hf
      refine g_aload_n (n := 13) d_Folder_byteOf_12 rfl 0 rfl rfl ?_
      refine g_get (n := 16) (q0 := 8) d_Folder_byteOf_13 rfl (am_fl in_Folder rfl (by decide : 0 < 5)) (List.mem_cons_of_mem _ tw_109) rfl rfl ?_
      refine g_aload_n (n := 17) d_Folder_byteOf_16 rfl 0 rfl rfl ?_
      refine g_get (n := 20) (q0 := 8) d_Folder_byteOf_17 rfl (am_fl in_Folder rfl (by decide : 2 < 5)) (List.mem_cons_of_mem _ tw_111) rfl rfl ?_
      refine g_iload_n (n := 21) d_Folder_byteOf_20 rfl 1 rfl rfl ?_
      obtain ⟨b3, hf⟩ := ob_chk hf
      refine g_iald (n := 22) (q0 := 9) d_Folder_byteOf_21 rfl rfl (am_inl b3) ?_
      refine g_iload_n (n := 23) d_Folder_byteOf_22 rfl 2 rfl rfl ?_
      refine g_iadd (n := 24) d_Folder_byteOf_23 rfl ?_
      obtain ⟨r4, h5, hf⟩ := ob_bind hf
      refine c_Vr (n := 27) (st' := [.int r4]) [.int ((ad x1.toNatClampNeg) + x2)] [] d_Folder_byteOf_24 rfl (s_Disk_at htr h5 rfl) tw_430 tw_262 tw_263 tw_3 tw_264 hd_Disk_at (by omega) (by decide) (ci := 0) rfl rfl rfl (Nat.le_of_ble_eq_true rfl) rfl rfl ?_
      refine g_goto (n := 31) d_Folder_byteOf_27 (by decide) ?_
      cases hf
      exact g_iret d_Folder_byteOf_31 rfl (Nat.zero_le _) (Nat.zero_le _)
def f_Folder_kindOf (bt : Nat → Int32) (ct : Int32) (ad : Nat → Int32) (x1 : Int32) : Option (Int32) :=
  ((f_Folder_byteOf bt ct ad x1 6).bind fun r1 => some r1)
set_option maxHeartbeats 4000000 in
set_option maxRecDepth 100000 in
theorem s_Folder_kindOf {l : Launch} {D : va_G} {dA : FieldType → ClassId} (htr : l.stackTraces = false) {rest : List am_E} {ll : Int32} {he : Int32} {de : Int32} {li : Nat → Int32} {en : Nat → Int32} {po : Nat → Int32} {pw : Int32} {su : Int32} {wr : Int32} {cs : Int32} {wb : Int32} {bt : Nat → Int32} {ct : Int32} {lc : Int32} {ad : Nat → Int32} {ctb : Int32} {lcb : Int32} {adb : Nat → Int32} {fx : Int32} {us : Nat → Int32} {ln : Int32} {pt : Int32} {tx : Nat → Int32} {br : Nat → Int32} {rw : Nat → Int32}  {x1 : Int32} {r : Int32} (hf : f_Folder_kindOf bt ct ad x1 = some r) {o : am_O} (ho : .inl (some (.int r)) = o) :
    am_M (am_kk l D dA) y_Folder_kindOf ws_Folder_kindOf (am_rm 2 o) [.ref 8, .int x1] (hC ll he de li en po pw su wr cs wb bt ct lc ad ctb lcb adb fx us ln pt tx br rw rest) o (hC ll he de li en po pw su wr cs wb bt ct lc ad ctb lcb adb fx us ln pt tx br rw rest) := by
  subst ho
  refine am_body (by decide) rfl (Nat.le_of_ble_eq_true rfl) rfl ?_
  rw [f_Folder_kindOf] at hf
  refine g_aload_n (n := 1) d_Folder_kindOf_0 rfl 0 rfl rfl ?_
  refine g_iload_n (n := 2) d_Folder_kindOf_1 rfl 1 rfl rfl ?_
  refine g_bipush (n := 4) (v := 6) d_Folder_kindOf_2 rfl (by decide) ?_
  obtain ⟨r1, h2, hf⟩ := ob_bind hf
  refine c_Vr (n := 7) (st' := [.int r1]) [.int x1, .int 6] [] d_Folder_kindOf_4 rfl (s_Folder_byteOf htr h2 rfl) tw_426 tw_427 tw_428 tw_5 tw_429 hd_Folder_byteOf (by omega) (by decide) (ci := 1) rfl rfl rfl (Nat.le_of_ble_eq_true rfl) rfl rfl ?_
  cases hf
  exact g_iret d_Folder_kindOf_7 rfl (Nat.zero_le _) (Nat.zero_le _)
def f_Folder_isNamed (bt : Nat → Int32) (ct : Int32) (ad : Nat → Int32) (x1 : Int32) : Option (Int32) :=
  ((f_Folder_byteOf bt ct ad x1 0).bind fun r1 => ((f_Folder_byteOf bt ct ad x1 6).bind fun r3 => (if r1 = 0 then some 0 else (if r1 = 229 then some 0 else (if r3 = 1 then some 1 else (if r3 = 2 then some 1 else some 0))))))
set_option maxHeartbeats 4000000 in
set_option maxRecDepth 100000 in
theorem s_Folder_isNamed {l : Launch} {D : va_G} {dA : FieldType → ClassId} (htr : l.stackTraces = false) {rest : List am_E} {ll : Int32} {he : Int32} {de : Int32} {li : Nat → Int32} {en : Nat → Int32} {po : Nat → Int32} {pw : Int32} {su : Int32} {wr : Int32} {cs : Int32} {wb : Int32} {bt : Nat → Int32} {ct : Int32} {lc : Int32} {ad : Nat → Int32} {ctb : Int32} {lcb : Int32} {adb : Nat → Int32} {fx : Int32} {us : Nat → Int32} {ln : Int32} {pt : Int32} {tx : Nat → Int32} {br : Nat → Int32} {rw : Nat → Int32}  {x1 : Int32} {r : Int32} (hf : f_Folder_isNamed bt ct ad x1 = some r) {o : am_O} (ho : .inl (some (.int r)) = o) :
    am_M (am_kk l D dA) y_Folder_isNamed ws_Folder_isNamed (am_rm 2 o) [.ref 8, .int x1] (hC ll he de li en po pw su wr cs wb bt ct lc ad ctb lcb adb fx us ln pt tx br rw rest) o (hC ll he de li en po pw su wr cs wb bt ct lc ad ctb lcb adb fx us ln pt tx br rw rest) := by
  subst ho
  refine am_body (by decide) rfl (Nat.le_of_ble_eq_true rfl) rfl ?_
  rw [f_Folder_isNamed] at hf
  refine g_aload_n (n := 1) d_Folder_isNamed_0 rfl 0 rfl rfl ?_
  refine g_iload_n (n := 2) d_Folder_isNamed_1 rfl 1 rfl rfl ?_
  refine g_iconst (n := 3) (v := 0) d_Folder_isNamed_2 rfl (by decide) ?_
  obtain ⟨r1, h2, hf⟩ := ob_bind hf
  refine c_Vr (n := 6) (st' := [.int r1]) [.int x1, .int 0] [] d_Folder_isNamed_3 rfl (s_Folder_byteOf htr h2 rfl) tw_426 tw_427 tw_428 tw_5 tw_429 hd_Folder_byteOf (by omega) (by decide) (ci := 1) rfl rfl rfl (Nat.le_of_ble_eq_true rfl) rfl rfl ?_
  refine g_istore_n (n := 7) (ls' := [(2, .int r1), (0, .ref 8), (1, .int x1)]) d_Folder_isNamed_6 rfl rfl (am_ltb rfl) rfl ?_
  refine g_aload_n (n := 8) d_Folder_isNamed_7 rfl 1 rfl rfl ?_
  refine g_iload_n (n := 9) d_Folder_isNamed_8 rfl 2 rfl rfl ?_
  refine g_bipush (n := 11) (v := 6) d_Folder_isNamed_9 rfl (by decide) ?_
  obtain ⟨r3, h4, hf⟩ := ob_bind hf
  refine c_Vr (n := 14) (st' := [.int r3]) [.int x1, .int 6] [] d_Folder_isNamed_11 rfl (s_Folder_byteOf htr h4 rfl) tw_426 tw_427 tw_428 tw_5 tw_429 hd_Folder_byteOf (by omega) (by decide) (ci := 1) rfl rfl rfl (Nat.le_of_ble_eq_true rfl) rfl rfl ?_
  refine g_istore_n (n := 15) (ls' := [(3, .int r3), (2, .int r1), (0, .ref 8), (1, .int x1)]) d_Folder_isNamed_14 rfl rfl (am_ltb rfl) rfl ?_
  refine g_iload_n (n := 16) d_Folder_isNamed_15 rfl 1 rfl rfl ?_
  refine g_if_eq (n := 19) (tgt := 40) d_Folder_isNamed_16 rfl (by decide) (fun q5 => ?_) (fun q5 => ?_)
  · have hf := ob_pos q5 hf
    refine g_iconst (n := 41) (v := 0) d_Folder_isNamed_40 rfl (by decide) ?_
    cases hf
    exact g_zret d_Folder_isNamed_41 rfl am_z0 (Nat.zero_le _) (Nat.zero_le _)
  · have hf := ob_neg q5 hf
    refine g_iload_n (n := 20) d_Folder_isNamed_19 rfl 1 rfl rfl ?_
    refine g_sipush (n := 23) (v := 229) d_Folder_isNamed_20 rfl (by decide) ?_
    refine g_icmp_eq (n := 26) (tgt := 40) d_Folder_isNamed_23 rfl (by decide) (fun q6 => ?_) (fun q6 => ?_)
    · have hf := ob_pos q6 hf
      refine g_iconst (n := 41) (v := 0) d_Folder_isNamed_40 rfl (by decide) ?_
      cases hf
      exact g_zret d_Folder_isNamed_41 rfl am_z0 (Nat.zero_le _) (Nat.zero_le _)
    · have hf := ob_neg q6 hf
      refine g_iload_n (n := 27) d_Folder_isNamed_26 rfl 0 rfl rfl ?_
      refine g_iconst (n := 28) (v := 1) d_Folder_isNamed_27 rfl (by decide) ?_
      refine g_icmp_eq (n := 31) (tgt := 36) d_Folder_isNamed_28 rfl (by decide) (fun q7 => ?_) (fun q7 => ?_)
      · have hf := ob_pos q7 hf
        refine g_iconst (n := 37) (v := 1) d_Folder_isNamed_36 rfl (by decide) ?_
        refine g_goto (n := 41) d_Folder_isNamed_37 (by decide) ?_
        cases hf
        exact g_zret d_Folder_isNamed_41 rfl am_z1 (Nat.zero_le _) (Nat.zero_le _)
      · have hf := ob_neg q7 hf
        refine g_iload_n (n := 32) d_Folder_isNamed_31 rfl 0 rfl rfl ?_
        refine g_iconst (n := 33) (v := 2) d_Folder_isNamed_32 rfl (by decide) ?_
        refine g_icmp_ne (n := 36) (tgt := 40) d_Folder_isNamed_33 rfl (by decide) (fun q8 => ?_) (fun q8 => ?_)
        · have hf := ob_neg q8 hf
          refine g_iconst (n := 41) (v := 0) d_Folder_isNamed_40 rfl (by decide) ?_
          cases hf
          exact g_zret d_Folder_isNamed_41 rfl am_z0 (Nat.zero_le _) (Nat.zero_le _)
        · have hf := ob_pos q8 hf
          refine g_iconst (n := 37) (v := 1) d_Folder_isNamed_36 rfl (by decide) ?_
          refine g_goto (n := 41) d_Folder_isNamed_37 (by decide) ?_
          cases hf
          exact g_zret d_Folder_isNamed_41 rfl am_z1 (Nat.zero_le _) (Nat.zero_le _)
def f_Folder_shortLengthOf_L2 : Nat → (Nat → Int32) → Int32 → (Nat → Int32) → Int32 → Int32 → Option (Int32)
  | 0, _, _, _, _, _ => none
  | fuel + 1, bt, ct, ad, x1, x2 =>
  (if 6 ≤ x2 then some 6 else ((f_Folder_byteOf bt ct ad x1 x2).bind fun r2 => (if r2 = 32 then some x2 else (if r2 = 0 then some x2 else f_Folder_shortLengthOf_L2 fuel bt ct ad x1 (x2 + 1)))))
set_option maxHeartbeats 4000000 in
set_option maxRecDepth 100000 in
theorem s_Folder_shortLengthOf_L2 {l : Launch} {D : va_G} {dA : FieldType → ClassId} (htr : l.stackTraces = false) {rest : List am_E} {ll : Int32} {he : Int32} {de : Int32} {li : Nat → Int32} {en : Nat → Int32} {po : Nat → Int32} {pw : Int32} {su : Int32} {wr : Int32} {cs : Int32} {wb : Int32} {lc : Int32} {ctb : Int32} {lcb : Int32} {adb : Nat → Int32} {fx : Int32} {us : Nat → Int32} {ln : Int32} {pt : Int32} {tx : Nat → Int32} {br : Nat → Int32} {rw : Nat → Int32}  : ∀ (fuel : Nat) (bt : Nat → Int32) (ct : Int32) (ad : Nat → Int32) (x1 : Int32) (x2 : Int32) (r : Int32), f_Folder_shortLengthOf_L2 fuel bt ct ad x1 x2 = some r → ∀ o : am_O, .inl (some (.int r)) = o →
    am_G (am_kk l D dA) (ws_Folder_shortLengthOf, y_Folder_shortLengthOf.cls, prog_3_method_20_code, 4, (some .int), y_Folder_shortLengthOf.name, [], am_rm 2 (o), none) o (hC ll he de li en po pw su wr cs wb bt ct lc ad ctb lcb adb fx us ln pt tx br rw rest) 0 0 2 [(0, .ref 8), (1, .int x1), (2, .int x2)] [] (hC ll he de li en po pw su wr cs wb bt ct lc ad ctb lcb adb fx us ln pt tx br rw rest) := by
  intro fuel
  induction fuel with
  | zero =>
    intro bt ct ad x1 x2 r hf
    cases hf
  | succ fuel ih =>
    intro bt ct ad x1 x2 r hf o ho
    subst ho
    rw [f_Folder_shortLengthOf_L2] at hf
    refine g_iload_n (n := 3) d_Folder_shortLengthOf_2 rfl 2 rfl rfl ?_
    refine g_bipush (n := 5) (v := 6) d_Folder_shortLengthOf_3 rfl (by decide) ?_
    refine g_icmp_ge (n := 8) (tgt := 33) d_Folder_shortLengthOf_5 rfl (by decide) (fun q1 => ?_) (fun q1 => ?_)
    · have hf := ob_pos q1 hf
      refine g_bipush (n := 35) (v := 6) d_Folder_shortLengthOf_33 rfl (by decide) ?_
      cases hf
      exact g_iret d_Folder_shortLengthOf_35 rfl (Nat.zero_le _) (Nat.zero_le _)
    · have hf := ob_neg q1 hf
      refine g_aload_n (n := 9) d_Folder_shortLengthOf_8 rfl 0 rfl rfl ?_
      refine g_iload_n (n := 10) d_Folder_shortLengthOf_9 rfl 1 rfl rfl ?_
      refine g_iload_n (n := 11) d_Folder_shortLengthOf_10 rfl 2 rfl rfl ?_
      obtain ⟨r2, h3, hf⟩ := ob_bind hf
      refine c_Vr (n := 14) (st' := [.int r2]) [.int x1, .int x2] [] d_Folder_shortLengthOf_11 rfl (s_Folder_byteOf htr h3 rfl) tw_426 tw_427 tw_428 tw_5 tw_429 hd_Folder_byteOf (by omega) (by decide) (ci := 1) rfl rfl rfl (Nat.le_of_ble_eq_true rfl) rfl rfl ?_
      refine g_istore_n (n := 15) (ls' := [(3, .int r2), (0, .ref 8), (1, .int x1), (2, .int x2)]) d_Folder_shortLengthOf_14 rfl rfl (am_ltb rfl) rfl ?_
      refine g_iload_n (n := 16) d_Folder_shortLengthOf_15 rfl 0 rfl rfl ?_
      refine g_bipush (n := 18) (v := 32) d_Folder_shortLengthOf_16 rfl (by decide) ?_
      refine g_icmp_eq (n := 21) (tgt := 25) d_Folder_shortLengthOf_18 rfl (by decide) (fun q4 => ?_) (fun q4 => ?_)
      · have hf := ob_pos q4 hf
        refine g_iload_n (n := 26) d_Folder_shortLengthOf_25 rfl 3 rfl rfl ?_
        cases hf
        exact g_iret d_Folder_shortLengthOf_26 rfl (Nat.zero_le _) (Nat.zero_le _)
      · have hf := ob_neg q4 hf
        refine g_iload_n (n := 22) d_Folder_shortLengthOf_21 rfl 0 rfl rfl ?_
        refine g_if_ne (n := 25) (tgt := 27) d_Folder_shortLengthOf_22 rfl (by decide) (fun q5 => ?_) (fun q5 => ?_)
        · have hf := ob_neg q5 hf
          refine g_iinc (n := 30) (v := (x2 + 1)) (ls' := [(2, .int (x2 + 1)), (3, .int r2), (0, .ref 8), (1, .int x1)]) d_Folder_shortLengthOf_27 rfl 3 rfl rfl (am_ltb rfl) rfl ?_
          refine g_goto (n := 2) d_Folder_shortLengthOf_30 (by decide) ?_
          refine g_ls [2, 3, 0] rfl ?_
          exact ih bt ct ad x1 (x2 + 1) _ hf _ rfl
        · have hf := ob_pos q5 hf
          refine g_iload_n (n := 26) d_Folder_shortLengthOf_25 rfl 3 rfl rfl ?_
          cases hf
          exact g_iret d_Folder_shortLengthOf_26 rfl (Nat.zero_le _) (Nat.zero_le _)
def f_Folder_shortLengthOf (bt : Nat → Int32) (ct : Int32) (ad : Nat → Int32) (x1 : Int32) : Option (Int32) :=
  f_Folder_shortLengthOf_L2 3000 bt ct ad x1 0
set_option maxHeartbeats 4000000 in
set_option maxRecDepth 100000 in
theorem s_Folder_shortLengthOf {l : Launch} {D : va_G} {dA : FieldType → ClassId} (htr : l.stackTraces = false) {rest : List am_E} {ll : Int32} {he : Int32} {de : Int32} {li : Nat → Int32} {en : Nat → Int32} {po : Nat → Int32} {pw : Int32} {su : Int32} {wr : Int32} {cs : Int32} {wb : Int32} {bt : Nat → Int32} {ct : Int32} {lc : Int32} {ad : Nat → Int32} {ctb : Int32} {lcb : Int32} {adb : Nat → Int32} {fx : Int32} {us : Nat → Int32} {ln : Int32} {pt : Int32} {tx : Nat → Int32} {br : Nat → Int32} {rw : Nat → Int32}  {x1 : Int32} {r : Int32} (hf : f_Folder_shortLengthOf bt ct ad x1 = some r) {o : am_O} (ho : .inl (some (.int r)) = o) :
    am_M (am_kk l D dA) y_Folder_shortLengthOf ws_Folder_shortLengthOf (am_rm 2 o) [.ref 8, .int x1] (hC ll he de li en po pw su wr cs wb bt ct lc ad ctb lcb adb fx us ln pt tx br rw rest) o (hC ll he de li en po pw su wr cs wb bt ct lc ad ctb lcb adb fx us ln pt tx br rw rest) := by
  subst ho
  refine am_body (by decide) rfl (Nat.le_of_ble_eq_true rfl) rfl ?_
  rw [f_Folder_shortLengthOf] at hf
  refine g_iconst (n := 1) (v := 0) d_Folder_shortLengthOf_0 rfl (by decide) ?_
  refine g_istore_n (n := 2) (ls' := [(2, .int 0), (0, .ref 8), (1, .int x1)]) d_Folder_shortLengthOf_1 rfl rfl (am_ltb rfl) rfl ?_
  refine g_ls [1, 2, 0] rfl ?_
  exact s_Folder_shortLengthOf_L2 htr 3000 bt ct ad x1 0 _ hf _ rfl
def f_V_capital (x0 : Int32) : Option (Int32) :=
  (if x0 < 97 then some x0 else (if 122 < x0 then some x0 else some ((x0 - 97) + 65)))
set_option maxHeartbeats 4000000 in
set_option maxRecDepth 100000 in
theorem s_V_capital {l : Launch} {D : va_G} {dA : FieldType → ClassId} (htr : l.stackTraces = false) {rest : List am_E} {ll : Int32} {he : Int32} {de : Int32} {li : Nat → Int32} {en : Nat → Int32} {po : Nat → Int32} {pw : Int32} {su : Int32} {wr : Int32} {cs : Int32} {wb : Int32} {bt : Nat → Int32} {ct : Int32} {lc : Int32} {ad : Nat → Int32} {ctb : Int32} {lcb : Int32} {adb : Nat → Int32} {fx : Int32} {us : Nat → Int32} {ln : Int32} {pt : Int32} {tx : Nat → Int32} {br : Nat → Int32} {rw : Nat → Int32}  {x0 : Int32} {r : Int32} (hf : f_V_capital x0 = some r) {o : am_O} (ho : .inl (some (.int r)) = o) :
    am_M (am_kk l D dA) y_V_capital ws_V_capital (am_rm 0 o) [.int x0] (hC ll he de li en po pw su wr cs wb bt ct lc ad ctb lcb adb fx us ln pt tx br rw rest) o (hC ll he de li en po pw su wr cs wb bt ct lc ad ctb lcb adb fx us ln pt tx br rw rest) := by
  subst ho
  refine am_body (by decide) rfl (Nat.le_of_ble_eq_true rfl) rfl ?_
  rw [f_V_capital] at hf
  refine g_iload_n (n := 1) d_V_capital_0 rfl 0 rfl rfl ?_
  refine g_bipush (n := 3) (v := 97) d_V_capital_1 rfl (by decide) ?_
  refine g_icmp_lt (n := 6) (tgt := 22) d_V_capital_3 rfl (by decide) (fun q1 => ?_) (fun q1 => ?_)
  · have hf := ob_pos q1 hf
    refine g_iload_n (n := 23) d_V_capital_22 rfl 0 rfl rfl ?_
    cases hf
    exact g_iret d_V_capital_23 rfl (Nat.zero_le _) (Nat.zero_le _)
  · have hf := ob_neg q1 hf
    refine g_iload_n (n := 7) d_V_capital_6 rfl 0 rfl rfl ?_
    refine g_bipush (n := 9) (v := 122) d_V_capital_7 rfl (by decide) ?_
    refine g_icmp_gt (n := 12) (tgt := 22) d_V_capital_9 rfl (by decide) (fun q2 => ?_) (fun q2 => ?_)
    · have hf := ob_pos q2 hf
      refine g_iload_n (n := 23) d_V_capital_22 rfl 0 rfl rfl ?_
      cases hf
      exact g_iret d_V_capital_23 rfl (Nat.zero_le _) (Nat.zero_le _)
    · have hf := ob_neg q2 hf
      refine g_iload_n (n := 13) d_V_capital_12 rfl 0 rfl rfl ?_
      refine g_bipush (n := 15) (v := 97) d_V_capital_13 rfl (by decide) ?_
      refine g_isub (n := 16) d_V_capital_15 rfl ?_
      refine g_bipush (n := 18) (v := 65) d_V_capital_16 rfl (by decide) ?_
      refine g_iadd (n := 19) d_V_capital_18 rfl ?_
      refine g_goto (n := 23) d_V_capital_19 (by decide) ?_
      cases hf
      exact g_iret d_V_capital_23 rfl (Nat.zero_le _) (Nat.zero_le _)
end
section
def f_Name_charAt (ln : Int32) (tx : Nat → Int32) (x1 : Int32) : Option (Int32) :=
  (if x1 < 0 then some 0 else (if ln ≤ x1 then some 0 else (if 26 ≤ x1 then some 0 else (if am_in x1 26 = true then some (tx x1.toNatClampNeg) else none))))
set_option maxHeartbeats 4000000 in
set_option maxRecDepth 100000 in
theorem s_Name_charAt {l : Launch} {D : va_G} {dA : FieldType → ClassId} (htr : l.stackTraces = false) {rest : List am_E} {ll : Int32} {he : Int32} {de : Int32} {li : Nat → Int32} {en : Nat → Int32} {po : Nat → Int32} {pw : Int32} {su : Int32} {wr : Int32} {cs : Int32} {wb : Int32} {bt : Nat → Int32} {ct : Int32} {lc : Int32} {ad : Nat → Int32} {ctb : Int32} {lcb : Int32} {adb : Nat → Int32} {fx : Int32} {us : Nat → Int32} {ln : Int32} {pt : Int32} {tx : Nat → Int32} {br : Nat → Int32} {rw : Nat → Int32}  {x1 : Int32} {r : Int32} (hf : f_Name_charAt ln tx x1 = some r) {o : am_O} (ho : .inl (some (.int r)) = o) :
    am_M (am_kk l D dA) y_Name_charAt ws_Name_charAt (am_rm 0 o) [.ref 14, .int x1] (hC ll he de li en po pw su wr cs wb bt ct lc ad ctb lcb adb fx us ln pt tx br rw rest) o (hC ll he de li en po pw su wr cs wb bt ct lc ad ctb lcb adb fx us ln pt tx br rw rest) := by
  subst ho
  refine am_body (by decide) rfl (Nat.le_of_ble_eq_true rfl) rfl ?_
  rw [f_Name_charAt] at hf
  refine g_iload_n (n := 1) d_Name_charAt_0 rfl 1 rfl rfl ?_
  refine g_if_lt (n := 4) (tgt := 30) d_Name_charAt_1 rfl (by decide) (fun q1 => ?_) (fun q1 => ?_)
  · have hf := ob_pos q1 hf
    refine g_iconst (n := 31) (v := 0) d_Name_charAt_30 rfl (by decide) ?_
    cases hf
    exact g_iret d_Name_charAt_31 rfl (Nat.zero_le _) (Nat.zero_le _)
  · have hf := ob_neg q1 hf
    refine g_iload_n (n := 5) d_Name_charAt_4 rfl 1 rfl rfl ?_
    refine g_aload_n (n := 6) d_Name_charAt_5 rfl 0 rfl rfl ?_
    refine g_get (n := 9) (q0 := 14) d_Name_charAt_6 rfl (am_fl in_Name rfl (by decide : 2 < 4)) (List.mem_cons_of_mem _ tw_159) rfl rfl ?_
    refine g_icmp_ge (n := 12) (tgt := 30) d_Name_charAt_9 rfl (by decide) (fun q2 => ?_) (fun q2 => ?_)
    · have hf := ob_pos q2 hf
      refine g_iconst (n := 31) (v := 0) d_Name_charAt_30 rfl (by decide) ?_
      cases hf
      exact g_iret d_Name_charAt_31 rfl (Nat.zero_le _) (Nat.zero_le _)
    · have hf := ob_neg q2 hf
      refine g_iload_n (n := 13) d_Name_charAt_12 rfl 1 rfl rfl ?_
      refine g_aload_n (n := 14) d_Name_charAt_13 rfl 0 rfl rfl ?_
      refine g_get (n := 17) (q0 := 14) d_Name_charAt_14 rfl (am_fl in_Name rfl (by decide : 0 < 4)) (List.mem_cons_of_mem _ tw_157) rfl rfl ?_
      refine g_calen (n := 18) (q0 := 15) (v := 26) d_Name_charAt_17 rfl rfl (by decide) ?_
      refine g_icmp_ge (n := 21) (tgt := 30) d_Name_charAt_18 rfl (by decide) (fun q3 => ?_) (fun q3 => ?_)
      · have hf := ob_pos q3 hf
        refine g_iconst (n := 31) (v := 0) d_Name_charAt_30 rfl (by decide) ?_
        cases hf
        exact g_iret d_Name_charAt_31 rfl (Nat.zero_le _) (Nat.zero_le _)
      · have hf := ob_neg q3 hf
        refine g_aload_n (n := 22) d_Name_charAt_21 rfl 0 rfl rfl ?_
        refine g_get (n := 25) (q0 := 14) d_Name_charAt_22 rfl (am_fl in_Name rfl (by decide : 0 < 4)) (List.mem_cons_of_mem _ tw_157) rfl rfl ?_
        refine g_iload_n (n := 26) d_Name_charAt_25 rfl 1 rfl rfl ?_
        obtain ⟨b4, hf⟩ := ob_chk hf
        refine g_cald (n := 27) (q0 := 15) d_Name_charAt_26 rfl rfl (am_inl b4) ?_
        refine g_goto (n := 31) d_Name_charAt_27 (by decide) ?_
        cases hf
        exact g_iret d_Name_charAt_31 rfl (Nat.zero_le _) (Nat.zero_le _)
def f_Folder_isShortCalled_L16 : Nat → (Nat → Int32) → Int32 → (Nat → Int32) → Int32 → (Nat → Int32) → Int32 → Int32 → Option (Int32)
  | 0, _, _, _, _, _, _, _ => none
  | fuel + 1, bt, ct, ad, ln, tx, x1, x3 =>
  (if ln ≤ x3 then some 1 else ((f_Folder_byteOf bt ct ad x1 x3).bind fun r5 => ((f_V_capital r5).bind fun r7 => ((f_Name_charAt ln tx x3).bind fun r9 => ((f_V_capital r9).bind fun r11 => (if r7 = r11 then f_Folder_isShortCalled_L16 fuel bt ct ad ln tx x1 (x3 + 1) else some 0))))))
set_option maxHeartbeats 4000000 in
set_option maxRecDepth 100000 in
theorem s_Folder_isShortCalled_L16 {l : Launch} {D : va_G} {dA : FieldType → ClassId} (htr : l.stackTraces = false) {rest : List am_E} {ll : Int32} {he : Int32} {de : Int32} {li : Nat → Int32} {en : Nat → Int32} {po : Nat → Int32} {pw : Int32} {su : Int32} {wr : Int32} {cs : Int32} {wb : Int32} {lc : Int32} {ctb : Int32} {lcb : Int32} {adb : Nat → Int32} {fx : Int32} {us : Nat → Int32} {pt : Int32} {br : Nat → Int32} {rw : Nat → Int32}  : ∀ (fuel : Nat) (bt : Nat → Int32) (ct : Int32) (ad : Nat → Int32) (ln : Int32) (tx : Nat → Int32) (x1 : Int32) (x3 : Int32) (r : Int32), f_Folder_isShortCalled_L16 fuel bt ct ad ln tx x1 x3 = some r → ∀ o : am_O, .inl (some (.int r)) = o →
    am_G (am_kk l D dA) (ws_Folder_isShortCalled, y_Folder_isShortCalled.cls, prog_3_method_16_code, 4, (some .boolean), y_Folder_isShortCalled.name, [], am_rm 3 (o), none) o (hC ll he de li en po pw su wr cs wb bt ct lc ad ctb lcb adb fx us ln pt tx br rw rest) 0 0 16 [(0, .ref 8), (1, .int x1), (2, .ref 14), (3, .int x3)] [] (hC ll he de li en po pw su wr cs wb bt ct lc ad ctb lcb adb fx us ln pt tx br rw rest) := by
  intro fuel
  induction fuel with
  | zero =>
    intro bt ct ad ln tx x1 x3 r hf
    cases hf
  | succ fuel ih =>
    intro bt ct ad ln tx x1 x3 r hf o ho
    subst ho
    rw [f_Folder_isShortCalled_L16] at hf
    refine g_iload_n (n := 17) d_Folder_isShortCalled_16 rfl 3 rfl rfl ?_
    refine g_aload_n (n := 18) d_Folder_isShortCalled_17 rfl 2 rfl rfl ?_
    refine g_getN (n := 21) (q0 := 14) d_Folder_isShortCalled_18 rfl (am_fl in_Name rfl (by decide : 2 < 4)) nw_161 rfl rfl ?_
    refine g_icmp_ge (n := 24) (tgt := 52) d_Folder_isShortCalled_21 rfl (by decide) (fun q4 => ?_) (fun q4 => ?_)
    · have hf := ob_pos q4 hf
      refine g_iconst (n := 53) (v := 1) d_Folder_isShortCalled_52 rfl (by decide) ?_
      cases hf
      exact g_zret d_Folder_isShortCalled_53 rfl am_z1 (Nat.zero_le _) (Nat.zero_le _)
    · have hf := ob_neg q4 hf
      refine g_aload_n (n := 25) d_Folder_isShortCalled_24 rfl 0 rfl rfl ?_
      refine g_iload_n (n := 26) d_Folder_isShortCalled_25 rfl 1 rfl rfl ?_
      refine g_iload_n (n := 27) d_Folder_isShortCalled_26 rfl 3 rfl rfl ?_
      obtain ⟨r5, h6, hf⟩ := ob_bind hf
      refine c_Vr (n := 30) (st' := [.int r5]) [.int x1, .int x3] [] d_Folder_isShortCalled_27 rfl (s_Folder_byteOf htr h6 rfl) tw_426 tw_427 tw_428 tw_5 tw_429 hd_Folder_byteOf (by omega) (by decide) (ci := 1) rfl rfl rfl (Nat.le_of_ble_eq_true rfl) rfl rfl ?_
      obtain ⟨r7, h8, hf⟩ := ob_bind hf
      refine c_SNr (n := 33) (st' := [.int r7]) [.int r5] [] d_Folder_isShortCalled_30 rfl (s_V_capital htr h8 rfl) nw_447 tw_448 tw_1 tw_449 hd_V_capital (by omega) (by decide) rfl (Nat.le_of_ble_eq_true rfl) rfl rfl ?_
      refine g_aload_n (n := 34) d_Folder_isShortCalled_33 rfl 2 rfl rfl ?_
      refine g_iload_n (n := 35) d_Folder_isShortCalled_34 rfl 3 rfl rfl ?_
      obtain ⟨r9, h10, hf⟩ := ob_bind hf
      refine c_Vr (n := 38) (st' := [.int r9, .int r7]) [.int x3] [.int r7] d_Folder_isShortCalled_35 rfl (s_Name_charAt htr h10 rfl) tw_450 tw_388 tw_389 tw_7 tw_390 hd_Name_charAt (by omega) (by decide) (ci := 2) rfl rfl rfl (Nat.le_of_ble_eq_true rfl) rfl rfl ?_
      obtain ⟨r11, h12, hf⟩ := ob_bind hf
      refine c_SNr (n := 41) (st' := [.int r11, .int r7]) [.int r9] [.int r7] d_Folder_isShortCalled_38 rfl (s_V_capital htr h12 rfl) nw_447 tw_448 tw_1 tw_449 hd_V_capital (by omega) (by decide) rfl (Nat.le_of_ble_eq_true rfl) rfl rfl ?_
      refine g_icmp_eq (n := 44) (tgt := 46) d_Folder_isShortCalled_41 rfl (by decide) (fun q13 => ?_) (fun q13 => ?_)
      · have hf := ob_pos q13 hf
        refine g_iinc (n := 49) (v := (x3 + 1)) (ls' := [(3, .int (x3 + 1)), (0, .ref 8), (1, .int x1), (2, .ref 14)]) d_Folder_isShortCalled_46 rfl 3 rfl rfl (am_ltb rfl) rfl ?_
        refine g_goto (n := 16) d_Folder_isShortCalled_49 (by decide) ?_
        refine g_ls [1, 2, 3, 0] rfl ?_
        exact ih bt ct ad ln tx x1 (x3 + 1) _ hf _ rfl
      · have hf := ob_neg q13 hf
        refine g_iconst (n := 45) (v := 0) d_Folder_isShortCalled_44 rfl (by decide) ?_
        cases hf
        exact g_zret d_Folder_isShortCalled_45 rfl am_z0 (Nat.zero_le _) (Nat.zero_le _)
def f_Folder_isShortCalled (bt : Nat → Int32) (ct : Int32) (ad : Nat → Int32) (ln : Int32) (tx : Nat → Int32) (x1 : Int32) : Option (Int32) :=
  ((f_Folder_shortLengthOf bt ct ad x1).bind fun r1 => (if r1 = ln then f_Folder_isShortCalled_L16 3000 bt ct ad ln tx x1 0 else some 0))
set_option maxHeartbeats 4000000 in
set_option maxRecDepth 100000 in
theorem s_Folder_isShortCalled {l : Launch} {D : va_G} {dA : FieldType → ClassId} (htr : l.stackTraces = false) {rest : List am_E} {ll : Int32} {he : Int32} {de : Int32} {li : Nat → Int32} {en : Nat → Int32} {po : Nat → Int32} {pw : Int32} {su : Int32} {wr : Int32} {cs : Int32} {wb : Int32} {bt : Nat → Int32} {ct : Int32} {lc : Int32} {ad : Nat → Int32} {ctb : Int32} {lcb : Int32} {adb : Nat → Int32} {fx : Int32} {us : Nat → Int32} {ln : Int32} {pt : Int32} {tx : Nat → Int32} {br : Nat → Int32} {rw : Nat → Int32}  {x1 : Int32} {r : Int32} (hf : f_Folder_isShortCalled bt ct ad ln tx x1 = some r) {o : am_O} (ho : .inl (some (.int r)) = o) :
    am_M (am_kk l D dA) y_Folder_isShortCalled ws_Folder_isShortCalled (am_rm 3 o) [.ref 8, .int x1, .ref 14] (hC ll he de li en po pw su wr cs wb bt ct lc ad ctb lcb adb fx us ln pt tx br rw rest) o (hC ll he de li en po pw su wr cs wb bt ct lc ad ctb lcb adb fx us ln pt tx br rw rest) := by
  subst ho
  refine am_body (by decide) rfl (Nat.le_of_ble_eq_true rfl) rfl ?_
  rw [f_Folder_isShortCalled] at hf
  refine g_aload_n (n := 1) d_Folder_isShortCalled_0 rfl 0 rfl rfl ?_
  refine g_iload_n (n := 2) d_Folder_isShortCalled_1 rfl 1 rfl rfl ?_
  obtain ⟨r1, h2, hf⟩ := ob_bind hf
  refine c_Vr (n := 5) (st' := [.int r1]) [.int x1] [] d_Folder_isShortCalled_2 rfl (s_Folder_shortLengthOf htr h2 rfl) tw_443 tw_444 tw_445 tw_5 tw_446 hd_Folder_shortLengthOf (by omega) (by decide) (ci := 1) rfl rfl rfl (Nat.le_of_ble_eq_true rfl) rfl rfl ?_
  refine g_aload_n (n := 6) d_Folder_isShortCalled_5 rfl 2 rfl rfl ?_
  refine g_getN (n := 9) (q0 := 14) d_Folder_isShortCalled_6 rfl (am_fl in_Name rfl (by decide : 2 < 4)) nw_161 rfl rfl ?_
  refine g_icmp_eq (n := 12) (tgt := 14) d_Folder_isShortCalled_9 rfl (by decide) (fun q3 => ?_) (fun q3 => ?_)
  · have hf := ob_pos q3 hf
    refine g_iconst (n := 15) (v := 0) d_Folder_isShortCalled_14 rfl (by decide) ?_
    refine g_istore_n (n := 16) (ls' := [(3, .int 0), (0, .ref 8), (1, .int x1), (2, .ref 14)]) d_Folder_isShortCalled_15 rfl rfl (am_ltb rfl) rfl ?_
    refine g_ls [1, 2, 3, 0] rfl ?_
    exact s_Folder_isShortCalled_L16 htr 3000 bt ct ad ln tx x1 0 _ hf _ rfl
  · have hf := ob_neg q3 hf
    refine g_iconst (n := 13) (v := 0) d_Folder_isShortCalled_12 rfl (by decide) ?_
    cases hf
    exact g_zret d_Folder_isShortCalled_13 rfl am_z0 (Nat.zero_le _) (Nat.zero_le _)
def f_V_addToSum (x0 : Int32) (x1 : Int32) : Option (Int32) :=
  some ((((x0 * 2) + (x0 / 128)) + x1) &&& 255)
set_option maxHeartbeats 4000000 in
set_option maxRecDepth 100000 in
theorem s_V_addToSum {l : Launch} {D : va_G} {dA : FieldType → ClassId} (htr : l.stackTraces = false) {rest : List am_E} {ll : Int32} {he : Int32} {de : Int32} {li : Nat → Int32} {en : Nat → Int32} {po : Nat → Int32} {pw : Int32} {su : Int32} {wr : Int32} {cs : Int32} {wb : Int32} {bt : Nat → Int32} {ct : Int32} {lc : Int32} {ad : Nat → Int32} {ctb : Int32} {lcb : Int32} {adb : Nat → Int32} {fx : Int32} {us : Nat → Int32} {ln : Int32} {pt : Int32} {tx : Nat → Int32} {br : Nat → Int32} {rw : Nat → Int32}  {x0 : Int32} {x1 : Int32} {r : Int32} (hf : f_V_addToSum x0 x1 = some r) {o : am_O} (ho : .inl (some (.int r)) = o) :
    am_M (am_kk l D dA) y_V_addToSum ws_V_addToSum (am_rm 0 o) [.int x0, .int x1] (hC ll he de li en po pw su wr cs wb bt ct lc ad ctb lcb adb fx us ln pt tx br rw rest) o (hC ll he de li en po pw su wr cs wb bt ct lc ad ctb lcb adb fx us ln pt tx br rw rest) := by
  subst ho
  refine am_body (by decide) rfl (Nat.le_of_ble_eq_true rfl) rfl ?_
  rw [f_V_addToSum] at hf
  refine g_iload_n (n := 1) d_V_addToSum_0 rfl 0 rfl rfl ?_
  refine g_iconst (n := 2) (v := 2) d_V_addToSum_1 rfl (by decide) ?_
  refine g_imul (n := 3) d_V_addToSum_2 rfl ?_
  refine g_iload_n (n := 4) d_V_addToSum_3 rfl 0 rfl rfl ?_
  refine g_sipush (n := 7) (v := 128) d_V_addToSum_4 rfl (by decide) ?_
  refine g_idiv (n := 8) d_V_addToSum_7 rfl (by decide) ?_
  refine g_iadd (n := 9) d_V_addToSum_8 rfl ?_
  refine g_iload_n (n := 10) d_V_addToSum_9 rfl 1 rfl rfl ?_
  refine g_iadd (n := 11) d_V_addToSum_10 rfl ?_
  refine g_sipush (n := 14) (v := 255) d_V_addToSum_11 rfl (by decide) ?_
  refine g_iand (n := 15) d_V_addToSum_14 rfl ?_
  cases hf
  exact g_iret d_V_addToSum_15 rfl (Nat.zero_le _) (Nat.zero_le _)
def f_Folder_sumOf_L4 : Nat → (Nat → Int32) → Int32 → (Nat → Int32) → Int32 → Int32 → Int32 → Option (Int32)
  | 0, _, _, _, _, _, _ => none
  | fuel + 1, bt, ct, ad, x1, x2, x3 =>
  (if 6 ≤ x3 then some x2 else ((f_Folder_byteOf bt ct ad x1 x3).bind fun r2 => ((f_V_addToSum x2 r2).bind fun r4 => f_Folder_sumOf_L4 fuel bt ct ad x1 r4 (x3 + 1))))
set_option maxHeartbeats 4000000 in
set_option maxRecDepth 100000 in
theorem s_Folder_sumOf_L4 {l : Launch} {D : va_G} {dA : FieldType → ClassId} (htr : l.stackTraces = false) {rest : List am_E} {ll : Int32} {he : Int32} {de : Int32} {li : Nat → Int32} {en : Nat → Int32} {po : Nat → Int32} {pw : Int32} {su : Int32} {wr : Int32} {cs : Int32} {wb : Int32} {lc : Int32} {ctb : Int32} {lcb : Int32} {adb : Nat → Int32} {fx : Int32} {us : Nat → Int32} {ln : Int32} {pt : Int32} {tx : Nat → Int32} {br : Nat → Int32} {rw : Nat → Int32}  : ∀ (fuel : Nat) (bt : Nat → Int32) (ct : Int32) (ad : Nat → Int32) (x1 : Int32) (x2 : Int32) (x3 : Int32) (r : Int32), f_Folder_sumOf_L4 fuel bt ct ad x1 x2 x3 = some r → ∀ o : am_O, .inl (some (.int r)) = o →
    am_G (am_kk l D dA) (ws_Folder_sumOf, y_Folder_sumOf.cls, prog_3_method_22_code, 4, (some .int), y_Folder_sumOf.name, [], am_rm 2 (o), none) o (hC ll he de li en po pw su wr cs wb bt ct lc ad ctb lcb adb fx us ln pt tx br rw rest) 0 0 4 [(0, .ref 8), (1, .int x1), (2, .int x2), (3, .int x3)] [] (hC ll he de li en po pw su wr cs wb bt ct lc ad ctb lcb adb fx us ln pt tx br rw rest) := by
  intro fuel
  induction fuel with
  | zero =>
    intro bt ct ad x1 x2 x3 r hf
    cases hf
  | succ fuel ih =>
    intro bt ct ad x1 x2 x3 r hf o ho
    subst ho
    rw [f_Folder_sumOf_L4] at hf
    refine g_iload_n (n := 5) d_Folder_sumOf_4 rfl 3 rfl rfl ?_
    refine g_bipush (n := 7) (v := 6) d_Folder_sumOf_5 rfl (by decide) ?_
    refine g_icmp_ge (n := 10) (tgt := 27) d_Folder_sumOf_7 rfl (by decide) (fun q1 => ?_) (fun q1 => ?_)
    · have hf := ob_pos q1 hf
      refine g_iload_n (n := 28) d_Folder_sumOf_27 rfl 2 rfl rfl ?_
      cases hf
      exact g_iret d_Folder_sumOf_28 rfl (Nat.zero_le _) (Nat.zero_le _)
    · have hf := ob_neg q1 hf
      refine g_iload_n (n := 11) d_Folder_sumOf_10 rfl 2 rfl rfl ?_
      refine g_aload_n (n := 12) d_Folder_sumOf_11 rfl 0 rfl rfl ?_
      refine g_iload_n (n := 13) d_Folder_sumOf_12 rfl 1 rfl rfl ?_
      refine g_iload_n (n := 14) d_Folder_sumOf_13 rfl 3 rfl rfl ?_
      obtain ⟨r2, h3, hf⟩ := ob_bind hf
      refine c_Vr (n := 17) (st' := [.int r2, .int x2]) [.int x1, .int x3] [.int x2] d_Folder_sumOf_14 rfl (s_Folder_byteOf htr h3 rfl) tw_426 tw_427 tw_428 tw_5 tw_429 hd_Folder_byteOf (by omega) (by decide) (ci := 1) rfl rfl rfl (Nat.le_of_ble_eq_true rfl) rfl rfl ?_
      obtain ⟨r4, h5, hf⟩ := ob_bind hf
      refine c_SNr (n := 20) (st' := [.int r4]) [.int x2, .int r2] [] d_Folder_sumOf_17 rfl (s_V_addToSum htr h5 rfl) nw_459 tw_460 tw_1 tw_461 hd_V_addToSum (by omega) (by decide) rfl (Nat.le_of_ble_eq_true rfl) rfl rfl ?_
      refine g_istore_n (n := 21) (ls' := [(2, .int r4), (0, .ref 8), (1, .int x1), (3, .int x3)]) d_Folder_sumOf_20 rfl rfl (am_ltb rfl) rfl ?_
      refine g_iinc (n := 24) (v := (x3 + 1)) (ls' := [(3, .int (x3 + 1)), (2, .int r4), (0, .ref 8), (1, .int x1)]) d_Folder_sumOf_21 rfl 3 rfl rfl (am_ltb rfl) rfl ?_
      refine g_goto (n := 4) d_Folder_sumOf_24 (by decide) ?_
      refine g_ls [2, 3, 1, 0] rfl ?_
      exact ih bt ct ad x1 r4 (x3 + 1) _ hf _ rfl
def f_Folder_sumOf (bt : Nat → Int32) (ct : Int32) (ad : Nat → Int32) (x1 : Int32) : Option (Int32) :=
  f_Folder_sumOf_L4 3000 bt ct ad x1 0 0
set_option maxHeartbeats 4000000 in
set_option maxRecDepth 100000 in
theorem s_Folder_sumOf {l : Launch} {D : va_G} {dA : FieldType → ClassId} (htr : l.stackTraces = false) {rest : List am_E} {ll : Int32} {he : Int32} {de : Int32} {li : Nat → Int32} {en : Nat → Int32} {po : Nat → Int32} {pw : Int32} {su : Int32} {wr : Int32} {cs : Int32} {wb : Int32} {bt : Nat → Int32} {ct : Int32} {lc : Int32} {ad : Nat → Int32} {ctb : Int32} {lcb : Int32} {adb : Nat → Int32} {fx : Int32} {us : Nat → Int32} {ln : Int32} {pt : Int32} {tx : Nat → Int32} {br : Nat → Int32} {rw : Nat → Int32}  {x1 : Int32} {r : Int32} (hf : f_Folder_sumOf bt ct ad x1 = some r) {o : am_O} (ho : .inl (some (.int r)) = o) :
    am_M (am_kk l D dA) y_Folder_sumOf ws_Folder_sumOf (am_rm 2 o) [.ref 8, .int x1] (hC ll he de li en po pw su wr cs wb bt ct lc ad ctb lcb adb fx us ln pt tx br rw rest) o (hC ll he de li en po pw su wr cs wb bt ct lc ad ctb lcb adb fx us ln pt tx br rw rest) := by
  subst ho
  refine am_body (by decide) rfl (Nat.le_of_ble_eq_true rfl) rfl ?_
  rw [f_Folder_sumOf] at hf
  refine g_iconst (n := 1) (v := 0) d_Folder_sumOf_0 rfl (by decide) ?_
  refine g_istore_n (n := 2) (ls' := [(2, .int 0), (0, .ref 8), (1, .int x1)]) d_Folder_sumOf_1 rfl rfl (am_ltb rfl) rfl ?_
  refine g_iconst (n := 3) (v := 0) d_Folder_sumOf_2 rfl (by decide) ?_
  refine g_istore_n (n := 4) (ls' := [(3, .int 0), (2, .int 0), (0, .ref 8), (1, .int x1)]) d_Folder_sumOf_3 rfl rfl (am_ltb rfl) rfl ?_
  refine g_ls [2, 3, 1, 0] rfl ?_
  exact s_Folder_sumOf_L4 htr 3000 bt ct ad x1 0 0 _ hf _ rfl
def f_Folder_isPart (bt : Nat → Int32) (ct : Int32) (ad : Nat → Int32) (x1 : Int32) (x2 : Int32) (x3 : Int32) : Option (Int32) :=
  ((f_Folder_byteOf bt ct ad x1 0).bind fun r1 => (if r1 = x2 then ((f_Folder_byteOf bt ct ad x1 6).bind fun r4 => (if r4 = 15 then ((f_Folder_byteOf bt ct ad x1 7).bind fun r7 => (if r7 = x3 then some 1 else some 0)) else some 0)) else some 0))
set_option maxHeartbeats 4000000 in
set_option maxRecDepth 100000 in
theorem s_Folder_isPart {l : Launch} {D : va_G} {dA : FieldType → ClassId} (htr : l.stackTraces = false) {rest : List am_E} {ll : Int32} {he : Int32} {de : Int32} {li : Nat → Int32} {en : Nat → Int32} {po : Nat → Int32} {pw : Int32} {su : Int32} {wr : Int32} {cs : Int32} {wb : Int32} {bt : Nat → Int32} {ct : Int32} {lc : Int32} {ad : Nat → Int32} {ctb : Int32} {lcb : Int32} {adb : Nat → Int32} {fx : Int32} {us : Nat → Int32} {ln : Int32} {pt : Int32} {tx : Nat → Int32} {br : Nat → Int32} {rw : Nat → Int32}  {x1 : Int32} {x2 : Int32} {x3 : Int32} {r : Int32} (hf : f_Folder_isPart bt ct ad x1 x2 x3 = some r) {o : am_O} (ho : .inl (some (.int r)) = o) :
    am_M (am_kk l D dA) y_Folder_isPart ws_Folder_isPart (am_rm 2 o) [.ref 8, .int x1, .int x2, .int x3] (hC ll he de li en po pw su wr cs wb bt ct lc ad ctb lcb adb fx us ln pt tx br rw rest) o (hC ll he de li en po pw su wr cs wb bt ct lc ad ctb lcb adb fx us ln pt tx br rw rest) := by
  subst ho
  refine am_body (by decide) rfl (Nat.le_of_ble_eq_true rfl) rfl ?_
  rw [f_Folder_isPart] at hf
  refine g_aload_n (n := 1) d_Folder_isPart_0 rfl 0 rfl rfl ?_
  refine g_iload_n (n := 2) d_Folder_isPart_1 rfl 1 rfl rfl ?_
  refine g_iconst (n := 3) (v := 0) d_Folder_isPart_2 rfl (by decide) ?_
  obtain ⟨r1, h2, hf⟩ := ob_bind hf
  refine c_Vr (n := 6) (st' := [.int r1]) [.int x1, .int 0] [] d_Folder_isPart_3 rfl (s_Folder_byteOf htr h2 rfl) tw_426 tw_427 tw_428 tw_5 tw_429 hd_Folder_byteOf (by omega) (by decide) (ci := 1) rfl rfl rfl (Nat.le_of_ble_eq_true rfl) rfl rfl ?_
  refine g_iload_n (n := 7) d_Folder_isPart_6 rfl 2 rfl rfl ?_
  refine g_icmp_ne (n := 10) (tgt := 37) d_Folder_isPart_7 rfl (by decide) (fun q3 => ?_) (fun q3 => ?_)
  · have hf := ob_neg q3 hf
    refine g_iconst (n := 38) (v := 0) d_Folder_isPart_37 rfl (by decide) ?_
    cases hf
    exact g_zret d_Folder_isPart_38 rfl am_z0 (Nat.zero_le _) (Nat.zero_le _)
  · have hf := ob_pos q3 hf
    refine g_aload_n (n := 11) d_Folder_isPart_10 rfl 0 rfl rfl ?_
    refine g_iload_n (n := 12) d_Folder_isPart_11 rfl 1 rfl rfl ?_
    refine g_bipush (n := 14) (v := 6) d_Folder_isPart_12 rfl (by decide) ?_
    obtain ⟨r4, h5, hf⟩ := ob_bind hf
    refine c_Vr (n := 17) (st' := [.int r4]) [.int x1, .int 6] [] d_Folder_isPart_14 rfl (s_Folder_byteOf htr h5 rfl) tw_426 tw_427 tw_428 tw_5 tw_429 hd_Folder_byteOf (by omega) (by decide) (ci := 1) rfl rfl rfl (Nat.le_of_ble_eq_true rfl) rfl rfl ?_
    refine g_bipush (n := 19) (v := 15) d_Folder_isPart_17 rfl (by decide) ?_
    refine g_icmp_ne (n := 22) (tgt := 37) d_Folder_isPart_19 rfl (by decide) (fun q6 => ?_) (fun q6 => ?_)
    · have hf := ob_neg q6 hf
      refine g_iconst (n := 38) (v := 0) d_Folder_isPart_37 rfl (by decide) ?_
      cases hf
      exact g_zret d_Folder_isPart_38 rfl am_z0 (Nat.zero_le _) (Nat.zero_le _)
    · have hf := ob_pos q6 hf
      refine g_aload_n (n := 23) d_Folder_isPart_22 rfl 0 rfl rfl ?_
      refine g_iload_n (n := 24) d_Folder_isPart_23 rfl 1 rfl rfl ?_
      refine g_bipush (n := 26) (v := 7) d_Folder_isPart_24 rfl (by decide) ?_
      obtain ⟨r7, h8, hf⟩ := ob_bind hf
      refine c_Vr (n := 29) (st' := [.int r7]) [.int x1, .int 7] [] d_Folder_isPart_26 rfl (s_Folder_byteOf htr h8 rfl) tw_426 tw_427 tw_428 tw_5 tw_429 hd_Folder_byteOf (by omega) (by decide) (ci := 1) rfl rfl rfl (Nat.le_of_ble_eq_true rfl) rfl rfl ?_
      refine g_iload_n (n := 30) d_Folder_isPart_29 rfl 3 rfl rfl ?_
      refine g_icmp_ne (n := 33) (tgt := 37) d_Folder_isPart_30 rfl (by decide) (fun q9 => ?_) (fun q9 => ?_)
      · have hf := ob_neg q9 hf
        refine g_iconst (n := 38) (v := 0) d_Folder_isPart_37 rfl (by decide) ?_
        cases hf
        exact g_zret d_Folder_isPart_38 rfl am_z0 (Nat.zero_le _) (Nat.zero_le _)
      · have hf := ob_pos q9 hf
        refine g_iconst (n := 34) (v := 1) d_Folder_isPart_33 rfl (by decide) ?_
        refine g_goto (n := 38) d_Folder_isPart_34 (by decide) ?_
        cases hf
        exact g_zret d_Folder_isPart_38 rfl am_z1 (Nat.zero_le _) (Nat.zero_le _)
def f_Folder_partsOf (bt : Nat → Int32) (ct : Int32) (ad : Nat → Int32) (x1 : Int32) : Option (Int32) :=
  ((f_Folder_isNamed bt ct ad x1).bind fun r1 => (if r1 = 0 then some 0 else ((f_Folder_sumOf bt ct ad x1).bind fun r4 => ((f_Folder_isPart bt ct ad (x1 - 1) 65 r4).bind fun r6 => (if r6 = 0 then ((f_Folder_isPart bt ct ad (x1 - 1) 1 r4).bind fun r9 => (if r9 = 0 then some 0 else ((f_Folder_isPart bt ct ad (x1 - 2) 66 r4).bind fun r13 => (if r13 = 0 then some 0 else some 2)))) else some 1)))))
set_option maxHeartbeats 4000000 in
set_option maxRecDepth 100000 in
theorem s_Folder_partsOf {l : Launch} {D : va_G} {dA : FieldType → ClassId} (htr : l.stackTraces = false) {rest : List am_E} {ll : Int32} {he : Int32} {de : Int32} {li : Nat → Int32} {en : Nat → Int32} {po : Nat → Int32} {pw : Int32} {su : Int32} {wr : Int32} {cs : Int32} {wb : Int32} {bt : Nat → Int32} {ct : Int32} {lc : Int32} {ad : Nat → Int32} {ctb : Int32} {lcb : Int32} {adb : Nat → Int32} {fx : Int32} {us : Nat → Int32} {ln : Int32} {pt : Int32} {tx : Nat → Int32} {br : Nat → Int32} {rw : Nat → Int32}  {x1 : Int32} {r : Int32} (hf : f_Folder_partsOf bt ct ad x1 = some r) {o : am_O} (ho : .inl (some (.int r)) = o) :
    am_M (am_kk l D dA) y_Folder_partsOf ws_Folder_partsOf (am_rm 3 o) [.ref 8, .int x1] (hC ll he de li en po pw su wr cs wb bt ct lc ad ctb lcb adb fx us ln pt tx br rw rest) o (hC ll he de li en po pw su wr cs wb bt ct lc ad ctb lcb adb fx us ln pt tx br rw rest) := by
  subst ho
  refine am_body (by decide) rfl (Nat.le_of_ble_eq_true rfl) rfl ?_
  rw [f_Folder_partsOf] at hf
  refine g_aload_n (n := 1) d_Folder_partsOf_0 rfl 0 rfl rfl ?_
  refine g_iload_n (n := 2) d_Folder_partsOf_1 rfl 1 rfl rfl ?_
  obtain ⟨r1, h2, hf⟩ := ob_bind hf
  refine c_Vr (n := 5) (st' := [.int r1]) [.int x1] [] d_Folder_partsOf_2 rfl (s_Folder_isNamed htr h2 rfl) tw_431 tw_432 tw_433 tw_5 tw_434 hd_Folder_isNamed (by omega) (by decide) (ci := 1) rfl rfl rfl (Nat.le_of_ble_eq_true rfl) rfl rfl ?_
  refine g_if_ne (n := 8) (tgt := 10) d_Folder_partsOf_5 rfl (by decide) (fun q3 => ?_) (fun q3 => ?_)
  · have hf := ob_neg q3 hf
    refine g_aload_n (n := 11) d_Folder_partsOf_10 rfl 0 rfl rfl ?_
    refine g_iload_n (n := 12) d_Folder_partsOf_11 rfl 1 rfl rfl ?_
    obtain ⟨r4, h5, hf⟩ := ob_bind hf
    refine c_Vr (n := 15) (st' := [.int r4]) [.int x1] [] d_Folder_partsOf_12 rfl (s_Folder_sumOf htr h5 rfl) tw_455 tw_456 tw_457 tw_5 tw_458 hd_Folder_sumOf (by omega) (by decide) (ci := 1) rfl rfl rfl (Nat.le_of_ble_eq_true rfl) rfl rfl ?_
    refine g_istore_n (n := 16) (ls' := [(2, .int r4), (0, .ref 8), (1, .int x1)]) d_Folder_partsOf_15 rfl rfl (am_ltb rfl) rfl ?_
    refine g_aload_n (n := 17) d_Folder_partsOf_16 rfl 1 rfl rfl ?_
    refine g_iload_n (n := 18) d_Folder_partsOf_17 rfl 2 rfl rfl ?_
    refine g_iconst (n := 19) (v := 1) d_Folder_partsOf_18 rfl (by decide) ?_
    refine g_isub (n := 20) d_Folder_partsOf_19 rfl ?_
    refine g_bipush (n := 22) (v := 65) d_Folder_partsOf_20 rfl (by decide) ?_
    refine g_iload_n (n := 23) d_Folder_partsOf_22 rfl 0 rfl rfl ?_
    obtain ⟨r6, h7, hf⟩ := ob_bind hf
    refine c_Vr (n := 26) (st' := [.int r6]) [.int (x1 - 1), .int 65, .int r4] [] d_Folder_partsOf_23 rfl (s_Folder_isPart htr h7 rfl) tw_462 tw_463 tw_464 tw_5 tw_465 hd_Folder_isPart (by omega) (by decide) (ci := 1) rfl rfl rfl (Nat.le_of_ble_eq_true rfl) rfl rfl ?_
    refine g_if_eq (n := 29) (tgt := 31) d_Folder_partsOf_26 rfl (by decide) (fun q8 => ?_) (fun q8 => ?_)
    · have hf := ob_pos q8 hf
      refine g_aload_n (n := 32) d_Folder_partsOf_31 rfl 1 rfl rfl ?_
      refine g_iload_n (n := 33) d_Folder_partsOf_32 rfl 2 rfl rfl ?_
      refine g_iconst (n := 34) (v := 1) d_Folder_partsOf_33 rfl (by decide) ?_
      refine g_isub (n := 35) d_Folder_partsOf_34 rfl ?_
      refine g_iconst (n := 36) (v := 1) d_Folder_partsOf_35 rfl (by decide) ?_
      refine g_iload_n (n := 37) d_Folder_partsOf_36 rfl 0 rfl rfl ?_
      obtain ⟨r9, h10, hf⟩ := ob_bind hf
      refine c_Vr (n := 40) (st' := [.int r9]) [.int (x1 - 1), .int 1, .int r4] [] d_Folder_partsOf_37 rfl (s_Folder_isPart htr h10 rfl) tw_462 tw_463 tw_464 tw_5 tw_465 hd_Folder_isPart (by omega) (by decide) (ci := 1) rfl rfl rfl (Nat.le_of_ble_eq_true rfl) rfl rfl ?_
      refine g_if_eq (n := 43) (tgt := 60) d_Folder_partsOf_40 rfl (by decide) (fun q11 => ?_) (fun q11 => ?_)
      · have hf := ob_pos q11 hf
        refine g_iconst (n := 61) (v := 0) d_Folder_partsOf_60 rfl (by decide) ?_
        refine g_istore_n (n := 62) (ls' := [(3, .int 0), (2, .int r4), (0, .ref 8), (1, .int x1)]) d_Folder_partsOf_61 rfl rfl (am_ltb rfl) rfl ?_
        refine g_iload_n (n := 63) d_Folder_partsOf_62 rfl 0 rfl rfl ?_
        refine g_if_eq (n := 66) (tgt := 70) d_Folder_partsOf_63 rfl (by decide) (fun _ => ?_) (fun q12 => absurd q12 (by decide))
        refine g_iconst (n := 71) (v := 0) d_Folder_partsOf_70 rfl (by decide) ?_
        cases hf
        exact g_iret d_Folder_partsOf_71 rfl (Nat.zero_le _) (Nat.zero_le _)
      · have hf := ob_neg q11 hf
        refine g_aload_n (n := 44) d_Folder_partsOf_43 rfl 1 rfl rfl ?_
        refine g_iload_n (n := 45) d_Folder_partsOf_44 rfl 2 rfl rfl ?_
        refine g_iconst (n := 46) (v := 2) d_Folder_partsOf_45 rfl (by decide) ?_
        refine g_isub (n := 47) d_Folder_partsOf_46 rfl ?_
        refine g_bipush (n := 49) (v := 66) d_Folder_partsOf_47 rfl (by decide) ?_
        refine g_iload_n (n := 50) d_Folder_partsOf_49 rfl 0 rfl rfl ?_
        obtain ⟨r13, h14, hf⟩ := ob_bind hf
        refine c_Vr (n := 53) (st' := [.int r13]) [.int (x1 - 2), .int 66, .int r4] [] d_Folder_partsOf_50 rfl (s_Folder_isPart htr h14 rfl) tw_462 tw_463 tw_464 tw_5 tw_465 hd_Folder_isPart (by omega) (by decide) (ci := 1) rfl rfl rfl (Nat.le_of_ble_eq_true rfl) rfl rfl ?_
        refine g_if_eq (n := 56) (tgt := 60) d_Folder_partsOf_53 rfl (by decide) (fun q15 => ?_) (fun q15 => ?_)
        · have hf := ob_pos q15 hf
          refine g_iconst (n := 61) (v := 0) d_Folder_partsOf_60 rfl (by decide) ?_
          refine g_istore_n (n := 62) (ls' := [(3, .int 0), (2, .int r4), (0, .ref 8), (1, .int x1)]) d_Folder_partsOf_61 rfl rfl (am_ltb rfl) rfl ?_
          refine g_iload_n (n := 63) d_Folder_partsOf_62 rfl 0 rfl rfl ?_
          refine g_if_eq (n := 66) (tgt := 70) d_Folder_partsOf_63 rfl (by decide) (fun _ => ?_) (fun q16 => absurd q16 (by decide))
          refine g_iconst (n := 71) (v := 0) d_Folder_partsOf_70 rfl (by decide) ?_
          cases hf
          exact g_iret d_Folder_partsOf_71 rfl (Nat.zero_le _) (Nat.zero_le _)
        · have hf := ob_neg q15 hf
          refine g_iconst (n := 57) (v := 1) d_Folder_partsOf_56 rfl (by decide) ?_
          refine g_goto (n := 61) d_Folder_partsOf_57 (by decide) ?_
          refine g_istore_n (n := 62) (ls' := [(3, .int 1), (2, .int r4), (0, .ref 8), (1, .int x1)]) d_Folder_partsOf_61 rfl rfl (am_ltb rfl) rfl ?_
          refine g_iload_n (n := 63) d_Folder_partsOf_62 rfl 0 rfl rfl ?_
          refine g_if_eq (n := 66) (tgt := 70) d_Folder_partsOf_63 rfl (by decide) (fun q17 => absurd q17 (by decide)) (fun _ => ?_)
          refine g_iconst (n := 67) (v := 2) d_Folder_partsOf_66 rfl (by decide) ?_
          refine g_goto (n := 71) d_Folder_partsOf_67 (by decide) ?_
          cases hf
          exact g_iret d_Folder_partsOf_71 rfl (Nat.zero_le _) (Nat.zero_le _)
    · have hf := ob_neg q8 hf
      refine g_iconst (n := 30) (v := 1) d_Folder_partsOf_29 rfl (by decide) ?_
      cases hf
      exact g_iret d_Folder_partsOf_30 rfl (Nat.zero_le _) (Nat.zero_le _)
  · have hf := ob_pos q3 hf
    refine g_iconst (n := 9) (v := 0) d_Folder_partsOf_8 rfl (by decide) ?_
    cases hf
    exact g_iret d_Folder_partsOf_9 rfl (Nat.zero_le _) (Nat.zero_le _)
def f_V_placeInPart (x0 : Int32) : Option (Int32) :=
  (if 5 ≤ x0 then some (x0 + 3) else some (x0 + 1))
set_option maxHeartbeats 4000000 in
set_option maxRecDepth 100000 in
theorem s_V_placeInPart {l : Launch} {D : va_G} {dA : FieldType → ClassId} (htr : l.stackTraces = false) {rest : List am_E} {ll : Int32} {he : Int32} {de : Int32} {li : Nat → Int32} {en : Nat → Int32} {po : Nat → Int32} {pw : Int32} {su : Int32} {wr : Int32} {cs : Int32} {wb : Int32} {bt : Nat → Int32} {ct : Int32} {lc : Int32} {ad : Nat → Int32} {ctb : Int32} {lcb : Int32} {adb : Nat → Int32} {fx : Int32} {us : Nat → Int32} {ln : Int32} {pt : Int32} {tx : Nat → Int32} {br : Nat → Int32} {rw : Nat → Int32}  {x0 : Int32} {r : Int32} (hf : f_V_placeInPart x0 = some r) {o : am_O} (ho : .inl (some (.int r)) = o) :
    am_M (am_kk l D dA) y_V_placeInPart ws_V_placeInPart (am_rm 0 o) [.int x0] (hC ll he de li en po pw su wr cs wb bt ct lc ad ctb lcb adb fx us ln pt tx br rw rest) o (hC ll he de li en po pw su wr cs wb bt ct lc ad ctb lcb adb fx us ln pt tx br rw rest) := by
  subst ho
  refine am_body (by decide) rfl (Nat.le_of_ble_eq_true rfl) rfl ?_
  rw [f_V_placeInPart] at hf
  refine g_iload_n (n := 1) d_V_placeInPart_0 rfl 0 rfl rfl ?_
  refine g_iconst (n := 2) (v := 5) d_V_placeInPart_1 rfl (by decide) ?_
  refine g_icmp_ge (n := 5) (tgt := 11) d_V_placeInPart_2 rfl (by decide) (fun q1 => ?_) (fun q1 => ?_)
  · have hf := ob_pos q1 hf
    refine g_iload_n (n := 12) d_V_placeInPart_11 rfl 0 rfl rfl ?_
    refine g_iconst (n := 13) (v := 3) d_V_placeInPart_12 rfl (by decide) ?_
    refine g_iadd (n := 14) d_V_placeInPart_13 rfl ?_
    cases hf
    exact g_iret d_V_placeInPart_14 rfl (Nat.zero_le _) (Nat.zero_le _)
  · have hf := ob_neg q1 hf
    refine g_iload_n (n := 6) d_V_placeInPart_5 rfl 0 rfl rfl ?_
    refine g_iconst (n := 7) (v := 1) d_V_placeInPart_6 rfl (by decide) ?_
    refine g_iadd (n := 8) d_V_placeInPart_7 rfl ?_
    refine g_goto (n := 14) d_V_placeInPart_8 (by decide) ?_
    cases hf
    exact g_iret d_V_placeInPart_14 rfl (Nat.zero_le _) (Nat.zero_le _)
def f_Folder_longByteOf (bt : Nat → Int32) (ct : Int32) (ad : Nat → Int32) (x1 : Int32) (x2 : Int32) : Option (Int32) :=
  ((f_V_placeInPart (x2 - x2 / 13 * 13)).bind fun r1 => ((f_Folder_byteOf bt ct ad ((x1 - 1) - (x2 / 13)) r1).bind fun r3 => some r3))
set_option maxHeartbeats 4000000 in
set_option maxRecDepth 100000 in
theorem s_Folder_longByteOf {l : Launch} {D : va_G} {dA : FieldType → ClassId} (htr : l.stackTraces = false) {rest : List am_E} {ll : Int32} {he : Int32} {de : Int32} {li : Nat → Int32} {en : Nat → Int32} {po : Nat → Int32} {pw : Int32} {su : Int32} {wr : Int32} {cs : Int32} {wb : Int32} {bt : Nat → Int32} {ct : Int32} {lc : Int32} {ad : Nat → Int32} {ctb : Int32} {lcb : Int32} {adb : Nat → Int32} {fx : Int32} {us : Nat → Int32} {ln : Int32} {pt : Int32} {tx : Nat → Int32} {br : Nat → Int32} {rw : Nat → Int32}  {x1 : Int32} {x2 : Int32} {r : Int32} (hf : f_Folder_longByteOf bt ct ad x1 x2 = some r) {o : am_O} (ho : .inl (some (.int r)) = o) :
    am_M (am_kk l D dA) y_Folder_longByteOf ws_Folder_longByteOf (am_rm 2 o) [.ref 8, .int x1, .int x2] (hC ll he de li en po pw su wr cs wb bt ct lc ad ctb lcb adb fx us ln pt tx br rw rest) o (hC ll he de li en po pw su wr cs wb bt ct lc ad ctb lcb adb fx us ln pt tx br rw rest) := by
  subst ho
  refine am_body (by decide) rfl (Nat.le_of_ble_eq_true rfl) rfl ?_
  rw [f_Folder_longByteOf] at hf
  refine g_aload_n (n := 1) d_Folder_longByteOf_0 rfl 0 rfl rfl ?_
  refine g_iload_n (n := 2) d_Folder_longByteOf_1 rfl 1 rfl rfl ?_
  refine g_iconst (n := 3) (v := 1) d_Folder_longByteOf_2 rfl (by decide) ?_
  refine g_isub (n := 4) d_Folder_longByteOf_3 rfl ?_
  refine g_iload_n (n := 5) d_Folder_longByteOf_4 rfl 2 rfl rfl ?_
  refine g_bipush (n := 7) (v := 13) d_Folder_longByteOf_5 rfl (by decide) ?_
  refine g_idiv (n := 8) d_Folder_longByteOf_7 rfl (by decide) ?_
  refine g_isub (n := 9) d_Folder_longByteOf_8 rfl ?_
  refine g_iload_n (n := 10) d_Folder_longByteOf_9 rfl 2 rfl rfl ?_
  refine g_bipush (n := 12) (v := 13) d_Folder_longByteOf_10 rfl (by decide) ?_
  refine g_irem (n := 13) d_Folder_longByteOf_12 rfl (by decide) ?_
  obtain ⟨r1, h2, hf⟩ := ob_bind hf
  refine c_SNr (n := 16) (st' := [.int r1, .int ((x1 - 1) - (x2 / 13)), .ref 8]) [.int (x2 - x2 / 13 * 13)] [.int ((x1 - 1) - (x2 / 13)), .ref 8] d_Folder_longByteOf_13 rfl (s_V_placeInPart htr h2 rfl) nw_478 tw_479 tw_1 tw_480 hd_V_placeInPart (by omega) (by decide) rfl (Nat.le_of_ble_eq_true rfl) rfl rfl ?_
  obtain ⟨r3, h4, hf⟩ := ob_bind hf
  refine c_Vr (n := 19) (st' := [.int r3]) [.int ((x1 - 1) - (x2 / 13)), .int r1] [] d_Folder_longByteOf_16 rfl (s_Folder_byteOf htr h4 rfl) tw_426 tw_427 tw_428 tw_5 tw_429 hd_Folder_byteOf (by omega) (by decide) (ci := 1) rfl rfl rfl (Nat.le_of_ble_eq_true rfl) rfl rfl ?_
  cases hf
  exact g_iret d_Folder_longByteOf_19 rfl (Nat.zero_le _) (Nat.zero_le _)
def f_Folder_longLengthOf_L2 : Nat → (Nat → Int32) → Int32 → (Nat → Int32) → Int32 → Int32 → Int32 → Option (Int32)
  | 0, _, _, _, _, _, _ => none
  | fuel + 1, bt, ct, ad, x1, x2, x3 =>
  (if (x2 * 13) ≤ x3 then some (x2 * 13) else ((f_Folder_longByteOf bt ct ad x1 x3).bind fun r2 => (if r2 = 0 then some x3 else f_Folder_longLengthOf_L2 fuel bt ct ad x1 x2 (x3 + 1))))
set_option maxHeartbeats 4000000 in
set_option maxRecDepth 100000 in
theorem s_Folder_longLengthOf_L2 {l : Launch} {D : va_G} {dA : FieldType → ClassId} (htr : l.stackTraces = false) {rest : List am_E} {ll : Int32} {he : Int32} {de : Int32} {li : Nat → Int32} {en : Nat → Int32} {po : Nat → Int32} {pw : Int32} {su : Int32} {wr : Int32} {cs : Int32} {wb : Int32} {lc : Int32} {ctb : Int32} {lcb : Int32} {adb : Nat → Int32} {fx : Int32} {us : Nat → Int32} {ln : Int32} {pt : Int32} {tx : Nat → Int32} {br : Nat → Int32} {rw : Nat → Int32}  : ∀ (fuel : Nat) (bt : Nat → Int32) (ct : Int32) (ad : Nat → Int32) (x1 : Int32) (x2 : Int32) (x3 : Int32) (r : Int32), f_Folder_longLengthOf_L2 fuel bt ct ad x1 x2 x3 = some r → ∀ o : am_O, .inl (some (.int r)) = o →
    am_G (am_kk l D dA) (ws_Folder_longLengthOf, y_Folder_longLengthOf.cls, prog_3_method_27_code, 4, (some .int), y_Folder_longLengthOf.name, [], am_rm 3 (o), none) o (hC ll he de li en po pw su wr cs wb bt ct lc ad ctb lcb adb fx us ln pt tx br rw rest) 0 0 2 [(0, .ref 8), (1, .int x1), (2, .int x2), (3, .int x3)] [] (hC ll he de li en po pw su wr cs wb bt ct lc ad ctb lcb adb fx us ln pt tx br rw rest) := by
  intro fuel
  induction fuel with
  | zero =>
    intro bt ct ad x1 x2 x3 r hf
    cases hf
  | succ fuel ih =>
    intro bt ct ad x1 x2 x3 r hf o ho
    subst ho
    rw [f_Folder_longLengthOf_L2] at hf
    refine g_iload_n (n := 3) d_Folder_longLengthOf_2 rfl 3 rfl rfl ?_
    refine g_iload_n (n := 4) d_Folder_longLengthOf_3 rfl 2 rfl rfl ?_
    refine g_bipush (n := 6) (v := 13) d_Folder_longLengthOf_4 rfl (by decide) ?_
    refine g_imul (n := 7) d_Folder_longLengthOf_6 rfl ?_
    refine g_icmp_ge (n := 10) (tgt := 27) d_Folder_longLengthOf_7 rfl (by decide) (fun q1 => ?_) (fun q1 => ?_)
    · have hf := ob_pos q1 hf
      refine g_iload_n (n := 28) d_Folder_longLengthOf_27 rfl 2 rfl rfl ?_
      refine g_bipush (n := 30) (v := 13) d_Folder_longLengthOf_28 rfl (by decide) ?_
      refine g_imul (n := 31) d_Folder_longLengthOf_30 rfl ?_
      cases hf
      exact g_iret d_Folder_longLengthOf_31 rfl (Nat.zero_le _) (Nat.zero_le _)
    · have hf := ob_neg q1 hf
      refine g_aload_n (n := 11) d_Folder_longLengthOf_10 rfl 0 rfl rfl ?_
      refine g_iload_n (n := 12) d_Folder_longLengthOf_11 rfl 1 rfl rfl ?_
      refine g_iload_n (n := 13) d_Folder_longLengthOf_12 rfl 3 rfl rfl ?_
      obtain ⟨r2, h3, hf⟩ := ob_bind hf
      refine c_Vr (n := 16) (st' := [.int r2]) [.int x1, .int x3] [] d_Folder_longLengthOf_13 rfl (s_Folder_longByteOf htr h3 rfl) tw_474 tw_475 tw_476 tw_5 tw_477 hd_Folder_longByteOf (by omega) (by decide) (ci := 1) rfl rfl rfl (Nat.le_of_ble_eq_true rfl) rfl rfl ?_
      refine g_if_ne (n := 19) (tgt := 21) d_Folder_longLengthOf_16 rfl (by decide) (fun q4 => ?_) (fun q4 => ?_)
      · have hf := ob_neg q4 hf
        refine g_iinc (n := 24) (v := (x3 + 1)) (ls' := [(3, .int (x3 + 1)), (0, .ref 8), (1, .int x1), (2, .int x2)]) d_Folder_longLengthOf_21 rfl 3 rfl rfl (am_ltb rfl) rfl ?_
        refine g_goto (n := 2) d_Folder_longLengthOf_24 (by decide) ?_
        refine g_ls [1, 2, 3, 0] rfl ?_
        exact ih bt ct ad x1 x2 (x3 + 1) _ hf _ rfl
      · have hf := ob_pos q4 hf
        refine g_iload_n (n := 20) d_Folder_longLengthOf_19 rfl 3 rfl rfl ?_
        cases hf
        exact g_iret d_Folder_longLengthOf_20 rfl (Nat.zero_le _) (Nat.zero_le _)
def f_Folder_longLengthOf (bt : Nat → Int32) (ct : Int32) (ad : Nat → Int32) (x1 : Int32) (x2 : Int32) : Option (Int32) :=
  f_Folder_longLengthOf_L2 3000 bt ct ad x1 x2 0
set_option maxHeartbeats 4000000 in
set_option maxRecDepth 100000 in
theorem s_Folder_longLengthOf {l : Launch} {D : va_G} {dA : FieldType → ClassId} (htr : l.stackTraces = false) {rest : List am_E} {ll : Int32} {he : Int32} {de : Int32} {li : Nat → Int32} {en : Nat → Int32} {po : Nat → Int32} {pw : Int32} {su : Int32} {wr : Int32} {cs : Int32} {wb : Int32} {bt : Nat → Int32} {ct : Int32} {lc : Int32} {ad : Nat → Int32} {ctb : Int32} {lcb : Int32} {adb : Nat → Int32} {fx : Int32} {us : Nat → Int32} {ln : Int32} {pt : Int32} {tx : Nat → Int32} {br : Nat → Int32} {rw : Nat → Int32}  {x1 : Int32} {x2 : Int32} {r : Int32} (hf : f_Folder_longLengthOf bt ct ad x1 x2 = some r) {o : am_O} (ho : .inl (some (.int r)) = o) :
    am_M (am_kk l D dA) y_Folder_longLengthOf ws_Folder_longLengthOf (am_rm 3 o) [.ref 8, .int x1, .int x2] (hC ll he de li en po pw su wr cs wb bt ct lc ad ctb lcb adb fx us ln pt tx br rw rest) o (hC ll he de li en po pw su wr cs wb bt ct lc ad ctb lcb adb fx us ln pt tx br rw rest) := by
  subst ho
  refine am_body (by decide) rfl (Nat.le_of_ble_eq_true rfl) rfl ?_
  rw [f_Folder_longLengthOf] at hf
  refine g_iconst (n := 1) (v := 0) d_Folder_longLengthOf_0 rfl (by decide) ?_
  refine g_istore_n (n := 2) (ls' := [(3, .int 0), (0, .ref 8), (1, .int x1), (2, .int x2)]) d_Folder_longLengthOf_1 rfl rfl (am_ltb rfl) rfl ?_
  refine g_ls [1, 2, 3, 0] rfl ?_
  exact s_Folder_longLengthOf_L2 htr 3000 bt ct ad x1 x2 0 _ hf _ rfl
def f_Folder_isLongCalled_L22 : Nat → (Nat → Int32) → Int32 → (Nat → Int32) → Int32 → (Nat → Int32) → Int32 → Int32 → Option (Int32)
  | 0, _, _, _, _, _, _, _ => none
  | fuel + 1, bt, ct, ad, ln, tx, x1, x4 =>
  (if ln ≤ x4 then some 1 else ((f_Folder_longByteOf bt ct ad x1 x4).bind fun r6 => ((f_V_capital r6).bind fun r8 => ((f_Name_charAt ln tx x4).bind fun r10 => ((f_V_capital r10).bind fun r12 => (if r8 = r12 then f_Folder_isLongCalled_L22 fuel bt ct ad ln tx x1 (x4 + 1) else some 0))))))
set_option maxHeartbeats 4000000 in
set_option maxRecDepth 100000 in
theorem s_Folder_isLongCalled_L22 {l : Launch} {D : va_G} {dA : FieldType → ClassId} (htr : l.stackTraces = false) {rest : List am_E} {ll : Int32} {he : Int32} {de : Int32} {li : Nat → Int32} {en : Nat → Int32} {po : Nat → Int32} {pw : Int32} {su : Int32} {wr : Int32} {cs : Int32} {wb : Int32} {lc : Int32} {ctb : Int32} {lcb : Int32} {adb : Nat → Int32} {fx : Int32} {us : Nat → Int32} {pt : Int32} {br : Nat → Int32} {rw : Nat → Int32}  : ∀ (fuel : Nat) (bt : Nat → Int32) (ct : Int32) (ad : Nat → Int32) (ln : Int32) (tx : Nat → Int32) (x1 : Int32) (x4 : Int32) (r : Int32), f_Folder_isLongCalled_L22 fuel bt ct ad ln tx x1 x4 = some r → ∀ o : am_O, .inl (some (.int r)) = o →
    am_G (am_kk l D dA) (ws_Folder_isLongCalled, y_Folder_isLongCalled.cls, prog_3_method_17_code, 5, (some .boolean), y_Folder_isLongCalled.name, [], am_rm 4 (o), none) o (hC ll he de li en po pw su wr cs wb bt ct lc ad ctb lcb adb fx us ln pt tx br rw rest) 0 0 22 [(0, .ref 8), (1, .int x1), (2, .ref 14), (4, .int x4)] [] (hC ll he de li en po pw su wr cs wb bt ct lc ad ctb lcb adb fx us ln pt tx br rw rest) := by
  intro fuel
  induction fuel with
  | zero =>
    intro bt ct ad ln tx x1 x4 r hf
    cases hf
  | succ fuel ih =>
    intro bt ct ad ln tx x1 x4 r hf o ho
    subst ho
    rw [f_Folder_isLongCalled_L22] at hf
    refine g_iload (n := 24) d_Folder_isLongCalled_22 rfl 3 rfl ?_
    refine g_aload_n (n := 25) d_Folder_isLongCalled_24 rfl 2 rfl rfl ?_
    refine g_getN (n := 28) (q0 := 14) d_Folder_isLongCalled_25 rfl (am_fl in_Name rfl (by decide : 2 < 4)) nw_161 rfl rfl ?_
    refine g_icmp_ge (n := 31) (tgt := 61) d_Folder_isLongCalled_28 rfl (by decide) (fun q5 => ?_) (fun q5 => ?_)
    · have hf := ob_pos q5 hf
      refine g_iconst (n := 62) (v := 1) d_Folder_isLongCalled_61 rfl (by decide) ?_
      cases hf
      exact g_zret d_Folder_isLongCalled_62 rfl am_z1 (Nat.zero_le _) (Nat.zero_le _)
    · have hf := ob_neg q5 hf
      refine g_aload_n (n := 32) d_Folder_isLongCalled_31 rfl 0 rfl rfl ?_
      refine g_iload_n (n := 33) d_Folder_isLongCalled_32 rfl 1 rfl rfl ?_
      refine g_iload (n := 35) d_Folder_isLongCalled_33 rfl 3 rfl ?_
      obtain ⟨r6, h7, hf⟩ := ob_bind hf
      refine c_Vr (n := 38) (st' := [.int r6]) [.int x1, .int x4] [] d_Folder_isLongCalled_35 rfl (s_Folder_longByteOf htr h7 rfl) tw_474 tw_475 tw_476 tw_5 tw_477 hd_Folder_longByteOf (by omega) (by decide) (ci := 1) rfl rfl rfl (Nat.le_of_ble_eq_true rfl) rfl rfl ?_
      obtain ⟨r8, h9, hf⟩ := ob_bind hf
      refine c_SNr (n := 41) (st' := [.int r8]) [.int r6] [] d_Folder_isLongCalled_38 rfl (s_V_capital htr h9 rfl) nw_447 tw_448 tw_1 tw_449 hd_V_capital (by omega) (by decide) rfl (Nat.le_of_ble_eq_true rfl) rfl rfl ?_
      refine g_aload_n (n := 42) d_Folder_isLongCalled_41 rfl 2 rfl rfl ?_
      refine g_iload (n := 44) d_Folder_isLongCalled_42 rfl 3 rfl ?_
      obtain ⟨r10, h11, hf⟩ := ob_bind hf
      refine c_Vr (n := 47) (st' := [.int r10, .int r8]) [.int x4] [.int r8] d_Folder_isLongCalled_44 rfl (s_Name_charAt htr h11 rfl) tw_450 tw_388 tw_389 tw_7 tw_390 hd_Name_charAt (by omega) (by decide) (ci := 2) rfl rfl rfl (Nat.le_of_ble_eq_true rfl) rfl rfl ?_
      obtain ⟨r12, h13, hf⟩ := ob_bind hf
      refine c_SNr (n := 50) (st' := [.int r12, .int r8]) [.int r10] [.int r8] d_Folder_isLongCalled_47 rfl (s_V_capital htr h13 rfl) nw_447 tw_448 tw_1 tw_449 hd_V_capital (by omega) (by decide) rfl (Nat.le_of_ble_eq_true rfl) rfl rfl ?_
      refine g_icmp_eq (n := 53) (tgt := 55) d_Folder_isLongCalled_50 rfl (by decide) (fun q14 => ?_) (fun q14 => ?_)
      · have hf := ob_pos q14 hf
        refine g_iinc (n := 58) (v := (x4 + 1)) (ls' := [(4, .int (x4 + 1)), (0, .ref 8), (1, .int x1), (2, .ref 14)]) d_Folder_isLongCalled_55 rfl 3 rfl rfl (am_ltb rfl) rfl ?_
        refine g_goto (n := 22) d_Folder_isLongCalled_58 (by decide) ?_
        refine g_ls [1, 2, 3, 0] rfl ?_
        exact ih bt ct ad ln tx x1 (x4 + 1) _ hf _ rfl
      · have hf := ob_neg q14 hf
        refine g_iconst (n := 54) (v := 0) d_Folder_isLongCalled_53 rfl (by decide) ?_
        cases hf
        exact g_zret d_Folder_isLongCalled_54 rfl am_z0 (Nat.zero_le _) (Nat.zero_le _)
def f_Folder_isLongCalled (bt : Nat → Int32) (ct : Int32) (ad : Nat → Int32) (ln : Int32) (tx : Nat → Int32) (x1 : Int32) (x3 : Int32) : Option (Int32) :=
  (if x3 = 0 then some 0 else ((f_Folder_longLengthOf bt ct ad x1 x3).bind fun r2 => (if r2 = ln then f_Folder_isLongCalled_L22 3000 bt ct ad ln tx x1 0 else some 0)))
set_option maxHeartbeats 4000000 in
set_option maxRecDepth 100000 in
theorem s_Folder_isLongCalled {l : Launch} {D : va_G} {dA : FieldType → ClassId} (htr : l.stackTraces = false) {rest : List am_E} {ll : Int32} {he : Int32} {de : Int32} {li : Nat → Int32} {en : Nat → Int32} {po : Nat → Int32} {pw : Int32} {su : Int32} {wr : Int32} {cs : Int32} {wb : Int32} {bt : Nat → Int32} {ct : Int32} {lc : Int32} {ad : Nat → Int32} {ctb : Int32} {lcb : Int32} {adb : Nat → Int32} {fx : Int32} {us : Nat → Int32} {ln : Int32} {pt : Int32} {tx : Nat → Int32} {br : Nat → Int32} {rw : Nat → Int32}  {x1 : Int32} {x3 : Int32} {r : Int32} (hf : f_Folder_isLongCalled bt ct ad ln tx x1 x3 = some r) {o : am_O} (ho : .inl (some (.int r)) = o) :
    am_M (am_kk l D dA) y_Folder_isLongCalled ws_Folder_isLongCalled (am_rm 4 o) [.ref 8, .int x1, .ref 14, .int x3] (hC ll he de li en po pw su wr cs wb bt ct lc ad ctb lcb adb fx us ln pt tx br rw rest) o (hC ll he de li en po pw su wr cs wb bt ct lc ad ctb lcb adb fx us ln pt tx br rw rest) := by
  subst ho
  refine am_body (by decide) rfl (Nat.le_of_ble_eq_true rfl) rfl ?_
  rw [f_Folder_isLongCalled] at hf
  refine g_iload_n (n := 1) d_Folder_isLongCalled_0 rfl 3 rfl rfl ?_
  refine g_if_eq (n := 4) (tgt := 17) d_Folder_isLongCalled_1 rfl (by decide) (fun q1 => ?_) (fun q1 => ?_)
  · have hf := ob_pos q1 hf
    refine g_iconst (n := 18) (v := 0) d_Folder_isLongCalled_17 rfl (by decide) ?_
    cases hf
    exact g_zret d_Folder_isLongCalled_18 rfl am_z0 (Nat.zero_le _) (Nat.zero_le _)
  · have hf := ob_neg q1 hf
    refine g_aload_n (n := 5) d_Folder_isLongCalled_4 rfl 0 rfl rfl ?_
    refine g_iload_n (n := 6) d_Folder_isLongCalled_5 rfl 1 rfl rfl ?_
    refine g_iload_n (n := 7) d_Folder_isLongCalled_6 rfl 3 rfl rfl ?_
    obtain ⟨r2, h3, hf⟩ := ob_bind hf
    refine c_Vr (n := 10) (st' := [.int r2]) [.int x1, .int x3] [] d_Folder_isLongCalled_7 rfl (s_Folder_longLengthOf htr h3 rfl) tw_470 tw_471 tw_472 tw_5 tw_473 hd_Folder_longLengthOf (by omega) (by decide) (ci := 1) rfl rfl rfl (Nat.le_of_ble_eq_true rfl) rfl rfl ?_
    refine g_aload_n (n := 11) d_Folder_isLongCalled_10 rfl 2 rfl rfl ?_
    refine g_getN (n := 14) (q0 := 14) d_Folder_isLongCalled_11 rfl (am_fl in_Name rfl (by decide : 2 < 4)) nw_161 rfl rfl ?_
    refine g_icmp_eq (n := 17) (tgt := 19) d_Folder_isLongCalled_14 rfl (by decide) (fun q4 => ?_) (fun q4 => ?_)
    · have hf := ob_pos q4 hf
      refine g_iconst (n := 20) (v := 0) d_Folder_isLongCalled_19 rfl (by decide) ?_
      refine g_istore (n := 22) (ls' := [(4, .int 0), (0, .ref 8), (1, .int x1), (2, .ref 14), (3, .int x3)]) d_Folder_isLongCalled_20 rfl (am_ltb rfl) rfl ?_
      refine g_ls [1, 2, 3, 0] rfl ?_
      exact s_Folder_isLongCalled_L22 htr 3000 bt ct ad ln tx x1 0 _ hf _ rfl
    · have hf := ob_neg q4 hf
      refine g_iconst (n := 18) (v := 0) d_Folder_isLongCalled_17 rfl (by decide) ?_
      cases hf
      exact g_zret d_Folder_isLongCalled_18 rfl am_z0 (Nat.zero_le _) (Nat.zero_le _)
def f_Folder_isCalled (bt : Nat → Int32) (ct : Int32) (ad : Nat → Int32) (ln : Int32) (tx : Nat → Int32) (x1 : Int32) : Option (Int32) :=
  ((f_Folder_isShortCalled bt ct ad ln tx x1).bind fun r1 => (if r1 = 0 then ((f_Folder_partsOf bt ct ad x1).bind fun r4 => ((f_Folder_isLongCalled bt ct ad ln tx x1 r4).bind fun r6 => (if r6 = 0 then some 0 else some 1))) else some 1))
set_option maxHeartbeats 4000000 in
set_option maxRecDepth 100000 in
theorem s_Folder_isCalled {l : Launch} {D : va_G} {dA : FieldType → ClassId} (htr : l.stackTraces = false) {rest : List am_E} {ll : Int32} {he : Int32} {de : Int32} {li : Nat → Int32} {en : Nat → Int32} {po : Nat → Int32} {pw : Int32} {su : Int32} {wr : Int32} {cs : Int32} {wb : Int32} {bt : Nat → Int32} {ct : Int32} {lc : Int32} {ad : Nat → Int32} {ctb : Int32} {lcb : Int32} {adb : Nat → Int32} {fx : Int32} {us : Nat → Int32} {ln : Int32} {pt : Int32} {tx : Nat → Int32} {br : Nat → Int32} {rw : Nat → Int32}  {x1 : Int32} {r : Int32} (hf : f_Folder_isCalled bt ct ad ln tx x1 = some r) {o : am_O} (ho : .inl (some (.int r)) = o) :
    am_M (am_kk l D dA) y_Folder_isCalled ws_Folder_isCalled (am_rm 5 o) [.ref 8, .int x1, .ref 14] (hC ll he de li en po pw su wr cs wb bt ct lc ad ctb lcb adb fx us ln pt tx br rw rest) o (hC ll he de li en po pw su wr cs wb bt ct lc ad ctb lcb adb fx us ln pt tx br rw rest) := by
  subst ho
  refine am_body (by decide) rfl (Nat.le_of_ble_eq_true rfl) rfl ?_
  rw [f_Folder_isCalled] at hf
  refine g_aload_n (n := 1) d_Folder_isCalled_0 rfl 0 rfl rfl ?_
  refine g_iload_n (n := 2) d_Folder_isCalled_1 rfl 1 rfl rfl ?_
  refine g_aload_n (n := 3) d_Folder_isCalled_2 rfl 2 rfl rfl ?_
  obtain ⟨r1, h2, hf⟩ := ob_bind hf
  refine c_Vr (n := 6) (st' := [.int r1]) [.int x1, .ref 14] [] d_Folder_isCalled_3 rfl (s_Folder_isShortCalled htr h2 rfl) tw_439 tw_440 tw_441 tw_5 tw_442 hd_Folder_isShortCalled (by omega) (by decide) (ci := 1) rfl rfl rfl (Nat.le_of_ble_eq_true rfl) rfl rfl ?_
  refine g_if_ne (n := 9) (tgt := 23) d_Folder_isCalled_6 rfl (by decide) (fun q3 => ?_) (fun q3 => ?_)
  · have hf := ob_neg q3 hf
    refine g_iconst (n := 24) (v := 1) d_Folder_isCalled_23 rfl (by decide) ?_
    refine g_goto (n := 28) d_Folder_isCalled_24 (by decide) ?_
    cases hf
    exact g_zret d_Folder_isCalled_28 rfl am_z1 (Nat.zero_le _) (Nat.zero_le _)
  · have hf := ob_pos q3 hf
    refine g_aload_n (n := 10) d_Folder_isCalled_9 rfl 0 rfl rfl ?_
    refine g_iload_n (n := 11) d_Folder_isCalled_10 rfl 1 rfl rfl ?_
    refine g_aload_n (n := 12) d_Folder_isCalled_11 rfl 2 rfl rfl ?_
    refine g_aload_n (n := 13) d_Folder_isCalled_12 rfl 0 rfl rfl ?_
    refine g_iload_n (n := 14) d_Folder_isCalled_13 rfl 1 rfl rfl ?_
    obtain ⟨r4, h5, hf⟩ := ob_bind hf
    refine c_Vr (n := 17) (st' := [.int r4, .ref 14, .int x1, .ref 8]) [.int x1] [.ref 14, .int x1, .ref 8] d_Folder_isCalled_14 rfl (s_Folder_partsOf htr h5 rfl) tw_451 tw_452 tw_453 tw_5 tw_454 hd_Folder_partsOf (by omega) (by decide) (ci := 1) rfl rfl rfl (Nat.le_of_ble_eq_true rfl) rfl rfl ?_
    obtain ⟨r6, h7, hf⟩ := ob_bind hf
    refine c_Vr (n := 20) (st' := [.int r6]) [.int x1, .ref 14, .int r4] [] d_Folder_isCalled_17 rfl (s_Folder_isLongCalled htr h7 rfl) tw_466 tw_467 tw_468 tw_5 tw_469 hd_Folder_isLongCalled (by omega) (by decide) (ci := 1) rfl rfl rfl (Nat.le_of_ble_eq_true rfl) rfl rfl ?_
    refine g_if_eq (n := 23) (tgt := 27) d_Folder_isCalled_20 rfl (by decide) (fun q8 => ?_) (fun q8 => ?_)
    · have hf := ob_pos q8 hf
      refine g_iconst (n := 28) (v := 0) d_Folder_isCalled_27 rfl (by decide) ?_
      cases hf
      exact g_zret d_Folder_isCalled_28 rfl am_z0 (Nat.zero_le _) (Nat.zero_le _)
    · have hf := ob_neg q8 hf
      refine g_iconst (n := 24) (v := 1) d_Folder_isCalled_23 rfl (by decide) ?_
      refine g_goto (n := 28) d_Folder_isCalled_24 (by decide) ?_
      cases hf
      exact g_zret d_Folder_isCalled_28 rfl am_z1 (Nat.zero_le _) (Nat.zero_le _)
def f_Folder_find_L2 : Nat → (Nat → Int32) → Int32 → (Nat → Int32) → Int32 → (Nat → Int32) → Int32 → Int32 → Option (Int32)
  | 0, _, _, _, _, _, _, _ => none
  | fuel + 1, bt, ct, ad, ln, tx, x2, x3 =>
  (if ct ≤ x3 then some (-1) else (if x2 = 0 then ((f_Folder_isNamed bt ct ad x3).bind fun r4 => (if r4 = 0 then f_Folder_find_L2 fuel bt ct ad ln tx x2 (x3 + 1) else ((f_Folder_isCalled bt ct ad ln tx x3).bind fun r7 => (if r7 = 0 then f_Folder_find_L2 fuel bt ct ad ln tx x2 (x3 + 1) else some x3)))) else ((f_Folder_kindOf bt ct ad x3).bind fun r10 => (if r10 = x2 then ((f_Folder_isNamed bt ct ad x3).bind fun r15 => (if r15 = 0 then f_Folder_find_L2 fuel bt ct ad ln tx x2 (x3 + 1) else ((f_Folder_isCalled bt ct ad ln tx x3).bind fun r18 => (if r18 = 0 then f_Folder_find_L2 fuel bt ct ad ln tx x2 (x3 + 1) else some x3)))) else f_Folder_find_L2 fuel bt ct ad ln tx x2 (x3 + 1)))))
set_option maxHeartbeats 4000000 in
set_option maxRecDepth 100000 in
theorem s_Folder_find_L2 {l : Launch} {D : va_G} {dA : FieldType → ClassId} (htr : l.stackTraces = false) {rest : List am_E} {ll : Int32} {he : Int32} {de : Int32} {li : Nat → Int32} {en : Nat → Int32} {po : Nat → Int32} {pw : Int32} {su : Int32} {wr : Int32} {cs : Int32} {wb : Int32} {lc : Int32} {ctb : Int32} {lcb : Int32} {adb : Nat → Int32} {fx : Int32} {us : Nat → Int32} {pt : Int32} {br : Nat → Int32} {rw : Nat → Int32}  : ∀ (fuel : Nat) (bt : Nat → Int32) (ct : Int32) (ad : Nat → Int32) (ln : Int32) (tx : Nat → Int32) (x2 : Int32) (x3 : Int32) (r : Int32), f_Folder_find_L2 fuel bt ct ad ln tx x2 x3 = some r → ∀ o : am_O, .inl (some (.int r)) = o →
    am_G (am_kk l D dA) (ws_Folder_find, y_Folder_find.cls, prog_3_method_14_code, 5, (some .int), y_Folder_find.name, [], am_rm 6 (o), none) o (hC ll he de li en po pw su wr cs wb bt ct lc ad ctb lcb adb fx us ln pt tx br rw rest) 0 0 2 [(0, .ref 8), (1, .ref 14), (2, .int x2), (3, .int x3)] [] (hC ll he de li en po pw su wr cs wb bt ct lc ad ctb lcb adb fx us ln pt tx br rw rest) := by
  intro fuel
  induction fuel with
  | zero =>
    intro bt ct ad ln tx x2 x3 r hf
    cases hf
  | succ fuel ih =>
    intro bt ct ad ln tx x2 x3 r hf o ho
    subst ho
    rw [f_Folder_find_L2] at hf
    refine g_iload_n (n := 3) d_Folder_find_2 rfl 3 rfl rfl ?_
    refine g_aload_n (n := 4) d_Folder_find_3 rfl 0 rfl rfl ?_
    refine g_get (n := 7) (q0 := 8) d_Folder_find_4 rfl (am_fl in_Folder rfl (by decide : 3 < 5)) (List.mem_cons_of_mem _ tw_112) rfl rfl ?_
    refine g_icmp_ge (n := 10) (tgt := 60) d_Folder_find_7 rfl (by decide) (fun q1 => ?_) (fun q1 => ?_)
    · have hf := ob_pos q1 hf
      refine g_iconst (n := 61) (v := (-1)) d_Folder_find_60 rfl (by decide) ?_
      cases hf
      exact g_iret d_Folder_find_61 rfl (Nat.zero_le _) (Nat.zero_le _)
    · have hf := ob_neg q1 hf
      refine g_iload_n (n := 11) d_Folder_find_10 rfl 2 rfl rfl ?_
      refine g_if_eq (n := 14) (tgt := 23) d_Folder_find_11 rfl (by decide) (fun q2 => ?_) (fun q2 => ?_)
      · have hf := ob_pos q2 hf
        refine g_iconst (n := 24) (v := 1) d_Folder_find_23 rfl (by decide) ?_
        refine g_goto (n := 28) d_Folder_find_24 (by decide) ?_
        refine g_istore (n := 30) (ls' := [(4, .int 1), (0, .ref 8), (1, .ref 14), (2, .int x2), (3, .int x3)]) d_Folder_find_28 rfl (am_ltb rfl) rfl ?_
        refine g_iload (n := 32) d_Folder_find_30 rfl 0 rfl ?_
        refine g_if_eq (n := 35) (tgt := 54) d_Folder_find_32 rfl (by decide) (fun q3 => absurd q3 (by decide)) (fun _ => ?_)
        refine g_aload_n (n := 36) d_Folder_find_35 rfl 1 rfl rfl ?_
        refine g_iload_n (n := 37) d_Folder_find_36 rfl 4 rfl rfl ?_
        obtain ⟨r4, h5, hf⟩ := ob_bind hf
        refine c_Vr (n := 40) (st' := [.int r4]) [.int x3] [] d_Folder_find_37 rfl (s_Folder_isNamed htr h5 rfl) tw_431 tw_432 tw_433 tw_5 tw_434 hd_Folder_isNamed (by omega) (by decide) (ci := 1) rfl rfl rfl (Nat.le_of_ble_eq_true rfl) rfl rfl ?_
        refine g_if_eq (n := 43) (tgt := 54) d_Folder_find_40 rfl (by decide) (fun q6 => ?_) (fun q6 => ?_)
        · have hf := ob_pos q6 hf
          refine g_iinc (n := 57) (v := (x3 + 1)) (ls' := [(3, .int (x3 + 1)), (4, .int 1), (0, .ref 8), (1, .ref 14), (2, .int x2)]) d_Folder_find_54 rfl 4 rfl rfl (am_ltb rfl) rfl ?_
          refine g_goto (n := 2) d_Folder_find_57 (by decide) ?_
          refine g_ls [2, 3, 4, 0] rfl ?_
          exact ih bt ct ad ln tx x2 (x3 + 1) _ hf _ rfl
        · have hf := ob_neg q6 hf
          refine g_aload_n (n := 44) d_Folder_find_43 rfl 1 rfl rfl ?_
          refine g_iload_n (n := 45) d_Folder_find_44 rfl 4 rfl rfl ?_
          refine g_aload_n (n := 46) d_Folder_find_45 rfl 2 rfl rfl ?_
          obtain ⟨r7, h8, hf⟩ := ob_bind hf
          refine c_Vr (n := 49) (st' := [.int r7]) [.int x3, .ref 14] [] d_Folder_find_46 rfl (s_Folder_isCalled htr h8 rfl) tw_435 tw_436 tw_437 tw_5 tw_438 hd_Folder_isCalled (by omega) (by decide) (ci := 1) rfl rfl rfl (Nat.le_of_ble_eq_true rfl) rfl rfl ?_
          refine g_if_eq (n := 52) (tgt := 54) d_Folder_find_49 rfl (by decide) (fun q9 => ?_) (fun q9 => ?_)
          · have hf := ob_pos q9 hf
            refine g_iinc (n := 57) (v := (x3 + 1)) (ls' := [(3, .int (x3 + 1)), (4, .int 1), (0, .ref 8), (1, .ref 14), (2, .int x2)]) d_Folder_find_54 rfl 4 rfl rfl (am_ltb rfl) rfl ?_
            refine g_goto (n := 2) d_Folder_find_57 (by decide) ?_
            refine g_ls [2, 3, 4, 0] rfl ?_
            exact ih bt ct ad ln tx x2 (x3 + 1) _ hf _ rfl
          · have hf := ob_neg q9 hf
            refine g_iload_n (n := 53) d_Folder_find_52 rfl 4 rfl rfl ?_
            cases hf
            exact g_iret d_Folder_find_53 rfl (Nat.zero_le _) (Nat.zero_le _)
      · have hf := ob_neg q2 hf
        refine g_aload_n (n := 15) d_Folder_find_14 rfl 0 rfl rfl ?_
        refine g_iload_n (n := 16) d_Folder_find_15 rfl 3 rfl rfl ?_
        obtain ⟨r10, h11, hf⟩ := ob_bind hf
        refine c_Vr (n := 19) (st' := [.int r10]) [.int x3] [] d_Folder_find_16 rfl (s_Folder_kindOf htr h11 rfl) tw_422 tw_423 tw_424 tw_5 tw_425 hd_Folder_kindOf (by omega) (by decide) (ci := 1) rfl rfl rfl (Nat.le_of_ble_eq_true rfl) rfl rfl ?_
        refine g_iload_n (n := 20) d_Folder_find_19 rfl 2 rfl rfl ?_
        refine g_icmp_ne (n := 23) (tgt := 27) d_Folder_find_20 rfl (by decide) (fun q12 => ?_) (fun q12 => ?_)
        · have hf := ob_neg q12 hf
          refine g_iconst (n := 28) (v := 0) d_Folder_find_27 rfl (by decide) ?_
          refine g_istore (n := 30) (ls' := [(4, .int 0), (0, .ref 8), (1, .ref 14), (2, .int x2), (3, .int x3)]) d_Folder_find_28 rfl (am_ltb rfl) rfl ?_
          refine g_iload (n := 32) d_Folder_find_30 rfl 0 rfl ?_
          refine g_if_eq (n := 35) (tgt := 54) d_Folder_find_32 rfl (by decide) (fun _ => ?_) (fun q13 => absurd q13 (by decide))
          refine g_iinc (n := 57) (v := (x3 + 1)) (ls' := [(3, .int (x3 + 1)), (4, .int 0), (0, .ref 8), (1, .ref 14), (2, .int x2)]) d_Folder_find_54 rfl 4 rfl rfl (am_ltb rfl) rfl ?_
          refine g_goto (n := 2) d_Folder_find_57 (by decide) ?_
          refine g_ls [2, 3, 4, 0] rfl ?_
          exact ih bt ct ad ln tx x2 (x3 + 1) _ hf _ rfl
        · have hf := ob_pos q12 hf
          refine g_iconst (n := 24) (v := 1) d_Folder_find_23 rfl (by decide) ?_
          refine g_goto (n := 28) d_Folder_find_24 (by decide) ?_
          refine g_istore (n := 30) (ls' := [(4, .int 1), (0, .ref 8), (1, .ref 14), (2, .int x2), (3, .int x3)]) d_Folder_find_28 rfl (am_ltb rfl) rfl ?_
          refine g_iload (n := 32) d_Folder_find_30 rfl 0 rfl ?_
          refine g_if_eq (n := 35) (tgt := 54) d_Folder_find_32 rfl (by decide) (fun q14 => absurd q14 (by decide)) (fun _ => ?_)
          refine g_aload_n (n := 36) d_Folder_find_35 rfl 1 rfl rfl ?_
          refine g_iload_n (n := 37) d_Folder_find_36 rfl 4 rfl rfl ?_
          obtain ⟨r15, h16, hf⟩ := ob_bind hf
          refine c_Vr (n := 40) (st' := [.int r15]) [.int x3] [] d_Folder_find_37 rfl (s_Folder_isNamed htr h16 rfl) tw_431 tw_432 tw_433 tw_5 tw_434 hd_Folder_isNamed (by omega) (by decide) (ci := 1) rfl rfl rfl (Nat.le_of_ble_eq_true rfl) rfl rfl ?_
          refine g_if_eq (n := 43) (tgt := 54) d_Folder_find_40 rfl (by decide) (fun q17 => ?_) (fun q17 => ?_)
          · have hf := ob_pos q17 hf
            refine g_iinc (n := 57) (v := (x3 + 1)) (ls' := [(3, .int (x3 + 1)), (4, .int 1), (0, .ref 8), (1, .ref 14), (2, .int x2)]) d_Folder_find_54 rfl 4 rfl rfl (am_ltb rfl) rfl ?_
            refine g_goto (n := 2) d_Folder_find_57 (by decide) ?_
            refine g_ls [2, 3, 4, 0] rfl ?_
            exact ih bt ct ad ln tx x2 (x3 + 1) _ hf _ rfl
          · have hf := ob_neg q17 hf
            refine g_aload_n (n := 44) d_Folder_find_43 rfl 1 rfl rfl ?_
            refine g_iload_n (n := 45) d_Folder_find_44 rfl 4 rfl rfl ?_
            refine g_aload_n (n := 46) d_Folder_find_45 rfl 2 rfl rfl ?_
            obtain ⟨r18, h19, hf⟩ := ob_bind hf
            refine c_Vr (n := 49) (st' := [.int r18]) [.int x3, .ref 14] [] d_Folder_find_46 rfl (s_Folder_isCalled htr h19 rfl) tw_435 tw_436 tw_437 tw_5 tw_438 hd_Folder_isCalled (by omega) (by decide) (ci := 1) rfl rfl rfl (Nat.le_of_ble_eq_true rfl) rfl rfl ?_
            refine g_if_eq (n := 52) (tgt := 54) d_Folder_find_49 rfl (by decide) (fun q20 => ?_) (fun q20 => ?_)
            · have hf := ob_pos q20 hf
              refine g_iinc (n := 57) (v := (x3 + 1)) (ls' := [(3, .int (x3 + 1)), (4, .int 1), (0, .ref 8), (1, .ref 14), (2, .int x2)]) d_Folder_find_54 rfl 4 rfl rfl (am_ltb rfl) rfl ?_
              refine g_goto (n := 2) d_Folder_find_57 (by decide) ?_
              refine g_ls [2, 3, 4, 0] rfl ?_
              exact ih bt ct ad ln tx x2 (x3 + 1) _ hf _ rfl
            · have hf := ob_neg q20 hf
              refine g_iload_n (n := 53) d_Folder_find_52 rfl 4 rfl rfl ?_
              cases hf
              exact g_iret d_Folder_find_53 rfl (Nat.zero_le _) (Nat.zero_le _)
end
section
def f_Folder_find (bt : Nat → Int32) (ct : Int32) (ad : Nat → Int32) (ln : Int32) (tx : Nat → Int32) (x2 : Int32) : Option (Int32) :=
  f_Folder_find_L2 3000 bt ct ad ln tx x2 0
set_option maxHeartbeats 4000000 in
set_option maxRecDepth 100000 in
theorem s_Folder_find {l : Launch} {D : va_G} {dA : FieldType → ClassId} (htr : l.stackTraces = false) {rest : List am_E} {ll : Int32} {he : Int32} {de : Int32} {li : Nat → Int32} {en : Nat → Int32} {po : Nat → Int32} {pw : Int32} {su : Int32} {wr : Int32} {cs : Int32} {wb : Int32} {bt : Nat → Int32} {ct : Int32} {lc : Int32} {ad : Nat → Int32} {ctb : Int32} {lcb : Int32} {adb : Nat → Int32} {fx : Int32} {us : Nat → Int32} {ln : Int32} {pt : Int32} {tx : Nat → Int32} {br : Nat → Int32} {rw : Nat → Int32}  {x2 : Int32} {r : Int32} (hf : f_Folder_find bt ct ad ln tx x2 = some r) {o : am_O} (ho : .inl (some (.int r)) = o) :
    am_M (am_kk l D dA) y_Folder_find ws_Folder_find (am_rm 6 o) [.ref 8, .ref 14, .int x2] (hC ll he de li en po pw su wr cs wb bt ct lc ad ctb lcb adb fx us ln pt tx br rw rest) o (hC ll he de li en po pw su wr cs wb bt ct lc ad ctb lcb adb fx us ln pt tx br rw rest) := by
  subst ho
  refine am_body (by decide) rfl (Nat.le_of_ble_eq_true rfl) rfl ?_
  rw [f_Folder_find] at hf
  refine g_iconst (n := 1) (v := 0) d_Folder_find_0 rfl (by decide) ?_
  refine g_istore_n (n := 2) (ls' := [(3, .int 0), (0, .ref 8), (1, .ref 14), (2, .int x2)]) d_Folder_find_1 rfl rfl (am_ltb rfl) rfl ?_
  refine g_ls [1, 2, 3, 0] rfl ?_
  exact s_Folder_find_L2 htr 3000 bt ct ad ln tx x2 0 _ hf _ rfl
def f_Folder_pairOf (bt : Nat → Int32) (ct : Int32) (ad : Nat → Int32) (x1 : Int32) (x2 : Int32) : Option (Int32) :=
  (if x1 < 0 then some 0 else (if ct ≤ x1 then some 0 else (if am_in x1 128 = true then ((f_Disk_pairAt bt ((ad x1.toNatClampNeg) + x2)).bind fun r4 => some r4) else none)))
set_option maxHeartbeats 4000000 in
set_option maxRecDepth 100000 in
theorem s_Folder_pairOf {l : Launch} {D : va_G} {dA : FieldType → ClassId} (htr : l.stackTraces = false) {rest : List am_E} {ll : Int32} {he : Int32} {de : Int32} {li : Nat → Int32} {en : Nat → Int32} {po : Nat → Int32} {pw : Int32} {su : Int32} {wr : Int32} {cs : Int32} {wb : Int32} {bt : Nat → Int32} {ct : Int32} {lc : Int32} {ad : Nat → Int32} {ctb : Int32} {lcb : Int32} {adb : Nat → Int32} {fx : Int32} {us : Nat → Int32} {ln : Int32} {pt : Int32} {tx : Nat → Int32} {br : Nat → Int32} {rw : Nat → Int32}  {x1 : Int32} {x2 : Int32} {r : Int32} (hf : f_Folder_pairOf bt ct ad x1 x2 = some r) {o : am_O} (ho : .inl (some (.int r)) = o) :
    am_M (am_kk l D dA) y_Folder_pairOf ws_Folder_pairOf (am_rm 1 o) [.ref 8, .int x1, .int x2] (hC ll he de li en po pw su wr cs wb bt ct lc ad ctb lcb adb fx us ln pt tx br rw rest) o (hC ll he de li en po pw su wr cs wb bt ct lc ad ctb lcb adb fx us ln pt tx br rw rest) := by
  subst ho
  refine am_body (by decide) rfl (Nat.le_of_ble_eq_true rfl) rfl ?_
  rw [f_Folder_pairOf] at hf
  refine g_iload_n (n := 1) d_Folder_pairOf_0 rfl 1 rfl rfl ?_
  refine g_if_lt (n := 4) (tgt := 30) d_Folder_pairOf_1 rfl (by decide) (fun q1 => ?_) (fun q1 => ?_)
  · have hf := ob_pos q1 hf
    refine g_iconst (n := 31) (v := 0) d_Folder_pairOf_30 rfl (by decide) ?_
    cases hf
    exact g_iret d_Folder_pairOf_31 rfl (Nat.zero_le _) (Nat.zero_le _)
  · have hf := ob_neg q1 hf
    refine g_iload_n (n := 5) d_Folder_pairOf_4 rfl 1 rfl rfl ?_
    refine g_aload_n (n := 6) d_Folder_pairOf_5 rfl 0 rfl rfl ?_
    refine g_get (n := 9) (q0 := 8) d_Folder_pairOf_6 rfl (am_fl in_Folder rfl (by decide : 3 < 5)) (List.mem_cons_of_mem _ tw_112) rfl rfl ?_
    refine g_icmp_ge (n := 12) (tgt := 30) d_Folder_pairOf_9 rfl (by decide) (fun q2 => ?_) (fun q2 => ?_)
    · have hf := ob_pos q2 hf
      refine g_iconst (n := 31) (v := 0) d_Folder_pairOf_30 rfl (by decide) ?_
      cases hf
      exact g_iret d_Folder_pairOf_31 rfl (Nat.zero_le _) (Nat.zero_le _)
    · have hf := ob_neg q2 hf
      refine g_aload_n (n := 13) d_Folder_pairOf_12 rfl 0 rfl rfl ?_
      refine g_get (n := 16) (q0 := 8) d_Folder_pairOf_13 rfl (am_fl in_Folder rfl (by decide : 0 < 5)) (List.mem_cons_of_mem _ tw_109) rfl rfl ?_
      refine g_aload_n (n := 17) d_Folder_pairOf_16 rfl 0 rfl rfl ?_
      refine g_get (n := 20) (q0 := 8) d_Folder_pairOf_17 rfl (am_fl in_Folder rfl (by decide : 2 < 5)) (List.mem_cons_of_mem _ tw_111) rfl rfl ?_
      refine g_iload_n (n := 21) d_Folder_pairOf_20 rfl 1 rfl rfl ?_
      obtain ⟨b3, hf⟩ := ob_chk hf
      refine g_iald (n := 22) (q0 := 9) d_Folder_pairOf_21 rfl rfl (am_inl b3) ?_
      refine g_iload_n (n := 23) d_Folder_pairOf_22 rfl 2 rfl rfl ?_
      refine g_iadd (n := 24) d_Folder_pairOf_23 rfl ?_
      obtain ⟨r4, h5, hf⟩ := ob_bind hf
      refine c_Vr (n := 27) (st' := [.int r4]) [.int ((ad x1.toNatClampNeg) + x2)] [] d_Folder_pairOf_24 rfl (s_Disk_pairAt htr h5 rfl) tw_633 tw_231 tw_232 tw_3 tw_233 hd_Disk_pairAt (by omega) (by decide) (ci := 0) rfl rfl rfl (Nat.le_of_ble_eq_true rfl) rfl rfl ?_
      refine g_goto (n := 31) d_Folder_pairOf_27 (by decide) ?_
      cases hf
      exact g_iret d_Folder_pairOf_31 rfl (Nat.zero_le _) (Nat.zero_le _)
def f_Folder_firstClusterOf (bt : Nat → Int32) (ct : Int32) (ad : Nat → Int32) (x1 : Int32) : Option (Int32) :=
  ((f_Folder_pairOf bt ct ad x1 8).bind fun r1 => some r1)
set_option maxHeartbeats 4000000 in
set_option maxRecDepth 100000 in
theorem s_Folder_firstClusterOf {l : Launch} {D : va_G} {dA : FieldType → ClassId} (htr : l.stackTraces = false) {rest : List am_E} {ll : Int32} {he : Int32} {de : Int32} {li : Nat → Int32} {en : Nat → Int32} {po : Nat → Int32} {pw : Int32} {su : Int32} {wr : Int32} {cs : Int32} {wb : Int32} {bt : Nat → Int32} {ct : Int32} {lc : Int32} {ad : Nat → Int32} {ctb : Int32} {lcb : Int32} {adb : Nat → Int32} {fx : Int32} {us : Nat → Int32} {ln : Int32} {pt : Int32} {tx : Nat → Int32} {br : Nat → Int32} {rw : Nat → Int32}  {x1 : Int32} {r : Int32} (hf : f_Folder_firstClusterOf bt ct ad x1 = some r) {o : am_O} (ho : .inl (some (.int r)) = o) :
    am_M (am_kk l D dA) y_Folder_firstClusterOf ws_Folder_firstClusterOf (am_rm 2 o) [.ref 8, .int x1] (hC ll he de li en po pw su wr cs wb bt ct lc ad ctb lcb adb fx us ln pt tx br rw rest) o (hC ll he de li en po pw su wr cs wb bt ct lc ad ctb lcb adb fx us ln pt tx br rw rest) := by
  subst ho
  refine am_body (by decide) rfl (Nat.le_of_ble_eq_true rfl) rfl ?_
  rw [f_Folder_firstClusterOf] at hf
  refine g_aload_n (n := 1) d_Folder_firstClusterOf_0 rfl 0 rfl rfl ?_
  refine g_iload_n (n := 2) d_Folder_firstClusterOf_1 rfl 1 rfl rfl ?_
  refine g_bipush (n := 4) (v := 8) d_Folder_firstClusterOf_2 rfl (by decide) ?_
  obtain ⟨r1, h2, hf⟩ := ob_bind hf
  refine c_Vr (n := 7) (st' := [.int r1]) [.int x1, .int 8] [] d_Folder_firstClusterOf_4 rfl (s_Folder_pairOf htr h2 rfl) tw_629 tw_630 tw_631 tw_5 tw_632 hd_Folder_pairOf (by omega) (by decide) (ci := 1) rfl rfl rfl (Nat.le_of_ble_eq_true rfl) rfl rfl ?_
  cases hf
  exact g_iret d_Folder_firstClusterOf_7 rfl (Nat.zero_le _) (Nat.zero_le _)
def f_Ses_goDown (he : Int32) (de : Int32) (x1 : Int32) : Option (Int32 × Int32) :=
  some (x1, (de + 1))
set_option maxHeartbeats 4000000 in
set_option maxRecDepth 100000 in
theorem s_Ses_goDown {l : Launch} {D : va_G} {dA : FieldType → ClassId} (htr : l.stackTraces = false) {rest : List am_E} {ll : Int32} {he : Int32} {de : Int32} {li : Nat → Int32} {en : Nat → Int32} {po : Nat → Int32} {pw : Int32} {su : Int32} {wr : Int32} {cs : Int32} {wb : Int32} {bt : Nat → Int32} {ct : Int32} {lc : Int32} {ad : Nat → Int32} {ctb : Int32} {lcb : Int32} {adb : Nat → Int32} {fx : Int32} {us : Nat → Int32} {ln : Int32} {pt : Int32} {tx : Nat → Int32} {br : Nat → Int32} {rw : Nat → Int32}  {x1 : Int32} {r : Int32 × Int32} (hf : f_Ses_goDown he de x1 = some r) {o : am_O} (ho : .inl none = o) :
    am_M (am_kk l D dA) y_Ses_goDown ws_Ses_goDown (am_rm 0 o) [.ref 1, .int x1] (hC ll he de li en po pw su wr cs wb bt ct lc ad ctb lcb adb fx us ln pt tx br rw rest) o (hC ll r.1 r.2 li en po pw su wr cs wb bt ct lc ad ctb lcb adb fx us ln pt tx br rw rest) := by
  subst ho
  refine am_body (by decide) rfl (Nat.le_of_ble_eq_true rfl) rfl ?_
  rw [f_Ses_goDown] at hf
  refine g_aload_n (n := 1) d_Ses_goDown_0 rfl 0 rfl rfl ?_
  refine g_iload_n (n := 2) d_Ses_goDown_1 rfl 1 rfl rfl ?_
  refine g_put (n := 5) (q0 := 1) (h' := (hC ll x1 de li en po pw su wr cs wb bt ct lc ad ctb lcb adb fx us ln pt tx br rw rest)) d_Ses_goDown_2 rfl (am_fl in_Ses rfl (by decide : 4 < 6)) typ_Ses (List.mem_cons_of_mem _ tw_44) rfl (fun _ _ => rfl) (fun _ _ => rfl) rfl (am_ltb rfl) rfl ?_
  refine g_aload_n (n := 6) d_Ses_goDown_5 rfl 0 rfl rfl ?_
  refine g_dup (n := 7) d_Ses_goDown_6 rfl rfl ?_
  refine g_get (n := 10) (q0 := 1) d_Ses_goDown_7 rfl (am_fl in_Ses rfl (by decide : 5 < 6)) (List.mem_cons_of_mem _ tw_46) rfl rfl ?_
  refine g_iconst (n := 11) (v := 1) d_Ses_goDown_10 rfl (by decide) ?_
  refine g_iadd (n := 12) d_Ses_goDown_11 rfl ?_
  refine g_put (n := 15) (q0 := 1) (h' := (hC ll x1 (de + 1) li en po pw su wr cs wb bt ct lc ad ctb lcb adb fx us ln pt tx br rw rest)) d_Ses_goDown_12 rfl (am_fl in_Ses rfl (by decide : 5 < 6)) typ_Ses (List.mem_cons_of_mem _ tw_46) rfl (fun _ _ => rfl) (fun _ _ => rfl) rfl (am_ltb rfl) rfl ?_
  cases hf
  exact g_vret d_Ses_goDown_15 rfl (Nat.zero_le _) (Nat.zero_le _)
def f_V_enter (ll : Int32) (he : Int32) (de : Int32) (li : Nat → Int32) (pw : Int32) (su : Int32) (bt : Nat → Int32) (ct : Int32) (lc : Int32) (ad : Nat → Int32) (ln : Int32) (tx : Nat → Int32) : Option ((String ⊕ Unit) × Int32 × Int32 × Int32 × Int32 × Int32 × (Nat → Int32) × Int32 × (Nat → Int32)) :=
  ((f_V_demandSoundDisk pw su).bind fun r1 => am_t r1 (fun E3 => some (.inl E3, ll, he, de, ct, lc, ad, ln, tx)) (fun v4 => ((f_Name_takeLineOf ll li ln tx).bind fun r6 => (if r6.2.1 = 0 then ((f_Ses_goToRoot he de).bind fun r18 => some (.inr (), r6.1, r18.1, r18.2, ct, lc, ad, r6.2.1, r6.2.2)) else ((f_Folder_load bt ct lc ad he).bind fun r9 => ((f_Folder_find bt r9.1 r9.2.2 r6.2.1 r6.2.2 2).bind fun r11 => (if r11 = (-1) then some (.inl "java/util/NoSuchElementException", r6.1, he, de, r9.1, r9.2.1, r9.2.2, r6.2.1, r6.2.2) else ((f_Folder_firstClusterOf bt r9.1 r9.2.2 r11).bind fun r14 => ((f_Ses_goDown he de r14).bind fun r16 => some (.inr (), r6.1, r16.1, r16.2, r9.1, r9.2.1, r9.2.2, r6.2.1, r6.2.2))))))))))
set_option maxHeartbeats 4000000 in
set_option maxRecDepth 100000 in
theorem s_V_enter {l : Launch} {D : va_G} {dA : FieldType → ClassId} (htr : l.stackTraces = false) {rest : List am_E} {ll : Int32} {he : Int32} {de : Int32} {li : Nat → Int32} {en : Nat → Int32} {po : Nat → Int32} {pw : Int32} {su : Int32} {wr : Int32} {cs : Int32} {wb : Int32} {bt : Nat → Int32} {ct : Int32} {lc : Int32} {ad : Nat → Int32} {ctb : Int32} {lcb : Int32} {adb : Nat → Int32} {fx : Int32} {us : Nat → Int32} {ln : Int32} {pt : Int32} {tx : Nat → Int32} {br : Nat → Int32} {rw : Nat → Int32}   {r : (String ⊕ Unit) × Int32 × Int32 × Int32 × Int32 × Int32 × (Nat → Int32) × Int32 × (Nat → Int32)} (hf : f_V_enter ll he de li pw su bt ct lc ad ln tx = some r) {o : am_O} (ho : am_ov r.1 = o) :
    am_M (am_kk l D dA) y_V_enter ws_V_enter (am_rm 7 o) [.ref 0] (hC ll he de li en po pw su wr cs wb bt ct lc ad ctb lcb adb fx us ln pt tx br rw rest) o (hC r.2.1 r.2.2.1 r.2.2.2.1 li en po pw su wr cs wb bt r.2.2.2.2.1 r.2.2.2.2.2.1 r.2.2.2.2.2.2.1 ctb lcb adb fx us r.2.2.2.2.2.2.2.1 pt r.2.2.2.2.2.2.2.2 br rw rest) := by
  subst ho
  refine am_body (by decide) rfl (Nat.le_of_ble_eq_true rfl) rfl ?_
  rw [f_V_enter] at hf
  refine g_aload_n (n := 1) d_V_enter_0 rfl 0 rfl rfl ?_
  obtain ⟨r1, h2, hf⟩ := ob_bind hf
  rcases ob_t hf with ⟨E3, w5, hf⟩ | ⟨v4, w5, hf⟩
  · cases hf
    refine c_Vx (n := 4) (st' := []) [] [] d_V_enter_1 rfl (s_V_demandSoundDisk htr h2 (by rw [w5]; rfl)) tw_305 tw_307 (am_memS 1 (by decide +kernel) (by decide +kernel)) tw_1 tw_308 hd_V_demandSoundDisk (by omega) (by decide) (ci := 6) rfl rfl rfl (Nat.le_of_ble_eq_true rfl) rfl ?_
    exact g_out rfl (Nat.le_refl _) (Nat.le_refl _)
  · refine c_Vr (n := 4) (st' := []) [] [] d_V_enter_1 rfl (s_V_demandSoundDisk htr h2 (by rw [w5]; rfl)) tw_305 tw_307 (am_memS 1 (by decide +kernel) (by decide +kernel)) tw_1 tw_308 hd_V_demandSoundDisk (by omega) (by decide) (ci := 6) rfl rfl rfl (Nat.le_of_ble_eq_true rfl) rfl rfl ?_
    refine g_aload_n (n := 5) d_V_enter_4 rfl 0 rfl rfl ?_
    refine g_get (n := 8) (q0 := 0) d_V_enter_5 rfl (am_fl in_V rfl (by decide : 6 < 8)) (List.mem_cons_of_mem _ tw_179) rfl rfl ?_
    refine g_aload_n (n := 9) d_V_enter_8 rfl 0 rfl rfl ?_
    refine g_get (n := 12) (q0 := 0) d_V_enter_9 rfl (am_fl in_V rfl (by decide : 0 < 8)) (List.mem_cons_of_mem _ tw_173) rfl rfl ?_
    obtain ⟨r6, h7, hf⟩ := ob_bind hf
    refine c_Vr (n := 15) (st' := []) [.ref 1] [] d_V_enter_12 rfl (s_Name_takeLineOf htr h7 rfl) tw_379 tw_380 tw_381 tw_7 tw_382 hd_Name_takeLineOf (by omega) (by decide) (ci := 2) rfl rfl rfl (Nat.le_of_ble_eq_true rfl) rfl rfl ?_
    refine g_aload_n (n := 16) d_V_enter_15 rfl 0 rfl rfl ?_
    refine g_get (n := 19) (q0 := 0) d_V_enter_16 rfl (am_fl in_V rfl (by decide : 6 < 8)) (List.mem_cons_of_mem _ tw_179) rfl rfl ?_
    refine g_getN (n := 22) (q0 := 14) d_V_enter_19 rfl (am_fl in_Name rfl (by decide : 2 < 4)) nw_160 rfl rfl ?_
    refine g_if_ne (n := 25) (tgt := 33) d_V_enter_22 rfl (by decide) (fun q8 => ?_) (fun q8 => ?_)
    · have hf := ob_neg q8 hf
      refine g_aload_n (n := 34) d_V_enter_33 rfl 0 rfl rfl ?_
      refine g_get (n := 37) (q0 := 0) d_V_enter_34 rfl (am_fl in_V rfl (by decide : 3 < 8)) (List.mem_cons_of_mem _ tw_176) rfl rfl ?_
      refine g_aload_n (n := 38) d_V_enter_37 rfl 0 rfl rfl ?_
      refine g_get (n := 41) (q0 := 0) d_V_enter_38 rfl (am_fl in_V rfl (by decide : 0 < 8)) (List.mem_cons_of_mem _ tw_173) rfl rfl ?_
      refine g_getN (n := 44) (q0 := 1) d_V_enter_41 rfl (am_fl in_Ses rfl (by decide : 4 < 6)) nw_45 rfl rfl ?_
      obtain ⟨r9, h10, hf⟩ := ob_bind hf
      refine c_Vr (n := 47) (st' := []) [.int he] [] d_V_enter_44 rfl (s_Folder_load htr h10 rfl) tw_407 tw_408 tw_409 tw_5 tw_410 hd_Folder_load (by omega) (by decide) (ci := 1) rfl rfl rfl (Nat.le_of_ble_eq_true rfl) rfl rfl ?_
      refine g_aload_n (n := 48) d_V_enter_47 rfl 0 rfl rfl ?_
      refine g_get (n := 51) (q0 := 0) d_V_enter_48 rfl (am_fl in_V rfl (by decide : 3 < 8)) (List.mem_cons_of_mem _ tw_176) rfl rfl ?_
      refine g_aload_n (n := 52) d_V_enter_51 rfl 0 rfl rfl ?_
      refine g_get (n := 55) (q0 := 0) d_V_enter_52 rfl (am_fl in_V rfl (by decide : 6 < 8)) (List.mem_cons_of_mem _ tw_179) rfl rfl ?_
      refine g_iconst (n := 56) (v := 2) d_V_enter_55 rfl (by decide) ?_
      obtain ⟨r11, h12, hf⟩ := ob_bind hf
      refine c_Vr (n := 59) (st' := [.int r11]) [.ref 14, .int 2] [] d_V_enter_56 rfl (s_Folder_find htr h12 rfl) tw_418 tw_419 tw_420 tw_5 tw_421 hd_Folder_find (by omega) (by decide) (ci := 1) rfl rfl rfl (Nat.le_of_ble_eq_true rfl) rfl rfl ?_
      refine g_istore_n (n := 60) (ls' := [(1, .int r11), (0, .ref 0)]) d_V_enter_59 rfl rfl (am_ltb rfl) rfl ?_
      refine g_iload_n (n := 61) d_V_enter_60 rfl 0 rfl rfl ?_
      refine g_iconst (n := 62) (v := (-1)) d_V_enter_61 rfl (by decide) ?_
      refine g_icmp_ne (n := 65) (tgt := 75) d_V_enter_62 rfl (by decide) (fun q13 => ?_) (fun q13 => ?_)
      · have hf := ob_neg q13 hf
        refine g_aload_n (n := 76) d_V_enter_75 rfl 1 rfl rfl ?_
        refine g_get (n := 79) (q0 := 0) d_V_enter_76 rfl (am_fl in_V rfl (by decide : 0 < 8)) (List.mem_cons_of_mem _ tw_173) rfl rfl ?_
        refine g_aload_n (n := 80) d_V_enter_79 rfl 1 rfl rfl ?_
        refine g_get (n := 83) (q0 := 0) d_V_enter_80 rfl (am_fl in_V rfl (by decide : 3 < 8)) (List.mem_cons_of_mem _ tw_176) rfl rfl ?_
        refine g_iload_n (n := 84) d_V_enter_83 rfl 0 rfl rfl ?_
        obtain ⟨r14, h15, hf⟩ := ob_bind hf
        refine c_Vr (n := 87) (st' := [.int r14, .ref 1]) [.int r11] [.ref 1] d_V_enter_84 rfl (s_Folder_firstClusterOf htr h15 rfl) tw_625 tw_626 tw_627 tw_5 tw_628 hd_Folder_firstClusterOf (by omega) (by decide) (ci := 1) rfl rfl rfl (Nat.le_of_ble_eq_true rfl) rfl rfl ?_
        obtain ⟨r16, h17, hf⟩ := ob_bind hf
        refine c_Vr (n := 90) (st' := []) [.int r14] [] d_V_enter_87 rfl (s_Ses_goDown htr h17 rfl) tw_665 tw_666 tw_667 tw_2 tw_668 hd_Ses_goDown (by omega) (by decide) (ci := 4) rfl rfl rfl (Nat.le_of_ble_eq_true rfl) rfl rfl ?_
        cases hf
        exact g_vret d_V_enter_90 rfl (Nat.zero_le _) (Nat.zero_le _)
      · have hf := ob_pos q13 hf
        cases hf
        exact c_T htr (by decide +kernel) e_NoSuchElementException_0 e_NoSuchElementException_1 e_NoSuchElementException_2 e_NoSuchElementException_5 tw_600 tw_15 rfl (List.mem_of_getElem? (i := 7) rfl) at_V_132 d_V_enter_65 d_V_enter_68 (Or.inl ⟨d_V_enter_69, rfl⟩) d_V_enter_71 d_V_enter_74 (Nat.le_of_ble_eq_true rfl)
    · have hf := ob_pos q8 hf
      refine g_aload_n (n := 26) d_V_enter_25 rfl 0 rfl rfl ?_
      refine g_get (n := 29) (q0 := 0) d_V_enter_26 rfl (am_fl in_V rfl (by decide : 0 < 8)) (List.mem_cons_of_mem _ tw_173) rfl rfl ?_
      obtain ⟨r18, h19, hf⟩ := ob_bind hf
      refine c_Vr (n := 32) (st' := []) [] [] d_V_enter_29 rfl (s_Ses_goToRoot htr h19 rfl) tw_660 tw_661 tw_662 tw_2 tw_663 hd_Ses_goToRoot (by omega) (by decide) (ci := 4) rfl rfl rfl (Nat.le_of_ble_eq_true rfl) rfl rfl ?_
      cases hf
      exact g_vret d_V_enter_32 rfl (Nat.zero_le _) (Nat.zero_le _)
def f_Ses_leastFreeHandle_L2 : Nat → (Nat → Int32) → Int32 → Option (Int32)
  | 0, _, _ => none
  | fuel + 1, en, x1 =>
  (if 4 ≤ x1 then some (-1) else (if am_in x1 4 = true then (if (en x1.toNatClampNeg) = (-1) then some x1 else f_Ses_leastFreeHandle_L2 fuel en (x1 + 1)) else none))
set_option maxHeartbeats 4000000 in
set_option maxRecDepth 100000 in
theorem s_Ses_leastFreeHandle_L2 {l : Launch} {D : va_G} {dA : FieldType → ClassId} (htr : l.stackTraces = false) {rest : List am_E} {ll : Int32} {he : Int32} {de : Int32} {li : Nat → Int32} {po : Nat → Int32} {pw : Int32} {su : Int32} {wr : Int32} {cs : Int32} {wb : Int32} {bt : Nat → Int32} {ct : Int32} {lc : Int32} {ad : Nat → Int32} {ctb : Int32} {lcb : Int32} {adb : Nat → Int32} {fx : Int32} {us : Nat → Int32} {ln : Int32} {pt : Int32} {tx : Nat → Int32} {br : Nat → Int32} {rw : Nat → Int32}  : ∀ (fuel : Nat) (en : Nat → Int32) (x1 : Int32) (r : Int32), f_Ses_leastFreeHandle_L2 fuel en x1 = some r → ∀ o : am_O, .inl (some (.int r)) = o →
    am_G (am_kk l D dA) (ws_Ses_leastFreeHandle, y_Ses_leastFreeHandle.cls, prog_6_method_7_code, 2, (some .int), y_Ses_leastFreeHandle.name, [], am_rm 0 (o), none) o (hC ll he de li en po pw su wr cs wb bt ct lc ad ctb lcb adb fx us ln pt tx br rw rest) 0 0 2 [(0, .ref 1), (1, .int x1)] [] (hC ll he de li en po pw su wr cs wb bt ct lc ad ctb lcb adb fx us ln pt tx br rw rest) := by
  intro fuel
  induction fuel with
  | zero =>
    intro en x1 r hf
    cases hf
  | succ fuel ih =>
    intro en x1 r hf o ho
    subst ho
    rw [f_Ses_leastFreeHandle_L2] at hf
    refine g_iload_n (n := 3) d_Ses_leastFreeHandle_2 rfl 1 rfl rfl ?_
    refine g_iconst (n := 4) (v := 4) d_Ses_leastFreeHandle_3 rfl (by decide) ?_
    refine g_icmp_ge (n := 7) (tgt := 25) d_Ses_leastFreeHandle_4 rfl (by decide) (fun q1 => ?_) (fun q1 => ?_)
    · have hf := ob_pos q1 hf
      refine g_iconst (n := 26) (v := (-1)) d_Ses_leastFreeHandle_25 rfl (by decide) ?_
      cases hf
      exact g_iret d_Ses_leastFreeHandle_26 rfl (Nat.zero_le _) (Nat.zero_le _)
    · have hf := ob_neg q1 hf
      refine g_aload_n (n := 8) d_Ses_leastFreeHandle_7 rfl 0 rfl rfl ?_
      refine g_get (n := 11) (q0 := 1) d_Ses_leastFreeHandle_8 rfl (am_fl in_Ses rfl (by decide : 1 < 6)) (List.mem_cons_of_mem _ tw_38) rfl rfl ?_
      refine g_iload_n (n := 12) d_Ses_leastFreeHandle_11 rfl 1 rfl rfl ?_
      obtain ⟨b2, hf⟩ := ob_chk hf
      refine g_iald (n := 13) (q0 := 3) d_Ses_leastFreeHandle_12 rfl rfl (am_inl b2) ?_
      refine g_iconst (n := 14) (v := (-1)) d_Ses_leastFreeHandle_13 rfl (by decide) ?_
      refine g_icmp_ne (n := 17) (tgt := 19) d_Ses_leastFreeHandle_14 rfl (by decide) (fun q3 => ?_) (fun q3 => ?_)
      · have hf := ob_neg q3 hf
        refine g_iinc (n := 22) (v := (x1 + 1)) (ls' := [(1, .int (x1 + 1)), (0, .ref 1)]) d_Ses_leastFreeHandle_19 rfl 1 rfl rfl (am_ltb rfl) rfl ?_
        refine g_goto (n := 2) d_Ses_leastFreeHandle_22 (by decide) ?_
        refine g_ls [1, 0] rfl ?_
        exact ih en (x1 + 1) _ hf _ rfl
      · have hf := ob_pos q3 hf
        refine g_iload_n (n := 18) d_Ses_leastFreeHandle_17 rfl 1 rfl rfl ?_
        cases hf
        exact g_iret d_Ses_leastFreeHandle_18 rfl (Nat.zero_le _) (Nat.zero_le _)
def f_Ses_leastFreeHandle (en : Nat → Int32) : Option (Int32) :=
  f_Ses_leastFreeHandle_L2 3000 en 0
set_option maxHeartbeats 4000000 in
set_option maxRecDepth 100000 in
theorem s_Ses_leastFreeHandle {l : Launch} {D : va_G} {dA : FieldType → ClassId} (htr : l.stackTraces = false) {rest : List am_E} {ll : Int32} {he : Int32} {de : Int32} {li : Nat → Int32} {en : Nat → Int32} {po : Nat → Int32} {pw : Int32} {su : Int32} {wr : Int32} {cs : Int32} {wb : Int32} {bt : Nat → Int32} {ct : Int32} {lc : Int32} {ad : Nat → Int32} {ctb : Int32} {lcb : Int32} {adb : Nat → Int32} {fx : Int32} {us : Nat → Int32} {ln : Int32} {pt : Int32} {tx : Nat → Int32} {br : Nat → Int32} {rw : Nat → Int32}   {r : Int32} (hf : f_Ses_leastFreeHandle en = some r) {o : am_O} (ho : .inl (some (.int r)) = o) :
    am_M (am_kk l D dA) y_Ses_leastFreeHandle ws_Ses_leastFreeHandle (am_rm 0 o) [.ref 1] (hC ll he de li en po pw su wr cs wb bt ct lc ad ctb lcb adb fx us ln pt tx br rw rest) o (hC ll he de li en po pw su wr cs wb bt ct lc ad ctb lcb adb fx us ln pt tx br rw rest) := by
  subst ho
  refine am_body (by decide) rfl (Nat.le_of_ble_eq_true rfl) rfl ?_
  rw [f_Ses_leastFreeHandle] at hf
  refine g_iconst (n := 1) (v := 0) d_Ses_leastFreeHandle_0 rfl (by decide) ?_
  refine g_istore_n (n := 2) (ls' := [(1, .int 0), (0, .ref 1)]) d_Ses_leastFreeHandle_1 rfl rfl (am_ltb rfl) rfl ?_
  refine g_ls [1, 0] rfl ?_
  exact s_Ses_leastFreeHandle_L2 htr 3000 en 0 _ hf _ rfl
def f_Folder_addressOf (ct : Int32) (ad : Nat → Int32) (x1 : Int32) : Option (Int32) :=
  (if x1 < 0 then some (-1) else (if ct ≤ x1 then some (-1) else (if am_in x1 128 = true then some (ad x1.toNatClampNeg) else none)))
set_option maxHeartbeats 4000000 in
set_option maxRecDepth 100000 in
theorem s_Folder_addressOf {l : Launch} {D : va_G} {dA : FieldType → ClassId} (htr : l.stackTraces = false) {rest : List am_E} {ll : Int32} {he : Int32} {de : Int32} {li : Nat → Int32} {en : Nat → Int32} {po : Nat → Int32} {pw : Int32} {su : Int32} {wr : Int32} {cs : Int32} {wb : Int32} {bt : Nat → Int32} {ct : Int32} {lc : Int32} {ad : Nat → Int32} {ctb : Int32} {lcb : Int32} {adb : Nat → Int32} {fx : Int32} {us : Nat → Int32} {ln : Int32} {pt : Int32} {tx : Nat → Int32} {br : Nat → Int32} {rw : Nat → Int32}  {x1 : Int32} {r : Int32} (hf : f_Folder_addressOf ct ad x1 = some r) {o : am_O} (ho : .inl (some (.int r)) = o) :
    am_M (am_kk l D dA) y_Folder_addressOf ws_Folder_addressOf (am_rm 0 o) [.ref 8, .int x1] (hC ll he de li en po pw su wr cs wb bt ct lc ad ctb lcb adb fx us ln pt tx br rw rest) o (hC ll he de li en po pw su wr cs wb bt ct lc ad ctb lcb adb fx us ln pt tx br rw rest) := by
  subst ho
  refine am_body (by decide) rfl (Nat.le_of_ble_eq_true rfl) rfl ?_
  rw [f_Folder_addressOf] at hf
  refine g_iload_n (n := 1) d_Folder_addressOf_0 rfl 1 rfl rfl ?_
  refine g_if_lt (n := 4) (tgt := 21) d_Folder_addressOf_1 rfl (by decide) (fun q1 => ?_) (fun q1 => ?_)
  · have hf := ob_pos q1 hf
    refine g_iconst (n := 22) (v := (-1)) d_Folder_addressOf_21 rfl (by decide) ?_
    cases hf
    exact g_iret d_Folder_addressOf_22 rfl (Nat.zero_le _) (Nat.zero_le _)
  · have hf := ob_neg q1 hf
    refine g_iload_n (n := 5) d_Folder_addressOf_4 rfl 1 rfl rfl ?_
    refine g_aload_n (n := 6) d_Folder_addressOf_5 rfl 0 rfl rfl ?_
    refine g_get (n := 9) (q0 := 8) d_Folder_addressOf_6 rfl (am_fl in_Folder rfl (by decide : 3 < 5)) (List.mem_cons_of_mem _ tw_112) rfl rfl ?_
    refine g_icmp_ge (n := 12) (tgt := 21) d_Folder_addressOf_9 rfl (by decide) (fun q2 => ?_) (fun q2 => ?_)
    · have hf := ob_pos q2 hf
      refine g_iconst (n := 22) (v := (-1)) d_Folder_addressOf_21 rfl (by decide) ?_
      cases hf
      exact g_iret d_Folder_addressOf_22 rfl (Nat.zero_le _) (Nat.zero_le _)
    · have hf := ob_neg q2 hf
      refine g_aload_n (n := 13) d_Folder_addressOf_12 rfl 0 rfl rfl ?_
      refine g_get (n := 16) (q0 := 8) d_Folder_addressOf_13 rfl (am_fl in_Folder rfl (by decide : 2 < 5)) (List.mem_cons_of_mem _ tw_111) rfl rfl ?_
      refine g_iload_n (n := 17) d_Folder_addressOf_16 rfl 1 rfl rfl ?_
      obtain ⟨b3, hf⟩ := ob_chk hf
      refine g_iald (n := 18) (q0 := 9) d_Folder_addressOf_17 rfl rfl (am_inl b3) ?_
      refine g_goto (n := 22) d_Folder_addressOf_18 (by decide) ?_
      cases hf
      exact g_iret d_Folder_addressOf_22 rfl (Nat.zero_le _) (Nat.zero_le _)
def f_Ses_hold (en : Nat → Int32) (po : Nat → Int32) (x1 : Int32) (x2 : Int32) : Option ((Nat → Int32) × (Nat → Int32)) :=
  (if x1 < 0 then some (en, po) else (if 4 ≤ x1 then some (en, po) else (if am_in x1 4 = true then (if am_in x1 4 = true then some ((upd en x1.toNatClampNeg x2), (upd po x1.toNatClampNeg 0)) else none) else none)))
set_option maxHeartbeats 4000000 in
set_option maxRecDepth 100000 in
theorem s_Ses_hold {l : Launch} {D : va_G} {dA : FieldType → ClassId} (htr : l.stackTraces = false) {rest : List am_E} {ll : Int32} {he : Int32} {de : Int32} {li : Nat → Int32} {en : Nat → Int32} {po : Nat → Int32} {pw : Int32} {su : Int32} {wr : Int32} {cs : Int32} {wb : Int32} {bt : Nat → Int32} {ct : Int32} {lc : Int32} {ad : Nat → Int32} {ctb : Int32} {lcb : Int32} {adb : Nat → Int32} {fx : Int32} {us : Nat → Int32} {ln : Int32} {pt : Int32} {tx : Nat → Int32} {br : Nat → Int32} {rw : Nat → Int32}  {x1 : Int32} {x2 : Int32} {r : (Nat → Int32) × (Nat → Int32)} (hf : f_Ses_hold en po x1 x2 = some r) {o : am_O} (ho : .inl none = o) :
    am_M (am_kk l D dA) y_Ses_hold ws_Ses_hold (am_rm 0 o) [.ref 1, .int x1, .int x2] (hC ll he de li en po pw su wr cs wb bt ct lc ad ctb lcb adb fx us ln pt tx br rw rest) o (hC ll he de li r.1 r.2 pw su wr cs wb bt ct lc ad ctb lcb adb fx us ln pt tx br rw rest) := by
  subst ho
  refine am_body (by decide) rfl (Nat.le_of_ble_eq_true rfl) rfl ?_
  rw [f_Ses_hold] at hf
  refine g_iload_n (n := 1) d_Ses_hold_0 rfl 1 rfl rfl ?_
  refine g_if_lt (n := 4) (tgt := 23) d_Ses_hold_1 rfl (by decide) (fun q1 => ?_) (fun q1 => ?_)
  · have hf := ob_pos q1 hf
    cases hf
    exact g_vret d_Ses_hold_23 rfl (Nat.zero_le _) (Nat.zero_le _)
  · have hf := ob_neg q1 hf
    refine g_iload_n (n := 5) d_Ses_hold_4 rfl 1 rfl rfl ?_
    refine g_iconst (n := 6) (v := 4) d_Ses_hold_5 rfl (by decide) ?_
    refine g_icmp_ge (n := 9) (tgt := 23) d_Ses_hold_6 rfl (by decide) (fun q2 => ?_) (fun q2 => ?_)
    · have hf := ob_pos q2 hf
      cases hf
      exact g_vret d_Ses_hold_23 rfl (Nat.zero_le _) (Nat.zero_le _)
    · have hf := ob_neg q2 hf
      refine g_aload_n (n := 10) d_Ses_hold_9 rfl 0 rfl rfl ?_
      refine g_get (n := 13) (q0 := 1) d_Ses_hold_10 rfl (am_fl in_Ses rfl (by decide : 1 < 6)) (List.mem_cons_of_mem _ tw_38) rfl rfl ?_
      refine g_iload_n (n := 14) d_Ses_hold_13 rfl 1 rfl rfl ?_
      refine g_iload_n (n := 15) d_Ses_hold_14 rfl 2 rfl rfl ?_
      obtain ⟨b3, hf⟩ := ob_chk hf
      refine g_iast (n := 16) (q0 := 3) (h' := (hC ll he de li (upd en x1.toNatClampNeg x2) po pw su wr cs wb bt ct lc ad ctb lcb adb fx us ln pt tx br rw rest)) d_Ses_hold_15 rfl rfl (am_inl b3) rfl ?_
      refine g_aload_n (n := 17) d_Ses_hold_16 rfl 0 rfl rfl ?_
      refine g_get (n := 20) (q0 := 1) d_Ses_hold_17 rfl (am_fl in_Ses rfl (by decide : 2 < 6)) (List.mem_cons_of_mem _ tw_39) rfl rfl ?_
      refine g_iload_n (n := 21) d_Ses_hold_20 rfl 1 rfl rfl ?_
      refine g_iconst (n := 22) (v := 0) d_Ses_hold_21 rfl (by decide) ?_
      obtain ⟨b4, hf⟩ := ob_chk hf
      refine g_iast (n := 23) (q0 := 4) (h' := (hC ll he de li (upd en x1.toNatClampNeg x2) (upd po x1.toNatClampNeg 0) pw su wr cs wb bt ct lc ad ctb lcb adb fx us ln pt tx br rw rest)) d_Ses_hold_22 rfl rfl (am_inl b4) rfl ?_
      cases hf
      exact g_vret d_Ses_hold_23 rfl (Nat.zero_le _) (Nat.zero_le _)
def f_V_open (ll : Int32) (he : Int32) (li : Nat → Int32) (en : Nat → Int32) (po : Nat → Int32) (pw : Int32) (su : Int32) (bt : Nat → Int32) (ct : Int32) (lc : Int32) (ad : Nat → Int32) (ln : Int32) (tx : Nat → Int32) : Option ((String ⊕ Int32) × Int32 × (Nat → Int32) × (Nat → Int32) × Int32 × Int32 × (Nat → Int32) × Int32 × (Nat → Int32)) :=
  ((f_V_demandSoundDisk pw su).bind fun r1 => am_t r1 (fun E3 => some (.inl E3, ll, en, po, ct, lc, ad, ln, tx)) (fun v4 => ((f_Name_takeLineOf ll li ln tx).bind fun r6 => ((f_Folder_load bt ct lc ad he).bind fun r8 => ((f_Folder_find bt r8.1 r8.2.2 r6.2.1 r6.2.2 1).bind fun r10 => (if r10 = (-1) then some (.inl "java/util/NoSuchElementException", r6.1, en, po, r8.1, r8.2.1, r8.2.2, r6.2.1, r6.2.2) else ((f_Ses_leastFreeHandle en).bind fun r13 => (if r13 = (-1) then some (.inl "java/lang/UnsupportedOperationException", r6.1, en, po, r8.1, r8.2.1, r8.2.2, r6.2.1, r6.2.2) else ((f_Folder_addressOf r8.1 r8.2.2 r10).bind fun r16 => ((f_Ses_hold en po r13 r16).bind fun r18 => some (.inr r13, r6.1, r18.1, r18.2, r8.1, r8.2.1, r8.2.2, r6.2.1, r6.2.2)))))))))))
set_option maxHeartbeats 4000000 in
set_option maxRecDepth 100000 in
theorem s_V_open {l : Launch} {D : va_G} {dA : FieldType → ClassId} (htr : l.stackTraces = false) {rest : List am_E} {ll : Int32} {he : Int32} {de : Int32} {li : Nat → Int32} {en : Nat → Int32} {po : Nat → Int32} {pw : Int32} {su : Int32} {wr : Int32} {cs : Int32} {wb : Int32} {bt : Nat → Int32} {ct : Int32} {lc : Int32} {ad : Nat → Int32} {ctb : Int32} {lcb : Int32} {adb : Nat → Int32} {fx : Int32} {us : Nat → Int32} {ln : Int32} {pt : Int32} {tx : Nat → Int32} {br : Nat → Int32} {rw : Nat → Int32}   {r : (String ⊕ Int32) × Int32 × (Nat → Int32) × (Nat → Int32) × Int32 × Int32 × (Nat → Int32) × Int32 × (Nat → Int32)} (hf : f_V_open ll he li en po pw su bt ct lc ad ln tx = some r) {o : am_O} (ho : am_oi r.1 = o) :
    am_M (am_kk l D dA) y_V_open ws_V_open (am_rm 7 o) [.ref 0] (hC ll he de li en po pw su wr cs wb bt ct lc ad ctb lcb adb fx us ln pt tx br rw rest) o (hC r.2.1 he de li r.2.2.1 r.2.2.2.1 pw su wr cs wb bt r.2.2.2.2.1 r.2.2.2.2.2.1 r.2.2.2.2.2.2.1 ctb lcb adb fx us r.2.2.2.2.2.2.2.1 pt r.2.2.2.2.2.2.2.2 br rw rest) := by
  subst ho
  refine am_body (by decide) rfl (Nat.le_of_ble_eq_true rfl) rfl ?_
  rw [f_V_open] at hf
  refine g_aload_n (n := 1) d_V_open_0 rfl 0 rfl rfl ?_
  obtain ⟨r1, h2, hf⟩ := ob_bind hf
  rcases ob_t hf with ⟨E3, w5, hf⟩ | ⟨v4, w5, hf⟩
  · cases hf
    refine c_Vx (n := 4) (st' := []) [] [] d_V_open_1 rfl (s_V_demandSoundDisk htr h2 (by rw [w5]; rfl)) tw_305 tw_307 (am_memS 1 (by decide +kernel) (by decide +kernel)) tw_1 tw_308 hd_V_demandSoundDisk (by omega) (by decide) (ci := 6) rfl rfl rfl (Nat.le_of_ble_eq_true rfl) rfl ?_
    exact g_out rfl (Nat.le_refl _) (Nat.le_refl _)
  · refine c_Vr (n := 4) (st' := []) [] [] d_V_open_1 rfl (s_V_demandSoundDisk htr h2 (by rw [w5]; rfl)) tw_305 tw_307 (am_memS 1 (by decide +kernel) (by decide +kernel)) tw_1 tw_308 hd_V_demandSoundDisk (by omega) (by decide) (ci := 6) rfl rfl rfl (Nat.le_of_ble_eq_true rfl) rfl rfl ?_
    refine g_aload_n (n := 5) d_V_open_4 rfl 0 rfl rfl ?_
    refine g_get (n := 8) (q0 := 0) d_V_open_5 rfl (am_fl in_V rfl (by decide : 6 < 8)) (List.mem_cons_of_mem _ tw_179) rfl rfl ?_
    refine g_aload_n (n := 9) d_V_open_8 rfl 0 rfl rfl ?_
    refine g_get (n := 12) (q0 := 0) d_V_open_9 rfl (am_fl in_V rfl (by decide : 0 < 8)) (List.mem_cons_of_mem _ tw_173) rfl rfl ?_
    obtain ⟨r6, h7, hf⟩ := ob_bind hf
    refine c_Vr (n := 15) (st' := []) [.ref 1] [] d_V_open_12 rfl (s_Name_takeLineOf htr h7 rfl) tw_379 tw_380 tw_381 tw_7 tw_382 hd_Name_takeLineOf (by omega) (by decide) (ci := 2) rfl rfl rfl (Nat.le_of_ble_eq_true rfl) rfl rfl ?_
    refine g_aload_n (n := 16) d_V_open_15 rfl 0 rfl rfl ?_
    refine g_get (n := 19) (q0 := 0) d_V_open_16 rfl (am_fl in_V rfl (by decide : 3 < 8)) (List.mem_cons_of_mem _ tw_176) rfl rfl ?_
    refine g_aload_n (n := 20) d_V_open_19 rfl 0 rfl rfl ?_
    refine g_get (n := 23) (q0 := 0) d_V_open_20 rfl (am_fl in_V rfl (by decide : 0 < 8)) (List.mem_cons_of_mem _ tw_173) rfl rfl ?_
    refine g_getN (n := 26) (q0 := 1) d_V_open_23 rfl (am_fl in_Ses rfl (by decide : 4 < 6)) nw_45 rfl rfl ?_
    obtain ⟨r8, h9, hf⟩ := ob_bind hf
    refine c_Vr (n := 29) (st' := []) [.int he] [] d_V_open_26 rfl (s_Folder_load htr h9 rfl) tw_407 tw_408 tw_409 tw_5 tw_410 hd_Folder_load (by omega) (by decide) (ci := 1) rfl rfl rfl (Nat.le_of_ble_eq_true rfl) rfl rfl ?_
    refine g_aload_n (n := 30) d_V_open_29 rfl 0 rfl rfl ?_
    refine g_get (n := 33) (q0 := 0) d_V_open_30 rfl (am_fl in_V rfl (by decide : 3 < 8)) (List.mem_cons_of_mem _ tw_176) rfl rfl ?_
    refine g_aload_n (n := 34) d_V_open_33 rfl 0 rfl rfl ?_
    refine g_get (n := 37) (q0 := 0) d_V_open_34 rfl (am_fl in_V rfl (by decide : 6 < 8)) (List.mem_cons_of_mem _ tw_179) rfl rfl ?_
    refine g_iconst (n := 38) (v := 1) d_V_open_37 rfl (by decide) ?_
    obtain ⟨r10, h11, hf⟩ := ob_bind hf
    refine c_Vr (n := 41) (st' := [.int r10]) [.ref 14, .int 1] [] d_V_open_38 rfl (s_Folder_find htr h11 rfl) tw_418 tw_419 tw_420 tw_5 tw_421 hd_Folder_find (by omega) (by decide) (ci := 1) rfl rfl rfl (Nat.le_of_ble_eq_true rfl) rfl rfl ?_
    refine g_istore_n (n := 42) (ls' := [(1, .int r10), (0, .ref 0)]) d_V_open_41 rfl rfl (am_ltb rfl) rfl ?_
    refine g_iload_n (n := 43) d_V_open_42 rfl 0 rfl rfl ?_
    refine g_iconst (n := 44) (v := (-1)) d_V_open_43 rfl (by decide) ?_
    refine g_icmp_ne (n := 47) (tgt := 57) d_V_open_44 rfl (by decide) (fun q12 => ?_) (fun q12 => ?_)
    · have hf := ob_neg q12 hf
      refine g_aload_n (n := 58) d_V_open_57 rfl 1 rfl rfl ?_
      refine g_get (n := 61) (q0 := 0) d_V_open_58 rfl (am_fl in_V rfl (by decide : 0 < 8)) (List.mem_cons_of_mem _ tw_173) rfl rfl ?_
      obtain ⟨r13, h14, hf⟩ := ob_bind hf
      refine c_Vr (n := 64) (st' := [.int r13]) [] [] d_V_open_61 rfl (s_Ses_leastFreeHandle htr h14 rfl) tw_677 tw_678 tw_679 tw_2 tw_680 hd_Ses_leastFreeHandle (by omega) (by decide) (ci := 4) rfl rfl rfl (Nat.le_of_ble_eq_true rfl) rfl rfl ?_
      refine g_istore_n (n := 65) (ls' := [(2, .int r13), (1, .int r10), (0, .ref 0)]) d_V_open_64 rfl rfl (am_ltb rfl) rfl ?_
      refine g_iload_n (n := 66) d_V_open_65 rfl 0 rfl rfl ?_
      refine g_iconst (n := 67) (v := (-1)) d_V_open_66 rfl (by decide) ?_
      refine g_icmp_ne (n := 70) (tgt := 80) d_V_open_67 rfl (by decide) (fun q15 => ?_) (fun q15 => ?_)
      · have hf := ob_neg q15 hf
        refine g_aload_n (n := 81) d_V_open_80 rfl 2 rfl rfl ?_
        refine g_get (n := 84) (q0 := 0) d_V_open_81 rfl (am_fl in_V rfl (by decide : 0 < 8)) (List.mem_cons_of_mem _ tw_173) rfl rfl ?_
        refine g_iload_n (n := 85) d_V_open_84 rfl 0 rfl rfl ?_
        refine g_aload_n (n := 86) d_V_open_85 rfl 2 rfl rfl ?_
        refine g_get (n := 89) (q0 := 0) d_V_open_86 rfl (am_fl in_V rfl (by decide : 3 < 8)) (List.mem_cons_of_mem _ tw_176) rfl rfl ?_
        refine g_iload_n (n := 90) d_V_open_89 rfl 1 rfl rfl ?_
        obtain ⟨r16, h17, hf⟩ := ob_bind hf
        refine c_Vr (n := 93) (st' := [.int r16, .int r13, .ref 1]) [.int r10] [.int r13, .ref 1] d_V_open_90 rfl (s_Folder_addressOf htr h17 rfl) tw_580 tw_581 tw_582 tw_5 tw_583 hd_Folder_addressOf (by omega) (by decide) (ci := 1) rfl rfl rfl (Nat.le_of_ble_eq_true rfl) rfl rfl ?_
        obtain ⟨r18, h19, hf⟩ := ob_bind hf
        refine c_Vr (n := 96) (st' := []) [.int r13, .int r16] [] d_V_open_93 rfl (s_Ses_hold htr h19 rfl) tw_682 tw_683 tw_684 tw_2 tw_685 hd_Ses_hold (by omega) (by decide) (ci := 4) rfl rfl rfl (Nat.le_of_ble_eq_true rfl) rfl rfl ?_
        refine g_iload_n (n := 97) d_V_open_96 rfl 0 rfl rfl ?_
        cases hf
        exact g_iret d_V_open_97 rfl (Nat.zero_le _) (Nat.zero_le _)
      · have hf := ob_pos q15 hf
        cases hf
        exact c_T htr (by decide +kernel) e_UnsupportedOperationException_0 e_UnsupportedOperationException_1 e_UnsupportedOperationException_2 e_UnsupportedOperationException_5 tw_505 tw_14 rfl (List.mem_of_getElem? (i := 9) rfl) at_V_110 d_V_open_70 d_V_open_73 (Or.inl ⟨d_V_open_74, rfl⟩) d_V_open_76 d_V_open_79 (Nat.le_of_ble_eq_true rfl)
    · have hf := ob_pos q12 hf
      cases hf
      exact c_T htr (by decide +kernel) e_NoSuchElementException_0 e_NoSuchElementException_1 e_NoSuchElementException_2 e_NoSuchElementException_5 tw_600 tw_15 rfl (List.mem_of_getElem? (i := 8) rfl) at_V_132 d_V_open_47 d_V_open_50 (Or.inl ⟨d_V_open_51, rfl⟩) d_V_open_53 d_V_open_56 (Nat.le_of_ble_eq_true rfl)
def f_Ses_isOpen (en : Nat → Int32) (x1 : Int32) : Option (Int32) :=
  (if x1 < 0 then some 0 else (if 4 ≤ x1 then some 0 else (if am_in x1 4 = true then (if (en x1.toNatClampNeg) = (-1) then some 0 else some 1) else none)))
set_option maxHeartbeats 4000000 in
set_option maxRecDepth 100000 in
theorem s_Ses_isOpen {l : Launch} {D : va_G} {dA : FieldType → ClassId} (htr : l.stackTraces = false) {rest : List am_E} {ll : Int32} {he : Int32} {de : Int32} {li : Nat → Int32} {en : Nat → Int32} {po : Nat → Int32} {pw : Int32} {su : Int32} {wr : Int32} {cs : Int32} {wb : Int32} {bt : Nat → Int32} {ct : Int32} {lc : Int32} {ad : Nat → Int32} {ctb : Int32} {lcb : Int32} {adb : Nat → Int32} {fx : Int32} {us : Nat → Int32} {ln : Int32} {pt : Int32} {tx : Nat → Int32} {br : Nat → Int32} {rw : Nat → Int32}  {x1 : Int32} {r : Int32} (hf : f_Ses_isOpen en x1 = some r) {o : am_O} (ho : .inl (some (.int r)) = o) :
    am_M (am_kk l D dA) y_Ses_isOpen ws_Ses_isOpen (am_rm 0 o) [.ref 1, .int x1] (hC ll he de li en po pw su wr cs wb bt ct lc ad ctb lcb adb fx us ln pt tx br rw rest) o (hC ll he de li en po pw su wr cs wb bt ct lc ad ctb lcb adb fx us ln pt tx br rw rest) := by
  subst ho
  refine am_body (by decide) rfl (Nat.le_of_ble_eq_true rfl) rfl ?_
  rw [f_Ses_isOpen] at hf
  refine g_iload_n (n := 1) d_Ses_isOpen_0 rfl 1 rfl rfl ?_
  refine g_if_lt (n := 4) (tgt := 23) d_Ses_isOpen_1 rfl (by decide) (fun q1 => ?_) (fun q1 => ?_)
  · have hf := ob_pos q1 hf
    refine g_iconst (n := 24) (v := 0) d_Ses_isOpen_23 rfl (by decide) ?_
    cases hf
    exact g_zret d_Ses_isOpen_24 rfl am_z0 (Nat.zero_le _) (Nat.zero_le _)
  · have hf := ob_neg q1 hf
    refine g_iload_n (n := 5) d_Ses_isOpen_4 rfl 1 rfl rfl ?_
    refine g_iconst (n := 6) (v := 4) d_Ses_isOpen_5 rfl (by decide) ?_
    refine g_icmp_ge (n := 9) (tgt := 23) d_Ses_isOpen_6 rfl (by decide) (fun q2 => ?_) (fun q2 => ?_)
    · have hf := ob_pos q2 hf
      refine g_iconst (n := 24) (v := 0) d_Ses_isOpen_23 rfl (by decide) ?_
      cases hf
      exact g_zret d_Ses_isOpen_24 rfl am_z0 (Nat.zero_le _) (Nat.zero_le _)
    · have hf := ob_neg q2 hf
      refine g_aload_n (n := 10) d_Ses_isOpen_9 rfl 0 rfl rfl ?_
      refine g_get (n := 13) (q0 := 1) d_Ses_isOpen_10 rfl (am_fl in_Ses rfl (by decide : 1 < 6)) (List.mem_cons_of_mem _ tw_38) rfl rfl ?_
      refine g_iload_n (n := 14) d_Ses_isOpen_13 rfl 1 rfl rfl ?_
      obtain ⟨b3, hf⟩ := ob_chk hf
      refine g_iald (n := 15) (q0 := 3) d_Ses_isOpen_14 rfl rfl (am_inl b3) ?_
      refine g_iconst (n := 16) (v := (-1)) d_Ses_isOpen_15 rfl (by decide) ?_
      refine g_icmp_eq (n := 19) (tgt := 23) d_Ses_isOpen_16 rfl (by decide) (fun q4 => ?_) (fun q4 => ?_)
      · have hf := ob_pos q4 hf
        refine g_iconst (n := 24) (v := 0) d_Ses_isOpen_23 rfl (by decide) ?_
        cases hf
        exact g_zret d_Ses_isOpen_24 rfl am_z0 (Nat.zero_le _) (Nat.zero_le _)
      · have hf := ob_neg q4 hf
        refine g_iconst (n := 20) (v := 1) d_Ses_isOpen_19 rfl (by decide) ?_
        refine g_goto (n := 24) d_Ses_isOpen_20 (by decide) ?_
        cases hf
        exact g_zret d_Ses_isOpen_24 rfl am_z1 (Nat.zero_le _) (Nat.zero_le _)
def f_Ses_drop (en : Nat → Int32) (x1 : Int32) : Option ((Nat → Int32)) :=
  (if x1 < 0 then some en else (if 4 ≤ x1 then some en else (if am_in x1 4 = true then some (upd en x1.toNatClampNeg (-1)) else none)))
set_option maxHeartbeats 4000000 in
set_option maxRecDepth 100000 in
theorem s_Ses_drop {l : Launch} {D : va_G} {dA : FieldType → ClassId} (htr : l.stackTraces = false) {rest : List am_E} {ll : Int32} {he : Int32} {de : Int32} {li : Nat → Int32} {en : Nat → Int32} {po : Nat → Int32} {pw : Int32} {su : Int32} {wr : Int32} {cs : Int32} {wb : Int32} {bt : Nat → Int32} {ct : Int32} {lc : Int32} {ad : Nat → Int32} {ctb : Int32} {lcb : Int32} {adb : Nat → Int32} {fx : Int32} {us : Nat → Int32} {ln : Int32} {pt : Int32} {tx : Nat → Int32} {br : Nat → Int32} {rw : Nat → Int32}  {x1 : Int32} {r : (Nat → Int32)} (hf : f_Ses_drop en x1 = some r) {o : am_O} (ho : .inl none = o) :
    am_M (am_kk l D dA) y_Ses_drop ws_Ses_drop (am_rm 0 o) [.ref 1, .int x1] (hC ll he de li en po pw su wr cs wb bt ct lc ad ctb lcb adb fx us ln pt tx br rw rest) o (hC ll he de li r po pw su wr cs wb bt ct lc ad ctb lcb adb fx us ln pt tx br rw rest) := by
  subst ho
  refine am_body (by decide) rfl (Nat.le_of_ble_eq_true rfl) rfl ?_
  rw [f_Ses_drop] at hf
  refine g_iload_n (n := 1) d_Ses_drop_0 rfl 1 rfl rfl ?_
  refine g_if_lt (n := 4) (tgt := 16) d_Ses_drop_1 rfl (by decide) (fun q1 => ?_) (fun q1 => ?_)
  · have hf := ob_pos q1 hf
    cases hf
    exact g_vret d_Ses_drop_16 rfl (Nat.zero_le _) (Nat.zero_le _)
  · have hf := ob_neg q1 hf
    refine g_iload_n (n := 5) d_Ses_drop_4 rfl 1 rfl rfl ?_
    refine g_iconst (n := 6) (v := 4) d_Ses_drop_5 rfl (by decide) ?_
    refine g_icmp_ge (n := 9) (tgt := 16) d_Ses_drop_6 rfl (by decide) (fun q2 => ?_) (fun q2 => ?_)
    · have hf := ob_pos q2 hf
      cases hf
      exact g_vret d_Ses_drop_16 rfl (Nat.zero_le _) (Nat.zero_le _)
    · have hf := ob_neg q2 hf
      refine g_aload_n (n := 10) d_Ses_drop_9 rfl 0 rfl rfl ?_
      refine g_get (n := 13) (q0 := 1) d_Ses_drop_10 rfl (am_fl in_Ses rfl (by decide : 1 < 6)) (List.mem_cons_of_mem _ tw_38) rfl rfl ?_
      refine g_iload_n (n := 14) d_Ses_drop_13 rfl 1 rfl rfl ?_
      refine g_iconst (n := 15) (v := (-1)) d_Ses_drop_14 rfl (by decide) ?_
      obtain ⟨b3, hf⟩ := ob_chk hf
      refine g_iast (n := 16) (q0 := 3) (h' := (hC ll he de li (upd en x1.toNatClampNeg (-1)) po pw su wr cs wb bt ct lc ad ctb lcb adb fx us ln pt tx br rw rest)) d_Ses_drop_15 rfl rfl (am_inl b3) rfl ?_
      cases hf
      exact g_vret d_Ses_drop_16 rfl (Nat.zero_le _) (Nat.zero_le _)
def f_V_close (en : Nat → Int32) (x1 : Int32) : Option (Int32 × (Nat → Int32)) :=
  ((f_Ses_isOpen en x1).bind fun r1 => (if r1 = 0 then some (0, en) else ((f_Ses_drop en x1).bind fun r4 => some (1, r4))))
set_option maxHeartbeats 4000000 in
set_option maxRecDepth 100000 in
theorem s_V_close {l : Launch} {D : va_G} {dA : FieldType → ClassId} (htr : l.stackTraces = false) {rest : List am_E} {ll : Int32} {he : Int32} {de : Int32} {li : Nat → Int32} {en : Nat → Int32} {po : Nat → Int32} {pw : Int32} {su : Int32} {wr : Int32} {cs : Int32} {wb : Int32} {bt : Nat → Int32} {ct : Int32} {lc : Int32} {ad : Nat → Int32} {ctb : Int32} {lcb : Int32} {adb : Nat → Int32} {fx : Int32} {us : Nat → Int32} {ln : Int32} {pt : Int32} {tx : Nat → Int32} {br : Nat → Int32} {rw : Nat → Int32}  {x1 : Int32} {r : Int32 × (Nat → Int32)} (hf : f_V_close en x1 = some r) {o : am_O} (ho : .inl (some (.int r.1)) = o) :
    am_M (am_kk l D dA) y_V_close ws_V_close (am_rm 1 o) [.ref 0, .int x1] (hC ll he de li en po pw su wr cs wb bt ct lc ad ctb lcb adb fx us ln pt tx br rw rest) o (hC ll he de li r.2 po pw su wr cs wb bt ct lc ad ctb lcb adb fx us ln pt tx br rw rest) := by
  subst ho
  refine am_body (by decide) rfl (Nat.le_of_ble_eq_true rfl) rfl ?_
  rw [f_V_close] at hf
  refine g_aload_n (n := 1) d_V_close_0 rfl 0 rfl rfl ?_
  refine g_get (n := 4) (q0 := 0) d_V_close_1 rfl (am_fl in_V rfl (by decide : 0 < 8)) (List.mem_cons_of_mem _ tw_173) rfl rfl ?_
  refine g_iload_n (n := 5) d_V_close_4 rfl 1 rfl rfl ?_
  obtain ⟨r1, h2, hf⟩ := ob_bind hf
  refine c_Vr (n := 8) (st' := [.int r1]) [.int x1] [] d_V_close_5 rfl (s_Ses_isOpen htr h2 rfl) tw_210 tw_211 tw_212 tw_2 tw_213 hd_Ses_isOpen (by omega) (by decide) (ci := 4) rfl rfl rfl (Nat.le_of_ble_eq_true rfl) rfl rfl ?_
  refine g_if_ne (n := 11) (tgt := 13) d_V_close_8 rfl (by decide) (fun q3 => ?_) (fun q3 => ?_)
  · have hf := ob_neg q3 hf
    refine g_aload_n (n := 14) d_V_close_13 rfl 0 rfl rfl ?_
    refine g_get (n := 17) (q0 := 0) d_V_close_14 rfl (am_fl in_V rfl (by decide : 0 < 8)) (List.mem_cons_of_mem _ tw_173) rfl rfl ?_
    refine g_iload_n (n := 18) d_V_close_17 rfl 1 rfl rfl ?_
    obtain ⟨r4, h5, hf⟩ := ob_bind hf
    refine c_Vr (n := 21) (st' := []) [.int x1] [] d_V_close_18 rfl (s_Ses_drop htr h5 rfl) tw_214 tw_215 tw_216 tw_2 tw_217 hd_Ses_drop (by omega) (by decide) (ci := 4) rfl rfl rfl (Nat.le_of_ble_eq_true rfl) rfl rfl ?_
    refine g_iconst (n := 22) (v := 1) d_V_close_21 rfl (by decide) ?_
    cases hf
    exact g_zret d_V_close_22 rfl am_z1 (Nat.zero_le _) (Nat.zero_le _)
  · have hf := ob_pos q3 hf
    refine g_iconst (n := 12) (v := 0) d_V_close_11 rfl (by decide) ?_
    cases hf
    exact g_zret d_V_close_12 rfl am_z0 (Nat.zero_le _) (Nat.zero_le _)
def f_Ses_entryOf (en : Nat → Int32) (x1 : Int32) : Option (Int32) :=
  (if x1 < 0 then some (-1) else (if 4 ≤ x1 then some (-1) else (if am_in x1 4 = true then some (en x1.toNatClampNeg) else none)))
set_option maxHeartbeats 4000000 in
set_option maxRecDepth 100000 in
theorem s_Ses_entryOf {l : Launch} {D : va_G} {dA : FieldType → ClassId} (htr : l.stackTraces = false) {rest : List am_E} {ll : Int32} {he : Int32} {de : Int32} {li : Nat → Int32} {en : Nat → Int32} {po : Nat → Int32} {pw : Int32} {su : Int32} {wr : Int32} {cs : Int32} {wb : Int32} {bt : Nat → Int32} {ct : Int32} {lc : Int32} {ad : Nat → Int32} {ctb : Int32} {lcb : Int32} {adb : Nat → Int32} {fx : Int32} {us : Nat → Int32} {ln : Int32} {pt : Int32} {tx : Nat → Int32} {br : Nat → Int32} {rw : Nat → Int32}  {x1 : Int32} {r : Int32} (hf : f_Ses_entryOf en x1 = some r) {o : am_O} (ho : .inl (some (.int r)) = o) :
    am_M (am_kk l D dA) y_Ses_entryOf ws_Ses_entryOf (am_rm 0 o) [.ref 1, .int x1] (hC ll he de li en po pw su wr cs wb bt ct lc ad ctb lcb adb fx us ln pt tx br rw rest) o (hC ll he de li en po pw su wr cs wb bt ct lc ad ctb lcb adb fx us ln pt tx br rw rest) := by
  subst ho
  refine am_body (by decide) rfl (Nat.le_of_ble_eq_true rfl) rfl ?_
  rw [f_Ses_entryOf] at hf
  refine g_iload_n (n := 1) d_Ses_entryOf_0 rfl 1 rfl rfl ?_
  refine g_if_lt (n := 4) (tgt := 18) d_Ses_entryOf_1 rfl (by decide) (fun q1 => ?_) (fun q1 => ?_)
  · have hf := ob_pos q1 hf
    refine g_iconst (n := 19) (v := (-1)) d_Ses_entryOf_18 rfl (by decide) ?_
    cases hf
    exact g_iret d_Ses_entryOf_19 rfl (Nat.zero_le _) (Nat.zero_le _)
  · have hf := ob_neg q1 hf
    refine g_iload_n (n := 5) d_Ses_entryOf_4 rfl 1 rfl rfl ?_
    refine g_iconst (n := 6) (v := 4) d_Ses_entryOf_5 rfl (by decide) ?_
    refine g_icmp_ge (n := 9) (tgt := 18) d_Ses_entryOf_6 rfl (by decide) (fun q2 => ?_) (fun q2 => ?_)
    · have hf := ob_pos q2 hf
      refine g_iconst (n := 19) (v := (-1)) d_Ses_entryOf_18 rfl (by decide) ?_
      cases hf
      exact g_iret d_Ses_entryOf_19 rfl (Nat.zero_le _) (Nat.zero_le _)
    · have hf := ob_neg q2 hf
      refine g_aload_n (n := 10) d_Ses_entryOf_9 rfl 0 rfl rfl ?_
      refine g_get (n := 13) (q0 := 1) d_Ses_entryOf_10 rfl (am_fl in_Ses rfl (by decide : 1 < 6)) (List.mem_cons_of_mem _ tw_38) rfl rfl ?_
      refine g_iload_n (n := 14) d_Ses_entryOf_13 rfl 1 rfl rfl ?_
      obtain ⟨b3, hf⟩ := ob_chk hf
      refine g_iald (n := 15) (q0 := 3) d_Ses_entryOf_14 rfl rfl (am_inl b3) ?_
      refine g_goto (n := 19) d_Ses_entryOf_15 (by decide) ?_
      cases hf
      exact g_iret d_Ses_entryOf_19 rfl (Nat.zero_le _) (Nat.zero_le _)
def f_V_sizeOfFile (en : Nat → Int32) (bt : Nat → Int32) (x1 : Int32) : Option (Int32) :=
  ((f_Ses_entryOf en x1).bind fun r1 => ((f_Disk_pairAt bt (r1 + 10)).bind fun r3 => some r3))
set_option maxHeartbeats 4000000 in
set_option maxRecDepth 100000 in
theorem s_V_sizeOfFile {l : Launch} {D : va_G} {dA : FieldType → ClassId} (htr : l.stackTraces = false) {rest : List am_E} {ll : Int32} {he : Int32} {de : Int32} {li : Nat → Int32} {en : Nat → Int32} {po : Nat → Int32} {pw : Int32} {su : Int32} {wr : Int32} {cs : Int32} {wb : Int32} {bt : Nat → Int32} {ct : Int32} {lc : Int32} {ad : Nat → Int32} {ctb : Int32} {lcb : Int32} {adb : Nat → Int32} {fx : Int32} {us : Nat → Int32} {ln : Int32} {pt : Int32} {tx : Nat → Int32} {br : Nat → Int32} {rw : Nat → Int32}  {x1 : Int32} {r : Int32} (hf : f_V_sizeOfFile en bt x1 = some r) {o : am_O} (ho : .inl (some (.int r)) = o) :
    am_M (am_kk l D dA) y_V_sizeOfFile ws_V_sizeOfFile (am_rm 1 o) [.ref 0, .int x1] (hC ll he de li en po pw su wr cs wb bt ct lc ad ctb lcb adb fx us ln pt tx br rw rest) o (hC ll he de li en po pw su wr cs wb bt ct lc ad ctb lcb adb fx us ln pt tx br rw rest) := by
  subst ho
  refine am_body (by decide) rfl (Nat.le_of_ble_eq_true rfl) rfl ?_
  rw [f_V_sizeOfFile] at hf
  refine g_aload_n (n := 1) d_V_sizeOfFile_0 rfl 0 rfl rfl ?_
  refine g_get (n := 4) (q0 := 0) d_V_sizeOfFile_1 rfl (am_fl in_V rfl (by decide : 1 < 8)) (List.mem_cons_of_mem _ tw_174) rfl rfl ?_
  refine g_aload_n (n := 5) d_V_sizeOfFile_4 rfl 0 rfl rfl ?_
  refine g_get (n := 8) (q0 := 0) d_V_sizeOfFile_5 rfl (am_fl in_V rfl (by decide : 0 < 8)) (List.mem_cons_of_mem _ tw_173) rfl rfl ?_
  refine g_iload_n (n := 9) d_V_sizeOfFile_8 rfl 1 rfl rfl ?_
  obtain ⟨r1, h2, hf⟩ := ob_bind hf
  refine c_Vr (n := 12) (st' := [.int r1, .ref 5]) [.int x1] [.ref 5] d_V_sizeOfFile_9 rfl (s_Ses_entryOf htr h2 rfl) tw_226 tw_227 tw_228 tw_2 tw_229 hd_Ses_entryOf (by omega) (by decide) (ci := 4) rfl rfl rfl (Nat.le_of_ble_eq_true rfl) rfl rfl ?_
  refine g_bipush (n := 14) (v := 10) d_V_sizeOfFile_12 rfl (by decide) ?_
  refine g_iadd (n := 15) d_V_sizeOfFile_14 rfl ?_
  obtain ⟨r3, h4, hf⟩ := ob_bind hf
  refine c_Vr (n := 18) (st' := [.int r3]) [.int (r1 + 10)] [] d_V_sizeOfFile_15 rfl (s_Disk_pairAt htr h4 rfl) tw_230 tw_231 tw_232 tw_3 tw_233 hd_Disk_pairAt (by omega) (by decide) (ci := 0) rfl rfl rfl (Nat.le_of_ble_eq_true rfl) rfl rfl ?_
  cases hf
  exact g_iret d_V_sizeOfFile_18 rfl (Nat.zero_le _) (Nat.zero_le _)
def f_Ses_moveTo (po : Nat → Int32) (x1 : Int32) (x2 : Int32) : Option ((Nat → Int32)) :=
  (if x1 < 0 then some po else (if 4 ≤ x1 then some po else (if am_in x1 4 = true then some (upd po x1.toNatClampNeg x2) else none)))
set_option maxHeartbeats 4000000 in
set_option maxRecDepth 100000 in
theorem s_Ses_moveTo {l : Launch} {D : va_G} {dA : FieldType → ClassId} (htr : l.stackTraces = false) {rest : List am_E} {ll : Int32} {he : Int32} {de : Int32} {li : Nat → Int32} {en : Nat → Int32} {po : Nat → Int32} {pw : Int32} {su : Int32} {wr : Int32} {cs : Int32} {wb : Int32} {bt : Nat → Int32} {ct : Int32} {lc : Int32} {ad : Nat → Int32} {ctb : Int32} {lcb : Int32} {adb : Nat → Int32} {fx : Int32} {us : Nat → Int32} {ln : Int32} {pt : Int32} {tx : Nat → Int32} {br : Nat → Int32} {rw : Nat → Int32}  {x1 : Int32} {x2 : Int32} {r : (Nat → Int32)} (hf : f_Ses_moveTo po x1 x2 = some r) {o : am_O} (ho : .inl none = o) :
    am_M (am_kk l D dA) y_Ses_moveTo ws_Ses_moveTo (am_rm 0 o) [.ref 1, .int x1, .int x2] (hC ll he de li en po pw su wr cs wb bt ct lc ad ctb lcb adb fx us ln pt tx br rw rest) o (hC ll he de li en r pw su wr cs wb bt ct lc ad ctb lcb adb fx us ln pt tx br rw rest) := by
  subst ho
  refine am_body (by decide) rfl (Nat.le_of_ble_eq_true rfl) rfl ?_
  rw [f_Ses_moveTo] at hf
  refine g_iload_n (n := 1) d_Ses_moveTo_0 rfl 1 rfl rfl ?_
  refine g_if_lt (n := 4) (tgt := 16) d_Ses_moveTo_1 rfl (by decide) (fun q1 => ?_) (fun q1 => ?_)
  · have hf := ob_pos q1 hf
    cases hf
    exact g_vret d_Ses_moveTo_16 rfl (Nat.zero_le _) (Nat.zero_le _)
  · have hf := ob_neg q1 hf
    refine g_iload_n (n := 5) d_Ses_moveTo_4 rfl 1 rfl rfl ?_
    refine g_iconst (n := 6) (v := 4) d_Ses_moveTo_5 rfl (by decide) ?_
    refine g_icmp_ge (n := 9) (tgt := 16) d_Ses_moveTo_6 rfl (by decide) (fun q2 => ?_) (fun q2 => ?_)
    · have hf := ob_pos q2 hf
      cases hf
      exact g_vret d_Ses_moveTo_16 rfl (Nat.zero_le _) (Nat.zero_le _)
    · have hf := ob_neg q2 hf
      refine g_aload_n (n := 10) d_Ses_moveTo_9 rfl 0 rfl rfl ?_
      refine g_get (n := 13) (q0 := 1) d_Ses_moveTo_10 rfl (am_fl in_Ses rfl (by decide : 2 < 6)) (List.mem_cons_of_mem _ tw_39) rfl rfl ?_
      refine g_iload_n (n := 14) d_Ses_moveTo_13 rfl 1 rfl rfl ?_
      refine g_iload_n (n := 15) d_Ses_moveTo_14 rfl 2 rfl rfl ?_
      obtain ⟨b3, hf⟩ := ob_chk hf
      refine g_iast (n := 16) (q0 := 4) (h' := (hC ll he de li en (upd po x1.toNatClampNeg x2) pw su wr cs wb bt ct lc ad ctb lcb adb fx us ln pt tx br rw rest)) d_Ses_moveTo_15 rfl rfl (am_inl b3) rfl ?_
      cases hf
      exact g_vret d_Ses_moveTo_16 rfl (Nat.zero_le _) (Nat.zero_le _)
def f_V_seek (en : Nat → Int32) (po : Nat → Int32) (bt : Nat → Int32) (x1 : Int32) (x2 : Int32) : Option (Int32 × (Nat → Int32)) :=
  ((f_Ses_isOpen en x1).bind fun r1 => (if r1 = 0 then some (0, po) else (if x2 < 0 then some (0, po) else ((f_V_sizeOfFile en bt x1).bind fun r5 => (if x2 ≤ r5 then ((f_Ses_moveTo po x1 x2).bind fun r8 => some (1, r8)) else some (0, po))))))
set_option maxHeartbeats 4000000 in
set_option maxRecDepth 100000 in
theorem s_V_seek {l : Launch} {D : va_G} {dA : FieldType → ClassId} (htr : l.stackTraces = false) {rest : List am_E} {ll : Int32} {he : Int32} {de : Int32} {li : Nat → Int32} {en : Nat → Int32} {po : Nat → Int32} {pw : Int32} {su : Int32} {wr : Int32} {cs : Int32} {wb : Int32} {bt : Nat → Int32} {ct : Int32} {lc : Int32} {ad : Nat → Int32} {ctb : Int32} {lcb : Int32} {adb : Nat → Int32} {fx : Int32} {us : Nat → Int32} {ln : Int32} {pt : Int32} {tx : Nat → Int32} {br : Nat → Int32} {rw : Nat → Int32}  {x1 : Int32} {x2 : Int32} {r : Int32 × (Nat → Int32)} (hf : f_V_seek en po bt x1 x2 = some r) {o : am_O} (ho : .inl (some (.int r.1)) = o) :
    am_M (am_kk l D dA) y_V_seek ws_V_seek (am_rm 2 o) [.ref 0, .int x1, .int x2] (hC ll he de li en po pw su wr cs wb bt ct lc ad ctb lcb adb fx us ln pt tx br rw rest) o (hC ll he de li en r.2 pw su wr cs wb bt ct lc ad ctb lcb adb fx us ln pt tx br rw rest) := by
  subst ho
  refine am_body (by decide) rfl (Nat.le_of_ble_eq_true rfl) rfl ?_
  rw [f_V_seek] at hf
  refine g_aload_n (n := 1) d_V_seek_0 rfl 0 rfl rfl ?_
  refine g_get (n := 4) (q0 := 0) d_V_seek_1 rfl (am_fl in_V rfl (by decide : 0 < 8)) (List.mem_cons_of_mem _ tw_173) rfl rfl ?_
  refine g_iload_n (n := 5) d_V_seek_4 rfl 1 rfl rfl ?_
  obtain ⟨r1, h2, hf⟩ := ob_bind hf
  refine c_Vr (n := 8) (st' := [.int r1]) [.int x1] [] d_V_seek_5 rfl (s_Ses_isOpen htr h2 rfl) tw_210 tw_211 tw_212 tw_2 tw_213 hd_Ses_isOpen (by omega) (by decide) (ci := 4) rfl rfl rfl (Nat.le_of_ble_eq_true rfl) rfl rfl ?_
  refine g_if_eq (n := 11) (tgt := 24) d_V_seek_8 rfl (by decide) (fun q3 => ?_) (fun q3 => ?_)
  · have hf := ob_pos q3 hf
    refine g_iconst (n := 25) (v := 0) d_V_seek_24 rfl (by decide) ?_
    cases hf
    exact g_zret d_V_seek_25 rfl am_z0 (Nat.zero_le _) (Nat.zero_le _)
  · have hf := ob_neg q3 hf
    refine g_iload_n (n := 12) d_V_seek_11 rfl 2 rfl rfl ?_
    refine g_if_lt (n := 15) (tgt := 24) d_V_seek_12 rfl (by decide) (fun q4 => ?_) (fun q4 => ?_)
    · have hf := ob_pos q4 hf
      refine g_iconst (n := 25) (v := 0) d_V_seek_24 rfl (by decide) ?_
      cases hf
      exact g_zret d_V_seek_25 rfl am_z0 (Nat.zero_le _) (Nat.zero_le _)
    · have hf := ob_neg q4 hf
      refine g_iload_n (n := 16) d_V_seek_15 rfl 2 rfl rfl ?_
      refine g_aload_n (n := 17) d_V_seek_16 rfl 0 rfl rfl ?_
      refine g_iload_n (n := 18) d_V_seek_17 rfl 1 rfl rfl ?_
      obtain ⟨r5, h6, hf⟩ := ob_bind hf
      refine c_Vr (n := 21) (st' := [.int r5, .int x2]) [.int x1] [.int x2] d_V_seek_18 rfl (s_V_sizeOfFile htr h6 rfl) tw_222 tw_224 (am_memS 0 (by decide +kernel) (by decide +kernel)) tw_1 tw_225 hd_V_sizeOfFile (by omega) (by decide) (ci := 6) rfl rfl rfl (Nat.le_of_ble_eq_true rfl) rfl rfl ?_
      refine g_icmp_le (n := 24) (tgt := 26) d_V_seek_21 rfl (by decide) (fun q7 => ?_) (fun q7 => ?_)
      · have hf := ob_pos q7 hf
        refine g_aload_n (n := 27) d_V_seek_26 rfl 0 rfl rfl ?_
        refine g_get (n := 30) (q0 := 0) d_V_seek_27 rfl (am_fl in_V rfl (by decide : 0 < 8)) (List.mem_cons_of_mem _ tw_173) rfl rfl ?_
        refine g_iload_n (n := 31) d_V_seek_30 rfl 1 rfl rfl ?_
        refine g_iload_n (n := 32) d_V_seek_31 rfl 2 rfl rfl ?_
        obtain ⟨r8, h9, hf⟩ := ob_bind hf
        refine c_Vr (n := 35) (st' := []) [.int x1, .int x2] [] d_V_seek_32 rfl (s_Ses_moveTo htr h9 rfl) tw_234 tw_235 tw_236 tw_2 tw_237 hd_Ses_moveTo (by omega) (by decide) (ci := 4) rfl rfl rfl (Nat.le_of_ble_eq_true rfl) rfl rfl ?_
        refine g_iconst (n := 36) (v := 1) d_V_seek_35 rfl (by decide) ?_
        cases hf
        exact g_zret d_V_seek_36 rfl am_z1 (Nat.zero_le _) (Nat.zero_le _)
      · have hf := ob_neg q7 hf
        refine g_iconst (n := 25) (v := 0) d_V_seek_24 rfl (by decide) ?_
        cases hf
        exact g_zret d_V_seek_25 rfl am_z0 (Nat.zero_le _) (Nat.zero_le _)
def f_Ses_positionOf (po : Nat → Int32) (x1 : Int32) : Option (Int32) :=
  (if x1 < 0 then some 0 else (if 4 ≤ x1 then some 0 else (if am_in x1 4 = true then some (po x1.toNatClampNeg) else none)))
set_option maxHeartbeats 4000000 in
set_option maxRecDepth 100000 in
theorem s_Ses_positionOf {l : Launch} {D : va_G} {dA : FieldType → ClassId} (htr : l.stackTraces = false) {rest : List am_E} {ll : Int32} {he : Int32} {de : Int32} {li : Nat → Int32} {en : Nat → Int32} {po : Nat → Int32} {pw : Int32} {su : Int32} {wr : Int32} {cs : Int32} {wb : Int32} {bt : Nat → Int32} {ct : Int32} {lc : Int32} {ad : Nat → Int32} {ctb : Int32} {lcb : Int32} {adb : Nat → Int32} {fx : Int32} {us : Nat → Int32} {ln : Int32} {pt : Int32} {tx : Nat → Int32} {br : Nat → Int32} {rw : Nat → Int32}  {x1 : Int32} {r : Int32} (hf : f_Ses_positionOf po x1 = some r) {o : am_O} (ho : .inl (some (.int r)) = o) :
    am_M (am_kk l D dA) y_Ses_positionOf ws_Ses_positionOf (am_rm 0 o) [.ref 1, .int x1] (hC ll he de li en po pw su wr cs wb bt ct lc ad ctb lcb adb fx us ln pt tx br rw rest) o (hC ll he de li en po pw su wr cs wb bt ct lc ad ctb lcb adb fx us ln pt tx br rw rest) := by
  subst ho
  refine am_body (by decide) rfl (Nat.le_of_ble_eq_true rfl) rfl ?_
  rw [f_Ses_positionOf] at hf
  refine g_iload_n (n := 1) d_Ses_positionOf_0 rfl 1 rfl rfl ?_
  refine g_if_lt (n := 4) (tgt := 18) d_Ses_positionOf_1 rfl (by decide) (fun q1 => ?_) (fun q1 => ?_)
  · have hf := ob_pos q1 hf
    refine g_iconst (n := 19) (v := 0) d_Ses_positionOf_18 rfl (by decide) ?_
    cases hf
    exact g_iret d_Ses_positionOf_19 rfl (Nat.zero_le _) (Nat.zero_le _)
  · have hf := ob_neg q1 hf
    refine g_iload_n (n := 5) d_Ses_positionOf_4 rfl 1 rfl rfl ?_
    refine g_iconst (n := 6) (v := 4) d_Ses_positionOf_5 rfl (by decide) ?_
    refine g_icmp_ge (n := 9) (tgt := 18) d_Ses_positionOf_6 rfl (by decide) (fun q2 => ?_) (fun q2 => ?_)
    · have hf := ob_pos q2 hf
      refine g_iconst (n := 19) (v := 0) d_Ses_positionOf_18 rfl (by decide) ?_
      cases hf
      exact g_iret d_Ses_positionOf_19 rfl (Nat.zero_le _) (Nat.zero_le _)
    · have hf := ob_neg q2 hf
      refine g_aload_n (n := 10) d_Ses_positionOf_9 rfl 0 rfl rfl ?_
      refine g_get (n := 13) (q0 := 1) d_Ses_positionOf_10 rfl (am_fl in_Ses rfl (by decide : 2 < 6)) (List.mem_cons_of_mem _ tw_39) rfl rfl ?_
      refine g_iload_n (n := 14) d_Ses_positionOf_13 rfl 1 rfl rfl ?_
      obtain ⟨b3, hf⟩ := ob_chk hf
      refine g_iald (n := 15) (q0 := 4) d_Ses_positionOf_14 rfl rfl (am_inl b3) ?_
      refine g_goto (n := 19) d_Ses_positionOf_15 (by decide) ?_
      cases hf
      exact g_iret d_Ses_positionOf_19 rfl (Nat.zero_le _) (Nat.zero_le _)
end
section
def f_Table_clusterAt_L5 : Nat → (Nat → Int32) → Int32 → Int32 → Int32 → Option (Int32)
  | 0, _, _, _, _ => none
  | fuel + 1, bt, x2, x3, x4 =>
  (if x2 ≤ x4 then ((f_V_isCluster x3).bind fun r2 => (if r2 = 0 then some 0 else some x3)) else (if 64 ≤ x4 then ((f_V_isCluster x3).bind fun r6 => (if r6 = 0 then some 0 else some x3)) else ((f_V_isCluster x3).bind fun r9 => (if r9 = 0 then ((f_V_isCluster x3).bind fun r12 => (if r12 = 0 then some 0 else some x3)) else ((f_Table_cell bt x3).bind fun r15 => f_Table_clusterAt_L5 fuel bt x2 r15 (x4 + 1))))))
set_option maxHeartbeats 4000000 in
set_option maxRecDepth 100000 in
theorem s_Table_clusterAt_L5 {l : Launch} {D : va_G} {dA : FieldType → ClassId} (htr : l.stackTraces = false) {rest : List am_E} {ll : Int32} {he : Int32} {de : Int32} {li : Nat → Int32} {en : Nat → Int32} {po : Nat → Int32} {pw : Int32} {su : Int32} {wr : Int32} {cs : Int32} {wb : Int32} {ct : Int32} {lc : Int32} {ad : Nat → Int32} {ctb : Int32} {lcb : Int32} {adb : Nat → Int32} {fx : Int32} {us : Nat → Int32} {ln : Int32} {pt : Int32} {tx : Nat → Int32} {br : Nat → Int32} {rw : Nat → Int32}  : ∀ (fuel : Nat) (bt : Nat → Int32) (x2 : Int32) (x3 : Int32) (x4 : Int32) (r : Int32), f_Table_clusterAt_L5 fuel bt x2 x3 x4 = some r → ∀ o : am_O, .inl (some (.int r)) = o →
    am_G (am_kk l D dA) (ws_Table_clusterAt, y_Table_clusterAt.cls, prog_7_method_12_code, 5, (some .int), y_Table_clusterAt.name, [], am_rm 2 (o), none) o (hC ll he de li en po pw su wr cs wb bt ct lc ad ctb lcb adb fx us ln pt tx br rw rest) 0 0 5 [(0, .ref 7), (2, .int x2), (3, .int x3), (4, .int x4)] [] (hC ll he de li en po pw su wr cs wb bt ct lc ad ctb lcb adb fx us ln pt tx br rw rest) := by
  intro fuel
  induction fuel with
  | zero =>
    intro bt x2 x3 x4 r hf
    cases hf
  | succ fuel ih =>
    intro bt x2 x3 x4 r hf o ho
    subst ho
    rw [f_Table_clusterAt_L5] at hf
    refine g_iload (n := 7) d_Table_clusterAt_5 rfl 3 rfl ?_
    refine g_iload_n (n := 8) d_Table_clusterAt_7 rfl 1 rfl rfl ?_
    refine g_icmp_ge (n := 11) (tgt := 37) d_Table_clusterAt_8 rfl (by decide) (fun q1 => ?_) (fun q1 => ?_)
    · have hf := ob_pos q1 hf
      refine g_iload_n (n := 38) d_Table_clusterAt_37 rfl 2 rfl rfl ?_
      obtain ⟨r2, h3, hf⟩ := ob_bind hf
      refine c_SNr (n := 41) (st' := [.int r2]) [.int x3] [] d_Table_clusterAt_38 rfl (s_V_isCluster htr h3 rfl) nw_652 tw_412 tw_1 tw_413 hd_V_isCluster (by omega) (by decide) rfl (Nat.le_of_ble_eq_true rfl) rfl rfl ?_
      refine g_if_eq (n := 44) (tgt := 48) d_Table_clusterAt_41 rfl (by decide) (fun q4 => ?_) (fun q4 => ?_)
      · have hf := ob_pos q4 hf
        refine g_iconst (n := 49) (v := 0) d_Table_clusterAt_48 rfl (by decide) ?_
        cases hf
        exact g_iret d_Table_clusterAt_49 rfl (Nat.zero_le _) (Nat.zero_le _)
      · have hf := ob_neg q4 hf
        refine g_iload_n (n := 45) d_Table_clusterAt_44 rfl 2 rfl rfl ?_
        refine g_goto (n := 49) d_Table_clusterAt_45 (by decide) ?_
        cases hf
        exact g_iret d_Table_clusterAt_49 rfl (Nat.zero_le _) (Nat.zero_le _)
    · have hf := ob_neg q1 hf
      refine g_iload (n := 13) d_Table_clusterAt_11 rfl 3 rfl ?_
      refine g_bipush (n := 15) (v := 64) d_Table_clusterAt_13 rfl (by decide) ?_
      refine g_icmp_ge (n := 18) (tgt := 37) d_Table_clusterAt_15 rfl (by decide) (fun q5 => ?_) (fun q5 => ?_)
      · have hf := ob_pos q5 hf
        refine g_iload_n (n := 38) d_Table_clusterAt_37 rfl 2 rfl rfl ?_
        obtain ⟨r6, h7, hf⟩ := ob_bind hf
        refine c_SNr (n := 41) (st' := [.int r6]) [.int x3] [] d_Table_clusterAt_38 rfl (s_V_isCluster htr h7 rfl) nw_652 tw_412 tw_1 tw_413 hd_V_isCluster (by omega) (by decide) rfl (Nat.le_of_ble_eq_true rfl) rfl rfl ?_
        refine g_if_eq (n := 44) (tgt := 48) d_Table_clusterAt_41 rfl (by decide) (fun q8 => ?_) (fun q8 => ?_)
        · have hf := ob_pos q8 hf
          refine g_iconst (n := 49) (v := 0) d_Table_clusterAt_48 rfl (by decide) ?_
          cases hf
          exact g_iret d_Table_clusterAt_49 rfl (Nat.zero_le _) (Nat.zero_le _)
        · have hf := ob_neg q8 hf
          refine g_iload_n (n := 45) d_Table_clusterAt_44 rfl 2 rfl rfl ?_
          refine g_goto (n := 49) d_Table_clusterAt_45 (by decide) ?_
          cases hf
          exact g_iret d_Table_clusterAt_49 rfl (Nat.zero_le _) (Nat.zero_le _)
      · have hf := ob_neg q5 hf
        refine g_iload_n (n := 19) d_Table_clusterAt_18 rfl 2 rfl rfl ?_
        obtain ⟨r9, h10, hf⟩ := ob_bind hf
        refine c_SNr (n := 22) (st' := [.int r9]) [.int x3] [] d_Table_clusterAt_19 rfl (s_V_isCluster htr h10 rfl) nw_652 tw_412 tw_1 tw_413 hd_V_isCluster (by omega) (by decide) rfl (Nat.le_of_ble_eq_true rfl) rfl rfl ?_
        refine g_if_eq (n := 25) (tgt := 37) d_Table_clusterAt_22 rfl (by decide) (fun q11 => ?_) (fun q11 => ?_)
        · have hf := ob_pos q11 hf
          refine g_iload_n (n := 38) d_Table_clusterAt_37 rfl 2 rfl rfl ?_
          obtain ⟨r12, h13, hf⟩ := ob_bind hf
          refine c_SNr (n := 41) (st' := [.int r12]) [.int x3] [] d_Table_clusterAt_38 rfl (s_V_isCluster htr h13 rfl) nw_652 tw_412 tw_1 tw_413 hd_V_isCluster (by omega) (by decide) rfl (Nat.le_of_ble_eq_true rfl) rfl rfl ?_
          refine g_if_eq (n := 44) (tgt := 48) d_Table_clusterAt_41 rfl (by decide) (fun q14 => ?_) (fun q14 => ?_)
          · have hf := ob_pos q14 hf
            refine g_iconst (n := 49) (v := 0) d_Table_clusterAt_48 rfl (by decide) ?_
            cases hf
            exact g_iret d_Table_clusterAt_49 rfl (Nat.zero_le _) (Nat.zero_le _)
          · have hf := ob_neg q14 hf
            refine g_iload_n (n := 45) d_Table_clusterAt_44 rfl 2 rfl rfl ?_
            refine g_goto (n := 49) d_Table_clusterAt_45 (by decide) ?_
            cases hf
            exact g_iret d_Table_clusterAt_49 rfl (Nat.zero_le _) (Nat.zero_le _)
        · have hf := ob_neg q11 hf
          refine g_aload_n (n := 26) d_Table_clusterAt_25 rfl 0 rfl rfl ?_
          refine g_iload_n (n := 27) d_Table_clusterAt_26 rfl 2 rfl rfl ?_
          obtain ⟨r15, h16, hf⟩ := ob_bind hf
          refine c_Vr (n := 30) (st' := [.int r15]) [.int x3] [] d_Table_clusterAt_27 rfl (s_Table_cell htr h16 rfl) tw_286 tw_287 tw_288 tw_4 tw_289 hd_Table_cell (by omega) (by decide) (ci := 5) rfl rfl rfl (Nat.le_of_ble_eq_true rfl) rfl rfl ?_
          refine g_istore_n (n := 31) (ls' := [(3, .int r15), (0, .ref 7), (2, .int x2), (4, .int x4)]) d_Table_clusterAt_30 rfl rfl (am_ltb rfl) rfl ?_
          refine g_iinc (n := 34) (v := (x4 + 1)) (ls' := [(4, .int (x4 + 1)), (3, .int r15), (0, .ref 7), (2, .int x2)]) d_Table_clusterAt_31 rfl 3 rfl rfl (am_ltb rfl) rfl ?_
          refine g_goto (n := 5) d_Table_clusterAt_34 (by decide) ?_
          refine g_ls [2, 3, 1, 0] rfl ?_
          exact ih bt x2 r15 (x4 + 1) _ hf _ rfl
def f_Table_clusterAt (bt : Nat → Int32) (x1 : Int32) (x2 : Int32) : Option (Int32) :=
  f_Table_clusterAt_L5 3000 bt x2 x1 0
set_option maxHeartbeats 4000000 in
set_option maxRecDepth 100000 in
theorem s_Table_clusterAt {l : Launch} {D : va_G} {dA : FieldType → ClassId} (htr : l.stackTraces = false) {rest : List am_E} {ll : Int32} {he : Int32} {de : Int32} {li : Nat → Int32} {en : Nat → Int32} {po : Nat → Int32} {pw : Int32} {su : Int32} {wr : Int32} {cs : Int32} {wb : Int32} {bt : Nat → Int32} {ct : Int32} {lc : Int32} {ad : Nat → Int32} {ctb : Int32} {lcb : Int32} {adb : Nat → Int32} {fx : Int32} {us : Nat → Int32} {ln : Int32} {pt : Int32} {tx : Nat → Int32} {br : Nat → Int32} {rw : Nat → Int32}  {x1 : Int32} {x2 : Int32} {r : Int32} (hf : f_Table_clusterAt bt x1 x2 = some r) {o : am_O} (ho : .inl (some (.int r)) = o) :
    am_M (am_kk l D dA) y_Table_clusterAt ws_Table_clusterAt (am_rm 2 o) [.ref 7, .int x1, .int x2] (hC ll he de li en po pw su wr cs wb bt ct lc ad ctb lcb adb fx us ln pt tx br rw rest) o (hC ll he de li en po pw su wr cs wb bt ct lc ad ctb lcb adb fx us ln pt tx br rw rest) := by
  subst ho
  refine am_body (by decide) rfl (Nat.le_of_ble_eq_true rfl) rfl ?_
  rw [f_Table_clusterAt] at hf
  refine g_iload_n (n := 1) d_Table_clusterAt_0 rfl 1 rfl rfl ?_
  refine g_istore_n (n := 2) (ls' := [(3, .int x1), (0, .ref 7), (1, .int x1), (2, .int x2)]) d_Table_clusterAt_1 rfl rfl (am_ltb rfl) rfl ?_
  refine g_iconst (n := 3) (v := 0) d_Table_clusterAt_2 rfl (by decide) ?_
  refine g_istore (n := 5) (ls' := [(4, .int 0), (3, .int x1), (0, .ref 7), (1, .int x1), (2, .int x2)]) d_Table_clusterAt_3 rfl (am_ltb rfl) rfl ?_
  refine g_ls [2, 4, 1, 0] rfl ?_
  exact s_Table_clusterAt_L5 htr 3000 bt x2 x1 0 _ hf _ rfl
def f_V_addressInChain (bt : Nat → Int32) (x1 : Int32) (x2 : Int32) : Option (Int32) :=
  ((f_Table_clusterAt bt x1 (x2 / 32)).bind fun r1 => ((f_V_sectorOf r1).bind fun r3 => some ((r3 * 32) + (x2 - x2 / 32 * 32))))
set_option maxHeartbeats 4000000 in
set_option maxRecDepth 100000 in
theorem s_V_addressInChain {l : Launch} {D : va_G} {dA : FieldType → ClassId} (htr : l.stackTraces = false) {rest : List am_E} {ll : Int32} {he : Int32} {de : Int32} {li : Nat → Int32} {en : Nat → Int32} {po : Nat → Int32} {pw : Int32} {su : Int32} {wr : Int32} {cs : Int32} {wb : Int32} {bt : Nat → Int32} {ct : Int32} {lc : Int32} {ad : Nat → Int32} {ctb : Int32} {lcb : Int32} {adb : Nat → Int32} {fx : Int32} {us : Nat → Int32} {ln : Int32} {pt : Int32} {tx : Nat → Int32} {br : Nat → Int32} {rw : Nat → Int32}  {x1 : Int32} {x2 : Int32} {r : Int32} (hf : f_V_addressInChain bt x1 x2 = some r) {o : am_O} (ho : .inl (some (.int r)) = o) :
    am_M (am_kk l D dA) y_V_addressInChain ws_V_addressInChain (am_rm 3 o) [.ref 0, .int x1, .int x2] (hC ll he de li en po pw su wr cs wb bt ct lc ad ctb lcb adb fx us ln pt tx br rw rest) o (hC ll he de li en po pw su wr cs wb bt ct lc ad ctb lcb adb fx us ln pt tx br rw rest) := by
  subst ho
  refine am_body (by decide) rfl (Nat.le_of_ble_eq_true rfl) rfl ?_
  rw [f_V_addressInChain] at hf
  refine g_aload_n (n := 1) d_V_addressInChain_0 rfl 0 rfl rfl ?_
  refine g_get (n := 4) (q0 := 0) d_V_addressInChain_1 rfl (am_fl in_V rfl (by decide : 2 < 8)) (List.mem_cons_of_mem _ tw_175) rfl rfl ?_
  refine g_iload_n (n := 5) d_V_addressInChain_4 rfl 1 rfl rfl ?_
  refine g_iload_n (n := 6) d_V_addressInChain_5 rfl 2 rfl rfl ?_
  refine g_bipush (n := 8) (v := 32) d_V_addressInChain_6 rfl (by decide) ?_
  refine g_idiv (n := 9) d_V_addressInChain_8 rfl (by decide) ?_
  obtain ⟨r1, h2, hf⟩ := ob_bind hf
  refine c_Vr (n := 12) (st' := [.int r1]) [.int x1, .int (x2 / 32)] [] d_V_addressInChain_9 rfl (s_Table_clusterAt htr h2 rfl) tw_701 tw_702 tw_703 tw_4 tw_704 hd_Table_clusterAt (by omega) (by decide) (ci := 5) rfl rfl rfl (Nat.le_of_ble_eq_true rfl) rfl rfl ?_
  refine g_istore_n (n := 13) (ls' := [(3, .int r1), (0, .ref 0), (1, .int x1), (2, .int x2)]) d_V_addressInChain_12 rfl rfl (am_ltb rfl) rfl ?_
  refine g_iload_n (n := 14) d_V_addressInChain_13 rfl 0 rfl rfl ?_
  obtain ⟨r3, h4, hf⟩ := ob_bind hf
  refine c_Sr (n := 17) (st' := [.int r3]) [.int r1] [] d_V_addressInChain_14 rfl (s_V_sectorOf htr h4 rfl) tw_705 tw_415 tw_1 tw_416 rfl hd_V_sectorOf (by omega) (by decide) rfl (Nat.le_of_ble_eq_true rfl) rfl rfl ?_
  refine g_bipush (n := 19) (v := 32) d_V_addressInChain_17 rfl (by decide) ?_
  refine g_imul (n := 20) d_V_addressInChain_19 rfl ?_
  refine g_iload_n (n := 21) d_V_addressInChain_20 rfl 3 rfl rfl ?_
  refine g_bipush (n := 23) (v := 32) d_V_addressInChain_21 rfl (by decide) ?_
  refine g_irem (n := 24) d_V_addressInChain_23 rfl (by decide) ?_
  refine g_iadd (n := 25) d_V_addressInChain_24 rfl ?_
  cases hf
  exact g_iret d_V_addressInChain_25 rfl (Nat.zero_le _) (Nat.zero_le _)
def f_V_read_L84 : Nat → (Nat → Int32) → (Nat → Int32) → Int32 → Int32 → (Nat → Int32) → Int32 → Int32 → Int32 → Int32 → Int64 → Int32 → Option ((String ⊕ Int64) × (Nat → Int32))
  | 0, _, _, _, _, _, _, _, _, _, _, _ => none
  | fuel + 1, en, po, pw, su, bt, x1, x3, x4, x5, x6, x8 =>
  (if x5 ≤ x8 then ((f_Ses_moveTo po x1 (x3 + x5)).bind fun r20 => some (.inr (x6 ||| (x5.toInt64 <<< ((56 : Int32).toInt64 &&& 63))), r20)) else ((f_V_addressInChain bt x4 (x3 + x8)).bind fun r22 => ((f_Disk_at bt r22).bind fun r24 => f_V_read_L84 fuel en po pw su bt x1 x3 x4 x5 ((x6 <<< ((8 : Int32).toInt64 &&& 63)) ||| r24.toInt64) (x8 + 1))))
set_option maxHeartbeats 4000000 in
set_option maxRecDepth 100000 in
theorem s_V_read_L84 {l : Launch} {D : va_G} {dA : FieldType → ClassId} (htr : l.stackTraces = false) {rest : List am_E} {ll : Int32} {he : Int32} {de : Int32} {li : Nat → Int32} {wr : Int32} {cs : Int32} {wb : Int32} {ct : Int32} {lc : Int32} {ad : Nat → Int32} {ctb : Int32} {lcb : Int32} {adb : Nat → Int32} {fx : Int32} {us : Nat → Int32} {ln : Int32} {pt : Int32} {tx : Nat → Int32} {br : Nat → Int32} {rw : Nat → Int32}  : ∀ (fuel : Nat) (en : Nat → Int32) (po : Nat → Int32) (pw : Int32) (su : Int32) (bt : Nat → Int32) (x1 : Int32) (x3 : Int32) (x4 : Int32) (x5 : Int32) (x6 : Int64) (x8 : Int32) (r : (String ⊕ Int64) × (Nat → Int32)), f_V_read_L84 fuel en po pw su bt x1 x3 x4 x5 x6 x8 = some r → ∀ o : am_O, am_ol r.1 = o →
    am_G (am_kk l D dA) (ws_V_read, y_V_read.cls, prog_1_method_9_code, 9, (some .long), y_V_read.name, [], am_rm 4 (o), none) o (hC ll he de li en r.2 pw su wr cs wb bt ct lc ad ctb lcb adb fx us ln pt tx br rw rest) 0 0 84 [(0, .ref 0), (1, .int x1), (3, .int x3), (4, .int x4), (5, .int x5), (6, .long x6), (8, .int x8)] [] (hC ll he de li en po pw su wr cs wb bt ct lc ad ctb lcb adb fx us ln pt tx br rw rest) := by
  intro fuel
  induction fuel with
  | zero =>
    intro en po pw su bt x1 x3 x4 x5 x6 x8 r hf
    cases hf
  | succ fuel ih =>
    intro en po pw su bt x1 x3 x4 x5 x6 x8 r hf o ho
    subst ho
    rw [f_V_read_L84] at hf
    refine g_iload (n := 86) d_V_read_84 rfl 6 rfl ?_
    refine g_iload (n := 88) d_V_read_86 rfl 4 rfl ?_
    refine g_icmp_ge (n := 91) (tgt := 123) d_V_read_88 rfl (by decide) (fun q19 => ?_) (fun q19 => ?_)
    · have hf := ob_pos q19 hf
      refine g_aload_n (n := 124) d_V_read_123 rfl 0 rfl rfl ?_
      refine g_get (n := 127) (q0 := 0) d_V_read_124 rfl (am_fl in_V rfl (by decide : 0 < 8)) (List.mem_cons_of_mem _ tw_173) rfl rfl ?_
      refine g_iload_n (n := 128) d_V_read_127 rfl 1 rfl rfl ?_
      refine g_iload_n (n := 129) d_V_read_128 rfl 2 rfl rfl ?_
      refine g_iload (n := 131) d_V_read_129 rfl 4 rfl ?_
      refine g_iadd (n := 132) d_V_read_131 rfl ?_
      obtain ⟨r20, h21, hf⟩ := ob_bind hf
      refine c_Vr (n := 135) (st' := []) [.int x1, .int (x3 + x5)] [] d_V_read_132 rfl (s_Ses_moveTo htr h21 rfl) tw_234 tw_235 tw_236 tw_2 tw_237 hd_Ses_moveTo (by omega) (by decide) (ci := 4) rfl rfl rfl (Nat.le_of_ble_eq_true rfl) rfl rfl ?_
      refine g_lload (n := 137) d_V_read_135 rfl 5 rfl ?_
      refine g_iload (n := 139) d_V_read_137 rfl 4 rfl ?_
      refine g_i2l (n := 140) d_V_read_139 rfl ?_
      refine g_bipush (n := 142) (v := 56) d_V_read_140 rfl (by decide) ?_
      refine g_lshl (n := 143) d_V_read_142 rfl ?_
      refine g_lor (n := 144) d_V_read_143 rfl ?_
      cases hf
      exact g_lret d_V_read_144 rfl (Nat.zero_le _) (Nat.zero_le _)
    · have hf := ob_neg q19 hf
      refine g_lload (n := 93) d_V_read_91 rfl 5 rfl ?_
      refine g_bipush (n := 95) (v := 8) d_V_read_93 rfl (by decide) ?_
      refine g_lshl (n := 96) d_V_read_95 rfl ?_
      refine g_aload_n (n := 97) d_V_read_96 rfl 0 rfl rfl ?_
      refine g_get (n := 100) (q0 := 0) d_V_read_97 rfl (am_fl in_V rfl (by decide : 1 < 8)) (List.mem_cons_of_mem _ tw_174) rfl rfl ?_
      refine g_aload_n (n := 101) d_V_read_100 rfl 0 rfl rfl ?_
      refine g_iload (n := 103) d_V_read_101 rfl 3 rfl ?_
      refine g_iload_n (n := 104) d_V_read_103 rfl 2 rfl rfl ?_
      refine g_iload (n := 106) d_V_read_104 rfl 6 rfl ?_
      refine g_iadd (n := 107) d_V_read_106 rfl ?_
      obtain ⟨r22, h23, hf⟩ := ob_bind hf
      refine c_Vr (n := 110) (st' := [.int r22, .ref 5, .long (x6 <<< ((8 : Int32).toInt64 &&& 63))]) [.int x4, .int (x3 + x8)] [.ref 5, .long (x6 <<< ((8 : Int32).toInt64 &&& 63))] d_V_read_107 rfl (s_V_addressInChain htr h23 rfl) tw_697 tw_699 (am_memS 6 (by decide +kernel) (by decide +kernel)) tw_1 tw_700 hd_V_addressInChain (by omega) (by decide) (ci := 6) rfl rfl rfl (Nat.le_of_ble_eq_true rfl) rfl rfl ?_
      obtain ⟨r24, h25, hf⟩ := ob_bind hf
      refine c_Vr (n := 113) (st' := [.int r24, .long (x6 <<< ((8 : Int32).toInt64 &&& 63))]) [.int r22] [.long (x6 <<< ((8 : Int32).toInt64 &&& 63))] d_V_read_110 rfl (s_Disk_at htr h25 rfl) tw_261 tw_262 tw_263 tw_3 tw_264 hd_Disk_at (by omega) (by decide) (ci := 0) rfl rfl rfl (Nat.le_of_ble_eq_true rfl) rfl rfl ?_
      refine g_i2l (n := 114) d_V_read_113 rfl ?_
      refine g_lor (n := 115) d_V_read_114 rfl ?_
      refine g_lstore (n := 117) (ls' := [(6, .long ((x6 <<< ((8 : Int32).toInt64 &&& 63)) ||| r24.toInt64)), (0, .ref 0), (1, .int x1), (3, .int x3), (4, .int x4), (5, .int x5), (8, .int x8)]) d_V_read_115 rfl (am_ltb rfl) rfl ?_
      refine g_iinc (n := 120) (v := (x8 + 1)) (ls' := [(8, .int (x8 + 1)), (6, .long ((x6 <<< ((8 : Int32).toInt64 &&& 63)) ||| r24.toInt64)), (0, .ref 0), (1, .int x1), (3, .int x3), (4, .int x4), (5, .int x5)]) d_V_read_117 rfl 6 rfl rfl (am_ltb rfl) rfl ?_
      refine g_goto (n := 84) d_V_read_120 (by decide) ?_
      refine g_ls [2, 3, 4, 5, 6, 1, 0] rfl ?_
      exact ih en po pw su bt x1 x3 x4 x5 ((x6 <<< ((8 : Int32).toInt64 &&& 63)) ||| r24.toInt64) (x8 + 1) _ hf _ rfl
def f_V_read (en : Nat → Int32) (po : Nat → Int32) (pw : Int32) (su : Int32) (bt : Nat → Int32) (x1 : Int32) (x2 : Int32) : Option ((String ⊕ Int64) × (Nat → Int32)) :=
  ((f_V_demandSoundDisk pw su).bind fun r1 => am_t r1 (fun E3 => some (.inl E3, po)) (fun v4 => ((f_Ses_isOpen en x1).bind fun r6 => (if r6 = 0 then some (.inl "java/lang/IllegalArgumentException", po) else (if x2 < 1 then some (.inl "java/lang/IllegalArgumentException", po) else (if x2 ≤ 7 then ((f_Ses_positionOf po x1).bind fun r11 => ((f_Ses_entryOf en x1).bind fun r13 => ((f_Disk_pairAt bt (r13 + 8)).bind fun r15 => ((f_V_sizeOfFile en bt x1).bind fun r17 => f_V_read_L84 3000 en po pw su bt x1 r11 r15 (if (r17 - r11) < x2 then (r17 - r11) else x2) 0 0)))) else some (.inl "java/lang/IllegalArgumentException", po)))))))
set_option maxHeartbeats 4000000 in
set_option maxRecDepth 100000 in
theorem s_V_read {l : Launch} {D : va_G} {dA : FieldType → ClassId} (htr : l.stackTraces = false) {rest : List am_E} {ll : Int32} {he : Int32} {de : Int32} {li : Nat → Int32} {en : Nat → Int32} {po : Nat → Int32} {pw : Int32} {su : Int32} {wr : Int32} {cs : Int32} {wb : Int32} {bt : Nat → Int32} {ct : Int32} {lc : Int32} {ad : Nat → Int32} {ctb : Int32} {lcb : Int32} {adb : Nat → Int32} {fx : Int32} {us : Nat → Int32} {ln : Int32} {pt : Int32} {tx : Nat → Int32} {br : Nat → Int32} {rw : Nat → Int32}  {x1 : Int32} {x2 : Int32} {r : (String ⊕ Int64) × (Nat → Int32)} (hf : f_V_read en po pw su bt x1 x2 = some r) {o : am_O} (ho : am_ol r.1 = o) :
    am_M (am_kk l D dA) y_V_read ws_V_read (am_rm 4 o) [.ref 0, .int x1, .int x2] (hC ll he de li en po pw su wr cs wb bt ct lc ad ctb lcb adb fx us ln pt tx br rw rest) o (hC ll he de li en r.2 pw su wr cs wb bt ct lc ad ctb lcb adb fx us ln pt tx br rw rest) := by
  subst ho
  refine am_body (by decide) rfl (Nat.le_of_ble_eq_true rfl) rfl ?_
  rw [f_V_read] at hf
  refine g_aload_n (n := 1) d_V_read_0 rfl 0 rfl rfl ?_
  obtain ⟨r1, h2, hf⟩ := ob_bind hf
  rcases ob_t hf with ⟨E3, w5, hf⟩ | ⟨v4, w5, hf⟩
  · cases hf
    refine c_Vx (n := 4) (st' := []) [] [] d_V_read_1 rfl (s_V_demandSoundDisk htr h2 (by rw [w5]; rfl)) tw_305 tw_307 (am_memS 1 (by decide +kernel) (by decide +kernel)) tw_1 tw_308 hd_V_demandSoundDisk (by omega) (by decide) (ci := 6) rfl rfl rfl (Nat.le_of_ble_eq_true rfl) rfl ?_
    exact g_out rfl (Nat.le_refl _) (Nat.le_refl _)
  · refine c_Vr (n := 4) (st' := []) [] [] d_V_read_1 rfl (s_V_demandSoundDisk htr h2 (by rw [w5]; rfl)) tw_305 tw_307 (am_memS 1 (by decide +kernel) (by decide +kernel)) tw_1 tw_308 hd_V_demandSoundDisk (by omega) (by decide) (ci := 6) rfl rfl rfl (Nat.le_of_ble_eq_true rfl) rfl rfl ?_
    refine g_aload_n (n := 5) d_V_read_4 rfl 0 rfl rfl ?_
    refine g_get (n := 8) (q0 := 0) d_V_read_5 rfl (am_fl in_V rfl (by decide : 0 < 8)) (List.mem_cons_of_mem _ tw_173) rfl rfl ?_
    refine g_iload_n (n := 9) d_V_read_8 rfl 1 rfl rfl ?_
    obtain ⟨r6, h7, hf⟩ := ob_bind hf
    refine c_Vr (n := 12) (st' := [.int r6]) [.int x1] [] d_V_read_9 rfl (s_Ses_isOpen htr h7 rfl) tw_210 tw_211 tw_212 tw_2 tw_213 hd_Ses_isOpen (by omega) (by decide) (ci := 4) rfl rfl rfl (Nat.le_of_ble_eq_true rfl) rfl rfl ?_
    refine g_if_eq (n := 15) (tgt := 26) d_V_read_12 rfl (by decide) (fun q8 => ?_) (fun q8 => ?_)
    · have hf := ob_pos q8 hf
      cases hf
      exact c_T htr (by decide +kernel) e_IllegalArgumentException_0 e_IllegalArgumentException_1 e_IllegalArgumentException_2 e_IllegalArgumentException_5 tw_391 tw_13 rfl (List.mem_of_getElem? (i := 10) rfl) at_V_84 d_V_read_26 d_V_read_29 (Or.inl ⟨d_V_read_30, rfl⟩) d_V_read_32 d_V_read_35 (Nat.le_of_ble_eq_true rfl)
    · have hf := ob_neg q8 hf
      refine g_iload_n (n := 16) d_V_read_15 rfl 2 rfl rfl ?_
      refine g_iconst (n := 17) (v := 1) d_V_read_16 rfl (by decide) ?_
      refine g_icmp_lt (n := 20) (tgt := 26) d_V_read_17 rfl (by decide) (fun q9 => ?_) (fun q9 => ?_)
      · have hf := ob_pos q9 hf
        cases hf
        exact c_T htr (by decide +kernel) e_IllegalArgumentException_0 e_IllegalArgumentException_1 e_IllegalArgumentException_2 e_IllegalArgumentException_5 tw_391 tw_13 rfl (List.mem_of_getElem? (i := 10) rfl) at_V_84 d_V_read_26 d_V_read_29 (Or.inl ⟨d_V_read_30, rfl⟩) d_V_read_32 d_V_read_35 (Nat.le_of_ble_eq_true rfl)
      · have hf := ob_neg q9 hf
        refine g_iload_n (n := 21) d_V_read_20 rfl 2 rfl rfl ?_
        refine g_bipush (n := 23) (v := 7) d_V_read_21 rfl (by decide) ?_
        refine g_icmp_le (n := 26) (tgt := 36) d_V_read_23 rfl (by decide) (fun q10 => ?_) (fun q10 => ?_)
        · have hf := ob_pos q10 hf
          refine g_aload_n (n := 37) d_V_read_36 rfl 0 rfl rfl ?_
          refine g_get (n := 40) (q0 := 0) d_V_read_37 rfl (am_fl in_V rfl (by decide : 0 < 8)) (List.mem_cons_of_mem _ tw_173) rfl rfl ?_
          refine g_iload_n (n := 41) d_V_read_40 rfl 1 rfl rfl ?_
          obtain ⟨r11, h12, hf⟩ := ob_bind hf
          refine c_Vr (n := 44) (st' := [.int r11]) [.int x1] [] d_V_read_41 rfl (s_Ses_positionOf htr h12 rfl) tw_291 tw_292 tw_293 tw_2 tw_294 hd_Ses_positionOf (by omega) (by decide) (ci := 4) rfl rfl rfl (Nat.le_of_ble_eq_true rfl) rfl rfl ?_
          refine g_istore_n (n := 45) (ls' := [(3, .int r11), (0, .ref 0), (1, .int x1), (2, .int x2)]) d_V_read_44 rfl rfl (am_ltb rfl) rfl ?_
          refine g_aload_n (n := 46) d_V_read_45 rfl 1 rfl rfl ?_
          refine g_get (n := 49) (q0 := 0) d_V_read_46 rfl (am_fl in_V rfl (by decide : 1 < 8)) (List.mem_cons_of_mem _ tw_174) rfl rfl ?_
          refine g_aload_n (n := 50) d_V_read_49 rfl 1 rfl rfl ?_
          refine g_get (n := 53) (q0 := 0) d_V_read_50 rfl (am_fl in_V rfl (by decide : 0 < 8)) (List.mem_cons_of_mem _ tw_173) rfl rfl ?_
          refine g_iload_n (n := 54) d_V_read_53 rfl 2 rfl rfl ?_
          obtain ⟨r13, h14, hf⟩ := ob_bind hf
          refine c_Vr (n := 57) (st' := [.int r13, .ref 5]) [.int x1] [.ref 5] d_V_read_54 rfl (s_Ses_entryOf htr h14 rfl) tw_226 tw_227 tw_228 tw_2 tw_229 hd_Ses_entryOf (by omega) (by decide) (ci := 4) rfl rfl rfl (Nat.le_of_ble_eq_true rfl) rfl rfl ?_
          refine g_bipush (n := 59) (v := 8) d_V_read_57 rfl (by decide) ?_
          refine g_iadd (n := 60) d_V_read_59 rfl ?_
          obtain ⟨r15, h16, hf⟩ := ob_bind hf
          refine c_Vr (n := 63) (st' := [.int r15]) [.int (r13 + 8)] [] d_V_read_60 rfl (s_Disk_pairAt htr h16 rfl) tw_230 tw_231 tw_232 tw_3 tw_233 hd_Disk_pairAt (by omega) (by decide) (ci := 0) rfl rfl rfl (Nat.le_of_ble_eq_true rfl) rfl rfl ?_
          refine g_istore (n := 65) (ls' := [(4, .int r15), (3, .int r11), (0, .ref 0), (1, .int x1), (2, .int x2)]) d_V_read_63 rfl (am_ltb rfl) rfl ?_
          refine g_iload_n (n := 66) d_V_read_65 rfl 4 rfl rfl ?_
          refine g_aload_n (n := 67) d_V_read_66 rfl 2 rfl rfl ?_
          refine g_iload_n (n := 68) d_V_read_67 rfl 3 rfl rfl ?_
          obtain ⟨r17, h18, hf⟩ := ob_bind hf
          refine c_Vr (n := 71) (st' := [.int r17, .int x2]) [.int x1] [.int x2] d_V_read_68 rfl (s_V_sizeOfFile htr h18 rfl) tw_222 tw_224 (am_memS 0 (by decide +kernel) (by decide +kernel)) tw_1 tw_225 hd_V_sizeOfFile (by omega) (by decide) (ci := 6) rfl rfl rfl (Nat.le_of_ble_eq_true rfl) rfl rfl ?_
          refine g_iload_n (n := 72) d_V_read_71 rfl 1 rfl rfl ?_
          refine g_isub (n := 73) d_V_read_72 rfl ?_
          refine c_mmin (n := 76) d_V_read_73 rfl tw_694 tw_695 tw_16 tw_696 (Nat.le_of_ble_eq_true rfl) ?_
          refine g_istore (n := 78) (ls' := [(5, .int (if (r17 - r11) < x2 then (r17 - r11) else x2)), (4, .int r15), (3, .int r11), (0, .ref 0), (1, .int x1), (2, .int x2)]) d_V_read_76 rfl (am_ltb rfl) rfl ?_
          refine g_lconst (n := 79) (v := 0) d_V_read_78 rfl (by decide) ?_
          refine g_lstore (n := 81) (ls' := [(6, .long 0), (5, .int (if (r17 - r11) < x2 then (r17 - r11) else x2)), (4, .int r15), (3, .int r11), (0, .ref 0), (1, .int x1), (2, .int x2)]) d_V_read_79 rfl (am_ltb rfl) rfl ?_
          refine g_iconst (n := 82) (v := 0) d_V_read_81 rfl (by decide) ?_
          refine g_istore (n := 84) (ls' := [(8, .int 0), (6, .long 0), (5, .int (if (r17 - r11) < x2 then (r17 - r11) else x2)), (4, .int r15), (3, .int r11), (0, .ref 0), (1, .int x1), (2, .int x2)]) d_V_read_82 rfl (am_ltb rfl) rfl ?_
          refine g_ls [5, 6, 4, 3, 2, 1, 0] rfl ?_
          exact s_V_read_L84 htr 3000 en po pw su bt x1 r11 r15 (if (r17 - r11) < x2 then (r17 - r11) else x2) 0 0 _ hf _ rfl
        · have hf := ob_neg q10 hf
          cases hf
          exact c_T htr (by decide +kernel) e_IllegalArgumentException_0 e_IllegalArgumentException_1 e_IllegalArgumentException_2 e_IllegalArgumentException_5 tw_391 tw_13 rfl (List.mem_of_getElem? (i := 10) rfl) at_V_84 d_V_read_26 d_V_read_29 (Or.inl ⟨d_V_read_30, rfl⟩) d_V_read_32 d_V_read_35 (Nat.le_of_ble_eq_true rfl)
def f_Folder_indexOfNamed_L4 : Nat → (Nat → Int32) → Int32 → (Nat → Int32) → Int32 → Int32 → Int32 → Option (Int32)
  | 0, _, _, _, _, _, _ => none
  | fuel + 1, bt, ct, ad, x1, x2, x3 =>
  (if ct ≤ x3 then some (-1) else ((f_Folder_isNamed bt ct ad x3).bind fun r2 => (if r2 = 0 then f_Folder_indexOfNamed_L4 fuel bt ct ad x1 x2 (x3 + 1) else (if x2 = x1 then some x3 else f_Folder_indexOfNamed_L4 fuel bt ct ad x1 (x2 + 1) (x3 + 1)))))
set_option maxHeartbeats 4000000 in
set_option maxRecDepth 100000 in
theorem s_Folder_indexOfNamed_L4 {l : Launch} {D : va_G} {dA : FieldType → ClassId} (htr : l.stackTraces = false) {rest : List am_E} {ll : Int32} {he : Int32} {de : Int32} {li : Nat → Int32} {en : Nat → Int32} {po : Nat → Int32} {pw : Int32} {su : Int32} {wr : Int32} {cs : Int32} {wb : Int32} {lc : Int32} {ctb : Int32} {lcb : Int32} {adb : Nat → Int32} {fx : Int32} {us : Nat → Int32} {ln : Int32} {pt : Int32} {tx : Nat → Int32} {br : Nat → Int32} {rw : Nat → Int32}  : ∀ (fuel : Nat) (bt : Nat → Int32) (ct : Int32) (ad : Nat → Int32) (x1 : Int32) (x2 : Int32) (x3 : Int32) (r : Int32), f_Folder_indexOfNamed_L4 fuel bt ct ad x1 x2 x3 = some r → ∀ o : am_O, .inl (some (.int r)) = o →
    am_G (am_kk l D dA) (ws_Folder_indexOfNamed, y_Folder_indexOfNamed.cls, prog_3_method_13_code, 4, (some .int), y_Folder_indexOfNamed.name, [], am_rm 3 (o), none) o (hC ll he de li en po pw su wr cs wb bt ct lc ad ctb lcb adb fx us ln pt tx br rw rest) 0 0 4 [(0, .ref 8), (1, .int x1), (2, .int x2), (3, .int x3)] [] (hC ll he de li en po pw su wr cs wb bt ct lc ad ctb lcb adb fx us ln pt tx br rw rest) := by
  intro fuel
  induction fuel with
  | zero =>
    intro bt ct ad x1 x2 x3 r hf
    cases hf
  | succ fuel ih =>
    intro bt ct ad x1 x2 x3 r hf o ho
    subst ho
    rw [f_Folder_indexOfNamed_L4] at hf
    refine g_iload_n (n := 5) d_Folder_indexOfNamed_4 rfl 3 rfl rfl ?_
    refine g_aload_n (n := 6) d_Folder_indexOfNamed_5 rfl 0 rfl rfl ?_
    refine g_get (n := 9) (q0 := 8) d_Folder_indexOfNamed_6 rfl (am_fl in_Folder rfl (by decide : 3 < 5)) (List.mem_cons_of_mem _ tw_112) rfl rfl ?_
    refine g_icmp_ge (n := 12) (tgt := 36) d_Folder_indexOfNamed_9 rfl (by decide) (fun q1 => ?_) (fun q1 => ?_)
    · have hf := ob_pos q1 hf
      refine g_iconst (n := 37) (v := (-1)) d_Folder_indexOfNamed_36 rfl (by decide) ?_
      cases hf
      exact g_iret d_Folder_indexOfNamed_37 rfl (Nat.zero_le _) (Nat.zero_le _)
    · have hf := ob_neg q1 hf
      refine g_aload_n (n := 13) d_Folder_indexOfNamed_12 rfl 0 rfl rfl ?_
      refine g_iload_n (n := 14) d_Folder_indexOfNamed_13 rfl 3 rfl rfl ?_
      obtain ⟨r2, h3, hf⟩ := ob_bind hf
      refine c_Vr (n := 17) (st' := [.int r2]) [.int x3] [] d_Folder_indexOfNamed_14 rfl (s_Folder_isNamed htr h3 rfl) tw_431 tw_432 tw_433 tw_5 tw_434 hd_Folder_isNamed (by omega) (by decide) (ci := 1) rfl rfl rfl (Nat.le_of_ble_eq_true rfl) rfl rfl ?_
      refine g_if_eq (n := 20) (tgt := 30) d_Folder_indexOfNamed_17 rfl (by decide) (fun q4 => ?_) (fun q4 => ?_)
      · have hf := ob_pos q4 hf
        refine g_iinc (n := 33) (v := (x3 + 1)) (ls' := [(3, .int (x3 + 1)), (0, .ref 8), (1, .int x1), (2, .int x2)]) d_Folder_indexOfNamed_30 rfl 3 rfl rfl (am_ltb rfl) rfl ?_
        refine g_goto (n := 4) d_Folder_indexOfNamed_33 (by decide) ?_
        refine g_ls [1, 2, 3, 0] rfl ?_
        exact ih bt ct ad x1 x2 (x3 + 1) _ hf _ rfl
      · have hf := ob_neg q4 hf
        refine g_iload_n (n := 21) d_Folder_indexOfNamed_20 rfl 2 rfl rfl ?_
        refine g_iload_n (n := 22) d_Folder_indexOfNamed_21 rfl 1 rfl rfl ?_
        refine g_icmp_ne (n := 25) (tgt := 27) d_Folder_indexOfNamed_22 rfl (by decide) (fun q5 => ?_) (fun q5 => ?_)
        · have hf := ob_neg q5 hf
          refine g_iinc (n := 30) (v := (x2 + 1)) (ls' := [(2, .int (x2 + 1)), (0, .ref 8), (1, .int x1), (3, .int x3)]) d_Folder_indexOfNamed_27 rfl 2 rfl rfl (am_ltb rfl) rfl ?_
          refine g_iinc (n := 33) (v := (x3 + 1)) (ls' := [(3, .int (x3 + 1)), (2, .int (x2 + 1)), (0, .ref 8), (1, .int x1)]) d_Folder_indexOfNamed_30 rfl 3 rfl rfl (am_ltb rfl) rfl ?_
          refine g_goto (n := 4) d_Folder_indexOfNamed_33 (by decide) ?_
          refine g_ls [2, 3, 1, 0] rfl ?_
          exact ih bt ct ad x1 (x2 + 1) (x3 + 1) _ hf _ rfl
        · have hf := ob_pos q5 hf
          refine g_iload_n (n := 26) d_Folder_indexOfNamed_25 rfl 3 rfl rfl ?_
          cases hf
          exact g_iret d_Folder_indexOfNamed_26 rfl (Nat.zero_le _) (Nat.zero_le _)
def f_Folder_indexOfNamed (bt : Nat → Int32) (ct : Int32) (ad : Nat → Int32) (x1 : Int32) : Option (Int32) :=
  f_Folder_indexOfNamed_L4 3000 bt ct ad x1 0 0
set_option maxHeartbeats 4000000 in
set_option maxRecDepth 100000 in
theorem s_Folder_indexOfNamed {l : Launch} {D : va_G} {dA : FieldType → ClassId} (htr : l.stackTraces = false) {rest : List am_E} {ll : Int32} {he : Int32} {de : Int32} {li : Nat → Int32} {en : Nat → Int32} {po : Nat → Int32} {pw : Int32} {su : Int32} {wr : Int32} {cs : Int32} {wb : Int32} {bt : Nat → Int32} {ct : Int32} {lc : Int32} {ad : Nat → Int32} {ctb : Int32} {lcb : Int32} {adb : Nat → Int32} {fx : Int32} {us : Nat → Int32} {ln : Int32} {pt : Int32} {tx : Nat → Int32} {br : Nat → Int32} {rw : Nat → Int32}  {x1 : Int32} {r : Int32} (hf : f_Folder_indexOfNamed bt ct ad x1 = some r) {o : am_O} (ho : .inl (some (.int r)) = o) :
    am_M (am_kk l D dA) y_Folder_indexOfNamed ws_Folder_indexOfNamed (am_rm 3 o) [.ref 8, .int x1] (hC ll he de li en po pw su wr cs wb bt ct lc ad ctb lcb adb fx us ln pt tx br rw rest) o (hC ll he de li en po pw su wr cs wb bt ct lc ad ctb lcb adb fx us ln pt tx br rw rest) := by
  subst ho
  refine am_body (by decide) rfl (Nat.le_of_ble_eq_true rfl) rfl ?_
  rw [f_Folder_indexOfNamed] at hf
  refine g_iconst (n := 1) (v := 0) d_Folder_indexOfNamed_0 rfl (by decide) ?_
  refine g_istore_n (n := 2) (ls' := [(2, .int 0), (0, .ref 8), (1, .int x1)]) d_Folder_indexOfNamed_1 rfl rfl (am_ltb rfl) rfl ?_
  refine g_iconst (n := 3) (v := 0) d_Folder_indexOfNamed_2 rfl (by decide) ?_
  refine g_istore_n (n := 4) (ls' := [(3, .int 0), (2, .int 0), (0, .ref 8), (1, .int x1)]) d_Folder_indexOfNamed_3 rfl rfl (am_ltb rfl) rfl ?_
  refine g_ls [2, 3, 1, 0] rfl ?_
  exact s_Folder_indexOfNamed_L4 htr 3000 bt ct ad x1 0 0 _ hf _ rfl
def f_V_canBeListed (x0 : Int32) : Option (Int32) :=
  (if x0 < 0 then (if x0 < 10 then (if x0 < 20 then some 0 else (if 46 ≤ x0 then some 0 else some 1)) else (if x0 < 16 then some 1 else (if x0 < 20 then some 0 else (if 46 ≤ x0 then some 0 else some 1)))) else (if x0 ≤ 3 then some 1 else (if x0 < 10 then (if x0 < 20 then some 0 else (if 46 ≤ x0 then some 0 else some 1)) else (if x0 < 16 then some 1 else (if x0 < 20 then some 0 else (if 46 ≤ x0 then some 0 else some 1))))))
set_option maxHeartbeats 4000000 in
set_option maxRecDepth 100000 in
theorem s_V_canBeListed {l : Launch} {D : va_G} {dA : FieldType → ClassId} (htr : l.stackTraces = false) {rest : List am_E} {ll : Int32} {he : Int32} {de : Int32} {li : Nat → Int32} {en : Nat → Int32} {po : Nat → Int32} {pw : Int32} {su : Int32} {wr : Int32} {cs : Int32} {wb : Int32} {bt : Nat → Int32} {ct : Int32} {lc : Int32} {ad : Nat → Int32} {ctb : Int32} {lcb : Int32} {adb : Nat → Int32} {fx : Int32} {us : Nat → Int32} {ln : Int32} {pt : Int32} {tx : Nat → Int32} {br : Nat → Int32} {rw : Nat → Int32}  {x0 : Int32} {r : Int32} (hf : f_V_canBeListed x0 = some r) {o : am_O} (ho : .inl (some (.int r)) = o) :
    am_M (am_kk l D dA) y_V_canBeListed ws_V_canBeListed (am_rm 0 o) [.int x0] (hC ll he de li en po pw su wr cs wb bt ct lc ad ctb lcb adb fx us ln pt tx br rw rest) o (hC ll he de li en po pw su wr cs wb bt ct lc ad ctb lcb adb fx us ln pt tx br rw rest) := by
  subst ho
  refine am_body (by decide) rfl (Nat.le_of_ble_eq_true rfl) rfl ?_
  rw [f_V_canBeListed] at hf
  refine g_iload_n (n := 1) d_V_canBeListed_0 rfl 0 rfl rfl ?_
  refine g_if_lt (n := 4) (tgt := 9) d_V_canBeListed_1 rfl (by decide) (fun q1 => ?_) (fun q1 => ?_)
  · have hf := ob_pos q1 hf
    refine g_iload_n (n := 10) d_V_canBeListed_9 rfl 0 rfl rfl ?_
    refine g_bipush (n := 12) (v := 10) d_V_canBeListed_10 rfl (by decide) ?_
    refine g_icmp_lt (n := 15) (tgt := 21) d_V_canBeListed_12 rfl (by decide) (fun q2 => ?_) (fun q2 => ?_)
    · have hf := ob_pos q2 hf
      refine g_iload_n (n := 22) d_V_canBeListed_21 rfl 0 rfl rfl ?_
      refine g_bipush (n := 24) (v := 20) d_V_canBeListed_22 rfl (by decide) ?_
      refine g_icmp_lt (n := 27) (tgt := 37) d_V_canBeListed_24 rfl (by decide) (fun q3 => ?_) (fun q3 => ?_)
      · have hf := ob_pos q3 hf
        refine g_iconst (n := 38) (v := 0) d_V_canBeListed_37 rfl (by decide) ?_
        cases hf
        exact g_zret d_V_canBeListed_38 rfl am_z0 (Nat.zero_le _) (Nat.zero_le _)
      · have hf := ob_neg q3 hf
        refine g_iload_n (n := 28) d_V_canBeListed_27 rfl 0 rfl rfl ?_
        refine g_bipush (n := 30) (v := 46) d_V_canBeListed_28 rfl (by decide) ?_
        refine g_icmp_ge (n := 33) (tgt := 37) d_V_canBeListed_30 rfl (by decide) (fun q4 => ?_) (fun q4 => ?_)
        · have hf := ob_pos q4 hf
          refine g_iconst (n := 38) (v := 0) d_V_canBeListed_37 rfl (by decide) ?_
          cases hf
          exact g_zret d_V_canBeListed_38 rfl am_z0 (Nat.zero_le _) (Nat.zero_le _)
        · have hf := ob_neg q4 hf
          refine g_iconst (n := 34) (v := 1) d_V_canBeListed_33 rfl (by decide) ?_
          refine g_goto (n := 38) d_V_canBeListed_34 (by decide) ?_
          cases hf
          exact g_zret d_V_canBeListed_38 rfl am_z1 (Nat.zero_le _) (Nat.zero_le _)
    · have hf := ob_neg q2 hf
      refine g_iload_n (n := 16) d_V_canBeListed_15 rfl 0 rfl rfl ?_
      refine g_bipush (n := 18) (v := 16) d_V_canBeListed_16 rfl (by decide) ?_
      refine g_icmp_lt (n := 21) (tgt := 33) d_V_canBeListed_18 rfl (by decide) (fun q5 => ?_) (fun q5 => ?_)
      · have hf := ob_pos q5 hf
        refine g_iconst (n := 34) (v := 1) d_V_canBeListed_33 rfl (by decide) ?_
        refine g_goto (n := 38) d_V_canBeListed_34 (by decide) ?_
        cases hf
        exact g_zret d_V_canBeListed_38 rfl am_z1 (Nat.zero_le _) (Nat.zero_le _)
      · have hf := ob_neg q5 hf
        refine g_iload_n (n := 22) d_V_canBeListed_21 rfl 0 rfl rfl ?_
        refine g_bipush (n := 24) (v := 20) d_V_canBeListed_22 rfl (by decide) ?_
        refine g_icmp_lt (n := 27) (tgt := 37) d_V_canBeListed_24 rfl (by decide) (fun q6 => ?_) (fun q6 => ?_)
        · have hf := ob_pos q6 hf
          refine g_iconst (n := 38) (v := 0) d_V_canBeListed_37 rfl (by decide) ?_
          cases hf
          exact g_zret d_V_canBeListed_38 rfl am_z0 (Nat.zero_le _) (Nat.zero_le _)
        · have hf := ob_neg q6 hf
          refine g_iload_n (n := 28) d_V_canBeListed_27 rfl 0 rfl rfl ?_
          refine g_bipush (n := 30) (v := 46) d_V_canBeListed_28 rfl (by decide) ?_
          refine g_icmp_ge (n := 33) (tgt := 37) d_V_canBeListed_30 rfl (by decide) (fun q7 => ?_) (fun q7 => ?_)
          · have hf := ob_pos q7 hf
            refine g_iconst (n := 38) (v := 0) d_V_canBeListed_37 rfl (by decide) ?_
            cases hf
            exact g_zret d_V_canBeListed_38 rfl am_z0 (Nat.zero_le _) (Nat.zero_le _)
          · have hf := ob_neg q7 hf
            refine g_iconst (n := 34) (v := 1) d_V_canBeListed_33 rfl (by decide) ?_
            refine g_goto (n := 38) d_V_canBeListed_34 (by decide) ?_
            cases hf
            exact g_zret d_V_canBeListed_38 rfl am_z1 (Nat.zero_le _) (Nat.zero_le _)
  · have hf := ob_neg q1 hf
    refine g_iload_n (n := 5) d_V_canBeListed_4 rfl 0 rfl rfl ?_
    refine g_iconst (n := 6) (v := 3) d_V_canBeListed_5 rfl (by decide) ?_
    refine g_icmp_le (n := 9) (tgt := 33) d_V_canBeListed_6 rfl (by decide) (fun q8 => ?_) (fun q8 => ?_)
    · have hf := ob_pos q8 hf
      refine g_iconst (n := 34) (v := 1) d_V_canBeListed_33 rfl (by decide) ?_
      refine g_goto (n := 38) d_V_canBeListed_34 (by decide) ?_
      cases hf
      exact g_zret d_V_canBeListed_38 rfl am_z1 (Nat.zero_le _) (Nat.zero_le _)
    · have hf := ob_neg q8 hf
      refine g_iload_n (n := 10) d_V_canBeListed_9 rfl 0 rfl rfl ?_
      refine g_bipush (n := 12) (v := 10) d_V_canBeListed_10 rfl (by decide) ?_
      refine g_icmp_lt (n := 15) (tgt := 21) d_V_canBeListed_12 rfl (by decide) (fun q9 => ?_) (fun q9 => ?_)
      · have hf := ob_pos q9 hf
        refine g_iload_n (n := 22) d_V_canBeListed_21 rfl 0 rfl rfl ?_
        refine g_bipush (n := 24) (v := 20) d_V_canBeListed_22 rfl (by decide) ?_
        refine g_icmp_lt (n := 27) (tgt := 37) d_V_canBeListed_24 rfl (by decide) (fun q10 => ?_) (fun q10 => ?_)
        · have hf := ob_pos q10 hf
          refine g_iconst (n := 38) (v := 0) d_V_canBeListed_37 rfl (by decide) ?_
          cases hf
          exact g_zret d_V_canBeListed_38 rfl am_z0 (Nat.zero_le _) (Nat.zero_le _)
        · have hf := ob_neg q10 hf
          refine g_iload_n (n := 28) d_V_canBeListed_27 rfl 0 rfl rfl ?_
          refine g_bipush (n := 30) (v := 46) d_V_canBeListed_28 rfl (by decide) ?_
          refine g_icmp_ge (n := 33) (tgt := 37) d_V_canBeListed_30 rfl (by decide) (fun q11 => ?_) (fun q11 => ?_)
          · have hf := ob_pos q11 hf
            refine g_iconst (n := 38) (v := 0) d_V_canBeListed_37 rfl (by decide) ?_
            cases hf
            exact g_zret d_V_canBeListed_38 rfl am_z0 (Nat.zero_le _) (Nat.zero_le _)
          · have hf := ob_neg q11 hf
            refine g_iconst (n := 34) (v := 1) d_V_canBeListed_33 rfl (by decide) ?_
            refine g_goto (n := 38) d_V_canBeListed_34 (by decide) ?_
            cases hf
            exact g_zret d_V_canBeListed_38 rfl am_z1 (Nat.zero_le _) (Nat.zero_le _)
      · have hf := ob_neg q9 hf
        refine g_iload_n (n := 16) d_V_canBeListed_15 rfl 0 rfl rfl ?_
        refine g_bipush (n := 18) (v := 16) d_V_canBeListed_16 rfl (by decide) ?_
        refine g_icmp_lt (n := 21) (tgt := 33) d_V_canBeListed_18 rfl (by decide) (fun q12 => ?_) (fun q12 => ?_)
        · have hf := ob_pos q12 hf
          refine g_iconst (n := 34) (v := 1) d_V_canBeListed_33 rfl (by decide) ?_
          refine g_goto (n := 38) d_V_canBeListed_34 (by decide) ?_
          cases hf
          exact g_zret d_V_canBeListed_38 rfl am_z1 (Nat.zero_le _) (Nat.zero_le _)
        · have hf := ob_neg q12 hf
          refine g_iload_n (n := 22) d_V_canBeListed_21 rfl 0 rfl rfl ?_
          refine g_bipush (n := 24) (v := 20) d_V_canBeListed_22 rfl (by decide) ?_
          refine g_icmp_lt (n := 27) (tgt := 37) d_V_canBeListed_24 rfl (by decide) (fun q13 => ?_) (fun q13 => ?_)
          · have hf := ob_pos q13 hf
            refine g_iconst (n := 38) (v := 0) d_V_canBeListed_37 rfl (by decide) ?_
            cases hf
            exact g_zret d_V_canBeListed_38 rfl am_z0 (Nat.zero_le _) (Nat.zero_le _)
          · have hf := ob_neg q13 hf
            refine g_iload_n (n := 28) d_V_canBeListed_27 rfl 0 rfl rfl ?_
            refine g_bipush (n := 30) (v := 46) d_V_canBeListed_28 rfl (by decide) ?_
            refine g_icmp_ge (n := 33) (tgt := 37) d_V_canBeListed_30 rfl (by decide) (fun q14 => ?_) (fun q14 => ?_)
            · have hf := ob_pos q14 hf
              refine g_iconst (n := 38) (v := 0) d_V_canBeListed_37 rfl (by decide) ?_
              cases hf
              exact g_zret d_V_canBeListed_38 rfl am_z0 (Nat.zero_le _) (Nat.zero_le _)
            · have hf := ob_neg q14 hf
              refine g_iconst (n := 34) (v := 1) d_V_canBeListed_33 rfl (by decide) ?_
              refine g_goto (n := 38) d_V_canBeListed_34 (by decide) ?_
              cases hf
              exact g_zret d_V_canBeListed_38 rfl am_z1 (Nat.zero_le _) (Nat.zero_le _)
def f_Folder_shortCharOf (bt : Nat → Int32) (ct : Int32) (ad : Nat → Int32) (x1 : Int32) (x2 : Int32) : Option (Int32) :=
  ((f_Folder_shortLengthOf bt ct ad x1).bind fun r1 => (if r1 ≤ x2 then some (-1) else ((f_Folder_byteOf bt ct ad x1 x2).bind fun r4 => some r4)))
set_option maxHeartbeats 4000000 in
set_option maxRecDepth 100000 in
theorem s_Folder_shortCharOf {l : Launch} {D : va_G} {dA : FieldType → ClassId} (htr : l.stackTraces = false) {rest : List am_E} {ll : Int32} {he : Int32} {de : Int32} {li : Nat → Int32} {en : Nat → Int32} {po : Nat → Int32} {pw : Int32} {su : Int32} {wr : Int32} {cs : Int32} {wb : Int32} {bt : Nat → Int32} {ct : Int32} {lc : Int32} {ad : Nat → Int32} {ctb : Int32} {lcb : Int32} {adb : Nat → Int32} {fx : Int32} {us : Nat → Int32} {ln : Int32} {pt : Int32} {tx : Nat → Int32} {br : Nat → Int32} {rw : Nat → Int32}  {x1 : Int32} {x2 : Int32} {r : Int32} (hf : f_Folder_shortCharOf bt ct ad x1 x2 = some r) {o : am_O} (ho : .inl (some (.int r)) = o) :
    am_M (am_kk l D dA) y_Folder_shortCharOf ws_Folder_shortCharOf (am_rm 3 o) [.ref 8, .int x1, .int x2] (hC ll he de li en po pw su wr cs wb bt ct lc ad ctb lcb adb fx us ln pt tx br rw rest) o (hC ll he de li en po pw su wr cs wb bt ct lc ad ctb lcb adb fx us ln pt tx br rw rest) := by
  subst ho
  refine am_body (by decide) rfl (Nat.le_of_ble_eq_true rfl) rfl ?_
  rw [f_Folder_shortCharOf] at hf
  refine g_iload_n (n := 1) d_Folder_shortCharOf_0 rfl 2 rfl rfl ?_
  refine g_aload_n (n := 2) d_Folder_shortCharOf_1 rfl 0 rfl rfl ?_
  refine g_iload_n (n := 3) d_Folder_shortCharOf_2 rfl 1 rfl rfl ?_
  obtain ⟨r1, h2, hf⟩ := ob_bind hf
  refine c_Vr (n := 6) (st' := [.int r1, .int x2]) [.int x1] [.int x2] d_Folder_shortCharOf_3 rfl (s_Folder_shortLengthOf htr h2 rfl) tw_443 tw_444 tw_445 tw_5 tw_446 hd_Folder_shortLengthOf (by omega) (by decide) (ci := 1) rfl rfl rfl (Nat.le_of_ble_eq_true rfl) rfl rfl ?_
  refine g_icmp_ge (n := 9) (tgt := 18) d_Folder_shortCharOf_6 rfl (by decide) (fun q3 => ?_) (fun q3 => ?_)
  · have hf := ob_pos q3 hf
    refine g_iconst (n := 19) (v := (-1)) d_Folder_shortCharOf_18 rfl (by decide) ?_
    cases hf
    exact g_iret d_Folder_shortCharOf_19 rfl (Nat.zero_le _) (Nat.zero_le _)
  · have hf := ob_neg q3 hf
    refine g_aload_n (n := 10) d_Folder_shortCharOf_9 rfl 0 rfl rfl ?_
    refine g_iload_n (n := 11) d_Folder_shortCharOf_10 rfl 1 rfl rfl ?_
    refine g_iload_n (n := 12) d_Folder_shortCharOf_11 rfl 2 rfl rfl ?_
    obtain ⟨r4, h5, hf⟩ := ob_bind hf
    refine c_Vr (n := 15) (st' := [.int r4]) [.int x1, .int x2] [] d_Folder_shortCharOf_12 rfl (s_Folder_byteOf htr h5 rfl) tw_426 tw_427 tw_428 tw_5 tw_429 hd_Folder_byteOf (by omega) (by decide) (ci := 1) rfl rfl rfl (Nat.le_of_ble_eq_true rfl) rfl rfl ?_
    refine g_goto (n := 19) d_Folder_shortCharOf_15 (by decide) ?_
    cases hf
    exact g_iret d_Folder_shortCharOf_19 rfl (Nat.zero_le _) (Nat.zero_le _)
def f_Folder_longCharOf (bt : Nat → Int32) (ct : Int32) (ad : Nat → Int32) (x1 : Int32) (x2 : Int32) : Option (Int32) :=
  ((f_Folder_partsOf bt ct ad x1).bind fun r1 => ((f_Folder_longLengthOf bt ct ad x1 r1).bind fun r3 => (if r3 ≤ x2 then some (-1) else ((f_Folder_longByteOf bt ct ad x1 x2).bind fun r6 => some r6))))
set_option maxHeartbeats 4000000 in
set_option maxRecDepth 100000 in
theorem s_Folder_longCharOf {l : Launch} {D : va_G} {dA : FieldType → ClassId} (htr : l.stackTraces = false) {rest : List am_E} {ll : Int32} {he : Int32} {de : Int32} {li : Nat → Int32} {en : Nat → Int32} {po : Nat → Int32} {pw : Int32} {su : Int32} {wr : Int32} {cs : Int32} {wb : Int32} {bt : Nat → Int32} {ct : Int32} {lc : Int32} {ad : Nat → Int32} {ctb : Int32} {lcb : Int32} {adb : Nat → Int32} {fx : Int32} {us : Nat → Int32} {ln : Int32} {pt : Int32} {tx : Nat → Int32} {br : Nat → Int32} {rw : Nat → Int32}  {x1 : Int32} {x2 : Int32} {r : Int32} (hf : f_Folder_longCharOf bt ct ad x1 x2 = some r) {o : am_O} (ho : .inl (some (.int r)) = o) :
    am_M (am_kk l D dA) y_Folder_longCharOf ws_Folder_longCharOf (am_rm 4 o) [.ref 8, .int x1, .int x2] (hC ll he de li en po pw su wr cs wb bt ct lc ad ctb lcb adb fx us ln pt tx br rw rest) o (hC ll he de li en po pw su wr cs wb bt ct lc ad ctb lcb adb fx us ln pt tx br rw rest) := by
  subst ho
  refine am_body (by decide) rfl (Nat.le_of_ble_eq_true rfl) rfl ?_
  rw [f_Folder_longCharOf] at hf
  refine g_iload_n (n := 1) d_Folder_longCharOf_0 rfl 2 rfl rfl ?_
  refine g_aload_n (n := 2) d_Folder_longCharOf_1 rfl 0 rfl rfl ?_
  refine g_iload_n (n := 3) d_Folder_longCharOf_2 rfl 1 rfl rfl ?_
  refine g_aload_n (n := 4) d_Folder_longCharOf_3 rfl 0 rfl rfl ?_
  refine g_iload_n (n := 5) d_Folder_longCharOf_4 rfl 1 rfl rfl ?_
  obtain ⟨r1, h2, hf⟩ := ob_bind hf
  refine c_Vr (n := 8) (st' := [.int r1, .int x1, .ref 8, .int x2]) [.int x1] [.int x1, .ref 8, .int x2] d_Folder_longCharOf_5 rfl (s_Folder_partsOf htr h2 rfl) tw_451 tw_452 tw_453 tw_5 tw_454 hd_Folder_partsOf (by omega) (by decide) (ci := 1) rfl rfl rfl (Nat.le_of_ble_eq_true rfl) rfl rfl ?_
  obtain ⟨r3, h4, hf⟩ := ob_bind hf
  refine c_Vr (n := 11) (st' := [.int r3, .int x2]) [.int x1, .int r1] [.int x2] d_Folder_longCharOf_8 rfl (s_Folder_longLengthOf htr h4 rfl) tw_470 tw_471 tw_472 tw_5 tw_473 hd_Folder_longLengthOf (by omega) (by decide) (ci := 1) rfl rfl rfl (Nat.le_of_ble_eq_true rfl) rfl rfl ?_
  refine g_icmp_ge (n := 14) (tgt := 23) d_Folder_longCharOf_11 rfl (by decide) (fun q5 => ?_) (fun q5 => ?_)
  · have hf := ob_pos q5 hf
    refine g_iconst (n := 24) (v := (-1)) d_Folder_longCharOf_23 rfl (by decide) ?_
    cases hf
    exact g_iret d_Folder_longCharOf_24 rfl (Nat.zero_le _) (Nat.zero_le _)
  · have hf := ob_neg q5 hf
    refine g_aload_n (n := 15) d_Folder_longCharOf_14 rfl 0 rfl rfl ?_
    refine g_iload_n (n := 16) d_Folder_longCharOf_15 rfl 1 rfl rfl ?_
    refine g_iload_n (n := 17) d_Folder_longCharOf_16 rfl 2 rfl rfl ?_
    obtain ⟨r6, h7, hf⟩ := ob_bind hf
    refine c_Vr (n := 20) (st' := [.int r6]) [.int x1, .int x2] [] d_Folder_longCharOf_17 rfl (s_Folder_longByteOf htr h7 rfl) tw_474 tw_475 tw_476 tw_5 tw_477 hd_Folder_longByteOf (by omega) (by decide) (ci := 1) rfl rfl rfl (Nat.le_of_ble_eq_true rfl) rfl rfl ?_
    refine g_goto (n := 24) d_Folder_longCharOf_20 (by decide) ?_
    cases hf
    exact g_iret d_Folder_longCharOf_24 rfl (Nat.zero_le _) (Nat.zero_le _)
def f_Folder_sizeOf (bt : Nat → Int32) (ct : Int32) (ad : Nat → Int32) (x1 : Int32) : Option (Int32) :=
  ((f_Folder_pairOf bt ct ad x1 10).bind fun r1 => some r1)
set_option maxHeartbeats 4000000 in
set_option maxRecDepth 100000 in
theorem s_Folder_sizeOf {l : Launch} {D : va_G} {dA : FieldType → ClassId} (htr : l.stackTraces = false) {rest : List am_E} {ll : Int32} {he : Int32} {de : Int32} {li : Nat → Int32} {en : Nat → Int32} {po : Nat → Int32} {pw : Int32} {su : Int32} {wr : Int32} {cs : Int32} {wb : Int32} {bt : Nat → Int32} {ct : Int32} {lc : Int32} {ad : Nat → Int32} {ctb : Int32} {lcb : Int32} {adb : Nat → Int32} {fx : Int32} {us : Nat → Int32} {ln : Int32} {pt : Int32} {tx : Nat → Int32} {br : Nat → Int32} {rw : Nat → Int32}  {x1 : Int32} {r : Int32} (hf : f_Folder_sizeOf bt ct ad x1 = some r) {o : am_O} (ho : .inl (some (.int r)) = o) :
    am_M (am_kk l D dA) y_Folder_sizeOf ws_Folder_sizeOf (am_rm 2 o) [.ref 8, .int x1] (hC ll he de li en po pw su wr cs wb bt ct lc ad ctb lcb adb fx us ln pt tx br rw rest) o (hC ll he de li en po pw su wr cs wb bt ct lc ad ctb lcb adb fx us ln pt tx br rw rest) := by
  subst ho
  refine am_body (by decide) rfl (Nat.le_of_ble_eq_true rfl) rfl ?_
  rw [f_Folder_sizeOf] at hf
  refine g_aload_n (n := 1) d_Folder_sizeOf_0 rfl 0 rfl rfl ?_
  refine g_iload_n (n := 2) d_Folder_sizeOf_1 rfl 1 rfl rfl ?_
  refine g_bipush (n := 4) (v := 10) d_Folder_sizeOf_2 rfl (by decide) ?_
  obtain ⟨r1, h2, hf⟩ := ob_bind hf
  refine c_Vr (n := 7) (st' := [.int r1]) [.int x1, .int 10] [] d_Folder_sizeOf_4 rfl (s_Folder_pairOf htr h2 rfl) tw_629 tw_630 tw_631 tw_5 tw_632 hd_Folder_pairOf (by omega) (by decide) (ci := 1) rfl rfl rfl (Nat.le_of_ble_eq_true rfl) rfl rfl ?_
  cases hf
  exact g_iret d_Folder_sizeOf_7 rfl (Nat.zero_le _) (Nat.zero_le _)
def f_V_list (he : Int32) (pw : Int32) (su : Int32) (bt : Nat → Int32) (ct : Int32) (lc : Int32) (ad : Nat → Int32) (x1 : Int32) (x2 : Int32) : Option ((String ⊕ Int32) × Int32 × Int32 × (Nat → Int32)) :=
  ((f_V_demandSoundDisk pw su).bind fun r1 => am_t r1 (fun E3 => some (.inl E3, ct, lc, ad)) (fun v4 => ((f_Folder_load bt ct lc ad he).bind fun r6 => ((f_Folder_indexOfNamed bt r6.1 r6.2.2 x1).bind fun r8 => (if r8 = (-1) then some (.inl "java/util/NoSuchElementException", r6.1, r6.2.1, r6.2.2) else ((f_V_canBeListed x2).bind fun r11 => (if r11 = 0 then some (.inl "java/lang/IndexOutOfBoundsException", r6.1, r6.2.1, r6.2.2) else (if x2 = 0 then ((f_Folder_kindOf bt r6.1 r6.2.2 r8).bind fun r15 => some (.inr r15, r6.1, r6.2.1, r6.2.2)) else (if x2 = 1 then ((f_Folder_sizeOf bt r6.1 r6.2.2 r8).bind fun r18 => some (.inr r18, r6.1, r6.2.1, r6.2.2)) else (if x2 = 2 then ((f_Folder_firstClusterOf bt r6.1 r6.2.2 r8).bind fun r21 => some (.inr r21, r6.1, r6.2.1, r6.2.2)) else (if x2 = 3 then ((f_Folder_partsOf bt r6.1 r6.2.2 r8).bind fun r24 => ((f_Folder_longLengthOf bt r6.1 r6.2.2 r8 r24).bind fun r26 => some (.inr r26, r6.1, r6.2.1, r6.2.2))) else (if 20 ≤ x2 then ((f_Folder_longCharOf bt r6.1 r6.2.2 r8 (x2 - 20)).bind fun r29 => some (.inr r29, r6.1, r6.2.1, r6.2.2)) else ((f_Folder_shortCharOf bt r6.1 r6.2.2 r8 (x2 - 10)).bind fun r31 => some (.inr r31, r6.1, r6.2.1, r6.2.2))))))))))))))
set_option maxHeartbeats 4000000 in
set_option maxRecDepth 100000 in
theorem s_V_list {l : Launch} {D : va_G} {dA : FieldType → ClassId} (htr : l.stackTraces = false) {rest : List am_E} {ll : Int32} {he : Int32} {de : Int32} {li : Nat → Int32} {en : Nat → Int32} {po : Nat → Int32} {pw : Int32} {su : Int32} {wr : Int32} {cs : Int32} {wb : Int32} {bt : Nat → Int32} {ct : Int32} {lc : Int32} {ad : Nat → Int32} {ctb : Int32} {lcb : Int32} {adb : Nat → Int32} {fx : Int32} {us : Nat → Int32} {ln : Int32} {pt : Int32} {tx : Nat → Int32} {br : Nat → Int32} {rw : Nat → Int32}  {x1 : Int32} {x2 : Int32} {r : (String ⊕ Int32) × Int32 × Int32 × (Nat → Int32)} (hf : f_V_list he pw su bt ct lc ad x1 x2 = some r) {o : am_O} (ho : am_oi r.1 = o) :
    am_M (am_kk l D dA) y_V_list ws_V_list (am_rm 5 o) [.ref 0, .int x1, .int x2] (hC ll he de li en po pw su wr cs wb bt ct lc ad ctb lcb adb fx us ln pt tx br rw rest) o (hC ll he de li en po pw su wr cs wb bt r.2.1 r.2.2.1 r.2.2.2 ctb lcb adb fx us ln pt tx br rw rest) := by
  subst ho
  refine am_body (by decide) rfl (Nat.le_of_ble_eq_true rfl) rfl ?_
  rw [f_V_list] at hf
  refine g_aload_n (n := 1) d_V_list_0 rfl 0 rfl rfl ?_
  obtain ⟨r1, h2, hf⟩ := ob_bind hf
  rcases ob_t hf with ⟨E3, w5, hf⟩ | ⟨v4, w5, hf⟩
  · cases hf
    refine c_Vx (n := 4) (st' := []) [] [] d_V_list_1 rfl (s_V_demandSoundDisk htr h2 (by rw [w5]; rfl)) tw_305 tw_307 (am_memS 1 (by decide +kernel) (by decide +kernel)) tw_1 tw_308 hd_V_demandSoundDisk (by omega) (by decide) (ci := 6) rfl rfl rfl (Nat.le_of_ble_eq_true rfl) rfl ?_
    exact g_out rfl (Nat.le_refl _) (Nat.le_refl _)
  · refine c_Vr (n := 4) (st' := []) [] [] d_V_list_1 rfl (s_V_demandSoundDisk htr h2 (by rw [w5]; rfl)) tw_305 tw_307 (am_memS 1 (by decide +kernel) (by decide +kernel)) tw_1 tw_308 hd_V_demandSoundDisk (by omega) (by decide) (ci := 6) rfl rfl rfl (Nat.le_of_ble_eq_true rfl) rfl rfl ?_
    refine g_aload_n (n := 5) d_V_list_4 rfl 0 rfl rfl ?_
    refine g_get (n := 8) (q0 := 0) d_V_list_5 rfl (am_fl in_V rfl (by decide : 3 < 8)) (List.mem_cons_of_mem _ tw_176) rfl rfl ?_
    refine g_aload_n (n := 9) d_V_list_8 rfl 0 rfl rfl ?_
    refine g_get (n := 12) (q0 := 0) d_V_list_9 rfl (am_fl in_V rfl (by decide : 0 < 8)) (List.mem_cons_of_mem _ tw_173) rfl rfl ?_
    refine g_getN (n := 15) (q0 := 1) d_V_list_12 rfl (am_fl in_Ses rfl (by decide : 4 < 6)) nw_45 rfl rfl ?_
    obtain ⟨r6, h7, hf⟩ := ob_bind hf
    refine c_Vr (n := 18) (st' := []) [.int he] [] d_V_list_15 rfl (s_Folder_load htr h7 rfl) tw_407 tw_408 tw_409 tw_5 tw_410 hd_Folder_load (by omega) (by decide) (ci := 1) rfl rfl rfl (Nat.le_of_ble_eq_true rfl) rfl rfl ?_
    refine g_aload_n (n := 19) d_V_list_18 rfl 0 rfl rfl ?_
    refine g_get (n := 22) (q0 := 0) d_V_list_19 rfl (am_fl in_V rfl (by decide : 3 < 8)) (List.mem_cons_of_mem _ tw_176) rfl rfl ?_
    refine g_iload_n (n := 23) d_V_list_22 rfl 1 rfl rfl ?_
    obtain ⟨r8, h9, hf⟩ := ob_bind hf
    refine c_Vr (n := 26) (st' := [.int r8]) [.int x1] [] d_V_list_23 rfl (s_Folder_indexOfNamed htr h9 rfl) tw_740 tw_741 tw_742 tw_5 tw_743 hd_Folder_indexOfNamed (by omega) (by decide) (ci := 1) rfl rfl rfl (Nat.le_of_ble_eq_true rfl) rfl rfl ?_
    refine g_istore_n (n := 27) (ls' := [(3, .int r8), (0, .ref 0), (1, .int x1), (2, .int x2)]) d_V_list_26 rfl rfl (am_ltb rfl) rfl ?_
    refine g_iload_n (n := 28) d_V_list_27 rfl 0 rfl rfl ?_
    refine g_iconst (n := 29) (v := (-1)) d_V_list_28 rfl (by decide) ?_
    refine g_icmp_ne (n := 32) (tgt := 42) d_V_list_29 rfl (by decide) (fun q10 => ?_) (fun q10 => ?_)
    · have hf := ob_neg q10 hf
      refine g_iload_n (n := 43) d_V_list_42 rfl 3 rfl rfl ?_
      obtain ⟨r11, h12, hf⟩ := ob_bind hf
      refine c_Sr (n := 46) (st' := [.int r11]) [.int x2] [] d_V_list_43 rfl (s_V_canBeListed htr h12 rfl) tw_745 tw_746 tw_1 tw_747 rfl hd_V_canBeListed (by omega) (by decide) rfl (Nat.le_of_ble_eq_true rfl) rfl rfl ?_
      refine g_if_ne (n := 49) (tgt := 59) d_V_list_46 rfl (by decide) (fun q13 => ?_) (fun q13 => ?_)
      · have hf := ob_neg q13 hf
        refine g_iload_n (n := 60) d_V_list_59 rfl 3 rfl rfl ?_
        by_cases q14 : x2 = 0
        · have hf := ob_pos q14 hf
          refine g_tabIn (n := 92) d_V_list_60 (by rw [q14]; decide) (by rw [q14]; decide) (by rw [q14]; rfl) (by decide) ?_
          refine g_aload_n (n := 93) d_V_list_92 rfl 1 rfl rfl ?_
          refine g_get (n := 96) (q0 := 0) d_V_list_93 rfl (am_fl in_V rfl (by decide : 3 < 8)) (List.mem_cons_of_mem _ tw_176) rfl rfl ?_
          refine g_iload_n (n := 97) d_V_list_96 rfl 0 rfl rfl ?_
          obtain ⟨r15, h16, hf⟩ := ob_bind hf
          refine c_Vr (n := 100) (st' := [.int r15]) [.int r8] [] d_V_list_97 rfl (s_Folder_kindOf htr h16 rfl) tw_620 tw_423 tw_424 tw_5 tw_425 hd_Folder_kindOf (by omega) (by decide) (ci := 1) rfl rfl rfl (Nat.le_of_ble_eq_true rfl) rfl rfl ?_
          cases hf
          exact g_iret d_V_list_100 rfl (Nat.zero_le _) (Nat.zero_le _)
        · have hf := ob_neg q14 hf
          by_cases q17 : x2 = 1
          · have hf := ob_pos q17 hf
            refine g_tabIn (n := 101) d_V_list_60 (by rw [q17]; decide) (by rw [q17]; decide) (by rw [q17]; rfl) (by decide) ?_
            refine g_aload_n (n := 102) d_V_list_101 rfl 1 rfl rfl ?_
            refine g_get (n := 105) (q0 := 0) d_V_list_102 rfl (am_fl in_V rfl (by decide : 3 < 8)) (List.mem_cons_of_mem _ tw_176) rfl rfl ?_
            refine g_iload_n (n := 106) d_V_list_105 rfl 0 rfl rfl ?_
            obtain ⟨r18, h19, hf⟩ := ob_bind hf
            refine c_Vr (n := 109) (st' := [.int r18]) [.int r8] [] d_V_list_106 rfl (s_Folder_sizeOf htr h19 rfl) tw_764 tw_765 tw_766 tw_5 tw_767 hd_Folder_sizeOf (by omega) (by decide) (ci := 1) rfl rfl rfl (Nat.le_of_ble_eq_true rfl) rfl rfl ?_
            cases hf
            exact g_iret d_V_list_109 rfl (Nat.zero_le _) (Nat.zero_le _)
          · have hf := ob_neg q17 hf
            by_cases q20 : x2 = 2
            · have hf := ob_pos q20 hf
              refine g_tabIn (n := 110) d_V_list_60 (by rw [q20]; decide) (by rw [q20]; decide) (by rw [q20]; rfl) (by decide) ?_
              refine g_aload_n (n := 111) d_V_list_110 rfl 1 rfl rfl ?_
              refine g_get (n := 114) (q0 := 0) d_V_list_111 rfl (am_fl in_V rfl (by decide : 3 < 8)) (List.mem_cons_of_mem _ tw_176) rfl rfl ?_
              refine g_iload_n (n := 115) d_V_list_114 rfl 0 rfl rfl ?_
              obtain ⟨r21, h22, hf⟩ := ob_bind hf
              refine c_Vr (n := 118) (st' := [.int r21]) [.int r8] [] d_V_list_115 rfl (s_Folder_firstClusterOf htr h22 rfl) tw_625 tw_626 tw_627 tw_5 tw_628 hd_Folder_firstClusterOf (by omega) (by decide) (ci := 1) rfl rfl rfl (Nat.le_of_ble_eq_true rfl) rfl rfl ?_
              cases hf
              exact g_iret d_V_list_118 rfl (Nat.zero_le _) (Nat.zero_le _)
            · have hf := ob_neg q20 hf
              by_cases q23 : x2 = 3
              · have hf := ob_pos q23 hf
                refine g_tabIn (n := 119) d_V_list_60 (by rw [q23]; decide) (by rw [q23]; decide) (by rw [q23]; rfl) (by decide) ?_
                refine g_aload_n (n := 120) d_V_list_119 rfl 1 rfl rfl ?_
                refine g_get (n := 123) (q0 := 0) d_V_list_120 rfl (am_fl in_V rfl (by decide : 3 < 8)) (List.mem_cons_of_mem _ tw_176) rfl rfl ?_
                refine g_iload_n (n := 124) d_V_list_123 rfl 0 rfl rfl ?_
                refine g_aload_n (n := 125) d_V_list_124 rfl 1 rfl rfl ?_
                refine g_get (n := 128) (q0 := 0) d_V_list_125 rfl (am_fl in_V rfl (by decide : 3 < 8)) (List.mem_cons_of_mem _ tw_176) rfl rfl ?_
                refine g_iload_n (n := 129) d_V_list_128 rfl 0 rfl rfl ?_
                obtain ⟨r24, h25, hf⟩ := ob_bind hf
                refine c_Vr (n := 132) (st' := [.int r24, .int r8, .ref 8]) [.int r8] [.int r8, .ref 8] d_V_list_129 rfl (s_Folder_partsOf htr h25 rfl) tw_768 tw_452 tw_453 tw_5 tw_454 hd_Folder_partsOf (by omega) (by decide) (ci := 1) rfl rfl rfl (Nat.le_of_ble_eq_true rfl) rfl rfl ?_
                obtain ⟨r26, h27, hf⟩ := ob_bind hf
                refine c_Vr (n := 135) (st' := [.int r26]) [.int r8, .int r24] [] d_V_list_132 rfl (s_Folder_longLengthOf htr h27 rfl) tw_769 tw_471 tw_472 tw_5 tw_473 hd_Folder_longLengthOf (by omega) (by decide) (ci := 1) rfl rfl rfl (Nat.le_of_ble_eq_true rfl) rfl rfl ?_
                cases hf
                exact g_iret d_V_list_135 rfl (Nat.zero_le _) (Nat.zero_le _)
              · have hf := ob_neg q23 hf
                refine g_tabOut (n := 136) d_V_list_60 (by have z0 := lv_neT q14 (a := 0) (by decide); have z1 := lv_neT q17 (a := 1) (by decide); have z2 := lv_neT q20 (a := 2) (by decide); have z3 := lv_neT q23 (a := 3) (by decide); omega) (by decide) ?_
                refine g_iload_n (n := 137) d_V_list_136 rfl 3 rfl rfl ?_
                refine g_bipush (n := 139) (v := 20) d_V_list_137 rfl (by decide) ?_
                refine g_icmp_ge (n := 142) (tgt := 157) d_V_list_139 rfl (by decide) (fun q28 => ?_) (fun q28 => ?_)
                · have hf := ob_pos q28 hf
                  refine g_aload_n (n := 158) d_V_list_157 rfl 1 rfl rfl ?_
                  refine g_get (n := 161) (q0 := 0) d_V_list_158 rfl (am_fl in_V rfl (by decide : 3 < 8)) (List.mem_cons_of_mem _ tw_176) rfl rfl ?_
                  refine g_iload_n (n := 162) d_V_list_161 rfl 0 rfl rfl ?_
                  refine g_iload_n (n := 163) d_V_list_162 rfl 3 rfl rfl ?_
                  refine g_bipush (n := 165) (v := 20) d_V_list_163 rfl (by decide) ?_
                  refine g_isub (n := 166) d_V_list_165 rfl ?_
                  obtain ⟨r29, h30, hf⟩ := ob_bind hf
                  refine c_Vr (n := 169) (st' := [.int r29]) [.int r8, .int (x2 - 20)] [] d_V_list_166 rfl (s_Folder_longCharOf htr h30 rfl) tw_774 tw_775 tw_776 tw_5 tw_777 hd_Folder_longCharOf (by omega) (by decide) (ci := 1) rfl rfl rfl (Nat.le_of_ble_eq_true rfl) rfl rfl ?_
                  cases hf
                  exact g_iret d_V_list_169 rfl (Nat.zero_le _) (Nat.zero_le _)
                · have hf := ob_neg q28 hf
                  refine g_aload_n (n := 143) d_V_list_142 rfl 1 rfl rfl ?_
                  refine g_get (n := 146) (q0 := 0) d_V_list_143 rfl (am_fl in_V rfl (by decide : 3 < 8)) (List.mem_cons_of_mem _ tw_176) rfl rfl ?_
                  refine g_iload_n (n := 147) d_V_list_146 rfl 0 rfl rfl ?_
                  refine g_iload_n (n := 148) d_V_list_147 rfl 3 rfl rfl ?_
                  refine g_bipush (n := 150) (v := 10) d_V_list_148 rfl (by decide) ?_
                  refine g_isub (n := 151) d_V_list_150 rfl ?_
                  obtain ⟨r31, h32, hf⟩ := ob_bind hf
                  refine c_Vr (n := 154) (st' := [.int r31]) [.int r8, .int (x2 - 10)] [] d_V_list_151 rfl (s_Folder_shortCharOf htr h32 rfl) tw_770 tw_771 tw_772 tw_5 tw_773 hd_Folder_shortCharOf (by omega) (by decide) (ci := 1) rfl rfl rfl (Nat.le_of_ble_eq_true rfl) rfl rfl ?_
                  refine g_goto (n := 169) d_V_list_154 (by decide) ?_
                  cases hf
                  exact g_iret d_V_list_169 rfl (Nat.zero_le _) (Nat.zero_le _)
      · have hf := ob_pos q13 hf
        cases hf
        exact c_T htr (by decide +kernel) e_IndexOutOfBoundsException_0 e_IndexOutOfBoundsException_1 e_IndexOutOfBoundsException_2 e_IndexOutOfBoundsException_5 tw_748 tw_17 rfl (List.mem_of_getElem? (i := 14) rfl) at_V_237 d_V_list_49 d_V_list_52 (Or.inl ⟨d_V_list_53, rfl⟩) d_V_list_55 d_V_list_58 (Nat.le_of_ble_eq_true rfl)
    · have hf := ob_pos q10 hf
      cases hf
      exact c_T htr (by decide +kernel) e_NoSuchElementException_0 e_NoSuchElementException_1 e_NoSuchElementException_2 e_NoSuchElementException_5 tw_600 tw_15 rfl (List.mem_of_getElem? (i := 13) rfl) at_V_132 d_V_list_32 d_V_list_35 (Or.inl ⟨d_V_list_36, rfl⟩) d_V_list_38 d_V_list_41 (Nat.le_of_ble_eq_true rfl)
end
section
def f_Disk_setCut (pw : Int32) (cs : Int32) (wb : Int32) (x1 : Int32) : Option (Int32 × Int32 × Int32) :=
  (if x1 < 0 then some (0, cs, wb) else (if pw = 0 then some (0, cs, wb) else some (1, 1, x1)))
set_option maxHeartbeats 4000000 in
set_option maxRecDepth 100000 in
theorem s_Disk_setCut {l : Launch} {D : va_G} {dA : FieldType → ClassId} (htr : l.stackTraces = false) {rest : List am_E} {ll : Int32} {he : Int32} {de : Int32} {li : Nat → Int32} {en : Nat → Int32} {po : Nat → Int32} {pw : Int32} {su : Int32} {wr : Int32} {cs : Int32} {wb : Int32} {bt : Nat → Int32} {ct : Int32} {lc : Int32} {ad : Nat → Int32} {ctb : Int32} {lcb : Int32} {adb : Nat → Int32} {fx : Int32} {us : Nat → Int32} {ln : Int32} {pt : Int32} {tx : Nat → Int32} {br : Nat → Int32} {rw : Nat → Int32}  {x1 : Int32} {r : Int32 × Int32 × Int32} (hf : f_Disk_setCut pw cs wb x1 = some r) {o : am_O} (ho : .inl (some (.int r.1)) = o) :
    am_M (am_kk l D dA) y_Disk_setCut ws_Disk_setCut (am_rm 0 o) [.ref 5, .int x1] (hC ll he de li en po pw su wr cs wb bt ct lc ad ctb lcb adb fx us ln pt tx br rw rest) o (hC ll he de li en po pw su wr r.2.1 r.2.2 bt ct lc ad ctb lcb adb fx us ln pt tx br rw rest) := by
  subst ho
  refine am_body (by decide) rfl (Nat.le_of_ble_eq_true rfl) rfl ?_
  rw [f_Disk_setCut] at hf
  refine g_iload_n (n := 1) d_Disk_setCut_0 rfl 1 rfl rfl ?_
  refine g_if_lt (n := 4) (tgt := 11) d_Disk_setCut_1 rfl (by decide) (fun q1 => ?_) (fun q1 => ?_)
  · have hf := ob_pos q1 hf
    refine g_iconst (n := 12) (v := 0) d_Disk_setCut_11 rfl (by decide) ?_
    cases hf
    exact g_zret d_Disk_setCut_12 rfl am_z0 (Nat.zero_le _) (Nat.zero_le _)
  · have hf := ob_neg q1 hf
    refine g_aload_n (n := 5) d_Disk_setCut_4 rfl 0 rfl rfl ?_
    refine g_get (n := 8) (q0 := 5) d_Disk_setCut_5 rfl (am_fl in_Disk rfl (by decide : 2 < 7)) (List.mem_cons_of_mem _ tw_71) rfl rfl ?_
    refine g_if_ne (n := 11) (tgt := 13) d_Disk_setCut_8 rfl (by decide) (fun q2 => ?_) (fun q2 => ?_)
    · have hf := ob_neg q2 hf
      refine g_aload_n (n := 14) d_Disk_setCut_13 rfl 0 rfl rfl ?_
      refine g_iconst (n := 15) (v := 1) d_Disk_setCut_14 rfl (by decide) ?_
      refine g_put (n := 18) (q0 := 5) (h' := (hC ll he de li en po pw su wr 1 wb bt ct lc ad ctb lcb adb fx us ln pt tx br rw rest)) d_Disk_setCut_15 rfl (am_fl in_Disk rfl (by decide : 5 < 7)) typ_Disk (List.mem_cons_of_mem _ tw_76) rfl (fun _ _ => rfl) (fun _ _ => rfl) rfl (am_ltb rfl) rfl ?_
      refine g_aload_n (n := 19) d_Disk_setCut_18 rfl 0 rfl rfl ?_
      refine g_iload_n (n := 20) d_Disk_setCut_19 rfl 1 rfl rfl ?_
      refine g_put (n := 23) (q0 := 5) (h' := (hC ll he de li en po pw su wr 1 x1 bt ct lc ad ctb lcb adb fx us ln pt tx br rw rest)) d_Disk_setCut_20 rfl (am_fl in_Disk rfl (by decide : 6 < 7)) typ_Disk (List.mem_cons_of_mem _ tw_77) rfl (fun _ _ => rfl) (fun _ _ => rfl) rfl (am_ltb rfl) rfl ?_
      refine g_iconst (n := 24) (v := 1) d_Disk_setCut_23 rfl (by decide) ?_
      cases hf
      exact g_zret d_Disk_setCut_24 rfl am_z1 (Nat.zero_le _) (Nat.zero_le _)
    · have hf := ob_pos q2 hf
      refine g_iconst (n := 12) (v := 0) d_Disk_setCut_11 rfl (by decide) ?_
      cases hf
      exact g_zret d_Disk_setCut_12 rfl am_z0 (Nat.zero_le _) (Nat.zero_le _)
def f_V_cut (pw : Int32) (cs : Int32) (wb : Int32) (x1 : Int32) : Option (Int32 × Int32 × Int32) :=
  ((f_Disk_setCut pw cs wb x1).bind fun r1 => (if am_bl r1.1 = true then some (r1.1, r1.2.1, r1.2.2) else none))
set_option maxHeartbeats 4000000 in
set_option maxRecDepth 100000 in
theorem s_V_cut {l : Launch} {D : va_G} {dA : FieldType → ClassId} (htr : l.stackTraces = false) {rest : List am_E} {ll : Int32} {he : Int32} {de : Int32} {li : Nat → Int32} {en : Nat → Int32} {po : Nat → Int32} {pw : Int32} {su : Int32} {wr : Int32} {cs : Int32} {wb : Int32} {bt : Nat → Int32} {ct : Int32} {lc : Int32} {ad : Nat → Int32} {ctb : Int32} {lcb : Int32} {adb : Nat → Int32} {fx : Int32} {us : Nat → Int32} {ln : Int32} {pt : Int32} {tx : Nat → Int32} {br : Nat → Int32} {rw : Nat → Int32}  {x1 : Int32} {r : Int32 × Int32 × Int32} (hf : f_V_cut pw cs wb x1 = some r) {o : am_O} (ho : .inl (some (.int r.1)) = o) :
    am_M (am_kk l D dA) y_V_cut ws_V_cut (am_rm 1 o) [.ref 0, .int x1] (hC ll he de li en po pw su wr cs wb bt ct lc ad ctb lcb adb fx us ln pt tx br rw rest) o (hC ll he de li en po pw su wr r.2.1 r.2.2 bt ct lc ad ctb lcb adb fx us ln pt tx br rw rest) := by
  subst ho
  refine am_body (by decide) rfl (Nat.le_of_ble_eq_true rfl) rfl ?_
  rw [f_V_cut] at hf
  refine g_aload_n (n := 1) d_V_cut_0 rfl 0 rfl rfl ?_
  refine g_get (n := 4) (q0 := 0) d_V_cut_1 rfl (am_fl in_V rfl (by decide : 1 < 8)) (List.mem_cons_of_mem _ tw_174) rfl rfl ?_
  refine g_iload_n (n := 5) d_V_cut_4 rfl 1 rfl rfl ?_
  obtain ⟨r1, h2, hf⟩ := ob_bind hf
  refine c_Vr (n := 8) (st' := [.int r1.1]) [.int x1] [] d_V_cut_5 rfl (s_Disk_setCut htr h2 rfl) tw_242 tw_243 tw_244 tw_3 tw_245 hd_Disk_setCut (by omega) (by decide) (ci := 0) rfl rfl rfl (Nat.le_of_ble_eq_true rfl) rfl rfl ?_
  obtain ⟨b3, hf⟩ := ob_chk hf
  cases hf
  exact g_zret d_V_cut_8 rfl (am_blz b3) (Nat.zero_le _) (Nat.zero_le _)
def f_Disk_switchOn (pw : Int32) : Option (Int32 × Int32) :=
  (if pw = 0 then some (1, 1) else some (0, 1))
set_option maxHeartbeats 4000000 in
set_option maxRecDepth 100000 in
theorem s_Disk_switchOn {l : Launch} {D : va_G} {dA : FieldType → ClassId} (htr : l.stackTraces = false) {rest : List am_E} {ll : Int32} {he : Int32} {de : Int32} {li : Nat → Int32} {en : Nat → Int32} {po : Nat → Int32} {pw : Int32} {su : Int32} {wr : Int32} {cs : Int32} {wb : Int32} {bt : Nat → Int32} {ct : Int32} {lc : Int32} {ad : Nat → Int32} {ctb : Int32} {lcb : Int32} {adb : Nat → Int32} {fx : Int32} {us : Nat → Int32} {ln : Int32} {pt : Int32} {tx : Nat → Int32} {br : Nat → Int32} {rw : Nat → Int32}   {r : Int32 × Int32} (hf : f_Disk_switchOn pw = some r) {o : am_O} (ho : .inl (some (.int r.1)) = o) :
    am_M (am_kk l D dA) y_Disk_switchOn ws_Disk_switchOn (am_rm 0 o) [.ref 5] (hC ll he de li en po pw su wr cs wb bt ct lc ad ctb lcb adb fx us ln pt tx br rw rest) o (hC ll he de li en po r.2 su wr cs wb bt ct lc ad ctb lcb adb fx us ln pt tx br rw rest) := by
  subst ho
  refine am_body (by decide) rfl (Nat.le_of_ble_eq_true rfl) rfl ?_
  rw [f_Disk_switchOn] at hf
  refine g_aload_n (n := 1) d_Disk_switchOn_0 rfl 0 rfl rfl ?_
  refine g_get (n := 4) (q0 := 5) d_Disk_switchOn_1 rfl (am_fl in_Disk rfl (by decide : 2 < 7)) (List.mem_cons_of_mem _ tw_71) rfl rfl ?_
  refine g_if_ne (n := 7) (tgt := 11) d_Disk_switchOn_4 rfl (by decide) (fun q1 => ?_) (fun q1 => ?_)
  · have hf := ob_neg q1 hf
    refine g_iconst (n := 12) (v := 0) d_Disk_switchOn_11 rfl (by decide) ?_
    refine g_istore_n (n := 13) (ls' := [(1, .int 0), (0, .ref 5)]) d_Disk_switchOn_12 rfl rfl (am_ltb rfl) rfl ?_
    refine g_aload_n (n := 14) d_Disk_switchOn_13 rfl 1 rfl rfl ?_
    refine g_iconst (n := 15) (v := 1) d_Disk_switchOn_14 rfl (by decide) ?_
    refine g_put (n := 18) (q0 := 5) (h' := (hC ll he de li en po 1 su wr cs wb bt ct lc ad ctb lcb adb fx us ln pt tx br rw rest)) d_Disk_switchOn_15 rfl (am_fl in_Disk rfl (by decide : 2 < 7)) typ_Disk (List.mem_cons_of_mem _ tw_71) rfl (fun _ _ => rfl) (fun _ _ => rfl) rfl (am_ltb rfl) rfl ?_
    refine g_iload_n (n := 19) d_Disk_switchOn_18 rfl 0 rfl rfl ?_
    cases hf
    exact g_zret d_Disk_switchOn_19 rfl am_z0 (Nat.zero_le _) (Nat.zero_le _)
  · have hf := ob_pos q1 hf
    refine g_iconst (n := 8) (v := 1) d_Disk_switchOn_7 rfl (by decide) ?_
    refine g_goto (n := 12) d_Disk_switchOn_8 (by decide) ?_
    refine g_istore_n (n := 13) (ls' := [(1, .int 1), (0, .ref 5)]) d_Disk_switchOn_12 rfl rfl (am_ltb rfl) rfl ?_
    refine g_aload_n (n := 14) d_Disk_switchOn_13 rfl 1 rfl rfl ?_
    refine g_iconst (n := 15) (v := 1) d_Disk_switchOn_14 rfl (by decide) ?_
    refine g_put (n := 18) (q0 := 5) (h' := (hC ll he de li en po 1 su wr cs wb bt ct lc ad ctb lcb adb fx us ln pt tx br rw rest)) d_Disk_switchOn_15 rfl (am_fl in_Disk rfl (by decide : 2 < 7)) typ_Disk (List.mem_cons_of_mem _ tw_71) rfl (fun _ _ => rfl) (fun _ _ => rfl) rfl (am_ltb rfl) rfl ?_
    refine g_iload_n (n := 19) d_Disk_switchOn_18 rfl 0 rfl rfl ?_
    cases hf
    exact g_zret d_Disk_switchOn_19 rfl am_z1 (Nat.zero_le _) (Nat.zero_le _)
def f_V_power (pw : Int32) : Option (Int32 × Int32) :=
  ((f_Disk_switchOn pw).bind fun r1 => (if am_bl r1.1 = true then some (r1.1, r1.2) else none))
set_option maxHeartbeats 4000000 in
set_option maxRecDepth 100000 in
theorem s_V_power {l : Launch} {D : va_G} {dA : FieldType → ClassId} (htr : l.stackTraces = false) {rest : List am_E} {ll : Int32} {he : Int32} {de : Int32} {li : Nat → Int32} {en : Nat → Int32} {po : Nat → Int32} {pw : Int32} {su : Int32} {wr : Int32} {cs : Int32} {wb : Int32} {bt : Nat → Int32} {ct : Int32} {lc : Int32} {ad : Nat → Int32} {ctb : Int32} {lcb : Int32} {adb : Nat → Int32} {fx : Int32} {us : Nat → Int32} {ln : Int32} {pt : Int32} {tx : Nat → Int32} {br : Nat → Int32} {rw : Nat → Int32}   {r : Int32 × Int32} (hf : f_V_power pw = some r) {o : am_O} (ho : .inl (some (.int r.1)) = o) :
    am_M (am_kk l D dA) y_V_power ws_V_power (am_rm 1 o) [.ref 0] (hC ll he de li en po pw su wr cs wb bt ct lc ad ctb lcb adb fx us ln pt tx br rw rest) o (hC ll he de li en po r.2 su wr cs wb bt ct lc ad ctb lcb adb fx us ln pt tx br rw rest) := by
  subst ho
  refine am_body (by decide) rfl (Nat.le_of_ble_eq_true rfl) rfl ?_
  rw [f_V_power] at hf
  refine g_aload_n (n := 1) d_V_power_0 rfl 0 rfl rfl ?_
  refine g_get (n := 4) (q0 := 0) d_V_power_1 rfl (am_fl in_V rfl (by decide : 1 < 8)) (List.mem_cons_of_mem _ tw_174) rfl rfl ?_
  obtain ⟨r1, h2, hf⟩ := ob_bind hf
  refine c_Vr (n := 7) (st' := [.int r1.1]) [] [] d_V_power_4 rfl (s_Disk_switchOn htr h2 rfl) tw_250 tw_251 tw_252 tw_3 tw_253 hd_Disk_switchOn (by omega) (by decide) (ci := 0) rfl rfl rfl (Nat.le_of_ble_eq_true rfl) rfl rfl ?_
  obtain ⟨b3, hf⟩ := ob_chk hf
  cases hf
  exact g_zret d_V_power_7 rfl (am_blz b3) (Nat.zero_le _) (Nat.zero_le _)
def f_V_isOnDisk (x0 : Int32) (x1 : Int32) : Option (Int32) :=
  (if x0 < 0 then some 0 else (if 70 ≤ x0 then some 0 else (if x1 < 0 then some 0 else (if 32 ≤ x1 then some 0 else some 1))))
set_option maxHeartbeats 4000000 in
set_option maxRecDepth 100000 in
theorem s_V_isOnDisk {l : Launch} {D : va_G} {dA : FieldType → ClassId} (htr : l.stackTraces = false) {rest : List am_E} {ll : Int32} {he : Int32} {de : Int32} {li : Nat → Int32} {en : Nat → Int32} {po : Nat → Int32} {pw : Int32} {su : Int32} {wr : Int32} {cs : Int32} {wb : Int32} {bt : Nat → Int32} {ct : Int32} {lc : Int32} {ad : Nat → Int32} {ctb : Int32} {lcb : Int32} {adb : Nat → Int32} {fx : Int32} {us : Nat → Int32} {ln : Int32} {pt : Int32} {tx : Nat → Int32} {br : Nat → Int32} {rw : Nat → Int32}  {x0 : Int32} {x1 : Int32} {r : Int32} (hf : f_V_isOnDisk x0 x1 = some r) {o : am_O} (ho : .inl (some (.int r)) = o) :
    am_M (am_kk l D dA) y_V_isOnDisk ws_V_isOnDisk (am_rm 0 o) [.int x0, .int x1] (hC ll he de li en po pw su wr cs wb bt ct lc ad ctb lcb adb fx us ln pt tx br rw rest) o (hC ll he de li en po pw su wr cs wb bt ct lc ad ctb lcb adb fx us ln pt tx br rw rest) := by
  subst ho
  refine am_body (by decide) rfl (Nat.le_of_ble_eq_true rfl) rfl ?_
  rw [f_V_isOnDisk] at hf
  refine g_iload_n (n := 1) d_V_isOnDisk_0 rfl 0 rfl rfl ?_
  refine g_if_lt (n := 4) (tgt := 24) d_V_isOnDisk_1 rfl (by decide) (fun q1 => ?_) (fun q1 => ?_)
  · have hf := ob_pos q1 hf
    refine g_iconst (n := 25) (v := 0) d_V_isOnDisk_24 rfl (by decide) ?_
    cases hf
    exact g_zret d_V_isOnDisk_25 rfl am_z0 (Nat.zero_le _) (Nat.zero_le _)
  · have hf := ob_neg q1 hf
    refine g_iload_n (n := 5) d_V_isOnDisk_4 rfl 0 rfl rfl ?_
    refine g_bipush (n := 7) (v := 70) d_V_isOnDisk_5 rfl (by decide) ?_
    refine g_icmp_ge (n := 10) (tgt := 24) d_V_isOnDisk_7 rfl (by decide) (fun q2 => ?_) (fun q2 => ?_)
    · have hf := ob_pos q2 hf
      refine g_iconst (n := 25) (v := 0) d_V_isOnDisk_24 rfl (by decide) ?_
      cases hf
      exact g_zret d_V_isOnDisk_25 rfl am_z0 (Nat.zero_le _) (Nat.zero_le _)
    · have hf := ob_neg q2 hf
      refine g_iload_n (n := 11) d_V_isOnDisk_10 rfl 1 rfl rfl ?_
      refine g_if_lt (n := 14) (tgt := 24) d_V_isOnDisk_11 rfl (by decide) (fun q3 => ?_) (fun q3 => ?_)
      · have hf := ob_pos q3 hf
        refine g_iconst (n := 25) (v := 0) d_V_isOnDisk_24 rfl (by decide) ?_
        cases hf
        exact g_zret d_V_isOnDisk_25 rfl am_z0 (Nat.zero_le _) (Nat.zero_le _)
      · have hf := ob_neg q3 hf
        refine g_iload_n (n := 15) d_V_isOnDisk_14 rfl 1 rfl rfl ?_
        refine g_bipush (n := 17) (v := 32) d_V_isOnDisk_15 rfl (by decide) ?_
        refine g_icmp_ge (n := 20) (tgt := 24) d_V_isOnDisk_17 rfl (by decide) (fun q4 => ?_) (fun q4 => ?_)
        · have hf := ob_pos q4 hf
          refine g_iconst (n := 25) (v := 0) d_V_isOnDisk_24 rfl (by decide) ?_
          cases hf
          exact g_zret d_V_isOnDisk_25 rfl am_z0 (Nat.zero_le _) (Nat.zero_le _)
        · have hf := ob_neg q4 hf
          refine g_iconst (n := 21) (v := 1) d_V_isOnDisk_20 rfl (by decide) ?_
          refine g_goto (n := 25) d_V_isOnDisk_21 (by decide) ?_
          cases hf
          exact g_zret d_V_isOnDisk_25 rfl am_z1 (Nat.zero_le _) (Nat.zero_le _)
def f_V_octet (bt : Nat → Int32) (x1 : Int32) (x2 : Int32) : Option (Int32) :=
  ((f_V_isOnDisk x1 x2).bind fun r1 => (if r1 = 0 then some (-1) else ((f_Disk_at bt ((x1 * 32) + x2)).bind fun r4 => some r4)))
set_option maxHeartbeats 4000000 in
set_option maxRecDepth 100000 in
theorem s_V_octet {l : Launch} {D : va_G} {dA : FieldType → ClassId} (htr : l.stackTraces = false) {rest : List am_E} {ll : Int32} {he : Int32} {de : Int32} {li : Nat → Int32} {en : Nat → Int32} {po : Nat → Int32} {pw : Int32} {su : Int32} {wr : Int32} {cs : Int32} {wb : Int32} {bt : Nat → Int32} {ct : Int32} {lc : Int32} {ad : Nat → Int32} {ctb : Int32} {lcb : Int32} {adb : Nat → Int32} {fx : Int32} {us : Nat → Int32} {ln : Int32} {pt : Int32} {tx : Nat → Int32} {br : Nat → Int32} {rw : Nat → Int32}  {x1 : Int32} {x2 : Int32} {r : Int32} (hf : f_V_octet bt x1 x2 = some r) {o : am_O} (ho : .inl (some (.int r)) = o) :
    am_M (am_kk l D dA) y_V_octet ws_V_octet (am_rm 1 o) [.ref 0, .int x1, .int x2] (hC ll he de li en po pw su wr cs wb bt ct lc ad ctb lcb adb fx us ln pt tx br rw rest) o (hC ll he de li en po pw su wr cs wb bt ct lc ad ctb lcb adb fx us ln pt tx br rw rest) := by
  subst ho
  refine am_body (by decide) rfl (Nat.le_of_ble_eq_true rfl) rfl ?_
  rw [f_V_octet] at hf
  refine g_iload_n (n := 1) d_V_octet_0 rfl 1 rfl rfl ?_
  refine g_iload_n (n := 2) d_V_octet_1 rfl 2 rfl rfl ?_
  obtain ⟨r1, h2, hf⟩ := ob_bind hf
  refine c_Sr (n := 5) (st' := [.int r1]) [.int x1, .int x2] [] d_V_octet_2 rfl (s_V_isOnDisk htr h2 rfl) tw_258 tw_259 tw_1 tw_260 rfl hd_V_isOnDisk (by omega) (by decide) rfl (Nat.le_of_ble_eq_true rfl) rfl rfl ?_
  refine g_if_eq (n := 8) (tgt := 24) d_V_octet_5 rfl (by decide) (fun q3 => ?_) (fun q3 => ?_)
  · have hf := ob_pos q3 hf
    refine g_iconst (n := 25) (v := (-1)) d_V_octet_24 rfl (by decide) ?_
    cases hf
    exact g_iret d_V_octet_25 rfl (Nat.zero_le _) (Nat.zero_le _)
  · have hf := ob_neg q3 hf
    refine g_aload_n (n := 9) d_V_octet_8 rfl 0 rfl rfl ?_
    refine g_get (n := 12) (q0 := 0) d_V_octet_9 rfl (am_fl in_V rfl (by decide : 1 < 8)) (List.mem_cons_of_mem _ tw_174) rfl rfl ?_
    refine g_iload_n (n := 13) d_V_octet_12 rfl 1 rfl rfl ?_
    refine g_bipush (n := 15) (v := 32) d_V_octet_13 rfl (by decide) ?_
    refine g_imul (n := 16) d_V_octet_15 rfl ?_
    refine g_iload_n (n := 17) d_V_octet_16 rfl 2 rfl rfl ?_
    refine g_iadd (n := 18) d_V_octet_17 rfl ?_
    obtain ⟨r4, h5, hf⟩ := ob_bind hf
    refine c_Vr (n := 21) (st' := [.int r4]) [.int ((x1 * 32) + x2)] [] d_V_octet_18 rfl (s_Disk_at htr h5 rfl) tw_261 tw_262 tw_263 tw_3 tw_264 hd_Disk_at (by omega) (by decide) (ci := 0) rfl rfl rfl (Nat.le_of_ble_eq_true rfl) rfl rfl ?_
    refine g_goto (n := 25) d_V_octet_21 (by decide) ?_
    cases hf
    exact g_iret d_V_octet_25 rfl (Nat.zero_le _) (Nat.zero_le _)
def f_Disk_put (bt : Nat → Int32) (x1 : Int32) (x2 : Int32) : Option ((Nat → Int32)) :=
  (if x1 < 0 then some bt else (if 2240 ≤ x1 then some bt else (if am_in x1 2240 = true then some (upd bt x1.toNatClampNeg (x2 &&& 255)) else none)))
set_option maxHeartbeats 4000000 in
set_option maxRecDepth 100000 in
theorem s_Disk_put {l : Launch} {D : va_G} {dA : FieldType → ClassId} (htr : l.stackTraces = false) {rest : List am_E} {ll : Int32} {he : Int32} {de : Int32} {li : Nat → Int32} {en : Nat → Int32} {po : Nat → Int32} {pw : Int32} {su : Int32} {wr : Int32} {cs : Int32} {wb : Int32} {bt : Nat → Int32} {ct : Int32} {lc : Int32} {ad : Nat → Int32} {ctb : Int32} {lcb : Int32} {adb : Nat → Int32} {fx : Int32} {us : Nat → Int32} {ln : Int32} {pt : Int32} {tx : Nat → Int32} {br : Nat → Int32} {rw : Nat → Int32}  {x1 : Int32} {x2 : Int32} {r : (Nat → Int32)} (hf : f_Disk_put bt x1 x2 = some r) {o : am_O} (ho : .inl none = o) :
    am_M (am_kk l D dA) y_Disk_put ws_Disk_put (am_rm 0 o) [.ref 5, .int x1, .int x2] (hC ll he de li en po pw su wr cs wb bt ct lc ad ctb lcb adb fx us ln pt tx br rw rest) o (hC ll he de li en po pw su wr cs wb r ct lc ad ctb lcb adb fx us ln pt tx br rw rest) := by
  subst ho
  refine am_body (by decide) rfl (Nat.le_of_ble_eq_true rfl) rfl ?_
  rw [f_Disk_put] at hf
  refine g_iload_n (n := 1) d_Disk_put_0 rfl 1 rfl rfl ?_
  refine g_if_lt (n := 4) (tgt := 24) d_Disk_put_1 rfl (by decide) (fun q1 => ?_) (fun q1 => ?_)
  · have hf := ob_pos q1 hf
    cases hf
    exact g_vret d_Disk_put_24 rfl (Nat.zero_le _) (Nat.zero_le _)
  · have hf := ob_neg q1 hf
    refine g_iload_n (n := 5) d_Disk_put_4 rfl 1 rfl rfl ?_
    refine g_aload_n (n := 6) d_Disk_put_5 rfl 0 rfl rfl ?_
    refine g_get (n := 9) (q0 := 5) d_Disk_put_6 rfl (am_fl in_Disk rfl (by decide : 0 < 7)) (List.mem_cons_of_mem _ tw_69) rfl rfl ?_
    refine g_ialen (n := 10) (q0 := 6) (v := 2240) d_Disk_put_9 rfl rfl (by decide) ?_
    refine g_icmp_ge (n := 13) (tgt := 24) d_Disk_put_10 rfl (by decide) (fun q2 => ?_) (fun q2 => ?_)
    · have hf := ob_pos q2 hf
      cases hf
      exact g_vret d_Disk_put_24 rfl (Nat.zero_le _) (Nat.zero_le _)
    · have hf := ob_neg q2 hf
      refine g_aload_n (n := 14) d_Disk_put_13 rfl 0 rfl rfl ?_
      refine g_get (n := 17) (q0 := 5) d_Disk_put_14 rfl (am_fl in_Disk rfl (by decide : 0 < 7)) (List.mem_cons_of_mem _ tw_69) rfl rfl ?_
      refine g_iload_n (n := 18) d_Disk_put_17 rfl 1 rfl rfl ?_
      refine g_iload_n (n := 19) d_Disk_put_18 rfl 2 rfl rfl ?_
      refine g_sipush (n := 22) (v := 255) d_Disk_put_19 rfl (by decide) ?_
      refine g_iand (n := 23) d_Disk_put_22 rfl ?_
      obtain ⟨b3, hf⟩ := ob_chk hf
      refine g_iast (n := 24) (q0 := 6) (h' := (hC ll he de li en po pw su wr cs wb (upd bt x1.toNatClampNeg (x2 &&& 255)) ct lc ad ctb lcb adb fx us ln pt tx br rw rest)) d_Disk_put_23 rfl rfl (am_inl b3) rfl ?_
      cases hf
      exact g_vret d_Disk_put_24 rfl (Nat.zero_le _) (Nat.zero_le _)
def f_Ses_leave_L12 : Nat → Int32 → Int32 → (Nat → Int32) → (Nat → Int32) → Int32 → Option (Int32 × Int32 × (Nat → Int32) × (Nat → Int32))
  | 0, _, _, _, _, _ => none
  | fuel + 1, he, de, en, po, x1 =>
  (if 4 ≤ x1 then some (he, de, en, po) else (if am_in x1 4 = true then (if am_in x1 4 = true then f_Ses_leave_L12 fuel he de (upd en x1.toNatClampNeg (-1)) (upd po x1.toNatClampNeg 0) (x1 + 1) else none) else none))
set_option maxHeartbeats 4000000 in
set_option maxRecDepth 100000 in
theorem s_Ses_leave_L12 {l : Launch} {D : va_G} {dA : FieldType → ClassId} (htr : l.stackTraces = false) {rest : List am_E} {ll : Int32} {li : Nat → Int32} {pw : Int32} {su : Int32} {wr : Int32} {cs : Int32} {wb : Int32} {bt : Nat → Int32} {ct : Int32} {lc : Int32} {ad : Nat → Int32} {ctb : Int32} {lcb : Int32} {adb : Nat → Int32} {fx : Int32} {us : Nat → Int32} {ln : Int32} {pt : Int32} {tx : Nat → Int32} {br : Nat → Int32} {rw : Nat → Int32}  : ∀ (fuel : Nat) (he : Int32) (de : Int32) (en : Nat → Int32) (po : Nat → Int32) (x1 : Int32) (r : Int32 × Int32 × (Nat → Int32) × (Nat → Int32)), f_Ses_leave_L12 fuel he de en po x1 = some r → ∀ o : am_O, .inl none = o →
    am_G (am_kk l D dA) (ws_Ses_leave, y_Ses_leave.cls, prog_6_method_5_code, 2, none, y_Ses_leave.name, [], am_rm 0 (o), none) o (hC ll r.1 r.2.1 li r.2.2.1 r.2.2.2 pw su wr cs wb bt ct lc ad ctb lcb adb fx us ln pt tx br rw rest) 0 0 12 [(0, .ref 1), (1, .int x1)] [] (hC ll he de li en po pw su wr cs wb bt ct lc ad ctb lcb adb fx us ln pt tx br rw rest) := by
  intro fuel
  induction fuel with
  | zero =>
    intro he de en po x1 r hf
    cases hf
  | succ fuel ih =>
    intro he de en po x1 r hf o ho
    subst ho
    rw [f_Ses_leave_L12] at hf
    refine g_iload_n (n := 13) d_Ses_leave_12 rfl 1 rfl rfl ?_
    refine g_iconst (n := 14) (v := 4) d_Ses_leave_13 rfl (by decide) ?_
    refine g_icmp_ge (n := 17) (tgt := 37) d_Ses_leave_14 rfl (by decide) (fun q1 => ?_) (fun q1 => ?_)
    · have hf := ob_pos q1 hf
      cases hf
      exact g_vret d_Ses_leave_37 rfl (Nat.zero_le _) (Nat.zero_le _)
    · have hf := ob_neg q1 hf
      refine g_aload_n (n := 18) d_Ses_leave_17 rfl 0 rfl rfl ?_
      refine g_get (n := 21) (q0 := 1) d_Ses_leave_18 rfl (am_fl in_Ses rfl (by decide : 1 < 6)) (List.mem_cons_of_mem _ tw_38) rfl rfl ?_
      refine g_iload_n (n := 22) d_Ses_leave_21 rfl 1 rfl rfl ?_
      refine g_iconst (n := 23) (v := (-1)) d_Ses_leave_22 rfl (by decide) ?_
      obtain ⟨b2, hf⟩ := ob_chk hf
      refine g_iast (n := 24) (q0 := 3) (h' := (hC ll he de li (upd en x1.toNatClampNeg (-1)) po pw su wr cs wb bt ct lc ad ctb lcb adb fx us ln pt tx br rw rest)) d_Ses_leave_23 rfl rfl (am_inl b2) rfl ?_
      refine g_aload_n (n := 25) d_Ses_leave_24 rfl 0 rfl rfl ?_
      refine g_get (n := 28) (q0 := 1) d_Ses_leave_25 rfl (am_fl in_Ses rfl (by decide : 2 < 6)) (List.mem_cons_of_mem _ tw_39) rfl rfl ?_
      refine g_iload_n (n := 29) d_Ses_leave_28 rfl 1 rfl rfl ?_
      refine g_iconst (n := 30) (v := 0) d_Ses_leave_29 rfl (by decide) ?_
      obtain ⟨b3, hf⟩ := ob_chk hf
      refine g_iast (n := 31) (q0 := 4) (h' := (hC ll he de li (upd en x1.toNatClampNeg (-1)) (upd po x1.toNatClampNeg 0) pw su wr cs wb bt ct lc ad ctb lcb adb fx us ln pt tx br rw rest)) d_Ses_leave_30 rfl rfl (am_inl b3) rfl ?_
      refine g_iinc (n := 34) (v := (x1 + 1)) (ls' := [(1, .int (x1 + 1)), (0, .ref 1)]) d_Ses_leave_31 rfl 1 rfl rfl (am_ltb rfl) rfl ?_
      refine g_goto (n := 12) d_Ses_leave_34 (by decide) ?_
      refine g_ls [1, 0] rfl ?_
      exact ih he de (upd en x1.toNatClampNeg (-1)) (upd po x1.toNatClampNeg 0) (x1 + 1) _ hf _ rfl
def f_Ses_leave (he : Int32) (de : Int32) (en : Nat → Int32) (po : Nat → Int32) : Option (Int32 × Int32 × (Nat → Int32) × (Nat → Int32)) :=
  f_Ses_leave_L12 3000 2 1 en po 0
set_option maxHeartbeats 4000000 in
set_option maxRecDepth 100000 in
theorem s_Ses_leave {l : Launch} {D : va_G} {dA : FieldType → ClassId} (htr : l.stackTraces = false) {rest : List am_E} {ll : Int32} {he : Int32} {de : Int32} {li : Nat → Int32} {en : Nat → Int32} {po : Nat → Int32} {pw : Int32} {su : Int32} {wr : Int32} {cs : Int32} {wb : Int32} {bt : Nat → Int32} {ct : Int32} {lc : Int32} {ad : Nat → Int32} {ctb : Int32} {lcb : Int32} {adb : Nat → Int32} {fx : Int32} {us : Nat → Int32} {ln : Int32} {pt : Int32} {tx : Nat → Int32} {br : Nat → Int32} {rw : Nat → Int32}   {r : Int32 × Int32 × (Nat → Int32) × (Nat → Int32)} (hf : f_Ses_leave he de en po = some r) {o : am_O} (ho : .inl none = o) :
    am_M (am_kk l D dA) y_Ses_leave ws_Ses_leave (am_rm 0 o) [.ref 1] (hC ll he de li en po pw su wr cs wb bt ct lc ad ctb lcb adb fx us ln pt tx br rw rest) o (hC ll r.1 r.2.1 li r.2.2.1 r.2.2.2 pw su wr cs wb bt ct lc ad ctb lcb adb fx us ln pt tx br rw rest) := by
  subst ho
  refine am_body (by decide) rfl (Nat.le_of_ble_eq_true rfl) rfl ?_
  rw [f_Ses_leave] at hf
  refine g_aload_n (n := 1) d_Ses_leave_0 rfl 0 rfl rfl ?_
  refine g_iconst (n := 2) (v := 2) d_Ses_leave_1 rfl (by decide) ?_
  refine g_put (n := 5) (q0 := 1) (h' := (hC ll 2 de li en po pw su wr cs wb bt ct lc ad ctb lcb adb fx us ln pt tx br rw rest)) d_Ses_leave_2 rfl (am_fl in_Ses rfl (by decide : 4 < 6)) typ_Ses (List.mem_cons_of_mem _ tw_44) rfl (fun _ _ => rfl) (fun _ _ => rfl) rfl (am_ltb rfl) rfl ?_
  refine g_aload_n (n := 6) d_Ses_leave_5 rfl 0 rfl rfl ?_
  refine g_iconst (n := 7) (v := 1) d_Ses_leave_6 rfl (by decide) ?_
  refine g_put (n := 10) (q0 := 1) (h' := (hC ll 2 1 li en po pw su wr cs wb bt ct lc ad ctb lcb adb fx us ln pt tx br rw rest)) d_Ses_leave_7 rfl (am_fl in_Ses rfl (by decide : 5 < 6)) typ_Ses (List.mem_cons_of_mem _ tw_46) rfl (fun _ _ => rfl) (fun _ _ => rfl) rfl (am_ltb rfl) rfl ?_
  refine g_iconst (n := 11) (v := 0) d_Ses_leave_10 rfl (by decide) ?_
  refine g_istore_n (n := 12) (ls' := [(1, .int 0), (0, .ref 1)]) d_Ses_leave_11 rfl rfl (am_ltb rfl) rfl ?_
  refine g_ls [1, 0] rfl ?_
  exact s_Ses_leave_L12 htr 3000 2 1 en po 0 _ hf _ rfl
def f_V_poke (he : Int32) (de : Int32) (en : Nat → Int32) (po : Nat → Int32) (su : Int32) (bt : Nat → Int32) (x1 : Int32) (x2 : Int32) (x3 : Int32) : Option (Int32 × Int32 × Int32 × (Nat → Int32) × (Nat → Int32) × Int32 × (Nat → Int32)) :=
  ((f_V_isOnDisk x1 x2).bind fun r1 => (if r1 = 0 then some (0, he, de, en, po, su, bt) else ((f_Disk_put bt ((x1 * 32) + x2) x3).bind fun r4 => ((f_Ses_leave he de en po).bind fun r6 => some (1, r6.1, r6.2.1, r6.2.2.1, r6.2.2.2, 1, r4)))))
set_option maxHeartbeats 4000000 in
set_option maxRecDepth 100000 in
theorem s_V_poke {l : Launch} {D : va_G} {dA : FieldType → ClassId} (htr : l.stackTraces = false) {rest : List am_E} {ll : Int32} {he : Int32} {de : Int32} {li : Nat → Int32} {en : Nat → Int32} {po : Nat → Int32} {pw : Int32} {su : Int32} {wr : Int32} {cs : Int32} {wb : Int32} {bt : Nat → Int32} {ct : Int32} {lc : Int32} {ad : Nat → Int32} {ctb : Int32} {lcb : Int32} {adb : Nat → Int32} {fx : Int32} {us : Nat → Int32} {ln : Int32} {pt : Int32} {tx : Nat → Int32} {br : Nat → Int32} {rw : Nat → Int32}  {x1 : Int32} {x2 : Int32} {x3 : Int32} {r : Int32 × Int32 × Int32 × (Nat → Int32) × (Nat → Int32) × Int32 × (Nat → Int32)} (hf : f_V_poke he de en po su bt x1 x2 x3 = some r) {o : am_O} (ho : .inl (some (.int r.1)) = o) :
    am_M (am_kk l D dA) y_V_poke ws_V_poke (am_rm 1 o) [.ref 0, .int x1, .int x2, .int x3] (hC ll he de li en po pw su wr cs wb bt ct lc ad ctb lcb adb fx us ln pt tx br rw rest) o (hC ll r.2.1 r.2.2.1 li r.2.2.2.1 r.2.2.2.2.1 pw r.2.2.2.2.2.1 wr cs wb r.2.2.2.2.2.2 ct lc ad ctb lcb adb fx us ln pt tx br rw rest) := by
  subst ho
  refine am_body (by decide) rfl (Nat.le_of_ble_eq_true rfl) rfl ?_
  rw [f_V_poke] at hf
  refine g_iload_n (n := 1) d_V_poke_0 rfl 1 rfl rfl ?_
  refine g_iload_n (n := 2) d_V_poke_1 rfl 2 rfl rfl ?_
  obtain ⟨r1, h2, hf⟩ := ob_bind hf
  refine c_Sr (n := 5) (st' := [.int r1]) [.int x1, .int x2] [] d_V_poke_2 rfl (s_V_isOnDisk htr h2 rfl) tw_258 tw_259 tw_1 tw_260 rfl hd_V_isOnDisk (by omega) (by decide) rfl (Nat.le_of_ble_eq_true rfl) rfl rfl ?_
  refine g_if_ne (n := 8) (tgt := 10) d_V_poke_5 rfl (by decide) (fun q3 => ?_) (fun q3 => ?_)
  · have hf := ob_neg q3 hf
    refine g_aload_n (n := 11) d_V_poke_10 rfl 0 rfl rfl ?_
    refine g_get (n := 14) (q0 := 0) d_V_poke_11 rfl (am_fl in_V rfl (by decide : 1 < 8)) (List.mem_cons_of_mem _ tw_174) rfl rfl ?_
    refine g_iload_n (n := 15) d_V_poke_14 rfl 1 rfl rfl ?_
    refine g_bipush (n := 17) (v := 32) d_V_poke_15 rfl (by decide) ?_
    refine g_imul (n := 18) d_V_poke_17 rfl ?_
    refine g_iload_n (n := 19) d_V_poke_18 rfl 2 rfl rfl ?_
    refine g_iadd (n := 20) d_V_poke_19 rfl ?_
    refine g_iload_n (n := 21) d_V_poke_20 rfl 3 rfl rfl ?_
    obtain ⟨r4, h5, hf⟩ := ob_bind hf
    refine c_Vr (n := 24) (st' := []) [.int ((x1 * 32) + x2), .int x3] [] d_V_poke_21 rfl (s_Disk_put htr h5 rfl) tw_269 tw_270 tw_271 tw_3 tw_272 hd_Disk_put (by omega) (by decide) (ci := 0) rfl rfl rfl (Nat.le_of_ble_eq_true rfl) rfl rfl ?_
    refine g_aload_n (n := 25) d_V_poke_24 rfl 0 rfl rfl ?_
    refine g_get (n := 28) (q0 := 0) d_V_poke_25 rfl (am_fl in_V rfl (by decide : 1 < 8)) (List.mem_cons_of_mem _ tw_174) rfl rfl ?_
    refine g_iconst (n := 29) (v := 1) d_V_poke_28 rfl (by decide) ?_
    refine g_putN (n := 32) (q0 := 5) (h' := (hC ll he de li en po pw 1 wr cs wb r4 ct lc ad ctb lcb adb fx us ln pt tx br rw rest)) d_V_poke_29 rfl (am_fl in_Disk rfl (by decide : 3 < 7)) typ_Disk nw_73 rfl (fun _ _ => rfl) (fun _ _ => rfl) rfl (am_ltb rfl) rfl ?_
    refine g_aload_n (n := 33) d_V_poke_32 rfl 0 rfl rfl ?_
    refine g_get (n := 36) (q0 := 0) d_V_poke_33 rfl (am_fl in_V rfl (by decide : 0 < 8)) (List.mem_cons_of_mem _ tw_173) rfl rfl ?_
    obtain ⟨r6, h7, hf⟩ := ob_bind hf
    refine c_Vr (n := 39) (st' := []) [] [] d_V_poke_36 rfl (s_Ses_leave htr h7 rfl) tw_273 tw_33 tw_34 tw_2 tw_35 hd_Ses_leave (by omega) (by decide) (ci := 4) rfl rfl rfl (Nat.le_of_ble_eq_true rfl) rfl rfl ?_
    refine g_iconst (n := 40) (v := 1) d_V_poke_39 rfl (by decide) ?_
    cases hf
    exact g_zret d_V_poke_40 rfl am_z1 (Nat.zero_le _) (Nat.zero_le _)
  · have hf := ob_pos q3 hf
    refine g_iconst (n := 9) (v := 0) d_V_poke_8 rfl (by decide) ?_
    cases hf
    exact g_zret d_V_poke_9 rfl am_z0 (Nat.zero_le _) (Nat.zero_le _)
def f_Table_isFree (bt : Nat → Int32) (x1 : Int32) : Option (Int32) :=
  ((f_Table_cell bt x1).bind fun r1 => (if r1 = 0 then some 1 else some 0))
set_option maxHeartbeats 4000000 in
set_option maxRecDepth 100000 in
theorem s_Table_isFree {l : Launch} {D : va_G} {dA : FieldType → ClassId} (htr : l.stackTraces = false) {rest : List am_E} {ll : Int32} {he : Int32} {de : Int32} {li : Nat → Int32} {en : Nat → Int32} {po : Nat → Int32} {pw : Int32} {su : Int32} {wr : Int32} {cs : Int32} {wb : Int32} {bt : Nat → Int32} {ct : Int32} {lc : Int32} {ad : Nat → Int32} {ctb : Int32} {lcb : Int32} {adb : Nat → Int32} {fx : Int32} {us : Nat → Int32} {ln : Int32} {pt : Int32} {tx : Nat → Int32} {br : Nat → Int32} {rw : Nat → Int32}  {x1 : Int32} {r : Int32} (hf : f_Table_isFree bt x1 = some r) {o : am_O} (ho : .inl (some (.int r)) = o) :
    am_M (am_kk l D dA) y_Table_isFree ws_Table_isFree (am_rm 2 o) [.ref 7, .int x1] (hC ll he de li en po pw su wr cs wb bt ct lc ad ctb lcb adb fx us ln pt tx br rw rest) o (hC ll he de li en po pw su wr cs wb bt ct lc ad ctb lcb adb fx us ln pt tx br rw rest) := by
  subst ho
  refine am_body (by decide) rfl (Nat.le_of_ble_eq_true rfl) rfl ?_
  rw [f_Table_isFree] at hf
  refine g_aload_n (n := 1) d_Table_isFree_0 rfl 0 rfl rfl ?_
  refine g_iload_n (n := 2) d_Table_isFree_1 rfl 1 rfl rfl ?_
  obtain ⟨r1, h2, hf⟩ := ob_bind hf
  refine c_Vr (n := 5) (st' := [.int r1]) [.int x1] [] d_Table_isFree_2 rfl (s_Table_cell htr h2 rfl) tw_286 tw_287 tw_288 tw_4 tw_289 hd_Table_cell (by omega) (by decide) (ci := 5) rfl rfl rfl (Nat.le_of_ble_eq_true rfl) rfl rfl ?_
  refine g_if_ne (n := 8) (tgt := 12) d_Table_isFree_5 rfl (by decide) (fun q3 => ?_) (fun q3 => ?_)
  · have hf := ob_neg q3 hf
    refine g_iconst (n := 13) (v := 0) d_Table_isFree_12 rfl (by decide) ?_
    cases hf
    exact g_zret d_Table_isFree_13 rfl am_z0 (Nat.zero_le _) (Nat.zero_le _)
  · have hf := ob_pos q3 hf
    refine g_iconst (n := 9) (v := 1) d_Table_isFree_8 rfl (by decide) ?_
    refine g_goto (n := 13) d_Table_isFree_9 (by decide) ?_
    cases hf
    exact g_zret d_Table_isFree_13 rfl am_z1 (Nat.zero_le _) (Nat.zero_le _)
def f_Table_countFree_L4 : Nat → (Nat → Int32) → Int32 → Int32 → Option (Int32)
  | 0, _, _, _ => none
  | fuel + 1, bt, x1, x2 =>
  (if 64 ≤ x2 then some x1 else ((f_Table_isFree bt x2).bind fun r2 => (if r2 = 0 then f_Table_countFree_L4 fuel bt x1 (x2 + 1) else f_Table_countFree_L4 fuel bt (x1 + 1) (x2 + 1))))
set_option maxHeartbeats 4000000 in
set_option maxRecDepth 100000 in
theorem s_Table_countFree_L4 {l : Launch} {D : va_G} {dA : FieldType → ClassId} (htr : l.stackTraces = false) {rest : List am_E} {ll : Int32} {he : Int32} {de : Int32} {li : Nat → Int32} {en : Nat → Int32} {po : Nat → Int32} {pw : Int32} {su : Int32} {wr : Int32} {cs : Int32} {wb : Int32} {ct : Int32} {lc : Int32} {ad : Nat → Int32} {ctb : Int32} {lcb : Int32} {adb : Nat → Int32} {fx : Int32} {us : Nat → Int32} {ln : Int32} {pt : Int32} {tx : Nat → Int32} {br : Nat → Int32} {rw : Nat → Int32}  : ∀ (fuel : Nat) (bt : Nat → Int32) (x1 : Int32) (x2 : Int32) (r : Int32), f_Table_countFree_L4 fuel bt x1 x2 = some r → ∀ o : am_O, .inl (some (.int r)) = o →
    am_G (am_kk l D dA) (ws_Table_countFree, y_Table_countFree.cls, prog_7_method_7_code, 3, (some .int), y_Table_countFree.name, [], am_rm 3 (o), none) o (hC ll he de li en po pw su wr cs wb bt ct lc ad ctb lcb adb fx us ln pt tx br rw rest) 0 0 4 [(0, .ref 7), (1, .int x1), (2, .int x2)] [] (hC ll he de li en po pw su wr cs wb bt ct lc ad ctb lcb adb fx us ln pt tx br rw rest) := by
  intro fuel
  induction fuel with
  | zero =>
    intro bt x1 x2 r hf
    cases hf
  | succ fuel ih =>
    intro bt x1 x2 r hf o ho
    subst ho
    rw [f_Table_countFree_L4] at hf
    refine g_iload_n (n := 5) d_Table_countFree_4 rfl 2 rfl rfl ?_
    refine g_bipush (n := 7) (v := 64) d_Table_countFree_5 rfl (by decide) ?_
    refine g_icmp_ge (n := 10) (tgt := 27) d_Table_countFree_7 rfl (by decide) (fun q1 => ?_) (fun q1 => ?_)
    · have hf := ob_pos q1 hf
      refine g_iload_n (n := 28) d_Table_countFree_27 rfl 1 rfl rfl ?_
      cases hf
      exact g_iret d_Table_countFree_28 rfl (Nat.zero_le _) (Nat.zero_le _)
    · have hf := ob_neg q1 hf
      refine g_aload_n (n := 11) d_Table_countFree_10 rfl 0 rfl rfl ?_
      refine g_iload_n (n := 12) d_Table_countFree_11 rfl 2 rfl rfl ?_
      obtain ⟨r2, h3, hf⟩ := ob_bind hf
      refine c_Vr (n := 15) (st' := [.int r2]) [.int x2] [] d_Table_countFree_12 rfl (s_Table_isFree htr h3 rfl) tw_282 tw_283 tw_284 tw_4 tw_285 hd_Table_isFree (by omega) (by decide) (ci := 5) rfl rfl rfl (Nat.le_of_ble_eq_true rfl) rfl rfl ?_
      refine g_if_eq (n := 18) (tgt := 21) d_Table_countFree_15 rfl (by decide) (fun q4 => ?_) (fun q4 => ?_)
      · have hf := ob_pos q4 hf
        refine g_iinc (n := 24) (v := (x2 + 1)) (ls' := [(2, .int (x2 + 1)), (0, .ref 7), (1, .int x1)]) d_Table_countFree_21 rfl 2 rfl rfl (am_ltb rfl) rfl ?_
        refine g_goto (n := 4) d_Table_countFree_24 (by decide) ?_
        refine g_ls [1, 2, 0] rfl ?_
        exact ih bt x1 (x2 + 1) _ hf _ rfl
      · have hf := ob_neg q4 hf
        refine g_iinc (n := 21) (v := (x1 + 1)) (ls' := [(1, .int (x1 + 1)), (0, .ref 7), (2, .int x2)]) d_Table_countFree_18 rfl 1 rfl rfl (am_ltb rfl) rfl ?_
        refine g_iinc (n := 24) (v := (x2 + 1)) (ls' := [(2, .int (x2 + 1)), (1, .int (x1 + 1)), (0, .ref 7)]) d_Table_countFree_21 rfl 2 rfl rfl (am_ltb rfl) rfl ?_
        refine g_goto (n := 4) d_Table_countFree_24 (by decide) ?_
        refine g_ls [2, 1, 0] rfl ?_
        exact ih bt (x1 + 1) (x2 + 1) _ hf _ rfl
def f_Table_countFree (bt : Nat → Int32) : Option (Int32) :=
  f_Table_countFree_L4 3000 bt 0 2
set_option maxHeartbeats 4000000 in
set_option maxRecDepth 100000 in
theorem s_Table_countFree {l : Launch} {D : va_G} {dA : FieldType → ClassId} (htr : l.stackTraces = false) {rest : List am_E} {ll : Int32} {he : Int32} {de : Int32} {li : Nat → Int32} {en : Nat → Int32} {po : Nat → Int32} {pw : Int32} {su : Int32} {wr : Int32} {cs : Int32} {wb : Int32} {bt : Nat → Int32} {ct : Int32} {lc : Int32} {ad : Nat → Int32} {ctb : Int32} {lcb : Int32} {adb : Nat → Int32} {fx : Int32} {us : Nat → Int32} {ln : Int32} {pt : Int32} {tx : Nat → Int32} {br : Nat → Int32} {rw : Nat → Int32}   {r : Int32} (hf : f_Table_countFree bt = some r) {o : am_O} (ho : .inl (some (.int r)) = o) :
    am_M (am_kk l D dA) y_Table_countFree ws_Table_countFree (am_rm 3 o) [.ref 7] (hC ll he de li en po pw su wr cs wb bt ct lc ad ctb lcb adb fx us ln pt tx br rw rest) o (hC ll he de li en po pw su wr cs wb bt ct lc ad ctb lcb adb fx us ln pt tx br rw rest) := by
  subst ho
  refine am_body (by decide) rfl (Nat.le_of_ble_eq_true rfl) rfl ?_
  rw [f_Table_countFree] at hf
  refine g_iconst (n := 1) (v := 0) d_Table_countFree_0 rfl (by decide) ?_
  refine g_istore_n (n := 2) (ls' := [(1, .int 0), (0, .ref 7)]) d_Table_countFree_1 rfl rfl (am_ltb rfl) rfl ?_
  refine g_iconst (n := 3) (v := 2) d_Table_countFree_2 rfl (by decide) ?_
  refine g_istore_n (n := 4) (ls' := [(2, .int 2), (1, .int 0), (0, .ref 7)]) d_Table_countFree_3 rfl rfl (am_ltb rfl) rfl ?_
  refine g_ls [2, 1, 0] rfl ?_
  exact s_Table_countFree_L4 htr 3000 bt 0 2 _ hf _ rfl
def f_V_look (ll : Int32) (he : Int32) (en : Nat → Int32) (po : Nat → Int32) (pw : Int32) (wr : Int32) (bt : Nat → Int32) (x1 : Int32) : Option (Int32) :=
  (if x1 = 0 then (if pw = 0 then some 0 else some 1) else (if x1 = 1 then some wr else (if x1 = 2 then ((f_Table_countFree bt).bind fun r5 => some r5) else (if x1 = 3 then some he else (if x1 = 4 then some ll else (if x1 < 10 then some (-1) else ((f_Ses_isOpen en (x1 - 10)).bind fun r10 => (if r10 = 0 then some (-1) else ((f_Ses_positionOf po (x1 - 10)).bind fun r13 => some r13)))))))))
set_option maxHeartbeats 4000000 in
set_option maxRecDepth 100000 in
theorem s_V_look {l : Launch} {D : va_G} {dA : FieldType → ClassId} (htr : l.stackTraces = false) {rest : List am_E} {ll : Int32} {he : Int32} {de : Int32} {li : Nat → Int32} {en : Nat → Int32} {po : Nat → Int32} {pw : Int32} {su : Int32} {wr : Int32} {cs : Int32} {wb : Int32} {bt : Nat → Int32} {ct : Int32} {lc : Int32} {ad : Nat → Int32} {ctb : Int32} {lcb : Int32} {adb : Nat → Int32} {fx : Int32} {us : Nat → Int32} {ln : Int32} {pt : Int32} {tx : Nat → Int32} {br : Nat → Int32} {rw : Nat → Int32}  {x1 : Int32} {r : Int32} (hf : f_V_look ll he en po pw wr bt x1 = some r) {o : am_O} (ho : .inl (some (.int r)) = o) :
    am_M (am_kk l D dA) y_V_look ws_V_look (am_rm 4 o) [.ref 0, .int x1] (hC ll he de li en po pw su wr cs wb bt ct lc ad ctb lcb adb fx us ln pt tx br rw rest) o (hC ll he de li en po pw su wr cs wb bt ct lc ad ctb lcb adb fx us ln pt tx br rw rest) := by
  subst ho
  refine am_body (by decide) rfl (Nat.le_of_ble_eq_true rfl) rfl ?_
  rw [f_V_look] at hf
  refine g_iload_n (n := 1) d_V_look_0 rfl 1 rfl rfl ?_
  by_cases q1 : x1 = 0
  · have hf := ob_pos q1 hf
    refine g_tabIn (n := 36) d_V_look_1 (by rw [q1]; decide) (by rw [q1]; decide) (by rw [q1]; rfl) (by decide) ?_
    refine g_aload_n (n := 37) d_V_look_36 rfl 0 rfl rfl ?_
    refine g_get (n := 40) (q0 := 0) d_V_look_37 rfl (am_fl in_V rfl (by decide : 1 < 8)) (List.mem_cons_of_mem _ tw_174) rfl rfl ?_
    refine g_getN (n := 43) (q0 := 5) d_V_look_40 rfl (am_fl in_Disk rfl (by decide : 2 < 7)) nw_72 rfl rfl ?_
    refine g_if_eq (n := 46) (tgt := 50) d_V_look_43 rfl (by decide) (fun q2 => ?_) (fun q2 => ?_)
    · have hf := ob_pos q2 hf
      refine g_iconst (n := 51) (v := 0) d_V_look_50 rfl (by decide) ?_
      cases hf
      exact g_iret d_V_look_51 rfl (Nat.zero_le _) (Nat.zero_le _)
    · have hf := ob_neg q2 hf
      refine g_iconst (n := 47) (v := 1) d_V_look_46 rfl (by decide) ?_
      refine g_goto (n := 51) d_V_look_47 (by decide) ?_
      cases hf
      exact g_iret d_V_look_51 rfl (Nat.zero_le _) (Nat.zero_le _)
  · have hf := ob_neg q1 hf
    by_cases q3 : x1 = 1
    · have hf := ob_pos q3 hf
      refine g_tabIn (n := 52) d_V_look_1 (by rw [q3]; decide) (by rw [q3]; decide) (by rw [q3]; rfl) (by decide) ?_
      refine g_aload_n (n := 53) d_V_look_52 rfl 0 rfl rfl ?_
      refine g_get (n := 56) (q0 := 0) d_V_look_53 rfl (am_fl in_V rfl (by decide : 1 < 8)) (List.mem_cons_of_mem _ tw_174) rfl rfl ?_
      refine g_getN (n := 59) (q0 := 5) d_V_look_56 rfl (am_fl in_Disk rfl (by decide : 4 < 7)) nw_75 rfl rfl ?_
      cases hf
      exact g_iret d_V_look_59 rfl (Nat.zero_le _) (Nat.zero_le _)
    · have hf := ob_neg q3 hf
      by_cases q4 : x1 = 2
      · have hf := ob_pos q4 hf
        refine g_tabIn (n := 60) d_V_look_1 (by rw [q4]; decide) (by rw [q4]; decide) (by rw [q4]; rfl) (by decide) ?_
        refine g_aload_n (n := 61) d_V_look_60 rfl 0 rfl rfl ?_
        refine g_get (n := 64) (q0 := 0) d_V_look_61 rfl (am_fl in_V rfl (by decide : 2 < 8)) (List.mem_cons_of_mem _ tw_175) rfl rfl ?_
        obtain ⟨r5, h6, hf⟩ := ob_bind hf
        refine c_Vr (n := 67) (st' := [.int r5]) [] [] d_V_look_64 rfl (s_Table_countFree htr h6 rfl) tw_278 tw_279 tw_280 tw_4 tw_281 hd_Table_countFree (by omega) (by decide) (ci := 5) rfl rfl rfl (Nat.le_of_ble_eq_true rfl) rfl rfl ?_
        cases hf
        exact g_iret d_V_look_67 rfl (Nat.zero_le _) (Nat.zero_le _)
      · have hf := ob_neg q4 hf
        by_cases q7 : x1 = 3
        · have hf := ob_pos q7 hf
          refine g_tabIn (n := 68) d_V_look_1 (by rw [q7]; decide) (by rw [q7]; decide) (by rw [q7]; rfl) (by decide) ?_
          refine g_aload_n (n := 69) d_V_look_68 rfl 0 rfl rfl ?_
          refine g_get (n := 72) (q0 := 0) d_V_look_69 rfl (am_fl in_V rfl (by decide : 0 < 8)) (List.mem_cons_of_mem _ tw_173) rfl rfl ?_
          refine g_getN (n := 75) (q0 := 1) d_V_look_72 rfl (am_fl in_Ses rfl (by decide : 4 < 6)) nw_45 rfl rfl ?_
          cases hf
          exact g_iret d_V_look_75 rfl (Nat.zero_le _) (Nat.zero_le _)
        · have hf := ob_neg q7 hf
          by_cases q8 : x1 = 4
          · have hf := ob_pos q8 hf
            refine g_tabIn (n := 76) d_V_look_1 (by rw [q8]; decide) (by rw [q8]; decide) (by rw [q8]; rfl) (by decide) ?_
            refine g_aload_n (n := 77) d_V_look_76 rfl 0 rfl rfl ?_
            refine g_get (n := 80) (q0 := 0) d_V_look_77 rfl (am_fl in_V rfl (by decide : 0 < 8)) (List.mem_cons_of_mem _ tw_173) rfl rfl ?_
            refine g_getN (n := 83) (q0 := 1) d_V_look_80 rfl (am_fl in_Ses rfl (by decide : 3 < 6)) nw_43 rfl rfl ?_
            cases hf
            exact g_iret d_V_look_83 rfl (Nat.zero_le _) (Nat.zero_le _)
          · have hf := ob_neg q8 hf
            refine g_tabOut (n := 84) d_V_look_1 (by have z0 := lv_neT q1 (a := 0) (by decide); have z1 := lv_neT q3 (a := 1) (by decide); have z2 := lv_neT q4 (a := 2) (by decide); have z3 := lv_neT q7 (a := 3) (by decide); have z4 := lv_neT q8 (a := 4) (by decide); omega) (by decide) ?_
            refine g_iload_n (n := 85) d_V_look_84 rfl 1 rfl rfl ?_
            refine g_bipush (n := 87) (v := 10) d_V_look_85 rfl (by decide) ?_
            refine g_icmp_lt (n := 90) (tgt := 118) d_V_look_87 rfl (by decide) (fun q9 => ?_) (fun q9 => ?_)
            · have hf := ob_pos q9 hf
              refine g_iconst (n := 119) (v := (-1)) d_V_look_118 rfl (by decide) ?_
              cases hf
              exact g_iret d_V_look_119 rfl (Nat.zero_le _) (Nat.zero_le _)
            · have hf := ob_neg q9 hf
              refine g_aload_n (n := 91) d_V_look_90 rfl 0 rfl rfl ?_
              refine g_get (n := 94) (q0 := 0) d_V_look_91 rfl (am_fl in_V rfl (by decide : 0 < 8)) (List.mem_cons_of_mem _ tw_173) rfl rfl ?_
              refine g_iload_n (n := 95) d_V_look_94 rfl 1 rfl rfl ?_
              refine g_bipush (n := 97) (v := 10) d_V_look_95 rfl (by decide) ?_
              refine g_isub (n := 98) d_V_look_97 rfl ?_
              obtain ⟨r10, h11, hf⟩ := ob_bind hf
              refine c_Vr (n := 101) (st' := [.int r10]) [.int (x1 - 10)] [] d_V_look_98 rfl (s_Ses_isOpen htr h11 rfl) tw_210 tw_211 tw_212 tw_2 tw_213 hd_Ses_isOpen (by omega) (by decide) (ci := 4) rfl rfl rfl (Nat.le_of_ble_eq_true rfl) rfl rfl ?_
              refine g_if_eq (n := 104) (tgt := 118) d_V_look_101 rfl (by decide) (fun q12 => ?_) (fun q12 => ?_)
              · have hf := ob_pos q12 hf
                refine g_iconst (n := 119) (v := (-1)) d_V_look_118 rfl (by decide) ?_
                cases hf
                exact g_iret d_V_look_119 rfl (Nat.zero_le _) (Nat.zero_le _)
              · have hf := ob_neg q12 hf
                refine g_aload_n (n := 105) d_V_look_104 rfl 0 rfl rfl ?_
                refine g_get (n := 108) (q0 := 0) d_V_look_105 rfl (am_fl in_V rfl (by decide : 0 < 8)) (List.mem_cons_of_mem _ tw_173) rfl rfl ?_
                refine g_iload_n (n := 109) d_V_look_108 rfl 1 rfl rfl ?_
                refine g_bipush (n := 111) (v := 10) d_V_look_109 rfl (by decide) ?_
                refine g_isub (n := 112) d_V_look_111 rfl ?_
                obtain ⟨r13, h14, hf⟩ := ob_bind hf
                refine c_Vr (n := 115) (st' := [.int r13]) [.int (x1 - 10)] [] d_V_look_112 rfl (s_Ses_positionOf htr h14 rfl) tw_291 tw_292 tw_293 tw_2 tw_294 hd_Ses_positionOf (by omega) (by decide) (ci := 4) rfl rfl rfl (Nat.le_of_ble_eq_true rfl) rfl rfl ?_
                refine g_goto (n := 119) d_V_look_115 (by decide) ?_
                cases hf
                exact g_iret d_V_look_119 rfl (Nat.zero_le _) (Nat.zero_le _)
end
