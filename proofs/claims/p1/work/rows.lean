section
-- ===== PART A: goes FIRST, ahead of the names: the tables' words, and 'selects' of the private methods out of them =====
/-- a private method of a class that the tables say can be made, by its rows of tables_1 -/
def lw_okq (q : MethodName × Nat) : Prop := (q.1.cls ≠ "java/lang/invoke/MethodHandle" ∧ q.1.cls ≠ "java/lang/invoke/VarHandle") ∧ Cond.instantiable q.1.cls q.2 ∈ tables_1 ∧ Cond.privateMethod q.1 ∈ tables_1 ∧ Cond.instanceMethod q.1 ∈ tables_1
theorem lw_p0 : lw_okq (⟨"FileVolume", "sizeOfFile", "(I)I"⟩, 8) := ⟨⟨by decide +kernel, by decide +kernel⟩, List.mem_of_getElem? (i := 19) (by decide +kernel), List.mem_of_getElem? (i := 223) (by decide +kernel), List.mem_of_getElem? (i := 224) (by decide +kernel)⟩
theorem lw_p1 : lw_okq (⟨"FileVolume", "demandSoundDisk", "()V"⟩, 8) := ⟨⟨by decide +kernel, by decide +kernel⟩, List.mem_of_getElem? (i := 19) (by decide +kernel), List.mem_of_getElem? (i := 306) (by decide +kernel), List.mem_of_getElem? (i := 307) (by decide +kernel)⟩
theorem lw_p2 : lw_okq (⟨"java/lang/Throwable", "fillInStackTrace", "(I)Ljava/lang/Throwable;"⟩, 6) := ⟨⟨by decide +kernel, by decide +kernel⟩, List.mem_of_getElem? (i := 350) (by decide +kernel), List.mem_of_getElem? (i := 348) (by decide +kernel), List.mem_of_getElem? (i := 349) (by decide +kernel)⟩
theorem lw_p3 : lw_okq (⟨"FileVolume", "makeFreeRow", "(I)I"⟩, 8) := ⟨⟨by decide +kernel, by decide +kernel⟩, List.mem_of_getElem? (i := 19) (by decide +kernel), List.mem_of_getElem? (i := 554) (by decide +kernel), List.mem_of_getElem? (i := 555) (by decide +kernel)⟩
theorem lw_p4 : lw_okq (⟨"FileVolume", "writeEntries", "(III)V"⟩, 8) := ⟨⟨by decide +kernel, by decide +kernel⟩, List.mem_of_getElem? (i := 19) (by decide +kernel), List.mem_of_getElem? (i := 567) (by decide +kernel), List.mem_of_getElem? (i := 568) (by decide +kernel)⟩
theorem lw_p5 : lw_okq (⟨"FileVolume", "canBeDeleted", "(I)Z"⟩, 8) := ⟨⟨by decide +kernel, by decide +kernel⟩, List.mem_of_getElem? (i := 19) (by decide +kernel), List.mem_of_getElem? (i := 617) (by decide +kernel), List.mem_of_getElem? (i := 618) (by decide +kernel)⟩
theorem lw_p6 : lw_okq (⟨"FileVolume", "addressInChain", "(II)I"⟩, 8) := ⟨⟨by decide +kernel, by decide +kernel⟩, List.mem_of_getElem? (i := 19) (by decide +kernel), List.mem_of_getElem? (i := 698) (by decide +kernel), List.mem_of_getElem? (i := 699) (by decide +kernel)⟩
theorem lw_p7 : lw_okq (⟨"FileVolume", "roomAfterGrowing", "(II)I"⟩, 8) := ⟨⟨by decide +kernel, by decide +kernel⟩, List.mem_of_getElem? (i := 19) (by decide +kernel), List.mem_of_getElem? (i := 716) (by decide +kernel), List.mem_of_getElem? (i := 717) (by decide +kernel)⟩
theorem lw_p8 : lw_okq (⟨"FileVolume", "spread", "(JI)V"⟩, 8) := ⟨⟨by decide +kernel, by decide +kernel⟩, List.mem_of_getElem? (i := 19) (by decide +kernel), List.mem_of_getElem? (i := 725) (by decide +kernel), List.mem_of_getElem? (i := 726) (by decide +kernel)⟩
theorem lw_p9 : lw_okq (⟨"FileVolume", "writeData", "(III)V"⟩, 8) := ⟨⟨by decide +kernel, by decide +kernel⟩, List.mem_of_getElem? (i := 19) (by decide +kernel), List.mem_of_getElem? (i := 729) (by decide +kernel), List.mem_of_getElem? (i := 730) (by decide +kernel)⟩
theorem lw_p10 : lw_okq (⟨"FileVolume$Repairer", "goThrough", "(II)V"⟩, 5) := ⟨⟨by decide +kernel, by decide +kernel⟩, List.mem_of_getElem? (i := 128) (by decide +kernel), List.mem_of_getElem? (i := 816) (by decide +kernel), List.mem_of_getElem? (i := 817) (by decide +kernel)⟩
theorem lw_p11 : lw_okq (⟨"FileVolumeModel", "number", "(II)V"⟩, 20) := ⟨⟨by decide +kernel, by decide +kernel⟩, List.mem_of_getElem? (i := 855) (by decide +kernel), List.mem_of_getElem? (i := 862) (by decide +kernel), List.mem_of_getElem? (i := 863) (by decide +kernel)⟩
theorem lw_p12 : lw_okq (⟨"FileVolumeModel", "ready", "()Z"⟩, 20) := ⟨⟨by decide +kernel, by decide +kernel⟩, List.mem_of_getElem? (i := 855) (by decide +kernel), List.mem_of_getElem? (i := 939) (by decide +kernel), List.mem_of_getElem? (i := 940) (by decide +kernel)⟩
theorem lw_p13 : lw_okq (⟨"FileVolumeModel", "find", "()I"⟩, 20) := ⟨⟨by decide +kernel, by decide +kernel⟩, List.mem_of_getElem? (i := 855) (by decide +kernel), List.mem_of_getElem? (i := 946) (by decide +kernel), List.mem_of_getElem? (i := 947) (by decide +kernel)⟩
theorem lw_p14 : lw_okq (⟨"FileVolumeModel", "length", "(I)I"⟩, 20) := ⟨⟨by decide +kernel, by decide +kernel⟩, List.mem_of_getElem? (i := 855) (by decide +kernel), List.mem_of_getElem? (i := 950) (by decide +kernel), List.mem_of_getElem? (i := 951) (by decide +kernel)⟩
theorem lw_p15 : lw_okq (⟨"FileVolumeModel", "cluster", "(II)I"⟩, 20) := ⟨⟨by decide +kernel, by decide +kernel⟩, List.mem_of_getElem? (i := 855) (by decide +kernel), List.mem_of_getElem? (i := 954) (by decide +kernel), List.mem_of_getElem? (i := 955) (by decide +kernel)⟩
def lw_privs_1 : List (MethodName × Nat) := [(⟨"FileVolume", "sizeOfFile", "(I)I"⟩, 8), (⟨"FileVolume", "demandSoundDisk", "()V"⟩, 8), (⟨"java/lang/Throwable", "fillInStackTrace", "(I)Ljava/lang/Throwable;"⟩, 6), (⟨"FileVolume", "makeFreeRow", "(I)I"⟩, 8), (⟨"FileVolume", "writeEntries", "(III)V"⟩, 8), (⟨"FileVolume", "canBeDeleted", "(I)Z"⟩, 8), (⟨"FileVolume", "addressInChain", "(II)I"⟩, 8), (⟨"FileVolume", "roomAfterGrowing", "(II)I"⟩, 8), (⟨"FileVolume", "spread", "(JI)V"⟩, 8), (⟨"FileVolume", "writeData", "(III)V"⟩, 8), (⟨"FileVolume$Repairer", "goThrough", "(II)V"⟩, 5), (⟨"FileVolumeModel", "number", "(II)V"⟩, 20), (⟨"FileVolumeModel", "ready", "()Z"⟩, 20), (⟨"FileVolumeModel", "find", "()I"⟩, 20), (⟨"FileVolumeModel", "length", "(I)I"⟩, 20), (⟨"FileVolumeModel", "cluster", "(II)I"⟩, 20)]
theorem lw_r1 : ∀ q ∈ lw_privs_1, lw_okq q := List.forall_mem_cons.mpr ⟨lw_p0, List.forall_mem_cons.mpr ⟨lw_p1, List.forall_mem_cons.mpr ⟨lw_p2, List.forall_mem_cons.mpr ⟨lw_p3, List.forall_mem_cons.mpr ⟨lw_p4, List.forall_mem_cons.mpr ⟨lw_p5, List.forall_mem_cons.mpr ⟨lw_p6, List.forall_mem_cons.mpr ⟨lw_p7, List.forall_mem_cons.mpr ⟨lw_p8, List.forall_mem_cons.mpr ⟨lw_p9, List.forall_mem_cons.mpr ⟨lw_p10, List.forall_mem_cons.mpr ⟨lw_p11, List.forall_mem_cons.mpr ⟨lw_p12, List.forall_mem_cons.mpr ⟨lw_p13, List.forall_mem_cons.mpr ⟨lw_p14, List.forall_mem_cons.mpr ⟨lw_p15, fun _ h => absurd h List.not_mem_nil⟩⟩⟩⟩⟩⟩⟩⟩⟩⟩⟩⟩⟩⟩⟩⟩
theorem lw_p16 : lw_okq (⟨"FileVolumeModel", "cell", "(I)I"⟩, 20) := ⟨⟨by decide +kernel, by decide +kernel⟩, List.mem_of_getElem? (i := 855) (by decide +kernel), List.mem_of_getElem? (i := 958) (by decide +kernel), List.mem_of_getElem? (i := 959) (by decide +kernel)⟩
theorem lw_p17 : lw_okq (⟨"FileVolumeModel", "numberAt", "(I)I"⟩, 20) := ⟨⟨by decide +kernel, by decide +kernel⟩, List.mem_of_getElem? (i := 855) (by decide +kernel), List.mem_of_getElem? (i := 962) (by decide +kernel), List.mem_of_getElem? (i := 963) (by decide +kernel)⟩
theorem lw_p18 : lw_okq (⟨"FileVolumeModel", "isCalled", "(I)Z"⟩, 20) := ⟨⟨by decide +kernel, by decide +kernel⟩, List.mem_of_getElem? (i := 855) (by decide +kernel), List.mem_of_getElem? (i := 966) (by decide +kernel), List.mem_of_getElem? (i := 967) (by decide +kernel)⟩
theorem lw_p19 : lw_okq (⟨"FileVolumeModel", "place", "(II)I"⟩, 20) := ⟨⟨by decide +kernel, by decide +kernel⟩, List.mem_of_getElem? (i := 855) (by decide +kernel), List.mem_of_getElem? (i := 970) (by decide +kernel), List.mem_of_getElem? (i := 971) (by decide +kernel)⟩
theorem lw_p20 : lw_okq (⟨"FileVolumeModel", "isNamed", "(I)Z"⟩, 20) := ⟨⟨by decide +kernel, by decide +kernel⟩, List.mem_of_getElem? (i := 855) (by decide +kernel), List.mem_of_getElem? (i := 974) (by decide +kernel), List.mem_of_getElem? (i := 975) (by decide +kernel)⟩
theorem lw_p21 : lw_okq (⟨"FileVolumeModel", "isFree", "(I)Z"⟩, 20) := ⟨⟨by decide +kernel, by decide +kernel⟩, List.mem_of_getElem? (i := 855) (by decide +kernel), List.mem_of_getElem? (i := 978) (by decide +kernel), List.mem_of_getElem? (i := 979) (by decide +kernel)⟩
theorem lw_p22 : lw_okq (⟨"FileVolumeModel", "partsOf", "(II)I"⟩, 20) := ⟨⟨by decide +kernel, by decide +kernel⟩, List.mem_of_getElem? (i := 855) (by decide +kernel), List.mem_of_getElem? (i := 982) (by decide +kernel), List.mem_of_getElem? (i := 983) (by decide +kernel)⟩
theorem lw_p23 : lw_okq (⟨"FileVolumeModel", "isPart", "(III)Z"⟩, 20) := ⟨⟨by decide +kernel, by decide +kernel⟩, List.mem_of_getElem? (i := 855) (by decide +kernel), List.mem_of_getElem? (i := 989) (by decide +kernel), List.mem_of_getElem? (i := 990) (by decide +kernel)⟩
theorem lw_p24 : lw_okq (⟨"FileVolumeModel", "shortLetter", "(II)I"⟩, 20) := ⟨⟨by decide +kernel, by decide +kernel⟩, List.mem_of_getElem? (i := 855) (by decide +kernel), List.mem_of_getElem? (i := 996) (by decide +kernel), List.mem_of_getElem? (i := 997) (by decide +kernel)⟩
theorem lw_p25 : lw_okq (⟨"FileVolumeModel", "letter", "(III)I"⟩, 20) := ⟨⟨by decide +kernel, by decide +kernel⟩, List.mem_of_getElem? (i := 855) (by decide +kernel), List.mem_of_getElem? (i := 1000) (by decide +kernel), List.mem_of_getElem? (i := 1001) (by decide +kernel)⟩
theorem lw_p26 : lw_okq (⟨"FileVolumeModel", "shorten", "()Z"⟩, 20) := ⟨⟨by decide +kernel, by decide +kernel⟩, List.mem_of_getElem? (i := 855) (by decide +kernel), List.mem_of_getElem? (i := 1007) (by decide +kernel), List.mem_of_getElem? (i := 1008) (by decide +kernel)⟩
theorem lw_p27 : lw_okq (⟨"FileVolumeModel", "isTaken", "()Z"⟩, 20) := ⟨⟨by decide +kernel, by decide +kernel⟩, List.mem_of_getElem? (i := 855) (by decide +kernel), List.mem_of_getElem? (i := 1014) (by decide +kernel), List.mem_of_getElem? (i := 1015) (by decide +kernel)⟩
theorem lw_p28 : lw_okq (⟨"FileVolumeModel", "make", "(I)Z"⟩, 20) := ⟨⟨by decide +kernel, by decide +kernel⟩, List.mem_of_getElem? (i := 855) (by decide +kernel), List.mem_of_getElem? (i := 1018) (by decide +kernel), List.mem_of_getElem? (i := 1019) (by decide +kernel)⟩
theorem lw_p29 : lw_okq (⟨"FileVolumeModel", "take", "()I"⟩, 20) := ⟨⟨by decide +kernel, by decide +kernel⟩, List.mem_of_getElem? (i := 855) (by decide +kernel), List.mem_of_getElem? (i := 1022) (by decide +kernel), List.mem_of_getElem? (i := 1023) (by decide +kernel)⟩
theorem lw_p30 : lw_okq (⟨"FileVolumeModel", "set", "(II)V"⟩, 20) := ⟨⟨by decide +kernel, by decide +kernel⟩, List.mem_of_getElem? (i := 855) (by decide +kernel), List.mem_of_getElem? (i := 1026) (by decide +kernel), List.mem_of_getElem? (i := 1027) (by decide +kernel)⟩
theorem lw_p31 : lw_okq (⟨"FileVolumeModel", "door", "()Z"⟩, 20) := ⟨⟨by decide +kernel, by decide +kernel⟩, List.mem_of_getElem? (i := 855) (by decide +kernel), List.mem_of_getElem? (i := 1030) (by decide +kernel), List.mem_of_getElem? (i := 1031) (by decide +kernel)⟩
def lw_privs_2 : List (MethodName × Nat) := [(⟨"FileVolumeModel", "cell", "(I)I"⟩, 20), (⟨"FileVolumeModel", "numberAt", "(I)I"⟩, 20), (⟨"FileVolumeModel", "isCalled", "(I)Z"⟩, 20), (⟨"FileVolumeModel", "place", "(II)I"⟩, 20), (⟨"FileVolumeModel", "isNamed", "(I)Z"⟩, 20), (⟨"FileVolumeModel", "isFree", "(I)Z"⟩, 20), (⟨"FileVolumeModel", "partsOf", "(II)I"⟩, 20), (⟨"FileVolumeModel", "isPart", "(III)Z"⟩, 20), (⟨"FileVolumeModel", "shortLetter", "(II)I"⟩, 20), (⟨"FileVolumeModel", "letter", "(III)I"⟩, 20), (⟨"FileVolumeModel", "shorten", "()Z"⟩, 20), (⟨"FileVolumeModel", "isTaken", "()Z"⟩, 20), (⟨"FileVolumeModel", "make", "(I)Z"⟩, 20), (⟨"FileVolumeModel", "take", "()I"⟩, 20), (⟨"FileVolumeModel", "set", "(II)V"⟩, 20), (⟨"FileVolumeModel", "door", "()Z"⟩, 20)]
theorem lw_r2 : ∀ q ∈ lw_privs_2, lw_okq q := List.forall_mem_cons.mpr ⟨lw_p16, List.forall_mem_cons.mpr ⟨lw_p17, List.forall_mem_cons.mpr ⟨lw_p18, List.forall_mem_cons.mpr ⟨lw_p19, List.forall_mem_cons.mpr ⟨lw_p20, List.forall_mem_cons.mpr ⟨lw_p21, List.forall_mem_cons.mpr ⟨lw_p22, List.forall_mem_cons.mpr ⟨lw_p23, List.forall_mem_cons.mpr ⟨lw_p24, List.forall_mem_cons.mpr ⟨lw_p25, List.forall_mem_cons.mpr ⟨lw_p26, List.forall_mem_cons.mpr ⟨lw_p27, List.forall_mem_cons.mpr ⟨lw_p28, List.forall_mem_cons.mpr ⟨lw_p29, List.forall_mem_cons.mpr ⟨lw_p30, List.forall_mem_cons.mpr ⟨lw_p31, fun _ h => absurd h List.not_mem_nil⟩⟩⟩⟩⟩⟩⟩⟩⟩⟩⟩⟩⟩⟩⟩⟩
theorem lw_p32 : lw_okq (⟨"FileVolumeModel", "home", "()V"⟩, 20) := ⟨⟨by decide +kernel, by decide +kernel⟩, List.mem_of_getElem? (i := 855) (by decide +kernel), List.mem_of_getElem? (i := 1034) (by decide +kernel), List.mem_of_getElem? (i := 1035) (by decide +kernel)⟩
theorem lw_p33 : lw_okq (⟨"FileVolumeModel", "space", "(I)I"⟩, 20) := ⟨⟨by decide +kernel, by decide +kernel⟩, List.mem_of_getElem? (i := 855) (by decide +kernel), List.mem_of_getElem? (i := 1038) (by decide +kernel), List.mem_of_getElem? (i := 1039) (by decide +kernel)⟩
theorem lw_p34 : lw_okq (⟨"FileVolumeModel", "writePart", "(II)V"⟩, 20) := ⟨⟨by decide +kernel, by decide +kernel⟩, List.mem_of_getElem? (i := 855) (by decide +kernel), List.mem_of_getElem? (i := 1042) (by decide +kernel), List.mem_of_getElem? (i := 1043) (by decide +kernel)⟩
theorem lw_p35 : lw_okq (⟨"FileVolumeModel", "writeEntry", "(III)V"⟩, 20) := ⟨⟨by decide +kernel, by decide +kernel⟩, List.mem_of_getElem? (i := 855) (by decide +kernel), List.mem_of_getElem? (i := 1046) (by decide +kernel), List.mem_of_getElem? (i := 1047) (by decide +kernel)⟩
theorem lw_p36 : lw_okq (⟨"FileVolumeModel", "isEmpty", "(I)Z"⟩, 20) := ⟨⟨by decide +kernel, by decide +kernel⟩, List.mem_of_getElem? (i := 855) (by decide +kernel), List.mem_of_getElem? (i := 1054) (by decide +kernel), List.mem_of_getElem? (i := 1055) (by decide +kernel)⟩
theorem lw_p37 : lw_okq (⟨"FileVolumeModel", "free", "(II)V"⟩, 20) := ⟨⟨by decide +kernel, by decide +kernel⟩, List.mem_of_getElem? (i := 855) (by decide +kernel), List.mem_of_getElem? (i := 1058) (by decide +kernel), List.mem_of_getElem? (i := 1059) (by decide +kernel)⟩
theorem lw_p38 : lw_okq (⟨"FileVolumeModel", "mark", "(I)V"⟩, 20) := ⟨⟨by decide +kernel, by decide +kernel⟩, List.mem_of_getElem? (i := 855) (by decide +kernel), List.mem_of_getElem? (i := 1062) (by decide +kernel), List.mem_of_getElem? (i := 1063) (by decide +kernel)⟩
theorem lw_p39 : lw_okq (⟨"FileVolumeModel", "isOpen", "(I)Z"⟩, 20) := ⟨⟨by decide +kernel, by decide +kernel⟩, List.mem_of_getElem? (i := 855) (by decide +kernel), List.mem_of_getElem? (i := 1078) (by decide +kernel), List.mem_of_getElem? (i := 1079) (by decide +kernel)⟩
theorem lw_p40 : lw_okq (⟨"FileVolumeModel", "sizeOf", "(I)I"⟩, 20) := ⟨⟨by decide +kernel, by decide +kernel⟩, List.mem_of_getElem? (i := 855) (by decide +kernel), List.mem_of_getElem? (i := 1086) (by decide +kernel), List.mem_of_getElem? (i := 1087) (by decide +kernel)⟩
theorem lw_p41 : lw_okq (⟨"FileVolumeModel", "byteOf", "(II)I"⟩, 20) := ⟨⟨by decide +kernel, by decide +kernel⟩, List.mem_of_getElem? (i := 855) (by decide +kernel), List.mem_of_getElem? (i := 1095) (by decide +kernel), List.mem_of_getElem? (i := 1096) (by decide +kernel)⟩
theorem lw_p42 : lw_okq (⟨"FileVolumeModel", "writeNumber", "(II)V"⟩, 20) := ⟨⟨by decide +kernel, by decide +kernel⟩, List.mem_of_getElem? (i := 855) (by decide +kernel), List.mem_of_getElem? (i := 1103) (by decide +kernel), List.mem_of_getElem? (i := 1104) (by decide +kernel)⟩
theorem lw_p43 : lw_okq (⟨"FileVolumeModel", "fill", "(IIIJI)V"⟩, 20) := ⟨⟨by decide +kernel, by decide +kernel⟩, List.mem_of_getElem? (i := 855) (by decide +kernel), List.mem_of_getElem? (i := 1107) (by decide +kernel), List.mem_of_getElem? (i := 1108) (by decide +kernel)⟩
theorem lw_p44 : lw_okq (⟨"FileVolumeModel", "mendTables", "()V"⟩, 20) := ⟨⟨by decide +kernel, by decide +kernel⟩, List.mem_of_getElem? (i := 855) (by decide +kernel), List.mem_of_getElem? (i := 1128) (by decide +kernel), List.mem_of_getElem? (i := 1129) (by decide +kernel)⟩
theorem lw_p45 : lw_okq (⟨"FileVolumeModel", "fix", "(II)V"⟩, 20) := ⟨⟨by decide +kernel, by decide +kernel⟩, List.mem_of_getElem? (i := 855) (by decide +kernel), List.mem_of_getElem? (i := 1133) (by decide +kernel), List.mem_of_getElem? (i := 1134) (by decide +kernel)⟩
theorem lw_p46 : lw_okq (⟨"FileVolumeModel", "follow", "(I)I"⟩, 20) := ⟨⟨by decide +kernel, by decide +kernel⟩, List.mem_of_getElem? (i := 855) (by decide +kernel), List.mem_of_getElem? (i := 1137) (by decide +kernel), List.mem_of_getElem? (i := 1138) (by decide +kernel)⟩
theorem lw_p47 : lw_okq (⟨"FileVolumeModel", "walk", "()V"⟩, 20) := ⟨⟨by decide +kernel, by decide +kernel⟩, List.mem_of_getElem? (i := 855) (by decide +kernel), List.mem_of_getElem? (i := 1141) (by decide +kernel), List.mem_of_getElem? (i := 1142) (by decide +kernel)⟩
def lw_privs_3 : List (MethodName × Nat) := [(⟨"FileVolumeModel", "home", "()V"⟩, 20), (⟨"FileVolumeModel", "space", "(I)I"⟩, 20), (⟨"FileVolumeModel", "writePart", "(II)V"⟩, 20), (⟨"FileVolumeModel", "writeEntry", "(III)V"⟩, 20), (⟨"FileVolumeModel", "isEmpty", "(I)Z"⟩, 20), (⟨"FileVolumeModel", "free", "(II)V"⟩, 20), (⟨"FileVolumeModel", "mark", "(I)V"⟩, 20), (⟨"FileVolumeModel", "isOpen", "(I)Z"⟩, 20), (⟨"FileVolumeModel", "sizeOf", "(I)I"⟩, 20), (⟨"FileVolumeModel", "byteOf", "(II)I"⟩, 20), (⟨"FileVolumeModel", "writeNumber", "(II)V"⟩, 20), (⟨"FileVolumeModel", "fill", "(IIIJI)V"⟩, 20), (⟨"FileVolumeModel", "mendTables", "()V"⟩, 20), (⟨"FileVolumeModel", "fix", "(II)V"⟩, 20), (⟨"FileVolumeModel", "follow", "(I)I"⟩, 20), (⟨"FileVolumeModel", "walk", "()V"⟩, 20)]
theorem lw_r3 : ∀ q ∈ lw_privs_3, lw_okq q := List.forall_mem_cons.mpr ⟨lw_p32, List.forall_mem_cons.mpr ⟨lw_p33, List.forall_mem_cons.mpr ⟨lw_p34, List.forall_mem_cons.mpr ⟨lw_p35, List.forall_mem_cons.mpr ⟨lw_p36, List.forall_mem_cons.mpr ⟨lw_p37, List.forall_mem_cons.mpr ⟨lw_p38, List.forall_mem_cons.mpr ⟨lw_p39, List.forall_mem_cons.mpr ⟨lw_p40, List.forall_mem_cons.mpr ⟨lw_p41, List.forall_mem_cons.mpr ⟨lw_p42, List.forall_mem_cons.mpr ⟨lw_p43, List.forall_mem_cons.mpr ⟨lw_p44, List.forall_mem_cons.mpr ⟨lw_p45, List.forall_mem_cons.mpr ⟨lw_p46, List.forall_mem_cons.mpr ⟨lw_p47, fun _ h => absurd h List.not_mem_nil⟩⟩⟩⟩⟩⟩⟩⟩⟩⟩⟩⟩⟩⟩⟩⟩
theorem lw_p48 : lw_okq (⟨"FileVolumeModel", "tells", "(II)Z"⟩, 20) := ⟨⟨by decide +kernel, by decide +kernel⟩, List.mem_of_getElem? (i := 855) (by decide +kernel), List.mem_of_getElem? (i := 1145) (by decide +kernel), List.mem_of_getElem? (i := 1146) (by decide +kernel)⟩
theorem lw_p49 : lw_okq (⟨"FileVolumeModel", "isBad", "(II)Z"⟩, 20) := ⟨⟨by decide +kernel, by decide +kernel⟩, List.mem_of_getElem? (i := 855) (by decide +kernel), List.mem_of_getElem? (i := 1149) (by decide +kernel), List.mem_of_getElem? (i := 1150) (by decide +kernel)⟩
theorem lw_p50 : lw_okq (⟨"FileVolumeModel", "mendFile", "(II)V"⟩, 20) := ⟨⟨by decide +kernel, by decide +kernel⟩, List.mem_of_getElem? (i := 855) (by decide +kernel), List.mem_of_getElem? (i := 1153) (by decide +kernel), List.mem_of_getElem? (i := 1154) (by decide +kernel)⟩
def lw_privs_4 : List (MethodName × Nat) := [(⟨"FileVolumeModel", "tells", "(II)Z"⟩, 20), (⟨"FileVolumeModel", "isBad", "(II)Z"⟩, 20), (⟨"FileVolumeModel", "mendFile", "(II)V"⟩, 20)]
theorem lw_r4 : ∀ q ∈ lw_privs_4, lw_okq q := List.forall_mem_cons.mpr ⟨lw_p48, List.forall_mem_cons.mpr ⟨lw_p49, List.forall_mem_cons.mpr ⟨lw_p50, fun _ h => absurd h List.not_mem_nil⟩⟩⟩
def lw_privs : List (MethodName × Nat) := lw_privs_1 ++ (lw_privs_2 ++ (lw_privs_3 ++ (lw_privs_4)))
def lw_tbl : List Cond := k2_sels lw_privs ++ tables_1
theorem lw_privs_ok : ∀ q ∈ lw_privs, lw_okq q := by
  show ∀ q ∈ lw_privs_1 ++ (lw_privs_2 ++ (lw_privs_3 ++ (lw_privs_4))), lw_okq q
  exact List.forall_mem_append.mpr ⟨lw_r1, List.forall_mem_append.mpr ⟨lw_r2, List.forall_mem_append.mpr ⟨lw_r3, lw_r4⟩⟩⟩
end
section
/-! The machine under labels. A cell is named by its place in a list of cells, not by its address: then what an instruction reads and writes is decided by 'rfl'. -/
abbrev am_E : Type := (FieldType × vp_A) ⊕ (Nat × List Value)
abbrev am_O : Type := Option Value ⊕ String
/-- a value whose references are labels, as the machine has it: sb is the cell that no label below the list's length names (the law's script) -/
def am_v (sb : Nat) (ad : List Nat) (v : Value) : Value := match v with
  | .ref k => .ref (ad.getD k sb)
  | w => w
def am_e (dA : FieldType → ClassId) (sb : Nat) (ad : List Nat) (x : am_E) : va_E := match x with
  | .inl q => .inl (dA q.1, q.2)
  | .inr q => .inr (q.1, q.2.map (am_v sb ad))
def am_w (dA : FieldType → ClassId) (sb : Nat) (ad : List Nat) (h : List am_E) : va_W := List.zipWith (fun a x => (a, am_e dA sb ad x)) ad h
def am_ls (sb : Nat) (ad : List Nat) (ls : List (Nat × Value)) : List (Nat × Value) := ls.map (fun q => (q.1, am_v sb ad q.2))
theorem am_v_cat (sb : Nat) (ad : List Nat) (v : Value) : (am_v sb ad v).category = v.category := by cases v <;> rfl
theorem am_w_at {dA : FieldType → ClassId} {sb : Nat} {ad : List Nat} {h : List am_E} (hl : ad.length = h.length) {k : Nat} {x : am_E} (hk : h[k]? = some x) : (am_w dA sb ad h)[k]? = some (ad.getD k sb, am_e dA sb ad x) := by
  have hlt : k < h.length := (List.getElem?_eq_some_iff.mp hk).1
  have ha : ad[k]? = some (ad.getD k sb) := by
    rw [List.getD_eq_getElem?_getD, List.getElem?_eq_getElem (by omega)]
    rfl
  unfold am_w
  rw [List.getElem?_zipWith, ha, hk]
theorem am_w_of {dA : FieldType → ClassId} {sb : Nat} {ad : List Nat} {h : List am_E} {k : Nat} {q : Nat × va_E} (hq : (am_w dA sb ad h)[k]? = some q) : ∃ x, h[k]? = some x ∧ ad[k]? = some q.1 ∧ q.2 = am_e dA sb ad x := by
  unfold am_w at hq
  rw [List.getElem?_zipWith] at hq
  cases ha : ad[k]? with
  | none => rw [ha] at hq; cases hq
  | some a =>
    cases hx : h[k]? with
    | none => rw [ha, hx] at hq; cases hq
    | some x =>
      rw [ha, hx] at hq
      cases hq
      exact ⟨x, rfl, rfl, rfl⟩
theorem am_w_len {dA : FieldType → ClassId} {sb : Nat} {ad : List Nat} {h : List am_E} (hl : ad.length = h.length) : (am_w dA sb ad h).length = h.length := by
  unfold am_w
  rw [List.length_zipWith, hl, Nat.min_self]
theorem am_w_set {dA : FieldType → ClassId} {sb : Nat} {ad : List Nat} {h : List am_E} (hl : ad.length = h.length) {k : Nat} {x : am_E} (hk : k < h.length) :
    (am_w dA sb ad h).set k (ad.getD k sb, am_e dA sb ad x) = am_w dA sb ad (h.set k x) := by
  apply List.ext_getElem?
  intro j
  by_cases hj : j = k
  · subst hj
    rw [List.getElem?_set_self (by rw [am_w_len hl]; exact hk)]
    rw [am_w_at (by rw [List.length_set]; exact hl) (List.getElem?_set_self hk)]
  · rw [List.getElem?_set_ne (Ne.symm hj)]
    unfold am_w
    rw [List.getElem?_zipWith, List.getElem?_zipWith, List.getElem?_set_ne (Ne.symm hj)]
/-- which cells a method may change: those that have labels, and those that it makes -/
def am_A (ad : List Nat) (sz : Nat) : Nat → Prop := fun q => q ∈ ad ∨ sz ≤ q
def am_ty (dA : FieldType → ClassId) : List (ClassId × FieldType) := [(dA .int, .int), (dA .boolean, .boolean), (dA .char, .char), (dA .long, .long)]
/-- words that stay under warmer tables, though the kit's lists do not take them -/
def am_nest (w : Cond) : Bool := match w with
  | .fieldLinkNest .. => true
  | .methodLinkNest .. => true
  | c => c.onTables && c.keepsCast
/-- what the tables say beside the words: the classes, the nest's links, the texts -/
def am_T (D : va_G) (dA : FieldType → ClassId) (cl : List vw_C) (NW : List Cond) (SL : List (String × Nat × String)) (U : State) : Prop :=
  va_K D cl (am_ty dA) U ∧ (∀ w ∈ NW, am_nest w = true ∧ va_Nw w U) ∧ ∀ q ∈ SL, ∃ a, vk_R q.1 q.2.1 q.2.2 a U
/-- the words that speak of the heap: what Throwable's two statics hold -/
def am_hw : List Cond := [.isRef (.static Bundle.tN "UNASSIGNED_STACK" Bundle.steD), .isRef (.static Bundle.tN "SUPPRESSED_SENTINEL" Bundle.listD), .laysStatic Bundle.tN "UNASSIGNED_STACK" Bundle.steD, .laysStatic Bundle.tN "SUPPRESSED_SENTINEL" Bundle.listD]
/-- a later state: warmer tables, and of the cells that were there only those in A may have changed -/
def am_later (A : Nat → Prop) (s U : State) : Prop := s.WarmedH U.vm ∧ s.heap.size ≤ U.heap.size ∧ ∀ q : Nat, q < s.heap.size → ¬ A q → U.heap[q]? = s.heap[q]?
def am_Z (A : Nat → Prop) (s : State) : Prop := ∀ U : State, am_later A s U → ∀ w ∈ am_hw, ∀ a : Array Value, w.before a U = true
theorem am_Z.next {A B : Nat → Prop} {s U : State} (h : am_Z A s) (hU : am_later A s U) (hB : ∀ q, B q → A q) : am_Z B U := by
  intro V hV w hw a
  refine h V ⟨State.WarmedH.trans hU.1 hV.1, Nat.le_trans hU.2.1 hV.2.1, fun q h1 h2 => ?_⟩ w hw a
  rw [hV.2.2 q (Nat.lt_of_lt_of_le h1 hU.2.1) (fun z => h2 (hB q z))]
  exact hU.2.2 q h1 h2
/-- the claim's constants: launch, numbers of classes and slots, array classes, classes, links of the nest, texts -/
abbrev am_K : Type := Launch × va_G × (FieldType → ClassId) × List vw_C × List Cond × List (String × Nat × String)
/-- a method: its words, its class, its code, its locals, what it returns, its name, its handlers, its room, the script if it is the law's -/
abbrev am_N : Type := List Cond × String × ByteArray × Nat × Option FieldType × String × List ExceptionTableEntry × Room × Option (Nat × (Nat → Int32))
abbrev am_l (κ : am_K) : Launch := κ.1
abbrev am_D (κ : am_K) : va_G := κ.2.1
abbrev am_dA (κ : am_K) : FieldType → ClassId := κ.2.2.1
abbrev am_cl (κ : am_K) : List vw_C := κ.2.2.2.1
abbrev am_NW (κ : am_K) : List Cond := κ.2.2.2.2.1
abbrev am_SL (κ : am_K) : List (String × Nat × String) := κ.2.2.2.2.2
abbrev am_ws (μ : am_N) : List Cond := μ.1
abbrev am_own (μ : am_N) : String := μ.2.1
abbrev am_cc (μ : am_N) : ByteArray := μ.2.2.1
abbrev am_nL (μ : am_N) : Nat := μ.2.2.2.1
abbrev am_rt (μ : am_N) : Option FieldType := μ.2.2.2.2.1
abbrev am_nm (μ : am_N) : String := μ.2.2.2.2.2.1
abbrev am_tb (μ : am_N) : List ExceptionTableEntry := μ.2.2.2.2.2.2.1
abbrev am_R (μ : am_N) : Room := μ.2.2.2.2.2.2.2.1
abbrev am_X (μ : am_N) : Option (Nat × (Nat → Int32)) := μ.2.2.2.2.2.2.2.2
/-- the script, where there is one -/
def am_S (x : Option (Nat × (Nat → Int32))) (sb : Nat) (A : Nat → Prop) (s : State) : Prop := match x with
  | none => True
  | some q => va_X sb q.1 q.2 s s.heap ∧ sb < s.heap.size ∧ ¬ A sb
/-- where a method stands: the facts of its invocation, and the cells -/
def am_I (κ : am_K) (μ : am_N) (p : Program) (s : State) (m : MethodId) (args : Array Value) (meth : Method) (c : Code) (H : Heap) (locs : List Loc) (A : Nat → Prop) (sb : Nat) (ad0 ad : List Nat) (h : List am_E) : Prop :=
  CallFix p m c (am_cc μ) (am_nL μ) s args (am_ws μ) (am_own μ) ∧ (meth.sig.returnType = am_rt μ ∧ meth.locks = false ∧ meth.name = am_nm μ ∧ c.exceptionTable.toList = am_tb μ) ∧
  am_T (am_D κ) (am_dA κ) (am_cl κ) (am_NW κ) (am_SL κ) s ∧ am_Z A s ∧ (∀ q, s.heap.size ≤ q → A q) ∧ am_S (am_X μ) sb A s ∧
  ad0 <+: ad ∧ ad.length = h.length ∧ va_P (am_D κ) (am_cl κ) (am_w (am_dA κ) sb ad h) H ∧ va_D A (am_w (am_dA κ) sb ad h) ∧ va_S A s.heap H locs
/-- the cells behind a method -/
def am_B (κ : am_K) (sb : Nat) (ad0 : List Nat) (A : Nat → Prop) (h : List am_E) (ad : List Nat) (t : State) : Prop :=
  ad0 <+: ad ∧ ad.length = h.length ∧ va_P (am_D κ) (am_cl κ) (am_w (am_dA κ) sb ad h) t.heap ∧ va_D A (am_w (am_dA κ) sb ad h)
/-- how a method ended: with a value, or with an exception of a class -/
def am_oc (sb : Nat) (ad : List Nat) (o : am_O) (oc : Outcome) (s t : State) : Prop := match o with
  | .inl v => oc = .returned (v.map (am_v sb ad))
  | .inr E => ∃ (q : Addr) (ce : Cell), oc = .threw q ∧ t.heap[q]? = some ce ∧ ce.vm = .none ∧ s.vm.findClass E = some ce.cls
def am_Q (κ : am_K) (sb : Nat) (ad0 : List Nat) (A : Nat → Prop) (rm : Room) (o : am_O) (h : List am_E) : Array Value → State → Outcome → State → Prop := fun _ s oc t =>
  (∃ ad : List Nat, am_oc sb ad o oc s t ∧ am_B κ sb ad0 A h ad t) ∧ va_F A s t ∧ ∃ L : List Loc, (s.WarmedH t.vm ∧ s.sameButNew ({ t with vm := s.vm } : State) L rm.cells rm.slots) ∧ ∀ q ∈ L, A q.base
def am_MQ (κ : am_K) (below : List Frame) (sb : Nat) (ad0 : List Nat) (A : Nat → Prop) (rm : Room) (o : am_O) (h : List am_E) (a : Array Value) (s : State) : State → Prop := fun t =>
  ∃ oc, t.status = .running ∧ Ended t below oc ∧ am_Q κ sb ad0 A rm o h a s oc t
/-- a contract's start -/
def am_Pc (κ : am_K) (sb : Nat) (ad : List Nat) (sz : Nat) (as : List Value) (h : List am_E) : Array Value → State → Prop := fun v U =>
  v = (as.map (am_v sb ad)).toArray ∧ U.heap.size = sz ∧ va_P (am_D κ) (am_cl κ) (am_w (am_dA κ) sb ad h) U.heap ∧ va_D (fun _ => True) (am_w (am_dA κ) sb ad h) ∧
  am_T (am_D κ) (am_dA κ) (am_cl κ) (am_NW κ) (am_SL κ) U ∧ am_Z (am_A ad sz) U
/-- A CONTRACT: from these arguments and these cells the method y ends with o1 (a value, or the class of what it throws), and then the cells are h1 -/
def am_M (κ : am_K) (y : MethodName) (ws : List Cond) (rm : Room) (as : List Value) (h : List am_E) (o1 : am_O) (h1 : List am_E) : Prop :=
  ∀ (sb : Nat) (ad : List Nat) (sz : Nat), ad.length = h.length → MetFree (am_l κ) y (headSpec ws rm) (am_Pc κ sb ad sz as h) (fun _ _ _ _ _ => True) (am_Q κ sb ad (am_A ad sz) rm o1 h1)
/-- THE WALK: the method μ at pc, with these locals, this stack and these cells, ends with o1 and the cells h1; nc cells of ns slots have been made in it -/
def am_G (κ : am_K) (μ : am_N) (o1 : am_O) (h1 : List am_E) (nc ns pc : Nat) (ls : List (Nat × Value)) (st : List Value) (h : List am_E) : Prop :=
  ∀ (p : Program) (e : Env) (s : State) (m : MethodId) (args : Array Value) (below : List Frame) (meth : Method) (c : Code) (H : Heap) (locs : List Loc) (A : Nat → Prop) (sb : Nat) (ad0 ad : List Nat) (lv : Array Slot),
    am_I κ μ p s m args meth c H locs A sb ad0 ad h → lv_has lv (am_nL μ) (am_ls sb ad ls) →
    W p (am_l κ) e (am_R μ) s m args below meth c H locs nc ns (am_MQ κ below sb ad0 A (am_R μ) o1 h1 args s) (F0 m pc lv (st.map (am_v sb ad)))
/-- the same, where an exception of the class E has come into the frame -/
def am_GX (κ : am_K) (μ : am_N) (o1 : am_O) (h1 : List am_E) (nc ns pc : Nat) (ls : List (Nat × Value)) (st : List Value) (h : List am_E) (E : String) : Prop :=
  ∀ (p : Program) (e : Env) (s : State) (m : MethodId) (args : Array Value) (below : List Frame) (meth : Method) (c : Code) (H : Heap) (locs : List Loc) (A : Nat → Prop) (sb : Nat) (ad0 ad : List Nat) (lv : Array Slot) (ce : Cell) (q : Addr),
    am_I κ μ p s m args meth c H locs A sb ad0 ad h → lv_has lv (am_nL μ) (am_ls sb ad ls) → H[q]? = some ce → ce.vm = .none → s.vm.findClass E = some ce.cls →
    ∀ T : State, T.heap = H → Stand p (am_l κ) e (am_R μ) s m args below meth c T locs nc ns → ∃ t, Steps p.tables e below ((T.setTop (F0 m pc lv (st.map (am_v sb ad)))).pushFrame (.throwing q)) t ∧ am_MQ κ below sb ad0 A (am_R μ) o1 h1 args s t
theorem am_T.warm {D : va_G} {dA : FieldType → ClassId} {cl : List vw_C} {NW : List Cond} {SL : List (String × Nat × String)} {s U : State} (hW : s.WarmedH U.vm) (h : am_T D dA cl NW SL s) : am_T D dA cl NW SL U := by
  refine ⟨va_K.moved hW.alike h.1, fun w hw => ?_, fun q hq => ?_⟩
  · obtain ⟨h2, h1⟩ := h.2.1 w hw
    refine ⟨h2, ?_⟩
    have other : (w.onTables && w.keepsCast) = true → va_Nw w U := fun hk => by
      simp only [Bool.and_eq_true] at hk
      exact va_tabs hk.1 (rfl : (s.setVm U.vm).vm = U.vm) (Cond.before_shiftedCast (State.Shifted.of_warmed hW) w hk.2 h1)
    cases w <;> first | exact va_Nw.warmF hW h1 | exact va_Nw.warmM hW h1 | exact other h2
  · obtain ⟨a, ha⟩ := h.2.2 q hq
    exact ⟨a, vk_R.warm hW ha⟩
theorem am_Pc.blind {κ : am_K} {sb : Nat} {ad : List Nat} {sz : Nat} {as : List Value} {h : List am_E} : FrameBlind (am_Pc κ sb ad sz as h) := by
  intro a U g mk q
  obtain ⟨q0, q1, qP, qD, qT, qZ⟩ := q
  exact ⟨q0, q1, qP, qD, am_T.warm (State.WarmedH.refl U) qT, qZ.next ⟨State.WarmedH.refl U, Nat.le_refl _, fun _ _ _ => rfl⟩ (fun _ z => z)⟩
theorem am_free {κ : am_K} {μ : am_N} {p : Program} {s : State} {m : MethodId} {args : Array Value} {meth : Method} {c : Code} {H : Heap} {locs : List Loc} {A : Nat → Prop} {sb : Nat} {ad0 ad : List Nat} {h : List am_E}
    (I : am_I κ μ p s m args meth c H locs A sb ad0 ad h) : ∀ q, am_A ad H.size q → A q := by
  obtain ⟨-, -, -, -, hA, -, -, hlen, -, hD, hS⟩ := I
  intro q hq
  rcases hq with hq | hq
  · obtain ⟨k, hk⟩ := List.getElem?_of_mem hq
    have hlt : k < h.length := by rw [← hlen]; exact (List.getElem?_eq_some_iff.mp hk).1
    have h1 := am_w_at (dA := am_dA κ) (sb := sb) hlen (List.getElem?_eq_getElem hlt)
    have h2 := hD.2 k _ h1
    have h3 : ad.getD k sb = q := by rw [List.getD_eq_getElem?_getD, hk]; rfl
    rw [← h3]
    exact h2
  · exact hA q (Nat.le_trans hS.1 hq)
theorem am_Pc.at {κ : am_K} {μ : am_N} {p : Program} {s : State} {m : MethodId} {args : Array Value} {meth : Method} {c : Code} {H : Heap} {locs : List Loc} {A : Nat → Prop} {sb : Nat} {ad0 ad : List Nat} {h : List am_E} (as : List Value)
    (I : am_I κ μ p s m args meth c H locs A sb ad0 ad h) : ∀ U : State, U.heap = H → s.WarmedH U.vm → am_Pc κ sb ad H.size as h (as.map (am_v sb ad)).toArray U := by
  intro U hU hW
  have hF := am_free I
  obtain ⟨-, -, hT, hZ, hA, -, -, hlen, hP, hD, hS⟩ := I
  refine ⟨rfl, by rw [hU], by rw [hU]; exact hP, hD.weaken (fun _ _ _ _ => trivial), am_T.warm hW hT, ?_⟩
  exact hZ.next ⟨hW, by rw [hU]; exact hS.1, fun q h1 h2 => by rw [hU]; exact hS.2.1 q h1 h2⟩ hF
end
section
theorem g_iconst {κ : am_K} {μ : am_N} {o1 : am_O} {h1 : List am_E} {nc ns pc n : Nat} {ls : List (Nat × Value)} {st : List Value} {h : List am_E} {i : Int} {v : Int32} (d : decode (am_cc μ) pc = .ok (.iconst i, 1)) (en : pc + 1 = n) (hv : Int32.ofInt i = v)
    (k : am_G κ μ o1 h1 nc ns n ls (.int v :: st) h) : am_G κ μ o1 h1 nc ns pc ls st h := by
  subst en
  intro p e s m args below meth c H locs A sb ad0 ad lv I hl
  exact lv_iconst I.1.1 I.1.2.1 d hv (k p e s m args below meth c H locs A sb ad0 ad lv I hl)
theorem g_bipush {κ : am_K} {μ : am_N} {o1 : am_O} {h1 : List am_E} {nc ns pc n : Nat} {ls : List (Nat × Value)} {st : List Value} {h : List am_E} {i : Int} {v : Int32} (d : decode (am_cc μ) pc = .ok (.bipush i, 2)) (en : pc + 2 = n) (hv : (Int8.ofInt i).toInt32 = v)
    (k : am_G κ μ o1 h1 nc ns n ls (.int v :: st) h) : am_G κ μ o1 h1 nc ns pc ls st h := by
  subst en
  intro p e s m args below meth c H locs A sb ad0 ad lv I hl
  exact lv_bipush I.1.1 I.1.2.1 d hv (k p e s m args below meth c H locs A sb ad0 ad lv I hl)
theorem g_sipush {κ : am_K} {μ : am_N} {o1 : am_O} {h1 : List am_E} {nc ns pc n : Nat} {ls : List (Nat × Value)} {st : List Value} {h : List am_E} {i : Int} {v : Int32} (d : decode (am_cc μ) pc = .ok (.sipush i, 3)) (en : pc + 3 = n) (hv : (Int16.ofInt i).toInt32 = v)
    (k : am_G κ μ o1 h1 nc ns n ls (.int v :: st) h) : am_G κ μ o1 h1 nc ns pc ls st h := by
  subst en
  intro p e s m args below meth c H locs A sb ad0 ad lv I hl
  exact lv_sipush I.1.1 I.1.2.1 d hv (k p e s m args below meth c H locs A sb ad0 ad lv I hl)
theorem g_lconst {κ : am_K} {μ : am_N} {o1 : am_O} {h1 : List am_E} {nc ns pc n : Nat} {ls : List (Nat × Value)} {st : List Value} {h : List am_E} {i : Fin 2} {v : Int64} (d : decode (am_cc μ) pc = .ok (.lconst i, 1)) (en : pc + 1 = n) (hv : Int64.ofNat (i : Nat) = v)
    (k : am_G κ μ o1 h1 nc ns n ls (.long v :: st) h) : am_G κ μ o1 h1 nc ns pc ls st h := by
  subst en
  intro p e s m args below meth c H locs A sb ad0 ad lv I hl
  exact lv_lconst I.1.1 I.1.2.1 d hv (k p e s m args below meth c H locs A sb ad0 ad lv I hl)
theorem g_iadd {κ : am_K} {μ : am_N} {o1 : am_O} {h1 : List am_E} {nc ns pc n : Nat} {ls : List (Nat × Value)} {st : List Value} {h : List am_E} {x y : Int32} (d : decode (am_cc μ) pc = .ok (.iadd, 1)) (en : pc + 1 = n) 
    (k : am_G κ μ o1 h1 nc ns n ls (.int (x + y) :: st) h) : am_G κ μ o1 h1 nc ns pc ls (.int y :: .int x :: st) h := by
  subst en
  intro p e s m args below meth c H locs A sb ad0 ad lv I hl
  exact lv_iadd I.1.1 I.1.2.1 d  (k p e s m args below meth c H locs A sb ad0 ad lv I hl)
theorem g_isub {κ : am_K} {μ : am_N} {o1 : am_O} {h1 : List am_E} {nc ns pc n : Nat} {ls : List (Nat × Value)} {st : List Value} {h : List am_E} {x y : Int32} (d : decode (am_cc μ) pc = .ok (.isub, 1)) (en : pc + 1 = n) 
    (k : am_G κ μ o1 h1 nc ns n ls (.int (x - y) :: st) h) : am_G κ μ o1 h1 nc ns pc ls (.int y :: .int x :: st) h := by
  subst en
  intro p e s m args below meth c H locs A sb ad0 ad lv I hl
  exact lv_isub I.1.1 I.1.2.1 d  (k p e s m args below meth c H locs A sb ad0 ad lv I hl)
theorem g_imul {κ : am_K} {μ : am_N} {o1 : am_O} {h1 : List am_E} {nc ns pc n : Nat} {ls : List (Nat × Value)} {st : List Value} {h : List am_E} {x y : Int32} (d : decode (am_cc μ) pc = .ok (.imul, 1)) (en : pc + 1 = n) 
    (k : am_G κ μ o1 h1 nc ns n ls (.int (x * y) :: st) h) : am_G κ μ o1 h1 nc ns pc ls (.int y :: .int x :: st) h := by
  subst en
  intro p e s m args below meth c H locs A sb ad0 ad lv I hl
  exact lv_imul I.1.1 I.1.2.1 d  (k p e s m args below meth c H locs A sb ad0 ad lv I hl)
theorem g_iand {κ : am_K} {μ : am_N} {o1 : am_O} {h1 : List am_E} {nc ns pc n : Nat} {ls : List (Nat × Value)} {st : List Value} {h : List am_E} {x y : Int32} (d : decode (am_cc μ) pc = .ok (.iand, 1)) (en : pc + 1 = n) 
    (k : am_G κ μ o1 h1 nc ns n ls (.int (x &&& y) :: st) h) : am_G κ μ o1 h1 nc ns pc ls (.int y :: .int x :: st) h := by
  subst en
  intro p e s m args below meth c H locs A sb ad0 ad lv I hl
  exact lv_iand I.1.1 I.1.2.1 d  (k p e s m args below meth c H locs A sb ad0 ad lv I hl)
theorem g_ior {κ : am_K} {μ : am_N} {o1 : am_O} {h1 : List am_E} {nc ns pc n : Nat} {ls : List (Nat × Value)} {st : List Value} {h : List am_E} {x y : Int32} (d : decode (am_cc μ) pc = .ok (.ior, 1)) (en : pc + 1 = n) 
    (k : am_G κ μ o1 h1 nc ns n ls (.int (x ||| y) :: st) h) : am_G κ μ o1 h1 nc ns pc ls (.int y :: .int x :: st) h := by
  subst en
  intro p e s m args below meth c H locs A sb ad0 ad lv I hl
  exact lv_ior I.1.1 I.1.2.1 d  (k p e s m args below meth c H locs A sb ad0 ad lv I hl)
theorem g_ixor {κ : am_K} {μ : am_N} {o1 : am_O} {h1 : List am_E} {nc ns pc n : Nat} {ls : List (Nat × Value)} {st : List Value} {h : List am_E} {x y : Int32} (d : decode (am_cc μ) pc = .ok (.ixor, 1)) (en : pc + 1 = n) 
    (k : am_G κ μ o1 h1 nc ns n ls (.int (x ^^^ y) :: st) h) : am_G κ μ o1 h1 nc ns pc ls (.int y :: .int x :: st) h := by
  subst en
  intro p e s m args below meth c H locs A sb ad0 ad lv I hl
  exact lv_ixor I.1.1 I.1.2.1 d  (k p e s m args below meth c H locs A sb ad0 ad lv I hl)
theorem g_ishl {κ : am_K} {μ : am_N} {o1 : am_O} {h1 : List am_E} {nc ns pc n : Nat} {ls : List (Nat × Value)} {st : List Value} {h : List am_E} {x y : Int32} (d : decode (am_cc μ) pc = .ok (.ishl, 1)) (en : pc + 1 = n) 
    (k : am_G κ μ o1 h1 nc ns n ls (.int (x <<< (y &&& 31)) :: st) h) : am_G κ μ o1 h1 nc ns pc ls (.int y :: .int x :: st) h := by
  subst en
  intro p e s m args below meth c H locs A sb ad0 ad lv I hl
  exact lv_ishl I.1.1 I.1.2.1 d  (k p e s m args below meth c H locs A sb ad0 ad lv I hl)
theorem g_ishr {κ : am_K} {μ : am_N} {o1 : am_O} {h1 : List am_E} {nc ns pc n : Nat} {ls : List (Nat × Value)} {st : List Value} {h : List am_E} {x y : Int32} (d : decode (am_cc μ) pc = .ok (.ishr, 1)) (en : pc + 1 = n) 
    (k : am_G κ μ o1 h1 nc ns n ls (.int (x >>> (y &&& 31)) :: st) h) : am_G κ μ o1 h1 nc ns pc ls (.int y :: .int x :: st) h := by
  subst en
  intro p e s m args below meth c H locs A sb ad0 ad lv I hl
  exact lv_ishr I.1.1 I.1.2.1 d  (k p e s m args below meth c H locs A sb ad0 ad lv I hl)
theorem g_idiv {κ : am_K} {μ : am_N} {o1 : am_O} {h1 : List am_E} {nc ns pc n : Nat} {ls : List (Nat × Value)} {st : List Value} {h : List am_E} {x y : Int32} (d : decode (am_cc μ) pc = .ok (.idiv, 1)) (en : pc + 1 = n) (hne : ¬ y = 0)
    (k : am_G κ μ o1 h1 nc ns n ls (.int (x / y) :: st) h) : am_G κ μ o1 h1 nc ns pc ls (.int y :: .int x :: st) h := by
  subst en
  intro p e s m args below meth c H locs A sb ad0 ad lv I hl
  exact lv_idiv I.1.1 I.1.2.1 d hne (k p e s m args below meth c H locs A sb ad0 ad lv I hl)
theorem g_irem {κ : am_K} {μ : am_N} {o1 : am_O} {h1 : List am_E} {nc ns pc n : Nat} {ls : List (Nat × Value)} {st : List Value} {h : List am_E} {x y : Int32} (d : decode (am_cc μ) pc = .ok (.irem, 1)) (en : pc + 1 = n) (hne : ¬ y = 0)
    (k : am_G κ μ o1 h1 nc ns n ls (.int (x - x / y * y) :: st) h) : am_G κ μ o1 h1 nc ns pc ls (.int y :: .int x :: st) h := by
  subst en
  intro p e s m args below meth c H locs A sb ad0 ad lv I hl
  exact lv_irem I.1.1 I.1.2.1 d hne (k p e s m args below meth c H locs A sb ad0 ad lv I hl)
theorem g_iushr {κ : am_K} {μ : am_N} {o1 : am_O} {h1 : List am_E} {nc ns pc n : Nat} {ls : List (Nat × Value)} {st : List Value} {h : List am_E} {x y : Int32} (d : decode (am_cc μ) pc = .ok (.iushr, 1)) (en : pc + 1 = n) 
    (k : am_G κ μ o1 h1 nc ns n ls (.int (x.toUInt32 >>> (y.toUInt32 &&& Int32.toUInt32 31)).toInt32 :: st) h) : am_G κ μ o1 h1 nc ns pc ls (.int y :: .int x :: st) h := by
  subst en
  intro p e s m args below meth c H locs A sb ad0 ad lv I hl
  exact lv_iushr I.1.1 I.1.2.1 d rfl (k p e s m args below meth c H locs A sb ad0 ad lv I hl)
theorem g_ineg {κ : am_K} {μ : am_N} {o1 : am_O} {h1 : List am_E} {nc ns pc n : Nat} {ls : List (Nat × Value)} {st : List Value} {h : List am_E} {x : Int32} (d : decode (am_cc μ) pc = .ok (.ineg, 1)) (en : pc + 1 = n) 
    (k : am_G κ μ o1 h1 nc ns n ls (.int (-x) :: st) h) : am_G κ μ o1 h1 nc ns pc ls (.int x :: st) h := by
  subst en
  intro p e s m args below meth c H locs A sb ad0 ad lv I hl
  exact lv_ineg I.1.1 I.1.2.1 d  (k p e s m args below meth c H locs A sb ad0 ad lv I hl)
theorem g_ladd {κ : am_K} {μ : am_N} {o1 : am_O} {h1 : List am_E} {nc ns pc n : Nat} {ls : List (Nat × Value)} {st : List Value} {h : List am_E} {x y : Int64} (d : decode (am_cc μ) pc = .ok (.ladd, 1)) (en : pc + 1 = n) 
    (k : am_G κ μ o1 h1 nc ns n ls (.long (x + y) :: st) h) : am_G κ μ o1 h1 nc ns pc ls (.long y :: .long x :: st) h := by
  subst en
  intro p e s m args below meth c H locs A sb ad0 ad lv I hl
  exact lv_ladd I.1.1 I.1.2.1 d  (k p e s m args below meth c H locs A sb ad0 ad lv I hl)
theorem g_lsub {κ : am_K} {μ : am_N} {o1 : am_O} {h1 : List am_E} {nc ns pc n : Nat} {ls : List (Nat × Value)} {st : List Value} {h : List am_E} {x y : Int64} (d : decode (am_cc μ) pc = .ok (.lsub, 1)) (en : pc + 1 = n) 
    (k : am_G κ μ o1 h1 nc ns n ls (.long (x - y) :: st) h) : am_G κ μ o1 h1 nc ns pc ls (.long y :: .long x :: st) h := by
  subst en
  intro p e s m args below meth c H locs A sb ad0 ad lv I hl
  exact lv_lsub I.1.1 I.1.2.1 d  (k p e s m args below meth c H locs A sb ad0 ad lv I hl)
theorem g_lmul {κ : am_K} {μ : am_N} {o1 : am_O} {h1 : List am_E} {nc ns pc n : Nat} {ls : List (Nat × Value)} {st : List Value} {h : List am_E} {x y : Int64} (d : decode (am_cc μ) pc = .ok (.lmul, 1)) (en : pc + 1 = n) 
    (k : am_G κ μ o1 h1 nc ns n ls (.long (x * y) :: st) h) : am_G κ μ o1 h1 nc ns pc ls (.long y :: .long x :: st) h := by
  subst en
  intro p e s m args below meth c H locs A sb ad0 ad lv I hl
  exact lv_lmul I.1.1 I.1.2.1 d  (k p e s m args below meth c H locs A sb ad0 ad lv I hl)
theorem g_land {κ : am_K} {μ : am_N} {o1 : am_O} {h1 : List am_E} {nc ns pc n : Nat} {ls : List (Nat × Value)} {st : List Value} {h : List am_E} {x y : Int64} (d : decode (am_cc μ) pc = .ok (.land, 1)) (en : pc + 1 = n) 
    (k : am_G κ μ o1 h1 nc ns n ls (.long (x &&& y) :: st) h) : am_G κ μ o1 h1 nc ns pc ls (.long y :: .long x :: st) h := by
  subst en
  intro p e s m args below meth c H locs A sb ad0 ad lv I hl
  exact lv_land I.1.1 I.1.2.1 d  (k p e s m args below meth c H locs A sb ad0 ad lv I hl)
theorem g_lor {κ : am_K} {μ : am_N} {o1 : am_O} {h1 : List am_E} {nc ns pc n : Nat} {ls : List (Nat × Value)} {st : List Value} {h : List am_E} {x y : Int64} (d : decode (am_cc μ) pc = .ok (.lor, 1)) (en : pc + 1 = n) 
    (k : am_G κ μ o1 h1 nc ns n ls (.long (x ||| y) :: st) h) : am_G κ μ o1 h1 nc ns pc ls (.long y :: .long x :: st) h := by
  subst en
  intro p e s m args below meth c H locs A sb ad0 ad lv I hl
  exact lv_lor I.1.1 I.1.2.1 d  (k p e s m args below meth c H locs A sb ad0 ad lv I hl)
theorem g_lxor {κ : am_K} {μ : am_N} {o1 : am_O} {h1 : List am_E} {nc ns pc n : Nat} {ls : List (Nat × Value)} {st : List Value} {h : List am_E} {x y : Int64} (d : decode (am_cc μ) pc = .ok (.lxor, 1)) (en : pc + 1 = n) 
    (k : am_G κ μ o1 h1 nc ns n ls (.long (x ^^^ y) :: st) h) : am_G κ μ o1 h1 nc ns pc ls (.long y :: .long x :: st) h := by
  subst en
  intro p e s m args below meth c H locs A sb ad0 ad lv I hl
  exact lv_lxor I.1.1 I.1.2.1 d  (k p e s m args below meth c H locs A sb ad0 ad lv I hl)
theorem g_lshl {κ : am_K} {μ : am_N} {o1 : am_O} {h1 : List am_E} {nc ns pc n : Nat} {ls : List (Nat × Value)} {st : List Value} {h : List am_E} {x : Int64} {y : Int32} (d : decode (am_cc μ) pc = .ok (.lshl, 1)) (en : pc + 1 = n) 
    (k : am_G κ μ o1 h1 nc ns n ls (.long (x <<< (y.toInt64 &&& 63)) :: st) h) : am_G κ μ o1 h1 nc ns pc ls (.int y :: .long x :: st) h := by
  subst en
  intro p e s m args below meth c H locs A sb ad0 ad lv I hl
  exact lv_lshl I.1.1 I.1.2.1 d rfl (k p e s m args below meth c H locs A sb ad0 ad lv I hl)
theorem g_lshr {κ : am_K} {μ : am_N} {o1 : am_O} {h1 : List am_E} {nc ns pc n : Nat} {ls : List (Nat × Value)} {st : List Value} {h : List am_E} {x : Int64} {y : Int32} (d : decode (am_cc μ) pc = .ok (.lshr, 1)) (en : pc + 1 = n) 
    (k : am_G κ μ o1 h1 nc ns n ls (.long (x >>> (y.toInt64 &&& 63)) :: st) h) : am_G κ μ o1 h1 nc ns pc ls (.int y :: .long x :: st) h := by
  subst en
  intro p e s m args below meth c H locs A sb ad0 ad lv I hl
  exact lv_lshr I.1.1 I.1.2.1 d rfl (k p e s m args below meth c H locs A sb ad0 ad lv I hl)
theorem g_lushr {κ : am_K} {μ : am_N} {o1 : am_O} {h1 : List am_E} {nc ns pc n : Nat} {ls : List (Nat × Value)} {st : List Value} {h : List am_E} {x : Int64} {y : Int32} (d : decode (am_cc μ) pc = .ok (.lushr, 1)) (en : pc + 1 = n) 
    (k : am_G κ μ o1 h1 nc ns n ls (.long (x.toUInt64 >>> (y.toInt64.toUInt64 &&& Int64.toUInt64 63)).toInt64 :: st) h) : am_G κ μ o1 h1 nc ns pc ls (.int y :: .long x :: st) h := by
  subst en
  intro p e s m args below meth c H locs A sb ad0 ad lv I hl
  exact lv_lushr I.1.1 I.1.2.1 d rfl (k p e s m args below meth c H locs A sb ad0 ad lv I hl)
theorem g_i2l {κ : am_K} {μ : am_N} {o1 : am_O} {h1 : List am_E} {nc ns pc n : Nat} {ls : List (Nat × Value)} {st : List Value} {h : List am_E} {x : Int32} (d : decode (am_cc μ) pc = .ok (.i2l, 1)) (en : pc + 1 = n) 
    (k : am_G κ μ o1 h1 nc ns n ls (.long x.toInt64 :: st) h) : am_G κ μ o1 h1 nc ns pc ls (.int x :: st) h := by
  subst en
  intro p e s m args below meth c H locs A sb ad0 ad lv I hl
  exact lv_i2l I.1.1 I.1.2.1 d rfl (k p e s m args below meth c H locs A sb ad0 ad lv I hl)
theorem g_l2i {κ : am_K} {μ : am_N} {o1 : am_O} {h1 : List am_E} {nc ns pc n : Nat} {ls : List (Nat × Value)} {st : List Value} {h : List am_E} {x : Int64} (d : decode (am_cc μ) pc = .ok (.l2i, 1)) (en : pc + 1 = n) 
    (k : am_G κ μ o1 h1 nc ns n ls (.int x.toInt32 :: st) h) : am_G κ μ o1 h1 nc ns pc ls (.long x :: st) h := by
  subst en
  intro p e s m args below meth c H locs A sb ad0 ad lv I hl
  exact lv_l2i I.1.1 I.1.2.1 d rfl (k p e s m args below meth c H locs A sb ad0 ad lv I hl)
theorem g_i2b {κ : am_K} {μ : am_N} {o1 : am_O} {h1 : List am_E} {nc ns pc n : Nat} {ls : List (Nat × Value)} {st : List Value} {h : List am_E} {x : Int32} (d : decode (am_cc μ) pc = .ok (.i2b, 1)) (en : pc + 1 = n) 
    (k : am_G κ μ o1 h1 nc ns n ls (.int x.toInt8.toInt32 :: st) h) : am_G κ μ o1 h1 nc ns pc ls (.int x :: st) h := by
  subst en
  intro p e s m args below meth c H locs A sb ad0 ad lv I hl
  exact lv_i2b I.1.1 I.1.2.1 d rfl (k p e s m args below meth c H locs A sb ad0 ad lv I hl)
theorem g_i2s {κ : am_K} {μ : am_N} {o1 : am_O} {h1 : List am_E} {nc ns pc n : Nat} {ls : List (Nat × Value)} {st : List Value} {h : List am_E} {x : Int32} (d : decode (am_cc μ) pc = .ok (.i2s, 1)) (en : pc + 1 = n) 
    (k : am_G κ μ o1 h1 nc ns n ls (.int x.toInt16.toInt32 :: st) h) : am_G κ μ o1 h1 nc ns pc ls (.int x :: st) h := by
  subst en
  intro p e s m args below meth c H locs A sb ad0 ad lv I hl
  exact lv_i2s I.1.1 I.1.2.1 d rfl (k p e s m args below meth c H locs A sb ad0 ad lv I hl)
theorem g_i2c {κ : am_K} {μ : am_N} {o1 : am_O} {h1 : List am_E} {nc ns pc n : Nat} {ls : List (Nat × Value)} {st : List Value} {h : List am_E} {x : Int32} (d : decode (am_cc μ) pc = .ok (.i2c, 1)) (en : pc + 1 = n) 
    (k : am_G κ μ o1 h1 nc ns n ls (.int (x.toUInt32 % 65536).toInt32 :: st) h) : am_G κ μ o1 h1 nc ns pc ls (.int x :: st) h := by
  subst en
  intro p e s m args below meth c H locs A sb ad0 ad lv I hl
  exact lv_i2c I.1.1 I.1.2.1 d rfl (k p e s m args below meth c H locs A sb ad0 ad lv I hl)
theorem g_lcmp {κ : am_K} {μ : am_N} {o1 : am_O} {h1 : List am_E} {nc ns pc n : Nat} {ls : List (Nat × Value)} {st : List Value} {h : List am_E} {x y : Int64} (d : decode (am_cc μ) pc = .ok (.lcmp, 1)) (en : pc + 1 = n) 
    (k : am_G κ μ o1 h1 nc ns n ls (.int (lg_cmp x y) :: st) h) : am_G κ μ o1 h1 nc ns pc ls (.long y :: .long x :: st) h := by
  subst en
  intro p e s m args below meth c H locs A sb ad0 ad lv I hl
  exact W.lcmp I.1.1 I.1.2.1 d  (k p e s m args below meth c H locs A sb ad0 ad lv I hl)
theorem g_dup {κ : am_K} {μ : am_N} {o1 : am_O} {h1 : List am_E} {nc ns pc n : Nat} {ls : List (Nat × Value)} {st : List Value} {h : List am_E} {v : Value} (d : decode (am_cc μ) pc = .ok (.dup, 1)) (en : pc + 1 = n) (hv : v.category = 1)
    (k : am_G κ μ o1 h1 nc ns n ls (v :: v :: st) h) : am_G κ μ o1 h1 nc ns pc ls (v :: st) h := by
  subst en
  intro p e s m args below meth c H locs A sb ad0 ad lv I hl
  exact lv_dup I.1.1 I.1.2.1 d (by rw [am_v_cat]; exact hv) (k p e s m args below meth c H locs A sb ad0 ad lv I hl)
theorem g_pop {κ : am_K} {μ : am_N} {o1 : am_O} {h1 : List am_E} {nc ns pc n : Nat} {ls : List (Nat × Value)} {st : List Value} {h : List am_E} {v : Value} (d : decode (am_cc μ) pc = .ok (.pop, 1)) (en : pc + 1 = n) (hv : v.category = 1)
    (k : am_G κ μ o1 h1 nc ns n ls st h) : am_G κ μ o1 h1 nc ns pc ls (v :: st) h := by
  subst en
  intro p e s m args below meth c H locs A sb ad0 ad lv I hl
  exact lv_pop I.1.1 I.1.2.1 d (by rw [am_v_cat]; exact hv) (k p e s m args below meth c H locs A sb ad0 ad lv I hl)
theorem g_dup_x1 {κ : am_K} {μ : am_N} {o1 : am_O} {h1 : List am_E} {nc ns pc n : Nat} {ls : List (Nat × Value)} {st : List Value} {h : List am_E} {v w : Value} (d : decode (am_cc μ) pc = .ok (.dup_x1, 1)) (en : pc + 1 = n) (hv : v.category = 1) (hw : w.category = 1)
    (k : am_G κ μ o1 h1 nc ns n ls (v :: w :: v :: st) h) : am_G κ μ o1 h1 nc ns pc ls (v :: w :: st) h := by
  subst en
  intro p e s m args below meth c H locs A sb ad0 ad lv I hl
  exact lv_dup_x1 I.1.1 I.1.2.1 d (by rw [am_v_cat]; exact hv) (by rw [am_v_cat]; exact hw) (k p e s m args below meth c H locs A sb ad0 ad lv I hl)
theorem g_dup_x2 {κ : am_K} {μ : am_N} {o1 : am_O} {h1 : List am_E} {nc ns pc n : Nat} {ls : List (Nat × Value)} {st : List Value} {h : List am_E} {v w u : Value} (d : decode (am_cc μ) pc = .ok (.dup_x2, 1)) (en : pc + 1 = n) (hv : v.category = 1) (hw : w.category = 1) (hu : u.category = 1)
    (k : am_G κ μ o1 h1 nc ns n ls (v :: w :: u :: v :: st) h) : am_G κ μ o1 h1 nc ns pc ls (v :: w :: u :: st) h := by
  subst en
  intro p e s m args below meth c H locs A sb ad0 ad lv I hl
  exact lv_dup_x2 I.1.1 I.1.2.1 d (by rw [am_v_cat]; exact hv) (by rw [am_v_cat]; exact hw) (by rw [am_v_cat]; exact hu) (k p e s m args below meth c H locs A sb ad0 ad lv I hl)
theorem g_dup2 {κ : am_K} {μ : am_N} {o1 : am_O} {h1 : List am_E} {nc ns pc n : Nat} {ls : List (Nat × Value)} {st : List Value} {h : List am_E} {v w : Value} (d : decode (am_cc μ) pc = .ok (.dup2, 1)) (en : pc + 1 = n) (hv : v.category = 1) (hw : w.category = 1)
    (k : am_G κ μ o1 h1 nc ns n ls (v :: w :: v :: w :: st) h) : am_G κ μ o1 h1 nc ns pc ls (v :: w :: st) h := by
  subst en
  intro p e s m args below meth c H locs A sb ad0 ad lv I hl
  exact lv_dup2_11 I.1.1 I.1.2.1 d (by rw [am_v_cat]; exact hv) (by rw [am_v_cat]; exact hw) (k p e s m args below meth c H locs A sb ad0 ad lv I hl)
theorem g_dup2l {κ : am_K} {μ : am_N} {o1 : am_O} {h1 : List am_E} {nc ns pc n : Nat} {ls : List (Nat × Value)} {st : List Value} {h : List am_E} {v : Value} (d : decode (am_cc μ) pc = .ok (.dup2, 1)) (en : pc + 1 = n) (hv : v.category = 2)
    (k : am_G κ μ o1 h1 nc ns n ls (v :: v :: st) h) : am_G κ μ o1 h1 nc ns pc ls (v :: st) h := by
  subst en
  intro p e s m args below meth c H locs A sb ad0 ad lv I hl
  exact lv_dup2_2 I.1.1 I.1.2.1 d (by rw [am_v_cat]; exact hv) (k p e s m args below meth c H locs A sb ad0 ad lv I hl)
theorem g_pop2l {κ : am_K} {μ : am_N} {o1 : am_O} {h1 : List am_E} {nc ns pc n : Nat} {ls : List (Nat × Value)} {st : List Value} {h : List am_E} {v : Value} (d : decode (am_cc μ) pc = .ok (.pop2, 1)) (en : pc + 1 = n) (hv : v.category = 2)
    (k : am_G κ μ o1 h1 nc ns n ls st h) : am_G κ μ o1 h1 nc ns pc ls (v :: st) h := by
  subst en
  intro p e s m args below meth c H locs A sb ad0 ad lv I hl
  exact lv_pop2_2 I.1.1 I.1.2.1 d (by rw [am_v_cat]; exact hv) (k p e s m args below meth c H locs A sb ad0 ad lv I hl)
theorem g_ldc {κ : am_K} {μ : am_N} {o1 : am_O} {h1 : List am_E} {nc ns pc n : Nat} {ls : List (Nat × Value)} {st : List Value} {h : List am_E} {i : Nat} {v : Int32} (d : decode (am_cc μ) pc = .ok (.ldc i, 2)) (en : pc + 2 = n) (hc : Jvm.Cond.constant (am_own μ) i v ∈ am_ws μ)
    (k : am_G κ μ o1 h1 nc ns n ls (.int v :: st) h) : am_G κ μ o1 h1 nc ns pc ls st h := by
  subst en
  intro p e s m args below meth c H locs A sb ad0 ad lv I hl
  exact lv_ldc I.1.1 I.1.2.1 I.1.2.2.2.1 (I.1.2.2.2.2 _ hc) d (k p e s m args below meth c H locs A sb ad0 ad lv I hl)
theorem g_ldc2 {κ : am_K} {μ : am_N} {o1 : am_O} {h1 : List am_E} {nc ns pc n : Nat} {ls : List (Nat × Value)} {st : List Value} {h : List am_E} {i : Nat} {v : Int64} (d : decode (am_cc μ) pc = .ok (.ldc2_w i, 3)) (en : pc + 3 = n) (hc : Jvm.Cond.constantLong (am_own μ) i v ∈ am_ws μ)
    (k : am_G κ μ o1 h1 nc ns n ls (.long v :: st) h) : am_G κ μ o1 h1 nc ns pc ls st h := by
  subst en
  intro p e s m args below meth c H locs A sb ad0 ad lv I hl
  exact lv_ldc2 I.1.1 I.1.2.1 I.1.2.2.2.1 (I.1.2.2.2.2 _ hc) d (k p e s m args below meth c H locs A sb ad0 ad lv I hl)
theorem am_at {sb : Nat} {ad : List Nat} {ls : List (Nat × Value)} {lv : Array Slot} {nL k i : Nat} {v : Value} (hl : lv_has lv nL (am_ls sb ad ls)) (hk : ls[k]? = some (i, v)) : lv[i]? = some (.val (am_v sb ad v)) :=
  lv_at hl k (by unfold am_ls; rw [List.getElem?_map, hk]; rfl)
def am_keep (i : Nat) (q : Nat × Value) : Bool := !(q.1 == i) && !(q.1 + 1 == i && q.2.category == 2)
def am_keep2 (i : Nat) (q : Nat × Value) : Bool := !(q.1 == i) && (!(q.1 == i + 1) && !(q.1 + 1 == i && q.2.category == 2))
theorem am_st {sb : Nat} {ad : List Nat} {ls ls' : List (Nat × Value)} {i : Nat} {v : Value} (e : (i, v) :: ls.filter (am_keep i) = ls') : (i, am_v sb ad v) :: (am_ls sb ad ls).filter (fun q => !(q.1 == i) && !(q.1 + 1 == i && q.2.category == 2)) = am_ls sb ad ls' := by
  subst e
  unfold am_ls
  rw [List.map_cons, List.filter_map]
  congr 2
  apply List.filter_congr
  intro q _
  simp only [Function.comp, am_keep, am_v_cat]
theorem am_st2 {sb : Nat} {ad : List Nat} {ls ls' : List (Nat × Value)} {i : Nat} {v : Value} (e : (i, v) :: ls.filter (am_keep2 i) = ls') : (i, am_v sb ad v) :: (am_ls sb ad ls).filter (fun q => !(q.1 == i) && (!(q.1 == i + 1) && !(q.1 + 1 == i && q.2.category == 2))) = am_ls sb ad ls' := by
  subst e
  unfold am_ls
  rw [List.map_cons, List.filter_map]
  congr 2
  apply List.filter_congr
  intro q _
  simp only [Function.comp, am_keep2, am_v_cat]
theorem g_iload_n {κ : am_K} {μ : am_N} {o1 : am_O} {h1 : List am_E} {nc ns pc n : Nat} {ls : List (Nat × Value)} {st : List Value} {h : List am_E} {j : Fin 4} {i : Nat} {x : Int32} (d : decode (am_cc μ) pc = .ok (.iload_n j, 1)) (en : pc + 1 = n) (kx : Nat) (hi : (j : Nat) = i) (hk : ls[kx]? = some (i, .int x))
    (k : am_G κ μ o1 h1 nc ns n ls (.int x :: st) h) : am_G κ μ o1 h1 nc ns pc ls st h := by
  subst en
  intro p e s m args below meth c H locs A sb ad0 ad lv I hl
  exact lv_iload_n I.1.1 I.1.2.1 d hi (am_at hl hk) (k p e s m args below meth c H locs A sb ad0 ad lv I hl)
theorem g_iload {κ : am_K} {μ : am_N} {o1 : am_O} {h1 : List am_E} {nc ns pc n : Nat} {ls : List (Nat × Value)} {st : List Value} {h : List am_E} {i : Nat} {x : Int32} (d : decode (am_cc μ) pc = .ok (.iload i, 2)) (en : pc + 2 = n) (kx : Nat) (hk : ls[kx]? = some (i, .int x))
    (k : am_G κ μ o1 h1 nc ns n ls (.int x :: st) h) : am_G κ μ o1 h1 nc ns pc ls st h := by
  subst en
  intro p e s m args below meth c H locs A sb ad0 ad lv I hl
  exact lv_iload I.1.1 I.1.2.1 d (am_at hl hk) (k p e s m args below meth c H locs A sb ad0 ad lv I hl)
theorem g_istore_n {κ : am_K} {μ : am_N} {o1 : am_O} {h1 : List am_E} {nc ns pc n : Nat} {ls : List (Nat × Value)} {st : List Value} {h : List am_E} {j : Fin 4} {i : Nat} {x : Int32} {ls' : List (Nat × Value)} (d : decode (am_cc μ) pc = .ok (.istore_n j, 1)) (en : pc + 1 = n) (hi : (j : Nat) = i) (hn : i < am_nL μ) (e : (i, Value.int x) :: ls.filter (am_keep i) = ls')
    (k : am_G κ μ o1 h1 nc ns n ls' st h) : am_G κ μ o1 h1 nc ns pc ls (.int x :: st) h := by
  subst en
  intro p e9 s m args below meth c H locs A sb ad0 ad lv I hl
  exact lv_istore_n I.1.1 I.1.2.1 d hi hl hn (am_st e) (fun lv' hl' => k p e9 s m args below meth c H locs A sb ad0 ad lv' I hl')
theorem g_istore {κ : am_K} {μ : am_N} {o1 : am_O} {h1 : List am_E} {nc ns pc n : Nat} {ls : List (Nat × Value)} {st : List Value} {h : List am_E} {i : Nat} {x : Int32} {ls' : List (Nat × Value)} (d : decode (am_cc μ) pc = .ok (.istore i, 2)) (en : pc + 2 = n) (hn : i < am_nL μ) (e : (i, Value.int x) :: ls.filter (am_keep i) = ls')
    (k : am_G κ μ o1 h1 nc ns n ls' st h) : am_G κ μ o1 h1 nc ns pc ls (.int x :: st) h := by
  subst en
  intro p e9 s m args below meth c H locs A sb ad0 ad lv I hl
  exact lv_istore I.1.1 I.1.2.1 d hl hn (am_st e) (fun lv' hl' => k p e9 s m args below meth c H locs A sb ad0 ad lv' I hl')
theorem g_lload_n {κ : am_K} {μ : am_N} {o1 : am_O} {h1 : List am_E} {nc ns pc n : Nat} {ls : List (Nat × Value)} {st : List Value} {h : List am_E} {j : Fin 4} {i : Nat} {x : Int64} (d : decode (am_cc μ) pc = .ok (.lload_n j, 1)) (en : pc + 1 = n) (kx : Nat) (hi : (j : Nat) = i) (hk : ls[kx]? = some (i, .long x))
    (k : am_G κ μ o1 h1 nc ns n ls (.long x :: st) h) : am_G κ μ o1 h1 nc ns pc ls st h := by
  subst en
  intro p e s m args below meth c H locs A sb ad0 ad lv I hl
  exact lv_lload_n I.1.1 I.1.2.1 d hi (am_at hl hk) (k p e s m args below meth c H locs A sb ad0 ad lv I hl)
theorem g_lload {κ : am_K} {μ : am_N} {o1 : am_O} {h1 : List am_E} {nc ns pc n : Nat} {ls : List (Nat × Value)} {st : List Value} {h : List am_E} {i : Nat} {x : Int64} (d : decode (am_cc μ) pc = .ok (.lload i, 2)) (en : pc + 2 = n) (kx : Nat) (hk : ls[kx]? = some (i, .long x))
    (k : am_G κ μ o1 h1 nc ns n ls (.long x :: st) h) : am_G κ μ o1 h1 nc ns pc ls st h := by
  subst en
  intro p e s m args below meth c H locs A sb ad0 ad lv I hl
  exact lv_lload I.1.1 I.1.2.1 d (am_at hl hk) (k p e s m args below meth c H locs A sb ad0 ad lv I hl)
theorem g_lstore_n {κ : am_K} {μ : am_N} {o1 : am_O} {h1 : List am_E} {nc ns pc n : Nat} {ls : List (Nat × Value)} {st : List Value} {h : List am_E} {j : Fin 4} {i : Nat} {x : Int64} {ls' : List (Nat × Value)} (d : decode (am_cc μ) pc = .ok (.lstore_n j, 1)) (en : pc + 1 = n) (hi : (j : Nat) = i) (hn : i + 1 < am_nL μ) (e : (i, Value.long x) :: ls.filter (am_keep2 i) = ls')
    (k : am_G κ μ o1 h1 nc ns n ls' st h) : am_G κ μ o1 h1 nc ns pc ls (.long x :: st) h := by
  subst en
  intro p e9 s m args below meth c H locs A sb ad0 ad lv I hl
  exact lv_lstore_n I.1.1 I.1.2.1 d hi hl hn (am_st2 e) (fun lv' hl' => k p e9 s m args below meth c H locs A sb ad0 ad lv' I hl')
theorem g_lstore {κ : am_K} {μ : am_N} {o1 : am_O} {h1 : List am_E} {nc ns pc n : Nat} {ls : List (Nat × Value)} {st : List Value} {h : List am_E} {i : Nat} {x : Int64} {ls' : List (Nat × Value)} (d : decode (am_cc μ) pc = .ok (.lstore i, 2)) (en : pc + 2 = n) (hn : i + 1 < am_nL μ) (e : (i, Value.long x) :: ls.filter (am_keep2 i) = ls')
    (k : am_G κ μ o1 h1 nc ns n ls' st h) : am_G κ μ o1 h1 nc ns pc ls (.long x :: st) h := by
  subst en
  intro p e9 s m args below meth c H locs A sb ad0 ad lv I hl
  exact lv_lstore I.1.1 I.1.2.1 d hl hn (am_st2 e) (fun lv' hl' => k p e9 s m args below meth c H locs A sb ad0 ad lv' I hl')
theorem g_aload_n {κ : am_K} {μ : am_N} {o1 : am_O} {h1 : List am_E} {nc ns pc n : Nat} {ls : List (Nat × Value)} {st : List Value} {h : List am_E} {j : Fin 4} {i : Nat} {x : Nat} (d : decode (am_cc μ) pc = .ok (.aload_n j, 1)) (en : pc + 1 = n) (kx : Nat) (hi : (j : Nat) = i) (hk : ls[kx]? = some (i, .ref x))
    (k : am_G κ μ o1 h1 nc ns n ls (.ref x :: st) h) : am_G κ μ o1 h1 nc ns pc ls st h := by
  subst en
  intro p e s m args below meth c H locs A sb ad0 ad lv I hl
  exact lv_aload_n I.1.1 I.1.2.1 d hi (am_at hl hk) (k p e s m args below meth c H locs A sb ad0 ad lv I hl)
theorem g_aload {κ : am_K} {μ : am_N} {o1 : am_O} {h1 : List am_E} {nc ns pc n : Nat} {ls : List (Nat × Value)} {st : List Value} {h : List am_E} {i : Nat} {x : Nat} (d : decode (am_cc μ) pc = .ok (.aload i, 2)) (en : pc + 2 = n) (kx : Nat) (hk : ls[kx]? = some (i, .ref x))
    (k : am_G κ μ o1 h1 nc ns n ls (.ref x :: st) h) : am_G κ μ o1 h1 nc ns pc ls st h := by
  subst en
  intro p e s m args below meth c H locs A sb ad0 ad lv I hl
  exact lv_aload I.1.1 I.1.2.1 d (am_at hl hk) (k p e s m args below meth c H locs A sb ad0 ad lv I hl)
theorem g_astore_n {κ : am_K} {μ : am_N} {o1 : am_O} {h1 : List am_E} {nc ns pc n : Nat} {ls : List (Nat × Value)} {st : List Value} {h : List am_E} {j : Fin 4} {i : Nat} {x : Nat} {ls' : List (Nat × Value)} (d : decode (am_cc μ) pc = .ok (.astore_n j, 1)) (en : pc + 1 = n) (hi : (j : Nat) = i) (hn : i < am_nL μ) (e : (i, Value.ref x) :: ls.filter (am_keep i) = ls')
    (k : am_G κ μ o1 h1 nc ns n ls' st h) : am_G κ μ o1 h1 nc ns pc ls (.ref x :: st) h := by
  subst en
  intro p e9 s m args below meth c H locs A sb ad0 ad lv I hl
  exact lv_astore_n I.1.1 I.1.2.1 d hi hl hn (am_st e) (fun lv' hl' => k p e9 s m args below meth c H locs A sb ad0 ad lv' I hl')
theorem g_astore {κ : am_K} {μ : am_N} {o1 : am_O} {h1 : List am_E} {nc ns pc n : Nat} {ls : List (Nat × Value)} {st : List Value} {h : List am_E} {i : Nat} {x : Nat} {ls' : List (Nat × Value)} (d : decode (am_cc μ) pc = .ok (.astore i, 2)) (en : pc + 2 = n) (hn : i < am_nL μ) (e : (i, Value.ref x) :: ls.filter (am_keep i) = ls')
    (k : am_G κ μ o1 h1 nc ns n ls' st h) : am_G κ μ o1 h1 nc ns pc ls (.ref x :: st) h := by
  subst en
  intro p e9 s m args below meth c H locs A sb ad0 ad lv I hl
  exact lv_astore I.1.1 I.1.2.1 d hl hn (am_st e) (fun lv' hl' => k p e9 s m args below meth c H locs A sb ad0 ad lv' I hl')
theorem g_iinc {κ : am_K} {μ : am_N} {o1 : am_O} {h1 : List am_E} {nc ns pc n : Nat} {ls : List (Nat × Value)} {st : List Value} {h : List am_E} {i : Nat} {a : Int} {x v : Int32} {ls' : List (Nat × Value)} (d : decode (am_cc μ) pc = .ok (.iinc i a, 3)) (en : pc + 3 = n) (kx : Nat) (hk : ls[kx]? = some (i, .int x)) (hv : x + Int32.ofInt a = v) (hn : i < am_nL μ) (e : (i, Value.int v) :: ls.filter (am_keep i) = ls')
    (k : am_G κ μ o1 h1 nc ns n ls' st h) : am_G κ μ o1 h1 nc ns pc ls st h := by
  subst en
  intro p e9 s m args below meth c H locs A sb ad0 ad lv I hl
  exact lv_iinc (k := kx) I.1.1 I.1.2.1 d hl (by unfold am_ls; rw [List.getElem?_map, hk]; rfl) hv hn (am_st e) (fun lv' hl' => k p e9 s m args below meth c H locs A sb ad0 ad lv' I hl')
theorem g_if_eq {κ : am_K} {μ : am_N} {o1 : am_O} {h1 : List am_E} {nc ns pc n : Nat} {ls : List (Nat × Value)} {st : List Value} {h : List am_E} {x : Int32} {off : Int} {tgt : Nat} (d : decode (am_cc μ) pc = .ok (.ifCond .eq off, 3)) (en : pc + 3 = n) (ht : (pc : Int) + off = (tgt : Int))
    (kt : x = 0 → am_G κ μ o1 h1 nc ns tgt ls st h) (kf : ¬ x = 0 → am_G κ μ o1 h1 nc ns n ls st h) : am_G κ μ o1 h1 nc ns pc ls (.int x :: st) h := by
  subst en
  intro p e s m args below meth c H locs A sb ad0 ad lv I hl
  exact lv_if_eq I.1.1 I.1.2.1 d ht (fun z => kt z p e s m args below meth c H locs A sb ad0 ad lv I hl) (fun z => kf z p e s m args below meth c H locs A sb ad0 ad lv I hl)
theorem g_if_ne {κ : am_K} {μ : am_N} {o1 : am_O} {h1 : List am_E} {nc ns pc n : Nat} {ls : List (Nat × Value)} {st : List Value} {h : List am_E} {x : Int32} {off : Int} {tgt : Nat} (d : decode (am_cc μ) pc = .ok (.ifCond .ne off, 3)) (en : pc + 3 = n) (ht : (pc : Int) + off = (tgt : Int))
    (kt : ¬ x = 0 → am_G κ μ o1 h1 nc ns tgt ls st h) (kf : x = 0 → am_G κ μ o1 h1 nc ns n ls st h) : am_G κ μ o1 h1 nc ns pc ls (.int x :: st) h := by
  subst en
  intro p e s m args below meth c H locs A sb ad0 ad lv I hl
  exact lv_if_ne I.1.1 I.1.2.1 d ht (fun z => kt z p e s m args below meth c H locs A sb ad0 ad lv I hl) (fun z => kf z p e s m args below meth c H locs A sb ad0 ad lv I hl)
theorem g_if_lt {κ : am_K} {μ : am_N} {o1 : am_O} {h1 : List am_E} {nc ns pc n : Nat} {ls : List (Nat × Value)} {st : List Value} {h : List am_E} {x : Int32} {off : Int} {tgt : Nat} (d : decode (am_cc μ) pc = .ok (.ifCond .lt off, 3)) (en : pc + 3 = n) (ht : (pc : Int) + off = (tgt : Int))
    (kt : x < 0 → am_G κ μ o1 h1 nc ns tgt ls st h) (kf : ¬ x < 0 → am_G κ μ o1 h1 nc ns n ls st h) : am_G κ μ o1 h1 nc ns pc ls (.int x :: st) h := by
  subst en
  intro p e s m args below meth c H locs A sb ad0 ad lv I hl
  exact lv_if_lt I.1.1 I.1.2.1 d ht (fun z => kt z p e s m args below meth c H locs A sb ad0 ad lv I hl) (fun z => kf z p e s m args below meth c H locs A sb ad0 ad lv I hl)
theorem g_if_ge {κ : am_K} {μ : am_N} {o1 : am_O} {h1 : List am_E} {nc ns pc n : Nat} {ls : List (Nat × Value)} {st : List Value} {h : List am_E} {x : Int32} {off : Int} {tgt : Nat} (d : decode (am_cc μ) pc = .ok (.ifCond .ge off, 3)) (en : pc + 3 = n) (ht : (pc : Int) + off = (tgt : Int))
    (kt : 0 ≤ x → am_G κ μ o1 h1 nc ns tgt ls st h) (kf : ¬ 0 ≤ x → am_G κ μ o1 h1 nc ns n ls st h) : am_G κ μ o1 h1 nc ns pc ls (.int x :: st) h := by
  subst en
  intro p e s m args below meth c H locs A sb ad0 ad lv I hl
  exact lv_if_ge I.1.1 I.1.2.1 d ht (fun z => kt z p e s m args below meth c H locs A sb ad0 ad lv I hl) (fun z => kf z p e s m args below meth c H locs A sb ad0 ad lv I hl)
theorem g_if_gt {κ : am_K} {μ : am_N} {o1 : am_O} {h1 : List am_E} {nc ns pc n : Nat} {ls : List (Nat × Value)} {st : List Value} {h : List am_E} {x : Int32} {off : Int} {tgt : Nat} (d : decode (am_cc μ) pc = .ok (.ifCond .gt off, 3)) (en : pc + 3 = n) (ht : (pc : Int) + off = (tgt : Int))
    (kt : 0 < x → am_G κ μ o1 h1 nc ns tgt ls st h) (kf : ¬ 0 < x → am_G κ μ o1 h1 nc ns n ls st h) : am_G κ μ o1 h1 nc ns pc ls (.int x :: st) h := by
  subst en
  intro p e s m args below meth c H locs A sb ad0 ad lv I hl
  exact lv_if_gt I.1.1 I.1.2.1 d ht (fun z => kt z p e s m args below meth c H locs A sb ad0 ad lv I hl) (fun z => kf z p e s m args below meth c H locs A sb ad0 ad lv I hl)
theorem g_if_le {κ : am_K} {μ : am_N} {o1 : am_O} {h1 : List am_E} {nc ns pc n : Nat} {ls : List (Nat × Value)} {st : List Value} {h : List am_E} {x : Int32} {off : Int} {tgt : Nat} (d : decode (am_cc μ) pc = .ok (.ifCond .le off, 3)) (en : pc + 3 = n) (ht : (pc : Int) + off = (tgt : Int))
    (kt : x ≤ 0 → am_G κ μ o1 h1 nc ns tgt ls st h) (kf : ¬ x ≤ 0 → am_G κ μ o1 h1 nc ns n ls st h) : am_G κ μ o1 h1 nc ns pc ls (.int x :: st) h := by
  subst en
  intro p e s m args below meth c H locs A sb ad0 ad lv I hl
  exact lv_if_le I.1.1 I.1.2.1 d ht (fun z => kt z p e s m args below meth c H locs A sb ad0 ad lv I hl) (fun z => kf z p e s m args below meth c H locs A sb ad0 ad lv I hl)
theorem g_icmp_eq {κ : am_K} {μ : am_N} {o1 : am_O} {h1 : List am_E} {nc ns pc n : Nat} {ls : List (Nat × Value)} {st : List Value} {h : List am_E} {x y : Int32} {off : Int} {tgt : Nat} (d : decode (am_cc μ) pc = .ok (.if_icmp .eq off, 3)) (en : pc + 3 = n) (ht : (pc : Int) + off = (tgt : Int))
    (kt : x = y → am_G κ μ o1 h1 nc ns tgt ls st h) (kf : ¬ x = y → am_G κ μ o1 h1 nc ns n ls st h) : am_G κ μ o1 h1 nc ns pc ls (.int y :: .int x :: st) h := by
  subst en
  intro p e s m args below meth c H locs A sb ad0 ad lv I hl
  exact lv_icmp_eq I.1.1 I.1.2.1 d ht (fun z => kt z p e s m args below meth c H locs A sb ad0 ad lv I hl) (fun z => kf z p e s m args below meth c H locs A sb ad0 ad lv I hl)
theorem g_icmp_ne {κ : am_K} {μ : am_N} {o1 : am_O} {h1 : List am_E} {nc ns pc n : Nat} {ls : List (Nat × Value)} {st : List Value} {h : List am_E} {x y : Int32} {off : Int} {tgt : Nat} (d : decode (am_cc μ) pc = .ok (.if_icmp .ne off, 3)) (en : pc + 3 = n) (ht : (pc : Int) + off = (tgt : Int))
    (kt : ¬ x = y → am_G κ μ o1 h1 nc ns tgt ls st h) (kf : x = y → am_G κ μ o1 h1 nc ns n ls st h) : am_G κ μ o1 h1 nc ns pc ls (.int y :: .int x :: st) h := by
  subst en
  intro p e s m args below meth c H locs A sb ad0 ad lv I hl
  exact lv_icmp_ne I.1.1 I.1.2.1 d ht (fun z => kt z p e s m args below meth c H locs A sb ad0 ad lv I hl) (fun z => kf z p e s m args below meth c H locs A sb ad0 ad lv I hl)
theorem g_icmp_lt {κ : am_K} {μ : am_N} {o1 : am_O} {h1 : List am_E} {nc ns pc n : Nat} {ls : List (Nat × Value)} {st : List Value} {h : List am_E} {x y : Int32} {off : Int} {tgt : Nat} (d : decode (am_cc μ) pc = .ok (.if_icmp .lt off, 3)) (en : pc + 3 = n) (ht : (pc : Int) + off = (tgt : Int))
    (kt : x < y → am_G κ μ o1 h1 nc ns tgt ls st h) (kf : ¬ x < y → am_G κ μ o1 h1 nc ns n ls st h) : am_G κ μ o1 h1 nc ns pc ls (.int y :: .int x :: st) h := by
  subst en
  intro p e s m args below meth c H locs A sb ad0 ad lv I hl
  exact lv_icmp_lt I.1.1 I.1.2.1 d ht (fun z => kt z p e s m args below meth c H locs A sb ad0 ad lv I hl) (fun z => kf z p e s m args below meth c H locs A sb ad0 ad lv I hl)
theorem g_icmp_ge {κ : am_K} {μ : am_N} {o1 : am_O} {h1 : List am_E} {nc ns pc n : Nat} {ls : List (Nat × Value)} {st : List Value} {h : List am_E} {x y : Int32} {off : Int} {tgt : Nat} (d : decode (am_cc μ) pc = .ok (.if_icmp .ge off, 3)) (en : pc + 3 = n) (ht : (pc : Int) + off = (tgt : Int))
    (kt : y ≤ x → am_G κ μ o1 h1 nc ns tgt ls st h) (kf : ¬ y ≤ x → am_G κ μ o1 h1 nc ns n ls st h) : am_G κ μ o1 h1 nc ns pc ls (.int y :: .int x :: st) h := by
  subst en
  intro p e s m args below meth c H locs A sb ad0 ad lv I hl
  exact lv_icmp_ge I.1.1 I.1.2.1 d ht (fun z => kt z p e s m args below meth c H locs A sb ad0 ad lv I hl) (fun z => kf z p e s m args below meth c H locs A sb ad0 ad lv I hl)
theorem g_icmp_gt {κ : am_K} {μ : am_N} {o1 : am_O} {h1 : List am_E} {nc ns pc n : Nat} {ls : List (Nat × Value)} {st : List Value} {h : List am_E} {x y : Int32} {off : Int} {tgt : Nat} (d : decode (am_cc μ) pc = .ok (.if_icmp .gt off, 3)) (en : pc + 3 = n) (ht : (pc : Int) + off = (tgt : Int))
    (kt : y < x → am_G κ μ o1 h1 nc ns tgt ls st h) (kf : ¬ y < x → am_G κ μ o1 h1 nc ns n ls st h) : am_G κ μ o1 h1 nc ns pc ls (.int y :: .int x :: st) h := by
  subst en
  intro p e s m args below meth c H locs A sb ad0 ad lv I hl
  exact lv_icmp_gt I.1.1 I.1.2.1 d ht (fun z => kt z p e s m args below meth c H locs A sb ad0 ad lv I hl) (fun z => kf z p e s m args below meth c H locs A sb ad0 ad lv I hl)
theorem g_icmp_le {κ : am_K} {μ : am_N} {o1 : am_O} {h1 : List am_E} {nc ns pc n : Nat} {ls : List (Nat × Value)} {st : List Value} {h : List am_E} {x y : Int32} {off : Int} {tgt : Nat} (d : decode (am_cc μ) pc = .ok (.if_icmp .le off, 3)) (en : pc + 3 = n) (ht : (pc : Int) + off = (tgt : Int))
    (kt : x ≤ y → am_G κ μ o1 h1 nc ns tgt ls st h) (kf : ¬ x ≤ y → am_G κ μ o1 h1 nc ns n ls st h) : am_G κ μ o1 h1 nc ns pc ls (.int y :: .int x :: st) h := by
  subst en
  intro p e s m args below meth c H locs A sb ad0 ad lv I hl
  exact lv_icmp_le I.1.1 I.1.2.1 d ht (fun z => kt z p e s m args below meth c H locs A sb ad0 ad lv I hl) (fun z => kf z p e s m args below meth c H locs A sb ad0 ad lv I hl)
theorem g_goto {κ : am_K} {μ : am_N} {o1 : am_O} {h1 : List am_E} {nc ns pc n : Nat} {ls : List (Nat × Value)} {st : List Value} {h : List am_E} {off : Int} (d : decode (am_cc μ) pc = .ok (.goto off, 3)) (ht : (pc : Int) + off = (n : Int)) (k : am_G κ μ o1 h1 nc ns n ls st h) : am_G κ μ o1 h1 nc ns pc ls st h := by
  intro p e s m args below meth c H locs A sb ad0 ad lv I hl
  exact lv_goto I.1.1 I.1.2.1 d ht (k p e s m args below meth c H locs A sb ad0 ad lv I hl)
theorem g_tabIn {κ : am_K} {μ : am_N} {o1 : am_O} {h1 : List am_E} {nc ns pc n : Nat} {ls : List (Nat × Value)} {st : List Value} {h : List am_E} {dflt lo hi : Int} {offs : Array Int} {len : Nat} {x : Int32} {off : Int} (d : decode (am_cc μ) pc = .ok (.tableswitch dflt lo hi offs, len)) (z1 : ¬ x.toInt < lo) (z2 : ¬ hi < x.toInt) (ho : offs[(x.toInt - lo).toNat]? = some off) (ht : (pc : Int) + off = (n : Int)) (k : am_G κ μ o1 h1 nc ns n ls st h) : am_G κ μ o1 h1 nc ns pc ls (.int x :: st) h := by
  intro p e s m args below meth c H locs A sb ad0 ad lv I hl
  exact lv_tableIn I.1.1 I.1.2.1 d z1 z2 ho ht (k p e s m args below meth c H locs A sb ad0 ad lv I hl)
theorem g_tabOut {κ : am_K} {μ : am_N} {o1 : am_O} {h1 : List am_E} {nc ns pc n : Nat} {ls : List (Nat × Value)} {st : List Value} {h : List am_E} {dflt lo hi : Int} {offs : Array Int} {len : Nat} {x : Int32} (d : decode (am_cc μ) pc = .ok (.tableswitch dflt lo hi offs, len)) (z1 : x.toInt < lo ∨ hi < x.toInt) (ht : (pc : Int) + dflt = (n : Int)) (k : am_G κ μ o1 h1 nc ns n ls st h) : am_G κ μ o1 h1 nc ns pc ls (.int x :: st) h := by
  intro p e s m args below meth c H locs A sb ad0 ad lv I hl
  exact lv_tableOut I.1.1 I.1.2.1 d z1 ht (k p e s m args below meth c H locs A sb ad0 ad lv I hl)
theorem g_lookup {κ : am_K} {μ : am_N} {o1 : am_O} {h1 : List am_E} {nc ns pc n : Nat} {ls : List (Nat × Value)} {st : List Value} {h : List am_E} {dflt : Int} {ps : Array (Int × Int)} {len : Nat} {x : Int32} {off : Int} (d : decode (am_cc μ) pc = .ok (.lookupswitch dflt ps, len)) (hp : (ps.toList.zip (ps.toList.drop 1)).all (fun (a, next) => a.1 < next.1) = true) (ho : Op.lookupswitch.offset ps.toList dflt x.toInt = off) (ht : (pc : Int) + off = (n : Int)) (k : am_G κ μ o1 h1 nc ns n ls st h) : am_G κ μ o1 h1 nc ns pc ls (.int x :: st) h := by
  intro p e s m args below meth c H locs A sb ad0 ad lv I hl
  exact lv_lookup I.1.1 I.1.2.1 d hp ho ht (k p e s m args below meth c H locs A sb ad0 ad lv I hl)
end
section
/-! rows on the cells -/
/-- the facts that an access to a field of the class number ci needs, k its place -/
def am_fld (κ : am_K) (μ : am_N) (ci k : Nat) (C : String) (T : u_T) (N : Nat) : Prop := (∀ w ∈ u_ws C T N, w ∈ am_ws μ) ∧ (am_cl κ)[ci]? = some (C, T, N) ∧ k < N
theorem g_get {κ : am_K} {μ : am_N} {o1 : am_O} {h1 : List am_E} {nc ns pc n : Nat} {ls : List (Nat × Value)} {st : List Value} {h : List am_E} {idx ci k q0 : Nat} {C : String} {T : u_T} {N : Nat} {fs : List Value} {v : Value}
    (d : decode (am_cc μ) pc = .ok (.getfield idx, 3)) (en : pc + 3 = n) (hf : am_fld κ μ ci k C T N) (hl : Cond.fieldLink (am_own μ) idx (T k).1 (T k).2.1 (T k).2.2.1 ∈ am_ws μ)
    (he : h[q0]? = some (.inr (ci, fs))) (hv : fs[k]? = some v) (kk : am_G κ μ o1 h1 nc ns n ls (v :: st) h) : am_G κ μ o1 h1 nc ns pc ls (.ref q0 :: st) h := by
  subst en
  intro p e s m args below meth c H locs A sb ad0 ad lv I hlv
  have I0 := I
  obtain ⟨S, -, hT, -, -, -, -, hlen, hP, -, -⟩ := I
  refine va_get (D := am_D κ) (ci := ci) (C := C) (T := T) (N := N) S.1 S.2.1 S.2.2.2.2 hf.1 S.2.2.2.1 hT.1 hP q0 (am_w_at hlen he) hf.2.1 k hf.2.2 (S.2.2.2.2 _ hl) (fun _ z => z) (v := am_v sb ad v) ?_ d (kk p e s m args below meth c H locs A sb ad0 ad lv I0 hlv)
  rw [List.getElem?_map, hv]
  rfl
theorem g_getN {κ : am_K} {μ : am_N} {o1 : am_O} {h1 : List am_E} {nc ns pc n : Nat} {ls : List (Nat × Value)} {st : List Value} {h : List am_E} {idx ci k q0 : Nat} {C host : String} {T : u_T} {N : Nat} {fs : List Value} {v : Value}
    (d : decode (am_cc μ) pc = .ok (.getfield idx, 3)) (en : pc + 3 = n) (hf : am_fld κ μ ci k C T N) (hl : Cond.fieldLinkNest (am_own μ) idx (T k).1 (T k).2.1 (T k).2.2.1 host ∈ am_NW κ)
    (he : h[q0]? = some (.inr (ci, fs))) (hv : fs[k]? = some v) (kk : am_G κ μ o1 h1 nc ns n ls (v :: st) h) : am_G κ μ o1 h1 nc ns pc ls (.ref q0 :: st) h := by
  subst en
  intro p e s m args below meth c H locs A sb ad0 ad lv I hlv
  have I0 := I
  obtain ⟨S, -, hT, -, -, -, -, hlen, hP, -, -⟩ := I
  refine va_getN (D := am_D κ) (ci := ci) (C := C) (T := T) (N := N) S.1 S.2.1 S.2.2.2.2 hf.1 S.2.2.2.1 hT.1 hP q0 (am_w_at hlen he) hf.2.1 k hf.2.2 (va_Nw.use rfl (hT.2.1 _ hl).2) (fun _ z => z) (v := am_v sb ad v) ?_ d (kk p e s m args below meth c H locs A sb ad0 ad lv I0 hlv)
  rw [List.getElem?_map, hv]
  rfl
/-- what a store into a field needs beside that: the types, the names apart -/
def am_typ (T : u_T) (N : Nat) (ty : Nat → FieldType) : Prop := (∀ k, k < N → parseFieldDescriptor (T k).2.2.1 = some (ty k)) ∧ ∀ a, a < N → ∀ b, b < N → a ≠ b → (T a).2.1 ≠ (T b).2.1
theorem am_I.put {κ : am_K} {μ : am_N} {p : Program} {s : State} {m : MethodId} {args : Array Value} {meth : Method} {c : Code} {H H1 : Heap} {locs locs1 : List Loc} {A : Nat → Prop} {sb : Nat} {ad0 ad : List Nat} {h h' : List am_E} {q0 : Nat} {x : am_E}
    (I : am_I κ μ p s m args meth c H locs A sb ad0 ad h) (hq : q0 < h.length) (hs : h.set q0 x = h')
    (hP : va_P (am_D κ) (am_cl κ) ((am_w (am_dA κ) sb ad h).set q0 (ad.getD q0 sb, am_e (am_dA κ) sb ad x)) H1) (hD : va_D A ((am_w (am_dA κ) sb ad h).set q0 (ad.getD q0 sb, am_e (am_dA κ) sb ad x))) (hS : va_S A s.heap H1 locs1) :
    am_I κ μ p s m args meth c H1 locs1 A sb ad0 ad h' := by
  obtain ⟨S, a1, hT, hZ, hA, hX, hpre, hlen, -, -, -⟩ := I
  subst hs
  rw [am_w_set hlen hq] at hP hD
  exact ⟨S, a1, hT, hZ, hA, hX, hpre, by rw [List.length_set]; exact hlen, hP, hD, hS⟩
theorem am_lt {h : List am_E} {q0 : Nat} {x : am_E} (he : h[q0]? = some x) : q0 < h.length := (List.getElem?_eq_some_iff.mp he).1
theorem g_put {κ : am_K} {μ : am_N} {o1 : am_O} {h1 : List am_E} {nc ns pc n : Nat} {ls : List (Nat × Value)} {st : List Value} {h h' : List am_E} {idx ci k q0 : Nat} {C : String} {T : u_T} {N : Nat} {fs : List Value} {v : Value} {ty0 : Nat → FieldType}
    (d : decode (am_cc μ) pc = .ok (.putfield idx, 3)) (en : pc + 3 = n) (hf : am_fld κ μ ci k C T N) (ht : am_typ T N ty0) (hl : Cond.fieldLink (am_own μ) idx (T k).1 (T k).2.1 (T k).2.2.1 ∈ am_ws μ) (hfin : (T k).2.2.2 = false)
    (hn : ∀ sb ad, narrow (ty0 k) (am_v sb ad v) = am_v sb ad v) (hfit : ∀ sb ad, fits (ty0 k) (am_v sb ad v) = true)
    (he : h[q0]? = some (.inr (ci, fs))) (hk : k < fs.length) (hs : h.set q0 (.inr (ci, fs.set k v)) = h') (kk : am_G κ μ o1 h1 nc ns n ls st h') : am_G κ μ o1 h1 nc ns pc ls (v :: .ref q0 :: st) h := by
  subst en
  intro p e s m args below meth c H locs A sb ad0 ad lv I hlv
  have I0 := I
  obtain ⟨S, -, hT, -, -, -, -, hlen, hP, hD, hS⟩ := I
  refine va_put (D := am_D κ) (ci := ci) (C := C) (T := T) (N := N) (ty := ty0 k) (v := am_v sb ad v) S.1 S.2.1 S.2.2.2.2 hf.1 ty0 ht.1 ht.2 S.2.2.2.1 hT.1 hP hD hS q0 (am_w_at hlen he) hf.2.1 k hf.2.2 (S.2.2.2.2 _ hl) (fun _ z => z) hfin (ht.1 k hf.2.2) (hn sb ad) (hfit sb ad) (by rw [List.length_map]; exact hk) d (fun H1 locs1 hP1 hD1 hS1 => ?_)
  have e1 : (ad.getD q0 sb, (Sum.inr (ci, (fs.map (am_v sb ad)).set k (am_v sb ad v)) : va_E)) = (ad.getD q0 sb, am_e (am_dA κ) sb ad (.inr (ci, fs.set k v))) := by
    simp only [am_e, List.map_set]
  exact kk p e s m args below meth c H1 locs1 A sb ad0 ad lv (I0.put (am_lt he) hs (e1 ▸ hP1) (e1 ▸ hD1) hS1) hlv
theorem g_putN {κ : am_K} {μ : am_N} {o1 : am_O} {h1 : List am_E} {nc ns pc n : Nat} {ls : List (Nat × Value)} {st : List Value} {h h' : List am_E} {idx ci k q0 : Nat} {C host : String} {T : u_T} {N : Nat} {fs : List Value} {v : Value} {ty0 : Nat → FieldType}
    (d : decode (am_cc μ) pc = .ok (.putfield idx, 3)) (en : pc + 3 = n) (hf : am_fld κ μ ci k C T N) (ht : am_typ T N ty0) (hl : Cond.fieldLinkNest (am_own μ) idx (T k).1 (T k).2.1 (T k).2.2.1 host ∈ am_NW κ) (hfin : (T k).2.2.2 = false)
    (hn : ∀ sb ad, narrow (ty0 k) (am_v sb ad v) = am_v sb ad v) (hfit : ∀ sb ad, fits (ty0 k) (am_v sb ad v) = true)
    (he : h[q0]? = some (.inr (ci, fs))) (hk : k < fs.length) (hs : h.set q0 (.inr (ci, fs.set k v)) = h') (kk : am_G κ μ o1 h1 nc ns n ls st h') : am_G κ μ o1 h1 nc ns pc ls (v :: .ref q0 :: st) h := by
  subst en
  intro p e s m args below meth c H locs A sb ad0 ad lv I hlv
  have I0 := I
  obtain ⟨S, -, hT, -, -, -, -, hlen, hP, hD, hS⟩ := I
  refine va_putN (D := am_D κ) (ci := ci) (C := C) (T := T) (N := N) (ty := ty0 k) (v := am_v sb ad v) S.1 S.2.1 S.2.2.2.2 hf.1 ty0 ht.1 ht.2 S.2.2.2.1 hT.1 hP hD hS q0 (am_w_at hlen he) hf.2.1 k hf.2.2 (va_Nw.use rfl (hT.2.1 _ hl).2) (fun _ z => z) hfin (ht.1 k hf.2.2) (hn sb ad) (hfit sb ad) (by rw [List.length_map]; exact hk) d (fun H1 locs1 hP1 hD1 hS1 => ?_)
  have e1 : (ad.getD q0 sb, (Sum.inr (ci, (fs.map (am_v sb ad)).set k (am_v sb ad v)) : va_E)) = (ad.getD q0 sb, am_e (am_dA κ) sb ad (.inr (ci, fs.set k v))) := by
    simp only [am_e, List.map_set]
  exact kk p e s m args below meth c H1 locs1 A sb ad0 ad lv (I0.put (am_lt he) hs (e1 ▸ hP1) (e1 ▸ hD1) hS1) hlv
/-- a final field, in the constructor of its own class -/
theorem g_putF {κ : am_K} {μ : am_N} {o1 : am_O} {h1 : List am_E} {nc ns pc n : Nat} {ls : List (Nat × Value)} {st : List Value} {h h' : List am_E} {idx ci k q0 : Nat} {C : String} {T : u_T} {N : Nat} {fs : List Value} {v : Value} {ty0 : Nat → FieldType}
    (d : decode (am_cc μ) pc = .ok (.putfield idx, 3)) (en : pc + 3 = n) (hf : am_fld κ μ ci k C T N) (ht : am_typ T N ty0) (hl : Cond.fieldLink (am_own μ) idx (T k).1 (T k).2.1 (T k).2.2.1 ∈ am_ws μ) (hfin : (T k).2.2.2 = true) (hi : am_nm μ = "<init>") (ho : (T k).1 = am_own μ)
    (hn : ∀ sb ad, narrow (ty0 k) (am_v sb ad v) = am_v sb ad v) (hfit : ∀ sb ad, fits (ty0 k) (am_v sb ad v) = true)
    (he : h[q0]? = some (.inr (ci, fs))) (hk : k < fs.length) (hs : h.set q0 (.inr (ci, fs.set k v)) = h') (kk : am_G κ μ o1 h1 nc ns n ls st h') : am_G κ μ o1 h1 nc ns pc ls (v :: .ref q0 :: st) h := by
  subst en
  intro p e s m args below meth c H locs A sb ad0 ad lv I hlv
  have I0 := I
  obtain ⟨S, a1, hT, -, -, -, -, hlen, hP, hD, hS⟩ := I
  refine va_putF (D := am_D κ) (ci := ci) (C := C) (T := T) (N := N) (ty := ty0 k) (v := am_v sb ad v) S.1 S.2.1 S.2.2.2.2 hf.1 ty0 ht.1 ht.2 S.2.2.2.1 hT.1 hP hD hS q0 (am_w_at hlen he) hf.2.1 k hf.2.2 (S.2.2.2.2 _ hl) (fun _ z => z) hfin (a1.2.2.1.trans hi) ho (ht.1 k hf.2.2) (hn sb ad) (hfit sb ad) (by rw [List.length_map]; exact hk) d (fun H1 locs1 hP1 hD1 hS1 => ?_)
  have e1 : (ad.getD q0 sb, (Sum.inr (ci, (fs.map (am_v sb ad)).set k (am_v sb ad v)) : va_E)) = (ad.getD q0 sb, am_e (am_dA κ) sb ad (.inr (ci, fs.set k v))) := by
    simp only [am_e, List.map_set]
  exact kk p e s m args below meth c H1 locs1 A sb ad0 ad lv (I0.put (am_lt he) hs (e1 ▸ hP1) (e1 ▸ hD1) hS1) hlv
end
section
theorem g_iald {κ : am_K} {μ : am_N} {o1 : am_O} {h1 : List am_E} {nc ns pc n : Nat} {ls : List (Nat × Value)} {st : List Value} {h : List am_E} {q0 N : Nat} {f : Nat → Int32} {i : Int32} (d : decode (am_cc μ) pc = .ok (.iaload, 1)) (en : pc + 1 = n) (he : h[q0]? = some (.inl (.int, N, .inl f))) (hin : vp_in i N)
    (kk : am_G κ μ o1 h1 nc ns n ls (.int (f i.toNatClampNeg) :: st) h) : am_G κ μ o1 h1 nc ns pc ls (.int i :: .ref q0 :: st) h := by
  subst en
  intro p e s m args below meth c H locs A sb ad0 ad lv I hlv
  have I0 := I
  obtain ⟨S, -, hT, -, -, -, -, hlen, hP, hD, hS⟩ := I
  exact va_iald S.1 S.2.1 hT.1 hP q0 0 (am_w_at hlen he) rfl hin d (kk p e s m args below meth c H locs A sb ad0 ad lv I0 hlv)
theorem g_iast {κ : am_K} {μ : am_N} {o1 : am_O} {h1 : List am_E} {nc ns pc n : Nat} {ls : List (Nat × Value)} {st : List Value} {h : List am_E} {h' : List am_E} {q0 N : Nat} {f : Nat → Int32} {i : Int32} {x : Int32} (d : decode (am_cc μ) pc = .ok (.iastore, 1)) (en : pc + 1 = n) (he : h[q0]? = some (.inl (.int, N, .inl f))) (hin : vp_in i N) (hs : h.set q0 (.inl (.int, N, .inl (upd f i.toNatClampNeg x))) = h')
    (kk : am_G κ μ o1 h1 nc ns n ls st h') : am_G κ μ o1 h1 nc ns pc ls (.int x :: .int i :: .ref q0 :: st) h := by
  subst en
  intro p e s m args below meth c H locs A sb ad0 ad lv I hlv
  have I0 := I
  obtain ⟨S, -, hT, -, -, -, -, hlen, hP, hD, hS⟩ := I
  exact va_iast S.1 S.2.1 hT.1 hP hD hS q0 0 (am_w_at hlen he) rfl hin d (fun H1 locs1 hP1 hD1 hS1 => kk p e s m args below meth c H1 locs1 A sb ad0 ad lv (I0.put (am_lt he) hs hP1 hD1 hS1) hlv)
theorem g_ialen {κ : am_K} {μ : am_N} {o1 : am_O} {h1 : List am_E} {nc ns pc n : Nat} {ls : List (Nat × Value)} {st : List Value} {h : List am_E} {q0 N : Nat} {f : Nat → Int32} {v : Int32} (d : decode (am_cc μ) pc = .ok (.arraylength, 1)) (en : pc + 1 = n) (he : h[q0]? = some (.inl (.int, N, .inl f))) (hv : Int32.ofNat N = v)
    (kk : am_G κ μ o1 h1 nc ns n ls (.int v :: st) h) : am_G κ μ o1 h1 nc ns pc ls (.ref q0 :: st) h := by
  subst en
  intro p e s m args below meth c H locs A sb ad0 ad lv I hlv
  have I0 := I
  obtain ⟨S, -, hT, -, -, -, -, hlen, hP, hD, hS⟩ := I
  exact va_alen S.1 S.2.1 hT.1 hP q0 0 (am_w_at hlen he) (ty := .int) rfl hv d (kk p e s m args below meth c H locs A sb ad0 ad lv I0 hlv)
theorem g_zald {κ : am_K} {μ : am_N} {o1 : am_O} {h1 : List am_E} {nc ns pc n : Nat} {ls : List (Nat × Value)} {st : List Value} {h : List am_E} {q0 N : Nat} {f : Nat → Int32} {i : Int32} (d : decode (am_cc μ) pc = .ok (.baload, 1)) (en : pc + 1 = n) (he : h[q0]? = some (.inl (.boolean, N, .inl f))) (hin : vp_in i N)
    (kk : am_G κ μ o1 h1 nc ns n ls (.int (f i.toNatClampNeg) :: st) h) : am_G κ μ o1 h1 nc ns pc ls (.int i :: .ref q0 :: st) h := by
  subst en
  intro p e s m args below meth c H locs A sb ad0 ad lv I hlv
  have I0 := I
  obtain ⟨S, -, hT, -, -, -, -, hlen, hP, hD, hS⟩ := I
  exact va_zald S.1 S.2.1 hT.1 hP q0 1 (am_w_at hlen he) rfl hin d (kk p e s m args below meth c H locs A sb ad0 ad lv I0 hlv)
theorem g_zast {κ : am_K} {μ : am_N} {o1 : am_O} {h1 : List am_E} {nc ns pc n : Nat} {ls : List (Nat × Value)} {st : List Value} {h : List am_E} {h' : List am_E} {q0 N : Nat} {f : Nat → Int32} {i : Int32} {x : Int32} (d : decode (am_cc μ) pc = .ok (.bastore, 1)) (en : pc + 1 = n) (he : h[q0]? = some (.inl (.boolean, N, .inl f))) (hin : vp_in i N) (hs : h.set q0 (.inl (.boolean, N, .inl (upd f i.toNatClampNeg (vp_nar .boolean x)))) = h')
    (kk : am_G κ μ o1 h1 nc ns n ls st h') : am_G κ μ o1 h1 nc ns pc ls (.int x :: .int i :: .ref q0 :: st) h := by
  subst en
  intro p e s m args below meth c H locs A sb ad0 ad lv I hlv
  have I0 := I
  obtain ⟨S, -, hT, -, -, -, -, hlen, hP, hD, hS⟩ := I
  exact va_zast S.1 S.2.1 hT.1 hP hD hS q0 1 (am_w_at hlen he) rfl hin d (fun H1 locs1 hP1 hD1 hS1 => kk p e s m args below meth c H1 locs1 A sb ad0 ad lv (I0.put (am_lt he) hs hP1 hD1 hS1) hlv)
theorem g_zalen {κ : am_K} {μ : am_N} {o1 : am_O} {h1 : List am_E} {nc ns pc n : Nat} {ls : List (Nat × Value)} {st : List Value} {h : List am_E} {q0 N : Nat} {f : Nat → Int32} {v : Int32} (d : decode (am_cc μ) pc = .ok (.arraylength, 1)) (en : pc + 1 = n) (he : h[q0]? = some (.inl (.boolean, N, .inl f))) (hv : Int32.ofNat N = v)
    (kk : am_G κ μ o1 h1 nc ns n ls (.int v :: st) h) : am_G κ μ o1 h1 nc ns pc ls (.ref q0 :: st) h := by
  subst en
  intro p e s m args below meth c H locs A sb ad0 ad lv I hlv
  have I0 := I
  obtain ⟨S, -, hT, -, -, -, -, hlen, hP, hD, hS⟩ := I
  exact va_alen S.1 S.2.1 hT.1 hP q0 1 (am_w_at hlen he) (ty := .boolean) rfl hv d (kk p e s m args below meth c H locs A sb ad0 ad lv I0 hlv)
theorem g_cald {κ : am_K} {μ : am_N} {o1 : am_O} {h1 : List am_E} {nc ns pc n : Nat} {ls : List (Nat × Value)} {st : List Value} {h : List am_E} {q0 N : Nat} {f : Nat → Int32} {i : Int32} (d : decode (am_cc μ) pc = .ok (.caload, 1)) (en : pc + 1 = n) (he : h[q0]? = some (.inl (.char, N, .inl f))) (hin : vp_in i N)
    (kk : am_G κ μ o1 h1 nc ns n ls (.int (f i.toNatClampNeg) :: st) h) : am_G κ μ o1 h1 nc ns pc ls (.int i :: .ref q0 :: st) h := by
  subst en
  intro p e s m args below meth c H locs A sb ad0 ad lv I hlv
  have I0 := I
  obtain ⟨S, -, hT, -, -, -, -, hlen, hP, hD, hS⟩ := I
  exact va_cald S.1 S.2.1 hT.1 hP q0 2 (am_w_at hlen he) rfl hin d (kk p e s m args below meth c H locs A sb ad0 ad lv I0 hlv)
theorem g_cast {κ : am_K} {μ : am_N} {o1 : am_O} {h1 : List am_E} {nc ns pc n : Nat} {ls : List (Nat × Value)} {st : List Value} {h : List am_E} {h' : List am_E} {q0 N : Nat} {f : Nat → Int32} {i : Int32} {x : Int32} (d : decode (am_cc μ) pc = .ok (.castore, 1)) (en : pc + 1 = n) (he : h[q0]? = some (.inl (.char, N, .inl f))) (hin : vp_in i N) (hs : h.set q0 (.inl (.char, N, .inl (upd f i.toNatClampNeg (vp_nar .char x)))) = h')
    (kk : am_G κ μ o1 h1 nc ns n ls st h') : am_G κ μ o1 h1 nc ns pc ls (.int x :: .int i :: .ref q0 :: st) h := by
  subst en
  intro p e s m args below meth c H locs A sb ad0 ad lv I hlv
  have I0 := I
  obtain ⟨S, -, hT, -, -, -, -, hlen, hP, hD, hS⟩ := I
  exact va_cast S.1 S.2.1 hT.1 hP hD hS q0 2 (am_w_at hlen he) rfl hin d (fun H1 locs1 hP1 hD1 hS1 => kk p e s m args below meth c H1 locs1 A sb ad0 ad lv (I0.put (am_lt he) hs hP1 hD1 hS1) hlv)
theorem g_calen {κ : am_K} {μ : am_N} {o1 : am_O} {h1 : List am_E} {nc ns pc n : Nat} {ls : List (Nat × Value)} {st : List Value} {h : List am_E} {q0 N : Nat} {f : Nat → Int32} {v : Int32} (d : decode (am_cc μ) pc = .ok (.arraylength, 1)) (en : pc + 1 = n) (he : h[q0]? = some (.inl (.char, N, .inl f))) (hv : Int32.ofNat N = v)
    (kk : am_G κ μ o1 h1 nc ns n ls (.int v :: st) h) : am_G κ μ o1 h1 nc ns pc ls (.ref q0 :: st) h := by
  subst en
  intro p e s m args below meth c H locs A sb ad0 ad lv I hlv
  have I0 := I
  obtain ⟨S, -, hT, -, -, -, -, hlen, hP, hD, hS⟩ := I
  exact va_alen S.1 S.2.1 hT.1 hP q0 2 (am_w_at hlen he) (ty := .char) rfl hv d (kk p e s m args below meth c H locs A sb ad0 ad lv I0 hlv)
theorem g_lald {κ : am_K} {μ : am_N} {o1 : am_O} {h1 : List am_E} {nc ns pc n : Nat} {ls : List (Nat × Value)} {st : List Value} {h : List am_E} {q0 N : Nat} {f : Nat → Int64} {i : Int32} (d : decode (am_cc μ) pc = .ok (.laload, 1)) (en : pc + 1 = n) (he : h[q0]? = some (.inl (.long, N, .inr (.inl f)))) (hin : vp_in i N)
    (kk : am_G κ μ o1 h1 nc ns n ls (.long (f i.toNatClampNeg) :: st) h) : am_G κ μ o1 h1 nc ns pc ls (.int i :: .ref q0 :: st) h := by
  subst en
  intro p e s m args below meth c H locs A sb ad0 ad lv I hlv
  have I0 := I
  obtain ⟨S, -, hT, -, -, -, -, hlen, hP, hD, hS⟩ := I
  exact va_lald S.1 S.2.1 hT.1 hP q0 3 (am_w_at hlen he) rfl hin d (kk p e s m args below meth c H locs A sb ad0 ad lv I0 hlv)
theorem g_last {κ : am_K} {μ : am_N} {o1 : am_O} {h1 : List am_E} {nc ns pc n : Nat} {ls : List (Nat × Value)} {st : List Value} {h : List am_E} {h' : List am_E} {q0 N : Nat} {f : Nat → Int64} {i : Int32} {x : Int64} (d : decode (am_cc μ) pc = .ok (.lastore, 1)) (en : pc + 1 = n) (he : h[q0]? = some (.inl (.long, N, .inr (.inl f)))) (hin : vp_in i N) (hs : h.set q0 (.inl (.long, N, .inr (.inl (vp_updL f i.toNatClampNeg x)))) = h')
    (kk : am_G κ μ o1 h1 nc ns n ls st h') : am_G κ μ o1 h1 nc ns pc ls (.long x :: .int i :: .ref q0 :: st) h := by
  subst en
  intro p e s m args below meth c H locs A sb ad0 ad lv I hlv
  have I0 := I
  obtain ⟨S, -, hT, -, -, -, -, hlen, hP, hD, hS⟩ := I
  exact va_last S.1 S.2.1 hT.1 hP hD hS q0 3 (am_w_at hlen he) rfl hin d (fun H1 locs1 hP1 hD1 hS1 => kk p e s m args below meth c H1 locs1 A sb ad0 ad lv (I0.put (am_lt he) hs hP1 hD1 hS1) hlv)
theorem g_lalen {κ : am_K} {μ : am_N} {o1 : am_O} {h1 : List am_E} {nc ns pc n : Nat} {ls : List (Nat × Value)} {st : List Value} {h : List am_E} {q0 N : Nat} {f : Nat → Int64} {v : Int32} (d : decode (am_cc μ) pc = .ok (.arraylength, 1)) (en : pc + 1 = n) (he : h[q0]? = some (.inl (.long, N, .inr (.inl f)))) (hv : Int32.ofNat N = v)
    (kk : am_G κ μ o1 h1 nc ns n ls (.int v :: st) h) : am_G κ μ o1 h1 nc ns pc ls (.ref q0 :: st) h := by
  subst en
  intro p e s m args below meth c H locs A sb ad0 ad lv I hlv
  have I0 := I
  obtain ⟨S, -, hT, -, -, -, -, hlen, hP, hD, hS⟩ := I
  exact va_alen S.1 S.2.1 hT.1 hP q0 3 (am_w_at hlen he) (ty := .long) rfl hv d (kk p e s m args below meth c H locs A sb ad0 ad lv I0 hlv)
end
section
/-! returns, calls, exceptions -/
theorem am_mono {p : Program} {l : Launch} {e : Env} {R : Room} {s : State} {m : MethodId} {args : Array Value} {below : List Frame} {meth : Method} {c : Code} {H : Heap} {locs : List Loc} {cells slots : Nat} {Q Q' : State → Prop} {g : JFrame} (hq : ∀ t, Q t → Q' t)
    (k : W p l e R s m args below meth c H locs cells slots Q g) : W p l e R s m args below meth c H locs cells slots Q' g := by
  intro T hT X
  obtain ⟨t, a, b⟩ := k T hT X
  exact ⟨t, a, hq t b⟩
theorem am_loc {κ : am_K} {μ : am_N} {p : Program} {s : State} {m : MethodId} {args : Array Value} {meth : Method} {c : Code} {H : Heap} {locs : List Loc} {A : Nat → Prop} {sb : Nat} {ad0 ad : List Nat} {h : List am_E}
    (I : am_I κ μ p s m args meth c H locs A sb ad0 ad h) : va_S A s.heap H locs := I.2.2.2.2.2.2.2.2.2.2
/-- what the kit's return rows ask -/
def am_Qr (κ : am_K) (sb : Nat) (ad0 : List Nat) (A : Nat → Prop) (v : Option Value) (h : List am_E) : Array Value → State → Outcome → State → Prop := fun _ s oc t =>
  (∃ ad : List Nat, am_oc sb ad (.inl v) oc s t ∧ am_B κ sb ad0 A h ad t) ∧ va_F A s t
theorem am_end {κ : am_K} {μ : am_N} {p : Program} {s : State} {m : MethodId} {args : Array Value} {meth : Method} {c : Code} {H : Heap} {locs : List Loc} {A : Nat → Prop} {sb : Nat} {ad0 ad : List Nat} {h : List am_E} {v : Option Value}
    (I : am_I κ μ p s m args meth c H locs A sb ad0 ad h) : ∀ t : State, t.heap = H → s.WarmedH t.vm → am_Qr κ sb ad0 A v h args s (.returned (v.map (am_v sb ad))) t := by
  intro t ht _
  obtain ⟨-, -, -, -, -, -, hpre, hlen, hP, hD, hS⟩ := I
  exact ⟨⟨ad, rfl, hpre, hlen, by rw [ht]; exact hP, hD⟩, hS.F ht⟩
theorem am_fin {κ : am_K} {below : List Frame} {sb : Nat} {ad0 : List Nat} {A : Nat → Prop} {rm : Room} {v : Option Value} {h : List am_E} {a : Array Value} {s : State} : ∀ t, MQ below (am_Qr κ sb ad0 A v h) a s rm.cells rm.slots A t → am_MQ κ below sb ad0 A rm (.inl v) h a s t := by
  rintro t ⟨oc, h1, h2, ⟨h3, h4⟩, L, ⟨-, h5, h6⟩, h7⟩
  exact ⟨oc, h1, h2, h3, h4, L, ⟨h5, h6⟩, h7⟩
theorem g_iret {κ : am_K} {μ : am_N} {nc ns pc : Nat} {ls : List (Nat × Value)} {h : List am_E} {v : Int32}
    (d : decode (am_cc μ) pc = .ok (.ireturn, 1)) (hr : am_rt μ = some .int) (hc : nc ≤ (am_R μ).cells) (hs : ns ≤ (am_R μ).slots) : am_G κ μ (.inl (some (.int v))) h nc ns pc ls [.int v] h := by
  intro p e s m args below meth c H locs A sb ad0 ad lv I hlv
  refine W.widen hc hs (am_mono am_fin ?_)
  exact W.iret (v := v) I.1.1 I.1.2.1 (I.2.1.1.trans hr) (am_end (v := some (.int v)) I) (am_loc I).2.2 d I.2.1.2.1
theorem g_zret {κ : am_K} {μ : am_N} {nc ns pc : Nat} {ls : List (Nat × Value)} {h : List am_E} {v : Int32} {ty : FieldType}
    (d : decode (am_cc μ) pc = .ok (.ireturn, 1)) (hr : am_rt μ = some ty) (hn : narrow ty (.int v) = .int v) (hc : nc ≤ (am_R μ).cells) (hs : ns ≤ (am_R μ).slots) : am_G κ μ (.inl (some (.int v))) h nc ns pc ls [.int v] h := by
  intro p e s m args below meth c H locs A sb ad0 ad lv I hlv
  refine W.widen hc hs (am_mono am_fin ?_)
  exact W.zret (v := v) I.1.1 I.1.2.1 (I.2.1.1.trans hr) hn (am_end (v := some (.int v)) I) (am_loc I).2.2 d I.2.1.2.1
theorem g_lret {κ : am_K} {μ : am_N} {nc ns pc : Nat} {ls : List (Nat × Value)} {h : List am_E} {v : Int64}
    (d : decode (am_cc μ) pc = .ok (.lreturn, 1)) (hr : am_rt μ = some .long) (hc : nc ≤ (am_R μ).cells) (hs : ns ≤ (am_R μ).slots) : am_G κ μ (.inl (some (.long v))) h nc ns pc ls [.long v] h := by
  intro p e s m args below meth c H locs A sb ad0 ad lv I hlv
  refine W.widen hc hs (am_mono am_fin ?_)
  exact W.lret (v := v) I.1.1 I.1.2.1 (I.2.1.1.trans hr) (am_end (v := some (.long v)) I) (am_loc I).2.2 d I.2.1.2.1
theorem g_vret {κ : am_K} {μ : am_N} {nc ns pc : Nat} {ls : List (Nat × Value)} {h : List am_E}
    (d : decode (am_cc μ) pc = .ok (.return_, 1)) (hr : am_rt μ = none) (hc : nc ≤ (am_R μ).cells) (hs : ns ≤ (am_R μ).slots) : am_G κ μ (.inl none) h nc ns pc ls [] h := by
  intro p e s m args below meth c H locs A sb ad0 ad lv I hlv
  refine W.widen hc hs (am_mono am_fin ?_)
  exact W.vret I.1.1 I.1.2.1 (I.2.1.1.trans hr) (am_end (v := none) I) (am_loc I).2.2 d I.2.1.2.1
/-- an exception that no handler of this method takes -/
theorem g_out {κ : am_K} {μ : am_N} {nc ns pc : Nat} {ls : List (Nat × Value)} {st : List Value} {h : List am_E} {E : String}
    (ht : am_tb μ = []) (hc : nc ≤ (am_R μ).cells) (hs : ns ≤ (am_R μ).slots) : am_GX κ μ (.inr E) h nc ns pc ls st h E := by
  intro p e s m args below meth c H locs A sb ad0 ad lv ce q I hlv hce hcv hcl T hT X
  obtain ⟨-, a1, -, -, -, -, hpre, hlen, hP, hD, hS⟩ := I
  obtain ⟨st1, hrun, hend, hW, hsm⟩ := X.leaveThrown q (g := F0 m pc lv (st.map (am_v sb ad))) rfl rfl rfl (fun x hx => by rw [a1.2.2.2, ht] at hx; cases hx) a1.2.1
  have hh : (T.setFrames (.throwing q :: below)).heap = H := hT
  exact ⟨_, st1, .threw q, hrun, hend, ⟨ad, ⟨q, ce, rfl, by rw [hh]; exact hce, hcv, hcl⟩, hpre, hlen, by rw [hh]; exact hP, hD⟩, hS.F hh, locs, ⟨hW, hsm.mono hc hs⟩, hS.2.2⟩
theorem am_mapO (f : Value → Value) (v : Option Value) (st : List Value) : (v.map f).toList ++ st.map f = (v.toList ++ st).map f := by
  cases v <;> simp
/-- a contract whose method returns, as the kit's calls take it -/
theorem am_met {κ : am_K} {y : MethodName} {ws : List Cond} {rm : Room} {as : List Value} {h h2 : List am_E} {v : Option Value} (hM : am_M κ y ws rm as h (.inl v) h2) (sb : Nat) (ad : List Nat) (sz : Nat) (hl : ad.length = h.length) :
    Met (am_l κ) y ws rm (am_Pc κ sb ad sz as h) (am_Qr κ sb ad (am_A ad sz) v h2) rm.cells rm.slots (am_A ad sz) := by
  refine MetFree.mono (hM sb ad sz hl) (fun _ _ z => z) (fun _ _ _ _ _ z => z) (fun a st oc t _ z => ?_)
  obtain ⟨⟨ad', h1, h3⟩, h4, L, ⟨h5, h6⟩, h7⟩ := z
  exact ⟨⟨⟨ad', h1, h3⟩, h4⟩, L, ⟨⟨_, h1⟩, h5, h6⟩, h7⟩
/-- behind a call: the cells that came back -/
theorem am_I.back {κ : am_K} {μ : am_N} {p : Program} {s : State} {m : MethodId} {args : Array Value} {meth : Method} {c : Code} {H : Heap} {locs L : List Loc} {A : Nat → Prop} {sb : Nat} {ad0 ad ad' : List Nat} {h h2 : List am_E} {t st₀ : State}
    (I : am_I κ μ p s m args meth c H locs A sb ad0 ad h) (h0 : st₀.heap = H) (hL : ∀ q ∈ L, am_A ad H.size q.base) (hB : am_B κ sb ad (am_A ad H.size) h2 ad' t) (hF : va_F (am_A ad H.size) st₀ t) :
    am_I κ μ p s m args meth c t.heap (locs ++ L) A sb ad0 ad' h2 := by
  have hA := am_free I
  obtain ⟨S, a1, hT, hZ, hN, hX, hpre, hlen, hP, hD, hS⟩ := I
  obtain ⟨b1, b2, b3, b4⟩ := hB
  obtain ⟨f1, f2⟩ := hF
  rw [h0] at f1 f2
  refine ⟨S, a1, hT, hZ, hN, hX, hpre.trans b1, b2, b3, b4.weaken (fun _ q _ z => hA q.1 z), Nat.le_trans hS.1 f1, fun q z1 z2 => ?_, fun q hq => ?_⟩
  · rw [f2 q (Nat.lt_of_lt_of_le z1 hS.1) (fun z => z2 (hA q z))]
    exact hS.2.1 q z1 z2
  · rcases List.mem_append.mp hq with z | z
    · exact hS.2.2 q z
    · exact hA _ (hL q z)
theorem am_same {ad ad' : List Nat} {a b : Nat} (h1 : ad <+: ad') (h2 : ad.length = a) (h3 : ad'.length = b) (h4 : b = a) : ad' = ad := (h1.eq_of_length (by rw [h2, h3, h4])).symm
theorem am_run {κ : am_K} {μ : am_N} {o1 : am_O} {h1 : List am_E} {nc ns pc n mc ms : Nat} {ls : List (Nat × Value)} {st stk : List Value} {h h2 : List am_E} {v : Option Value} {p : Program} {e : Env} {s : State} {m : MethodId} {args a' : Array Value} {below : List Frame} {meth : Method} {c : Code} {H : Heap} {locs : List Loc} {A : Nat → Prop} {sb : Nat} {ad0 ad : List Nat} {lv : Array Slot}
    (I : am_I κ μ p s m args meth c H locs A sb ad0 ad h) (hlv : lv_has lv (am_nL μ) (am_ls sb ad ls)) (en : pc + 3 = n)
    (hr : va_Run p (am_l κ) e (am_R μ) s m args below meth c H locs nc ns mc ms (F0 m pc lv stk) (st.map (am_v sb ad)) (am_Qr κ sb ad (am_A ad H.size) v h2 a') (am_A ad H.size)) (hl : h2.length = h.length)
    (kr : am_G κ μ o1 h1 (nc + mc) (ns + ms) n ls (v.toList ++ st) h2) :
    W p (am_l κ) e (am_R μ) s m args below meth c H locs nc ns (am_MQ κ below sb ad0 A (am_R μ) o1 h1 args s) (F0 m pc lv stk) := by
  subst en
  intro T hT X
  obtain ⟨v', st₀, t, T', L, h0, X', hL, e1, e2, ⟨⟨ad', ho, hB⟩, hFr⟩, go⟩ := hr T hT X
  have had : ad' = ad := am_same hB.1 I.2.2.2.2.2.2.2.1 hB.2.1 hl
  subst had
  cases ho
  have I' := I.back h0 hL hB hFr
  rw [← e1] at I'
  obtain ⟨t2, a1, b1⟩ := kr p e s m args below meth c T'.heap (locs ++ L) A sb ad0 ad' lv I' hlv T' rfl X'
  rw [← am_mapO] at a1
  exact ⟨t2, go t2 a1, b1⟩
theorem am_recv {κ : am_K} {μ : am_N} {p : Program} {s : State} {m : MethodId} {args : Array Value} {meth : Method} {c : Code} {H : Heap} {locs : List Loc} {A : Nat → Prop} {sb : Nat} {ad0 ad : List Nat} {h : List am_E} {ci q0 N : Nat} {C : String} {T : u_T} {fs : List Value}
    (I : am_I κ μ p s m args meth c H locs A sb ad0 ad h) (hcl : (am_cl κ)[ci]? = some (C, T, N)) (he : h[q0]? = some (.inr (ci, fs))) : ∃ cellB : Cell, H[ad.getD q0 sb]? = some cellB ∧ cellB.vm.isStatics = false ∧ s.vm.findClass C = some cellB.cls := by
  obtain ⟨-, -, hT, -, -, -, -, hlen, hP, -, -⟩ := I
  obtain ⟨r, z1, cell, q1, q2, q3, -⟩ := hP q0 _ (am_w_at hlen he)
  exact ⟨cell, q1, by rw [q3]; rfl, by rw [q2]; exact (hT.1.1 ci _ hcl).2.1⟩
theorem am_revmap (f : Value → Value) (as st : List Value) (v : Value) : (as.reverse ++ v :: st).map f = (as.map f).reverse ++ f v :: st.map f := by
  rw [List.map_append, List.map_reverse, List.map_cons]
theorem am_revmapS (f : Value → Value) (as st : List Value) : (as.reverse ++ st).map f = (as.map f).reverse ++ st.map f := by
  rw [List.map_append, List.map_reverse]
theorem am_catE (sb : Nat) (ad : List Nat) (st : List Value) : ((st.map (am_v sb ad)).map fun v => v.category).sum = (st.map fun v => v.category).sum := by
  rw [List.map_map]
  congr 2
  funext v
  exact am_v_cat sb ad v
theorem g_callV {κ : am_K} {μ : am_N} {o1 : am_O} {h1 : List am_E} {nc ns pc n : Nat} {ls : List (Nat × Value)} {stk : List Value} {h h2 : List am_E} {v : Option Value} {idx ci q0 N maxL : Nat} {y : MethodName} {bytes : ByteArray} {ret : Option FieldType} {ws ws' : List Cond} {rm : Room} {T : u_T} {fs : List Value}
    (as st : List Value) (d : decode (am_cc μ) pc = .ok (.invokevirtual idx, 3)) (en : pc + 3 = n) (hM : am_M κ y ws rm (.ref q0 :: as) h (.inl v) h2) (hG : GoodIn (am_ws μ) (wsV (am_own μ) idx y.cls y ws)) (hw : ws = Cond.code y bytes maxL ret :: ws')
    (hd : y.cls = y.cls ∧ y.cls ≠ "java/lang/invoke/MethodHandle" ∧ y.cls ≠ "java/lang/invoke/VarHandle" ∧ (parseMethodDescriptor y.desc).map (fun d => d.parameters.length) = some as.length) (hR : rm.frames + 1 ≤ (am_R μ).frames ∧ 8 + (maxL + 11) + rm.locals ≤ (am_R μ).locals) (hf : nc + rm.cells ≤ (am_R μ).cells ∧ ns + rm.slots ≤ (am_R μ).slots)
    (hcl : (am_cl κ)[ci]? = some (y.cls, T, N)) (he : h[q0]? = some (.inr (ci, fs))) (hst : stk = as.reverse ++ .ref q0 :: st) (hcat : (st.map fun v => v.category).sum ≤ 8) (hl : h2.length = h.length)
    (kr : am_G κ μ o1 h1 (nc + rm.cells) (ns + rm.slots) n ls (v.toList ++ st) h2) : am_G κ μ o1 h1 nc ns pc ls stk h := by
  intro p e s m args below meth c H locs A sb ad0 ad lv I hlv
  have hlen : ad.length = h.length := I.2.2.2.2.2.2.2.1
  subst hst
  rw [am_revmap]
  have hp : PreV s H y.cls (ad.getD q0 sb) (am_Pc κ sb ad H.size (.ref q0 :: as) h) (as.map (am_v sb ad)) := ⟨am_Pc.blind, am_recv I hcl he, am_Pc.at (.ref q0 :: as) I⟩
  exact am_run I hlv en (va_runV I.1 (am_met hM sb ad H.size hlen) (cwV as.length I.1.2.2.2.2 hG hw rfl rfl hd hR) hp rfl (by rw [List.length_map]) hlv.1 rfl (lv_room (by rw [am_catE]; exact hcat)) d hf) hl kr
theorem g_callS {κ : am_K} {μ : am_N} {o1 : am_O} {h1 : List am_E} {nc ns pc n : Nat} {ls : List (Nat × Value)} {stk : List Value} {h h2 : List am_E} {v : Option Value} {idx maxL : Nat} {y : MethodName} {bytes : ByteArray} {ret : Option FieldType} {ws ws' : List Cond} {rm : Room}
    (as st : List Value) (d : decode (am_cc μ) pc = .ok (.invokestatic idx, 3)) (en : pc + 3 = n) (hM : am_M κ y ws rm as h (.inl v) h2) (hG : GoodIn (am_ws μ) (wsS (am_own μ) idx y ws)) (hw : ws = Cond.code y bytes maxL ret :: ws')
    (hd : y.cls = am_own μ ∧ y.cls ≠ "java/lang/invoke/MethodHandle" ∧ y.cls ≠ "java/lang/invoke/VarHandle" ∧ (parseMethodDescriptor y.desc).map (fun d => d.parameters.length) = some as.length) (hR : rm.frames + 1 ≤ (am_R μ).frames ∧ 8 + (maxL + 11) + rm.locals ≤ (am_R μ).locals) (hf : nc + rm.cells ≤ (am_R μ).cells ∧ ns + rm.slots ≤ (am_R μ).slots)
    (hst : stk = as.reverse ++ st) (hcat : (st.map fun v => v.category).sum ≤ 8) (hl : h2.length = h.length)
    (kr : am_G κ μ o1 h1 (nc + rm.cells) (ns + rm.slots) n ls (v.toList ++ st) h2) : am_G κ μ o1 h1 nc ns pc ls stk h := by
  intro p e s m args below meth c H locs A sb ad0 ad lv I hlv
  have hlen : ad.length = h.length := I.2.2.2.2.2.2.2.1
  subst hst
  rw [am_revmapS]
  have hp : PreS s H (am_Pc κ sb ad H.size as h) (as.map (am_v sb ad)) := ⟨am_Pc.blind, am_Pc.at as I⟩
  exact am_run I hlv en (va_runS I.1 (am_met hM sb ad H.size hlen) (cwS as.length I.1.2.2.2.2 hG hw rfl rfl hd hR) hp rfl (by rw [List.length_map]) hlv.1 rfl (lv_room (by rw [am_catE]; exact hcat)) d hf) hl kr
theorem g_callSN {κ : am_K} {μ : am_N} {o1 : am_O} {h1 : List am_E} {nc ns pc n : Nat} {ls : List (Nat × Value)} {stk : List Value} {h h2 : List am_E} {v : Option Value} {idx maxL : Nat} {y : MethodName} {host : String} {bytes : ByteArray} {ret : Option FieldType} {ws ws' : List Cond} {rm : Room}
    (as st : List Value) (d : decode (am_cc μ) pc = .ok (.invokestatic idx, 3)) (en : pc + 3 = n) (hM : am_M κ y ws rm as h (.inl v) h2) (hG : GoodIn (am_ws μ) ws) (hw : ws = Cond.code y bytes maxL ret :: ws') (hn : Cond.methodLinkNest (am_own μ) idx y host ∈ am_NW κ) (hi : Cond.initialized y.cls ∈ am_ws μ) (hsx : Cond.static y ∈ am_ws μ)
    (hd : y.cls ≠ "java/lang/invoke/MethodHandle" ∧ y.cls ≠ "java/lang/invoke/VarHandle" ∧ (parseMethodDescriptor y.desc).map (fun d => d.parameters.length) = some as.length) (hR : rm.frames + 1 ≤ (am_R μ).frames ∧ 8 + (maxL + 11) + rm.locals ≤ (am_R μ).locals) (hf : nc + rm.cells ≤ (am_R μ).cells ∧ ns + rm.slots ≤ (am_R μ).slots)
    (hst : stk = as.reverse ++ st) (hcat : (st.map fun v => v.category).sum ≤ 8) (hl : h2.length = h.length)
    (kr : am_G κ μ o1 h1 (nc + rm.cells) (ns + rm.slots) n ls (v.toList ++ st) h2) : am_G κ μ o1 h1 nc ns pc ls stk h := by
  intro p e s m args below meth c H locs A sb ad0 ad lv I hlv
  have hlen : ad.length = h.length := I.2.2.2.2.2.2.2.1
  have ht := I.1.2.2.2.2
  subst hst
  rw [am_revmapS]
  have hp : PreS s H (am_Pc κ sb ad H.size as h) (as.map (am_v sb ad)) := ⟨am_Pc.blind, am_Pc.at as I⟩
  exact am_run I hlv en (va_runSN I.1 (am_met hM sb ad H.size hlen) ⟨va_cnB as.length ht hG hw rfl rfl (I.2.2.1.2.1 _ hn).2 (ht _ hi) hd hR, ht _ hsx, trivial⟩ hp rfl (by rw [List.length_map]) hlv.1 rfl (lv_room (by rw [am_catE]; exact hcat)) d hf) hl kr
theorem g_callVN {κ : am_K} {μ : am_N} {o1 : am_O} {h1 : List am_E} {nc ns pc n : Nat} {ls : List (Nat × Value)} {stk : List Value} {h h2 : List am_E} {v : Option Value} {idx ci q0 N maxL : Nat} {y : MethodName} {host : String} {bytes : ByteArray} {ret : Option FieldType} {ws ws' : List Cond} {rm : Room} {T : u_T} {fs : List Value}
    (as st : List Value) (d : decode (am_cc μ) pc = .ok (.invokevirtual idx, 3)) (en : pc + 3 = n) (hM : am_M κ y ws rm (.ref q0 :: as) h (.inl v) h2) (hG : GoodIn (am_ws μ) ws) (hw : ws = Cond.code y bytes maxL ret :: ws') (hn : Cond.methodLinkNest (am_own μ) idx y host ∈ am_NW κ) (hi : Cond.initialized y.cls ∈ am_ws μ) (hsx : Cond.instanceMethod y ∈ am_ws μ) (hsl : Cond.selects y.cls y y ∈ am_ws μ)
    (hd : y.cls ≠ "java/lang/invoke/MethodHandle" ∧ y.cls ≠ "java/lang/invoke/VarHandle" ∧ (parseMethodDescriptor y.desc).map (fun d => d.parameters.length) = some as.length) (hR : rm.frames + 1 ≤ (am_R μ).frames ∧ 8 + (maxL + 11) + rm.locals ≤ (am_R μ).locals) (hf : nc + rm.cells ≤ (am_R μ).cells ∧ ns + rm.slots ≤ (am_R μ).slots)
    (hcl : (am_cl κ)[ci]? = some (y.cls, T, N)) (he : h[q0]? = some (.inr (ci, fs))) (hst : stk = as.reverse ++ .ref q0 :: st) (hcat : (st.map fun v => v.category).sum ≤ 8) (hl : h2.length = h.length)
    (kr : am_G κ μ o1 h1 (nc + rm.cells) (ns + rm.slots) n ls (v.toList ++ st) h2) : am_G κ μ o1 h1 nc ns pc ls stk h := by
  intro p e s m args below meth c H locs A sb ad0 ad lv I hlv
  have hlen : ad.length = h.length := I.2.2.2.2.2.2.2.1
  have ht := I.1.2.2.2.2
  subst hst
  rw [am_revmap]
  have hp : PreV s H y.cls (ad.getD q0 sb) (am_Pc κ sb ad H.size (.ref q0 :: as) h) (as.map (am_v sb ad)) := ⟨am_Pc.blind, am_recv I hcl he, am_Pc.at (.ref q0 :: as) I⟩
  exact am_run I hlv en (va_runVN I.1 (am_met hM sb ad H.size hlen) ⟨va_cnB as.length ht hG hw rfl rfl (I.2.2.1.2.1 _ hn).2 (ht _ hi) hd hR, ht _ hsx, ht _ hsl⟩ hp rfl (by rw [List.length_map]) hlv.1 rfl (lv_room (by rw [am_catE]; exact hcat)) d hf) hl kr
theorem am_sl_len (sb : Nat) (ad : List Nat) : ∀ as : List Value, (lg_sl (as.map (am_v sb ad))).length = (lg_sl as).length := by
  intro as
  induction as with
  | nil => rfl
  | cons v t ih =>
    simp only [lg_sl, List.map_cons, List.flatMap_cons, List.length_append, am_v_cat] at ih ⊢
    rw [ih]
    congr 1
    split <;> rfl
theorem am_args (sb : Nat) (ad : List Nat) : ∀ (as : List Value) (i : Nat), lv_args i (as.map (am_v sb ad)) = am_ls sb ad (lv_args i as) := by
  intro as
  induction as with
  | nil => intro i; rfl
  | cons v t ih =>
    intro i
    simp only [lv_args, List.map_cons, am_v_cat]
    rw [ih]
    rfl
/-- a method out of its walk -/
theorem am_body {κ : am_K} {y : MethodName} {cc : ByteArray} {maxL : Nat} {ret : Option FieldType} {ws ws' : List Cond} {rm : Room} {as : List Value} {h h1 : List am_E} {o1 : am_O} {ls : List (Nat × Value)}
    (hy : plainName y.cls = true) (hw : ws = Cond.code y cc maxL ret :: ws') (hn : (lg_sl as).length ≤ maxL) (hls : lv_args 0 as = ls)
    (k : am_G κ (ws, y.cls, cc, maxL, ret, y.name, [], rm, none) o1 h1 0 0 0 ls [] h) : am_M κ y ws rm as h o1 h1 := by
  intro sb ad sz hlen
  refine MetFree.of_bodyS (code := cc) (maxLocals := maxL) (ret := ret) hy ?_ ?_
  · intro args s m hb hnm
    obtain ⟨meth, c, z1, z2, z3, z4, z5, z6, -, -⟩ := Cond.code_spec hnm (atoms_spec (ws := ws) hb _ (by rw [hw]; exact List.mem_cons_self))
    exact ⟨meth, c, z1, z2, z3, z4, z5, z6⟩
  · intro p e s m args below meth c s₁ B hml hv _
    obtain ⟨rfl, hsz, hP, hD, hT, hZ⟩ := hv
    subst hsz
    have hts := atoms_spec (ws := ws) B.pre
    have hown : s.vm.findClass y.cls = some m.cls := findClass_of_methodNamed B.named
    have hnm : meth.name = y.name := (name_of_methodNamed B.named B.method).1
    have htb : c.exceptionTable.toList = [] := by
      obtain ⟨meth9, c9, z1, z2, -, -, -, -, z7, -⟩ := Cond.code_spec B.named (hts _ (by rw [hw]; exact List.mem_cons_self))
      cases Option.some.inj (z1.symm.trans B.method)
      cases Option.some.inj (z2.symm.trans (Stand.of_body B).code)
      rw [Array.isEmpty_iff.mp z7]
    have hl := lv_entry (as.map (am_v sb ad)) (n := maxL) (by rw [am_sl_len]; exact hn)
    rw [am_args, hls] at hl
    have hw0 := k p e s m (as.map (am_v sb ad)).toArray below meth c s.heap [] (am_A ad s.heap.size) sb ad ad _ ⟨⟨B.exec, B.bytes, hml, hown, hts⟩, ⟨B.returns, B.notSynchronized, hnm, htb⟩, hT, hZ, fun q z => Or.inr z, trivial, List.prefix_refl _, hlen, hP, ⟨hD.1, fun k q hk => by
      obtain ⟨x, -, z2, -⟩ := am_w_of hk
      exact Or.inl (List.mem_of_getElem? z2)⟩, va_S.rf⟩ hl
    have hh0 : s₁.heap = s.heap := by rw [B.state]; rfl
    rw [List.map_nil, ← lg_entry_eq] at hw0
    obtain ⟨t, a1, oc, b1, b2, b3⟩ := hw0 s₁ hh0 (Stand.of_body B)
    exact ⟨t, oc, a1, b1, b2, b3⟩
end
section
/-! cells that come: labels stay what they were if no label in sight is the new one -/
def am_okv (a b : Nat) (v : Value) : Bool := match v with
  | .ref k => decide (k < a) || decide (b ≤ k)
  | _ => true
def am_oke (a b : Nat) (x : am_E) : Bool := match x with
  | .inl _ => true
  | .inr q => q.2.all (am_okv a b)
theorem am_okv_v {sb : Nat} {ad ad' : List Nat} {v : Value} (hp : ad <+: ad') (h : am_okv ad.length ad'.length v = true) : am_v sb ad' v = am_v sb ad v := by
  cases v with
  | ref k =>
    simp only [am_okv, Bool.or_eq_true, decide_eq_true_eq] at h
    simp only [am_v, Value.ref.injEq]
    obtain ⟨t, rfl⟩ := hp
    rw [List.length_append] at h
    rw [List.getD_eq_getElem?_getD, List.getD_eq_getElem?_getD]
    rcases h with h | h
    · rw [List.getElem?_append_left h]
    · rw [List.getElem?_eq_none (by rw [List.length_append]; exact h), List.getElem?_eq_none (by omega)]
  | _ => rfl
theorem am_okv_e {dA : FieldType → ClassId} {sb : Nat} {ad ad' : List Nat} {x : am_E} (hp : ad <+: ad') (h : am_oke ad.length ad'.length x = true) : am_e dA sb ad' x = am_e dA sb ad x := by
  cases x with
  | inl q => rfl
  | inr q =>
    simp only [am_oke, List.all_eq_true] at h
    simp only [am_e]
    congr 2
    exact List.map_congr_left (fun v hv => am_okv_v hp (h v hv))
theorem am_okv_l {sb : Nat} {ad ad' : List Nat} {ls : List (Nat × Value)} (hp : ad <+: ad') (h : ls.all (fun q => am_okv ad.length ad'.length q.2) = true) : am_ls sb ad' ls = am_ls sb ad ls := by
  rw [List.all_eq_true] at h
  unfold am_ls
  exact List.map_congr_left (fun q hq => by rw [am_okv_v hp (h q hq)])
theorem am_okv_s {sb : Nat} {ad ad' : List Nat} {st : List Value} (hp : ad <+: ad') (h : st.all (am_okv ad.length ad'.length) = true) : st.map (am_v sb ad') = st.map (am_v sb ad) := by
  rw [List.all_eq_true] at h
  exact List.map_congr_left (fun v hv => am_okv_v hp (h v hv))
theorem am_w_push {dA : FieldType → ClassId} {sb q : Nat} {ad : List Nat} {h : List am_E} {x : am_E} (hl : ad.length = h.length) (hh : h.all (am_oke h.length (h.length + 1)) = true) (hx : am_oke h.length (h.length + 1) x = true) :
    am_w dA sb (ad ++ [q]) (h ++ [x]) = am_w dA sb ad h ++ [(q, am_e dA sb ad x)] := by
  have hp : ad <+: ad ++ [q] := List.prefix_append _ _
  have hlen : (ad ++ [q]).length = h.length + 1 := by rw [List.length_append, hl]; rfl
  rw [List.all_eq_true] at hh
  have e1 : ∀ y, am_oke h.length (h.length + 1) y = true → am_e dA sb (ad ++ [q]) y = am_e dA sb ad y := fun y hy => am_okv_e hp (by rw [hlen, hl]; exact hy)
  unfold am_w
  rw [List.zipWith_append (by exact hl)]
  congr 1
  · clear hx
    have : ∀ (a : List Nat) (g : List am_E), (∀ y ∈ g, am_e dA sb (ad ++ [q]) y = am_e dA sb ad y) → List.zipWith (fun a x => (a, am_e dA sb (ad ++ [q]) x)) a g = List.zipWith (fun a x => (a, am_e dA sb ad x)) a g := by
      intro a g
      induction g generalizing a with
      | nil => intro _; cases a <;> rfl
      | cons y g ih =>
        intro hy
        cases a with
        | nil => rfl
        | cons b a =>
          simp only [List.zipWith_cons_cons]
          rw [hy y List.mem_cons_self, ih a (fun z hz => hy z (List.mem_cons_of_mem _ hz))]
    exact this ad h (fun y hy => e1 y (hh y hy))
  · simp only [List.zipWith_cons_cons, List.zipWith_nil_left]
    rw [e1 x hx]
def am_ok (nh : Nat) (ls : List (Nat × Value)) (st : List Value) (h : List am_E) (x : am_E) : Bool := h.all (am_oke nh (nh + 1)) && am_oke nh (nh + 1) x && ls.all (fun q => am_okv nh (nh + 1) q.2) && st.all (am_okv nh (nh + 1))
theorem am_I.push {κ : am_K} {μ : am_N} {p : Program} {s : State} {m : MethodId} {args : Array Value} {meth : Method} {c : Code} {H H1 : Heap} {locs locs1 : List Loc} {A : Nat → Prop} {sb q : Nat} {ad0 ad : List Nat} {h : List am_E} {x : am_E}
    (I : am_I κ μ p s m args meth c H locs A sb ad0 ad h) (hh : h.all (am_oke h.length (h.length + 1)) = true) (hx : am_oke h.length (h.length + 1) x = true)
    (hP : va_P (am_D κ) (am_cl κ) (am_w (am_dA κ) sb ad h ++ [(q, am_e (am_dA κ) sb ad x)]) H1) (hD : va_D A (am_w (am_dA κ) sb ad h ++ [(q, am_e (am_dA κ) sb ad x)])) (hS : va_S A s.heap H1 locs1) :
    am_I κ μ p s m args meth c H1 locs1 A sb ad0 (ad ++ [q]) (h ++ [x]) := by
  obtain ⟨S, a1, hT, hZ, hA, hX, hpre, hlen, -, -, -⟩ := I
  rw [← am_w_push hlen hh hx] at hP hD
  exact ⟨S, a1, hT, hZ, hA, hX, hpre.trans (List.prefix_append _ _), by rw [List.length_append, List.length_append, hlen]; rfl, hP, hD, hS⟩
theorem g_new {κ : am_K} {μ : am_N} {o1 : am_O} {h1 : List am_E} {nc ns pc n : Nat} {ls : List (Nat × Value)} {st : List Value} {h h' : List am_E} {idx ci nh : Nat} {C : String} {T : u_T} {N : Nat} {fs : List Value} {ty0 : Nat → FieldType}
    (d : decode (am_cc μ) pc = .ok (.new idx, 3)) (en : pc + 3 = n) (hin : ∀ w ∈ u_ws C T N, w ∈ am_ws μ) (hc : (am_cl κ)[ci]? = some (C, T, N)) (ht : ∀ k, k < N → parseFieldDescriptor (T k).2.2.1 = some (ty0 k)) (w1 : Cond.classLink (am_own μ) idx C ∈ am_ws μ) (w2 : Cond.instantiable C N ∈ am_ws μ) (w3 : Cond.initialized C ∈ am_ws μ)
    (hfs : ∀ j, j < N → defaultValue (ty0 j) = vp_V fs j) (hr : nc + 1 ≤ (am_R μ).cells) (hr2 : ns + N ≤ (am_R μ).slots) (hnh : h.length = nh) (hfv : ∀ sb ad, fs.map (am_v sb ad) = fs) (hok : am_ok nh ls st h (.inr (ci, fs)) = true) (hh : h ++ [.inr (ci, fs)] = h')
    (kk : am_G κ μ o1 h1 (nc + 1) (ns + N) n ls (.ref nh :: st) h') : am_G κ μ o1 h1 nc ns pc ls st h := by
  subst en
  subst hnh
  subst hh
  intro p e s m args below meth c H locs A sb ad0 ad lv I hlv
  have I0 := I
  obtain ⟨S, -, hT, -, hA, -, -, hlen, hP, hD, hS⟩ := I
  simp only [am_ok, Bool.and_eq_true] at hok
  obtain ⟨⟨⟨k1, k2⟩, k3⟩, k4⟩ := hok
  refine va_new (D := am_D κ) (ci := ci) (C := C) (T := T) (N := N) (fs := fs) S.1 S.2.1 S.2.2.2.2 hin ty0 ht S.2.2.2.1 (S.2.2.2.2 _ w1) (S.2.2.2.2 _ w2) (S.2.2.2.2 _ w3) hT.1 hP hD hS hA hc hfs hr hr2 d (fun q H1 hP1 hD1 hS1 => ?_)
  have hp : ad <+: ad ++ [q] := List.prefix_append _ _
  have hlen' : (ad ++ [q]).length = h.length + 1 := by rw [List.length_append, hlen]; rfl
  have e1 : (q, (Sum.inr (ci, fs) : va_E)) = (q, am_e (am_dA κ) sb ad (.inr (ci, fs))) := by simp only [am_e, hfv]
  have I1 := I0.push (q := q) k1 k2 (e1 ▸ hP1) (e1 ▸ hD1) hS1
  have hk := kk p e s m args below meth c H1 locs A sb ad0 (ad ++ [q]) lv I1 (by rw [am_okv_l hp (by rw [hlen', hlen]; exact k3)]; exact hlv)
  rw [List.map_cons, am_okv_s hp (by rw [hlen', hlen]; exact k4)] at hk
  have e2 : am_v sb (ad ++ [q]) (.ref h.length) = .ref q := by
    simp only [am_v]
    rw [List.getD_eq_getElem?_getD, ← hlen, List.getElem?_append_right (Nat.le_refl _), Nat.sub_self]
    rfl
  rw [e2] at hk
  exact hk
/-- the array class of a type is the one that the tables name -/
theorem am_dA_eq {κ : am_K} {s : State} {cA : ClassId} {ty : FieldType} {k : Nat} (h : va_K (am_D κ) (am_cl κ) (am_ty (am_dA κ) ++ [(cA, ty)]) s) (hk : (am_ty (am_dA κ))[k]? = some (am_dA κ ty, ty)) (hp : ∀ C, ty ≠ .object C) : cA = am_dA κ ty := by
  have h1 := (h.2 k (am_dA κ ty, ty) (by rw [List.getElem?_append_left (List.getElem?_eq_some_iff.mp hk).1]; exact hk)).2
  have h2 := (h.2 (am_ty (am_dA κ)).length (cA, ty) (by rw [List.getElem?_append_right (Nat.le_refl _), Nat.sub_self]; rfl)).2
  cases ty with
  | object C => exact absurd rfl (hp C)
  | _ => exact Option.some.inj (h2.symm.trans h1)
theorem g_newa {κ : am_K} {μ : am_N} {o1 : am_O} {h1 : List am_E} {nc ns pc n : Nat} {ls : List (Nat × Value)} {st : List Value} {h h' : List am_E} {nh N k9 : Nat} {atype : ArrayType} {ty : FieldType} {i : Int32} {a0 : vp_A}
    (d : decode (am_cc μ) pc = .ok (.newarray atype, 2)) (en : pc + 2 = n) (hw : Cond.arrayClass (newarray.typeOf atype) ∈ am_ws μ) (hty : newarray.typeOf atype = ty) (hk9 : ∀ dA, (am_ty dA)[k9]? = some (dA ty, ty)) (hpr : ∀ C, ty ≠ .object C)
    (ha : ∀ cA : ClassId, vp_cell cA a0 = arrV cA N (fun _ => defaultValue ty)) (hi : ¬ i < 0) (hN : i.toNatClampNeg = N) (hb : N * componentBytes ty ≤ 536870912) (hr : nc + 1 ≤ (am_R μ).cells) (hr2 : ns + N ≤ (am_R μ).slots) (hnh : h.length = nh) (hok : am_ok nh ls st h (.inl (ty, a0)) = true) (hh : h ++ [.inl (ty, a0)] = h')
    (kk : am_G κ μ o1 h1 (nc + 1) (ns + N) n ls (.ref nh :: st) h') : am_G κ μ o1 h1 nc ns pc ls (.int i :: st) h := by
  subst en
  subst hnh
  subst hh
  intro p e s m args below meth c H locs A sb ad0 ad lv I hlv
  have I0 := I
  obtain ⟨S, -, hT, -, hA, -, -, hlen, hP, hD, hS⟩ := I
  simp only [am_ok, Bool.and_eq_true] at hok
  obtain ⟨⟨⟨k1, k2⟩, k3⟩, k4⟩ := hok
  refine va_newa (D := am_D κ) (a0 := a0) (N' := N) (n := i) S.1 S.2.1 (S.2.2.2.2 _ hw) hty hT.1 hP hD hS hA ha hi hN hb hr hr2 d (fun q cA H1 hK1 hP1 hD1 hS1 => ?_)
  have hp : ad <+: ad ++ [q] := List.prefix_append _ _
  have hlen' : (ad ++ [q]).length = h.length + 1 := by rw [List.length_append, hlen]; rfl
  have hcA := am_dA_eq hK1 (hk9 _) hpr
  subst hcA
  have I1 := I0.push (q := q) (x := .inl (ty, a0)) k1 k2 hP1 hD1 hS1
  have hk := kk p e s m args below meth c H1 locs A sb ad0 (ad ++ [q]) lv I1 (by rw [am_okv_l hp (by rw [hlen', hlen]; exact k3)]; exact hlv)
  rw [List.map_cons, am_okv_s hp (by rw [hlen', hlen]; exact k4)] at hk
  have e2 : am_v sb (ad ++ [q]) (.ref h.length) = .ref q := by
    simp only [am_v]
    rw [List.getD_eq_getElem?_getD, ← hlen, List.getElem?_append_right (Nat.le_refl _), Nat.sub_self]
    rfl
  rw [e2] at hk
  exact hk
/-- a call that makes cells -/
theorem am_runG {κ : am_K} {μ : am_N} {o1 : am_O} {h1 : List am_E} {nc ns pc n mc ms : Nat} {ls : List (Nat × Value)} {st stk : List Value} {h h2 : List am_E} {v : Option Value} {p : Program} {e : Env} {s : State} {m : MethodId} {args a' : Array Value} {below : List Frame} {meth : Method} {c : Code} {H : Heap} {locs : List Loc} {A : Nat → Prop} {sb : Nat} {ad0 ad : List Nat} {lv : Array Slot}
    (I : am_I κ μ p s m args meth c H locs A sb ad0 ad h) (hlv : lv_has lv (am_nL μ) (am_ls sb ad ls)) (en : pc + 3 = n)
    (hr : va_Run p (am_l κ) e (am_R μ) s m args below meth c H locs nc ns mc ms (F0 m pc lv stk) (st.map (am_v sb ad)) (am_Qr κ sb ad (am_A ad H.size) v h2 a') (am_A ad H.size))
    (z1 : ls.all (fun q => am_okv h.length h2.length q.2) = true) (z2 : st.all (am_okv h.length h2.length) = true)
    (kr : am_G κ μ o1 h1 (nc + mc) (ns + ms) n ls (v.toList ++ st) h2) :
    W p (am_l κ) e (am_R μ) s m args below meth c H locs nc ns (am_MQ κ below sb ad0 A (am_R μ) o1 h1 args s) (F0 m pc lv stk) := by
  subst en
  intro T hT X
  obtain ⟨v', st₀, t, T', L, h0, X', hL, e1, e2, ⟨⟨ad', ho, hB⟩, hFr⟩, go⟩ := hr T hT X
  have hlen := I.2.2.2.2.2.2.2.1
  have hl2 := hB.2.1
  have hp := hB.1
  cases ho
  have I' := I.back h0 hL hB hFr
  rw [← e1] at I'
  obtain ⟨t2, a1, b1⟩ := kr p e s m args below meth c T'.heap (locs ++ L) A sb ad0 ad' lv I' (by rw [am_okv_l hp (by rw [hlen, hl2]; exact z1)]; exact hlv) T' rfl X'
  rw [← am_mapO, am_okv_s hp (by rw [hlen, hl2]; exact z2)] at a1
  exact ⟨t2, go t2 a1, b1⟩
theorem g_callI {κ : am_K} {μ : am_N} {o1 : am_O} {h1 : List am_E} {nc ns pc n : Nat} {ls : List (Nat × Value)} {stk : List Value} {h h2 : List am_E} {idx q0 maxL : Nat} {y : MethodName} {bytes : ByteArray} {ws ws' : List Cond} {rm : Room}
    (as st : List Value) (d : decode (am_cc μ) pc = .ok (.invokespecial idx, 3)) (en : pc + 3 = n) (hM : am_M κ y ws rm (.ref q0 :: as) h (.inl none) h2) (hG : GoodIn (am_ws μ) ws) (hw : ws = Cond.code y bytes maxL none :: ws') (hi : Cond.initialized y.cls ∈ am_ws μ) (hk : Cond.methodLink (am_own μ) idx y ∈ am_ws μ) (hsx : Cond.instanceMethod y ∈ am_ws μ) (hy : y.name = "<init>")
    (hd : y.cls ≠ "java/lang/invoke/MethodHandle" ∧ y.cls ≠ "java/lang/invoke/VarHandle" ∧ (parseMethodDescriptor y.desc).map (fun d => d.parameters.length) = some as.length) (hR : rm.frames + 1 ≤ (am_R μ).frames ∧ 8 + (maxL + 11) + rm.locals ≤ (am_R μ).locals) (hf : nc + rm.cells ≤ (am_R μ).cells ∧ ns + rm.slots ≤ (am_R μ).slots)
    (hst : stk = as.reverse ++ .ref q0 :: st) (hcat : (st.map fun v => v.category).sum ≤ 8) (z1 : ls.all (fun q => am_okv h.length h2.length q.2) = true) (z2 : st.all (am_okv h.length h2.length) = true)
    (kr : am_G κ μ o1 h1 (nc + rm.cells) (ns + rm.slots) n ls st h2) : am_G κ μ o1 h1 nc ns pc ls stk h := by
  intro p e s m args below meth c H locs A sb ad0 ad lv I hlv
  have hlen : ad.length = h.length := I.2.2.2.2.2.2.2.1
  have ht := I.1.2.2.2.2
  subst hst
  rw [am_revmap]
  have hp : PreS s H (am_Pc κ sb ad H.size (.ref q0 :: as) h) (.ref (ad.getD q0 sb) :: as.map (am_v sb ad)) := ⟨am_Pc.blind, am_Pc.at (.ref q0 :: as) I⟩
  exact am_runG (v := none) I hlv en (va_runI I.1 (am_met hM sb ad H.size hlen) (cwI as.length ht hG hw rfl rfl (ht _ hi) (ht _ hk) (ht _ hsx) hy hd hR) hp rfl (by rw [List.length_map]) hlv.1 rfl (lv_room (by rw [am_catE]; exact hcat)) d hf) z1 z2 kr
theorem g_objInit {κ : am_K} {μ : am_N} {o1 : am_O} {h1 : List am_E} {nc ns pc n : Nat} {ls : List (Nat × Value)} {st : List Value} {h : List am_E} {idx q0 : Nat}
    (d : decode (am_cc μ) pc = .ok (.invokespecial idx, 3)) (en : pc + 3 = n) (w1 : Cond.methodLink (am_own μ) idx Lib.objectInit ∈ am_ws μ) (w2 : Cond.instanceMethod Lib.objectInit ∈ am_ws μ) (w3 : Cond.code Lib.objectInit ⟨#[0xb1]⟩ 1 none ∈ am_ws μ) (hR : 1 ≤ (am_R μ).frames) (hR2 : (st.map fun v => v.category).sum + 12 ≤ (am_R μ).locals)
    (kk : am_G κ μ o1 h1 nc ns n ls st h) : am_G κ μ o1 h1 nc ns pc ls (.ref q0 :: st) h := by
  subst en
  intro p e s m args below meth c H locs A sb ad0 ad lv I hlv
  have ht := I.1.2.2.2.2
  refine W.objInit I.1.1 I.1.2.1 I.1.2.2.2.1 (ht _ w1) (ht _ w2) (ht _ w3) rfl (by rw [I.1.2.2.1]; exact hlv.1) rfl d hR ?_ (kk p e s m args below meth c H locs A sb ad0 ad lv I hlv)
  show 2 * 0 + _ + 12 ≤ _
  have e1 := am_catE sb ad st
  rw [e1]
  omega
theorem g_mmin {κ : am_K} {μ : am_N} {o1 : am_O} {h1 : List am_E} {nc ns pc n : Nat} {ls : List (Nat × Value)} {st : List Value} {h : List am_E} {idx : Nat} {x y : Int32}
    (d : decode (am_cc μ) pc = .ok (.invokestatic idx, 3)) (en : pc + 3 = n) (w1 : Cond.methodLink (am_own μ) idx Lib.Math.min.name ∈ am_ws μ) (w2 : Cond.static Lib.Math.min.name ∈ am_ws μ) (w3 : Cond.initialized "java/lang/Math" ∈ am_ws μ) (w4 : Cond.code Lib.Math.min.name Lib.Math.min.code 2 (some .int) ∈ am_ws μ)
    (hR : 1 ≤ (am_R μ).frames) (hR2 : (st.map fun v => v.category).sum + 13 ≤ (am_R μ).locals) (hc : nc ≤ (am_R μ).cells) (hs : ns ≤ (am_R μ).slots)
    (kk : am_G κ μ o1 h1 nc ns n ls (.int (if y < x then y else x) :: st) h) : am_G κ μ o1 h1 nc ns pc ls (.int y :: .int x :: st) h := by
  subst en
  intro p e s m args below meth c H locs A sb ad0 ad lv I hlv
  have ht := I.1.2.2.2.2
  have e1 := am_catE sb ad st
  exact va_mmin I.1.1 I.1.2.1 (by rw [I.1.2.2.1]; exact hlv.1.symm) I.1.2.2.2.1 (ht _ w1) (ht _ w2) (ht _ w3) (ht _ w4) hR (by rw [e1]; exact hR2) hc hs d (kk p e s m args below meth c H locs A sb ad0 ad lv I hlv)
end
section
/-! what a function says: lemmas on its shape -/
def am_in (i : Int32) (n : Nat) : Bool := decide (¬ i < 0) && decide (i.toNatClampNeg < n)
theorem am_inl {i : Int32} {n : Nat} (h : am_in i n = true) : vp_in i n := by
  simp only [am_in, Bool.and_eq_true, decide_eq_true_eq] at h
  intro z
  rcases z with z | z
  · exact h.1 z
  · omega
def am_bl (v : Int32) : Bool := decide (v = 0) || decide (v = 1)
theorem am_blz {v : Int32} (h : am_bl v = true) : narrow .boolean (.int v) = .int v := by
  simp only [am_bl, Bool.or_eq_true, decide_eq_true_eq] at h
  rcases h with rfl | rfl <;> rfl
def am_t {α β : Type} (x : String ⊕ α) (f : String → Option β) (g : α → Option β) : Option β := match x with
  | .inl E => f E
  | .inr v => g v
theorem ob_bind {α β : Type} {x : Option α} {f : α → Option β} {r : β} (h : x.bind f = some r) : ∃ a, x = some a ∧ f a = some r := by
  cases x with
  | none => cases h
  | some a => exact ⟨a, rfl, h⟩
theorem ob_t {α β : Type} {x : String ⊕ α} {f : String → Option β} {g : α → Option β} {r : β} (h : am_t x f g = some r) : (∃ E, x = .inl E ∧ f E = some r) ∨ ∃ v, x = .inr v ∧ g v = some r := by
  cases x with
  | inl E => exact Or.inl ⟨E, rfl, h⟩
  | inr v => exact Or.inr ⟨v, rfl, h⟩
theorem ob_chk {β : Type} {c : Prop} [Decidable c] {a : Option β} {r : β} (h : (if c then a else none) = some r) : c ∧ a = some r := by
  by_cases hc : c
  · rw [if_pos hc] at h
    exact ⟨hc, h⟩
  · rw [if_neg hc] at h
    cases h
theorem ob_pos {β : Type} {c : Prop} [Decidable c] {a b : Option β} {r : β} (hc : c) (h : (if c then a else b) = some r) : a = some r := by
  rw [if_pos hc] at h
  exact h
theorem ob_neg {β : Type} {c : Prop} [Decidable c] {a b : Option β} {r : β} (hc : ¬ c) (h : (if c then a else b) = some r) : b = some r := by
  rw [if_neg hc] at h
  exact h
def am_oi (x : String ⊕ Int32) : am_O := match x with
  | .inl E => .inr E
  | .inr v => .inl (some (.int v))
def am_ol (x : String ⊕ Int64) : am_O := match x with
  | .inl E => .inr E
  | .inr v => .inl (some (.long v))
def am_ov (x : String ⊕ Unit) : am_O := match x with
  | .inl E => .inr E
  | .inr _ => .inl none
/-- the room of a method that stands d calls above the lowest; a throw makes one cell of six slots -/
def am_rm (d : Nat) (o : am_O) : Room := match o with
  | .inl _ => { frames := 8 + d, cells := 0, slots := 0, locals := 256 + 64 * d }
  | .inr _ => { frames := 8 + d, cells := 1, slots := 6, locals := 256 + 64 * d }
theorem am_rm_f (d : Nat) (o : am_O) : (am_rm d o).frames = 8 + d := by cases o <;> rfl
theorem am_rm_l (d : Nat) (o : am_O) : (am_rm d o).locals = 256 + 64 * d := by cases o <;> rfl
theorem am_rmR {a b maxL : Nat} {o o' : am_O} (h : a < b) (hm : maxL ≤ 45) : (am_rm a o).frames + 1 ≤ (am_rm b o').frames ∧ 8 + (maxL + 11) + (am_rm a o).locals ≤ (am_rm b o').locals := by
  rw [am_rm_f, am_rm_f, am_rm_l, am_rm_l]
  omega
theorem g_ls {κ : am_K} {μ : am_N} {o1 : am_O} {h1 : List am_E} {nc ns pc : Nat} {ls ls' : List (Nat × Value)} {st : List Value} {h : List am_E} (ks : List Nat) (e : lv_pick ls ks = ls') (k : am_G κ μ o1 h1 nc ns pc ls' st h) : am_G κ μ o1 h1 nc ns pc ls st h := by
  intro p e9 s m args below meth c H locs A sb ad0 ad lv I hl
  refine k p e9 s m args below meth c H locs A sb ad0 ad lv I (lv_sub hl ks ?_)
  subst e
  unfold lv_pick am_ls
  rw [List.map_filterMap]
  congr 1
  funext k
  rw [List.getElem?_map]
theorem am_ltb {a b : Nat} (h : Nat.ble (a + 1) b = true) : a < b := Nat.le_of_ble_eq_true h
end
section
/-! words and classes of the claim: written by program (wip/am/names.py) out of the Statement and the listing -/
def am_tw : List Cond := lw_tbl.filter goodWord
theorem am_mem {w : Cond} (i : Nat) (h : tables_1[i]? = some w) (g : goodWord w = true) : w ∈ am_tw := List.mem_filter.mpr ⟨List.mem_append_right _ (List.mem_of_getElem? h), g⟩
theorem am_memS {w : Cond} (i : Nat) (h : (k2_sels lw_privs)[i]? = some w) (g : goodWord w = true) : w ∈ am_tw := List.mem_filter.mpr ⟨List.mem_append_left _ (List.mem_of_getElem? h), g⟩
theorem am_inw {ws : List Cond} (h : ws.all (fun w => decide (w ∈ tables_1) && goodWord w) = true) : ∀ w ∈ ws, w ∈ am_tw := by
  intro w hw
  have h1 := List.all_eq_true.mp h w hw
  simp only [Bool.and_eq_true, decide_eq_true_eq] at h1
  exact List.mem_filter.mpr ⟨List.mem_append_right _ h1.1, h1.2⟩
def T_Disk : u_T := fun k => match k with
  | 0 => ("FileVolume$Disk", "bytes", "[I", true)
  | 1 => ("FileVolume$Disk", "session", "LFileVolume$Session;", true)
  | 2 => ("FileVolume$Disk", "powered", "Z", false)
  | 3 => ("FileVolume$Disk", "suspect", "Z", false)
  | 4 => ("FileVolume$Disk", "writes", "I", false)
  | 5 => ("FileVolume$Disk", "cutIsSet", "Z", false)
  | _ => ("FileVolume$Disk", "writesBeforeCut", "I", false)
def ft_Disk : Nat → FieldType := fun k => match k with
  | 0 => .array .int
  | 1 => .object "FileVolume$Session"
  | 2 => .boolean
  | 3 => .boolean
  | 4 => .int
  | 5 => .boolean
  | _ => .int
theorem in_Disk : ∀ w ∈ u_ws "FileVolume$Disk" T_Disk 7, w ∈ am_tw := am_inw (by decide +kernel)
theorem typ_Disk : am_typ T_Disk 7 ft_Disk := ⟨by decide +kernel, by decide +kernel⟩
def T_Folder : u_T := fun k => match k with
  | 0 => ("FileVolume$Folder", "disk", "LFileVolume$Disk;", true)
  | 1 => ("FileVolume$Folder", "table", "LFileVolume$Table;", true)
  | 2 => ("FileVolume$Folder", "addresses", "[I", true)
  | 3 => ("FileVolume$Folder", "count", "I", false)
  | _ => ("FileVolume$Folder", "lastCluster", "I", false)
def ft_Folder : Nat → FieldType := fun k => match k with
  | 0 => .object "FileVolume$Disk"
  | 1 => .object "FileVolume$Table"
  | 2 => .array .int
  | 3 => .int
  | _ => .int
theorem in_Folder : ∀ w ∈ u_ws "FileVolume$Folder" T_Folder 5, w ∈ am_tw := am_inw (by decide +kernel)
theorem typ_Folder : am_typ T_Folder 5 ft_Folder := ⟨by decide +kernel, by decide +kernel⟩
def T_Name : u_T := fun k => match k with
  | 0 => ("FileVolume$Name", "text", "[C", true)
  | 1 => ("FileVolume$Name", "brief", "[I", true)
  | 2 => ("FileVolume$Name", "length", "I", false)
  | _ => ("FileVolume$Name", "parts", "I", false)
def ft_Name : Nat → FieldType := fun k => match k with
  | 0 => .array .char
  | 1 => .array .int
  | 2 => .int
  | _ => .int
theorem in_Name : ∀ w ∈ u_ws "FileVolume$Name" T_Name 4, w ∈ am_tw := am_inw (by decide +kernel)
theorem typ_Name : am_typ T_Name 4 ft_Name := ⟨by decide +kernel, by decide +kernel⟩
def T_Rep : u_T := fun k => match k with
  | 0 => ("FileVolume$Repairer", "disk", "LFileVolume$Disk;", true)
  | 1 => ("FileVolume$Repairer", "table", "LFileVolume$Table;", true)
  | 2 => ("FileVolume$Repairer", "folder", "LFileVolume$Folder;", true)
  | 3 => ("FileVolume$Repairer", "used", "[Z", true)
  | _ => ("FileVolume$Repairer", "fixes", "I", false)
def ft_Rep : Nat → FieldType := fun k => match k with
  | 0 => .object "FileVolume$Disk"
  | 1 => .object "FileVolume$Table"
  | 2 => .object "FileVolume$Folder"
  | 3 => .array .boolean
  | _ => .int
theorem in_Rep : ∀ w ∈ u_ws "FileVolume$Repairer" T_Rep 5, w ∈ am_tw := am_inw (by decide +kernel)
theorem typ_Rep : am_typ T_Rep 5 ft_Rep := ⟨by decide +kernel, by decide +kernel⟩
def T_Ses : u_T := fun k => match k with
  | 0 => ("FileVolume$Session", "line", "[C", true)
  | 1 => ("FileVolume$Session", "entries", "[I", true)
  | 2 => ("FileVolume$Session", "positions", "[I", true)
  | 3 => ("FileVolume$Session", "lineLength", "I", false)
  | 4 => ("FileVolume$Session", "here", "I", false)
  | _ => ("FileVolume$Session", "depth", "I", false)
def ft_Ses : Nat → FieldType := fun k => match k with
  | 0 => .array .char
  | 1 => .array .int
  | 2 => .array .int
  | 3 => .int
  | 4 => .int
  | _ => .int
theorem in_Ses : ∀ w ∈ u_ws "FileVolume$Session" T_Ses 6, w ∈ am_tw := am_inw (by decide +kernel)
theorem typ_Ses : am_typ T_Ses 6 ft_Ses := ⟨by decide +kernel, by decide +kernel⟩
def T_Table : u_T := fun k => match k with
  | _ => ("FileVolume$Table", "disk", "LFileVolume$Disk;", true)
def ft_Table : Nat → FieldType := fun k => match k with
  | _ => .object "FileVolume$Disk"
theorem in_Table : ∀ w ∈ u_ws "FileVolume$Table" T_Table 1, w ∈ am_tw := am_inw (by decide +kernel)
theorem typ_Table : am_typ T_Table 1 ft_Table := ⟨by decide +kernel, by decide +kernel⟩
def T_V : u_T := fun k => match k with
  | 0 => ("FileVolume", "session", "LFileVolume$Session;", true)
  | 1 => ("FileVolume", "disk", "LFileVolume$Disk;", true)
  | 2 => ("FileVolume", "table", "LFileVolume$Table;", true)
  | 3 => ("FileVolume", "folder", "LFileVolume$Folder;", true)
  | 4 => ("FileVolume", "below", "LFileVolume$Folder;", true)
  | 5 => ("FileVolume", "repairer", "LFileVolume$Repairer;", true)
  | 6 => ("FileVolume", "name", "LFileVolume$Name;", true)
  | _ => ("FileVolume", "row", "[I", true)
def ft_V : Nat → FieldType := fun k => match k with
  | 0 => .object "FileVolume$Session"
  | 1 => .object "FileVolume$Disk"
  | 2 => .object "FileVolume$Table"
  | 3 => .object "FileVolume$Folder"
  | 4 => .object "FileVolume$Folder"
  | 5 => .object "FileVolume$Repairer"
  | 6 => .object "FileVolume$Name"
  | _ => .array .int
theorem in_V : ∀ w ∈ u_ws "FileVolume" T_V 8, w ∈ am_tw := am_inw (by decide +kernel)
theorem typ_V : am_typ T_V 8 ft_V := ⟨by decide +kernel, by decide +kernel⟩
def T_M : u_T := fun k => match k with
  | 0 => ("FileVolumeModel", "thrown", "I", false)
  | 1 => ("FileVolumeModel", "disk", "[I", true)
  | 2 => ("FileVolumeModel", "on", "Z", false)
  | 3 => ("FileVolumeModel", "suspect", "Z", false)
  | 4 => ("FileVolumeModel", "dead", "Z", false)
  | 5 => ("FileVolumeModel", "writes", "I", false)
  | 6 => ("FileVolumeModel", "cut", "I", false)
  | 7 => ("FileVolumeModel", "line", "[I", true)
  | 8 => ("FileVolumeModel", "typed", "I", false)
  | 9 => ("FileVolumeModel", "here", "I", false)
  | 10 => ("FileVolumeModel", "depth", "I", false)
  | 11 => ("FileVolumeModel", "open", "[I", true)
  | 12 => ("FileVolumeModel", "position", "[I", true)
  | 13 => ("FileVolumeModel", "name", "[I", true)
  | 14 => ("FileVolumeModel", "parts", "I", false)
  | 15 => ("FileVolumeModel", "used", "[Z", true)
  | 16 => ("FileVolumeModel", "chain", "[I", true)
  | 17 => ("FileVolumeModel", "way", "[I", true)
  | 18 => ("FileVolumeModel", "next", "[I", true)
  | _ => ("FileVolumeModel", "fixes", "I", false)
def ft_M : Nat → FieldType := fun k => match k with
  | 0 => .int
  | 1 => .array .int
  | 2 => .boolean
  | 3 => .boolean
  | 4 => .boolean
  | 5 => .int
  | 6 => .int
  | 7 => .array .int
  | 8 => .int
  | 9 => .int
  | 10 => .int
  | 11 => .array .int
  | 12 => .array .int
  | 13 => .array .int
  | 14 => .int
  | 15 => .array .boolean
  | 16 => .array .int
  | 17 => .array .int
  | 18 => .array .int
  | _ => .int
theorem in_M : ∀ w ∈ u_ws "FileVolumeModel" T_M 20, w ∈ am_tw := am_inw (by decide +kernel)
theorem typ_M : am_typ T_M 20 ft_M := ⟨by decide +kernel, by decide +kernel⟩
abbrev am_cls : List vw_C := [("FileVolume$Disk", T_Disk, 7), ("FileVolume$Folder", T_Folder, 5), ("FileVolume$Name", T_Name, 4), ("FileVolume$Repairer", T_Rep, 5), ("FileVolume$Session", T_Ses, 6), ("FileVolume$Table", T_Table, 1), ("FileVolume", T_V, 8), ("FileVolumeModel", T_M, 20)]
def am_nws : List Cond := [(Jvm.Cond.fieldLinkNest "FileVolume$Name" (28 : Nat) "FileVolume$Session" "line" "[C" "FileVolume"), (Jvm.Cond.fieldLinkNest "FileVolume$Name" (19 : Nat) "FileVolume$Session" "lineLength" "I" "FileVolume"), (Jvm.Cond.fieldLinkNest "FileVolume$Disk" (35 : Nat) "FileVolume$Session" "lineLength" "I" "FileVolume"), (Jvm.Cond.fieldLinkNest "FileVolume" (305 : Nat) "FileVolume$Session" "lineLength" "I" "FileVolume"), (Jvm.Cond.fieldLinkNest "FileVolume" (87 : Nat) "FileVolume$Session" "here" "I" "FileVolume"), (Jvm.Cond.fieldLinkNest "FileVolume" (95 : Nat) "FileVolume$Session" "depth" "I" "FileVolume"), (Jvm.Cond.fieldLinkNest "FileVolume" (262 : Nat) "FileVolume$Disk" "powered" "Z" "FileVolume"), (Jvm.Cond.fieldLinkNest "FileVolume" (286 : Nat) "FileVolume$Disk" "suspect" "Z" "FileVolume"), (Jvm.Cond.fieldLinkNest "FileVolume" (299 : Nat) "FileVolume$Disk" "writes" "I" "FileVolume"), (Jvm.Cond.fieldLinkNest "FileVolume$Repairer" (67 : Nat) "FileVolume$Folder" "count" "I" "FileVolume"), (Jvm.Cond.fieldLinkNest "FileVolume" (313 : Nat) "FileVolume$Folder" "lastCluster" "I" "FileVolume"), (Jvm.Cond.fieldLinkNest "FileVolume" (289 : Nat) "FileVolume$Repairer" "fixes" "I" "FileVolume"), (Jvm.Cond.fieldLinkNest "FileVolume" (148 : Nat) "FileVolume$Name" "length" "I" "FileVolume"), (Jvm.Cond.fieldLinkNest "FileVolume$Folder" (84 : Nat) "FileVolume$Name" "length" "I" "FileVolume"), (Jvm.Cond.fieldLinkNest "FileVolume" (117 : Nat) "FileVolume$Name" "parts" "I" "FileVolume"), (Jvm.Cond.methodLinkNest "FileVolume$Folder" (27 : Nat) ({ cls := "FileVolume", name := "isCluster", desc := "(I)Z" } : Jvm.MethodName) "FileVolume"), (Jvm.Cond.methodLinkNest "FileVolume$Folder" (31 : Nat) ({ cls := "FileVolume", name := "sectorOf", desc := "(I)I" } : Jvm.MethodName) "FileVolume"), (Jvm.Cond.methodLinkNest "FileVolume$Folder" (89 : Nat) ({ cls := "FileVolume", name := "capital", desc := "(I)I" } : Jvm.MethodName) "FileVolume"), (Jvm.Cond.methodLinkNest "FileVolume$Folder" (105 : Nat) ({ cls := "FileVolume", name := "addToSum", desc := "(II)I" } : Jvm.MethodName) "FileVolume"), (Jvm.Cond.methodLinkNest "FileVolume$Folder" (115 : Nat) ({ cls := "FileVolume", name := "placeInPart", desc := "(I)I" } : Jvm.MethodName) "FileVolume"), (Jvm.Cond.methodLinkNest "FileVolume$Name" (35 : Nat) ({ cls := "FileVolume", name := "isShortChar", desc := "(I)Z" } : Jvm.MethodName) "FileVolume"), (Jvm.Cond.methodLinkNest "FileVolume$Name" (55 : Nat) ({ cls := "FileVolume", name := "capital", desc := "(I)I" } : Jvm.MethodName) "FileVolume"), (Jvm.Cond.methodLinkNest "FileVolume$Table" (40 : Nat) ({ cls := "FileVolume", name := "sectorOf", desc := "(I)I" } : Jvm.MethodName) "FileVolume"), (Jvm.Cond.methodLinkNest "FileVolume$Name" (58 : Nat) ({ cls := "FileVolume", name := "addToSum", desc := "(II)I" } : Jvm.MethodName) "FileVolume"), (Jvm.Cond.methodLinkNest "FileVolume$Name" (66 : Nat) ({ cls := "FileVolume", name := "placeInPart", desc := "(I)I" } : Jvm.MethodName) "FileVolume"), (Jvm.Cond.methodLinkNest "FileVolume$Table" (47 : Nat) ({ cls := "FileVolume", name := "isCluster", desc := "(I)Z" } : Jvm.MethodName) "FileVolume"), (Jvm.Cond.methodLinkNest "FileVolume$Repairer" (52 : Nat) ({ cls := "FileVolume", name := "isCluster", desc := "(I)Z" } : Jvm.MethodName) "FileVolume"), (Jvm.Cond.methodLinkNest "FileVolume" (280 : Nat) ({ cls := "FileVolume$Repairer", name := "goThrough", desc := "(II)V" } : Jvm.MethodName) "FileVolume")]
def am_sls : List (String × Nat × String) := [("FileVolume", 308, "no power, or the disk is suspect"), ("FileVolume", 82, "no good name or no such kind"), ("FileVolume", 108, "too deep, called so already, or no short name"), ("FileVolume$Disk", 40, "the power was cut"), ("FileVolume", 115, "no room"), ("FileVolume", 130, "nothing is called so"), ("FileVolume", 137, "it is open or not empty"), ("FileVolume", 154, "no directory is called so"), ("FileVolume", 159, "no file is called so"), ("FileVolume", 164, "all handles are open"), ("FileVolume", 185, "not open, or not 1 to 7 bytes"), ("FileVolume", 208, "not open, or not 1 to 8 bytes"), ("FileVolume", 210, "the file would be too great"), ("FileVolume", 228, "so many there are not"), ("FileVolume", 235, "nothing to list"), ("FileVolume", 268, "no power")]
abbrev am_kk (l : Launch) (D : va_G) (dA : FieldType → ClassId) : am_K := (l, D, dA, am_cls, am_nws, am_sls)
abbrev y_V_isOnDisk : MethodName := ({ cls := "FileVolume", name := "isOnDisk", desc := "(II)Z" } : Jvm.MethodName)
def ws_V_isOnDisk : List Cond := .code y_V_isOnDisk prog_1_method_28_code 2 (some .boolean) :: am_tw
theorem hd_V_isOnDisk : y_V_isOnDisk.cls ≠ "java/lang/invoke/MethodHandle" ∧ y_V_isOnDisk.cls ≠ "java/lang/invoke/VarHandle" ∧ (parseMethodDescriptor y_V_isOnDisk.desc).map (fun d => d.parameters.length) = some 2 := by decide +kernel
abbrev y_Disk_at : MethodName := ({ cls := "FileVolume$Disk", name := "at", desc := "(I)I" } : Jvm.MethodName)
def ws_Disk_at : List Cond := .code y_Disk_at prog_2_method_2_code 2 (some .int) :: am_tw
theorem hd_Disk_at : y_Disk_at.cls ≠ "java/lang/invoke/MethodHandle" ∧ y_Disk_at.cls ≠ "java/lang/invoke/VarHandle" ∧ (parseMethodDescriptor y_Disk_at.desc).map (fun d => d.parameters.length) = some 1 := by decide +kernel
abbrev y_V_octet : MethodName := ({ cls := "FileVolume", name := "octet", desc := "(II)I" } : Jvm.MethodName)
def ws_V_octet : List Cond := .code y_V_octet prog_1_method_15_code 3 (some .int) :: am_tw
theorem hd_V_octet : y_V_octet.cls ≠ "java/lang/invoke/MethodHandle" ∧ y_V_octet.cls ≠ "java/lang/invoke/VarHandle" ∧ (parseMethodDescriptor y_V_octet.desc).map (fun d => d.parameters.length) = some 2 := by decide +kernel
abbrev y_Ses_isOpen : MethodName := ({ cls := "FileVolume$Session", name := "isOpen", desc := "(I)Z" } : Jvm.MethodName)
def ws_Ses_isOpen : List Cond := .code y_Ses_isOpen prog_6_method_6_code 2 (some .boolean) :: am_tw
theorem hd_Ses_isOpen : y_Ses_isOpen.cls ≠ "java/lang/invoke/MethodHandle" ∧ y_Ses_isOpen.cls ≠ "java/lang/invoke/VarHandle" ∧ (parseMethodDescriptor y_Ses_isOpen.desc).map (fun d => d.parameters.length) = some 1 := by decide +kernel
abbrev y_Ses_positionOf : MethodName := ({ cls := "FileVolume$Session", name := "positionOf", desc := "(I)I" } : Jvm.MethodName)
def ws_Ses_positionOf : List Cond := .code y_Ses_positionOf prog_6_method_13_code 2 (some .int) :: am_tw
theorem hd_Ses_positionOf : y_Ses_positionOf.cls ≠ "java/lang/invoke/MethodHandle" ∧ y_Ses_positionOf.cls ≠ "java/lang/invoke/VarHandle" ∧ (parseMethodDescriptor y_Ses_positionOf.desc).map (fun d => d.parameters.length) = some 1 := by decide +kernel
abbrev y_Disk_pairAt : MethodName := ({ cls := "FileVolume$Disk", name := "pairAt", desc := "(I)I" } : Jvm.MethodName)
def ws_Disk_pairAt : List Cond := .code y_Disk_pairAt prog_2_method_3_code 3 (some .int) :: am_tw
theorem hd_Disk_pairAt : y_Disk_pairAt.cls ≠ "java/lang/invoke/MethodHandle" ∧ y_Disk_pairAt.cls ≠ "java/lang/invoke/VarHandle" ∧ (parseMethodDescriptor y_Disk_pairAt.desc).map (fun d => d.parameters.length) = some 1 := by decide +kernel
abbrev y_Table_cell : MethodName := ({ cls := "FileVolume$Table", name := "cell", desc := "(I)I" } : Jvm.MethodName)
def ws_Table_cell : List Cond := .code y_Table_cell prog_7_method_2_code 2 (some .int) :: am_tw
theorem hd_Table_cell : y_Table_cell.cls ≠ "java/lang/invoke/MethodHandle" ∧ y_Table_cell.cls ≠ "java/lang/invoke/VarHandle" ∧ (parseMethodDescriptor y_Table_cell.desc).map (fun d => d.parameters.length) = some 1 := by decide +kernel
abbrev y_Table_isFree : MethodName := ({ cls := "FileVolume$Table", name := "isFree", desc := "(I)Z" } : Jvm.MethodName)
def ws_Table_isFree : List Cond := .code y_Table_isFree prog_7_method_6_code 2 (some .boolean) :: am_tw
theorem hd_Table_isFree : y_Table_isFree.cls ≠ "java/lang/invoke/MethodHandle" ∧ y_Table_isFree.cls ≠ "java/lang/invoke/VarHandle" ∧ (parseMethodDescriptor y_Table_isFree.desc).map (fun d => d.parameters.length) = some 1 := by decide +kernel
abbrev y_Table_countFree : MethodName := ({ cls := "FileVolume$Table", name := "countFree", desc := "()I" } : Jvm.MethodName)
def ws_Table_countFree : List Cond := .code y_Table_countFree prog_7_method_7_code 3 (some .int) :: am_tw
theorem hd_Table_countFree : y_Table_countFree.cls ≠ "java/lang/invoke/MethodHandle" ∧ y_Table_countFree.cls ≠ "java/lang/invoke/VarHandle" ∧ (parseMethodDescriptor y_Table_countFree.desc).map (fun d => d.parameters.length) = some 0 := by decide +kernel
abbrev y_V_look : MethodName := ({ cls := "FileVolume", name := "look", desc := "(I)I" } : Jvm.MethodName)
def ws_V_look : List Cond := .code y_V_look prog_1_method_17_code 2 (some .int) :: am_tw
theorem hd_V_look : y_V_look.cls ≠ "java/lang/invoke/MethodHandle" ∧ y_V_look.cls ≠ "java/lang/invoke/VarHandle" ∧ (parseMethodDescriptor y_V_look.desc).map (fun d => d.parameters.length) = some 1 := by decide +kernel
theorem tw_1 : (Jvm.Cond.initialized "FileVolume") ∈ am_tw := am_mem 1 (by decide +kernel) (by decide +kernel)
theorem tw_2 : (Jvm.Cond.initialized "FileVolume$Session") ∈ am_tw := am_mem 2 (by decide +kernel) (by decide +kernel)
theorem tw_3 : (Jvm.Cond.initialized "FileVolume$Disk") ∈ am_tw := am_mem 3 (by decide +kernel) (by decide +kernel)
theorem tw_4 : (Jvm.Cond.initialized "FileVolume$Table") ∈ am_tw := am_mem 4 (by decide +kernel) (by decide +kernel)
theorem tw_38 : (Jvm.Cond.fieldLink "FileVolume$Session" (15 : Nat) "FileVolume$Session" "entries" "[I") ∈ am_tw := am_mem 38 (by decide +kernel) (by decide +kernel)
theorem tw_39 : (Jvm.Cond.fieldLink "FileVolume$Session" (19 : Nat) "FileVolume$Session" "positions" "[I") ∈ am_tw := am_mem 39 (by decide +kernel) (by decide +kernel)
theorem tw_69 : (Jvm.Cond.fieldLink "FileVolume$Disk" (15 : Nat) "FileVolume$Disk" "bytes" "[I") ∈ am_tw := am_mem 69 (by decide +kernel) (by decide +kernel)
theorem tw_99 : (Jvm.Cond.fieldLink "FileVolume$Table" (9 : Nat) "FileVolume$Table" "disk" "LFileVolume$Disk;") ∈ am_tw := am_mem 99 (by decide +kernel) (by decide +kernel)
theorem tw_173 : (Jvm.Cond.fieldLink "FileVolume" (12 : Nat) "FileVolume" "session" "LFileVolume$Session;") ∈ am_tw := am_mem 173 (by decide +kernel) (by decide +kernel)
theorem tw_174 : (Jvm.Cond.fieldLink "FileVolume" (21 : Nat) "FileVolume" "disk" "LFileVolume$Disk;") ∈ am_tw := am_mem 174 (by decide +kernel) (by decide +kernel)
theorem tw_175 : (Jvm.Cond.fieldLink "FileVolume" (30 : Nat) "FileVolume" "table" "LFileVolume$Table;") ∈ am_tw := am_mem 175 (by decide +kernel) (by decide +kernel)
theorem tw_210 : (Jvm.Cond.methodLink "FileVolume" (173 : Nat) ({ cls := "FileVolume$Session", name := "isOpen", desc := "(I)Z" } : Jvm.MethodName)) ∈ am_tw := am_mem 210 (by decide +kernel) (by decide +kernel)
theorem tw_211 : (Jvm.Cond.instanceMethod ({ cls := "FileVolume$Session", name := "isOpen", desc := "(I)Z" } : Jvm.MethodName)) ∈ am_tw := am_mem 211 (by decide +kernel) (by decide +kernel)
theorem tw_212 : (Jvm.Cond.selects "FileVolume$Session" ({ cls := "FileVolume$Session", name := "isOpen", desc := "(I)Z" } : Jvm.MethodName) ({ cls := "FileVolume$Session", name := "isOpen", desc := "(I)Z" } : Jvm.MethodName)) ∈ am_tw := am_mem 212 (by decide +kernel) (by decide +kernel)
theorem tw_213 : (Jvm.Cond.code ({ cls := "FileVolume$Session", name := "isOpen", desc := "(I)Z" } : Jvm.MethodName) prog_6_method_6_code (2 : Nat) (Option.some Jvm.ClassFile.FieldType.boolean)) ∈ am_tw := am_mem 213 (by decide +kernel) (by decide +kernel)
theorem tw_231 : (Jvm.Cond.instanceMethod ({ cls := "FileVolume$Disk", name := "pairAt", desc := "(I)I" } : Jvm.MethodName)) ∈ am_tw := am_mem 231 (by decide +kernel) (by decide +kernel)
theorem tw_232 : (Jvm.Cond.selects "FileVolume$Disk" ({ cls := "FileVolume$Disk", name := "pairAt", desc := "(I)I" } : Jvm.MethodName) ({ cls := "FileVolume$Disk", name := "pairAt", desc := "(I)I" } : Jvm.MethodName)) ∈ am_tw := am_mem 232 (by decide +kernel) (by decide +kernel)
theorem tw_233 : (Jvm.Cond.code ({ cls := "FileVolume$Disk", name := "pairAt", desc := "(I)I" } : Jvm.MethodName) prog_2_method_3_code (3 : Nat) (Option.some Jvm.ClassFile.FieldType.int)) ∈ am_tw := am_mem 233 (by decide +kernel) (by decide +kernel)
theorem tw_258 : (Jvm.Cond.methodLink "FileVolume" (292 : Nat) ({ cls := "FileVolume", name := "isOnDisk", desc := "(II)Z" } : Jvm.MethodName)) ∈ am_tw := am_mem 258 (by decide +kernel) (by decide +kernel)
theorem tw_259 : (Jvm.Cond.static ({ cls := "FileVolume", name := "isOnDisk", desc := "(II)Z" } : Jvm.MethodName)) ∈ am_tw := am_mem 259 (by decide +kernel) (by decide +kernel)
theorem tw_260 : (Jvm.Cond.code ({ cls := "FileVolume", name := "isOnDisk", desc := "(II)Z" } : Jvm.MethodName) prog_1_method_28_code (2 : Nat) (Option.some Jvm.ClassFile.FieldType.boolean)) ∈ am_tw := am_mem 260 (by decide +kernel) (by decide +kernel)
theorem tw_261 : (Jvm.Cond.methodLink "FileVolume" (205 : Nat) ({ cls := "FileVolume$Disk", name := "at", desc := "(I)I" } : Jvm.MethodName)) ∈ am_tw := am_mem 261 (by decide +kernel) (by decide +kernel)
theorem tw_262 : (Jvm.Cond.instanceMethod ({ cls := "FileVolume$Disk", name := "at", desc := "(I)I" } : Jvm.MethodName)) ∈ am_tw := am_mem 262 (by decide +kernel) (by decide +kernel)
theorem tw_263 : (Jvm.Cond.selects "FileVolume$Disk" ({ cls := "FileVolume$Disk", name := "at", desc := "(I)I" } : Jvm.MethodName) ({ cls := "FileVolume$Disk", name := "at", desc := "(I)I" } : Jvm.MethodName)) ∈ am_tw := am_mem 263 (by decide +kernel) (by decide +kernel)
theorem tw_264 : (Jvm.Cond.code ({ cls := "FileVolume$Disk", name := "at", desc := "(I)I" } : Jvm.MethodName) prog_2_method_2_code (2 : Nat) (Option.some Jvm.ClassFile.FieldType.int)) ∈ am_tw := am_mem 264 (by decide +kernel) (by decide +kernel)
theorem tw_278 : (Jvm.Cond.methodLink "FileVolume" (302 : Nat) ({ cls := "FileVolume$Table", name := "countFree", desc := "()I" } : Jvm.MethodName)) ∈ am_tw := am_mem 278 (by decide +kernel) (by decide +kernel)
theorem tw_279 : (Jvm.Cond.instanceMethod ({ cls := "FileVolume$Table", name := "countFree", desc := "()I" } : Jvm.MethodName)) ∈ am_tw := am_mem 279 (by decide +kernel) (by decide +kernel)
theorem tw_280 : (Jvm.Cond.selects "FileVolume$Table" ({ cls := "FileVolume$Table", name := "countFree", desc := "()I" } : Jvm.MethodName) ({ cls := "FileVolume$Table", name := "countFree", desc := "()I" } : Jvm.MethodName)) ∈ am_tw := am_mem 280 (by decide +kernel) (by decide +kernel)
theorem tw_281 : (Jvm.Cond.code ({ cls := "FileVolume$Table", name := "countFree", desc := "()I" } : Jvm.MethodName) prog_7_method_7_code (3 : Nat) (Option.some Jvm.ClassFile.FieldType.int)) ∈ am_tw := am_mem 281 (by decide +kernel) (by decide +kernel)
theorem tw_282 : (Jvm.Cond.methodLink "FileVolume$Table" (28 : Nat) ({ cls := "FileVolume$Table", name := "isFree", desc := "(I)Z" } : Jvm.MethodName)) ∈ am_tw := am_mem 282 (by decide +kernel) (by decide +kernel)
theorem tw_283 : (Jvm.Cond.instanceMethod ({ cls := "FileVolume$Table", name := "isFree", desc := "(I)Z" } : Jvm.MethodName)) ∈ am_tw := am_mem 283 (by decide +kernel) (by decide +kernel)
theorem tw_284 : (Jvm.Cond.selects "FileVolume$Table" ({ cls := "FileVolume$Table", name := "isFree", desc := "(I)Z" } : Jvm.MethodName) ({ cls := "FileVolume$Table", name := "isFree", desc := "(I)Z" } : Jvm.MethodName)) ∈ am_tw := am_mem 284 (by decide +kernel) (by decide +kernel)
theorem tw_285 : (Jvm.Cond.code ({ cls := "FileVolume$Table", name := "isFree", desc := "(I)Z" } : Jvm.MethodName) prog_7_method_6_code (2 : Nat) (Option.some Jvm.ClassFile.FieldType.boolean)) ∈ am_tw := am_mem 285 (by decide +kernel) (by decide +kernel)
theorem tw_286 : (Jvm.Cond.methodLink "FileVolume$Table" (25 : Nat) ({ cls := "FileVolume$Table", name := "cell", desc := "(I)I" } : Jvm.MethodName)) ∈ am_tw := am_mem 286 (by decide +kernel) (by decide +kernel)
theorem tw_287 : (Jvm.Cond.instanceMethod ({ cls := "FileVolume$Table", name := "cell", desc := "(I)I" } : Jvm.MethodName)) ∈ am_tw := am_mem 287 (by decide +kernel) (by decide +kernel)
theorem tw_288 : (Jvm.Cond.selects "FileVolume$Table" ({ cls := "FileVolume$Table", name := "cell", desc := "(I)I" } : Jvm.MethodName) ({ cls := "FileVolume$Table", name := "cell", desc := "(I)I" } : Jvm.MethodName)) ∈ am_tw := am_mem 288 (by decide +kernel) (by decide +kernel)
theorem tw_289 : (Jvm.Cond.code ({ cls := "FileVolume$Table", name := "cell", desc := "(I)I" } : Jvm.MethodName) prog_7_method_2_code (2 : Nat) (Option.some Jvm.ClassFile.FieldType.int)) ∈ am_tw := am_mem 289 (by decide +kernel) (by decide +kernel)
theorem tw_290 : (Jvm.Cond.methodLink "FileVolume$Table" (15 : Nat) ({ cls := "FileVolume$Disk", name := "pairAt", desc := "(I)I" } : Jvm.MethodName)) ∈ am_tw := am_mem 290 (by decide +kernel) (by decide +kernel)
theorem tw_291 : (Jvm.Cond.methodLink "FileVolume" (187 : Nat) ({ cls := "FileVolume$Session", name := "positionOf", desc := "(I)I" } : Jvm.MethodName)) ∈ am_tw := am_mem 291 (by decide +kernel) (by decide +kernel)
theorem tw_292 : (Jvm.Cond.instanceMethod ({ cls := "FileVolume$Session", name := "positionOf", desc := "(I)I" } : Jvm.MethodName)) ∈ am_tw := am_mem 292 (by decide +kernel) (by decide +kernel)
theorem tw_293 : (Jvm.Cond.selects "FileVolume$Session" ({ cls := "FileVolume$Session", name := "positionOf", desc := "(I)I" } : Jvm.MethodName) ({ cls := "FileVolume$Session", name := "positionOf", desc := "(I)I" } : Jvm.MethodName)) ∈ am_tw := am_mem 293 (by decide +kernel) (by decide +kernel)
theorem tw_294 : (Jvm.Cond.code ({ cls := "FileVolume$Session", name := "positionOf", desc := "(I)I" } : Jvm.MethodName) prog_6_method_13_code (2 : Nat) (Option.some Jvm.ClassFile.FieldType.int)) ∈ am_tw := am_mem 294 (by decide +kernel) (by decide +kernel)
end
section
theorem d_V_isOnDisk_0 : decode prog_1_method_28_code 0 = .ok (.iload_n 0, 1) := by decide +kernel
theorem d_V_isOnDisk_1 : decode prog_1_method_28_code 1 = .ok (.ifCond .lt 23, 3) := by decide +kernel
theorem d_V_isOnDisk_4 : decode prog_1_method_28_code 4 = .ok (.iload_n 0, 1) := by decide +kernel
theorem d_V_isOnDisk_5 : decode prog_1_method_28_code 5 = .ok (.bipush 70, 2) := by decide +kernel
theorem d_V_isOnDisk_7 : decode prog_1_method_28_code 7 = .ok (.if_icmp .ge 17, 3) := by decide +kernel
theorem d_V_isOnDisk_10 : decode prog_1_method_28_code 10 = .ok (.iload_n 1, 1) := by decide +kernel
theorem d_V_isOnDisk_11 : decode prog_1_method_28_code 11 = .ok (.ifCond .lt 13, 3) := by decide +kernel
theorem d_V_isOnDisk_14 : decode prog_1_method_28_code 14 = .ok (.iload_n 1, 1) := by decide +kernel
theorem d_V_isOnDisk_15 : decode prog_1_method_28_code 15 = .ok (.bipush 32, 2) := by decide +kernel
theorem d_V_isOnDisk_17 : decode prog_1_method_28_code 17 = .ok (.if_icmp .ge 7, 3) := by decide +kernel
theorem d_V_isOnDisk_20 : decode prog_1_method_28_code 20 = .ok (.iconst 1, 1) := by decide +kernel
theorem d_V_isOnDisk_21 : decode prog_1_method_28_code 21 = .ok (.goto 4, 3) := by decide +kernel
theorem d_V_isOnDisk_24 : decode prog_1_method_28_code 24 = .ok (.iconst 0, 1) := by decide +kernel
theorem d_V_isOnDisk_25 : decode prog_1_method_28_code 25 = .ok (.ireturn, 1) := by decide +kernel
theorem d_Disk_at_0 : decode prog_2_method_2_code 0 = .ok (.iload_n 1, 1) := by decide +kernel
theorem d_Disk_at_1 : decode prog_2_method_2_code 1 = .ok (.ifCond .lt 21, 3) := by decide +kernel
theorem d_Disk_at_4 : decode prog_2_method_2_code 4 = .ok (.iload_n 1, 1) := by decide +kernel
theorem d_Disk_at_5 : decode prog_2_method_2_code 5 = .ok (.aload_n 0, 1) := by decide +kernel
theorem d_Disk_at_6 : decode prog_2_method_2_code 6 = .ok (.getfield 15, 3) := by decide +kernel
theorem d_Disk_at_9 : decode prog_2_method_2_code 9 = .ok (.arraylength, 1) := by decide +kernel
theorem d_Disk_at_10 : decode prog_2_method_2_code 10 = .ok (.if_icmp .ge 12, 3) := by decide +kernel
theorem d_Disk_at_13 : decode prog_2_method_2_code 13 = .ok (.aload_n 0, 1) := by decide +kernel
theorem d_Disk_at_14 : decode prog_2_method_2_code 14 = .ok (.getfield 15, 3) := by decide +kernel
theorem d_Disk_at_17 : decode prog_2_method_2_code 17 = .ok (.iload_n 1, 1) := by decide +kernel
theorem d_Disk_at_18 : decode prog_2_method_2_code 18 = .ok (.iaload, 1) := by decide +kernel
theorem d_Disk_at_19 : decode prog_2_method_2_code 19 = .ok (.goto 4, 3) := by decide +kernel
theorem d_Disk_at_22 : decode prog_2_method_2_code 22 = .ok (.iconst 0, 1) := by decide +kernel
theorem d_Disk_at_23 : decode prog_2_method_2_code 23 = .ok (.ireturn, 1) := by decide +kernel
theorem d_V_octet_0 : decode prog_1_method_15_code 0 = .ok (.iload_n 1, 1) := by decide +kernel
theorem d_V_octet_1 : decode prog_1_method_15_code 1 = .ok (.iload_n 2, 1) := by decide +kernel
theorem d_V_octet_2 : decode prog_1_method_15_code 2 = .ok (.invokestatic 292, 3) := by decide +kernel
theorem d_V_octet_5 : decode prog_1_method_15_code 5 = .ok (.ifCond .eq 19, 3) := by decide +kernel
theorem d_V_octet_8 : decode prog_1_method_15_code 8 = .ok (.aload_n 0, 1) := by decide +kernel
theorem d_V_octet_9 : decode prog_1_method_15_code 9 = .ok (.getfield 21, 3) := by decide +kernel
theorem d_V_octet_12 : decode prog_1_method_15_code 12 = .ok (.iload_n 1, 1) := by decide +kernel
theorem d_V_octet_13 : decode prog_1_method_15_code 13 = .ok (.bipush 32, 2) := by decide +kernel
theorem d_V_octet_15 : decode prog_1_method_15_code 15 = .ok (.imul, 1) := by decide +kernel
theorem d_V_octet_16 : decode prog_1_method_15_code 16 = .ok (.iload_n 2, 1) := by decide +kernel
theorem d_V_octet_17 : decode prog_1_method_15_code 17 = .ok (.iadd, 1) := by decide +kernel
theorem d_V_octet_18 : decode prog_1_method_15_code 18 = .ok (.invokevirtual 205, 3) := by decide +kernel
theorem d_V_octet_21 : decode prog_1_method_15_code 21 = .ok (.goto 4, 3) := by decide +kernel
theorem d_V_octet_24 : decode prog_1_method_15_code 24 = .ok (.iconst (-1), 1) := by decide +kernel
theorem d_V_octet_25 : decode prog_1_method_15_code 25 = .ok (.ireturn, 1) := by decide +kernel
theorem d_Ses_isOpen_0 : decode prog_6_method_6_code 0 = .ok (.iload_n 1, 1) := by decide +kernel
theorem d_Ses_isOpen_1 : decode prog_6_method_6_code 1 = .ok (.ifCond .lt 22, 3) := by decide +kernel
theorem d_Ses_isOpen_4 : decode prog_6_method_6_code 4 = .ok (.iload_n 1, 1) := by decide +kernel
theorem d_Ses_isOpen_5 : decode prog_6_method_6_code 5 = .ok (.iconst 4, 1) := by decide +kernel
theorem d_Ses_isOpen_6 : decode prog_6_method_6_code 6 = .ok (.if_icmp .ge 17, 3) := by decide +kernel
theorem d_Ses_isOpen_9 : decode prog_6_method_6_code 9 = .ok (.aload_n 0, 1) := by decide +kernel
theorem d_Ses_isOpen_10 : decode prog_6_method_6_code 10 = .ok (.getfield 15, 3) := by decide +kernel
theorem d_Ses_isOpen_13 : decode prog_6_method_6_code 13 = .ok (.iload_n 1, 1) := by decide +kernel
theorem d_Ses_isOpen_14 : decode prog_6_method_6_code 14 = .ok (.iaload, 1) := by decide +kernel
theorem d_Ses_isOpen_15 : decode prog_6_method_6_code 15 = .ok (.iconst (-1), 1) := by decide +kernel
theorem d_Ses_isOpen_16 : decode prog_6_method_6_code 16 = .ok (.if_icmp .eq 7, 3) := by decide +kernel
theorem d_Ses_isOpen_19 : decode prog_6_method_6_code 19 = .ok (.iconst 1, 1) := by decide +kernel
theorem d_Ses_isOpen_20 : decode prog_6_method_6_code 20 = .ok (.goto 4, 3) := by decide +kernel
theorem d_Ses_isOpen_23 : decode prog_6_method_6_code 23 = .ok (.iconst 0, 1) := by decide +kernel
theorem d_Ses_isOpen_24 : decode prog_6_method_6_code 24 = .ok (.ireturn, 1) := by decide +kernel
theorem d_Ses_positionOf_0 : decode prog_6_method_13_code 0 = .ok (.iload_n 1, 1) := by decide +kernel
theorem d_Ses_positionOf_1 : decode prog_6_method_13_code 1 = .ok (.ifCond .lt 17, 3) := by decide +kernel
theorem d_Ses_positionOf_4 : decode prog_6_method_13_code 4 = .ok (.iload_n 1, 1) := by decide +kernel
theorem d_Ses_positionOf_5 : decode prog_6_method_13_code 5 = .ok (.iconst 4, 1) := by decide +kernel
theorem d_Ses_positionOf_6 : decode prog_6_method_13_code 6 = .ok (.if_icmp .ge 12, 3) := by decide +kernel
theorem d_Ses_positionOf_9 : decode prog_6_method_13_code 9 = .ok (.aload_n 0, 1) := by decide +kernel
theorem d_Ses_positionOf_10 : decode prog_6_method_13_code 10 = .ok (.getfield 19, 3) := by decide +kernel
theorem d_Ses_positionOf_13 : decode prog_6_method_13_code 13 = .ok (.iload_n 1, 1) := by decide +kernel
theorem d_Ses_positionOf_14 : decode prog_6_method_13_code 14 = .ok (.iaload, 1) := by decide +kernel
theorem d_Ses_positionOf_15 : decode prog_6_method_13_code 15 = .ok (.goto 4, 3) := by decide +kernel
theorem d_Ses_positionOf_18 : decode prog_6_method_13_code 18 = .ok (.iconst 0, 1) := by decide +kernel
theorem d_Ses_positionOf_19 : decode prog_6_method_13_code 19 = .ok (.ireturn, 1) := by decide +kernel
theorem d_Disk_pairAt_0 : decode prog_2_method_3_code 0 = .ok (.iload_n 1, 1) := by decide +kernel
theorem d_Disk_pairAt_1 : decode prog_2_method_3_code 1 = .ok (.ifCond .lt 18, 3) := by decide +kernel
theorem d_Disk_pairAt_4 : decode prog_2_method_3_code 4 = .ok (.iload_n 1, 1) := by decide +kernel
theorem d_Disk_pairAt_5 : decode prog_2_method_3_code 5 = .ok (.aload_n 0, 1) := by decide +kernel
theorem d_Disk_pairAt_6 : decode prog_2_method_3_code 6 = .ok (.getfield 15, 3) := by decide +kernel
theorem d_Disk_pairAt_9 : decode prog_2_method_3_code 9 = .ok (.arraylength, 1) := by decide +kernel
theorem d_Disk_pairAt_10 : decode prog_2_method_3_code 10 = .ok (.iconst 1, 1) := by decide +kernel
theorem d_Disk_pairAt_11 : decode prog_2_method_3_code 11 = .ok (.isub, 1) := by decide +kernel
theorem d_Disk_pairAt_12 : decode prog_2_method_3_code 12 = .ok (.if_icmp .ge 7, 3) := by decide +kernel
theorem d_Disk_pairAt_15 : decode prog_2_method_3_code 15 = .ok (.iconst 1, 1) := by decide +kernel
theorem d_Disk_pairAt_16 : decode prog_2_method_3_code 16 = .ok (.goto 4, 3) := by decide +kernel
theorem d_Disk_pairAt_19 : decode prog_2_method_3_code 19 = .ok (.iconst 0, 1) := by decide +kernel
theorem d_Disk_pairAt_20 : decode prog_2_method_3_code 20 = .ok (.istore_n 2, 1) := by decide +kernel
theorem d_Disk_pairAt_21 : decode prog_2_method_3_code 21 = .ok (.iload_n 2, 1) := by decide +kernel
theorem d_Disk_pairAt_22 : decode prog_2_method_3_code 22 = .ok (.ifCond .eq 25, 3) := by decide +kernel
theorem d_Disk_pairAt_25 : decode prog_2_method_3_code 25 = .ok (.aload_n 0, 1) := by decide +kernel
theorem d_Disk_pairAt_26 : decode prog_2_method_3_code 26 = .ok (.getfield 15, 3) := by decide +kernel
theorem d_Disk_pairAt_29 : decode prog_2_method_3_code 29 = .ok (.iload_n 1, 1) := by decide +kernel
theorem d_Disk_pairAt_30 : decode prog_2_method_3_code 30 = .ok (.iaload, 1) := by decide +kernel
theorem d_Disk_pairAt_31 : decode prog_2_method_3_code 31 = .ok (.sipush 256, 3) := by decide +kernel
theorem d_Disk_pairAt_34 : decode prog_2_method_3_code 34 = .ok (.aload_n 0, 1) := by decide +kernel
theorem d_Disk_pairAt_35 : decode prog_2_method_3_code 35 = .ok (.getfield 15, 3) := by decide +kernel
theorem d_Disk_pairAt_38 : decode prog_2_method_3_code 38 = .ok (.iload_n 1, 1) := by decide +kernel
theorem d_Disk_pairAt_39 : decode prog_2_method_3_code 39 = .ok (.iconst 1, 1) := by decide +kernel
theorem d_Disk_pairAt_40 : decode prog_2_method_3_code 40 = .ok (.iadd, 1) := by decide +kernel
theorem d_Disk_pairAt_41 : decode prog_2_method_3_code 41 = .ok (.iaload, 1) := by decide +kernel
theorem d_Disk_pairAt_42 : decode prog_2_method_3_code 42 = .ok (.imul, 1) := by decide +kernel
theorem d_Disk_pairAt_43 : decode prog_2_method_3_code 43 = .ok (.iadd, 1) := by decide +kernel
theorem d_Disk_pairAt_44 : decode prog_2_method_3_code 44 = .ok (.goto 4, 3) := by decide +kernel
theorem d_Disk_pairAt_47 : decode prog_2_method_3_code 47 = .ok (.iconst 0, 1) := by decide +kernel
theorem d_Disk_pairAt_48 : decode prog_2_method_3_code 48 = .ok (.ireturn, 1) := by decide +kernel
theorem d_Table_cell_0 : decode prog_7_method_2_code 0 = .ok (.aload_n 0, 1) := by decide +kernel
theorem d_Table_cell_1 : decode prog_7_method_2_code 1 = .ok (.getfield 9, 3) := by decide +kernel
theorem d_Table_cell_4 : decode prog_7_method_2_code 4 = .ok (.iconst 2, 1) := by decide +kernel
theorem d_Table_cell_5 : decode prog_7_method_2_code 5 = .ok (.iload_n 1, 1) := by decide +kernel
theorem d_Table_cell_6 : decode prog_7_method_2_code 6 = .ok (.imul, 1) := by decide +kernel
theorem d_Table_cell_7 : decode prog_7_method_2_code 7 = .ok (.invokevirtual 15, 3) := by decide +kernel
theorem d_Table_cell_10 : decode prog_7_method_2_code 10 = .ok (.ireturn, 1) := by decide +kernel
theorem d_Table_isFree_0 : decode prog_7_method_6_code 0 = .ok (.aload_n 0, 1) := by decide +kernel
theorem d_Table_isFree_1 : decode prog_7_method_6_code 1 = .ok (.iload_n 1, 1) := by decide +kernel
theorem d_Table_isFree_2 : decode prog_7_method_6_code 2 = .ok (.invokevirtual 25, 3) := by decide +kernel
theorem d_Table_isFree_5 : decode prog_7_method_6_code 5 = .ok (.ifCond .ne 7, 3) := by decide +kernel
theorem d_Table_isFree_8 : decode prog_7_method_6_code 8 = .ok (.iconst 1, 1) := by decide +kernel
theorem d_Table_isFree_9 : decode prog_7_method_6_code 9 = .ok (.goto 4, 3) := by decide +kernel
theorem d_Table_isFree_12 : decode prog_7_method_6_code 12 = .ok (.iconst 0, 1) := by decide +kernel
theorem d_Table_isFree_13 : decode prog_7_method_6_code 13 = .ok (.ireturn, 1) := by decide +kernel
theorem d_Table_countFree_0 : decode prog_7_method_7_code 0 = .ok (.iconst 0, 1) := by decide +kernel
theorem d_Table_countFree_1 : decode prog_7_method_7_code 1 = .ok (.istore_n 1, 1) := by decide +kernel
theorem d_Table_countFree_2 : decode prog_7_method_7_code 2 = .ok (.iconst 2, 1) := by decide +kernel
theorem d_Table_countFree_3 : decode prog_7_method_7_code 3 = .ok (.istore_n 2, 1) := by decide +kernel
theorem d_Table_countFree_4 : decode prog_7_method_7_code 4 = .ok (.iload_n 2, 1) := by decide +kernel
theorem d_Table_countFree_5 : decode prog_7_method_7_code 5 = .ok (.bipush 64, 2) := by decide +kernel
theorem d_Table_countFree_7 : decode prog_7_method_7_code 7 = .ok (.if_icmp .ge 20, 3) := by decide +kernel
theorem d_Table_countFree_10 : decode prog_7_method_7_code 10 = .ok (.aload_n 0, 1) := by decide +kernel
theorem d_Table_countFree_11 : decode prog_7_method_7_code 11 = .ok (.iload_n 2, 1) := by decide +kernel
theorem d_Table_countFree_12 : decode prog_7_method_7_code 12 = .ok (.invokevirtual 28, 3) := by decide +kernel
theorem d_Table_countFree_15 : decode prog_7_method_7_code 15 = .ok (.ifCond .eq 6, 3) := by decide +kernel
theorem d_Table_countFree_18 : decode prog_7_method_7_code 18 = .ok (.iinc 1 1, 3) := by decide +kernel
theorem d_Table_countFree_21 : decode prog_7_method_7_code 21 = .ok (.iinc 2 1, 3) := by decide +kernel
theorem d_Table_countFree_24 : decode prog_7_method_7_code 24 = .ok (.goto (-20), 3) := by decide +kernel
theorem d_Table_countFree_27 : decode prog_7_method_7_code 27 = .ok (.iload_n 1, 1) := by decide +kernel
theorem d_Table_countFree_28 : decode prog_7_method_7_code 28 = .ok (.ireturn, 1) := by decide +kernel
theorem d_V_look_0 : decode prog_1_method_17_code 0 = .ok (.iload_n 1, 1) := by decide +kernel
theorem d_V_look_1 : decode prog_1_method_17_code 1 = .ok (.tableswitch 83 0 4 #[35, 51, 59, 67, 75], 35) := by decide +kernel
theorem d_V_look_36 : decode prog_1_method_17_code 36 = .ok (.aload_n 0, 1) := by decide +kernel
theorem d_V_look_37 : decode prog_1_method_17_code 37 = .ok (.getfield 21, 3) := by decide +kernel
theorem d_V_look_40 : decode prog_1_method_17_code 40 = .ok (.getfield 262, 3) := by decide +kernel
theorem d_V_look_43 : decode prog_1_method_17_code 43 = .ok (.ifCond .eq 7, 3) := by decide +kernel
theorem d_V_look_46 : decode prog_1_method_17_code 46 = .ok (.iconst 1, 1) := by decide +kernel
theorem d_V_look_47 : decode prog_1_method_17_code 47 = .ok (.goto 4, 3) := by decide +kernel
theorem d_V_look_50 : decode prog_1_method_17_code 50 = .ok (.iconst 0, 1) := by decide +kernel
theorem d_V_look_51 : decode prog_1_method_17_code 51 = .ok (.ireturn, 1) := by decide +kernel
theorem d_V_look_52 : decode prog_1_method_17_code 52 = .ok (.aload_n 0, 1) := by decide +kernel
theorem d_V_look_53 : decode prog_1_method_17_code 53 = .ok (.getfield 21, 3) := by decide +kernel
theorem d_V_look_56 : decode prog_1_method_17_code 56 = .ok (.getfield 299, 3) := by decide +kernel
theorem d_V_look_59 : decode prog_1_method_17_code 59 = .ok (.ireturn, 1) := by decide +kernel
theorem d_V_look_60 : decode prog_1_method_17_code 60 = .ok (.aload_n 0, 1) := by decide +kernel
theorem d_V_look_61 : decode prog_1_method_17_code 61 = .ok (.getfield 30, 3) := by decide +kernel
theorem d_V_look_64 : decode prog_1_method_17_code 64 = .ok (.invokevirtual 302, 3) := by decide +kernel
theorem d_V_look_67 : decode prog_1_method_17_code 67 = .ok (.ireturn, 1) := by decide +kernel
theorem d_V_look_68 : decode prog_1_method_17_code 68 = .ok (.aload_n 0, 1) := by decide +kernel
theorem d_V_look_69 : decode prog_1_method_17_code 69 = .ok (.getfield 12, 3) := by decide +kernel
theorem d_V_look_72 : decode prog_1_method_17_code 72 = .ok (.getfield 87, 3) := by decide +kernel
theorem d_V_look_75 : decode prog_1_method_17_code 75 = .ok (.ireturn, 1) := by decide +kernel
theorem d_V_look_76 : decode prog_1_method_17_code 76 = .ok (.aload_n 0, 1) := by decide +kernel
theorem d_V_look_77 : decode prog_1_method_17_code 77 = .ok (.getfield 12, 3) := by decide +kernel
theorem d_V_look_80 : decode prog_1_method_17_code 80 = .ok (.getfield 305, 3) := by decide +kernel
theorem d_V_look_83 : decode prog_1_method_17_code 83 = .ok (.ireturn, 1) := by decide +kernel
theorem d_V_look_84 : decode prog_1_method_17_code 84 = .ok (.iload_n 1, 1) := by decide +kernel
theorem d_V_look_85 : decode prog_1_method_17_code 85 = .ok (.bipush 10, 2) := by decide +kernel
theorem d_V_look_87 : decode prog_1_method_17_code 87 = .ok (.if_icmp .lt 31, 3) := by decide +kernel
theorem d_V_look_90 : decode prog_1_method_17_code 90 = .ok (.aload_n 0, 1) := by decide +kernel
theorem d_V_look_91 : decode prog_1_method_17_code 91 = .ok (.getfield 12, 3) := by decide +kernel
theorem d_V_look_94 : decode prog_1_method_17_code 94 = .ok (.iload_n 1, 1) := by decide +kernel
theorem d_V_look_95 : decode prog_1_method_17_code 95 = .ok (.bipush 10, 2) := by decide +kernel
theorem d_V_look_97 : decode prog_1_method_17_code 97 = .ok (.isub, 1) := by decide +kernel
theorem d_V_look_98 : decode prog_1_method_17_code 98 = .ok (.invokevirtual 173, 3) := by decide +kernel
theorem d_V_look_101 : decode prog_1_method_17_code 101 = .ok (.ifCond .eq 17, 3) := by decide +kernel
theorem d_V_look_104 : decode prog_1_method_17_code 104 = .ok (.aload_n 0, 1) := by decide +kernel
theorem d_V_look_105 : decode prog_1_method_17_code 105 = .ok (.getfield 12, 3) := by decide +kernel
theorem d_V_look_108 : decode prog_1_method_17_code 108 = .ok (.iload_n 1, 1) := by decide +kernel
theorem d_V_look_109 : decode prog_1_method_17_code 109 = .ok (.bipush 10, 2) := by decide +kernel
theorem d_V_look_111 : decode prog_1_method_17_code 111 = .ok (.isub, 1) := by decide +kernel
theorem d_V_look_112 : decode prog_1_method_17_code 112 = .ok (.invokevirtual 187, 3) := by decide +kernel
theorem d_V_look_115 : decode prog_1_method_17_code 115 = .ok (.goto 4, 3) := by decide +kernel
theorem d_V_look_118 : decode prog_1_method_17_code 118 = .ok (.iconst (-1), 1) := by decide +kernel
theorem d_V_look_119 : decode prog_1_method_17_code 119 = .ok (.ireturn, 1) := by decide +kernel
end
section
/-! the rows of calls, for this claim's lists of words and rooms -/
theorem am_fl {κ : am_K} {c0 : Cond} {tw : List Cond} {r : String × ByteArray × Nat × Option FieldType × String × List ExceptionTableEntry × Room × Option (Nat × (Nat → Int32))} {ci k N : Nat} {C : String} {T : u_T} (h : ∀ w ∈ u_ws C T N, w ∈ tw) (hc : (am_cl κ)[ci]? = some (C, T, N)) (hk : k < N) : am_fld κ (c0 :: tw, r) ci k C T N :=
  ⟨fun w z => List.mem_cons_of_mem _ (h w z), hc, hk⟩
theorem am_gd {c0 : Cond} {ws : List Cond} (h : ∀ w ∈ ws, w ∈ am_tw) : GoodIn (c0 :: am_tw) ws := fun w hw => ⟨List.mem_cons_of_mem _ (h w hw), good_of_word (List.mem_filter.mp (h w hw)).2⟩
theorem am_gdC {c0 c1 : Cond} (h : c1 ∈ am_tw) : GoodIn (c0 :: am_tw) (c1 :: am_tw) := am_gd (fun w hw => (List.mem_cons.mp hw).elim (fun e => e ▸ h) (fun z => z))
theorem c_Vr {κ : am_K} {c0 : Cond} {own : String} {cc : ByteArray} {nL : Nat} {rt : Option FieldType} {nm : String} {tb : List ExceptionTableEntry} {X : Option (Nat × (Nat → Int32))} {o o1 : am_O} {b a pc n idx ci q0 N maxL : Nat} {h1 h h2 : List am_E} {ls : List (Nat × Value)} {stk st' : List Value} {v : Option Value} {y : MethodName} {bytes : ByteArray} {ret : Option FieldType} {T : u_T} {fs : List Value}
    (as st : List Value) (d : decode cc pc = .ok (.invokevirtual idx, 3)) (en : pc + 3 = n) (hM : am_M κ y (.code y bytes maxL ret :: am_tw) (am_rm a (.inl v)) (.ref q0 :: as) h (.inl v) h2)
    (w1 : Cond.methodLink own idx y ∈ am_tw) (w2 : Cond.instanceMethod y ∈ am_tw) (w3 : Cond.selects y.cls y y ∈ am_tw) (w4 : Cond.initialized y.cls ∈ am_tw) (w5 : Cond.code y bytes maxL ret ∈ am_tw)
    (hd : y.cls ≠ "java/lang/invoke/MethodHandle" ∧ y.cls ≠ "java/lang/invoke/VarHandle" ∧ (parseMethodDescriptor y.desc).map (fun d => d.parameters.length) = some as.length) (hab : a < b) (hm : maxL ≤ 45)
    (hcl : (am_cl κ)[ci]? = some (y.cls, T, N)) (he : h[q0]? = some (.inr (ci, fs))) (hst : stk = as.reverse ++ .ref q0 :: st) (hcat : (st.map fun v => v.category).sum ≤ 8) (hl : h2.length = h.length) (hv : v.toList ++ st = st')
    (kr : am_G κ (c0 :: am_tw, own, cc, nL, rt, nm, tb, am_rm b o, X) o1 h1 0 0 n ls st' h2) : am_G κ (c0 :: am_tw, own, cc, nL, rt, nm, tb, am_rm b o, X) o1 h1 0 0 pc ls stk h := by
  subst hv
  refine g_callV as st d en hM (am_gd (fun w hw => ?_)) rfl ⟨rfl, hd⟩ (am_rmR hab hm) ⟨Nat.zero_le _, Nat.zero_le _⟩ hcl he hst hcat hl kr
  rcases List.mem_append.mp hw with z | z
  · simp only [List.mem_cons, List.not_mem_nil, or_false] at z
    rcases z with rfl | rfl | rfl | rfl <;> assumption
  · exact (List.mem_cons.mp z).elim (fun e => e ▸ w5) (fun z => z)
theorem c_VNr {κ : am_K} {c0 : Cond} {own host : String} {cc : ByteArray} {nL : Nat} {rt : Option FieldType} {nm : String} {tb : List ExceptionTableEntry} {X : Option (Nat × (Nat → Int32))} {o o1 : am_O} {b a pc n idx ci q0 N maxL : Nat} {h1 h h2 : List am_E} {ls : List (Nat × Value)} {stk st' : List Value} {v : Option Value} {y : MethodName} {bytes : ByteArray} {ret : Option FieldType} {T : u_T} {fs : List Value}
    (as st : List Value) (d : decode cc pc = .ok (.invokevirtual idx, 3)) (en : pc + 3 = n) (hM : am_M κ y (.code y bytes maxL ret :: am_tw) (am_rm a (.inl v)) (.ref q0 :: as) h (.inl v) h2)
    (w1 : Cond.methodLinkNest own idx y host ∈ am_NW κ) (w2 : Cond.instanceMethod y ∈ am_tw) (w3 : Cond.selects y.cls y y ∈ am_tw) (w4 : Cond.initialized y.cls ∈ am_tw) (w5 : Cond.code y bytes maxL ret ∈ am_tw)
    (hd : y.cls ≠ "java/lang/invoke/MethodHandle" ∧ y.cls ≠ "java/lang/invoke/VarHandle" ∧ (parseMethodDescriptor y.desc).map (fun d => d.parameters.length) = some as.length) (hab : a < b) (hm : maxL ≤ 45)
    (hcl : (am_cl κ)[ci]? = some (y.cls, T, N)) (he : h[q0]? = some (.inr (ci, fs))) (hst : stk = as.reverse ++ .ref q0 :: st) (hcat : (st.map fun v => v.category).sum ≤ 8) (hl : h2.length = h.length) (hv : v.toList ++ st = st')
    (kr : am_G κ (c0 :: am_tw, own, cc, nL, rt, nm, tb, am_rm b o, X) o1 h1 0 0 n ls st' h2) : am_G κ (c0 :: am_tw, own, cc, nL, rt, nm, tb, am_rm b o, X) o1 h1 0 0 pc ls stk h := by
  subst hv
  exact g_callVN as st d en hM (am_gdC w5) rfl w1 (List.mem_cons_of_mem _ w4) (List.mem_cons_of_mem _ w2) (List.mem_cons_of_mem _ w3) hd (am_rmR hab hm) ⟨Nat.zero_le _, Nat.zero_le _⟩ hcl he hst hcat hl kr
theorem c_Sr {κ : am_K} {c0 : Cond} {own : String} {cc : ByteArray} {nL : Nat} {rt : Option FieldType} {nm : String} {tb : List ExceptionTableEntry} {X : Option (Nat × (Nat → Int32))} {o o1 : am_O} {b a pc n idx maxL : Nat} {h1 h h2 : List am_E} {ls : List (Nat × Value)} {stk st' : List Value} {v : Option Value} {y : MethodName} {bytes : ByteArray} {ret : Option FieldType}
    (as st : List Value) (d : decode cc pc = .ok (.invokestatic idx, 3)) (en : pc + 3 = n) (hM : am_M κ y (.code y bytes maxL ret :: am_tw) (am_rm a (.inl v)) as h (.inl v) h2)
    (w1 : Cond.methodLink own idx y ∈ am_tw) (w2 : Cond.static y ∈ am_tw) (w4 : Cond.initialized y.cls ∈ am_tw) (w5 : Cond.code y bytes maxL ret ∈ am_tw) (hy : y.cls = own)
    (hd : y.cls ≠ "java/lang/invoke/MethodHandle" ∧ y.cls ≠ "java/lang/invoke/VarHandle" ∧ (parseMethodDescriptor y.desc).map (fun d => d.parameters.length) = some as.length) (hab : a < b) (hm : maxL ≤ 45)
    (hst : stk = as.reverse ++ st) (hcat : (st.map fun v => v.category).sum ≤ 8) (hl : h2.length = h.length) (hv : v.toList ++ st = st')
    (kr : am_G κ (c0 :: am_tw, own, cc, nL, rt, nm, tb, am_rm b o, X) o1 h1 0 0 n ls st' h2) : am_G κ (c0 :: am_tw, own, cc, nL, rt, nm, tb, am_rm b o, X) o1 h1 0 0 pc ls stk h := by
  subst hv
  refine g_callS as st d en hM (am_gd (fun w hw => ?_)) rfl ⟨hy, hd⟩ (am_rmR hab hm) ⟨Nat.zero_le _, Nat.zero_le _⟩ hst hcat hl kr
  rcases List.mem_append.mp hw with z | z
  · simp only [List.mem_cons, List.not_mem_nil, or_false] at z
    rcases z with rfl | rfl | rfl
    · exact w1
    · exact w2
    · have e : Cond.initialized y.cls = Cond.initialized own := by rw [hy]
      exact e ▸ w4
  · exact (List.mem_cons.mp z).elim (fun e => e ▸ w5) (fun z => z)
theorem c_SNr {κ : am_K} {c0 : Cond} {own host : String} {cc : ByteArray} {nL : Nat} {rt : Option FieldType} {nm : String} {tb : List ExceptionTableEntry} {X : Option (Nat × (Nat → Int32))} {o o1 : am_O} {b a pc n idx maxL : Nat} {h1 h h2 : List am_E} {ls : List (Nat × Value)} {stk st' : List Value} {v : Option Value} {y : MethodName} {bytes : ByteArray} {ret : Option FieldType}
    (as st : List Value) (d : decode cc pc = .ok (.invokestatic idx, 3)) (en : pc + 3 = n) (hM : am_M κ y (.code y bytes maxL ret :: am_tw) (am_rm a (.inl v)) as h (.inl v) h2)
    (w1 : Cond.methodLinkNest own idx y host ∈ am_NW κ) (w2 : Cond.static y ∈ am_tw) (w4 : Cond.initialized y.cls ∈ am_tw) (w5 : Cond.code y bytes maxL ret ∈ am_tw)
    (hd : y.cls ≠ "java/lang/invoke/MethodHandle" ∧ y.cls ≠ "java/lang/invoke/VarHandle" ∧ (parseMethodDescriptor y.desc).map (fun d => d.parameters.length) = some as.length) (hab : a < b) (hm : maxL ≤ 45)
    (hst : stk = as.reverse ++ st) (hcat : (st.map fun v => v.category).sum ≤ 8) (hl : h2.length = h.length) (hv : v.toList ++ st = st')
    (kr : am_G κ (c0 :: am_tw, own, cc, nL, rt, nm, tb, am_rm b o, X) o1 h1 0 0 n ls st' h2) : am_G κ (c0 :: am_tw, own, cc, nL, rt, nm, tb, am_rm b o, X) o1 h1 0 0 pc ls stk h := by
  subst hv
  exact g_callSN as st d en hM (am_gdC w5) rfl w1 (List.mem_cons_of_mem _ w4) (List.mem_cons_of_mem _ w2) hd (am_rmR hab hm) ⟨Nat.zero_le _, Nat.zero_le _⟩ hst hcat hl kr
end
section
abbrev am_WS : Type := Int32 × Int32 × Int32 × (Nat → Int32) × (Nat → Int32) × Int32 × Int32 × Int32 × Int32 × (Nat → Int32)
def hC (ll : Int32) (he : Int32) (de : Int32) (li : Nat → Int32) (en : Nat → Int32) (po : Nat → Int32) (pw : Int32) (su : Int32) (wr : Int32) (cs : Int32) (wb : Int32) (bt : Nat → Int32) (ct : Int32) (lc : Int32) (ad : Nat → Int32) (ctb : Int32) (lcb : Int32) (adb : Nat → Int32) (fx : Int32) (us : Nat → Int32) (ln : Int32) (pt : Int32) (tx : Nat → Int32) (br : Nat → Int32) (rw : Nat → Int32) (rest : List am_E) : List am_E :=
  (.inr (6, [.ref 1, .ref 5, .ref 7, .ref 8, .ref 10, .ref 12, .ref 14, .ref 17])) :: (.inr (4, [.ref 2, .ref 3, .ref 4, .int ll, .int he, .int de])) :: (.inl (.char, 26, .inl li)) :: (.inl (.int, 4, .inl en)) :: (.inl (.int, 4, .inl po)) :: (.inr (0, [.ref 6, .ref 1, .int pw, .int su, .int wr, .int cs, .int wb])) :: (.inl (.int, 2240, .inl bt)) :: (.inr (5, [.ref 5])) :: (.inr (1, [.ref 5, .ref 7, .ref 9, .int ct, .int lc])) :: (.inl (.int, 128, .inl ad)) :: (.inr (1, [.ref 5, .ref 7, .ref 11, .int ctb, .int lcb])) :: (.inl (.int, 128, .inl adb)) :: (.inr (3, [.ref 5, .ref 7, .ref 8, .ref 13, .int fx])) :: (.inl (.boolean, 64, .inl us)) :: (.inr (2, [.ref 15, .ref 16, .int ln, .int pt])) :: (.inl (.char, 26, .inl tx)) :: (.inl (.int, 6, .inl br)) :: (.inl (.int, 16, .inl rw)) :: rest
end
section
def f_V_isOnDisk (x0 : Int32) (x1 : Int32) : Option (Int32) :=
  (if x0 < 0 then some 0 else (if 70 ≤ x0 then some 0 else (if x1 < 0 then some 0 else (if 32 ≤ x1 then some 0 else some 1))))
set_option maxHeartbeats 4000000 in
set_option maxRecDepth 100000 in
theorem s_V_isOnDisk {l : Launch} {D : va_G} {dA : FieldType → ClassId} (htr : l.stackTraces = false) {rest : List am_E} {ll : Int32} {he : Int32} {de : Int32} {li : Nat → Int32} {en : Nat → Int32} {po : Nat → Int32} {pw : Int32} {su : Int32} {wr : Int32} {cs : Int32} {wb : Int32} {bt : Nat → Int32} {ct : Int32} {lc : Int32} {ad : Nat → Int32} {ctb : Int32} {lcb : Int32} {adb : Nat → Int32} {fx : Int32} {us : Nat → Int32} {ln : Int32} {pt : Int32} {tx : Nat → Int32} {br : Nat → Int32} {rw : Nat → Int32}  {x0 : Int32} {x1 : Int32} {r : Int32} (hf : f_V_isOnDisk x0 x1 = some r) {o : am_O} (ho : .inl (some (.int r)) = o) :
    am_M (am_kk l D dA) y_V_isOnDisk ws_V_isOnDisk (am_rm 0 o) [.int x0, .int x1] (hC ll he de li en po pw su wr cs wb bt ct lc ad ctb lcb adb fx us ln pt tx br rw rest) o (hC ll he de li en po pw su wr cs wb bt ct lc ad ctb lcb adb fx us ln pt tx br rw rest) := by
  subst ho
  refine am_body (by decide) rfl (Nat.le_of_ble_eq_true rfl) rfl ?_
  rw [f_V_isOnDisk] at hf
  refine g_iload_n (n := 1) d_V_isOnDisk_0 rfl 0 rfl rfl ?_
  refine g_if_lt (n := 4) (tgt := 24) d_V_isOnDisk_1 rfl (by decide) (fun q1 => ?_) (fun q1 => ?_)
  · have hf := ob_pos q1 hf
    refine g_iconst (n := 25) (v := 0) d_V_isOnDisk_24 rfl (by decide) ?_
    cases hf
    exact g_zret d_V_isOnDisk_25 rfl (by decide) (Nat.zero_le _) (Nat.zero_le _)
  · have hf := ob_neg q1 hf
    refine g_iload_n (n := 5) d_V_isOnDisk_4 rfl 0 rfl rfl ?_
    refine g_bipush (n := 7) (v := 70) d_V_isOnDisk_5 rfl (by decide) ?_
    refine g_icmp_ge (n := 10) (tgt := 24) d_V_isOnDisk_7 rfl (by decide) (fun q2 => ?_) (fun q2 => ?_)
    · have hf := ob_pos q2 hf
      refine g_iconst (n := 25) (v := 0) d_V_isOnDisk_24 rfl (by decide) ?_
      cases hf
      exact g_zret d_V_isOnDisk_25 rfl (by decide) (Nat.zero_le _) (Nat.zero_le _)
    · have hf := ob_neg q2 hf
      refine g_iload_n (n := 11) d_V_isOnDisk_10 rfl 1 rfl rfl ?_
      refine g_if_lt (n := 14) (tgt := 24) d_V_isOnDisk_11 rfl (by decide) (fun q3 => ?_) (fun q3 => ?_)
      · have hf := ob_pos q3 hf
        refine g_iconst (n := 25) (v := 0) d_V_isOnDisk_24 rfl (by decide) ?_
        cases hf
        exact g_zret d_V_isOnDisk_25 rfl (by decide) (Nat.zero_le _) (Nat.zero_le _)
      · have hf := ob_neg q3 hf
        refine g_iload_n (n := 15) d_V_isOnDisk_14 rfl 1 rfl rfl ?_
        refine g_bipush (n := 17) (v := 32) d_V_isOnDisk_15 rfl (by decide) ?_
        refine g_icmp_ge (n := 20) (tgt := 24) d_V_isOnDisk_17 rfl (by decide) (fun q4 => ?_) (fun q4 => ?_)
        · have hf := ob_pos q4 hf
          refine g_iconst (n := 25) (v := 0) d_V_isOnDisk_24 rfl (by decide) ?_
          cases hf
          exact g_zret d_V_isOnDisk_25 rfl (by decide) (Nat.zero_le _) (Nat.zero_le _)
        · have hf := ob_neg q4 hf
          refine g_iconst (n := 21) (v := 1) d_V_isOnDisk_20 rfl (by decide) ?_
          refine g_goto (n := 25) d_V_isOnDisk_21 (by decide) ?_
          cases hf
          exact g_zret d_V_isOnDisk_25 rfl (by decide) (Nat.zero_le _) (Nat.zero_le _)
def f_Disk_at (bt : Nat → Int32) (x1 : Int32) : Option (Int32) :=
  (if x1 < 0 then some 0 else (if 2240 ≤ x1 then some 0 else (if am_in x1 2240 = true then some (bt x1.toNatClampNeg) else none)))
set_option maxHeartbeats 4000000 in
set_option maxRecDepth 100000 in
theorem s_Disk_at {l : Launch} {D : va_G} {dA : FieldType → ClassId} (htr : l.stackTraces = false) {rest : List am_E} {ll : Int32} {he : Int32} {de : Int32} {li : Nat → Int32} {en : Nat → Int32} {po : Nat → Int32} {pw : Int32} {su : Int32} {wr : Int32} {cs : Int32} {wb : Int32} {bt : Nat → Int32} {ct : Int32} {lc : Int32} {ad : Nat → Int32} {ctb : Int32} {lcb : Int32} {adb : Nat → Int32} {fx : Int32} {us : Nat → Int32} {ln : Int32} {pt : Int32} {tx : Nat → Int32} {br : Nat → Int32} {rw : Nat → Int32}  {x1 : Int32} {r : Int32} (hf : f_Disk_at bt x1 = some r) {o : am_O} (ho : .inl (some (.int r)) = o) :
    am_M (am_kk l D dA) y_Disk_at ws_Disk_at (am_rm 0 o) [.ref 5, .int x1] (hC ll he de li en po pw su wr cs wb bt ct lc ad ctb lcb adb fx us ln pt tx br rw rest) o (hC ll he de li en po pw su wr cs wb bt ct lc ad ctb lcb adb fx us ln pt tx br rw rest) := by
  subst ho
  refine am_body (by decide) rfl (Nat.le_of_ble_eq_true rfl) rfl ?_
  rw [f_Disk_at] at hf
  refine g_iload_n (n := 1) d_Disk_at_0 rfl 1 rfl rfl ?_
  refine g_if_lt (n := 4) (tgt := 22) d_Disk_at_1 rfl (by decide) (fun q1 => ?_) (fun q1 => ?_)
  · have hf := ob_pos q1 hf
    refine g_iconst (n := 23) (v := 0) d_Disk_at_22 rfl (by decide) ?_
    cases hf
    exact g_iret d_Disk_at_23 rfl (Nat.zero_le _) (Nat.zero_le _)
  · have hf := ob_neg q1 hf
    refine g_iload_n (n := 5) d_Disk_at_4 rfl 1 rfl rfl ?_
    refine g_aload_n (n := 6) d_Disk_at_5 rfl 0 rfl rfl ?_
    refine g_get (n := 9) (q0 := 5) d_Disk_at_6 rfl (am_fl in_Disk rfl (by decide : 0 < 7)) (List.mem_cons_of_mem _ tw_69) rfl rfl ?_
    refine g_ialen (n := 10) (q0 := 6) (v := 2240) d_Disk_at_9 rfl rfl (by decide) ?_
    refine g_icmp_ge (n := 13) (tgt := 22) d_Disk_at_10 rfl (by decide) (fun q2 => ?_) (fun q2 => ?_)
    · have hf := ob_pos q2 hf
      refine g_iconst (n := 23) (v := 0) d_Disk_at_22 rfl (by decide) ?_
      cases hf
      exact g_iret d_Disk_at_23 rfl (Nat.zero_le _) (Nat.zero_le _)
    · have hf := ob_neg q2 hf
      refine g_aload_n (n := 14) d_Disk_at_13 rfl 0 rfl rfl ?_
      refine g_get (n := 17) (q0 := 5) d_Disk_at_14 rfl (am_fl in_Disk rfl (by decide : 0 < 7)) (List.mem_cons_of_mem _ tw_69) rfl rfl ?_
      refine g_iload_n (n := 18) d_Disk_at_17 rfl 1 rfl rfl ?_
      obtain ⟨b3, hf⟩ := ob_chk hf
      refine g_iald (n := 19) (q0 := 6) d_Disk_at_18 rfl rfl (am_inl b3) ?_
      refine g_goto (n := 23) d_Disk_at_19 (by decide) ?_
      cases hf
      exact g_iret d_Disk_at_23 rfl (Nat.zero_le _) (Nat.zero_le _)
def f_V_octet (bt : Nat → Int32) (x1 : Int32) (x2 : Int32) : Option (Int32) :=
  ((f_V_isOnDisk x1 x2).bind fun r1 => (if r1 = 0 then some (-1) else ((f_Disk_at bt ((x1 * 32) + x2)).bind fun r4 => some r4)))
set_option maxHeartbeats 4000000 in
set_option maxRecDepth 100000 in
theorem s_V_octet {l : Launch} {D : va_G} {dA : FieldType → ClassId} (htr : l.stackTraces = false) {rest : List am_E} {ll : Int32} {he : Int32} {de : Int32} {li : Nat → Int32} {en : Nat → Int32} {po : Nat → Int32} {pw : Int32} {su : Int32} {wr : Int32} {cs : Int32} {wb : Int32} {bt : Nat → Int32} {ct : Int32} {lc : Int32} {ad : Nat → Int32} {ctb : Int32} {lcb : Int32} {adb : Nat → Int32} {fx : Int32} {us : Nat → Int32} {ln : Int32} {pt : Int32} {tx : Nat → Int32} {br : Nat → Int32} {rw : Nat → Int32}  {x1 : Int32} {x2 : Int32} {r : Int32} (hf : f_V_octet bt x1 x2 = some r) {o : am_O} (ho : .inl (some (.int r)) = o) :
    am_M (am_kk l D dA) y_V_octet ws_V_octet (am_rm 1 o) [.ref 0, .int x1, .int x2] (hC ll he de li en po pw su wr cs wb bt ct lc ad ctb lcb adb fx us ln pt tx br rw rest) o (hC ll he de li en po pw su wr cs wb bt ct lc ad ctb lcb adb fx us ln pt tx br rw rest) := by
  subst ho
  refine am_body (by decide) rfl (Nat.le_of_ble_eq_true rfl) rfl ?_
  rw [f_V_octet] at hf
  refine g_iload_n (n := 1) d_V_octet_0 rfl 1 rfl rfl ?_
  refine g_iload_n (n := 2) d_V_octet_1 rfl 2 rfl rfl ?_
  obtain ⟨r1, h2, hf⟩ := ob_bind hf
  refine c_Sr (n := 5) (st' := [.int r1]) [.int x1, .int x2] [] d_V_octet_2 rfl (s_V_isOnDisk htr h2 rfl) tw_258 tw_259 tw_1 tw_260 rfl hd_V_isOnDisk (by omega) (by decide) rfl (Nat.le_of_ble_eq_true rfl) rfl rfl ?_
  refine g_if_eq (n := 8) (tgt := 24) d_V_octet_5 rfl (by decide) (fun q3 => ?_) (fun q3 => ?_)
  · have hf := ob_pos q3 hf
    refine g_iconst (n := 25) (v := (-1)) d_V_octet_24 rfl (by decide) ?_
    cases hf
    exact g_iret d_V_octet_25 rfl (Nat.zero_le _) (Nat.zero_le _)
  · have hf := ob_neg q3 hf
    refine g_aload_n (n := 9) d_V_octet_8 rfl 0 rfl rfl ?_
    refine g_get (n := 12) (q0 := 0) d_V_octet_9 rfl (am_fl in_V rfl (by decide : 1 < 8)) (List.mem_cons_of_mem _ tw_174) rfl rfl ?_
    refine g_iload_n (n := 13) d_V_octet_12 rfl 1 rfl rfl ?_
    refine g_bipush (n := 15) (v := 32) d_V_octet_13 rfl (by decide) ?_
    refine g_imul (n := 16) d_V_octet_15 rfl ?_
    refine g_iload_n (n := 17) d_V_octet_16 rfl 2 rfl rfl ?_
    refine g_iadd (n := 18) d_V_octet_17 rfl ?_
    obtain ⟨r4, h5, hf⟩ := ob_bind hf
    refine c_Vr (n := 21) (st' := [.int r4]) [.int ((x1 * 32) + x2)] [] d_V_octet_18 rfl (s_Disk_at htr h5 rfl) tw_261 tw_262 tw_263 tw_3 tw_264 hd_Disk_at (by omega) (by decide) (ci := 0) rfl rfl rfl (Nat.le_of_ble_eq_true rfl) rfl rfl ?_
    refine g_goto (n := 25) d_V_octet_21 (by decide) ?_
    cases hf
    exact g_iret d_V_octet_25 rfl (Nat.zero_le _) (Nat.zero_le _)
def f_Ses_isOpen (en : Nat → Int32) (x1 : Int32) : Option (Int32) :=
  (if x1 < 0 then some 0 else (if 4 ≤ x1 then some 0 else (if am_in x1 4 = true then (if (en x1.toNatClampNeg) = (-1) then some 0 else some 1) else none)))
set_option maxHeartbeats 4000000 in
set_option maxRecDepth 100000 in
theorem s_Ses_isOpen {l : Launch} {D : va_G} {dA : FieldType → ClassId} (htr : l.stackTraces = false) {rest : List am_E} {ll : Int32} {he : Int32} {de : Int32} {li : Nat → Int32} {en : Nat → Int32} {po : Nat → Int32} {pw : Int32} {su : Int32} {wr : Int32} {cs : Int32} {wb : Int32} {bt : Nat → Int32} {ct : Int32} {lc : Int32} {ad : Nat → Int32} {ctb : Int32} {lcb : Int32} {adb : Nat → Int32} {fx : Int32} {us : Nat → Int32} {ln : Int32} {pt : Int32} {tx : Nat → Int32} {br : Nat → Int32} {rw : Nat → Int32}  {x1 : Int32} {r : Int32} (hf : f_Ses_isOpen en x1 = some r) {o : am_O} (ho : .inl (some (.int r)) = o) :
    am_M (am_kk l D dA) y_Ses_isOpen ws_Ses_isOpen (am_rm 0 o) [.ref 1, .int x1] (hC ll he de li en po pw su wr cs wb bt ct lc ad ctb lcb adb fx us ln pt tx br rw rest) o (hC ll he de li en po pw su wr cs wb bt ct lc ad ctb lcb adb fx us ln pt tx br rw rest) := by
  subst ho
  refine am_body (by decide) rfl (Nat.le_of_ble_eq_true rfl) rfl ?_
  rw [f_Ses_isOpen] at hf
  refine g_iload_n (n := 1) d_Ses_isOpen_0 rfl 1 rfl rfl ?_
  refine g_if_lt (n := 4) (tgt := 23) d_Ses_isOpen_1 rfl (by decide) (fun q1 => ?_) (fun q1 => ?_)
  · have hf := ob_pos q1 hf
    refine g_iconst (n := 24) (v := 0) d_Ses_isOpen_23 rfl (by decide) ?_
    cases hf
    exact g_zret d_Ses_isOpen_24 rfl (by decide) (Nat.zero_le _) (Nat.zero_le _)
  · have hf := ob_neg q1 hf
    refine g_iload_n (n := 5) d_Ses_isOpen_4 rfl 1 rfl rfl ?_
    refine g_iconst (n := 6) (v := 4) d_Ses_isOpen_5 rfl (by decide) ?_
    refine g_icmp_ge (n := 9) (tgt := 23) d_Ses_isOpen_6 rfl (by decide) (fun q2 => ?_) (fun q2 => ?_)
    · have hf := ob_pos q2 hf
      refine g_iconst (n := 24) (v := 0) d_Ses_isOpen_23 rfl (by decide) ?_
      cases hf
      exact g_zret d_Ses_isOpen_24 rfl (by decide) (Nat.zero_le _) (Nat.zero_le _)
    · have hf := ob_neg q2 hf
      refine g_aload_n (n := 10) d_Ses_isOpen_9 rfl 0 rfl rfl ?_
      refine g_get (n := 13) (q0 := 1) d_Ses_isOpen_10 rfl (am_fl in_Ses rfl (by decide : 1 < 6)) (List.mem_cons_of_mem _ tw_38) rfl rfl ?_
      refine g_iload_n (n := 14) d_Ses_isOpen_13 rfl 1 rfl rfl ?_
      obtain ⟨b3, hf⟩ := ob_chk hf
      refine g_iald (n := 15) (q0 := 3) d_Ses_isOpen_14 rfl rfl (am_inl b3) ?_
      refine g_iconst (n := 16) (v := (-1)) d_Ses_isOpen_15 rfl (by decide) ?_
      refine g_icmp_eq (n := 19) (tgt := 23) d_Ses_isOpen_16 rfl (by decide) (fun q4 => ?_) (fun q4 => ?_)
      · have hf := ob_pos q4 hf
        refine g_iconst (n := 24) (v := 0) d_Ses_isOpen_23 rfl (by decide) ?_
        cases hf
        exact g_zret d_Ses_isOpen_24 rfl (by decide) (Nat.zero_le _) (Nat.zero_le _)
      · have hf := ob_neg q4 hf
        refine g_iconst (n := 20) (v := 1) d_Ses_isOpen_19 rfl (by decide) ?_
        refine g_goto (n := 24) d_Ses_isOpen_20 (by decide) ?_
        cases hf
        exact g_zret d_Ses_isOpen_24 rfl (by decide) (Nat.zero_le _) (Nat.zero_le _)
def f_Ses_positionOf (po : Nat → Int32) (x1 : Int32) : Option (Int32) :=
  (if x1 < 0 then some 0 else (if 4 ≤ x1 then some 0 else (if am_in x1 4 = true then some (po x1.toNatClampNeg) else none)))
set_option maxHeartbeats 4000000 in
set_option maxRecDepth 100000 in
theorem s_Ses_positionOf {l : Launch} {D : va_G} {dA : FieldType → ClassId} (htr : l.stackTraces = false) {rest : List am_E} {ll : Int32} {he : Int32} {de : Int32} {li : Nat → Int32} {en : Nat → Int32} {po : Nat → Int32} {pw : Int32} {su : Int32} {wr : Int32} {cs : Int32} {wb : Int32} {bt : Nat → Int32} {ct : Int32} {lc : Int32} {ad : Nat → Int32} {ctb : Int32} {lcb : Int32} {adb : Nat → Int32} {fx : Int32} {us : Nat → Int32} {ln : Int32} {pt : Int32} {tx : Nat → Int32} {br : Nat → Int32} {rw : Nat → Int32}  {x1 : Int32} {r : Int32} (hf : f_Ses_positionOf po x1 = some r) {o : am_O} (ho : .inl (some (.int r)) = o) :
    am_M (am_kk l D dA) y_Ses_positionOf ws_Ses_positionOf (am_rm 0 o) [.ref 1, .int x1] (hC ll he de li en po pw su wr cs wb bt ct lc ad ctb lcb adb fx us ln pt tx br rw rest) o (hC ll he de li en po pw su wr cs wb bt ct lc ad ctb lcb adb fx us ln pt tx br rw rest) := by
  subst ho
  refine am_body (by decide) rfl (Nat.le_of_ble_eq_true rfl) rfl ?_
  rw [f_Ses_positionOf] at hf
  refine g_iload_n (n := 1) d_Ses_positionOf_0 rfl 1 rfl rfl ?_
  refine g_if_lt (n := 4) (tgt := 18) d_Ses_positionOf_1 rfl (by decide) (fun q1 => ?_) (fun q1 => ?_)
  · have hf := ob_pos q1 hf
    refine g_iconst (n := 19) (v := 0) d_Ses_positionOf_18 rfl (by decide) ?_
    cases hf
    exact g_iret d_Ses_positionOf_19 rfl (Nat.zero_le _) (Nat.zero_le _)
  · have hf := ob_neg q1 hf
    refine g_iload_n (n := 5) d_Ses_positionOf_4 rfl 1 rfl rfl ?_
    refine g_iconst (n := 6) (v := 4) d_Ses_positionOf_5 rfl (by decide) ?_
    refine g_icmp_ge (n := 9) (tgt := 18) d_Ses_positionOf_6 rfl (by decide) (fun q2 => ?_) (fun q2 => ?_)
    · have hf := ob_pos q2 hf
      refine g_iconst (n := 19) (v := 0) d_Ses_positionOf_18 rfl (by decide) ?_
      cases hf
      exact g_iret d_Ses_positionOf_19 rfl (Nat.zero_le _) (Nat.zero_le _)
    · have hf := ob_neg q2 hf
      refine g_aload_n (n := 10) d_Ses_positionOf_9 rfl 0 rfl rfl ?_
      refine g_get (n := 13) (q0 := 1) d_Ses_positionOf_10 rfl (am_fl in_Ses rfl (by decide : 2 < 6)) (List.mem_cons_of_mem _ tw_39) rfl rfl ?_
      refine g_iload_n (n := 14) d_Ses_positionOf_13 rfl 1 rfl rfl ?_
      obtain ⟨b3, hf⟩ := ob_chk hf
      refine g_iald (n := 15) (q0 := 4) d_Ses_positionOf_14 rfl rfl (am_inl b3) ?_
      refine g_goto (n := 19) d_Ses_positionOf_15 (by decide) ?_
      cases hf
      exact g_iret d_Ses_positionOf_19 rfl (Nat.zero_le _) (Nat.zero_le _)
def f_Disk_pairAt (bt : Nat → Int32) (x1 : Int32) : Option (Int32) :=
  (if x1 < 0 then some 0 else (if (2240 - 1) ≤ x1 then some 0 else (if am_in x1 2240 = true then (if am_in (x1 + 1) 2240 = true then some ((bt x1.toNatClampNeg) + (256 * (bt (x1 + 1).toNatClampNeg))) else none) else none)))
set_option maxHeartbeats 4000000 in
set_option maxRecDepth 100000 in
theorem s_Disk_pairAt {l : Launch} {D : va_G} {dA : FieldType → ClassId} (htr : l.stackTraces = false) {rest : List am_E} {ll : Int32} {he : Int32} {de : Int32} {li : Nat → Int32} {en : Nat → Int32} {po : Nat → Int32} {pw : Int32} {su : Int32} {wr : Int32} {cs : Int32} {wb : Int32} {bt : Nat → Int32} {ct : Int32} {lc : Int32} {ad : Nat → Int32} {ctb : Int32} {lcb : Int32} {adb : Nat → Int32} {fx : Int32} {us : Nat → Int32} {ln : Int32} {pt : Int32} {tx : Nat → Int32} {br : Nat → Int32} {rw : Nat → Int32}  {x1 : Int32} {r : Int32} (hf : f_Disk_pairAt bt x1 = some r) {o : am_O} (ho : .inl (some (.int r)) = o) :
    am_M (am_kk l D dA) y_Disk_pairAt ws_Disk_pairAt (am_rm 0 o) [.ref 5, .int x1] (hC ll he de li en po pw su wr cs wb bt ct lc ad ctb lcb adb fx us ln pt tx br rw rest) o (hC ll he de li en po pw su wr cs wb bt ct lc ad ctb lcb adb fx us ln pt tx br rw rest) := by
  subst ho
  refine am_body (by decide) rfl (Nat.le_of_ble_eq_true rfl) rfl ?_
  rw [f_Disk_pairAt] at hf
  refine g_iload_n (n := 1) d_Disk_pairAt_0 rfl 1 rfl rfl ?_
  refine g_if_lt (n := 4) (tgt := 19) d_Disk_pairAt_1 rfl (by decide) (fun q1 => ?_) (fun q1 => ?_)
  · have hf := ob_pos q1 hf
    refine g_iconst (n := 20) (v := 0) d_Disk_pairAt_19 rfl (by decide) ?_
    refine g_istore_n (n := 21) (ls' := [(2, .int 0), (0, .ref 5), (1, .int x1)]) d_Disk_pairAt_20 rfl rfl (am_ltb rfl) rfl ?_
    refine g_iload_n (n := 22) d_Disk_pairAt_21 rfl 0 rfl rfl ?_
    refine g_if_eq (n := 25) (tgt := 47) d_Disk_pairAt_22 rfl (by decide) (fun _ => ?_) (fun q2 => absurd q2 (by decide))
    refine g_iconst (n := 48) (v := 0) d_Disk_pairAt_47 rfl (by decide) ?_
    cases hf
    exact g_iret d_Disk_pairAt_48 rfl (Nat.zero_le _) (Nat.zero_le _)
  · have hf := ob_neg q1 hf
    refine g_iload_n (n := 5) d_Disk_pairAt_4 rfl 1 rfl rfl ?_
    refine g_aload_n (n := 6) d_Disk_pairAt_5 rfl 0 rfl rfl ?_
    refine g_get (n := 9) (q0 := 5) d_Disk_pairAt_6 rfl (am_fl in_Disk rfl (by decide : 0 < 7)) (List.mem_cons_of_mem _ tw_69) rfl rfl ?_
    refine g_ialen (n := 10) (q0 := 6) (v := 2240) d_Disk_pairAt_9 rfl rfl (by decide) ?_
    refine g_iconst (n := 11) (v := 1) d_Disk_pairAt_10 rfl (by decide) ?_
    refine g_isub (n := 12) d_Disk_pairAt_11 rfl ?_
    refine g_icmp_ge (n := 15) (tgt := 19) d_Disk_pairAt_12 rfl (by decide) (fun q3 => ?_) (fun q3 => ?_)
    · have hf := ob_pos q3 hf
      refine g_iconst (n := 20) (v := 0) d_Disk_pairAt_19 rfl (by decide) ?_
      refine g_istore_n (n := 21) (ls' := [(2, .int 0), (0, .ref 5), (1, .int x1)]) d_Disk_pairAt_20 rfl rfl (am_ltb rfl) rfl ?_
      refine g_iload_n (n := 22) d_Disk_pairAt_21 rfl 0 rfl rfl ?_
      refine g_if_eq (n := 25) (tgt := 47) d_Disk_pairAt_22 rfl (by decide) (fun _ => ?_) (fun q4 => absurd q4 (by decide))
      refine g_iconst (n := 48) (v := 0) d_Disk_pairAt_47 rfl (by decide) ?_
      cases hf
      exact g_iret d_Disk_pairAt_48 rfl (Nat.zero_le _) (Nat.zero_le _)
    · have hf := ob_neg q3 hf
      refine g_iconst (n := 16) (v := 1) d_Disk_pairAt_15 rfl (by decide) ?_
      refine g_goto (n := 20) d_Disk_pairAt_16 (by decide) ?_
      refine g_istore_n (n := 21) (ls' := [(2, .int 1), (0, .ref 5), (1, .int x1)]) d_Disk_pairAt_20 rfl rfl (am_ltb rfl) rfl ?_
      refine g_iload_n (n := 22) d_Disk_pairAt_21 rfl 0 rfl rfl ?_
      refine g_if_eq (n := 25) (tgt := 47) d_Disk_pairAt_22 rfl (by decide) (fun q5 => absurd q5 (by decide)) (fun _ => ?_)
      refine g_aload_n (n := 26) d_Disk_pairAt_25 rfl 1 rfl rfl ?_
      refine g_get (n := 29) (q0 := 5) d_Disk_pairAt_26 rfl (am_fl in_Disk rfl (by decide : 0 < 7)) (List.mem_cons_of_mem _ tw_69) rfl rfl ?_
      refine g_iload_n (n := 30) d_Disk_pairAt_29 rfl 2 rfl rfl ?_
      obtain ⟨b6, hf⟩ := ob_chk hf
      refine g_iald (n := 31) (q0 := 6) d_Disk_pairAt_30 rfl rfl (am_inl b6) ?_
      refine g_sipush (n := 34) (v := 256) d_Disk_pairAt_31 rfl (by decide) ?_
      refine g_aload_n (n := 35) d_Disk_pairAt_34 rfl 1 rfl rfl ?_
      refine g_get (n := 38) (q0 := 5) d_Disk_pairAt_35 rfl (am_fl in_Disk rfl (by decide : 0 < 7)) (List.mem_cons_of_mem _ tw_69) rfl rfl ?_
      refine g_iload_n (n := 39) d_Disk_pairAt_38 rfl 2 rfl rfl ?_
      refine g_iconst (n := 40) (v := 1) d_Disk_pairAt_39 rfl (by decide) ?_
      refine g_iadd (n := 41) d_Disk_pairAt_40 rfl ?_
      obtain ⟨b7, hf⟩ := ob_chk hf
      refine g_iald (n := 42) (q0 := 6) d_Disk_pairAt_41 rfl rfl (am_inl b7) ?_
      refine g_imul (n := 43) d_Disk_pairAt_42 rfl ?_
      refine g_iadd (n := 44) d_Disk_pairAt_43 rfl ?_
      refine g_goto (n := 48) d_Disk_pairAt_44 (by decide) ?_
      cases hf
      exact g_iret d_Disk_pairAt_48 rfl (Nat.zero_le _) (Nat.zero_le _)
def f_Table_cell (bt : Nat → Int32) (x1 : Int32) : Option (Int32) :=
  ((f_Disk_pairAt bt (2 * x1)).bind fun r1 => some r1)
set_option maxHeartbeats 4000000 in
set_option maxRecDepth 100000 in
theorem s_Table_cell {l : Launch} {D : va_G} {dA : FieldType → ClassId} (htr : l.stackTraces = false) {rest : List am_E} {ll : Int32} {he : Int32} {de : Int32} {li : Nat → Int32} {en : Nat → Int32} {po : Nat → Int32} {pw : Int32} {su : Int32} {wr : Int32} {cs : Int32} {wb : Int32} {bt : Nat → Int32} {ct : Int32} {lc : Int32} {ad : Nat → Int32} {ctb : Int32} {lcb : Int32} {adb : Nat → Int32} {fx : Int32} {us : Nat → Int32} {ln : Int32} {pt : Int32} {tx : Nat → Int32} {br : Nat → Int32} {rw : Nat → Int32}  {x1 : Int32} {r : Int32} (hf : f_Table_cell bt x1 = some r) {o : am_O} (ho : .inl (some (.int r)) = o) :
    am_M (am_kk l D dA) y_Table_cell ws_Table_cell (am_rm 1 o) [.ref 7, .int x1] (hC ll he de li en po pw su wr cs wb bt ct lc ad ctb lcb adb fx us ln pt tx br rw rest) o (hC ll he de li en po pw su wr cs wb bt ct lc ad ctb lcb adb fx us ln pt tx br rw rest) := by
  subst ho
  refine am_body (by decide) rfl (Nat.le_of_ble_eq_true rfl) rfl ?_
  rw [f_Table_cell] at hf
  refine g_aload_n (n := 1) d_Table_cell_0 rfl 0 rfl rfl ?_
  refine g_get (n := 4) (q0 := 7) d_Table_cell_1 rfl (am_fl in_Table rfl (by decide : 0 < 1)) (List.mem_cons_of_mem _ tw_99) rfl rfl ?_
  refine g_iconst (n := 5) (v := 2) d_Table_cell_4 rfl (by decide) ?_
  refine g_iload_n (n := 6) d_Table_cell_5 rfl 1 rfl rfl ?_
  refine g_imul (n := 7) d_Table_cell_6 rfl ?_
  obtain ⟨r1, h2, hf⟩ := ob_bind hf
  refine c_Vr (n := 10) (st' := [.int r1]) [.int (2 * x1)] [] d_Table_cell_7 rfl (s_Disk_pairAt htr h2 rfl) tw_290 tw_231 tw_232 tw_3 tw_233 hd_Disk_pairAt (by omega) (by decide) (ci := 0) rfl rfl rfl (Nat.le_of_ble_eq_true rfl) rfl rfl ?_
  cases hf
  exact g_iret d_Table_cell_10 rfl (Nat.zero_le _) (Nat.zero_le _)
def f_Table_isFree (bt : Nat → Int32) (x1 : Int32) : Option (Int32) :=
  ((f_Table_cell bt x1).bind fun r1 => (if r1 = 0 then some 1 else some 0))
set_option maxHeartbeats 4000000 in
set_option maxRecDepth 100000 in
theorem s_Table_isFree {l : Launch} {D : va_G} {dA : FieldType → ClassId} (htr : l.stackTraces = false) {rest : List am_E} {ll : Int32} {he : Int32} {de : Int32} {li : Nat → Int32} {en : Nat → Int32} {po : Nat → Int32} {pw : Int32} {su : Int32} {wr : Int32} {cs : Int32} {wb : Int32} {bt : Nat → Int32} {ct : Int32} {lc : Int32} {ad : Nat → Int32} {ctb : Int32} {lcb : Int32} {adb : Nat → Int32} {fx : Int32} {us : Nat → Int32} {ln : Int32} {pt : Int32} {tx : Nat → Int32} {br : Nat → Int32} {rw : Nat → Int32}  {x1 : Int32} {r : Int32} (hf : f_Table_isFree bt x1 = some r) {o : am_O} (ho : .inl (some (.int r)) = o) :
    am_M (am_kk l D dA) y_Table_isFree ws_Table_isFree (am_rm 2 o) [.ref 7, .int x1] (hC ll he de li en po pw su wr cs wb bt ct lc ad ctb lcb adb fx us ln pt tx br rw rest) o (hC ll he de li en po pw su wr cs wb bt ct lc ad ctb lcb adb fx us ln pt tx br rw rest) := by
  subst ho
  refine am_body (by decide) rfl (Nat.le_of_ble_eq_true rfl) rfl ?_
  rw [f_Table_isFree] at hf
  refine g_aload_n (n := 1) d_Table_isFree_0 rfl 0 rfl rfl ?_
  refine g_iload_n (n := 2) d_Table_isFree_1 rfl 1 rfl rfl ?_
  obtain ⟨r1, h2, hf⟩ := ob_bind hf
  refine c_Vr (n := 5) (st' := [.int r1]) [.int x1] [] d_Table_isFree_2 rfl (s_Table_cell htr h2 rfl) tw_286 tw_287 tw_288 tw_4 tw_289 hd_Table_cell (by omega) (by decide) (ci := 5) rfl rfl rfl (Nat.le_of_ble_eq_true rfl) rfl rfl ?_
  refine g_if_ne (n := 8) (tgt := 12) d_Table_isFree_5 rfl (by decide) (fun q3 => ?_) (fun q3 => ?_)
  · have hf := ob_neg q3 hf
    refine g_iconst (n := 13) (v := 0) d_Table_isFree_12 rfl (by decide) ?_
    cases hf
    exact g_zret d_Table_isFree_13 rfl (by decide) (Nat.zero_le _) (Nat.zero_le _)
  · have hf := ob_pos q3 hf
    refine g_iconst (n := 9) (v := 1) d_Table_isFree_8 rfl (by decide) ?_
    refine g_goto (n := 13) d_Table_isFree_9 (by decide) ?_
    cases hf
    exact g_zret d_Table_isFree_13 rfl (by decide) (Nat.zero_le _) (Nat.zero_le _)
def f_Table_countFree_L4 : Nat → (Nat → Int32) → Int32 → Int32 → Option (Int32)
  | 0, _, _, _ => none
  | fuel + 1, bt, x1, x2 =>
  (if 64 ≤ x2 then some x1 else ((f_Table_isFree bt x2).bind fun r2 => (if r2 = 0 then f_Table_countFree_L4 fuel bt x1 (x2 + 1) else f_Table_countFree_L4 fuel bt (x1 + 1) (x2 + 1))))
set_option maxHeartbeats 4000000 in
set_option maxRecDepth 100000 in
theorem s_Table_countFree_L4 {l : Launch} {D : va_G} {dA : FieldType → ClassId} (htr : l.stackTraces = false) {rest : List am_E} {ll : Int32} {he : Int32} {de : Int32} {li : Nat → Int32} {en : Nat → Int32} {po : Nat → Int32} {pw : Int32} {su : Int32} {wr : Int32} {cs : Int32} {wb : Int32} {ct : Int32} {lc : Int32} {ad : Nat → Int32} {ctb : Int32} {lcb : Int32} {adb : Nat → Int32} {fx : Int32} {us : Nat → Int32} {ln : Int32} {pt : Int32} {tx : Nat → Int32} {br : Nat → Int32} {rw : Nat → Int32}  : ∀ (fuel : Nat) (bt : Nat → Int32) (x1 : Int32) (x2 : Int32) (r : Int32), f_Table_countFree_L4 fuel bt x1 x2 = some r → ∀ o : am_O, .inl (some (.int r)) = o →
    am_G (am_kk l D dA) (ws_Table_countFree, y_Table_countFree.cls, prog_7_method_7_code, 3, (some .int), y_Table_countFree.name, [], am_rm 3 (o), none) o (hC ll he de li en po pw su wr cs wb bt ct lc ad ctb lcb adb fx us ln pt tx br rw rest) 0 0 4 [(0, .ref 7), (1, .int x1), (2, .int x2)] [] (hC ll he de li en po pw su wr cs wb bt ct lc ad ctb lcb adb fx us ln pt tx br rw rest) := by
  intro fuel
  induction fuel with
  | zero =>
    intro bt x1 x2 r hf
    cases hf
  | succ fuel ih =>
    intro bt x1 x2 r hf o ho
    subst ho
    rw [f_Table_countFree_L4] at hf
    refine g_iload_n (n := 5) d_Table_countFree_4 rfl 2 rfl rfl ?_
    refine g_bipush (n := 7) (v := 64) d_Table_countFree_5 rfl (by decide) ?_
    refine g_icmp_ge (n := 10) (tgt := 27) d_Table_countFree_7 rfl (by decide) (fun q1 => ?_) (fun q1 => ?_)
    · have hf := ob_pos q1 hf
      refine g_iload_n (n := 28) d_Table_countFree_27 rfl 1 rfl rfl ?_
      cases hf
      exact g_iret d_Table_countFree_28 rfl (Nat.zero_le _) (Nat.zero_le _)
    · have hf := ob_neg q1 hf
      refine g_aload_n (n := 11) d_Table_countFree_10 rfl 0 rfl rfl ?_
      refine g_iload_n (n := 12) d_Table_countFree_11 rfl 2 rfl rfl ?_
      obtain ⟨r2, h3, hf⟩ := ob_bind hf
      refine c_Vr (n := 15) (st' := [.int r2]) [.int x2] [] d_Table_countFree_12 rfl (s_Table_isFree htr h3 rfl) tw_282 tw_283 tw_284 tw_4 tw_285 hd_Table_isFree (by omega) (by decide) (ci := 5) rfl rfl rfl (Nat.le_of_ble_eq_true rfl) rfl rfl ?_
      refine g_if_eq (n := 18) (tgt := 21) d_Table_countFree_15 rfl (by decide) (fun q4 => ?_) (fun q4 => ?_)
      · have hf := ob_pos q4 hf
        refine g_iinc (n := 24) (v := (x2 + 1)) (ls' := [(2, .int (x2 + 1)), (0, .ref 7), (1, .int x1)]) d_Table_countFree_21 rfl 2 rfl rfl (am_ltb rfl) rfl ?_
        refine g_goto (n := 4) d_Table_countFree_24 (by decide) ?_
        refine g_ls [1, 2, 0] rfl ?_
        exact ih bt x1 (x2 + 1) _ hf _ rfl
      · have hf := ob_neg q4 hf
        refine g_iinc (n := 21) (v := (x1 + 1)) (ls' := [(1, .int (x1 + 1)), (0, .ref 7), (2, .int x2)]) d_Table_countFree_18 rfl 1 rfl rfl (am_ltb rfl) rfl ?_
        refine g_iinc (n := 24) (v := (x2 + 1)) (ls' := [(2, .int (x2 + 1)), (1, .int (x1 + 1)), (0, .ref 7)]) d_Table_countFree_21 rfl 2 rfl rfl (am_ltb rfl) rfl ?_
        refine g_goto (n := 4) d_Table_countFree_24 (by decide) ?_
        refine g_ls [2, 1, 0] rfl ?_
        exact ih bt (x1 + 1) (x2 + 1) _ hf _ rfl
def f_Table_countFree (bt : Nat → Int32) : Option (Int32) :=
  f_Table_countFree_L4 3000 bt 0 2
set_option maxHeartbeats 4000000 in
set_option maxRecDepth 100000 in
theorem s_Table_countFree {l : Launch} {D : va_G} {dA : FieldType → ClassId} (htr : l.stackTraces = false) {rest : List am_E} {ll : Int32} {he : Int32} {de : Int32} {li : Nat → Int32} {en : Nat → Int32} {po : Nat → Int32} {pw : Int32} {su : Int32} {wr : Int32} {cs : Int32} {wb : Int32} {bt : Nat → Int32} {ct : Int32} {lc : Int32} {ad : Nat → Int32} {ctb : Int32} {lcb : Int32} {adb : Nat → Int32} {fx : Int32} {us : Nat → Int32} {ln : Int32} {pt : Int32} {tx : Nat → Int32} {br : Nat → Int32} {rw : Nat → Int32}   {r : Int32} (hf : f_Table_countFree bt = some r) {o : am_O} (ho : .inl (some (.int r)) = o) :
    am_M (am_kk l D dA) y_Table_countFree ws_Table_countFree (am_rm 3 o) [.ref 7] (hC ll he de li en po pw su wr cs wb bt ct lc ad ctb lcb adb fx us ln pt tx br rw rest) o (hC ll he de li en po pw su wr cs wb bt ct lc ad ctb lcb adb fx us ln pt tx br rw rest) := by
  subst ho
  refine am_body (by decide) rfl (Nat.le_of_ble_eq_true rfl) rfl ?_
  rw [f_Table_countFree] at hf
  refine g_iconst (n := 1) (v := 0) d_Table_countFree_0 rfl (by decide) ?_
  refine g_istore_n (n := 2) (ls' := [(1, .int 0), (0, .ref 7)]) d_Table_countFree_1 rfl rfl (am_ltb rfl) rfl ?_
  refine g_iconst (n := 3) (v := 2) d_Table_countFree_2 rfl (by decide) ?_
  refine g_istore_n (n := 4) (ls' := [(2, .int 2), (1, .int 0), (0, .ref 7)]) d_Table_countFree_3 rfl rfl (am_ltb rfl) rfl ?_
  refine g_ls [2, 1, 0] rfl ?_
  exact s_Table_countFree_L4 htr 3000 bt 0 2 _ hf _ rfl
def f_V_look (ll : Int32) (he : Int32) (en : Nat → Int32) (po : Nat → Int32) (pw : Int32) (wr : Int32) (bt : Nat → Int32) (x1 : Int32) : Option (Int32) :=
  (if x1 = 0 then (if pw = 0 then some 0 else some 1) else (if x1 = 1 then some wr else (if x1 = 2 then ((f_Table_countFree bt).bind fun r5 => some r5) else (if x1 = 3 then some he else (if x1 = 4 then some ll else (if x1 < 10 then some (-1) else ((f_Ses_isOpen en (x1 - 10)).bind fun r10 => (if r10 = 0 then some (-1) else ((f_Ses_positionOf po (x1 - 10)).bind fun r13 => some r13)))))))))
set_option maxHeartbeats 4000000 in
set_option maxRecDepth 100000 in
theorem s_V_look {l : Launch} {D : va_G} {dA : FieldType → ClassId} (htr : l.stackTraces = false) {rest : List am_E} {ll : Int32} {he : Int32} {de : Int32} {li : Nat → Int32} {en : Nat → Int32} {po : Nat → Int32} {pw : Int32} {su : Int32} {wr : Int32} {cs : Int32} {wb : Int32} {bt : Nat → Int32} {ct : Int32} {lc : Int32} {ad : Nat → Int32} {ctb : Int32} {lcb : Int32} {adb : Nat → Int32} {fx : Int32} {us : Nat → Int32} {ln : Int32} {pt : Int32} {tx : Nat → Int32} {br : Nat → Int32} {rw : Nat → Int32}  {x1 : Int32} {r : Int32} (hf : f_V_look ll he en po pw wr bt x1 = some r) {o : am_O} (ho : .inl (some (.int r)) = o) :
    am_M (am_kk l D dA) y_V_look ws_V_look (am_rm 4 o) [.ref 0, .int x1] (hC ll he de li en po pw su wr cs wb bt ct lc ad ctb lcb adb fx us ln pt tx br rw rest) o (hC ll he de li en po pw su wr cs wb bt ct lc ad ctb lcb adb fx us ln pt tx br rw rest) := by
  subst ho
  refine am_body (by decide) rfl (Nat.le_of_ble_eq_true rfl) rfl ?_
  rw [f_V_look] at hf
  refine g_iload_n (n := 1) d_V_look_0 rfl 1 rfl rfl ?_
  by_cases q1 : x1 = 0
  · have hf := ob_pos q1 hf
    refine g_tabIn (n := 36) d_V_look_1 (by rw [q1]; decide) (by rw [q1]; decide) (by rw [q1]; rfl) (by decide) ?_
    refine g_aload_n (n := 37) d_V_look_36 rfl 0 rfl rfl ?_
    refine g_get (n := 40) (q0 := 0) d_V_look_37 rfl (am_fl in_V rfl (by decide : 1 < 8)) (List.mem_cons_of_mem _ tw_174) rfl rfl ?_
    refine g_getN (n := 43) (q0 := 5) d_V_look_40 rfl (am_fl in_Disk rfl (by decide : 2 < 7)) (List.mem_of_getElem? (i := 6) rfl) rfl rfl ?_
    refine g_if_eq (n := 46) (tgt := 50) d_V_look_43 rfl (by decide) (fun q2 => ?_) (fun q2 => ?_)
    · have hf := ob_pos q2 hf
      refine g_iconst (n := 51) (v := 0) d_V_look_50 rfl (by decide) ?_
      cases hf
      exact g_iret d_V_look_51 rfl (Nat.zero_le _) (Nat.zero_le _)
    · have hf := ob_neg q2 hf
      refine g_iconst (n := 47) (v := 1) d_V_look_46 rfl (by decide) ?_
      refine g_goto (n := 51) d_V_look_47 (by decide) ?_
      cases hf
      exact g_iret d_V_look_51 rfl (Nat.zero_le _) (Nat.zero_le _)
  · have hf := ob_neg q1 hf
    by_cases q3 : x1 = 1
    · have hf := ob_pos q3 hf
      refine g_tabIn (n := 52) d_V_look_1 (by rw [q3]; decide) (by rw [q3]; decide) (by rw [q3]; rfl) (by decide) ?_
      refine g_aload_n (n := 53) d_V_look_52 rfl 0 rfl rfl ?_
      refine g_get (n := 56) (q0 := 0) d_V_look_53 rfl (am_fl in_V rfl (by decide : 1 < 8)) (List.mem_cons_of_mem _ tw_174) rfl rfl ?_
      refine g_getN (n := 59) (q0 := 5) d_V_look_56 rfl (am_fl in_Disk rfl (by decide : 4 < 7)) (List.mem_of_getElem? (i := 8) rfl) rfl rfl ?_
      cases hf
      exact g_iret d_V_look_59 rfl (Nat.zero_le _) (Nat.zero_le _)
    · have hf := ob_neg q3 hf
      by_cases q4 : x1 = 2
      · have hf := ob_pos q4 hf
        refine g_tabIn (n := 60) d_V_look_1 (by rw [q4]; decide) (by rw [q4]; decide) (by rw [q4]; rfl) (by decide) ?_
        refine g_aload_n (n := 61) d_V_look_60 rfl 0 rfl rfl ?_
        refine g_get (n := 64) (q0 := 0) d_V_look_61 rfl (am_fl in_V rfl (by decide : 2 < 8)) (List.mem_cons_of_mem _ tw_175) rfl rfl ?_
        obtain ⟨r5, h6, hf⟩ := ob_bind hf
        refine c_Vr (n := 67) (st' := [.int r5]) [] [] d_V_look_64 rfl (s_Table_countFree htr h6 rfl) tw_278 tw_279 tw_280 tw_4 tw_281 hd_Table_countFree (by omega) (by decide) (ci := 5) rfl rfl rfl (Nat.le_of_ble_eq_true rfl) rfl rfl ?_
        cases hf
        exact g_iret d_V_look_67 rfl (Nat.zero_le _) (Nat.zero_le _)
      · have hf := ob_neg q4 hf
        by_cases q7 : x1 = 3
        · have hf := ob_pos q7 hf
          refine g_tabIn (n := 68) d_V_look_1 (by rw [q7]; decide) (by rw [q7]; decide) (by rw [q7]; rfl) (by decide) ?_
          refine g_aload_n (n := 69) d_V_look_68 rfl 0 rfl rfl ?_
          refine g_get (n := 72) (q0 := 0) d_V_look_69 rfl (am_fl in_V rfl (by decide : 0 < 8)) (List.mem_cons_of_mem _ tw_173) rfl rfl ?_
          refine g_getN (n := 75) (q0 := 1) d_V_look_72 rfl (am_fl in_Ses rfl (by decide : 4 < 6)) (List.mem_of_getElem? (i := 4) rfl) rfl rfl ?_
          cases hf
          exact g_iret d_V_look_75 rfl (Nat.zero_le _) (Nat.zero_le _)
        · have hf := ob_neg q7 hf
          by_cases q8 : x1 = 4
          · have hf := ob_pos q8 hf
            refine g_tabIn (n := 76) d_V_look_1 (by rw [q8]; decide) (by rw [q8]; decide) (by rw [q8]; rfl) (by decide) ?_
            refine g_aload_n (n := 77) d_V_look_76 rfl 0 rfl rfl ?_
            refine g_get (n := 80) (q0 := 0) d_V_look_77 rfl (am_fl in_V rfl (by decide : 0 < 8)) (List.mem_cons_of_mem _ tw_173) rfl rfl ?_
            refine g_getN (n := 83) (q0 := 1) d_V_look_80 rfl (am_fl in_Ses rfl (by decide : 3 < 6)) (List.mem_of_getElem? (i := 3) rfl) rfl rfl ?_
            cases hf
            exact g_iret d_V_look_83 rfl (Nat.zero_le _) (Nat.zero_le _)
          · have hf := ob_neg q8 hf
            refine g_tabOut (n := 84) d_V_look_1 (by have z0 := lv_neT q1 (a := 0) (by decide); have z1 := lv_neT q3 (a := 1) (by decide); have z2 := lv_neT q4 (a := 2) (by decide); have z3 := lv_neT q7 (a := 3) (by decide); have z4 := lv_neT q8 (a := 4) (by decide); omega) (by decide) ?_
            refine g_iload_n (n := 85) d_V_look_84 rfl 1 rfl rfl ?_
            refine g_bipush (n := 87) (v := 10) d_V_look_85 rfl (by decide) ?_
            refine g_icmp_lt (n := 90) (tgt := 118) d_V_look_87 rfl (by decide) (fun q9 => ?_) (fun q9 => ?_)
            · have hf := ob_pos q9 hf
              refine g_iconst (n := 119) (v := (-1)) d_V_look_118 rfl (by decide) ?_
              cases hf
              exact g_iret d_V_look_119 rfl (Nat.zero_le _) (Nat.zero_le _)
            · have hf := ob_neg q9 hf
              refine g_aload_n (n := 91) d_V_look_90 rfl 0 rfl rfl ?_
              refine g_get (n := 94) (q0 := 0) d_V_look_91 rfl (am_fl in_V rfl (by decide : 0 < 8)) (List.mem_cons_of_mem _ tw_173) rfl rfl ?_
              refine g_iload_n (n := 95) d_V_look_94 rfl 1 rfl rfl ?_
              refine g_bipush (n := 97) (v := 10) d_V_look_95 rfl (by decide) ?_
              refine g_isub (n := 98) d_V_look_97 rfl ?_
              obtain ⟨r10, h11, hf⟩ := ob_bind hf
              refine c_Vr (n := 101) (st' := [.int r10]) [.int (x1 - 10)] [] d_V_look_98 rfl (s_Ses_isOpen htr h11 rfl) tw_210 tw_211 tw_212 tw_2 tw_213 hd_Ses_isOpen (by omega) (by decide) (ci := 4) rfl rfl rfl (Nat.le_of_ble_eq_true rfl) rfl rfl ?_
              refine g_if_eq (n := 104) (tgt := 118) d_V_look_101 rfl (by decide) (fun q12 => ?_) (fun q12 => ?_)
              · have hf := ob_pos q12 hf
                refine g_iconst (n := 119) (v := (-1)) d_V_look_118 rfl (by decide) ?_
                cases hf
                exact g_iret d_V_look_119 rfl (Nat.zero_le _) (Nat.zero_le _)
              · have hf := ob_neg q12 hf
                refine g_aload_n (n := 105) d_V_look_104 rfl 0 rfl rfl ?_
                refine g_get (n := 108) (q0 := 0) d_V_look_105 rfl (am_fl in_V rfl (by decide : 0 < 8)) (List.mem_cons_of_mem _ tw_173) rfl rfl ?_
                refine g_iload_n (n := 109) d_V_look_108 rfl 1 rfl rfl ?_
                refine g_bipush (n := 111) (v := 10) d_V_look_109 rfl (by decide) ?_
                refine g_isub (n := 112) d_V_look_111 rfl ?_
                obtain ⟨r13, h14, hf⟩ := ob_bind hf
                refine c_Vr (n := 115) (st' := [.int r13]) [.int (x1 - 10)] [] d_V_look_112 rfl (s_Ses_positionOf htr h14 rfl) tw_291 tw_292 tw_293 tw_2 tw_294 hd_Ses_positionOf (by omega) (by decide) (ci := 4) rfl rfl rfl (Nat.le_of_ble_eq_true rfl) rfl rfl ?_
                refine g_goto (n := 119) d_V_look_115 (by decide) ?_
                cases hf
                exact g_iret d_V_look_119 rfl (Nat.zero_le _) (Nat.zero_le _)
end
