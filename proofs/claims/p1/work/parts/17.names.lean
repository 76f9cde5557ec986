/-! words and classes of the claim: written by program (wip/am/names.py) out of the Statement and the listing -/
def am_tw : List Cond := lw_tbl.filter goodWord
theorem am_mem {w : Cond} (i : Nat) (h : tables_1[i]? = some w) (g : goodWord w = true) : w ∈ am_tw := List.mem_filter.mpr ⟨List.mem_append_right _ (List.mem_of_getElem? h), g⟩
theorem am_memS {w : Cond} (i : Nat) (h : (k2_sels lw_privs)[i]? = some w) (g : goodWord w = true) : w ∈ am_tw := List.mem_filter.mpr ⟨List.mem_append_left _ (List.mem_of_getElem? h), g⟩
theorem am_inw {ws : List Cond} (h : ws.all (fun w => decide (w ∈ tables_1) && goodWord w) = true) : ∀ w ∈ ws, w ∈ am_tw := by
  intro w hw
  have h1 := List.all_eq_true.mp h w hw
  simp only [Bool.and_eq_true, decide_eq_true_eq] at h1
  exact List.mem_filter.mpr ⟨List.mem_append_right _ h1.1, h1.2⟩
def T_Disk : u_T := fun k => match k with
  | 0 => ("FileVolume$Disk", "bytes", "[I", true)
  | 1 => ("FileVolume$Disk", "session", "LFileVolume$Session;", true)
  | 2 => ("FileVolume$Disk", "powered", "Z", false)
  | 3 => ("FileVolume$Disk", "suspect", "Z", false)
  | 4 => ("FileVolume$Disk", "writes", "I", false)
  | 5 => ("FileVolume$Disk", "cutIsSet", "Z", false)
  | _ => ("FileVolume$Disk", "writesBeforeCut", "I", false)
def ft_Disk : Nat → FieldType := fun k => match k with
  | 0 => .array .int
  | 1 => .object "FileVolume$Session"
  | 2 => .boolean
  | 3 => .boolean
  | 4 => .int
  | 5 => .boolean
  | _ => .int
theorem in_Disk : ∀ w ∈ u_ws "FileVolume$Disk" T_Disk 7, w ∈ am_tw := am_inw (by decide +kernel)
theorem typ_Disk : am_typ T_Disk 7 ft_Disk := ⟨by decide +kernel, by decide +kernel⟩
def T_Folder : u_T := fun k => match k with
  | 0 => ("FileVolume$Folder", "disk", "LFileVolume$Disk;", true)
  | 1 => ("FileVolume$Folder", "table", "LFileVolume$Table;", true)
  | 2 => ("FileVolume$Folder", "addresses", "[I", true)
  | 3 => ("FileVolume$Folder", "count", "I", false)
  | _ => ("FileVolume$Folder", "lastCluster", "I", false)
def ft_Folder : Nat → FieldType := fun k => match k with
  | 0 => .object "FileVolume$Disk"
  | 1 => .object "FileVolume$Table"
  | 2 => .array .int
  | 3 => .int
  | _ => .int
theorem in_Folder : ∀ w ∈ u_ws "FileVolume$Folder" T_Folder 5, w ∈ am_tw := am_inw (by decide +kernel)
theorem typ_Folder : am_typ T_Folder 5 ft_Folder := ⟨by decide +kernel, by decide +kernel⟩
def T_Name : u_T := fun k => match k with
  | 0 => ("FileVolume$Name", "text", "[C", true)
  | 1 => ("FileVolume$Name", "brief", "[I", true)
  | 2 => ("FileVolume$Name", "length", "I", false)
  | _ => ("FileVolume$Name", "parts", "I", false)
def ft_Name : Nat → FieldType := fun k => match k with
  | 0 => .array .char
  | 1 => .array .int
  | 2 => .int
  | _ => .int
theorem in_Name : ∀ w ∈ u_ws "FileVolume$Name" T_Name 4, w ∈ am_tw := am_inw (by decide +kernel)
theorem typ_Name : am_typ T_Name 4 ft_Name := ⟨by decide +kernel, by decide +kernel⟩
def T_Rep : u_T := fun k => match k with
  | 0 => ("FileVolume$Repairer", "disk", "LFileVolume$Disk;", true)
  | 1 => ("FileVolume$Repairer", "table", "LFileVolume$Table;", true)
  | 2 => ("FileVolume$Repairer", "folder", "LFileVolume$Folder;", true)
  | 3 => ("FileVolume$Repairer", "used", "[Z", true)
  | _ => ("FileVolume$Repairer", "fixes", "I", false)
def ft_Rep : Nat → FieldType := fun k => match k with
  | 0 => .object "FileVolume$Disk"
  | 1 => .object "FileVolume$Table"
  | 2 => .object "FileVolume$Folder"
  | 3 => .array .boolean
  | _ => .int
theorem in_Rep : ∀ w ∈ u_ws "FileVolume$Repairer" T_Rep 5, w ∈ am_tw := am_inw (by decide +kernel)
theorem typ_Rep : am_typ T_Rep 5 ft_Rep := ⟨by decide +kernel, by decide +kernel⟩
def T_Ses : u_T := fun k => match k with
  | 0 => ("FileVolume$Session", "line", "[C", true)
  | 1 => ("FileVolume$Session", "entries", "[I", true)
  | 2 => ("FileVolume$Session", "positions", "[I", true)
  | 3 => ("FileVolume$Session", "lineLength", "I", false)
  | 4 => ("FileVolume$Session", "here", "I", false)
  | _ => ("FileVolume$Session", "depth", "I", false)
def ft_Ses : Nat → FieldType := fun k => match k with
  | 0 => .array .char
  | 1 => .array .int
  | 2 => .array .int
  | 3 => .int
  | 4 => .int
  | _ => .int
theorem in_Ses : ∀ w ∈ u_ws "FileVolume$Session" T_Ses 6, w ∈ am_tw := am_inw (by decide +kernel)
theorem typ_Ses : am_typ T_Ses 6 ft_Ses := ⟨by decide +kernel, by decide +kernel⟩
def T_Table : u_T := fun k => match k with
  | _ => ("FileVolume$Table", "disk", "LFileVolume$Disk;", true)
def ft_Table : Nat → FieldType := fun k => match k with
  | _ => .object "FileVolume$Disk"
theorem in_Table : ∀ w ∈ u_ws "FileVolume$Table" T_Table 1, w ∈ am_tw := am_inw (by decide +kernel)
theorem typ_Table : am_typ T_Table 1 ft_Table := ⟨by decide +kernel, by decide +kernel⟩
def T_V : u_T := fun k => match k with
  | 0 => ("FileVolume", "session", "LFileVolume$Session;", true)
  | 1 => ("FileVolume", "disk", "LFileVolume$Disk;", true)
  | 2 => ("FileVolume", "table", "LFileVolume$Table;", true)
  | 3 => ("FileVolume", "folder", "LFileVolume$Folder;", true)
  | 4 => ("FileVolume", "below", "LFileVolume$Folder;", true)
  | 5 => ("FileVolume", "repairer", "LFileVolume$Repairer;", true)
  | 6 => ("FileVolume", "name", "LFileVolume$Name;", true)
  | _ => ("FileVolume", "row", "[I", true)
def ft_V : Nat → FieldType := fun k => match k with
  | 0 => .object "FileVolume$Session"
  | 1 => .object "FileVolume$Disk"
  | 2 => .object "FileVolume$Table"
  | 3 => .object "FileVolume$Folder"
  | 4 => .object "FileVolume$Folder"
  | 5 => .object "FileVolume$Repairer"
  | 6 => .object "FileVolume$Name"
  | _ => .array .int
theorem in_V : ∀ w ∈ u_ws "FileVolume" T_V 8, w ∈ am_tw := am_inw (by decide +kernel)
theorem typ_V : am_typ T_V 8 ft_V := ⟨by decide +kernel, by decide +kernel⟩
def T_M : u_T := fun k => match k with
  | 0 => ("FileVolumeModel", "thrown", "I", false)
  | 1 => ("FileVolumeModel", "disk", "[I", true)
  | 2 => ("FileVolumeModel", "on", "Z", false)
  | 3 => ("FileVolumeModel", "suspect", "Z", false)
  | 4 => ("FileVolumeModel", "dead", "Z", false)
  | 5 => ("FileVolumeModel", "writes", "I", false)
  | 6 => ("FileVolumeModel", "cut", "I", false)
  | 7 => ("FileVolumeModel", "line", "[I", true)
  | 8 => ("FileVolumeModel", "typed", "I", false)
  | 9 => ("FileVolumeModel", "here", "I", false)
  | 10 => ("FileVolumeModel", "depth", "I", false)
  | 11 => ("FileVolumeModel", "open", "[I", true)
  | 12 => ("FileVolumeModel", "position", "[I", true)
  | 13 => ("FileVolumeModel", "name", "[I", true)
  | 14 => ("FileVolumeModel", "parts", "I", false)
  | 15 => ("FileVolumeModel", "used", "[Z", true)
  | 16 => ("FileVolumeModel", "chain", "[I", true)
  | 17 => ("FileVolumeModel", "way", "[I", true)
  | 18 => ("FileVolumeModel", "next", "[I", true)
  | _ => ("FileVolumeModel", "fixes", "I", false)
def ft_M : Nat → FieldType := fun k => match k with
  | 0 => .int
  | 1 => .array .int
  | 2 => .boolean
  | 3 => .boolean
  | 4 => .boolean
  | 5 => .int
  | 6 => .int
  | 7 => .array .int
  | 8 => .int
  | 9 => .int
  | 10 => .int
  | 11 => .array .int
  | 12 => .array .int
  | 13 => .array .int
  | 14 => .int
  | 15 => .array .boolean
  | 16 => .array .int
  | 17 => .array .int
  | 18 => .array .int
  | _ => .int
theorem in_M : ∀ w ∈ u_ws "FileVolumeModel" T_M 20, w ∈ am_tw := am_inw (by decide +kernel)
theorem typ_M : am_typ T_M 20 ft_M := ⟨by decide +kernel, by decide +kernel⟩
abbrev am_cls : List vw_C := [("FileVolume$Disk", T_Disk, 7), ("FileVolume$Folder", T_Folder, 5), ("FileVolume$Name", T_Name, 4), ("FileVolume$Repairer", T_Rep, 5), ("FileVolume$Session", T_Ses, 6), ("FileVolume$Table", T_Table, 1), ("FileVolume", T_V, 8), ("FileVolumeModel", T_M, 20)]
def am_nws : List Cond := [(Jvm.Cond.fieldLinkNest "FileVolume$Name" (28 : Nat) "FileVolume$Session" "line" "[C" "FileVolume"), (Jvm.Cond.fieldLinkNest "FileVolume$Name" (19 : Nat) "FileVolume$Session" "lineLength" "I" "FileVolume"), (Jvm.Cond.fieldLinkNest "FileVolume$Disk" (35 : Nat) "FileVolume$Session" "lineLength" "I" "FileVolume"), (Jvm.Cond.fieldLinkNest "FileVolume" (305 : Nat) "FileVolume$Session" "lineLength" "I" "FileVolume"), (Jvm.Cond.fieldLinkNest "FileVolume" (87 : Nat) "FileVolume$Session" "here" "I" "FileVolume"), (Jvm.Cond.fieldLinkNest "FileVolume" (95 : Nat) "FileVolume$Session" "depth" "I" "FileVolume"), (Jvm.Cond.fieldLinkNest "FileVolume" (262 : Nat) "FileVolume$Disk" "powered" "Z" "FileVolume"), (Jvm.Cond.fieldLinkNest "FileVolume" (286 : Nat) "FileVolume$Disk" "suspect" "Z" "FileVolume"), (Jvm.Cond.fieldLinkNest "FileVolume" (299 : Nat) "FileVolume$Disk" "writes" "I" "FileVolume"), (Jvm.Cond.fieldLinkNest "FileVolume$Repairer" (67 : Nat) "FileVolume$Folder" "count" "I" "FileVolume"), (Jvm.Cond.fieldLinkNest "FileVolume" (313 : Nat) "FileVolume$Folder" "lastCluster" "I" "FileVolume"), (Jvm.Cond.fieldLinkNest "FileVolume" (289 : Nat) "FileVolume$Repairer" "fixes" "I" "FileVolume"), (Jvm.Cond.fieldLinkNest "FileVolume" (148 : Nat) "FileVolume$Name" "length" "I" "FileVolume"), (Jvm.Cond.fieldLinkNest "FileVolume$Folder" (84 : Nat) "FileVolume$Name" "length" "I" "FileVolume"), (Jvm.Cond.fieldLinkNest "FileVolume" (117 : Nat) "FileVolume$Name" "parts" "I" "FileVolume"), (Jvm.Cond.methodLinkNest "FileVolume$Folder" (27 : Nat) ({ cls := "FileVolume", name := "isCluster", desc := "(I)Z" } : Jvm.MethodName) "FileVolume"), (Jvm.Cond.methodLinkNest "FileVolume$Folder" (31 : Nat) ({ cls := "FileVolume", name := "sectorOf", desc := "(I)I" } : Jvm.MethodName) "FileVolume"), (Jvm.Cond.methodLinkNest "FileVolume$Folder" (89 : Nat) ({ cls := "FileVolume", name := "capital", desc := "(I)I" } : Jvm.MethodName) "FileVolume"), (Jvm.Cond.methodLinkNest "FileVolume$Folder" (105 : Nat) ({ cls := "FileVolume", name := "addToSum", desc := "(II)I" } : Jvm.MethodName) "FileVolume"), (Jvm.Cond.methodLinkNest "FileVolume$Folder" (115 : Nat) ({ cls := "FileVolume", name := "placeInPart", desc := "(I)I" } : Jvm.MethodName) "FileVolume"), (Jvm.Cond.methodLinkNest "FileVolume$Name" (35 : Nat) ({ cls := "FileVolume", name := "isShortChar", desc := "(I)Z" } : Jvm.MethodName) "FileVolume"), (Jvm.Cond.methodLinkNest "FileVolume$Name" (55 : Nat) ({ cls := "FileVolume", name := "capital", desc := "(I)I" } : Jvm.MethodName) "FileVolume"), (Jvm.Cond.methodLinkNest "FileVolume$Table" (40 : Nat) ({ cls := "FileVolume", name := "sectorOf", desc := "(I)I" } : Jvm.MethodName) "FileVolume"), (Jvm.Cond.methodLinkNest "FileVolume$Name" (58 : Nat) ({ cls := "FileVolume", name := "addToSum", desc := "(II)I" } : Jvm.MethodName) "FileVolume"), (Jvm.Cond.methodLinkNest "FileVolume$Name" (66 : Nat) ({ cls := "FileVolume", name := "placeInPart", desc := "(I)I" } : Jvm.MethodName) "FileVolume"), (Jvm.Cond.methodLinkNest "FileVolume$Table" (47 : Nat) ({ cls := "FileVolume", name := "isCluster", desc := "(I)Z" } : Jvm.MethodName) "FileVolume"), (Jvm.Cond.methodLinkNest "FileVolume$Repairer" (52 : Nat) ({ cls := "FileVolume", name := "isCluster", desc := "(I)Z" } : Jvm.MethodName) "FileVolume"), (Jvm.Cond.methodLinkNest "FileVolume" (280 : Nat) ({ cls := "FileVolume$Repairer", name := "goThrough", desc := "(II)V" } : Jvm.MethodName) "FileVolume")]
def am_sls : List (String × Nat × String) := [("FileVolume", 308, "no power, or the disk is suspect"), ("FileVolume", 82, "no good name or no such kind"), ("FileVolume", 108, "too deep, called so already, or no short name"), ("FileVolume$Disk", 40, "the power was cut"), ("FileVolume", 115, "no room"), ("FileVolume", 130, "nothing is called so"), ("FileVolume", 137, "it is open or not empty"), ("FileVolume", 154, "no directory is called so"), ("FileVolume", 159, "no file is called so"), ("FileVolume", 164, "all handles are open"), ("FileVolume", 185, "not open, or not 1 to 7 bytes"), ("FileVolume", 208, "not open, or not 1 to 8 bytes"), ("FileVolume", 210, "the file would be too great"), ("FileVolume", 228, "so many there are not"), ("FileVolume", 235, "nothing to list"), ("FileVolume", 268, "no power")]
abbrev am_kk (l : Launch) (D : va_G) (dA : FieldType → ClassId) : am_K := (l, D, dA, am_cls, am_nws, am_sls)
abbrev y_V_isOnDisk : MethodName := ({ cls := "FileVolume", name := "isOnDisk", desc := "(II)Z" } : Jvm.MethodName)
def ws_V_isOnDisk : List Cond := .code y_V_isOnDisk prog_1_method_28_code 2 (some .boolean) :: am_tw
theorem hd_V_isOnDisk : y_V_isOnDisk.cls ≠ "java/lang/invoke/MethodHandle" ∧ y_V_isOnDisk.cls ≠ "java/lang/invoke/VarHandle" ∧ (parseMethodDescriptor y_V_isOnDisk.desc).map (fun d => d.parameters.length) = some 2 := by decide +kernel
abbrev y_Disk_at : MethodName := ({ cls := "FileVolume$Disk", name := "at", desc := "(I)I" } : Jvm.MethodName)
def ws_Disk_at : List Cond := .code y_Disk_at prog_2_method_2_code 2 (some .int) :: am_tw
theorem hd_Disk_at : y_Disk_at.cls ≠ "java/lang/invoke/MethodHandle" ∧ y_Disk_at.cls ≠ "java/lang/invoke/VarHandle" ∧ (parseMethodDescriptor y_Disk_at.desc).map (fun d => d.parameters.length) = some 1 := by decide +kernel
abbrev y_V_octet : MethodName := ({ cls := "FileVolume", name := "octet", desc := "(II)I" } : Jvm.MethodName)
def ws_V_octet : List Cond := .code y_V_octet prog_1_method_15_code 3 (some .int) :: am_tw
theorem hd_V_octet : y_V_octet.cls ≠ "java/lang/invoke/MethodHandle" ∧ y_V_octet.cls ≠ "java/lang/invoke/VarHandle" ∧ (parseMethodDescriptor y_V_octet.desc).map (fun d => d.parameters.length) = some 2 := by decide +kernel
abbrev y_Ses_isOpen : MethodName := ({ cls := "FileVolume$Session", name := "isOpen", desc := "(I)Z" } : Jvm.MethodName)
def ws_Ses_isOpen : List Cond := .code y_Ses_isOpen prog_6_method_6_code 2 (some .boolean) :: am_tw
theorem hd_Ses_isOpen : y_Ses_isOpen.cls ≠ "java/lang/invoke/MethodHandle" ∧ y_Ses_isOpen.cls ≠ "java/lang/invoke/VarHandle" ∧ (parseMethodDescriptor y_Ses_isOpen.desc).map (fun d => d.parameters.length) = some 1 := by decide +kernel
abbrev y_Ses_positionOf : MethodName := ({ cls := "FileVolume$Session", name := "positionOf", desc := "(I)I" } : Jvm.MethodName)
def ws_Ses_positionOf : List Cond := .code y_Ses_positionOf prog_6_method_13_code 2 (some .int) :: am_tw
theorem hd_Ses_positionOf : y_Ses_positionOf.cls ≠ "java/lang/invoke/MethodHandle" ∧ y_Ses_positionOf.cls ≠ "java/lang/invoke/VarHandle" ∧ (parseMethodDescriptor y_Ses_positionOf.desc).map (fun d => d.parameters.length) = some 1 := by decide +kernel
abbrev y_Disk_pairAt : MethodName := ({ cls := "FileVolume$Disk", name := "pairAt", desc := "(I)I" } : Jvm.MethodName)
def ws_Disk_pairAt : List Cond := .code y_Disk_pairAt prog_2_method_3_code 3 (some .int) :: am_tw
theorem hd_Disk_pairAt : y_Disk_pairAt.cls ≠ "java/lang/invoke/MethodHandle" ∧ y_Disk_pairAt.cls ≠ "java/lang/invoke/VarHandle" ∧ (parseMethodDescriptor y_Disk_pairAt.desc).map (fun d => d.parameters.length) = some 1 := by decide +kernel
abbrev y_Table_cell : MethodName := ({ cls := "FileVolume$Table", name := "cell", desc := "(I)I" } : Jvm.MethodName)
def ws_Table_cell : List Cond := .code y_Table_cell prog_7_method_2_code 2 (some .int) :: am_tw
theorem hd_Table_cell : y_Table_cell.cls ≠ "java/lang/invoke/MethodHandle" ∧ y_Table_cell.cls ≠ "java/lang/invoke/VarHandle" ∧ (parseMethodDescriptor y_Table_cell.desc).map (fun d => d.parameters.length) = some 1 := by decide +kernel
abbrev y_Table_isFree : MethodName := ({ cls := "FileVolume$Table", name := "isFree", desc := "(I)Z" } : Jvm.MethodName)
def ws_Table_isFree : List Cond := .code y_Table_isFree prog_7_method_6_code 2 (some .boolean) :: am_tw
theorem hd_Table_isFree : y_Table_isFree.cls ≠ "java/lang/invoke/MethodHandle" ∧ y_Table_isFree.cls ≠ "java/lang/invoke/VarHandle" ∧ (parseMethodDescriptor y_Table_isFree.desc).map (fun d => d.parameters.length) = some 1 := by decide +kernel
abbrev y_Table_countFree : MethodName := ({ cls := "FileVolume$Table", name := "countFree", desc := "()I" } : Jvm.MethodName)
def ws_Table_countFree : List Cond := .code y_Table_countFree prog_7_method_7_code 3 (some .int) :: am_tw
theorem hd_Table_countFree : y_Table_countFree.cls ≠ "java/lang/invoke/MethodHandle" ∧ y_Table_countFree.cls ≠ "java/lang/invoke/VarHandle" ∧ (parseMethodDescriptor y_Table_countFree.desc).map (fun d => d.parameters.length) = some 0 := by decide +kernel
abbrev y_V_look : MethodName := ({ cls := "FileVolume", name := "look", desc := "(I)I" } : Jvm.MethodName)
def ws_V_look : List Cond := .code y_V_look prog_1_method_17_code 2 (some .int) :: am_tw
theorem hd_V_look : y_V_look.cls ≠ "java/lang/invoke/MethodHandle" ∧ y_V_look.cls ≠ "java/lang/invoke/VarHandle" ∧ (parseMethodDescriptor y_V_look.desc).map (fun d => d.parameters.length) = some 1 := by decide +kernel
theorem tw_1 : (Jvm.Cond.initialized "FileVolume") ∈ am_tw := am_mem 1 (by decide +kernel) (by decide +kernel)
theorem tw_2 : (Jvm.Cond.initialized "FileVolume$Session") ∈ am_tw := am_mem 2 (by decide +kernel) (by decide +kernel)
theorem tw_3 : (Jvm.Cond.initialized "FileVolume$Disk") ∈ am_tw := am_mem 3 (by decide +kernel) (by decide +kernel)
theorem tw_4 : (Jvm.Cond.initialized "FileVolume$Table") ∈ am_tw := am_mem 4 (by decide +kernel) (by decide +kernel)
theorem tw_38 : (Jvm.Cond.fieldLink "FileVolume$Session" (15 : Nat) "FileVolume$Session" "entries" "[I") ∈ am_tw := am_mem 38 (by decide +kernel) (by decide +kernel)
theorem tw_39 : (Jvm.Cond.fieldLink "FileVolume$Session" (19 : Nat) "FileVolume$Session" "positions" "[I") ∈ am_tw := am_mem 39 (by decide +kernel) (by decide +kernel)
theorem tw_69 : (Jvm.Cond.fieldLink "FileVolume$Disk" (15 : Nat) "FileVolume$Disk" "bytes" "[I") ∈ am_tw := am_mem 69 (by decide +kernel) (by decide +kernel)
theorem tw_99 : (Jvm.Cond.fieldLink "FileVolume$Table" (9 : Nat) "FileVolume$Table" "disk" "LFileVolume$Disk;") ∈ am_tw := am_mem 99 (by decide +kernel) (by decide +kernel)
theorem tw_173 : (Jvm.Cond.fieldLink "FileVolume" (12 : Nat) "FileVolume" "session" "LFileVolume$Session;") ∈ am_tw := am_mem 173 (by decide +kernel) (by decide +kernel)
theorem tw_174 : (Jvm.Cond.fieldLink "FileVolume" (21 : Nat) "FileVolume" "disk" "LFileVolume$Disk;") ∈ am_tw := am_mem 174 (by decide +kernel) (by decide +kernel)
theorem tw_175 : (Jvm.Cond.fieldLink "FileVolume" (30 : Nat) "FileVolume" "table" "LFileVolume$Table;") ∈ am_tw := am_mem 175 (by decide +kernel) (by decide +kernel)
theorem tw_210 : (Jvm.Cond.methodLink "FileVolume" (173 : Nat) ({ cls := "FileVolume$Session", name := "isOpen", desc := "(I)Z" } : Jvm.MethodName)) ∈ am_tw := am_mem 210 (by decide +kernel) (by decide +kernel)
theorem tw_211 : (Jvm.Cond.instanceMethod ({ cls := "FileVolume$Session", name := "isOpen", desc := "(I)Z" } : Jvm.MethodName)) ∈ am_tw := am_mem 211 (by decide +kernel) (by decide +kernel)
theorem tw_212 : (Jvm.Cond.selects "FileVolume$Session" ({ cls := "FileVolume$Session", name := "isOpen", desc := "(I)Z" } : Jvm.MethodName) ({ cls := "FileVolume$Session", name := "isOpen", desc := "(I)Z" } : Jvm.MethodName)) ∈ am_tw := am_mem 212 (by decide +kernel) (by decide +kernel)
theorem tw_213 : (Jvm.Cond.code ({ cls := "FileVolume$Session", name := "isOpen", desc := "(I)Z" } : Jvm.MethodName) prog_6_method_6_code (2 : Nat) (Option.some Jvm.ClassFile.FieldType.boolean)) ∈ am_tw := am_mem 213 (by decide +kernel) (by decide +kernel)
theorem tw_231 : (Jvm.Cond.instanceMethod ({ cls := "FileVolume$Disk", name := "pairAt", desc := "(I)I" } : Jvm.MethodName)) ∈ am_tw := am_mem 231 (by decide +kernel) (by decide +kernel)
theorem tw_232 : (Jvm.Cond.selects "FileVolume$Disk" ({ cls := "FileVolume$Disk", name := "pairAt", desc := "(I)I" } : Jvm.MethodName) ({ cls := "FileVolume$Disk", name := "pairAt", desc := "(I)I" } : Jvm.MethodName)) ∈ am_tw := am_mem 232 (by decide +kernel) (by decide +kernel)
theorem tw_233 : (Jvm.Cond.code ({ cls := "FileVolume$Disk", name := "pairAt", desc := "(I)I" } : Jvm.MethodName) prog_2_method_3_code (3 : Nat) (Option.some Jvm.ClassFile.FieldType.int)) ∈ am_tw := am_mem 233 (by decide +kernel) (by decide +kernel)
theorem tw_258 : (Jvm.Cond.methodLink "FileVolume" (292 : Nat) ({ cls := "FileVolume", name := "isOnDisk", desc := "(II)Z" } : Jvm.MethodName)) ∈ am_tw := am_mem 258 (by decide +kernel) (by decide +kernel)
theorem tw_259 : (Jvm.Cond.static ({ cls := "FileVolume", name := "isOnDisk", desc := "(II)Z" } : Jvm.MethodName)) ∈ am_tw := am_mem 259 (by decide +kernel) (by decide +kernel)
theorem tw_260 : (Jvm.Cond.code ({ cls := "FileVolume", name := "isOnDisk", desc := "(II)Z" } : Jvm.MethodName) prog_1_method_28_code (2 : Nat) (Option.some Jvm.ClassFile.FieldType.boolean)) ∈ am_tw := am_mem 260 (by decide +kernel) (by decide +kernel)
theorem tw_261 : (Jvm.Cond.methodLink "FileVolume" (205 : Nat) ({ cls := "FileVolume$Disk", name := "at", desc := "(I)I" } : Jvm.MethodName)) ∈ am_tw := am_mem 261 (by decide +kernel) (by decide +kernel)
theorem tw_262 : (Jvm.Cond.instanceMethod ({ cls := "FileVolume$Disk", name := "at", desc := "(I)I" } : Jvm.MethodName)) ∈ am_tw := am_mem 262 (by decide +kernel) (by decide +kernel)
theorem tw_263 : (Jvm.Cond.selects "FileVolume$Disk" ({ cls := "FileVolume$Disk", name := "at", desc := "(I)I" } : Jvm.MethodName) ({ cls := "FileVolume$Disk", name := "at", desc := "(I)I" } : Jvm.MethodName)) ∈ am_tw := am_mem 263 (by decide +kernel) (by decide +kernel)
theorem tw_264 : (Jvm.Cond.code ({ cls := "FileVolume$Disk", name := "at", desc := "(I)I" } : Jvm.MethodName) prog_2_method_2_code (2 : Nat) (Option.some Jvm.ClassFile.FieldType.int)) ∈ am_tw := am_mem 264 (by decide +kernel) (by decide +kernel)
theorem tw_278 : (Jvm.Cond.methodLink "FileVolume" (302 : Nat) ({ cls := "FileVolume$Table", name := "countFree", desc := "()I" } : Jvm.MethodName)) ∈ am_tw := am_mem 278 (by decide +kernel) (by decide +kernel)
theorem tw_279 : (Jvm.Cond.instanceMethod ({ cls := "FileVolume$Table", name := "countFree", desc := "()I" } : Jvm.MethodName)) ∈ am_tw := am_mem 279 (by decide +kernel) (by decide +kernel)
theorem tw_280 : (Jvm.Cond.selects "FileVolume$Table" ({ cls := "FileVolume$Table", name := "countFree", desc := "()I" } : Jvm.MethodName) ({ cls := "FileVolume$Table", name := "countFree", desc := "()I" } : Jvm.MethodName)) ∈ am_tw := am_mem 280 (by decide +kernel) (by decide +kernel)
theorem tw_281 : (Jvm.Cond.code ({ cls := "FileVolume$Table", name := "countFree", desc := "()I" } : Jvm.MethodName) prog_7_method_7_code (3 : Nat) (Option.some Jvm.ClassFile.FieldType.int)) ∈ am_tw := am_mem 281 (by decide +kernel) (by decide +kernel)
theorem tw_282 : (Jvm.Cond.methodLink "FileVolume$Table" (28 : Nat) ({ cls := "FileVolume$Table", name := "isFree", desc := "(I)Z" } : Jvm.MethodName)) ∈ am_tw := am_mem 282 (by decide +kernel) (by decide +kernel)
theorem tw_283 : (Jvm.Cond.instanceMethod ({ cls := "FileVolume$Table", name := "isFree", desc := "(I)Z" } : Jvm.MethodName)) ∈ am_tw := am_mem 283 (by decide +kernel) (by decide +kernel)
theorem tw_284 : (Jvm.Cond.selects "FileVolume$Table" ({ cls := "FileVolume$Table", name := "isFree", desc := "(I)Z" } : Jvm.MethodName) ({ cls := "FileVolume$Table", name := "isFree", desc := "(I)Z" } : Jvm.MethodName)) ∈ am_tw := am_mem 284 (by decide +kernel) (by decide +kernel)
theorem tw_285 : (Jvm.Cond.code ({ cls := "FileVolume$Table", name := "isFree", desc := "(I)Z" } : Jvm.MethodName) prog_7_method_6_code (2 : Nat) (Option.some Jvm.ClassFile.FieldType.boolean)) ∈ am_tw := am_mem 285 (by decide +kernel) (by decide +kernel)
theorem tw_286 : (Jvm.Cond.methodLink "FileVolume$Table" (25 : Nat) ({ cls := "FileVolume$Table", name := "cell", desc := "(I)I" } : Jvm.MethodName)) ∈ am_tw := am_mem 286 (by decide +kernel) (by decide +kernel)
theorem tw_287 : (Jvm.Cond.instanceMethod ({ cls := "FileVolume$Table", name := "cell", desc := "(I)I" } : Jvm.MethodName)) ∈ am_tw := am_mem 287 (by decide +kernel) (by decide +kernel)
theorem tw_288 : (Jvm.Cond.selects "FileVolume$Table" ({ cls := "FileVolume$Table", name := "cell", desc := "(I)I" } : Jvm.MethodName) ({ cls := "FileVolume$Table", name := "cell", desc := "(I)I" } : Jvm.MethodName)) ∈ am_tw := am_mem 288 (by decide +kernel) (by decide +kernel)
theorem tw_289 : (Jvm.Cond.code ({ cls := "FileVolume$Table", name := "cell", desc := "(I)I" } : Jvm.MethodName) prog_7_method_2_code (2 : Nat) (Option.some Jvm.ClassFile.FieldType.int)) ∈ am_tw := am_mem 289 (by decide +kernel) (by decide +kernel)
theorem tw_290 : (Jvm.Cond.methodLink "FileVolume$Table" (15 : Nat) ({ cls := "FileVolume$Disk", name := "pairAt", desc := "(I)I" } : Jvm.MethodName)) ∈ am_tw := am_mem 290 (by decide +kernel) (by decide +kernel)
theorem tw_291 : (Jvm.Cond.methodLink "FileVolume" (187 : Nat) ({ cls := "FileVolume$Session", name := "positionOf", desc := "(I)I" } : Jvm.MethodName)) ∈ am_tw := am_mem 291 (by decide +kernel) (by decide +kernel)
theorem tw_292 : (Jvm.Cond.instanceMethod ({ cls := "FileVolume$Session", name := "positionOf", desc := "(I)I" } : Jvm.MethodName)) ∈ am_tw := am_mem 292 (by decide +kernel) (by decide +kernel)
theorem tw_293 : (Jvm.Cond.selects "FileVolume$Session" ({ cls := "FileVolume$Session", name := "positionOf", desc := "(I)I" } : Jvm.MethodName) ({ cls := "FileVolume$Session", name := "positionOf", desc := "(I)I" } : Jvm.MethodName)) ∈ am_tw := am_mem 293 (by decide +kernel) (by decide +kernel)
theorem tw_294 : (Jvm.Cond.code ({ cls := "FileVolume$Session", name := "positionOf", desc := "(I)I" } : Jvm.MethodName) prog_6_method_13_code (2 : Nat) (Option.some Jvm.ClassFile.FieldType.int)) ∈ am_tw := am_mem 294 (by decide +kernel) (by decide +kernel)
