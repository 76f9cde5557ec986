/-! words and classes of the claim: written by program (wip/am/names.py) out of the Statement and the listing -/
def am_tw : List Cond := lw_tbl.filter goodWord
theorem am_mem {w : Cond} (i : Nat) (h : tables_1[i]? = some w) (g : goodWord w = true) : w ∈ am_tw := List.mem_filter.mpr ⟨List.mem_append_right _ (List.mem_of_getElem? h), g⟩
theorem am_memS {w : Cond} (i : Nat) (h : (k2_sels lw_privs)[i]? = some w) (g : goodWord w = true) : w ∈ am_tw := List.mem_filter.mpr ⟨List.mem_append_left _ (List.mem_of_getElem? h), g⟩
theorem am_inw {ws : List Cond} (h : ws.all (fun w => decide (w ∈ tables_1) && goodWord w) = true) : ∀ w ∈ ws, w ∈ am_tw := by
  intro w hw
  have h1 := List.all_eq_true.mp h w hw
  simp only [Bool.and_eq_true, decide_eq_true_eq] at h1
  exact List.mem_filter.mpr ⟨List.mem_append_right _ h1.1, h1.2⟩
def T_Disk : u_T := fun k => match k with
  | 0 => ("FileVolume$Disk", "bytes", "[I", true)
  | 1 => ("FileVolume$Disk", "session", "LFileVolume$Session;", true)
  | 2 => ("FileVolume$Disk", "powered", "Z", false)
  | 3 => ("FileVolume$Disk", "suspect", "Z", false)
  | 4 => ("FileVolume$Disk", "writes", "I", false)
  | 5 => ("FileVolume$Disk", "cutIsSet", "Z", false)
  | _ => ("FileVolume$Disk", "writesBeforeCut", "I", false)
def ft_Disk : Nat → FieldType := fun k => match k with
  | 0 => .array .int
  | 1 => .object "FileVolume$Session"
  | 2 => .boolean
  | 3 => .boolean
  | 4 => .int
  | 5 => .boolean
  | _ => .int
theorem in_Disk : ∀ w ∈ u_ws "FileVolume$Disk" T_Disk 7, w ∈ am_tw := am_inw (by decide +kernel)
theorem typ_Disk : am_typ T_Disk 7 ft_Disk := ⟨by decide +kernel, by decide +kernel⟩
def T_Folder : u_T := fun k => match k with
  | 0 => ("FileVolume$Folder", "disk", "LFileVolume$Disk;", true)
  | 1 => ("FileVolume$Folder", "table", "LFileVolume$Table;", true)
  | 2 => ("FileVolume$Folder", "addresses", "[I", true)
  | 3 => ("FileVolume$Folder", "count", "I", false)
  | _ => ("FileVolume$Folder", "lastCluster", "I", false)
def ft_Folder : Nat → FieldType := fun k => match k with
  | 0 => .object "FileVolume$Disk"
  | 1 => .object "FileVolume$Table"
  | 2 => .array .int
  | 3 => .int
  | _ => .int
theorem in_Folder : ∀ w ∈ u_ws "FileVolume$Folder" T_Folder 5, w ∈ am_tw := am_inw (by decide +kernel)
theorem typ_Folder : am_typ T_Folder 5 ft_Folder := ⟨by decide +kernel, by decide +kernel⟩
def T_Name : u_T := fun k => match k with
  | 0 => ("FileVolume$Name", "text", "[C", true)
  | 1 => ("FileVolume$Name", "brief", "[I", true)
  | 2 => ("FileVolume$Name", "length", "I", false)
  | _ => ("FileVolume$Name", "parts", "I", false)
def ft_Name : Nat → FieldType := fun k => match k with
  | 0 => .array .char
  | 1 => .array .int
  | 2 => .int
  | _ => .int
theorem in_Name : ∀ w ∈ u_ws "FileVolume$Name" T_Name 4, w ∈ am_tw := am_inw (by decide +kernel)
theorem typ_Name : am_typ T_Name 4 ft_Name := ⟨by decide +kernel, by decide +kernel⟩
def T_Rep : u_T := fun k => match k with
  | 0 => ("FileVolume$Repairer", "disk", "LFileVolume$Disk;", true)
  | 1 => ("FileVolume$Repairer", "table", "LFileVolume$Table;", true)
  | 2 => ("FileVolume$Repairer", "folder", "LFileVolume$Folder;", true)
  | 3 => ("FileVolume$Repairer", "used", "[Z", true)
  | _ => ("FileVolume$Repairer", "fixes", "I", false)
def ft_Rep : Nat → FieldType := fun k => match k with
  | 0 => .object "FileVolume$Disk"
  | 1 => .object "FileVolume$Table"
  | 2 => .object "FileVolume$Folder"
  | 3 => .array .boolean
  | _ => .int
theorem in_Rep : ∀ w ∈ u_ws "FileVolume$Repairer" T_Rep 5, w ∈ am_tw := am_inw (by decide +kernel)
theorem typ_Rep : am_typ T_Rep 5 ft_Rep := ⟨by decide +kernel, by decide +kernel⟩
def T_Ses : u_T := fun k => match k with
  | 0 => ("FileVolume$Session", "line", "[C", true)
  | 1 => ("FileVolume$Session", "entries", "[I", true)
  | 2 => ("FileVolume$Session", "positions", "[I", true)
  | 3 => ("FileVolume$Session", "lineLength", "I", false)
  | 4 => ("FileVolume$Session", "here", "I", false)
  | _ => ("FileVolume$Session", "depth", "I", false)
def ft_Ses : Nat → FieldType := fun k => match k with
  | 0 => .array .char
  | 1 => .array .int
  | 2 => .array .int
  | 3 => .int
  | 4 => .int
  | _ => .int
theorem in_Ses : ∀ w ∈ u_ws "FileVolume$Session" T_Ses 6, w ∈ am_tw := am_inw (by decide +kernel)
theorem typ_Ses : am_typ T_Ses 6 ft_Ses := ⟨by decide +kernel, by decide +kernel⟩
def T_Table : u_T := fun k => match k with
  | _ => ("FileVolume$Table", "disk", "LFileVolume$Disk;", true)
def ft_Table : Nat → FieldType := fun k => match k with
  | _ => .object "FileVolume$Disk"
theorem in_Table : ∀ w ∈ u_ws "FileVolume$Table" T_Table 1, w ∈ am_tw := am_inw (by decide +kernel)
theorem typ_Table : am_typ T_Table 1 ft_Table := ⟨by decide +kernel, by decide +kernel⟩
def T_V : u_T := fun k => match k with
  | 0 => ("FileVolume", "session", "LFileVolume$Session;", true)
  | 1 => ("FileVolume", "disk", "LFileVolume$Disk;", true)
  | 2 => ("FileVolume", "table", "LFileVolume$Table;", true)
  | 3 => ("FileVolume", "folder", "LFileVolume$Folder;", true)
  | 4 => ("FileVolume", "below", "LFileVolume$Folder;", true)
  | 5 => ("FileVolume", "repairer", "LFileVolume$Repairer;", true)
  | 6 => ("FileVolume", "name", "LFileVolume$Name;", true)
  | _ => ("FileVolume", "row", "[I", true)
def ft_V : Nat → FieldType := fun k => match k with
  | 0 => .object "FileVolume$Session"
  | 1 => .object "FileVolume$Disk"
  | 2 => .object "FileVolume$Table"
  | 3 => .object "FileVolume$Folder"
  | 4 => .object "FileVolume$Folder"
  | 5 => .object "FileVolume$Repairer"
  | 6 => .object "FileVolume$Name"
  | _ => .array .int
theorem in_V : ∀ w ∈ u_ws "FileVolume" T_V 8, w ∈ am_tw := am_inw (by decide +kernel)
theorem typ_V : am_typ T_V 8 ft_V := ⟨by decide +kernel, by decide +kernel⟩
def T_M : u_T := fun k => match k with
  | 0 => ("FileVolumeModel", "thrown", "I", false)
  | 1 => ("FileVolumeModel", "disk", "[I", true)
  | 2 => ("FileVolumeModel", "on", "Z", false)
  | 3 => ("FileVolumeModel", "suspect", "Z", false)
  | 4 => ("FileVolumeModel", "dead", "Z", false)
  | 5 => ("FileVolumeModel", "writes", "I", false)
  | 6 => ("FileVolumeModel", "cut", "I", false)
  | 7 => ("FileVolumeModel", "line", "[I", true)
  | 8 => ("FileVolumeModel", "typed", "I", false)
  | 9 => ("FileVolumeModel", "here", "I", false)
  | 10 => ("FileVolumeModel", "depth", "I", false)
  | 11 => ("FileVolumeModel", "open", "[I", true)
  | 12 => ("FileVolumeModel", "position", "[I", true)
  | 13 => ("FileVolumeModel", "name", "[I", true)
  | 14 => ("FileVolumeModel", "parts", "I", false)
  | 15 => ("FileVolumeModel", "used", "[Z", true)
  | 16 => ("FileVolumeModel", "chain", "[I", true)
  | 17 => ("FileVolumeModel", "way", "[I", true)
  | 18 => ("FileVolumeModel", "next", "[I", true)
  | _ => ("FileVolumeModel", "fixes", "I", false)
def ft_M : Nat → FieldType := fun k => match k with
  | 0 => .int
  | 1 => .array .int
  | 2 => .boolean
  | 3 => .boolean
  | 4 => .boolean
  | 5 => .int
  | 6 => .int
  | 7 => .array .int
  | 8 => .int
  | 9 => .int
  | 10 => .int
  | 11 => .array .int
  | 12 => .array .int
  | 13 => .array .int
  | 14 => .int
  | 15 => .array .boolean
  | 16 => .array .int
  | 17 => .array .int
  | 18 => .array .int
  | _ => .int
theorem in_M : ∀ w ∈ u_ws "FileVolumeModel" T_M 20, w ∈ am_tw := am_inw (by decide +kernel)
theorem typ_M : am_typ T_M 20 ft_M := ⟨by decide +kernel, by decide +kernel⟩
abbrev am_cls : List vw_C := [("FileVolume$Disk", T_Disk, 7), ("FileVolume$Folder", T_Folder, 5), ("FileVolume$Name", T_Name, 4), ("FileVolume$Repairer", T_Rep, 5), ("FileVolume$Session", T_Ses, 6), ("FileVolume$Table", T_Table, 1), ("FileVolume", T_V, 8), ("FileVolumeModel", T_M, 20)]
def am_nws : List Cond := tables_1.filter (fun w => !goodWord w && am_nest w)
theorem am_nmem {w : Cond} (i : Nat) (h : tables_1[i]? = some w) (g : (!goodWord w && am_nest w) = true) : w ∈ am_nws := List.mem_filter.mpr ⟨List.mem_of_getElem? h, g⟩
def am_sls : List (String × Nat × String) := [("FileVolume", 308, "no power, or the disk is suspect"), ("FileVolume", 82, "no good name or no such kind"), ("FileVolume", 108, "too deep, called so already, or no short name"), ("FileVolume$Disk", 40, "the power was cut"), ("FileVolume", 115, "no room"), ("FileVolume", 130, "nothing is called so"), ("FileVolume", 137, "it is open or not empty"), ("FileVolume", 154, "no directory is called so"), ("FileVolume", 159, "no file is called so"), ("FileVolume", 164, "all handles are open"), ("FileVolume", 185, "not open, or not 1 to 7 bytes"), ("FileVolume", 208, "not open, or not 1 to 8 bytes"), ("FileVolume", 210, "the file would be too great"), ("FileVolume", 228, "so many there are not"), ("FileVolume", 235, "nothing to list"), ("FileVolume", 268, "no power")]
abbrev am_kk (l : Launch) (D : va_G) (dA : FieldType → ClassId) : am_K := (l, D, dA, am_cls, am_nws, am_sls)
abbrev y_Ses_append : MethodName := ({ cls := "FileVolume$Session", name := "append", desc := "(C)Z" } : Jvm.MethodName)
def ws_Ses_append : List Cond := .code y_Ses_append prog_6_method_2_code 2 (some .boolean) :: am_tw
theorem hd_Ses_append : y_Ses_append.cls ≠ "java/lang/invoke/MethodHandle" ∧ y_Ses_append.cls ≠ "java/lang/invoke/VarHandle" ∧ (parseMethodDescriptor y_Ses_append.desc).map (fun d => d.parameters.length) = some 1 := by decide +kernel
abbrev y_V_type : MethodName := ({ cls := "FileVolume", name := "type", desc := "(C)Z" } : Jvm.MethodName)
def ws_V_type : List Cond := .code y_V_type prog_1_method_2_code 2 (some .boolean) :: am_tw
theorem hd_V_type : y_V_type.cls ≠ "java/lang/invoke/MethodHandle" ∧ y_V_type.cls ≠ "java/lang/invoke/VarHandle" ∧ (parseMethodDescriptor y_V_type.desc).map (fun d => d.parameters.length) = some 1 := by decide +kernel
abbrev y_V_demandSoundDisk : MethodName := ({ cls := "FileVolume", name := "demandSoundDisk", desc := "()V" } : Jvm.MethodName)
def ws_V_demandSoundDisk : List Cond := .code y_V_demandSoundDisk prog_1_method_18_code 1 none :: am_tw
theorem hd_V_demandSoundDisk : y_V_demandSoundDisk.cls ≠ "java/lang/invoke/MethodHandle" ∧ y_V_demandSoundDisk.cls ≠ "java/lang/invoke/VarHandle" ∧ (parseMethodDescriptor y_V_demandSoundDisk.desc).map (fun d => d.parameters.length) = some 0 := by decide +kernel
abbrev y_Name_takeLineOf : MethodName := ({ cls := "FileVolume$Name", name := "takeLineOf", desc := "(LFileVolume$Session;)V" } : Jvm.MethodName)
def ws_Name_takeLineOf : List Cond := .code y_Name_takeLineOf prog_4_method_2_code 3 none :: am_tw
theorem hd_Name_takeLineOf : y_Name_takeLineOf.cls ≠ "java/lang/invoke/MethodHandle" ∧ y_Name_takeLineOf.cls ≠ "java/lang/invoke/VarHandle" ∧ (parseMethodDescriptor y_Name_takeLineOf.desc).map (fun d => d.parameters.length) = some 1 := by decide +kernel
abbrev y_Name_charAt : MethodName := ({ cls := "FileVolume$Name", name := "charAt", desc := "(I)I" } : Jvm.MethodName)
def ws_Name_charAt : List Cond := .code y_Name_charAt prog_4_method_3_code 2 (some .int) :: am_tw
theorem hd_Name_charAt : y_Name_charAt.cls ≠ "java/lang/invoke/MethodHandle" ∧ y_Name_charAt.cls ≠ "java/lang/invoke/VarHandle" ∧ (parseMethodDescriptor y_Name_charAt.desc).map (fun d => d.parameters.length) = some 1 := by decide +kernel
abbrev y_Name_isGood : MethodName := ({ cls := "FileVolume$Name", name := "isGood", desc := "()Z" } : Jvm.MethodName)
def ws_Name_isGood : List Cond := .code y_Name_isGood prog_4_method_4_code 1 (some .boolean) :: am_tw
theorem hd_Name_isGood : y_Name_isGood.cls ≠ "java/lang/invoke/MethodHandle" ∧ y_Name_isGood.cls ≠ "java/lang/invoke/VarHandle" ∧ (parseMethodDescriptor y_Name_isGood.desc).map (fun d => d.parameters.length) = some 0 := by decide +kernel
abbrev y_V_isCluster : MethodName := ({ cls := "FileVolume", name := "isCluster", desc := "(I)Z" } : Jvm.MethodName)
def ws_V_isCluster : List Cond := .code y_V_isCluster prog_1_method_29_code 1 (some .boolean) :: am_tw
theorem hd_V_isCluster : y_V_isCluster.cls ≠ "java/lang/invoke/MethodHandle" ∧ y_V_isCluster.cls ≠ "java/lang/invoke/VarHandle" ∧ (parseMethodDescriptor y_V_isCluster.desc).map (fun d => d.parameters.length) = some 1 := by decide +kernel
abbrev y_V_sectorOf : MethodName := ({ cls := "FileVolume", name := "sectorOf", desc := "(I)I" } : Jvm.MethodName)
def ws_V_sectorOf : List Cond := .code y_V_sectorOf prog_1_method_30_code 1 (some .int) :: am_tw
theorem hd_V_sectorOf : y_V_sectorOf.cls ≠ "java/lang/invoke/MethodHandle" ∧ y_V_sectorOf.cls ≠ "java/lang/invoke/VarHandle" ∧ (parseMethodDescriptor y_V_sectorOf.desc).map (fun d => d.parameters.length) = some 1 := by decide +kernel
abbrev y_Disk_pairAt : MethodName := ({ cls := "FileVolume$Disk", name := "pairAt", desc := "(I)I" } : Jvm.MethodName)
def ws_Disk_pairAt : List Cond := .code y_Disk_pairAt prog_2_method_3_code 3 (some .int) :: am_tw
theorem hd_Disk_pairAt : y_Disk_pairAt.cls ≠ "java/lang/invoke/MethodHandle" ∧ y_Disk_pairAt.cls ≠ "java/lang/invoke/VarHandle" ∧ (parseMethodDescriptor y_Disk_pairAt.desc).map (fun d => d.parameters.length) = some 1 := by decide +kernel
abbrev y_Table_cell : MethodName := ({ cls := "FileVolume$Table", name := "cell", desc := "(I)I" } : Jvm.MethodName)
def ws_Table_cell : List Cond := .code y_Table_cell prog_7_method_2_code 2 (some .int) :: am_tw
theorem hd_Table_cell : y_Table_cell.cls ≠ "java/lang/invoke/MethodHandle" ∧ y_Table_cell.cls ≠ "java/lang/invoke/VarHandle" ∧ (parseMethodDescriptor y_Table_cell.desc).map (fun d => d.parameters.length) = some 1 := by decide +kernel
abbrev y_Folder_load : MethodName := ({ cls := "FileVolume$Folder", name := "load", desc := "(I)V" } : Jvm.MethodName)
def ws_Folder_load : List Cond := .code y_Folder_load prog_3_method_2_code 5 none :: am_tw
theorem hd_Folder_load : y_Folder_load.cls ≠ "java/lang/invoke/MethodHandle" ∧ y_Folder_load.cls ≠ "java/lang/invoke/VarHandle" ∧ (parseMethodDescriptor y_Folder_load.desc).map (fun d => d.parameters.length) = some 1 := by decide +kernel
abbrev y_Disk_at : MethodName := ({ cls := "FileVolume$Disk", name := "at", desc := "(I)I" } : Jvm.MethodName)
def ws_Disk_at : List Cond := .code y_Disk_at prog_2_method_2_code 2 (some .int) :: am_tw
theorem hd_Disk_at : y_Disk_at.cls ≠ "java/lang/invoke/MethodHandle" ∧ y_Disk_at.cls ≠ "java/lang/invoke/VarHandle" ∧ (parseMethodDescriptor y_Disk_at.desc).map (fun d => d.parameters.length) = some 1 := by decide +kernel
abbrev y_Folder_byteOf : MethodName := ({ cls := "FileVolume$Folder", name := "byteOf", desc := "(II)I" } : Jvm.MethodName)
def ws_Folder_byteOf : List Cond := .code y_Folder_byteOf prog_3_method_4_code 3 (some .int) :: am_tw
theorem hd_Folder_byteOf : y_Folder_byteOf.cls ≠ "java/lang/invoke/MethodHandle" ∧ y_Folder_byteOf.cls ≠ "java/lang/invoke/VarHandle" ∧ (parseMethodDescriptor y_Folder_byteOf.desc).map (fun d => d.parameters.length) = some 2 := by decide +kernel
abbrev y_Folder_kindOf : MethodName := ({ cls := "FileVolume$Folder", name := "kindOf", desc := "(I)I" } : Jvm.MethodName)
def ws_Folder_kindOf : List Cond := .code y_Folder_kindOf prog_3_method_7_code 2 (some .int) :: am_tw
theorem hd_Folder_kindOf : y_Folder_kindOf.cls ≠ "java/lang/invoke/MethodHandle" ∧ y_Folder_kindOf.cls ≠ "java/lang/invoke/VarHandle" ∧ (parseMethodDescriptor y_Folder_kindOf.desc).map (fun d => d.parameters.length) = some 1 := by decide +kernel
abbrev y_Folder_isNamed : MethodName := ({ cls := "FileVolume$Folder", name := "isNamed", desc := "(I)Z" } : Jvm.MethodName)
def ws_Folder_isNamed : List Cond := .code y_Folder_isNamed prog_3_method_10_code 4 (some .boolean) :: am_tw
theorem hd_Folder_isNamed : y_Folder_isNamed.cls ≠ "java/lang/invoke/MethodHandle" ∧ y_Folder_isNamed.cls ≠ "java/lang/invoke/VarHandle" ∧ (parseMethodDescriptor y_Folder_isNamed.desc).map (fun d => d.parameters.length) = some 1 := by decide +kernel
abbrev y_Folder_shortLengthOf : MethodName := ({ cls := "FileVolume$Folder", name := "shortLengthOf", desc := "(I)I" } : Jvm.MethodName)
def ws_Folder_shortLengthOf : List Cond := .code y_Folder_shortLengthOf prog_3_method_20_code 4 (some .int) :: am_tw
theorem hd_Folder_shortLengthOf : y_Folder_shortLengthOf.cls ≠ "java/lang/invoke/MethodHandle" ∧ y_Folder_shortLengthOf.cls ≠ "java/lang/invoke/VarHandle" ∧ (parseMethodDescriptor y_Folder_shortLengthOf.desc).map (fun d => d.parameters.length) = some 1 := by decide +kernel
abbrev y_V_capital : MethodName := ({ cls := "FileVolume", name := "capital", desc := "(I)I" } : Jvm.MethodName)
def ws_V_capital : List Cond := .code y_V_capital prog_1_method_32_code 1 (some .int) :: am_tw
theorem hd_V_capital : y_V_capital.cls ≠ "java/lang/invoke/MethodHandle" ∧ y_V_capital.cls ≠ "java/lang/invoke/VarHandle" ∧ (parseMethodDescriptor y_V_capital.desc).map (fun d => d.parameters.length) = some 1 := by decide +kernel
abbrev y_Folder_isShortCalled : MethodName := ({ cls := "FileVolume$Folder", name := "isShortCalled", desc := "(ILFileVolume$Name;)Z" } : Jvm.MethodName)
def ws_Folder_isShortCalled : List Cond := .code y_Folder_isShortCalled prog_3_method_16_code 4 (some .boolean) :: am_tw
theorem hd_Folder_isShortCalled : y_Folder_isShortCalled.cls ≠ "java/lang/invoke/MethodHandle" ∧ y_Folder_isShortCalled.cls ≠ "java/lang/invoke/VarHandle" ∧ (parseMethodDescriptor y_Folder_isShortCalled.desc).map (fun d => d.parameters.length) = some 2 := by decide +kernel
abbrev y_V_addToSum : MethodName := ({ cls := "FileVolume", name := "addToSum", desc := "(II)I" } : Jvm.MethodName)
def ws_V_addToSum : List Cond := .code y_V_addToSum prog_1_method_33_code 2 (some .int) :: am_tw
theorem hd_V_addToSum : y_V_addToSum.cls ≠ "java/lang/invoke/MethodHandle" ∧ y_V_addToSum.cls ≠ "java/lang/invoke/VarHandle" ∧ (parseMethodDescriptor y_V_addToSum.desc).map (fun d => d.parameters.length) = some 2 := by decide +kernel
abbrev y_Folder_sumOf : MethodName := ({ cls := "FileVolume$Folder", name := "sumOf", desc := "(I)I" } : Jvm.MethodName)
def ws_Folder_sumOf : List Cond := .code y_Folder_sumOf prog_3_method_22_code 4 (some .int) :: am_tw
theorem hd_Folder_sumOf : y_Folder_sumOf.cls ≠ "java/lang/invoke/MethodHandle" ∧ y_Folder_sumOf.cls ≠ "java/lang/invoke/VarHandle" ∧ (parseMethodDescriptor y_Folder_sumOf.desc).map (fun d => d.parameters.length) = some 1 := by decide +kernel
abbrev y_Folder_isPart : MethodName := ({ cls := "FileVolume$Folder", name := "isPart", desc := "(III)Z" } : Jvm.MethodName)
def ws_Folder_isPart : List Cond := .code y_Folder_isPart prog_3_method_24_code 4 (some .boolean) :: am_tw
theorem hd_Folder_isPart : y_Folder_isPart.cls ≠ "java/lang/invoke/MethodHandle" ∧ y_Folder_isPart.cls ≠ "java/lang/invoke/VarHandle" ∧ (parseMethodDescriptor y_Folder_isPart.desc).map (fun d => d.parameters.length) = some 3 := by decide +kernel
abbrev y_Folder_partsOf : MethodName := ({ cls := "FileVolume$Folder", name := "partsOf", desc := "(I)I" } : Jvm.MethodName)
def ws_Folder_partsOf : List Cond := .code y_Folder_partsOf prog_3_method_23_code 4 (some .int) :: am_tw
theorem hd_Folder_partsOf : y_Folder_partsOf.cls ≠ "java/lang/invoke/MethodHandle" ∧ y_Folder_partsOf.cls ≠ "java/lang/invoke/VarHandle" ∧ (parseMethodDescriptor y_Folder_partsOf.desc).map (fun d => d.parameters.length) = some 1 := by decide +kernel
abbrev y_V_placeInPart : MethodName := ({ cls := "FileVolume", name := "placeInPart", desc := "(I)I" } : Jvm.MethodName)
def ws_V_placeInPart : List Cond := .code y_V_placeInPart prog_1_method_34_code 1 (some .int) :: am_tw
theorem hd_V_placeInPart : y_V_placeInPart.cls ≠ "java/lang/invoke/MethodHandle" ∧ y_V_placeInPart.cls ≠ "java/lang/invoke/VarHandle" ∧ (parseMethodDescriptor y_V_placeInPart.desc).map (fun d => d.parameters.length) = some 1 := by decide +kernel
abbrev y_Folder_longByteOf : MethodName := ({ cls := "FileVolume$Folder", name := "longByteOf", desc := "(II)I" } : Jvm.MethodName)
def ws_Folder_longByteOf : List Cond := .code y_Folder_longByteOf prog_3_method_26_code 3 (some .int) :: am_tw
theorem hd_Folder_longByteOf : y_Folder_longByteOf.cls ≠ "java/lang/invoke/MethodHandle" ∧ y_Folder_longByteOf.cls ≠ "java/lang/invoke/VarHandle" ∧ (parseMethodDescriptor y_Folder_longByteOf.desc).map (fun d => d.parameters.length) = some 2 := by decide +kernel
abbrev y_Folder_longLengthOf : MethodName := ({ cls := "FileVolume$Folder", name := "longLengthOf", desc := "(II)I" } : Jvm.MethodName)
def ws_Folder_longLengthOf : List Cond := .code y_Folder_longLengthOf prog_3_method_27_code 4 (some .int) :: am_tw
theorem hd_Folder_longLengthOf : y_Folder_longLengthOf.cls ≠ "java/lang/invoke/MethodHandle" ∧ y_Folder_longLengthOf.cls ≠ "java/lang/invoke/VarHandle" ∧ (parseMethodDescriptor y_Folder_longLengthOf.desc).map (fun d => d.parameters.length) = some 2 := by decide +kernel
abbrev y_Folder_isLongCalled : MethodName := ({ cls := "FileVolume$Folder", name := "isLongCalled", desc := "(ILFileVolume$Name;I)Z" } : Jvm.MethodName)
def ws_Folder_isLongCalled : List Cond := .code y_Folder_isLongCalled prog_3_method_17_code 5 (some .boolean) :: am_tw
theorem hd_Folder_isLongCalled : y_Folder_isLongCalled.cls ≠ "java/lang/invoke/MethodHandle" ∧ y_Folder_isLongCalled.cls ≠ "java/lang/invoke/VarHandle" ∧ (parseMethodDescriptor y_Folder_isLongCalled.desc).map (fun d => d.parameters.length) = some 3 := by decide +kernel
abbrev y_Folder_isCalled : MethodName := ({ cls := "FileVolume$Folder", name := "isCalled", desc := "(ILFileVolume$Name;)Z" } : Jvm.MethodName)
def ws_Folder_isCalled : List Cond := .code y_Folder_isCalled prog_3_method_15_code 3 (some .boolean) :: am_tw
theorem hd_Folder_isCalled : y_Folder_isCalled.cls ≠ "java/lang/invoke/MethodHandle" ∧ y_Folder_isCalled.cls ≠ "java/lang/invoke/VarHandle" ∧ (parseMethodDescriptor y_Folder_isCalled.desc).map (fun d => d.parameters.length) = some 2 := by decide +kernel
abbrev y_Folder_find : MethodName := ({ cls := "FileVolume$Folder", name := "find", desc := "(LFileVolume$Name;I)I" } : Jvm.MethodName)
def ws_Folder_find : List Cond := .code y_Folder_find prog_3_method_14_code 5 (some .int) :: am_tw
theorem hd_Folder_find : y_Folder_find.cls ≠ "java/lang/invoke/MethodHandle" ∧ y_Folder_find.cls ≠ "java/lang/invoke/VarHandle" ∧ (parseMethodDescriptor y_Folder_find.desc).map (fun d => d.parameters.length) = some 2 := by decide +kernel
abbrev y_V_isShortChar : MethodName := ({ cls := "FileVolume", name := "isShortChar", desc := "(I)Z" } : Jvm.MethodName)
def ws_V_isShortChar : List Cond := .code y_V_isShortChar prog_1_method_31_code 1 (some .boolean) :: am_tw
theorem hd_V_isShortChar : y_V_isShortChar.cls ≠ "java/lang/invoke/MethodHandle" ∧ y_V_isShortChar.cls ≠ "java/lang/invoke/VarHandle" ∧ (parseMethodDescriptor y_V_isShortChar.desc).map (fun d => d.parameters.length) = some 1 := by decide +kernel
abbrev y_Name_isShort : MethodName := ({ cls := "FileVolume$Name", name := "isShort", desc := "()Z" } : Jvm.MethodName)
def ws_Name_isShort : List Cond := .code y_Name_isShort prog_4_method_5_code 2 (some .boolean) :: am_tw
theorem hd_Name_isShort : y_Name_isShort.cls ≠ "java/lang/invoke/MethodHandle" ∧ y_Name_isShort.cls ≠ "java/lang/invoke/VarHandle" ∧ (parseMethodDescriptor y_Name_isShort.desc).map (fun d => d.parameters.length) = some 0 := by decide +kernel
abbrev y_Name_copyCapitals : MethodName := ({ cls := "FileVolume$Name", name := "copyCapitals", desc := "(I)I" } : Jvm.MethodName)
def ws_Name_copyCapitals : List Cond := .code y_Name_copyCapitals prog_4_method_7_code 5 (some .int) :: am_tw
theorem hd_Name_copyCapitals : y_Name_copyCapitals.cls ≠ "java/lang/invoke/MethodHandle" ∧ y_Name_copyCapitals.cls ≠ "java/lang/invoke/VarHandle" ∧ (parseMethodDescriptor y_Name_copyCapitals.desc).map (fun d => d.parameters.length) = some 1 := by decide +kernel
abbrev y_Folder_isShort : MethodName := ({ cls := "FileVolume$Folder", name := "isShort", desc := "(I[II)Z" } : Jvm.MethodName)
def ws_Folder_isShort : List Cond := .code y_Folder_isShort prog_3_method_19_code 5 (some .boolean) :: am_tw
theorem hd_Folder_isShort : y_Folder_isShort.cls ≠ "java/lang/invoke/MethodHandle" ∧ y_Folder_isShort.cls ≠ "java/lang/invoke/VarHandle" ∧ (parseMethodDescriptor y_Folder_isShort.desc).map (fun d => d.parameters.length) = some 3 := by decide +kernel
abbrev y_Folder_hasShort : MethodName := ({ cls := "FileVolume$Folder", name := "hasShort", desc := "([II)Z" } : Jvm.MethodName)
def ws_Folder_hasShort : List Cond := .code y_Folder_hasShort prog_3_method_18_code 4 (some .boolean) :: am_tw
theorem hd_Folder_hasShort : y_Folder_hasShort.cls ≠ "java/lang/invoke/MethodHandle" ∧ y_Folder_hasShort.cls ≠ "java/lang/invoke/VarHandle" ∧ (parseMethodDescriptor y_Folder_hasShort.desc).map (fun d => d.parameters.length) = some 2 := by decide +kernel
abbrev y_Name_chooseShort : MethodName := ({ cls := "FileVolume$Name", name := "chooseShort", desc := "(LFileVolume$Folder;)Z" } : Jvm.MethodName)
def ws_Name_chooseShort : List Cond := .code y_Name_chooseShort prog_4_method_6_code 4 (some .boolean) :: am_tw
theorem hd_Name_chooseShort : y_Name_chooseShort.cls ≠ "java/lang/invoke/MethodHandle" ∧ y_Name_chooseShort.cls ≠ "java/lang/invoke/VarHandle" ∧ (parseMethodDescriptor y_Name_chooseShort.desc).map (fun d => d.parameters.length) = some 1 := by decide +kernel
abbrev y_Table_isFree : MethodName := ({ cls := "FileVolume$Table", name := "isFree", desc := "(I)Z" } : Jvm.MethodName)
def ws_Table_isFree : List Cond := .code y_Table_isFree prog_7_method_6_code 2 (some .boolean) :: am_tw
theorem hd_Table_isFree : y_Table_isFree.cls ≠ "java/lang/invoke/MethodHandle" ∧ y_Table_isFree.cls ≠ "java/lang/invoke/VarHandle" ∧ (parseMethodDescriptor y_Table_isFree.desc).map (fun d => d.parameters.length) = some 1 := by decide +kernel
abbrev y_Table_leastFree : MethodName := ({ cls := "FileVolume$Table", name := "leastFree", desc := "()I" } : Jvm.MethodName)
def ws_Table_leastFree : List Cond := .code y_Table_leastFree prog_7_method_8_code 2 (some .int) :: am_tw
theorem hd_Table_leastFree : y_Table_leastFree.cls ≠ "java/lang/invoke/MethodHandle" ∧ y_Table_leastFree.cls ≠ "java/lang/invoke/VarHandle" ∧ (parseMethodDescriptor y_Table_leastFree.desc).map (fun d => d.parameters.length) = some 0 := by decide +kernel
abbrev y_Ses_leave : MethodName := ({ cls := "FileVolume$Session", name := "leave", desc := "()V" } : Jvm.MethodName)
def ws_Ses_leave : List Cond := .code y_Ses_leave prog_6_method_5_code 2 none :: am_tw
theorem hd_Ses_leave : y_Ses_leave.cls ≠ "java/lang/invoke/MethodHandle" ∧ y_Ses_leave.cls ≠ "java/lang/invoke/VarHandle" ∧ (parseMethodDescriptor y_Ses_leave.desc).map (fun d => d.parameters.length) = some 0 := by decide +kernel
abbrev y_Disk_countWrite : MethodName := ({ cls := "FileVolume$Disk", name := "countWrite", desc := "()V" } : Jvm.MethodName)
def ws_Disk_countWrite : List Cond := .code y_Disk_countWrite prog_2_method_7_code 1 none :: am_tw
theorem hd_Disk_countWrite : y_Disk_countWrite.cls ≠ "java/lang/invoke/MethodHandle" ∧ y_Disk_countWrite.cls ≠ "java/lang/invoke/VarHandle" ∧ (parseMethodDescriptor y_Disk_countWrite.desc).map (fun d => d.parameters.length) = some 0 := by decide +kernel
abbrev y_Disk_put : MethodName := ({ cls := "FileVolume$Disk", name := "put", desc := "(II)V" } : Jvm.MethodName)
def ws_Disk_put : List Cond := .code y_Disk_put prog_2_method_4_code 3 none :: am_tw
theorem hd_Disk_put : y_Disk_put.cls ≠ "java/lang/invoke/MethodHandle" ∧ y_Disk_put.cls ≠ "java/lang/invoke/VarHandle" ∧ (parseMethodDescriptor y_Disk_put.desc).map (fun d => d.parameters.length) = some 2 := by decide +kernel
abbrev y_Disk_writePair : MethodName := ({ cls := "FileVolume$Disk", name := "writePair", desc := "(II)V" } : Jvm.MethodName)
def ws_Disk_writePair : List Cond := .code y_Disk_writePair prog_2_method_9_code 3 none :: am_tw
theorem hd_Disk_writePair : y_Disk_writePair.cls ≠ "java/lang/invoke/MethodHandle" ∧ y_Disk_writePair.cls ≠ "java/lang/invoke/VarHandle" ∧ (parseMethodDescriptor y_Disk_writePair.desc).map (fun d => d.parameters.length) = some 2 := by decide +kernel
abbrev y_Table_set : MethodName := ({ cls := "FileVolume$Table", name := "set", desc := "(II)V" } : Jvm.MethodName)
def ws_Table_set : List Cond := .code y_Table_set prog_7_method_4_code 3 none :: am_tw
theorem hd_Table_set : y_Table_set.cls ≠ "java/lang/invoke/MethodHandle" ∧ y_Table_set.cls ≠ "java/lang/invoke/VarHandle" ∧ (parseMethodDescriptor y_Table_set.desc).map (fun d => d.parameters.length) = some 2 := by decide +kernel
abbrev y_Disk_clearSector : MethodName := ({ cls := "FileVolume$Disk", name := "clearSector", desc := "(I)V" } : Jvm.MethodName)
def ws_Disk_clearSector : List Cond := .code y_Disk_clearSector prog_2_method_11_code 3 none :: am_tw
theorem hd_Disk_clearSector : y_Disk_clearSector.cls ≠ "java/lang/invoke/MethodHandle" ∧ y_Disk_clearSector.cls ≠ "java/lang/invoke/VarHandle" ∧ (parseMethodDescriptor y_Disk_clearSector.desc).map (fun d => d.parameters.length) = some 1 := by decide +kernel
abbrev y_Table_take : MethodName := ({ cls := "FileVolume$Table", name := "take", desc := "()I" } : Jvm.MethodName)
def ws_Table_take : List Cond := .code y_Table_take prog_7_method_9_code 2 (some .int) :: am_tw
theorem hd_Table_take : y_Table_take.cls ≠ "java/lang/invoke/MethodHandle" ∧ y_Table_take.cls ≠ "java/lang/invoke/VarHandle" ∧ (parseMethodDescriptor y_Table_take.desc).map (fun d => d.parameters.length) = some 0 := by decide +kernel
abbrev y_Folder_isFree : MethodName := ({ cls := "FileVolume$Folder", name := "isFree", desc := "(I)Z" } : Jvm.MethodName)
def ws_Folder_isFree : List Cond := .code y_Folder_isFree prog_3_method_6_code 3 (some .boolean) :: am_tw
theorem hd_Folder_isFree : y_Folder_isFree.cls ≠ "java/lang/invoke/MethodHandle" ∧ y_Folder_isFree.cls ≠ "java/lang/invoke/VarHandle" ∧ (parseMethodDescriptor y_Folder_isFree.desc).map (fun d => d.parameters.length) = some 1 := by decide +kernel
abbrev y_Folder_findFreeRow : MethodName := ({ cls := "FileVolume$Folder", name := "findFreeRow", desc := "(I)I" } : Jvm.MethodName)
def ws_Folder_findFreeRow : List Cond := .code y_Folder_findFreeRow prog_3_method_12_code 4 (some .int) :: am_tw
theorem hd_Folder_findFreeRow : y_Folder_findFreeRow.cls ≠ "java/lang/invoke/MethodHandle" ∧ y_Folder_findFreeRow.cls ≠ "java/lang/invoke/VarHandle" ∧ (parseMethodDescriptor y_Folder_findFreeRow.desc).map (fun d => d.parameters.length) = some 1 := by decide +kernel
abbrev y_V_makeFreeRow : MethodName := ({ cls := "FileVolume", name := "makeFreeRow", desc := "(I)I" } : Jvm.MethodName)
def ws_V_makeFreeRow : List Cond := .code y_V_makeFreeRow prog_1_method_19_code 5 (some .int) :: am_tw
theorem hd_V_makeFreeRow : y_V_makeFreeRow.cls ≠ "java/lang/invoke/MethodHandle" ∧ y_V_makeFreeRow.cls ≠ "java/lang/invoke/VarHandle" ∧ (parseMethodDescriptor y_V_makeFreeRow.desc).map (fun d => d.parameters.length) = some 1 := by decide +kernel
abbrev y_Name_sum : MethodName := ({ cls := "FileVolume$Name", name := "sum", desc := "()I" } : Jvm.MethodName)
def ws_Name_sum : List Cond := .code y_Name_sum prog_4_method_8_code 3 (some .int) :: am_tw
theorem hd_Name_sum : y_Name_sum.cls ≠ "java/lang/invoke/MethodHandle" ∧ y_Name_sum.cls ≠ "java/lang/invoke/VarHandle" ∧ (parseMethodDescriptor y_Name_sum.desc).map (fun d => d.parameters.length) = some 0 := by decide +kernel
abbrev y_Name_fillPart : MethodName := ({ cls := "FileVolume$Name", name := "fillPart", desc := "(I[I)V" } : Jvm.MethodName)
def ws_Name_fillPart : List Cond := .code y_Name_fillPart prog_4_method_9_code 4 none :: am_tw
theorem hd_Name_fillPart : y_Name_fillPart.cls ≠ "java/lang/invoke/MethodHandle" ∧ y_Name_fillPart.cls ≠ "java/lang/invoke/VarHandle" ∧ (parseMethodDescriptor y_Name_fillPart.desc).map (fun d => d.parameters.length) = some 2 := by decide +kernel
abbrev y_Folder_addressOf : MethodName := ({ cls := "FileVolume$Folder", name := "addressOf", desc := "(I)I" } : Jvm.MethodName)
def ws_Folder_addressOf : List Cond := .code y_Folder_addressOf prog_3_method_3_code 2 (some .int) :: am_tw
theorem hd_Folder_addressOf : y_Folder_addressOf.cls ≠ "java/lang/invoke/MethodHandle" ∧ y_Folder_addressOf.cls ≠ "java/lang/invoke/VarHandle" ∧ (parseMethodDescriptor y_Folder_addressOf.desc).map (fun d => d.parameters.length) = some 1 := by decide +kernel
abbrev y_Disk_writeRow : MethodName := ({ cls := "FileVolume$Disk", name := "writeRow", desc := "(I[III)V" } : Jvm.MethodName)
def ws_Disk_writeRow : List Cond := .code y_Disk_writeRow prog_2_method_10_code 7 none :: am_tw
theorem hd_Disk_writeRow : y_Disk_writeRow.cls ≠ "java/lang/invoke/MethodHandle" ∧ y_Disk_writeRow.cls ≠ "java/lang/invoke/VarHandle" ∧ (parseMethodDescriptor y_Disk_writeRow.desc).map (fun d => d.parameters.length) = some 4 := by decide +kernel
abbrev y_Name_fillEntry : MethodName := ({ cls := "FileVolume$Name", name := "fillEntry", desc := "(II[I)V" } : Jvm.MethodName)
def ws_Name_fillEntry : List Cond := .code y_Name_fillEntry prog_4_method_10_code 5 none :: am_tw
theorem hd_Name_fillEntry : y_Name_fillEntry.cls ≠ "java/lang/invoke/MethodHandle" ∧ y_Name_fillEntry.cls ≠ "java/lang/invoke/VarHandle" ∧ (parseMethodDescriptor y_Name_fillEntry.desc).map (fun d => d.parameters.length) = some 3 := by decide +kernel
abbrev y_V_writeEntries : MethodName := ({ cls := "FileVolume", name := "writeEntries", desc := "(III)V" } : Jvm.MethodName)
def ws_V_writeEntries : List Cond := .code y_V_writeEntries prog_1_method_20_code 5 none :: am_tw
theorem hd_V_writeEntries : y_V_writeEntries.cls ≠ "java/lang/invoke/MethodHandle" ∧ y_V_writeEntries.cls ≠ "java/lang/invoke/VarHandle" ∧ (parseMethodDescriptor y_V_writeEntries.desc).map (fun d => d.parameters.length) = some 3 := by decide +kernel
abbrev y_V_create : MethodName := ({ cls := "FileVolume", name := "create", desc := "(I)V" } : Jvm.MethodName)
def ws_V_create : List Cond := .code y_V_create prog_1_method_3_code 5 none :: am_tw
theorem hd_V_create : y_V_create.cls ≠ "java/lang/invoke/MethodHandle" ∧ y_V_create.cls ≠ "java/lang/invoke/VarHandle" ∧ (parseMethodDescriptor y_V_create.desc).map (fun d => d.parameters.length) = some 1 := by decide +kernel
abbrev y_Ses_holds : MethodName := ({ cls := "FileVolume$Session", name := "holds", desc := "(I)Z" } : Jvm.MethodName)
def ws_Ses_holds : List Cond := .code y_Ses_holds prog_6_method_8_code 3 (some .boolean) :: am_tw
theorem hd_Ses_holds : y_Ses_holds.cls ≠ "java/lang/invoke/MethodHandle" ∧ y_Ses_holds.cls ≠ "java/lang/invoke/VarHandle" ∧ (parseMethodDescriptor y_Ses_holds.desc).map (fun d => d.parameters.length) = some 1 := by decide +kernel
abbrev y_Folder_pairOf : MethodName := ({ cls := "FileVolume$Folder", name := "pairOf", desc := "(II)I" } : Jvm.MethodName)
def ws_Folder_pairOf : List Cond := .code y_Folder_pairOf prog_3_method_5_code 3 (some .int) :: am_tw
theorem hd_Folder_pairOf : y_Folder_pairOf.cls ≠ "java/lang/invoke/MethodHandle" ∧ y_Folder_pairOf.cls ≠ "java/lang/invoke/VarHandle" ∧ (parseMethodDescriptor y_Folder_pairOf.desc).map (fun d => d.parameters.length) = some 2 := by decide +kernel
abbrev y_Folder_firstClusterOf : MethodName := ({ cls := "FileVolume$Folder", name := "firstClusterOf", desc := "(I)I" } : Jvm.MethodName)
def ws_Folder_firstClusterOf : List Cond := .code y_Folder_firstClusterOf prog_3_method_8_code 2 (some .int) :: am_tw
theorem hd_Folder_firstClusterOf : y_Folder_firstClusterOf.cls ≠ "java/lang/invoke/MethodHandle" ∧ y_Folder_firstClusterOf.cls ≠ "java/lang/invoke/VarHandle" ∧ (parseMethodDescriptor y_Folder_firstClusterOf.desc).map (fun d => d.parameters.length) = some 1 := by decide +kernel
abbrev y_Folder_isEmpty : MethodName := ({ cls := "FileVolume$Folder", name := "isEmpty", desc := "()Z" } : Jvm.MethodName)
def ws_Folder_isEmpty : List Cond := .code y_Folder_isEmpty prog_3_method_11_code 2 (some .boolean) :: am_tw
theorem hd_Folder_isEmpty : y_Folder_isEmpty.cls ≠ "java/lang/invoke/MethodHandle" ∧ y_Folder_isEmpty.cls ≠ "java/lang/invoke/VarHandle" ∧ (parseMethodDescriptor y_Folder_isEmpty.desc).map (fun d => d.parameters.length) = some 0 := by decide +kernel
abbrev y_V_canBeDeleted : MethodName := ({ cls := "FileVolume", name := "canBeDeleted", desc := "(I)Z" } : Jvm.MethodName)
def ws_V_canBeDeleted : List Cond := .code y_V_canBeDeleted prog_1_method_21_code 2 (some .boolean) :: am_tw
theorem hd_V_canBeDeleted : y_V_canBeDeleted.cls ≠ "java/lang/invoke/MethodHandle" ∧ y_V_canBeDeleted.cls ≠ "java/lang/invoke/VarHandle" ∧ (parseMethodDescriptor y_V_canBeDeleted.desc).map (fun d => d.parameters.length) = some 1 := by decide +kernel
abbrev y_Disk_writeByte : MethodName := ({ cls := "FileVolume$Disk", name := "writeByte", desc := "(II)V" } : Jvm.MethodName)
def ws_Disk_writeByte : List Cond := .code y_Disk_writeByte prog_2_method_8_code 3 none :: am_tw
theorem hd_Disk_writeByte : y_Disk_writeByte.cls ≠ "java/lang/invoke/MethodHandle" ∧ y_Disk_writeByte.cls ≠ "java/lang/invoke/VarHandle" ∧ (parseMethodDescriptor y_Disk_writeByte.desc).map (fun d => d.parameters.length) = some 2 := by decide +kernel
abbrev y_Folder_markFreed : MethodName := ({ cls := "FileVolume$Folder", name := "markFreed", desc := "(I)V" } : Jvm.MethodName)
def ws_Folder_markFreed : List Cond := .code y_Folder_markFreed prog_3_method_29_code 3 none :: am_tw
theorem hd_Folder_markFreed : y_Folder_markFreed.cls ≠ "java/lang/invoke/MethodHandle" ∧ y_Folder_markFreed.cls ≠ "java/lang/invoke/VarHandle" ∧ (parseMethodDescriptor y_Folder_markFreed.desc).map (fun d => d.parameters.length) = some 1 := by decide +kernel
abbrev y_Table_release : MethodName := ({ cls := "FileVolume$Table", name := "release", desc := "(I)V" } : Jvm.MethodName)
def ws_Table_release : List Cond := .code y_Table_release prog_7_method_10_code 5 none :: am_tw
theorem hd_Table_release : y_Table_release.cls ≠ "java/lang/invoke/MethodHandle" ∧ y_Table_release.cls ≠ "java/lang/invoke/VarHandle" ∧ (parseMethodDescriptor y_Table_release.desc).map (fun d => d.parameters.length) = some 1 := by decide +kernel
abbrev y_V_delete : MethodName := ({ cls := "FileVolume", name := "delete", desc := "()V" } : Jvm.MethodName)
def ws_V_delete : List Cond := .code y_V_delete prog_1_method_4_code 2 none :: am_tw
theorem hd_V_delete : y_V_delete.cls ≠ "java/lang/invoke/MethodHandle" ∧ y_V_delete.cls ≠ "java/lang/invoke/VarHandle" ∧ (parseMethodDescriptor y_V_delete.desc).map (fun d => d.parameters.length) = some 0 := by decide +kernel
abbrev y_Ses_goToRoot : MethodName := ({ cls := "FileVolume$Session", name := "goToRoot", desc := "()V" } : Jvm.MethodName)
def ws_Ses_goToRoot : List Cond := .code y_Ses_goToRoot prog_6_method_3_code 1 none :: am_tw
theorem hd_Ses_goToRoot : y_Ses_goToRoot.cls ≠ "java/lang/invoke/MethodHandle" ∧ y_Ses_goToRoot.cls ≠ "java/lang/invoke/VarHandle" ∧ (parseMethodDescriptor y_Ses_goToRoot.desc).map (fun d => d.parameters.length) = some 0 := by decide +kernel
abbrev y_Ses_goDown : MethodName := ({ cls := "FileVolume$Session", name := "goDown", desc := "(I)V" } : Jvm.MethodName)
def ws_Ses_goDown : List Cond := .code y_Ses_goDown prog_6_method_4_code 2 none :: am_tw
theorem hd_Ses_goDown : y_Ses_goDown.cls ≠ "java/lang/invoke/MethodHandle" ∧ y_Ses_goDown.cls ≠ "java/lang/invoke/VarHandle" ∧ (parseMethodDescriptor y_Ses_goDown.desc).map (fun d => d.parameters.length) = some 1 := by decide +kernel
abbrev y_V_enter : MethodName := ({ cls := "FileVolume", name := "enter", desc := "()V" } : Jvm.MethodName)
def ws_V_enter : List Cond := .code y_V_enter prog_1_method_5_code 2 none :: am_tw
theorem hd_V_enter : y_V_enter.cls ≠ "java/lang/invoke/MethodHandle" ∧ y_V_enter.cls ≠ "java/lang/invoke/VarHandle" ∧ (parseMethodDescriptor y_V_enter.desc).map (fun d => d.parameters.length) = some 0 := by decide +kernel
abbrev y_Ses_leastFreeHandle : MethodName := ({ cls := "FileVolume$Session", name := "leastFreeHandle", desc := "()I" } : Jvm.MethodName)
def ws_Ses_leastFreeHandle : List Cond := .code y_Ses_leastFreeHandle prog_6_method_7_code 2 (some .int) :: am_tw
theorem hd_Ses_leastFreeHandle : y_Ses_leastFreeHandle.cls ≠ "java/lang/invoke/MethodHandle" ∧ y_Ses_leastFreeHandle.cls ≠ "java/lang/invoke/VarHandle" ∧ (parseMethodDescriptor y_Ses_leastFreeHandle.desc).map (fun d => d.parameters.length) = some 0 := by decide +kernel
abbrev y_Ses_hold : MethodName := ({ cls := "FileVolume$Session", name := "hold", desc := "(II)V" } : Jvm.MethodName)
def ws_Ses_hold : List Cond := .code y_Ses_hold prog_6_method_9_code 3 none :: am_tw
theorem hd_Ses_hold : y_Ses_hold.cls ≠ "java/lang/invoke/MethodHandle" ∧ y_Ses_hold.cls ≠ "java/lang/invoke/VarHandle" ∧ (parseMethodDescriptor y_Ses_hold.desc).map (fun d => d.parameters.length) = some 2 := by decide +kernel
abbrev y_V_open : MethodName := ({ cls := "FileVolume", name := "open", desc := "()I" } : Jvm.MethodName)
def ws_V_open : List Cond := .code y_V_open prog_1_method_6_code 3 (some .int) :: am_tw
theorem hd_V_open : y_V_open.cls ≠ "java/lang/invoke/MethodHandle" ∧ y_V_open.cls ≠ "java/lang/invoke/VarHandle" ∧ (parseMethodDescriptor y_V_open.desc).map (fun d => d.parameters.length) = some 0 := by decide +kernel
abbrev y_Ses_isOpen : MethodName := ({ cls := "FileVolume$Session", name := "isOpen", desc := "(I)Z" } : Jvm.MethodName)
def ws_Ses_isOpen : List Cond := .code y_Ses_isOpen prog_6_method_6_code 2 (some .boolean) :: am_tw
theorem hd_Ses_isOpen : y_Ses_isOpen.cls ≠ "java/lang/invoke/MethodHandle" ∧ y_Ses_isOpen.cls ≠ "java/lang/invoke/VarHandle" ∧ (parseMethodDescriptor y_Ses_isOpen.desc).map (fun d => d.parameters.length) = some 1 := by decide +kernel
abbrev y_Ses_drop : MethodName := ({ cls := "FileVolume$Session", name := "drop", desc := "(I)V" } : Jvm.MethodName)
def ws_Ses_drop : List Cond := .code y_Ses_drop prog_6_method_10_code 2 none :: am_tw
theorem hd_Ses_drop : y_Ses_drop.cls ≠ "java/lang/invoke/MethodHandle" ∧ y_Ses_drop.cls ≠ "java/lang/invoke/VarHandle" ∧ (parseMethodDescriptor y_Ses_drop.desc).map (fun d => d.parameters.length) = some 1 := by decide +kernel
abbrev y_V_close : MethodName := ({ cls := "FileVolume", name := "close", desc := "(I)Z" } : Jvm.MethodName)
def ws_V_close : List Cond := .code y_V_close prog_1_method_7_code 2 (some .boolean) :: am_tw
theorem hd_V_close : y_V_close.cls ≠ "java/lang/invoke/MethodHandle" ∧ y_V_close.cls ≠ "java/lang/invoke/VarHandle" ∧ (parseMethodDescriptor y_V_close.desc).map (fun d => d.parameters.length) = some 1 := by decide +kernel
abbrev y_Ses_entryOf : MethodName := ({ cls := "FileVolume$Session", name := "entryOf", desc := "(I)I" } : Jvm.MethodName)
def ws_Ses_entryOf : List Cond := .code y_Ses_entryOf prog_6_method_12_code 2 (some .int) :: am_tw
theorem hd_Ses_entryOf : y_Ses_entryOf.cls ≠ "java/lang/invoke/MethodHandle" ∧ y_Ses_entryOf.cls ≠ "java/lang/invoke/VarHandle" ∧ (parseMethodDescriptor y_Ses_entryOf.desc).map (fun d => d.parameters.length) = some 1 := by decide +kernel
abbrev y_V_sizeOfFile : MethodName := ({ cls := "FileVolume", name := "sizeOfFile", desc := "(I)I" } : Jvm.MethodName)
def ws_V_sizeOfFile : List Cond := .code y_V_sizeOfFile prog_1_method_22_code 2 (some .int) :: am_tw
theorem hd_V_sizeOfFile : y_V_sizeOfFile.cls ≠ "java/lang/invoke/MethodHandle" ∧ y_V_sizeOfFile.cls ≠ "java/lang/invoke/VarHandle" ∧ (parseMethodDescriptor y_V_sizeOfFile.desc).map (fun d => d.parameters.length) = some 1 := by decide +kernel
abbrev y_Ses_moveTo : MethodName := ({ cls := "FileVolume$Session", name := "moveTo", desc := "(II)V" } : Jvm.MethodName)
def ws_Ses_moveTo : List Cond := .code y_Ses_moveTo prog_6_method_11_code 3 none :: am_tw
theorem hd_Ses_moveTo : y_Ses_moveTo.cls ≠ "java/lang/invoke/MethodHandle" ∧ y_Ses_moveTo.cls ≠ "java/lang/invoke/VarHandle" ∧ (parseMethodDescriptor y_Ses_moveTo.desc).map (fun d => d.parameters.length) = some 2 := by decide +kernel
abbrev y_V_seek : MethodName := ({ cls := "FileVolume", name := "seek", desc := "(II)Z" } : Jvm.MethodName)
def ws_V_seek : List Cond := .code y_V_seek prog_1_method_8_code 3 (some .boolean) :: am_tw
theorem hd_V_seek : y_V_seek.cls ≠ "java/lang/invoke/MethodHandle" ∧ y_V_seek.cls ≠ "java/lang/invoke/VarHandle" ∧ (parseMethodDescriptor y_V_seek.desc).map (fun d => d.parameters.length) = some 2 := by decide +kernel
abbrev y_Ses_positionOf : MethodName := ({ cls := "FileVolume$Session", name := "positionOf", desc := "(I)I" } : Jvm.MethodName)
def ws_Ses_positionOf : List Cond := .code y_Ses_positionOf prog_6_method_13_code 2 (some .int) :: am_tw
theorem hd_Ses_positionOf : y_Ses_positionOf.cls ≠ "java/lang/invoke/MethodHandle" ∧ y_Ses_positionOf.cls ≠ "java/lang/invoke/VarHandle" ∧ (parseMethodDescriptor y_Ses_positionOf.desc).map (fun d => d.parameters.length) = some 1 := by decide +kernel
abbrev y_Table_clusterAt : MethodName := ({ cls := "FileVolume$Table", name := "clusterAt", desc := "(II)I" } : Jvm.MethodName)
def ws_Table_clusterAt : List Cond := .code y_Table_clusterAt prog_7_method_12_code 5 (some .int) :: am_tw
theorem hd_Table_clusterAt : y_Table_clusterAt.cls ≠ "java/lang/invoke/MethodHandle" ∧ y_Table_clusterAt.cls ≠ "java/lang/invoke/VarHandle" ∧ (parseMethodDescriptor y_Table_clusterAt.desc).map (fun d => d.parameters.length) = some 2 := by decide +kernel
abbrev y_V_addressInChain : MethodName := ({ cls := "FileVolume", name := "addressInChain", desc := "(II)I" } : Jvm.MethodName)
def ws_V_addressInChain : List Cond := .code y_V_addressInChain prog_1_method_23_code 4 (some .int) :: am_tw
theorem hd_V_addressInChain : y_V_addressInChain.cls ≠ "java/lang/invoke/MethodHandle" ∧ y_V_addressInChain.cls ≠ "java/lang/invoke/VarHandle" ∧ (parseMethodDescriptor y_V_addressInChain.desc).map (fun d => d.parameters.length) = some 2 := by decide +kernel
abbrev y_V_read : MethodName := ({ cls := "FileVolume", name := "read", desc := "(II)J" } : Jvm.MethodName)
def ws_V_read : List Cond := .code y_V_read prog_1_method_9_code 9 (some .long) :: am_tw
theorem hd_V_read : y_V_read.cls ≠ "java/lang/invoke/MethodHandle" ∧ y_V_read.cls ≠ "java/lang/invoke/VarHandle" ∧ (parseMethodDescriptor y_V_read.desc).map (fun d => d.parameters.length) = some 2 := by decide +kernel
abbrev y_Table_lengthOf : MethodName := ({ cls := "FileVolume$Table", name := "lengthOf", desc := "(I)I" } : Jvm.MethodName)
def ws_Table_lengthOf : List Cond := .code y_Table_lengthOf prog_7_method_11_code 4 (some .int) :: am_tw
theorem hd_Table_lengthOf : y_Table_lengthOf.cls ≠ "java/lang/invoke/MethodHandle" ∧ y_Table_lengthOf.cls ≠ "java/lang/invoke/VarHandle" ∧ (parseMethodDescriptor y_Table_lengthOf.desc).map (fun d => d.parameters.length) = some 1 := by decide +kernel
abbrev y_V_roomAfterGrowing : MethodName := ({ cls := "FileVolume", name := "roomAfterGrowing", desc := "(II)I" } : Jvm.MethodName)
def ws_V_roomAfterGrowing : List Cond := .code y_V_roomAfterGrowing prog_1_method_24_code 7 (some .int) :: am_tw
theorem hd_V_roomAfterGrowing : y_V_roomAfterGrowing.cls ≠ "java/lang/invoke/MethodHandle" ∧ y_V_roomAfterGrowing.cls ≠ "java/lang/invoke/VarHandle" ∧ (parseMethodDescriptor y_V_roomAfterGrowing.desc).map (fun d => d.parameters.length) = some 2 := by decide +kernel
abbrev y_V_spread : MethodName := ({ cls := "FileVolume", name := "spread", desc := "(JI)V" } : Jvm.MethodName)
def ws_V_spread : List Cond := .code y_V_spread prog_1_method_25_code 5 none :: am_tw
theorem hd_V_spread : y_V_spread.cls ≠ "java/lang/invoke/MethodHandle" ∧ y_V_spread.cls ≠ "java/lang/invoke/VarHandle" ∧ (parseMethodDescriptor y_V_spread.desc).map (fun d => d.parameters.length) = some 2 := by decide +kernel
abbrev y_V_writeData : MethodName := ({ cls := "FileVolume", name := "writeData", desc := "(III)V" } : Jvm.MethodName)
def ws_V_writeData : List Cond := .code y_V_writeData prog_1_method_26_code 8 none :: am_tw
theorem hd_V_writeData : y_V_writeData.cls ≠ "java/lang/invoke/MethodHandle" ∧ y_V_writeData.cls ≠ "java/lang/invoke/VarHandle" ∧ (parseMethodDescriptor y_V_writeData.desc).map (fun d => d.parameters.length) = some 3 := by decide +kernel
abbrev y_V_write : MethodName := ({ cls := "FileVolume", name := "write", desc := "(IJI)I" } : Jvm.MethodName)
def ws_V_write : List Cond := .code y_V_write prog_1_method_10_code 8 (some .int) :: am_tw
theorem hd_V_write : y_V_write.cls ≠ "java/lang/invoke/MethodHandle" ∧ y_V_write.cls ≠ "java/lang/invoke/VarHandle" ∧ (parseMethodDescriptor y_V_write.desc).map (fun d => d.parameters.length) = some 3 := by decide +kernel
abbrev y_Folder_indexOfNamed : MethodName := ({ cls := "FileVolume$Folder", name := "indexOfNamed", desc := "(I)I" } : Jvm.MethodName)
def ws_Folder_indexOfNamed : List Cond := .code y_Folder_indexOfNamed prog_3_method_13_code 4 (some .int) :: am_tw
theorem hd_Folder_indexOfNamed : y_Folder_indexOfNamed.cls ≠ "java/lang/invoke/MethodHandle" ∧ y_Folder_indexOfNamed.cls ≠ "java/lang/invoke/VarHandle" ∧ (parseMethodDescriptor y_Folder_indexOfNamed.desc).map (fun d => d.parameters.length) = some 1 := by decide +kernel
abbrev y_V_canBeListed : MethodName := ({ cls := "FileVolume", name := "canBeListed", desc := "(I)Z" } : Jvm.MethodName)
def ws_V_canBeListed : List Cond := .code y_V_canBeListed prog_1_method_27_code 1 (some .boolean) :: am_tw
theorem hd_V_canBeListed : y_V_canBeListed.cls ≠ "java/lang/invoke/MethodHandle" ∧ y_V_canBeListed.cls ≠ "java/lang/invoke/VarHandle" ∧ (parseMethodDescriptor y_V_canBeListed.desc).map (fun d => d.parameters.length) = some 1 := by decide +kernel
abbrev y_Folder_shortCharOf : MethodName := ({ cls := "FileVolume$Folder", name := "shortCharOf", desc := "(II)I" } : Jvm.MethodName)
def ws_Folder_shortCharOf : List Cond := .code y_Folder_shortCharOf prog_3_method_21_code 3 (some .int) :: am_tw
theorem hd_Folder_shortCharOf : y_Folder_shortCharOf.cls ≠ "java/lang/invoke/MethodHandle" ∧ y_Folder_shortCharOf.cls ≠ "java/lang/invoke/VarHandle" ∧ (parseMethodDescriptor y_Folder_shortCharOf.desc).map (fun d => d.parameters.length) = some 2 := by decide +kernel
abbrev y_Folder_longCharOf : MethodName := ({ cls := "FileVolume$Folder", name := "longCharOf", desc := "(II)I" } : Jvm.MethodName)
def ws_Folder_longCharOf : List Cond := .code y_Folder_longCharOf prog_3_method_28_code 3 (some .int) :: am_tw
theorem hd_Folder_longCharOf : y_Folder_longCharOf.cls ≠ "java/lang/invoke/MethodHandle" ∧ y_Folder_longCharOf.cls ≠ "java/lang/invoke/VarHandle" ∧ (parseMethodDescriptor y_Folder_longCharOf.desc).map (fun d => d.parameters.length) = some 2 := by decide +kernel
abbrev y_Folder_sizeOf : MethodName := ({ cls := "FileVolume$Folder", name := "sizeOf", desc := "(I)I" } : Jvm.MethodName)
def ws_Folder_sizeOf : List Cond := .code y_Folder_sizeOf prog_3_method_9_code 2 (some .int) :: am_tw
theorem hd_Folder_sizeOf : y_Folder_sizeOf.cls ≠ "java/lang/invoke/MethodHandle" ∧ y_Folder_sizeOf.cls ≠ "java/lang/invoke/VarHandle" ∧ (parseMethodDescriptor y_Folder_sizeOf.desc).map (fun d => d.parameters.length) = some 1 := by decide +kernel
abbrev y_V_list : MethodName := ({ cls := "FileVolume", name := "list", desc := "(II)I" } : Jvm.MethodName)
def ws_V_list : List Cond := .code y_V_list prog_1_method_11_code 4 (some .int) :: am_tw
theorem hd_V_list : y_V_list.cls ≠ "java/lang/invoke/MethodHandle" ∧ y_V_list.cls ≠ "java/lang/invoke/VarHandle" ∧ (parseMethodDescriptor y_V_list.desc).map (fun d => d.parameters.length) = some 2 := by decide +kernel
abbrev y_Disk_setCut : MethodName := ({ cls := "FileVolume$Disk", name := "setCut", desc := "(I)Z" } : Jvm.MethodName)
def ws_Disk_setCut : List Cond := .code y_Disk_setCut prog_2_method_5_code 2 (some .boolean) :: am_tw
theorem hd_Disk_setCut : y_Disk_setCut.cls ≠ "java/lang/invoke/MethodHandle" ∧ y_Disk_setCut.cls ≠ "java/lang/invoke/VarHandle" ∧ (parseMethodDescriptor y_Disk_setCut.desc).map (fun d => d.parameters.length) = some 1 := by decide +kernel
abbrev y_V_cut : MethodName := ({ cls := "FileVolume", name := "cut", desc := "(I)Z" } : Jvm.MethodName)
def ws_V_cut : List Cond := .code y_V_cut prog_1_method_12_code 2 (some .boolean) :: am_tw
theorem hd_V_cut : y_V_cut.cls ≠ "java/lang/invoke/MethodHandle" ∧ y_V_cut.cls ≠ "java/lang/invoke/VarHandle" ∧ (parseMethodDescriptor y_V_cut.desc).map (fun d => d.parameters.length) = some 1 := by decide +kernel
abbrev y_Disk_switchOn : MethodName := ({ cls := "FileVolume$Disk", name := "switchOn", desc := "()Z" } : Jvm.MethodName)
def ws_Disk_switchOn : List Cond := .code y_Disk_switchOn prog_2_method_6_code 2 (some .boolean) :: am_tw
theorem hd_Disk_switchOn : y_Disk_switchOn.cls ≠ "java/lang/invoke/MethodHandle" ∧ y_Disk_switchOn.cls ≠ "java/lang/invoke/VarHandle" ∧ (parseMethodDescriptor y_Disk_switchOn.desc).map (fun d => d.parameters.length) = some 0 := by decide +kernel
abbrev y_V_power : MethodName := ({ cls := "FileVolume", name := "power", desc := "()Z" } : Jvm.MethodName)
def ws_V_power : List Cond := .code y_V_power prog_1_method_13_code 1 (some .boolean) :: am_tw
theorem hd_V_power : y_V_power.cls ≠ "java/lang/invoke/MethodHandle" ∧ y_V_power.cls ≠ "java/lang/invoke/VarHandle" ∧ (parseMethodDescriptor y_V_power.desc).map (fun d => d.parameters.length) = some 0 := by decide +kernel
abbrev y_Table_secondCell : MethodName := ({ cls := "FileVolume$Table", name := "secondCell", desc := "(I)I" } : Jvm.MethodName)
def ws_Table_secondCell : List Cond := .code y_Table_secondCell prog_7_method_3_code 2 (some .int) :: am_tw
theorem hd_Table_secondCell : y_Table_secondCell.cls ≠ "java/lang/invoke/MethodHandle" ∧ y_Table_secondCell.cls ≠ "java/lang/invoke/VarHandle" ∧ (parseMethodDescriptor y_Table_secondCell.desc).map (fun d => d.parameters.length) = some 1 := by decide +kernel
abbrev y_Table_setSecond : MethodName := ({ cls := "FileVolume$Table", name := "setSecond", desc := "(II)V" } : Jvm.MethodName)
def ws_Table_setSecond : List Cond := .code y_Table_setSecond prog_7_method_5_code 3 none :: am_tw
theorem hd_Table_setSecond : y_Table_setSecond.cls ≠ "java/lang/invoke/MethodHandle" ∧ y_Table_setSecond.cls ≠ "java/lang/invoke/VarHandle" ∧ (parseMethodDescriptor y_Table_setSecond.desc).map (fun d => d.parameters.length) = some 2 := by decide +kernel
abbrev y_Rep_isBad : MethodName := ({ cls := "FileVolume$Repairer", name := "isBad", desc := "(I)Z" } : Jvm.MethodName)
def ws_Rep_isBad : List Cond := .code y_Rep_isBad prog_5_method_3_code 4 (some .boolean) :: am_tw
theorem hd_Rep_isBad : y_Rep_isBad.cls ≠ "java/lang/invoke/MethodHandle" ∧ y_Rep_isBad.cls ≠ "java/lang/invoke/VarHandle" ∧ (parseMethodDescriptor y_Rep_isBad.desc).map (fun d => d.parameters.length) = some 1 := by decide +kernel
abbrev y_Rep_mendTables : MethodName := ({ cls := "FileVolume$Repairer", name := "mendTables", desc := "()V" } : Jvm.MethodName)
def ws_Rep_mendTables : List Cond := .code y_Rep_mendTables prog_5_method_2_code 2 none :: am_tw
theorem hd_Rep_mendTables : y_Rep_mendTables.cls ≠ "java/lang/invoke/MethodHandle" ∧ y_Rep_mendTables.cls ≠ "java/lang/invoke/VarHandle" ∧ (parseMethodDescriptor y_Rep_mendTables.desc).map (fun d => d.parameters.length) = some 0 := by decide +kernel
abbrev y_Rep_follow : MethodName := ({ cls := "FileVolume$Repairer", name := "follow", desc := "(I)I" } : Jvm.MethodName)
def ws_Rep_follow : List Cond := .code y_Rep_follow prog_5_method_8_code 5 (some .int) :: am_tw
theorem hd_Rep_follow : y_Rep_follow.cls ≠ "java/lang/invoke/MethodHandle" ∧ y_Rep_follow.cls ≠ "java/lang/invoke/VarHandle" ∧ (parseMethodDescriptor y_Rep_follow.desc).map (fun d => d.parameters.length) = some 1 := by decide +kernel
abbrev y_Rep_mendRoot : MethodName := ({ cls := "FileVolume$Repairer", name := "mendRoot", desc := "()V" } : Jvm.MethodName)
def ws_Rep_mendRoot : List Cond := .code y_Rep_mendRoot prog_5_method_4_code 1 none :: am_tw
theorem hd_Rep_mendRoot : y_Rep_mendRoot.cls ≠ "java/lang/invoke/MethodHandle" ∧ y_Rep_mendRoot.cls ≠ "java/lang/invoke/VarHandle" ∧ (parseMethodDescriptor y_Rep_mendRoot.desc).map (fun d => d.parameters.length) = some 0 := by decide +kernel
abbrev y_Folder_isTellingPart : MethodName := ({ cls := "FileVolume$Folder", name := "isTellingPart", desc := "(I)Z" } : Jvm.MethodName)
def ws_Folder_isTellingPart : List Cond := .code y_Folder_isTellingPart prog_3_method_25_code 2 (some .boolean) :: am_tw
theorem hd_Folder_isTellingPart : y_Folder_isTellingPart.cls ≠ "java/lang/invoke/MethodHandle" ∧ y_Folder_isTellingPart.cls ≠ "java/lang/invoke/VarHandle" ∧ (parseMethodDescriptor y_Folder_isTellingPart.desc).map (fun d => d.parameters.length) = some 1 := by decide +kernel
abbrev y_Rep_isHopeless : MethodName := ({ cls := "FileVolume$Repairer", name := "isHopeless", desc := "(II)Z" } : Jvm.MethodName)
def ws_Rep_isHopeless : List Cond := .code y_Rep_isHopeless prog_5_method_7_code 5 (some .boolean) :: am_tw
theorem hd_Rep_isHopeless : y_Rep_isHopeless.cls ≠ "java/lang/invoke/MethodHandle" ∧ y_Rep_isHopeless.cls ≠ "java/lang/invoke/VarHandle" ∧ (parseMethodDescriptor y_Rep_isHopeless.desc).map (fun d => d.parameters.length) = some 2 := by decide +kernel
abbrev y_Rep_forget : MethodName := ({ cls := "FileVolume$Repairer", name := "forget", desc := "(I)V" } : Jvm.MethodName)
def ws_Rep_forget : List Cond := .code y_Rep_forget prog_5_method_10_code 4 none :: am_tw
theorem hd_Rep_forget : y_Rep_forget.cls ≠ "java/lang/invoke/MethodHandle" ∧ y_Rep_forget.cls ≠ "java/lang/invoke/VarHandle" ∧ (parseMethodDescriptor y_Rep_forget.desc).map (fun d => d.parameters.length) = some 1 := by decide +kernel
abbrev y_Rep_mendFile : MethodName := ({ cls := "FileVolume$Repairer", name := "mendFile", desc := "(II)V" } : Jvm.MethodName)
def ws_Rep_mendFile : List Cond := .code y_Rep_mendFile prog_5_method_9_code 7 none :: am_tw
theorem hd_Rep_mendFile : y_Rep_mendFile.cls ≠ "java/lang/invoke/MethodHandle" ∧ y_Rep_mendFile.cls ≠ "java/lang/invoke/VarHandle" ∧ (parseMethodDescriptor y_Rep_mendFile.desc).map (fun d => d.parameters.length) = some 2 := by decide +kernel
abbrev y_Rep_visit : MethodName := ({ cls := "FileVolume$Repairer", name := "visit", desc := "(II)I" } : Jvm.MethodName)
def ws_Rep_visit : List Cond := .code y_Rep_visit prog_5_method_6_code 5 (some .int) :: am_tw
theorem hd_Rep_visit : y_Rep_visit.cls ≠ "java/lang/invoke/MethodHandle" ∧ y_Rep_visit.cls ≠ "java/lang/invoke/VarHandle" ∧ (parseMethodDescriptor y_Rep_visit.desc).map (fun d => d.parameters.length) = some 2 := by decide +kernel
abbrev y_Rep_goThrough : MethodName := ({ cls := "FileVolume$Repairer", name := "goThrough", desc := "(II)V" } : Jvm.MethodName)
def ws_Rep_goThrough : List Cond := .code y_Rep_goThrough prog_5_method_5_code 6 none :: am_tw
theorem hd_Rep_goThrough : y_Rep_goThrough.cls ≠ "java/lang/invoke/MethodHandle" ∧ y_Rep_goThrough.cls ≠ "java/lang/invoke/VarHandle" ∧ (parseMethodDescriptor y_Rep_goThrough.desc).map (fun d => d.parameters.length) = some 2 := by decide +kernel
abbrev y_Rep_clearLost : MethodName := ({ cls := "FileVolume$Repairer", name := "clearLost", desc := "()V" } : Jvm.MethodName)
def ws_Rep_clearLost : List Cond := .code y_Rep_clearLost prog_5_method_11_code 2 none :: am_tw
theorem hd_Rep_clearLost : y_Rep_clearLost.cls ≠ "java/lang/invoke/MethodHandle" ∧ y_Rep_clearLost.cls ≠ "java/lang/invoke/VarHandle" ∧ (parseMethodDescriptor y_Rep_clearLost.desc).map (fun d => d.parameters.length) = some 0 := by decide +kernel
abbrev y_V_repair : MethodName := ({ cls := "FileVolume", name := "repair", desc := "()I" } : Jvm.MethodName)
def ws_V_repair : List Cond := .code y_V_repair prog_1_method_14_code 1 (some .int) :: am_tw
theorem hd_V_repair : y_V_repair.cls ≠ "java/lang/invoke/MethodHandle" ∧ y_V_repair.cls ≠ "java/lang/invoke/VarHandle" ∧ (parseMethodDescriptor y_V_repair.desc).map (fun d => d.parameters.length) = some 0 := by decide +kernel
abbrev y_V_isOnDisk : MethodName := ({ cls := "FileVolume", name := "isOnDisk", desc := "(II)Z" } : Jvm.MethodName)
def ws_V_isOnDisk : List Cond := .code y_V_isOnDisk prog_1_method_28_code 2 (some .boolean) :: am_tw
theorem hd_V_isOnDisk : y_V_isOnDisk.cls ≠ "java/lang/invoke/MethodHandle" ∧ y_V_isOnDisk.cls ≠ "java/lang/invoke/VarHandle" ∧ (parseMethodDescriptor y_V_isOnDisk.desc).map (fun d => d.parameters.length) = some 2 := by decide +kernel
abbrev y_V_octet : MethodName := ({ cls := "FileVolume", name := "octet", desc := "(II)I" } : Jvm.MethodName)
def ws_V_octet : List Cond := .code y_V_octet prog_1_method_15_code 3 (some .int) :: am_tw
theorem hd_V_octet : y_V_octet.cls ≠ "java/lang/invoke/MethodHandle" ∧ y_V_octet.cls ≠ "java/lang/invoke/VarHandle" ∧ (parseMethodDescriptor y_V_octet.desc).map (fun d => d.parameters.length) = some 2 := by decide +kernel
abbrev y_V_poke : MethodName := ({ cls := "FileVolume", name := "poke", desc := "(III)Z" } : Jvm.MethodName)
def ws_V_poke : List Cond := .code y_V_poke prog_1_method_16_code 4 (some .boolean) :: am_tw
theorem hd_V_poke : y_V_poke.cls ≠ "java/lang/invoke/MethodHandle" ∧ y_V_poke.cls ≠ "java/lang/invoke/VarHandle" ∧ (parseMethodDescriptor y_V_poke.desc).map (fun d => d.parameters.length) = some 3 := by decide +kernel
abbrev y_Table_countFree : MethodName := ({ cls := "FileVolume$Table", name := "countFree", desc := "()I" } : Jvm.MethodName)
def ws_Table_countFree : List Cond := .code y_Table_countFree prog_7_method_7_code 3 (some .int) :: am_tw
theorem hd_Table_countFree : y_Table_countFree.cls ≠ "java/lang/invoke/MethodHandle" ∧ y_Table_countFree.cls ≠ "java/lang/invoke/VarHandle" ∧ (parseMethodDescriptor y_Table_countFree.desc).map (fun d => d.parameters.length) = some 0 := by decide +kernel
abbrev y_V_look : MethodName := ({ cls := "FileVolume", name := "look", desc := "(I)I" } : Jvm.MethodName)
def ws_V_look : List Cond := .code y_V_look prog_1_method_17_code 2 (some .int) :: am_tw
theorem hd_V_look : y_V_look.cls ≠ "java/lang/invoke/MethodHandle" ∧ y_V_look.cls ≠ "java/lang/invoke/VarHandle" ∧ (parseMethodDescriptor y_V_look.desc).map (fun d => d.parameters.length) = some 1 := by decide +kernel
abbrev y_M_type : MethodName := ({ cls := "FileVolumeModel", name := "type", desc := "(C)Z" } : Jvm.MethodName)
def ws_M_type : List Cond := .code y_M_type prog_9_method_31_code 2 (some .boolean) :: am_tw
theorem hd_M_type : y_M_type.cls ≠ "java/lang/invoke/MethodHandle" ∧ y_M_type.cls ≠ "java/lang/invoke/VarHandle" ∧ (parseMethodDescriptor y_M_type.desc).map (fun d => d.parameters.length) = some 1 := by decide +kernel
abbrev y_M_ready : MethodName := ({ cls := "FileVolumeModel", name := "ready", desc := "()Z" } : Jvm.MethodName)
def ws_M_ready : List Cond := .code y_M_ready prog_9_method_30_code 1 (some .boolean) :: am_tw
theorem hd_M_ready : y_M_ready.cls ≠ "java/lang/invoke/MethodHandle" ∧ y_M_ready.cls ≠ "java/lang/invoke/VarHandle" ∧ (parseMethodDescriptor y_M_ready.desc).map (fun d => d.parameters.length) = some 0 := by decide +kernel
abbrev y_M_in : MethodName := ({ cls := "FileVolumeModel", name := "in", desc := "(III)Z" } : Jvm.MethodName)
def ws_M_in : List Cond := .code y_M_in prog_9_method_3_code 3 (some .boolean) :: am_tw
theorem hd_M_in : y_M_in.cls ≠ "java/lang/invoke/MethodHandle" ∧ y_M_in.cls ≠ "java/lang/invoke/VarHandle" ∧ (parseMethodDescriptor y_M_in.desc).map (fun d => d.parameters.length) = some 3 := by decide +kernel
abbrev y_M_numberAt : MethodName := ({ cls := "FileVolumeModel", name := "numberAt", desc := "(I)I" } : Jvm.MethodName)
def ws_M_numberAt : List Cond := .code y_M_numberAt prog_9_method_5_code 2 (some .int) :: am_tw
theorem hd_M_numberAt : y_M_numberAt.cls ≠ "java/lang/invoke/MethodHandle" ∧ y_M_numberAt.cls ≠ "java/lang/invoke/VarHandle" ∧ (parseMethodDescriptor y_M_numberAt.desc).map (fun d => d.parameters.length) = some 1 := by decide +kernel
abbrev y_M_cell : MethodName := ({ cls := "FileVolumeModel", name := "cell", desc := "(I)I" } : Jvm.MethodName)
def ws_M_cell : List Cond := .code y_M_cell prog_9_method_6_code 2 (some .int) :: am_tw
theorem hd_M_cell : y_M_cell.cls ≠ "java/lang/invoke/MethodHandle" ∧ y_M_cell.cls ≠ "java/lang/invoke/VarHandle" ∧ (parseMethodDescriptor y_M_cell.desc).map (fun d => d.parameters.length) = some 1 := by decide +kernel
abbrev y_M_cluster : MethodName := ({ cls := "FileVolumeModel", name := "cluster", desc := "(II)I" } : Jvm.MethodName)
def ws_M_cluster : List Cond := .code y_M_cluster prog_9_method_12_code 5 (some .int) :: am_tw
theorem hd_M_cluster : y_M_cluster.cls ≠ "java/lang/invoke/MethodHandle" ∧ y_M_cluster.cls ≠ "java/lang/invoke/VarHandle" ∧ (parseMethodDescriptor y_M_cluster.desc).map (fun d => d.parameters.length) = some 2 := by decide +kernel
abbrev y_M_length : MethodName := ({ cls := "FileVolumeModel", name := "length", desc := "(I)I" } : Jvm.MethodName)
def ws_M_length : List Cond := .code y_M_length prog_9_method_13_code 3 (some .int) :: am_tw
theorem hd_M_length : y_M_length.cls ≠ "java/lang/invoke/MethodHandle" ∧ y_M_length.cls ≠ "java/lang/invoke/VarHandle" ∧ (parseMethodDescriptor y_M_length.desc).map (fun d => d.parameters.length) = some 1 := by decide +kernel
abbrev y_M_place : MethodName := ({ cls := "FileVolumeModel", name := "place", desc := "(II)I" } : Jvm.MethodName)
def ws_M_place : List Cond := .code y_M_place prog_9_method_14_code 3 (some .int) :: am_tw
theorem hd_M_place : y_M_place.cls ≠ "java/lang/invoke/MethodHandle" ∧ y_M_place.cls ≠ "java/lang/invoke/VarHandle" ∧ (parseMethodDescriptor y_M_place.desc).map (fun d => d.parameters.length) = some 2 := by decide +kernel
abbrev y_M_isFree : MethodName := ({ cls := "FileVolumeModel", name := "isFree", desc := "(I)Z" } : Jvm.MethodName)
def ws_M_isFree : List Cond := .code y_M_isFree prog_9_method_15_code 2 (some .boolean) :: am_tw
theorem hd_M_isFree : y_M_isFree.cls ≠ "java/lang/invoke/MethodHandle" ∧ y_M_isFree.cls ≠ "java/lang/invoke/VarHandle" ∧ (parseMethodDescriptor y_M_isFree.desc).map (fun d => d.parameters.length) = some 1 := by decide +kernel
abbrev y_M_isNamed : MethodName := ({ cls := "FileVolumeModel", name := "isNamed", desc := "(I)Z" } : Jvm.MethodName)
def ws_M_isNamed : List Cond := .code y_M_isNamed prog_9_method_16_code 2 (some .boolean) :: am_tw
theorem hd_M_isNamed : y_M_isNamed.cls ≠ "java/lang/invoke/MethodHandle" ∧ y_M_isNamed.cls ≠ "java/lang/invoke/VarHandle" ∧ (parseMethodDescriptor y_M_isNamed.desc).map (fun d => d.parameters.length) = some 1 := by decide +kernel
abbrev y_M_summed : MethodName := ({ cls := "FileVolumeModel", name := "summed", desc := "(II)I" } : Jvm.MethodName)
def ws_M_summed : List Cond := .code y_M_summed prog_9_method_17_code 2 (some .int) :: am_tw
theorem hd_M_summed : y_M_summed.cls ≠ "java/lang/invoke/MethodHandle" ∧ y_M_summed.cls ≠ "java/lang/invoke/VarHandle" ∧ (parseMethodDescriptor y_M_summed.desc).map (fun d => d.parameters.length) = some 2 := by decide +kernel
abbrev y_M_isPart : MethodName := ({ cls := "FileVolumeModel", name := "isPart", desc := "(III)Z" } : Jvm.MethodName)
def ws_M_isPart : List Cond := .code y_M_isPart prog_9_method_18_code 4 (some .boolean) :: am_tw
theorem hd_M_isPart : y_M_isPart.cls ≠ "java/lang/invoke/MethodHandle" ∧ y_M_isPart.cls ≠ "java/lang/invoke/VarHandle" ∧ (parseMethodDescriptor y_M_isPart.desc).map (fun d => d.parameters.length) = some 3 := by decide +kernel
abbrev y_M_partsOf : MethodName := ({ cls := "FileVolumeModel", name := "partsOf", desc := "(II)I" } : Jvm.MethodName)
def ws_M_partsOf : List Cond := .code y_M_partsOf prog_9_method_19_code 6 (some .int) :: am_tw
theorem hd_M_partsOf : y_M_partsOf.cls ≠ "java/lang/invoke/MethodHandle" ∧ y_M_partsOf.cls ≠ "java/lang/invoke/VarHandle" ∧ (parseMethodDescriptor y_M_partsOf.desc).map (fun d => d.parameters.length) = some 2 := by decide +kernel
abbrev y_M_capital : MethodName := ({ cls := "FileVolumeModel", name := "capital", desc := "(I)I" } : Jvm.MethodName)
def ws_M_capital : List Cond := .code y_M_capital prog_9_method_23_code 1 (some .int) :: am_tw
theorem hd_M_capital : y_M_capital.cls ≠ "java/lang/invoke/MethodHandle" ∧ y_M_capital.cls ≠ "java/lang/invoke/VarHandle" ∧ (parseMethodDescriptor y_M_capital.desc).map (fun d => d.parameters.length) = some 1 := by decide +kernel
abbrev y_M_shortLetter : MethodName := ({ cls := "FileVolumeModel", name := "shortLetter", desc := "(II)I" } : Jvm.MethodName)
def ws_M_shortLetter : List Cond := .code y_M_shortLetter prog_9_method_22_code 4 (some .int) :: am_tw
theorem hd_M_shortLetter : y_M_shortLetter.cls ≠ "java/lang/invoke/MethodHandle" ∧ y_M_shortLetter.cls ≠ "java/lang/invoke/VarHandle" ∧ (parseMethodDescriptor y_M_shortLetter.desc).map (fun d => d.parameters.length) = some 2 := by decide +kernel
abbrev y_M_spot : MethodName := ({ cls := "FileVolumeModel", name := "spot", desc := "(I)I" } : Jvm.MethodName)
def ws_M_spot : List Cond := .code y_M_spot prog_9_method_20_code 1 (some .int) :: am_tw
theorem hd_M_spot : y_M_spot.cls ≠ "java/lang/invoke/MethodHandle" ∧ y_M_spot.cls ≠ "java/lang/invoke/VarHandle" ∧ (parseMethodDescriptor y_M_spot.desc).map (fun d => d.parameters.length) = some 1 := by decide +kernel
abbrev y_M_letter : MethodName := ({ cls := "FileVolumeModel", name := "letter", desc := "(III)I" } : Jvm.MethodName)
def ws_M_letter : List Cond := .code y_M_letter prog_9_method_21_code 7 (some .int) :: am_tw
theorem hd_M_letter : y_M_letter.cls ≠ "java/lang/invoke/MethodHandle" ∧ y_M_letter.cls ≠ "java/lang/invoke/VarHandle" ∧ (parseMethodDescriptor y_M_letter.desc).map (fun d => d.parameters.length) = some 3 := by decide +kernel
abbrev y_M_isCalled : MethodName := ({ cls := "FileVolumeModel", name := "isCalled", desc := "(I)Z" } : Jvm.MethodName)
def ws_M_isCalled : List Cond := .code y_M_isCalled prog_9_method_25_code 7 (some .boolean) :: am_tw
theorem hd_M_isCalled : y_M_isCalled.cls ≠ "java/lang/invoke/MethodHandle" ∧ y_M_isCalled.cls ≠ "java/lang/invoke/VarHandle" ∧ (parseMethodDescriptor y_M_isCalled.desc).map (fun d => d.parameters.length) = some 1 := by decide +kernel
abbrev y_M_find : MethodName := ({ cls := "FileVolumeModel", name := "find", desc := "()I" } : Jvm.MethodName)
def ws_M_find : List Cond := .code y_M_find prog_9_method_26_code 3 (some .int) :: am_tw
theorem hd_M_find : y_M_find.cls ≠ "java/lang/invoke/MethodHandle" ∧ y_M_find.cls ≠ "java/lang/invoke/VarHandle" ∧ (parseMethodDescriptor y_M_find.desc).map (fun d => d.parameters.length) = some 0 := by decide +kernel
abbrev y_M_isPlain : MethodName := ({ cls := "FileVolumeModel", name := "isPlain", desc := "(I)Z" } : Jvm.MethodName)
def ws_M_isPlain : List Cond := .code y_M_isPlain prog_9_method_24_code 1 (some .boolean) :: am_tw
theorem hd_M_isPlain : y_M_isPlain.cls ≠ "java/lang/invoke/MethodHandle" ∧ y_M_isPlain.cls ≠ "java/lang/invoke/VarHandle" ∧ (parseMethodDescriptor y_M_isPlain.desc).map (fun d => d.parameters.length) = some 1 := by decide +kernel
abbrev y_M_isTaken : MethodName := ({ cls := "FileVolumeModel", name := "isTaken", desc := "()Z" } : Jvm.MethodName)
def ws_M_isTaken : List Cond := .code y_M_isTaken prog_9_method_27_code 7 (some .boolean) :: am_tw
theorem hd_M_isTaken : y_M_isTaken.cls ≠ "java/lang/invoke/MethodHandle" ∧ y_M_isTaken.cls ≠ "java/lang/invoke/VarHandle" ∧ (parseMethodDescriptor y_M_isTaken.desc).map (fun d => d.parameters.length) = some 0 := by decide +kernel
abbrev y_M_shorten : MethodName := ({ cls := "FileVolumeModel", name := "shorten", desc := "()Z" } : Jvm.MethodName)
def ws_M_shorten : List Cond := .code y_M_shorten prog_9_method_28_code 4 (some .boolean) :: am_tw
theorem hd_M_shorten : y_M_shorten.cls ≠ "java/lang/invoke/MethodHandle" ∧ y_M_shorten.cls ≠ "java/lang/invoke/VarHandle" ∧ (parseMethodDescriptor y_M_shorten.desc).map (fun d => d.parameters.length) = some 0 := by decide +kernel
abbrev y_M_home : MethodName := ({ cls := "FileVolumeModel", name := "home", desc := "()V" } : Jvm.MethodName)
def ws_M_home : List Cond := .code y_M_home prog_9_method_29_code 2 none :: am_tw
theorem hd_M_home : y_M_home.cls ≠ "java/lang/invoke/MethodHandle" ∧ y_M_home.cls ≠ "java/lang/invoke/VarHandle" ∧ (parseMethodDescriptor y_M_home.desc).map (fun d => d.parameters.length) = some 0 := by decide +kernel
abbrev y_M_door : MethodName := ({ cls := "FileVolumeModel", name := "door", desc := "()Z" } : Jvm.MethodName)
def ws_M_door : List Cond := .code y_M_door prog_9_method_7_code 1 (some .boolean) :: am_tw
theorem hd_M_door : y_M_door.cls ≠ "java/lang/invoke/MethodHandle" ∧ y_M_door.cls ≠ "java/lang/invoke/VarHandle" ∧ (parseMethodDescriptor y_M_door.desc).map (fun d => d.parameters.length) = some 0 := by decide +kernel
abbrev y_M_number : MethodName := ({ cls := "FileVolumeModel", name := "number", desc := "(II)V" } : Jvm.MethodName)
def ws_M_number : List Cond := .code y_M_number prog_9_method_4_code 3 none :: am_tw
theorem hd_M_number : y_M_number.cls ≠ "java/lang/invoke/MethodHandle" ∧ y_M_number.cls ≠ "java/lang/invoke/VarHandle" ∧ (parseMethodDescriptor y_M_number.desc).map (fun d => d.parameters.length) = some 2 := by decide +kernel
abbrev y_M_set : MethodName := ({ cls := "FileVolumeModel", name := "set", desc := "(II)V" } : Jvm.MethodName)
def ws_M_set : List Cond := .code y_M_set prog_9_method_8_code 3 none :: am_tw
theorem hd_M_set : y_M_set.cls ≠ "java/lang/invoke/MethodHandle" ∧ y_M_set.cls ≠ "java/lang/invoke/VarHandle" ∧ (parseMethodDescriptor y_M_set.desc).map (fun d => d.parameters.length) = some 2 := by decide +kernel
abbrev y_M_take : MethodName := ({ cls := "FileVolumeModel", name := "take", desc := "()I" } : Jvm.MethodName)
def ws_M_take : List Cond := .code y_M_take prog_9_method_11_code 3 (some .int) :: am_tw
theorem hd_M_take : y_M_take.cls ≠ "java/lang/invoke/MethodHandle" ∧ y_M_take.cls ≠ "java/lang/invoke/VarHandle" ∧ (parseMethodDescriptor y_M_take.desc).map (fun d => d.parameters.length) = some 0 := by decide +kernel
abbrev y_M_space : MethodName := ({ cls := "FileVolumeModel", name := "space", desc := "(I)I" } : Jvm.MethodName)
def ws_M_space : List Cond := .code y_M_space prog_9_method_32_code 6 (some .int) :: am_tw
theorem hd_M_space : y_M_space.cls ≠ "java/lang/invoke/MethodHandle" ∧ y_M_space.cls ≠ "java/lang/invoke/VarHandle" ∧ (parseMethodDescriptor y_M_space.desc).map (fun d => d.parameters.length) = some 1 := by decide +kernel
abbrev y_M_writePart : MethodName := ({ cls := "FileVolumeModel", name := "writePart", desc := "(II)V" } : Jvm.MethodName)
def ws_M_writePart : List Cond := .code y_M_writePart prog_9_method_33_code 6 none :: am_tw
theorem hd_M_writePart : y_M_writePart.cls ≠ "java/lang/invoke/MethodHandle" ∧ y_M_writePart.cls ≠ "java/lang/invoke/VarHandle" ∧ (parseMethodDescriptor y_M_writePart.desc).map (fun d => d.parameters.length) = some 2 := by decide +kernel
abbrev y_M_writeEntry : MethodName := ({ cls := "FileVolumeModel", name := "writeEntry", desc := "(III)V" } : Jvm.MethodName)
def ws_M_writeEntry : List Cond := .code y_M_writeEntry prog_9_method_34_code 5 none :: am_tw
theorem hd_M_writeEntry : y_M_writeEntry.cls ≠ "java/lang/invoke/MethodHandle" ∧ y_M_writeEntry.cls ≠ "java/lang/invoke/VarHandle" ∧ (parseMethodDescriptor y_M_writeEntry.desc).map (fun d => d.parameters.length) = some 3 := by decide +kernel
abbrev y_M_make : MethodName := ({ cls := "FileVolumeModel", name := "make", desc := "(I)Z" } : Jvm.MethodName)
def ws_M_make : List Cond := .code y_M_make prog_9_method_35_code 5 (some .boolean) :: am_tw
theorem hd_M_make : y_M_make.cls ≠ "java/lang/invoke/MethodHandle" ∧ y_M_make.cls ≠ "java/lang/invoke/VarHandle" ∧ (parseMethodDescriptor y_M_make.desc).map (fun d => d.parameters.length) = some 1 := by decide +kernel
abbrev y_M_create : MethodName := ({ cls := "FileVolumeModel", name := "create", desc := "(I)V" } : Jvm.MethodName)
def ws_M_create : List Cond := .code y_M_create prog_9_method_36_code 3 none :: am_tw
theorem hd_M_create : y_M_create.cls ≠ "java/lang/invoke/MethodHandle" ∧ y_M_create.cls ≠ "java/lang/invoke/VarHandle" ∧ (parseMethodDescriptor y_M_create.desc).map (fun d => d.parameters.length) = some 1 := by decide +kernel
abbrev y_M_isEmpty : MethodName := ({ cls := "FileVolumeModel", name := "isEmpty", desc := "(I)Z" } : Jvm.MethodName)
def ws_M_isEmpty : List Cond := .code y_M_isEmpty prog_9_method_38_code 4 (some .boolean) :: am_tw
theorem hd_M_isEmpty : y_M_isEmpty.cls ≠ "java/lang/invoke/MethodHandle" ∧ y_M_isEmpty.cls ≠ "java/lang/invoke/VarHandle" ∧ (parseMethodDescriptor y_M_isEmpty.desc).map (fun d => d.parameters.length) = some 1 := by decide +kernel
abbrev y_M_mark : MethodName := ({ cls := "FileVolumeModel", name := "mark", desc := "(I)V" } : Jvm.MethodName)
def ws_M_mark : List Cond := .code y_M_mark prog_9_method_9_code 2 none :: am_tw
theorem hd_M_mark : y_M_mark.cls ≠ "java/lang/invoke/MethodHandle" ∧ y_M_mark.cls ≠ "java/lang/invoke/VarHandle" ∧ (parseMethodDescriptor y_M_mark.desc).map (fun d => d.parameters.length) = some 1 := by decide +kernel
abbrev y_M_free : MethodName := ({ cls := "FileVolumeModel", name := "free", desc := "(II)V" } : Jvm.MethodName)
def ws_M_free : List Cond := .code y_M_free prog_9_method_37_code 4 none :: am_tw
theorem hd_M_free : y_M_free.cls ≠ "java/lang/invoke/MethodHandle" ∧ y_M_free.cls ≠ "java/lang/invoke/VarHandle" ∧ (parseMethodDescriptor y_M_free.desc).map (fun d => d.parameters.length) = some 2 := by decide +kernel
abbrev y_M_delete : MethodName := ({ cls := "FileVolumeModel", name := "delete", desc := "()V" } : Jvm.MethodName)
def ws_M_delete : List Cond := .code y_M_delete prog_9_method_39_code 6 none :: am_tw
theorem hd_M_delete : y_M_delete.cls ≠ "java/lang/invoke/MethodHandle" ∧ y_M_delete.cls ≠ "java/lang/invoke/VarHandle" ∧ (parseMethodDescriptor y_M_delete.desc).map (fun d => d.parameters.length) = some 0 := by decide +kernel
abbrev y_M_enter : MethodName := ({ cls := "FileVolumeModel", name := "enter", desc := "()V" } : Jvm.MethodName)
def ws_M_enter : List Cond := .code y_M_enter prog_9_method_40_code 2 none :: am_tw
theorem hd_M_enter : y_M_enter.cls ≠ "java/lang/invoke/MethodHandle" ∧ y_M_enter.cls ≠ "java/lang/invoke/VarHandle" ∧ (parseMethodDescriptor y_M_enter.desc).map (fun d => d.parameters.length) = some 0 := by decide +kernel
abbrev y_M_open : MethodName := ({ cls := "FileVolumeModel", name := "open", desc := "()I" } : Jvm.MethodName)
def ws_M_open : List Cond := .code y_M_open prog_9_method_41_code 3 (some .int) :: am_tw
theorem hd_M_open : y_M_open.cls ≠ "java/lang/invoke/MethodHandle" ∧ y_M_open.cls ≠ "java/lang/invoke/VarHandle" ∧ (parseMethodDescriptor y_M_open.desc).map (fun d => d.parameters.length) = some 0 := by decide +kernel
abbrev y_M_isOpen : MethodName := ({ cls := "FileVolumeModel", name := "isOpen", desc := "(I)Z" } : Jvm.MethodName)
def ws_M_isOpen : List Cond := .code y_M_isOpen prog_9_method_42_code 2 (some .boolean) :: am_tw
theorem hd_M_isOpen : y_M_isOpen.cls ≠ "java/lang/invoke/MethodHandle" ∧ y_M_isOpen.cls ≠ "java/lang/invoke/VarHandle" ∧ (parseMethodDescriptor y_M_isOpen.desc).map (fun d => d.parameters.length) = some 1 := by decide +kernel
abbrev y_M_close : MethodName := ({ cls := "FileVolumeModel", name := "close", desc := "(I)Z" } : Jvm.MethodName)
def ws_M_close : List Cond := .code y_M_close prog_9_method_43_code 2 (some .boolean) :: am_tw
theorem hd_M_close : y_M_close.cls ≠ "java/lang/invoke/MethodHandle" ∧ y_M_close.cls ≠ "java/lang/invoke/VarHandle" ∧ (parseMethodDescriptor y_M_close.desc).map (fun d => d.parameters.length) = some 1 := by decide +kernel
abbrev y_M_sizeOf : MethodName := ({ cls := "FileVolumeModel", name := "sizeOf", desc := "(I)I" } : Jvm.MethodName)
def ws_M_sizeOf : List Cond := .code y_M_sizeOf prog_9_method_44_code 2 (some .int) :: am_tw
theorem hd_M_sizeOf : y_M_sizeOf.cls ≠ "java/lang/invoke/MethodHandle" ∧ y_M_sizeOf.cls ≠ "java/lang/invoke/VarHandle" ∧ (parseMethodDescriptor y_M_sizeOf.desc).map (fun d => d.parameters.length) = some 1 := by decide +kernel
abbrev y_M_seek : MethodName := ({ cls := "FileVolumeModel", name := "seek", desc := "(II)Z" } : Jvm.MethodName)
def ws_M_seek : List Cond := .code y_M_seek prog_9_method_45_code 3 (some .boolean) :: am_tw
theorem hd_M_seek : y_M_seek.cls ≠ "java/lang/invoke/MethodHandle" ∧ y_M_seek.cls ≠ "java/lang/invoke/VarHandle" ∧ (parseMethodDescriptor y_M_seek.desc).map (fun d => d.parameters.length) = some 2 := by decide +kernel
abbrev y_M_byteOf : MethodName := ({ cls := "FileVolumeModel", name := "byteOf", desc := "(II)I" } : Jvm.MethodName)
def ws_M_byteOf : List Cond := .code y_M_byteOf prog_9_method_46_code 3 (some .int) :: am_tw
theorem hd_M_byteOf : y_M_byteOf.cls ≠ "java/lang/invoke/MethodHandle" ∧ y_M_byteOf.cls ≠ "java/lang/invoke/VarHandle" ∧ (parseMethodDescriptor y_M_byteOf.desc).map (fun d => d.parameters.length) = some 2 := by decide +kernel
abbrev y_M_read : MethodName := ({ cls := "FileVolumeModel", name := "read", desc := "(II)J" } : Jvm.MethodName)
def ws_M_read : List Cond := .code y_M_read prog_9_method_47_code 8 (some .long) :: am_tw
theorem hd_M_read : y_M_read.cls ≠ "java/lang/invoke/MethodHandle" ∧ y_M_read.cls ≠ "java/lang/invoke/VarHandle" ∧ (parseMethodDescriptor y_M_read.desc).map (fun d => d.parameters.length) = some 2 := by decide +kernel
abbrev y_M_writeNumber : MethodName := ({ cls := "FileVolumeModel", name := "writeNumber", desc := "(II)V" } : Jvm.MethodName)
def ws_M_writeNumber : List Cond := .code y_M_writeNumber prog_9_method_10_code 3 none :: am_tw
theorem hd_M_writeNumber : y_M_writeNumber.cls ≠ "java/lang/invoke/MethodHandle" ∧ y_M_writeNumber.cls ≠ "java/lang/invoke/VarHandle" ∧ (parseMethodDescriptor y_M_writeNumber.desc).map (fun d => d.parameters.length) = some 2 := by decide +kernel
abbrev y_M_fill : MethodName := ({ cls := "FileVolumeModel", name := "fill", desc := "(IIIJI)V" } : Jvm.MethodName)
def ws_M_fill : List Cond := .code y_M_fill prog_9_method_49_code 9 none :: am_tw
theorem hd_M_fill : y_M_fill.cls ≠ "java/lang/invoke/MethodHandle" ∧ y_M_fill.cls ≠ "java/lang/invoke/VarHandle" ∧ (parseMethodDescriptor y_M_fill.desc).map (fun d => d.parameters.length) = some 5 := by decide +kernel
abbrev y_M_write : MethodName := ({ cls := "FileVolumeModel", name := "write", desc := "(IJI)I" } : Jvm.MethodName)
def ws_M_write : List Cond := .code y_M_write prog_9_method_48_code 10 (some .int) :: am_tw
theorem hd_M_write : y_M_write.cls ≠ "java/lang/invoke/MethodHandle" ∧ y_M_write.cls ≠ "java/lang/invoke/VarHandle" ∧ (parseMethodDescriptor y_M_write.desc).map (fun d => d.parameters.length) = some 3 := by decide +kernel
abbrev y_M_list : MethodName := ({ cls := "FileVolumeModel", name := "list", desc := "(II)I" } : Jvm.MethodName)
def ws_M_list : List Cond := .code y_M_list prog_9_method_50_code 7 (some .int) :: am_tw
theorem hd_M_list : y_M_list.cls ≠ "java/lang/invoke/MethodHandle" ∧ y_M_list.cls ≠ "java/lang/invoke/VarHandle" ∧ (parseMethodDescriptor y_M_list.desc).map (fun d => d.parameters.length) = some 2 := by decide +kernel
abbrev y_M_cut : MethodName := ({ cls := "FileVolumeModel", name := "cut", desc := "(I)Z" } : Jvm.MethodName)
def ws_M_cut : List Cond := .code y_M_cut prog_9_method_51_code 2 (some .boolean) :: am_tw
theorem hd_M_cut : y_M_cut.cls ≠ "java/lang/invoke/MethodHandle" ∧ y_M_cut.cls ≠ "java/lang/invoke/VarHandle" ∧ (parseMethodDescriptor y_M_cut.desc).map (fun d => d.parameters.length) = some 1 := by decide +kernel
abbrev y_M_power : MethodName := ({ cls := "FileVolumeModel", name := "power", desc := "()Z" } : Jvm.MethodName)
def ws_M_power : List Cond := .code y_M_power prog_9_method_52_code 1 (some .boolean) :: am_tw
theorem hd_M_power : y_M_power.cls ≠ "java/lang/invoke/MethodHandle" ∧ y_M_power.cls ≠ "java/lang/invoke/VarHandle" ∧ (parseMethodDescriptor y_M_power.desc).map (fun d => d.parameters.length) = some 0 := by decide +kernel
abbrev y_M_fix : MethodName := ({ cls := "FileVolumeModel", name := "fix", desc := "(II)V" } : Jvm.MethodName)
def ws_M_fix : List Cond := .code y_M_fix prog_9_method_53_code 3 none :: am_tw
theorem hd_M_fix : y_M_fix.cls ≠ "java/lang/invoke/MethodHandle" ∧ y_M_fix.cls ≠ "java/lang/invoke/VarHandle" ∧ (parseMethodDescriptor y_M_fix.desc).map (fun d => d.parameters.length) = some 2 := by decide +kernel
abbrev y_M_mendTables : MethodName := ({ cls := "FileVolumeModel", name := "mendTables", desc := "()V" } : Jvm.MethodName)
def ws_M_mendTables : List Cond := .code y_M_mendTables prog_9_method_54_code 3 none :: am_tw
theorem hd_M_mendTables : y_M_mendTables.cls ≠ "java/lang/invoke/MethodHandle" ∧ y_M_mendTables.cls ≠ "java/lang/invoke/VarHandle" ∧ (parseMethodDescriptor y_M_mendTables.desc).map (fun d => d.parameters.length) = some 0 := by decide +kernel
abbrev y_M_follow : MethodName := ({ cls := "FileVolumeModel", name := "follow", desc := "(I)I" } : Jvm.MethodName)
def ws_M_follow : List Cond := .code y_M_follow prog_9_method_55_code 6 (some .int) :: am_tw
theorem hd_M_follow : y_M_follow.cls ≠ "java/lang/invoke/MethodHandle" ∧ y_M_follow.cls ≠ "java/lang/invoke/VarHandle" ∧ (parseMethodDescriptor y_M_follow.desc).map (fun d => d.parameters.length) = some 1 := by decide +kernel
abbrev y_M_tells : MethodName := ({ cls := "FileVolumeModel", name := "tells", desc := "(II)Z" } : Jvm.MethodName)
def ws_M_tells : List Cond := .code y_M_tells prog_9_method_58_code 4 (some .boolean) :: am_tw
theorem hd_M_tells : y_M_tells.cls ≠ "java/lang/invoke/MethodHandle" ∧ y_M_tells.cls ≠ "java/lang/invoke/VarHandle" ∧ (parseMethodDescriptor y_M_tells.desc).map (fun d => d.parameters.length) = some 2 := by decide +kernel
abbrev y_M_isBad : MethodName := ({ cls := "FileVolumeModel", name := "isBad", desc := "(II)Z" } : Jvm.MethodName)
def ws_M_isBad : List Cond := .code y_M_isBad prog_9_method_57_code 6 (some .boolean) :: am_tw
theorem hd_M_isBad : y_M_isBad.cls ≠ "java/lang/invoke/MethodHandle" ∧ y_M_isBad.cls ≠ "java/lang/invoke/VarHandle" ∧ (parseMethodDescriptor y_M_isBad.desc).map (fun d => d.parameters.length) = some 2 := by decide +kernel
abbrev y_M_mendFile : MethodName := ({ cls := "FileVolumeModel", name := "mendFile", desc := "(II)V" } : Jvm.MethodName)
def ws_M_mendFile : List Cond := .code y_M_mendFile prog_9_method_56_code 5 none :: am_tw
theorem hd_M_mendFile : y_M_mendFile.cls ≠ "java/lang/invoke/MethodHandle" ∧ y_M_mendFile.cls ≠ "java/lang/invoke/VarHandle" ∧ (parseMethodDescriptor y_M_mendFile.desc).map (fun d => d.parameters.length) = some 2 := by decide +kernel
abbrev y_M_walk : MethodName := ({ cls := "FileVolumeModel", name := "walk", desc := "()V" } : Jvm.MethodName)
def ws_M_walk : List Cond := .code y_M_walk prog_9_method_59_code 6 none :: am_tw
theorem hd_M_walk : y_M_walk.cls ≠ "java/lang/invoke/MethodHandle" ∧ y_M_walk.cls ≠ "java/lang/invoke/VarHandle" ∧ (parseMethodDescriptor y_M_walk.desc).map (fun d => d.parameters.length) = some 0 := by decide +kernel
abbrev y_M_repair : MethodName := ({ cls := "FileVolumeModel", name := "repair", desc := "()I" } : Jvm.MethodName)
def ws_M_repair : List Cond := .code y_M_repair prog_9_method_60_code 2 (some .int) :: am_tw
theorem hd_M_repair : y_M_repair.cls ≠ "java/lang/invoke/MethodHandle" ∧ y_M_repair.cls ≠ "java/lang/invoke/VarHandle" ∧ (parseMethodDescriptor y_M_repair.desc).map (fun d => d.parameters.length) = some 0 := by decide +kernel
abbrev y_M_octet : MethodName := ({ cls := "FileVolumeModel", name := "octet", desc := "(II)I" } : Jvm.MethodName)
def ws_M_octet : List Cond := .code y_M_octet prog_9_method_61_code 3 (some .int) :: am_tw
theorem hd_M_octet : y_M_octet.cls ≠ "java/lang/invoke/MethodHandle" ∧ y_M_octet.cls ≠ "java/lang/invoke/VarHandle" ∧ (parseMethodDescriptor y_M_octet.desc).map (fun d => d.parameters.length) = some 2 := by decide +kernel
abbrev y_M_poke : MethodName := ({ cls := "FileVolumeModel", name := "poke", desc := "(III)Z" } : Jvm.MethodName)
def ws_M_poke : List Cond := .code y_M_poke prog_9_method_62_code 4 (some .boolean) :: am_tw
theorem hd_M_poke : y_M_poke.cls ≠ "java/lang/invoke/MethodHandle" ∧ y_M_poke.cls ≠ "java/lang/invoke/VarHandle" ∧ (parseMethodDescriptor y_M_poke.desc).map (fun d => d.parameters.length) = some 3 := by decide +kernel
abbrev y_M_look : MethodName := ({ cls := "FileVolumeModel", name := "look", desc := "(I)I" } : Jvm.MethodName)
def ws_M_look : List Cond := .code y_M_look prog_9_method_63_code 4 (some .int) :: am_tw
theorem hd_M_look : y_M_look.cls ≠ "java/lang/invoke/MethodHandle" ∧ y_M_look.cls ≠ "java/lang/invoke/VarHandle" ∧ (parseMethodDescriptor y_M_look.desc).map (fun d => d.parameters.length) = some 1 := by decide +kernel
abbrev y_V_init : MethodName := ({ cls := "FileVolume", name := "<init>", desc := "()V" } : Jvm.MethodName)
def ws_V_init : List Cond := .code y_V_init prog_1_method_1_code 1 none :: am_tw
theorem hd_V_init : y_V_init.cls ≠ "java/lang/invoke/MethodHandle" ∧ y_V_init.cls ≠ "java/lang/invoke/VarHandle" ∧ (parseMethodDescriptor y_V_init.desc).map (fun d => d.parameters.length) = some 0 := by decide +kernel
abbrev y_Ses_init : MethodName := ({ cls := "FileVolume$Session", name := "<init>", desc := "()V" } : Jvm.MethodName)
def ws_Ses_init : List Cond := .code y_Ses_init prog_6_method_1_code 1 none :: am_tw
theorem hd_Ses_init : y_Ses_init.cls ≠ "java/lang/invoke/MethodHandle" ∧ y_Ses_init.cls ≠ "java/lang/invoke/VarHandle" ∧ (parseMethodDescriptor y_Ses_init.desc).map (fun d => d.parameters.length) = some 0 := by decide +kernel
abbrev y_Disk_init : MethodName := ({ cls := "FileVolume$Disk", name := "<init>", desc := "(LFileVolume$Session;)V" } : Jvm.MethodName)
def ws_Disk_init : List Cond := .code y_Disk_init prog_2_method_1_code 3 none :: am_tw
theorem hd_Disk_init : y_Disk_init.cls ≠ "java/lang/invoke/MethodHandle" ∧ y_Disk_init.cls ≠ "java/lang/invoke/VarHandle" ∧ (parseMethodDescriptor y_Disk_init.desc).map (fun d => d.parameters.length) = some 1 := by decide +kernel
abbrev y_Table_init : MethodName := ({ cls := "FileVolume$Table", name := "<init>", desc := "(LFileVolume$Disk;)V" } : Jvm.MethodName)
def ws_Table_init : List Cond := .code y_Table_init prog_7_method_1_code 2 none :: am_tw
theorem hd_Table_init : y_Table_init.cls ≠ "java/lang/invoke/MethodHandle" ∧ y_Table_init.cls ≠ "java/lang/invoke/VarHandle" ∧ (parseMethodDescriptor y_Table_init.desc).map (fun d => d.parameters.length) = some 1 := by decide +kernel
abbrev y_Folder_init : MethodName := ({ cls := "FileVolume$Folder", name := "<init>", desc := "(LFileVolume$Disk;LFileVolume$Table;)V" } : Jvm.MethodName)
def ws_Folder_init : List Cond := .code y_Folder_init prog_3_method_1_code 3 none :: am_tw
theorem hd_Folder_init : y_Folder_init.cls ≠ "java/lang/invoke/MethodHandle" ∧ y_Folder_init.cls ≠ "java/lang/invoke/VarHandle" ∧ (parseMethodDescriptor y_Folder_init.desc).map (fun d => d.parameters.length) = some 2 := by decide +kernel
abbrev y_Rep_init : MethodName := ({ cls := "FileVolume$Repairer", name := "<init>", desc := "(LFileVolume$Disk;LFileVolume$Table;LFileVolume$Folder;)V" } : Jvm.MethodName)
def ws_Rep_init : List Cond := .code y_Rep_init prog_5_method_1_code 4 none :: am_tw
theorem hd_Rep_init : y_Rep_init.cls ≠ "java/lang/invoke/MethodHandle" ∧ y_Rep_init.cls ≠ "java/lang/invoke/VarHandle" ∧ (parseMethodDescriptor y_Rep_init.desc).map (fun d => d.parameters.length) = some 3 := by decide +kernel
abbrev y_Name_init : MethodName := ({ cls := "FileVolume$Name", name := "<init>", desc := "()V" } : Jvm.MethodName)
def ws_Name_init : List Cond := .code y_Name_init prog_4_method_1_code 1 none :: am_tw
theorem hd_Name_init : y_Name_init.cls ≠ "java/lang/invoke/MethodHandle" ∧ y_Name_init.cls ≠ "java/lang/invoke/VarHandle" ∧ (parseMethodDescriptor y_Name_init.desc).map (fun d => d.parameters.length) = some 0 := by decide +kernel
abbrev y_M_init : MethodName := ({ cls := "FileVolumeModel", name := "<init>", desc := "()V" } : Jvm.MethodName)
def ws_M_init : List Cond := .code y_M_init prog_9_method_1_code 2 none :: am_tw
theorem hd_M_init : y_M_init.cls ≠ "java/lang/invoke/MethodHandle" ∧ y_M_init.cls ≠ "java/lang/invoke/VarHandle" ∧ (parseMethodDescriptor y_M_init.desc).map (fun d => d.parameters.length) = some 0 := by decide +kernel
abbrev y_L_create : MethodName := ({ cls := "FileVolumeLaw", name := "create", desc := "(LFileVolume;I)I" } : Jvm.MethodName)
def ws_L_create : List Cond := (Jvm.Cond.codeWith ({ cls := "FileVolumeLaw", name := "create", desc := "(LFileVolume;I)I" } : Jvm.MethodName) method_3_code (3 : Nat) (Option.some Jvm.ClassFile.FieldType.int) [((0 : Nat), (5 : Nat), (8 : Nat), (13 : Nat)), ((0 : Nat), (5 : Nat), (11 : Nat), (15 : Nat)), ((0 : Nat), (5 : Nat), (14 : Nat), (17 : Nat))]) :: am_tw
theorem hd_L_create : y_L_create.cls ≠ "java/lang/invoke/MethodHandle" ∧ y_L_create.cls ≠ "java/lang/invoke/VarHandle" ∧ (parseMethodDescriptor y_L_create.desc).map (fun d => d.parameters.length) = some 2 := by decide +kernel
abbrev y_L_delete : MethodName := ({ cls := "FileVolumeLaw", name := "delete", desc := "(LFileVolume;)I" } : Jvm.MethodName)
def ws_L_delete : List Cond := (Jvm.Cond.codeWith ({ cls := "FileVolumeLaw", name := "delete", desc := "(LFileVolume;)I" } : Jvm.MethodName) method_4_code (2 : Nat) (Option.some Jvm.ClassFile.FieldType.int) [((0 : Nat), (4 : Nat), (7 : Nat), (13 : Nat)), ((0 : Nat), (4 : Nat), (10 : Nat), (22 : Nat)), ((0 : Nat), (4 : Nat), (13 : Nat), (17 : Nat))]) :: am_tw
theorem hd_L_delete : y_L_delete.cls ≠ "java/lang/invoke/MethodHandle" ∧ y_L_delete.cls ≠ "java/lang/invoke/VarHandle" ∧ (parseMethodDescriptor y_L_delete.desc).map (fun d => d.parameters.length) = some 1 := by decide +kernel
abbrev y_L_enter : MethodName := ({ cls := "FileVolumeLaw", name := "enter", desc := "(LFileVolume;)I" } : Jvm.MethodName)
def ws_L_enter : List Cond := (Jvm.Cond.codeWith ({ cls := "FileVolumeLaw", name := "enter", desc := "(LFileVolume;)I" } : Jvm.MethodName) method_5_code (2 : Nat) (Option.some Jvm.ClassFile.FieldType.int) [((0 : Nat), (4 : Nat), (7 : Nat), (13 : Nat)), ((0 : Nat), (4 : Nat), (10 : Nat), (22 : Nat))]) :: am_tw
theorem hd_L_enter : y_L_enter.cls ≠ "java/lang/invoke/MethodHandle" ∧ y_L_enter.cls ≠ "java/lang/invoke/VarHandle" ∧ (parseMethodDescriptor y_L_enter.desc).map (fun d => d.parameters.length) = some 1 := by decide +kernel
abbrev y_L_open : MethodName := ({ cls := "FileVolumeLaw", name := "open", desc := "(LFileVolume;[J)I" } : Jvm.MethodName)
def ws_L_open : List Cond := (Jvm.Cond.codeWith ({ cls := "FileVolumeLaw", name := "open", desc := "(LFileVolume;[J)I" } : Jvm.MethodName) method_6_code (3 : Nat) (Option.some Jvm.ClassFile.FieldType.int) [((0 : Nat), (8 : Nat), (11 : Nat), (13 : Nat)), ((0 : Nat), (8 : Nat), (14 : Nat), (22 : Nat)), ((0 : Nat), (8 : Nat), (17 : Nat), (17 : Nat))]) :: am_tw
theorem hd_L_open : y_L_open.cls ≠ "java/lang/invoke/MethodHandle" ∧ y_L_open.cls ≠ "java/lang/invoke/VarHandle" ∧ (parseMethodDescriptor y_L_open.desc).map (fun d => d.parameters.length) = some 2 := by decide +kernel
abbrev y_L_read : MethodName := ({ cls := "FileVolumeLaw", name := "read", desc := "(LFileVolume;II[J)I" } : Jvm.MethodName)
def ws_L_read : List Cond := (Jvm.Cond.codeWith ({ cls := "FileVolumeLaw", name := "read", desc := "(LFileVolume;II[J)I" } : Jvm.MethodName) method_7_code (5 : Nat) (Option.some Jvm.ClassFile.FieldType.int) [((0 : Nat), (9 : Nat), (12 : Nat), (13 : Nat)), ((0 : Nat), (9 : Nat), (16 : Nat), (15 : Nat))]) :: am_tw
theorem hd_L_read : y_L_read.cls ≠ "java/lang/invoke/MethodHandle" ∧ y_L_read.cls ≠ "java/lang/invoke/VarHandle" ∧ (parseMethodDescriptor y_L_read.desc).map (fun d => d.parameters.length) = some 4 := by decide +kernel
abbrev y_L_write : MethodName := ({ cls := "FileVolumeLaw", name := "write", desc := "(LFileVolume;IJI[J)I" } : Jvm.MethodName)
def ws_L_write : List Cond := (Jvm.Cond.codeWith ({ cls := "FileVolumeLaw", name := "write", desc := "(LFileVolume;IJI[J)I" } : Jvm.MethodName) method_8_code (7 : Nat) (Option.some Jvm.ClassFile.FieldType.int) [((0 : Nat), (13 : Nat), (16 : Nat), (13 : Nat)), ((0 : Nat), (13 : Nat), (20 : Nat), (15 : Nat)), ((0 : Nat), (13 : Nat), (24 : Nat), (17 : Nat))]) :: am_tw
theorem hd_L_write : y_L_write.cls ≠ "java/lang/invoke/MethodHandle" ∧ y_L_write.cls ≠ "java/lang/invoke/VarHandle" ∧ (parseMethodDescriptor y_L_write.desc).map (fun d => d.parameters.length) = some 5 := by decide +kernel
abbrev y_L_list : MethodName := ({ cls := "FileVolumeLaw", name := "list", desc := "(LFileVolume;II[J)I" } : Jvm.MethodName)
def ws_L_list : List Cond := (Jvm.Cond.codeWith ({ cls := "FileVolumeLaw", name := "list", desc := "(LFileVolume;II[J)I" } : Jvm.MethodName) method_9_code (5 : Nat) (Option.some Jvm.ClassFile.FieldType.int) [((0 : Nat), (10 : Nat), (13 : Nat), (13 : Nat)), ((0 : Nat), (10 : Nat), (17 : Nat), (22 : Nat)), ((0 : Nat), (10 : Nat), (21 : Nat), (43 : Nat))]) :: am_tw
theorem hd_L_list : y_L_list.cls ≠ "java/lang/invoke/MethodHandle" ∧ y_L_list.cls ≠ "java/lang/invoke/VarHandle" ∧ (parseMethodDescriptor y_L_list.desc).map (fun d => d.parameters.length) = some 4 := by decide +kernel
abbrev y_L_repair : MethodName := ({ cls := "FileVolumeLaw", name := "repair", desc := "(LFileVolume;[J)I" } : Jvm.MethodName)
def ws_L_repair : List Cond := (Jvm.Cond.codeWith ({ cls := "FileVolumeLaw", name := "repair", desc := "(LFileVolume;[J)I" } : Jvm.MethodName) method_10_code (3 : Nat) (Option.some Jvm.ClassFile.FieldType.int) [((0 : Nat), (8 : Nat), (11 : Nat), (13 : Nat))]) :: am_tw
theorem hd_L_repair : y_L_repair.cls ≠ "java/lang/invoke/MethodHandle" ∧ y_L_repair.cls ≠ "java/lang/invoke/VarHandle" ∧ (parseMethodDescriptor y_L_repair.desc).map (fun d => d.parameters.length) = some 2 := by decide +kernel
theorem tw_0 : (Jvm.Cond.initialized "FileVolumeLaw") ∈ am_tw := am_mem 0 (by decide +kernel) (by decide +kernel)
theorem tw_1 : (Jvm.Cond.initialized "FileVolume") ∈ am_tw := am_mem 1 (by decide +kernel) (by decide +kernel)
theorem tw_2 : (Jvm.Cond.initialized "FileVolume$Session") ∈ am_tw := am_mem 2 (by decide +kernel) (by decide +kernel)
theorem tw_3 : (Jvm.Cond.initialized "FileVolume$Disk") ∈ am_tw := am_mem 3 (by decide +kernel) (by decide +kernel)
theorem tw_4 : (Jvm.Cond.initialized "FileVolume$Table") ∈ am_tw := am_mem 4 (by decide +kernel) (by decide +kernel)
theorem tw_5 : (Jvm.Cond.initialized "FileVolume$Folder") ∈ am_tw := am_mem 5 (by decide +kernel) (by decide +kernel)
theorem tw_6 : (Jvm.Cond.initialized "FileVolume$Repairer") ∈ am_tw := am_mem 6 (by decide +kernel) (by decide +kernel)
theorem tw_7 : (Jvm.Cond.initialized "FileVolume$Name") ∈ am_tw := am_mem 7 (by decide +kernel) (by decide +kernel)
theorem tw_8 : (Jvm.Cond.initialized "FileVolumeModel") ∈ am_tw := am_mem 8 (by decide +kernel) (by decide +kernel)
theorem tw_12 : (Jvm.Cond.initialized "java/lang/IllegalStateException") ∈ am_tw := am_mem 12 (by decide +kernel) (by decide +kernel)
theorem tw_13 : (Jvm.Cond.initialized "java/lang/IllegalArgumentException") ∈ am_tw := am_mem 13 (by decide +kernel) (by decide +kernel)
theorem tw_14 : (Jvm.Cond.initialized "java/lang/UnsupportedOperationException") ∈ am_tw := am_mem 14 (by decide +kernel) (by decide +kernel)
theorem tw_15 : (Jvm.Cond.initialized "java/util/NoSuchElementException") ∈ am_tw := am_mem 15 (by decide +kernel) (by decide +kernel)
theorem tw_16 : (Jvm.Cond.initialized "java/lang/Math") ∈ am_tw := am_mem 16 (by decide +kernel) (by decide +kernel)
theorem tw_17 : (Jvm.Cond.initialized "java/lang/IndexOutOfBoundsException") ∈ am_tw := am_mem 17 (by decide +kernel) (by decide +kernel)
theorem tw_18 : (Jvm.Cond.classLink "FileVolumeLaw" (8 : Nat) "FileVolume") ∈ am_tw := am_mem 18 (by decide +kernel) (by decide +kernel)
theorem tw_19 : (Jvm.Cond.instantiable "FileVolume" (8 : Nat)) ∈ am_tw := am_mem 19 (by decide +kernel) (by decide +kernel)
theorem tw_20 : (Jvm.Cond.methodLink "FileVolumeLaw" (48 : Nat) ({ cls := "FileVolume", name := "<init>", desc := "()V" } : Jvm.MethodName)) ∈ am_tw := am_mem 20 (by decide +kernel) (by decide +kernel)
theorem tw_21 : (Jvm.Cond.instanceMethod ({ cls := "FileVolume", name := "<init>", desc := "()V" } : Jvm.MethodName)) ∈ am_tw := am_mem 21 (by decide +kernel) (by decide +kernel)
theorem tw_22 : (Jvm.Cond.code ({ cls := "FileVolume", name := "<init>", desc := "()V" } : Jvm.MethodName) prog_1_method_1_code (1 : Nat) (Option.none : Option Jvm.ClassFile.FieldType)) ∈ am_tw := am_mem 22 (by decide +kernel) (by decide +kernel)
theorem tw_23 : (Jvm.Cond.methodLink "FileVolume" (3 : Nat) ({ cls := "java/lang/Object", name := "<init>", desc := "()V" } : Jvm.MethodName)) ∈ am_tw := am_mem 23 (by decide +kernel) (by decide +kernel)
theorem tw_24 : (Jvm.Cond.instanceMethod ({ cls := "java/lang/Object", name := "<init>", desc := "()V" } : Jvm.MethodName)) ∈ am_tw := am_mem 24 (by decide +kernel) (by decide +kernel)
theorem tw_25 : (Jvm.Cond.code ({ cls := "java/lang/Object", name := "<init>", desc := "()V" } : Jvm.MethodName) object_method_1_code (1 : Nat) (Option.none : Option Jvm.ClassFile.FieldType)) ∈ am_tw := am_mem 25 (by decide +kernel) (by decide +kernel)
theorem tw_26 : (Jvm.Cond.classLink "FileVolume" (9 : Nat) "FileVolume$Session") ∈ am_tw := am_mem 26 (by decide +kernel) (by decide +kernel)
theorem tw_27 : (Jvm.Cond.instantiable "FileVolume$Session" (6 : Nat)) ∈ am_tw := am_mem 27 (by decide +kernel) (by decide +kernel)
theorem tw_28 : (Jvm.Cond.methodLink "FileVolume" (11 : Nat) ({ cls := "FileVolume$Session", name := "<init>", desc := "()V" } : Jvm.MethodName)) ∈ am_tw := am_mem 28 (by decide +kernel) (by decide +kernel)
theorem tw_29 : (Jvm.Cond.instanceMethod ({ cls := "FileVolume$Session", name := "<init>", desc := "()V" } : Jvm.MethodName)) ∈ am_tw := am_mem 29 (by decide +kernel) (by decide +kernel)
theorem tw_30 : (Jvm.Cond.code ({ cls := "FileVolume$Session", name := "<init>", desc := "()V" } : Jvm.MethodName) prog_6_method_1_code (1 : Nat) (Option.none : Option Jvm.ClassFile.FieldType)) ∈ am_tw := am_mem 30 (by decide +kernel) (by decide +kernel)
theorem tw_31 : (Jvm.Cond.methodLink "FileVolume$Session" (3 : Nat) ({ cls := "java/lang/Object", name := "<init>", desc := "()V" } : Jvm.MethodName)) ∈ am_tw := am_mem 31 (by decide +kernel) (by decide +kernel)
theorem tw_32 : (Jvm.Cond.methodLink "FileVolume$Session" (22 : Nat) ({ cls := "FileVolume$Session", name := "leave", desc := "()V" } : Jvm.MethodName)) ∈ am_tw := am_mem 32 (by decide +kernel) (by decide +kernel)
theorem tw_33 : (Jvm.Cond.instanceMethod ({ cls := "FileVolume$Session", name := "leave", desc := "()V" } : Jvm.MethodName)) ∈ am_tw := am_mem 33 (by decide +kernel) (by decide +kernel)
theorem tw_34 : (Jvm.Cond.selects "FileVolume$Session" ({ cls := "FileVolume$Session", name := "leave", desc := "()V" } : Jvm.MethodName) ({ cls := "FileVolume$Session", name := "leave", desc := "()V" } : Jvm.MethodName)) ∈ am_tw := am_mem 34 (by decide +kernel) (by decide +kernel)
theorem tw_35 : (Jvm.Cond.code ({ cls := "FileVolume$Session", name := "leave", desc := "()V" } : Jvm.MethodName) prog_6_method_5_code (2 : Nat) (Option.none : Option Jvm.ClassFile.FieldType)) ∈ am_tw := am_mem 35 (by decide +kernel) (by decide +kernel)
theorem tw_36 : (Jvm.Cond.fieldLink "FileVolume$Session" (9 : Nat) "FileVolume$Session" "line" "[C") ∈ am_tw := am_mem 36 (by decide +kernel) (by decide +kernel)
theorem tw_38 : (Jvm.Cond.fieldLink "FileVolume$Session" (15 : Nat) "FileVolume$Session" "entries" "[I") ∈ am_tw := am_mem 38 (by decide +kernel) (by decide +kernel)
theorem tw_39 : (Jvm.Cond.fieldLink "FileVolume$Session" (19 : Nat) "FileVolume$Session" "positions" "[I") ∈ am_tw := am_mem 39 (by decide +kernel) (by decide +kernel)
theorem tw_41 : (Jvm.Cond.fieldLink "FileVolume$Session" (25 : Nat) "FileVolume$Session" "lineLength" "I") ∈ am_tw := am_mem 41 (by decide +kernel) (by decide +kernel)
theorem tw_44 : (Jvm.Cond.fieldLink "FileVolume$Session" (29 : Nat) "FileVolume$Session" "here" "I") ∈ am_tw := am_mem 44 (by decide +kernel) (by decide +kernel)
theorem tw_46 : (Jvm.Cond.fieldLink "FileVolume$Session" (32 : Nat) "FileVolume$Session" "depth" "I") ∈ am_tw := am_mem 46 (by decide +kernel) (by decide +kernel)
theorem tw_61 : (Jvm.Cond.arrayClass Jvm.ClassFile.FieldType.char) ∈ am_tw := am_mem 61 (by decide +kernel) (by decide +kernel)
theorem tw_62 : (Jvm.Cond.arrayClass Jvm.ClassFile.FieldType.int) ∈ am_tw := am_mem 62 (by decide +kernel) (by decide +kernel)
theorem tw_63 : (Jvm.Cond.classLink "FileVolume" (16 : Nat) "FileVolume$Disk") ∈ am_tw := am_mem 63 (by decide +kernel) (by decide +kernel)
theorem tw_64 : (Jvm.Cond.instantiable "FileVolume$Disk" (7 : Nat)) ∈ am_tw := am_mem 64 (by decide +kernel) (by decide +kernel)
theorem tw_65 : (Jvm.Cond.methodLink "FileVolume" (18 : Nat) ({ cls := "FileVolume$Disk", name := "<init>", desc := "(LFileVolume$Session;)V" } : Jvm.MethodName)) ∈ am_tw := am_mem 65 (by decide +kernel) (by decide +kernel)
theorem tw_66 : (Jvm.Cond.instanceMethod ({ cls := "FileVolume$Disk", name := "<init>", desc := "(LFileVolume$Session;)V" } : Jvm.MethodName)) ∈ am_tw := am_mem 66 (by decide +kernel) (by decide +kernel)
theorem tw_67 : (Jvm.Cond.code ({ cls := "FileVolume$Disk", name := "<init>", desc := "(LFileVolume$Session;)V" } : Jvm.MethodName) prog_2_method_1_code (3 : Nat) (Option.none : Option Jvm.ClassFile.FieldType)) ∈ am_tw := am_mem 67 (by decide +kernel) (by decide +kernel)
theorem tw_68 : (Jvm.Cond.methodLink "FileVolume$Disk" (3 : Nat) ({ cls := "java/lang/Object", name := "<init>", desc := "()V" } : Jvm.MethodName)) ∈ am_tw := am_mem 68 (by decide +kernel) (by decide +kernel)
theorem tw_69 : (Jvm.Cond.fieldLink "FileVolume$Disk" (15 : Nat) "FileVolume$Disk" "bytes" "[I") ∈ am_tw := am_mem 69 (by decide +kernel) (by decide +kernel)
theorem tw_70 : (Jvm.Cond.fieldLink "FileVolume$Disk" (9 : Nat) "FileVolume$Disk" "session" "LFileVolume$Session;") ∈ am_tw := am_mem 70 (by decide +kernel) (by decide +kernel)
theorem tw_71 : (Jvm.Cond.fieldLink "FileVolume$Disk" (19 : Nat) "FileVolume$Disk" "powered" "Z") ∈ am_tw := am_mem 71 (by decide +kernel) (by decide +kernel)
theorem tw_74 : (Jvm.Cond.fieldLink "FileVolume$Disk" (45 : Nat) "FileVolume$Disk" "writes" "I") ∈ am_tw := am_mem 74 (by decide +kernel) (by decide +kernel)
theorem tw_76 : (Jvm.Cond.fieldLink "FileVolume$Disk" (23 : Nat) "FileVolume$Disk" "cutIsSet" "Z") ∈ am_tw := am_mem 76 (by decide +kernel) (by decide +kernel)
theorem tw_77 : (Jvm.Cond.fieldLink "FileVolume$Disk" (26 : Nat) "FileVolume$Disk" "writesBeforeCut" "I") ∈ am_tw := am_mem 77 (by decide +kernel) (by decide +kernel)
theorem tw_93 : (Jvm.Cond.classLink "FileVolume" (25 : Nat) "FileVolume$Table") ∈ am_tw := am_mem 93 (by decide +kernel) (by decide +kernel)
theorem tw_94 : (Jvm.Cond.instantiable "FileVolume$Table" (1 : Nat)) ∈ am_tw := am_mem 94 (by decide +kernel) (by decide +kernel)
theorem tw_95 : (Jvm.Cond.methodLink "FileVolume" (27 : Nat) ({ cls := "FileVolume$Table", name := "<init>", desc := "(LFileVolume$Disk;)V" } : Jvm.MethodName)) ∈ am_tw := am_mem 95 (by decide +kernel) (by decide +kernel)
theorem tw_96 : (Jvm.Cond.instanceMethod ({ cls := "FileVolume$Table", name := "<init>", desc := "(LFileVolume$Disk;)V" } : Jvm.MethodName)) ∈ am_tw := am_mem 96 (by decide +kernel) (by decide +kernel)
theorem tw_97 : (Jvm.Cond.code ({ cls := "FileVolume$Table", name := "<init>", desc := "(LFileVolume$Disk;)V" } : Jvm.MethodName) prog_7_method_1_code (2 : Nat) (Option.none : Option Jvm.ClassFile.FieldType)) ∈ am_tw := am_mem 97 (by decide +kernel) (by decide +kernel)
theorem tw_98 : (Jvm.Cond.methodLink "FileVolume$Table" (3 : Nat) ({ cls := "java/lang/Object", name := "<init>", desc := "()V" } : Jvm.MethodName)) ∈ am_tw := am_mem 98 (by decide +kernel) (by decide +kernel)
theorem tw_99 : (Jvm.Cond.fieldLink "FileVolume$Table" (9 : Nat) "FileVolume$Table" "disk" "LFileVolume$Disk;") ∈ am_tw := am_mem 99 (by decide +kernel) (by decide +kernel)
theorem tw_103 : (Jvm.Cond.classLink "FileVolume" (34 : Nat) "FileVolume$Folder") ∈ am_tw := am_mem 103 (by decide +kernel) (by decide +kernel)
theorem tw_104 : (Jvm.Cond.instantiable "FileVolume$Folder" (5 : Nat)) ∈ am_tw := am_mem 104 (by decide +kernel) (by decide +kernel)
theorem tw_105 : (Jvm.Cond.methodLink "FileVolume" (36 : Nat) ({ cls := "FileVolume$Folder", name := "<init>", desc := "(LFileVolume$Disk;LFileVolume$Table;)V" } : Jvm.MethodName)) ∈ am_tw := am_mem 105 (by decide +kernel) (by decide +kernel)
theorem tw_106 : (Jvm.Cond.instanceMethod ({ cls := "FileVolume$Folder", name := "<init>", desc := "(LFileVolume$Disk;LFileVolume$Table;)V" } : Jvm.MethodName)) ∈ am_tw := am_mem 106 (by decide +kernel) (by decide +kernel)
theorem tw_107 : (Jvm.Cond.code ({ cls := "FileVolume$Folder", name := "<init>", desc := "(LFileVolume$Disk;LFileVolume$Table;)V" } : Jvm.MethodName) prog_3_method_1_code (3 : Nat) (Option.none : Option Jvm.ClassFile.FieldType)) ∈ am_tw := am_mem 107 (by decide +kernel) (by decide +kernel)
theorem tw_108 : (Jvm.Cond.methodLink "FileVolume$Folder" (3 : Nat) ({ cls := "java/lang/Object", name := "<init>", desc := "()V" } : Jvm.MethodName)) ∈ am_tw := am_mem 108 (by decide +kernel) (by decide +kernel)
theorem tw_109 : (Jvm.Cond.fieldLink "FileVolume$Folder" (9 : Nat) "FileVolume$Folder" "disk" "LFileVolume$Disk;") ∈ am_tw := am_mem 109 (by decide +kernel) (by decide +kernel)
theorem tw_110 : (Jvm.Cond.fieldLink "FileVolume$Folder" (15 : Nat) "FileVolume$Folder" "table" "LFileVolume$Table;") ∈ am_tw := am_mem 110 (by decide +kernel) (by decide +kernel)
theorem tw_111 : (Jvm.Cond.fieldLink "FileVolume$Folder" (19 : Nat) "FileVolume$Folder" "addresses" "[I") ∈ am_tw := am_mem 111 (by decide +kernel) (by decide +kernel)
theorem tw_112 : (Jvm.Cond.fieldLink "FileVolume$Folder" (23 : Nat) "FileVolume$Folder" "count" "I") ∈ am_tw := am_mem 112 (by decide +kernel) (by decide +kernel)
theorem tw_114 : (Jvm.Cond.fieldLink "FileVolume$Folder" (35 : Nat) "FileVolume$Folder" "lastCluster" "I") ∈ am_tw := am_mem 114 (by decide +kernel) (by decide +kernel)
theorem tw_127 : (Jvm.Cond.classLink "FileVolume" (46 : Nat) "FileVolume$Repairer") ∈ am_tw := am_mem 127 (by decide +kernel) (by decide +kernel)
theorem tw_128 : (Jvm.Cond.instantiable "FileVolume$Repairer" (5 : Nat)) ∈ am_tw := am_mem 128 (by decide +kernel) (by decide +kernel)
theorem tw_129 : (Jvm.Cond.methodLink "FileVolume" (48 : Nat) ({ cls := "FileVolume$Repairer", name := "<init>", desc := "(LFileVolume$Disk;LFileVolume$Table;LFileVolume$Folder;)V" } : Jvm.MethodName)) ∈ am_tw := am_mem 129 (by decide +kernel) (by decide +kernel)
theorem tw_130 : (Jvm.Cond.instanceMethod ({ cls := "FileVolume$Repairer", name := "<init>", desc := "(LFileVolume$Disk;LFileVolume$Table;LFileVolume$Folder;)V" } : Jvm.MethodName)) ∈ am_tw := am_mem 130 (by decide +kernel) (by decide +kernel)
theorem tw_131 : (Jvm.Cond.code ({ cls := "FileVolume$Repairer", name := "<init>", desc := "(LFileVolume$Disk;LFileVolume$Table;LFileVolume$Folder;)V" } : Jvm.MethodName) prog_5_method_1_code (4 : Nat) (Option.none : Option Jvm.ClassFile.FieldType)) ∈ am_tw := am_mem 131 (by decide +kernel) (by decide +kernel)
theorem tw_132 : (Jvm.Cond.methodLink "FileVolume$Repairer" (3 : Nat) ({ cls := "java/lang/Object", name := "<init>", desc := "()V" } : Jvm.MethodName)) ∈ am_tw := am_mem 132 (by decide +kernel) (by decide +kernel)
theorem tw_133 : (Jvm.Cond.fieldLink "FileVolume$Repairer" (9 : Nat) "FileVolume$Repairer" "disk" "LFileVolume$Disk;") ∈ am_tw := am_mem 133 (by decide +kernel) (by decide +kernel)
theorem tw_134 : (Jvm.Cond.fieldLink "FileVolume$Repairer" (15 : Nat) "FileVolume$Repairer" "table" "LFileVolume$Table;") ∈ am_tw := am_mem 134 (by decide +kernel) (by decide +kernel)
theorem tw_135 : (Jvm.Cond.fieldLink "FileVolume$Repairer" (19 : Nat) "FileVolume$Repairer" "folder" "LFileVolume$Folder;") ∈ am_tw := am_mem 135 (by decide +kernel) (by decide +kernel)
theorem tw_136 : (Jvm.Cond.fieldLink "FileVolume$Repairer" (23 : Nat) "FileVolume$Repairer" "used" "[Z") ∈ am_tw := am_mem 136 (by decide +kernel) (by decide +kernel)
theorem tw_137 : (Jvm.Cond.fieldLink "FileVolume$Repairer" (27 : Nat) "FileVolume$Repairer" "fixes" "I") ∈ am_tw := am_mem 137 (by decide +kernel) (by decide +kernel)
theorem tw_150 : (Jvm.Cond.arrayClass Jvm.ClassFile.FieldType.boolean) ∈ am_tw := am_mem 150 (by decide +kernel) (by decide +kernel)
theorem tw_151 : (Jvm.Cond.classLink "FileVolume" (55 : Nat) "FileVolume$Name") ∈ am_tw := am_mem 151 (by decide +kernel) (by decide +kernel)
theorem tw_152 : (Jvm.Cond.instantiable "FileVolume$Name" (4 : Nat)) ∈ am_tw := am_mem 152 (by decide +kernel) (by decide +kernel)
theorem tw_153 : (Jvm.Cond.methodLink "FileVolume" (57 : Nat) ({ cls := "FileVolume$Name", name := "<init>", desc := "()V" } : Jvm.MethodName)) ∈ am_tw := am_mem 153 (by decide +kernel) (by decide +kernel)
theorem tw_154 : (Jvm.Cond.instanceMethod ({ cls := "FileVolume$Name", name := "<init>", desc := "()V" } : Jvm.MethodName)) ∈ am_tw := am_mem 154 (by decide +kernel) (by decide +kernel)
theorem tw_155 : (Jvm.Cond.code ({ cls := "FileVolume$Name", name := "<init>", desc := "()V" } : Jvm.MethodName) prog_4_method_1_code (1 : Nat) (Option.none : Option Jvm.ClassFile.FieldType)) ∈ am_tw := am_mem 155 (by decide +kernel) (by decide +kernel)
theorem tw_156 : (Jvm.Cond.methodLink "FileVolume$Name" (3 : Nat) ({ cls := "java/lang/Object", name := "<init>", desc := "()V" } : Jvm.MethodName)) ∈ am_tw := am_mem 156 (by decide +kernel) (by decide +kernel)
theorem tw_157 : (Jvm.Cond.fieldLink "FileVolume$Name" (9 : Nat) "FileVolume$Name" "text" "[C") ∈ am_tw := am_mem 157 (by decide +kernel) (by decide +kernel)
theorem tw_158 : (Jvm.Cond.fieldLink "FileVolume$Name" (15 : Nat) "FileVolume$Name" "brief" "[I") ∈ am_tw := am_mem 158 (by decide +kernel) (by decide +kernel)
theorem tw_159 : (Jvm.Cond.fieldLink "FileVolume$Name" (25 : Nat) "FileVolume$Name" "length" "I") ∈ am_tw := am_mem 159 (by decide +kernel) (by decide +kernel)
theorem tw_163 : (Jvm.Cond.fieldLink "FileVolume$Name" (43 : Nat) "FileVolume$Name" "parts" "I") ∈ am_tw := am_mem 163 (by decide +kernel) (by decide +kernel)
theorem tw_173 : (Jvm.Cond.fieldLink "FileVolume" (12 : Nat) "FileVolume" "session" "LFileVolume$Session;") ∈ am_tw := am_mem 173 (by decide +kernel) (by decide +kernel)
theorem tw_174 : (Jvm.Cond.fieldLink "FileVolume" (21 : Nat) "FileVolume" "disk" "LFileVolume$Disk;") ∈ am_tw := am_mem 174 (by decide +kernel) (by decide +kernel)
theorem tw_175 : (Jvm.Cond.fieldLink "FileVolume" (30 : Nat) "FileVolume" "table" "LFileVolume$Table;") ∈ am_tw := am_mem 175 (by decide +kernel) (by decide +kernel)
theorem tw_176 : (Jvm.Cond.fieldLink "FileVolume" (39 : Nat) "FileVolume" "folder" "LFileVolume$Folder;") ∈ am_tw := am_mem 176 (by decide +kernel) (by decide +kernel)
theorem tw_177 : (Jvm.Cond.fieldLink "FileVolume" (43 : Nat) "FileVolume" "below" "LFileVolume$Folder;") ∈ am_tw := am_mem 177 (by decide +kernel) (by decide +kernel)
theorem tw_178 : (Jvm.Cond.fieldLink "FileVolume" (51 : Nat) "FileVolume" "repairer" "LFileVolume$Repairer;") ∈ am_tw := am_mem 178 (by decide +kernel) (by decide +kernel)
theorem tw_179 : (Jvm.Cond.fieldLink "FileVolume" (58 : Nat) "FileVolume" "name" "LFileVolume$Name;") ∈ am_tw := am_mem 179 (by decide +kernel) (by decide +kernel)
theorem tw_180 : (Jvm.Cond.fieldLink "FileVolume" (62 : Nat) "FileVolume" "row" "[I") ∈ am_tw := am_mem 180 (by decide +kernel) (by decide +kernel)
theorem tw_198 : (Jvm.Cond.methodLink "FileVolumeLaw" (52 : Nat) ({ cls := "FileVolume", name := "type", desc := "(C)Z" } : Jvm.MethodName)) ∈ am_tw := am_mem 198 (by decide +kernel) (by decide +kernel)
theorem tw_199 : (Jvm.Cond.instanceMethod ({ cls := "FileVolume", name := "type", desc := "(C)Z" } : Jvm.MethodName)) ∈ am_tw := am_mem 199 (by decide +kernel) (by decide +kernel)
theorem tw_200 : (Jvm.Cond.selects "FileVolume" ({ cls := "FileVolume", name := "type", desc := "(C)Z" } : Jvm.MethodName) ({ cls := "FileVolume", name := "type", desc := "(C)Z" } : Jvm.MethodName)) ∈ am_tw := am_mem 200 (by decide +kernel) (by decide +kernel)
theorem tw_201 : (Jvm.Cond.code ({ cls := "FileVolume", name := "type", desc := "(C)Z" } : Jvm.MethodName) prog_1_method_2_code (2 : Nat) (Option.some Jvm.ClassFile.FieldType.boolean)) ∈ am_tw := am_mem 201 (by decide +kernel) (by decide +kernel)
theorem tw_202 : (Jvm.Cond.methodLink "FileVolume" (66 : Nat) ({ cls := "FileVolume$Session", name := "append", desc := "(C)Z" } : Jvm.MethodName)) ∈ am_tw := am_mem 202 (by decide +kernel) (by decide +kernel)
theorem tw_203 : (Jvm.Cond.instanceMethod ({ cls := "FileVolume$Session", name := "append", desc := "(C)Z" } : Jvm.MethodName)) ∈ am_tw := am_mem 203 (by decide +kernel) (by decide +kernel)
theorem tw_204 : (Jvm.Cond.selects "FileVolume$Session" ({ cls := "FileVolume$Session", name := "append", desc := "(C)Z" } : Jvm.MethodName) ({ cls := "FileVolume$Session", name := "append", desc := "(C)Z" } : Jvm.MethodName)) ∈ am_tw := am_mem 204 (by decide +kernel) (by decide +kernel)
theorem tw_205 : (Jvm.Cond.code ({ cls := "FileVolume$Session", name := "append", desc := "(C)Z" } : Jvm.MethodName) prog_6_method_2_code (2 : Nat) (Option.some Jvm.ClassFile.FieldType.boolean)) ∈ am_tw := am_mem 205 (by decide +kernel) (by decide +kernel)
theorem tw_206 : (Jvm.Cond.methodLink "FileVolumeLaw" (74 : Nat) ({ cls := "FileVolume", name := "close", desc := "(I)Z" } : Jvm.MethodName)) ∈ am_tw := am_mem 206 (by decide +kernel) (by decide +kernel)
theorem tw_207 : (Jvm.Cond.instanceMethod ({ cls := "FileVolume", name := "close", desc := "(I)Z" } : Jvm.MethodName)) ∈ am_tw := am_mem 207 (by decide +kernel) (by decide +kernel)
theorem tw_208 : (Jvm.Cond.selects "FileVolume" ({ cls := "FileVolume", name := "close", desc := "(I)Z" } : Jvm.MethodName) ({ cls := "FileVolume", name := "close", desc := "(I)Z" } : Jvm.MethodName)) ∈ am_tw := am_mem 208 (by decide +kernel) (by decide +kernel)
theorem tw_209 : (Jvm.Cond.code ({ cls := "FileVolume", name := "close", desc := "(I)Z" } : Jvm.MethodName) prog_1_method_7_code (2 : Nat) (Option.some Jvm.ClassFile.FieldType.boolean)) ∈ am_tw := am_mem 209 (by decide +kernel) (by decide +kernel)
theorem tw_210 : (Jvm.Cond.methodLink "FileVolume" (173 : Nat) ({ cls := "FileVolume$Session", name := "isOpen", desc := "(I)Z" } : Jvm.MethodName)) ∈ am_tw := am_mem 210 (by decide +kernel) (by decide +kernel)
theorem tw_211 : (Jvm.Cond.instanceMethod ({ cls := "FileVolume$Session", name := "isOpen", desc := "(I)Z" } : Jvm.MethodName)) ∈ am_tw := am_mem 211 (by decide +kernel) (by decide +kernel)
theorem tw_212 : (Jvm.Cond.selects "FileVolume$Session" ({ cls := "FileVolume$Session", name := "isOpen", desc := "(I)Z" } : Jvm.MethodName) ({ cls := "FileVolume$Session", name := "isOpen", desc := "(I)Z" } : Jvm.MethodName)) ∈ am_tw := am_mem 212 (by decide +kernel) (by decide +kernel)
theorem tw_213 : (Jvm.Cond.code ({ cls := "FileVolume$Session", name := "isOpen", desc := "(I)Z" } : Jvm.MethodName) prog_6_method_6_code (2 : Nat) (Option.some Jvm.ClassFile.FieldType.boolean)) ∈ am_tw := am_mem 213 (by decide +kernel) (by decide +kernel)
theorem tw_214 : (Jvm.Cond.methodLink "FileVolume" (176 : Nat) ({ cls := "FileVolume$Session", name := "drop", desc := "(I)V" } : Jvm.MethodName)) ∈ am_tw := am_mem 214 (by decide +kernel) (by decide +kernel)
theorem tw_215 : (Jvm.Cond.instanceMethod ({ cls := "FileVolume$Session", name := "drop", desc := "(I)V" } : Jvm.MethodName)) ∈ am_tw := am_mem 215 (by decide +kernel) (by decide +kernel)
theorem tw_216 : (Jvm.Cond.selects "FileVolume$Session" ({ cls := "FileVolume$Session", name := "drop", desc := "(I)V" } : Jvm.MethodName) ({ cls := "FileVolume$Session", name := "drop", desc := "(I)V" } : Jvm.MethodName)) ∈ am_tw := am_mem 216 (by decide +kernel) (by decide +kernel)
theorem tw_217 : (Jvm.Cond.code ({ cls := "FileVolume$Session", name := "drop", desc := "(I)V" } : Jvm.MethodName) prog_6_method_10_code (2 : Nat) (Option.none : Option Jvm.ClassFile.FieldType)) ∈ am_tw := am_mem 217 (by decide +kernel) (by decide +kernel)
theorem tw_218 : (Jvm.Cond.methodLink "FileVolumeLaw" (79 : Nat) ({ cls := "FileVolume", name := "seek", desc := "(II)Z" } : Jvm.MethodName)) ∈ am_tw := am_mem 218 (by decide +kernel) (by decide +kernel)
theorem tw_219 : (Jvm.Cond.instanceMethod ({ cls := "FileVolume", name := "seek", desc := "(II)Z" } : Jvm.MethodName)) ∈ am_tw := am_mem 219 (by decide +kernel) (by decide +kernel)
theorem tw_220 : (Jvm.Cond.selects "FileVolume" ({ cls := "FileVolume", name := "seek", desc := "(II)Z" } : Jvm.MethodName) ({ cls := "FileVolume", name := "seek", desc := "(II)Z" } : Jvm.MethodName)) ∈ am_tw := am_mem 220 (by decide +kernel) (by decide +kernel)
theorem tw_221 : (Jvm.Cond.code ({ cls := "FileVolume", name := "seek", desc := "(II)Z" } : Jvm.MethodName) prog_1_method_8_code (3 : Nat) (Option.some Jvm.ClassFile.FieldType.boolean)) ∈ am_tw := am_mem 221 (by decide +kernel) (by decide +kernel)
theorem tw_222 : (Jvm.Cond.methodLink "FileVolume" (179 : Nat) ({ cls := "FileVolume", name := "sizeOfFile", desc := "(I)I" } : Jvm.MethodName)) ∈ am_tw := am_mem 222 (by decide +kernel) (by decide +kernel)
theorem tw_224 : (Jvm.Cond.instanceMethod ({ cls := "FileVolume", name := "sizeOfFile", desc := "(I)I" } : Jvm.MethodName)) ∈ am_tw := am_mem 224 (by decide +kernel) (by decide +kernel)
theorem tw_225 : (Jvm.Cond.code ({ cls := "FileVolume", name := "sizeOfFile", desc := "(I)I" } : Jvm.MethodName) prog_1_method_22_code (2 : Nat) (Option.some Jvm.ClassFile.FieldType.int)) ∈ am_tw := am_mem 225 (by decide +kernel) (by decide +kernel)
theorem tw_226 : (Jvm.Cond.methodLink "FileVolume" (190 : Nat) ({ cls := "FileVolume$Session", name := "entryOf", desc := "(I)I" } : Jvm.MethodName)) ∈ am_tw := am_mem 226 (by decide +kernel) (by decide +kernel)
theorem tw_227 : (Jvm.Cond.instanceMethod ({ cls := "FileVolume$Session", name := "entryOf", desc := "(I)I" } : Jvm.MethodName)) ∈ am_tw := am_mem 227 (by decide +kernel) (by decide +kernel)
theorem tw_228 : (Jvm.Cond.selects "FileVolume$Session" ({ cls := "FileVolume$Session", name := "entryOf", desc := "(I)I" } : Jvm.MethodName) ({ cls := "FileVolume$Session", name := "entryOf", desc := "(I)I" } : Jvm.MethodName)) ∈ am_tw := am_mem 228 (by decide +kernel) (by decide +kernel)
theorem tw_229 : (Jvm.Cond.code ({ cls := "FileVolume$Session", name := "entryOf", desc := "(I)I" } : Jvm.MethodName) prog_6_method_12_code (2 : Nat) (Option.some Jvm.ClassFile.FieldType.int)) ∈ am_tw := am_mem 229 (by decide +kernel) (by decide +kernel)
theorem tw_230 : (Jvm.Cond.methodLink "FileVolume" (193 : Nat) ({ cls := "FileVolume$Disk", name := "pairAt", desc := "(I)I" } : Jvm.MethodName)) ∈ am_tw := am_mem 230 (by decide +kernel) (by decide +kernel)
theorem tw_231 : (Jvm.Cond.instanceMethod ({ cls := "FileVolume$Disk", name := "pairAt", desc := "(I)I" } : Jvm.MethodName)) ∈ am_tw := am_mem 231 (by decide +kernel) (by decide +kernel)
theorem tw_232 : (Jvm.Cond.selects "FileVolume$Disk" ({ cls := "FileVolume$Disk", name := "pairAt", desc := "(I)I" } : Jvm.MethodName) ({ cls := "FileVolume$Disk", name := "pairAt", desc := "(I)I" } : Jvm.MethodName)) ∈ am_tw := am_mem 232 (by decide +kernel) (by decide +kernel)
theorem tw_233 : (Jvm.Cond.code ({ cls := "FileVolume$Disk", name := "pairAt", desc := "(I)I" } : Jvm.MethodName) prog_2_method_3_code (3 : Nat) (Option.some Jvm.ClassFile.FieldType.int)) ∈ am_tw := am_mem 233 (by decide +kernel) (by decide +kernel)
theorem tw_234 : (Jvm.Cond.methodLink "FileVolume" (182 : Nat) ({ cls := "FileVolume$Session", name := "moveTo", desc := "(II)V" } : Jvm.MethodName)) ∈ am_tw := am_mem 234 (by decide +kernel) (by decide +kernel)
theorem tw_235 : (Jvm.Cond.instanceMethod ({ cls := "FileVolume$Session", name := "moveTo", desc := "(II)V" } : Jvm.MethodName)) ∈ am_tw := am_mem 235 (by decide +kernel) (by decide +kernel)
theorem tw_236 : (Jvm.Cond.selects "FileVolume$Session" ({ cls := "FileVolume$Session", name := "moveTo", desc := "(II)V" } : Jvm.MethodName) ({ cls := "FileVolume$Session", name := "moveTo", desc := "(II)V" } : Jvm.MethodName)) ∈ am_tw := am_mem 236 (by decide +kernel) (by decide +kernel)
theorem tw_237 : (Jvm.Cond.code ({ cls := "FileVolume$Session", name := "moveTo", desc := "(II)V" } : Jvm.MethodName) prog_6_method_11_code (3 : Nat) (Option.none : Option Jvm.ClassFile.FieldType)) ∈ am_tw := am_mem 237 (by decide +kernel) (by decide +kernel)
theorem tw_238 : (Jvm.Cond.methodLink "FileVolumeLaw" (97 : Nat) ({ cls := "FileVolume", name := "cut", desc := "(I)Z" } : Jvm.MethodName)) ∈ am_tw := am_mem 238 (by decide +kernel) (by decide +kernel)
theorem tw_239 : (Jvm.Cond.instanceMethod ({ cls := "FileVolume", name := "cut", desc := "(I)Z" } : Jvm.MethodName)) ∈ am_tw := am_mem 239 (by decide +kernel) (by decide +kernel)
theorem tw_240 : (Jvm.Cond.selects "FileVolume" ({ cls := "FileVolume", name := "cut", desc := "(I)Z" } : Jvm.MethodName) ({ cls := "FileVolume", name := "cut", desc := "(I)Z" } : Jvm.MethodName)) ∈ am_tw := am_mem 240 (by decide +kernel) (by decide +kernel)
theorem tw_241 : (Jvm.Cond.code ({ cls := "FileVolume", name := "cut", desc := "(I)Z" } : Jvm.MethodName) prog_1_method_12_code (2 : Nat) (Option.some Jvm.ClassFile.FieldType.boolean)) ∈ am_tw := am_mem 241 (by decide +kernel) (by decide +kernel)
theorem tw_242 : (Jvm.Cond.methodLink "FileVolume" (256 : Nat) ({ cls := "FileVolume$Disk", name := "setCut", desc := "(I)Z" } : Jvm.MethodName)) ∈ am_tw := am_mem 242 (by decide +kernel) (by decide +kernel)
theorem tw_243 : (Jvm.Cond.instanceMethod ({ cls := "FileVolume$Disk", name := "setCut", desc := "(I)Z" } : Jvm.MethodName)) ∈ am_tw := am_mem 243 (by decide +kernel) (by decide +kernel)
theorem tw_244 : (Jvm.Cond.selects "FileVolume$Disk" ({ cls := "FileVolume$Disk", name := "setCut", desc := "(I)Z" } : Jvm.MethodName) ({ cls := "FileVolume$Disk", name := "setCut", desc := "(I)Z" } : Jvm.MethodName)) ∈ am_tw := am_mem 244 (by decide +kernel) (by decide +kernel)
theorem tw_245 : (Jvm.Cond.code ({ cls := "FileVolume$Disk", name := "setCut", desc := "(I)Z" } : Jvm.MethodName) prog_2_method_5_code (2 : Nat) (Option.some Jvm.ClassFile.FieldType.boolean)) ∈ am_tw := am_mem 245 (by decide +kernel) (by decide +kernel)
theorem tw_246 : (Jvm.Cond.methodLink "FileVolumeLaw" (101 : Nat) ({ cls := "FileVolume", name := "power", desc := "()Z" } : Jvm.MethodName)) ∈ am_tw := am_mem 246 (by decide +kernel) (by decide +kernel)
theorem tw_247 : (Jvm.Cond.instanceMethod ({ cls := "FileVolume", name := "power", desc := "()Z" } : Jvm.MethodName)) ∈ am_tw := am_mem 247 (by decide +kernel) (by decide +kernel)
theorem tw_248 : (Jvm.Cond.selects "FileVolume" ({ cls := "FileVolume", name := "power", desc := "()Z" } : Jvm.MethodName) ({ cls := "FileVolume", name := "power", desc := "()Z" } : Jvm.MethodName)) ∈ am_tw := am_mem 248 (by decide +kernel) (by decide +kernel)
theorem tw_249 : (Jvm.Cond.code ({ cls := "FileVolume", name := "power", desc := "()Z" } : Jvm.MethodName) prog_1_method_13_code (1 : Nat) (Option.some Jvm.ClassFile.FieldType.boolean)) ∈ am_tw := am_mem 249 (by decide +kernel) (by decide +kernel)
theorem tw_250 : (Jvm.Cond.methodLink "FileVolume" (259 : Nat) ({ cls := "FileVolume$Disk", name := "switchOn", desc := "()Z" } : Jvm.MethodName)) ∈ am_tw := am_mem 250 (by decide +kernel) (by decide +kernel)
theorem tw_251 : (Jvm.Cond.instanceMethod ({ cls := "FileVolume$Disk", name := "switchOn", desc := "()Z" } : Jvm.MethodName)) ∈ am_tw := am_mem 251 (by decide +kernel) (by decide +kernel)
theorem tw_252 : (Jvm.Cond.selects "FileVolume$Disk" ({ cls := "FileVolume$Disk", name := "switchOn", desc := "()Z" } : Jvm.MethodName) ({ cls := "FileVolume$Disk", name := "switchOn", desc := "()Z" } : Jvm.MethodName)) ∈ am_tw := am_mem 252 (by decide +kernel) (by decide +kernel)
theorem tw_253 : (Jvm.Cond.code ({ cls := "FileVolume$Disk", name := "switchOn", desc := "()Z" } : Jvm.MethodName) prog_2_method_6_code (2 : Nat) (Option.some Jvm.ClassFile.FieldType.boolean)) ∈ am_tw := am_mem 253 (by decide +kernel) (by decide +kernel)
theorem tw_254 : (Jvm.Cond.methodLink "FileVolumeLaw" (109 : Nat) ({ cls := "FileVolume", name := "octet", desc := "(II)I" } : Jvm.MethodName)) ∈ am_tw := am_mem 254 (by decide +kernel) (by decide +kernel)
theorem tw_255 : (Jvm.Cond.instanceMethod ({ cls := "FileVolume", name := "octet", desc := "(II)I" } : Jvm.MethodName)) ∈ am_tw := am_mem 255 (by decide +kernel) (by decide +kernel)
theorem tw_256 : (Jvm.Cond.selects "FileVolume" ({ cls := "FileVolume", name := "octet", desc := "(II)I" } : Jvm.MethodName) ({ cls := "FileVolume", name := "octet", desc := "(II)I" } : Jvm.MethodName)) ∈ am_tw := am_mem 256 (by decide +kernel) (by decide +kernel)
theorem tw_257 : (Jvm.Cond.code ({ cls := "FileVolume", name := "octet", desc := "(II)I" } : Jvm.MethodName) prog_1_method_15_code (3 : Nat) (Option.some Jvm.ClassFile.FieldType.int)) ∈ am_tw := am_mem 257 (by decide +kernel) (by decide +kernel)
theorem tw_258 : (Jvm.Cond.methodLink "FileVolume" (292 : Nat) ({ cls := "FileVolume", name := "isOnDisk", desc := "(II)Z" } : Jvm.MethodName)) ∈ am_tw := am_mem 258 (by decide +kernel) (by decide +kernel)
theorem tw_259 : (Jvm.Cond.static ({ cls := "FileVolume", name := "isOnDisk", desc := "(II)Z" } : Jvm.MethodName)) ∈ am_tw := am_mem 259 (by decide +kernel) (by decide +kernel)
theorem tw_260 : (Jvm.Cond.code ({ cls := "FileVolume", name := "isOnDisk", desc := "(II)Z" } : Jvm.MethodName) prog_1_method_28_code (2 : Nat) (Option.some Jvm.ClassFile.FieldType.boolean)) ∈ am_tw := am_mem 260 (by decide +kernel) (by decide +kernel)
theorem tw_261 : (Jvm.Cond.methodLink "FileVolume" (205 : Nat) ({ cls := "FileVolume$Disk", name := "at", desc := "(I)I" } : Jvm.MethodName)) ∈ am_tw := am_mem 261 (by decide +kernel) (by decide +kernel)
theorem tw_262 : (Jvm.Cond.instanceMethod ({ cls := "FileVolume$Disk", name := "at", desc := "(I)I" } : Jvm.MethodName)) ∈ am_tw := am_mem 262 (by decide +kernel) (by decide +kernel)
theorem tw_263 : (Jvm.Cond.selects "FileVolume$Disk" ({ cls := "FileVolume$Disk", name := "at", desc := "(I)I" } : Jvm.MethodName) ({ cls := "FileVolume$Disk", name := "at", desc := "(I)I" } : Jvm.MethodName)) ∈ am_tw := am_mem 263 (by decide +kernel) (by decide +kernel)
theorem tw_264 : (Jvm.Cond.code ({ cls := "FileVolume$Disk", name := "at", desc := "(I)I" } : Jvm.MethodName) prog_2_method_2_code (2 : Nat) (Option.some Jvm.ClassFile.FieldType.int)) ∈ am_tw := am_mem 264 (by decide +kernel) (by decide +kernel)
theorem tw_265 : (Jvm.Cond.methodLink "FileVolumeLaw" (113 : Nat) ({ cls := "FileVolume", name := "poke", desc := "(III)Z" } : Jvm.MethodName)) ∈ am_tw := am_mem 265 (by decide +kernel) (by decide +kernel)
theorem tw_266 : (Jvm.Cond.instanceMethod ({ cls := "FileVolume", name := "poke", desc := "(III)Z" } : Jvm.MethodName)) ∈ am_tw := am_mem 266 (by decide +kernel) (by decide +kernel)
theorem tw_267 : (Jvm.Cond.selects "FileVolume" ({ cls := "FileVolume", name := "poke", desc := "(III)Z" } : Jvm.MethodName) ({ cls := "FileVolume", name := "poke", desc := "(III)Z" } : Jvm.MethodName)) ∈ am_tw := am_mem 267 (by decide +kernel) (by decide +kernel)
theorem tw_268 : (Jvm.Cond.code ({ cls := "FileVolume", name := "poke", desc := "(III)Z" } : Jvm.MethodName) prog_1_method_16_code (4 : Nat) (Option.some Jvm.ClassFile.FieldType.boolean)) ∈ am_tw := am_mem 268 (by decide +kernel) (by decide +kernel)
theorem tw_269 : (Jvm.Cond.methodLink "FileVolume" (296 : Nat) ({ cls := "FileVolume$Disk", name := "put", desc := "(II)V" } : Jvm.MethodName)) ∈ am_tw := am_mem 269 (by decide +kernel) (by decide +kernel)
theorem tw_270 : (Jvm.Cond.instanceMethod ({ cls := "FileVolume$Disk", name := "put", desc := "(II)V" } : Jvm.MethodName)) ∈ am_tw := am_mem 270 (by decide +kernel) (by decide +kernel)
theorem tw_271 : (Jvm.Cond.selects "FileVolume$Disk" ({ cls := "FileVolume$Disk", name := "put", desc := "(II)V" } : Jvm.MethodName) ({ cls := "FileVolume$Disk", name := "put", desc := "(II)V" } : Jvm.MethodName)) ∈ am_tw := am_mem 271 (by decide +kernel) (by decide +kernel)
theorem tw_272 : (Jvm.Cond.code ({ cls := "FileVolume$Disk", name := "put", desc := "(II)V" } : Jvm.MethodName) prog_2_method_4_code (3 : Nat) (Option.none : Option Jvm.ClassFile.FieldType)) ∈ am_tw := am_mem 272 (by decide +kernel) (by decide +kernel)
theorem tw_273 : (Jvm.Cond.methodLink "FileVolume" (271 : Nat) ({ cls := "FileVolume$Session", name := "leave", desc := "()V" } : Jvm.MethodName)) ∈ am_tw := am_mem 273 (by decide +kernel) (by decide +kernel)
theorem tw_274 : (Jvm.Cond.methodLink "FileVolumeLaw" (118 : Nat) ({ cls := "FileVolume", name := "look", desc := "(I)I" } : Jvm.MethodName)) ∈ am_tw := am_mem 274 (by decide +kernel) (by decide +kernel)
theorem tw_275 : (Jvm.Cond.instanceMethod ({ cls := "FileVolume", name := "look", desc := "(I)I" } : Jvm.MethodName)) ∈ am_tw := am_mem 275 (by decide +kernel) (by decide +kernel)
theorem tw_276 : (Jvm.Cond.selects "FileVolume" ({ cls := "FileVolume", name := "look", desc := "(I)I" } : Jvm.MethodName) ({ cls := "FileVolume", name := "look", desc := "(I)I" } : Jvm.MethodName)) ∈ am_tw := am_mem 276 (by decide +kernel) (by decide +kernel)
theorem tw_277 : (Jvm.Cond.code ({ cls := "FileVolume", name := "look", desc := "(I)I" } : Jvm.MethodName) prog_1_method_17_code (2 : Nat) (Option.some Jvm.ClassFile.FieldType.int)) ∈ am_tw := am_mem 277 (by decide +kernel) (by decide +kernel)
theorem tw_278 : (Jvm.Cond.methodLink "FileVolume" (302 : Nat) ({ cls := "FileVolume$Table", name := "countFree", desc := "()I" } : Jvm.MethodName)) ∈ am_tw := am_mem 278 (by decide +kernel) (by decide +kernel)
theorem tw_279 : (Jvm.Cond.instanceMethod ({ cls := "FileVolume$Table", name := "countFree", desc := "()I" } : Jvm.MethodName)) ∈ am_tw := am_mem 279 (by decide +kernel) (by decide +kernel)
theorem tw_280 : (Jvm.Cond.selects "FileVolume$Table" ({ cls := "FileVolume$Table", name := "countFree", desc := "()I" } : Jvm.MethodName) ({ cls := "FileVolume$Table", name := "countFree", desc := "()I" } : Jvm.MethodName)) ∈ am_tw := am_mem 280 (by decide +kernel) (by decide +kernel)
theorem tw_281 : (Jvm.Cond.code ({ cls := "FileVolume$Table", name := "countFree", desc := "()I" } : Jvm.MethodName) prog_7_method_7_code (3 : Nat) (Option.some Jvm.ClassFile.FieldType.int)) ∈ am_tw := am_mem 281 (by decide +kernel) (by decide +kernel)
theorem tw_282 : (Jvm.Cond.methodLink "FileVolume$Table" (28 : Nat) ({ cls := "FileVolume$Table", name := "isFree", desc := "(I)Z" } : Jvm.MethodName)) ∈ am_tw := am_mem 282 (by decide +kernel) (by decide +kernel)
theorem tw_283 : (Jvm.Cond.instanceMethod ({ cls := "FileVolume$Table", name := "isFree", desc := "(I)Z" } : Jvm.MethodName)) ∈ am_tw := am_mem 283 (by decide +kernel) (by decide +kernel)
theorem tw_284 : (Jvm.Cond.selects "FileVolume$Table" ({ cls := "FileVolume$Table", name := "isFree", desc := "(I)Z" } : Jvm.MethodName) ({ cls := "FileVolume$Table", name := "isFree", desc := "(I)Z" } : Jvm.MethodName)) ∈ am_tw := am_mem 284 (by decide +kernel) (by decide +kernel)
theorem tw_285 : (Jvm.Cond.code ({ cls := "FileVolume$Table", name := "isFree", desc := "(I)Z" } : Jvm.MethodName) prog_7_method_6_code (2 : Nat) (Option.some Jvm.ClassFile.FieldType.boolean)) ∈ am_tw := am_mem 285 (by decide +kernel) (by decide +kernel)
theorem tw_286 : (Jvm.Cond.methodLink "FileVolume$Table" (25 : Nat) ({ cls := "FileVolume$Table", name := "cell", desc := "(I)I" } : Jvm.MethodName)) ∈ am_tw := am_mem 286 (by decide +kernel) (by decide +kernel)
theorem tw_287 : (Jvm.Cond.instanceMethod ({ cls := "FileVolume$Table", name := "cell", desc := "(I)I" } : Jvm.MethodName)) ∈ am_tw := am_mem 287 (by decide +kernel) (by decide +kernel)
theorem tw_288 : (Jvm.Cond.selects "FileVolume$Table" ({ cls := "FileVolume$Table", name := "cell", desc := "(I)I" } : Jvm.MethodName) ({ cls := "FileVolume$Table", name := "cell", desc := "(I)I" } : Jvm.MethodName)) ∈ am_tw := am_mem 288 (by decide +kernel) (by decide +kernel)
theorem tw_289 : (Jvm.Cond.code ({ cls := "FileVolume$Table", name := "cell", desc := "(I)I" } : Jvm.MethodName) prog_7_method_2_code (2 : Nat) (Option.some Jvm.ClassFile.FieldType.int)) ∈ am_tw := am_mem 289 (by decide +kernel) (by decide +kernel)
theorem tw_290 : (Jvm.Cond.methodLink "FileVolume$Table" (15 : Nat) ({ cls := "FileVolume$Disk", name := "pairAt", desc := "(I)I" } : Jvm.MethodName)) ∈ am_tw := am_mem 290 (by decide +kernel) (by decide +kernel)
theorem tw_291 : (Jvm.Cond.methodLink "FileVolume" (187 : Nat) ({ cls := "FileVolume$Session", name := "positionOf", desc := "(I)I" } : Jvm.MethodName)) ∈ am_tw := am_mem 291 (by decide +kernel) (by decide +kernel)
theorem tw_292 : (Jvm.Cond.instanceMethod ({ cls := "FileVolume$Session", name := "positionOf", desc := "(I)I" } : Jvm.MethodName)) ∈ am_tw := am_mem 292 (by decide +kernel) (by decide +kernel)
theorem tw_293 : (Jvm.Cond.selects "FileVolume$Session" ({ cls := "FileVolume$Session", name := "positionOf", desc := "(I)I" } : Jvm.MethodName) ({ cls := "FileVolume$Session", name := "positionOf", desc := "(I)I" } : Jvm.MethodName)) ∈ am_tw := am_mem 293 (by decide +kernel) (by decide +kernel)
theorem tw_294 : (Jvm.Cond.code ({ cls := "FileVolume$Session", name := "positionOf", desc := "(I)I" } : Jvm.MethodName) prog_6_method_13_code (2 : Nat) (Option.some Jvm.ClassFile.FieldType.int)) ∈ am_tw := am_mem 294 (by decide +kernel) (by decide +kernel)
theorem tw_295 : (Jvm.Cond.methodLink "FileVolumeLaw" (57 : Nat) ({ cls := "FileVolumeLaw", name := "create", desc := "(LFileVolume;I)I" } : Jvm.MethodName)) ∈ am_tw := am_mem 295 (by decide +kernel) (by decide +kernel)
theorem tw_296 : (Jvm.Cond.static ({ cls := "FileVolumeLaw", name := "create", desc := "(LFileVolume;I)I" } : Jvm.MethodName)) ∈ am_tw := am_mem 296 (by decide +kernel) (by decide +kernel)
theorem tw_297 : (Jvm.Cond.codeWith ({ cls := "FileVolumeLaw", name := "create", desc := "(LFileVolume;I)I" } : Jvm.MethodName) method_3_code (3 : Nat) (Option.some Jvm.ClassFile.FieldType.int) [((0 : Nat), (5 : Nat), (8 : Nat), (13 : Nat)), ((0 : Nat), (5 : Nat), (11 : Nat), (15 : Nat)), ((0 : Nat), (5 : Nat), (14 : Nat), (17 : Nat))]) ∈ am_tw := am_mem 297 (by decide +kernel) (by decide +kernel)
theorem tw_298 : (Jvm.Cond.classLink "FileVolumeLaw" (13 : Nat) "java/lang/IllegalStateException") ∈ am_tw := am_mem 298 (by decide +kernel) (by decide +kernel)
theorem tw_299 : (Jvm.Cond.classLink "FileVolumeLaw" (15 : Nat) "java/lang/IllegalArgumentException") ∈ am_tw := am_mem 299 (by decide +kernel) (by decide +kernel)
theorem tw_300 : (Jvm.Cond.classLink "FileVolumeLaw" (17 : Nat) "java/lang/UnsupportedOperationException") ∈ am_tw := am_mem 300 (by decide +kernel) (by decide +kernel)
theorem tw_301 : (Jvm.Cond.methodLink "FileVolumeLaw" (7 : Nat) ({ cls := "FileVolume", name := "create", desc := "(I)V" } : Jvm.MethodName)) ∈ am_tw := am_mem 301 (by decide +kernel) (by decide +kernel)
theorem tw_302 : (Jvm.Cond.instanceMethod ({ cls := "FileVolume", name := "create", desc := "(I)V" } : Jvm.MethodName)) ∈ am_tw := am_mem 302 (by decide +kernel) (by decide +kernel)
theorem tw_303 : (Jvm.Cond.selects "FileVolume" ({ cls := "FileVolume", name := "create", desc := "(I)V" } : Jvm.MethodName) ({ cls := "FileVolume", name := "create", desc := "(I)V" } : Jvm.MethodName)) ∈ am_tw := am_mem 303 (by decide +kernel) (by decide +kernel)
theorem tw_304 : (Jvm.Cond.code ({ cls := "FileVolume", name := "create", desc := "(I)V" } : Jvm.MethodName) prog_1_method_3_code (5 : Nat) (Option.none : Option Jvm.ClassFile.FieldType)) ∈ am_tw := am_mem 304 (by decide +kernel) (by decide +kernel)
theorem tw_305 : (Jvm.Cond.methodLink "FileVolume" (70 : Nat) ({ cls := "FileVolume", name := "demandSoundDisk", desc := "()V" } : Jvm.MethodName)) ∈ am_tw := am_mem 305 (by decide +kernel) (by decide +kernel)
theorem tw_307 : (Jvm.Cond.instanceMethod ({ cls := "FileVolume", name := "demandSoundDisk", desc := "()V" } : Jvm.MethodName)) ∈ am_tw := am_mem 307 (by decide +kernel) (by decide +kernel)
theorem tw_308 : (Jvm.Cond.code ({ cls := "FileVolume", name := "demandSoundDisk", desc := "()V" } : Jvm.MethodName) prog_1_method_18_code (1 : Nat) (Option.none : Option Jvm.ClassFile.FieldType)) ∈ am_tw := am_mem 308 (by decide +kernel) (by decide +kernel)
theorem tw_309 : (Jvm.Cond.classLink "FileVolume" (266 : Nat) "java/lang/IllegalStateException") ∈ am_tw := am_mem 309 (by decide +kernel) (by decide +kernel)
theorem tw_379 : (Jvm.Cond.methodLink "FileVolume" (73 : Nat) ({ cls := "FileVolume$Name", name := "takeLineOf", desc := "(LFileVolume$Session;)V" } : Jvm.MethodName)) ∈ am_tw := am_mem 379 (by decide +kernel) (by decide +kernel)
theorem tw_380 : (Jvm.Cond.instanceMethod ({ cls := "FileVolume$Name", name := "takeLineOf", desc := "(LFileVolume$Session;)V" } : Jvm.MethodName)) ∈ am_tw := am_mem 380 (by decide +kernel) (by decide +kernel)
theorem tw_381 : (Jvm.Cond.selects "FileVolume$Name" ({ cls := "FileVolume$Name", name := "takeLineOf", desc := "(LFileVolume$Session;)V" } : Jvm.MethodName) ({ cls := "FileVolume$Name", name := "takeLineOf", desc := "(LFileVolume$Session;)V" } : Jvm.MethodName)) ∈ am_tw := am_mem 381 (by decide +kernel) (by decide +kernel)
theorem tw_382 : (Jvm.Cond.code ({ cls := "FileVolume$Name", name := "takeLineOf", desc := "(LFileVolume$Session;)V" } : Jvm.MethodName) prog_4_method_2_code (3 : Nat) (Option.none : Option Jvm.ClassFile.FieldType)) ∈ am_tw := am_mem 382 (by decide +kernel) (by decide +kernel)
theorem tw_383 : (Jvm.Cond.methodLink "FileVolume" (76 : Nat) ({ cls := "FileVolume$Name", name := "isGood", desc := "()Z" } : Jvm.MethodName)) ∈ am_tw := am_mem 383 (by decide +kernel) (by decide +kernel)
theorem tw_384 : (Jvm.Cond.instanceMethod ({ cls := "FileVolume$Name", name := "isGood", desc := "()Z" } : Jvm.MethodName)) ∈ am_tw := am_mem 384 (by decide +kernel) (by decide +kernel)
theorem tw_385 : (Jvm.Cond.selects "FileVolume$Name" ({ cls := "FileVolume$Name", name := "isGood", desc := "()Z" } : Jvm.MethodName) ({ cls := "FileVolume$Name", name := "isGood", desc := "()Z" } : Jvm.MethodName)) ∈ am_tw := am_mem 385 (by decide +kernel) (by decide +kernel)
theorem tw_386 : (Jvm.Cond.code ({ cls := "FileVolume$Name", name := "isGood", desc := "()Z" } : Jvm.MethodName) prog_4_method_4_code (1 : Nat) (Option.some Jvm.ClassFile.FieldType.boolean)) ∈ am_tw := am_mem 386 (by decide +kernel) (by decide +kernel)
theorem tw_387 : (Jvm.Cond.methodLink "FileVolume$Name" (31 : Nat) ({ cls := "FileVolume$Name", name := "charAt", desc := "(I)I" } : Jvm.MethodName)) ∈ am_tw := am_mem 387 (by decide +kernel) (by decide +kernel)
theorem tw_388 : (Jvm.Cond.instanceMethod ({ cls := "FileVolume$Name", name := "charAt", desc := "(I)I" } : Jvm.MethodName)) ∈ am_tw := am_mem 388 (by decide +kernel) (by decide +kernel)
theorem tw_389 : (Jvm.Cond.selects "FileVolume$Name" ({ cls := "FileVolume$Name", name := "charAt", desc := "(I)I" } : Jvm.MethodName) ({ cls := "FileVolume$Name", name := "charAt", desc := "(I)I" } : Jvm.MethodName)) ∈ am_tw := am_mem 389 (by decide +kernel) (by decide +kernel)
theorem tw_390 : (Jvm.Cond.code ({ cls := "FileVolume$Name", name := "charAt", desc := "(I)I" } : Jvm.MethodName) prog_4_method_3_code (2 : Nat) (Option.some Jvm.ClassFile.FieldType.int)) ∈ am_tw := am_mem 390 (by decide +kernel) (by decide +kernel)
theorem tw_391 : (Jvm.Cond.classLink "FileVolume" (80 : Nat) "java/lang/IllegalArgumentException") ∈ am_tw := am_mem 391 (by decide +kernel) (by decide +kernel)
theorem tw_407 : (Jvm.Cond.methodLink "FileVolume" (91 : Nat) ({ cls := "FileVolume$Folder", name := "load", desc := "(I)V" } : Jvm.MethodName)) ∈ am_tw := am_mem 407 (by decide +kernel) (by decide +kernel)
theorem tw_408 : (Jvm.Cond.instanceMethod ({ cls := "FileVolume$Folder", name := "load", desc := "(I)V" } : Jvm.MethodName)) ∈ am_tw := am_mem 408 (by decide +kernel) (by decide +kernel)
theorem tw_409 : (Jvm.Cond.selects "FileVolume$Folder" ({ cls := "FileVolume$Folder", name := "load", desc := "(I)V" } : Jvm.MethodName) ({ cls := "FileVolume$Folder", name := "load", desc := "(I)V" } : Jvm.MethodName)) ∈ am_tw := am_mem 409 (by decide +kernel) (by decide +kernel)
theorem tw_410 : (Jvm.Cond.code ({ cls := "FileVolume$Folder", name := "load", desc := "(I)V" } : Jvm.MethodName) prog_3_method_2_code (5 : Nat) (Option.none : Option Jvm.ClassFile.FieldType)) ∈ am_tw := am_mem 410 (by decide +kernel) (by decide +kernel)
theorem tw_412 : (Jvm.Cond.static ({ cls := "FileVolume", name := "isCluster", desc := "(I)Z" } : Jvm.MethodName)) ∈ am_tw := am_mem 412 (by decide +kernel) (by decide +kernel)
theorem tw_413 : (Jvm.Cond.code ({ cls := "FileVolume", name := "isCluster", desc := "(I)Z" } : Jvm.MethodName) prog_1_method_29_code (1 : Nat) (Option.some Jvm.ClassFile.FieldType.boolean)) ∈ am_tw := am_mem 413 (by decide +kernel) (by decide +kernel)
theorem tw_415 : (Jvm.Cond.static ({ cls := "FileVolume", name := "sectorOf", desc := "(I)I" } : Jvm.MethodName)) ∈ am_tw := am_mem 415 (by decide +kernel) (by decide +kernel)
theorem tw_416 : (Jvm.Cond.code ({ cls := "FileVolume", name := "sectorOf", desc := "(I)I" } : Jvm.MethodName) prog_1_method_30_code (1 : Nat) (Option.some Jvm.ClassFile.FieldType.int)) ∈ am_tw := am_mem 416 (by decide +kernel) (by decide +kernel)
theorem tw_417 : (Jvm.Cond.methodLink "FileVolume$Folder" (38 : Nat) ({ cls := "FileVolume$Table", name := "cell", desc := "(I)I" } : Jvm.MethodName)) ∈ am_tw := am_mem 417 (by decide +kernel) (by decide +kernel)
theorem tw_418 : (Jvm.Cond.methodLink "FileVolume" (98 : Nat) ({ cls := "FileVolume$Folder", name := "find", desc := "(LFileVolume$Name;I)I" } : Jvm.MethodName)) ∈ am_tw := am_mem 418 (by decide +kernel) (by decide +kernel)
theorem tw_419 : (Jvm.Cond.instanceMethod ({ cls := "FileVolume$Folder", name := "find", desc := "(LFileVolume$Name;I)I" } : Jvm.MethodName)) ∈ am_tw := am_mem 419 (by decide +kernel) (by decide +kernel)
theorem tw_420 : (Jvm.Cond.selects "FileVolume$Folder" ({ cls := "FileVolume$Folder", name := "find", desc := "(LFileVolume$Name;I)I" } : Jvm.MethodName) ({ cls := "FileVolume$Folder", name := "find", desc := "(LFileVolume$Name;I)I" } : Jvm.MethodName)) ∈ am_tw := am_mem 420 (by decide +kernel) (by decide +kernel)
theorem tw_421 : (Jvm.Cond.code ({ cls := "FileVolume$Folder", name := "find", desc := "(LFileVolume$Name;I)I" } : Jvm.MethodName) prog_3_method_14_code (5 : Nat) (Option.some Jvm.ClassFile.FieldType.int)) ∈ am_tw := am_mem 421 (by decide +kernel) (by decide +kernel)
theorem tw_422 : (Jvm.Cond.methodLink "FileVolume$Folder" (64 : Nat) ({ cls := "FileVolume$Folder", name := "kindOf", desc := "(I)I" } : Jvm.MethodName)) ∈ am_tw := am_mem 422 (by decide +kernel) (by decide +kernel)
theorem tw_423 : (Jvm.Cond.instanceMethod ({ cls := "FileVolume$Folder", name := "kindOf", desc := "(I)I" } : Jvm.MethodName)) ∈ am_tw := am_mem 423 (by decide +kernel) (by decide +kernel)
theorem tw_424 : (Jvm.Cond.selects "FileVolume$Folder" ({ cls := "FileVolume$Folder", name := "kindOf", desc := "(I)I" } : Jvm.MethodName) ({ cls := "FileVolume$Folder", name := "kindOf", desc := "(I)I" } : Jvm.MethodName)) ∈ am_tw := am_mem 424 (by decide +kernel) (by decide +kernel)
theorem tw_425 : (Jvm.Cond.code ({ cls := "FileVolume$Folder", name := "kindOf", desc := "(I)I" } : Jvm.MethodName) prog_3_method_7_code (2 : Nat) (Option.some Jvm.ClassFile.FieldType.int)) ∈ am_tw := am_mem 425 (by decide +kernel) (by decide +kernel)
theorem tw_426 : (Jvm.Cond.methodLink "FileVolume$Folder" (51 : Nat) ({ cls := "FileVolume$Folder", name := "byteOf", desc := "(II)I" } : Jvm.MethodName)) ∈ am_tw := am_mem 426 (by decide +kernel) (by decide +kernel)
theorem tw_427 : (Jvm.Cond.instanceMethod ({ cls := "FileVolume$Folder", name := "byteOf", desc := "(II)I" } : Jvm.MethodName)) ∈ am_tw := am_mem 427 (by decide +kernel) (by decide +kernel)
theorem tw_428 : (Jvm.Cond.selects "FileVolume$Folder" ({ cls := "FileVolume$Folder", name := "byteOf", desc := "(II)I" } : Jvm.MethodName) ({ cls := "FileVolume$Folder", name := "byteOf", desc := "(II)I" } : Jvm.MethodName)) ∈ am_tw := am_mem 428 (by decide +kernel) (by decide +kernel)
theorem tw_429 : (Jvm.Cond.code ({ cls := "FileVolume$Folder", name := "byteOf", desc := "(II)I" } : Jvm.MethodName) prog_3_method_4_code (3 : Nat) (Option.some Jvm.ClassFile.FieldType.int)) ∈ am_tw := am_mem 429 (by decide +kernel) (by decide +kernel)
theorem tw_430 : (Jvm.Cond.methodLink "FileVolume$Folder" (43 : Nat) ({ cls := "FileVolume$Disk", name := "at", desc := "(I)I" } : Jvm.MethodName)) ∈ am_tw := am_mem 430 (by decide +kernel) (by decide +kernel)
theorem tw_431 : (Jvm.Cond.methodLink "FileVolume$Folder" (61 : Nat) ({ cls := "FileVolume$Folder", name := "isNamed", desc := "(I)Z" } : Jvm.MethodName)) ∈ am_tw := am_mem 431 (by decide +kernel) (by decide +kernel)
theorem tw_432 : (Jvm.Cond.instanceMethod ({ cls := "FileVolume$Folder", name := "isNamed", desc := "(I)Z" } : Jvm.MethodName)) ∈ am_tw := am_mem 432 (by decide +kernel) (by decide +kernel)
theorem tw_433 : (Jvm.Cond.selects "FileVolume$Folder" ({ cls := "FileVolume$Folder", name := "isNamed", desc := "(I)Z" } : Jvm.MethodName) ({ cls := "FileVolume$Folder", name := "isNamed", desc := "(I)Z" } : Jvm.MethodName)) ∈ am_tw := am_mem 433 (by decide +kernel) (by decide +kernel)
theorem tw_434 : (Jvm.Cond.code ({ cls := "FileVolume$Folder", name := "isNamed", desc := "(I)Z" } : Jvm.MethodName) prog_3_method_10_code (4 : Nat) (Option.some Jvm.ClassFile.FieldType.boolean)) ∈ am_tw := am_mem 434 (by decide +kernel) (by decide +kernel)
theorem tw_435 : (Jvm.Cond.methodLink "FileVolume$Folder" (67 : Nat) ({ cls := "FileVolume$Folder", name := "isCalled", desc := "(ILFileVolume$Name;)Z" } : Jvm.MethodName)) ∈ am_tw := am_mem 435 (by decide +kernel) (by decide +kernel)
theorem tw_436 : (Jvm.Cond.instanceMethod ({ cls := "FileVolume$Folder", name := "isCalled", desc := "(ILFileVolume$Name;)Z" } : Jvm.MethodName)) ∈ am_tw := am_mem 436 (by decide +kernel) (by decide +kernel)
theorem tw_437 : (Jvm.Cond.selects "FileVolume$Folder" ({ cls := "FileVolume$Folder", name := "isCalled", desc := "(ILFileVolume$Name;)Z" } : Jvm.MethodName) ({ cls := "FileVolume$Folder", name := "isCalled", desc := "(ILFileVolume$Name;)Z" } : Jvm.MethodName)) ∈ am_tw := am_mem 437 (by decide +kernel) (by decide +kernel)
theorem tw_438 : (Jvm.Cond.code ({ cls := "FileVolume$Folder", name := "isCalled", desc := "(ILFileVolume$Name;)Z" } : Jvm.MethodName) prog_3_method_15_code (3 : Nat) (Option.some Jvm.ClassFile.FieldType.boolean)) ∈ am_tw := am_mem 438 (by decide +kernel) (by decide +kernel)
theorem tw_439 : (Jvm.Cond.methodLink "FileVolume$Folder" (71 : Nat) ({ cls := "FileVolume$Folder", name := "isShortCalled", desc := "(ILFileVolume$Name;)Z" } : Jvm.MethodName)) ∈ am_tw := am_mem 439 (by decide +kernel) (by decide +kernel)
theorem tw_440 : (Jvm.Cond.instanceMethod ({ cls := "FileVolume$Folder", name := "isShortCalled", desc := "(ILFileVolume$Name;)Z" } : Jvm.MethodName)) ∈ am_tw := am_mem 440 (by decide +kernel) (by decide +kernel)
theorem tw_441 : (Jvm.Cond.selects "FileVolume$Folder" ({ cls := "FileVolume$Folder", name := "isShortCalled", desc := "(ILFileVolume$Name;)Z" } : Jvm.MethodName) ({ cls := "FileVolume$Folder", name := "isShortCalled", desc := "(ILFileVolume$Name;)Z" } : Jvm.MethodName)) ∈ am_tw := am_mem 441 (by decide +kernel) (by decide +kernel)
theorem tw_442 : (Jvm.Cond.code ({ cls := "FileVolume$Folder", name := "isShortCalled", desc := "(ILFileVolume$Name;)Z" } : Jvm.MethodName) prog_3_method_16_code (4 : Nat) (Option.some Jvm.ClassFile.FieldType.boolean)) ∈ am_tw := am_mem 442 (by decide +kernel) (by decide +kernel)
theorem tw_443 : (Jvm.Cond.methodLink "FileVolume$Folder" (81 : Nat) ({ cls := "FileVolume$Folder", name := "shortLengthOf", desc := "(I)I" } : Jvm.MethodName)) ∈ am_tw := am_mem 443 (by decide +kernel) (by decide +kernel)
theorem tw_444 : (Jvm.Cond.instanceMethod ({ cls := "FileVolume$Folder", name := "shortLengthOf", desc := "(I)I" } : Jvm.MethodName)) ∈ am_tw := am_mem 444 (by decide +kernel) (by decide +kernel)
theorem tw_445 : (Jvm.Cond.selects "FileVolume$Folder" ({ cls := "FileVolume$Folder", name := "shortLengthOf", desc := "(I)I" } : Jvm.MethodName) ({ cls := "FileVolume$Folder", name := "shortLengthOf", desc := "(I)I" } : Jvm.MethodName)) ∈ am_tw := am_mem 445 (by decide +kernel) (by decide +kernel)
theorem tw_446 : (Jvm.Cond.code ({ cls := "FileVolume$Folder", name := "shortLengthOf", desc := "(I)I" } : Jvm.MethodName) prog_3_method_20_code (4 : Nat) (Option.some Jvm.ClassFile.FieldType.int)) ∈ am_tw := am_mem 446 (by decide +kernel) (by decide +kernel)
theorem tw_448 : (Jvm.Cond.static ({ cls := "FileVolume", name := "capital", desc := "(I)I" } : Jvm.MethodName)) ∈ am_tw := am_mem 448 (by decide +kernel) (by decide +kernel)
theorem tw_449 : (Jvm.Cond.code ({ cls := "FileVolume", name := "capital", desc := "(I)I" } : Jvm.MethodName) prog_1_method_32_code (1 : Nat) (Option.some Jvm.ClassFile.FieldType.int)) ∈ am_tw := am_mem 449 (by decide +kernel) (by decide +kernel)
theorem tw_450 : (Jvm.Cond.methodLink "FileVolume$Folder" (92 : Nat) ({ cls := "FileVolume$Name", name := "charAt", desc := "(I)I" } : Jvm.MethodName)) ∈ am_tw := am_mem 450 (by decide +kernel) (by decide +kernel)
theorem tw_451 : (Jvm.Cond.methodLink "FileVolume$Folder" (74 : Nat) ({ cls := "FileVolume$Folder", name := "partsOf", desc := "(I)I" } : Jvm.MethodName)) ∈ am_tw := am_mem 451 (by decide +kernel) (by decide +kernel)
theorem tw_452 : (Jvm.Cond.instanceMethod ({ cls := "FileVolume$Folder", name := "partsOf", desc := "(I)I" } : Jvm.MethodName)) ∈ am_tw := am_mem 452 (by decide +kernel) (by decide +kernel)
theorem tw_453 : (Jvm.Cond.selects "FileVolume$Folder" ({ cls := "FileVolume$Folder", name := "partsOf", desc := "(I)I" } : Jvm.MethodName) ({ cls := "FileVolume$Folder", name := "partsOf", desc := "(I)I" } : Jvm.MethodName)) ∈ am_tw := am_mem 453 (by decide +kernel) (by decide +kernel)
theorem tw_454 : (Jvm.Cond.code ({ cls := "FileVolume$Folder", name := "partsOf", desc := "(I)I" } : Jvm.MethodName) prog_3_method_23_code (4 : Nat) (Option.some Jvm.ClassFile.FieldType.int)) ∈ am_tw := am_mem 454 (by decide +kernel) (by decide +kernel)
theorem tw_455 : (Jvm.Cond.methodLink "FileVolume$Folder" (108 : Nat) ({ cls := "FileVolume$Folder", name := "sumOf", desc := "(I)I" } : Jvm.MethodName)) ∈ am_tw := am_mem 455 (by decide +kernel) (by decide +kernel)
theorem tw_456 : (Jvm.Cond.instanceMethod ({ cls := "FileVolume$Folder", name := "sumOf", desc := "(I)I" } : Jvm.MethodName)) ∈ am_tw := am_mem 456 (by decide +kernel) (by decide +kernel)
theorem tw_457 : (Jvm.Cond.selects "FileVolume$Folder" ({ cls := "FileVolume$Folder", name := "sumOf", desc := "(I)I" } : Jvm.MethodName) ({ cls := "FileVolume$Folder", name := "sumOf", desc := "(I)I" } : Jvm.MethodName)) ∈ am_tw := am_mem 457 (by decide +kernel) (by decide +kernel)
theorem tw_458 : (Jvm.Cond.code ({ cls := "FileVolume$Folder", name := "sumOf", desc := "(I)I" } : Jvm.MethodName) prog_3_method_22_code (4 : Nat) (Option.some Jvm.ClassFile.FieldType.int)) ∈ am_tw := am_mem 458 (by decide +kernel) (by decide +kernel)
theorem tw_460 : (Jvm.Cond.static ({ cls := "FileVolume", name := "addToSum", desc := "(II)I" } : Jvm.MethodName)) ∈ am_tw := am_mem 460 (by decide +kernel) (by decide +kernel)
theorem tw_461 : (Jvm.Cond.code ({ cls := "FileVolume", name := "addToSum", desc := "(II)I" } : Jvm.MethodName) prog_1_method_33_code (2 : Nat) (Option.some Jvm.ClassFile.FieldType.int)) ∈ am_tw := am_mem 461 (by decide +kernel) (by decide +kernel)
theorem tw_462 : (Jvm.Cond.methodLink "FileVolume$Folder" (111 : Nat) ({ cls := "FileVolume$Folder", name := "isPart", desc := "(III)Z" } : Jvm.MethodName)) ∈ am_tw := am_mem 462 (by decide +kernel) (by decide +kernel)
theorem tw_463 : (Jvm.Cond.instanceMethod ({ cls := "FileVolume$Folder", name := "isPart", desc := "(III)Z" } : Jvm.MethodName)) ∈ am_tw := am_mem 463 (by decide +kernel) (by decide +kernel)
theorem tw_464 : (Jvm.Cond.selects "FileVolume$Folder" ({ cls := "FileVolume$Folder", name := "isPart", desc := "(III)Z" } : Jvm.MethodName) ({ cls := "FileVolume$Folder", name := "isPart", desc := "(III)Z" } : Jvm.MethodName)) ∈ am_tw := am_mem 464 (by decide +kernel) (by decide +kernel)
theorem tw_465 : (Jvm.Cond.code ({ cls := "FileVolume$Folder", name := "isPart", desc := "(III)Z" } : Jvm.MethodName) prog_3_method_24_code (4 : Nat) (Option.some Jvm.ClassFile.FieldType.boolean)) ∈ am_tw := am_mem 465 (by decide +kernel) (by decide +kernel)
theorem tw_466 : (Jvm.Cond.methodLink "FileVolume$Folder" (77 : Nat) ({ cls := "FileVolume$Folder", name := "isLongCalled", desc := "(ILFileVolume$Name;I)Z" } : Jvm.MethodName)) ∈ am_tw := am_mem 466 (by decide +kernel) (by decide +kernel)
theorem tw_467 : (Jvm.Cond.instanceMethod ({ cls := "FileVolume$Folder", name := "isLongCalled", desc := "(ILFileVolume$Name;I)Z" } : Jvm.MethodName)) ∈ am_tw := am_mem 467 (by decide +kernel) (by decide +kernel)
theorem tw_468 : (Jvm.Cond.selects "FileVolume$Folder" ({ cls := "FileVolume$Folder", name := "isLongCalled", desc := "(ILFileVolume$Name;I)Z" } : Jvm.MethodName) ({ cls := "FileVolume$Folder", name := "isLongCalled", desc := "(ILFileVolume$Name;I)Z" } : Jvm.MethodName)) ∈ am_tw := am_mem 468 (by decide +kernel) (by decide +kernel)
theorem tw_469 : (Jvm.Cond.code ({ cls := "FileVolume$Folder", name := "isLongCalled", desc := "(ILFileVolume$Name;I)Z" } : Jvm.MethodName) prog_3_method_17_code (5 : Nat) (Option.some Jvm.ClassFile.FieldType.boolean)) ∈ am_tw := am_mem 469 (by decide +kernel) (by decide +kernel)
theorem tw_470 : (Jvm.Cond.methodLink "FileVolume$Folder" (95 : Nat) ({ cls := "FileVolume$Folder", name := "longLengthOf", desc := "(II)I" } : Jvm.MethodName)) ∈ am_tw := am_mem 470 (by decide +kernel) (by decide +kernel)
theorem tw_471 : (Jvm.Cond.instanceMethod ({ cls := "FileVolume$Folder", name := "longLengthOf", desc := "(II)I" } : Jvm.MethodName)) ∈ am_tw := am_mem 471 (by decide +kernel) (by decide +kernel)
theorem tw_472 : (Jvm.Cond.selects "FileVolume$Folder" ({ cls := "FileVolume$Folder", name := "longLengthOf", desc := "(II)I" } : Jvm.MethodName) ({ cls := "FileVolume$Folder", name := "longLengthOf", desc := "(II)I" } : Jvm.MethodName)) ∈ am_tw := am_mem 472 (by decide +kernel) (by decide +kernel)
theorem tw_473 : (Jvm.Cond.code ({ cls := "FileVolume$Folder", name := "longLengthOf", desc := "(II)I" } : Jvm.MethodName) prog_3_method_27_code (4 : Nat) (Option.some Jvm.ClassFile.FieldType.int)) ∈ am_tw := am_mem 473 (by decide +kernel) (by decide +kernel)
theorem tw_474 : (Jvm.Cond.methodLink "FileVolume$Folder" (98 : Nat) ({ cls := "FileVolume$Folder", name := "longByteOf", desc := "(II)I" } : Jvm.MethodName)) ∈ am_tw := am_mem 474 (by decide +kernel) (by decide +kernel)
theorem tw_475 : (Jvm.Cond.instanceMethod ({ cls := "FileVolume$Folder", name := "longByteOf", desc := "(II)I" } : Jvm.MethodName)) ∈ am_tw := am_mem 475 (by decide +kernel) (by decide +kernel)
theorem tw_476 : (Jvm.Cond.selects "FileVolume$Folder" ({ cls := "FileVolume$Folder", name := "longByteOf", desc := "(II)I" } : Jvm.MethodName) ({ cls := "FileVolume$Folder", name := "longByteOf", desc := "(II)I" } : Jvm.MethodName)) ∈ am_tw := am_mem 476 (by decide +kernel) (by decide +kernel)
theorem tw_477 : (Jvm.Cond.code ({ cls := "FileVolume$Folder", name := "longByteOf", desc := "(II)I" } : Jvm.MethodName) prog_3_method_26_code (3 : Nat) (Option.some Jvm.ClassFile.FieldType.int)) ∈ am_tw := am_mem 477 (by decide +kernel) (by decide +kernel)
theorem tw_479 : (Jvm.Cond.static ({ cls := "FileVolume", name := "placeInPart", desc := "(I)I" } : Jvm.MethodName)) ∈ am_tw := am_mem 479 (by decide +kernel) (by decide +kernel)
theorem tw_480 : (Jvm.Cond.code ({ cls := "FileVolume", name := "placeInPart", desc := "(I)I" } : Jvm.MethodName) prog_1_method_34_code (1 : Nat) (Option.some Jvm.ClassFile.FieldType.int)) ∈ am_tw := am_mem 480 (by decide +kernel) (by decide +kernel)
theorem tw_481 : (Jvm.Cond.methodLink "FileVolume" (102 : Nat) ({ cls := "FileVolume$Name", name := "chooseShort", desc := "(LFileVolume$Folder;)Z" } : Jvm.MethodName)) ∈ am_tw := am_mem 481 (by decide +kernel) (by decide +kernel)
theorem tw_482 : (Jvm.Cond.instanceMethod ({ cls := "FileVolume$Name", name := "chooseShort", desc := "(LFileVolume$Folder;)Z" } : Jvm.MethodName)) ∈ am_tw := am_mem 482 (by decide +kernel) (by decide +kernel)
theorem tw_483 : (Jvm.Cond.selects "FileVolume$Name" ({ cls := "FileVolume$Name", name := "chooseShort", desc := "(LFileVolume$Folder;)Z" } : Jvm.MethodName) ({ cls := "FileVolume$Name", name := "chooseShort", desc := "(LFileVolume$Folder;)Z" } : Jvm.MethodName)) ∈ am_tw := am_mem 483 (by decide +kernel) (by decide +kernel)
theorem tw_484 : (Jvm.Cond.code ({ cls := "FileVolume$Name", name := "chooseShort", desc := "(LFileVolume$Folder;)Z" } : Jvm.MethodName) prog_4_method_6_code (4 : Nat) (Option.some Jvm.ClassFile.FieldType.boolean)) ∈ am_tw := am_mem 484 (by decide +kernel) (by decide +kernel)
theorem tw_485 : (Jvm.Cond.methodLink "FileVolume$Name" (39 : Nat) ({ cls := "FileVolume$Name", name := "isShort", desc := "()Z" } : Jvm.MethodName)) ∈ am_tw := am_mem 485 (by decide +kernel) (by decide +kernel)
theorem tw_486 : (Jvm.Cond.instanceMethod ({ cls := "FileVolume$Name", name := "isShort", desc := "()Z" } : Jvm.MethodName)) ∈ am_tw := am_mem 486 (by decide +kernel) (by decide +kernel)
theorem tw_487 : (Jvm.Cond.selects "FileVolume$Name" ({ cls := "FileVolume$Name", name := "isShort", desc := "()Z" } : Jvm.MethodName) ({ cls := "FileVolume$Name", name := "isShort", desc := "()Z" } : Jvm.MethodName)) ∈ am_tw := am_mem 487 (by decide +kernel) (by decide +kernel)
theorem tw_488 : (Jvm.Cond.code ({ cls := "FileVolume$Name", name := "isShort", desc := "()Z" } : Jvm.MethodName) prog_4_method_5_code (2 : Nat) (Option.some Jvm.ClassFile.FieldType.boolean)) ∈ am_tw := am_mem 488 (by decide +kernel) (by decide +kernel)
theorem tw_490 : (Jvm.Cond.static ({ cls := "FileVolume", name := "isShortChar", desc := "(I)Z" } : Jvm.MethodName)) ∈ am_tw := am_mem 490 (by decide +kernel) (by decide +kernel)
theorem tw_491 : (Jvm.Cond.code ({ cls := "FileVolume", name := "isShortChar", desc := "(I)Z" } : Jvm.MethodName) prog_1_method_31_code (1 : Nat) (Option.some Jvm.ClassFile.FieldType.boolean)) ∈ am_tw := am_mem 491 (by decide +kernel) (by decide +kernel)
theorem tw_492 : (Jvm.Cond.methodLink "FileVolume$Name" (46 : Nat) ({ cls := "FileVolume$Name", name := "copyCapitals", desc := "(I)I" } : Jvm.MethodName)) ∈ am_tw := am_mem 492 (by decide +kernel) (by decide +kernel)
theorem tw_493 : (Jvm.Cond.instanceMethod ({ cls := "FileVolume$Name", name := "copyCapitals", desc := "(I)I" } : Jvm.MethodName)) ∈ am_tw := am_mem 493 (by decide +kernel) (by decide +kernel)
theorem tw_494 : (Jvm.Cond.selects "FileVolume$Name" ({ cls := "FileVolume$Name", name := "copyCapitals", desc := "(I)I" } : Jvm.MethodName) ({ cls := "FileVolume$Name", name := "copyCapitals", desc := "(I)I" } : Jvm.MethodName)) ∈ am_tw := am_mem 494 (by decide +kernel) (by decide +kernel)
theorem tw_495 : (Jvm.Cond.code ({ cls := "FileVolume$Name", name := "copyCapitals", desc := "(I)I" } : Jvm.MethodName) prog_4_method_7_code (5 : Nat) (Option.some Jvm.ClassFile.FieldType.int)) ∈ am_tw := am_mem 495 (by decide +kernel) (by decide +kernel)
theorem tw_497 : (Jvm.Cond.methodLink "FileVolume$Name" (49 : Nat) ({ cls := "FileVolume$Folder", name := "hasShort", desc := "([II)Z" } : Jvm.MethodName)) ∈ am_tw := am_mem 497 (by decide +kernel) (by decide +kernel)
theorem tw_498 : (Jvm.Cond.instanceMethod ({ cls := "FileVolume$Folder", name := "hasShort", desc := "([II)Z" } : Jvm.MethodName)) ∈ am_tw := am_mem 498 (by decide +kernel) (by decide +kernel)
theorem tw_499 : (Jvm.Cond.selects "FileVolume$Folder" ({ cls := "FileVolume$Folder", name := "hasShort", desc := "([II)Z" } : Jvm.MethodName) ({ cls := "FileVolume$Folder", name := "hasShort", desc := "([II)Z" } : Jvm.MethodName)) ∈ am_tw := am_mem 499 (by decide +kernel) (by decide +kernel)
theorem tw_500 : (Jvm.Cond.code ({ cls := "FileVolume$Folder", name := "hasShort", desc := "([II)Z" } : Jvm.MethodName) prog_3_method_18_code (4 : Nat) (Option.some Jvm.ClassFile.FieldType.boolean)) ∈ am_tw := am_mem 500 (by decide +kernel) (by decide +kernel)
theorem tw_501 : (Jvm.Cond.methodLink "FileVolume$Folder" (101 : Nat) ({ cls := "FileVolume$Folder", name := "isShort", desc := "(I[II)Z" } : Jvm.MethodName)) ∈ am_tw := am_mem 501 (by decide +kernel) (by decide +kernel)
theorem tw_502 : (Jvm.Cond.instanceMethod ({ cls := "FileVolume$Folder", name := "isShort", desc := "(I[II)Z" } : Jvm.MethodName)) ∈ am_tw := am_mem 502 (by decide +kernel) (by decide +kernel)
theorem tw_503 : (Jvm.Cond.selects "FileVolume$Folder" ({ cls := "FileVolume$Folder", name := "isShort", desc := "(I[II)Z" } : Jvm.MethodName) ({ cls := "FileVolume$Folder", name := "isShort", desc := "(I[II)Z" } : Jvm.MethodName)) ∈ am_tw := am_mem 503 (by decide +kernel) (by decide +kernel)
theorem tw_504 : (Jvm.Cond.code ({ cls := "FileVolume$Folder", name := "isShort", desc := "(I[II)Z" } : Jvm.MethodName) prog_3_method_19_code (5 : Nat) (Option.some Jvm.ClassFile.FieldType.boolean)) ∈ am_tw := am_mem 504 (by decide +kernel) (by decide +kernel)
theorem tw_505 : (Jvm.Cond.classLink "FileVolume" (106 : Nat) "java/lang/UnsupportedOperationException") ∈ am_tw := am_mem 505 (by decide +kernel) (by decide +kernel)
theorem tw_521 : (Jvm.Cond.methodLink "FileVolume" (111 : Nat) ({ cls := "FileVolume$Table", name := "take", desc := "()I" } : Jvm.MethodName)) ∈ am_tw := am_mem 521 (by decide +kernel) (by decide +kernel)
theorem tw_522 : (Jvm.Cond.instanceMethod ({ cls := "FileVolume$Table", name := "take", desc := "()I" } : Jvm.MethodName)) ∈ am_tw := am_mem 522 (by decide +kernel) (by decide +kernel)
theorem tw_523 : (Jvm.Cond.selects "FileVolume$Table" ({ cls := "FileVolume$Table", name := "take", desc := "()I" } : Jvm.MethodName) ({ cls := "FileVolume$Table", name := "take", desc := "()I" } : Jvm.MethodName)) ∈ am_tw := am_mem 523 (by decide +kernel) (by decide +kernel)
theorem tw_524 : (Jvm.Cond.code ({ cls := "FileVolume$Table", name := "take", desc := "()I" } : Jvm.MethodName) prog_7_method_9_code (2 : Nat) (Option.some Jvm.ClassFile.FieldType.int)) ∈ am_tw := am_mem 524 (by decide +kernel) (by decide +kernel)
theorem tw_525 : (Jvm.Cond.methodLink "FileVolume$Table" (32 : Nat) ({ cls := "FileVolume$Table", name := "leastFree", desc := "()I" } : Jvm.MethodName)) ∈ am_tw := am_mem 525 (by decide +kernel) (by decide +kernel)
theorem tw_526 : (Jvm.Cond.instanceMethod ({ cls := "FileVolume$Table", name := "leastFree", desc := "()I" } : Jvm.MethodName)) ∈ am_tw := am_mem 526 (by decide +kernel) (by decide +kernel)
theorem tw_527 : (Jvm.Cond.selects "FileVolume$Table" ({ cls := "FileVolume$Table", name := "leastFree", desc := "()I" } : Jvm.MethodName) ({ cls := "FileVolume$Table", name := "leastFree", desc := "()I" } : Jvm.MethodName)) ∈ am_tw := am_mem 527 (by decide +kernel) (by decide +kernel)
theorem tw_528 : (Jvm.Cond.code ({ cls := "FileVolume$Table", name := "leastFree", desc := "()I" } : Jvm.MethodName) prog_7_method_8_code (2 : Nat) (Option.some Jvm.ClassFile.FieldType.int)) ∈ am_tw := am_mem 528 (by decide +kernel) (by decide +kernel)
theorem tw_529 : (Jvm.Cond.constant "FileVolume$Table" (36 : Nat) (65535 : Int32)) ∈ am_tw := am_mem 529 (by decide +kernel) (by decide +kernel)
theorem tw_530 : (Jvm.Cond.methodLink "FileVolume$Table" (37 : Nat) ({ cls := "FileVolume$Table", name := "set", desc := "(II)V" } : Jvm.MethodName)) ∈ am_tw := am_mem 530 (by decide +kernel) (by decide +kernel)
theorem tw_531 : (Jvm.Cond.instanceMethod ({ cls := "FileVolume$Table", name := "set", desc := "(II)V" } : Jvm.MethodName)) ∈ am_tw := am_mem 531 (by decide +kernel) (by decide +kernel)
theorem tw_532 : (Jvm.Cond.selects "FileVolume$Table" ({ cls := "FileVolume$Table", name := "set", desc := "(II)V" } : Jvm.MethodName) ({ cls := "FileVolume$Table", name := "set", desc := "(II)V" } : Jvm.MethodName)) ∈ am_tw := am_mem 532 (by decide +kernel) (by decide +kernel)
theorem tw_533 : (Jvm.Cond.code ({ cls := "FileVolume$Table", name := "set", desc := "(II)V" } : Jvm.MethodName) prog_7_method_4_code (3 : Nat) (Option.none : Option Jvm.ClassFile.FieldType)) ∈ am_tw := am_mem 533 (by decide +kernel) (by decide +kernel)
theorem tw_534 : (Jvm.Cond.methodLink "FileVolume$Table" (21 : Nat) ({ cls := "FileVolume$Disk", name := "writePair", desc := "(II)V" } : Jvm.MethodName)) ∈ am_tw := am_mem 534 (by decide +kernel) (by decide +kernel)
theorem tw_535 : (Jvm.Cond.instanceMethod ({ cls := "FileVolume$Disk", name := "writePair", desc := "(II)V" } : Jvm.MethodName)) ∈ am_tw := am_mem 535 (by decide +kernel) (by decide +kernel)
theorem tw_536 : (Jvm.Cond.selects "FileVolume$Disk" ({ cls := "FileVolume$Disk", name := "writePair", desc := "(II)V" } : Jvm.MethodName) ({ cls := "FileVolume$Disk", name := "writePair", desc := "(II)V" } : Jvm.MethodName)) ∈ am_tw := am_mem 536 (by decide +kernel) (by decide +kernel)
theorem tw_537 : (Jvm.Cond.code ({ cls := "FileVolume$Disk", name := "writePair", desc := "(II)V" } : Jvm.MethodName) prog_2_method_9_code (3 : Nat) (Option.none : Option Jvm.ClassFile.FieldType)) ∈ am_tw := am_mem 537 (by decide +kernel) (by decide +kernel)
theorem tw_538 : (Jvm.Cond.methodLink "FileVolume$Disk" (48 : Nat) ({ cls := "FileVolume$Disk", name := "countWrite", desc := "()V" } : Jvm.MethodName)) ∈ am_tw := am_mem 538 (by decide +kernel) (by decide +kernel)
theorem tw_539 : (Jvm.Cond.instanceMethod ({ cls := "FileVolume$Disk", name := "countWrite", desc := "()V" } : Jvm.MethodName)) ∈ am_tw := am_mem 539 (by decide +kernel) (by decide +kernel)
theorem tw_540 : (Jvm.Cond.selects "FileVolume$Disk" ({ cls := "FileVolume$Disk", name := "countWrite", desc := "()V" } : Jvm.MethodName) ({ cls := "FileVolume$Disk", name := "countWrite", desc := "()V" } : Jvm.MethodName)) ∈ am_tw := am_mem 540 (by decide +kernel) (by decide +kernel)
theorem tw_541 : (Jvm.Cond.code ({ cls := "FileVolume$Disk", name := "countWrite", desc := "()V" } : Jvm.MethodName) prog_2_method_7_code (1 : Nat) (Option.none : Option Jvm.ClassFile.FieldType)) ∈ am_tw := am_mem 541 (by decide +kernel) (by decide +kernel)
theorem tw_542 : (Jvm.Cond.methodLink "FileVolume$Disk" (30 : Nat) ({ cls := "FileVolume$Session", name := "leave", desc := "()V" } : Jvm.MethodName)) ∈ am_tw := am_mem 542 (by decide +kernel) (by decide +kernel)
theorem tw_543 : (Jvm.Cond.classLink "FileVolume$Disk" (38 : Nat) "java/lang/IllegalStateException") ∈ am_tw := am_mem 543 (by decide +kernel) (by decide +kernel)
theorem tw_546 : (Jvm.Cond.methodLink "FileVolume$Disk" (51 : Nat) ({ cls := "FileVolume$Disk", name := "put", desc := "(II)V" } : Jvm.MethodName)) ∈ am_tw := am_mem 546 (by decide +kernel) (by decide +kernel)
theorem tw_548 : (Jvm.Cond.methodLink "FileVolume$Table" (43 : Nat) ({ cls := "FileVolume$Disk", name := "clearSector", desc := "(I)V" } : Jvm.MethodName)) ∈ am_tw := am_mem 548 (by decide +kernel) (by decide +kernel)
theorem tw_549 : (Jvm.Cond.instanceMethod ({ cls := "FileVolume$Disk", name := "clearSector", desc := "(I)V" } : Jvm.MethodName)) ∈ am_tw := am_mem 549 (by decide +kernel) (by decide +kernel)
theorem tw_550 : (Jvm.Cond.selects "FileVolume$Disk" ({ cls := "FileVolume$Disk", name := "clearSector", desc := "(I)V" } : Jvm.MethodName) ({ cls := "FileVolume$Disk", name := "clearSector", desc := "(I)V" } : Jvm.MethodName)) ∈ am_tw := am_mem 550 (by decide +kernel) (by decide +kernel)
theorem tw_551 : (Jvm.Cond.code ({ cls := "FileVolume$Disk", name := "clearSector", desc := "(I)V" } : Jvm.MethodName) prog_2_method_11_code (3 : Nat) (Option.none : Option Jvm.ClassFile.FieldType)) ∈ am_tw := am_mem 551 (by decide +kernel) (by decide +kernel)
theorem tw_553 : (Jvm.Cond.methodLink "FileVolume" (120 : Nat) ({ cls := "FileVolume", name := "makeFreeRow", desc := "(I)I" } : Jvm.MethodName)) ∈ am_tw := am_mem 553 (by decide +kernel) (by decide +kernel)
theorem tw_555 : (Jvm.Cond.instanceMethod ({ cls := "FileVolume", name := "makeFreeRow", desc := "(I)I" } : Jvm.MethodName)) ∈ am_tw := am_mem 555 (by decide +kernel) (by decide +kernel)
theorem tw_556 : (Jvm.Cond.code ({ cls := "FileVolume", name := "makeFreeRow", desc := "(I)I" } : Jvm.MethodName) prog_1_method_19_code (5 : Nat) (Option.some Jvm.ClassFile.FieldType.int)) ∈ am_tw := am_mem 556 (by decide +kernel) (by decide +kernel)
theorem tw_557 : (Jvm.Cond.methodLink "FileVolume" (310 : Nat) ({ cls := "FileVolume$Folder", name := "findFreeRow", desc := "(I)I" } : Jvm.MethodName)) ∈ am_tw := am_mem 557 (by decide +kernel) (by decide +kernel)
theorem tw_558 : (Jvm.Cond.instanceMethod ({ cls := "FileVolume$Folder", name := "findFreeRow", desc := "(I)I" } : Jvm.MethodName)) ∈ am_tw := am_mem 558 (by decide +kernel) (by decide +kernel)
theorem tw_559 : (Jvm.Cond.selects "FileVolume$Folder" ({ cls := "FileVolume$Folder", name := "findFreeRow", desc := "(I)I" } : Jvm.MethodName) ({ cls := "FileVolume$Folder", name := "findFreeRow", desc := "(I)I" } : Jvm.MethodName)) ∈ am_tw := am_mem 559 (by decide +kernel) (by decide +kernel)
theorem tw_560 : (Jvm.Cond.code ({ cls := "FileVolume$Folder", name := "findFreeRow", desc := "(I)I" } : Jvm.MethodName) prog_3_method_12_code (4 : Nat) (Option.some Jvm.ClassFile.FieldType.int)) ∈ am_tw := am_mem 560 (by decide +kernel) (by decide +kernel)
theorem tw_561 : (Jvm.Cond.methodLink "FileVolume$Folder" (58 : Nat) ({ cls := "FileVolume$Folder", name := "isFree", desc := "(I)Z" } : Jvm.MethodName)) ∈ am_tw := am_mem 561 (by decide +kernel) (by decide +kernel)
theorem tw_562 : (Jvm.Cond.instanceMethod ({ cls := "FileVolume$Folder", name := "isFree", desc := "(I)Z" } : Jvm.MethodName)) ∈ am_tw := am_mem 562 (by decide +kernel) (by decide +kernel)
theorem tw_563 : (Jvm.Cond.selects "FileVolume$Folder" ({ cls := "FileVolume$Folder", name := "isFree", desc := "(I)Z" } : Jvm.MethodName) ({ cls := "FileVolume$Folder", name := "isFree", desc := "(I)Z" } : Jvm.MethodName)) ∈ am_tw := am_mem 563 (by decide +kernel) (by decide +kernel)
theorem tw_564 : (Jvm.Cond.code ({ cls := "FileVolume$Folder", name := "isFree", desc := "(I)Z" } : Jvm.MethodName) prog_3_method_6_code (3 : Nat) (Option.some Jvm.ClassFile.FieldType.boolean)) ∈ am_tw := am_mem 564 (by decide +kernel) (by decide +kernel)
theorem tw_565 : (Jvm.Cond.methodLink "FileVolume" (316 : Nat) ({ cls := "FileVolume$Table", name := "set", desc := "(II)V" } : Jvm.MethodName)) ∈ am_tw := am_mem 565 (by decide +kernel) (by decide +kernel)
theorem tw_566 : (Jvm.Cond.methodLink "FileVolume" (124 : Nat) ({ cls := "FileVolume", name := "writeEntries", desc := "(III)V" } : Jvm.MethodName)) ∈ am_tw := am_mem 566 (by decide +kernel) (by decide +kernel)
theorem tw_568 : (Jvm.Cond.instanceMethod ({ cls := "FileVolume", name := "writeEntries", desc := "(III)V" } : Jvm.MethodName)) ∈ am_tw := am_mem 568 (by decide +kernel) (by decide +kernel)
theorem tw_569 : (Jvm.Cond.code ({ cls := "FileVolume", name := "writeEntries", desc := "(III)V" } : Jvm.MethodName) prog_1_method_20_code (5 : Nat) (Option.none : Option Jvm.ClassFile.FieldType)) ∈ am_tw := am_mem 569 (by decide +kernel) (by decide +kernel)
theorem tw_570 : (Jvm.Cond.methodLink "FileVolume" (319 : Nat) ({ cls := "FileVolume$Name", name := "fillPart", desc := "(I[I)V" } : Jvm.MethodName)) ∈ am_tw := am_mem 570 (by decide +kernel) (by decide +kernel)
theorem tw_571 : (Jvm.Cond.instanceMethod ({ cls := "FileVolume$Name", name := "fillPart", desc := "(I[I)V" } : Jvm.MethodName)) ∈ am_tw := am_mem 571 (by decide +kernel) (by decide +kernel)
theorem tw_572 : (Jvm.Cond.selects "FileVolume$Name" ({ cls := "FileVolume$Name", name := "fillPart", desc := "(I[I)V" } : Jvm.MethodName) ({ cls := "FileVolume$Name", name := "fillPart", desc := "(I[I)V" } : Jvm.MethodName)) ∈ am_tw := am_mem 572 (by decide +kernel) (by decide +kernel)
theorem tw_573 : (Jvm.Cond.code ({ cls := "FileVolume$Name", name := "fillPart", desc := "(I[I)V" } : Jvm.MethodName) prog_4_method_9_code (4 : Nat) (Option.none : Option Jvm.ClassFile.FieldType)) ∈ am_tw := am_mem 573 (by decide +kernel) (by decide +kernel)
theorem tw_574 : (Jvm.Cond.methodLink "FileVolume$Name" (62 : Nat) ({ cls := "FileVolume$Name", name := "sum", desc := "()I" } : Jvm.MethodName)) ∈ am_tw := am_mem 574 (by decide +kernel) (by decide +kernel)
theorem tw_575 : (Jvm.Cond.instanceMethod ({ cls := "FileVolume$Name", name := "sum", desc := "()I" } : Jvm.MethodName)) ∈ am_tw := am_mem 575 (by decide +kernel) (by decide +kernel)
theorem tw_576 : (Jvm.Cond.selects "FileVolume$Name" ({ cls := "FileVolume$Name", name := "sum", desc := "()I" } : Jvm.MethodName) ({ cls := "FileVolume$Name", name := "sum", desc := "()I" } : Jvm.MethodName)) ∈ am_tw := am_mem 576 (by decide +kernel) (by decide +kernel)
theorem tw_577 : (Jvm.Cond.code ({ cls := "FileVolume$Name", name := "sum", desc := "()I" } : Jvm.MethodName) prog_4_method_8_code (3 : Nat) (Option.some Jvm.ClassFile.FieldType.int)) ∈ am_tw := am_mem 577 (by decide +kernel) (by decide +kernel)
theorem tw_580 : (Jvm.Cond.methodLink "FileVolume" (166 : Nat) ({ cls := "FileVolume$Folder", name := "addressOf", desc := "(I)I" } : Jvm.MethodName)) ∈ am_tw := am_mem 580 (by decide +kernel) (by decide +kernel)
theorem tw_581 : (Jvm.Cond.instanceMethod ({ cls := "FileVolume$Folder", name := "addressOf", desc := "(I)I" } : Jvm.MethodName)) ∈ am_tw := am_mem 581 (by decide +kernel) (by decide +kernel)
theorem tw_582 : (Jvm.Cond.selects "FileVolume$Folder" ({ cls := "FileVolume$Folder", name := "addressOf", desc := "(I)I" } : Jvm.MethodName) ({ cls := "FileVolume$Folder", name := "addressOf", desc := "(I)I" } : Jvm.MethodName)) ∈ am_tw := am_mem 582 (by decide +kernel) (by decide +kernel)
theorem tw_583 : (Jvm.Cond.code ({ cls := "FileVolume$Folder", name := "addressOf", desc := "(I)I" } : Jvm.MethodName) prog_3_method_3_code (2 : Nat) (Option.some Jvm.ClassFile.FieldType.int)) ∈ am_tw := am_mem 583 (by decide +kernel) (by decide +kernel)
theorem tw_584 : (Jvm.Cond.methodLink "FileVolume" (323 : Nat) ({ cls := "FileVolume$Disk", name := "writeRow", desc := "(I[III)V" } : Jvm.MethodName)) ∈ am_tw := am_mem 584 (by decide +kernel) (by decide +kernel)
theorem tw_585 : (Jvm.Cond.instanceMethod ({ cls := "FileVolume$Disk", name := "writeRow", desc := "(I[III)V" } : Jvm.MethodName)) ∈ am_tw := am_mem 585 (by decide +kernel) (by decide +kernel)
theorem tw_586 : (Jvm.Cond.selects "FileVolume$Disk" ({ cls := "FileVolume$Disk", name := "writeRow", desc := "(I[III)V" } : Jvm.MethodName) ({ cls := "FileVolume$Disk", name := "writeRow", desc := "(I[III)V" } : Jvm.MethodName)) ∈ am_tw := am_mem 586 (by decide +kernel) (by decide +kernel)
theorem tw_587 : (Jvm.Cond.code ({ cls := "FileVolume$Disk", name := "writeRow", desc := "(I[III)V" } : Jvm.MethodName) prog_2_method_10_code (7 : Nat) (Option.none : Option Jvm.ClassFile.FieldType)) ∈ am_tw := am_mem 587 (by decide +kernel) (by decide +kernel)
theorem tw_588 : (Jvm.Cond.methodLink "FileVolume" (327 : Nat) ({ cls := "FileVolume$Name", name := "fillEntry", desc := "(II[I)V" } : Jvm.MethodName)) ∈ am_tw := am_mem 588 (by decide +kernel) (by decide +kernel)
theorem tw_589 : (Jvm.Cond.instanceMethod ({ cls := "FileVolume$Name", name := "fillEntry", desc := "(II[I)V" } : Jvm.MethodName)) ∈ am_tw := am_mem 589 (by decide +kernel) (by decide +kernel)
theorem tw_590 : (Jvm.Cond.selects "FileVolume$Name" ({ cls := "FileVolume$Name", name := "fillEntry", desc := "(II[I)V" } : Jvm.MethodName) ({ cls := "FileVolume$Name", name := "fillEntry", desc := "(II[I)V" } : Jvm.MethodName)) ∈ am_tw := am_mem 590 (by decide +kernel) (by decide +kernel)
theorem tw_591 : (Jvm.Cond.code ({ cls := "FileVolume$Name", name := "fillEntry", desc := "(II[I)V" } : Jvm.MethodName) prog_4_method_10_code (5 : Nat) (Option.none : Option Jvm.ClassFile.FieldType)) ∈ am_tw := am_mem 591 (by decide +kernel) (by decide +kernel)
theorem tw_592 : (Jvm.Cond.methodLink "FileVolumeLaw" (63 : Nat) ({ cls := "FileVolumeLaw", name := "delete", desc := "(LFileVolume;)I" } : Jvm.MethodName)) ∈ am_tw := am_mem 592 (by decide +kernel) (by decide +kernel)
theorem tw_593 : (Jvm.Cond.static ({ cls := "FileVolumeLaw", name := "delete", desc := "(LFileVolume;)I" } : Jvm.MethodName)) ∈ am_tw := am_mem 593 (by decide +kernel) (by decide +kernel)
theorem tw_594 : (Jvm.Cond.codeWith ({ cls := "FileVolumeLaw", name := "delete", desc := "(LFileVolume;)I" } : Jvm.MethodName) method_4_code (2 : Nat) (Option.some Jvm.ClassFile.FieldType.int) [((0 : Nat), (4 : Nat), (7 : Nat), (13 : Nat)), ((0 : Nat), (4 : Nat), (10 : Nat), (22 : Nat)), ((0 : Nat), (4 : Nat), (13 : Nat), (17 : Nat))]) ∈ am_tw := am_mem 594 (by decide +kernel) (by decide +kernel)
theorem tw_595 : (Jvm.Cond.classLink "FileVolumeLaw" (22 : Nat) "java/util/NoSuchElementException") ∈ am_tw := am_mem 595 (by decide +kernel) (by decide +kernel)
theorem tw_596 : (Jvm.Cond.methodLink "FileVolumeLaw" (19 : Nat) ({ cls := "FileVolume", name := "delete", desc := "()V" } : Jvm.MethodName)) ∈ am_tw := am_mem 596 (by decide +kernel) (by decide +kernel)
theorem tw_597 : (Jvm.Cond.instanceMethod ({ cls := "FileVolume", name := "delete", desc := "()V" } : Jvm.MethodName)) ∈ am_tw := am_mem 597 (by decide +kernel) (by decide +kernel)
theorem tw_598 : (Jvm.Cond.selects "FileVolume" ({ cls := "FileVolume", name := "delete", desc := "()V" } : Jvm.MethodName) ({ cls := "FileVolume", name := "delete", desc := "()V" } : Jvm.MethodName)) ∈ am_tw := am_mem 598 (by decide +kernel) (by decide +kernel)
theorem tw_599 : (Jvm.Cond.code ({ cls := "FileVolume", name := "delete", desc := "()V" } : Jvm.MethodName) prog_1_method_4_code (2 : Nat) (Option.none : Option Jvm.ClassFile.FieldType)) ∈ am_tw := am_mem 599 (by decide +kernel) (by decide +kernel)
theorem tw_600 : (Jvm.Cond.classLink "FileVolume" (128 : Nat) "java/util/NoSuchElementException") ∈ am_tw := am_mem 600 (by decide +kernel) (by decide +kernel)
theorem tw_616 : (Jvm.Cond.methodLink "FileVolume" (133 : Nat) ({ cls := "FileVolume", name := "canBeDeleted", desc := "(I)Z" } : Jvm.MethodName)) ∈ am_tw := am_mem 616 (by decide +kernel) (by decide +kernel)
theorem tw_618 : (Jvm.Cond.instanceMethod ({ cls := "FileVolume", name := "canBeDeleted", desc := "(I)Z" } : Jvm.MethodName)) ∈ am_tw := am_mem 618 (by decide +kernel) (by decide +kernel)
theorem tw_619 : (Jvm.Cond.code ({ cls := "FileVolume", name := "canBeDeleted", desc := "(I)Z" } : Jvm.MethodName) prog_1_method_21_code (2 : Nat) (Option.some Jvm.ClassFile.FieldType.boolean)) ∈ am_tw := am_mem 619 (by decide +kernel) (by decide +kernel)
theorem tw_620 : (Jvm.Cond.methodLink "FileVolume" (238 : Nat) ({ cls := "FileVolume$Folder", name := "kindOf", desc := "(I)I" } : Jvm.MethodName)) ∈ am_tw := am_mem 620 (by decide +kernel) (by decide +kernel)
theorem tw_621 : (Jvm.Cond.methodLink "FileVolume" (331 : Nat) ({ cls := "FileVolume$Session", name := "holds", desc := "(I)Z" } : Jvm.MethodName)) ∈ am_tw := am_mem 621 (by decide +kernel) (by decide +kernel)
theorem tw_622 : (Jvm.Cond.instanceMethod ({ cls := "FileVolume$Session", name := "holds", desc := "(I)Z" } : Jvm.MethodName)) ∈ am_tw := am_mem 622 (by decide +kernel) (by decide +kernel)
theorem tw_623 : (Jvm.Cond.selects "FileVolume$Session" ({ cls := "FileVolume$Session", name := "holds", desc := "(I)Z" } : Jvm.MethodName) ({ cls := "FileVolume$Session", name := "holds", desc := "(I)Z" } : Jvm.MethodName)) ∈ am_tw := am_mem 623 (by decide +kernel) (by decide +kernel)
theorem tw_624 : (Jvm.Cond.code ({ cls := "FileVolume$Session", name := "holds", desc := "(I)Z" } : Jvm.MethodName) prog_6_method_8_code (3 : Nat) (Option.some Jvm.ClassFile.FieldType.boolean)) ∈ am_tw := am_mem 624 (by decide +kernel) (by decide +kernel)
theorem tw_625 : (Jvm.Cond.methodLink "FileVolume" (142 : Nat) ({ cls := "FileVolume$Folder", name := "firstClusterOf", desc := "(I)I" } : Jvm.MethodName)) ∈ am_tw := am_mem 625 (by decide +kernel) (by decide +kernel)
theorem tw_626 : (Jvm.Cond.instanceMethod ({ cls := "FileVolume$Folder", name := "firstClusterOf", desc := "(I)I" } : Jvm.MethodName)) ∈ am_tw := am_mem 626 (by decide +kernel) (by decide +kernel)
theorem tw_627 : (Jvm.Cond.selects "FileVolume$Folder" ({ cls := "FileVolume$Folder", name := "firstClusterOf", desc := "(I)I" } : Jvm.MethodName) ({ cls := "FileVolume$Folder", name := "firstClusterOf", desc := "(I)I" } : Jvm.MethodName)) ∈ am_tw := am_mem 627 (by decide +kernel) (by decide +kernel)
theorem tw_628 : (Jvm.Cond.code ({ cls := "FileVolume$Folder", name := "firstClusterOf", desc := "(I)I" } : Jvm.MethodName) prog_3_method_8_code (2 : Nat) (Option.some Jvm.ClassFile.FieldType.int)) ∈ am_tw := am_mem 628 (by decide +kernel) (by decide +kernel)
theorem tw_629 : (Jvm.Cond.methodLink "FileVolume$Folder" (55 : Nat) ({ cls := "FileVolume$Folder", name := "pairOf", desc := "(II)I" } : Jvm.MethodName)) ∈ am_tw := am_mem 629 (by decide +kernel) (by decide +kernel)
theorem tw_630 : (Jvm.Cond.instanceMethod ({ cls := "FileVolume$Folder", name := "pairOf", desc := "(II)I" } : Jvm.MethodName)) ∈ am_tw := am_mem 630 (by decide +kernel) (by decide +kernel)
theorem tw_631 : (Jvm.Cond.selects "FileVolume$Folder" ({ cls := "FileVolume$Folder", name := "pairOf", desc := "(II)I" } : Jvm.MethodName) ({ cls := "FileVolume$Folder", name := "pairOf", desc := "(II)I" } : Jvm.MethodName)) ∈ am_tw := am_mem 631 (by decide +kernel) (by decide +kernel)
theorem tw_632 : (Jvm.Cond.code ({ cls := "FileVolume$Folder", name := "pairOf", desc := "(II)I" } : Jvm.MethodName) prog_3_method_5_code (3 : Nat) (Option.some Jvm.ClassFile.FieldType.int)) ∈ am_tw := am_mem 632 (by decide +kernel) (by decide +kernel)
theorem tw_633 : (Jvm.Cond.methodLink "FileVolume$Folder" (48 : Nat) ({ cls := "FileVolume$Disk", name := "pairAt", desc := "(I)I" } : Jvm.MethodName)) ∈ am_tw := am_mem 633 (by decide +kernel) (by decide +kernel)
theorem tw_634 : (Jvm.Cond.methodLink "FileVolume" (334 : Nat) ({ cls := "FileVolume$Folder", name := "isEmpty", desc := "()Z" } : Jvm.MethodName)) ∈ am_tw := am_mem 634 (by decide +kernel) (by decide +kernel)
theorem tw_635 : (Jvm.Cond.instanceMethod ({ cls := "FileVolume$Folder", name := "isEmpty", desc := "()Z" } : Jvm.MethodName)) ∈ am_tw := am_mem 635 (by decide +kernel) (by decide +kernel)
theorem tw_636 : (Jvm.Cond.selects "FileVolume$Folder" ({ cls := "FileVolume$Folder", name := "isEmpty", desc := "()Z" } : Jvm.MethodName) ({ cls := "FileVolume$Folder", name := "isEmpty", desc := "()Z" } : Jvm.MethodName)) ∈ am_tw := am_mem 636 (by decide +kernel) (by decide +kernel)
theorem tw_637 : (Jvm.Cond.code ({ cls := "FileVolume$Folder", name := "isEmpty", desc := "()Z" } : Jvm.MethodName) prog_3_method_11_code (2 : Nat) (Option.some Jvm.ClassFile.FieldType.boolean)) ∈ am_tw := am_mem 637 (by decide +kernel) (by decide +kernel)
theorem tw_639 : (Jvm.Cond.methodLink "FileVolume" (139 : Nat) ({ cls := "FileVolume$Folder", name := "markFreed", desc := "(I)V" } : Jvm.MethodName)) ∈ am_tw := am_mem 639 (by decide +kernel) (by decide +kernel)
theorem tw_640 : (Jvm.Cond.instanceMethod ({ cls := "FileVolume$Folder", name := "markFreed", desc := "(I)V" } : Jvm.MethodName)) ∈ am_tw := am_mem 640 (by decide +kernel) (by decide +kernel)
theorem tw_641 : (Jvm.Cond.selects "FileVolume$Folder" ({ cls := "FileVolume$Folder", name := "markFreed", desc := "(I)V" } : Jvm.MethodName) ({ cls := "FileVolume$Folder", name := "markFreed", desc := "(I)V" } : Jvm.MethodName)) ∈ am_tw := am_mem 641 (by decide +kernel) (by decide +kernel)
theorem tw_642 : (Jvm.Cond.code ({ cls := "FileVolume$Folder", name := "markFreed", desc := "(I)V" } : Jvm.MethodName) prog_3_method_29_code (3 : Nat) (Option.none : Option Jvm.ClassFile.FieldType)) ∈ am_tw := am_mem 642 (by decide +kernel) (by decide +kernel)
theorem tw_643 : (Jvm.Cond.methodLink "FileVolume$Folder" (118 : Nat) ({ cls := "FileVolume$Folder", name := "addressOf", desc := "(I)I" } : Jvm.MethodName)) ∈ am_tw := am_mem 643 (by decide +kernel) (by decide +kernel)
theorem tw_644 : (Jvm.Cond.methodLink "FileVolume$Folder" (121 : Nat) ({ cls := "FileVolume$Disk", name := "writeByte", desc := "(II)V" } : Jvm.MethodName)) ∈ am_tw := am_mem 644 (by decide +kernel) (by decide +kernel)
theorem tw_645 : (Jvm.Cond.instanceMethod ({ cls := "FileVolume$Disk", name := "writeByte", desc := "(II)V" } : Jvm.MethodName)) ∈ am_tw := am_mem 645 (by decide +kernel) (by decide +kernel)
theorem tw_646 : (Jvm.Cond.selects "FileVolume$Disk" ({ cls := "FileVolume$Disk", name := "writeByte", desc := "(II)V" } : Jvm.MethodName) ({ cls := "FileVolume$Disk", name := "writeByte", desc := "(II)V" } : Jvm.MethodName)) ∈ am_tw := am_mem 646 (by decide +kernel) (by decide +kernel)
theorem tw_647 : (Jvm.Cond.code ({ cls := "FileVolume$Disk", name := "writeByte", desc := "(II)V" } : Jvm.MethodName) prog_2_method_8_code (3 : Nat) (Option.none : Option Jvm.ClassFile.FieldType)) ∈ am_tw := am_mem 647 (by decide +kernel) (by decide +kernel)
theorem tw_648 : (Jvm.Cond.methodLink "FileVolume" (145 : Nat) ({ cls := "FileVolume$Table", name := "release", desc := "(I)V" } : Jvm.MethodName)) ∈ am_tw := am_mem 648 (by decide +kernel) (by decide +kernel)
theorem tw_649 : (Jvm.Cond.instanceMethod ({ cls := "FileVolume$Table", name := "release", desc := "(I)V" } : Jvm.MethodName)) ∈ am_tw := am_mem 649 (by decide +kernel) (by decide +kernel)
theorem tw_650 : (Jvm.Cond.selects "FileVolume$Table" ({ cls := "FileVolume$Table", name := "release", desc := "(I)V" } : Jvm.MethodName) ({ cls := "FileVolume$Table", name := "release", desc := "(I)V" } : Jvm.MethodName)) ∈ am_tw := am_mem 650 (by decide +kernel) (by decide +kernel)
theorem tw_651 : (Jvm.Cond.code ({ cls := "FileVolume$Table", name := "release", desc := "(I)V" } : Jvm.MethodName) prog_7_method_10_code (5 : Nat) (Option.none : Option Jvm.ClassFile.FieldType)) ∈ am_tw := am_mem 651 (by decide +kernel) (by decide +kernel)
theorem tw_653 : (Jvm.Cond.methodLink "FileVolumeLaw" (67 : Nat) ({ cls := "FileVolumeLaw", name := "enter", desc := "(LFileVolume;)I" } : Jvm.MethodName)) ∈ am_tw := am_mem 653 (by decide +kernel) (by decide +kernel)
theorem tw_654 : (Jvm.Cond.static ({ cls := "FileVolumeLaw", name := "enter", desc := "(LFileVolume;)I" } : Jvm.MethodName)) ∈ am_tw := am_mem 654 (by decide +kernel) (by decide +kernel)
theorem tw_655 : (Jvm.Cond.codeWith ({ cls := "FileVolumeLaw", name := "enter", desc := "(LFileVolume;)I" } : Jvm.MethodName) method_5_code (2 : Nat) (Option.some Jvm.ClassFile.FieldType.int) [((0 : Nat), (4 : Nat), (7 : Nat), (13 : Nat)), ((0 : Nat), (4 : Nat), (10 : Nat), (22 : Nat))]) ∈ am_tw := am_mem 655 (by decide +kernel) (by decide +kernel)
theorem tw_656 : (Jvm.Cond.methodLink "FileVolumeLaw" (24 : Nat) ({ cls := "FileVolume", name := "enter", desc := "()V" } : Jvm.MethodName)) ∈ am_tw := am_mem 656 (by decide +kernel) (by decide +kernel)
theorem tw_657 : (Jvm.Cond.instanceMethod ({ cls := "FileVolume", name := "enter", desc := "()V" } : Jvm.MethodName)) ∈ am_tw := am_mem 657 (by decide +kernel) (by decide +kernel)
theorem tw_658 : (Jvm.Cond.selects "FileVolume" ({ cls := "FileVolume", name := "enter", desc := "()V" } : Jvm.MethodName) ({ cls := "FileVolume", name := "enter", desc := "()V" } : Jvm.MethodName)) ∈ am_tw := am_mem 658 (by decide +kernel) (by decide +kernel)
theorem tw_659 : (Jvm.Cond.code ({ cls := "FileVolume", name := "enter", desc := "()V" } : Jvm.MethodName) prog_1_method_5_code (2 : Nat) (Option.none : Option Jvm.ClassFile.FieldType)) ∈ am_tw := am_mem 659 (by decide +kernel) (by decide +kernel)
theorem tw_660 : (Jvm.Cond.methodLink "FileVolume" (151 : Nat) ({ cls := "FileVolume$Session", name := "goToRoot", desc := "()V" } : Jvm.MethodName)) ∈ am_tw := am_mem 660 (by decide +kernel) (by decide +kernel)
theorem tw_661 : (Jvm.Cond.instanceMethod ({ cls := "FileVolume$Session", name := "goToRoot", desc := "()V" } : Jvm.MethodName)) ∈ am_tw := am_mem 661 (by decide +kernel) (by decide +kernel)
theorem tw_662 : (Jvm.Cond.selects "FileVolume$Session" ({ cls := "FileVolume$Session", name := "goToRoot", desc := "()V" } : Jvm.MethodName) ({ cls := "FileVolume$Session", name := "goToRoot", desc := "()V" } : Jvm.MethodName)) ∈ am_tw := am_mem 662 (by decide +kernel) (by decide +kernel)
theorem tw_663 : (Jvm.Cond.code ({ cls := "FileVolume$Session", name := "goToRoot", desc := "()V" } : Jvm.MethodName) prog_6_method_3_code (1 : Nat) (Option.none : Option Jvm.ClassFile.FieldType)) ∈ am_tw := am_mem 663 (by decide +kernel) (by decide +kernel)
theorem tw_665 : (Jvm.Cond.methodLink "FileVolume" (156 : Nat) ({ cls := "FileVolume$Session", name := "goDown", desc := "(I)V" } : Jvm.MethodName)) ∈ am_tw := am_mem 665 (by decide +kernel) (by decide +kernel)
theorem tw_666 : (Jvm.Cond.instanceMethod ({ cls := "FileVolume$Session", name := "goDown", desc := "(I)V" } : Jvm.MethodName)) ∈ am_tw := am_mem 666 (by decide +kernel) (by decide +kernel)
theorem tw_667 : (Jvm.Cond.selects "FileVolume$Session" ({ cls := "FileVolume$Session", name := "goDown", desc := "(I)V" } : Jvm.MethodName) ({ cls := "FileVolume$Session", name := "goDown", desc := "(I)V" } : Jvm.MethodName)) ∈ am_tw := am_mem 667 (by decide +kernel) (by decide +kernel)
theorem tw_668 : (Jvm.Cond.code ({ cls := "FileVolume$Session", name := "goDown", desc := "(I)V" } : Jvm.MethodName) prog_6_method_4_code (2 : Nat) (Option.none : Option Jvm.ClassFile.FieldType)) ∈ am_tw := am_mem 668 (by decide +kernel) (by decide +kernel)
theorem tw_669 : (Jvm.Cond.methodLink "FileVolumeLaw" (70 : Nat) ({ cls := "FileVolumeLaw", name := "open", desc := "(LFileVolume;[J)I" } : Jvm.MethodName)) ∈ am_tw := am_mem 669 (by decide +kernel) (by decide +kernel)
theorem tw_670 : (Jvm.Cond.static ({ cls := "FileVolumeLaw", name := "open", desc := "(LFileVolume;[J)I" } : Jvm.MethodName)) ∈ am_tw := am_mem 670 (by decide +kernel) (by decide +kernel)
theorem tw_671 : (Jvm.Cond.codeWith ({ cls := "FileVolumeLaw", name := "open", desc := "(LFileVolume;[J)I" } : Jvm.MethodName) method_6_code (3 : Nat) (Option.some Jvm.ClassFile.FieldType.int) [((0 : Nat), (8 : Nat), (11 : Nat), (13 : Nat)), ((0 : Nat), (8 : Nat), (14 : Nat), (22 : Nat)), ((0 : Nat), (8 : Nat), (17 : Nat), (17 : Nat))]) ∈ am_tw := am_mem 671 (by decide +kernel) (by decide +kernel)
theorem tw_672 : (Jvm.Cond.methodLink "FileVolumeLaw" (27 : Nat) ({ cls := "FileVolume", name := "open", desc := "()I" } : Jvm.MethodName)) ∈ am_tw := am_mem 672 (by decide +kernel) (by decide +kernel)
theorem tw_673 : (Jvm.Cond.instanceMethod ({ cls := "FileVolume", name := "open", desc := "()I" } : Jvm.MethodName)) ∈ am_tw := am_mem 673 (by decide +kernel) (by decide +kernel)
theorem tw_674 : (Jvm.Cond.selects "FileVolume" ({ cls := "FileVolume", name := "open", desc := "()I" } : Jvm.MethodName) ({ cls := "FileVolume", name := "open", desc := "()I" } : Jvm.MethodName)) ∈ am_tw := am_mem 674 (by decide +kernel) (by decide +kernel)
theorem tw_675 : (Jvm.Cond.code ({ cls := "FileVolume", name := "open", desc := "()I" } : Jvm.MethodName) prog_1_method_6_code (3 : Nat) (Option.some Jvm.ClassFile.FieldType.int)) ∈ am_tw := am_mem 675 (by decide +kernel) (by decide +kernel)
theorem tw_677 : (Jvm.Cond.methodLink "FileVolume" (161 : Nat) ({ cls := "FileVolume$Session", name := "leastFreeHandle", desc := "()I" } : Jvm.MethodName)) ∈ am_tw := am_mem 677 (by decide +kernel) (by decide +kernel)
theorem tw_678 : (Jvm.Cond.instanceMethod ({ cls := "FileVolume$Session", name := "leastFreeHandle", desc := "()I" } : Jvm.MethodName)) ∈ am_tw := am_mem 678 (by decide +kernel) (by decide +kernel)
theorem tw_679 : (Jvm.Cond.selects "FileVolume$Session" ({ cls := "FileVolume$Session", name := "leastFreeHandle", desc := "()I" } : Jvm.MethodName) ({ cls := "FileVolume$Session", name := "leastFreeHandle", desc := "()I" } : Jvm.MethodName)) ∈ am_tw := am_mem 679 (by decide +kernel) (by decide +kernel)
theorem tw_680 : (Jvm.Cond.code ({ cls := "FileVolume$Session", name := "leastFreeHandle", desc := "()I" } : Jvm.MethodName) prog_6_method_7_code (2 : Nat) (Option.some Jvm.ClassFile.FieldType.int)) ∈ am_tw := am_mem 680 (by decide +kernel) (by decide +kernel)
theorem tw_682 : (Jvm.Cond.methodLink "FileVolume" (169 : Nat) ({ cls := "FileVolume$Session", name := "hold", desc := "(II)V" } : Jvm.MethodName)) ∈ am_tw := am_mem 682 (by decide +kernel) (by decide +kernel)
theorem tw_683 : (Jvm.Cond.instanceMethod ({ cls := "FileVolume$Session", name := "hold", desc := "(II)V" } : Jvm.MethodName)) ∈ am_tw := am_mem 683 (by decide +kernel) (by decide +kernel)
theorem tw_684 : (Jvm.Cond.selects "FileVolume$Session" ({ cls := "FileVolume$Session", name := "hold", desc := "(II)V" } : Jvm.MethodName) ({ cls := "FileVolume$Session", name := "hold", desc := "(II)V" } : Jvm.MethodName)) ∈ am_tw := am_mem 684 (by decide +kernel) (by decide +kernel)
theorem tw_685 : (Jvm.Cond.code ({ cls := "FileVolume$Session", name := "hold", desc := "(II)V" } : Jvm.MethodName) prog_6_method_9_code (3 : Nat) (Option.none : Option Jvm.ClassFile.FieldType)) ∈ am_tw := am_mem 685 (by decide +kernel) (by decide +kernel)
theorem tw_686 : (Jvm.Cond.methodLink "FileVolumeLaw" (84 : Nat) ({ cls := "FileVolumeLaw", name := "read", desc := "(LFileVolume;II[J)I" } : Jvm.MethodName)) ∈ am_tw := am_mem 686 (by decide +kernel) (by decide +kernel)
theorem tw_687 : (Jvm.Cond.static ({ cls := "FileVolumeLaw", name := "read", desc := "(LFileVolume;II[J)I" } : Jvm.MethodName)) ∈ am_tw := am_mem 687 (by decide +kernel) (by decide +kernel)
theorem tw_688 : (Jvm.Cond.codeWith ({ cls := "FileVolumeLaw", name := "read", desc := "(LFileVolume;II[J)I" } : Jvm.MethodName) method_7_code (5 : Nat) (Option.some Jvm.ClassFile.FieldType.int) [((0 : Nat), (9 : Nat), (12 : Nat), (13 : Nat)), ((0 : Nat), (9 : Nat), (16 : Nat), (15 : Nat))]) ∈ am_tw := am_mem 688 (by decide +kernel) (by decide +kernel)
theorem tw_689 : (Jvm.Cond.methodLink "FileVolumeLaw" (31 : Nat) ({ cls := "FileVolume", name := "read", desc := "(II)J" } : Jvm.MethodName)) ∈ am_tw := am_mem 689 (by decide +kernel) (by decide +kernel)
theorem tw_690 : (Jvm.Cond.instanceMethod ({ cls := "FileVolume", name := "read", desc := "(II)J" } : Jvm.MethodName)) ∈ am_tw := am_mem 690 (by decide +kernel) (by decide +kernel)
theorem tw_691 : (Jvm.Cond.selects "FileVolume" ({ cls := "FileVolume", name := "read", desc := "(II)J" } : Jvm.MethodName) ({ cls := "FileVolume", name := "read", desc := "(II)J" } : Jvm.MethodName)) ∈ am_tw := am_mem 691 (by decide +kernel) (by decide +kernel)
theorem tw_692 : (Jvm.Cond.code ({ cls := "FileVolume", name := "read", desc := "(II)J" } : Jvm.MethodName) prog_1_method_9_code (9 : Nat) (Option.some Jvm.ClassFile.FieldType.long)) ∈ am_tw := am_mem 692 (by decide +kernel) (by decide +kernel)
theorem tw_694 : (Jvm.Cond.methodLink "FileVolume" (196 : Nat) ({ cls := "java/lang/Math", name := "min", desc := "(II)I" } : Jvm.MethodName)) ∈ am_tw := am_mem 694 (by decide +kernel) (by decide +kernel)
theorem tw_695 : (Jvm.Cond.static ({ cls := "java/lang/Math", name := "min", desc := "(II)I" } : Jvm.MethodName)) ∈ am_tw := am_mem 695 (by decide +kernel) (by decide +kernel)
theorem tw_696 : (Jvm.Cond.code ({ cls := "java/lang/Math", name := "min", desc := "(II)I" } : Jvm.MethodName) prog_14_method_69_code (2 : Nat) (Option.some Jvm.ClassFile.FieldType.int)) ∈ am_tw := am_mem 696 (by decide +kernel) (by decide +kernel)
theorem tw_697 : (Jvm.Cond.methodLink "FileVolume" (202 : Nat) ({ cls := "FileVolume", name := "addressInChain", desc := "(II)I" } : Jvm.MethodName)) ∈ am_tw := am_mem 697 (by decide +kernel) (by decide +kernel)
theorem tw_699 : (Jvm.Cond.instanceMethod ({ cls := "FileVolume", name := "addressInChain", desc := "(II)I" } : Jvm.MethodName)) ∈ am_tw := am_mem 699 (by decide +kernel) (by decide +kernel)
theorem tw_700 : (Jvm.Cond.code ({ cls := "FileVolume", name := "addressInChain", desc := "(II)I" } : Jvm.MethodName) prog_1_method_23_code (4 : Nat) (Option.some Jvm.ClassFile.FieldType.int)) ∈ am_tw := am_mem 700 (by decide +kernel) (by decide +kernel)
theorem tw_701 : (Jvm.Cond.methodLink "FileVolume" (337 : Nat) ({ cls := "FileVolume$Table", name := "clusterAt", desc := "(II)I" } : Jvm.MethodName)) ∈ am_tw := am_mem 701 (by decide +kernel) (by decide +kernel)
theorem tw_702 : (Jvm.Cond.instanceMethod ({ cls := "FileVolume$Table", name := "clusterAt", desc := "(II)I" } : Jvm.MethodName)) ∈ am_tw := am_mem 702 (by decide +kernel) (by decide +kernel)
theorem tw_703 : (Jvm.Cond.selects "FileVolume$Table" ({ cls := "FileVolume$Table", name := "clusterAt", desc := "(II)I" } : Jvm.MethodName) ({ cls := "FileVolume$Table", name := "clusterAt", desc := "(II)I" } : Jvm.MethodName)) ∈ am_tw := am_mem 703 (by decide +kernel) (by decide +kernel)
theorem tw_704 : (Jvm.Cond.code ({ cls := "FileVolume$Table", name := "clusterAt", desc := "(II)I" } : Jvm.MethodName) prog_7_method_12_code (5 : Nat) (Option.some Jvm.ClassFile.FieldType.int)) ∈ am_tw := am_mem 704 (by decide +kernel) (by decide +kernel)
theorem tw_705 : (Jvm.Cond.methodLink "FileVolume" (340 : Nat) ({ cls := "FileVolume", name := "sectorOf", desc := "(I)I" } : Jvm.MethodName)) ∈ am_tw := am_mem 705 (by decide +kernel) (by decide +kernel)
theorem tw_706 : (Jvm.Cond.methodLink "FileVolumeLaw" (90 : Nat) ({ cls := "FileVolumeLaw", name := "write", desc := "(LFileVolume;IJI[J)I" } : Jvm.MethodName)) ∈ am_tw := am_mem 706 (by decide +kernel) (by decide +kernel)
theorem tw_707 : (Jvm.Cond.static ({ cls := "FileVolumeLaw", name := "write", desc := "(LFileVolume;IJI[J)I" } : Jvm.MethodName)) ∈ am_tw := am_mem 707 (by decide +kernel) (by decide +kernel)
theorem tw_708 : (Jvm.Cond.codeWith ({ cls := "FileVolumeLaw", name := "write", desc := "(LFileVolume;IJI[J)I" } : Jvm.MethodName) method_8_code (7 : Nat) (Option.some Jvm.ClassFile.FieldType.int) [((0 : Nat), (13 : Nat), (16 : Nat), (13 : Nat)), ((0 : Nat), (13 : Nat), (20 : Nat), (15 : Nat)), ((0 : Nat), (13 : Nat), (24 : Nat), (17 : Nat))]) ∈ am_tw := am_mem 708 (by decide +kernel) (by decide +kernel)
theorem tw_709 : (Jvm.Cond.methodLink "FileVolumeLaw" (35 : Nat) ({ cls := "FileVolume", name := "write", desc := "(IJI)I" } : Jvm.MethodName)) ∈ am_tw := am_mem 709 (by decide +kernel) (by decide +kernel)
theorem tw_710 : (Jvm.Cond.instanceMethod ({ cls := "FileVolume", name := "write", desc := "(IJI)I" } : Jvm.MethodName)) ∈ am_tw := am_mem 710 (by decide +kernel) (by decide +kernel)
theorem tw_711 : (Jvm.Cond.selects "FileVolume" ({ cls := "FileVolume", name := "write", desc := "(IJI)I" } : Jvm.MethodName) ({ cls := "FileVolume", name := "write", desc := "(IJI)I" } : Jvm.MethodName)) ∈ am_tw := am_mem 711 (by decide +kernel) (by decide +kernel)
theorem tw_712 : (Jvm.Cond.code ({ cls := "FileVolume", name := "write", desc := "(IJI)I" } : Jvm.MethodName) prog_1_method_10_code (8 : Nat) (Option.some Jvm.ClassFile.FieldType.int)) ∈ am_tw := am_mem 712 (by decide +kernel) (by decide +kernel)
theorem tw_715 : (Jvm.Cond.methodLink "FileVolume" (212 : Nat) ({ cls := "FileVolume", name := "roomAfterGrowing", desc := "(II)I" } : Jvm.MethodName)) ∈ am_tw := am_mem 715 (by decide +kernel) (by decide +kernel)
theorem tw_717 : (Jvm.Cond.instanceMethod ({ cls := "FileVolume", name := "roomAfterGrowing", desc := "(II)I" } : Jvm.MethodName)) ∈ am_tw := am_mem 717 (by decide +kernel) (by decide +kernel)
theorem tw_718 : (Jvm.Cond.code ({ cls := "FileVolume", name := "roomAfterGrowing", desc := "(II)I" } : Jvm.MethodName) prog_1_method_24_code (7 : Nat) (Option.some Jvm.ClassFile.FieldType.int)) ∈ am_tw := am_mem 718 (by decide +kernel) (by decide +kernel)
theorem tw_719 : (Jvm.Cond.methodLink "FileVolume" (343 : Nat) ({ cls := "FileVolume$Table", name := "lengthOf", desc := "(I)I" } : Jvm.MethodName)) ∈ am_tw := am_mem 719 (by decide +kernel) (by decide +kernel)
theorem tw_720 : (Jvm.Cond.instanceMethod ({ cls := "FileVolume$Table", name := "lengthOf", desc := "(I)I" } : Jvm.MethodName)) ∈ am_tw := am_mem 720 (by decide +kernel) (by decide +kernel)
theorem tw_721 : (Jvm.Cond.selects "FileVolume$Table" ({ cls := "FileVolume$Table", name := "lengthOf", desc := "(I)I" } : Jvm.MethodName) ({ cls := "FileVolume$Table", name := "lengthOf", desc := "(I)I" } : Jvm.MethodName)) ∈ am_tw := am_mem 721 (by decide +kernel) (by decide +kernel)
theorem tw_722 : (Jvm.Cond.code ({ cls := "FileVolume$Table", name := "lengthOf", desc := "(I)I" } : Jvm.MethodName) prog_7_method_11_code (4 : Nat) (Option.some Jvm.ClassFile.FieldType.int)) ∈ am_tw := am_mem 722 (by decide +kernel) (by decide +kernel)
theorem tw_723 : (Jvm.Cond.methodLink "FileVolume" (222 : Nat) ({ cls := "FileVolume$Disk", name := "writePair", desc := "(II)V" } : Jvm.MethodName)) ∈ am_tw := am_mem 723 (by decide +kernel) (by decide +kernel)
theorem tw_724 : (Jvm.Cond.methodLink "FileVolume" (215 : Nat) ({ cls := "FileVolume", name := "spread", desc := "(JI)V" } : Jvm.MethodName)) ∈ am_tw := am_mem 724 (by decide +kernel) (by decide +kernel)
theorem tw_726 : (Jvm.Cond.instanceMethod ({ cls := "FileVolume", name := "spread", desc := "(JI)V" } : Jvm.MethodName)) ∈ am_tw := am_mem 726 (by decide +kernel) (by decide +kernel)
theorem tw_727 : (Jvm.Cond.code ({ cls := "FileVolume", name := "spread", desc := "(JI)V" } : Jvm.MethodName) prog_1_method_25_code (5 : Nat) (Option.none : Option Jvm.ClassFile.FieldType)) ∈ am_tw := am_mem 727 (by decide +kernel) (by decide +kernel)
theorem tw_728 : (Jvm.Cond.methodLink "FileVolume" (219 : Nat) ({ cls := "FileVolume", name := "writeData", desc := "(III)V" } : Jvm.MethodName)) ∈ am_tw := am_mem 728 (by decide +kernel) (by decide +kernel)
theorem tw_730 : (Jvm.Cond.instanceMethod ({ cls := "FileVolume", name := "writeData", desc := "(III)V" } : Jvm.MethodName)) ∈ am_tw := am_mem 730 (by decide +kernel) (by decide +kernel)
theorem tw_731 : (Jvm.Cond.code ({ cls := "FileVolume", name := "writeData", desc := "(III)V" } : Jvm.MethodName) prog_1_method_26_code (8 : Nat) (Option.none : Option Jvm.ClassFile.FieldType)) ∈ am_tw := am_mem 731 (by decide +kernel) (by decide +kernel)
theorem tw_732 : (Jvm.Cond.methodLink "FileVolumeLaw" (94 : Nat) ({ cls := "FileVolumeLaw", name := "list", desc := "(LFileVolume;II[J)I" } : Jvm.MethodName)) ∈ am_tw := am_mem 732 (by decide +kernel) (by decide +kernel)
theorem tw_733 : (Jvm.Cond.static ({ cls := "FileVolumeLaw", name := "list", desc := "(LFileVolume;II[J)I" } : Jvm.MethodName)) ∈ am_tw := am_mem 733 (by decide +kernel) (by decide +kernel)
theorem tw_734 : (Jvm.Cond.codeWith ({ cls := "FileVolumeLaw", name := "list", desc := "(LFileVolume;II[J)I" } : Jvm.MethodName) method_9_code (5 : Nat) (Option.some Jvm.ClassFile.FieldType.int) [((0 : Nat), (10 : Nat), (13 : Nat), (13 : Nat)), ((0 : Nat), (10 : Nat), (17 : Nat), (22 : Nat)), ((0 : Nat), (10 : Nat), (21 : Nat), (43 : Nat))]) ∈ am_tw := am_mem 734 (by decide +kernel) (by decide +kernel)
theorem tw_735 : (Jvm.Cond.classLink "FileVolumeLaw" (43 : Nat) "java/lang/IndexOutOfBoundsException") ∈ am_tw := am_mem 735 (by decide +kernel) (by decide +kernel)
theorem tw_736 : (Jvm.Cond.methodLink "FileVolumeLaw" (39 : Nat) ({ cls := "FileVolume", name := "list", desc := "(II)I" } : Jvm.MethodName)) ∈ am_tw := am_mem 736 (by decide +kernel) (by decide +kernel)
theorem tw_737 : (Jvm.Cond.instanceMethod ({ cls := "FileVolume", name := "list", desc := "(II)I" } : Jvm.MethodName)) ∈ am_tw := am_mem 737 (by decide +kernel) (by decide +kernel)
theorem tw_738 : (Jvm.Cond.selects "FileVolume" ({ cls := "FileVolume", name := "list", desc := "(II)I" } : Jvm.MethodName) ({ cls := "FileVolume", name := "list", desc := "(II)I" } : Jvm.MethodName)) ∈ am_tw := am_mem 738 (by decide +kernel) (by decide +kernel)
theorem tw_739 : (Jvm.Cond.code ({ cls := "FileVolume", name := "list", desc := "(II)I" } : Jvm.MethodName) prog_1_method_11_code (4 : Nat) (Option.some Jvm.ClassFile.FieldType.int)) ∈ am_tw := am_mem 739 (by decide +kernel) (by decide +kernel)
theorem tw_740 : (Jvm.Cond.methodLink "FileVolume" (225 : Nat) ({ cls := "FileVolume$Folder", name := "indexOfNamed", desc := "(I)I" } : Jvm.MethodName)) ∈ am_tw := am_mem 740 (by decide +kernel) (by decide +kernel)
theorem tw_741 : (Jvm.Cond.instanceMethod ({ cls := "FileVolume$Folder", name := "indexOfNamed", desc := "(I)I" } : Jvm.MethodName)) ∈ am_tw := am_mem 741 (by decide +kernel) (by decide +kernel)
theorem tw_742 : (Jvm.Cond.selects "FileVolume$Folder" ({ cls := "FileVolume$Folder", name := "indexOfNamed", desc := "(I)I" } : Jvm.MethodName) ({ cls := "FileVolume$Folder", name := "indexOfNamed", desc := "(I)I" } : Jvm.MethodName)) ∈ am_tw := am_mem 742 (by decide +kernel) (by decide +kernel)
theorem tw_743 : (Jvm.Cond.code ({ cls := "FileVolume$Folder", name := "indexOfNamed", desc := "(I)I" } : Jvm.MethodName) prog_3_method_13_code (4 : Nat) (Option.some Jvm.ClassFile.FieldType.int)) ∈ am_tw := am_mem 743 (by decide +kernel) (by decide +kernel)
theorem tw_745 : (Jvm.Cond.methodLink "FileVolume" (230 : Nat) ({ cls := "FileVolume", name := "canBeListed", desc := "(I)Z" } : Jvm.MethodName)) ∈ am_tw := am_mem 745 (by decide +kernel) (by decide +kernel)
theorem tw_746 : (Jvm.Cond.static ({ cls := "FileVolume", name := "canBeListed", desc := "(I)Z" } : Jvm.MethodName)) ∈ am_tw := am_mem 746 (by decide +kernel) (by decide +kernel)
theorem tw_747 : (Jvm.Cond.code ({ cls := "FileVolume", name := "canBeListed", desc := "(I)Z" } : Jvm.MethodName) prog_1_method_27_code (1 : Nat) (Option.some Jvm.ClassFile.FieldType.boolean)) ∈ am_tw := am_mem 747 (by decide +kernel) (by decide +kernel)
theorem tw_748 : (Jvm.Cond.classLink "FileVolume" (233 : Nat) "java/lang/IndexOutOfBoundsException") ∈ am_tw := am_mem 748 (by decide +kernel) (by decide +kernel)
theorem tw_764 : (Jvm.Cond.methodLink "FileVolume" (241 : Nat) ({ cls := "FileVolume$Folder", name := "sizeOf", desc := "(I)I" } : Jvm.MethodName)) ∈ am_tw := am_mem 764 (by decide +kernel) (by decide +kernel)
theorem tw_765 : (Jvm.Cond.instanceMethod ({ cls := "FileVolume$Folder", name := "sizeOf", desc := "(I)I" } : Jvm.MethodName)) ∈ am_tw := am_mem 765 (by decide +kernel) (by decide +kernel)
theorem tw_766 : (Jvm.Cond.selects "FileVolume$Folder" ({ cls := "FileVolume$Folder", name := "sizeOf", desc := "(I)I" } : Jvm.MethodName) ({ cls := "FileVolume$Folder", name := "sizeOf", desc := "(I)I" } : Jvm.MethodName)) ∈ am_tw := am_mem 766 (by decide +kernel) (by decide +kernel)
theorem tw_767 : (Jvm.Cond.code ({ cls := "FileVolume$Folder", name := "sizeOf", desc := "(I)I" } : Jvm.MethodName) prog_3_method_9_code (2 : Nat) (Option.some Jvm.ClassFile.FieldType.int)) ∈ am_tw := am_mem 767 (by decide +kernel) (by decide +kernel)
theorem tw_768 : (Jvm.Cond.methodLink "FileVolume" (244 : Nat) ({ cls := "FileVolume$Folder", name := "partsOf", desc := "(I)I" } : Jvm.MethodName)) ∈ am_tw := am_mem 768 (by decide +kernel) (by decide +kernel)
theorem tw_769 : (Jvm.Cond.methodLink "FileVolume" (247 : Nat) ({ cls := "FileVolume$Folder", name := "longLengthOf", desc := "(II)I" } : Jvm.MethodName)) ∈ am_tw := am_mem 769 (by decide +kernel) (by decide +kernel)
theorem tw_770 : (Jvm.Cond.methodLink "FileVolume" (250 : Nat) ({ cls := "FileVolume$Folder", name := "shortCharOf", desc := "(II)I" } : Jvm.MethodName)) ∈ am_tw := am_mem 770 (by decide +kernel) (by decide +kernel)
theorem tw_771 : (Jvm.Cond.instanceMethod ({ cls := "FileVolume$Folder", name := "shortCharOf", desc := "(II)I" } : Jvm.MethodName)) ∈ am_tw := am_mem 771 (by decide +kernel) (by decide +kernel)
theorem tw_772 : (Jvm.Cond.selects "FileVolume$Folder" ({ cls := "FileVolume$Folder", name := "shortCharOf", desc := "(II)I" } : Jvm.MethodName) ({ cls := "FileVolume$Folder", name := "shortCharOf", desc := "(II)I" } : Jvm.MethodName)) ∈ am_tw := am_mem 772 (by decide +kernel) (by decide +kernel)
theorem tw_773 : (Jvm.Cond.code ({ cls := "FileVolume$Folder", name := "shortCharOf", desc := "(II)I" } : Jvm.MethodName) prog_3_method_21_code (3 : Nat) (Option.some Jvm.ClassFile.FieldType.int)) ∈ am_tw := am_mem 773 (by decide +kernel) (by decide +kernel)
theorem tw_774 : (Jvm.Cond.methodLink "FileVolume" (253 : Nat) ({ cls := "FileVolume$Folder", name := "longCharOf", desc := "(II)I" } : Jvm.MethodName)) ∈ am_tw := am_mem 774 (by decide +kernel) (by decide +kernel)
theorem tw_775 : (Jvm.Cond.instanceMethod ({ cls := "FileVolume$Folder", name := "longCharOf", desc := "(II)I" } : Jvm.MethodName)) ∈ am_tw := am_mem 775 (by decide +kernel) (by decide +kernel)
theorem tw_776 : (Jvm.Cond.selects "FileVolume$Folder" ({ cls := "FileVolume$Folder", name := "longCharOf", desc := "(II)I" } : Jvm.MethodName) ({ cls := "FileVolume$Folder", name := "longCharOf", desc := "(II)I" } : Jvm.MethodName)) ∈ am_tw := am_mem 776 (by decide +kernel) (by decide +kernel)
theorem tw_777 : (Jvm.Cond.code ({ cls := "FileVolume$Folder", name := "longCharOf", desc := "(II)I" } : Jvm.MethodName) prog_3_method_28_code (3 : Nat) (Option.some Jvm.ClassFile.FieldType.int)) ∈ am_tw := am_mem 777 (by decide +kernel) (by decide +kernel)
theorem tw_778 : (Jvm.Cond.methodLink "FileVolumeLaw" (106 : Nat) ({ cls := "FileVolumeLaw", name := "repair", desc := "(LFileVolume;[J)I" } : Jvm.MethodName)) ∈ am_tw := am_mem 778 (by decide +kernel) (by decide +kernel)
theorem tw_779 : (Jvm.Cond.static ({ cls := "FileVolumeLaw", name := "repair", desc := "(LFileVolume;[J)I" } : Jvm.MethodName)) ∈ am_tw := am_mem 779 (by decide +kernel) (by decide +kernel)
theorem tw_780 : (Jvm.Cond.codeWith ({ cls := "FileVolumeLaw", name := "repair", desc := "(LFileVolume;[J)I" } : Jvm.MethodName) method_10_code (3 : Nat) (Option.some Jvm.ClassFile.FieldType.int) [((0 : Nat), (8 : Nat), (11 : Nat), (13 : Nat))]) ∈ am_tw := am_mem 780 (by decide +kernel) (by decide +kernel)
theorem tw_781 : (Jvm.Cond.methodLink "FileVolumeLaw" (45 : Nat) ({ cls := "FileVolume", name := "repair", desc := "()I" } : Jvm.MethodName)) ∈ am_tw := am_mem 781 (by decide +kernel) (by decide +kernel)
theorem tw_782 : (Jvm.Cond.instanceMethod ({ cls := "FileVolume", name := "repair", desc := "()I" } : Jvm.MethodName)) ∈ am_tw := am_mem 782 (by decide +kernel) (by decide +kernel)
theorem tw_783 : (Jvm.Cond.selects "FileVolume" ({ cls := "FileVolume", name := "repair", desc := "()I" } : Jvm.MethodName) ({ cls := "FileVolume", name := "repair", desc := "()I" } : Jvm.MethodName)) ∈ am_tw := am_mem 783 (by decide +kernel) (by decide +kernel)
theorem tw_784 : (Jvm.Cond.code ({ cls := "FileVolume", name := "repair", desc := "()I" } : Jvm.MethodName) prog_1_method_14_code (1 : Nat) (Option.some Jvm.ClassFile.FieldType.int)) ∈ am_tw := am_mem 784 (by decide +kernel) (by decide +kernel)
theorem tw_786 : (Jvm.Cond.methodLink "FileVolume" (274 : Nat) ({ cls := "FileVolume$Repairer", name := "mendTables", desc := "()V" } : Jvm.MethodName)) ∈ am_tw := am_mem 786 (by decide +kernel) (by decide +kernel)
theorem tw_787 : (Jvm.Cond.instanceMethod ({ cls := "FileVolume$Repairer", name := "mendTables", desc := "()V" } : Jvm.MethodName)) ∈ am_tw := am_mem 787 (by decide +kernel) (by decide +kernel)
theorem tw_788 : (Jvm.Cond.selects "FileVolume$Repairer" ({ cls := "FileVolume$Repairer", name := "mendTables", desc := "()V" } : Jvm.MethodName) ({ cls := "FileVolume$Repairer", name := "mendTables", desc := "()V" } : Jvm.MethodName)) ∈ am_tw := am_mem 788 (by decide +kernel) (by decide +kernel)
theorem tw_789 : (Jvm.Cond.code ({ cls := "FileVolume$Repairer", name := "mendTables", desc := "()V" } : Jvm.MethodName) prog_5_method_2_code (2 : Nat) (Option.none : Option Jvm.ClassFile.FieldType)) ∈ am_tw := am_mem 789 (by decide +kernel) (by decide +kernel)
theorem tw_790 : (Jvm.Cond.methodLink "FileVolume$Repairer" (31 : Nat) ({ cls := "FileVolume$Table", name := "secondCell", desc := "(I)I" } : Jvm.MethodName)) ∈ am_tw := am_mem 790 (by decide +kernel) (by decide +kernel)
theorem tw_791 : (Jvm.Cond.instanceMethod ({ cls := "FileVolume$Table", name := "secondCell", desc := "(I)I" } : Jvm.MethodName)) ∈ am_tw := am_mem 791 (by decide +kernel) (by decide +kernel)
theorem tw_792 : (Jvm.Cond.selects "FileVolume$Table" ({ cls := "FileVolume$Table", name := "secondCell", desc := "(I)I" } : Jvm.MethodName) ({ cls := "FileVolume$Table", name := "secondCell", desc := "(I)I" } : Jvm.MethodName)) ∈ am_tw := am_mem 792 (by decide +kernel) (by decide +kernel)
theorem tw_793 : (Jvm.Cond.code ({ cls := "FileVolume$Table", name := "secondCell", desc := "(I)I" } : Jvm.MethodName) prog_7_method_3_code (2 : Nat) (Option.some Jvm.ClassFile.FieldType.int)) ∈ am_tw := am_mem 793 (by decide +kernel) (by decide +kernel)
theorem tw_794 : (Jvm.Cond.methodLink "FileVolume$Repairer" (37 : Nat) ({ cls := "FileVolume$Table", name := "cell", desc := "(I)I" } : Jvm.MethodName)) ∈ am_tw := am_mem 794 (by decide +kernel) (by decide +kernel)
theorem tw_795 : (Jvm.Cond.methodLink "FileVolume$Repairer" (40 : Nat) ({ cls := "FileVolume$Table", name := "setSecond", desc := "(II)V" } : Jvm.MethodName)) ∈ am_tw := am_mem 795 (by decide +kernel) (by decide +kernel)
theorem tw_796 : (Jvm.Cond.instanceMethod ({ cls := "FileVolume$Table", name := "setSecond", desc := "(II)V" } : Jvm.MethodName)) ∈ am_tw := am_mem 796 (by decide +kernel) (by decide +kernel)
theorem tw_797 : (Jvm.Cond.selects "FileVolume$Table" ({ cls := "FileVolume$Table", name := "setSecond", desc := "(II)V" } : Jvm.MethodName) ({ cls := "FileVolume$Table", name := "setSecond", desc := "(II)V" } : Jvm.MethodName)) ∈ am_tw := am_mem 797 (by decide +kernel) (by decide +kernel)
theorem tw_798 : (Jvm.Cond.code ({ cls := "FileVolume$Table", name := "setSecond", desc := "(II)V" } : Jvm.MethodName) prog_7_method_5_code (3 : Nat) (Option.none : Option Jvm.ClassFile.FieldType)) ∈ am_tw := am_mem 798 (by decide +kernel) (by decide +kernel)
theorem tw_799 : (Jvm.Cond.methodLink "FileVolume$Repairer" (44 : Nat) ({ cls := "FileVolume$Repairer", name := "isBad", desc := "(I)Z" } : Jvm.MethodName)) ∈ am_tw := am_mem 799 (by decide +kernel) (by decide +kernel)
theorem tw_800 : (Jvm.Cond.instanceMethod ({ cls := "FileVolume$Repairer", name := "isBad", desc := "(I)Z" } : Jvm.MethodName)) ∈ am_tw := am_mem 800 (by decide +kernel) (by decide +kernel)
theorem tw_801 : (Jvm.Cond.selects "FileVolume$Repairer" ({ cls := "FileVolume$Repairer", name := "isBad", desc := "(I)Z" } : Jvm.MethodName) ({ cls := "FileVolume$Repairer", name := "isBad", desc := "(I)Z" } : Jvm.MethodName)) ∈ am_tw := am_mem 801 (by decide +kernel) (by decide +kernel)
theorem tw_802 : (Jvm.Cond.code ({ cls := "FileVolume$Repairer", name := "isBad", desc := "(I)Z" } : Jvm.MethodName) prog_5_method_3_code (4 : Nat) (Option.some Jvm.ClassFile.FieldType.boolean)) ∈ am_tw := am_mem 802 (by decide +kernel) (by decide +kernel)
theorem tw_804 : (Jvm.Cond.constant "FileVolume$Repairer" (48 : Nat) (65535 : Int32)) ∈ am_tw := am_mem 804 (by decide +kernel) (by decide +kernel)
theorem tw_805 : (Jvm.Cond.methodLink "FileVolume$Repairer" (49 : Nat) ({ cls := "FileVolume$Table", name := "set", desc := "(II)V" } : Jvm.MethodName)) ∈ am_tw := am_mem 805 (by decide +kernel) (by decide +kernel)
theorem tw_806 : (Jvm.Cond.methodLink "FileVolume" (277 : Nat) ({ cls := "FileVolume$Repairer", name := "mendRoot", desc := "()V" } : Jvm.MethodName)) ∈ am_tw := am_mem 806 (by decide +kernel) (by decide +kernel)
theorem tw_807 : (Jvm.Cond.instanceMethod ({ cls := "FileVolume$Repairer", name := "mendRoot", desc := "()V" } : Jvm.MethodName)) ∈ am_tw := am_mem 807 (by decide +kernel) (by decide +kernel)
theorem tw_808 : (Jvm.Cond.selects "FileVolume$Repairer" ({ cls := "FileVolume$Repairer", name := "mendRoot", desc := "()V" } : Jvm.MethodName) ({ cls := "FileVolume$Repairer", name := "mendRoot", desc := "()V" } : Jvm.MethodName)) ∈ am_tw := am_mem 808 (by decide +kernel) (by decide +kernel)
theorem tw_809 : (Jvm.Cond.code ({ cls := "FileVolume$Repairer", name := "mendRoot", desc := "()V" } : Jvm.MethodName) prog_5_method_4_code (1 : Nat) (Option.none : Option Jvm.ClassFile.FieldType)) ∈ am_tw := am_mem 809 (by decide +kernel) (by decide +kernel)
theorem tw_810 : (Jvm.Cond.methodLink "FileVolume$Repairer" (55 : Nat) ({ cls := "FileVolume$Table", name := "isFree", desc := "(I)Z" } : Jvm.MethodName)) ∈ am_tw := am_mem 810 (by decide +kernel) (by decide +kernel)
theorem tw_811 : (Jvm.Cond.methodLink "FileVolume$Repairer" (58 : Nat) ({ cls := "FileVolume$Repairer", name := "follow", desc := "(I)I" } : Jvm.MethodName)) ∈ am_tw := am_mem 811 (by decide +kernel) (by decide +kernel)
theorem tw_812 : (Jvm.Cond.instanceMethod ({ cls := "FileVolume$Repairer", name := "follow", desc := "(I)I" } : Jvm.MethodName)) ∈ am_tw := am_mem 812 (by decide +kernel) (by decide +kernel)
theorem tw_813 : (Jvm.Cond.selects "FileVolume$Repairer" ({ cls := "FileVolume$Repairer", name := "follow", desc := "(I)I" } : Jvm.MethodName) ({ cls := "FileVolume$Repairer", name := "follow", desc := "(I)I" } : Jvm.MethodName)) ∈ am_tw := am_mem 813 (by decide +kernel) (by decide +kernel)
theorem tw_814 : (Jvm.Cond.code ({ cls := "FileVolume$Repairer", name := "follow", desc := "(I)I" } : Jvm.MethodName) prog_5_method_8_code (5 : Nat) (Option.some Jvm.ClassFile.FieldType.int)) ∈ am_tw := am_mem 814 (by decide +kernel) (by decide +kernel)
theorem tw_817 : (Jvm.Cond.instanceMethod ({ cls := "FileVolume$Repairer", name := "goThrough", desc := "(II)V" } : Jvm.MethodName)) ∈ am_tw := am_mem 817 (by decide +kernel) (by decide +kernel)
theorem tw_818 : (Jvm.Cond.code ({ cls := "FileVolume$Repairer", name := "goThrough", desc := "(II)V" } : Jvm.MethodName) prog_5_method_5_code (6 : Nat) (Option.none : Option Jvm.ClassFile.FieldType)) ∈ am_tw := am_mem 818 (by decide +kernel) (by decide +kernel)
theorem tw_819 : (Jvm.Cond.methodLink "FileVolume$Repairer" (61 : Nat) ({ cls := "FileVolume$Folder", name := "load", desc := "(I)V" } : Jvm.MethodName)) ∈ am_tw := am_mem 819 (by decide +kernel) (by decide +kernel)
theorem tw_820 : (Jvm.Cond.methodLink "FileVolume$Repairer" (70 : Nat) ({ cls := "FileVolume$Repairer", name := "visit", desc := "(II)I" } : Jvm.MethodName)) ∈ am_tw := am_mem 820 (by decide +kernel) (by decide +kernel)
theorem tw_821 : (Jvm.Cond.instanceMethod ({ cls := "FileVolume$Repairer", name := "visit", desc := "(II)I" } : Jvm.MethodName)) ∈ am_tw := am_mem 821 (by decide +kernel) (by decide +kernel)
theorem tw_822 : (Jvm.Cond.selects "FileVolume$Repairer" ({ cls := "FileVolume$Repairer", name := "visit", desc := "(II)I" } : Jvm.MethodName) ({ cls := "FileVolume$Repairer", name := "visit", desc := "(II)I" } : Jvm.MethodName)) ∈ am_tw := am_mem 822 (by decide +kernel) (by decide +kernel)
theorem tw_823 : (Jvm.Cond.code ({ cls := "FileVolume$Repairer", name := "visit", desc := "(II)I" } : Jvm.MethodName) prog_5_method_6_code (5 : Nat) (Option.some Jvm.ClassFile.FieldType.int)) ∈ am_tw := am_mem 823 (by decide +kernel) (by decide +kernel)
theorem tw_824 : (Jvm.Cond.methodLink "FileVolume$Repairer" (77 : Nat) ({ cls := "FileVolume$Folder", name := "isFree", desc := "(I)Z" } : Jvm.MethodName)) ∈ am_tw := am_mem 824 (by decide +kernel) (by decide +kernel)
theorem tw_825 : (Jvm.Cond.methodLink "FileVolume$Repairer" (78 : Nat) ({ cls := "FileVolume$Folder", name := "isTellingPart", desc := "(I)Z" } : Jvm.MethodName)) ∈ am_tw := am_mem 825 (by decide +kernel) (by decide +kernel)
theorem tw_826 : (Jvm.Cond.instanceMethod ({ cls := "FileVolume$Folder", name := "isTellingPart", desc := "(I)Z" } : Jvm.MethodName)) ∈ am_tw := am_mem 826 (by decide +kernel) (by decide +kernel)
theorem tw_827 : (Jvm.Cond.selects "FileVolume$Folder" ({ cls := "FileVolume$Folder", name := "isTellingPart", desc := "(I)Z" } : Jvm.MethodName) ({ cls := "FileVolume$Folder", name := "isTellingPart", desc := "(I)Z" } : Jvm.MethodName)) ∈ am_tw := am_mem 827 (by decide +kernel) (by decide +kernel)
theorem tw_828 : (Jvm.Cond.code ({ cls := "FileVolume$Folder", name := "isTellingPart", desc := "(I)Z" } : Jvm.MethodName) prog_3_method_25_code (2 : Nat) (Option.some Jvm.ClassFile.FieldType.boolean)) ∈ am_tw := am_mem 828 (by decide +kernel) (by decide +kernel)
theorem tw_829 : (Jvm.Cond.methodLink "FileVolume$Repairer" (81 : Nat) ({ cls := "FileVolume$Repairer", name := "isHopeless", desc := "(II)Z" } : Jvm.MethodName)) ∈ am_tw := am_mem 829 (by decide +kernel) (by decide +kernel)
theorem tw_830 : (Jvm.Cond.instanceMethod ({ cls := "FileVolume$Repairer", name := "isHopeless", desc := "(II)Z" } : Jvm.MethodName)) ∈ am_tw := am_mem 830 (by decide +kernel) (by decide +kernel)
theorem tw_831 : (Jvm.Cond.selects "FileVolume$Repairer" ({ cls := "FileVolume$Repairer", name := "isHopeless", desc := "(II)Z" } : Jvm.MethodName) ({ cls := "FileVolume$Repairer", name := "isHopeless", desc := "(II)Z" } : Jvm.MethodName)) ∈ am_tw := am_mem 831 (by decide +kernel) (by decide +kernel)
theorem tw_832 : (Jvm.Cond.code ({ cls := "FileVolume$Repairer", name := "isHopeless", desc := "(II)Z" } : Jvm.MethodName) prog_5_method_7_code (5 : Nat) (Option.some Jvm.ClassFile.FieldType.boolean)) ∈ am_tw := am_mem 832 (by decide +kernel) (by decide +kernel)
theorem tw_833 : (Jvm.Cond.methodLink "FileVolume$Repairer" (97 : Nat) ({ cls := "FileVolume$Folder", name := "isNamed", desc := "(I)Z" } : Jvm.MethodName)) ∈ am_tw := am_mem 833 (by decide +kernel) (by decide +kernel)
theorem tw_834 : (Jvm.Cond.methodLink "FileVolume$Repairer" (91 : Nat) ({ cls := "FileVolume$Folder", name := "kindOf", desc := "(I)I" } : Jvm.MethodName)) ∈ am_tw := am_mem 834 (by decide +kernel) (by decide +kernel)
theorem tw_835 : (Jvm.Cond.methodLink "FileVolume$Repairer" (88 : Nat) ({ cls := "FileVolume$Folder", name := "firstClusterOf", desc := "(I)I" } : Jvm.MethodName)) ∈ am_tw := am_mem 835 (by decide +kernel) (by decide +kernel)
theorem tw_836 : (Jvm.Cond.methodLink "FileVolume$Repairer" (85 : Nat) ({ cls := "FileVolume$Folder", name := "markFreed", desc := "(I)V" } : Jvm.MethodName)) ∈ am_tw := am_mem 836 (by decide +kernel) (by decide +kernel)
theorem tw_837 : (Jvm.Cond.methodLink "FileVolume$Repairer" (94 : Nat) ({ cls := "FileVolume$Repairer", name := "mendFile", desc := "(II)V" } : Jvm.MethodName)) ∈ am_tw := am_mem 837 (by decide +kernel) (by decide +kernel)
theorem tw_838 : (Jvm.Cond.instanceMethod ({ cls := "FileVolume$Repairer", name := "mendFile", desc := "(II)V" } : Jvm.MethodName)) ∈ am_tw := am_mem 838 (by decide +kernel) (by decide +kernel)
theorem tw_839 : (Jvm.Cond.selects "FileVolume$Repairer" ({ cls := "FileVolume$Repairer", name := "mendFile", desc := "(II)V" } : Jvm.MethodName) ({ cls := "FileVolume$Repairer", name := "mendFile", desc := "(II)V" } : Jvm.MethodName)) ∈ am_tw := am_mem 839 (by decide +kernel) (by decide +kernel)
theorem tw_840 : (Jvm.Cond.code ({ cls := "FileVolume$Repairer", name := "mendFile", desc := "(II)V" } : Jvm.MethodName) prog_5_method_9_code (7 : Nat) (Option.none : Option Jvm.ClassFile.FieldType)) ∈ am_tw := am_mem 840 (by decide +kernel) (by decide +kernel)
theorem tw_841 : (Jvm.Cond.methodLink "FileVolume$Repairer" (100 : Nat) ({ cls := "FileVolume$Folder", name := "addressOf", desc := "(I)I" } : Jvm.MethodName)) ∈ am_tw := am_mem 841 (by decide +kernel) (by decide +kernel)
theorem tw_842 : (Jvm.Cond.methodLink "FileVolume$Repairer" (103 : Nat) ({ cls := "FileVolume$Folder", name := "sizeOf", desc := "(I)I" } : Jvm.MethodName)) ∈ am_tw := am_mem 842 (by decide +kernel) (by decide +kernel)
theorem tw_843 : (Jvm.Cond.methodLink "FileVolume$Repairer" (106 : Nat) ({ cls := "FileVolume$Disk", name := "writePair", desc := "(II)V" } : Jvm.MethodName)) ∈ am_tw := am_mem 843 (by decide +kernel) (by decide +kernel)
theorem tw_844 : (Jvm.Cond.methodLink "FileVolume$Repairer" (111 : Nat) ({ cls := "FileVolume$Repairer", name := "forget", desc := "(I)V" } : Jvm.MethodName)) ∈ am_tw := am_mem 844 (by decide +kernel) (by decide +kernel)
theorem tw_845 : (Jvm.Cond.instanceMethod ({ cls := "FileVolume$Repairer", name := "forget", desc := "(I)V" } : Jvm.MethodName)) ∈ am_tw := am_mem 845 (by decide +kernel) (by decide +kernel)
theorem tw_846 : (Jvm.Cond.selects "FileVolume$Repairer" ({ cls := "FileVolume$Repairer", name := "forget", desc := "(I)V" } : Jvm.MethodName) ({ cls := "FileVolume$Repairer", name := "forget", desc := "(I)V" } : Jvm.MethodName)) ∈ am_tw := am_mem 846 (by decide +kernel) (by decide +kernel)
theorem tw_847 : (Jvm.Cond.code ({ cls := "FileVolume$Repairer", name := "forget", desc := "(I)V" } : Jvm.MethodName) prog_5_method_10_code (4 : Nat) (Option.none : Option Jvm.ClassFile.FieldType)) ∈ am_tw := am_mem 847 (by decide +kernel) (by decide +kernel)
theorem tw_848 : (Jvm.Cond.methodLink "FileVolume$Repairer" (114 : Nat) ({ cls := "FileVolume$Table", name := "clusterAt", desc := "(II)I" } : Jvm.MethodName)) ∈ am_tw := am_mem 848 (by decide +kernel) (by decide +kernel)
theorem tw_849 : (Jvm.Cond.methodLink "FileVolume$Repairer" (74 : Nat) ({ cls := "FileVolume$Repairer", name := "goThrough", desc := "(II)V" } : Jvm.MethodName)) ∈ am_tw := am_mem 849 (by decide +kernel) (by decide +kernel)
theorem tw_850 : (Jvm.Cond.methodLink "FileVolume" (283 : Nat) ({ cls := "FileVolume$Repairer", name := "clearLost", desc := "()V" } : Jvm.MethodName)) ∈ am_tw := am_mem 850 (by decide +kernel) (by decide +kernel)
theorem tw_851 : (Jvm.Cond.instanceMethod ({ cls := "FileVolume$Repairer", name := "clearLost", desc := "()V" } : Jvm.MethodName)) ∈ am_tw := am_mem 851 (by decide +kernel) (by decide +kernel)
theorem tw_852 : (Jvm.Cond.selects "FileVolume$Repairer" ({ cls := "FileVolume$Repairer", name := "clearLost", desc := "()V" } : Jvm.MethodName) ({ cls := "FileVolume$Repairer", name := "clearLost", desc := "()V" } : Jvm.MethodName)) ∈ am_tw := am_mem 852 (by decide +kernel) (by decide +kernel)
theorem tw_853 : (Jvm.Cond.code ({ cls := "FileVolume$Repairer", name := "clearLost", desc := "()V" } : Jvm.MethodName) prog_5_method_11_code (2 : Nat) (Option.none : Option Jvm.ClassFile.FieldType)) ∈ am_tw := am_mem 853 (by decide +kernel) (by decide +kernel)
theorem tw_854 : (Jvm.Cond.classLink "FileVolumeLaw" (49 : Nat) "FileVolumeModel") ∈ am_tw := am_mem 854 (by decide +kernel) (by decide +kernel)
theorem tw_855 : (Jvm.Cond.instantiable "FileVolumeModel" (20 : Nat)) ∈ am_tw := am_mem 855 (by decide +kernel) (by decide +kernel)
theorem tw_856 : (Jvm.Cond.methodLink "FileVolumeLaw" (51 : Nat) ({ cls := "FileVolumeModel", name := "<init>", desc := "()V" } : Jvm.MethodName)) ∈ am_tw := am_mem 856 (by decide +kernel) (by decide +kernel)
theorem tw_857 : (Jvm.Cond.instanceMethod ({ cls := "FileVolumeModel", name := "<init>", desc := "()V" } : Jvm.MethodName)) ∈ am_tw := am_mem 857 (by decide +kernel) (by decide +kernel)
theorem tw_858 : (Jvm.Cond.code ({ cls := "FileVolumeModel", name := "<init>", desc := "()V" } : Jvm.MethodName) prog_9_method_1_code (2 : Nat) (Option.none : Option Jvm.ClassFile.FieldType)) ∈ am_tw := am_mem 858 (by decide +kernel) (by decide +kernel)
theorem tw_859 : (Jvm.Cond.methodLink "FileVolumeModel" (1 : Nat) ({ cls := "java/lang/Object", name := "<init>", desc := "()V" } : Jvm.MethodName)) ∈ am_tw := am_mem 859 (by decide +kernel) (by decide +kernel)
theorem tw_860 : (Jvm.Cond.constant "FileVolumeModel" (52 : Nat) (65535 : Int32)) ∈ am_tw := am_mem 860 (by decide +kernel) (by decide +kernel)
theorem tw_861 : (Jvm.Cond.methodLink "FileVolumeModel" (53 : Nat) ({ cls := "FileVolumeModel", name := "number", desc := "(II)V" } : Jvm.MethodName)) ∈ am_tw := am_mem 861 (by decide +kernel) (by decide +kernel)
theorem tw_863 : (Jvm.Cond.instanceMethod ({ cls := "FileVolumeModel", name := "number", desc := "(II)V" } : Jvm.MethodName)) ∈ am_tw := am_mem 863 (by decide +kernel) (by decide +kernel)
theorem tw_864 : (Jvm.Cond.code ({ cls := "FileVolumeModel", name := "number", desc := "(II)V" } : Jvm.MethodName) prog_9_method_4_code (3 : Nat) (Option.none : Option Jvm.ClassFile.FieldType)) ∈ am_tw := am_mem 864 (by decide +kernel) (by decide +kernel)
theorem tw_865 : (Jvm.Cond.fieldLink "FileVolumeModel" (57 : Nat) "FileVolumeModel" "thrown" "I") ∈ am_tw := am_mem 865 (by decide +kernel) (by decide +kernel)
theorem tw_866 : (Jvm.Cond.fieldLink "FileVolumeModel" (7 : Nat) "FileVolumeModel" "disk" "[I") ∈ am_tw := am_mem 866 (by decide +kernel) (by decide +kernel)
theorem tw_867 : (Jvm.Cond.fieldLink "FileVolumeModel" (13 : Nat) "FileVolumeModel" "on" "Z") ∈ am_tw := am_mem 867 (by decide +kernel) (by decide +kernel)
theorem tw_868 : (Jvm.Cond.fieldLink "FileVolumeModel" (141 : Nat) "FileVolumeModel" "suspect" "Z") ∈ am_tw := am_mem 868 (by decide +kernel) (by decide +kernel)
theorem tw_869 : (Jvm.Cond.fieldLink "FileVolumeModel" (64 : Nat) "FileVolumeModel" "dead" "Z") ∈ am_tw := am_mem 869 (by decide +kernel) (by decide +kernel)
theorem tw_870 : (Jvm.Cond.fieldLink "FileVolumeModel" (73 : Nat) "FileVolumeModel" "writes" "I") ∈ am_tw := am_mem 870 (by decide +kernel) (by decide +kernel)
theorem tw_871 : (Jvm.Cond.fieldLink "FileVolumeModel" (17 : Nat) "FileVolumeModel" "cut" "I") ∈ am_tw := am_mem 871 (by decide +kernel) (by decide +kernel)
theorem tw_872 : (Jvm.Cond.fieldLink "FileVolumeModel" (21 : Nat) "FileVolumeModel" "line" "[I") ∈ am_tw := am_mem 872 (by decide +kernel) (by decide +kernel)
theorem tw_873 : (Jvm.Cond.fieldLink "FileVolumeModel" (67 : Nat) "FileVolumeModel" "typed" "I") ∈ am_tw := am_mem 873 (by decide +kernel) (by decide +kernel)
theorem tw_874 : (Jvm.Cond.fieldLink "FileVolumeModel" (24 : Nat) "FileVolumeModel" "here" "I") ∈ am_tw := am_mem 874 (by decide +kernel) (by decide +kernel)
theorem tw_875 : (Jvm.Cond.fieldLink "FileVolumeModel" (27 : Nat) "FileVolumeModel" "depth" "I") ∈ am_tw := am_mem 875 (by decide +kernel) (by decide +kernel)
theorem tw_876 : (Jvm.Cond.fieldLink "FileVolumeModel" (30 : Nat) "FileVolumeModel" "open" "[I") ∈ am_tw := am_mem 876 (by decide +kernel) (by decide +kernel)
theorem tw_877 : (Jvm.Cond.fieldLink "FileVolumeModel" (33 : Nat) "FileVolumeModel" "position" "[I") ∈ am_tw := am_mem 877 (by decide +kernel) (by decide +kernel)
theorem tw_878 : (Jvm.Cond.fieldLink "FileVolumeModel" (36 : Nat) "FileVolumeModel" "name" "[I") ∈ am_tw := am_mem 878 (by decide +kernel) (by decide +kernel)
theorem tw_879 : (Jvm.Cond.fieldLink "FileVolumeModel" (135 : Nat) "FileVolumeModel" "parts" "I") ∈ am_tw := am_mem 879 (by decide +kernel) (by decide +kernel)
theorem tw_880 : (Jvm.Cond.fieldLink "FileVolumeModel" (39 : Nat) "FileVolumeModel" "used" "[Z") ∈ am_tw := am_mem 880 (by decide +kernel) (by decide +kernel)
theorem tw_881 : (Jvm.Cond.fieldLink "FileVolumeModel" (43 : Nat) "FileVolumeModel" "chain" "[I") ∈ am_tw := am_mem 881 (by decide +kernel) (by decide +kernel)
theorem tw_882 : (Jvm.Cond.fieldLink "FileVolumeModel" (46 : Nat) "FileVolumeModel" "way" "[I") ∈ am_tw := am_mem 882 (by decide +kernel) (by decide +kernel)
theorem tw_883 : (Jvm.Cond.fieldLink "FileVolumeModel" (49 : Nat) "FileVolumeModel" "next" "[I") ∈ am_tw := am_mem 883 (by decide +kernel) (by decide +kernel)
theorem tw_884 : (Jvm.Cond.fieldLink "FileVolumeModel" (200 : Nat) "FileVolumeModel" "fixes" "I") ∈ am_tw := am_mem 884 (by decide +kernel) (by decide +kernel)
theorem tw_926 : (Jvm.Cond.methodLink "FileVolumeLaw" (56 : Nat) ({ cls := "FileVolumeModel", name := "type", desc := "(C)Z" } : Jvm.MethodName)) ∈ am_tw := am_mem 926 (by decide +kernel) (by decide +kernel)
theorem tw_927 : (Jvm.Cond.instanceMethod ({ cls := "FileVolumeModel", name := "type", desc := "(C)Z" } : Jvm.MethodName)) ∈ am_tw := am_mem 927 (by decide +kernel) (by decide +kernel)
theorem tw_928 : (Jvm.Cond.selects "FileVolumeModel" ({ cls := "FileVolumeModel", name := "type", desc := "(C)Z" } : Jvm.MethodName) ({ cls := "FileVolumeModel", name := "type", desc := "(C)Z" } : Jvm.MethodName)) ∈ am_tw := am_mem 928 (by decide +kernel) (by decide +kernel)
theorem tw_929 : (Jvm.Cond.code ({ cls := "FileVolumeModel", name := "type", desc := "(C)Z" } : Jvm.MethodName) prog_9_method_31_code (2 : Nat) (Option.some Jvm.ClassFile.FieldType.boolean)) ∈ am_tw := am_mem 929 (by decide +kernel) (by decide +kernel)
theorem tw_930 : (Jvm.Cond.methodLink "FileVolumeLaw" (62 : Nat) ({ cls := "FileVolumeModel", name := "create", desc := "(I)V" } : Jvm.MethodName)) ∈ am_tw := am_mem 930 (by decide +kernel) (by decide +kernel)
theorem tw_931 : (Jvm.Cond.instanceMethod ({ cls := "FileVolumeModel", name := "create", desc := "(I)V" } : Jvm.MethodName)) ∈ am_tw := am_mem 931 (by decide +kernel) (by decide +kernel)
theorem tw_932 : (Jvm.Cond.selects "FileVolumeModel" ({ cls := "FileVolumeModel", name := "create", desc := "(I)V" } : Jvm.MethodName) ({ cls := "FileVolumeModel", name := "create", desc := "(I)V" } : Jvm.MethodName)) ∈ am_tw := am_mem 932 (by decide +kernel) (by decide +kernel)
theorem tw_933 : (Jvm.Cond.code ({ cls := "FileVolumeModel", name := "create", desc := "(I)V" } : Jvm.MethodName) prog_9_method_36_code (3 : Nat) (Option.none : Option Jvm.ClassFile.FieldType)) ∈ am_tw := am_mem 933 (by decide +kernel) (by decide +kernel)
theorem tw_934 : (Jvm.Cond.methodLink "FileVolumeModel" (158 : Nat) ({ cls := "FileVolumeModel", name := "ready", desc := "()Z" } : Jvm.MethodName)) ∈ am_tw := am_mem 934 (by decide +kernel) (by decide +kernel)
theorem tw_936 : (Jvm.Cond.instanceMethod ({ cls := "FileVolumeModel", name := "ready", desc := "()Z" } : Jvm.MethodName)) ∈ am_tw := am_mem 936 (by decide +kernel) (by decide +kernel)
theorem tw_937 : (Jvm.Cond.code ({ cls := "FileVolumeModel", name := "ready", desc := "()Z" } : Jvm.MethodName) prog_9_method_30_code (1 : Nat) (Option.some Jvm.ClassFile.FieldType.boolean)) ∈ am_tw := am_mem 937 (by decide +kernel) (by decide +kernel)
theorem tw_938 : (Jvm.Cond.methodLink "FileVolumeModel" (86 : Nat) ({ cls := "FileVolumeModel", name := "in", desc := "(III)Z" } : Jvm.MethodName)) ∈ am_tw := am_mem 938 (by decide +kernel) (by decide +kernel)
theorem tw_939 : (Jvm.Cond.static ({ cls := "FileVolumeModel", name := "in", desc := "(III)Z" } : Jvm.MethodName)) ∈ am_tw := am_mem 939 (by decide +kernel) (by decide +kernel)
theorem tw_940 : (Jvm.Cond.code ({ cls := "FileVolumeModel", name := "in", desc := "(III)Z" } : Jvm.MethodName) prog_9_method_3_code (3 : Nat) (Option.some Jvm.ClassFile.FieldType.boolean)) ∈ am_tw := am_mem 940 (by decide +kernel) (by decide +kernel)
theorem tw_941 : (Jvm.Cond.methodLink "FileVolumeModel" (161 : Nat) ({ cls := "FileVolumeModel", name := "find", desc := "()I" } : Jvm.MethodName)) ∈ am_tw := am_mem 941 (by decide +kernel) (by decide +kernel)
theorem tw_943 : (Jvm.Cond.instanceMethod ({ cls := "FileVolumeModel", name := "find", desc := "()I" } : Jvm.MethodName)) ∈ am_tw := am_mem 943 (by decide +kernel) (by decide +kernel)
theorem tw_944 : (Jvm.Cond.code ({ cls := "FileVolumeModel", name := "find", desc := "()I" } : Jvm.MethodName) prog_9_method_26_code (3 : Nat) (Option.some Jvm.ClassFile.FieldType.int)) ∈ am_tw := am_mem 944 (by decide +kernel) (by decide +kernel)
theorem tw_945 : (Jvm.Cond.methodLink "FileVolumeModel" (126 : Nat) ({ cls := "FileVolumeModel", name := "length", desc := "(I)I" } : Jvm.MethodName)) ∈ am_tw := am_mem 945 (by decide +kernel) (by decide +kernel)
theorem tw_947 : (Jvm.Cond.instanceMethod ({ cls := "FileVolumeModel", name := "length", desc := "(I)I" } : Jvm.MethodName)) ∈ am_tw := am_mem 947 (by decide +kernel) (by decide +kernel)
theorem tw_948 : (Jvm.Cond.code ({ cls := "FileVolumeModel", name := "length", desc := "(I)I" } : Jvm.MethodName) prog_9_method_13_code (3 : Nat) (Option.some Jvm.ClassFile.FieldType.int)) ∈ am_tw := am_mem 948 (by decide +kernel) (by decide +kernel)
theorem tw_949 : (Jvm.Cond.methodLink "FileVolumeModel" (90 : Nat) ({ cls := "FileVolumeModel", name := "cluster", desc := "(II)I" } : Jvm.MethodName)) ∈ am_tw := am_mem 949 (by decide +kernel) (by decide +kernel)
theorem tw_951 : (Jvm.Cond.instanceMethod ({ cls := "FileVolumeModel", name := "cluster", desc := "(II)I" } : Jvm.MethodName)) ∈ am_tw := am_mem 951 (by decide +kernel) (by decide +kernel)
theorem tw_952 : (Jvm.Cond.code ({ cls := "FileVolumeModel", name := "cluster", desc := "(II)I" } : Jvm.MethodName) prog_9_method_12_code (5 : Nat) (Option.some Jvm.ClassFile.FieldType.int)) ∈ am_tw := am_mem 952 (by decide +kernel) (by decide +kernel)
theorem tw_953 : (Jvm.Cond.methodLink "FileVolumeModel" (80 : Nat) ({ cls := "FileVolumeModel", name := "cell", desc := "(I)I" } : Jvm.MethodName)) ∈ am_tw := am_mem 953 (by decide +kernel) (by decide +kernel)
theorem tw_955 : (Jvm.Cond.instanceMethod ({ cls := "FileVolumeModel", name := "cell", desc := "(I)I" } : Jvm.MethodName)) ∈ am_tw := am_mem 955 (by decide +kernel) (by decide +kernel)
theorem tw_956 : (Jvm.Cond.code ({ cls := "FileVolumeModel", name := "cell", desc := "(I)I" } : Jvm.MethodName) prog_9_method_6_code (2 : Nat) (Option.some Jvm.ClassFile.FieldType.int)) ∈ am_tw := am_mem 956 (by decide +kernel) (by decide +kernel)
theorem tw_957 : (Jvm.Cond.methodLink "FileVolumeModel" (60 : Nat) ({ cls := "FileVolumeModel", name := "numberAt", desc := "(I)I" } : Jvm.MethodName)) ∈ am_tw := am_mem 957 (by decide +kernel) (by decide +kernel)
theorem tw_959 : (Jvm.Cond.instanceMethod ({ cls := "FileVolumeModel", name := "numberAt", desc := "(I)I" } : Jvm.MethodName)) ∈ am_tw := am_mem 959 (by decide +kernel) (by decide +kernel)
theorem tw_960 : (Jvm.Cond.code ({ cls := "FileVolumeModel", name := "numberAt", desc := "(I)I" } : Jvm.MethodName) prog_9_method_5_code (2 : Nat) (Option.some Jvm.ClassFile.FieldType.int)) ∈ am_tw := am_mem 960 (by decide +kernel) (by decide +kernel)
theorem tw_961 : (Jvm.Cond.methodLink "FileVolumeModel" (129 : Nat) ({ cls := "FileVolumeModel", name := "isCalled", desc := "(I)Z" } : Jvm.MethodName)) ∈ am_tw := am_mem 961 (by decide +kernel) (by decide +kernel)
theorem tw_963 : (Jvm.Cond.instanceMethod ({ cls := "FileVolumeModel", name := "isCalled", desc := "(I)Z" } : Jvm.MethodName)) ∈ am_tw := am_mem 963 (by decide +kernel) (by decide +kernel)
theorem tw_964 : (Jvm.Cond.code ({ cls := "FileVolumeModel", name := "isCalled", desc := "(I)Z" } : Jvm.MethodName) prog_9_method_25_code (7 : Nat) (Option.some Jvm.ClassFile.FieldType.boolean)) ∈ am_tw := am_mem 964 (by decide +kernel) (by decide +kernel)
theorem tw_965 : (Jvm.Cond.methodLink "FileVolumeModel" (98 : Nat) ({ cls := "FileVolumeModel", name := "place", desc := "(II)I" } : Jvm.MethodName)) ∈ am_tw := am_mem 965 (by decide +kernel) (by decide +kernel)
theorem tw_967 : (Jvm.Cond.instanceMethod ({ cls := "FileVolumeModel", name := "place", desc := "(II)I" } : Jvm.MethodName)) ∈ am_tw := am_mem 967 (by decide +kernel) (by decide +kernel)
theorem tw_968 : (Jvm.Cond.code ({ cls := "FileVolumeModel", name := "place", desc := "(II)I" } : Jvm.MethodName) prog_9_method_14_code (3 : Nat) (Option.some Jvm.ClassFile.FieldType.int)) ∈ am_tw := am_mem 968 (by decide +kernel) (by decide +kernel)
theorem tw_969 : (Jvm.Cond.methodLink "FileVolumeModel" (101 : Nat) ({ cls := "FileVolumeModel", name := "isNamed", desc := "(I)Z" } : Jvm.MethodName)) ∈ am_tw := am_mem 969 (by decide +kernel) (by decide +kernel)
theorem tw_971 : (Jvm.Cond.instanceMethod ({ cls := "FileVolumeModel", name := "isNamed", desc := "(I)Z" } : Jvm.MethodName)) ∈ am_tw := am_mem 971 (by decide +kernel) (by decide +kernel)
theorem tw_972 : (Jvm.Cond.code ({ cls := "FileVolumeModel", name := "isNamed", desc := "(I)Z" } : Jvm.MethodName) prog_9_method_16_code (2 : Nat) (Option.some Jvm.ClassFile.FieldType.boolean)) ∈ am_tw := am_mem 972 (by decide +kernel) (by decide +kernel)
theorem tw_973 : (Jvm.Cond.methodLink "FileVolumeModel" (94 : Nat) ({ cls := "FileVolumeModel", name := "isFree", desc := "(I)Z" } : Jvm.MethodName)) ∈ am_tw := am_mem 973 (by decide +kernel) (by decide +kernel)
theorem tw_975 : (Jvm.Cond.instanceMethod ({ cls := "FileVolumeModel", name := "isFree", desc := "(I)Z" } : Jvm.MethodName)) ∈ am_tw := am_mem 975 (by decide +kernel) (by decide +kernel)
theorem tw_976 : (Jvm.Cond.code ({ cls := "FileVolumeModel", name := "isFree", desc := "(I)Z" } : Jvm.MethodName) prog_9_method_15_code (2 : Nat) (Option.some Jvm.ClassFile.FieldType.boolean)) ∈ am_tw := am_mem 976 (by decide +kernel) (by decide +kernel)
theorem tw_977 : (Jvm.Cond.methodLink "FileVolumeModel" (110 : Nat) ({ cls := "FileVolumeModel", name := "partsOf", desc := "(II)I" } : Jvm.MethodName)) ∈ am_tw := am_mem 977 (by decide +kernel) (by decide +kernel)
theorem tw_979 : (Jvm.Cond.instanceMethod ({ cls := "FileVolumeModel", name := "partsOf", desc := "(II)I" } : Jvm.MethodName)) ∈ am_tw := am_mem 979 (by decide +kernel) (by decide +kernel)
theorem tw_980 : (Jvm.Cond.code ({ cls := "FileVolumeModel", name := "partsOf", desc := "(II)I" } : Jvm.MethodName) prog_9_method_19_code (6 : Nat) (Option.some Jvm.ClassFile.FieldType.int)) ∈ am_tw := am_mem 980 (by decide +kernel) (by decide +kernel)
theorem tw_981 : (Jvm.Cond.methodLink "FileVolumeModel" (104 : Nat) ({ cls := "FileVolumeModel", name := "summed", desc := "(II)I" } : Jvm.MethodName)) ∈ am_tw := am_mem 981 (by decide +kernel) (by decide +kernel)
theorem tw_982 : (Jvm.Cond.static ({ cls := "FileVolumeModel", name := "summed", desc := "(II)I" } : Jvm.MethodName)) ∈ am_tw := am_mem 982 (by decide +kernel) (by decide +kernel)
theorem tw_983 : (Jvm.Cond.code ({ cls := "FileVolumeModel", name := "summed", desc := "(II)I" } : Jvm.MethodName) prog_9_method_17_code (2 : Nat) (Option.some Jvm.ClassFile.FieldType.int)) ∈ am_tw := am_mem 983 (by decide +kernel) (by decide +kernel)
theorem tw_984 : (Jvm.Cond.methodLink "FileVolumeModel" (107 : Nat) ({ cls := "FileVolumeModel", name := "isPart", desc := "(III)Z" } : Jvm.MethodName)) ∈ am_tw := am_mem 984 (by decide +kernel) (by decide +kernel)
theorem tw_986 : (Jvm.Cond.instanceMethod ({ cls := "FileVolumeModel", name := "isPart", desc := "(III)Z" } : Jvm.MethodName)) ∈ am_tw := am_mem 986 (by decide +kernel) (by decide +kernel)
theorem tw_987 : (Jvm.Cond.code ({ cls := "FileVolumeModel", name := "isPart", desc := "(III)Z" } : Jvm.MethodName) prog_9_method_18_code (4 : Nat) (Option.some Jvm.ClassFile.FieldType.boolean)) ∈ am_tw := am_mem 987 (by decide +kernel) (by decide +kernel)
theorem tw_988 : (Jvm.Cond.methodLink "FileVolumeModel" (116 : Nat) ({ cls := "FileVolumeModel", name := "capital", desc := "(I)I" } : Jvm.MethodName)) ∈ am_tw := am_mem 988 (by decide +kernel) (by decide +kernel)
theorem tw_989 : (Jvm.Cond.static ({ cls := "FileVolumeModel", name := "capital", desc := "(I)I" } : Jvm.MethodName)) ∈ am_tw := am_mem 989 (by decide +kernel) (by decide +kernel)
theorem tw_990 : (Jvm.Cond.code ({ cls := "FileVolumeModel", name := "capital", desc := "(I)I" } : Jvm.MethodName) prog_9_method_23_code (1 : Nat) (Option.some Jvm.ClassFile.FieldType.int)) ∈ am_tw := am_mem 990 (by decide +kernel) (by decide +kernel)
theorem tw_991 : (Jvm.Cond.methodLink "FileVolumeModel" (119 : Nat) ({ cls := "FileVolumeModel", name := "shortLetter", desc := "(II)I" } : Jvm.MethodName)) ∈ am_tw := am_mem 991 (by decide +kernel) (by decide +kernel)
theorem tw_993 : (Jvm.Cond.instanceMethod ({ cls := "FileVolumeModel", name := "shortLetter", desc := "(II)I" } : Jvm.MethodName)) ∈ am_tw := am_mem 993 (by decide +kernel) (by decide +kernel)
theorem tw_994 : (Jvm.Cond.code ({ cls := "FileVolumeModel", name := "shortLetter", desc := "(II)I" } : Jvm.MethodName) prog_9_method_22_code (4 : Nat) (Option.some Jvm.ClassFile.FieldType.int)) ∈ am_tw := am_mem 994 (by decide +kernel) (by decide +kernel)
theorem tw_995 : (Jvm.Cond.methodLink "FileVolumeModel" (122 : Nat) ({ cls := "FileVolumeModel", name := "letter", desc := "(III)I" } : Jvm.MethodName)) ∈ am_tw := am_mem 995 (by decide +kernel) (by decide +kernel)
theorem tw_997 : (Jvm.Cond.instanceMethod ({ cls := "FileVolumeModel", name := "letter", desc := "(III)I" } : Jvm.MethodName)) ∈ am_tw := am_mem 997 (by decide +kernel) (by decide +kernel)
theorem tw_998 : (Jvm.Cond.code ({ cls := "FileVolumeModel", name := "letter", desc := "(III)I" } : Jvm.MethodName) prog_9_method_21_code (7 : Nat) (Option.some Jvm.ClassFile.FieldType.int)) ∈ am_tw := am_mem 998 (by decide +kernel) (by decide +kernel)
theorem tw_999 : (Jvm.Cond.methodLink "FileVolumeModel" (113 : Nat) ({ cls := "FileVolumeModel", name := "spot", desc := "(I)I" } : Jvm.MethodName)) ∈ am_tw := am_mem 999 (by decide +kernel) (by decide +kernel)
theorem tw_1000 : (Jvm.Cond.static ({ cls := "FileVolumeModel", name := "spot", desc := "(I)I" } : Jvm.MethodName)) ∈ am_tw := am_mem 1000 (by decide +kernel) (by decide +kernel)
theorem tw_1001 : (Jvm.Cond.code ({ cls := "FileVolumeModel", name := "spot", desc := "(I)I" } : Jvm.MethodName) prog_9_method_20_code (1 : Nat) (Option.some Jvm.ClassFile.FieldType.int)) ∈ am_tw := am_mem 1001 (by decide +kernel) (by decide +kernel)
theorem tw_1002 : (Jvm.Cond.methodLink "FileVolumeModel" (164 : Nat) ({ cls := "FileVolumeModel", name := "shorten", desc := "()Z" } : Jvm.MethodName)) ∈ am_tw := am_mem 1002 (by decide +kernel) (by decide +kernel)
theorem tw_1004 : (Jvm.Cond.instanceMethod ({ cls := "FileVolumeModel", name := "shorten", desc := "()Z" } : Jvm.MethodName)) ∈ am_tw := am_mem 1004 (by decide +kernel) (by decide +kernel)
theorem tw_1005 : (Jvm.Cond.code ({ cls := "FileVolumeModel", name := "shorten", desc := "()Z" } : Jvm.MethodName) prog_9_method_28_code (4 : Nat) (Option.some Jvm.ClassFile.FieldType.boolean)) ∈ am_tw := am_mem 1005 (by decide +kernel) (by decide +kernel)
theorem tw_1006 : (Jvm.Cond.methodLink "FileVolumeModel" (132 : Nat) ({ cls := "FileVolumeModel", name := "isPlain", desc := "(I)Z" } : Jvm.MethodName)) ∈ am_tw := am_mem 1006 (by decide +kernel) (by decide +kernel)
theorem tw_1007 : (Jvm.Cond.static ({ cls := "FileVolumeModel", name := "isPlain", desc := "(I)Z" } : Jvm.MethodName)) ∈ am_tw := am_mem 1007 (by decide +kernel) (by decide +kernel)
theorem tw_1008 : (Jvm.Cond.code ({ cls := "FileVolumeModel", name := "isPlain", desc := "(I)Z" } : Jvm.MethodName) prog_9_method_24_code (1 : Nat) (Option.some Jvm.ClassFile.FieldType.boolean)) ∈ am_tw := am_mem 1008 (by decide +kernel) (by decide +kernel)
theorem tw_1009 : (Jvm.Cond.methodLink "FileVolumeModel" (138 : Nat) ({ cls := "FileVolumeModel", name := "isTaken", desc := "()Z" } : Jvm.MethodName)) ∈ am_tw := am_mem 1009 (by decide +kernel) (by decide +kernel)
theorem tw_1011 : (Jvm.Cond.instanceMethod ({ cls := "FileVolumeModel", name := "isTaken", desc := "()Z" } : Jvm.MethodName)) ∈ am_tw := am_mem 1011 (by decide +kernel) (by decide +kernel)
theorem tw_1012 : (Jvm.Cond.code ({ cls := "FileVolumeModel", name := "isTaken", desc := "()Z" } : Jvm.MethodName) prog_9_method_27_code (7 : Nat) (Option.some Jvm.ClassFile.FieldType.boolean)) ∈ am_tw := am_mem 1012 (by decide +kernel) (by decide +kernel)
theorem tw_1013 : (Jvm.Cond.methodLink "FileVolumeModel" (167 : Nat) ({ cls := "FileVolumeModel", name := "make", desc := "(I)Z" } : Jvm.MethodName)) ∈ am_tw := am_mem 1013 (by decide +kernel) (by decide +kernel)
theorem tw_1015 : (Jvm.Cond.instanceMethod ({ cls := "FileVolumeModel", name := "make", desc := "(I)Z" } : Jvm.MethodName)) ∈ am_tw := am_mem 1015 (by decide +kernel) (by decide +kernel)
theorem tw_1016 : (Jvm.Cond.code ({ cls := "FileVolumeModel", name := "make", desc := "(I)Z" } : Jvm.MethodName) prog_9_method_35_code (5 : Nat) (Option.some Jvm.ClassFile.FieldType.boolean)) ∈ am_tw := am_mem 1016 (by decide +kernel) (by decide +kernel)
theorem tw_1017 : (Jvm.Cond.methodLink "FileVolumeModel" (144 : Nat) ({ cls := "FileVolumeModel", name := "take", desc := "()I" } : Jvm.MethodName)) ∈ am_tw := am_mem 1017 (by decide +kernel) (by decide +kernel)
theorem tw_1019 : (Jvm.Cond.instanceMethod ({ cls := "FileVolumeModel", name := "take", desc := "()I" } : Jvm.MethodName)) ∈ am_tw := am_mem 1019 (by decide +kernel) (by decide +kernel)
theorem tw_1020 : (Jvm.Cond.code ({ cls := "FileVolumeModel", name := "take", desc := "()I" } : Jvm.MethodName) prog_9_method_11_code (3 : Nat) (Option.some Jvm.ClassFile.FieldType.int)) ∈ am_tw := am_mem 1020 (by decide +kernel) (by decide +kernel)
theorem tw_1021 : (Jvm.Cond.methodLink "FileVolumeModel" (83 : Nat) ({ cls := "FileVolumeModel", name := "set", desc := "(II)V" } : Jvm.MethodName)) ∈ am_tw := am_mem 1021 (by decide +kernel) (by decide +kernel)
theorem tw_1023 : (Jvm.Cond.instanceMethod ({ cls := "FileVolumeModel", name := "set", desc := "(II)V" } : Jvm.MethodName)) ∈ am_tw := am_mem 1023 (by decide +kernel) (by decide +kernel)
theorem tw_1024 : (Jvm.Cond.code ({ cls := "FileVolumeModel", name := "set", desc := "(II)V" } : Jvm.MethodName) prog_9_method_8_code (3 : Nat) (Option.none : Option Jvm.ClassFile.FieldType)) ∈ am_tw := am_mem 1024 (by decide +kernel) (by decide +kernel)
theorem tw_1025 : (Jvm.Cond.methodLink "FileVolumeModel" (76 : Nat) ({ cls := "FileVolumeModel", name := "door", desc := "()Z" } : Jvm.MethodName)) ∈ am_tw := am_mem 1025 (by decide +kernel) (by decide +kernel)
theorem tw_1027 : (Jvm.Cond.instanceMethod ({ cls := "FileVolumeModel", name := "door", desc := "()Z" } : Jvm.MethodName)) ∈ am_tw := am_mem 1027 (by decide +kernel) (by decide +kernel)
theorem tw_1028 : (Jvm.Cond.code ({ cls := "FileVolumeModel", name := "door", desc := "()Z" } : Jvm.MethodName) prog_9_method_7_code (1 : Nat) (Option.some Jvm.ClassFile.FieldType.boolean)) ∈ am_tw := am_mem 1028 (by decide +kernel) (by decide +kernel)
theorem tw_1029 : (Jvm.Cond.methodLink "FileVolumeModel" (70 : Nat) ({ cls := "FileVolumeModel", name := "home", desc := "()V" } : Jvm.MethodName)) ∈ am_tw := am_mem 1029 (by decide +kernel) (by decide +kernel)
theorem tw_1031 : (Jvm.Cond.instanceMethod ({ cls := "FileVolumeModel", name := "home", desc := "()V" } : Jvm.MethodName)) ∈ am_tw := am_mem 1031 (by decide +kernel) (by decide +kernel)
theorem tw_1032 : (Jvm.Cond.code ({ cls := "FileVolumeModel", name := "home", desc := "()V" } : Jvm.MethodName) prog_9_method_29_code (2 : Nat) (Option.none : Option Jvm.ClassFile.FieldType)) ∈ am_tw := am_mem 1032 (by decide +kernel) (by decide +kernel)
theorem tw_1033 : (Jvm.Cond.methodLink "FileVolumeModel" (148 : Nat) ({ cls := "FileVolumeModel", name := "space", desc := "(I)I" } : Jvm.MethodName)) ∈ am_tw := am_mem 1033 (by decide +kernel) (by decide +kernel)
theorem tw_1035 : (Jvm.Cond.instanceMethod ({ cls := "FileVolumeModel", name := "space", desc := "(I)I" } : Jvm.MethodName)) ∈ am_tw := am_mem 1035 (by decide +kernel) (by decide +kernel)
theorem tw_1036 : (Jvm.Cond.code ({ cls := "FileVolumeModel", name := "space", desc := "(I)I" } : Jvm.MethodName) prog_9_method_32_code (6 : Nat) (Option.some Jvm.ClassFile.FieldType.int)) ∈ am_tw := am_mem 1036 (by decide +kernel) (by decide +kernel)
theorem tw_1037 : (Jvm.Cond.methodLink "FileVolumeModel" (151 : Nat) ({ cls := "FileVolumeModel", name := "writePart", desc := "(II)V" } : Jvm.MethodName)) ∈ am_tw := am_mem 1037 (by decide +kernel) (by decide +kernel)
theorem tw_1039 : (Jvm.Cond.instanceMethod ({ cls := "FileVolumeModel", name := "writePart", desc := "(II)V" } : Jvm.MethodName)) ∈ am_tw := am_mem 1039 (by decide +kernel) (by decide +kernel)
theorem tw_1040 : (Jvm.Cond.code ({ cls := "FileVolumeModel", name := "writePart", desc := "(II)V" } : Jvm.MethodName) prog_9_method_33_code (6 : Nat) (Option.none : Option Jvm.ClassFile.FieldType)) ∈ am_tw := am_mem 1040 (by decide +kernel) (by decide +kernel)
theorem tw_1041 : (Jvm.Cond.methodLink "FileVolumeModel" (154 : Nat) ({ cls := "FileVolumeModel", name := "writeEntry", desc := "(III)V" } : Jvm.MethodName)) ∈ am_tw := am_mem 1041 (by decide +kernel) (by decide +kernel)
theorem tw_1043 : (Jvm.Cond.instanceMethod ({ cls := "FileVolumeModel", name := "writeEntry", desc := "(III)V" } : Jvm.MethodName)) ∈ am_tw := am_mem 1043 (by decide +kernel) (by decide +kernel)
theorem tw_1044 : (Jvm.Cond.code ({ cls := "FileVolumeModel", name := "writeEntry", desc := "(III)V" } : Jvm.MethodName) prog_9_method_34_code (5 : Nat) (Option.none : Option Jvm.ClassFile.FieldType)) ∈ am_tw := am_mem 1044 (by decide +kernel) (by decide +kernel)
theorem tw_1045 : (Jvm.Cond.methodLink "FileVolumeLaw" (66 : Nat) ({ cls := "FileVolumeModel", name := "delete", desc := "()V" } : Jvm.MethodName)) ∈ am_tw := am_mem 1045 (by decide +kernel) (by decide +kernel)
theorem tw_1046 : (Jvm.Cond.instanceMethod ({ cls := "FileVolumeModel", name := "delete", desc := "()V" } : Jvm.MethodName)) ∈ am_tw := am_mem 1046 (by decide +kernel) (by decide +kernel)
theorem tw_1047 : (Jvm.Cond.selects "FileVolumeModel" ({ cls := "FileVolumeModel", name := "delete", desc := "()V" } : Jvm.MethodName) ({ cls := "FileVolumeModel", name := "delete", desc := "()V" } : Jvm.MethodName)) ∈ am_tw := am_mem 1047 (by decide +kernel) (by decide +kernel)
theorem tw_1048 : (Jvm.Cond.code ({ cls := "FileVolumeModel", name := "delete", desc := "()V" } : Jvm.MethodName) prog_9_method_39_code (6 : Nat) (Option.none : Option Jvm.ClassFile.FieldType)) ∈ am_tw := am_mem 1048 (by decide +kernel) (by decide +kernel)
theorem tw_1049 : (Jvm.Cond.methodLink "FileVolumeModel" (174 : Nat) ({ cls := "FileVolumeModel", name := "isEmpty", desc := "(I)Z" } : Jvm.MethodName)) ∈ am_tw := am_mem 1049 (by decide +kernel) (by decide +kernel)
theorem tw_1051 : (Jvm.Cond.instanceMethod ({ cls := "FileVolumeModel", name := "isEmpty", desc := "(I)Z" } : Jvm.MethodName)) ∈ am_tw := am_mem 1051 (by decide +kernel) (by decide +kernel)
theorem tw_1052 : (Jvm.Cond.code ({ cls := "FileVolumeModel", name := "isEmpty", desc := "(I)Z" } : Jvm.MethodName) prog_9_method_38_code (4 : Nat) (Option.some Jvm.ClassFile.FieldType.boolean)) ∈ am_tw := am_mem 1052 (by decide +kernel) (by decide +kernel)
theorem tw_1053 : (Jvm.Cond.methodLink "FileVolumeModel" (177 : Nat) ({ cls := "FileVolumeModel", name := "free", desc := "(II)V" } : Jvm.MethodName)) ∈ am_tw := am_mem 1053 (by decide +kernel) (by decide +kernel)
theorem tw_1055 : (Jvm.Cond.instanceMethod ({ cls := "FileVolumeModel", name := "free", desc := "(II)V" } : Jvm.MethodName)) ∈ am_tw := am_mem 1055 (by decide +kernel) (by decide +kernel)
theorem tw_1056 : (Jvm.Cond.code ({ cls := "FileVolumeModel", name := "free", desc := "(II)V" } : Jvm.MethodName) prog_9_method_37_code (4 : Nat) (Option.none : Option Jvm.ClassFile.FieldType)) ∈ am_tw := am_mem 1056 (by decide +kernel) (by decide +kernel)
theorem tw_1057 : (Jvm.Cond.methodLink "FileVolumeModel" (170 : Nat) ({ cls := "FileVolumeModel", name := "mark", desc := "(I)V" } : Jvm.MethodName)) ∈ am_tw := am_mem 1057 (by decide +kernel) (by decide +kernel)
theorem tw_1059 : (Jvm.Cond.instanceMethod ({ cls := "FileVolumeModel", name := "mark", desc := "(I)V" } : Jvm.MethodName)) ∈ am_tw := am_mem 1059 (by decide +kernel) (by decide +kernel)
theorem tw_1060 : (Jvm.Cond.code ({ cls := "FileVolumeModel", name := "mark", desc := "(I)V" } : Jvm.MethodName) prog_9_method_9_code (2 : Nat) (Option.none : Option Jvm.ClassFile.FieldType)) ∈ am_tw := am_mem 1060 (by decide +kernel) (by decide +kernel)
theorem tw_1061 : (Jvm.Cond.methodLink "FileVolumeLaw" (69 : Nat) ({ cls := "FileVolumeModel", name := "enter", desc := "()V" } : Jvm.MethodName)) ∈ am_tw := am_mem 1061 (by decide +kernel) (by decide +kernel)
theorem tw_1062 : (Jvm.Cond.instanceMethod ({ cls := "FileVolumeModel", name := "enter", desc := "()V" } : Jvm.MethodName)) ∈ am_tw := am_mem 1062 (by decide +kernel) (by decide +kernel)
theorem tw_1063 : (Jvm.Cond.selects "FileVolumeModel" ({ cls := "FileVolumeModel", name := "enter", desc := "()V" } : Jvm.MethodName) ({ cls := "FileVolumeModel", name := "enter", desc := "()V" } : Jvm.MethodName)) ∈ am_tw := am_mem 1063 (by decide +kernel) (by decide +kernel)
theorem tw_1064 : (Jvm.Cond.code ({ cls := "FileVolumeModel", name := "enter", desc := "()V" } : Jvm.MethodName) prog_9_method_40_code (2 : Nat) (Option.none : Option Jvm.ClassFile.FieldType)) ∈ am_tw := am_mem 1064 (by decide +kernel) (by decide +kernel)
theorem tw_1065 : (Jvm.Cond.methodLink "FileVolumeLaw" (73 : Nat) ({ cls := "FileVolumeModel", name := "open", desc := "()I" } : Jvm.MethodName)) ∈ am_tw := am_mem 1065 (by decide +kernel) (by decide +kernel)
theorem tw_1066 : (Jvm.Cond.instanceMethod ({ cls := "FileVolumeModel", name := "open", desc := "()I" } : Jvm.MethodName)) ∈ am_tw := am_mem 1066 (by decide +kernel) (by decide +kernel)
theorem tw_1067 : (Jvm.Cond.selects "FileVolumeModel" ({ cls := "FileVolumeModel", name := "open", desc := "()I" } : Jvm.MethodName) ({ cls := "FileVolumeModel", name := "open", desc := "()I" } : Jvm.MethodName)) ∈ am_tw := am_mem 1067 (by decide +kernel) (by decide +kernel)
theorem tw_1068 : (Jvm.Cond.code ({ cls := "FileVolumeModel", name := "open", desc := "()I" } : Jvm.MethodName) prog_9_method_41_code (3 : Nat) (Option.some Jvm.ClassFile.FieldType.int)) ∈ am_tw := am_mem 1068 (by decide +kernel) (by decide +kernel)
theorem tw_1069 : (Jvm.Cond.methodLink "FileVolumeLaw" (78 : Nat) ({ cls := "FileVolumeModel", name := "close", desc := "(I)Z" } : Jvm.MethodName)) ∈ am_tw := am_mem 1069 (by decide +kernel) (by decide +kernel)
theorem tw_1070 : (Jvm.Cond.instanceMethod ({ cls := "FileVolumeModel", name := "close", desc := "(I)Z" } : Jvm.MethodName)) ∈ am_tw := am_mem 1070 (by decide +kernel) (by decide +kernel)
theorem tw_1071 : (Jvm.Cond.selects "FileVolumeModel" ({ cls := "FileVolumeModel", name := "close", desc := "(I)Z" } : Jvm.MethodName) ({ cls := "FileVolumeModel", name := "close", desc := "(I)Z" } : Jvm.MethodName)) ∈ am_tw := am_mem 1071 (by decide +kernel) (by decide +kernel)
theorem tw_1072 : (Jvm.Cond.code ({ cls := "FileVolumeModel", name := "close", desc := "(I)Z" } : Jvm.MethodName) prog_9_method_43_code (2 : Nat) (Option.some Jvm.ClassFile.FieldType.boolean)) ∈ am_tw := am_mem 1072 (by decide +kernel) (by decide +kernel)
theorem tw_1073 : (Jvm.Cond.methodLink "FileVolumeModel" (180 : Nat) ({ cls := "FileVolumeModel", name := "isOpen", desc := "(I)Z" } : Jvm.MethodName)) ∈ am_tw := am_mem 1073 (by decide +kernel) (by decide +kernel)
theorem tw_1075 : (Jvm.Cond.instanceMethod ({ cls := "FileVolumeModel", name := "isOpen", desc := "(I)Z" } : Jvm.MethodName)) ∈ am_tw := am_mem 1075 (by decide +kernel) (by decide +kernel)
theorem tw_1076 : (Jvm.Cond.code ({ cls := "FileVolumeModel", name := "isOpen", desc := "(I)Z" } : Jvm.MethodName) prog_9_method_42_code (2 : Nat) (Option.some Jvm.ClassFile.FieldType.boolean)) ∈ am_tw := am_mem 1076 (by decide +kernel) (by decide +kernel)
theorem tw_1077 : (Jvm.Cond.methodLink "FileVolumeLaw" (83 : Nat) ({ cls := "FileVolumeModel", name := "seek", desc := "(II)Z" } : Jvm.MethodName)) ∈ am_tw := am_mem 1077 (by decide +kernel) (by decide +kernel)
theorem tw_1078 : (Jvm.Cond.instanceMethod ({ cls := "FileVolumeModel", name := "seek", desc := "(II)Z" } : Jvm.MethodName)) ∈ am_tw := am_mem 1078 (by decide +kernel) (by decide +kernel)
theorem tw_1079 : (Jvm.Cond.selects "FileVolumeModel" ({ cls := "FileVolumeModel", name := "seek", desc := "(II)Z" } : Jvm.MethodName) ({ cls := "FileVolumeModel", name := "seek", desc := "(II)Z" } : Jvm.MethodName)) ∈ am_tw := am_mem 1079 (by decide +kernel) (by decide +kernel)
theorem tw_1080 : (Jvm.Cond.code ({ cls := "FileVolumeModel", name := "seek", desc := "(II)Z" } : Jvm.MethodName) prog_9_method_45_code (3 : Nat) (Option.some Jvm.ClassFile.FieldType.boolean)) ∈ am_tw := am_mem 1080 (by decide +kernel) (by decide +kernel)
theorem tw_1081 : (Jvm.Cond.methodLink "FileVolumeModel" (183 : Nat) ({ cls := "FileVolumeModel", name := "sizeOf", desc := "(I)I" } : Jvm.MethodName)) ∈ am_tw := am_mem 1081 (by decide +kernel) (by decide +kernel)
theorem tw_1083 : (Jvm.Cond.instanceMethod ({ cls := "FileVolumeModel", name := "sizeOf", desc := "(I)I" } : Jvm.MethodName)) ∈ am_tw := am_mem 1083 (by decide +kernel) (by decide +kernel)
theorem tw_1084 : (Jvm.Cond.code ({ cls := "FileVolumeModel", name := "sizeOf", desc := "(I)I" } : Jvm.MethodName) prog_9_method_44_code (2 : Nat) (Option.some Jvm.ClassFile.FieldType.int)) ∈ am_tw := am_mem 1084 (by decide +kernel) (by decide +kernel)
theorem tw_1085 : (Jvm.Cond.methodLink "FileVolumeLaw" (87 : Nat) ({ cls := "FileVolumeModel", name := "read", desc := "(II)J" } : Jvm.MethodName)) ∈ am_tw := am_mem 1085 (by decide +kernel) (by decide +kernel)
theorem tw_1086 : (Jvm.Cond.instanceMethod ({ cls := "FileVolumeModel", name := "read", desc := "(II)J" } : Jvm.MethodName)) ∈ am_tw := am_mem 1086 (by decide +kernel) (by decide +kernel)
theorem tw_1087 : (Jvm.Cond.selects "FileVolumeModel" ({ cls := "FileVolumeModel", name := "read", desc := "(II)J" } : Jvm.MethodName) ({ cls := "FileVolumeModel", name := "read", desc := "(II)J" } : Jvm.MethodName)) ∈ am_tw := am_mem 1087 (by decide +kernel) (by decide +kernel)
theorem tw_1088 : (Jvm.Cond.code ({ cls := "FileVolumeModel", name := "read", desc := "(II)J" } : Jvm.MethodName) prog_9_method_47_code (8 : Nat) (Option.some Jvm.ClassFile.FieldType.long)) ∈ am_tw := am_mem 1088 (by decide +kernel) (by decide +kernel)
theorem tw_1089 : (Jvm.Cond.constantLong "FileVolumeModel" (186 : Nat) (256 : Int64)) ∈ am_tw := am_mem 1089 (by decide +kernel) (by decide +kernel)
theorem tw_1090 : (Jvm.Cond.methodLink "FileVolumeModel" (188 : Nat) ({ cls := "FileVolumeModel", name := "byteOf", desc := "(II)I" } : Jvm.MethodName)) ∈ am_tw := am_mem 1090 (by decide +kernel) (by decide +kernel)
theorem tw_1092 : (Jvm.Cond.instanceMethod ({ cls := "FileVolumeModel", name := "byteOf", desc := "(II)I" } : Jvm.MethodName)) ∈ am_tw := am_mem 1092 (by decide +kernel) (by decide +kernel)
theorem tw_1093 : (Jvm.Cond.code ({ cls := "FileVolumeModel", name := "byteOf", desc := "(II)I" } : Jvm.MethodName) prog_9_method_46_code (3 : Nat) (Option.some Jvm.ClassFile.FieldType.int)) ∈ am_tw := am_mem 1093 (by decide +kernel) (by decide +kernel)
theorem tw_1094 : (Jvm.Cond.methodLink "FileVolumeLaw" (93 : Nat) ({ cls := "FileVolumeModel", name := "write", desc := "(IJI)I" } : Jvm.MethodName)) ∈ am_tw := am_mem 1094 (by decide +kernel) (by decide +kernel)
theorem tw_1095 : (Jvm.Cond.instanceMethod ({ cls := "FileVolumeModel", name := "write", desc := "(IJI)I" } : Jvm.MethodName)) ∈ am_tw := am_mem 1095 (by decide +kernel) (by decide +kernel)
theorem tw_1096 : (Jvm.Cond.selects "FileVolumeModel" ({ cls := "FileVolumeModel", name := "write", desc := "(IJI)I" } : Jvm.MethodName) ({ cls := "FileVolumeModel", name := "write", desc := "(IJI)I" } : Jvm.MethodName)) ∈ am_tw := am_mem 1096 (by decide +kernel) (by decide +kernel)
theorem tw_1097 : (Jvm.Cond.code ({ cls := "FileVolumeModel", name := "write", desc := "(IJI)I" } : Jvm.MethodName) prog_9_method_48_code (10 : Nat) (Option.some Jvm.ClassFile.FieldType.int)) ∈ am_tw := am_mem 1097 (by decide +kernel) (by decide +kernel)
theorem tw_1098 : (Jvm.Cond.methodLink "FileVolumeModel" (191 : Nat) ({ cls := "FileVolumeModel", name := "writeNumber", desc := "(II)V" } : Jvm.MethodName)) ∈ am_tw := am_mem 1098 (by decide +kernel) (by decide +kernel)
theorem tw_1100 : (Jvm.Cond.instanceMethod ({ cls := "FileVolumeModel", name := "writeNumber", desc := "(II)V" } : Jvm.MethodName)) ∈ am_tw := am_mem 1100 (by decide +kernel) (by decide +kernel)
theorem tw_1101 : (Jvm.Cond.code ({ cls := "FileVolumeModel", name := "writeNumber", desc := "(II)V" } : Jvm.MethodName) prog_9_method_10_code (3 : Nat) (Option.none : Option Jvm.ClassFile.FieldType)) ∈ am_tw := am_mem 1101 (by decide +kernel) (by decide +kernel)
theorem tw_1102 : (Jvm.Cond.methodLink "FileVolumeModel" (194 : Nat) ({ cls := "FileVolumeModel", name := "fill", desc := "(IIIJI)V" } : Jvm.MethodName)) ∈ am_tw := am_mem 1102 (by decide +kernel) (by decide +kernel)
theorem tw_1104 : (Jvm.Cond.instanceMethod ({ cls := "FileVolumeModel", name := "fill", desc := "(IIIJI)V" } : Jvm.MethodName)) ∈ am_tw := am_mem 1104 (by decide +kernel) (by decide +kernel)
theorem tw_1105 : (Jvm.Cond.code ({ cls := "FileVolumeModel", name := "fill", desc := "(IIIJI)V" } : Jvm.MethodName) prog_9_method_49_code (9 : Nat) (Option.none : Option Jvm.ClassFile.FieldType)) ∈ am_tw := am_mem 1105 (by decide +kernel) (by decide +kernel)
theorem tw_1106 : (Jvm.Cond.constantLong "FileVolumeModel" (198 : Nat) (255 : Int64)) ∈ am_tw := am_mem 1106 (by decide +kernel) (by decide +kernel)
theorem tw_1107 : (Jvm.Cond.methodLink "FileVolumeLaw" (96 : Nat) ({ cls := "FileVolumeModel", name := "list", desc := "(II)I" } : Jvm.MethodName)) ∈ am_tw := am_mem 1107 (by decide +kernel) (by decide +kernel)
theorem tw_1108 : (Jvm.Cond.instanceMethod ({ cls := "FileVolumeModel", name := "list", desc := "(II)I" } : Jvm.MethodName)) ∈ am_tw := am_mem 1108 (by decide +kernel) (by decide +kernel)
theorem tw_1109 : (Jvm.Cond.selects "FileVolumeModel" ({ cls := "FileVolumeModel", name := "list", desc := "(II)I" } : Jvm.MethodName) ({ cls := "FileVolumeModel", name := "list", desc := "(II)I" } : Jvm.MethodName)) ∈ am_tw := am_mem 1109 (by decide +kernel) (by decide +kernel)
theorem tw_1110 : (Jvm.Cond.code ({ cls := "FileVolumeModel", name := "list", desc := "(II)I" } : Jvm.MethodName) prog_9_method_50_code (7 : Nat) (Option.some Jvm.ClassFile.FieldType.int)) ∈ am_tw := am_mem 1110 (by decide +kernel) (by decide +kernel)
theorem tw_1111 : (Jvm.Cond.methodLink "FileVolumeLaw" (100 : Nat) ({ cls := "FileVolumeModel", name := "cut", desc := "(I)Z" } : Jvm.MethodName)) ∈ am_tw := am_mem 1111 (by decide +kernel) (by decide +kernel)
theorem tw_1112 : (Jvm.Cond.instanceMethod ({ cls := "FileVolumeModel", name := "cut", desc := "(I)Z" } : Jvm.MethodName)) ∈ am_tw := am_mem 1112 (by decide +kernel) (by decide +kernel)
theorem tw_1113 : (Jvm.Cond.selects "FileVolumeModel" ({ cls := "FileVolumeModel", name := "cut", desc := "(I)Z" } : Jvm.MethodName) ({ cls := "FileVolumeModel", name := "cut", desc := "(I)Z" } : Jvm.MethodName)) ∈ am_tw := am_mem 1113 (by decide +kernel) (by decide +kernel)
theorem tw_1114 : (Jvm.Cond.code ({ cls := "FileVolumeModel", name := "cut", desc := "(I)Z" } : Jvm.MethodName) prog_9_method_51_code (2 : Nat) (Option.some Jvm.ClassFile.FieldType.boolean)) ∈ am_tw := am_mem 1114 (by decide +kernel) (by decide +kernel)
theorem tw_1115 : (Jvm.Cond.methodLink "FileVolumeLaw" (105 : Nat) ({ cls := "FileVolumeModel", name := "power", desc := "()Z" } : Jvm.MethodName)) ∈ am_tw := am_mem 1115 (by decide +kernel) (by decide +kernel)
theorem tw_1116 : (Jvm.Cond.instanceMethod ({ cls := "FileVolumeModel", name := "power", desc := "()Z" } : Jvm.MethodName)) ∈ am_tw := am_mem 1116 (by decide +kernel) (by decide +kernel)
theorem tw_1117 : (Jvm.Cond.selects "FileVolumeModel" ({ cls := "FileVolumeModel", name := "power", desc := "()Z" } : Jvm.MethodName) ({ cls := "FileVolumeModel", name := "power", desc := "()Z" } : Jvm.MethodName)) ∈ am_tw := am_mem 1117 (by decide +kernel) (by decide +kernel)
theorem tw_1118 : (Jvm.Cond.code ({ cls := "FileVolumeModel", name := "power", desc := "()Z" } : Jvm.MethodName) prog_9_method_52_code (1 : Nat) (Option.some Jvm.ClassFile.FieldType.boolean)) ∈ am_tw := am_mem 1118 (by decide +kernel) (by decide +kernel)
theorem tw_1119 : (Jvm.Cond.methodLink "FileVolumeLaw" (108 : Nat) ({ cls := "FileVolumeModel", name := "repair", desc := "()I" } : Jvm.MethodName)) ∈ am_tw := am_mem 1119 (by decide +kernel) (by decide +kernel)
theorem tw_1120 : (Jvm.Cond.instanceMethod ({ cls := "FileVolumeModel", name := "repair", desc := "()I" } : Jvm.MethodName)) ∈ am_tw := am_mem 1120 (by decide +kernel) (by decide +kernel)
theorem tw_1121 : (Jvm.Cond.selects "FileVolumeModel" ({ cls := "FileVolumeModel", name := "repair", desc := "()I" } : Jvm.MethodName) ({ cls := "FileVolumeModel", name := "repair", desc := "()I" } : Jvm.MethodName)) ∈ am_tw := am_mem 1121 (by decide +kernel) (by decide +kernel)
theorem tw_1122 : (Jvm.Cond.code ({ cls := "FileVolumeModel", name := "repair", desc := "()I" } : Jvm.MethodName) prog_9_method_60_code (2 : Nat) (Option.some Jvm.ClassFile.FieldType.int)) ∈ am_tw := am_mem 1122 (by decide +kernel) (by decide +kernel)
theorem tw_1123 : (Jvm.Cond.methodLink "FileVolumeModel" (220 : Nat) ({ cls := "FileVolumeModel", name := "mendTables", desc := "()V" } : Jvm.MethodName)) ∈ am_tw := am_mem 1123 (by decide +kernel) (by decide +kernel)
theorem tw_1125 : (Jvm.Cond.instanceMethod ({ cls := "FileVolumeModel", name := "mendTables", desc := "()V" } : Jvm.MethodName)) ∈ am_tw := am_mem 1125 (by decide +kernel) (by decide +kernel)
theorem tw_1126 : (Jvm.Cond.code ({ cls := "FileVolumeModel", name := "mendTables", desc := "()V" } : Jvm.MethodName) prog_9_method_54_code (3 : Nat) (Option.none : Option Jvm.ClassFile.FieldType)) ∈ am_tw := am_mem 1126 (by decide +kernel) (by decide +kernel)
theorem tw_1127 : (Jvm.Cond.constant "FileVolumeModel" (203 : Nat) (65534 : Int32)) ∈ am_tw := am_mem 1127 (by decide +kernel) (by decide +kernel)
theorem tw_1128 : (Jvm.Cond.methodLink "FileVolumeModel" (204 : Nat) ({ cls := "FileVolumeModel", name := "fix", desc := "(II)V" } : Jvm.MethodName)) ∈ am_tw := am_mem 1128 (by decide +kernel) (by decide +kernel)
theorem tw_1130 : (Jvm.Cond.instanceMethod ({ cls := "FileVolumeModel", name := "fix", desc := "(II)V" } : Jvm.MethodName)) ∈ am_tw := am_mem 1130 (by decide +kernel) (by decide +kernel)
theorem tw_1131 : (Jvm.Cond.code ({ cls := "FileVolumeModel", name := "fix", desc := "(II)V" } : Jvm.MethodName) prog_9_method_53_code (3 : Nat) (Option.none : Option Jvm.ClassFile.FieldType)) ∈ am_tw := am_mem 1131 (by decide +kernel) (by decide +kernel)
theorem tw_1132 : (Jvm.Cond.methodLink "FileVolumeModel" (214 : Nat) ({ cls := "FileVolumeModel", name := "follow", desc := "(I)I" } : Jvm.MethodName)) ∈ am_tw := am_mem 1132 (by decide +kernel) (by decide +kernel)
theorem tw_1134 : (Jvm.Cond.instanceMethod ({ cls := "FileVolumeModel", name := "follow", desc := "(I)I" } : Jvm.MethodName)) ∈ am_tw := am_mem 1134 (by decide +kernel) (by decide +kernel)
theorem tw_1135 : (Jvm.Cond.code ({ cls := "FileVolumeModel", name := "follow", desc := "(I)I" } : Jvm.MethodName) prog_9_method_55_code (6 : Nat) (Option.some Jvm.ClassFile.FieldType.int)) ∈ am_tw := am_mem 1135 (by decide +kernel) (by decide +kernel)
theorem tw_1136 : (Jvm.Cond.methodLink "FileVolumeModel" (223 : Nat) ({ cls := "FileVolumeModel", name := "walk", desc := "()V" } : Jvm.MethodName)) ∈ am_tw := am_mem 1136 (by decide +kernel) (by decide +kernel)
theorem tw_1138 : (Jvm.Cond.instanceMethod ({ cls := "FileVolumeModel", name := "walk", desc := "()V" } : Jvm.MethodName)) ∈ am_tw := am_mem 1138 (by decide +kernel) (by decide +kernel)
theorem tw_1139 : (Jvm.Cond.code ({ cls := "FileVolumeModel", name := "walk", desc := "()V" } : Jvm.MethodName) prog_9_method_59_code (6 : Nat) (Option.none : Option Jvm.ClassFile.FieldType)) ∈ am_tw := am_mem 1139 (by decide +kernel) (by decide +kernel)
theorem tw_1140 : (Jvm.Cond.methodLink "FileVolumeModel" (207 : Nat) ({ cls := "FileVolumeModel", name := "tells", desc := "(II)Z" } : Jvm.MethodName)) ∈ am_tw := am_mem 1140 (by decide +kernel) (by decide +kernel)
theorem tw_1142 : (Jvm.Cond.instanceMethod ({ cls := "FileVolumeModel", name := "tells", desc := "(II)Z" } : Jvm.MethodName)) ∈ am_tw := am_mem 1142 (by decide +kernel) (by decide +kernel)
theorem tw_1143 : (Jvm.Cond.code ({ cls := "FileVolumeModel", name := "tells", desc := "(II)Z" } : Jvm.MethodName) prog_9_method_58_code (4 : Nat) (Option.some Jvm.ClassFile.FieldType.boolean)) ∈ am_tw := am_mem 1143 (by decide +kernel) (by decide +kernel)
theorem tw_1144 : (Jvm.Cond.methodLink "FileVolumeModel" (211 : Nat) ({ cls := "FileVolumeModel", name := "isBad", desc := "(II)Z" } : Jvm.MethodName)) ∈ am_tw := am_mem 1144 (by decide +kernel) (by decide +kernel)
theorem tw_1146 : (Jvm.Cond.instanceMethod ({ cls := "FileVolumeModel", name := "isBad", desc := "(II)Z" } : Jvm.MethodName)) ∈ am_tw := am_mem 1146 (by decide +kernel) (by decide +kernel)
theorem tw_1147 : (Jvm.Cond.code ({ cls := "FileVolumeModel", name := "isBad", desc := "(II)Z" } : Jvm.MethodName) prog_9_method_57_code (6 : Nat) (Option.some Jvm.ClassFile.FieldType.boolean)) ∈ am_tw := am_mem 1147 (by decide +kernel) (by decide +kernel)
theorem tw_1148 : (Jvm.Cond.methodLink "FileVolumeModel" (217 : Nat) ({ cls := "FileVolumeModel", name := "mendFile", desc := "(II)V" } : Jvm.MethodName)) ∈ am_tw := am_mem 1148 (by decide +kernel) (by decide +kernel)
theorem tw_1150 : (Jvm.Cond.instanceMethod ({ cls := "FileVolumeModel", name := "mendFile", desc := "(II)V" } : Jvm.MethodName)) ∈ am_tw := am_mem 1150 (by decide +kernel) (by decide +kernel)
theorem tw_1151 : (Jvm.Cond.code ({ cls := "FileVolumeModel", name := "mendFile", desc := "(II)V" } : Jvm.MethodName) prog_9_method_56_code (5 : Nat) (Option.none : Option Jvm.ClassFile.FieldType)) ∈ am_tw := am_mem 1151 (by decide +kernel) (by decide +kernel)
theorem tw_1152 : (Jvm.Cond.methodLink "FileVolumeLaw" (112 : Nat) ({ cls := "FileVolumeModel", name := "octet", desc := "(II)I" } : Jvm.MethodName)) ∈ am_tw := am_mem 1152 (by decide +kernel) (by decide +kernel)
theorem tw_1153 : (Jvm.Cond.instanceMethod ({ cls := "FileVolumeModel", name := "octet", desc := "(II)I" } : Jvm.MethodName)) ∈ am_tw := am_mem 1153 (by decide +kernel) (by decide +kernel)
theorem tw_1154 : (Jvm.Cond.selects "FileVolumeModel" ({ cls := "FileVolumeModel", name := "octet", desc := "(II)I" } : Jvm.MethodName) ({ cls := "FileVolumeModel", name := "octet", desc := "(II)I" } : Jvm.MethodName)) ∈ am_tw := am_mem 1154 (by decide +kernel) (by decide +kernel)
theorem tw_1155 : (Jvm.Cond.code ({ cls := "FileVolumeModel", name := "octet", desc := "(II)I" } : Jvm.MethodName) prog_9_method_61_code (3 : Nat) (Option.some Jvm.ClassFile.FieldType.int)) ∈ am_tw := am_mem 1155 (by decide +kernel) (by decide +kernel)
theorem tw_1156 : (Jvm.Cond.methodLink "FileVolumeLaw" (117 : Nat) ({ cls := "FileVolumeModel", name := "poke", desc := "(III)Z" } : Jvm.MethodName)) ∈ am_tw := am_mem 1156 (by decide +kernel) (by decide +kernel)
theorem tw_1157 : (Jvm.Cond.instanceMethod ({ cls := "FileVolumeModel", name := "poke", desc := "(III)Z" } : Jvm.MethodName)) ∈ am_tw := am_mem 1157 (by decide +kernel) (by decide +kernel)
theorem tw_1158 : (Jvm.Cond.selects "FileVolumeModel" ({ cls := "FileVolumeModel", name := "poke", desc := "(III)Z" } : Jvm.MethodName) ({ cls := "FileVolumeModel", name := "poke", desc := "(III)Z" } : Jvm.MethodName)) ∈ am_tw := am_mem 1158 (by decide +kernel) (by decide +kernel)
theorem tw_1159 : (Jvm.Cond.code ({ cls := "FileVolumeModel", name := "poke", desc := "(III)Z" } : Jvm.MethodName) prog_9_method_62_code (4 : Nat) (Option.some Jvm.ClassFile.FieldType.boolean)) ∈ am_tw := am_mem 1159 (by decide +kernel) (by decide +kernel)
theorem tw_1160 : (Jvm.Cond.methodLink "FileVolumeLaw" (122 : Nat) ({ cls := "FileVolumeModel", name := "look", desc := "(I)I" } : Jvm.MethodName)) ∈ am_tw := am_mem 1160 (by decide +kernel) (by decide +kernel)
theorem tw_1161 : (Jvm.Cond.instanceMethod ({ cls := "FileVolumeModel", name := "look", desc := "(I)I" } : Jvm.MethodName)) ∈ am_tw := am_mem 1161 (by decide +kernel) (by decide +kernel)
theorem tw_1162 : (Jvm.Cond.selects "FileVolumeModel" ({ cls := "FileVolumeModel", name := "look", desc := "(I)I" } : Jvm.MethodName) ({ cls := "FileVolumeModel", name := "look", desc := "(I)I" } : Jvm.MethodName)) ∈ am_tw := am_mem 1162 (by decide +kernel) (by decide +kernel)
theorem tw_1163 : (Jvm.Cond.code ({ cls := "FileVolumeModel", name := "look", desc := "(I)I" } : Jvm.MethodName) prog_9_method_63_code (4 : Nat) (Option.some Jvm.ClassFile.FieldType.int)) ∈ am_tw := am_mem 1163 (by decide +kernel) (by decide +kernel)
theorem tw_1164 : (Jvm.Cond.constantLong "FileVolumeLaw" (88 : Nat) (4294967295 : Int64)) ∈ am_tw := am_mem 1164 (by decide +kernel) (by decide +kernel)
theorem tw_1165 : (Jvm.Cond.arrayClass Jvm.ClassFile.FieldType.long) ∈ am_tw := am_mem 1165 (by decide +kernel) (by decide +kernel)
theorem nw_37 : (Jvm.Cond.fieldLinkNest "FileVolume$Name" (28 : Nat) "FileVolume$Session" "line" "[C" "FileVolume") ∈ am_nws := am_nmem 37 (by decide +kernel) (by decide +kernel)
theorem nw_40 : (Jvm.Cond.fieldLinkNest "FileVolume$Name" (19 : Nat) "FileVolume$Session" "lineLength" "I" "FileVolume") ∈ am_nws := am_nmem 40 (by decide +kernel) (by decide +kernel)
theorem nw_42 : (Jvm.Cond.fieldLinkNest "FileVolume$Disk" (35 : Nat) "FileVolume$Session" "lineLength" "I" "FileVolume") ∈ am_nws := am_nmem 42 (by decide +kernel) (by decide +kernel)
theorem nw_43 : (Jvm.Cond.fieldLinkNest "FileVolume" (305 : Nat) "FileVolume$Session" "lineLength" "I" "FileVolume") ∈ am_nws := am_nmem 43 (by decide +kernel) (by decide +kernel)
theorem nw_45 : (Jvm.Cond.fieldLinkNest "FileVolume" (87 : Nat) "FileVolume$Session" "here" "I" "FileVolume") ∈ am_nws := am_nmem 45 (by decide +kernel) (by decide +kernel)
theorem nw_47 : (Jvm.Cond.fieldLinkNest "FileVolume" (95 : Nat) "FileVolume$Session" "depth" "I" "FileVolume") ∈ am_nws := am_nmem 47 (by decide +kernel) (by decide +kernel)
theorem nw_72 : (Jvm.Cond.fieldLinkNest "FileVolume" (262 : Nat) "FileVolume$Disk" "powered" "Z" "FileVolume") ∈ am_nws := am_nmem 72 (by decide +kernel) (by decide +kernel)
theorem nw_73 : (Jvm.Cond.fieldLinkNest "FileVolume" (286 : Nat) "FileVolume$Disk" "suspect" "Z" "FileVolume") ∈ am_nws := am_nmem 73 (by decide +kernel) (by decide +kernel)
theorem nw_75 : (Jvm.Cond.fieldLinkNest "FileVolume" (299 : Nat) "FileVolume$Disk" "writes" "I" "FileVolume") ∈ am_nws := am_nmem 75 (by decide +kernel) (by decide +kernel)
theorem nw_113 : (Jvm.Cond.fieldLinkNest "FileVolume$Repairer" (67 : Nat) "FileVolume$Folder" "count" "I" "FileVolume") ∈ am_nws := am_nmem 113 (by decide +kernel) (by decide +kernel)
theorem nw_115 : (Jvm.Cond.fieldLinkNest "FileVolume" (313 : Nat) "FileVolume$Folder" "lastCluster" "I" "FileVolume") ∈ am_nws := am_nmem 115 (by decide +kernel) (by decide +kernel)
theorem nw_138 : (Jvm.Cond.fieldLinkNest "FileVolume" (289 : Nat) "FileVolume$Repairer" "fixes" "I" "FileVolume") ∈ am_nws := am_nmem 138 (by decide +kernel) (by decide +kernel)
theorem nw_160 : (Jvm.Cond.fieldLinkNest "FileVolume" (148 : Nat) "FileVolume$Name" "length" "I" "FileVolume") ∈ am_nws := am_nmem 160 (by decide +kernel) (by decide +kernel)
theorem nw_161 : (Jvm.Cond.fieldLinkNest "FileVolume$Folder" (84 : Nat) "FileVolume$Name" "length" "I" "FileVolume") ∈ am_nws := am_nmem 161 (by decide +kernel) (by decide +kernel)
theorem nw_162 : (Jvm.Cond.fieldLinkNest "FileVolume" (117 : Nat) "FileVolume$Name" "parts" "I" "FileVolume") ∈ am_nws := am_nmem 162 (by decide +kernel) (by decide +kernel)
theorem nw_411 : (Jvm.Cond.methodLinkNest "FileVolume$Folder" (27 : Nat) ({ cls := "FileVolume", name := "isCluster", desc := "(I)Z" } : Jvm.MethodName) "FileVolume") ∈ am_nws := am_nmem 411 (by decide +kernel) (by decide +kernel)
theorem nw_414 : (Jvm.Cond.methodLinkNest "FileVolume$Folder" (31 : Nat) ({ cls := "FileVolume", name := "sectorOf", desc := "(I)I" } : Jvm.MethodName) "FileVolume") ∈ am_nws := am_nmem 414 (by decide +kernel) (by decide +kernel)
theorem nw_447 : (Jvm.Cond.methodLinkNest "FileVolume$Folder" (89 : Nat) ({ cls := "FileVolume", name := "capital", desc := "(I)I" } : Jvm.MethodName) "FileVolume") ∈ am_nws := am_nmem 447 (by decide +kernel) (by decide +kernel)
theorem nw_459 : (Jvm.Cond.methodLinkNest "FileVolume$Folder" (105 : Nat) ({ cls := "FileVolume", name := "addToSum", desc := "(II)I" } : Jvm.MethodName) "FileVolume") ∈ am_nws := am_nmem 459 (by decide +kernel) (by decide +kernel)
theorem nw_478 : (Jvm.Cond.methodLinkNest "FileVolume$Folder" (115 : Nat) ({ cls := "FileVolume", name := "placeInPart", desc := "(I)I" } : Jvm.MethodName) "FileVolume") ∈ am_nws := am_nmem 478 (by decide +kernel) (by decide +kernel)
theorem nw_489 : (Jvm.Cond.methodLinkNest "FileVolume$Name" (35 : Nat) ({ cls := "FileVolume", name := "isShortChar", desc := "(I)Z" } : Jvm.MethodName) "FileVolume") ∈ am_nws := am_nmem 489 (by decide +kernel) (by decide +kernel)
theorem nw_496 : (Jvm.Cond.methodLinkNest "FileVolume$Name" (55 : Nat) ({ cls := "FileVolume", name := "capital", desc := "(I)I" } : Jvm.MethodName) "FileVolume") ∈ am_nws := am_nmem 496 (by decide +kernel) (by decide +kernel)
theorem nw_547 : (Jvm.Cond.methodLinkNest "FileVolume$Table" (40 : Nat) ({ cls := "FileVolume", name := "sectorOf", desc := "(I)I" } : Jvm.MethodName) "FileVolume") ∈ am_nws := am_nmem 547 (by decide +kernel) (by decide +kernel)
theorem nw_578 : (Jvm.Cond.methodLinkNest "FileVolume$Name" (58 : Nat) ({ cls := "FileVolume", name := "addToSum", desc := "(II)I" } : Jvm.MethodName) "FileVolume") ∈ am_nws := am_nmem 578 (by decide +kernel) (by decide +kernel)
theorem nw_579 : (Jvm.Cond.methodLinkNest "FileVolume$Name" (66 : Nat) ({ cls := "FileVolume", name := "placeInPart", desc := "(I)I" } : Jvm.MethodName) "FileVolume") ∈ am_nws := am_nmem 579 (by decide +kernel) (by decide +kernel)
theorem nw_652 : (Jvm.Cond.methodLinkNest "FileVolume$Table" (47 : Nat) ({ cls := "FileVolume", name := "isCluster", desc := "(I)Z" } : Jvm.MethodName) "FileVolume") ∈ am_nws := am_nmem 652 (by decide +kernel) (by decide +kernel)
theorem nw_803 : (Jvm.Cond.methodLinkNest "FileVolume$Repairer" (52 : Nat) ({ cls := "FileVolume", name := "isCluster", desc := "(I)Z" } : Jvm.MethodName) "FileVolume") ∈ am_nws := am_nmem 803 (by decide +kernel) (by decide +kernel)
theorem nw_815 : (Jvm.Cond.methodLinkNest "FileVolume" (280 : Nat) ({ cls := "FileVolume$Repairer", name := "goThrough", desc := "(II)V" } : Jvm.MethodName) "FileVolume") ∈ am_nws := am_nmem 815 (by decide +kernel) (by decide +kernel)
