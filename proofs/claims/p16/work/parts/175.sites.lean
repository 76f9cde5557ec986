theorem at_c : ∀ w ∈ Bundle.throwableAtoms ++ (Bundle.throwableSAtoms ++ Bundle.chainSAtoms "java/lang/RuntimeException" ["java/lang/Exception"]), w ∈ am_tw ∨ w ∈ am_nws ∨ w ∈ am_hw := by decide +kernel
theorem at_of {own : String} {ic i1 : Nat} {b1 : ByteArray} {cls : String} (z1 : ∀ w ∈ Bundle.passSAtoms cls "java/lang/RuntimeException" i1 b1, w ∈ am_tw ∨ w ∈ am_nws ∨ w ∈ am_hw)
    (z2 : ∀ w ∈ [Cond.methodLink own ic (Bundle.initS cls), .instantiable cls 6, .selects cls Bundle.tFill0 Bundle.tFill0, .selects cls Bundle.tFill Bundle.tFill,
   .lays cls Bundle.tN "cause" "Ljava/lang/Throwable;", .lays cls Bundle.tN "stackTrace" Bundle.steD, .lays cls Bundle.tN "suppressedExceptions" Bundle.listD, .lays cls Bundle.tN "detailMessage" "Ljava/lang/String;", .lays cls Bundle.tN "backtrace" "Ljava/lang/Object;",
   .isRef (.static Bundle.tN "UNASSIGNED_STACK" Bundle.steD), .isRef (.static Bundle.tN "SUPPRESSED_SENTINEL" Bundle.listD), .fieldLink Bundle.tN 198 Bundle.tN "backtrace" "Ljava/lang/Object;", .lays Bundle.tN Bundle.tN "backtrace" "Ljava/lang/Object;"], w ∈ am_tw ∨ w ∈ am_nws ∨ w ∈ am_hw) :
    ∀ w ∈ am_atoms own ic i1 b1 cls "java/lang/RuntimeException" ["java/lang/Exception"], w ∈ am_tw ∨ w ∈ am_nws ∨ w ∈ am_hw := by
  intro w hw
  rcases List.mem_append.mp hw with z | hw
  · exact at_c w (List.mem_append_left _ z)
  · rcases List.mem_append.mp hw with z | hw
    · exact at_c w (List.mem_append_right _ (List.mem_append_left _ z))
    · rcases List.mem_append.mp hw with z | hw
      · exact z1 w z
      · rcases List.mem_append.mp hw with z | z
        · exact at_c w (List.mem_append_right _ (List.mem_append_right _ z))
        · exact z2 w z
theorem e_IllegalStateException_0 : decode prog_12_method_2_code 0 = .ok (.aload_n 0, 1) := by decide +kernel
theorem e_IllegalStateException_1 : decode prog_12_method_2_code 1 = .ok (.aload_n 1, 1) := by decide +kernel
theorem e_IllegalStateException_2 : decode prog_12_method_2_code 2 = .ok (.invokespecial 7, 3) := by decide +kernel
theorem e_IllegalStateException_5 : decode prog_12_method_2_code 5 = .ok (.return_, 1) := by decide +kernel
theorem at_V_270 : ∀ w ∈ am_atoms "FileVolume" 270 7 prog_12_method_2_code "java/lang/IllegalStateException" "java/lang/RuntimeException" ["java/lang/Exception"], w ∈ am_tw ∨ w ∈ am_nws ∨ w ∈ am_hw := at_of (by decide +kernel) (by decide +kernel)
theorem at_Disk_42 : ∀ w ∈ am_atoms "FileVolume$Disk" 42 7 prog_12_method_2_code "java/lang/IllegalStateException" "java/lang/RuntimeException" ["java/lang/Exception"], w ∈ am_tw ∨ w ∈ am_nws ∨ w ∈ am_hw := at_of (by decide +kernel) (by decide +kernel)
theorem e_IllegalArgumentException_0 : decode prog_11_method_2_code 0 = .ok (.aload_n 0, 1) := by decide +kernel
theorem e_IllegalArgumentException_1 : decode prog_11_method_2_code 1 = .ok (.aload_n 1, 1) := by decide +kernel
theorem e_IllegalArgumentException_2 : decode prog_11_method_2_code 2 = .ok (.invokespecial 7, 3) := by decide +kernel
theorem e_IllegalArgumentException_5 : decode prog_11_method_2_code 5 = .ok (.return_, 1) := by decide +kernel
theorem at_V_84 : ∀ w ∈ am_atoms "FileVolume" 84 7 prog_11_method_2_code "java/lang/IllegalArgumentException" "java/lang/RuntimeException" ["java/lang/Exception"], w ∈ am_tw ∨ w ∈ am_nws ∨ w ∈ am_hw := at_of (by decide +kernel) (by decide +kernel)
theorem e_UnsupportedOperationException_0 : decode prog_18_method_2_code 0 = .ok (.aload_n 0, 1) := by decide +kernel
theorem e_UnsupportedOperationException_1 : decode prog_18_method_2_code 1 = .ok (.aload_n 1, 1) := by decide +kernel
theorem e_UnsupportedOperationException_2 : decode prog_18_method_2_code 2 = .ok (.invokespecial 7, 3) := by decide +kernel
theorem e_UnsupportedOperationException_5 : decode prog_18_method_2_code 5 = .ok (.return_, 1) := by decide +kernel
theorem at_V_110 : ∀ w ∈ am_atoms "FileVolume" 110 7 prog_18_method_2_code "java/lang/UnsupportedOperationException" "java/lang/RuntimeException" ["java/lang/Exception"], w ∈ am_tw ∨ w ∈ am_nws ∨ w ∈ am_hw := at_of (by decide +kernel) (by decide +kernel)
theorem e_NoSuchElementException_0 : decode prog_19_method_4_code 0 = .ok (.aload_n 0, 1) := by decide +kernel
theorem e_NoSuchElementException_1 : decode prog_19_method_4_code 1 = .ok (.aload_n 1, 1) := by decide +kernel
theorem e_NoSuchElementException_2 : decode prog_19_method_4_code 2 = .ok (.invokespecial 13, 3) := by decide +kernel
theorem e_NoSuchElementException_5 : decode prog_19_method_4_code 5 = .ok (.return_, 1) := by decide +kernel
theorem at_V_132 : ∀ w ∈ am_atoms "FileVolume" 132 13 prog_19_method_4_code "java/util/NoSuchElementException" "java/lang/RuntimeException" ["java/lang/Exception"], w ∈ am_tw ∨ w ∈ am_nws ∨ w ∈ am_hw := at_of (by decide +kernel) (by decide +kernel)
theorem e_IndexOutOfBoundsException_0 : decode prog_13_method_2_code 0 = .ok (.aload_n 0, 1) := by decide +kernel
theorem e_IndexOutOfBoundsException_1 : decode prog_13_method_2_code 1 = .ok (.aload_n 1, 1) := by decide +kernel
theorem e_IndexOutOfBoundsException_2 : decode prog_13_method_2_code 2 = .ok (.invokespecial 7, 3) := by decide +kernel
theorem e_IndexOutOfBoundsException_5 : decode prog_13_method_2_code 5 = .ok (.return_, 1) := by decide +kernel
theorem at_V_237 : ∀ w ∈ am_atoms "FileVolume" 237 7 prog_13_method_2_code "java/lang/IndexOutOfBoundsException" "java/lang/RuntimeException" ["java/lang/Exception"], w ∈ am_tw ∨ w ∈ am_nws ∨ w ∈ am_hw := at_of (by decide +kernel) (by decide +kernel)
