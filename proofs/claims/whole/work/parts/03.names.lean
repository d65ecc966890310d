def zR_Dir : String := "ListedNames$Directory"
def zR_Pow : String := "ListedNames$Power"
def zR_Row : String := "ListedNames$Row"
def zR_Set : String := "ListedNames$RowSet"
def zR_Lst : String := "ListedNames"
def zR_Mod : String := "ListedNamesModel"
def zR_Law : String := "ListedNamesLaw"
def zT_Dir : u_T := fun k => match k with
  | 0 => (zR_Dir, "names", "[J", true)
  | 1 => (zR_Dir, "serials", "[I", true)
  | 2 => (zR_Dir, "targets", "[I", true)
  | 3 => (zR_Dir, "nameRows", "LListedNames$RowSet;", true)
  | 4 => (zR_Dir, "serialRows", "LListedNames$RowSet;", true)
  | 5 => (zR_Dir, "size", "I", false)
  | _ => (zR_Dir, "latestSerial", "I", false)
def zt_Dir : Nat → FieldType := fun k => match k with
  | 0 => .array .long
  | 1 => .array .int
  | 2 => .array .int
  | 3 => .object "ListedNames$RowSet"
  | 4 => .object "ListedNames$RowSet"
  | 5 => .int
  | _ => .int
theorem zn_Dir : ∀ a, a < 7 → ∀ b, b < 7 → a ≠ b → (zT_Dir a).2.1 ≠ (zT_Dir b).2.1 := by decide +kernel
theorem zt_Dir_ok : ∀ k, k < 7 → parseFieldDescriptor (zT_Dir k).2.2.1 = some (zt_Dir k) := by decide +kernel
def zT_Pow : u_T := fun k => match k with
  | 0 => (zR_Pow, "supplied", "Z", false)
  | _ => (zR_Pow, "writesLeft", "I", false)
def zt_Pow : Nat → FieldType := fun k => match k with
  | 0 => .boolean
  | _ => .int
theorem zn_Pow : ∀ a, a < 2 → ∀ b, b < 2 → a ≠ b → (zT_Pow a).2.1 ≠ (zT_Pow b).2.1 := by decide +kernel
theorem zt_Pow_ok : ∀ k, k < 2 → parseFieldDescriptor (zT_Pow k).2.2.1 = some (zt_Pow k) := by decide +kernel
def zT_Set : u_T := fun k => match k with
  | 0 => (zR_Set, "rows", "[J", true)
  | _ => (zR_Set, "size", "I", false)
def zt_Set : Nat → FieldType := fun k => match k with
  | 0 => .array .long
  | _ => .int
theorem zn_Set : ∀ a, a < 2 → ∀ b, b < 2 → a ≠ b → (zT_Set a).2.1 ≠ (zT_Set b).2.1 := by decide +kernel
theorem zt_Set_ok : ∀ k, k < 2 → parseFieldDescriptor (zT_Set k).2.2.1 = some (zt_Set k) := by decide +kernel
def zT_Lst : u_T := fun k => match k with
  | 0 => (zR_Lst, "held", "LListedNames$Directory;", false)
  | 1 => (zR_Lst, "draft", "LListedNames$Directory;", false)
  | 2 => (zR_Lst, "power", "LListedNames$Power;", true)
  | 3 => (zR_Lst, "nameAtHand", "J", false)
  | 4 => (zR_Lst, "serialFound", "I", false)
  | _ => (zR_Lst, "latestWrites", "I", false)
def zt_Lst : Nat → FieldType := fun k => match k with
  | 0 => .object "ListedNames$Directory"
  | 1 => .object "ListedNames$Directory"
  | 2 => .object "ListedNames$Power"
  | 3 => .long
  | 4 => .int
  | _ => .int
theorem zn_Lst : ∀ a, a < 6 → ∀ b, b < 6 → a ≠ b → (zT_Lst a).2.1 ≠ (zT_Lst b).2.1 := by decide +kernel
theorem zt_Lst_ok : ∀ k, k < 6 → parseFieldDescriptor (zT_Lst k).2.2.1 = some (zt_Lst k) := by decide +kernel
def zT_Mod : u_T := fun k => match k with
  | 0 => (zR_Mod, "thrown", "I", false)
  | 1 => (zR_Mod, "count", "I", false)
  | 2 => (zR_Mod, "names", "[J", true)
  | 3 => (zR_Mod, "lengths", "[I", true)
  | 4 => (zR_Mod, "serials", "[I", true)
  | 5 => (zR_Mod, "targets", "[I", true)
  | 6 => (zR_Mod, "latest", "I", false)
  | 7 => (zR_Mod, "hand", "J", false)
  | 8 => (zR_Mod, "handLength", "I", false)
  | 9 => (zR_Mod, "foundSerial", "I", false)
  | 10 => (zR_Mod, "rows", "I", false)
  | 11 => (zR_Mod, "rowBytes", "[J", true)
  | 12 => (zR_Mod, "rowLengths", "[I", true)
  | 13 => (zR_Mod, "places", "I", false)
  | 14 => (zR_Mod, "placeBytes", "[J", true)
  | 15 => (zR_Mod, "placeLengths", "[I", true)
  | 16 => (zR_Mod, "off", "Z", false)
  | 17 => (zR_Mod, "left", "I", false)
  | _ => (zR_Mod, "made", "I", false)
def zt_Mod : Nat → FieldType := fun k => match k with
  | 0 => .int
  | 1 => .int
  | 2 => .array .long
  | 3 => .array .int
  | 4 => .array .int
  | 5 => .array .int
  | 6 => .int
  | 7 => .long
  | 8 => .int
  | 9 => .int
  | 10 => .int
  | 11 => .array .long
  | 12 => .array .int
  | 13 => .int
  | 14 => .array .long
  | 15 => .array .int
  | 16 => .boolean
  | 17 => .int
  | _ => .int
theorem zn_Mod : ∀ a, a < 19 → ∀ b, b < 19 → a ≠ b → (zT_Mod a).2.1 ≠ (zT_Mod b).2.1 := by decide +kernel
theorem zt_Mod_ok : ∀ k, k < 19 → parseFieldDescriptor (zT_Mod k).2.2.1 = some (zt_Mod k) := by decide +kernel
abbrev zCl : List vw_C := [(zR_Dir, zT_Dir, 7), (zR_Pow, zT_Pow, 2), (zR_Set, zT_Set, 2), (zR_Lst, zT_Lst, 6), (zR_Mod, zT_Mod, 19)]
abbrev zc_Dir_init : ByteArray := prog_2_method_1_code
def zy_Dir_init : MethodName := ⟨zR_Dir, "<init>", "()V"⟩
theorem zh_Dir_init : zy_Dir_init.cls = zR_Dir ∧ zy_Dir_init.cls ≠ "java/lang/invoke/MethodHandle" ∧ zy_Dir_init.cls ≠ "java/lang/invoke/VarHandle" ∧ (parseMethodDescriptor zy_Dir_init.desc).map (fun d => d.parameters.length) = some 0 := by decide +kernel
abbrev zc_Dir_copyFrom : ByteArray := prog_2_method_2_code
def zy_Dir_copyFrom : MethodName := ⟨zR_Dir, "copyFrom", "(LListedNames$Directory;)V"⟩
theorem zh_Dir_copyFrom : zy_Dir_copyFrom.cls = zR_Dir ∧ zy_Dir_copyFrom.cls ≠ "java/lang/invoke/MethodHandle" ∧ zy_Dir_copyFrom.cls ≠ "java/lang/invoke/VarHandle" ∧ (parseMethodDescriptor zy_Dir_copyFrom.desc).map (fun d => d.parameters.length) = some 1 := by decide +kernel
abbrev zc_Dir_entries : ByteArray := prog_2_method_3_code
def zy_Dir_entries : MethodName := ⟨zR_Dir, "entries", "()I"⟩
theorem zh_Dir_entries : zy_Dir_entries.cls = zR_Dir ∧ zy_Dir_entries.cls ≠ "java/lang/invoke/MethodHandle" ∧ zy_Dir_entries.cls ≠ "java/lang/invoke/VarHandle" ∧ (parseMethodDescriptor zy_Dir_entries.desc).map (fun d => d.parameters.length) = some 0 := by decide +kernel
abbrev zc_Dir_hasMostEntries : ByteArray := prog_2_method_4_code
def zy_Dir_hasMostEntries : MethodName := ⟨zR_Dir, "hasMostEntries", "()Z"⟩
theorem zh_Dir_hasMostEntries : zy_Dir_hasMostEntries.cls = zR_Dir ∧ zy_Dir_hasMostEntries.cls ≠ "java/lang/invoke/MethodHandle" ∧ zy_Dir_hasMostEntries.cls ≠ "java/lang/invoke/VarHandle" ∧ (parseMethodDescriptor zy_Dir_hasMostEntries.desc).map (fun d => d.parameters.length) = some 0 := by decide +kernel
abbrev zc_Dir_serialAt : ByteArray := prog_2_method_5_code
def zy_Dir_serialAt : MethodName := ⟨zR_Dir, "serialAt", "(I)I"⟩
theorem zh_Dir_serialAt : zy_Dir_serialAt.cls = zR_Dir ∧ zy_Dir_serialAt.cls ≠ "java/lang/invoke/MethodHandle" ∧ zy_Dir_serialAt.cls ≠ "java/lang/invoke/VarHandle" ∧ (parseMethodDescriptor zy_Dir_serialAt.desc).map (fun d => d.parameters.length) = some 1 := by decide +kernel
abbrev zc_Dir_nameAt : ByteArray := prog_2_method_6_code
def zy_Dir_nameAt : MethodName := ⟨zR_Dir, "nameAt", "(I)J"⟩
theorem zh_Dir_nameAt : zy_Dir_nameAt.cls = zR_Dir ∧ zy_Dir_nameAt.cls ≠ "java/lang/invoke/MethodHandle" ∧ zy_Dir_nameAt.cls ≠ "java/lang/invoke/VarHandle" ∧ (parseMethodDescriptor zy_Dir_nameAt.desc).map (fun d => d.parameters.length) = some 1 := by decide +kernel
abbrev zc_Dir_targetAt : ByteArray := prog_2_method_7_code
def zy_Dir_targetAt : MethodName := ⟨zR_Dir, "targetAt", "(I)I"⟩
theorem zh_Dir_targetAt : zy_Dir_targetAt.cls = zR_Dir ∧ zy_Dir_targetAt.cls ≠ "java/lang/invoke/MethodHandle" ∧ zy_Dir_targetAt.cls ≠ "java/lang/invoke/VarHandle" ∧ (parseMethodDescriptor zy_Dir_targetAt.desc).map (fun d => d.parameters.length) = some 1 := by decide +kernel
abbrev zc_Dir_indexOfName : ByteArray := prog_2_method_8_code
def zy_Dir_indexOfName : MethodName := ⟨zR_Dir, "indexOfName", "(J)I"⟩
theorem zh_Dir_indexOfName : zy_Dir_indexOfName.cls = zR_Dir ∧ zy_Dir_indexOfName.cls ≠ "java/lang/invoke/MethodHandle" ∧ zy_Dir_indexOfName.cls ≠ "java/lang/invoke/VarHandle" ∧ (parseMethodDescriptor zy_Dir_indexOfName.desc).map (fun d => d.parameters.length) = some 1 := by decide +kernel
abbrev zc_Dir_indexOfSerial : ByteArray := prog_2_method_9_code
def zy_Dir_indexOfSerial : MethodName := ⟨zR_Dir, "indexOfSerial", "(I)I"⟩
theorem zh_Dir_indexOfSerial : zy_Dir_indexOfSerial.cls = zR_Dir ∧ zy_Dir_indexOfSerial.cls ≠ "java/lang/invoke/MethodHandle" ∧ zy_Dir_indexOfSerial.cls ≠ "java/lang/invoke/VarHandle" ∧ (parseMethodDescriptor zy_Dir_indexOfSerial.desc).map (fun d => d.parameters.length) = some 1 := by decide +kernel
abbrev zc_Dir_indexAbove : ByteArray := prog_2_method_10_code
def zy_Dir_indexAbove : MethodName := ⟨zR_Dir, "indexAbove", "(I)I"⟩
theorem zh_Dir_indexAbove : zy_Dir_indexAbove.cls = zR_Dir ∧ zy_Dir_indexAbove.cls ≠ "java/lang/invoke/MethodHandle" ∧ zy_Dir_indexAbove.cls ≠ "java/lang/invoke/VarHandle" ∧ (parseMethodDescriptor zy_Dir_indexAbove.desc).map (fun d => d.parameters.length) = some 1 := by decide +kernel
abbrev zc_Dir_indexListed : ByteArray := prog_2_method_11_code
def zy_Dir_indexListed : MethodName := ⟨zR_Dir, "indexListed", "(IJI)I"⟩
theorem zh_Dir_indexListed : zy_Dir_indexListed.cls = zR_Dir ∧ zy_Dir_indexListed.cls ≠ "java/lang/invoke/MethodHandle" ∧ zy_Dir_indexListed.cls ≠ "java/lang/invoke/VarHandle" ∧ (parseMethodDescriptor zy_Dir_indexListed.desc).map (fun d => d.parameters.length) = some 3 := by decide +kernel
abbrev zc_Dir_namesBefore : ByteArray := prog_2_method_12_code
def zy_Dir_namesBefore : MethodName := ⟨zR_Dir, "namesBefore", "(J)I"⟩
theorem zh_Dir_namesBefore : zy_Dir_namesBefore.cls = zR_Dir ∧ zy_Dir_namesBefore.cls ≠ "java/lang/invoke/MethodHandle" ∧ zy_Dir_namesBefore.cls ≠ "java/lang/invoke/VarHandle" ∧ (parseMethodDescriptor zy_Dir_namesBefore.desc).map (fun d => d.parameters.length) = some 1 := by decide +kernel
abbrev zc_Dir_enter : ByteArray := prog_2_method_13_code
def zy_Dir_enter : MethodName := ⟨zR_Dir, "enter", "(JI)I"⟩
theorem zh_Dir_enter : zy_Dir_enter.cls = zR_Dir ∧ zy_Dir_enter.cls ≠ "java/lang/invoke/MethodHandle" ∧ zy_Dir_enter.cls ≠ "java/lang/invoke/VarHandle" ∧ (parseMethodDescriptor zy_Dir_enter.desc).map (fun d => d.parameters.length) = some 2 := by decide +kernel
abbrev zc_Dir_drop : ByteArray := prog_2_method_14_code
def zy_Dir_drop : MethodName := ⟨zR_Dir, "drop", "(I)V"⟩
theorem zh_Dir_drop : zy_Dir_drop.cls = zR_Dir ∧ zy_Dir_drop.cls ≠ "java/lang/invoke/MethodHandle" ∧ zy_Dir_drop.cls ≠ "java/lang/invoke/VarHandle" ∧ (parseMethodDescriptor zy_Dir_drop.desc).map (fun d => d.parameters.length) = some 1 := by decide +kernel
abbrev zc_Dir_giveTarget : ByteArray := prog_2_method_15_code
def zy_Dir_giveTarget : MethodName := ⟨zR_Dir, "giveTarget", "(II)V"⟩
theorem zh_Dir_giveTarget : zy_Dir_giveTarget.cls = zR_Dir ∧ zy_Dir_giveTarget.cls ≠ "java/lang/invoke/MethodHandle" ∧ zy_Dir_giveTarget.cls ≠ "java/lang/invoke/VarHandle" ∧ (parseMethodDescriptor zy_Dir_giveTarget.desc).map (fun d => d.parameters.length) = some 2 := by decide +kernel
abbrev zc_Dir_giveName : ByteArray := prog_2_method_16_code
def zy_Dir_giveName : MethodName := ⟨zR_Dir, "giveName", "(IJ)V"⟩
theorem zh_Dir_giveName : zy_Dir_giveName.cls = zR_Dir ∧ zy_Dir_giveName.cls ≠ "java/lang/invoke/MethodHandle" ∧ zy_Dir_giveName.cls ≠ "java/lang/invoke/VarHandle" ∧ (parseMethodDescriptor zy_Dir_giveName.desc).map (fun d => d.parameters.length) = some 2 := by decide +kernel
abbrev zc_Dir_freePages : ByteArray := prog_2_method_17_code
def zy_Dir_freePages : MethodName := ⟨zR_Dir, "freePages", "()I"⟩
theorem zh_Dir_freePages : zy_Dir_freePages.cls = zR_Dir ∧ zy_Dir_freePages.cls ≠ "java/lang/invoke/MethodHandle" ∧ zy_Dir_freePages.cls ≠ "java/lang/invoke/VarHandle" ∧ (parseMethodDescriptor zy_Dir_freePages.desc).map (fun d => d.parameters.length) = some 0 := by decide +kernel
abbrev zc_Dir_pagesOfName : ByteArray := prog_2_method_18_code
def zy_Dir_pagesOfName : MethodName := ⟨zR_Dir, "pagesOfName", "(J)I"⟩
theorem zh_Dir_pagesOfName : zy_Dir_pagesOfName.cls = zR_Dir ∧ zy_Dir_pagesOfName.cls ≠ "java/lang/invoke/MethodHandle" ∧ zy_Dir_pagesOfName.cls ≠ "java/lang/invoke/VarHandle" ∧ (parseMethodDescriptor zy_Dir_pagesOfName.desc).map (fun d => d.parameters.length) = some 1 := by decide +kernel
abbrev zc_Dir_pagesOfNames : ByteArray := prog_2_method_19_code
def zy_Dir_pagesOfNames : MethodName := ⟨zR_Dir, "pagesOfNames", "(JJ)I"⟩
theorem zh_Dir_pagesOfNames : zy_Dir_pagesOfNames.cls = zR_Dir ∧ zy_Dir_pagesOfNames.cls ≠ "java/lang/invoke/MethodHandle" ∧ zy_Dir_pagesOfNames.cls ≠ "java/lang/invoke/VarHandle" ∧ (parseMethodDescriptor zy_Dir_pagesOfNames.desc).map (fun d => d.parameters.length) = some 2 := by decide +kernel
abbrev zc_Dir_pagesOfSerial : ByteArray := prog_2_method_20_code
def zy_Dir_pagesOfSerial : MethodName := ⟨zR_Dir, "pagesOfSerial", "(I)I"⟩
theorem zh_Dir_pagesOfSerial : zy_Dir_pagesOfSerial.cls = zR_Dir ∧ zy_Dir_pagesOfSerial.cls ≠ "java/lang/invoke/MethodHandle" ∧ zy_Dir_pagesOfSerial.cls ≠ "java/lang/invoke/VarHandle" ∧ (parseMethodDescriptor zy_Dir_pagesOfSerial.desc).map (fun d => d.parameters.length) = some 1 := by decide +kernel
abbrev zc_Pow_init : ByteArray := prog_3_method_1_code
def zy_Pow_init : MethodName := ⟨zR_Pow, "<init>", "()V"⟩
theorem zh_Pow_init : zy_Pow_init.cls = zR_Pow ∧ zy_Pow_init.cls ≠ "java/lang/invoke/MethodHandle" ∧ zy_Pow_init.cls ≠ "java/lang/invoke/VarHandle" ∧ (parseMethodDescriptor zy_Pow_init.desc).map (fun d => d.parameters.length) = some 0 := by decide +kernel
abbrev zc_Pow_isSupplied : ByteArray := prog_3_method_2_code
def zy_Pow_isSupplied : MethodName := ⟨zR_Pow, "isSupplied", "()Z"⟩
theorem zh_Pow_isSupplied : zy_Pow_isSupplied.cls = zR_Pow ∧ zy_Pow_isSupplied.cls ≠ "java/lang/invoke/MethodHandle" ∧ zy_Pow_isSupplied.cls ≠ "java/lang/invoke/VarHandle" ∧ (parseMethodDescriptor zy_Pow_isSupplied.desc).map (fun d => d.parameters.length) = some 0 := by decide +kernel
abbrev zc_Pow_allow : ByteArray := prog_3_method_3_code
def zy_Pow_allow : MethodName := ⟨zR_Pow, "allow", "(I)V"⟩
theorem zh_Pow_allow : zy_Pow_allow.cls = zR_Pow ∧ zy_Pow_allow.cls ≠ "java/lang/invoke/MethodHandle" ∧ zy_Pow_allow.cls ≠ "java/lang/invoke/VarHandle" ∧ (parseMethodDescriptor zy_Pow_allow.desc).map (fun d => d.parameters.length) = some 1 := by decide +kernel
abbrev zc_Pow_restore : ByteArray := prog_3_method_4_code
def zy_Pow_restore : MethodName := ⟨zR_Pow, "restore", "()V"⟩
theorem zh_Pow_restore : zy_Pow_restore.cls = zR_Pow ∧ zy_Pow_restore.cls ≠ "java/lang/invoke/MethodHandle" ∧ zy_Pow_restore.cls ≠ "java/lang/invoke/VarHandle" ∧ (parseMethodDescriptor zy_Pow_restore.desc).map (fun d => d.parameters.length) = some 0 := by decide +kernel
abbrev zc_Pow_write : ByteArray := prog_3_method_5_code
def zy_Pow_write : MethodName := ⟨zR_Pow, "write", "(I)I"⟩
theorem zh_Pow_write : zy_Pow_write.cls = zR_Pow ∧ zy_Pow_write.cls ≠ "java/lang/invoke/MethodHandle" ∧ zy_Pow_write.cls ≠ "java/lang/invoke/VarHandle" ∧ (parseMethodDescriptor zy_Pow_write.desc).map (fun d => d.parameters.length) = some 1 := by decide +kernel
abbrev zc_Row_extended : ByteArray := prog_4_method_2_code
def zy_Row_extended : MethodName := ⟨zR_Row, "extended", "(JII)J"⟩
theorem zh_Row_extended : zy_Row_extended.cls = zR_Row ∧ zy_Row_extended.cls ≠ "java/lang/invoke/MethodHandle" ∧ zy_Row_extended.cls ≠ "java/lang/invoke/VarHandle" ∧ (parseMethodDescriptor zy_Row_extended.desc).map (fun d => d.parameters.length) = some 3 := by decide +kernel
abbrev zc_Row_ofSerial : ByteArray := prog_4_method_3_code
def zy_Row_ofSerial : MethodName := ⟨zR_Row, "ofSerial", "(I)J"⟩
theorem zh_Row_ofSerial : zy_Row_ofSerial.cls = zR_Row ∧ zy_Row_ofSerial.cls ≠ "java/lang/invoke/MethodHandle" ∧ zy_Row_ofSerial.cls ≠ "java/lang/invoke/VarHandle" ∧ (parseMethodDescriptor zy_Row_ofSerial.desc).map (fun d => d.parameters.length) = some 1 := by decide +kernel
abbrev zc_Row_beginning : ByteArray := prog_4_method_4_code
def zy_Row_beginning : MethodName := ⟨zR_Row, "beginning", "(JI)J"⟩
theorem zh_Row_beginning : zy_Row_beginning.cls = zR_Row ∧ zy_Row_beginning.cls ≠ "java/lang/invoke/MethodHandle" ∧ zy_Row_beginning.cls ≠ "java/lang/invoke/VarHandle" ∧ (parseMethodDescriptor zy_Row_beginning.desc).map (fun d => d.parameters.length) = some 2 := by decide +kernel
abbrev zc_Row_lengthOf : ByteArray := prog_4_method_5_code
def zy_Row_lengthOf : MethodName := ⟨zR_Row, "lengthOf", "(J)I"⟩
theorem zh_Row_lengthOf : zy_Row_lengthOf.cls = zR_Row ∧ zy_Row_lengthOf.cls ≠ "java/lang/invoke/MethodHandle" ∧ zy_Row_lengthOf.cls ≠ "java/lang/invoke/VarHandle" ∧ (parseMethodDescriptor zy_Row_lengthOf.desc).map (fun d => d.parameters.length) = some 1 := by decide +kernel
abbrev zc_Row_lengthInCommon : ByteArray := prog_4_method_6_code
def zy_Row_lengthInCommon : MethodName := ⟨zR_Row, "lengthInCommon", "(JJ)I"⟩
theorem zh_Row_lengthInCommon : zy_Row_lengthInCommon.cls = zR_Row ∧ zy_Row_lengthInCommon.cls ≠ "java/lang/invoke/MethodHandle" ∧ zy_Row_lengthInCommon.cls ≠ "java/lang/invoke/VarHandle" ∧ (parseMethodDescriptor zy_Row_lengthInCommon.desc).map (fun d => d.parameters.length) = some 2 := by decide +kernel
abbrev zc_Row_wordOf : ByteArray := prog_4_method_7_code
def zy_Row_wordOf : MethodName := ⟨zR_Row, "wordOf", "(J)J"⟩
theorem zh_Row_wordOf : zy_Row_wordOf.cls = zR_Row ∧ zy_Row_wordOf.cls ≠ "java/lang/invoke/MethodHandle" ∧ zy_Row_wordOf.cls ≠ "java/lang/invoke/VarHandle" ∧ (parseMethodDescriptor zy_Row_wordOf.desc).map (fun d => d.parameters.length) = some 1 := by decide +kernel
abbrev zc_Row_digitAt : ByteArray := prog_4_method_8_code
def zy_Row_digitAt : MethodName := ⟨zR_Row, "digitAt", "(JI)I"⟩
theorem zh_Row_digitAt : zy_Row_digitAt.cls = zR_Row ∧ zy_Row_digitAt.cls ≠ "java/lang/invoke/MethodHandle" ∧ zy_Row_digitAt.cls ≠ "java/lang/invoke/VarHandle" ∧ (parseMethodDescriptor zy_Row_digitAt.desc).map (fun d => d.parameters.length) = some 2 := by decide +kernel
abbrev zc_Set_init : ByteArray := prog_5_method_1_code
def zy_Set_init : MethodName := ⟨zR_Set, "<init>", "()V"⟩
theorem zh_Set_init : zy_Set_init.cls = zR_Set ∧ zy_Set_init.cls ≠ "java/lang/invoke/MethodHandle" ∧ zy_Set_init.cls ≠ "java/lang/invoke/VarHandle" ∧ (parseMethodDescriptor zy_Set_init.desc).map (fun d => d.parameters.length) = some 0 := by decide +kernel
abbrev zc_Set_copyFrom : ByteArray := prog_5_method_2_code
def zy_Set_copyFrom : MethodName := ⟨zR_Set, "copyFrom", "(LListedNames$RowSet;)V"⟩
theorem zh_Set_copyFrom : zy_Set_copyFrom.cls = zR_Set ∧ zy_Set_copyFrom.cls ≠ "java/lang/invoke/MethodHandle" ∧ zy_Set_copyFrom.cls ≠ "java/lang/invoke/VarHandle" ∧ (parseMethodDescriptor zy_Set_copyFrom.desc).map (fun d => d.parameters.length) = some 1 := by decide +kernel
abbrev zc_Set_insert : ByteArray := prog_5_method_3_code
def zy_Set_insert : MethodName := ⟨zR_Set, "insert", "(J)V"⟩
theorem zh_Set_insert : zy_Set_insert.cls = zR_Set ∧ zy_Set_insert.cls ≠ "java/lang/invoke/MethodHandle" ∧ zy_Set_insert.cls ≠ "java/lang/invoke/VarHandle" ∧ (parseMethodDescriptor zy_Set_insert.desc).map (fun d => d.parameters.length) = some 1 := by decide +kernel
abbrev zc_Set_take : ByteArray := prog_5_method_4_code
def zy_Set_take : MethodName := ⟨zR_Set, "take", "(J)V"⟩
theorem zh_Set_take : zy_Set_take.cls = zR_Set ∧ zy_Set_take.cls ≠ "java/lang/invoke/MethodHandle" ∧ zy_Set_take.cls ≠ "java/lang/invoke/VarHandle" ∧ (parseMethodDescriptor zy_Set_take.desc).map (fun d => d.parameters.length) = some 1 := by decide +kernel
abbrev zc_Set_rowsBefore : ByteArray := prog_5_method_5_code
def zy_Set_rowsBefore : MethodName := ⟨zR_Set, "rowsBefore", "(J)I"⟩
theorem zh_Set_rowsBefore : zy_Set_rowsBefore.cls = zR_Set ∧ zy_Set_rowsBefore.cls ≠ "java/lang/invoke/MethodHandle" ∧ zy_Set_rowsBefore.cls ≠ "java/lang/invoke/VarHandle" ∧ (parseMethodDescriptor zy_Set_rowsBefore.desc).map (fun d => d.parameters.length) = some 1 := by decide +kernel
abbrev zc_Set_rowWith : ByteArray := prog_5_method_6_code
def zy_Set_rowWith : MethodName := ⟨zR_Set, "rowWith", "(JII)J"⟩
theorem zh_Set_rowWith : zy_Set_rowWith.cls = zR_Set ∧ zy_Set_rowWith.cls ≠ "java/lang/invoke/MethodHandle" ∧ zy_Set_rowWith.cls ≠ "java/lang/invoke/VarHandle" ∧ (parseMethodDescriptor zy_Set_rowWith.desc).map (fun d => d.parameters.length) = some 3 := by decide +kernel
abbrev zc_Set_places : ByteArray := prog_5_method_7_code
def zy_Set_places : MethodName := ⟨zR_Set, "places", "()I"⟩
theorem zh_Set_places : zy_Set_places.cls = zR_Set ∧ zy_Set_places.cls ≠ "java/lang/invoke/MethodHandle" ∧ zy_Set_places.cls ≠ "java/lang/invoke/VarHandle" ∧ (parseMethodDescriptor zy_Set_places.desc).map (fun d => d.parameters.length) = some 0 := by decide +kernel
abbrev zc_Set_placesAlong : ByteArray := prog_5_method_8_code
def zy_Set_placesAlong : MethodName := ⟨zR_Set, "placesAlong", "(JI)I"⟩
theorem zh_Set_placesAlong : zy_Set_placesAlong.cls = zR_Set ∧ zy_Set_placesAlong.cls ≠ "java/lang/invoke/MethodHandle" ∧ zy_Set_placesAlong.cls ≠ "java/lang/invoke/VarHandle" ∧ (parseMethodDescriptor zy_Set_placesAlong.desc).map (fun d => d.parameters.length) = some 2 := by decide +kernel
abbrev zc_Set_isPlaceAlong : ByteArray := prog_5_method_9_code
def zy_Set_isPlaceAlong : MethodName := ⟨zR_Set, "isPlaceAlong", "(JI)Z"⟩
theorem zh_Set_isPlaceAlong : zy_Set_isPlaceAlong.cls = zR_Set ∧ zy_Set_isPlaceAlong.cls ≠ "java/lang/invoke/MethodHandle" ∧ zy_Set_isPlaceAlong.cls ≠ "java/lang/invoke/VarHandle" ∧ (parseMethodDescriptor zy_Set_isPlaceAlong.desc).map (fun d => d.parameters.length) = some 2 := by decide +kernel
abbrev zc_Set_hasBeginning : ByteArray := prog_5_method_10_code
def zy_Set_hasBeginning : MethodName := ⟨zR_Set, "hasBeginning", "(IJI)Z"⟩
theorem zh_Set_hasBeginning : zy_Set_hasBeginning.cls = zR_Set ∧ zy_Set_hasBeginning.cls ≠ "java/lang/invoke/MethodHandle" ∧ zy_Set_hasBeginning.cls ≠ "java/lang/invoke/VarHandle" ∧ (parseMethodDescriptor zy_Set_hasBeginning.desc).map (fun d => d.parameters.length) = some 3 := by decide +kernel
abbrev zc_Set_isPlace : ByteArray := prog_5_method_11_code
def zy_Set_isPlace : MethodName := ⟨zR_Set, "isPlace", "(II)Z"⟩
theorem zh_Set_isPlace : zy_Set_isPlace.cls = zR_Set ∧ zy_Set_isPlace.cls ≠ "java/lang/invoke/MethodHandle" ∧ zy_Set_isPlace.cls ≠ "java/lang/invoke/VarHandle" ∧ (parseMethodDescriptor zy_Set_isPlace.desc).map (fun d => d.parameters.length) = some 2 := by decide +kernel
abbrev zc_Lst_init : ByteArray := prog_1_method_1_code
def zy_Lst_init : MethodName := ⟨zR_Lst, "<init>", "()V"⟩
theorem zh_Lst_init : zy_Lst_init.cls = zR_Lst ∧ zy_Lst_init.cls ≠ "java/lang/invoke/MethodHandle" ∧ zy_Lst_init.cls ≠ "java/lang/invoke/VarHandle" ∧ (parseMethodDescriptor zy_Lst_init.desc).map (fun d => d.parameters.length) = some 0 := by decide +kernel
abbrev zc_Lst_name : ByteArray := prog_1_method_2_code
def zy_Lst_name : MethodName := ⟨zR_Lst, "name", "(JI)V"⟩
theorem zh_Lst_name : zy_Lst_name.cls = zR_Lst ∧ zy_Lst_name.cls ≠ "java/lang/invoke/MethodHandle" ∧ zy_Lst_name.cls ≠ "java/lang/invoke/VarHandle" ∧ (parseMethodDescriptor zy_Lst_name.desc).map (fun d => d.parameters.length) = some 2 := by decide +kernel
abbrev zc_Lst_add : ByteArray := prog_1_method_3_code
def zy_Lst_add : MethodName := ⟨zR_Lst, "add", "(I)I"⟩
theorem zh_Lst_add : zy_Lst_add.cls = zR_Lst ∧ zy_Lst_add.cls ≠ "java/lang/invoke/MethodHandle" ∧ zy_Lst_add.cls ≠ "java/lang/invoke/VarHandle" ∧ (parseMethodDescriptor zy_Lst_add.desc).map (fun d => d.parameters.length) = some 1 := by decide +kernel
abbrev zc_Lst_remove : ByteArray := prog_1_method_4_code
def zy_Lst_remove : MethodName := ⟨zR_Lst, "remove", "()I"⟩
theorem zh_Lst_remove : zy_Lst_remove.cls = zR_Lst ∧ zy_Lst_remove.cls ≠ "java/lang/invoke/MethodHandle" ∧ zy_Lst_remove.cls ≠ "java/lang/invoke/VarHandle" ∧ (parseMethodDescriptor zy_Lst_remove.desc).map (fun d => d.parameters.length) = some 0 := by decide +kernel
abbrev zc_Lst_replace : ByteArray := prog_1_method_5_code
def zy_Lst_replace : MethodName := ⟨zR_Lst, "replace", "(I)I"⟩
theorem zh_Lst_replace : zy_Lst_replace.cls = zR_Lst ∧ zy_Lst_replace.cls ≠ "java/lang/invoke/MethodHandle" ∧ zy_Lst_replace.cls ≠ "java/lang/invoke/VarHandle" ∧ (parseMethodDescriptor zy_Lst_replace.desc).map (fun d => d.parameters.length) = some 1 := by decide +kernel
abbrev zc_Lst_rename : ByteArray := prog_1_method_6_code
def zy_Lst_rename : MethodName := ⟨zR_Lst, "rename", "(I)I"⟩
theorem zh_Lst_rename : zy_Lst_rename.cls = zR_Lst ∧ zy_Lst_rename.cls ≠ "java/lang/invoke/MethodHandle" ∧ zy_Lst_rename.cls ≠ "java/lang/invoke/VarHandle" ∧ (parseMethodDescriptor zy_Lst_rename.desc).map (fun d => d.parameters.length) = some 1 := by decide +kernel
abbrev zc_Lst_find : ByteArray := prog_1_method_7_code
def zy_Lst_find : MethodName := ⟨zR_Lst, "find", "()I"⟩
theorem zh_Lst_find : zy_Lst_find.cls = zR_Lst ∧ zy_Lst_find.cls ≠ "java/lang/invoke/MethodHandle" ∧ zy_Lst_find.cls ≠ "java/lang/invoke/VarHandle" ∧ (parseMethodDescriptor zy_Lst_find.desc).map (fun d => d.parameters.length) = some 0 := by decide +kernel
abbrev zc_Lst_serial : ByteArray := prog_1_method_8_code
def zy_Lst_serial : MethodName := ⟨zR_Lst, "serial", "()I"⟩
theorem zh_Lst_serial : zy_Lst_serial.cls = zR_Lst ∧ zy_Lst_serial.cls ≠ "java/lang/invoke/MethodHandle" ∧ zy_Lst_serial.cls ≠ "java/lang/invoke/VarHandle" ∧ (parseMethodDescriptor zy_Lst_serial.desc).map (fun d => d.parameters.length) = some 0 := by decide +kernel
abbrev zc_Lst_next : ByteArray := prog_1_method_9_code
def zy_Lst_next : MethodName := ⟨zR_Lst, "next", "(I)I"⟩
theorem zh_Lst_next : zy_Lst_next.cls = zR_Lst ∧ zy_Lst_next.cls ≠ "java/lang/invoke/MethodHandle" ∧ zy_Lst_next.cls ≠ "java/lang/invoke/VarHandle" ∧ (parseMethodDescriptor zy_Lst_next.desc).map (fun d => d.parameters.length) = some 1 := by decide +kernel
abbrev zc_Lst_listed : ByteArray := prog_1_method_10_code
def zy_Lst_listed : MethodName := ⟨zR_Lst, "listed", "(II)I"⟩
theorem zh_Lst_listed : zy_Lst_listed.cls = zR_Lst ∧ zy_Lst_listed.cls ≠ "java/lang/invoke/MethodHandle" ∧ zy_Lst_listed.cls ≠ "java/lang/invoke/VarHandle" ∧ (parseMethodDescriptor zy_Lst_listed.desc).map (fun d => d.parameters.length) = some 2 := by decide +kernel
abbrev zc_Lst_rank : ByteArray := prog_1_method_11_code
def zy_Lst_rank : MethodName := ⟨zR_Lst, "rank", "()I"⟩
theorem zh_Lst_rank : zy_Lst_rank.cls = zR_Lst ∧ zy_Lst_rank.cls ≠ "java/lang/invoke/MethodHandle" ∧ zy_Lst_rank.cls ≠ "java/lang/invoke/VarHandle" ∧ (parseMethodDescriptor zy_Lst_rank.desc).map (fun d => d.parameters.length) = some 0 := by decide +kernel
abbrev zc_Lst_found : ByteArray := prog_1_method_12_code
def zy_Lst_found : MethodName := ⟨zR_Lst, "found", "()J"⟩
theorem zh_Lst_found : zy_Lst_found.cls = zR_Lst ∧ zy_Lst_found.cls ≠ "java/lang/invoke/MethodHandle" ∧ zy_Lst_found.cls ≠ "java/lang/invoke/VarHandle" ∧ (parseMethodDescriptor zy_Lst_found.desc).map (fun d => d.parameters.length) = some 0 := by decide +kernel
abbrev zc_Lst_count : ByteArray := prog_1_method_13_code
def zy_Lst_count : MethodName := ⟨zR_Lst, "count", "()I"⟩
theorem zh_Lst_count : zy_Lst_count.cls = zR_Lst ∧ zy_Lst_count.cls ≠ "java/lang/invoke/MethodHandle" ∧ zy_Lst_count.cls ≠ "java/lang/invoke/VarHandle" ∧ (parseMethodDescriptor zy_Lst_count.desc).map (fun d => d.parameters.length) = some 0 := by decide +kernel
abbrev zc_Lst_free : ByteArray := prog_1_method_14_code
def zy_Lst_free : MethodName := ⟨zR_Lst, "free", "()I"⟩
theorem zh_Lst_free : zy_Lst_free.cls = zR_Lst ∧ zy_Lst_free.cls ≠ "java/lang/invoke/MethodHandle" ∧ zy_Lst_free.cls ≠ "java/lang/invoke/VarHandle" ∧ (parseMethodDescriptor zy_Lst_free.desc).map (fun d => d.parameters.length) = some 0 := by decide +kernel
abbrev zc_Lst_writes : ByteArray := prog_1_method_15_code
def zy_Lst_writes : MethodName := ⟨zR_Lst, "writes", "()I"⟩
theorem zh_Lst_writes : zy_Lst_writes.cls = zR_Lst ∧ zy_Lst_writes.cls ≠ "java/lang/invoke/MethodHandle" ∧ zy_Lst_writes.cls ≠ "java/lang/invoke/VarHandle" ∧ (parseMethodDescriptor zy_Lst_writes.desc).map (fun d => d.parameters.length) = some 0 := by decide +kernel
abbrev zc_Lst_failAfter : ByteArray := prog_1_method_16_code
def zy_Lst_failAfter : MethodName := ⟨zR_Lst, "failAfter", "(I)V"⟩
theorem zh_Lst_failAfter : zy_Lst_failAfter.cls = zR_Lst ∧ zy_Lst_failAfter.cls ≠ "java/lang/invoke/MethodHandle" ∧ zy_Lst_failAfter.cls ≠ "java/lang/invoke/VarHandle" ∧ (parseMethodDescriptor zy_Lst_failAfter.desc).map (fun d => d.parameters.length) = some 1 := by decide +kernel
abbrev zc_Lst_start : ByteArray := prog_1_method_17_code
def zy_Lst_start : MethodName := ⟨zR_Lst, "start", "()Z"⟩
theorem zh_Lst_start : zy_Lst_start.cls = zR_Lst ∧ zy_Lst_start.cls ≠ "java/lang/invoke/MethodHandle" ∧ zy_Lst_start.cls ≠ "java/lang/invoke/VarHandle" ∧ (parseMethodDescriptor zy_Lst_start.desc).map (fun d => d.parameters.length) = some 0 := by decide +kernel
abbrev zc_Lst_isOn : ByteArray := prog_1_method_18_code
def zy_Lst_isOn : MethodName := ⟨zR_Lst, "isOn", "()Z"⟩
theorem zh_Lst_isOn : zy_Lst_isOn.cls = zR_Lst ∧ zy_Lst_isOn.cls ≠ "java/lang/invoke/MethodHandle" ∧ zy_Lst_isOn.cls ≠ "java/lang/invoke/VarHandle" ∧ (parseMethodDescriptor zy_Lst_isOn.desc).map (fun d => d.parameters.length) = some 0 := by decide +kernel
abbrev zc_Lst_requirePower : ByteArray := prog_1_method_19_code
def zy_Lst_requirePower : MethodName := ⟨zR_Lst, "requirePower", "()V"⟩
theorem zh_Lst_requirePower : zy_Lst_requirePower.cls = zR_Lst ∧ zy_Lst_requirePower.cls ≠ "java/lang/invoke/MethodHandle" ∧ zy_Lst_requirePower.cls ≠ "java/lang/invoke/VarHandle" ∧ (parseMethodDescriptor zy_Lst_requirePower.desc).map (fun d => d.parameters.length) = some 0 := by decide +kernel
abbrev zc_Lst_serialAtOrNone : ByteArray := prog_1_method_20_code
def zy_Lst_serialAtOrNone : MethodName := ⟨zR_Lst, "serialAtOrNone", "(I)I"⟩
theorem zh_Lst_serialAtOrNone : zy_Lst_serialAtOrNone.cls = zR_Lst ∧ zy_Lst_serialAtOrNone.cls ≠ "java/lang/invoke/MethodHandle" ∧ zy_Lst_serialAtOrNone.cls ≠ "java/lang/invoke/VarHandle" ∧ (parseMethodDescriptor zy_Lst_serialAtOrNone.desc).map (fun d => d.parameters.length) = some 1 := by decide +kernel
abbrev zc_Lst_carryOut : ByteArray := prog_1_method_21_code
def zy_Lst_carryOut : MethodName := ⟨zR_Lst, "carryOut", "(II)I"⟩
theorem zh_Lst_carryOut : zy_Lst_carryOut.cls = zR_Lst ∧ zy_Lst_carryOut.cls ≠ "java/lang/invoke/MethodHandle" ∧ zy_Lst_carryOut.cls ≠ "java/lang/invoke/VarHandle" ∧ (parseMethodDescriptor zy_Lst_carryOut.desc).map (fun d => d.parameters.length) = some 2 := by decide +kernel
abbrev zc_Mod_init : ByteArray := prog_7_method_1_code
def zy_Mod_init : MethodName := ⟨zR_Mod, "<init>", "()V"⟩
theorem zh_Mod_init : zy_Mod_init.cls = zR_Mod ∧ zy_Mod_init.cls ≠ "java/lang/invoke/MethodHandle" ∧ zy_Mod_init.cls ≠ "java/lang/invoke/VarHandle" ∧ (parseMethodDescriptor zy_Mod_init.desc).map (fun d => d.parameters.length) = some 0 := by decide +kernel
abbrev zc_Mod_thrown : ByteArray := prog_7_method_2_code
def zy_Mod_thrown : MethodName := ⟨zR_Mod, "thrown", "()I"⟩
theorem zh_Mod_thrown : zy_Mod_thrown.cls = zR_Mod ∧ zy_Mod_thrown.cls ≠ "java/lang/invoke/MethodHandle" ∧ zy_Mod_thrown.cls ≠ "java/lang/invoke/VarHandle" ∧ (parseMethodDescriptor zy_Mod_thrown.desc).map (fun d => d.parameters.length) = some 0 := by decide +kernel
abbrev zc_Mod_name : ByteArray := prog_7_method_3_code
def zy_Mod_name : MethodName := ⟨zR_Mod, "name", "(JI)V"⟩
theorem zh_Mod_name : zy_Mod_name.cls = zR_Mod ∧ zy_Mod_name.cls ≠ "java/lang/invoke/MethodHandle" ∧ zy_Mod_name.cls ≠ "java/lang/invoke/VarHandle" ∧ (parseMethodDescriptor zy_Mod_name.desc).map (fun d => d.parameters.length) = some 2 := by decide +kernel
abbrev zc_Mod_firstOf : ByteArray := prog_7_method_4_code
def zy_Mod_firstOf : MethodName := ⟨zR_Mod, "firstOf", "(JI)J"⟩
theorem zh_Mod_firstOf : zy_Mod_firstOf.cls = zR_Mod ∧ zy_Mod_firstOf.cls ≠ "java/lang/invoke/MethodHandle" ∧ zy_Mod_firstOf.cls ≠ "java/lang/invoke/VarHandle" ∧ (parseMethodDescriptor zy_Mod_firstOf.desc).map (fun d => d.parameters.length) = some 2 := by decide +kernel
abbrev zc_Mod_begins : ByteArray := prog_7_method_5_code
def zy_Mod_begins : MethodName := ⟨zR_Mod, "begins", "(JIJI)Z"⟩
theorem zh_Mod_begins : zy_Mod_begins.cls = zR_Mod ∧ zy_Mod_begins.cls ≠ "java/lang/invoke/MethodHandle" ∧ zy_Mod_begins.cls ≠ "java/lang/invoke/VarHandle" ∧ (parseMethodDescriptor zy_Mod_begins.desc).map (fun d => d.parameters.length) = some 4 := by decide +kernel
abbrev zc_Mod_common : ByteArray := prog_7_method_6_code
def zy_Mod_common : MethodName := ⟨zR_Mod, "common", "(JIJI)I"⟩
theorem zh_Mod_common : zy_Mod_common.cls = zR_Mod ∧ zy_Mod_common.cls ≠ "java/lang/invoke/MethodHandle" ∧ zy_Mod_common.cls ≠ "java/lang/invoke/VarHandle" ∧ (parseMethodDescriptor zy_Mod_common.desc).map (fun d => d.parameters.length) = some 4 := by decide +kernel
abbrev zc_Mod_isBefore : ByteArray := prog_7_method_7_code
def zy_Mod_isBefore : MethodName := ⟨zR_Mod, "isBefore", "(JIJI)Z"⟩
theorem zh_Mod_isBefore : zy_Mod_isBefore.cls = zR_Mod ∧ zy_Mod_isBefore.cls ≠ "java/lang/invoke/MethodHandle" ∧ zy_Mod_isBefore.cls ≠ "java/lang/invoke/VarHandle" ∧ (parseMethodDescriptor zy_Mod_isBefore.desc).map (fun d => d.parameters.length) = some 4 := by decide +kernel
abbrev zc_Mod_row : ByteArray := prog_7_method_8_code
def zy_Mod_row : MethodName := ⟨zR_Mod, "row", "(JI)V"⟩
theorem zh_Mod_row : zy_Mod_row.cls = zR_Mod ∧ zy_Mod_row.cls ≠ "java/lang/invoke/MethodHandle" ∧ zy_Mod_row.cls ≠ "java/lang/invoke/VarHandle" ∧ (parseMethodDescriptor zy_Mod_row.desc).map (fun d => d.parameters.length) = some 2 := by decide +kernel
abbrev zc_Mod_lay : ByteArray := prog_7_method_9_code
def zy_Mod_lay : MethodName := ⟨zR_Mod, "lay", "(JI)V"⟩
theorem zh_Mod_lay : zy_Mod_lay.cls = zR_Mod ∧ zy_Mod_lay.cls ≠ "java/lang/invoke/MethodHandle" ∧ zy_Mod_lay.cls ≠ "java/lang/invoke/VarHandle" ∧ (parseMethodDescriptor zy_Mod_lay.desc).map (fun d => d.parameters.length) = some 2 := by decide +kernel
abbrev zc_Mod_layPlaces : ByteArray := prog_7_method_10_code
def zy_Mod_layPlaces : MethodName := ⟨zR_Mod, "layPlaces", "()V"⟩
theorem zh_Mod_layPlaces : zy_Mod_layPlaces.cls = zR_Mod ∧ zy_Mod_layPlaces.cls ≠ "java/lang/invoke/MethodHandle" ∧ zy_Mod_layPlaces.cls ≠ "java/lang/invoke/VarHandle" ∧ (parseMethodDescriptor zy_Mod_layPlaces.desc).map (fun d => d.parameters.length) = some 0 := by decide +kernel
abbrev zc_Mod_beginnings : ByteArray := prog_7_method_11_code
def zy_Mod_beginnings : MethodName := ⟨zR_Mod, "beginnings", "(JIJI)I"⟩
theorem zh_Mod_beginnings : zy_Mod_beginnings.cls = zR_Mod ∧ zy_Mod_beginnings.cls ≠ "java/lang/invoke/MethodHandle" ∧ zy_Mod_beginnings.cls ≠ "java/lang/invoke/VarHandle" ∧ (parseMethodDescriptor zy_Mod_beginnings.desc).map (fun d => d.parameters.length) = some 4 := by decide +kernel
abbrev zc_Mod_rowOf : ByteArray := prog_7_method_12_code
def zy_Mod_rowOf : MethodName := ⟨zR_Mod, "rowOf", "(I)J"⟩
theorem zh_Mod_rowOf : zy_Mod_rowOf.cls = zR_Mod ∧ zy_Mod_rowOf.cls ≠ "java/lang/invoke/MethodHandle" ∧ zy_Mod_rowOf.cls ≠ "java/lang/invoke/VarHandle" ∧ (parseMethodDescriptor zy_Mod_rowOf.desc).map (fun d => d.parameters.length) = some 1 := by decide +kernel
abbrev zc_Mod_layNames : ByteArray := prog_7_method_13_code
def zy_Mod_layNames : MethodName := ⟨zR_Mod, "layNames", "(I)V"⟩
theorem zh_Mod_layNames : zy_Mod_layNames.cls = zR_Mod ∧ zy_Mod_layNames.cls ≠ "java/lang/invoke/MethodHandle" ∧ zy_Mod_layNames.cls ≠ "java/lang/invoke/VarHandle" ∧ (parseMethodDescriptor zy_Mod_layNames.desc).map (fun d => d.parameters.length) = some 1 := by decide +kernel
abbrev zc_Mod_laySerials : ByteArray := prog_7_method_14_code
def zy_Mod_laySerials : MethodName := ⟨zR_Mod, "laySerials", "(I)V"⟩
theorem zh_Mod_laySerials : zy_Mod_laySerials.cls = zR_Mod ∧ zy_Mod_laySerials.cls ≠ "java/lang/invoke/MethodHandle" ∧ zy_Mod_laySerials.cls ≠ "java/lang/invoke/VarHandle" ∧ (parseMethodDescriptor zy_Mod_laySerials.desc).map (fun d => d.parameters.length) = some 1 := by decide +kernel
abbrev zc_Mod_freePages : ByteArray := prog_7_method_15_code
def zy_Mod_freePages : MethodName := ⟨zR_Mod, "freePages", "()I"⟩
theorem zh_Mod_freePages : zy_Mod_freePages.cls = zR_Mod ∧ zy_Mod_freePages.cls ≠ "java/lang/invoke/MethodHandle" ∧ zy_Mod_freePages.cls ≠ "java/lang/invoke/VarHandle" ∧ (parseMethodDescriptor zy_Mod_freePages.desc).map (fun d => d.parameters.length) = some 0 := by decide +kernel
abbrev zc_Mod_entryWith : ByteArray := prog_7_method_16_code
def zy_Mod_entryWith : MethodName := ⟨zR_Mod, "entryWith", "(JI)I"⟩
theorem zh_Mod_entryWith : zy_Mod_entryWith.cls = zR_Mod ∧ zy_Mod_entryWith.cls ≠ "java/lang/invoke/MethodHandle" ∧ zy_Mod_entryWith.cls ≠ "java/lang/invoke/VarHandle" ∧ (parseMethodDescriptor zy_Mod_entryWith.desc).map (fun d => d.parameters.length) = some 2 := by decide +kernel
abbrev zc_Mod_entryOf : ByteArray := prog_7_method_17_code
def zy_Mod_entryOf : MethodName := ⟨zR_Mod, "entryOf", "(I)I"⟩
theorem zh_Mod_entryOf : zy_Mod_entryOf.cls = zR_Mod ∧ zy_Mod_entryOf.cls ≠ "java/lang/invoke/MethodHandle" ∧ zy_Mod_entryOf.cls ≠ "java/lang/invoke/VarHandle" ∧ (parseMethodDescriptor zy_Mod_entryOf.desc).map (fun d => d.parameters.length) = some 1 := by decide +kernel
abbrev zc_Mod_change : ByteArray := prog_7_method_18_code
def zy_Mod_change : MethodName := ⟨zR_Mod, "change", "(I)I"⟩
theorem zh_Mod_change : zy_Mod_change.cls = zR_Mod ∧ zy_Mod_change.cls ≠ "java/lang/invoke/MethodHandle" ∧ zy_Mod_change.cls ≠ "java/lang/invoke/VarHandle" ∧ (parseMethodDescriptor zy_Mod_change.desc).map (fun d => d.parameters.length) = some 1 := by decide +kernel
abbrev zc_Mod_refused : ByteArray := prog_7_method_19_code
def zy_Mod_refused : MethodName := ⟨zR_Mod, "refused", "(Z)Z"⟩
theorem zh_Mod_refused : zy_Mod_refused.cls = zR_Mod ∧ zy_Mod_refused.cls ≠ "java/lang/invoke/MethodHandle" ∧ zy_Mod_refused.cls ≠ "java/lang/invoke/VarHandle" ∧ (parseMethodDescriptor zy_Mod_refused.desc).map (fun d => d.parameters.length) = some 1 := by decide +kernel
abbrev zc_Mod_add : ByteArray := prog_7_method_20_code
def zy_Mod_add : MethodName := ⟨zR_Mod, "add", "(I)I"⟩
theorem zh_Mod_add : zy_Mod_add.cls = zR_Mod ∧ zy_Mod_add.cls ≠ "java/lang/invoke/MethodHandle" ∧ zy_Mod_add.cls ≠ "java/lang/invoke/VarHandle" ∧ (parseMethodDescriptor zy_Mod_add.desc).map (fun d => d.parameters.length) = some 1 := by decide +kernel
abbrev zc_Mod_remove : ByteArray := prog_7_method_21_code
def zy_Mod_remove : MethodName := ⟨zR_Mod, "remove", "()I"⟩
theorem zh_Mod_remove : zy_Mod_remove.cls = zR_Mod ∧ zy_Mod_remove.cls ≠ "java/lang/invoke/MethodHandle" ∧ zy_Mod_remove.cls ≠ "java/lang/invoke/VarHandle" ∧ (parseMethodDescriptor zy_Mod_remove.desc).map (fun d => d.parameters.length) = some 0 := by decide +kernel
abbrev zc_Mod_replace : ByteArray := prog_7_method_22_code
def zy_Mod_replace : MethodName := ⟨zR_Mod, "replace", "(I)I"⟩
theorem zh_Mod_replace : zy_Mod_replace.cls = zR_Mod ∧ zy_Mod_replace.cls ≠ "java/lang/invoke/MethodHandle" ∧ zy_Mod_replace.cls ≠ "java/lang/invoke/VarHandle" ∧ (parseMethodDescriptor zy_Mod_replace.desc).map (fun d => d.parameters.length) = some 1 := by decide +kernel
abbrev zc_Mod_rename : ByteArray := prog_7_method_23_code
def zy_Mod_rename : MethodName := ⟨zR_Mod, "rename", "(I)I"⟩
theorem zh_Mod_rename : zy_Mod_rename.cls = zR_Mod ∧ zy_Mod_rename.cls ≠ "java/lang/invoke/MethodHandle" ∧ zy_Mod_rename.cls ≠ "java/lang/invoke/VarHandle" ∧ (parseMethodDescriptor zy_Mod_rename.desc).map (fun d => d.parameters.length) = some 1 := by decide +kernel
abbrev zc_Mod_find : ByteArray := prog_7_method_24_code
def zy_Mod_find : MethodName := ⟨zR_Mod, "find", "()I"⟩
theorem zh_Mod_find : zy_Mod_find.cls = zR_Mod ∧ zy_Mod_find.cls ≠ "java/lang/invoke/MethodHandle" ∧ zy_Mod_find.cls ≠ "java/lang/invoke/VarHandle" ∧ (parseMethodDescriptor zy_Mod_find.desc).map (fun d => d.parameters.length) = some 0 := by decide +kernel
abbrev zc_Mod_serial : ByteArray := prog_7_method_25_code
def zy_Mod_serial : MethodName := ⟨zR_Mod, "serial", "()I"⟩
theorem zh_Mod_serial : zy_Mod_serial.cls = zR_Mod ∧ zy_Mod_serial.cls ≠ "java/lang/invoke/MethodHandle" ∧ zy_Mod_serial.cls ≠ "java/lang/invoke/VarHandle" ∧ (parseMethodDescriptor zy_Mod_serial.desc).map (fun d => d.parameters.length) = some 0 := by decide +kernel
abbrev zc_Mod_next : ByteArray := prog_7_method_26_code
def zy_Mod_next : MethodName := ⟨zR_Mod, "next", "(I)I"⟩
theorem zh_Mod_next : zy_Mod_next.cls = zR_Mod ∧ zy_Mod_next.cls ≠ "java/lang/invoke/MethodHandle" ∧ zy_Mod_next.cls ≠ "java/lang/invoke/VarHandle" ∧ (parseMethodDescriptor zy_Mod_next.desc).map (fun d => d.parameters.length) = some 1 := by decide +kernel
abbrev zc_Mod_before : ByteArray := prog_7_method_27_code
def zy_Mod_before : MethodName := ⟨zR_Mod, "before", "(II)I"⟩
theorem zh_Mod_before : zy_Mod_before.cls = zR_Mod ∧ zy_Mod_before.cls ≠ "java/lang/invoke/MethodHandle" ∧ zy_Mod_before.cls ≠ "java/lang/invoke/VarHandle" ∧ (parseMethodDescriptor zy_Mod_before.desc).map (fun d => d.parameters.length) = some 2 := by decide +kernel
abbrev zc_Mod_listed : ByteArray := prog_7_method_28_code
def zy_Mod_listed : MethodName := ⟨zR_Mod, "listed", "(II)I"⟩
theorem zh_Mod_listed : zy_Mod_listed.cls = zR_Mod ∧ zy_Mod_listed.cls ≠ "java/lang/invoke/MethodHandle" ∧ zy_Mod_listed.cls ≠ "java/lang/invoke/VarHandle" ∧ (parseMethodDescriptor zy_Mod_listed.desc).map (fun d => d.parameters.length) = some 2 := by decide +kernel
abbrev zc_Mod_rank : ByteArray := prog_7_method_29_code
def zy_Mod_rank : MethodName := ⟨zR_Mod, "rank", "()I"⟩
theorem zh_Mod_rank : zy_Mod_rank.cls = zR_Mod ∧ zy_Mod_rank.cls ≠ "java/lang/invoke/MethodHandle" ∧ zy_Mod_rank.cls ≠ "java/lang/invoke/VarHandle" ∧ (parseMethodDescriptor zy_Mod_rank.desc).map (fun d => d.parameters.length) = some 0 := by decide +kernel
abbrev zc_Mod_found : ByteArray := prog_7_method_30_code
def zy_Mod_found : MethodName := ⟨zR_Mod, "found", "()J"⟩
theorem zh_Mod_found : zy_Mod_found.cls = zR_Mod ∧ zy_Mod_found.cls ≠ "java/lang/invoke/MethodHandle" ∧ zy_Mod_found.cls ≠ "java/lang/invoke/VarHandle" ∧ (parseMethodDescriptor zy_Mod_found.desc).map (fun d => d.parameters.length) = some 0 := by decide +kernel
abbrev zc_Mod_count : ByteArray := prog_7_method_31_code
def zy_Mod_count : MethodName := ⟨zR_Mod, "count", "()I"⟩
theorem zh_Mod_count : zy_Mod_count.cls = zR_Mod ∧ zy_Mod_count.cls ≠ "java/lang/invoke/MethodHandle" ∧ zy_Mod_count.cls ≠ "java/lang/invoke/VarHandle" ∧ (parseMethodDescriptor zy_Mod_count.desc).map (fun d => d.parameters.length) = some 0 := by decide +kernel
abbrev zc_Mod_free : ByteArray := prog_7_method_32_code
def zy_Mod_free : MethodName := ⟨zR_Mod, "free", "()I"⟩
theorem zh_Mod_free : zy_Mod_free.cls = zR_Mod ∧ zy_Mod_free.cls ≠ "java/lang/invoke/MethodHandle" ∧ zy_Mod_free.cls ≠ "java/lang/invoke/VarHandle" ∧ (parseMethodDescriptor zy_Mod_free.desc).map (fun d => d.parameters.length) = some 0 := by decide +kernel
abbrev zc_Mod_writes : ByteArray := prog_7_method_33_code
def zy_Mod_writes : MethodName := ⟨zR_Mod, "writes", "()I"⟩
theorem zh_Mod_writes : zy_Mod_writes.cls = zR_Mod ∧ zy_Mod_writes.cls ≠ "java/lang/invoke/MethodHandle" ∧ zy_Mod_writes.cls ≠ "java/lang/invoke/VarHandle" ∧ (parseMethodDescriptor zy_Mod_writes.desc).map (fun d => d.parameters.length) = some 0 := by decide +kernel
abbrev zc_Mod_failAfter : ByteArray := prog_7_method_34_code
def zy_Mod_failAfter : MethodName := ⟨zR_Mod, "failAfter", "(I)V"⟩
theorem zh_Mod_failAfter : zy_Mod_failAfter.cls = zR_Mod ∧ zy_Mod_failAfter.cls ≠ "java/lang/invoke/MethodHandle" ∧ zy_Mod_failAfter.cls ≠ "java/lang/invoke/VarHandle" ∧ (parseMethodDescriptor zy_Mod_failAfter.desc).map (fun d => d.parameters.length) = some 1 := by decide +kernel
abbrev zc_Mod_start : ByteArray := prog_7_method_35_code
def zy_Mod_start : MethodName := ⟨zR_Mod, "start", "()Z"⟩
theorem zh_Mod_start : zy_Mod_start.cls = zR_Mod ∧ zy_Mod_start.cls ≠ "java/lang/invoke/MethodHandle" ∧ zy_Mod_start.cls ≠ "java/lang/invoke/VarHandle" ∧ (parseMethodDescriptor zy_Mod_start.desc).map (fun d => d.parameters.length) = some 0 := by decide +kernel
abbrev zc_Mod_isOn : ByteArray := prog_7_method_36_code
def zy_Mod_isOn : MethodName := ⟨zR_Mod, "isOn", "()Z"⟩
theorem zh_Mod_isOn : zy_Mod_isOn.cls = zR_Mod ∧ zy_Mod_isOn.cls ≠ "java/lang/invoke/MethodHandle" ∧ zy_Mod_isOn.cls ≠ "java/lang/invoke/VarHandle" ∧ (parseMethodDescriptor zy_Mod_isOn.desc).map (fun d => d.parameters.length) = some 0 := by decide +kernel
abbrev zc_Law_name : ByteArray := method_3_code
def zy_Law_name : MethodName := ⟨zR_Law, "name", "(LListedNames;JI)I"⟩
theorem zh_Law_name : zy_Law_name.cls = zR_Law ∧ zy_Law_name.cls ≠ "java/lang/invoke/MethodHandle" ∧ zy_Law_name.cls ≠ "java/lang/invoke/VarHandle" ∧ (parseMethodDescriptor zy_Law_name.desc).map (fun d => d.parameters.length) = some 3 := by decide +kernel
abbrev zc_Law_add : ByteArray := method_4_code
def zy_Law_add : MethodName := ⟨zR_Law, "add", "(LListedNames;I[J)I"⟩
theorem zh_Law_add : zy_Law_add.cls = zR_Law ∧ zy_Law_add.cls ≠ "java/lang/invoke/MethodHandle" ∧ zy_Law_add.cls ≠ "java/lang/invoke/VarHandle" ∧ (parseMethodDescriptor zy_Law_add.desc).map (fun d => d.parameters.length) = some 3 := by decide +kernel
abbrev zc_Law_remove : ByteArray := method_5_code
def zy_Law_remove : MethodName := ⟨zR_Law, "remove", "(LListedNames;[J)I"⟩
theorem zh_Law_remove : zy_Law_remove.cls = zR_Law ∧ zy_Law_remove.cls ≠ "java/lang/invoke/MethodHandle" ∧ zy_Law_remove.cls ≠ "java/lang/invoke/VarHandle" ∧ (parseMethodDescriptor zy_Law_remove.desc).map (fun d => d.parameters.length) = some 2 := by decide +kernel
abbrev zc_Law_replace : ByteArray := method_6_code
def zy_Law_replace : MethodName := ⟨zR_Law, "replace", "(LListedNames;I[J)I"⟩
theorem zh_Law_replace : zy_Law_replace.cls = zR_Law ∧ zy_Law_replace.cls ≠ "java/lang/invoke/MethodHandle" ∧ zy_Law_replace.cls ≠ "java/lang/invoke/VarHandle" ∧ (parseMethodDescriptor zy_Law_replace.desc).map (fun d => d.parameters.length) = some 3 := by decide +kernel
abbrev zc_Law_rename : ByteArray := method_7_code
def zy_Law_rename : MethodName := ⟨zR_Law, "rename", "(LListedNames;I[J)I"⟩
theorem zh_Law_rename : zy_Law_rename.cls = zR_Law ∧ zy_Law_rename.cls ≠ "java/lang/invoke/MethodHandle" ∧ zy_Law_rename.cls ≠ "java/lang/invoke/VarHandle" ∧ (parseMethodDescriptor zy_Law_rename.desc).map (fun d => d.parameters.length) = some 3 := by decide +kernel
abbrev zc_Law_find : ByteArray := method_8_code
def zy_Law_find : MethodName := ⟨zR_Law, "find", "(LListedNames;[J)I"⟩
theorem zh_Law_find : zy_Law_find.cls = zR_Law ∧ zy_Law_find.cls ≠ "java/lang/invoke/MethodHandle" ∧ zy_Law_find.cls ≠ "java/lang/invoke/VarHandle" ∧ (parseMethodDescriptor zy_Law_find.desc).map (fun d => d.parameters.length) = some 2 := by decide +kernel
abbrev zc_Law_serial : ByteArray := method_9_code
def zy_Law_serial : MethodName := ⟨zR_Law, "serial", "(LListedNames;[J)I"⟩
theorem zh_Law_serial : zy_Law_serial.cls = zR_Law ∧ zy_Law_serial.cls ≠ "java/lang/invoke/MethodHandle" ∧ zy_Law_serial.cls ≠ "java/lang/invoke/VarHandle" ∧ (parseMethodDescriptor zy_Law_serial.desc).map (fun d => d.parameters.length) = some 2 := by decide +kernel
abbrev zc_Law_next : ByteArray := method_10_code
def zy_Law_next : MethodName := ⟨zR_Law, "next", "(LListedNames;I[J)I"⟩
theorem zh_Law_next : zy_Law_next.cls = zR_Law ∧ zy_Law_next.cls ≠ "java/lang/invoke/MethodHandle" ∧ zy_Law_next.cls ≠ "java/lang/invoke/VarHandle" ∧ (parseMethodDescriptor zy_Law_next.desc).map (fun d => d.parameters.length) = some 3 := by decide +kernel
abbrev zc_Law_listed : ByteArray := method_11_code
def zy_Law_listed : MethodName := ⟨zR_Law, "listed", "(LListedNames;II[J)I"⟩
theorem zh_Law_listed : zy_Law_listed.cls = zR_Law ∧ zy_Law_listed.cls ≠ "java/lang/invoke/MethodHandle" ∧ zy_Law_listed.cls ≠ "java/lang/invoke/VarHandle" ∧ (parseMethodDescriptor zy_Law_listed.desc).map (fun d => d.parameters.length) = some 4 := by decide +kernel
abbrev zc_Law_rank : ByteArray := method_12_code
def zy_Law_rank : MethodName := ⟨zR_Law, "rank", "(LListedNames;[J)I"⟩
theorem zh_Law_rank : zy_Law_rank.cls = zR_Law ∧ zy_Law_rank.cls ≠ "java/lang/invoke/MethodHandle" ∧ zy_Law_rank.cls ≠ "java/lang/invoke/VarHandle" ∧ (parseMethodDescriptor zy_Law_rank.desc).map (fun d => d.parameters.length) = some 2 := by decide +kernel
abbrev zc_Law_found : ByteArray := method_13_code
def zy_Law_found : MethodName := ⟨zR_Law, "found", "(LListedNames;[J)I"⟩
theorem zh_Law_found : zy_Law_found.cls = zR_Law ∧ zy_Law_found.cls ≠ "java/lang/invoke/MethodHandle" ∧ zy_Law_found.cls ≠ "java/lang/invoke/VarHandle" ∧ (parseMethodDescriptor zy_Law_found.desc).map (fun d => d.parameters.length) = some 2 := by decide +kernel
abbrev zc_Law_count : ByteArray := method_14_code
def zy_Law_count : MethodName := ⟨zR_Law, "count", "(LListedNames;[J)I"⟩
theorem zh_Law_count : zy_Law_count.cls = zR_Law ∧ zy_Law_count.cls ≠ "java/lang/invoke/MethodHandle" ∧ zy_Law_count.cls ≠ "java/lang/invoke/VarHandle" ∧ (parseMethodDescriptor zy_Law_count.desc).map (fun d => d.parameters.length) = some 2 := by decide +kernel
abbrev zc_Law_free : ByteArray := method_15_code
def zy_Law_free : MethodName := ⟨zR_Law, "free", "(LListedNames;[J)I"⟩
theorem zh_Law_free : zy_Law_free.cls = zR_Law ∧ zy_Law_free.cls ≠ "java/lang/invoke/MethodHandle" ∧ zy_Law_free.cls ≠ "java/lang/invoke/VarHandle" ∧ (parseMethodDescriptor zy_Law_free.desc).map (fun d => d.parameters.length) = some 2 := by decide +kernel
abbrev zc_Law_failAfter : ByteArray := method_16_code
def zy_Law_failAfter : MethodName := ⟨zR_Law, "failAfter", "(LListedNames;I)I"⟩
theorem zh_Law_failAfter : zy_Law_failAfter.cls = zR_Law ∧ zy_Law_failAfter.cls ≠ "java/lang/invoke/MethodHandle" ∧ zy_Law_failAfter.cls ≠ "java/lang/invoke/VarHandle" ∧ (parseMethodDescriptor zy_Law_failAfter.desc).map (fun d => d.parameters.length) = some 2 := by decide +kernel
abbrev zc_Law_law : ByteArray := code
def zy_Law_law : MethodName := ⟨zR_Law, "law", "([I)Z"⟩
theorem zh_Law_law : zy_Law_law.cls = zR_Law ∧ zy_Law_law.cls ≠ "java/lang/invoke/MethodHandle" ∧ zy_Law_law.cls ≠ "java/lang/invoke/VarHandle" ∧ (parseMethodDescriptor zy_Law_law.desc).map (fun d => d.parameters.length) = some 1 := by decide +kernel
