section
-- ===== PART A: goes FIRST, ahead of the names: the tables' words, and 'selects' of the private methods out of them =====
/-- a private method of a class that the tables say can be made, by its rows of tables_1 -/
def lw_okq (q : MethodName × Nat) : Prop := (q.1.cls ≠ "java/lang/invoke/MethodHandle" ∧ q.1.cls ≠ "java/lang/invoke/VarHandle") ∧ Cond.instantiable q.1.cls q.2 ∈ tables_1 ∧ Cond.privateMethod q.1 ∈ tables_1 ∧ Cond.instanceMethod q.1 ∈ tables_1
theorem lw_p0 : lw_okq (⟨"FieldDesk", "hearText", "()I"⟩, 5) := ⟨⟨by decide +kernel, by decide +kernel⟩, List.mem_of_getElem? (i := 10) (by decide +kernel), List.mem_of_getElem? (i := 87) (by decide +kernel), List.mem_of_getElem? (i := 88) (by decide +kernel)⟩
theorem lw_p1 : lw_okq (⟨"FieldDesk", "hearKind", "()I"⟩, 5) := ⟨⟨by decide +kernel, by decide +kernel⟩, List.mem_of_getElem? (i := 10) (by decide +kernel), List.mem_of_getElem? (i := 91) (by decide +kernel), List.mem_of_getElem? (i := 92) (by decide +kernel)⟩
theorem lw_p2 : lw_okq (⟨"FieldDesk", "kindWithSigns", "(I)I"⟩, 5) := ⟨⟨by decide +kernel, by decide +kernel⟩, List.mem_of_getElem? (i := 10) (by decide +kernel), List.mem_of_getElem? (i := 95) (by decide +kernel), List.mem_of_getElem? (i := 96) (by decide +kernel)⟩
theorem lw_p3 : lw_okq (⟨"FieldDesk", "textBeginsAs", "(II)Z"⟩, 5) := ⟨⟨by decide +kernel, by decide +kernel⟩, List.mem_of_getElem? (i := 10) (by decide +kernel), List.mem_of_getElem? (i := 99) (by decide +kernel), List.mem_of_getElem? (i := 100) (by decide +kernel)⟩
theorem lw_p4 : lw_okq (⟨"FieldDesk$Message", "dueLegSort", "(I)I"⟩, 4) := ⟨⟨by decide +kernel, by decide +kernel⟩, List.mem_of_getElem? (i := 33) (by decide +kernel), List.mem_of_getElem? (i := 167) (by decide +kernel), List.mem_of_getElem? (i := 168) (by decide +kernel)⟩
theorem lw_p5 : lw_okq (⟨"FieldDesk", "hearField", "(II)I"⟩, 5) := ⟨⟨by decide +kernel, by decide +kernel⟩, List.mem_of_getElem? (i := 10) (by decide +kernel), List.mem_of_getElem? (i := 187) (by decide +kernel), List.mem_of_getElem? (i := 188) (by decide +kernel)⟩
theorem lw_p6 : lw_okq (⟨"FieldDesk", "hearCheckDigits", "(I)I"⟩, 5) := ⟨⟨by decide +kernel, by decide +kernel⟩, List.mem_of_getElem? (i := 10) (by decide +kernel), List.mem_of_getElem? (i := 219) (by decide +kernel), List.mem_of_getElem? (i := 220) (by decide +kernel)⟩
theorem lw_p7 : lw_okq (⟨"FieldDesk", "writeField", "(IJ)V"⟩, 5) := ⟨⟨by decide +kernel, by decide +kernel⟩, List.mem_of_getElem? (i := 10) (by decide +kernel), List.mem_of_getElem? (i := 267) (by decide +kernel), List.mem_of_getElem? (i := 268) (by decide +kernel)⟩
theorem lw_p8 : lw_okq (⟨"FieldDeskModel", "kindOf", "(I)I"⟩, 11) := ⟨⟨by decide +kernel, by decide +kernel⟩, List.mem_of_getElem? (i := 292) (by decide +kernel), List.mem_of_getElem? (i := 341) (by decide +kernel), List.mem_of_getElem? (i := 342) (by decide +kernel)⟩
theorem lw_p9 : lw_okq (⟨"FieldDeskModel", "fault", "(I)I"⟩, 11) := ⟨⟨by decide +kernel, by decide +kernel⟩, List.mem_of_getElem? (i := 292) (by decide +kernel), List.mem_of_getElem? (i := 348) (by decide +kernel), List.mem_of_getElem? (i := 349) (by decide +kernel)⟩
theorem lw_p10 : lw_okq (⟨"FieldDeskModel", "lay", "(I)V"⟩, 11) := ⟨⟨by decide +kernel, by decide +kernel⟩, List.mem_of_getElem? (i := 292) (by decide +kernel), List.mem_of_getElem? (i := 388) (by decide +kernel), List.mem_of_getElem? (i := 389) (by decide +kernel)⟩
theorem lw_p11 : lw_okq (⟨"FieldDeskModel", "nextSort", "()I"⟩, 11) := ⟨⟨by decide +kernel, by decide +kernel⟩, List.mem_of_getElem? (i := 292) (by decide +kernel), List.mem_of_getElem? (i := 396) (by decide +kernel), List.mem_of_getElem? (i := 397) (by decide +kernel)⟩
def lw_privs_1 : List (MethodName × Nat) := [(⟨"FieldDesk", "hearText", "()I"⟩, 5), (⟨"FieldDesk", "hearKind", "()I"⟩, 5), (⟨"FieldDesk", "kindWithSigns", "(I)I"⟩, 5), (⟨"FieldDesk", "textBeginsAs", "(II)Z"⟩, 5), (⟨"FieldDesk$Message", "dueLegSort", "(I)I"⟩, 4), (⟨"FieldDesk", "hearField", "(II)I"⟩, 5), (⟨"FieldDesk", "hearCheckDigits", "(I)I"⟩, 5), (⟨"FieldDesk", "writeField", "(IJ)V"⟩, 5), (⟨"FieldDeskModel", "kindOf", "(I)I"⟩, 11), (⟨"FieldDeskModel", "fault", "(I)I"⟩, 11), (⟨"FieldDeskModel", "lay", "(I)V"⟩, 11), (⟨"FieldDeskModel", "nextSort", "()I"⟩, 11)]
theorem lw_r1 : ∀ q ∈ lw_privs_1, lw_okq q := List.forall_mem_cons.mpr ⟨lw_p0, List.forall_mem_cons.mpr ⟨lw_p1, List.forall_mem_cons.mpr ⟨lw_p2, List.forall_mem_cons.mpr ⟨lw_p3, List.forall_mem_cons.mpr ⟨lw_p4, List.forall_mem_cons.mpr ⟨lw_p5, List.forall_mem_cons.mpr ⟨lw_p6, List.forall_mem_cons.mpr ⟨lw_p7, List.forall_mem_cons.mpr ⟨lw_p8, List.forall_mem_cons.mpr ⟨lw_p9, List.forall_mem_cons.mpr ⟨lw_p10, List.forall_mem_cons.mpr ⟨lw_p11, fun _ h => absurd h List.not_mem_nil⟩⟩⟩⟩⟩⟩⟩⟩⟩⟩⟩⟩
def lw_privs : List (MethodName × Nat) := lw_privs_1
def lw_tbl : List Cond := k2_sels lw_privs ++ tables_1
theorem lw_privs_ok : ∀ q ∈ lw_privs, lw_okq q := lw_r1
theorem goodIn_r {big : List Cond} (ws : List Cond) (ps : List Nat) (hp : ws = ps.filterMap (fun i => big[i]?)) (h : ws.all goodWord = true) : GoodIn big ws := by
  intro w hw
  have h1 := List.all_eq_true.mp h w hw
  rw [hp] at hw
  obtain ⟨i, -, hi⟩ := List.mem_filterMap.mp hw
  have hm : w ∈ big := by first | exact List.mem_of_getElem? hi | exact List.getElem?_mem hi
  exact ⟨hm, good_of_word h1⟩
-- names: class, fields in an order, their types
def nR_R : String := "FieldDesk$Row"
def nT_R : u_T := fun k => match k with
  | 0 => ("FieldDesk$Row", "bytes", "[I", true)
  | _ => ("FieldDesk$Row", "length", "I", false)
def nt_R : Nat → FieldType := fun k => match k with
  | 0 => .array .int
  | _ => .int
theorem nn_R : ∀ a, a < 2 → ∀ b, b < 2 → a ≠ b → (nT_R a).2.1 ≠ (nT_R b).2.1 := by decide +kernel
theorem nt_R_ok : ∀ k, k < 2 → parseFieldDescriptor (nT_R k).2.2.1 = some (nt_R k) := by decide +kernel
def nR_M : String := "FieldDesk$Message"
def nT_M : u_T := fun k => match k with
  | 0 => ("FieldDesk$Message", "sorts", "[I", true)
  | 1 => ("FieldDesk$Message", "numbers", "[J", true)
  | 2 => ("FieldDesk$Message", "kind", "I", false)
  | _ => ("FieldDesk$Message", "count", "I", false)
def nt_M : Nat → FieldType := fun k => match k with
  | 0 => .array .int
  | 1 => .array .long
  | 2 => .int
  | _ => .int
theorem nn_M : ∀ a, a < 4 → ∀ b, b < 4 → a ≠ b → (nT_M a).2.1 ≠ (nT_M b).2.1 := by decide +kernel
theorem nt_M_ok : ∀ k, k < 4 → parseFieldDescriptor (nT_M k).2.2.1 = some (nt_M k) := by decide +kernel
def nR_F : String := "FieldDesk"
def nT_F : u_T := fun k => match k with
  | 0 => ("FieldDesk", "text", "LFieldDesk$Row;", true)
  | 1 => ("FieldDesk", "heard", "LFieldDesk$Message;", true)
  | 2 => ("FieldDesk", "written", "LFieldDesk$Row;", true)
  | 3 => ("FieldDesk", "told", "LFieldDesk$Message;", true)
  | _ => ("FieldDesk", "hasCheckDigits", "Z", false)
def nt_F : Nat → FieldType := fun k => match k with
  | 0 => .object "FieldDesk$Row"
  | 1 => .object "FieldDesk$Message"
  | 2 => .object "FieldDesk$Row"
  | 3 => .object "FieldDesk$Message"
  | _ => .boolean
theorem nn_F : ∀ a, a < 5 → ∀ b, b < 5 → a ≠ b → (nT_F a).2.1 ≠ (nT_F b).2.1 := by decide +kernel
theorem nt_F_ok : ∀ k, k < 5 → parseFieldDescriptor (nT_F k).2.2.1 = some (nt_F k) := by decide +kernel
def nR_D : String := "FieldDeskModel"
def nT_D : u_T := fun k => match k with
  | 0 => ("FieldDeskModel", "text", "[I", true)
  | 1 => ("FieldDeskModel", "size", "I", false)
  | 2 => ("FieldDeskModel", "kind", "I", false)
  | 3 => ("FieldDeskModel", "many", "I", false)
  | 4 => ("FieldDeskModel", "numbers", "[J", true)
  | 5 => ("FieldDeskModel", "writes", "I", false)
  | 6 => ("FieldDeskModel", "closed", "Z", false)
  | 7 => ("FieldDeskModel", "written", "I", false)
  | 8 => ("FieldDeskModel", "out", "[I", true)
  | 9 => ("FieldDeskModel", "added", "I", false)
  | _ => ("FieldDeskModel", "given", "[J", true)
def nt_D : Nat → FieldType := fun k => match k with
  | 0 => .array .int
  | 1 => .int
  | 2 => .int
  | 3 => .int
  | 4 => .array .long
  | 5 => .int
  | 6 => .boolean
  | 7 => .int
  | 8 => .array .int
  | 9 => .int
  | _ => .array .long
theorem nn_D : ∀ a, a < 11 → ∀ b, b < 11 → a ≠ b → (nT_D a).2.1 ≠ (nT_D b).2.1 := by decide +kernel
theorem nt_D_ok : ∀ k, k < 11 → parseFieldDescriptor (nT_D k).2.2.1 = some (nt_D k) := by decide +kernel
abbrev fd_cl : List vw_C := [(nR_R, nT_R, 2), (nR_M, nT_M, 4), (nR_F, nT_F, 5), (nR_D, nT_D, 11)]
def nyO_init : MethodName := ⟨"java/lang/Object", "<init>", "()V"⟩
def nyF_init : MethodName := ⟨"FieldDesk", "<init>", "()V"⟩
abbrev ncF_init : ByteArray := prog_1_method_1_code
abbrev nmF_init : Room := { frames := 2, cells := 0, slots := 0, locals := 33 }
theorem nhF_init : nyF_init.cls = "FieldDesk" ∧ nyF_init.cls ≠ "java/lang/invoke/MethodHandle" ∧ nyF_init.cls ≠ "java/lang/invoke/VarHandle" ∧ (parseMethodDescriptor nyF_init.desc).map (fun d => d.parameters.length) = some 0 := by decide +kernel
def nyF_type : MethodName := ⟨"FieldDesk", "type", "(JI)Z"⟩
abbrev ncF_type : ByteArray := prog_1_method_2_code
abbrev nmF_type : Room := { frames := 1, cells := 0, slots := 0, locals := 21 }
theorem nhF_type : nyF_type.cls = "FieldDesk" ∧ nyF_type.cls ≠ "java/lang/invoke/MethodHandle" ∧ nyF_type.cls ≠ "java/lang/invoke/VarHandle" ∧ (parseMethodDescriptor nyF_type.desc).map (fun d => d.parameters.length) = some 2 := by decide +kernel
def nyF_read : MethodName := ⟨"FieldDesk", "read", "()I"⟩
abbrev ncF_read : ByteArray := prog_1_method_3_code
abbrev nmF_read : Room := { frames := 9, cells := 0, slots := 0, locals := 197 }
theorem nhF_read : nyF_read.cls = "FieldDesk" ∧ nyF_read.cls ≠ "java/lang/invoke/MethodHandle" ∧ nyF_read.cls ≠ "java/lang/invoke/VarHandle" ∧ (parseMethodDescriptor nyF_read.desc).map (fun d => d.parameters.length) = some 0 := by decide +kernel
def nyF_fields : MethodName := ⟨"FieldDesk", "fields", "()I"⟩
abbrev ncF_fields : ByteArray := prog_1_method_4_code
abbrev nmF_fields : Room := { frames := 0, cells := 0, slots := 0, locals := 0 }
theorem nhF_fields : nyF_fields.cls = "FieldDesk" ∧ nyF_fields.cls ≠ "java/lang/invoke/MethodHandle" ∧ nyF_fields.cls ≠ "java/lang/invoke/VarHandle" ∧ (parseMethodDescriptor nyF_fields.desc).map (fun d => d.parameters.length) = some 0 := by decide +kernel
def nyF_sort : MethodName := ⟨"FieldDesk", "sort", "(I)I"⟩
abbrev ncF_sort : ByteArray := prog_1_method_5_code
abbrev nmF_sort : Room := { frames := 1, cells := 0, slots := 0, locals := 21 }
theorem nhF_sort : nyF_sort.cls = "FieldDesk" ∧ nyF_sort.cls ≠ "java/lang/invoke/MethodHandle" ∧ nyF_sort.cls ≠ "java/lang/invoke/VarHandle" ∧ (parseMethodDescriptor nyF_sort.desc).map (fun d => d.parameters.length) = some 1 := by decide +kernel
def nyF_number : MethodName := ⟨"FieldDesk", "number", "(I)J"⟩
abbrev ncF_number : ByteArray := prog_1_method_6_code
abbrev nmF_number : Room := { frames := 1, cells := 0, slots := 0, locals := 21 }
theorem nhF_number : nyF_number.cls = "FieldDesk" ∧ nyF_number.cls ≠ "java/lang/invoke/MethodHandle" ∧ nyF_number.cls ≠ "java/lang/invoke/VarHandle" ∧ (parseMethodDescriptor nyF_number.desc).map (fun d => d.parameters.length) = some 1 := by decide +kernel
def nyF_begin : MethodName := ⟨"FieldDesk", "begin", "(I)Z"⟩
abbrev ncF_begin : ByteArray := prog_1_method_7_code
abbrev nmF_begin : Room := { frames := 5, cells := 0, slots := 0, locals := 107 }
theorem nhF_begin : nyF_begin.cls = "FieldDesk" ∧ nyF_begin.cls ≠ "java/lang/invoke/MethodHandle" ∧ nyF_begin.cls ≠ "java/lang/invoke/VarHandle" ∧ (parseMethodDescriptor nyF_begin.desc).map (fun d => d.parameters.length) = some 1 := by decide +kernel
def nyF_add : MethodName := ⟨"FieldDesk", "add", "(J)Z"⟩
abbrev ncF_add : ByteArray := prog_1_method_8_code
abbrev nmF_add : Room := { frames := 4, cells := 0, slots := 0, locals := 87 }
theorem nhF_add : nyF_add.cls = "FieldDesk" ∧ nyF_add.cls ≠ "java/lang/invoke/MethodHandle" ∧ nyF_add.cls ≠ "java/lang/invoke/VarHandle" ∧ (parseMethodDescriptor nyF_add.desc).map (fun d => d.parameters.length) = some 1 := by decide +kernel
def nyF_end : MethodName := ⟨"FieldDesk", "end", "()I"⟩
abbrev ncF_end : ByteArray := prog_1_method_9_code
abbrev nmF_end : Room := { frames := 3, cells := 0, slots := 0, locals := 64 }
theorem nhF_end : nyF_end.cls = "FieldDesk" ∧ nyF_end.cls ≠ "java/lang/invoke/MethodHandle" ∧ nyF_end.cls ≠ "java/lang/invoke/VarHandle" ∧ (parseMethodDescriptor nyF_end.desc).map (fun d => d.parameters.length) = some 0 := by decide +kernel
def nyF_byteOf : MethodName := ⟨"FieldDesk", "byteOf", "(I)I"⟩
abbrev ncF_byteOf : ByteArray := prog_1_method_10_code
abbrev nmF_byteOf : Room := { frames := 1, cells := 0, slots := 0, locals := 21 }
theorem nhF_byteOf : nyF_byteOf.cls = "FieldDesk" ∧ nyF_byteOf.cls ≠ "java/lang/invoke/MethodHandle" ∧ nyF_byteOf.cls ≠ "java/lang/invoke/VarHandle" ∧ (parseMethodDescriptor nyF_byteOf.desc).map (fun d => d.parameters.length) = some 1 := by decide +kernel
def nyF_copy : MethodName := ⟨"FieldDesk", "copy", "()Z"⟩
abbrev ncF_copy : ByteArray := prog_1_method_11_code
abbrev nmF_copy : Room := { frames := 1, cells := 0, slots := 0, locals := 21 }
theorem nhF_copy : nyF_copy.cls = "FieldDesk" ∧ nyF_copy.cls ≠ "java/lang/invoke/MethodHandle" ∧ nyF_copy.cls ≠ "java/lang/invoke/VarHandle" ∧ (parseMethodDescriptor nyF_copy.desc).map (fun d => d.parameters.length) = some 0 := by decide +kernel
def nyF_hearText : MethodName := ⟨"FieldDesk", "hearText", "()I"⟩
abbrev ncF_hearText : ByteArray := prog_1_method_12_code
abbrev nmF_hearText : Room := { frames := 8, cells := 0, slots := 0, locals := 173 }
theorem nhF_hearText : nyF_hearText.cls = "FieldDesk" ∧ nyF_hearText.cls ≠ "java/lang/invoke/MethodHandle" ∧ nyF_hearText.cls ≠ "java/lang/invoke/VarHandle" ∧ (parseMethodDescriptor nyF_hearText.desc).map (fun d => d.parameters.length) = some 0 := by decide +kernel
def nyF_hearKind : MethodName := ⟨"FieldDesk", "hearKind", "()I"⟩
abbrev ncF_hearKind : ByteArray := prog_1_method_13_code
abbrev nmF_hearKind : Room := { frames := 7, cells := 0, slots := 0, locals := 152 }
theorem nhF_hearKind : nyF_hearKind.cls = "FieldDesk" ∧ nyF_hearKind.cls ≠ "java/lang/invoke/MethodHandle" ∧ nyF_hearKind.cls ≠ "java/lang/invoke/VarHandle" ∧ (parseMethodDescriptor nyF_hearKind.desc).map (fun d => d.parameters.length) = some 0 := by decide +kernel
def nyF_kindWithSigns : MethodName := ⟨"FieldDesk", "kindWithSigns", "(I)I"⟩
abbrev ncF_kindWithSigns : ByteArray := prog_1_method_14_code
abbrev nmF_kindWithSigns : Room := { frames := 6, cells := 0, slots := 0, locals := 130 }
theorem nhF_kindWithSigns : nyF_kindWithSigns.cls = "FieldDesk" ∧ nyF_kindWithSigns.cls ≠ "java/lang/invoke/MethodHandle" ∧ nyF_kindWithSigns.cls ≠ "java/lang/invoke/VarHandle" ∧ (parseMethodDescriptor nyF_kindWithSigns.desc).map (fun d => d.parameters.length) = some 1 := by decide +kernel
def nyF_textBeginsAs : MethodName := ⟨"FieldDesk", "textBeginsAs", "(II)Z"⟩
abbrev ncF_textBeginsAs : ByteArray := prog_1_method_15_code
abbrev nmF_textBeginsAs : Room := { frames := 5, cells := 0, slots := 0, locals := 107 }
theorem nhF_textBeginsAs : nyF_textBeginsAs.cls = "FieldDesk" ∧ nyF_textBeginsAs.cls ≠ "java/lang/invoke/MethodHandle" ∧ nyF_textBeginsAs.cls ≠ "java/lang/invoke/VarHandle" ∧ (parseMethodDescriptor nyF_textBeginsAs.desc).map (fun d => d.parameters.length) = some 2 := by decide +kernel
def nyF_hearField : MethodName := ⟨"FieldDesk", "hearField", "(II)I"⟩
abbrev ncF_hearField : ByteArray := prog_1_method_16_code
abbrev nmF_hearField : Room := { frames := 4, cells := 0, slots := 0, locals := 86 }
theorem nhF_hearField : nyF_hearField.cls = "FieldDesk" ∧ nyF_hearField.cls ≠ "java/lang/invoke/MethodHandle" ∧ nyF_hearField.cls ≠ "java/lang/invoke/VarHandle" ∧ (parseMethodDescriptor nyF_hearField.desc).map (fun d => d.parameters.length) = some 2 := by decide +kernel
def nyF_hearCheckDigits : MethodName := ⟨"FieldDesk", "hearCheckDigits", "(I)I"⟩
abbrev ncF_hearCheckDigits : ByteArray := prog_1_method_17_code
abbrev nmF_hearCheckDigits : Room := { frames := 3, cells := 0, slots := 0, locals := 63 }
theorem nhF_hearCheckDigits : nyF_hearCheckDigits.cls = "FieldDesk" ∧ nyF_hearCheckDigits.cls ≠ "java/lang/invoke/MethodHandle" ∧ nyF_hearCheckDigits.cls ≠ "java/lang/invoke/VarHandle" ∧ (parseMethodDescriptor nyF_hearCheckDigits.desc).map (fun d => d.parameters.length) = some 1 := by decide +kernel
def nyF_writeField : MethodName := ⟨"FieldDesk", "writeField", "(IJ)V"⟩
abbrev ncF_writeField : ByteArray := prog_1_method_18_code
abbrev nmF_writeField : Room := { frames := 1, cells := 0, slots := 0, locals := 22 }
theorem nhF_writeField : nyF_writeField.cls = "FieldDesk" ∧ nyF_writeField.cls ≠ "java/lang/invoke/MethodHandle" ∧ nyF_writeField.cls ≠ "java/lang/invoke/VarHandle" ∧ (parseMethodDescriptor nyF_writeField.desc).map (fun d => d.parameters.length) = some 2 := by decide +kernel
def nyF_isToBase36 : MethodName := ⟨"FieldDesk", "isToBase36", "(I)Z"⟩
abbrev ncF_isToBase36 : ByteArray := prog_1_method_19_code
abbrev nmF_isToBase36 : Room := { frames := 0, cells := 0, slots := 0, locals := 0 }
theorem nhF_isToBase36 : nyF_isToBase36.cls = "FieldDesk" ∧ nyF_isToBase36.cls ≠ "java/lang/invoke/MethodHandle" ∧ nyF_isToBase36.cls ≠ "java/lang/invoke/VarHandle" ∧ (parseMethodDescriptor nyF_isToBase36.desc).map (fun d => d.parameters.length) = some 1 := by decide +kernel
def nyF_valueInSort : MethodName := ⟨"FieldDesk", "valueInSort", "(II)I"⟩
abbrev ncF_valueInSort : ByteArray := prog_1_method_20_code
abbrev nmF_valueInSort : Room := { frames := 2, cells := 0, slots := 0, locals := 40 }
theorem nhF_valueInSort : nyF_valueInSort.cls = "FieldDesk" ∧ nyF_valueInSort.cls ≠ "java/lang/invoke/MethodHandle" ∧ nyF_valueInSort.cls ≠ "java/lang/invoke/VarHandle" ∧ (parseMethodDescriptor nyF_valueInSort.desc).map (fun d => d.parameters.length) = some 2 := by decide +kernel
def nyF_signInSort : MethodName := ⟨"FieldDesk", "signInSort", "(II)I"⟩
abbrev ncF_signInSort : ByteArray := prog_1_method_21_code
abbrev nmF_signInSort : Room := { frames := 0, cells := 0, slots := 0, locals := 0 }
theorem nhF_signInSort : nyF_signInSort.cls = "FieldDesk" ∧ nyF_signInSort.cls ≠ "java/lang/invoke/MethodHandle" ∧ nyF_signInSort.cls ≠ "java/lang/invoke/VarHandle" ∧ (parseMethodDescriptor nyF_signInSort.desc).map (fun d => d.parameters.length) = some 2 := by decide +kernel
def nyF_valueOfClass : MethodName := ⟨"FieldDesk", "valueOfClass", "(I)I"⟩
abbrev ncF_valueOfClass : ByteArray := prog_1_method_22_code
abbrev nmF_valueOfClass : Room := { frames := 0, cells := 0, slots := 0, locals := 0 }
theorem nhF_valueOfClass : nyF_valueOfClass.cls = "FieldDesk" ∧ nyF_valueOfClass.cls ≠ "java/lang/invoke/MethodHandle" ∧ nyF_valueOfClass.cls ≠ "java/lang/invoke/VarHandle" ∧ (parseMethodDescriptor nyF_valueOfClass.desc).map (fun d => d.parameters.length) = some 1 := by decide +kernel
def nyF_valueOfSign : MethodName := ⟨"FieldDesk", "valueOfSign", "(I)I"⟩
abbrev ncF_valueOfSign : ByteArray := prog_1_method_23_code
abbrev nmF_valueOfSign : Room := { frames := 1, cells := 0, slots := 0, locals := 20 }
theorem nhF_valueOfSign : nyF_valueOfSign.cls = "FieldDesk" ∧ nyF_valueOfSign.cls ≠ "java/lang/invoke/MethodHandle" ∧ nyF_valueOfSign.cls ≠ "java/lang/invoke/VarHandle" ∧ (parseMethodDescriptor nyF_valueOfSign.desc).map (fun d => d.parameters.length) = some 1 := by decide +kernel
def nyF_isDigit : MethodName := ⟨"FieldDesk", "isDigit", "(I)Z"⟩
abbrev ncF_isDigit : ByteArray := prog_1_method_24_code
abbrev nmF_isDigit : Room := { frames := 0, cells := 0, slots := 0, locals := 0 }
theorem nhF_isDigit : nyF_isDigit.cls = "FieldDesk" ∧ nyF_isDigit.cls ≠ "java/lang/invoke/MethodHandle" ∧ nyF_isDigit.cls ≠ "java/lang/invoke/VarHandle" ∧ (parseMethodDescriptor nyF_isDigit.desc).map (fun d => d.parameters.length) = some 1 := by decide +kernel
def nyF_letterOf : MethodName := ⟨"FieldDesk", "letterOf", "(II)I"⟩
abbrev ncF_letterOf : ByteArray := prog_1_method_25_code
abbrev nmF_letterOf : Room := { frames := 4, cells := 0, slots := 0, locals := 85 }
theorem nhF_letterOf : nyF_letterOf.cls = "FieldDesk" ∧ nyF_letterOf.cls ≠ "java/lang/invoke/MethodHandle" ∧ nyF_letterOf.cls ≠ "java/lang/invoke/VarHandle" ∧ (parseMethodDescriptor nyF_letterOf.desc).map (fun d => d.parameters.length) = some 2 := by decide +kernel
def nyF_entry : MethodName := ⟨"FieldDesk", "entry", "([II)I"⟩
abbrev ncF_entry : ByteArray := prog_1_method_26_code
abbrev nmF_entry : Room := { frames := 0, cells := 0, slots := 0, locals := 0 }
theorem nhF_entry : nyF_entry.cls = "FieldDesk" ∧ nyF_entry.cls ≠ "java/lang/invoke/MethodHandle" ∧ nyF_entry.cls ≠ "java/lang/invoke/VarHandle" ∧ (parseMethodDescriptor nyF_entry.desc).map (fun d => d.parameters.length) = some 2 := by decide +kernel
def nyD_init : MethodName := ⟨"FieldDeskModel", "<init>", "()V"⟩
abbrev ncD_init : ByteArray := prog_5_method_1_code
abbrev nmD_init : Room := { frames := 1, cells := 0, slots := 0, locals := 12 }
theorem nhD_init : nyD_init.cls = "FieldDeskModel" ∧ nyD_init.cls ≠ "java/lang/invoke/MethodHandle" ∧ nyD_init.cls ≠ "java/lang/invoke/VarHandle" ∧ (parseMethodDescriptor nyD_init.desc).map (fun d => d.parameters.length) = some 0 := by decide +kernel
def nyD_letter : MethodName := ⟨"FieldDeskModel", "letter", "(II)I"⟩
abbrev ncD_letter : ByteArray := prog_5_method_2_code
abbrev nmD_letter : Room := { frames := 0, cells := 0, slots := 0, locals := 0 }
theorem nhD_letter : nyD_letter.cls = "FieldDeskModel" ∧ nyD_letter.cls ≠ "java/lang/invoke/MethodHandle" ∧ nyD_letter.cls ≠ "java/lang/invoke/VarHandle" ∧ (parseMethodDescriptor nyD_letter.desc).map (fun d => d.parameters.length) = some 2 := by decide +kernel
def nyD_sortOf : MethodName := ⟨"FieldDeskModel", "sortOf", "(IIJ)I"⟩
abbrev ncD_sortOf : ByteArray := prog_5_method_3_code
abbrev nmD_sortOf : Room := { frames := 0, cells := 0, slots := 0, locals := 0 }
theorem nhD_sortOf : nyD_sortOf.cls = "FieldDeskModel" ∧ nyD_sortOf.cls ≠ "java/lang/invoke/MethodHandle" ∧ nyD_sortOf.cls ≠ "java/lang/invoke/VarHandle" ∧ (parseMethodDescriptor nyD_sortOf.desc).map (fun d => d.parameters.length) = some 3 := by decide +kernel
def nyD_width : MethodName := ⟨"FieldDeskModel", "width", "(I)I"⟩
abbrev ncD_width : ByteArray := prog_5_method_4_code
abbrev nmD_width : Room := { frames := 0, cells := 0, slots := 0, locals := 0 }
theorem nhD_width : nyD_width.cls = "FieldDeskModel" ∧ nyD_width.cls ≠ "java/lang/invoke/MethodHandle" ∧ nyD_width.cls ≠ "java/lang/invoke/VarHandle" ∧ (parseMethodDescriptor nyD_width.desc).map (fun d => d.parameters.length) = some 1 := by decide +kernel
def nyD_isSign : MethodName := ⟨"FieldDeskModel", "isSign", "(I)Z"⟩
abbrev ncD_isSign : ByteArray := prog_5_method_5_code
abbrev nmD_isSign : Room := { frames := 0, cells := 0, slots := 0, locals := 0 }
theorem nhD_isSign : nyD_isSign.cls = "FieldDeskModel" ∧ nyD_isSign.cls ≠ "java/lang/invoke/MethodHandle" ∧ nyD_isSign.cls ≠ "java/lang/invoke/VarHandle" ∧ (parseMethodDescriptor nyD_isSign.desc).map (fun d => d.parameters.length) = some 1 := by decide +kernel
def nyD_valueOf : MethodName := ⟨"FieldDeskModel", "valueOf", "(I)I"⟩
abbrev ncD_valueOf : ByteArray := prog_5_method_6_code
abbrev nmD_valueOf : Room := { frames := 0, cells := 0, slots := 0, locals := 0 }
theorem nhD_valueOf : nyD_valueOf.cls = "FieldDeskModel" ∧ nyD_valueOf.cls ≠ "java/lang/invoke/MethodHandle" ∧ nyD_valueOf.cls ≠ "java/lang/invoke/VarHandle" ∧ (parseMethodDescriptor nyD_valueOf.desc).map (fun d => d.parameters.length) = some 1 := by decide +kernel
def nyD_fits : MethodName := ⟨"FieldDeskModel", "fits", "(IIZ)Z"⟩
abbrev ncD_fits : ByteArray := prog_5_method_7_code
abbrev nmD_fits : Room := { frames := 1, cells := 0, slots := 0, locals := 20 }
theorem nhD_fits : nyD_fits.cls = "FieldDeskModel" ∧ nyD_fits.cls ≠ "java/lang/invoke/MethodHandle" ∧ nyD_fits.cls ≠ "java/lang/invoke/VarHandle" ∧ (parseMethodDescriptor nyD_fits.desc).map (fun d => d.parameters.length) = some 3 := by decide +kernel
def nyD_step : MethodName := ⟨"FieldDeskModel", "step", "(II)I"⟩
abbrev ncD_step : ByteArray := prog_5_method_8_code
abbrev nmD_step : Room := { frames := 0, cells := 0, slots := 0, locals := 0 }
theorem nhD_step : nyD_step.cls = "FieldDeskModel" ∧ nyD_step.cls ≠ "java/lang/invoke/MethodHandle" ∧ nyD_step.cls ≠ "java/lang/invoke/VarHandle" ∧ (parseMethodDescriptor nyD_step.desc).map (fun d => d.parameters.length) = some 2 := by decide +kernel
def nyD_type : MethodName := ⟨"FieldDeskModel", "type", "(JI)Z"⟩
abbrev ncD_type : ByteArray := prog_5_method_9_code
abbrev nmD_type : Room := { frames := 0, cells := 0, slots := 0, locals := 0 }
theorem nhD_type : nyD_type.cls = "FieldDeskModel" ∧ nyD_type.cls ≠ "java/lang/invoke/MethodHandle" ∧ nyD_type.cls ≠ "java/lang/invoke/VarHandle" ∧ (parseMethodDescriptor nyD_type.desc).map (fun d => d.parameters.length) = some 2 := by decide +kernel
def nyD_kindOf : MethodName := ⟨"FieldDeskModel", "kindOf", "(I)I"⟩
abbrev ncD_kindOf : ByteArray := prog_5_method_10_code
abbrev nmD_kindOf : Room := { frames := 1, cells := 0, slots := 0, locals := 21 }
theorem nhD_kindOf : nyD_kindOf.cls = "FieldDeskModel" ∧ nyD_kindOf.cls ≠ "java/lang/invoke/MethodHandle" ∧ nyD_kindOf.cls ≠ "java/lang/invoke/VarHandle" ∧ (parseMethodDescriptor nyD_kindOf.desc).map (fun d => d.parameters.length) = some 1 := by decide +kernel
def nyD_fault : MethodName := ⟨"FieldDeskModel", "fault", "(I)I"⟩
abbrev ncD_fault : ByteArray := prog_5_method_11_code
abbrev nmD_fault : Room := { frames := 0, cells := 0, slots := 0, locals := 0 }
theorem nhD_fault : nyD_fault.cls = "FieldDeskModel" ∧ nyD_fault.cls ≠ "java/lang/invoke/MethodHandle" ∧ nyD_fault.cls ≠ "java/lang/invoke/VarHandle" ∧ (parseMethodDescriptor nyD_fault.desc).map (fun d => d.parameters.length) = some 1 := by decide +kernel
def nyD_read : MethodName := ⟨"FieldDeskModel", "read", "()I"⟩
abbrev ncD_read : ByteArray := prog_5_method_12_code
abbrev nmD_read : Room := { frames := 2, cells := 0, slots := 0, locals := 45 }
theorem nhD_read : nyD_read.cls = "FieldDeskModel" ∧ nyD_read.cls ≠ "java/lang/invoke/MethodHandle" ∧ nyD_read.cls ≠ "java/lang/invoke/VarHandle" ∧ (parseMethodDescriptor nyD_read.desc).map (fun d => d.parameters.length) = some 0 := by decide +kernel
def nyD_fields : MethodName := ⟨"FieldDeskModel", "fields", "()I"⟩
abbrev ncD_fields : ByteArray := prog_5_method_13_code
abbrev nmD_fields : Room := { frames := 0, cells := 0, slots := 0, locals := 0 }
theorem nhD_fields : nyD_fields.cls = "FieldDeskModel" ∧ nyD_fields.cls ≠ "java/lang/invoke/MethodHandle" ∧ nyD_fields.cls ≠ "java/lang/invoke/VarHandle" ∧ (parseMethodDescriptor nyD_fields.desc).map (fun d => d.parameters.length) = some 0 := by decide +kernel
def nyD_sort : MethodName := ⟨"FieldDeskModel", "sort", "(I)I"⟩
abbrev ncD_sort : ByteArray := prog_5_method_14_code
abbrev nmD_sort : Room := { frames := 1, cells := 0, slots := 0, locals := 24 }
theorem nhD_sort : nyD_sort.cls = "FieldDeskModel" ∧ nyD_sort.cls ≠ "java/lang/invoke/MethodHandle" ∧ nyD_sort.cls ≠ "java/lang/invoke/VarHandle" ∧ (parseMethodDescriptor nyD_sort.desc).map (fun d => d.parameters.length) = some 1 := by decide +kernel
def nyD_number : MethodName := ⟨"FieldDeskModel", "number", "(I)J"⟩
abbrev ncD_number : ByteArray := prog_5_method_15_code
abbrev nmD_number : Room := { frames := 0, cells := 0, slots := 0, locals := 0 }
theorem nhD_number : nyD_number.cls = "FieldDeskModel" ∧ nyD_number.cls ≠ "java/lang/invoke/MethodHandle" ∧ nyD_number.cls ≠ "java/lang/invoke/VarHandle" ∧ (parseMethodDescriptor nyD_number.desc).map (fun d => d.parameters.length) = some 1 := by decide +kernel
def nyD_lay : MethodName := ⟨"FieldDeskModel", "lay", "(I)V"⟩
abbrev ncD_lay : ByteArray := prog_5_method_16_code
abbrev nmD_lay : Room := { frames := 0, cells := 0, slots := 0, locals := 0 }
theorem nhD_lay : nyD_lay.cls = "FieldDeskModel" ∧ nyD_lay.cls ≠ "java/lang/invoke/MethodHandle" ∧ nyD_lay.cls ≠ "java/lang/invoke/VarHandle" ∧ (parseMethodDescriptor nyD_lay.desc).map (fun d => d.parameters.length) = some 1 := by decide +kernel
def nyD_begin : MethodName := ⟨"FieldDeskModel", "begin", "(I)Z"⟩
abbrev ncD_begin : ByteArray := prog_5_method_17_code
abbrev nmD_begin : Room := { frames := 1, cells := 0, slots := 0, locals := 21 }
theorem nhD_begin : nyD_begin.cls = "FieldDeskModel" ∧ nyD_begin.cls ≠ "java/lang/invoke/MethodHandle" ∧ nyD_begin.cls ≠ "java/lang/invoke/VarHandle" ∧ (parseMethodDescriptor nyD_begin.desc).map (fun d => d.parameters.length) = some 1 := by decide +kernel
def nyD_most : MethodName := ⟨"FieldDeskModel", "most", "(I)J"⟩
abbrev ncD_most : ByteArray := prog_5_method_18_code
abbrev nmD_most : Room := { frames := 0, cells := 0, slots := 0, locals := 0 }
theorem nhD_most : nyD_most.cls = "FieldDeskModel" ∧ nyD_most.cls ≠ "java/lang/invoke/MethodHandle" ∧ nyD_most.cls ≠ "java/lang/invoke/VarHandle" ∧ (parseMethodDescriptor nyD_most.desc).map (fun d => d.parameters.length) = some 1 := by decide +kernel
def nyD_nextSort : MethodName := ⟨"FieldDeskModel", "nextSort", "()I"⟩
abbrev ncD_nextSort : ByteArray := prog_5_method_19_code
abbrev nmD_nextSort : Room := { frames := 1, cells := 0, slots := 0, locals := 24 }
theorem nhD_nextSort : nyD_nextSort.cls = "FieldDeskModel" ∧ nyD_nextSort.cls ≠ "java/lang/invoke/MethodHandle" ∧ nyD_nextSort.cls ≠ "java/lang/invoke/VarHandle" ∧ (parseMethodDescriptor nyD_nextSort.desc).map (fun d => d.parameters.length) = some 0 := by decide +kernel
def nyD_add : MethodName := ⟨"FieldDeskModel", "add", "(J)Z"⟩
abbrev ncD_add : ByteArray := prog_5_method_20_code
abbrev nmD_add : Room := { frames := 2, cells := 0, slots := 0, locals := 44 }
theorem nhD_add : nyD_add.cls = "FieldDeskModel" ∧ nyD_add.cls ≠ "java/lang/invoke/MethodHandle" ∧ nyD_add.cls ≠ "java/lang/invoke/VarHandle" ∧ (parseMethodDescriptor nyD_add.desc).map (fun d => d.parameters.length) = some 1 := by decide +kernel
def nyD_end : MethodName := ⟨"FieldDeskModel", "end", "()I"⟩
abbrev ncD_end : ByteArray := prog_5_method_21_code
abbrev nmD_end : Room := { frames := 2, cells := 0, slots := 0, locals := 44 }
theorem nhD_end : nyD_end.cls = "FieldDeskModel" ∧ nyD_end.cls ≠ "java/lang/invoke/MethodHandle" ∧ nyD_end.cls ≠ "java/lang/invoke/VarHandle" ∧ (parseMethodDescriptor nyD_end.desc).map (fun d => d.parameters.length) = some 0 := by decide +kernel
def nyD_byteOf : MethodName := ⟨"FieldDeskModel", "byteOf", "(I)I"⟩
abbrev ncD_byteOf : ByteArray := prog_5_method_22_code
abbrev nmD_byteOf : Room := { frames := 0, cells := 0, slots := 0, locals := 0 }
theorem nhD_byteOf : nyD_byteOf.cls = "FieldDeskModel" ∧ nyD_byteOf.cls ≠ "java/lang/invoke/MethodHandle" ∧ nyD_byteOf.cls ≠ "java/lang/invoke/VarHandle" ∧ (parseMethodDescriptor nyD_byteOf.desc).map (fun d => d.parameters.length) = some 1 := by decide +kernel
def nyD_copy : MethodName := ⟨"FieldDeskModel", "copy", "()Z"⟩
abbrev ncD_copy : ByteArray := prog_5_method_23_code
abbrev nmD_copy : Room := { frames := 0, cells := 0, slots := 0, locals := 0 }
theorem nhD_copy : nyD_copy.cls = "FieldDeskModel" ∧ nyD_copy.cls ≠ "java/lang/invoke/MethodHandle" ∧ nyD_copy.cls ≠ "java/lang/invoke/VarHandle" ∧ (parseMethodDescriptor nyD_copy.desc).map (fun d => d.parameters.length) = some 0 := by decide +kernel
def nyM_init : MethodName := ⟨"FieldDesk$Message", "<init>", "()V"⟩
abbrev ncM_init : ByteArray := prog_2_method_1_code
abbrev nmM_init : Room := { frames := 1, cells := 0, slots := 0, locals := 12 }
theorem nhM_init : nyM_init.cls = "FieldDesk$Message" ∧ nyM_init.cls ≠ "java/lang/invoke/MethodHandle" ∧ nyM_init.cls ≠ "java/lang/invoke/VarHandle" ∧ (parseMethodDescriptor nyM_init.desc).map (fun d => d.parameters.length) = some 0 := by decide +kernel
def nyM_start : MethodName := ⟨"FieldDesk$Message", "start", "(I)V"⟩
abbrev ncM_start : ByteArray := prog_2_method_2_code
abbrev nmM_start : Room := { frames := 0, cells := 0, slots := 0, locals := 0 }
theorem nhM_start : nyM_start.cls = "FieldDesk$Message" ∧ nyM_start.cls ≠ "java/lang/invoke/MethodHandle" ∧ nyM_start.cls ≠ "java/lang/invoke/VarHandle" ∧ (parseMethodDescriptor nyM_start.desc).map (fun d => d.parameters.length) = some 1 := by decide +kernel
def nyM_sortAt : MethodName := ⟨"FieldDesk$Message", "sortAt", "(I)I"⟩
abbrev ncM_sortAt : ByteArray := prog_2_method_3_code
abbrev nmM_sortAt : Room := { frames := 0, cells := 0, slots := 0, locals := 0 }
theorem nhM_sortAt : nyM_sortAt.cls = "FieldDesk$Message" ∧ nyM_sortAt.cls ≠ "java/lang/invoke/MethodHandle" ∧ nyM_sortAt.cls ≠ "java/lang/invoke/VarHandle" ∧ (parseMethodDescriptor nyM_sortAt.desc).map (fun d => d.parameters.length) = some 1 := by decide +kernel
def nyM_numberAt : MethodName := ⟨"FieldDesk$Message", "numberAt", "(I)J"⟩
abbrev ncM_numberAt : ByteArray := prog_2_method_4_code
abbrev nmM_numberAt : Room := { frames := 0, cells := 0, slots := 0, locals := 0 }
theorem nhM_numberAt : nyM_numberAt.cls = "FieldDesk$Message" ∧ nyM_numberAt.cls ≠ "java/lang/invoke/MethodHandle" ∧ nyM_numberAt.cls ≠ "java/lang/invoke/VarHandle" ∧ (parseMethodDescriptor nyM_numberAt.desc).map (fun d => d.parameters.length) = some 1 := by decide +kernel
def nyM_dueSort : MethodName := ⟨"FieldDesk$Message", "dueSort", "()I"⟩
abbrev ncM_dueSort : ByteArray := prog_2_method_5_code
abbrev nmM_dueSort : Room := { frames := 2, cells := 0, slots := 0, locals := 44 }
theorem nhM_dueSort : nyM_dueSort.cls = "FieldDesk$Message" ∧ nyM_dueSort.cls ≠ "java/lang/invoke/MethodHandle" ∧ nyM_dueSort.cls ≠ "java/lang/invoke/VarHandle" ∧ (parseMethodDescriptor nyM_dueSort.desc).map (fun d => d.parameters.length) = some 0 := by decide +kernel
def nyM_dueLegSort : MethodName := ⟨"FieldDesk$Message", "dueLegSort", "(I)I"⟩
abbrev ncM_dueLegSort : ByteArray := prog_2_method_6_code
abbrev nmM_dueLegSort : Room := { frames := 1, cells := 0, slots := 0, locals := 21 }
theorem nhM_dueLegSort : nyM_dueLegSort.cls = "FieldDesk$Message" ∧ nyM_dueLegSort.cls ≠ "java/lang/invoke/MethodHandle" ∧ nyM_dueLegSort.cls ≠ "java/lang/invoke/VarHandle" ∧ (parseMethodDescriptor nyM_dueLegSort.desc).map (fun d => d.parameters.length) = some 1 := by decide +kernel
def nyM_mustBeZero : MethodName := ⟨"FieldDesk$Message", "mustBeZero", "()Z"⟩
abbrev ncM_mustBeZero : ByteArray := prog_2_method_7_code
abbrev nmM_mustBeZero : Room := { frames := 1, cells := 0, slots := 0, locals := 21 }
theorem nhM_mustBeZero : nyM_mustBeZero.cls = "FieldDesk$Message" ∧ nyM_mustBeZero.cls ≠ "java/lang/invoke/MethodHandle" ∧ nyM_mustBeZero.cls ≠ "java/lang/invoke/VarHandle" ∧ (parseMethodDescriptor nyM_mustBeZero.desc).map (fun d => d.parameters.length) = some 0 := by decide +kernel
def nyM_suits : MethodName := ⟨"FieldDesk$Message", "suits", "(J)Z"⟩
abbrev ncM_suits : ByteArray := prog_2_method_8_code
abbrev nmM_suits : Room := { frames := 3, cells := 0, slots := 0, locals := 64 }
theorem nhM_suits : nyM_suits.cls = "FieldDesk$Message" ∧ nyM_suits.cls ≠ "java/lang/invoke/MethodHandle" ∧ nyM_suits.cls ≠ "java/lang/invoke/VarHandle" ∧ (parseMethodDescriptor nyM_suits.desc).map (fun d => d.parameters.length) = some 1 := by decide +kernel
def nyM_take : MethodName := ⟨"FieldDesk$Message", "take", "(J)V"⟩
abbrev ncM_take : ByteArray := prog_2_method_9_code
abbrev nmM_take : Room := { frames := 3, cells := 0, slots := 0, locals := 64 }
theorem nhM_take : nyM_take.cls = "FieldDesk$Message" ∧ nyM_take.cls ≠ "java/lang/invoke/MethodHandle" ∧ nyM_take.cls ≠ "java/lang/invoke/VarHandle" ∧ (parseMethodDescriptor nyM_take.desc).map (fun d => d.parameters.length) = some 1 := by decide +kernel
def nyR_init : MethodName := ⟨"FieldDesk$Row", "<init>", "(I)V"⟩
abbrev ncR_init : ByteArray := prog_3_method_1_code
abbrev nmR_init : Room := { frames := 1, cells := 0, slots := 0, locals := 12 }
theorem nhR_init : nyR_init.cls = "FieldDesk$Row" ∧ nyR_init.cls ≠ "java/lang/invoke/MethodHandle" ∧ nyR_init.cls ≠ "java/lang/invoke/VarHandle" ∧ (parseMethodDescriptor nyR_init.desc).map (fun d => d.parameters.length) = some 1 := by decide +kernel
def nyR_hasRoomFor : MethodName := ⟨"FieldDesk$Row", "hasRoomFor", "(I)Z"⟩
abbrev ncR_hasRoomFor : ByteArray := prog_3_method_2_code
abbrev nmR_hasRoomFor : Room := { frames := 0, cells := 0, slots := 0, locals := 0 }
theorem nhR_hasRoomFor : nyR_hasRoomFor.cls = "FieldDesk$Row" ∧ nyR_hasRoomFor.cls ≠ "java/lang/invoke/MethodHandle" ∧ nyR_hasRoomFor.cls ≠ "java/lang/invoke/VarHandle" ∧ (parseMethodDescriptor nyR_hasRoomFor.desc).map (fun d => d.parameters.length) = some 1 := by decide +kernel
def nyR_clear : MethodName := ⟨"FieldDesk$Row", "clear", "()V"⟩
abbrev ncR_clear : ByteArray := prog_3_method_3_code
abbrev nmR_clear : Room := { frames := 0, cells := 0, slots := 0, locals := 0 }
theorem nhR_clear : nyR_clear.cls = "FieldDesk$Row" ∧ nyR_clear.cls ≠ "java/lang/invoke/MethodHandle" ∧ nyR_clear.cls ≠ "java/lang/invoke/VarHandle" ∧ (parseMethodDescriptor nyR_clear.desc).map (fun d => d.parameters.length) = some 0 := by decide +kernel
def nyR_append : MethodName := ⟨"FieldDesk$Row", "append", "(I)V"⟩
abbrev ncR_append : ByteArray := prog_3_method_4_code
abbrev nmR_append : Room := { frames := 0, cells := 0, slots := 0, locals := 0 }
theorem nhR_append : nyR_append.cls = "FieldDesk$Row" ∧ nyR_append.cls ≠ "java/lang/invoke/MethodHandle" ∧ nyR_append.cls ≠ "java/lang/invoke/VarHandle" ∧ (parseMethodDescriptor nyR_append.desc).map (fun d => d.parameters.length) = some 1 := by decide +kernel
def nyR_put : MethodName := ⟨"FieldDesk$Row", "put", "(II)V"⟩
abbrev ncR_put : ByteArray := prog_3_method_5_code
abbrev nmR_put : Room := { frames := 0, cells := 0, slots := 0, locals := 0 }
theorem nhR_put : nyR_put.cls = "FieldDesk$Row" ∧ nyR_put.cls ≠ "java/lang/invoke/MethodHandle" ∧ nyR_put.cls ≠ "java/lang/invoke/VarHandle" ∧ (parseMethodDescriptor nyR_put.desc).map (fun d => d.parameters.length) = some 2 := by decide +kernel
def nyR_at : MethodName := ⟨"FieldDesk$Row", "at", "(I)I"⟩
abbrev ncR_at : ByteArray := prog_3_method_6_code
abbrev nmR_at : Room := { frames := 0, cells := 0, slots := 0, locals := 0 }
theorem nhR_at : nyR_at.cls = "FieldDesk$Row" ∧ nyR_at.cls ≠ "java/lang/invoke/MethodHandle" ∧ nyR_at.cls ≠ "java/lang/invoke/VarHandle" ∧ (parseMethodDescriptor nyR_at.desc).map (fun d => d.parameters.length) = some 1 := by decide +kernel
def nyR_remainder : MethodName := ⟨"FieldDesk$Row", "remainder", "()I"⟩
abbrev ncR_remainder : ByteArray := prog_3_method_7_code
abbrev nmR_remainder : Room := { frames := 2, cells := 0, slots := 0, locals := 40 }
theorem nhR_remainder : nyR_remainder.cls = "FieldDesk$Row" ∧ nyR_remainder.cls ≠ "java/lang/invoke/MethodHandle" ∧ nyR_remainder.cls ≠ "java/lang/invoke/VarHandle" ∧ (parseMethodDescriptor nyR_remainder.desc).map (fun d => d.parameters.length) = some 0 := by decide +kernel
def nyL_law : MethodName := ⟨"FieldDeskLaw", "law", "([I)Z"⟩
abbrev ncL_law : ByteArray := code
def nyS_length : MethodName := ⟨"java/lang/String", "length", "()I"⟩
abbrev ncS_length : ByteArray := prog_6_method_54_code
abbrev nmS_length : Room := { frames := 1, cells := 0, slots := 0, locals := 20 }
theorem nhS_length : nyS_length.cls = "java/lang/String" ∧ nyS_length.cls ≠ "java/lang/invoke/MethodHandle" ∧ nyS_length.cls ≠ "java/lang/invoke/VarHandle" ∧ (parseMethodDescriptor nyS_length.desc).map (fun d => d.parameters.length) = some 0 := by decide +kernel
def nyS_charAt : MethodName := ⟨"java/lang/String", "charAt", "(I)C"⟩
abbrev ncS_charAt : ByteArray := prog_6_method_56_code
abbrev nmS_charAt : Room := { frames := 3, cells := 0, slots := 0, locals := 64 }
theorem nhS_charAt : nyS_charAt.cls = "java/lang/String" ∧ nyS_charAt.cls ≠ "java/lang/invoke/MethodHandle" ∧ nyS_charAt.cls ≠ "java/lang/invoke/VarHandle" ∧ (parseMethodDescriptor nyS_charAt.desc).map (fun d => d.parameters.length) = some 1 := by decide +kernel
def nyS_coder : MethodName := ⟨"java/lang/String", "coder", "()B"⟩
abbrev ncS_coder : ByteArray := prog_6_method_152_code
abbrev nmS_coder : Room := { frames := 0, cells := 0, slots := 0, locals := 0 }
theorem nhS_coder : nyS_coder.cls = "java/lang/String" ∧ nyS_coder.cls ≠ "java/lang/invoke/MethodHandle" ∧ nyS_coder.cls ≠ "java/lang/invoke/VarHandle" ∧ (parseMethodDescriptor nyS_coder.desc).map (fun d => d.parameters.length) = some 0 := by decide +kernel
def nyS_isLatin1 : MethodName := ⟨"java/lang/String", "isLatin1", "()Z"⟩
abbrev ncS_isLatin1 : ByteArray := prog_6_method_154_code
abbrev nmS_isLatin1 : Room := { frames := 0, cells := 0, slots := 0, locals := 0 }
theorem nhS_isLatin1 : nyS_isLatin1.cls = "java/lang/String" ∧ nyS_isLatin1.cls ≠ "java/lang/invoke/MethodHandle" ∧ nyS_isLatin1.cls ≠ "java/lang/invoke/VarHandle" ∧ (parseMethodDescriptor nyS_isLatin1.desc).map (fun d => d.parameters.length) = some 0 := by decide +kernel
def nyT_charAt : MethodName := ⟨"java/lang/StringLatin1", "charAt", "([BI)C"⟩
abbrev ncT_charAt : ByteArray := prog_7_method_2_code
abbrev nmT_charAt : Room := { frames := 2, cells := 0, slots := 0, locals := 43 }
theorem nhT_charAt : nyT_charAt.cls = "java/lang/StringLatin1" ∧ nyT_charAt.cls ≠ "java/lang/invoke/MethodHandle" ∧ nyT_charAt.cls ≠ "java/lang/invoke/VarHandle" ∧ (parseMethodDescriptor nyT_charAt.desc).map (fun d => d.parameters.length) = some 2 := by decide +kernel
def nyS_checkIndex : MethodName := ⟨"java/lang/String", "checkIndex", "(II)V"⟩
abbrev ncS_checkIndex : ByteArray := prog_6_method_155_code
abbrev nmS_checkIndex : Room := { frames := 1, cells := 0, slots := 0, locals := 22 }
theorem nhS_checkIndex : nyS_checkIndex.cls = "java/lang/String" ∧ nyS_checkIndex.cls ≠ "java/lang/invoke/MethodHandle" ∧ nyS_checkIndex.cls ≠ "java/lang/invoke/VarHandle" ∧ (parseMethodDescriptor nyS_checkIndex.desc).map (fun d => d.parameters.length) = some 2 := by decide +kernel
def nyP_checkIndex : MethodName := ⟨"jdk/internal/util/Preconditions", "checkIndex", "(IILjava/util/function/BiFunction;)I"⟩
abbrev ncP_checkIndex : ByteArray := prog_9_method_11_code
abbrev nmP_checkIndex : Room := { frames := 0, cells := 0, slots := 0, locals := 0 }
theorem nhP_checkIndex : nyP_checkIndex.cls = "jdk/internal/util/Preconditions" ∧ nyP_checkIndex.cls ≠ "java/lang/invoke/MethodHandle" ∧ nyP_checkIndex.cls ≠ "java/lang/invoke/VarHandle" ∧ (parseMethodDescriptor nyP_checkIndex.desc).map (fun d => d.parameters.length) = some 3 := by decide +kernel
/-- the words that every method may use -/
def fd_TB : List Cond := [
  Cond.selects "FieldDesk" nyF_hearText nyF_hearText,
  Cond.selects "FieldDesk" nyF_hearKind nyF_hearKind,
  Cond.selects "FieldDesk" nyF_kindWithSigns nyF_kindWithSigns,
  Cond.selects "FieldDesk" nyF_textBeginsAs nyF_textBeginsAs,
  Cond.selects "FieldDesk$Message" nyM_dueLegSort nyM_dueLegSort,
  Cond.selects "FieldDesk" nyF_hearField nyF_hearField,
  Cond.selects "FieldDesk" nyF_hearCheckDigits nyF_hearCheckDigits,
  Cond.selects "FieldDesk" nyF_writeField nyF_writeField,
  Cond.selects "FieldDeskModel" nyD_kindOf nyD_kindOf,
  Cond.selects "FieldDeskModel" nyD_fault nyD_fault,
  Cond.selects "FieldDeskModel" nyD_lay nyD_lay,
  Cond.selects "FieldDeskModel" nyD_nextSort nyD_nextSort,
  Cond.initialized "FieldDeskLaw",
  Cond.initialized "FieldDesk",
  Cond.initialized "FieldDesk$Row",
  Cond.initialized "FieldDesk$Message",
  Cond.initialized "FieldDeskModel",
  Cond.initialized "java/lang/String",
  Cond.initialized "java/lang/StringLatin1",
  Cond.initialized "jdk/internal/util/Preconditions",
  Cond.classLink "FieldDeskLaw" 7 "FieldDesk",
  Cond.instantiable "FieldDesk" 5,
  Cond.methodLink "FieldDeskLaw" 9 nyF_init,
  Cond.instanceMethod nyF_init,
  Cond.code nyF_init prog_1_method_1_code 1 none,
  Cond.methodLink "FieldDesk" 1 nyO_init,
  Cond.instanceMethod nyO_init,
  Cond.code nyO_init object_method_1_code 1 none,
  Cond.classLink "FieldDesk" 7 "FieldDesk$Row",
  Cond.instantiable "FieldDesk$Row" 2,
  Cond.methodLink "FieldDesk" 11 nyR_init,
  Cond.instanceMethod nyR_init,
  Cond.code nyR_init prog_3_method_1_code 2 none,
  Cond.methodLink "FieldDesk$Row" 1 nyO_init,
  Cond.fieldLink "FieldDesk$Row" 13 "FieldDesk$Row" "bytes" "[I",
  Cond.fieldLink "FieldDesk$Row" 7 "FieldDesk$Row" "length" "I",
  Cond.laysFinal "FieldDesk$Row" "FieldDesk$Row" "bytes" "[I",
  Cond.lays "FieldDesk$Row" "FieldDesk$Row" "length" "I",
  Cond.arrayClass FieldType.int,
  Cond.classLink "FieldDesk" 18 "FieldDesk$Message",
  Cond.instantiable "FieldDesk$Message" 4,
  Cond.instanceMethod nyM_init,
  Cond.code nyM_init prog_2_method_1_code 1 none,
  Cond.methodLink "FieldDesk$Message" 3 nyO_init,
  Cond.fieldLink "FieldDesk$Message" 9 "FieldDesk$Message" "sorts" "[I",
  Cond.fieldLink "FieldDesk$Message" 15 "FieldDesk$Message" "numbers" "[J",
  Cond.fieldLink "FieldDesk$Message" 19 "FieldDesk$Message" "kind" "I",
  Cond.fieldLink "FieldDesk$Message" 23 "FieldDesk$Message" "count" "I",
  Cond.laysFinal "FieldDesk$Message" "FieldDesk$Message" "sorts" "[I",
  Cond.laysFinal "FieldDesk$Message" "FieldDesk$Message" "numbers" "[J",
  Cond.lays "FieldDesk$Message" "FieldDesk$Message" "kind" "I",
  Cond.lays "FieldDesk$Message" "FieldDesk$Message" "count" "I",
  Cond.arrayClass FieldType.long,
  Cond.fieldLink "FieldDesk" 14 "FieldDesk" "text" "LFieldDesk$Row;",
  Cond.fieldLink "FieldDesk" 21 "FieldDesk" "heard" "LFieldDesk$Message;",
  Cond.fieldLink "FieldDesk" 25 "FieldDesk" "written" "LFieldDesk$Row;",
  Cond.fieldLink "FieldDesk" 28 "FieldDesk" "told" "LFieldDesk$Message;",
  Cond.fieldLink "FieldDesk" 31 "FieldDesk" "hasCheckDigits" "Z",
  Cond.laysFinal "FieldDesk" "FieldDesk" "text" "LFieldDesk$Row;",
  Cond.laysFinal "FieldDesk" "FieldDesk" "heard" "LFieldDesk$Message;",
  Cond.laysFinal "FieldDesk" "FieldDesk" "written" "LFieldDesk$Row;",
  Cond.laysFinal "FieldDesk" "FieldDesk" "told" "LFieldDesk$Message;",
  Cond.lays "FieldDesk" "FieldDesk" "hasCheckDigits" "Z",
  Cond.methodLink "FieldDeskLaw" 15 nyF_type,
  Cond.instanceMethod nyF_type,
  Cond.selects "FieldDesk" nyF_type nyF_type,
  Cond.code nyF_type prog_1_method_2_code 5 (some FieldType.boolean),
  Cond.methodLink "FieldDesk" 35 nyR_hasRoomFor,
  Cond.instanceMethod nyR_hasRoomFor,
  Cond.selects "FieldDesk$Row" nyR_hasRoomFor nyR_hasRoomFor,
  Cond.code nyR_hasRoomFor prog_3_method_2_code 2 (some FieldType.boolean),
  Cond.methodLink "FieldDesk" 39 nyR_append,
  Cond.instanceMethod nyR_append,
  Cond.selects "FieldDesk$Row" nyR_append nyR_append,
  Cond.code nyR_append prog_3_method_4_code 2 none,
  Cond.methodLink "FieldDeskLaw" 20 nyF_read,
  Cond.instanceMethod nyF_read,
  Cond.selects "FieldDesk" nyF_read nyF_read,
  Cond.code nyF_read prog_1_method_3_code 2 (some FieldType.int),
  Cond.methodLink "FieldDesk" 42 nyF_hearText,
  Cond.instanceMethod nyF_hearText,
  Cond.code nyF_hearText prog_1_method_12_code 5 (some FieldType.int),
  Cond.methodLink "FieldDesk" 95 nyF_hearKind,
  Cond.instanceMethod nyF_hearKind,
  Cond.code nyF_hearKind prog_1_method_13_code 2 (some FieldType.int),
  Cond.methodLink "FieldDesk" 112 nyF_kindWithSigns,
  Cond.instanceMethod nyF_kindWithSigns,
  Cond.code nyF_kindWithSigns prog_1_method_14_code 3 (some FieldType.int),
  Cond.methodLink "FieldDesk" 115 nyF_textBeginsAs,
  Cond.instanceMethod nyF_textBeginsAs,
  Cond.code nyF_textBeginsAs prog_1_method_15_code 4 (some FieldType.boolean),
  Cond.methodLink "FieldDesk" 92 nyR_at,
  Cond.instanceMethod nyR_at,
  Cond.selects "FieldDesk$Row" nyR_at nyR_at,
  Cond.code nyR_at prog_3_method_6_code 2 (some FieldType.int),
  Cond.methodLink "FieldDesk" 67 nyF_letterOf,
  Cond.static nyF_letterOf,
  Cond.code nyF_letterOf prog_1_method_25_code 3 (some FieldType.int),
  Cond.methodLink "FieldDesk" 157 nyS_length,
  Cond.instanceMethod nyS_length,
  Cond.selects "java/lang/String" nyS_length nyS_length,
  Cond.code nyS_length prog_6_method_54_code 1 (some FieldType.int),
  Cond.methodLink "java/lang/String" 335 nyS_coder,
  Cond.instanceMethod nyS_coder,
  Cond.selects "java/lang/String" nyS_coder nyS_coder,
  Cond.code nyS_coder prog_6_method_152_code 1 (some FieldType.byte),
  Cond.fieldLink "java/lang/String" 38 "java/lang/String" "COMPACT_STRINGS" "Z",
  Cond.methodLink "FieldDesk" 161 nyS_charAt,
  Cond.instanceMethod nyS_charAt,
  Cond.selects "java/lang/String" nyS_charAt nyS_charAt,
  Cond.code nyS_charAt prog_6_method_56_code 2 (some FieldType.char),
  Cond.methodLink "java/lang/String" 492 nyS_isLatin1,
  Cond.instanceMethod nyS_isLatin1,
  Cond.selects "java/lang/String" nyS_isLatin1 nyS_isLatin1,
  Cond.code nyS_isLatin1 prog_6_method_154_code 1 (some FieldType.boolean),
  Cond.methodLink "java/lang/String" 495 nyT_charAt,
  Cond.static nyT_charAt,
  Cond.code nyT_charAt prog_7_method_2_code 2 (some FieldType.char),
  Cond.methodLink "java/lang/StringLatin1" 9 nyS_checkIndex,
  Cond.static nyS_checkIndex,
  Cond.code nyS_checkIndex prog_6_method_155_code 2 none,
  Cond.fieldLink "java/lang/String" 1053 "jdk/internal/util/Preconditions" "SIOOBE_FORMATTER" "Ljava/util/function/BiFunction;",
  Cond.methodLink "java/lang/String" 1059 nyP_checkIndex,
  Cond.static nyP_checkIndex,
  Cond.code nyP_checkIndex prog_9_method_11_code 3 (some FieldType.int),
  Cond.methodLink "FieldDesk" 49 nyM_start,
  Cond.instanceMethod nyM_start,
  Cond.selects "FieldDesk$Message" nyM_start nyM_start,
  Cond.code nyM_start prog_2_method_2_code 2 none,
  Cond.methodLink "FieldDesk" 75 nyM_dueSort,
  Cond.instanceMethod nyM_dueSort,
  Cond.selects "FieldDesk$Message" nyM_dueSort nyM_dueSort,
  Cond.code nyM_dueSort prog_2_method_5_code 1 (some FieldType.int),
  Cond.methodLink "FieldDesk$Message" 28 nyM_dueLegSort,
  Cond.instanceMethod nyM_dueLegSort,
  Cond.code nyM_dueLegSort prog_2_method_6_code 4 (some FieldType.int),
  Cond.methodLink "FieldDesk$Message" 39 nyM_numberAt,
  Cond.instanceMethod nyM_numberAt,
  Cond.selects "FieldDesk$Message" nyM_numberAt nyM_numberAt,
  Cond.code nyM_numberAt prog_2_method_4_code 2 (some FieldType.long),
  Cond.constantLong "FieldDesk$Message" 26 (-1),
  Cond.constantLong "FieldDesk$Message" 43 4,
  Cond.static nyF_entry,
  Cond.code nyF_entry prog_1_method_26_code 2 (some FieldType.int),
  Cond.fieldLink "FieldDesk" 98 "FieldDesk" "SIGNS" "[I",
  Cond.methodLink "FieldDesk" 102 nyF_entry,
  Cond.methodLink "FieldDesk" 106 nyF_hearField,
  Cond.instanceMethod nyF_hearField,
  Cond.code nyF_hearField prog_1_method_16_code 9 (some FieldType.int),
  Cond.methodLink "FieldDesk" 119 nyF_isToBase36,
  Cond.static nyF_isToBase36,
  Cond.code nyF_isToBase36 prog_1_method_19_code 1 (some FieldType.boolean),
  Cond.methodLink "FieldDesk" 122 nyF_valueInSort,
  Cond.static nyF_valueInSort,
  Cond.code nyF_valueInSort prog_1_method_20_code 4 (some FieldType.int),
  Cond.methodLink "FieldDesk" 143 nyF_valueOfClass,
  Cond.static nyF_valueOfClass,
  Cond.code nyF_valueOfClass prog_1_method_22_code 1 (some FieldType.int),
  Cond.methodLink "FieldDesk" 146 nyF_valueOfSign,
  Cond.static nyF_valueOfSign,
  Cond.code nyF_valueOfSign prog_1_method_23_code 1 (some FieldType.int),
  Cond.methodLink "FieldDesk" 129 nyF_isDigit,
  Cond.static nyF_isDigit,
  Cond.code nyF_isDigit prog_1_method_24_code 1 (some FieldType.boolean),
  Cond.fieldLink "FieldDesk" 149 "FieldDesk" "LEAST_VALUE" "[I",
  Cond.fieldLink "FieldDesk" 152 "FieldDesk" "MOST_VALUE" "[I",
  Cond.methodLink "FieldDesk" 125 nyM_mustBeZero,
  Cond.instanceMethod nyM_mustBeZero,
  Cond.selects "FieldDesk$Message" nyM_mustBeZero nyM_mustBeZero,
  Cond.code nyM_mustBeZero prog_2_method_7_code 1 (some FieldType.boolean),
  Cond.methodLink "FieldDesk" 82 nyM_take,
  Cond.instanceMethod nyM_take,
  Cond.selects "FieldDesk$Message" nyM_take nyM_take,
  Cond.code nyM_take prog_2_method_9_code 3 none,
  Cond.methodLink "FieldDesk$Message" 48 nyM_dueSort,
  Cond.methodLink "FieldDesk" 109 nyF_hearCheckDigits,
  Cond.instanceMethod nyF_hearCheckDigits,
  Cond.code nyF_hearCheckDigits prog_1_method_17_code 3 (some FieldType.int),
  Cond.methodLink "FieldDesk" 86 nyR_remainder,
  Cond.instanceMethod nyR_remainder,
  Cond.selects "FieldDesk$Row" nyR_remainder nyR_remainder,
  Cond.code nyR_remainder prog_3_method_7_code 4 (some FieldType.int),
  Cond.methodLink "FieldDesk$Row" 17 nyR_at,
  Cond.methodLink "FieldDesk" 46 nyR_clear,
  Cond.instanceMethod nyR_clear,
  Cond.selects "FieldDesk$Row" nyR_clear nyR_clear,
  Cond.code nyR_clear prog_3_method_3_code 1 none,
  Cond.arrayClass FieldType.byte,
  Cond.methodLink "FieldDeskLaw" 25 nyF_fields,
  Cond.instanceMethod nyF_fields,
  Cond.selects "FieldDesk" nyF_fields nyF_fields,
  Cond.code nyF_fields prog_1_method_4_code 1 (some FieldType.int),
  Cond.methodLink "FieldDeskLaw" 29 nyF_sort,
  Cond.instanceMethod nyF_sort,
  Cond.selects "FieldDesk" nyF_sort nyF_sort,
  Cond.code nyF_sort prog_1_method_5_code 2 (some FieldType.int),
  Cond.methodLink "FieldDesk" 59 nyM_sortAt,
  Cond.instanceMethod nyM_sortAt,
  Cond.selects "FieldDesk$Message" nyM_sortAt nyM_sortAt,
  Cond.code nyM_sortAt prog_2_method_3_code 2 (some FieldType.int),
  Cond.methodLink "FieldDeskLaw" 34 nyF_number,
  Cond.instanceMethod nyF_number,
  Cond.selects "FieldDesk" nyF_number nyF_number,
  Cond.code nyF_number prog_1_method_6_code 2 (some FieldType.long),
  Cond.methodLink "FieldDesk" 63 nyM_numberAt,
  Cond.methodLink "FieldDeskLaw" 39 nyF_begin,
  Cond.instanceMethod nyF_begin,
  Cond.selects "FieldDesk" nyF_begin nyF_begin,
  Cond.code nyF_begin prog_1_method_7_code 3 (some FieldType.boolean),
  Cond.methodLink "FieldDeskLaw" 44 nyF_add,
  Cond.instanceMethod nyF_add,
  Cond.selects "FieldDesk" nyF_add nyF_add,
  Cond.code nyF_add prog_1_method_8_code 3 (some FieldType.boolean),
  Cond.methodLink "FieldDesk" 71 nyM_suits,
  Cond.instanceMethod nyM_suits,
  Cond.selects "FieldDesk$Message" nyM_suits nyM_suits,
  Cond.code nyM_suits prog_2_method_8_code 4 (some FieldType.boolean),
  Cond.methodLink "FieldDesk$Message" 55 nyM_mustBeZero,
  Cond.methodLink "FieldDesk" 78 nyF_writeField,
  Cond.instanceMethod nyF_writeField,
  Cond.code nyF_writeField prog_1_method_18_code 11 none,
  Cond.constantLong "FieldDesk" 132 36,
  Cond.constantLong "FieldDesk" 134 10,
  Cond.methodLink "FieldDesk" 136 nyF_signInSort,
  Cond.static nyF_signInSort,
  Cond.code nyF_signInSort prog_1_method_21_code 2 (some FieldType.int),
  Cond.methodLink "FieldDesk" 139 nyR_put,
  Cond.instanceMethod nyR_put,
  Cond.selects "FieldDesk$Row" nyR_put nyR_put,
  Cond.code nyR_put prog_3_method_5_code 3 none,
  Cond.methodLink "FieldDeskLaw" 49 nyF_end,
  Cond.instanceMethod nyF_end,
  Cond.selects "FieldDesk" nyF_end nyF_end,
  Cond.code nyF_end prog_1_method_9_code 2 (some FieldType.int),
  Cond.methodLink "FieldDeskLaw" 53 nyF_byteOf,
  Cond.instanceMethod nyF_byteOf,
  Cond.selects "FieldDesk" nyF_byteOf nyF_byteOf,
  Cond.code nyF_byteOf prog_1_method_10_code 2 (some FieldType.int),
  Cond.methodLink "FieldDeskLaw" 57 nyF_copy,
  Cond.instanceMethod nyF_copy,
  Cond.selects "FieldDesk" nyF_copy nyF_copy,
  Cond.code nyF_copy prog_1_method_11_code 2 (some FieldType.boolean),
  Cond.classLink "FieldDeskLaw" 10 "FieldDeskModel",
  Cond.instantiable "FieldDeskModel" 11,
  Cond.methodLink "FieldDeskLaw" 12 nyD_init,
  Cond.instanceMethod nyD_init,
  Cond.code nyD_init prog_5_method_1_code 1 none,
  Cond.methodLink "FieldDeskModel" 1 nyO_init,
  Cond.fieldLink "FieldDeskModel" 7 "FieldDeskModel" "text" "[I",
  Cond.fieldLink "FieldDeskModel" 29 "FieldDeskModel" "size" "I",
  Cond.fieldLink "FieldDeskModel" 39 "FieldDeskModel" "kind" "I",
  Cond.fieldLink "FieldDeskModel" 42 "FieldDeskModel" "many" "I",
  Cond.fieldLink "FieldDeskModel" 13 "FieldDeskModel" "numbers" "[J",
  Cond.fieldLink "FieldDeskModel" 74 "FieldDeskModel" "writes" "I",
  Cond.fieldLink "FieldDeskModel" 77 "FieldDeskModel" "closed" "Z",
  Cond.fieldLink "FieldDeskModel" 71 "FieldDeskModel" "written" "I",
  Cond.fieldLink "FieldDeskModel" 17 "FieldDeskModel" "out" "[I",
  Cond.fieldLink "FieldDeskModel" 81 "FieldDeskModel" "added" "I",
  Cond.fieldLink "FieldDeskModel" 20 "FieldDeskModel" "given" "[J",
  Cond.laysFinal "FieldDeskModel" "FieldDeskModel" "text" "[I",
  Cond.lays "FieldDeskModel" "FieldDeskModel" "size" "I",
  Cond.lays "FieldDeskModel" "FieldDeskModel" "kind" "I",
  Cond.lays "FieldDeskModel" "FieldDeskModel" "many" "I",
  Cond.laysFinal "FieldDeskModel" "FieldDeskModel" "numbers" "[J",
  Cond.lays "FieldDeskModel" "FieldDeskModel" "writes" "I",
  Cond.lays "FieldDeskModel" "FieldDeskModel" "closed" "Z",
  Cond.lays "FieldDeskModel" "FieldDeskModel" "written" "I",
  Cond.laysFinal "FieldDeskModel" "FieldDeskModel" "out" "[I",
  Cond.lays "FieldDeskModel" "FieldDeskModel" "added" "I",
  Cond.laysFinal "FieldDeskModel" "FieldDeskModel" "given" "[J",
  Cond.methodLink "FieldDeskLaw" 19 nyD_type,
  Cond.instanceMethod nyD_type,
  Cond.selects "FieldDeskModel" nyD_type nyD_type,
  Cond.code nyD_type prog_5_method_9_code 5 (some FieldType.boolean),
  Cond.constantLong "FieldDeskModel" 33 255,
  Cond.methodLink "FieldDeskLaw" 24 nyD_read,
  Cond.instanceMethod nyD_read,
  Cond.selects "FieldDeskModel" nyD_read nyD_read,
  Cond.code nyD_read prog_5_method_12_code 6 (some FieldType.int),
  Cond.methodLink "FieldDeskModel" 45 nyD_kindOf,
  Cond.instanceMethod nyD_kindOf,
  Cond.code nyD_kindOf prog_5_method_10_code 5 (some FieldType.int),
  Cond.methodLink "FieldDeskModel" 35 nyD_letter,
  Cond.static nyD_letter,
  Cond.code nyD_letter prog_5_method_2_code 2 (some FieldType.int),
  Cond.methodLink "FieldDeskModel" 49 nyD_fault,
  Cond.instanceMethod nyD_fault,
  Cond.code nyD_fault prog_5_method_11_code 2 (some FieldType.int),
  Cond.methodLink "FieldDeskModel" 52 nyD_step,
  Cond.static nyD_step,
  Cond.code nyD_step prog_5_method_8_code 2 (some FieldType.int),
  Cond.methodLink "FieldDeskModel" 55 nyD_width,
  Cond.static nyD_width,
  Cond.code nyD_width prog_5_method_4_code 1 (some FieldType.int),
  Cond.methodLink "FieldDeskModel" 58 nyD_fits,
  Cond.static nyD_fits,
  Cond.code nyD_fits prog_5_method_7_code 3 (some FieldType.boolean),
  Cond.methodLink "FieldDeskModel" 25 nyD_isSign,
  Cond.static nyD_isSign,
  Cond.code nyD_isSign prog_5_method_5_code 1 (some FieldType.boolean),
  Cond.methodLink "FieldDeskModel" 62 nyD_valueOf,
  Cond.static nyD_valueOf,
  Cond.code nyD_valueOf prog_5_method_6_code 1 (some FieldType.int),
  Cond.methodLink "FieldDeskModel" 65 nyD_sortOf,
  Cond.static nyD_sortOf,
  Cond.code nyD_sortOf prog_5_method_3_code 5 (some FieldType.int),
  Cond.constantLong "FieldDeskModel" 23 4,
  Cond.methodLink "FieldDeskLaw" 28 nyD_fields,
  Cond.instanceMethod nyD_fields,
  Cond.selects "FieldDeskModel" nyD_fields nyD_fields,
  Cond.code nyD_fields prog_5_method_13_code 1 (some FieldType.int),
  Cond.methodLink "FieldDeskLaw" 33 nyD_sort,
  Cond.instanceMethod nyD_sort,
  Cond.selects "FieldDeskModel" nyD_sort nyD_sort,
  Cond.code nyD_sort prog_5_method_14_code 2 (some FieldType.int),
  Cond.methodLink "FieldDeskLaw" 38 nyD_number,
  Cond.instanceMethod nyD_number,
  Cond.selects "FieldDeskModel" nyD_number nyD_number,
  Cond.code nyD_number prog_5_method_15_code 2 (some FieldType.long),
  Cond.constantLong "FieldDeskModel" 69 (-1),
  Cond.methodLink "FieldDeskLaw" 43 nyD_begin,
  Cond.instanceMethod nyD_begin,
  Cond.selects "FieldDeskModel" nyD_begin nyD_begin,
  Cond.code nyD_begin prog_5_method_17_code 3 (some FieldType.boolean),
  Cond.methodLink "FieldDeskModel" 84 nyD_lay,
  Cond.instanceMethod nyD_lay,
  Cond.code nyD_lay prog_5_method_16_code 2 none,
  Cond.methodLink "FieldDeskLaw" 48 nyD_add,
  Cond.instanceMethod nyD_add,
  Cond.selects "FieldDeskModel" nyD_add nyD_add,
  Cond.code nyD_add prog_5_method_20_code 11 (some FieldType.boolean),
  Cond.methodLink "FieldDeskModel" 100 nyD_nextSort,
  Cond.instanceMethod nyD_nextSort,
  Cond.code nyD_nextSort prog_5_method_19_code 1 (some FieldType.int),
  Cond.methodLink "FieldDeskModel" 104 nyD_most,
  Cond.static nyD_most,
  Cond.code nyD_most prog_5_method_18_code 1 (some FieldType.long),
  Cond.constantLong "FieldDeskModel" 88 1679615,
  Cond.constantLong "FieldDeskModel" 90 46655,
  Cond.constantLong "FieldDeskModel" 92 2821109907455,
  Cond.constantLong "FieldDeskModel" 94 999999999999999,
  Cond.constantLong "FieldDeskModel" 96 99,
  Cond.constantLong "FieldDeskModel" 98 9,
  Cond.constantLong "FieldDeskModel" 108 36,
  Cond.constantLong "FieldDeskModel" 110 10,
  Cond.methodLink "FieldDeskLaw" 52 nyD_end,
  Cond.instanceMethod nyD_end,
  Cond.selects "FieldDeskModel" nyD_end nyD_end,
  Cond.code nyD_end prog_5_method_21_code 3 (some FieldType.int),
  Cond.methodLink "FieldDeskLaw" 56 nyD_byteOf,
  Cond.instanceMethod nyD_byteOf,
  Cond.selects "FieldDeskModel" nyD_byteOf nyD_byteOf,
  Cond.code nyD_byteOf prog_5_method_22_code 2 (some FieldType.int),
  Cond.methodLink "FieldDeskLaw" 61 nyD_copy,
  Cond.instanceMethod nyD_copy,
  Cond.selects "FieldDeskModel" nyD_copy nyD_copy,
  Cond.code nyD_copy prog_5_method_23_code 2 (some FieldType.boolean),
  Cond.constantLong "FieldDeskLaw" 13 4294967295,
  Cond.fieldLink "java/lang/String" 9 "java/lang/String" "value" "[B",
  Cond.fieldLink "java/lang/String" 15 "java/lang/String" "coder" "B"]
set_option maxRecDepth 100000 in
theorem fd_TB_in : GoodIn lw_tbl fd_TB := goodIn_r _ [0, 1, 2, 3, 4, 5, 6, 7, 8, 9, 10, 11, 12, 13, 14, 15, 16, 17, 18, 19, 21, 22, 23, 24, 25, 26, 27, 28, 29, 30, 31, 32, 33, 34, 35, 36, 38, 40, 43, 44, 45, 47, 48, 49, 50, 51, 52, 54, 56, 58, 60, 62, 65, 66, 67, 68, 69, 70, 71, 73, 75, 77, 79, 82, 83, 84, 85, 86, 87, 88, 89, 90, 91, 92, 93, 94, 95, 96, 97, 98, 100, 101, 102, 104, 105, 106, 108, 109, 110, 112, 113, 114, 115, 116, 117, 118, 119, 120, 122, 123, 124, 125, 126, 127, 128, 129, 130, 132, 133, 134, 135, 136, 137, 138, 139, 140, 141, 142, 143, 144, 145, 146, 148, 149, 150, 170, 171, 172, 173, 174, 175, 176, 177, 178, 180, 181, 182, 183, 184, 185, 186, 187, 191, 192, 195, 197, 198, 200, 201, 202, 203, 204, 205, 206, 207, 208, 209, 210, 211, 212, 213, 214, 215, 216, 217, 219, 221, 222, 223, 224, 225, 226, 227, 228, 229, 230, 232, 233, 234, 235, 236, 237, 238, 240, 241, 242, 243, 244, 245, 246, 247, 248, 249, 250, 251, 252, 253, 254, 255, 256, 257, 258, 259, 260, 261, 262, 263, 264, 265, 266, 267, 268, 269, 270, 271, 272, 273, 276, 278, 280, 281, 282, 283, 284, 285, 286, 287, 288, 289, 290, 291, 292, 293, 294, 295, 296, 297, 298, 299, 300, 301, 302, 303, 304, 305, 306, 307, 308, 309, 310, 311, 312, 313, 314, 315, 316, 317, 318, 319, 320, 322, 324, 326, 328, 330, 332, 334, 336, 338, 340, 343, 344, 345, 346, 347, 348, 349, 350, 351, 352, 354, 355, 356, 357, 358, 359, 361, 362, 363, 364, 365, 366, 367, 368, 369, 370, 371, 372, 373, 374, 375, 376, 377, 378, 379, 380, 381, 382, 383, 384, 385, 386, 387, 388, 389, 390, 391, 392, 393, 394, 395, 396, 397, 398, 399, 401, 402, 403, 404, 405, 406, 407, 409, 410, 411, 412, 413, 414, 415, 416, 417, 418, 419, 420, 421, 422, 423, 424, 425, 426, 427, 428, 429, 430, 431, 432, 433, 434, 435, 436] rfl (by decide +kernel)
theorem fd_TB_good : ∀ w ∈ fd_TB, (w.onTables && w.keeps) = true ∨ ∃ ty, w = .arrayClass ty := fun w h => (fd_TB_in w h).2
theorem tb_0 : Cond.selects "FieldDesk" nyF_hearText nyF_hearText ∈ fd_TB := List.mem_of_getElem? (i := 0) rfl
theorem tb_1 : Cond.selects "FieldDesk" nyF_hearKind nyF_hearKind ∈ fd_TB := List.mem_of_getElem? (i := 1) rfl
theorem tb_2 : Cond.selects "FieldDesk" nyF_kindWithSigns nyF_kindWithSigns ∈ fd_TB := List.mem_of_getElem? (i := 2) rfl
theorem tb_3 : Cond.selects "FieldDesk" nyF_textBeginsAs nyF_textBeginsAs ∈ fd_TB := List.mem_of_getElem? (i := 3) rfl
theorem tb_4 : Cond.selects "FieldDesk$Message" nyM_dueLegSort nyM_dueLegSort ∈ fd_TB := List.mem_of_getElem? (i := 4) rfl
theorem tb_5 : Cond.selects "FieldDesk" nyF_hearField nyF_hearField ∈ fd_TB := List.mem_of_getElem? (i := 5) rfl
theorem tb_6 : Cond.selects "FieldDesk" nyF_hearCheckDigits nyF_hearCheckDigits ∈ fd_TB := List.mem_of_getElem? (i := 6) rfl
theorem tb_7 : Cond.selects "FieldDesk" nyF_writeField nyF_writeField ∈ fd_TB := List.mem_of_getElem? (i := 7) rfl
theorem tb_8 : Cond.selects "FieldDeskModel" nyD_kindOf nyD_kindOf ∈ fd_TB := List.mem_of_getElem? (i := 8) rfl
theorem tb_9 : Cond.selects "FieldDeskModel" nyD_fault nyD_fault ∈ fd_TB := List.mem_of_getElem? (i := 9) rfl
theorem tb_10 : Cond.selects "FieldDeskModel" nyD_lay nyD_lay ∈ fd_TB := List.mem_of_getElem? (i := 10) rfl
theorem tb_11 : Cond.selects "FieldDeskModel" nyD_nextSort nyD_nextSort ∈ fd_TB := List.mem_of_getElem? (i := 11) rfl
theorem tb_12 : Cond.initialized "FieldDeskLaw" ∈ fd_TB := List.mem_of_getElem? (i := 12) rfl
theorem tb_13 : Cond.initialized "FieldDesk" ∈ fd_TB := List.mem_of_getElem? (i := 13) rfl
theorem tb_14 : Cond.initialized "FieldDesk$Row" ∈ fd_TB := List.mem_of_getElem? (i := 14) rfl
theorem tb_15 : Cond.initialized "FieldDesk$Message" ∈ fd_TB := List.mem_of_getElem? (i := 15) rfl
theorem tb_16 : Cond.initialized "FieldDeskModel" ∈ fd_TB := List.mem_of_getElem? (i := 16) rfl
theorem tb_17 : Cond.initialized "java/lang/String" ∈ fd_TB := List.mem_of_getElem? (i := 17) rfl
theorem tb_18 : Cond.initialized "java/lang/StringLatin1" ∈ fd_TB := List.mem_of_getElem? (i := 18) rfl
theorem tb_19 : Cond.initialized "jdk/internal/util/Preconditions" ∈ fd_TB := List.mem_of_getElem? (i := 19) rfl
theorem tb_20 : Cond.classLink "FieldDeskLaw" 7 "FieldDesk" ∈ fd_TB := List.mem_of_getElem? (i := 20) rfl
theorem tb_21 : Cond.instantiable "FieldDesk" 5 ∈ fd_TB := List.mem_of_getElem? (i := 21) rfl
theorem tb_22 : Cond.methodLink "FieldDeskLaw" 9 nyF_init ∈ fd_TB := List.mem_of_getElem? (i := 22) rfl
theorem tb_23 : Cond.instanceMethod nyF_init ∈ fd_TB := List.mem_of_getElem? (i := 23) rfl
theorem tb_24 : Cond.code nyF_init prog_1_method_1_code 1 none ∈ fd_TB := List.mem_of_getElem? (i := 24) rfl
theorem tb_25 : Cond.methodLink "FieldDesk" 1 nyO_init ∈ fd_TB := List.mem_of_getElem? (i := 25) rfl
theorem tb_26 : Cond.instanceMethod nyO_init ∈ fd_TB := List.mem_of_getElem? (i := 26) rfl
theorem tb_27 : Cond.code nyO_init object_method_1_code 1 none ∈ fd_TB := List.mem_of_getElem? (i := 27) rfl
theorem tb_28 : Cond.classLink "FieldDesk" 7 "FieldDesk$Row" ∈ fd_TB := List.mem_of_getElem? (i := 28) rfl
theorem tb_29 : Cond.instantiable "FieldDesk$Row" 2 ∈ fd_TB := List.mem_of_getElem? (i := 29) rfl
theorem tb_30 : Cond.methodLink "FieldDesk" 11 nyR_init ∈ fd_TB := List.mem_of_getElem? (i := 30) rfl
theorem tb_31 : Cond.instanceMethod nyR_init ∈ fd_TB := List.mem_of_getElem? (i := 31) rfl
theorem tb_32 : Cond.code nyR_init prog_3_method_1_code 2 none ∈ fd_TB := List.mem_of_getElem? (i := 32) rfl
theorem tb_33 : Cond.methodLink "FieldDesk$Row" 1 nyO_init ∈ fd_TB := List.mem_of_getElem? (i := 33) rfl
theorem tb_34 : Cond.fieldLink "FieldDesk$Row" 13 "FieldDesk$Row" "bytes" "[I" ∈ fd_TB := List.mem_of_getElem? (i := 34) rfl
theorem tb_35 : Cond.fieldLink "FieldDesk$Row" 7 "FieldDesk$Row" "length" "I" ∈ fd_TB := List.mem_of_getElem? (i := 35) rfl
theorem tb_36 : Cond.laysFinal "FieldDesk$Row" "FieldDesk$Row" "bytes" "[I" ∈ fd_TB := List.mem_of_getElem? (i := 36) rfl
theorem tb_37 : Cond.lays "FieldDesk$Row" "FieldDesk$Row" "length" "I" ∈ fd_TB := List.mem_of_getElem? (i := 37) rfl
theorem tb_38 : Cond.arrayClass FieldType.int ∈ fd_TB := List.mem_of_getElem? (i := 38) rfl
theorem tb_39 : Cond.classLink "FieldDesk" 18 "FieldDesk$Message" ∈ fd_TB := List.mem_of_getElem? (i := 39) rfl
theorem tb_40 : Cond.instantiable "FieldDesk$Message" 4 ∈ fd_TB := List.mem_of_getElem? (i := 40) rfl
theorem tb_41 : Cond.instanceMethod nyM_init ∈ fd_TB := List.mem_of_getElem? (i := 41) rfl
theorem tb_42 : Cond.code nyM_init prog_2_method_1_code 1 none ∈ fd_TB := List.mem_of_getElem? (i := 42) rfl
theorem tb_43 : Cond.methodLink "FieldDesk$Message" 3 nyO_init ∈ fd_TB := List.mem_of_getElem? (i := 43) rfl
theorem tb_44 : Cond.fieldLink "FieldDesk$Message" 9 "FieldDesk$Message" "sorts" "[I" ∈ fd_TB := List.mem_of_getElem? (i := 44) rfl
theorem tb_45 : Cond.fieldLink "FieldDesk$Message" 15 "FieldDesk$Message" "numbers" "[J" ∈ fd_TB := List.mem_of_getElem? (i := 45) rfl
theorem tb_46 : Cond.fieldLink "FieldDesk$Message" 19 "FieldDesk$Message" "kind" "I" ∈ fd_TB := List.mem_of_getElem? (i := 46) rfl
theorem tb_47 : Cond.fieldLink "FieldDesk$Message" 23 "FieldDesk$Message" "count" "I" ∈ fd_TB := List.mem_of_getElem? (i := 47) rfl
theorem tb_48 : Cond.laysFinal "FieldDesk$Message" "FieldDesk$Message" "sorts" "[I" ∈ fd_TB := List.mem_of_getElem? (i := 48) rfl
theorem tb_49 : Cond.laysFinal "FieldDesk$Message" "FieldDesk$Message" "numbers" "[J" ∈ fd_TB := List.mem_of_getElem? (i := 49) rfl
theorem tb_50 : Cond.lays "FieldDesk$Message" "FieldDesk$Message" "kind" "I" ∈ fd_TB := List.mem_of_getElem? (i := 50) rfl
theorem tb_51 : Cond.lays "FieldDesk$Message" "FieldDesk$Message" "count" "I" ∈ fd_TB := List.mem_of_getElem? (i := 51) rfl
theorem tb_52 : Cond.arrayClass FieldType.long ∈ fd_TB := List.mem_of_getElem? (i := 52) rfl
theorem tb_53 : Cond.fieldLink "FieldDesk" 14 "FieldDesk" "text" "LFieldDesk$Row;" ∈ fd_TB := List.mem_of_getElem? (i := 53) rfl
theorem tb_54 : Cond.fieldLink "FieldDesk" 21 "FieldDesk" "heard" "LFieldDesk$Message;" ∈ fd_TB := List.mem_of_getElem? (i := 54) rfl
theorem tb_55 : Cond.fieldLink "FieldDesk" 25 "FieldDesk" "written" "LFieldDesk$Row;" ∈ fd_TB := List.mem_of_getElem? (i := 55) rfl
theorem tb_56 : Cond.fieldLink "FieldDesk" 28 "FieldDesk" "told" "LFieldDesk$Message;" ∈ fd_TB := List.mem_of_getElem? (i := 56) rfl
theorem tb_57 : Cond.fieldLink "FieldDesk" 31 "FieldDesk" "hasCheckDigits" "Z" ∈ fd_TB := List.mem_of_getElem? (i := 57) rfl
theorem tb_58 : Cond.laysFinal "FieldDesk" "FieldDesk" "text" "LFieldDesk$Row;" ∈ fd_TB := List.mem_of_getElem? (i := 58) rfl
theorem tb_59 : Cond.laysFinal "FieldDesk" "FieldDesk" "heard" "LFieldDesk$Message;" ∈ fd_TB := List.mem_of_getElem? (i := 59) rfl
theorem tb_60 : Cond.laysFinal "FieldDesk" "FieldDesk" "written" "LFieldDesk$Row;" ∈ fd_TB := List.mem_of_getElem? (i := 60) rfl
theorem tb_61 : Cond.laysFinal "FieldDesk" "FieldDesk" "told" "LFieldDesk$Message;" ∈ fd_TB := List.mem_of_getElem? (i := 61) rfl
theorem tb_62 : Cond.lays "FieldDesk" "FieldDesk" "hasCheckDigits" "Z" ∈ fd_TB := List.mem_of_getElem? (i := 62) rfl
theorem tb_63 : Cond.methodLink "FieldDeskLaw" 15 nyF_type ∈ fd_TB := List.mem_of_getElem? (i := 63) rfl
theorem tb_64 : Cond.instanceMethod nyF_type ∈ fd_TB := List.mem_of_getElem? (i := 64) rfl
theorem tb_65 : Cond.selects "FieldDesk" nyF_type nyF_type ∈ fd_TB := List.mem_of_getElem? (i := 65) rfl
theorem tb_66 : Cond.code nyF_type prog_1_method_2_code 5 (some FieldType.boolean) ∈ fd_TB := List.mem_of_getElem? (i := 66) rfl
theorem tb_67 : Cond.methodLink "FieldDesk" 35 nyR_hasRoomFor ∈ fd_TB := List.mem_of_getElem? (i := 67) rfl
theorem tb_68 : Cond.instanceMethod nyR_hasRoomFor ∈ fd_TB := List.mem_of_getElem? (i := 68) rfl
theorem tb_69 : Cond.selects "FieldDesk$Row" nyR_hasRoomFor nyR_hasRoomFor ∈ fd_TB := List.mem_of_getElem? (i := 69) rfl
theorem tb_70 : Cond.code nyR_hasRoomFor prog_3_method_2_code 2 (some FieldType.boolean) ∈ fd_TB := List.mem_of_getElem? (i := 70) rfl
theorem tb_71 : Cond.methodLink "FieldDesk" 39 nyR_append ∈ fd_TB := List.mem_of_getElem? (i := 71) rfl
theorem tb_72 : Cond.instanceMethod nyR_append ∈ fd_TB := List.mem_of_getElem? (i := 72) rfl
theorem tb_73 : Cond.selects "FieldDesk$Row" nyR_append nyR_append ∈ fd_TB := List.mem_of_getElem? (i := 73) rfl
theorem tb_74 : Cond.code nyR_append prog_3_method_4_code 2 none ∈ fd_TB := List.mem_of_getElem? (i := 74) rfl
theorem tb_75 : Cond.methodLink "FieldDeskLaw" 20 nyF_read ∈ fd_TB := List.mem_of_getElem? (i := 75) rfl
theorem tb_76 : Cond.instanceMethod nyF_read ∈ fd_TB := List.mem_of_getElem? (i := 76) rfl
theorem tb_77 : Cond.selects "FieldDesk" nyF_read nyF_read ∈ fd_TB := List.mem_of_getElem? (i := 77) rfl
theorem tb_78 : Cond.code nyF_read prog_1_method_3_code 2 (some FieldType.int) ∈ fd_TB := List.mem_of_getElem? (i := 78) rfl
theorem tb_79 : Cond.methodLink "FieldDesk" 42 nyF_hearText ∈ fd_TB := List.mem_of_getElem? (i := 79) rfl
theorem tb_80 : Cond.instanceMethod nyF_hearText ∈ fd_TB := List.mem_of_getElem? (i := 80) rfl
theorem tb_81 : Cond.code nyF_hearText prog_1_method_12_code 5 (some FieldType.int) ∈ fd_TB := List.mem_of_getElem? (i := 81) rfl
theorem tb_82 : Cond.methodLink "FieldDesk" 95 nyF_hearKind ∈ fd_TB := List.mem_of_getElem? (i := 82) rfl
theorem tb_83 : Cond.instanceMethod nyF_hearKind ∈ fd_TB := List.mem_of_getElem? (i := 83) rfl
theorem tb_84 : Cond.code nyF_hearKind prog_1_method_13_code 2 (some FieldType.int) ∈ fd_TB := List.mem_of_getElem? (i := 84) rfl
theorem tb_85 : Cond.methodLink "FieldDesk" 112 nyF_kindWithSigns ∈ fd_TB := List.mem_of_getElem? (i := 85) rfl
theorem tb_86 : Cond.instanceMethod nyF_kindWithSigns ∈ fd_TB := List.mem_of_getElem? (i := 86) rfl
theorem tb_87 : Cond.code nyF_kindWithSigns prog_1_method_14_code 3 (some FieldType.int) ∈ fd_TB := List.mem_of_getElem? (i := 87) rfl
theorem tb_88 : Cond.methodLink "FieldDesk" 115 nyF_textBeginsAs ∈ fd_TB := List.mem_of_getElem? (i := 88) rfl
theorem tb_89 : Cond.instanceMethod nyF_textBeginsAs ∈ fd_TB := List.mem_of_getElem? (i := 89) rfl
theorem tb_90 : Cond.code nyF_textBeginsAs prog_1_method_15_code 4 (some FieldType.boolean) ∈ fd_TB := List.mem_of_getElem? (i := 90) rfl
theorem tb_91 : Cond.methodLink "FieldDesk" 92 nyR_at ∈ fd_TB := List.mem_of_getElem? (i := 91) rfl
theorem tb_92 : Cond.instanceMethod nyR_at ∈ fd_TB := List.mem_of_getElem? (i := 92) rfl
theorem tb_93 : Cond.selects "FieldDesk$Row" nyR_at nyR_at ∈ fd_TB := List.mem_of_getElem? (i := 93) rfl
theorem tb_94 : Cond.code nyR_at prog_3_method_6_code 2 (some FieldType.int) ∈ fd_TB := List.mem_of_getElem? (i := 94) rfl
theorem tb_95 : Cond.methodLink "FieldDesk" 67 nyF_letterOf ∈ fd_TB := List.mem_of_getElem? (i := 95) rfl
theorem tb_96 : Cond.static nyF_letterOf ∈ fd_TB := List.mem_of_getElem? (i := 96) rfl
theorem tb_97 : Cond.code nyF_letterOf prog_1_method_25_code 3 (some FieldType.int) ∈ fd_TB := List.mem_of_getElem? (i := 97) rfl
theorem tb_98 : Cond.methodLink "FieldDesk" 157 nyS_length ∈ fd_TB := List.mem_of_getElem? (i := 98) rfl
theorem tb_99 : Cond.instanceMethod nyS_length ∈ fd_TB := List.mem_of_getElem? (i := 99) rfl
theorem tb_100 : Cond.selects "java/lang/String" nyS_length nyS_length ∈ fd_TB := List.mem_of_getElem? (i := 100) rfl
theorem tb_101 : Cond.code nyS_length prog_6_method_54_code 1 (some FieldType.int) ∈ fd_TB := List.mem_of_getElem? (i := 101) rfl
theorem tb_102 : Cond.methodLink "java/lang/String" 335 nyS_coder ∈ fd_TB := List.mem_of_getElem? (i := 102) rfl
theorem tb_103 : Cond.instanceMethod nyS_coder ∈ fd_TB := List.mem_of_getElem? (i := 103) rfl
theorem tb_104 : Cond.selects "java/lang/String" nyS_coder nyS_coder ∈ fd_TB := List.mem_of_getElem? (i := 104) rfl
theorem tb_105 : Cond.code nyS_coder prog_6_method_152_code 1 (some FieldType.byte) ∈ fd_TB := List.mem_of_getElem? (i := 105) rfl
theorem tb_106 : Cond.fieldLink "java/lang/String" 38 "java/lang/String" "COMPACT_STRINGS" "Z" ∈ fd_TB := List.mem_of_getElem? (i := 106) rfl
theorem tb_107 : Cond.methodLink "FieldDesk" 161 nyS_charAt ∈ fd_TB := List.mem_of_getElem? (i := 107) rfl
theorem tb_108 : Cond.instanceMethod nyS_charAt ∈ fd_TB := List.mem_of_getElem? (i := 108) rfl
theorem tb_109 : Cond.selects "java/lang/String" nyS_charAt nyS_charAt ∈ fd_TB := List.mem_of_getElem? (i := 109) rfl
theorem tb_110 : Cond.code nyS_charAt prog_6_method_56_code 2 (some FieldType.char) ∈ fd_TB := List.mem_of_getElem? (i := 110) rfl
theorem tb_111 : Cond.methodLink "java/lang/String" 492 nyS_isLatin1 ∈ fd_TB := List.mem_of_getElem? (i := 111) rfl
theorem tb_112 : Cond.instanceMethod nyS_isLatin1 ∈ fd_TB := List.mem_of_getElem? (i := 112) rfl
theorem tb_113 : Cond.selects "java/lang/String" nyS_isLatin1 nyS_isLatin1 ∈ fd_TB := List.mem_of_getElem? (i := 113) rfl
theorem tb_114 : Cond.code nyS_isLatin1 prog_6_method_154_code 1 (some FieldType.boolean) ∈ fd_TB := List.mem_of_getElem? (i := 114) rfl
theorem tb_115 : Cond.methodLink "java/lang/String" 495 nyT_charAt ∈ fd_TB := List.mem_of_getElem? (i := 115) rfl
theorem tb_116 : Cond.static nyT_charAt ∈ fd_TB := List.mem_of_getElem? (i := 116) rfl
theorem tb_117 : Cond.code nyT_charAt prog_7_method_2_code 2 (some FieldType.char) ∈ fd_TB := List.mem_of_getElem? (i := 117) rfl
theorem tb_118 : Cond.methodLink "java/lang/StringLatin1" 9 nyS_checkIndex ∈ fd_TB := List.mem_of_getElem? (i := 118) rfl
theorem tb_119 : Cond.static nyS_checkIndex ∈ fd_TB := List.mem_of_getElem? (i := 119) rfl
theorem tb_120 : Cond.code nyS_checkIndex prog_6_method_155_code 2 none ∈ fd_TB := List.mem_of_getElem? (i := 120) rfl
theorem tb_121 : Cond.fieldLink "java/lang/String" 1053 "jdk/internal/util/Preconditions" "SIOOBE_FORMATTER" "Ljava/util/function/BiFunction;" ∈ fd_TB := List.mem_of_getElem? (i := 121) rfl
theorem tb_122 : Cond.methodLink "java/lang/String" 1059 nyP_checkIndex ∈ fd_TB := List.mem_of_getElem? (i := 122) rfl
theorem tb_123 : Cond.static nyP_checkIndex ∈ fd_TB := List.mem_of_getElem? (i := 123) rfl
theorem tb_124 : Cond.code nyP_checkIndex prog_9_method_11_code 3 (some FieldType.int) ∈ fd_TB := List.mem_of_getElem? (i := 124) rfl
theorem tb_125 : Cond.methodLink "FieldDesk" 49 nyM_start ∈ fd_TB := List.mem_of_getElem? (i := 125) rfl
theorem tb_126 : Cond.instanceMethod nyM_start ∈ fd_TB := List.mem_of_getElem? (i := 126) rfl
theorem tb_127 : Cond.selects "FieldDesk$Message" nyM_start nyM_start ∈ fd_TB := List.mem_of_getElem? (i := 127) rfl
theorem tb_128 : Cond.code nyM_start prog_2_method_2_code 2 none ∈ fd_TB := List.mem_of_getElem? (i := 128) rfl
theorem tb_129 : Cond.methodLink "FieldDesk" 75 nyM_dueSort ∈ fd_TB := List.mem_of_getElem? (i := 129) rfl
theorem tb_130 : Cond.instanceMethod nyM_dueSort ∈ fd_TB := List.mem_of_getElem? (i := 130) rfl
theorem tb_131 : Cond.selects "FieldDesk$Message" nyM_dueSort nyM_dueSort ∈ fd_TB := List.mem_of_getElem? (i := 131) rfl
theorem tb_132 : Cond.code nyM_dueSort prog_2_method_5_code 1 (some FieldType.int) ∈ fd_TB := List.mem_of_getElem? (i := 132) rfl
theorem tb_133 : Cond.methodLink "FieldDesk$Message" 28 nyM_dueLegSort ∈ fd_TB := List.mem_of_getElem? (i := 133) rfl
theorem tb_134 : Cond.instanceMethod nyM_dueLegSort ∈ fd_TB := List.mem_of_getElem? (i := 134) rfl
theorem tb_135 : Cond.code nyM_dueLegSort prog_2_method_6_code 4 (some FieldType.int) ∈ fd_TB := List.mem_of_getElem? (i := 135) rfl
theorem tb_136 : Cond.methodLink "FieldDesk$Message" 39 nyM_numberAt ∈ fd_TB := List.mem_of_getElem? (i := 136) rfl
theorem tb_137 : Cond.instanceMethod nyM_numberAt ∈ fd_TB := List.mem_of_getElem? (i := 137) rfl
theorem tb_138 : Cond.selects "FieldDesk$Message" nyM_numberAt nyM_numberAt ∈ fd_TB := List.mem_of_getElem? (i := 138) rfl
theorem tb_139 : Cond.code nyM_numberAt prog_2_method_4_code 2 (some FieldType.long) ∈ fd_TB := List.mem_of_getElem? (i := 139) rfl
theorem tb_140 : Cond.constantLong "FieldDesk$Message" 26 (-1) ∈ fd_TB := List.mem_of_getElem? (i := 140) rfl
theorem tb_141 : Cond.constantLong "FieldDesk$Message" 43 4 ∈ fd_TB := List.mem_of_getElem? (i := 141) rfl
theorem tb_142 : Cond.static nyF_entry ∈ fd_TB := List.mem_of_getElem? (i := 142) rfl
theorem tb_143 : Cond.code nyF_entry prog_1_method_26_code 2 (some FieldType.int) ∈ fd_TB := List.mem_of_getElem? (i := 143) rfl
theorem tb_144 : Cond.fieldLink "FieldDesk" 98 "FieldDesk" "SIGNS" "[I" ∈ fd_TB := List.mem_of_getElem? (i := 144) rfl
theorem tb_145 : Cond.methodLink "FieldDesk" 102 nyF_entry ∈ fd_TB := List.mem_of_getElem? (i := 145) rfl
theorem tb_146 : Cond.methodLink "FieldDesk" 106 nyF_hearField ∈ fd_TB := List.mem_of_getElem? (i := 146) rfl
theorem tb_147 : Cond.instanceMethod nyF_hearField ∈ fd_TB := List.mem_of_getElem? (i := 147) rfl
theorem tb_148 : Cond.code nyF_hearField prog_1_method_16_code 9 (some FieldType.int) ∈ fd_TB := List.mem_of_getElem? (i := 148) rfl
theorem tb_149 : Cond.methodLink "FieldDesk" 119 nyF_isToBase36 ∈ fd_TB := List.mem_of_getElem? (i := 149) rfl
theorem tb_150 : Cond.static nyF_isToBase36 ∈ fd_TB := List.mem_of_getElem? (i := 150) rfl
theorem tb_151 : Cond.code nyF_isToBase36 prog_1_method_19_code 1 (some FieldType.boolean) ∈ fd_TB := List.mem_of_getElem? (i := 151) rfl
theorem tb_152 : Cond.methodLink "FieldDesk" 122 nyF_valueInSort ∈ fd_TB := List.mem_of_getElem? (i := 152) rfl
theorem tb_153 : Cond.static nyF_valueInSort ∈ fd_TB := List.mem_of_getElem? (i := 153) rfl
theorem tb_154 : Cond.code nyF_valueInSort prog_1_method_20_code 4 (some FieldType.int) ∈ fd_TB := List.mem_of_getElem? (i := 154) rfl
theorem tb_155 : Cond.methodLink "FieldDesk" 143 nyF_valueOfClass ∈ fd_TB := List.mem_of_getElem? (i := 155) rfl
theorem tb_156 : Cond.static nyF_valueOfClass ∈ fd_TB := List.mem_of_getElem? (i := 156) rfl
theorem tb_157 : Cond.code nyF_valueOfClass prog_1_method_22_code 1 (some FieldType.int) ∈ fd_TB := List.mem_of_getElem? (i := 157) rfl
theorem tb_158 : Cond.methodLink "FieldDesk" 146 nyF_valueOfSign ∈ fd_TB := List.mem_of_getElem? (i := 158) rfl
theorem tb_159 : Cond.static nyF_valueOfSign ∈ fd_TB := List.mem_of_getElem? (i := 159) rfl
theorem tb_160 : Cond.code nyF_valueOfSign prog_1_method_23_code 1 (some FieldType.int) ∈ fd_TB := List.mem_of_getElem? (i := 160) rfl
theorem tb_161 : Cond.methodLink "FieldDesk" 129 nyF_isDigit ∈ fd_TB := List.mem_of_getElem? (i := 161) rfl
theorem tb_162 : Cond.static nyF_isDigit ∈ fd_TB := List.mem_of_getElem? (i := 162) rfl
theorem tb_163 : Cond.code nyF_isDigit prog_1_method_24_code 1 (some FieldType.boolean) ∈ fd_TB := List.mem_of_getElem? (i := 163) rfl
theorem tb_164 : Cond.fieldLink "FieldDesk" 149 "FieldDesk" "LEAST_VALUE" "[I" ∈ fd_TB := List.mem_of_getElem? (i := 164) rfl
theorem tb_165 : Cond.fieldLink "FieldDesk" 152 "FieldDesk" "MOST_VALUE" "[I" ∈ fd_TB := List.mem_of_getElem? (i := 165) rfl
theorem tb_166 : Cond.methodLink "FieldDesk" 125 nyM_mustBeZero ∈ fd_TB := List.mem_of_getElem? (i := 166) rfl
theorem tb_167 : Cond.instanceMethod nyM_mustBeZero ∈ fd_TB := List.mem_of_getElem? (i := 167) rfl
theorem tb_168 : Cond.selects "FieldDesk$Message" nyM_mustBeZero nyM_mustBeZero ∈ fd_TB := List.mem_of_getElem? (i := 168) rfl
theorem tb_169 : Cond.code nyM_mustBeZero prog_2_method_7_code 1 (some FieldType.boolean) ∈ fd_TB := List.mem_of_getElem? (i := 169) rfl
theorem tb_170 : Cond.methodLink "FieldDesk" 82 nyM_take ∈ fd_TB := List.mem_of_getElem? (i := 170) rfl
theorem tb_171 : Cond.instanceMethod nyM_take ∈ fd_TB := List.mem_of_getElem? (i := 171) rfl
theorem tb_172 : Cond.selects "FieldDesk$Message" nyM_take nyM_take ∈ fd_TB := List.mem_of_getElem? (i := 172) rfl
theorem tb_173 : Cond.code nyM_take prog_2_method_9_code 3 none ∈ fd_TB := List.mem_of_getElem? (i := 173) rfl
theorem tb_174 : Cond.methodLink "FieldDesk$Message" 48 nyM_dueSort ∈ fd_TB := List.mem_of_getElem? (i := 174) rfl
theorem tb_175 : Cond.methodLink "FieldDesk" 109 nyF_hearCheckDigits ∈ fd_TB := List.mem_of_getElem? (i := 175) rfl
theorem tb_176 : Cond.instanceMethod nyF_hearCheckDigits ∈ fd_TB := List.mem_of_getElem? (i := 176) rfl
theorem tb_177 : Cond.code nyF_hearCheckDigits prog_1_method_17_code 3 (some FieldType.int) ∈ fd_TB := List.mem_of_getElem? (i := 177) rfl
theorem tb_178 : Cond.methodLink "FieldDesk" 86 nyR_remainder ∈ fd_TB := List.mem_of_getElem? (i := 178) rfl
theorem tb_179 : Cond.instanceMethod nyR_remainder ∈ fd_TB := List.mem_of_getElem? (i := 179) rfl
theorem tb_180 : Cond.selects "FieldDesk$Row" nyR_remainder nyR_remainder ∈ fd_TB := List.mem_of_getElem? (i := 180) rfl
theorem tb_181 : Cond.code nyR_remainder prog_3_method_7_code 4 (some FieldType.int) ∈ fd_TB := List.mem_of_getElem? (i := 181) rfl
theorem tb_182 : Cond.methodLink "FieldDesk$Row" 17 nyR_at ∈ fd_TB := List.mem_of_getElem? (i := 182) rfl
theorem tb_183 : Cond.methodLink "FieldDesk" 46 nyR_clear ∈ fd_TB := List.mem_of_getElem? (i := 183) rfl
theorem tb_184 : Cond.instanceMethod nyR_clear ∈ fd_TB := List.mem_of_getElem? (i := 184) rfl
theorem tb_185 : Cond.selects "FieldDesk$Row" nyR_clear nyR_clear ∈ fd_TB := List.mem_of_getElem? (i := 185) rfl
theorem tb_186 : Cond.code nyR_clear prog_3_method_3_code 1 none ∈ fd_TB := List.mem_of_getElem? (i := 186) rfl
theorem tb_187 : Cond.arrayClass FieldType.byte ∈ fd_TB := List.mem_of_getElem? (i := 187) rfl
theorem tb_188 : Cond.methodLink "FieldDeskLaw" 25 nyF_fields ∈ fd_TB := List.mem_of_getElem? (i := 188) rfl
theorem tb_189 : Cond.instanceMethod nyF_fields ∈ fd_TB := List.mem_of_getElem? (i := 189) rfl
theorem tb_190 : Cond.selects "FieldDesk" nyF_fields nyF_fields ∈ fd_TB := List.mem_of_getElem? (i := 190) rfl
theorem tb_191 : Cond.code nyF_fields prog_1_method_4_code 1 (some FieldType.int) ∈ fd_TB := List.mem_of_getElem? (i := 191) rfl
theorem tb_192 : Cond.methodLink "FieldDeskLaw" 29 nyF_sort ∈ fd_TB := List.mem_of_getElem? (i := 192) rfl
theorem tb_193 : Cond.instanceMethod nyF_sort ∈ fd_TB := List.mem_of_getElem? (i := 193) rfl
theorem tb_194 : Cond.selects "FieldDesk" nyF_sort nyF_sort ∈ fd_TB := List.mem_of_getElem? (i := 194) rfl
theorem tb_195 : Cond.code nyF_sort prog_1_method_5_code 2 (some FieldType.int) ∈ fd_TB := List.mem_of_getElem? (i := 195) rfl
theorem tb_196 : Cond.methodLink "FieldDesk" 59 nyM_sortAt ∈ fd_TB := List.mem_of_getElem? (i := 196) rfl
theorem tb_197 : Cond.instanceMethod nyM_sortAt ∈ fd_TB := List.mem_of_getElem? (i := 197) rfl
theorem tb_198 : Cond.selects "FieldDesk$Message" nyM_sortAt nyM_sortAt ∈ fd_TB := List.mem_of_getElem? (i := 198) rfl
theorem tb_199 : Cond.code nyM_sortAt prog_2_method_3_code 2 (some FieldType.int) ∈ fd_TB := List.mem_of_getElem? (i := 199) rfl
theorem tb_200 : Cond.methodLink "FieldDeskLaw" 34 nyF_number ∈ fd_TB := List.mem_of_getElem? (i := 200) rfl
theorem tb_201 : Cond.instanceMethod nyF_number ∈ fd_TB := List.mem_of_getElem? (i := 201) rfl
theorem tb_202 : Cond.selects "FieldDesk" nyF_number nyF_number ∈ fd_TB := List.mem_of_getElem? (i := 202) rfl
theorem tb_203 : Cond.code nyF_number prog_1_method_6_code 2 (some FieldType.long) ∈ fd_TB := List.mem_of_getElem? (i := 203) rfl
theorem tb_204 : Cond.methodLink "FieldDesk" 63 nyM_numberAt ∈ fd_TB := List.mem_of_getElem? (i := 204) rfl
theorem tb_205 : Cond.methodLink "FieldDeskLaw" 39 nyF_begin ∈ fd_TB := List.mem_of_getElem? (i := 205) rfl
theorem tb_206 : Cond.instanceMethod nyF_begin ∈ fd_TB := List.mem_of_getElem? (i := 206) rfl
theorem tb_207 : Cond.selects "FieldDesk" nyF_begin nyF_begin ∈ fd_TB := List.mem_of_getElem? (i := 207) rfl
theorem tb_208 : Cond.code nyF_begin prog_1_method_7_code 3 (some FieldType.boolean) ∈ fd_TB := List.mem_of_getElem? (i := 208) rfl
theorem tb_209 : Cond.methodLink "FieldDeskLaw" 44 nyF_add ∈ fd_TB := List.mem_of_getElem? (i := 209) rfl
theorem tb_210 : Cond.instanceMethod nyF_add ∈ fd_TB := List.mem_of_getElem? (i := 210) rfl
theorem tb_211 : Cond.selects "FieldDesk" nyF_add nyF_add ∈ fd_TB := List.mem_of_getElem? (i := 211) rfl
theorem tb_212 : Cond.code nyF_add prog_1_method_8_code 3 (some FieldType.boolean) ∈ fd_TB := List.mem_of_getElem? (i := 212) rfl
theorem tb_213 : Cond.methodLink "FieldDesk" 71 nyM_suits ∈ fd_TB := List.mem_of_getElem? (i := 213) rfl
theorem tb_214 : Cond.instanceMethod nyM_suits ∈ fd_TB := List.mem_of_getElem? (i := 214) rfl
theorem tb_215 : Cond.selects "FieldDesk$Message" nyM_suits nyM_suits ∈ fd_TB := List.mem_of_getElem? (i := 215) rfl
theorem tb_216 : Cond.code nyM_suits prog_2_method_8_code 4 (some FieldType.boolean) ∈ fd_TB := List.mem_of_getElem? (i := 216) rfl
theorem tb_217 : Cond.methodLink "FieldDesk$Message" 55 nyM_mustBeZero ∈ fd_TB := List.mem_of_getElem? (i := 217) rfl
theorem tb_218 : Cond.methodLink "FieldDesk" 78 nyF_writeField ∈ fd_TB := List.mem_of_getElem? (i := 218) rfl
theorem tb_219 : Cond.instanceMethod nyF_writeField ∈ fd_TB := List.mem_of_getElem? (i := 219) rfl
theorem tb_220 : Cond.code nyF_writeField prog_1_method_18_code 11 none ∈ fd_TB := List.mem_of_getElem? (i := 220) rfl
theorem tb_221 : Cond.constantLong "FieldDesk" 132 36 ∈ fd_TB := List.mem_of_getElem? (i := 221) rfl
theorem tb_222 : Cond.constantLong "FieldDesk" 134 10 ∈ fd_TB := List.mem_of_getElem? (i := 222) rfl
theorem tb_223 : Cond.methodLink "FieldDesk" 136 nyF_signInSort ∈ fd_TB := List.mem_of_getElem? (i := 223) rfl
theorem tb_224 : Cond.static nyF_signInSort ∈ fd_TB := List.mem_of_getElem? (i := 224) rfl
theorem tb_225 : Cond.code nyF_signInSort prog_1_method_21_code 2 (some FieldType.int) ∈ fd_TB := List.mem_of_getElem? (i := 225) rfl
theorem tb_226 : Cond.methodLink "FieldDesk" 139 nyR_put ∈ fd_TB := List.mem_of_getElem? (i := 226) rfl
theorem tb_227 : Cond.instanceMethod nyR_put ∈ fd_TB := List.mem_of_getElem? (i := 227) rfl
theorem tb_228 : Cond.selects "FieldDesk$Row" nyR_put nyR_put ∈ fd_TB := List.mem_of_getElem? (i := 228) rfl
theorem tb_229 : Cond.code nyR_put prog_3_method_5_code 3 none ∈ fd_TB := List.mem_of_getElem? (i := 229) rfl
theorem tb_230 : Cond.methodLink "FieldDeskLaw" 49 nyF_end ∈ fd_TB := List.mem_of_getElem? (i := 230) rfl
theorem tb_231 : Cond.instanceMethod nyF_end ∈ fd_TB := List.mem_of_getElem? (i := 231) rfl
theorem tb_232 : Cond.selects "FieldDesk" nyF_end nyF_end ∈ fd_TB := List.mem_of_getElem? (i := 232) rfl
theorem tb_233 : Cond.code nyF_end prog_1_method_9_code 2 (some FieldType.int) ∈ fd_TB := List.mem_of_getElem? (i := 233) rfl
theorem tb_234 : Cond.methodLink "FieldDeskLaw" 53 nyF_byteOf ∈ fd_TB := List.mem_of_getElem? (i := 234) rfl
theorem tb_235 : Cond.instanceMethod nyF_byteOf ∈ fd_TB := List.mem_of_getElem? (i := 235) rfl
theorem tb_236 : Cond.selects "FieldDesk" nyF_byteOf nyF_byteOf ∈ fd_TB := List.mem_of_getElem? (i := 236) rfl
theorem tb_237 : Cond.code nyF_byteOf prog_1_method_10_code 2 (some FieldType.int) ∈ fd_TB := List.mem_of_getElem? (i := 237) rfl
theorem tb_238 : Cond.methodLink "FieldDeskLaw" 57 nyF_copy ∈ fd_TB := List.mem_of_getElem? (i := 238) rfl
theorem tb_239 : Cond.instanceMethod nyF_copy ∈ fd_TB := List.mem_of_getElem? (i := 239) rfl
theorem tb_240 : Cond.selects "FieldDesk" nyF_copy nyF_copy ∈ fd_TB := List.mem_of_getElem? (i := 240) rfl
theorem tb_241 : Cond.code nyF_copy prog_1_method_11_code 2 (some FieldType.boolean) ∈ fd_TB := List.mem_of_getElem? (i := 241) rfl
theorem tb_242 : Cond.classLink "FieldDeskLaw" 10 "FieldDeskModel" ∈ fd_TB := List.mem_of_getElem? (i := 242) rfl
theorem tb_243 : Cond.instantiable "FieldDeskModel" 11 ∈ fd_TB := List.mem_of_getElem? (i := 243) rfl
theorem tb_244 : Cond.methodLink "FieldDeskLaw" 12 nyD_init ∈ fd_TB := List.mem_of_getElem? (i := 244) rfl
theorem tb_245 : Cond.instanceMethod nyD_init ∈ fd_TB := List.mem_of_getElem? (i := 245) rfl
theorem tb_246 : Cond.code nyD_init prog_5_method_1_code 1 none ∈ fd_TB := List.mem_of_getElem? (i := 246) rfl
theorem tb_247 : Cond.methodLink "FieldDeskModel" 1 nyO_init ∈ fd_TB := List.mem_of_getElem? (i := 247) rfl
theorem tb_248 : Cond.fieldLink "FieldDeskModel" 7 "FieldDeskModel" "text" "[I" ∈ fd_TB := List.mem_of_getElem? (i := 248) rfl
theorem tb_249 : Cond.fieldLink "FieldDeskModel" 29 "FieldDeskModel" "size" "I" ∈ fd_TB := List.mem_of_getElem? (i := 249) rfl
theorem tb_250 : Cond.fieldLink "FieldDeskModel" 39 "FieldDeskModel" "kind" "I" ∈ fd_TB := List.mem_of_getElem? (i := 250) rfl
theorem tb_251 : Cond.fieldLink "FieldDeskModel" 42 "FieldDeskModel" "many" "I" ∈ fd_TB := List.mem_of_getElem? (i := 251) rfl
theorem tb_252 : Cond.fieldLink "FieldDeskModel" 13 "FieldDeskModel" "numbers" "[J" ∈ fd_TB := List.mem_of_getElem? (i := 252) rfl
theorem tb_253 : Cond.fieldLink "FieldDeskModel" 74 "FieldDeskModel" "writes" "I" ∈ fd_TB := List.mem_of_getElem? (i := 253) rfl
theorem tb_254 : Cond.fieldLink "FieldDeskModel" 77 "FieldDeskModel" "closed" "Z" ∈ fd_TB := List.mem_of_getElem? (i := 254) rfl
theorem tb_255 : Cond.fieldLink "FieldDeskModel" 71 "FieldDeskModel" "written" "I" ∈ fd_TB := List.mem_of_getElem? (i := 255) rfl
theorem tb_256 : Cond.fieldLink "FieldDeskModel" 17 "FieldDeskModel" "out" "[I" ∈ fd_TB := List.mem_of_getElem? (i := 256) rfl
theorem tb_257 : Cond.fieldLink "FieldDeskModel" 81 "FieldDeskModel" "added" "I" ∈ fd_TB := List.mem_of_getElem? (i := 257) rfl
theorem tb_258 : Cond.fieldLink "FieldDeskModel" 20 "FieldDeskModel" "given" "[J" ∈ fd_TB := List.mem_of_getElem? (i := 258) rfl
theorem tb_259 : Cond.laysFinal "FieldDeskModel" "FieldDeskModel" "text" "[I" ∈ fd_TB := List.mem_of_getElem? (i := 259) rfl
theorem tb_260 : Cond.lays "FieldDeskModel" "FieldDeskModel" "size" "I" ∈ fd_TB := List.mem_of_getElem? (i := 260) rfl
theorem tb_261 : Cond.lays "FieldDeskModel" "FieldDeskModel" "kind" "I" ∈ fd_TB := List.mem_of_getElem? (i := 261) rfl
theorem tb_262 : Cond.lays "FieldDeskModel" "FieldDeskModel" "many" "I" ∈ fd_TB := List.mem_of_getElem? (i := 262) rfl
theorem tb_263 : Cond.laysFinal "FieldDeskModel" "FieldDeskModel" "numbers" "[J" ∈ fd_TB := List.mem_of_getElem? (i := 263) rfl
theorem tb_264 : Cond.lays "FieldDeskModel" "FieldDeskModel" "writes" "I" ∈ fd_TB := List.mem_of_getElem? (i := 264) rfl
theorem tb_265 : Cond.lays "FieldDeskModel" "FieldDeskModel" "closed" "Z" ∈ fd_TB := List.mem_of_getElem? (i := 265) rfl
theorem tb_266 : Cond.lays "FieldDeskModel" "FieldDeskModel" "written" "I" ∈ fd_TB := List.mem_of_getElem? (i := 266) rfl
theorem tb_267 : Cond.laysFinal "FieldDeskModel" "FieldDeskModel" "out" "[I" ∈ fd_TB := List.mem_of_getElem? (i := 267) rfl
theorem tb_268 : Cond.lays "FieldDeskModel" "FieldDeskModel" "added" "I" ∈ fd_TB := List.mem_of_getElem? (i := 268) rfl
theorem tb_269 : Cond.laysFinal "FieldDeskModel" "FieldDeskModel" "given" "[J" ∈ fd_TB := List.mem_of_getElem? (i := 269) rfl
theorem tb_270 : Cond.methodLink "FieldDeskLaw" 19 nyD_type ∈ fd_TB := List.mem_of_getElem? (i := 270) rfl
theorem tb_271 : Cond.instanceMethod nyD_type ∈ fd_TB := List.mem_of_getElem? (i := 271) rfl
theorem tb_272 : Cond.selects "FieldDeskModel" nyD_type nyD_type ∈ fd_TB := List.mem_of_getElem? (i := 272) rfl
theorem tb_273 : Cond.code nyD_type prog_5_method_9_code 5 (some FieldType.boolean) ∈ fd_TB := List.mem_of_getElem? (i := 273) rfl
theorem tb_274 : Cond.constantLong "FieldDeskModel" 33 255 ∈ fd_TB := List.mem_of_getElem? (i := 274) rfl
theorem tb_275 : Cond.methodLink "FieldDeskLaw" 24 nyD_read ∈ fd_TB := List.mem_of_getElem? (i := 275) rfl
theorem tb_276 : Cond.instanceMethod nyD_read ∈ fd_TB := List.mem_of_getElem? (i := 276) rfl
theorem tb_277 : Cond.selects "FieldDeskModel" nyD_read nyD_read ∈ fd_TB := List.mem_of_getElem? (i := 277) rfl
theorem tb_278 : Cond.code nyD_read prog_5_method_12_code 6 (some FieldType.int) ∈ fd_TB := List.mem_of_getElem? (i := 278) rfl
theorem tb_279 : Cond.methodLink "FieldDeskModel" 45 nyD_kindOf ∈ fd_TB := List.mem_of_getElem? (i := 279) rfl
theorem tb_280 : Cond.instanceMethod nyD_kindOf ∈ fd_TB := List.mem_of_getElem? (i := 280) rfl
theorem tb_281 : Cond.code nyD_kindOf prog_5_method_10_code 5 (some FieldType.int) ∈ fd_TB := List.mem_of_getElem? (i := 281) rfl
theorem tb_282 : Cond.methodLink "FieldDeskModel" 35 nyD_letter ∈ fd_TB := List.mem_of_getElem? (i := 282) rfl
theorem tb_283 : Cond.static nyD_letter ∈ fd_TB := List.mem_of_getElem? (i := 283) rfl
theorem tb_284 : Cond.code nyD_letter prog_5_method_2_code 2 (some FieldType.int) ∈ fd_TB := List.mem_of_getElem? (i := 284) rfl
theorem tb_285 : Cond.methodLink "FieldDeskModel" 49 nyD_fault ∈ fd_TB := List.mem_of_getElem? (i := 285) rfl
theorem tb_286 : Cond.instanceMethod nyD_fault ∈ fd_TB := List.mem_of_getElem? (i := 286) rfl
theorem tb_287 : Cond.code nyD_fault prog_5_method_11_code 2 (some FieldType.int) ∈ fd_TB := List.mem_of_getElem? (i := 287) rfl
theorem tb_288 : Cond.methodLink "FieldDeskModel" 52 nyD_step ∈ fd_TB := List.mem_of_getElem? (i := 288) rfl
theorem tb_289 : Cond.static nyD_step ∈ fd_TB := List.mem_of_getElem? (i := 289) rfl
theorem tb_290 : Cond.code nyD_step prog_5_method_8_code 2 (some FieldType.int) ∈ fd_TB := List.mem_of_getElem? (i := 290) rfl
theorem tb_291 : Cond.methodLink "FieldDeskModel" 55 nyD_width ∈ fd_TB := List.mem_of_getElem? (i := 291) rfl
theorem tb_292 : Cond.static nyD_width ∈ fd_TB := List.mem_of_getElem? (i := 292) rfl
theorem tb_293 : Cond.code nyD_width prog_5_method_4_code 1 (some FieldType.int) ∈ fd_TB := List.mem_of_getElem? (i := 293) rfl
theorem tb_294 : Cond.methodLink "FieldDeskModel" 58 nyD_fits ∈ fd_TB := List.mem_of_getElem? (i := 294) rfl
theorem tb_295 : Cond.static nyD_fits ∈ fd_TB := List.mem_of_getElem? (i := 295) rfl
theorem tb_296 : Cond.code nyD_fits prog_5_method_7_code 3 (some FieldType.boolean) ∈ fd_TB := List.mem_of_getElem? (i := 296) rfl
theorem tb_297 : Cond.methodLink "FieldDeskModel" 25 nyD_isSign ∈ fd_TB := List.mem_of_getElem? (i := 297) rfl
theorem tb_298 : Cond.static nyD_isSign ∈ fd_TB := List.mem_of_getElem? (i := 298) rfl
theorem tb_299 : Cond.code nyD_isSign prog_5_method_5_code 1 (some FieldType.boolean) ∈ fd_TB := List.mem_of_getElem? (i := 299) rfl
theorem tb_300 : Cond.methodLink "FieldDeskModel" 62 nyD_valueOf ∈ fd_TB := List.mem_of_getElem? (i := 300) rfl
theorem tb_301 : Cond.static nyD_valueOf ∈ fd_TB := List.mem_of_getElem? (i := 301) rfl
theorem tb_302 : Cond.code nyD_valueOf prog_5_method_6_code 1 (some FieldType.int) ∈ fd_TB := List.mem_of_getElem? (i := 302) rfl
theorem tb_303 : Cond.methodLink "FieldDeskModel" 65 nyD_sortOf ∈ fd_TB := List.mem_of_getElem? (i := 303) rfl
theorem tb_304 : Cond.static nyD_sortOf ∈ fd_TB := List.mem_of_getElem? (i := 304) rfl
theorem tb_305 : Cond.code nyD_sortOf prog_5_method_3_code 5 (some FieldType.int) ∈ fd_TB := List.mem_of_getElem? (i := 305) rfl
theorem tb_306 : Cond.constantLong "FieldDeskModel" 23 4 ∈ fd_TB := List.mem_of_getElem? (i := 306) rfl
theorem tb_307 : Cond.methodLink "FieldDeskLaw" 28 nyD_fields ∈ fd_TB := List.mem_of_getElem? (i := 307) rfl
theorem tb_308 : Cond.instanceMethod nyD_fields ∈ fd_TB := List.mem_of_getElem? (i := 308) rfl
theorem tb_309 : Cond.selects "FieldDeskModel" nyD_fields nyD_fields ∈ fd_TB := List.mem_of_getElem? (i := 309) rfl
theorem tb_310 : Cond.code nyD_fields prog_5_method_13_code 1 (some FieldType.int) ∈ fd_TB := List.mem_of_getElem? (i := 310) rfl
theorem tb_311 : Cond.methodLink "FieldDeskLaw" 33 nyD_sort ∈ fd_TB := List.mem_of_getElem? (i := 311) rfl
theorem tb_312 : Cond.instanceMethod nyD_sort ∈ fd_TB := List.mem_of_getElem? (i := 312) rfl
theorem tb_313 : Cond.selects "FieldDeskModel" nyD_sort nyD_sort ∈ fd_TB := List.mem_of_getElem? (i := 313) rfl
theorem tb_314 : Cond.code nyD_sort prog_5_method_14_code 2 (some FieldType.int) ∈ fd_TB := List.mem_of_getElem? (i := 314) rfl
theorem tb_315 : Cond.methodLink "FieldDeskLaw" 38 nyD_number ∈ fd_TB := List.mem_of_getElem? (i := 315) rfl
theorem tb_316 : Cond.instanceMethod nyD_number ∈ fd_TB := List.mem_of_getElem? (i := 316) rfl
theorem tb_317 : Cond.selects "FieldDeskModel" nyD_number nyD_number ∈ fd_TB := List.mem_of_getElem? (i := 317) rfl
theorem tb_318 : Cond.code nyD_number prog_5_method_15_code 2 (some FieldType.long) ∈ fd_TB := List.mem_of_getElem? (i := 318) rfl
theorem tb_319 : Cond.constantLong "FieldDeskModel" 69 (-1) ∈ fd_TB := List.mem_of_getElem? (i := 319) rfl
theorem tb_320 : Cond.methodLink "FieldDeskLaw" 43 nyD_begin ∈ fd_TB := List.mem_of_getElem? (i := 320) rfl
theorem tb_321 : Cond.instanceMethod nyD_begin ∈ fd_TB := List.mem_of_getElem? (i := 321) rfl
theorem tb_322 : Cond.selects "FieldDeskModel" nyD_begin nyD_begin ∈ fd_TB := List.mem_of_getElem? (i := 322) rfl
theorem tb_323 : Cond.code nyD_begin prog_5_method_17_code 3 (some FieldType.boolean) ∈ fd_TB := List.mem_of_getElem? (i := 323) rfl
theorem tb_324 : Cond.methodLink "FieldDeskModel" 84 nyD_lay ∈ fd_TB := List.mem_of_getElem? (i := 324) rfl
theorem tb_325 : Cond.instanceMethod nyD_lay ∈ fd_TB := List.mem_of_getElem? (i := 325) rfl
theorem tb_326 : Cond.code nyD_lay prog_5_method_16_code 2 none ∈ fd_TB := List.mem_of_getElem? (i := 326) rfl
theorem tb_327 : Cond.methodLink "FieldDeskLaw" 48 nyD_add ∈ fd_TB := List.mem_of_getElem? (i := 327) rfl
theorem tb_328 : Cond.instanceMethod nyD_add ∈ fd_TB := List.mem_of_getElem? (i := 328) rfl
theorem tb_329 : Cond.selects "FieldDeskModel" nyD_add nyD_add ∈ fd_TB := List.mem_of_getElem? (i := 329) rfl
theorem tb_330 : Cond.code nyD_add prog_5_method_20_code 11 (some FieldType.boolean) ∈ fd_TB := List.mem_of_getElem? (i := 330) rfl
theorem tb_331 : Cond.methodLink "FieldDeskModel" 100 nyD_nextSort ∈ fd_TB := List.mem_of_getElem? (i := 331) rfl
theorem tb_332 : Cond.instanceMethod nyD_nextSort ∈ fd_TB := List.mem_of_getElem? (i := 332) rfl
theorem tb_333 : Cond.code nyD_nextSort prog_5_method_19_code 1 (some FieldType.int) ∈ fd_TB := List.mem_of_getElem? (i := 333) rfl
theorem tb_334 : Cond.methodLink "FieldDeskModel" 104 nyD_most ∈ fd_TB := List.mem_of_getElem? (i := 334) rfl
theorem tb_335 : Cond.static nyD_most ∈ fd_TB := List.mem_of_getElem? (i := 335) rfl
theorem tb_336 : Cond.code nyD_most prog_5_method_18_code 1 (some FieldType.long) ∈ fd_TB := List.mem_of_getElem? (i := 336) rfl
theorem tb_337 : Cond.constantLong "FieldDeskModel" 88 1679615 ∈ fd_TB := List.mem_of_getElem? (i := 337) rfl
theorem tb_338 : Cond.constantLong "FieldDeskModel" 90 46655 ∈ fd_TB := List.mem_of_getElem? (i := 338) rfl
theorem tb_339 : Cond.constantLong "FieldDeskModel" 92 2821109907455 ∈ fd_TB := List.mem_of_getElem? (i := 339) rfl
theorem tb_340 : Cond.constantLong "FieldDeskModel" 94 999999999999999 ∈ fd_TB := List.mem_of_getElem? (i := 340) rfl
theorem tb_341 : Cond.constantLong "FieldDeskModel" 96 99 ∈ fd_TB := List.mem_of_getElem? (i := 341) rfl
theorem tb_342 : Cond.constantLong "FieldDeskModel" 98 9 ∈ fd_TB := List.mem_of_getElem? (i := 342) rfl
theorem tb_343 : Cond.constantLong "FieldDeskModel" 108 36 ∈ fd_TB := List.mem_of_getElem? (i := 343) rfl
theorem tb_344 : Cond.constantLong "FieldDeskModel" 110 10 ∈ fd_TB := List.mem_of_getElem? (i := 344) rfl
theorem tb_345 : Cond.methodLink "FieldDeskLaw" 52 nyD_end ∈ fd_TB := List.mem_of_getElem? (i := 345) rfl
theorem tb_346 : Cond.instanceMethod nyD_end ∈ fd_TB := List.mem_of_getElem? (i := 346) rfl
theorem tb_347 : Cond.selects "FieldDeskModel" nyD_end nyD_end ∈ fd_TB := List.mem_of_getElem? (i := 347) rfl
theorem tb_348 : Cond.code nyD_end prog_5_method_21_code 3 (some FieldType.int) ∈ fd_TB := List.mem_of_getElem? (i := 348) rfl
theorem tb_349 : Cond.methodLink "FieldDeskLaw" 56 nyD_byteOf ∈ fd_TB := List.mem_of_getElem? (i := 349) rfl
theorem tb_350 : Cond.instanceMethod nyD_byteOf ∈ fd_TB := List.mem_of_getElem? (i := 350) rfl
theorem tb_351 : Cond.selects "FieldDeskModel" nyD_byteOf nyD_byteOf ∈ fd_TB := List.mem_of_getElem? (i := 351) rfl
theorem tb_352 : Cond.code nyD_byteOf prog_5_method_22_code 2 (some FieldType.int) ∈ fd_TB := List.mem_of_getElem? (i := 352) rfl
theorem tb_353 : Cond.methodLink "FieldDeskLaw" 61 nyD_copy ∈ fd_TB := List.mem_of_getElem? (i := 353) rfl
theorem tb_354 : Cond.instanceMethod nyD_copy ∈ fd_TB := List.mem_of_getElem? (i := 354) rfl
theorem tb_355 : Cond.selects "FieldDeskModel" nyD_copy nyD_copy ∈ fd_TB := List.mem_of_getElem? (i := 355) rfl
theorem tb_356 : Cond.code nyD_copy prog_5_method_23_code 2 (some FieldType.boolean) ∈ fd_TB := List.mem_of_getElem? (i := 356) rfl
theorem tb_357 : Cond.constantLong "FieldDeskLaw" 13 4294967295 ∈ fd_TB := List.mem_of_getElem? (i := 357) rfl
theorem tb_358 : Cond.fieldLink "java/lang/String" 9 "java/lang/String" "value" "[B" ∈ fd_TB := List.mem_of_getElem? (i := 358) rfl
theorem tb_359 : Cond.fieldLink "java/lang/String" 15 "java/lang/String" "coder" "B" ∈ fd_TB := List.mem_of_getElem? (i := 359) rfl
def fd_NB : List Cond := [
  Cond.fieldLinkNest "FieldDesk" 89 "FieldDesk$Row" "length" "I" "FieldDesk",
  Cond.methodLinkNest "FieldDesk" 20 nyM_init "FieldDesk",
  Cond.fieldLinkNest "FieldDesk" 52 "FieldDesk$Message" "kind" "I" "FieldDesk",
  Cond.fieldLinkNest "FieldDesk" 56 "FieldDesk$Message" "count" "I" "FieldDesk",
  Cond.fieldLinkNest "FieldDesk$Message" 45 "FieldDesk" "LEG_SORTS" "[I" "FieldDesk",
  Cond.methodLinkNest "FieldDesk$Message" 35 nyF_entry "FieldDesk",
  Cond.fieldLinkNest "FieldDesk$Message" 32 "FieldDesk" "KIND_SORTS" "[I" "FieldDesk",
  Cond.methodLinkNest "FieldDesk$Row" 21 nyF_valueOfSign "FieldDesk",
  Cond.fieldLinkNest "FieldDesk$Message" 52 "FieldDesk" "MOST_NUMBER" "[J" "FieldDesk",
  Cond.fieldLinkNest "FieldDesk$Message" 59 "FieldDesk" "LEAST_VALUE" "[I" "FieldDesk"]
theorem fd_NB_on : fd_NB.all (fun w => w.onTables) = true := by decide +kernel
set_option maxRecDepth 100000 in
theorem fd_NB_in : ∀ w ∈ fd_NB, w ∈ lw_tbl := by
  have h : fd_NB = [37, 46, 53, 55, 188, 190, 193, 239, 274, 277].filterMap (fun i => lw_tbl[i]?) := rfl
  intro w hw
  rw [h] at hw
  obtain ⟨i, -, hi⟩ := List.mem_filterMap.mp hw
  exact List.mem_of_getElem? hi
theorem nb_0 : Cond.fieldLinkNest "FieldDesk" 89 "FieldDesk$Row" "length" "I" "FieldDesk" ∈ fd_NB := List.mem_of_getElem? (i := 0) rfl
theorem nb_1 : Cond.methodLinkNest "FieldDesk" 20 nyM_init "FieldDesk" ∈ fd_NB := List.mem_of_getElem? (i := 1) rfl
theorem nb_2 : Cond.fieldLinkNest "FieldDesk" 52 "FieldDesk$Message" "kind" "I" "FieldDesk" ∈ fd_NB := List.mem_of_getElem? (i := 2) rfl
theorem nb_3 : Cond.fieldLinkNest "FieldDesk" 56 "FieldDesk$Message" "count" "I" "FieldDesk" ∈ fd_NB := List.mem_of_getElem? (i := 3) rfl
theorem nb_4 : Cond.fieldLinkNest "FieldDesk$Message" 45 "FieldDesk" "LEG_SORTS" "[I" "FieldDesk" ∈ fd_NB := List.mem_of_getElem? (i := 4) rfl
theorem nb_5 : Cond.methodLinkNest "FieldDesk$Message" 35 nyF_entry "FieldDesk" ∈ fd_NB := List.mem_of_getElem? (i := 5) rfl
theorem nb_6 : Cond.fieldLinkNest "FieldDesk$Message" 32 "FieldDesk" "KIND_SORTS" "[I" "FieldDesk" ∈ fd_NB := List.mem_of_getElem? (i := 6) rfl
theorem nb_7 : Cond.methodLinkNest "FieldDesk$Row" 21 nyF_valueOfSign "FieldDesk" ∈ fd_NB := List.mem_of_getElem? (i := 7) rfl
theorem nb_8 : Cond.fieldLinkNest "FieldDesk$Message" 52 "FieldDesk" "MOST_NUMBER" "[J" "FieldDesk" ∈ fd_NB := List.mem_of_getElem? (i := 8) rfl
theorem nb_9 : Cond.fieldLinkNest "FieldDesk$Message" 59 "FieldDesk" "LEAST_VALUE" "[I" "FieldDesk" ∈ fd_NB := List.mem_of_getElem? (i := 9) rfl
theorem in_R : ∀ w ∈ u_ws nR_R nT_R 2, w ∈ fd_TB := by decide +kernel
theorem in_M : ∀ w ∈ u_ws nR_M nT_M 4, w ∈ fd_TB := by decide +kernel
theorem in_F : ∀ w ∈ u_ws nR_F nT_F 5, w ∈ fd_TB := by decide +kernel
theorem in_D : ∀ w ∈ u_ws nR_D nT_D 11, w ∈ fd_TB := by decide +kernel
theorem fd_gi {y : MethodName} {c : ByteArray} {n : Nat} {r : Option FieldType} (h : Cond.code y c n r ∈ fd_TB) : GoodIn fd_TB (.code y c n r :: fd_TB) := fun w hw => by
  rcases List.mem_cons.mp hw with rfl | hw
  · exact ⟨h, fd_TB_good _ h⟩
  · exact ⟨hw, fd_TB_good _ hw⟩
theorem fd_gV {own C : String} {i : Nat} {y : MethodName} {c : ByteArray} {n : Nat} {r : Option FieldType} (h1 : Cond.methodLink own i y ∈ fd_TB) (h2 : Cond.instanceMethod y ∈ fd_TB) (h3 : Cond.selects C y y ∈ fd_TB) (h4 : Cond.initialized C ∈ fd_TB) (h : Cond.code y c n r ∈ fd_TB) : GoodIn fd_TB (wsV own i C y (.code y c n r :: fd_TB)) := fun w hw => by
  unfold wsV at hw
  rcases List.mem_append.mp hw with hw | hw
  · have hm : w ∈ fd_TB := by
      simp only [List.mem_cons, List.not_mem_nil, or_false] at hw
      rcases hw with rfl | rfl | rfl | rfl <;> assumption
    exact ⟨hm, fd_TB_good _ hm⟩
  · exact fd_gi h w hw
theorem fd_gS {own : String} {i : Nat} {y : MethodName} {c : ByteArray} {n : Nat} {r : Option FieldType} (h1 : Cond.methodLink own i y ∈ fd_TB) (h2 : Cond.static y ∈ fd_TB) (h3 : Cond.initialized y.cls ∈ fd_TB) (h : Cond.code y c n r ∈ fd_TB) : GoodIn fd_TB (va_wsS own i y (.code y c n r :: fd_TB)) := fun w hw => by
  unfold va_wsS at hw
  rcases List.mem_append.mp hw with hw | hw
  · have hm : w ∈ fd_TB := by
      simp only [List.mem_cons, List.not_mem_nil, or_false] at hw
      rcases hw with rfl | rfl | rfl <;> assumption
    exact ⟨hm, fd_TB_good _ hm⟩
  · exact fd_gi h w hw
end
section
theorem ndF_init_0 : decode ncF_init 0 = .ok (.aload_n 0, 1) := by decide +kernel
theorem ndF_init_1 : decode ncF_init 1 = .ok (.invokespecial 1, 3) := by decide +kernel
theorem ndF_init_4 : decode ncF_init 4 = .ok (.aload_n 0, 1) := by decide +kernel
theorem ndF_init_5 : decode ncF_init 5 = .ok (.new 7, 3) := by decide +kernel
theorem ndF_init_8 : decode ncF_init 8 = .ok (.dup, 1) := by decide +kernel
theorem ndF_init_9 : decode ncF_init 9 = .ok (.sipush 400, 3) := by decide +kernel
theorem ndF_init_12 : decode ncF_init 12 = .ok (.invokespecial 11, 3) := by decide +kernel
theorem ndF_init_15 : decode ncF_init 15 = .ok (.putfield 14, 3) := by decide +kernel
theorem ndF_init_18 : decode ncF_init 18 = .ok (.aload_n 0, 1) := by decide +kernel
theorem ndF_init_19 : decode ncF_init 19 = .ok (.new 18, 3) := by decide +kernel
theorem ndF_init_22 : decode ncF_init 22 = .ok (.dup, 1) := by decide +kernel
theorem ndF_init_23 : decode ncF_init 23 = .ok (.invokespecial 20, 3) := by decide +kernel
theorem ndF_init_26 : decode ncF_init 26 = .ok (.putfield 21, 3) := by decide +kernel
theorem ndF_init_29 : decode ncF_init 29 = .ok (.aload_n 0, 1) := by decide +kernel
theorem ndF_init_30 : decode ncF_init 30 = .ok (.new 7, 3) := by decide +kernel
theorem ndF_init_33 : decode ncF_init 33 = .ok (.dup, 1) := by decide +kernel
theorem ndF_init_34 : decode ncF_init 34 = .ok (.bipush 123, 2) := by decide +kernel
theorem ndF_init_36 : decode ncF_init 36 = .ok (.invokespecial 11, 3) := by decide +kernel
theorem ndF_init_39 : decode ncF_init 39 = .ok (.putfield 25, 3) := by decide +kernel
theorem ndF_init_42 : decode ncF_init 42 = .ok (.aload_n 0, 1) := by decide +kernel
theorem ndF_init_43 : decode ncF_init 43 = .ok (.new 18, 3) := by decide +kernel
theorem ndF_init_46 : decode ncF_init 46 = .ok (.dup, 1) := by decide +kernel
theorem ndF_init_47 : decode ncF_init 47 = .ok (.invokespecial 20, 3) := by decide +kernel
theorem ndF_init_50 : decode ncF_init 50 = .ok (.putfield 28, 3) := by decide +kernel
theorem ndF_init_53 : decode ncF_init 53 = .ok (.aload_n 0, 1) := by decide +kernel
theorem ndF_init_54 : decode ncF_init 54 = .ok (.iconst 0, 1) := by decide +kernel
theorem ndF_init_55 : decode ncF_init 55 = .ok (.putfield 31, 3) := by decide +kernel
theorem ndF_init_58 : decode ncF_init 58 = .ok (.return_, 1) := by decide +kernel
theorem ndF_type_0 : decode ncF_type 0 = .ok (.iload_n 3, 1) := by decide +kernel
theorem ndF_type_1 : decode ncF_type 1 = .ok (.iconst 1, 1) := by decide +kernel
theorem ndF_type_2 : decode ncF_type 2 = .ok (.if_icmp .lt 20, 3) := by decide +kernel
theorem ndF_type_5 : decode ncF_type 5 = .ok (.iload_n 3, 1) := by decide +kernel
theorem ndF_type_6 : decode ncF_type 6 = .ok (.bipush 8, 2) := by decide +kernel
theorem ndF_type_8 : decode ncF_type 8 = .ok (.if_icmp .gt 14, 3) := by decide +kernel
theorem ndF_type_11 : decode ncF_type 11 = .ok (.aload_n 0, 1) := by decide +kernel
theorem ndF_type_12 : decode ncF_type 12 = .ok (.getfield 14, 3) := by decide +kernel
theorem ndF_type_15 : decode ncF_type 15 = .ok (.iload_n 3, 1) := by decide +kernel
theorem ndF_type_16 : decode ncF_type 16 = .ok (.invokevirtual 35, 3) := by decide +kernel
theorem ndF_type_19 : decode ncF_type 19 = .ok (.ifCond .ne 5, 3) := by decide +kernel
theorem ndF_type_22 : decode ncF_type 22 = .ok (.iconst 0, 1) := by decide +kernel
theorem ndF_type_23 : decode ncF_type 23 = .ok (.ireturn, 1) := by decide +kernel
theorem ndF_type_24 : decode ncF_type 24 = .ok (.iload_n 3, 1) := by decide +kernel
theorem ndF_type_25 : decode ncF_type 25 = .ok (.iconst 1, 1) := by decide +kernel
theorem ndF_type_26 : decode ncF_type 26 = .ok (.isub, 1) := by decide +kernel
theorem ndF_type_27 : decode ncF_type 27 = .ok (.istore 4, 2) := by decide +kernel
theorem ndF_type_29 : decode ncF_type 29 = .ok (.iload 4, 2) := by decide +kernel
theorem ndF_type_31 : decode ncF_type 31 = .ok (.ifCond .lt 28, 3) := by decide +kernel
theorem ndF_type_34 : decode ncF_type 34 = .ok (.aload_n 0, 1) := by decide +kernel
theorem ndF_type_35 : decode ncF_type 35 = .ok (.getfield 14, 3) := by decide +kernel
theorem ndF_type_38 : decode ncF_type 38 = .ok (.lload_n 1, 1) := by decide +kernel
theorem ndF_type_39 : decode ncF_type 39 = .ok (.bipush 8, 2) := by decide +kernel
theorem ndF_type_41 : decode ncF_type 41 = .ok (.iload 4, 2) := by decide +kernel
theorem ndF_type_43 : decode ncF_type 43 = .ok (.imul, 1) := by decide +kernel
theorem ndF_type_44 : decode ncF_type 44 = .ok (.lushr, 1) := by decide +kernel
theorem ndF_type_45 : decode ncF_type 45 = .ok (.l2i, 1) := by decide +kernel
theorem ndF_type_46 : decode ncF_type 46 = .ok (.sipush 255, 3) := by decide +kernel
theorem ndF_type_49 : decode ncF_type 49 = .ok (.iand, 1) := by decide +kernel
theorem ndF_type_50 : decode ncF_type 50 = .ok (.invokevirtual 39, 3) := by decide +kernel
theorem ndF_type_53 : decode ncF_type 53 = .ok (.iinc 4 (-1), 3) := by decide +kernel
theorem ndF_type_56 : decode ncF_type 56 = .ok (.goto (-27), 3) := by decide +kernel
theorem ndF_type_59 : decode ncF_type 59 = .ok (.iconst 1, 1) := by decide +kernel
theorem ndF_type_60 : decode ncF_type 60 = .ok (.ireturn, 1) := by decide +kernel
theorem ndF_read_0 : decode ncF_read 0 = .ok (.aload_n 0, 1) := by decide +kernel
theorem ndF_read_1 : decode ncF_read 1 = .ok (.invokevirtual 42, 3) := by decide +kernel
theorem ndF_read_4 : decode ncF_read 4 = .ok (.istore_n 1, 1) := by decide +kernel
theorem ndF_read_5 : decode ncF_read 5 = .ok (.aload_n 0, 1) := by decide +kernel
theorem ndF_read_6 : decode ncF_read 6 = .ok (.getfield 14, 3) := by decide +kernel
theorem ndF_read_9 : decode ncF_read 9 = .ok (.invokevirtual 46, 3) := by decide +kernel
theorem ndF_read_12 : decode ncF_read 12 = .ok (.iload_n 1, 1) := by decide +kernel
theorem ndF_read_13 : decode ncF_read 13 = .ok (.iconst (-1), 1) := by decide +kernel
theorem ndF_read_14 : decode ncF_read 14 = .ok (.if_icmp .eq 15, 3) := by decide +kernel
theorem ndF_read_17 : decode ncF_read 17 = .ok (.aload_n 0, 1) := by decide +kernel
theorem ndF_read_18 : decode ncF_read 18 = .ok (.getfield 21, 3) := by decide +kernel
theorem ndF_read_21 : decode ncF_read 21 = .ok (.iconst 0, 1) := by decide +kernel
theorem ndF_read_22 : decode ncF_read 22 = .ok (.invokevirtual 49, 3) := by decide +kernel
theorem ndF_read_25 : decode ncF_read 25 = .ok (.iconst (-1), 1) := by decide +kernel
theorem ndF_read_26 : decode ncF_read 26 = .ok (.iload_n 1, 1) := by decide +kernel
theorem ndF_read_27 : decode ncF_read 27 = .ok (.isub, 1) := by decide +kernel
theorem ndF_read_28 : decode ncF_read 28 = .ok (.ireturn, 1) := by decide +kernel
theorem ndF_read_29 : decode ncF_read 29 = .ok (.aload_n 0, 1) := by decide +kernel
theorem ndF_read_30 : decode ncF_read 30 = .ok (.getfield 21, 3) := by decide +kernel
theorem ndF_read_33 : decode ncF_read 33 = .ok (.getfield 52, 3) := by decide +kernel
theorem ndF_read_36 : decode ncF_read 36 = .ok (.ireturn, 1) := by decide +kernel
theorem ndF_fields_0 : decode ncF_fields 0 = .ok (.aload_n 0, 1) := by decide +kernel
theorem ndF_fields_1 : decode ncF_fields 1 = .ok (.getfield 21, 3) := by decide +kernel
theorem ndF_fields_4 : decode ncF_fields 4 = .ok (.getfield 56, 3) := by decide +kernel
theorem ndF_fields_7 : decode ncF_fields 7 = .ok (.ireturn, 1) := by decide +kernel
theorem ndF_sort_0 : decode ncF_sort 0 = .ok (.aload_n 0, 1) := by decide +kernel
theorem ndF_sort_1 : decode ncF_sort 1 = .ok (.getfield 21, 3) := by decide +kernel
theorem ndF_sort_4 : decode ncF_sort 4 = .ok (.iload_n 1, 1) := by decide +kernel
theorem ndF_sort_5 : decode ncF_sort 5 = .ok (.invokevirtual 59, 3) := by decide +kernel
theorem ndF_sort_8 : decode ncF_sort 8 = .ok (.ireturn, 1) := by decide +kernel
theorem ndF_number_0 : decode ncF_number 0 = .ok (.aload_n 0, 1) := by decide +kernel
theorem ndF_number_1 : decode ncF_number 1 = .ok (.getfield 21, 3) := by decide +kernel
theorem ndF_number_4 : decode ncF_number 4 = .ok (.iload_n 1, 1) := by decide +kernel
theorem ndF_number_5 : decode ncF_number 5 = .ok (.invokevirtual 63, 3) := by decide +kernel
theorem ndF_number_8 : decode ncF_number 8 = .ok (.lreturn, 1) := by decide +kernel
theorem ndF_begin_0 : decode ncF_begin 0 = .ok (.iload_n 1, 1) := by decide +kernel
theorem ndF_begin_1 : decode ncF_begin 1 = .ok (.iconst 1, 1) := by decide +kernel
theorem ndF_begin_2 : decode ncF_begin 2 = .ok (.if_icmp .lt 9, 3) := by decide +kernel
theorem ndF_begin_5 : decode ncF_begin 5 = .ok (.iload_n 1, 1) := by decide +kernel
theorem ndF_begin_6 : decode ncF_begin 6 = .ok (.bipush 15, 2) := by decide +kernel
theorem ndF_begin_8 : decode ncF_begin 8 = .ok (.if_icmp .le 5, 3) := by decide +kernel
theorem ndF_begin_11 : decode ncF_begin 11 = .ok (.iconst 0, 1) := by decide +kernel
theorem ndF_begin_12 : decode ncF_begin 12 = .ok (.ireturn, 1) := by decide +kernel
theorem ndF_begin_13 : decode ncF_begin 13 = .ok (.aload_n 0, 1) := by decide +kernel
theorem ndF_begin_14 : decode ncF_begin 14 = .ok (.getfield 28, 3) := by decide +kernel
theorem ndF_begin_17 : decode ncF_begin 17 = .ok (.iload_n 1, 1) := by decide +kernel
theorem ndF_begin_18 : decode ncF_begin 18 = .ok (.invokevirtual 49, 3) := by decide +kernel
theorem ndF_begin_21 : decode ncF_begin 21 = .ok (.aload_n 0, 1) := by decide +kernel
theorem ndF_begin_22 : decode ncF_begin 22 = .ok (.iconst 0, 1) := by decide +kernel
theorem ndF_begin_23 : decode ncF_begin 23 = .ok (.putfield 31, 3) := by decide +kernel
theorem ndF_begin_26 : decode ncF_begin 26 = .ok (.aload_n 0, 1) := by decide +kernel
theorem ndF_begin_27 : decode ncF_begin 27 = .ok (.getfield 25, 3) := by decide +kernel
theorem ndF_begin_30 : decode ncF_begin 30 = .ok (.invokevirtual 46, 3) := by decide +kernel
theorem ndF_begin_33 : decode ncF_begin 33 = .ok (.iconst 0, 1) := by decide +kernel
theorem ndF_begin_34 : decode ncF_begin 34 = .ok (.istore_n 2, 1) := by decide +kernel
theorem ndF_begin_35 : decode ncF_begin 35 = .ok (.iload_n 2, 1) := by decide +kernel
theorem ndF_begin_36 : decode ncF_begin 36 = .ok (.iconst 3, 1) := by decide +kernel
theorem ndF_begin_37 : decode ncF_begin 37 = .ok (.if_icmp .ge 21, 3) := by decide +kernel
theorem ndF_begin_40 : decode ncF_begin 40 = .ok (.aload_n 0, 1) := by decide +kernel
theorem ndF_begin_41 : decode ncF_begin 41 = .ok (.getfield 25, 3) := by decide +kernel
theorem ndF_begin_44 : decode ncF_begin 44 = .ok (.iload_n 1, 1) := by decide +kernel
theorem ndF_begin_45 : decode ncF_begin 45 = .ok (.iload_n 2, 1) := by decide +kernel
theorem ndF_begin_46 : decode ncF_begin 46 = .ok (.invokestatic 67, 3) := by decide +kernel
theorem ndF_begin_49 : decode ncF_begin 49 = .ok (.invokevirtual 39, 3) := by decide +kernel
theorem ndF_begin_52 : decode ncF_begin 52 = .ok (.iinc 2 1, 3) := by decide +kernel
theorem ndF_begin_55 : decode ncF_begin 55 = .ok (.goto (-20), 3) := by decide +kernel
theorem ndF_begin_58 : decode ncF_begin 58 = .ok (.iconst 1, 1) := by decide +kernel
theorem ndF_begin_59 : decode ncF_begin 59 = .ok (.ireturn, 1) := by decide +kernel
theorem ndF_add_0 : decode ncF_add 0 = .ok (.aload_n 0, 1) := by decide +kernel
theorem ndF_add_1 : decode ncF_add 1 = .ok (.getfield 28, 3) := by decide +kernel
theorem ndF_add_4 : decode ncF_add 4 = .ok (.lload_n 1, 1) := by decide +kernel
theorem ndF_add_5 : decode ncF_add 5 = .ok (.invokevirtual 71, 3) := by decide +kernel
theorem ndF_add_8 : decode ncF_add 8 = .ok (.ifCond .ne 5, 3) := by decide +kernel
theorem ndF_add_11 : decode ncF_add 11 = .ok (.iconst 0, 1) := by decide +kernel
theorem ndF_add_12 : decode ncF_add 12 = .ok (.ireturn, 1) := by decide +kernel
theorem ndF_add_13 : decode ncF_add 13 = .ok (.aload_n 0, 1) := by decide +kernel
theorem ndF_add_14 : decode ncF_add 14 = .ok (.aload_n 0, 1) := by decide +kernel
theorem ndF_add_15 : decode ncF_add 15 = .ok (.getfield 28, 3) := by decide +kernel
theorem ndF_add_18 : decode ncF_add 18 = .ok (.invokevirtual 75, 3) := by decide +kernel
theorem ndF_add_21 : decode ncF_add 21 = .ok (.lload_n 1, 1) := by decide +kernel
theorem ndF_add_22 : decode ncF_add 22 = .ok (.invokevirtual 78, 3) := by decide +kernel
theorem ndF_add_25 : decode ncF_add 25 = .ok (.aload_n 0, 1) := by decide +kernel
theorem ndF_add_26 : decode ncF_add 26 = .ok (.getfield 28, 3) := by decide +kernel
theorem ndF_add_29 : decode ncF_add 29 = .ok (.lload_n 1, 1) := by decide +kernel
theorem ndF_add_30 : decode ncF_add 30 = .ok (.invokevirtual 82, 3) := by decide +kernel
theorem ndF_add_33 : decode ncF_add 33 = .ok (.iconst 1, 1) := by decide +kernel
theorem ndF_add_34 : decode ncF_add 34 = .ok (.ireturn, 1) := by decide +kernel
theorem ndF_end_0 : decode ncF_end 0 = .ok (.aload_n 0, 1) := by decide +kernel
theorem ndF_end_1 : decode ncF_end 1 = .ok (.getfield 28, 3) := by decide +kernel
theorem ndF_end_4 : decode ncF_end 4 = .ok (.getfield 52, 3) := by decide +kernel
theorem ndF_end_7 : decode ncF_end 7 = .ok (.ifCond .eq 20, 3) := by decide +kernel
theorem ndF_end_10 : decode ncF_end 10 = .ok (.aload_n 0, 1) := by decide +kernel
theorem ndF_end_11 : decode ncF_end 11 = .ok (.getfield 31, 3) := by decide +kernel
theorem ndF_end_14 : decode ncF_end 14 = .ok (.ifCond .ne 13, 3) := by decide +kernel
theorem ndF_end_17 : decode ncF_end 17 = .ok (.aload_n 0, 1) := by decide +kernel
theorem ndF_end_18 : decode ncF_end 18 = .ok (.getfield 28, 3) := by decide +kernel
theorem ndF_end_21 : decode ncF_end 21 = .ok (.invokevirtual 75, 3) := by decide +kernel
theorem ndF_end_24 : decode ncF_end 24 = .ok (.ifCond .eq 5, 3) := by decide +kernel
theorem ndF_end_27 : decode ncF_end 27 = .ok (.iconst (-1), 1) := by decide +kernel
theorem ndF_end_28 : decode ncF_end 28 = .ok (.ireturn, 1) := by decide +kernel
theorem ndF_end_29 : decode ncF_end 29 = .ok (.bipush 98, 2) := by decide +kernel
theorem ndF_end_31 : decode ncF_end 31 = .ok (.aload_n 0, 1) := by decide +kernel
theorem ndF_end_32 : decode ncF_end 32 = .ok (.getfield 25, 3) := by decide +kernel
theorem ndF_end_35 : decode ncF_end 35 = .ok (.invokevirtual 86, 3) := by decide +kernel
theorem ndF_end_38 : decode ncF_end 38 = .ok (.bipush 100, 2) := by decide +kernel
theorem ndF_end_40 : decode ncF_end 40 = .ok (.imul, 1) := by decide +kernel
theorem ndF_end_41 : decode ncF_end 41 = .ok (.bipush 97, 2) := by decide +kernel
theorem ndF_end_43 : decode ncF_end 43 = .ok (.irem, 1) := by decide +kernel
theorem ndF_end_44 : decode ncF_end 44 = .ok (.isub, 1) := by decide +kernel
theorem ndF_end_45 : decode ncF_end 45 = .ok (.istore_n 1, 1) := by decide +kernel
theorem ndF_end_46 : decode ncF_end 46 = .ok (.aload_n 0, 1) := by decide +kernel
theorem ndF_end_47 : decode ncF_end 47 = .ok (.getfield 25, 3) := by decide +kernel
theorem ndF_end_50 : decode ncF_end 50 = .ok (.bipush 48, 2) := by decide +kernel
theorem ndF_end_52 : decode ncF_end 52 = .ok (.iload_n 1, 1) := by decide +kernel
theorem ndF_end_53 : decode ncF_end 53 = .ok (.bipush 10, 2) := by decide +kernel
theorem ndF_end_55 : decode ncF_end 55 = .ok (.idiv, 1) := by decide +kernel
theorem ndF_end_56 : decode ncF_end 56 = .ok (.iadd, 1) := by decide +kernel
theorem ndF_end_57 : decode ncF_end 57 = .ok (.invokevirtual 39, 3) := by decide +kernel
theorem ndF_end_60 : decode ncF_end 60 = .ok (.aload_n 0, 1) := by decide +kernel
theorem ndF_end_61 : decode ncF_end 61 = .ok (.getfield 25, 3) := by decide +kernel
theorem ndF_end_64 : decode ncF_end 64 = .ok (.bipush 48, 2) := by decide +kernel
theorem ndF_end_66 : decode ncF_end 66 = .ok (.iload_n 1, 1) := by decide +kernel
theorem ndF_end_67 : decode ncF_end 67 = .ok (.bipush 10, 2) := by decide +kernel
theorem ndF_end_69 : decode ncF_end 69 = .ok (.irem, 1) := by decide +kernel
theorem ndF_end_70 : decode ncF_end 70 = .ok (.iadd, 1) := by decide +kernel
theorem ndF_end_71 : decode ncF_end 71 = .ok (.invokevirtual 39, 3) := by decide +kernel
theorem ndF_end_74 : decode ncF_end 74 = .ok (.aload_n 0, 1) := by decide +kernel
theorem ndF_end_75 : decode ncF_end 75 = .ok (.iconst 1, 1) := by decide +kernel
theorem ndF_end_76 : decode ncF_end 76 = .ok (.putfield 31, 3) := by decide +kernel
theorem ndF_end_79 : decode ncF_end 79 = .ok (.aload_n 0, 1) := by decide +kernel
theorem ndF_end_80 : decode ncF_end 80 = .ok (.getfield 25, 3) := by decide +kernel
theorem ndF_end_83 : decode ncF_end 83 = .ok (.getfield 89, 3) := by decide +kernel
theorem ndF_end_86 : decode ncF_end 86 = .ok (.ireturn, 1) := by decide +kernel
theorem ndF_byteOf_0 : decode ncF_byteOf 0 = .ok (.aload_n 0, 1) := by decide +kernel
theorem ndF_byteOf_1 : decode ncF_byteOf 1 = .ok (.getfield 25, 3) := by decide +kernel
theorem ndF_byteOf_4 : decode ncF_byteOf 4 = .ok (.iload_n 1, 1) := by decide +kernel
theorem ndF_byteOf_5 : decode ncF_byteOf 5 = .ok (.invokevirtual 92, 3) := by decide +kernel
theorem ndF_byteOf_8 : decode ncF_byteOf 8 = .ok (.ireturn, 1) := by decide +kernel
theorem ndF_copy_0 : decode ncF_copy 0 = .ok (.aload_n 0, 1) := by decide +kernel
theorem ndF_copy_1 : decode ncF_copy 1 = .ok (.getfield 28, 3) := by decide +kernel
theorem ndF_copy_4 : decode ncF_copy 4 = .ok (.getfield 52, 3) := by decide +kernel
theorem ndF_copy_7 : decode ncF_copy 7 = .ok (.ifCond .eq 20, 3) := by decide +kernel
theorem ndF_copy_10 : decode ncF_copy 10 = .ok (.aload_n 0, 1) := by decide +kernel
theorem ndF_copy_11 : decode ncF_copy 11 = .ok (.getfield 14, 3) := by decide +kernel
theorem ndF_copy_14 : decode ncF_copy 14 = .ok (.aload_n 0, 1) := by decide +kernel
theorem ndF_copy_15 : decode ncF_copy 15 = .ok (.getfield 25, 3) := by decide +kernel
theorem ndF_copy_18 : decode ncF_copy 18 = .ok (.getfield 89, 3) := by decide +kernel
theorem ndF_copy_21 : decode ncF_copy 21 = .ok (.invokevirtual 35, 3) := by decide +kernel
theorem ndF_copy_24 : decode ncF_copy 24 = .ok (.ifCond .ne 5, 3) := by decide +kernel
theorem ndF_copy_27 : decode ncF_copy 27 = .ok (.iconst 0, 1) := by decide +kernel
theorem ndF_copy_28 : decode ncF_copy 28 = .ok (.ireturn, 1) := by decide +kernel
theorem ndF_copy_29 : decode ncF_copy 29 = .ok (.iconst 0, 1) := by decide +kernel
theorem ndF_copy_30 : decode ncF_copy 30 = .ok (.istore_n 1, 1) := by decide +kernel
theorem ndF_copy_31 : decode ncF_copy 31 = .ok (.iload_n 1, 1) := by decide +kernel
theorem ndF_copy_32 : decode ncF_copy 32 = .ok (.aload_n 0, 1) := by decide +kernel
theorem ndF_copy_33 : decode ncF_copy 33 = .ok (.getfield 25, 3) := by decide +kernel
theorem ndF_copy_36 : decode ncF_copy 36 = .ok (.getfield 89, 3) := by decide +kernel
theorem ndF_copy_39 : decode ncF_copy 39 = .ok (.if_icmp .ge 24, 3) := by decide +kernel
theorem ndF_copy_42 : decode ncF_copy 42 = .ok (.aload_n 0, 1) := by decide +kernel
theorem ndF_copy_43 : decode ncF_copy 43 = .ok (.getfield 14, 3) := by decide +kernel
theorem ndF_copy_46 : decode ncF_copy 46 = .ok (.aload_n 0, 1) := by decide +kernel
theorem ndF_copy_47 : decode ncF_copy 47 = .ok (.getfield 25, 3) := by decide +kernel
theorem ndF_copy_50 : decode ncF_copy 50 = .ok (.iload_n 1, 1) := by decide +kernel
theorem ndF_copy_51 : decode ncF_copy 51 = .ok (.invokevirtual 92, 3) := by decide +kernel
theorem ndF_copy_54 : decode ncF_copy 54 = .ok (.invokevirtual 39, 3) := by decide +kernel
theorem ndF_copy_57 : decode ncF_copy 57 = .ok (.iinc 1 1, 3) := by decide +kernel
theorem ndF_copy_60 : decode ncF_copy 60 = .ok (.goto (-29), 3) := by decide +kernel
theorem ndF_copy_63 : decode ncF_copy 63 = .ok (.iconst 1, 1) := by decide +kernel
theorem ndF_copy_64 : decode ncF_copy 64 = .ok (.ireturn, 1) := by decide +kernel
theorem ndF_hearText_0 : decode ncF_hearText 0 = .ok (.aload_n 0, 1) := by decide +kernel
theorem ndF_hearText_1 : decode ncF_hearText 1 = .ok (.invokevirtual 95, 3) := by decide +kernel
theorem ndF_hearText_4 : decode ncF_hearText 4 = .ok (.istore_n 1, 1) := by decide +kernel
theorem ndF_hearText_5 : decode ncF_hearText 5 = .ok (.iconst 3, 1) := by decide +kernel
theorem ndF_hearText_6 : decode ncF_hearText 6 = .ok (.istore_n 2, 1) := by decide +kernel
theorem ndF_hearText_7 : decode ncF_hearText 7 = .ok (.iconst 0, 1) := by decide +kernel
theorem ndF_hearText_8 : decode ncF_hearText 8 = .ok (.istore_n 3, 1) := by decide +kernel
theorem ndF_hearText_9 : decode ncF_hearText 9 = .ok (.iload_n 3, 1) := by decide +kernel
theorem ndF_hearText_10 : decode ncF_hearText 10 = .ok (.bipush 20, 2) := by decide +kernel
theorem ndF_hearText_12 : decode ncF_hearText 12 = .ok (.if_icmp .ge 52, 3) := by decide +kernel
theorem ndF_hearText_15 : decode ncF_hearText 15 = .ok (.iload_n 1, 1) := by decide +kernel
theorem ndF_hearText_16 : decode ncF_hearText 16 = .ok (.iconst (-1), 1) := by decide +kernel
theorem ndF_hearText_17 : decode ncF_hearText 17 = .ok (.if_icmp .ne 47, 3) := by decide +kernel
theorem ndF_hearText_20 : decode ncF_hearText 20 = .ok (.aload_n 0, 1) := by decide +kernel
theorem ndF_hearText_21 : decode ncF_hearText 21 = .ok (.getfield 21, 3) := by decide +kernel
theorem ndF_hearText_24 : decode ncF_hearText 24 = .ok (.invokevirtual 75, 3) := by decide +kernel
theorem ndF_hearText_27 : decode ncF_hearText 27 = .ok (.ifCond .eq 37, 3) := by decide +kernel
theorem ndF_hearText_30 : decode ncF_hearText 30 = .ok (.iload_n 2, 1) := by decide +kernel
theorem ndF_hearText_31 : decode ncF_hearText 31 = .ok (.getstatic 98, 3) := by decide +kernel
theorem ndF_hearText_34 : decode ncF_hearText 34 = .ok (.aload_n 0, 1) := by decide +kernel
theorem ndF_hearText_35 : decode ncF_hearText 35 = .ok (.getfield 21, 3) := by decide +kernel
theorem ndF_hearText_38 : decode ncF_hearText 38 = .ok (.invokevirtual 75, 3) := by decide +kernel
theorem ndF_hearText_41 : decode ncF_hearText 41 = .ok (.invokestatic 102, 3) := by decide +kernel
theorem ndF_hearText_44 : decode ncF_hearText 44 = .ok (.iadd, 1) := by decide +kernel
theorem ndF_hearText_45 : decode ncF_hearText 45 = .ok (.istore 4, 2) := by decide +kernel
theorem ndF_hearText_47 : decode ncF_hearText 47 = .ok (.aload_n 0, 1) := by decide +kernel
theorem ndF_hearText_48 : decode ncF_hearText 48 = .ok (.iload_n 2, 1) := by decide +kernel
theorem ndF_hearText_49 : decode ncF_hearText 49 = .ok (.iload 4, 2) := by decide +kernel
theorem ndF_hearText_51 : decode ncF_hearText 51 = .ok (.invokevirtual 106, 3) := by decide +kernel
theorem ndF_hearText_54 : decode ncF_hearText 54 = .ok (.istore_n 1, 1) := by decide +kernel
theorem ndF_hearText_55 : decode ncF_hearText 55 = .ok (.iload 4, 2) := by decide +kernel
theorem ndF_hearText_57 : decode ncF_hearText 57 = .ok (.istore_n 2, 1) := by decide +kernel
theorem ndF_hearText_58 : decode ncF_hearText 58 = .ok (.iinc 3 1, 3) := by decide +kernel
theorem ndF_hearText_61 : decode ncF_hearText 61 = .ok (.goto (-52), 3) := by decide +kernel
theorem ndF_hearText_64 : decode ncF_hearText 64 = .ok (.iload_n 1, 1) := by decide +kernel
theorem ndF_hearText_65 : decode ncF_hearText 65 = .ok (.iconst (-1), 1) := by decide +kernel
theorem ndF_hearText_66 : decode ncF_hearText 66 = .ok (.if_icmp .ne 11, 3) := by decide +kernel
theorem ndF_hearText_69 : decode ncF_hearText 69 = .ok (.aload_n 0, 1) := by decide +kernel
theorem ndF_hearText_70 : decode ncF_hearText 70 = .ok (.iload_n 2, 1) := by decide +kernel
theorem ndF_hearText_71 : decode ncF_hearText 71 = .ok (.invokevirtual 109, 3) := by decide +kernel
theorem ndF_hearText_74 : decode ncF_hearText 74 = .ok (.goto 4, 3) := by decide +kernel
theorem ndF_hearText_77 : decode ncF_hearText 77 = .ok (.iload_n 1, 1) := by decide +kernel
theorem ndF_hearText_78 : decode ncF_hearText 78 = .ok (.ireturn, 1) := by decide +kernel
theorem ndF_hearKind_0 : decode ncF_hearKind 0 = .ok (.iconst 0, 1) := by decide +kernel
theorem ndF_hearKind_1 : decode ncF_hearKind 1 = .ok (.istore_n 1, 1) := by decide +kernel
theorem ndF_hearKind_2 : decode ncF_hearKind 2 = .ok (.iload_n 1, 1) := by decide +kernel
theorem ndF_hearKind_3 : decode ncF_hearKind 3 = .ok (.iconst 3, 1) := by decide +kernel
theorem ndF_hearKind_4 : decode ncF_hearKind 4 = .ok (.if_icmp .ge 21, 3) := by decide +kernel
theorem ndF_hearKind_7 : decode ncF_hearKind 7 = .ok (.aload_n 0, 1) := by decide +kernel
theorem ndF_hearKind_8 : decode ncF_hearKind 8 = .ok (.iload_n 1, 1) := by decide +kernel
theorem ndF_hearKind_9 : decode ncF_hearKind 9 = .ok (.iconst 1, 1) := by decide +kernel
theorem ndF_hearKind_10 : decode ncF_hearKind 10 = .ok (.iadd, 1) := by decide +kernel
theorem ndF_hearKind_11 : decode ncF_hearKind 11 = .ok (.invokevirtual 112, 3) := by decide +kernel
theorem ndF_hearKind_14 : decode ncF_hearKind 14 = .ok (.ifCond .ne 5, 3) := by decide +kernel
theorem ndF_hearKind_17 : decode ncF_hearKind 17 = .ok (.iload_n 1, 1) := by decide +kernel
theorem ndF_hearKind_18 : decode ncF_hearKind 18 = .ok (.ireturn, 1) := by decide +kernel
theorem ndF_hearKind_19 : decode ncF_hearKind 19 = .ok (.iinc 1 1, 3) := by decide +kernel
theorem ndF_hearKind_22 : decode ncF_hearKind 22 = .ok (.goto (-20), 3) := by decide +kernel
theorem ndF_hearKind_25 : decode ncF_hearKind 25 = .ok (.aload_n 0, 1) := by decide +kernel
theorem ndF_hearKind_26 : decode ncF_hearKind 26 = .ok (.getfield 21, 3) := by decide +kernel
theorem ndF_hearKind_29 : decode ncF_hearKind 29 = .ok (.aload_n 0, 1) := by decide +kernel
theorem ndF_hearKind_30 : decode ncF_hearKind 30 = .ok (.iconst 3, 1) := by decide +kernel
theorem ndF_hearKind_31 : decode ncF_hearKind 31 = .ok (.invokevirtual 112, 3) := by decide +kernel
theorem ndF_hearKind_34 : decode ncF_hearKind 34 = .ok (.invokevirtual 49, 3) := by decide +kernel
theorem ndF_hearKind_37 : decode ncF_hearKind 37 = .ok (.iconst (-1), 1) := by decide +kernel
theorem ndF_hearKind_38 : decode ncF_hearKind 38 = .ok (.ireturn, 1) := by decide +kernel
theorem ndF_kindWithSigns_0 : decode ncF_kindWithSigns 0 = .ok (.iconst 1, 1) := by decide +kernel
theorem ndF_kindWithSigns_1 : decode ncF_kindWithSigns 1 = .ok (.istore_n 2, 1) := by decide +kernel
theorem ndF_kindWithSigns_2 : decode ncF_kindWithSigns 2 = .ok (.iload_n 2, 1) := by decide +kernel
theorem ndF_kindWithSigns_3 : decode ncF_kindWithSigns 3 = .ok (.bipush 15, 2) := by decide +kernel
theorem ndF_kindWithSigns_5 : decode ncF_kindWithSigns 5 = .ok (.if_icmp .gt 20, 3) := by decide +kernel
theorem ndF_kindWithSigns_8 : decode ncF_kindWithSigns 8 = .ok (.aload_n 0, 1) := by decide +kernel
theorem ndF_kindWithSigns_9 : decode ncF_kindWithSigns 9 = .ok (.iload_n 2, 1) := by decide +kernel
theorem ndF_kindWithSigns_10 : decode ncF_kindWithSigns 10 = .ok (.iload_n 1, 1) := by decide +kernel
theorem ndF_kindWithSigns_11 : decode ncF_kindWithSigns 11 = .ok (.invokevirtual 115, 3) := by decide +kernel
theorem ndF_kindWithSigns_14 : decode ncF_kindWithSigns 14 = .ok (.ifCond .eq 5, 3) := by decide +kernel
theorem ndF_kindWithSigns_17 : decode ncF_kindWithSigns 17 = .ok (.iload_n 2, 1) := by decide +kernel
theorem ndF_kindWithSigns_18 : decode ncF_kindWithSigns 18 = .ok (.ireturn, 1) := by decide +kernel
theorem ndF_kindWithSigns_19 : decode ncF_kindWithSigns 19 = .ok (.iinc 2 1, 3) := by decide +kernel
theorem ndF_kindWithSigns_22 : decode ncF_kindWithSigns 22 = .ok (.goto (-20), 3) := by decide +kernel
theorem ndF_kindWithSigns_25 : decode ncF_kindWithSigns 25 = .ok (.iconst 0, 1) := by decide +kernel
theorem ndF_kindWithSigns_26 : decode ncF_kindWithSigns 26 = .ok (.ireturn, 1) := by decide +kernel
theorem ndF_textBeginsAs_0 : decode ncF_textBeginsAs 0 = .ok (.iconst 0, 1) := by decide +kernel
theorem ndF_textBeginsAs_1 : decode ncF_textBeginsAs 1 = .ok (.istore_n 3, 1) := by decide +kernel
theorem ndF_textBeginsAs_2 : decode ncF_textBeginsAs 2 = .ok (.iload_n 3, 1) := by decide +kernel
theorem ndF_textBeginsAs_3 : decode ncF_textBeginsAs 3 = .ok (.iload_n 2, 1) := by decide +kernel
theorem ndF_textBeginsAs_4 : decode ncF_textBeginsAs 4 = .ok (.if_icmp .ge 27, 3) := by decide +kernel
theorem ndF_textBeginsAs_7 : decode ncF_textBeginsAs 7 = .ok (.aload_n 0, 1) := by decide +kernel
theorem ndF_textBeginsAs_8 : decode ncF_textBeginsAs 8 = .ok (.getfield 14, 3) := by decide +kernel
theorem ndF_textBeginsAs_11 : decode ncF_textBeginsAs 11 = .ok (.iload_n 3, 1) := by decide +kernel
theorem ndF_textBeginsAs_12 : decode ncF_textBeginsAs 12 = .ok (.invokevirtual 92, 3) := by decide +kernel
theorem ndF_textBeginsAs_15 : decode ncF_textBeginsAs 15 = .ok (.iload_n 1, 1) := by decide +kernel
theorem ndF_textBeginsAs_16 : decode ncF_textBeginsAs 16 = .ok (.iload_n 3, 1) := by decide +kernel
theorem ndF_textBeginsAs_17 : decode ncF_textBeginsAs 17 = .ok (.invokestatic 67, 3) := by decide +kernel
theorem ndF_textBeginsAs_20 : decode ncF_textBeginsAs 20 = .ok (.if_icmp .eq 5, 3) := by decide +kernel
theorem ndF_textBeginsAs_23 : decode ncF_textBeginsAs 23 = .ok (.iconst 0, 1) := by decide +kernel
theorem ndF_textBeginsAs_24 : decode ncF_textBeginsAs 24 = .ok (.ireturn, 1) := by decide +kernel
theorem ndF_textBeginsAs_25 : decode ncF_textBeginsAs 25 = .ok (.iinc 3 1, 3) := by decide +kernel
theorem ndF_textBeginsAs_28 : decode ncF_textBeginsAs 28 = .ok (.goto (-26), 3) := by decide +kernel
theorem ndF_textBeginsAs_31 : decode ncF_textBeginsAs 31 = .ok (.iconst 1, 1) := by decide +kernel
theorem ndF_textBeginsAs_32 : decode ncF_textBeginsAs 32 = .ok (.ireturn, 1) := by decide +kernel
theorem ndF_hearField_0 : decode ncF_hearField 0 = .ok (.aload_n 0, 1) := by decide +kernel
theorem ndF_hearField_1 : decode ncF_hearField 1 = .ok (.getfield 21, 3) := by decide +kernel
theorem ndF_hearField_4 : decode ncF_hearField 4 = .ok (.invokevirtual 75, 3) := by decide +kernel
theorem ndF_hearField_7 : decode ncF_hearField 7 = .ok (.istore_n 3, 1) := by decide +kernel
theorem ndF_hearField_8 : decode ncF_hearField 8 = .ok (.iload_n 3, 1) := by decide +kernel
theorem ndF_hearField_9 : decode ncF_hearField 9 = .ok (.invokestatic 119, 3) := by decide +kernel
theorem ndF_hearField_12 : decode ncF_hearField 12 = .ok (.ifCond .eq 8, 3) := by decide +kernel
theorem ndF_hearField_15 : decode ncF_hearField 15 = .ok (.bipush 36, 2) := by decide +kernel
theorem ndF_hearField_17 : decode ncF_hearField 17 = .ok (.goto 5, 3) := by decide +kernel
theorem ndF_hearField_20 : decode ncF_hearField 20 = .ok (.bipush 10, 2) := by decide +kernel
theorem ndF_hearField_22 : decode ncF_hearField 22 = .ok (.istore 4, 2) := by decide +kernel
theorem ndF_hearField_24 : decode ncF_hearField 24 = .ok (.lconst 0, 1) := by decide +kernel
theorem ndF_hearField_25 : decode ncF_hearField 25 = .ok (.lstore 5, 2) := by decide +kernel
theorem ndF_hearField_27 : decode ncF_hearField 27 = .ok (.iload_n 1, 1) := by decide +kernel
theorem ndF_hearField_28 : decode ncF_hearField 28 = .ok (.istore 7, 2) := by decide +kernel
theorem ndF_hearField_30 : decode ncF_hearField 30 = .ok (.iload 7, 2) := by decide +kernel
theorem ndF_hearField_32 : decode ncF_hearField 32 = .ok (.iload_n 2, 1) := by decide +kernel
theorem ndF_hearField_33 : decode ncF_hearField 33 = .ok (.if_icmp .ge 59, 3) := by decide +kernel
theorem ndF_hearField_36 : decode ncF_hearField 36 = .ok (.iload_n 3, 1) := by decide +kernel
theorem ndF_hearField_37 : decode ncF_hearField 37 = .ok (.aload_n 0, 1) := by decide +kernel
theorem ndF_hearField_38 : decode ncF_hearField 38 = .ok (.getfield 14, 3) := by decide +kernel
theorem ndF_hearField_41 : decode ncF_hearField 41 = .ok (.iload 7, 2) := by decide +kernel
theorem ndF_hearField_43 : decode ncF_hearField 43 = .ok (.invokevirtual 92, 3) := by decide +kernel
theorem ndF_hearField_46 : decode ncF_hearField 46 = .ok (.invokestatic 122, 3) := by decide +kernel
theorem ndF_hearField_49 : decode ncF_hearField 49 = .ok (.istore 8, 2) := by decide +kernel
theorem ndF_hearField_51 : decode ncF_hearField 51 = .ok (.iload 8, 2) := by decide +kernel
theorem ndF_hearField_53 : decode ncF_hearField 53 = .ok (.ifCond .lt 18, 3) := by decide +kernel
theorem ndF_hearField_56 : decode ncF_hearField 56 = .ok (.iload 8, 2) := by decide +kernel
theorem ndF_hearField_58 : decode ncF_hearField 58 = .ok (.ifCond .le 16, 3) := by decide +kernel
theorem ndF_hearField_61 : decode ncF_hearField 61 = .ok (.aload_n 0, 1) := by decide +kernel
theorem ndF_hearField_62 : decode ncF_hearField 62 = .ok (.getfield 21, 3) := by decide +kernel
theorem ndF_hearField_65 : decode ncF_hearField 65 = .ok (.invokevirtual 125, 3) := by decide +kernel
theorem ndF_hearField_68 : decode ncF_hearField 68 = .ok (.ifCond .eq 6, 3) := by decide +kernel
theorem ndF_hearField_71 : decode ncF_hearField 71 = .ok (.iload 7, 2) := by decide +kernel
theorem ndF_hearField_73 : decode ncF_hearField 73 = .ok (.ireturn, 1) := by decide +kernel
theorem ndF_hearField_74 : decode ncF_hearField 74 = .ok (.lload 5, 2) := by decide +kernel
theorem ndF_hearField_76 : decode ncF_hearField 76 = .ok (.iload 4, 2) := by decide +kernel
theorem ndF_hearField_78 : decode ncF_hearField 78 = .ok (.i2l, 1) := by decide +kernel
theorem ndF_hearField_79 : decode ncF_hearField 79 = .ok (.lmul, 1) := by decide +kernel
theorem ndF_hearField_80 : decode ncF_hearField 80 = .ok (.iload 8, 2) := by decide +kernel
theorem ndF_hearField_82 : decode ncF_hearField 82 = .ok (.i2l, 1) := by decide +kernel
theorem ndF_hearField_83 : decode ncF_hearField 83 = .ok (.ladd, 1) := by decide +kernel
theorem ndF_hearField_84 : decode ncF_hearField 84 = .ok (.lstore 5, 2) := by decide +kernel
theorem ndF_hearField_86 : decode ncF_hearField 86 = .ok (.iinc 7 1, 3) := by decide +kernel
theorem ndF_hearField_89 : decode ncF_hearField 89 = .ok (.goto (-59), 3) := by decide +kernel
theorem ndF_hearField_92 : decode ncF_hearField 92 = .ok (.aload_n 0, 1) := by decide +kernel
theorem ndF_hearField_93 : decode ncF_hearField 93 = .ok (.getfield 21, 3) := by decide +kernel
theorem ndF_hearField_96 : decode ncF_hearField 96 = .ok (.lload 5, 2) := by decide +kernel
theorem ndF_hearField_98 : decode ncF_hearField 98 = .ok (.invokevirtual 82, 3) := by decide +kernel
theorem ndF_hearField_101 : decode ncF_hearField 101 = .ok (.iconst (-1), 1) := by decide +kernel
theorem ndF_hearField_102 : decode ncF_hearField 102 = .ok (.ireturn, 1) := by decide +kernel
theorem ndF_hearCheckDigits_0 : decode ncF_hearCheckDigits 0 = .ok (.iload_n 1, 1) := by decide +kernel
theorem ndF_hearCheckDigits_1 : decode ncF_hearCheckDigits 1 = .ok (.istore_n 2, 1) := by decide +kernel
theorem ndF_hearCheckDigits_2 : decode ncF_hearCheckDigits 2 = .ok (.iload_n 2, 1) := by decide +kernel
theorem ndF_hearCheckDigits_3 : decode ncF_hearCheckDigits 3 = .ok (.iload_n 1, 1) := by decide +kernel
theorem ndF_hearCheckDigits_4 : decode ncF_hearCheckDigits 4 = .ok (.iconst 2, 1) := by decide +kernel
theorem ndF_hearCheckDigits_5 : decode ncF_hearCheckDigits 5 = .ok (.iadd, 1) := by decide +kernel
theorem ndF_hearCheckDigits_6 : decode ncF_hearCheckDigits 6 = .ok (.if_icmp .ge 25, 3) := by decide +kernel
theorem ndF_hearCheckDigits_9 : decode ncF_hearCheckDigits 9 = .ok (.aload_n 0, 1) := by decide +kernel
theorem ndF_hearCheckDigits_10 : decode ncF_hearCheckDigits 10 = .ok (.getfield 14, 3) := by decide +kernel
theorem ndF_hearCheckDigits_13 : decode ncF_hearCheckDigits 13 = .ok (.iload_n 2, 1) := by decide +kernel
theorem ndF_hearCheckDigits_14 : decode ncF_hearCheckDigits 14 = .ok (.invokevirtual 92, 3) := by decide +kernel
theorem ndF_hearCheckDigits_17 : decode ncF_hearCheckDigits 17 = .ok (.invokestatic 129, 3) := by decide +kernel
theorem ndF_hearCheckDigits_20 : decode ncF_hearCheckDigits 20 = .ok (.ifCond .ne 5, 3) := by decide +kernel
theorem ndF_hearCheckDigits_23 : decode ncF_hearCheckDigits 23 = .ok (.iload_n 2, 1) := by decide +kernel
theorem ndF_hearCheckDigits_24 : decode ncF_hearCheckDigits 24 = .ok (.ireturn, 1) := by decide +kernel
theorem ndF_hearCheckDigits_25 : decode ncF_hearCheckDigits 25 = .ok (.iinc 2 1, 3) := by decide +kernel
theorem ndF_hearCheckDigits_28 : decode ncF_hearCheckDigits 28 = .ok (.goto (-26), 3) := by decide +kernel
theorem ndF_hearCheckDigits_31 : decode ncF_hearCheckDigits 31 = .ok (.aload_n 0, 1) := by decide +kernel
theorem ndF_hearCheckDigits_32 : decode ncF_hearCheckDigits 32 = .ok (.getfield 14, 3) := by decide +kernel
theorem ndF_hearCheckDigits_35 : decode ncF_hearCheckDigits 35 = .ok (.getfield 89, 3) := by decide +kernel
theorem ndF_hearCheckDigits_38 : decode ncF_hearCheckDigits 38 = .ok (.iload_n 1, 1) := by decide +kernel
theorem ndF_hearCheckDigits_39 : decode ncF_hearCheckDigits 39 = .ok (.iconst 2, 1) := by decide +kernel
theorem ndF_hearCheckDigits_40 : decode ncF_hearCheckDigits 40 = .ok (.iadd, 1) := by decide +kernel
theorem ndF_hearCheckDigits_41 : decode ncF_hearCheckDigits 41 = .ok (.if_icmp .le 7, 3) := by decide +kernel
theorem ndF_hearCheckDigits_44 : decode ncF_hearCheckDigits 44 = .ok (.iload_n 1, 1) := by decide +kernel
theorem ndF_hearCheckDigits_45 : decode ncF_hearCheckDigits 45 = .ok (.iconst 2, 1) := by decide +kernel
theorem ndF_hearCheckDigits_46 : decode ncF_hearCheckDigits 46 = .ok (.iadd, 1) := by decide +kernel
theorem ndF_hearCheckDigits_47 : decode ncF_hearCheckDigits 47 = .ok (.ireturn, 1) := by decide +kernel
theorem ndF_hearCheckDigits_48 : decode ncF_hearCheckDigits 48 = .ok (.aload_n 0, 1) := by decide +kernel
theorem ndF_hearCheckDigits_49 : decode ncF_hearCheckDigits 49 = .ok (.getfield 14, 3) := by decide +kernel
theorem ndF_hearCheckDigits_52 : decode ncF_hearCheckDigits 52 = .ok (.invokevirtual 86, 3) := by decide +kernel
theorem ndF_hearCheckDigits_55 : decode ncF_hearCheckDigits 55 = .ok (.iconst 1, 1) := by decide +kernel
theorem ndF_hearCheckDigits_56 : decode ncF_hearCheckDigits 56 = .ok (.if_icmp .ne 7, 3) := by decide +kernel
theorem ndF_hearCheckDigits_59 : decode ncF_hearCheckDigits 59 = .ok (.iconst (-1), 1) := by decide +kernel
theorem ndF_hearCheckDigits_60 : decode ncF_hearCheckDigits 60 = .ok (.goto 4, 3) := by decide +kernel
theorem ndF_hearCheckDigits_63 : decode ncF_hearCheckDigits 63 = .ok (.iload_n 1, 1) := by decide +kernel
theorem ndF_hearCheckDigits_64 : decode ncF_hearCheckDigits 64 = .ok (.ireturn, 1) := by decide +kernel
theorem ndF_writeField_0 : decode ncF_writeField 0 = .ok (.aload_n 0, 1) := by decide +kernel
theorem ndF_writeField_1 : decode ncF_writeField 1 = .ok (.getfield 25, 3) := by decide +kernel
theorem ndF_writeField_4 : decode ncF_writeField 4 = .ok (.getfield 89, 3) := by decide +kernel
theorem ndF_writeField_7 : decode ncF_writeField 7 = .ok (.istore 4, 2) := by decide +kernel
theorem ndF_writeField_9 : decode ncF_writeField 9 = .ok (.iload 4, 2) := by decide +kernel
theorem ndF_writeField_11 : decode ncF_writeField 11 = .ok (.getstatic 98, 3) := by decide +kernel
theorem ndF_writeField_14 : decode ncF_writeField 14 = .ok (.iload_n 1, 1) := by decide +kernel
theorem ndF_writeField_15 : decode ncF_writeField 15 = .ok (.invokestatic 102, 3) := by decide +kernel
theorem ndF_writeField_18 : decode ncF_writeField 18 = .ok (.iadd, 1) := by decide +kernel
theorem ndF_writeField_19 : decode ncF_writeField 19 = .ok (.istore 5, 2) := by decide +kernel
theorem ndF_writeField_21 : decode ncF_writeField 21 = .ok (.iload 4, 2) := by decide +kernel
theorem ndF_writeField_23 : decode ncF_writeField 23 = .ok (.istore 6, 2) := by decide +kernel
theorem ndF_writeField_25 : decode ncF_writeField 25 = .ok (.iload 6, 2) := by decide +kernel
theorem ndF_writeField_27 : decode ncF_writeField 27 = .ok (.iload 5, 2) := by decide +kernel
theorem ndF_writeField_29 : decode ncF_writeField 29 = .ok (.if_icmp .ge 18, 3) := by decide +kernel
theorem ndF_writeField_32 : decode ncF_writeField 32 = .ok (.aload_n 0, 1) := by decide +kernel
theorem ndF_writeField_33 : decode ncF_writeField 33 = .ok (.getfield 25, 3) := by decide +kernel
theorem ndF_writeField_36 : decode ncF_writeField 36 = .ok (.bipush 48, 2) := by decide +kernel
theorem ndF_writeField_38 : decode ncF_writeField 38 = .ok (.invokevirtual 39, 3) := by decide +kernel
theorem ndF_writeField_41 : decode ncF_writeField 41 = .ok (.iinc 6 1, 3) := by decide +kernel
theorem ndF_writeField_44 : decode ncF_writeField 44 = .ok (.goto (-19), 3) := by decide +kernel
theorem ndF_writeField_47 : decode ncF_writeField 47 = .ok (.iload_n 1, 1) := by decide +kernel
theorem ndF_writeField_48 : decode ncF_writeField 48 = .ok (.invokestatic 119, 3) := by decide +kernel
theorem ndF_writeField_51 : decode ncF_writeField 51 = .ok (.istore 6, 2) := by decide +kernel
theorem ndF_writeField_53 : decode ncF_writeField 53 = .ok (.lload_n 2, 1) := by decide +kernel
theorem ndF_writeField_54 : decode ncF_writeField 54 = .ok (.lstore 7, 2) := by decide +kernel
theorem ndF_writeField_56 : decode ncF_writeField 56 = .ok (.iload 5, 2) := by decide +kernel
theorem ndF_writeField_58 : decode ncF_writeField 58 = .ok (.iconst 1, 1) := by decide +kernel
theorem ndF_writeField_59 : decode ncF_writeField 59 = .ok (.isub, 1) := by decide +kernel
theorem ndF_writeField_60 : decode ncF_writeField 60 = .ok (.istore 9, 2) := by decide +kernel
theorem ndF_writeField_62 : decode ncF_writeField 62 = .ok (.iload 9, 2) := by decide +kernel
theorem ndF_writeField_64 : decode ncF_writeField 64 = .ok (.iload 4, 2) := by decide +kernel
theorem ndF_writeField_66 : decode ncF_writeField 66 = .ok (.if_icmp .lt 69, 3) := by decide +kernel
theorem ndF_writeField_69 : decode ncF_writeField 69 = .ok (.iload 6, 2) := by decide +kernel
theorem ndF_writeField_71 : decode ncF_writeField 71 = .ok (.ifCond .eq 12, 3) := by decide +kernel
theorem ndF_writeField_74 : decode ncF_writeField 74 = .ok (.lload 7, 2) := by decide +kernel
theorem ndF_writeField_76 : decode ncF_writeField 76 = .ok (.ldc2_w 132, 3) := by decide +kernel
theorem ndF_writeField_79 : decode ncF_writeField 79 = .ok (.lrem, 1) := by decide +kernel
theorem ndF_writeField_80 : decode ncF_writeField 80 = .ok (.goto 9, 3) := by decide +kernel
theorem ndF_writeField_83 : decode ncF_writeField 83 = .ok (.lload 7, 2) := by decide +kernel
theorem ndF_writeField_85 : decode ncF_writeField 85 = .ok (.ldc2_w 134, 3) := by decide +kernel
theorem ndF_writeField_88 : decode ncF_writeField 88 = .ok (.lrem, 1) := by decide +kernel
theorem ndF_writeField_89 : decode ncF_writeField 89 = .ok (.l2i, 1) := by decide +kernel
theorem ndF_writeField_90 : decode ncF_writeField 90 = .ok (.istore 10, 2) := by decide +kernel
theorem ndF_writeField_92 : decode ncF_writeField 92 = .ok (.aload_n 0, 1) := by decide +kernel
theorem ndF_writeField_93 : decode ncF_writeField 93 = .ok (.getfield 25, 3) := by decide +kernel
theorem ndF_writeField_96 : decode ncF_writeField 96 = .ok (.iload 9, 2) := by decide +kernel
theorem ndF_writeField_98 : decode ncF_writeField 98 = .ok (.iload_n 1, 1) := by decide +kernel
theorem ndF_writeField_99 : decode ncF_writeField 99 = .ok (.iload 10, 2) := by decide +kernel
theorem ndF_writeField_101 : decode ncF_writeField 101 = .ok (.invokestatic 136, 3) := by decide +kernel
theorem ndF_writeField_104 : decode ncF_writeField 104 = .ok (.invokevirtual 139, 3) := by decide +kernel
theorem ndF_writeField_107 : decode ncF_writeField 107 = .ok (.iload 6, 2) := by decide +kernel
theorem ndF_writeField_109 : decode ncF_writeField 109 = .ok (.ifCond .eq 12, 3) := by decide +kernel
theorem ndF_writeField_112 : decode ncF_writeField 112 = .ok (.lload 7, 2) := by decide +kernel
theorem ndF_writeField_114 : decode ncF_writeField 114 = .ok (.ldc2_w 132, 3) := by decide +kernel
theorem ndF_writeField_117 : decode ncF_writeField 117 = .ok (.ldiv, 1) := by decide +kernel
theorem ndF_writeField_118 : decode ncF_writeField 118 = .ok (.goto 9, 3) := by decide +kernel
theorem ndF_writeField_121 : decode ncF_writeField 121 = .ok (.lload 7, 2) := by decide +kernel
theorem ndF_writeField_123 : decode ncF_writeField 123 = .ok (.ldc2_w 134, 3) := by decide +kernel
theorem ndF_writeField_126 : decode ncF_writeField 126 = .ok (.ldiv, 1) := by decide +kernel
theorem ndF_writeField_127 : decode ncF_writeField 127 = .ok (.lstore 7, 2) := by decide +kernel
theorem ndF_writeField_129 : decode ncF_writeField 129 = .ok (.iinc 9 (-1), 3) := by decide +kernel
theorem ndF_writeField_132 : decode ncF_writeField 132 = .ok (.goto (-70), 3) := by decide +kernel
theorem ndF_writeField_135 : decode ncF_writeField 135 = .ok (.return_, 1) := by decide +kernel
theorem ndF_isToBase36_0 : decode ncF_isToBase36 0 = .ok (.iload_n 0, 1) := by decide +kernel
theorem ndF_isToBase36_1 : decode ncF_isToBase36 1 = .ok (.iconst 1, 1) := by decide +kernel
theorem ndF_isToBase36_2 : decode ncF_isToBase36 2 = .ok (.if_icmp .lt 12, 3) := by decide +kernel
theorem ndF_isToBase36_5 : decode ncF_isToBase36 5 = .ok (.iload_n 0, 1) := by decide +kernel
theorem ndF_isToBase36_6 : decode ncF_isToBase36 6 = .ok (.iconst 3, 1) := by decide +kernel
theorem ndF_isToBase36_7 : decode ncF_isToBase36 7 = .ok (.if_icmp .gt 7, 3) := by decide +kernel
theorem ndF_isToBase36_10 : decode ncF_isToBase36 10 = .ok (.iconst 1, 1) := by decide +kernel
theorem ndF_isToBase36_11 : decode ncF_isToBase36 11 = .ok (.goto 4, 3) := by decide +kernel
theorem ndF_isToBase36_14 : decode ncF_isToBase36 14 = .ok (.iconst 0, 1) := by decide +kernel
theorem ndF_isToBase36_15 : decode ncF_isToBase36 15 = .ok (.ireturn, 1) := by decide +kernel
theorem ndF_valueInSort_0 : decode ncF_valueInSort 0 = .ok (.iload_n 0, 1) := by decide +kernel
theorem ndF_valueInSort_1 : decode ncF_valueInSort 1 = .ok (.iconst 5, 1) := by decide +kernel
theorem ndF_valueInSort_2 : decode ncF_valueInSort 2 = .ok (.if_icmp .ne 10, 3) := by decide +kernel
theorem ndF_valueInSort_5 : decode ncF_valueInSort 5 = .ok (.iload_n 1, 1) := by decide +kernel
theorem ndF_valueInSort_6 : decode ncF_valueInSort 6 = .ok (.invokestatic 143, 3) := by decide +kernel
theorem ndF_valueInSort_9 : decode ncF_valueInSort 9 = .ok (.goto 7, 3) := by decide +kernel
theorem ndF_valueInSort_12 : decode ncF_valueInSort 12 = .ok (.iload_n 1, 1) := by decide +kernel
theorem ndF_valueInSort_13 : decode ncF_valueInSort 13 = .ok (.invokestatic 146, 3) := by decide +kernel
theorem ndF_valueInSort_16 : decode ncF_valueInSort 16 = .ok (.istore_n 2, 1) := by decide +kernel
theorem ndF_valueInSort_17 : decode ncF_valueInSort 17 = .ok (.iload_n 2, 1) := by decide +kernel
theorem ndF_valueInSort_18 : decode ncF_valueInSort 18 = .ok (.getstatic 149, 3) := by decide +kernel
theorem ndF_valueInSort_21 : decode ncF_valueInSort 21 = .ok (.iload_n 0, 1) := by decide +kernel
theorem ndF_valueInSort_22 : decode ncF_valueInSort 22 = .ok (.invokestatic 102, 3) := by decide +kernel
theorem ndF_valueInSort_25 : decode ncF_valueInSort 25 = .ok (.if_icmp .lt 18, 3) := by decide +kernel
theorem ndF_valueInSort_28 : decode ncF_valueInSort 28 = .ok (.iload_n 2, 1) := by decide +kernel
theorem ndF_valueInSort_29 : decode ncF_valueInSort 29 = .ok (.getstatic 152, 3) := by decide +kernel
theorem ndF_valueInSort_32 : decode ncF_valueInSort 32 = .ok (.iload_n 0, 1) := by decide +kernel
theorem ndF_valueInSort_33 : decode ncF_valueInSort 33 = .ok (.invokestatic 102, 3) := by decide +kernel
theorem ndF_valueInSort_36 : decode ncF_valueInSort 36 = .ok (.if_icmp .gt 7, 3) := by decide +kernel
theorem ndF_valueInSort_39 : decode ncF_valueInSort 39 = .ok (.iconst 1, 1) := by decide +kernel
theorem ndF_valueInSort_40 : decode ncF_valueInSort 40 = .ok (.goto 4, 3) := by decide +kernel
theorem ndF_valueInSort_43 : decode ncF_valueInSort 43 = .ok (.iconst 0, 1) := by decide +kernel
theorem ndF_valueInSort_44 : decode ncF_valueInSort 44 = .ok (.istore_n 3, 1) := by decide +kernel
theorem ndF_valueInSort_45 : decode ncF_valueInSort 45 = .ok (.iload_n 3, 1) := by decide +kernel
theorem ndF_valueInSort_46 : decode ncF_valueInSort 46 = .ok (.ifCond .eq 7, 3) := by decide +kernel
theorem ndF_valueInSort_49 : decode ncF_valueInSort 49 = .ok (.iload_n 2, 1) := by decide +kernel
theorem ndF_valueInSort_50 : decode ncF_valueInSort 50 = .ok (.goto 4, 3) := by decide +kernel
theorem ndF_valueInSort_53 : decode ncF_valueInSort 53 = .ok (.iconst (-1), 1) := by decide +kernel
theorem ndF_valueInSort_54 : decode ncF_valueInSort 54 = .ok (.ireturn, 1) := by decide +kernel
end
section
theorem ndF_signInSort_0 : decode ncF_signInSort 0 = .ok (.iload_n 0, 1) := by decide +kernel
theorem ndF_signInSort_1 : decode ncF_signInSort 1 = .ok (.iconst 5, 1) := by decide +kernel
theorem ndF_signInSort_2 : decode ncF_signInSort 2 = .ok (.if_icmp .ne 15, 3) := by decide +kernel
theorem ndF_signInSort_5 : decode ncF_signInSort 5 = .ok (.iload_n 1, 1) := by decide +kernel
theorem ndF_signInSort_6 : decode ncF_signInSort 6 = .ok (.ifCond .ne 8, 3) := by decide +kernel
theorem ndF_signInSort_9 : decode ncF_signInSort 9 = .ok (.bipush 67, 2) := by decide +kernel
theorem ndF_signInSort_11 : decode ncF_signInSort 11 = .ok (.goto 5, 3) := by decide +kernel
theorem ndF_signInSort_14 : decode ncF_signInSort 14 = .ok (.bipush 83, 2) := by decide +kernel
theorem ndF_signInSort_16 : decode ncF_signInSort 16 = .ok (.ireturn, 1) := by decide +kernel
theorem ndF_signInSort_17 : decode ncF_signInSort 17 = .ok (.iload_n 1, 1) := by decide +kernel
theorem ndF_signInSort_18 : decode ncF_signInSort 18 = .ok (.bipush 10, 2) := by decide +kernel
theorem ndF_signInSort_20 : decode ncF_signInSort 20 = .ok (.if_icmp .ge 10, 3) := by decide +kernel
theorem ndF_signInSort_23 : decode ncF_signInSort 23 = .ok (.bipush 48, 2) := by decide +kernel
theorem ndF_signInSort_25 : decode ncF_signInSort 25 = .ok (.iload_n 1, 1) := by decide +kernel
theorem ndF_signInSort_26 : decode ncF_signInSort 26 = .ok (.iadd, 1) := by decide +kernel
theorem ndF_signInSort_27 : decode ncF_signInSort 27 = .ok (.goto 10, 3) := by decide +kernel
theorem ndF_signInSort_30 : decode ncF_signInSort 30 = .ok (.bipush 65, 2) := by decide +kernel
theorem ndF_signInSort_32 : decode ncF_signInSort 32 = .ok (.iload_n 1, 1) := by decide +kernel
theorem ndF_signInSort_33 : decode ncF_signInSort 33 = .ok (.iadd, 1) := by decide +kernel
theorem ndF_signInSort_34 : decode ncF_signInSort 34 = .ok (.bipush 10, 2) := by decide +kernel
theorem ndF_signInSort_36 : decode ncF_signInSort 36 = .ok (.isub, 1) := by decide +kernel
theorem ndF_signInSort_37 : decode ncF_signInSort 37 = .ok (.ireturn, 1) := by decide +kernel
theorem ndF_valueOfClass_0 : decode ncF_valueOfClass 0 = .ok (.iload_n 0, 1) := by decide +kernel
theorem ndF_valueOfClass_1 : decode ncF_valueOfClass 1 = .ok (.bipush 67, 2) := by decide +kernel
theorem ndF_valueOfClass_3 : decode ncF_valueOfClass 3 = .ok (.if_icmp .ne 5, 3) := by decide +kernel
theorem ndF_valueOfClass_6 : decode ncF_valueOfClass 6 = .ok (.iconst 0, 1) := by decide +kernel
theorem ndF_valueOfClass_7 : decode ncF_valueOfClass 7 = .ok (.ireturn, 1) := by decide +kernel
theorem ndF_valueOfClass_8 : decode ncF_valueOfClass 8 = .ok (.iload_n 0, 1) := by decide +kernel
theorem ndF_valueOfClass_9 : decode ncF_valueOfClass 9 = .ok (.bipush 83, 2) := by decide +kernel
theorem ndF_valueOfClass_11 : decode ncF_valueOfClass 11 = .ok (.if_icmp .ne 7, 3) := by decide +kernel
theorem ndF_valueOfClass_14 : decode ncF_valueOfClass 14 = .ok (.iconst 1, 1) := by decide +kernel
theorem ndF_valueOfClass_15 : decode ncF_valueOfClass 15 = .ok (.goto 4, 3) := by decide +kernel
theorem ndF_valueOfClass_18 : decode ncF_valueOfClass 18 = .ok (.iconst (-1), 1) := by decide +kernel
theorem ndF_valueOfClass_19 : decode ncF_valueOfClass 19 = .ok (.ireturn, 1) := by decide +kernel
theorem ndF_valueOfSign_0 : decode ncF_valueOfSign 0 = .ok (.iload_n 0, 1) := by decide +kernel
theorem ndF_valueOfSign_1 : decode ncF_valueOfSign 1 = .ok (.invokestatic 129, 3) := by decide +kernel
theorem ndF_valueOfSign_4 : decode ncF_valueOfSign 4 = .ok (.ifCond .eq 8, 3) := by decide +kernel
theorem ndF_valueOfSign_7 : decode ncF_valueOfSign 7 = .ok (.iload_n 0, 1) := by decide +kernel
theorem ndF_valueOfSign_8 : decode ncF_valueOfSign 8 = .ok (.bipush 48, 2) := by decide +kernel
theorem ndF_valueOfSign_10 : decode ncF_valueOfSign 10 = .ok (.isub, 1) := by decide +kernel
theorem ndF_valueOfSign_11 : decode ncF_valueOfSign 11 = .ok (.ireturn, 1) := by decide +kernel
theorem ndF_valueOfSign_12 : decode ncF_valueOfSign 12 = .ok (.iload_n 0, 1) := by decide +kernel
theorem ndF_valueOfSign_13 : decode ncF_valueOfSign 13 = .ok (.bipush 65, 2) := by decide +kernel
theorem ndF_valueOfSign_15 : decode ncF_valueOfSign 15 = .ok (.if_icmp .lt 19, 3) := by decide +kernel
theorem ndF_valueOfSign_18 : decode ncF_valueOfSign 18 = .ok (.iload_n 0, 1) := by decide +kernel
theorem ndF_valueOfSign_19 : decode ncF_valueOfSign 19 = .ok (.bipush 90, 2) := by decide +kernel
theorem ndF_valueOfSign_21 : decode ncF_valueOfSign 21 = .ok (.if_icmp .gt 13, 3) := by decide +kernel
theorem ndF_valueOfSign_24 : decode ncF_valueOfSign 24 = .ok (.iload_n 0, 1) := by decide +kernel
theorem ndF_valueOfSign_25 : decode ncF_valueOfSign 25 = .ok (.bipush 65, 2) := by decide +kernel
theorem ndF_valueOfSign_27 : decode ncF_valueOfSign 27 = .ok (.isub, 1) := by decide +kernel
theorem ndF_valueOfSign_28 : decode ncF_valueOfSign 28 = .ok (.bipush 10, 2) := by decide +kernel
theorem ndF_valueOfSign_30 : decode ncF_valueOfSign 30 = .ok (.iadd, 1) := by decide +kernel
theorem ndF_valueOfSign_31 : decode ncF_valueOfSign 31 = .ok (.goto 4, 3) := by decide +kernel
theorem ndF_valueOfSign_34 : decode ncF_valueOfSign 34 = .ok (.iconst (-1), 1) := by decide +kernel
theorem ndF_valueOfSign_35 : decode ncF_valueOfSign 35 = .ok (.ireturn, 1) := by decide +kernel
theorem ndF_isDigit_0 : decode ncF_isDigit 0 = .ok (.iload_n 0, 1) := by decide +kernel
theorem ndF_isDigit_1 : decode ncF_isDigit 1 = .ok (.bipush 48, 2) := by decide +kernel
theorem ndF_isDigit_3 : decode ncF_isDigit 3 = .ok (.if_icmp .lt 13, 3) := by decide +kernel
theorem ndF_isDigit_6 : decode ncF_isDigit 6 = .ok (.iload_n 0, 1) := by decide +kernel
theorem ndF_isDigit_7 : decode ncF_isDigit 7 = .ok (.bipush 57, 2) := by decide +kernel
theorem ndF_isDigit_9 : decode ncF_isDigit 9 = .ok (.if_icmp .gt 7, 3) := by decide +kernel
theorem ndF_isDigit_12 : decode ncF_isDigit 12 = .ok (.iconst 1, 1) := by decide +kernel
theorem ndF_isDigit_13 : decode ncF_isDigit 13 = .ok (.goto 4, 3) := by decide +kernel
theorem ndF_isDigit_16 : decode ncF_isDigit 16 = .ok (.iconst 0, 1) := by decide +kernel
theorem ndF_isDigit_17 : decode ncF_isDigit 17 = .ok (.ireturn, 1) := by decide +kernel
theorem ndF_letterOf_0 : decode ncF_letterOf 0 = .ok (.iload_n 0, 1) := by decide +kernel
theorem ndF_letterOf_1 : decode ncF_letterOf 1 = .ok (.iconst 1, 1) := by decide +kernel
theorem ndF_letterOf_2 : decode ncF_letterOf 2 = .ok (.isub, 1) := by decide +kernel
theorem ndF_letterOf_3 : decode ncF_letterOf 3 = .ok (.iconst 3, 1) := by decide +kernel
theorem ndF_letterOf_4 : decode ncF_letterOf 4 = .ok (.imul, 1) := by decide +kernel
theorem ndF_letterOf_5 : decode ncF_letterOf 5 = .ok (.iload_n 1, 1) := by decide +kernel
theorem ndF_letterOf_6 : decode ncF_letterOf 6 = .ok (.iadd, 1) := by decide +kernel
theorem ndF_letterOf_7 : decode ncF_letterOf 7 = .ok (.istore_n 2, 1) := by decide +kernel
theorem ndF_letterOf_8 : decode ncF_letterOf 8 = .ok (.iload_n 2, 1) := by decide +kernel
theorem ndF_letterOf_9 : decode ncF_letterOf 9 = .ok (.ifCond .lt 21, 3) := by decide +kernel
theorem ndF_letterOf_12 : decode ncF_letterOf 12 = .ok (.iload_n 2, 1) := by decide +kernel
theorem ndF_letterOf_13 : decode ncF_letterOf 13 = .ok (.ldc 155, 2) := by decide +kernel
theorem ndF_letterOf_15 : decode ncF_letterOf 15 = .ok (.invokevirtual 157, 3) := by decide +kernel
theorem ndF_letterOf_18 : decode ncF_letterOf 18 = .ok (.if_icmp .ge 12, 3) := by decide +kernel
theorem ndF_letterOf_21 : decode ncF_letterOf 21 = .ok (.ldc 155, 2) := by decide +kernel
theorem ndF_letterOf_23 : decode ncF_letterOf 23 = .ok (.iload_n 2, 1) := by decide +kernel
theorem ndF_letterOf_24 : decode ncF_letterOf 24 = .ok (.invokevirtual 161, 3) := by decide +kernel
theorem ndF_letterOf_27 : decode ncF_letterOf 27 = .ok (.goto 4, 3) := by decide +kernel
theorem ndF_letterOf_30 : decode ncF_letterOf 30 = .ok (.iconst 0, 1) := by decide +kernel
theorem ndF_letterOf_31 : decode ncF_letterOf 31 = .ok (.ireturn, 1) := by decide +kernel
theorem ndF_entry_0 : decode ncF_entry 0 = .ok (.iload_n 1, 1) := by decide +kernel
theorem ndF_entry_1 : decode ncF_entry 1 = .ok (.ifCond .lt 15, 3) := by decide +kernel
theorem ndF_entry_4 : decode ncF_entry 4 = .ok (.iload_n 1, 1) := by decide +kernel
theorem ndF_entry_5 : decode ncF_entry 5 = .ok (.aload_n 0, 1) := by decide +kernel
theorem ndF_entry_6 : decode ncF_entry 6 = .ok (.arraylength, 1) := by decide +kernel
theorem ndF_entry_7 : decode ncF_entry 7 = .ok (.if_icmp .ge 9, 3) := by decide +kernel
theorem ndF_entry_10 : decode ncF_entry 10 = .ok (.aload_n 0, 1) := by decide +kernel
theorem ndF_entry_11 : decode ncF_entry 11 = .ok (.iload_n 1, 1) := by decide +kernel
theorem ndF_entry_12 : decode ncF_entry 12 = .ok (.iaload, 1) := by decide +kernel
theorem ndF_entry_13 : decode ncF_entry 13 = .ok (.goto 4, 3) := by decide +kernel
theorem ndF_entry_16 : decode ncF_entry 16 = .ok (.iconst 0, 1) := by decide +kernel
theorem ndF_entry_17 : decode ncF_entry 17 = .ok (.ireturn, 1) := by decide +kernel
theorem ndD_init_0 : decode ncD_init 0 = .ok (.aload_n 0, 1) := by decide +kernel
theorem ndD_init_1 : decode ncD_init 1 = .ok (.invokespecial 1, 3) := by decide +kernel
theorem ndD_init_4 : decode ncD_init 4 = .ok (.aload_n 0, 1) := by decide +kernel
theorem ndD_init_5 : decode ncD_init 5 = .ok (.sipush 400, 3) := by decide +kernel
theorem ndD_init_8 : decode ncD_init 8 = .ok (.newarray .int, 2) := by decide +kernel
theorem ndD_init_10 : decode ncD_init 10 = .ok (.putfield 7, 3) := by decide +kernel
theorem ndD_init_13 : decode ncD_init 13 = .ok (.aload_n 0, 1) := by decide +kernel
theorem ndD_init_14 : decode ncD_init 14 = .ok (.bipush 24, 2) := by decide +kernel
theorem ndD_init_16 : decode ncD_init 16 = .ok (.newarray .long, 2) := by decide +kernel
theorem ndD_init_18 : decode ncD_init 18 = .ok (.putfield 13, 3) := by decide +kernel
theorem ndD_init_21 : decode ncD_init 21 = .ok (.aload_n 0, 1) := by decide +kernel
theorem ndD_init_22 : decode ncD_init 22 = .ok (.sipush 200, 3) := by decide +kernel
theorem ndD_init_25 : decode ncD_init 25 = .ok (.newarray .int, 2) := by decide +kernel
theorem ndD_init_27 : decode ncD_init 27 = .ok (.putfield 17, 3) := by decide +kernel
theorem ndD_init_30 : decode ncD_init 30 = .ok (.aload_n 0, 1) := by decide +kernel
theorem ndD_init_31 : decode ncD_init 31 = .ok (.bipush 24, 2) := by decide +kernel
theorem ndD_init_33 : decode ncD_init 33 = .ok (.newarray .long, 2) := by decide +kernel
theorem ndD_init_35 : decode ncD_init 35 = .ok (.putfield 20, 3) := by decide +kernel
theorem ndD_init_38 : decode ncD_init 38 = .ok (.return_, 1) := by decide +kernel
theorem ndD_letter_0 : decode ncD_letter 0 = .ok (.iload_n 0, 1) := by decide +kernel
theorem ndD_letter_1 : decode ncD_letter 1 = .ok (.tableswitch 369 1 14 #[71, 93, 115, 137, 149, 171, 193, 215, 237, 259, 281, 303, 325, 347], 71) := by decide +kernel
theorem ndD_letter_72 : decode ncD_letter 72 = .ok (.iload_n 1, 1) := by decide +kernel
theorem ndD_letter_73 : decode ncD_letter 73 = .ok (.ifCond .ne 8, 3) := by decide +kernel
theorem ndD_letter_76 : decode ncD_letter 76 = .ok (.bipush 78, 2) := by decide +kernel
theorem ndD_letter_78 : decode ncD_letter 78 = .ok (.goto 15, 3) := by decide +kernel
theorem ndD_letter_81 : decode ncD_letter 81 = .ok (.iload_n 1, 1) := by decide +kernel
theorem ndD_letter_82 : decode ncD_letter 82 = .ok (.iconst 1, 1) := by decide +kernel
theorem ndD_letter_83 : decode ncD_letter 83 = .ok (.if_icmp .ne 8, 3) := by decide +kernel
theorem ndD_letter_86 : decode ncD_letter 86 = .ok (.bipush 69, 2) := by decide +kernel
theorem ndD_letter_88 : decode ncD_letter 88 = .ok (.goto 5, 3) := by decide +kernel
theorem ndD_letter_91 : decode ncD_letter 91 = .ok (.bipush 87, 2) := by decide +kernel
theorem ndD_letter_93 : decode ncD_letter 93 = .ok (.ireturn, 1) := by decide +kernel
theorem ndD_letter_94 : decode ncD_letter 94 = .ok (.iload_n 1, 1) := by decide +kernel
theorem ndD_letter_95 : decode ncD_letter 95 = .ok (.ifCond .ne 8, 3) := by decide +kernel
theorem ndD_letter_98 : decode ncD_letter 98 = .ok (.bipush 65, 2) := by decide +kernel
theorem ndD_letter_100 : decode ncD_letter 100 = .ok (.goto 15, 3) := by decide +kernel
theorem ndD_letter_103 : decode ncD_letter 103 = .ok (.iload_n 1, 1) := by decide +kernel
theorem ndD_letter_104 : decode ncD_letter 104 = .ok (.iconst 1, 1) := by decide +kernel
theorem ndD_letter_105 : decode ncD_letter 105 = .ok (.if_icmp .ne 8, 3) := by decide +kernel
theorem ndD_letter_108 : decode ncD_letter 108 = .ok (.bipush 83, 2) := by decide +kernel
theorem ndD_letter_110 : decode ncD_letter 110 = .ok (.goto 5, 3) := by decide +kernel
theorem ndD_letter_113 : decode ncD_letter 113 = .ok (.bipush 84, 2) := by decide +kernel
theorem ndD_letter_115 : decode ncD_letter 115 = .ok (.ireturn, 1) := by decide +kernel
theorem ndD_letter_116 : decode ncD_letter 116 = .ok (.iload_n 1, 1) := by decide +kernel
theorem ndD_letter_117 : decode ncD_letter 117 = .ok (.ifCond .ne 8, 3) := by decide +kernel
theorem ndD_letter_120 : decode ncD_letter 120 = .ok (.bipush 80, 2) := by decide +kernel
theorem ndD_letter_122 : decode ncD_letter 122 = .ok (.goto 15, 3) := by decide +kernel
theorem ndD_letter_125 : decode ncD_letter 125 = .ok (.iload_n 1, 1) := by decide +kernel
theorem ndD_letter_126 : decode ncD_letter 126 = .ok (.iconst 1, 1) := by decide +kernel
theorem ndD_letter_127 : decode ncD_letter 127 = .ok (.if_icmp .ne 8, 3) := by decide +kernel
theorem ndD_letter_130 : decode ncD_letter 130 = .ok (.bipush 82, 2) := by decide +kernel
theorem ndD_letter_132 : decode ncD_letter 132 = .ok (.goto 5, 3) := by decide +kernel
theorem ndD_letter_135 : decode ncD_letter 135 = .ok (.bipush 67, 2) := by decide +kernel
theorem ndD_letter_137 : decode ncD_letter 137 = .ok (.ireturn, 1) := by decide +kernel
theorem ndD_letter_138 : decode ncD_letter 138 = .ok (.iload_n 1, 1) := by decide +kernel
theorem ndD_letter_139 : decode ncD_letter 139 = .ok (.ifCond .ne 8, 3) := by decide +kernel
theorem ndD_letter_142 : decode ncD_letter 142 = .ok (.bipush 73, 2) := by decide +kernel
theorem ndD_letter_144 : decode ncD_letter 144 = .ok (.goto 5, 3) := by decide +kernel
theorem ndD_letter_147 : decode ncD_letter 147 = .ok (.bipush 83, 2) := by decide +kernel
theorem ndD_letter_149 : decode ncD_letter 149 = .ok (.ireturn, 1) := by decide +kernel
theorem ndD_letter_150 : decode ncD_letter 150 = .ok (.iload_n 1, 1) := by decide +kernel
theorem ndD_letter_151 : decode ncD_letter 151 = .ok (.ifCond .ne 8, 3) := by decide +kernel
theorem ndD_letter_154 : decode ncD_letter 154 = .ok (.bipush 82, 2) := by decide +kernel
theorem ndD_letter_156 : decode ncD_letter 156 = .ok (.goto 15, 3) := by decide +kernel
theorem ndD_letter_159 : decode ncD_letter 159 = .ok (.iload_n 1, 1) := by decide +kernel
theorem ndD_letter_160 : decode ncD_letter 160 = .ok (.iconst 1, 1) := by decide +kernel
theorem ndD_letter_161 : decode ncD_letter 161 = .ok (.if_icmp .ne 8, 3) := by decide +kernel
theorem ndD_letter_164 : decode ncD_letter 164 = .ok (.bipush 69, 2) := by decide +kernel
theorem ndD_letter_166 : decode ncD_letter 166 = .ok (.goto 5, 3) := by decide +kernel
theorem ndD_letter_169 : decode ncD_letter 169 = .ok (.bipush 68, 2) := by decide +kernel
theorem ndD_letter_171 : decode ncD_letter 171 = .ok (.ireturn, 1) := by decide +kernel
theorem ndD_letter_172 : decode ncD_letter 172 = .ok (.iload_n 1, 1) := by decide +kernel
theorem ndD_letter_173 : decode ncD_letter 173 = .ok (.ifCond .ne 8, 3) := by decide +kernel
theorem ndD_letter_176 : decode ncD_letter 176 = .ok (.bipush 80, 2) := by decide +kernel
theorem ndD_letter_178 : decode ncD_letter 178 = .ok (.goto 15, 3) := by decide +kernel
theorem ndD_letter_181 : decode ncD_letter 181 = .ok (.iload_n 1, 1) := by decide +kernel
theorem ndD_letter_182 : decode ncD_letter 182 = .ok (.iconst 1, 1) := by decide +kernel
theorem ndD_letter_183 : decode ncD_letter 183 = .ok (.if_icmp .ne 8, 3) := by decide +kernel
theorem ndD_letter_186 : decode ncD_letter 186 = .ok (.bipush 65, 2) := by decide +kernel
theorem ndD_letter_188 : decode ncD_letter 188 = .ok (.goto 5, 3) := by decide +kernel
theorem ndD_letter_191 : decode ncD_letter 191 = .ok (.bipush 89, 2) := by decide +kernel
theorem ndD_letter_193 : decode ncD_letter 193 = .ok (.ireturn, 1) := by decide +kernel
theorem ndD_letter_194 : decode ncD_letter 194 = .ok (.iload_n 1, 1) := by decide +kernel
theorem ndD_letter_195 : decode ncD_letter 195 = .ok (.ifCond .ne 8, 3) := by decide +kernel
theorem ndD_letter_198 : decode ncD_letter 198 = .ok (.bipush 67, 2) := by decide +kernel
theorem ndD_letter_200 : decode ncD_letter 200 = .ok (.goto 15, 3) := by decide +kernel
theorem ndD_letter_203 : decode ncD_letter 203 = .ok (.iload_n 1, 1) := by decide +kernel
theorem ndD_letter_204 : decode ncD_letter 204 = .ok (.iconst 1, 1) := by decide +kernel
theorem ndD_letter_205 : decode ncD_letter 205 = .ok (.if_icmp .ne 8, 3) := by decide +kernel
theorem ndD_letter_208 : decode ncD_letter 208 = .ok (.bipush 78, 2) := by decide +kernel
theorem ndD_letter_210 : decode ncD_letter 210 = .ok (.goto 5, 3) := by decide +kernel
theorem ndD_letter_213 : decode ncD_letter 213 = .ok (.bipush 70, 2) := by decide +kernel
theorem ndD_letter_215 : decode ncD_letter 215 = .ok (.ireturn, 1) := by decide +kernel
theorem ndD_letter_216 : decode ncD_letter 216 = .ok (.iload_n 1, 1) := by decide +kernel
theorem ndD_letter_217 : decode ncD_letter 217 = .ok (.ifCond .ne 8, 3) := by decide +kernel
theorem ndD_letter_220 : decode ncD_letter 220 = .ok (.bipush 67, 2) := by decide +kernel
theorem ndD_letter_222 : decode ncD_letter 222 = .ok (.goto 15, 3) := by decide +kernel
theorem ndD_letter_225 : decode ncD_letter 225 = .ok (.iload_n 1, 1) := by decide +kernel
theorem ndD_letter_226 : decode ncD_letter 226 = .ok (.iconst 1, 1) := by decide +kernel
theorem ndD_letter_227 : decode ncD_letter 227 = .ok (.if_icmp .ne 8, 3) := by decide +kernel
theorem ndD_letter_230 : decode ncD_letter 230 = .ok (.bipush 65, 2) := by decide +kernel
theorem ndD_letter_232 : decode ncD_letter 232 = .ok (.goto 5, 3) := by decide +kernel
theorem ndD_letter_235 : decode ncD_letter 235 = .ok (.bipush 78, 2) := by decide +kernel
theorem ndD_letter_237 : decode ncD_letter 237 = .ok (.ireturn, 1) := by decide +kernel
theorem ndD_letter_238 : decode ncD_letter 238 = .ok (.iload_n 1, 1) := by decide +kernel
theorem ndD_letter_239 : decode ncD_letter 239 = .ok (.ifCond .ne 8, 3) := by decide +kernel
theorem ndD_letter_242 : decode ncD_letter 242 = .ok (.bipush 80, 2) := by decide +kernel
theorem ndD_letter_244 : decode ncD_letter 244 = .ok (.goto 15, 3) := by decide +kernel
theorem ndD_letter_247 : decode ncD_letter 247 = .ok (.iload_n 1, 1) := by decide +kernel
theorem ndD_letter_248 : decode ncD_letter 248 = .ok (.iconst 1, 1) := by decide +kernel
theorem ndD_letter_249 : decode ncD_letter 249 = .ok (.if_icmp .ne 8, 3) := by decide +kernel
theorem ndD_letter_252 : decode ncD_letter 252 = .ok (.bipush 82, 2) := by decide +kernel
theorem ndD_letter_254 : decode ncD_letter 254 = .ok (.goto 5, 3) := by decide +kernel
theorem ndD_letter_257 : decode ncD_letter 257 = .ok (.bipush 73, 2) := by decide +kernel
theorem ndD_letter_259 : decode ncD_letter 259 = .ok (.ireturn, 1) := by decide +kernel
theorem ndD_letter_260 : decode ncD_letter 260 = .ok (.iload_n 1, 1) := by decide +kernel
theorem ndD_letter_261 : decode ncD_letter 261 = .ok (.ifCond .ne 8, 3) := by decide +kernel
theorem ndD_letter_264 : decode ncD_letter 264 = .ok (.bipush 76, 2) := by decide +kernel
theorem ndD_letter_266 : decode ncD_letter 266 = .ok (.goto 15, 3) := by decide +kernel
theorem ndD_letter_269 : decode ncD_letter 269 = .ok (.iload_n 1, 1) := by decide +kernel
theorem ndD_letter_270 : decode ncD_letter 270 = .ok (.iconst 1, 1) := by decide +kernel
theorem ndD_letter_271 : decode ncD_letter 271 = .ok (.if_icmp .ne 8, 3) := by decide +kernel
theorem ndD_letter_274 : decode ncD_letter 274 = .ok (.bipush 73, 2) := by decide +kernel
theorem ndD_letter_276 : decode ncD_letter 276 = .ok (.goto 5, 3) := by decide +kernel
theorem ndD_letter_279 : decode ncD_letter 279 = .ok (.bipush 77, 2) := by decide +kernel
theorem ndD_letter_281 : decode ncD_letter 281 = .ok (.ireturn, 1) := by decide +kernel
theorem ndD_letter_282 : decode ncD_letter 282 = .ok (.iload_n 1, 1) := by decide +kernel
theorem ndD_letter_283 : decode ncD_letter 283 = .ok (.ifCond .ne 8, 3) := by decide +kernel
theorem ndD_letter_286 : decode ncD_letter 286 = .ok (.bipush 85, 2) := by decide +kernel
theorem ndD_letter_288 : decode ncD_letter 288 = .ok (.goto 15, 3) := by decide +kernel
theorem ndD_letter_291 : decode ncD_letter 291 = .ok (.iload_n 1, 1) := by decide +kernel
theorem ndD_letter_292 : decode ncD_letter 292 = .ok (.iconst 1, 1) := by decide +kernel
theorem ndD_letter_293 : decode ncD_letter 293 = .ok (.if_icmp .ne 8, 3) := by decide +kernel
theorem ndD_letter_296 : decode ncD_letter 296 = .ok (.bipush 78, 2) := by decide +kernel
theorem ndD_letter_298 : decode ncD_letter 298 = .ok (.goto 5, 3) := by decide +kernel
theorem ndD_letter_301 : decode ncD_letter 301 = .ok (.bipush 76, 2) := by decide +kernel
theorem ndD_letter_303 : decode ncD_letter 303 = .ok (.ireturn, 1) := by decide +kernel
theorem ndD_letter_304 : decode ncD_letter 304 = .ok (.iload_n 1, 1) := by decide +kernel
theorem ndD_letter_305 : decode ncD_letter 305 = .ok (.ifCond .ne 8, 3) := by decide +kernel
theorem ndD_letter_308 : decode ncD_letter 308 = .ok (.bipush 80, 2) := by decide +kernel
theorem ndD_letter_310 : decode ncD_letter 310 = .ok (.goto 15, 3) := by decide +kernel
theorem ndD_letter_313 : decode ncD_letter 313 = .ok (.iload_n 1, 1) := by decide +kernel
theorem ndD_letter_314 : decode ncD_letter 314 = .ok (.iconst 1, 1) := by decide +kernel
theorem ndD_letter_315 : decode ncD_letter 315 = .ok (.if_icmp .ne 8, 3) := by decide +kernel
theorem ndD_letter_318 : decode ncD_letter 318 = .ok (.bipush 76, 2) := by decide +kernel
theorem ndD_letter_320 : decode ncD_letter 320 = .ok (.goto 5, 3) := by decide +kernel
theorem ndD_letter_323 : decode ncD_letter 323 = .ok (.bipush 71, 2) := by decide +kernel
theorem ndD_letter_325 : decode ncD_letter 325 = .ok (.ireturn, 1) := by decide +kernel
theorem ndD_letter_326 : decode ncD_letter 326 = .ok (.iload_n 1, 1) := by decide +kernel
theorem ndD_letter_327 : decode ncD_letter 327 = .ok (.ifCond .ne 8, 3) := by decide +kernel
theorem ndD_letter_330 : decode ncD_letter 330 = .ok (.bipush 85, 2) := by decide +kernel
theorem ndD_letter_332 : decode ncD_letter 332 = .ok (.goto 15, 3) := by decide +kernel
theorem ndD_letter_335 : decode ncD_letter 335 = .ok (.iload_n 1, 1) := by decide +kernel
theorem ndD_letter_336 : decode ncD_letter 336 = .ok (.iconst 1, 1) := by decide +kernel
theorem ndD_letter_337 : decode ncD_letter 337 = .ok (.if_icmp .ne 8, 3) := by decide +kernel
theorem ndD_letter_340 : decode ncD_letter 340 = .ok (.bipush 78, 2) := by decide +kernel
theorem ndD_letter_342 : decode ncD_letter 342 = .ok (.goto 5, 3) := by decide +kernel
theorem ndD_letter_345 : decode ncD_letter 345 = .ok (.bipush 80, 2) := by decide +kernel
theorem ndD_letter_347 : decode ncD_letter 347 = .ok (.ireturn, 1) := by decide +kernel
theorem ndD_letter_348 : decode ncD_letter 348 = .ok (.iload_n 1, 1) := by decide +kernel
theorem ndD_letter_349 : decode ncD_letter 349 = .ok (.ifCond .ne 8, 3) := by decide +kernel
theorem ndD_letter_352 : decode ncD_letter 352 = .ok (.bipush 82, 2) := by decide +kernel
theorem ndD_letter_354 : decode ncD_letter 354 = .ok (.goto 15, 3) := by decide +kernel
theorem ndD_letter_357 : decode ncD_letter 357 = .ok (.iload_n 1, 1) := by decide +kernel
theorem ndD_letter_358 : decode ncD_letter 358 = .ok (.iconst 1, 1) := by decide +kernel
theorem ndD_letter_359 : decode ncD_letter 359 = .ok (.if_icmp .ne 8, 3) := by decide +kernel
theorem ndD_letter_362 : decode ncD_letter 362 = .ok (.bipush 69, 2) := by decide +kernel
theorem ndD_letter_364 : decode ncD_letter 364 = .ok (.goto 5, 3) := by decide +kernel
theorem ndD_letter_367 : decode ncD_letter 367 = .ok (.bipush 83, 2) := by decide +kernel
theorem ndD_letter_369 : decode ncD_letter 369 = .ok (.ireturn, 1) := by decide +kernel
theorem ndD_letter_370 : decode ncD_letter 370 = .ok (.iload_n 1, 1) := by decide +kernel
theorem ndD_letter_371 : decode ncD_letter 371 = .ok (.ifCond .ne 8, 3) := by decide +kernel
theorem ndD_letter_374 : decode ncD_letter 374 = .ok (.bipush 83, 2) := by decide +kernel
theorem ndD_letter_376 : decode ncD_letter 376 = .ok (.goto 15, 3) := by decide +kernel
theorem ndD_letter_379 : decode ncD_letter 379 = .ok (.iload_n 1, 1) := by decide +kernel
theorem ndD_letter_380 : decode ncD_letter 380 = .ok (.iconst 1, 1) := by decide +kernel
theorem ndD_letter_381 : decode ncD_letter 381 = .ok (.if_icmp .ne 8, 3) := by decide +kernel
theorem ndD_letter_384 : decode ncD_letter 384 = .ok (.bipush 84, 2) := by decide +kernel
theorem ndD_letter_386 : decode ncD_letter 386 = .ok (.goto 5, 3) := by decide +kernel
theorem ndD_letter_389 : decode ncD_letter 389 = .ok (.bipush 77, 2) := by decide +kernel
theorem ndD_letter_391 : decode ncD_letter 391 = .ok (.ireturn, 1) := by decide +kernel
theorem ndD_sortOf_0 : decode ncD_sortOf 0 = .ok (.iload_n 1, 1) := by decide +kernel
theorem ndD_sortOf_1 : decode ncD_sortOf 1 = .ok (.iconst 2, 1) := by decide +kernel
theorem ndD_sortOf_2 : decode ncD_sortOf 2 = .ok (.if_icmp .ge 13, 3) := by decide +kernel
theorem ndD_sortOf_5 : decode ncD_sortOf 5 = .ok (.iload_n 1, 1) := by decide +kernel
theorem ndD_sortOf_6 : decode ncD_sortOf 6 = .ok (.ifCond .ne 7, 3) := by decide +kernel
theorem ndD_sortOf_9 : decode ncD_sortOf 9 = .ok (.iconst 1, 1) := by decide +kernel
theorem ndD_sortOf_10 : decode ncD_sortOf 10 = .ok (.goto 4, 3) := by decide +kernel
theorem ndD_sortOf_13 : decode ncD_sortOf 13 = .ok (.iconst 3, 1) := by decide +kernel
theorem ndD_sortOf_14 : decode ncD_sortOf 14 = .ok (.ireturn, 1) := by decide +kernel
theorem ndD_sortOf_15 : decode ncD_sortOf 15 = .ok (.iload_n 1, 1) := by decide +kernel
theorem ndD_sortOf_16 : decode ncD_sortOf 16 = .ok (.iconst 2, 1) := by decide +kernel
theorem ndD_sortOf_17 : decode ncD_sortOf 17 = .ok (.isub, 1) := by decide +kernel
theorem ndD_sortOf_18 : decode ncD_sortOf 18 = .ok (.istore 4, 2) := by decide +kernel
theorem ndD_sortOf_20 : decode ncD_sortOf 20 = .ok (.iload_n 0, 1) := by decide +kernel
theorem ndD_sortOf_21 : decode ncD_sortOf 21 = .ok (.tableswitch 348 1 13 #[67, 78, 120, 152, 152, 183, 252, 273, 284, 306, 67, 327, 327], 67) := by decide +kernel
theorem ndD_sortOf_88 : decode ncD_sortOf 88 = .ok (.iload 4, 2) := by decide +kernel
theorem ndD_sortOf_90 : decode ncD_sortOf 90 = .ok (.ifCond .ne 7, 3) := by decide +kernel
theorem ndD_sortOf_93 : decode ncD_sortOf 93 = .ok (.iconst 1, 1) := by decide +kernel
theorem ndD_sortOf_94 : decode ncD_sortOf 94 = .ok (.goto 4, 3) := by decide +kernel
theorem ndD_sortOf_97 : decode ncD_sortOf 97 = .ok (.iconst 0, 1) := by decide +kernel
theorem ndD_sortOf_98 : decode ncD_sortOf 98 = .ok (.ireturn, 1) := by decide +kernel
theorem ndD_sortOf_99 : decode ncD_sortOf 99 = .ok (.iload 4, 2) := by decide +kernel
theorem ndD_sortOf_101 : decode ncD_sortOf 101 = .ok (.ifCond .ne 7, 3) := by decide +kernel
theorem ndD_sortOf_104 : decode ncD_sortOf 104 = .ok (.iconst 2, 1) := by decide +kernel
theorem ndD_sortOf_105 : decode ncD_sortOf 105 = .ok (.goto 35, 3) := by decide +kernel
theorem ndD_sortOf_108 : decode ncD_sortOf 108 = .ok (.iload 4, 2) := by decide +kernel
theorem ndD_sortOf_110 : decode ncD_sortOf 110 = .ok (.iconst 1, 1) := by decide +kernel
theorem ndD_sortOf_111 : decode ncD_sortOf 111 = .ok (.if_icmp .ne 7, 3) := by decide +kernel
theorem ndD_sortOf_114 : decode ncD_sortOf 114 = .ok (.iconst 5, 1) := by decide +kernel
theorem ndD_sortOf_115 : decode ncD_sortOf 115 = .ok (.goto 25, 3) := by decide +kernel
theorem ndD_sortOf_118 : decode ncD_sortOf 118 = .ok (.iload 4, 2) := by decide +kernel
theorem ndD_sortOf_120 : decode ncD_sortOf 120 = .ok (.iconst 2, 1) := by decide +kernel
theorem ndD_sortOf_121 : decode ncD_sortOf 121 = .ok (.if_icmp .ne 7, 3) := by decide +kernel
theorem ndD_sortOf_124 : decode ncD_sortOf 124 = .ok (.iconst 4, 1) := by decide +kernel
theorem ndD_sortOf_125 : decode ncD_sortOf 125 = .ok (.goto 15, 3) := by decide +kernel
theorem ndD_sortOf_128 : decode ncD_sortOf 128 = .ok (.iload 4, 2) := by decide +kernel
theorem ndD_sortOf_130 : decode ncD_sortOf 130 = .ok (.iconst 3, 1) := by decide +kernel
theorem ndD_sortOf_131 : decode ncD_sortOf 131 = .ok (.if_icmp .ne 8, 3) := by decide +kernel
theorem ndD_sortOf_134 : decode ncD_sortOf 134 = .ok (.bipush 6, 2) := by decide +kernel
theorem ndD_sortOf_136 : decode ncD_sortOf 136 = .ok (.goto 4, 3) := by decide +kernel
theorem ndD_sortOf_139 : decode ncD_sortOf 139 = .ok (.iconst 0, 1) := by decide +kernel
theorem ndD_sortOf_140 : decode ncD_sortOf 140 = .ok (.ireturn, 1) := by decide +kernel
theorem ndD_sortOf_141 : decode ncD_sortOf 141 = .ok (.iload 4, 2) := by decide +kernel
theorem ndD_sortOf_143 : decode ncD_sortOf 143 = .ok (.ifCond .ne 7, 3) := by decide +kernel
theorem ndD_sortOf_146 : decode ncD_sortOf 146 = .ok (.iconst 2, 1) := by decide +kernel
theorem ndD_sortOf_147 : decode ncD_sortOf 147 = .ok (.goto 25, 3) := by decide +kernel
theorem ndD_sortOf_150 : decode ncD_sortOf 150 = .ok (.iload 4, 2) := by decide +kernel
theorem ndD_sortOf_152 : decode ncD_sortOf 152 = .ok (.iconst 1, 1) := by decide +kernel
theorem ndD_sortOf_153 : decode ncD_sortOf 153 = .ok (.if_icmp .ne 7, 3) := by decide +kernel
theorem ndD_sortOf_156 : decode ncD_sortOf 156 = .ok (.iconst 4, 1) := by decide +kernel
theorem ndD_sortOf_157 : decode ncD_sortOf 157 = .ok (.goto 15, 3) := by decide +kernel
theorem ndD_sortOf_160 : decode ncD_sortOf 160 = .ok (.iload 4, 2) := by decide +kernel
theorem ndD_sortOf_162 : decode ncD_sortOf 162 = .ok (.iconst 2, 1) := by decide +kernel
theorem ndD_sortOf_163 : decode ncD_sortOf 163 = .ok (.if_icmp .ne 8, 3) := by decide +kernel
theorem ndD_sortOf_166 : decode ncD_sortOf 166 = .ok (.bipush 6, 2) := by decide +kernel
theorem ndD_sortOf_168 : decode ncD_sortOf 168 = .ok (.goto 4, 3) := by decide +kernel
theorem ndD_sortOf_171 : decode ncD_sortOf 171 = .ok (.iconst 0, 1) := by decide +kernel
theorem ndD_sortOf_172 : decode ncD_sortOf 172 = .ok (.ireturn, 1) := by decide +kernel
theorem ndD_sortOf_173 : decode ncD_sortOf 173 = .ok (.iload 4, 2) := by decide +kernel
theorem ndD_sortOf_175 : decode ncD_sortOf 175 = .ok (.ifCond .ne 7, 3) := by decide +kernel
theorem ndD_sortOf_178 : decode ncD_sortOf 178 = .ok (.iconst 2, 1) := by decide +kernel
theorem ndD_sortOf_179 : decode ncD_sortOf 179 = .ok (.goto 24, 3) := by decide +kernel
theorem ndD_sortOf_182 : decode ncD_sortOf 182 = .ok (.iload 4, 2) := by decide +kernel
theorem ndD_sortOf_184 : decode ncD_sortOf 184 = .ok (.iconst 1, 1) := by decide +kernel
theorem ndD_sortOf_185 : decode ncD_sortOf 185 = .ok (.if_icmp .ne 7, 3) := by decide +kernel
theorem ndD_sortOf_188 : decode ncD_sortOf 188 = .ok (.iconst 1, 1) := by decide +kernel
theorem ndD_sortOf_189 : decode ncD_sortOf 189 = .ok (.goto 14, 3) := by decide +kernel
theorem ndD_sortOf_192 : decode ncD_sortOf 192 = .ok (.iload 4, 2) := by decide +kernel
theorem ndD_sortOf_194 : decode ncD_sortOf 194 = .ok (.iconst 2, 1) := by decide +kernel
theorem ndD_sortOf_195 : decode ncD_sortOf 195 = .ok (.if_icmp .ne 7, 3) := by decide +kernel
theorem ndD_sortOf_198 : decode ncD_sortOf 198 = .ok (.iconst 4, 1) := by decide +kernel
theorem ndD_sortOf_199 : decode ncD_sortOf 199 = .ok (.goto 4, 3) := by decide +kernel
theorem ndD_sortOf_202 : decode ncD_sortOf 202 = .ok (.iconst 0, 1) := by decide +kernel
theorem ndD_sortOf_203 : decode ncD_sortOf 203 = .ok (.ireturn, 1) := by decide +kernel
theorem ndD_sortOf_204 : decode ncD_sortOf 204 = .ok (.iload 4, 2) := by decide +kernel
theorem ndD_sortOf_206 : decode ncD_sortOf 206 = .ok (.ifCond .ne 8, 3) := by decide +kernel
theorem ndD_sortOf_209 : decode ncD_sortOf 209 = .ok (.bipush 7, 2) := by decide +kernel
theorem ndD_sortOf_211 : decode ncD_sortOf 211 = .ok (.goto 61, 3) := by decide +kernel
theorem ndD_sortOf_214 : decode ncD_sortOf 214 = .ok (.iload 4, 2) := by decide +kernel
theorem ndD_sortOf_216 : decode ncD_sortOf 216 = .ok (.iconst 1, 1) := by decide +kernel
theorem ndD_sortOf_217 : decode ncD_sortOf 217 = .ok (.if_icmp .ne 8, 3) := by decide +kernel
theorem ndD_sortOf_220 : decode ncD_sortOf 220 = .ok (.bipush 8, 2) := by decide +kernel
theorem ndD_sortOf_222 : decode ncD_sortOf 222 = .ok (.goto 50, 3) := by decide +kernel
theorem ndD_sortOf_225 : decode ncD_sortOf 225 = .ok (.iload 4, 2) := by decide +kernel
theorem ndD_sortOf_227 : decode ncD_sortOf 227 = .ok (.iconst 2, 1) := by decide +kernel
theorem ndD_sortOf_228 : decode ncD_sortOf 228 = .ok (.isub, 1) := by decide +kernel
theorem ndD_sortOf_229 : decode ncD_sortOf 229 = .ok (.i2l, 1) := by decide +kernel
theorem ndD_sortOf_230 : decode ncD_sortOf 230 = .ok (.ldc2_w 23, 3) := by decide +kernel
theorem ndD_sortOf_233 : decode ncD_sortOf 233 = .ok (.lload_n 2, 1) := by decide +kernel
theorem ndD_sortOf_234 : decode ncD_sortOf 234 = .ok (.lmul, 1) := by decide +kernel
theorem ndD_sortOf_235 : decode ncD_sortOf 235 = .ok (.lcmp, 1) := by decide +kernel
theorem ndD_sortOf_236 : decode ncD_sortOf 236 = .ok (.ifCond .lt 7, 3) := by decide +kernel
theorem ndD_sortOf_239 : decode ncD_sortOf 239 = .ok (.iconst 0, 1) := by decide +kernel
theorem ndD_sortOf_240 : decode ncD_sortOf 240 = .ok (.goto 32, 3) := by decide +kernel
theorem ndD_sortOf_243 : decode ncD_sortOf 243 = .ok (.iload 4, 2) := by decide +kernel
theorem ndD_sortOf_245 : decode ncD_sortOf 245 = .ok (.iconst 2, 1) := by decide +kernel
theorem ndD_sortOf_246 : decode ncD_sortOf 246 = .ok (.isub, 1) := by decide +kernel
theorem ndD_sortOf_247 : decode ncD_sortOf 247 = .ok (.iconst 4, 1) := by decide +kernel
theorem ndD_sortOf_248 : decode ncD_sortOf 248 = .ok (.irem, 1) := by decide +kernel
theorem ndD_sortOf_249 : decode ncD_sortOf 249 = .ok (.iconst 2, 1) := by decide +kernel
theorem ndD_sortOf_250 : decode ncD_sortOf 250 = .ok (.if_icmp .ge 7, 3) := by decide +kernel
theorem ndD_sortOf_253 : decode ncD_sortOf 253 = .ok (.iconst 1, 1) := by decide +kernel
theorem ndD_sortOf_254 : decode ncD_sortOf 254 = .ok (.goto 18, 3) := by decide +kernel
theorem ndD_sortOf_257 : decode ncD_sortOf 257 = .ok (.iload 4, 2) := by decide +kernel
theorem ndD_sortOf_259 : decode ncD_sortOf 259 = .ok (.iconst 2, 1) := by decide +kernel
theorem ndD_sortOf_260 : decode ncD_sortOf 260 = .ok (.isub, 1) := by decide +kernel
theorem ndD_sortOf_261 : decode ncD_sortOf 261 = .ok (.iconst 4, 1) := by decide +kernel
theorem ndD_sortOf_262 : decode ncD_sortOf 262 = .ok (.irem, 1) := by decide +kernel
theorem ndD_sortOf_263 : decode ncD_sortOf 263 = .ok (.iconst 2, 1) := by decide +kernel
theorem ndD_sortOf_264 : decode ncD_sortOf 264 = .ok (.if_icmp .ne 7, 3) := by decide +kernel
theorem ndD_sortOf_267 : decode ncD_sortOf 267 = .ok (.iconst 2, 1) := by decide +kernel
theorem ndD_sortOf_268 : decode ncD_sortOf 268 = .ok (.goto 4, 3) := by decide +kernel
theorem ndD_sortOf_271 : decode ncD_sortOf 271 = .ok (.iconst 4, 1) := by decide +kernel
theorem ndD_sortOf_272 : decode ncD_sortOf 272 = .ok (.ireturn, 1) := by decide +kernel
theorem ndD_sortOf_273 : decode ncD_sortOf 273 = .ok (.iload 4, 2) := by decide +kernel
theorem ndD_sortOf_275 : decode ncD_sortOf 275 = .ok (.ifCond .ne 7, 3) := by decide +kernel
theorem ndD_sortOf_278 : decode ncD_sortOf 278 = .ok (.iconst 1, 1) := by decide +kernel
theorem ndD_sortOf_279 : decode ncD_sortOf 279 = .ok (.goto 14, 3) := by decide +kernel
theorem ndD_sortOf_282 : decode ncD_sortOf 282 = .ok (.iload 4, 2) := by decide +kernel
theorem ndD_sortOf_284 : decode ncD_sortOf 284 = .ok (.iconst 1, 1) := by decide +kernel
theorem ndD_sortOf_285 : decode ncD_sortOf 285 = .ok (.if_icmp .ne 7, 3) := by decide +kernel
theorem ndD_sortOf_288 : decode ncD_sortOf 288 = .ok (.iconst 3, 1) := by decide +kernel
theorem ndD_sortOf_289 : decode ncD_sortOf 289 = .ok (.goto 4, 3) := by decide +kernel
theorem ndD_sortOf_292 : decode ncD_sortOf 292 = .ok (.iconst 0, 1) := by decide +kernel
theorem ndD_sortOf_293 : decode ncD_sortOf 293 = .ok (.ireturn, 1) := by decide +kernel
theorem ndD_sortOf_294 : decode ncD_sortOf 294 = .ok (.iload 4, 2) := by decide +kernel
theorem ndD_sortOf_296 : decode ncD_sortOf 296 = .ok (.ifCond .ne 7, 3) := by decide +kernel
theorem ndD_sortOf_299 : decode ncD_sortOf 299 = .ok (.iconst 3, 1) := by decide +kernel
theorem ndD_sortOf_300 : decode ncD_sortOf 300 = .ok (.goto 4, 3) := by decide +kernel
theorem ndD_sortOf_303 : decode ncD_sortOf 303 = .ok (.iconst 0, 1) := by decide +kernel
theorem ndD_sortOf_304 : decode ncD_sortOf 304 = .ok (.ireturn, 1) := by decide +kernel
theorem ndD_sortOf_305 : decode ncD_sortOf 305 = .ok (.iload 4, 2) := by decide +kernel
theorem ndD_sortOf_307 : decode ncD_sortOf 307 = .ok (.ifCond .ne 7, 3) := by decide +kernel
theorem ndD_sortOf_310 : decode ncD_sortOf 310 = .ok (.iconst 3, 1) := by decide +kernel
theorem ndD_sortOf_311 : decode ncD_sortOf 311 = .ok (.goto 15, 3) := by decide +kernel
theorem ndD_sortOf_314 : decode ncD_sortOf 314 = .ok (.iload 4, 2) := by decide +kernel
theorem ndD_sortOf_316 : decode ncD_sortOf 316 = .ok (.iconst 1, 1) := by decide +kernel
theorem ndD_sortOf_317 : decode ncD_sortOf 317 = .ok (.if_icmp .ne 8, 3) := by decide +kernel
theorem ndD_sortOf_320 : decode ncD_sortOf 320 = .ok (.bipush 7, 2) := by decide +kernel
theorem ndD_sortOf_322 : decode ncD_sortOf 322 = .ok (.goto 4, 3) := by decide +kernel
theorem ndD_sortOf_325 : decode ncD_sortOf 325 = .ok (.iconst 0, 1) := by decide +kernel
theorem ndD_sortOf_326 : decode ncD_sortOf 326 = .ok (.ireturn, 1) := by decide +kernel
theorem ndD_sortOf_327 : decode ncD_sortOf 327 = .ok (.iload 4, 2) := by decide +kernel
theorem ndD_sortOf_329 : decode ncD_sortOf 329 = .ok (.ifCond .ne 7, 3) := by decide +kernel
theorem ndD_sortOf_332 : decode ncD_sortOf 332 = .ok (.iconst 1, 1) := by decide +kernel
theorem ndD_sortOf_333 : decode ncD_sortOf 333 = .ok (.goto 14, 3) := by decide +kernel
theorem ndD_sortOf_336 : decode ncD_sortOf 336 = .ok (.iload 4, 2) := by decide +kernel
theorem ndD_sortOf_338 : decode ncD_sortOf 338 = .ok (.iconst 1, 1) := by decide +kernel
theorem ndD_sortOf_339 : decode ncD_sortOf 339 = .ok (.if_icmp .ne 7, 3) := by decide +kernel
theorem ndD_sortOf_342 : decode ncD_sortOf 342 = .ok (.iconst 4, 1) := by decide +kernel
theorem ndD_sortOf_343 : decode ncD_sortOf 343 = .ok (.goto 4, 3) := by decide +kernel
theorem ndD_sortOf_346 : decode ncD_sortOf 346 = .ok (.iconst 0, 1) := by decide +kernel
theorem ndD_sortOf_347 : decode ncD_sortOf 347 = .ok (.ireturn, 1) := by decide +kernel
theorem ndD_sortOf_348 : decode ncD_sortOf 348 = .ok (.iload 4, 2) := by decide +kernel
theorem ndD_sortOf_350 : decode ncD_sortOf 350 = .ok (.ifCond .ne 7, 3) := by decide +kernel
theorem ndD_sortOf_353 : decode ncD_sortOf 353 = .ok (.iconst 2, 1) := by decide +kernel
theorem ndD_sortOf_354 : decode ncD_sortOf 354 = .ok (.goto 14, 3) := by decide +kernel
theorem ndD_sortOf_357 : decode ncD_sortOf 357 = .ok (.iload 4, 2) := by decide +kernel
theorem ndD_sortOf_359 : decode ncD_sortOf 359 = .ok (.iconst 1, 1) := by decide +kernel
theorem ndD_sortOf_360 : decode ncD_sortOf 360 = .ok (.if_icmp .ne 7, 3) := by decide +kernel
theorem ndD_sortOf_363 : decode ncD_sortOf 363 = .ok (.iconst 4, 1) := by decide +kernel
theorem ndD_sortOf_364 : decode ncD_sortOf 364 = .ok (.goto 4, 3) := by decide +kernel
theorem ndD_sortOf_367 : decode ncD_sortOf 367 = .ok (.iconst 0, 1) := by decide +kernel
theorem ndD_sortOf_368 : decode ncD_sortOf 368 = .ok (.ireturn, 1) := by decide +kernel
theorem ndD_sortOf_369 : decode ncD_sortOf 369 = .ok (.iconst 0, 1) := by decide +kernel
theorem ndD_sortOf_370 : decode ncD_sortOf 370 = .ok (.ireturn, 1) := by decide +kernel
theorem ndD_width_0 : decode ncD_width 0 = .ok (.iload_n 0, 1) := by decide +kernel
theorem ndD_width_1 : decode ncD_width 1 = .ok (.tableswitch 51 1 6 #[39, 41, 43, 46, 51, 49], 39) := by decide +kernel
theorem ndD_width_40 : decode ncD_width 40 = .ok (.iconst 4, 1) := by decide +kernel
theorem ndD_width_41 : decode ncD_width 41 = .ok (.ireturn, 1) := by decide +kernel
theorem ndD_width_42 : decode ncD_width 42 = .ok (.iconst 3, 1) := by decide +kernel
theorem ndD_width_43 : decode ncD_width 43 = .ok (.ireturn, 1) := by decide +kernel
theorem ndD_width_44 : decode ncD_width 44 = .ok (.bipush 8, 2) := by decide +kernel
theorem ndD_width_46 : decode ncD_width 46 = .ok (.ireturn, 1) := by decide +kernel
theorem ndD_width_47 : decode ncD_width 47 = .ok (.bipush 15, 2) := by decide +kernel
theorem ndD_width_49 : decode ncD_width 49 = .ok (.ireturn, 1) := by decide +kernel
theorem ndD_width_50 : decode ncD_width 50 = .ok (.iconst 2, 1) := by decide +kernel
theorem ndD_width_51 : decode ncD_width 51 = .ok (.ireturn, 1) := by decide +kernel
theorem ndD_width_52 : decode ncD_width 52 = .ok (.iconst 1, 1) := by decide +kernel
theorem ndD_width_53 : decode ncD_width 53 = .ok (.ireturn, 1) := by decide +kernel
theorem ndD_isSign_0 : decode ncD_isSign 0 = .ok (.iload_n 0, 1) := by decide +kernel
theorem ndD_isSign_1 : decode ncD_isSign 1 = .ok (.bipush 48, 2) := by decide +kernel
theorem ndD_isSign_3 : decode ncD_isSign 3 = .ok (.if_icmp .lt 9, 3) := by decide +kernel
theorem ndD_isSign_6 : decode ncD_isSign 6 = .ok (.iload_n 0, 1) := by decide +kernel
theorem ndD_isSign_7 : decode ncD_isSign 7 = .ok (.bipush 57, 2) := by decide +kernel
theorem ndD_isSign_9 : decode ncD_isSign 9 = .ok (.if_icmp .le 15, 3) := by decide +kernel
theorem ndD_isSign_12 : decode ncD_isSign 12 = .ok (.iload_n 0, 1) := by decide +kernel
theorem ndD_isSign_13 : decode ncD_isSign 13 = .ok (.bipush 65, 2) := by decide +kernel
theorem ndD_isSign_15 : decode ncD_isSign 15 = .ok (.if_icmp .lt 13, 3) := by decide +kernel
theorem ndD_isSign_18 : decode ncD_isSign 18 = .ok (.iload_n 0, 1) := by decide +kernel
theorem ndD_isSign_19 : decode ncD_isSign 19 = .ok (.bipush 90, 2) := by decide +kernel
theorem ndD_isSign_21 : decode ncD_isSign 21 = .ok (.if_icmp .gt 7, 3) := by decide +kernel
theorem ndD_isSign_24 : decode ncD_isSign 24 = .ok (.iconst 1, 1) := by decide +kernel
theorem ndD_isSign_25 : decode ncD_isSign 25 = .ok (.goto 4, 3) := by decide +kernel
theorem ndD_isSign_28 : decode ncD_isSign 28 = .ok (.iconst 0, 1) := by decide +kernel
theorem ndD_isSign_29 : decode ncD_isSign 29 = .ok (.ireturn, 1) := by decide +kernel
theorem ndD_valueOf_0 : decode ncD_valueOf 0 = .ok (.iload_n 0, 1) := by decide +kernel
theorem ndD_valueOf_1 : decode ncD_valueOf 1 = .ok (.bipush 57, 2) := by decide +kernel
theorem ndD_valueOf_3 : decode ncD_valueOf 3 = .ok (.if_icmp .gt 10, 3) := by decide +kernel
theorem ndD_valueOf_6 : decode ncD_valueOf 6 = .ok (.iload_n 0, 1) := by decide +kernel
theorem ndD_valueOf_7 : decode ncD_valueOf 7 = .ok (.bipush 48, 2) := by decide +kernel
theorem ndD_valueOf_9 : decode ncD_valueOf 9 = .ok (.isub, 1) := by decide +kernel
theorem ndD_valueOf_10 : decode ncD_valueOf 10 = .ok (.goto 10, 3) := by decide +kernel
theorem ndD_valueOf_13 : decode ncD_valueOf 13 = .ok (.iload_n 0, 1) := by decide +kernel
theorem ndD_valueOf_14 : decode ncD_valueOf 14 = .ok (.bipush 65, 2) := by decide +kernel
theorem ndD_valueOf_16 : decode ncD_valueOf 16 = .ok (.isub, 1) := by decide +kernel
theorem ndD_valueOf_17 : decode ncD_valueOf 17 = .ok (.bipush 10, 2) := by decide +kernel
theorem ndD_valueOf_19 : decode ncD_valueOf 19 = .ok (.iadd, 1) := by decide +kernel
theorem ndD_valueOf_20 : decode ncD_valueOf 20 = .ok (.ireturn, 1) := by decide +kernel
theorem ndD_fits_0 : decode ncD_fits 0 = .ok (.iload_n 0, 1) := by decide +kernel
theorem ndD_fits_1 : decode ncD_fits 1 = .ok (.tableswitch 111 1 7 #[43, 43, 43, 48, 75, 48, 93], 43) := by decide +kernel
theorem ndD_fits_44 : decode ncD_fits 44 = .ok (.iload_n 1, 1) := by decide +kernel
theorem ndD_fits_45 : decode ncD_fits 45 = .ok (.invokestatic 25, 3) := by decide +kernel
theorem ndD_fits_48 : decode ncD_fits 48 = .ok (.ireturn, 1) := by decide +kernel
theorem ndD_fits_49 : decode ncD_fits 49 = .ok (.iload_n 1, 1) := by decide +kernel
theorem ndD_fits_50 : decode ncD_fits 50 = .ok (.bipush 48, 2) := by decide +kernel
theorem ndD_fits_52 : decode ncD_fits 52 = .ok (.if_icmp .lt 22, 3) := by decide +kernel
theorem ndD_fits_55 : decode ncD_fits 55 = .ok (.iload_n 1, 1) := by decide +kernel
theorem ndD_fits_56 : decode ncD_fits 56 = .ok (.iload_n 2, 1) := by decide +kernel
theorem ndD_fits_57 : decode ncD_fits 57 = .ok (.ifCond .eq 8, 3) := by decide +kernel
theorem ndD_fits_60 : decode ncD_fits 60 = .ok (.bipush 48, 2) := by decide +kernel
theorem ndD_fits_62 : decode ncD_fits 62 = .ok (.goto 5, 3) := by decide +kernel
theorem ndD_fits_65 : decode ncD_fits 65 = .ok (.bipush 57, 2) := by decide +kernel
theorem ndD_fits_67 : decode ncD_fits 67 = .ok (.if_icmp .gt 7, 3) := by decide +kernel
theorem ndD_fits_70 : decode ncD_fits 70 = .ok (.iconst 1, 1) := by decide +kernel
theorem ndD_fits_71 : decode ncD_fits 71 = .ok (.goto 4, 3) := by decide +kernel
theorem ndD_fits_74 : decode ncD_fits 74 = .ok (.iconst 0, 1) := by decide +kernel
theorem ndD_fits_75 : decode ncD_fits 75 = .ok (.ireturn, 1) := by decide +kernel
theorem ndD_fits_76 : decode ncD_fits 76 = .ok (.iload_n 1, 1) := by decide +kernel
theorem ndD_fits_77 : decode ncD_fits 77 = .ok (.bipush 67, 2) := by decide +kernel
theorem ndD_fits_79 : decode ncD_fits 79 = .ok (.if_icmp .eq 9, 3) := by decide +kernel
theorem ndD_fits_82 : decode ncD_fits 82 = .ok (.iload_n 1, 1) := by decide +kernel
theorem ndD_fits_83 : decode ncD_fits 83 = .ok (.bipush 83, 2) := by decide +kernel
theorem ndD_fits_85 : decode ncD_fits 85 = .ok (.if_icmp .ne 7, 3) := by decide +kernel
theorem ndD_fits_88 : decode ncD_fits 88 = .ok (.iconst 1, 1) := by decide +kernel
theorem ndD_fits_89 : decode ncD_fits 89 = .ok (.goto 4, 3) := by decide +kernel
theorem ndD_fits_92 : decode ncD_fits 92 = .ok (.iconst 0, 1) := by decide +kernel
theorem ndD_fits_93 : decode ncD_fits 93 = .ok (.ireturn, 1) := by decide +kernel
theorem ndD_fits_94 : decode ncD_fits 94 = .ok (.iload_n 1, 1) := by decide +kernel
theorem ndD_fits_95 : decode ncD_fits 95 = .ok (.bipush 49, 2) := by decide +kernel
theorem ndD_fits_97 : decode ncD_fits 97 = .ok (.if_icmp .lt 13, 3) := by decide +kernel
theorem ndD_fits_100 : decode ncD_fits 100 = .ok (.iload_n 1, 1) := by decide +kernel
theorem ndD_fits_101 : decode ncD_fits 101 = .ok (.bipush 57, 2) := by decide +kernel
theorem ndD_fits_103 : decode ncD_fits 103 = .ok (.if_icmp .gt 7, 3) := by decide +kernel
theorem ndD_fits_106 : decode ncD_fits 106 = .ok (.iconst 1, 1) := by decide +kernel
theorem ndD_fits_107 : decode ncD_fits 107 = .ok (.goto 4, 3) := by decide +kernel
theorem ndD_fits_110 : decode ncD_fits 110 = .ok (.iconst 0, 1) := by decide +kernel
theorem ndD_fits_111 : decode ncD_fits 111 = .ok (.ireturn, 1) := by decide +kernel
theorem ndD_fits_112 : decode ncD_fits 112 = .ok (.iload_n 1, 1) := by decide +kernel
theorem ndD_fits_113 : decode ncD_fits 113 = .ok (.bipush 49, 2) := by decide +kernel
theorem ndD_fits_115 : decode ncD_fits 115 = .ok (.if_icmp .lt 13, 3) := by decide +kernel
theorem ndD_fits_118 : decode ncD_fits 118 = .ok (.iload_n 1, 1) := by decide +kernel
theorem ndD_fits_119 : decode ncD_fits 119 = .ok (.bipush 52, 2) := by decide +kernel
theorem ndD_fits_121 : decode ncD_fits 121 = .ok (.if_icmp .gt 7, 3) := by decide +kernel
theorem ndD_fits_124 : decode ncD_fits 124 = .ok (.iconst 1, 1) := by decide +kernel
theorem ndD_fits_125 : decode ncD_fits 125 = .ok (.goto 4, 3) := by decide +kernel
theorem ndD_fits_128 : decode ncD_fits 128 = .ok (.iconst 0, 1) := by decide +kernel
theorem ndD_fits_129 : decode ncD_fits 129 = .ok (.ireturn, 1) := by decide +kernel
end
section
theorem ndD_step_0 : decode ncD_step 0 = .ok (.iload_n 1, 1) := by decide +kernel
theorem ndD_step_1 : decode ncD_step 1 = .ok (.bipush 57, 2) := by decide +kernel
theorem ndD_step_3 : decode ncD_step 3 = .ok (.if_icmp .gt 18, 3) := by decide +kernel
theorem ndD_step_6 : decode ncD_step 6 = .ok (.iload_n 0, 1) := by decide +kernel
theorem ndD_step_7 : decode ncD_step 7 = .ok (.bipush 10, 2) := by decide +kernel
theorem ndD_step_9 : decode ncD_step 9 = .ok (.imul, 1) := by decide +kernel
theorem ndD_step_10 : decode ncD_step 10 = .ok (.iload_n 1, 1) := by decide +kernel
theorem ndD_step_11 : decode ncD_step 11 = .ok (.iadd, 1) := by decide +kernel
theorem ndD_step_12 : decode ncD_step 12 = .ok (.bipush 48, 2) := by decide +kernel
theorem ndD_step_14 : decode ncD_step 14 = .ok (.isub, 1) := by decide +kernel
theorem ndD_step_15 : decode ncD_step 15 = .ok (.bipush 97, 2) := by decide +kernel
theorem ndD_step_17 : decode ncD_step 17 = .ok (.irem, 1) := by decide +kernel
theorem ndD_step_18 : decode ncD_step 18 = .ok (.goto 18, 3) := by decide +kernel
theorem ndD_step_21 : decode ncD_step 21 = .ok (.iload_n 0, 1) := by decide +kernel
theorem ndD_step_22 : decode ncD_step 22 = .ok (.bipush 100, 2) := by decide +kernel
theorem ndD_step_24 : decode ncD_step 24 = .ok (.imul, 1) := by decide +kernel
theorem ndD_step_25 : decode ncD_step 25 = .ok (.iload_n 1, 1) := by decide +kernel
theorem ndD_step_26 : decode ncD_step 26 = .ok (.iadd, 1) := by decide +kernel
theorem ndD_step_27 : decode ncD_step 27 = .ok (.bipush 65, 2) := by decide +kernel
theorem ndD_step_29 : decode ncD_step 29 = .ok (.isub, 1) := by decide +kernel
theorem ndD_step_30 : decode ncD_step 30 = .ok (.bipush 10, 2) := by decide +kernel
theorem ndD_step_32 : decode ncD_step 32 = .ok (.iadd, 1) := by decide +kernel
theorem ndD_step_33 : decode ncD_step 33 = .ok (.bipush 97, 2) := by decide +kernel
theorem ndD_step_35 : decode ncD_step 35 = .ok (.irem, 1) := by decide +kernel
theorem ndD_step_36 : decode ncD_step 36 = .ok (.ireturn, 1) := by decide +kernel
theorem ndD_type_0 : decode ncD_type 0 = .ok (.iload_n 3, 1) := by decide +kernel
theorem ndD_type_1 : decode ncD_type 1 = .ok (.iconst 1, 1) := by decide +kernel
theorem ndD_type_2 : decode ncD_type 2 = .ok (.if_icmp .lt 21, 3) := by decide +kernel
theorem ndD_type_5 : decode ncD_type 5 = .ok (.iload_n 3, 1) := by decide +kernel
theorem ndD_type_6 : decode ncD_type 6 = .ok (.bipush 8, 2) := by decide +kernel
theorem ndD_type_8 : decode ncD_type 8 = .ok (.if_icmp .gt 15, 3) := by decide +kernel
theorem ndD_type_11 : decode ncD_type 11 = .ok (.aload_n 0, 1) := by decide +kernel
theorem ndD_type_12 : decode ncD_type 12 = .ok (.getfield 29, 3) := by decide +kernel
theorem ndD_type_15 : decode ncD_type 15 = .ok (.iload_n 3, 1) := by decide +kernel
theorem ndD_type_16 : decode ncD_type 16 = .ok (.iadd, 1) := by decide +kernel
theorem ndD_type_17 : decode ncD_type 17 = .ok (.sipush 400, 3) := by decide +kernel
theorem ndD_type_20 : decode ncD_type 20 = .ok (.if_icmp .le 5, 3) := by decide +kernel
theorem ndD_type_23 : decode ncD_type 23 = .ok (.iconst 0, 1) := by decide +kernel
theorem ndD_type_24 : decode ncD_type 24 = .ok (.ireturn, 1) := by decide +kernel
theorem ndD_type_25 : decode ncD_type 25 = .ok (.iload_n 3, 1) := by decide +kernel
theorem ndD_type_26 : decode ncD_type 26 = .ok (.iconst 1, 1) := by decide +kernel
theorem ndD_type_27 : decode ncD_type 27 = .ok (.isub, 1) := by decide +kernel
theorem ndD_type_28 : decode ncD_type 28 = .ok (.istore 4, 2) := by decide +kernel
theorem ndD_type_30 : decode ncD_type 30 = .ok (.iload 4, 2) := by decide +kernel
theorem ndD_type_32 : decode ncD_type 32 = .ok (.ifCond .lt 40, 3) := by decide +kernel
theorem ndD_type_35 : decode ncD_type 35 = .ok (.aload_n 0, 1) := by decide +kernel
theorem ndD_type_36 : decode ncD_type 36 = .ok (.getfield 7, 3) := by decide +kernel
theorem ndD_type_39 : decode ncD_type 39 = .ok (.aload_n 0, 1) := by decide +kernel
theorem ndD_type_40 : decode ncD_type 40 = .ok (.getfield 29, 3) := by decide +kernel
theorem ndD_type_43 : decode ncD_type 43 = .ok (.lload_n 1, 1) := by decide +kernel
theorem ndD_type_44 : decode ncD_type 44 = .ok (.bipush 8, 2) := by decide +kernel
theorem ndD_type_46 : decode ncD_type 46 = .ok (.iload 4, 2) := by decide +kernel
theorem ndD_type_48 : decode ncD_type 48 = .ok (.imul, 1) := by decide +kernel
theorem ndD_type_49 : decode ncD_type 49 = .ok (.lshr, 1) := by decide +kernel
theorem ndD_type_50 : decode ncD_type 50 = .ok (.ldc2_w 33, 3) := by decide +kernel
theorem ndD_type_53 : decode ncD_type 53 = .ok (.land, 1) := by decide +kernel
theorem ndD_type_54 : decode ncD_type 54 = .ok (.l2i, 1) := by decide +kernel
theorem ndD_type_55 : decode ncD_type 55 = .ok (.iastore, 1) := by decide +kernel
theorem ndD_type_56 : decode ncD_type 56 = .ok (.aload_n 0, 1) := by decide +kernel
theorem ndD_type_57 : decode ncD_type 57 = .ok (.aload_n 0, 1) := by decide +kernel
theorem ndD_type_58 : decode ncD_type 58 = .ok (.getfield 29, 3) := by decide +kernel
theorem ndD_type_61 : decode ncD_type 61 = .ok (.iconst 1, 1) := by decide +kernel
theorem ndD_type_62 : decode ncD_type 62 = .ok (.iadd, 1) := by decide +kernel
theorem ndD_type_63 : decode ncD_type 63 = .ok (.putfield 29, 3) := by decide +kernel
theorem ndD_type_66 : decode ncD_type 66 = .ok (.iinc 4 (-1), 3) := by decide +kernel
theorem ndD_type_69 : decode ncD_type 69 = .ok (.goto (-39), 3) := by decide +kernel
theorem ndD_type_72 : decode ncD_type 72 = .ok (.iconst 1, 1) := by decide +kernel
theorem ndD_type_73 : decode ncD_type 73 = .ok (.ireturn, 1) := by decide +kernel
theorem ndD_kindOf_0 : decode ncD_kindOf 0 = .ok (.iconst 1, 1) := by decide +kernel
theorem ndD_kindOf_1 : decode ncD_kindOf 1 = .ok (.istore_n 2, 1) := by decide +kernel
theorem ndD_kindOf_2 : decode ncD_kindOf 2 = .ok (.iload_n 2, 1) := by decide +kernel
theorem ndD_kindOf_3 : decode ncD_kindOf 3 = .ok (.bipush 16, 2) := by decide +kernel
theorem ndD_kindOf_5 : decode ncD_kindOf 5 = .ok (.if_icmp .ge 58, 3) := by decide +kernel
theorem ndD_kindOf_8 : decode ncD_kindOf 8 = .ok (.iconst 1, 1) := by decide +kernel
theorem ndD_kindOf_9 : decode ncD_kindOf 9 = .ok (.istore_n 3, 1) := by decide +kernel
theorem ndD_kindOf_10 : decode ncD_kindOf 10 = .ok (.iconst 0, 1) := by decide +kernel
theorem ndD_kindOf_11 : decode ncD_kindOf 11 = .ok (.istore 4, 2) := by decide +kernel
theorem ndD_kindOf_13 : decode ncD_kindOf 13 = .ok (.iload 4, 2) := by decide +kernel
theorem ndD_kindOf_15 : decode ncD_kindOf 15 = .ok (.iload_n 1, 1) := by decide +kernel
theorem ndD_kindOf_16 : decode ncD_kindOf 16 = .ok (.if_icmp .ge 35, 3) := by decide +kernel
theorem ndD_kindOf_19 : decode ncD_kindOf 19 = .ok (.iload_n 3, 1) := by decide +kernel
theorem ndD_kindOf_20 : decode ncD_kindOf 20 = .ok (.ifCond .eq 23, 3) := by decide +kernel
theorem ndD_kindOf_23 : decode ncD_kindOf 23 = .ok (.aload_n 0, 1) := by decide +kernel
theorem ndD_kindOf_24 : decode ncD_kindOf 24 = .ok (.getfield 7, 3) := by decide +kernel
theorem ndD_kindOf_27 : decode ncD_kindOf 27 = .ok (.iload 4, 2) := by decide +kernel
theorem ndD_kindOf_29 : decode ncD_kindOf 29 = .ok (.iaload, 1) := by decide +kernel
theorem ndD_kindOf_30 : decode ncD_kindOf 30 = .ok (.iload_n 2, 1) := by decide +kernel
theorem ndD_kindOf_31 : decode ncD_kindOf 31 = .ok (.iload 4, 2) := by decide +kernel
theorem ndD_kindOf_33 : decode ncD_kindOf 33 = .ok (.invokestatic 35, 3) := by decide +kernel
theorem ndD_kindOf_36 : decode ncD_kindOf 36 = .ok (.if_icmp .ne 7, 3) := by decide +kernel
theorem ndD_kindOf_39 : decode ncD_kindOf 39 = .ok (.iconst 1, 1) := by decide +kernel
theorem ndD_kindOf_40 : decode ncD_kindOf 40 = .ok (.goto 4, 3) := by decide +kernel
theorem ndD_kindOf_43 : decode ncD_kindOf 43 = .ok (.iconst 0, 1) := by decide +kernel
theorem ndD_kindOf_44 : decode ncD_kindOf 44 = .ok (.istore_n 3, 1) := by decide +kernel
theorem ndD_kindOf_45 : decode ncD_kindOf 45 = .ok (.iinc 4 1, 3) := by decide +kernel
theorem ndD_kindOf_48 : decode ncD_kindOf 48 = .ok (.goto (-35), 3) := by decide +kernel
theorem ndD_kindOf_51 : decode ncD_kindOf 51 = .ok (.iload_n 3, 1) := by decide +kernel
theorem ndD_kindOf_52 : decode ncD_kindOf 52 = .ok (.ifCond .eq 5, 3) := by decide +kernel
theorem ndD_kindOf_55 : decode ncD_kindOf 55 = .ok (.iload_n 2, 1) := by decide +kernel
theorem ndD_kindOf_56 : decode ncD_kindOf 56 = .ok (.ireturn, 1) := by decide +kernel
theorem ndD_kindOf_57 : decode ncD_kindOf 57 = .ok (.iinc 2 1, 3) := by decide +kernel
theorem ndD_kindOf_60 : decode ncD_kindOf 60 = .ok (.goto (-58), 3) := by decide +kernel
theorem ndD_kindOf_63 : decode ncD_kindOf 63 = .ok (.iconst 0, 1) := by decide +kernel
theorem ndD_kindOf_64 : decode ncD_kindOf 64 = .ok (.ireturn, 1) := by decide +kernel
theorem ndD_fault_0 : decode ncD_fault 0 = .ok (.aload_n 0, 1) := by decide +kernel
theorem ndD_fault_1 : decode ncD_fault 1 = .ok (.iconst 0, 1) := by decide +kernel
theorem ndD_fault_2 : decode ncD_fault 2 = .ok (.putfield 29, 3) := by decide +kernel
theorem ndD_fault_5 : decode ncD_fault 5 = .ok (.aload_n 0, 1) := by decide +kernel
theorem ndD_fault_6 : decode ncD_fault 6 = .ok (.iconst 0, 1) := by decide +kernel
theorem ndD_fault_7 : decode ncD_fault 7 = .ok (.putfield 39, 3) := by decide +kernel
theorem ndD_fault_10 : decode ncD_fault 10 = .ok (.aload_n 0, 1) := by decide +kernel
theorem ndD_fault_11 : decode ncD_fault 11 = .ok (.iconst 0, 1) := by decide +kernel
theorem ndD_fault_12 : decode ncD_fault 12 = .ok (.putfield 42, 3) := by decide +kernel
theorem ndD_fault_15 : decode ncD_fault 15 = .ok (.iconst (-1), 1) := by decide +kernel
theorem ndD_fault_16 : decode ncD_fault 16 = .ok (.iload_n 1, 1) := by decide +kernel
theorem ndD_fault_17 : decode ncD_fault 17 = .ok (.isub, 1) := by decide +kernel
theorem ndD_fault_18 : decode ncD_fault 18 = .ok (.ireturn, 1) := by decide +kernel
theorem ndD_read_0 : decode ncD_read 0 = .ok (.iconst 0, 1) := by decide +kernel
theorem ndD_read_1 : decode ncD_read 1 = .ok (.istore_n 1, 1) := by decide +kernel
theorem ndD_read_2 : decode ncD_read 2 = .ok (.iconst 0, 1) := by decide +kernel
theorem ndD_read_3 : decode ncD_read 3 = .ok (.istore_n 2, 1) := by decide +kernel
theorem ndD_read_4 : decode ncD_read 4 = .ok (.iload_n 2, 1) := by decide +kernel
theorem ndD_read_5 : decode ncD_read 5 = .ok (.iconst 3, 1) := by decide +kernel
theorem ndD_read_6 : decode ncD_read 6 = .ok (.if_icmp .ge 44, 3) := by decide +kernel
theorem ndD_read_9 : decode ncD_read 9 = .ok (.iload_n 2, 1) := by decide +kernel
theorem ndD_read_10 : decode ncD_read 10 = .ok (.aload_n 0, 1) := by decide +kernel
theorem ndD_read_11 : decode ncD_read 11 = .ok (.getfield 29, 3) := by decide +kernel
theorem ndD_read_14 : decode ncD_read 14 = .ok (.if_icmp .eq 13, 3) := by decide +kernel
theorem ndD_read_17 : decode ncD_read 17 = .ok (.aload_n 0, 1) := by decide +kernel
theorem ndD_read_18 : decode ncD_read 18 = .ok (.iload_n 2, 1) := by decide +kernel
theorem ndD_read_19 : decode ncD_read 19 = .ok (.iconst 1, 1) := by decide +kernel
theorem ndD_read_20 : decode ncD_read 20 = .ok (.iadd, 1) := by decide +kernel
theorem ndD_read_21 : decode ncD_read 21 = .ok (.invokevirtual 45, 3) := by decide +kernel
theorem ndD_read_24 : decode ncD_read 24 = .ok (.ifCond .ne 9, 3) := by decide +kernel
theorem ndD_read_27 : decode ncD_read 27 = .ok (.aload_n 0, 1) := by decide +kernel
theorem ndD_read_28 : decode ncD_read 28 = .ok (.iload_n 2, 1) := by decide +kernel
theorem ndD_read_29 : decode ncD_read 29 = .ok (.invokevirtual 49, 3) := by decide +kernel
theorem ndD_read_32 : decode ncD_read 32 = .ok (.ireturn, 1) := by decide +kernel
theorem ndD_read_33 : decode ncD_read 33 = .ok (.iload_n 1, 1) := by decide +kernel
theorem ndD_read_34 : decode ncD_read 34 = .ok (.aload_n 0, 1) := by decide +kernel
theorem ndD_read_35 : decode ncD_read 35 = .ok (.getfield 7, 3) := by decide +kernel
theorem ndD_read_38 : decode ncD_read 38 = .ok (.iload_n 2, 1) := by decide +kernel
theorem ndD_read_39 : decode ncD_read 39 = .ok (.iaload, 1) := by decide +kernel
theorem ndD_read_40 : decode ncD_read 40 = .ok (.invokestatic 52, 3) := by decide +kernel
theorem ndD_read_43 : decode ncD_read 43 = .ok (.istore_n 1, 1) := by decide +kernel
theorem ndD_read_44 : decode ncD_read 44 = .ok (.iinc 2 1, 3) := by decide +kernel
theorem ndD_read_47 : decode ncD_read 47 = .ok (.goto (-43), 3) := by decide +kernel
theorem ndD_read_50 : decode ncD_read 50 = .ok (.aload_n 0, 1) := by decide +kernel
theorem ndD_read_51 : decode ncD_read 51 = .ok (.aload_n 0, 1) := by decide +kernel
theorem ndD_read_52 : decode ncD_read 52 = .ok (.iconst 3, 1) := by decide +kernel
theorem ndD_read_53 : decode ncD_read 53 = .ok (.invokevirtual 45, 3) := by decide +kernel
theorem ndD_read_56 : decode ncD_read 56 = .ok (.putfield 39, 3) := by decide +kernel
theorem ndD_read_59 : decode ncD_read 59 = .ok (.aload_n 0, 1) := by decide +kernel
theorem ndD_read_60 : decode ncD_read 60 = .ok (.iconst 0, 1) := by decide +kernel
theorem ndD_read_61 : decode ncD_read 61 = .ok (.putfield 42, 3) := by decide +kernel
theorem ndD_read_64 : decode ncD_read 64 = .ok (.iconst 3, 1) := by decide +kernel
theorem ndD_read_65 : decode ncD_read 65 = .ok (.istore_n 2, 1) := by decide +kernel
theorem ndD_read_66 : decode ncD_read 66 = .ok (.iconst 1, 1) := by decide +kernel
theorem ndD_read_67 : decode ncD_read 67 = .ok (.istore_n 3, 1) := by decide +kernel
theorem ndD_read_68 : decode ncD_read 68 = .ok (.iload_n 3, 1) := by decide +kernel
theorem ndD_read_69 : decode ncD_read 69 = .ok (.ifCond .le 207, 3) := by decide +kernel
theorem ndD_read_72 : decode ncD_read 72 = .ok (.aload_n 0, 1) := by decide +kernel
theorem ndD_read_73 : decode ncD_read 73 = .ok (.getfield 39, 3) := by decide +kernel
theorem ndD_read_76 : decode ncD_read 76 = .ok (.iconst 2, 1) := by decide +kernel
theorem ndD_read_77 : decode ncD_read 77 = .ok (.if_icmp .ne 26, 3) := by decide +kernel
theorem ndD_read_80 : decode ncD_read 80 = .ok (.aload_n 0, 1) := by decide +kernel
theorem ndD_read_81 : decode ncD_read 81 = .ok (.getfield 42, 3) := by decide +kernel
theorem ndD_read_84 : decode ncD_read 84 = .ok (.iconst 3, 1) := by decide +kernel
theorem ndD_read_85 : decode ncD_read 85 = .ok (.if_icmp .le 18, 3) := by decide +kernel
theorem ndD_read_88 : decode ncD_read 88 = .ok (.aload_n 0, 1) := by decide +kernel
theorem ndD_read_89 : decode ncD_read 89 = .ok (.getfield 13, 3) := by decide +kernel
theorem ndD_read_92 : decode ncD_read 92 = .ok (.iconst 3, 1) := by decide +kernel
theorem ndD_read_93 : decode ncD_read 93 = .ok (.laload, 1) := by decide +kernel
theorem ndD_read_94 : decode ncD_read 94 = .ok (.lconst 0, 1) := by decide +kernel
theorem ndD_read_95 : decode ncD_read 95 = .ok (.lcmp, 1) := by decide +kernel
theorem ndD_read_96 : decode ncD_read 96 = .ok (.ifCond .ne 7, 3) := by decide +kernel
theorem ndD_read_99 : decode ncD_read 99 = .ok (.iconst 1, 1) := by decide +kernel
theorem ndD_read_100 : decode ncD_read 100 = .ok (.goto 4, 3) := by decide +kernel
theorem ndD_read_103 : decode ncD_read 103 = .ok (.iconst 0, 1) := by decide +kernel
theorem ndD_read_104 : decode ncD_read 104 = .ok (.istore 4, 2) := by decide +kernel
theorem ndD_read_106 : decode ncD_read 106 = .ok (.aload_n 0, 1) := by decide +kernel
theorem ndD_read_107 : decode ncD_read 107 = .ok (.getfield 13, 3) := by decide +kernel
theorem ndD_read_110 : decode ncD_read 110 = .ok (.aload_n 0, 1) := by decide +kernel
theorem ndD_read_111 : decode ncD_read 111 = .ok (.getfield 42, 3) := by decide +kernel
theorem ndD_read_114 : decode ncD_read 114 = .ok (.lconst 0, 1) := by decide +kernel
theorem ndD_read_115 : decode ncD_read 115 = .ok (.lastore, 1) := by decide +kernel
theorem ndD_read_116 : decode ncD_read 116 = .ok (.iconst 0, 1) := by decide +kernel
theorem ndD_read_117 : decode ncD_read 117 = .ok (.istore 5, 2) := by decide +kernel
theorem ndD_read_119 : decode ncD_read 119 = .ok (.iload 5, 2) := by decide +kernel
theorem ndD_read_121 : decode ncD_read 121 = .ok (.iload_n 3, 1) := by decide +kernel
theorem ndD_read_122 : decode ncD_read 122 = .ok (.invokestatic 55, 3) := by decide +kernel
theorem ndD_read_125 : decode ncD_read 125 = .ok (.if_icmp .ge 120, 3) := by decide +kernel
theorem ndD_read_128 : decode ncD_read 128 = .ok (.iload_n 2, 1) := by decide +kernel
theorem ndD_read_129 : decode ncD_read 129 = .ok (.aload_n 0, 1) := by decide +kernel
theorem ndD_read_130 : decode ncD_read 130 = .ok (.getfield 29, 3) := by decide +kernel
theorem ndD_read_133 : decode ncD_read 133 = .ok (.if_icmp .eq 18, 3) := by decide +kernel
theorem ndD_read_136 : decode ncD_read 136 = .ok (.iload_n 3, 1) := by decide +kernel
theorem ndD_read_137 : decode ncD_read 137 = .ok (.aload_n 0, 1) := by decide +kernel
theorem ndD_read_138 : decode ncD_read 138 = .ok (.getfield 7, 3) := by decide +kernel
theorem ndD_read_141 : decode ncD_read 141 = .ok (.iload_n 2, 1) := by decide +kernel
theorem ndD_read_142 : decode ncD_read 142 = .ok (.iaload, 1) := by decide +kernel
theorem ndD_read_143 : decode ncD_read 143 = .ok (.iload 4, 2) := by decide +kernel
theorem ndD_read_145 : decode ncD_read 145 = .ok (.invokestatic 58, 3) := by decide +kernel
theorem ndD_read_148 : decode ncD_read 148 = .ok (.ifCond .ne 9, 3) := by decide +kernel
theorem ndD_read_151 : decode ncD_read 151 = .ok (.aload_n 0, 1) := by decide +kernel
theorem ndD_read_152 : decode ncD_read 152 = .ok (.iload_n 2, 1) := by decide +kernel
theorem ndD_read_153 : decode ncD_read 153 = .ok (.invokevirtual 49, 3) := by decide +kernel
theorem ndD_read_156 : decode ncD_read 156 = .ok (.ireturn, 1) := by decide +kernel
theorem ndD_read_157 : decode ncD_read 157 = .ok (.aload_n 0, 1) := by decide +kernel
theorem ndD_read_158 : decode ncD_read 158 = .ok (.getfield 13, 3) := by decide +kernel
theorem ndD_read_161 : decode ncD_read 161 = .ok (.aload_n 0, 1) := by decide +kernel
theorem ndD_read_162 : decode ncD_read 162 = .ok (.getfield 42, 3) := by decide +kernel
theorem ndD_read_165 : decode ncD_read 165 = .ok (.iload_n 3, 1) := by decide +kernel
theorem ndD_read_166 : decode ncD_read 166 = .ok (.iconst 5, 1) := by decide +kernel
theorem ndD_read_167 : decode ncD_read 167 = .ok (.if_icmp .ne 22, 3) := by decide +kernel
theorem ndD_read_170 : decode ncD_read 170 = .ok (.aload_n 0, 1) := by decide +kernel
theorem ndD_read_171 : decode ncD_read 171 = .ok (.getfield 7, 3) := by decide +kernel
theorem ndD_read_174 : decode ncD_read 174 = .ok (.iload_n 2, 1) := by decide +kernel
theorem ndD_read_175 : decode ncD_read 175 = .ok (.iaload, 1) := by decide +kernel
theorem ndD_read_176 : decode ncD_read 176 = .ok (.bipush 83, 2) := by decide +kernel
theorem ndD_read_178 : decode ncD_read 178 = .ok (.if_icmp .ne 7, 3) := by decide +kernel
theorem ndD_read_181 : decode ncD_read 181 = .ok (.lconst 1, 1) := by decide +kernel
theorem ndD_read_182 : decode ncD_read 182 = .ok (.goto 41, 3) := by decide +kernel
theorem ndD_read_185 : decode ncD_read 185 = .ok (.lconst 0, 1) := by decide +kernel
theorem ndD_read_186 : decode ncD_read 186 = .ok (.goto 37, 3) := by decide +kernel
theorem ndD_read_189 : decode ncD_read 189 = .ok (.aload_n 0, 1) := by decide +kernel
theorem ndD_read_190 : decode ncD_read 190 = .ok (.getfield 13, 3) := by decide +kernel
theorem ndD_read_193 : decode ncD_read 193 = .ok (.aload_n 0, 1) := by decide +kernel
theorem ndD_read_194 : decode ncD_read 194 = .ok (.getfield 42, 3) := by decide +kernel
theorem ndD_read_197 : decode ncD_read 197 = .ok (.laload, 1) := by decide +kernel
theorem ndD_read_198 : decode ncD_read 198 = .ok (.iload_n 3, 1) := by decide +kernel
theorem ndD_read_199 : decode ncD_read 199 = .ok (.iconst 4, 1) := by decide +kernel
theorem ndD_read_200 : decode ncD_read 200 = .ok (.if_icmp .ge 8, 3) := by decide +kernel
theorem ndD_read_203 : decode ncD_read 203 = .ok (.bipush 36, 2) := by decide +kernel
theorem ndD_read_205 : decode ncD_read 205 = .ok (.goto 5, 3) := by decide +kernel
theorem ndD_read_208 : decode ncD_read 208 = .ok (.bipush 10, 2) := by decide +kernel
theorem ndD_read_210 : decode ncD_read 210 = .ok (.i2l, 1) := by decide +kernel
theorem ndD_read_211 : decode ncD_read 211 = .ok (.lmul, 1) := by decide +kernel
theorem ndD_read_212 : decode ncD_read 212 = .ok (.aload_n 0, 1) := by decide +kernel
theorem ndD_read_213 : decode ncD_read 213 = .ok (.getfield 7, 3) := by decide +kernel
theorem ndD_read_216 : decode ncD_read 216 = .ok (.iload_n 2, 1) := by decide +kernel
theorem ndD_read_217 : decode ncD_read 217 = .ok (.iaload, 1) := by decide +kernel
theorem ndD_read_218 : decode ncD_read 218 = .ok (.invokestatic 62, 3) := by decide +kernel
theorem ndD_read_221 : decode ncD_read 221 = .ok (.i2l, 1) := by decide +kernel
theorem ndD_read_222 : decode ncD_read 222 = .ok (.ladd, 1) := by decide +kernel
theorem ndD_read_223 : decode ncD_read 223 = .ok (.lastore, 1) := by decide +kernel
theorem ndD_read_224 : decode ncD_read 224 = .ok (.iload_n 1, 1) := by decide +kernel
theorem ndD_read_225 : decode ncD_read 225 = .ok (.aload_n 0, 1) := by decide +kernel
theorem ndD_read_226 : decode ncD_read 226 = .ok (.getfield 7, 3) := by decide +kernel
theorem ndD_read_229 : decode ncD_read 229 = .ok (.iload_n 2, 1) := by decide +kernel
theorem ndD_read_230 : decode ncD_read 230 = .ok (.iaload, 1) := by decide +kernel
theorem ndD_read_231 : decode ncD_read 231 = .ok (.invokestatic 52, 3) := by decide +kernel
theorem ndD_read_234 : decode ncD_read 234 = .ok (.istore_n 1, 1) := by decide +kernel
theorem ndD_read_235 : decode ncD_read 235 = .ok (.iload_n 2, 1) := by decide +kernel
theorem ndD_read_236 : decode ncD_read 236 = .ok (.iconst 1, 1) := by decide +kernel
theorem ndD_read_237 : decode ncD_read 237 = .ok (.iadd, 1) := by decide +kernel
theorem ndD_read_238 : decode ncD_read 238 = .ok (.istore_n 2, 1) := by decide +kernel
theorem ndD_read_239 : decode ncD_read 239 = .ok (.iinc 5 1, 3) := by decide +kernel
theorem ndD_read_242 : decode ncD_read 242 = .ok (.goto (-123), 3) := by decide +kernel
theorem ndD_read_245 : decode ncD_read 245 = .ok (.aload_n 0, 1) := by decide +kernel
theorem ndD_read_246 : decode ncD_read 246 = .ok (.aload_n 0, 1) := by decide +kernel
theorem ndD_read_247 : decode ncD_read 247 = .ok (.getfield 42, 3) := by decide +kernel
theorem ndD_read_250 : decode ncD_read 250 = .ok (.iconst 1, 1) := by decide +kernel
theorem ndD_read_251 : decode ncD_read 251 = .ok (.iadd, 1) := by decide +kernel
theorem ndD_read_252 : decode ncD_read 252 = .ok (.putfield 42, 3) := by decide +kernel
theorem ndD_read_255 : decode ncD_read 255 = .ok (.aload_n 0, 1) := by decide +kernel
theorem ndD_read_256 : decode ncD_read 256 = .ok (.getfield 39, 3) := by decide +kernel
theorem ndD_read_259 : decode ncD_read 259 = .ok (.aload_n 0, 1) := by decide +kernel
theorem ndD_read_260 : decode ncD_read 260 = .ok (.getfield 42, 3) := by decide +kernel
theorem ndD_read_263 : decode ncD_read 263 = .ok (.aload_n 0, 1) := by decide +kernel
theorem ndD_read_264 : decode ncD_read 264 = .ok (.getfield 13, 3) := by decide +kernel
theorem ndD_read_267 : decode ncD_read 267 = .ok (.iconst 3, 1) := by decide +kernel
theorem ndD_read_268 : decode ncD_read 268 = .ok (.laload, 1) := by decide +kernel
theorem ndD_read_269 : decode ncD_read 269 = .ok (.invokestatic 65, 3) := by decide +kernel
theorem ndD_read_272 : decode ncD_read 272 = .ok (.istore_n 3, 1) := by decide +kernel
theorem ndD_read_273 : decode ncD_read 273 = .ok (.goto (-205), 3) := by decide +kernel
theorem ndD_read_276 : decode ncD_read 276 = .ok (.iconst 0, 1) := by decide +kernel
theorem ndD_read_277 : decode ncD_read 277 = .ok (.istore 4, 2) := by decide +kernel
theorem ndD_read_279 : decode ncD_read 279 = .ok (.iload 4, 2) := by decide +kernel
theorem ndD_read_281 : decode ncD_read 281 = .ok (.iconst 2, 1) := by decide +kernel
theorem ndD_read_282 : decode ncD_read 282 = .ok (.if_icmp .ge 71, 3) := by decide +kernel
theorem ndD_read_285 : decode ncD_read 285 = .ok (.iload_n 2, 1) := by decide +kernel
theorem ndD_read_286 : decode ncD_read 286 = .ok (.iload 4, 2) := by decide +kernel
theorem ndD_read_288 : decode ncD_read 288 = .ok (.iadd, 1) := by decide +kernel
theorem ndD_read_289 : decode ncD_read 289 = .ok (.aload_n 0, 1) := by decide +kernel
theorem ndD_read_290 : decode ncD_read 290 = .ok (.getfield 29, 3) := by decide +kernel
theorem ndD_read_293 : decode ncD_read 293 = .ok (.if_icmp .ge 31, 3) := by decide +kernel
theorem ndD_read_296 : decode ncD_read 296 = .ok (.aload_n 0, 1) := by decide +kernel
theorem ndD_read_297 : decode ncD_read 297 = .ok (.getfield 7, 3) := by decide +kernel
theorem ndD_read_300 : decode ncD_read 300 = .ok (.iload_n 2, 1) := by decide +kernel
theorem ndD_read_301 : decode ncD_read 301 = .ok (.iload 4, 2) := by decide +kernel
theorem ndD_read_303 : decode ncD_read 303 = .ok (.iadd, 1) := by decide +kernel
theorem ndD_read_304 : decode ncD_read 304 = .ok (.iaload, 1) := by decide +kernel
theorem ndD_read_305 : decode ncD_read 305 = .ok (.bipush 48, 2) := by decide +kernel
theorem ndD_read_307 : decode ncD_read 307 = .ok (.if_icmp .lt 17, 3) := by decide +kernel
theorem ndD_read_310 : decode ncD_read 310 = .ok (.aload_n 0, 1) := by decide +kernel
theorem ndD_read_311 : decode ncD_read 311 = .ok (.getfield 7, 3) := by decide +kernel
theorem ndD_read_314 : decode ncD_read 314 = .ok (.iload_n 2, 1) := by decide +kernel
theorem ndD_read_315 : decode ncD_read 315 = .ok (.iload 4, 2) := by decide +kernel
theorem ndD_read_317 : decode ncD_read 317 = .ok (.iadd, 1) := by decide +kernel
theorem ndD_read_318 : decode ncD_read 318 = .ok (.iaload, 1) := by decide +kernel
theorem ndD_read_319 : decode ncD_read 319 = .ok (.bipush 57, 2) := by decide +kernel
theorem ndD_read_321 : decode ncD_read 321 = .ok (.if_icmp .le 12, 3) := by decide +kernel
theorem ndD_read_324 : decode ncD_read 324 = .ok (.aload_n 0, 1) := by decide +kernel
theorem ndD_read_325 : decode ncD_read 325 = .ok (.iload_n 2, 1) := by decide +kernel
theorem ndD_read_326 : decode ncD_read 326 = .ok (.iload 4, 2) := by decide +kernel
theorem ndD_read_328 : decode ncD_read 328 = .ok (.iadd, 1) := by decide +kernel
theorem ndD_read_329 : decode ncD_read 329 = .ok (.invokevirtual 49, 3) := by decide +kernel
theorem ndD_read_332 : decode ncD_read 332 = .ok (.ireturn, 1) := by decide +kernel
theorem ndD_read_333 : decode ncD_read 333 = .ok (.iload_n 1, 1) := by decide +kernel
theorem ndD_read_334 : decode ncD_read 334 = .ok (.aload_n 0, 1) := by decide +kernel
theorem ndD_read_335 : decode ncD_read 335 = .ok (.getfield 7, 3) := by decide +kernel
theorem ndD_read_338 : decode ncD_read 338 = .ok (.iload_n 2, 1) := by decide +kernel
theorem ndD_read_339 : decode ncD_read 339 = .ok (.iload 4, 2) := by decide +kernel
theorem ndD_read_341 : decode ncD_read 341 = .ok (.iadd, 1) := by decide +kernel
theorem ndD_read_342 : decode ncD_read 342 = .ok (.iaload, 1) := by decide +kernel
theorem ndD_read_343 : decode ncD_read 343 = .ok (.invokestatic 52, 3) := by decide +kernel
theorem ndD_read_346 : decode ncD_read 346 = .ok (.istore_n 1, 1) := by decide +kernel
theorem ndD_read_347 : decode ncD_read 347 = .ok (.iinc 4 1, 3) := by decide +kernel
theorem ndD_read_350 : decode ncD_read 350 = .ok (.goto (-71), 3) := by decide +kernel
theorem ndD_read_353 : decode ncD_read 353 = .ok (.aload_n 0, 1) := by decide +kernel
theorem ndD_read_354 : decode ncD_read 354 = .ok (.getfield 29, 3) := by decide +kernel
theorem ndD_read_357 : decode ncD_read 357 = .ok (.iload_n 2, 1) := by decide +kernel
theorem ndD_read_358 : decode ncD_read 358 = .ok (.iconst 2, 1) := by decide +kernel
theorem ndD_read_359 : decode ncD_read 359 = .ok (.iadd, 1) := by decide +kernel
theorem ndD_read_360 : decode ncD_read 360 = .ok (.if_icmp .le 11, 3) := by decide +kernel
theorem ndD_read_363 : decode ncD_read 363 = .ok (.aload_n 0, 1) := by decide +kernel
theorem ndD_read_364 : decode ncD_read 364 = .ok (.iload_n 2, 1) := by decide +kernel
theorem ndD_read_365 : decode ncD_read 365 = .ok (.iconst 2, 1) := by decide +kernel
theorem ndD_read_366 : decode ncD_read 366 = .ok (.iadd, 1) := by decide +kernel
theorem ndD_read_367 : decode ncD_read 367 = .ok (.invokevirtual 49, 3) := by decide +kernel
theorem ndD_read_370 : decode ncD_read 370 = .ok (.ireturn, 1) := by decide +kernel
theorem ndD_read_371 : decode ncD_read 371 = .ok (.iload_n 1, 1) := by decide +kernel
theorem ndD_read_372 : decode ncD_read 372 = .ok (.iconst 1, 1) := by decide +kernel
theorem ndD_read_373 : decode ncD_read 373 = .ok (.if_icmp .eq 9, 3) := by decide +kernel
theorem ndD_read_376 : decode ncD_read 376 = .ok (.aload_n 0, 1) := by decide +kernel
theorem ndD_read_377 : decode ncD_read 377 = .ok (.iload_n 2, 1) := by decide +kernel
theorem ndD_read_378 : decode ncD_read 378 = .ok (.invokevirtual 49, 3) := by decide +kernel
theorem ndD_read_381 : decode ncD_read 381 = .ok (.ireturn, 1) := by decide +kernel
theorem ndD_read_382 : decode ncD_read 382 = .ok (.aload_n 0, 1) := by decide +kernel
theorem ndD_read_383 : decode ncD_read 383 = .ok (.iconst 0, 1) := by decide +kernel
theorem ndD_read_384 : decode ncD_read 384 = .ok (.putfield 29, 3) := by decide +kernel
theorem ndD_read_387 : decode ncD_read 387 = .ok (.aload_n 0, 1) := by decide +kernel
theorem ndD_read_388 : decode ncD_read 388 = .ok (.getfield 39, 3) := by decide +kernel
theorem ndD_read_391 : decode ncD_read 391 = .ok (.ireturn, 1) := by decide +kernel
theorem ndD_fields_0 : decode ncD_fields 0 = .ok (.aload_n 0, 1) := by decide +kernel
theorem ndD_fields_1 : decode ncD_fields 1 = .ok (.getfield 42, 3) := by decide +kernel
theorem ndD_fields_4 : decode ncD_fields 4 = .ok (.ireturn, 1) := by decide +kernel
theorem ndD_sort_0 : decode ncD_sort 0 = .ok (.iload_n 1, 1) := by decide +kernel
theorem ndD_sort_1 : decode ncD_sort 1 = .ok (.ifCond .lt 28, 3) := by decide +kernel
theorem ndD_sort_4 : decode ncD_sort 4 = .ok (.iload_n 1, 1) := by decide +kernel
theorem ndD_sort_5 : decode ncD_sort 5 = .ok (.aload_n 0, 1) := by decide +kernel
theorem ndD_sort_6 : decode ncD_sort 6 = .ok (.getfield 42, 3) := by decide +kernel
theorem ndD_sort_9 : decode ncD_sort 9 = .ok (.if_icmp .ge 20, 3) := by decide +kernel
theorem ndD_sort_12 : decode ncD_sort 12 = .ok (.aload_n 0, 1) := by decide +kernel
theorem ndD_sort_13 : decode ncD_sort 13 = .ok (.getfield 39, 3) := by decide +kernel
theorem ndD_sort_16 : decode ncD_sort 16 = .ok (.iload_n 1, 1) := by decide +kernel
theorem ndD_sort_17 : decode ncD_sort 17 = .ok (.aload_n 0, 1) := by decide +kernel
theorem ndD_sort_18 : decode ncD_sort 18 = .ok (.getfield 13, 3) := by decide +kernel
theorem ndD_sort_21 : decode ncD_sort 21 = .ok (.iconst 3, 1) := by decide +kernel
theorem ndD_sort_22 : decode ncD_sort 22 = .ok (.laload, 1) := by decide +kernel
theorem ndD_sort_23 : decode ncD_sort 23 = .ok (.invokestatic 65, 3) := by decide +kernel
theorem ndD_sort_26 : decode ncD_sort 26 = .ok (.goto 4, 3) := by decide +kernel
theorem ndD_sort_29 : decode ncD_sort 29 = .ok (.iconst 0, 1) := by decide +kernel
theorem ndD_sort_30 : decode ncD_sort 30 = .ok (.ireturn, 1) := by decide +kernel
theorem ndD_number_0 : decode ncD_number 0 = .ok (.iload_n 1, 1) := by decide +kernel
theorem ndD_number_1 : decode ncD_number 1 = .ok (.ifCond .lt 20, 3) := by decide +kernel
theorem ndD_number_4 : decode ncD_number 4 = .ok (.iload_n 1, 1) := by decide +kernel
theorem ndD_number_5 : decode ncD_number 5 = .ok (.aload_n 0, 1) := by decide +kernel
theorem ndD_number_6 : decode ncD_number 6 = .ok (.getfield 42, 3) := by decide +kernel
theorem ndD_number_9 : decode ncD_number 9 = .ok (.if_icmp .ge 12, 3) := by decide +kernel
theorem ndD_number_12 : decode ncD_number 12 = .ok (.aload_n 0, 1) := by decide +kernel
theorem ndD_number_13 : decode ncD_number 13 = .ok (.getfield 13, 3) := by decide +kernel
theorem ndD_number_16 : decode ncD_number 16 = .ok (.iload_n 1, 1) := by decide +kernel
theorem ndD_number_17 : decode ncD_number 17 = .ok (.laload, 1) := by decide +kernel
theorem ndD_number_18 : decode ncD_number 18 = .ok (.goto 6, 3) := by decide +kernel
theorem ndD_number_21 : decode ncD_number 21 = .ok (.ldc2_w 69, 3) := by decide +kernel
theorem ndD_number_24 : decode ncD_number 24 = .ok (.lreturn, 1) := by decide +kernel
theorem ndD_lay_0 : decode ncD_lay 0 = .ok (.aload_n 0, 1) := by decide +kernel
theorem ndD_lay_1 : decode ncD_lay 1 = .ok (.getfield 17, 3) := by decide +kernel
theorem ndD_lay_4 : decode ncD_lay 4 = .ok (.aload_n 0, 1) := by decide +kernel
theorem ndD_lay_5 : decode ncD_lay 5 = .ok (.getfield 71, 3) := by decide +kernel
theorem ndD_lay_8 : decode ncD_lay 8 = .ok (.iload_n 1, 1) := by decide +kernel
theorem ndD_lay_9 : decode ncD_lay 9 = .ok (.iastore, 1) := by decide +kernel
theorem ndD_lay_10 : decode ncD_lay 10 = .ok (.aload_n 0, 1) := by decide +kernel
theorem ndD_lay_11 : decode ncD_lay 11 = .ok (.aload_n 0, 1) := by decide +kernel
theorem ndD_lay_12 : decode ncD_lay 12 = .ok (.getfield 71, 3) := by decide +kernel
theorem ndD_lay_15 : decode ncD_lay 15 = .ok (.iconst 1, 1) := by decide +kernel
theorem ndD_lay_16 : decode ncD_lay 16 = .ok (.iadd, 1) := by decide +kernel
theorem ndD_lay_17 : decode ncD_lay 17 = .ok (.putfield 71, 3) := by decide +kernel
theorem ndD_lay_20 : decode ncD_lay 20 = .ok (.return_, 1) := by decide +kernel
theorem ndD_begin_0 : decode ncD_begin 0 = .ok (.iload_n 1, 1) := by decide +kernel
theorem ndD_begin_1 : decode ncD_begin 1 = .ok (.iconst 1, 1) := by decide +kernel
theorem ndD_begin_2 : decode ncD_begin 2 = .ok (.if_icmp .lt 9, 3) := by decide +kernel
theorem ndD_begin_5 : decode ncD_begin 5 = .ok (.iload_n 1, 1) := by decide +kernel
theorem ndD_begin_6 : decode ncD_begin 6 = .ok (.bipush 15, 2) := by decide +kernel
theorem ndD_begin_8 : decode ncD_begin 8 = .ok (.if_icmp .le 5, 3) := by decide +kernel
theorem ndD_begin_11 : decode ncD_begin 11 = .ok (.iconst 0, 1) := by decide +kernel
theorem ndD_begin_12 : decode ncD_begin 12 = .ok (.ireturn, 1) := by decide +kernel
theorem ndD_begin_13 : decode ncD_begin 13 = .ok (.aload_n 0, 1) := by decide +kernel
theorem ndD_begin_14 : decode ncD_begin 14 = .ok (.iload_n 1, 1) := by decide +kernel
theorem ndD_begin_15 : decode ncD_begin 15 = .ok (.putfield 74, 3) := by decide +kernel
theorem ndD_begin_18 : decode ncD_begin 18 = .ok (.aload_n 0, 1) := by decide +kernel
theorem ndD_begin_19 : decode ncD_begin 19 = .ok (.iconst 0, 1) := by decide +kernel
theorem ndD_begin_20 : decode ncD_begin 20 = .ok (.putfield 77, 3) := by decide +kernel
theorem ndD_begin_23 : decode ncD_begin 23 = .ok (.aload_n 0, 1) := by decide +kernel
theorem ndD_begin_24 : decode ncD_begin 24 = .ok (.iconst 0, 1) := by decide +kernel
theorem ndD_begin_25 : decode ncD_begin 25 = .ok (.putfield 71, 3) := by decide +kernel
theorem ndD_begin_28 : decode ncD_begin 28 = .ok (.aload_n 0, 1) := by decide +kernel
theorem ndD_begin_29 : decode ncD_begin 29 = .ok (.iconst 0, 1) := by decide +kernel
theorem ndD_begin_30 : decode ncD_begin 30 = .ok (.putfield 81, 3) := by decide +kernel
theorem ndD_begin_33 : decode ncD_begin 33 = .ok (.iconst 0, 1) := by decide +kernel
theorem ndD_begin_34 : decode ncD_begin 34 = .ok (.istore_n 2, 1) := by decide +kernel
theorem ndD_begin_35 : decode ncD_begin 35 = .ok (.iload_n 2, 1) := by decide +kernel
theorem ndD_begin_36 : decode ncD_begin 36 = .ok (.iconst 3, 1) := by decide +kernel
theorem ndD_begin_37 : decode ncD_begin 37 = .ok (.if_icmp .ge 18, 3) := by decide +kernel
theorem ndD_begin_40 : decode ncD_begin 40 = .ok (.aload_n 0, 1) := by decide +kernel
theorem ndD_begin_41 : decode ncD_begin 41 = .ok (.iload_n 1, 1) := by decide +kernel
theorem ndD_begin_42 : decode ncD_begin 42 = .ok (.iload_n 2, 1) := by decide +kernel
theorem ndD_begin_43 : decode ncD_begin 43 = .ok (.invokestatic 35, 3) := by decide +kernel
theorem ndD_begin_46 : decode ncD_begin 46 = .ok (.invokevirtual 84, 3) := by decide +kernel
theorem ndD_begin_49 : decode ncD_begin 49 = .ok (.iinc 2 1, 3) := by decide +kernel
theorem ndD_begin_52 : decode ncD_begin 52 = .ok (.goto (-17), 3) := by decide +kernel
theorem ndD_begin_55 : decode ncD_begin 55 = .ok (.iconst 1, 1) := by decide +kernel
theorem ndD_begin_56 : decode ncD_begin 56 = .ok (.ireturn, 1) := by decide +kernel
theorem ndD_most_0 : decode ncD_most 0 = .ok (.iload_n 0, 1) := by decide +kernel
theorem ndD_most_1 : decode ncD_most 1 = .ok (.tableswitch 69 1 7 #[43, 47, 51, 55, 59, 61, 65], 43) := by decide +kernel
theorem ndD_most_44 : decode ncD_most 44 = .ok (.ldc2_w 88, 3) := by decide +kernel
theorem ndD_most_47 : decode ncD_most 47 = .ok (.lreturn, 1) := by decide +kernel
theorem ndD_most_48 : decode ncD_most 48 = .ok (.ldc2_w 90, 3) := by decide +kernel
theorem ndD_most_51 : decode ncD_most 51 = .ok (.lreturn, 1) := by decide +kernel
theorem ndD_most_52 : decode ncD_most 52 = .ok (.ldc2_w 92, 3) := by decide +kernel
theorem ndD_most_55 : decode ncD_most 55 = .ok (.lreturn, 1) := by decide +kernel
theorem ndD_most_56 : decode ncD_most 56 = .ok (.ldc2_w 94, 3) := by decide +kernel
theorem ndD_most_59 : decode ncD_most 59 = .ok (.lreturn, 1) := by decide +kernel
theorem ndD_most_60 : decode ncD_most 60 = .ok (.lconst 1, 1) := by decide +kernel
theorem ndD_most_61 : decode ncD_most 61 = .ok (.lreturn, 1) := by decide +kernel
theorem ndD_most_62 : decode ncD_most 62 = .ok (.ldc2_w 96, 3) := by decide +kernel
theorem ndD_most_65 : decode ncD_most 65 = .ok (.lreturn, 1) := by decide +kernel
theorem ndD_most_66 : decode ncD_most 66 = .ok (.ldc2_w 98, 3) := by decide +kernel
theorem ndD_most_69 : decode ncD_most 69 = .ok (.lreturn, 1) := by decide +kernel
theorem ndD_most_70 : decode ncD_most 70 = .ok (.ldc2_w 23, 3) := by decide +kernel
theorem ndD_most_73 : decode ncD_most 73 = .ok (.lreturn, 1) := by decide +kernel
theorem ndD_nextSort_0 : decode ncD_nextSort 0 = .ok (.aload_n 0, 1) := by decide +kernel
theorem ndD_nextSort_1 : decode ncD_nextSort 1 = .ok (.getfield 74, 3) := by decide +kernel
theorem ndD_nextSort_4 : decode ncD_nextSort 4 = .ok (.ifCond .ne 7, 3) := by decide +kernel
theorem ndD_nextSort_7 : decode ncD_nextSort 7 = .ok (.iconst 0, 1) := by decide +kernel
theorem ndD_nextSort_8 : decode ncD_nextSort 8 = .ok (.goto 20, 3) := by decide +kernel
theorem ndD_nextSort_11 : decode ncD_nextSort 11 = .ok (.aload_n 0, 1) := by decide +kernel
theorem ndD_nextSort_12 : decode ncD_nextSort 12 = .ok (.getfield 74, 3) := by decide +kernel
theorem ndD_nextSort_15 : decode ncD_nextSort 15 = .ok (.aload_n 0, 1) := by decide +kernel
theorem ndD_nextSort_16 : decode ncD_nextSort 16 = .ok (.getfield 81, 3) := by decide +kernel
theorem ndD_nextSort_19 : decode ncD_nextSort 19 = .ok (.aload_n 0, 1) := by decide +kernel
theorem ndD_nextSort_20 : decode ncD_nextSort 20 = .ok (.getfield 20, 3) := by decide +kernel
theorem ndD_nextSort_23 : decode ncD_nextSort 23 = .ok (.iconst 3, 1) := by decide +kernel
theorem ndD_nextSort_24 : decode ncD_nextSort 24 = .ok (.laload, 1) := by decide +kernel
theorem ndD_nextSort_25 : decode ncD_nextSort 25 = .ok (.invokestatic 65, 3) := by decide +kernel
theorem ndD_nextSort_28 : decode ncD_nextSort 28 = .ok (.ireturn, 1) := by decide +kernel
theorem ndD_add_0 : decode ncD_add 0 = .ok (.aload_n 0, 1) := by decide +kernel
theorem ndD_add_1 : decode ncD_add 1 = .ok (.invokevirtual 100, 3) := by decide +kernel
theorem ndD_add_4 : decode ncD_add 4 = .ok (.istore_n 3, 1) := by decide +kernel
theorem ndD_add_5 : decode ncD_add 5 = .ok (.aload_n 0, 1) := by decide +kernel
theorem ndD_add_6 : decode ncD_add 6 = .ok (.getfield 74, 3) := by decide +kernel
theorem ndD_add_9 : decode ncD_add 9 = .ok (.iconst 2, 1) := by decide +kernel
theorem ndD_add_10 : decode ncD_add 10 = .ok (.if_icmp .ne 26, 3) := by decide +kernel
theorem ndD_add_13 : decode ncD_add 13 = .ok (.aload_n 0, 1) := by decide +kernel
theorem ndD_add_14 : decode ncD_add 14 = .ok (.getfield 81, 3) := by decide +kernel
theorem ndD_add_17 : decode ncD_add 17 = .ok (.iconst 3, 1) := by decide +kernel
theorem ndD_add_18 : decode ncD_add 18 = .ok (.if_icmp .le 18, 3) := by decide +kernel
theorem ndD_add_21 : decode ncD_add 21 = .ok (.aload_n 0, 1) := by decide +kernel
theorem ndD_add_22 : decode ncD_add 22 = .ok (.getfield 20, 3) := by decide +kernel
theorem ndD_add_25 : decode ncD_add 25 = .ok (.iconst 3, 1) := by decide +kernel
theorem ndD_add_26 : decode ncD_add 26 = .ok (.laload, 1) := by decide +kernel
theorem ndD_add_27 : decode ncD_add 27 = .ok (.lconst 0, 1) := by decide +kernel
theorem ndD_add_28 : decode ncD_add 28 = .ok (.lcmp, 1) := by decide +kernel
theorem ndD_add_29 : decode ncD_add 29 = .ok (.ifCond .ne 7, 3) := by decide +kernel
theorem ndD_add_32 : decode ncD_add 32 = .ok (.iconst 1, 1) := by decide +kernel
theorem ndD_add_33 : decode ncD_add 33 = .ok (.goto 4, 3) := by decide +kernel
theorem ndD_add_36 : decode ncD_add 36 = .ok (.iconst 0, 1) := by decide +kernel
theorem ndD_add_37 : decode ncD_add 37 = .ok (.istore 4, 2) := by decide +kernel
theorem ndD_add_39 : decode ncD_add 39 = .ok (.iload_n 3, 1) := by decide +kernel
theorem ndD_add_40 : decode ncD_add 40 = .ok (.ifCond .eq 39, 3) := by decide +kernel
theorem ndD_add_43 : decode ncD_add 43 = .ok (.lload_n 1, 1) := by decide +kernel
theorem ndD_add_44 : decode ncD_add 44 = .ok (.iload_n 3, 1) := by decide +kernel
theorem ndD_add_45 : decode ncD_add 45 = .ok (.bipush 6, 2) := by decide +kernel
theorem ndD_add_47 : decode ncD_add 47 = .ok (.if_icmp .le 7, 3) := by decide +kernel
theorem ndD_add_50 : decode ncD_add 50 = .ok (.lconst 1, 1) := by decide +kernel
theorem ndD_add_51 : decode ncD_add 51 = .ok (.goto 4, 3) := by decide +kernel
theorem ndD_add_54 : decode ncD_add 54 = .ok (.lconst 0, 1) := by decide +kernel
theorem ndD_add_55 : decode ncD_add 55 = .ok (.lcmp, 1) := by decide +kernel
theorem ndD_add_56 : decode ncD_add 56 = .ok (.ifCond .lt 23, 3) := by decide +kernel
theorem ndD_add_59 : decode ncD_add 59 = .ok (.lload_n 1, 1) := by decide +kernel
theorem ndD_add_60 : decode ncD_add 60 = .ok (.iload_n 3, 1) := by decide +kernel
theorem ndD_add_61 : decode ncD_add 61 = .ok (.invokestatic 104, 3) := by decide +kernel
theorem ndD_add_64 : decode ncD_add 64 = .ok (.lcmp, 1) := by decide +kernel
theorem ndD_add_65 : decode ncD_add 65 = .ok (.ifCond .gt 14, 3) := by decide +kernel
theorem ndD_add_68 : decode ncD_add 68 = .ok (.iload 4, 2) := by decide +kernel
theorem ndD_add_70 : decode ncD_add 70 = .ok (.ifCond .eq 11, 3) := by decide +kernel
theorem ndD_add_73 : decode ncD_add 73 = .ok (.lload_n 1, 1) := by decide +kernel
theorem ndD_add_74 : decode ncD_add 74 = .ok (.lconst 0, 1) := by decide +kernel
theorem ndD_add_75 : decode ncD_add 75 = .ok (.lcmp, 1) := by decide +kernel
theorem ndD_add_76 : decode ncD_add 76 = .ok (.ifCond .eq 5, 3) := by decide +kernel
theorem ndD_add_79 : decode ncD_add 79 = .ok (.iconst 0, 1) := by decide +kernel
theorem ndD_add_80 : decode ncD_add 80 = .ok (.ireturn, 1) := by decide +kernel
theorem ndD_add_81 : decode ncD_add 81 = .ok (.aload_n 0, 1) := by decide +kernel
theorem ndD_add_82 : decode ncD_add 82 = .ok (.getfield 20, 3) := by decide +kernel
theorem ndD_add_85 : decode ncD_add 85 = .ok (.aload_n 0, 1) := by decide +kernel
theorem ndD_add_86 : decode ncD_add 86 = .ok (.getfield 81, 3) := by decide +kernel
theorem ndD_add_89 : decode ncD_add 89 = .ok (.lload_n 1, 1) := by decide +kernel
theorem ndD_add_90 : decode ncD_add 90 = .ok (.lastore, 1) := by decide +kernel
theorem ndD_add_91 : decode ncD_add 91 = .ok (.aload_n 0, 1) := by decide +kernel
theorem ndD_add_92 : decode ncD_add 92 = .ok (.aload_n 0, 1) := by decide +kernel
theorem ndD_add_93 : decode ncD_add 93 = .ok (.getfield 81, 3) := by decide +kernel
theorem ndD_add_96 : decode ncD_add 96 = .ok (.iconst 1, 1) := by decide +kernel
theorem ndD_add_97 : decode ncD_add 97 = .ok (.iadd, 1) := by decide +kernel
theorem ndD_add_98 : decode ncD_add 98 = .ok (.putfield 81, 3) := by decide +kernel
theorem ndD_add_101 : decode ncD_add 101 = .ok (.iload_n 3, 1) := by decide +kernel
theorem ndD_add_102 : decode ncD_add 102 = .ok (.iconst 4, 1) := by decide +kernel
theorem ndD_add_103 : decode ncD_add 103 = .ok (.if_icmp .ge 9, 3) := by decide +kernel
theorem ndD_add_106 : decode ncD_add 106 = .ok (.ldc2_w 108, 3) := by decide +kernel
theorem ndD_add_109 : decode ncD_add 109 = .ok (.goto 6, 3) := by decide +kernel
theorem ndD_add_112 : decode ncD_add 112 = .ok (.ldc2_w 110, 3) := by decide +kernel
theorem ndD_add_115 : decode ncD_add 115 = .ok (.lstore 5, 2) := by decide +kernel
theorem ndD_add_117 : decode ncD_add 117 = .ok (.iload_n 3, 1) := by decide +kernel
theorem ndD_add_118 : decode ncD_add 118 = .ok (.invokestatic 55, 3) := by decide +kernel
theorem ndD_add_121 : decode ncD_add 121 = .ok (.iconst 1, 1) := by decide +kernel
theorem ndD_add_122 : decode ncD_add 122 = .ok (.isub, 1) := by decide +kernel
theorem ndD_add_123 : decode ncD_add 123 = .ok (.istore 7, 2) := by decide +kernel
theorem ndD_add_125 : decode ncD_add 125 = .ok (.iload 7, 2) := by decide +kernel
theorem ndD_add_127 : decode ncD_add 127 = .ok (.ifCond .lt 91, 3) := by decide +kernel
theorem ndD_add_130 : decode ncD_add 130 = .ok (.lload_n 1, 1) := by decide +kernel
theorem ndD_add_131 : decode ncD_add 131 = .ok (.lstore 8, 2) := by decide +kernel
theorem ndD_add_133 : decode ncD_add 133 = .ok (.iconst 0, 1) := by decide +kernel
theorem ndD_add_134 : decode ncD_add 134 = .ok (.istore 10, 2) := by decide +kernel
theorem ndD_add_136 : decode ncD_add 136 = .ok (.iload 10, 2) := by decide +kernel
theorem ndD_add_138 : decode ncD_add 138 = .ok (.iload 7, 2) := by decide +kernel
theorem ndD_add_140 : decode ncD_add 140 = .ok (.if_icmp .ge 16, 3) := by decide +kernel
theorem ndD_add_143 : decode ncD_add 143 = .ok (.lload 8, 2) := by decide +kernel
theorem ndD_add_145 : decode ncD_add 145 = .ok (.lload 5, 2) := by decide +kernel
theorem ndD_add_147 : decode ncD_add 147 = .ok (.ldiv, 1) := by decide +kernel
theorem ndD_add_148 : decode ncD_add 148 = .ok (.lstore 8, 2) := by decide +kernel
theorem ndD_add_150 : decode ncD_add 150 = .ok (.iinc 10 1, 3) := by decide +kernel
theorem ndD_add_153 : decode ncD_add 153 = .ok (.goto (-17), 3) := by decide +kernel
theorem ndD_add_156 : decode ncD_add 156 = .ok (.lload 8, 2) := by decide +kernel
theorem ndD_add_158 : decode ncD_add 158 = .ok (.lload 5, 2) := by decide +kernel
theorem ndD_add_160 : decode ncD_add 160 = .ok (.lrem, 1) := by decide +kernel
theorem ndD_add_161 : decode ncD_add 161 = .ok (.l2i, 1) := by decide +kernel
theorem ndD_add_162 : decode ncD_add 162 = .ok (.istore 10, 2) := by decide +kernel
theorem ndD_add_164 : decode ncD_add 164 = .ok (.aload_n 0, 1) := by decide +kernel
theorem ndD_add_165 : decode ncD_add 165 = .ok (.iload_n 3, 1) := by decide +kernel
theorem ndD_add_166 : decode ncD_add 166 = .ok (.iconst 5, 1) := by decide +kernel
theorem ndD_add_167 : decode ncD_add 167 = .ok (.if_icmp .ne 19, 3) := by decide +kernel
theorem ndD_add_170 : decode ncD_add 170 = .ok (.lload_n 1, 1) := by decide +kernel
theorem ndD_add_171 : decode ncD_add 171 = .ok (.lconst 0, 1) := by decide +kernel
theorem ndD_add_172 : decode ncD_add 172 = .ok (.lcmp, 1) := by decide +kernel
theorem ndD_add_173 : decode ncD_add 173 = .ok (.ifCond .ne 8, 3) := by decide +kernel
theorem ndD_add_176 : decode ncD_add 176 = .ok (.bipush 67, 2) := by decide +kernel
theorem ndD_add_178 : decode ncD_add 178 = .ok (.goto 31, 3) := by decide +kernel
theorem ndD_add_181 : decode ncD_add 181 = .ok (.bipush 83, 2) := by decide +kernel
theorem ndD_add_183 : decode ncD_add 183 = .ok (.goto 26, 3) := by decide +kernel
theorem ndD_add_186 : decode ncD_add 186 = .ok (.iload 10, 2) := by decide +kernel
theorem ndD_add_188 : decode ncD_add 188 = .ok (.bipush 10, 2) := by decide +kernel
theorem ndD_add_190 : decode ncD_add 190 = .ok (.if_icmp .ge 11, 3) := by decide +kernel
theorem ndD_add_193 : decode ncD_add 193 = .ok (.bipush 48, 2) := by decide +kernel
theorem ndD_add_195 : decode ncD_add 195 = .ok (.iload 10, 2) := by decide +kernel
theorem ndD_add_197 : decode ncD_add 197 = .ok (.iadd, 1) := by decide +kernel
theorem ndD_add_198 : decode ncD_add 198 = .ok (.goto 11, 3) := by decide +kernel
theorem ndD_add_201 : decode ncD_add 201 = .ok (.bipush 65, 2) := by decide +kernel
theorem ndD_add_203 : decode ncD_add 203 = .ok (.iload 10, 2) := by decide +kernel
theorem ndD_add_205 : decode ncD_add 205 = .ok (.iadd, 1) := by decide +kernel
theorem ndD_add_206 : decode ncD_add 206 = .ok (.bipush 10, 2) := by decide +kernel
theorem ndD_add_208 : decode ncD_add 208 = .ok (.isub, 1) := by decide +kernel
theorem ndD_add_209 : decode ncD_add 209 = .ok (.invokevirtual 84, 3) := by decide +kernel
theorem ndD_add_212 : decode ncD_add 212 = .ok (.iinc 7 (-1), 3) := by decide +kernel
theorem ndD_add_215 : decode ncD_add 215 = .ok (.goto (-90), 3) := by decide +kernel
theorem ndD_add_218 : decode ncD_add 218 = .ok (.iconst 1, 1) := by decide +kernel
theorem ndD_add_219 : decode ncD_add 219 = .ok (.ireturn, 1) := by decide +kernel
end
section
theorem ndD_end_0 : decode ncD_end 0 = .ok (.aload_n 0, 1) := by decide +kernel
theorem ndD_end_1 : decode ncD_end 1 = .ok (.getfield 74, 3) := by decide +kernel
theorem ndD_end_4 : decode ncD_end 4 = .ok (.ifCond .eq 17, 3) := by decide +kernel
theorem ndD_end_7 : decode ncD_end 7 = .ok (.aload_n 0, 1) := by decide +kernel
theorem ndD_end_8 : decode ncD_end 8 = .ok (.getfield 77, 3) := by decide +kernel
theorem ndD_end_11 : decode ncD_end 11 = .ok (.ifCond .ne 10, 3) := by decide +kernel
theorem ndD_end_14 : decode ncD_end 14 = .ok (.aload_n 0, 1) := by decide +kernel
theorem ndD_end_15 : decode ncD_end 15 = .ok (.invokevirtual 100, 3) := by decide +kernel
theorem ndD_end_18 : decode ncD_end 18 = .ok (.ifCond .eq 5, 3) := by decide +kernel
theorem ndD_end_21 : decode ncD_end 21 = .ok (.iconst (-1), 1) := by decide +kernel
theorem ndD_end_22 : decode ncD_end 22 = .ok (.ireturn, 1) := by decide +kernel
theorem ndD_end_23 : decode ncD_end 23 = .ok (.iconst 0, 1) := by decide +kernel
theorem ndD_end_24 : decode ncD_end 24 = .ok (.istore_n 1, 1) := by decide +kernel
theorem ndD_end_25 : decode ncD_end 25 = .ok (.iconst 0, 1) := by decide +kernel
theorem ndD_end_26 : decode ncD_end 26 = .ok (.istore_n 2, 1) := by decide +kernel
theorem ndD_end_27 : decode ncD_end 27 = .ok (.iload_n 2, 1) := by decide +kernel
theorem ndD_end_28 : decode ncD_end 28 = .ok (.aload_n 0, 1) := by decide +kernel
theorem ndD_end_29 : decode ncD_end 29 = .ok (.getfield 71, 3) := by decide +kernel
theorem ndD_end_32 : decode ncD_end 32 = .ok (.if_icmp .ge 20, 3) := by decide +kernel
theorem ndD_end_35 : decode ncD_end 35 = .ok (.iload_n 1, 1) := by decide +kernel
theorem ndD_end_36 : decode ncD_end 36 = .ok (.aload_n 0, 1) := by decide +kernel
theorem ndD_end_37 : decode ncD_end 37 = .ok (.getfield 17, 3) := by decide +kernel
theorem ndD_end_40 : decode ncD_end 40 = .ok (.iload_n 2, 1) := by decide +kernel
theorem ndD_end_41 : decode ncD_end 41 = .ok (.iaload, 1) := by decide +kernel
theorem ndD_end_42 : decode ncD_end 42 = .ok (.invokestatic 52, 3) := by decide +kernel
theorem ndD_end_45 : decode ncD_end 45 = .ok (.istore_n 1, 1) := by decide +kernel
theorem ndD_end_46 : decode ncD_end 46 = .ok (.iinc 2 1, 3) := by decide +kernel
theorem ndD_end_49 : decode ncD_end 49 = .ok (.goto (-22), 3) := by decide +kernel
theorem ndD_end_52 : decode ncD_end 52 = .ok (.bipush 98, 2) := by decide +kernel
theorem ndD_end_54 : decode ncD_end 54 = .ok (.iload_n 1, 1) := by decide +kernel
theorem ndD_end_55 : decode ncD_end 55 = .ok (.bipush 100, 2) := by decide +kernel
theorem ndD_end_57 : decode ncD_end 57 = .ok (.imul, 1) := by decide +kernel
theorem ndD_end_58 : decode ncD_end 58 = .ok (.bipush 97, 2) := by decide +kernel
theorem ndD_end_60 : decode ncD_end 60 = .ok (.irem, 1) := by decide +kernel
theorem ndD_end_61 : decode ncD_end 61 = .ok (.isub, 1) := by decide +kernel
theorem ndD_end_62 : decode ncD_end 62 = .ok (.istore_n 2, 1) := by decide +kernel
theorem ndD_end_63 : decode ncD_end 63 = .ok (.aload_n 0, 1) := by decide +kernel
theorem ndD_end_64 : decode ncD_end 64 = .ok (.bipush 48, 2) := by decide +kernel
theorem ndD_end_66 : decode ncD_end 66 = .ok (.iload_n 2, 1) := by decide +kernel
theorem ndD_end_67 : decode ncD_end 67 = .ok (.bipush 10, 2) := by decide +kernel
theorem ndD_end_69 : decode ncD_end 69 = .ok (.idiv, 1) := by decide +kernel
theorem ndD_end_70 : decode ncD_end 70 = .ok (.iadd, 1) := by decide +kernel
theorem ndD_end_71 : decode ncD_end 71 = .ok (.invokevirtual 84, 3) := by decide +kernel
theorem ndD_end_74 : decode ncD_end 74 = .ok (.aload_n 0, 1) := by decide +kernel
theorem ndD_end_75 : decode ncD_end 75 = .ok (.bipush 48, 2) := by decide +kernel
theorem ndD_end_77 : decode ncD_end 77 = .ok (.iload_n 2, 1) := by decide +kernel
theorem ndD_end_78 : decode ncD_end 78 = .ok (.bipush 10, 2) := by decide +kernel
theorem ndD_end_80 : decode ncD_end 80 = .ok (.irem, 1) := by decide +kernel
theorem ndD_end_81 : decode ncD_end 81 = .ok (.iadd, 1) := by decide +kernel
theorem ndD_end_82 : decode ncD_end 82 = .ok (.invokevirtual 84, 3) := by decide +kernel
theorem ndD_end_85 : decode ncD_end 85 = .ok (.aload_n 0, 1) := by decide +kernel
theorem ndD_end_86 : decode ncD_end 86 = .ok (.iconst 1, 1) := by decide +kernel
theorem ndD_end_87 : decode ncD_end 87 = .ok (.putfield 77, 3) := by decide +kernel
theorem ndD_end_90 : decode ncD_end 90 = .ok (.aload_n 0, 1) := by decide +kernel
theorem ndD_end_91 : decode ncD_end 91 = .ok (.getfield 71, 3) := by decide +kernel
theorem ndD_end_94 : decode ncD_end 94 = .ok (.ireturn, 1) := by decide +kernel
theorem ndD_byteOf_0 : decode ncD_byteOf 0 = .ok (.iload_n 1, 1) := by decide +kernel
theorem ndD_byteOf_1 : decode ncD_byteOf 1 = .ok (.ifCond .lt 20, 3) := by decide +kernel
theorem ndD_byteOf_4 : decode ncD_byteOf 4 = .ok (.iload_n 1, 1) := by decide +kernel
theorem ndD_byteOf_5 : decode ncD_byteOf 5 = .ok (.aload_n 0, 1) := by decide +kernel
theorem ndD_byteOf_6 : decode ncD_byteOf 6 = .ok (.getfield 71, 3) := by decide +kernel
theorem ndD_byteOf_9 : decode ncD_byteOf 9 = .ok (.if_icmp .ge 12, 3) := by decide +kernel
theorem ndD_byteOf_12 : decode ncD_byteOf 12 = .ok (.aload_n 0, 1) := by decide +kernel
theorem ndD_byteOf_13 : decode ncD_byteOf 13 = .ok (.getfield 17, 3) := by decide +kernel
theorem ndD_byteOf_16 : decode ncD_byteOf 16 = .ok (.iload_n 1, 1) := by decide +kernel
theorem ndD_byteOf_17 : decode ncD_byteOf 17 = .ok (.iaload, 1) := by decide +kernel
theorem ndD_byteOf_18 : decode ncD_byteOf 18 = .ok (.goto 4, 3) := by decide +kernel
theorem ndD_byteOf_21 : decode ncD_byteOf 21 = .ok (.iconst (-1), 1) := by decide +kernel
theorem ndD_byteOf_22 : decode ncD_byteOf 22 = .ok (.ireturn, 1) := by decide +kernel
theorem ndD_copy_0 : decode ncD_copy 0 = .ok (.aload_n 0, 1) := by decide +kernel
theorem ndD_copy_1 : decode ncD_copy 1 = .ok (.getfield 74, 3) := by decide +kernel
theorem ndD_copy_4 : decode ncD_copy 4 = .ok (.ifCond .eq 18, 3) := by decide +kernel
theorem ndD_copy_7 : decode ncD_copy 7 = .ok (.aload_n 0, 1) := by decide +kernel
theorem ndD_copy_8 : decode ncD_copy 8 = .ok (.getfield 29, 3) := by decide +kernel
theorem ndD_copy_11 : decode ncD_copy 11 = .ok (.aload_n 0, 1) := by decide +kernel
theorem ndD_copy_12 : decode ncD_copy 12 = .ok (.getfield 71, 3) := by decide +kernel
theorem ndD_copy_15 : decode ncD_copy 15 = .ok (.iadd, 1) := by decide +kernel
theorem ndD_copy_16 : decode ncD_copy 16 = .ok (.sipush 400, 3) := by decide +kernel
theorem ndD_copy_19 : decode ncD_copy 19 = .ok (.if_icmp .le 5, 3) := by decide +kernel
theorem ndD_copy_22 : decode ncD_copy 22 = .ok (.iconst 0, 1) := by decide +kernel
theorem ndD_copy_23 : decode ncD_copy 23 = .ok (.ireturn, 1) := by decide +kernel
theorem ndD_copy_24 : decode ncD_copy 24 = .ok (.iconst 0, 1) := by decide +kernel
theorem ndD_copy_25 : decode ncD_copy 25 = .ok (.istore_n 1, 1) := by decide +kernel
theorem ndD_copy_26 : decode ncD_copy 26 = .ok (.iload_n 1, 1) := by decide +kernel
theorem ndD_copy_27 : decode ncD_copy 27 = .ok (.aload_n 0, 1) := by decide +kernel
theorem ndD_copy_28 : decode ncD_copy 28 = .ok (.getfield 71, 3) := by decide +kernel
theorem ndD_copy_31 : decode ncD_copy 31 = .ok (.if_icmp .ge 26, 3) := by decide +kernel
theorem ndD_copy_34 : decode ncD_copy 34 = .ok (.aload_n 0, 1) := by decide +kernel
theorem ndD_copy_35 : decode ncD_copy 35 = .ok (.getfield 7, 3) := by decide +kernel
theorem ndD_copy_38 : decode ncD_copy 38 = .ok (.aload_n 0, 1) := by decide +kernel
theorem ndD_copy_39 : decode ncD_copy 39 = .ok (.getfield 29, 3) := by decide +kernel
theorem ndD_copy_42 : decode ncD_copy 42 = .ok (.iload_n 1, 1) := by decide +kernel
theorem ndD_copy_43 : decode ncD_copy 43 = .ok (.iadd, 1) := by decide +kernel
theorem ndD_copy_44 : decode ncD_copy 44 = .ok (.aload_n 0, 1) := by decide +kernel
theorem ndD_copy_45 : decode ncD_copy 45 = .ok (.getfield 17, 3) := by decide +kernel
theorem ndD_copy_48 : decode ncD_copy 48 = .ok (.iload_n 1, 1) := by decide +kernel
theorem ndD_copy_49 : decode ncD_copy 49 = .ok (.iaload, 1) := by decide +kernel
theorem ndD_copy_50 : decode ncD_copy 50 = .ok (.iastore, 1) := by decide +kernel
theorem ndD_copy_51 : decode ncD_copy 51 = .ok (.iinc 1 1, 3) := by decide +kernel
theorem ndD_copy_54 : decode ncD_copy 54 = .ok (.goto (-28), 3) := by decide +kernel
theorem ndD_copy_57 : decode ncD_copy 57 = .ok (.aload_n 0, 1) := by decide +kernel
theorem ndD_copy_58 : decode ncD_copy 58 = .ok (.aload_n 0, 1) := by decide +kernel
theorem ndD_copy_59 : decode ncD_copy 59 = .ok (.getfield 29, 3) := by decide +kernel
theorem ndD_copy_62 : decode ncD_copy 62 = .ok (.aload_n 0, 1) := by decide +kernel
theorem ndD_copy_63 : decode ncD_copy 63 = .ok (.getfield 71, 3) := by decide +kernel
theorem ndD_copy_66 : decode ncD_copy 66 = .ok (.iadd, 1) := by decide +kernel
theorem ndD_copy_67 : decode ncD_copy 67 = .ok (.putfield 29, 3) := by decide +kernel
theorem ndD_copy_70 : decode ncD_copy 70 = .ok (.iconst 1, 1) := by decide +kernel
theorem ndD_copy_71 : decode ncD_copy 71 = .ok (.ireturn, 1) := by decide +kernel
theorem ndM_init_0 : decode ncM_init 0 = .ok (.aload_n 0, 1) := by decide +kernel
theorem ndM_init_1 : decode ncM_init 1 = .ok (.invokespecial 3, 3) := by decide +kernel
theorem ndM_init_4 : decode ncM_init 4 = .ok (.aload_n 0, 1) := by decide +kernel
theorem ndM_init_5 : decode ncM_init 5 = .ok (.bipush 20, 2) := by decide +kernel
theorem ndM_init_7 : decode ncM_init 7 = .ok (.newarray .int, 2) := by decide +kernel
theorem ndM_init_9 : decode ncM_init 9 = .ok (.putfield 9, 3) := by decide +kernel
theorem ndM_init_12 : decode ncM_init 12 = .ok (.aload_n 0, 1) := by decide +kernel
theorem ndM_init_13 : decode ncM_init 13 = .ok (.bipush 20, 2) := by decide +kernel
theorem ndM_init_15 : decode ncM_init 15 = .ok (.newarray .long, 2) := by decide +kernel
theorem ndM_init_17 : decode ncM_init 17 = .ok (.putfield 15, 3) := by decide +kernel
theorem ndM_init_20 : decode ncM_init 20 = .ok (.aload_n 0, 1) := by decide +kernel
theorem ndM_init_21 : decode ncM_init 21 = .ok (.iconst 0, 1) := by decide +kernel
theorem ndM_init_22 : decode ncM_init 22 = .ok (.putfield 19, 3) := by decide +kernel
theorem ndM_init_25 : decode ncM_init 25 = .ok (.aload_n 0, 1) := by decide +kernel
theorem ndM_init_26 : decode ncM_init 26 = .ok (.iconst 0, 1) := by decide +kernel
theorem ndM_init_27 : decode ncM_init 27 = .ok (.putfield 23, 3) := by decide +kernel
theorem ndM_init_30 : decode ncM_init 30 = .ok (.return_, 1) := by decide +kernel
theorem ndM_start_0 : decode ncM_start 0 = .ok (.aload_n 0, 1) := by decide +kernel
theorem ndM_start_1 : decode ncM_start 1 = .ok (.iload_n 1, 1) := by decide +kernel
theorem ndM_start_2 : decode ncM_start 2 = .ok (.putfield 19, 3) := by decide +kernel
theorem ndM_start_5 : decode ncM_start 5 = .ok (.aload_n 0, 1) := by decide +kernel
theorem ndM_start_6 : decode ncM_start 6 = .ok (.iconst 0, 1) := by decide +kernel
theorem ndM_start_7 : decode ncM_start 7 = .ok (.putfield 23, 3) := by decide +kernel
theorem ndM_start_10 : decode ncM_start 10 = .ok (.return_, 1) := by decide +kernel
theorem ndM_sortAt_0 : decode ncM_sortAt 0 = .ok (.iload_n 1, 1) := by decide +kernel
theorem ndM_sortAt_1 : decode ncM_sortAt 1 = .ok (.ifCond .lt 29, 3) := by decide +kernel
theorem ndM_sortAt_4 : decode ncM_sortAt 4 = .ok (.iload_n 1, 1) := by decide +kernel
theorem ndM_sortAt_5 : decode ncM_sortAt 5 = .ok (.aload_n 0, 1) := by decide +kernel
theorem ndM_sortAt_6 : decode ncM_sortAt 6 = .ok (.getfield 23, 3) := by decide +kernel
theorem ndM_sortAt_9 : decode ncM_sortAt 9 = .ok (.if_icmp .ge 21, 3) := by decide +kernel
theorem ndM_sortAt_12 : decode ncM_sortAt 12 = .ok (.iload_n 1, 1) := by decide +kernel
theorem ndM_sortAt_13 : decode ncM_sortAt 13 = .ok (.aload_n 0, 1) := by decide +kernel
theorem ndM_sortAt_14 : decode ncM_sortAt 14 = .ok (.getfield 9, 3) := by decide +kernel
theorem ndM_sortAt_17 : decode ncM_sortAt 17 = .ok (.arraylength, 1) := by decide +kernel
theorem ndM_sortAt_18 : decode ncM_sortAt 18 = .ok (.if_icmp .ge 12, 3) := by decide +kernel
theorem ndM_sortAt_21 : decode ncM_sortAt 21 = .ok (.aload_n 0, 1) := by decide +kernel
theorem ndM_sortAt_22 : decode ncM_sortAt 22 = .ok (.getfield 9, 3) := by decide +kernel
theorem ndM_sortAt_25 : decode ncM_sortAt 25 = .ok (.iload_n 1, 1) := by decide +kernel
theorem ndM_sortAt_26 : decode ncM_sortAt 26 = .ok (.iaload, 1) := by decide +kernel
theorem ndM_sortAt_27 : decode ncM_sortAt 27 = .ok (.goto 4, 3) := by decide +kernel
theorem ndM_sortAt_30 : decode ncM_sortAt 30 = .ok (.iconst 0, 1) := by decide +kernel
theorem ndM_sortAt_31 : decode ncM_sortAt 31 = .ok (.ireturn, 1) := by decide +kernel
theorem ndM_numberAt_0 : decode ncM_numberAt 0 = .ok (.iload_n 1, 1) := by decide +kernel
theorem ndM_numberAt_1 : decode ncM_numberAt 1 = .ok (.ifCond .lt 29, 3) := by decide +kernel
theorem ndM_numberAt_4 : decode ncM_numberAt 4 = .ok (.iload_n 1, 1) := by decide +kernel
theorem ndM_numberAt_5 : decode ncM_numberAt 5 = .ok (.aload_n 0, 1) := by decide +kernel
theorem ndM_numberAt_6 : decode ncM_numberAt 6 = .ok (.getfield 23, 3) := by decide +kernel
theorem ndM_numberAt_9 : decode ncM_numberAt 9 = .ok (.if_icmp .ge 21, 3) := by decide +kernel
theorem ndM_numberAt_12 : decode ncM_numberAt 12 = .ok (.iload_n 1, 1) := by decide +kernel
theorem ndM_numberAt_13 : decode ncM_numberAt 13 = .ok (.aload_n 0, 1) := by decide +kernel
theorem ndM_numberAt_14 : decode ncM_numberAt 14 = .ok (.getfield 15, 3) := by decide +kernel
theorem ndM_numberAt_17 : decode ncM_numberAt 17 = .ok (.arraylength, 1) := by decide +kernel
theorem ndM_numberAt_18 : decode ncM_numberAt 18 = .ok (.if_icmp .ge 12, 3) := by decide +kernel
theorem ndM_numberAt_21 : decode ncM_numberAt 21 = .ok (.aload_n 0, 1) := by decide +kernel
theorem ndM_numberAt_22 : decode ncM_numberAt 22 = .ok (.getfield 15, 3) := by decide +kernel
theorem ndM_numberAt_25 : decode ncM_numberAt 25 = .ok (.iload_n 1, 1) := by decide +kernel
theorem ndM_numberAt_26 : decode ncM_numberAt 26 = .ok (.laload, 1) := by decide +kernel
theorem ndM_numberAt_27 : decode ncM_numberAt 27 = .ok (.goto 6, 3) := by decide +kernel
theorem ndM_numberAt_30 : decode ncM_numberAt 30 = .ok (.ldc2_w 26, 3) := by decide +kernel
theorem ndM_numberAt_33 : decode ncM_numberAt 33 = .ok (.lreturn, 1) := by decide +kernel
theorem ndM_dueSort_0 : decode ncM_dueSort 0 = .ok (.aload_n 0, 1) := by decide +kernel
theorem ndM_dueSort_1 : decode ncM_dueSort 1 = .ok (.getfield 19, 3) := by decide +kernel
theorem ndM_dueSort_4 : decode ncM_dueSort 4 = .ok (.iconst 1, 1) := by decide +kernel
theorem ndM_dueSort_5 : decode ncM_dueSort 5 = .ok (.if_icmp .lt 19, 3) := by decide +kernel
theorem ndM_dueSort_8 : decode ncM_dueSort 8 = .ok (.aload_n 0, 1) := by decide +kernel
theorem ndM_dueSort_9 : decode ncM_dueSort 9 = .ok (.getfield 19, 3) := by decide +kernel
theorem ndM_dueSort_12 : decode ncM_dueSort 12 = .ok (.bipush 15, 2) := by decide +kernel
theorem ndM_dueSort_14 : decode ncM_dueSort 14 = .ok (.if_icmp .gt 10, 3) := by decide +kernel
theorem ndM_dueSort_17 : decode ncM_dueSort 17 = .ok (.aload_n 0, 1) := by decide +kernel
theorem ndM_dueSort_18 : decode ncM_dueSort 18 = .ok (.getfield 23, 3) := by decide +kernel
theorem ndM_dueSort_21 : decode ncM_dueSort 21 = .ok (.ifCond .ge 5, 3) := by decide +kernel
theorem ndM_dueSort_24 : decode ncM_dueSort 24 = .ok (.iconst 0, 1) := by decide +kernel
theorem ndM_dueSort_25 : decode ncM_dueSort 25 = .ok (.ireturn, 1) := by decide +kernel
theorem ndM_dueSort_26 : decode ncM_dueSort 26 = .ok (.aload_n 0, 1) := by decide +kernel
theorem ndM_dueSort_27 : decode ncM_dueSort 27 = .ok (.getfield 19, 3) := by decide +kernel
theorem ndM_dueSort_30 : decode ncM_dueSort 30 = .ok (.bipush 6, 2) := by decide +kernel
theorem ndM_dueSort_32 : decode ncM_dueSort 32 = .ok (.if_icmp .ne 22, 3) := by decide +kernel
theorem ndM_dueSort_35 : decode ncM_dueSort 35 = .ok (.aload_n 0, 1) := by decide +kernel
theorem ndM_dueSort_36 : decode ncM_dueSort 36 = .ok (.getfield 23, 3) := by decide +kernel
theorem ndM_dueSort_39 : decode ncM_dueSort 39 = .ok (.iconst 4, 1) := by decide +kernel
theorem ndM_dueSort_40 : decode ncM_dueSort 40 = .ok (.if_icmp .lt 14, 3) := by decide +kernel
theorem ndM_dueSort_43 : decode ncM_dueSort 43 = .ok (.aload_n 0, 1) := by decide +kernel
theorem ndM_dueSort_44 : decode ncM_dueSort 44 = .ok (.aload_n 0, 1) := by decide +kernel
theorem ndM_dueSort_45 : decode ncM_dueSort 45 = .ok (.getfield 23, 3) := by decide +kernel
theorem ndM_dueSort_48 : decode ncM_dueSort 48 = .ok (.iconst 4, 1) := by decide +kernel
theorem ndM_dueSort_49 : decode ncM_dueSort 49 = .ok (.isub, 1) := by decide +kernel
theorem ndM_dueSort_50 : decode ncM_dueSort 50 = .ok (.invokevirtual 28, 3) := by decide +kernel
theorem ndM_dueSort_53 : decode ncM_dueSort 53 = .ok (.ireturn, 1) := by decide +kernel
theorem ndM_dueSort_54 : decode ncM_dueSort 54 = .ok (.aload_n 0, 1) := by decide +kernel
theorem ndM_dueSort_55 : decode ncM_dueSort 55 = .ok (.getfield 23, 3) := by decide +kernel
theorem ndM_dueSort_58 : decode ncM_dueSort 58 = .ok (.bipush 6, 2) := by decide +kernel
theorem ndM_dueSort_60 : decode ncM_dueSort 60 = .ok (.if_icmp .ge 26, 3) := by decide +kernel
theorem ndM_dueSort_63 : decode ncM_dueSort 63 = .ok (.getstatic 32, 3) := by decide +kernel
theorem ndM_dueSort_66 : decode ncM_dueSort 66 = .ok (.aload_n 0, 1) := by decide +kernel
theorem ndM_dueSort_67 : decode ncM_dueSort 67 = .ok (.getfield 19, 3) := by decide +kernel
theorem ndM_dueSort_70 : decode ncM_dueSort 70 = .ok (.iconst 1, 1) := by decide +kernel
theorem ndM_dueSort_71 : decode ncM_dueSort 71 = .ok (.isub, 1) := by decide +kernel
theorem ndM_dueSort_72 : decode ncM_dueSort 72 = .ok (.bipush 6, 2) := by decide +kernel
theorem ndM_dueSort_74 : decode ncM_dueSort 74 = .ok (.imul, 1) := by decide +kernel
theorem ndM_dueSort_75 : decode ncM_dueSort 75 = .ok (.aload_n 0, 1) := by decide +kernel
theorem ndM_dueSort_76 : decode ncM_dueSort 76 = .ok (.getfield 23, 3) := by decide +kernel
theorem ndM_dueSort_79 : decode ncM_dueSort 79 = .ok (.iadd, 1) := by decide +kernel
theorem ndM_dueSort_80 : decode ncM_dueSort 80 = .ok (.invokestatic 35, 3) := by decide +kernel
theorem ndM_dueSort_83 : decode ncM_dueSort 83 = .ok (.goto 4, 3) := by decide +kernel
theorem ndM_dueSort_86 : decode ncM_dueSort 86 = .ok (.iconst 0, 1) := by decide +kernel
theorem ndM_dueSort_87 : decode ncM_dueSort 87 = .ok (.ireturn, 1) := by decide +kernel
theorem ndM_dueLegSort_0 : decode ncM_dueLegSort 0 = .ok (.aload_n 0, 1) := by decide +kernel
theorem ndM_dueLegSort_1 : decode ncM_dueLegSort 1 = .ok (.iconst 3, 1) := by decide +kernel
theorem ndM_dueLegSort_2 : decode ncM_dueLegSort 2 = .ok (.invokevirtual 39, 3) := by decide +kernel
theorem ndM_dueLegSort_5 : decode ncM_dueLegSort 5 = .ok (.lstore_n 2, 1) := by decide +kernel
theorem ndM_dueLegSort_6 : decode ncM_dueLegSort 6 = .ok (.iload_n 1, 1) := by decide +kernel
theorem ndM_dueLegSort_7 : decode ncM_dueLegSort 7 = .ok (.i2l, 1) := by decide +kernel
theorem ndM_dueLegSort_8 : decode ncM_dueLegSort 8 = .ok (.lload_n 2, 1) := by decide +kernel
theorem ndM_dueLegSort_9 : decode ncM_dueLegSort 9 = .ok (.ldc2_w 43, 3) := by decide +kernel
theorem ndM_dueLegSort_12 : decode ncM_dueLegSort 12 = .ok (.lmul, 1) := by decide +kernel
theorem ndM_dueLegSort_13 : decode ncM_dueLegSort 13 = .ok (.lcmp, 1) := by decide +kernel
theorem ndM_dueLegSort_14 : decode ncM_dueLegSort 14 = .ok (.ifCond .ge 15, 3) := by decide +kernel
theorem ndM_dueLegSort_17 : decode ncM_dueLegSort 17 = .ok (.getstatic 45, 3) := by decide +kernel
theorem ndM_dueLegSort_20 : decode ncM_dueLegSort 20 = .ok (.iload_n 1, 1) := by decide +kernel
theorem ndM_dueLegSort_21 : decode ncM_dueLegSort 21 = .ok (.iconst 4, 1) := by decide +kernel
theorem ndM_dueLegSort_22 : decode ncM_dueLegSort 22 = .ok (.irem, 1) := by decide +kernel
theorem ndM_dueLegSort_23 : decode ncM_dueLegSort 23 = .ok (.invokestatic 35, 3) := by decide +kernel
theorem ndM_dueLegSort_26 : decode ncM_dueLegSort 26 = .ok (.goto 4, 3) := by decide +kernel
theorem ndM_dueLegSort_29 : decode ncM_dueLegSort 29 = .ok (.iconst 0, 1) := by decide +kernel
theorem ndM_dueLegSort_30 : decode ncM_dueLegSort 30 = .ok (.ireturn, 1) := by decide +kernel
theorem ndM_mustBeZero_0 : decode ncM_mustBeZero 0 = .ok (.aload_n 0, 1) := by decide +kernel
theorem ndM_mustBeZero_1 : decode ncM_mustBeZero 1 = .ok (.getfield 19, 3) := by decide +kernel
theorem ndM_mustBeZero_4 : decode ncM_mustBeZero 4 = .ok (.iconst 2, 1) := by decide +kernel
theorem ndM_mustBeZero_5 : decode ncM_mustBeZero 5 = .ok (.if_icmp .ne 17, 3) := by decide +kernel
theorem ndM_mustBeZero_8 : decode ncM_mustBeZero 8 = .ok (.aload_n 0, 1) := by decide +kernel
theorem ndM_mustBeZero_9 : decode ncM_mustBeZero 9 = .ok (.iconst 3, 1) := by decide +kernel
theorem ndM_mustBeZero_10 : decode ncM_mustBeZero 10 = .ok (.invokevirtual 39, 3) := by decide +kernel
theorem ndM_mustBeZero_13 : decode ncM_mustBeZero 13 = .ok (.lconst 0, 1) := by decide +kernel
theorem ndM_mustBeZero_14 : decode ncM_mustBeZero 14 = .ok (.lcmp, 1) := by decide +kernel
theorem ndM_mustBeZero_15 : decode ncM_mustBeZero 15 = .ok (.ifCond .ne 7, 3) := by decide +kernel
theorem ndM_mustBeZero_18 : decode ncM_mustBeZero 18 = .ok (.iconst 1, 1) := by decide +kernel
theorem ndM_mustBeZero_19 : decode ncM_mustBeZero 19 = .ok (.goto 4, 3) := by decide +kernel
theorem ndM_mustBeZero_22 : decode ncM_mustBeZero 22 = .ok (.iconst 0, 1) := by decide +kernel
theorem ndM_mustBeZero_23 : decode ncM_mustBeZero 23 = .ok (.ireturn, 1) := by decide +kernel
theorem ndM_suits_0 : decode ncM_suits 0 = .ok (.aload_n 0, 1) := by decide +kernel
theorem ndM_suits_1 : decode ncM_suits 1 = .ok (.invokevirtual 48, 3) := by decide +kernel
theorem ndM_suits_4 : decode ncM_suits 4 = .ok (.istore_n 3, 1) := by decide +kernel
theorem ndM_suits_5 : decode ncM_suits 5 = .ok (.iload_n 3, 1) := by decide +kernel
theorem ndM_suits_6 : decode ncM_suits 6 = .ok (.iconst 1, 1) := by decide +kernel
theorem ndM_suits_7 : decode ncM_suits 7 = .ok (.if_icmp .lt 24, 3) := by decide +kernel
theorem ndM_suits_10 : decode ncM_suits 10 = .ok (.iload_n 3, 1) := by decide +kernel
theorem ndM_suits_11 : decode ncM_suits 11 = .ok (.getstatic 52, 3) := by decide +kernel
theorem ndM_suits_14 : decode ncM_suits 14 = .ok (.arraylength, 1) := by decide +kernel
theorem ndM_suits_15 : decode ncM_suits 15 = .ok (.if_icmp .ge 16, 3) := by decide +kernel
theorem ndM_suits_18 : decode ncM_suits 18 = .ok (.aload_n 0, 1) := by decide +kernel
theorem ndM_suits_19 : decode ncM_suits 19 = .ok (.invokevirtual 55, 3) := by decide +kernel
theorem ndM_suits_22 : decode ncM_suits 22 = .ok (.ifCond .eq 11, 3) := by decide +kernel
theorem ndM_suits_25 : decode ncM_suits 25 = .ok (.lload_n 1, 1) := by decide +kernel
theorem ndM_suits_26 : decode ncM_suits 26 = .ok (.lconst 0, 1) := by decide +kernel
theorem ndM_suits_27 : decode ncM_suits 27 = .ok (.lcmp, 1) := by decide +kernel
theorem ndM_suits_28 : decode ncM_suits 28 = .ok (.ifCond .eq 5, 3) := by decide +kernel
theorem ndM_suits_31 : decode ncM_suits 31 = .ok (.iconst 0, 1) := by decide +kernel
theorem ndM_suits_32 : decode ncM_suits 32 = .ok (.ireturn, 1) := by decide +kernel
theorem ndM_suits_33 : decode ncM_suits 33 = .ok (.lload_n 1, 1) := by decide +kernel
theorem ndM_suits_34 : decode ncM_suits 34 = .ok (.getstatic 59, 3) := by decide +kernel
theorem ndM_suits_37 : decode ncM_suits 37 = .ok (.iload_n 3, 1) := by decide +kernel
theorem ndM_suits_38 : decode ncM_suits 38 = .ok (.invokestatic 35, 3) := by decide +kernel
theorem ndM_suits_41 : decode ncM_suits 41 = .ok (.i2l, 1) := by decide +kernel
theorem ndM_suits_42 : decode ncM_suits 42 = .ok (.lcmp, 1) := by decide +kernel
theorem ndM_suits_43 : decode ncM_suits 43 = .ok (.ifCond .lt 17, 3) := by decide +kernel
theorem ndM_suits_46 : decode ncM_suits 46 = .ok (.lload_n 1, 1) := by decide +kernel
theorem ndM_suits_47 : decode ncM_suits 47 = .ok (.getstatic 52, 3) := by decide +kernel
theorem ndM_suits_50 : decode ncM_suits 50 = .ok (.iload_n 3, 1) := by decide +kernel
theorem ndM_suits_51 : decode ncM_suits 51 = .ok (.laload, 1) := by decide +kernel
theorem ndM_suits_52 : decode ncM_suits 52 = .ok (.lcmp, 1) := by decide +kernel
theorem ndM_suits_53 : decode ncM_suits 53 = .ok (.ifCond .gt 7, 3) := by decide +kernel
theorem ndM_suits_56 : decode ncM_suits 56 = .ok (.iconst 1, 1) := by decide +kernel
theorem ndM_suits_57 : decode ncM_suits 57 = .ok (.goto 4, 3) := by decide +kernel
theorem ndM_suits_60 : decode ncM_suits 60 = .ok (.iconst 0, 1) := by decide +kernel
theorem ndM_suits_61 : decode ncM_suits 61 = .ok (.ireturn, 1) := by decide +kernel
theorem ndM_take_0 : decode ncM_take 0 = .ok (.aload_n 0, 1) := by decide +kernel
theorem ndM_take_1 : decode ncM_take 1 = .ok (.getfield 23, 3) := by decide +kernel
theorem ndM_take_4 : decode ncM_take 4 = .ok (.ifCond .lt 60, 3) := by decide +kernel
theorem ndM_take_7 : decode ncM_take 7 = .ok (.aload_n 0, 1) := by decide +kernel
theorem ndM_take_8 : decode ncM_take 8 = .ok (.getfield 23, 3) := by decide +kernel
theorem ndM_take_11 : decode ncM_take 11 = .ok (.aload_n 0, 1) := by decide +kernel
theorem ndM_take_12 : decode ncM_take 12 = .ok (.getfield 9, 3) := by decide +kernel
theorem ndM_take_15 : decode ncM_take 15 = .ok (.arraylength, 1) := by decide +kernel
theorem ndM_take_16 : decode ncM_take 16 = .ok (.if_icmp .ge 48, 3) := by decide +kernel
theorem ndM_take_19 : decode ncM_take 19 = .ok (.aload_n 0, 1) := by decide +kernel
theorem ndM_take_20 : decode ncM_take 20 = .ok (.getfield 23, 3) := by decide +kernel
theorem ndM_take_23 : decode ncM_take 23 = .ok (.aload_n 0, 1) := by decide +kernel
theorem ndM_take_24 : decode ncM_take 24 = .ok (.getfield 15, 3) := by decide +kernel
theorem ndM_take_27 : decode ncM_take 27 = .ok (.arraylength, 1) := by decide +kernel
theorem ndM_take_28 : decode ncM_take 28 = .ok (.if_icmp .ge 36, 3) := by decide +kernel
theorem ndM_take_31 : decode ncM_take 31 = .ok (.aload_n 0, 1) := by decide +kernel
theorem ndM_take_32 : decode ncM_take 32 = .ok (.getfield 9, 3) := by decide +kernel
theorem ndM_take_35 : decode ncM_take 35 = .ok (.aload_n 0, 1) := by decide +kernel
theorem ndM_take_36 : decode ncM_take 36 = .ok (.getfield 23, 3) := by decide +kernel
theorem ndM_take_39 : decode ncM_take 39 = .ok (.aload_n 0, 1) := by decide +kernel
theorem ndM_take_40 : decode ncM_take 40 = .ok (.invokevirtual 48, 3) := by decide +kernel
theorem ndM_take_43 : decode ncM_take 43 = .ok (.iastore, 1) := by decide +kernel
theorem ndM_take_44 : decode ncM_take 44 = .ok (.aload_n 0, 1) := by decide +kernel
theorem ndM_take_45 : decode ncM_take 45 = .ok (.getfield 15, 3) := by decide +kernel
theorem ndM_take_48 : decode ncM_take 48 = .ok (.aload_n 0, 1) := by decide +kernel
theorem ndM_take_49 : decode ncM_take 49 = .ok (.getfield 23, 3) := by decide +kernel
theorem ndM_take_52 : decode ncM_take 52 = .ok (.lload_n 1, 1) := by decide +kernel
theorem ndM_take_53 : decode ncM_take 53 = .ok (.lastore, 1) := by decide +kernel
theorem ndM_take_54 : decode ncM_take 54 = .ok (.aload_n 0, 1) := by decide +kernel
theorem ndM_take_55 : decode ncM_take 55 = .ok (.dup, 1) := by decide +kernel
theorem ndM_take_56 : decode ncM_take 56 = .ok (.getfield 23, 3) := by decide +kernel
theorem ndM_take_59 : decode ncM_take 59 = .ok (.iconst 1, 1) := by decide +kernel
theorem ndM_take_60 : decode ncM_take 60 = .ok (.iadd, 1) := by decide +kernel
theorem ndM_take_61 : decode ncM_take 61 = .ok (.putfield 23, 3) := by decide +kernel
theorem ndM_take_64 : decode ncM_take 64 = .ok (.return_, 1) := by decide +kernel
theorem ndR_init_0 : decode ncR_init 0 = .ok (.aload_n 0, 1) := by decide +kernel
theorem ndR_init_1 : decode ncR_init 1 = .ok (.invokespecial 1, 3) := by decide +kernel
theorem ndR_init_4 : decode ncR_init 4 = .ok (.aload_n 0, 1) := by decide +kernel
theorem ndR_init_5 : decode ncR_init 5 = .ok (.iconst 0, 1) := by decide +kernel
theorem ndR_init_6 : decode ncR_init 6 = .ok (.putfield 7, 3) := by decide +kernel
theorem ndR_init_9 : decode ncR_init 9 = .ok (.aload_n 0, 1) := by decide +kernel
theorem ndR_init_10 : decode ncR_init 10 = .ok (.iload_n 1, 1) := by decide +kernel
theorem ndR_init_11 : decode ncR_init 11 = .ok (.ifCond .ge 7, 3) := by decide +kernel
theorem ndR_init_14 : decode ncR_init 14 = .ok (.iconst 0, 1) := by decide +kernel
theorem ndR_init_15 : decode ncR_init 15 = .ok (.goto 4, 3) := by decide +kernel
theorem ndR_init_18 : decode ncR_init 18 = .ok (.iload_n 1, 1) := by decide +kernel
theorem ndR_init_19 : decode ncR_init 19 = .ok (.newarray .int, 2) := by decide +kernel
theorem ndR_init_21 : decode ncR_init 21 = .ok (.putfield 13, 3) := by decide +kernel
theorem ndR_init_24 : decode ncR_init 24 = .ok (.return_, 1) := by decide +kernel
theorem ndR_hasRoomFor_0 : decode ncR_hasRoomFor 0 = .ok (.iload_n 1, 1) := by decide +kernel
theorem ndR_hasRoomFor_1 : decode ncR_hasRoomFor 1 = .ok (.aload_n 0, 1) := by decide +kernel
theorem ndR_hasRoomFor_2 : decode ncR_hasRoomFor 2 = .ok (.getfield 13, 3) := by decide +kernel
theorem ndR_hasRoomFor_5 : decode ncR_hasRoomFor 5 = .ok (.arraylength, 1) := by decide +kernel
theorem ndR_hasRoomFor_6 : decode ncR_hasRoomFor 6 = .ok (.aload_n 0, 1) := by decide +kernel
theorem ndR_hasRoomFor_7 : decode ncR_hasRoomFor 7 = .ok (.getfield 7, 3) := by decide +kernel
theorem ndR_hasRoomFor_10 : decode ncR_hasRoomFor 10 = .ok (.isub, 1) := by decide +kernel
theorem ndR_hasRoomFor_11 : decode ncR_hasRoomFor 11 = .ok (.if_icmp .gt 7, 3) := by decide +kernel
theorem ndR_hasRoomFor_14 : decode ncR_hasRoomFor 14 = .ok (.iconst 1, 1) := by decide +kernel
theorem ndR_hasRoomFor_15 : decode ncR_hasRoomFor 15 = .ok (.goto 4, 3) := by decide +kernel
theorem ndR_hasRoomFor_18 : decode ncR_hasRoomFor 18 = .ok (.iconst 0, 1) := by decide +kernel
theorem ndR_hasRoomFor_19 : decode ncR_hasRoomFor 19 = .ok (.ireturn, 1) := by decide +kernel
theorem ndR_clear_0 : decode ncR_clear 0 = .ok (.aload_n 0, 1) := by decide +kernel
theorem ndR_clear_1 : decode ncR_clear 1 = .ok (.iconst 0, 1) := by decide +kernel
theorem ndR_clear_2 : decode ncR_clear 2 = .ok (.putfield 7, 3) := by decide +kernel
theorem ndR_clear_5 : decode ncR_clear 5 = .ok (.return_, 1) := by decide +kernel
theorem ndR_append_0 : decode ncR_append 0 = .ok (.aload_n 0, 1) := by decide +kernel
theorem ndR_append_1 : decode ncR_append 1 = .ok (.getfield 7, 3) := by decide +kernel
theorem ndR_append_4 : decode ncR_append 4 = .ok (.ifCond .lt 35, 3) := by decide +kernel
theorem ndR_append_7 : decode ncR_append 7 = .ok (.aload_n 0, 1) := by decide +kernel
theorem ndR_append_8 : decode ncR_append 8 = .ok (.getfield 7, 3) := by decide +kernel
theorem ndR_append_11 : decode ncR_append 11 = .ok (.aload_n 0, 1) := by decide +kernel
theorem ndR_append_12 : decode ncR_append 12 = .ok (.getfield 13, 3) := by decide +kernel
theorem ndR_append_15 : decode ncR_append 15 = .ok (.arraylength, 1) := by decide +kernel
theorem ndR_append_16 : decode ncR_append 16 = .ok (.if_icmp .ge 23, 3) := by decide +kernel
theorem ndR_append_19 : decode ncR_append 19 = .ok (.aload_n 0, 1) := by decide +kernel
theorem ndR_append_20 : decode ncR_append 20 = .ok (.getfield 13, 3) := by decide +kernel
theorem ndR_append_23 : decode ncR_append 23 = .ok (.aload_n 0, 1) := by decide +kernel
theorem ndR_append_24 : decode ncR_append 24 = .ok (.getfield 7, 3) := by decide +kernel
theorem ndR_append_27 : decode ncR_append 27 = .ok (.iload_n 1, 1) := by decide +kernel
theorem ndR_append_28 : decode ncR_append 28 = .ok (.iastore, 1) := by decide +kernel
theorem ndR_append_29 : decode ncR_append 29 = .ok (.aload_n 0, 1) := by decide +kernel
theorem ndR_append_30 : decode ncR_append 30 = .ok (.dup, 1) := by decide +kernel
theorem ndR_append_31 : decode ncR_append 31 = .ok (.getfield 7, 3) := by decide +kernel
theorem ndR_append_34 : decode ncR_append 34 = .ok (.iconst 1, 1) := by decide +kernel
theorem ndR_append_35 : decode ncR_append 35 = .ok (.iadd, 1) := by decide +kernel
theorem ndR_append_36 : decode ncR_append 36 = .ok (.putfield 7, 3) := by decide +kernel
theorem ndR_append_39 : decode ncR_append 39 = .ok (.return_, 1) := by decide +kernel
theorem ndR_put_0 : decode ncR_put 0 = .ok (.iload_n 1, 1) := by decide +kernel
theorem ndR_put_1 : decode ncR_put 1 = .ok (.ifCond .lt 27, 3) := by decide +kernel
theorem ndR_put_4 : decode ncR_put 4 = .ok (.iload_n 1, 1) := by decide +kernel
theorem ndR_put_5 : decode ncR_put 5 = .ok (.aload_n 0, 1) := by decide +kernel
theorem ndR_put_6 : decode ncR_put 6 = .ok (.getfield 7, 3) := by decide +kernel
theorem ndR_put_9 : decode ncR_put 9 = .ok (.if_icmp .ge 19, 3) := by decide +kernel
theorem ndR_put_12 : decode ncR_put 12 = .ok (.iload_n 1, 1) := by decide +kernel
theorem ndR_put_13 : decode ncR_put 13 = .ok (.aload_n 0, 1) := by decide +kernel
theorem ndR_put_14 : decode ncR_put 14 = .ok (.getfield 13, 3) := by decide +kernel
theorem ndR_put_17 : decode ncR_put 17 = .ok (.arraylength, 1) := by decide +kernel
theorem ndR_put_18 : decode ncR_put 18 = .ok (.if_icmp .ge 10, 3) := by decide +kernel
theorem ndR_put_21 : decode ncR_put 21 = .ok (.aload_n 0, 1) := by decide +kernel
theorem ndR_put_22 : decode ncR_put 22 = .ok (.getfield 13, 3) := by decide +kernel
theorem ndR_put_25 : decode ncR_put 25 = .ok (.iload_n 1, 1) := by decide +kernel
theorem ndR_put_26 : decode ncR_put 26 = .ok (.iload_n 2, 1) := by decide +kernel
theorem ndR_put_27 : decode ncR_put 27 = .ok (.iastore, 1) := by decide +kernel
theorem ndR_put_28 : decode ncR_put 28 = .ok (.return_, 1) := by decide +kernel
theorem ndR_at_0 : decode ncR_at 0 = .ok (.iload_n 1, 1) := by decide +kernel
theorem ndR_at_1 : decode ncR_at 1 = .ok (.ifCond .lt 29, 3) := by decide +kernel
theorem ndR_at_4 : decode ncR_at 4 = .ok (.iload_n 1, 1) := by decide +kernel
theorem ndR_at_5 : decode ncR_at 5 = .ok (.aload_n 0, 1) := by decide +kernel
theorem ndR_at_6 : decode ncR_at 6 = .ok (.getfield 7, 3) := by decide +kernel
theorem ndR_at_9 : decode ncR_at 9 = .ok (.if_icmp .ge 21, 3) := by decide +kernel
theorem ndR_at_12 : decode ncR_at 12 = .ok (.iload_n 1, 1) := by decide +kernel
theorem ndR_at_13 : decode ncR_at 13 = .ok (.aload_n 0, 1) := by decide +kernel
theorem ndR_at_14 : decode ncR_at 14 = .ok (.getfield 13, 3) := by decide +kernel
theorem ndR_at_17 : decode ncR_at 17 = .ok (.arraylength, 1) := by decide +kernel
theorem ndR_at_18 : decode ncR_at 18 = .ok (.if_icmp .ge 12, 3) := by decide +kernel
theorem ndR_at_21 : decode ncR_at 21 = .ok (.aload_n 0, 1) := by decide +kernel
theorem ndR_at_22 : decode ncR_at 22 = .ok (.getfield 13, 3) := by decide +kernel
theorem ndR_at_25 : decode ncR_at 25 = .ok (.iload_n 1, 1) := by decide +kernel
theorem ndR_at_26 : decode ncR_at 26 = .ok (.iaload, 1) := by decide +kernel
theorem ndR_at_27 : decode ncR_at 27 = .ok (.goto 4, 3) := by decide +kernel
theorem ndR_at_30 : decode ncR_at 30 = .ok (.iconst (-1), 1) := by decide +kernel
theorem ndR_at_31 : decode ncR_at 31 = .ok (.ireturn, 1) := by decide +kernel
theorem ndR_remainder_0 : decode ncR_remainder 0 = .ok (.iconst 0, 1) := by decide +kernel
theorem ndR_remainder_1 : decode ncR_remainder 1 = .ok (.istore_n 1, 1) := by decide +kernel
theorem ndR_remainder_2 : decode ncR_remainder 2 = .ok (.iconst 0, 1) := by decide +kernel
theorem ndR_remainder_3 : decode ncR_remainder 3 = .ok (.istore_n 2, 1) := by decide +kernel
theorem ndR_remainder_4 : decode ncR_remainder 4 = .ok (.iload_n 2, 1) := by decide +kernel
theorem ndR_remainder_5 : decode ncR_remainder 5 = .ok (.aload_n 0, 1) := by decide +kernel
theorem ndR_remainder_6 : decode ncR_remainder 6 = .ok (.getfield 7, 3) := by decide +kernel
theorem ndR_remainder_9 : decode ncR_remainder 9 = .ok (.if_icmp .ge 39, 3) := by decide +kernel
theorem ndR_remainder_12 : decode ncR_remainder 12 = .ok (.aload_n 0, 1) := by decide +kernel
theorem ndR_remainder_13 : decode ncR_remainder 13 = .ok (.iload_n 2, 1) := by decide +kernel
theorem ndR_remainder_14 : decode ncR_remainder 14 = .ok (.invokevirtual 17, 3) := by decide +kernel
theorem ndR_remainder_17 : decode ncR_remainder 17 = .ok (.invokestatic 21, 3) := by decide +kernel
theorem ndR_remainder_20 : decode ncR_remainder 20 = .ok (.istore_n 3, 1) := by decide +kernel
theorem ndR_remainder_21 : decode ncR_remainder 21 = .ok (.iload_n 1, 1) := by decide +kernel
theorem ndR_remainder_22 : decode ncR_remainder 22 = .ok (.iload_n 3, 1) := by decide +kernel
theorem ndR_remainder_23 : decode ncR_remainder 23 = .ok (.bipush 10, 2) := by decide +kernel
theorem ndR_remainder_25 : decode ncR_remainder 25 = .ok (.if_icmp .ge 8, 3) := by decide +kernel
theorem ndR_remainder_28 : decode ncR_remainder 28 = .ok (.bipush 10, 2) := by decide +kernel
theorem ndR_remainder_30 : decode ncR_remainder 30 = .ok (.goto 5, 3) := by decide +kernel
theorem ndR_remainder_33 : decode ncR_remainder 33 = .ok (.bipush 100, 2) := by decide +kernel
theorem ndR_remainder_35 : decode ncR_remainder 35 = .ok (.imul, 1) := by decide +kernel
theorem ndR_remainder_36 : decode ncR_remainder 36 = .ok (.iload_n 3, 1) := by decide +kernel
theorem ndR_remainder_37 : decode ncR_remainder 37 = .ok (.iadd, 1) := by decide +kernel
theorem ndR_remainder_38 : decode ncR_remainder 38 = .ok (.bipush 97, 2) := by decide +kernel
theorem ndR_remainder_40 : decode ncR_remainder 40 = .ok (.irem, 1) := by decide +kernel
theorem ndR_remainder_41 : decode ncR_remainder 41 = .ok (.istore_n 1, 1) := by decide +kernel
theorem ndR_remainder_42 : decode ncR_remainder 42 = .ok (.iinc 2 1, 3) := by decide +kernel
theorem ndR_remainder_45 : decode ncR_remainder 45 = .ok (.goto (-41), 3) := by decide +kernel
theorem ndR_remainder_48 : decode ncR_remainder 48 = .ok (.iload_n 1, 1) := by decide +kernel
theorem ndR_remainder_49 : decode ncR_remainder 49 = .ok (.ireturn, 1) := by decide +kernel
theorem ndL_law_0 : decode ncL_law 0 = .ok (.new 7, 3) := by decide +kernel
theorem ndL_law_3 : decode ncL_law 3 = .ok (.dup, 1) := by decide +kernel
theorem ndL_law_4 : decode ncL_law 4 = .ok (.invokespecial 9, 3) := by decide +kernel
theorem ndL_law_7 : decode ncL_law 7 = .ok (.astore_n 1, 1) := by decide +kernel
theorem ndL_law_8 : decode ncL_law 8 = .ok (.new 10, 3) := by decide +kernel
theorem ndL_law_11 : decode ncL_law 11 = .ok (.dup, 1) := by decide +kernel
theorem ndL_law_12 : decode ncL_law 12 = .ok (.invokespecial 12, 3) := by decide +kernel
theorem ndL_law_15 : decode ncL_law 15 = .ok (.astore_n 2, 1) := by decide +kernel
theorem ndL_law_16 : decode ncL_law 16 = .ok (.iconst 0, 1) := by decide +kernel
theorem ndL_law_17 : decode ncL_law 17 = .ok (.istore_n 3, 1) := by decide +kernel
theorem ndL_law_18 : decode ncL_law 18 = .ok (.iload_n 3, 1) := by decide +kernel
theorem ndL_law_19 : decode ncL_law 19 = .ok (.aload_n 0, 1) := by decide +kernel
theorem ndL_law_20 : decode ncL_law 20 = .ok (.arraylength, 1) := by decide +kernel
theorem ndL_law_21 : decode ncL_law 21 = .ok (.iconst 4, 1) := by decide +kernel
theorem ndL_law_22 : decode ncL_law 22 = .ok (.isub, 1) := by decide +kernel
theorem ndL_law_23 : decode ncL_law 23 = .ok (.if_icmp .gt 332, 3) := by decide +kernel
theorem ndL_law_26 : decode ncL_law 26 = .ok (.aload_n 0, 1) := by decide +kernel
theorem ndL_law_27 : decode ncL_law 27 = .ok (.iload_n 3, 1) := by decide +kernel
theorem ndL_law_28 : decode ncL_law 28 = .ok (.iaload, 1) := by decide +kernel
theorem ndL_law_29 : decode ncL_law 29 = .ok (.bipush 15, 2) := by decide +kernel
theorem ndL_law_31 : decode ncL_law 31 = .ok (.iand, 1) := by decide +kernel
theorem ndL_law_32 : decode ncL_law 32 = .ok (.tableswitch 317 0 9 #[56, 119, 132, 145, 168, 192, 215, 268, 281, 304], 56) := by decide +kernel
theorem ndL_law_88 : decode ncL_law 88 = .ok (.aload_n 1, 1) := by decide +kernel
theorem ndL_law_89 : decode ncL_law 89 = .ok (.aload_n 0, 1) := by decide +kernel
theorem ndL_law_90 : decode ncL_law 90 = .ok (.iload_n 3, 1) := by decide +kernel
theorem ndL_law_91 : decode ncL_law 91 = .ok (.iconst 1, 1) := by decide +kernel
theorem ndL_law_92 : decode ncL_law 92 = .ok (.iadd, 1) := by decide +kernel
theorem ndL_law_93 : decode ncL_law 93 = .ok (.iaload, 1) := by decide +kernel
theorem ndL_law_94 : decode ncL_law 94 = .ok (.i2l, 1) := by decide +kernel
theorem ndL_law_95 : decode ncL_law 95 = .ok (.bipush 32, 2) := by decide +kernel
theorem ndL_law_97 : decode ncL_law 97 = .ok (.lshl, 1) := by decide +kernel
theorem ndL_law_98 : decode ncL_law 98 = .ok (.aload_n 0, 1) := by decide +kernel
theorem ndL_law_99 : decode ncL_law 99 = .ok (.iload_n 3, 1) := by decide +kernel
theorem ndL_law_100 : decode ncL_law 100 = .ok (.iconst 2, 1) := by decide +kernel
theorem ndL_law_101 : decode ncL_law 101 = .ok (.iadd, 1) := by decide +kernel
theorem ndL_law_102 : decode ncL_law 102 = .ok (.iaload, 1) := by decide +kernel
theorem ndL_law_103 : decode ncL_law 103 = .ok (.i2l, 1) := by decide +kernel
theorem ndL_law_104 : decode ncL_law 104 = .ok (.ldc2_w 13, 3) := by decide +kernel
theorem ndL_law_107 : decode ncL_law 107 = .ok (.land, 1) := by decide +kernel
theorem ndL_law_108 : decode ncL_law 108 = .ok (.lor, 1) := by decide +kernel
theorem ndL_law_109 : decode ncL_law 109 = .ok (.aload_n 0, 1) := by decide +kernel
theorem ndL_law_110 : decode ncL_law 110 = .ok (.iload_n 3, 1) := by decide +kernel
theorem ndL_law_111 : decode ncL_law 111 = .ok (.iconst 3, 1) := by decide +kernel
theorem ndL_law_112 : decode ncL_law 112 = .ok (.iadd, 1) := by decide +kernel
theorem ndL_law_113 : decode ncL_law 113 = .ok (.iaload, 1) := by decide +kernel
theorem ndL_law_114 : decode ncL_law 114 = .ok (.invokevirtual 15, 3) := by decide +kernel
theorem ndL_law_117 : decode ncL_law 117 = .ok (.aload_n 2, 1) := by decide +kernel
theorem ndL_law_118 : decode ncL_law 118 = .ok (.aload_n 0, 1) := by decide +kernel
theorem ndL_law_119 : decode ncL_law 119 = .ok (.iload_n 3, 1) := by decide +kernel
theorem ndL_law_120 : decode ncL_law 120 = .ok (.iconst 1, 1) := by decide +kernel
theorem ndL_law_121 : decode ncL_law 121 = .ok (.iadd, 1) := by decide +kernel
theorem ndL_law_122 : decode ncL_law 122 = .ok (.iaload, 1) := by decide +kernel
theorem ndL_law_123 : decode ncL_law 123 = .ok (.i2l, 1) := by decide +kernel
theorem ndL_law_124 : decode ncL_law 124 = .ok (.bipush 32, 2) := by decide +kernel
theorem ndL_law_126 : decode ncL_law 126 = .ok (.lshl, 1) := by decide +kernel
theorem ndL_law_127 : decode ncL_law 127 = .ok (.aload_n 0, 1) := by decide +kernel
theorem ndL_law_128 : decode ncL_law 128 = .ok (.iload_n 3, 1) := by decide +kernel
theorem ndL_law_129 : decode ncL_law 129 = .ok (.iconst 2, 1) := by decide +kernel
theorem ndL_law_130 : decode ncL_law 130 = .ok (.iadd, 1) := by decide +kernel
theorem ndL_law_131 : decode ncL_law 131 = .ok (.iaload, 1) := by decide +kernel
theorem ndL_law_132 : decode ncL_law 132 = .ok (.i2l, 1) := by decide +kernel
theorem ndL_law_133 : decode ncL_law 133 = .ok (.ldc2_w 13, 3) := by decide +kernel
theorem ndL_law_136 : decode ncL_law 136 = .ok (.land, 1) := by decide +kernel
theorem ndL_law_137 : decode ncL_law 137 = .ok (.lor, 1) := by decide +kernel
theorem ndL_law_138 : decode ncL_law 138 = .ok (.aload_n 0, 1) := by decide +kernel
theorem ndL_law_139 : decode ncL_law 139 = .ok (.iload_n 3, 1) := by decide +kernel
theorem ndL_law_140 : decode ncL_law 140 = .ok (.iconst 3, 1) := by decide +kernel
theorem ndL_law_141 : decode ncL_law 141 = .ok (.iadd, 1) := by decide +kernel
theorem ndL_law_142 : decode ncL_law 142 = .ok (.iaload, 1) := by decide +kernel
theorem ndL_law_143 : decode ncL_law 143 = .ok (.invokevirtual 19, 3) := by decide +kernel
theorem ndL_law_146 : decode ncL_law 146 = .ok (.if_icmp .eq 203, 3) := by decide +kernel
theorem ndL_law_149 : decode ncL_law 149 = .ok (.iconst 0, 1) := by decide +kernel
theorem ndL_law_150 : decode ncL_law 150 = .ok (.ireturn, 1) := by decide +kernel
theorem ndL_law_151 : decode ncL_law 151 = .ok (.aload_n 1, 1) := by decide +kernel
theorem ndL_law_152 : decode ncL_law 152 = .ok (.invokevirtual 20, 3) := by decide +kernel
theorem ndL_law_155 : decode ncL_law 155 = .ok (.aload_n 2, 1) := by decide +kernel
theorem ndL_law_156 : decode ncL_law 156 = .ok (.invokevirtual 24, 3) := by decide +kernel
theorem ndL_law_159 : decode ncL_law 159 = .ok (.if_icmp .eq 190, 3) := by decide +kernel
theorem ndL_law_162 : decode ncL_law 162 = .ok (.iconst 0, 1) := by decide +kernel
theorem ndL_law_163 : decode ncL_law 163 = .ok (.ireturn, 1) := by decide +kernel
theorem ndL_law_164 : decode ncL_law 164 = .ok (.aload_n 1, 1) := by decide +kernel
theorem ndL_law_165 : decode ncL_law 165 = .ok (.invokevirtual 25, 3) := by decide +kernel
theorem ndL_law_168 : decode ncL_law 168 = .ok (.aload_n 2, 1) := by decide +kernel
theorem ndL_law_169 : decode ncL_law 169 = .ok (.invokevirtual 28, 3) := by decide +kernel
theorem ndL_law_172 : decode ncL_law 172 = .ok (.if_icmp .eq 177, 3) := by decide +kernel
theorem ndL_law_175 : decode ncL_law 175 = .ok (.iconst 0, 1) := by decide +kernel
theorem ndL_law_176 : decode ncL_law 176 = .ok (.ireturn, 1) := by decide +kernel
theorem ndL_law_177 : decode ncL_law 177 = .ok (.aload_n 1, 1) := by decide +kernel
theorem ndL_law_178 : decode ncL_law 178 = .ok (.aload_n 0, 1) := by decide +kernel
theorem ndL_law_179 : decode ncL_law 179 = .ok (.iload_n 3, 1) := by decide +kernel
theorem ndL_law_180 : decode ncL_law 180 = .ok (.iconst 1, 1) := by decide +kernel
theorem ndL_law_181 : decode ncL_law 181 = .ok (.iadd, 1) := by decide +kernel
theorem ndL_law_182 : decode ncL_law 182 = .ok (.iaload, 1) := by decide +kernel
theorem ndL_law_183 : decode ncL_law 183 = .ok (.invokevirtual 29, 3) := by decide +kernel
theorem ndL_law_186 : decode ncL_law 186 = .ok (.aload_n 2, 1) := by decide +kernel
theorem ndL_law_187 : decode ncL_law 187 = .ok (.aload_n 0, 1) := by decide +kernel
theorem ndL_law_188 : decode ncL_law 188 = .ok (.iload_n 3, 1) := by decide +kernel
theorem ndL_law_189 : decode ncL_law 189 = .ok (.iconst 1, 1) := by decide +kernel
theorem ndL_law_190 : decode ncL_law 190 = .ok (.iadd, 1) := by decide +kernel
theorem ndL_law_191 : decode ncL_law 191 = .ok (.iaload, 1) := by decide +kernel
theorem ndL_law_192 : decode ncL_law 192 = .ok (.invokevirtual 33, 3) := by decide +kernel
theorem ndL_law_195 : decode ncL_law 195 = .ok (.if_icmp .eq 154, 3) := by decide +kernel
theorem ndL_law_198 : decode ncL_law 198 = .ok (.iconst 0, 1) := by decide +kernel
theorem ndL_law_199 : decode ncL_law 199 = .ok (.ireturn, 1) := by decide +kernel
theorem ndL_law_200 : decode ncL_law 200 = .ok (.aload_n 1, 1) := by decide +kernel
theorem ndL_law_201 : decode ncL_law 201 = .ok (.aload_n 0, 1) := by decide +kernel
theorem ndL_law_202 : decode ncL_law 202 = .ok (.iload_n 3, 1) := by decide +kernel
theorem ndL_law_203 : decode ncL_law 203 = .ok (.iconst 1, 1) := by decide +kernel
theorem ndL_law_204 : decode ncL_law 204 = .ok (.iadd, 1) := by decide +kernel
theorem ndL_law_205 : decode ncL_law 205 = .ok (.iaload, 1) := by decide +kernel
theorem ndL_law_206 : decode ncL_law 206 = .ok (.invokevirtual 34, 3) := by decide +kernel
theorem ndL_law_209 : decode ncL_law 209 = .ok (.aload_n 2, 1) := by decide +kernel
theorem ndL_law_210 : decode ncL_law 210 = .ok (.aload_n 0, 1) := by decide +kernel
theorem ndL_law_211 : decode ncL_law 211 = .ok (.iload_n 3, 1) := by decide +kernel
theorem ndL_law_212 : decode ncL_law 212 = .ok (.iconst 1, 1) := by decide +kernel
theorem ndL_law_213 : decode ncL_law 213 = .ok (.iadd, 1) := by decide +kernel
theorem ndL_law_214 : decode ncL_law 214 = .ok (.iaload, 1) := by decide +kernel
theorem ndL_law_215 : decode ncL_law 215 = .ok (.invokevirtual 38, 3) := by decide +kernel
theorem ndL_law_218 : decode ncL_law 218 = .ok (.lcmp, 1) := by decide +kernel
theorem ndL_law_219 : decode ncL_law 219 = .ok (.ifCond .eq 130, 3) := by decide +kernel
theorem ndL_law_222 : decode ncL_law 222 = .ok (.iconst 0, 1) := by decide +kernel
theorem ndL_law_223 : decode ncL_law 223 = .ok (.ireturn, 1) := by decide +kernel
theorem ndL_law_224 : decode ncL_law 224 = .ok (.aload_n 1, 1) := by decide +kernel
theorem ndL_law_225 : decode ncL_law 225 = .ok (.aload_n 0, 1) := by decide +kernel
theorem ndL_law_226 : decode ncL_law 226 = .ok (.iload_n 3, 1) := by decide +kernel
theorem ndL_law_227 : decode ncL_law 227 = .ok (.iconst 1, 1) := by decide +kernel
theorem ndL_law_228 : decode ncL_law 228 = .ok (.iadd, 1) := by decide +kernel
theorem ndL_law_229 : decode ncL_law 229 = .ok (.iaload, 1) := by decide +kernel
theorem ndL_law_230 : decode ncL_law 230 = .ok (.invokevirtual 39, 3) := by decide +kernel
theorem ndL_law_233 : decode ncL_law 233 = .ok (.aload_n 2, 1) := by decide +kernel
theorem ndL_law_234 : decode ncL_law 234 = .ok (.aload_n 0, 1) := by decide +kernel
theorem ndL_law_235 : decode ncL_law 235 = .ok (.iload_n 3, 1) := by decide +kernel
theorem ndL_law_236 : decode ncL_law 236 = .ok (.iconst 1, 1) := by decide +kernel
theorem ndL_law_237 : decode ncL_law 237 = .ok (.iadd, 1) := by decide +kernel
theorem ndL_law_238 : decode ncL_law 238 = .ok (.iaload, 1) := by decide +kernel
theorem ndL_law_239 : decode ncL_law 239 = .ok (.invokevirtual 43, 3) := by decide +kernel
theorem ndL_law_242 : decode ncL_law 242 = .ok (.if_icmp .eq 107, 3) := by decide +kernel
theorem ndL_law_245 : decode ncL_law 245 = .ok (.iconst 0, 1) := by decide +kernel
theorem ndL_law_246 : decode ncL_law 246 = .ok (.ireturn, 1) := by decide +kernel
theorem ndL_law_247 : decode ncL_law 247 = .ok (.aload_n 1, 1) := by decide +kernel
theorem ndL_law_248 : decode ncL_law 248 = .ok (.aload_n 0, 1) := by decide +kernel
theorem ndL_law_249 : decode ncL_law 249 = .ok (.iload_n 3, 1) := by decide +kernel
theorem ndL_law_250 : decode ncL_law 250 = .ok (.iconst 1, 1) := by decide +kernel
theorem ndL_law_251 : decode ncL_law 251 = .ok (.iadd, 1) := by decide +kernel
theorem ndL_law_252 : decode ncL_law 252 = .ok (.iaload, 1) := by decide +kernel
theorem ndL_law_253 : decode ncL_law 253 = .ok (.i2l, 1) := by decide +kernel
theorem ndL_law_254 : decode ncL_law 254 = .ok (.bipush 32, 2) := by decide +kernel
theorem ndL_law_256 : decode ncL_law 256 = .ok (.lshl, 1) := by decide +kernel
theorem ndL_law_257 : decode ncL_law 257 = .ok (.aload_n 0, 1) := by decide +kernel
theorem ndL_law_258 : decode ncL_law 258 = .ok (.iload_n 3, 1) := by decide +kernel
theorem ndL_law_259 : decode ncL_law 259 = .ok (.iconst 2, 1) := by decide +kernel
theorem ndL_law_260 : decode ncL_law 260 = .ok (.iadd, 1) := by decide +kernel
theorem ndL_law_261 : decode ncL_law 261 = .ok (.iaload, 1) := by decide +kernel
theorem ndL_law_262 : decode ncL_law 262 = .ok (.i2l, 1) := by decide +kernel
theorem ndL_law_263 : decode ncL_law 263 = .ok (.ldc2_w 13, 3) := by decide +kernel
theorem ndL_law_266 : decode ncL_law 266 = .ok (.land, 1) := by decide +kernel
theorem ndL_law_267 : decode ncL_law 267 = .ok (.lor, 1) := by decide +kernel
theorem ndL_law_268 : decode ncL_law 268 = .ok (.invokevirtual 44, 3) := by decide +kernel
theorem ndL_law_271 : decode ncL_law 271 = .ok (.aload_n 2, 1) := by decide +kernel
theorem ndL_law_272 : decode ncL_law 272 = .ok (.aload_n 0, 1) := by decide +kernel
theorem ndL_law_273 : decode ncL_law 273 = .ok (.iload_n 3, 1) := by decide +kernel
theorem ndL_law_274 : decode ncL_law 274 = .ok (.iconst 1, 1) := by decide +kernel
theorem ndL_law_275 : decode ncL_law 275 = .ok (.iadd, 1) := by decide +kernel
theorem ndL_law_276 : decode ncL_law 276 = .ok (.iaload, 1) := by decide +kernel
theorem ndL_law_277 : decode ncL_law 277 = .ok (.i2l, 1) := by decide +kernel
theorem ndL_law_278 : decode ncL_law 278 = .ok (.bipush 32, 2) := by decide +kernel
theorem ndL_law_280 : decode ncL_law 280 = .ok (.lshl, 1) := by decide +kernel
theorem ndL_law_281 : decode ncL_law 281 = .ok (.aload_n 0, 1) := by decide +kernel
theorem ndL_law_282 : decode ncL_law 282 = .ok (.iload_n 3, 1) := by decide +kernel
theorem ndL_law_283 : decode ncL_law 283 = .ok (.iconst 2, 1) := by decide +kernel
theorem ndL_law_284 : decode ncL_law 284 = .ok (.iadd, 1) := by decide +kernel
theorem ndL_law_285 : decode ncL_law 285 = .ok (.iaload, 1) := by decide +kernel
theorem ndL_law_286 : decode ncL_law 286 = .ok (.i2l, 1) := by decide +kernel
theorem ndL_law_287 : decode ncL_law 287 = .ok (.ldc2_w 13, 3) := by decide +kernel
theorem ndL_law_290 : decode ncL_law 290 = .ok (.land, 1) := by decide +kernel
theorem ndL_law_291 : decode ncL_law 291 = .ok (.lor, 1) := by decide +kernel
theorem ndL_law_292 : decode ncL_law 292 = .ok (.invokevirtual 48, 3) := by decide +kernel
theorem ndL_law_295 : decode ncL_law 295 = .ok (.if_icmp .eq 54, 3) := by decide +kernel
theorem ndL_law_298 : decode ncL_law 298 = .ok (.iconst 0, 1) := by decide +kernel
theorem ndL_law_299 : decode ncL_law 299 = .ok (.ireturn, 1) := by decide +kernel
theorem ndL_law_300 : decode ncL_law 300 = .ok (.aload_n 1, 1) := by decide +kernel
theorem ndL_law_301 : decode ncL_law 301 = .ok (.invokevirtual 49, 3) := by decide +kernel
theorem ndL_law_304 : decode ncL_law 304 = .ok (.aload_n 2, 1) := by decide +kernel
theorem ndL_law_305 : decode ncL_law 305 = .ok (.invokevirtual 52, 3) := by decide +kernel
theorem ndL_law_308 : decode ncL_law 308 = .ok (.if_icmp .eq 41, 3) := by decide +kernel
theorem ndL_law_311 : decode ncL_law 311 = .ok (.iconst 0, 1) := by decide +kernel
theorem ndL_law_312 : decode ncL_law 312 = .ok (.ireturn, 1) := by decide +kernel
theorem ndL_law_313 : decode ncL_law 313 = .ok (.aload_n 1, 1) := by decide +kernel
theorem ndL_law_314 : decode ncL_law 314 = .ok (.aload_n 0, 1) := by decide +kernel
theorem ndL_law_315 : decode ncL_law 315 = .ok (.iload_n 3, 1) := by decide +kernel
theorem ndL_law_316 : decode ncL_law 316 = .ok (.iconst 1, 1) := by decide +kernel
theorem ndL_law_317 : decode ncL_law 317 = .ok (.iadd, 1) := by decide +kernel
theorem ndL_law_318 : decode ncL_law 318 = .ok (.iaload, 1) := by decide +kernel
theorem ndL_law_319 : decode ncL_law 319 = .ok (.invokevirtual 53, 3) := by decide +kernel
theorem ndL_law_322 : decode ncL_law 322 = .ok (.aload_n 2, 1) := by decide +kernel
theorem ndL_law_323 : decode ncL_law 323 = .ok (.aload_n 0, 1) := by decide +kernel
theorem ndL_law_324 : decode ncL_law 324 = .ok (.iload_n 3, 1) := by decide +kernel
theorem ndL_law_325 : decode ncL_law 325 = .ok (.iconst 1, 1) := by decide +kernel
theorem ndL_law_326 : decode ncL_law 326 = .ok (.iadd, 1) := by decide +kernel
theorem ndL_law_327 : decode ncL_law 327 = .ok (.iaload, 1) := by decide +kernel
theorem ndL_law_328 : decode ncL_law 328 = .ok (.invokevirtual 56, 3) := by decide +kernel
theorem ndL_law_331 : decode ncL_law 331 = .ok (.if_icmp .eq 18, 3) := by decide +kernel
theorem ndL_law_334 : decode ncL_law 334 = .ok (.iconst 0, 1) := by decide +kernel
theorem ndL_law_335 : decode ncL_law 335 = .ok (.ireturn, 1) := by decide +kernel
theorem ndL_law_336 : decode ncL_law 336 = .ok (.aload_n 1, 1) := by decide +kernel
theorem ndL_law_337 : decode ncL_law 337 = .ok (.invokevirtual 57, 3) := by decide +kernel
theorem ndL_law_340 : decode ncL_law 340 = .ok (.aload_n 2, 1) := by decide +kernel
theorem ndL_law_341 : decode ncL_law 341 = .ok (.invokevirtual 61, 3) := by decide +kernel
theorem ndL_law_344 : decode ncL_law 344 = .ok (.if_icmp .eq 5, 3) := by decide +kernel
theorem ndL_law_347 : decode ncL_law 347 = .ok (.iconst 0, 1) := by decide +kernel
theorem ndL_law_348 : decode ncL_law 348 = .ok (.ireturn, 1) := by decide +kernel
theorem ndL_law_349 : decode ncL_law 349 = .ok (.iinc 3 4, 3) := by decide +kernel
theorem ndL_law_352 : decode ncL_law 352 = .ok (.goto (-334), 3) := by decide +kernel
theorem ndL_law_355 : decode ncL_law 355 = .ok (.iconst 1, 1) := by decide +kernel
theorem ndL_law_356 : decode ncL_law 356 = .ok (.ireturn, 1) := by decide +kernel
end
section
theorem ndS_length_0 : decode ncS_length 0 = .ok (.aload_n 0, 1) := by decide +kernel
theorem ndS_length_1 : decode ncS_length 1 = .ok (.getfield 9, 3) := by decide +kernel
theorem ndS_length_4 : decode ncS_length 4 = .ok (.arraylength, 1) := by decide +kernel
theorem ndS_length_5 : decode ncS_length 5 = .ok (.aload_n 0, 1) := by decide +kernel
theorem ndS_length_6 : decode ncS_length 6 = .ok (.invokevirtual 335, 3) := by decide +kernel
theorem ndS_length_9 : decode ncS_length 9 = .ok (.ishr, 1) := by decide +kernel
theorem ndS_length_10 : decode ncS_length 10 = .ok (.ireturn, 1) := by decide +kernel
theorem ndS_charAt_0 : decode ncS_charAt 0 = .ok (.aload_n 0, 1) := by decide +kernel
theorem ndS_charAt_1 : decode ncS_charAt 1 = .ok (.invokevirtual 492, 3) := by decide +kernel
theorem ndS_charAt_4 : decode ncS_charAt 4 = .ok (.ifCond .eq 12, 3) := by decide +kernel
theorem ndS_charAt_7 : decode ncS_charAt 7 = .ok (.aload_n 0, 1) := by decide +kernel
theorem ndS_charAt_8 : decode ncS_charAt 8 = .ok (.getfield 9, 3) := by decide +kernel
theorem ndS_charAt_11 : decode ncS_charAt 11 = .ok (.iload_n 1, 1) := by decide +kernel
theorem ndS_charAt_12 : decode ncS_charAt 12 = .ok (.invokestatic 495, 3) := by decide +kernel
theorem ndS_charAt_15 : decode ncS_charAt 15 = .ok (.ireturn, 1) := by decide +kernel
theorem ndS_charAt_16 : decode ncS_charAt 16 = .ok (.aload_n 0, 1) := by decide +kernel
theorem ndS_charAt_17 : decode ncS_charAt 17 = .ok (.getfield 9, 3) := by decide +kernel
theorem ndS_charAt_20 : decode ncS_charAt 20 = .ok (.iload_n 1, 1) := by decide +kernel
theorem ndS_charAt_21 : decode ncS_charAt 21 = .ok (.invokestatic 498, 3) := by decide +kernel
theorem ndS_charAt_24 : decode ncS_charAt 24 = .ok (.ireturn, 1) := by decide +kernel
theorem ndS_coder_0 : decode ncS_coder 0 = .ok (.getstatic 38, 3) := by decide +kernel
theorem ndS_coder_3 : decode ncS_coder 3 = .ok (.ifCond .eq 10, 3) := by decide +kernel
theorem ndS_coder_6 : decode ncS_coder 6 = .ok (.aload_n 0, 1) := by decide +kernel
theorem ndS_coder_7 : decode ncS_coder 7 = .ok (.getfield 15, 3) := by decide +kernel
theorem ndS_coder_10 : decode ncS_coder 10 = .ok (.goto 4, 3) := by decide +kernel
theorem ndS_coder_13 : decode ncS_coder 13 = .ok (.iconst 1, 1) := by decide +kernel
theorem ndS_coder_14 : decode ncS_coder 14 = .ok (.ireturn, 1) := by decide +kernel
theorem ndS_isLatin1_0 : decode ncS_isLatin1 0 = .ok (.getstatic 38, 3) := by decide +kernel
theorem ndS_isLatin1_3 : decode ncS_isLatin1 3 = .ok (.ifCond .eq 14, 3) := by decide +kernel
theorem ndS_isLatin1_6 : decode ncS_isLatin1 6 = .ok (.aload_n 0, 1) := by decide +kernel
theorem ndS_isLatin1_7 : decode ncS_isLatin1 7 = .ok (.getfield 15, 3) := by decide +kernel
theorem ndS_isLatin1_10 : decode ncS_isLatin1 10 = .ok (.ifCond .ne 7, 3) := by decide +kernel
theorem ndS_isLatin1_13 : decode ncS_isLatin1 13 = .ok (.iconst 1, 1) := by decide +kernel
theorem ndS_isLatin1_14 : decode ncS_isLatin1 14 = .ok (.goto 4, 3) := by decide +kernel
theorem ndS_isLatin1_17 : decode ncS_isLatin1 17 = .ok (.iconst 0, 1) := by decide +kernel
theorem ndS_isLatin1_18 : decode ncS_isLatin1 18 = .ok (.ireturn, 1) := by decide +kernel
theorem ndT_charAt_0 : decode ncT_charAt 0 = .ok (.iload_n 1, 1) := by decide +kernel
theorem ndT_charAt_1 : decode ncT_charAt 1 = .ok (.aload_n 0, 1) := by decide +kernel
theorem ndT_charAt_2 : decode ncT_charAt 2 = .ok (.arraylength, 1) := by decide +kernel
theorem ndT_charAt_3 : decode ncT_charAt 3 = .ok (.invokestatic 9, 3) := by decide +kernel
theorem ndT_charAt_6 : decode ncT_charAt 6 = .ok (.aload_n 0, 1) := by decide +kernel
theorem ndT_charAt_7 : decode ncT_charAt 7 = .ok (.iload_n 1, 1) := by decide +kernel
theorem ndT_charAt_8 : decode ncT_charAt 8 = .ok (.baload, 1) := by decide +kernel
theorem ndT_charAt_9 : decode ncT_charAt 9 = .ok (.sipush 255, 3) := by decide +kernel
theorem ndT_charAt_12 : decode ncT_charAt 12 = .ok (.iand, 1) := by decide +kernel
theorem ndT_charAt_13 : decode ncT_charAt 13 = .ok (.i2c, 1) := by decide +kernel
theorem ndT_charAt_14 : decode ncT_charAt 14 = .ok (.ireturn, 1) := by decide +kernel
theorem ndS_checkIndex_0 : decode ncS_checkIndex 0 = .ok (.iload_n 0, 1) := by decide +kernel
theorem ndS_checkIndex_1 : decode ncS_checkIndex 1 = .ok (.iload_n 1, 1) := by decide +kernel
theorem ndS_checkIndex_2 : decode ncS_checkIndex 2 = .ok (.getstatic 1053, 3) := by decide +kernel
theorem ndS_checkIndex_5 : decode ncS_checkIndex 5 = .ok (.invokestatic 1059, 3) := by decide +kernel
theorem ndS_checkIndex_8 : decode ncS_checkIndex 8 = .ok (.pop, 1) := by decide +kernel
theorem ndS_checkIndex_9 : decode ncS_checkIndex 9 = .ok (.return_, 1) := by decide +kernel
theorem ndP_checkIndex_0 : decode ncP_checkIndex 0 = .ok (.iload_n 0, 1) := by decide +kernel
theorem ndP_checkIndex_1 : decode ncP_checkIndex 1 = .ok (.ifCond .lt 8, 3) := by decide +kernel
theorem ndP_checkIndex_4 : decode ncP_checkIndex 4 = .ok (.iload_n 0, 1) := by decide +kernel
theorem ndP_checkIndex_5 : decode ncP_checkIndex 5 = .ok (.iload_n 1, 1) := by decide +kernel
theorem ndP_checkIndex_6 : decode ncP_checkIndex 6 = .ok (.if_icmp .lt 10, 3) := by decide +kernel
theorem ndP_checkIndex_9 : decode ncP_checkIndex 9 = .ok (.aload_n 2, 1) := by decide +kernel
theorem ndP_checkIndex_10 : decode ncP_checkIndex 10 = .ok (.iload_n 0, 1) := by decide +kernel
theorem ndP_checkIndex_11 : decode ncP_checkIndex 11 = .ok (.iload_n 1, 1) := by decide +kernel
theorem ndP_checkIndex_12 : decode ncP_checkIndex 12 = .ok (.invokestatic 95, 3) := by decide +kernel
theorem ndP_checkIndex_15 : decode ncP_checkIndex 15 = .ok (.athrow, 1) := by decide +kernel
theorem ndP_checkIndex_16 : decode ncP_checkIndex 16 = .ok (.iload_n 0, 1) := by decide +kernel
theorem ndP_checkIndex_17 : decode ncP_checkIndex 17 = .ok (.ireturn, 1) := by decide +kernel
end
section
/-! RULES: a contract whose cells behind it are a function of those before it (nothing new is made), its opening, its return, and its call with the frame, each as one row. EV: what else of the machine a method may use (statics, literals, nest links). -/
section Rules
variable {p : Program} {l : Launch} {e : Env} {R : Room} {s : State} {m : MethodId} {args : Array Value} {below : List Frame} {meth : Method} {c : Code} {H : Heap} {locs : List Loc} {cells slots : Nat} {Q : State → Prop} {cc : ByteArray} {pc : Nat} {ls : Array Slot} {rest st0 : List Value}
  {D : va_G} {cl : List vw_C} {tys : List (ClassId × FieldType)} {EV : (Nat → Prop) → State → Heap → Prop} {A : Nat → Prop} {w wc wr wc' w2 : va_W}
def fd_Eok (EV : (Nat → Prop) → State → Heap → Prop) : Prop :=
  (∀ (A : Nat → Prop) (u U : State) (H : Heap), u.WarmedH U.vm → EV A u H → EV A U H) ∧
  (∀ (A : Nat → Prop) (U : State) (H : Heap) (g : JFrame) (mk : MethodId) (a : Array Value), EV A U H → EV A (U.calling g mk a) H) ∧
  (∀ (A : Nat → Prop) (U : State) (H H1 : Heap), EV A U H → (∀ q : Nat, q < H.size → ¬ A q → H1[q]? = H[q]?) → EV A U H1) ∧
  (∀ (A B : Nat → Prop) (U : State) (H : Heap), EV A U H → (∀ q, B q → A q) → EV B U H)
def fd_K (D : va_G) (cl : List vw_C) (tys : List (ClassId × FieldType)) (EV : (Nat → Prop) → State → Heap → Prop) (w : va_W) (sz : Nat) (U : State) : Prop :=
  U.heap.size = sz ∧ va_P D cl w U.heap ∧ va_K D cl tys U ∧ EV (va_A w sz) U U.heap ∧ va_D (fun _ => True) w
def fd_B (D : va_G) (cl : List vw_C) (A : Nat → Prop) (w' : va_W) (_ : Unit) (t : State) : Prop := va_P D cl w' t.heap ∧ va_D A w'
/-- contracts: int, long, nothing -/
def fd_Mi (l : Launch) (D : va_G) (cl : List vw_C) (tys : List (ClassId × FieldType)) (EV : (Nat → Prop) → State → Heap → Prop) (y : MethodName) (ws : List Cond) (rm : Room) (av : List Value) (w w' : va_W) (r : Int32) : Prop :=
  ∀ sz : Nat, Met l y ws rm (va_Pc av (fd_K D cl tys EV w sz)) (va_Qi (fun r' (_ : Unit) => r' = r) (fd_B D cl (va_A w sz) w') (va_A w sz)) 0 0 (va_A w sz)
def fd_Ml (l : Launch) (D : va_G) (cl : List vw_C) (tys : List (ClassId × FieldType)) (EV : (Nat → Prop) → State → Heap → Prop) (y : MethodName) (ws : List Cond) (rm : Room) (av : List Value) (w w' : va_W) (r : Int64) : Prop :=
  ∀ sz : Nat, Met l y ws rm (va_Pc av (fd_K D cl tys EV w sz)) (va_Ql (fun r' (_ : Unit) => r' = r) (fd_B D cl (va_A w sz) w') (va_A w sz)) 0 0 (va_A w sz)
def fd_Mv (l : Launch) (D : va_G) (cl : List vw_C) (tys : List (ClassId × FieldType)) (EV : (Nat → Prop) → State → Heap → Prop) (y : MethodName) (ws : List Cond) (rm : Room) (av : List Value) (w w' : va_W) : Prop :=
  ∀ sz : Nat, Met l y ws rm (va_Pc av (fd_K D cl tys EV w sz)) (va_Qv (fun (_ : Unit) => True) (fd_B D cl (va_A w sz) w') (va_A w sz)) 0 0 (va_A w sz)
theorem fd_blind (hE : fd_Eok EV) {av : List Value} {sz : Nat} : FrameBlind (va_Pc av (fd_K D cl tys EV w sz)) := fun a U g mk h => by
  obtain ⟨h0, h1, h2, h3, h4, h5⟩ := h
  exact ⟨h0, h1, h2, va_K.moved (u := U) (U := U.calling g mk a) (Vm.Alike.refl U.vm) h3, hE.2.1 _ U _ g mk a h4, h5⟩
theorem fd_fm {α : Type} {is : List Nat} {f : Nat → Option α} {ws : List α} (h : is.map f = ws.map some) : is.filterMap f = ws := by
  induction is generalizing ws with
  | nil => cases ws with
    | nil => rfl
    | cons a b => simp at h
  | cons i is ih => cases ws with
    | nil => simp at h
    | cons a b =>
      simp only [List.map_cons, List.cons.injEq] at h
      rw [List.filterMap_cons, h.1]
      simp only
      rw [ih h.2]
theorem fd_pre (hE : fd_Eok EV) (hK : va_K D cl tys s) (hEV : EV A s s.heap) (hA : ∀ q, s.heap.size ≤ q → A q) (hP : va_P D cl w H) (hD : va_D A w) (hS : va_S A s.heap H locs) (isC : List Nat) (hC : isC.map (fun i => w[i]?) = wc.map some) (hnC : va_nd isC = true) :
    ∀ U : State, U.heap = H → s.WarmedH U.vm → fd_K D cl tys EV wc H.size U := by
  intro U hU hW
  have h1 : EV A s H := hE.2.2.1 A s s.heap H hEV hS.2.1
  have h2 : EV (va_A wc H.size) s H := hE.2.2.2 A _ s H h1 (va_free (wc := wc) hD hS hA isC hC)
  have h3 : EV (va_A wc H.size) U H := hE.1 _ s U H hW h2
  refine ⟨by rw [hU], by rw [hU]; exact hP.sub isC (fd_fm hC), va_K.moved hW.alike hK, by rw [hU]; exact h3, (hD.sub isC hnC hC).weaken (fun _ _ _ _ => trivial)⟩
theorem fd_PreS (hE : fd_Eok EV) (hK : va_K D cl tys s) (hEV : EV A s s.heap) (hA : ∀ q, s.heap.size ≤ q → A q) (hP : va_P D cl w H) (hD : va_D A w) (hS : va_S A s.heap H locs) (isC : List Nat) (hC : isC.map (fun i => w[i]?) = wc.map some) (hnC : va_nd isC = true) {av : List Value} :
    PreS s H (va_Pc av (fd_K D cl tys EV wc H.size)) av := ⟨fd_blind hE, fun U hU hW => ⟨rfl, fd_pre hE hK hEV hA hP hD hS isC hC hnC U hU hW⟩⟩
theorem fd_PreV (hE : fd_Eok EV) (hK : va_K D cl tys s) (hEV : EV A s s.heap) (hA : ∀ q, s.heap.size ≤ q → A q) (hP : va_P D cl w H) (hD : va_D A w) (hS : va_S A s.heap H locs) (isC : List Nat) (hC : isC.map (fun i => w[i]?) = wc.map some) (hnC : va_nd isC = true) {b q0 ci : Nat} {q : vw_C} {fs : List Value} (hc : cl[ci]? = some q) (he : w[q0]? = some (b, .inr (ci, fs))) {As : List Value} :
    PreV s H q.1 b (va_Pc (.ref b :: As) (fd_K D cl tys EV wc H.size)) As := ⟨fd_blind hE, va_recv hK hP hc he, fun U hU hW => ⟨rfl, fd_pre hE hK hEV hA hP hD hS isC hC hnC U hU hW⟩⟩
/-- a receiver that is no cell of the world (a literal) -/
theorem fd_PreR (hE : fd_Eok EV) (hK : va_K D cl tys s) (hEV : EV A s s.heap) (hA : ∀ q, s.heap.size ≤ q → A q) (hP : va_P D cl w H) (hD : va_D A w) (hS : va_S A s.heap H locs) (isC : List Nat) (hC : isC.map (fun i => w[i]?) = wc.map some) (hnC : va_nd isC = true) {b : Nat} {C : String} (hr : ∃ cellB : Cell, H[b]? = some cellB ∧ cellB.vm.isStatics = false ∧ s.vm.findClass C = some cellB.cls) {As : List Value} :
    PreV s H C b (va_Pc (.ref b :: As) (fd_K D cl tys EV wc H.size)) As := ⟨fd_blind hE, hr, fun U hU hW => ⟨rfl, fd_pre hE hK hEV hA hP hD hS isC hC hnC U hU hW⟩⟩
/-- behind a call -/
theorem fd_go_i {r : Int32} {a : Array Value} (hr : va_Run p l e R s m args below meth c H locs cells slots 0 0 (F0 m pc ls st0) rest (va_Qi (fun r' (_ : Unit) => r' = r) (fd_B D cl (va_A wc H.size) wc') (va_A wc H.size) a) (va_A wc H.size))
    (hP : va_P D cl w H) (hD : va_D A w) (hS : va_S A s.heap H locs) (hA : ∀ q, s.heap.size ≤ q → A q)
    (isC isR : List Nat) (hC : isC.map (fun i => w[i]?) = wc.map some) (hR : isR.map (fun i => w[i]?) = wr.map some) (hn : va_nd isR = true) (hdis : ∀ i ∈ isR, i ∉ isC)
    (pm : List Nat) (hpm : pm.map (fun i => (wr ++ wc')[i]?) = w2.map some) (hpn : va_nd pm = true)
    (kk : ∀ (H1 : Heap) (locs1 : List Loc), va_P D cl w2 H1 → va_D A w2 → va_S A s.heap H1 locs1 → W p l e R s m args below meth c H1 locs1 cells slots Q (F0 m (pc + 3) ls (.int r :: rest))) :
    W p l e R s m args below meth c H locs cells slots Q (F0 m pc ls st0) := by
  have hFc := va_free (wc := wc) hD hS hA isC hC
  refine va_calli hr hS (fun q _ h => hFc q h) hFc (fun r' u t H1 locs1 ht hvm hw hB hz1 hk1 hS1 => ?_)
  obtain ⟨hP1, hD1⟩ := hB
  rw [ht] at hP1
  obtain ⟨hP2, hD2⟩ := va_join (wr := wr) (w1 := wc') hP hD isC isR hC hR hn hdis hk1 hFc hP1 hD1
  subst hw
  exact kk H1 locs1 (hP2.sub pm (fd_fm hpm)) (hD2.sub pm hpn hpm) hS1
theorem fd_go_l {r : Int64} {a : Array Value} (hr : va_Run p l e R s m args below meth c H locs cells slots 0 0 (F0 m pc ls st0) rest (va_Ql (fun r' (_ : Unit) => r' = r) (fd_B D cl (va_A wc H.size) wc') (va_A wc H.size) a) (va_A wc H.size))
    (hP : va_P D cl w H) (hD : va_D A w) (hS : va_S A s.heap H locs) (hA : ∀ q, s.heap.size ≤ q → A q)
    (isC isR : List Nat) (hC : isC.map (fun i => w[i]?) = wc.map some) (hR : isR.map (fun i => w[i]?) = wr.map some) (hn : va_nd isR = true) (hdis : ∀ i ∈ isR, i ∉ isC)
    (pm : List Nat) (hpm : pm.map (fun i => (wr ++ wc')[i]?) = w2.map some) (hpn : va_nd pm = true)
    (kk : ∀ (H1 : Heap) (locs1 : List Loc), va_P D cl w2 H1 → va_D A w2 → va_S A s.heap H1 locs1 → W p l e R s m args below meth c H1 locs1 cells slots Q (F0 m (pc + 3) ls (.long r :: rest))) :
    W p l e R s m args below meth c H locs cells slots Q (F0 m pc ls st0) := by
  have hFc := va_free (wc := wc) hD hS hA isC hC
  refine va_calll hr hS (fun q _ h => hFc q h) hFc (fun r' u t H1 locs1 ht hvm hw hB hz1 hk1 hS1 => ?_)
  obtain ⟨hP1, hD1⟩ := hB
  rw [ht] at hP1
  obtain ⟨hP2, hD2⟩ := va_join (wr := wr) (w1 := wc') hP hD isC isR hC hR hn hdis hk1 hFc hP1 hD1
  subst hw
  exact kk H1 locs1 (hP2.sub pm (fd_fm hpm)) (hD2.sub pm hpn hpm) hS1
theorem fd_go_v {a : Array Value} (hr : va_Run p l e R s m args below meth c H locs cells slots 0 0 (F0 m pc ls st0) rest (va_Qv (fun (_ : Unit) => True) (fd_B D cl (va_A wc H.size) wc') (va_A wc H.size) a) (va_A wc H.size))
    (hP : va_P D cl w H) (hD : va_D A w) (hS : va_S A s.heap H locs) (hA : ∀ q, s.heap.size ≤ q → A q)
    (isC isR : List Nat) (hC : isC.map (fun i => w[i]?) = wc.map some) (hR : isR.map (fun i => w[i]?) = wr.map some) (hn : va_nd isR = true) (hdis : ∀ i ∈ isR, i ∉ isC)
    (pm : List Nat) (hpm : pm.map (fun i => (wr ++ wc')[i]?) = w2.map some) (hpn : va_nd pm = true)
    (kk : ∀ (H1 : Heap) (locs1 : List Loc), va_P D cl w2 H1 → va_D A w2 → va_S A s.heap H1 locs1 → W p l e R s m args below meth c H1 locs1 cells slots Q (F0 m (pc + 3) ls rest)) :
    W p l e R s m args below meth c H locs cells slots Q (F0 m pc ls st0) := by
  have hFc := va_free (wc := wc) hD hS hA isC hC
  refine va_callv hr hS (fun q _ h => hFc q h) hFc (fun u t H1 locs1 ht hvm hw hB hz1 hk1 hS1 => ?_)
  obtain ⟨hP1, hD1⟩ := hB
  rw [ht] at hP1
  obtain ⟨hP2, hD2⟩ := va_join (wr := wr) (w1 := wc') hP hD isC isR hC hR hn hdis hk1 hFc hP1 hD1
  exact kk H1 locs1 (hP2.sub pm (fd_fm hpm)) (hD2.sub pm hpn hpm) hS1
/-- the return -/
theorem fd_ret_i {w' : va_W} {r v : Int32} {ty : FieldType} (hx : p.tables.exec = Jvm.exec) (hb : c.code = cc) (hr : meth.sig.returnType = some ty) (hlocks : meth.locks = false) (hS : va_S A s.heap H locs) (hP : va_P D cl w' H) (hD : va_D A w') (hn : narrow ty (.int v) = .int v) (hv : v = r) (hdg : decode cc pc = .ok (.ireturn, 1)) :
    W p l e R s m args below meth c H locs 0 0 (MQ below (va_Qi (fun r' (_ : Unit) => r' = r) (fd_B D cl A w') A) args s 0 0 A) (F0 m pc ls [.int v]) :=
  W.zret hx hb hr hn (fun t ht _ => ⟨⟨v, (), rfl, hv, by rw [ht]; exact hP, hD⟩, hS.F ht⟩) hS.2.2 hdg hlocks
theorem fd_ret_l {w' : va_W} {r v : Int64} (hx : p.tables.exec = Jvm.exec) (hb : c.code = cc) (hr : meth.sig.returnType = some .long) (hlocks : meth.locks = false) (hS : va_S A s.heap H locs) (hP : va_P D cl w' H) (hD : va_D A w') (hv : v = r) (hdg : decode cc pc = .ok (.lreturn, 1)) :
    W p l e R s m args below meth c H locs 0 0 (MQ below (va_Ql (fun r' (_ : Unit) => r' = r) (fd_B D cl A w') A) args s 0 0 A) (F0 m pc ls [.long v]) :=
  W.lret hx hb hr (fun t ht _ => ⟨⟨v, (), rfl, hv, by rw [ht]; exact hP, hD⟩, hS.F ht⟩) hS.2.2 hdg hlocks
theorem fd_ret_v {w' : va_W} (hx : p.tables.exec = Jvm.exec) (hb : c.code = cc) (hr : meth.sig.returnType = none) (hlocks : meth.locks = false) (hS : va_S A s.heap H locs) (hP : va_P D cl w' H) (hD : va_D A w') (hdg : decode cc pc = .ok (.return_, 1)) :
    W p l e R s m args below meth c H locs 0 0 (MQ below (va_Qv (fun (_ : Unit) => True) (fd_B D cl A w') A) args s 0 0 A) (F0 m pc ls []) :=
  W.vret hx hb hr (fun t ht _ => ⟨⟨(), rfl, trivial, by rw [ht]; exact hP, hD⟩, hS.F ht⟩) hS.2.2 hdg hlocks
theorem fd_asi {x y : Int32} (h : x = y) (k : W p l e R s m args below meth c H locs cells slots Q (F0 m pc ls (.int y :: rest))) : W p l e R s m args below meth c H locs cells slots Q (F0 m pc ls (.int x :: rest)) := h ▸ k
theorem fd_asl {x y : Int64} (h : x = y) (k : W p l e R s m args below meth c H locs cells slots Q (F0 m pc ls (.long y :: rest))) : W p l e R s m args below meth c H locs cells slots Q (F0 m pc ls (.long x :: rest)) := h ▸ k
end Rules
section Opens
variable {l : Launch} {cc : ByteArray} {D : va_G} {cl : List vw_C} {tys : List (ClassId × FieldType)} {EV : (Nat → Prop) → State → Heap → Prop} {w w' : va_W} {y : MethodName} {ws ws' : List Cond} {rm : Room} {maxL : Nat} {ret : Option FieldType} {av : List Value}
/-- what a method's body stands on -/
def fd_X (cc : ByteArray) (maxL : Nat) (ret : Option FieldType) (own : String) (ws : List Cond) (av : List Value) (D : va_G) (cl : List vw_C) (tys : List (ClassId × FieldType)) (EV : (Nat → Prop) → State → Heap → Prop) (A : Nat → Prop) (p : Program) (s : State) (m : MethodId) (meth : Method) (c : Code) : Prop :=
  p.tables.exec = Jvm.exec ∧ c.code = cc ∧ meth.sig.returnType = ret ∧ c.maxLocals = maxL ∧ s.vm.findClass own = some m.cls ∧ (∀ w ∈ ws, w.before av.toArray s = true) ∧ meth.locks = false ∧ va_K D cl tys s ∧ EV A s s.heap ∧ (∀ q, s.heap.size ≤ q → A q)
theorem fd_open_i {r : Int32} (hy : plainName y.cls = true) (hw : ws = Cond.code y cc maxL ret :: ws') (hfit : (lg_sl av).length ≤ maxL)
    (body : ∀ (p : Program) (e : Env) (s : State) (m : MethodId) (below : List Frame) (meth : Method) (c : Code) (A : Nat → Prop) (ls : Array Slot), fd_X cc maxL ret y.cls ws av D cl tys EV A p s m meth c → va_P D cl w s.heap → va_D A w → va_S A s.heap s.heap [] → lv_has ls maxL (lv_args 0 av) →
      W p l e rm s m av.toArray below meth c s.heap [] 0 0 (MQ below (va_Qi (fun r' (_ : Unit) => r' = r) (fd_B D cl A w') A) av.toArray s 0 0 A) (F0 m 0 ls [])) :
    fd_Mi l D cl tys EV y ws rm av w w' r := by
  intro sz
  refine Met.ofW (cc := cc) (maxL := maxL) (ret := ret) hy hw ?_
  intro p e s m args below meth c s₁ B hml hv
  obtain ⟨rfl, hsz, hP, hK, hEV, hD0⟩ := hv
  subst hsz
  have hl := lv_entry av (n := maxL) hfit
  rw [lg_entry_eq]
  exact body p e s m below meth c (va_A w s.heap.size) _ ⟨B.exec, B.bytes, B.returns, hml, findClass_of_methodNamed B.named, atoms_spec (ws := ws) B.pre, B.notSynchronized, hK, hEV, fun q h => Or.inr h⟩ hP hD0.self va_S.rf hl
theorem fd_open_l {r : Int64} (hy : plainName y.cls = true) (hw : ws = Cond.code y cc maxL ret :: ws') (hfit : (lg_sl av).length ≤ maxL)
    (body : ∀ (p : Program) (e : Env) (s : State) (m : MethodId) (below : List Frame) (meth : Method) (c : Code) (A : Nat → Prop) (ls : Array Slot), fd_X cc maxL ret y.cls ws av D cl tys EV A p s m meth c → va_P D cl w s.heap → va_D A w → va_S A s.heap s.heap [] → lv_has ls maxL (lv_args 0 av) →
      W p l e rm s m av.toArray below meth c s.heap [] 0 0 (MQ below (va_Ql (fun r' (_ : Unit) => r' = r) (fd_B D cl A w') A) av.toArray s 0 0 A) (F0 m 0 ls [])) :
    fd_Ml l D cl tys EV y ws rm av w w' r := by
  intro sz
  refine Met.ofW (cc := cc) (maxL := maxL) (ret := ret) hy hw ?_
  intro p e s m args below meth c s₁ B hml hv
  obtain ⟨rfl, hsz, hP, hK, hEV, hD0⟩ := hv
  subst hsz
  have hl := lv_entry av (n := maxL) hfit
  rw [lg_entry_eq]
  exact body p e s m below meth c (va_A w s.heap.size) _ ⟨B.exec, B.bytes, B.returns, hml, findClass_of_methodNamed B.named, atoms_spec (ws := ws) B.pre, B.notSynchronized, hK, hEV, fun q h => Or.inr h⟩ hP hD0.self va_S.rf hl
theorem fd_open_v (hy : plainName y.cls = true) (hw : ws = Cond.code y cc maxL ret :: ws') (hfit : (lg_sl av).length ≤ maxL)
    (body : ∀ (p : Program) (e : Env) (s : State) (m : MethodId) (below : List Frame) (meth : Method) (c : Code) (A : Nat → Prop) (ls : Array Slot), fd_X cc maxL ret y.cls ws av D cl tys EV A p s m meth c → va_P D cl w s.heap → va_D A w → va_S A s.heap s.heap [] → lv_has ls maxL (lv_args 0 av) →
      W p l e rm s m av.toArray below meth c s.heap [] 0 0 (MQ below (va_Qv (fun (_ : Unit) => True) (fd_B D cl A w') A) av.toArray s 0 0 A) (F0 m 0 ls [])) :
    fd_Mv l D cl tys EV y ws rm av w w' := by
  intro sz
  refine Met.ofW (cc := cc) (maxL := maxL) (ret := ret) hy hw ?_
  intro p e s m args below meth c s₁ B hml hv
  obtain ⟨rfl, hsz, hP, hK, hEV, hD0⟩ := hv
  subst hsz
  have hl := lv_entry av (n := maxL) hfit
  rw [lg_entry_eq]
  exact body p e s m below meth c (va_A w s.heap.size) _ ⟨B.exec, B.bytes, B.returns, hml, findClass_of_methodNamed B.named, atoms_spec (ws := ws) B.pre, B.notSynchronized, hK, hEV, fun q h => Or.inr h⟩ hP hD0.self va_S.rf hl
end Opens
section Arrays
variable {p : Program} {l : Launch} {e : Env} {R : Room} {s : State} {m : MethodId} {args : Array Value} {below : List Frame} {meth : Method} {c : Code} {H H0 : Heap} {locs : List Loc} {cells slots : Nat} {Q : State → Prop} {cc : ByteArray} {pc : Nat} {ls : Array Slot} {rest : List Value}
  {D : va_G} {cl : List vw_C} {tys : List (ClassId × FieldType)} {A : Nat → Prop} {ws : va_W} {a : Nat}
theorem fd_iald (hexec : p.tables.exec = Jvm.exec) (hb : c.code = cc) (hK : va_K D cl tys s) (hP : va_P D cl ws H) (q0 t0 : Nat) {cA : ClassId} {n k : Nat} {f : Nat → Int32} (ha : ws[q0]? = some (a, .inl (cA, n, .inl f))) (ht : tys[t0]? = some (cA, .int)) (hk : k < n) (hn : n < 2 ^ 31) (hdg : decode cc pc = .ok (.iaload, 1))
    (kk : W p l e R s m args below meth c H locs cells slots Q (F0 m (pc + 1) ls (.int (f k) :: rest))) : W p l e R s m args below meth c H locs cells slots Q (F0 m pc ls (.int (nI k) :: .ref a :: rest)) := by
  refine va_iald hexec hb hK hP q0 t0 ha ht (vp_in_nI hk hn) hdg ?_
  rw [nI_clamp (by omega)]; exact kk
theorem fd_lald (hexec : p.tables.exec = Jvm.exec) (hb : c.code = cc) (hK : va_K D cl tys s) (hP : va_P D cl ws H) (q0 t0 : Nat) {cA : ClassId} {n k : Nat} {f : Nat → Int64} (ha : ws[q0]? = some (a, .inl (cA, n, .inr (.inl f)))) (ht : tys[t0]? = some (cA, .long)) (hk : k < n) (hn : n < 2 ^ 31) (hdg : decode cc pc = .ok (.laload, 1))
    (kk : W p l e R s m args below meth c H locs cells slots Q (F0 m (pc + 1) ls (.long (f k) :: rest))) : W p l e R s m args below meth c H locs cells slots Q (F0 m pc ls (.int (nI k) :: .ref a :: rest)) := by
  refine va_lald hexec hb hK hP q0 t0 ha ht (vp_in_nI hk hn) hdg ?_
  rw [nI_clamp (by omega)]; exact kk
theorem fd_iast (hexec : p.tables.exec = Jvm.exec) (hb : c.code = cc) (hK : va_K D cl tys s) (hP : va_P D cl ws H) (hD : va_D A ws) (hS : va_S A H0 H locs) (q0 t0 : Nat) {cA : ClassId} {n k : Nat} {f : Nat → Int32} {x : Int32} (ha : ws[q0]? = some (a, .inl (cA, n, .inl f))) (ht : tys[t0]? = some (cA, .int)) (hk : k < n) (hn : n < 2 ^ 31) (hdg : decode cc pc = .ok (.iastore, 1))
    (kk : ∀ (H1 : Heap) (locs1 : List Loc), va_P D cl (ws.set q0 (a, .inl (cA, n, .inl (upd f k x)))) H1 → va_D A (ws.set q0 (a, .inl (cA, n, .inl (upd f k x)))) → va_S A H0 H1 locs1 → W p l e R s m args below meth c H1 locs1 cells slots Q (F0 m (pc + 1) ls rest)) : W p l e R s m args below meth c H locs cells slots Q (F0 m pc ls (.int x :: .int (nI k) :: .ref a :: rest)) := by
  refine va_iast hexec hb hK hP hD hS q0 t0 ha ht (vp_in_nI hk hn) hdg ?_
  rw [nI_clamp (by omega)]; exact kk
theorem fd_last (hexec : p.tables.exec = Jvm.exec) (hb : c.code = cc) (hK : va_K D cl tys s) (hP : va_P D cl ws H) (hD : va_D A ws) (hS : va_S A H0 H locs) (q0 t0 : Nat) {cA : ClassId} {n k : Nat} {f : Nat → Int64} {x : Int64} (ha : ws[q0]? = some (a, .inl (cA, n, .inr (.inl f)))) (ht : tys[t0]? = some (cA, .long)) (hk : k < n) (hn : n < 2 ^ 31) (hdg : decode cc pc = .ok (.lastore, 1))
    (kk : ∀ (H1 : Heap) (locs1 : List Loc), va_P D cl (ws.set q0 (a, .inl (cA, n, .inr (.inl (vp_updL f k x))))) H1 → va_D A (ws.set q0 (a, .inl (cA, n, .inr (.inl (vp_updL f k x))))) → va_S A H0 H1 locs1 → W p l e R s m args below meth c H1 locs1 cells slots Q (F0 m (pc + 1) ls rest)) : W p l e R s m args below meth c H locs cells slots Q (F0 m pc ls (.long x :: .int (nI k) :: .ref a :: rest)) := by
  refine va_last hexec hb hK hP hD hS q0 t0 ha ht (vp_in_nI hk hn) hdg ?_
  rw [nI_clamp (by omega)]; exact kk
end Arrays
end
section
/-! what of the machine, beside the objects, the methods use: the class's static tables, its text constant, nest links -/
def fd_tab (k : Nat) : List Int32 := match k with
  | 0 => [0, 4, 3, 8, 15, 1, 2, 1, 1]
  | 1 => [0, 0, 0, 0, 0, 0, 0, 1, 1]
  | 2 => [0, 35, 35, 35, 9, 1, 9, 9, 4]
  | 3 => [1, 3, 1, 0, 0, 0, 1, 3, 2, 5, 4, 6, 1, 3, 2, 4, 6, 0, 1, 3, 2, 1, 4, 0, 1, 3, 2, 1, 4, 0, 1, 3, 7, 8, 0, 0, 1, 3, 1, 3, 0, 0, 1, 3, 3, 0, 0, 0, 1, 3, 3, 7, 0, 0, 1, 3, 1, 4, 0, 0, 1, 3, 1, 0, 0, 0, 1, 3, 2, 4, 0, 0, 1, 3, 2, 4, 0, 0, 1, 3, 0, 0, 0, 0, 1, 3, 0, 0, 0, 0]
  | _ => [1, 1, 2, 4]
def fd_sn (k : Nat) : String := match k with
  | 0 => "SIGNS"
  | 1 => "LEAST_VALUE"
  | 2 => "MOST_VALUE"
  | 3 => "KIND_SORTS"
  | _ => "LEG_SORTS"
def fd_mn : List Int64 := [0, 1679615, 46655, 2821109907455, 999999999999999, 1, 99, 9, 4]
def fd_kl : List Int32 := [78, 69, 87, 65, 83, 84, 80, 82, 67, 73, 83, 83, 82, 69, 68, 80, 65, 89, 67, 78, 70, 67, 65, 78, 80, 82, 73, 76, 73, 77, 85, 78, 76, 80, 76, 71, 85, 78, 80, 82, 69, 83, 83, 84, 77]
def fd_EV (Z : Nat → Nat) (A : Nat → Prop) (U : State) (H : Heap) : Prop :=
  (∀ w ∈ fd_NB, va_Nw w U) ∧ vk_R "FieldDesk" 155 "NEWASTPRCISSREDPAYCNFCANPRILIMUNLPLGUNPRESSTM" (Z 6) U ∧ va_Z "java/lang/String" "COMPACT_STRINGS" "Z" (.int 1) A U H ∧
  (∀ k, k < 5 → va_Z "FieldDesk" (fd_sn k) "[I" (.ref (Z k)) A U H ∧ va_T .int (Z k) (fd_tab k).length (fun j => .int ((fd_tab k).getD j 0)) A U H) ∧
  (va_Z "FieldDesk" "MOST_NUMBER" "[J" (.ref (Z 5)) A U H ∧ va_T .long (Z 5) 9 (fun j => .long (fd_mn.getD j 0)) A U H) ∧
  va_O "java/lang/String" (Z 6) A U H ∧ va_OF "java/lang/String" "coder" "B" (.int 0) (Z 6) A U H ∧ va_OF "java/lang/String" "value" "[B" (.ref (Z 7)) (Z 6) A U H ∧ va_T .byte (Z 7) 45 (fun j => .int (fd_kl.getD j 0)) A U H ∧
  va_Zq "jdk/internal/util/Preconditions" "SIOOBE_FORMATTER" "Ljava/util/function/BiFunction;" A U H
theorem fd_NB_warm {u U : State} (hW : u.WarmedH U.vm) (h : ∀ w ∈ fd_NB, va_Nw w u) : ∀ w ∈ fd_NB, va_Nw w U := by
  intro w hw
  have h0 := h w hw
  simp only [fd_NB, List.mem_cons, List.not_mem_nil, or_false] at hw
  rcases hw with rfl | rfl | rfl | rfl | rfl | rfl | rfl | rfl | rfl | rfl <;> first | exact va_Nw.warmF hW h0 | exact va_Nw.warmM hW h0
theorem fd_EV_ok (Z : Nat → Nat) : fd_Eok (fd_EV Z) := by
  refine ⟨?_, ?_, ?_, ?_⟩
  · rintro A u U H hW ⟨h1, h2, h3, h4, h5, h6, h7, h8, h9, h10⟩
    exact ⟨fd_NB_warm hW h1, h2.warm hW, h3.moved hW.alike, fun k hk => ⟨(h4 k hk).1.moved hW.alike, (h4 k hk).2.moved hW.alike⟩, ⟨h5.1.moved hW.alike, h5.2.moved hW.alike⟩, h6.moved hW.alike, h7.moved hW.alike, h8.moved hW.alike, h9.moved hW.alike, h10.moved hW.alike⟩
  · rintro A U H g mk a ⟨h1, h2, h3, h4, h5, h6, h7, h8, h9, h10⟩
    have al : U.vm.Alike (U.calling g mk a).vm := Vm.Alike.refl U.vm
    exact ⟨fun w hw => va_Nw.same (List.all_eq_true.mp fd_NB_on w hw) (u := U) rfl (h1 w hw), vk_R.same (u := U) rfl h2, h3.moved al, fun k hk => ⟨(h4 k hk).1.moved al, (h4 k hk).2.moved al⟩, ⟨h5.1.moved al, h5.2.moved al⟩, h6.moved al, h7.moved al, h8.moved al, h9.moved al, h10.moved al⟩
  · rintro A U H H1 ⟨h1, h2, h3, h4, h5, h6, h7, h8, h9, h10⟩ hq
    exact ⟨h1, h2, h3.kept hq, fun k hk => ⟨(h4 k hk).1.kept hq, (h4 k hk).2.kept hq⟩, ⟨h5.1.kept hq, h5.2.kept hq⟩, h6.kept hq, h7.kept hq, h8.kept hq, h9.kept hq, h10.kept hq⟩
  · rintro A B U H ⟨h1, h2, h3, h4, h5, h6, h7, h8, h9, h10⟩ hq
    exact ⟨h1, h2, h3.narrow hq, fun k hk => ⟨(h4 k hk).1.narrow hq, (h4 k hk).2.narrow hq⟩, ⟨h5.1.narrow hq, h5.2.narrow hq⟩, h6.narrow hq, h7.narrow hq, h8.narrow hq, h9.narrow hq, h10.narrow hq⟩
/-- a contract of this claim's methods, over its classes, arrays and surroundings -/
abbrev fd_ty (cI cL : ClassId) : List (ClassId × FieldType) := [(cI, .int), (cL, .long)]
theorem fd_nw {Z : Nat → Nat} {A : Nat → Prop} {U : State} {H : Heap} {args : Array Value} (h : fd_EV Z A U H) {w : Cond} (hw : w ∈ fd_NB) : w.before args U = true := va_Nw.use (List.all_eq_true.mp fd_NB_on w hw) (h.1 w hw)
end
section
/-! the row of bytes, and the small static functions -/
theorem fd_ix {x : Int32} {n : Nat} (h0 : ¬ x < 0) (h1 : ¬ nI n ≤ x) (hn : n < 2 ^ 31) : ∃ k : Nat, k < n ∧ x = nI k := by
  obtain ⟨j, hj, e, -⟩ := pk_mu h0 h1 hn
  exact ⟨j, hj, e⟩
def fd_at (n : Nat) (f : Nat → Int32) (i : Int32) : Int32 := if i < 0 then -1 else if nI n ≤ i then -1 else f i.toNatClampNeg
theorem fd_at_lt {n k : Nat} {f : Nat → Int32} (h : k < n) (hn : n < 2 ^ 31) : fd_at n f (nI k) = f k := by
  rw [fd_at, if_neg (nI_pos (by omega)), if_neg (nI_ge h hn), nI_clamp (by omega)]
theorem fd_at_ge {n k : Nat} {f : Nat → Int32} (h : n ≤ k) (hk : k < 2 ^ 31) : fd_at n f (nI k) = -1 := by
  rw [fd_at, if_neg (nI_pos hk), if_pos (nI_le h hk)]
def fd_dig (c : Int32) : Int32 := if c < 48 then 0 else if 57 < c then 0 else 1
def fd_val (c : Int32) : Int32 := if fd_dig c = 0 then (if c < 65 then -1 else if 90 < c then -1 else c - 65 + 10) else c - 48
def fd_vcl (c : Int32) : Int32 := if c = 67 then 0 else if c = 83 then 1 else -1
def fd_b36 (s : Int32) : Int32 := if s < 1 then 0 else if 3 < s then 0 else 1
def fd_ent (k : Nat) (i : Int32) : Int32 := if i < 0 then 0 else if nI (fd_tab k).length ≤ i then 0 else (fd_tab k).getD i.toNatClampNeg 0
def fd_vis (s c : Int32) : Int32 := if (if s = 5 then fd_vcl c else fd_val c) < fd_ent 1 s then -1 else if fd_ent 2 s < (if s = 5 then fd_vcl c else fd_val c) then -1 else (if s = 5 then fd_vcl c else fd_val c)
def fd_sis (s v : Int32) : Int32 := if s = 5 then (if v = 0 then 67 else 83) else (if 10 ≤ v then 65 + v - 10 else 48 + v)
def fd_rst (r v : Int32) : Int32 := (r * (if 10 ≤ v then 100 else 10) + v) - (r * (if 10 ≤ v then 100 else 10) + v) / 97 * 97
def fd_rem (f : Nat → Int32) : Nat → Int32
  | 0 => 0
  | i + 1 => fd_rst (fd_rem f i) (fd_val (f i))
theorem fd_tab_len (k : Nat) : (fd_tab k).length < 2 ^ 31 := by
  unfold fd_tab; split <;> decide
set_option maxHeartbeats 4000000 in
set_option maxRecDepth 100000 in
/-- is there room for k more? -/
theorem kR_hasRoomFor (l : Launch) (D : va_G) (Z : Nat → Nat) (cI cL : ClassId) {h b n cap : Nat} {f : Nat → Int32} (hn : n ≤ cap) (hc : cap < 2 ^ 31) (k : Int32) : fd_Mi l D fd_cl (fd_ty cI cL) (fd_EV Z) nyR_hasRoomFor (.code nyR_hasRoomFor ncR_hasRoomFor 2 (some .boolean) :: fd_TB) nmR_hasRoomFor [.ref h, .int k] [(h, .inr (0, [.ref b, .int (nI n)])), (b, .inl (cI, cap, .inl f))] [(h, .inr (0, [.ref b, .int (nI n)])), (b, .inl (cI, cap, .inl f))] (if nI (cap - n) < k then 0 else 1) := by
  refine fd_open_i (cc := ncR_hasRoomFor) (maxL := 2) (ret := (some .boolean)) (by decide) rfl (Nat.le_of_ble_eq_true rfl) ?_
  intro p e s m below meth c A ls X hP hD hS hl
  obtain ⟨hx, hb, hr, hml, hown, hts0, hlocks, hK, hEV, hA⟩ := X
  have hts : ∀ w ∈ fd_TB, w.before _ s = true := fun w h => hts0 w (List.mem_cons_of_mem _ h)
  have hE := fd_EV_ok Z
  have hown : s.vm.findClass "FieldDesk$Row" = some m.cls := hown
  have hl : lv_has ls 2 [(0, .ref h), (1, .int k)] := hl
  refine lv_iload_n hx hb ndR_hasRoomFor_0 rfl (lv_at hl 1 rfl) ?_
  refine lv_aload_n hx hb ndR_hasRoomFor_1 rfl (lv_at hl 0 rfl) ?_
  refine va_get (D := D) (ci := 0) (v := .ref b) (C := nR_R) (T := nT_R) (N := 2) hx hb hts in_R hown hK hP 0 rfl rfl 0 (by decide) (hts _ tb_34) (fun _ h9 => h9) rfl ndR_hasRoomFor_2 ?_
  refine va_alen hx hb hK hP 1 0 rfl rfl (v := nI cap) rfl ndR_hasRoomFor_5 ?_
  refine lv_aload_n hx hb ndR_hasRoomFor_6 rfl (lv_at hl 0 rfl) ?_
  refine va_get (D := D) (ci := 0) (v := .int (nI n)) (C := nR_R) (T := nT_R) (N := 2) hx hb hts in_R hown hK hP 0 rfl rfl 1 (by decide) (hts _ tb_35) (fun _ h9 => h9) rfl ndR_hasRoomFor_7 ?_
  refine lv_isub hx hb ndR_hasRoomFor_10 ?_
  refine fd_asi (y := nI (cap - n)) (pk_sub hn) ?_
  refine lv_icmp_gt (tgt := 18) hx hb ndR_hasRoomFor_11 (by decide) (fun c_11 => ?_) (fun c_11 => ?_)
  · refine lv_iconst (v := 0) hx hb ndR_hasRoomFor_18 (by decide) ?_
    exact fd_ret_i hx hb hr hlocks hS hP hD rfl (by rw [if_pos c_11]) ndR_hasRoomFor_19
  · refine lv_iconst (v := 1) hx hb ndR_hasRoomFor_14 (by decide) ?_
    refine lv_goto (tgt := 19) hx hb ndR_hasRoomFor_15 (by decide) ?_
    exact fd_ret_i hx hb hr hlocks hS hP hD rfl (by rw [if_neg c_11]) ndR_hasRoomFor_19
set_option maxHeartbeats 4000000 in
set_option maxRecDepth 100000 in
theorem kR_clear (l : Launch) (D : va_G) (Z : Nat → Nat) (cI cL : ClassId) {h b n cap : Nat} {f : Nat → Int32} : fd_Mv l D fd_cl (fd_ty cI cL) (fd_EV Z) nyR_clear (.code nyR_clear ncR_clear 1 none :: fd_TB) nmR_clear [.ref h] [(h, .inr (0, [.ref b, .int (nI n)])), (b, .inl (cI, cap, .inl f))] [(h, .inr (0, [.ref b, .int (nI 0)])), (b, .inl (cI, cap, .inl f))] := by
  refine fd_open_v (cc := ncR_clear) (maxL := 1) (ret := none) (by decide) rfl (Nat.le_of_ble_eq_true rfl) ?_
  intro p e s m below meth c A ls X hP hD hS hl
  obtain ⟨hx, hb, hr, hml, hown, hts0, hlocks, hK, hEV, hA⟩ := X
  have hts : ∀ w ∈ fd_TB, w.before _ s = true := fun w h => hts0 w (List.mem_cons_of_mem _ h)
  have hE := fd_EV_ok Z
  have hown : s.vm.findClass "FieldDesk$Row" = some m.cls := hown
  have hl : lv_has ls 1 [(0, .ref h)] := hl
  refine lv_aload_n hx hb ndR_clear_0 rfl (lv_at hl 0 rfl) ?_
  refine lv_iconst (v := 0) hx hb ndR_clear_1 (by decide) ?_
  refine fd_asi (y := nI 0) nI_0.symm ?_
  refine va_put (D := D) (ci := 0) (v := .int (nI 0)) (ty := (.int)) (C := nR_R) (T := nT_R) (N := 2) hx hb hts in_R nt_R nt_R_ok nn_R hown hK hP hD hS 0 rfl rfl 1 (by decide) (hts _ tb_35) (fun _ h9 => h9) rfl (by decide +kernel) rfl rfl (Nat.le_of_ble_eq_true rfl) ndR_clear_2 (fun H locs hP hD hS => ?_)
  have hP : va_P D fd_cl [(h, .inr (0, [.ref b, .int (nI 0)])), (b, .inl (cI, cap, .inl f))] H := hP
  have hD : va_D A [(h, .inr (0, [.ref b, .int (nI 0)])), (b, .inl (cI, cap, .inl f))] := hD
  exact fd_ret_v hx hb hr hlocks hS hP hD ndR_clear_5
set_option maxHeartbeats 4000000 in
set_option maxRecDepth 100000 in
theorem kR_append (l : Launch) (D : va_G) (Z : Nat → Nat) (cI cL : ClassId) {h b n cap : Nat} {f : Nat → Int32} (hn : n < cap) (hc : cap < 2 ^ 31) (v : Int32) : fd_Mv l D fd_cl (fd_ty cI cL) (fd_EV Z) nyR_append (.code nyR_append ncR_append 2 none :: fd_TB) nmR_append [.ref h, .int v] [(h, .inr (0, [.ref b, .int (nI n)])), (b, .inl (cI, cap, .inl f))] [(h, .inr (0, [.ref b, .int (nI (n + 1))])), (b, .inl (cI, cap, .inl (upd f n v)))] := by
  refine fd_open_v (cc := ncR_append) (maxL := 2) (ret := none) (by decide) rfl (Nat.le_of_ble_eq_true rfl) ?_
  intro p e s m below meth c A ls X hP hD hS hl
  obtain ⟨hx, hb, hr, hml, hown, hts0, hlocks, hK, hEV, hA⟩ := X
  have hts : ∀ w ∈ fd_TB, w.before _ s = true := fun w h => hts0 w (List.mem_cons_of_mem _ h)
  have hE := fd_EV_ok Z
  have hown : s.vm.findClass "FieldDesk$Row" = some m.cls := hown
  have hl : lv_has ls 2 [(0, .ref h), (1, .int v)] := hl
  refine lv_aload_n hx hb ndR_append_0 rfl (lv_at hl 0 rfl) ?_
  refine va_get (D := D) (ci := 0) (v := .int (nI n)) (C := nR_R) (T := nT_R) (N := 2) hx hb hts in_R hown hK hP 0 rfl rfl 1 (by decide) (hts _ tb_35) (fun _ h9 => h9) rfl ndR_append_1 ?_
  refine lv_if_lt (tgt := 39) hx hb ndR_append_4 (by decide) (fun c_4 => absurd c_4 (fun h9 => absurd ((nI_ltI (a := n) (b := 0) (by omega) (by omega)).mp h9) (by omega))) (fun _ => ?_)
  refine lv_aload_n hx hb ndR_append_7 rfl (lv_at hl 0 rfl) ?_
  refine va_get (D := D) (ci := 0) (v := .int (nI n)) (C := nR_R) (T := nT_R) (N := 2) hx hb hts in_R hown hK hP 0 rfl rfl 1 (by decide) (hts _ tb_35) (fun _ h9 => h9) rfl ndR_append_8 ?_
  refine lv_aload_n hx hb ndR_append_11 rfl (lv_at hl 0 rfl) ?_
  refine va_get (D := D) (ci := 0) (v := .ref b) (C := nR_R) (T := nT_R) (N := 2) hx hb hts in_R hown hK hP 0 rfl rfl 0 (by decide) (hts _ tb_34) (fun _ h9 => h9) rfl ndR_append_12 ?_
  refine va_alen hx hb hK hP 1 0 rfl rfl (v := nI cap) rfl ndR_append_15 ?_
  refine lv_icmp_ge (tgt := 39) hx hb ndR_append_16 (by decide) (fun c_16 => absurd c_16 (fun h9 => absurd ((nI_leI (a := cap) (b := n) (by omega) (by omega)).mp h9) (by omega))) (fun _ => ?_)
  refine lv_aload_n hx hb ndR_append_19 rfl (lv_at hl 0 rfl) ?_
  refine va_get (D := D) (ci := 0) (v := .ref b) (C := nR_R) (T := nT_R) (N := 2) hx hb hts in_R hown hK hP 0 rfl rfl 0 (by decide) (hts _ tb_34) (fun _ h9 => h9) rfl ndR_append_20 ?_
  refine lv_aload_n hx hb ndR_append_23 rfl (lv_at hl 0 rfl) ?_
  refine va_get (D := D) (ci := 0) (v := .int (nI n)) (C := nR_R) (T := nT_R) (N := 2) hx hb hts in_R hown hK hP 0 rfl rfl 1 (by decide) (hts _ tb_35) (fun _ h9 => h9) rfl ndR_append_24 ?_
  refine lv_iload_n hx hb ndR_append_27 rfl (lv_at hl 1 rfl) ?_
  refine fd_iast hx hb hK hP hD hS 1 0 (k := n) rfl rfl hn (by omega) ndR_append_28 (fun H locs hP hD hS => ?_)
  have hP : va_P D fd_cl [(h, .inr (0, [.ref b, .int (nI n)])), (b, .inl (cI, cap, .inl (upd f n v)))] H := hP
  have hD : va_D A [(h, .inr (0, [.ref b, .int (nI n)])), (b, .inl (cI, cap, .inl (upd f n v)))] := hD
  refine lv_aload_n hx hb ndR_append_29 rfl (lv_at hl 0 rfl) ?_
  refine lv_dup hx hb ndR_append_30 rfl ?_
  refine va_get (D := D) (ci := 0) (v := .int (nI n)) (C := nR_R) (T := nT_R) (N := 2) hx hb hts in_R hown hK hP 0 rfl rfl 1 (by decide) (hts _ tb_35) (fun _ h9 => h9) rfl ndR_append_31 ?_
  refine lv_iconst (v := 1) hx hb ndR_append_34 (by decide) ?_
  refine lv_iadd hx hb ndR_append_35 ?_
  refine fd_asi (y := nI (n + 1)) (nI_1 n) ?_
  refine va_put (D := D) (ci := 0) (v := .int (nI (n + 1))) (ty := (.int)) (C := nR_R) (T := nT_R) (N := 2) hx hb hts in_R nt_R nt_R_ok nn_R hown hK hP hD hS 0 rfl rfl 1 (by decide) (hts _ tb_35) (fun _ h9 => h9) rfl (by decide +kernel) rfl rfl (Nat.le_of_ble_eq_true rfl) ndR_append_36 (fun H locs hP hD hS => ?_)
  have hP : va_P D fd_cl [(h, .inr (0, [.ref b, .int (nI (n + 1))])), (b, .inl (cI, cap, .inl (upd f n v)))] H := hP
  have hD : va_D A [(h, .inr (0, [.ref b, .int (nI (n + 1))])), (b, .inl (cI, cap, .inl (upd f n v)))] := hD
  exact fd_ret_v hx hb hr hlocks hS hP hD ndR_append_39
set_option maxHeartbeats 4000000 in
set_option maxRecDepth 100000 in
theorem kR_put (l : Launch) (D : va_G) (Z : Nat → Nat) (cI cL : ClassId) {h b n cap : Nat} {f : Nat → Int32} {k : Nat} (hk : k < n) (hn : n ≤ cap) (hc : cap < 2 ^ 31) (v : Int32) : fd_Mv l D fd_cl (fd_ty cI cL) (fd_EV Z) nyR_put (.code nyR_put ncR_put 3 none :: fd_TB) nmR_put [.ref h, .int (nI k), .int v] [(h, .inr (0, [.ref b, .int (nI n)])), (b, .inl (cI, cap, .inl f))] [(h, .inr (0, [.ref b, .int (nI n)])), (b, .inl (cI, cap, .inl (upd f k v)))] := by
  refine fd_open_v (cc := ncR_put) (maxL := 3) (ret := none) (by decide) rfl (Nat.le_of_ble_eq_true rfl) ?_
  intro p e s m below meth c A ls X hP hD hS hl
  obtain ⟨hx, hb, hr, hml, hown, hts0, hlocks, hK, hEV, hA⟩ := X
  have hts : ∀ w ∈ fd_TB, w.before _ s = true := fun w h => hts0 w (List.mem_cons_of_mem _ h)
  have hE := fd_EV_ok Z
  have hown : s.vm.findClass "FieldDesk$Row" = some m.cls := hown
  have hl : lv_has ls 3 [(0, .ref h), (1, .int (nI k)), (2, .int v)] := hl
  refine lv_iload_n hx hb ndR_put_0 rfl (lv_at hl 1 rfl) ?_
  refine lv_if_lt (tgt := 28) hx hb ndR_put_1 (by decide) (fun c_1 => absurd c_1 (fun h9 => absurd ((nI_ltI (a := k) (b := 0) (by omega) (by omega)).mp h9) (by omega))) (fun _ => ?_)
  refine lv_iload_n hx hb ndR_put_4 rfl (lv_at hl 1 rfl) ?_
  refine lv_aload_n hx hb ndR_put_5 rfl (lv_at hl 0 rfl) ?_
  refine va_get (D := D) (ci := 0) (v := .int (nI n)) (C := nR_R) (T := nT_R) (N := 2) hx hb hts in_R hown hK hP 0 rfl rfl 1 (by decide) (hts _ tb_35) (fun _ h9 => h9) rfl ndR_put_6 ?_
  refine lv_icmp_ge (tgt := 28) hx hb ndR_put_9 (by decide) (fun c_9 => absurd c_9 (fun h9 => absurd ((nI_leI (a := n) (b := k) (by omega) (by omega)).mp h9) (by omega))) (fun _ => ?_)
  refine lv_iload_n hx hb ndR_put_12 rfl (lv_at hl 1 rfl) ?_
  refine lv_aload_n hx hb ndR_put_13 rfl (lv_at hl 0 rfl) ?_
  refine va_get (D := D) (ci := 0) (v := .ref b) (C := nR_R) (T := nT_R) (N := 2) hx hb hts in_R hown hK hP 0 rfl rfl 0 (by decide) (hts _ tb_34) (fun _ h9 => h9) rfl ndR_put_14 ?_
  refine va_alen hx hb hK hP 1 0 rfl rfl (v := nI cap) rfl ndR_put_17 ?_
  refine lv_icmp_ge (tgt := 28) hx hb ndR_put_18 (by decide) (fun c_18 => absurd c_18 (fun h9 => absurd ((nI_leI (a := cap) (b := k) (by omega) (by omega)).mp h9) (by omega))) (fun _ => ?_)
  refine lv_aload_n hx hb ndR_put_21 rfl (lv_at hl 0 rfl) ?_
  refine va_get (D := D) (ci := 0) (v := .ref b) (C := nR_R) (T := nT_R) (N := 2) hx hb hts in_R hown hK hP 0 rfl rfl 0 (by decide) (hts _ tb_34) (fun _ h9 => h9) rfl ndR_put_22 ?_
  refine lv_iload_n hx hb ndR_put_25 rfl (lv_at hl 1 rfl) ?_
  refine lv_iload_n hx hb ndR_put_26 rfl (lv_at hl 2 rfl) ?_
  refine fd_iast hx hb hK hP hD hS 1 0 (k := k) rfl rfl (by omega) (by omega) ndR_put_27 (fun H locs hP hD hS => ?_)
  have hP : va_P D fd_cl [(h, .inr (0, [.ref b, .int (nI n)])), (b, .inl (cI, cap, .inl (upd f k v)))] H := hP
  have hD : va_D A [(h, .inr (0, [.ref b, .int (nI n)])), (b, .inl (cI, cap, .inl (upd f k v)))] := hD
  exact fd_ret_v hx hb hr hlocks hS hP hD ndR_put_28
set_option maxHeartbeats 4000000 in
set_option maxRecDepth 100000 in
theorem kR_at (l : Launch) (D : va_G) (Z : Nat → Nat) (cI cL : ClassId) {h b n cap : Nat} {f : Nat → Int32} (hn : n ≤ cap) (hc : cap < 2 ^ 31) (i : Int32) : fd_Mi l D fd_cl (fd_ty cI cL) (fd_EV Z) nyR_at (.code nyR_at ncR_at 2 (some .int) :: fd_TB) nmR_at [.ref h, .int i] [(h, .inr (0, [.ref b, .int (nI n)])), (b, .inl (cI, cap, .inl f))] [(h, .inr (0, [.ref b, .int (nI n)])), (b, .inl (cI, cap, .inl f))] (fd_at n f i) := by
  refine fd_open_i (cc := ncR_at) (maxL := 2) (ret := (some .int)) (by decide) rfl (Nat.le_of_ble_eq_true rfl) ?_
  intro p e s m below meth c A ls X hP hD hS hl
  obtain ⟨hx, hb, hr, hml, hown, hts0, hlocks, hK, hEV, hA⟩ := X
  have hts : ∀ w ∈ fd_TB, w.before _ s = true := fun w h => hts0 w (List.mem_cons_of_mem _ h)
  have hE := fd_EV_ok Z
  have hown : s.vm.findClass "FieldDesk$Row" = some m.cls := hown
  have hl : lv_has ls 2 [(0, .ref h), (1, .int i)] := hl
  refine lv_iload_n hx hb ndR_at_0 rfl (lv_at hl 1 rfl) ?_
  refine lv_if_lt (tgt := 30) hx hb ndR_at_1 (by decide) (fun c_1 => ?_) (fun c_1 => ?_)
  · refine lv_iconst (v := (-1)) hx hb ndR_at_30 (by decide) ?_
    exact fd_ret_i hx hb hr hlocks hS hP hD rfl (by rw [fd_at, if_pos c_1]) ndR_at_31
  · refine lv_iload_n hx hb ndR_at_4 rfl (lv_at hl 1 rfl) ?_
    refine lv_aload_n hx hb ndR_at_5 rfl (lv_at hl 0 rfl) ?_
    refine va_get (D := D) (ci := 0) (v := .int (nI n)) (C := nR_R) (T := nT_R) (N := 2) hx hb hts in_R hown hK hP 0 rfl rfl 1 (by decide) (hts _ tb_35) (fun _ h9 => h9) rfl ndR_at_6 ?_
    refine lv_icmp_ge (tgt := 30) hx hb ndR_at_9 (by decide) (fun c_9 => ?_) (fun c_9 => ?_)
    · refine lv_iconst (v := (-1)) hx hb ndR_at_30 (by decide) ?_
      exact fd_ret_i hx hb hr hlocks hS hP hD rfl (by rw [fd_at, if_neg c_1, if_pos c_9]) ndR_at_31
    · obtain ⟨k, hk, rfl⟩ := fd_ix c_1 c_9 (by omega)
      refine lv_iload_n hx hb ndR_at_12 rfl (lv_at hl 1 rfl) ?_
      refine lv_aload_n hx hb ndR_at_13 rfl (lv_at hl 0 rfl) ?_
      refine va_get (D := D) (ci := 0) (v := .ref b) (C := nR_R) (T := nT_R) (N := 2) hx hb hts in_R hown hK hP 0 rfl rfl 0 (by decide) (hts _ tb_34) (fun _ h9 => h9) rfl ndR_at_14 ?_
      refine va_alen hx hb hK hP 1 0 rfl rfl (v := nI cap) rfl ndR_at_17 ?_
      refine lv_icmp_ge (tgt := 30) hx hb ndR_at_18 (by decide) (fun c_18 => absurd c_18 (fun h9 => absurd ((nI_leI (a := cap) (b := k) (by omega) (by omega)).mp h9) (by omega))) (fun _ => ?_)
      refine lv_aload_n hx hb ndR_at_21 rfl (lv_at hl 0 rfl) ?_
      refine va_get (D := D) (ci := 0) (v := .ref b) (C := nR_R) (T := nT_R) (N := 2) hx hb hts in_R hown hK hP 0 rfl rfl 0 (by decide) (hts _ tb_34) (fun _ h9 => h9) rfl ndR_at_22 ?_
      refine lv_iload_n hx hb ndR_at_25 rfl (lv_at hl 1 rfl) ?_
      refine fd_iald hx hb hK hP 1 0 (k := k) rfl rfl (by omega) (by omega) ndR_at_26 ?_
      refine lv_goto (tgt := 31) hx hb ndR_at_27 (by decide) ?_
      exact fd_ret_i hx hb hr hlocks hS hP hD rfl (by rw [fd_at, if_neg c_1, if_neg c_9, nI_clamp (by omega)]) ndR_at_31
set_option maxHeartbeats 4000000 in
set_option maxRecDepth 100000 in
theorem kF_isDigit (l : Launch) (D : va_G) (Z : Nat → Nat) (cI cL : ClassId) (x : Int32) : fd_Mi l D fd_cl (fd_ty cI cL) (fd_EV Z) nyF_isDigit (.code nyF_isDigit ncF_isDigit 1 (some .boolean) :: fd_TB) nmF_isDigit [.int x] [] [] (fd_dig x) := by
  refine fd_open_i (cc := ncF_isDigit) (maxL := 1) (ret := (some .boolean)) (by decide) rfl (Nat.le_of_ble_eq_true rfl) ?_
  intro p e s m below meth c A ls X hP hD hS hl
  obtain ⟨hx, hb, hr, hml, hown, hts0, hlocks, hK, hEV, hA⟩ := X
  have hts : ∀ w ∈ fd_TB, w.before _ s = true := fun w h => hts0 w (List.mem_cons_of_mem _ h)
  have hE := fd_EV_ok Z
  have hown : s.vm.findClass "FieldDesk" = some m.cls := hown
  have hl : lv_has ls 1 [(0, .int x)] := hl
  refine lv_iload_n hx hb ndF_isDigit_0 rfl (lv_at hl 0 rfl) ?_
  refine lv_bipush (v := 48) hx hb ndF_isDigit_1 (by decide) ?_
  refine lv_icmp_lt (tgt := 16) hx hb ndF_isDigit_3 (by decide) (fun c_3 => ?_) (fun c_3 => ?_)
  · refine lv_iconst (v := 0) hx hb ndF_isDigit_16 (by decide) ?_
    exact fd_ret_i hx hb hr hlocks hS hP hD rfl (by rw [fd_dig, if_pos c_3]) ndF_isDigit_17
  · refine lv_iload_n hx hb ndF_isDigit_6 rfl (lv_at hl 0 rfl) ?_
    refine lv_bipush (v := 57) hx hb ndF_isDigit_7 (by decide) ?_
    refine lv_icmp_gt (tgt := 16) hx hb ndF_isDigit_9 (by decide) (fun c_9 => ?_) (fun c_9 => ?_)
    · refine lv_iconst (v := 0) hx hb ndF_isDigit_16 (by decide) ?_
      exact fd_ret_i hx hb hr hlocks hS hP hD rfl (by rw [fd_dig, if_neg c_3, if_pos c_9]) ndF_isDigit_17
    · refine lv_iconst (v := 1) hx hb ndF_isDigit_12 (by decide) ?_
      refine lv_goto (tgt := 17) hx hb ndF_isDigit_13 (by decide) ?_
      exact fd_ret_i hx hb hr hlocks hS hP hD rfl (by rw [fd_dig, if_neg c_3, if_neg c_9]) ndF_isDigit_17
set_option maxHeartbeats 4000000 in
set_option maxRecDepth 100000 in
theorem kF_valueOfSign (l : Launch) (D : va_G) (Z : Nat → Nat) (cI cL : ClassId) (x : Int32) : fd_Mi l D fd_cl (fd_ty cI cL) (fd_EV Z) nyF_valueOfSign (.code nyF_valueOfSign ncF_valueOfSign 1 (some .int) :: fd_TB) nmF_valueOfSign [.int x] [] [] (fd_val x) := by
  refine fd_open_i (cc := ncF_valueOfSign) (maxL := 1) (ret := (some .int)) (by decide) rfl (Nat.le_of_ble_eq_true rfl) ?_
  intro p e s m below meth c A ls X hP hD hS hl
  obtain ⟨hx, hb, hr, hml, hown, hts0, hlocks, hK, hEV, hA⟩ := X
  have hts : ∀ w ∈ fd_TB, w.before _ s = true := fun w h => hts0 w (List.mem_cons_of_mem _ h)
  have hE := fd_EV_ok Z
  have hown : s.vm.findClass "FieldDesk" = some m.cls := hown
  have hl : lv_has ls 1 [(0, .int x)] := hl
  refine lv_iload_n hx hb ndF_valueOfSign_0 rfl (lv_at hl 0 rfl) ?_
  refine fd_go_i (wr := []) (w2 := []) (va_runS (As := [.int x]) (rest := []) ⟨hx, hb, hml, hown, hts⟩ (kF_isDigit l D Z cI cL x s.heap.size) (va_cwS 1 hts (fd_gS tb_161 tb_162 tb_13 tb_163) rfl rfl rfl nhF_isDigit.2 ⟨(Nat.le_of_ble_eq_true rfl), (Nat.le_of_ble_eq_true rfl)⟩) (fd_PreS hE hK hEV hA hP hD hS [] rfl (by decide)) rfl rfl hl.1 rfl (lv_room (Nat.le_of_ble_eq_true rfl)) ndF_valueOfSign_1 ⟨(Nat.le_of_ble_eq_true rfl), (Nat.le_of_ble_eq_true rfl)⟩) hP hD hS hA [] [] rfl rfl (by decide) (by decide) [] rfl (by decide) (fun H locs hP hD hS => ?_)
  refine lv_if_eq (tgt := 12) hx hb ndF_valueOfSign_4 (by decide) (fun c_4 => ?_) (fun c_4 => ?_)
  · refine lv_iload_n hx hb ndF_valueOfSign_12 rfl (lv_at hl 0 rfl) ?_
    refine lv_bipush (v := 65) hx hb ndF_valueOfSign_13 (by decide) ?_
    refine lv_icmp_lt (tgt := 34) hx hb ndF_valueOfSign_15 (by decide) (fun c_15 => ?_) (fun c_15 => ?_)
    · refine lv_iconst (v := (-1)) hx hb ndF_valueOfSign_34 (by decide) ?_
      exact fd_ret_i hx hb hr hlocks hS hP hD rfl (by rw [fd_val, if_pos c_4, if_pos c_15]) ndF_valueOfSign_35
    · refine lv_iload_n hx hb ndF_valueOfSign_18 rfl (lv_at hl 0 rfl) ?_
      refine lv_bipush (v := 90) hx hb ndF_valueOfSign_19 (by decide) ?_
      refine lv_icmp_gt (tgt := 34) hx hb ndF_valueOfSign_21 (by decide) (fun c_21 => ?_) (fun c_21 => ?_)
      · refine lv_iconst (v := (-1)) hx hb ndF_valueOfSign_34 (by decide) ?_
        exact fd_ret_i hx hb hr hlocks hS hP hD rfl (by rw [fd_val, if_pos c_4, if_neg c_15, if_pos c_21]) ndF_valueOfSign_35
      · refine lv_iload_n hx hb ndF_valueOfSign_24 rfl (lv_at hl 0 rfl) ?_
        refine lv_bipush (v := 65) hx hb ndF_valueOfSign_25 (by decide) ?_
        refine lv_isub hx hb ndF_valueOfSign_27 ?_
        refine lv_bipush (v := 10) hx hb ndF_valueOfSign_28 (by decide) ?_
        refine lv_iadd hx hb ndF_valueOfSign_30 ?_
        refine lv_goto (tgt := 35) hx hb ndF_valueOfSign_31 (by decide) ?_
        exact fd_ret_i hx hb hr hlocks hS hP hD rfl (by rw [fd_val, if_pos c_4, if_neg c_15, if_neg c_21]) ndF_valueOfSign_35
  · refine lv_iload_n hx hb ndF_valueOfSign_7 rfl (lv_at hl 0 rfl) ?_
    refine lv_bipush (v := 48) hx hb ndF_valueOfSign_8 (by decide) ?_
    refine lv_isub hx hb ndF_valueOfSign_10 ?_
    exact fd_ret_i hx hb hr hlocks hS hP hD rfl (by rw [fd_val, if_neg c_4]) ndF_valueOfSign_11
set_option maxHeartbeats 4000000 in
set_option maxRecDepth 100000 in
theorem kF_valueOfClass (l : Launch) (D : va_G) (Z : Nat → Nat) (cI cL : ClassId) (x : Int32) : fd_Mi l D fd_cl (fd_ty cI cL) (fd_EV Z) nyF_valueOfClass (.code nyF_valueOfClass ncF_valueOfClass 1 (some .int) :: fd_TB) nmF_valueOfClass [.int x] [] [] (fd_vcl x) := by
  refine fd_open_i (cc := ncF_valueOfClass) (maxL := 1) (ret := (some .int)) (by decide) rfl (Nat.le_of_ble_eq_true rfl) ?_
  intro p e s m below meth c A ls X hP hD hS hl
  obtain ⟨hx, hb, hr, hml, hown, hts0, hlocks, hK, hEV, hA⟩ := X
  have hts : ∀ w ∈ fd_TB, w.before _ s = true := fun w h => hts0 w (List.mem_cons_of_mem _ h)
  have hE := fd_EV_ok Z
  have hown : s.vm.findClass "FieldDesk" = some m.cls := hown
  have hl : lv_has ls 1 [(0, .int x)] := hl
  refine lv_iload_n hx hb ndF_valueOfClass_0 rfl (lv_at hl 0 rfl) ?_
  refine lv_bipush (v := 67) hx hb ndF_valueOfClass_1 (by decide) ?_
  refine lv_icmp_ne (tgt := 8) hx hb ndF_valueOfClass_3 (by decide) (fun c_3 => ?_) (fun c_3 => ?_)
  · refine lv_iload_n hx hb ndF_valueOfClass_8 rfl (lv_at hl 0 rfl) ?_
    refine lv_bipush (v := 83) hx hb ndF_valueOfClass_9 (by decide) ?_
    refine lv_icmp_ne (tgt := 18) hx hb ndF_valueOfClass_11 (by decide) (fun c_11 => ?_) (fun c_11 => ?_)
    · refine lv_iconst (v := (-1)) hx hb ndF_valueOfClass_18 (by decide) ?_
      exact fd_ret_i hx hb hr hlocks hS hP hD rfl (by rw [fd_vcl, if_neg c_3, if_neg c_11]) ndF_valueOfClass_19
    · refine lv_iconst (v := 1) hx hb ndF_valueOfClass_14 (by decide) ?_
      refine lv_goto (tgt := 19) hx hb ndF_valueOfClass_15 (by decide) ?_
      exact fd_ret_i hx hb hr hlocks hS hP hD rfl (by rw [fd_vcl, if_neg c_3, if_pos c_11]) ndF_valueOfClass_19
  · refine lv_iconst (v := 0) hx hb ndF_valueOfClass_6 (by decide) ?_
    exact fd_ret_i hx hb hr hlocks hS hP hD rfl (by rw [fd_vcl, if_pos c_3]) ndF_valueOfClass_7
set_option maxHeartbeats 4000000 in
set_option maxRecDepth 100000 in
theorem kF_isToBase36 (l : Launch) (D : va_G) (Z : Nat → Nat) (cI cL : ClassId) (x : Int32) : fd_Mi l D fd_cl (fd_ty cI cL) (fd_EV Z) nyF_isToBase36 (.code nyF_isToBase36 ncF_isToBase36 1 (some .boolean) :: fd_TB) nmF_isToBase36 [.int x] [] [] (fd_b36 x) := by
  refine fd_open_i (cc := ncF_isToBase36) (maxL := 1) (ret := (some .boolean)) (by decide) rfl (Nat.le_of_ble_eq_true rfl) ?_
  intro p e s m below meth c A ls X hP hD hS hl
  obtain ⟨hx, hb, hr, hml, hown, hts0, hlocks, hK, hEV, hA⟩ := X
  have hts : ∀ w ∈ fd_TB, w.before _ s = true := fun w h => hts0 w (List.mem_cons_of_mem _ h)
  have hE := fd_EV_ok Z
  have hown : s.vm.findClass "FieldDesk" = some m.cls := hown
  have hl : lv_has ls 1 [(0, .int x)] := hl
  refine lv_iload_n hx hb ndF_isToBase36_0 rfl (lv_at hl 0 rfl) ?_
  refine lv_iconst (v := 1) hx hb ndF_isToBase36_1 (by decide) ?_
  refine lv_icmp_lt (tgt := 14) hx hb ndF_isToBase36_2 (by decide) (fun c_2 => ?_) (fun c_2 => ?_)
  · refine lv_iconst (v := 0) hx hb ndF_isToBase36_14 (by decide) ?_
    exact fd_ret_i hx hb hr hlocks hS hP hD rfl (by rw [fd_b36, if_pos c_2]) ndF_isToBase36_15
  · refine lv_iload_n hx hb ndF_isToBase36_5 rfl (lv_at hl 0 rfl) ?_
    refine lv_iconst (v := 3) hx hb ndF_isToBase36_6 (by decide) ?_
    refine lv_icmp_gt (tgt := 14) hx hb ndF_isToBase36_7 (by decide) (fun c_7 => ?_) (fun c_7 => ?_)
    · refine lv_iconst (v := 0) hx hb ndF_isToBase36_14 (by decide) ?_
      exact fd_ret_i hx hb hr hlocks hS hP hD rfl (by rw [fd_b36, if_neg c_2, if_pos c_7]) ndF_isToBase36_15
    · refine lv_iconst (v := 1) hx hb ndF_isToBase36_10 (by decide) ?_
      refine lv_goto (tgt := 15) hx hb ndF_isToBase36_11 (by decide) ?_
      exact fd_ret_i hx hb hr hlocks hS hP hD rfl (by rw [fd_b36, if_neg c_2, if_neg c_7]) ndF_isToBase36_15
set_option maxHeartbeats 4000000 in
set_option maxRecDepth 100000 in
theorem kF_signInSort (l : Launch) (D : va_G) (Z : Nat → Nat) (cI cL : ClassId) (x : Int32) (y : Int32) : fd_Mi l D fd_cl (fd_ty cI cL) (fd_EV Z) nyF_signInSort (.code nyF_signInSort ncF_signInSort 2 (some .int) :: fd_TB) nmF_signInSort [.int x, .int y] [] [] (fd_sis x y) := by
  refine fd_open_i (cc := ncF_signInSort) (maxL := 2) (ret := (some .int)) (by decide) rfl (Nat.le_of_ble_eq_true rfl) ?_
  intro p e s m below meth c A ls X hP hD hS hl
  obtain ⟨hx, hb, hr, hml, hown, hts0, hlocks, hK, hEV, hA⟩ := X
  have hts : ∀ w ∈ fd_TB, w.before _ s = true := fun w h => hts0 w (List.mem_cons_of_mem _ h)
  have hE := fd_EV_ok Z
  have hown : s.vm.findClass "FieldDesk" = some m.cls := hown
  have hl : lv_has ls 2 [(0, .int x), (1, .int y)] := hl
  refine lv_iload_n hx hb ndF_signInSort_0 rfl (lv_at hl 0 rfl) ?_
  refine lv_iconst (v := 5) hx hb ndF_signInSort_1 (by decide) ?_
  refine lv_icmp_ne (tgt := 17) hx hb ndF_signInSort_2 (by decide) (fun c_2 => ?_) (fun c_2 => ?_)
  · refine lv_iload_n hx hb ndF_signInSort_17 rfl (lv_at hl 1 rfl) ?_
    refine lv_bipush (v := 10) hx hb ndF_signInSort_18 (by decide) ?_
    refine lv_icmp_ge (tgt := 30) hx hb ndF_signInSort_20 (by decide) (fun c_20 => ?_) (fun c_20 => ?_)
    · refine lv_bipush (v := 65) hx hb ndF_signInSort_30 (by decide) ?_
      refine lv_iload_n hx hb ndF_signInSort_32 rfl (lv_at hl 1 rfl) ?_
      refine lv_iadd hx hb ndF_signInSort_33 ?_
      refine lv_bipush (v := 10) hx hb ndF_signInSort_34 (by decide) ?_
      refine lv_isub hx hb ndF_signInSort_36 ?_
      exact fd_ret_i hx hb hr hlocks hS hP hD rfl (by rw [fd_sis, if_neg c_2, if_pos c_20]) ndF_signInSort_37
    · refine lv_bipush (v := 48) hx hb ndF_signInSort_23 (by decide) ?_
      refine lv_iload_n hx hb ndF_signInSort_25 rfl (lv_at hl 1 rfl) ?_
      refine lv_iadd hx hb ndF_signInSort_26 ?_
      refine lv_goto (tgt := 37) hx hb ndF_signInSort_27 (by decide) ?_
      exact fd_ret_i hx hb hr hlocks hS hP hD rfl (by rw [fd_sis, if_neg c_2, if_neg c_20]) ndF_signInSort_37
  · refine lv_iload_n hx hb ndF_signInSort_5 rfl (lv_at hl 1 rfl) ?_
    refine lv_if_ne (tgt := 14) hx hb ndF_signInSort_6 (by decide) (fun c_6 => ?_) (fun c_6 => ?_)
    · refine lv_bipush (v := 83) hx hb ndF_signInSort_14 (by decide) ?_
      exact fd_ret_i hx hb hr hlocks hS hP hD rfl (by rw [fd_sis, if_pos c_2, if_neg c_6]) ndF_signInSort_16
    · refine lv_bipush (v := 67) hx hb ndF_signInSort_9 (by decide) ?_
      refine lv_goto (tgt := 16) hx hb ndF_signInSort_11 (by decide) ?_
      exact fd_ret_i hx hb hr hlocks hS hP hD rfl (by rw [fd_sis, if_pos c_2, if_pos c_6]) ndF_signInSort_16
set_option maxHeartbeats 4000000 in
set_option maxRecDepth 100000 in
theorem kF_entry (l : Launch) (D : va_G) (Z : Nat → Nat) (cI cL : ClassId) {k : Nat} (hk : k < 5) (i : Int32) : fd_Mi l D fd_cl (fd_ty cI cL) (fd_EV Z) nyF_entry (.code nyF_entry ncF_entry 2 (some .int) :: fd_TB) nmF_entry [.ref (Z k), .int i] [] [] (fd_ent k i) := by
  have hkl := fd_tab_len k
  refine fd_open_i (cc := ncF_entry) (maxL := 2) (ret := (some .int)) (by decide) rfl (Nat.le_of_ble_eq_true rfl) ?_
  intro p e s m below meth c A ls X hP hD hS hl
  obtain ⟨hx, hb, hr, hml, hown, hts0, hlocks, hK, hEV, hA⟩ := X
  have hts : ∀ w ∈ fd_TB, w.before _ s = true := fun w h => hts0 w (List.mem_cons_of_mem _ h)
  have hE := fd_EV_ok Z
  have hown : s.vm.findClass "FieldDesk" = some m.cls := hown
  have hl : lv_has ls 2 [(0, .ref (Z k)), (1, .int i)] := hl
  refine lv_iload_n hx hb ndF_entry_0 rfl (lv_at hl 1 rfl) ?_
  refine lv_if_lt (tgt := 16) hx hb ndF_entry_1 (by decide) (fun c_1 => ?_) (fun c_1 => ?_)
  · refine lv_iconst (v := 0) hx hb ndF_entry_16 (by decide) ?_
    exact fd_ret_i hx hb hr hlocks hS hP hD rfl (by rw [fd_ent, if_pos c_1]) ndF_entry_17
  · refine lv_iload_n hx hb ndF_entry_4 rfl (lv_at hl 1 rfl) ?_
    refine lv_aload_n hx hb ndF_entry_5 rfl (lv_at hl 0 rfl) ?_
    refine va_tlen hx hb (hEV.2.2.2.1 k hk).2 hS (v := nI (fd_tab k).length) rfl ndF_entry_6 ?_
    refine lv_icmp_ge (tgt := 16) hx hb ndF_entry_7 (by decide) (fun c_7 => ?_) (fun c_7 => ?_)
    · refine lv_iconst (v := 0) hx hb ndF_entry_16 (by decide) ?_
      exact fd_ret_i hx hb hr hlocks hS hP hD rfl (by rw [fd_ent, if_neg c_1, if_pos c_7]) ndF_entry_17
    · obtain ⟨j, hj, rfl⟩ := fd_ix c_1 c_7 (fd_tab_len k)
      refine lv_aload_n hx hb ndF_entry_10 rfl (lv_at hl 0 rfl) ?_
      refine lv_iload_n hx hb ndF_entry_11 rfl (lv_at hl 1 rfl) ?_
      refine va_ti hx hb (hEV.2.2.2.1 k hk).2 hS (vp_in_nI hj (fd_tab_len k)) (v := .int ((fd_tab k).getD j 0)) (by show Value.int _ = _; rw [nI_clamp (by omega)]) ndF_entry_12 ?_
      refine lv_goto (tgt := 17) hx hb ndF_entry_13 (by decide) ?_
      exact fd_ret_i hx hb hr hlocks hS hP hD rfl (by rw [fd_ent, if_neg c_1, if_neg c_7, nI_clamp (by omega)]) ndF_entry_17
set_option maxHeartbeats 4000000 in
set_option maxRecDepth 100000 in
theorem kF_valueInSort (l : Launch) (D : va_G) (Z : Nat → Nat) (cI cL : ClassId) (x : Int32) (y : Int32) : fd_Mi l D fd_cl (fd_ty cI cL) (fd_EV Z) nyF_valueInSort (.code nyF_valueInSort ncF_valueInSort 4 (some .int) :: fd_TB) nmF_valueInSort [.int x, .int y] [] [] (fd_vis x y) := by
  refine fd_open_i (cc := ncF_valueInSort) (maxL := 4) (ret := (some .int)) (by decide) rfl (Nat.le_of_ble_eq_true rfl) ?_
  intro p e s m below meth c A ls X hP hD hS hl
  obtain ⟨hx, hb, hr, hml, hown, hts0, hlocks, hK, hEV, hA⟩ := X
  have hts : ∀ w ∈ fd_TB, w.before _ s = true := fun w h => hts0 w (List.mem_cons_of_mem _ h)
  have hE := fd_EV_ok Z
  have hown : s.vm.findClass "FieldDesk" = some m.cls := hown
  have hl : lv_has ls 4 [(0, .int x), (1, .int y)] := hl
  refine lv_iload_n hx hb ndF_valueInSort_0 rfl (lv_at hl 0 rfl) ?_
  refine lv_iconst (v := 5) hx hb ndF_valueInSort_1 (by decide) ?_
  refine lv_icmp_ne (tgt := 12) hx hb ndF_valueInSort_2 (by decide) (fun c_2 => ?_) (fun c_2 => ?_)
  · refine lv_iload_n hx hb ndF_valueInSort_12 rfl (lv_at hl 1 rfl) ?_
    refine fd_go_i (wr := []) (w2 := []) (va_runS (As := [.int y]) (rest := []) ⟨hx, hb, hml, hown, hts⟩ (kF_valueOfSign l D Z cI cL y s.heap.size) (va_cwS 1 hts (fd_gS tb_158 tb_159 tb_13 tb_160) rfl rfl rfl nhF_valueOfSign.2 ⟨(Nat.le_of_ble_eq_true rfl), (Nat.le_of_ble_eq_true rfl)⟩) (fd_PreS hE hK hEV hA hP hD hS [] rfl (by decide)) rfl rfl hl.1 rfl (lv_room (Nat.le_of_ble_eq_true rfl)) ndF_valueInSort_13 ⟨(Nat.le_of_ble_eq_true rfl), (Nat.le_of_ble_eq_true rfl)⟩) hP hD hS hA [] [] rfl rfl (by decide) (by decide) [] rfl (by decide) (fun H locs hP hD hS => ?_)
    refine lv_istore_n (lv' := [(2, .int (fd_val y)), (0, .int x), (1, .int y)]) hx hb ndF_valueInSort_16 rfl hl (by decide) rfl (fun ls hl => ?_)
    refine lv_iload_n hx hb ndF_valueInSort_17 rfl (lv_at hl 0 rfl) ?_
    refine va_gets hx hb (hEV.2.2.2.1 1 (by decide)).1 hS hown (hts _ tb_164) (fun _ h9 => h9) ndF_valueInSort_18 ?_
    refine lv_iload_n hx hb ndF_valueInSort_21 rfl (lv_at hl 1 rfl) ?_
    refine fd_go_i (wr := []) (w2 := []) (va_runS (As := [.ref (Z 1), .int x]) (rest := [.int (fd_val y)]) ⟨hx, hb, hml, hown, hts⟩ (kF_entry l D Z cI cL (k := 1) (by decide) x H.size) (va_cwS 2 hts (fd_gS tb_145 tb_142 tb_13 tb_143) rfl rfl rfl nhF_entry.2 ⟨(Nat.le_of_ble_eq_true rfl), (Nat.le_of_ble_eq_true rfl)⟩) (fd_PreS hE hK hEV hA hP hD hS [] rfl (by decide)) rfl rfl hl.1 rfl (lv_room (Nat.le_of_ble_eq_true rfl)) ndF_valueInSort_22 ⟨(Nat.le_of_ble_eq_true rfl), (Nat.le_of_ble_eq_true rfl)⟩) hP hD hS hA [] [] rfl rfl (by decide) (by decide) [] rfl (by decide) (fun H locs hP hD hS => ?_)
    refine lv_icmp_lt (tgt := 43) hx hb ndF_valueInSort_25 (by decide) (fun c_25 => ?_) (fun c_25 => ?_)
    · refine lv_iconst (v := 0) hx hb ndF_valueInSort_43 (by decide) ?_
      refine lv_istore_n (lv' := [(3, .int 0), (2, .int (fd_val y)), (0, .int x), (1, .int y)]) hx hb ndF_valueInSort_44 rfl hl (by decide) rfl (fun ls hl => ?_)
      refine lv_iload_n hx hb ndF_valueInSort_45 rfl (lv_at hl 0 rfl) ?_
      refine lv_if_eq (tgt := 53) hx hb ndF_valueInSort_46 (by decide) (fun _ => ?_) (fun c_46 => absurd (by decide) c_46)
      refine lv_iconst (v := (-1)) hx hb ndF_valueInSort_53 (by decide) ?_
      exact fd_ret_i hx hb hr hlocks hS hP hD rfl (by rw [fd_vis, if_neg c_2, if_pos c_25]) ndF_valueInSort_54
    · refine lv_iload_n hx hb ndF_valueInSort_28 rfl (lv_at hl 0 rfl) ?_
      refine va_gets hx hb (hEV.2.2.2.1 2 (by decide)).1 hS hown (hts _ tb_165) (fun _ h9 => h9) ndF_valueInSort_29 ?_
      refine lv_iload_n hx hb ndF_valueInSort_32 rfl (lv_at hl 1 rfl) ?_
      refine fd_go_i (wr := []) (w2 := []) (va_runS (As := [.ref (Z 2), .int x]) (rest := [.int (fd_val y)]) ⟨hx, hb, hml, hown, hts⟩ (kF_entry l D Z cI cL (k := 2) (by decide) x H.size) (va_cwS 2 hts (fd_gS tb_145 tb_142 tb_13 tb_143) rfl rfl rfl nhF_entry.2 ⟨(Nat.le_of_ble_eq_true rfl), (Nat.le_of_ble_eq_true rfl)⟩) (fd_PreS hE hK hEV hA hP hD hS [] rfl (by decide)) rfl rfl hl.1 rfl (lv_room (Nat.le_of_ble_eq_true rfl)) ndF_valueInSort_33 ⟨(Nat.le_of_ble_eq_true rfl), (Nat.le_of_ble_eq_true rfl)⟩) hP hD hS hA [] [] rfl rfl (by decide) (by decide) [] rfl (by decide) (fun H locs hP hD hS => ?_)
      refine lv_icmp_gt (tgt := 43) hx hb ndF_valueInSort_36 (by decide) (fun c_36 => ?_) (fun c_36 => ?_)
      · refine lv_iconst (v := 0) hx hb ndF_valueInSort_43 (by decide) ?_
        refine lv_istore_n (lv' := [(3, .int 0), (2, .int (fd_val y)), (0, .int x), (1, .int y)]) hx hb ndF_valueInSort_44 rfl hl (by decide) rfl (fun ls hl => ?_)
        refine lv_iload_n hx hb ndF_valueInSort_45 rfl (lv_at hl 0 rfl) ?_
        refine lv_if_eq (tgt := 53) hx hb ndF_valueInSort_46 (by decide) (fun _ => ?_) (fun c_46 => absurd (by decide) c_46)
        refine lv_iconst (v := (-1)) hx hb ndF_valueInSort_53 (by decide) ?_
        exact fd_ret_i hx hb hr hlocks hS hP hD rfl (by rw [fd_vis, if_neg c_2, if_neg c_25, if_pos c_36]) ndF_valueInSort_54
      · refine lv_iconst (v := 1) hx hb ndF_valueInSort_39 (by decide) ?_
        refine lv_goto (tgt := 44) hx hb ndF_valueInSort_40 (by decide) ?_
        refine lv_istore_n (lv' := [(3, .int 1), (2, .int (fd_val y)), (0, .int x), (1, .int y)]) hx hb ndF_valueInSort_44 rfl hl (by decide) rfl (fun ls hl => ?_)
        refine lv_iload_n hx hb ndF_valueInSort_45 rfl (lv_at hl 0 rfl) ?_
        refine lv_if_eq (tgt := 53) hx hb ndF_valueInSort_46 (by decide) (fun c_46 => absurd c_46 (by decide)) (fun _ => ?_)
        refine lv_iload_n hx hb ndF_valueInSort_49 rfl (lv_at hl 1 rfl) ?_
        refine lv_goto (tgt := 54) hx hb ndF_valueInSort_50 (by decide) ?_
        exact fd_ret_i hx hb hr hlocks hS hP hD rfl (by rw [fd_vis, if_neg c_2, if_neg c_25, if_neg c_36]) ndF_valueInSort_54
  · refine lv_iload_n hx hb ndF_valueInSort_5 rfl (lv_at hl 1 rfl) ?_
    refine fd_go_i (wr := []) (w2 := []) (va_runS (As := [.int y]) (rest := []) ⟨hx, hb, hml, hown, hts⟩ (kF_valueOfClass l D Z cI cL y s.heap.size) (va_cwS 1 hts (fd_gS tb_155 tb_156 tb_13 tb_157) rfl rfl rfl nhF_valueOfClass.2 ⟨(Nat.le_of_ble_eq_true rfl), (Nat.le_of_ble_eq_true rfl)⟩) (fd_PreS hE hK hEV hA hP hD hS [] rfl (by decide)) rfl rfl hl.1 rfl (lv_room (Nat.le_of_ble_eq_true rfl)) ndF_valueInSort_6 ⟨(Nat.le_of_ble_eq_true rfl), (Nat.le_of_ble_eq_true rfl)⟩) hP hD hS hA [] [] rfl rfl (by decide) (by decide) [] rfl (by decide) (fun H locs hP hD hS => ?_)
    refine lv_goto (tgt := 16) hx hb ndF_valueInSort_9 (by decide) ?_
    refine lv_istore_n (lv' := [(2, .int (fd_vcl y)), (0, .int x), (1, .int y)]) hx hb ndF_valueInSort_16 rfl hl (by decide) rfl (fun ls hl => ?_)
    refine lv_iload_n hx hb ndF_valueInSort_17 rfl (lv_at hl 0 rfl) ?_
    refine va_gets hx hb (hEV.2.2.2.1 1 (by decide)).1 hS hown (hts _ tb_164) (fun _ h9 => h9) ndF_valueInSort_18 ?_
    refine lv_iload_n hx hb ndF_valueInSort_21 rfl (lv_at hl 1 rfl) ?_
    refine fd_go_i (wr := []) (w2 := []) (va_runS (As := [.ref (Z 1), .int x]) (rest := [.int (fd_vcl y)]) ⟨hx, hb, hml, hown, hts⟩ (kF_entry l D Z cI cL (k := 1) (by decide) x H.size) (va_cwS 2 hts (fd_gS tb_145 tb_142 tb_13 tb_143) rfl rfl rfl nhF_entry.2 ⟨(Nat.le_of_ble_eq_true rfl), (Nat.le_of_ble_eq_true rfl)⟩) (fd_PreS hE hK hEV hA hP hD hS [] rfl (by decide)) rfl rfl hl.1 rfl (lv_room (Nat.le_of_ble_eq_true rfl)) ndF_valueInSort_22 ⟨(Nat.le_of_ble_eq_true rfl), (Nat.le_of_ble_eq_true rfl)⟩) hP hD hS hA [] [] rfl rfl (by decide) (by decide) [] rfl (by decide) (fun H locs hP hD hS => ?_)
    refine lv_icmp_lt (tgt := 43) hx hb ndF_valueInSort_25 (by decide) (fun c_25 => ?_) (fun c_25 => ?_)
    · refine lv_iconst (v := 0) hx hb ndF_valueInSort_43 (by decide) ?_
      refine lv_istore_n (lv' := [(3, .int 0), (2, .int (fd_vcl y)), (0, .int x), (1, .int y)]) hx hb ndF_valueInSort_44 rfl hl (by decide) rfl (fun ls hl => ?_)
      refine lv_iload_n hx hb ndF_valueInSort_45 rfl (lv_at hl 0 rfl) ?_
      refine lv_if_eq (tgt := 53) hx hb ndF_valueInSort_46 (by decide) (fun _ => ?_) (fun c_46 => absurd (by decide) c_46)
      refine lv_iconst (v := (-1)) hx hb ndF_valueInSort_53 (by decide) ?_
      exact fd_ret_i hx hb hr hlocks hS hP hD rfl (by rw [fd_vis, if_pos c_2, if_pos c_25]) ndF_valueInSort_54
    · refine lv_iload_n hx hb ndF_valueInSort_28 rfl (lv_at hl 0 rfl) ?_
      refine va_gets hx hb (hEV.2.2.2.1 2 (by decide)).1 hS hown (hts _ tb_165) (fun _ h9 => h9) ndF_valueInSort_29 ?_
      refine lv_iload_n hx hb ndF_valueInSort_32 rfl (lv_at hl 1 rfl) ?_
      refine fd_go_i (wr := []) (w2 := []) (va_runS (As := [.ref (Z 2), .int x]) (rest := [.int (fd_vcl y)]) ⟨hx, hb, hml, hown, hts⟩ (kF_entry l D Z cI cL (k := 2) (by decide) x H.size) (va_cwS 2 hts (fd_gS tb_145 tb_142 tb_13 tb_143) rfl rfl rfl nhF_entry.2 ⟨(Nat.le_of_ble_eq_true rfl), (Nat.le_of_ble_eq_true rfl)⟩) (fd_PreS hE hK hEV hA hP hD hS [] rfl (by decide)) rfl rfl hl.1 rfl (lv_room (Nat.le_of_ble_eq_true rfl)) ndF_valueInSort_33 ⟨(Nat.le_of_ble_eq_true rfl), (Nat.le_of_ble_eq_true rfl)⟩) hP hD hS hA [] [] rfl rfl (by decide) (by decide) [] rfl (by decide) (fun H locs hP hD hS => ?_)
      refine lv_icmp_gt (tgt := 43) hx hb ndF_valueInSort_36 (by decide) (fun c_36 => ?_) (fun c_36 => ?_)
      · refine lv_iconst (v := 0) hx hb ndF_valueInSort_43 (by decide) ?_
        refine lv_istore_n (lv' := [(3, .int 0), (2, .int (fd_vcl y)), (0, .int x), (1, .int y)]) hx hb ndF_valueInSort_44 rfl hl (by decide) rfl (fun ls hl => ?_)
        refine lv_iload_n hx hb ndF_valueInSort_45 rfl (lv_at hl 0 rfl) ?_
        refine lv_if_eq (tgt := 53) hx hb ndF_valueInSort_46 (by decide) (fun _ => ?_) (fun c_46 => absurd (by decide) c_46)
        refine lv_iconst (v := (-1)) hx hb ndF_valueInSort_53 (by decide) ?_
        exact fd_ret_i hx hb hr hlocks hS hP hD rfl (by rw [fd_vis, if_pos c_2, if_neg c_25, if_pos c_36]) ndF_valueInSort_54
      · refine lv_iconst (v := 1) hx hb ndF_valueInSort_39 (by decide) ?_
        refine lv_goto (tgt := 44) hx hb ndF_valueInSort_40 (by decide) ?_
        refine lv_istore_n (lv' := [(3, .int 1), (2, .int (fd_vcl y)), (0, .int x), (1, .int y)]) hx hb ndF_valueInSort_44 rfl hl (by decide) rfl (fun ls hl => ?_)
        refine lv_iload_n hx hb ndF_valueInSort_45 rfl (lv_at hl 0 rfl) ?_
        refine lv_if_eq (tgt := 53) hx hb ndF_valueInSort_46 (by decide) (fun c_46 => absurd c_46 (by decide)) (fun _ => ?_)
        refine lv_iload_n hx hb ndF_valueInSort_49 rfl (lv_at hl 1 rfl) ?_
        refine lv_goto (tgt := 54) hx hb ndF_valueInSort_50 (by decide) ?_
        exact fd_ret_i hx hb hr hlocks hS hP hD rfl (by rw [fd_vis, if_pos c_2, if_neg c_25, if_neg c_36]) ndF_valueInSort_54
set_option maxHeartbeats 4000000 in
set_option maxRecDepth 100000 in
theorem kR_remainder (l : Launch) (D : va_G) (Z : Nat → Nat) (cI cL : ClassId) {h b n cap : Nat} {f : Nat → Int32} (hn : n ≤ cap) (hc : cap < 2 ^ 31) : fd_Mi l D fd_cl (fd_ty cI cL) (fd_EV Z) nyR_remainder (.code nyR_remainder ncR_remainder 4 (some .int) :: fd_TB) nmR_remainder [.ref h] [(h, .inr (0, [.ref b, .int (nI n)])), (b, .inl (cI, cap, .inl f))] [(h, .inr (0, [.ref b, .int (nI n)])), (b, .inl (cI, cap, .inl f))] (fd_rem f n) := by
  refine fd_open_i (cc := ncR_remainder) (maxL := 4) (ret := (some .int)) (by decide) rfl (Nat.le_of_ble_eq_true rfl) ?_
  intro p e s m below meth c A ls X hP hD hS hl
  obtain ⟨hx, hb, hr, hml, hown, hts0, hlocks, hK, hEV, hA⟩ := X
  have hts : ∀ w ∈ fd_TB, w.before _ s = true := fun w h => hts0 w (List.mem_cons_of_mem _ h)
  have hE := fd_EV_ok Z
  have hown : s.vm.findClass "FieldDesk$Row" = some m.cls := hown
  have hl : lv_has ls 4 [(0, .ref h)] := hl
  refine lv_iconst (v := 0) hx hb ndR_remainder_0 (by decide) ?_
  refine lv_istore_n (lv' := [(1, .int 0), (0, .ref h)]) hx hb ndR_remainder_1 rfl hl (by decide) rfl (fun ls hl => ?_)
  refine lv_iconst (v := 0) hx hb ndR_remainder_2 (by decide) ?_
  refine lv_istore_n (lv' := [(2, .int 0), (1, .int 0), (0, .ref h)]) hx hb ndR_remainder_3 rfl hl (by decide) rfl (fun ls hl => ?_)
  have loop : ∀ (k : Nat) (i : Nat) (hi : i + k = n) (H : Heap) (locs : List Loc) (ls : Array Slot), va_P D fd_cl [(h, .inr (0, [.ref b, .int (nI n)])), (b, .inl (cI, cap, .inl f))] H → va_D A [(h, .inr (0, [.ref b, .int (nI n)])), (b, .inl (cI, cap, .inl f))] → va_S A s.heap H locs → lv_has ls 4 [(0, .ref h), (1, .int (fd_rem f i)), (2, .int (nI i))] → W p l e nmR_remainder s m ([.ref h].toArray) below meth c H locs 0 0 (MQ below (va_Qi (fun r' (_ : Unit) => r' = (fd_rem f n)) (fd_B D fd_cl A [(h, .inr (0, [.ref b, .int (nI n)])), (b, .inl (cI, cap, .inl f))]) A) [.ref h].toArray s 0 0 A) (F0 m 4 ls []) := by
    intro k
    induction k with
    | zero =>
      intro i hi H locs ls hP hD hS hl
      have hi0 : i = n := by omega
      refine lv_iload_n hx hb ndR_remainder_4 rfl (lv_at hl 2 rfl) ?_
      refine lv_aload_n hx hb ndR_remainder_5 rfl (lv_at hl 0 rfl) ?_
      refine va_get (D := D) (ci := 0) (v := .int (nI n)) (C := nR_R) (T := nT_R) (N := 2) hx hb hts in_R hown hK hP 0 rfl rfl 1 (by decide) (hts _ tb_35) (fun _ h9 => h9) rfl ndR_remainder_6 ?_
      refine lv_icmp_ge (tgt := 48) hx hb ndR_remainder_9 (by decide) (fun _ => ?_) (fun c_9 => absurd ((nI_leI (a := n) (b := i) (by omega) (by omega)).mpr (by omega)) c_9)
      refine lv_iload_n hx hb ndR_remainder_48 rfl (lv_at hl 1 rfl) ?_
      exact fd_ret_i hx hb hr hlocks hS hP hD rfl (by rw [hi0]) ndR_remainder_49
    | succ k ih =>
      intro i hi H locs ls hP hD hS hl
      have hi9 : i < n := by omega
      refine lv_iload_n hx hb ndR_remainder_4 rfl (lv_at hl 2 rfl) ?_
      refine lv_aload_n hx hb ndR_remainder_5 rfl (lv_at hl 0 rfl) ?_
      refine va_get (D := D) (ci := 0) (v := .int (nI n)) (C := nR_R) (T := nT_R) (N := 2) hx hb hts in_R hown hK hP 0 rfl rfl 1 (by decide) (hts _ tb_35) (fun _ h9 => h9) rfl ndR_remainder_6 ?_
      refine lv_icmp_ge (tgt := 48) hx hb ndR_remainder_9 (by decide) (fun c_9 => absurd c_9 (fun h9 => absurd ((nI_leI (a := n) (b := i) (by omega) (by omega)).mp h9) (by omega))) (fun _ => ?_)
      refine lv_aload_n hx hb ndR_remainder_12 rfl (lv_at hl 0 rfl) ?_
      refine lv_iload_n hx hb ndR_remainder_13 rfl (lv_at hl 2 rfl) ?_
      refine fd_go_i (wr := []) (w2 := [(h, .inr (0, [.ref b, .int (nI n)])), (b, .inl (cI, cap, .inl f))]) (va_runV (As := [.int (nI i)]) (rest := []) ⟨hx, hb, hml, hown, hts⟩ (kR_at l D Z cI cL (n := n) (f := f) (by omega) (by omega) (nI i) H.size) (cwV 1 hts (fd_gV tb_182 tb_92 tb_93 tb_14 tb_94) rfl rfl rfl nhR_at ⟨(Nat.le_of_ble_eq_true rfl), (Nat.le_of_ble_eq_true rfl)⟩) (fd_PreV hE hK hEV hA hP hD hS [0, 1] rfl (by decide) (ci := 0) (q0 := 0) rfl rfl) rfl rfl hl.1 rfl (lv_room (Nat.le_of_ble_eq_true rfl)) ndR_remainder_14 ⟨(Nat.le_of_ble_eq_true rfl), (Nat.le_of_ble_eq_true rfl)⟩) hP hD hS hA [0, 1] [] rfl rfl (by decide) (by decide) [0, 1] rfl (by decide) (fun H locs hP hD hS => ?_)
      refine fd_asi (y := f i) (fd_at_lt hi9 (by omega)) ?_
      refine fd_go_i (wr := [(h, .inr (0, [.ref b, .int (nI n)])), (b, .inl (cI, cap, .inl f))]) (w2 := [(h, .inr (0, [.ref b, .int (nI n)])), (b, .inl (cI, cap, .inl f))]) (va_runSN (As := [.int (f i)]) (rest := []) ⟨hx, hb, hml, hown, hts⟩ (kF_valueOfSign l D Z cI cL (f i) H.size) ⟨va_cnB 1 hts (fd_gi tb_160) rfl rfl rfl (hEV.1 _ nb_7) (hts _ tb_13) nhF_valueOfSign.2 ⟨(Nat.le_of_ble_eq_true rfl), (Nat.le_of_ble_eq_true rfl)⟩, hts _ tb_159, trivial⟩ (fd_PreS hE hK hEV hA hP hD hS [] rfl (by decide)) rfl rfl hl.1 rfl (lv_room (Nat.le_of_ble_eq_true rfl)) ndR_remainder_17 ⟨(Nat.le_of_ble_eq_true rfl), (Nat.le_of_ble_eq_true rfl)⟩) hP hD hS hA [] [0, 1] rfl rfl (by decide) (by decide) [0, 1] rfl (by decide) (fun H locs hP hD hS => ?_)
      refine lv_istore_n (lv' := [(3, .int (fd_val (f i))), (0, .ref h), (1, .int (fd_rem f i)), (2, .int (nI i))]) hx hb ndR_remainder_20 rfl hl (by decide) rfl (fun ls hl => ?_)
      refine lv_iload_n hx hb ndR_remainder_21 rfl (lv_at hl 2 rfl) ?_
      refine lv_iload_n hx hb ndR_remainder_22 rfl (lv_at hl 0 rfl) ?_
      refine lv_bipush (v := 10) hx hb ndR_remainder_23 (by decide) ?_
      refine lv_icmp_ge (tgt := 33) hx hb ndR_remainder_25 (by decide) (fun c_25 => ?_) (fun c_25 => ?_)
      · refine lv_bipush (v := 100) hx hb ndR_remainder_33 (by decide) ?_
        refine lv_imul hx hb ndR_remainder_35 ?_
        refine lv_iload_n hx hb ndR_remainder_36 rfl (lv_at hl 0 rfl) ?_
        refine lv_iadd hx hb ndR_remainder_37 ?_
        refine lv_bipush (v := 97) hx hb ndR_remainder_38 (by decide) ?_
        refine lv_irem hx hb ndR_remainder_40 (by decide) ?_
        refine fd_asi (y := fd_rst (fd_rem f i) (fd_val (f i))) (by rw [fd_rst, if_pos c_25]) ?_
        refine lv_istore_n (lv' := [(1, .int (fd_rst (fd_rem f i) (fd_val (f i)))), (3, .int (fd_val (f i))), (0, .ref h), (2, .int (nI i))]) hx hb ndR_remainder_41 rfl hl (by decide) rfl (fun ls hl => ?_)
        refine lv_iinc (v := nI (i + 1)) (lv' := [(2, .int (nI (i + 1))), (1, .int (fd_rst (fd_rem f i) (fd_val (f i)))), (3, .int (fd_val (f i))), (0, .ref h)]) hx hb ndR_remainder_42 hl (k := 3) rfl (nI_1 i) (by decide) rfl (fun ls hl => ?_)
        refine lv_goto (tgt := 4) hx hb ndR_remainder_45 (by decide) ?_
        exact ih (i + 1) (by omega) _ _ _ hP hD hS (lv_sub hl [3, 1, 0] rfl)
      · refine lv_bipush (v := 10) hx hb ndR_remainder_28 (by decide) ?_
        refine lv_goto (tgt := 35) hx hb ndR_remainder_30 (by decide) ?_
        refine lv_imul hx hb ndR_remainder_35 ?_
        refine lv_iload_n hx hb ndR_remainder_36 rfl (lv_at hl 0 rfl) ?_
        refine lv_iadd hx hb ndR_remainder_37 ?_
        refine lv_bipush (v := 97) hx hb ndR_remainder_38 (by decide) ?_
        refine lv_irem hx hb ndR_remainder_40 (by decide) ?_
        refine fd_asi (y := fd_rst (fd_rem f i) (fd_val (f i))) (by rw [fd_rst, if_neg c_25]) ?_
        refine lv_istore_n (lv' := [(1, .int (fd_rst (fd_rem f i) (fd_val (f i)))), (3, .int (fd_val (f i))), (0, .ref h), (2, .int (nI i))]) hx hb ndR_remainder_41 rfl hl (by decide) rfl (fun ls hl => ?_)
        refine lv_iinc (v := nI (i + 1)) (lv' := [(2, .int (nI (i + 1))), (1, .int (fd_rst (fd_rem f i) (fd_val (f i)))), (3, .int (fd_val (f i))), (0, .ref h)]) hx hb ndR_remainder_42 hl (k := 3) rfl (nI_1 i) (by decide) rfl (fun ls hl => ?_)
        refine lv_goto (tgt := 4) hx hb ndR_remainder_45 (by decide) ?_
        exact ih (i + 1) (by omega) _ _ _ hP hD hS (lv_sub hl [3, 1, 0] rfl)
  exact loop n 0 (by omega) _ _ _ hP hD hS (lv_sub hl [2, 1, 0] rfl)
end
section
/-! the text constant: String.length, String.charAt; letterOf -/
theorem fd_kl_ok : ∀ k, k < 45 → (((fd_kl.getD k 0) &&& 255).toUInt32 % 65536).toInt32 = fd_kl.getD k 0 := by decide +kernel
theorem fd_kl_nar (k : Nat) (h : k < 45) : narrow .char (.int (fd_kl.getD k 0)) = .int (fd_kl.getD k 0) := by
  rw [← fd_kl_ok k h]; exact pk_nc _
def fd_let (kd i : Nat) : Int32 := fd_kl.getD ((kd - 1) * 3 + i) 0
set_option maxHeartbeats 4000000 in
set_option maxRecDepth 100000 in
theorem kS_coder (l : Launch) (D : va_G) (Z : Nat → Nat) (cI cL : ClassId)  : fd_Mi l D fd_cl (fd_ty cI cL) (fd_EV Z) nyS_coder (.code nyS_coder ncS_coder 1 (some .byte) :: fd_TB) nmS_coder [.ref (Z 6)] [] [] 0 := by
  refine fd_open_i (cc := ncS_coder) (maxL := 1) (ret := (some .byte)) (by decide) rfl (Nat.le_of_ble_eq_true rfl) ?_
  intro p e s m below meth c A ls X hP hD hS hl
  obtain ⟨hx, hb, hr, hml, hown, hts0, hlocks, hK, hEV, hA⟩ := X
  have hts : ∀ w ∈ fd_TB, w.before _ s = true := fun w h => hts0 w (List.mem_cons_of_mem _ h)
  have hE := fd_EV_ok Z
  have hown : s.vm.findClass "java/lang/String" = some m.cls := hown
  have hl : lv_has ls 1 [(0, .ref (Z 6))] := hl
  refine va_gets hx hb hEV.2.2.1 hS hown (hts _ tb_106) (fun _ h9 => h9) ndS_coder_0 ?_
  refine lv_if_eq (tgt := 13) hx hb ndS_coder_3 (by decide) (fun c_3 => absurd c_3 (by decide)) (fun _ => ?_)
  refine lv_aload_n hx hb ndS_coder_6 rfl (lv_at hl 0 rfl) ?_
  refine vk_getf hx hb hEV.2.2.2.2.2.2.1 hS hown (hts _ tb_359) (fun _ h9 => h9) ndS_coder_7 ?_
  refine lv_goto (tgt := 14) hx hb ndS_coder_10 (by decide) ?_
  exact fd_ret_i hx hb hr hlocks hS hP hD rfl (rfl) ndS_coder_14
set_option maxHeartbeats 4000000 in
set_option maxRecDepth 100000 in
theorem kS_isLatin1 (l : Launch) (D : va_G) (Z : Nat → Nat) (cI cL : ClassId)  : fd_Mi l D fd_cl (fd_ty cI cL) (fd_EV Z) nyS_isLatin1 (.code nyS_isLatin1 ncS_isLatin1 1 (some .boolean) :: fd_TB) nmS_isLatin1 [.ref (Z 6)] [] [] 1 := by
  refine fd_open_i (cc := ncS_isLatin1) (maxL := 1) (ret := (some .boolean)) (by decide) rfl (Nat.le_of_ble_eq_true rfl) ?_
  intro p e s m below meth c A ls X hP hD hS hl
  obtain ⟨hx, hb, hr, hml, hown, hts0, hlocks, hK, hEV, hA⟩ := X
  have hts : ∀ w ∈ fd_TB, w.before _ s = true := fun w h => hts0 w (List.mem_cons_of_mem _ h)
  have hE := fd_EV_ok Z
  have hown : s.vm.findClass "java/lang/String" = some m.cls := hown
  have hl : lv_has ls 1 [(0, .ref (Z 6))] := hl
  refine va_gets hx hb hEV.2.2.1 hS hown (hts _ tb_106) (fun _ h9 => h9) ndS_isLatin1_0 ?_
  refine lv_if_eq (tgt := 17) hx hb ndS_isLatin1_3 (by decide) (fun c_3 => absurd c_3 (by decide)) (fun _ => ?_)
  refine lv_aload_n hx hb ndS_isLatin1_6 rfl (lv_at hl 0 rfl) ?_
  refine vk_getf hx hb hEV.2.2.2.2.2.2.1 hS hown (hts _ tb_359) (fun _ h9 => h9) ndS_isLatin1_7 ?_
  refine lv_if_ne (tgt := 17) hx hb ndS_isLatin1_10 (by decide) (fun c_10 => absurd (by decide) c_10) (fun _ => ?_)
  refine lv_iconst (v := 1) hx hb ndS_isLatin1_13 (by decide) ?_
  refine lv_goto (tgt := 18) hx hb ndS_isLatin1_14 (by decide) ?_
  exact fd_ret_i hx hb hr hlocks hS hP hD rfl (rfl) ndS_isLatin1_18
set_option maxHeartbeats 4000000 in
set_option maxRecDepth 100000 in
theorem kS_length (l : Launch) (D : va_G) (Z : Nat → Nat) (cI cL : ClassId)  : fd_Mi l D fd_cl (fd_ty cI cL) (fd_EV Z) nyS_length (.code nyS_length ncS_length 1 (some .int) :: fd_TB) nmS_length [.ref (Z 6)] [] [] (nI 45) := by
  refine fd_open_i (cc := ncS_length) (maxL := 1) (ret := (some .int)) (by decide) rfl (Nat.le_of_ble_eq_true rfl) ?_
  intro p e s m below meth c A ls X hP hD hS hl
  obtain ⟨hx, hb, hr, hml, hown, hts0, hlocks, hK, hEV, hA⟩ := X
  have hts : ∀ w ∈ fd_TB, w.before _ s = true := fun w h => hts0 w (List.mem_cons_of_mem _ h)
  have hE := fd_EV_ok Z
  have hown : s.vm.findClass "java/lang/String" = some m.cls := hown
  have hl : lv_has ls 1 [(0, .ref (Z 6))] := hl
  refine lv_aload_n hx hb ndS_length_0 rfl (lv_at hl 0 rfl) ?_
  refine vk_getf hx hb hEV.2.2.2.2.2.2.2.1 hS hown (hts _ tb_358) (fun _ h9 => h9) ndS_length_1 ?_
  refine va_tlen hx hb hEV.2.2.2.2.2.2.2.2.1 hS (v := nI 45) rfl ndS_length_4 ?_
  refine lv_aload_n hx hb ndS_length_5 rfl (lv_at hl 0 rfl) ?_
  refine fd_go_i (wr := []) (w2 := []) (va_runV (As := []) (rest := [.int (nI 45)]) ⟨hx, hb, hml, hown, hts⟩ (kS_coder l D Z cI cL s.heap.size) (cwV 0 hts (fd_gV tb_102 tb_103 tb_104 tb_17 tb_105) rfl rfl rfl nhS_coder ⟨(Nat.le_of_ble_eq_true rfl), (Nat.le_of_ble_eq_true rfl)⟩) (fd_PreR hE hK hEV hA hP hD hS [] rfl (by decide) (va_Orecv hEV.2.2.2.2.2.1 hS)) rfl rfl hl.1 rfl (lv_room (Nat.le_of_ble_eq_true rfl)) ndS_length_6 ⟨(Nat.le_of_ble_eq_true rfl), (Nat.le_of_ble_eq_true rfl)⟩) hP hD hS hA [] [] rfl rfl (by decide) (by decide) [] rfl (by decide) (fun H locs hP hD hS => ?_)
  refine lv_ishr hx hb ndS_length_9 ?_
  refine fd_asi (y := nI 45) (by decide) ?_
  exact fd_ret_i hx hb hr hlocks hS hP hD rfl (rfl) ndS_length_10
set_option maxHeartbeats 4000000 in
set_option maxRecDepth 100000 in
theorem kP_checkIndex_n (l : Launch) (D : va_G) (Z : Nat → Nat) (cI cL : ClassId) {k n : Nat} (hk : k < n) (hn : n < 2 ^ 31) : fd_Mi l D fd_cl (fd_ty cI cL) (fd_EV Z) nyP_checkIndex (.code nyP_checkIndex ncP_checkIndex 3 (some .int) :: fd_TB) nmP_checkIndex [.int (nI k), .int (nI n), .null] [] [] (nI k) := by
  refine fd_open_i (cc := ncP_checkIndex) (maxL := 3) (ret := (some .int)) (by decide) rfl (Nat.le_of_ble_eq_true rfl) ?_
  intro p e s m below meth c A ls X hP hD hS hl
  obtain ⟨hx, hb, hr, hml, hown, hts0, hlocks, hK, hEV, hA⟩ := X
  have hts : ∀ w ∈ fd_TB, w.before _ s = true := fun w h => hts0 w (List.mem_cons_of_mem _ h)
  have hE := fd_EV_ok Z
  have hown : s.vm.findClass "jdk/internal/util/Preconditions" = some m.cls := hown
  have hl : lv_has ls 3 [(0, .int (nI k)), (1, .int (nI n)), (2, .null)] := hl
  refine lv_iload_n hx hb ndP_checkIndex_0 rfl (lv_at hl 0 rfl) ?_
  refine lv_if_lt (tgt := 9) hx hb ndP_checkIndex_1 (by decide) (fun c_1 => absurd c_1 (fun h9 => absurd ((nI_ltI (a := k) (b := 0) (by omega) (by omega)).mp h9) (by omega))) (fun _ => ?_)
  refine lv_iload_n hx hb ndP_checkIndex_4 rfl (lv_at hl 0 rfl) ?_
  refine lv_iload_n hx hb ndP_checkIndex_5 rfl (lv_at hl 1 rfl) ?_
  refine lv_icmp_lt (tgt := 16) hx hb ndP_checkIndex_6 (by decide) (fun _ => ?_) (fun c_6 => absurd ((nI_ltI (a := k) (b := n) (by omega) (by omega)).mpr (by omega)) c_6)
  refine lv_iload_n hx hb ndP_checkIndex_16 rfl (lv_at hl 0 rfl) ?_
  exact fd_ret_i hx hb hr hlocks hS hP hD rfl (rfl) ndP_checkIndex_17
set_option maxHeartbeats 4000000 in
set_option maxRecDepth 100000 in
theorem kP_checkIndex_r (l : Launch) (D : va_G) (Z : Nat → Nat) (cI cL : ClassId) {k n t : Nat} (hk : k < n) (hn : n < 2 ^ 31) : fd_Mi l D fd_cl (fd_ty cI cL) (fd_EV Z) nyP_checkIndex (.code nyP_checkIndex ncP_checkIndex 3 (some .int) :: fd_TB) nmP_checkIndex [.int (nI k), .int (nI n), .ref t] [] [] (nI k) := by
  refine fd_open_i (cc := ncP_checkIndex) (maxL := 3) (ret := (some .int)) (by decide) rfl (Nat.le_of_ble_eq_true rfl) ?_
  intro p e s m below meth c A ls X hP hD hS hl
  obtain ⟨hx, hb, hr, hml, hown, hts0, hlocks, hK, hEV, hA⟩ := X
  have hts : ∀ w ∈ fd_TB, w.before _ s = true := fun w h => hts0 w (List.mem_cons_of_mem _ h)
  have hE := fd_EV_ok Z
  have hown : s.vm.findClass "jdk/internal/util/Preconditions" = some m.cls := hown
  have hl : lv_has ls 3 [(0, .int (nI k)), (1, .int (nI n)), (2, .ref t)] := hl
  refine lv_iload_n hx hb ndP_checkIndex_0 rfl (lv_at hl 0 rfl) ?_
  refine lv_if_lt (tgt := 9) hx hb ndP_checkIndex_1 (by decide) (fun c_1 => absurd c_1 (fun h9 => absurd ((nI_ltI (a := k) (b := 0) (by omega) (by omega)).mp h9) (by omega))) (fun _ => ?_)
  refine lv_iload_n hx hb ndP_checkIndex_4 rfl (lv_at hl 0 rfl) ?_
  refine lv_iload_n hx hb ndP_checkIndex_5 rfl (lv_at hl 1 rfl) ?_
  refine lv_icmp_lt (tgt := 16) hx hb ndP_checkIndex_6 (by decide) (fun _ => ?_) (fun c_6 => absurd ((nI_ltI (a := k) (b := n) (by omega) (by omega)).mpr (by omega)) c_6)
  refine lv_iload_n hx hb ndP_checkIndex_16 rfl (lv_at hl 0 rfl) ?_
  exact fd_ret_i hx hb hr hlocks hS hP hD rfl (rfl) ndP_checkIndex_17
set_option maxHeartbeats 4000000 in
set_option maxRecDepth 100000 in
theorem kS_checkIndex (l : Launch) (D : va_G) (Z : Nat → Nat) (cI cL : ClassId) {k n : Nat} (hk : k < n) (hn : n < 2 ^ 31) : fd_Mv l D fd_cl (fd_ty cI cL) (fd_EV Z) nyS_checkIndex (.code nyS_checkIndex ncS_checkIndex 2 none :: fd_TB) nmS_checkIndex [.int (nI k), .int (nI n)] [] [] := by
  refine fd_open_v (cc := ncS_checkIndex) (maxL := 2) (ret := none) (by decide) rfl (Nat.le_of_ble_eq_true rfl) ?_
  intro p e s m below meth c A ls X hP hD hS hl
  obtain ⟨hx, hb, hr, hml, hown, hts0, hlocks, hK, hEV, hA⟩ := X
  have hts : ∀ w ∈ fd_TB, w.before _ s = true := fun w h => hts0 w (List.mem_cons_of_mem _ h)
  have hE := fd_EV_ok Z
  have hown : s.vm.findClass "java/lang/String" = some m.cls := hown
  have hl : lv_has ls 2 [(0, .int (nI k)), (1, .int (nI n))] := hl
  refine lv_iload_n hx hb ndS_checkIndex_0 rfl (lv_at hl 0 rfl) ?_
  refine lv_iload_n hx hb ndS_checkIndex_1 rfl (lv_at hl 1 rfl) ?_
  rcases hEV.2.2.2.2.2.2.2.2.2 with hz | ⟨t, hz⟩
  · refine va_gets hx hb hz hS hown (hts _ tb_121) (fun _ h9 => h9) ndS_checkIndex_2 ?_
    refine fd_go_i (wr := []) (w2 := []) (va_runS (As := [.int (nI k), .int (nI n), .null]) (rest := []) ⟨hx, hb, hml, hown, hts⟩ (kP_checkIndex_n l D Z cI cL (k := k) (n := n) hk hn s.heap.size) (va_cwS 3 hts (fd_gS tb_122 tb_123 tb_19 tb_124) rfl rfl rfl nhP_checkIndex.2 ⟨(Nat.le_of_ble_eq_true rfl), (Nat.le_of_ble_eq_true rfl)⟩) (fd_PreS hE hK hEV hA hP hD hS [] rfl (by decide)) rfl rfl hl.1 rfl (lv_room (Nat.le_of_ble_eq_true rfl)) ndS_checkIndex_5 ⟨(Nat.le_of_ble_eq_true rfl), (Nat.le_of_ble_eq_true rfl)⟩) hP hD hS hA [] [] rfl rfl (by decide) (by decide) [] rfl (by decide) (fun H locs hP hD hS => ?_)
    refine lv_pop hx hb ndS_checkIndex_8 rfl ?_
    exact fd_ret_v hx hb hr hlocks hS hP hD ndS_checkIndex_9
  · refine va_gets hx hb hz hS hown (hts _ tb_121) (fun _ h9 => h9) ndS_checkIndex_2 ?_
    refine fd_go_i (wr := []) (w2 := []) (va_runS (As := [.int (nI k), .int (nI n), .ref t]) (rest := []) ⟨hx, hb, hml, hown, hts⟩ (kP_checkIndex_r l D Z cI cL (k := k) (n := n) hk hn s.heap.size) (va_cwS 3 hts (fd_gS tb_122 tb_123 tb_19 tb_124) rfl rfl rfl nhP_checkIndex.2 ⟨(Nat.le_of_ble_eq_true rfl), (Nat.le_of_ble_eq_true rfl)⟩) (fd_PreS hE hK hEV hA hP hD hS [] rfl (by decide)) rfl rfl hl.1 rfl (lv_room (Nat.le_of_ble_eq_true rfl)) ndS_checkIndex_5 ⟨(Nat.le_of_ble_eq_true rfl), (Nat.le_of_ble_eq_true rfl)⟩) hP hD hS hA [] [] rfl rfl (by decide) (by decide) [] rfl (by decide) (fun H locs hP hD hS => ?_)
    refine lv_pop hx hb ndS_checkIndex_8 rfl ?_
    exact fd_ret_v hx hb hr hlocks hS hP hD ndS_checkIndex_9
set_option maxHeartbeats 4000000 in
set_option maxRecDepth 100000 in
theorem kT_charAt (l : Launch) (D : va_G) (Z : Nat → Nat) (cI cL : ClassId) {k : Nat} (hk : k < 45) : fd_Mi l D fd_cl (fd_ty cI cL) (fd_EV Z) nyT_charAt (.code nyT_charAt ncT_charAt 2 (some .char) :: fd_TB) nmT_charAt [.ref (Z 7), .int (nI k)] [] [] (fd_kl.getD k 0) := by
  refine fd_open_i (cc := ncT_charAt) (maxL := 2) (ret := (some .char)) (by decide) rfl (Nat.le_of_ble_eq_true rfl) ?_
  intro p e s m below meth c A ls X hP hD hS hl
  obtain ⟨hx, hb, hr, hml, hown, hts0, hlocks, hK, hEV, hA⟩ := X
  have hts : ∀ w ∈ fd_TB, w.before _ s = true := fun w h => hts0 w (List.mem_cons_of_mem _ h)
  have hE := fd_EV_ok Z
  have hown : s.vm.findClass "java/lang/StringLatin1" = some m.cls := hown
  have hl : lv_has ls 2 [(0, .ref (Z 7)), (1, .int (nI k))] := hl
  refine lv_iload_n hx hb ndT_charAt_0 rfl (lv_at hl 1 rfl) ?_
  refine lv_aload_n hx hb ndT_charAt_1 rfl (lv_at hl 0 rfl) ?_
  refine va_tlen hx hb hEV.2.2.2.2.2.2.2.2.1 hS (v := nI 45) rfl ndT_charAt_2 ?_
  refine fd_go_v (wr := []) (w2 := []) (va_runS (As := [.int (nI k), .int (nI 45)]) (rest := []) ⟨hx, hb, hml, hown, hts⟩ (kS_checkIndex l D Z cI cL (k := k) (n := 45) hk (by omega) s.heap.size) (va_cwS 2 hts (fd_gS tb_118 tb_119 tb_17 tb_120) rfl rfl rfl nhS_checkIndex.2 ⟨(Nat.le_of_ble_eq_true rfl), (Nat.le_of_ble_eq_true rfl)⟩) (fd_PreS hE hK hEV hA hP hD hS [] rfl (by decide)) rfl rfl hl.1 rfl (lv_room (Nat.le_of_ble_eq_true rfl)) ndT_charAt_3 ⟨(Nat.le_of_ble_eq_true rfl), (Nat.le_of_ble_eq_true rfl)⟩) hP hD hS hA [] [] rfl rfl (by decide) (by decide) [] rfl (by decide) (fun H locs hP hD hS => ?_)
  refine lv_aload_n hx hb ndT_charAt_6 rfl (lv_at hl 0 rfl) ?_
  refine lv_iload_n hx hb ndT_charAt_7 rfl (lv_at hl 1 rfl) ?_
  refine va_tb hx hb hEV.2.2.2.2.2.2.2.2.1 hS (vp_in_nI hk (by omega)) (v := .int (fd_kl.getD k 0)) (by show Value.int _ = _; rw [nI_clamp (by omega)]) ndT_charAt_8 ?_
  refine lv_sipush (v := 255) hx hb ndT_charAt_9 (by decide) ?_
  refine lv_iand hx hb ndT_charAt_12 ?_
  refine lv_i2c hx hb ndT_charAt_13 rfl ?_
  refine fd_asi (y := fd_kl.getD k 0) (fd_kl_ok k hk) ?_
  exact fd_ret_i hx hb hr hlocks hS hP hD (fd_kl_nar k hk) (rfl) ndT_charAt_14
set_option maxHeartbeats 4000000 in
set_option maxRecDepth 100000 in
theorem kS_charAt (l : Launch) (D : va_G) (Z : Nat → Nat) (cI cL : ClassId) {k : Nat} (hk : k < 45) : fd_Mi l D fd_cl (fd_ty cI cL) (fd_EV Z) nyS_charAt (.code nyS_charAt ncS_charAt 2 (some .char) :: fd_TB) nmS_charAt [.ref (Z 6), .int (nI k)] [] [] (fd_kl.getD k 0) := by
  refine fd_open_i (cc := ncS_charAt) (maxL := 2) (ret := (some .char)) (by decide) rfl (Nat.le_of_ble_eq_true rfl) ?_
  intro p e s m below meth c A ls X hP hD hS hl
  obtain ⟨hx, hb, hr, hml, hown, hts0, hlocks, hK, hEV, hA⟩ := X
  have hts : ∀ w ∈ fd_TB, w.before _ s = true := fun w h => hts0 w (List.mem_cons_of_mem _ h)
  have hE := fd_EV_ok Z
  have hown : s.vm.findClass "java/lang/String" = some m.cls := hown
  have hl : lv_has ls 2 [(0, .ref (Z 6)), (1, .int (nI k))] := hl
  refine lv_aload_n hx hb ndS_charAt_0 rfl (lv_at hl 0 rfl) ?_
  refine fd_go_i (wr := []) (w2 := []) (va_runV (As := []) (rest := []) ⟨hx, hb, hml, hown, hts⟩ (kS_isLatin1 l D Z cI cL s.heap.size) (cwV 0 hts (fd_gV tb_111 tb_112 tb_113 tb_17 tb_114) rfl rfl rfl nhS_isLatin1 ⟨(Nat.le_of_ble_eq_true rfl), (Nat.le_of_ble_eq_true rfl)⟩) (fd_PreR hE hK hEV hA hP hD hS [] rfl (by decide) (va_Orecv hEV.2.2.2.2.2.1 hS)) rfl rfl hl.1 rfl (lv_room (Nat.le_of_ble_eq_true rfl)) ndS_charAt_1 ⟨(Nat.le_of_ble_eq_true rfl), (Nat.le_of_ble_eq_true rfl)⟩) hP hD hS hA [] [] rfl rfl (by decide) (by decide) [] rfl (by decide) (fun H locs hP hD hS => ?_)
  refine lv_if_eq (tgt := 16) hx hb ndS_charAt_4 (by decide) (fun c_4 => absurd c_4 (by decide)) (fun _ => ?_)
  refine lv_aload_n hx hb ndS_charAt_7 rfl (lv_at hl 0 rfl) ?_
  refine vk_getf hx hb hEV.2.2.2.2.2.2.2.1 hS hown (hts _ tb_358) (fun _ h9 => h9) ndS_charAt_8 ?_
  refine lv_iload_n hx hb ndS_charAt_11 rfl (lv_at hl 1 rfl) ?_
  refine fd_go_i (wr := []) (w2 := []) (va_runS (As := [.ref (Z 7), .int (nI k)]) (rest := []) ⟨hx, hb, hml, hown, hts⟩ (kT_charAt l D Z cI cL (k := k) (by omega) H.size) (va_cwS 2 hts (fd_gS tb_115 tb_116 tb_18 tb_117) rfl rfl rfl nhT_charAt.2 ⟨(Nat.le_of_ble_eq_true rfl), (Nat.le_of_ble_eq_true rfl)⟩) (fd_PreS hE hK hEV hA hP hD hS [] rfl (by decide)) rfl rfl hl.1 rfl (lv_room (Nat.le_of_ble_eq_true rfl)) ndS_charAt_12 ⟨(Nat.le_of_ble_eq_true rfl), (Nat.le_of_ble_eq_true rfl)⟩) hP hD hS hA [] [] rfl rfl (by decide) (by decide) [] rfl (by decide) (fun H locs hP hD hS => ?_)
  exact fd_ret_i hx hb hr hlocks hS hP hD (fd_kl_nar k hk) (rfl) ndS_charAt_15
set_option maxHeartbeats 4000000 in
set_option maxRecDepth 100000 in
theorem kF_letterOf (l : Launch) (D : va_G) (Z : Nat → Nat) (cI cL : ClassId) {kd i : Nat} (h1 : 1 ≤ kd) (h2 : kd ≤ 15) (hi : i < 3) : fd_Mi l D fd_cl (fd_ty cI cL) (fd_EV Z) nyF_letterOf (.code nyF_letterOf ncF_letterOf 3 (some .int) :: fd_TB) nmF_letterOf [.int (nI kd), .int (nI i)] [] [] (fd_let kd i) := by
  refine fd_open_i (cc := ncF_letterOf) (maxL := 3) (ret := (some .int)) (by decide) rfl (Nat.le_of_ble_eq_true rfl) ?_
  intro p e s m below meth c A ls X hP hD hS hl
  obtain ⟨hx, hb, hr, hml, hown, hts0, hlocks, hK, hEV, hA⟩ := X
  have hts : ∀ w ∈ fd_TB, w.before _ s = true := fun w h => hts0 w (List.mem_cons_of_mem _ h)
  have hE := fd_EV_ok Z
  have hown : s.vm.findClass "FieldDesk" = some m.cls := hown
  have hl : lv_has ls 3 [(0, .int (nI kd)), (1, .int (nI i))] := hl
  refine lv_iload_n hx hb ndF_letterOf_0 rfl (lv_at hl 0 rfl) ?_
  refine lv_iconst (v := 1) hx hb ndF_letterOf_1 (by decide) ?_
  refine lv_isub hx hb ndF_letterOf_2 ?_
  refine fd_asi (y := nI (kd - 1)) (pk_sub h1) ?_
  refine lv_iconst (v := 3) hx hb ndF_letterOf_3 (by decide) ?_
  refine lv_imul hx hb ndF_letterOf_4 ?_
  refine fd_asi (y := nI ((kd - 1) * 3)) (pk_mul (kd - 1) 3) ?_
  refine lv_iload_n hx hb ndF_letterOf_5 rfl (lv_at hl 1 rfl) ?_
  refine lv_iadd hx hb ndF_letterOf_6 ?_
  refine fd_asi (y := nI ((kd - 1) * 3 + i)) (nI_add _ _) ?_
  refine lv_istore_n (lv' := [(2, .int (nI ((kd - 1) * 3 + i))), (0, .int (nI kd)), (1, .int (nI i))]) hx hb ndF_letterOf_7 rfl hl (by decide) rfl (fun ls hl => ?_)
  refine lv_iload_n hx hb ndF_letterOf_8 rfl (lv_at hl 0 rfl) ?_
  refine lv_if_lt (tgt := 30) hx hb ndF_letterOf_9 (by decide) (fun c_9 => absurd c_9 (fun h9 => absurd ((nI_ltI (a := ((kd - 1) * 3 + i)) (b := 0) (by omega) (by omega)).mp h9) (by omega))) (fun _ => ?_)
  refine lv_iload_n hx hb ndF_letterOf_12 rfl (lv_at hl 0 rfl) ?_
  refine va_ldcS hx hb hown hEV.2.1 ndF_letterOf_13 ?_
  refine fd_go_i (wr := []) (w2 := []) (va_runV (As := []) (rest := [.int (nI ((kd - 1) * 3 + i))]) ⟨hx, hb, hml, hown, hts⟩ (kS_length l D Z cI cL s.heap.size) (cwV 0 hts (fd_gV tb_98 tb_99 tb_100 tb_17 tb_101) rfl rfl rfl nhS_length ⟨(Nat.le_of_ble_eq_true rfl), (Nat.le_of_ble_eq_true rfl)⟩) (fd_PreR hE hK hEV hA hP hD hS [] rfl (by decide) (va_Orecv hEV.2.2.2.2.2.1 hS)) rfl rfl hl.1 rfl (lv_room (Nat.le_of_ble_eq_true rfl)) ndF_letterOf_15 ⟨(Nat.le_of_ble_eq_true rfl), (Nat.le_of_ble_eq_true rfl)⟩) hP hD hS hA [] [] rfl rfl (by decide) (by decide) [] rfl (by decide) (fun H locs hP hD hS => ?_)
  refine lv_icmp_ge (tgt := 30) hx hb ndF_letterOf_18 (by decide) (fun c_18 => absurd c_18 (fun h9 => absurd ((nI_leI (a := 45) (b := ((kd - 1) * 3 + i)) (by omega) (by omega)).mp h9) (by omega))) (fun _ => ?_)
  refine va_ldcS hx hb hown hEV.2.1 ndF_letterOf_21 ?_
  refine lv_iload_n hx hb ndF_letterOf_23 rfl (lv_at hl 0 rfl) ?_
  refine fd_go_i (wr := []) (w2 := []) (va_runV (As := [.int (nI ((kd - 1) * 3 + i))]) (rest := []) ⟨hx, hb, hml, hown, hts⟩ (kS_charAt l D Z cI cL (k := ((kd - 1) * 3 + i)) (by omega) H.size) (cwV 1 hts (fd_gV tb_107 tb_108 tb_109 tb_17 tb_110) rfl rfl rfl nhS_charAt ⟨(Nat.le_of_ble_eq_true rfl), (Nat.le_of_ble_eq_true rfl)⟩) (fd_PreR hE hK hEV hA hP hD hS [] rfl (by decide) (va_Orecv hEV.2.2.2.2.2.1 hS)) rfl rfl hl.1 rfl (lv_room (Nat.le_of_ble_eq_true rfl)) ndF_letterOf_24 ⟨(Nat.le_of_ble_eq_true rfl), (Nat.le_of_ble_eq_true rfl)⟩) hP hD hS hA [] [] rfl rfl (by decide) (by decide) [] rfl (by decide) (fun H locs hP hD hS => ?_)
  refine lv_goto (tgt := 31) hx hb ndF_letterOf_27 (by decide) ?_
  exact fd_ret_i hx hb hr hlocks hS hP hD rfl (rfl) ndF_letterOf_31
end
section
/-! a message: its kind, how many fields, their sorts and numbers -/
def fd_sa (n : Nat) (fs : Nat → Int32) (i : Int32) : Int32 := if i < 0 then 0 else if nI n ≤ i then 0 else fs i.toNatClampNeg
def fd_na (n : Nat) (fn : Nat → Int64) (i : Int32) : Int64 := if i < 0 then -1 else if nI n ≤ i then -1 else fn i.toNatClampNeg
theorem fd_na_lt {n k : Nat} {fn : Nat → Int64} (h : k < n) (hn : n < 2 ^ 31) : fd_na n fn (nI k) = fn k := by
  rw [fd_na, if_neg (nI_pos (by omega)), if_neg (nI_ge h hn), nI_clamp (by omega)]
theorem fd_na_ge {n k : Nat} {fn : Nat → Int64} (h : n ≤ k) (hk : k < 2 ^ 31) : fd_na n fn (nI k) = -1 := by
  rw [fd_na, if_neg (nI_pos hk), if_pos (nI_le h hk)]
def fd_leg (j : Nat) (x : Int64) : Int32 := if x * 4 ≤ (nI j).toInt64 then 0 else fd_ent 4 (nI (j % 4))
def fd_due (kd n : Nat) (fn : Nat → Int64) : Int32 := if kd < 1 then 0 else if kd = 6 then (if n < 4 then fd_ent 3 (nI ((kd - 1) * 6 + n)) else fd_leg (n - 4) (fn 3)) else (if 6 ≤ n then 0 else fd_ent 3 (nI ((kd - 1) * 6 + n)))
def fd_mz (kd n : Nat) (fn : Nat → Int64) : Int32 := if kd = 2 then (if fd_na n fn 3 = 0 then 1 else 0) else 0
def fd_sub (d : Int32) (x : Int64) : Int32 := if x < (fd_ent 1 d).toInt64 then 0 else if fd_mn.getD d.toNatClampNeg 0 < x then 0 else 1
def fd_suit (kd n : Nat) (fn : Nat → Int64) (x : Int64) : Int32 := if fd_due kd n fn < 1 then 0 else if nI 9 ≤ fd_due kd n fn then 0 else if fd_mz kd n fn = 0 then fd_sub (fd_due kd n fn) x else if x = 0 then fd_sub (fd_due kd n fn) x else 0
theorem fd_in9 {d : Int32} (h1 : ¬ d < 1) (h2 : ¬ nI 9 ≤ d) : vp_in d 9 := by
  have a : ¬ d < 0 := fun h => h1 (Int32.lt_trans h (by decide))
  obtain ⟨k, hk, rfl⟩ := fd_ix a h2 (by decide)
  exact vp_in_nI hk (by decide)
set_option maxHeartbeats 4000000 in
set_option maxRecDepth 100000 in
theorem kM_start (l : Launch) (D : va_G) (Z : Nat → Nat) (cI cL : ClassId) {h a b kd n : Nat} {fs : Nat → Int32} {fn : Nat → Int64} {k : Nat} : fd_Mv l D fd_cl (fd_ty cI cL) (fd_EV Z) nyM_start (.code nyM_start ncM_start 2 none :: fd_TB) nmM_start [.ref h, .int (nI k)] [(h, .inr (1, [.ref a, .ref b, .int (nI kd), .int (nI n)])), (a, .inl (cI, 20, .inl fs)), (b, .inl (cL, 20, .inr (.inl fn)))] [(h, .inr (1, [.ref a, .ref b, .int (nI k), .int (nI 0)])), (a, .inl (cI, 20, .inl fs)), (b, .inl (cL, 20, .inr (.inl fn)))] := by
  refine fd_open_v (cc := ncM_start) (maxL := 2) (ret := none) (by decide) rfl (Nat.le_of_ble_eq_true rfl) ?_
  intro p e s m below meth c A ls X hP hD hS hl
  obtain ⟨hx, hb, hr, hml, hown, hts0, hlocks, hK, hEV, hA⟩ := X
  have hts : ∀ w ∈ fd_TB, w.before _ s = true := fun w h => hts0 w (List.mem_cons_of_mem _ h)
  have hE := fd_EV_ok Z
  have hown : s.vm.findClass "FieldDesk$Message" = some m.cls := hown
  have hl : lv_has ls 2 [(0, .ref h), (1, .int (nI k))] := hl
  refine lv_aload_n hx hb ndM_start_0 rfl (lv_at hl 0 rfl) ?_
  refine lv_iload_n hx hb ndM_start_1 rfl (lv_at hl 1 rfl) ?_
  refine va_put (D := D) (ci := 1) (v := .int (nI k)) (ty := (.int)) (C := nR_M) (T := nT_M) (N := 4) hx hb hts in_M nt_M nt_M_ok nn_M hown hK hP hD hS 0 rfl rfl 2 (by decide) (hts _ tb_46) (fun _ h9 => h9) rfl (by decide +kernel) rfl rfl (Nat.le_of_ble_eq_true rfl) ndM_start_2 (fun H locs hP hD hS => ?_)
  have hP : va_P D fd_cl [(h, .inr (1, [.ref a, .ref b, .int (nI k), .int (nI n)])), (a, .inl (cI, 20, .inl fs)), (b, .inl (cL, 20, .inr (.inl fn)))] H := hP
  have hD : va_D A [(h, .inr (1, [.ref a, .ref b, .int (nI k), .int (nI n)])), (a, .inl (cI, 20, .inl fs)), (b, .inl (cL, 20, .inr (.inl fn)))] := hD
  refine lv_aload_n hx hb ndM_start_5 rfl (lv_at hl 0 rfl) ?_
  refine lv_iconst (v := 0) hx hb ndM_start_6 (by decide) ?_
  refine fd_asi (y := nI 0) nI_0.symm ?_
  refine va_put (D := D) (ci := 1) (v := .int (nI 0)) (ty := (.int)) (C := nR_M) (T := nT_M) (N := 4) hx hb hts in_M nt_M nt_M_ok nn_M hown hK hP hD hS 0 rfl rfl 3 (by decide) (hts _ tb_47) (fun _ h9 => h9) rfl (by decide +kernel) rfl rfl (Nat.le_of_ble_eq_true rfl) ndM_start_7 (fun H locs hP hD hS => ?_)
  have hP : va_P D fd_cl [(h, .inr (1, [.ref a, .ref b, .int (nI k), .int (nI 0)])), (a, .inl (cI, 20, .inl fs)), (b, .inl (cL, 20, .inr (.inl fn)))] H := hP
  have hD : va_D A [(h, .inr (1, [.ref a, .ref b, .int (nI k), .int (nI 0)])), (a, .inl (cI, 20, .inl fs)), (b, .inl (cL, 20, .inr (.inl fn)))] := hD
  exact fd_ret_v hx hb hr hlocks hS hP hD ndM_start_10
set_option maxHeartbeats 4000000 in
set_option maxRecDepth 100000 in
theorem kM_sortAt (l : Launch) (D : va_G) (Z : Nat → Nat) (cI cL : ClassId) {h a b kd n : Nat} {fs : Nat → Int32} {fn : Nat → Int64} (hn : n ≤ 20) (i : Int32) : fd_Mi l D fd_cl (fd_ty cI cL) (fd_EV Z) nyM_sortAt (.code nyM_sortAt ncM_sortAt 2 (some .int) :: fd_TB) nmM_sortAt [.ref h, .int i] [(h, .inr (1, [.ref a, .ref b, .int (nI kd), .int (nI n)])), (a, .inl (cI, 20, .inl fs)), (b, .inl (cL, 20, .inr (.inl fn)))] [(h, .inr (1, [.ref a, .ref b, .int (nI kd), .int (nI n)])), (a, .inl (cI, 20, .inl fs)), (b, .inl (cL, 20, .inr (.inl fn)))] (fd_sa n fs i) := by
  refine fd_open_i (cc := ncM_sortAt) (maxL := 2) (ret := (some .int)) (by decide) rfl (Nat.le_of_ble_eq_true rfl) ?_
  intro p e s m below meth c A ls X hP hD hS hl
  obtain ⟨hx, hb, hr, hml, hown, hts0, hlocks, hK, hEV, hA⟩ := X
  have hts : ∀ w ∈ fd_TB, w.before _ s = true := fun w h => hts0 w (List.mem_cons_of_mem _ h)
  have hE := fd_EV_ok Z
  have hown : s.vm.findClass "FieldDesk$Message" = some m.cls := hown
  have hl : lv_has ls 2 [(0, .ref h), (1, .int i)] := hl
  refine lv_iload_n hx hb ndM_sortAt_0 rfl (lv_at hl 1 rfl) ?_
  refine lv_if_lt (tgt := 30) hx hb ndM_sortAt_1 (by decide) (fun c_1 => ?_) (fun c_1 => ?_)
  · refine lv_iconst (v := 0) hx hb ndM_sortAt_30 (by decide) ?_
    exact fd_ret_i hx hb hr hlocks hS hP hD rfl (by rw [fd_sa, if_pos c_1]) ndM_sortAt_31
  · refine lv_iload_n hx hb ndM_sortAt_4 rfl (lv_at hl 1 rfl) ?_
    refine lv_aload_n hx hb ndM_sortAt_5 rfl (lv_at hl 0 rfl) ?_
    refine va_get (D := D) (ci := 1) (v := .int (nI n)) (C := nR_M) (T := nT_M) (N := 4) hx hb hts in_M hown hK hP 0 rfl rfl 3 (by decide) (hts _ tb_47) (fun _ h9 => h9) rfl ndM_sortAt_6 ?_
    refine lv_icmp_ge (tgt := 30) hx hb ndM_sortAt_9 (by decide) (fun c_9 => ?_) (fun c_9 => ?_)
    · refine lv_iconst (v := 0) hx hb ndM_sortAt_30 (by decide) ?_
      exact fd_ret_i hx hb hr hlocks hS hP hD rfl (by rw [fd_sa, if_neg c_1, if_pos c_9]) ndM_sortAt_31
    · obtain ⟨k, hk, rfl⟩ := fd_ix c_1 c_9 (by omega)
      refine lv_iload_n hx hb ndM_sortAt_12 rfl (lv_at hl 1 rfl) ?_
      refine lv_aload_n hx hb ndM_sortAt_13 rfl (lv_at hl 0 rfl) ?_
      refine va_get (D := D) (ci := 1) (v := .ref a) (C := nR_M) (T := nT_M) (N := 4) hx hb hts in_M hown hK hP 0 rfl rfl 0 (by decide) (hts _ tb_44) (fun _ h9 => h9) rfl ndM_sortAt_14 ?_
      refine va_alen hx hb hK hP 1 0 rfl rfl (v := nI 20) rfl ndM_sortAt_17 ?_
      refine lv_icmp_ge (tgt := 30) hx hb ndM_sortAt_18 (by decide) (fun c_18 => absurd c_18 (fun h9 => absurd ((nI_leI (a := 20) (b := k) (by omega) (by omega)).mp h9) (by omega))) (fun _ => ?_)
      refine lv_aload_n hx hb ndM_sortAt_21 rfl (lv_at hl 0 rfl) ?_
      refine va_get (D := D) (ci := 1) (v := .ref a) (C := nR_M) (T := nT_M) (N := 4) hx hb hts in_M hown hK hP 0 rfl rfl 0 (by decide) (hts _ tb_44) (fun _ h9 => h9) rfl ndM_sortAt_22 ?_
      refine lv_iload_n hx hb ndM_sortAt_25 rfl (lv_at hl 1 rfl) ?_
      refine fd_iald hx hb hK hP 1 0 (k := k) rfl rfl (by omega) (by omega) ndM_sortAt_26 ?_
      refine lv_goto (tgt := 31) hx hb ndM_sortAt_27 (by decide) ?_
      exact fd_ret_i hx hb hr hlocks hS hP hD rfl (by rw [fd_sa, if_neg c_1, if_neg c_9, nI_clamp (by omega)]) ndM_sortAt_31
set_option maxHeartbeats 4000000 in
set_option maxRecDepth 100000 in
theorem kM_numberAt (l : Launch) (D : va_G) (Z : Nat → Nat) (cI cL : ClassId) {h a b kd n : Nat} {fs : Nat → Int32} {fn : Nat → Int64} (hn : n ≤ 20) (i : Int32) : fd_Ml l D fd_cl (fd_ty cI cL) (fd_EV Z) nyM_numberAt (.code nyM_numberAt ncM_numberAt 2 (some .long) :: fd_TB) nmM_numberAt [.ref h, .int i] [(h, .inr (1, [.ref a, .ref b, .int (nI kd), .int (nI n)])), (a, .inl (cI, 20, .inl fs)), (b, .inl (cL, 20, .inr (.inl fn)))] [(h, .inr (1, [.ref a, .ref b, .int (nI kd), .int (nI n)])), (a, .inl (cI, 20, .inl fs)), (b, .inl (cL, 20, .inr (.inl fn)))] (fd_na n fn i) := by
  refine fd_open_l (cc := ncM_numberAt) (maxL := 2) (ret := (some .long)) (by decide) rfl (Nat.le_of_ble_eq_true rfl) ?_
  intro p e s m below meth c A ls X hP hD hS hl
  obtain ⟨hx, hb, hr, hml, hown, hts0, hlocks, hK, hEV, hA⟩ := X
  have hts : ∀ w ∈ fd_TB, w.before _ s = true := fun w h => hts0 w (List.mem_cons_of_mem _ h)
  have hE := fd_EV_ok Z
  have hown : s.vm.findClass "FieldDesk$Message" = some m.cls := hown
  have hl : lv_has ls 2 [(0, .ref h), (1, .int i)] := hl
  refine lv_iload_n hx hb ndM_numberAt_0 rfl (lv_at hl 1 rfl) ?_
  refine lv_if_lt (tgt := 30) hx hb ndM_numberAt_1 (by decide) (fun c_1 => ?_) (fun c_1 => ?_)
  · refine lv_ldc2 hx hb hown (hts _ tb_140) ndM_numberAt_30 ?_
    exact fd_ret_l hx hb hr hlocks hS hP hD (by rw [fd_na, if_pos c_1]) ndM_numberAt_33
  · refine lv_iload_n hx hb ndM_numberAt_4 rfl (lv_at hl 1 rfl) ?_
    refine lv_aload_n hx hb ndM_numberAt_5 rfl (lv_at hl 0 rfl) ?_
    refine va_get (D := D) (ci := 1) (v := .int (nI n)) (C := nR_M) (T := nT_M) (N := 4) hx hb hts in_M hown hK hP 0 rfl rfl 3 (by decide) (hts _ tb_47) (fun _ h9 => h9) rfl ndM_numberAt_6 ?_
    refine lv_icmp_ge (tgt := 30) hx hb ndM_numberAt_9 (by decide) (fun c_9 => ?_) (fun c_9 => ?_)
    · refine lv_ldc2 hx hb hown (hts _ tb_140) ndM_numberAt_30 ?_
      exact fd_ret_l hx hb hr hlocks hS hP hD (by rw [fd_na, if_neg c_1, if_pos c_9]) ndM_numberAt_33
    · obtain ⟨k, hk, rfl⟩ := fd_ix c_1 c_9 (by omega)
      refine lv_iload_n hx hb ndM_numberAt_12 rfl (lv_at hl 1 rfl) ?_
      refine lv_aload_n hx hb ndM_numberAt_13 rfl (lv_at hl 0 rfl) ?_
      refine va_get (D := D) (ci := 1) (v := .ref b) (C := nR_M) (T := nT_M) (N := 4) hx hb hts in_M hown hK hP 0 rfl rfl 1 (by decide) (hts _ tb_45) (fun _ h9 => h9) rfl ndM_numberAt_14 ?_
      refine va_alen hx hb hK hP 2 1 rfl rfl (v := nI 20) rfl ndM_numberAt_17 ?_
      refine lv_icmp_ge (tgt := 30) hx hb ndM_numberAt_18 (by decide) (fun c_18 => absurd c_18 (fun h9 => absurd ((nI_leI (a := 20) (b := k) (by omega) (by omega)).mp h9) (by omega))) (fun _ => ?_)
      refine lv_aload_n hx hb ndM_numberAt_21 rfl (lv_at hl 0 rfl) ?_
      refine va_get (D := D) (ci := 1) (v := .ref b) (C := nR_M) (T := nT_M) (N := 4) hx hb hts in_M hown hK hP 0 rfl rfl 1 (by decide) (hts _ tb_45) (fun _ h9 => h9) rfl ndM_numberAt_22 ?_
      refine lv_iload_n hx hb ndM_numberAt_25 rfl (lv_at hl 1 rfl) ?_
      refine fd_lald hx hb hK hP 2 1 (k := k) rfl rfl (by omega) (by omega) ndM_numberAt_26 ?_
      refine lv_goto (tgt := 33) hx hb ndM_numberAt_27 (by decide) ?_
      exact fd_ret_l hx hb hr hlocks hS hP hD (by rw [fd_na, if_neg c_1, if_neg c_9, nI_clamp (by omega)]) ndM_numberAt_33
set_option maxHeartbeats 4000000 in
set_option maxRecDepth 100000 in
theorem kM_dueLegSort (l : Launch) (D : va_G) (Z : Nat → Nat) (cI cL : ClassId) {h a b kd n : Nat} {fs : Nat → Int32} {fn : Nat → Int64} {j : Nat} (hn : n ≤ 20) (h4 : 4 ≤ n) (hj : j < 100) : fd_Mi l D fd_cl (fd_ty cI cL) (fd_EV Z) nyM_dueLegSort (.code nyM_dueLegSort ncM_dueLegSort 4 (some .int) :: fd_TB) nmM_dueLegSort [.ref h, .int (nI j)] [(h, .inr (1, [.ref a, .ref b, .int (nI kd), .int (nI n)])), (a, .inl (cI, 20, .inl fs)), (b, .inl (cL, 20, .inr (.inl fn)))] [(h, .inr (1, [.ref a, .ref b, .int (nI kd), .int (nI n)])), (a, .inl (cI, 20, .inl fs)), (b, .inl (cL, 20, .inr (.inl fn)))] (fd_leg j (fn 3)) := by
  refine fd_open_i (cc := ncM_dueLegSort) (maxL := 4) (ret := (some .int)) (by decide) rfl (Nat.le_of_ble_eq_true rfl) ?_
  intro p e s m below meth c A ls X hP hD hS hl
  obtain ⟨hx, hb, hr, hml, hown, hts0, hlocks, hK, hEV, hA⟩ := X
  have hts : ∀ w ∈ fd_TB, w.before _ s = true := fun w h => hts0 w (List.mem_cons_of_mem _ h)
  have hE := fd_EV_ok Z
  have hown : s.vm.findClass "FieldDesk$Message" = some m.cls := hown
  have hl : lv_has ls 4 [(0, .ref h), (1, .int (nI j))] := hl
  refine lv_aload_n hx hb ndM_dueLegSort_0 rfl (lv_at hl 0 rfl) ?_
  refine lv_iconst (v := 3) hx hb ndM_dueLegSort_1 (by decide) ?_
  refine fd_go_l (wr := []) (w2 := [(h, .inr (1, [.ref a, .ref b, .int (nI kd), .int (nI n)])), (a, .inl (cI, 20, .inl fs)), (b, .inl (cL, 20, .inr (.inl fn)))]) (va_runV (As := [.int 3]) (rest := []) ⟨hx, hb, hml, hown, hts⟩ (kM_numberAt l D Z cI cL (kd := kd) (n := n) (fs := fs) (fn := fn) (by omega) 3 s.heap.size) (cwV 1 hts (fd_gV tb_136 tb_137 tb_138 tb_15 tb_139) rfl rfl rfl nhM_numberAt ⟨(Nat.le_of_ble_eq_true rfl), (Nat.le_of_ble_eq_true rfl)⟩) (fd_PreV hE hK hEV hA hP hD hS [0, 1, 2] rfl (by decide) (ci := 1) (q0 := 0) rfl rfl) rfl rfl hl.1 rfl (lv_room (Nat.le_of_ble_eq_true rfl)) ndM_dueLegSort_2 ⟨(Nat.le_of_ble_eq_true rfl), (Nat.le_of_ble_eq_true rfl)⟩) hP hD hS hA [0, 1, 2] [] rfl rfl (by decide) (by decide) [0, 1, 2] rfl (by decide) (fun H locs hP hD hS => ?_)
  refine fd_asl (y := fn 3) (fd_na_lt (k := 3) (by omega) (by omega)) ?_
  refine lv_lstore_n (lv' := [(2, .long (fn 3)), (0, .ref h), (1, .int (nI j))]) hx hb ndM_dueLegSort_5 rfl hl (by decide) rfl (fun ls hl => ?_)
  refine lv_iload_n hx hb ndM_dueLegSort_6 rfl (lv_at hl 2 rfl) ?_
  refine lv_i2l hx hb ndM_dueLegSort_7 rfl ?_
  refine lv_lload_n hx hb ndM_dueLegSort_8 rfl (lv_at hl 0 rfl) ?_
  refine lv_ldc2 hx hb hown (hts _ tb_141) ndM_dueLegSort_9 ?_
  refine lv_lmul hx hb ndM_dueLegSort_12 ?_
  refine W.lcmp hx hb ndM_dueLegSort_13 ?_
  refine lv_if_ge (tgt := 29) hx hb ndM_dueLegSort_14 (by decide) (fun c_14 => ?_) (fun c_14 => ?_)
  · have n_14 := (lg_cmp_ge _ _).mp c_14
    refine lv_iconst (v := 0) hx hb ndM_dueLegSort_29 (by decide) ?_
    exact fd_ret_i hx hb hr hlocks hS hP hD rfl (by rw [fd_leg, if_pos n_14]) ndM_dueLegSort_30
  · have n_14 := mt (lg_cmp_ge _ _).mpr c_14
    refine va_getsN hx hb (hEV.2.2.2.1 4 (by decide)).1 hS hown (fd_nw hEV nb_4) (fun _ h9 => h9) ndM_dueLegSort_17 ?_
    refine lv_iload_n hx hb ndM_dueLegSort_20 rfl (lv_at hl 2 rfl) ?_
    refine lv_iconst (v := 4) hx hb ndM_dueLegSort_21 (by decide) ?_
    refine lv_irem hx hb ndM_dueLegSort_22 (by decide) ?_
    refine fd_asi (y := nI (j % 4)) (pk_rem (a := j) (d := 4) (by omega) (by omega) (by omega)) ?_
    refine fd_go_i (wr := [(h, .inr (1, [.ref a, .ref b, .int (nI kd), .int (nI n)])), (a, .inl (cI, 20, .inl fs)), (b, .inl (cL, 20, .inr (.inl fn)))]) (w2 := [(h, .inr (1, [.ref a, .ref b, .int (nI kd), .int (nI n)])), (a, .inl (cI, 20, .inl fs)), (b, .inl (cL, 20, .inr (.inl fn)))]) (va_runSN (As := [.ref (Z 4), .int (nI (j % 4))]) (rest := []) ⟨hx, hb, hml, hown, hts⟩ (kF_entry l D Z cI cL (k := 4) (by decide) (nI (j % 4)) H.size) ⟨va_cnB 2 hts (fd_gi tb_143) rfl rfl rfl (hEV.1 _ nb_5) (hts _ tb_13) nhF_entry.2 ⟨(Nat.le_of_ble_eq_true rfl), (Nat.le_of_ble_eq_true rfl)⟩, hts _ tb_142, trivial⟩ (fd_PreS hE hK hEV hA hP hD hS [] rfl (by decide)) rfl rfl hl.1 rfl (lv_room (Nat.le_of_ble_eq_true rfl)) ndM_dueLegSort_23 ⟨(Nat.le_of_ble_eq_true rfl), (Nat.le_of_ble_eq_true rfl)⟩) hP hD hS hA [] [0, 1, 2] rfl rfl (by decide) (by decide) [0, 1, 2] rfl (by decide) (fun H locs hP hD hS => ?_)
    refine lv_goto (tgt := 30) hx hb ndM_dueLegSort_26 (by decide) ?_
    exact fd_ret_i hx hb hr hlocks hS hP hD rfl (by rw [fd_leg, if_neg n_14]) ndM_dueLegSort_30
set_option maxHeartbeats 4000000 in
set_option maxRecDepth 100000 in
theorem kM_dueSort (l : Launch) (D : va_G) (Z : Nat → Nat) (cI cL : ClassId) {h a b kd n : Nat} {fs : Nat → Int32} {fn : Nat → Int64} (hk : kd ≤ 15) (hn : n ≤ 20) : fd_Mi l D fd_cl (fd_ty cI cL) (fd_EV Z) nyM_dueSort (.code nyM_dueSort ncM_dueSort 1 (some .int) :: fd_TB) nmM_dueSort [.ref h] [(h, .inr (1, [.ref a, .ref b, .int (nI kd), .int (nI n)])), (a, .inl (cI, 20, .inl fs)), (b, .inl (cL, 20, .inr (.inl fn)))] [(h, .inr (1, [.ref a, .ref b, .int (nI kd), .int (nI n)])), (a, .inl (cI, 20, .inl fs)), (b, .inl (cL, 20, .inr (.inl fn)))] (fd_due kd n fn) := by
  refine fd_open_i (cc := ncM_dueSort) (maxL := 1) (ret := (some .int)) (by decide) rfl (Nat.le_of_ble_eq_true rfl) ?_
  intro p e s m below meth c A ls X hP hD hS hl
  obtain ⟨hx, hb, hr, hml, hown, hts0, hlocks, hK, hEV, hA⟩ := X
  have hts : ∀ w ∈ fd_TB, w.before _ s = true := fun w h => hts0 w (List.mem_cons_of_mem _ h)
  have hE := fd_EV_ok Z
  have hown : s.vm.findClass "FieldDesk$Message" = some m.cls := hown
  have hl : lv_has ls 1 [(0, .ref h)] := hl
  refine lv_aload_n hx hb ndM_dueSort_0 rfl (lv_at hl 0 rfl) ?_
  refine va_get (D := D) (ci := 1) (v := .int (nI kd)) (C := nR_M) (T := nT_M) (N := 4) hx hb hts in_M hown hK hP 0 rfl rfl 2 (by decide) (hts _ tb_46) (fun _ h9 => h9) rfl ndM_dueSort_1 ?_
  refine lv_iconst (v := 1) hx hb ndM_dueSort_4 (by decide) ?_
  refine lv_icmp_lt (tgt := 24) hx hb ndM_dueSort_5 (by decide) (fun c_5 => ?_) (fun c_5 => ?_)
  · have n_5 := (nI_ltI (a := kd) (b := 1) (by omega) (by omega)).mp c_5
    refine lv_iconst (v := 0) hx hb ndM_dueSort_24 (by decide) ?_
    exact fd_ret_i hx hb hr hlocks hS hP hD rfl (by rw [fd_due, if_pos n_5]) ndM_dueSort_25
  · have n_5 := mt (nI_ltI (a := kd) (b := 1) (by omega) (by omega)).mpr c_5
    refine lv_aload_n hx hb ndM_dueSort_8 rfl (lv_at hl 0 rfl) ?_
    refine va_get (D := D) (ci := 1) (v := .int (nI kd)) (C := nR_M) (T := nT_M) (N := 4) hx hb hts in_M hown hK hP 0 rfl rfl 2 (by decide) (hts _ tb_46) (fun _ h9 => h9) rfl ndM_dueSort_9 ?_
    refine lv_bipush (v := 15) hx hb ndM_dueSort_12 (by decide) ?_
    refine lv_icmp_gt (tgt := 24) hx hb ndM_dueSort_14 (by decide) (fun c_14 => absurd c_14 (fun h9 => absurd ((nI_ltI (a := 15) (b := kd) (by omega) (by omega)).mp h9) (by omega))) (fun _ => ?_)
    refine lv_aload_n hx hb ndM_dueSort_17 rfl (lv_at hl 0 rfl) ?_
    refine va_get (D := D) (ci := 1) (v := .int (nI n)) (C := nR_M) (T := nT_M) (N := 4) hx hb hts in_M hown hK hP 0 rfl rfl 3 (by decide) (hts _ tb_47) (fun _ h9 => h9) rfl ndM_dueSort_18 ?_
    refine lv_if_ge (tgt := 26) hx hb ndM_dueSort_21 (by decide) (fun _ => ?_) (fun c_21 => absurd ((nI_leI (a := 0) (b := n) (by omega) (by omega)).mpr (by omega)) c_21)
    refine lv_aload_n hx hb ndM_dueSort_26 rfl (lv_at hl 0 rfl) ?_
    refine va_get (D := D) (ci := 1) (v := .int (nI kd)) (C := nR_M) (T := nT_M) (N := 4) hx hb hts in_M hown hK hP 0 rfl rfl 2 (by decide) (hts _ tb_46) (fun _ h9 => h9) rfl ndM_dueSort_27 ?_
    refine lv_bipush (v := 6) hx hb ndM_dueSort_30 (by decide) ?_
    refine lv_icmp_ne (tgt := 54) hx hb ndM_dueSort_32 (by decide) (fun c_32 => ?_) (fun c_32 => ?_)
    · have n_32 := mt (nI_eq (a := kd) (b := 6) (by omega) (by omega)).mpr c_32
      refine lv_aload_n hx hb ndM_dueSort_54 rfl (lv_at hl 0 rfl) ?_
      refine va_get (D := D) (ci := 1) (v := .int (nI n)) (C := nR_M) (T := nT_M) (N := 4) hx hb hts in_M hown hK hP 0 rfl rfl 3 (by decide) (hts _ tb_47) (fun _ h9 => h9) rfl ndM_dueSort_55 ?_
      refine lv_bipush (v := 6) hx hb ndM_dueSort_58 (by decide) ?_
      refine lv_icmp_ge (tgt := 86) hx hb ndM_dueSort_60 (by decide) (fun c_60 => ?_) (fun c_60 => ?_)
      · have n_60 := (nI_leI (a := 6) (b := n) (by omega) (by omega)).mp c_60
        refine lv_iconst (v := 0) hx hb ndM_dueSort_86 (by decide) ?_
        exact fd_ret_i hx hb hr hlocks hS hP hD rfl (by rw [fd_due, if_neg n_5, if_neg n_32, if_pos n_60]) ndM_dueSort_87
      · have n_60 := mt (nI_leI (a := 6) (b := n) (by omega) (by omega)).mpr c_60
        refine va_getsN hx hb (hEV.2.2.2.1 3 (by decide)).1 hS hown (fd_nw hEV nb_6) (fun _ h9 => h9) ndM_dueSort_63 ?_
        refine lv_aload_n hx hb ndM_dueSort_66 rfl (lv_at hl 0 rfl) ?_
        refine va_get (D := D) (ci := 1) (v := .int (nI kd)) (C := nR_M) (T := nT_M) (N := 4) hx hb hts in_M hown hK hP 0 rfl rfl 2 (by decide) (hts _ tb_46) (fun _ h9 => h9) rfl ndM_dueSort_67 ?_
        refine lv_iconst (v := 1) hx hb ndM_dueSort_70 (by decide) ?_
        refine lv_isub hx hb ndM_dueSort_71 ?_
        refine fd_asi (y := nI (kd - 1)) (pk_sub (a := kd) (b := 1) (by omega)) ?_
        refine lv_bipush (v := 6) hx hb ndM_dueSort_72 (by decide) ?_
        refine lv_imul hx hb ndM_dueSort_74 ?_
        refine fd_asi (y := nI ((kd - 1) * 6)) (pk_mul (kd - 1) 6) ?_
        refine lv_aload_n hx hb ndM_dueSort_75 rfl (lv_at hl 0 rfl) ?_
        refine va_get (D := D) (ci := 1) (v := .int (nI n)) (C := nR_M) (T := nT_M) (N := 4) hx hb hts in_M hown hK hP 0 rfl rfl 3 (by decide) (hts _ tb_47) (fun _ h9 => h9) rfl ndM_dueSort_76 ?_
        refine lv_iadd hx hb ndM_dueSort_79 ?_
        refine fd_asi (y := nI ((kd - 1) * 6 + n)) (nI_add _ _) ?_
        refine fd_go_i (wr := [(h, .inr (1, [.ref a, .ref b, .int (nI kd), .int (nI n)])), (a, .inl (cI, 20, .inl fs)), (b, .inl (cL, 20, .inr (.inl fn)))]) (w2 := [(h, .inr (1, [.ref a, .ref b, .int (nI kd), .int (nI n)])), (a, .inl (cI, 20, .inl fs)), (b, .inl (cL, 20, .inr (.inl fn)))]) (va_runSN (As := [.ref (Z 3), .int (nI ((kd - 1) * 6 + n))]) (rest := []) ⟨hx, hb, hml, hown, hts⟩ (kF_entry l D Z cI cL (k := 3) (by decide) (nI ((kd - 1) * 6 + n)) s.heap.size) ⟨va_cnB 2 hts (fd_gi tb_143) rfl rfl rfl (hEV.1 _ nb_5) (hts _ tb_13) nhF_entry.2 ⟨(Nat.le_of_ble_eq_true rfl), (Nat.le_of_ble_eq_true rfl)⟩, hts _ tb_142, trivial⟩ (fd_PreS hE hK hEV hA hP hD hS [] rfl (by decide)) rfl rfl hl.1 rfl (lv_room (Nat.le_of_ble_eq_true rfl)) ndM_dueSort_80 ⟨(Nat.le_of_ble_eq_true rfl), (Nat.le_of_ble_eq_true rfl)⟩) hP hD hS hA [] [0, 1, 2] rfl rfl (by decide) (by decide) [0, 1, 2] rfl (by decide) (fun H locs hP hD hS => ?_)
        refine lv_goto (tgt := 87) hx hb ndM_dueSort_83 (by decide) ?_
        exact fd_ret_i hx hb hr hlocks hS hP hD rfl (by rw [fd_due, if_neg n_5, if_neg n_32, if_neg n_60]) ndM_dueSort_87
    · have n_32 := (nI_eq (a := kd) (b := 6) (by omega) (by omega)).mp c_32
      refine lv_aload_n hx hb ndM_dueSort_35 rfl (lv_at hl 0 rfl) ?_
      refine va_get (D := D) (ci := 1) (v := .int (nI n)) (C := nR_M) (T := nT_M) (N := 4) hx hb hts in_M hown hK hP 0 rfl rfl 3 (by decide) (hts _ tb_47) (fun _ h9 => h9) rfl ndM_dueSort_36 ?_
      refine lv_iconst (v := 4) hx hb ndM_dueSort_39 (by decide) ?_
      refine lv_icmp_lt (tgt := 54) hx hb ndM_dueSort_40 (by decide) (fun c_40 => ?_) (fun c_40 => ?_)
      · have n_40 := (nI_ltI (a := n) (b := 4) (by omega) (by omega)).mp c_40
        refine lv_aload_n hx hb ndM_dueSort_54 rfl (lv_at hl 0 rfl) ?_
        refine va_get (D := D) (ci := 1) (v := .int (nI n)) (C := nR_M) (T := nT_M) (N := 4) hx hb hts in_M hown hK hP 0 rfl rfl 3 (by decide) (hts _ tb_47) (fun _ h9 => h9) rfl ndM_dueSort_55 ?_
        refine lv_bipush (v := 6) hx hb ndM_dueSort_58 (by decide) ?_
        refine lv_icmp_ge (tgt := 86) hx hb ndM_dueSort_60 (by decide) (fun c_60 => absurd c_60 (fun h9 => absurd ((nI_leI (a := 6) (b := n) (by omega) (by omega)).mp h9) (by omega))) (fun _ => ?_)
        refine va_getsN hx hb (hEV.2.2.2.1 3 (by decide)).1 hS hown (fd_nw hEV nb_6) (fun _ h9 => h9) ndM_dueSort_63 ?_
        refine lv_aload_n hx hb ndM_dueSort_66 rfl (lv_at hl 0 rfl) ?_
        refine va_get (D := D) (ci := 1) (v := .int (nI kd)) (C := nR_M) (T := nT_M) (N := 4) hx hb hts in_M hown hK hP 0 rfl rfl 2 (by decide) (hts _ tb_46) (fun _ h9 => h9) rfl ndM_dueSort_67 ?_
        refine lv_iconst (v := 1) hx hb ndM_dueSort_70 (by decide) ?_
        refine lv_isub hx hb ndM_dueSort_71 ?_
        refine fd_asi (y := nI (kd - 1)) (pk_sub (a := kd) (b := 1) (by omega)) ?_
        refine lv_bipush (v := 6) hx hb ndM_dueSort_72 (by decide) ?_
        refine lv_imul hx hb ndM_dueSort_74 ?_
        refine fd_asi (y := nI ((kd - 1) * 6)) (pk_mul (kd - 1) 6) ?_
        refine lv_aload_n hx hb ndM_dueSort_75 rfl (lv_at hl 0 rfl) ?_
        refine va_get (D := D) (ci := 1) (v := .int (nI n)) (C := nR_M) (T := nT_M) (N := 4) hx hb hts in_M hown hK hP 0 rfl rfl 3 (by decide) (hts _ tb_47) (fun _ h9 => h9) rfl ndM_dueSort_76 ?_
        refine lv_iadd hx hb ndM_dueSort_79 ?_
        refine fd_asi (y := nI ((kd - 1) * 6 + n)) (nI_add _ _) ?_
        refine fd_go_i (wr := [(h, .inr (1, [.ref a, .ref b, .int (nI kd), .int (nI n)])), (a, .inl (cI, 20, .inl fs)), (b, .inl (cL, 20, .inr (.inl fn)))]) (w2 := [(h, .inr (1, [.ref a, .ref b, .int (nI kd), .int (nI n)])), (a, .inl (cI, 20, .inl fs)), (b, .inl (cL, 20, .inr (.inl fn)))]) (va_runSN (As := [.ref (Z 3), .int (nI ((kd - 1) * 6 + n))]) (rest := []) ⟨hx, hb, hml, hown, hts⟩ (kF_entry l D Z cI cL (k := 3) (by decide) (nI ((kd - 1) * 6 + n)) s.heap.size) ⟨va_cnB 2 hts (fd_gi tb_143) rfl rfl rfl (hEV.1 _ nb_5) (hts _ tb_13) nhF_entry.2 ⟨(Nat.le_of_ble_eq_true rfl), (Nat.le_of_ble_eq_true rfl)⟩, hts _ tb_142, trivial⟩ (fd_PreS hE hK hEV hA hP hD hS [] rfl (by decide)) rfl rfl hl.1 rfl (lv_room (Nat.le_of_ble_eq_true rfl)) ndM_dueSort_80 ⟨(Nat.le_of_ble_eq_true rfl), (Nat.le_of_ble_eq_true rfl)⟩) hP hD hS hA [] [0, 1, 2] rfl rfl (by decide) (by decide) [0, 1, 2] rfl (by decide) (fun H locs hP hD hS => ?_)
        refine lv_goto (tgt := 87) hx hb ndM_dueSort_83 (by decide) ?_
        exact fd_ret_i hx hb hr hlocks hS hP hD rfl (by rw [fd_due, if_neg n_5, if_pos n_32, if_pos n_40]) ndM_dueSort_87
      · have n_40 := mt (nI_ltI (a := n) (b := 4) (by omega) (by omega)).mpr c_40
        refine lv_aload_n hx hb ndM_dueSort_43 rfl (lv_at hl 0 rfl) ?_
        refine lv_aload_n hx hb ndM_dueSort_44 rfl (lv_at hl 0 rfl) ?_
        refine va_get (D := D) (ci := 1) (v := .int (nI n)) (C := nR_M) (T := nT_M) (N := 4) hx hb hts in_M hown hK hP 0 rfl rfl 3 (by decide) (hts _ tb_47) (fun _ h9 => h9) rfl ndM_dueSort_45 ?_
        refine lv_iconst (v := 4) hx hb ndM_dueSort_48 (by decide) ?_
        refine lv_isub hx hb ndM_dueSort_49 ?_
        refine fd_asi (y := nI (n - 4)) (pk_sub (a := n) (b := 4) (by omega)) ?_
        refine fd_go_i (wr := []) (w2 := [(h, .inr (1, [.ref a, .ref b, .int (nI kd), .int (nI n)])), (a, .inl (cI, 20, .inl fs)), (b, .inl (cL, 20, .inr (.inl fn)))]) (va_runV (As := [.int (nI (n - 4))]) (rest := []) ⟨hx, hb, hml, hown, hts⟩ (kM_dueLegSort l D Z cI cL (kd := kd) (n := n) (fs := fs) (fn := fn) (j := (n - 4)) (by omega) (by omega) (by omega) s.heap.size) (cwV 1 hts (fd_gV tb_133 tb_134 tb_4 tb_15 tb_135) rfl rfl rfl nhM_dueLegSort ⟨(Nat.le_of_ble_eq_true rfl), (Nat.le_of_ble_eq_true rfl)⟩) (fd_PreV hE hK hEV hA hP hD hS [0, 1, 2] rfl (by decide) (ci := 1) (q0 := 0) rfl rfl) rfl rfl hl.1 rfl (lv_room (Nat.le_of_ble_eq_true rfl)) ndM_dueSort_50 ⟨(Nat.le_of_ble_eq_true rfl), (Nat.le_of_ble_eq_true rfl)⟩) hP hD hS hA [0, 1, 2] [] rfl rfl (by decide) (by decide) [0, 1, 2] rfl (by decide) (fun H locs hP hD hS => ?_)
        exact fd_ret_i hx hb hr hlocks hS hP hD rfl (by rw [fd_due, if_neg n_5, if_pos n_32, if_neg n_40]) ndM_dueSort_53
set_option maxHeartbeats 4000000 in
set_option maxRecDepth 100000 in
theorem kM_mustBeZero (l : Launch) (D : va_G) (Z : Nat → Nat) (cI cL : ClassId) {h a b kd n : Nat} {fs : Nat → Int32} {fn : Nat → Int64} (hk : kd ≤ 15) (hn : n ≤ 20) : fd_Mi l D fd_cl (fd_ty cI cL) (fd_EV Z) nyM_mustBeZero (.code nyM_mustBeZero ncM_mustBeZero 1 (some .boolean) :: fd_TB) nmM_mustBeZero [.ref h] [(h, .inr (1, [.ref a, .ref b, .int (nI kd), .int (nI n)])), (a, .inl (cI, 20, .inl fs)), (b, .inl (cL, 20, .inr (.inl fn)))] [(h, .inr (1, [.ref a, .ref b, .int (nI kd), .int (nI n)])), (a, .inl (cI, 20, .inl fs)), (b, .inl (cL, 20, .inr (.inl fn)))] (fd_mz kd n fn) := by
  refine fd_open_i (cc := ncM_mustBeZero) (maxL := 1) (ret := (some .boolean)) (by decide) rfl (Nat.le_of_ble_eq_true rfl) ?_
  intro p e s m below meth c A ls X hP hD hS hl
  obtain ⟨hx, hb, hr, hml, hown, hts0, hlocks, hK, hEV, hA⟩ := X
  have hts : ∀ w ∈ fd_TB, w.before _ s = true := fun w h => hts0 w (List.mem_cons_of_mem _ h)
  have hE := fd_EV_ok Z
  have hown : s.vm.findClass "FieldDesk$Message" = some m.cls := hown
  have hl : lv_has ls 1 [(0, .ref h)] := hl
  refine lv_aload_n hx hb ndM_mustBeZero_0 rfl (lv_at hl 0 rfl) ?_
  refine va_get (D := D) (ci := 1) (v := .int (nI kd)) (C := nR_M) (T := nT_M) (N := 4) hx hb hts in_M hown hK hP 0 rfl rfl 2 (by decide) (hts _ tb_46) (fun _ h9 => h9) rfl ndM_mustBeZero_1 ?_
  refine lv_iconst (v := 2) hx hb ndM_mustBeZero_4 (by decide) ?_
  refine lv_icmp_ne (tgt := 22) hx hb ndM_mustBeZero_5 (by decide) (fun c_5 => ?_) (fun c_5 => ?_)
  · have n_5 := mt (nI_eq (a := kd) (b := 2) (by omega) (by omega)).mpr c_5
    refine lv_iconst (v := 0) hx hb ndM_mustBeZero_22 (by decide) ?_
    exact fd_ret_i hx hb hr hlocks hS hP hD rfl (by rw [fd_mz, if_neg n_5]) ndM_mustBeZero_23
  · have n_5 := (nI_eq (a := kd) (b := 2) (by omega) (by omega)).mp c_5
    refine lv_aload_n hx hb ndM_mustBeZero_8 rfl (lv_at hl 0 rfl) ?_
    refine lv_iconst (v := 3) hx hb ndM_mustBeZero_9 (by decide) ?_
    refine fd_go_l (wr := []) (w2 := [(h, .inr (1, [.ref a, .ref b, .int (nI kd), .int (nI n)])), (a, .inl (cI, 20, .inl fs)), (b, .inl (cL, 20, .inr (.inl fn)))]) (va_runV (As := [.int 3]) (rest := []) ⟨hx, hb, hml, hown, hts⟩ (kM_numberAt l D Z cI cL (kd := kd) (n := n) (fs := fs) (fn := fn) (by omega) 3 s.heap.size) (cwV 1 hts (fd_gV tb_136 tb_137 tb_138 tb_15 tb_139) rfl rfl rfl nhM_numberAt ⟨(Nat.le_of_ble_eq_true rfl), (Nat.le_of_ble_eq_true rfl)⟩) (fd_PreV hE hK hEV hA hP hD hS [0, 1, 2] rfl (by decide) (ci := 1) (q0 := 0) rfl rfl) rfl rfl hl.1 rfl (lv_room (Nat.le_of_ble_eq_true rfl)) ndM_mustBeZero_10 ⟨(Nat.le_of_ble_eq_true rfl), (Nat.le_of_ble_eq_true rfl)⟩) hP hD hS hA [0, 1, 2] [] rfl rfl (by decide) (by decide) [0, 1, 2] rfl (by decide) (fun H locs hP hD hS => ?_)
    refine lv_lconst (v := 0) hx hb ndM_mustBeZero_13 (by decide) ?_
    refine W.lcmp hx hb ndM_mustBeZero_14 ?_
    refine lv_if_ne (tgt := 22) hx hb ndM_mustBeZero_15 (by decide) (fun c_15 => ?_) (fun c_15 => ?_)
    · have n_15 := mt (lg_cmp_eq _ _).mpr c_15
      refine lv_iconst (v := 0) hx hb ndM_mustBeZero_22 (by decide) ?_
      exact fd_ret_i hx hb hr hlocks hS hP hD rfl (by rw [fd_mz, if_pos n_5, if_neg n_15]) ndM_mustBeZero_23
    · have n_15 := (lg_cmp_eq _ _).mp c_15
      refine lv_iconst (v := 1) hx hb ndM_mustBeZero_18 (by decide) ?_
      refine lv_goto (tgt := 23) hx hb ndM_mustBeZero_19 (by decide) ?_
      exact fd_ret_i hx hb hr hlocks hS hP hD rfl (by rw [fd_mz, if_pos n_5, if_pos n_15]) ndM_mustBeZero_23
set_option maxHeartbeats 4000000 in
set_option maxRecDepth 100000 in
theorem kM_suits (l : Launch) (D : va_G) (Z : Nat → Nat) (cI cL : ClassId) {h a b kd n : Nat} {fs : Nat → Int32} {fn : Nat → Int64} (hk : kd ≤ 15) (hn : n ≤ 20) (x : Int64) : fd_Mi l D fd_cl (fd_ty cI cL) (fd_EV Z) nyM_suits (.code nyM_suits ncM_suits 4 (some .boolean) :: fd_TB) nmM_suits [.ref h, .long x] [(h, .inr (1, [.ref a, .ref b, .int (nI kd), .int (nI n)])), (a, .inl (cI, 20, .inl fs)), (b, .inl (cL, 20, .inr (.inl fn)))] [(h, .inr (1, [.ref a, .ref b, .int (nI kd), .int (nI n)])), (a, .inl (cI, 20, .inl fs)), (b, .inl (cL, 20, .inr (.inl fn)))] (fd_suit kd n fn x) := by
  refine fd_open_i (cc := ncM_suits) (maxL := 4) (ret := (some .boolean)) (by decide) rfl (Nat.le_of_ble_eq_true rfl) ?_
  intro p e s m below meth c A ls X hP hD hS hl
  obtain ⟨hx, hb, hr, hml, hown, hts0, hlocks, hK, hEV, hA⟩ := X
  have hts : ∀ w ∈ fd_TB, w.before _ s = true := fun w h => hts0 w (List.mem_cons_of_mem _ h)
  have hE := fd_EV_ok Z
  have hown : s.vm.findClass "FieldDesk$Message" = some m.cls := hown
  have hl : lv_has ls 4 [(0, .ref h), (1, .long x)] := hl
  refine lv_aload_n hx hb ndM_suits_0 rfl (lv_at hl 0 rfl) ?_
  refine fd_go_i (wr := []) (w2 := [(h, .inr (1, [.ref a, .ref b, .int (nI kd), .int (nI n)])), (a, .inl (cI, 20, .inl fs)), (b, .inl (cL, 20, .inr (.inl fn)))]) (va_runV (As := []) (rest := []) ⟨hx, hb, hml, hown, hts⟩ (kM_dueSort l D Z cI cL (kd := kd) (n := n) (fs := fs) (fn := fn) (by omega) (by omega) s.heap.size) (cwV 0 hts (fd_gV tb_174 tb_130 tb_131 tb_15 tb_132) rfl rfl rfl nhM_dueSort ⟨(Nat.le_of_ble_eq_true rfl), (Nat.le_of_ble_eq_true rfl)⟩) (fd_PreV hE hK hEV hA hP hD hS [0, 1, 2] rfl (by decide) (ci := 1) (q0 := 0) rfl rfl) rfl rfl hl.1 rfl (lv_room (Nat.le_of_ble_eq_true rfl)) ndM_suits_1 ⟨(Nat.le_of_ble_eq_true rfl), (Nat.le_of_ble_eq_true rfl)⟩) hP hD hS hA [0, 1, 2] [] rfl rfl (by decide) (by decide) [0, 1, 2] rfl (by decide) (fun H locs hP hD hS => ?_)
  refine lv_istore_n (lv' := [(3, .int (fd_due kd n fn)), (0, .ref h), (1, .long x)]) hx hb ndM_suits_4 rfl hl (by decide) rfl (fun ls hl => ?_)
  refine lv_iload_n hx hb ndM_suits_5 rfl (lv_at hl 0 rfl) ?_
  refine lv_iconst (v := 1) hx hb ndM_suits_6 (by decide) ?_
  refine lv_icmp_lt (tgt := 31) hx hb ndM_suits_7 (by decide) (fun c_7 => ?_) (fun c_7 => ?_)
  · refine lv_iconst (v := 0) hx hb ndM_suits_31 (by decide) ?_
    exact fd_ret_i hx hb hr hlocks hS hP hD rfl (by rw [fd_suit, if_pos c_7]) ndM_suits_32
  · refine lv_iload_n hx hb ndM_suits_10 rfl (lv_at hl 0 rfl) ?_
    refine va_getsN hx hb hEV.2.2.2.2.1.1 hS hown (fd_nw hEV nb_8) (fun _ h9 => h9) ndM_suits_11 ?_
    refine va_tlen hx hb hEV.2.2.2.2.1.2 hS (v := nI 9) rfl ndM_suits_14 ?_
    refine lv_icmp_ge (tgt := 31) hx hb ndM_suits_15 (by decide) (fun c_15 => ?_) (fun c_15 => ?_)
    · refine lv_iconst (v := 0) hx hb ndM_suits_31 (by decide) ?_
      exact fd_ret_i hx hb hr hlocks hS hP hD rfl (by rw [fd_suit, if_neg c_7, if_pos c_15]) ndM_suits_32
    · refine lv_aload_n hx hb ndM_suits_18 rfl (lv_at hl 1 rfl) ?_
      refine fd_go_i (wr := []) (w2 := [(h, .inr (1, [.ref a, .ref b, .int (nI kd), .int (nI n)])), (a, .inl (cI, 20, .inl fs)), (b, .inl (cL, 20, .inr (.inl fn)))]) (va_runV (As := []) (rest := []) ⟨hx, hb, hml, hown, hts⟩ (kM_mustBeZero l D Z cI cL (kd := kd) (n := n) (fs := fs) (fn := fn) (by omega) (by omega) H.size) (cwV 0 hts (fd_gV tb_217 tb_167 tb_168 tb_15 tb_169) rfl rfl rfl nhM_mustBeZero ⟨(Nat.le_of_ble_eq_true rfl), (Nat.le_of_ble_eq_true rfl)⟩) (fd_PreV hE hK hEV hA hP hD hS [0, 1, 2] rfl (by decide) (ci := 1) (q0 := 0) rfl rfl) rfl rfl hl.1 rfl (lv_room (Nat.le_of_ble_eq_true rfl)) ndM_suits_19 ⟨(Nat.le_of_ble_eq_true rfl), (Nat.le_of_ble_eq_true rfl)⟩) hP hD hS hA [0, 1, 2] [] rfl rfl (by decide) (by decide) [0, 1, 2] rfl (by decide) (fun H locs hP hD hS => ?_)
      refine lv_if_eq (tgt := 33) hx hb ndM_suits_22 (by decide) (fun c_22 => ?_) (fun c_22 => ?_)
      · refine lv_lload_n hx hb ndM_suits_33 rfl (lv_at hl 2 rfl) ?_
        refine va_getsN hx hb (hEV.2.2.2.1 1 (by decide)).1 hS hown (fd_nw hEV nb_9) (fun _ h9 => h9) ndM_suits_34 ?_
        refine lv_iload_n hx hb ndM_suits_37 rfl (lv_at hl 0 rfl) ?_
        refine fd_go_i (wr := [(h, .inr (1, [.ref a, .ref b, .int (nI kd), .int (nI n)])), (a, .inl (cI, 20, .inl fs)), (b, .inl (cL, 20, .inr (.inl fn)))]) (w2 := [(h, .inr (1, [.ref a, .ref b, .int (nI kd), .int (nI n)])), (a, .inl (cI, 20, .inl fs)), (b, .inl (cL, 20, .inr (.inl fn)))]) (va_runSN (As := [.ref (Z 1), .int (fd_due kd n fn)]) (rest := [.long x]) ⟨hx, hb, hml, hown, hts⟩ (kF_entry l D Z cI cL (k := 1) (by decide) (fd_due kd n fn) H.size) ⟨va_cnB 2 hts (fd_gi tb_143) rfl rfl rfl (hEV.1 _ nb_5) (hts _ tb_13) nhF_entry.2 ⟨(Nat.le_of_ble_eq_true rfl), (Nat.le_of_ble_eq_true rfl)⟩, hts _ tb_142, trivial⟩ (fd_PreS hE hK hEV hA hP hD hS [] rfl (by decide)) rfl rfl hl.1 rfl (lv_room (Nat.le_of_ble_eq_true rfl)) ndM_suits_38 ⟨(Nat.le_of_ble_eq_true rfl), (Nat.le_of_ble_eq_true rfl)⟩) hP hD hS hA [] [0, 1, 2] rfl rfl (by decide) (by decide) [0, 1, 2] rfl (by decide) (fun H locs hP hD hS => ?_)
        refine lv_i2l hx hb ndM_suits_41 rfl ?_
        refine W.lcmp hx hb ndM_suits_42 ?_
        refine lv_if_lt (tgt := 60) hx hb ndM_suits_43 (by decide) (fun c_43 => ?_) (fun c_43 => ?_)
        · have n_43 := (lg_cmp_lt _ _).mp c_43
          refine lv_iconst (v := 0) hx hb ndM_suits_60 (by decide) ?_
          exact fd_ret_i hx hb hr hlocks hS hP hD rfl (by rw [fd_suit, if_neg c_7, if_neg c_15, if_pos c_22, fd_sub, if_pos n_43]) ndM_suits_61
        · have n_43 := mt (lg_cmp_lt _ _).mpr c_43
          refine lv_lload_n hx hb ndM_suits_46 rfl (lv_at hl 2 rfl) ?_
          refine va_getsN hx hb hEV.2.2.2.2.1.1 hS hown (fd_nw hEV nb_8) (fun _ h9 => h9) ndM_suits_47 ?_
          refine lv_iload_n hx hb ndM_suits_50 rfl (lv_at hl 0 rfl) ?_
          refine va_tl hx hb hEV.2.2.2.2.1.2 hS (fd_in9 c_7 c_15) (v := .long (fd_mn.getD (fd_due kd n fn).toNatClampNeg 0)) rfl ndM_suits_51 ?_
          refine W.lcmp hx hb ndM_suits_52 ?_
          refine lv_if_gt (tgt := 60) hx hb ndM_suits_53 (by decide) (fun c_53 => ?_) (fun c_53 => ?_)
          · have n_53 := (lg_cmp_gt _ _).mp c_53
            refine lv_iconst (v := 0) hx hb ndM_suits_60 (by decide) ?_
            exact fd_ret_i hx hb hr hlocks hS hP hD rfl (by rw [fd_suit, if_neg c_7, if_neg c_15, if_pos c_22, fd_sub, if_neg n_43, if_pos n_53]) ndM_suits_61
          · have n_53 := mt (lg_cmp_gt _ _).mpr c_53
            refine lv_iconst (v := 1) hx hb ndM_suits_56 (by decide) ?_
            refine lv_goto (tgt := 61) hx hb ndM_suits_57 (by decide) ?_
            exact fd_ret_i hx hb hr hlocks hS hP hD rfl (by rw [fd_suit, if_neg c_7, if_neg c_15, if_pos c_22, fd_sub, if_neg n_43, if_neg n_53]) ndM_suits_61
      · refine lv_lload_n hx hb ndM_suits_25 rfl (lv_at hl 2 rfl) ?_
        refine lv_lconst (v := 0) hx hb ndM_suits_26 (by decide) ?_
        refine W.lcmp hx hb ndM_suits_27 ?_
        refine lv_if_eq (tgt := 33) hx hb ndM_suits_28 (by decide) (fun c_28 => ?_) (fun c_28 => ?_)
        · have n_28 := (lg_cmp_eq _ _).mp c_28
          refine lv_lload_n hx hb ndM_suits_33 rfl (lv_at hl 2 rfl) ?_
          refine va_getsN hx hb (hEV.2.2.2.1 1 (by decide)).1 hS hown (fd_nw hEV nb_9) (fun _ h9 => h9) ndM_suits_34 ?_
          refine lv_iload_n hx hb ndM_suits_37 rfl (lv_at hl 0 rfl) ?_
          refine fd_go_i (wr := [(h, .inr (1, [.ref a, .ref b, .int (nI kd), .int (nI n)])), (a, .inl (cI, 20, .inl fs)), (b, .inl (cL, 20, .inr (.inl fn)))]) (w2 := [(h, .inr (1, [.ref a, .ref b, .int (nI kd), .int (nI n)])), (a, .inl (cI, 20, .inl fs)), (b, .inl (cL, 20, .inr (.inl fn)))]) (va_runSN (As := [.ref (Z 1), .int (fd_due kd n fn)]) (rest := [.long x]) ⟨hx, hb, hml, hown, hts⟩ (kF_entry l D Z cI cL (k := 1) (by decide) (fd_due kd n fn) H.size) ⟨va_cnB 2 hts (fd_gi tb_143) rfl rfl rfl (hEV.1 _ nb_5) (hts _ tb_13) nhF_entry.2 ⟨(Nat.le_of_ble_eq_true rfl), (Nat.le_of_ble_eq_true rfl)⟩, hts _ tb_142, trivial⟩ (fd_PreS hE hK hEV hA hP hD hS [] rfl (by decide)) rfl rfl hl.1 rfl (lv_room (Nat.le_of_ble_eq_true rfl)) ndM_suits_38 ⟨(Nat.le_of_ble_eq_true rfl), (Nat.le_of_ble_eq_true rfl)⟩) hP hD hS hA [] [0, 1, 2] rfl rfl (by decide) (by decide) [0, 1, 2] rfl (by decide) (fun H locs hP hD hS => ?_)
          refine lv_i2l hx hb ndM_suits_41 rfl ?_
          refine W.lcmp hx hb ndM_suits_42 ?_
          refine lv_if_lt (tgt := 60) hx hb ndM_suits_43 (by decide) (fun c_43 => ?_) (fun c_43 => ?_)
          · have n_43 := (lg_cmp_lt _ _).mp c_43
            refine lv_iconst (v := 0) hx hb ndM_suits_60 (by decide) ?_
            exact fd_ret_i hx hb hr hlocks hS hP hD rfl (by rw [fd_suit, if_neg c_7, if_neg c_15, if_neg c_22, if_pos n_28, fd_sub, if_pos n_43]) ndM_suits_61
          · have n_43 := mt (lg_cmp_lt _ _).mpr c_43
            refine lv_lload_n hx hb ndM_suits_46 rfl (lv_at hl 2 rfl) ?_
            refine va_getsN hx hb hEV.2.2.2.2.1.1 hS hown (fd_nw hEV nb_8) (fun _ h9 => h9) ndM_suits_47 ?_
            refine lv_iload_n hx hb ndM_suits_50 rfl (lv_at hl 0 rfl) ?_
            refine va_tl hx hb hEV.2.2.2.2.1.2 hS (fd_in9 c_7 c_15) (v := .long (fd_mn.getD (fd_due kd n fn).toNatClampNeg 0)) rfl ndM_suits_51 ?_
            refine W.lcmp hx hb ndM_suits_52 ?_
            refine lv_if_gt (tgt := 60) hx hb ndM_suits_53 (by decide) (fun c_53 => ?_) (fun c_53 => ?_)
            · have n_53 := (lg_cmp_gt _ _).mp c_53
              refine lv_iconst (v := 0) hx hb ndM_suits_60 (by decide) ?_
              exact fd_ret_i hx hb hr hlocks hS hP hD rfl (by rw [fd_suit, if_neg c_7, if_neg c_15, if_neg c_22, if_pos n_28, fd_sub, if_neg n_43, if_pos n_53]) ndM_suits_61
            · have n_53 := mt (lg_cmp_gt _ _).mpr c_53
              refine lv_iconst (v := 1) hx hb ndM_suits_56 (by decide) ?_
              refine lv_goto (tgt := 61) hx hb ndM_suits_57 (by decide) ?_
              exact fd_ret_i hx hb hr hlocks hS hP hD rfl (by rw [fd_suit, if_neg c_7, if_neg c_15, if_neg c_22, if_pos n_28, fd_sub, if_neg n_43, if_neg n_53]) ndM_suits_61
        · have n_28 := mt (lg_cmp_eq _ _).mpr c_28
          refine lv_iconst (v := 0) hx hb ndM_suits_31 (by decide) ?_
          exact fd_ret_i hx hb hr hlocks hS hP hD rfl (by rw [fd_suit, if_neg c_7, if_neg c_15, if_neg c_22, if_neg n_28]) ndM_suits_32
set_option maxHeartbeats 4000000 in
set_option maxRecDepth 100000 in
theorem kM_take (l : Launch) (D : va_G) (Z : Nat → Nat) (cI cL : ClassId) {h a b kd n : Nat} {fs : Nat → Int32} {fn : Nat → Int64} (hk : kd ≤ 15) (hn : n < 20) (x : Int64) : fd_Mv l D fd_cl (fd_ty cI cL) (fd_EV Z) nyM_take (.code nyM_take ncM_take 3 none :: fd_TB) nmM_take [.ref h, .long x] [(h, .inr (1, [.ref a, .ref b, .int (nI kd), .int (nI n)])), (a, .inl (cI, 20, .inl fs)), (b, .inl (cL, 20, .inr (.inl fn)))] [(h, .inr (1, [.ref a, .ref b, .int (nI kd), .int (nI (n + 1))])), (a, .inl (cI, 20, .inl (upd fs n (fd_due kd n fn)))), (b, .inl (cL, 20, .inr (.inl (vp_updL fn n x))))] := by
  refine fd_open_v (cc := ncM_take) (maxL := 3) (ret := none) (by decide) rfl (Nat.le_of_ble_eq_true rfl) ?_
  intro p e s m below meth c A ls X hP hD hS hl
  obtain ⟨hx, hb, hr, hml, hown, hts0, hlocks, hK, hEV, hA⟩ := X
  have hts : ∀ w ∈ fd_TB, w.before _ s = true := fun w h => hts0 w (List.mem_cons_of_mem _ h)
  have hE := fd_EV_ok Z
  have hown : s.vm.findClass "FieldDesk$Message" = some m.cls := hown
  have hl : lv_has ls 3 [(0, .ref h), (1, .long x)] := hl
  refine lv_aload_n hx hb ndM_take_0 rfl (lv_at hl 0 rfl) ?_
  refine va_get (D := D) (ci := 1) (v := .int (nI n)) (C := nR_M) (T := nT_M) (N := 4) hx hb hts in_M hown hK hP 0 rfl rfl 3 (by decide) (hts _ tb_47) (fun _ h9 => h9) rfl ndM_take_1 ?_
  refine lv_if_lt (tgt := 64) hx hb ndM_take_4 (by decide) (fun c_4 => absurd c_4 (fun h9 => absurd ((nI_ltI (a := n) (b := 0) (by omega) (by omega)).mp h9) (by omega))) (fun _ => ?_)
  refine lv_aload_n hx hb ndM_take_7 rfl (lv_at hl 0 rfl) ?_
  refine va_get (D := D) (ci := 1) (v := .int (nI n)) (C := nR_M) (T := nT_M) (N := 4) hx hb hts in_M hown hK hP 0 rfl rfl 3 (by decide) (hts _ tb_47) (fun _ h9 => h9) rfl ndM_take_8 ?_
  refine lv_aload_n hx hb ndM_take_11 rfl (lv_at hl 0 rfl) ?_
  refine va_get (D := D) (ci := 1) (v := .ref a) (C := nR_M) (T := nT_M) (N := 4) hx hb hts in_M hown hK hP 0 rfl rfl 0 (by decide) (hts _ tb_44) (fun _ h9 => h9) rfl ndM_take_12 ?_
  refine va_alen hx hb hK hP 1 0 rfl rfl (v := nI 20) rfl ndM_take_15 ?_
  refine lv_icmp_ge (tgt := 64) hx hb ndM_take_16 (by decide) (fun c_16 => absurd c_16 (fun h9 => absurd ((nI_leI (a := 20) (b := n) (by omega) (by omega)).mp h9) (by omega))) (fun _ => ?_)
  refine lv_aload_n hx hb ndM_take_19 rfl (lv_at hl 0 rfl) ?_
  refine va_get (D := D) (ci := 1) (v := .int (nI n)) (C := nR_M) (T := nT_M) (N := 4) hx hb hts in_M hown hK hP 0 rfl rfl 3 (by decide) (hts _ tb_47) (fun _ h9 => h9) rfl ndM_take_20 ?_
  refine lv_aload_n hx hb ndM_take_23 rfl (lv_at hl 0 rfl) ?_
  refine va_get (D := D) (ci := 1) (v := .ref b) (C := nR_M) (T := nT_M) (N := 4) hx hb hts in_M hown hK hP 0 rfl rfl 1 (by decide) (hts _ tb_45) (fun _ h9 => h9) rfl ndM_take_24 ?_
  refine va_alen hx hb hK hP 2 1 rfl rfl (v := nI 20) rfl ndM_take_27 ?_
  refine lv_icmp_ge (tgt := 64) hx hb ndM_take_28 (by decide) (fun c_28 => absurd c_28 (fun h9 => absurd ((nI_leI (a := 20) (b := n) (by omega) (by omega)).mp h9) (by omega))) (fun _ => ?_)
  refine lv_aload_n hx hb ndM_take_31 rfl (lv_at hl 0 rfl) ?_
  refine va_get (D := D) (ci := 1) (v := .ref a) (C := nR_M) (T := nT_M) (N := 4) hx hb hts in_M hown hK hP 0 rfl rfl 0 (by decide) (hts _ tb_44) (fun _ h9 => h9) rfl ndM_take_32 ?_
  refine lv_aload_n hx hb ndM_take_35 rfl (lv_at hl 0 rfl) ?_
  refine va_get (D := D) (ci := 1) (v := .int (nI n)) (C := nR_M) (T := nT_M) (N := 4) hx hb hts in_M hown hK hP 0 rfl rfl 3 (by decide) (hts _ tb_47) (fun _ h9 => h9) rfl ndM_take_36 ?_
  refine lv_aload_n hx hb ndM_take_39 rfl (lv_at hl 0 rfl) ?_
  refine fd_go_i (wr := []) (w2 := [(h, .inr (1, [.ref a, .ref b, .int (nI kd), .int (nI n)])), (a, .inl (cI, 20, .inl fs)), (b, .inl (cL, 20, .inr (.inl fn)))]) (va_runV (As := []) (rest := [.int (nI n), .ref a]) ⟨hx, hb, hml, hown, hts⟩ (kM_dueSort l D Z cI cL (kd := kd) (n := n) (fs := fs) (fn := fn) (by omega) (by omega) s.heap.size) (cwV 0 hts (fd_gV tb_174 tb_130 tb_131 tb_15 tb_132) rfl rfl rfl nhM_dueSort ⟨(Nat.le_of_ble_eq_true rfl), (Nat.le_of_ble_eq_true rfl)⟩) (fd_PreV hE hK hEV hA hP hD hS [0, 1, 2] rfl (by decide) (ci := 1) (q0 := 0) rfl rfl) rfl rfl hl.1 rfl (lv_room (Nat.le_of_ble_eq_true rfl)) ndM_take_40 ⟨(Nat.le_of_ble_eq_true rfl), (Nat.le_of_ble_eq_true rfl)⟩) hP hD hS hA [0, 1, 2] [] rfl rfl (by decide) (by decide) [0, 1, 2] rfl (by decide) (fun H locs hP hD hS => ?_)
  refine fd_iast hx hb hK hP hD hS 1 0 (k := n) rfl rfl hn (by omega) ndM_take_43 (fun H locs hP hD hS => ?_)
  have hP : va_P D fd_cl [(h, .inr (1, [.ref a, .ref b, .int (nI kd), .int (nI n)])), (a, .inl (cI, 20, .inl (upd fs n (fd_due kd n fn)))), (b, .inl (cL, 20, .inr (.inl fn)))] H := hP
  have hD : va_D A [(h, .inr (1, [.ref a, .ref b, .int (nI kd), .int (nI n)])), (a, .inl (cI, 20, .inl (upd fs n (fd_due kd n fn)))), (b, .inl (cL, 20, .inr (.inl fn)))] := hD
  refine lv_aload_n hx hb ndM_take_44 rfl (lv_at hl 0 rfl) ?_
  refine va_get (D := D) (ci := 1) (v := .ref b) (C := nR_M) (T := nT_M) (N := 4) hx hb hts in_M hown hK hP 0 rfl rfl 1 (by decide) (hts _ tb_45) (fun _ h9 => h9) rfl ndM_take_45 ?_
  refine lv_aload_n hx hb ndM_take_48 rfl (lv_at hl 0 rfl) ?_
  refine va_get (D := D) (ci := 1) (v := .int (nI n)) (C := nR_M) (T := nT_M) (N := 4) hx hb hts in_M hown hK hP 0 rfl rfl 3 (by decide) (hts _ tb_47) (fun _ h9 => h9) rfl ndM_take_49 ?_
  refine lv_lload_n hx hb ndM_take_52 rfl (lv_at hl 1 rfl) ?_
  refine fd_last hx hb hK hP hD hS 2 1 (k := n) rfl rfl hn (by omega) ndM_take_53 (fun H locs hP hD hS => ?_)
  have hP : va_P D fd_cl [(h, .inr (1, [.ref a, .ref b, .int (nI kd), .int (nI n)])), (a, .inl (cI, 20, .inl (upd fs n (fd_due kd n fn)))), (b, .inl (cL, 20, .inr (.inl (vp_updL fn n x))))] H := hP
  have hD : va_D A [(h, .inr (1, [.ref a, .ref b, .int (nI kd), .int (nI n)])), (a, .inl (cI, 20, .inl (upd fs n (fd_due kd n fn)))), (b, .inl (cL, 20, .inr (.inl (vp_updL fn n x))))] := hD
  refine lv_aload_n hx hb ndM_take_54 rfl (lv_at hl 0 rfl) ?_
  refine lv_dup hx hb ndM_take_55 rfl ?_
  refine va_get (D := D) (ci := 1) (v := .int (nI n)) (C := nR_M) (T := nT_M) (N := 4) hx hb hts in_M hown hK hP 0 rfl rfl 3 (by decide) (hts _ tb_47) (fun _ h9 => h9) rfl ndM_take_56 ?_
  refine lv_iconst (v := 1) hx hb ndM_take_59 (by decide) ?_
  refine lv_iadd hx hb ndM_take_60 ?_
  refine fd_asi (y := nI (n + 1)) (nI_1 n) ?_
  refine va_put (D := D) (ci := 1) (v := .int (nI (n + 1))) (ty := (.int)) (C := nR_M) (T := nT_M) (N := 4) hx hb hts in_M nt_M nt_M_ok nn_M hown hK hP hD hS 0 rfl rfl 3 (by decide) (hts _ tb_47) (fun _ h9 => h9) rfl (by decide +kernel) rfl rfl (Nat.le_of_ble_eq_true rfl) ndM_take_61 (fun H locs hP hD hS => ?_)
  have hP : va_P D fd_cl [(h, .inr (1, [.ref a, .ref b, .int (nI kd), .int (nI (n + 1))])), (a, .inl (cI, 20, .inl (upd fs n (fd_due kd n fn)))), (b, .inl (cL, 20, .inr (.inl (vp_updL fn n x))))] H := hP
  have hD : va_D A [(h, .inr (1, [.ref a, .ref b, .int (nI kd), .int (nI (n + 1))])), (a, .inl (cI, 20, .inl (upd fs n (fd_due kd n fn)))), (b, .inl (cL, 20, .inr (.inl (vp_updL fn n x))))] := hD
  exact fd_ret_v hx hb hr hlocks hS hP hD ndM_take_64
end
section
/-! the desk: type, begin, add, end, byteOf, copy and the reads -/
theorem fd_dec (x : Int32) : x + Int32.ofInt (-1) = x - 1 := by
  rw [Int32.sub_eq_add_neg]; rfl
def fd_byte (v : Int64) (k : Nat) : Int32 := (v.toUInt64 >>> (((8 : Int32) * nI k).toInt64.toUInt64 &&& Int64.toUInt64 63)).toInt64.toInt32 &&& 255
def fd_tyf (v : Int64) : Nat → (Nat → Int32) → Nat → (Nat → Int32)
  | 0, f, _ => f
  | k + 1, f, n => fd_tyf v k (upd f n (fd_byte v k)) (n + 1)
def fd_bw (wf : Nat → Int32) (q : Nat) : Nat → Int32 := upd (upd (upd wf 0 (fd_let q 0)) 1 (fd_let q 1)) 2 (fd_let q 2)
def fd_app (f : Nat → Int32) (n : Nat) (g : Nat → Int32) (m : Nat) : Nat → Int32 := fun j => if n ≤ j ∧ j < n + m then g (j - n) else f j
theorem fd_app_0 (f : Nat → Int32) (n : Nat) (g : Nat → Int32) : fd_app f n g 0 = f := by
  funext j; simp only [fd_app]; rw [if_neg (by omega)]
theorem fd_app_s (f : Nat → Int32) (n : Nat) (g : Nat → Int32) (m : Nat) : upd (fd_app f n g m) (n + m) (g m) = fd_app f n g (m + 1) := by
  funext j; simp only [fd_app, upd]
  by_cases h : j = n + m
  · subst h; rw [if_pos rfl, if_pos (by omega), show n + m - n = m by omega]
  · rw [if_neg h]
    by_cases h2 : n ≤ j ∧ j < n + m
    · rw [if_pos h2, if_pos (by omega)]
    · rw [if_neg h2, if_neg (by omega)]
def fd_ck (r : Int32) : Int32 := 98 - (r * 100 - r * 100 / 97 * 97)
def fd_ew (wf : Nat → Int32) (wn : Nat) : Nat → Int32 := upd (upd wf wn (48 + fd_ck (fd_rem wf wn) / 10)) (wn + 1) (48 + (fd_ck (fd_rem wf wn) - fd_ck (fd_rem wf wn) / 10 * 10))
def fd_pad : Nat → (Nat → Int32) → Nat → (Nat → Int32)
  | 0, f, _ => f
  | k + 1, f, n => fd_pad k (upd f n 48) (n + 1)
def fd_bs (s : Nat) : Int64 := if fd_b36 (nI s) = 0 then 10 else 36
def fd_dg (s p : Nat) : Nat → (Nat → Int32) → Int64 → (Nat → Int32)
  | 0, f, _ => f
  | k + 1, f, x => fd_dg s p k (upd f (p + k) (fd_sis (nI s) (x - x / fd_bs s * fd_bs s).toInt32)) (x / fd_bs s)
theorem fd_bs_p {s : Nat} (h : fd_b36 (nI s) = 0) : fd_bs s = 10 := by rw [fd_bs, if_pos h]
theorem fd_bs_n {s : Nat} (h : ¬ fd_b36 (nI s) = 0) : fd_bs s = 36 := by rw [fd_bs, if_neg h]
set_option maxHeartbeats 4000000 in
set_option maxRecDepth 100000 in
theorem kF_fields (l : Launch) (D : va_G) (Z : Nat → Nat) (cI cL : ClassId) {a0 a1 a2 a3 a4 a5 a6 a7 a8 a9 a10 n kd k wn od ok : Nat} {f fs wf os : Nat → Int32} {fn on : Nat → Int64} {cf : Int32} (hn : n ≤ 400) (hkd : kd ≤ 15) (hk : k ≤ 20) (hwn : wn ≤ 123) (hod : od ≤ 15) (hok : ok ≤ 20)  : fd_Mi l D fd_cl (fd_ty cI cL) (fd_EV Z) nyF_fields (.code nyF_fields ncF_fields 1 (some .int) :: fd_TB) nmF_fields [.ref a0] [(a0, .inr (2, [.ref a1, .ref a3, .ref a6, .ref a8, .int cf])), (a1, .inr (0, [.ref a2, .int (nI n)])), (a2, .inl (cI, 400, .inl f)), (a3, .inr (1, [.ref a4, .ref a5, .int (nI kd), .int (nI k)])), (a4, .inl (cI, 20, .inl fs)), (a5, .inl (cL, 20, .inr (.inl fn))), (a6, .inr (0, [.ref a7, .int (nI wn)])), (a7, .inl (cI, 123, .inl wf)), (a8, .inr (1, [.ref a9, .ref a10, .int (nI od), .int (nI ok)])), (a9, .inl (cI, 20, .inl os)), (a10, .inl (cL, 20, .inr (.inl on)))] [(a0, .inr (2, [.ref a1, .ref a3, .ref a6, .ref a8, .int cf])), (a1, .inr (0, [.ref a2, .int (nI n)])), (a2, .inl (cI, 400, .inl f)), (a3, .inr (1, [.ref a4, .ref a5, .int (nI kd), .int (nI k)])), (a4, .inl (cI, 20, .inl fs)), (a5, .inl (cL, 20, .inr (.inl fn))), (a6, .inr (0, [.ref a7, .int (nI wn)])), (a7, .inl (cI, 123, .inl wf)), (a8, .inr (1, [.ref a9, .ref a10, .int (nI od), .int (nI ok)])), (a9, .inl (cI, 20, .inl os)), (a10, .inl (cL, 20, .inr (.inl on)))] (nI k) := by
  refine fd_open_i (cc := ncF_fields) (maxL := 1) (ret := (some .int)) (by decide) rfl (Nat.le_of_ble_eq_true rfl) ?_
  intro p e s m below meth c A ls X hP hD hS hl
  obtain ⟨hx, hb, hr, hml, hown, hts0, hlocks, hK, hEV, hA⟩ := X
  have hts : ∀ w ∈ fd_TB, w.before _ s = true := fun w h => hts0 w (List.mem_cons_of_mem _ h)
  have hE := fd_EV_ok Z
  have hown : s.vm.findClass "FieldDesk" = some m.cls := hown
  have hl : lv_has ls 1 [(0, .ref a0)] := hl
  refine lv_aload_n hx hb ndF_fields_0 rfl (lv_at hl 0 rfl) ?_
  refine va_get (D := D) (ci := 2) (v := .ref a3) (C := nR_F) (T := nT_F) (N := 5) hx hb hts in_F hown hK hP 0 rfl rfl 1 (by decide) (hts _ tb_54) (fun _ h9 => h9) rfl ndF_fields_1 ?_
  refine va_getN (D := D) (ci := 1) (v := .int (nI k)) (C := nR_M) (T := nT_M) (N := 4) hx hb hts in_M hown hK hP 3 rfl rfl 3 (by decide) (fd_nw hEV nb_3) (fun _ h9 => h9) rfl ndF_fields_4 ?_
  exact fd_ret_i hx hb hr hlocks hS hP hD rfl (rfl) ndF_fields_7
set_option maxHeartbeats 4000000 in
set_option maxRecDepth 100000 in
theorem kF_sort (l : Launch) (D : va_G) (Z : Nat → Nat) (cI cL : ClassId) {a0 a1 a2 a3 a4 a5 a6 a7 a8 a9 a10 n kd k wn od ok : Nat} {f fs wf os : Nat → Int32} {fn on : Nat → Int64} {cf : Int32} (hn : n ≤ 400) (hkd : kd ≤ 15) (hk : k ≤ 20) (hwn : wn ≤ 123) (hod : od ≤ 15) (hok : ok ≤ 20) (i : Int32) : fd_Mi l D fd_cl (fd_ty cI cL) (fd_EV Z) nyF_sort (.code nyF_sort ncF_sort 2 (some .int) :: fd_TB) nmF_sort [.ref a0, .int i] [(a0, .inr (2, [.ref a1, .ref a3, .ref a6, .ref a8, .int cf])), (a1, .inr (0, [.ref a2, .int (nI n)])), (a2, .inl (cI, 400, .inl f)), (a3, .inr (1, [.ref a4, .ref a5, .int (nI kd), .int (nI k)])), (a4, .inl (cI, 20, .inl fs)), (a5, .inl (cL, 20, .inr (.inl fn))), (a6, .inr (0, [.ref a7, .int (nI wn)])), (a7, .inl (cI, 123, .inl wf)), (a8, .inr (1, [.ref a9, .ref a10, .int (nI od), .int (nI ok)])), (a9, .inl (cI, 20, .inl os)), (a10, .inl (cL, 20, .inr (.inl on)))] [(a0, .inr (2, [.ref a1, .ref a3, .ref a6, .ref a8, .int cf])), (a1, .inr (0, [.ref a2, .int (nI n)])), (a2, .inl (cI, 400, .inl f)), (a3, .inr (1, [.ref a4, .ref a5, .int (nI kd), .int (nI k)])), (a4, .inl (cI, 20, .inl fs)), (a5, .inl (cL, 20, .inr (.inl fn))), (a6, .inr (0, [.ref a7, .int (nI wn)])), (a7, .inl (cI, 123, .inl wf)), (a8, .inr (1, [.ref a9, .ref a10, .int (nI od), .int (nI ok)])), (a9, .inl (cI, 20, .inl os)), (a10, .inl (cL, 20, .inr (.inl on)))] (fd_sa k fs i) := by
  refine fd_open_i (cc := ncF_sort) (maxL := 2) (ret := (some .int)) (by decide) rfl (Nat.le_of_ble_eq_true rfl) ?_
  intro p e s m below meth c A ls X hP hD hS hl
  obtain ⟨hx, hb, hr, hml, hown, hts0, hlocks, hK, hEV, hA⟩ := X
  have hts : ∀ w ∈ fd_TB, w.before _ s = true := fun w h => hts0 w (List.mem_cons_of_mem _ h)
  have hE := fd_EV_ok Z
  have hown : s.vm.findClass "FieldDesk" = some m.cls := hown
  have hl : lv_has ls 2 [(0, .ref a0), (1, .int i)] := hl
  refine lv_aload_n hx hb ndF_sort_0 rfl (lv_at hl 0 rfl) ?_
  refine va_get (D := D) (ci := 2) (v := .ref a3) (C := nR_F) (T := nT_F) (N := 5) hx hb hts in_F hown hK hP 0 rfl rfl 1 (by decide) (hts _ tb_54) (fun _ h9 => h9) rfl ndF_sort_1 ?_
  refine lv_iload_n hx hb ndF_sort_4 rfl (lv_at hl 1 rfl) ?_
  refine fd_go_i (wr := [(a0, .inr (2, [.ref a1, .ref a3, .ref a6, .ref a8, .int cf])), (a1, .inr (0, [.ref a2, .int (nI n)])), (a2, .inl (cI, 400, .inl f)), (a6, .inr (0, [.ref a7, .int (nI wn)])), (a7, .inl (cI, 123, .inl wf)), (a8, .inr (1, [.ref a9, .ref a10, .int (nI od), .int (nI ok)])), (a9, .inl (cI, 20, .inl os)), (a10, .inl (cL, 20, .inr (.inl on)))]) (w2 := [(a0, .inr (2, [.ref a1, .ref a3, .ref a6, .ref a8, .int cf])), (a1, .inr (0, [.ref a2, .int (nI n)])), (a2, .inl (cI, 400, .inl f)), (a3, .inr (1, [.ref a4, .ref a5, .int (nI kd), .int (nI k)])), (a4, .inl (cI, 20, .inl fs)), (a5, .inl (cL, 20, .inr (.inl fn))), (a6, .inr (0, [.ref a7, .int (nI wn)])), (a7, .inl (cI, 123, .inl wf)), (a8, .inr (1, [.ref a9, .ref a10, .int (nI od), .int (nI ok)])), (a9, .inl (cI, 20, .inl os)), (a10, .inl (cL, 20, .inr (.inl on)))]) (va_runV (As := [.int i]) (rest := []) ⟨hx, hb, hml, hown, hts⟩ (kM_sortAt l D Z cI cL (kd := kd) (n := k) (fs := fs) (fn := fn) (by omega) i s.heap.size) (cwV 1 hts (fd_gV tb_196 tb_197 tb_198 tb_15 tb_199) rfl rfl rfl nhM_sortAt ⟨(Nat.le_of_ble_eq_true rfl), (Nat.le_of_ble_eq_true rfl)⟩) (fd_PreV hE hK hEV hA hP hD hS [3, 4, 5] rfl (by decide) (ci := 1) (q0 := 3) rfl rfl) rfl rfl hl.1 rfl (lv_room (Nat.le_of_ble_eq_true rfl)) ndF_sort_5 ⟨(Nat.le_of_ble_eq_true rfl), (Nat.le_of_ble_eq_true rfl)⟩) hP hD hS hA [3, 4, 5] [0, 1, 2, 6, 7, 8, 9, 10] rfl rfl (by decide) (by decide) [0, 1, 2, 8, 9, 10, 3, 4, 5, 6, 7] rfl (by decide) (fun H locs hP hD hS => ?_)
  exact fd_ret_i hx hb hr hlocks hS hP hD rfl (rfl) ndF_sort_8
set_option maxHeartbeats 4000000 in
set_option maxRecDepth 100000 in
theorem kF_number (l : Launch) (D : va_G) (Z : Nat → Nat) (cI cL : ClassId) {a0 a1 a2 a3 a4 a5 a6 a7 a8 a9 a10 n kd k wn od ok : Nat} {f fs wf os : Nat → Int32} {fn on : Nat → Int64} {cf : Int32} (hn : n ≤ 400) (hkd : kd ≤ 15) (hk : k ≤ 20) (hwn : wn ≤ 123) (hod : od ≤ 15) (hok : ok ≤ 20) (i : Int32) : fd_Ml l D fd_cl (fd_ty cI cL) (fd_EV Z) nyF_number (.code nyF_number ncF_number 2 (some .long) :: fd_TB) nmF_number [.ref a0, .int i] [(a0, .inr (2, [.ref a1, .ref a3, .ref a6, .ref a8, .int cf])), (a1, .inr (0, [.ref a2, .int (nI n)])), (a2, .inl (cI, 400, .inl f)), (a3, .inr (1, [.ref a4, .ref a5, .int (nI kd), .int (nI k)])), (a4, .inl (cI, 20, .inl fs)), (a5, .inl (cL, 20, .inr (.inl fn))), (a6, .inr (0, [.ref a7, .int (nI wn)])), (a7, .inl (cI, 123, .inl wf)), (a8, .inr (1, [.ref a9, .ref a10, .int (nI od), .int (nI ok)])), (a9, .inl (cI, 20, .inl os)), (a10, .inl (cL, 20, .inr (.inl on)))] [(a0, .inr (2, [.ref a1, .ref a3, .ref a6, .ref a8, .int cf])), (a1, .inr (0, [.ref a2, .int (nI n)])), (a2, .inl (cI, 400, .inl f)), (a3, .inr (1, [.ref a4, .ref a5, .int (nI kd), .int (nI k)])), (a4, .inl (cI, 20, .inl fs)), (a5, .inl (cL, 20, .inr (.inl fn))), (a6, .inr (0, [.ref a7, .int (nI wn)])), (a7, .inl (cI, 123, .inl wf)), (a8, .inr (1, [.ref a9, .ref a10, .int (nI od), .int (nI ok)])), (a9, .inl (cI, 20, .inl os)), (a10, .inl (cL, 20, .inr (.inl on)))] (fd_na k fn i) := by
  refine fd_open_l (cc := ncF_number) (maxL := 2) (ret := (some .long)) (by decide) rfl (Nat.le_of_ble_eq_true rfl) ?_
  intro p e s m below meth c A ls X hP hD hS hl
  obtain ⟨hx, hb, hr, hml, hown, hts0, hlocks, hK, hEV, hA⟩ := X
  have hts : ∀ w ∈ fd_TB, w.before _ s = true := fun w h => hts0 w (List.mem_cons_of_mem _ h)
  have hE := fd_EV_ok Z
  have hown : s.vm.findClass "FieldDesk" = some m.cls := hown
  have hl : lv_has ls 2 [(0, .ref a0), (1, .int i)] := hl
  refine lv_aload_n hx hb ndF_number_0 rfl (lv_at hl 0 rfl) ?_
  refine va_get (D := D) (ci := 2) (v := .ref a3) (C := nR_F) (T := nT_F) (N := 5) hx hb hts in_F hown hK hP 0 rfl rfl 1 (by decide) (hts _ tb_54) (fun _ h9 => h9) rfl ndF_number_1 ?_
  refine lv_iload_n hx hb ndF_number_4 rfl (lv_at hl 1 rfl) ?_
  refine fd_go_l (wr := [(a0, .inr (2, [.ref a1, .ref a3, .ref a6, .ref a8, .int cf])), (a1, .inr (0, [.ref a2, .int (nI n)])), (a2, .inl (cI, 400, .inl f)), (a6, .inr (0, [.ref a7, .int (nI wn)])), (a7, .inl (cI, 123, .inl wf)), (a8, .inr (1, [.ref a9, .ref a10, .int (nI od), .int (nI ok)])), (a9, .inl (cI, 20, .inl os)), (a10, .inl (cL, 20, .inr (.inl on)))]) (w2 := [(a0, .inr (2, [.ref a1, .ref a3, .ref a6, .ref a8, .int cf])), (a1, .inr (0, [.ref a2, .int (nI n)])), (a2, .inl (cI, 400, .inl f)), (a3, .inr (1, [.ref a4, .ref a5, .int (nI kd), .int (nI k)])), (a4, .inl (cI, 20, .inl fs)), (a5, .inl (cL, 20, .inr (.inl fn))), (a6, .inr (0, [.ref a7, .int (nI wn)])), (a7, .inl (cI, 123, .inl wf)), (a8, .inr (1, [.ref a9, .ref a10, .int (nI od), .int (nI ok)])), (a9, .inl (cI, 20, .inl os)), (a10, .inl (cL, 20, .inr (.inl on)))]) (va_runV (As := [.int i]) (rest := []) ⟨hx, hb, hml, hown, hts⟩ (kM_numberAt l D Z cI cL (kd := kd) (n := k) (fs := fs) (fn := fn) (by omega) i s.heap.size) (cwV 1 hts (fd_gV tb_204 tb_137 tb_138 tb_15 tb_139) rfl rfl rfl nhM_numberAt ⟨(Nat.le_of_ble_eq_true rfl), (Nat.le_of_ble_eq_true rfl)⟩) (fd_PreV hE hK hEV hA hP hD hS [3, 4, 5] rfl (by decide) (ci := 1) (q0 := 3) rfl rfl) rfl rfl hl.1 rfl (lv_room (Nat.le_of_ble_eq_true rfl)) ndF_number_5 ⟨(Nat.le_of_ble_eq_true rfl), (Nat.le_of_ble_eq_true rfl)⟩) hP hD hS hA [3, 4, 5] [0, 1, 2, 6, 7, 8, 9, 10] rfl rfl (by decide) (by decide) [0, 1, 2, 8, 9, 10, 3, 4, 5, 6, 7] rfl (by decide) (fun H locs hP hD hS => ?_)
  exact fd_ret_l hx hb hr hlocks hS hP hD (rfl) ndF_number_8
set_option maxHeartbeats 4000000 in
set_option maxRecDepth 100000 in
theorem kF_byteOf (l : Launch) (D : va_G) (Z : Nat → Nat) (cI cL : ClassId) {a0 a1 a2 a3 a4 a5 a6 a7 a8 a9 a10 n kd k wn od ok : Nat} {f fs wf os : Nat → Int32} {fn on : Nat → Int64} {cf : Int32} (hn : n ≤ 400) (hkd : kd ≤ 15) (hk : k ≤ 20) (hwn : wn ≤ 123) (hod : od ≤ 15) (hok : ok ≤ 20) (i : Int32) : fd_Mi l D fd_cl (fd_ty cI cL) (fd_EV Z) nyF_byteOf (.code nyF_byteOf ncF_byteOf 2 (some .int) :: fd_TB) nmF_byteOf [.ref a0, .int i] [(a0, .inr (2, [.ref a1, .ref a3, .ref a6, .ref a8, .int cf])), (a1, .inr (0, [.ref a2, .int (nI n)])), (a2, .inl (cI, 400, .inl f)), (a3, .inr (1, [.ref a4, .ref a5, .int (nI kd), .int (nI k)])), (a4, .inl (cI, 20, .inl fs)), (a5, .inl (cL, 20, .inr (.inl fn))), (a6, .inr (0, [.ref a7, .int (nI wn)])), (a7, .inl (cI, 123, .inl wf)), (a8, .inr (1, [.ref a9, .ref a10, .int (nI od), .int (nI ok)])), (a9, .inl (cI, 20, .inl os)), (a10, .inl (cL, 20, .inr (.inl on)))] [(a0, .inr (2, [.ref a1, .ref a3, .ref a6, .ref a8, .int cf])), (a1, .inr (0, [.ref a2, .int (nI n)])), (a2, .inl (cI, 400, .inl f)), (a3, .inr (1, [.ref a4, .ref a5, .int (nI kd), .int (nI k)])), (a4, .inl (cI, 20, .inl fs)), (a5, .inl (cL, 20, .inr (.inl fn))), (a6, .inr (0, [.ref a7, .int (nI wn)])), (a7, .inl (cI, 123, .inl wf)), (a8, .inr (1, [.ref a9, .ref a10, .int (nI od), .int (nI ok)])), (a9, .inl (cI, 20, .inl os)), (a10, .inl (cL, 20, .inr (.inl on)))] (fd_at wn wf i) := by
  refine fd_open_i (cc := ncF_byteOf) (maxL := 2) (ret := (some .int)) (by decide) rfl (Nat.le_of_ble_eq_true rfl) ?_
  intro p e s m below meth c A ls X hP hD hS hl
  obtain ⟨hx, hb, hr, hml, hown, hts0, hlocks, hK, hEV, hA⟩ := X
  have hts : ∀ w ∈ fd_TB, w.before _ s = true := fun w h => hts0 w (List.mem_cons_of_mem _ h)
  have hE := fd_EV_ok Z
  have hown : s.vm.findClass "FieldDesk" = some m.cls := hown
  have hl : lv_has ls 2 [(0, .ref a0), (1, .int i)] := hl
  refine lv_aload_n hx hb ndF_byteOf_0 rfl (lv_at hl 0 rfl) ?_
  refine va_get (D := D) (ci := 2) (v := .ref a6) (C := nR_F) (T := nT_F) (N := 5) hx hb hts in_F hown hK hP 0 rfl rfl 2 (by decide) (hts _ tb_55) (fun _ h9 => h9) rfl ndF_byteOf_1 ?_
  refine lv_iload_n hx hb ndF_byteOf_4 rfl (lv_at hl 1 rfl) ?_
  refine fd_go_i (wr := [(a0, .inr (2, [.ref a1, .ref a3, .ref a6, .ref a8, .int cf])), (a1, .inr (0, [.ref a2, .int (nI n)])), (a2, .inl (cI, 400, .inl f)), (a3, .inr (1, [.ref a4, .ref a5, .int (nI kd), .int (nI k)])), (a4, .inl (cI, 20, .inl fs)), (a5, .inl (cL, 20, .inr (.inl fn))), (a8, .inr (1, [.ref a9, .ref a10, .int (nI od), .int (nI ok)])), (a9, .inl (cI, 20, .inl os)), (a10, .inl (cL, 20, .inr (.inl on)))]) (w2 := [(a0, .inr (2, [.ref a1, .ref a3, .ref a6, .ref a8, .int cf])), (a1, .inr (0, [.ref a2, .int (nI n)])), (a2, .inl (cI, 400, .inl f)), (a3, .inr (1, [.ref a4, .ref a5, .int (nI kd), .int (nI k)])), (a4, .inl (cI, 20, .inl fs)), (a5, .inl (cL, 20, .inr (.inl fn))), (a6, .inr (0, [.ref a7, .int (nI wn)])), (a7, .inl (cI, 123, .inl wf)), (a8, .inr (1, [.ref a9, .ref a10, .int (nI od), .int (nI ok)])), (a9, .inl (cI, 20, .inl os)), (a10, .inl (cL, 20, .inr (.inl on)))]) (va_runV (As := [.int i]) (rest := []) ⟨hx, hb, hml, hown, hts⟩ (kR_at l D Z cI cL (n := wn) (f := wf) (by omega) (by omega) i s.heap.size) (cwV 1 hts (fd_gV tb_91 tb_92 tb_93 tb_14 tb_94) rfl rfl rfl nhR_at ⟨(Nat.le_of_ble_eq_true rfl), (Nat.le_of_ble_eq_true rfl)⟩) (fd_PreV hE hK hEV hA hP hD hS [6, 7] rfl (by decide) (ci := 0) (q0 := 6) rfl rfl) rfl rfl hl.1 rfl (lv_room (Nat.le_of_ble_eq_true rfl)) ndF_byteOf_5 ⟨(Nat.le_of_ble_eq_true rfl), (Nat.le_of_ble_eq_true rfl)⟩) hP hD hS hA [6, 7] [0, 1, 2, 3, 4, 5, 8, 9, 10] rfl rfl (by decide) (by decide) [0, 1, 2, 3, 4, 5, 9, 10, 6, 7, 8] rfl (by decide) (fun H locs hP hD hS => ?_)
  exact fd_ret_i hx hb hr hlocks hS hP hD rfl (rfl) ndF_byteOf_8
set_option maxHeartbeats 4000000 in
set_option maxRecDepth 100000 in
theorem kF_type_no (l : Launch) (D : va_G) (Z : Nat → Nat) (cI cL : ClassId) {a0 a1 a2 a3 a4 a5 a6 a7 a8 a9 a10 n kd k wn od ok : Nat} {f fs wf os : Nat → Int32} {fn on : Nat → Int64} {cf : Int32} (hn : n ≤ 400) (hkd : kd ≤ 15) (hk : k ≤ 20) (hwn : wn ≤ 123) (hod : od ≤ 15) (hok : ok ≤ 20) (v : Int64) (q : Int32) (hno : q < 1 ∨ 8 < q ∨ nI (400 - n) < q) : fd_Mi l D fd_cl (fd_ty cI cL) (fd_EV Z) nyF_type (.code nyF_type ncF_type 5 (some .boolean) :: fd_TB) nmF_type [.ref a0, .long v, .int q] [(a0, .inr (2, [.ref a1, .ref a3, .ref a6, .ref a8, .int cf])), (a1, .inr (0, [.ref a2, .int (nI n)])), (a2, .inl (cI, 400, .inl f)), (a3, .inr (1, [.ref a4, .ref a5, .int (nI kd), .int (nI k)])), (a4, .inl (cI, 20, .inl fs)), (a5, .inl (cL, 20, .inr (.inl fn))), (a6, .inr (0, [.ref a7, .int (nI wn)])), (a7, .inl (cI, 123, .inl wf)), (a8, .inr (1, [.ref a9, .ref a10, .int (nI od), .int (nI ok)])), (a9, .inl (cI, 20, .inl os)), (a10, .inl (cL, 20, .inr (.inl on)))] [(a0, .inr (2, [.ref a1, .ref a3, .ref a6, .ref a8, .int cf])), (a1, .inr (0, [.ref a2, .int (nI n)])), (a2, .inl (cI, 400, .inl f)), (a3, .inr (1, [.ref a4, .ref a5, .int (nI kd), .int (nI k)])), (a4, .inl (cI, 20, .inl fs)), (a5, .inl (cL, 20, .inr (.inl fn))), (a6, .inr (0, [.ref a7, .int (nI wn)])), (a7, .inl (cI, 123, .inl wf)), (a8, .inr (1, [.ref a9, .ref a10, .int (nI od), .int (nI ok)])), (a9, .inl (cI, 20, .inl os)), (a10, .inl (cL, 20, .inr (.inl on)))] 0 := by
  refine fd_open_i (cc := ncF_type) (maxL := 5) (ret := (some .boolean)) (by decide) rfl (Nat.le_of_ble_eq_true rfl) ?_
  intro p e s m below meth c A ls X hP hD hS hl
  obtain ⟨hx, hb, hr, hml, hown, hts0, hlocks, hK, hEV, hA⟩ := X
  have hts : ∀ w ∈ fd_TB, w.before _ s = true := fun w h => hts0 w (List.mem_cons_of_mem _ h)
  have hE := fd_EV_ok Z
  have hown : s.vm.findClass "FieldDesk" = some m.cls := hown
  have hl : lv_has ls 5 [(0, .ref a0), (1, .long v), (3, .int q)] := hl
  refine lv_iload_n hx hb ndF_type_0 rfl (lv_at hl 2 rfl) ?_
  refine lv_iconst (v := 1) hx hb ndF_type_1 (by decide) ?_
  refine lv_icmp_lt (tgt := 22) hx hb ndF_type_2 (by decide) (fun c_2 => ?_) (fun c_2 => ?_)
  · refine lv_iconst (v := 0) hx hb ndF_type_22 (by decide) ?_
    exact fd_ret_i hx hb hr hlocks hS hP hD rfl (rfl) ndF_type_23
  · refine lv_iload_n hx hb ndF_type_5 rfl (lv_at hl 2 rfl) ?_
    refine lv_bipush (v := 8) hx hb ndF_type_6 (by decide) ?_
    refine lv_icmp_gt (tgt := 22) hx hb ndF_type_8 (by decide) (fun c_8 => ?_) (fun c_8 => ?_)
    · refine lv_iconst (v := 0) hx hb ndF_type_22 (by decide) ?_
      exact fd_ret_i hx hb hr hlocks hS hP hD rfl (rfl) ndF_type_23
    · refine lv_aload_n hx hb ndF_type_11 rfl (lv_at hl 0 rfl) ?_
      refine va_get (D := D) (ci := 2) (v := .ref a1) (C := nR_F) (T := nT_F) (N := 5) hx hb hts in_F hown hK hP 0 rfl rfl 0 (by decide) (hts _ tb_53) (fun _ h9 => h9) rfl ndF_type_12 ?_
      refine lv_iload_n hx hb ndF_type_15 rfl (lv_at hl 2 rfl) ?_
      refine fd_go_i (wr := [(a0, .inr (2, [.ref a1, .ref a3, .ref a6, .ref a8, .int cf])), (a3, .inr (1, [.ref a4, .ref a5, .int (nI kd), .int (nI k)])), (a4, .inl (cI, 20, .inl fs)), (a5, .inl (cL, 20, .inr (.inl fn))), (a6, .inr (0, [.ref a7, .int (nI wn)])), (a7, .inl (cI, 123, .inl wf)), (a8, .inr (1, [.ref a9, .ref a10, .int (nI od), .int (nI ok)])), (a9, .inl (cI, 20, .inl os)), (a10, .inl (cL, 20, .inr (.inl on)))]) (w2 := [(a0, .inr (2, [.ref a1, .ref a3, .ref a6, .ref a8, .int cf])), (a1, .inr (0, [.ref a2, .int (nI n)])), (a2, .inl (cI, 400, .inl f)), (a3, .inr (1, [.ref a4, .ref a5, .int (nI kd), .int (nI k)])), (a4, .inl (cI, 20, .inl fs)), (a5, .inl (cL, 20, .inr (.inl fn))), (a6, .inr (0, [.ref a7, .int (nI wn)])), (a7, .inl (cI, 123, .inl wf)), (a8, .inr (1, [.ref a9, .ref a10, .int (nI od), .int (nI ok)])), (a9, .inl (cI, 20, .inl os)), (a10, .inl (cL, 20, .inr (.inl on)))]) (va_runV (As := [.int q]) (rest := []) ⟨hx, hb, hml, hown, hts⟩ (kR_hasRoomFor l D Z cI cL (n := n) (f := f) (by omega) (by omega) q s.heap.size) (cwV 1 hts (fd_gV tb_67 tb_68 tb_69 tb_14 tb_70) rfl rfl rfl nhR_hasRoomFor ⟨(Nat.le_of_ble_eq_true rfl), (Nat.le_of_ble_eq_true rfl)⟩) (fd_PreV hE hK hEV hA hP hD hS [1, 2] rfl (by decide) (ci := 0) (q0 := 1) rfl rfl) rfl rfl hl.1 rfl (lv_room (Nat.le_of_ble_eq_true rfl)) ndF_type_16 ⟨(Nat.le_of_ble_eq_true rfl), (Nat.le_of_ble_eq_true rfl)⟩) hP hD hS hA [1, 2] [0, 3, 4, 5, 6, 7, 8, 9, 10] rfl rfl (by decide) (by decide) [0, 9, 10, 1, 2, 3, 4, 5, 6, 7, 8] rfl (by decide) (fun H locs hP hD hS => ?_)
      refine fd_asi (y := 0) (if_pos (hno.elim (fun h => absurd h c_2) (fun h => h.elim (fun h => absurd h c_8) id))) ?_
      refine lv_if_ne (tgt := 24) hx hb ndF_type_19 (by decide) (fun c_19 => absurd (by decide) c_19) (fun _ => ?_)
      refine lv_iconst (v := 0) hx hb ndF_type_22 (by decide) ?_
      exact fd_ret_i hx hb hr hlocks hS hP hD rfl (rfl) ndF_type_23
set_option maxHeartbeats 4000000 in
set_option maxRecDepth 100000 in
theorem kF_type_yes (l : Launch) (D : va_G) (Z : Nat → Nat) (cI cL : ClassId) {a0 a1 a2 a3 a4 a5 a6 a7 a8 a9 a10 n kd k wn od ok : Nat} {f fs wf os : Nat → Int32} {fn on : Nat → Int64} {cf : Int32} (hn : n ≤ 400) (hkd : kd ≤ 15) (hk : k ≤ 20) (hwn : wn ≤ 123) (hod : od ≤ 15) (hok : ok ≤ 20) (v : Int64) {j : Nat} (h1 : 1 ≤ j) (h8 : j ≤ 8) (hj : n + j ≤ 400) : fd_Mi l D fd_cl (fd_ty cI cL) (fd_EV Z) nyF_type (.code nyF_type ncF_type 5 (some .boolean) :: fd_TB) nmF_type [.ref a0, .long v, .int (nI j)] [(a0, .inr (2, [.ref a1, .ref a3, .ref a6, .ref a8, .int cf])), (a1, .inr (0, [.ref a2, .int (nI n)])), (a2, .inl (cI, 400, .inl f)), (a3, .inr (1, [.ref a4, .ref a5, .int (nI kd), .int (nI k)])), (a4, .inl (cI, 20, .inl fs)), (a5, .inl (cL, 20, .inr (.inl fn))), (a6, .inr (0, [.ref a7, .int (nI wn)])), (a7, .inl (cI, 123, .inl wf)), (a8, .inr (1, [.ref a9, .ref a10, .int (nI od), .int (nI ok)])), (a9, .inl (cI, 20, .inl os)), (a10, .inl (cL, 20, .inr (.inl on)))] [(a0, .inr (2, [.ref a1, .ref a3, .ref a6, .ref a8, .int cf])), (a1, .inr (0, [.ref a2, .int (nI (n + j))])), (a2, .inl (cI, 400, .inl (fd_tyf v j f n))), (a3, .inr (1, [.ref a4, .ref a5, .int (nI kd), .int (nI k)])), (a4, .inl (cI, 20, .inl fs)), (a5, .inl (cL, 20, .inr (.inl fn))), (a6, .inr (0, [.ref a7, .int (nI wn)])), (a7, .inl (cI, 123, .inl wf)), (a8, .inr (1, [.ref a9, .ref a10, .int (nI od), .int (nI ok)])), (a9, .inl (cI, 20, .inl os)), (a10, .inl (cL, 20, .inr (.inl on)))] 1 := by
  refine fd_open_i (cc := ncF_type) (maxL := 5) (ret := (some .boolean)) (by decide) rfl (Nat.le_of_ble_eq_true rfl) ?_
  intro p e s m below meth c A ls X hP hD hS hl
  obtain ⟨hx, hb, hr, hml, hown, hts0, hlocks, hK, hEV, hA⟩ := X
  have hts : ∀ w ∈ fd_TB, w.before _ s = true := fun w h => hts0 w (List.mem_cons_of_mem _ h)
  have hE := fd_EV_ok Z
  have hown : s.vm.findClass "FieldDesk" = some m.cls := hown
  have hl : lv_has ls 5 [(0, .ref a0), (1, .long v), (3, .int (nI j))] := hl
  refine lv_iload_n hx hb ndF_type_0 rfl (lv_at hl 2 rfl) ?_
  refine lv_iconst (v := 1) hx hb ndF_type_1 (by decide) ?_
  refine lv_icmp_lt (tgt := 22) hx hb ndF_type_2 (by decide) (fun c_2 => absurd c_2 (fun h9 => absurd ((nI_ltI (a := j) (b := 1) (by omega) (by omega)).mp h9) (by omega))) (fun _ => ?_)
  refine lv_iload_n hx hb ndF_type_5 rfl (lv_at hl 2 rfl) ?_
  refine lv_bipush (v := 8) hx hb ndF_type_6 (by decide) ?_
  refine lv_icmp_gt (tgt := 22) hx hb ndF_type_8 (by decide) (fun c_8 => absurd c_8 (fun h9 => absurd ((nI_ltI (a := 8) (b := j) (by omega) (by omega)).mp h9) (by omega))) (fun _ => ?_)
  refine lv_aload_n hx hb ndF_type_11 rfl (lv_at hl 0 rfl) ?_
  refine va_get (D := D) (ci := 2) (v := .ref a1) (C := nR_F) (T := nT_F) (N := 5) hx hb hts in_F hown hK hP 0 rfl rfl 0 (by decide) (hts _ tb_53) (fun _ h9 => h9) rfl ndF_type_12 ?_
  refine lv_iload_n hx hb ndF_type_15 rfl (lv_at hl 2 rfl) ?_
  refine fd_go_i (wr := [(a0, .inr (2, [.ref a1, .ref a3, .ref a6, .ref a8, .int cf])), (a3, .inr (1, [.ref a4, .ref a5, .int (nI kd), .int (nI k)])), (a4, .inl (cI, 20, .inl fs)), (a5, .inl (cL, 20, .inr (.inl fn))), (a6, .inr (0, [.ref a7, .int (nI wn)])), (a7, .inl (cI, 123, .inl wf)), (a8, .inr (1, [.ref a9, .ref a10, .int (nI od), .int (nI ok)])), (a9, .inl (cI, 20, .inl os)), (a10, .inl (cL, 20, .inr (.inl on)))]) (w2 := [(a0, .inr (2, [.ref a1, .ref a3, .ref a6, .ref a8, .int cf])), (a1, .inr (0, [.ref a2, .int (nI n)])), (a2, .inl (cI, 400, .inl f)), (a3, .inr (1, [.ref a4, .ref a5, .int (nI kd), .int (nI k)])), (a4, .inl (cI, 20, .inl fs)), (a5, .inl (cL, 20, .inr (.inl fn))), (a6, .inr (0, [.ref a7, .int (nI wn)])), (a7, .inl (cI, 123, .inl wf)), (a8, .inr (1, [.ref a9, .ref a10, .int (nI od), .int (nI ok)])), (a9, .inl (cI, 20, .inl os)), (a10, .inl (cL, 20, .inr (.inl on)))]) (va_runV (As := [.int (nI j)]) (rest := []) ⟨hx, hb, hml, hown, hts⟩ (kR_hasRoomFor l D Z cI cL (n := n) (f := f) (by omega) (by omega) (nI j) s.heap.size) (cwV 1 hts (fd_gV tb_67 tb_68 tb_69 tb_14 tb_70) rfl rfl rfl nhR_hasRoomFor ⟨(Nat.le_of_ble_eq_true rfl), (Nat.le_of_ble_eq_true rfl)⟩) (fd_PreV hE hK hEV hA hP hD hS [1, 2] rfl (by decide) (ci := 0) (q0 := 1) rfl rfl) rfl rfl hl.1 rfl (lv_room (Nat.le_of_ble_eq_true rfl)) ndF_type_16 ⟨(Nat.le_of_ble_eq_true rfl), (Nat.le_of_ble_eq_true rfl)⟩) hP hD hS hA [1, 2] [0, 3, 4, 5, 6, 7, 8, 9, 10] rfl rfl (by decide) (by decide) [0, 9, 10, 1, 2, 3, 4, 5, 6, 7, 8] rfl (by decide) (fun H locs hP hD hS => ?_)
  refine fd_asi (y := 1) (if_neg (nI_nlt (by omega) (by omega))) ?_
  refine lv_if_ne (tgt := 24) hx hb ndF_type_19 (by decide) (fun _ => ?_) (fun c_19 => absurd c_19 (by decide))
  refine lv_iload_n hx hb ndF_type_24 rfl (lv_at hl 2 rfl) ?_
  refine lv_iconst (v := 1) hx hb ndF_type_25 (by decide) ?_
  refine lv_isub hx hb ndF_type_26 ?_
  refine lv_istore (lv' := [(4, .int ((nI j) - 1)), (0, .ref a0), (1, .long v), (3, .int (nI j))]) hx hb ndF_type_27 hl (by decide) rfl (fun ls hl => ?_)
  have loop : ∀ (z : Nat) (n1 : Nat) (f1 : Nat → Int32) (hm : n1 + z = n + j) (hf : fd_tyf v z f1 n1 = fd_tyf v j f n) (H : Heap) (locs : List Loc) (ls : Array Slot), va_P D fd_cl [(a0, .inr (2, [.ref a1, .ref a3, .ref a6, .ref a8, .int cf])), (a1, .inr (0, [.ref a2, .int (nI n1)])), (a2, .inl (cI, 400, .inl f1)), (a3, .inr (1, [.ref a4, .ref a5, .int (nI kd), .int (nI k)])), (a4, .inl (cI, 20, .inl fs)), (a5, .inl (cL, 20, .inr (.inl fn))), (a6, .inr (0, [.ref a7, .int (nI wn)])), (a7, .inl (cI, 123, .inl wf)), (a8, .inr (1, [.ref a9, .ref a10, .int (nI od), .int (nI ok)])), (a9, .inl (cI, 20, .inl os)), (a10, .inl (cL, 20, .inr (.inl on)))] H → va_D A [(a0, .inr (2, [.ref a1, .ref a3, .ref a6, .ref a8, .int cf])), (a1, .inr (0, [.ref a2, .int (nI n1)])), (a2, .inl (cI, 400, .inl f1)), (a3, .inr (1, [.ref a4, .ref a5, .int (nI kd), .int (nI k)])), (a4, .inl (cI, 20, .inl fs)), (a5, .inl (cL, 20, .inr (.inl fn))), (a6, .inr (0, [.ref a7, .int (nI wn)])), (a7, .inl (cI, 123, .inl wf)), (a8, .inr (1, [.ref a9, .ref a10, .int (nI od), .int (nI ok)])), (a9, .inl (cI, 20, .inl os)), (a10, .inl (cL, 20, .inr (.inl on)))] → va_S A s.heap H locs → lv_has ls 5 [(0, .ref a0), (1, .long v), (4, .int (nI z - 1))] → W p l e nmF_type s m ([.ref a0, .long v, .int (nI j)].toArray) below meth c H locs 0 0 (MQ below (va_Qi (fun r' (_ : Unit) => r' = 1) (fd_B D fd_cl A [(a0, .inr (2, [.ref a1, .ref a3, .ref a6, .ref a8, .int cf])), (a1, .inr (0, [.ref a2, .int (nI (n + j))])), (a2, .inl (cI, 400, .inl (fd_tyf v j f n))), (a3, .inr (1, [.ref a4, .ref a5, .int (nI kd), .int (nI k)])), (a4, .inl (cI, 20, .inl fs)), (a5, .inl (cL, 20, .inr (.inl fn))), (a6, .inr (0, [.ref a7, .int (nI wn)])), (a7, .inl (cI, 123, .inl wf)), (a8, .inr (1, [.ref a9, .ref a10, .int (nI od), .int (nI ok)])), (a9, .inl (cI, 20, .inl os)), (a10, .inl (cL, 20, .inr (.inl on)))]) A) [.ref a0, .long v, .int (nI j)].toArray s 0 0 A) (F0 m 29 ls []) := by
    intro z
    induction z with
    | zero =>
      intro n1 f1 hm hf H locs ls hP hD hS hl
      obtain rfl : n1 = n + j := by omega
      obtain rfl : f1 = fd_tyf v j f n := hf
      refine lv_iload hx hb ndF_type_29 (lv_at hl 2 rfl) ?_
      refine lv_if_lt (tgt := 59) hx hb ndF_type_31 (by decide) (fun _ => ?_) (fun c_31 => absurd (by decide) c_31)
      refine lv_iconst (v := 1) hx hb ndF_type_59 (by decide) ?_
      exact fd_ret_i hx hb hr hlocks hS hP hD rfl (rfl) ndF_type_60
    | succ z ih =>
      intro n1 f1 hm hf H locs ls hP hD hS hl
      rw [nI_pred] at hl
      refine lv_iload hx hb ndF_type_29 (lv_at hl 2 rfl) ?_
      refine lv_if_lt (tgt := 59) hx hb ndF_type_31 (by decide) (fun c_31 => absurd c_31 (fun h9 => absurd ((nI_ltI (a := z) (b := 0) (by omega) (by omega)).mp h9) (by omega))) (fun _ => ?_)
      refine lv_aload_n hx hb ndF_type_34 rfl (lv_at hl 0 rfl) ?_
      refine va_get (D := D) (ci := 2) (v := .ref a1) (C := nR_F) (T := nT_F) (N := 5) hx hb hts in_F hown hK hP 0 rfl rfl 0 (by decide) (hts _ tb_53) (fun _ h9 => h9) rfl ndF_type_35 ?_
      refine lv_lload_n hx hb ndF_type_38 rfl (lv_at hl 1 rfl) ?_
      refine lv_bipush (v := 8) hx hb ndF_type_39 (by decide) ?_
      refine lv_iload hx hb ndF_type_41 (lv_at hl 2 rfl) ?_
      refine lv_imul hx hb ndF_type_43 ?_
      refine lv_lushr hx hb ndF_type_44 rfl ?_
      refine lv_l2i hx hb ndF_type_45 rfl ?_
      refine lv_sipush (v := 255) hx hb ndF_type_46 (by decide) ?_
      refine lv_iand hx hb ndF_type_49 ?_
      refine fd_asi (y := fd_byte v z) rfl ?_
      refine fd_go_v (wr := [(a0, .inr (2, [.ref a1, .ref a3, .ref a6, .ref a8, .int cf])), (a3, .inr (1, [.ref a4, .ref a5, .int (nI kd), .int (nI k)])), (a4, .inl (cI, 20, .inl fs)), (a5, .inl (cL, 20, .inr (.inl fn))), (a6, .inr (0, [.ref a7, .int (nI wn)])), (a7, .inl (cI, 123, .inl wf)), (a8, .inr (1, [.ref a9, .ref a10, .int (nI od), .int (nI ok)])), (a9, .inl (cI, 20, .inl os)), (a10, .inl (cL, 20, .inr (.inl on)))]) (w2 := [(a0, .inr (2, [.ref a1, .ref a3, .ref a6, .ref a8, .int cf])), (a1, .inr (0, [.ref a2, .int (nI (n1 + 1))])), (a2, .inl (cI, 400, .inl (upd f1 n1 (fd_byte v z)))), (a3, .inr (1, [.ref a4, .ref a5, .int (nI kd), .int (nI k)])), (a4, .inl (cI, 20, .inl fs)), (a5, .inl (cL, 20, .inr (.inl fn))), (a6, .inr (0, [.ref a7, .int (nI wn)])), (a7, .inl (cI, 123, .inl wf)), (a8, .inr (1, [.ref a9, .ref a10, .int (nI od), .int (nI ok)])), (a9, .inl (cI, 20, .inl os)), (a10, .inl (cL, 20, .inr (.inl on)))]) (va_runV (As := [.int (fd_byte v z)]) (rest := []) ⟨hx, hb, hml, hown, hts⟩ (kR_append l D Z cI cL (n := n1) (f := f1) (by omega) (by omega) (fd_byte v z) H.size) (cwV 1 hts (fd_gV tb_71 tb_72 tb_73 tb_14 tb_74) rfl rfl rfl nhR_append ⟨(Nat.le_of_ble_eq_true rfl), (Nat.le_of_ble_eq_true rfl)⟩) (fd_PreV hE hK hEV hA hP hD hS [1, 2] rfl (by decide) (ci := 0) (q0 := 1) rfl rfl) rfl rfl hl.1 rfl (lv_room (Nat.le_of_ble_eq_true rfl)) ndF_type_50 ⟨(Nat.le_of_ble_eq_true rfl), (Nat.le_of_ble_eq_true rfl)⟩) hP hD hS hA [1, 2] [0, 3, 4, 5, 6, 7, 8, 9, 10] rfl rfl (by decide) (by decide) [0, 9, 10, 1, 2, 3, 4, 5, 6, 7, 8] rfl (by decide) (fun H locs hP hD hS => ?_)
      refine lv_iinc (v := nI z - 1) (lv' := [(4, .int (nI z - 1)), (0, .ref a0), (1, .long v)]) hx hb ndF_type_53 hl (k := 2) rfl (fd_dec _) (by decide) rfl (fun ls hl => ?_)
      refine lv_goto (tgt := 29) hx hb ndF_type_56 (by decide) ?_
      exact ih _ _ (by omega) hf _ _ _ hP hD hS (lv_sub hl [1, 2, 0] rfl)
  exact loop j n f rfl rfl _ _ _ hP hD hS (lv_sub hl [1, 2, 0] rfl)
set_option maxHeartbeats 4000000 in
set_option maxRecDepth 100000 in
theorem kF_begin_no (l : Launch) (D : va_G) (Z : Nat → Nat) (cI cL : ClassId) {a0 a1 a2 a3 a4 a5 a6 a7 a8 a9 a10 n kd k wn od ok : Nat} {f fs wf os : Nat → Int32} {fn on : Nat → Int64} {cf : Int32} (hn : n ≤ 400) (hkd : kd ≤ 15) (hk : k ≤ 20) (hwn : wn ≤ 123) (hod : od ≤ 15) (hok : ok ≤ 20) (q : Int32) (hno : q < 1 ∨ 15 < q) : fd_Mi l D fd_cl (fd_ty cI cL) (fd_EV Z) nyF_begin (.code nyF_begin ncF_begin 3 (some .boolean) :: fd_TB) nmF_begin [.ref a0, .int q] [(a0, .inr (2, [.ref a1, .ref a3, .ref a6, .ref a8, .int cf])), (a1, .inr (0, [.ref a2, .int (nI n)])), (a2, .inl (cI, 400, .inl f)), (a3, .inr (1, [.ref a4, .ref a5, .int (nI kd), .int (nI k)])), (a4, .inl (cI, 20, .inl fs)), (a5, .inl (cL, 20, .inr (.inl fn))), (a6, .inr (0, [.ref a7, .int (nI wn)])), (a7, .inl (cI, 123, .inl wf)), (a8, .inr (1, [.ref a9, .ref a10, .int (nI od), .int (nI ok)])), (a9, .inl (cI, 20, .inl os)), (a10, .inl (cL, 20, .inr (.inl on)))] [(a0, .inr (2, [.ref a1, .ref a3, .ref a6, .ref a8, .int cf])), (a1, .inr (0, [.ref a2, .int (nI n)])), (a2, .inl (cI, 400, .inl f)), (a3, .inr (1, [.ref a4, .ref a5, .int (nI kd), .int (nI k)])), (a4, .inl (cI, 20, .inl fs)), (a5, .inl (cL, 20, .inr (.inl fn))), (a6, .inr (0, [.ref a7, .int (nI wn)])), (a7, .inl (cI, 123, .inl wf)), (a8, .inr (1, [.ref a9, .ref a10, .int (nI od), .int (nI ok)])), (a9, .inl (cI, 20, .inl os)), (a10, .inl (cL, 20, .inr (.inl on)))] 0 := by
  refine fd_open_i (cc := ncF_begin) (maxL := 3) (ret := (some .boolean)) (by decide) rfl (Nat.le_of_ble_eq_true rfl) ?_
  intro p e s m below meth c A ls X hP hD hS hl
  obtain ⟨hx, hb, hr, hml, hown, hts0, hlocks, hK, hEV, hA⟩ := X
  have hts : ∀ w ∈ fd_TB, w.before _ s = true := fun w h => hts0 w (List.mem_cons_of_mem _ h)
  have hE := fd_EV_ok Z
  have hown : s.vm.findClass "FieldDesk" = some m.cls := hown
  have hl : lv_has ls 3 [(0, .ref a0), (1, .int q)] := hl
  refine lv_iload_n hx hb ndF_begin_0 rfl (lv_at hl 1 rfl) ?_
  refine lv_iconst (v := 1) hx hb ndF_begin_1 (by decide) ?_
  refine lv_icmp_lt (tgt := 11) hx hb ndF_begin_2 (by decide) (fun c_2 => ?_) (fun c_2 => ?_)
  · refine lv_iconst (v := 0) hx hb ndF_begin_11 (by decide) ?_
    exact fd_ret_i hx hb hr hlocks hS hP hD rfl (rfl) ndF_begin_12
  · refine lv_iload_n hx hb ndF_begin_5 rfl (lv_at hl 1 rfl) ?_
    refine lv_bipush (v := 15) hx hb ndF_begin_6 (by decide) ?_
    refine lv_icmp_le (tgt := 13) hx hb ndF_begin_8 (by decide) (fun c_8 => absurd c_8 (fun h9 => hno.elim (fun h => absurd h c_2) (fun h => absurd h9 (Int32.not_le.mpr h)))) (fun _ => ?_)
    refine lv_iconst (v := 0) hx hb ndF_begin_11 (by decide) ?_
    exact fd_ret_i hx hb hr hlocks hS hP hD rfl (rfl) ndF_begin_12
set_option maxHeartbeats 4000000 in
set_option maxRecDepth 100000 in
theorem kF_begin_yes (l : Launch) (D : va_G) (Z : Nat → Nat) (cI cL : ClassId) {a0 a1 a2 a3 a4 a5 a6 a7 a8 a9 a10 n kd k wn od ok : Nat} {f fs wf os : Nat → Int32} {fn on : Nat → Int64} {cf : Int32} (hn : n ≤ 400) (hkd : kd ≤ 15) (hk : k ≤ 20) (hwn : wn ≤ 123) (hod : od ≤ 15) (hok : ok ≤ 20) {q : Nat} (h1 : 1 ≤ q) (h15 : q ≤ 15) : fd_Mi l D fd_cl (fd_ty cI cL) (fd_EV Z) nyF_begin (.code nyF_begin ncF_begin 3 (some .boolean) :: fd_TB) nmF_begin [.ref a0, .int (nI q)] [(a0, .inr (2, [.ref a1, .ref a3, .ref a6, .ref a8, .int cf])), (a1, .inr (0, [.ref a2, .int (nI n)])), (a2, .inl (cI, 400, .inl f)), (a3, .inr (1, [.ref a4, .ref a5, .int (nI kd), .int (nI k)])), (a4, .inl (cI, 20, .inl fs)), (a5, .inl (cL, 20, .inr (.inl fn))), (a6, .inr (0, [.ref a7, .int (nI wn)])), (a7, .inl (cI, 123, .inl wf)), (a8, .inr (1, [.ref a9, .ref a10, .int (nI od), .int (nI ok)])), (a9, .inl (cI, 20, .inl os)), (a10, .inl (cL, 20, .inr (.inl on)))] [(a0, .inr (2, [.ref a1, .ref a3, .ref a6, .ref a8, .int 0])), (a1, .inr (0, [.ref a2, .int (nI n)])), (a2, .inl (cI, 400, .inl f)), (a3, .inr (1, [.ref a4, .ref a5, .int (nI kd), .int (nI k)])), (a4, .inl (cI, 20, .inl fs)), (a5, .inl (cL, 20, .inr (.inl fn))), (a6, .inr (0, [.ref a7, .int (nI 3)])), (a7, .inl (cI, 123, .inl (fd_bw wf q))), (a8, .inr (1, [.ref a9, .ref a10, .int (nI q), .int (nI 0)])), (a9, .inl (cI, 20, .inl os)), (a10, .inl (cL, 20, .inr (.inl on)))] 1 := by
  refine fd_open_i (cc := ncF_begin) (maxL := 3) (ret := (some .boolean)) (by decide) rfl (Nat.le_of_ble_eq_true rfl) ?_
  intro p e s m below meth c A ls X hP hD hS hl
  obtain ⟨hx, hb, hr, hml, hown, hts0, hlocks, hK, hEV, hA⟩ := X
  have hts : ∀ w ∈ fd_TB, w.before _ s = true := fun w h => hts0 w (List.mem_cons_of_mem _ h)
  have hE := fd_EV_ok Z
  have hown : s.vm.findClass "FieldDesk" = some m.cls := hown
  have hl : lv_has ls 3 [(0, .ref a0), (1, .int (nI q))] := hl
  refine lv_iload_n hx hb ndF_begin_0 rfl (lv_at hl 1 rfl) ?_
  refine lv_iconst (v := 1) hx hb ndF_begin_1 (by decide) ?_
  refine lv_icmp_lt (tgt := 11) hx hb ndF_begin_2 (by decide) (fun c_2 => absurd c_2 (fun h9 => absurd ((nI_ltI (a := q) (b := 1) (by omega) (by omega)).mp h9) (by omega))) (fun _ => ?_)
  refine lv_iload_n hx hb ndF_begin_5 rfl (lv_at hl 1 rfl) ?_
  refine lv_bipush (v := 15) hx hb ndF_begin_6 (by decide) ?_
  refine lv_icmp_le (tgt := 13) hx hb ndF_begin_8 (by decide) (fun _ => ?_) (fun c_8 => absurd ((nI_leI (a := q) (b := 15) (by omega) (by omega)).mpr (by omega)) c_8)
  refine lv_aload_n hx hb ndF_begin_13 rfl (lv_at hl 0 rfl) ?_
  refine va_get (D := D) (ci := 2) (v := .ref a8) (C := nR_F) (T := nT_F) (N := 5) hx hb hts in_F hown hK hP 0 rfl rfl 3 (by decide) (hts _ tb_56) (fun _ h9 => h9) rfl ndF_begin_14 ?_
  refine lv_iload_n hx hb ndF_begin_17 rfl (lv_at hl 1 rfl) ?_
  refine fd_go_v (wr := [(a0, .inr (2, [.ref a1, .ref a3, .ref a6, .ref a8, .int cf])), (a1, .inr (0, [.ref a2, .int (nI n)])), (a2, .inl (cI, 400, .inl f)), (a3, .inr (1, [.ref a4, .ref a5, .int (nI kd), .int (nI k)])), (a4, .inl (cI, 20, .inl fs)), (a5, .inl (cL, 20, .inr (.inl fn))), (a6, .inr (0, [.ref a7, .int (nI wn)])), (a7, .inl (cI, 123, .inl wf))]) (w2 := [(a0, .inr (2, [.ref a1, .ref a3, .ref a6, .ref a8, .int cf])), (a1, .inr (0, [.ref a2, .int (nI n)])), (a2, .inl (cI, 400, .inl f)), (a3, .inr (1, [.ref a4, .ref a5, .int (nI kd), .int (nI k)])), (a4, .inl (cI, 20, .inl fs)), (a5, .inl (cL, 20, .inr (.inl fn))), (a6, .inr (0, [.ref a7, .int (nI wn)])), (a7, .inl (cI, 123, .inl wf)), (a8, .inr (1, [.ref a9, .ref a10, .int (nI q), .int (nI 0)])), (a9, .inl (cI, 20, .inl os)), (a10, .inl (cL, 20, .inr (.inl on)))]) (va_runV (As := [.int (nI q)]) (rest := []) ⟨hx, hb, hml, hown, hts⟩ (kM_start l D Z cI cL (kd := od) (n := ok) (fs := os) (fn := on) (k := q) s.heap.size) (cwV 1 hts (fd_gV tb_125 tb_126 tb_127 tb_15 tb_128) rfl rfl rfl nhM_start ⟨(Nat.le_of_ble_eq_true rfl), (Nat.le_of_ble_eq_true rfl)⟩) (fd_PreV hE hK hEV hA hP hD hS [8, 9, 10] rfl (by decide) (ci := 1) (q0 := 8) rfl rfl) rfl rfl hl.1 rfl (lv_room (Nat.le_of_ble_eq_true rfl)) ndF_begin_18 ⟨(Nat.le_of_ble_eq_true rfl), (Nat.le_of_ble_eq_true rfl)⟩) hP hD hS hA [8, 9, 10] [0, 1, 2, 3, 4, 5, 6, 7] rfl rfl (by decide) (by decide) [0, 1, 2, 3, 4, 5, 6, 7, 8, 9, 10] rfl (by decide) (fun H locs hP hD hS => ?_)
  refine lv_aload_n hx hb ndF_begin_21 rfl (lv_at hl 0 rfl) ?_
  refine lv_iconst (v := 0) hx hb ndF_begin_22 (by decide) ?_
  refine va_put (D := D) (ci := 2) (v := .int 0) (ty := (.boolean)) (C := nR_F) (T := nT_F) (N := 5) hx hb hts in_F nt_F nt_F_ok nn_F hown hK hP hD hS 0 rfl rfl 4 (by decide) (hts _ tb_57) (fun _ h9 => h9) rfl (by decide +kernel) rfl rfl (Nat.le_of_ble_eq_true rfl) ndF_begin_23 (fun H locs hP hD hS => ?_)
  have hP : va_P D fd_cl [(a0, .inr (2, [.ref a1, .ref a3, .ref a6, .ref a8, .int 0])), (a1, .inr (0, [.ref a2, .int (nI n)])), (a2, .inl (cI, 400, .inl f)), (a3, .inr (1, [.ref a4, .ref a5, .int (nI kd), .int (nI k)])), (a4, .inl (cI, 20, .inl fs)), (a5, .inl (cL, 20, .inr (.inl fn))), (a6, .inr (0, [.ref a7, .int (nI wn)])), (a7, .inl (cI, 123, .inl wf)), (a8, .inr (1, [.ref a9, .ref a10, .int (nI q), .int (nI 0)])), (a9, .inl (cI, 20, .inl os)), (a10, .inl (cL, 20, .inr (.inl on)))] H := hP
  have hD : va_D A [(a0, .inr (2, [.ref a1, .ref a3, .ref a6, .ref a8, .int 0])), (a1, .inr (0, [.ref a2, .int (nI n)])), (a2, .inl (cI, 400, .inl f)), (a3, .inr (1, [.ref a4, .ref a5, .int (nI kd), .int (nI k)])), (a4, .inl (cI, 20, .inl fs)), (a5, .inl (cL, 20, .inr (.inl fn))), (a6, .inr (0, [.ref a7, .int (nI wn)])), (a7, .inl (cI, 123, .inl wf)), (a8, .inr (1, [.ref a9, .ref a10, .int (nI q), .int (nI 0)])), (a9, .inl (cI, 20, .inl os)), (a10, .inl (cL, 20, .inr (.inl on)))] := hD
  refine lv_aload_n hx hb ndF_begin_26 rfl (lv_at hl 0 rfl) ?_
  refine va_get (D := D) (ci := 2) (v := .ref a6) (C := nR_F) (T := nT_F) (N := 5) hx hb hts in_F hown hK hP 0 rfl rfl 2 (by decide) (hts _ tb_55) (fun _ h9 => h9) rfl ndF_begin_27 ?_
  refine fd_go_v (wr := [(a0, .inr (2, [.ref a1, .ref a3, .ref a6, .ref a8, .int 0])), (a1, .inr (0, [.ref a2, .int (nI n)])), (a2, .inl (cI, 400, .inl f)), (a3, .inr (1, [.ref a4, .ref a5, .int (nI kd), .int (nI k)])), (a4, .inl (cI, 20, .inl fs)), (a5, .inl (cL, 20, .inr (.inl fn))), (a8, .inr (1, [.ref a9, .ref a10, .int (nI q), .int (nI 0)])), (a9, .inl (cI, 20, .inl os)), (a10, .inl (cL, 20, .inr (.inl on)))]) (w2 := [(a0, .inr (2, [.ref a1, .ref a3, .ref a6, .ref a8, .int 0])), (a1, .inr (0, [.ref a2, .int (nI n)])), (a2, .inl (cI, 400, .inl f)), (a3, .inr (1, [.ref a4, .ref a5, .int (nI kd), .int (nI k)])), (a4, .inl (cI, 20, .inl fs)), (a5, .inl (cL, 20, .inr (.inl fn))), (a6, .inr (0, [.ref a7, .int (nI 0)])), (a7, .inl (cI, 123, .inl wf)), (a8, .inr (1, [.ref a9, .ref a10, .int (nI q), .int (nI 0)])), (a9, .inl (cI, 20, .inl os)), (a10, .inl (cL, 20, .inr (.inl on)))]) (va_runV (As := []) (rest := []) ⟨hx, hb, hml, hown, hts⟩ (kR_clear l D Z cI cL (n := wn) (f := wf) H.size) (cwV 0 hts (fd_gV tb_183 tb_184 tb_185 tb_14 tb_186) rfl rfl rfl nhR_clear ⟨(Nat.le_of_ble_eq_true rfl), (Nat.le_of_ble_eq_true rfl)⟩) (fd_PreV hE hK hEV hA hP hD hS [6, 7] rfl (by decide) (ci := 0) (q0 := 6) rfl rfl) rfl rfl hl.1 rfl (lv_room (Nat.le_of_ble_eq_true rfl)) ndF_begin_30 ⟨(Nat.le_of_ble_eq_true rfl), (Nat.le_of_ble_eq_true rfl)⟩) hP hD hS hA [6, 7] [0, 1, 2, 3, 4, 5, 8, 9, 10] rfl rfl (by decide) (by decide) [0, 1, 2, 3, 4, 5, 9, 10, 6, 7, 8] rfl (by decide) (fun H locs hP hD hS => ?_)
  refine lv_iconst (v := 0) hx hb ndF_begin_33 (by decide) ?_
  refine lv_istore_n (lv' := [(2, .int 0), (0, .ref a0), (1, .int (nI q))]) hx hb ndF_begin_34 rfl hl (by decide) rfl (fun ls hl => ?_)
  refine lv_iload_n hx hb ndF_begin_35 rfl (lv_at hl 0 rfl) ?_
  refine lv_iconst (v := 3) hx hb ndF_begin_36 (by decide) ?_
  refine lv_icmp_ge (tgt := 58) hx hb ndF_begin_37 (by decide) (fun c_37 => absurd c_37 (by decide)) (fun _ => ?_)
  refine lv_aload_n hx hb ndF_begin_40 rfl (lv_at hl 1 rfl) ?_
  refine va_get (D := D) (ci := 2) (v := .ref a6) (C := nR_F) (T := nT_F) (N := 5) hx hb hts in_F hown hK hP 0 rfl rfl 2 (by decide) (hts _ tb_55) (fun _ h9 => h9) rfl ndF_begin_41 ?_
  refine lv_iload_n hx hb ndF_begin_44 rfl (lv_at hl 2 rfl) ?_
  refine lv_iload_n hx hb ndF_begin_45 rfl (lv_at hl 0 rfl) ?_
  refine fd_go_i (wr := [(a0, .inr (2, [.ref a1, .ref a3, .ref a6, .ref a8, .int 0])), (a1, .inr (0, [.ref a2, .int (nI n)])), (a2, .inl (cI, 400, .inl f)), (a3, .inr (1, [.ref a4, .ref a5, .int (nI kd), .int (nI k)])), (a4, .inl (cI, 20, .inl fs)), (a5, .inl (cL, 20, .inr (.inl fn))), (a6, .inr (0, [.ref a7, .int (nI 0)])), (a7, .inl (cI, 123, .inl wf)), (a8, .inr (1, [.ref a9, .ref a10, .int (nI q), .int (nI 0)])), (a9, .inl (cI, 20, .inl os)), (a10, .inl (cL, 20, .inr (.inl on)))]) (w2 := [(a0, .inr (2, [.ref a1, .ref a3, .ref a6, .ref a8, .int 0])), (a1, .inr (0, [.ref a2, .int (nI n)])), (a2, .inl (cI, 400, .inl f)), (a3, .inr (1, [.ref a4, .ref a5, .int (nI kd), .int (nI k)])), (a4, .inl (cI, 20, .inl fs)), (a5, .inl (cL, 20, .inr (.inl fn))), (a6, .inr (0, [.ref a7, .int (nI 0)])), (a7, .inl (cI, 123, .inl wf)), (a8, .inr (1, [.ref a9, .ref a10, .int (nI q), .int (nI 0)])), (a9, .inl (cI, 20, .inl os)), (a10, .inl (cL, 20, .inr (.inl on)))]) (va_runS (As := [.int (nI q), .int 0]) (rest := [.ref a6]) ⟨hx, hb, hml, hown, hts⟩ (kF_letterOf l D Z cI cL (kd := q) (i := 0) (by omega) (by omega) (by omega) H.size) (va_cwS 2 hts (fd_gS tb_95 tb_96 tb_13 tb_97) rfl rfl rfl nhF_letterOf.2 ⟨(Nat.le_of_ble_eq_true rfl), (Nat.le_of_ble_eq_true rfl)⟩) (fd_PreS hE hK hEV hA hP hD hS [] rfl (by decide)) rfl rfl hl.1 rfl (lv_room (Nat.le_of_ble_eq_true rfl)) ndF_begin_46 ⟨(Nat.le_of_ble_eq_true rfl), (Nat.le_of_ble_eq_true rfl)⟩) hP hD hS hA [] [0, 1, 2, 3, 4, 5, 6, 7, 8, 9, 10] rfl rfl (by decide) (by decide) [0, 1, 2, 3, 4, 5, 6, 7, 8, 9, 10] rfl (by decide) (fun H locs hP hD hS => ?_)
  refine fd_go_v (wr := [(a0, .inr (2, [.ref a1, .ref a3, .ref a6, .ref a8, .int 0])), (a1, .inr (0, [.ref a2, .int (nI n)])), (a2, .inl (cI, 400, .inl f)), (a3, .inr (1, [.ref a4, .ref a5, .int (nI kd), .int (nI k)])), (a4, .inl (cI, 20, .inl fs)), (a5, .inl (cL, 20, .inr (.inl fn))), (a8, .inr (1, [.ref a9, .ref a10, .int (nI q), .int (nI 0)])), (a9, .inl (cI, 20, .inl os)), (a10, .inl (cL, 20, .inr (.inl on)))]) (w2 := [(a0, .inr (2, [.ref a1, .ref a3, .ref a6, .ref a8, .int 0])), (a1, .inr (0, [.ref a2, .int (nI n)])), (a2, .inl (cI, 400, .inl f)), (a3, .inr (1, [.ref a4, .ref a5, .int (nI kd), .int (nI k)])), (a4, .inl (cI, 20, .inl fs)), (a5, .inl (cL, 20, .inr (.inl fn))), (a6, .inr (0, [.ref a7, .int (nI (0 + 1))])), (a7, .inl (cI, 123, .inl (upd wf 0 (fd_let q 0)))), (a8, .inr (1, [.ref a9, .ref a10, .int (nI q), .int (nI 0)])), (a9, .inl (cI, 20, .inl os)), (a10, .inl (cL, 20, .inr (.inl on)))]) (va_runV (As := [.int (fd_let q 0)]) (rest := []) ⟨hx, hb, hml, hown, hts⟩ (kR_append l D Z cI cL (n := 0) (f := wf) (by omega) (by omega) (fd_let q 0) H.size) (cwV 1 hts (fd_gV tb_71 tb_72 tb_73 tb_14 tb_74) rfl rfl rfl nhR_append ⟨(Nat.le_of_ble_eq_true rfl), (Nat.le_of_ble_eq_true rfl)⟩) (fd_PreV hE hK hEV hA hP hD hS [6, 7] rfl (by decide) (ci := 0) (q0 := 6) rfl rfl) rfl rfl hl.1 rfl (lv_room (Nat.le_of_ble_eq_true rfl)) ndF_begin_49 ⟨(Nat.le_of_ble_eq_true rfl), (Nat.le_of_ble_eq_true rfl)⟩) hP hD hS hA [6, 7] [0, 1, 2, 3, 4, 5, 8, 9, 10] rfl rfl (by decide) (by decide) [0, 1, 2, 3, 4, 5, 9, 10, 6, 7, 8] rfl (by decide) (fun H locs hP hD hS => ?_)
  refine lv_iinc (v := 1) (lv' := [(2, .int 1), (0, .ref a0), (1, .int (nI q))]) hx hb ndF_begin_52 hl (k := 0) rfl (by decide) (by decide) rfl (fun ls hl => ?_)
  refine lv_goto (tgt := 35) hx hb ndF_begin_55 (by decide) ?_
  refine lv_iload_n hx hb ndF_begin_35 rfl (lv_at hl 0 rfl) ?_
  refine lv_iconst (v := 3) hx hb ndF_begin_36 (by decide) ?_
  refine lv_icmp_ge (tgt := 58) hx hb ndF_begin_37 (by decide) (fun c_37 => absurd c_37 (by decide)) (fun _ => ?_)
  refine lv_aload_n hx hb ndF_begin_40 rfl (lv_at hl 1 rfl) ?_
  refine va_get (D := D) (ci := 2) (v := .ref a6) (C := nR_F) (T := nT_F) (N := 5) hx hb hts in_F hown hK hP 0 rfl rfl 2 (by decide) (hts _ tb_55) (fun _ h9 => h9) rfl ndF_begin_41 ?_
  refine lv_iload_n hx hb ndF_begin_44 rfl (lv_at hl 2 rfl) ?_
  refine lv_iload_n hx hb ndF_begin_45 rfl (lv_at hl 0 rfl) ?_
  refine fd_go_i (wr := [(a0, .inr (2, [.ref a1, .ref a3, .ref a6, .ref a8, .int 0])), (a1, .inr (0, [.ref a2, .int (nI n)])), (a2, .inl (cI, 400, .inl f)), (a3, .inr (1, [.ref a4, .ref a5, .int (nI kd), .int (nI k)])), (a4, .inl (cI, 20, .inl fs)), (a5, .inl (cL, 20, .inr (.inl fn))), (a6, .inr (0, [.ref a7, .int (nI (0 + 1))])), (a7, .inl (cI, 123, .inl (upd wf 0 (fd_let q 0)))), (a8, .inr (1, [.ref a9, .ref a10, .int (nI q), .int (nI 0)])), (a9, .inl (cI, 20, .inl os)), (a10, .inl (cL, 20, .inr (.inl on)))]) (w2 := [(a0, .inr (2, [.ref a1, .ref a3, .ref a6, .ref a8, .int 0])), (a1, .inr (0, [.ref a2, .int (nI n)])), (a2, .inl (cI, 400, .inl f)), (a3, .inr (1, [.ref a4, .ref a5, .int (nI kd), .int (nI k)])), (a4, .inl (cI, 20, .inl fs)), (a5, .inl (cL, 20, .inr (.inl fn))), (a6, .inr (0, [.ref a7, .int (nI (0 + 1))])), (a7, .inl (cI, 123, .inl (upd wf 0 (fd_let q 0)))), (a8, .inr (1, [.ref a9, .ref a10, .int (nI q), .int (nI 0)])), (a9, .inl (cI, 20, .inl os)), (a10, .inl (cL, 20, .inr (.inl on)))]) (va_runS (As := [.int (nI q), .int 1]) (rest := [.ref a6]) ⟨hx, hb, hml, hown, hts⟩ (kF_letterOf l D Z cI cL (kd := q) (i := 1) (by omega) (by omega) (by omega) H.size) (va_cwS 2 hts (fd_gS tb_95 tb_96 tb_13 tb_97) rfl rfl rfl nhF_letterOf.2 ⟨(Nat.le_of_ble_eq_true rfl), (Nat.le_of_ble_eq_true rfl)⟩) (fd_PreS hE hK hEV hA hP hD hS [] rfl (by decide)) rfl rfl hl.1 rfl (lv_room (Nat.le_of_ble_eq_true rfl)) ndF_begin_46 ⟨(Nat.le_of_ble_eq_true rfl), (Nat.le_of_ble_eq_true rfl)⟩) hP hD hS hA [] [0, 1, 2, 3, 4, 5, 6, 7, 8, 9, 10] rfl rfl (by decide) (by decide) [0, 1, 2, 3, 4, 5, 6, 7, 8, 9, 10] rfl (by decide) (fun H locs hP hD hS => ?_)
  refine fd_go_v (wr := [(a0, .inr (2, [.ref a1, .ref a3, .ref a6, .ref a8, .int 0])), (a1, .inr (0, [.ref a2, .int (nI n)])), (a2, .inl (cI, 400, .inl f)), (a3, .inr (1, [.ref a4, .ref a5, .int (nI kd), .int (nI k)])), (a4, .inl (cI, 20, .inl fs)), (a5, .inl (cL, 20, .inr (.inl fn))), (a8, .inr (1, [.ref a9, .ref a10, .int (nI q), .int (nI 0)])), (a9, .inl (cI, 20, .inl os)), (a10, .inl (cL, 20, .inr (.inl on)))]) (w2 := [(a0, .inr (2, [.ref a1, .ref a3, .ref a6, .ref a8, .int 0])), (a1, .inr (0, [.ref a2, .int (nI n)])), (a2, .inl (cI, 400, .inl f)), (a3, .inr (1, [.ref a4, .ref a5, .int (nI kd), .int (nI k)])), (a4, .inl (cI, 20, .inl fs)), (a5, .inl (cL, 20, .inr (.inl fn))), (a6, .inr (0, [.ref a7, .int (nI ((0 + 1) + 1))])), (a7, .inl (cI, 123, .inl (upd (upd wf 0 (fd_let q 0)) (0 + 1) (fd_let q 1)))), (a8, .inr (1, [.ref a9, .ref a10, .int (nI q), .int (nI 0)])), (a9, .inl (cI, 20, .inl os)), (a10, .inl (cL, 20, .inr (.inl on)))]) (va_runV (As := [.int (fd_let q 1)]) (rest := []) ⟨hx, hb, hml, hown, hts⟩ (kR_append l D Z cI cL (n := (0 + 1)) (f := (upd wf 0 (fd_let q 0))) (by omega) (by omega) (fd_let q 1) H.size) (cwV 1 hts (fd_gV tb_71 tb_72 tb_73 tb_14 tb_74) rfl rfl rfl nhR_append ⟨(Nat.le_of_ble_eq_true rfl), (Nat.le_of_ble_eq_true rfl)⟩) (fd_PreV hE hK hEV hA hP hD hS [6, 7] rfl (by decide) (ci := 0) (q0 := 6) rfl rfl) rfl rfl hl.1 rfl (lv_room (Nat.le_of_ble_eq_true rfl)) ndF_begin_49 ⟨(Nat.le_of_ble_eq_true rfl), (Nat.le_of_ble_eq_true rfl)⟩) hP hD hS hA [6, 7] [0, 1, 2, 3, 4, 5, 8, 9, 10] rfl rfl (by decide) (by decide) [0, 1, 2, 3, 4, 5, 9, 10, 6, 7, 8] rfl (by decide) (fun H locs hP hD hS => ?_)
  refine lv_iinc (v := 2) (lv' := [(2, .int 2), (0, .ref a0), (1, .int (nI q))]) hx hb ndF_begin_52 hl (k := 0) rfl (by decide) (by decide) rfl (fun ls hl => ?_)
  refine lv_goto (tgt := 35) hx hb ndF_begin_55 (by decide) ?_
  refine lv_iload_n hx hb ndF_begin_35 rfl (lv_at hl 0 rfl) ?_
  refine lv_iconst (v := 3) hx hb ndF_begin_36 (by decide) ?_
  refine lv_icmp_ge (tgt := 58) hx hb ndF_begin_37 (by decide) (fun c_37 => absurd c_37 (by decide)) (fun _ => ?_)
  refine lv_aload_n hx hb ndF_begin_40 rfl (lv_at hl 1 rfl) ?_
  refine va_get (D := D) (ci := 2) (v := .ref a6) (C := nR_F) (T := nT_F) (N := 5) hx hb hts in_F hown hK hP 0 rfl rfl 2 (by decide) (hts _ tb_55) (fun _ h9 => h9) rfl ndF_begin_41 ?_
  refine lv_iload_n hx hb ndF_begin_44 rfl (lv_at hl 2 rfl) ?_
  refine lv_iload_n hx hb ndF_begin_45 rfl (lv_at hl 0 rfl) ?_
  refine fd_go_i (wr := [(a0, .inr (2, [.ref a1, .ref a3, .ref a6, .ref a8, .int 0])), (a1, .inr (0, [.ref a2, .int (nI n)])), (a2, .inl (cI, 400, .inl f)), (a3, .inr (1, [.ref a4, .ref a5, .int (nI kd), .int (nI k)])), (a4, .inl (cI, 20, .inl fs)), (a5, .inl (cL, 20, .inr (.inl fn))), (a6, .inr (0, [.ref a7, .int (nI ((0 + 1) + 1))])), (a7, .inl (cI, 123, .inl (upd (upd wf 0 (fd_let q 0)) (0 + 1) (fd_let q 1)))), (a8, .inr (1, [.ref a9, .ref a10, .int (nI q), .int (nI 0)])), (a9, .inl (cI, 20, .inl os)), (a10, .inl (cL, 20, .inr (.inl on)))]) (w2 := [(a0, .inr (2, [.ref a1, .ref a3, .ref a6, .ref a8, .int 0])), (a1, .inr (0, [.ref a2, .int (nI n)])), (a2, .inl (cI, 400, .inl f)), (a3, .inr (1, [.ref a4, .ref a5, .int (nI kd), .int (nI k)])), (a4, .inl (cI, 20, .inl fs)), (a5, .inl (cL, 20, .inr (.inl fn))), (a6, .inr (0, [.ref a7, .int (nI ((0 + 1) + 1))])), (a7, .inl (cI, 123, .inl (upd (upd wf 0 (fd_let q 0)) (0 + 1) (fd_let q 1)))), (a8, .inr (1, [.ref a9, .ref a10, .int (nI q), .int (nI 0)])), (a9, .inl (cI, 20, .inl os)), (a10, .inl (cL, 20, .inr (.inl on)))]) (va_runS (As := [.int (nI q), .int 2]) (rest := [.ref a6]) ⟨hx, hb, hml, hown, hts⟩ (kF_letterOf l D Z cI cL (kd := q) (i := 2) (by omega) (by omega) (by omega) H.size) (va_cwS 2 hts (fd_gS tb_95 tb_96 tb_13 tb_97) rfl rfl rfl nhF_letterOf.2 ⟨(Nat.le_of_ble_eq_true rfl), (Nat.le_of_ble_eq_true rfl)⟩) (fd_PreS hE hK hEV hA hP hD hS [] rfl (by decide)) rfl rfl hl.1 rfl (lv_room (Nat.le_of_ble_eq_true rfl)) ndF_begin_46 ⟨(Nat.le_of_ble_eq_true rfl), (Nat.le_of_ble_eq_true rfl)⟩) hP hD hS hA [] [0, 1, 2, 3, 4, 5, 6, 7, 8, 9, 10] rfl rfl (by decide) (by decide) [0, 1, 2, 3, 4, 5, 6, 7, 8, 9, 10] rfl (by decide) (fun H locs hP hD hS => ?_)
  refine fd_go_v (wr := [(a0, .inr (2, [.ref a1, .ref a3, .ref a6, .ref a8, .int 0])), (a1, .inr (0, [.ref a2, .int (nI n)])), (a2, .inl (cI, 400, .inl f)), (a3, .inr (1, [.ref a4, .ref a5, .int (nI kd), .int (nI k)])), (a4, .inl (cI, 20, .inl fs)), (a5, .inl (cL, 20, .inr (.inl fn))), (a8, .inr (1, [.ref a9, .ref a10, .int (nI q), .int (nI 0)])), (a9, .inl (cI, 20, .inl os)), (a10, .inl (cL, 20, .inr (.inl on)))]) (w2 := [(a0, .inr (2, [.ref a1, .ref a3, .ref a6, .ref a8, .int 0])), (a1, .inr (0, [.ref a2, .int (nI n)])), (a2, .inl (cI, 400, .inl f)), (a3, .inr (1, [.ref a4, .ref a5, .int (nI kd), .int (nI k)])), (a4, .inl (cI, 20, .inl fs)), (a5, .inl (cL, 20, .inr (.inl fn))), (a6, .inr (0, [.ref a7, .int (nI (((0 + 1) + 1) + 1))])), (a7, .inl (cI, 123, .inl (upd (upd (upd wf 0 (fd_let q 0)) (0 + 1) (fd_let q 1)) ((0 + 1) + 1) (fd_let q 2)))), (a8, .inr (1, [.ref a9, .ref a10, .int (nI q), .int (nI 0)])), (a9, .inl (cI, 20, .inl os)), (a10, .inl (cL, 20, .inr (.inl on)))]) (va_runV (As := [.int (fd_let q 2)]) (rest := []) ⟨hx, hb, hml, hown, hts⟩ (kR_append l D Z cI cL (n := ((0 + 1) + 1)) (f := (upd (upd wf 0 (fd_let q 0)) (0 + 1) (fd_let q 1))) (by omega) (by omega) (fd_let q 2) H.size) (cwV 1 hts (fd_gV tb_71 tb_72 tb_73 tb_14 tb_74) rfl rfl rfl nhR_append ⟨(Nat.le_of_ble_eq_true rfl), (Nat.le_of_ble_eq_true rfl)⟩) (fd_PreV hE hK hEV hA hP hD hS [6, 7] rfl (by decide) (ci := 0) (q0 := 6) rfl rfl) rfl rfl hl.1 rfl (lv_room (Nat.le_of_ble_eq_true rfl)) ndF_begin_49 ⟨(Nat.le_of_ble_eq_true rfl), (Nat.le_of_ble_eq_true rfl)⟩) hP hD hS hA [6, 7] [0, 1, 2, 3, 4, 5, 8, 9, 10] rfl rfl (by decide) (by decide) [0, 1, 2, 3, 4, 5, 9, 10, 6, 7, 8] rfl (by decide) (fun H locs hP hD hS => ?_)
  refine lv_iinc (v := 3) (lv' := [(2, .int 3), (0, .ref a0), (1, .int (nI q))]) hx hb ndF_begin_52 hl (k := 0) rfl (by decide) (by decide) rfl (fun ls hl => ?_)
  refine lv_goto (tgt := 35) hx hb ndF_begin_55 (by decide) ?_
  refine lv_iload_n hx hb ndF_begin_35 rfl (lv_at hl 0 rfl) ?_
  refine lv_iconst (v := 3) hx hb ndF_begin_36 (by decide) ?_
  refine lv_icmp_ge (tgt := 58) hx hb ndF_begin_37 (by decide) (fun _ => ?_) (fun c_37 => absurd (by decide) c_37)
  refine lv_iconst (v := 1) hx hb ndF_begin_58 (by decide) ?_
  exact fd_ret_i hx hb hr hlocks hS hP hD rfl (rfl) ndF_begin_59
set_option maxHeartbeats 4000000 in
set_option maxRecDepth 100000 in
theorem kF_end_no (l : Launch) (D : va_G) (Z : Nat → Nat) (cI cL : ClassId) {a0 a1 a2 a3 a4 a5 a6 a7 a8 a9 a10 n kd k wn od ok : Nat} {f fs wf os : Nat → Int32} {fn on : Nat → Int64} {cf : Int32} (hn : n ≤ 400) (hkd : kd ≤ 15) (hk : k ≤ 20) (hwn : wn ≤ 123) (hod : od ≤ 15) (hok : ok ≤ 20) (hno : od = 0 ∨ ¬ cf = 0 ∨ ¬ fd_due od ok on = 0) : fd_Mi l D fd_cl (fd_ty cI cL) (fd_EV Z) nyF_end (.code nyF_end ncF_end 2 (some .int) :: fd_TB) nmF_end [.ref a0] [(a0, .inr (2, [.ref a1, .ref a3, .ref a6, .ref a8, .int cf])), (a1, .inr (0, [.ref a2, .int (nI n)])), (a2, .inl (cI, 400, .inl f)), (a3, .inr (1, [.ref a4, .ref a5, .int (nI kd), .int (nI k)])), (a4, .inl (cI, 20, .inl fs)), (a5, .inl (cL, 20, .inr (.inl fn))), (a6, .inr (0, [.ref a7, .int (nI wn)])), (a7, .inl (cI, 123, .inl wf)), (a8, .inr (1, [.ref a9, .ref a10, .int (nI od), .int (nI ok)])), (a9, .inl (cI, 20, .inl os)), (a10, .inl (cL, 20, .inr (.inl on)))] [(a0, .inr (2, [.ref a1, .ref a3, .ref a6, .ref a8, .int cf])), (a1, .inr (0, [.ref a2, .int (nI n)])), (a2, .inl (cI, 400, .inl f)), (a3, .inr (1, [.ref a4, .ref a5, .int (nI kd), .int (nI k)])), (a4, .inl (cI, 20, .inl fs)), (a5, .inl (cL, 20, .inr (.inl fn))), (a6, .inr (0, [.ref a7, .int (nI wn)])), (a7, .inl (cI, 123, .inl wf)), (a8, .inr (1, [.ref a9, .ref a10, .int (nI od), .int (nI ok)])), (a9, .inl (cI, 20, .inl os)), (a10, .inl (cL, 20, .inr (.inl on)))] (-1) := by
  refine fd_open_i (cc := ncF_end) (maxL := 2) (ret := (some .int)) (by decide) rfl (Nat.le_of_ble_eq_true rfl) ?_
  intro p e s m below meth c A ls X hP hD hS hl
  obtain ⟨hx, hb, hr, hml, hown, hts0, hlocks, hK, hEV, hA⟩ := X
  have hts : ∀ w ∈ fd_TB, w.before _ s = true := fun w h => hts0 w (List.mem_cons_of_mem _ h)
  have hE := fd_EV_ok Z
  have hown : s.vm.findClass "FieldDesk" = some m.cls := hown
  have hl : lv_has ls 2 [(0, .ref a0)] := hl
  refine lv_aload_n hx hb ndF_end_0 rfl (lv_at hl 0 rfl) ?_
  refine va_get (D := D) (ci := 2) (v := .ref a8) (C := nR_F) (T := nT_F) (N := 5) hx hb hts in_F hown hK hP 0 rfl rfl 3 (by decide) (hts _ tb_56) (fun _ h9 => h9) rfl ndF_end_1 ?_
  refine va_getN (D := D) (ci := 1) (v := .int (nI od)) (C := nR_M) (T := nT_M) (N := 4) hx hb hts in_M hown hK hP 8 rfl rfl 2 (by decide) (fd_nw hEV nb_2) (fun _ h9 => h9) rfl ndF_end_4 ?_
  refine lv_if_eq (tgt := 27) hx hb ndF_end_7 (by decide) (fun c_7 => ?_) (fun c_7 => ?_)
  · have n_7 := (nI_eq (a := od) (b := 0) (by omega) (by omega)).mp c_7
    refine lv_iconst (v := (-1)) hx hb ndF_end_27 (by decide) ?_
    exact fd_ret_i hx hb hr hlocks hS hP hD rfl (rfl) ndF_end_28
  · have n_7 := mt (nI_eq (a := od) (b := 0) (by omega) (by omega)).mpr c_7
    refine lv_aload_n hx hb ndF_end_10 rfl (lv_at hl 0 rfl) ?_
    refine va_get (D := D) (ci := 2) (v := .int cf) (C := nR_F) (T := nT_F) (N := 5) hx hb hts in_F hown hK hP 0 rfl rfl 4 (by decide) (hts _ tb_57) (fun _ h9 => h9) rfl ndF_end_11 ?_
    refine lv_if_ne (tgt := 27) hx hb ndF_end_14 (by decide) (fun c_14 => ?_) (fun c_14 => ?_)
    · refine lv_iconst (v := (-1)) hx hb ndF_end_27 (by decide) ?_
      exact fd_ret_i hx hb hr hlocks hS hP hD rfl (rfl) ndF_end_28
    · refine lv_aload_n hx hb ndF_end_17 rfl (lv_at hl 0 rfl) ?_
      refine va_get (D := D) (ci := 2) (v := .ref a8) (C := nR_F) (T := nT_F) (N := 5) hx hb hts in_F hown hK hP 0 rfl rfl 3 (by decide) (hts _ tb_56) (fun _ h9 => h9) rfl ndF_end_18 ?_
      refine fd_go_i (wr := [(a0, .inr (2, [.ref a1, .ref a3, .ref a6, .ref a8, .int cf])), (a1, .inr (0, [.ref a2, .int (nI n)])), (a2, .inl (cI, 400, .inl f)), (a3, .inr (1, [.ref a4, .ref a5, .int (nI kd), .int (nI k)])), (a4, .inl (cI, 20, .inl fs)), (a5, .inl (cL, 20, .inr (.inl fn))), (a6, .inr (0, [.ref a7, .int (nI wn)])), (a7, .inl (cI, 123, .inl wf))]) (w2 := [(a0, .inr (2, [.ref a1, .ref a3, .ref a6, .ref a8, .int cf])), (a1, .inr (0, [.ref a2, .int (nI n)])), (a2, .inl (cI, 400, .inl f)), (a3, .inr (1, [.ref a4, .ref a5, .int (nI kd), .int (nI k)])), (a4, .inl (cI, 20, .inl fs)), (a5, .inl (cL, 20, .inr (.inl fn))), (a6, .inr (0, [.ref a7, .int (nI wn)])), (a7, .inl (cI, 123, .inl wf)), (a8, .inr (1, [.ref a9, .ref a10, .int (nI od), .int (nI ok)])), (a9, .inl (cI, 20, .inl os)), (a10, .inl (cL, 20, .inr (.inl on)))]) (va_runV (As := []) (rest := []) ⟨hx, hb, hml, hown, hts⟩ (kM_dueSort l D Z cI cL (kd := od) (n := ok) (fs := os) (fn := on) (by omega) (by omega) s.heap.size) (cwV 0 hts (fd_gV tb_129 tb_130 tb_131 tb_15 tb_132) rfl rfl rfl nhM_dueSort ⟨(Nat.le_of_ble_eq_true rfl), (Nat.le_of_ble_eq_true rfl)⟩) (fd_PreV hE hK hEV hA hP hD hS [8, 9, 10] rfl (by decide) (ci := 1) (q0 := 8) rfl rfl) rfl rfl hl.1 rfl (lv_room (Nat.le_of_ble_eq_true rfl)) ndF_end_21 ⟨(Nat.le_of_ble_eq_true rfl), (Nat.le_of_ble_eq_true rfl)⟩) hP hD hS hA [8, 9, 10] [0, 1, 2, 3, 4, 5, 6, 7] rfl rfl (by decide) (by decide) [0, 1, 2, 3, 4, 5, 6, 7, 8, 9, 10] rfl (by decide) (fun H locs hP hD hS => ?_)
      refine lv_if_eq (tgt := 29) hx hb ndF_end_24 (by decide) (fun c_24 => absurd c_24 (fun h9 => hno.elim (fun h => n_7 h) (fun h => h.elim (fun h => absurd c_14 h) (fun h => h h9)))) (fun _ => ?_)
      refine lv_iconst (v := (-1)) hx hb ndF_end_27 (by decide) ?_
      exact fd_ret_i hx hb hr hlocks hS hP hD rfl (rfl) ndF_end_28
set_option maxHeartbeats 4000000 in
set_option maxRecDepth 100000 in
theorem kF_end_yes (l : Launch) (D : va_G) (Z : Nat → Nat) (cI cL : ClassId) {a0 a1 a2 a3 a4 a5 a6 a7 a8 a9 a10 n kd k wn od ok : Nat} {f fs wf os : Nat → Int32} {fn on : Nat → Int64} {cf : Int32} (hn : n ≤ 400) (hkd : kd ≤ 15) (hk : k ≤ 20) (hwn : wn ≤ 123) (hod : od ≤ 15) (hok : ok ≤ 20) (h1 : ¬ od = 0) (h2 : cf = 0) (h3 : fd_due od ok on = 0) (hw : wn + 2 ≤ 123) : fd_Mi l D fd_cl (fd_ty cI cL) (fd_EV Z) nyF_end (.code nyF_end ncF_end 2 (some .int) :: fd_TB) nmF_end [.ref a0] [(a0, .inr (2, [.ref a1, .ref a3, .ref a6, .ref a8, .int cf])), (a1, .inr (0, [.ref a2, .int (nI n)])), (a2, .inl (cI, 400, .inl f)), (a3, .inr (1, [.ref a4, .ref a5, .int (nI kd), .int (nI k)])), (a4, .inl (cI, 20, .inl fs)), (a5, .inl (cL, 20, .inr (.inl fn))), (a6, .inr (0, [.ref a7, .int (nI wn)])), (a7, .inl (cI, 123, .inl wf)), (a8, .inr (1, [.ref a9, .ref a10, .int (nI od), .int (nI ok)])), (a9, .inl (cI, 20, .inl os)), (a10, .inl (cL, 20, .inr (.inl on)))] [(a0, .inr (2, [.ref a1, .ref a3, .ref a6, .ref a8, .int 1])), (a1, .inr (0, [.ref a2, .int (nI n)])), (a2, .inl (cI, 400, .inl f)), (a3, .inr (1, [.ref a4, .ref a5, .int (nI kd), .int (nI k)])), (a4, .inl (cI, 20, .inl fs)), (a5, .inl (cL, 20, .inr (.inl fn))), (a6, .inr (0, [.ref a7, .int (nI (wn + 1 + 1))])), (a7, .inl (cI, 123, .inl (fd_ew wf wn))), (a8, .inr (1, [.ref a9, .ref a10, .int (nI od), .int (nI ok)])), (a9, .inl (cI, 20, .inl os)), (a10, .inl (cL, 20, .inr (.inl on)))] (nI (wn + 1 + 1)) := by
  refine fd_open_i (cc := ncF_end) (maxL := 2) (ret := (some .int)) (by decide) rfl (Nat.le_of_ble_eq_true rfl) ?_
  intro p e s m below meth c A ls X hP hD hS hl
  obtain ⟨hx, hb, hr, hml, hown, hts0, hlocks, hK, hEV, hA⟩ := X
  have hts : ∀ w ∈ fd_TB, w.before _ s = true := fun w h => hts0 w (List.mem_cons_of_mem _ h)
  have hE := fd_EV_ok Z
  have hown : s.vm.findClass "FieldDesk" = some m.cls := hown
  have hl : lv_has ls 2 [(0, .ref a0)] := hl
  refine lv_aload_n hx hb ndF_end_0 rfl (lv_at hl 0 rfl) ?_
  refine va_get (D := D) (ci := 2) (v := .ref a8) (C := nR_F) (T := nT_F) (N := 5) hx hb hts in_F hown hK hP 0 rfl rfl 3 (by decide) (hts _ tb_56) (fun _ h9 => h9) rfl ndF_end_1 ?_
  refine va_getN (D := D) (ci := 1) (v := .int (nI od)) (C := nR_M) (T := nT_M) (N := 4) hx hb hts in_M hown hK hP 8 rfl rfl 2 (by decide) (fd_nw hEV nb_2) (fun _ h9 => h9) rfl ndF_end_4 ?_
  refine lv_if_eq (tgt := 27) hx hb ndF_end_7 (by decide) (fun c_7 => absurd c_7 (fun h9 => absurd ((nI_eq (a := od) (b := 0) (by omega) (by omega)).mp h9) (by omega))) (fun _ => ?_)
  refine lv_aload_n hx hb ndF_end_10 rfl (lv_at hl 0 rfl) ?_
  refine va_get (D := D) (ci := 2) (v := .int cf) (C := nR_F) (T := nT_F) (N := 5) hx hb hts in_F hown hK hP 0 rfl rfl 4 (by decide) (hts _ tb_57) (fun _ h9 => h9) rfl ndF_end_11 ?_
  refine lv_if_ne (tgt := 27) hx hb ndF_end_14 (by decide) (fun c_14 => absurd h2 c_14) (fun _ => ?_)
  refine lv_aload_n hx hb ndF_end_17 rfl (lv_at hl 0 rfl) ?_
  refine va_get (D := D) (ci := 2) (v := .ref a8) (C := nR_F) (T := nT_F) (N := 5) hx hb hts in_F hown hK hP 0 rfl rfl 3 (by decide) (hts _ tb_56) (fun _ h9 => h9) rfl ndF_end_18 ?_
  refine fd_go_i (wr := [(a0, .inr (2, [.ref a1, .ref a3, .ref a6, .ref a8, .int cf])), (a1, .inr (0, [.ref a2, .int (nI n)])), (a2, .inl (cI, 400, .inl f)), (a3, .inr (1, [.ref a4, .ref a5, .int (nI kd), .int (nI k)])), (a4, .inl (cI, 20, .inl fs)), (a5, .inl (cL, 20, .inr (.inl fn))), (a6, .inr (0, [.ref a7, .int (nI wn)])), (a7, .inl (cI, 123, .inl wf))]) (w2 := [(a0, .inr (2, [.ref a1, .ref a3, .ref a6, .ref a8, .int cf])), (a1, .inr (0, [.ref a2, .int (nI n)])), (a2, .inl (cI, 400, .inl f)), (a3, .inr (1, [.ref a4, .ref a5, .int (nI kd), .int (nI k)])), (a4, .inl (cI, 20, .inl fs)), (a5, .inl (cL, 20, .inr (.inl fn))), (a6, .inr (0, [.ref a7, .int (nI wn)])), (a7, .inl (cI, 123, .inl wf)), (a8, .inr (1, [.ref a9, .ref a10, .int (nI od), .int (nI ok)])), (a9, .inl (cI, 20, .inl os)), (a10, .inl (cL, 20, .inr (.inl on)))]) (va_runV (As := []) (rest := []) ⟨hx, hb, hml, hown, hts⟩ (kM_dueSort l D Z cI cL (kd := od) (n := ok) (fs := os) (fn := on) (by omega) (by omega) s.heap.size) (cwV 0 hts (fd_gV tb_129 tb_130 tb_131 tb_15 tb_132) rfl rfl rfl nhM_dueSort ⟨(Nat.le_of_ble_eq_true rfl), (Nat.le_of_ble_eq_true rfl)⟩) (fd_PreV hE hK hEV hA hP hD hS [8, 9, 10] rfl (by decide) (ci := 1) (q0 := 8) rfl rfl) rfl rfl hl.1 rfl (lv_room (Nat.le_of_ble_eq_true rfl)) ndF_end_21 ⟨(Nat.le_of_ble_eq_true rfl), (Nat.le_of_ble_eq_true rfl)⟩) hP hD hS hA [8, 9, 10] [0, 1, 2, 3, 4, 5, 6, 7] rfl rfl (by decide) (by decide) [0, 1, 2, 3, 4, 5, 6, 7, 8, 9, 10] rfl (by decide) (fun H locs hP hD hS => ?_)
  refine lv_if_eq (tgt := 29) hx hb ndF_end_24 (by decide) (fun _ => ?_) (fun c_24 => absurd h3 c_24)
  refine lv_bipush (v := 98) hx hb ndF_end_29 (by decide) ?_
  refine lv_aload_n hx hb ndF_end_31 rfl (lv_at hl 0 rfl) ?_
  refine va_get (D := D) (ci := 2) (v := .ref a6) (C := nR_F) (T := nT_F) (N := 5) hx hb hts in_F hown hK hP 0 rfl rfl 2 (by decide) (hts _ tb_55) (fun _ h9 => h9) rfl ndF_end_32 ?_
  refine fd_go_i (wr := [(a0, .inr (2, [.ref a1, .ref a3, .ref a6, .ref a8, .int cf])), (a1, .inr (0, [.ref a2, .int (nI n)])), (a2, .inl (cI, 400, .inl f)), (a3, .inr (1, [.ref a4, .ref a5, .int (nI kd), .int (nI k)])), (a4, .inl (cI, 20, .inl fs)), (a5, .inl (cL, 20, .inr (.inl fn))), (a8, .inr (1, [.ref a9, .ref a10, .int (nI od), .int (nI ok)])), (a9, .inl (cI, 20, .inl os)), (a10, .inl (cL, 20, .inr (.inl on)))]) (w2 := [(a0, .inr (2, [.ref a1, .ref a3, .ref a6, .ref a8, .int cf])), (a1, .inr (0, [.ref a2, .int (nI n)])), (a2, .inl (cI, 400, .inl f)), (a3, .inr (1, [.ref a4, .ref a5, .int (nI kd), .int (nI k)])), (a4, .inl (cI, 20, .inl fs)), (a5, .inl (cL, 20, .inr (.inl fn))), (a6, .inr (0, [.ref a7, .int (nI wn)])), (a7, .inl (cI, 123, .inl wf)), (a8, .inr (1, [.ref a9, .ref a10, .int (nI od), .int (nI ok)])), (a9, .inl (cI, 20, .inl os)), (a10, .inl (cL, 20, .inr (.inl on)))]) (va_runV (As := []) (rest := [.int 98]) ⟨hx, hb, hml, hown, hts⟩ (kR_remainder l D Z cI cL (n := wn) (f := wf) (by omega) (by omega) H.size) (cwV 0 hts (fd_gV tb_178 tb_179 tb_180 tb_14 tb_181) rfl rfl rfl nhR_remainder ⟨(Nat.le_of_ble_eq_true rfl), (Nat.le_of_ble_eq_true rfl)⟩) (fd_PreV hE hK hEV hA hP hD hS [6, 7] rfl (by decide) (ci := 0) (q0 := 6) rfl rfl) rfl rfl hl.1 rfl (lv_room (Nat.le_of_ble_eq_true rfl)) ndF_end_35 ⟨(Nat.le_of_ble_eq_true rfl), (Nat.le_of_ble_eq_true rfl)⟩) hP hD hS hA [6, 7] [0, 1, 2, 3, 4, 5, 8, 9, 10] rfl rfl (by decide) (by decide) [0, 1, 2, 3, 4, 5, 9, 10, 6, 7, 8] rfl (by decide) (fun H locs hP hD hS => ?_)
  refine lv_bipush (v := 100) hx hb ndF_end_38 (by decide) ?_
  refine lv_imul hx hb ndF_end_40 ?_
  refine lv_bipush (v := 97) hx hb ndF_end_41 (by decide) ?_
  refine lv_irem hx hb ndF_end_43 (by decide) ?_
  refine lv_isub hx hb ndF_end_44 ?_
  refine fd_asi (y := fd_ck (fd_rem wf wn)) rfl ?_
  refine lv_istore_n (lv' := [(1, .int (fd_ck (fd_rem wf wn))), (0, .ref a0)]) hx hb ndF_end_45 rfl hl (by decide) rfl (fun ls hl => ?_)
  refine lv_aload_n hx hb ndF_end_46 rfl (lv_at hl 1 rfl) ?_
  refine va_get (D := D) (ci := 2) (v := .ref a6) (C := nR_F) (T := nT_F) (N := 5) hx hb hts in_F hown hK hP 0 rfl rfl 2 (by decide) (hts _ tb_55) (fun _ h9 => h9) rfl ndF_end_47 ?_
  refine lv_bipush (v := 48) hx hb ndF_end_50 (by decide) ?_
  refine lv_iload_n hx hb ndF_end_52 rfl (lv_at hl 0 rfl) ?_
  refine lv_bipush (v := 10) hx hb ndF_end_53 (by decide) ?_
  refine lv_idiv hx hb ndF_end_55 (by decide) ?_
  refine lv_iadd hx hb ndF_end_56 ?_
  refine fd_go_v (wr := [(a0, .inr (2, [.ref a1, .ref a3, .ref a6, .ref a8, .int cf])), (a1, .inr (0, [.ref a2, .int (nI n)])), (a2, .inl (cI, 400, .inl f)), (a3, .inr (1, [.ref a4, .ref a5, .int (nI kd), .int (nI k)])), (a4, .inl (cI, 20, .inl fs)), (a5, .inl (cL, 20, .inr (.inl fn))), (a8, .inr (1, [.ref a9, .ref a10, .int (nI od), .int (nI ok)])), (a9, .inl (cI, 20, .inl os)), (a10, .inl (cL, 20, .inr (.inl on)))]) (w2 := [(a0, .inr (2, [.ref a1, .ref a3, .ref a6, .ref a8, .int cf])), (a1, .inr (0, [.ref a2, .int (nI n)])), (a2, .inl (cI, 400, .inl f)), (a3, .inr (1, [.ref a4, .ref a5, .int (nI kd), .int (nI k)])), (a4, .inl (cI, 20, .inl fs)), (a5, .inl (cL, 20, .inr (.inl fn))), (a6, .inr (0, [.ref a7, .int (nI (wn + 1))])), (a7, .inl (cI, 123, .inl (upd wf wn (48 + ((fd_ck (fd_rem wf wn)) / 10))))), (a8, .inr (1, [.ref a9, .ref a10, .int (nI od), .int (nI ok)])), (a9, .inl (cI, 20, .inl os)), (a10, .inl (cL, 20, .inr (.inl on)))]) (va_runV (As := [.int (48 + ((fd_ck (fd_rem wf wn)) / 10))]) (rest := []) ⟨hx, hb, hml, hown, hts⟩ (kR_append l D Z cI cL (n := wn) (f := wf) (by omega) (by omega) (48 + ((fd_ck (fd_rem wf wn)) / 10)) H.size) (cwV 1 hts (fd_gV tb_71 tb_72 tb_73 tb_14 tb_74) rfl rfl rfl nhR_append ⟨(Nat.le_of_ble_eq_true rfl), (Nat.le_of_ble_eq_true rfl)⟩) (fd_PreV hE hK hEV hA hP hD hS [6, 7] rfl (by decide) (ci := 0) (q0 := 6) rfl rfl) rfl rfl hl.1 rfl (lv_room (Nat.le_of_ble_eq_true rfl)) ndF_end_57 ⟨(Nat.le_of_ble_eq_true rfl), (Nat.le_of_ble_eq_true rfl)⟩) hP hD hS hA [6, 7] [0, 1, 2, 3, 4, 5, 8, 9, 10] rfl rfl (by decide) (by decide) [0, 1, 2, 3, 4, 5, 9, 10, 6, 7, 8] rfl (by decide) (fun H locs hP hD hS => ?_)
  refine lv_aload_n hx hb ndF_end_60 rfl (lv_at hl 1 rfl) ?_
  refine va_get (D := D) (ci := 2) (v := .ref a6) (C := nR_F) (T := nT_F) (N := 5) hx hb hts in_F hown hK hP 0 rfl rfl 2 (by decide) (hts _ tb_55) (fun _ h9 => h9) rfl ndF_end_61 ?_
  refine lv_bipush (v := 48) hx hb ndF_end_64 (by decide) ?_
  refine lv_iload_n hx hb ndF_end_66 rfl (lv_at hl 0 rfl) ?_
  refine lv_bipush (v := 10) hx hb ndF_end_67 (by decide) ?_
  refine lv_irem hx hb ndF_end_69 (by decide) ?_
  refine lv_iadd hx hb ndF_end_70 ?_
  refine fd_go_v (wr := [(a0, .inr (2, [.ref a1, .ref a3, .ref a6, .ref a8, .int cf])), (a1, .inr (0, [.ref a2, .int (nI n)])), (a2, .inl (cI, 400, .inl f)), (a3, .inr (1, [.ref a4, .ref a5, .int (nI kd), .int (nI k)])), (a4, .inl (cI, 20, .inl fs)), (a5, .inl (cL, 20, .inr (.inl fn))), (a8, .inr (1, [.ref a9, .ref a10, .int (nI od), .int (nI ok)])), (a9, .inl (cI, 20, .inl os)), (a10, .inl (cL, 20, .inr (.inl on)))]) (w2 := [(a0, .inr (2, [.ref a1, .ref a3, .ref a6, .ref a8, .int cf])), (a1, .inr (0, [.ref a2, .int (nI n)])), (a2, .inl (cI, 400, .inl f)), (a3, .inr (1, [.ref a4, .ref a5, .int (nI kd), .int (nI k)])), (a4, .inl (cI, 20, .inl fs)), (a5, .inl (cL, 20, .inr (.inl fn))), (a6, .inr (0, [.ref a7, .int (nI ((wn + 1) + 1))])), (a7, .inl (cI, 123, .inl (upd (upd wf wn (48 + ((fd_ck (fd_rem wf wn)) / 10))) (wn + 1) (48 + ((fd_ck (fd_rem wf wn)) - (fd_ck (fd_rem wf wn)) / 10 * 10))))), (a8, .inr (1, [.ref a9, .ref a10, .int (nI od), .int (nI ok)])), (a9, .inl (cI, 20, .inl os)), (a10, .inl (cL, 20, .inr (.inl on)))]) (va_runV (As := [.int (48 + ((fd_ck (fd_rem wf wn)) - (fd_ck (fd_rem wf wn)) / 10 * 10))]) (rest := []) ⟨hx, hb, hml, hown, hts⟩ (kR_append l D Z cI cL (n := (wn + 1)) (f := (upd wf wn (48 + ((fd_ck (fd_rem wf wn)) / 10)))) (by omega) (by omega) (48 + ((fd_ck (fd_rem wf wn)) - (fd_ck (fd_rem wf wn)) / 10 * 10)) H.size) (cwV 1 hts (fd_gV tb_71 tb_72 tb_73 tb_14 tb_74) rfl rfl rfl nhR_append ⟨(Nat.le_of_ble_eq_true rfl), (Nat.le_of_ble_eq_true rfl)⟩) (fd_PreV hE hK hEV hA hP hD hS [6, 7] rfl (by decide) (ci := 0) (q0 := 6) rfl rfl) rfl rfl hl.1 rfl (lv_room (Nat.le_of_ble_eq_true rfl)) ndF_end_71 ⟨(Nat.le_of_ble_eq_true rfl), (Nat.le_of_ble_eq_true rfl)⟩) hP hD hS hA [6, 7] [0, 1, 2, 3, 4, 5, 8, 9, 10] rfl rfl (by decide) (by decide) [0, 1, 2, 3, 4, 5, 9, 10, 6, 7, 8] rfl (by decide) (fun H locs hP hD hS => ?_)
  refine lv_aload_n hx hb ndF_end_74 rfl (lv_at hl 1 rfl) ?_
  refine lv_iconst (v := 1) hx hb ndF_end_75 (by decide) ?_
  refine va_put (D := D) (ci := 2) (v := .int 1) (ty := (.boolean)) (C := nR_F) (T := nT_F) (N := 5) hx hb hts in_F nt_F nt_F_ok nn_F hown hK hP hD hS 0 rfl rfl 4 (by decide) (hts _ tb_57) (fun _ h9 => h9) rfl (by decide +kernel) rfl rfl (Nat.le_of_ble_eq_true rfl) ndF_end_76 (fun H locs hP hD hS => ?_)
  have hP : va_P D fd_cl [(a0, .inr (2, [.ref a1, .ref a3, .ref a6, .ref a8, .int 1])), (a1, .inr (0, [.ref a2, .int (nI n)])), (a2, .inl (cI, 400, .inl f)), (a3, .inr (1, [.ref a4, .ref a5, .int (nI kd), .int (nI k)])), (a4, .inl (cI, 20, .inl fs)), (a5, .inl (cL, 20, .inr (.inl fn))), (a6, .inr (0, [.ref a7, .int (nI ((wn + 1) + 1))])), (a7, .inl (cI, 123, .inl (upd (upd wf wn (48 + ((fd_ck (fd_rem wf wn)) / 10))) (wn + 1) (48 + ((fd_ck (fd_rem wf wn)) - (fd_ck (fd_rem wf wn)) / 10 * 10))))), (a8, .inr (1, [.ref a9, .ref a10, .int (nI od), .int (nI ok)])), (a9, .inl (cI, 20, .inl os)), (a10, .inl (cL, 20, .inr (.inl on)))] H := hP
  have hD : va_D A [(a0, .inr (2, [.ref a1, .ref a3, .ref a6, .ref a8, .int 1])), (a1, .inr (0, [.ref a2, .int (nI n)])), (a2, .inl (cI, 400, .inl f)), (a3, .inr (1, [.ref a4, .ref a5, .int (nI kd), .int (nI k)])), (a4, .inl (cI, 20, .inl fs)), (a5, .inl (cL, 20, .inr (.inl fn))), (a6, .inr (0, [.ref a7, .int (nI ((wn + 1) + 1))])), (a7, .inl (cI, 123, .inl (upd (upd wf wn (48 + ((fd_ck (fd_rem wf wn)) / 10))) (wn + 1) (48 + ((fd_ck (fd_rem wf wn)) - (fd_ck (fd_rem wf wn)) / 10 * 10))))), (a8, .inr (1, [.ref a9, .ref a10, .int (nI od), .int (nI ok)])), (a9, .inl (cI, 20, .inl os)), (a10, .inl (cL, 20, .inr (.inl on)))] := hD
  refine lv_aload_n hx hb ndF_end_79 rfl (lv_at hl 1 rfl) ?_
  refine va_get (D := D) (ci := 2) (v := .ref a6) (C := nR_F) (T := nT_F) (N := 5) hx hb hts in_F hown hK hP 0 rfl rfl 2 (by decide) (hts _ tb_55) (fun _ h9 => h9) rfl ndF_end_80 ?_
  refine va_getN (D := D) (ci := 0) (v := .int (nI ((wn + 1) + 1))) (C := nR_R) (T := nT_R) (N := 2) hx hb hts in_R hown hK hP 6 rfl rfl 1 (by decide) (fd_nw hEV nb_0) (fun _ h9 => h9) rfl ndF_end_83 ?_
  exact fd_ret_i hx hb hr hlocks hS hP hD rfl (rfl) ndF_end_86
set_option maxHeartbeats 4000000 in
set_option maxRecDepth 100000 in
theorem kF_copy_no (l : Launch) (D : va_G) (Z : Nat → Nat) (cI cL : ClassId) {a0 a1 a2 a3 a4 a5 a6 a7 a8 a9 a10 n kd k wn od ok : Nat} {f fs wf os : Nat → Int32} {fn on : Nat → Int64} {cf : Int32} (hn : n ≤ 400) (hkd : kd ≤ 15) (hk : k ≤ 20) (hwn : wn ≤ 123) (hod : od ≤ 15) (hok : ok ≤ 20) (hno : od = 0 ∨ 400 < n + wn) : fd_Mi l D fd_cl (fd_ty cI cL) (fd_EV Z) nyF_copy (.code nyF_copy ncF_copy 2 (some .boolean) :: fd_TB) nmF_copy [.ref a0] [(a0, .inr (2, [.ref a1, .ref a3, .ref a6, .ref a8, .int cf])), (a1, .inr (0, [.ref a2, .int (nI n)])), (a2, .inl (cI, 400, .inl f)), (a3, .inr (1, [.ref a4, .ref a5, .int (nI kd), .int (nI k)])), (a4, .inl (cI, 20, .inl fs)), (a5, .inl (cL, 20, .inr (.inl fn))), (a6, .inr (0, [.ref a7, .int (nI wn)])), (a7, .inl (cI, 123, .inl wf)), (a8, .inr (1, [.ref a9, .ref a10, .int (nI od), .int (nI ok)])), (a9, .inl (cI, 20, .inl os)), (a10, .inl (cL, 20, .inr (.inl on)))] [(a0, .inr (2, [.ref a1, .ref a3, .ref a6, .ref a8, .int cf])), (a1, .inr (0, [.ref a2, .int (nI n)])), (a2, .inl (cI, 400, .inl f)), (a3, .inr (1, [.ref a4, .ref a5, .int (nI kd), .int (nI k)])), (a4, .inl (cI, 20, .inl fs)), (a5, .inl (cL, 20, .inr (.inl fn))), (a6, .inr (0, [.ref a7, .int (nI wn)])), (a7, .inl (cI, 123, .inl wf)), (a8, .inr (1, [.ref a9, .ref a10, .int (nI od), .int (nI ok)])), (a9, .inl (cI, 20, .inl os)), (a10, .inl (cL, 20, .inr (.inl on)))] 0 := by
  refine fd_open_i (cc := ncF_copy) (maxL := 2) (ret := (some .boolean)) (by decide) rfl (Nat.le_of_ble_eq_true rfl) ?_
  intro p e s m below meth c A ls X hP hD hS hl
  obtain ⟨hx, hb, hr, hml, hown, hts0, hlocks, hK, hEV, hA⟩ := X
  have hts : ∀ w ∈ fd_TB, w.before _ s = true := fun w h => hts0 w (List.mem_cons_of_mem _ h)
  have hE := fd_EV_ok Z
  have hown : s.vm.findClass "FieldDesk" = some m.cls := hown
  have hl : lv_has ls 2 [(0, .ref a0)] := hl
  refine lv_aload_n hx hb ndF_copy_0 rfl (lv_at hl 0 rfl) ?_
  refine va_get (D := D) (ci := 2) (v := .ref a8) (C := nR_F) (T := nT_F) (N := 5) hx hb hts in_F hown hK hP 0 rfl rfl 3 (by decide) (hts _ tb_56) (fun _ h9 => h9) rfl ndF_copy_1 ?_
  refine va_getN (D := D) (ci := 1) (v := .int (nI od)) (C := nR_M) (T := nT_M) (N := 4) hx hb hts in_M hown hK hP 8 rfl rfl 2 (by decide) (fd_nw hEV nb_2) (fun _ h9 => h9) rfl ndF_copy_4 ?_
  refine lv_if_eq (tgt := 27) hx hb ndF_copy_7 (by decide) (fun c_7 => ?_) (fun c_7 => ?_)
  · have n_7 := (nI_eq (a := od) (b := 0) (by omega) (by omega)).mp c_7
    refine lv_iconst (v := 0) hx hb ndF_copy_27 (by decide) ?_
    exact fd_ret_i hx hb hr hlocks hS hP hD rfl (rfl) ndF_copy_28
  · have n_7 := mt (nI_eq (a := od) (b := 0) (by omega) (by omega)).mpr c_7
    refine lv_aload_n hx hb ndF_copy_10 rfl (lv_at hl 0 rfl) ?_
    refine va_get (D := D) (ci := 2) (v := .ref a1) (C := nR_F) (T := nT_F) (N := 5) hx hb hts in_F hown hK hP 0 rfl rfl 0 (by decide) (hts _ tb_53) (fun _ h9 => h9) rfl ndF_copy_11 ?_
    refine lv_aload_n hx hb ndF_copy_14 rfl (lv_at hl 0 rfl) ?_
    refine va_get (D := D) (ci := 2) (v := .ref a6) (C := nR_F) (T := nT_F) (N := 5) hx hb hts in_F hown hK hP 0 rfl rfl 2 (by decide) (hts _ tb_55) (fun _ h9 => h9) rfl ndF_copy_15 ?_
    refine va_getN (D := D) (ci := 0) (v := .int (nI wn)) (C := nR_R) (T := nT_R) (N := 2) hx hb hts in_R hown hK hP 6 rfl rfl 1 (by decide) (fd_nw hEV nb_0) (fun _ h9 => h9) rfl ndF_copy_18 ?_
    refine fd_go_i (wr := [(a0, .inr (2, [.ref a1, .ref a3, .ref a6, .ref a8, .int cf])), (a3, .inr (1, [.ref a4, .ref a5, .int (nI kd), .int (nI k)])), (a4, .inl (cI, 20, .inl fs)), (a5, .inl (cL, 20, .inr (.inl fn))), (a6, .inr (0, [.ref a7, .int (nI wn)])), (a7, .inl (cI, 123, .inl wf)), (a8, .inr (1, [.ref a9, .ref a10, .int (nI od), .int (nI ok)])), (a9, .inl (cI, 20, .inl os)), (a10, .inl (cL, 20, .inr (.inl on)))]) (w2 := [(a0, .inr (2, [.ref a1, .ref a3, .ref a6, .ref a8, .int cf])), (a1, .inr (0, [.ref a2, .int (nI n)])), (a2, .inl (cI, 400, .inl f)), (a3, .inr (1, [.ref a4, .ref a5, .int (nI kd), .int (nI k)])), (a4, .inl (cI, 20, .inl fs)), (a5, .inl (cL, 20, .inr (.inl fn))), (a6, .inr (0, [.ref a7, .int (nI wn)])), (a7, .inl (cI, 123, .inl wf)), (a8, .inr (1, [.ref a9, .ref a10, .int (nI od), .int (nI ok)])), (a9, .inl (cI, 20, .inl os)), (a10, .inl (cL, 20, .inr (.inl on)))]) (va_runV (As := [.int (nI wn)]) (rest := []) ⟨hx, hb, hml, hown, hts⟩ (kR_hasRoomFor l D Z cI cL (n := n) (f := f) (by omega) (by omega) (nI wn) s.heap.size) (cwV 1 hts (fd_gV tb_67 tb_68 tb_69 tb_14 tb_70) rfl rfl rfl nhR_hasRoomFor ⟨(Nat.le_of_ble_eq_true rfl), (Nat.le_of_ble_eq_true rfl)⟩) (fd_PreV hE hK hEV hA hP hD hS [1, 2] rfl (by decide) (ci := 0) (q0 := 1) rfl rfl) rfl rfl hl.1 rfl (lv_room (Nat.le_of_ble_eq_true rfl)) ndF_copy_21 ⟨(Nat.le_of_ble_eq_true rfl), (Nat.le_of_ble_eq_true rfl)⟩) hP hD hS hA [1, 2] [0, 3, 4, 5, 6, 7, 8, 9, 10] rfl rfl (by decide) (by decide) [0, 9, 10, 1, 2, 3, 4, 5, 6, 7, 8] rfl (by decide) (fun H locs hP hD hS => ?_)
    refine fd_asi (y := 0) (if_pos (nI_lt (by omega) (by omega))) ?_
    refine lv_if_ne (tgt := 29) hx hb ndF_copy_24 (by decide) (fun c_24 => absurd (by decide) c_24) (fun _ => ?_)
    refine lv_iconst (v := 0) hx hb ndF_copy_27 (by decide) ?_
    exact fd_ret_i hx hb hr hlocks hS hP hD rfl (rfl) ndF_copy_28
set_option maxHeartbeats 4000000 in
set_option maxRecDepth 100000 in
theorem kF_copy_yes (l : Launch) (D : va_G) (Z : Nat → Nat) (cI cL : ClassId) {a0 a1 a2 a3 a4 a5 a6 a7 a8 a9 a10 n kd k wn od ok : Nat} {f fs wf os : Nat → Int32} {fn on : Nat → Int64} {cf : Int32} (hn : n ≤ 400) (hkd : kd ≤ 15) (hk : k ≤ 20) (hwn : wn ≤ 123) (hod : od ≤ 15) (hok : ok ≤ 20) (h1 : ¬ od = 0) (hj : n + wn ≤ 400) : fd_Mi l D fd_cl (fd_ty cI cL) (fd_EV Z) nyF_copy (.code nyF_copy ncF_copy 2 (some .boolean) :: fd_TB) nmF_copy [.ref a0] [(a0, .inr (2, [.ref a1, .ref a3, .ref a6, .ref a8, .int cf])), (a1, .inr (0, [.ref a2, .int (nI n)])), (a2, .inl (cI, 400, .inl f)), (a3, .inr (1, [.ref a4, .ref a5, .int (nI kd), .int (nI k)])), (a4, .inl (cI, 20, .inl fs)), (a5, .inl (cL, 20, .inr (.inl fn))), (a6, .inr (0, [.ref a7, .int (nI wn)])), (a7, .inl (cI, 123, .inl wf)), (a8, .inr (1, [.ref a9, .ref a10, .int (nI od), .int (nI ok)])), (a9, .inl (cI, 20, .inl os)), (a10, .inl (cL, 20, .inr (.inl on)))] [(a0, .inr (2, [.ref a1, .ref a3, .ref a6, .ref a8, .int cf])), (a1, .inr (0, [.ref a2, .int (nI (n + wn))])), (a2, .inl (cI, 400, .inl (fd_app f n wf wn))), (a3, .inr (1, [.ref a4, .ref a5, .int (nI kd), .int (nI k)])), (a4, .inl (cI, 20, .inl fs)), (a5, .inl (cL, 20, .inr (.inl fn))), (a6, .inr (0, [.ref a7, .int (nI wn)])), (a7, .inl (cI, 123, .inl wf)), (a8, .inr (1, [.ref a9, .ref a10, .int (nI od), .int (nI ok)])), (a9, .inl (cI, 20, .inl os)), (a10, .inl (cL, 20, .inr (.inl on)))] 1 := by
  refine fd_open_i (cc := ncF_copy) (maxL := 2) (ret := (some .boolean)) (by decide) rfl (Nat.le_of_ble_eq_true rfl) ?_
  intro p e s m below meth c A ls X hP hD hS hl
  obtain ⟨hx, hb, hr, hml, hown, hts0, hlocks, hK, hEV, hA⟩ := X
  have hts : ∀ w ∈ fd_TB, w.before _ s = true := fun w h => hts0 w (List.mem_cons_of_mem _ h)
  have hE := fd_EV_ok Z
  have hown : s.vm.findClass "FieldDesk" = some m.cls := hown
  have hl : lv_has ls 2 [(0, .ref a0)] := hl
  refine lv_aload_n hx hb ndF_copy_0 rfl (lv_at hl 0 rfl) ?_
  refine va_get (D := D) (ci := 2) (v := .ref a8) (C := nR_F) (T := nT_F) (N := 5) hx hb hts in_F hown hK hP 0 rfl rfl 3 (by decide) (hts _ tb_56) (fun _ h9 => h9) rfl ndF_copy_1 ?_
  refine va_getN (D := D) (ci := 1) (v := .int (nI od)) (C := nR_M) (T := nT_M) (N := 4) hx hb hts in_M hown hK hP 8 rfl rfl 2 (by decide) (fd_nw hEV nb_2) (fun _ h9 => h9) rfl ndF_copy_4 ?_
  refine lv_if_eq (tgt := 27) hx hb ndF_copy_7 (by decide) (fun c_7 => absurd c_7 (fun h9 => absurd ((nI_eq (a := od) (b := 0) (by omega) (by omega)).mp h9) (by omega))) (fun _ => ?_)
  refine lv_aload_n hx hb ndF_copy_10 rfl (lv_at hl 0 rfl) ?_
  refine va_get (D := D) (ci := 2) (v := .ref a1) (C := nR_F) (T := nT_F) (N := 5) hx hb hts in_F hown hK hP 0 rfl rfl 0 (by decide) (hts _ tb_53) (fun _ h9 => h9) rfl ndF_copy_11 ?_
  refine lv_aload_n hx hb ndF_copy_14 rfl (lv_at hl 0 rfl) ?_
  refine va_get (D := D) (ci := 2) (v := .ref a6) (C := nR_F) (T := nT_F) (N := 5) hx hb hts in_F hown hK hP 0 rfl rfl 2 (by decide) (hts _ tb_55) (fun _ h9 => h9) rfl ndF_copy_15 ?_
  refine va_getN (D := D) (ci := 0) (v := .int (nI wn)) (C := nR_R) (T := nT_R) (N := 2) hx hb hts in_R hown hK hP 6 rfl rfl 1 (by decide) (fd_nw hEV nb_0) (fun _ h9 => h9) rfl ndF_copy_18 ?_
  refine fd_go_i (wr := [(a0, .inr (2, [.ref a1, .ref a3, .ref a6, .ref a8, .int cf])), (a3, .inr (1, [.ref a4, .ref a5, .int (nI kd), .int (nI k)])), (a4, .inl (cI, 20, .inl fs)), (a5, .inl (cL, 20, .inr (.inl fn))), (a6, .inr (0, [.ref a7, .int (nI wn)])), (a7, .inl (cI, 123, .inl wf)), (a8, .inr (1, [.ref a9, .ref a10, .int (nI od), .int (nI ok)])), (a9, .inl (cI, 20, .inl os)), (a10, .inl (cL, 20, .inr (.inl on)))]) (w2 := [(a0, .inr (2, [.ref a1, .ref a3, .ref a6, .ref a8, .int cf])), (a1, .inr (0, [.ref a2, .int (nI n)])), (a2, .inl (cI, 400, .inl f)), (a3, .inr (1, [.ref a4, .ref a5, .int (nI kd), .int (nI k)])), (a4, .inl (cI, 20, .inl fs)), (a5, .inl (cL, 20, .inr (.inl fn))), (a6, .inr (0, [.ref a7, .int (nI wn)])), (a7, .inl (cI, 123, .inl wf)), (a8, .inr (1, [.ref a9, .ref a10, .int (nI od), .int (nI ok)])), (a9, .inl (cI, 20, .inl os)), (a10, .inl (cL, 20, .inr (.inl on)))]) (va_runV (As := [.int (nI wn)]) (rest := []) ⟨hx, hb, hml, hown, hts⟩ (kR_hasRoomFor l D Z cI cL (n := n) (f := f) (by omega) (by omega) (nI wn) s.heap.size) (cwV 1 hts (fd_gV tb_67 tb_68 tb_69 tb_14 tb_70) rfl rfl rfl nhR_hasRoomFor ⟨(Nat.le_of_ble_eq_true rfl), (Nat.le_of_ble_eq_true rfl)⟩) (fd_PreV hE hK hEV hA hP hD hS [1, 2] rfl (by decide) (ci := 0) (q0 := 1) rfl rfl) rfl rfl hl.1 rfl (lv_room (Nat.le_of_ble_eq_true rfl)) ndF_copy_21 ⟨(Nat.le_of_ble_eq_true rfl), (Nat.le_of_ble_eq_true rfl)⟩) hP hD hS hA [1, 2] [0, 3, 4, 5, 6, 7, 8, 9, 10] rfl rfl (by decide) (by decide) [0, 9, 10, 1, 2, 3, 4, 5, 6, 7, 8] rfl (by decide) (fun H locs hP hD hS => ?_)
  refine fd_asi (y := 1) (if_neg (nI_nlt (by omega) (by omega))) ?_
  refine lv_if_ne (tgt := 29) hx hb ndF_copy_24 (by decide) (fun _ => ?_) (fun c_24 => absurd c_24 (by decide))
  refine lv_iconst (v := 0) hx hb ndF_copy_29 (by decide) ?_
  refine lv_istore_n (lv' := [(1, .int 0), (0, .ref a0)]) hx hb ndF_copy_30 rfl hl (by decide) rfl (fun ls hl => ?_)
  have loop : ∀ (z : Nat) (i : Nat) (hi : i + z = wn) (H : Heap) (locs : List Loc) (ls : Array Slot), va_P D fd_cl [(a0, .inr (2, [.ref a1, .ref a3, .ref a6, .ref a8, .int cf])), (a1, .inr (0, [.ref a2, .int (nI (n + i))])), (a2, .inl (cI, 400, .inl (fd_app f n wf i))), (a3, .inr (1, [.ref a4, .ref a5, .int (nI kd), .int (nI k)])), (a4, .inl (cI, 20, .inl fs)), (a5, .inl (cL, 20, .inr (.inl fn))), (a6, .inr (0, [.ref a7, .int (nI wn)])), (a7, .inl (cI, 123, .inl wf)), (a8, .inr (1, [.ref a9, .ref a10, .int (nI od), .int (nI ok)])), (a9, .inl (cI, 20, .inl os)), (a10, .inl (cL, 20, .inr (.inl on)))] H → va_D A [(a0, .inr (2, [.ref a1, .ref a3, .ref a6, .ref a8, .int cf])), (a1, .inr (0, [.ref a2, .int (nI (n + i))])), (a2, .inl (cI, 400, .inl (fd_app f n wf i))), (a3, .inr (1, [.ref a4, .ref a5, .int (nI kd), .int (nI k)])), (a4, .inl (cI, 20, .inl fs)), (a5, .inl (cL, 20, .inr (.inl fn))), (a6, .inr (0, [.ref a7, .int (nI wn)])), (a7, .inl (cI, 123, .inl wf)), (a8, .inr (1, [.ref a9, .ref a10, .int (nI od), .int (nI ok)])), (a9, .inl (cI, 20, .inl os)), (a10, .inl (cL, 20, .inr (.inl on)))] → va_S A s.heap H locs → lv_has ls 2 [(0, .ref a0), (1, .int (nI i))] → W p l e nmF_copy s m ([.ref a0].toArray) below meth c H locs 0 0 (MQ below (va_Qi (fun r' (_ : Unit) => r' = 1) (fd_B D fd_cl A [(a0, .inr (2, [.ref a1, .ref a3, .ref a6, .ref a8, .int cf])), (a1, .inr (0, [.ref a2, .int (nI (n + wn))])), (a2, .inl (cI, 400, .inl (fd_app f n wf wn))), (a3, .inr (1, [.ref a4, .ref a5, .int (nI kd), .int (nI k)])), (a4, .inl (cI, 20, .inl fs)), (a5, .inl (cL, 20, .inr (.inl fn))), (a6, .inr (0, [.ref a7, .int (nI wn)])), (a7, .inl (cI, 123, .inl wf)), (a8, .inr (1, [.ref a9, .ref a10, .int (nI od), .int (nI ok)])), (a9, .inl (cI, 20, .inl os)), (a10, .inl (cL, 20, .inr (.inl on)))]) A) [.ref a0].toArray s 0 0 A) (F0 m 31 ls []) := by
    intro z
    induction z with
    | zero =>
      intro i hi H locs ls hP hD hS hl
      have e9 : wn = i := by omega
      subst e9
      refine lv_iload_n hx hb ndF_copy_31 rfl (lv_at hl 1 rfl) ?_
      refine lv_aload_n hx hb ndF_copy_32 rfl (lv_at hl 0 rfl) ?_
      refine va_get (D := D) (ci := 2) (v := .ref a6) (C := nR_F) (T := nT_F) (N := 5) hx hb hts in_F hown hK hP 0 rfl rfl 2 (by decide) (hts _ tb_55) (fun _ h9 => h9) rfl ndF_copy_33 ?_
      refine va_getN (D := D) (ci := 0) (v := .int (nI wn)) (C := nR_R) (T := nT_R) (N := 2) hx hb hts in_R hown hK hP 6 rfl rfl 1 (by decide) (fd_nw hEV nb_0) (fun _ h9 => h9) rfl ndF_copy_36 ?_
      refine lv_icmp_ge (tgt := 63) hx hb ndF_copy_39 (by decide) (fun _ => ?_) (fun c_39 => absurd ((nI_leI (a := wn) (b := wn) (by omega) (by omega)).mpr (by omega)) c_39)
      refine lv_iconst (v := 1) hx hb ndF_copy_63 (by decide) ?_
      exact fd_ret_i hx hb hr hlocks hS hP hD rfl (rfl) ndF_copy_64
    | succ z ih =>
      intro i hi H locs ls hP hD hS hl
      refine lv_iload_n hx hb ndF_copy_31 rfl (lv_at hl 1 rfl) ?_
      refine lv_aload_n hx hb ndF_copy_32 rfl (lv_at hl 0 rfl) ?_
      refine va_get (D := D) (ci := 2) (v := .ref a6) (C := nR_F) (T := nT_F) (N := 5) hx hb hts in_F hown hK hP 0 rfl rfl 2 (by decide) (hts _ tb_55) (fun _ h9 => h9) rfl ndF_copy_33 ?_
      refine va_getN (D := D) (ci := 0) (v := .int (nI wn)) (C := nR_R) (T := nT_R) (N := 2) hx hb hts in_R hown hK hP 6 rfl rfl 1 (by decide) (fd_nw hEV nb_0) (fun _ h9 => h9) rfl ndF_copy_36 ?_
      refine lv_icmp_ge (tgt := 63) hx hb ndF_copy_39 (by decide) (fun c_39 => absurd c_39 (fun h9 => absurd ((nI_leI (a := wn) (b := i) (by omega) (by omega)).mp h9) (by omega))) (fun _ => ?_)
      refine lv_aload_n hx hb ndF_copy_42 rfl (lv_at hl 0 rfl) ?_
      refine va_get (D := D) (ci := 2) (v := .ref a1) (C := nR_F) (T := nT_F) (N := 5) hx hb hts in_F hown hK hP 0 rfl rfl 0 (by decide) (hts _ tb_53) (fun _ h9 => h9) rfl ndF_copy_43 ?_
      refine lv_aload_n hx hb ndF_copy_46 rfl (lv_at hl 0 rfl) ?_
      refine va_get (D := D) (ci := 2) (v := .ref a6) (C := nR_F) (T := nT_F) (N := 5) hx hb hts in_F hown hK hP 0 rfl rfl 2 (by decide) (hts _ tb_55) (fun _ h9 => h9) rfl ndF_copy_47 ?_
      refine lv_iload_n hx hb ndF_copy_50 rfl (lv_at hl 1 rfl) ?_
      refine fd_go_i (wr := [(a0, .inr (2, [.ref a1, .ref a3, .ref a6, .ref a8, .int cf])), (a1, .inr (0, [.ref a2, .int (nI (n + i))])), (a2, .inl (cI, 400, .inl (fd_app f n wf i))), (a3, .inr (1, [.ref a4, .ref a5, .int (nI kd), .int (nI k)])), (a4, .inl (cI, 20, .inl fs)), (a5, .inl (cL, 20, .inr (.inl fn))), (a8, .inr (1, [.ref a9, .ref a10, .int (nI od), .int (nI ok)])), (a9, .inl (cI, 20, .inl os)), (a10, .inl (cL, 20, .inr (.inl on)))]) (w2 := [(a0, .inr (2, [.ref a1, .ref a3, .ref a6, .ref a8, .int cf])), (a1, .inr (0, [.ref a2, .int (nI (n + i))])), (a2, .inl (cI, 400, .inl (fd_app f n wf i))), (a3, .inr (1, [.ref a4, .ref a5, .int (nI kd), .int (nI k)])), (a4, .inl (cI, 20, .inl fs)), (a5, .inl (cL, 20, .inr (.inl fn))), (a6, .inr (0, [.ref a7, .int (nI wn)])), (a7, .inl (cI, 123, .inl wf)), (a8, .inr (1, [.ref a9, .ref a10, .int (nI od), .int (nI ok)])), (a9, .inl (cI, 20, .inl os)), (a10, .inl (cL, 20, .inr (.inl on)))]) (va_runV (As := [.int (nI i)]) (rest := [.ref a1]) ⟨hx, hb, hml, hown, hts⟩ (kR_at l D Z cI cL (n := wn) (f := wf) (by omega) (by omega) (nI i) H.size) (cwV 1 hts (fd_gV tb_91 tb_92 tb_93 tb_14 tb_94) rfl rfl rfl nhR_at ⟨(Nat.le_of_ble_eq_true rfl), (Nat.le_of_ble_eq_true rfl)⟩) (fd_PreV hE hK hEV hA hP hD hS [6, 7] rfl (by decide) (ci := 0) (q0 := 6) rfl rfl) rfl rfl hl.1 rfl (lv_room (Nat.le_of_ble_eq_true rfl)) ndF_copy_51 ⟨(Nat.le_of_ble_eq_true rfl), (Nat.le_of_ble_eq_true rfl)⟩) hP hD hS hA [6, 7] [0, 1, 2, 3, 4, 5, 8, 9, 10] rfl rfl (by decide) (by decide) [0, 1, 2, 3, 4, 5, 9, 10, 6, 7, 8] rfl (by decide) (fun H locs hP hD hS => ?_)
      refine fd_asi (y := wf i) (fd_at_lt (by omega) (by omega)) ?_
      refine fd_go_v (wr := [(a0, .inr (2, [.ref a1, .ref a3, .ref a6, .ref a8, .int cf])), (a3, .inr (1, [.ref a4, .ref a5, .int (nI kd), .int (nI k)])), (a4, .inl (cI, 20, .inl fs)), (a5, .inl (cL, 20, .inr (.inl fn))), (a6, .inr (0, [.ref a7, .int (nI wn)])), (a7, .inl (cI, 123, .inl wf)), (a8, .inr (1, [.ref a9, .ref a10, .int (nI od), .int (nI ok)])), (a9, .inl (cI, 20, .inl os)), (a10, .inl (cL, 20, .inr (.inl on)))]) (w2 := [(a0, .inr (2, [.ref a1, .ref a3, .ref a6, .ref a8, .int cf])), (a1, .inr (0, [.ref a2, .int (nI ((n + i) + 1))])), (a2, .inl (cI, 400, .inl (upd (fd_app f n wf i) (n + i) (wf i)))), (a3, .inr (1, [.ref a4, .ref a5, .int (nI kd), .int (nI k)])), (a4, .inl (cI, 20, .inl fs)), (a5, .inl (cL, 20, .inr (.inl fn))), (a6, .inr (0, [.ref a7, .int (nI wn)])), (a7, .inl (cI, 123, .inl wf)), (a8, .inr (1, [.ref a9, .ref a10, .int (nI od), .int (nI ok)])), (a9, .inl (cI, 20, .inl os)), (a10, .inl (cL, 20, .inr (.inl on)))]) (va_runV (As := [.int (wf i)]) (rest := []) ⟨hx, hb, hml, hown, hts⟩ (kR_append l D Z cI cL (n := (n + i)) (f := (fd_app f n wf i)) (by omega) (by omega) (wf i) H.size) (cwV 1 hts (fd_gV tb_71 tb_72 tb_73 tb_14 tb_74) rfl rfl rfl nhR_append ⟨(Nat.le_of_ble_eq_true rfl), (Nat.le_of_ble_eq_true rfl)⟩) (fd_PreV hE hK hEV hA hP hD hS [1, 2] rfl (by decide) (ci := 0) (q0 := 1) rfl rfl) rfl rfl hl.1 rfl (lv_room (Nat.le_of_ble_eq_true rfl)) ndF_copy_54 ⟨(Nat.le_of_ble_eq_true rfl), (Nat.le_of_ble_eq_true rfl)⟩) hP hD hS hA [1, 2] [0, 3, 4, 5, 6, 7, 8, 9, 10] rfl rfl (by decide) (by decide) [0, 9, 10, 1, 2, 3, 4, 5, 6, 7, 8] rfl (by decide) (fun H locs hP hD hS => ?_)
      refine lv_iinc (v := nI (i + 1)) (lv' := [(1, .int (nI (i + 1))), (0, .ref a0)]) hx hb ndF_copy_57 hl (k := 1) rfl (nI_1 i) (by decide) rfl (fun ls hl => ?_)
      refine lv_goto (tgt := 31) hx hb ndF_copy_60 (by decide) ?_
      rw [fd_app_s] at hP hD
      exact ih (i + 1) (by omega) _ _ _ hP hD hS (lv_sub hl [1, 0] rfl)
  rw [← fd_app_0 f n wf] at hP hD
  exact loop wn 0 (by omega) _ _ _ hP hD hS (lv_sub hl [1, 0] rfl)
end
section
/-! the desk: add -/
theorem fd_pred_lt {n : Nat} (h : n < 2 ^ 30) : nI n - 1 < nI n := by
  rw [Int32.lt_iff_toInt_lt, show nI n - 1 = nI n - nI 1 from rfl, pk_sub_toInt h (by decide), nI_toInt (by omega)]
  omega
set_option maxHeartbeats 4000000 in
set_option maxRecDepth 100000 in
theorem kF_writeField (l : Launch) (D : va_G) (Z : Nat → Nat) (cI cL : ClassId) {a0 a1 a2 a3 a4 a5 a6 a7 a8 a9 a10 n kd k wn od ok : Nat} {f fs wf os : Nat → Int32} {fn on : Nat → Int64} {cf : Int32} (hn : n ≤ 400) (hkd : kd ≤ 15) (hk : k ≤ 20) (hwn : wn ≤ 123) (hod : od ≤ 15) (hok : ok ≤ 20) {s1 w : Nat} (hs : fd_ent 0 (nI s1) = nI w) (hw : wn + w ≤ 123) (x : Int64) : fd_Mv l D fd_cl (fd_ty cI cL) (fd_EV Z) nyF_writeField (.code nyF_writeField ncF_writeField 11 none :: fd_TB) nmF_writeField [.ref a0, .int (nI s1), .long x] [(a0, .inr (2, [.ref a1, .ref a3, .ref a6, .ref a8, .int cf])), (a1, .inr (0, [.ref a2, .int (nI n)])), (a2, .inl (cI, 400, .inl f)), (a3, .inr (1, [.ref a4, .ref a5, .int (nI kd), .int (nI k)])), (a4, .inl (cI, 20, .inl fs)), (a5, .inl (cL, 20, .inr (.inl fn))), (a6, .inr (0, [.ref a7, .int (nI wn)])), (a7, .inl (cI, 123, .inl wf)), (a8, .inr (1, [.ref a9, .ref a10, .int (nI od), .int (nI ok)])), (a9, .inl (cI, 20, .inl os)), (a10, .inl (cL, 20, .inr (.inl on)))] [(a0, .inr (2, [.ref a1, .ref a3, .ref a6, .ref a8, .int cf])), (a1, .inr (0, [.ref a2, .int (nI n)])), (a2, .inl (cI, 400, .inl f)), (a3, .inr (1, [.ref a4, .ref a5, .int (nI kd), .int (nI k)])), (a4, .inl (cI, 20, .inl fs)), (a5, .inl (cL, 20, .inr (.inl fn))), (a6, .inr (0, [.ref a7, .int (nI (wn + w))])), (a7, .inl (cI, 123, .inl (fd_dg s1 wn w (fd_pad w wf wn) x))), (a8, .inr (1, [.ref a9, .ref a10, .int (nI od), .int (nI ok)])), (a9, .inl (cI, 20, .inl os)), (a10, .inl (cL, 20, .inr (.inl on)))] := by
  refine fd_open_v (cc := ncF_writeField) (maxL := 11) (ret := none) (by decide) rfl (Nat.le_of_ble_eq_true rfl) ?_
  intro p e s m below meth c A ls X hP hD hS hl
  obtain ⟨hx, hb, hr, hml, hown, hts0, hlocks, hK, hEV, hA⟩ := X
  have hts : ∀ w ∈ fd_TB, w.before _ s = true := fun w h => hts0 w (List.mem_cons_of_mem _ h)
  have hE := fd_EV_ok Z
  have hown : s.vm.findClass "FieldDesk" = some m.cls := hown
  have hl : lv_has ls 11 [(0, .ref a0), (1, .int (nI s1)), (2, .long x)] := hl
  refine lv_aload_n hx hb ndF_writeField_0 rfl (lv_at hl 0 rfl) ?_
  refine va_get (D := D) (ci := 2) (v := .ref a6) (C := nR_F) (T := nT_F) (N := 5) hx hb hts in_F hown hK hP 0 rfl rfl 2 (by decide) (hts _ tb_55) (fun _ h9 => h9) rfl ndF_writeField_1 ?_
  refine va_getN (D := D) (ci := 0) (v := .int (nI wn)) (C := nR_R) (T := nT_R) (N := 2) hx hb hts in_R hown hK hP 6 rfl rfl 1 (by decide) (fd_nw hEV nb_0) (fun _ h9 => h9) rfl ndF_writeField_4 ?_
  refine lv_istore (lv' := [(4, .int (nI wn)), (0, .ref a0), (1, .int (nI s1)), (2, .long x)]) hx hb ndF_writeField_7 hl (by decide) rfl (fun ls hl => ?_)
  refine lv_iload hx hb ndF_writeField_9 (lv_at hl 0 rfl) ?_
  refine va_gets hx hb (hEV.2.2.2.1 0 (by decide)).1 hS hown (hts _ tb_144) (fun _ h9 => h9) ndF_writeField_11 ?_
  refine lv_iload_n hx hb ndF_writeField_14 rfl (lv_at hl 2 rfl) ?_
  refine fd_go_i (wr := [(a0, .inr (2, [.ref a1, .ref a3, .ref a6, .ref a8, .int cf])), (a1, .inr (0, [.ref a2, .int (nI n)])), (a2, .inl (cI, 400, .inl f)), (a3, .inr (1, [.ref a4, .ref a5, .int (nI kd), .int (nI k)])), (a4, .inl (cI, 20, .inl fs)), (a5, .inl (cL, 20, .inr (.inl fn))), (a6, .inr (0, [.ref a7, .int (nI wn)])), (a7, .inl (cI, 123, .inl wf)), (a8, .inr (1, [.ref a9, .ref a10, .int (nI od), .int (nI ok)])), (a9, .inl (cI, 20, .inl os)), (a10, .inl (cL, 20, .inr (.inl on)))]) (w2 := [(a0, .inr (2, [.ref a1, .ref a3, .ref a6, .ref a8, .int cf])), (a1, .inr (0, [.ref a2, .int (nI n)])), (a2, .inl (cI, 400, .inl f)), (a3, .inr (1, [.ref a4, .ref a5, .int (nI kd), .int (nI k)])), (a4, .inl (cI, 20, .inl fs)), (a5, .inl (cL, 20, .inr (.inl fn))), (a6, .inr (0, [.ref a7, .int (nI wn)])), (a7, .inl (cI, 123, .inl wf)), (a8, .inr (1, [.ref a9, .ref a10, .int (nI od), .int (nI ok)])), (a9, .inl (cI, 20, .inl os)), (a10, .inl (cL, 20, .inr (.inl on)))]) (va_runS (As := [.ref (Z 0), .int (nI s1)]) (rest := [.int (nI wn)]) ⟨hx, hb, hml, hown, hts⟩ (kF_entry l D Z cI cL (k := 0) (by decide) (nI s1) s.heap.size) (va_cwS 2 hts (fd_gS tb_145 tb_142 tb_13 tb_143) rfl rfl rfl nhF_entry.2 ⟨(Nat.le_of_ble_eq_true rfl), (Nat.le_of_ble_eq_true rfl)⟩) (fd_PreS hE hK hEV hA hP hD hS [] rfl (by decide)) rfl rfl hl.1 rfl (lv_room (Nat.le_of_ble_eq_true rfl)) ndF_writeField_15 ⟨(Nat.le_of_ble_eq_true rfl), (Nat.le_of_ble_eq_true rfl)⟩) hP hD hS hA [] [0, 1, 2, 3, 4, 5, 6, 7, 8, 9, 10] rfl rfl (by decide) (by decide) [0, 1, 2, 3, 4, 5, 6, 7, 8, 9, 10] rfl (by decide) (fun H locs hP hD hS => ?_)
  refine fd_asi (y := nI w) hs ?_
  refine lv_iadd hx hb ndF_writeField_18 ?_
  refine fd_asi (y := nI (wn + w)) (nI_add _ _) ?_
  refine lv_istore (lv' := [(5, .int (nI (wn + w))), (4, .int (nI wn)), (0, .ref a0), (1, .int (nI s1)), (2, .long x)]) hx hb ndF_writeField_19 hl (by decide) rfl (fun ls hl => ?_)
  refine lv_iload hx hb ndF_writeField_21 (lv_at hl 1 rfl) ?_
  refine lv_istore (lv' := [(6, .int (nI wn)), (5, .int (nI (wn + w))), (4, .int (nI wn)), (0, .ref a0), (1, .int (nI s1)), (2, .long x)]) hx hb ndF_writeField_23 hl (by decide) rfl (fun ls hl => ?_)
  have loop1 : ∀ (z : Nat) (n1 : Nat) (f1 : Nat → Int32) (hm : n1 + z = wn + w) (hf : fd_pad z f1 n1 = fd_pad w wf wn) (H : Heap) (locs : List Loc) (ls : Array Slot), va_P D fd_cl [(a0, .inr (2, [.ref a1, .ref a3, .ref a6, .ref a8, .int cf])), (a1, .inr (0, [.ref a2, .int (nI n)])), (a2, .inl (cI, 400, .inl f)), (a3, .inr (1, [.ref a4, .ref a5, .int (nI kd), .int (nI k)])), (a4, .inl (cI, 20, .inl fs)), (a5, .inl (cL, 20, .inr (.inl fn))), (a6, .inr (0, [.ref a7, .int (nI n1)])), (a7, .inl (cI, 123, .inl f1)), (a8, .inr (1, [.ref a9, .ref a10, .int (nI od), .int (nI ok)])), (a9, .inl (cI, 20, .inl os)), (a10, .inl (cL, 20, .inr (.inl on)))] H → va_D A [(a0, .inr (2, [.ref a1, .ref a3, .ref a6, .ref a8, .int cf])), (a1, .inr (0, [.ref a2, .int (nI n)])), (a2, .inl (cI, 400, .inl f)), (a3, .inr (1, [.ref a4, .ref a5, .int (nI kd), .int (nI k)])), (a4, .inl (cI, 20, .inl fs)), (a5, .inl (cL, 20, .inr (.inl fn))), (a6, .inr (0, [.ref a7, .int (nI n1)])), (a7, .inl (cI, 123, .inl f1)), (a8, .inr (1, [.ref a9, .ref a10, .int (nI od), .int (nI ok)])), (a9, .inl (cI, 20, .inl os)), (a10, .inl (cL, 20, .inr (.inl on)))] → va_S A s.heap H locs → lv_has ls 11 [(0, .ref a0), (1, .int (nI s1)), (2, .long x), (4, .int (nI wn)), (5, .int (nI (wn + w))), (6, .int (nI n1))] → W p l e nmF_writeField s m ([.ref a0, .int (nI s1), .long x].toArray) below meth c H locs 0 0 (MQ below (va_Qv (fun (_ : Unit) => True) (fd_B D fd_cl A [(a0, .inr (2, [.ref a1, .ref a3, .ref a6, .ref a8, .int cf])), (a1, .inr (0, [.ref a2, .int (nI n)])), (a2, .inl (cI, 400, .inl f)), (a3, .inr (1, [.ref a4, .ref a5, .int (nI kd), .int (nI k)])), (a4, .inl (cI, 20, .inl fs)), (a5, .inl (cL, 20, .inr (.inl fn))), (a6, .inr (0, [.ref a7, .int (nI (wn + w))])), (a7, .inl (cI, 123, .inl (fd_dg s1 wn w (fd_pad w wf wn) x))), (a8, .inr (1, [.ref a9, .ref a10, .int (nI od), .int (nI ok)])), (a9, .inl (cI, 20, .inl os)), (a10, .inl (cL, 20, .inr (.inl on)))]) A) [.ref a0, .int (nI s1), .long x].toArray s 0 0 A) (F0 m 25 ls []) := by
    intro z
    induction z with
    | zero =>
      intro n1 f1 hm hf H locs ls hP hD hS hl
      obtain rfl : n1 = wn + w := by omega
      obtain rfl : f1 = fd_pad w wf wn := hf
      refine lv_iload hx hb ndF_writeField_25 (lv_at hl 5 rfl) ?_
      refine lv_iload hx hb ndF_writeField_27 (lv_at hl 4 rfl) ?_
      refine lv_icmp_ge (tgt := 47) hx hb ndF_writeField_29 (by decide) (fun _ => ?_) (fun c_29 => absurd ((nI_leI (a := (wn + w)) (b := (wn + w)) (by omega) (by omega)).mpr (by omega)) c_29)
      refine lv_iload_n hx hb ndF_writeField_47 rfl (lv_at hl 1 rfl) ?_
      refine fd_go_i (wr := [(a0, .inr (2, [.ref a1, .ref a3, .ref a6, .ref a8, .int cf])), (a1, .inr (0, [.ref a2, .int (nI n)])), (a2, .inl (cI, 400, .inl f)), (a3, .inr (1, [.ref a4, .ref a5, .int (nI kd), .int (nI k)])), (a4, .inl (cI, 20, .inl fs)), (a5, .inl (cL, 20, .inr (.inl fn))), (a6, .inr (0, [.ref a7, .int (nI (wn + w))])), (a7, .inl (cI, 123, .inl (fd_pad w wf wn))), (a8, .inr (1, [.ref a9, .ref a10, .int (nI od), .int (nI ok)])), (a9, .inl (cI, 20, .inl os)), (a10, .inl (cL, 20, .inr (.inl on)))]) (w2 := [(a0, .inr (2, [.ref a1, .ref a3, .ref a6, .ref a8, .int cf])), (a1, .inr (0, [.ref a2, .int (nI n)])), (a2, .inl (cI, 400, .inl f)), (a3, .inr (1, [.ref a4, .ref a5, .int (nI kd), .int (nI k)])), (a4, .inl (cI, 20, .inl fs)), (a5, .inl (cL, 20, .inr (.inl fn))), (a6, .inr (0, [.ref a7, .int (nI (wn + w))])), (a7, .inl (cI, 123, .inl (fd_pad w wf wn))), (a8, .inr (1, [.ref a9, .ref a10, .int (nI od), .int (nI ok)])), (a9, .inl (cI, 20, .inl os)), (a10, .inl (cL, 20, .inr (.inl on)))]) (va_runS (As := [.int (nI s1)]) (rest := []) ⟨hx, hb, hml, hown, hts⟩ (kF_isToBase36 l D Z cI cL (nI s1) H.size) (va_cwS 1 hts (fd_gS tb_149 tb_150 tb_13 tb_151) rfl rfl rfl nhF_isToBase36.2 ⟨(Nat.le_of_ble_eq_true rfl), (Nat.le_of_ble_eq_true rfl)⟩) (fd_PreS hE hK hEV hA hP hD hS [] rfl (by decide)) rfl rfl hl.1 rfl (lv_room (Nat.le_of_ble_eq_true rfl)) ndF_writeField_48 ⟨(Nat.le_of_ble_eq_true rfl), (Nat.le_of_ble_eq_true rfl)⟩) hP hD hS hA [] [0, 1, 2, 3, 4, 5, 6, 7, 8, 9, 10] rfl rfl (by decide) (by decide) [0, 1, 2, 3, 4, 5, 6, 7, 8, 9, 10] rfl (by decide) (fun H locs hP hD hS => ?_)
      refine lv_istore (lv' := [(6, .int (fd_b36 (nI s1))), (0, .ref a0), (1, .int (nI s1)), (2, .long x), (4, .int (nI wn)), (5, .int (nI (wn + w)))]) hx hb ndF_writeField_51 hl (by decide) rfl (fun ls hl => ?_)
      refine lv_lload_n hx hb ndF_writeField_53 rfl (lv_at hl 3 rfl) ?_
      refine lv_lstore (lv' := [(7, .long x), (6, .int (fd_b36 (nI s1))), (0, .ref a0), (1, .int (nI s1)), (2, .long x), (4, .int (nI wn)), (5, .int (nI (wn + w)))]) hx hb ndF_writeField_54 hl (by decide) rfl (fun ls hl => ?_)
      refine lv_iload hx hb ndF_writeField_56 (lv_at hl 6 rfl) ?_
      refine lv_iconst (v := 1) hx hb ndF_writeField_58 (by decide) ?_
      refine lv_isub hx hb ndF_writeField_59 ?_
      refine lv_istore (lv' := [(9, .int ((nI (wn + w)) - 1)), (7, .long x), (6, .int (fd_b36 (nI s1))), (0, .ref a0), (1, .int (nI s1)), (2, .long x), (4, .int (nI wn)), (5, .int (nI (wn + w)))]) hx hb ndF_writeField_60 hl (by decide) rfl (fun ls hl => ?_)
      have loop2 : ∀ (z : Nat) (g1 : Nat → Int32) (x1 : Int64) (hz : z ≤ w) (hg : fd_dg s1 wn z g1 x1 = fd_dg s1 wn w (fd_pad w wf wn) x) (H : Heap) (locs : List Loc) (ls : Array Slot), va_P D fd_cl [(a0, .inr (2, [.ref a1, .ref a3, .ref a6, .ref a8, .int cf])), (a1, .inr (0, [.ref a2, .int (nI n)])), (a2, .inl (cI, 400, .inl f)), (a3, .inr (1, [.ref a4, .ref a5, .int (nI kd), .int (nI k)])), (a4, .inl (cI, 20, .inl fs)), (a5, .inl (cL, 20, .inr (.inl fn))), (a6, .inr (0, [.ref a7, .int (nI (wn + w))])), (a7, .inl (cI, 123, .inl g1)), (a8, .inr (1, [.ref a9, .ref a10, .int (nI od), .int (nI ok)])), (a9, .inl (cI, 20, .inl os)), (a10, .inl (cL, 20, .inr (.inl on)))] H → va_D A [(a0, .inr (2, [.ref a1, .ref a3, .ref a6, .ref a8, .int cf])), (a1, .inr (0, [.ref a2, .int (nI n)])), (a2, .inl (cI, 400, .inl f)), (a3, .inr (1, [.ref a4, .ref a5, .int (nI kd), .int (nI k)])), (a4, .inl (cI, 20, .inl fs)), (a5, .inl (cL, 20, .inr (.inl fn))), (a6, .inr (0, [.ref a7, .int (nI (wn + w))])), (a7, .inl (cI, 123, .inl g1)), (a8, .inr (1, [.ref a9, .ref a10, .int (nI od), .int (nI ok)])), (a9, .inl (cI, 20, .inl os)), (a10, .inl (cL, 20, .inr (.inl on)))] → va_S A s.heap H locs → lv_has ls 11 [(0, .ref a0), (1, .int (nI s1)), (4, .int (nI wn)), (6, .int (fd_b36 (nI s1))), (7, .long x1), (9, .int (nI (wn + z) - 1))] → W p l e nmF_writeField s m ([.ref a0, .int (nI s1), .long x].toArray) below meth c H locs 0 0 (MQ below (va_Qv (fun (_ : Unit) => True) (fd_B D fd_cl A [(a0, .inr (2, [.ref a1, .ref a3, .ref a6, .ref a8, .int cf])), (a1, .inr (0, [.ref a2, .int (nI n)])), (a2, .inl (cI, 400, .inl f)), (a3, .inr (1, [.ref a4, .ref a5, .int (nI kd), .int (nI k)])), (a4, .inl (cI, 20, .inl fs)), (a5, .inl (cL, 20, .inr (.inl fn))), (a6, .inr (0, [.ref a7, .int (nI (wn + w))])), (a7, .inl (cI, 123, .inl (fd_dg s1 wn w (fd_pad w wf wn) x))), (a8, .inr (1, [.ref a9, .ref a10, .int (nI od), .int (nI ok)])), (a9, .inl (cI, 20, .inl os)), (a10, .inl (cL, 20, .inr (.inl on)))]) A) [.ref a0, .int (nI s1), .long x].toArray s 0 0 A) (F0 m 62 ls []) := by
        intro z
        induction z with
        | zero =>
          intro g1 x1 hz hg H locs ls hP hD hS hl
          obtain rfl : g1 = fd_dg s1 wn w (fd_pad w wf wn) x := hg
          refine lv_iload hx hb ndF_writeField_62 (lv_at hl 5 rfl) ?_
          refine lv_iload hx hb ndF_writeField_64 (lv_at hl 2 rfl) ?_
          refine lv_icmp_lt (tgt := 135) hx hb ndF_writeField_66 (by decide) (fun _ => ?_) (fun c_66 => absurd (fd_pred_lt (by omega)) c_66)
          exact fd_ret_v hx hb hr hlocks hS hP hD ndF_writeField_135
        | succ z ih =>
          intro g1 x1 hz hg H locs ls hP hD hS hl
          rw [← Nat.add_assoc, nI_pred] at hl
          refine lv_iload hx hb ndF_writeField_62 (lv_at hl 5 rfl) ?_
          refine lv_iload hx hb ndF_writeField_64 (lv_at hl 2 rfl) ?_
          refine lv_icmp_lt (tgt := 135) hx hb ndF_writeField_66 (by decide) (fun c_66 => absurd c_66 (fun h9 => absurd ((nI_ltI (a := (wn + z)) (b := wn) (by omega) (by omega)).mp h9) (by omega))) (fun _ => ?_)
          refine lv_iload hx hb ndF_writeField_69 (lv_at hl 3 rfl) ?_
          refine lv_if_eq (tgt := 83) hx hb ndF_writeField_71 (by decide) (fun c_71 => ?_) (fun c_71 => ?_)
          · refine lv_lload hx hb ndF_writeField_83 (lv_at hl 4 rfl) ?_
            refine lv_ldc2 hx hb hown (hts _ tb_222) ndF_writeField_85 ?_
            refine lv_lrem hx hb ndF_writeField_88 (by decide) ?_
            refine fd_asl (y := x1 - x1 / fd_bs s1 * fd_bs s1) (by rw [fd_bs_p c_71]) ?_
            refine lv_l2i hx hb ndF_writeField_89 rfl ?_
            refine lv_istore (lv' := [(10, .int ((x1 - x1 / fd_bs s1 * fd_bs s1).toInt32)), (0, .ref a0), (1, .int (nI s1)), (4, .int (nI wn)), (6, .int (fd_b36 (nI s1))), (7, .long x1), (9, .int (nI (wn + z)))]) hx hb ndF_writeField_90 hl (by decide) rfl (fun ls hl => ?_)
            refine lv_aload_n hx hb ndF_writeField_92 rfl (lv_at hl 1 rfl) ?_
            refine va_get (D := D) (ci := 2) (v := .ref a6) (C := nR_F) (T := nT_F) (N := 5) hx hb hts in_F hown hK hP 0 rfl rfl 2 (by decide) (hts _ tb_55) (fun _ h9 => h9) rfl ndF_writeField_93 ?_
            refine lv_iload hx hb ndF_writeField_96 (lv_at hl 6 rfl) ?_
            refine lv_iload_n hx hb ndF_writeField_98 rfl (lv_at hl 2 rfl) ?_
            refine lv_iload hx hb ndF_writeField_99 (lv_at hl 0 rfl) ?_
            refine fd_go_i (wr := [(a0, .inr (2, [.ref a1, .ref a3, .ref a6, .ref a8, .int cf])), (a1, .inr (0, [.ref a2, .int (nI n)])), (a2, .inl (cI, 400, .inl f)), (a3, .inr (1, [.ref a4, .ref a5, .int (nI kd), .int (nI k)])), (a4, .inl (cI, 20, .inl fs)), (a5, .inl (cL, 20, .inr (.inl fn))), (a6, .inr (0, [.ref a7, .int (nI (wn + w))])), (a7, .inl (cI, 123, .inl g1)), (a8, .inr (1, [.ref a9, .ref a10, .int (nI od), .int (nI ok)])), (a9, .inl (cI, 20, .inl os)), (a10, .inl (cL, 20, .inr (.inl on)))]) (w2 := [(a0, .inr (2, [.ref a1, .ref a3, .ref a6, .ref a8, .int cf])), (a1, .inr (0, [.ref a2, .int (nI n)])), (a2, .inl (cI, 400, .inl f)), (a3, .inr (1, [.ref a4, .ref a5, .int (nI kd), .int (nI k)])), (a4, .inl (cI, 20, .inl fs)), (a5, .inl (cL, 20, .inr (.inl fn))), (a6, .inr (0, [.ref a7, .int (nI (wn + w))])), (a7, .inl (cI, 123, .inl g1)), (a8, .inr (1, [.ref a9, .ref a10, .int (nI od), .int (nI ok)])), (a9, .inl (cI, 20, .inl os)), (a10, .inl (cL, 20, .inr (.inl on)))]) (va_runS (As := [.int (nI s1), .int ((x1 - x1 / fd_bs s1 * fd_bs s1).toInt32)]) (rest := [.int (nI (wn + z)), .ref a6]) ⟨hx, hb, hml, hown, hts⟩ (kF_signInSort l D Z cI cL (nI s1) ((x1 - x1 / fd_bs s1 * fd_bs s1).toInt32) H.size) (va_cwS 2 hts (fd_gS tb_223 tb_224 tb_13 tb_225) rfl rfl rfl nhF_signInSort.2 ⟨(Nat.le_of_ble_eq_true rfl), (Nat.le_of_ble_eq_true rfl)⟩) (fd_PreS hE hK hEV hA hP hD hS [] rfl (by decide)) rfl rfl hl.1 rfl (lv_room (Nat.le_of_ble_eq_true rfl)) ndF_writeField_101 ⟨(Nat.le_of_ble_eq_true rfl), (Nat.le_of_ble_eq_true rfl)⟩) hP hD hS hA [] [0, 1, 2, 3, 4, 5, 6, 7, 8, 9, 10] rfl rfl (by decide) (by decide) [0, 1, 2, 3, 4, 5, 6, 7, 8, 9, 10] rfl (by decide) (fun H locs hP hD hS => ?_)
            refine fd_go_v (wr := [(a0, .inr (2, [.ref a1, .ref a3, .ref a6, .ref a8, .int cf])), (a1, .inr (0, [.ref a2, .int (nI n)])), (a2, .inl (cI, 400, .inl f)), (a3, .inr (1, [.ref a4, .ref a5, .int (nI kd), .int (nI k)])), (a4, .inl (cI, 20, .inl fs)), (a5, .inl (cL, 20, .inr (.inl fn))), (a8, .inr (1, [.ref a9, .ref a10, .int (nI od), .int (nI ok)])), (a9, .inl (cI, 20, .inl os)), (a10, .inl (cL, 20, .inr (.inl on)))]) (w2 := [(a0, .inr (2, [.ref a1, .ref a3, .ref a6, .ref a8, .int cf])), (a1, .inr (0, [.ref a2, .int (nI n)])), (a2, .inl (cI, 400, .inl f)), (a3, .inr (1, [.ref a4, .ref a5, .int (nI kd), .int (nI k)])), (a4, .inl (cI, 20, .inl fs)), (a5, .inl (cL, 20, .inr (.inl fn))), (a6, .inr (0, [.ref a7, .int (nI (wn + w))])), (a7, .inl (cI, 123, .inl (upd g1 (wn + z) (fd_sis (nI s1) ((x1 - x1 / fd_bs s1 * fd_bs s1).toInt32))))), (a8, .inr (1, [.ref a9, .ref a10, .int (nI od), .int (nI ok)])), (a9, .inl (cI, 20, .inl os)), (a10, .inl (cL, 20, .inr (.inl on)))]) (va_runV (As := [.int (nI (wn + z)), .int (fd_sis (nI s1) ((x1 - x1 / fd_bs s1 * fd_bs s1).toInt32))]) (rest := []) ⟨hx, hb, hml, hown, hts⟩ (kR_put l D Z cI cL (n := (wn + w)) (f := g1) (k := (wn + z)) (by omega) (by omega) (by omega) (fd_sis (nI s1) ((x1 - x1 / fd_bs s1 * fd_bs s1).toInt32)) H.size) (cwV 2 hts (fd_gV tb_226 tb_227 tb_228 tb_14 tb_229) rfl rfl rfl nhR_put ⟨(Nat.le_of_ble_eq_true rfl), (Nat.le_of_ble_eq_true rfl)⟩) (fd_PreV hE hK hEV hA hP hD hS [6, 7] rfl (by decide) (ci := 0) (q0 := 6) rfl rfl) rfl rfl hl.1 rfl (lv_room (Nat.le_of_ble_eq_true rfl)) ndF_writeField_104 ⟨(Nat.le_of_ble_eq_true rfl), (Nat.le_of_ble_eq_true rfl)⟩) hP hD hS hA [6, 7] [0, 1, 2, 3, 4, 5, 8, 9, 10] rfl rfl (by decide) (by decide) [0, 1, 2, 3, 4, 5, 9, 10, 6, 7, 8] rfl (by decide) (fun H locs hP hD hS => ?_)
            refine lv_iload hx hb ndF_writeField_107 (lv_at hl 4 rfl) ?_
            refine lv_if_eq (tgt := 121) hx hb ndF_writeField_109 (by decide) (fun _ => ?_) (fun c_109 => absurd c_71 c_109)
            refine lv_lload hx hb ndF_writeField_121 (lv_at hl 5 rfl) ?_
            refine lv_ldc2 hx hb hown (hts _ tb_222) ndF_writeField_123 ?_
            refine lv_ldiv hx hb ndF_writeField_126 (by decide) ?_
            refine fd_asl (y := x1 / fd_bs s1) (by rw [fd_bs_p c_71]) ?_
            refine lv_lstore (lv' := [(7, .long (x1 / fd_bs s1)), (10, .int ((x1 - x1 / fd_bs s1 * fd_bs s1).toInt32)), (0, .ref a0), (1, .int (nI s1)), (4, .int (nI wn)), (6, .int (fd_b36 (nI s1))), (9, .int (nI (wn + z)))]) hx hb ndF_writeField_127 hl (by decide) rfl (fun ls hl => ?_)
            refine lv_iinc (v := nI (wn + z) - 1) (lv' := [(9, .int (nI (wn + z) - 1)), (7, .long (x1 / fd_bs s1)), (10, .int ((x1 - x1 / fd_bs s1 * fd_bs s1).toInt32)), (0, .ref a0), (1, .int (nI s1)), (4, .int (nI wn)), (6, .int (fd_b36 (nI s1)))]) hx hb ndF_writeField_129 hl (k := 6) rfl (fd_dec _) (by decide) rfl (fun ls hl => ?_)
            refine lv_goto (tgt := 62) hx hb ndF_writeField_132 (by decide) ?_
            exact ih _ _ (by omega) hg _ _ _ hP hD hS (lv_sub hl [3, 4, 5, 6, 1, 0] rfl)
          · refine lv_lload hx hb ndF_writeField_74 (lv_at hl 4 rfl) ?_
            refine lv_ldc2 hx hb hown (hts _ tb_221) ndF_writeField_76 ?_
            refine lv_lrem hx hb ndF_writeField_79 (by decide) ?_
            refine fd_asl (y := x1 - x1 / fd_bs s1 * fd_bs s1) (by rw [fd_bs_n c_71]) ?_
            refine lv_goto (tgt := 89) hx hb ndF_writeField_80 (by decide) ?_
            refine lv_l2i hx hb ndF_writeField_89 rfl ?_
            refine lv_istore (lv' := [(10, .int ((x1 - x1 / fd_bs s1 * fd_bs s1).toInt32)), (0, .ref a0), (1, .int (nI s1)), (4, .int (nI wn)), (6, .int (fd_b36 (nI s1))), (7, .long x1), (9, .int (nI (wn + z)))]) hx hb ndF_writeField_90 hl (by decide) rfl (fun ls hl => ?_)
            refine lv_aload_n hx hb ndF_writeField_92 rfl (lv_at hl 1 rfl) ?_
            refine va_get (D := D) (ci := 2) (v := .ref a6) (C := nR_F) (T := nT_F) (N := 5) hx hb hts in_F hown hK hP 0 rfl rfl 2 (by decide) (hts _ tb_55) (fun _ h9 => h9) rfl ndF_writeField_93 ?_
            refine lv_iload hx hb ndF_writeField_96 (lv_at hl 6 rfl) ?_
            refine lv_iload_n hx hb ndF_writeField_98 rfl (lv_at hl 2 rfl) ?_
            refine lv_iload hx hb ndF_writeField_99 (lv_at hl 0 rfl) ?_
            refine fd_go_i (wr := [(a0, .inr (2, [.ref a1, .ref a3, .ref a6, .ref a8, .int cf])), (a1, .inr (0, [.ref a2, .int (nI n)])), (a2, .inl (cI, 400, .inl f)), (a3, .inr (1, [.ref a4, .ref a5, .int (nI kd), .int (nI k)])), (a4, .inl (cI, 20, .inl fs)), (a5, .inl (cL, 20, .inr (.inl fn))), (a6, .inr (0, [.ref a7, .int (nI (wn + w))])), (a7, .inl (cI, 123, .inl g1)), (a8, .inr (1, [.ref a9, .ref a10, .int (nI od), .int (nI ok)])), (a9, .inl (cI, 20, .inl os)), (a10, .inl (cL, 20, .inr (.inl on)))]) (w2 := [(a0, .inr (2, [.ref a1, .ref a3, .ref a6, .ref a8, .int cf])), (a1, .inr (0, [.ref a2, .int (nI n)])), (a2, .inl (cI, 400, .inl f)), (a3, .inr (1, [.ref a4, .ref a5, .int (nI kd), .int (nI k)])), (a4, .inl (cI, 20, .inl fs)), (a5, .inl (cL, 20, .inr (.inl fn))), (a6, .inr (0, [.ref a7, .int (nI (wn + w))])), (a7, .inl (cI, 123, .inl g1)), (a8, .inr (1, [.ref a9, .ref a10, .int (nI od), .int (nI ok)])), (a9, .inl (cI, 20, .inl os)), (a10, .inl (cL, 20, .inr (.inl on)))]) (va_runS (As := [.int (nI s1), .int ((x1 - x1 / fd_bs s1 * fd_bs s1).toInt32)]) (rest := [.int (nI (wn + z)), .ref a6]) ⟨hx, hb, hml, hown, hts⟩ (kF_signInSort l D Z cI cL (nI s1) ((x1 - x1 / fd_bs s1 * fd_bs s1).toInt32) H.size) (va_cwS 2 hts (fd_gS tb_223 tb_224 tb_13 tb_225) rfl rfl rfl nhF_signInSort.2 ⟨(Nat.le_of_ble_eq_true rfl), (Nat.le_of_ble_eq_true rfl)⟩) (fd_PreS hE hK hEV hA hP hD hS [] rfl (by decide)) rfl rfl hl.1 rfl (lv_room (Nat.le_of_ble_eq_true rfl)) ndF_writeField_101 ⟨(Nat.le_of_ble_eq_true rfl), (Nat.le_of_ble_eq_true rfl)⟩) hP hD hS hA [] [0, 1, 2, 3, 4, 5, 6, 7, 8, 9, 10] rfl rfl (by decide) (by decide) [0, 1, 2, 3, 4, 5, 6, 7, 8, 9, 10] rfl (by decide) (fun H locs hP hD hS => ?_)
            refine fd_go_v (wr := [(a0, .inr (2, [.ref a1, .ref a3, .ref a6, .ref a8, .int cf])), (a1, .inr (0, [.ref a2, .int (nI n)])), (a2, .inl (cI, 400, .inl f)), (a3, .inr (1, [.ref a4, .ref a5, .int (nI kd), .int (nI k)])), (a4, .inl (cI, 20, .inl fs)), (a5, .inl (cL, 20, .inr (.inl fn))), (a8, .inr (1, [.ref a9, .ref a10, .int (nI od), .int (nI ok)])), (a9, .inl (cI, 20, .inl os)), (a10, .inl (cL, 20, .inr (.inl on)))]) (w2 := [(a0, .inr (2, [.ref a1, .ref a3, .ref a6, .ref a8, .int cf])), (a1, .inr (0, [.ref a2, .int (nI n)])), (a2, .inl (cI, 400, .inl f)), (a3, .inr (1, [.ref a4, .ref a5, .int (nI kd), .int (nI k)])), (a4, .inl (cI, 20, .inl fs)), (a5, .inl (cL, 20, .inr (.inl fn))), (a6, .inr (0, [.ref a7, .int (nI (wn + w))])), (a7, .inl (cI, 123, .inl (upd g1 (wn + z) (fd_sis (nI s1) ((x1 - x1 / fd_bs s1 * fd_bs s1).toInt32))))), (a8, .inr (1, [.ref a9, .ref a10, .int (nI od), .int (nI ok)])), (a9, .inl (cI, 20, .inl os)), (a10, .inl (cL, 20, .inr (.inl on)))]) (va_runV (As := [.int (nI (wn + z)), .int (fd_sis (nI s1) ((x1 - x1 / fd_bs s1 * fd_bs s1).toInt32))]) (rest := []) ⟨hx, hb, hml, hown, hts⟩ (kR_put l D Z cI cL (n := (wn + w)) (f := g1) (k := (wn + z)) (by omega) (by omega) (by omega) (fd_sis (nI s1) ((x1 - x1 / fd_bs s1 * fd_bs s1).toInt32)) H.size) (cwV 2 hts (fd_gV tb_226 tb_227 tb_228 tb_14 tb_229) rfl rfl rfl nhR_put ⟨(Nat.le_of_ble_eq_true rfl), (Nat.le_of_ble_eq_true rfl)⟩) (fd_PreV hE hK hEV hA hP hD hS [6, 7] rfl (by decide) (ci := 0) (q0 := 6) rfl rfl) rfl rfl hl.1 rfl (lv_room (Nat.le_of_ble_eq_true rfl)) ndF_writeField_104 ⟨(Nat.le_of_ble_eq_true rfl), (Nat.le_of_ble_eq_true rfl)⟩) hP hD hS hA [6, 7] [0, 1, 2, 3, 4, 5, 8, 9, 10] rfl rfl (by decide) (by decide) [0, 1, 2, 3, 4, 5, 9, 10, 6, 7, 8] rfl (by decide) (fun H locs hP hD hS => ?_)
            refine lv_iload hx hb ndF_writeField_107 (lv_at hl 4 rfl) ?_
            refine lv_if_eq (tgt := 121) hx hb ndF_writeField_109 (by decide) (fun c_109 => absurd c_109 c_71) (fun _ => ?_)
            refine lv_lload hx hb ndF_writeField_112 (lv_at hl 5 rfl) ?_
            refine lv_ldc2 hx hb hown (hts _ tb_221) ndF_writeField_114 ?_
            refine lv_ldiv hx hb ndF_writeField_117 (by decide) ?_
            refine fd_asl (y := x1 / fd_bs s1) (by rw [fd_bs_n c_71]) ?_
            refine lv_goto (tgt := 127) hx hb ndF_writeField_118 (by decide) ?_
            refine lv_lstore (lv' := [(7, .long (x1 / fd_bs s1)), (10, .int ((x1 - x1 / fd_bs s1 * fd_bs s1).toInt32)), (0, .ref a0), (1, .int (nI s1)), (4, .int (nI wn)), (6, .int (fd_b36 (nI s1))), (9, .int (nI (wn + z)))]) hx hb ndF_writeField_127 hl (by decide) rfl (fun ls hl => ?_)
            refine lv_iinc (v := nI (wn + z) - 1) (lv' := [(9, .int (nI (wn + z) - 1)), (7, .long (x1 / fd_bs s1)), (10, .int ((x1 - x1 / fd_bs s1 * fd_bs s1).toInt32)), (0, .ref a0), (1, .int (nI s1)), (4, .int (nI wn)), (6, .int (fd_b36 (nI s1)))]) hx hb ndF_writeField_129 hl (k := 6) rfl (fd_dec _) (by decide) rfl (fun ls hl => ?_)
            refine lv_goto (tgt := 62) hx hb ndF_writeField_132 (by decide) ?_
            exact ih _ _ (by omega) hg _ _ _ hP hD hS (lv_sub hl [3, 4, 5, 6, 1, 0] rfl)
      exact loop2 w _ _ (Nat.le_refl w) rfl _ _ _ hP hD hS (lv_sub hl [3, 4, 6, 2, 1, 0] rfl)
    | succ z ih =>
      intro n1 f1 hm hf H locs ls hP hD hS hl
      refine lv_iload hx hb ndF_writeField_25 (lv_at hl 5 rfl) ?_
      refine lv_iload hx hb ndF_writeField_27 (lv_at hl 4 rfl) ?_
      refine lv_icmp_ge (tgt := 47) hx hb ndF_writeField_29 (by decide) (fun c_29 => absurd c_29 (fun h9 => absurd ((nI_leI (a := (wn + w)) (b := n1) (by omega) (by omega)).mp h9) (by omega))) (fun _ => ?_)
      refine lv_aload_n hx hb ndF_writeField_32 rfl (lv_at hl 0 rfl) ?_
      refine va_get (D := D) (ci := 2) (v := .ref a6) (C := nR_F) (T := nT_F) (N := 5) hx hb hts in_F hown hK hP 0 rfl rfl 2 (by decide) (hts _ tb_55) (fun _ h9 => h9) rfl ndF_writeField_33 ?_
      refine lv_bipush (v := 48) hx hb ndF_writeField_36 (by decide) ?_
      refine fd_go_v (wr := [(a0, .inr (2, [.ref a1, .ref a3, .ref a6, .ref a8, .int cf])), (a1, .inr (0, [.ref a2, .int (nI n)])), (a2, .inl (cI, 400, .inl f)), (a3, .inr (1, [.ref a4, .ref a5, .int (nI kd), .int (nI k)])), (a4, .inl (cI, 20, .inl fs)), (a5, .inl (cL, 20, .inr (.inl fn))), (a8, .inr (1, [.ref a9, .ref a10, .int (nI od), .int (nI ok)])), (a9, .inl (cI, 20, .inl os)), (a10, .inl (cL, 20, .inr (.inl on)))]) (w2 := [(a0, .inr (2, [.ref a1, .ref a3, .ref a6, .ref a8, .int cf])), (a1, .inr (0, [.ref a2, .int (nI n)])), (a2, .inl (cI, 400, .inl f)), (a3, .inr (1, [.ref a4, .ref a5, .int (nI kd), .int (nI k)])), (a4, .inl (cI, 20, .inl fs)), (a5, .inl (cL, 20, .inr (.inl fn))), (a6, .inr (0, [.ref a7, .int (nI (n1 + 1))])), (a7, .inl (cI, 123, .inl (upd f1 n1 48))), (a8, .inr (1, [.ref a9, .ref a10, .int (nI od), .int (nI ok)])), (a9, .inl (cI, 20, .inl os)), (a10, .inl (cL, 20, .inr (.inl on)))]) (va_runV (As := [.int 48]) (rest := []) ⟨hx, hb, hml, hown, hts⟩ (kR_append l D Z cI cL (n := n1) (f := f1) (by omega) (by omega) 48 H.size) (cwV 1 hts (fd_gV tb_71 tb_72 tb_73 tb_14 tb_74) rfl rfl rfl nhR_append ⟨(Nat.le_of_ble_eq_true rfl), (Nat.le_of_ble_eq_true rfl)⟩) (fd_PreV hE hK hEV hA hP hD hS [6, 7] rfl (by decide) (ci := 0) (q0 := 6) rfl rfl) rfl rfl hl.1 rfl (lv_room (Nat.le_of_ble_eq_true rfl)) ndF_writeField_38 ⟨(Nat.le_of_ble_eq_true rfl), (Nat.le_of_ble_eq_true rfl)⟩) hP hD hS hA [6, 7] [0, 1, 2, 3, 4, 5, 8, 9, 10] rfl rfl (by decide) (by decide) [0, 1, 2, 3, 4, 5, 9, 10, 6, 7, 8] rfl (by decide) (fun H locs hP hD hS => ?_)
      refine lv_iinc (v := nI (n1 + 1)) (lv' := [(6, .int (nI (n1 + 1))), (0, .ref a0), (1, .int (nI s1)), (2, .long x), (4, .int (nI wn)), (5, .int (nI (wn + w)))]) hx hb ndF_writeField_41 hl (k := 5) rfl (nI_1 n1) (by decide) rfl (fun ls hl => ?_)
      refine lv_goto (tgt := 25) hx hb ndF_writeField_44 (by decide) ?_
      exact ih _ _ (by omega) hf _ _ _ hP hD hS (lv_sub hl [1, 2, 3, 4, 5, 0] rfl)
  exact loop1 w wn wf rfl rfl _ _ _ hP hD hS (lv_sub hl [3, 4, 5, 2, 1, 0] rfl)
set_option maxHeartbeats 4000000 in
set_option maxRecDepth 100000 in
theorem kF_add_no (l : Launch) (D : va_G) (Z : Nat → Nat) (cI cL : ClassId) {a0 a1 a2 a3 a4 a5 a6 a7 a8 a9 a10 n kd k wn od ok : Nat} {f fs wf os : Nat → Int32} {fn on : Nat → Int64} {cf : Int32} (hn : n ≤ 400) (hkd : kd ≤ 15) (hk : k ≤ 20) (hwn : wn ≤ 123) (hod : od ≤ 15) (hok : ok ≤ 20) (x : Int64) (h : fd_suit od ok on x = 0) : fd_Mi l D fd_cl (fd_ty cI cL) (fd_EV Z) nyF_add (.code nyF_add ncF_add 3 (some .boolean) :: fd_TB) nmF_add [.ref a0, .long x] [(a0, .inr (2, [.ref a1, .ref a3, .ref a6, .ref a8, .int cf])), (a1, .inr (0, [.ref a2, .int (nI n)])), (a2, .inl (cI, 400, .inl f)), (a3, .inr (1, [.ref a4, .ref a5, .int (nI kd), .int (nI k)])), (a4, .inl (cI, 20, .inl fs)), (a5, .inl (cL, 20, .inr (.inl fn))), (a6, .inr (0, [.ref a7, .int (nI wn)])), (a7, .inl (cI, 123, .inl wf)), (a8, .inr (1, [.ref a9, .ref a10, .int (nI od), .int (nI ok)])), (a9, .inl (cI, 20, .inl os)), (a10, .inl (cL, 20, .inr (.inl on)))] [(a0, .inr (2, [.ref a1, .ref a3, .ref a6, .ref a8, .int cf])), (a1, .inr (0, [.ref a2, .int (nI n)])), (a2, .inl (cI, 400, .inl f)), (a3, .inr (1, [.ref a4, .ref a5, .int (nI kd), .int (nI k)])), (a4, .inl (cI, 20, .inl fs)), (a5, .inl (cL, 20, .inr (.inl fn))), (a6, .inr (0, [.ref a7, .int (nI wn)])), (a7, .inl (cI, 123, .inl wf)), (a8, .inr (1, [.ref a9, .ref a10, .int (nI od), .int (nI ok)])), (a9, .inl (cI, 20, .inl os)), (a10, .inl (cL, 20, .inr (.inl on)))] 0 := by
  refine fd_open_i (cc := ncF_add) (maxL := 3) (ret := (some .boolean)) (by decide) rfl (Nat.le_of_ble_eq_true rfl) ?_
  intro p e s m below meth c A ls X hP hD hS hl
  obtain ⟨hx, hb, hr, hml, hown, hts0, hlocks, hK, hEV, hA⟩ := X
  have hts : ∀ w ∈ fd_TB, w.before _ s = true := fun w h => hts0 w (List.mem_cons_of_mem _ h)
  have hE := fd_EV_ok Z
  have hown : s.vm.findClass "FieldDesk" = some m.cls := hown
  have hl : lv_has ls 3 [(0, .ref a0), (1, .long x)] := hl
  refine lv_aload_n hx hb ndF_add_0 rfl (lv_at hl 0 rfl) ?_
  refine va_get (D := D) (ci := 2) (v := .ref a8) (C := nR_F) (T := nT_F) (N := 5) hx hb hts in_F hown hK hP 0 rfl rfl 3 (by decide) (hts _ tb_56) (fun _ h9 => h9) rfl ndF_add_1 ?_
  refine lv_lload_n hx hb ndF_add_4 rfl (lv_at hl 1 rfl) ?_
  refine fd_go_i (wr := [(a0, .inr (2, [.ref a1, .ref a3, .ref a6, .ref a8, .int cf])), (a1, .inr (0, [.ref a2, .int (nI n)])), (a2, .inl (cI, 400, .inl f)), (a3, .inr (1, [.ref a4, .ref a5, .int (nI kd), .int (nI k)])), (a4, .inl (cI, 20, .inl fs)), (a5, .inl (cL, 20, .inr (.inl fn))), (a6, .inr (0, [.ref a7, .int (nI wn)])), (a7, .inl (cI, 123, .inl wf))]) (w2 := [(a0, .inr (2, [.ref a1, .ref a3, .ref a6, .ref a8, .int cf])), (a1, .inr (0, [.ref a2, .int (nI n)])), (a2, .inl (cI, 400, .inl f)), (a3, .inr (1, [.ref a4, .ref a5, .int (nI kd), .int (nI k)])), (a4, .inl (cI, 20, .inl fs)), (a5, .inl (cL, 20, .inr (.inl fn))), (a6, .inr (0, [.ref a7, .int (nI wn)])), (a7, .inl (cI, 123, .inl wf)), (a8, .inr (1, [.ref a9, .ref a10, .int (nI od), .int (nI ok)])), (a9, .inl (cI, 20, .inl os)), (a10, .inl (cL, 20, .inr (.inl on)))]) (va_runV (As := [.long x]) (rest := []) ⟨hx, hb, hml, hown, hts⟩ (kM_suits l D Z cI cL (kd := od) (n := ok) (fs := os) (fn := on) (by omega) (by omega) x s.heap.size) (cwV 1 hts (fd_gV tb_213 tb_214 tb_215 tb_15 tb_216) rfl rfl rfl nhM_suits ⟨(Nat.le_of_ble_eq_true rfl), (Nat.le_of_ble_eq_true rfl)⟩) (fd_PreV hE hK hEV hA hP hD hS [8, 9, 10] rfl (by decide) (ci := 1) (q0 := 8) rfl rfl) rfl rfl hl.1 rfl (lv_room (Nat.le_of_ble_eq_true rfl)) ndF_add_5 ⟨(Nat.le_of_ble_eq_true rfl), (Nat.le_of_ble_eq_true rfl)⟩) hP hD hS hA [8, 9, 10] [0, 1, 2, 3, 4, 5, 6, 7] rfl rfl (by decide) (by decide) [0, 1, 2, 3, 4, 5, 6, 7, 8, 9, 10] rfl (by decide) (fun H locs hP hD hS => ?_)
  refine fd_asi (y := 0) h ?_
  refine lv_if_ne (tgt := 13) hx hb ndF_add_8 (by decide) (fun c_8 => absurd (by decide) c_8) (fun _ => ?_)
  refine lv_iconst (v := 0) hx hb ndF_add_11 (by decide) ?_
  exact fd_ret_i hx hb hr hlocks hS hP hD rfl (rfl) ndF_add_12
set_option maxHeartbeats 4000000 in
set_option maxRecDepth 100000 in
theorem kF_add_yes (l : Launch) (D : va_G) (Z : Nat → Nat) (cI cL : ClassId) {a0 a1 a2 a3 a4 a5 a6 a7 a8 a9 a10 n kd k wn od ok : Nat} {f fs wf os : Nat → Int32} {fn on : Nat → Int64} {cf : Int32} (hn : n ≤ 400) (hkd : kd ≤ 15) (hk : k ≤ 20) (hwn : wn ≤ 123) (hod : od ≤ 15) (hok : ok ≤ 20) (x : Int64) {s1 w : Nat} (h : fd_suit od ok on x = 1) (hs : fd_due od ok on = nI s1) (he : fd_ent 0 (nI s1) = nI w) (hw : wn + w ≤ 123) (hk2 : ok < 20) : fd_Mi l D fd_cl (fd_ty cI cL) (fd_EV Z) nyF_add (.code nyF_add ncF_add 3 (some .boolean) :: fd_TB) nmF_add [.ref a0, .long x] [(a0, .inr (2, [.ref a1, .ref a3, .ref a6, .ref a8, .int cf])), (a1, .inr (0, [.ref a2, .int (nI n)])), (a2, .inl (cI, 400, .inl f)), (a3, .inr (1, [.ref a4, .ref a5, .int (nI kd), .int (nI k)])), (a4, .inl (cI, 20, .inl fs)), (a5, .inl (cL, 20, .inr (.inl fn))), (a6, .inr (0, [.ref a7, .int (nI wn)])), (a7, .inl (cI, 123, .inl wf)), (a8, .inr (1, [.ref a9, .ref a10, .int (nI od), .int (nI ok)])), (a9, .inl (cI, 20, .inl os)), (a10, .inl (cL, 20, .inr (.inl on)))] [(a0, .inr (2, [.ref a1, .ref a3, .ref a6, .ref a8, .int cf])), (a1, .inr (0, [.ref a2, .int (nI n)])), (a2, .inl (cI, 400, .inl f)), (a3, .inr (1, [.ref a4, .ref a5, .int (nI kd), .int (nI k)])), (a4, .inl (cI, 20, .inl fs)), (a5, .inl (cL, 20, .inr (.inl fn))), (a6, .inr (0, [.ref a7, .int (nI (wn + w))])), (a7, .inl (cI, 123, .inl (fd_dg s1 wn w (fd_pad w wf wn) x))), (a8, .inr (1, [.ref a9, .ref a10, .int (nI od), .int (nI (ok + 1))])), (a9, .inl (cI, 20, .inl (upd os ok (fd_due od ok on)))), (a10, .inl (cL, 20, .inr (.inl (vp_updL on ok x))))] 1 := by
  refine fd_open_i (cc := ncF_add) (maxL := 3) (ret := (some .boolean)) (by decide) rfl (Nat.le_of_ble_eq_true rfl) ?_
  intro p e s m below meth c A ls X hP hD hS hl
  obtain ⟨hx, hb, hr, hml, hown, hts0, hlocks, hK, hEV, hA⟩ := X
  have hts : ∀ w ∈ fd_TB, w.before _ s = true := fun w h => hts0 w (List.mem_cons_of_mem _ h)
  have hE := fd_EV_ok Z
  have hown : s.vm.findClass "FieldDesk" = some m.cls := hown
  have hl : lv_has ls 3 [(0, .ref a0), (1, .long x)] := hl
  refine lv_aload_n hx hb ndF_add_0 rfl (lv_at hl 0 rfl) ?_
  refine va_get (D := D) (ci := 2) (v := .ref a8) (C := nR_F) (T := nT_F) (N := 5) hx hb hts in_F hown hK hP 0 rfl rfl 3 (by decide) (hts _ tb_56) (fun _ h9 => h9) rfl ndF_add_1 ?_
  refine lv_lload_n hx hb ndF_add_4 rfl (lv_at hl 1 rfl) ?_
  refine fd_go_i (wr := [(a0, .inr (2, [.ref a1, .ref a3, .ref a6, .ref a8, .int cf])), (a1, .inr (0, [.ref a2, .int (nI n)])), (a2, .inl (cI, 400, .inl f)), (a3, .inr (1, [.ref a4, .ref a5, .int (nI kd), .int (nI k)])), (a4, .inl (cI, 20, .inl fs)), (a5, .inl (cL, 20, .inr (.inl fn))), (a6, .inr (0, [.ref a7, .int (nI wn)])), (a7, .inl (cI, 123, .inl wf))]) (w2 := [(a0, .inr (2, [.ref a1, .ref a3, .ref a6, .ref a8, .int cf])), (a1, .inr (0, [.ref a2, .int (nI n)])), (a2, .inl (cI, 400, .inl f)), (a3, .inr (1, [.ref a4, .ref a5, .int (nI kd), .int (nI k)])), (a4, .inl (cI, 20, .inl fs)), (a5, .inl (cL, 20, .inr (.inl fn))), (a6, .inr (0, [.ref a7, .int (nI wn)])), (a7, .inl (cI, 123, .inl wf)), (a8, .inr (1, [.ref a9, .ref a10, .int (nI od), .int (nI ok)])), (a9, .inl (cI, 20, .inl os)), (a10, .inl (cL, 20, .inr (.inl on)))]) (va_runV (As := [.long x]) (rest := []) ⟨hx, hb, hml, hown, hts⟩ (kM_suits l D Z cI cL (kd := od) (n := ok) (fs := os) (fn := on) (by omega) (by omega) x s.heap.size) (cwV 1 hts (fd_gV tb_213 tb_214 tb_215 tb_15 tb_216) rfl rfl rfl nhM_suits ⟨(Nat.le_of_ble_eq_true rfl), (Nat.le_of_ble_eq_true rfl)⟩) (fd_PreV hE hK hEV hA hP hD hS [8, 9, 10] rfl (by decide) (ci := 1) (q0 := 8) rfl rfl) rfl rfl hl.1 rfl (lv_room (Nat.le_of_ble_eq_true rfl)) ndF_add_5 ⟨(Nat.le_of_ble_eq_true rfl), (Nat.le_of_ble_eq_true rfl)⟩) hP hD hS hA [8, 9, 10] [0, 1, 2, 3, 4, 5, 6, 7] rfl rfl (by decide) (by decide) [0, 1, 2, 3, 4, 5, 6, 7, 8, 9, 10] rfl (by decide) (fun H locs hP hD hS => ?_)
  refine fd_asi (y := 1) h ?_
  refine lv_if_ne (tgt := 13) hx hb ndF_add_8 (by decide) (fun _ => ?_) (fun c_8 => absurd c_8 (by decide))
  refine lv_aload_n hx hb ndF_add_13 rfl (lv_at hl 0 rfl) ?_
  refine lv_aload_n hx hb ndF_add_14 rfl (lv_at hl 0 rfl) ?_
  refine va_get (D := D) (ci := 2) (v := .ref a8) (C := nR_F) (T := nT_F) (N := 5) hx hb hts in_F hown hK hP 0 rfl rfl 3 (by decide) (hts _ tb_56) (fun _ h9 => h9) rfl ndF_add_15 ?_
  refine fd_go_i (wr := [(a0, .inr (2, [.ref a1, .ref a3, .ref a6, .ref a8, .int cf])), (a1, .inr (0, [.ref a2, .int (nI n)])), (a2, .inl (cI, 400, .inl f)), (a3, .inr (1, [.ref a4, .ref a5, .int (nI kd), .int (nI k)])), (a4, .inl (cI, 20, .inl fs)), (a5, .inl (cL, 20, .inr (.inl fn))), (a6, .inr (0, [.ref a7, .int (nI wn)])), (a7, .inl (cI, 123, .inl wf))]) (w2 := [(a0, .inr (2, [.ref a1, .ref a3, .ref a6, .ref a8, .int cf])), (a1, .inr (0, [.ref a2, .int (nI n)])), (a2, .inl (cI, 400, .inl f)), (a3, .inr (1, [.ref a4, .ref a5, .int (nI kd), .int (nI k)])), (a4, .inl (cI, 20, .inl fs)), (a5, .inl (cL, 20, .inr (.inl fn))), (a6, .inr (0, [.ref a7, .int (nI wn)])), (a7, .inl (cI, 123, .inl wf)), (a8, .inr (1, [.ref a9, .ref a10, .int (nI od), .int (nI ok)])), (a9, .inl (cI, 20, .inl os)), (a10, .inl (cL, 20, .inr (.inl on)))]) (va_runV (As := []) (rest := [.ref a0]) ⟨hx, hb, hml, hown, hts⟩ (kM_dueSort l D Z cI cL (kd := od) (n := ok) (fs := os) (fn := on) (by omega) (by omega) H.size) (cwV 0 hts (fd_gV tb_129 tb_130 tb_131 tb_15 tb_132) rfl rfl rfl nhM_dueSort ⟨(Nat.le_of_ble_eq_true rfl), (Nat.le_of_ble_eq_true rfl)⟩) (fd_PreV hE hK hEV hA hP hD hS [8, 9, 10] rfl (by decide) (ci := 1) (q0 := 8) rfl rfl) rfl rfl hl.1 rfl (lv_room (Nat.le_of_ble_eq_true rfl)) ndF_add_18 ⟨(Nat.le_of_ble_eq_true rfl), (Nat.le_of_ble_eq_true rfl)⟩) hP hD hS hA [8, 9, 10] [0, 1, 2, 3, 4, 5, 6, 7] rfl rfl (by decide) (by decide) [0, 1, 2, 3, 4, 5, 6, 7, 8, 9, 10] rfl (by decide) (fun H locs hP hD hS => ?_)
  refine fd_asi (y := nI s1) hs ?_
  refine lv_lload_n hx hb ndF_add_21 rfl (lv_at hl 1 rfl) ?_
  refine fd_go_v (wr := []) (w2 := [(a0, .inr (2, [.ref a1, .ref a3, .ref a6, .ref a8, .int cf])), (a1, .inr (0, [.ref a2, .int (nI n)])), (a2, .inl (cI, 400, .inl f)), (a3, .inr (1, [.ref a4, .ref a5, .int (nI kd), .int (nI k)])), (a4, .inl (cI, 20, .inl fs)), (a5, .inl (cL, 20, .inr (.inl fn))), (a6, .inr (0, [.ref a7, .int (nI (wn + w))])), (a7, .inl (cI, 123, .inl (fd_dg s1 wn w (fd_pad w wf wn) x))), (a8, .inr (1, [.ref a9, .ref a10, .int (nI od), .int (nI ok)])), (a9, .inl (cI, 20, .inl os)), (a10, .inl (cL, 20, .inr (.inl on)))]) (va_runV (As := [.int (nI s1), .long x]) (rest := []) ⟨hx, hb, hml, hown, hts⟩ (kF_writeField l D Z cI cL (n := n) (f := f) (kd := kd) (k := k) (fs := fs) (fn := fn) (wn := wn) (wf := wf) (od := od) (ok := ok) (os := os) (on := on) (cf := cf) (by omega) (by omega) (by omega) (by omega) (by omega) (by omega) (s1 := s1) (w := w) he hw x H.size) (cwV 2 hts (fd_gV tb_218 tb_219 tb_7 tb_13 tb_220) rfl rfl rfl nhF_writeField ⟨(Nat.le_of_ble_eq_true rfl), (Nat.le_of_ble_eq_true rfl)⟩) (fd_PreV hE hK hEV hA hP hD hS [0, 1, 2, 3, 4, 5, 6, 7, 8, 9, 10] rfl (by decide) (ci := 2) (q0 := 0) rfl rfl) rfl rfl hl.1 rfl (lv_room (Nat.le_of_ble_eq_true rfl)) ndF_add_22 ⟨(Nat.le_of_ble_eq_true rfl), (Nat.le_of_ble_eq_true rfl)⟩) hP hD hS hA [0, 1, 2, 3, 4, 5, 6, 7, 8, 9, 10] [] rfl rfl (by decide) (by decide) [0, 1, 2, 3, 4, 5, 6, 7, 8, 9, 10] rfl (by decide) (fun H locs hP hD hS => ?_)
  refine lv_aload_n hx hb ndF_add_25 rfl (lv_at hl 0 rfl) ?_
  refine va_get (D := D) (ci := 2) (v := .ref a8) (C := nR_F) (T := nT_F) (N := 5) hx hb hts in_F hown hK hP 0 rfl rfl 3 (by decide) (hts _ tb_56) (fun _ h9 => h9) rfl ndF_add_26 ?_
  refine lv_lload_n hx hb ndF_add_29 rfl (lv_at hl 1 rfl) ?_
  refine fd_go_v (wr := [(a0, .inr (2, [.ref a1, .ref a3, .ref a6, .ref a8, .int cf])), (a1, .inr (0, [.ref a2, .int (nI n)])), (a2, .inl (cI, 400, .inl f)), (a3, .inr (1, [.ref a4, .ref a5, .int (nI kd), .int (nI k)])), (a4, .inl (cI, 20, .inl fs)), (a5, .inl (cL, 20, .inr (.inl fn))), (a6, .inr (0, [.ref a7, .int (nI (wn + w))])), (a7, .inl (cI, 123, .inl (fd_dg s1 wn w (fd_pad w wf wn) x)))]) (w2 := [(a0, .inr (2, [.ref a1, .ref a3, .ref a6, .ref a8, .int cf])), (a1, .inr (0, [.ref a2, .int (nI n)])), (a2, .inl (cI, 400, .inl f)), (a3, .inr (1, [.ref a4, .ref a5, .int (nI kd), .int (nI k)])), (a4, .inl (cI, 20, .inl fs)), (a5, .inl (cL, 20, .inr (.inl fn))), (a6, .inr (0, [.ref a7, .int (nI (wn + w))])), (a7, .inl (cI, 123, .inl (fd_dg s1 wn w (fd_pad w wf wn) x))), (a8, .inr (1, [.ref a9, .ref a10, .int (nI od), .int (nI (ok + 1))])), (a9, .inl (cI, 20, .inl (upd os ok (fd_due od ok on)))), (a10, .inl (cL, 20, .inr (.inl (vp_updL on ok x))))]) (va_runV (As := [.long x]) (rest := []) ⟨hx, hb, hml, hown, hts⟩ (kM_take l D Z cI cL (kd := od) (n := ok) (fs := os) (fn := on) (by omega) (by omega) x H.size) (cwV 1 hts (fd_gV tb_170 tb_171 tb_172 tb_15 tb_173) rfl rfl rfl nhM_take ⟨(Nat.le_of_ble_eq_true rfl), (Nat.le_of_ble_eq_true rfl)⟩) (fd_PreV hE hK hEV hA hP hD hS [8, 9, 10] rfl (by decide) (ci := 1) (q0 := 8) rfl rfl) rfl rfl hl.1 rfl (lv_room (Nat.le_of_ble_eq_true rfl)) ndF_add_30 ⟨(Nat.le_of_ble_eq_true rfl), (Nat.le_of_ble_eq_true rfl)⟩) hP hD hS hA [8, 9, 10] [0, 1, 2, 3, 4, 5, 6, 7] rfl rfl (by decide) (by decide) [0, 1, 2, 3, 4, 5, 6, 7, 8, 9, 10] rfl (by decide) (fun H locs hP hD hS => ?_)
  refine lv_iconst (v := 1) hx hb ndF_add_33 (by decide) ?_
  exact fd_ret_i hx hb hr hlocks hS hP hD rfl (rfl) ndF_add_34
end
section
/-! the desk: read -/
def fd_bg (f : Nat → Int32) (n q sg : Nat) : Int32 := if (∀ i, i < sg → fd_at n f (nI i) = fd_let q i) then 1 else 0
def fd_kw (f : Nat → Int32) (n sg : Nat) : Nat → Nat → Nat
  | 0, _ => 0
  | z + 1, q => if fd_bg f n q sg = 0 then fd_kw f n sg z (q + 1) else q
def fd_kn (f : Nat → Int32) (n sg : Nat) : Nat := fd_kw f n sg 15 1
theorem fd_kw_le (f : Nat → Int32) (n sg : Nat) : ∀ z q, 1 ≤ q → q + z ≤ 16 → fd_kw f n sg z q ≤ 15 := by
  intro z
  induction z with
  | zero => intro q h1 h; exact Nat.zero_le _
  | succ z ih =>
    intro q h1 h
    rw [fd_kw]
    split
    · exact ih (q + 1) (by omega) (by omega)
    · omega
theorem fd_kn_le (f : Nat → Int32) (n sg : Nat) : fd_kn f n sg ≤ 15 := fd_kw_le f n sg 15 1 (by omega) (by omega)
def fd_bI (d : Int32) : Int32 := if fd_b36 d = 0 then 10 else 36
def fd_hf (d mz : Int32) (f : Nat → Int32) (n : Nat) : Nat → Nat → Int64 → Int32 × Int64
  | 0, _, acc => (-1, acc)
  | z + 1, p, acc => if fd_vis d (fd_at n f (nI p)) < 0 then (nI p, acc) else if fd_vis d (fd_at n f (nI p)) ≤ 0 then fd_hf d mz f n z (p + 1) (acc * (fd_bI d).toInt64 + (fd_vis d (fd_at n f (nI p))).toInt64) else if mz = 0 then fd_hf d mz f n z (p + 1) (acc * (fd_bI d).toInt64 + (fd_vis d (fd_at n f (nI p))).toInt64) else (nI p, acc)
theorem fd_ne1 {p : Nat} (h : p < 2 ^ 31) {a b : Int64} : ¬ (nI p, a) = ((-1 : Int32), b) := fun e => by
  have e1 : nI p = -1 := (Prod.mk.inj e).1
  have e2 := nI_pos h
  rw [e1] at e2
  exact e2 (by decide)
def fd_cd (f : Nat → Int32) (n p : Nat) : Int32 := if fd_dig (fd_at n f (nI p)) = 0 then nI p else if fd_dig (fd_at n f (nI (p + 1))) = 0 then nI (p + 1) else if n ≤ p + 2 then (if fd_rem f n = 1 then -1 else nI p) else nI (p + 2)
def fd_W (d : Int32) : Nat := (fd_ent 0 d).toNatClampNeg
theorem fd_ent0 (d : Int32) : ∃ w : Nat, w ≤ 15 ∧ fd_ent 0 d = nI w := by
  unfold fd_ent
  split
  · exact ⟨0, by omega, rfl⟩
  · split
    · exact ⟨0, by omega, rfl⟩
    · rename_i h1 h2
      obtain ⟨k, hk, rfl⟩ := fd_ix h1 h2 (fd_tab_len 0)
      rw [nI_clamp (by have := fd_tab_len 0; omega)]
      have h : ∀ k, k < 9 → ∃ w, w < 16 ∧ (fd_tab 0).getD k 0 = nI w := by decide +kernel
      obtain ⟨w, hw, e⟩ := h k hk
      exact ⟨w, by omega, e⟩
theorem fd_W_eq (d : Int32) : fd_ent 0 d = nI (fd_W d) := by
  obtain ⟨w, hw, e⟩ := fd_ent0 d
  rw [fd_W, e, nI_clamp (by omega)]
theorem fd_W_le (d : Int32) : fd_W d ≤ 15 := by
  obtain ⟨w, hw, e⟩ := fd_ent0 d
  rw [fd_W, e, nI_clamp (by omega)]; exact hw
def fd_hfd (f : Nat → Int32) (n q k p : Nat) (fn : Nat → Int64) : Int32 × Int64 := fd_hf (fd_due q k fn) (fd_mz q k fn) f n (fd_W (fd_due q k fn)) p 0
def fd_ht (f : Nat → Int32) (n q : Nat) : Nat → Nat → Nat → (Nat → Int32) → (Nat → Int64) → Int32 × Nat × (Nat → Int32) × (Nat → Int64)
  | 0, k, p, fs, fn => (fd_cd f n p, k, fs, fn)
  | z + 1, k, p, fs, fn => if fd_due q k fn = 0 then (fd_cd f n p, k, fs, fn) else if (fd_hfd f n q k p fn).1 = -1 then fd_ht f n q z (k + 1) (p + fd_W (fd_due q k fn)) (upd fs k (fd_due q k fn)) (vp_updL fn k (fd_hfd f n q k p fn).2) else ((fd_hfd f n q k p fn).1, k, fs, fn)
theorem fd_ht_0 {f : Nat → Int32} {n q k p : Nat} {fs : Nat → Int32} {fn : Nat → Int64} : fd_ht f n q 0 k p fs fn = (fd_cd f n p, k, fs, fn) := rfl
theorem fd_ht_end {f : Nat → Int32} {n q z k p : Nat} {fs : Nat → Int32} {fn : Nat → Int64} (h0 : fd_due q k fn = 0) : fd_ht f n q (z + 1) k p fs fn = (fd_cd f n p, k, fs, fn) := by
  rw [fd_ht, if_pos h0]
theorem fd_ht_ok {f : Nat → Int32} {n q z k p : Nat} {fs : Nat → Int32} {fn : Nat → Int64} {x : Int64} (h0 : ¬ fd_due q k fn = 0) (h : fd_hfd f n q k p fn = (-1, x)) : fd_ht f n q (z + 1) k p fs fn = fd_ht f n q z (k + 1) (p + fd_W (fd_due q k fn)) (upd fs k (fd_due q k fn)) (vp_updL fn k x) := by
  rw [fd_ht, if_neg h0, h, if_pos rfl]
theorem fd_ht_no {f : Nat → Int32} {n q z k p : Nat} {fs : Nat → Int32} {fn : Nat → Int64} {r : Int32} {x : Int64} (h0 : ¬ fd_due q k fn = 0) (h : fd_hfd f n q k p fn = (r, x)) (hr : ¬ r = -1) : fd_ht f n q (z + 1) k p fs fn = (r, k, fs, fn) := by
  rw [fd_ht, if_neg h0, h, if_neg hr]
theorem fd_q4 {a b : Int32} {k k' : Nat} {fs fs' : Nat → Int32} {fn fn' : Nat → Int64} (h : (a, k, fs, fn) = (b, k', fs', fn')) : a = b ∧ k = k' ∧ fs = fs' ∧ fn = fn' := by
  cases h; exact ⟨rfl, rfl, rfl, rfl⟩
set_option maxHeartbeats 4000000 in
set_option maxRecDepth 100000 in
theorem kF_textBeginsAs (l : Launch) (D : va_G) (Z : Nat → Nat) (cI cL : ClassId) {a0 a1 a2 a3 a4 a5 a6 a7 a8 a9 a10 n kd k wn od ok : Nat} {f fs wf os : Nat → Int32} {fn on : Nat → Int64} {cf : Int32} (hn : n ≤ 400) (hkd : kd ≤ 15) (hk : k ≤ 20) (hwn : wn ≤ 123) (hod : od ≤ 15) (hok : ok ≤ 20) {q sg : Nat} (hq1 : 1 ≤ q) (hq : q ≤ 15) (hsg : sg ≤ 3) : fd_Mi l D fd_cl (fd_ty cI cL) (fd_EV Z) nyF_textBeginsAs (.code nyF_textBeginsAs ncF_textBeginsAs 4 (some .boolean) :: fd_TB) nmF_textBeginsAs [.ref a0, .int (nI q), .int (nI sg)] [(a0, .inr (2, [.ref a1, .ref a3, .ref a6, .ref a8, .int cf])), (a1, .inr (0, [.ref a2, .int (nI n)])), (a2, .inl (cI, 400, .inl f)), (a3, .inr (1, [.ref a4, .ref a5, .int (nI kd), .int (nI k)])), (a4, .inl (cI, 20, .inl fs)), (a5, .inl (cL, 20, .inr (.inl fn))), (a6, .inr (0, [.ref a7, .int (nI wn)])), (a7, .inl (cI, 123, .inl wf)), (a8, .inr (1, [.ref a9, .ref a10, .int (nI od), .int (nI ok)])), (a9, .inl (cI, 20, .inl os)), (a10, .inl (cL, 20, .inr (.inl on)))] [(a0, .inr (2, [.ref a1, .ref a3, .ref a6, .ref a8, .int cf])), (a1, .inr (0, [.ref a2, .int (nI n)])), (a2, .inl (cI, 400, .inl f)), (a3, .inr (1, [.ref a4, .ref a5, .int (nI kd), .int (nI k)])), (a4, .inl (cI, 20, .inl fs)), (a5, .inl (cL, 20, .inr (.inl fn))), (a6, .inr (0, [.ref a7, .int (nI wn)])), (a7, .inl (cI, 123, .inl wf)), (a8, .inr (1, [.ref a9, .ref a10, .int (nI od), .int (nI ok)])), (a9, .inl (cI, 20, .inl os)), (a10, .inl (cL, 20, .inr (.inl on)))] (fd_bg f n q sg) := by
  refine fd_open_i (cc := ncF_textBeginsAs) (maxL := 4) (ret := (some .boolean)) (by decide) rfl (Nat.le_of_ble_eq_true rfl) ?_
  intro p e s m below meth c A ls X hP hD hS hl
  obtain ⟨hx, hb, hr, hml, hown, hts0, hlocks, hK, hEV, hA⟩ := X
  have hts : ∀ w ∈ fd_TB, w.before _ s = true := fun w h => hts0 w (List.mem_cons_of_mem _ h)
  have hE := fd_EV_ok Z
  have hown : s.vm.findClass "FieldDesk" = some m.cls := hown
  have hl : lv_has ls 4 [(0, .ref a0), (1, .int (nI q)), (2, .int (nI sg))] := hl
  refine lv_iconst (v := 0) hx hb ndF_textBeginsAs_0 (by decide) ?_
  refine lv_istore_n (lv' := [(3, .int 0), (0, .ref a0), (1, .int (nI q)), (2, .int (nI sg))]) hx hb ndF_textBeginsAs_1 rfl hl (by decide) rfl (fun ls hl => ?_)
  have loop : ∀ (z : Nat) (i : Nat) (hi : i + z = sg) (hall : ∀ j, j < i → fd_at n f (nI j) = fd_let q j) (H : Heap) (locs : List Loc) (ls : Array Slot), va_P D fd_cl [(a0, .inr (2, [.ref a1, .ref a3, .ref a6, .ref a8, .int cf])), (a1, .inr (0, [.ref a2, .int (nI n)])), (a2, .inl (cI, 400, .inl f)), (a3, .inr (1, [.ref a4, .ref a5, .int (nI kd), .int (nI k)])), (a4, .inl (cI, 20, .inl fs)), (a5, .inl (cL, 20, .inr (.inl fn))), (a6, .inr (0, [.ref a7, .int (nI wn)])), (a7, .inl (cI, 123, .inl wf)), (a8, .inr (1, [.ref a9, .ref a10, .int (nI od), .int (nI ok)])), (a9, .inl (cI, 20, .inl os)), (a10, .inl (cL, 20, .inr (.inl on)))] H → va_D A [(a0, .inr (2, [.ref a1, .ref a3, .ref a6, .ref a8, .int cf])), (a1, .inr (0, [.ref a2, .int (nI n)])), (a2, .inl (cI, 400, .inl f)), (a3, .inr (1, [.ref a4, .ref a5, .int (nI kd), .int (nI k)])), (a4, .inl (cI, 20, .inl fs)), (a5, .inl (cL, 20, .inr (.inl fn))), (a6, .inr (0, [.ref a7, .int (nI wn)])), (a7, .inl (cI, 123, .inl wf)), (a8, .inr (1, [.ref a9, .ref a10, .int (nI od), .int (nI ok)])), (a9, .inl (cI, 20, .inl os)), (a10, .inl (cL, 20, .inr (.inl on)))] → va_S A s.heap H locs → lv_has ls 4 [(0, .ref a0), (1, .int (nI q)), (2, .int (nI sg)), (3, .int (nI i))] → W p l e nmF_textBeginsAs s m ([.ref a0, .int (nI q), .int (nI sg)].toArray) below meth c H locs 0 0 (MQ below (va_Qi (fun r' (_ : Unit) => r' = (fd_bg f n q sg)) (fd_B D fd_cl A [(a0, .inr (2, [.ref a1, .ref a3, .ref a6, .ref a8, .int cf])), (a1, .inr (0, [.ref a2, .int (nI n)])), (a2, .inl (cI, 400, .inl f)), (a3, .inr (1, [.ref a4, .ref a5, .int (nI kd), .int (nI k)])), (a4, .inl (cI, 20, .inl fs)), (a5, .inl (cL, 20, .inr (.inl fn))), (a6, .inr (0, [.ref a7, .int (nI wn)])), (a7, .inl (cI, 123, .inl wf)), (a8, .inr (1, [.ref a9, .ref a10, .int (nI od), .int (nI ok)])), (a9, .inl (cI, 20, .inl os)), (a10, .inl (cL, 20, .inr (.inl on)))]) A) [.ref a0, .int (nI q), .int (nI sg)].toArray s 0 0 A) (F0 m 2 ls []) := by
    intro z
    induction z with
    | zero =>
      intro i hi hall H locs ls hP hD hS hl
      refine lv_iload_n hx hb ndF_textBeginsAs_2 rfl (lv_at hl 3 rfl) ?_
      refine lv_iload_n hx hb ndF_textBeginsAs_3 rfl (lv_at hl 2 rfl) ?_
      refine lv_icmp_ge (tgt := 31) hx hb ndF_textBeginsAs_4 (by decide) (fun _ => ?_) (fun c_4 => absurd ((nI_leI (a := sg) (b := i) (by omega) (by omega)).mpr (by omega)) c_4)
      refine lv_iconst (v := 1) hx hb ndF_textBeginsAs_31 (by decide) ?_
      exact fd_ret_i hx hb hr hlocks hS hP hD rfl (by rw [fd_bg, if_pos (fun j h9 => hall j (by omega))]) ndF_textBeginsAs_32
    | succ z ih =>
      intro i hi hall H locs ls hP hD hS hl
      refine lv_iload_n hx hb ndF_textBeginsAs_2 rfl (lv_at hl 3 rfl) ?_
      refine lv_iload_n hx hb ndF_textBeginsAs_3 rfl (lv_at hl 2 rfl) ?_
      refine lv_icmp_ge (tgt := 31) hx hb ndF_textBeginsAs_4 (by decide) (fun c_4 => absurd c_4 (fun h9 => absurd ((nI_leI (a := sg) (b := i) (by omega) (by omega)).mp h9) (by omega))) (fun _ => ?_)
      refine lv_aload_n hx hb ndF_textBeginsAs_7 rfl (lv_at hl 0 rfl) ?_
      refine va_get (D := D) (ci := 2) (v := .ref a1) (C := nR_F) (T := nT_F) (N := 5) hx hb hts in_F hown hK hP 0 rfl rfl 0 (by decide) (hts _ tb_53) (fun _ h9 => h9) rfl ndF_textBeginsAs_8 ?_
      refine lv_iload_n hx hb ndF_textBeginsAs_11 rfl (lv_at hl 3 rfl) ?_
      refine fd_go_i (wr := [(a0, .inr (2, [.ref a1, .ref a3, .ref a6, .ref a8, .int cf])), (a3, .inr (1, [.ref a4, .ref a5, .int (nI kd), .int (nI k)])), (a4, .inl (cI, 20, .inl fs)), (a5, .inl (cL, 20, .inr (.inl fn))), (a6, .inr (0, [.ref a7, .int (nI wn)])), (a7, .inl (cI, 123, .inl wf)), (a8, .inr (1, [.ref a9, .ref a10, .int (nI od), .int (nI ok)])), (a9, .inl (cI, 20, .inl os)), (a10, .inl (cL, 20, .inr (.inl on)))]) (w2 := [(a0, .inr (2, [.ref a1, .ref a3, .ref a6, .ref a8, .int cf])), (a1, .inr (0, [.ref a2, .int (nI n)])), (a2, .inl (cI, 400, .inl f)), (a3, .inr (1, [.ref a4, .ref a5, .int (nI kd), .int (nI k)])), (a4, .inl (cI, 20, .inl fs)), (a5, .inl (cL, 20, .inr (.inl fn))), (a6, .inr (0, [.ref a7, .int (nI wn)])), (a7, .inl (cI, 123, .inl wf)), (a8, .inr (1, [.ref a9, .ref a10, .int (nI od), .int (nI ok)])), (a9, .inl (cI, 20, .inl os)), (a10, .inl (cL, 20, .inr (.inl on)))]) (va_runV (As := [.int (nI i)]) (rest := []) ⟨hx, hb, hml, hown, hts⟩ (kR_at l D Z cI cL (n := n) (f := f) (by omega) (by omega) (nI i) H.size) (cwV 1 hts (fd_gV tb_91 tb_92 tb_93 tb_14 tb_94) rfl rfl rfl nhR_at ⟨(Nat.le_of_ble_eq_true rfl), (Nat.le_of_ble_eq_true rfl)⟩) (fd_PreV hE hK hEV hA hP hD hS [1, 2] rfl (by decide) (ci := 0) (q0 := 1) rfl rfl) rfl rfl hl.1 rfl (lv_room (Nat.le_of_ble_eq_true rfl)) ndF_textBeginsAs_12 ⟨(Nat.le_of_ble_eq_true rfl), (Nat.le_of_ble_eq_true rfl)⟩) hP hD hS hA [1, 2] [0, 3, 4, 5, 6, 7, 8, 9, 10] rfl rfl (by decide) (by decide) [0, 9, 10, 1, 2, 3, 4, 5, 6, 7, 8] rfl (by decide) (fun H locs hP hD hS => ?_)
      refine lv_iload_n hx hb ndF_textBeginsAs_15 rfl (lv_at hl 1 rfl) ?_
      refine lv_iload_n hx hb ndF_textBeginsAs_16 rfl (lv_at hl 3 rfl) ?_
      refine fd_go_i (wr := [(a0, .inr (2, [.ref a1, .ref a3, .ref a6, .ref a8, .int cf])), (a1, .inr (0, [.ref a2, .int (nI n)])), (a2, .inl (cI, 400, .inl f)), (a3, .inr (1, [.ref a4, .ref a5, .int (nI kd), .int (nI k)])), (a4, .inl (cI, 20, .inl fs)), (a5, .inl (cL, 20, .inr (.inl fn))), (a6, .inr (0, [.ref a7, .int (nI wn)])), (a7, .inl (cI, 123, .inl wf)), (a8, .inr (1, [.ref a9, .ref a10, .int (nI od), .int (nI ok)])), (a9, .inl (cI, 20, .inl os)), (a10, .inl (cL, 20, .inr (.inl on)))]) (w2 := [(a0, .inr (2, [.ref a1, .ref a3, .ref a6, .ref a8, .int cf])), (a1, .inr (0, [.ref a2, .int (nI n)])), (a2, .inl (cI, 400, .inl f)), (a3, .inr (1, [.ref a4, .ref a5, .int (nI kd), .int (nI k)])), (a4, .inl (cI, 20, .inl fs)), (a5, .inl (cL, 20, .inr (.inl fn))), (a6, .inr (0, [.ref a7, .int (nI wn)])), (a7, .inl (cI, 123, .inl wf)), (a8, .inr (1, [.ref a9, .ref a10, .int (nI od), .int (nI ok)])), (a9, .inl (cI, 20, .inl os)), (a10, .inl (cL, 20, .inr (.inl on)))]) (va_runS (As := [.int (nI q), .int (nI i)]) (rest := [.int (fd_at n f (nI i))]) ⟨hx, hb, hml, hown, hts⟩ (kF_letterOf l D Z cI cL (kd := q) (i := i) (by omega) (by omega) (by omega) H.size) (va_cwS 2 hts (fd_gS tb_95 tb_96 tb_13 tb_97) rfl rfl rfl nhF_letterOf.2 ⟨(Nat.le_of_ble_eq_true rfl), (Nat.le_of_ble_eq_true rfl)⟩) (fd_PreS hE hK hEV hA hP hD hS [] rfl (by decide)) rfl rfl hl.1 rfl (lv_room (Nat.le_of_ble_eq_true rfl)) ndF_textBeginsAs_17 ⟨(Nat.le_of_ble_eq_true rfl), (Nat.le_of_ble_eq_true rfl)⟩) hP hD hS hA [] [0, 1, 2, 3, 4, 5, 6, 7, 8, 9, 10] rfl rfl (by decide) (by decide) [0, 1, 2, 3, 4, 5, 6, 7, 8, 9, 10] rfl (by decide) (fun H locs hP hD hS => ?_)
      refine lv_icmp_eq (tgt := 25) hx hb ndF_textBeginsAs_20 (by decide) (fun c_20 => ?_) (fun c_20 => ?_)
      · refine lv_iinc (v := nI (i + 1)) (lv' := [(3, .int (nI (i + 1))), (0, .ref a0), (1, .int (nI q)), (2, .int (nI sg))]) hx hb ndF_textBeginsAs_25 hl (k := 3) rfl (nI_1 i) (by decide) rfl (fun ls hl => ?_)
        refine lv_goto (tgt := 2) hx hb ndF_textBeginsAs_28 (by decide) ?_
        exact ih (i + 1) (by omega) (lt_s hall c_20) _ _ _ hP hD hS (lv_sub hl [1, 2, 3, 0] rfl)
      · refine lv_iconst (v := 0) hx hb ndF_textBeginsAs_23 (by decide) ?_
        exact fd_ret_i hx hb hr hlocks hS hP hD rfl (by rw [fd_bg, if_neg (fun h9 => c_20 (h9 i (by omega)))]) ndF_textBeginsAs_24
  exact loop sg 0 (by omega) lt_0 _ _ _ hP hD hS (lv_sub hl [1, 2, 3, 0] rfl)
set_option maxHeartbeats 4000000 in
set_option maxRecDepth 100000 in
theorem kF_kindWithSigns (l : Launch) (D : va_G) (Z : Nat → Nat) (cI cL : ClassId) {a0 a1 a2 a3 a4 a5 a6 a7 a8 a9 a10 n kd k wn od ok : Nat} {f fs wf os : Nat → Int32} {fn on : Nat → Int64} {cf : Int32} (hn : n ≤ 400) (hkd : kd ≤ 15) (hk : k ≤ 20) (hwn : wn ≤ 123) (hod : od ≤ 15) (hok : ok ≤ 20) {sg : Nat} (hsg : sg ≤ 3) : fd_Mi l D fd_cl (fd_ty cI cL) (fd_EV Z) nyF_kindWithSigns (.code nyF_kindWithSigns ncF_kindWithSigns 3 (some .int) :: fd_TB) nmF_kindWithSigns [.ref a0, .int (nI sg)] [(a0, .inr (2, [.ref a1, .ref a3, .ref a6, .ref a8, .int cf])), (a1, .inr (0, [.ref a2, .int (nI n)])), (a2, .inl (cI, 400, .inl f)), (a3, .inr (1, [.ref a4, .ref a5, .int (nI kd), .int (nI k)])), (a4, .inl (cI, 20, .inl fs)), (a5, .inl (cL, 20, .inr (.inl fn))), (a6, .inr (0, [.ref a7, .int (nI wn)])), (a7, .inl (cI, 123, .inl wf)), (a8, .inr (1, [.ref a9, .ref a10, .int (nI od), .int (nI ok)])), (a9, .inl (cI, 20, .inl os)), (a10, .inl (cL, 20, .inr (.inl on)))] [(a0, .inr (2, [.ref a1, .ref a3, .ref a6, .ref a8, .int cf])), (a1, .inr (0, [.ref a2, .int (nI n)])), (a2, .inl (cI, 400, .inl f)), (a3, .inr (1, [.ref a4, .ref a5, .int (nI kd), .int (nI k)])), (a4, .inl (cI, 20, .inl fs)), (a5, .inl (cL, 20, .inr (.inl fn))), (a6, .inr (0, [.ref a7, .int (nI wn)])), (a7, .inl (cI, 123, .inl wf)), (a8, .inr (1, [.ref a9, .ref a10, .int (nI od), .int (nI ok)])), (a9, .inl (cI, 20, .inl os)), (a10, .inl (cL, 20, .inr (.inl on)))] (nI (fd_kn f n sg)) := by
  refine fd_open_i (cc := ncF_kindWithSigns) (maxL := 3) (ret := (some .int)) (by decide) rfl (Nat.le_of_ble_eq_true rfl) ?_
  intro p e s m below meth c A ls X hP hD hS hl
  obtain ⟨hx, hb, hr, hml, hown, hts0, hlocks, hK, hEV, hA⟩ := X
  have hts : ∀ w ∈ fd_TB, w.before _ s = true := fun w h => hts0 w (List.mem_cons_of_mem _ h)
  have hE := fd_EV_ok Z
  have hown : s.vm.findClass "FieldDesk" = some m.cls := hown
  have hl : lv_has ls 3 [(0, .ref a0), (1, .int (nI sg))] := hl
  refine lv_iconst (v := 1) hx hb ndF_kindWithSigns_0 (by decide) ?_
  refine lv_istore_n (lv' := [(2, .int 1), (0, .ref a0), (1, .int (nI sg))]) hx hb ndF_kindWithSigns_1 rfl hl (by decide) rfl (fun ls hl => ?_)
  have loop : ∀ (z : Nat) (q : Nat) (hq : q + z = 16) (hq1 : 1 ≤ q) (hk9 : fd_kw f n sg z q = fd_kw f n sg 15 1) (H : Heap) (locs : List Loc) (ls : Array Slot), va_P D fd_cl [(a0, .inr (2, [.ref a1, .ref a3, .ref a6, .ref a8, .int cf])), (a1, .inr (0, [.ref a2, .int (nI n)])), (a2, .inl (cI, 400, .inl f)), (a3, .inr (1, [.ref a4, .ref a5, .int (nI kd), .int (nI k)])), (a4, .inl (cI, 20, .inl fs)), (a5, .inl (cL, 20, .inr (.inl fn))), (a6, .inr (0, [.ref a7, .int (nI wn)])), (a7, .inl (cI, 123, .inl wf)), (a8, .inr (1, [.ref a9, .ref a10, .int (nI od), .int (nI ok)])), (a9, .inl (cI, 20, .inl os)), (a10, .inl (cL, 20, .inr (.inl on)))] H → va_D A [(a0, .inr (2, [.ref a1, .ref a3, .ref a6, .ref a8, .int cf])), (a1, .inr (0, [.ref a2, .int (nI n)])), (a2, .inl (cI, 400, .inl f)), (a3, .inr (1, [.ref a4, .ref a5, .int (nI kd), .int (nI k)])), (a4, .inl (cI, 20, .inl fs)), (a5, .inl (cL, 20, .inr (.inl fn))), (a6, .inr (0, [.ref a7, .int (nI wn)])), (a7, .inl (cI, 123, .inl wf)), (a8, .inr (1, [.ref a9, .ref a10, .int (nI od), .int (nI ok)])), (a9, .inl (cI, 20, .inl os)), (a10, .inl (cL, 20, .inr (.inl on)))] → va_S A s.heap H locs → lv_has ls 3 [(0, .ref a0), (1, .int (nI sg)), (2, .int (nI q))] → W p l e nmF_kindWithSigns s m ([.ref a0, .int (nI sg)].toArray) below meth c H locs 0 0 (MQ below (va_Qi (fun r' (_ : Unit) => r' = (nI (fd_kn f n sg))) (fd_B D fd_cl A [(a0, .inr (2, [.ref a1, .ref a3, .ref a6, .ref a8, .int cf])), (a1, .inr (0, [.ref a2, .int (nI n)])), (a2, .inl (cI, 400, .inl f)), (a3, .inr (1, [.ref a4, .ref a5, .int (nI kd), .int (nI k)])), (a4, .inl (cI, 20, .inl fs)), (a5, .inl (cL, 20, .inr (.inl fn))), (a6, .inr (0, [.ref a7, .int (nI wn)])), (a7, .inl (cI, 123, .inl wf)), (a8, .inr (1, [.ref a9, .ref a10, .int (nI od), .int (nI ok)])), (a9, .inl (cI, 20, .inl os)), (a10, .inl (cL, 20, .inr (.inl on)))]) A) [.ref a0, .int (nI sg)].toArray s 0 0 A) (F0 m 2 ls []) := by
    intro z
    induction z with
    | zero =>
      intro q hq hq1 hk9 H locs ls hP hD hS hl
      refine lv_iload_n hx hb ndF_kindWithSigns_2 rfl (lv_at hl 2 rfl) ?_
      refine lv_bipush (v := 15) hx hb ndF_kindWithSigns_3 (by decide) ?_
      refine lv_icmp_gt (tgt := 25) hx hb ndF_kindWithSigns_5 (by decide) (fun _ => ?_) (fun c_5 => absurd ((nI_ltI (a := 15) (b := q) (by omega) (by omega)).mpr (by omega)) c_5)
      refine lv_iconst (v := 0) hx hb ndF_kindWithSigns_25 (by decide) ?_
      exact fd_ret_i hx hb hr hlocks hS hP hD rfl (by rw [fd_kn, ← hk9]; rfl) ndF_kindWithSigns_26
    | succ z ih =>
      intro q hq hq1 hk9 H locs ls hP hD hS hl
      refine lv_iload_n hx hb ndF_kindWithSigns_2 rfl (lv_at hl 2 rfl) ?_
      refine lv_bipush (v := 15) hx hb ndF_kindWithSigns_3 (by decide) ?_
      refine lv_icmp_gt (tgt := 25) hx hb ndF_kindWithSigns_5 (by decide) (fun c_5 => absurd c_5 (fun h9 => absurd ((nI_ltI (a := 15) (b := q) (by omega) (by omega)).mp h9) (by omega))) (fun _ => ?_)
      refine lv_aload_n hx hb ndF_kindWithSigns_8 rfl (lv_at hl 0 rfl) ?_
      refine lv_iload_n hx hb ndF_kindWithSigns_9 rfl (lv_at hl 2 rfl) ?_
      refine lv_iload_n hx hb ndF_kindWithSigns_10 rfl (lv_at hl 1 rfl) ?_
      refine fd_go_i (wr := []) (w2 := [(a0, .inr (2, [.ref a1, .ref a3, .ref a6, .ref a8, .int cf])), (a1, .inr (0, [.ref a2, .int (nI n)])), (a2, .inl (cI, 400, .inl f)), (a3, .inr (1, [.ref a4, .ref a5, .int (nI kd), .int (nI k)])), (a4, .inl (cI, 20, .inl fs)), (a5, .inl (cL, 20, .inr (.inl fn))), (a6, .inr (0, [.ref a7, .int (nI wn)])), (a7, .inl (cI, 123, .inl wf)), (a8, .inr (1, [.ref a9, .ref a10, .int (nI od), .int (nI ok)])), (a9, .inl (cI, 20, .inl os)), (a10, .inl (cL, 20, .inr (.inl on)))]) (va_runV (As := [.int (nI q), .int (nI sg)]) (rest := []) ⟨hx, hb, hml, hown, hts⟩ (kF_textBeginsAs l D Z cI cL (n := n) (f := f) (kd := kd) (k := k) (fs := fs) (fn := fn) (wn := wn) (wf := wf) (od := od) (ok := ok) (os := os) (on := on) (cf := cf) (by omega) (by omega) (by omega) (by omega) (by omega) (by omega) (q := q) (sg := sg) (by omega) (by omega) (by omega) H.size) (cwV 2 hts (fd_gV tb_88 tb_89 tb_3 tb_13 tb_90) rfl rfl rfl nhF_textBeginsAs ⟨(Nat.le_of_ble_eq_true rfl), (Nat.le_of_ble_eq_true rfl)⟩) (fd_PreV hE hK hEV hA hP hD hS [0, 1, 2, 3, 4, 5, 6, 7, 8, 9, 10] rfl (by decide) (ci := 2) (q0 := 0) rfl rfl) rfl rfl hl.1 rfl (lv_room (Nat.le_of_ble_eq_true rfl)) ndF_kindWithSigns_11 ⟨(Nat.le_of_ble_eq_true rfl), (Nat.le_of_ble_eq_true rfl)⟩) hP hD hS hA [0, 1, 2, 3, 4, 5, 6, 7, 8, 9, 10] [] rfl rfl (by decide) (by decide) [0, 1, 2, 3, 4, 5, 6, 7, 8, 9, 10] rfl (by decide) (fun H locs hP hD hS => ?_)
      refine lv_if_eq (tgt := 19) hx hb ndF_kindWithSigns_14 (by decide) (fun c_14 => ?_) (fun c_14 => ?_)
      · refine lv_iinc (v := nI (q + 1)) (lv' := [(2, .int (nI (q + 1))), (0, .ref a0), (1, .int (nI sg))]) hx hb ndF_kindWithSigns_19 hl (k := 2) rfl (nI_1 q) (by decide) rfl (fun ls hl => ?_)
        refine lv_goto (tgt := 2) hx hb ndF_kindWithSigns_22 (by decide) ?_
        exact ih (q + 1) (by omega) (by omega) (by rw [← hk9, fd_kw, if_pos c_14]) _ _ _ hP hD hS (lv_sub hl [1, 2, 0] rfl)
      · refine lv_iload_n hx hb ndF_kindWithSigns_17 rfl (lv_at hl 2 rfl) ?_
        exact fd_ret_i hx hb hr hlocks hS hP hD rfl (by rw [fd_kn, ← hk9, fd_kw, if_neg c_14]) ndF_kindWithSigns_18
  exact loop 15 1 (by omega) (by omega) rfl _ _ _ hP hD hS (lv_sub hl [1, 2, 0] rfl)
set_option maxHeartbeats 4000000 in
set_option maxRecDepth 100000 in
theorem kF_hearKind_0 (l : Launch) (D : va_G) (Z : Nat → Nat) (cI cL : ClassId) {a0 a1 a2 a3 a4 a5 a6 a7 a8 a9 a10 n kd k wn od ok : Nat} {f fs wf os : Nat → Int32} {fn on : Nat → Int64} {cf : Int32} (hn : n ≤ 400) (hkd : kd ≤ 15) (hk : k ≤ 20) (hwn : wn ≤ 123) (hod : od ≤ 15) (hok : ok ≤ 20) (g1 : fd_kn f n 1 = 0) : fd_Mi l D fd_cl (fd_ty cI cL) (fd_EV Z) nyF_hearKind (.code nyF_hearKind ncF_hearKind 2 (some .int) :: fd_TB) nmF_hearKind [.ref a0] [(a0, .inr (2, [.ref a1, .ref a3, .ref a6, .ref a8, .int cf])), (a1, .inr (0, [.ref a2, .int (nI n)])), (a2, .inl (cI, 400, .inl f)), (a3, .inr (1, [.ref a4, .ref a5, .int (nI kd), .int (nI k)])), (a4, .inl (cI, 20, .inl fs)), (a5, .inl (cL, 20, .inr (.inl fn))), (a6, .inr (0, [.ref a7, .int (nI wn)])), (a7, .inl (cI, 123, .inl wf)), (a8, .inr (1, [.ref a9, .ref a10, .int (nI od), .int (nI ok)])), (a9, .inl (cI, 20, .inl os)), (a10, .inl (cL, 20, .inr (.inl on)))] [(a0, .inr (2, [.ref a1, .ref a3, .ref a6, .ref a8, .int cf])), (a1, .inr (0, [.ref a2, .int (nI n)])), (a2, .inl (cI, 400, .inl f)), (a3, .inr (1, [.ref a4, .ref a5, .int (nI kd), .int (nI k)])), (a4, .inl (cI, 20, .inl fs)), (a5, .inl (cL, 20, .inr (.inl fn))), (a6, .inr (0, [.ref a7, .int (nI wn)])), (a7, .inl (cI, 123, .inl wf)), (a8, .inr (1, [.ref a9, .ref a10, .int (nI od), .int (nI ok)])), (a9, .inl (cI, 20, .inl os)), (a10, .inl (cL, 20, .inr (.inl on)))] 0 := by
  have K1 := fd_kn_le f n 1
  have K2 := fd_kn_le f n 2
  have K3 := fd_kn_le f n 3
  refine fd_open_i (cc := ncF_hearKind) (maxL := 2) (ret := (some .int)) (by decide) rfl (Nat.le_of_ble_eq_true rfl) ?_
  intro p e s m below meth c A ls X hP hD hS hl
  obtain ⟨hx, hb, hr, hml, hown, hts0, hlocks, hK, hEV, hA⟩ := X
  have hts : ∀ w ∈ fd_TB, w.before _ s = true := fun w h => hts0 w (List.mem_cons_of_mem _ h)
  have hE := fd_EV_ok Z
  have hown : s.vm.findClass "FieldDesk" = some m.cls := hown
  have hl : lv_has ls 2 [(0, .ref a0)] := hl
  refine lv_iconst (v := 0) hx hb ndF_hearKind_0 (by decide) ?_
  refine lv_istore_n (lv' := [(1, .int 0), (0, .ref a0)]) hx hb ndF_hearKind_1 rfl hl (by decide) rfl (fun ls hl => ?_)
  refine lv_iload_n hx hb ndF_hearKind_2 rfl (lv_at hl 0 rfl) ?_
  refine lv_iconst (v := 3) hx hb ndF_hearKind_3 (by decide) ?_
  refine lv_icmp_ge (tgt := 25) hx hb ndF_hearKind_4 (by decide) (fun c_4 => absurd c_4 (by decide)) (fun _ => ?_)
  refine lv_aload_n hx hb ndF_hearKind_7 rfl (lv_at hl 1 rfl) ?_
  refine lv_iload_n hx hb ndF_hearKind_8 rfl (lv_at hl 0 rfl) ?_
  refine lv_iconst (v := 1) hx hb ndF_hearKind_9 (by decide) ?_
  refine lv_iadd hx hb ndF_hearKind_10 ?_
  refine fd_asi (y := nI 1) (by decide) ?_
  refine fd_go_i (wr := []) (w2 := [(a0, .inr (2, [.ref a1, .ref a3, .ref a6, .ref a8, .int cf])), (a1, .inr (0, [.ref a2, .int (nI n)])), (a2, .inl (cI, 400, .inl f)), (a3, .inr (1, [.ref a4, .ref a5, .int (nI kd), .int (nI k)])), (a4, .inl (cI, 20, .inl fs)), (a5, .inl (cL, 20, .inr (.inl fn))), (a6, .inr (0, [.ref a7, .int (nI wn)])), (a7, .inl (cI, 123, .inl wf)), (a8, .inr (1, [.ref a9, .ref a10, .int (nI od), .int (nI ok)])), (a9, .inl (cI, 20, .inl os)), (a10, .inl (cL, 20, .inr (.inl on)))]) (va_runV (As := [.int (nI 1)]) (rest := []) ⟨hx, hb, hml, hown, hts⟩ (kF_kindWithSigns l D Z cI cL (n := n) (f := f) (kd := kd) (k := k) (fs := fs) (fn := fn) (wn := wn) (wf := wf) (od := od) (ok := ok) (os := os) (on := on) (cf := cf) (by omega) (by omega) (by omega) (by omega) (by omega) (by omega) (sg := 1) (by omega) s.heap.size) (cwV 1 hts (fd_gV tb_85 tb_86 tb_2 tb_13 tb_87) rfl rfl rfl nhF_kindWithSigns ⟨(Nat.le_of_ble_eq_true rfl), (Nat.le_of_ble_eq_true rfl)⟩) (fd_PreV hE hK hEV hA hP hD hS [0, 1, 2, 3, 4, 5, 6, 7, 8, 9, 10] rfl (by decide) (ci := 2) (q0 := 0) rfl rfl) rfl rfl hl.1 rfl (lv_room (Nat.le_of_ble_eq_true rfl)) ndF_hearKind_11 ⟨(Nat.le_of_ble_eq_true rfl), (Nat.le_of_ble_eq_true rfl)⟩) hP hD hS hA [0, 1, 2, 3, 4, 5, 6, 7, 8, 9, 10] [] rfl rfl (by decide) (by decide) [0, 1, 2, 3, 4, 5, 6, 7, 8, 9, 10] rfl (by decide) (fun H locs hP hD hS => ?_)
  refine lv_if_ne (tgt := 19) hx hb ndF_hearKind_14 (by decide) (fun c_14 => absurd ((nI_eq (a := (fd_kn f n 1)) (b := 0) (by omega) (by omega)).mpr (by omega)) c_14) (fun _ => ?_)
  refine lv_iload_n hx hb ndF_hearKind_17 rfl (lv_at hl 0 rfl) ?_
  exact fd_ret_i hx hb hr hlocks hS hP hD rfl (rfl) ndF_hearKind_18
set_option maxHeartbeats 4000000 in
set_option maxRecDepth 100000 in
theorem kF_hearKind_1 (l : Launch) (D : va_G) (Z : Nat → Nat) (cI cL : ClassId) {a0 a1 a2 a3 a4 a5 a6 a7 a8 a9 a10 n kd k wn od ok : Nat} {f fs wf os : Nat → Int32} {fn on : Nat → Int64} {cf : Int32} (hn : n ≤ 400) (hkd : kd ≤ 15) (hk : k ≤ 20) (hwn : wn ≤ 123) (hod : od ≤ 15) (hok : ok ≤ 20) (g1 : ¬ fd_kn f n 1 = 0) (g2 : fd_kn f n 2 = 0) : fd_Mi l D fd_cl (fd_ty cI cL) (fd_EV Z) nyF_hearKind (.code nyF_hearKind ncF_hearKind 2 (some .int) :: fd_TB) nmF_hearKind [.ref a0] [(a0, .inr (2, [.ref a1, .ref a3, .ref a6, .ref a8, .int cf])), (a1, .inr (0, [.ref a2, .int (nI n)])), (a2, .inl (cI, 400, .inl f)), (a3, .inr (1, [.ref a4, .ref a5, .int (nI kd), .int (nI k)])), (a4, .inl (cI, 20, .inl fs)), (a5, .inl (cL, 20, .inr (.inl fn))), (a6, .inr (0, [.ref a7, .int (nI wn)])), (a7, .inl (cI, 123, .inl wf)), (a8, .inr (1, [.ref a9, .ref a10, .int (nI od), .int (nI ok)])), (a9, .inl (cI, 20, .inl os)), (a10, .inl (cL, 20, .inr (.inl on)))] [(a0, .inr (2, [.ref a1, .ref a3, .ref a6, .ref a8, .int cf])), (a1, .inr (0, [.ref a2, .int (nI n)])), (a2, .inl (cI, 400, .inl f)), (a3, .inr (1, [.ref a4, .ref a5, .int (nI kd), .int (nI k)])), (a4, .inl (cI, 20, .inl fs)), (a5, .inl (cL, 20, .inr (.inl fn))), (a6, .inr (0, [.ref a7, .int (nI wn)])), (a7, .inl (cI, 123, .inl wf)), (a8, .inr (1, [.ref a9, .ref a10, .int (nI od), .int (nI ok)])), (a9, .inl (cI, 20, .inl os)), (a10, .inl (cL, 20, .inr (.inl on)))] 1 := by
  have K1 := fd_kn_le f n 1
  have K2 := fd_kn_le f n 2
  have K3 := fd_kn_le f n 3
  refine fd_open_i (cc := ncF_hearKind) (maxL := 2) (ret := (some .int)) (by decide) rfl (Nat.le_of_ble_eq_true rfl) ?_
  intro p e s m below meth c A ls X hP hD hS hl
  obtain ⟨hx, hb, hr, hml, hown, hts0, hlocks, hK, hEV, hA⟩ := X
  have hts : ∀ w ∈ fd_TB, w.before _ s = true := fun w h => hts0 w (List.mem_cons_of_mem _ h)
  have hE := fd_EV_ok Z
  have hown : s.vm.findClass "FieldDesk" = some m.cls := hown
  have hl : lv_has ls 2 [(0, .ref a0)] := hl
  refine lv_iconst (v := 0) hx hb ndF_hearKind_0 (by decide) ?_
  refine lv_istore_n (lv' := [(1, .int 0), (0, .ref a0)]) hx hb ndF_hearKind_1 rfl hl (by decide) rfl (fun ls hl => ?_)
  refine lv_iload_n hx hb ndF_hearKind_2 rfl (lv_at hl 0 rfl) ?_
  refine lv_iconst (v := 3) hx hb ndF_hearKind_3 (by decide) ?_
  refine lv_icmp_ge (tgt := 25) hx hb ndF_hearKind_4 (by decide) (fun c_4 => absurd c_4 (by decide)) (fun _ => ?_)
  refine lv_aload_n hx hb ndF_hearKind_7 rfl (lv_at hl 1 rfl) ?_
  refine lv_iload_n hx hb ndF_hearKind_8 rfl (lv_at hl 0 rfl) ?_
  refine lv_iconst (v := 1) hx hb ndF_hearKind_9 (by decide) ?_
  refine lv_iadd hx hb ndF_hearKind_10 ?_
  refine fd_asi (y := nI 1) (by decide) ?_
  refine fd_go_i (wr := []) (w2 := [(a0, .inr (2, [.ref a1, .ref a3, .ref a6, .ref a8, .int cf])), (a1, .inr (0, [.ref a2, .int (nI n)])), (a2, .inl (cI, 400, .inl f)), (a3, .inr (1, [.ref a4, .ref a5, .int (nI kd), .int (nI k)])), (a4, .inl (cI, 20, .inl fs)), (a5, .inl (cL, 20, .inr (.inl fn))), (a6, .inr (0, [.ref a7, .int (nI wn)])), (a7, .inl (cI, 123, .inl wf)), (a8, .inr (1, [.ref a9, .ref a10, .int (nI od), .int (nI ok)])), (a9, .inl (cI, 20, .inl os)), (a10, .inl (cL, 20, .inr (.inl on)))]) (va_runV (As := [.int (nI 1)]) (rest := []) ⟨hx, hb, hml, hown, hts⟩ (kF_kindWithSigns l D Z cI cL (n := n) (f := f) (kd := kd) (k := k) (fs := fs) (fn := fn) (wn := wn) (wf := wf) (od := od) (ok := ok) (os := os) (on := on) (cf := cf) (by omega) (by omega) (by omega) (by omega) (by omega) (by omega) (sg := 1) (by omega) s.heap.size) (cwV 1 hts (fd_gV tb_85 tb_86 tb_2 tb_13 tb_87) rfl rfl rfl nhF_kindWithSigns ⟨(Nat.le_of_ble_eq_true rfl), (Nat.le_of_ble_eq_true rfl)⟩) (fd_PreV hE hK hEV hA hP hD hS [0, 1, 2, 3, 4, 5, 6, 7, 8, 9, 10] rfl (by decide) (ci := 2) (q0 := 0) rfl rfl) rfl rfl hl.1 rfl (lv_room (Nat.le_of_ble_eq_true rfl)) ndF_hearKind_11 ⟨(Nat.le_of_ble_eq_true rfl), (Nat.le_of_ble_eq_true rfl)⟩) hP hD hS hA [0, 1, 2, 3, 4, 5, 6, 7, 8, 9, 10] [] rfl rfl (by decide) (by decide) [0, 1, 2, 3, 4, 5, 6, 7, 8, 9, 10] rfl (by decide) (fun H locs hP hD hS => ?_)
  refine lv_if_ne (tgt := 19) hx hb ndF_hearKind_14 (by decide) (fun _ => ?_) (fun c_14 => absurd c_14 (fun h9 => absurd ((nI_eq (a := (fd_kn f n 1)) (b := 0) (by omega) (by omega)).mp h9) (by omega)))
  refine lv_iinc (v := 1) (lv' := [(1, .int 1), (0, .ref a0)]) hx hb ndF_hearKind_19 hl (k := 0) rfl (by decide) (by decide) rfl (fun ls hl => ?_)
  refine lv_goto (tgt := 2) hx hb ndF_hearKind_22 (by decide) ?_
  refine lv_iload_n hx hb ndF_hearKind_2 rfl (lv_at hl 0 rfl) ?_
  refine lv_iconst (v := 3) hx hb ndF_hearKind_3 (by decide) ?_
  refine lv_icmp_ge (tgt := 25) hx hb ndF_hearKind_4 (by decide) (fun c_4 => absurd c_4 (by decide)) (fun _ => ?_)
  refine lv_aload_n hx hb ndF_hearKind_7 rfl (lv_at hl 1 rfl) ?_
  refine lv_iload_n hx hb ndF_hearKind_8 rfl (lv_at hl 0 rfl) ?_
  refine lv_iconst (v := 1) hx hb ndF_hearKind_9 (by decide) ?_
  refine lv_iadd hx hb ndF_hearKind_10 ?_
  refine fd_asi (y := nI 2) (by decide) ?_
  refine fd_go_i (wr := []) (w2 := [(a0, .inr (2, [.ref a1, .ref a3, .ref a6, .ref a8, .int cf])), (a1, .inr (0, [.ref a2, .int (nI n)])), (a2, .inl (cI, 400, .inl f)), (a3, .inr (1, [.ref a4, .ref a5, .int (nI kd), .int (nI k)])), (a4, .inl (cI, 20, .inl fs)), (a5, .inl (cL, 20, .inr (.inl fn))), (a6, .inr (0, [.ref a7, .int (nI wn)])), (a7, .inl (cI, 123, .inl wf)), (a8, .inr (1, [.ref a9, .ref a10, .int (nI od), .int (nI ok)])), (a9, .inl (cI, 20, .inl os)), (a10, .inl (cL, 20, .inr (.inl on)))]) (va_runV (As := [.int (nI 2)]) (rest := []) ⟨hx, hb, hml, hown, hts⟩ (kF_kindWithSigns l D Z cI cL (n := n) (f := f) (kd := kd) (k := k) (fs := fs) (fn := fn) (wn := wn) (wf := wf) (od := od) (ok := ok) (os := os) (on := on) (cf := cf) (by omega) (by omega) (by omega) (by omega) (by omega) (by omega) (sg := 2) (by omega) H.size) (cwV 1 hts (fd_gV tb_85 tb_86 tb_2 tb_13 tb_87) rfl rfl rfl nhF_kindWithSigns ⟨(Nat.le_of_ble_eq_true rfl), (Nat.le_of_ble_eq_true rfl)⟩) (fd_PreV hE hK hEV hA hP hD hS [0, 1, 2, 3, 4, 5, 6, 7, 8, 9, 10] rfl (by decide) (ci := 2) (q0 := 0) rfl rfl) rfl rfl hl.1 rfl (lv_room (Nat.le_of_ble_eq_true rfl)) ndF_hearKind_11 ⟨(Nat.le_of_ble_eq_true rfl), (Nat.le_of_ble_eq_true rfl)⟩) hP hD hS hA [0, 1, 2, 3, 4, 5, 6, 7, 8, 9, 10] [] rfl rfl (by decide) (by decide) [0, 1, 2, 3, 4, 5, 6, 7, 8, 9, 10] rfl (by decide) (fun H locs hP hD hS => ?_)
  refine lv_if_ne (tgt := 19) hx hb ndF_hearKind_14 (by decide) (fun c_14 => absurd ((nI_eq (a := (fd_kn f n 2)) (b := 0) (by omega) (by omega)).mpr (by omega)) c_14) (fun _ => ?_)
  refine lv_iload_n hx hb ndF_hearKind_17 rfl (lv_at hl 0 rfl) ?_
  exact fd_ret_i hx hb hr hlocks hS hP hD rfl (rfl) ndF_hearKind_18
set_option maxHeartbeats 4000000 in
set_option maxRecDepth 100000 in
theorem kF_hearKind_2 (l : Launch) (D : va_G) (Z : Nat → Nat) (cI cL : ClassId) {a0 a1 a2 a3 a4 a5 a6 a7 a8 a9 a10 n kd k wn od ok : Nat} {f fs wf os : Nat → Int32} {fn on : Nat → Int64} {cf : Int32} (hn : n ≤ 400) (hkd : kd ≤ 15) (hk : k ≤ 20) (hwn : wn ≤ 123) (hod : od ≤ 15) (hok : ok ≤ 20) (g1 : ¬ fd_kn f n 1 = 0) (g2 : ¬ fd_kn f n 2 = 0) (g3 : fd_kn f n 3 = 0) : fd_Mi l D fd_cl (fd_ty cI cL) (fd_EV Z) nyF_hearKind (.code nyF_hearKind ncF_hearKind 2 (some .int) :: fd_TB) nmF_hearKind [.ref a0] [(a0, .inr (2, [.ref a1, .ref a3, .ref a6, .ref a8, .int cf])), (a1, .inr (0, [.ref a2, .int (nI n)])), (a2, .inl (cI, 400, .inl f)), (a3, .inr (1, [.ref a4, .ref a5, .int (nI kd), .int (nI k)])), (a4, .inl (cI, 20, .inl fs)), (a5, .inl (cL, 20, .inr (.inl fn))), (a6, .inr (0, [.ref a7, .int (nI wn)])), (a7, .inl (cI, 123, .inl wf)), (a8, .inr (1, [.ref a9, .ref a10, .int (nI od), .int (nI ok)])), (a9, .inl (cI, 20, .inl os)), (a10, .inl (cL, 20, .inr (.inl on)))] [(a0, .inr (2, [.ref a1, .ref a3, .ref a6, .ref a8, .int cf])), (a1, .inr (0, [.ref a2, .int (nI n)])), (a2, .inl (cI, 400, .inl f)), (a3, .inr (1, [.ref a4, .ref a5, .int (nI kd), .int (nI k)])), (a4, .inl (cI, 20, .inl fs)), (a5, .inl (cL, 20, .inr (.inl fn))), (a6, .inr (0, [.ref a7, .int (nI wn)])), (a7, .inl (cI, 123, .inl wf)), (a8, .inr (1, [.ref a9, .ref a10, .int (nI od), .int (nI ok)])), (a9, .inl (cI, 20, .inl os)), (a10, .inl (cL, 20, .inr (.inl on)))] 2 := by
  have K1 := fd_kn_le f n 1
  have K2 := fd_kn_le f n 2
  have K3 := fd_kn_le f n 3
  refine fd_open_i (cc := ncF_hearKind) (maxL := 2) (ret := (some .int)) (by decide) rfl (Nat.le_of_ble_eq_true rfl) ?_
  intro p e s m below meth c A ls X hP hD hS hl
  obtain ⟨hx, hb, hr, hml, hown, hts0, hlocks, hK, hEV, hA⟩ := X
  have hts : ∀ w ∈ fd_TB, w.before _ s = true := fun w h => hts0 w (List.mem_cons_of_mem _ h)
  have hE := fd_EV_ok Z
  have hown : s.vm.findClass "FieldDesk" = some m.cls := hown
  have hl : lv_has ls 2 [(0, .ref a0)] := hl
  refine lv_iconst (v := 0) hx hb ndF_hearKind_0 (by decide) ?_
  refine lv_istore_n (lv' := [(1, .int 0), (0, .ref a0)]) hx hb ndF_hearKind_1 rfl hl (by decide) rfl (fun ls hl => ?_)
  refine lv_iload_n hx hb ndF_hearKind_2 rfl (lv_at hl 0 rfl) ?_
  refine lv_iconst (v := 3) hx hb ndF_hearKind_3 (by decide) ?_
  refine lv_icmp_ge (tgt := 25) hx hb ndF_hearKind_4 (by decide) (fun c_4 => absurd c_4 (by decide)) (fun _ => ?_)
  refine lv_aload_n hx hb ndF_hearKind_7 rfl (lv_at hl 1 rfl) ?_
  refine lv_iload_n hx hb ndF_hearKind_8 rfl (lv_at hl 0 rfl) ?_
  refine lv_iconst (v := 1) hx hb ndF_hearKind_9 (by decide) ?_
  refine lv_iadd hx hb ndF_hearKind_10 ?_
  refine fd_asi (y := nI 1) (by decide) ?_
  refine fd_go_i (wr := []) (w2 := [(a0, .inr (2, [.ref a1, .ref a3, .ref a6, .ref a8, .int cf])), (a1, .inr (0, [.ref a2, .int (nI n)])), (a2, .inl (cI, 400, .inl f)), (a3, .inr (1, [.ref a4, .ref a5, .int (nI kd), .int (nI k)])), (a4, .inl (cI, 20, .inl fs)), (a5, .inl (cL, 20, .inr (.inl fn))), (a6, .inr (0, [.ref a7, .int (nI wn)])), (a7, .inl (cI, 123, .inl wf)), (a8, .inr (1, [.ref a9, .ref a10, .int (nI od), .int (nI ok)])), (a9, .inl (cI, 20, .inl os)), (a10, .inl (cL, 20, .inr (.inl on)))]) (va_runV (As := [.int (nI 1)]) (rest := []) ⟨hx, hb, hml, hown, hts⟩ (kF_kindWithSigns l D Z cI cL (n := n) (f := f) (kd := kd) (k := k) (fs := fs) (fn := fn) (wn := wn) (wf := wf) (od := od) (ok := ok) (os := os) (on := on) (cf := cf) (by omega) (by omega) (by omega) (by omega) (by omega) (by omega) (sg := 1) (by omega) s.heap.size) (cwV 1 hts (fd_gV tb_85 tb_86 tb_2 tb_13 tb_87) rfl rfl rfl nhF_kindWithSigns ⟨(Nat.le_of_ble_eq_true rfl), (Nat.le_of_ble_eq_true rfl)⟩) (fd_PreV hE hK hEV hA hP hD hS [0, 1, 2, 3, 4, 5, 6, 7, 8, 9, 10] rfl (by decide) (ci := 2) (q0 := 0) rfl rfl) rfl rfl hl.1 rfl (lv_room (Nat.le_of_ble_eq_true rfl)) ndF_hearKind_11 ⟨(Nat.le_of_ble_eq_true rfl), (Nat.le_of_ble_eq_true rfl)⟩) hP hD hS hA [0, 1, 2, 3, 4, 5, 6, 7, 8, 9, 10] [] rfl rfl (by decide) (by decide) [0, 1, 2, 3, 4, 5, 6, 7, 8, 9, 10] rfl (by decide) (fun H locs hP hD hS => ?_)
  refine lv_if_ne (tgt := 19) hx hb ndF_hearKind_14 (by decide) (fun _ => ?_) (fun c_14 => absurd c_14 (fun h9 => absurd ((nI_eq (a := (fd_kn f n 1)) (b := 0) (by omega) (by omega)).mp h9) (by omega)))
  refine lv_iinc (v := 1) (lv' := [(1, .int 1), (0, .ref a0)]) hx hb ndF_hearKind_19 hl (k := 0) rfl (by decide) (by decide) rfl (fun ls hl => ?_)
  refine lv_goto (tgt := 2) hx hb ndF_hearKind_22 (by decide) ?_
  refine lv_iload_n hx hb ndF_hearKind_2 rfl (lv_at hl 0 rfl) ?_
  refine lv_iconst (v := 3) hx hb ndF_hearKind_3 (by decide) ?_
  refine lv_icmp_ge (tgt := 25) hx hb ndF_hearKind_4 (by decide) (fun c_4 => absurd c_4 (by decide)) (fun _ => ?_)
  refine lv_aload_n hx hb ndF_hearKind_7 rfl (lv_at hl 1 rfl) ?_
  refine lv_iload_n hx hb ndF_hearKind_8 rfl (lv_at hl 0 rfl) ?_
  refine lv_iconst (v := 1) hx hb ndF_hearKind_9 (by decide) ?_
  refine lv_iadd hx hb ndF_hearKind_10 ?_
  refine fd_asi (y := nI 2) (by decide) ?_
  refine fd_go_i (wr := []) (w2 := [(a0, .inr (2, [.ref a1, .ref a3, .ref a6, .ref a8, .int cf])), (a1, .inr (0, [.ref a2, .int (nI n)])), (a2, .inl (cI, 400, .inl f)), (a3, .inr (1, [.ref a4, .ref a5, .int (nI kd), .int (nI k)])), (a4, .inl (cI, 20, .inl fs)), (a5, .inl (cL, 20, .inr (.inl fn))), (a6, .inr (0, [.ref a7, .int (nI wn)])), (a7, .inl (cI, 123, .inl wf)), (a8, .inr (1, [.ref a9, .ref a10, .int (nI od), .int (nI ok)])), (a9, .inl (cI, 20, .inl os)), (a10, .inl (cL, 20, .inr (.inl on)))]) (va_runV (As := [.int (nI 2)]) (rest := []) ⟨hx, hb, hml, hown, hts⟩ (kF_kindWithSigns l D Z cI cL (n := n) (f := f) (kd := kd) (k := k) (fs := fs) (fn := fn) (wn := wn) (wf := wf) (od := od) (ok := ok) (os := os) (on := on) (cf := cf) (by omega) (by omega) (by omega) (by omega) (by omega) (by omega) (sg := 2) (by omega) H.size) (cwV 1 hts (fd_gV tb_85 tb_86 tb_2 tb_13 tb_87) rfl rfl rfl nhF_kindWithSigns ⟨(Nat.le_of_ble_eq_true rfl), (Nat.le_of_ble_eq_true rfl)⟩) (fd_PreV hE hK hEV hA hP hD hS [0, 1, 2, 3, 4, 5, 6, 7, 8, 9, 10] rfl (by decide) (ci := 2) (q0 := 0) rfl rfl) rfl rfl hl.1 rfl (lv_room (Nat.le_of_ble_eq_true rfl)) ndF_hearKind_11 ⟨(Nat.le_of_ble_eq_true rfl), (Nat.le_of_ble_eq_true rfl)⟩) hP hD hS hA [0, 1, 2, 3, 4, 5, 6, 7, 8, 9, 10] [] rfl rfl (by decide) (by decide) [0, 1, 2, 3, 4, 5, 6, 7, 8, 9, 10] rfl (by decide) (fun H locs hP hD hS => ?_)
  refine lv_if_ne (tgt := 19) hx hb ndF_hearKind_14 (by decide) (fun _ => ?_) (fun c_14 => absurd c_14 (fun h9 => absurd ((nI_eq (a := (fd_kn f n 2)) (b := 0) (by omega) (by omega)).mp h9) (by omega)))
  refine lv_iinc (v := 2) (lv' := [(1, .int 2), (0, .ref a0)]) hx hb ndF_hearKind_19 hl (k := 0) rfl (by decide) (by decide) rfl (fun ls hl => ?_)
  refine lv_goto (tgt := 2) hx hb ndF_hearKind_22 (by decide) ?_
  refine lv_iload_n hx hb ndF_hearKind_2 rfl (lv_at hl 0 rfl) ?_
  refine lv_iconst (v := 3) hx hb ndF_hearKind_3 (by decide) ?_
  refine lv_icmp_ge (tgt := 25) hx hb ndF_hearKind_4 (by decide) (fun c_4 => absurd c_4 (by decide)) (fun _ => ?_)
  refine lv_aload_n hx hb ndF_hearKind_7 rfl (lv_at hl 1 rfl) ?_
  refine lv_iload_n hx hb ndF_hearKind_8 rfl (lv_at hl 0 rfl) ?_
  refine lv_iconst (v := 1) hx hb ndF_hearKind_9 (by decide) ?_
  refine lv_iadd hx hb ndF_hearKind_10 ?_
  refine fd_asi (y := nI 3) (by decide) ?_
  refine fd_go_i (wr := []) (w2 := [(a0, .inr (2, [.ref a1, .ref a3, .ref a6, .ref a8, .int cf])), (a1, .inr (0, [.ref a2, .int (nI n)])), (a2, .inl (cI, 400, .inl f)), (a3, .inr (1, [.ref a4, .ref a5, .int (nI kd), .int (nI k)])), (a4, .inl (cI, 20, .inl fs)), (a5, .inl (cL, 20, .inr (.inl fn))), (a6, .inr (0, [.ref a7, .int (nI wn)])), (a7, .inl (cI, 123, .inl wf)), (a8, .inr (1, [.ref a9, .ref a10, .int (nI od), .int (nI ok)])), (a9, .inl (cI, 20, .inl os)), (a10, .inl (cL, 20, .inr (.inl on)))]) (va_runV (As := [.int (nI 3)]) (rest := []) ⟨hx, hb, hml, hown, hts⟩ (kF_kindWithSigns l D Z cI cL (n := n) (f := f) (kd := kd) (k := k) (fs := fs) (fn := fn) (wn := wn) (wf := wf) (od := od) (ok := ok) (os := os) (on := on) (cf := cf) (by omega) (by omega) (by omega) (by omega) (by omega) (by omega) (sg := 3) (by omega) H.size) (cwV 1 hts (fd_gV tb_85 tb_86 tb_2 tb_13 tb_87) rfl rfl rfl nhF_kindWithSigns ⟨(Nat.le_of_ble_eq_true rfl), (Nat.le_of_ble_eq_true rfl)⟩) (fd_PreV hE hK hEV hA hP hD hS [0, 1, 2, 3, 4, 5, 6, 7, 8, 9, 10] rfl (by decide) (ci := 2) (q0 := 0) rfl rfl) rfl rfl hl.1 rfl (lv_room (Nat.le_of_ble_eq_true rfl)) ndF_hearKind_11 ⟨(Nat.le_of_ble_eq_true rfl), (Nat.le_of_ble_eq_true rfl)⟩) hP hD hS hA [0, 1, 2, 3, 4, 5, 6, 7, 8, 9, 10] [] rfl rfl (by decide) (by decide) [0, 1, 2, 3, 4, 5, 6, 7, 8, 9, 10] rfl (by decide) (fun H locs hP hD hS => ?_)
  refine lv_if_ne (tgt := 19) hx hb ndF_hearKind_14 (by decide) (fun c_14 => absurd ((nI_eq (a := (fd_kn f n 3)) (b := 0) (by omega) (by omega)).mpr (by omega)) c_14) (fun _ => ?_)
  refine lv_iload_n hx hb ndF_hearKind_17 rfl (lv_at hl 0 rfl) ?_
  exact fd_ret_i hx hb hr hlocks hS hP hD rfl (rfl) ndF_hearKind_18
set_option maxHeartbeats 4000000 in
set_option maxRecDepth 100000 in
theorem kF_hearKind_ok (l : Launch) (D : va_G) (Z : Nat → Nat) (cI cL : ClassId) {a0 a1 a2 a3 a4 a5 a6 a7 a8 a9 a10 n kd k wn od ok : Nat} {f fs wf os : Nat → Int32} {fn on : Nat → Int64} {cf : Int32} (hn : n ≤ 400) (hkd : kd ≤ 15) (hk : k ≤ 20) (hwn : wn ≤ 123) (hod : od ≤ 15) (hok : ok ≤ 20) (g1 : ¬ fd_kn f n 1 = 0) (g2 : ¬ fd_kn f n 2 = 0) (g3 : ¬ fd_kn f n 3 = 0) : fd_Mi l D fd_cl (fd_ty cI cL) (fd_EV Z) nyF_hearKind (.code nyF_hearKind ncF_hearKind 2 (some .int) :: fd_TB) nmF_hearKind [.ref a0] [(a0, .inr (2, [.ref a1, .ref a3, .ref a6, .ref a8, .int cf])), (a1, .inr (0, [.ref a2, .int (nI n)])), (a2, .inl (cI, 400, .inl f)), (a3, .inr (1, [.ref a4, .ref a5, .int (nI kd), .int (nI k)])), (a4, .inl (cI, 20, .inl fs)), (a5, .inl (cL, 20, .inr (.inl fn))), (a6, .inr (0, [.ref a7, .int (nI wn)])), (a7, .inl (cI, 123, .inl wf)), (a8, .inr (1, [.ref a9, .ref a10, .int (nI od), .int (nI ok)])), (a9, .inl (cI, 20, .inl os)), (a10, .inl (cL, 20, .inr (.inl on)))] [(a0, .inr (2, [.ref a1, .ref a3, .ref a6, .ref a8, .int cf])), (a1, .inr (0, [.ref a2, .int (nI n)])), (a2, .inl (cI, 400, .inl f)), (a3, .inr (1, [.ref a4, .ref a5, .int (nI (fd_kn f n 3)), .int (nI 0)])), (a4, .inl (cI, 20, .inl fs)), (a5, .inl (cL, 20, .inr (.inl fn))), (a6, .inr (0, [.ref a7, .int (nI wn)])), (a7, .inl (cI, 123, .inl wf)), (a8, .inr (1, [.ref a9, .ref a10, .int (nI od), .int (nI ok)])), (a9, .inl (cI, 20, .inl os)), (a10, .inl (cL, 20, .inr (.inl on)))] (-1) := by
  have K1 := fd_kn_le f n 1
  have K2 := fd_kn_le f n 2
  have K3 := fd_kn_le f n 3
  refine fd_open_i (cc := ncF_hearKind) (maxL := 2) (ret := (some .int)) (by decide) rfl (Nat.le_of_ble_eq_true rfl) ?_
  intro p e s m below meth c A ls X hP hD hS hl
  obtain ⟨hx, hb, hr, hml, hown, hts0, hlocks, hK, hEV, hA⟩ := X
  have hts : ∀ w ∈ fd_TB, w.before _ s = true := fun w h => hts0 w (List.mem_cons_of_mem _ h)
  have hE := fd_EV_ok Z
  have hown : s.vm.findClass "FieldDesk" = some m.cls := hown
  have hl : lv_has ls 2 [(0, .ref a0)] := hl
  refine lv_iconst (v := 0) hx hb ndF_hearKind_0 (by decide) ?_
  refine lv_istore_n (lv' := [(1, .int 0), (0, .ref a0)]) hx hb ndF_hearKind_1 rfl hl (by decide) rfl (fun ls hl => ?_)
  refine lv_iload_n hx hb ndF_hearKind_2 rfl (lv_at hl 0 rfl) ?_
  refine lv_iconst (v := 3) hx hb ndF_hearKind_3 (by decide) ?_
  refine lv_icmp_ge (tgt := 25) hx hb ndF_hearKind_4 (by decide) (fun c_4 => absurd c_4 (by decide)) (fun _ => ?_)
  refine lv_aload_n hx hb ndF_hearKind_7 rfl (lv_at hl 1 rfl) ?_
  refine lv_iload_n hx hb ndF_hearKind_8 rfl (lv_at hl 0 rfl) ?_
  refine lv_iconst (v := 1) hx hb ndF_hearKind_9 (by decide) ?_
  refine lv_iadd hx hb ndF_hearKind_10 ?_
  refine fd_asi (y := nI 1) (by decide) ?_
  refine fd_go_i (wr := []) (w2 := [(a0, .inr (2, [.ref a1, .ref a3, .ref a6, .ref a8, .int cf])), (a1, .inr (0, [.ref a2, .int (nI n)])), (a2, .inl (cI, 400, .inl f)), (a3, .inr (1, [.ref a4, .ref a5, .int (nI kd), .int (nI k)])), (a4, .inl (cI, 20, .inl fs)), (a5, .inl (cL, 20, .inr (.inl fn))), (a6, .inr (0, [.ref a7, .int (nI wn)])), (a7, .inl (cI, 123, .inl wf)), (a8, .inr (1, [.ref a9, .ref a10, .int (nI od), .int (nI ok)])), (a9, .inl (cI, 20, .inl os)), (a10, .inl (cL, 20, .inr (.inl on)))]) (va_runV (As := [.int (nI 1)]) (rest := []) ⟨hx, hb, hml, hown, hts⟩ (kF_kindWithSigns l D Z cI cL (n := n) (f := f) (kd := kd) (k := k) (fs := fs) (fn := fn) (wn := wn) (wf := wf) (od := od) (ok := ok) (os := os) (on := on) (cf := cf) (by omega) (by omega) (by omega) (by omega) (by omega) (by omega) (sg := 1) (by omega) s.heap.size) (cwV 1 hts (fd_gV tb_85 tb_86 tb_2 tb_13 tb_87) rfl rfl rfl nhF_kindWithSigns ⟨(Nat.le_of_ble_eq_true rfl), (Nat.le_of_ble_eq_true rfl)⟩) (fd_PreV hE hK hEV hA hP hD hS [0, 1, 2, 3, 4, 5, 6, 7, 8, 9, 10] rfl (by decide) (ci := 2) (q0 := 0) rfl rfl) rfl rfl hl.1 rfl (lv_room (Nat.le_of_ble_eq_true rfl)) ndF_hearKind_11 ⟨(Nat.le_of_ble_eq_true rfl), (Nat.le_of_ble_eq_true rfl)⟩) hP hD hS hA [0, 1, 2, 3, 4, 5, 6, 7, 8, 9, 10] [] rfl rfl (by decide) (by decide) [0, 1, 2, 3, 4, 5, 6, 7, 8, 9, 10] rfl (by decide) (fun H locs hP hD hS => ?_)
  refine lv_if_ne (tgt := 19) hx hb ndF_hearKind_14 (by decide) (fun _ => ?_) (fun c_14 => absurd c_14 (fun h9 => absurd ((nI_eq (a := (fd_kn f n 1)) (b := 0) (by omega) (by omega)).mp h9) (by omega)))
  refine lv_iinc (v := 1) (lv' := [(1, .int 1), (0, .ref a0)]) hx hb ndF_hearKind_19 hl (k := 0) rfl (by decide) (by decide) rfl (fun ls hl => ?_)
  refine lv_goto (tgt := 2) hx hb ndF_hearKind_22 (by decide) ?_
  refine lv_iload_n hx hb ndF_hearKind_2 rfl (lv_at hl 0 rfl) ?_
  refine lv_iconst (v := 3) hx hb ndF_hearKind_3 (by decide) ?_
  refine lv_icmp_ge (tgt := 25) hx hb ndF_hearKind_4 (by decide) (fun c_4 => absurd c_4 (by decide)) (fun _ => ?_)
  refine lv_aload_n hx hb ndF_hearKind_7 rfl (lv_at hl 1 rfl) ?_
  refine lv_iload_n hx hb ndF_hearKind_8 rfl (lv_at hl 0 rfl) ?_
  refine lv_iconst (v := 1) hx hb ndF_hearKind_9 (by decide) ?_
  refine lv_iadd hx hb ndF_hearKind_10 ?_
  refine fd_asi (y := nI 2) (by decide) ?_
  refine fd_go_i (wr := []) (w2 := [(a0, .inr (2, [.ref a1, .ref a3, .ref a6, .ref a8, .int cf])), (a1, .inr (0, [.ref a2, .int (nI n)])), (a2, .inl (cI, 400, .inl f)), (a3, .inr (1, [.ref a4, .ref a5, .int (nI kd), .int (nI k)])), (a4, .inl (cI, 20, .inl fs)), (a5, .inl (cL, 20, .inr (.inl fn))), (a6, .inr (0, [.ref a7, .int (nI wn)])), (a7, .inl (cI, 123, .inl wf)), (a8, .inr (1, [.ref a9, .ref a10, .int (nI od), .int (nI ok)])), (a9, .inl (cI, 20, .inl os)), (a10, .inl (cL, 20, .inr (.inl on)))]) (va_runV (As := [.int (nI 2)]) (rest := []) ⟨hx, hb, hml, hown, hts⟩ (kF_kindWithSigns l D Z cI cL (n := n) (f := f) (kd := kd) (k := k) (fs := fs) (fn := fn) (wn := wn) (wf := wf) (od := od) (ok := ok) (os := os) (on := on) (cf := cf) (by omega) (by omega) (by omega) (by omega) (by omega) (by omega) (sg := 2) (by omega) H.size) (cwV 1 hts (fd_gV tb_85 tb_86 tb_2 tb_13 tb_87) rfl rfl rfl nhF_kindWithSigns ⟨(Nat.le_of_ble_eq_true rfl), (Nat.le_of_ble_eq_true rfl)⟩) (fd_PreV hE hK hEV hA hP hD hS [0, 1, 2, 3, 4, 5, 6, 7, 8, 9, 10] rfl (by decide) (ci := 2) (q0 := 0) rfl rfl) rfl rfl hl.1 rfl (lv_room (Nat.le_of_ble_eq_true rfl)) ndF_hearKind_11 ⟨(Nat.le_of_ble_eq_true rfl), (Nat.le_of_ble_eq_true rfl)⟩) hP hD hS hA [0, 1, 2, 3, 4, 5, 6, 7, 8, 9, 10] [] rfl rfl (by decide) (by decide) [0, 1, 2, 3, 4, 5, 6, 7, 8, 9, 10] rfl (by decide) (fun H locs hP hD hS => ?_)
  refine lv_if_ne (tgt := 19) hx hb ndF_hearKind_14 (by decide) (fun _ => ?_) (fun c_14 => absurd c_14 (fun h9 => absurd ((nI_eq (a := (fd_kn f n 2)) (b := 0) (by omega) (by omega)).mp h9) (by omega)))
  refine lv_iinc (v := 2) (lv' := [(1, .int 2), (0, .ref a0)]) hx hb ndF_hearKind_19 hl (k := 0) rfl (by decide) (by decide) rfl (fun ls hl => ?_)
  refine lv_goto (tgt := 2) hx hb ndF_hearKind_22 (by decide) ?_
  refine lv_iload_n hx hb ndF_hearKind_2 rfl (lv_at hl 0 rfl) ?_
  refine lv_iconst (v := 3) hx hb ndF_hearKind_3 (by decide) ?_
  refine lv_icmp_ge (tgt := 25) hx hb ndF_hearKind_4 (by decide) (fun c_4 => absurd c_4 (by decide)) (fun _ => ?_)
  refine lv_aload_n hx hb ndF_hearKind_7 rfl (lv_at hl 1 rfl) ?_
  refine lv_iload_n hx hb ndF_hearKind_8 rfl (lv_at hl 0 rfl) ?_
  refine lv_iconst (v := 1) hx hb ndF_hearKind_9 (by decide) ?_
  refine lv_iadd hx hb ndF_hearKind_10 ?_
  refine fd_asi (y := nI 3) (by decide) ?_
  refine fd_go_i (wr := []) (w2 := [(a0, .inr (2, [.ref a1, .ref a3, .ref a6, .ref a8, .int cf])), (a1, .inr (0, [.ref a2, .int (nI n)])), (a2, .inl (cI, 400, .inl f)), (a3, .inr (1, [.ref a4, .ref a5, .int (nI kd), .int (nI k)])), (a4, .inl (cI, 20, .inl fs)), (a5, .inl (cL, 20, .inr (.inl fn))), (a6, .inr (0, [.ref a7, .int (nI wn)])), (a7, .inl (cI, 123, .inl wf)), (a8, .inr (1, [.ref a9, .ref a10, .int (nI od), .int (nI ok)])), (a9, .inl (cI, 20, .inl os)), (a10, .inl (cL, 20, .inr (.inl on)))]) (va_runV (As := [.int (nI 3)]) (rest := []) ⟨hx, hb, hml, hown, hts⟩ (kF_kindWithSigns l D Z cI cL (n := n) (f := f) (kd := kd) (k := k) (fs := fs) (fn := fn) (wn := wn) (wf := wf) (od := od) (ok := ok) (os := os) (on := on) (cf := cf) (by omega) (by omega) (by omega) (by omega) (by omega) (by omega) (sg := 3) (by omega) H.size) (cwV 1 hts (fd_gV tb_85 tb_86 tb_2 tb_13 tb_87) rfl rfl rfl nhF_kindWithSigns ⟨(Nat.le_of_ble_eq_true rfl), (Nat.le_of_ble_eq_true rfl)⟩) (fd_PreV hE hK hEV hA hP hD hS [0, 1, 2, 3, 4, 5, 6, 7, 8, 9, 10] rfl (by decide) (ci := 2) (q0 := 0) rfl rfl) rfl rfl hl.1 rfl (lv_room (Nat.le_of_ble_eq_true rfl)) ndF_hearKind_11 ⟨(Nat.le_of_ble_eq_true rfl), (Nat.le_of_ble_eq_true rfl)⟩) hP hD hS hA [0, 1, 2, 3, 4, 5, 6, 7, 8, 9, 10] [] rfl rfl (by decide) (by decide) [0, 1, 2, 3, 4, 5, 6, 7, 8, 9, 10] rfl (by decide) (fun H locs hP hD hS => ?_)
  refine lv_if_ne (tgt := 19) hx hb ndF_hearKind_14 (by decide) (fun _ => ?_) (fun c_14 => absurd c_14 (fun h9 => absurd ((nI_eq (a := (fd_kn f n 3)) (b := 0) (by omega) (by omega)).mp h9) (by omega)))
  refine lv_iinc (v := 3) (lv' := [(1, .int 3), (0, .ref a0)]) hx hb ndF_hearKind_19 hl (k := 0) rfl (by decide) (by decide) rfl (fun ls hl => ?_)
  refine lv_goto (tgt := 2) hx hb ndF_hearKind_22 (by decide) ?_
  refine lv_iload_n hx hb ndF_hearKind_2 rfl (lv_at hl 0 rfl) ?_
  refine lv_iconst (v := 3) hx hb ndF_hearKind_3 (by decide) ?_
  refine lv_icmp_ge (tgt := 25) hx hb ndF_hearKind_4 (by decide) (fun _ => ?_) (fun c_4 => absurd (by decide) c_4)
  refine lv_aload_n hx hb ndF_hearKind_25 rfl (lv_at hl 1 rfl) ?_
  refine va_get (D := D) (ci := 2) (v := .ref a3) (C := nR_F) (T := nT_F) (N := 5) hx hb hts in_F hown hK hP 0 rfl rfl 1 (by decide) (hts _ tb_54) (fun _ h9 => h9) rfl ndF_hearKind_26 ?_
  refine lv_aload_n hx hb ndF_hearKind_29 rfl (lv_at hl 1 rfl) ?_
  refine lv_iconst (v := 3) hx hb ndF_hearKind_30 (by decide) ?_
  refine fd_go_i (wr := []) (w2 := [(a0, .inr (2, [.ref a1, .ref a3, .ref a6, .ref a8, .int cf])), (a1, .inr (0, [.ref a2, .int (nI n)])), (a2, .inl (cI, 400, .inl f)), (a3, .inr (1, [.ref a4, .ref a5, .int (nI kd), .int (nI k)])), (a4, .inl (cI, 20, .inl fs)), (a5, .inl (cL, 20, .inr (.inl fn))), (a6, .inr (0, [.ref a7, .int (nI wn)])), (a7, .inl (cI, 123, .inl wf)), (a8, .inr (1, [.ref a9, .ref a10, .int (nI od), .int (nI ok)])), (a9, .inl (cI, 20, .inl os)), (a10, .inl (cL, 20, .inr (.inl on)))]) (va_runV (As := [.int 3]) (rest := [.ref a3]) ⟨hx, hb, hml, hown, hts⟩ (kF_kindWithSigns l D Z cI cL (n := n) (f := f) (kd := kd) (k := k) (fs := fs) (fn := fn) (wn := wn) (wf := wf) (od := od) (ok := ok) (os := os) (on := on) (cf := cf) (by omega) (by omega) (by omega) (by omega) (by omega) (by omega) (sg := 3) (by omega) H.size) (cwV 1 hts (fd_gV tb_85 tb_86 tb_2 tb_13 tb_87) rfl rfl rfl nhF_kindWithSigns ⟨(Nat.le_of_ble_eq_true rfl), (Nat.le_of_ble_eq_true rfl)⟩) (fd_PreV hE hK hEV hA hP hD hS [0, 1, 2, 3, 4, 5, 6, 7, 8, 9, 10] rfl (by decide) (ci := 2) (q0 := 0) rfl rfl) rfl rfl hl.1 rfl (lv_room (Nat.le_of_ble_eq_true rfl)) ndF_hearKind_31 ⟨(Nat.le_of_ble_eq_true rfl), (Nat.le_of_ble_eq_true rfl)⟩) hP hD hS hA [0, 1, 2, 3, 4, 5, 6, 7, 8, 9, 10] [] rfl rfl (by decide) (by decide) [0, 1, 2, 3, 4, 5, 6, 7, 8, 9, 10] rfl (by decide) (fun H locs hP hD hS => ?_)
  refine fd_go_v (wr := [(a0, .inr (2, [.ref a1, .ref a3, .ref a6, .ref a8, .int cf])), (a1, .inr (0, [.ref a2, .int (nI n)])), (a2, .inl (cI, 400, .inl f)), (a6, .inr (0, [.ref a7, .int (nI wn)])), (a7, .inl (cI, 123, .inl wf)), (a8, .inr (1, [.ref a9, .ref a10, .int (nI od), .int (nI ok)])), (a9, .inl (cI, 20, .inl os)), (a10, .inl (cL, 20, .inr (.inl on)))]) (w2 := [(a0, .inr (2, [.ref a1, .ref a3, .ref a6, .ref a8, .int cf])), (a1, .inr (0, [.ref a2, .int (nI n)])), (a2, .inl (cI, 400, .inl f)), (a3, .inr (1, [.ref a4, .ref a5, .int (nI ((fd_kn f n 3))), .int (nI 0)])), (a4, .inl (cI, 20, .inl fs)), (a5, .inl (cL, 20, .inr (.inl fn))), (a6, .inr (0, [.ref a7, .int (nI wn)])), (a7, .inl (cI, 123, .inl wf)), (a8, .inr (1, [.ref a9, .ref a10, .int (nI od), .int (nI ok)])), (a9, .inl (cI, 20, .inl os)), (a10, .inl (cL, 20, .inr (.inl on)))]) (va_runV (As := [.int (nI (fd_kn f n 3))]) (rest := []) ⟨hx, hb, hml, hown, hts⟩ (kM_start l D Z cI cL (kd := kd) (n := k) (fs := fs) (fn := fn) (k := (fd_kn f n 3)) H.size) (cwV 1 hts (fd_gV tb_125 tb_126 tb_127 tb_15 tb_128) rfl rfl rfl nhM_start ⟨(Nat.le_of_ble_eq_true rfl), (Nat.le_of_ble_eq_true rfl)⟩) (fd_PreV hE hK hEV hA hP hD hS [3, 4, 5] rfl (by decide) (ci := 1) (q0 := 3) rfl rfl) rfl rfl hl.1 rfl (lv_room (Nat.le_of_ble_eq_true rfl)) ndF_hearKind_34 ⟨(Nat.le_of_ble_eq_true rfl), (Nat.le_of_ble_eq_true rfl)⟩) hP hD hS hA [3, 4, 5] [0, 1, 2, 6, 7, 8, 9, 10] rfl rfl (by decide) (by decide) [0, 1, 2, 8, 9, 10, 3, 4, 5, 6, 7] rfl (by decide) (fun H locs hP hD hS => ?_)
  refine lv_iconst (v := (-1)) hx hb ndF_hearKind_37 (by decide) ?_
  exact fd_ret_i hx hb hr hlocks hS hP hD rfl (rfl) ndF_hearKind_38
set_option maxHeartbeats 4000000 in
set_option maxRecDepth 100000 in
theorem kF_hearField_ok (l : Launch) (D : va_G) (Z : Nat → Nat) (cI cL : ClassId) {a0 a1 a2 a3 a4 a5 a6 a7 a8 a9 a10 n kd k wn od ok : Nat} {f fs wf os : Nat → Int32} {fn on : Nat → Int64} {cf : Int32} (hn : n ≤ 400) (hkd : kd ≤ 15) (hk : k ≤ 20) (hwn : wn ≤ 123) (hod : od ≤ 15) (hok : ok ≤ 20) {p1 w : Nat} {x : Int64} (hp : p1 + w < 2 ^ 30) (hr9 : fd_hf (fd_due kd k fn) (fd_mz kd k fn) f n w p1 0 = (-1, x)) (hk2 : k < 20) : fd_Mi l D fd_cl (fd_ty cI cL) (fd_EV Z) nyF_hearField (.code nyF_hearField ncF_hearField 9 (some .int) :: fd_TB) nmF_hearField [.ref a0, .int (nI p1), .int (nI (p1 + w))] [(a0, .inr (2, [.ref a1, .ref a3, .ref a6, .ref a8, .int cf])), (a1, .inr (0, [.ref a2, .int (nI n)])), (a2, .inl (cI, 400, .inl f)), (a3, .inr (1, [.ref a4, .ref a5, .int (nI kd), .int (nI k)])), (a4, .inl (cI, 20, .inl fs)), (a5, .inl (cL, 20, .inr (.inl fn))), (a6, .inr (0, [.ref a7, .int (nI wn)])), (a7, .inl (cI, 123, .inl wf)), (a8, .inr (1, [.ref a9, .ref a10, .int (nI od), .int (nI ok)])), (a9, .inl (cI, 20, .inl os)), (a10, .inl (cL, 20, .inr (.inl on)))] [(a0, .inr (2, [.ref a1, .ref a3, .ref a6, .ref a8, .int cf])), (a1, .inr (0, [.ref a2, .int (nI n)])), (a2, .inl (cI, 400, .inl f)), (a3, .inr (1, [.ref a4, .ref a5, .int (nI kd), .int (nI (k + 1))])), (a4, .inl (cI, 20, .inl (upd fs k (fd_due kd k fn)))), (a5, .inl (cL, 20, .inr (.inl (vp_updL fn k x)))), (a6, .inr (0, [.ref a7, .int (nI wn)])), (a7, .inl (cI, 123, .inl wf)), (a8, .inr (1, [.ref a9, .ref a10, .int (nI od), .int (nI ok)])), (a9, .inl (cI, 20, .inl os)), (a10, .inl (cL, 20, .inr (.inl on)))] (-1) := by
  refine fd_open_i (cc := ncF_hearField) (maxL := 9) (ret := (some .int)) (by decide) rfl (Nat.le_of_ble_eq_true rfl) ?_
  intro p e s m below meth c A ls X hP hD hS hl
  obtain ⟨hx, hb, hr, hml, hown, hts0, hlocks, hK, hEV, hA⟩ := X
  have hts : ∀ w ∈ fd_TB, w.before _ s = true := fun w h => hts0 w (List.mem_cons_of_mem _ h)
  have hE := fd_EV_ok Z
  have hown : s.vm.findClass "FieldDesk" = some m.cls := hown
  have hl : lv_has ls 9 [(0, .ref a0), (1, .int (nI p1)), (2, .int (nI (p1 + w)))] := hl
  refine lv_aload_n hx hb ndF_hearField_0 rfl (lv_at hl 0 rfl) ?_
  refine va_get (D := D) (ci := 2) (v := .ref a3) (C := nR_F) (T := nT_F) (N := 5) hx hb hts in_F hown hK hP 0 rfl rfl 1 (by decide) (hts _ tb_54) (fun _ h9 => h9) rfl ndF_hearField_1 ?_
  refine fd_go_i (wr := [(a0, .inr (2, [.ref a1, .ref a3, .ref a6, .ref a8, .int cf])), (a1, .inr (0, [.ref a2, .int (nI n)])), (a2, .inl (cI, 400, .inl f)), (a6, .inr (0, [.ref a7, .int (nI wn)])), (a7, .inl (cI, 123, .inl wf)), (a8, .inr (1, [.ref a9, .ref a10, .int (nI od), .int (nI ok)])), (a9, .inl (cI, 20, .inl os)), (a10, .inl (cL, 20, .inr (.inl on)))]) (w2 := [(a0, .inr (2, [.ref a1, .ref a3, .ref a6, .ref a8, .int cf])), (a1, .inr (0, [.ref a2, .int (nI n)])), (a2, .inl (cI, 400, .inl f)), (a3, .inr (1, [.ref a4, .ref a5, .int (nI kd), .int (nI k)])), (a4, .inl (cI, 20, .inl fs)), (a5, .inl (cL, 20, .inr (.inl fn))), (a6, .inr (0, [.ref a7, .int (nI wn)])), (a7, .inl (cI, 123, .inl wf)), (a8, .inr (1, [.ref a9, .ref a10, .int (nI od), .int (nI ok)])), (a9, .inl (cI, 20, .inl os)), (a10, .inl (cL, 20, .inr (.inl on)))]) (va_runV (As := []) (rest := []) ⟨hx, hb, hml, hown, hts⟩ (kM_dueSort l D Z cI cL (kd := kd) (n := k) (fs := fs) (fn := fn) (by omega) (by omega) s.heap.size) (cwV 0 hts (fd_gV tb_129 tb_130 tb_131 tb_15 tb_132) rfl rfl rfl nhM_dueSort ⟨(Nat.le_of_ble_eq_true rfl), (Nat.le_of_ble_eq_true rfl)⟩) (fd_PreV hE hK hEV hA hP hD hS [3, 4, 5] rfl (by decide) (ci := 1) (q0 := 3) rfl rfl) rfl rfl hl.1 rfl (lv_room (Nat.le_of_ble_eq_true rfl)) ndF_hearField_4 ⟨(Nat.le_of_ble_eq_true rfl), (Nat.le_of_ble_eq_true rfl)⟩) hP hD hS hA [3, 4, 5] [0, 1, 2, 6, 7, 8, 9, 10] rfl rfl (by decide) (by decide) [0, 1, 2, 8, 9, 10, 3, 4, 5, 6, 7] rfl (by decide) (fun H locs hP hD hS => ?_)
  refine lv_istore_n (lv' := [(3, .int (fd_due kd k fn)), (0, .ref a0), (1, .int (nI p1)), (2, .int (nI (p1 + w)))]) hx hb ndF_hearField_7 rfl hl (by decide) rfl (fun ls hl => ?_)
  refine lv_iload_n hx hb ndF_hearField_8 rfl (lv_at hl 0 rfl) ?_
  refine fd_go_i (wr := [(a0, .inr (2, [.ref a1, .ref a3, .ref a6, .ref a8, .int cf])), (a1, .inr (0, [.ref a2, .int (nI n)])), (a2, .inl (cI, 400, .inl f)), (a3, .inr (1, [.ref a4, .ref a5, .int (nI kd), .int (nI k)])), (a4, .inl (cI, 20, .inl fs)), (a5, .inl (cL, 20, .inr (.inl fn))), (a6, .inr (0, [.ref a7, .int (nI wn)])), (a7, .inl (cI, 123, .inl wf)), (a8, .inr (1, [.ref a9, .ref a10, .int (nI od), .int (nI ok)])), (a9, .inl (cI, 20, .inl os)), (a10, .inl (cL, 20, .inr (.inl on)))]) (w2 := [(a0, .inr (2, [.ref a1, .ref a3, .ref a6, .ref a8, .int cf])), (a1, .inr (0, [.ref a2, .int (nI n)])), (a2, .inl (cI, 400, .inl f)), (a3, .inr (1, [.ref a4, .ref a5, .int (nI kd), .int (nI k)])), (a4, .inl (cI, 20, .inl fs)), (a5, .inl (cL, 20, .inr (.inl fn))), (a6, .inr (0, [.ref a7, .int (nI wn)])), (a7, .inl (cI, 123, .inl wf)), (a8, .inr (1, [.ref a9, .ref a10, .int (nI od), .int (nI ok)])), (a9, .inl (cI, 20, .inl os)), (a10, .inl (cL, 20, .inr (.inl on)))]) (va_runS (As := [.int (fd_due kd k fn)]) (rest := []) ⟨hx, hb, hml, hown, hts⟩ (kF_isToBase36 l D Z cI cL (fd_due kd k fn) H.size) (va_cwS 1 hts (fd_gS tb_149 tb_150 tb_13 tb_151) rfl rfl rfl nhF_isToBase36.2 ⟨(Nat.le_of_ble_eq_true rfl), (Nat.le_of_ble_eq_true rfl)⟩) (fd_PreS hE hK hEV hA hP hD hS [] rfl (by decide)) rfl rfl hl.1 rfl (lv_room (Nat.le_of_ble_eq_true rfl)) ndF_hearField_9 ⟨(Nat.le_of_ble_eq_true rfl), (Nat.le_of_ble_eq_true rfl)⟩) hP hD hS hA [] [0, 1, 2, 3, 4, 5, 6, 7, 8, 9, 10] rfl rfl (by decide) (by decide) [0, 1, 2, 3, 4, 5, 6, 7, 8, 9, 10] rfl (by decide) (fun H locs hP hD hS => ?_)
  refine lv_if_eq (tgt := 20) hx hb ndF_hearField_12 (by decide) (fun c_12 => ?_) (fun c_12 => ?_)
  · refine lv_bipush (v := 10) hx hb ndF_hearField_20 (by decide) ?_
    refine fd_asi (y := fd_bI (fd_due kd k fn)) (by rw [fd_bI, if_pos c_12]) ?_
    refine lv_istore (lv' := [(4, .int (fd_bI (fd_due kd k fn))), (3, .int (fd_due kd k fn)), (0, .ref a0), (1, .int (nI p1)), (2, .int (nI (p1 + w)))]) hx hb ndF_hearField_22 hl (by decide) rfl (fun ls hl => ?_)
    refine lv_lconst (v := 0) hx hb ndF_hearField_24 (by decide) ?_
    refine lv_lstore (lv' := [(5, .long 0), (4, .int (fd_bI (fd_due kd k fn))), (3, .int (fd_due kd k fn)), (0, .ref a0), (1, .int (nI p1)), (2, .int (nI (p1 + w)))]) hx hb ndF_hearField_25 hl (by decide) rfl (fun ls hl => ?_)
    refine lv_iload_n hx hb ndF_hearField_27 rfl (lv_at hl 4 rfl) ?_
    refine lv_istore (lv' := [(7, .int (nI p1)), (5, .long 0), (4, .int (fd_bI (fd_due kd k fn))), (3, .int (fd_due kd k fn)), (0, .ref a0), (1, .int (nI p1)), (2, .int (nI (p1 + w)))]) hx hb ndF_hearField_28 hl (by decide) rfl (fun ls hl => ?_)
    have loop : ∀ (z : Nat) (q1 : Nat) (acc : Int64) (hq : q1 + z = p1 + w) (hh : fd_hf (fd_due kd k fn) (fd_mz kd k fn) f n z q1 acc = (-1, x)) (H : Heap) (locs : List Loc) (ls : Array Slot), va_P D fd_cl [(a0, .inr (2, [.ref a1, .ref a3, .ref a6, .ref a8, .int cf])), (a1, .inr (0, [.ref a2, .int (nI n)])), (a2, .inl (cI, 400, .inl f)), (a3, .inr (1, [.ref a4, .ref a5, .int (nI kd), .int (nI k)])), (a4, .inl (cI, 20, .inl fs)), (a5, .inl (cL, 20, .inr (.inl fn))), (a6, .inr (0, [.ref a7, .int (nI wn)])), (a7, .inl (cI, 123, .inl wf)), (a8, .inr (1, [.ref a9, .ref a10, .int (nI od), .int (nI ok)])), (a9, .inl (cI, 20, .inl os)), (a10, .inl (cL, 20, .inr (.inl on)))] H → va_D A [(a0, .inr (2, [.ref a1, .ref a3, .ref a6, .ref a8, .int cf])), (a1, .inr (0, [.ref a2, .int (nI n)])), (a2, .inl (cI, 400, .inl f)), (a3, .inr (1, [.ref a4, .ref a5, .int (nI kd), .int (nI k)])), (a4, .inl (cI, 20, .inl fs)), (a5, .inl (cL, 20, .inr (.inl fn))), (a6, .inr (0, [.ref a7, .int (nI wn)])), (a7, .inl (cI, 123, .inl wf)), (a8, .inr (1, [.ref a9, .ref a10, .int (nI od), .int (nI ok)])), (a9, .inl (cI, 20, .inl os)), (a10, .inl (cL, 20, .inr (.inl on)))] → va_S A s.heap H locs → lv_has ls 9 [(0, .ref a0), (2, .int (nI (p1 + w))), (3, .int (fd_due kd k fn)), (4, .int (fd_bI (fd_due kd k fn))), (5, .long acc), (7, .int (nI q1))] → W p l e nmF_hearField s m ([.ref a0, .int (nI p1), .int (nI (p1 + w))].toArray) below meth c H locs 0 0 (MQ below (va_Qi (fun r' (_ : Unit) => r' = (-1)) (fd_B D fd_cl A [(a0, .inr (2, [.ref a1, .ref a3, .ref a6, .ref a8, .int cf])), (a1, .inr (0, [.ref a2, .int (nI n)])), (a2, .inl (cI, 400, .inl f)), (a3, .inr (1, [.ref a4, .ref a5, .int (nI kd), .int (nI (k + 1))])), (a4, .inl (cI, 20, .inl (upd fs k (fd_due kd k fn)))), (a5, .inl (cL, 20, .inr (.inl (vp_updL fn k x)))), (a6, .inr (0, [.ref a7, .int (nI wn)])), (a7, .inl (cI, 123, .inl wf)), (a8, .inr (1, [.ref a9, .ref a10, .int (nI od), .int (nI ok)])), (a9, .inl (cI, 20, .inl os)), (a10, .inl (cL, 20, .inr (.inl on)))]) A) [.ref a0, .int (nI p1), .int (nI (p1 + w))].toArray s 0 0 A) (F0 m 30 ls []) := by
      intro z
      induction z with
      | zero =>
        intro q1 acc hq hh H locs ls hP hD hS hl
        have e9 : x = acc := (Prod.mk.inj hh).2.symm
        subst e9
        refine lv_iload hx hb ndF_hearField_30 (lv_at hl 5 rfl) ?_
        refine lv_iload_n hx hb ndF_hearField_32 rfl (lv_at hl 1 rfl) ?_
        refine lv_icmp_ge (tgt := 92) hx hb ndF_hearField_33 (by decide) (fun _ => ?_) (fun c_33 => absurd ((nI_leI (a := (p1 + w)) (b := q1) (by omega) (by omega)).mpr (by omega)) c_33)
        refine lv_aload_n hx hb ndF_hearField_92 rfl (lv_at hl 0 rfl) ?_
        refine va_get (D := D) (ci := 2) (v := .ref a3) (C := nR_F) (T := nT_F) (N := 5) hx hb hts in_F hown hK hP 0 rfl rfl 1 (by decide) (hts _ tb_54) (fun _ h9 => h9) rfl ndF_hearField_93 ?_
        refine lv_lload hx hb ndF_hearField_96 (lv_at hl 4 rfl) ?_
        refine fd_go_v (wr := [(a0, .inr (2, [.ref a1, .ref a3, .ref a6, .ref a8, .int cf])), (a1, .inr (0, [.ref a2, .int (nI n)])), (a2, .inl (cI, 400, .inl f)), (a6, .inr (0, [.ref a7, .int (nI wn)])), (a7, .inl (cI, 123, .inl wf)), (a8, .inr (1, [.ref a9, .ref a10, .int (nI od), .int (nI ok)])), (a9, .inl (cI, 20, .inl os)), (a10, .inl (cL, 20, .inr (.inl on)))]) (w2 := [(a0, .inr (2, [.ref a1, .ref a3, .ref a6, .ref a8, .int cf])), (a1, .inr (0, [.ref a2, .int (nI n)])), (a2, .inl (cI, 400, .inl f)), (a3, .inr (1, [.ref a4, .ref a5, .int (nI kd), .int (nI (k + 1))])), (a4, .inl (cI, 20, .inl (upd fs k (fd_due kd k fn)))), (a5, .inl (cL, 20, .inr (.inl (vp_updL fn k x)))), (a6, .inr (0, [.ref a7, .int (nI wn)])), (a7, .inl (cI, 123, .inl wf)), (a8, .inr (1, [.ref a9, .ref a10, .int (nI od), .int (nI ok)])), (a9, .inl (cI, 20, .inl os)), (a10, .inl (cL, 20, .inr (.inl on)))]) (va_runV (As := [.long x]) (rest := []) ⟨hx, hb, hml, hown, hts⟩ (kM_take l D Z cI cL (kd := kd) (n := k) (fs := fs) (fn := fn) (by omega) (by omega) x H.size) (cwV 1 hts (fd_gV tb_170 tb_171 tb_172 tb_15 tb_173) rfl rfl rfl nhM_take ⟨(Nat.le_of_ble_eq_true rfl), (Nat.le_of_ble_eq_true rfl)⟩) (fd_PreV hE hK hEV hA hP hD hS [3, 4, 5] rfl (by decide) (ci := 1) (q0 := 3) rfl rfl) rfl rfl hl.1 rfl (lv_room (Nat.le_of_ble_eq_true rfl)) ndF_hearField_98 ⟨(Nat.le_of_ble_eq_true rfl), (Nat.le_of_ble_eq_true rfl)⟩) hP hD hS hA [3, 4, 5] [0, 1, 2, 6, 7, 8, 9, 10] rfl rfl (by decide) (by decide) [0, 1, 2, 8, 9, 10, 3, 4, 5, 6, 7] rfl (by decide) (fun H locs hP hD hS => ?_)
        refine lv_iconst (v := (-1)) hx hb ndF_hearField_101 (by decide) ?_
        exact fd_ret_i hx hb hr hlocks hS hP hD rfl (rfl) ndF_hearField_102
      | succ z ih =>
        intro q1 acc hq hh H locs ls hP hD hS hl
        refine lv_iload hx hb ndF_hearField_30 (lv_at hl 5 rfl) ?_
        refine lv_iload_n hx hb ndF_hearField_32 rfl (lv_at hl 1 rfl) ?_
        refine lv_icmp_ge (tgt := 92) hx hb ndF_hearField_33 (by decide) (fun c_33 => absurd c_33 (fun h9 => absurd ((nI_leI (a := (p1 + w)) (b := q1) (by omega) (by omega)).mp h9) (by omega))) (fun _ => ?_)
        refine lv_iload_n hx hb ndF_hearField_36 rfl (lv_at hl 2 rfl) ?_
        refine lv_aload_n hx hb ndF_hearField_37 rfl (lv_at hl 0 rfl) ?_
        refine va_get (D := D) (ci := 2) (v := .ref a1) (C := nR_F) (T := nT_F) (N := 5) hx hb hts in_F hown hK hP 0 rfl rfl 0 (by decide) (hts _ tb_53) (fun _ h9 => h9) rfl ndF_hearField_38 ?_
        refine lv_iload hx hb ndF_hearField_41 (lv_at hl 5 rfl) ?_
        refine fd_go_i (wr := [(a0, .inr (2, [.ref a1, .ref a3, .ref a6, .ref a8, .int cf])), (a3, .inr (1, [.ref a4, .ref a5, .int (nI kd), .int (nI k)])), (a4, .inl (cI, 20, .inl fs)), (a5, .inl (cL, 20, .inr (.inl fn))), (a6, .inr (0, [.ref a7, .int (nI wn)])), (a7, .inl (cI, 123, .inl wf)), (a8, .inr (1, [.ref a9, .ref a10, .int (nI od), .int (nI ok)])), (a9, .inl (cI, 20, .inl os)), (a10, .inl (cL, 20, .inr (.inl on)))]) (w2 := [(a0, .inr (2, [.ref a1, .ref a3, .ref a6, .ref a8, .int cf])), (a1, .inr (0, [.ref a2, .int (nI n)])), (a2, .inl (cI, 400, .inl f)), (a3, .inr (1, [.ref a4, .ref a5, .int (nI kd), .int (nI k)])), (a4, .inl (cI, 20, .inl fs)), (a5, .inl (cL, 20, .inr (.inl fn))), (a6, .inr (0, [.ref a7, .int (nI wn)])), (a7, .inl (cI, 123, .inl wf)), (a8, .inr (1, [.ref a9, .ref a10, .int (nI od), .int (nI ok)])), (a9, .inl (cI, 20, .inl os)), (a10, .inl (cL, 20, .inr (.inl on)))]) (va_runV (As := [.int (nI q1)]) (rest := [.int (fd_due kd k fn)]) ⟨hx, hb, hml, hown, hts⟩ (kR_at l D Z cI cL (n := n) (f := f) (by omega) (by omega) (nI q1) H.size) (cwV 1 hts (fd_gV tb_91 tb_92 tb_93 tb_14 tb_94) rfl rfl rfl nhR_at ⟨(Nat.le_of_ble_eq_true rfl), (Nat.le_of_ble_eq_true rfl)⟩) (fd_PreV hE hK hEV hA hP hD hS [1, 2] rfl (by decide) (ci := 0) (q0 := 1) rfl rfl) rfl rfl hl.1 rfl (lv_room (Nat.le_of_ble_eq_true rfl)) ndF_hearField_43 ⟨(Nat.le_of_ble_eq_true rfl), (Nat.le_of_ble_eq_true rfl)⟩) hP hD hS hA [1, 2] [0, 3, 4, 5, 6, 7, 8, 9, 10] rfl rfl (by decide) (by decide) [0, 9, 10, 1, 2, 3, 4, 5, 6, 7, 8] rfl (by decide) (fun H locs hP hD hS => ?_)
        refine fd_go_i (wr := [(a0, .inr (2, [.ref a1, .ref a3, .ref a6, .ref a8, .int cf])), (a1, .inr (0, [.ref a2, .int (nI n)])), (a2, .inl (cI, 400, .inl f)), (a3, .inr (1, [.ref a4, .ref a5, .int (nI kd), .int (nI k)])), (a4, .inl (cI, 20, .inl fs)), (a5, .inl (cL, 20, .inr (.inl fn))), (a6, .inr (0, [.ref a7, .int (nI wn)])), (a7, .inl (cI, 123, .inl wf)), (a8, .inr (1, [.ref a9, .ref a10, .int (nI od), .int (nI ok)])), (a9, .inl (cI, 20, .inl os)), (a10, .inl (cL, 20, .inr (.inl on)))]) (w2 := [(a0, .inr (2, [.ref a1, .ref a3, .ref a6, .ref a8, .int cf])), (a1, .inr (0, [.ref a2, .int (nI n)])), (a2, .inl (cI, 400, .inl f)), (a3, .inr (1, [.ref a4, .ref a5, .int (nI kd), .int (nI k)])), (a4, .inl (cI, 20, .inl fs)), (a5, .inl (cL, 20, .inr (.inl fn))), (a6, .inr (0, [.ref a7, .int (nI wn)])), (a7, .inl (cI, 123, .inl wf)), (a8, .inr (1, [.ref a9, .ref a10, .int (nI od), .int (nI ok)])), (a9, .inl (cI, 20, .inl os)), (a10, .inl (cL, 20, .inr (.inl on)))]) (va_runS (As := [.int (fd_due kd k fn), .int (fd_at n f (nI q1))]) (rest := []) ⟨hx, hb, hml, hown, hts⟩ (kF_valueInSort l D Z cI cL (fd_due kd k fn) (fd_at n f (nI q1)) H.size) (va_cwS 2 hts (fd_gS tb_152 tb_153 tb_13 tb_154) rfl rfl rfl nhF_valueInSort.2 ⟨(Nat.le_of_ble_eq_true rfl), (Nat.le_of_ble_eq_true rfl)⟩) (fd_PreS hE hK hEV hA hP hD hS [] rfl (by decide)) rfl rfl hl.1 rfl (lv_room (Nat.le_of_ble_eq_true rfl)) ndF_hearField_46 ⟨(Nat.le_of_ble_eq_true rfl), (Nat.le_of_ble_eq_true rfl)⟩) hP hD hS hA [] [0, 1, 2, 3, 4, 5, 6, 7, 8, 9, 10] rfl rfl (by decide) (by decide) [0, 1, 2, 3, 4, 5, 6, 7, 8, 9, 10] rfl (by decide) (fun H locs hP hD hS => ?_)
        refine lv_istore (lv' := [(8, .int (fd_vis (fd_due kd k fn) (fd_at n f (nI q1)))), (0, .ref a0), (2, .int (nI (p1 + w))), (3, .int (fd_due kd k fn)), (4, .int (fd_bI (fd_due kd k fn))), (5, .long acc), (7, .int (nI q1))]) hx hb ndF_hearField_49 hl (by decide) rfl (fun ls hl => ?_)
        refine lv_iload hx hb ndF_hearField_51 (lv_at hl 0 rfl) ?_
        refine lv_if_lt (tgt := 71) hx hb ndF_hearField_53 (by decide) (fun c_53 => ?_) (fun c_53 => ?_)
        · exact absurd hh (by rw [fd_hf, if_pos c_53]; exact fd_ne1 (by omega))
        · refine lv_iload hx hb ndF_hearField_56 (lv_at hl 0 rfl) ?_
          refine lv_if_le (tgt := 74) hx hb ndF_hearField_58 (by decide) (fun c_58 => ?_) (fun c_58 => ?_)
          · refine lv_lload hx hb ndF_hearField_74 (lv_at hl 5 rfl) ?_
            refine lv_iload hx hb ndF_hearField_76 (lv_at hl 4 rfl) ?_
            refine lv_i2l hx hb ndF_hearField_78 rfl ?_
            refine lv_lmul hx hb ndF_hearField_79 ?_
            refine lv_iload hx hb ndF_hearField_80 (lv_at hl 0 rfl) ?_
            refine lv_i2l hx hb ndF_hearField_82 rfl ?_
            refine lv_ladd hx hb ndF_hearField_83 ?_
            refine lv_lstore (lv' := [(5, .long ((acc * ((fd_bI (fd_due kd k fn)).toInt64)) + ((fd_vis (fd_due kd k fn) (fd_at n f (nI q1))).toInt64))), (8, .int (fd_vis (fd_due kd k fn) (fd_at n f (nI q1)))), (0, .ref a0), (2, .int (nI (p1 + w))), (3, .int (fd_due kd k fn)), (4, .int (fd_bI (fd_due kd k fn))), (7, .int (nI q1))]) hx hb ndF_hearField_84 hl (by decide) rfl (fun ls hl => ?_)
            refine lv_iinc (v := nI (q1 + 1)) (lv' := [(7, .int (nI (q1 + 1))), (5, .long ((acc * ((fd_bI (fd_due kd k fn)).toInt64)) + ((fd_vis (fd_due kd k fn) (fd_at n f (nI q1))).toInt64))), (8, .int (fd_vis (fd_due kd k fn) (fd_at n f (nI q1)))), (0, .ref a0), (2, .int (nI (p1 + w))), (3, .int (fd_due kd k fn)), (4, .int (fd_bI (fd_due kd k fn)))]) hx hb ndF_hearField_86 hl (k := 6) rfl (nI_1 q1) (by decide) rfl (fun ls hl => ?_)
            refine lv_goto (tgt := 30) hx hb ndF_hearField_89 (by decide) ?_
            exact ih (q1 + 1) _ (by omega) (by rw [fd_hf, if_neg c_53, if_pos c_58] at hh; exact hh) _ _ _ hP hD hS (lv_sub hl [3, 4, 5, 6, 1, 0] rfl)
          · refine lv_aload_n hx hb ndF_hearField_61 rfl (lv_at hl 1 rfl) ?_
            refine va_get (D := D) (ci := 2) (v := .ref a3) (C := nR_F) (T := nT_F) (N := 5) hx hb hts in_F hown hK hP 0 rfl rfl 1 (by decide) (hts _ tb_54) (fun _ h9 => h9) rfl ndF_hearField_62 ?_
            refine fd_go_i (wr := [(a0, .inr (2, [.ref a1, .ref a3, .ref a6, .ref a8, .int cf])), (a1, .inr (0, [.ref a2, .int (nI n)])), (a2, .inl (cI, 400, .inl f)), (a6, .inr (0, [.ref a7, .int (nI wn)])), (a7, .inl (cI, 123, .inl wf)), (a8, .inr (1, [.ref a9, .ref a10, .int (nI od), .int (nI ok)])), (a9, .inl (cI, 20, .inl os)), (a10, .inl (cL, 20, .inr (.inl on)))]) (w2 := [(a0, .inr (2, [.ref a1, .ref a3, .ref a6, .ref a8, .int cf])), (a1, .inr (0, [.ref a2, .int (nI n)])), (a2, .inl (cI, 400, .inl f)), (a3, .inr (1, [.ref a4, .ref a5, .int (nI kd), .int (nI k)])), (a4, .inl (cI, 20, .inl fs)), (a5, .inl (cL, 20, .inr (.inl fn))), (a6, .inr (0, [.ref a7, .int (nI wn)])), (a7, .inl (cI, 123, .inl wf)), (a8, .inr (1, [.ref a9, .ref a10, .int (nI od), .int (nI ok)])), (a9, .inl (cI, 20, .inl os)), (a10, .inl (cL, 20, .inr (.inl on)))]) (va_runV (As := []) (rest := []) ⟨hx, hb, hml, hown, hts⟩ (kM_mustBeZero l D Z cI cL (kd := kd) (n := k) (fs := fs) (fn := fn) (by omega) (by omega) H.size) (cwV 0 hts (fd_gV tb_166 tb_167 tb_168 tb_15 tb_169) rfl rfl rfl nhM_mustBeZero ⟨(Nat.le_of_ble_eq_true rfl), (Nat.le_of_ble_eq_true rfl)⟩) (fd_PreV hE hK hEV hA hP hD hS [3, 4, 5] rfl (by decide) (ci := 1) (q0 := 3) rfl rfl) rfl rfl hl.1 rfl (lv_room (Nat.le_of_ble_eq_true rfl)) ndF_hearField_65 ⟨(Nat.le_of_ble_eq_true rfl), (Nat.le_of_ble_eq_true rfl)⟩) hP hD hS hA [3, 4, 5] [0, 1, 2, 6, 7, 8, 9, 10] rfl rfl (by decide) (by decide) [0, 1, 2, 8, 9, 10, 3, 4, 5, 6, 7] rfl (by decide) (fun H locs hP hD hS => ?_)
            refine lv_if_eq (tgt := 74) hx hb ndF_hearField_68 (by decide) (fun c_68 => ?_) (fun c_68 => ?_)
            · refine lv_lload hx hb ndF_hearField_74 (lv_at hl 5 rfl) ?_
              refine lv_iload hx hb ndF_hearField_76 (lv_at hl 4 rfl) ?_
              refine lv_i2l hx hb ndF_hearField_78 rfl ?_
              refine lv_lmul hx hb ndF_hearField_79 ?_
              refine lv_iload hx hb ndF_hearField_80 (lv_at hl 0 rfl) ?_
              refine lv_i2l hx hb ndF_hearField_82 rfl ?_
              refine lv_ladd hx hb ndF_hearField_83 ?_
              refine lv_lstore (lv' := [(5, .long ((acc * ((fd_bI (fd_due kd k fn)).toInt64)) + ((fd_vis (fd_due kd k fn) (fd_at n f (nI q1))).toInt64))), (8, .int (fd_vis (fd_due kd k fn) (fd_at n f (nI q1)))), (0, .ref a0), (2, .int (nI (p1 + w))), (3, .int (fd_due kd k fn)), (4, .int (fd_bI (fd_due kd k fn))), (7, .int (nI q1))]) hx hb ndF_hearField_84 hl (by decide) rfl (fun ls hl => ?_)
              refine lv_iinc (v := nI (q1 + 1)) (lv' := [(7, .int (nI (q1 + 1))), (5, .long ((acc * ((fd_bI (fd_due kd k fn)).toInt64)) + ((fd_vis (fd_due kd k fn) (fd_at n f (nI q1))).toInt64))), (8, .int (fd_vis (fd_due kd k fn) (fd_at n f (nI q1)))), (0, .ref a0), (2, .int (nI (p1 + w))), (3, .int (fd_due kd k fn)), (4, .int (fd_bI (fd_due kd k fn)))]) hx hb ndF_hearField_86 hl (k := 6) rfl (nI_1 q1) (by decide) rfl (fun ls hl => ?_)
              refine lv_goto (tgt := 30) hx hb ndF_hearField_89 (by decide) ?_
              exact ih (q1 + 1) _ (by omega) (by rw [fd_hf, if_neg c_53, if_neg c_58, if_pos c_68] at hh; exact hh) _ _ _ hP hD hS (lv_sub hl [3, 4, 5, 6, 1, 0] rfl)
            · exact absurd hh (by rw [fd_hf, if_neg c_53, if_neg c_58, if_neg c_68]; exact fd_ne1 (by omega))
    exact loop w p1 0 rfl hr9 _ _ _ hP hD hS (lv_sub hl [4, 6, 3, 2, 1, 0] rfl)
  · refine lv_bipush (v := 36) hx hb ndF_hearField_15 (by decide) ?_
    refine fd_asi (y := fd_bI (fd_due kd k fn)) (by rw [fd_bI, if_neg c_12]) ?_
    refine lv_goto (tgt := 22) hx hb ndF_hearField_17 (by decide) ?_
    refine lv_istore (lv' := [(4, .int (fd_bI (fd_due kd k fn))), (3, .int (fd_due kd k fn)), (0, .ref a0), (1, .int (nI p1)), (2, .int (nI (p1 + w)))]) hx hb ndF_hearField_22 hl (by decide) rfl (fun ls hl => ?_)
    refine lv_lconst (v := 0) hx hb ndF_hearField_24 (by decide) ?_
    refine lv_lstore (lv' := [(5, .long 0), (4, .int (fd_bI (fd_due kd k fn))), (3, .int (fd_due kd k fn)), (0, .ref a0), (1, .int (nI p1)), (2, .int (nI (p1 + w)))]) hx hb ndF_hearField_25 hl (by decide) rfl (fun ls hl => ?_)
    refine lv_iload_n hx hb ndF_hearField_27 rfl (lv_at hl 4 rfl) ?_
    refine lv_istore (lv' := [(7, .int (nI p1)), (5, .long 0), (4, .int (fd_bI (fd_due kd k fn))), (3, .int (fd_due kd k fn)), (0, .ref a0), (1, .int (nI p1)), (2, .int (nI (p1 + w)))]) hx hb ndF_hearField_28 hl (by decide) rfl (fun ls hl => ?_)
    have loop : ∀ (z : Nat) (q1 : Nat) (acc : Int64) (hq : q1 + z = p1 + w) (hh : fd_hf (fd_due kd k fn) (fd_mz kd k fn) f n z q1 acc = (-1, x)) (H : Heap) (locs : List Loc) (ls : Array Slot), va_P D fd_cl [(a0, .inr (2, [.ref a1, .ref a3, .ref a6, .ref a8, .int cf])), (a1, .inr (0, [.ref a2, .int (nI n)])), (a2, .inl (cI, 400, .inl f)), (a3, .inr (1, [.ref a4, .ref a5, .int (nI kd), .int (nI k)])), (a4, .inl (cI, 20, .inl fs)), (a5, .inl (cL, 20, .inr (.inl fn))), (a6, .inr (0, [.ref a7, .int (nI wn)])), (a7, .inl (cI, 123, .inl wf)), (a8, .inr (1, [.ref a9, .ref a10, .int (nI od), .int (nI ok)])), (a9, .inl (cI, 20, .inl os)), (a10, .inl (cL, 20, .inr (.inl on)))] H → va_D A [(a0, .inr (2, [.ref a1, .ref a3, .ref a6, .ref a8, .int cf])), (a1, .inr (0, [.ref a2, .int (nI n)])), (a2, .inl (cI, 400, .inl f)), (a3, .inr (1, [.ref a4, .ref a5, .int (nI kd), .int (nI k)])), (a4, .inl (cI, 20, .inl fs)), (a5, .inl (cL, 20, .inr (.inl fn))), (a6, .inr (0, [.ref a7, .int (nI wn)])), (a7, .inl (cI, 123, .inl wf)), (a8, .inr (1, [.ref a9, .ref a10, .int (nI od), .int (nI ok)])), (a9, .inl (cI, 20, .inl os)), (a10, .inl (cL, 20, .inr (.inl on)))] → va_S A s.heap H locs → lv_has ls 9 [(0, .ref a0), (2, .int (nI (p1 + w))), (3, .int (fd_due kd k fn)), (4, .int (fd_bI (fd_due kd k fn))), (5, .long acc), (7, .int (nI q1))] → W p l e nmF_hearField s m ([.ref a0, .int (nI p1), .int (nI (p1 + w))].toArray) below meth c H locs 0 0 (MQ below (va_Qi (fun r' (_ : Unit) => r' = (-1)) (fd_B D fd_cl A [(a0, .inr (2, [.ref a1, .ref a3, .ref a6, .ref a8, .int cf])), (a1, .inr (0, [.ref a2, .int (nI n)])), (a2, .inl (cI, 400, .inl f)), (a3, .inr (1, [.ref a4, .ref a5, .int (nI kd), .int (nI (k + 1))])), (a4, .inl (cI, 20, .inl (upd fs k (fd_due kd k fn)))), (a5, .inl (cL, 20, .inr (.inl (vp_updL fn k x)))), (a6, .inr (0, [.ref a7, .int (nI wn)])), (a7, .inl (cI, 123, .inl wf)), (a8, .inr (1, [.ref a9, .ref a10, .int (nI od), .int (nI ok)])), (a9, .inl (cI, 20, .inl os)), (a10, .inl (cL, 20, .inr (.inl on)))]) A) [.ref a0, .int (nI p1), .int (nI (p1 + w))].toArray s 0 0 A) (F0 m 30 ls []) := by
      intro z
      induction z with
      | zero =>
        intro q1 acc hq hh H locs ls hP hD hS hl
        have e9 : x = acc := (Prod.mk.inj hh).2.symm
        subst e9
        refine lv_iload hx hb ndF_hearField_30 (lv_at hl 5 rfl) ?_
        refine lv_iload_n hx hb ndF_hearField_32 rfl (lv_at hl 1 rfl) ?_
        refine lv_icmp_ge (tgt := 92) hx hb ndF_hearField_33 (by decide) (fun _ => ?_) (fun c_33 => absurd ((nI_leI (a := (p1 + w)) (b := q1) (by omega) (by omega)).mpr (by omega)) c_33)
        refine lv_aload_n hx hb ndF_hearField_92 rfl (lv_at hl 0 rfl) ?_
        refine va_get (D := D) (ci := 2) (v := .ref a3) (C := nR_F) (T := nT_F) (N := 5) hx hb hts in_F hown hK hP 0 rfl rfl 1 (by decide) (hts _ tb_54) (fun _ h9 => h9) rfl ndF_hearField_93 ?_
        refine lv_lload hx hb ndF_hearField_96 (lv_at hl 4 rfl) ?_
        refine fd_go_v (wr := [(a0, .inr (2, [.ref a1, .ref a3, .ref a6, .ref a8, .int cf])), (a1, .inr (0, [.ref a2, .int (nI n)])), (a2, .inl (cI, 400, .inl f)), (a6, .inr (0, [.ref a7, .int (nI wn)])), (a7, .inl (cI, 123, .inl wf)), (a8, .inr (1, [.ref a9, .ref a10, .int (nI od), .int (nI ok)])), (a9, .inl (cI, 20, .inl os)), (a10, .inl (cL, 20, .inr (.inl on)))]) (w2 := [(a0, .inr (2, [.ref a1, .ref a3, .ref a6, .ref a8, .int cf])), (a1, .inr (0, [.ref a2, .int (nI n)])), (a2, .inl (cI, 400, .inl f)), (a3, .inr (1, [.ref a4, .ref a5, .int (nI kd), .int (nI (k + 1))])), (a4, .inl (cI, 20, .inl (upd fs k (fd_due kd k fn)))), (a5, .inl (cL, 20, .inr (.inl (vp_updL fn k x)))), (a6, .inr (0, [.ref a7, .int (nI wn)])), (a7, .inl (cI, 123, .inl wf)), (a8, .inr (1, [.ref a9, .ref a10, .int (nI od), .int (nI ok)])), (a9, .inl (cI, 20, .inl os)), (a10, .inl (cL, 20, .inr (.inl on)))]) (va_runV (As := [.long x]) (rest := []) ⟨hx, hb, hml, hown, hts⟩ (kM_take l D Z cI cL (kd := kd) (n := k) (fs := fs) (fn := fn) (by omega) (by omega) x H.size) (cwV 1 hts (fd_gV tb_170 tb_171 tb_172 tb_15 tb_173) rfl rfl rfl nhM_take ⟨(Nat.le_of_ble_eq_true rfl), (Nat.le_of_ble_eq_true rfl)⟩) (fd_PreV hE hK hEV hA hP hD hS [3, 4, 5] rfl (by decide) (ci := 1) (q0 := 3) rfl rfl) rfl rfl hl.1 rfl (lv_room (Nat.le_of_ble_eq_true rfl)) ndF_hearField_98 ⟨(Nat.le_of_ble_eq_true rfl), (Nat.le_of_ble_eq_true rfl)⟩) hP hD hS hA [3, 4, 5] [0, 1, 2, 6, 7, 8, 9, 10] rfl rfl (by decide) (by decide) [0, 1, 2, 8, 9, 10, 3, 4, 5, 6, 7] rfl (by decide) (fun H locs hP hD hS => ?_)
        refine lv_iconst (v := (-1)) hx hb ndF_hearField_101 (by decide) ?_
        exact fd_ret_i hx hb hr hlocks hS hP hD rfl (rfl) ndF_hearField_102
      | succ z ih =>
        intro q1 acc hq hh H locs ls hP hD hS hl
        refine lv_iload hx hb ndF_hearField_30 (lv_at hl 5 rfl) ?_
        refine lv_iload_n hx hb ndF_hearField_32 rfl (lv_at hl 1 rfl) ?_
        refine lv_icmp_ge (tgt := 92) hx hb ndF_hearField_33 (by decide) (fun c_33 => absurd c_33 (fun h9 => absurd ((nI_leI (a := (p1 + w)) (b := q1) (by omega) (by omega)).mp h9) (by omega))) (fun _ => ?_)
        refine lv_iload_n hx hb ndF_hearField_36 rfl (lv_at hl 2 rfl) ?_
        refine lv_aload_n hx hb ndF_hearField_37 rfl (lv_at hl 0 rfl) ?_
        refine va_get (D := D) (ci := 2) (v := .ref a1) (C := nR_F) (T := nT_F) (N := 5) hx hb hts in_F hown hK hP 0 rfl rfl 0 (by decide) (hts _ tb_53) (fun _ h9 => h9) rfl ndF_hearField_38 ?_
        refine lv_iload hx hb ndF_hearField_41 (lv_at hl 5 rfl) ?_
        refine fd_go_i (wr := [(a0, .inr (2, [.ref a1, .ref a3, .ref a6, .ref a8, .int cf])), (a3, .inr (1, [.ref a4, .ref a5, .int (nI kd), .int (nI k)])), (a4, .inl (cI, 20, .inl fs)), (a5, .inl (cL, 20, .inr (.inl fn))), (a6, .inr (0, [.ref a7, .int (nI wn)])), (a7, .inl (cI, 123, .inl wf)), (a8, .inr (1, [.ref a9, .ref a10, .int (nI od), .int (nI ok)])), (a9, .inl (cI, 20, .inl os)), (a10, .inl (cL, 20, .inr (.inl on)))]) (w2 := [(a0, .inr (2, [.ref a1, .ref a3, .ref a6, .ref a8, .int cf])), (a1, .inr (0, [.ref a2, .int (nI n)])), (a2, .inl (cI, 400, .inl f)), (a3, .inr (1, [.ref a4, .ref a5, .int (nI kd), .int (nI k)])), (a4, .inl (cI, 20, .inl fs)), (a5, .inl (cL, 20, .inr (.inl fn))), (a6, .inr (0, [.ref a7, .int (nI wn)])), (a7, .inl (cI, 123, .inl wf)), (a8, .inr (1, [.ref a9, .ref a10, .int (nI od), .int (nI ok)])), (a9, .inl (cI, 20, .inl os)), (a10, .inl (cL, 20, .inr (.inl on)))]) (va_runV (As := [.int (nI q1)]) (rest := [.int (fd_due kd k fn)]) ⟨hx, hb, hml, hown, hts⟩ (kR_at l D Z cI cL (n := n) (f := f) (by omega) (by omega) (nI q1) H.size) (cwV 1 hts (fd_gV tb_91 tb_92 tb_93 tb_14 tb_94) rfl rfl rfl nhR_at ⟨(Nat.le_of_ble_eq_true rfl), (Nat.le_of_ble_eq_true rfl)⟩) (fd_PreV hE hK hEV hA hP hD hS [1, 2] rfl (by decide) (ci := 0) (q0 := 1) rfl rfl) rfl rfl hl.1 rfl (lv_room (Nat.le_of_ble_eq_true rfl)) ndF_hearField_43 ⟨(Nat.le_of_ble_eq_true rfl), (Nat.le_of_ble_eq_true rfl)⟩) hP hD hS hA [1, 2] [0, 3, 4, 5, 6, 7, 8, 9, 10] rfl rfl (by decide) (by decide) [0, 9, 10, 1, 2, 3, 4, 5, 6, 7, 8] rfl (by decide) (fun H locs hP hD hS => ?_)
        refine fd_go_i (wr := [(a0, .inr (2, [.ref a1, .ref a3, .ref a6, .ref a8, .int cf])), (a1, .inr (0, [.ref a2, .int (nI n)])), (a2, .inl (cI, 400, .inl f)), (a3, .inr (1, [.ref a4, .ref a5, .int (nI kd), .int (nI k)])), (a4, .inl (cI, 20, .inl fs)), (a5, .inl (cL, 20, .inr (.inl fn))), (a6, .inr (0, [.ref a7, .int (nI wn)])), (a7, .inl (cI, 123, .inl wf)), (a8, .inr (1, [.ref a9, .ref a10, .int (nI od), .int (nI ok)])), (a9, .inl (cI, 20, .inl os)), (a10, .inl (cL, 20, .inr (.inl on)))]) (w2 := [(a0, .inr (2, [.ref a1, .ref a3, .ref a6, .ref a8, .int cf])), (a1, .inr (0, [.ref a2, .int (nI n)])), (a2, .inl (cI, 400, .inl f)), (a3, .inr (1, [.ref a4, .ref a5, .int (nI kd), .int (nI k)])), (a4, .inl (cI, 20, .inl fs)), (a5, .inl (cL, 20, .inr (.inl fn))), (a6, .inr (0, [.ref a7, .int (nI wn)])), (a7, .inl (cI, 123, .inl wf)), (a8, .inr (1, [.ref a9, .ref a10, .int (nI od), .int (nI ok)])), (a9, .inl (cI, 20, .inl os)), (a10, .inl (cL, 20, .inr (.inl on)))]) (va_runS (As := [.int (fd_due kd k fn), .int (fd_at n f (nI q1))]) (rest := []) ⟨hx, hb, hml, hown, hts⟩ (kF_valueInSort l D Z cI cL (fd_due kd k fn) (fd_at n f (nI q1)) H.size) (va_cwS 2 hts (fd_gS tb_152 tb_153 tb_13 tb_154) rfl rfl rfl nhF_valueInSort.2 ⟨(Nat.le_of_ble_eq_true rfl), (Nat.le_of_ble_eq_true rfl)⟩) (fd_PreS hE hK hEV hA hP hD hS [] rfl (by decide)) rfl rfl hl.1 rfl (lv_room (Nat.le_of_ble_eq_true rfl)) ndF_hearField_46 ⟨(Nat.le_of_ble_eq_true rfl), (Nat.le_of_ble_eq_true rfl)⟩) hP hD hS hA [] [0, 1, 2, 3, 4, 5, 6, 7, 8, 9, 10] rfl rfl (by decide) (by decide) [0, 1, 2, 3, 4, 5, 6, 7, 8, 9, 10] rfl (by decide) (fun H locs hP hD hS => ?_)
        refine lv_istore (lv' := [(8, .int (fd_vis (fd_due kd k fn) (fd_at n f (nI q1)))), (0, .ref a0), (2, .int (nI (p1 + w))), (3, .int (fd_due kd k fn)), (4, .int (fd_bI (fd_due kd k fn))), (5, .long acc), (7, .int (nI q1))]) hx hb ndF_hearField_49 hl (by decide) rfl (fun ls hl => ?_)
        refine lv_iload hx hb ndF_hearField_51 (lv_at hl 0 rfl) ?_
        refine lv_if_lt (tgt := 71) hx hb ndF_hearField_53 (by decide) (fun c_53 => ?_) (fun c_53 => ?_)
        · exact absurd hh (by rw [fd_hf, if_pos c_53]; exact fd_ne1 (by omega))
        · refine lv_iload hx hb ndF_hearField_56 (lv_at hl 0 rfl) ?_
          refine lv_if_le (tgt := 74) hx hb ndF_hearField_58 (by decide) (fun c_58 => ?_) (fun c_58 => ?_)
          · refine lv_lload hx hb ndF_hearField_74 (lv_at hl 5 rfl) ?_
            refine lv_iload hx hb ndF_hearField_76 (lv_at hl 4 rfl) ?_
            refine lv_i2l hx hb ndF_hearField_78 rfl ?_
            refine lv_lmul hx hb ndF_hearField_79 ?_
            refine lv_iload hx hb ndF_hearField_80 (lv_at hl 0 rfl) ?_
            refine lv_i2l hx hb ndF_hearField_82 rfl ?_
            refine lv_ladd hx hb ndF_hearField_83 ?_
            refine lv_lstore (lv' := [(5, .long ((acc * ((fd_bI (fd_due kd k fn)).toInt64)) + ((fd_vis (fd_due kd k fn) (fd_at n f (nI q1))).toInt64))), (8, .int (fd_vis (fd_due kd k fn) (fd_at n f (nI q1)))), (0, .ref a0), (2, .int (nI (p1 + w))), (3, .int (fd_due kd k fn)), (4, .int (fd_bI (fd_due kd k fn))), (7, .int (nI q1))]) hx hb ndF_hearField_84 hl (by decide) rfl (fun ls hl => ?_)
            refine lv_iinc (v := nI (q1 + 1)) (lv' := [(7, .int (nI (q1 + 1))), (5, .long ((acc * ((fd_bI (fd_due kd k fn)).toInt64)) + ((fd_vis (fd_due kd k fn) (fd_at n f (nI q1))).toInt64))), (8, .int (fd_vis (fd_due kd k fn) (fd_at n f (nI q1)))), (0, .ref a0), (2, .int (nI (p1 + w))), (3, .int (fd_due kd k fn)), (4, .int (fd_bI (fd_due kd k fn)))]) hx hb ndF_hearField_86 hl (k := 6) rfl (nI_1 q1) (by decide) rfl (fun ls hl => ?_)
            refine lv_goto (tgt := 30) hx hb ndF_hearField_89 (by decide) ?_
            exact ih (q1 + 1) _ (by omega) (by rw [fd_hf, if_neg c_53, if_pos c_58] at hh; exact hh) _ _ _ hP hD hS (lv_sub hl [3, 4, 5, 6, 1, 0] rfl)
          · refine lv_aload_n hx hb ndF_hearField_61 rfl (lv_at hl 1 rfl) ?_
            refine va_get (D := D) (ci := 2) (v := .ref a3) (C := nR_F) (T := nT_F) (N := 5) hx hb hts in_F hown hK hP 0 rfl rfl 1 (by decide) (hts _ tb_54) (fun _ h9 => h9) rfl ndF_hearField_62 ?_
            refine fd_go_i (wr := [(a0, .inr (2, [.ref a1, .ref a3, .ref a6, .ref a8, .int cf])), (a1, .inr (0, [.ref a2, .int (nI n)])), (a2, .inl (cI, 400, .inl f)), (a6, .inr (0, [.ref a7, .int (nI wn)])), (a7, .inl (cI, 123, .inl wf)), (a8, .inr (1, [.ref a9, .ref a10, .int (nI od), .int (nI ok)])), (a9, .inl (cI, 20, .inl os)), (a10, .inl (cL, 20, .inr (.inl on)))]) (w2 := [(a0, .inr (2, [.ref a1, .ref a3, .ref a6, .ref a8, .int cf])), (a1, .inr (0, [.ref a2, .int (nI n)])), (a2, .inl (cI, 400, .inl f)), (a3, .inr (1, [.ref a4, .ref a5, .int (nI kd), .int (nI k)])), (a4, .inl (cI, 20, .inl fs)), (a5, .inl (cL, 20, .inr (.inl fn))), (a6, .inr (0, [.ref a7, .int (nI wn)])), (a7, .inl (cI, 123, .inl wf)), (a8, .inr (1, [.ref a9, .ref a10, .int (nI od), .int (nI ok)])), (a9, .inl (cI, 20, .inl os)), (a10, .inl (cL, 20, .inr (.inl on)))]) (va_runV (As := []) (rest := []) ⟨hx, hb, hml, hown, hts⟩ (kM_mustBeZero l D Z cI cL (kd := kd) (n := k) (fs := fs) (fn := fn) (by omega) (by omega) H.size) (cwV 0 hts (fd_gV tb_166 tb_167 tb_168 tb_15 tb_169) rfl rfl rfl nhM_mustBeZero ⟨(Nat.le_of_ble_eq_true rfl), (Nat.le_of_ble_eq_true rfl)⟩) (fd_PreV hE hK hEV hA hP hD hS [3, 4, 5] rfl (by decide) (ci := 1) (q0 := 3) rfl rfl) rfl rfl hl.1 rfl (lv_room (Nat.le_of_ble_eq_true rfl)) ndF_hearField_65 ⟨(Nat.le_of_ble_eq_true rfl), (Nat.le_of_ble_eq_true rfl)⟩) hP hD hS hA [3, 4, 5] [0, 1, 2, 6, 7, 8, 9, 10] rfl rfl (by decide) (by decide) [0, 1, 2, 8, 9, 10, 3, 4, 5, 6, 7] rfl (by decide) (fun H locs hP hD hS => ?_)
            refine lv_if_eq (tgt := 74) hx hb ndF_hearField_68 (by decide) (fun c_68 => ?_) (fun c_68 => ?_)
            · refine lv_lload hx hb ndF_hearField_74 (lv_at hl 5 rfl) ?_
              refine lv_iload hx hb ndF_hearField_76 (lv_at hl 4 rfl) ?_
              refine lv_i2l hx hb ndF_hearField_78 rfl ?_
              refine lv_lmul hx hb ndF_hearField_79 ?_
              refine lv_iload hx hb ndF_hearField_80 (lv_at hl 0 rfl) ?_
              refine lv_i2l hx hb ndF_hearField_82 rfl ?_
              refine lv_ladd hx hb ndF_hearField_83 ?_
              refine lv_lstore (lv' := [(5, .long ((acc * ((fd_bI (fd_due kd k fn)).toInt64)) + ((fd_vis (fd_due kd k fn) (fd_at n f (nI q1))).toInt64))), (8, .int (fd_vis (fd_due kd k fn) (fd_at n f (nI q1)))), (0, .ref a0), (2, .int (nI (p1 + w))), (3, .int (fd_due kd k fn)), (4, .int (fd_bI (fd_due kd k fn))), (7, .int (nI q1))]) hx hb ndF_hearField_84 hl (by decide) rfl (fun ls hl => ?_)
              refine lv_iinc (v := nI (q1 + 1)) (lv' := [(7, .int (nI (q1 + 1))), (5, .long ((acc * ((fd_bI (fd_due kd k fn)).toInt64)) + ((fd_vis (fd_due kd k fn) (fd_at n f (nI q1))).toInt64))), (8, .int (fd_vis (fd_due kd k fn) (fd_at n f (nI q1)))), (0, .ref a0), (2, .int (nI (p1 + w))), (3, .int (fd_due kd k fn)), (4, .int (fd_bI (fd_due kd k fn)))]) hx hb ndF_hearField_86 hl (k := 6) rfl (nI_1 q1) (by decide) rfl (fun ls hl => ?_)
              refine lv_goto (tgt := 30) hx hb ndF_hearField_89 (by decide) ?_
              exact ih (q1 + 1) _ (by omega) (by rw [fd_hf, if_neg c_53, if_neg c_58, if_pos c_68] at hh; exact hh) _ _ _ hP hD hS (lv_sub hl [3, 4, 5, 6, 1, 0] rfl)
            · exact absurd hh (by rw [fd_hf, if_neg c_53, if_neg c_58, if_neg c_68]; exact fd_ne1 (by omega))
    exact loop w p1 0 rfl hr9 _ _ _ hP hD hS (lv_sub hl [4, 6, 3, 2, 1, 0] rfl)
set_option maxHeartbeats 4000000 in
set_option maxRecDepth 100000 in
theorem kF_hearField_no (l : Launch) (D : va_G) (Z : Nat → Nat) (cI cL : ClassId) {a0 a1 a2 a3 a4 a5 a6 a7 a8 a9 a10 n kd k wn od ok : Nat} {f fs wf os : Nat → Int32} {fn on : Nat → Int64} {cf : Int32} (hn : n ≤ 400) (hkd : kd ≤ 15) (hk : k ≤ 20) (hwn : wn ≤ 123) (hod : od ≤ 15) (hok : ok ≤ 20) {p1 w : Nat} {x : Int64} {r : Int32} (hp : p1 + w < 2 ^ 30) (hr9 : fd_hf (fd_due kd k fn) (fd_mz kd k fn) f n w p1 0 = (r, x)) (hr2 : ¬ r = -1) : fd_Mi l D fd_cl (fd_ty cI cL) (fd_EV Z) nyF_hearField (.code nyF_hearField ncF_hearField 9 (some .int) :: fd_TB) nmF_hearField [.ref a0, .int (nI p1), .int (nI (p1 + w))] [(a0, .inr (2, [.ref a1, .ref a3, .ref a6, .ref a8, .int cf])), (a1, .inr (0, [.ref a2, .int (nI n)])), (a2, .inl (cI, 400, .inl f)), (a3, .inr (1, [.ref a4, .ref a5, .int (nI kd), .int (nI k)])), (a4, .inl (cI, 20, .inl fs)), (a5, .inl (cL, 20, .inr (.inl fn))), (a6, .inr (0, [.ref a7, .int (nI wn)])), (a7, .inl (cI, 123, .inl wf)), (a8, .inr (1, [.ref a9, .ref a10, .int (nI od), .int (nI ok)])), (a9, .inl (cI, 20, .inl os)), (a10, .inl (cL, 20, .inr (.inl on)))] [(a0, .inr (2, [.ref a1, .ref a3, .ref a6, .ref a8, .int cf])), (a1, .inr (0, [.ref a2, .int (nI n)])), (a2, .inl (cI, 400, .inl f)), (a3, .inr (1, [.ref a4, .ref a5, .int (nI kd), .int (nI k)])), (a4, .inl (cI, 20, .inl fs)), (a5, .inl (cL, 20, .inr (.inl fn))), (a6, .inr (0, [.ref a7, .int (nI wn)])), (a7, .inl (cI, 123, .inl wf)), (a8, .inr (1, [.ref a9, .ref a10, .int (nI od), .int (nI ok)])), (a9, .inl (cI, 20, .inl os)), (a10, .inl (cL, 20, .inr (.inl on)))] r := by
  refine fd_open_i (cc := ncF_hearField) (maxL := 9) (ret := (some .int)) (by decide) rfl (Nat.le_of_ble_eq_true rfl) ?_
  intro p e s m below meth c A ls X hP hD hS hl
  obtain ⟨hx, hb, hr, hml, hown, hts0, hlocks, hK, hEV, hA⟩ := X
  have hts : ∀ w ∈ fd_TB, w.before _ s = true := fun w h => hts0 w (List.mem_cons_of_mem _ h)
  have hE := fd_EV_ok Z
  have hown : s.vm.findClass "FieldDesk" = some m.cls := hown
  have hl : lv_has ls 9 [(0, .ref a0), (1, .int (nI p1)), (2, .int (nI (p1 + w)))] := hl
  refine lv_aload_n hx hb ndF_hearField_0 rfl (lv_at hl 0 rfl) ?_
  refine va_get (D := D) (ci := 2) (v := .ref a3) (C := nR_F) (T := nT_F) (N := 5) hx hb hts in_F hown hK hP 0 rfl rfl 1 (by decide) (hts _ tb_54) (fun _ h9 => h9) rfl ndF_hearField_1 ?_
  refine fd_go_i (wr := [(a0, .inr (2, [.ref a1, .ref a3, .ref a6, .ref a8, .int cf])), (a1, .inr (0, [.ref a2, .int (nI n)])), (a2, .inl (cI, 400, .inl f)), (a6, .inr (0, [.ref a7, .int (nI wn)])), (a7, .inl (cI, 123, .inl wf)), (a8, .inr (1, [.ref a9, .ref a10, .int (nI od), .int (nI ok)])), (a9, .inl (cI, 20, .inl os)), (a10, .inl (cL, 20, .inr (.inl on)))]) (w2 := [(a0, .inr (2, [.ref a1, .ref a3, .ref a6, .ref a8, .int cf])), (a1, .inr (0, [.ref a2, .int (nI n)])), (a2, .inl (cI, 400, .inl f)), (a3, .inr (1, [.ref a4, .ref a5, .int (nI kd), .int (nI k)])), (a4, .inl (cI, 20, .inl fs)), (a5, .inl (cL, 20, .inr (.inl fn))), (a6, .inr (0, [.ref a7, .int (nI wn)])), (a7, .inl (cI, 123, .inl wf)), (a8, .inr (1, [.ref a9, .ref a10, .int (nI od), .int (nI ok)])), (a9, .inl (cI, 20, .inl os)), (a10, .inl (cL, 20, .inr (.inl on)))]) (va_runV (As := []) (rest := []) ⟨hx, hb, hml, hown, hts⟩ (kM_dueSort l D Z cI cL (kd := kd) (n := k) (fs := fs) (fn := fn) (by omega) (by omega) s.heap.size) (cwV 0 hts (fd_gV tb_129 tb_130 tb_131 tb_15 tb_132) rfl rfl rfl nhM_dueSort ⟨(Nat.le_of_ble_eq_true rfl), (Nat.le_of_ble_eq_true rfl)⟩) (fd_PreV hE hK hEV hA hP hD hS [3, 4, 5] rfl (by decide) (ci := 1) (q0 := 3) rfl rfl) rfl rfl hl.1 rfl (lv_room (Nat.le_of_ble_eq_true rfl)) ndF_hearField_4 ⟨(Nat.le_of_ble_eq_true rfl), (Nat.le_of_ble_eq_true rfl)⟩) hP hD hS hA [3, 4, 5] [0, 1, 2, 6, 7, 8, 9, 10] rfl rfl (by decide) (by decide) [0, 1, 2, 8, 9, 10, 3, 4, 5, 6, 7] rfl (by decide) (fun H locs hP hD hS => ?_)
  refine lv_istore_n (lv' := [(3, .int (fd_due kd k fn)), (0, .ref a0), (1, .int (nI p1)), (2, .int (nI (p1 + w)))]) hx hb ndF_hearField_7 rfl hl (by decide) rfl (fun ls hl => ?_)
  refine lv_iload_n hx hb ndF_hearField_8 rfl (lv_at hl 0 rfl) ?_
  refine fd_go_i (wr := [(a0, .inr (2, [.ref a1, .ref a3, .ref a6, .ref a8, .int cf])), (a1, .inr (0, [.ref a2, .int (nI n)])), (a2, .inl (cI, 400, .inl f)), (a3, .inr (1, [.ref a4, .ref a5, .int (nI kd), .int (nI k)])), (a4, .inl (cI, 20, .inl fs)), (a5, .inl (cL, 20, .inr (.inl fn))), (a6, .inr (0, [.ref a7, .int (nI wn)])), (a7, .inl (cI, 123, .inl wf)), (a8, .inr (1, [.ref a9, .ref a10, .int (nI od), .int (nI ok)])), (a9, .inl (cI, 20, .inl os)), (a10, .inl (cL, 20, .inr (.inl on)))]) (w2 := [(a0, .inr (2, [.ref a1, .ref a3, .ref a6, .ref a8, .int cf])), (a1, .inr (0, [.ref a2, .int (nI n)])), (a2, .inl (cI, 400, .inl f)), (a3, .inr (1, [.ref a4, .ref a5, .int (nI kd), .int (nI k)])), (a4, .inl (cI, 20, .inl fs)), (a5, .inl (cL, 20, .inr (.inl fn))), (a6, .inr (0, [.ref a7, .int (nI wn)])), (a7, .inl (cI, 123, .inl wf)), (a8, .inr (1, [.ref a9, .ref a10, .int (nI od), .int (nI ok)])), (a9, .inl (cI, 20, .inl os)), (a10, .inl (cL, 20, .inr (.inl on)))]) (va_runS (As := [.int (fd_due kd k fn)]) (rest := []) ⟨hx, hb, hml, hown, hts⟩ (kF_isToBase36 l D Z cI cL (fd_due kd k fn) H.size) (va_cwS 1 hts (fd_gS tb_149 tb_150 tb_13 tb_151) rfl rfl rfl nhF_isToBase36.2 ⟨(Nat.le_of_ble_eq_true rfl), (Nat.le_of_ble_eq_true rfl)⟩) (fd_PreS hE hK hEV hA hP hD hS [] rfl (by decide)) rfl rfl hl.1 rfl (lv_room (Nat.le_of_ble_eq_true rfl)) ndF_hearField_9 ⟨(Nat.le_of_ble_eq_true rfl), (Nat.le_of_ble_eq_true rfl)⟩) hP hD hS hA [] [0, 1, 2, 3, 4, 5, 6, 7, 8, 9, 10] rfl rfl (by decide) (by decide) [0, 1, 2, 3, 4, 5, 6, 7, 8, 9, 10] rfl (by decide) (fun H locs hP hD hS => ?_)
  refine lv_if_eq (tgt := 20) hx hb ndF_hearField_12 (by decide) (fun c_12 => ?_) (fun c_12 => ?_)
  · refine lv_bipush (v := 10) hx hb ndF_hearField_20 (by decide) ?_
    refine fd_asi (y := fd_bI (fd_due kd k fn)) (by rw [fd_bI, if_pos c_12]) ?_
    refine lv_istore (lv' := [(4, .int (fd_bI (fd_due kd k fn))), (3, .int (fd_due kd k fn)), (0, .ref a0), (1, .int (nI p1)), (2, .int (nI (p1 + w)))]) hx hb ndF_hearField_22 hl (by decide) rfl (fun ls hl => ?_)
    refine lv_lconst (v := 0) hx hb ndF_hearField_24 (by decide) ?_
    refine lv_lstore (lv' := [(5, .long 0), (4, .int (fd_bI (fd_due kd k fn))), (3, .int (fd_due kd k fn)), (0, .ref a0), (1, .int (nI p1)), (2, .int (nI (p1 + w)))]) hx hb ndF_hearField_25 hl (by decide) rfl (fun ls hl => ?_)
    refine lv_iload_n hx hb ndF_hearField_27 rfl (lv_at hl 4 rfl) ?_
    refine lv_istore (lv' := [(7, .int (nI p1)), (5, .long 0), (4, .int (fd_bI (fd_due kd k fn))), (3, .int (fd_due kd k fn)), (0, .ref a0), (1, .int (nI p1)), (2, .int (nI (p1 + w)))]) hx hb ndF_hearField_28 hl (by decide) rfl (fun ls hl => ?_)
    have loop : ∀ (z : Nat) (q1 : Nat) (acc : Int64) (hq : q1 + z = p1 + w) (hh : fd_hf (fd_due kd k fn) (fd_mz kd k fn) f n z q1 acc = (r, x)) (H : Heap) (locs : List Loc) (ls : Array Slot), va_P D fd_cl [(a0, .inr (2, [.ref a1, .ref a3, .ref a6, .ref a8, .int cf])), (a1, .inr (0, [.ref a2, .int (nI n)])), (a2, .inl (cI, 400, .inl f)), (a3, .inr (1, [.ref a4, .ref a5, .int (nI kd), .int (nI k)])), (a4, .inl (cI, 20, .inl fs)), (a5, .inl (cL, 20, .inr (.inl fn))), (a6, .inr (0, [.ref a7, .int (nI wn)])), (a7, .inl (cI, 123, .inl wf)), (a8, .inr (1, [.ref a9, .ref a10, .int (nI od), .int (nI ok)])), (a9, .inl (cI, 20, .inl os)), (a10, .inl (cL, 20, .inr (.inl on)))] H → va_D A [(a0, .inr (2, [.ref a1, .ref a3, .ref a6, .ref a8, .int cf])), (a1, .inr (0, [.ref a2, .int (nI n)])), (a2, .inl (cI, 400, .inl f)), (a3, .inr (1, [.ref a4, .ref a5, .int (nI kd), .int (nI k)])), (a4, .inl (cI, 20, .inl fs)), (a5, .inl (cL, 20, .inr (.inl fn))), (a6, .inr (0, [.ref a7, .int (nI wn)])), (a7, .inl (cI, 123, .inl wf)), (a8, .inr (1, [.ref a9, .ref a10, .int (nI od), .int (nI ok)])), (a9, .inl (cI, 20, .inl os)), (a10, .inl (cL, 20, .inr (.inl on)))] → va_S A s.heap H locs → lv_has ls 9 [(0, .ref a0), (2, .int (nI (p1 + w))), (3, .int (fd_due kd k fn)), (4, .int (fd_bI (fd_due kd k fn))), (5, .long acc), (7, .int (nI q1))] → W p l e nmF_hearField s m ([.ref a0, .int (nI p1), .int (nI (p1 + w))].toArray) below meth c H locs 0 0 (MQ below (va_Qi (fun r' (_ : Unit) => r' = r) (fd_B D fd_cl A [(a0, .inr (2, [.ref a1, .ref a3, .ref a6, .ref a8, .int cf])), (a1, .inr (0, [.ref a2, .int (nI n)])), (a2, .inl (cI, 400, .inl f)), (a3, .inr (1, [.ref a4, .ref a5, .int (nI kd), .int (nI k)])), (a4, .inl (cI, 20, .inl fs)), (a5, .inl (cL, 20, .inr (.inl fn))), (a6, .inr (0, [.ref a7, .int (nI wn)])), (a7, .inl (cI, 123, .inl wf)), (a8, .inr (1, [.ref a9, .ref a10, .int (nI od), .int (nI ok)])), (a9, .inl (cI, 20, .inl os)), (a10, .inl (cL, 20, .inr (.inl on)))]) A) [.ref a0, .int (nI p1), .int (nI (p1 + w))].toArray s 0 0 A) (F0 m 30 ls []) := by
      intro z
      induction z with
      | zero =>
        intro q1 acc hq hh H locs ls hP hD hS hl
        exact absurd (Prod.mk.inj hh).1.symm hr2
      | succ z ih =>
        intro q1 acc hq hh H locs ls hP hD hS hl
        refine lv_iload hx hb ndF_hearField_30 (lv_at hl 5 rfl) ?_
        refine lv_iload_n hx hb ndF_hearField_32 rfl (lv_at hl 1 rfl) ?_
        refine lv_icmp_ge (tgt := 92) hx hb ndF_hearField_33 (by decide) (fun c_33 => absurd c_33 (fun h9 => absurd ((nI_leI (a := (p1 + w)) (b := q1) (by omega) (by omega)).mp h9) (by omega))) (fun _ => ?_)
        refine lv_iload_n hx hb ndF_hearField_36 rfl (lv_at hl 2 rfl) ?_
        refine lv_aload_n hx hb ndF_hearField_37 rfl (lv_at hl 0 rfl) ?_
        refine va_get (D := D) (ci := 2) (v := .ref a1) (C := nR_F) (T := nT_F) (N := 5) hx hb hts in_F hown hK hP 0 rfl rfl 0 (by decide) (hts _ tb_53) (fun _ h9 => h9) rfl ndF_hearField_38 ?_
        refine lv_iload hx hb ndF_hearField_41 (lv_at hl 5 rfl) ?_
        refine fd_go_i (wr := [(a0, .inr (2, [.ref a1, .ref a3, .ref a6, .ref a8, .int cf])), (a3, .inr (1, [.ref a4, .ref a5, .int (nI kd), .int (nI k)])), (a4, .inl (cI, 20, .inl fs)), (a5, .inl (cL, 20, .inr (.inl fn))), (a6, .inr (0, [.ref a7, .int (nI wn)])), (a7, .inl (cI, 123, .inl wf)), (a8, .inr (1, [.ref a9, .ref a10, .int (nI od), .int (nI ok)])), (a9, .inl (cI, 20, .inl os)), (a10, .inl (cL, 20, .inr (.inl on)))]) (w2 := [(a0, .inr (2, [.ref a1, .ref a3, .ref a6, .ref a8, .int cf])), (a1, .inr (0, [.ref a2, .int (nI n)])), (a2, .inl (cI, 400, .inl f)), (a3, .inr (1, [.ref a4, .ref a5, .int (nI kd), .int (nI k)])), (a4, .inl (cI, 20, .inl fs)), (a5, .inl (cL, 20, .inr (.inl fn))), (a6, .inr (0, [.ref a7, .int (nI wn)])), (a7, .inl (cI, 123, .inl wf)), (a8, .inr (1, [.ref a9, .ref a10, .int (nI od), .int (nI ok)])), (a9, .inl (cI, 20, .inl os)), (a10, .inl (cL, 20, .inr (.inl on)))]) (va_runV (As := [.int (nI q1)]) (rest := [.int (fd_due kd k fn)]) ⟨hx, hb, hml, hown, hts⟩ (kR_at l D Z cI cL (n := n) (f := f) (by omega) (by omega) (nI q1) H.size) (cwV 1 hts (fd_gV tb_91 tb_92 tb_93 tb_14 tb_94) rfl rfl rfl nhR_at ⟨(Nat.le_of_ble_eq_true rfl), (Nat.le_of_ble_eq_true rfl)⟩) (fd_PreV hE hK hEV hA hP hD hS [1, 2] rfl (by decide) (ci := 0) (q0 := 1) rfl rfl) rfl rfl hl.1 rfl (lv_room (Nat.le_of_ble_eq_true rfl)) ndF_hearField_43 ⟨(Nat.le_of_ble_eq_true rfl), (Nat.le_of_ble_eq_true rfl)⟩) hP hD hS hA [1, 2] [0, 3, 4, 5, 6, 7, 8, 9, 10] rfl rfl (by decide) (by decide) [0, 9, 10, 1, 2, 3, 4, 5, 6, 7, 8] rfl (by decide) (fun H locs hP hD hS => ?_)
        refine fd_go_i (wr := [(a0, .inr (2, [.ref a1, .ref a3, .ref a6, .ref a8, .int cf])), (a1, .inr (0, [.ref a2, .int (nI n)])), (a2, .inl (cI, 400, .inl f)), (a3, .inr (1, [.ref a4, .ref a5, .int (nI kd), .int (nI k)])), (a4, .inl (cI, 20, .inl fs)), (a5, .inl (cL, 20, .inr (.inl fn))), (a6, .inr (0, [.ref a7, .int (nI wn)])), (a7, .inl (cI, 123, .inl wf)), (a8, .inr (1, [.ref a9, .ref a10, .int (nI od), .int (nI ok)])), (a9, .inl (cI, 20, .inl os)), (a10, .inl (cL, 20, .inr (.inl on)))]) (w2 := [(a0, .inr (2, [.ref a1, .ref a3, .ref a6, .ref a8, .int cf])), (a1, .inr (0, [.ref a2, .int (nI n)])), (a2, .inl (cI, 400, .inl f)), (a3, .inr (1, [.ref a4, .ref a5, .int (nI kd), .int (nI k)])), (a4, .inl (cI, 20, .inl fs)), (a5, .inl (cL, 20, .inr (.inl fn))), (a6, .inr (0, [.ref a7, .int (nI wn)])), (a7, .inl (cI, 123, .inl wf)), (a8, .inr (1, [.ref a9, .ref a10, .int (nI od), .int (nI ok)])), (a9, .inl (cI, 20, .inl os)), (a10, .inl (cL, 20, .inr (.inl on)))]) (va_runS (As := [.int (fd_due kd k fn), .int (fd_at n f (nI q1))]) (rest := []) ⟨hx, hb, hml, hown, hts⟩ (kF_valueInSort l D Z cI cL (fd_due kd k fn) (fd_at n f (nI q1)) H.size) (va_cwS 2 hts (fd_gS tb_152 tb_153 tb_13 tb_154) rfl rfl rfl nhF_valueInSort.2 ⟨(Nat.le_of_ble_eq_true rfl), (Nat.le_of_ble_eq_true rfl)⟩) (fd_PreS hE hK hEV hA hP hD hS [] rfl (by decide)) rfl rfl hl.1 rfl (lv_room (Nat.le_of_ble_eq_true rfl)) ndF_hearField_46 ⟨(Nat.le_of_ble_eq_true rfl), (Nat.le_of_ble_eq_true rfl)⟩) hP hD hS hA [] [0, 1, 2, 3, 4, 5, 6, 7, 8, 9, 10] rfl rfl (by decide) (by decide) [0, 1, 2, 3, 4, 5, 6, 7, 8, 9, 10] rfl (by decide) (fun H locs hP hD hS => ?_)
        refine lv_istore (lv' := [(8, .int (fd_vis (fd_due kd k fn) (fd_at n f (nI q1)))), (0, .ref a0), (2, .int (nI (p1 + w))), (3, .int (fd_due kd k fn)), (4, .int (fd_bI (fd_due kd k fn))), (5, .long acc), (7, .int (nI q1))]) hx hb ndF_hearField_49 hl (by decide) rfl (fun ls hl => ?_)
        refine lv_iload hx hb ndF_hearField_51 (lv_at hl 0 rfl) ?_
        refine lv_if_lt (tgt := 71) hx hb ndF_hearField_53 (by decide) (fun c_53 => ?_) (fun c_53 => ?_)
        · refine lv_iload hx hb ndF_hearField_71 (lv_at hl 6 rfl) ?_
          exact fd_ret_i hx hb hr hlocks hS hP hD rfl (by rw [fd_hf, if_pos c_53] at hh; exact (Prod.mk.inj hh).1) ndF_hearField_73
        · refine lv_iload hx hb ndF_hearField_56 (lv_at hl 0 rfl) ?_
          refine lv_if_le (tgt := 74) hx hb ndF_hearField_58 (by decide) (fun c_58 => ?_) (fun c_58 => ?_)
          · refine lv_lload hx hb ndF_hearField_74 (lv_at hl 5 rfl) ?_
            refine lv_iload hx hb ndF_hearField_76 (lv_at hl 4 rfl) ?_
            refine lv_i2l hx hb ndF_hearField_78 rfl ?_
            refine lv_lmul hx hb ndF_hearField_79 ?_
            refine lv_iload hx hb ndF_hearField_80 (lv_at hl 0 rfl) ?_
            refine lv_i2l hx hb ndF_hearField_82 rfl ?_
            refine lv_ladd hx hb ndF_hearField_83 ?_
            refine lv_lstore (lv' := [(5, .long ((acc * ((fd_bI (fd_due kd k fn)).toInt64)) + ((fd_vis (fd_due kd k fn) (fd_at n f (nI q1))).toInt64))), (8, .int (fd_vis (fd_due kd k fn) (fd_at n f (nI q1)))), (0, .ref a0), (2, .int (nI (p1 + w))), (3, .int (fd_due kd k fn)), (4, .int (fd_bI (fd_due kd k fn))), (7, .int (nI q1))]) hx hb ndF_hearField_84 hl (by decide) rfl (fun ls hl => ?_)
            refine lv_iinc (v := nI (q1 + 1)) (lv' := [(7, .int (nI (q1 + 1))), (5, .long ((acc * ((fd_bI (fd_due kd k fn)).toInt64)) + ((fd_vis (fd_due kd k fn) (fd_at n f (nI q1))).toInt64))), (8, .int (fd_vis (fd_due kd k fn) (fd_at n f (nI q1)))), (0, .ref a0), (2, .int (nI (p1 + w))), (3, .int (fd_due kd k fn)), (4, .int (fd_bI (fd_due kd k fn)))]) hx hb ndF_hearField_86 hl (k := 6) rfl (nI_1 q1) (by decide) rfl (fun ls hl => ?_)
            refine lv_goto (tgt := 30) hx hb ndF_hearField_89 (by decide) ?_
            exact ih (q1 + 1) _ (by omega) (by rw [fd_hf, if_neg c_53, if_pos c_58] at hh; exact hh) _ _ _ hP hD hS (lv_sub hl [3, 4, 5, 6, 1, 0] rfl)
          · refine lv_aload_n hx hb ndF_hearField_61 rfl (lv_at hl 1 rfl) ?_
            refine va_get (D := D) (ci := 2) (v := .ref a3) (C := nR_F) (T := nT_F) (N := 5) hx hb hts in_F hown hK hP 0 rfl rfl 1 (by decide) (hts _ tb_54) (fun _ h9 => h9) rfl ndF_hearField_62 ?_
            refine fd_go_i (wr := [(a0, .inr (2, [.ref a1, .ref a3, .ref a6, .ref a8, .int cf])), (a1, .inr (0, [.ref a2, .int (nI n)])), (a2, .inl (cI, 400, .inl f)), (a6, .inr (0, [.ref a7, .int (nI wn)])), (a7, .inl (cI, 123, .inl wf)), (a8, .inr (1, [.ref a9, .ref a10, .int (nI od), .int (nI ok)])), (a9, .inl (cI, 20, .inl os)), (a10, .inl (cL, 20, .inr (.inl on)))]) (w2 := [(a0, .inr (2, [.ref a1, .ref a3, .ref a6, .ref a8, .int cf])), (a1, .inr (0, [.ref a2, .int (nI n)])), (a2, .inl (cI, 400, .inl f)), (a3, .inr (1, [.ref a4, .ref a5, .int (nI kd), .int (nI k)])), (a4, .inl (cI, 20, .inl fs)), (a5, .inl (cL, 20, .inr (.inl fn))), (a6, .inr (0, [.ref a7, .int (nI wn)])), (a7, .inl (cI, 123, .inl wf)), (a8, .inr (1, [.ref a9, .ref a10, .int (nI od), .int (nI ok)])), (a9, .inl (cI, 20, .inl os)), (a10, .inl (cL, 20, .inr (.inl on)))]) (va_runV (As := []) (rest := []) ⟨hx, hb, hml, hown, hts⟩ (kM_mustBeZero l D Z cI cL (kd := kd) (n := k) (fs := fs) (fn := fn) (by omega) (by omega) H.size) (cwV 0 hts (fd_gV tb_166 tb_167 tb_168 tb_15 tb_169) rfl rfl rfl nhM_mustBeZero ⟨(Nat.le_of_ble_eq_true rfl), (Nat.le_of_ble_eq_true rfl)⟩) (fd_PreV hE hK hEV hA hP hD hS [3, 4, 5] rfl (by decide) (ci := 1) (q0 := 3) rfl rfl) rfl rfl hl.1 rfl (lv_room (Nat.le_of_ble_eq_true rfl)) ndF_hearField_65 ⟨(Nat.le_of_ble_eq_true rfl), (Nat.le_of_ble_eq_true rfl)⟩) hP hD hS hA [3, 4, 5] [0, 1, 2, 6, 7, 8, 9, 10] rfl rfl (by decide) (by decide) [0, 1, 2, 8, 9, 10, 3, 4, 5, 6, 7] rfl (by decide) (fun H locs hP hD hS => ?_)
            refine lv_if_eq (tgt := 74) hx hb ndF_hearField_68 (by decide) (fun c_68 => ?_) (fun c_68 => ?_)
            · refine lv_lload hx hb ndF_hearField_74 (lv_at hl 5 rfl) ?_
              refine lv_iload hx hb ndF_hearField_76 (lv_at hl 4 rfl) ?_
              refine lv_i2l hx hb ndF_hearField_78 rfl ?_
              refine lv_lmul hx hb ndF_hearField_79 ?_
              refine lv_iload hx hb ndF_hearField_80 (lv_at hl 0 rfl) ?_
              refine lv_i2l hx hb ndF_hearField_82 rfl ?_
              refine lv_ladd hx hb ndF_hearField_83 ?_
              refine lv_lstore (lv' := [(5, .long ((acc * ((fd_bI (fd_due kd k fn)).toInt64)) + ((fd_vis (fd_due kd k fn) (fd_at n f (nI q1))).toInt64))), (8, .int (fd_vis (fd_due kd k fn) (fd_at n f (nI q1)))), (0, .ref a0), (2, .int (nI (p1 + w))), (3, .int (fd_due kd k fn)), (4, .int (fd_bI (fd_due kd k fn))), (7, .int (nI q1))]) hx hb ndF_hearField_84 hl (by decide) rfl (fun ls hl => ?_)
              refine lv_iinc (v := nI (q1 + 1)) (lv' := [(7, .int (nI (q1 + 1))), (5, .long ((acc * ((fd_bI (fd_due kd k fn)).toInt64)) + ((fd_vis (fd_due kd k fn) (fd_at n f (nI q1))).toInt64))), (8, .int (fd_vis (fd_due kd k fn) (fd_at n f (nI q1)))), (0, .ref a0), (2, .int (nI (p1 + w))), (3, .int (fd_due kd k fn)), (4, .int (fd_bI (fd_due kd k fn)))]) hx hb ndF_hearField_86 hl (k := 6) rfl (nI_1 q1) (by decide) rfl (fun ls hl => ?_)
              refine lv_goto (tgt := 30) hx hb ndF_hearField_89 (by decide) ?_
              exact ih (q1 + 1) _ (by omega) (by rw [fd_hf, if_neg c_53, if_neg c_58, if_pos c_68] at hh; exact hh) _ _ _ hP hD hS (lv_sub hl [3, 4, 5, 6, 1, 0] rfl)
            · refine lv_iload hx hb ndF_hearField_71 (lv_at hl 6 rfl) ?_
              exact fd_ret_i hx hb hr hlocks hS hP hD rfl (by rw [fd_hf, if_neg c_53, if_neg c_58, if_neg c_68] at hh; exact (Prod.mk.inj hh).1) ndF_hearField_73
    exact loop w p1 0 rfl hr9 _ _ _ hP hD hS (lv_sub hl [4, 6, 3, 2, 1, 0] rfl)
  · refine lv_bipush (v := 36) hx hb ndF_hearField_15 (by decide) ?_
    refine fd_asi (y := fd_bI (fd_due kd k fn)) (by rw [fd_bI, if_neg c_12]) ?_
    refine lv_goto (tgt := 22) hx hb ndF_hearField_17 (by decide) ?_
    refine lv_istore (lv' := [(4, .int (fd_bI (fd_due kd k fn))), (3, .int (fd_due kd k fn)), (0, .ref a0), (1, .int (nI p1)), (2, .int (nI (p1 + w)))]) hx hb ndF_hearField_22 hl (by decide) rfl (fun ls hl => ?_)
    refine lv_lconst (v := 0) hx hb ndF_hearField_24 (by decide) ?_
    refine lv_lstore (lv' := [(5, .long 0), (4, .int (fd_bI (fd_due kd k fn))), (3, .int (fd_due kd k fn)), (0, .ref a0), (1, .int (nI p1)), (2, .int (nI (p1 + w)))]) hx hb ndF_hearField_25 hl (by decide) rfl (fun ls hl => ?_)
    refine lv_iload_n hx hb ndF_hearField_27 rfl (lv_at hl 4 rfl) ?_
    refine lv_istore (lv' := [(7, .int (nI p1)), (5, .long 0), (4, .int (fd_bI (fd_due kd k fn))), (3, .int (fd_due kd k fn)), (0, .ref a0), (1, .int (nI p1)), (2, .int (nI (p1 + w)))]) hx hb ndF_hearField_28 hl (by decide) rfl (fun ls hl => ?_)
    have loop : ∀ (z : Nat) (q1 : Nat) (acc : Int64) (hq : q1 + z = p1 + w) (hh : fd_hf (fd_due kd k fn) (fd_mz kd k fn) f n z q1 acc = (r, x)) (H : Heap) (locs : List Loc) (ls : Array Slot), va_P D fd_cl [(a0, .inr (2, [.ref a1, .ref a3, .ref a6, .ref a8, .int cf])), (a1, .inr (0, [.ref a2, .int (nI n)])), (a2, .inl (cI, 400, .inl f)), (a3, .inr (1, [.ref a4, .ref a5, .int (nI kd), .int (nI k)])), (a4, .inl (cI, 20, .inl fs)), (a5, .inl (cL, 20, .inr (.inl fn))), (a6, .inr (0, [.ref a7, .int (nI wn)])), (a7, .inl (cI, 123, .inl wf)), (a8, .inr (1, [.ref a9, .ref a10, .int (nI od), .int (nI ok)])), (a9, .inl (cI, 20, .inl os)), (a10, .inl (cL, 20, .inr (.inl on)))] H → va_D A [(a0, .inr (2, [.ref a1, .ref a3, .ref a6, .ref a8, .int cf])), (a1, .inr (0, [.ref a2, .int (nI n)])), (a2, .inl (cI, 400, .inl f)), (a3, .inr (1, [.ref a4, .ref a5, .int (nI kd), .int (nI k)])), (a4, .inl (cI, 20, .inl fs)), (a5, .inl (cL, 20, .inr (.inl fn))), (a6, .inr (0, [.ref a7, .int (nI wn)])), (a7, .inl (cI, 123, .inl wf)), (a8, .inr (1, [.ref a9, .ref a10, .int (nI od), .int (nI ok)])), (a9, .inl (cI, 20, .inl os)), (a10, .inl (cL, 20, .inr (.inl on)))] → va_S A s.heap H locs → lv_has ls 9 [(0, .ref a0), (2, .int (nI (p1 + w))), (3, .int (fd_due kd k fn)), (4, .int (fd_bI (fd_due kd k fn))), (5, .long acc), (7, .int (nI q1))] → W p l e nmF_hearField s m ([.ref a0, .int (nI p1), .int (nI (p1 + w))].toArray) below meth c H locs 0 0 (MQ below (va_Qi (fun r' (_ : Unit) => r' = r) (fd_B D fd_cl A [(a0, .inr (2, [.ref a1, .ref a3, .ref a6, .ref a8, .int cf])), (a1, .inr (0, [.ref a2, .int (nI n)])), (a2, .inl (cI, 400, .inl f)), (a3, .inr (1, [.ref a4, .ref a5, .int (nI kd), .int (nI k)])), (a4, .inl (cI, 20, .inl fs)), (a5, .inl (cL, 20, .inr (.inl fn))), (a6, .inr (0, [.ref a7, .int (nI wn)])), (a7, .inl (cI, 123, .inl wf)), (a8, .inr (1, [.ref a9, .ref a10, .int (nI od), .int (nI ok)])), (a9, .inl (cI, 20, .inl os)), (a10, .inl (cL, 20, .inr (.inl on)))]) A) [.ref a0, .int (nI p1), .int (nI (p1 + w))].toArray s 0 0 A) (F0 m 30 ls []) := by
      intro z
      induction z with
      | zero =>
        intro q1 acc hq hh H locs ls hP hD hS hl
        exact absurd (Prod.mk.inj hh).1.symm hr2
      | succ z ih =>
        intro q1 acc hq hh H locs ls hP hD hS hl
        refine lv_iload hx hb ndF_hearField_30 (lv_at hl 5 rfl) ?_
        refine lv_iload_n hx hb ndF_hearField_32 rfl (lv_at hl 1 rfl) ?_
        refine lv_icmp_ge (tgt := 92) hx hb ndF_hearField_33 (by decide) (fun c_33 => absurd c_33 (fun h9 => absurd ((nI_leI (a := (p1 + w)) (b := q1) (by omega) (by omega)).mp h9) (by omega))) (fun _ => ?_)
        refine lv_iload_n hx hb ndF_hearField_36 rfl (lv_at hl 2 rfl) ?_
        refine lv_aload_n hx hb ndF_hearField_37 rfl (lv_at hl 0 rfl) ?_
        refine va_get (D := D) (ci := 2) (v := .ref a1) (C := nR_F) (T := nT_F) (N := 5) hx hb hts in_F hown hK hP 0 rfl rfl 0 (by decide) (hts _ tb_53) (fun _ h9 => h9) rfl ndF_hearField_38 ?_
        refine lv_iload hx hb ndF_hearField_41 (lv_at hl 5 rfl) ?_
        refine fd_go_i (wr := [(a0, .inr (2, [.ref a1, .ref a3, .ref a6, .ref a8, .int cf])), (a3, .inr (1, [.ref a4, .ref a5, .int (nI kd), .int (nI k)])), (a4, .inl (cI, 20, .inl fs)), (a5, .inl (cL, 20, .inr (.inl fn))), (a6, .inr (0, [.ref a7, .int (nI wn)])), (a7, .inl (cI, 123, .inl wf)), (a8, .inr (1, [.ref a9, .ref a10, .int (nI od), .int (nI ok)])), (a9, .inl (cI, 20, .inl os)), (a10, .inl (cL, 20, .inr (.inl on)))]) (w2 := [(a0, .inr (2, [.ref a1, .ref a3, .ref a6, .ref a8, .int cf])), (a1, .inr (0, [.ref a2, .int (nI n)])), (a2, .inl (cI, 400, .inl f)), (a3, .inr (1, [.ref a4, .ref a5, .int (nI kd), .int (nI k)])), (a4, .inl (cI, 20, .inl fs)), (a5, .inl (cL, 20, .inr (.inl fn))), (a6, .inr (0, [.ref a7, .int (nI wn)])), (a7, .inl (cI, 123, .inl wf)), (a8, .inr (1, [.ref a9, .ref a10, .int (nI od), .int (nI ok)])), (a9, .inl (cI, 20, .inl os)), (a10, .inl (cL, 20, .inr (.inl on)))]) (va_runV (As := [.int (nI q1)]) (rest := [.int (fd_due kd k fn)]) ⟨hx, hb, hml, hown, hts⟩ (kR_at l D Z cI cL (n := n) (f := f) (by omega) (by omega) (nI q1) H.size) (cwV 1 hts (fd_gV tb_91 tb_92 tb_93 tb_14 tb_94) rfl rfl rfl nhR_at ⟨(Nat.le_of_ble_eq_true rfl), (Nat.le_of_ble_eq_true rfl)⟩) (fd_PreV hE hK hEV hA hP hD hS [1, 2] rfl (by decide) (ci := 0) (q0 := 1) rfl rfl) rfl rfl hl.1 rfl (lv_room (Nat.le_of_ble_eq_true rfl)) ndF_hearField_43 ⟨(Nat.le_of_ble_eq_true rfl), (Nat.le_of_ble_eq_true rfl)⟩) hP hD hS hA [1, 2] [0, 3, 4, 5, 6, 7, 8, 9, 10] rfl rfl (by decide) (by decide) [0, 9, 10, 1, 2, 3, 4, 5, 6, 7, 8] rfl (by decide) (fun H locs hP hD hS => ?_)
        refine fd_go_i (wr := [(a0, .inr (2, [.ref a1, .ref a3, .ref a6, .ref a8, .int cf])), (a1, .inr (0, [.ref a2, .int (nI n)])), (a2, .inl (cI, 400, .inl f)), (a3, .inr (1, [.ref a4, .ref a5, .int (nI kd), .int (nI k)])), (a4, .inl (cI, 20, .inl fs)), (a5, .inl (cL, 20, .inr (.inl fn))), (a6, .inr (0, [.ref a7, .int (nI wn)])), (a7, .inl (cI, 123, .inl wf)), (a8, .inr (1, [.ref a9, .ref a10, .int (nI od), .int (nI ok)])), (a9, .inl (cI, 20, .inl os)), (a10, .inl (cL, 20, .inr (.inl on)))]) (w2 := [(a0, .inr (2, [.ref a1, .ref a3, .ref a6, .ref a8, .int cf])), (a1, .inr (0, [.ref a2, .int (nI n)])), (a2, .inl (cI, 400, .inl f)), (a3, .inr (1, [.ref a4, .ref a5, .int (nI kd), .int (nI k)])), (a4, .inl (cI, 20, .inl fs)), (a5, .inl (cL, 20, .inr (.inl fn))), (a6, .inr (0, [.ref a7, .int (nI wn)])), (a7, .inl (cI, 123, .inl wf)), (a8, .inr (1, [.ref a9, .ref a10, .int (nI od), .int (nI ok)])), (a9, .inl (cI, 20, .inl os)), (a10, .inl (cL, 20, .inr (.inl on)))]) (va_runS (As := [.int (fd_due kd k fn), .int (fd_at n f (nI q1))]) (rest := []) ⟨hx, hb, hml, hown, hts⟩ (kF_valueInSort l D Z cI cL (fd_due kd k fn) (fd_at n f (nI q1)) H.size) (va_cwS 2 hts (fd_gS tb_152 tb_153 tb_13 tb_154) rfl rfl rfl nhF_valueInSort.2 ⟨(Nat.le_of_ble_eq_true rfl), (Nat.le_of_ble_eq_true rfl)⟩) (fd_PreS hE hK hEV hA hP hD hS [] rfl (by decide)) rfl rfl hl.1 rfl (lv_room (Nat.le_of_ble_eq_true rfl)) ndF_hearField_46 ⟨(Nat.le_of_ble_eq_true rfl), (Nat.le_of_ble_eq_true rfl)⟩) hP hD hS hA [] [0, 1, 2, 3, 4, 5, 6, 7, 8, 9, 10] rfl rfl (by decide) (by decide) [0, 1, 2, 3, 4, 5, 6, 7, 8, 9, 10] rfl (by decide) (fun H locs hP hD hS => ?_)
        refine lv_istore (lv' := [(8, .int (fd_vis (fd_due kd k fn) (fd_at n f (nI q1)))), (0, .ref a0), (2, .int (nI (p1 + w))), (3, .int (fd_due kd k fn)), (4, .int (fd_bI (fd_due kd k fn))), (5, .long acc), (7, .int (nI q1))]) hx hb ndF_hearField_49 hl (by decide) rfl (fun ls hl => ?_)
        refine lv_iload hx hb ndF_hearField_51 (lv_at hl 0 rfl) ?_
        refine lv_if_lt (tgt := 71) hx hb ndF_hearField_53 (by decide) (fun c_53 => ?_) (fun c_53 => ?_)
        · refine lv_iload hx hb ndF_hearField_71 (lv_at hl 6 rfl) ?_
          exact fd_ret_i hx hb hr hlocks hS hP hD rfl (by rw [fd_hf, if_pos c_53] at hh; exact (Prod.mk.inj hh).1) ndF_hearField_73
        · refine lv_iload hx hb ndF_hearField_56 (lv_at hl 0 rfl) ?_
          refine lv_if_le (tgt := 74) hx hb ndF_hearField_58 (by decide) (fun c_58 => ?_) (fun c_58 => ?_)
          · refine lv_lload hx hb ndF_hearField_74 (lv_at hl 5 rfl) ?_
            refine lv_iload hx hb ndF_hearField_76 (lv_at hl 4 rfl) ?_
            refine lv_i2l hx hb ndF_hearField_78 rfl ?_
            refine lv_lmul hx hb ndF_hearField_79 ?_
            refine lv_iload hx hb ndF_hearField_80 (lv_at hl 0 rfl) ?_
            refine lv_i2l hx hb ndF_hearField_82 rfl ?_
            refine lv_ladd hx hb ndF_hearField_83 ?_
            refine lv_lstore (lv' := [(5, .long ((acc * ((fd_bI (fd_due kd k fn)).toInt64)) + ((fd_vis (fd_due kd k fn) (fd_at n f (nI q1))).toInt64))), (8, .int (fd_vis (fd_due kd k fn) (fd_at n f (nI q1)))), (0, .ref a0), (2, .int (nI (p1 + w))), (3, .int (fd_due kd k fn)), (4, .int (fd_bI (fd_due kd k fn))), (7, .int (nI q1))]) hx hb ndF_hearField_84 hl (by decide) rfl (fun ls hl => ?_)
            refine lv_iinc (v := nI (q1 + 1)) (lv' := [(7, .int (nI (q1 + 1))), (5, .long ((acc * ((fd_bI (fd_due kd k fn)).toInt64)) + ((fd_vis (fd_due kd k fn) (fd_at n f (nI q1))).toInt64))), (8, .int (fd_vis (fd_due kd k fn) (fd_at n f (nI q1)))), (0, .ref a0), (2, .int (nI (p1 + w))), (3, .int (fd_due kd k fn)), (4, .int (fd_bI (fd_due kd k fn)))]) hx hb ndF_hearField_86 hl (k := 6) rfl (nI_1 q1) (by decide) rfl (fun ls hl => ?_)
            refine lv_goto (tgt := 30) hx hb ndF_hearField_89 (by decide) ?_
            exact ih (q1 + 1) _ (by omega) (by rw [fd_hf, if_neg c_53, if_pos c_58] at hh; exact hh) _ _ _ hP hD hS (lv_sub hl [3, 4, 5, 6, 1, 0] rfl)
          · refine lv_aload_n hx hb ndF_hearField_61 rfl (lv_at hl 1 rfl) ?_
            refine va_get (D := D) (ci := 2) (v := .ref a3) (C := nR_F) (T := nT_F) (N := 5) hx hb hts in_F hown hK hP 0 rfl rfl 1 (by decide) (hts _ tb_54) (fun _ h9 => h9) rfl ndF_hearField_62 ?_
            refine fd_go_i (wr := [(a0, .inr (2, [.ref a1, .ref a3, .ref a6, .ref a8, .int cf])), (a1, .inr (0, [.ref a2, .int (nI n)])), (a2, .inl (cI, 400, .inl f)), (a6, .inr (0, [.ref a7, .int (nI wn)])), (a7, .inl (cI, 123, .inl wf)), (a8, .inr (1, [.ref a9, .ref a10, .int (nI od), .int (nI ok)])), (a9, .inl (cI, 20, .inl os)), (a10, .inl (cL, 20, .inr (.inl on)))]) (w2 := [(a0, .inr (2, [.ref a1, .ref a3, .ref a6, .ref a8, .int cf])), (a1, .inr (0, [.ref a2, .int (nI n)])), (a2, .inl (cI, 400, .inl f)), (a3, .inr (1, [.ref a4, .ref a5, .int (nI kd), .int (nI k)])), (a4, .inl (cI, 20, .inl fs)), (a5, .inl (cL, 20, .inr (.inl fn))), (a6, .inr (0, [.ref a7, .int (nI wn)])), (a7, .inl (cI, 123, .inl wf)), (a8, .inr (1, [.ref a9, .ref a10, .int (nI od), .int (nI ok)])), (a9, .inl (cI, 20, .inl os)), (a10, .inl (cL, 20, .inr (.inl on)))]) (va_runV (As := []) (rest := []) ⟨hx, hb, hml, hown, hts⟩ (kM_mustBeZero l D Z cI cL (kd := kd) (n := k) (fs := fs) (fn := fn) (by omega) (by omega) H.size) (cwV 0 hts (fd_gV tb_166 tb_167 tb_168 tb_15 tb_169) rfl rfl rfl nhM_mustBeZero ⟨(Nat.le_of_ble_eq_true rfl), (Nat.le_of_ble_eq_true rfl)⟩) (fd_PreV hE hK hEV hA hP hD hS [3, 4, 5] rfl (by decide) (ci := 1) (q0 := 3) rfl rfl) rfl rfl hl.1 rfl (lv_room (Nat.le_of_ble_eq_true rfl)) ndF_hearField_65 ⟨(Nat.le_of_ble_eq_true rfl), (Nat.le_of_ble_eq_true rfl)⟩) hP hD hS hA [3, 4, 5] [0, 1, 2, 6, 7, 8, 9, 10] rfl rfl (by decide) (by decide) [0, 1, 2, 8, 9, 10, 3, 4, 5, 6, 7] rfl (by decide) (fun H locs hP hD hS => ?_)
            refine lv_if_eq (tgt := 74) hx hb ndF_hearField_68 (by decide) (fun c_68 => ?_) (fun c_68 => ?_)
            · refine lv_lload hx hb ndF_hearField_74 (lv_at hl 5 rfl) ?_
              refine lv_iload hx hb ndF_hearField_76 (lv_at hl 4 rfl) ?_
              refine lv_i2l hx hb ndF_hearField_78 rfl ?_
              refine lv_lmul hx hb ndF_hearField_79 ?_
              refine lv_iload hx hb ndF_hearField_80 (lv_at hl 0 rfl) ?_
              refine lv_i2l hx hb ndF_hearField_82 rfl ?_
              refine lv_ladd hx hb ndF_hearField_83 ?_
              refine lv_lstore (lv' := [(5, .long ((acc * ((fd_bI (fd_due kd k fn)).toInt64)) + ((fd_vis (fd_due kd k fn) (fd_at n f (nI q1))).toInt64))), (8, .int (fd_vis (fd_due kd k fn) (fd_at n f (nI q1)))), (0, .ref a0), (2, .int (nI (p1 + w))), (3, .int (fd_due kd k fn)), (4, .int (fd_bI (fd_due kd k fn))), (7, .int (nI q1))]) hx hb ndF_hearField_84 hl (by decide) rfl (fun ls hl => ?_)
              refine lv_iinc (v := nI (q1 + 1)) (lv' := [(7, .int (nI (q1 + 1))), (5, .long ((acc * ((fd_bI (fd_due kd k fn)).toInt64)) + ((fd_vis (fd_due kd k fn) (fd_at n f (nI q1))).toInt64))), (8, .int (fd_vis (fd_due kd k fn) (fd_at n f (nI q1)))), (0, .ref a0), (2, .int (nI (p1 + w))), (3, .int (fd_due kd k fn)), (4, .int (fd_bI (fd_due kd k fn)))]) hx hb ndF_hearField_86 hl (k := 6) rfl (nI_1 q1) (by decide) rfl (fun ls hl => ?_)
              refine lv_goto (tgt := 30) hx hb ndF_hearField_89 (by decide) ?_
              exact ih (q1 + 1) _ (by omega) (by rw [fd_hf, if_neg c_53, if_neg c_58, if_pos c_68] at hh; exact hh) _ _ _ hP hD hS (lv_sub hl [3, 4, 5, 6, 1, 0] rfl)
            · refine lv_iload hx hb ndF_hearField_71 (lv_at hl 6 rfl) ?_
              exact fd_ret_i hx hb hr hlocks hS hP hD rfl (by rw [fd_hf, if_neg c_53, if_neg c_58, if_neg c_68] at hh; exact (Prod.mk.inj hh).1) ndF_hearField_73
    exact loop w p1 0 rfl hr9 _ _ _ hP hD hS (lv_sub hl [4, 6, 3, 2, 1, 0] rfl)
set_option maxHeartbeats 4000000 in
set_option maxRecDepth 100000 in
theorem kF_hearCheckDigits (l : Launch) (D : va_G) (Z : Nat → Nat) (cI cL : ClassId) {a0 a1 a2 a3 a4 a5 a6 a7 a8 a9 a10 n kd k wn od ok : Nat} {f fs wf os : Nat → Int32} {fn on : Nat → Int64} {cf : Int32} (hn : n ≤ 400) (hkd : kd ≤ 15) (hk : k ≤ 20) (hwn : wn ≤ 123) (hod : od ≤ 15) (hok : ok ≤ 20) {p1 : Nat} (hp : p1 < 2 ^ 30) : fd_Mi l D fd_cl (fd_ty cI cL) (fd_EV Z) nyF_hearCheckDigits (.code nyF_hearCheckDigits ncF_hearCheckDigits 3 (some .int) :: fd_TB) nmF_hearCheckDigits [.ref a0, .int (nI p1)] [(a0, .inr (2, [.ref a1, .ref a3, .ref a6, .ref a8, .int cf])), (a1, .inr (0, [.ref a2, .int (nI n)])), (a2, .inl (cI, 400, .inl f)), (a3, .inr (1, [.ref a4, .ref a5, .int (nI kd), .int (nI k)])), (a4, .inl (cI, 20, .inl fs)), (a5, .inl (cL, 20, .inr (.inl fn))), (a6, .inr (0, [.ref a7, .int (nI wn)])), (a7, .inl (cI, 123, .inl wf)), (a8, .inr (1, [.ref a9, .ref a10, .int (nI od), .int (nI ok)])), (a9, .inl (cI, 20, .inl os)), (a10, .inl (cL, 20, .inr (.inl on)))] [(a0, .inr (2, [.ref a1, .ref a3, .ref a6, .ref a8, .int cf])), (a1, .inr (0, [.ref a2, .int (nI n)])), (a2, .inl (cI, 400, .inl f)), (a3, .inr (1, [.ref a4, .ref a5, .int (nI kd), .int (nI k)])), (a4, .inl (cI, 20, .inl fs)), (a5, .inl (cL, 20, .inr (.inl fn))), (a6, .inr (0, [.ref a7, .int (nI wn)])), (a7, .inl (cI, 123, .inl wf)), (a8, .inr (1, [.ref a9, .ref a10, .int (nI od), .int (nI ok)])), (a9, .inl (cI, 20, .inl os)), (a10, .inl (cL, 20, .inr (.inl on)))] (fd_cd f n p1) := by
  refine fd_open_i (cc := ncF_hearCheckDigits) (maxL := 3) (ret := (some .int)) (by decide) rfl (Nat.le_of_ble_eq_true rfl) ?_
  intro p e s m below meth c A ls X hP hD hS hl
  obtain ⟨hx, hb, hr, hml, hown, hts0, hlocks, hK, hEV, hA⟩ := X
  have hts : ∀ w ∈ fd_TB, w.before _ s = true := fun w h => hts0 w (List.mem_cons_of_mem _ h)
  have hE := fd_EV_ok Z
  have hown : s.vm.findClass "FieldDesk" = some m.cls := hown
  have hl : lv_has ls 3 [(0, .ref a0), (1, .int (nI p1))] := hl
  refine lv_iload_n hx hb ndF_hearCheckDigits_0 rfl (lv_at hl 1 rfl) ?_
  refine lv_istore_n (lv' := [(2, .int (nI p1)), (0, .ref a0), (1, .int (nI p1))]) hx hb ndF_hearCheckDigits_1 rfl hl (by decide) rfl (fun ls hl => ?_)
  refine lv_iload_n hx hb ndF_hearCheckDigits_2 rfl (lv_at hl 0 rfl) ?_
  refine lv_iload_n hx hb ndF_hearCheckDigits_3 rfl (lv_at hl 2 rfl) ?_
  refine lv_iconst (v := 2) hx hb ndF_hearCheckDigits_4 (by decide) ?_
  refine lv_iadd hx hb ndF_hearCheckDigits_5 ?_
  refine fd_asi (y := nI (p1 + 2)) (nI_add p1 2) ?_
  refine lv_icmp_ge (tgt := 31) hx hb ndF_hearCheckDigits_6 (by decide) (fun c_6 => absurd c_6 (fun h9 => absurd ((nI_leI (a := (p1 + 2)) (b := p1) (by omega) (by omega)).mp h9) (by omega))) (fun _ => ?_)
  refine lv_aload_n hx hb ndF_hearCheckDigits_9 rfl (lv_at hl 1 rfl) ?_
  refine va_get (D := D) (ci := 2) (v := .ref a1) (C := nR_F) (T := nT_F) (N := 5) hx hb hts in_F hown hK hP 0 rfl rfl 0 (by decide) (hts _ tb_53) (fun _ h9 => h9) rfl ndF_hearCheckDigits_10 ?_
  refine lv_iload_n hx hb ndF_hearCheckDigits_13 rfl (lv_at hl 0 rfl) ?_
  refine fd_go_i (wr := [(a0, .inr (2, [.ref a1, .ref a3, .ref a6, .ref a8, .int cf])), (a3, .inr (1, [.ref a4, .ref a5, .int (nI kd), .int (nI k)])), (a4, .inl (cI, 20, .inl fs)), (a5, .inl (cL, 20, .inr (.inl fn))), (a6, .inr (0, [.ref a7, .int (nI wn)])), (a7, .inl (cI, 123, .inl wf)), (a8, .inr (1, [.ref a9, .ref a10, .int (nI od), .int (nI ok)])), (a9, .inl (cI, 20, .inl os)), (a10, .inl (cL, 20, .inr (.inl on)))]) (w2 := [(a0, .inr (2, [.ref a1, .ref a3, .ref a6, .ref a8, .int cf])), (a1, .inr (0, [.ref a2, .int (nI n)])), (a2, .inl (cI, 400, .inl f)), (a3, .inr (1, [.ref a4, .ref a5, .int (nI kd), .int (nI k)])), (a4, .inl (cI, 20, .inl fs)), (a5, .inl (cL, 20, .inr (.inl fn))), (a6, .inr (0, [.ref a7, .int (nI wn)])), (a7, .inl (cI, 123, .inl wf)), (a8, .inr (1, [.ref a9, .ref a10, .int (nI od), .int (nI ok)])), (a9, .inl (cI, 20, .inl os)), (a10, .inl (cL, 20, .inr (.inl on)))]) (va_runV (As := [.int (nI p1)]) (rest := []) ⟨hx, hb, hml, hown, hts⟩ (kR_at l D Z cI cL (n := n) (f := f) (by omega) (by omega) (nI p1) s.heap.size) (cwV 1 hts (fd_gV tb_91 tb_92 tb_93 tb_14 tb_94) rfl rfl rfl nhR_at ⟨(Nat.le_of_ble_eq_true rfl), (Nat.le_of_ble_eq_true rfl)⟩) (fd_PreV hE hK hEV hA hP hD hS [1, 2] rfl (by decide) (ci := 0) (q0 := 1) rfl rfl) rfl rfl hl.1 rfl (lv_room (Nat.le_of_ble_eq_true rfl)) ndF_hearCheckDigits_14 ⟨(Nat.le_of_ble_eq_true rfl), (Nat.le_of_ble_eq_true rfl)⟩) hP hD hS hA [1, 2] [0, 3, 4, 5, 6, 7, 8, 9, 10] rfl rfl (by decide) (by decide) [0, 9, 10, 1, 2, 3, 4, 5, 6, 7, 8] rfl (by decide) (fun H locs hP hD hS => ?_)
  refine fd_go_i (wr := [(a0, .inr (2, [.ref a1, .ref a3, .ref a6, .ref a8, .int cf])), (a1, .inr (0, [.ref a2, .int (nI n)])), (a2, .inl (cI, 400, .inl f)), (a3, .inr (1, [.ref a4, .ref a5, .int (nI kd), .int (nI k)])), (a4, .inl (cI, 20, .inl fs)), (a5, .inl (cL, 20, .inr (.inl fn))), (a6, .inr (0, [.ref a7, .int (nI wn)])), (a7, .inl (cI, 123, .inl wf)), (a8, .inr (1, [.ref a9, .ref a10, .int (nI od), .int (nI ok)])), (a9, .inl (cI, 20, .inl os)), (a10, .inl (cL, 20, .inr (.inl on)))]) (w2 := [(a0, .inr (2, [.ref a1, .ref a3, .ref a6, .ref a8, .int cf])), (a1, .inr (0, [.ref a2, .int (nI n)])), (a2, .inl (cI, 400, .inl f)), (a3, .inr (1, [.ref a4, .ref a5, .int (nI kd), .int (nI k)])), (a4, .inl (cI, 20, .inl fs)), (a5, .inl (cL, 20, .inr (.inl fn))), (a6, .inr (0, [.ref a7, .int (nI wn)])), (a7, .inl (cI, 123, .inl wf)), (a8, .inr (1, [.ref a9, .ref a10, .int (nI od), .int (nI ok)])), (a9, .inl (cI, 20, .inl os)), (a10, .inl (cL, 20, .inr (.inl on)))]) (va_runS (As := [.int (fd_at n f (nI p1))]) (rest := []) ⟨hx, hb, hml, hown, hts⟩ (kF_isDigit l D Z cI cL (fd_at n f (nI p1)) H.size) (va_cwS 1 hts (fd_gS tb_161 tb_162 tb_13 tb_163) rfl rfl rfl nhF_isDigit.2 ⟨(Nat.le_of_ble_eq_true rfl), (Nat.le_of_ble_eq_true rfl)⟩) (fd_PreS hE hK hEV hA hP hD hS [] rfl (by decide)) rfl rfl hl.1 rfl (lv_room (Nat.le_of_ble_eq_true rfl)) ndF_hearCheckDigits_17 ⟨(Nat.le_of_ble_eq_true rfl), (Nat.le_of_ble_eq_true rfl)⟩) hP hD hS hA [] [0, 1, 2, 3, 4, 5, 6, 7, 8, 9, 10] rfl rfl (by decide) (by decide) [0, 1, 2, 3, 4, 5, 6, 7, 8, 9, 10] rfl (by decide) (fun H locs hP hD hS => ?_)
  refine lv_if_ne (tgt := 25) hx hb ndF_hearCheckDigits_20 (by decide) (fun c_20 => ?_) (fun c_20 => ?_)
  · refine lv_iinc (v := nI (p1 + 1)) (lv' := [(2, .int (nI (p1 + 1))), (0, .ref a0), (1, .int (nI p1))]) hx hb ndF_hearCheckDigits_25 hl (k := 0) rfl (nI_1 p1) (by decide) rfl (fun ls hl => ?_)
    refine lv_goto (tgt := 2) hx hb ndF_hearCheckDigits_28 (by decide) ?_
    have d_1 := c_20
    refine lv_iload_n hx hb ndF_hearCheckDigits_2 rfl (lv_at hl 0 rfl) ?_
    refine lv_iload_n hx hb ndF_hearCheckDigits_3 rfl (lv_at hl 2 rfl) ?_
    refine lv_iconst (v := 2) hx hb ndF_hearCheckDigits_4 (by decide) ?_
    refine lv_iadd hx hb ndF_hearCheckDigits_5 ?_
    refine fd_asi (y := nI (p1 + 2)) (nI_add p1 2) ?_
    refine lv_icmp_ge (tgt := 31) hx hb ndF_hearCheckDigits_6 (by decide) (fun c_6 => absurd c_6 (fun h9 => absurd ((nI_leI (a := (p1 + 2)) (b := (p1 + 1)) (by omega) (by omega)).mp h9) (by omega))) (fun _ => ?_)
    refine lv_aload_n hx hb ndF_hearCheckDigits_9 rfl (lv_at hl 1 rfl) ?_
    refine va_get (D := D) (ci := 2) (v := .ref a1) (C := nR_F) (T := nT_F) (N := 5) hx hb hts in_F hown hK hP 0 rfl rfl 0 (by decide) (hts _ tb_53) (fun _ h9 => h9) rfl ndF_hearCheckDigits_10 ?_
    refine lv_iload_n hx hb ndF_hearCheckDigits_13 rfl (lv_at hl 0 rfl) ?_
    refine fd_go_i (wr := [(a0, .inr (2, [.ref a1, .ref a3, .ref a6, .ref a8, .int cf])), (a3, .inr (1, [.ref a4, .ref a5, .int (nI kd), .int (nI k)])), (a4, .inl (cI, 20, .inl fs)), (a5, .inl (cL, 20, .inr (.inl fn))), (a6, .inr (0, [.ref a7, .int (nI wn)])), (a7, .inl (cI, 123, .inl wf)), (a8, .inr (1, [.ref a9, .ref a10, .int (nI od), .int (nI ok)])), (a9, .inl (cI, 20, .inl os)), (a10, .inl (cL, 20, .inr (.inl on)))]) (w2 := [(a0, .inr (2, [.ref a1, .ref a3, .ref a6, .ref a8, .int cf])), (a1, .inr (0, [.ref a2, .int (nI n)])), (a2, .inl (cI, 400, .inl f)), (a3, .inr (1, [.ref a4, .ref a5, .int (nI kd), .int (nI k)])), (a4, .inl (cI, 20, .inl fs)), (a5, .inl (cL, 20, .inr (.inl fn))), (a6, .inr (0, [.ref a7, .int (nI wn)])), (a7, .inl (cI, 123, .inl wf)), (a8, .inr (1, [.ref a9, .ref a10, .int (nI od), .int (nI ok)])), (a9, .inl (cI, 20, .inl os)), (a10, .inl (cL, 20, .inr (.inl on)))]) (va_runV (As := [.int (nI (p1 + 1))]) (rest := []) ⟨hx, hb, hml, hown, hts⟩ (kR_at l D Z cI cL (n := n) (f := f) (by omega) (by omega) (nI (p1 + 1)) H.size) (cwV 1 hts (fd_gV tb_91 tb_92 tb_93 tb_14 tb_94) rfl rfl rfl nhR_at ⟨(Nat.le_of_ble_eq_true rfl), (Nat.le_of_ble_eq_true rfl)⟩) (fd_PreV hE hK hEV hA hP hD hS [1, 2] rfl (by decide) (ci := 0) (q0 := 1) rfl rfl) rfl rfl hl.1 rfl (lv_room (Nat.le_of_ble_eq_true rfl)) ndF_hearCheckDigits_14 ⟨(Nat.le_of_ble_eq_true rfl), (Nat.le_of_ble_eq_true rfl)⟩) hP hD hS hA [1, 2] [0, 3, 4, 5, 6, 7, 8, 9, 10] rfl rfl (by decide) (by decide) [0, 9, 10, 1, 2, 3, 4, 5, 6, 7, 8] rfl (by decide) (fun H locs hP hD hS => ?_)
    refine fd_go_i (wr := [(a0, .inr (2, [.ref a1, .ref a3, .ref a6, .ref a8, .int cf])), (a1, .inr (0, [.ref a2, .int (nI n)])), (a2, .inl (cI, 400, .inl f)), (a3, .inr (1, [.ref a4, .ref a5, .int (nI kd), .int (nI k)])), (a4, .inl (cI, 20, .inl fs)), (a5, .inl (cL, 20, .inr (.inl fn))), (a6, .inr (0, [.ref a7, .int (nI wn)])), (a7, .inl (cI, 123, .inl wf)), (a8, .inr (1, [.ref a9, .ref a10, .int (nI od), .int (nI ok)])), (a9, .inl (cI, 20, .inl os)), (a10, .inl (cL, 20, .inr (.inl on)))]) (w2 := [(a0, .inr (2, [.ref a1, .ref a3, .ref a6, .ref a8, .int cf])), (a1, .inr (0, [.ref a2, .int (nI n)])), (a2, .inl (cI, 400, .inl f)), (a3, .inr (1, [.ref a4, .ref a5, .int (nI kd), .int (nI k)])), (a4, .inl (cI, 20, .inl fs)), (a5, .inl (cL, 20, .inr (.inl fn))), (a6, .inr (0, [.ref a7, .int (nI wn)])), (a7, .inl (cI, 123, .inl wf)), (a8, .inr (1, [.ref a9, .ref a10, .int (nI od), .int (nI ok)])), (a9, .inl (cI, 20, .inl os)), (a10, .inl (cL, 20, .inr (.inl on)))]) (va_runS (As := [.int (fd_at n f (nI (p1 + 1)))]) (rest := []) ⟨hx, hb, hml, hown, hts⟩ (kF_isDigit l D Z cI cL (fd_at n f (nI (p1 + 1))) H.size) (va_cwS 1 hts (fd_gS tb_161 tb_162 tb_13 tb_163) rfl rfl rfl nhF_isDigit.2 ⟨(Nat.le_of_ble_eq_true rfl), (Nat.le_of_ble_eq_true rfl)⟩) (fd_PreS hE hK hEV hA hP hD hS [] rfl (by decide)) rfl rfl hl.1 rfl (lv_room (Nat.le_of_ble_eq_true rfl)) ndF_hearCheckDigits_17 ⟨(Nat.le_of_ble_eq_true rfl), (Nat.le_of_ble_eq_true rfl)⟩) hP hD hS hA [] [0, 1, 2, 3, 4, 5, 6, 7, 8, 9, 10] rfl rfl (by decide) (by decide) [0, 1, 2, 3, 4, 5, 6, 7, 8, 9, 10] rfl (by decide) (fun H locs hP hD hS => ?_)
    refine lv_if_ne (tgt := 25) hx hb ndF_hearCheckDigits_20 (by decide) (fun c_20 => ?_) (fun c_20 => ?_)
    · refine lv_iinc (v := nI (((p1 + 1)) + 1)) (lv' := [(2, .int (nI (((p1 + 1)) + 1))), (0, .ref a0), (1, .int (nI p1))]) hx hb ndF_hearCheckDigits_25 hl (k := 0) rfl (nI_1 ((p1 + 1))) (by decide) rfl (fun ls hl => ?_)
      refine lv_goto (tgt := 2) hx hb ndF_hearCheckDigits_28 (by decide) ?_
      have d_2 := c_20
      refine lv_iload_n hx hb ndF_hearCheckDigits_2 rfl (lv_at hl 0 rfl) ?_
      refine lv_iload_n hx hb ndF_hearCheckDigits_3 rfl (lv_at hl 2 rfl) ?_
      refine lv_iconst (v := 2) hx hb ndF_hearCheckDigits_4 (by decide) ?_
      refine lv_iadd hx hb ndF_hearCheckDigits_5 ?_
      refine fd_asi (y := nI (p1 + 2)) (nI_add p1 2) ?_
      refine lv_icmp_ge (tgt := 31) hx hb ndF_hearCheckDigits_6 (by decide) (fun _ => ?_) (fun c_6 => absurd ((nI_leI (a := (p1 + 2)) (b := (((p1 + 1)) + 1)) (by omega) (by omega)).mpr (by omega)) c_6)
      refine lv_aload_n hx hb ndF_hearCheckDigits_31 rfl (lv_at hl 1 rfl) ?_
      refine va_get (D := D) (ci := 2) (v := .ref a1) (C := nR_F) (T := nT_F) (N := 5) hx hb hts in_F hown hK hP 0 rfl rfl 0 (by decide) (hts _ tb_53) (fun _ h9 => h9) rfl ndF_hearCheckDigits_32 ?_
      refine va_getN (D := D) (ci := 0) (v := .int (nI n)) (C := nR_R) (T := nT_R) (N := 2) hx hb hts in_R hown hK hP 1 rfl rfl 1 (by decide) (fd_nw hEV nb_0) (fun _ h9 => h9) rfl ndF_hearCheckDigits_35 ?_
      refine lv_iload_n hx hb ndF_hearCheckDigits_38 rfl (lv_at hl 2 rfl) ?_
      refine lv_iconst (v := 2) hx hb ndF_hearCheckDigits_39 (by decide) ?_
      refine lv_iadd hx hb ndF_hearCheckDigits_40 ?_
      refine fd_asi (y := nI (p1 + 2)) (nI_add p1 2) ?_
      refine lv_icmp_le (tgt := 48) hx hb ndF_hearCheckDigits_41 (by decide) (fun c_41 => ?_) (fun c_41 => ?_)
      · have n_41 := (nI_leI (a := n) (b := (p1 + 2)) (by omega) (by omega)).mp c_41
        refine lv_aload_n hx hb ndF_hearCheckDigits_48 rfl (lv_at hl 1 rfl) ?_
        refine va_get (D := D) (ci := 2) (v := .ref a1) (C := nR_F) (T := nT_F) (N := 5) hx hb hts in_F hown hK hP 0 rfl rfl 0 (by decide) (hts _ tb_53) (fun _ h9 => h9) rfl ndF_hearCheckDigits_49 ?_
        refine fd_go_i (wr := [(a0, .inr (2, [.ref a1, .ref a3, .ref a6, .ref a8, .int cf])), (a3, .inr (1, [.ref a4, .ref a5, .int (nI kd), .int (nI k)])), (a4, .inl (cI, 20, .inl fs)), (a5, .inl (cL, 20, .inr (.inl fn))), (a6, .inr (0, [.ref a7, .int (nI wn)])), (a7, .inl (cI, 123, .inl wf)), (a8, .inr (1, [.ref a9, .ref a10, .int (nI od), .int (nI ok)])), (a9, .inl (cI, 20, .inl os)), (a10, .inl (cL, 20, .inr (.inl on)))]) (w2 := [(a0, .inr (2, [.ref a1, .ref a3, .ref a6, .ref a8, .int cf])), (a1, .inr (0, [.ref a2, .int (nI n)])), (a2, .inl (cI, 400, .inl f)), (a3, .inr (1, [.ref a4, .ref a5, .int (nI kd), .int (nI k)])), (a4, .inl (cI, 20, .inl fs)), (a5, .inl (cL, 20, .inr (.inl fn))), (a6, .inr (0, [.ref a7, .int (nI wn)])), (a7, .inl (cI, 123, .inl wf)), (a8, .inr (1, [.ref a9, .ref a10, .int (nI od), .int (nI ok)])), (a9, .inl (cI, 20, .inl os)), (a10, .inl (cL, 20, .inr (.inl on)))]) (va_runV (As := []) (rest := []) ⟨hx, hb, hml, hown, hts⟩ (kR_remainder l D Z cI cL (n := n) (f := f) (by omega) (by omega) H.size) (cwV 0 hts (fd_gV tb_178 tb_179 tb_180 tb_14 tb_181) rfl rfl rfl nhR_remainder ⟨(Nat.le_of_ble_eq_true rfl), (Nat.le_of_ble_eq_true rfl)⟩) (fd_PreV hE hK hEV hA hP hD hS [1, 2] rfl (by decide) (ci := 0) (q0 := 1) rfl rfl) rfl rfl hl.1 rfl (lv_room (Nat.le_of_ble_eq_true rfl)) ndF_hearCheckDigits_52 ⟨(Nat.le_of_ble_eq_true rfl), (Nat.le_of_ble_eq_true rfl)⟩) hP hD hS hA [1, 2] [0, 3, 4, 5, 6, 7, 8, 9, 10] rfl rfl (by decide) (by decide) [0, 9, 10, 1, 2, 3, 4, 5, 6, 7, 8] rfl (by decide) (fun H locs hP hD hS => ?_)
        refine lv_iconst (v := 1) hx hb ndF_hearCheckDigits_55 (by decide) ?_
        refine lv_icmp_ne (tgt := 63) hx hb ndF_hearCheckDigits_56 (by decide) (fun c_56 => ?_) (fun c_56 => ?_)
        · refine lv_iload_n hx hb ndF_hearCheckDigits_63 rfl (lv_at hl 2 rfl) ?_
          exact fd_ret_i hx hb hr hlocks hS hP hD rfl (by rw [fd_cd, if_neg d_1, if_neg d_2, if_pos n_41, if_neg c_56]) ndF_hearCheckDigits_64
        · refine lv_iconst (v := (-1)) hx hb ndF_hearCheckDigits_59 (by decide) ?_
          refine lv_goto (tgt := 64) hx hb ndF_hearCheckDigits_60 (by decide) ?_
          exact fd_ret_i hx hb hr hlocks hS hP hD rfl (by rw [fd_cd, if_neg d_1, if_neg d_2, if_pos n_41, if_pos c_56]) ndF_hearCheckDigits_64
      · have n_41 := mt (nI_leI (a := n) (b := (p1 + 2)) (by omega) (by omega)).mpr c_41
        refine lv_iload_n hx hb ndF_hearCheckDigits_44 rfl (lv_at hl 2 rfl) ?_
        refine lv_iconst (v := 2) hx hb ndF_hearCheckDigits_45 (by decide) ?_
        refine lv_iadd hx hb ndF_hearCheckDigits_46 ?_
        refine fd_asi (y := nI (p1 + 2)) (nI_add p1 2) ?_
        exact fd_ret_i hx hb hr hlocks hS hP hD rfl (by rw [fd_cd, if_neg d_1, if_neg d_2, if_neg n_41]) ndF_hearCheckDigits_47
    · refine lv_iload_n hx hb ndF_hearCheckDigits_23 rfl (lv_at hl 0 rfl) ?_
      exact fd_ret_i hx hb hr hlocks hS hP hD rfl (by rw [fd_cd, if_neg d_1, if_pos c_20]) ndF_hearCheckDigits_24
  · refine lv_iload_n hx hb ndF_hearCheckDigits_23 rfl (lv_at hl 0 rfl) ?_
    exact fd_ret_i hx hb hr hlocks hS hP hD rfl (by rw [fd_cd, if_pos c_20]) ndF_hearCheckDigits_24
set_option maxHeartbeats 4000000 in
set_option maxRecDepth 100000 in
theorem kF_hearText_0 (l : Launch) (D : va_G) (Z : Nat → Nat) (cI cL : ClassId) {a0 a1 a2 a3 a4 a5 a6 a7 a8 a9 a10 n kd k wn od ok : Nat} {f fs wf os : Nat → Int32} {fn on : Nat → Int64} {cf : Int32} (hn : n ≤ 400) (hkd : kd ≤ 15) (hk : k ≤ 20) (hwn : wn ≤ 123) (hod : od ≤ 15) (hok : ok ≤ 20) (g1 : fd_kn f n 1 = 0) : fd_Mi l D fd_cl (fd_ty cI cL) (fd_EV Z) nyF_hearText (.code nyF_hearText ncF_hearText 5 (some .int) :: fd_TB) nmF_hearText [.ref a0] [(a0, .inr (2, [.ref a1, .ref a3, .ref a6, .ref a8, .int cf])), (a1, .inr (0, [.ref a2, .int (nI n)])), (a2, .inl (cI, 400, .inl f)), (a3, .inr (1, [.ref a4, .ref a5, .int (nI kd), .int (nI k)])), (a4, .inl (cI, 20, .inl fs)), (a5, .inl (cL, 20, .inr (.inl fn))), (a6, .inr (0, [.ref a7, .int (nI wn)])), (a7, .inl (cI, 123, .inl wf)), (a8, .inr (1, [.ref a9, .ref a10, .int (nI od), .int (nI ok)])), (a9, .inl (cI, 20, .inl os)), (a10, .inl (cL, 20, .inr (.inl on)))] [(a0, .inr (2, [.ref a1, .ref a3, .ref a6, .ref a8, .int cf])), (a1, .inr (0, [.ref a2, .int (nI n)])), (a2, .inl (cI, 400, .inl f)), (a3, .inr (1, [.ref a4, .ref a5, .int (nI kd), .int (nI k)])), (a4, .inl (cI, 20, .inl fs)), (a5, .inl (cL, 20, .inr (.inl fn))), (a6, .inr (0, [.ref a7, .int (nI wn)])), (a7, .inl (cI, 123, .inl wf)), (a8, .inr (1, [.ref a9, .ref a10, .int (nI od), .int (nI ok)])), (a9, .inl (cI, 20, .inl os)), (a10, .inl (cL, 20, .inr (.inl on)))] 0 := by
  refine fd_open_i (cc := ncF_hearText) (maxL := 5) (ret := (some .int)) (by decide) rfl (Nat.le_of_ble_eq_true rfl) ?_
  intro p e s m below meth c A ls X hP hD hS hl
  obtain ⟨hx, hb, hr, hml, hown, hts0, hlocks, hK, hEV, hA⟩ := X
  have hts : ∀ w ∈ fd_TB, w.before _ s = true := fun w h => hts0 w (List.mem_cons_of_mem _ h)
  have hE := fd_EV_ok Z
  have hown : s.vm.findClass "FieldDesk" = some m.cls := hown
  have hl : lv_has ls 5 [(0, .ref a0)] := hl
  refine lv_aload_n hx hb ndF_hearText_0 rfl (lv_at hl 0 rfl) ?_
  refine fd_go_i (wr := []) (w2 := [(a0, .inr (2, [.ref a1, .ref a3, .ref a6, .ref a8, .int cf])), (a1, .inr (0, [.ref a2, .int (nI n)])), (a2, .inl (cI, 400, .inl f)), (a3, .inr (1, [.ref a4, .ref a5, .int (nI kd), .int (nI k)])), (a4, .inl (cI, 20, .inl fs)), (a5, .inl (cL, 20, .inr (.inl fn))), (a6, .inr (0, [.ref a7, .int (nI wn)])), (a7, .inl (cI, 123, .inl wf)), (a8, .inr (1, [.ref a9, .ref a10, .int (nI od), .int (nI ok)])), (a9, .inl (cI, 20, .inl os)), (a10, .inl (cL, 20, .inr (.inl on)))]) (va_runV (As := []) (rest := []) ⟨hx, hb, hml, hown, hts⟩ (kF_hearKind_0 l D Z cI cL (n := n) (f := f) (kd := kd) (k := k) (fs := fs) (fn := fn) (wn := wn) (wf := wf) (od := od) (ok := ok) (os := os) (on := on) (cf := cf) (by omega) (by omega) (by omega) (by omega) (by omega) (by omega) g1 s.heap.size) (cwV 0 hts (fd_gV tb_82 tb_83 tb_1 tb_13 tb_84) rfl rfl rfl nhF_hearKind ⟨(Nat.le_of_ble_eq_true rfl), (Nat.le_of_ble_eq_true rfl)⟩) (fd_PreV hE hK hEV hA hP hD hS [0, 1, 2, 3, 4, 5, 6, 7, 8, 9, 10] rfl (by decide) (ci := 2) (q0 := 0) rfl rfl) rfl rfl hl.1 rfl (lv_room (Nat.le_of_ble_eq_true rfl)) ndF_hearText_1 ⟨(Nat.le_of_ble_eq_true rfl), (Nat.le_of_ble_eq_true rfl)⟩) hP hD hS hA [0, 1, 2, 3, 4, 5, 6, 7, 8, 9, 10] [] rfl rfl (by decide) (by decide) [0, 1, 2, 3, 4, 5, 6, 7, 8, 9, 10] rfl (by decide) (fun H locs hP hD hS => ?_)
  refine lv_istore_n (lv' := [(1, .int 0), (0, .ref a0)]) hx hb ndF_hearText_4 rfl hl (by decide) rfl (fun ls hl => ?_)
  refine lv_iconst (v := 3) hx hb ndF_hearText_5 (by decide) ?_
  refine lv_istore_n (lv' := [(2, .int 3), (1, .int 0), (0, .ref a0)]) hx hb ndF_hearText_6 rfl hl (by decide) rfl (fun ls hl => ?_)
  refine lv_iconst (v := 0) hx hb ndF_hearText_7 (by decide) ?_
  refine lv_istore_n (lv' := [(3, .int 0), (2, .int 3), (1, .int 0), (0, .ref a0)]) hx hb ndF_hearText_8 rfl hl (by decide) rfl (fun ls hl => ?_)
  refine lv_iload_n hx hb ndF_hearText_9 rfl (lv_at hl 0 rfl) ?_
  refine lv_bipush (v := 20) hx hb ndF_hearText_10 (by decide) ?_
  refine lv_icmp_ge (tgt := 64) hx hb ndF_hearText_12 (by decide) (fun c_12 => absurd c_12 (by decide)) (fun _ => ?_)
  refine lv_iload_n hx hb ndF_hearText_15 rfl (lv_at hl 2 rfl) ?_
  refine lv_iconst (v := (-1)) hx hb ndF_hearText_16 (by decide) ?_
  refine lv_icmp_ne (tgt := 64) hx hb ndF_hearText_17 (by decide) (fun _ => ?_) (fun c_17 => absurd c_17 (by decide))
  refine lv_iload_n hx hb ndF_hearText_64 rfl (lv_at hl 2 rfl) ?_
  refine lv_iconst (v := (-1)) hx hb ndF_hearText_65 (by decide) ?_
  refine lv_icmp_ne (tgt := 77) hx hb ndF_hearText_66 (by decide) (fun _ => ?_) (fun c_66 => absurd c_66 (by decide))
  refine lv_iload_n hx hb ndF_hearText_77 rfl (lv_at hl 2 rfl) ?_
  exact fd_ret_i hx hb hr hlocks hS hP hD rfl (rfl) ndF_hearText_78
set_option maxHeartbeats 4000000 in
set_option maxRecDepth 100000 in
theorem kF_hearText_1 (l : Launch) (D : va_G) (Z : Nat → Nat) (cI cL : ClassId) {a0 a1 a2 a3 a4 a5 a6 a7 a8 a9 a10 n kd k wn od ok : Nat} {f fs wf os : Nat → Int32} {fn on : Nat → Int64} {cf : Int32} (hn : n ≤ 400) (hkd : kd ≤ 15) (hk : k ≤ 20) (hwn : wn ≤ 123) (hod : od ≤ 15) (hok : ok ≤ 20) (g1 : ¬ fd_kn f n 1 = 0) (g2 : fd_kn f n 2 = 0) : fd_Mi l D fd_cl (fd_ty cI cL) (fd_EV Z) nyF_hearText (.code nyF_hearText ncF_hearText 5 (some .int) :: fd_TB) nmF_hearText [.ref a0] [(a0, .inr (2, [.ref a1, .ref a3, .ref a6, .ref a8, .int cf])), (a1, .inr (0, [.ref a2, .int (nI n)])), (a2, .inl (cI, 400, .inl f)), (a3, .inr (1, [.ref a4, .ref a5, .int (nI kd), .int (nI k)])), (a4, .inl (cI, 20, .inl fs)), (a5, .inl (cL, 20, .inr (.inl fn))), (a6, .inr (0, [.ref a7, .int (nI wn)])), (a7, .inl (cI, 123, .inl wf)), (a8, .inr (1, [.ref a9, .ref a10, .int (nI od), .int (nI ok)])), (a9, .inl (cI, 20, .inl os)), (a10, .inl (cL, 20, .inr (.inl on)))] [(a0, .inr (2, [.ref a1, .ref a3, .ref a6, .ref a8, .int cf])), (a1, .inr (0, [.ref a2, .int (nI n)])), (a2, .inl (cI, 400, .inl f)), (a3, .inr (1, [.ref a4, .ref a5, .int (nI kd), .int (nI k)])), (a4, .inl (cI, 20, .inl fs)), (a5, .inl (cL, 20, .inr (.inl fn))), (a6, .inr (0, [.ref a7, .int (nI wn)])), (a7, .inl (cI, 123, .inl wf)), (a8, .inr (1, [.ref a9, .ref a10, .int (nI od), .int (nI ok)])), (a9, .inl (cI, 20, .inl os)), (a10, .inl (cL, 20, .inr (.inl on)))] 1 := by
  refine fd_open_i (cc := ncF_hearText) (maxL := 5) (ret := (some .int)) (by decide) rfl (Nat.le_of_ble_eq_true rfl) ?_
  intro p e s m below meth c A ls X hP hD hS hl
  obtain ⟨hx, hb, hr, hml, hown, hts0, hlocks, hK, hEV, hA⟩ := X
  have hts : ∀ w ∈ fd_TB, w.before _ s = true := fun w h => hts0 w (List.mem_cons_of_mem _ h)
  have hE := fd_EV_ok Z
  have hown : s.vm.findClass "FieldDesk" = some m.cls := hown
  have hl : lv_has ls 5 [(0, .ref a0)] := hl
  refine lv_aload_n hx hb ndF_hearText_0 rfl (lv_at hl 0 rfl) ?_
  refine fd_go_i (wr := []) (w2 := [(a0, .inr (2, [.ref a1, .ref a3, .ref a6, .ref a8, .int cf])), (a1, .inr (0, [.ref a2, .int (nI n)])), (a2, .inl (cI, 400, .inl f)), (a3, .inr (1, [.ref a4, .ref a5, .int (nI kd), .int (nI k)])), (a4, .inl (cI, 20, .inl fs)), (a5, .inl (cL, 20, .inr (.inl fn))), (a6, .inr (0, [.ref a7, .int (nI wn)])), (a7, .inl (cI, 123, .inl wf)), (a8, .inr (1, [.ref a9, .ref a10, .int (nI od), .int (nI ok)])), (a9, .inl (cI, 20, .inl os)), (a10, .inl (cL, 20, .inr (.inl on)))]) (va_runV (As := []) (rest := []) ⟨hx, hb, hml, hown, hts⟩ (kF_hearKind_1 l D Z cI cL (n := n) (f := f) (kd := kd) (k := k) (fs := fs) (fn := fn) (wn := wn) (wf := wf) (od := od) (ok := ok) (os := os) (on := on) (cf := cf) (by omega) (by omega) (by omega) (by omega) (by omega) (by omega) g1 g2 s.heap.size) (cwV 0 hts (fd_gV tb_82 tb_83 tb_1 tb_13 tb_84) rfl rfl rfl nhF_hearKind ⟨(Nat.le_of_ble_eq_true rfl), (Nat.le_of_ble_eq_true rfl)⟩) (fd_PreV hE hK hEV hA hP hD hS [0, 1, 2, 3, 4, 5, 6, 7, 8, 9, 10] rfl (by decide) (ci := 2) (q0 := 0) rfl rfl) rfl rfl hl.1 rfl (lv_room (Nat.le_of_ble_eq_true rfl)) ndF_hearText_1 ⟨(Nat.le_of_ble_eq_true rfl), (Nat.le_of_ble_eq_true rfl)⟩) hP hD hS hA [0, 1, 2, 3, 4, 5, 6, 7, 8, 9, 10] [] rfl rfl (by decide) (by decide) [0, 1, 2, 3, 4, 5, 6, 7, 8, 9, 10] rfl (by decide) (fun H locs hP hD hS => ?_)
  refine lv_istore_n (lv' := [(1, .int 1), (0, .ref a0)]) hx hb ndF_hearText_4 rfl hl (by decide) rfl (fun ls hl => ?_)
  refine lv_iconst (v := 3) hx hb ndF_hearText_5 (by decide) ?_
  refine lv_istore_n (lv' := [(2, .int 3), (1, .int 1), (0, .ref a0)]) hx hb ndF_hearText_6 rfl hl (by decide) rfl (fun ls hl => ?_)
  refine lv_iconst (v := 0) hx hb ndF_hearText_7 (by decide) ?_
  refine lv_istore_n (lv' := [(3, .int 0), (2, .int 3), (1, .int 1), (0, .ref a0)]) hx hb ndF_hearText_8 rfl hl (by decide) rfl (fun ls hl => ?_)
  refine lv_iload_n hx hb ndF_hearText_9 rfl (lv_at hl 0 rfl) ?_
  refine lv_bipush (v := 20) hx hb ndF_hearText_10 (by decide) ?_
  refine lv_icmp_ge (tgt := 64) hx hb ndF_hearText_12 (by decide) (fun c_12 => absurd c_12 (by decide)) (fun _ => ?_)
  refine lv_iload_n hx hb ndF_hearText_15 rfl (lv_at hl 2 rfl) ?_
  refine lv_iconst (v := (-1)) hx hb ndF_hearText_16 (by decide) ?_
  refine lv_icmp_ne (tgt := 64) hx hb ndF_hearText_17 (by decide) (fun _ => ?_) (fun c_17 => absurd c_17 (by decide))
  refine lv_iload_n hx hb ndF_hearText_64 rfl (lv_at hl 2 rfl) ?_
  refine lv_iconst (v := (-1)) hx hb ndF_hearText_65 (by decide) ?_
  refine lv_icmp_ne (tgt := 77) hx hb ndF_hearText_66 (by decide) (fun _ => ?_) (fun c_66 => absurd c_66 (by decide))
  refine lv_iload_n hx hb ndF_hearText_77 rfl (lv_at hl 2 rfl) ?_
  exact fd_ret_i hx hb hr hlocks hS hP hD rfl (rfl) ndF_hearText_78
set_option maxHeartbeats 4000000 in
set_option maxRecDepth 100000 in
theorem kF_hearText_2 (l : Launch) (D : va_G) (Z : Nat → Nat) (cI cL : ClassId) {a0 a1 a2 a3 a4 a5 a6 a7 a8 a9 a10 n kd k wn od ok : Nat} {f fs wf os : Nat → Int32} {fn on : Nat → Int64} {cf : Int32} (hn : n ≤ 400) (hkd : kd ≤ 15) (hk : k ≤ 20) (hwn : wn ≤ 123) (hod : od ≤ 15) (hok : ok ≤ 20) (g1 : ¬ fd_kn f n 1 = 0) (g2 : ¬ fd_kn f n 2 = 0) (g3 : fd_kn f n 3 = 0) : fd_Mi l D fd_cl (fd_ty cI cL) (fd_EV Z) nyF_hearText (.code nyF_hearText ncF_hearText 5 (some .int) :: fd_TB) nmF_hearText [.ref a0] [(a0, .inr (2, [.ref a1, .ref a3, .ref a6, .ref a8, .int cf])), (a1, .inr (0, [.ref a2, .int (nI n)])), (a2, .inl (cI, 400, .inl f)), (a3, .inr (1, [.ref a4, .ref a5, .int (nI kd), .int (nI k)])), (a4, .inl (cI, 20, .inl fs)), (a5, .inl (cL, 20, .inr (.inl fn))), (a6, .inr (0, [.ref a7, .int (nI wn)])), (a7, .inl (cI, 123, .inl wf)), (a8, .inr (1, [.ref a9, .ref a10, .int (nI od), .int (nI ok)])), (a9, .inl (cI, 20, .inl os)), (a10, .inl (cL, 20, .inr (.inl on)))] [(a0, .inr (2, [.ref a1, .ref a3, .ref a6, .ref a8, .int cf])), (a1, .inr (0, [.ref a2, .int (nI n)])), (a2, .inl (cI, 400, .inl f)), (a3, .inr (1, [.ref a4, .ref a5, .int (nI kd), .int (nI k)])), (a4, .inl (cI, 20, .inl fs)), (a5, .inl (cL, 20, .inr (.inl fn))), (a6, .inr (0, [.ref a7, .int (nI wn)])), (a7, .inl (cI, 123, .inl wf)), (a8, .inr (1, [.ref a9, .ref a10, .int (nI od), .int (nI ok)])), (a9, .inl (cI, 20, .inl os)), (a10, .inl (cL, 20, .inr (.inl on)))] 2 := by
  refine fd_open_i (cc := ncF_hearText) (maxL := 5) (ret := (some .int)) (by decide) rfl (Nat.le_of_ble_eq_true rfl) ?_
  intro p e s m below meth c A ls X hP hD hS hl
  obtain ⟨hx, hb, hr, hml, hown, hts0, hlocks, hK, hEV, hA⟩ := X
  have hts : ∀ w ∈ fd_TB, w.before _ s = true := fun w h => hts0 w (List.mem_cons_of_mem _ h)
  have hE := fd_EV_ok Z
  have hown : s.vm.findClass "FieldDesk" = some m.cls := hown
  have hl : lv_has ls 5 [(0, .ref a0)] := hl
  refine lv_aload_n hx hb ndF_hearText_0 rfl (lv_at hl 0 rfl) ?_
  refine fd_go_i (wr := []) (w2 := [(a0, .inr (2, [.ref a1, .ref a3, .ref a6, .ref a8, .int cf])), (a1, .inr (0, [.ref a2, .int (nI n)])), (a2, .inl (cI, 400, .inl f)), (a3, .inr (1, [.ref a4, .ref a5, .int (nI kd), .int (nI k)])), (a4, .inl (cI, 20, .inl fs)), (a5, .inl (cL, 20, .inr (.inl fn))), (a6, .inr (0, [.ref a7, .int (nI wn)])), (a7, .inl (cI, 123, .inl wf)), (a8, .inr (1, [.ref a9, .ref a10, .int (nI od), .int (nI ok)])), (a9, .inl (cI, 20, .inl os)), (a10, .inl (cL, 20, .inr (.inl on)))]) (va_runV (As := []) (rest := []) ⟨hx, hb, hml, hown, hts⟩ (kF_hearKind_2 l D Z cI cL (n := n) (f := f) (kd := kd) (k := k) (fs := fs) (fn := fn) (wn := wn) (wf := wf) (od := od) (ok := ok) (os := os) (on := on) (cf := cf) (by omega) (by omega) (by omega) (by omega) (by omega) (by omega) g1 g2 g3 s.heap.size) (cwV 0 hts (fd_gV tb_82 tb_83 tb_1 tb_13 tb_84) rfl rfl rfl nhF_hearKind ⟨(Nat.le_of_ble_eq_true rfl), (Nat.le_of_ble_eq_true rfl)⟩) (fd_PreV hE hK hEV hA hP hD hS [0, 1, 2, 3, 4, 5, 6, 7, 8, 9, 10] rfl (by decide) (ci := 2) (q0 := 0) rfl rfl) rfl rfl hl.1 rfl (lv_room (Nat.le_of_ble_eq_true rfl)) ndF_hearText_1 ⟨(Nat.le_of_ble_eq_true rfl), (Nat.le_of_ble_eq_true rfl)⟩) hP hD hS hA [0, 1, 2, 3, 4, 5, 6, 7, 8, 9, 10] [] rfl rfl (by decide) (by decide) [0, 1, 2, 3, 4, 5, 6, 7, 8, 9, 10] rfl (by decide) (fun H locs hP hD hS => ?_)
  refine lv_istore_n (lv' := [(1, .int 2), (0, .ref a0)]) hx hb ndF_hearText_4 rfl hl (by decide) rfl (fun ls hl => ?_)
  refine lv_iconst (v := 3) hx hb ndF_hearText_5 (by decide) ?_
  refine lv_istore_n (lv' := [(2, .int 3), (1, .int 2), (0, .ref a0)]) hx hb ndF_hearText_6 rfl hl (by decide) rfl (fun ls hl => ?_)
  refine lv_iconst (v := 0) hx hb ndF_hearText_7 (by decide) ?_
  refine lv_istore_n (lv' := [(3, .int 0), (2, .int 3), (1, .int 2), (0, .ref a0)]) hx hb ndF_hearText_8 rfl hl (by decide) rfl (fun ls hl => ?_)
  refine lv_iload_n hx hb ndF_hearText_9 rfl (lv_at hl 0 rfl) ?_
  refine lv_bipush (v := 20) hx hb ndF_hearText_10 (by decide) ?_
  refine lv_icmp_ge (tgt := 64) hx hb ndF_hearText_12 (by decide) (fun c_12 => absurd c_12 (by decide)) (fun _ => ?_)
  refine lv_iload_n hx hb ndF_hearText_15 rfl (lv_at hl 2 rfl) ?_
  refine lv_iconst (v := (-1)) hx hb ndF_hearText_16 (by decide) ?_
  refine lv_icmp_ne (tgt := 64) hx hb ndF_hearText_17 (by decide) (fun _ => ?_) (fun c_17 => absurd c_17 (by decide))
  refine lv_iload_n hx hb ndF_hearText_64 rfl (lv_at hl 2 rfl) ?_
  refine lv_iconst (v := (-1)) hx hb ndF_hearText_65 (by decide) ?_
  refine lv_icmp_ne (tgt := 77) hx hb ndF_hearText_66 (by decide) (fun _ => ?_) (fun c_66 => absurd c_66 (by decide))
  refine lv_iload_n hx hb ndF_hearText_77 rfl (lv_at hl 2 rfl) ?_
  exact fd_ret_i hx hb hr hlocks hS hP hD rfl (rfl) ndF_hearText_78
set_option maxHeartbeats 4000000 in
set_option maxRecDepth 100000 in
theorem kF_hearText_ok (l : Launch) (D : va_G) (Z : Nat → Nat) (cI cL : ClassId) {a0 a1 a2 a3 a4 a5 a6 a7 a8 a9 a10 n kd k wn od ok : Nat} {f fs wf os : Nat → Int32} {fn on : Nat → Int64} {cf : Int32} (hn : n ≤ 400) (hkd : kd ≤ 15) (hk : k ≤ 20) (hwn : wn ≤ 123) (hod : od ≤ 15) (hok : ok ≤ 20) (g1 : ¬ fd_kn f n 1 = 0) (g2 : ¬ fd_kn f n 2 = 0) (g3 : ¬ fd_kn f n 3 = 0) {r : Int32} {k9 : Nat} {fs9 : Nat → Int32} {fn9 : Nat → Int64} (hres : fd_ht f n (fd_kn f n 3) 20 0 3 fs fn = (r, k9, fs9, fn9)) : fd_Mi l D fd_cl (fd_ty cI cL) (fd_EV Z) nyF_hearText (.code nyF_hearText ncF_hearText 5 (some .int) :: fd_TB) nmF_hearText [.ref a0] [(a0, .inr (2, [.ref a1, .ref a3, .ref a6, .ref a8, .int cf])), (a1, .inr (0, [.ref a2, .int (nI n)])), (a2, .inl (cI, 400, .inl f)), (a3, .inr (1, [.ref a4, .ref a5, .int (nI kd), .int (nI k)])), (a4, .inl (cI, 20, .inl fs)), (a5, .inl (cL, 20, .inr (.inl fn))), (a6, .inr (0, [.ref a7, .int (nI wn)])), (a7, .inl (cI, 123, .inl wf)), (a8, .inr (1, [.ref a9, .ref a10, .int (nI od), .int (nI ok)])), (a9, .inl (cI, 20, .inl os)), (a10, .inl (cL, 20, .inr (.inl on)))] [(a0, .inr (2, [.ref a1, .ref a3, .ref a6, .ref a8, .int cf])), (a1, .inr (0, [.ref a2, .int (nI n)])), (a2, .inl (cI, 400, .inl f)), (a3, .inr (1, [.ref a4, .ref a5, .int (nI ((fd_kn f n 3))), .int (nI k9)])), (a4, .inl (cI, 20, .inl fs9)), (a5, .inl (cL, 20, .inr (.inl fn9))), (a6, .inr (0, [.ref a7, .int (nI wn)])), (a7, .inl (cI, 123, .inl wf)), (a8, .inr (1, [.ref a9, .ref a10, .int (nI od), .int (nI ok)])), (a9, .inl (cI, 20, .inl os)), (a10, .inl (cL, 20, .inr (.inl on)))] r := by
  have K1 := fd_kn_le f n 1
  have K2 := fd_kn_le f n 2
  have K3 := fd_kn_le f n 3
  refine fd_open_i (cc := ncF_hearText) (maxL := 5) (ret := (some .int)) (by decide) rfl (Nat.le_of_ble_eq_true rfl) ?_
  intro p e s m below meth c A ls X hP hD hS hl
  obtain ⟨hx, hb, hr, hml, hown, hts0, hlocks, hK, hEV, hA⟩ := X
  have hts : ∀ w ∈ fd_TB, w.before _ s = true := fun w h => hts0 w (List.mem_cons_of_mem _ h)
  have hE := fd_EV_ok Z
  have hown : s.vm.findClass "FieldDesk" = some m.cls := hown
  have hl : lv_has ls 5 [(0, .ref a0)] := hl
  refine lv_aload_n hx hb ndF_hearText_0 rfl (lv_at hl 0 rfl) ?_
  refine fd_go_i (wr := []) (w2 := [(a0, .inr (2, [.ref a1, .ref a3, .ref a6, .ref a8, .int cf])), (a1, .inr (0, [.ref a2, .int (nI n)])), (a2, .inl (cI, 400, .inl f)), (a3, .inr (1, [.ref a4, .ref a5, .int (nI ((fd_kn f n 3))), .int (nI 0)])), (a4, .inl (cI, 20, .inl fs)), (a5, .inl (cL, 20, .inr (.inl fn))), (a6, .inr (0, [.ref a7, .int (nI wn)])), (a7, .inl (cI, 123, .inl wf)), (a8, .inr (1, [.ref a9, .ref a10, .int (nI od), .int (nI ok)])), (a9, .inl (cI, 20, .inl os)), (a10, .inl (cL, 20, .inr (.inl on)))]) (va_runV (As := []) (rest := []) ⟨hx, hb, hml, hown, hts⟩ (kF_hearKind_ok l D Z cI cL (n := n) (f := f) (kd := kd) (k := k) (fs := fs) (fn := fn) (wn := wn) (wf := wf) (od := od) (ok := ok) (os := os) (on := on) (cf := cf) (by omega) (by omega) (by omega) (by omega) (by omega) (by omega) g1 g2 g3 s.heap.size) (cwV 0 hts (fd_gV tb_82 tb_83 tb_1 tb_13 tb_84) rfl rfl rfl nhF_hearKind ⟨(Nat.le_of_ble_eq_true rfl), (Nat.le_of_ble_eq_true rfl)⟩) (fd_PreV hE hK hEV hA hP hD hS [0, 1, 2, 3, 4, 5, 6, 7, 8, 9, 10] rfl (by decide) (ci := 2) (q0 := 0) rfl rfl) rfl rfl hl.1 rfl (lv_room (Nat.le_of_ble_eq_true rfl)) ndF_hearText_1 ⟨(Nat.le_of_ble_eq_true rfl), (Nat.le_of_ble_eq_true rfl)⟩) hP hD hS hA [0, 1, 2, 3, 4, 5, 6, 7, 8, 9, 10] [] rfl rfl (by decide) (by decide) [0, 1, 2, 3, 4, 5, 6, 7, 8, 9, 10] rfl (by decide) (fun H locs hP hD hS => ?_)
  refine lv_istore_n (lv' := [(1, .int (-1)), (0, .ref a0)]) hx hb ndF_hearText_4 rfl hl (by decide) rfl (fun ls hl => ?_)
  refine lv_iconst (v := 3) hx hb ndF_hearText_5 (by decide) ?_
  refine lv_istore_n (lv' := [(2, .int 3), (1, .int (-1)), (0, .ref a0)]) hx hb ndF_hearText_6 rfl hl (by decide) rfl (fun ls hl => ?_)
  refine lv_iconst (v := 0) hx hb ndF_hearText_7 (by decide) ?_
  refine lv_istore_n (lv' := [(3, .int 0), (2, .int 3), (1, .int (-1)), (0, .ref a0)]) hx hb ndF_hearText_8 rfl hl (by decide) rfl (fun ls hl => ?_)
  have loop : ∀ (z : Nat) (k1 q1 : Nat) (fs1 : Nat → Int32) (fn1 : Nat → Int64) (hk9 : k1 + z = 20) (hq9 : q1 ≤ 3 + 15 * k1) (hh : fd_ht f n (fd_kn f n 3) z k1 q1 fs1 fn1 = (r, k9, fs9, fn9)) (H : Heap) (locs : List Loc) (ls : Array Slot), va_P D fd_cl [(a0, .inr (2, [.ref a1, .ref a3, .ref a6, .ref a8, .int cf])), (a1, .inr (0, [.ref a2, .int (nI n)])), (a2, .inl (cI, 400, .inl f)), (a3, .inr (1, [.ref a4, .ref a5, .int (nI ((fd_kn f n 3))), .int (nI k1)])), (a4, .inl (cI, 20, .inl fs1)), (a5, .inl (cL, 20, .inr (.inl fn1))), (a6, .inr (0, [.ref a7, .int (nI wn)])), (a7, .inl (cI, 123, .inl wf)), (a8, .inr (1, [.ref a9, .ref a10, .int (nI od), .int (nI ok)])), (a9, .inl (cI, 20, .inl os)), (a10, .inl (cL, 20, .inr (.inl on)))] H → va_D A [(a0, .inr (2, [.ref a1, .ref a3, .ref a6, .ref a8, .int cf])), (a1, .inr (0, [.ref a2, .int (nI n)])), (a2, .inl (cI, 400, .inl f)), (a3, .inr (1, [.ref a4, .ref a5, .int (nI ((fd_kn f n 3))), .int (nI k1)])), (a4, .inl (cI, 20, .inl fs1)), (a5, .inl (cL, 20, .inr (.inl fn1))), (a6, .inr (0, [.ref a7, .int (nI wn)])), (a7, .inl (cI, 123, .inl wf)), (a8, .inr (1, [.ref a9, .ref a10, .int (nI od), .int (nI ok)])), (a9, .inl (cI, 20, .inl os)), (a10, .inl (cL, 20, .inr (.inl on)))] → va_S A s.heap H locs → lv_has ls 5 [(0, .ref a0), (1, .int (-1)), (2, .int (nI q1)), (3, .int (nI k1))] → W p l e nmF_hearText s m ([.ref a0].toArray) below meth c H locs 0 0 (MQ below (va_Qi (fun r' (_ : Unit) => r' = r) (fd_B D fd_cl A [(a0, .inr (2, [.ref a1, .ref a3, .ref a6, .ref a8, .int cf])), (a1, .inr (0, [.ref a2, .int (nI n)])), (a2, .inl (cI, 400, .inl f)), (a3, .inr (1, [.ref a4, .ref a5, .int (nI ((fd_kn f n 3))), .int (nI k9)])), (a4, .inl (cI, 20, .inl fs9)), (a5, .inl (cL, 20, .inr (.inl fn9))), (a6, .inr (0, [.ref a7, .int (nI wn)])), (a7, .inl (cI, 123, .inl wf)), (a8, .inr (1, [.ref a9, .ref a10, .int (nI od), .int (nI ok)])), (a9, .inl (cI, 20, .inl os)), (a10, .inl (cL, 20, .inr (.inl on)))]) A) [.ref a0].toArray s 0 0 A) (F0 m 9 ls []) := by
    intro z
    induction z with
    | zero =>
      intro k1 q1 fs1 fn1 hk9 hq9 hh H locs ls hP hD hS hl
      obtain ⟨e1, rfl, rfl, rfl⟩ := fd_q4 hh
      refine lv_iload_n hx hb ndF_hearText_9 rfl (lv_at hl 3 rfl) ?_
      refine lv_bipush (v := 20) hx hb ndF_hearText_10 (by decide) ?_
      refine lv_icmp_ge (tgt := 64) hx hb ndF_hearText_12 (by decide) (fun _ => ?_) (fun c_12 => absurd ((nI_leI (a := 20) (b := k1) (by omega) (by omega)).mpr (by omega)) c_12)
      refine lv_iload_n hx hb ndF_hearText_64 rfl (lv_at hl 1 rfl) ?_
      refine lv_iconst (v := (-1)) hx hb ndF_hearText_65 (by decide) ?_
      refine lv_icmp_ne (tgt := 77) hx hb ndF_hearText_66 (by decide) (fun c_66 => absurd (by decide) c_66) (fun _ => ?_)
      refine lv_aload_n hx hb ndF_hearText_69 rfl (lv_at hl 0 rfl) ?_
      refine lv_iload_n hx hb ndF_hearText_70 rfl (lv_at hl 2 rfl) ?_
      refine fd_go_i (wr := []) (w2 := [(a0, .inr (2, [.ref a1, .ref a3, .ref a6, .ref a8, .int cf])), (a1, .inr (0, [.ref a2, .int (nI n)])), (a2, .inl (cI, 400, .inl f)), (a3, .inr (1, [.ref a4, .ref a5, .int (nI ((fd_kn f n 3))), .int (nI k1)])), (a4, .inl (cI, 20, .inl fs1)), (a5, .inl (cL, 20, .inr (.inl fn1))), (a6, .inr (0, [.ref a7, .int (nI wn)])), (a7, .inl (cI, 123, .inl wf)), (a8, .inr (1, [.ref a9, .ref a10, .int (nI od), .int (nI ok)])), (a9, .inl (cI, 20, .inl os)), (a10, .inl (cL, 20, .inr (.inl on)))]) (va_runV (As := [.int (nI q1)]) (rest := []) ⟨hx, hb, hml, hown, hts⟩ (kF_hearCheckDigits l D Z cI cL (n := n) (f := f) (kd := ((fd_kn f n 3))) (k := k1) (fs := fs1) (fn := fn1) (wn := wn) (wf := wf) (od := od) (ok := ok) (os := os) (on := on) (cf := cf) (by omega) (by omega) (by omega) (by omega) (by omega) (by omega) (p1 := q1) (by omega) H.size) (cwV 1 hts (fd_gV tb_175 tb_176 tb_6 tb_13 tb_177) rfl rfl rfl nhF_hearCheckDigits ⟨(Nat.le_of_ble_eq_true rfl), (Nat.le_of_ble_eq_true rfl)⟩) (fd_PreV hE hK hEV hA hP hD hS [0, 1, 2, 3, 4, 5, 6, 7, 8, 9, 10] rfl (by decide) (ci := 2) (q0 := 0) rfl rfl) rfl rfl hl.1 rfl (lv_room (Nat.le_of_ble_eq_true rfl)) ndF_hearText_71 ⟨(Nat.le_of_ble_eq_true rfl), (Nat.le_of_ble_eq_true rfl)⟩) hP hD hS hA [0, 1, 2, 3, 4, 5, 6, 7, 8, 9, 10] [] rfl rfl (by decide) (by decide) [0, 1, 2, 3, 4, 5, 6, 7, 8, 9, 10] rfl (by decide) (fun H locs hP hD hS => ?_)
      refine lv_goto (tgt := 78) hx hb ndF_hearText_74 (by decide) ?_
      exact fd_ret_i hx hb hr hlocks hS hP hD rfl (e1) ndF_hearText_78
    | succ z ih =>
      intro k1 q1 fs1 fn1 hk9 hq9 hh H locs ls hP hD hS hl
      refine lv_iload_n hx hb ndF_hearText_9 rfl (lv_at hl 3 rfl) ?_
      refine lv_bipush (v := 20) hx hb ndF_hearText_10 (by decide) ?_
      refine lv_icmp_ge (tgt := 64) hx hb ndF_hearText_12 (by decide) (fun c_12 => absurd c_12 (fun h9 => absurd ((nI_leI (a := 20) (b := k1) (by omega) (by omega)).mp h9) (by omega))) (fun _ => ?_)
      refine lv_iload_n hx hb ndF_hearText_15 rfl (lv_at hl 1 rfl) ?_
      refine lv_iconst (v := (-1)) hx hb ndF_hearText_16 (by decide) ?_
      refine lv_icmp_ne (tgt := 64) hx hb ndF_hearText_17 (by decide) (fun c_17 => absurd (by decide) c_17) (fun _ => ?_)
      refine lv_aload_n hx hb ndF_hearText_20 rfl (lv_at hl 0 rfl) ?_
      refine va_get (D := D) (ci := 2) (v := .ref a3) (C := nR_F) (T := nT_F) (N := 5) hx hb hts in_F hown hK hP 0 rfl rfl 1 (by decide) (hts _ tb_54) (fun _ h9 => h9) rfl ndF_hearText_21 ?_
      refine fd_go_i (wr := [(a0, .inr (2, [.ref a1, .ref a3, .ref a6, .ref a8, .int cf])), (a1, .inr (0, [.ref a2, .int (nI n)])), (a2, .inl (cI, 400, .inl f)), (a6, .inr (0, [.ref a7, .int (nI wn)])), (a7, .inl (cI, 123, .inl wf)), (a8, .inr (1, [.ref a9, .ref a10, .int (nI od), .int (nI ok)])), (a9, .inl (cI, 20, .inl os)), (a10, .inl (cL, 20, .inr (.inl on)))]) (w2 := [(a0, .inr (2, [.ref a1, .ref a3, .ref a6, .ref a8, .int cf])), (a1, .inr (0, [.ref a2, .int (nI n)])), (a2, .inl (cI, 400, .inl f)), (a3, .inr (1, [.ref a4, .ref a5, .int (nI ((fd_kn f n 3))), .int (nI k1)])), (a4, .inl (cI, 20, .inl fs1)), (a5, .inl (cL, 20, .inr (.inl fn1))), (a6, .inr (0, [.ref a7, .int (nI wn)])), (a7, .inl (cI, 123, .inl wf)), (a8, .inr (1, [.ref a9, .ref a10, .int (nI od), .int (nI ok)])), (a9, .inl (cI, 20, .inl os)), (a10, .inl (cL, 20, .inr (.inl on)))]) (va_runV (As := []) (rest := []) ⟨hx, hb, hml, hown, hts⟩ (kM_dueSort l D Z cI cL (kd := ((fd_kn f n 3))) (n := k1) (fs := fs1) (fn := fn1) (by omega) (by omega) H.size) (cwV 0 hts (fd_gV tb_129 tb_130 tb_131 tb_15 tb_132) rfl rfl rfl nhM_dueSort ⟨(Nat.le_of_ble_eq_true rfl), (Nat.le_of_ble_eq_true rfl)⟩) (fd_PreV hE hK hEV hA hP hD hS [3, 4, 5] rfl (by decide) (ci := 1) (q0 := 3) rfl rfl) rfl rfl hl.1 rfl (lv_room (Nat.le_of_ble_eq_true rfl)) ndF_hearText_24 ⟨(Nat.le_of_ble_eq_true rfl), (Nat.le_of_ble_eq_true rfl)⟩) hP hD hS hA [3, 4, 5] [0, 1, 2, 6, 7, 8, 9, 10] rfl rfl (by decide) (by decide) [0, 1, 2, 8, 9, 10, 3, 4, 5, 6, 7] rfl (by decide) (fun H locs hP hD hS => ?_)
      refine lv_if_eq (tgt := 64) hx hb ndF_hearText_27 (by decide) (fun c_27 => ?_) (fun c_27 => ?_)
      · obtain ⟨e1, rfl, rfl, rfl⟩ := fd_q4 ((fd_ht_end c_27).symm.trans hh)
        refine lv_iload_n hx hb ndF_hearText_64 rfl (lv_at hl 1 rfl) ?_
        refine lv_iconst (v := (-1)) hx hb ndF_hearText_65 (by decide) ?_
        refine lv_icmp_ne (tgt := 77) hx hb ndF_hearText_66 (by decide) (fun c_66 => absurd (by decide) c_66) (fun _ => ?_)
        refine lv_aload_n hx hb ndF_hearText_69 rfl (lv_at hl 0 rfl) ?_
        refine lv_iload_n hx hb ndF_hearText_70 rfl (lv_at hl 2 rfl) ?_
        refine fd_go_i (wr := []) (w2 := [(a0, .inr (2, [.ref a1, .ref a3, .ref a6, .ref a8, .int cf])), (a1, .inr (0, [.ref a2, .int (nI n)])), (a2, .inl (cI, 400, .inl f)), (a3, .inr (1, [.ref a4, .ref a5, .int (nI ((fd_kn f n 3))), .int (nI k1)])), (a4, .inl (cI, 20, .inl fs1)), (a5, .inl (cL, 20, .inr (.inl fn1))), (a6, .inr (0, [.ref a7, .int (nI wn)])), (a7, .inl (cI, 123, .inl wf)), (a8, .inr (1, [.ref a9, .ref a10, .int (nI od), .int (nI ok)])), (a9, .inl (cI, 20, .inl os)), (a10, .inl (cL, 20, .inr (.inl on)))]) (va_runV (As := [.int (nI q1)]) (rest := []) ⟨hx, hb, hml, hown, hts⟩ (kF_hearCheckDigits l D Z cI cL (n := n) (f := f) (kd := ((fd_kn f n 3))) (k := k1) (fs := fs1) (fn := fn1) (wn := wn) (wf := wf) (od := od) (ok := ok) (os := os) (on := on) (cf := cf) (by omega) (by omega) (by omega) (by omega) (by omega) (by omega) (p1 := q1) (by omega) H.size) (cwV 1 hts (fd_gV tb_175 tb_176 tb_6 tb_13 tb_177) rfl rfl rfl nhF_hearCheckDigits ⟨(Nat.le_of_ble_eq_true rfl), (Nat.le_of_ble_eq_true rfl)⟩) (fd_PreV hE hK hEV hA hP hD hS [0, 1, 2, 3, 4, 5, 6, 7, 8, 9, 10] rfl (by decide) (ci := 2) (q0 := 0) rfl rfl) rfl rfl hl.1 rfl (lv_room (Nat.le_of_ble_eq_true rfl)) ndF_hearText_71 ⟨(Nat.le_of_ble_eq_true rfl), (Nat.le_of_ble_eq_true rfl)⟩) hP hD hS hA [0, 1, 2, 3, 4, 5, 6, 7, 8, 9, 10] [] rfl rfl (by decide) (by decide) [0, 1, 2, 3, 4, 5, 6, 7, 8, 9, 10] rfl (by decide) (fun H locs hP hD hS => ?_)
        refine lv_goto (tgt := 78) hx hb ndF_hearText_74 (by decide) ?_
        exact fd_ret_i hx hb hr hlocks hS hP hD rfl (e1) ndF_hearText_78
      · refine lv_iload_n hx hb ndF_hearText_30 rfl (lv_at hl 2 rfl) ?_
        refine va_gets hx hb (hEV.2.2.2.1 0 (by decide)).1 hS hown (hts _ tb_144) (fun _ h9 => h9) ndF_hearText_31 ?_
        refine lv_aload_n hx hb ndF_hearText_34 rfl (lv_at hl 0 rfl) ?_
        refine va_get (D := D) (ci := 2) (v := .ref a3) (C := nR_F) (T := nT_F) (N := 5) hx hb hts in_F hown hK hP 0 rfl rfl 1 (by decide) (hts _ tb_54) (fun _ h9 => h9) rfl ndF_hearText_35 ?_
        refine fd_go_i (wr := [(a0, .inr (2, [.ref a1, .ref a3, .ref a6, .ref a8, .int cf])), (a1, .inr (0, [.ref a2, .int (nI n)])), (a2, .inl (cI, 400, .inl f)), (a6, .inr (0, [.ref a7, .int (nI wn)])), (a7, .inl (cI, 123, .inl wf)), (a8, .inr (1, [.ref a9, .ref a10, .int (nI od), .int (nI ok)])), (a9, .inl (cI, 20, .inl os)), (a10, .inl (cL, 20, .inr (.inl on)))]) (w2 := [(a0, .inr (2, [.ref a1, .ref a3, .ref a6, .ref a8, .int cf])), (a1, .inr (0, [.ref a2, .int (nI n)])), (a2, .inl (cI, 400, .inl f)), (a3, .inr (1, [.ref a4, .ref a5, .int (nI ((fd_kn f n 3))), .int (nI k1)])), (a4, .inl (cI, 20, .inl fs1)), (a5, .inl (cL, 20, .inr (.inl fn1))), (a6, .inr (0, [.ref a7, .int (nI wn)])), (a7, .inl (cI, 123, .inl wf)), (a8, .inr (1, [.ref a9, .ref a10, .int (nI od), .int (nI ok)])), (a9, .inl (cI, 20, .inl os)), (a10, .inl (cL, 20, .inr (.inl on)))]) (va_runV (As := []) (rest := [.ref (Z 0), .int (nI q1)]) ⟨hx, hb, hml, hown, hts⟩ (kM_dueSort l D Z cI cL (kd := ((fd_kn f n 3))) (n := k1) (fs := fs1) (fn := fn1) (by omega) (by omega) H.size) (cwV 0 hts (fd_gV tb_129 tb_130 tb_131 tb_15 tb_132) rfl rfl rfl nhM_dueSort ⟨(Nat.le_of_ble_eq_true rfl), (Nat.le_of_ble_eq_true rfl)⟩) (fd_PreV hE hK hEV hA hP hD hS [3, 4, 5] rfl (by decide) (ci := 1) (q0 := 3) rfl rfl) rfl rfl hl.1 rfl (lv_room (Nat.le_of_ble_eq_true rfl)) ndF_hearText_38 ⟨(Nat.le_of_ble_eq_true rfl), (Nat.le_of_ble_eq_true rfl)⟩) hP hD hS hA [3, 4, 5] [0, 1, 2, 6, 7, 8, 9, 10] rfl rfl (by decide) (by decide) [0, 1, 2, 8, 9, 10, 3, 4, 5, 6, 7] rfl (by decide) (fun H locs hP hD hS => ?_)
        refine fd_go_i (wr := [(a0, .inr (2, [.ref a1, .ref a3, .ref a6, .ref a8, .int cf])), (a1, .inr (0, [.ref a2, .int (nI n)])), (a2, .inl (cI, 400, .inl f)), (a3, .inr (1, [.ref a4, .ref a5, .int (nI ((fd_kn f n 3))), .int (nI k1)])), (a4, .inl (cI, 20, .inl fs1)), (a5, .inl (cL, 20, .inr (.inl fn1))), (a6, .inr (0, [.ref a7, .int (nI wn)])), (a7, .inl (cI, 123, .inl wf)), (a8, .inr (1, [.ref a9, .ref a10, .int (nI od), .int (nI ok)])), (a9, .inl (cI, 20, .inl os)), (a10, .inl (cL, 20, .inr (.inl on)))]) (w2 := [(a0, .inr (2, [.ref a1, .ref a3, .ref a6, .ref a8, .int cf])), (a1, .inr (0, [.ref a2, .int (nI n)])), (a2, .inl (cI, 400, .inl f)), (a3, .inr (1, [.ref a4, .ref a5, .int (nI ((fd_kn f n 3))), .int (nI k1)])), (a4, .inl (cI, 20, .inl fs1)), (a5, .inl (cL, 20, .inr (.inl fn1))), (a6, .inr (0, [.ref a7, .int (nI wn)])), (a7, .inl (cI, 123, .inl wf)), (a8, .inr (1, [.ref a9, .ref a10, .int (nI od), .int (nI ok)])), (a9, .inl (cI, 20, .inl os)), (a10, .inl (cL, 20, .inr (.inl on)))]) (va_runS (As := [.ref (Z 0), .int (fd_due ((fd_kn f n 3)) k1 fn1)]) (rest := [.int (nI q1)]) ⟨hx, hb, hml, hown, hts⟩ (kF_entry l D Z cI cL (k := 0) (by decide) (fd_due ((fd_kn f n 3)) k1 fn1) H.size) (va_cwS 2 hts (fd_gS tb_145 tb_142 tb_13 tb_143) rfl rfl rfl nhF_entry.2 ⟨(Nat.le_of_ble_eq_true rfl), (Nat.le_of_ble_eq_true rfl)⟩) (fd_PreS hE hK hEV hA hP hD hS [] rfl (by decide)) rfl rfl hl.1 rfl (lv_room (Nat.le_of_ble_eq_true rfl)) ndF_hearText_41 ⟨(Nat.le_of_ble_eq_true rfl), (Nat.le_of_ble_eq_true rfl)⟩) hP hD hS hA [] [0, 1, 2, 3, 4, 5, 6, 7, 8, 9, 10] rfl rfl (by decide) (by decide) [0, 1, 2, 3, 4, 5, 6, 7, 8, 9, 10] rfl (by decide) (fun H locs hP hD hS => ?_)
        refine fd_asi (y := nI (fd_W (fd_due (fd_kn f n 3) k1 fn1))) (fd_W_eq _) ?_
        refine lv_iadd hx hb ndF_hearText_44 ?_
        refine fd_asi (y := nI (q1 + fd_W (fd_due (fd_kn f n 3) k1 fn1))) (nI_add _ _) ?_
        refine lv_istore (lv' := [(4, .int (nI (q1 + fd_W (fd_due (fd_kn f n 3) k1 fn1)))), (0, .ref a0), (1, .int (-1)), (2, .int (nI q1)), (3, .int (nI k1))]) hx hb ndF_hearText_45 hl (by decide) rfl (fun ls hl => ?_)
        have hWl := fd_W_le (fd_due (fd_kn f n 3) k1 fn1)
        obtain ⟨r9, x9, hx9⟩ : ∃ r x, fd_hfd f n (fd_kn f n 3) k1 q1 fn1 = (r, x) := ⟨_, _, rfl⟩
        by_cases hr9 : r9 = -1
        · subst hr9
          refine lv_aload_n hx hb ndF_hearText_47 rfl (lv_at hl 1 rfl) ?_
          refine lv_iload_n hx hb ndF_hearText_48 rfl (lv_at hl 3 rfl) ?_
          refine lv_iload hx hb ndF_hearText_49 (lv_at hl 0 rfl) ?_
          refine fd_go_i (wr := []) (w2 := [(a0, .inr (2, [.ref a1, .ref a3, .ref a6, .ref a8, .int cf])), (a1, .inr (0, [.ref a2, .int (nI n)])), (a2, .inl (cI, 400, .inl f)), (a3, .inr (1, [.ref a4, .ref a5, .int (nI (((fd_kn f n 3)))), .int (nI (k1 + 1))])), (a4, .inl (cI, 20, .inl (upd fs1 k1 (fd_due ((fd_kn f n 3)) k1 fn1)))), (a5, .inl (cL, 20, .inr (.inl (vp_updL fn1 k1 x9)))), (a6, .inr (0, [.ref a7, .int (nI wn)])), (a7, .inl (cI, 123, .inl wf)), (a8, .inr (1, [.ref a9, .ref a10, .int (nI od), .int (nI ok)])), (a9, .inl (cI, 20, .inl os)), (a10, .inl (cL, 20, .inr (.inl on)))]) (va_runV (As := [.int (nI q1), .int (nI (q1 + fd_W (fd_due (fd_kn f n 3) k1 fn1)))]) (rest := []) ⟨hx, hb, hml, hown, hts⟩ (kF_hearField_ok l D Z cI cL (n := n) (f := f) (kd := ((fd_kn f n 3))) (k := k1) (fs := fs1) (fn := fn1) (wn := wn) (wf := wf) (od := od) (ok := ok) (os := os) (on := on) (cf := cf) (by omega) (by omega) (by omega) (by omega) (by omega) (by omega) (p1 := q1) (w := fd_W (fd_due ((fd_kn f n 3)) k1 fn1)) (by omega) hx9 (by omega) H.size) (cwV 2 hts (fd_gV tb_146 tb_147 tb_5 tb_13 tb_148) rfl rfl rfl nhF_hearField ⟨(Nat.le_of_ble_eq_true rfl), (Nat.le_of_ble_eq_true rfl)⟩) (fd_PreV hE hK hEV hA hP hD hS [0, 1, 2, 3, 4, 5, 6, 7, 8, 9, 10] rfl (by decide) (ci := 2) (q0 := 0) rfl rfl) rfl rfl hl.1 rfl (lv_room (Nat.le_of_ble_eq_true rfl)) ndF_hearText_51 ⟨(Nat.le_of_ble_eq_true rfl), (Nat.le_of_ble_eq_true rfl)⟩) hP hD hS hA [0, 1, 2, 3, 4, 5, 6, 7, 8, 9, 10] [] rfl rfl (by decide) (by decide) [0, 1, 2, 3, 4, 5, 6, 7, 8, 9, 10] rfl (by decide) (fun H locs hP hD hS => ?_)
          refine lv_istore_n (lv' := [(1, .int (-1)), (4, .int (nI (q1 + fd_W (fd_due (fd_kn f n 3) k1 fn1)))), (0, .ref a0), (2, .int (nI q1)), (3, .int (nI k1))]) hx hb ndF_hearText_54 rfl hl (by decide) rfl (fun ls hl => ?_)
          refine lv_iload hx hb ndF_hearText_55 (lv_at hl 1 rfl) ?_
          refine lv_istore_n (lv' := [(2, .int (nI (q1 + fd_W (fd_due (fd_kn f n 3) k1 fn1)))), (1, .int (-1)), (4, .int (nI (q1 + fd_W (fd_due (fd_kn f n 3) k1 fn1)))), (0, .ref a0), (3, .int (nI k1))]) hx hb ndF_hearText_57 rfl hl (by decide) rfl (fun ls hl => ?_)
          refine lv_iinc (v := nI (k1 + 1)) (lv' := [(3, .int (nI (k1 + 1))), (2, .int (nI (q1 + fd_W (fd_due (fd_kn f n 3) k1 fn1)))), (1, .int (-1)), (4, .int (nI (q1 + fd_W (fd_due (fd_kn f n 3) k1 fn1)))), (0, .ref a0)]) hx hb ndF_hearText_58 hl (k := 4) rfl (nI_1 k1) (by decide) rfl (fun ls hl => ?_)
          refine lv_goto (tgt := 9) hx hb ndF_hearText_61 (by decide) ?_
          exact ih (k1 + 1) (q1 + fd_W (fd_due (fd_kn f n 3) k1 fn1)) _ _ (by omega) (by omega) ((fd_ht_ok c_27 hx9).symm.trans hh) _ _ _ hP hD hS (lv_sub hl [4, 2, 1, 0] rfl)
        · have hh2 := fd_q4 ((fd_ht_no c_27 hx9 hr9).symm.trans hh)
          obtain ⟨e1, rfl, rfl, rfl⟩ := hh2
          refine lv_aload_n hx hb ndF_hearText_47 rfl (lv_at hl 1 rfl) ?_
          refine lv_iload_n hx hb ndF_hearText_48 rfl (lv_at hl 3 rfl) ?_
          refine lv_iload hx hb ndF_hearText_49 (lv_at hl 0 rfl) ?_
          refine fd_go_i (wr := []) (w2 := [(a0, .inr (2, [.ref a1, .ref a3, .ref a6, .ref a8, .int cf])), (a1, .inr (0, [.ref a2, .int (nI n)])), (a2, .inl (cI, 400, .inl f)), (a3, .inr (1, [.ref a4, .ref a5, .int (nI ((fd_kn f n 3))), .int (nI k1)])), (a4, .inl (cI, 20, .inl fs1)), (a5, .inl (cL, 20, .inr (.inl fn1))), (a6, .inr (0, [.ref a7, .int (nI wn)])), (a7, .inl (cI, 123, .inl wf)), (a8, .inr (1, [.ref a9, .ref a10, .int (nI od), .int (nI ok)])), (a9, .inl (cI, 20, .inl os)), (a10, .inl (cL, 20, .inr (.inl on)))]) (va_runV (As := [.int (nI q1), .int (nI (q1 + fd_W (fd_due (fd_kn f n 3) k1 fn1)))]) (rest := []) ⟨hx, hb, hml, hown, hts⟩ (kF_hearField_no l D Z cI cL (n := n) (f := f) (kd := ((fd_kn f n 3))) (k := k1) (fs := fs1) (fn := fn1) (wn := wn) (wf := wf) (od := od) (ok := ok) (os := os) (on := on) (cf := cf) (by omega) (by omega) (by omega) (by omega) (by omega) (by omega) (p1 := q1) (w := fd_W (fd_due ((fd_kn f n 3)) k1 fn1)) (by omega) hx9 hr9 H.size) (cwV 2 hts (fd_gV tb_146 tb_147 tb_5 tb_13 tb_148) rfl rfl rfl nhF_hearField ⟨(Nat.le_of_ble_eq_true rfl), (Nat.le_of_ble_eq_true rfl)⟩) (fd_PreV hE hK hEV hA hP hD hS [0, 1, 2, 3, 4, 5, 6, 7, 8, 9, 10] rfl (by decide) (ci := 2) (q0 := 0) rfl rfl) rfl rfl hl.1 rfl (lv_room (Nat.le_of_ble_eq_true rfl)) ndF_hearText_51 ⟨(Nat.le_of_ble_eq_true rfl), (Nat.le_of_ble_eq_true rfl)⟩) hP hD hS hA [0, 1, 2, 3, 4, 5, 6, 7, 8, 9, 10] [] rfl rfl (by decide) (by decide) [0, 1, 2, 3, 4, 5, 6, 7, 8, 9, 10] rfl (by decide) (fun H locs hP hD hS => ?_)
          refine lv_istore_n (lv' := [(1, .int r9), (4, .int (nI (q1 + fd_W (fd_due (fd_kn f n 3) k1 fn1)))), (0, .ref a0), (2, .int (nI q1)), (3, .int (nI k1))]) hx hb ndF_hearText_54 rfl hl (by decide) rfl (fun ls hl => ?_)
          refine lv_iload hx hb ndF_hearText_55 (lv_at hl 1 rfl) ?_
          refine lv_istore_n (lv' := [(2, .int (nI (q1 + fd_W (fd_due (fd_kn f n 3) k1 fn1)))), (1, .int r9), (4, .int (nI (q1 + fd_W (fd_due (fd_kn f n 3) k1 fn1)))), (0, .ref a0), (3, .int (nI k1))]) hx hb ndF_hearText_57 rfl hl (by decide) rfl (fun ls hl => ?_)
          refine lv_iinc (v := nI (k1 + 1)) (lv' := [(3, .int (nI (k1 + 1))), (2, .int (nI (q1 + fd_W (fd_due (fd_kn f n 3) k1 fn1)))), (1, .int r9), (4, .int (nI (q1 + fd_W (fd_due (fd_kn f n 3) k1 fn1)))), (0, .ref a0)]) hx hb ndF_hearText_58 hl (k := 4) rfl (nI_1 k1) (by decide) rfl (fun ls hl => ?_)
          refine lv_goto (tgt := 9) hx hb ndF_hearText_61 (by decide) ?_
          refine lv_iload_n hx hb ndF_hearText_9 rfl (lv_at hl 0 rfl) ?_
          refine lv_bipush (v := 20) hx hb ndF_hearText_10 (by decide) ?_
          refine lv_icmp_ge (tgt := 64) hx hb ndF_hearText_12 (by decide) (fun c_12 => ?_) (fun c_12 => ?_)
          · have n_12 := (nI_leI (a := 20) (b := (k1 + 1)) (by omega) (by omega)).mp c_12
            refine lv_iload_n hx hb ndF_hearText_64 rfl (lv_at hl 2 rfl) ?_
            refine lv_iconst (v := (-1)) hx hb ndF_hearText_65 (by decide) ?_
            refine lv_icmp_ne (tgt := 77) hx hb ndF_hearText_66 (by decide) (fun _ => ?_) (fun c_66 => absurd c_66 hr9)
            refine lv_iload_n hx hb ndF_hearText_77 rfl (lv_at hl 2 rfl) ?_
            exact fd_ret_i hx hb hr hlocks hS hP hD rfl (e1) ndF_hearText_78
          · have n_12 := mt (nI_leI (a := 20) (b := (k1 + 1)) (by omega) (by omega)).mpr c_12
            refine lv_iload_n hx hb ndF_hearText_15 rfl (lv_at hl 2 rfl) ?_
            refine lv_iconst (v := (-1)) hx hb ndF_hearText_16 (by decide) ?_
            refine lv_icmp_ne (tgt := 64) hx hb ndF_hearText_17 (by decide) (fun _ => ?_) (fun c_17 => absurd c_17 hr9)
            refine lv_iload_n hx hb ndF_hearText_64 rfl (lv_at hl 2 rfl) ?_
            refine lv_iconst (v := (-1)) hx hb ndF_hearText_65 (by decide) ?_
            refine lv_icmp_ne (tgt := 77) hx hb ndF_hearText_66 (by decide) (fun _ => ?_) (fun c_66 => absurd c_66 hr9)
            refine lv_iload_n hx hb ndF_hearText_77 rfl (lv_at hl 2 rfl) ?_
            exact fd_ret_i hx hb hr hlocks hS hP hD rfl (e1) ndF_hearText_78
  exact loop 20 0 3 fs fn (by omega) (by omega) hres _ _ _ hP hD hS (lv_sub hl [3, 2, 1, 0] rfl)
set_option maxHeartbeats 4000000 in
set_option maxRecDepth 100000 in
theorem kF_read_0 (l : Launch) (D : va_G) (Z : Nat → Nat) (cI cL : ClassId) {a0 a1 a2 a3 a4 a5 a6 a7 a8 a9 a10 n kd k wn od ok : Nat} {f fs wf os : Nat → Int32} {fn on : Nat → Int64} {cf : Int32} (hn : n ≤ 400) (hkd : kd ≤ 15) (hk : k ≤ 20) (hwn : wn ≤ 123) (hod : od ≤ 15) (hok : ok ≤ 20) (g1 : fd_kn f n 1 = 0) : fd_Mi l D fd_cl (fd_ty cI cL) (fd_EV Z) nyF_read (.code nyF_read ncF_read 2 (some .int) :: fd_TB) nmF_read [.ref a0] [(a0, .inr (2, [.ref a1, .ref a3, .ref a6, .ref a8, .int cf])), (a1, .inr (0, [.ref a2, .int (nI n)])), (a2, .inl (cI, 400, .inl f)), (a3, .inr (1, [.ref a4, .ref a5, .int (nI kd), .int (nI k)])), (a4, .inl (cI, 20, .inl fs)), (a5, .inl (cL, 20, .inr (.inl fn))), (a6, .inr (0, [.ref a7, .int (nI wn)])), (a7, .inl (cI, 123, .inl wf)), (a8, .inr (1, [.ref a9, .ref a10, .int (nI od), .int (nI ok)])), (a9, .inl (cI, 20, .inl os)), (a10, .inl (cL, 20, .inr (.inl on)))] [(a0, .inr (2, [.ref a1, .ref a3, .ref a6, .ref a8, .int cf])), (a1, .inr (0, [.ref a2, .int (nI 0)])), (a2, .inl (cI, 400, .inl f)), (a3, .inr (1, [.ref a4, .ref a5, .int (nI 0), .int (nI 0)])), (a4, .inl (cI, 20, .inl fs)), (a5, .inl (cL, 20, .inr (.inl fn))), (a6, .inr (0, [.ref a7, .int (nI wn)])), (a7, .inl (cI, 123, .inl wf)), (a8, .inr (1, [.ref a9, .ref a10, .int (nI od), .int (nI ok)])), (a9, .inl (cI, 20, .inl os)), (a10, .inl (cL, 20, .inr (.inl on)))] ((-1) - 0) := by
  refine fd_open_i (cc := ncF_read) (maxL := 2) (ret := (some .int)) (by decide) rfl (Nat.le_of_ble_eq_true rfl) ?_
  intro p e s m below meth c A ls X hP hD hS hl
  obtain ⟨hx, hb, hr, hml, hown, hts0, hlocks, hK, hEV, hA⟩ := X
  have hts : ∀ w ∈ fd_TB, w.before _ s = true := fun w h => hts0 w (List.mem_cons_of_mem _ h)
  have hE := fd_EV_ok Z
  have hown : s.vm.findClass "FieldDesk" = some m.cls := hown
  have hl : lv_has ls 2 [(0, .ref a0)] := hl
  refine lv_aload_n hx hb ndF_read_0 rfl (lv_at hl 0 rfl) ?_
  refine fd_go_i (wr := []) (w2 := [(a0, .inr (2, [.ref a1, .ref a3, .ref a6, .ref a8, .int cf])), (a1, .inr (0, [.ref a2, .int (nI n)])), (a2, .inl (cI, 400, .inl f)), (a3, .inr (1, [.ref a4, .ref a5, .int (nI kd), .int (nI k)])), (a4, .inl (cI, 20, .inl fs)), (a5, .inl (cL, 20, .inr (.inl fn))), (a6, .inr (0, [.ref a7, .int (nI wn)])), (a7, .inl (cI, 123, .inl wf)), (a8, .inr (1, [.ref a9, .ref a10, .int (nI od), .int (nI ok)])), (a9, .inl (cI, 20, .inl os)), (a10, .inl (cL, 20, .inr (.inl on)))]) (va_runV (As := []) (rest := []) ⟨hx, hb, hml, hown, hts⟩ (kF_hearText_0 l D Z cI cL (n := n) (f := f) (kd := kd) (k := k) (fs := fs) (fn := fn) (wn := wn) (wf := wf) (od := od) (ok := ok) (os := os) (on := on) (cf := cf) (by omega) (by omega) (by omega) (by omega) (by omega) (by omega) g1 s.heap.size) (cwV 0 hts (fd_gV tb_79 tb_80 tb_0 tb_13 tb_81) rfl rfl rfl nhF_hearText ⟨(Nat.le_of_ble_eq_true rfl), (Nat.le_of_ble_eq_true rfl)⟩) (fd_PreV hE hK hEV hA hP hD hS [0, 1, 2, 3, 4, 5, 6, 7, 8, 9, 10] rfl (by decide) (ci := 2) (q0 := 0) rfl rfl) rfl rfl hl.1 rfl (lv_room (Nat.le_of_ble_eq_true rfl)) ndF_read_1 ⟨(Nat.le_of_ble_eq_true rfl), (Nat.le_of_ble_eq_true rfl)⟩) hP hD hS hA [0, 1, 2, 3, 4, 5, 6, 7, 8, 9, 10] [] rfl rfl (by decide) (by decide) [0, 1, 2, 3, 4, 5, 6, 7, 8, 9, 10] rfl (by decide) (fun H locs hP hD hS => ?_)
  refine lv_istore_n (lv' := [(1, .int 0), (0, .ref a0)]) hx hb ndF_read_4 rfl hl (by decide) rfl (fun ls hl => ?_)
  refine lv_aload_n hx hb ndF_read_5 rfl (lv_at hl 1 rfl) ?_
  refine va_get (D := D) (ci := 2) (v := .ref a1) (C := nR_F) (T := nT_F) (N := 5) hx hb hts in_F hown hK hP 0 rfl rfl 0 (by decide) (hts _ tb_53) (fun _ h9 => h9) rfl ndF_read_6 ?_
  refine fd_go_v (wr := [(a0, .inr (2, [.ref a1, .ref a3, .ref a6, .ref a8, .int cf])), (a3, .inr (1, [.ref a4, .ref a5, .int (nI kd), .int (nI k)])), (a4, .inl (cI, 20, .inl fs)), (a5, .inl (cL, 20, .inr (.inl fn))), (a6, .inr (0, [.ref a7, .int (nI wn)])), (a7, .inl (cI, 123, .inl wf)), (a8, .inr (1, [.ref a9, .ref a10, .int (nI od), .int (nI ok)])), (a9, .inl (cI, 20, .inl os)), (a10, .inl (cL, 20, .inr (.inl on)))]) (w2 := [(a0, .inr (2, [.ref a1, .ref a3, .ref a6, .ref a8, .int cf])), (a1, .inr (0, [.ref a2, .int (nI 0)])), (a2, .inl (cI, 400, .inl f)), (a3, .inr (1, [.ref a4, .ref a5, .int (nI kd), .int (nI k)])), (a4, .inl (cI, 20, .inl fs)), (a5, .inl (cL, 20, .inr (.inl fn))), (a6, .inr (0, [.ref a7, .int (nI wn)])), (a7, .inl (cI, 123, .inl wf)), (a8, .inr (1, [.ref a9, .ref a10, .int (nI od), .int (nI ok)])), (a9, .inl (cI, 20, .inl os)), (a10, .inl (cL, 20, .inr (.inl on)))]) (va_runV (As := []) (rest := []) ⟨hx, hb, hml, hown, hts⟩ (kR_clear l D Z cI cL (n := n) (f := f) H.size) (cwV 0 hts (fd_gV tb_183 tb_184 tb_185 tb_14 tb_186) rfl rfl rfl nhR_clear ⟨(Nat.le_of_ble_eq_true rfl), (Nat.le_of_ble_eq_true rfl)⟩) (fd_PreV hE hK hEV hA hP hD hS [1, 2] rfl (by decide) (ci := 0) (q0 := 1) rfl rfl) rfl rfl hl.1 rfl (lv_room (Nat.le_of_ble_eq_true rfl)) ndF_read_9 ⟨(Nat.le_of_ble_eq_true rfl), (Nat.le_of_ble_eq_true rfl)⟩) hP hD hS hA [1, 2] [0, 3, 4, 5, 6, 7, 8, 9, 10] rfl rfl (by decide) (by decide) [0, 9, 10, 1, 2, 3, 4, 5, 6, 7, 8] rfl (by decide) (fun H locs hP hD hS => ?_)
  refine lv_iload_n hx hb ndF_read_12 rfl (lv_at hl 0 rfl) ?_
  refine lv_iconst (v := (-1)) hx hb ndF_read_13 (by decide) ?_
  refine lv_icmp_eq (tgt := 29) hx hb ndF_read_14 (by decide) (fun c_14 => absurd c_14 (by decide)) (fun _ => ?_)
  refine lv_aload_n hx hb ndF_read_17 rfl (lv_at hl 1 rfl) ?_
  refine va_get (D := D) (ci := 2) (v := .ref a3) (C := nR_F) (T := nT_F) (N := 5) hx hb hts in_F hown hK hP 0 rfl rfl 1 (by decide) (hts _ tb_54) (fun _ h9 => h9) rfl ndF_read_18 ?_
  refine lv_iconst (v := 0) hx hb ndF_read_21 (by decide) ?_
  refine fd_go_v (wr := [(a0, .inr (2, [.ref a1, .ref a3, .ref a6, .ref a8, .int cf])), (a1, .inr (0, [.ref a2, .int (nI 0)])), (a2, .inl (cI, 400, .inl f)), (a6, .inr (0, [.ref a7, .int (nI wn)])), (a7, .inl (cI, 123, .inl wf)), (a8, .inr (1, [.ref a9, .ref a10, .int (nI od), .int (nI ok)])), (a9, .inl (cI, 20, .inl os)), (a10, .inl (cL, 20, .inr (.inl on)))]) (w2 := [(a0, .inr (2, [.ref a1, .ref a3, .ref a6, .ref a8, .int cf])), (a1, .inr (0, [.ref a2, .int (nI 0)])), (a2, .inl (cI, 400, .inl f)), (a3, .inr (1, [.ref a4, .ref a5, .int (nI 0), .int (nI 0)])), (a4, .inl (cI, 20, .inl fs)), (a5, .inl (cL, 20, .inr (.inl fn))), (a6, .inr (0, [.ref a7, .int (nI wn)])), (a7, .inl (cI, 123, .inl wf)), (a8, .inr (1, [.ref a9, .ref a10, .int (nI od), .int (nI ok)])), (a9, .inl (cI, 20, .inl os)), (a10, .inl (cL, 20, .inr (.inl on)))]) (va_runV (As := [.int 0]) (rest := []) ⟨hx, hb, hml, hown, hts⟩ (kM_start l D Z cI cL (kd := kd) (n := k) (fs := fs) (fn := fn) (k := 0) H.size) (cwV 1 hts (fd_gV tb_125 tb_126 tb_127 tb_15 tb_128) rfl rfl rfl nhM_start ⟨(Nat.le_of_ble_eq_true rfl), (Nat.le_of_ble_eq_true rfl)⟩) (fd_PreV hE hK hEV hA hP hD hS [3, 4, 5] rfl (by decide) (ci := 1) (q0 := 3) rfl rfl) rfl rfl hl.1 rfl (lv_room (Nat.le_of_ble_eq_true rfl)) ndF_read_22 ⟨(Nat.le_of_ble_eq_true rfl), (Nat.le_of_ble_eq_true rfl)⟩) hP hD hS hA [3, 4, 5] [0, 1, 2, 6, 7, 8, 9, 10] rfl rfl (by decide) (by decide) [0, 1, 2, 8, 9, 10, 3, 4, 5, 6, 7] rfl (by decide) (fun H locs hP hD hS => ?_)
  refine lv_iconst (v := (-1)) hx hb ndF_read_25 (by decide) ?_
  refine lv_iload_n hx hb ndF_read_26 rfl (lv_at hl 0 rfl) ?_
  refine lv_isub hx hb ndF_read_27 ?_
  exact fd_ret_i hx hb hr hlocks hS hP hD rfl (rfl) ndF_read_28
set_option maxHeartbeats 4000000 in
set_option maxRecDepth 100000 in
theorem kF_read_1 (l : Launch) (D : va_G) (Z : Nat → Nat) (cI cL : ClassId) {a0 a1 a2 a3 a4 a5 a6 a7 a8 a9 a10 n kd k wn od ok : Nat} {f fs wf os : Nat → Int32} {fn on : Nat → Int64} {cf : Int32} (hn : n ≤ 400) (hkd : kd ≤ 15) (hk : k ≤ 20) (hwn : wn ≤ 123) (hod : od ≤ 15) (hok : ok ≤ 20) (g1 : ¬ fd_kn f n 1 = 0) (g2 : fd_kn f n 2 = 0) : fd_Mi l D fd_cl (fd_ty cI cL) (fd_EV Z) nyF_read (.code nyF_read ncF_read 2 (some .int) :: fd_TB) nmF_read [.ref a0] [(a0, .inr (2, [.ref a1, .ref a3, .ref a6, .ref a8, .int cf])), (a1, .inr (0, [.ref a2, .int (nI n)])), (a2, .inl (cI, 400, .inl f)), (a3, .inr (1, [.ref a4, .ref a5, .int (nI kd), .int (nI k)])), (a4, .inl (cI, 20, .inl fs)), (a5, .inl (cL, 20, .inr (.inl fn))), (a6, .inr (0, [.ref a7, .int (nI wn)])), (a7, .inl (cI, 123, .inl wf)), (a8, .inr (1, [.ref a9, .ref a10, .int (nI od), .int (nI ok)])), (a9, .inl (cI, 20, .inl os)), (a10, .inl (cL, 20, .inr (.inl on)))] [(a0, .inr (2, [.ref a1, .ref a3, .ref a6, .ref a8, .int cf])), (a1, .inr (0, [.ref a2, .int (nI 0)])), (a2, .inl (cI, 400, .inl f)), (a3, .inr (1, [.ref a4, .ref a5, .int (nI 0), .int (nI 0)])), (a4, .inl (cI, 20, .inl fs)), (a5, .inl (cL, 20, .inr (.inl fn))), (a6, .inr (0, [.ref a7, .int (nI wn)])), (a7, .inl (cI, 123, .inl wf)), (a8, .inr (1, [.ref a9, .ref a10, .int (nI od), .int (nI ok)])), (a9, .inl (cI, 20, .inl os)), (a10, .inl (cL, 20, .inr (.inl on)))] ((-1) - 1) := by
  refine fd_open_i (cc := ncF_read) (maxL := 2) (ret := (some .int)) (by decide) rfl (Nat.le_of_ble_eq_true rfl) ?_
  intro p e s m below meth c A ls X hP hD hS hl
  obtain ⟨hx, hb, hr, hml, hown, hts0, hlocks, hK, hEV, hA⟩ := X
  have hts : ∀ w ∈ fd_TB, w.before _ s = true := fun w h => hts0 w (List.mem_cons_of_mem _ h)
  have hE := fd_EV_ok Z
  have hown : s.vm.findClass "FieldDesk" = some m.cls := hown
  have hl : lv_has ls 2 [(0, .ref a0)] := hl
  refine lv_aload_n hx hb ndF_read_0 rfl (lv_at hl 0 rfl) ?_
  refine fd_go_i (wr := []) (w2 := [(a0, .inr (2, [.ref a1, .ref a3, .ref a6, .ref a8, .int cf])), (a1, .inr (0, [.ref a2, .int (nI n)])), (a2, .inl (cI, 400, .inl f)), (a3, .inr (1, [.ref a4, .ref a5, .int (nI kd), .int (nI k)])), (a4, .inl (cI, 20, .inl fs)), (a5, .inl (cL, 20, .inr (.inl fn))), (a6, .inr (0, [.ref a7, .int (nI wn)])), (a7, .inl (cI, 123, .inl wf)), (a8, .inr (1, [.ref a9, .ref a10, .int (nI od), .int (nI ok)])), (a9, .inl (cI, 20, .inl os)), (a10, .inl (cL, 20, .inr (.inl on)))]) (va_runV (As := []) (rest := []) ⟨hx, hb, hml, hown, hts⟩ (kF_hearText_1 l D Z cI cL (n := n) (f := f) (kd := kd) (k := k) (fs := fs) (fn := fn) (wn := wn) (wf := wf) (od := od) (ok := ok) (os := os) (on := on) (cf := cf) (by omega) (by omega) (by omega) (by omega) (by omega) (by omega) g1 g2 s.heap.size) (cwV 0 hts (fd_gV tb_79 tb_80 tb_0 tb_13 tb_81) rfl rfl rfl nhF_hearText ⟨(Nat.le_of_ble_eq_true rfl), (Nat.le_of_ble_eq_true rfl)⟩) (fd_PreV hE hK hEV hA hP hD hS [0, 1, 2, 3, 4, 5, 6, 7, 8, 9, 10] rfl (by decide) (ci := 2) (q0 := 0) rfl rfl) rfl rfl hl.1 rfl (lv_room (Nat.le_of_ble_eq_true rfl)) ndF_read_1 ⟨(Nat.le_of_ble_eq_true rfl), (Nat.le_of_ble_eq_true rfl)⟩) hP hD hS hA [0, 1, 2, 3, 4, 5, 6, 7, 8, 9, 10] [] rfl rfl (by decide) (by decide) [0, 1, 2, 3, 4, 5, 6, 7, 8, 9, 10] rfl (by decide) (fun H locs hP hD hS => ?_)
  refine lv_istore_n (lv' := [(1, .int 1), (0, .ref a0)]) hx hb ndF_read_4 rfl hl (by decide) rfl (fun ls hl => ?_)
  refine lv_aload_n hx hb ndF_read_5 rfl (lv_at hl 1 rfl) ?_
  refine va_get (D := D) (ci := 2) (v := .ref a1) (C := nR_F) (T := nT_F) (N := 5) hx hb hts in_F hown hK hP 0 rfl rfl 0 (by decide) (hts _ tb_53) (fun _ h9 => h9) rfl ndF_read_6 ?_
  refine fd_go_v (wr := [(a0, .inr (2, [.ref a1, .ref a3, .ref a6, .ref a8, .int cf])), (a3, .inr (1, [.ref a4, .ref a5, .int (nI kd), .int (nI k)])), (a4, .inl (cI, 20, .inl fs)), (a5, .inl (cL, 20, .inr (.inl fn))), (a6, .inr (0, [.ref a7, .int (nI wn)])), (a7, .inl (cI, 123, .inl wf)), (a8, .inr (1, [.ref a9, .ref a10, .int (nI od), .int (nI ok)])), (a9, .inl (cI, 20, .inl os)), (a10, .inl (cL, 20, .inr (.inl on)))]) (w2 := [(a0, .inr (2, [.ref a1, .ref a3, .ref a6, .ref a8, .int cf])), (a1, .inr (0, [.ref a2, .int (nI 0)])), (a2, .inl (cI, 400, .inl f)), (a3, .inr (1, [.ref a4, .ref a5, .int (nI kd), .int (nI k)])), (a4, .inl (cI, 20, .inl fs)), (a5, .inl (cL, 20, .inr (.inl fn))), (a6, .inr (0, [.ref a7, .int (nI wn)])), (a7, .inl (cI, 123, .inl wf)), (a8, .inr (1, [.ref a9, .ref a10, .int (nI od), .int (nI ok)])), (a9, .inl (cI, 20, .inl os)), (a10, .inl (cL, 20, .inr (.inl on)))]) (va_runV (As := []) (rest := []) ⟨hx, hb, hml, hown, hts⟩ (kR_clear l D Z cI cL (n := n) (f := f) H.size) (cwV 0 hts (fd_gV tb_183 tb_184 tb_185 tb_14 tb_186) rfl rfl rfl nhR_clear ⟨(Nat.le_of_ble_eq_true rfl), (Nat.le_of_ble_eq_true rfl)⟩) (fd_PreV hE hK hEV hA hP hD hS [1, 2] rfl (by decide) (ci := 0) (q0 := 1) rfl rfl) rfl rfl hl.1 rfl (lv_room (Nat.le_of_ble_eq_true rfl)) ndF_read_9 ⟨(Nat.le_of_ble_eq_true rfl), (Nat.le_of_ble_eq_true rfl)⟩) hP hD hS hA [1, 2] [0, 3, 4, 5, 6, 7, 8, 9, 10] rfl rfl (by decide) (by decide) [0, 9, 10, 1, 2, 3, 4, 5, 6, 7, 8] rfl (by decide) (fun H locs hP hD hS => ?_)
  refine lv_iload_n hx hb ndF_read_12 rfl (lv_at hl 0 rfl) ?_
  refine lv_iconst (v := (-1)) hx hb ndF_read_13 (by decide) ?_
  refine lv_icmp_eq (tgt := 29) hx hb ndF_read_14 (by decide) (fun c_14 => absurd c_14 (by decide)) (fun _ => ?_)
  refine lv_aload_n hx hb ndF_read_17 rfl (lv_at hl 1 rfl) ?_
  refine va_get (D := D) (ci := 2) (v := .ref a3) (C := nR_F) (T := nT_F) (N := 5) hx hb hts in_F hown hK hP 0 rfl rfl 1 (by decide) (hts _ tb_54) (fun _ h9 => h9) rfl ndF_read_18 ?_
  refine lv_iconst (v := 0) hx hb ndF_read_21 (by decide) ?_
  refine fd_go_v (wr := [(a0, .inr (2, [.ref a1, .ref a3, .ref a6, .ref a8, .int cf])), (a1, .inr (0, [.ref a2, .int (nI 0)])), (a2, .inl (cI, 400, .inl f)), (a6, .inr (0, [.ref a7, .int (nI wn)])), (a7, .inl (cI, 123, .inl wf)), (a8, .inr (1, [.ref a9, .ref a10, .int (nI od), .int (nI ok)])), (a9, .inl (cI, 20, .inl os)), (a10, .inl (cL, 20, .inr (.inl on)))]) (w2 := [(a0, .inr (2, [.ref a1, .ref a3, .ref a6, .ref a8, .int cf])), (a1, .inr (0, [.ref a2, .int (nI 0)])), (a2, .inl (cI, 400, .inl f)), (a3, .inr (1, [.ref a4, .ref a5, .int (nI 0), .int (nI 0)])), (a4, .inl (cI, 20, .inl fs)), (a5, .inl (cL, 20, .inr (.inl fn))), (a6, .inr (0, [.ref a7, .int (nI wn)])), (a7, .inl (cI, 123, .inl wf)), (a8, .inr (1, [.ref a9, .ref a10, .int (nI od), .int (nI ok)])), (a9, .inl (cI, 20, .inl os)), (a10, .inl (cL, 20, .inr (.inl on)))]) (va_runV (As := [.int 0]) (rest := []) ⟨hx, hb, hml, hown, hts⟩ (kM_start l D Z cI cL (kd := kd) (n := k) (fs := fs) (fn := fn) (k := 0) H.size) (cwV 1 hts (fd_gV tb_125 tb_126 tb_127 tb_15 tb_128) rfl rfl rfl nhM_start ⟨(Nat.le_of_ble_eq_true rfl), (Nat.le_of_ble_eq_true rfl)⟩) (fd_PreV hE hK hEV hA hP hD hS [3, 4, 5] rfl (by decide) (ci := 1) (q0 := 3) rfl rfl) rfl rfl hl.1 rfl (lv_room (Nat.le_of_ble_eq_true rfl)) ndF_read_22 ⟨(Nat.le_of_ble_eq_true rfl), (Nat.le_of_ble_eq_true rfl)⟩) hP hD hS hA [3, 4, 5] [0, 1, 2, 6, 7, 8, 9, 10] rfl rfl (by decide) (by decide) [0, 1, 2, 8, 9, 10, 3, 4, 5, 6, 7] rfl (by decide) (fun H locs hP hD hS => ?_)
  refine lv_iconst (v := (-1)) hx hb ndF_read_25 (by decide) ?_
  refine lv_iload_n hx hb ndF_read_26 rfl (lv_at hl 0 rfl) ?_
  refine lv_isub hx hb ndF_read_27 ?_
  exact fd_ret_i hx hb hr hlocks hS hP hD rfl (rfl) ndF_read_28
set_option maxHeartbeats 4000000 in
set_option maxRecDepth 100000 in
theorem kF_read_2 (l : Launch) (D : va_G) (Z : Nat → Nat) (cI cL : ClassId) {a0 a1 a2 a3 a4 a5 a6 a7 a8 a9 a10 n kd k wn od ok : Nat} {f fs wf os : Nat → Int32} {fn on : Nat → Int64} {cf : Int32} (hn : n ≤ 400) (hkd : kd ≤ 15) (hk : k ≤ 20) (hwn : wn ≤ 123) (hod : od ≤ 15) (hok : ok ≤ 20) (g1 : ¬ fd_kn f n 1 = 0) (g2 : ¬ fd_kn f n 2 = 0) (g3 : fd_kn f n 3 = 0) : fd_Mi l D fd_cl (fd_ty cI cL) (fd_EV Z) nyF_read (.code nyF_read ncF_read 2 (some .int) :: fd_TB) nmF_read [.ref a0] [(a0, .inr (2, [.ref a1, .ref a3, .ref a6, .ref a8, .int cf])), (a1, .inr (0, [.ref a2, .int (nI n)])), (a2, .inl (cI, 400, .inl f)), (a3, .inr (1, [.ref a4, .ref a5, .int (nI kd), .int (nI k)])), (a4, .inl (cI, 20, .inl fs)), (a5, .inl (cL, 20, .inr (.inl fn))), (a6, .inr (0, [.ref a7, .int (nI wn)])), (a7, .inl (cI, 123, .inl wf)), (a8, .inr (1, [.ref a9, .ref a10, .int (nI od), .int (nI ok)])), (a9, .inl (cI, 20, .inl os)), (a10, .inl (cL, 20, .inr (.inl on)))] [(a0, .inr (2, [.ref a1, .ref a3, .ref a6, .ref a8, .int cf])), (a1, .inr (0, [.ref a2, .int (nI 0)])), (a2, .inl (cI, 400, .inl f)), (a3, .inr (1, [.ref a4, .ref a5, .int (nI 0), .int (nI 0)])), (a4, .inl (cI, 20, .inl fs)), (a5, .inl (cL, 20, .inr (.inl fn))), (a6, .inr (0, [.ref a7, .int (nI wn)])), (a7, .inl (cI, 123, .inl wf)), (a8, .inr (1, [.ref a9, .ref a10, .int (nI od), .int (nI ok)])), (a9, .inl (cI, 20, .inl os)), (a10, .inl (cL, 20, .inr (.inl on)))] ((-1) - 2) := by
  refine fd_open_i (cc := ncF_read) (maxL := 2) (ret := (some .int)) (by decide) rfl (Nat.le_of_ble_eq_true rfl) ?_
  intro p e s m below meth c A ls X hP hD hS hl
  obtain ⟨hx, hb, hr, hml, hown, hts0, hlocks, hK, hEV, hA⟩ := X
  have hts : ∀ w ∈ fd_TB, w.before _ s = true := fun w h => hts0 w (List.mem_cons_of_mem _ h)
  have hE := fd_EV_ok Z
  have hown : s.vm.findClass "FieldDesk" = some m.cls := hown
  have hl : lv_has ls 2 [(0, .ref a0)] := hl
  refine lv_aload_n hx hb ndF_read_0 rfl (lv_at hl 0 rfl) ?_
  refine fd_go_i (wr := []) (w2 := [(a0, .inr (2, [.ref a1, .ref a3, .ref a6, .ref a8, .int cf])), (a1, .inr (0, [.ref a2, .int (nI n)])), (a2, .inl (cI, 400, .inl f)), (a3, .inr (1, [.ref a4, .ref a5, .int (nI kd), .int (nI k)])), (a4, .inl (cI, 20, .inl fs)), (a5, .inl (cL, 20, .inr (.inl fn))), (a6, .inr (0, [.ref a7, .int (nI wn)])), (a7, .inl (cI, 123, .inl wf)), (a8, .inr (1, [.ref a9, .ref a10, .int (nI od), .int (nI ok)])), (a9, .inl (cI, 20, .inl os)), (a10, .inl (cL, 20, .inr (.inl on)))]) (va_runV (As := []) (rest := []) ⟨hx, hb, hml, hown, hts⟩ (kF_hearText_2 l D Z cI cL (n := n) (f := f) (kd := kd) (k := k) (fs := fs) (fn := fn) (wn := wn) (wf := wf) (od := od) (ok := ok) (os := os) (on := on) (cf := cf) (by omega) (by omega) (by omega) (by omega) (by omega) (by omega) g1 g2 g3 s.heap.size) (cwV 0 hts (fd_gV tb_79 tb_80 tb_0 tb_13 tb_81) rfl rfl rfl nhF_hearText ⟨(Nat.le_of_ble_eq_true rfl), (Nat.le_of_ble_eq_true rfl)⟩) (fd_PreV hE hK hEV hA hP hD hS [0, 1, 2, 3, 4, 5, 6, 7, 8, 9, 10] rfl (by decide) (ci := 2) (q0 := 0) rfl rfl) rfl rfl hl.1 rfl (lv_room (Nat.le_of_ble_eq_true rfl)) ndF_read_1 ⟨(Nat.le_of_ble_eq_true rfl), (Nat.le_of_ble_eq_true rfl)⟩) hP hD hS hA [0, 1, 2, 3, 4, 5, 6, 7, 8, 9, 10] [] rfl rfl (by decide) (by decide) [0, 1, 2, 3, 4, 5, 6, 7, 8, 9, 10] rfl (by decide) (fun H locs hP hD hS => ?_)
  refine lv_istore_n (lv' := [(1, .int 2), (0, .ref a0)]) hx hb ndF_read_4 rfl hl (by decide) rfl (fun ls hl => ?_)
  refine lv_aload_n hx hb ndF_read_5 rfl (lv_at hl 1 rfl) ?_
  refine va_get (D := D) (ci := 2) (v := .ref a1) (C := nR_F) (T := nT_F) (N := 5) hx hb hts in_F hown hK hP 0 rfl rfl 0 (by decide) (hts _ tb_53) (fun _ h9 => h9) rfl ndF_read_6 ?_
  refine fd_go_v (wr := [(a0, .inr (2, [.ref a1, .ref a3, .ref a6, .ref a8, .int cf])), (a3, .inr (1, [.ref a4, .ref a5, .int (nI kd), .int (nI k)])), (a4, .inl (cI, 20, .inl fs)), (a5, .inl (cL, 20, .inr (.inl fn))), (a6, .inr (0, [.ref a7, .int (nI wn)])), (a7, .inl (cI, 123, .inl wf)), (a8, .inr (1, [.ref a9, .ref a10, .int (nI od), .int (nI ok)])), (a9, .inl (cI, 20, .inl os)), (a10, .inl (cL, 20, .inr (.inl on)))]) (w2 := [(a0, .inr (2, [.ref a1, .ref a3, .ref a6, .ref a8, .int cf])), (a1, .inr (0, [.ref a2, .int (nI 0)])), (a2, .inl (cI, 400, .inl f)), (a3, .inr (1, [.ref a4, .ref a5, .int (nI kd), .int (nI k)])), (a4, .inl (cI, 20, .inl fs)), (a5, .inl (cL, 20, .inr (.inl fn))), (a6, .inr (0, [.ref a7, .int (nI wn)])), (a7, .inl (cI, 123, .inl wf)), (a8, .inr (1, [.ref a9, .ref a10, .int (nI od), .int (nI ok)])), (a9, .inl (cI, 20, .inl os)), (a10, .inl (cL, 20, .inr (.inl on)))]) (va_runV (As := []) (rest := []) ⟨hx, hb, hml, hown, hts⟩ (kR_clear l D Z cI cL (n := n) (f := f) H.size) (cwV 0 hts (fd_gV tb_183 tb_184 tb_185 tb_14 tb_186) rfl rfl rfl nhR_clear ⟨(Nat.le_of_ble_eq_true rfl), (Nat.le_of_ble_eq_true rfl)⟩) (fd_PreV hE hK hEV hA hP hD hS [1, 2] rfl (by decide) (ci := 0) (q0 := 1) rfl rfl) rfl rfl hl.1 rfl (lv_room (Nat.le_of_ble_eq_true rfl)) ndF_read_9 ⟨(Nat.le_of_ble_eq_true rfl), (Nat.le_of_ble_eq_true rfl)⟩) hP hD hS hA [1, 2] [0, 3, 4, 5, 6, 7, 8, 9, 10] rfl rfl (by decide) (by decide) [0, 9, 10, 1, 2, 3, 4, 5, 6, 7, 8] rfl (by decide) (fun H locs hP hD hS => ?_)
  refine lv_iload_n hx hb ndF_read_12 rfl (lv_at hl 0 rfl) ?_
  refine lv_iconst (v := (-1)) hx hb ndF_read_13 (by decide) ?_
  refine lv_icmp_eq (tgt := 29) hx hb ndF_read_14 (by decide) (fun c_14 => absurd c_14 (by decide)) (fun _ => ?_)
  refine lv_aload_n hx hb ndF_read_17 rfl (lv_at hl 1 rfl) ?_
  refine va_get (D := D) (ci := 2) (v := .ref a3) (C := nR_F) (T := nT_F) (N := 5) hx hb hts in_F hown hK hP 0 rfl rfl 1 (by decide) (hts _ tb_54) (fun _ h9 => h9) rfl ndF_read_18 ?_
  refine lv_iconst (v := 0) hx hb ndF_read_21 (by decide) ?_
  refine fd_go_v (wr := [(a0, .inr (2, [.ref a1, .ref a3, .ref a6, .ref a8, .int cf])), (a1, .inr (0, [.ref a2, .int (nI 0)])), (a2, .inl (cI, 400, .inl f)), (a6, .inr (0, [.ref a7, .int (nI wn)])), (a7, .inl (cI, 123, .inl wf)), (a8, .inr (1, [.ref a9, .ref a10, .int (nI od), .int (nI ok)])), (a9, .inl (cI, 20, .inl os)), (a10, .inl (cL, 20, .inr (.inl on)))]) (w2 := [(a0, .inr (2, [.ref a1, .ref a3, .ref a6, .ref a8, .int cf])), (a1, .inr (0, [.ref a2, .int (nI 0)])), (a2, .inl (cI, 400, .inl f)), (a3, .inr (1, [.ref a4, .ref a5, .int (nI 0), .int (nI 0)])), (a4, .inl (cI, 20, .inl fs)), (a5, .inl (cL, 20, .inr (.inl fn))), (a6, .inr (0, [.ref a7, .int (nI wn)])), (a7, .inl (cI, 123, .inl wf)), (a8, .inr (1, [.ref a9, .ref a10, .int (nI od), .int (nI ok)])), (a9, .inl (cI, 20, .inl os)), (a10, .inl (cL, 20, .inr (.inl on)))]) (va_runV (As := [.int 0]) (rest := []) ⟨hx, hb, hml, hown, hts⟩ (kM_start l D Z cI cL (kd := kd) (n := k) (fs := fs) (fn := fn) (k := 0) H.size) (cwV 1 hts (fd_gV tb_125 tb_126 tb_127 tb_15 tb_128) rfl rfl rfl nhM_start ⟨(Nat.le_of_ble_eq_true rfl), (Nat.le_of_ble_eq_true rfl)⟩) (fd_PreV hE hK hEV hA hP hD hS [3, 4, 5] rfl (by decide) (ci := 1) (q0 := 3) rfl rfl) rfl rfl hl.1 rfl (lv_room (Nat.le_of_ble_eq_true rfl)) ndF_read_22 ⟨(Nat.le_of_ble_eq_true rfl), (Nat.le_of_ble_eq_true rfl)⟩) hP hD hS hA [3, 4, 5] [0, 1, 2, 6, 7, 8, 9, 10] rfl rfl (by decide) (by decide) [0, 1, 2, 8, 9, 10, 3, 4, 5, 6, 7] rfl (by decide) (fun H locs hP hD hS => ?_)
  refine lv_iconst (v := (-1)) hx hb ndF_read_25 (by decide) ?_
  refine lv_iload_n hx hb ndF_read_26 rfl (lv_at hl 0 rfl) ?_
  refine lv_isub hx hb ndF_read_27 ?_
  exact fd_ret_i hx hb hr hlocks hS hP hD rfl (rfl) ndF_read_28
set_option maxHeartbeats 4000000 in
set_option maxRecDepth 100000 in
theorem kF_read_no (l : Launch) (D : va_G) (Z : Nat → Nat) (cI cL : ClassId) {a0 a1 a2 a3 a4 a5 a6 a7 a8 a9 a10 n kd k wn od ok : Nat} {f fs wf os : Nat → Int32} {fn on : Nat → Int64} {cf : Int32} (hn : n ≤ 400) (hkd : kd ≤ 15) (hk : k ≤ 20) (hwn : wn ≤ 123) (hod : od ≤ 15) (hok : ok ≤ 20) (g1 : ¬ fd_kn f n 1 = 0) (g2 : ¬ fd_kn f n 2 = 0) (g3 : ¬ fd_kn f n 3 = 0) {r : Int32} {k9 : Nat} {fs9 : Nat → Int32} {fn9 : Nat → Int64} (hres : fd_ht f n (fd_kn f n 3) 20 0 3 fs fn = (r, k9, fs9, fn9)) (hk9 : k9 ≤ 20) (hr2 : ¬ r = -1) : fd_Mi l D fd_cl (fd_ty cI cL) (fd_EV Z) nyF_read (.code nyF_read ncF_read 2 (some .int) :: fd_TB) nmF_read [.ref a0] [(a0, .inr (2, [.ref a1, .ref a3, .ref a6, .ref a8, .int cf])), (a1, .inr (0, [.ref a2, .int (nI n)])), (a2, .inl (cI, 400, .inl f)), (a3, .inr (1, [.ref a4, .ref a5, .int (nI kd), .int (nI k)])), (a4, .inl (cI, 20, .inl fs)), (a5, .inl (cL, 20, .inr (.inl fn))), (a6, .inr (0, [.ref a7, .int (nI wn)])), (a7, .inl (cI, 123, .inl wf)), (a8, .inr (1, [.ref a9, .ref a10, .int (nI od), .int (nI ok)])), (a9, .inl (cI, 20, .inl os)), (a10, .inl (cL, 20, .inr (.inl on)))] [(a0, .inr (2, [.ref a1, .ref a3, .ref a6, .ref a8, .int cf])), (a1, .inr (0, [.ref a2, .int (nI 0)])), (a2, .inl (cI, 400, .inl f)), (a3, .inr (1, [.ref a4, .ref a5, .int (nI 0), .int (nI 0)])), (a4, .inl (cI, 20, .inl fs9)), (a5, .inl (cL, 20, .inr (.inl fn9))), (a6, .inr (0, [.ref a7, .int (nI wn)])), (a7, .inl (cI, 123, .inl wf)), (a8, .inr (1, [.ref a9, .ref a10, .int (nI od), .int (nI ok)])), (a9, .inl (cI, 20, .inl os)), (a10, .inl (cL, 20, .inr (.inl on)))] ((-1) - r) := by
  have K1 := fd_kn_le f n 1
  have K2 := fd_kn_le f n 2
  have K3 := fd_kn_le f n 3
  refine fd_open_i (cc := ncF_read) (maxL := 2) (ret := (some .int)) (by decide) rfl (Nat.le_of_ble_eq_true rfl) ?_
  intro p e s m below meth c A ls X hP hD hS hl
  obtain ⟨hx, hb, hr, hml, hown, hts0, hlocks, hK, hEV, hA⟩ := X
  have hts : ∀ w ∈ fd_TB, w.before _ s = true := fun w h => hts0 w (List.mem_cons_of_mem _ h)
  have hE := fd_EV_ok Z
  have hown : s.vm.findClass "FieldDesk" = some m.cls := hown
  have hl : lv_has ls 2 [(0, .ref a0)] := hl
  refine lv_aload_n hx hb ndF_read_0 rfl (lv_at hl 0 rfl) ?_
  refine fd_go_i (wr := []) (w2 := [(a0, .inr (2, [.ref a1, .ref a3, .ref a6, .ref a8, .int cf])), (a1, .inr (0, [.ref a2, .int (nI n)])), (a2, .inl (cI, 400, .inl f)), (a3, .inr (1, [.ref a4, .ref a5, .int (nI ((fd_kn f n 3))), .int (nI k9)])), (a4, .inl (cI, 20, .inl fs9)), (a5, .inl (cL, 20, .inr (.inl fn9))), (a6, .inr (0, [.ref a7, .int (nI wn)])), (a7, .inl (cI, 123, .inl wf)), (a8, .inr (1, [.ref a9, .ref a10, .int (nI od), .int (nI ok)])), (a9, .inl (cI, 20, .inl os)), (a10, .inl (cL, 20, .inr (.inl on)))]) (va_runV (As := []) (rest := []) ⟨hx, hb, hml, hown, hts⟩ (kF_hearText_ok l D Z cI cL (n := n) (f := f) (kd := kd) (k := k) (fs := fs) (fn := fn) (wn := wn) (wf := wf) (od := od) (ok := ok) (os := os) (on := on) (cf := cf) (by omega) (by omega) (by omega) (by omega) (by omega) (by omega) g1 g2 g3 hres s.heap.size) (cwV 0 hts (fd_gV tb_79 tb_80 tb_0 tb_13 tb_81) rfl rfl rfl nhF_hearText ⟨(Nat.le_of_ble_eq_true rfl), (Nat.le_of_ble_eq_true rfl)⟩) (fd_PreV hE hK hEV hA hP hD hS [0, 1, 2, 3, 4, 5, 6, 7, 8, 9, 10] rfl (by decide) (ci := 2) (q0 := 0) rfl rfl) rfl rfl hl.1 rfl (lv_room (Nat.le_of_ble_eq_true rfl)) ndF_read_1 ⟨(Nat.le_of_ble_eq_true rfl), (Nat.le_of_ble_eq_true rfl)⟩) hP hD hS hA [0, 1, 2, 3, 4, 5, 6, 7, 8, 9, 10] [] rfl rfl (by decide) (by decide) [0, 1, 2, 3, 4, 5, 6, 7, 8, 9, 10] rfl (by decide) (fun H locs hP hD hS => ?_)
  refine lv_istore_n (lv' := [(1, .int r), (0, .ref a0)]) hx hb ndF_read_4 rfl hl (by decide) rfl (fun ls hl => ?_)
  refine lv_aload_n hx hb ndF_read_5 rfl (lv_at hl 1 rfl) ?_
  refine va_get (D := D) (ci := 2) (v := .ref a1) (C := nR_F) (T := nT_F) (N := 5) hx hb hts in_F hown hK hP 0 rfl rfl 0 (by decide) (hts _ tb_53) (fun _ h9 => h9) rfl ndF_read_6 ?_
  refine fd_go_v (wr := [(a0, .inr (2, [.ref a1, .ref a3, .ref a6, .ref a8, .int cf])), (a3, .inr (1, [.ref a4, .ref a5, .int (nI ((fd_kn f n 3))), .int (nI k9)])), (a4, .inl (cI, 20, .inl fs9)), (a5, .inl (cL, 20, .inr (.inl fn9))), (a6, .inr (0, [.ref a7, .int (nI wn)])), (a7, .inl (cI, 123, .inl wf)), (a8, .inr (1, [.ref a9, .ref a10, .int (nI od), .int (nI ok)])), (a9, .inl (cI, 20, .inl os)), (a10, .inl (cL, 20, .inr (.inl on)))]) (w2 := [(a0, .inr (2, [.ref a1, .ref a3, .ref a6, .ref a8, .int cf])), (a1, .inr (0, [.ref a2, .int (nI 0)])), (a2, .inl (cI, 400, .inl f)), (a3, .inr (1, [.ref a4, .ref a5, .int (nI ((fd_kn f n 3))), .int (nI k9)])), (a4, .inl (cI, 20, .inl fs9)), (a5, .inl (cL, 20, .inr (.inl fn9))), (a6, .inr (0, [.ref a7, .int (nI wn)])), (a7, .inl (cI, 123, .inl wf)), (a8, .inr (1, [.ref a9, .ref a10, .int (nI od), .int (nI ok)])), (a9, .inl (cI, 20, .inl os)), (a10, .inl (cL, 20, .inr (.inl on)))]) (va_runV (As := []) (rest := []) ⟨hx, hb, hml, hown, hts⟩ (kR_clear l D Z cI cL (n := n) (f := f) H.size) (cwV 0 hts (fd_gV tb_183 tb_184 tb_185 tb_14 tb_186) rfl rfl rfl nhR_clear ⟨(Nat.le_of_ble_eq_true rfl), (Nat.le_of_ble_eq_true rfl)⟩) (fd_PreV hE hK hEV hA hP hD hS [1, 2] rfl (by decide) (ci := 0) (q0 := 1) rfl rfl) rfl rfl hl.1 rfl (lv_room (Nat.le_of_ble_eq_true rfl)) ndF_read_9 ⟨(Nat.le_of_ble_eq_true rfl), (Nat.le_of_ble_eq_true rfl)⟩) hP hD hS hA [1, 2] [0, 3, 4, 5, 6, 7, 8, 9, 10] rfl rfl (by decide) (by decide) [0, 9, 10, 1, 2, 3, 4, 5, 6, 7, 8] rfl (by decide) (fun H locs hP hD hS => ?_)
  refine lv_iload_n hx hb ndF_read_12 rfl (lv_at hl 0 rfl) ?_
  refine lv_iconst (v := (-1)) hx hb ndF_read_13 (by decide) ?_
  refine lv_icmp_eq (tgt := 29) hx hb ndF_read_14 (by decide) (fun c_14 => absurd c_14 hr2) (fun _ => ?_)
  refine lv_aload_n hx hb ndF_read_17 rfl (lv_at hl 1 rfl) ?_
  refine va_get (D := D) (ci := 2) (v := .ref a3) (C := nR_F) (T := nT_F) (N := 5) hx hb hts in_F hown hK hP 0 rfl rfl 1 (by decide) (hts _ tb_54) (fun _ h9 => h9) rfl ndF_read_18 ?_
  refine lv_iconst (v := 0) hx hb ndF_read_21 (by decide) ?_
  refine fd_go_v (wr := [(a0, .inr (2, [.ref a1, .ref a3, .ref a6, .ref a8, .int cf])), (a1, .inr (0, [.ref a2, .int (nI 0)])), (a2, .inl (cI, 400, .inl f)), (a6, .inr (0, [.ref a7, .int (nI wn)])), (a7, .inl (cI, 123, .inl wf)), (a8, .inr (1, [.ref a9, .ref a10, .int (nI od), .int (nI ok)])), (a9, .inl (cI, 20, .inl os)), (a10, .inl (cL, 20, .inr (.inl on)))]) (w2 := [(a0, .inr (2, [.ref a1, .ref a3, .ref a6, .ref a8, .int cf])), (a1, .inr (0, [.ref a2, .int (nI 0)])), (a2, .inl (cI, 400, .inl f)), (a3, .inr (1, [.ref a4, .ref a5, .int (nI 0), .int (nI 0)])), (a4, .inl (cI, 20, .inl fs9)), (a5, .inl (cL, 20, .inr (.inl fn9))), (a6, .inr (0, [.ref a7, .int (nI wn)])), (a7, .inl (cI, 123, .inl wf)), (a8, .inr (1, [.ref a9, .ref a10, .int (nI od), .int (nI ok)])), (a9, .inl (cI, 20, .inl os)), (a10, .inl (cL, 20, .inr (.inl on)))]) (va_runV (As := [.int 0]) (rest := []) ⟨hx, hb, hml, hown, hts⟩ (kM_start l D Z cI cL (kd := ((fd_kn f n 3))) (n := k9) (fs := fs9) (fn := fn9) (k := 0) H.size) (cwV 1 hts (fd_gV tb_125 tb_126 tb_127 tb_15 tb_128) rfl rfl rfl nhM_start ⟨(Nat.le_of_ble_eq_true rfl), (Nat.le_of_ble_eq_true rfl)⟩) (fd_PreV hE hK hEV hA hP hD hS [3, 4, 5] rfl (by decide) (ci := 1) (q0 := 3) rfl rfl) rfl rfl hl.1 rfl (lv_room (Nat.le_of_ble_eq_true rfl)) ndF_read_22 ⟨(Nat.le_of_ble_eq_true rfl), (Nat.le_of_ble_eq_true rfl)⟩) hP hD hS hA [3, 4, 5] [0, 1, 2, 6, 7, 8, 9, 10] rfl rfl (by decide) (by decide) [0, 1, 2, 8, 9, 10, 3, 4, 5, 6, 7] rfl (by decide) (fun H locs hP hD hS => ?_)
  refine lv_iconst (v := (-1)) hx hb ndF_read_25 (by decide) ?_
  refine lv_iload_n hx hb ndF_read_26 rfl (lv_at hl 0 rfl) ?_
  refine lv_isub hx hb ndF_read_27 ?_
  exact fd_ret_i hx hb hr hlocks hS hP hD rfl (rfl) ndF_read_28
set_option maxHeartbeats 4000000 in
set_option maxRecDepth 100000 in
theorem kF_read_ok (l : Launch) (D : va_G) (Z : Nat → Nat) (cI cL : ClassId) {a0 a1 a2 a3 a4 a5 a6 a7 a8 a9 a10 n kd k wn od ok : Nat} {f fs wf os : Nat → Int32} {fn on : Nat → Int64} {cf : Int32} (hn : n ≤ 400) (hkd : kd ≤ 15) (hk : k ≤ 20) (hwn : wn ≤ 123) (hod : od ≤ 15) (hok : ok ≤ 20) (g1 : ¬ fd_kn f n 1 = 0) (g2 : ¬ fd_kn f n 2 = 0) (g3 : ¬ fd_kn f n 3 = 0) {r : Int32} {k9 : Nat} {fs9 : Nat → Int32} {fn9 : Nat → Int64} (hres : fd_ht f n (fd_kn f n 3) 20 0 3 fs fn = (r, k9, fs9, fn9)) (hk9 : k9 ≤ 20) (hr2 : r = -1) : fd_Mi l D fd_cl (fd_ty cI cL) (fd_EV Z) nyF_read (.code nyF_read ncF_read 2 (some .int) :: fd_TB) nmF_read [.ref a0] [(a0, .inr (2, [.ref a1, .ref a3, .ref a6, .ref a8, .int cf])), (a1, .inr (0, [.ref a2, .int (nI n)])), (a2, .inl (cI, 400, .inl f)), (a3, .inr (1, [.ref a4, .ref a5, .int (nI kd), .int (nI k)])), (a4, .inl (cI, 20, .inl fs)), (a5, .inl (cL, 20, .inr (.inl fn))), (a6, .inr (0, [.ref a7, .int (nI wn)])), (a7, .inl (cI, 123, .inl wf)), (a8, .inr (1, [.ref a9, .ref a10, .int (nI od), .int (nI ok)])), (a9, .inl (cI, 20, .inl os)), (a10, .inl (cL, 20, .inr (.inl on)))] [(a0, .inr (2, [.ref a1, .ref a3, .ref a6, .ref a8, .int cf])), (a1, .inr (0, [.ref a2, .int (nI 0)])), (a2, .inl (cI, 400, .inl f)), (a3, .inr (1, [.ref a4, .ref a5, .int (nI ((fd_kn f n 3))), .int (nI k9)])), (a4, .inl (cI, 20, .inl fs9)), (a5, .inl (cL, 20, .inr (.inl fn9))), (a6, .inr (0, [.ref a7, .int (nI wn)])), (a7, .inl (cI, 123, .inl wf)), (a8, .inr (1, [.ref a9, .ref a10, .int (nI od), .int (nI ok)])), (a9, .inl (cI, 20, .inl os)), (a10, .inl (cL, 20, .inr (.inl on)))] (nI (fd_kn f n 3)) := by
  have K1 := fd_kn_le f n 1
  have K2 := fd_kn_le f n 2
  have K3 := fd_kn_le f n 3
  refine fd_open_i (cc := ncF_read) (maxL := 2) (ret := (some .int)) (by decide) rfl (Nat.le_of_ble_eq_true rfl) ?_
  intro p e s m below meth c A ls X hP hD hS hl
  obtain ⟨hx, hb, hr, hml, hown, hts0, hlocks, hK, hEV, hA⟩ := X
  have hts : ∀ w ∈ fd_TB, w.before _ s = true := fun w h => hts0 w (List.mem_cons_of_mem _ h)
  have hE := fd_EV_ok Z
  have hown : s.vm.findClass "FieldDesk" = some m.cls := hown
  have hl : lv_has ls 2 [(0, .ref a0)] := hl
  refine lv_aload_n hx hb ndF_read_0 rfl (lv_at hl 0 rfl) ?_
  refine fd_go_i (wr := []) (w2 := [(a0, .inr (2, [.ref a1, .ref a3, .ref a6, .ref a8, .int cf])), (a1, .inr (0, [.ref a2, .int (nI n)])), (a2, .inl (cI, 400, .inl f)), (a3, .inr (1, [.ref a4, .ref a5, .int (nI ((fd_kn f n 3))), .int (nI k9)])), (a4, .inl (cI, 20, .inl fs9)), (a5, .inl (cL, 20, .inr (.inl fn9))), (a6, .inr (0, [.ref a7, .int (nI wn)])), (a7, .inl (cI, 123, .inl wf)), (a8, .inr (1, [.ref a9, .ref a10, .int (nI od), .int (nI ok)])), (a9, .inl (cI, 20, .inl os)), (a10, .inl (cL, 20, .inr (.inl on)))]) (va_runV (As := []) (rest := []) ⟨hx, hb, hml, hown, hts⟩ (kF_hearText_ok l D Z cI cL (n := n) (f := f) (kd := kd) (k := k) (fs := fs) (fn := fn) (wn := wn) (wf := wf) (od := od) (ok := ok) (os := os) (on := on) (cf := cf) (by omega) (by omega) (by omega) (by omega) (by omega) (by omega) g1 g2 g3 hres s.heap.size) (cwV 0 hts (fd_gV tb_79 tb_80 tb_0 tb_13 tb_81) rfl rfl rfl nhF_hearText ⟨(Nat.le_of_ble_eq_true rfl), (Nat.le_of_ble_eq_true rfl)⟩) (fd_PreV hE hK hEV hA hP hD hS [0, 1, 2, 3, 4, 5, 6, 7, 8, 9, 10] rfl (by decide) (ci := 2) (q0 := 0) rfl rfl) rfl rfl hl.1 rfl (lv_room (Nat.le_of_ble_eq_true rfl)) ndF_read_1 ⟨(Nat.le_of_ble_eq_true rfl), (Nat.le_of_ble_eq_true rfl)⟩) hP hD hS hA [0, 1, 2, 3, 4, 5, 6, 7, 8, 9, 10] [] rfl rfl (by decide) (by decide) [0, 1, 2, 3, 4, 5, 6, 7, 8, 9, 10] rfl (by decide) (fun H locs hP hD hS => ?_)
  refine lv_istore_n (lv' := [(1, .int r), (0, .ref a0)]) hx hb ndF_read_4 rfl hl (by decide) rfl (fun ls hl => ?_)
  refine lv_aload_n hx hb ndF_read_5 rfl (lv_at hl 1 rfl) ?_
  refine va_get (D := D) (ci := 2) (v := .ref a1) (C := nR_F) (T := nT_F) (N := 5) hx hb hts in_F hown hK hP 0 rfl rfl 0 (by decide) (hts _ tb_53) (fun _ h9 => h9) rfl ndF_read_6 ?_
  refine fd_go_v (wr := [(a0, .inr (2, [.ref a1, .ref a3, .ref a6, .ref a8, .int cf])), (a3, .inr (1, [.ref a4, .ref a5, .int (nI ((fd_kn f n 3))), .int (nI k9)])), (a4, .inl (cI, 20, .inl fs9)), (a5, .inl (cL, 20, .inr (.inl fn9))), (a6, .inr (0, [.ref a7, .int (nI wn)])), (a7, .inl (cI, 123, .inl wf)), (a8, .inr (1, [.ref a9, .ref a10, .int (nI od), .int (nI ok)])), (a9, .inl (cI, 20, .inl os)), (a10, .inl (cL, 20, .inr (.inl on)))]) (w2 := [(a0, .inr (2, [.ref a1, .ref a3, .ref a6, .ref a8, .int cf])), (a1, .inr (0, [.ref a2, .int (nI 0)])), (a2, .inl (cI, 400, .inl f)), (a3, .inr (1, [.ref a4, .ref a5, .int (nI ((fd_kn f n 3))), .int (nI k9)])), (a4, .inl (cI, 20, .inl fs9)), (a5, .inl (cL, 20, .inr (.inl fn9))), (a6, .inr (0, [.ref a7, .int (nI wn)])), (a7, .inl (cI, 123, .inl wf)), (a8, .inr (1, [.ref a9, .ref a10, .int (nI od), .int (nI ok)])), (a9, .inl (cI, 20, .inl os)), (a10, .inl (cL, 20, .inr (.inl on)))]) (va_runV (As := []) (rest := []) ⟨hx, hb, hml, hown, hts⟩ (kR_clear l D Z cI cL (n := n) (f := f) H.size) (cwV 0 hts (fd_gV tb_183 tb_184 tb_185 tb_14 tb_186) rfl rfl rfl nhR_clear ⟨(Nat.le_of_ble_eq_true rfl), (Nat.le_of_ble_eq_true rfl)⟩) (fd_PreV hE hK hEV hA hP hD hS [1, 2] rfl (by decide) (ci := 0) (q0 := 1) rfl rfl) rfl rfl hl.1 rfl (lv_room (Nat.le_of_ble_eq_true rfl)) ndF_read_9 ⟨(Nat.le_of_ble_eq_true rfl), (Nat.le_of_ble_eq_true rfl)⟩) hP hD hS hA [1, 2] [0, 3, 4, 5, 6, 7, 8, 9, 10] rfl rfl (by decide) (by decide) [0, 9, 10, 1, 2, 3, 4, 5, 6, 7, 8] rfl (by decide) (fun H locs hP hD hS => ?_)
  refine lv_iload_n hx hb ndF_read_12 rfl (lv_at hl 0 rfl) ?_
  refine lv_iconst (v := (-1)) hx hb ndF_read_13 (by decide) ?_
  refine lv_icmp_eq (tgt := 29) hx hb ndF_read_14 (by decide) (fun _ => ?_) (fun c_14 => absurd hr2 c_14)
  refine lv_aload_n hx hb ndF_read_29 rfl (lv_at hl 1 rfl) ?_
  refine va_get (D := D) (ci := 2) (v := .ref a3) (C := nR_F) (T := nT_F) (N := 5) hx hb hts in_F hown hK hP 0 rfl rfl 1 (by decide) (hts _ tb_54) (fun _ h9 => h9) rfl ndF_read_30 ?_
  refine va_getN (D := D) (ci := 1) (v := .int (nI ((fd_kn f n 3)))) (C := nR_M) (T := nT_M) (N := 4) hx hb hts in_M hown hK hP 3 rfl rfl 2 (by decide) (fd_nw hEV nb_2) (fun _ h9 => h9) rfl ndF_read_33 ?_
  exact fd_ret_i hx hb hr hlocks hS hP hD rfl (rfl) ndF_read_36
end
section
/-! the reference: its small functions, type, begin, end, copy and the reads -/
def fd_isg (c : Int32) : Int32 := if c < 48 then (if c < 65 then 0 else if 90 < c then 0 else 1) else if c ≤ 57 then 1 else (if c < 65 then 0 else if 90 < c then 0 else 1)
def fd_vo (c : Int32) : Int32 := if 57 < c then c - 65 + 10 else c - 48
def fd_stp (r c : Int32) : Int32 := if 57 < c then (r * 100 + c - 65 + 10) - (r * 100 + c - 65 + 10) / 97 * 97 else (r * 10 + c - 48) - (r * 10 + c - 48) / 97 * 97
def fd_fit (s : Nat) (c z : Int32) : Int32 := if s < 4 then fd_isg c else if s = 5 then (if c = 67 then 1 else if c = 83 then 1 else 0) else if s = 7 then (if c < 49 then 0 else if 57 < c then 0 else 1) else if s = 8 then (if c < 49 then 0 else if 52 < c then 0 else 1) else (if c < 48 then 0 else if (if z = 0 then 57 else 48) < c then 0 else 1)
theorem fd_isg_nar (x : Int32) : narrow .boolean (.int (fd_isg x)) = .int (fd_isg x) := by
  unfold fd_isg; (repeat' split) <;> rfl
theorem fd_so0 {q : Nat} (h1 : 1 ≤ q) (h2 : q ≤ 15) (fn : Nat → Int64) : fd_due q 0 fn = 1 := by
  have h : ∀ q, q < 16 → 1 ≤ q → fd_ent 3 (nI ((q - 1) * 6 + 0)) = 1 := by decide +kernel
  rw [fd_due, if_neg (by omega)]
  split
  · rw [if_pos (by omega)]; exact h q (by omega) h1
  · rw [if_neg (by omega)]; exact h q (by omega) h1
theorem fd_so1 {q : Nat} (h1 : 1 ≤ q) (h2 : q ≤ 15) (fn : Nat → Int64) : fd_due q 1 fn = 3 := by
  have h : ∀ q, q < 16 → 1 ≤ q → fd_ent 3 (nI ((q - 1) * 6 + 1)) = 3 := by decide +kernel
  rw [fd_due, if_neg (by omega)]
  split
  · rw [if_pos (by omega)]; exact h q (by omega) h1
  · rw [if_neg (by omega)]; exact h q (by omega) h1
theorem fd_so6 {j : Nat} (h : 4 ≤ j) (fn : Nat → Int64) : fd_due 6 j fn = fd_leg (j - 4) (fn 3) := by
  rw [fd_due, if_neg (by omega), if_pos rfl, if_neg (by omega)]
theorem fd_lg4 : ∀ r, r < 4 → ((r < 2 → 1 = fd_ent 4 (nI r)) ∧ (r = 2 → 2 = fd_ent 4 (nI r)) ∧ (r = 3 → 4 = fd_ent 4 (nI r))) := by decide +kernel
theorem fd_sub2 {j : Nat} (h : 4 ≤ j) : nI (j - 2) - 2 = nI (j - 4) := by
  rw [show (2 : Int32) = nI 2 from rfl, pk_sub (by omega), Nat.sub_sub]
set_option maxHeartbeats 4000000 in
set_option maxRecDepth 100000 in
theorem kD_letter (l : Launch) (D : va_G) (Z : Nat → Nat) (cI cL : ClassId) {kd i : Nat} (h1 : 1 ≤ kd) (h2 : kd ≤ 15) (hi : i < 3) : fd_Mi l D fd_cl (fd_ty cI cL) (fd_EV Z) nyD_letter (.code nyD_letter ncD_letter 2 (some .int) :: fd_TB) nmD_letter [.int (nI kd), .int (nI i)] [] [] (fd_let kd i) := by
  refine fd_open_i (cc := ncD_letter) (maxL := 2) (ret := (some .int)) (by decide) rfl (Nat.le_of_ble_eq_true rfl) ?_
  intro p e s m below meth c A ls X hP hD hS hl
  obtain ⟨hx, hb, hr, hml, hown, hts0, hlocks, hK, hEV, hA⟩ := X
  have hts : ∀ w ∈ fd_TB, w.before _ s = true := fun w h => hts0 w (List.mem_cons_of_mem _ h)
  have hE := fd_EV_ok Z
  have hown : s.vm.findClass "FieldDeskModel" = some m.cls := hown
  have hl : lv_has ls 2 [(0, .int (nI kd)), (1, .int (nI i))] := hl
  refine lv_iload_n hx hb ndD_letter_0 rfl (lv_at hl 0 rfl) ?_
  rcases (show kd = 1 ∨ kd = 2 ∨ kd = 3 ∨ kd = 4 ∨ kd = 5 ∨ kd = 6 ∨ kd = 7 ∨ kd = 8 ∨ kd = 9 ∨ kd = 10 ∨ kd = 11 ∨ kd = 12 ∨ kd = 13 ∨ kd = 14 ∨ kd = 15 by omega) with rfl | rfl | rfl | rfl | rfl | rfl | rfl | rfl | rfl | rfl | rfl | rfl | rfl | rfl | rfl
  · refine lv_tableIn (off := 71) (tgt := 72) hx hb ndD_letter_1 (by decide) (by decide) (by decide) (by decide) ?_
    refine lv_iload_n hx hb ndD_letter_72 rfl (lv_at hl 1 rfl) ?_
    refine lv_if_ne (tgt := 81) hx hb ndD_letter_73 (by decide) (fun c_73 => ?_) (fun c_73 => ?_)
    · have n_73 := mt (nI_eq (a := i) (b := 0) (by omega) (by omega)).mpr c_73
      refine lv_iload_n hx hb ndD_letter_81 rfl (lv_at hl 1 rfl) ?_
      refine lv_iconst (v := 1) hx hb ndD_letter_82 (by decide) ?_
      refine lv_icmp_ne (tgt := 91) hx hb ndD_letter_83 (by decide) (fun c_83 => ?_) (fun c_83 => ?_)
      · have n_83 := mt (nI_eq (a := i) (b := 1) (by omega) (by omega)).mpr c_83
        refine lv_bipush (v := 87) hx hb ndD_letter_91 (by decide) ?_
        exact fd_ret_i hx hb hr hlocks hS hP hD rfl (by rcases (show i = 0 ∨ i = 1 ∨ i = 2 by omega) with rfl | rfl | rfl <;> first | rfl | (exfalso; omega)) ndD_letter_93
      · have n_83 := (nI_eq (a := i) (b := 1) (by omega) (by omega)).mp c_83
        refine lv_bipush (v := 69) hx hb ndD_letter_86 (by decide) ?_
        refine lv_goto (tgt := 93) hx hb ndD_letter_88 (by decide) ?_
        exact fd_ret_i hx hb hr hlocks hS hP hD rfl (by rcases (show i = 0 ∨ i = 1 ∨ i = 2 by omega) with rfl | rfl | rfl <;> first | rfl | (exfalso; omega)) ndD_letter_93
    · have n_73 := (nI_eq (a := i) (b := 0) (by omega) (by omega)).mp c_73
      refine lv_bipush (v := 78) hx hb ndD_letter_76 (by decide) ?_
      refine lv_goto (tgt := 93) hx hb ndD_letter_78 (by decide) ?_
      exact fd_ret_i hx hb hr hlocks hS hP hD rfl (by rcases (show i = 0 ∨ i = 1 ∨ i = 2 by omega) with rfl | rfl | rfl <;> first | rfl | (exfalso; omega)) ndD_letter_93
  · refine lv_tableIn (off := 93) (tgt := 94) hx hb ndD_letter_1 (by decide) (by decide) (by decide) (by decide) ?_
    refine lv_iload_n hx hb ndD_letter_94 rfl (lv_at hl 1 rfl) ?_
    refine lv_if_ne (tgt := 103) hx hb ndD_letter_95 (by decide) (fun c_95 => ?_) (fun c_95 => ?_)
    · have n_95 := mt (nI_eq (a := i) (b := 0) (by omega) (by omega)).mpr c_95
      refine lv_iload_n hx hb ndD_letter_103 rfl (lv_at hl 1 rfl) ?_
      refine lv_iconst (v := 1) hx hb ndD_letter_104 (by decide) ?_
      refine lv_icmp_ne (tgt := 113) hx hb ndD_letter_105 (by decide) (fun c_105 => ?_) (fun c_105 => ?_)
      · have n_105 := mt (nI_eq (a := i) (b := 1) (by omega) (by omega)).mpr c_105
        refine lv_bipush (v := 84) hx hb ndD_letter_113 (by decide) ?_
        exact fd_ret_i hx hb hr hlocks hS hP hD rfl (by rcases (show i = 0 ∨ i = 1 ∨ i = 2 by omega) with rfl | rfl | rfl <;> first | rfl | (exfalso; omega)) ndD_letter_115
      · have n_105 := (nI_eq (a := i) (b := 1) (by omega) (by omega)).mp c_105
        refine lv_bipush (v := 83) hx hb ndD_letter_108 (by decide) ?_
        refine lv_goto (tgt := 115) hx hb ndD_letter_110 (by decide) ?_
        exact fd_ret_i hx hb hr hlocks hS hP hD rfl (by rcases (show i = 0 ∨ i = 1 ∨ i = 2 by omega) with rfl | rfl | rfl <;> first | rfl | (exfalso; omega)) ndD_letter_115
    · have n_95 := (nI_eq (a := i) (b := 0) (by omega) (by omega)).mp c_95
      refine lv_bipush (v := 65) hx hb ndD_letter_98 (by decide) ?_
      refine lv_goto (tgt := 115) hx hb ndD_letter_100 (by decide) ?_
      exact fd_ret_i hx hb hr hlocks hS hP hD rfl (by rcases (show i = 0 ∨ i = 1 ∨ i = 2 by omega) with rfl | rfl | rfl <;> first | rfl | (exfalso; omega)) ndD_letter_115
  · refine lv_tableIn (off := 115) (tgt := 116) hx hb ndD_letter_1 (by decide) (by decide) (by decide) (by decide) ?_
    refine lv_iload_n hx hb ndD_letter_116 rfl (lv_at hl 1 rfl) ?_
    refine lv_if_ne (tgt := 125) hx hb ndD_letter_117 (by decide) (fun c_117 => ?_) (fun c_117 => ?_)
    · have n_117 := mt (nI_eq (a := i) (b := 0) (by omega) (by omega)).mpr c_117
      refine lv_iload_n hx hb ndD_letter_125 rfl (lv_at hl 1 rfl) ?_
      refine lv_iconst (v := 1) hx hb ndD_letter_126 (by decide) ?_
      refine lv_icmp_ne (tgt := 135) hx hb ndD_letter_127 (by decide) (fun c_127 => ?_) (fun c_127 => ?_)
      · have n_127 := mt (nI_eq (a := i) (b := 1) (by omega) (by omega)).mpr c_127
        refine lv_bipush (v := 67) hx hb ndD_letter_135 (by decide) ?_
        exact fd_ret_i hx hb hr hlocks hS hP hD rfl (by rcases (show i = 0 ∨ i = 1 ∨ i = 2 by omega) with rfl | rfl | rfl <;> first | rfl | (exfalso; omega)) ndD_letter_137
      · have n_127 := (nI_eq (a := i) (b := 1) (by omega) (by omega)).mp c_127
        refine lv_bipush (v := 82) hx hb ndD_letter_130 (by decide) ?_
        refine lv_goto (tgt := 137) hx hb ndD_letter_132 (by decide) ?_
        exact fd_ret_i hx hb hr hlocks hS hP hD rfl (by rcases (show i = 0 ∨ i = 1 ∨ i = 2 by omega) with rfl | rfl | rfl <;> first | rfl | (exfalso; omega)) ndD_letter_137
    · have n_117 := (nI_eq (a := i) (b := 0) (by omega) (by omega)).mp c_117
      refine lv_bipush (v := 80) hx hb ndD_letter_120 (by decide) ?_
      refine lv_goto (tgt := 137) hx hb ndD_letter_122 (by decide) ?_
      exact fd_ret_i hx hb hr hlocks hS hP hD rfl (by rcases (show i = 0 ∨ i = 1 ∨ i = 2 by omega) with rfl | rfl | rfl <;> first | rfl | (exfalso; omega)) ndD_letter_137
  · refine lv_tableIn (off := 137) (tgt := 138) hx hb ndD_letter_1 (by decide) (by decide) (by decide) (by decide) ?_
    refine lv_iload_n hx hb ndD_letter_138 rfl (lv_at hl 1 rfl) ?_
    refine lv_if_ne (tgt := 147) hx hb ndD_letter_139 (by decide) (fun c_139 => ?_) (fun c_139 => ?_)
    · have n_139 := mt (nI_eq (a := i) (b := 0) (by omega) (by omega)).mpr c_139
      refine lv_bipush (v := 83) hx hb ndD_letter_147 (by decide) ?_
      exact fd_ret_i hx hb hr hlocks hS hP hD rfl (by rcases (show i = 0 ∨ i = 1 ∨ i = 2 by omega) with rfl | rfl | rfl <;> first | rfl | (exfalso; omega)) ndD_letter_149
    · have n_139 := (nI_eq (a := i) (b := 0) (by omega) (by omega)).mp c_139
      refine lv_bipush (v := 73) hx hb ndD_letter_142 (by decide) ?_
      refine lv_goto (tgt := 149) hx hb ndD_letter_144 (by decide) ?_
      exact fd_ret_i hx hb hr hlocks hS hP hD rfl (by rcases (show i = 0 ∨ i = 1 ∨ i = 2 by omega) with rfl | rfl | rfl <;> first | rfl | (exfalso; omega)) ndD_letter_149
  · refine lv_tableIn (off := 149) (tgt := 150) hx hb ndD_letter_1 (by decide) (by decide) (by decide) (by decide) ?_
    refine lv_iload_n hx hb ndD_letter_150 rfl (lv_at hl 1 rfl) ?_
    refine lv_if_ne (tgt := 159) hx hb ndD_letter_151 (by decide) (fun c_151 => ?_) (fun c_151 => ?_)
    · have n_151 := mt (nI_eq (a := i) (b := 0) (by omega) (by omega)).mpr c_151
      refine lv_iload_n hx hb ndD_letter_159 rfl (lv_at hl 1 rfl) ?_
      refine lv_iconst (v := 1) hx hb ndD_letter_160 (by decide) ?_
      refine lv_icmp_ne (tgt := 169) hx hb ndD_letter_161 (by decide) (fun c_161 => ?_) (fun c_161 => ?_)
      · have n_161 := mt (nI_eq (a := i) (b := 1) (by omega) (by omega)).mpr c_161
        refine lv_bipush (v := 68) hx hb ndD_letter_169 (by decide) ?_
        exact fd_ret_i hx hb hr hlocks hS hP hD rfl (by rcases (show i = 0 ∨ i = 1 ∨ i = 2 by omega) with rfl | rfl | rfl <;> first | rfl | (exfalso; omega)) ndD_letter_171
      · have n_161 := (nI_eq (a := i) (b := 1) (by omega) (by omega)).mp c_161
        refine lv_bipush (v := 69) hx hb ndD_letter_164 (by decide) ?_
        refine lv_goto (tgt := 171) hx hb ndD_letter_166 (by decide) ?_
        exact fd_ret_i hx hb hr hlocks hS hP hD rfl (by rcases (show i = 0 ∨ i = 1 ∨ i = 2 by omega) with rfl | rfl | rfl <;> first | rfl | (exfalso; omega)) ndD_letter_171
    · have n_151 := (nI_eq (a := i) (b := 0) (by omega) (by omega)).mp c_151
      refine lv_bipush (v := 82) hx hb ndD_letter_154 (by decide) ?_
      refine lv_goto (tgt := 171) hx hb ndD_letter_156 (by decide) ?_
      exact fd_ret_i hx hb hr hlocks hS hP hD rfl (by rcases (show i = 0 ∨ i = 1 ∨ i = 2 by omega) with rfl | rfl | rfl <;> first | rfl | (exfalso; omega)) ndD_letter_171
  · refine lv_tableIn (off := 171) (tgt := 172) hx hb ndD_letter_1 (by decide) (by decide) (by decide) (by decide) ?_
    refine lv_iload_n hx hb ndD_letter_172 rfl (lv_at hl 1 rfl) ?_
    refine lv_if_ne (tgt := 181) hx hb ndD_letter_173 (by decide) (fun c_173 => ?_) (fun c_173 => ?_)
    · have n_173 := mt (nI_eq (a := i) (b := 0) (by omega) (by omega)).mpr c_173
      refine lv_iload_n hx hb ndD_letter_181 rfl (lv_at hl 1 rfl) ?_
      refine lv_iconst (v := 1) hx hb ndD_letter_182 (by decide) ?_
      refine lv_icmp_ne (tgt := 191) hx hb ndD_letter_183 (by decide) (fun c_183 => ?_) (fun c_183 => ?_)
      · have n_183 := mt (nI_eq (a := i) (b := 1) (by omega) (by omega)).mpr c_183
        refine lv_bipush (v := 89) hx hb ndD_letter_191 (by decide) ?_
        exact fd_ret_i hx hb hr hlocks hS hP hD rfl (by rcases (show i = 0 ∨ i = 1 ∨ i = 2 by omega) with rfl | rfl | rfl <;> first | rfl | (exfalso; omega)) ndD_letter_193
      · have n_183 := (nI_eq (a := i) (b := 1) (by omega) (by omega)).mp c_183
        refine lv_bipush (v := 65) hx hb ndD_letter_186 (by decide) ?_
        refine lv_goto (tgt := 193) hx hb ndD_letter_188 (by decide) ?_
        exact fd_ret_i hx hb hr hlocks hS hP hD rfl (by rcases (show i = 0 ∨ i = 1 ∨ i = 2 by omega) with rfl | rfl | rfl <;> first | rfl | (exfalso; omega)) ndD_letter_193
    · have n_173 := (nI_eq (a := i) (b := 0) (by omega) (by omega)).mp c_173
      refine lv_bipush (v := 80) hx hb ndD_letter_176 (by decide) ?_
      refine lv_goto (tgt := 193) hx hb ndD_letter_178 (by decide) ?_
      exact fd_ret_i hx hb hr hlocks hS hP hD rfl (by rcases (show i = 0 ∨ i = 1 ∨ i = 2 by omega) with rfl | rfl | rfl <;> first | rfl | (exfalso; omega)) ndD_letter_193
  · refine lv_tableIn (off := 193) (tgt := 194) hx hb ndD_letter_1 (by decide) (by decide) (by decide) (by decide) ?_
    refine lv_iload_n hx hb ndD_letter_194 rfl (lv_at hl 1 rfl) ?_
    refine lv_if_ne (tgt := 203) hx hb ndD_letter_195 (by decide) (fun c_195 => ?_) (fun c_195 => ?_)
    · have n_195 := mt (nI_eq (a := i) (b := 0) (by omega) (by omega)).mpr c_195
      refine lv_iload_n hx hb ndD_letter_203 rfl (lv_at hl 1 rfl) ?_
      refine lv_iconst (v := 1) hx hb ndD_letter_204 (by decide) ?_
      refine lv_icmp_ne (tgt := 213) hx hb ndD_letter_205 (by decide) (fun c_205 => ?_) (fun c_205 => ?_)
      · have n_205 := mt (nI_eq (a := i) (b := 1) (by omega) (by omega)).mpr c_205
        refine lv_bipush (v := 70) hx hb ndD_letter_213 (by decide) ?_
        exact fd_ret_i hx hb hr hlocks hS hP hD rfl (by rcases (show i = 0 ∨ i = 1 ∨ i = 2 by omega) with rfl | rfl | rfl <;> first | rfl | (exfalso; omega)) ndD_letter_215
      · have n_205 := (nI_eq (a := i) (b := 1) (by omega) (by omega)).mp c_205
        refine lv_bipush (v := 78) hx hb ndD_letter_208 (by decide) ?_
        refine lv_goto (tgt := 215) hx hb ndD_letter_210 (by decide) ?_
        exact fd_ret_i hx hb hr hlocks hS hP hD rfl (by rcases (show i = 0 ∨ i = 1 ∨ i = 2 by omega) with rfl | rfl | rfl <;> first | rfl | (exfalso; omega)) ndD_letter_215
    · have n_195 := (nI_eq (a := i) (b := 0) (by omega) (by omega)).mp c_195
      refine lv_bipush (v := 67) hx hb ndD_letter_198 (by decide) ?_
      refine lv_goto (tgt := 215) hx hb ndD_letter_200 (by decide) ?_
      exact fd_ret_i hx hb hr hlocks hS hP hD rfl (by rcases (show i = 0 ∨ i = 1 ∨ i = 2 by omega) with rfl | rfl | rfl <;> first | rfl | (exfalso; omega)) ndD_letter_215
  · refine lv_tableIn (off := 215) (tgt := 216) hx hb ndD_letter_1 (by decide) (by decide) (by decide) (by decide) ?_
    refine lv_iload_n hx hb ndD_letter_216 rfl (lv_at hl 1 rfl) ?_
    refine lv_if_ne (tgt := 225) hx hb ndD_letter_217 (by decide) (fun c_217 => ?_) (fun c_217 => ?_)
    · have n_217 := mt (nI_eq (a := i) (b := 0) (by omega) (by omega)).mpr c_217
      refine lv_iload_n hx hb ndD_letter_225 rfl (lv_at hl 1 rfl) ?_
      refine lv_iconst (v := 1) hx hb ndD_letter_226 (by decide) ?_
      refine lv_icmp_ne (tgt := 235) hx hb ndD_letter_227 (by decide) (fun c_227 => ?_) (fun c_227 => ?_)
      · have n_227 := mt (nI_eq (a := i) (b := 1) (by omega) (by omega)).mpr c_227
        refine lv_bipush (v := 78) hx hb ndD_letter_235 (by decide) ?_
        exact fd_ret_i hx hb hr hlocks hS hP hD rfl (by rcases (show i = 0 ∨ i = 1 ∨ i = 2 by omega) with rfl | rfl | rfl <;> first | rfl | (exfalso; omega)) ndD_letter_237
      · have n_227 := (nI_eq (a := i) (b := 1) (by omega) (by omega)).mp c_227
        refine lv_bipush (v := 65) hx hb ndD_letter_230 (by decide) ?_
        refine lv_goto (tgt := 237) hx hb ndD_letter_232 (by decide) ?_
        exact fd_ret_i hx hb hr hlocks hS hP hD rfl (by rcases (show i = 0 ∨ i = 1 ∨ i = 2 by omega) with rfl | rfl | rfl <;> first | rfl | (exfalso; omega)) ndD_letter_237
    · have n_217 := (nI_eq (a := i) (b := 0) (by omega) (by omega)).mp c_217
      refine lv_bipush (v := 67) hx hb ndD_letter_220 (by decide) ?_
      refine lv_goto (tgt := 237) hx hb ndD_letter_222 (by decide) ?_
      exact fd_ret_i hx hb hr hlocks hS hP hD rfl (by rcases (show i = 0 ∨ i = 1 ∨ i = 2 by omega) with rfl | rfl | rfl <;> first | rfl | (exfalso; omega)) ndD_letter_237
  · refine lv_tableIn (off := 237) (tgt := 238) hx hb ndD_letter_1 (by decide) (by decide) (by decide) (by decide) ?_
    refine lv_iload_n hx hb ndD_letter_238 rfl (lv_at hl 1 rfl) ?_
    refine lv_if_ne (tgt := 247) hx hb ndD_letter_239 (by decide) (fun c_239 => ?_) (fun c_239 => ?_)
    · have n_239 := mt (nI_eq (a := i) (b := 0) (by omega) (by omega)).mpr c_239
      refine lv_iload_n hx hb ndD_letter_247 rfl (lv_at hl 1 rfl) ?_
      refine lv_iconst (v := 1) hx hb ndD_letter_248 (by decide) ?_
      refine lv_icmp_ne (tgt := 257) hx hb ndD_letter_249 (by decide) (fun c_249 => ?_) (fun c_249 => ?_)
      · have n_249 := mt (nI_eq (a := i) (b := 1) (by omega) (by omega)).mpr c_249
        refine lv_bipush (v := 73) hx hb ndD_letter_257 (by decide) ?_
        exact fd_ret_i hx hb hr hlocks hS hP hD rfl (by rcases (show i = 0 ∨ i = 1 ∨ i = 2 by omega) with rfl | rfl | rfl <;> first | rfl | (exfalso; omega)) ndD_letter_259
      · have n_249 := (nI_eq (a := i) (b := 1) (by omega) (by omega)).mp c_249
        refine lv_bipush (v := 82) hx hb ndD_letter_252 (by decide) ?_
        refine lv_goto (tgt := 259) hx hb ndD_letter_254 (by decide) ?_
        exact fd_ret_i hx hb hr hlocks hS hP hD rfl (by rcases (show i = 0 ∨ i = 1 ∨ i = 2 by omega) with rfl | rfl | rfl <;> first | rfl | (exfalso; omega)) ndD_letter_259
    · have n_239 := (nI_eq (a := i) (b := 0) (by omega) (by omega)).mp c_239
      refine lv_bipush (v := 80) hx hb ndD_letter_242 (by decide) ?_
      refine lv_goto (tgt := 259) hx hb ndD_letter_244 (by decide) ?_
      exact fd_ret_i hx hb hr hlocks hS hP hD rfl (by rcases (show i = 0 ∨ i = 1 ∨ i = 2 by omega) with rfl | rfl | rfl <;> first | rfl | (exfalso; omega)) ndD_letter_259
  · refine lv_tableIn (off := 259) (tgt := 260) hx hb ndD_letter_1 (by decide) (by decide) (by decide) (by decide) ?_
    refine lv_iload_n hx hb ndD_letter_260 rfl (lv_at hl 1 rfl) ?_
    refine lv_if_ne (tgt := 269) hx hb ndD_letter_261 (by decide) (fun c_261 => ?_) (fun c_261 => ?_)
    · have n_261 := mt (nI_eq (a := i) (b := 0) (by omega) (by omega)).mpr c_261
      refine lv_iload_n hx hb ndD_letter_269 rfl (lv_at hl 1 rfl) ?_
      refine lv_iconst (v := 1) hx hb ndD_letter_270 (by decide) ?_
      refine lv_icmp_ne (tgt := 279) hx hb ndD_letter_271 (by decide) (fun c_271 => ?_) (fun c_271 => ?_)
      · have n_271 := mt (nI_eq (a := i) (b := 1) (by omega) (by omega)).mpr c_271
        refine lv_bipush (v := 77) hx hb ndD_letter_279 (by decide) ?_
        exact fd_ret_i hx hb hr hlocks hS hP hD rfl (by rcases (show i = 0 ∨ i = 1 ∨ i = 2 by omega) with rfl | rfl | rfl <;> first | rfl | (exfalso; omega)) ndD_letter_281
      · have n_271 := (nI_eq (a := i) (b := 1) (by omega) (by omega)).mp c_271
        refine lv_bipush (v := 73) hx hb ndD_letter_274 (by decide) ?_
        refine lv_goto (tgt := 281) hx hb ndD_letter_276 (by decide) ?_
        exact fd_ret_i hx hb hr hlocks hS hP hD rfl (by rcases (show i = 0 ∨ i = 1 ∨ i = 2 by omega) with rfl | rfl | rfl <;> first | rfl | (exfalso; omega)) ndD_letter_281
    · have n_261 := (nI_eq (a := i) (b := 0) (by omega) (by omega)).mp c_261
      refine lv_bipush (v := 76) hx hb ndD_letter_264 (by decide) ?_
      refine lv_goto (tgt := 281) hx hb ndD_letter_266 (by decide) ?_
      exact fd_ret_i hx hb hr hlocks hS hP hD rfl (by rcases (show i = 0 ∨ i = 1 ∨ i = 2 by omega) with rfl | rfl | rfl <;> first | rfl | (exfalso; omega)) ndD_letter_281
  · refine lv_tableIn (off := 281) (tgt := 282) hx hb ndD_letter_1 (by decide) (by decide) (by decide) (by decide) ?_
    refine lv_iload_n hx hb ndD_letter_282 rfl (lv_at hl 1 rfl) ?_
    refine lv_if_ne (tgt := 291) hx hb ndD_letter_283 (by decide) (fun c_283 => ?_) (fun c_283 => ?_)
    · have n_283 := mt (nI_eq (a := i) (b := 0) (by omega) (by omega)).mpr c_283
      refine lv_iload_n hx hb ndD_letter_291 rfl (lv_at hl 1 rfl) ?_
      refine lv_iconst (v := 1) hx hb ndD_letter_292 (by decide) ?_
      refine lv_icmp_ne (tgt := 301) hx hb ndD_letter_293 (by decide) (fun c_293 => ?_) (fun c_293 => ?_)
      · have n_293 := mt (nI_eq (a := i) (b := 1) (by omega) (by omega)).mpr c_293
        refine lv_bipush (v := 76) hx hb ndD_letter_301 (by decide) ?_
        exact fd_ret_i hx hb hr hlocks hS hP hD rfl (by rcases (show i = 0 ∨ i = 1 ∨ i = 2 by omega) with rfl | rfl | rfl <;> first | rfl | (exfalso; omega)) ndD_letter_303
      · have n_293 := (nI_eq (a := i) (b := 1) (by omega) (by omega)).mp c_293
        refine lv_bipush (v := 78) hx hb ndD_letter_296 (by decide) ?_
        refine lv_goto (tgt := 303) hx hb ndD_letter_298 (by decide) ?_
        exact fd_ret_i hx hb hr hlocks hS hP hD rfl (by rcases (show i = 0 ∨ i = 1 ∨ i = 2 by omega) with rfl | rfl | rfl <;> first | rfl | (exfalso; omega)) ndD_letter_303
    · have n_283 := (nI_eq (a := i) (b := 0) (by omega) (by omega)).mp c_283
      refine lv_bipush (v := 85) hx hb ndD_letter_286 (by decide) ?_
      refine lv_goto (tgt := 303) hx hb ndD_letter_288 (by decide) ?_
      exact fd_ret_i hx hb hr hlocks hS hP hD rfl (by rcases (show i = 0 ∨ i = 1 ∨ i = 2 by omega) with rfl | rfl | rfl <;> first | rfl | (exfalso; omega)) ndD_letter_303
  · refine lv_tableIn (off := 303) (tgt := 304) hx hb ndD_letter_1 (by decide) (by decide) (by decide) (by decide) ?_
    refine lv_iload_n hx hb ndD_letter_304 rfl (lv_at hl 1 rfl) ?_
    refine lv_if_ne (tgt := 313) hx hb ndD_letter_305 (by decide) (fun c_305 => ?_) (fun c_305 => ?_)
    · have n_305 := mt (nI_eq (a := i) (b := 0) (by omega) (by omega)).mpr c_305
      refine lv_iload_n hx hb ndD_letter_313 rfl (lv_at hl 1 rfl) ?_
      refine lv_iconst (v := 1) hx hb ndD_letter_314 (by decide) ?_
      refine lv_icmp_ne (tgt := 323) hx hb ndD_letter_315 (by decide) (fun c_315 => ?_) (fun c_315 => ?_)
      · have n_315 := mt (nI_eq (a := i) (b := 1) (by omega) (by omega)).mpr c_315
        refine lv_bipush (v := 71) hx hb ndD_letter_323 (by decide) ?_
        exact fd_ret_i hx hb hr hlocks hS hP hD rfl (by rcases (show i = 0 ∨ i = 1 ∨ i = 2 by omega) with rfl | rfl | rfl <;> first | rfl | (exfalso; omega)) ndD_letter_325
      · have n_315 := (nI_eq (a := i) (b := 1) (by omega) (by omega)).mp c_315
        refine lv_bipush (v := 76) hx hb ndD_letter_318 (by decide) ?_
        refine lv_goto (tgt := 325) hx hb ndD_letter_320 (by decide) ?_
        exact fd_ret_i hx hb hr hlocks hS hP hD rfl (by rcases (show i = 0 ∨ i = 1 ∨ i = 2 by omega) with rfl | rfl | rfl <;> first | rfl | (exfalso; omega)) ndD_letter_325
    · have n_305 := (nI_eq (a := i) (b := 0) (by omega) (by omega)).mp c_305
      refine lv_bipush (v := 80) hx hb ndD_letter_308 (by decide) ?_
      refine lv_goto (tgt := 325) hx hb ndD_letter_310 (by decide) ?_
      exact fd_ret_i hx hb hr hlocks hS hP hD rfl (by rcases (show i = 0 ∨ i = 1 ∨ i = 2 by omega) with rfl | rfl | rfl <;> first | rfl | (exfalso; omega)) ndD_letter_325
  · refine lv_tableIn (off := 325) (tgt := 326) hx hb ndD_letter_1 (by decide) (by decide) (by decide) (by decide) ?_
    refine lv_iload_n hx hb ndD_letter_326 rfl (lv_at hl 1 rfl) ?_
    refine lv_if_ne (tgt := 335) hx hb ndD_letter_327 (by decide) (fun c_327 => ?_) (fun c_327 => ?_)
    · have n_327 := mt (nI_eq (a := i) (b := 0) (by omega) (by omega)).mpr c_327
      refine lv_iload_n hx hb ndD_letter_335 rfl (lv_at hl 1 rfl) ?_
      refine lv_iconst (v := 1) hx hb ndD_letter_336 (by decide) ?_
      refine lv_icmp_ne (tgt := 345) hx hb ndD_letter_337 (by decide) (fun c_337 => ?_) (fun c_337 => ?_)
      · have n_337 := mt (nI_eq (a := i) (b := 1) (by omega) (by omega)).mpr c_337
        refine lv_bipush (v := 80) hx hb ndD_letter_345 (by decide) ?_
        exact fd_ret_i hx hb hr hlocks hS hP hD rfl (by rcases (show i = 0 ∨ i = 1 ∨ i = 2 by omega) with rfl | rfl | rfl <;> first | rfl | (exfalso; omega)) ndD_letter_347
      · have n_337 := (nI_eq (a := i) (b := 1) (by omega) (by omega)).mp c_337
        refine lv_bipush (v := 78) hx hb ndD_letter_340 (by decide) ?_
        refine lv_goto (tgt := 347) hx hb ndD_letter_342 (by decide) ?_
        exact fd_ret_i hx hb hr hlocks hS hP hD rfl (by rcases (show i = 0 ∨ i = 1 ∨ i = 2 by omega) with rfl | rfl | rfl <;> first | rfl | (exfalso; omega)) ndD_letter_347
    · have n_327 := (nI_eq (a := i) (b := 0) (by omega) (by omega)).mp c_327
      refine lv_bipush (v := 85) hx hb ndD_letter_330 (by decide) ?_
      refine lv_goto (tgt := 347) hx hb ndD_letter_332 (by decide) ?_
      exact fd_ret_i hx hb hr hlocks hS hP hD rfl (by rcases (show i = 0 ∨ i = 1 ∨ i = 2 by omega) with rfl | rfl | rfl <;> first | rfl | (exfalso; omega)) ndD_letter_347
  · refine lv_tableIn (off := 347) (tgt := 348) hx hb ndD_letter_1 (by decide) (by decide) (by decide) (by decide) ?_
    refine lv_iload_n hx hb ndD_letter_348 rfl (lv_at hl 1 rfl) ?_
    refine lv_if_ne (tgt := 357) hx hb ndD_letter_349 (by decide) (fun c_349 => ?_) (fun c_349 => ?_)
    · have n_349 := mt (nI_eq (a := i) (b := 0) (by omega) (by omega)).mpr c_349
      refine lv_iload_n hx hb ndD_letter_357 rfl (lv_at hl 1 rfl) ?_
      refine lv_iconst (v := 1) hx hb ndD_letter_358 (by decide) ?_
      refine lv_icmp_ne (tgt := 367) hx hb ndD_letter_359 (by decide) (fun c_359 => ?_) (fun c_359 => ?_)
      · have n_359 := mt (nI_eq (a := i) (b := 1) (by omega) (by omega)).mpr c_359
        refine lv_bipush (v := 83) hx hb ndD_letter_367 (by decide) ?_
        exact fd_ret_i hx hb hr hlocks hS hP hD rfl (by rcases (show i = 0 ∨ i = 1 ∨ i = 2 by omega) with rfl | rfl | rfl <;> first | rfl | (exfalso; omega)) ndD_letter_369
      · have n_359 := (nI_eq (a := i) (b := 1) (by omega) (by omega)).mp c_359
        refine lv_bipush (v := 69) hx hb ndD_letter_362 (by decide) ?_
        refine lv_goto (tgt := 369) hx hb ndD_letter_364 (by decide) ?_
        exact fd_ret_i hx hb hr hlocks hS hP hD rfl (by rcases (show i = 0 ∨ i = 1 ∨ i = 2 by omega) with rfl | rfl | rfl <;> first | rfl | (exfalso; omega)) ndD_letter_369
    · have n_349 := (nI_eq (a := i) (b := 0) (by omega) (by omega)).mp c_349
      refine lv_bipush (v := 82) hx hb ndD_letter_352 (by decide) ?_
      refine lv_goto (tgt := 369) hx hb ndD_letter_354 (by decide) ?_
      exact fd_ret_i hx hb hr hlocks hS hP hD rfl (by rcases (show i = 0 ∨ i = 1 ∨ i = 2 by omega) with rfl | rfl | rfl <;> first | rfl | (exfalso; omega)) ndD_letter_369
  · refine lv_tableOut (tgt := 370) hx hb ndD_letter_1 (by decide) (by decide) ?_
    refine lv_iload_n hx hb ndD_letter_370 rfl (lv_at hl 1 rfl) ?_
    refine lv_if_ne (tgt := 379) hx hb ndD_letter_371 (by decide) (fun c_371 => ?_) (fun c_371 => ?_)
    · have n_371 := mt (nI_eq (a := i) (b := 0) (by omega) (by omega)).mpr c_371
      refine lv_iload_n hx hb ndD_letter_379 rfl (lv_at hl 1 rfl) ?_
      refine lv_iconst (v := 1) hx hb ndD_letter_380 (by decide) ?_
      refine lv_icmp_ne (tgt := 389) hx hb ndD_letter_381 (by decide) (fun c_381 => ?_) (fun c_381 => ?_)
      · have n_381 := mt (nI_eq (a := i) (b := 1) (by omega) (by omega)).mpr c_381
        refine lv_bipush (v := 77) hx hb ndD_letter_389 (by decide) ?_
        exact fd_ret_i hx hb hr hlocks hS hP hD rfl (by rcases (show i = 0 ∨ i = 1 ∨ i = 2 by omega) with rfl | rfl | rfl <;> first | rfl | (exfalso; omega)) ndD_letter_391
      · have n_381 := (nI_eq (a := i) (b := 1) (by omega) (by omega)).mp c_381
        refine lv_bipush (v := 84) hx hb ndD_letter_384 (by decide) ?_
        refine lv_goto (tgt := 391) hx hb ndD_letter_386 (by decide) ?_
        exact fd_ret_i hx hb hr hlocks hS hP hD rfl (by rcases (show i = 0 ∨ i = 1 ∨ i = 2 by omega) with rfl | rfl | rfl <;> first | rfl | (exfalso; omega)) ndD_letter_391
    · have n_371 := (nI_eq (a := i) (b := 0) (by omega) (by omega)).mp c_371
      refine lv_bipush (v := 83) hx hb ndD_letter_374 (by decide) ?_
      refine lv_goto (tgt := 391) hx hb ndD_letter_376 (by decide) ?_
      exact fd_ret_i hx hb hr hlocks hS hP hD rfl (by rcases (show i = 0 ∨ i = 1 ∨ i = 2 by omega) with rfl | rfl | rfl <;> first | rfl | (exfalso; omega)) ndD_letter_391
set_option maxHeartbeats 4000000 in
set_option maxRecDepth 100000 in
theorem kD_sortOf (l : Launch) (D : va_G) (Z : Nat → Nat) (cI cL : ClassId) {kd j : Nat} (h1 : 1 ≤ kd) (h2 : kd ≤ 15) (hj : j ≤ 24) (x : Int64) : fd_Mi l D fd_cl (fd_ty cI cL) (fd_EV Z) nyD_sortOf (.code nyD_sortOf ncD_sortOf 5 (some .int) :: fd_TB) nmD_sortOf [.int (nI kd), .int (nI j), .long x] [] [] (fd_due kd j (fun _ => x)) := by
  refine fd_open_i (cc := ncD_sortOf) (maxL := 5) (ret := (some .int)) (by decide) rfl (Nat.le_of_ble_eq_true rfl) ?_
  intro p e s m below meth c A ls X hP hD hS hl
  obtain ⟨hx, hb, hr, hml, hown, hts0, hlocks, hK, hEV, hA⟩ := X
  have hts : ∀ w ∈ fd_TB, w.before _ s = true := fun w h => hts0 w (List.mem_cons_of_mem _ h)
  have hE := fd_EV_ok Z
  have hown : s.vm.findClass "FieldDeskModel" = some m.cls := hown
  have hl : lv_has ls 5 [(0, .int (nI kd)), (1, .int (nI j)), (2, .long x)] := hl
  refine lv_iload_n hx hb ndD_sortOf_0 rfl (lv_at hl 1 rfl) ?_
  refine lv_iconst (v := 2) hx hb ndD_sortOf_1 (by decide) ?_
  refine lv_icmp_ge (tgt := 15) hx hb ndD_sortOf_2 (by decide) (fun c_2 => ?_) (fun c_2 => ?_)
  · have n_2 := (nI_leI (a := 2) (b := j) (by omega) (by omega)).mp c_2
    refine lv_iload_n hx hb ndD_sortOf_15 rfl (lv_at hl 1 rfl) ?_
    refine lv_iconst (v := 2) hx hb ndD_sortOf_16 (by decide) ?_
    refine lv_isub hx hb ndD_sortOf_17 ?_
    refine fd_asi (y := nI (j - 2)) (pk_sub (a := j) (b := 2) (by omega)) ?_
    refine lv_istore (lv' := [(4, .int (nI (j - 2))), (0, .int (nI kd)), (1, .int (nI j)), (2, .long x)]) hx hb ndD_sortOf_18 hl (by decide) rfl (fun ls hl => ?_)
    refine lv_iload_n hx hb ndD_sortOf_20 rfl (lv_at hl 1 rfl) ?_
    rcases (show kd = 1 ∨ kd = 2 ∨ kd = 3 ∨ kd = 4 ∨ kd = 5 ∨ kd = 6 ∨ kd = 7 ∨ kd = 8 ∨ kd = 9 ∨ kd = 10 ∨ kd = 11 ∨ kd = 12 ∨ kd = 13 ∨ kd = 14 ∨ kd = 15 by omega) with rfl | rfl | rfl | rfl | rfl | rfl | rfl | rfl | rfl | rfl | rfl | rfl | rfl | rfl | rfl
    · refine lv_tableIn (off := 67) (tgt := 88) hx hb ndD_sortOf_21 (by decide) (by decide) (by decide) (by decide) ?_
      refine lv_iload hx hb ndD_sortOf_88 (lv_at hl 0 rfl) ?_
      refine lv_if_ne (tgt := 97) hx hb ndD_sortOf_90 (by decide) (fun c_90 => ?_) (fun c_90 => ?_)
      · have n_90 := mt (nI_eq (a := (j - 2)) (b := 0) (by omega) (by omega)).mpr c_90
        refine lv_iconst (v := 0) hx hb ndD_sortOf_97 (by decide) ?_
        exact fd_ret_i hx hb hr hlocks hS hP hD rfl (by rcases (show j = 2 ∨ j = 3 ∨ j = 4 ∨ j = 5 ∨ 6 ≤ j by omega) with rfl | rfl | rfl | rfl | h6 <;> first | rfl | (exfalso; omega) | (rw [fd_due, if_neg (by decide), if_neg (by decide), if_pos h6])) ndD_sortOf_98
      · have n_90 := (nI_eq (a := (j - 2)) (b := 0) (by omega) (by omega)).mp c_90
        refine lv_iconst (v := 1) hx hb ndD_sortOf_93 (by decide) ?_
        refine lv_goto (tgt := 98) hx hb ndD_sortOf_94 (by decide) ?_
        exact fd_ret_i hx hb hr hlocks hS hP hD rfl (by rcases (show j = 2 ∨ j = 3 ∨ j = 4 ∨ j = 5 ∨ 6 ≤ j by omega) with rfl | rfl | rfl | rfl | h6 <;> first | rfl | (exfalso; omega) | (rw [fd_due, if_neg (by decide), if_neg (by decide), if_pos h6])) ndD_sortOf_98
    · refine lv_tableIn (off := 78) (tgt := 99) hx hb ndD_sortOf_21 (by decide) (by decide) (by decide) (by decide) ?_
      refine lv_iload hx hb ndD_sortOf_99 (lv_at hl 0 rfl) ?_
      refine lv_if_ne (tgt := 108) hx hb ndD_sortOf_101 (by decide) (fun c_101 => ?_) (fun c_101 => ?_)
      · have n_101 := mt (nI_eq (a := (j - 2)) (b := 0) (by omega) (by omega)).mpr c_101
        refine lv_iload hx hb ndD_sortOf_108 (lv_at hl 0 rfl) ?_
        refine lv_iconst (v := 1) hx hb ndD_sortOf_110 (by decide) ?_
        refine lv_icmp_ne (tgt := 118) hx hb ndD_sortOf_111 (by decide) (fun c_111 => ?_) (fun c_111 => ?_)
        · have n_111 := mt (nI_eq (a := (j - 2)) (b := 1) (by omega) (by omega)).mpr c_111
          refine lv_iload hx hb ndD_sortOf_118 (lv_at hl 0 rfl) ?_
          refine lv_iconst (v := 2) hx hb ndD_sortOf_120 (by decide) ?_
          refine lv_icmp_ne (tgt := 128) hx hb ndD_sortOf_121 (by decide) (fun c_121 => ?_) (fun c_121 => ?_)
          · have n_121 := mt (nI_eq (a := (j - 2)) (b := 2) (by omega) (by omega)).mpr c_121
            refine lv_iload hx hb ndD_sortOf_128 (lv_at hl 0 rfl) ?_
            refine lv_iconst (v := 3) hx hb ndD_sortOf_130 (by decide) ?_
            refine lv_icmp_ne (tgt := 139) hx hb ndD_sortOf_131 (by decide) (fun c_131 => ?_) (fun c_131 => ?_)
            · have n_131 := mt (nI_eq (a := (j - 2)) (b := 3) (by omega) (by omega)).mpr c_131
              refine lv_iconst (v := 0) hx hb ndD_sortOf_139 (by decide) ?_
              exact fd_ret_i hx hb hr hlocks hS hP hD rfl (by rcases (show j = 2 ∨ j = 3 ∨ j = 4 ∨ j = 5 ∨ 6 ≤ j by omega) with rfl | rfl | rfl | rfl | h6 <;> first | rfl | (exfalso; omega) | (rw [fd_due, if_neg (by decide), if_neg (by decide), if_pos h6])) ndD_sortOf_140
            · have n_131 := (nI_eq (a := (j - 2)) (b := 3) (by omega) (by omega)).mp c_131
              refine lv_bipush (v := 6) hx hb ndD_sortOf_134 (by decide) ?_
              refine lv_goto (tgt := 140) hx hb ndD_sortOf_136 (by decide) ?_
              exact fd_ret_i hx hb hr hlocks hS hP hD rfl (by rcases (show j = 2 ∨ j = 3 ∨ j = 4 ∨ j = 5 ∨ 6 ≤ j by omega) with rfl | rfl | rfl | rfl | h6 <;> first | rfl | (exfalso; omega) | (rw [fd_due, if_neg (by decide), if_neg (by decide), if_pos h6])) ndD_sortOf_140
          · have n_121 := (nI_eq (a := (j - 2)) (b := 2) (by omega) (by omega)).mp c_121
            refine lv_iconst (v := 4) hx hb ndD_sortOf_124 (by decide) ?_
            refine lv_goto (tgt := 140) hx hb ndD_sortOf_125 (by decide) ?_
            exact fd_ret_i hx hb hr hlocks hS hP hD rfl (by rcases (show j = 2 ∨ j = 3 ∨ j = 4 ∨ j = 5 ∨ 6 ≤ j by omega) with rfl | rfl | rfl | rfl | h6 <;> first | rfl | (exfalso; omega) | (rw [fd_due, if_neg (by decide), if_neg (by decide), if_pos h6])) ndD_sortOf_140
        · have n_111 := (nI_eq (a := (j - 2)) (b := 1) (by omega) (by omega)).mp c_111
          refine lv_iconst (v := 5) hx hb ndD_sortOf_114 (by decide) ?_
          refine lv_goto (tgt := 140) hx hb ndD_sortOf_115 (by decide) ?_
          exact fd_ret_i hx hb hr hlocks hS hP hD rfl (by rcases (show j = 2 ∨ j = 3 ∨ j = 4 ∨ j = 5 ∨ 6 ≤ j by omega) with rfl | rfl | rfl | rfl | h6 <;> first | rfl | (exfalso; omega) | (rw [fd_due, if_neg (by decide), if_neg (by decide), if_pos h6])) ndD_sortOf_140
      · have n_101 := (nI_eq (a := (j - 2)) (b := 0) (by omega) (by omega)).mp c_101
        refine lv_iconst (v := 2) hx hb ndD_sortOf_104 (by decide) ?_
        refine lv_goto (tgt := 140) hx hb ndD_sortOf_105 (by decide) ?_
        exact fd_ret_i hx hb hr hlocks hS hP hD rfl (by rcases (show j = 2 ∨ j = 3 ∨ j = 4 ∨ j = 5 ∨ 6 ≤ j by omega) with rfl | rfl | rfl | rfl | h6 <;> first | rfl | (exfalso; omega) | (rw [fd_due, if_neg (by decide), if_neg (by decide), if_pos h6])) ndD_sortOf_140
    · refine lv_tableIn (off := 120) (tgt := 141) hx hb ndD_sortOf_21 (by decide) (by decide) (by decide) (by decide) ?_
      refine lv_iload hx hb ndD_sortOf_141 (lv_at hl 0 rfl) ?_
      refine lv_if_ne (tgt := 150) hx hb ndD_sortOf_143 (by decide) (fun c_143 => ?_) (fun c_143 => ?_)
      · have n_143 := mt (nI_eq (a := (j - 2)) (b := 0) (by omega) (by omega)).mpr c_143
        refine lv_iload hx hb ndD_sortOf_150 (lv_at hl 0 rfl) ?_
        refine lv_iconst (v := 1) hx hb ndD_sortOf_152 (by decide) ?_
        refine lv_icmp_ne (tgt := 160) hx hb ndD_sortOf_153 (by decide) (fun c_153 => ?_) (fun c_153 => ?_)
        · have n_153 := mt (nI_eq (a := (j - 2)) (b := 1) (by omega) (by omega)).mpr c_153
          refine lv_iload hx hb ndD_sortOf_160 (lv_at hl 0 rfl) ?_
          refine lv_iconst (v := 2) hx hb ndD_sortOf_162 (by decide) ?_
          refine lv_icmp_ne (tgt := 171) hx hb ndD_sortOf_163 (by decide) (fun c_163 => ?_) (fun c_163 => ?_)
          · have n_163 := mt (nI_eq (a := (j - 2)) (b := 2) (by omega) (by omega)).mpr c_163
            refine lv_iconst (v := 0) hx hb ndD_sortOf_171 (by decide) ?_
            exact fd_ret_i hx hb hr hlocks hS hP hD rfl (by rcases (show j = 2 ∨ j = 3 ∨ j = 4 ∨ j = 5 ∨ 6 ≤ j by omega) with rfl | rfl | rfl | rfl | h6 <;> first | rfl | (exfalso; omega) | (rw [fd_due, if_neg (by decide), if_neg (by decide), if_pos h6])) ndD_sortOf_172
          · have n_163 := (nI_eq (a := (j - 2)) (b := 2) (by omega) (by omega)).mp c_163
            refine lv_bipush (v := 6) hx hb ndD_sortOf_166 (by decide) ?_
            refine lv_goto (tgt := 172) hx hb ndD_sortOf_168 (by decide) ?_
            exact fd_ret_i hx hb hr hlocks hS hP hD rfl (by rcases (show j = 2 ∨ j = 3 ∨ j = 4 ∨ j = 5 ∨ 6 ≤ j by omega) with rfl | rfl | rfl | rfl | h6 <;> first | rfl | (exfalso; omega) | (rw [fd_due, if_neg (by decide), if_neg (by decide), if_pos h6])) ndD_sortOf_172
        · have n_153 := (nI_eq (a := (j - 2)) (b := 1) (by omega) (by omega)).mp c_153
          refine lv_iconst (v := 4) hx hb ndD_sortOf_156 (by decide) ?_
          refine lv_goto (tgt := 172) hx hb ndD_sortOf_157 (by decide) ?_
          exact fd_ret_i hx hb hr hlocks hS hP hD rfl (by rcases (show j = 2 ∨ j = 3 ∨ j = 4 ∨ j = 5 ∨ 6 ≤ j by omega) with rfl | rfl | rfl | rfl | h6 <;> first | rfl | (exfalso; omega) | (rw [fd_due, if_neg (by decide), if_neg (by decide), if_pos h6])) ndD_sortOf_172
      · have n_143 := (nI_eq (a := (j - 2)) (b := 0) (by omega) (by omega)).mp c_143
        refine lv_iconst (v := 2) hx hb ndD_sortOf_146 (by decide) ?_
        refine lv_goto (tgt := 172) hx hb ndD_sortOf_147 (by decide) ?_
        exact fd_ret_i hx hb hr hlocks hS hP hD rfl (by rcases (show j = 2 ∨ j = 3 ∨ j = 4 ∨ j = 5 ∨ 6 ≤ j by omega) with rfl | rfl | rfl | rfl | h6 <;> first | rfl | (exfalso; omega) | (rw [fd_due, if_neg (by decide), if_neg (by decide), if_pos h6])) ndD_sortOf_172
    · refine lv_tableIn (off := 152) (tgt := 173) hx hb ndD_sortOf_21 (by decide) (by decide) (by decide) (by decide) ?_
      refine lv_iload hx hb ndD_sortOf_173 (lv_at hl 0 rfl) ?_
      refine lv_if_ne (tgt := 182) hx hb ndD_sortOf_175 (by decide) (fun c_175 => ?_) (fun c_175 => ?_)
      · have n_175 := mt (nI_eq (a := (j - 2)) (b := 0) (by omega) (by omega)).mpr c_175
        refine lv_iload hx hb ndD_sortOf_182 (lv_at hl 0 rfl) ?_
        refine lv_iconst (v := 1) hx hb ndD_sortOf_184 (by decide) ?_
        refine lv_icmp_ne (tgt := 192) hx hb ndD_sortOf_185 (by decide) (fun c_185 => ?_) (fun c_185 => ?_)
        · have n_185 := mt (nI_eq (a := (j - 2)) (b := 1) (by omega) (by omega)).mpr c_185
          refine lv_iload hx hb ndD_sortOf_192 (lv_at hl 0 rfl) ?_
          refine lv_iconst (v := 2) hx hb ndD_sortOf_194 (by decide) ?_
          refine lv_icmp_ne (tgt := 202) hx hb ndD_sortOf_195 (by decide) (fun c_195 => ?_) (fun c_195 => ?_)
          · have n_195 := mt (nI_eq (a := (j - 2)) (b := 2) (by omega) (by omega)).mpr c_195
            refine lv_iconst (v := 0) hx hb ndD_sortOf_202 (by decide) ?_
            exact fd_ret_i hx hb hr hlocks hS hP hD rfl (by rcases (show j = 2 ∨ j = 3 ∨ j = 4 ∨ j = 5 ∨ 6 ≤ j by omega) with rfl | rfl | rfl | rfl | h6 <;> first | rfl | (exfalso; omega) | (rw [fd_due, if_neg (by decide), if_neg (by decide), if_pos h6])) ndD_sortOf_203
          · have n_195 := (nI_eq (a := (j - 2)) (b := 2) (by omega) (by omega)).mp c_195
            refine lv_iconst (v := 4) hx hb ndD_sortOf_198 (by decide) ?_
            refine lv_goto (tgt := 203) hx hb ndD_sortOf_199 (by decide) ?_
            exact fd_ret_i hx hb hr hlocks hS hP hD rfl (by rcases (show j = 2 ∨ j = 3 ∨ j = 4 ∨ j = 5 ∨ 6 ≤ j by omega) with rfl | rfl | rfl | rfl | h6 <;> first | rfl | (exfalso; omega) | (rw [fd_due, if_neg (by decide), if_neg (by decide), if_pos h6])) ndD_sortOf_203
        · have n_185 := (nI_eq (a := (j - 2)) (b := 1) (by omega) (by omega)).mp c_185
          refine lv_iconst (v := 1) hx hb ndD_sortOf_188 (by decide) ?_
          refine lv_goto (tgt := 203) hx hb ndD_sortOf_189 (by decide) ?_
          exact fd_ret_i hx hb hr hlocks hS hP hD rfl (by rcases (show j = 2 ∨ j = 3 ∨ j = 4 ∨ j = 5 ∨ 6 ≤ j by omega) with rfl | rfl | rfl | rfl | h6 <;> first | rfl | (exfalso; omega) | (rw [fd_due, if_neg (by decide), if_neg (by decide), if_pos h6])) ndD_sortOf_203
      · have n_175 := (nI_eq (a := (j - 2)) (b := 0) (by omega) (by omega)).mp c_175
        refine lv_iconst (v := 2) hx hb ndD_sortOf_178 (by decide) ?_
        refine lv_goto (tgt := 203) hx hb ndD_sortOf_179 (by decide) ?_
        exact fd_ret_i hx hb hr hlocks hS hP hD rfl (by rcases (show j = 2 ∨ j = 3 ∨ j = 4 ∨ j = 5 ∨ 6 ≤ j by omega) with rfl | rfl | rfl | rfl | h6 <;> first | rfl | (exfalso; omega) | (rw [fd_due, if_neg (by decide), if_neg (by decide), if_pos h6])) ndD_sortOf_203
    · refine lv_tableIn (off := 152) (tgt := 173) hx hb ndD_sortOf_21 (by decide) (by decide) (by decide) (by decide) ?_
      refine lv_iload hx hb ndD_sortOf_173 (lv_at hl 0 rfl) ?_
      refine lv_if_ne (tgt := 182) hx hb ndD_sortOf_175 (by decide) (fun c_175 => ?_) (fun c_175 => ?_)
      · have n_175 := mt (nI_eq (a := (j - 2)) (b := 0) (by omega) (by omega)).mpr c_175
        refine lv_iload hx hb ndD_sortOf_182 (lv_at hl 0 rfl) ?_
        refine lv_iconst (v := 1) hx hb ndD_sortOf_184 (by decide) ?_
        refine lv_icmp_ne (tgt := 192) hx hb ndD_sortOf_185 (by decide) (fun c_185 => ?_) (fun c_185 => ?_)
        · have n_185 := mt (nI_eq (a := (j - 2)) (b := 1) (by omega) (by omega)).mpr c_185
          refine lv_iload hx hb ndD_sortOf_192 (lv_at hl 0 rfl) ?_
          refine lv_iconst (v := 2) hx hb ndD_sortOf_194 (by decide) ?_
          refine lv_icmp_ne (tgt := 202) hx hb ndD_sortOf_195 (by decide) (fun c_195 => ?_) (fun c_195 => ?_)
          · have n_195 := mt (nI_eq (a := (j - 2)) (b := 2) (by omega) (by omega)).mpr c_195
            refine lv_iconst (v := 0) hx hb ndD_sortOf_202 (by decide) ?_
            exact fd_ret_i hx hb hr hlocks hS hP hD rfl (by rcases (show j = 2 ∨ j = 3 ∨ j = 4 ∨ j = 5 ∨ 6 ≤ j by omega) with rfl | rfl | rfl | rfl | h6 <;> first | rfl | (exfalso; omega) | (rw [fd_due, if_neg (by decide), if_neg (by decide), if_pos h6])) ndD_sortOf_203
          · have n_195 := (nI_eq (a := (j - 2)) (b := 2) (by omega) (by omega)).mp c_195
            refine lv_iconst (v := 4) hx hb ndD_sortOf_198 (by decide) ?_
            refine lv_goto (tgt := 203) hx hb ndD_sortOf_199 (by decide) ?_
            exact fd_ret_i hx hb hr hlocks hS hP hD rfl (by rcases (show j = 2 ∨ j = 3 ∨ j = 4 ∨ j = 5 ∨ 6 ≤ j by omega) with rfl | rfl | rfl | rfl | h6 <;> first | rfl | (exfalso; omega) | (rw [fd_due, if_neg (by decide), if_neg (by decide), if_pos h6])) ndD_sortOf_203
        · have n_185 := (nI_eq (a := (j - 2)) (b := 1) (by omega) (by omega)).mp c_185
          refine lv_iconst (v := 1) hx hb ndD_sortOf_188 (by decide) ?_
          refine lv_goto (tgt := 203) hx hb ndD_sortOf_189 (by decide) ?_
          exact fd_ret_i hx hb hr hlocks hS hP hD rfl (by rcases (show j = 2 ∨ j = 3 ∨ j = 4 ∨ j = 5 ∨ 6 ≤ j by omega) with rfl | rfl | rfl | rfl | h6 <;> first | rfl | (exfalso; omega) | (rw [fd_due, if_neg (by decide), if_neg (by decide), if_pos h6])) ndD_sortOf_203
      · have n_175 := (nI_eq (a := (j - 2)) (b := 0) (by omega) (by omega)).mp c_175
        refine lv_iconst (v := 2) hx hb ndD_sortOf_178 (by decide) ?_
        refine lv_goto (tgt := 203) hx hb ndD_sortOf_179 (by decide) ?_
        exact fd_ret_i hx hb hr hlocks hS hP hD rfl (by rcases (show j = 2 ∨ j = 3 ∨ j = 4 ∨ j = 5 ∨ 6 ≤ j by omega) with rfl | rfl | rfl | rfl | h6 <;> first | rfl | (exfalso; omega) | (rw [fd_due, if_neg (by decide), if_neg (by decide), if_pos h6])) ndD_sortOf_203
    · refine lv_tableIn (off := 183) (tgt := 204) hx hb ndD_sortOf_21 (by decide) (by decide) (by decide) (by decide) ?_
      refine lv_iload hx hb ndD_sortOf_204 (lv_at hl 0 rfl) ?_
      refine lv_if_ne (tgt := 214) hx hb ndD_sortOf_206 (by decide) (fun c_206 => ?_) (fun c_206 => ?_)
      · have n_206 := mt (nI_eq (a := (j - 2)) (b := 0) (by omega) (by omega)).mpr c_206
        refine lv_iload hx hb ndD_sortOf_214 (lv_at hl 0 rfl) ?_
        refine lv_iconst (v := 1) hx hb ndD_sortOf_216 (by decide) ?_
        refine lv_icmp_ne (tgt := 225) hx hb ndD_sortOf_217 (by decide) (fun c_217 => ?_) (fun c_217 => ?_)
        · have n_217 := mt (nI_eq (a := (j - 2)) (b := 1) (by omega) (by omega)).mpr c_217
          refine lv_iload hx hb ndD_sortOf_225 (lv_at hl 0 rfl) ?_
          refine lv_iconst (v := 2) hx hb ndD_sortOf_227 (by decide) ?_
          refine lv_isub hx hb ndD_sortOf_228 ?_
          refine fd_asi (y := nI (j - 4)) (fd_sub2 (by omega)) ?_
          refine lv_i2l hx hb ndD_sortOf_229 rfl ?_
          refine lv_ldc2 hx hb hown (hts _ tb_306) ndD_sortOf_230 ?_
          refine lv_lload_n hx hb ndD_sortOf_233 rfl (lv_at hl 3 rfl) ?_
          refine lv_lmul hx hb ndD_sortOf_234 ?_
          refine W.lcmp hx hb ndD_sortOf_235 ?_
          refine lv_if_lt (tgt := 243) hx hb ndD_sortOf_236 (by decide) (fun c_236 => ?_) (fun c_236 => ?_)
          · have n_236 := (lg_cmp_lt _ _).mp c_236
            refine lv_iload hx hb ndD_sortOf_243 (lv_at hl 0 rfl) ?_
            refine lv_iconst (v := 2) hx hb ndD_sortOf_245 (by decide) ?_
            refine lv_isub hx hb ndD_sortOf_246 ?_
            refine fd_asi (y := nI (j - 4)) (fd_sub2 (by omega)) ?_
            refine lv_iconst (v := 4) hx hb ndD_sortOf_247 (by decide) ?_
            refine lv_irem hx hb ndD_sortOf_248 (by decide) ?_
            refine fd_asi (y := nI ((j - 4) % 4)) (pk_rem (a := j - 4) (d := 4) (by omega) (by omega) (by omega)) ?_
            refine lv_iconst (v := 2) hx hb ndD_sortOf_249 (by decide) ?_
            refine lv_icmp_ge (tgt := 257) hx hb ndD_sortOf_250 (by decide) (fun c_250 => ?_) (fun c_250 => ?_)
            · have n_250 := (nI_leI (a := 2) (b := ((j - 4) % 4)) (by omega) (by omega)).mp c_250
              refine lv_iload hx hb ndD_sortOf_257 (lv_at hl 0 rfl) ?_
              refine lv_iconst (v := 2) hx hb ndD_sortOf_259 (by decide) ?_
              refine lv_isub hx hb ndD_sortOf_260 ?_
              refine fd_asi (y := nI (j - 4)) (fd_sub2 (by omega)) ?_
              refine lv_iconst (v := 4) hx hb ndD_sortOf_261 (by decide) ?_
              refine lv_irem hx hb ndD_sortOf_262 (by decide) ?_
              refine fd_asi (y := nI ((j - 4) % 4)) (pk_rem (a := j - 4) (d := 4) (by omega) (by omega) (by omega)) ?_
              refine lv_iconst (v := 2) hx hb ndD_sortOf_263 (by decide) ?_
              refine lv_icmp_ne (tgt := 271) hx hb ndD_sortOf_264 (by decide) (fun c_264 => ?_) (fun c_264 => ?_)
              · have n_264 := mt (nI_eq (a := ((j - 4) % 4)) (b := 2) (by omega) (by omega)).mpr c_264
                refine lv_iconst (v := 4) hx hb ndD_sortOf_271 (by decide) ?_
                exact fd_ret_i hx hb hr hlocks hS hP hD rfl (by rw [fd_so6 (by omega), fd_leg, Int64.mul_comm, if_neg (Int64.not_le.mpr n_236)]; exact (fd_lg4 _ (Nat.mod_lt _ (by decide))).2.2 (by omega)) ndD_sortOf_272
              · have n_264 := (nI_eq (a := ((j - 4) % 4)) (b := 2) (by omega) (by omega)).mp c_264
                refine lv_iconst (v := 2) hx hb ndD_sortOf_267 (by decide) ?_
                refine lv_goto (tgt := 272) hx hb ndD_sortOf_268 (by decide) ?_
                exact fd_ret_i hx hb hr hlocks hS hP hD rfl (by rw [fd_so6 (by omega), fd_leg, Int64.mul_comm, if_neg (Int64.not_le.mpr n_236)]; exact (fd_lg4 _ (Nat.mod_lt _ (by decide))).2.1 (by omega)) ndD_sortOf_272
            · have n_250 := mt (nI_leI (a := 2) (b := ((j - 4) % 4)) (by omega) (by omega)).mpr c_250
              refine lv_iconst (v := 1) hx hb ndD_sortOf_253 (by decide) ?_
              refine lv_goto (tgt := 272) hx hb ndD_sortOf_254 (by decide) ?_
              exact fd_ret_i hx hb hr hlocks hS hP hD rfl (by rw [fd_so6 (by omega), fd_leg, Int64.mul_comm, if_neg (Int64.not_le.mpr n_236)]; exact (fd_lg4 _ (Nat.mod_lt _ (by decide))).1 (by omega)) ndD_sortOf_272
          · have n_236 := mt (lg_cmp_lt _ _).mpr c_236
            refine lv_iconst (v := 0) hx hb ndD_sortOf_239 (by decide) ?_
            refine lv_goto (tgt := 272) hx hb ndD_sortOf_240 (by decide) ?_
            exact fd_ret_i hx hb hr hlocks hS hP hD rfl (by rw [fd_so6 (by omega), fd_leg, Int64.mul_comm, if_pos (Int64.not_lt.mp n_236)]) ndD_sortOf_272
        · have n_217 := (nI_eq (a := (j - 2)) (b := 1) (by omega) (by omega)).mp c_217
          refine lv_bipush (v := 8) hx hb ndD_sortOf_220 (by decide) ?_
          refine lv_goto (tgt := 272) hx hb ndD_sortOf_222 (by decide) ?_
          exact fd_ret_i hx hb hr hlocks hS hP hD rfl (by rcases (show j = 2 ∨ j = 3 ∨ j = 4 ∨ j = 5 ∨ 6 ≤ j by omega) with rfl | rfl | rfl | rfl | h6 <;> first | rfl | (exfalso; omega) | (rw [fd_due, if_neg (by decide), if_neg (by decide), if_pos h6])) ndD_sortOf_272
      · have n_206 := (nI_eq (a := (j - 2)) (b := 0) (by omega) (by omega)).mp c_206
        refine lv_bipush (v := 7) hx hb ndD_sortOf_209 (by decide) ?_
        refine lv_goto (tgt := 272) hx hb ndD_sortOf_211 (by decide) ?_
        exact fd_ret_i hx hb hr hlocks hS hP hD rfl (by rcases (show j = 2 ∨ j = 3 ∨ j = 4 ∨ j = 5 ∨ 6 ≤ j by omega) with rfl | rfl | rfl | rfl | h6 <;> first | rfl | (exfalso; omega) | (rw [fd_due, if_neg (by decide), if_neg (by decide), if_pos h6])) ndD_sortOf_272
    · refine lv_tableIn (off := 252) (tgt := 273) hx hb ndD_sortOf_21 (by decide) (by decide) (by decide) (by decide) ?_
      refine lv_iload hx hb ndD_sortOf_273 (lv_at hl 0 rfl) ?_
      refine lv_if_ne (tgt := 282) hx hb ndD_sortOf_275 (by decide) (fun c_275 => ?_) (fun c_275 => ?_)
      · have n_275 := mt (nI_eq (a := (j - 2)) (b := 0) (by omega) (by omega)).mpr c_275
        refine lv_iload hx hb ndD_sortOf_282 (lv_at hl 0 rfl) ?_
        refine lv_iconst (v := 1) hx hb ndD_sortOf_284 (by decide) ?_
        refine lv_icmp_ne (tgt := 292) hx hb ndD_sortOf_285 (by decide) (fun c_285 => ?_) (fun c_285 => ?_)
        · have n_285 := mt (nI_eq (a := (j - 2)) (b := 1) (by omega) (by omega)).mpr c_285
          refine lv_iconst (v := 0) hx hb ndD_sortOf_292 (by decide) ?_
          exact fd_ret_i hx hb hr hlocks hS hP hD rfl (by rcases (show j = 2 ∨ j = 3 ∨ j = 4 ∨ j = 5 ∨ 6 ≤ j by omega) with rfl | rfl | rfl | rfl | h6 <;> first | rfl | (exfalso; omega) | (rw [fd_due, if_neg (by decide), if_neg (by decide), if_pos h6])) ndD_sortOf_293
        · have n_285 := (nI_eq (a := (j - 2)) (b := 1) (by omega) (by omega)).mp c_285
          refine lv_iconst (v := 3) hx hb ndD_sortOf_288 (by decide) ?_
          refine lv_goto (tgt := 293) hx hb ndD_sortOf_289 (by decide) ?_
          exact fd_ret_i hx hb hr hlocks hS hP hD rfl (by rcases (show j = 2 ∨ j = 3 ∨ j = 4 ∨ j = 5 ∨ 6 ≤ j by omega) with rfl | rfl | rfl | rfl | h6 <;> first | rfl | (exfalso; omega) | (rw [fd_due, if_neg (by decide), if_neg (by decide), if_pos h6])) ndD_sortOf_293
      · have n_275 := (nI_eq (a := (j - 2)) (b := 0) (by omega) (by omega)).mp c_275
        refine lv_iconst (v := 1) hx hb ndD_sortOf_278 (by decide) ?_
        refine lv_goto (tgt := 293) hx hb ndD_sortOf_279 (by decide) ?_
        exact fd_ret_i hx hb hr hlocks hS hP hD rfl (by rcases (show j = 2 ∨ j = 3 ∨ j = 4 ∨ j = 5 ∨ 6 ≤ j by omega) with rfl | rfl | rfl | rfl | h6 <;> first | rfl | (exfalso; omega) | (rw [fd_due, if_neg (by decide), if_neg (by decide), if_pos h6])) ndD_sortOf_293
    · refine lv_tableIn (off := 273) (tgt := 294) hx hb ndD_sortOf_21 (by decide) (by decide) (by decide) (by decide) ?_
      refine lv_iload hx hb ndD_sortOf_294 (lv_at hl 0 rfl) ?_
      refine lv_if_ne (tgt := 303) hx hb ndD_sortOf_296 (by decide) (fun c_296 => ?_) (fun c_296 => ?_)
      · have n_296 := mt (nI_eq (a := (j - 2)) (b := 0) (by omega) (by omega)).mpr c_296
        refine lv_iconst (v := 0) hx hb ndD_sortOf_303 (by decide) ?_
        exact fd_ret_i hx hb hr hlocks hS hP hD rfl (by rcases (show j = 2 ∨ j = 3 ∨ j = 4 ∨ j = 5 ∨ 6 ≤ j by omega) with rfl | rfl | rfl | rfl | h6 <;> first | rfl | (exfalso; omega) | (rw [fd_due, if_neg (by decide), if_neg (by decide), if_pos h6])) ndD_sortOf_304
      · have n_296 := (nI_eq (a := (j - 2)) (b := 0) (by omega) (by omega)).mp c_296
        refine lv_iconst (v := 3) hx hb ndD_sortOf_299 (by decide) ?_
        refine lv_goto (tgt := 304) hx hb ndD_sortOf_300 (by decide) ?_
        exact fd_ret_i hx hb hr hlocks hS hP hD rfl (by rcases (show j = 2 ∨ j = 3 ∨ j = 4 ∨ j = 5 ∨ 6 ≤ j by omega) with rfl | rfl | rfl | rfl | h6 <;> first | rfl | (exfalso; omega) | (rw [fd_due, if_neg (by decide), if_neg (by decide), if_pos h6])) ndD_sortOf_304
    · refine lv_tableIn (off := 284) (tgt := 305) hx hb ndD_sortOf_21 (by decide) (by decide) (by decide) (by decide) ?_
      refine lv_iload hx hb ndD_sortOf_305 (lv_at hl 0 rfl) ?_
      refine lv_if_ne (tgt := 314) hx hb ndD_sortOf_307 (by decide) (fun c_307 => ?_) (fun c_307 => ?_)
      · have n_307 := mt (nI_eq (a := (j - 2)) (b := 0) (by omega) (by omega)).mpr c_307
        refine lv_iload hx hb ndD_sortOf_314 (lv_at hl 0 rfl) ?_
        refine lv_iconst (v := 1) hx hb ndD_sortOf_316 (by decide) ?_
        refine lv_icmp_ne (tgt := 325) hx hb ndD_sortOf_317 (by decide) (fun c_317 => ?_) (fun c_317 => ?_)
        · have n_317 := mt (nI_eq (a := (j - 2)) (b := 1) (by omega) (by omega)).mpr c_317
          refine lv_iconst (v := 0) hx hb ndD_sortOf_325 (by decide) ?_
          exact fd_ret_i hx hb hr hlocks hS hP hD rfl (by rcases (show j = 2 ∨ j = 3 ∨ j = 4 ∨ j = 5 ∨ 6 ≤ j by omega) with rfl | rfl | rfl | rfl | h6 <;> first | rfl | (exfalso; omega) | (rw [fd_due, if_neg (by decide), if_neg (by decide), if_pos h6])) ndD_sortOf_326
        · have n_317 := (nI_eq (a := (j - 2)) (b := 1) (by omega) (by omega)).mp c_317
          refine lv_bipush (v := 7) hx hb ndD_sortOf_320 (by decide) ?_
          refine lv_goto (tgt := 326) hx hb ndD_sortOf_322 (by decide) ?_
          exact fd_ret_i hx hb hr hlocks hS hP hD rfl (by rcases (show j = 2 ∨ j = 3 ∨ j = 4 ∨ j = 5 ∨ 6 ≤ j by omega) with rfl | rfl | rfl | rfl | h6 <;> first | rfl | (exfalso; omega) | (rw [fd_due, if_neg (by decide), if_neg (by decide), if_pos h6])) ndD_sortOf_326
      · have n_307 := (nI_eq (a := (j - 2)) (b := 0) (by omega) (by omega)).mp c_307
        refine lv_iconst (v := 3) hx hb ndD_sortOf_310 (by decide) ?_
        refine lv_goto (tgt := 326) hx hb ndD_sortOf_311 (by decide) ?_
        exact fd_ret_i hx hb hr hlocks hS hP hD rfl (by rcases (show j = 2 ∨ j = 3 ∨ j = 4 ∨ j = 5 ∨ 6 ≤ j by omega) with rfl | rfl | rfl | rfl | h6 <;> first | rfl | (exfalso; omega) | (rw [fd_due, if_neg (by decide), if_neg (by decide), if_pos h6])) ndD_sortOf_326
    · refine lv_tableIn (off := 306) (tgt := 327) hx hb ndD_sortOf_21 (by decide) (by decide) (by decide) (by decide) ?_
      refine lv_iload hx hb ndD_sortOf_327 (lv_at hl 0 rfl) ?_
      refine lv_if_ne (tgt := 336) hx hb ndD_sortOf_329 (by decide) (fun c_329 => ?_) (fun c_329 => ?_)
      · have n_329 := mt (nI_eq (a := (j - 2)) (b := 0) (by omega) (by omega)).mpr c_329
        refine lv_iload hx hb ndD_sortOf_336 (lv_at hl 0 rfl) ?_
        refine lv_iconst (v := 1) hx hb ndD_sortOf_338 (by decide) ?_
        refine lv_icmp_ne (tgt := 346) hx hb ndD_sortOf_339 (by decide) (fun c_339 => ?_) (fun c_339 => ?_)
        · have n_339 := mt (nI_eq (a := (j - 2)) (b := 1) (by omega) (by omega)).mpr c_339
          refine lv_iconst (v := 0) hx hb ndD_sortOf_346 (by decide) ?_
          exact fd_ret_i hx hb hr hlocks hS hP hD rfl (by rcases (show j = 2 ∨ j = 3 ∨ j = 4 ∨ j = 5 ∨ 6 ≤ j by omega) with rfl | rfl | rfl | rfl | h6 <;> first | rfl | (exfalso; omega) | (rw [fd_due, if_neg (by decide), if_neg (by decide), if_pos h6])) ndD_sortOf_347
        · have n_339 := (nI_eq (a := (j - 2)) (b := 1) (by omega) (by omega)).mp c_339
          refine lv_iconst (v := 4) hx hb ndD_sortOf_342 (by decide) ?_
          refine lv_goto (tgt := 347) hx hb ndD_sortOf_343 (by decide) ?_
          exact fd_ret_i hx hb hr hlocks hS hP hD rfl (by rcases (show j = 2 ∨ j = 3 ∨ j = 4 ∨ j = 5 ∨ 6 ≤ j by omega) with rfl | rfl | rfl | rfl | h6 <;> first | rfl | (exfalso; omega) | (rw [fd_due, if_neg (by decide), if_neg (by decide), if_pos h6])) ndD_sortOf_347
      · have n_329 := (nI_eq (a := (j - 2)) (b := 0) (by omega) (by omega)).mp c_329
        refine lv_iconst (v := 1) hx hb ndD_sortOf_332 (by decide) ?_
        refine lv_goto (tgt := 347) hx hb ndD_sortOf_333 (by decide) ?_
        exact fd_ret_i hx hb hr hlocks hS hP hD rfl (by rcases (show j = 2 ∨ j = 3 ∨ j = 4 ∨ j = 5 ∨ 6 ≤ j by omega) with rfl | rfl | rfl | rfl | h6 <;> first | rfl | (exfalso; omega) | (rw [fd_due, if_neg (by decide), if_neg (by decide), if_pos h6])) ndD_sortOf_347
    · refine lv_tableIn (off := 67) (tgt := 88) hx hb ndD_sortOf_21 (by decide) (by decide) (by decide) (by decide) ?_
      refine lv_iload hx hb ndD_sortOf_88 (lv_at hl 0 rfl) ?_
      refine lv_if_ne (tgt := 97) hx hb ndD_sortOf_90 (by decide) (fun c_90 => ?_) (fun c_90 => ?_)
      · have n_90 := mt (nI_eq (a := (j - 2)) (b := 0) (by omega) (by omega)).mpr c_90
        refine lv_iconst (v := 0) hx hb ndD_sortOf_97 (by decide) ?_
        exact fd_ret_i hx hb hr hlocks hS hP hD rfl (by rcases (show j = 2 ∨ j = 3 ∨ j = 4 ∨ j = 5 ∨ 6 ≤ j by omega) with rfl | rfl | rfl | rfl | h6 <;> first | rfl | (exfalso; omega) | (rw [fd_due, if_neg (by decide), if_neg (by decide), if_pos h6])) ndD_sortOf_98
      · have n_90 := (nI_eq (a := (j - 2)) (b := 0) (by omega) (by omega)).mp c_90
        refine lv_iconst (v := 1) hx hb ndD_sortOf_93 (by decide) ?_
        refine lv_goto (tgt := 98) hx hb ndD_sortOf_94 (by decide) ?_
        exact fd_ret_i hx hb hr hlocks hS hP hD rfl (by rcases (show j = 2 ∨ j = 3 ∨ j = 4 ∨ j = 5 ∨ 6 ≤ j by omega) with rfl | rfl | rfl | rfl | h6 <;> first | rfl | (exfalso; omega) | (rw [fd_due, if_neg (by decide), if_neg (by decide), if_pos h6])) ndD_sortOf_98
    · refine lv_tableIn (off := 327) (tgt := 348) hx hb ndD_sortOf_21 (by decide) (by decide) (by decide) (by decide) ?_
      refine lv_iload hx hb ndD_sortOf_348 (lv_at hl 0 rfl) ?_
      refine lv_if_ne (tgt := 357) hx hb ndD_sortOf_350 (by decide) (fun c_350 => ?_) (fun c_350 => ?_)
      · have n_350 := mt (nI_eq (a := (j - 2)) (b := 0) (by omega) (by omega)).mpr c_350
        refine lv_iload hx hb ndD_sortOf_357 (lv_at hl 0 rfl) ?_
        refine lv_iconst (v := 1) hx hb ndD_sortOf_359 (by decide) ?_
        refine lv_icmp_ne (tgt := 367) hx hb ndD_sortOf_360 (by decide) (fun c_360 => ?_) (fun c_360 => ?_)
        · have n_360 := mt (nI_eq (a := (j - 2)) (b := 1) (by omega) (by omega)).mpr c_360
          refine lv_iconst (v := 0) hx hb ndD_sortOf_367 (by decide) ?_
          exact fd_ret_i hx hb hr hlocks hS hP hD rfl (by rcases (show j = 2 ∨ j = 3 ∨ j = 4 ∨ j = 5 ∨ 6 ≤ j by omega) with rfl | rfl | rfl | rfl | h6 <;> first | rfl | (exfalso; omega) | (rw [fd_due, if_neg (by decide), if_neg (by decide), if_pos h6])) ndD_sortOf_368
        · have n_360 := (nI_eq (a := (j - 2)) (b := 1) (by omega) (by omega)).mp c_360
          refine lv_iconst (v := 4) hx hb ndD_sortOf_363 (by decide) ?_
          refine lv_goto (tgt := 368) hx hb ndD_sortOf_364 (by decide) ?_
          exact fd_ret_i hx hb hr hlocks hS hP hD rfl (by rcases (show j = 2 ∨ j = 3 ∨ j = 4 ∨ j = 5 ∨ 6 ≤ j by omega) with rfl | rfl | rfl | rfl | h6 <;> first | rfl | (exfalso; omega) | (rw [fd_due, if_neg (by decide), if_neg (by decide), if_pos h6])) ndD_sortOf_368
      · have n_350 := (nI_eq (a := (j - 2)) (b := 0) (by omega) (by omega)).mp c_350
        refine lv_iconst (v := 2) hx hb ndD_sortOf_353 (by decide) ?_
        refine lv_goto (tgt := 368) hx hb ndD_sortOf_354 (by decide) ?_
        exact fd_ret_i hx hb hr hlocks hS hP hD rfl (by rcases (show j = 2 ∨ j = 3 ∨ j = 4 ∨ j = 5 ∨ 6 ≤ j by omega) with rfl | rfl | rfl | rfl | h6 <;> first | rfl | (exfalso; omega) | (rw [fd_due, if_neg (by decide), if_neg (by decide), if_pos h6])) ndD_sortOf_368
    · refine lv_tableIn (off := 327) (tgt := 348) hx hb ndD_sortOf_21 (by decide) (by decide) (by decide) (by decide) ?_
      refine lv_iload hx hb ndD_sortOf_348 (lv_at hl 0 rfl) ?_
      refine lv_if_ne (tgt := 357) hx hb ndD_sortOf_350 (by decide) (fun c_350 => ?_) (fun c_350 => ?_)
      · have n_350 := mt (nI_eq (a := (j - 2)) (b := 0) (by omega) (by omega)).mpr c_350
        refine lv_iload hx hb ndD_sortOf_357 (lv_at hl 0 rfl) ?_
        refine lv_iconst (v := 1) hx hb ndD_sortOf_359 (by decide) ?_
        refine lv_icmp_ne (tgt := 367) hx hb ndD_sortOf_360 (by decide) (fun c_360 => ?_) (fun c_360 => ?_)
        · have n_360 := mt (nI_eq (a := (j - 2)) (b := 1) (by omega) (by omega)).mpr c_360
          refine lv_iconst (v := 0) hx hb ndD_sortOf_367 (by decide) ?_
          exact fd_ret_i hx hb hr hlocks hS hP hD rfl (by rcases (show j = 2 ∨ j = 3 ∨ j = 4 ∨ j = 5 ∨ 6 ≤ j by omega) with rfl | rfl | rfl | rfl | h6 <;> first | rfl | (exfalso; omega) | (rw [fd_due, if_neg (by decide), if_neg (by decide), if_pos h6])) ndD_sortOf_368
        · have n_360 := (nI_eq (a := (j - 2)) (b := 1) (by omega) (by omega)).mp c_360
          refine lv_iconst (v := 4) hx hb ndD_sortOf_363 (by decide) ?_
          refine lv_goto (tgt := 368) hx hb ndD_sortOf_364 (by decide) ?_
          exact fd_ret_i hx hb hr hlocks hS hP hD rfl (by rcases (show j = 2 ∨ j = 3 ∨ j = 4 ∨ j = 5 ∨ 6 ≤ j by omega) with rfl | rfl | rfl | rfl | h6 <;> first | rfl | (exfalso; omega) | (rw [fd_due, if_neg (by decide), if_neg (by decide), if_pos h6])) ndD_sortOf_368
      · have n_350 := (nI_eq (a := (j - 2)) (b := 0) (by omega) (by omega)).mp c_350
        refine lv_iconst (v := 2) hx hb ndD_sortOf_353 (by decide) ?_
        refine lv_goto (tgt := 368) hx hb ndD_sortOf_354 (by decide) ?_
        exact fd_ret_i hx hb hr hlocks hS hP hD rfl (by rcases (show j = 2 ∨ j = 3 ∨ j = 4 ∨ j = 5 ∨ 6 ≤ j by omega) with rfl | rfl | rfl | rfl | h6 <;> first | rfl | (exfalso; omega) | (rw [fd_due, if_neg (by decide), if_neg (by decide), if_pos h6])) ndD_sortOf_368
    · refine lv_tableOut (tgt := 369) hx hb ndD_sortOf_21 (by decide) (by decide) ?_
      refine lv_iconst (v := 0) hx hb ndD_sortOf_369 (by decide) ?_
      exact fd_ret_i hx hb hr hlocks hS hP hD rfl (by rcases (show j = 2 ∨ j = 3 ∨ j = 4 ∨ j = 5 ∨ 6 ≤ j by omega) with rfl | rfl | rfl | rfl | h6 <;> first | rfl | (exfalso; omega) | (rw [fd_due, if_neg (by decide), if_neg (by decide), if_pos h6])) ndD_sortOf_370
    · refine lv_tableOut (tgt := 369) hx hb ndD_sortOf_21 (by decide) (by decide) ?_
      refine lv_iconst (v := 0) hx hb ndD_sortOf_369 (by decide) ?_
      exact fd_ret_i hx hb hr hlocks hS hP hD rfl (by rcases (show j = 2 ∨ j = 3 ∨ j = 4 ∨ j = 5 ∨ 6 ≤ j by omega) with rfl | rfl | rfl | rfl | h6 <;> first | rfl | (exfalso; omega) | (rw [fd_due, if_neg (by decide), if_neg (by decide), if_pos h6])) ndD_sortOf_370
  · have n_2 := mt (nI_leI (a := 2) (b := j) (by omega) (by omega)).mpr c_2
    refine lv_iload_n hx hb ndD_sortOf_5 rfl (lv_at hl 1 rfl) ?_
    refine lv_if_ne (tgt := 13) hx hb ndD_sortOf_6 (by decide) (fun c_6 => ?_) (fun c_6 => ?_)
    · have n_6 := mt (nI_eq (a := j) (b := 0) (by omega) (by omega)).mpr c_6
      refine lv_iconst (v := 3) hx hb ndD_sortOf_13 (by decide) ?_
      exact fd_ret_i hx hb hr hlocks hS hP hD rfl (by rw [show j = 1 by omega]; exact (fd_so1 h1 h2 _).symm) ndD_sortOf_14
    · have n_6 := (nI_eq (a := j) (b := 0) (by omega) (by omega)).mp c_6
      refine lv_iconst (v := 1) hx hb ndD_sortOf_9 (by decide) ?_
      refine lv_goto (tgt := 14) hx hb ndD_sortOf_10 (by decide) ?_
      exact fd_ret_i hx hb hr hlocks hS hP hD rfl (by rw [show j = 0 by omega]; exact (fd_so0 h1 h2 _).symm) ndD_sortOf_14
set_option maxHeartbeats 4000000 in
set_option maxRecDepth 100000 in
theorem kD_width (l : Launch) (D : va_G) (Z : Nat → Nat) (cI cL : ClassId) {s1 : Nat} (h1 : 1 ≤ s1) (h2 : s1 ≤ 8) : fd_Mi l D fd_cl (fd_ty cI cL) (fd_EV Z) nyD_width (.code nyD_width ncD_width 1 (some .int) :: fd_TB) nmD_width [.int (nI s1)] [] [] (nI (fd_W (nI s1))) := by
  refine fd_open_i (cc := ncD_width) (maxL := 1) (ret := (some .int)) (by decide) rfl (Nat.le_of_ble_eq_true rfl) ?_
  intro p e s m below meth c A ls X hP hD hS hl
  obtain ⟨hx, hb, hr, hml, hown, hts0, hlocks, hK, hEV, hA⟩ := X
  have hts : ∀ w ∈ fd_TB, w.before _ s = true := fun w h => hts0 w (List.mem_cons_of_mem _ h)
  have hE := fd_EV_ok Z
  have hown : s.vm.findClass "FieldDeskModel" = some m.cls := hown
  have hl : lv_has ls 1 [(0, .int (nI s1))] := hl
  refine lv_iload_n hx hb ndD_width_0 rfl (lv_at hl 0 rfl) ?_
  rcases (show s1 = 1 ∨ s1 = 2 ∨ s1 = 3 ∨ s1 = 4 ∨ s1 = 5 ∨ s1 = 6 ∨ s1 = 7 ∨ s1 = 8 by omega) with rfl | rfl | rfl | rfl | rfl | rfl | rfl | rfl
  · refine lv_tableIn (off := 39) (tgt := 40) hx hb ndD_width_1 (by decide) (by decide) (by decide) (by decide) ?_
    refine lv_iconst (v := 4) hx hb ndD_width_40 (by decide) ?_
    exact fd_ret_i hx hb hr hlocks hS hP hD rfl (by decide +kernel) ndD_width_41
  · refine lv_tableIn (off := 41) (tgt := 42) hx hb ndD_width_1 (by decide) (by decide) (by decide) (by decide) ?_
    refine lv_iconst (v := 3) hx hb ndD_width_42 (by decide) ?_
    exact fd_ret_i hx hb hr hlocks hS hP hD rfl (by decide +kernel) ndD_width_43
  · refine lv_tableIn (off := 43) (tgt := 44) hx hb ndD_width_1 (by decide) (by decide) (by decide) (by decide) ?_
    refine lv_bipush (v := 8) hx hb ndD_width_44 (by decide) ?_
    exact fd_ret_i hx hb hr hlocks hS hP hD rfl (by decide +kernel) ndD_width_46
  · refine lv_tableIn (off := 46) (tgt := 47) hx hb ndD_width_1 (by decide) (by decide) (by decide) (by decide) ?_
    refine lv_bipush (v := 15) hx hb ndD_width_47 (by decide) ?_
    exact fd_ret_i hx hb hr hlocks hS hP hD rfl (by decide +kernel) ndD_width_49
  · refine lv_tableIn (off := 51) (tgt := 52) hx hb ndD_width_1 (by decide) (by decide) (by decide) (by decide) ?_
    refine lv_iconst (v := 1) hx hb ndD_width_52 (by decide) ?_
    exact fd_ret_i hx hb hr hlocks hS hP hD rfl (by decide +kernel) ndD_width_53
  · refine lv_tableIn (off := 49) (tgt := 50) hx hb ndD_width_1 (by decide) (by decide) (by decide) (by decide) ?_
    refine lv_iconst (v := 2) hx hb ndD_width_50 (by decide) ?_
    exact fd_ret_i hx hb hr hlocks hS hP hD rfl (by decide +kernel) ndD_width_51
  · refine lv_tableOut (tgt := 52) hx hb ndD_width_1 (by decide) (by decide) ?_
    refine lv_iconst (v := 1) hx hb ndD_width_52 (by decide) ?_
    exact fd_ret_i hx hb hr hlocks hS hP hD rfl (by decide +kernel) ndD_width_53
  · refine lv_tableOut (tgt := 52) hx hb ndD_width_1 (by decide) (by decide) ?_
    refine lv_iconst (v := 1) hx hb ndD_width_52 (by decide) ?_
    exact fd_ret_i hx hb hr hlocks hS hP hD rfl (by decide +kernel) ndD_width_53
set_option maxHeartbeats 4000000 in
set_option maxRecDepth 100000 in
theorem kD_most (l : Launch) (D : va_G) (Z : Nat → Nat) (cI cL : ClassId) {s1 : Nat} (h1 : 1 ≤ s1) (h2 : s1 ≤ 8) : fd_Ml l D fd_cl (fd_ty cI cL) (fd_EV Z) nyD_most (.code nyD_most ncD_most 1 (some .long) :: fd_TB) nmD_most [.int (nI s1)] [] [] (fd_mn.getD s1 0) := by
  refine fd_open_l (cc := ncD_most) (maxL := 1) (ret := (some .long)) (by decide) rfl (Nat.le_of_ble_eq_true rfl) ?_
  intro p e s m below meth c A ls X hP hD hS hl
  obtain ⟨hx, hb, hr, hml, hown, hts0, hlocks, hK, hEV, hA⟩ := X
  have hts : ∀ w ∈ fd_TB, w.before _ s = true := fun w h => hts0 w (List.mem_cons_of_mem _ h)
  have hE := fd_EV_ok Z
  have hown : s.vm.findClass "FieldDeskModel" = some m.cls := hown
  have hl : lv_has ls 1 [(0, .int (nI s1))] := hl
  refine lv_iload_n hx hb ndD_most_0 rfl (lv_at hl 0 rfl) ?_
  rcases (show s1 = 1 ∨ s1 = 2 ∨ s1 = 3 ∨ s1 = 4 ∨ s1 = 5 ∨ s1 = 6 ∨ s1 = 7 ∨ s1 = 8 by omega) with rfl | rfl | rfl | rfl | rfl | rfl | rfl | rfl
  · refine lv_tableIn (off := 43) (tgt := 44) hx hb ndD_most_1 (by decide) (by decide) (by decide) (by decide) ?_
    refine lv_ldc2 hx hb hown (hts _ tb_337) ndD_most_44 ?_
    exact fd_ret_l hx hb hr hlocks hS hP hD (by decide +kernel) ndD_most_47
  · refine lv_tableIn (off := 47) (tgt := 48) hx hb ndD_most_1 (by decide) (by decide) (by decide) (by decide) ?_
    refine lv_ldc2 hx hb hown (hts _ tb_338) ndD_most_48 ?_
    exact fd_ret_l hx hb hr hlocks hS hP hD (by decide +kernel) ndD_most_51
  · refine lv_tableIn (off := 51) (tgt := 52) hx hb ndD_most_1 (by decide) (by decide) (by decide) (by decide) ?_
    refine lv_ldc2 hx hb hown (hts _ tb_339) ndD_most_52 ?_
    exact fd_ret_l hx hb hr hlocks hS hP hD (by decide +kernel) ndD_most_55
  · refine lv_tableIn (off := 55) (tgt := 56) hx hb ndD_most_1 (by decide) (by decide) (by decide) (by decide) ?_
    refine lv_ldc2 hx hb hown (hts _ tb_340) ndD_most_56 ?_
    exact fd_ret_l hx hb hr hlocks hS hP hD (by decide +kernel) ndD_most_59
  · refine lv_tableIn (off := 59) (tgt := 60) hx hb ndD_most_1 (by decide) (by decide) (by decide) (by decide) ?_
    refine lv_lconst (v := 1) hx hb ndD_most_60 (by decide) ?_
    exact fd_ret_l hx hb hr hlocks hS hP hD (by decide +kernel) ndD_most_61
  · refine lv_tableIn (off := 61) (tgt := 62) hx hb ndD_most_1 (by decide) (by decide) (by decide) (by decide) ?_
    refine lv_ldc2 hx hb hown (hts _ tb_341) ndD_most_62 ?_
    exact fd_ret_l hx hb hr hlocks hS hP hD (by decide +kernel) ndD_most_65
  · refine lv_tableIn (off := 65) (tgt := 66) hx hb ndD_most_1 (by decide) (by decide) (by decide) (by decide) ?_
    refine lv_ldc2 hx hb hown (hts _ tb_342) ndD_most_66 ?_
    exact fd_ret_l hx hb hr hlocks hS hP hD (by decide +kernel) ndD_most_69
  · refine lv_tableOut (tgt := 70) hx hb ndD_most_1 (by decide) (by decide) ?_
    refine lv_ldc2 hx hb hown (hts _ tb_306) ndD_most_70 ?_
    exact fd_ret_l hx hb hr hlocks hS hP hD (by decide +kernel) ndD_most_73
set_option maxHeartbeats 4000000 in
set_option maxRecDepth 100000 in
theorem kD_isSign (l : Launch) (D : va_G) (Z : Nat → Nat) (cI cL : ClassId) (x : Int32) : fd_Mi l D fd_cl (fd_ty cI cL) (fd_EV Z) nyD_isSign (.code nyD_isSign ncD_isSign 1 (some .boolean) :: fd_TB) nmD_isSign [.int x] [] [] (fd_isg x) := by
  refine fd_open_i (cc := ncD_isSign) (maxL := 1) (ret := (some .boolean)) (by decide) rfl (Nat.le_of_ble_eq_true rfl) ?_
  intro p e s m below meth c A ls X hP hD hS hl
  obtain ⟨hx, hb, hr, hml, hown, hts0, hlocks, hK, hEV, hA⟩ := X
  have hts : ∀ w ∈ fd_TB, w.before _ s = true := fun w h => hts0 w (List.mem_cons_of_mem _ h)
  have hE := fd_EV_ok Z
  have hown : s.vm.findClass "FieldDeskModel" = some m.cls := hown
  have hl : lv_has ls 1 [(0, .int x)] := hl
  refine lv_iload_n hx hb ndD_isSign_0 rfl (lv_at hl 0 rfl) ?_
  refine lv_bipush (v := 48) hx hb ndD_isSign_1 (by decide) ?_
  refine lv_icmp_lt (tgt := 12) hx hb ndD_isSign_3 (by decide) (fun c_3 => ?_) (fun c_3 => ?_)
  · refine lv_iload_n hx hb ndD_isSign_12 rfl (lv_at hl 0 rfl) ?_
    refine lv_bipush (v := 65) hx hb ndD_isSign_13 (by decide) ?_
    refine lv_icmp_lt (tgt := 28) hx hb ndD_isSign_15 (by decide) (fun c_15 => ?_) (fun c_15 => ?_)
    · refine lv_iconst (v := 0) hx hb ndD_isSign_28 (by decide) ?_
      exact fd_ret_i hx hb hr hlocks hS hP hD rfl (by rw [fd_isg, if_pos c_3, if_pos c_15]) ndD_isSign_29
    · refine lv_iload_n hx hb ndD_isSign_18 rfl (lv_at hl 0 rfl) ?_
      refine lv_bipush (v := 90) hx hb ndD_isSign_19 (by decide) ?_
      refine lv_icmp_gt (tgt := 28) hx hb ndD_isSign_21 (by decide) (fun c_21 => ?_) (fun c_21 => ?_)
      · refine lv_iconst (v := 0) hx hb ndD_isSign_28 (by decide) ?_
        exact fd_ret_i hx hb hr hlocks hS hP hD rfl (by rw [fd_isg, if_pos c_3, if_neg c_15, if_pos c_21]) ndD_isSign_29
      · refine lv_iconst (v := 1) hx hb ndD_isSign_24 (by decide) ?_
        refine lv_goto (tgt := 29) hx hb ndD_isSign_25 (by decide) ?_
        exact fd_ret_i hx hb hr hlocks hS hP hD rfl (by rw [fd_isg, if_pos c_3, if_neg c_15, if_neg c_21]) ndD_isSign_29
  · refine lv_iload_n hx hb ndD_isSign_6 rfl (lv_at hl 0 rfl) ?_
    refine lv_bipush (v := 57) hx hb ndD_isSign_7 (by decide) ?_
    refine lv_icmp_le (tgt := 24) hx hb ndD_isSign_9 (by decide) (fun c_9 => ?_) (fun c_9 => ?_)
    · refine lv_iconst (v := 1) hx hb ndD_isSign_24 (by decide) ?_
      refine lv_goto (tgt := 29) hx hb ndD_isSign_25 (by decide) ?_
      exact fd_ret_i hx hb hr hlocks hS hP hD rfl (by rw [fd_isg, if_neg c_3, if_pos c_9]) ndD_isSign_29
    · refine lv_iload_n hx hb ndD_isSign_12 rfl (lv_at hl 0 rfl) ?_
      refine lv_bipush (v := 65) hx hb ndD_isSign_13 (by decide) ?_
      refine lv_icmp_lt (tgt := 28) hx hb ndD_isSign_15 (by decide) (fun c_15 => ?_) (fun c_15 => ?_)
      · refine lv_iconst (v := 0) hx hb ndD_isSign_28 (by decide) ?_
        exact fd_ret_i hx hb hr hlocks hS hP hD rfl (by rw [fd_isg, if_neg c_3, if_neg c_9, if_pos c_15]) ndD_isSign_29
      · refine lv_iload_n hx hb ndD_isSign_18 rfl (lv_at hl 0 rfl) ?_
        refine lv_bipush (v := 90) hx hb ndD_isSign_19 (by decide) ?_
        refine lv_icmp_gt (tgt := 28) hx hb ndD_isSign_21 (by decide) (fun c_21 => ?_) (fun c_21 => ?_)
        · refine lv_iconst (v := 0) hx hb ndD_isSign_28 (by decide) ?_
          exact fd_ret_i hx hb hr hlocks hS hP hD rfl (by rw [fd_isg, if_neg c_3, if_neg c_9, if_neg c_15, if_pos c_21]) ndD_isSign_29
        · refine lv_iconst (v := 1) hx hb ndD_isSign_24 (by decide) ?_
          refine lv_goto (tgt := 29) hx hb ndD_isSign_25 (by decide) ?_
          exact fd_ret_i hx hb hr hlocks hS hP hD rfl (by rw [fd_isg, if_neg c_3, if_neg c_9, if_neg c_15, if_neg c_21]) ndD_isSign_29
set_option maxHeartbeats 4000000 in
set_option maxRecDepth 100000 in
theorem kD_valueOf (l : Launch) (D : va_G) (Z : Nat → Nat) (cI cL : ClassId) (x : Int32) : fd_Mi l D fd_cl (fd_ty cI cL) (fd_EV Z) nyD_valueOf (.code nyD_valueOf ncD_valueOf 1 (some .int) :: fd_TB) nmD_valueOf [.int x] [] [] (fd_vo x) := by
  refine fd_open_i (cc := ncD_valueOf) (maxL := 1) (ret := (some .int)) (by decide) rfl (Nat.le_of_ble_eq_true rfl) ?_
  intro p e s m below meth c A ls X hP hD hS hl
  obtain ⟨hx, hb, hr, hml, hown, hts0, hlocks, hK, hEV, hA⟩ := X
  have hts : ∀ w ∈ fd_TB, w.before _ s = true := fun w h => hts0 w (List.mem_cons_of_mem _ h)
  have hE := fd_EV_ok Z
  have hown : s.vm.findClass "FieldDeskModel" = some m.cls := hown
  have hl : lv_has ls 1 [(0, .int x)] := hl
  refine lv_iload_n hx hb ndD_valueOf_0 rfl (lv_at hl 0 rfl) ?_
  refine lv_bipush (v := 57) hx hb ndD_valueOf_1 (by decide) ?_
  refine lv_icmp_gt (tgt := 13) hx hb ndD_valueOf_3 (by decide) (fun c_3 => ?_) (fun c_3 => ?_)
  · refine lv_iload_n hx hb ndD_valueOf_13 rfl (lv_at hl 0 rfl) ?_
    refine lv_bipush (v := 65) hx hb ndD_valueOf_14 (by decide) ?_
    refine lv_isub hx hb ndD_valueOf_16 ?_
    refine lv_bipush (v := 10) hx hb ndD_valueOf_17 (by decide) ?_
    refine lv_iadd hx hb ndD_valueOf_19 ?_
    exact fd_ret_i hx hb hr hlocks hS hP hD rfl (by rw [fd_vo, if_pos c_3]) ndD_valueOf_20
  · refine lv_iload_n hx hb ndD_valueOf_6 rfl (lv_at hl 0 rfl) ?_
    refine lv_bipush (v := 48) hx hb ndD_valueOf_7 (by decide) ?_
    refine lv_isub hx hb ndD_valueOf_9 ?_
    refine lv_goto (tgt := 20) hx hb ndD_valueOf_10 (by decide) ?_
    exact fd_ret_i hx hb hr hlocks hS hP hD rfl (by rw [fd_vo, if_neg c_3]) ndD_valueOf_20
set_option maxHeartbeats 4000000 in
set_option maxRecDepth 100000 in
theorem kD_step (l : Launch) (D : va_G) (Z : Nat → Nat) (cI cL : ClassId) (x : Int32) (y : Int32) : fd_Mi l D fd_cl (fd_ty cI cL) (fd_EV Z) nyD_step (.code nyD_step ncD_step 2 (some .int) :: fd_TB) nmD_step [.int x, .int y] [] [] (fd_stp x y) := by
  refine fd_open_i (cc := ncD_step) (maxL := 2) (ret := (some .int)) (by decide) rfl (Nat.le_of_ble_eq_true rfl) ?_
  intro p e s m below meth c A ls X hP hD hS hl
  obtain ⟨hx, hb, hr, hml, hown, hts0, hlocks, hK, hEV, hA⟩ := X
  have hts : ∀ w ∈ fd_TB, w.before _ s = true := fun w h => hts0 w (List.mem_cons_of_mem _ h)
  have hE := fd_EV_ok Z
  have hown : s.vm.findClass "FieldDeskModel" = some m.cls := hown
  have hl : lv_has ls 2 [(0, .int x), (1, .int y)] := hl
  refine lv_iload_n hx hb ndD_step_0 rfl (lv_at hl 1 rfl) ?_
  refine lv_bipush (v := 57) hx hb ndD_step_1 (by decide) ?_
  refine lv_icmp_gt (tgt := 21) hx hb ndD_step_3 (by decide) (fun c_3 => ?_) (fun c_3 => ?_)
  · refine lv_iload_n hx hb ndD_step_21 rfl (lv_at hl 0 rfl) ?_
    refine lv_bipush (v := 100) hx hb ndD_step_22 (by decide) ?_
    refine lv_imul hx hb ndD_step_24 ?_
    refine lv_iload_n hx hb ndD_step_25 rfl (lv_at hl 1 rfl) ?_
    refine lv_iadd hx hb ndD_step_26 ?_
    refine lv_bipush (v := 65) hx hb ndD_step_27 (by decide) ?_
    refine lv_isub hx hb ndD_step_29 ?_
    refine lv_bipush (v := 10) hx hb ndD_step_30 (by decide) ?_
    refine lv_iadd hx hb ndD_step_32 ?_
    refine lv_bipush (v := 97) hx hb ndD_step_33 (by decide) ?_
    refine lv_irem hx hb ndD_step_35 (by decide) ?_
    exact fd_ret_i hx hb hr hlocks hS hP hD rfl (by rw [fd_stp, if_pos c_3]) ndD_step_36
  · refine lv_iload_n hx hb ndD_step_6 rfl (lv_at hl 0 rfl) ?_
    refine lv_bipush (v := 10) hx hb ndD_step_7 (by decide) ?_
    refine lv_imul hx hb ndD_step_9 ?_
    refine lv_iload_n hx hb ndD_step_10 rfl (lv_at hl 1 rfl) ?_
    refine lv_iadd hx hb ndD_step_11 ?_
    refine lv_bipush (v := 48) hx hb ndD_step_12 (by decide) ?_
    refine lv_isub hx hb ndD_step_14 ?_
    refine lv_bipush (v := 97) hx hb ndD_step_15 (by decide) ?_
    refine lv_irem hx hb ndD_step_17 (by decide) ?_
    refine lv_goto (tgt := 36) hx hb ndD_step_18 (by decide) ?_
    exact fd_ret_i hx hb hr hlocks hS hP hD rfl (by rw [fd_stp, if_neg c_3]) ndD_step_36
set_option maxHeartbeats 4000000 in
set_option maxRecDepth 100000 in
theorem kD_fits (l : Launch) (D : va_G) (Z : Nat → Nat) (cI cL : ClassId) {s1 : Nat} (h1 : 1 ≤ s1) (h2 : s1 ≤ 8) (x z : Int32) : fd_Mi l D fd_cl (fd_ty cI cL) (fd_EV Z) nyD_fits (.code nyD_fits ncD_fits 3 (some .boolean) :: fd_TB) nmD_fits [.int (nI s1), .int x, .int z] [] [] (fd_fit s1 x z) := by
  refine fd_open_i (cc := ncD_fits) (maxL := 3) (ret := (some .boolean)) (by decide) rfl (Nat.le_of_ble_eq_true rfl) ?_
  intro p e s m below meth c A ls X hP hD hS hl
  obtain ⟨hx, hb, hr, hml, hown, hts0, hlocks, hK, hEV, hA⟩ := X
  have hts : ∀ w ∈ fd_TB, w.before _ s = true := fun w h => hts0 w (List.mem_cons_of_mem _ h)
  have hE := fd_EV_ok Z
  have hown : s.vm.findClass "FieldDeskModel" = some m.cls := hown
  have hl : lv_has ls 3 [(0, .int (nI s1)), (1, .int x), (2, .int z)] := hl
  refine lv_iload_n hx hb ndD_fits_0 rfl (lv_at hl 0 rfl) ?_
  rcases (show s1 = 1 ∨ s1 = 2 ∨ s1 = 3 ∨ s1 = 4 ∨ s1 = 5 ∨ s1 = 6 ∨ s1 = 7 ∨ s1 = 8 by omega) with rfl | rfl | rfl | rfl | rfl | rfl | rfl | rfl
  · refine lv_tableIn (off := 43) (tgt := 44) hx hb ndD_fits_1 (by decide) (by decide) (by decide) (by decide) ?_
    refine lv_iload_n hx hb ndD_fits_44 rfl (lv_at hl 1 rfl) ?_
    refine fd_go_i (wr := []) (w2 := []) (va_runS (As := [.int x]) (rest := []) ⟨hx, hb, hml, hown, hts⟩ (kD_isSign l D Z cI cL x s.heap.size) (va_cwS 1 hts (fd_gS tb_297 tb_298 tb_16 tb_299) rfl rfl rfl nhD_isSign.2 ⟨(Nat.le_of_ble_eq_true rfl), (Nat.le_of_ble_eq_true rfl)⟩) (fd_PreS hE hK hEV hA hP hD hS [] rfl (by decide)) rfl rfl hl.1 rfl (lv_room (Nat.le_of_ble_eq_true rfl)) ndD_fits_45 ⟨(Nat.le_of_ble_eq_true rfl), (Nat.le_of_ble_eq_true rfl)⟩) hP hD hS hA [] [] rfl rfl (by decide) (by decide) [] rfl (by decide) (fun H locs hP hD hS => ?_)
    exact fd_ret_i hx hb hr hlocks hS hP hD (fd_isg_nar x) (by rw [fd_fit, if_pos (by decide)]) ndD_fits_48
  · refine lv_tableIn (off := 43) (tgt := 44) hx hb ndD_fits_1 (by decide) (by decide) (by decide) (by decide) ?_
    refine lv_iload_n hx hb ndD_fits_44 rfl (lv_at hl 1 rfl) ?_
    refine fd_go_i (wr := []) (w2 := []) (va_runS (As := [.int x]) (rest := []) ⟨hx, hb, hml, hown, hts⟩ (kD_isSign l D Z cI cL x s.heap.size) (va_cwS 1 hts (fd_gS tb_297 tb_298 tb_16 tb_299) rfl rfl rfl nhD_isSign.2 ⟨(Nat.le_of_ble_eq_true rfl), (Nat.le_of_ble_eq_true rfl)⟩) (fd_PreS hE hK hEV hA hP hD hS [] rfl (by decide)) rfl rfl hl.1 rfl (lv_room (Nat.le_of_ble_eq_true rfl)) ndD_fits_45 ⟨(Nat.le_of_ble_eq_true rfl), (Nat.le_of_ble_eq_true rfl)⟩) hP hD hS hA [] [] rfl rfl (by decide) (by decide) [] rfl (by decide) (fun H locs hP hD hS => ?_)
    exact fd_ret_i hx hb hr hlocks hS hP hD (fd_isg_nar x) (by rw [fd_fit, if_pos (by decide)]) ndD_fits_48
  · refine lv_tableIn (off := 43) (tgt := 44) hx hb ndD_fits_1 (by decide) (by decide) (by decide) (by decide) ?_
    refine lv_iload_n hx hb ndD_fits_44 rfl (lv_at hl 1 rfl) ?_
    refine fd_go_i (wr := []) (w2 := []) (va_runS (As := [.int x]) (rest := []) ⟨hx, hb, hml, hown, hts⟩ (kD_isSign l D Z cI cL x s.heap.size) (va_cwS 1 hts (fd_gS tb_297 tb_298 tb_16 tb_299) rfl rfl rfl nhD_isSign.2 ⟨(Nat.le_of_ble_eq_true rfl), (Nat.le_of_ble_eq_true rfl)⟩) (fd_PreS hE hK hEV hA hP hD hS [] rfl (by decide)) rfl rfl hl.1 rfl (lv_room (Nat.le_of_ble_eq_true rfl)) ndD_fits_45 ⟨(Nat.le_of_ble_eq_true rfl), (Nat.le_of_ble_eq_true rfl)⟩) hP hD hS hA [] [] rfl rfl (by decide) (by decide) [] rfl (by decide) (fun H locs hP hD hS => ?_)
    exact fd_ret_i hx hb hr hlocks hS hP hD (fd_isg_nar x) (by rw [fd_fit, if_pos (by decide)]) ndD_fits_48
  · refine lv_tableIn (off := 48) (tgt := 49) hx hb ndD_fits_1 (by decide) (by decide) (by decide) (by decide) ?_
    refine lv_iload_n hx hb ndD_fits_49 rfl (lv_at hl 1 rfl) ?_
    refine lv_bipush (v := 48) hx hb ndD_fits_50 (by decide) ?_
    refine lv_icmp_lt (tgt := 74) hx hb ndD_fits_52 (by decide) (fun c_52 => ?_) (fun c_52 => ?_)
    · refine lv_iconst (v := 0) hx hb ndD_fits_74 (by decide) ?_
      exact fd_ret_i hx hb hr hlocks hS hP hD rfl (by rw [fd_fit, if_neg (by decide), if_neg (by decide), if_neg (by decide), if_neg (by decide), if_pos c_52]) ndD_fits_75
    · refine lv_iload_n hx hb ndD_fits_55 rfl (lv_at hl 1 rfl) ?_
      refine lv_iload_n hx hb ndD_fits_56 rfl (lv_at hl 2 rfl) ?_
      refine lv_if_eq (tgt := 65) hx hb ndD_fits_57 (by decide) (fun c_57 => ?_) (fun c_57 => ?_)
      · refine lv_bipush (v := 57) hx hb ndD_fits_65 (by decide) ?_
        refine lv_icmp_gt (tgt := 74) hx hb ndD_fits_67 (by decide) (fun c_67 => ?_) (fun c_67 => ?_)
        · refine lv_iconst (v := 0) hx hb ndD_fits_74 (by decide) ?_
          exact fd_ret_i hx hb hr hlocks hS hP hD rfl (by rw [fd_fit, if_neg (by decide), if_neg (by decide), if_neg (by decide), if_neg (by decide), if_neg c_52, if_pos c_57, if_pos c_67]) ndD_fits_75
        · refine lv_iconst (v := 1) hx hb ndD_fits_70 (by decide) ?_
          refine lv_goto (tgt := 75) hx hb ndD_fits_71 (by decide) ?_
          exact fd_ret_i hx hb hr hlocks hS hP hD rfl (by rw [fd_fit, if_neg (by decide), if_neg (by decide), if_neg (by decide), if_neg (by decide), if_neg c_52, if_pos c_57, if_neg c_67]) ndD_fits_75
      · refine lv_bipush (v := 48) hx hb ndD_fits_60 (by decide) ?_
        refine lv_goto (tgt := 67) hx hb ndD_fits_62 (by decide) ?_
        refine lv_icmp_gt (tgt := 74) hx hb ndD_fits_67 (by decide) (fun c_67 => ?_) (fun c_67 => ?_)
        · refine lv_iconst (v := 0) hx hb ndD_fits_74 (by decide) ?_
          exact fd_ret_i hx hb hr hlocks hS hP hD rfl (by rw [fd_fit, if_neg (by decide), if_neg (by decide), if_neg (by decide), if_neg (by decide), if_neg c_52, if_neg c_57, if_pos c_67]) ndD_fits_75
        · refine lv_iconst (v := 1) hx hb ndD_fits_70 (by decide) ?_
          refine lv_goto (tgt := 75) hx hb ndD_fits_71 (by decide) ?_
          exact fd_ret_i hx hb hr hlocks hS hP hD rfl (by rw [fd_fit, if_neg (by decide), if_neg (by decide), if_neg (by decide), if_neg (by decide), if_neg c_52, if_neg c_57, if_neg c_67]) ndD_fits_75
  · refine lv_tableIn (off := 75) (tgt := 76) hx hb ndD_fits_1 (by decide) (by decide) (by decide) (by decide) ?_
    refine lv_iload_n hx hb ndD_fits_76 rfl (lv_at hl 1 rfl) ?_
    refine lv_bipush (v := 67) hx hb ndD_fits_77 (by decide) ?_
    refine lv_icmp_eq (tgt := 88) hx hb ndD_fits_79 (by decide) (fun c_79 => ?_) (fun c_79 => ?_)
    · refine lv_iconst (v := 1) hx hb ndD_fits_88 (by decide) ?_
      refine lv_goto (tgt := 93) hx hb ndD_fits_89 (by decide) ?_
      exact fd_ret_i hx hb hr hlocks hS hP hD rfl (by rw [fd_fit, if_neg (by decide), if_pos rfl, if_pos c_79]) ndD_fits_93
    · refine lv_iload_n hx hb ndD_fits_82 rfl (lv_at hl 1 rfl) ?_
      refine lv_bipush (v := 83) hx hb ndD_fits_83 (by decide) ?_
      refine lv_icmp_ne (tgt := 92) hx hb ndD_fits_85 (by decide) (fun c_85 => ?_) (fun c_85 => ?_)
      · refine lv_iconst (v := 0) hx hb ndD_fits_92 (by decide) ?_
        exact fd_ret_i hx hb hr hlocks hS hP hD rfl (by rw [fd_fit, if_neg (by decide), if_pos rfl, if_neg c_79, if_neg c_85]) ndD_fits_93
      · refine lv_iconst (v := 1) hx hb ndD_fits_88 (by decide) ?_
        refine lv_goto (tgt := 93) hx hb ndD_fits_89 (by decide) ?_
        exact fd_ret_i hx hb hr hlocks hS hP hD rfl (by rw [fd_fit, if_neg (by decide), if_pos rfl, if_neg c_79, if_pos c_85]) ndD_fits_93
  · refine lv_tableIn (off := 48) (tgt := 49) hx hb ndD_fits_1 (by decide) (by decide) (by decide) (by decide) ?_
    refine lv_iload_n hx hb ndD_fits_49 rfl (lv_at hl 1 rfl) ?_
    refine lv_bipush (v := 48) hx hb ndD_fits_50 (by decide) ?_
    refine lv_icmp_lt (tgt := 74) hx hb ndD_fits_52 (by decide) (fun c_52 => ?_) (fun c_52 => ?_)
    · refine lv_iconst (v := 0) hx hb ndD_fits_74 (by decide) ?_
      exact fd_ret_i hx hb hr hlocks hS hP hD rfl (by rw [fd_fit, if_neg (by decide), if_neg (by decide), if_neg (by decide), if_neg (by decide), if_pos c_52]) ndD_fits_75
    · refine lv_iload_n hx hb ndD_fits_55 rfl (lv_at hl 1 rfl) ?_
      refine lv_iload_n hx hb ndD_fits_56 rfl (lv_at hl 2 rfl) ?_
      refine lv_if_eq (tgt := 65) hx hb ndD_fits_57 (by decide) (fun c_57 => ?_) (fun c_57 => ?_)
      · refine lv_bipush (v := 57) hx hb ndD_fits_65 (by decide) ?_
        refine lv_icmp_gt (tgt := 74) hx hb ndD_fits_67 (by decide) (fun c_67 => ?_) (fun c_67 => ?_)
        · refine lv_iconst (v := 0) hx hb ndD_fits_74 (by decide) ?_
          exact fd_ret_i hx hb hr hlocks hS hP hD rfl (by rw [fd_fit, if_neg (by decide), if_neg (by decide), if_neg (by decide), if_neg (by decide), if_neg c_52, if_pos c_57, if_pos c_67]) ndD_fits_75
        · refine lv_iconst (v := 1) hx hb ndD_fits_70 (by decide) ?_
          refine lv_goto (tgt := 75) hx hb ndD_fits_71 (by decide) ?_
          exact fd_ret_i hx hb hr hlocks hS hP hD rfl (by rw [fd_fit, if_neg (by decide), if_neg (by decide), if_neg (by decide), if_neg (by decide), if_neg c_52, if_pos c_57, if_neg c_67]) ndD_fits_75
      · refine lv_bipush (v := 48) hx hb ndD_fits_60 (by decide) ?_
        refine lv_goto (tgt := 67) hx hb ndD_fits_62 (by decide) ?_
        refine lv_icmp_gt (tgt := 74) hx hb ndD_fits_67 (by decide) (fun c_67 => ?_) (fun c_67 => ?_)
        · refine lv_iconst (v := 0) hx hb ndD_fits_74 (by decide) ?_
          exact fd_ret_i hx hb hr hlocks hS hP hD rfl (by rw [fd_fit, if_neg (by decide), if_neg (by decide), if_neg (by decide), if_neg (by decide), if_neg c_52, if_neg c_57, if_pos c_67]) ndD_fits_75
        · refine lv_iconst (v := 1) hx hb ndD_fits_70 (by decide) ?_
          refine lv_goto (tgt := 75) hx hb ndD_fits_71 (by decide) ?_
          exact fd_ret_i hx hb hr hlocks hS hP hD rfl (by rw [fd_fit, if_neg (by decide), if_neg (by decide), if_neg (by decide), if_neg (by decide), if_neg c_52, if_neg c_57, if_neg c_67]) ndD_fits_75
  · refine lv_tableIn (off := 93) (tgt := 94) hx hb ndD_fits_1 (by decide) (by decide) (by decide) (by decide) ?_
    refine lv_iload_n hx hb ndD_fits_94 rfl (lv_at hl 1 rfl) ?_
    refine lv_bipush (v := 49) hx hb ndD_fits_95 (by decide) ?_
    refine lv_icmp_lt (tgt := 110) hx hb ndD_fits_97 (by decide) (fun c_97 => ?_) (fun c_97 => ?_)
    · refine lv_iconst (v := 0) hx hb ndD_fits_110 (by decide) ?_
      exact fd_ret_i hx hb hr hlocks hS hP hD rfl (by rw [fd_fit, if_neg (by decide), if_neg (by decide), if_pos rfl, if_pos c_97]) ndD_fits_111
    · refine lv_iload_n hx hb ndD_fits_100 rfl (lv_at hl 1 rfl) ?_
      refine lv_bipush (v := 57) hx hb ndD_fits_101 (by decide) ?_
      refine lv_icmp_gt (tgt := 110) hx hb ndD_fits_103 (by decide) (fun c_103 => ?_) (fun c_103 => ?_)
      · refine lv_iconst (v := 0) hx hb ndD_fits_110 (by decide) ?_
        exact fd_ret_i hx hb hr hlocks hS hP hD rfl (by rw [fd_fit, if_neg (by decide), if_neg (by decide), if_pos rfl, if_neg c_97, if_pos c_103]) ndD_fits_111
      · refine lv_iconst (v := 1) hx hb ndD_fits_106 (by decide) ?_
        refine lv_goto (tgt := 111) hx hb ndD_fits_107 (by decide) ?_
        exact fd_ret_i hx hb hr hlocks hS hP hD rfl (by rw [fd_fit, if_neg (by decide), if_neg (by decide), if_pos rfl, if_neg c_97, if_neg c_103]) ndD_fits_111
  · refine lv_tableOut (tgt := 112) hx hb ndD_fits_1 (by decide) (by decide) ?_
    refine lv_iload_n hx hb ndD_fits_112 rfl (lv_at hl 1 rfl) ?_
    refine lv_bipush (v := 49) hx hb ndD_fits_113 (by decide) ?_
    refine lv_icmp_lt (tgt := 128) hx hb ndD_fits_115 (by decide) (fun c_115 => ?_) (fun c_115 => ?_)
    · refine lv_iconst (v := 0) hx hb ndD_fits_128 (by decide) ?_
      exact fd_ret_i hx hb hr hlocks hS hP hD rfl (by rw [fd_fit, if_neg (by decide), if_neg (by decide), if_neg (by decide), if_pos rfl, if_pos c_115]) ndD_fits_129
    · refine lv_iload_n hx hb ndD_fits_118 rfl (lv_at hl 1 rfl) ?_
      refine lv_bipush (v := 52) hx hb ndD_fits_119 (by decide) ?_
      refine lv_icmp_gt (tgt := 128) hx hb ndD_fits_121 (by decide) (fun c_121 => ?_) (fun c_121 => ?_)
      · refine lv_iconst (v := 0) hx hb ndD_fits_128 (by decide) ?_
        exact fd_ret_i hx hb hr hlocks hS hP hD rfl (by rw [fd_fit, if_neg (by decide), if_neg (by decide), if_neg (by decide), if_pos rfl, if_neg c_115, if_pos c_121]) ndD_fits_129
      · refine lv_iconst (v := 1) hx hb ndD_fits_124 (by decide) ?_
        refine lv_goto (tgt := 129) hx hb ndD_fits_125 (by decide) ?_
        exact fd_ret_i hx hb hr hlocks hS hP hD rfl (by rw [fd_fit, if_neg (by decide), if_neg (by decide), if_neg (by decide), if_pos rfl, if_neg c_115, if_neg c_121]) ndD_fits_129
end
section
/-! bytes and signs: pure rows -/
def fd_sg (c : Int32) : Prop := ∃ b : Nat, c = nI b ∧ ((48 ≤ b ∧ b ≤ 57) ∨ (65 ≤ b ∧ b ≤ 90))
theorem fd_asc (a b c : Int32) : a + (b - c) = a + b - c := by
  rw [Int32.sub_eq_add_neg, Int32.sub_eq_add_neg, Int32.add_assoc]
theorem fd_sg_d : ∀ b, b < 58 → 48 ≤ b → (¬ (57 : Int32) < nI b) ∧ fd_val (nI b) = nI b - 48 ∧ ¬ (10 : Int32) ≤ fd_val (nI b) := by decide +kernel
theorem fd_sg_l : ∀ b, b < 91 → 65 ≤ b → ((57 : Int32) < nI b) ∧ fd_val (nI b) = nI b - 65 + 10 ∧ (10 : Int32) ≤ fd_val (nI b) := by decide +kernel
theorem fd_stp_eq {c : Int32} (h : fd_sg c) (r : Int32) : fd_stp r c = fd_rst r (fd_val c) := by
  obtain ⟨b, rfl, h | h⟩ := h
  · obtain ⟨h1, h2, h3⟩ := fd_sg_d b (by omega) h.1
    rw [fd_stp, if_neg h1, fd_rst, if_neg h3, h2, fd_asc]
  · obtain ⟨h1, h2, h3⟩ := fd_sg_l b (by omega) h.1
    rw [fd_stp, if_pos h1, fd_rst, if_pos h3, h2, ← Int32.add_assoc, fd_asc]
theorem fd_sh1 : ∀ z, z < 8 → (((8 : Int32) * nI z).toInt64 &&& 63).toBitVec.smod 64 = BitVec.ofNat 64 (8 * z) := by decide +kernel
theorem fd_sh2 : ∀ z, z < 8 → ((((8 : Int32) * nI z).toInt64.toUInt64 &&& Int64.toUInt64 63).toBitVec % 64#64).toNat = 8 * z := by decide +kernel
theorem fd_byte_eq (v : Int64) {z : Nat} (h : z < 8) : ((v >>> (((8 : Int32) * nI z).toInt64 &&& 63)) &&& 255).toInt32 = fd_byte v z := by
  apply Int32.toBitVec_inj.mp
  rw [fd_byte]
  have e1 := fd_sh1 z h
  have e2 := fd_sh2 z h
  have hu : ((v.toUInt64 >>> (((8 : Int32) * nI z).toInt64.toUInt64 &&& Int64.toUInt64 63)).toInt64).toBitVec = v.toBitVec >>> (8 * z) := by
    show v.toUInt64.toBitVec >>> ((((8 : Int32) * nI z).toInt64.toUInt64 &&& Int64.toUInt64 63).toBitVec % 64#64) = _
    rw [BitVec.ushiftRight_eq', e2]; rfl
  have hs : (v >>> (((8 : Int32) * nI z).toInt64 &&& 63)).toBitVec = v.toBitVec.sshiftRight (8 * z) := by
    show v.toBitVec.sshiftRight' ((((8 : Int32) * nI z).toInt64 &&& 63).toBitVec.smod 64) = _
    rw [e1, BitVec.sshiftRight'_ofNat_eq_sshiftRight, Nat.mod_eq_of_lt (by omega)]
  rw [Int64.toBitVec_toInt32, Int64.toBitVec_and, hs, Int32.toBitVec_and, Int64.toBitVec_toInt32, hu]
  have b1 : ∀ i, i < 64 → (Int64.toBitVec 255).getLsbD i = decide (i < 8) := by decide +kernel
  have b2 : ∀ i, i < 32 → (Int32.toBitVec 255).getLsbD i = decide (i < 8) := by decide +kernel
  apply BitVec.eq_of_getLsbD_eq
  intro i hi
  have hi2 : i < 64 := by omega
  rw [BitVec.getLsbD_signExtend, BitVec.getLsbD_and, BitVec.getLsbD_and, BitVec.getLsbD_signExtend, BitVec.getLsbD_sshiftRight, BitVec.getLsbD_ushiftRight, b1 i hi2, b2 i hi]
  by_cases h8 : i < 8
  · have h10 : 8 * z + i < 64 := by omega
    have h11 : ¬ 64 ≤ i := by omega
    simp [h10, h8, hi, hi2, h11]
  · simp [h8]; intro _ h9; omega
end
section
/-! the reference: type, begin, end, copy, the reads -/
def fd_rs (kd k : Nat) (rn : Nat → Int64) (i : Int32) : Int32 := if i < 0 then 0 else if nI k ≤ i then 0 else fd_due kd i.toNatClampNeg rn
theorem fd_tyno {n : Nat} {q : Int32} (hn : n ≤ 400) (hno : q < 1 ∨ 8 < q ∨ nI (400 - n) < q) (h1 : ¬ q < 1) (h2 : ¬ 8 < q) (h3 : nI n + q ≤ 400) : False := by
  have h0 : ¬ q < 0 := fun h => h1 (Int32.lt_trans h (by decide))
  obtain ⟨j, hj, rfl⟩ := nI_of2 (n := 8) (M := 8) (by decide) h0 (Int32.not_lt.mp h2)
  rw [nI_add] at h3
  have a := (nI_leI (a := n + j) (b := 400) (by omega) (by omega)).mp h3
  rcases hno with h | h | h
  · exact h1 h
  · exact h2 h
  · have b := (nI_ltI (a := 400 - n) (b := j) (by omega) (by omega)).mp h
    omega
set_option maxHeartbeats 4000000 in
set_option maxRecDepth 100000 in
theorem kD_fields (l : Launch) (D : va_G) (Z : Nat → Nat) (cI cL : ClassId) {b0 b1 b2 b3 b4 n kd k od wn ok : Nat} {g go : Nat → Int32} {rn gn : Nat → Int64} {cf : Int32} (hn : n ≤ 400) (hkd : kd ≤ 15) (hk : k ≤ 20) (hwn : wn ≤ 123) (hod : od ≤ 15) (hok : ok ≤ 20)  : fd_Mi l D fd_cl (fd_ty cI cL) (fd_EV Z) nyD_fields (.code nyD_fields ncD_fields 1 (some .int) :: fd_TB) nmD_fields [.ref b0] [(b0, .inr (3, [.ref b1, .int (nI n), .int (nI kd), .int (nI k), .ref b2, .int (nI od), .int cf, .int (nI wn), .ref b3, .int (nI ok), .ref b4])), (b1, .inl (cI, 400, .inl g)), (b2, .inl (cL, 24, .inr (.inl rn))), (b3, .inl (cI, 200, .inl go)), (b4, .inl (cL, 24, .inr (.inl gn)))] [(b0, .inr (3, [.ref b1, .int (nI n), .int (nI kd), .int (nI k), .ref b2, .int (nI od), .int cf, .int (nI wn), .ref b3, .int (nI ok), .ref b4])), (b1, .inl (cI, 400, .inl g)), (b2, .inl (cL, 24, .inr (.inl rn))), (b3, .inl (cI, 200, .inl go)), (b4, .inl (cL, 24, .inr (.inl gn)))] (nI k) := by
  refine fd_open_i (cc := ncD_fields) (maxL := 1) (ret := (some .int)) (by decide) rfl (Nat.le_of_ble_eq_true rfl) ?_
  intro p e s m below meth c A ls X hP hD hS hl
  obtain ⟨hx, hb, hr, hml, hown, hts0, hlocks, hK, hEV, hA⟩ := X
  have hts : ∀ w ∈ fd_TB, w.before _ s = true := fun w h => hts0 w (List.mem_cons_of_mem _ h)
  have hE := fd_EV_ok Z
  have hown : s.vm.findClass "FieldDeskModel" = some m.cls := hown
  have hl : lv_has ls 1 [(0, .ref b0)] := hl
  refine lv_aload_n hx hb ndD_fields_0 rfl (lv_at hl 0 rfl) ?_
  refine va_get (D := D) (ci := 3) (v := .int (nI k)) (C := nR_D) (T := nT_D) (N := 11) hx hb hts in_D hown hK hP 0 rfl rfl 3 (by decide) (hts _ tb_251) (fun _ h9 => h9) rfl ndD_fields_1 ?_
  exact fd_ret_i hx hb hr hlocks hS hP hD rfl (rfl) ndD_fields_4
set_option maxHeartbeats 4000000 in
set_option maxRecDepth 100000 in
theorem kD_number (l : Launch) (D : va_G) (Z : Nat → Nat) (cI cL : ClassId) {b0 b1 b2 b3 b4 n kd k od wn ok : Nat} {g go : Nat → Int32} {rn gn : Nat → Int64} {cf : Int32} (hn : n ≤ 400) (hkd : kd ≤ 15) (hk : k ≤ 20) (hwn : wn ≤ 123) (hod : od ≤ 15) (hok : ok ≤ 20) (i : Int32) : fd_Ml l D fd_cl (fd_ty cI cL) (fd_EV Z) nyD_number (.code nyD_number ncD_number 2 (some .long) :: fd_TB) nmD_number [.ref b0, .int i] [(b0, .inr (3, [.ref b1, .int (nI n), .int (nI kd), .int (nI k), .ref b2, .int (nI od), .int cf, .int (nI wn), .ref b3, .int (nI ok), .ref b4])), (b1, .inl (cI, 400, .inl g)), (b2, .inl (cL, 24, .inr (.inl rn))), (b3, .inl (cI, 200, .inl go)), (b4, .inl (cL, 24, .inr (.inl gn)))] [(b0, .inr (3, [.ref b1, .int (nI n), .int (nI kd), .int (nI k), .ref b2, .int (nI od), .int cf, .int (nI wn), .ref b3, .int (nI ok), .ref b4])), (b1, .inl (cI, 400, .inl g)), (b2, .inl (cL, 24, .inr (.inl rn))), (b3, .inl (cI, 200, .inl go)), (b4, .inl (cL, 24, .inr (.inl gn)))] (fd_na k rn i) := by
  refine fd_open_l (cc := ncD_number) (maxL := 2) (ret := (some .long)) (by decide) rfl (Nat.le_of_ble_eq_true rfl) ?_
  intro p e s m below meth c A ls X hP hD hS hl
  obtain ⟨hx, hb, hr, hml, hown, hts0, hlocks, hK, hEV, hA⟩ := X
  have hts : ∀ w ∈ fd_TB, w.before _ s = true := fun w h => hts0 w (List.mem_cons_of_mem _ h)
  have hE := fd_EV_ok Z
  have hown : s.vm.findClass "FieldDeskModel" = some m.cls := hown
  have hl : lv_has ls 2 [(0, .ref b0), (1, .int i)] := hl
  refine lv_iload_n hx hb ndD_number_0 rfl (lv_at hl 1 rfl) ?_
  refine lv_if_lt (tgt := 21) hx hb ndD_number_1 (by decide) (fun c_1 => ?_) (fun c_1 => ?_)
  · refine lv_ldc2 hx hb hown (hts _ tb_319) ndD_number_21 ?_
    exact fd_ret_l hx hb hr hlocks hS hP hD (by rw [fd_na, if_pos c_1]) ndD_number_24
  · refine lv_iload_n hx hb ndD_number_4 rfl (lv_at hl 1 rfl) ?_
    refine lv_aload_n hx hb ndD_number_5 rfl (lv_at hl 0 rfl) ?_
    refine va_get (D := D) (ci := 3) (v := .int (nI k)) (C := nR_D) (T := nT_D) (N := 11) hx hb hts in_D hown hK hP 0 rfl rfl 3 (by decide) (hts _ tb_251) (fun _ h9 => h9) rfl ndD_number_6 ?_
    refine lv_icmp_ge (tgt := 21) hx hb ndD_number_9 (by decide) (fun c_9 => ?_) (fun c_9 => ?_)
    · refine lv_ldc2 hx hb hown (hts _ tb_319) ndD_number_21 ?_
      exact fd_ret_l hx hb hr hlocks hS hP hD (by rw [fd_na, if_neg c_1, if_pos c_9]) ndD_number_24
    · obtain ⟨j9, hj9, rfl⟩ := fd_ix c_1 c_9 (by omega)
      refine lv_aload_n hx hb ndD_number_12 rfl (lv_at hl 0 rfl) ?_
      refine va_get (D := D) (ci := 3) (v := .ref b2) (C := nR_D) (T := nT_D) (N := 11) hx hb hts in_D hown hK hP 0 rfl rfl 4 (by decide) (hts _ tb_252) (fun _ h9 => h9) rfl ndD_number_13 ?_
      refine lv_iload_n hx hb ndD_number_16 rfl (lv_at hl 1 rfl) ?_
      refine fd_lald hx hb hK hP 2 1 (k := j9) rfl rfl (by omega) (by omega) ndD_number_17 ?_
      refine lv_goto (tgt := 24) hx hb ndD_number_18 (by decide) ?_
      exact fd_ret_l hx hb hr hlocks hS hP hD (by rw [fd_na, if_neg c_1, if_neg c_9, nI_clamp (by omega)]) ndD_number_24
set_option maxHeartbeats 4000000 in
set_option maxRecDepth 100000 in
theorem kD_byteOf (l : Launch) (D : va_G) (Z : Nat → Nat) (cI cL : ClassId) {b0 b1 b2 b3 b4 n kd k od wn ok : Nat} {g go : Nat → Int32} {rn gn : Nat → Int64} {cf : Int32} (hn : n ≤ 400) (hkd : kd ≤ 15) (hk : k ≤ 20) (hwn : wn ≤ 123) (hod : od ≤ 15) (hok : ok ≤ 20) (i : Int32) : fd_Mi l D fd_cl (fd_ty cI cL) (fd_EV Z) nyD_byteOf (.code nyD_byteOf ncD_byteOf 2 (some .int) :: fd_TB) nmD_byteOf [.ref b0, .int i] [(b0, .inr (3, [.ref b1, .int (nI n), .int (nI kd), .int (nI k), .ref b2, .int (nI od), .int cf, .int (nI wn), .ref b3, .int (nI ok), .ref b4])), (b1, .inl (cI, 400, .inl g)), (b2, .inl (cL, 24, .inr (.inl rn))), (b3, .inl (cI, 200, .inl go)), (b4, .inl (cL, 24, .inr (.inl gn)))] [(b0, .inr (3, [.ref b1, .int (nI n), .int (nI kd), .int (nI k), .ref b2, .int (nI od), .int cf, .int (nI wn), .ref b3, .int (nI ok), .ref b4])), (b1, .inl (cI, 400, .inl g)), (b2, .inl (cL, 24, .inr (.inl rn))), (b3, .inl (cI, 200, .inl go)), (b4, .inl (cL, 24, .inr (.inl gn)))] (fd_at wn go i) := by
  refine fd_open_i (cc := ncD_byteOf) (maxL := 2) (ret := (some .int)) (by decide) rfl (Nat.le_of_ble_eq_true rfl) ?_
  intro p e s m below meth c A ls X hP hD hS hl
  obtain ⟨hx, hb, hr, hml, hown, hts0, hlocks, hK, hEV, hA⟩ := X
  have hts : ∀ w ∈ fd_TB, w.before _ s = true := fun w h => hts0 w (List.mem_cons_of_mem _ h)
  have hE := fd_EV_ok Z
  have hown : s.vm.findClass "FieldDeskModel" = some m.cls := hown
  have hl : lv_has ls 2 [(0, .ref b0), (1, .int i)] := hl
  refine lv_iload_n hx hb ndD_byteOf_0 rfl (lv_at hl 1 rfl) ?_
  refine lv_if_lt (tgt := 21) hx hb ndD_byteOf_1 (by decide) (fun c_1 => ?_) (fun c_1 => ?_)
  · refine lv_iconst (v := (-1)) hx hb ndD_byteOf_21 (by decide) ?_
    exact fd_ret_i hx hb hr hlocks hS hP hD rfl (by rw [fd_at, if_pos c_1]) ndD_byteOf_22
  · refine lv_iload_n hx hb ndD_byteOf_4 rfl (lv_at hl 1 rfl) ?_
    refine lv_aload_n hx hb ndD_byteOf_5 rfl (lv_at hl 0 rfl) ?_
    refine va_get (D := D) (ci := 3) (v := .int (nI wn)) (C := nR_D) (T := nT_D) (N := 11) hx hb hts in_D hown hK hP 0 rfl rfl 7 (by decide) (hts _ tb_255) (fun _ h9 => h9) rfl ndD_byteOf_6 ?_
    refine lv_icmp_ge (tgt := 21) hx hb ndD_byteOf_9 (by decide) (fun c_9 => ?_) (fun c_9 => ?_)
    · refine lv_iconst (v := (-1)) hx hb ndD_byteOf_21 (by decide) ?_
      exact fd_ret_i hx hb hr hlocks hS hP hD rfl (by rw [fd_at, if_neg c_1, if_pos c_9]) ndD_byteOf_22
    · obtain ⟨j9, hj9, rfl⟩ := fd_ix c_1 c_9 (by omega)
      refine lv_aload_n hx hb ndD_byteOf_12 rfl (lv_at hl 0 rfl) ?_
      refine va_get (D := D) (ci := 3) (v := .ref b3) (C := nR_D) (T := nT_D) (N := 11) hx hb hts in_D hown hK hP 0 rfl rfl 8 (by decide) (hts _ tb_256) (fun _ h9 => h9) rfl ndD_byteOf_13 ?_
      refine lv_iload_n hx hb ndD_byteOf_16 rfl (lv_at hl 1 rfl) ?_
      refine fd_iald hx hb hK hP 3 0 (k := j9) rfl rfl (by omega) (by omega) ndD_byteOf_17 ?_
      refine lv_goto (tgt := 22) hx hb ndD_byteOf_18 (by decide) ?_
      exact fd_ret_i hx hb hr hlocks hS hP hD rfl (by rw [fd_at, if_neg c_1, if_neg c_9, nI_clamp (by omega)]) ndD_byteOf_22
set_option maxHeartbeats 4000000 in
set_option maxRecDepth 100000 in
theorem kD_sort (l : Launch) (D : va_G) (Z : Nat → Nat) (cI cL : ClassId) {b0 b1 b2 b3 b4 n kd k od wn ok : Nat} {g go : Nat → Int32} {rn gn : Nat → Int64} {cf : Int32} (hn : n ≤ 400) (hkd : kd ≤ 15) (hk : k ≤ 20) (hwn : wn ≤ 123) (hod : od ≤ 15) (hok : ok ≤ 20) (hkk : 1 ≤ kd ∨ k = 0) (i : Int32) : fd_Mi l D fd_cl (fd_ty cI cL) (fd_EV Z) nyD_sort (.code nyD_sort ncD_sort 2 (some .int) :: fd_TB) nmD_sort [.ref b0, .int i] [(b0, .inr (3, [.ref b1, .int (nI n), .int (nI kd), .int (nI k), .ref b2, .int (nI od), .int cf, .int (nI wn), .ref b3, .int (nI ok), .ref b4])), (b1, .inl (cI, 400, .inl g)), (b2, .inl (cL, 24, .inr (.inl rn))), (b3, .inl (cI, 200, .inl go)), (b4, .inl (cL, 24, .inr (.inl gn)))] [(b0, .inr (3, [.ref b1, .int (nI n), .int (nI kd), .int (nI k), .ref b2, .int (nI od), .int cf, .int (nI wn), .ref b3, .int (nI ok), .ref b4])), (b1, .inl (cI, 400, .inl g)), (b2, .inl (cL, 24, .inr (.inl rn))), (b3, .inl (cI, 200, .inl go)), (b4, .inl (cL, 24, .inr (.inl gn)))] (fd_rs kd k rn i) := by
  refine fd_open_i (cc := ncD_sort) (maxL := 2) (ret := (some .int)) (by decide) rfl (Nat.le_of_ble_eq_true rfl) ?_
  intro p e s m below meth c A ls X hP hD hS hl
  obtain ⟨hx, hb, hr, hml, hown, hts0, hlocks, hK, hEV, hA⟩ := X
  have hts : ∀ w ∈ fd_TB, w.before _ s = true := fun w h => hts0 w (List.mem_cons_of_mem _ h)
  have hE := fd_EV_ok Z
  have hown : s.vm.findClass "FieldDeskModel" = some m.cls := hown
  have hl : lv_has ls 2 [(0, .ref b0), (1, .int i)] := hl
  refine lv_iload_n hx hb ndD_sort_0 rfl (lv_at hl 1 rfl) ?_
  refine lv_if_lt (tgt := 29) hx hb ndD_sort_1 (by decide) (fun c_1 => ?_) (fun c_1 => ?_)
  · refine lv_iconst (v := 0) hx hb ndD_sort_29 (by decide) ?_
    exact fd_ret_i hx hb hr hlocks hS hP hD rfl (by rw [fd_rs, if_pos c_1]) ndD_sort_30
  · refine lv_iload_n hx hb ndD_sort_4 rfl (lv_at hl 1 rfl) ?_
    refine lv_aload_n hx hb ndD_sort_5 rfl (lv_at hl 0 rfl) ?_
    refine va_get (D := D) (ci := 3) (v := .int (nI k)) (C := nR_D) (T := nT_D) (N := 11) hx hb hts in_D hown hK hP 0 rfl rfl 3 (by decide) (hts _ tb_251) (fun _ h9 => h9) rfl ndD_sort_6 ?_
    refine lv_icmp_ge (tgt := 29) hx hb ndD_sort_9 (by decide) (fun c_9 => ?_) (fun c_9 => ?_)
    · refine lv_iconst (v := 0) hx hb ndD_sort_29 (by decide) ?_
      exact fd_ret_i hx hb hr hlocks hS hP hD rfl (by rw [fd_rs, if_neg c_1, if_pos c_9]) ndD_sort_30
    · obtain ⟨j9, hj9, rfl⟩ := fd_ix c_1 c_9 (by omega)
      refine lv_aload_n hx hb ndD_sort_12 rfl (lv_at hl 0 rfl) ?_
      refine va_get (D := D) (ci := 3) (v := .int (nI kd)) (C := nR_D) (T := nT_D) (N := 11) hx hb hts in_D hown hK hP 0 rfl rfl 2 (by decide) (hts _ tb_250) (fun _ h9 => h9) rfl ndD_sort_13 ?_
      refine lv_iload_n hx hb ndD_sort_16 rfl (lv_at hl 1 rfl) ?_
      refine lv_aload_n hx hb ndD_sort_17 rfl (lv_at hl 0 rfl) ?_
      refine va_get (D := D) (ci := 3) (v := .ref b2) (C := nR_D) (T := nT_D) (N := 11) hx hb hts in_D hown hK hP 0 rfl rfl 4 (by decide) (hts _ tb_252) (fun _ h9 => h9) rfl ndD_sort_18 ?_
      refine lv_iconst (v := 3) hx hb ndD_sort_21 (by decide) ?_
      refine fd_asi (y := nI 3) rfl ?_
      refine fd_lald hx hb hK hP 2 1 (k := 3) rfl rfl (by omega) (by omega) ndD_sort_22 ?_
      refine fd_go_i (wr := [(b0, .inr (3, [.ref b1, .int (nI n), .int (nI kd), .int (nI k), .ref b2, .int (nI od), .int cf, .int (nI wn), .ref b3, .int (nI ok), .ref b4])), (b1, .inl (cI, 400, .inl g)), (b2, .inl (cL, 24, .inr (.inl rn))), (b3, .inl (cI, 200, .inl go)), (b4, .inl (cL, 24, .inr (.inl gn)))]) (w2 := [(b0, .inr (3, [.ref b1, .int (nI n), .int (nI kd), .int (nI k), .ref b2, .int (nI od), .int cf, .int (nI wn), .ref b3, .int (nI ok), .ref b4])), (b1, .inl (cI, 400, .inl g)), (b2, .inl (cL, 24, .inr (.inl rn))), (b3, .inl (cI, 200, .inl go)), (b4, .inl (cL, 24, .inr (.inl gn)))]) (va_runS (As := [.int (nI kd), .int (nI j9), .long (rn 3)]) (rest := []) ⟨hx, hb, hml, hown, hts⟩ (kD_sortOf l D Z cI cL (kd := kd) (j := j9) (by omega) (by omega) (by omega) (rn 3) s.heap.size) (va_cwS 3 hts (fd_gS tb_303 tb_304 tb_16 tb_305) rfl rfl rfl nhD_sortOf.2 ⟨(Nat.le_of_ble_eq_true rfl), (Nat.le_of_ble_eq_true rfl)⟩) (fd_PreS hE hK hEV hA hP hD hS [] rfl (by decide)) rfl rfl hl.1 rfl (lv_room (Nat.le_of_ble_eq_true rfl)) ndD_sort_23 ⟨(Nat.le_of_ble_eq_true rfl), (Nat.le_of_ble_eq_true rfl)⟩) hP hD hS hA [] [0, 1, 2, 3, 4] rfl rfl (by decide) (by decide) [0, 1, 2, 3, 4] rfl (by decide) (fun H locs hP hD hS => ?_)
      refine fd_asi (y := fd_due kd j9 rn) rfl ?_
      refine lv_goto (tgt := 30) hx hb ndD_sort_26 (by decide) ?_
      exact fd_ret_i hx hb hr hlocks hS hP hD rfl (by rw [fd_rs, if_neg c_1, if_neg c_9, nI_clamp (by omega)]) ndD_sort_30
set_option maxHeartbeats 4000000 in
set_option maxRecDepth 100000 in
theorem kD_type_no (l : Launch) (D : va_G) (Z : Nat → Nat) (cI cL : ClassId) {b0 b1 b2 b3 b4 n kd k od wn ok : Nat} {g go : Nat → Int32} {rn gn : Nat → Int64} {cf : Int32} (hn : n ≤ 400) (hkd : kd ≤ 15) (hk : k ≤ 20) (hwn : wn ≤ 123) (hod : od ≤ 15) (hok : ok ≤ 20) (v : Int64) (q : Int32) (hno : q < 1 ∨ 8 < q ∨ nI (400 - n) < q) : fd_Mi l D fd_cl (fd_ty cI cL) (fd_EV Z) nyD_type (.code nyD_type ncD_type 5 (some .boolean) :: fd_TB) nmD_type [.ref b0, .long v, .int q] [(b0, .inr (3, [.ref b1, .int (nI n), .int (nI kd), .int (nI k), .ref b2, .int (nI od), .int cf, .int (nI wn), .ref b3, .int (nI ok), .ref b4])), (b1, .inl (cI, 400, .inl g)), (b2, .inl (cL, 24, .inr (.inl rn))), (b3, .inl (cI, 200, .inl go)), (b4, .inl (cL, 24, .inr (.inl gn)))] [(b0, .inr (3, [.ref b1, .int (nI n), .int (nI kd), .int (nI k), .ref b2, .int (nI od), .int cf, .int (nI wn), .ref b3, .int (nI ok), .ref b4])), (b1, .inl (cI, 400, .inl g)), (b2, .inl (cL, 24, .inr (.inl rn))), (b3, .inl (cI, 200, .inl go)), (b4, .inl (cL, 24, .inr (.inl gn)))] 0 := by
  refine fd_open_i (cc := ncD_type) (maxL := 5) (ret := (some .boolean)) (by decide) rfl (Nat.le_of_ble_eq_true rfl) ?_
  intro p e s m below meth c A ls X hP hD hS hl
  obtain ⟨hx, hb, hr, hml, hown, hts0, hlocks, hK, hEV, hA⟩ := X
  have hts : ∀ w ∈ fd_TB, w.before _ s = true := fun w h => hts0 w (List.mem_cons_of_mem _ h)
  have hE := fd_EV_ok Z
  have hown : s.vm.findClass "FieldDeskModel" = some m.cls := hown
  have hl : lv_has ls 5 [(0, .ref b0), (1, .long v), (3, .int q)] := hl
  refine lv_iload_n hx hb ndD_type_0 rfl (lv_at hl 2 rfl) ?_
  refine lv_iconst (v := 1) hx hb ndD_type_1 (by decide) ?_
  refine lv_icmp_lt (tgt := 23) hx hb ndD_type_2 (by decide) (fun c_2 => ?_) (fun c_2 => ?_)
  · refine lv_iconst (v := 0) hx hb ndD_type_23 (by decide) ?_
    exact fd_ret_i hx hb hr hlocks hS hP hD rfl (rfl) ndD_type_24
  · refine lv_iload_n hx hb ndD_type_5 rfl (lv_at hl 2 rfl) ?_
    refine lv_bipush (v := 8) hx hb ndD_type_6 (by decide) ?_
    refine lv_icmp_gt (tgt := 23) hx hb ndD_type_8 (by decide) (fun c_8 => ?_) (fun c_8 => ?_)
    · refine lv_iconst (v := 0) hx hb ndD_type_23 (by decide) ?_
      exact fd_ret_i hx hb hr hlocks hS hP hD rfl (rfl) ndD_type_24
    · refine lv_aload_n hx hb ndD_type_11 rfl (lv_at hl 0 rfl) ?_
      refine va_get (D := D) (ci := 3) (v := .int (nI n)) (C := nR_D) (T := nT_D) (N := 11) hx hb hts in_D hown hK hP 0 rfl rfl 1 (by decide) (hts _ tb_249) (fun _ h9 => h9) rfl ndD_type_12 ?_
      refine lv_iload_n hx hb ndD_type_15 rfl (lv_at hl 2 rfl) ?_
      refine lv_iadd hx hb ndD_type_16 ?_
      refine lv_sipush (v := 400) hx hb ndD_type_17 (by decide) ?_
      refine lv_icmp_le (tgt := 25) hx hb ndD_type_20 (by decide) (fun c_20 => absurd c_20 (fun h9 => fd_tyno hn hno c_2 c_8 h9)) (fun _ => ?_)
      refine lv_iconst (v := 0) hx hb ndD_type_23 (by decide) ?_
      exact fd_ret_i hx hb hr hlocks hS hP hD rfl (rfl) ndD_type_24
set_option maxHeartbeats 4000000 in
set_option maxRecDepth 100000 in
theorem kD_type_yes (l : Launch) (D : va_G) (Z : Nat → Nat) (cI cL : ClassId) {b0 b1 b2 b3 b4 n kd k od wn ok : Nat} {g go : Nat → Int32} {rn gn : Nat → Int64} {cf : Int32} (hn : n ≤ 400) (hkd : kd ≤ 15) (hk : k ≤ 20) (hwn : wn ≤ 123) (hod : od ≤ 15) (hok : ok ≤ 20) (v : Int64) {j : Nat} (h1 : 1 ≤ j) (h8 : j ≤ 8) (hj : n + j ≤ 400) : fd_Mi l D fd_cl (fd_ty cI cL) (fd_EV Z) nyD_type (.code nyD_type ncD_type 5 (some .boolean) :: fd_TB) nmD_type [.ref b0, .long v, .int (nI j)] [(b0, .inr (3, [.ref b1, .int (nI n), .int (nI kd), .int (nI k), .ref b2, .int (nI od), .int cf, .int (nI wn), .ref b3, .int (nI ok), .ref b4])), (b1, .inl (cI, 400, .inl g)), (b2, .inl (cL, 24, .inr (.inl rn))), (b3, .inl (cI, 200, .inl go)), (b4, .inl (cL, 24, .inr (.inl gn)))] [(b0, .inr (3, [.ref b1, .int (nI (n + j)), .int (nI kd), .int (nI k), .ref b2, .int (nI od), .int cf, .int (nI wn), .ref b3, .int (nI ok), .ref b4])), (b1, .inl (cI, 400, .inl (fd_tyf v j g n))), (b2, .inl (cL, 24, .inr (.inl rn))), (b3, .inl (cI, 200, .inl go)), (b4, .inl (cL, 24, .inr (.inl gn)))] 1 := by
  refine fd_open_i (cc := ncD_type) (maxL := 5) (ret := (some .boolean)) (by decide) rfl (Nat.le_of_ble_eq_true rfl) ?_
  intro p e s m below meth c A ls X hP hD hS hl
  obtain ⟨hx, hb, hr, hml, hown, hts0, hlocks, hK, hEV, hA⟩ := X
  have hts : ∀ w ∈ fd_TB, w.before _ s = true := fun w h => hts0 w (List.mem_cons_of_mem _ h)
  have hE := fd_EV_ok Z
  have hown : s.vm.findClass "FieldDeskModel" = some m.cls := hown
  have hl : lv_has ls 5 [(0, .ref b0), (1, .long v), (3, .int (nI j))] := hl
  refine lv_iload_n hx hb ndD_type_0 rfl (lv_at hl 2 rfl) ?_
  refine lv_iconst (v := 1) hx hb ndD_type_1 (by decide) ?_
  refine lv_icmp_lt (tgt := 23) hx hb ndD_type_2 (by decide) (fun c_2 => absurd c_2 (fun h9 => absurd ((nI_ltI (a := j) (b := 1) (by omega) (by omega)).mp h9) (by omega))) (fun _ => ?_)
  refine lv_iload_n hx hb ndD_type_5 rfl (lv_at hl 2 rfl) ?_
  refine lv_bipush (v := 8) hx hb ndD_type_6 (by decide) ?_
  refine lv_icmp_gt (tgt := 23) hx hb ndD_type_8 (by decide) (fun c_8 => absurd c_8 (fun h9 => absurd ((nI_ltI (a := 8) (b := j) (by omega) (by omega)).mp h9) (by omega))) (fun _ => ?_)
  refine lv_aload_n hx hb ndD_type_11 rfl (lv_at hl 0 rfl) ?_
  refine va_get (D := D) (ci := 3) (v := .int (nI n)) (C := nR_D) (T := nT_D) (N := 11) hx hb hts in_D hown hK hP 0 rfl rfl 1 (by decide) (hts _ tb_249) (fun _ h9 => h9) rfl ndD_type_12 ?_
  refine lv_iload_n hx hb ndD_type_15 rfl (lv_at hl 2 rfl) ?_
  refine lv_iadd hx hb ndD_type_16 ?_
  refine fd_asi (y := nI (n + j)) (nI_add _ _) ?_
  refine lv_sipush (v := 400) hx hb ndD_type_17 (by decide) ?_
  refine lv_icmp_le (tgt := 25) hx hb ndD_type_20 (by decide) (fun _ => ?_) (fun c_20 => absurd ((nI_leI (a := (n + j)) (b := 400) (by omega) (by omega)).mpr (by omega)) c_20)
  refine lv_iload_n hx hb ndD_type_25 rfl (lv_at hl 2 rfl) ?_
  refine lv_iconst (v := 1) hx hb ndD_type_26 (by decide) ?_
  refine lv_isub hx hb ndD_type_27 ?_
  refine lv_istore (lv' := [(4, .int ((nI j) - 1)), (0, .ref b0), (1, .long v), (3, .int (nI j))]) hx hb ndD_type_28 hl (by decide) rfl (fun ls hl => ?_)
  have loop : ∀ (z : Nat) (n1 : Nat) (f1 : Nat → Int32) (hm : n1 + z = n + j) (hz : z ≤ j) (hf : fd_tyf v z f1 n1 = fd_tyf v j g n) (H : Heap) (locs : List Loc) (ls : Array Slot), va_P D fd_cl [(b0, .inr (3, [.ref b1, .int (nI n1), .int (nI kd), .int (nI k), .ref b2, .int (nI od), .int cf, .int (nI wn), .ref b3, .int (nI ok), .ref b4])), (b1, .inl (cI, 400, .inl f1)), (b2, .inl (cL, 24, .inr (.inl rn))), (b3, .inl (cI, 200, .inl go)), (b4, .inl (cL, 24, .inr (.inl gn)))] H → va_D A [(b0, .inr (3, [.ref b1, .int (nI n1), .int (nI kd), .int (nI k), .ref b2, .int (nI od), .int cf, .int (nI wn), .ref b3, .int (nI ok), .ref b4])), (b1, .inl (cI, 400, .inl f1)), (b2, .inl (cL, 24, .inr (.inl rn))), (b3, .inl (cI, 200, .inl go)), (b4, .inl (cL, 24, .inr (.inl gn)))] → va_S A s.heap H locs → lv_has ls 5 [(0, .ref b0), (1, .long v), (4, .int (nI z - 1))] → W p l e nmD_type s m ([.ref b0, .long v, .int (nI j)].toArray) below meth c H locs 0 0 (MQ below (va_Qi (fun r' (_ : Unit) => r' = 1) (fd_B D fd_cl A [(b0, .inr (3, [.ref b1, .int (nI (n + j)), .int (nI kd), .int (nI k), .ref b2, .int (nI od), .int cf, .int (nI wn), .ref b3, .int (nI ok), .ref b4])), (b1, .inl (cI, 400, .inl (fd_tyf v j g n))), (b2, .inl (cL, 24, .inr (.inl rn))), (b3, .inl (cI, 200, .inl go)), (b4, .inl (cL, 24, .inr (.inl gn)))]) A) [.ref b0, .long v, .int (nI j)].toArray s 0 0 A) (F0 m 30 ls []) := by
    intro z
    induction z with
    | zero =>
      intro n1 f1 hm hz hf H locs ls hP hD hS hl
      obtain rfl : n1 = n + j := by omega
      obtain rfl : f1 = fd_tyf v j g n := hf
      refine lv_iload hx hb ndD_type_30 (lv_at hl 2 rfl) ?_
      refine lv_if_lt (tgt := 72) hx hb ndD_type_32 (by decide) (fun _ => ?_) (fun c_32 => absurd (by decide) c_32)
      refine lv_iconst (v := 1) hx hb ndD_type_72 (by decide) ?_
      exact fd_ret_i hx hb hr hlocks hS hP hD rfl (rfl) ndD_type_73
    | succ z ih =>
      intro n1 f1 hm hz hf H locs ls hP hD hS hl
      rw [nI_pred] at hl
      refine lv_iload hx hb ndD_type_30 (lv_at hl 2 rfl) ?_
      refine lv_if_lt (tgt := 72) hx hb ndD_type_32 (by decide) (fun c_32 => absurd c_32 (fun h9 => absurd ((nI_ltI (a := z) (b := 0) (by omega) (by omega)).mp h9) (by omega))) (fun _ => ?_)
      refine lv_aload_n hx hb ndD_type_35 rfl (lv_at hl 0 rfl) ?_
      refine va_get (D := D) (ci := 3) (v := .ref b1) (C := nR_D) (T := nT_D) (N := 11) hx hb hts in_D hown hK hP 0 rfl rfl 0 (by decide) (hts _ tb_248) (fun _ h9 => h9) rfl ndD_type_36 ?_
      refine lv_aload_n hx hb ndD_type_39 rfl (lv_at hl 0 rfl) ?_
      refine va_get (D := D) (ci := 3) (v := .int (nI n1)) (C := nR_D) (T := nT_D) (N := 11) hx hb hts in_D hown hK hP 0 rfl rfl 1 (by decide) (hts _ tb_249) (fun _ h9 => h9) rfl ndD_type_40 ?_
      refine lv_lload_n hx hb ndD_type_43 rfl (lv_at hl 1 rfl) ?_
      refine lv_bipush (v := 8) hx hb ndD_type_44 (by decide) ?_
      refine lv_iload hx hb ndD_type_46 (lv_at hl 2 rfl) ?_
      refine lv_imul hx hb ndD_type_48 ?_
      refine lv_lshr hx hb ndD_type_49 rfl ?_
      refine lv_ldc2 hx hb hown (hts _ tb_274) ndD_type_50 ?_
      refine lv_land hx hb ndD_type_53 ?_
      refine lv_l2i hx hb ndD_type_54 rfl ?_
      refine fd_asi (y := fd_byte v z) (fd_byte_eq v (by omega)) ?_
      refine fd_iast hx hb hK hP hD hS 1 0 (k := n1) rfl rfl (by omega) (by omega) ndD_type_55 (fun H locs hP hD hS => ?_)
      have hP : va_P D fd_cl [(b0, .inr (3, [.ref b1, .int (nI n1), .int (nI kd), .int (nI k), .ref b2, .int (nI od), .int cf, .int (nI wn), .ref b3, .int (nI ok), .ref b4])), (b1, .inl (cI, 400, .inl (upd f1 n1 (fd_byte v z)))), (b2, .inl (cL, 24, .inr (.inl rn))), (b3, .inl (cI, 200, .inl go)), (b4, .inl (cL, 24, .inr (.inl gn)))] H := hP
      have hD : va_D A [(b0, .inr (3, [.ref b1, .int (nI n1), .int (nI kd), .int (nI k), .ref b2, .int (nI od), .int cf, .int (nI wn), .ref b3, .int (nI ok), .ref b4])), (b1, .inl (cI, 400, .inl (upd f1 n1 (fd_byte v z)))), (b2, .inl (cL, 24, .inr (.inl rn))), (b3, .inl (cI, 200, .inl go)), (b4, .inl (cL, 24, .inr (.inl gn)))] := hD
      refine lv_aload_n hx hb ndD_type_56 rfl (lv_at hl 0 rfl) ?_
      refine lv_aload_n hx hb ndD_type_57 rfl (lv_at hl 0 rfl) ?_
      refine va_get (D := D) (ci := 3) (v := .int (nI n1)) (C := nR_D) (T := nT_D) (N := 11) hx hb hts in_D hown hK hP 0 rfl rfl 1 (by decide) (hts _ tb_249) (fun _ h9 => h9) rfl ndD_type_58 ?_
      refine lv_iconst (v := 1) hx hb ndD_type_61 (by decide) ?_
      refine lv_iadd hx hb ndD_type_62 ?_
      refine fd_asi (y := nI (n1 + 1)) (nI_1 n1) ?_
      refine va_put (D := D) (ci := 3) (v := .int (nI (n1 + 1))) (ty := (.int)) (C := nR_D) (T := nT_D) (N := 11) hx hb hts in_D nt_D nt_D_ok nn_D hown hK hP hD hS 0 rfl rfl 1 (by decide) (hts _ tb_249) (fun _ h9 => h9) rfl (by decide +kernel) rfl rfl (Nat.le_of_ble_eq_true rfl) ndD_type_63 (fun H locs hP hD hS => ?_)
      have hP : va_P D fd_cl [(b0, .inr (3, [.ref b1, .int (nI (n1 + 1)), .int (nI kd), .int (nI k), .ref b2, .int (nI od), .int cf, .int (nI wn), .ref b3, .int (nI ok), .ref b4])), (b1, .inl (cI, 400, .inl (upd f1 n1 (fd_byte v z)))), (b2, .inl (cL, 24, .inr (.inl rn))), (b3, .inl (cI, 200, .inl go)), (b4, .inl (cL, 24, .inr (.inl gn)))] H := hP
      have hD : va_D A [(b0, .inr (3, [.ref b1, .int (nI (n1 + 1)), .int (nI kd), .int (nI k), .ref b2, .int (nI od), .int cf, .int (nI wn), .ref b3, .int (nI ok), .ref b4])), (b1, .inl (cI, 400, .inl (upd f1 n1 (fd_byte v z)))), (b2, .inl (cL, 24, .inr (.inl rn))), (b3, .inl (cI, 200, .inl go)), (b4, .inl (cL, 24, .inr (.inl gn)))] := hD
      refine lv_iinc (v := nI z - 1) (lv' := [(4, .int (nI z - 1)), (0, .ref b0), (1, .long v)]) hx hb ndD_type_66 hl (k := 2) rfl (fd_dec _) (by decide) rfl (fun ls hl => ?_)
      refine lv_goto (tgt := 30) hx hb ndD_type_69 (by decide) ?_
      exact ih _ _ (by omega) (by omega) hf _ _ _ hP hD hS (lv_sub hl [1, 2, 0] rfl)
  exact loop j n g rfl (Nat.le_refl j) rfl _ _ _ hP hD hS (lv_sub hl [1, 2, 0] rfl)
set_option maxHeartbeats 4000000 in
set_option maxRecDepth 100000 in
theorem kD_lay (l : Launch) (D : va_G) (Z : Nat → Nat) (cI cL : ClassId) {b0 b1 b2 b3 b4 n kd k od wn ok : Nat} {g go : Nat → Int32} {rn gn : Nat → Int64} {cf : Int32} (hn : n ≤ 400) (hkd : kd ≤ 15) (hk : k ≤ 20) (hwn : wn ≤ 123) (hod : od ≤ 15) (hok : ok ≤ 20) (x : Int32) : fd_Mv l D fd_cl (fd_ty cI cL) (fd_EV Z) nyD_lay (.code nyD_lay ncD_lay 2 none :: fd_TB) nmD_lay [.ref b0, .int x] [(b0, .inr (3, [.ref b1, .int (nI n), .int (nI kd), .int (nI k), .ref b2, .int (nI od), .int cf, .int (nI wn), .ref b3, .int (nI ok), .ref b4])), (b1, .inl (cI, 400, .inl g)), (b2, .inl (cL, 24, .inr (.inl rn))), (b3, .inl (cI, 200, .inl go)), (b4, .inl (cL, 24, .inr (.inl gn)))] [(b0, .inr (3, [.ref b1, .int (nI n), .int (nI kd), .int (nI k), .ref b2, .int (nI od), .int cf, .int (nI (wn + 1)), .ref b3, .int (nI ok), .ref b4])), (b1, .inl (cI, 400, .inl g)), (b2, .inl (cL, 24, .inr (.inl rn))), (b3, .inl (cI, 200, .inl (upd go wn x))), (b4, .inl (cL, 24, .inr (.inl gn)))] := by
  refine fd_open_v (cc := ncD_lay) (maxL := 2) (ret := none) (by decide) rfl (Nat.le_of_ble_eq_true rfl) ?_
  intro p e s m below meth c A ls X hP hD hS hl
  obtain ⟨hx, hb, hr, hml, hown, hts0, hlocks, hK, hEV, hA⟩ := X
  have hts : ∀ w ∈ fd_TB, w.before _ s = true := fun w h => hts0 w (List.mem_cons_of_mem _ h)
  have hE := fd_EV_ok Z
  have hown : s.vm.findClass "FieldDeskModel" = some m.cls := hown
  have hl : lv_has ls 2 [(0, .ref b0), (1, .int x)] := hl
  refine lv_aload_n hx hb ndD_lay_0 rfl (lv_at hl 0 rfl) ?_
  refine va_get (D := D) (ci := 3) (v := .ref b3) (C := nR_D) (T := nT_D) (N := 11) hx hb hts in_D hown hK hP 0 rfl rfl 8 (by decide) (hts _ tb_256) (fun _ h9 => h9) rfl ndD_lay_1 ?_
  refine lv_aload_n hx hb ndD_lay_4 rfl (lv_at hl 0 rfl) ?_
  refine va_get (D := D) (ci := 3) (v := .int (nI wn)) (C := nR_D) (T := nT_D) (N := 11) hx hb hts in_D hown hK hP 0 rfl rfl 7 (by decide) (hts _ tb_255) (fun _ h9 => h9) rfl ndD_lay_5 ?_
  refine lv_iload_n hx hb ndD_lay_8 rfl (lv_at hl 1 rfl) ?_
  refine fd_iast hx hb hK hP hD hS 3 0 (k := wn) rfl rfl (by omega) (by omega) ndD_lay_9 (fun H locs hP hD hS => ?_)
  have hP : va_P D fd_cl [(b0, .inr (3, [.ref b1, .int (nI n), .int (nI kd), .int (nI k), .ref b2, .int (nI od), .int cf, .int (nI wn), .ref b3, .int (nI ok), .ref b4])), (b1, .inl (cI, 400, .inl g)), (b2, .inl (cL, 24, .inr (.inl rn))), (b3, .inl (cI, 200, .inl (upd go wn x))), (b4, .inl (cL, 24, .inr (.inl gn)))] H := hP
  have hD : va_D A [(b0, .inr (3, [.ref b1, .int (nI n), .int (nI kd), .int (nI k), .ref b2, .int (nI od), .int cf, .int (nI wn), .ref b3, .int (nI ok), .ref b4])), (b1, .inl (cI, 400, .inl g)), (b2, .inl (cL, 24, .inr (.inl rn))), (b3, .inl (cI, 200, .inl (upd go wn x))), (b4, .inl (cL, 24, .inr (.inl gn)))] := hD
  refine lv_aload_n hx hb ndD_lay_10 rfl (lv_at hl 0 rfl) ?_
  refine lv_aload_n hx hb ndD_lay_11 rfl (lv_at hl 0 rfl) ?_
  refine va_get (D := D) (ci := 3) (v := .int (nI wn)) (C := nR_D) (T := nT_D) (N := 11) hx hb hts in_D hown hK hP 0 rfl rfl 7 (by decide) (hts _ tb_255) (fun _ h9 => h9) rfl ndD_lay_12 ?_
  refine lv_iconst (v := 1) hx hb ndD_lay_15 (by decide) ?_
  refine lv_iadd hx hb ndD_lay_16 ?_
  refine fd_asi (y := nI (wn + 1)) (nI_1 wn) ?_
  refine va_put (D := D) (ci := 3) (v := .int (nI (wn + 1))) (ty := (.int)) (C := nR_D) (T := nT_D) (N := 11) hx hb hts in_D nt_D nt_D_ok nn_D hown hK hP hD hS 0 rfl rfl 7 (by decide) (hts _ tb_255) (fun _ h9 => h9) rfl (by decide +kernel) rfl rfl (Nat.le_of_ble_eq_true rfl) ndD_lay_17 (fun H locs hP hD hS => ?_)
  have hP : va_P D fd_cl [(b0, .inr (3, [.ref b1, .int (nI n), .int (nI kd), .int (nI k), .ref b2, .int (nI od), .int cf, .int (nI (wn + 1)), .ref b3, .int (nI ok), .ref b4])), (b1, .inl (cI, 400, .inl g)), (b2, .inl (cL, 24, .inr (.inl rn))), (b3, .inl (cI, 200, .inl (upd go wn x))), (b4, .inl (cL, 24, .inr (.inl gn)))] H := hP
  have hD : va_D A [(b0, .inr (3, [.ref b1, .int (nI n), .int (nI kd), .int (nI k), .ref b2, .int (nI od), .int cf, .int (nI (wn + 1)), .ref b3, .int (nI ok), .ref b4])), (b1, .inl (cI, 400, .inl g)), (b2, .inl (cL, 24, .inr (.inl rn))), (b3, .inl (cI, 200, .inl (upd go wn x))), (b4, .inl (cL, 24, .inr (.inl gn)))] := hD
  exact fd_ret_v hx hb hr hlocks hS hP hD ndD_lay_20
set_option maxHeartbeats 4000000 in
set_option maxRecDepth 100000 in
theorem kD_begin_no (l : Launch) (D : va_G) (Z : Nat → Nat) (cI cL : ClassId) {b0 b1 b2 b3 b4 n kd k od wn ok : Nat} {g go : Nat → Int32} {rn gn : Nat → Int64} {cf : Int32} (hn : n ≤ 400) (hkd : kd ≤ 15) (hk : k ≤ 20) (hwn : wn ≤ 123) (hod : od ≤ 15) (hok : ok ≤ 20) (q : Int32) (hno : q < 1 ∨ 15 < q) : fd_Mi l D fd_cl (fd_ty cI cL) (fd_EV Z) nyD_begin (.code nyD_begin ncD_begin 3 (some .boolean) :: fd_TB) nmD_begin [.ref b0, .int q] [(b0, .inr (3, [.ref b1, .int (nI n), .int (nI kd), .int (nI k), .ref b2, .int (nI od), .int cf, .int (nI wn), .ref b3, .int (nI ok), .ref b4])), (b1, .inl (cI, 400, .inl g)), (b2, .inl (cL, 24, .inr (.inl rn))), (b3, .inl (cI, 200, .inl go)), (b4, .inl (cL, 24, .inr (.inl gn)))] [(b0, .inr (3, [.ref b1, .int (nI n), .int (nI kd), .int (nI k), .ref b2, .int (nI od), .int cf, .int (nI wn), .ref b3, .int (nI ok), .ref b4])), (b1, .inl (cI, 400, .inl g)), (b2, .inl (cL, 24, .inr (.inl rn))), (b3, .inl (cI, 200, .inl go)), (b4, .inl (cL, 24, .inr (.inl gn)))] 0 := by
  refine fd_open_i (cc := ncD_begin) (maxL := 3) (ret := (some .boolean)) (by decide) rfl (Nat.le_of_ble_eq_true rfl) ?_
  intro p e s m below meth c A ls X hP hD hS hl
  obtain ⟨hx, hb, hr, hml, hown, hts0, hlocks, hK, hEV, hA⟩ := X
  have hts : ∀ w ∈ fd_TB, w.before _ s = true := fun w h => hts0 w (List.mem_cons_of_mem _ h)
  have hE := fd_EV_ok Z
  have hown : s.vm.findClass "FieldDeskModel" = some m.cls := hown
  have hl : lv_has ls 3 [(0, .ref b0), (1, .int q)] := hl
  refine lv_iload_n hx hb ndD_begin_0 rfl (lv_at hl 1 rfl) ?_
  refine lv_iconst (v := 1) hx hb ndD_begin_1 (by decide) ?_
  refine lv_icmp_lt (tgt := 11) hx hb ndD_begin_2 (by decide) (fun c_2 => ?_) (fun c_2 => ?_)
  · refine lv_iconst (v := 0) hx hb ndD_begin_11 (by decide) ?_
    exact fd_ret_i hx hb hr hlocks hS hP hD rfl (rfl) ndD_begin_12
  · refine lv_iload_n hx hb ndD_begin_5 rfl (lv_at hl 1 rfl) ?_
    refine lv_bipush (v := 15) hx hb ndD_begin_6 (by decide) ?_
    refine lv_icmp_le (tgt := 13) hx hb ndD_begin_8 (by decide) (fun c_8 => absurd c_8 (fun h9 => hno.elim (fun h => absurd h c_2) (fun h => absurd h9 (Int32.not_le.mpr h)))) (fun _ => ?_)
    refine lv_iconst (v := 0) hx hb ndD_begin_11 (by decide) ?_
    exact fd_ret_i hx hb hr hlocks hS hP hD rfl (rfl) ndD_begin_12
set_option maxHeartbeats 4000000 in
set_option maxRecDepth 100000 in
theorem kD_begin_yes (l : Launch) (D : va_G) (Z : Nat → Nat) (cI cL : ClassId) {b0 b1 b2 b3 b4 n kd k od wn ok : Nat} {g go : Nat → Int32} {rn gn : Nat → Int64} {cf : Int32} (hn : n ≤ 400) (hkd : kd ≤ 15) (hk : k ≤ 20) (hwn : wn ≤ 123) (hod : od ≤ 15) (hok : ok ≤ 20) {q : Nat} (h1 : 1 ≤ q) (h15 : q ≤ 15) : fd_Mi l D fd_cl (fd_ty cI cL) (fd_EV Z) nyD_begin (.code nyD_begin ncD_begin 3 (some .boolean) :: fd_TB) nmD_begin [.ref b0, .int (nI q)] [(b0, .inr (3, [.ref b1, .int (nI n), .int (nI kd), .int (nI k), .ref b2, .int (nI od), .int cf, .int (nI wn), .ref b3, .int (nI ok), .ref b4])), (b1, .inl (cI, 400, .inl g)), (b2, .inl (cL, 24, .inr (.inl rn))), (b3, .inl (cI, 200, .inl go)), (b4, .inl (cL, 24, .inr (.inl gn)))] [(b0, .inr (3, [.ref b1, .int (nI n), .int (nI kd), .int (nI k), .ref b2, .int (nI q), .int 0, .int (nI 3), .ref b3, .int (nI 0), .ref b4])), (b1, .inl (cI, 400, .inl g)), (b2, .inl (cL, 24, .inr (.inl rn))), (b3, .inl (cI, 200, .inl (fd_bw go q))), (b4, .inl (cL, 24, .inr (.inl gn)))] 1 := by
  refine fd_open_i (cc := ncD_begin) (maxL := 3) (ret := (some .boolean)) (by decide) rfl (Nat.le_of_ble_eq_true rfl) ?_
  intro p e s m below meth c A ls X hP hD hS hl
  obtain ⟨hx, hb, hr, hml, hown, hts0, hlocks, hK, hEV, hA⟩ := X
  have hts : ∀ w ∈ fd_TB, w.before _ s = true := fun w h => hts0 w (List.mem_cons_of_mem _ h)
  have hE := fd_EV_ok Z
  have hown : s.vm.findClass "FieldDeskModel" = some m.cls := hown
  have hl : lv_has ls 3 [(0, .ref b0), (1, .int (nI q))] := hl
  refine lv_iload_n hx hb ndD_begin_0 rfl (lv_at hl 1 rfl) ?_
  refine lv_iconst (v := 1) hx hb ndD_begin_1 (by decide) ?_
  refine lv_icmp_lt (tgt := 11) hx hb ndD_begin_2 (by decide) (fun c_2 => absurd c_2 (fun h9 => absurd ((nI_ltI (a := q) (b := 1) (by omega) (by omega)).mp h9) (by omega))) (fun _ => ?_)
  refine lv_iload_n hx hb ndD_begin_5 rfl (lv_at hl 1 rfl) ?_
  refine lv_bipush (v := 15) hx hb ndD_begin_6 (by decide) ?_
  refine lv_icmp_le (tgt := 13) hx hb ndD_begin_8 (by decide) (fun _ => ?_) (fun c_8 => absurd ((nI_leI (a := q) (b := 15) (by omega) (by omega)).mpr (by omega)) c_8)
  refine lv_aload_n hx hb ndD_begin_13 rfl (lv_at hl 0 rfl) ?_
  refine lv_iload_n hx hb ndD_begin_14 rfl (lv_at hl 1 rfl) ?_
  refine va_put (D := D) (ci := 3) (v := .int (nI q)) (ty := (.int)) (C := nR_D) (T := nT_D) (N := 11) hx hb hts in_D nt_D nt_D_ok nn_D hown hK hP hD hS 0 rfl rfl 5 (by decide) (hts _ tb_253) (fun _ h9 => h9) rfl (by decide +kernel) rfl rfl (Nat.le_of_ble_eq_true rfl) ndD_begin_15 (fun H locs hP hD hS => ?_)
  have hP : va_P D fd_cl [(b0, .inr (3, [.ref b1, .int (nI n), .int (nI kd), .int (nI k), .ref b2, .int (nI q), .int cf, .int (nI wn), .ref b3, .int (nI ok), .ref b4])), (b1, .inl (cI, 400, .inl g)), (b2, .inl (cL, 24, .inr (.inl rn))), (b3, .inl (cI, 200, .inl go)), (b4, .inl (cL, 24, .inr (.inl gn)))] H := hP
  have hD : va_D A [(b0, .inr (3, [.ref b1, .int (nI n), .int (nI kd), .int (nI k), .ref b2, .int (nI q), .int cf, .int (nI wn), .ref b3, .int (nI ok), .ref b4])), (b1, .inl (cI, 400, .inl g)), (b2, .inl (cL, 24, .inr (.inl rn))), (b3, .inl (cI, 200, .inl go)), (b4, .inl (cL, 24, .inr (.inl gn)))] := hD
  refine lv_aload_n hx hb ndD_begin_18 rfl (lv_at hl 0 rfl) ?_
  refine lv_iconst (v := 0) hx hb ndD_begin_19 (by decide) ?_
  refine va_put (D := D) (ci := 3) (v := .int 0) (ty := (.boolean)) (C := nR_D) (T := nT_D) (N := 11) hx hb hts in_D nt_D nt_D_ok nn_D hown hK hP hD hS 0 rfl rfl 6 (by decide) (hts _ tb_254) (fun _ h9 => h9) rfl (by decide +kernel) rfl rfl (Nat.le_of_ble_eq_true rfl) ndD_begin_20 (fun H locs hP hD hS => ?_)
  have hP : va_P D fd_cl [(b0, .inr (3, [.ref b1, .int (nI n), .int (nI kd), .int (nI k), .ref b2, .int (nI q), .int 0, .int (nI wn), .ref b3, .int (nI ok), .ref b4])), (b1, .inl (cI, 400, .inl g)), (b2, .inl (cL, 24, .inr (.inl rn))), (b3, .inl (cI, 200, .inl go)), (b4, .inl (cL, 24, .inr (.inl gn)))] H := hP
  have hD : va_D A [(b0, .inr (3, [.ref b1, .int (nI n), .int (nI kd), .int (nI k), .ref b2, .int (nI q), .int 0, .int (nI wn), .ref b3, .int (nI ok), .ref b4])), (b1, .inl (cI, 400, .inl g)), (b2, .inl (cL, 24, .inr (.inl rn))), (b3, .inl (cI, 200, .inl go)), (b4, .inl (cL, 24, .inr (.inl gn)))] := hD
  refine lv_aload_n hx hb ndD_begin_23 rfl (lv_at hl 0 rfl) ?_
  refine lv_iconst (v := 0) hx hb ndD_begin_24 (by decide) ?_
  refine fd_asi (y := nI 0) nI_0.symm ?_
  refine va_put (D := D) (ci := 3) (v := .int (nI 0)) (ty := (.int)) (C := nR_D) (T := nT_D) (N := 11) hx hb hts in_D nt_D nt_D_ok nn_D hown hK hP hD hS 0 rfl rfl 7 (by decide) (hts _ tb_255) (fun _ h9 => h9) rfl (by decide +kernel) rfl rfl (Nat.le_of_ble_eq_true rfl) ndD_begin_25 (fun H locs hP hD hS => ?_)
  have hP : va_P D fd_cl [(b0, .inr (3, [.ref b1, .int (nI n), .int (nI kd), .int (nI k), .ref b2, .int (nI q), .int 0, .int (nI 0), .ref b3, .int (nI ok), .ref b4])), (b1, .inl (cI, 400, .inl g)), (b2, .inl (cL, 24, .inr (.inl rn))), (b3, .inl (cI, 200, .inl go)), (b4, .inl (cL, 24, .inr (.inl gn)))] H := hP
  have hD : va_D A [(b0, .inr (3, [.ref b1, .int (nI n), .int (nI kd), .int (nI k), .ref b2, .int (nI q), .int 0, .int (nI 0), .ref b3, .int (nI ok), .ref b4])), (b1, .inl (cI, 400, .inl g)), (b2, .inl (cL, 24, .inr (.inl rn))), (b3, .inl (cI, 200, .inl go)), (b4, .inl (cL, 24, .inr (.inl gn)))] := hD
  refine lv_aload_n hx hb ndD_begin_28 rfl (lv_at hl 0 rfl) ?_
  refine lv_iconst (v := 0) hx hb ndD_begin_29 (by decide) ?_
  refine fd_asi (y := nI 0) nI_0.symm ?_
  refine va_put (D := D) (ci := 3) (v := .int (nI 0)) (ty := (.int)) (C := nR_D) (T := nT_D) (N := 11) hx hb hts in_D nt_D nt_D_ok nn_D hown hK hP hD hS 0 rfl rfl 9 (by decide) (hts _ tb_257) (fun _ h9 => h9) rfl (by decide +kernel) rfl rfl (Nat.le_of_ble_eq_true rfl) ndD_begin_30 (fun H locs hP hD hS => ?_)
  have hP : va_P D fd_cl [(b0, .inr (3, [.ref b1, .int (nI n), .int (nI kd), .int (nI k), .ref b2, .int (nI q), .int 0, .int (nI 0), .ref b3, .int (nI 0), .ref b4])), (b1, .inl (cI, 400, .inl g)), (b2, .inl (cL, 24, .inr (.inl rn))), (b3, .inl (cI, 200, .inl go)), (b4, .inl (cL, 24, .inr (.inl gn)))] H := hP
  have hD : va_D A [(b0, .inr (3, [.ref b1, .int (nI n), .int (nI kd), .int (nI k), .ref b2, .int (nI q), .int 0, .int (nI 0), .ref b3, .int (nI 0), .ref b4])), (b1, .inl (cI, 400, .inl g)), (b2, .inl (cL, 24, .inr (.inl rn))), (b3, .inl (cI, 200, .inl go)), (b4, .inl (cL, 24, .inr (.inl gn)))] := hD
  refine lv_iconst (v := 0) hx hb ndD_begin_33 (by decide) ?_
  refine lv_istore_n (lv' := [(2, .int 0), (0, .ref b0), (1, .int (nI q))]) hx hb ndD_begin_34 rfl hl (by decide) rfl (fun ls hl => ?_)
  refine lv_iload_n hx hb ndD_begin_35 rfl (lv_at hl 0 rfl) ?_
  refine lv_iconst (v := 3) hx hb ndD_begin_36 (by decide) ?_
  refine lv_icmp_ge (tgt := 55) hx hb ndD_begin_37 (by decide) (fun c_37 => absurd c_37 (by decide)) (fun _ => ?_)
  refine lv_aload_n hx hb ndD_begin_40 rfl (lv_at hl 1 rfl) ?_
  refine lv_iload_n hx hb ndD_begin_41 rfl (lv_at hl 2 rfl) ?_
  refine lv_iload_n hx hb ndD_begin_42 rfl (lv_at hl 0 rfl) ?_
  refine fd_go_i (wr := [(b0, .inr (3, [.ref b1, .int (nI n), .int (nI kd), .int (nI k), .ref b2, .int (nI q), .int 0, .int (nI 0), .ref b3, .int (nI 0), .ref b4])), (b1, .inl (cI, 400, .inl g)), (b2, .inl (cL, 24, .inr (.inl rn))), (b3, .inl (cI, 200, .inl go)), (b4, .inl (cL, 24, .inr (.inl gn)))]) (w2 := [(b0, .inr (3, [.ref b1, .int (nI n), .int (nI kd), .int (nI k), .ref b2, .int (nI q), .int 0, .int (nI 0), .ref b3, .int (nI 0), .ref b4])), (b1, .inl (cI, 400, .inl g)), (b2, .inl (cL, 24, .inr (.inl rn))), (b3, .inl (cI, 200, .inl go)), (b4, .inl (cL, 24, .inr (.inl gn)))]) (va_runS (As := [.int (nI q), .int 0]) (rest := [.ref b0]) ⟨hx, hb, hml, hown, hts⟩ (kD_letter l D Z cI cL (kd := q) (i := 0) (by omega) (by omega) (by omega) H.size) (va_cwS 2 hts (fd_gS tb_282 tb_283 tb_16 tb_284) rfl rfl rfl nhD_letter.2 ⟨(Nat.le_of_ble_eq_true rfl), (Nat.le_of_ble_eq_true rfl)⟩) (fd_PreS hE hK hEV hA hP hD hS [] rfl (by decide)) rfl rfl hl.1 rfl (lv_room (Nat.le_of_ble_eq_true rfl)) ndD_begin_43 ⟨(Nat.le_of_ble_eq_true rfl), (Nat.le_of_ble_eq_true rfl)⟩) hP hD hS hA [] [0, 1, 2, 3, 4] rfl rfl (by decide) (by decide) [0, 1, 2, 3, 4] rfl (by decide) (fun H locs hP hD hS => ?_)
  refine fd_go_v (wr := []) (w2 := [(b0, .inr (3, [.ref b1, .int (nI n), .int (nI kd), .int (nI k), .ref b2, .int (nI q), .int 0, .int (nI (0 + 1)), .ref b3, .int (nI 0), .ref b4])), (b1, .inl (cI, 400, .inl g)), (b2, .inl (cL, 24, .inr (.inl rn))), (b3, .inl (cI, 200, .inl (upd go 0 (fd_let q 0)))), (b4, .inl (cL, 24, .inr (.inl gn)))]) (va_runV (As := [.int (fd_let q 0)]) (rest := []) ⟨hx, hb, hml, hown, hts⟩ (kD_lay l D Z cI cL (n := n) (g := g) (kd := kd) (k := k) (rn := rn) (od := q) (cf := 0) (wn := 0) (go := go) (ok := 0) (gn := gn) (by omega) (by omega) (by omega) (by omega) (by omega) (by omega) (fd_let q 0) H.size) (cwV 1 hts (fd_gV tb_324 tb_325 tb_10 tb_16 tb_326) rfl rfl rfl nhD_lay ⟨(Nat.le_of_ble_eq_true rfl), (Nat.le_of_ble_eq_true rfl)⟩) (fd_PreV hE hK hEV hA hP hD hS [0, 1, 2, 3, 4] rfl (by decide) (ci := 3) (q0 := 0) rfl rfl) rfl rfl hl.1 rfl (lv_room (Nat.le_of_ble_eq_true rfl)) ndD_begin_46 ⟨(Nat.le_of_ble_eq_true rfl), (Nat.le_of_ble_eq_true rfl)⟩) hP hD hS hA [0, 1, 2, 3, 4] [] rfl rfl (by decide) (by decide) [0, 1, 2, 3, 4] rfl (by decide) (fun H locs hP hD hS => ?_)
  refine lv_iinc (v := 1) (lv' := [(2, .int 1), (0, .ref b0), (1, .int (nI q))]) hx hb ndD_begin_49 hl (k := 0) rfl (by decide) (by decide) rfl (fun ls hl => ?_)
  refine lv_goto (tgt := 35) hx hb ndD_begin_52 (by decide) ?_
  refine lv_iload_n hx hb ndD_begin_35 rfl (lv_at hl 0 rfl) ?_
  refine lv_iconst (v := 3) hx hb ndD_begin_36 (by decide) ?_
  refine lv_icmp_ge (tgt := 55) hx hb ndD_begin_37 (by decide) (fun c_37 => absurd c_37 (by decide)) (fun _ => ?_)
  refine lv_aload_n hx hb ndD_begin_40 rfl (lv_at hl 1 rfl) ?_
  refine lv_iload_n hx hb ndD_begin_41 rfl (lv_at hl 2 rfl) ?_
  refine lv_iload_n hx hb ndD_begin_42 rfl (lv_at hl 0 rfl) ?_
  refine fd_go_i (wr := [(b0, .inr (3, [.ref b1, .int (nI n), .int (nI kd), .int (nI k), .ref b2, .int (nI q), .int 0, .int (nI (0 + 1)), .ref b3, .int (nI 0), .ref b4])), (b1, .inl (cI, 400, .inl g)), (b2, .inl (cL, 24, .inr (.inl rn))), (b3, .inl (cI, 200, .inl (upd go 0 (fd_let q 0)))), (b4, .inl (cL, 24, .inr (.inl gn)))]) (w2 := [(b0, .inr (3, [.ref b1, .int (nI n), .int (nI kd), .int (nI k), .ref b2, .int (nI q), .int 0, .int (nI (0 + 1)), .ref b3, .int (nI 0), .ref b4])), (b1, .inl (cI, 400, .inl g)), (b2, .inl (cL, 24, .inr (.inl rn))), (b3, .inl (cI, 200, .inl (upd go 0 (fd_let q 0)))), (b4, .inl (cL, 24, .inr (.inl gn)))]) (va_runS (As := [.int (nI q), .int 1]) (rest := [.ref b0]) ⟨hx, hb, hml, hown, hts⟩ (kD_letter l D Z cI cL (kd := q) (i := 1) (by omega) (by omega) (by omega) H.size) (va_cwS 2 hts (fd_gS tb_282 tb_283 tb_16 tb_284) rfl rfl rfl nhD_letter.2 ⟨(Nat.le_of_ble_eq_true rfl), (Nat.le_of_ble_eq_true rfl)⟩) (fd_PreS hE hK hEV hA hP hD hS [] rfl (by decide)) rfl rfl hl.1 rfl (lv_room (Nat.le_of_ble_eq_true rfl)) ndD_begin_43 ⟨(Nat.le_of_ble_eq_true rfl), (Nat.le_of_ble_eq_true rfl)⟩) hP hD hS hA [] [0, 1, 2, 3, 4] rfl rfl (by decide) (by decide) [0, 1, 2, 3, 4] rfl (by decide) (fun H locs hP hD hS => ?_)
  refine fd_go_v (wr := []) (w2 := [(b0, .inr (3, [.ref b1, .int (nI n), .int (nI kd), .int (nI k), .ref b2, .int (nI q), .int 0, .int (nI ((0 + 1) + 1)), .ref b3, .int (nI 0), .ref b4])), (b1, .inl (cI, 400, .inl g)), (b2, .inl (cL, 24, .inr (.inl rn))), (b3, .inl (cI, 200, .inl (upd (upd go 0 (fd_let q 0)) ((0 + 1)) (fd_let q 1)))), (b4, .inl (cL, 24, .inr (.inl gn)))]) (va_runV (As := [.int (fd_let q 1)]) (rest := []) ⟨hx, hb, hml, hown, hts⟩ (kD_lay l D Z cI cL (n := n) (g := g) (kd := kd) (k := k) (rn := rn) (od := q) (cf := 0) (wn := (0 + 1)) (go := upd go 0 (fd_let q 0)) (ok := 0) (gn := gn) (by omega) (by omega) (by omega) (by omega) (by omega) (by omega) (fd_let q 1) H.size) (cwV 1 hts (fd_gV tb_324 tb_325 tb_10 tb_16 tb_326) rfl rfl rfl nhD_lay ⟨(Nat.le_of_ble_eq_true rfl), (Nat.le_of_ble_eq_true rfl)⟩) (fd_PreV hE hK hEV hA hP hD hS [0, 1, 2, 3, 4] rfl (by decide) (ci := 3) (q0 := 0) rfl rfl) rfl rfl hl.1 rfl (lv_room (Nat.le_of_ble_eq_true rfl)) ndD_begin_46 ⟨(Nat.le_of_ble_eq_true rfl), (Nat.le_of_ble_eq_true rfl)⟩) hP hD hS hA [0, 1, 2, 3, 4] [] rfl rfl (by decide) (by decide) [0, 1, 2, 3, 4] rfl (by decide) (fun H locs hP hD hS => ?_)
  refine lv_iinc (v := 2) (lv' := [(2, .int 2), (0, .ref b0), (1, .int (nI q))]) hx hb ndD_begin_49 hl (k := 0) rfl (by decide) (by decide) rfl (fun ls hl => ?_)
  refine lv_goto (tgt := 35) hx hb ndD_begin_52 (by decide) ?_
  refine lv_iload_n hx hb ndD_begin_35 rfl (lv_at hl 0 rfl) ?_
  refine lv_iconst (v := 3) hx hb ndD_begin_36 (by decide) ?_
  refine lv_icmp_ge (tgt := 55) hx hb ndD_begin_37 (by decide) (fun c_37 => absurd c_37 (by decide)) (fun _ => ?_)
  refine lv_aload_n hx hb ndD_begin_40 rfl (lv_at hl 1 rfl) ?_
  refine lv_iload_n hx hb ndD_begin_41 rfl (lv_at hl 2 rfl) ?_
  refine lv_iload_n hx hb ndD_begin_42 rfl (lv_at hl 0 rfl) ?_
  refine fd_go_i (wr := [(b0, .inr (3, [.ref b1, .int (nI n), .int (nI kd), .int (nI k), .ref b2, .int (nI q), .int 0, .int (nI ((0 + 1) + 1)), .ref b3, .int (nI 0), .ref b4])), (b1, .inl (cI, 400, .inl g)), (b2, .inl (cL, 24, .inr (.inl rn))), (b3, .inl (cI, 200, .inl (upd (upd go 0 (fd_let q 0)) ((0 + 1)) (fd_let q 1)))), (b4, .inl (cL, 24, .inr (.inl gn)))]) (w2 := [(b0, .inr (3, [.ref b1, .int (nI n), .int (nI kd), .int (nI k), .ref b2, .int (nI q), .int 0, .int (nI ((0 + 1) + 1)), .ref b3, .int (nI 0), .ref b4])), (b1, .inl (cI, 400, .inl g)), (b2, .inl (cL, 24, .inr (.inl rn))), (b3, .inl (cI, 200, .inl (upd (upd go 0 (fd_let q 0)) ((0 + 1)) (fd_let q 1)))), (b4, .inl (cL, 24, .inr (.inl gn)))]) (va_runS (As := [.int (nI q), .int 2]) (rest := [.ref b0]) ⟨hx, hb, hml, hown, hts⟩ (kD_letter l D Z cI cL (kd := q) (i := 2) (by omega) (by omega) (by omega) H.size) (va_cwS 2 hts (fd_gS tb_282 tb_283 tb_16 tb_284) rfl rfl rfl nhD_letter.2 ⟨(Nat.le_of_ble_eq_true rfl), (Nat.le_of_ble_eq_true rfl)⟩) (fd_PreS hE hK hEV hA hP hD hS [] rfl (by decide)) rfl rfl hl.1 rfl (lv_room (Nat.le_of_ble_eq_true rfl)) ndD_begin_43 ⟨(Nat.le_of_ble_eq_true rfl), (Nat.le_of_ble_eq_true rfl)⟩) hP hD hS hA [] [0, 1, 2, 3, 4] rfl rfl (by decide) (by decide) [0, 1, 2, 3, 4] rfl (by decide) (fun H locs hP hD hS => ?_)
  refine fd_go_v (wr := []) (w2 := [(b0, .inr (3, [.ref b1, .int (nI n), .int (nI kd), .int (nI k), .ref b2, .int (nI q), .int 0, .int (nI (((0 + 1) + 1) + 1)), .ref b3, .int (nI 0), .ref b4])), (b1, .inl (cI, 400, .inl g)), (b2, .inl (cL, 24, .inr (.inl rn))), (b3, .inl (cI, 200, .inl (upd (upd (upd go 0 (fd_let q 0)) ((0 + 1)) (fd_let q 1)) (((0 + 1) + 1)) (fd_let q 2)))), (b4, .inl (cL, 24, .inr (.inl gn)))]) (va_runV (As := [.int (fd_let q 2)]) (rest := []) ⟨hx, hb, hml, hown, hts⟩ (kD_lay l D Z cI cL (n := n) (g := g) (kd := kd) (k := k) (rn := rn) (od := q) (cf := 0) (wn := ((0 + 1) + 1)) (go := upd (upd go 0 (fd_let q 0)) ((0 + 1)) (fd_let q 1)) (ok := 0) (gn := gn) (by omega) (by omega) (by omega) (by omega) (by omega) (by omega) (fd_let q 2) H.size) (cwV 1 hts (fd_gV tb_324 tb_325 tb_10 tb_16 tb_326) rfl rfl rfl nhD_lay ⟨(Nat.le_of_ble_eq_true rfl), (Nat.le_of_ble_eq_true rfl)⟩) (fd_PreV hE hK hEV hA hP hD hS [0, 1, 2, 3, 4] rfl (by decide) (ci := 3) (q0 := 0) rfl rfl) rfl rfl hl.1 rfl (lv_room (Nat.le_of_ble_eq_true rfl)) ndD_begin_46 ⟨(Nat.le_of_ble_eq_true rfl), (Nat.le_of_ble_eq_true rfl)⟩) hP hD hS hA [0, 1, 2, 3, 4] [] rfl rfl (by decide) (by decide) [0, 1, 2, 3, 4] rfl (by decide) (fun H locs hP hD hS => ?_)
  refine lv_iinc (v := 3) (lv' := [(2, .int 3), (0, .ref b0), (1, .int (nI q))]) hx hb ndD_begin_49 hl (k := 0) rfl (by decide) (by decide) rfl (fun ls hl => ?_)
  refine lv_goto (tgt := 35) hx hb ndD_begin_52 (by decide) ?_
  refine lv_iload_n hx hb ndD_begin_35 rfl (lv_at hl 0 rfl) ?_
  refine lv_iconst (v := 3) hx hb ndD_begin_36 (by decide) ?_
  refine lv_icmp_ge (tgt := 55) hx hb ndD_begin_37 (by decide) (fun _ => ?_) (fun c_37 => absurd (by decide) c_37)
  refine lv_iconst (v := 1) hx hb ndD_begin_55 (by decide) ?_
  exact fd_ret_i hx hb hr hlocks hS hP hD rfl (rfl) ndD_begin_56
set_option maxHeartbeats 4000000 in
set_option maxRecDepth 100000 in
theorem kD_nextSort (l : Launch) (D : va_G) (Z : Nat → Nat) (cI cL : ClassId) {b0 b1 b2 b3 b4 n kd k od wn ok : Nat} {g go : Nat → Int32} {rn gn : Nat → Int64} {cf : Int32} (hn : n ≤ 400) (hkd : kd ≤ 15) (hk : k ≤ 20) (hwn : wn ≤ 123) (hod : od ≤ 15) (hok : ok ≤ 20)  : fd_Mi l D fd_cl (fd_ty cI cL) (fd_EV Z) nyD_nextSort (.code nyD_nextSort ncD_nextSort 1 (some .int) :: fd_TB) nmD_nextSort [.ref b0] [(b0, .inr (3, [.ref b1, .int (nI n), .int (nI kd), .int (nI k), .ref b2, .int (nI od), .int cf, .int (nI wn), .ref b3, .int (nI ok), .ref b4])), (b1, .inl (cI, 400, .inl g)), (b2, .inl (cL, 24, .inr (.inl rn))), (b3, .inl (cI, 200, .inl go)), (b4, .inl (cL, 24, .inr (.inl gn)))] [(b0, .inr (3, [.ref b1, .int (nI n), .int (nI kd), .int (nI k), .ref b2, .int (nI od), .int cf, .int (nI wn), .ref b3, .int (nI ok), .ref b4])), (b1, .inl (cI, 400, .inl g)), (b2, .inl (cL, 24, .inr (.inl rn))), (b3, .inl (cI, 200, .inl go)), (b4, .inl (cL, 24, .inr (.inl gn)))] (fd_due od ok gn) := by
  refine fd_open_i (cc := ncD_nextSort) (maxL := 1) (ret := (some .int)) (by decide) rfl (Nat.le_of_ble_eq_true rfl) ?_
  intro p e s m below meth c A ls X hP hD hS hl
  obtain ⟨hx, hb, hr, hml, hown, hts0, hlocks, hK, hEV, hA⟩ := X
  have hts : ∀ w ∈ fd_TB, w.before _ s = true := fun w h => hts0 w (List.mem_cons_of_mem _ h)
  have hE := fd_EV_ok Z
  have hown : s.vm.findClass "FieldDeskModel" = some m.cls := hown
  have hl : lv_has ls 1 [(0, .ref b0)] := hl
  refine lv_aload_n hx hb ndD_nextSort_0 rfl (lv_at hl 0 rfl) ?_
  refine va_get (D := D) (ci := 3) (v := .int (nI od)) (C := nR_D) (T := nT_D) (N := 11) hx hb hts in_D hown hK hP 0 rfl rfl 5 (by decide) (hts _ tb_253) (fun _ h9 => h9) rfl ndD_nextSort_1 ?_
  refine lv_if_ne (tgt := 11) hx hb ndD_nextSort_4 (by decide) (fun c_4 => ?_) (fun c_4 => ?_)
  · have n_4 := mt (nI_eq (a := od) (b := 0) (by omega) (by omega)).mpr c_4
    refine lv_aload_n hx hb ndD_nextSort_11 rfl (lv_at hl 0 rfl) ?_
    refine va_get (D := D) (ci := 3) (v := .int (nI od)) (C := nR_D) (T := nT_D) (N := 11) hx hb hts in_D hown hK hP 0 rfl rfl 5 (by decide) (hts _ tb_253) (fun _ h9 => h9) rfl ndD_nextSort_12 ?_
    refine lv_aload_n hx hb ndD_nextSort_15 rfl (lv_at hl 0 rfl) ?_
    refine va_get (D := D) (ci := 3) (v := .int (nI ok)) (C := nR_D) (T := nT_D) (N := 11) hx hb hts in_D hown hK hP 0 rfl rfl 9 (by decide) (hts _ tb_257) (fun _ h9 => h9) rfl ndD_nextSort_16 ?_
    refine lv_aload_n hx hb ndD_nextSort_19 rfl (lv_at hl 0 rfl) ?_
    refine va_get (D := D) (ci := 3) (v := .ref b4) (C := nR_D) (T := nT_D) (N := 11) hx hb hts in_D hown hK hP 0 rfl rfl 10 (by decide) (hts _ tb_258) (fun _ h9 => h9) rfl ndD_nextSort_20 ?_
    refine lv_iconst (v := 3) hx hb ndD_nextSort_23 (by decide) ?_
    refine fd_asi (y := nI 3) rfl ?_
    refine fd_lald hx hb hK hP 4 1 (k := 3) rfl rfl (by omega) (by omega) ndD_nextSort_24 ?_
    refine fd_go_i (wr := [(b0, .inr (3, [.ref b1, .int (nI n), .int (nI kd), .int (nI k), .ref b2, .int (nI od), .int cf, .int (nI wn), .ref b3, .int (nI ok), .ref b4])), (b1, .inl (cI, 400, .inl g)), (b2, .inl (cL, 24, .inr (.inl rn))), (b3, .inl (cI, 200, .inl go)), (b4, .inl (cL, 24, .inr (.inl gn)))]) (w2 := [(b0, .inr (3, [.ref b1, .int (nI n), .int (nI kd), .int (nI k), .ref b2, .int (nI od), .int cf, .int (nI wn), .ref b3, .int (nI ok), .ref b4])), (b1, .inl (cI, 400, .inl g)), (b2, .inl (cL, 24, .inr (.inl rn))), (b3, .inl (cI, 200, .inl go)), (b4, .inl (cL, 24, .inr (.inl gn)))]) (va_runS (As := [.int (nI od), .int (nI ok), .long (gn 3)]) (rest := []) ⟨hx, hb, hml, hown, hts⟩ (kD_sortOf l D Z cI cL (kd := od) (j := ok) (by omega) (by omega) (by omega) (gn 3) s.heap.size) (va_cwS 3 hts (fd_gS tb_303 tb_304 tb_16 tb_305) rfl rfl rfl nhD_sortOf.2 ⟨(Nat.le_of_ble_eq_true rfl), (Nat.le_of_ble_eq_true rfl)⟩) (fd_PreS hE hK hEV hA hP hD hS [] rfl (by decide)) rfl rfl hl.1 rfl (lv_room (Nat.le_of_ble_eq_true rfl)) ndD_nextSort_25 ⟨(Nat.le_of_ble_eq_true rfl), (Nat.le_of_ble_eq_true rfl)⟩) hP hD hS hA [] [0, 1, 2, 3, 4] rfl rfl (by decide) (by decide) [0, 1, 2, 3, 4] rfl (by decide) (fun H locs hP hD hS => ?_)
    refine fd_asi (y := fd_due od ok gn) rfl ?_
    exact fd_ret_i hx hb hr hlocks hS hP hD rfl (rfl) ndD_nextSort_28
  · have n_4 := (nI_eq (a := od) (b := 0) (by omega) (by omega)).mp c_4
    refine lv_iconst (v := 0) hx hb ndD_nextSort_7 (by decide) ?_
    refine lv_goto (tgt := 28) hx hb ndD_nextSort_8 (by decide) ?_
    exact fd_ret_i hx hb hr hlocks hS hP hD rfl (by rw [fd_due, if_pos (by omega)]) ndD_nextSort_28
set_option maxHeartbeats 4000000 in
set_option maxRecDepth 100000 in
theorem kD_end_no (l : Launch) (D : va_G) (Z : Nat → Nat) (cI cL : ClassId) {b0 b1 b2 b3 b4 n kd k od wn ok : Nat} {g go : Nat → Int32} {rn gn : Nat → Int64} {cf : Int32} (hn : n ≤ 400) (hkd : kd ≤ 15) (hk : k ≤ 20) (hwn : wn ≤ 123) (hod : od ≤ 15) (hok : ok ≤ 20) (hno : od = 0 ∨ ¬ cf = 0 ∨ ¬ fd_due od ok gn = 0) : fd_Mi l D fd_cl (fd_ty cI cL) (fd_EV Z) nyD_end (.code nyD_end ncD_end 3 (some .int) :: fd_TB) nmD_end [.ref b0] [(b0, .inr (3, [.ref b1, .int (nI n), .int (nI kd), .int (nI k), .ref b2, .int (nI od), .int cf, .int (nI wn), .ref b3, .int (nI ok), .ref b4])), (b1, .inl (cI, 400, .inl g)), (b2, .inl (cL, 24, .inr (.inl rn))), (b3, .inl (cI, 200, .inl go)), (b4, .inl (cL, 24, .inr (.inl gn)))] [(b0, .inr (3, [.ref b1, .int (nI n), .int (nI kd), .int (nI k), .ref b2, .int (nI od), .int cf, .int (nI wn), .ref b3, .int (nI ok), .ref b4])), (b1, .inl (cI, 400, .inl g)), (b2, .inl (cL, 24, .inr (.inl rn))), (b3, .inl (cI, 200, .inl go)), (b4, .inl (cL, 24, .inr (.inl gn)))] (-1) := by
  refine fd_open_i (cc := ncD_end) (maxL := 3) (ret := (some .int)) (by decide) rfl (Nat.le_of_ble_eq_true rfl) ?_
  intro p e s m below meth c A ls X hP hD hS hl
  obtain ⟨hx, hb, hr, hml, hown, hts0, hlocks, hK, hEV, hA⟩ := X
  have hts : ∀ w ∈ fd_TB, w.before _ s = true := fun w h => hts0 w (List.mem_cons_of_mem _ h)
  have hE := fd_EV_ok Z
  have hown : s.vm.findClass "FieldDeskModel" = some m.cls := hown
  have hl : lv_has ls 3 [(0, .ref b0)] := hl
  refine lv_aload_n hx hb ndD_end_0 rfl (lv_at hl 0 rfl) ?_
  refine va_get (D := D) (ci := 3) (v := .int (nI od)) (C := nR_D) (T := nT_D) (N := 11) hx hb hts in_D hown hK hP 0 rfl rfl 5 (by decide) (hts _ tb_253) (fun _ h9 => h9) rfl ndD_end_1 ?_
  refine lv_if_eq (tgt := 21) hx hb ndD_end_4 (by decide) (fun c_4 => ?_) (fun c_4 => ?_)
  · have n_4 := (nI_eq (a := od) (b := 0) (by omega) (by omega)).mp c_4
    refine lv_iconst (v := (-1)) hx hb ndD_end_21 (by decide) ?_
    exact fd_ret_i hx hb hr hlocks hS hP hD rfl (rfl) ndD_end_22
  · have n_4 := mt (nI_eq (a := od) (b := 0) (by omega) (by omega)).mpr c_4
    refine lv_aload_n hx hb ndD_end_7 rfl (lv_at hl 0 rfl) ?_
    refine va_get (D := D) (ci := 3) (v := .int cf) (C := nR_D) (T := nT_D) (N := 11) hx hb hts in_D hown hK hP 0 rfl rfl 6 (by decide) (hts _ tb_254) (fun _ h9 => h9) rfl ndD_end_8 ?_
    refine lv_if_ne (tgt := 21) hx hb ndD_end_11 (by decide) (fun c_11 => ?_) (fun c_11 => ?_)
    · refine lv_iconst (v := (-1)) hx hb ndD_end_21 (by decide) ?_
      exact fd_ret_i hx hb hr hlocks hS hP hD rfl (rfl) ndD_end_22
    · refine lv_aload_n hx hb ndD_end_14 rfl (lv_at hl 0 rfl) ?_
      refine fd_go_i (wr := []) (w2 := [(b0, .inr (3, [.ref b1, .int (nI n), .int (nI kd), .int (nI k), .ref b2, .int (nI od), .int cf, .int (nI wn), .ref b3, .int (nI ok), .ref b4])), (b1, .inl (cI, 400, .inl g)), (b2, .inl (cL, 24, .inr (.inl rn))), (b3, .inl (cI, 200, .inl go)), (b4, .inl (cL, 24, .inr (.inl gn)))]) (va_runV (As := []) (rest := []) ⟨hx, hb, hml, hown, hts⟩ (kD_nextSort l D Z cI cL (n := n) (g := g) (kd := kd) (k := k) (rn := rn) (od := od) (cf := cf) (wn := wn) (go := go) (ok := ok) (gn := gn) (by omega) (by omega) (by omega) (by omega) (by omega) (by omega)  s.heap.size) (cwV 0 hts (fd_gV tb_331 tb_332 tb_11 tb_16 tb_333) rfl rfl rfl nhD_nextSort ⟨(Nat.le_of_ble_eq_true rfl), (Nat.le_of_ble_eq_true rfl)⟩) (fd_PreV hE hK hEV hA hP hD hS [0, 1, 2, 3, 4] rfl (by decide) (ci := 3) (q0 := 0) rfl rfl) rfl rfl hl.1 rfl (lv_room (Nat.le_of_ble_eq_true rfl)) ndD_end_15 ⟨(Nat.le_of_ble_eq_true rfl), (Nat.le_of_ble_eq_true rfl)⟩) hP hD hS hA [0, 1, 2, 3, 4] [] rfl rfl (by decide) (by decide) [0, 1, 2, 3, 4] rfl (by decide) (fun H locs hP hD hS => ?_)
      refine lv_if_eq (tgt := 23) hx hb ndD_end_18 (by decide) (fun c_18 => absurd c_18 (fun h9 => hno.elim (fun h => n_4 h) (fun h => h.elim (fun h => absurd c_11 h) (fun h => h h9)))) (fun _ => ?_)
      refine lv_iconst (v := (-1)) hx hb ndD_end_21 (by decide) ?_
      exact fd_ret_i hx hb hr hlocks hS hP hD rfl (rfl) ndD_end_22
set_option maxHeartbeats 4000000 in
set_option maxRecDepth 100000 in
theorem kD_end_yes (l : Launch) (D : va_G) (Z : Nat → Nat) (cI cL : ClassId) {b0 b1 b2 b3 b4 n kd k od wn ok : Nat} {g go : Nat → Int32} {rn gn : Nat → Int64} {cf : Int32} (hn : n ≤ 400) (hkd : kd ≤ 15) (hk : k ≤ 20) (hwn : wn ≤ 123) (hod : od ≤ 15) (hok : ok ≤ 20) (h1 : ¬ od = 0) (h2 : cf = 0) (h3 : fd_due od ok gn = 0) (hw : wn + 2 ≤ 123) (hsg : ∀ i, i < wn → fd_sg (go i)) : fd_Mi l D fd_cl (fd_ty cI cL) (fd_EV Z) nyD_end (.code nyD_end ncD_end 3 (some .int) :: fd_TB) nmD_end [.ref b0] [(b0, .inr (3, [.ref b1, .int (nI n), .int (nI kd), .int (nI k), .ref b2, .int (nI od), .int cf, .int (nI wn), .ref b3, .int (nI ok), .ref b4])), (b1, .inl (cI, 400, .inl g)), (b2, .inl (cL, 24, .inr (.inl rn))), (b3, .inl (cI, 200, .inl go)), (b4, .inl (cL, 24, .inr (.inl gn)))] [(b0, .inr (3, [.ref b1, .int (nI n), .int (nI kd), .int (nI k), .ref b2, .int (nI od), .int 1, .int (nI (wn + 1 + 1)), .ref b3, .int (nI ok), .ref b4])), (b1, .inl (cI, 400, .inl g)), (b2, .inl (cL, 24, .inr (.inl rn))), (b3, .inl (cI, 200, .inl (fd_ew go wn))), (b4, .inl (cL, 24, .inr (.inl gn)))] (nI (wn + 1 + 1)) := by
  refine fd_open_i (cc := ncD_end) (maxL := 3) (ret := (some .int)) (by decide) rfl (Nat.le_of_ble_eq_true rfl) ?_
  intro p e s m below meth c A ls X hP hD hS hl
  obtain ⟨hx, hb, hr, hml, hown, hts0, hlocks, hK, hEV, hA⟩ := X
  have hts : ∀ w ∈ fd_TB, w.before _ s = true := fun w h => hts0 w (List.mem_cons_of_mem _ h)
  have hE := fd_EV_ok Z
  have hown : s.vm.findClass "FieldDeskModel" = some m.cls := hown
  have hl : lv_has ls 3 [(0, .ref b0)] := hl
  refine lv_aload_n hx hb ndD_end_0 rfl (lv_at hl 0 rfl) ?_
  refine va_get (D := D) (ci := 3) (v := .int (nI od)) (C := nR_D) (T := nT_D) (N := 11) hx hb hts in_D hown hK hP 0 rfl rfl 5 (by decide) (hts _ tb_253) (fun _ h9 => h9) rfl ndD_end_1 ?_
  refine lv_if_eq (tgt := 21) hx hb ndD_end_4 (by decide) (fun c_4 => absurd c_4 (fun h9 => absurd ((nI_eq (a := od) (b := 0) (by omega) (by omega)).mp h9) (by omega))) (fun _ => ?_)
  refine lv_aload_n hx hb ndD_end_7 rfl (lv_at hl 0 rfl) ?_
  refine va_get (D := D) (ci := 3) (v := .int cf) (C := nR_D) (T := nT_D) (N := 11) hx hb hts in_D hown hK hP 0 rfl rfl 6 (by decide) (hts _ tb_254) (fun _ h9 => h9) rfl ndD_end_8 ?_
  refine lv_if_ne (tgt := 21) hx hb ndD_end_11 (by decide) (fun c_11 => absurd h2 c_11) (fun _ => ?_)
  refine lv_aload_n hx hb ndD_end_14 rfl (lv_at hl 0 rfl) ?_
  refine fd_go_i (wr := []) (w2 := [(b0, .inr (3, [.ref b1, .int (nI n), .int (nI kd), .int (nI k), .ref b2, .int (nI od), .int cf, .int (nI wn), .ref b3, .int (nI ok), .ref b4])), (b1, .inl (cI, 400, .inl g)), (b2, .inl (cL, 24, .inr (.inl rn))), (b3, .inl (cI, 200, .inl go)), (b4, .inl (cL, 24, .inr (.inl gn)))]) (va_runV (As := []) (rest := []) ⟨hx, hb, hml, hown, hts⟩ (kD_nextSort l D Z cI cL (n := n) (g := g) (kd := kd) (k := k) (rn := rn) (od := od) (cf := cf) (wn := wn) (go := go) (ok := ok) (gn := gn) (by omega) (by omega) (by omega) (by omega) (by omega) (by omega)  s.heap.size) (cwV 0 hts (fd_gV tb_331 tb_332 tb_11 tb_16 tb_333) rfl rfl rfl nhD_nextSort ⟨(Nat.le_of_ble_eq_true rfl), (Nat.le_of_ble_eq_true rfl)⟩) (fd_PreV hE hK hEV hA hP hD hS [0, 1, 2, 3, 4] rfl (by decide) (ci := 3) (q0 := 0) rfl rfl) rfl rfl hl.1 rfl (lv_room (Nat.le_of_ble_eq_true rfl)) ndD_end_15 ⟨(Nat.le_of_ble_eq_true rfl), (Nat.le_of_ble_eq_true rfl)⟩) hP hD hS hA [0, 1, 2, 3, 4] [] rfl rfl (by decide) (by decide) [0, 1, 2, 3, 4] rfl (by decide) (fun H locs hP hD hS => ?_)
  refine lv_if_eq (tgt := 23) hx hb ndD_end_18 (by decide) (fun _ => ?_) (fun c_18 => absurd h3 c_18)
  refine lv_iconst (v := 0) hx hb ndD_end_23 (by decide) ?_
  refine lv_istore_n (lv' := [(1, .int 0), (0, .ref b0)]) hx hb ndD_end_24 rfl hl (by decide) rfl (fun ls hl => ?_)
  refine lv_iconst (v := 0) hx hb ndD_end_25 (by decide) ?_
  refine lv_istore_n (lv' := [(2, .int 0), (1, .int 0), (0, .ref b0)]) hx hb ndD_end_26 rfl hl (by decide) rfl (fun ls hl => ?_)
  have loop : ∀ (z : Nat) (i : Nat) (hi : i + z = wn) (H : Heap) (locs : List Loc) (ls : Array Slot), va_P D fd_cl [(b0, .inr (3, [.ref b1, .int (nI n), .int (nI kd), .int (nI k), .ref b2, .int (nI od), .int cf, .int (nI wn), .ref b3, .int (nI ok), .ref b4])), (b1, .inl (cI, 400, .inl g)), (b2, .inl (cL, 24, .inr (.inl rn))), (b3, .inl (cI, 200, .inl go)), (b4, .inl (cL, 24, .inr (.inl gn)))] H → va_D A [(b0, .inr (3, [.ref b1, .int (nI n), .int (nI kd), .int (nI k), .ref b2, .int (nI od), .int cf, .int (nI wn), .ref b3, .int (nI ok), .ref b4])), (b1, .inl (cI, 400, .inl g)), (b2, .inl (cL, 24, .inr (.inl rn))), (b3, .inl (cI, 200, .inl go)), (b4, .inl (cL, 24, .inr (.inl gn)))] → va_S A s.heap H locs → lv_has ls 3 [(0, .ref b0), (1, .int (fd_rem go i)), (2, .int (nI i))] → W p l e nmD_end s m ([.ref b0].toArray) below meth c H locs 0 0 (MQ below (va_Qi (fun r' (_ : Unit) => r' = (nI (wn + 1 + 1))) (fd_B D fd_cl A [(b0, .inr (3, [.ref b1, .int (nI n), .int (nI kd), .int (nI k), .ref b2, .int (nI od), .int 1, .int (nI (wn + 1 + 1)), .ref b3, .int (nI ok), .ref b4])), (b1, .inl (cI, 400, .inl g)), (b2, .inl (cL, 24, .inr (.inl rn))), (b3, .inl (cI, 200, .inl (fd_ew go wn))), (b4, .inl (cL, 24, .inr (.inl gn)))]) A) [.ref b0].toArray s 0 0 A) (F0 m 27 ls []) := by
    intro z
    induction z with
    | zero =>
      intro i hi H locs ls hP hD hS hl
      have e9 : wn = i := by omega
      subst e9
      refine lv_iload_n hx hb ndD_end_27 rfl (lv_at hl 2 rfl) ?_
      refine lv_aload_n hx hb ndD_end_28 rfl (lv_at hl 0 rfl) ?_
      refine va_get (D := D) (ci := 3) (v := .int (nI wn)) (C := nR_D) (T := nT_D) (N := 11) hx hb hts in_D hown hK hP 0 rfl rfl 7 (by decide) (hts _ tb_255) (fun _ h9 => h9) rfl ndD_end_29 ?_
      refine lv_icmp_ge (tgt := 52) hx hb ndD_end_32 (by decide) (fun _ => ?_) (fun c_32 => absurd ((nI_leI (a := wn) (b := wn) (by omega) (by omega)).mpr (by omega)) c_32)
      refine lv_bipush (v := 98) hx hb ndD_end_52 (by decide) ?_
      refine lv_iload_n hx hb ndD_end_54 rfl (lv_at hl 1 rfl) ?_
      refine lv_bipush (v := 100) hx hb ndD_end_55 (by decide) ?_
      refine lv_imul hx hb ndD_end_57 ?_
      refine lv_bipush (v := 97) hx hb ndD_end_58 (by decide) ?_
      refine lv_irem hx hb ndD_end_60 (by decide) ?_
      refine lv_isub hx hb ndD_end_61 ?_
      refine fd_asi (y := fd_ck (fd_rem go wn)) rfl ?_
      refine lv_istore_n (lv' := [(2, .int (fd_ck (fd_rem go wn))), (0, .ref b0), (1, .int (fd_rem go wn))]) hx hb ndD_end_62 rfl hl (by decide) rfl (fun ls hl => ?_)
      refine lv_aload_n hx hb ndD_end_63 rfl (lv_at hl 1 rfl) ?_
      refine lv_bipush (v := 48) hx hb ndD_end_64 (by decide) ?_
      refine lv_iload_n hx hb ndD_end_66 rfl (lv_at hl 0 rfl) ?_
      refine lv_bipush (v := 10) hx hb ndD_end_67 (by decide) ?_
      refine lv_idiv hx hb ndD_end_69 (by decide) ?_
      refine lv_iadd hx hb ndD_end_70 ?_
      refine fd_go_v (wr := []) (w2 := [(b0, .inr (3, [.ref b1, .int (nI n), .int (nI kd), .int (nI k), .ref b2, .int (nI od), .int cf, .int (nI (wn + 1)), .ref b3, .int (nI ok), .ref b4])), (b1, .inl (cI, 400, .inl g)), (b2, .inl (cL, 24, .inr (.inl rn))), (b3, .inl (cI, 200, .inl (upd go wn (48 + ((fd_ck (fd_rem go wn)) / 10))))), (b4, .inl (cL, 24, .inr (.inl gn)))]) (va_runV (As := [.int (48 + ((fd_ck (fd_rem go wn)) / 10))]) (rest := []) ⟨hx, hb, hml, hown, hts⟩ (kD_lay l D Z cI cL (n := n) (g := g) (kd := kd) (k := k) (rn := rn) (od := od) (cf := cf) (wn := wn) (go := go) (ok := ok) (gn := gn) (by omega) (by omega) (by omega) (by omega) (by omega) (by omega) (48 + ((fd_ck (fd_rem go wn)) / 10)) H.size) (cwV 1 hts (fd_gV tb_324 tb_325 tb_10 tb_16 tb_326) rfl rfl rfl nhD_lay ⟨(Nat.le_of_ble_eq_true rfl), (Nat.le_of_ble_eq_true rfl)⟩) (fd_PreV hE hK hEV hA hP hD hS [0, 1, 2, 3, 4] rfl (by decide) (ci := 3) (q0 := 0) rfl rfl) rfl rfl hl.1 rfl (lv_room (Nat.le_of_ble_eq_true rfl)) ndD_end_71 ⟨(Nat.le_of_ble_eq_true rfl), (Nat.le_of_ble_eq_true rfl)⟩) hP hD hS hA [0, 1, 2, 3, 4] [] rfl rfl (by decide) (by decide) [0, 1, 2, 3, 4] rfl (by decide) (fun H locs hP hD hS => ?_)
      refine lv_aload_n hx hb ndD_end_74 rfl (lv_at hl 1 rfl) ?_
      refine lv_bipush (v := 48) hx hb ndD_end_75 (by decide) ?_
      refine lv_iload_n hx hb ndD_end_77 rfl (lv_at hl 0 rfl) ?_
      refine lv_bipush (v := 10) hx hb ndD_end_78 (by decide) ?_
      refine lv_irem hx hb ndD_end_80 (by decide) ?_
      refine lv_iadd hx hb ndD_end_81 ?_
      refine fd_go_v (wr := []) (w2 := [(b0, .inr (3, [.ref b1, .int (nI n), .int (nI kd), .int (nI k), .ref b2, .int (nI od), .int cf, .int (nI ((wn + 1) + 1)), .ref b3, .int (nI ok), .ref b4])), (b1, .inl (cI, 400, .inl g)), (b2, .inl (cL, 24, .inr (.inl rn))), (b3, .inl (cI, 200, .inl (upd (upd go wn (48 + ((fd_ck (fd_rem go wn)) / 10))) ((wn + 1)) (48 + ((fd_ck (fd_rem go wn)) - (fd_ck (fd_rem go wn)) / 10 * 10))))), (b4, .inl (cL, 24, .inr (.inl gn)))]) (va_runV (As := [.int (48 + ((fd_ck (fd_rem go wn)) - (fd_ck (fd_rem go wn)) / 10 * 10))]) (rest := []) ⟨hx, hb, hml, hown, hts⟩ (kD_lay l D Z cI cL (n := n) (g := g) (kd := kd) (k := k) (rn := rn) (od := od) (cf := cf) (wn := (wn + 1)) (go := upd go wn (48 + ((fd_ck (fd_rem go wn)) / 10))) (ok := ok) (gn := gn) (by omega) (by omega) (by omega) (by omega) (by omega) (by omega) (48 + ((fd_ck (fd_rem go wn)) - (fd_ck (fd_rem go wn)) / 10 * 10)) H.size) (cwV 1 hts (fd_gV tb_324 tb_325 tb_10 tb_16 tb_326) rfl rfl rfl nhD_lay ⟨(Nat.le_of_ble_eq_true rfl), (Nat.le_of_ble_eq_true rfl)⟩) (fd_PreV hE hK hEV hA hP hD hS [0, 1, 2, 3, 4] rfl (by decide) (ci := 3) (q0 := 0) rfl rfl) rfl rfl hl.1 rfl (lv_room (Nat.le_of_ble_eq_true rfl)) ndD_end_82 ⟨(Nat.le_of_ble_eq_true rfl), (Nat.le_of_ble_eq_true rfl)⟩) hP hD hS hA [0, 1, 2, 3, 4] [] rfl rfl (by decide) (by decide) [0, 1, 2, 3, 4] rfl (by decide) (fun H locs hP hD hS => ?_)
      refine lv_aload_n hx hb ndD_end_85 rfl (lv_at hl 1 rfl) ?_
      refine lv_iconst (v := 1) hx hb ndD_end_86 (by decide) ?_
      refine va_put (D := D) (ci := 3) (v := .int 1) (ty := (.boolean)) (C := nR_D) (T := nT_D) (N := 11) hx hb hts in_D nt_D nt_D_ok nn_D hown hK hP hD hS 0 rfl rfl 6 (by decide) (hts _ tb_254) (fun _ h9 => h9) rfl (by decide +kernel) rfl rfl (Nat.le_of_ble_eq_true rfl) ndD_end_87 (fun H locs hP hD hS => ?_)
      have hP : va_P D fd_cl [(b0, .inr (3, [.ref b1, .int (nI n), .int (nI kd), .int (nI k), .ref b2, .int (nI od), .int 1, .int (nI ((wn + 1) + 1)), .ref b3, .int (nI ok), .ref b4])), (b1, .inl (cI, 400, .inl g)), (b2, .inl (cL, 24, .inr (.inl rn))), (b3, .inl (cI, 200, .inl (upd (upd go wn (48 + ((fd_ck (fd_rem go wn)) / 10))) ((wn + 1)) (48 + ((fd_ck (fd_rem go wn)) - (fd_ck (fd_rem go wn)) / 10 * 10))))), (b4, .inl (cL, 24, .inr (.inl gn)))] H := hP
      have hD : va_D A [(b0, .inr (3, [.ref b1, .int (nI n), .int (nI kd), .int (nI k), .ref b2, .int (nI od), .int 1, .int (nI ((wn + 1) + 1)), .ref b3, .int (nI ok), .ref b4])), (b1, .inl (cI, 400, .inl g)), (b2, .inl (cL, 24, .inr (.inl rn))), (b3, .inl (cI, 200, .inl (upd (upd go wn (48 + ((fd_ck (fd_rem go wn)) / 10))) ((wn + 1)) (48 + ((fd_ck (fd_rem go wn)) - (fd_ck (fd_rem go wn)) / 10 * 10))))), (b4, .inl (cL, 24, .inr (.inl gn)))] := hD
      refine lv_aload_n hx hb ndD_end_90 rfl (lv_at hl 1 rfl) ?_
      refine va_get (D := D) (ci := 3) (v := .int (nI ((wn + 1) + 1))) (C := nR_D) (T := nT_D) (N := 11) hx hb hts in_D hown hK hP 0 rfl rfl 7 (by decide) (hts _ tb_255) (fun _ h9 => h9) rfl ndD_end_91 ?_
      exact fd_ret_i hx hb hr hlocks hS hP hD rfl (rfl) ndD_end_94
    | succ z ih =>
      intro i hi H locs ls hP hD hS hl
      refine lv_iload_n hx hb ndD_end_27 rfl (lv_at hl 2 rfl) ?_
      refine lv_aload_n hx hb ndD_end_28 rfl (lv_at hl 0 rfl) ?_
      refine va_get (D := D) (ci := 3) (v := .int (nI wn)) (C := nR_D) (T := nT_D) (N := 11) hx hb hts in_D hown hK hP 0 rfl rfl 7 (by decide) (hts _ tb_255) (fun _ h9 => h9) rfl ndD_end_29 ?_
      refine lv_icmp_ge (tgt := 52) hx hb ndD_end_32 (by decide) (fun c_32 => absurd c_32 (fun h9 => absurd ((nI_leI (a := wn) (b := i) (by omega) (by omega)).mp h9) (by omega))) (fun _ => ?_)
      refine lv_iload_n hx hb ndD_end_35 rfl (lv_at hl 1 rfl) ?_
      refine lv_aload_n hx hb ndD_end_36 rfl (lv_at hl 0 rfl) ?_
      refine va_get (D := D) (ci := 3) (v := .ref b3) (C := nR_D) (T := nT_D) (N := 11) hx hb hts in_D hown hK hP 0 rfl rfl 8 (by decide) (hts _ tb_256) (fun _ h9 => h9) rfl ndD_end_37 ?_
      refine lv_iload_n hx hb ndD_end_40 rfl (lv_at hl 2 rfl) ?_
      refine fd_iald hx hb hK hP 3 0 (k := i) rfl rfl (by omega) (by omega) ndD_end_41 ?_
      refine fd_go_i (wr := [(b0, .inr (3, [.ref b1, .int (nI n), .int (nI kd), .int (nI k), .ref b2, .int (nI od), .int cf, .int (nI wn), .ref b3, .int (nI ok), .ref b4])), (b1, .inl (cI, 400, .inl g)), (b2, .inl (cL, 24, .inr (.inl rn))), (b3, .inl (cI, 200, .inl go)), (b4, .inl (cL, 24, .inr (.inl gn)))]) (w2 := [(b0, .inr (3, [.ref b1, .int (nI n), .int (nI kd), .int (nI k), .ref b2, .int (nI od), .int cf, .int (nI wn), .ref b3, .int (nI ok), .ref b4])), (b1, .inl (cI, 400, .inl g)), (b2, .inl (cL, 24, .inr (.inl rn))), (b3, .inl (cI, 200, .inl go)), (b4, .inl (cL, 24, .inr (.inl gn)))]) (va_runS (As := [.int (fd_rem go i), .int (go i)]) (rest := []) ⟨hx, hb, hml, hown, hts⟩ (kD_step l D Z cI cL (fd_rem go i) (go i) H.size) (va_cwS 2 hts (fd_gS tb_288 tb_289 tb_16 tb_290) rfl rfl rfl nhD_step.2 ⟨(Nat.le_of_ble_eq_true rfl), (Nat.le_of_ble_eq_true rfl)⟩) (fd_PreS hE hK hEV hA hP hD hS [] rfl (by decide)) rfl rfl hl.1 rfl (lv_room (Nat.le_of_ble_eq_true rfl)) ndD_end_42 ⟨(Nat.le_of_ble_eq_true rfl), (Nat.le_of_ble_eq_true rfl)⟩) hP hD hS hA [] [0, 1, 2, 3, 4] rfl rfl (by decide) (by decide) [0, 1, 2, 3, 4] rfl (by decide) (fun H locs hP hD hS => ?_)
      refine fd_asi (y := fd_rst (fd_rem go i) (fd_val (go i))) (fd_stp_eq (hsg i (by omega)) _) ?_
      refine lv_istore_n (lv' := [(1, .int (fd_rst (fd_rem go i) (fd_val (go i)))), (0, .ref b0), (2, .int (nI i))]) hx hb ndD_end_45 rfl hl (by decide) rfl (fun ls hl => ?_)
      refine lv_iinc (v := nI (i + 1)) (lv' := [(2, .int (nI (i + 1))), (1, .int (fd_rst (fd_rem go i) (fd_val (go i)))), (0, .ref b0)]) hx hb ndD_end_46 hl (k := 2) rfl (nI_1 i) (by decide) rfl (fun ls hl => ?_)
      refine lv_goto (tgt := 27) hx hb ndD_end_49 (by decide) ?_
      exact ih (i + 1) (by omega) _ _ _ hP hD hS (lv_sub hl [2, 1, 0] rfl)
  exact loop wn 0 (by omega) _ _ _ hP hD hS (lv_sub hl [2, 1, 0] rfl)
set_option maxHeartbeats 4000000 in
set_option maxRecDepth 100000 in
theorem kD_copy_no (l : Launch) (D : va_G) (Z : Nat → Nat) (cI cL : ClassId) {b0 b1 b2 b3 b4 n kd k od wn ok : Nat} {g go : Nat → Int32} {rn gn : Nat → Int64} {cf : Int32} (hn : n ≤ 400) (hkd : kd ≤ 15) (hk : k ≤ 20) (hwn : wn ≤ 123) (hod : od ≤ 15) (hok : ok ≤ 20) (hno : od = 0 ∨ 400 < n + wn) : fd_Mi l D fd_cl (fd_ty cI cL) (fd_EV Z) nyD_copy (.code nyD_copy ncD_copy 2 (some .boolean) :: fd_TB) nmD_copy [.ref b0] [(b0, .inr (3, [.ref b1, .int (nI n), .int (nI kd), .int (nI k), .ref b2, .int (nI od), .int cf, .int (nI wn), .ref b3, .int (nI ok), .ref b4])), (b1, .inl (cI, 400, .inl g)), (b2, .inl (cL, 24, .inr (.inl rn))), (b3, .inl (cI, 200, .inl go)), (b4, .inl (cL, 24, .inr (.inl gn)))] [(b0, .inr (3, [.ref b1, .int (nI n), .int (nI kd), .int (nI k), .ref b2, .int (nI od), .int cf, .int (nI wn), .ref b3, .int (nI ok), .ref b4])), (b1, .inl (cI, 400, .inl g)), (b2, .inl (cL, 24, .inr (.inl rn))), (b3, .inl (cI, 200, .inl go)), (b4, .inl (cL, 24, .inr (.inl gn)))] 0 := by
  refine fd_open_i (cc := ncD_copy) (maxL := 2) (ret := (some .boolean)) (by decide) rfl (Nat.le_of_ble_eq_true rfl) ?_
  intro p e s m below meth c A ls X hP hD hS hl
  obtain ⟨hx, hb, hr, hml, hown, hts0, hlocks, hK, hEV, hA⟩ := X
  have hts : ∀ w ∈ fd_TB, w.before _ s = true := fun w h => hts0 w (List.mem_cons_of_mem _ h)
  have hE := fd_EV_ok Z
  have hown : s.vm.findClass "FieldDeskModel" = some m.cls := hown
  have hl : lv_has ls 2 [(0, .ref b0)] := hl
  refine lv_aload_n hx hb ndD_copy_0 rfl (lv_at hl 0 rfl) ?_
  refine va_get (D := D) (ci := 3) (v := .int (nI od)) (C := nR_D) (T := nT_D) (N := 11) hx hb hts in_D hown hK hP 0 rfl rfl 5 (by decide) (hts _ tb_253) (fun _ h9 => h9) rfl ndD_copy_1 ?_
  refine lv_if_eq (tgt := 22) hx hb ndD_copy_4 (by decide) (fun c_4 => ?_) (fun c_4 => ?_)
  · have n_4 := (nI_eq (a := od) (b := 0) (by omega) (by omega)).mp c_4
    refine lv_iconst (v := 0) hx hb ndD_copy_22 (by decide) ?_
    exact fd_ret_i hx hb hr hlocks hS hP hD rfl (rfl) ndD_copy_23
  · have n_4 := mt (nI_eq (a := od) (b := 0) (by omega) (by omega)).mpr c_4
    refine lv_aload_n hx hb ndD_copy_7 rfl (lv_at hl 0 rfl) ?_
    refine va_get (D := D) (ci := 3) (v := .int (nI n)) (C := nR_D) (T := nT_D) (N := 11) hx hb hts in_D hown hK hP 0 rfl rfl 1 (by decide) (hts _ tb_249) (fun _ h9 => h9) rfl ndD_copy_8 ?_
    refine lv_aload_n hx hb ndD_copy_11 rfl (lv_at hl 0 rfl) ?_
    refine va_get (D := D) (ci := 3) (v := .int (nI wn)) (C := nR_D) (T := nT_D) (N := 11) hx hb hts in_D hown hK hP 0 rfl rfl 7 (by decide) (hts _ tb_255) (fun _ h9 => h9) rfl ndD_copy_12 ?_
    refine lv_iadd hx hb ndD_copy_15 ?_
    refine fd_asi (y := nI (n + wn)) (nI_add _ _) ?_
    refine lv_sipush (v := 400) hx hb ndD_copy_16 (by decide) ?_
    refine lv_icmp_le (tgt := 24) hx hb ndD_copy_19 (by decide) (fun c_19 => absurd c_19 (fun h9 => absurd ((nI_leI (a := (n + wn)) (b := 400) (by omega) (by omega)).mp h9) (by omega))) (fun _ => ?_)
    refine lv_iconst (v := 0) hx hb ndD_copy_22 (by decide) ?_
    exact fd_ret_i hx hb hr hlocks hS hP hD rfl (rfl) ndD_copy_23
set_option maxHeartbeats 4000000 in
set_option maxRecDepth 100000 in
theorem kD_copy_yes (l : Launch) (D : va_G) (Z : Nat → Nat) (cI cL : ClassId) {b0 b1 b2 b3 b4 n kd k od wn ok : Nat} {g go : Nat → Int32} {rn gn : Nat → Int64} {cf : Int32} (hn : n ≤ 400) (hkd : kd ≤ 15) (hk : k ≤ 20) (hwn : wn ≤ 123) (hod : od ≤ 15) (hok : ok ≤ 20) (h1 : ¬ od = 0) (hj : n + wn ≤ 400) : fd_Mi l D fd_cl (fd_ty cI cL) (fd_EV Z) nyD_copy (.code nyD_copy ncD_copy 2 (some .boolean) :: fd_TB) nmD_copy [.ref b0] [(b0, .inr (3, [.ref b1, .int (nI n), .int (nI kd), .int (nI k), .ref b2, .int (nI od), .int cf, .int (nI wn), .ref b3, .int (nI ok), .ref b4])), (b1, .inl (cI, 400, .inl g)), (b2, .inl (cL, 24, .inr (.inl rn))), (b3, .inl (cI, 200, .inl go)), (b4, .inl (cL, 24, .inr (.inl gn)))] [(b0, .inr (3, [.ref b1, .int (nI (n + wn)), .int (nI kd), .int (nI k), .ref b2, .int (nI od), .int cf, .int (nI wn), .ref b3, .int (nI ok), .ref b4])), (b1, .inl (cI, 400, .inl (fd_app g n go wn))), (b2, .inl (cL, 24, .inr (.inl rn))), (b3, .inl (cI, 200, .inl go)), (b4, .inl (cL, 24, .inr (.inl gn)))] 1 := by
  refine fd_open_i (cc := ncD_copy) (maxL := 2) (ret := (some .boolean)) (by decide) rfl (Nat.le_of_ble_eq_true rfl) ?_
  intro p e s m below meth c A ls X hP hD hS hl
  obtain ⟨hx, hb, hr, hml, hown, hts0, hlocks, hK, hEV, hA⟩ := X
  have hts : ∀ w ∈ fd_TB, w.before _ s = true := fun w h => hts0 w (List.mem_cons_of_mem _ h)
  have hE := fd_EV_ok Z
  have hown : s.vm.findClass "FieldDeskModel" = some m.cls := hown
  have hl : lv_has ls 2 [(0, .ref b0)] := hl
  refine lv_aload_n hx hb ndD_copy_0 rfl (lv_at hl 0 rfl) ?_
  refine va_get (D := D) (ci := 3) (v := .int (nI od)) (C := nR_D) (T := nT_D) (N := 11) hx hb hts in_D hown hK hP 0 rfl rfl 5 (by decide) (hts _ tb_253) (fun _ h9 => h9) rfl ndD_copy_1 ?_
  refine lv_if_eq (tgt := 22) hx hb ndD_copy_4 (by decide) (fun c_4 => absurd c_4 (fun h9 => absurd ((nI_eq (a := od) (b := 0) (by omega) (by omega)).mp h9) (by omega))) (fun _ => ?_)
  refine lv_aload_n hx hb ndD_copy_7 rfl (lv_at hl 0 rfl) ?_
  refine va_get (D := D) (ci := 3) (v := .int (nI n)) (C := nR_D) (T := nT_D) (N := 11) hx hb hts in_D hown hK hP 0 rfl rfl 1 (by decide) (hts _ tb_249) (fun _ h9 => h9) rfl ndD_copy_8 ?_
  refine lv_aload_n hx hb ndD_copy_11 rfl (lv_at hl 0 rfl) ?_
  refine va_get (D := D) (ci := 3) (v := .int (nI wn)) (C := nR_D) (T := nT_D) (N := 11) hx hb hts in_D hown hK hP 0 rfl rfl 7 (by decide) (hts _ tb_255) (fun _ h9 => h9) rfl ndD_copy_12 ?_
  refine lv_iadd hx hb ndD_copy_15 ?_
  refine fd_asi (y := nI (n + wn)) (nI_add _ _) ?_
  refine lv_sipush (v := 400) hx hb ndD_copy_16 (by decide) ?_
  refine lv_icmp_le (tgt := 24) hx hb ndD_copy_19 (by decide) (fun _ => ?_) (fun c_19 => absurd ((nI_leI (a := (n + wn)) (b := 400) (by omega) (by omega)).mpr (by omega)) c_19)
  refine lv_iconst (v := 0) hx hb ndD_copy_24 (by decide) ?_
  refine lv_istore_n (lv' := [(1, .int 0), (0, .ref b0)]) hx hb ndD_copy_25 rfl hl (by decide) rfl (fun ls hl => ?_)
  have loop : ∀ (z : Nat) (i : Nat) (hi : i + z = wn) (H : Heap) (locs : List Loc) (ls : Array Slot), va_P D fd_cl [(b0, .inr (3, [.ref b1, .int (nI n), .int (nI kd), .int (nI k), .ref b2, .int (nI od), .int cf, .int (nI wn), .ref b3, .int (nI ok), .ref b4])), (b1, .inl (cI, 400, .inl (fd_app g n go i))), (b2, .inl (cL, 24, .inr (.inl rn))), (b3, .inl (cI, 200, .inl go)), (b4, .inl (cL, 24, .inr (.inl gn)))] H → va_D A [(b0, .inr (3, [.ref b1, .int (nI n), .int (nI kd), .int (nI k), .ref b2, .int (nI od), .int cf, .int (nI wn), .ref b3, .int (nI ok), .ref b4])), (b1, .inl (cI, 400, .inl (fd_app g n go i))), (b2, .inl (cL, 24, .inr (.inl rn))), (b3, .inl (cI, 200, .inl go)), (b4, .inl (cL, 24, .inr (.inl gn)))] → va_S A s.heap H locs → lv_has ls 2 [(0, .ref b0), (1, .int (nI i))] → W p l e nmD_copy s m ([.ref b0].toArray) below meth c H locs 0 0 (MQ below (va_Qi (fun r' (_ : Unit) => r' = 1) (fd_B D fd_cl A [(b0, .inr (3, [.ref b1, .int (nI (n + wn)), .int (nI kd), .int (nI k), .ref b2, .int (nI od), .int cf, .int (nI wn), .ref b3, .int (nI ok), .ref b4])), (b1, .inl (cI, 400, .inl (fd_app g n go wn))), (b2, .inl (cL, 24, .inr (.inl rn))), (b3, .inl (cI, 200, .inl go)), (b4, .inl (cL, 24, .inr (.inl gn)))]) A) [.ref b0].toArray s 0 0 A) (F0 m 26 ls []) := by
    intro z
    induction z with
    | zero =>
      intro i hi H locs ls hP hD hS hl
      have e9 : wn = i := by omega
      subst e9
      refine lv_iload_n hx hb ndD_copy_26 rfl (lv_at hl 1 rfl) ?_
      refine lv_aload_n hx hb ndD_copy_27 rfl (lv_at hl 0 rfl) ?_
      refine va_get (D := D) (ci := 3) (v := .int (nI wn)) (C := nR_D) (T := nT_D) (N := 11) hx hb hts in_D hown hK hP 0 rfl rfl 7 (by decide) (hts _ tb_255) (fun _ h9 => h9) rfl ndD_copy_28 ?_
      refine lv_icmp_ge (tgt := 57) hx hb ndD_copy_31 (by decide) (fun _ => ?_) (fun c_31 => absurd ((nI_leI (a := wn) (b := wn) (by omega) (by omega)).mpr (by omega)) c_31)
      refine lv_aload_n hx hb ndD_copy_57 rfl (lv_at hl 0 rfl) ?_
      refine lv_aload_n hx hb ndD_copy_58 rfl (lv_at hl 0 rfl) ?_
      refine va_get (D := D) (ci := 3) (v := .int (nI n)) (C := nR_D) (T := nT_D) (N := 11) hx hb hts in_D hown hK hP 0 rfl rfl 1 (by decide) (hts _ tb_249) (fun _ h9 => h9) rfl ndD_copy_59 ?_
      refine lv_aload_n hx hb ndD_copy_62 rfl (lv_at hl 0 rfl) ?_
      refine va_get (D := D) (ci := 3) (v := .int (nI wn)) (C := nR_D) (T := nT_D) (N := 11) hx hb hts in_D hown hK hP 0 rfl rfl 7 (by decide) (hts _ tb_255) (fun _ h9 => h9) rfl ndD_copy_63 ?_
      refine lv_iadd hx hb ndD_copy_66 ?_
      refine fd_asi (y := nI (n + wn)) (nI_add _ _) ?_
      refine va_put (D := D) (ci := 3) (v := .int (nI (n + wn))) (ty := (.int)) (C := nR_D) (T := nT_D) (N := 11) hx hb hts in_D nt_D nt_D_ok nn_D hown hK hP hD hS 0 rfl rfl 1 (by decide) (hts _ tb_249) (fun _ h9 => h9) rfl (by decide +kernel) rfl rfl (Nat.le_of_ble_eq_true rfl) ndD_copy_67 (fun H locs hP hD hS => ?_)
      have hP : va_P D fd_cl [(b0, .inr (3, [.ref b1, .int (nI (n + wn)), .int (nI kd), .int (nI k), .ref b2, .int (nI od), .int cf, .int (nI wn), .ref b3, .int (nI ok), .ref b4])), (b1, .inl (cI, 400, .inl (fd_app g n go wn))), (b2, .inl (cL, 24, .inr (.inl rn))), (b3, .inl (cI, 200, .inl go)), (b4, .inl (cL, 24, .inr (.inl gn)))] H := hP
      have hD : va_D A [(b0, .inr (3, [.ref b1, .int (nI (n + wn)), .int (nI kd), .int (nI k), .ref b2, .int (nI od), .int cf, .int (nI wn), .ref b3, .int (nI ok), .ref b4])), (b1, .inl (cI, 400, .inl (fd_app g n go wn))), (b2, .inl (cL, 24, .inr (.inl rn))), (b3, .inl (cI, 200, .inl go)), (b4, .inl (cL, 24, .inr (.inl gn)))] := hD
      refine lv_iconst (v := 1) hx hb ndD_copy_70 (by decide) ?_
      exact fd_ret_i hx hb hr hlocks hS hP hD rfl (rfl) ndD_copy_71
    | succ z ih =>
      intro i hi H locs ls hP hD hS hl
      refine lv_iload_n hx hb ndD_copy_26 rfl (lv_at hl 1 rfl) ?_
      refine lv_aload_n hx hb ndD_copy_27 rfl (lv_at hl 0 rfl) ?_
      refine va_get (D := D) (ci := 3) (v := .int (nI wn)) (C := nR_D) (T := nT_D) (N := 11) hx hb hts in_D hown hK hP 0 rfl rfl 7 (by decide) (hts _ tb_255) (fun _ h9 => h9) rfl ndD_copy_28 ?_
      refine lv_icmp_ge (tgt := 57) hx hb ndD_copy_31 (by decide) (fun c_31 => absurd c_31 (fun h9 => absurd ((nI_leI (a := wn) (b := i) (by omega) (by omega)).mp h9) (by omega))) (fun _ => ?_)
      refine lv_aload_n hx hb ndD_copy_34 rfl (lv_at hl 0 rfl) ?_
      refine va_get (D := D) (ci := 3) (v := .ref b1) (C := nR_D) (T := nT_D) (N := 11) hx hb hts in_D hown hK hP 0 rfl rfl 0 (by decide) (hts _ tb_248) (fun _ h9 => h9) rfl ndD_copy_35 ?_
      refine lv_aload_n hx hb ndD_copy_38 rfl (lv_at hl 0 rfl) ?_
      refine va_get (D := D) (ci := 3) (v := .int (nI n)) (C := nR_D) (T := nT_D) (N := 11) hx hb hts in_D hown hK hP 0 rfl rfl 1 (by decide) (hts _ tb_249) (fun _ h9 => h9) rfl ndD_copy_39 ?_
      refine lv_iload_n hx hb ndD_copy_42 rfl (lv_at hl 1 rfl) ?_
      refine lv_iadd hx hb ndD_copy_43 ?_
      refine fd_asi (y := nI (n + i)) (nI_add _ _) ?_
      refine lv_aload_n hx hb ndD_copy_44 rfl (lv_at hl 0 rfl) ?_
      refine va_get (D := D) (ci := 3) (v := .ref b3) (C := nR_D) (T := nT_D) (N := 11) hx hb hts in_D hown hK hP 0 rfl rfl 8 (by decide) (hts _ tb_256) (fun _ h9 => h9) rfl ndD_copy_45 ?_
      refine lv_iload_n hx hb ndD_copy_48 rfl (lv_at hl 1 rfl) ?_
      refine fd_iald hx hb hK hP 3 0 (k := i) rfl rfl (by omega) (by omega) ndD_copy_49 ?_
      refine fd_iast hx hb hK hP hD hS 1 0 (k := (n + i)) rfl rfl (by omega) (by omega) ndD_copy_50 (fun H locs hP hD hS => ?_)
      have hP : va_P D fd_cl [(b0, .inr (3, [.ref b1, .int (nI n), .int (nI kd), .int (nI k), .ref b2, .int (nI od), .int cf, .int (nI wn), .ref b3, .int (nI ok), .ref b4])), (b1, .inl (cI, 400, .inl (upd (fd_app g n go i) (n + i) (go i)))), (b2, .inl (cL, 24, .inr (.inl rn))), (b3, .inl (cI, 200, .inl go)), (b4, .inl (cL, 24, .inr (.inl gn)))] H := hP
      have hD : va_D A [(b0, .inr (3, [.ref b1, .int (nI n), .int (nI kd), .int (nI k), .ref b2, .int (nI od), .int cf, .int (nI wn), .ref b3, .int (nI ok), .ref b4])), (b1, .inl (cI, 400, .inl (upd (fd_app g n go i) (n + i) (go i)))), (b2, .inl (cL, 24, .inr (.inl rn))), (b3, .inl (cI, 200, .inl go)), (b4, .inl (cL, 24, .inr (.inl gn)))] := hD
      refine lv_iinc (v := nI (i + 1)) (lv' := [(1, .int (nI (i + 1))), (0, .ref b0)]) hx hb ndD_copy_51 hl (k := 1) rfl (nI_1 i) (by decide) rfl (fun ls hl => ?_)
      refine lv_goto (tgt := 26) hx hb ndD_copy_54 (by decide) ?_
      rw [fd_app_s] at hP hD
      exact ih (i + 1) (by omega) _ _ _ hP hD hS (lv_sub hl [1, 0] rfl)
  rw [← fd_app_0 g n go] at hP hD
  exact loop wn 0 (by omega) _ _ _ hP hD hS (lv_sub hl [1, 0] rfl)
set_option maxHeartbeats 4000000 in
set_option maxRecDepth 100000 in
theorem kD_fault (l : Launch) (D : va_G) (Z : Nat → Nat) (cI cL : ClassId) {b0 b1 b2 b3 b4 n kd k od wn ok : Nat} {g go : Nat → Int32} {rn gn : Nat → Int64} {cf : Int32} (hn : n ≤ 400) (hkd : kd ≤ 15) (hk : k ≤ 20) (hwn : wn ≤ 123) (hod : od ≤ 15) (hok : ok ≤ 20) {p1 : Nat} : fd_Mi l D fd_cl (fd_ty cI cL) (fd_EV Z) nyD_fault (.code nyD_fault ncD_fault 2 (some .int) :: fd_TB) nmD_fault [.ref b0, .int (nI p1)] [(b0, .inr (3, [.ref b1, .int (nI n), .int (nI kd), .int (nI k), .ref b2, .int (nI od), .int cf, .int (nI wn), .ref b3, .int (nI ok), .ref b4])), (b1, .inl (cI, 400, .inl g)), (b2, .inl (cL, 24, .inr (.inl rn))), (b3, .inl (cI, 200, .inl go)), (b4, .inl (cL, 24, .inr (.inl gn)))] [(b0, .inr (3, [.ref b1, .int (nI 0), .int (nI 0), .int (nI 0), .ref b2, .int (nI od), .int cf, .int (nI wn), .ref b3, .int (nI ok), .ref b4])), (b1, .inl (cI, 400, .inl g)), (b2, .inl (cL, 24, .inr (.inl rn))), (b3, .inl (cI, 200, .inl go)), (b4, .inl (cL, 24, .inr (.inl gn)))] ((-1) - nI p1) := by
  refine fd_open_i (cc := ncD_fault) (maxL := 2) (ret := (some .int)) (by decide) rfl (Nat.le_of_ble_eq_true rfl) ?_
  intro p e s m below meth c A ls X hP hD hS hl
  obtain ⟨hx, hb, hr, hml, hown, hts0, hlocks, hK, hEV, hA⟩ := X
  have hts : ∀ w ∈ fd_TB, w.before _ s = true := fun w h => hts0 w (List.mem_cons_of_mem _ h)
  have hE := fd_EV_ok Z
  have hown : s.vm.findClass "FieldDeskModel" = some m.cls := hown
  have hl : lv_has ls 2 [(0, .ref b0), (1, .int (nI p1))] := hl
  refine lv_aload_n hx hb ndD_fault_0 rfl (lv_at hl 0 rfl) ?_
  refine lv_iconst (v := 0) hx hb ndD_fault_1 (by decide) ?_
  refine fd_asi (y := nI 0) nI_0.symm ?_
  refine va_put (D := D) (ci := 3) (v := .int (nI 0)) (ty := (.int)) (C := nR_D) (T := nT_D) (N := 11) hx hb hts in_D nt_D nt_D_ok nn_D hown hK hP hD hS 0 rfl rfl 1 (by decide) (hts _ tb_249) (fun _ h9 => h9) rfl (by decide +kernel) rfl rfl (Nat.le_of_ble_eq_true rfl) ndD_fault_2 (fun H locs hP hD hS => ?_)
  have hP : va_P D fd_cl [(b0, .inr (3, [.ref b1, .int (nI 0), .int (nI kd), .int (nI k), .ref b2, .int (nI od), .int cf, .int (nI wn), .ref b3, .int (nI ok), .ref b4])), (b1, .inl (cI, 400, .inl g)), (b2, .inl (cL, 24, .inr (.inl rn))), (b3, .inl (cI, 200, .inl go)), (b4, .inl (cL, 24, .inr (.inl gn)))] H := hP
  have hD : va_D A [(b0, .inr (3, [.ref b1, .int (nI 0), .int (nI kd), .int (nI k), .ref b2, .int (nI od), .int cf, .int (nI wn), .ref b3, .int (nI ok), .ref b4])), (b1, .inl (cI, 400, .inl g)), (b2, .inl (cL, 24, .inr (.inl rn))), (b3, .inl (cI, 200, .inl go)), (b4, .inl (cL, 24, .inr (.inl gn)))] := hD
  refine lv_aload_n hx hb ndD_fault_5 rfl (lv_at hl 0 rfl) ?_
  refine lv_iconst (v := 0) hx hb ndD_fault_6 (by decide) ?_
  refine fd_asi (y := nI 0) nI_0.symm ?_
  refine va_put (D := D) (ci := 3) (v := .int (nI 0)) (ty := (.int)) (C := nR_D) (T := nT_D) (N := 11) hx hb hts in_D nt_D nt_D_ok nn_D hown hK hP hD hS 0 rfl rfl 2 (by decide) (hts _ tb_250) (fun _ h9 => h9) rfl (by decide +kernel) rfl rfl (Nat.le_of_ble_eq_true rfl) ndD_fault_7 (fun H locs hP hD hS => ?_)
  have hP : va_P D fd_cl [(b0, .inr (3, [.ref b1, .int (nI 0), .int (nI 0), .int (nI k), .ref b2, .int (nI od), .int cf, .int (nI wn), .ref b3, .int (nI ok), .ref b4])), (b1, .inl (cI, 400, .inl g)), (b2, .inl (cL, 24, .inr (.inl rn))), (b3, .inl (cI, 200, .inl go)), (b4, .inl (cL, 24, .inr (.inl gn)))] H := hP
  have hD : va_D A [(b0, .inr (3, [.ref b1, .int (nI 0), .int (nI 0), .int (nI k), .ref b2, .int (nI od), .int cf, .int (nI wn), .ref b3, .int (nI ok), .ref b4])), (b1, .inl (cI, 400, .inl g)), (b2, .inl (cL, 24, .inr (.inl rn))), (b3, .inl (cI, 200, .inl go)), (b4, .inl (cL, 24, .inr (.inl gn)))] := hD
  refine lv_aload_n hx hb ndD_fault_10 rfl (lv_at hl 0 rfl) ?_
  refine lv_iconst (v := 0) hx hb ndD_fault_11 (by decide) ?_
  refine fd_asi (y := nI 0) nI_0.symm ?_
  refine va_put (D := D) (ci := 3) (v := .int (nI 0)) (ty := (.int)) (C := nR_D) (T := nT_D) (N := 11) hx hb hts in_D nt_D nt_D_ok nn_D hown hK hP hD hS 0 rfl rfl 3 (by decide) (hts _ tb_251) (fun _ h9 => h9) rfl (by decide +kernel) rfl rfl (Nat.le_of_ble_eq_true rfl) ndD_fault_12 (fun H locs hP hD hS => ?_)
  have hP : va_P D fd_cl [(b0, .inr (3, [.ref b1, .int (nI 0), .int (nI 0), .int (nI 0), .ref b2, .int (nI od), .int cf, .int (nI wn), .ref b3, .int (nI ok), .ref b4])), (b1, .inl (cI, 400, .inl g)), (b2, .inl (cL, 24, .inr (.inl rn))), (b3, .inl (cI, 200, .inl go)), (b4, .inl (cL, 24, .inr (.inl gn)))] H := hP
  have hD : va_D A [(b0, .inr (3, [.ref b1, .int (nI 0), .int (nI 0), .int (nI 0), .ref b2, .int (nI od), .int cf, .int (nI wn), .ref b3, .int (nI ok), .ref b4])), (b1, .inl (cI, 400, .inl g)), (b2, .inl (cL, 24, .inr (.inl rn))), (b3, .inl (cI, 200, .inl go)), (b4, .inl (cL, 24, .inr (.inl gn)))] := hD
  refine lv_iconst (v := (-1)) hx hb ndD_fault_15 (by decide) ?_
  refine lv_iload_n hx hb ndD_fault_16 rfl (lv_at hl 1 rfl) ?_
  refine lv_isub hx hb ndD_fault_17 ?_
  exact fd_ret_i hx hb hr hlocks hS hP hD rfl (rfl) ndD_fault_18
end
