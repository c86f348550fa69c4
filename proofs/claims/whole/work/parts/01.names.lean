-- ===== PART A: goes FIRST, ahead of the names: the tables' words, and 'selects' of the private methods out of them =====
/-- a private method of a class that the tables say can be made, by its rows of tables_1 -/
def lw_okq (q : MethodName × Nat) : Prop := (q.1.cls ≠ "java/lang/invoke/MethodHandle" ∧ q.1.cls ≠ "java/lang/invoke/VarHandle") ∧ Cond.instantiable q.1.cls q.2 ∈ tables_1 ∧ Cond.privateMethod q.1 ∈ tables_1 ∧ Cond.instanceMethod q.1 ∈ tables_1
theorem lw_p0 : lw_okq (⟨"FieldDesk", "hearText", "()I"⟩, 5) := ⟨⟨by decide +kernel, by decide +kernel⟩, List.mem_of_getElem? (i := 10) (by decide +kernel), List.mem_of_getElem? (i := 87) (by decide +kernel), List.mem_of_getElem? (i := 88) (by decide +kernel)⟩
theorem lw_p1 : lw_okq (⟨"FieldDesk", "hearKind", "()I"⟩, 5) := ⟨⟨by decide +kernel, by decide +kernel⟩, List.mem_of_getElem? (i := 10) (by decide +kernel), List.mem_of_getElem? (i := 91) (by decide +kernel), List.mem_of_getElem? (i := 92) (by decide +kernel)⟩
theorem lw_p2 : lw_okq (⟨"FieldDesk", "kindWithSigns", "(I)I"⟩, 5) := ⟨⟨by decide +kernel, by decide +kernel⟩, List.mem_of_getElem? (i := 10) (by decide +kernel), List.mem_of_getElem? (i := 95) (by decide +kernel), List.mem_of_getElem? (i := 96) (by decide +kernel)⟩
theorem lw_p3 : lw_okq (⟨"FieldDesk", "textBeginsAs", "(II)Z"⟩, 5) := ⟨⟨by decide +kernel, by decide +kernel⟩, List.mem_of_getElem? (i := 10) (by decide +kernel), List.mem_of_getElem? (i := 99) (by decide +kernel), List.mem_of_getElem? (i := 100) (by decide +kernel)⟩
theorem lw_p4 : lw_okq (⟨"FieldDesk$Message", "dueLegSort", "(I)I"⟩, 4) := ⟨⟨by decide +kernel, by decide +kernel⟩, List.mem_of_getElem? (i := 33) (by decide +kernel), List.mem_of_getElem? (i := 167) (by decide +kernel), List.mem_of_getElem? (i := 168) (by decide +kernel)⟩
theorem lw_p5 : lw_okq (⟨"FieldDesk", "hearField", "(II)I"⟩, 5) := ⟨⟨by decide +kernel, by decide +kernel⟩, List.mem_of_getElem? (i := 10) (by decide +kernel), List.mem_of_getElem? (i := 187) (by decide +kernel), List.mem_of_getElem? (i := 188) (by decide +kernel)⟩
theorem lw_p6 : lw_okq (⟨"FieldDesk", "hearCheckDigits", "(I)I"⟩, 5) := ⟨⟨by decide +kernel, by decide +kernel⟩, List.mem_of_getElem? (i := 10) (by decide +kernel), List.mem_of_getElem? (i := 219) (by decide +kernel), List.mem_of_getElem? (i := 220) (by decide +kernel)⟩
theorem lw_p7 : lw_okq (⟨"FieldDesk", "writeField", "(IJ)V"⟩, 5) := ⟨⟨by decide +kernel, by decide +kernel⟩, List.mem_of_getElem? (i := 10) (by decide +kernel), List.mem_of_getElem? (i := 267) (by decide +kernel), List.mem_of_getElem? (i := 268) (by decide +kernel)⟩
theorem lw_p8 : lw_okq (⟨"FieldDeskModel", "kindOf", "(I)I"⟩, 11) := ⟨⟨by decide +kernel, by decide +kernel⟩, List.mem_of_getElem? (i := 292) (by decide +kernel), List.mem_of_getElem? (i := 341) (by decide +kernel), List.mem_of_getElem? (i := 342) (by decide +kernel)⟩
theorem lw_p9 : lw_okq (⟨"FieldDeskModel", "fault", "(I)I"⟩, 11) := ⟨⟨by decide +kernel, by decide +kernel⟩, List.mem_of_getElem? (i := 292) (by decide +kernel), List.mem_of_getElem? (i := 348) (by decide +kernel), List.mem_of_getElem? (i := 349) (by decide +kernel)⟩
theorem lw_p10 : lw_okq (⟨"FieldDeskModel", "lay", "(I)V"⟩, 11) := ⟨⟨by decide +kernel, by decide +kernel⟩, List.mem_of_getElem? (i := 292) (by decide +kernel), List.mem_of_getElem? (i := 388) (by decide +kernel), List.mem_of_getElem? (i := 389) (by decide +kernel)⟩
theorem lw_p11 : lw_okq (⟨"FieldDeskModel", "nextSort", "()I"⟩, 11) := ⟨⟨by decide +kernel, by decide +kernel⟩, List.mem_of_getElem? (i := 292) (by decide +kernel), List.mem_of_getElem? (i := 396) (by decide +kernel), List.mem_of_getElem? (i := 397) (by decide +kernel)⟩
def lw_privs_1 : List (MethodName × Nat) := [(⟨"FieldDesk", "hearText", "()I"⟩, 5), (⟨"FieldDesk", "hearKind", "()I"⟩, 5), (⟨"FieldDesk", "kindWithSigns", "(I)I"⟩, 5), (⟨"FieldDesk", "textBeginsAs", "(II)Z"⟩, 5), (⟨"FieldDesk$Message", "dueLegSort", "(I)I"⟩, 4), (⟨"FieldDesk", "hearField", "(II)I"⟩, 5), (⟨"FieldDesk", "hearCheckDigits", "(I)I"⟩, 5), (⟨"FieldDesk", "writeField", "(IJ)V"⟩, 5), (⟨"FieldDeskModel", "kindOf", "(I)I"⟩, 11), (⟨"FieldDeskModel", "fault", "(I)I"⟩, 11), (⟨"FieldDeskModel", "lay", "(I)V"⟩, 11), (⟨"FieldDeskModel", "nextSort", "()I"⟩, 11)]
theorem lw_r1 : ∀ q ∈ lw_privs_1, lw_okq q := List.forall_mem_cons.mpr ⟨lw_p0, List.forall_mem_cons.mpr ⟨lw_p1, List.forall_mem_cons.mpr ⟨lw_p2, List.forall_mem_cons.mpr ⟨lw_p3, List.forall_mem_cons.mpr ⟨lw_p4, List.forall_mem_cons.mpr ⟨lw_p5, List.forall_mem_cons.mpr ⟨lw_p6, List.forall_mem_cons.mpr ⟨lw_p7, List.forall_mem_cons.mpr ⟨lw_p8, List.forall_mem_cons.mpr ⟨lw_p9, List.forall_mem_cons.mpr ⟨lw_p10, List.forall_mem_cons.mpr ⟨lw_p11, fun _ h => absurd h List.not_mem_nil⟩⟩⟩⟩⟩⟩⟩⟩⟩⟩⟩⟩
def lw_privs : List (MethodName × Nat) := lw_privs_1
def lw_tbl : List Cond := k2_sels lw_privs ++ tables_1
theorem lw_privs_ok : ∀ q ∈ lw_privs, lw_okq q := lw_r1
theorem goodIn_r {big : List Cond} (ws : List Cond) (ps : List Nat) (hp : ws = ps.filterMap (fun i => big[i]?)) (h : ws.all goodWord = true) : GoodIn big ws := by
  intro w hw
  have h1 := List.all_eq_true.mp h w hw
  rw [hp] at hw
  obtain ⟨i, -, hi⟩ := List.mem_filterMap.mp hw
  have hm : w ∈ big := by first | exact List.mem_of_getElem? hi | exact List.getElem?_mem hi
  exact ⟨hm, good_of_word h1⟩
-- names: class, fields in an order, their types
def nR_R : String := "FieldDesk$Row"
def nT_R : u_T := fun k => match k with
  | 0 => ("FieldDesk$Row", "bytes", "[I", true)
  | _ => ("FieldDesk$Row", "length", "I", false)
def nt_R : Nat → FieldType := fun k => match k with
  | 0 => .array .int
  | _ => .int
theorem nn_R : ∀ a, a < 2 → ∀ b, b < 2 → a ≠ b → (nT_R a).2.1 ≠ (nT_R b).2.1 := by decide +kernel
theorem nt_R_ok : ∀ k, k < 2 → parseFieldDescriptor (nT_R k).2.2.1 = some (nt_R k) := by decide +kernel
def nR_M : String := "FieldDesk$Message"
def nT_M : u_T := fun k => match k with
  | 0 => ("FieldDesk$Message", "sorts", "[I", true)
  | 1 => ("FieldDesk$Message", "numbers", "[J", true)
  | 2 => ("FieldDesk$Message", "kind", "I", false)
  | _ => ("FieldDesk$Message", "count", "I", false)
def nt_M : Nat → FieldType := fun k => match k with
  | 0 => .array .int
  | 1 => .array .long
  | 2 => .int
  | _ => .int
theorem nn_M : ∀ a, a < 4 → ∀ b, b < 4 → a ≠ b → (nT_M a).2.1 ≠ (nT_M b).2.1 := by decide +kernel
theorem nt_M_ok : ∀ k, k < 4 → parseFieldDescriptor (nT_M k).2.2.1 = some (nt_M k) := by decide +kernel
def nR_F : String := "FieldDesk"
def nT_F : u_T := fun k => match k with
  | 0 => ("FieldDesk", "text", "LFieldDesk$Row;", true)
  | 1 => ("FieldDesk", "heard", "LFieldDesk$Message;", true)
  | 2 => ("FieldDesk", "written", "LFieldDesk$Row;", true)
  | 3 => ("FieldDesk", "told", "LFieldDesk$Message;", true)
  | _ => ("FieldDesk", "hasCheckDigits", "Z", false)
def nt_F : Nat → FieldType := fun k => match k with
  | 0 => .object "FieldDesk$Row"
  | 1 => .object "FieldDesk$Message"
  | 2 => .object "FieldDesk$Row"
  | 3 => .object "FieldDesk$Message"
  | _ => .boolean
theorem nn_F : ∀ a, a < 5 → ∀ b, b < 5 → a ≠ b → (nT_F a).2.1 ≠ (nT_F b).2.1 := by decide +kernel
theorem nt_F_ok : ∀ k, k < 5 → parseFieldDescriptor (nT_F k).2.2.1 = some (nt_F k) := by decide +kernel
def nR_D : String := "FieldDeskModel"
def nT_D : u_T := fun k => match k with
  | 0 => ("FieldDeskModel", "text", "[I", true)
  | 1 => ("FieldDeskModel", "size", "I", false)
  | 2 => ("FieldDeskModel", "kind", "I", false)
  | 3 => ("FieldDeskModel", "many", "I", false)
  | 4 => ("FieldDeskModel", "numbers", "[J", true)
  | 5 => ("FieldDeskModel", "writes", "I", false)
  | 6 => ("FieldDeskModel", "closed", "Z", false)
  | 7 => ("FieldDeskModel", "written", "I", false)
  | 8 => ("FieldDeskModel", "out", "[I", true)
  | 9 => ("FieldDeskModel", "added", "I", false)
  | _ => ("FieldDeskModel", "given", "[J", true)
def nt_D : Nat → FieldType := fun k => match k with
  | 0 => .array .int
  | 1 => .int
  | 2 => .int
  | 3 => .int
  | 4 => .array .long
  | 5 => .int
  | 6 => .boolean
  | 7 => .int
  | 8 => .array .int
  | 9 => .int
  | _ => .array .long
theorem nn_D : ∀ a, a < 11 → ∀ b, b < 11 → a ≠ b → (nT_D a).2.1 ≠ (nT_D b).2.1 := by decide +kernel
theorem nt_D_ok : ∀ k, k < 11 → parseFieldDescriptor (nT_D k).2.2.1 = some (nt_D k) := by decide +kernel
abbrev fd_cl : List vw_C := [(nR_R, nT_R, 2), (nR_M, nT_M, 4), (nR_F, nT_F, 5), (nR_D, nT_D, 11)]
def nyO_init : MethodName := ⟨"java/lang/Object", "<init>", "()V"⟩
def nyF_init : MethodName := ⟨"FieldDesk", "<init>", "()V"⟩
abbrev ncF_init : ByteArray := prog_1_method_1_code
abbrev nmF_init : Room := { frames := 2, cells := 0, slots := 0, locals := 33 }
theorem nhF_init : nyF_init.cls = "FieldDesk" ∧ nyF_init.cls ≠ "java/lang/invoke/MethodHandle" ∧ nyF_init.cls ≠ "java/lang/invoke/VarHandle" ∧ (parseMethodDescriptor nyF_init.desc).map (fun d => d.parameters.length) = some 0 := by decide +kernel
def nyF_type : MethodName := ⟨"FieldDesk", "type", "(JI)Z"⟩
abbrev ncF_type : ByteArray := prog_1_method_2_code
abbrev nmF_type : Room := { frames := 1, cells := 0, slots := 0, locals := 21 }
theorem nhF_type : nyF_type.cls = "FieldDesk" ∧ nyF_type.cls ≠ "java/lang/invoke/MethodHandle" ∧ nyF_type.cls ≠ "java/lang/invoke/VarHandle" ∧ (parseMethodDescriptor nyF_type.desc).map (fun d => d.parameters.length) = some 2 := by decide +kernel
def nyF_read : MethodName := ⟨"FieldDesk", "read", "()I"⟩
abbrev ncF_read : ByteArray := prog_1_method_3_code
abbrev nmF_read : Room := { frames := 9, cells := 0, slots := 0, locals := 197 }
theorem nhF_read : nyF_read.cls = "FieldDesk" ∧ nyF_read.cls ≠ "java/lang/invoke/MethodHandle" ∧ nyF_read.cls ≠ "java/lang/invoke/VarHandle" ∧ (parseMethodDescriptor nyF_read.desc).map (fun d => d.parameters.length) = some 0 := by decide +kernel
def nyF_fields : MethodName := ⟨"FieldDesk", "fields", "()I"⟩
abbrev ncF_fields : ByteArray := prog_1_method_4_code
abbrev nmF_fields : Room := { frames := 0, cells := 0, slots := 0, locals := 0 }
theorem nhF_fields : nyF_fields.cls = "FieldDesk" ∧ nyF_fields.cls ≠ "java/lang/invoke/MethodHandle" ∧ nyF_fields.cls ≠ "java/lang/invoke/VarHandle" ∧ (parseMethodDescriptor nyF_fields.desc).map (fun d => d.parameters.length) = some 0 := by decide +kernel
def nyF_sort : MethodName := ⟨"FieldDesk", "sort", "(I)I"⟩
abbrev ncF_sort : ByteArray := prog_1_method_5_code
abbrev nmF_sort : Room := { frames := 1, cells := 0, slots := 0, locals := 21 }
theorem nhF_sort : nyF_sort.cls = "FieldDesk" ∧ nyF_sort.cls ≠ "java/lang/invoke/MethodHandle" ∧ nyF_sort.cls ≠ "java/lang/invoke/VarHandle" ∧ (parseMethodDescriptor nyF_sort.desc).map (fun d => d.parameters.length) = some 1 := by decide +kernel
def nyF_number : MethodName := ⟨"FieldDesk", "number", "(I)J"⟩
abbrev ncF_number : ByteArray := prog_1_method_6_code
abbrev nmF_number : Room := { frames := 1, cells := 0, slots := 0, locals := 21 }
theorem nhF_number : nyF_number.cls = "FieldDesk" ∧ nyF_number.cls ≠ "java/lang/invoke/MethodHandle" ∧ nyF_number.cls ≠ "java/lang/invoke/VarHandle" ∧ (parseMethodDescriptor nyF_number.desc).map (fun d => d.parameters.length) = some 1 := by decide +kernel
def nyF_begin : MethodName := ⟨"FieldDesk", "begin", "(I)Z"⟩
abbrev ncF_begin : ByteArray := prog_1_method_7_code
abbrev nmF_begin : Room := { frames := 5, cells := 0, slots := 0, locals := 107 }
theorem nhF_begin : nyF_begin.cls = "FieldDesk" ∧ nyF_begin.cls ≠ "java/lang/invoke/MethodHandle" ∧ nyF_begin.cls ≠ "java/lang/invoke/VarHandle" ∧ (parseMethodDescriptor nyF_begin.desc).map (fun d => d.parameters.length) = some 1 := by decide +kernel
def nyF_add : MethodName := ⟨"FieldDesk", "add", "(J)Z"⟩
abbrev ncF_add : ByteArray := prog_1_method_8_code
abbrev nmF_add : Room := { frames := 4, cells := 0, slots := 0, locals := 87 }
theorem nhF_add : nyF_add.cls = "FieldDesk" ∧ nyF_add.cls ≠ "java/lang/invoke/MethodHandle" ∧ nyF_add.cls ≠ "java/lang/invoke/VarHandle" ∧ (parseMethodDescriptor nyF_add.desc).map (fun d => d.parameters.length) = some 1 := by decide +kernel
def nyF_end : MethodName := ⟨"FieldDesk", "end", "()I"⟩
abbrev ncF_end : ByteArray := prog_1_method_9_code
abbrev nmF_end : Room := { frames := 3, cells := 0, slots := 0, locals := 64 }
theorem nhF_end : nyF_end.cls = "FieldDesk" ∧ nyF_end.cls ≠ "java/lang/invoke/MethodHandle" ∧ nyF_end.cls ≠ "java/lang/invoke/VarHandle" ∧ (parseMethodDescriptor nyF_end.desc).map (fun d => d.parameters.length) = some 0 := by decide +kernel
def nyF_byteOf : MethodName := ⟨"FieldDesk", "byteOf", "(I)I"⟩
abbrev ncF_byteOf : ByteArray := prog_1_method_10_code
abbrev nmF_byteOf : Room := { frames := 1, cells := 0, slots := 0, locals := 21 }
theorem nhF_byteOf : nyF_byteOf.cls = "FieldDesk" ∧ nyF_byteOf.cls ≠ "java/lang/invoke/MethodHandle" ∧ nyF_byteOf.cls ≠ "java/lang/invoke/VarHandle" ∧ (parseMethodDescriptor nyF_byteOf.desc).map (fun d => d.parameters.length) = some 1 := by decide +kernel
def nyF_copy : MethodName := ⟨"FieldDesk", "copy", "()Z"⟩
abbrev ncF_copy : ByteArray := prog_1_method_11_code
abbrev nmF_copy : Room := { frames := 1, cells := 0, slots := 0, locals := 21 }
theorem nhF_copy : nyF_copy.cls = "FieldDesk" ∧ nyF_copy.cls ≠ "java/lang/invoke/MethodHandle" ∧ nyF_copy.cls ≠ "java/lang/invoke/VarHandle" ∧ (parseMethodDescriptor nyF_copy.desc).map (fun d => d.parameters.length) = some 0 := by decide +kernel
def nyF_hearText : MethodName := ⟨"FieldDesk", "hearText", "()I"⟩
abbrev ncF_hearText : ByteArray := prog_1_method_12_code
abbrev nmF_hearText : Room := { frames := 8, cells := 0, slots := 0, locals := 173 }
theorem nhF_hearText : nyF_hearText.cls = "FieldDesk" ∧ nyF_hearText.cls ≠ "java/lang/invoke/MethodHandle" ∧ nyF_hearText.cls ≠ "java/lang/invoke/VarHandle" ∧ (parseMethodDescriptor nyF_hearText.desc).map (fun d => d.parameters.length) = some 0 := by decide +kernel
def nyF_hearKind : MethodName := ⟨"FieldDesk", "hearKind", "()I"⟩
abbrev ncF_hearKind : ByteArray := prog_1_method_13_code
abbrev nmF_hearKind : Room := { frames := 7, cells := 0, slots := 0, locals := 152 }
theorem nhF_hearKind : nyF_hearKind.cls = "FieldDesk" ∧ nyF_hearKind.cls ≠ "java/lang/invoke/MethodHandle" ∧ nyF_hearKind.cls ≠ "java/lang/invoke/VarHandle" ∧ (parseMethodDescriptor nyF_hearKind.desc).map (fun d => d.parameters.length) = some 0 := by decide +kernel
def nyF_kindWithSigns : MethodName := ⟨"FieldDesk", "kindWithSigns", "(I)I"⟩
abbrev ncF_kindWithSigns : ByteArray := prog_1_method_14_code
abbrev nmF_kindWithSigns : Room := { frames := 6, cells := 0, slots := 0, locals := 130 }
theorem nhF_kindWithSigns : nyF_kindWithSigns.cls = "FieldDesk" ∧ nyF_kindWithSigns.cls ≠ "java/lang/invoke/MethodHandle" ∧ nyF_kindWithSigns.cls ≠ "java/lang/invoke/VarHandle" ∧ (parseMethodDescriptor nyF_kindWithSigns.desc).map (fun d => d.parameters.length) = some 1 := by decide +kernel
def nyF_textBeginsAs : MethodName := ⟨"FieldDesk", "textBeginsAs", "(II)Z"⟩
abbrev ncF_textBeginsAs : ByteArray := prog_1_method_15_code
abbrev nmF_textBeginsAs : Room := { frames := 5, cells := 0, slots := 0, locals := 107 }
theorem nhF_textBeginsAs : nyF_textBeginsAs.cls = "FieldDesk" ∧ nyF_textBeginsAs.cls ≠ "java/lang/invoke/MethodHandle" ∧ nyF_textBeginsAs.cls ≠ "java/lang/invoke/VarHandle" ∧ (parseMethodDescriptor nyF_textBeginsAs.desc).map (fun d => d.parameters.length) = some 2 := by decide +kernel
def nyF_hearField : MethodName := ⟨"FieldDesk", "hearField", "(II)I"⟩
abbrev ncF_hearField : ByteArray := prog_1_method_16_code
abbrev nmF_hearField : Room := { frames := 4, cells := 0, slots := 0, locals := 86 }
theorem nhF_hearField : nyF_hearField.cls = "FieldDesk" ∧ nyF_hearField.cls ≠ "java/lang/invoke/MethodHandle" ∧ nyF_hearField.cls ≠ "java/lang/invoke/VarHandle" ∧ (parseMethodDescriptor nyF_hearField.desc).map (fun d => d.parameters.length) = some 2 := by decide +kernel
def nyF_hearCheckDigits : MethodName := ⟨"FieldDesk", "hearCheckDigits", "(I)I"⟩
abbrev ncF_hearCheckDigits : ByteArray := prog_1_method_17_code
abbrev nmF_hearCheckDigits : Room := { frames := 3, cells := 0, slots := 0, locals := 63 }
theorem nhF_hearCheckDigits : nyF_hearCheckDigits.cls = "FieldDesk" ∧ nyF_hearCheckDigits.cls ≠ "java/lang/invoke/MethodHandle" ∧ nyF_hearCheckDigits.cls ≠ "java/lang/invoke/VarHandle" ∧ (parseMethodDescriptor nyF_hearCheckDigits.desc).map (fun d => d.parameters.length) = some 1 := by decide +kernel
def nyF_writeField : MethodName := ⟨"FieldDesk", "writeField", "(IJ)V"⟩
abbrev ncF_writeField : ByteArray := prog_1_method_18_code
abbrev nmF_writeField : Room := { frames := 1, cells := 0, slots := 0, locals := 22 }
theorem nhF_writeField : nyF_writeField.cls = "FieldDesk" ∧ nyF_writeField.cls ≠ "java/lang/invoke/MethodHandle" ∧ nyF_writeField.cls ≠ "java/lang/invoke/VarHandle" ∧ (parseMethodDescriptor nyF_writeField.desc).map (fun d => d.parameters.length) = some 2 := by decide +kernel
def nyF_isToBase36 : MethodName := ⟨"FieldDesk", "isToBase36", "(I)Z"⟩
abbrev ncF_isToBase36 : ByteArray := prog_1_method_19_code
abbrev nmF_isToBase36 : Room := { frames := 0, cells := 0, slots := 0, locals := 0 }
theorem nhF_isToBase36 : nyF_isToBase36.cls = "FieldDesk" ∧ nyF_isToBase36.cls ≠ "java/lang/invoke/MethodHandle" ∧ nyF_isToBase36.cls ≠ "java/lang/invoke/VarHandle" ∧ (parseMethodDescriptor nyF_isToBase36.desc).map (fun d => d.parameters.length) = some 1 := by decide +kernel
def nyF_valueInSort : MethodName := ⟨"FieldDesk", "valueInSort", "(II)I"⟩
abbrev ncF_valueInSort : ByteArray := prog_1_method_20_code
abbrev nmF_valueInSort : Room := { frames := 2, cells := 0, slots := 0, locals := 40 }
theorem nhF_valueInSort : nyF_valueInSort.cls = "FieldDesk" ∧ nyF_valueInSort.cls ≠ "java/lang/invoke/MethodHandle" ∧ nyF_valueInSort.cls ≠ "java/lang/invoke/VarHandle" ∧ (parseMethodDescriptor nyF_valueInSort.desc).map (fun d => d.parameters.length) = some 2 := by decide +kernel
def nyF_signInSort : MethodName := ⟨"FieldDesk", "signInSort", "(II)I"⟩
abbrev ncF_signInSort : ByteArray := prog_1_method_21_code
abbrev nmF_signInSort : Room := { frames := 0, cells := 0, slots := 0, locals := 0 }
theorem nhF_signInSort : nyF_signInSort.cls = "FieldDesk" ∧ nyF_signInSort.cls ≠ "java/lang/invoke/MethodHandle" ∧ nyF_signInSort.cls ≠ "java/lang/invoke/VarHandle" ∧ (parseMethodDescriptor nyF_signInSort.desc).map (fun d => d.parameters.length) = some 2 := by decide +kernel
def nyF_valueOfClass : MethodName := ⟨"FieldDesk", "valueOfClass", "(I)I"⟩
abbrev ncF_valueOfClass : ByteArray := prog_1_method_22_code
abbrev nmF_valueOfClass : Room := { frames := 0, cells := 0, slots := 0, locals := 0 }
theorem nhF_valueOfClass : nyF_valueOfClass.cls = "FieldDesk" ∧ nyF_valueOfClass.cls ≠ "java/lang/invoke/MethodHandle" ∧ nyF_valueOfClass.cls ≠ "java/lang/invoke/VarHandle" ∧ (parseMethodDescriptor nyF_valueOfClass.desc).map (fun d => d.parameters.length) = some 1 := by decide +kernel
def nyF_valueOfSign : MethodName := ⟨"FieldDesk", "valueOfSign", "(I)I"⟩
abbrev ncF_valueOfSign : ByteArray := prog_1_method_23_code
abbrev nmF_valueOfSign : Room := { frames := 1, cells := 0, slots := 0, locals := 20 }
theorem nhF_valueOfSign : nyF_valueOfSign.cls = "FieldDesk" ∧ nyF_valueOfSign.cls ≠ "java/lang/invoke/MethodHandle" ∧ nyF_valueOfSign.cls ≠ "java/lang/invoke/VarHandle" ∧ (parseMethodDescriptor nyF_valueOfSign.desc).map (fun d => d.parameters.length) = some 1 := by decide +kernel
def nyF_isDigit : MethodName := ⟨"FieldDesk", "isDigit", "(I)Z"⟩
abbrev ncF_isDigit : ByteArray := prog_1_method_24_code
abbrev nmF_isDigit : Room := { frames := 0, cells := 0, slots := 0, locals := 0 }
theorem nhF_isDigit : nyF_isDigit.cls = "FieldDesk" ∧ nyF_isDigit.cls ≠ "java/lang/invoke/MethodHandle" ∧ nyF_isDigit.cls ≠ "java/lang/invoke/VarHandle" ∧ (parseMethodDescriptor nyF_isDigit.desc).map (fun d => d.parameters.length) = some 1 := by decide +kernel
def nyF_letterOf : MethodName := ⟨"FieldDesk", "letterOf", "(II)I"⟩
abbrev ncF_letterOf : ByteArray := prog_1_method_25_code
abbrev nmF_letterOf : Room := { frames := 4, cells := 0, slots := 0, locals := 85 }
theorem nhF_letterOf : nyF_letterOf.cls = "FieldDesk" ∧ nyF_letterOf.cls ≠ "java/lang/invoke/MethodHandle" ∧ nyF_letterOf.cls ≠ "java/lang/invoke/VarHandle" ∧ (parseMethodDescriptor nyF_letterOf.desc).map (fun d => d.parameters.length) = some 2 := by decide +kernel
def nyF_entry : MethodName := ⟨"FieldDesk", "entry", "([II)I"⟩
abbrev ncF_entry : ByteArray := prog_1_method_26_code
abbrev nmF_entry : Room := { frames := 0, cells := 0, slots := 0, locals := 0 }
theorem nhF_entry : nyF_entry.cls = "FieldDesk" ∧ nyF_entry.cls ≠ "java/lang/invoke/MethodHandle" ∧ nyF_entry.cls ≠ "java/lang/invoke/VarHandle" ∧ (parseMethodDescriptor nyF_entry.desc).map (fun d => d.parameters.length) = some 2 := by decide +kernel
def nyD_init : MethodName := ⟨"FieldDeskModel", "<init>", "()V"⟩
abbrev ncD_init : ByteArray := prog_5_method_1_code
abbrev nmD_init : Room := { frames := 1, cells := 0, slots := 0, locals := 12 }
theorem nhD_init : nyD_init.cls = "FieldDeskModel" ∧ nyD_init.cls ≠ "java/lang/invoke/MethodHandle" ∧ nyD_init.cls ≠ "java/lang/invoke/VarHandle" ∧ (parseMethodDescriptor nyD_init.desc).map (fun d => d.parameters.length) = some 0 := by decide +kernel
def nyD_letter : MethodName := ⟨"FieldDeskModel", "letter", "(II)I"⟩
abbrev ncD_letter : ByteArray := prog_5_method_2_code
abbrev nmD_letter : Room := { frames := 0, cells := 0, slots := 0, locals := 0 }
theorem nhD_letter : nyD_letter.cls = "FieldDeskModel" ∧ nyD_letter.cls ≠ "java/lang/invoke/MethodHandle" ∧ nyD_letter.cls ≠ "java/lang/invoke/VarHandle" ∧ (parseMethodDescriptor nyD_letter.desc).map (fun d => d.parameters.length) = some 2 := by decide +kernel
def nyD_sortOf : MethodName := ⟨"FieldDeskModel", "sortOf", "(IIJ)I"⟩
abbrev ncD_sortOf : ByteArray := prog_5_method_3_code
abbrev nmD_sortOf : Room := { frames := 0, cells := 0, slots := 0, locals := 0 }
theorem nhD_sortOf : nyD_sortOf.cls = "FieldDeskModel" ∧ nyD_sortOf.cls ≠ "java/lang/invoke/MethodHandle" ∧ nyD_sortOf.cls ≠ "java/lang/invoke/VarHandle" ∧ (parseMethodDescriptor nyD_sortOf.desc).map (fun d => d.parameters.length) = some 3 := by decide +kernel
def nyD_width : MethodName := ⟨"FieldDeskModel", "width", "(I)I"⟩
abbrev ncD_width : ByteArray := prog_5_method_4_code
abbrev nmD_width : Room := { frames := 0, cells := 0, slots := 0, locals := 0 }
theorem nhD_width : nyD_width.cls = "FieldDeskModel" ∧ nyD_width.cls ≠ "java/lang/invoke/MethodHandle" ∧ nyD_width.cls ≠ "java/lang/invoke/VarHandle" ∧ (parseMethodDescriptor nyD_width.desc).map (fun d => d.parameters.length) = some 1 := by decide +kernel
def nyD_isSign : MethodName := ⟨"FieldDeskModel", "isSign", "(I)Z"⟩
abbrev ncD_isSign : ByteArray := prog_5_method_5_code
abbrev nmD_isSign : Room := { frames := 0, cells := 0, slots := 0, locals := 0 }
theorem nhD_isSign : nyD_isSign.cls = "FieldDeskModel" ∧ nyD_isSign.cls ≠ "java/lang/invoke/MethodHandle" ∧ nyD_isSign.cls ≠ "java/lang/invoke/VarHandle" ∧ (parseMethodDescriptor nyD_isSign.desc).map (fun d => d.parameters.length) = some 1 := by decide +kernel
def nyD_valueOf : MethodName := ⟨"FieldDeskModel", "valueOf", "(I)I"⟩
abbrev ncD_valueOf : ByteArray := prog_5_method_6_code
abbrev nmD_valueOf : Room := { frames := 0, cells := 0, slots := 0, locals := 0 }
theorem nhD_valueOf : nyD_valueOf.cls = "FieldDeskModel" ∧ nyD_valueOf.cls ≠ "java/lang/invoke/MethodHandle" ∧ nyD_valueOf.cls ≠ "java/lang/invoke/VarHandle" ∧ (parseMethodDescriptor nyD_valueOf.desc).map (fun d => d.parameters.length) = some 1 := by decide +kernel
def nyD_fits : MethodName := ⟨"FieldDeskModel", "fits", "(IIZ)Z"⟩
abbrev ncD_fits : ByteArray := prog_5_method_7_code
abbrev nmD_fits : Room := { frames := 1, cells := 0, slots := 0, locals := 20 }
theorem nhD_fits : nyD_fits.cls = "FieldDeskModel" ∧ nyD_fits.cls ≠ "java/lang/invoke/MethodHandle" ∧ nyD_fits.cls ≠ "java/lang/invoke/VarHandle" ∧ (parseMethodDescriptor nyD_fits.desc).map (fun d => d.parameters.length) = some 3 := by decide +kernel
def nyD_step : MethodName := ⟨"FieldDeskModel", "step", "(II)I"⟩
abbrev ncD_step : ByteArray := prog_5_method_8_code
abbrev nmD_step : Room := { frames := 0, cells := 0, slots := 0, locals := 0 }
theorem nhD_step : nyD_step.cls = "FieldDeskModel" ∧ nyD_step.cls ≠ "java/lang/invoke/MethodHandle" ∧ nyD_step.cls ≠ "java/lang/invoke/VarHandle" ∧ (parseMethodDescriptor nyD_step.desc).map (fun d => d.parameters.length) = some 2 := by decide +kernel
def nyD_type : MethodName := ⟨"FieldDeskModel", "type", "(JI)Z"⟩
abbrev ncD_type : ByteArray := prog_5_method_9_code
abbrev nmD_type : Room := { frames := 0, cells := 0, slots := 0, locals := 0 }
theorem nhD_type : nyD_type.cls = "FieldDeskModel" ∧ nyD_type.cls ≠ "java/lang/invoke/MethodHandle" ∧ nyD_type.cls ≠ "java/lang/invoke/VarHandle" ∧ (parseMethodDescriptor nyD_type.desc).map (fun d => d.parameters.length) = some 2 := by decide +kernel
def nyD_kindOf : MethodName := ⟨"FieldDeskModel", "kindOf", "(I)I"⟩
abbrev ncD_kindOf : ByteArray := prog_5_method_10_code
abbrev nmD_kindOf : Room := { frames := 1, cells := 0, slots := 0, locals := 21 }
theorem nhD_kindOf : nyD_kindOf.cls = "FieldDeskModel" ∧ nyD_kindOf.cls ≠ "java/lang/invoke/MethodHandle" ∧ nyD_kindOf.cls ≠ "java/lang/invoke/VarHandle" ∧ (parseMethodDescriptor nyD_kindOf.desc).map (fun d => d.parameters.length) = some 1 := by decide +kernel
def nyD_fault : MethodName := ⟨"FieldDeskModel", "fault", "(I)I"⟩
abbrev ncD_fault : ByteArray := prog_5_method_11_code
abbrev nmD_fault : Room := { frames := 0, cells := 0, slots := 0, locals := 0 }
theorem nhD_fault : nyD_fault.cls = "FieldDeskModel" ∧ nyD_fault.cls ≠ "java/lang/invoke/MethodHandle" ∧ nyD_fault.cls ≠ "java/lang/invoke/VarHandle" ∧ (parseMethodDescriptor nyD_fault.desc).map (fun d => d.parameters.length) = some 1 := by decide +kernel
def nyD_read : MethodName := ⟨"FieldDeskModel", "read", "()I"⟩
abbrev ncD_read : ByteArray := prog_5_method_12_code
abbrev nmD_read : Room := { frames := 2, cells := 0, slots := 0, locals := 45 }
theorem nhD_read : nyD_read.cls = "FieldDeskModel" ∧ nyD_read.cls ≠ "java/lang/invoke/MethodHandle" ∧ nyD_read.cls ≠ "java/lang/invoke/VarHandle" ∧ (parseMethodDescriptor nyD_read.desc).map (fun d => d.parameters.length) = some 0 := by decide +kernel
def nyD_fields : MethodName := ⟨"FieldDeskModel", "fields", "()I"⟩
abbrev ncD_fields : ByteArray := prog_5_method_13_code
abbrev nmD_fields : Room := { frames := 0, cells := 0, slots := 0, locals := 0 }
theorem nhD_fields : nyD_fields.cls = "FieldDeskModel" ∧ nyD_fields.cls ≠ "java/lang/invoke/MethodHandle" ∧ nyD_fields.cls ≠ "java/lang/invoke/VarHandle" ∧ (parseMethodDescriptor nyD_fields.desc).map (fun d => d.parameters.length) = some 0 := by decide +kernel
def nyD_sort : MethodName := ⟨"FieldDeskModel", "sort", "(I)I"⟩
abbrev ncD_sort : ByteArray := prog_5_method_14_code
abbrev nmD_sort : Room := { frames := 1, cells := 0, slots := 0, locals := 24 }
theorem nhD_sort : nyD_sort.cls = "FieldDeskModel" ∧ nyD_sort.cls ≠ "java/lang/invoke/MethodHandle" ∧ nyD_sort.cls ≠ "java/lang/invoke/VarHandle" ∧ (parseMethodDescriptor nyD_sort.desc).map (fun d => d.parameters.length) = some 1 := by decide +kernel
def nyD_number : MethodName := ⟨"FieldDeskModel", "number", "(I)J"⟩
abbrev ncD_number : ByteArray := prog_5_method_15_code
abbrev nmD_number : Room := { frames := 0, cells := 0, slots := 0, locals := 0 }
theorem nhD_number : nyD_number.cls = "FieldDeskModel" ∧ nyD_number.cls ≠ "java/lang/invoke/MethodHandle" ∧ nyD_number.cls ≠ "java/lang/invoke/VarHandle" ∧ (parseMethodDescriptor nyD_number.desc).map (fun d => d.parameters.length) = some 1 := by decide +kernel
def nyD_lay : MethodName := ⟨"FieldDeskModel", "lay", "(I)V"⟩
abbrev ncD_lay : ByteArray := prog_5_method_16_code
abbrev nmD_lay : Room := { frames := 0, cells := 0, slots := 0, locals := 0 }
theorem nhD_lay : nyD_lay.cls = "FieldDeskModel" ∧ nyD_lay.cls ≠ "java/lang/invoke/MethodHandle" ∧ nyD_lay.cls ≠ "java/lang/invoke/VarHandle" ∧ (parseMethodDescriptor nyD_lay.desc).map (fun d => d.parameters.length) = some 1 := by decide +kernel
def nyD_begin : MethodName := ⟨"FieldDeskModel", "begin", "(I)Z"⟩
abbrev ncD_begin : ByteArray := prog_5_method_17_code
abbrev nmD_begin : Room := { frames := 1, cells := 0, slots := 0, locals := 21 }
theorem nhD_begin : nyD_begin.cls = "FieldDeskModel" ∧ nyD_begin.cls ≠ "java/lang/invoke/MethodHandle" ∧ nyD_begin.cls ≠ "java/lang/invoke/VarHandle" ∧ (parseMethodDescriptor nyD_begin.desc).map (fun d => d.parameters.length) = some 1 := by decide +kernel
def nyD_most : MethodName := ⟨"FieldDeskModel", "most", "(I)J"⟩
abbrev ncD_most : ByteArray := prog_5_method_18_code
abbrev nmD_most : Room := { frames := 0, cells := 0, slots := 0, locals := 0 }
theorem nhD_most : nyD_most.cls = "FieldDeskModel" ∧ nyD_most.cls ≠ "java/lang/invoke/MethodHandle" ∧ nyD_most.cls ≠ "java/lang/invoke/VarHandle" ∧ (parseMethodDescriptor nyD_most.desc).map (fun d => d.parameters.length) = some 1 := by decide +kernel
def nyD_nextSort : MethodName := ⟨"FieldDeskModel", "nextSort", "()I"⟩
abbrev ncD_nextSort : ByteArray := prog_5_method_19_code
abbrev nmD_nextSort : Room := { frames := 1, cells := 0, slots := 0, locals := 24 }
theorem nhD_nextSort : nyD_nextSort.cls = "FieldDeskModel" ∧ nyD_nextSort.cls ≠ "java/lang/invoke/MethodHandle" ∧ nyD_nextSort.cls ≠ "java/lang/invoke/VarHandle" ∧ (parseMethodDescriptor nyD_nextSort.desc).map (fun d => d.parameters.length) = some 0 := by decide +kernel
def nyD_add : MethodName := ⟨"FieldDeskModel", "add", "(J)Z"⟩
abbrev ncD_add : ByteArray := prog_5_method_20_code
abbrev nmD_add : Room := { frames := 2, cells := 0, slots := 0, locals := 44 }
theorem nhD_add : nyD_add.cls = "FieldDeskModel" ∧ nyD_add.cls ≠ "java/lang/invoke/MethodHandle" ∧ nyD_add.cls ≠ "java/lang/invoke/VarHandle" ∧ (parseMethodDescriptor nyD_add.desc).map (fun d => d.parameters.length) = some 1 := by decide +kernel
def nyD_end : MethodName := ⟨"FieldDeskModel", "end", "()I"⟩
abbrev ncD_end : ByteArray := prog_5_method_21_code
abbrev nmD_end : Room := { frames := 2, cells := 0, slots := 0, locals := 44 }
theorem nhD_end : nyD_end.cls = "FieldDeskModel" ∧ nyD_end.cls ≠ "java/lang/invoke/MethodHandle" ∧ nyD_end.cls ≠ "java/lang/invoke/VarHandle" ∧ (parseMethodDescriptor nyD_end.desc).map (fun d => d.parameters.length) = some 0 := by decide +kernel
def nyD_byteOf : MethodName := ⟨"FieldDeskModel", "byteOf", "(I)I"⟩
abbrev ncD_byteOf : ByteArray := prog_5_method_22_code
abbrev nmD_byteOf : Room := { frames := 0, cells := 0, slots := 0, locals := 0 }
theorem nhD_byteOf : nyD_byteOf.cls = "FieldDeskModel" ∧ nyD_byteOf.cls ≠ "java/lang/invoke/MethodHandle" ∧ nyD_byteOf.cls ≠ "java/lang/invoke/VarHandle" ∧ (parseMethodDescriptor nyD_byteOf.desc).map (fun d => d.parameters.length) = some 1 := by decide +kernel
def nyD_copy : MethodName := ⟨"FieldDeskModel", "copy", "()Z"⟩
abbrev ncD_copy : ByteArray := prog_5_method_23_code
abbrev nmD_copy : Room := { frames := 0, cells := 0, slots := 0, locals := 0 }
theorem nhD_copy : nyD_copy.cls = "FieldDeskModel" ∧ nyD_copy.cls ≠ "java/lang/invoke/MethodHandle" ∧ nyD_copy.cls ≠ "java/lang/invoke/VarHandle" ∧ (parseMethodDescriptor nyD_copy.desc).map (fun d => d.parameters.length) = some 0 := by decide +kernel
def nyM_init : MethodName := ⟨"FieldDesk$Message", "<init>", "()V"⟩
abbrev ncM_init : ByteArray := prog_2_method_1_code
abbrev nmM_init : Room := { frames := 1, cells := 0, slots := 0, locals := 12 }
theorem nhM_init : nyM_init.cls = "FieldDesk$Message" ∧ nyM_init.cls ≠ "java/lang/invoke/MethodHandle" ∧ nyM_init.cls ≠ "java/lang/invoke/VarHandle" ∧ (parseMethodDescriptor nyM_init.desc).map (fun d => d.parameters.length) = some 0 := by decide +kernel
def nyM_start : MethodName := ⟨"FieldDesk$Message", "start", "(I)V"⟩
abbrev ncM_start : ByteArray := prog_2_method_2_code
abbrev nmM_start : Room := { frames := 0, cells := 0, slots := 0, locals := 0 }
theorem nhM_start : nyM_start.cls = "FieldDesk$Message" ∧ nyM_start.cls ≠ "java/lang/invoke/MethodHandle" ∧ nyM_start.cls ≠ "java/lang/invoke/VarHandle" ∧ (parseMethodDescriptor nyM_start.desc).map (fun d => d.parameters.length) = some 1 := by decide +kernel
def nyM_sortAt : MethodName := ⟨"FieldDesk$Message", "sortAt", "(I)I"⟩
abbrev ncM_sortAt : ByteArray := prog_2_method_3_code
abbrev nmM_sortAt : Room := { frames := 0, cells := 0, slots := 0, locals := 0 }
theorem nhM_sortAt : nyM_sortAt.cls = "FieldDesk$Message" ∧ nyM_sortAt.cls ≠ "java/lang/invoke/MethodHandle" ∧ nyM_sortAt.cls ≠ "java/lang/invoke/VarHandle" ∧ (parseMethodDescriptor nyM_sortAt.desc).map (fun d => d.parameters.length) = some 1 := by decide +kernel
def nyM_numberAt : MethodName := ⟨"FieldDesk$Message", "numberAt", "(I)J"⟩
abbrev ncM_numberAt : ByteArray := prog_2_method_4_code
abbrev nmM_numberAt : Room := { frames := 0, cells := 0, slots := 0, locals := 0 }
theorem nhM_numberAt : nyM_numberAt.cls = "FieldDesk$Message" ∧ nyM_numberAt.cls ≠ "java/lang/invoke/MethodHandle" ∧ nyM_numberAt.cls ≠ "java/lang/invoke/VarHandle" ∧ (parseMethodDescriptor nyM_numberAt.desc).map (fun d => d.parameters.length) = some 1 := by decide +kernel
def nyM_dueSort : MethodName := ⟨"FieldDesk$Message", "dueSort", "()I"⟩
abbrev ncM_dueSort : ByteArray := prog_2_method_5_code
abbrev nmM_dueSort : Room := { frames := 2, cells := 0, slots := 0, locals := 44 }
theorem nhM_dueSort : nyM_dueSort.cls = "FieldDesk$Message" ∧ nyM_dueSort.cls ≠ "java/lang/invoke/MethodHandle" ∧ nyM_dueSort.cls ≠ "java/lang/invoke/VarHandle" ∧ (parseMethodDescriptor nyM_dueSort.desc).map (fun d => d.parameters.length) = some 0 := by decide +kernel
def nyM_dueLegSort : MethodName := ⟨"FieldDesk$Message", "dueLegSort", "(I)I"⟩
abbrev ncM_dueLegSort : ByteArray := prog_2_method_6_code
abbrev nmM_dueLegSort : Room := { frames := 1, cells := 0, slots := 0, locals := 21 }
theorem nhM_dueLegSort : nyM_dueLegSort.cls = "FieldDesk$Message" ∧ nyM_dueLegSort.cls ≠ "java/lang/invoke/MethodHandle" ∧ nyM_dueLegSort.cls ≠ "java/lang/invoke/VarHandle" ∧ (parseMethodDescriptor nyM_dueLegSort.desc).map (fun d => d.parameters.length) = some 1 := by decide +kernel
def nyM_mustBeZero : MethodName := ⟨"FieldDesk$Message", "mustBeZero", "()Z"⟩
abbrev ncM_mustBeZero : ByteArray := prog_2_method_7_code
abbrev nmM_mustBeZero : Room := { frames := 1, cells := 0, slots := 0, locals := 21 }
theorem nhM_mustBeZero : nyM_mustBeZero.cls = "FieldDesk$Message" ∧ nyM_mustBeZero.cls ≠ "java/lang/invoke/MethodHandle" ∧ nyM_mustBeZero.cls ≠ "java/lang/invoke/VarHandle" ∧ (parseMethodDescriptor nyM_mustBeZero.desc).map (fun d => d.parameters.length) = some 0 := by decide +kernel
def nyM_suits : MethodName := ⟨"FieldDesk$Message", "suits", "(J)Z"⟩
abbrev ncM_suits : ByteArray := prog_2_method_8_code
abbrev nmM_suits : Room := { frames := 3, cells := 0, slots := 0, locals := 64 }
theorem nhM_suits : nyM_suits.cls = "FieldDesk$Message" ∧ nyM_suits.cls ≠ "java/lang/invoke/MethodHandle" ∧ nyM_suits.cls ≠ "java/lang/invoke/VarHandle" ∧ (parseMethodDescriptor nyM_suits.desc).map (fun d => d.parameters.length) = some 1 := by decide +kernel
def nyM_take : MethodName := ⟨"FieldDesk$Message", "take", "(J)V"⟩
abbrev ncM_take : ByteArray := prog_2_method_9_code
abbrev nmM_take : Room := { frames := 3, cells := 0, slots := 0, locals := 64 }
theorem nhM_take : nyM_take.cls = "FieldDesk$Message" ∧ nyM_take.cls ≠ "java/lang/invoke/MethodHandle" ∧ nyM_take.cls ≠ "java/lang/invoke/VarHandle" ∧ (parseMethodDescriptor nyM_take.desc).map (fun d => d.parameters.length) = some 1 := by decide +kernel
def nyR_init : MethodName := ⟨"FieldDesk$Row", "<init>", "(I)V"⟩
abbrev ncR_init : ByteArray := prog_3_method_1_code
abbrev nmR_init : Room := { frames := 1, cells := 0, slots := 0, locals := 12 }
theorem nhR_init : nyR_init.cls = "FieldDesk$Row" ∧ nyR_init.cls ≠ "java/lang/invoke/MethodHandle" ∧ nyR_init.cls ≠ "java/lang/invoke/VarHandle" ∧ (parseMethodDescriptor nyR_init.desc).map (fun d => d.parameters.length) = some 1 := by decide +kernel
def nyR_hasRoomFor : MethodName := ⟨"FieldDesk$Row", "hasRoomFor", "(I)Z"⟩
abbrev ncR_hasRoomFor : ByteArray := prog_3_method_2_code
abbrev nmR_hasRoomFor : Room := { frames := 0, cells := 0, slots := 0, locals := 0 }
theorem nhR_hasRoomFor : nyR_hasRoomFor.cls = "FieldDesk$Row" ∧ nyR_hasRoomFor.cls ≠ "java/lang/invoke/MethodHandle" ∧ nyR_hasRoomFor.cls ≠ "java/lang/invoke/VarHandle" ∧ (parseMethodDescriptor nyR_hasRoomFor.desc).map (fun d => d.parameters.length) = some 1 := by decide +kernel
def nyR_clear : MethodName := ⟨"FieldDesk$Row", "clear", "()V"⟩
abbrev ncR_clear : ByteArray := prog_3_method_3_code
abbrev nmR_clear : Room := { frames := 0, cells := 0, slots := 0, locals := 0 }
theorem nhR_clear : nyR_clear.cls = "FieldDesk$Row" ∧ nyR_clear.cls ≠ "java/lang/invoke/MethodHandle" ∧ nyR_clear.cls ≠ "java/lang/invoke/VarHandle" ∧ (parseMethodDescriptor nyR_clear.desc).map (fun d => d.parameters.length) = some 0 := by decide +kernel
def nyR_append : MethodName := ⟨"FieldDesk$Row", "append", "(I)V"⟩
abbrev ncR_append : ByteArray := prog_3_method_4_code
abbrev nmR_append : Room := { frames := 0, cells := 0, slots := 0, locals := 0 }
theorem nhR_append : nyR_append.cls = "FieldDesk$Row" ∧ nyR_append.cls ≠ "java/lang/invoke/MethodHandle" ∧ nyR_append.cls ≠ "java/lang/invoke/VarHandle" ∧ (parseMethodDescriptor nyR_append.desc).map (fun d => d.parameters.length) = some 1 := by decide +kernel
def nyR_put : MethodName := ⟨"FieldDesk$Row", "put", "(II)V"⟩
abbrev ncR_put : ByteArray := prog_3_method_5_code
abbrev nmR_put : Room := { frames := 0, cells := 0, slots := 0, locals := 0 }
theorem nhR_put : nyR_put.cls = "FieldDesk$Row" ∧ nyR_put.cls ≠ "java/lang/invoke/MethodHandle" ∧ nyR_put.cls ≠ "java/lang/invoke/VarHandle" ∧ (parseMethodDescriptor nyR_put.desc).map (fun d => d.parameters.length) = some 2 := by decide +kernel
def nyR_at : MethodName := ⟨"FieldDesk$Row", "at", "(I)I"⟩
abbrev ncR_at : ByteArray := prog_3_method_6_code
abbrev nmR_at : Room := { frames := 0, cells := 0, slots := 0, locals := 0 }
theorem nhR_at : nyR_at.cls = "FieldDesk$Row" ∧ nyR_at.cls ≠ "java/lang/invoke/MethodHandle" ∧ nyR_at.cls ≠ "java/lang/invoke/VarHandle" ∧ (parseMethodDescriptor nyR_at.desc).map (fun d => d.parameters.length) = some 1 := by decide +kernel
def nyR_remainder : MethodName := ⟨"FieldDesk$Row", "remainder", "()I"⟩
abbrev ncR_remainder : ByteArray := prog_3_method_7_code
abbrev nmR_remainder : Room := { frames := 2, cells := 0, slots := 0, locals := 40 }
theorem nhR_remainder : nyR_remainder.cls = "FieldDesk$Row" ∧ nyR_remainder.cls ≠ "java/lang/invoke/MethodHandle" ∧ nyR_remainder.cls ≠ "java/lang/invoke/VarHandle" ∧ (parseMethodDescriptor nyR_remainder.desc).map (fun d => d.parameters.length) = some 0 := by decide +kernel
def nyL_law : MethodName := ⟨"FieldDeskLaw", "law", "([I)Z"⟩
abbrev ncL_law : ByteArray := code
def nyS_length : MethodName := ⟨"java/lang/String", "length", "()I"⟩
abbrev ncS_length : ByteArray := prog_6_method_54_code
abbrev nmS_length : Room := { frames := 1, cells := 0, slots := 0, locals := 20 }
theorem nhS_length : nyS_length.cls = "java/lang/String" ∧ nyS_length.cls ≠ "java/lang/invoke/MethodHandle" ∧ nyS_length.cls ≠ "java/lang/invoke/VarHandle" ∧ (parseMethodDescriptor nyS_length.desc).map (fun d => d.parameters.length) = some 0 := by decide +kernel
def nyS_charAt : MethodName := ⟨"java/lang/String", "charAt", "(I)C"⟩
abbrev ncS_charAt : ByteArray := prog_6_method_56_code
abbrev nmS_charAt : Room := { frames := 3, cells := 0, slots := 0, locals := 64 }
theorem nhS_charAt : nyS_charAt.cls = "java/lang/String" ∧ nyS_charAt.cls ≠ "java/lang/invoke/MethodHandle" ∧ nyS_charAt.cls ≠ "java/lang/invoke/VarHandle" ∧ (parseMethodDescriptor nyS_charAt.desc).map (fun d => d.parameters.length) = some 1 := by decide +kernel
def nyS_coder : MethodName := ⟨"java/lang/String", "coder", "()B"⟩
abbrev ncS_coder : ByteArray := prog_6_method_152_code
abbrev nmS_coder : Room := { frames := 0, cells := 0, slots := 0, locals := 0 }
theorem nhS_coder : nyS_coder.cls = "java/lang/String" ∧ nyS_coder.cls ≠ "java/lang/invoke/MethodHandle" ∧ nyS_coder.cls ≠ "java/lang/invoke/VarHandle" ∧ (parseMethodDescriptor nyS_coder.desc).map (fun d => d.parameters.length) = some 0 := by decide +kernel
def nyS_isLatin1 : MethodName := ⟨"java/lang/String", "isLatin1", "()Z"⟩
abbrev ncS_isLatin1 : ByteArray := prog_6_method_154_code
abbrev nmS_isLatin1 : Room := { frames := 0, cells := 0, slots := 0, locals := 0 }
theorem nhS_isLatin1 : nyS_isLatin1.cls = "java/lang/String" ∧ nyS_isLatin1.cls ≠ "java/lang/invoke/MethodHandle" ∧ nyS_isLatin1.cls ≠ "java/lang/invoke/VarHandle" ∧ (parseMethodDescriptor nyS_isLatin1.desc).map (fun d => d.parameters.length) = some 0 := by decide +kernel
def nyT_charAt : MethodName := ⟨"java/lang/StringLatin1", "charAt", "([BI)C"⟩
abbrev ncT_charAt : ByteArray := prog_7_method_2_code
abbrev nmT_charAt : Room := { frames := 2, cells := 0, slots := 0, locals := 43 }
theorem nhT_charAt : nyT_charAt.cls = "java/lang/StringLatin1" ∧ nyT_charAt.cls ≠ "java/lang/invoke/MethodHandle" ∧ nyT_charAt.cls ≠ "java/lang/invoke/VarHandle" ∧ (parseMethodDescriptor nyT_charAt.desc).map (fun d => d.parameters.length) = some 2 := by decide +kernel
def nyS_checkIndex : MethodName := ⟨"java/lang/String", "checkIndex", "(II)V"⟩
abbrev ncS_checkIndex : ByteArray := prog_6_method_155_code
abbrev nmS_checkIndex : Room := { frames := 1, cells := 0, slots := 0, locals := 22 }
theorem nhS_checkIndex : nyS_checkIndex.cls = "java/lang/String" ∧ nyS_checkIndex.cls ≠ "java/lang/invoke/MethodHandle" ∧ nyS_checkIndex.cls ≠ "java/lang/invoke/VarHandle" ∧ (parseMethodDescriptor nyS_checkIndex.desc).map (fun d => d.parameters.length) = some 2 := by decide +kernel
def nyP_checkIndex : MethodName := ⟨"jdk/internal/util/Preconditions", "checkIndex", "(IILjava/util/function/BiFunction;)I"⟩
abbrev ncP_checkIndex : ByteArray := prog_9_method_11_code
abbrev nmP_checkIndex : Room := { frames := 0, cells := 0, slots := 0, locals := 0 }
theorem nhP_checkIndex : nyP_checkIndex.cls = "jdk/internal/util/Preconditions" ∧ nyP_checkIndex.cls ≠ "java/lang/invoke/MethodHandle" ∧ nyP_checkIndex.cls ≠ "java/lang/invoke/VarHandle" ∧ (parseMethodDescriptor nyP_checkIndex.desc).map (fun d => d.parameters.length) = some 3 := by decide +kernel
/-- the words that every method may use -/
def fd_TB : List Cond := [
  Cond.selects "FieldDesk" nyF_hearText nyF_hearText,
  Cond.selects "FieldDesk" nyF_hearKind nyF_hearKind,
  Cond.selects "FieldDesk" nyF_kindWithSigns nyF_kindWithSigns,
  Cond.selects "FieldDesk" nyF_textBeginsAs nyF_textBeginsAs,
  Cond.selects "FieldDesk$Message" nyM_dueLegSort nyM_dueLegSort,
  Cond.selects "FieldDesk" nyF_hearField nyF_hearField,
  Cond.selects "FieldDesk" nyF_hearCheckDigits nyF_hearCheckDigits,
  Cond.selects "FieldDesk" nyF_writeField nyF_writeField,
  Cond.selects "FieldDeskModel" nyD_kindOf nyD_kindOf,
  Cond.selects "FieldDeskModel" nyD_fault nyD_fault,
  Cond.selects "FieldDeskModel" nyD_lay nyD_lay,
  Cond.selects "FieldDeskModel" nyD_nextSort nyD_nextSort,
  Cond.initialized "FieldDeskLaw",
  Cond.initialized "FieldDesk",
  Cond.initialized "FieldDesk$Row",
  Cond.initialized "FieldDesk$Message",
  Cond.initialized "FieldDeskModel",
  Cond.initialized "java/lang/String",
  Cond.initialized "java/lang/StringLatin1",
  Cond.initialized "jdk/internal/util/Preconditions",
  Cond.classLink "FieldDeskLaw" 7 "FieldDesk",
  Cond.instantiable "FieldDesk" 5,
  Cond.methodLink "FieldDeskLaw" 9 nyF_init,
  Cond.instanceMethod nyF_init,
  Cond.code nyF_init prog_1_method_1_code 1 none,
  Cond.methodLink "FieldDesk" 1 nyO_init,
  Cond.instanceMethod nyO_init,
  Cond.code nyO_init object_method_1_code 1 none,
  Cond.classLink "FieldDesk" 7 "FieldDesk$Row",
  Cond.instantiable "FieldDesk$Row" 2,
  Cond.methodLink "FieldDesk" 11 nyR_init,
  Cond.instanceMethod nyR_init,
  Cond.code nyR_init prog_3_method_1_code 2 none,
  Cond.methodLink "FieldDesk$Row" 1 nyO_init,
  Cond.fieldLink "FieldDesk$Row" 13 "FieldDesk$Row" "bytes" "[I",
  Cond.fieldLink "FieldDesk$Row" 7 "FieldDesk$Row" "length" "I",
  Cond.laysFinal "FieldDesk$Row" "FieldDesk$Row" "bytes" "[I",
  Cond.lays "FieldDesk$Row" "FieldDesk$Row" "length" "I",
  Cond.arrayClass FieldType.int,
  Cond.classLink "FieldDesk" 18 "FieldDesk$Message",
  Cond.instantiable "FieldDesk$Message" 4,
  Cond.instanceMethod nyM_init,
  Cond.code nyM_init prog_2_method_1_code 1 none,
  Cond.methodLink "FieldDesk$Message" 3 nyO_init,
  Cond.fieldLink "FieldDesk$Message" 9 "FieldDesk$Message" "sorts" "[I",
  Cond.fieldLink "FieldDesk$Message" 15 "FieldDesk$Message" "numbers" "[J",
  Cond.fieldLink "FieldDesk$Message" 19 "FieldDesk$Message" "kind" "I",
  Cond.fieldLink "FieldDesk$Message" 23 "FieldDesk$Message" "count" "I",
  Cond.laysFinal "FieldDesk$Message" "FieldDesk$Message" "sorts" "[I",
  Cond.laysFinal "FieldDesk$Message" "FieldDesk$Message" "numbers" "[J",
  Cond.lays "FieldDesk$Message" "FieldDesk$Message" "kind" "I",
  Cond.lays "FieldDesk$Message" "FieldDesk$Message" "count" "I",
  Cond.arrayClass FieldType.long,
  Cond.fieldLink "FieldDesk" 14 "FieldDesk" "text" "LFieldDesk$Row;",
  Cond.fieldLink "FieldDesk" 21 "FieldDesk" "heard" "LFieldDesk$Message;",
  Cond.fieldLink "FieldDesk" 25 "FieldDesk" "written" "LFieldDesk$Row;",
  Cond.fieldLink "FieldDesk" 28 "FieldDesk" "told" "LFieldDesk$Message;",
  Cond.fieldLink "FieldDesk" 31 "FieldDesk" "hasCheckDigits" "Z",
  Cond.laysFinal "FieldDesk" "FieldDesk" "text" "LFieldDesk$Row;",
  Cond.laysFinal "FieldDesk" "FieldDesk" "heard" "LFieldDesk$Message;",
  Cond.laysFinal "FieldDesk" "FieldDesk" "written" "LFieldDesk$Row;",
  Cond.laysFinal "FieldDesk" "FieldDesk" "told" "LFieldDesk$Message;",
  Cond.lays "FieldDesk" "FieldDesk" "hasCheckDigits" "Z",
  Cond.methodLink "FieldDeskLaw" 15 nyF_type,
  Cond.instanceMethod nyF_type,
  Cond.selects "FieldDesk" nyF_type nyF_type,
  Cond.code nyF_type prog_1_method_2_code 5 (some FieldType.boolean),
  Cond.methodLink "FieldDesk" 35 nyR_hasRoomFor,
  Cond.instanceMethod nyR_hasRoomFor,
  Cond.selects "FieldDesk$Row" nyR_hasRoomFor nyR_hasRoomFor,
  Cond.code nyR_hasRoomFor prog_3_method_2_code 2 (some FieldType.boolean),
  Cond.methodLink "FieldDesk" 39 nyR_append,
  Cond.instanceMethod nyR_append,
  Cond.selects "FieldDesk$Row" nyR_append nyR_append,
  Cond.code nyR_append prog_3_method_4_code 2 none,
  Cond.methodLink "FieldDeskLaw" 20 nyF_read,
  Cond.instanceMethod nyF_read,
  Cond.selects "FieldDesk" nyF_read nyF_read,
  Cond.code nyF_read prog_1_method_3_code 2 (some FieldType.int),
  Cond.methodLink "FieldDesk" 42 nyF_hearText,
  Cond.instanceMethod nyF_hearText,
  Cond.code nyF_hearText prog_1_method_12_code 5 (some FieldType.int),
  Cond.methodLink "FieldDesk" 95 nyF_hearKind,
  Cond.instanceMethod nyF_hearKind,
  Cond.code nyF_hearKind prog_1_method_13_code 2 (some FieldType.int),
  Cond.methodLink "FieldDesk" 112 nyF_kindWithSigns,
  Cond.instanceMethod nyF_kindWithSigns,
  Cond.code nyF_kindWithSigns prog_1_method_14_code 3 (some FieldType.int),
  Cond.methodLink "FieldDesk" 115 nyF_textBeginsAs,
  Cond.instanceMethod nyF_textBeginsAs,
  Cond.code nyF_textBeginsAs prog_1_method_15_code 4 (some FieldType.boolean),
  Cond.methodLink "FieldDesk" 92 nyR_at,
  Cond.instanceMethod nyR_at,
  Cond.selects "FieldDesk$Row" nyR_at nyR_at,
  Cond.code nyR_at prog_3_method_6_code 2 (some FieldType.int),
  Cond.methodLink "FieldDesk" 67 nyF_letterOf,
  Cond.static nyF_letterOf,
  Cond.code nyF_letterOf prog_1_method_25_code 3 (some FieldType.int),
  Cond.methodLink "FieldDesk" 157 nyS_length,
  Cond.instanceMethod nyS_length,
  Cond.selects "java/lang/String" nyS_length nyS_length,
  Cond.code nyS_length prog_6_method_54_code 1 (some FieldType.int),
  Cond.methodLink "java/lang/String" 335 nyS_coder,
  Cond.instanceMethod nyS_coder,
  Cond.selects "java/lang/String" nyS_coder nyS_coder,
  Cond.code nyS_coder prog_6_method_152_code 1 (some FieldType.byte),
  Cond.fieldLink "java/lang/String" 38 "java/lang/String" "COMPACT_STRINGS" "Z",
  Cond.methodLink "FieldDesk" 161 nyS_charAt,
  Cond.instanceMethod nyS_charAt,
  Cond.selects "java/lang/String" nyS_charAt nyS_charAt,
  Cond.code nyS_charAt prog_6_method_56_code 2 (some FieldType.char),
  Cond.methodLink "java/lang/String" 492 nyS_isLatin1,
  Cond.instanceMethod nyS_isLatin1,
  Cond.selects "java/lang/String" nyS_isLatin1 nyS_isLatin1,
  Cond.code nyS_isLatin1 prog_6_method_154_code 1 (some FieldType.boolean),
  Cond.methodLink "java/lang/String" 495 nyT_charAt,
  Cond.static nyT_charAt,
  Cond.code nyT_charAt prog_7_method_2_code 2 (some FieldType.char),
  Cond.methodLink "java/lang/StringLatin1" 9 nyS_checkIndex,
  Cond.static nyS_checkIndex,
  Cond.code nyS_checkIndex prog_6_method_155_code 2 none,
  Cond.fieldLink "java/lang/String" 1053 "jdk/internal/util/Preconditions" "SIOOBE_FORMATTER" "Ljava/util/function/BiFunction;",
  Cond.methodLink "java/lang/String" 1059 nyP_checkIndex,
  Cond.static nyP_checkIndex,
  Cond.code nyP_checkIndex prog_9_method_11_code 3 (some FieldType.int),
  Cond.methodLink "FieldDesk" 49 nyM_start,
  Cond.instanceMethod nyM_start,
  Cond.selects "FieldDesk$Message" nyM_start nyM_start,
  Cond.code nyM_start prog_2_method_2_code 2 none,
  Cond.methodLink "FieldDesk" 75 nyM_dueSort,
  Cond.instanceMethod nyM_dueSort,
  Cond.selects "FieldDesk$Message" nyM_dueSort nyM_dueSort,
  Cond.code nyM_dueSort prog_2_method_5_code 1 (some FieldType.int),
  Cond.methodLink "FieldDesk$Message" 28 nyM_dueLegSort,
  Cond.instanceMethod nyM_dueLegSort,
  Cond.code nyM_dueLegSort prog_2_method_6_code 4 (some FieldType.int),
  Cond.methodLink "FieldDesk$Message" 39 nyM_numberAt,
  Cond.instanceMethod nyM_numberAt,
  Cond.selects "FieldDesk$Message" nyM_numberAt nyM_numberAt,
  Cond.code nyM_numberAt prog_2_method_4_code 2 (some FieldType.long),
  Cond.constantLong "FieldDesk$Message" 26 (-1),
  Cond.constantLong "FieldDesk$Message" 43 4,
  Cond.static nyF_entry,
  Cond.code nyF_entry prog_1_method_26_code 2 (some FieldType.int),
  Cond.fieldLink "FieldDesk" 98 "FieldDesk" "SIGNS" "[I",
  Cond.methodLink "FieldDesk" 102 nyF_entry,
  Cond.methodLink "FieldDesk" 106 nyF_hearField,
  Cond.instanceMethod nyF_hearField,
  Cond.code nyF_hearField prog_1_method_16_code 9 (some FieldType.int),
  Cond.methodLink "FieldDesk" 119 nyF_isToBase36,
  Cond.static nyF_isToBase36,
  Cond.code nyF_isToBase36 prog_1_method_19_code 1 (some FieldType.boolean),
  Cond.methodLink "FieldDesk" 122 nyF_valueInSort,
  Cond.static nyF_valueInSort,
  Cond.code nyF_valueInSort prog_1_method_20_code 4 (some FieldType.int),
  Cond.methodLink "FieldDesk" 143 nyF_valueOfClass,
  Cond.static nyF_valueOfClass,
  Cond.code nyF_valueOfClass prog_1_method_22_code 1 (some FieldType.int),
  Cond.methodLink "FieldDesk" 146 nyF_valueOfSign,
  Cond.static nyF_valueOfSign,
  Cond.code nyF_valueOfSign prog_1_method_23_code 1 (some FieldType.int),
  Cond.methodLink "FieldDesk" 129 nyF_isDigit,
  Cond.static nyF_isDigit,
  Cond.code nyF_isDigit prog_1_method_24_code 1 (some FieldType.boolean),
  Cond.fieldLink "FieldDesk" 149 "FieldDesk" "LEAST_VALUE" "[I",
  Cond.fieldLink "FieldDesk" 152 "FieldDesk" "MOST_VALUE" "[I",
  Cond.methodLink "FieldDesk" 125 nyM_mustBeZero,
  Cond.instanceMethod nyM_mustBeZero,
  Cond.selects "FieldDesk$Message" nyM_mustBeZero nyM_mustBeZero,
  Cond.code nyM_mustBeZero prog_2_method_7_code 1 (some FieldType.boolean),
  Cond.methodLink "FieldDesk" 82 nyM_take,
  Cond.instanceMethod nyM_take,
  Cond.selects "FieldDesk$Message" nyM_take nyM_take,
  Cond.code nyM_take prog_2_method_9_code 3 none,
  Cond.methodLink "FieldDesk$Message" 48 nyM_dueSort,
  Cond.methodLink "FieldDesk" 109 nyF_hearCheckDigits,
  Cond.instanceMethod nyF_hearCheckDigits,
  Cond.code nyF_hearCheckDigits prog_1_method_17_code 3 (some FieldType.int),
  Cond.methodLink "FieldDesk" 86 nyR_remainder,
  Cond.instanceMethod nyR_remainder,
  Cond.selects "FieldDesk$Row" nyR_remainder nyR_remainder,
  Cond.code nyR_remainder prog_3_method_7_code 4 (some FieldType.int),
  Cond.methodLink "FieldDesk$Row" 17 nyR_at,
  Cond.methodLink "FieldDesk" 46 nyR_clear,
  Cond.instanceMethod nyR_clear,
  Cond.selects "FieldDesk$Row" nyR_clear nyR_clear,
  Cond.code nyR_clear prog_3_method_3_code 1 none,
  Cond.arrayClass FieldType.byte,
  Cond.methodLink "FieldDeskLaw" 25 nyF_fields,
  Cond.instanceMethod nyF_fields,
  Cond.selects "FieldDesk" nyF_fields nyF_fields,
  Cond.code nyF_fields prog_1_method_4_code 1 (some FieldType.int),
  Cond.methodLink "FieldDeskLaw" 29 nyF_sort,
  Cond.instanceMethod nyF_sort,
  Cond.selects "FieldDesk" nyF_sort nyF_sort,
  Cond.code nyF_sort prog_1_method_5_code 2 (some FieldType.int),
  Cond.methodLink "FieldDesk" 59 nyM_sortAt,
  Cond.instanceMethod nyM_sortAt,
  Cond.selects "FieldDesk$Message" nyM_sortAt nyM_sortAt,
  Cond.code nyM_sortAt prog_2_method_3_code 2 (some FieldType.int),
  Cond.methodLink "FieldDeskLaw" 34 nyF_number,
  Cond.instanceMethod nyF_number,
  Cond.selects "FieldDesk" nyF_number nyF_number,
  Cond.code nyF_number prog_1_method_6_code 2 (some FieldType.long),
  Cond.methodLink "FieldDesk" 63 nyM_numberAt,
  Cond.methodLink "FieldDeskLaw" 39 nyF_begin,
  Cond.instanceMethod nyF_begin,
  Cond.selects "FieldDesk" nyF_begin nyF_begin,
  Cond.code nyF_begin prog_1_method_7_code 3 (some FieldType.boolean),
  Cond.methodLink "FieldDeskLaw" 44 nyF_add,
  Cond.instanceMethod nyF_add,
  Cond.selects "FieldDesk" nyF_add nyF_add,
  Cond.code nyF_add prog_1_method_8_code 3 (some FieldType.boolean),
  Cond.methodLink "FieldDesk" 71 nyM_suits,
  Cond.instanceMethod nyM_suits,
  Cond.selects "FieldDesk$Message" nyM_suits nyM_suits,
  Cond.code nyM_suits prog_2_method_8_code 4 (some FieldType.boolean),
  Cond.methodLink "FieldDesk$Message" 55 nyM_mustBeZero,
  Cond.methodLink "FieldDesk" 78 nyF_writeField,
  Cond.instanceMethod nyF_writeField,
  Cond.code nyF_writeField prog_1_method_18_code 11 none,
  Cond.constantLong "FieldDesk" 132 36,
  Cond.constantLong "FieldDesk" 134 10,
  Cond.methodLink "FieldDesk" 136 nyF_signInSort,
  Cond.static nyF_signInSort,
  Cond.code nyF_signInSort prog_1_method_21_code 2 (some FieldType.int),
  Cond.methodLink "FieldDesk" 139 nyR_put,
  Cond.instanceMethod nyR_put,
  Cond.selects "FieldDesk$Row" nyR_put nyR_put,
  Cond.code nyR_put prog_3_method_5_code 3 none,
  Cond.methodLink "FieldDeskLaw" 49 nyF_end,
  Cond.instanceMethod nyF_end,
  Cond.selects "FieldDesk" nyF_end nyF_end,
  Cond.code nyF_end prog_1_method_9_code 2 (some FieldType.int),
  Cond.methodLink "FieldDeskLaw" 53 nyF_byteOf,
  Cond.instanceMethod nyF_byteOf,
  Cond.selects "FieldDesk" nyF_byteOf nyF_byteOf,
  Cond.code nyF_byteOf prog_1_method_10_code 2 (some FieldType.int),
  Cond.methodLink "FieldDeskLaw" 57 nyF_copy,
  Cond.instanceMethod nyF_copy,
  Cond.selects "FieldDesk" nyF_copy nyF_copy,
  Cond.code nyF_copy prog_1_method_11_code 2 (some FieldType.boolean),
  Cond.classLink "FieldDeskLaw" 10 "FieldDeskModel",
  Cond.instantiable "FieldDeskModel" 11,
  Cond.methodLink "FieldDeskLaw" 12 nyD_init,
  Cond.instanceMethod nyD_init,
  Cond.code nyD_init prog_5_method_1_code 1 none,
  Cond.methodLink "FieldDeskModel" 1 nyO_init,
  Cond.fieldLink "FieldDeskModel" 7 "FieldDeskModel" "text" "[I",
  Cond.fieldLink "FieldDeskModel" 29 "FieldDeskModel" "size" "I",
  Cond.fieldLink "FieldDeskModel" 39 "FieldDeskModel" "kind" "I",
  Cond.fieldLink "FieldDeskModel" 42 "FieldDeskModel" "many" "I",
  Cond.fieldLink "FieldDeskModel" 13 "FieldDeskModel" "numbers" "[J",
  Cond.fieldLink "FieldDeskModel" 74 "FieldDeskModel" "writes" "I",
  Cond.fieldLink "FieldDeskModel" 77 "FieldDeskModel" "closed" "Z",
  Cond.fieldLink "FieldDeskModel" 71 "FieldDeskModel" "written" "I",
  Cond.fieldLink "FieldDeskModel" 17 "FieldDeskModel" "out" "[I",
  Cond.fieldLink "FieldDeskModel" 81 "FieldDeskModel" "added" "I",
  Cond.fieldLink "FieldDeskModel" 20 "FieldDeskModel" "given" "[J",
  Cond.laysFinal "FieldDeskModel" "FieldDeskModel" "text" "[I",
  Cond.lays "FieldDeskModel" "FieldDeskModel" "size" "I",
  Cond.lays "FieldDeskModel" "FieldDeskModel" "kind" "I",
  Cond.lays "FieldDeskModel" "FieldDeskModel" "many" "I",
  Cond.laysFinal "FieldDeskModel" "FieldDeskModel" "numbers" "[J",
  Cond.lays "FieldDeskModel" "FieldDeskModel" "writes" "I",
  Cond.lays "FieldDeskModel" "FieldDeskModel" "closed" "Z",
  Cond.lays "FieldDeskModel" "FieldDeskModel" "written" "I",
  Cond.laysFinal "FieldDeskModel" "FieldDeskModel" "out" "[I",
  Cond.lays "FieldDeskModel" "FieldDeskModel" "added" "I",
  Cond.laysFinal "FieldDeskModel" "FieldDeskModel" "given" "[J",
  Cond.methodLink "FieldDeskLaw" 19 nyD_type,
  Cond.instanceMethod nyD_type,
  Cond.selects "FieldDeskModel" nyD_type nyD_type,
  Cond.code nyD_type prog_5_method_9_code 5 (some FieldType.boolean),
  Cond.constantLong "FieldDeskModel" 33 255,
  Cond.methodLink "FieldDeskLaw" 24 nyD_read,
  Cond.instanceMethod nyD_read,
  Cond.selects "FieldDeskModel" nyD_read nyD_read,
  Cond.code nyD_read prog_5_method_12_code 6 (some FieldType.int),
  Cond.methodLink "FieldDeskModel" 45 nyD_kindOf,
  Cond.instanceMethod nyD_kindOf,
  Cond.code nyD_kindOf prog_5_method_10_code 5 (some FieldType.int),
  Cond.methodLink "FieldDeskModel" 35 nyD_letter,
  Cond.static nyD_letter,
  Cond.code nyD_letter prog_5_method_2_code 2 (some FieldType.int),
  Cond.methodLink "FieldDeskModel" 49 nyD_fault,
  Cond.instanceMethod nyD_fault,
  Cond.code nyD_fault prog_5_method_11_code 2 (some FieldType.int),
  Cond.methodLink "FieldDeskModel" 52 nyD_step,
  Cond.static nyD_step,
  Cond.code nyD_step prog_5_method_8_code 2 (some FieldType.int),
  Cond.methodLink "FieldDeskModel" 55 nyD_width,
  Cond.static nyD_width,
  Cond.code nyD_width prog_5_method_4_code 1 (some FieldType.int),
  Cond.methodLink "FieldDeskModel" 58 nyD_fits,
  Cond.static nyD_fits,
  Cond.code nyD_fits prog_5_method_7_code 3 (some FieldType.boolean),
  Cond.methodLink "FieldDeskModel" 25 nyD_isSign,
  Cond.static nyD_isSign,
  Cond.code nyD_isSign prog_5_method_5_code 1 (some FieldType.boolean),
  Cond.methodLink "FieldDeskModel" 62 nyD_valueOf,
  Cond.static nyD_valueOf,
  Cond.code nyD_valueOf prog_5_method_6_code 1 (some FieldType.int),
  Cond.methodLink "FieldDeskModel" 65 nyD_sortOf,
  Cond.static nyD_sortOf,
  Cond.code nyD_sortOf prog_5_method_3_code 5 (some FieldType.int),
  Cond.constantLong "FieldDeskModel" 23 4,
  Cond.methodLink "FieldDeskLaw" 28 nyD_fields,
  Cond.instanceMethod nyD_fields,
  Cond.selects "FieldDeskModel" nyD_fields nyD_fields,
  Cond.code nyD_fields prog_5_method_13_code 1 (some FieldType.int),
  Cond.methodLink "FieldDeskLaw" 33 nyD_sort,
  Cond.instanceMethod nyD_sort,
  Cond.selects "FieldDeskModel" nyD_sort nyD_sort,
  Cond.code nyD_sort prog_5_method_14_code 2 (some FieldType.int),
  Cond.methodLink "FieldDeskLaw" 38 nyD_number,
  Cond.instanceMethod nyD_number,
  Cond.selects "FieldDeskModel" nyD_number nyD_number,
  Cond.code nyD_number prog_5_method_15_code 2 (some FieldType.long),
  Cond.constantLong "FieldDeskModel" 69 (-1),
  Cond.methodLink "FieldDeskLaw" 43 nyD_begin,
  Cond.instanceMethod nyD_begin,
  Cond.selects "FieldDeskModel" nyD_begin nyD_begin,
  Cond.code nyD_begin prog_5_method_17_code 3 (some FieldType.boolean),
  Cond.methodLink "FieldDeskModel" 84 nyD_lay,
  Cond.instanceMethod nyD_lay,
  Cond.code nyD_lay prog_5_method_16_code 2 none,
  Cond.methodLink "FieldDeskLaw" 48 nyD_add,
  Cond.instanceMethod nyD_add,
  Cond.selects "FieldDeskModel" nyD_add nyD_add,
  Cond.code nyD_add prog_5_method_20_code 11 (some FieldType.boolean),
  Cond.methodLink "FieldDeskModel" 100 nyD_nextSort,
  Cond.instanceMethod nyD_nextSort,
  Cond.code nyD_nextSort prog_5_method_19_code 1 (some FieldType.int),
  Cond.methodLink "FieldDeskModel" 104 nyD_most,
  Cond.static nyD_most,
  Cond.code nyD_most prog_5_method_18_code 1 (some FieldType.long),
  Cond.constantLong "FieldDeskModel" 88 1679615,
  Cond.constantLong "FieldDeskModel" 90 46655,
  Cond.constantLong "FieldDeskModel" 92 2821109907455,
  Cond.constantLong "FieldDeskModel" 94 999999999999999,
  Cond.constantLong "FieldDeskModel" 96 99,
  Cond.constantLong "FieldDeskModel" 98 9,
  Cond.constantLong "FieldDeskModel" 108 36,
  Cond.constantLong "FieldDeskModel" 110 10,
  Cond.methodLink "FieldDeskLaw" 52 nyD_end,
  Cond.instanceMethod nyD_end,
  Cond.selects "FieldDeskModel" nyD_end nyD_end,
  Cond.code nyD_end prog_5_method_21_code 3 (some FieldType.int),
  Cond.methodLink "FieldDeskLaw" 56 nyD_byteOf,
  Cond.instanceMethod nyD_byteOf,
  Cond.selects "FieldDeskModel" nyD_byteOf nyD_byteOf,
  Cond.code nyD_byteOf prog_5_method_22_code 2 (some FieldType.int),
  Cond.methodLink "FieldDeskLaw" 61 nyD_copy,
  Cond.instanceMethod nyD_copy,
  Cond.selects "FieldDeskModel" nyD_copy nyD_copy,
  Cond.code nyD_copy prog_5_method_23_code 2 (some FieldType.boolean),
  Cond.constantLong "FieldDeskLaw" 13 4294967295,
  Cond.fieldLink "java/lang/String" 9 "java/lang/String" "value" "[B",
  Cond.fieldLink "java/lang/String" 15 "java/lang/String" "coder" "B"]
set_option maxRecDepth 100000 in
theorem fd_TB_in : GoodIn lw_tbl fd_TB := goodIn_r _ [0, 1, 2, 3, 4, 5, 6, 7, 8, 9, 10, 11, 12, 13, 14, 15, 16, 17, 18, 19, 21, 22, 23, 24, 25, 26, 27, 28, 29, 30, 31, 32, 33, 34, 35, 36, 38, 40, 43, 44, 45, 47, 48, 49, 50, 51, 52, 54, 56, 58, 60, 62, 65, 66, 67, 68, 69, 70, 71, 73, 75, 77, 79, 82, 83, 84, 85, 86, 87, 88, 89, 90, 91, 92, 93, 94, 95, 96, 97, 98, 100, 101, 102, 104, 105, 106, 108, 109, 110, 112, 113, 114, 115, 116, 117, 118, 119, 120, 122, 123, 124, 125, 126, 127, 128, 129, 130, 132, 133, 134, 135, 136, 137, 138, 139, 140, 141, 142, 143, 144, 145, 146, 148, 149, 150, 170, 171, 172, 173, 174, 175, 176, 177, 178, 180, 181, 182, 183, 184, 185, 186, 187, 191, 192, 195, 197, 198, 200, 201, 202, 203, 204, 205, 206, 207, 208, 209, 210, 211, 212, 213, 214, 215, 216, 217, 219, 221, 222, 223, 224, 225, 226, 227, 228, 229, 230, 232, 233, 234, 235, 236, 237, 238, 240, 241, 242, 243, 244, 245, 246, 247, 248, 249, 250, 251, 252, 253, 254, 255, 256, 257, 258, 259, 260, 261, 262, 263, 264, 265, 266, 267, 268, 269, 270, 271, 272, 273, 276, 278, 280, 281, 282, 283, 284, 285, 286, 287, 288, 289, 290, 291, 292, 293, 294, 295, 296, 297, 298, 299, 300, 301, 302, 303, 304, 305, 306, 307, 308, 309, 310, 311, 312, 313, 314, 315, 316, 317, 318, 319, 320, 322, 324, 326, 328, 330, 332, 334, 336, 338, 340, 343, 344, 345, 346, 347, 348, 349, 350, 351, 352, 354, 355, 356, 357, 358, 359, 361, 362, 363, 364, 365, 366, 367, 368, 369, 370, 371, 372, 373, 374, 375, 376, 377, 378, 379, 380, 381, 382, 383, 384, 385, 386, 387, 388, 389, 390, 391, 392, 393, 394, 395, 396, 397, 398, 399, 401, 402, 403, 404, 405, 406, 407, 409, 410, 411, 412, 413, 414, 415, 416, 417, 418, 419, 420, 421, 422, 423, 424, 425, 426, 427, 428, 429, 430, 431, 432, 433, 434, 435, 436] rfl (by decide +kernel)
theorem fd_TB_good : ∀ w ∈ fd_TB, (w.onTables && w.keeps) = true ∨ ∃ ty, w = .arrayClass ty := fun w h => (fd_TB_in w h).2
theorem tb_0 : Cond.selects "FieldDesk" nyF_hearText nyF_hearText ∈ fd_TB := List.mem_of_getElem? (i := 0) rfl
theorem tb_1 : Cond.selects "FieldDesk" nyF_hearKind nyF_hearKind ∈ fd_TB := List.mem_of_getElem? (i := 1) rfl
theorem tb_2 : Cond.selects "FieldDesk" nyF_kindWithSigns nyF_kindWithSigns ∈ fd_TB := List.mem_of_getElem? (i := 2) rfl
theorem tb_3 : Cond.selects "FieldDesk" nyF_textBeginsAs nyF_textBeginsAs ∈ fd_TB := List.mem_of_getElem? (i := 3) rfl
theorem tb_4 : Cond.selects "FieldDesk$Message" nyM_dueLegSort nyM_dueLegSort ∈ fd_TB := List.mem_of_getElem? (i := 4) rfl
theorem tb_5 : Cond.selects "FieldDesk" nyF_hearField nyF_hearField ∈ fd_TB := List.mem_of_getElem? (i := 5) rfl
theorem tb_6 : Cond.selects "FieldDesk" nyF_hearCheckDigits nyF_hearCheckDigits ∈ fd_TB := List.mem_of_getElem? (i := 6) rfl
theorem tb_7 : Cond.selects "FieldDesk" nyF_writeField nyF_writeField ∈ fd_TB := List.mem_of_getElem? (i := 7) rfl
theorem tb_8 : Cond.selects "FieldDeskModel" nyD_kindOf nyD_kindOf ∈ fd_TB := List.mem_of_getElem? (i := 8) rfl
theorem tb_9 : Cond.selects "FieldDeskModel" nyD_fault nyD_fault ∈ fd_TB := List.mem_of_getElem? (i := 9) rfl
theorem tb_10 : Cond.selects "FieldDeskModel" nyD_lay nyD_lay ∈ fd_TB := List.mem_of_getElem? (i := 10) rfl
theorem tb_11 : Cond.selects "FieldDeskModel" nyD_nextSort nyD_nextSort ∈ fd_TB := List.mem_of_getElem? (i := 11) rfl
theorem tb_12 : Cond.initialized "FieldDeskLaw" ∈ fd_TB := List.mem_of_getElem? (i := 12) rfl
theorem tb_13 : Cond.initialized "FieldDesk" ∈ fd_TB := List.mem_of_getElem? (i := 13) rfl
theorem tb_14 : Cond.initialized "FieldDesk$Row" ∈ fd_TB := List.mem_of_getElem? (i := 14) rfl
theorem tb_15 : Cond.initialized "FieldDesk$Message" ∈ fd_TB := List.mem_of_getElem? (i := 15) rfl
theorem tb_16 : Cond.initialized "FieldDeskModel" ∈ fd_TB := List.mem_of_getElem? (i := 16) rfl
theorem tb_17 : Cond.initialized "java/lang/String" ∈ fd_TB := List.mem_of_getElem? (i := 17) rfl
theorem tb_18 : Cond.initialized "java/lang/StringLatin1" ∈ fd_TB := List.mem_of_getElem? (i := 18) rfl
theorem tb_19 : Cond.initialized "jdk/internal/util/Preconditions" ∈ fd_TB := List.mem_of_getElem? (i := 19) rfl
theorem tb_20 : Cond.classLink "FieldDeskLaw" 7 "FieldDesk" ∈ fd_TB := List.mem_of_getElem? (i := 20) rfl
theorem tb_21 : Cond.instantiable "FieldDesk" 5 ∈ fd_TB := List.mem_of_getElem? (i := 21) rfl
theorem tb_22 : Cond.methodLink "FieldDeskLaw" 9 nyF_init ∈ fd_TB := List.mem_of_getElem? (i := 22) rfl
theorem tb_23 : Cond.instanceMethod nyF_init ∈ fd_TB := List.mem_of_getElem? (i := 23) rfl
theorem tb_24 : Cond.code nyF_init prog_1_method_1_code 1 none ∈ fd_TB := List.mem_of_getElem? (i := 24) rfl
theorem tb_25 : Cond.methodLink "FieldDesk" 1 nyO_init ∈ fd_TB := List.mem_of_getElem? (i := 25) rfl
theorem tb_26 : Cond.instanceMethod nyO_init ∈ fd_TB := List.mem_of_getElem? (i := 26) rfl
theorem tb_27 : Cond.code nyO_init object_method_1_code 1 none ∈ fd_TB := List.mem_of_getElem? (i := 27) rfl
theorem tb_28 : Cond.classLink "FieldDesk" 7 "FieldDesk$Row" ∈ fd_TB := List.mem_of_getElem? (i := 28) rfl
theorem tb_29 : Cond.instantiable "FieldDesk$Row" 2 ∈ fd_TB := List.mem_of_getElem? (i := 29) rfl
theorem tb_30 : Cond.methodLink "FieldDesk" 11 nyR_init ∈ fd_TB := List.mem_of_getElem? (i := 30) rfl
theorem tb_31 : Cond.instanceMethod nyR_init ∈ fd_TB := List.mem_of_getElem? (i := 31) rfl
theorem tb_32 : Cond.code nyR_init prog_3_method_1_code 2 none ∈ fd_TB := List.mem_of_getElem? (i := 32) rfl
theorem tb_33 : Cond.methodLink "FieldDesk$Row" 1 nyO_init ∈ fd_TB := List.mem_of_getElem? (i := 33) rfl
theorem tb_34 : Cond.fieldLink "FieldDesk$Row" 13 "FieldDesk$Row" "bytes" "[I" ∈ fd_TB := List.mem_of_getElem? (i := 34) rfl
theorem tb_35 : Cond.fieldLink "FieldDesk$Row" 7 "FieldDesk$Row" "length" "I" ∈ fd_TB := List.mem_of_getElem? (i := 35) rfl
theorem tb_36 : Cond.laysFinal "FieldDesk$Row" "FieldDesk$Row" "bytes" "[I" ∈ fd_TB := List.mem_of_getElem? (i := 36) rfl
theorem tb_37 : Cond.lays "FieldDesk$Row" "FieldDesk$Row" "length" "I" ∈ fd_TB := List.mem_of_getElem? (i := 37) rfl
theorem tb_38 : Cond.arrayClass FieldType.int ∈ fd_TB := List.mem_of_getElem? (i := 38) rfl
theorem tb_39 : Cond.classLink "FieldDesk" 18 "FieldDesk$Message" ∈ fd_TB := List.mem_of_getElem? (i := 39) rfl
theorem tb_40 : Cond.instantiable "FieldDesk$Message" 4 ∈ fd_TB := List.mem_of_getElem? (i := 40) rfl
theorem tb_41 : Cond.instanceMethod nyM_init ∈ fd_TB := List.mem_of_getElem? (i := 41) rfl
theorem tb_42 : Cond.code nyM_init prog_2_method_1_code 1 none ∈ fd_TB := List.mem_of_getElem? (i := 42) rfl
theorem tb_43 : Cond.methodLink "FieldDesk$Message" 3 nyO_init ∈ fd_TB := List.mem_of_getElem? (i := 43) rfl
theorem tb_44 : Cond.fieldLink "FieldDesk$Message" 9 "FieldDesk$Message" "sorts" "[I" ∈ fd_TB := List.mem_of_getElem? (i := 44) rfl
theorem tb_45 : Cond.fieldLink "FieldDesk$Message" 15 "FieldDesk$Message" "numbers" "[J" ∈ fd_TB := List.mem_of_getElem? (i := 45) rfl
theorem tb_46 : Cond.fieldLink "FieldDesk$Message" 19 "FieldDesk$Message" "kind" "I" ∈ fd_TB := List.mem_of_getElem? (i := 46) rfl
theorem tb_47 : Cond.fieldLink "FieldDesk$Message" 23 "FieldDesk$Message" "count" "I" ∈ fd_TB := List.mem_of_getElem? (i := 47) rfl
theorem tb_48 : Cond.laysFinal "FieldDesk$Message" "FieldDesk$Message" "sorts" "[I" ∈ fd_TB := List.mem_of_getElem? (i := 48) rfl
theorem tb_49 : Cond.laysFinal "FieldDesk$Message" "FieldDesk$Message" "numbers" "[J" ∈ fd_TB := List.mem_of_getElem? (i := 49) rfl
theorem tb_50 : Cond.lays "FieldDesk$Message" "FieldDesk$Message" "kind" "I" ∈ fd_TB := List.mem_of_getElem? (i := 50) rfl
theorem tb_51 : Cond.lays "FieldDesk$Message" "FieldDesk$Message" "count" "I" ∈ fd_TB := List.mem_of_getElem? (i := 51) rfl
theorem tb_52 : Cond.arrayClass FieldType.long ∈ fd_TB := List.mem_of_getElem? (i := 52) rfl
theorem tb_53 : Cond.fieldLink "FieldDesk" 14 "FieldDesk" "text" "LFieldDesk$Row;" ∈ fd_TB := List.mem_of_getElem? (i := 53) rfl
theorem tb_54 : Cond.fieldLink "FieldDesk" 21 "FieldDesk" "heard" "LFieldDesk$Message;" ∈ fd_TB := List.mem_of_getElem? (i := 54) rfl
theorem tb_55 : Cond.fieldLink "FieldDesk" 25 "FieldDesk" "written" "LFieldDesk$Row;" ∈ fd_TB := List.mem_of_getElem? (i := 55) rfl
theorem tb_56 : Cond.fieldLink "FieldDesk" 28 "FieldDesk" "told" "LFieldDesk$Message;" ∈ fd_TB := List.mem_of_getElem? (i := 56) rfl
theorem tb_57 : Cond.fieldLink "FieldDesk" 31 "FieldDesk" "hasCheckDigits" "Z" ∈ fd_TB := List.mem_of_getElem? (i := 57) rfl
theorem tb_58 : Cond.laysFinal "FieldDesk" "FieldDesk" "text" "LFieldDesk$Row;" ∈ fd_TB := List.mem_of_getElem? (i := 58) rfl
theorem tb_59 : Cond.laysFinal "FieldDesk" "FieldDesk" "heard" "LFieldDesk$Message;" ∈ fd_TB := List.mem_of_getElem? (i := 59) rfl
theorem tb_60 : Cond.laysFinal "FieldDesk" "FieldDesk" "written" "LFieldDesk$Row;" ∈ fd_TB := List.mem_of_getElem? (i := 60) rfl
theorem tb_61 : Cond.laysFinal "FieldDesk" "FieldDesk" "told" "LFieldDesk$Message;" ∈ fd_TB := List.mem_of_getElem? (i := 61) rfl
theorem tb_62 : Cond.lays "FieldDesk" "FieldDesk" "hasCheckDigits" "Z" ∈ fd_TB := List.mem_of_getElem? (i := 62) rfl
theorem tb_63 : Cond.methodLink "FieldDeskLaw" 15 nyF_type ∈ fd_TB := List.mem_of_getElem? (i := 63) rfl
theorem tb_64 : Cond.instanceMethod nyF_type ∈ fd_TB := List.mem_of_getElem? (i := 64) rfl
theorem tb_65 : Cond.selects "FieldDesk" nyF_type nyF_type ∈ fd_TB := List.mem_of_getElem? (i := 65) rfl
theorem tb_66 : Cond.code nyF_type prog_1_method_2_code 5 (some FieldType.boolean) ∈ fd_TB := List.mem_of_getElem? (i := 66) rfl
theorem tb_67 : Cond.methodLink "FieldDesk" 35 nyR_hasRoomFor ∈ fd_TB := List.mem_of_getElem? (i := 67) rfl
theorem tb_68 : Cond.instanceMethod nyR_hasRoomFor ∈ fd_TB := List.mem_of_getElem? (i := 68) rfl
theorem tb_69 : Cond.selects "FieldDesk$Row" nyR_hasRoomFor nyR_hasRoomFor ∈ fd_TB := List.mem_of_getElem? (i := 69) rfl
theorem tb_70 : Cond.code nyR_hasRoomFor prog_3_method_2_code 2 (some FieldType.boolean) ∈ fd_TB := List.mem_of_getElem? (i := 70) rfl
theorem tb_71 : Cond.methodLink "FieldDesk" 39 nyR_append ∈ fd_TB := List.mem_of_getElem? (i := 71) rfl
theorem tb_72 : Cond.instanceMethod nyR_append ∈ fd_TB := List.mem_of_getElem? (i := 72) rfl
theorem tb_73 : Cond.selects "FieldDesk$Row" nyR_append nyR_append ∈ fd_TB := List.mem_of_getElem? (i := 73) rfl
theorem tb_74 : Cond.code nyR_append prog_3_method_4_code 2 none ∈ fd_TB := List.mem_of_getElem? (i := 74) rfl
theorem tb_75 : Cond.methodLink "FieldDeskLaw" 20 nyF_read ∈ fd_TB := List.mem_of_getElem? (i := 75) rfl
theorem tb_76 : Cond.instanceMethod nyF_read ∈ fd_TB := List.mem_of_getElem? (i := 76) rfl
theorem tb_77 : Cond.selects "FieldDesk" nyF_read nyF_read ∈ fd_TB := List.mem_of_getElem? (i := 77) rfl
theorem tb_78 : Cond.code nyF_read prog_1_method_3_code 2 (some FieldType.int) ∈ fd_TB := List.mem_of_getElem? (i := 78) rfl
theorem tb_79 : Cond.methodLink "FieldDesk" 42 nyF_hearText ∈ fd_TB := List.mem_of_getElem? (i := 79) rfl
theorem tb_80 : Cond.instanceMethod nyF_hearText ∈ fd_TB := List.mem_of_getElem? (i := 80) rfl
theorem tb_81 : Cond.code nyF_hearText prog_1_method_12_code 5 (some FieldType.int) ∈ fd_TB := List.mem_of_getElem? (i := 81) rfl
theorem tb_82 : Cond.methodLink "FieldDesk" 95 nyF_hearKind ∈ fd_TB := List.mem_of_getElem? (i := 82) rfl
theorem tb_83 : Cond.instanceMethod nyF_hearKind ∈ fd_TB := List.mem_of_getElem? (i := 83) rfl
theorem tb_84 : Cond.code nyF_hearKind prog_1_method_13_code 2 (some FieldType.int) ∈ fd_TB := List.mem_of_getElem? (i := 84) rfl
theorem tb_85 : Cond.methodLink "FieldDesk" 112 nyF_kindWithSigns ∈ fd_TB := List.mem_of_getElem? (i := 85) rfl
theorem tb_86 : Cond.instanceMethod nyF_kindWithSigns ∈ fd_TB := List.mem_of_getElem? (i := 86) rfl
theorem tb_87 : Cond.code nyF_kindWithSigns prog_1_method_14_code 3 (some FieldType.int) ∈ fd_TB := List.mem_of_getElem? (i := 87) rfl
theorem tb_88 : Cond.methodLink "FieldDesk" 115 nyF_textBeginsAs ∈ fd_TB := List.mem_of_getElem? (i := 88) rfl
theorem tb_89 : Cond.instanceMethod nyF_textBeginsAs ∈ fd_TB := List.mem_of_getElem? (i := 89) rfl
theorem tb_90 : Cond.code nyF_textBeginsAs prog_1_method_15_code 4 (some FieldType.boolean) ∈ fd_TB := List.mem_of_getElem? (i := 90) rfl
theorem tb_91 : Cond.methodLink "FieldDesk" 92 nyR_at ∈ fd_TB := List.mem_of_getElem? (i := 91) rfl
theorem tb_92 : Cond.instanceMethod nyR_at ∈ fd_TB := List.mem_of_getElem? (i := 92) rfl
theorem tb_93 : Cond.selects "FieldDesk$Row" nyR_at nyR_at ∈ fd_TB := List.mem_of_getElem? (i := 93) rfl
theorem tb_94 : Cond.code nyR_at prog_3_method_6_code 2 (some FieldType.int) ∈ fd_TB := List.mem_of_getElem? (i := 94) rfl
theorem tb_95 : Cond.methodLink "FieldDesk" 67 nyF_letterOf ∈ fd_TB := List.mem_of_getElem? (i := 95) rfl
theorem tb_96 : Cond.static nyF_letterOf ∈ fd_TB := List.mem_of_getElem? (i := 96) rfl
theorem tb_97 : Cond.code nyF_letterOf prog_1_method_25_code 3 (some FieldType.int) ∈ fd_TB := List.mem_of_getElem? (i := 97) rfl
theorem tb_98 : Cond.methodLink "FieldDesk" 157 nyS_length ∈ fd_TB := List.mem_of_getElem? (i := 98) rfl
theorem tb_99 : Cond.instanceMethod nyS_length ∈ fd_TB := List.mem_of_getElem? (i := 99) rfl
theorem tb_100 : Cond.selects "java/lang/String" nyS_length nyS_length ∈ fd_TB := List.mem_of_getElem? (i := 100) rfl
theorem tb_101 : Cond.code nyS_length prog_6_method_54_code 1 (some FieldType.int) ∈ fd_TB := List.mem_of_getElem? (i := 101) rfl
theorem tb_102 : Cond.methodLink "java/lang/String" 335 nyS_coder ∈ fd_TB := List.mem_of_getElem? (i := 102) rfl
theorem tb_103 : Cond.instanceMethod nyS_coder ∈ fd_TB := List.mem_of_getElem? (i := 103) rfl
theorem tb_104 : Cond.selects "java/lang/String" nyS_coder nyS_coder ∈ fd_TB := List.mem_of_getElem? (i := 104) rfl
theorem tb_105 : Cond.code nyS_coder prog_6_method_152_code 1 (some FieldType.byte) ∈ fd_TB := List.mem_of_getElem? (i := 105) rfl
theorem tb_106 : Cond.fieldLink "java/lang/String" 38 "java/lang/String" "COMPACT_STRINGS" "Z" ∈ fd_TB := List.mem_of_getElem? (i := 106) rfl
theorem tb_107 : Cond.methodLink "FieldDesk" 161 nyS_charAt ∈ fd_TB := List.mem_of_getElem? (i := 107) rfl
theorem tb_108 : Cond.instanceMethod nyS_charAt ∈ fd_TB := List.mem_of_getElem? (i := 108) rfl
theorem tb_109 : Cond.selects "java/lang/String" nyS_charAt nyS_charAt ∈ fd_TB := List.mem_of_getElem? (i := 109) rfl
theorem tb_110 : Cond.code nyS_charAt prog_6_method_56_code 2 (some FieldType.char) ∈ fd_TB := List.mem_of_getElem? (i := 110) rfl
theorem tb_111 : Cond.methodLink "java/lang/String" 492 nyS_isLatin1 ∈ fd_TB := List.mem_of_getElem? (i := 111) rfl
theorem tb_112 : Cond.instanceMethod nyS_isLatin1 ∈ fd_TB := List.mem_of_getElem? (i := 112) rfl
theorem tb_113 : Cond.selects "java/lang/String" nyS_isLatin1 nyS_isLatin1 ∈ fd_TB := List.mem_of_getElem? (i := 113) rfl
theorem tb_114 : Cond.code nyS_isLatin1 prog_6_method_154_code 1 (some FieldType.boolean) ∈ fd_TB := List.mem_of_getElem? (i := 114) rfl
theorem tb_115 : Cond.methodLink "java/lang/String" 495 nyT_charAt ∈ fd_TB := List.mem_of_getElem? (i := 115) rfl
theorem tb_116 : Cond.static nyT_charAt ∈ fd_TB := List.mem_of_getElem? (i := 116) rfl
theorem tb_117 : Cond.code nyT_charAt prog_7_method_2_code 2 (some FieldType.char) ∈ fd_TB := List.mem_of_getElem? (i := 117) rfl
theorem tb_118 : Cond.methodLink "java/lang/StringLatin1" 9 nyS_checkIndex ∈ fd_TB := List.mem_of_getElem? (i := 118) rfl
theorem tb_119 : Cond.static nyS_checkIndex ∈ fd_TB := List.mem_of_getElem? (i := 119) rfl
theorem tb_120 : Cond.code nyS_checkIndex prog_6_method_155_code 2 none ∈ fd_TB := List.mem_of_getElem? (i := 120) rfl
theorem tb_121 : Cond.fieldLink "java/lang/String" 1053 "jdk/internal/util/Preconditions" "SIOOBE_FORMATTER" "Ljava/util/function/BiFunction;" ∈ fd_TB := List.mem_of_getElem? (i := 121) rfl
theorem tb_122 : Cond.methodLink "java/lang/String" 1059 nyP_checkIndex ∈ fd_TB := List.mem_of_getElem? (i := 122) rfl
theorem tb_123 : Cond.static nyP_checkIndex ∈ fd_TB := List.mem_of_getElem? (i := 123) rfl
theorem tb_124 : Cond.code nyP_checkIndex prog_9_method_11_code 3 (some FieldType.int) ∈ fd_TB := List.mem_of_getElem? (i := 124) rfl
theorem tb_125 : Cond.methodLink "FieldDesk" 49 nyM_start ∈ fd_TB := List.mem_of_getElem? (i := 125) rfl
theorem tb_126 : Cond.instanceMethod nyM_start ∈ fd_TB := List.mem_of_getElem? (i := 126) rfl
theorem tb_127 : Cond.selects "FieldDesk$Message" nyM_start nyM_start ∈ fd_TB := List.mem_of_getElem? (i := 127) rfl
theorem tb_128 : Cond.code nyM_start prog_2_method_2_code 2 none ∈ fd_TB := List.mem_of_getElem? (i := 128) rfl
theorem tb_129 : Cond.methodLink "FieldDesk" 75 nyM_dueSort ∈ fd_TB := List.mem_of_getElem? (i := 129) rfl
theorem tb_130 : Cond.instanceMethod nyM_dueSort ∈ fd_TB := List.mem_of_getElem? (i := 130) rfl
theorem tb_131 : Cond.selects "FieldDesk$Message" nyM_dueSort nyM_dueSort ∈ fd_TB := List.mem_of_getElem? (i := 131) rfl
theorem tb_132 : Cond.code nyM_dueSort prog_2_method_5_code 1 (some FieldType.int) ∈ fd_TB := List.mem_of_getElem? (i := 132) rfl
theorem tb_133 : Cond.methodLink "FieldDesk$Message" 28 nyM_dueLegSort ∈ fd_TB := List.mem_of_getElem? (i := 133) rfl
theorem tb_134 : Cond.instanceMethod nyM_dueLegSort ∈ fd_TB := List.mem_of_getElem? (i := 134) rfl
theorem tb_135 : Cond.code nyM_dueLegSort prog_2_method_6_code 4 (some FieldType.int) ∈ fd_TB := List.mem_of_getElem? (i := 135) rfl
theorem tb_136 : Cond.methodLink "FieldDesk$Message" 39 nyM_numberAt ∈ fd_TB := List.mem_of_getElem? (i := 136) rfl
theorem tb_137 : Cond.instanceMethod nyM_numberAt ∈ fd_TB := List.mem_of_getElem? (i := 137) rfl
theorem tb_138 : Cond.selects "FieldDesk$Message" nyM_numberAt nyM_numberAt ∈ fd_TB := List.mem_of_getElem? (i := 138) rfl
theorem tb_139 : Cond.code nyM_numberAt prog_2_method_4_code 2 (some FieldType.long) ∈ fd_TB := List.mem_of_getElem? (i := 139) rfl
theorem tb_140 : Cond.constantLong "FieldDesk$Message" 26 (-1) ∈ fd_TB := List.mem_of_getElem? (i := 140) rfl
theorem tb_141 : Cond.constantLong "FieldDesk$Message" 43 4 ∈ fd_TB := List.mem_of_getElem? (i := 141) rfl
theorem tb_142 : Cond.static nyF_entry ∈ fd_TB := List.mem_of_getElem? (i := 142) rfl
theorem tb_143 : Cond.code nyF_entry prog_1_method_26_code 2 (some FieldType.int) ∈ fd_TB := List.mem_of_getElem? (i := 143) rfl
theorem tb_144 : Cond.fieldLink "FieldDesk" 98 "FieldDesk" "SIGNS" "[I" ∈ fd_TB := List.mem_of_getElem? (i := 144) rfl
theorem tb_145 : Cond.methodLink "FieldDesk" 102 nyF_entry ∈ fd_TB := List.mem_of_getElem? (i := 145) rfl
theorem tb_146 : Cond.methodLink "FieldDesk" 106 nyF_hearField ∈ fd_TB := List.mem_of_getElem? (i := 146) rfl
theorem tb_147 : Cond.instanceMethod nyF_hearField ∈ fd_TB := List.mem_of_getElem? (i := 147) rfl
theorem tb_148 : Cond.code nyF_hearField prog_1_method_16_code 9 (some FieldType.int) ∈ fd_TB := List.mem_of_getElem? (i := 148) rfl
theorem tb_149 : Cond.methodLink "FieldDesk" 119 nyF_isToBase36 ∈ fd_TB := List.mem_of_getElem? (i := 149) rfl
theorem tb_150 : Cond.static nyF_isToBase36 ∈ fd_TB := List.mem_of_getElem? (i := 150) rfl
theorem tb_151 : Cond.code nyF_isToBase36 prog_1_method_19_code 1 (some FieldType.boolean) ∈ fd_TB := List.mem_of_getElem? (i := 151) rfl
theorem tb_152 : Cond.methodLink "FieldDesk" 122 nyF_valueInSort ∈ fd_TB := List.mem_of_getElem? (i := 152) rfl
theorem tb_153 : Cond.static nyF_valueInSort ∈ fd_TB := List.mem_of_getElem? (i := 153) rfl
theorem tb_154 : Cond.code nyF_valueInSort prog_1_method_20_code 4 (some FieldType.int) ∈ fd_TB := List.mem_of_getElem? (i := 154) rfl
theorem tb_155 : Cond.methodLink "FieldDesk" 143 nyF_valueOfClass ∈ fd_TB := List.mem_of_getElem? (i := 155) rfl
theorem tb_156 : Cond.static nyF_valueOfClass ∈ fd_TB := List.mem_of_getElem? (i := 156) rfl
theorem tb_157 : Cond.code nyF_valueOfClass prog_1_method_22_code 1 (some FieldType.int) ∈ fd_TB := List.mem_of_getElem? (i := 157) rfl
theorem tb_158 : Cond.methodLink "FieldDesk" 146 nyF_valueOfSign ∈ fd_TB := List.mem_of_getElem? (i := 158) rfl
theorem tb_159 : Cond.static nyF_valueOfSign ∈ fd_TB := List.mem_of_getElem? (i := 159) rfl
theorem tb_160 : Cond.code nyF_valueOfSign prog_1_method_23_code 1 (some FieldType.int) ∈ fd_TB := List.mem_of_getElem? (i := 160) rfl
theorem tb_161 : Cond.methodLink "FieldDesk" 129 nyF_isDigit ∈ fd_TB := List.mem_of_getElem? (i := 161) rfl
theorem tb_162 : Cond.static nyF_isDigit ∈ fd_TB := List.mem_of_getElem? (i := 162) rfl
theorem tb_163 : Cond.code nyF_isDigit prog_1_method_24_code 1 (some FieldType.boolean) ∈ fd_TB := List.mem_of_getElem? (i := 163) rfl
theorem tb_164 : Cond.fieldLink "FieldDesk" 149 "FieldDesk" "LEAST_VALUE" "[I" ∈ fd_TB := List.mem_of_getElem? (i := 164) rfl
theorem tb_165 : Cond.fieldLink "FieldDesk" 152 "FieldDesk" "MOST_VALUE" "[I" ∈ fd_TB := List.mem_of_getElem? (i := 165) rfl
theorem tb_166 : Cond.methodLink "FieldDesk" 125 nyM_mustBeZero ∈ fd_TB := List.mem_of_getElem? (i := 166) rfl
theorem tb_167 : Cond.instanceMethod nyM_mustBeZero ∈ fd_TB := List.mem_of_getElem? (i := 167) rfl
theorem tb_168 : Cond.selects "FieldDesk$Message" nyM_mustBeZero nyM_mustBeZero ∈ fd_TB := List.mem_of_getElem? (i := 168) rfl
theorem tb_169 : Cond.code nyM_mustBeZero prog_2_method_7_code 1 (some FieldType.boolean) ∈ fd_TB := List.mem_of_getElem? (i := 169) rfl
theorem tb_170 : Cond.methodLink "FieldDesk" 82 nyM_take ∈ fd_TB := List.mem_of_getElem? (i := 170) rfl
theorem tb_171 : Cond.instanceMethod nyM_take ∈ fd_TB := List.mem_of_getElem? (i := 171) rfl
theorem tb_172 : Cond.selects "FieldDesk$Message" nyM_take nyM_take ∈ fd_TB := List.mem_of_getElem? (i := 172) rfl
theorem tb_173 : Cond.code nyM_take prog_2_method_9_code 3 none ∈ fd_TB := List.mem_of_getElem? (i := 173) rfl
theorem tb_174 : Cond.methodLink "FieldDesk$Message" 48 nyM_dueSort ∈ fd_TB := List.mem_of_getElem? (i := 174) rfl
theorem tb_175 : Cond.methodLink "FieldDesk" 109 nyF_hearCheckDigits ∈ fd_TB := List.mem_of_getElem? (i := 175) rfl
theorem tb_176 : Cond.instanceMethod nyF_hearCheckDigits ∈ fd_TB := List.mem_of_getElem? (i := 176) rfl
theorem tb_177 : Cond.code nyF_hearCheckDigits prog_1_method_17_code 3 (some FieldType.int) ∈ fd_TB := List.mem_of_getElem? (i := 177) rfl
theorem tb_178 : Cond.methodLink "FieldDesk" 86 nyR_remainder ∈ fd_TB := List.mem_of_getElem? (i := 178) rfl
theorem tb_179 : Cond.instanceMethod nyR_remainder ∈ fd_TB := List.mem_of_getElem? (i := 179) rfl
theorem tb_180 : Cond.selects "FieldDesk$Row" nyR_remainder nyR_remainder ∈ fd_TB := List.mem_of_getElem? (i := 180) rfl
theorem tb_181 : Cond.code nyR_remainder prog_3_method_7_code 4 (some FieldType.int) ∈ fd_TB := List.mem_of_getElem? (i := 181) rfl
theorem tb_182 : Cond.methodLink "FieldDesk$Row" 17 nyR_at ∈ fd_TB := List.mem_of_getElem? (i := 182) rfl
theorem tb_183 : Cond.methodLink "FieldDesk" 46 nyR_clear ∈ fd_TB := List.mem_of_getElem? (i := 183) rfl
theorem tb_184 : Cond.instanceMethod nyR_clear ∈ fd_TB := List.mem_of_getElem? (i := 184) rfl
theorem tb_185 : Cond.selects "FieldDesk$Row" nyR_clear nyR_clear ∈ fd_TB := List.mem_of_getElem? (i := 185) rfl
theorem tb_186 : Cond.code nyR_clear prog_3_method_3_code 1 none ∈ fd_TB := List.mem_of_getElem? (i := 186) rfl
theorem tb_187 : Cond.arrayClass FieldType.byte ∈ fd_TB := List.mem_of_getElem? (i := 187) rfl
theorem tb_188 : Cond.methodLink "FieldDeskLaw" 25 nyF_fields ∈ fd_TB := List.mem_of_getElem? (i := 188) rfl
theorem tb_189 : Cond.instanceMethod nyF_fields ∈ fd_TB := List.mem_of_getElem? (i := 189) rfl
theorem tb_190 : Cond.selects "FieldDesk" nyF_fields nyF_fields ∈ fd_TB := List.mem_of_getElem? (i := 190) rfl
theorem tb_191 : Cond.code nyF_fields prog_1_method_4_code 1 (some FieldType.int) ∈ fd_TB := List.mem_of_getElem? (i := 191) rfl
theorem tb_192 : Cond.methodLink "FieldDeskLaw" 29 nyF_sort ∈ fd_TB := List.mem_of_getElem? (i := 192) rfl
theorem tb_193 : Cond.instanceMethod nyF_sort ∈ fd_TB := List.mem_of_getElem? (i := 193) rfl
theorem tb_194 : Cond.selects "FieldDesk" nyF_sort nyF_sort ∈ fd_TB := List.mem_of_getElem? (i := 194) rfl
theorem tb_195 : Cond.code nyF_sort prog_1_method_5_code 2 (some FieldType.int) ∈ fd_TB := List.mem_of_getElem? (i := 195) rfl
theorem tb_196 : Cond.methodLink "FieldDesk" 59 nyM_sortAt ∈ fd_TB := List.mem_of_getElem? (i := 196) rfl
theorem tb_197 : Cond.instanceMethod nyM_sortAt ∈ fd_TB := List.mem_of_getElem? (i := 197) rfl
theorem tb_198 : Cond.selects "FieldDesk$Message" nyM_sortAt nyM_sortAt ∈ fd_TB := List.mem_of_getElem? (i := 198) rfl
theorem tb_199 : Cond.code nyM_sortAt prog_2_method_3_code 2 (some FieldType.int) ∈ fd_TB := List.mem_of_getElem? (i := 199) rfl
theorem tb_200 : Cond.methodLink "FieldDeskLaw" 34 nyF_number ∈ fd_TB := List.mem_of_getElem? (i := 200) rfl
theorem tb_201 : Cond.instanceMethod nyF_number ∈ fd_TB := List.mem_of_getElem? (i := 201) rfl
theorem tb_202 : Cond.selects "FieldDesk" nyF_number nyF_number ∈ fd_TB := List.mem_of_getElem? (i := 202) rfl
theorem tb_203 : Cond.code nyF_number prog_1_method_6_code 2 (some FieldType.long) ∈ fd_TB := List.mem_of_getElem? (i := 203) rfl
theorem tb_204 : Cond.methodLink "FieldDesk" 63 nyM_numberAt ∈ fd_TB := List.mem_of_getElem? (i := 204) rfl
theorem tb_205 : Cond.methodLink "FieldDeskLaw" 39 nyF_begin ∈ fd_TB := List.mem_of_getElem? (i := 205) rfl
theorem tb_206 : Cond.instanceMethod nyF_begin ∈ fd_TB := List.mem_of_getElem? (i := 206) rfl
theorem tb_207 : Cond.selects "FieldDesk" nyF_begin nyF_begin ∈ fd_TB := List.mem_of_getElem? (i := 207) rfl
theorem tb_208 : Cond.code nyF_begin prog_1_method_7_code 3 (some FieldType.boolean) ∈ fd_TB := List.mem_of_getElem? (i := 208) rfl
theorem tb_209 : Cond.methodLink "FieldDeskLaw" 44 nyF_add ∈ fd_TB := List.mem_of_getElem? (i := 209) rfl
theorem tb_210 : Cond.instanceMethod nyF_add ∈ fd_TB := List.mem_of_getElem? (i := 210) rfl
theorem tb_211 : Cond.selects "FieldDesk" nyF_add nyF_add ∈ fd_TB := List.mem_of_getElem? (i := 211) rfl
theorem tb_212 : Cond.code nyF_add prog_1_method_8_code 3 (some FieldType.boolean) ∈ fd_TB := List.mem_of_getElem? (i := 212) rfl
theorem tb_213 : Cond.methodLink "FieldDesk" 71 nyM_suits ∈ fd_TB := List.mem_of_getElem? (i := 213) rfl
theorem tb_214 : Cond.instanceMethod nyM_suits ∈ fd_TB := List.mem_of_getElem? (i := 214) rfl
theorem tb_215 : Cond.selects "FieldDesk$Message" nyM_suits nyM_suits ∈ fd_TB := List.mem_of_getElem? (i := 215) rfl
theorem tb_216 : Cond.code nyM_suits prog_2_method_8_code 4 (some FieldType.boolean) ∈ fd_TB := List.mem_of_getElem? (i := 216) rfl
theorem tb_217 : Cond.methodLink "FieldDesk$Message" 55 nyM_mustBeZero ∈ fd_TB := List.mem_of_getElem? (i := 217) rfl
theorem tb_218 : Cond.methodLink "FieldDesk" 78 nyF_writeField ∈ fd_TB := List.mem_of_getElem? (i := 218) rfl
theorem tb_219 : Cond.instanceMethod nyF_writeField ∈ fd_TB := List.mem_of_getElem? (i := 219) rfl
theorem tb_220 : Cond.code nyF_writeField prog_1_method_18_code 11 none ∈ fd_TB := List.mem_of_getElem? (i := 220) rfl
theorem tb_221 : Cond.constantLong "FieldDesk" 132 36 ∈ fd_TB := List.mem_of_getElem? (i := 221) rfl
theorem tb_222 : Cond.constantLong "FieldDesk" 134 10 ∈ fd_TB := List.mem_of_getElem? (i := 222) rfl
theorem tb_223 : Cond.methodLink "FieldDesk" 136 nyF_signInSort ∈ fd_TB := List.mem_of_getElem? (i := 223) rfl
theorem tb_224 : Cond.static nyF_signInSort ∈ fd_TB := List.mem_of_getElem? (i := 224) rfl
theorem tb_225 : Cond.code nyF_signInSort prog_1_method_21_code 2 (some FieldType.int) ∈ fd_TB := List.mem_of_getElem? (i := 225) rfl
theorem tb_226 : Cond.methodLink "FieldDesk" 139 nyR_put ∈ fd_TB := List.mem_of_getElem? (i := 226) rfl
theorem tb_227 : Cond.instanceMethod nyR_put ∈ fd_TB := List.mem_of_getElem? (i := 227) rfl
theorem tb_228 : Cond.selects "FieldDesk$Row" nyR_put nyR_put ∈ fd_TB := List.mem_of_getElem? (i := 228) rfl
theorem tb_229 : Cond.code nyR_put prog_3_method_5_code 3 none ∈ fd_TB := List.mem_of_getElem? (i := 229) rfl
theorem tb_230 : Cond.methodLink "FieldDeskLaw" 49 nyF_end ∈ fd_TB := List.mem_of_getElem? (i := 230) rfl
theorem tb_231 : Cond.instanceMethod nyF_end ∈ fd_TB := List.mem_of_getElem? (i := 231) rfl
theorem tb_232 : Cond.selects "FieldDesk" nyF_end nyF_end ∈ fd_TB := List.mem_of_getElem? (i := 232) rfl
theorem tb_233 : Cond.code nyF_end prog_1_method_9_code 2 (some FieldType.int) ∈ fd_TB := List.mem_of_getElem? (i := 233) rfl
theorem tb_234 : Cond.methodLink "FieldDeskLaw" 53 nyF_byteOf ∈ fd_TB := List.mem_of_getElem? (i := 234) rfl
theorem tb_235 : Cond.instanceMethod nyF_byteOf ∈ fd_TB := List.mem_of_getElem? (i := 235) rfl
theorem tb_236 : Cond.selects "FieldDesk" nyF_byteOf nyF_byteOf ∈ fd_TB := List.mem_of_getElem? (i := 236) rfl
theorem tb_237 : Cond.code nyF_byteOf prog_1_method_10_code 2 (some FieldType.int) ∈ fd_TB := List.mem_of_getElem? (i := 237) rfl
theorem tb_238 : Cond.methodLink "FieldDeskLaw" 57 nyF_copy ∈ fd_TB := List.mem_of_getElem? (i := 238) rfl
theorem tb_239 : Cond.instanceMethod nyF_copy ∈ fd_TB := List.mem_of_getElem? (i := 239) rfl
theorem tb_240 : Cond.selects "FieldDesk" nyF_copy nyF_copy ∈ fd_TB := List.mem_of_getElem? (i := 240) rfl
theorem tb_241 : Cond.code nyF_copy prog_1_method_11_code 2 (some FieldType.boolean) ∈ fd_TB := List.mem_of_getElem? (i := 241) rfl
theorem tb_242 : Cond.classLink "FieldDeskLaw" 10 "FieldDeskModel" ∈ fd_TB := List.mem_of_getElem? (i := 242) rfl
theorem tb_243 : Cond.instantiable "FieldDeskModel" 11 ∈ fd_TB := List.mem_of_getElem? (i := 243) rfl
theorem tb_244 : Cond.methodLink "FieldDeskLaw" 12 nyD_init ∈ fd_TB := List.mem_of_getElem? (i := 244) rfl
theorem tb_245 : Cond.instanceMethod nyD_init ∈ fd_TB := List.mem_of_getElem? (i := 245) rfl
theorem tb_246 : Cond.code nyD_init prog_5_method_1_code 1 none ∈ fd_TB := List.mem_of_getElem? (i := 246) rfl
theorem tb_247 : Cond.methodLink "FieldDeskModel" 1 nyO_init ∈ fd_TB := List.mem_of_getElem? (i := 247) rfl
theorem tb_248 : Cond.fieldLink "FieldDeskModel" 7 "FieldDeskModel" "text" "[I" ∈ fd_TB := List.mem_of_getElem? (i := 248) rfl
theorem tb_249 : Cond.fieldLink "FieldDeskModel" 29 "FieldDeskModel" "size" "I" ∈ fd_TB := List.mem_of_getElem? (i := 249) rfl
theorem tb_250 : Cond.fieldLink "FieldDeskModel" 39 "FieldDeskModel" "kind" "I" ∈ fd_TB := List.mem_of_getElem? (i := 250) rfl
theorem tb_251 : Cond.fieldLink "FieldDeskModel" 42 "FieldDeskModel" "many" "I" ∈ fd_TB := List.mem_of_getElem? (i := 251) rfl
theorem tb_252 : Cond.fieldLink "FieldDeskModel" 13 "FieldDeskModel" "numbers" "[J" ∈ fd_TB := List.mem_of_getElem? (i := 252) rfl
theorem tb_253 : Cond.fieldLink "FieldDeskModel" 74 "FieldDeskModel" "writes" "I" ∈ fd_TB := List.mem_of_getElem? (i := 253) rfl
theorem tb_254 : Cond.fieldLink "FieldDeskModel" 77 "FieldDeskModel" "closed" "Z" ∈ fd_TB := List.mem_of_getElem? (i := 254) rfl
theorem tb_255 : Cond.fieldLink "FieldDeskModel" 71 "FieldDeskModel" "written" "I" ∈ fd_TB := List.mem_of_getElem? (i := 255) rfl
theorem tb_256 : Cond.fieldLink "FieldDeskModel" 17 "FieldDeskModel" "out" "[I" ∈ fd_TB := List.mem_of_getElem? (i := 256) rfl
theorem tb_257 : Cond.fieldLink "FieldDeskModel" 81 "FieldDeskModel" "added" "I" ∈ fd_TB := List.mem_of_getElem? (i := 257) rfl
theorem tb_258 : Cond.fieldLink "FieldDeskModel" 20 "FieldDeskModel" "given" "[J" ∈ fd_TB := List.mem_of_getElem? (i := 258) rfl
theorem tb_259 : Cond.laysFinal "FieldDeskModel" "FieldDeskModel" "text" "[I" ∈ fd_TB := List.mem_of_getElem? (i := 259) rfl
theorem tb_260 : Cond.lays "FieldDeskModel" "FieldDeskModel" "size" "I" ∈ fd_TB := List.mem_of_getElem? (i := 260) rfl
theorem tb_261 : Cond.lays "FieldDeskModel" "FieldDeskModel" "kind" "I" ∈ fd_TB := List.mem_of_getElem? (i := 261) rfl
theorem tb_262 : Cond.lays "FieldDeskModel" "FieldDeskModel" "many" "I" ∈ fd_TB := List.mem_of_getElem? (i := 262) rfl
theorem tb_263 : Cond.laysFinal "FieldDeskModel" "FieldDeskModel" "numbers" "[J" ∈ fd_TB := List.mem_of_getElem? (i := 263) rfl
theorem tb_264 : Cond.lays "FieldDeskModel" "FieldDeskModel" "writes" "I" ∈ fd_TB := List.mem_of_getElem? (i := 264) rfl
theorem tb_265 : Cond.lays "FieldDeskModel" "FieldDeskModel" "closed" "Z" ∈ fd_TB := List.mem_of_getElem? (i := 265) rfl
theorem tb_266 : Cond.lays "FieldDeskModel" "FieldDeskModel" "written" "I" ∈ fd_TB := List.mem_of_getElem? (i := 266) rfl
theorem tb_267 : Cond.laysFinal "FieldDeskModel" "FieldDeskModel" "out" "[I" ∈ fd_TB := List.mem_of_getElem? (i := 267) rfl
theorem tb_268 : Cond.lays "FieldDeskModel" "FieldDeskModel" "added" "I" ∈ fd_TB := List.mem_of_getElem? (i := 268) rfl
theorem tb_269 : Cond.laysFinal "FieldDeskModel" "FieldDeskModel" "given" "[J" ∈ fd_TB := List.mem_of_getElem? (i := 269) rfl
theorem tb_270 : Cond.methodLink "FieldDeskLaw" 19 nyD_type ∈ fd_TB := List.mem_of_getElem? (i := 270) rfl
theorem tb_271 : Cond.instanceMethod nyD_type ∈ fd_TB := List.mem_of_getElem? (i := 271) rfl
theorem tb_272 : Cond.selects "FieldDeskModel" nyD_type nyD_type ∈ fd_TB := List.mem_of_getElem? (i := 272) rfl
theorem tb_273 : Cond.code nyD_type prog_5_method_9_code 5 (some FieldType.boolean) ∈ fd_TB := List.mem_of_getElem? (i := 273) rfl
theorem tb_274 : Cond.constantLong "FieldDeskModel" 33 255 ∈ fd_TB := List.mem_of_getElem? (i := 274) rfl
theorem tb_275 : Cond.methodLink "FieldDeskLaw" 24 nyD_read ∈ fd_TB := List.mem_of_getElem? (i := 275) rfl
theorem tb_276 : Cond.instanceMethod nyD_read ∈ fd_TB := List.mem_of_getElem? (i := 276) rfl
theorem tb_277 : Cond.selects "FieldDeskModel" nyD_read nyD_read ∈ fd_TB := List.mem_of_getElem? (i := 277) rfl
theorem tb_278 : Cond.code nyD_read prog_5_method_12_code 6 (some FieldType.int) ∈ fd_TB := List.mem_of_getElem? (i := 278) rfl
theorem tb_279 : Cond.methodLink "FieldDeskModel" 45 nyD_kindOf ∈ fd_TB := List.mem_of_getElem? (i := 279) rfl
theorem tb_280 : Cond.instanceMethod nyD_kindOf ∈ fd_TB := List.mem_of_getElem? (i := 280) rfl
theorem tb_281 : Cond.code nyD_kindOf prog_5_method_10_code 5 (some FieldType.int) ∈ fd_TB := List.mem_of_getElem? (i := 281) rfl
theorem tb_282 : Cond.methodLink "FieldDeskModel" 35 nyD_letter ∈ fd_TB := List.mem_of_getElem? (i := 282) rfl
theorem tb_283 : Cond.static nyD_letter ∈ fd_TB := List.mem_of_getElem? (i := 283) rfl
theorem tb_284 : Cond.code nyD_letter prog_5_method_2_code 2 (some FieldType.int) ∈ fd_TB := List.mem_of_getElem? (i := 284) rfl
theorem tb_285 : Cond.methodLink "FieldDeskModel" 49 nyD_fault ∈ fd_TB := List.mem_of_getElem? (i := 285) rfl
theorem tb_286 : Cond.instanceMethod nyD_fault ∈ fd_TB := List.mem_of_getElem? (i := 286) rfl
theorem tb_287 : Cond.code nyD_fault prog_5_method_11_code 2 (some FieldType.int) ∈ fd_TB := List.mem_of_getElem? (i := 287) rfl
theorem tb_288 : Cond.methodLink "FieldDeskModel" 52 nyD_step ∈ fd_TB := List.mem_of_getElem? (i := 288) rfl
theorem tb_289 : Cond.static nyD_step ∈ fd_TB := List.mem_of_getElem? (i := 289) rfl
theorem tb_290 : Cond.code nyD_step prog_5_method_8_code 2 (some FieldType.int) ∈ fd_TB := List.mem_of_getElem? (i := 290) rfl
theorem tb_291 : Cond.methodLink "FieldDeskModel" 55 nyD_width ∈ fd_TB := List.mem_of_getElem? (i := 291) rfl
theorem tb_292 : Cond.static nyD_width ∈ fd_TB := List.mem_of_getElem? (i := 292) rfl
theorem tb_293 : Cond.code nyD_width prog_5_method_4_code 1 (some FieldType.int) ∈ fd_TB := List.mem_of_getElem? (i := 293) rfl
theorem tb_294 : Cond.methodLink "FieldDeskModel" 58 nyD_fits ∈ fd_TB := List.mem_of_getElem? (i := 294) rfl
theorem tb_295 : Cond.static nyD_fits ∈ fd_TB := List.mem_of_getElem? (i := 295) rfl
theorem tb_296 : Cond.code nyD_fits prog_5_method_7_code 3 (some FieldType.boolean) ∈ fd_TB := List.mem_of_getElem? (i := 296) rfl
theorem tb_297 : Cond.methodLink "FieldDeskModel" 25 nyD_isSign ∈ fd_TB := List.mem_of_getElem? (i := 297) rfl
theorem tb_298 : Cond.static nyD_isSign ∈ fd_TB := List.mem_of_getElem? (i := 298) rfl
theorem tb_299 : Cond.code nyD_isSign prog_5_method_5_code 1 (some FieldType.boolean) ∈ fd_TB := List.mem_of_getElem? (i := 299) rfl
theorem tb_300 : Cond.methodLink "FieldDeskModel" 62 nyD_valueOf ∈ fd_TB := List.mem_of_getElem? (i := 300) rfl
theorem tb_301 : Cond.static nyD_valueOf ∈ fd_TB := List.mem_of_getElem? (i := 301) rfl
theorem tb_302 : Cond.code nyD_valueOf prog_5_method_6_code 1 (some FieldType.int) ∈ fd_TB := List.mem_of_getElem? (i := 302) rfl
theorem tb_303 : Cond.methodLink "FieldDeskModel" 65 nyD_sortOf ∈ fd_TB := List.mem_of_getElem? (i := 303) rfl
theorem tb_304 : Cond.static nyD_sortOf ∈ fd_TB := List.mem_of_getElem? (i := 304) rfl
theorem tb_305 : Cond.code nyD_sortOf prog_5_method_3_code 5 (some FieldType.int) ∈ fd_TB := List.mem_of_getElem? (i := 305) rfl
theorem tb_306 : Cond.constantLong "FieldDeskModel" 23 4 ∈ fd_TB := List.mem_of_getElem? (i := 306) rfl
theorem tb_307 : Cond.methodLink "FieldDeskLaw" 28 nyD_fields ∈ fd_TB := List.mem_of_getElem? (i := 307) rfl
theorem tb_308 : Cond.instanceMethod nyD_fields ∈ fd_TB := List.mem_of_getElem? (i := 308) rfl
theorem tb_309 : Cond.selects "FieldDeskModel" nyD_fields nyD_fields ∈ fd_TB := List.mem_of_getElem? (i := 309) rfl
theorem tb_310 : Cond.code nyD_fields prog_5_method_13_code 1 (some FieldType.int) ∈ fd_TB := List.mem_of_getElem? (i := 310) rfl
theorem tb_311 : Cond.methodLink "FieldDeskLaw" 33 nyD_sort ∈ fd_TB := List.mem_of_getElem? (i := 311) rfl
theorem tb_312 : Cond.instanceMethod nyD_sort ∈ fd_TB := List.mem_of_getElem? (i := 312) rfl
theorem tb_313 : Cond.selects "FieldDeskModel" nyD_sort nyD_sort ∈ fd_TB := List.mem_of_getElem? (i := 313) rfl
theorem tb_314 : Cond.code nyD_sort prog_5_method_14_code 2 (some FieldType.int) ∈ fd_TB := List.mem_of_getElem? (i := 314) rfl
theorem tb_315 : Cond.methodLink "FieldDeskLaw" 38 nyD_number ∈ fd_TB := List.mem_of_getElem? (i := 315) rfl
theorem tb_316 : Cond.instanceMethod nyD_number ∈ fd_TB := List.mem_of_getElem? (i := 316) rfl
theorem tb_317 : Cond.selects "FieldDeskModel" nyD_number nyD_number ∈ fd_TB := List.mem_of_getElem? (i := 317) rfl
theorem tb_318 : Cond.code nyD_number prog_5_method_15_code 2 (some FieldType.long) ∈ fd_TB := List.mem_of_getElem? (i := 318) rfl
theorem tb_319 : Cond.constantLong "FieldDeskModel" 69 (-1) ∈ fd_TB := List.mem_of_getElem? (i := 319) rfl
theorem tb_320 : Cond.methodLink "FieldDeskLaw" 43 nyD_begin ∈ fd_TB := List.mem_of_getElem? (i := 320) rfl
theorem tb_321 : Cond.instanceMethod nyD_begin ∈ fd_TB := List.mem_of_getElem? (i := 321) rfl
theorem tb_322 : Cond.selects "FieldDeskModel" nyD_begin nyD_begin ∈ fd_TB := List.mem_of_getElem? (i := 322) rfl
theorem tb_323 : Cond.code nyD_begin prog_5_method_17_code 3 (some FieldType.boolean) ∈ fd_TB := List.mem_of_getElem? (i := 323) rfl
theorem tb_324 : Cond.methodLink "FieldDeskModel" 84 nyD_lay ∈ fd_TB := List.mem_of_getElem? (i := 324) rfl
theorem tb_325 : Cond.instanceMethod nyD_lay ∈ fd_TB := List.mem_of_getElem? (i := 325) rfl
theorem tb_326 : Cond.code nyD_lay prog_5_method_16_code 2 none ∈ fd_TB := List.mem_of_getElem? (i := 326) rfl
theorem tb_327 : Cond.methodLink "FieldDeskLaw" 48 nyD_add ∈ fd_TB := List.mem_of_getElem? (i := 327) rfl
theorem tb_328 : Cond.instanceMethod nyD_add ∈ fd_TB := List.mem_of_getElem? (i := 328) rfl
theorem tb_329 : Cond.selects "FieldDeskModel" nyD_add nyD_add ∈ fd_TB := List.mem_of_getElem? (i := 329) rfl
theorem tb_330 : Cond.code nyD_add prog_5_method_20_code 11 (some FieldType.boolean) ∈ fd_TB := List.mem_of_getElem? (i := 330) rfl
theorem tb_331 : Cond.methodLink "FieldDeskModel" 100 nyD_nextSort ∈ fd_TB := List.mem_of_getElem? (i := 331) rfl
theorem tb_332 : Cond.instanceMethod nyD_nextSort ∈ fd_TB := List.mem_of_getElem? (i := 332) rfl
theorem tb_333 : Cond.code nyD_nextSort prog_5_method_19_code 1 (some FieldType.int) ∈ fd_TB := List.mem_of_getElem? (i := 333) rfl
theorem tb_334 : Cond.methodLink "FieldDeskModel" 104 nyD_most ∈ fd_TB := List.mem_of_getElem? (i := 334) rfl
theorem tb_335 : Cond.static nyD_most ∈ fd_TB := List.mem_of_getElem? (i := 335) rfl
theorem tb_336 : Cond.code nyD_most prog_5_method_18_code 1 (some FieldType.long) ∈ fd_TB := List.mem_of_getElem? (i := 336) rfl
theorem tb_337 : Cond.constantLong "FieldDeskModel" 88 1679615 ∈ fd_TB := List.mem_of_getElem? (i := 337) rfl
theorem tb_338 : Cond.constantLong "FieldDeskModel" 90 46655 ∈ fd_TB := List.mem_of_getElem? (i := 338) rfl
theorem tb_339 : Cond.constantLong "FieldDeskModel" 92 2821109907455 ∈ fd_TB := List.mem_of_getElem? (i := 339) rfl
theorem tb_340 : Cond.constantLong "FieldDeskModel" 94 999999999999999 ∈ fd_TB := List.mem_of_getElem? (i := 340) rfl
theorem tb_341 : Cond.constantLong "FieldDeskModel" 96 99 ∈ fd_TB := List.mem_of_getElem? (i := 341) rfl
theorem tb_342 : Cond.constantLong "FieldDeskModel" 98 9 ∈ fd_TB := List.mem_of_getElem? (i := 342) rfl
theorem tb_343 : Cond.constantLong "FieldDeskModel" 108 36 ∈ fd_TB := List.mem_of_getElem? (i := 343) rfl
theorem tb_344 : Cond.constantLong "FieldDeskModel" 110 10 ∈ fd_TB := List.mem_of_getElem? (i := 344) rfl
theorem tb_345 : Cond.methodLink "FieldDeskLaw" 52 nyD_end ∈ fd_TB := List.mem_of_getElem? (i := 345) rfl
theorem tb_346 : Cond.instanceMethod nyD_end ∈ fd_TB := List.mem_of_getElem? (i := 346) rfl
theorem tb_347 : Cond.selects "FieldDeskModel" nyD_end nyD_end ∈ fd_TB := List.mem_of_getElem? (i := 347) rfl
theorem tb_348 : Cond.code nyD_end prog_5_method_21_code 3 (some FieldType.int) ∈ fd_TB := List.mem_of_getElem? (i := 348) rfl
theorem tb_349 : Cond.methodLink "FieldDeskLaw" 56 nyD_byteOf ∈ fd_TB := List.mem_of_getElem? (i := 349) rfl
theorem tb_350 : Cond.instanceMethod nyD_byteOf ∈ fd_TB := List.mem_of_getElem? (i := 350) rfl
theorem tb_351 : Cond.selects "FieldDeskModel" nyD_byteOf nyD_byteOf ∈ fd_TB := List.mem_of_getElem? (i := 351) rfl
theorem tb_352 : Cond.code nyD_byteOf prog_5_method_22_code 2 (some FieldType.int) ∈ fd_TB := List.mem_of_getElem? (i := 352) rfl
theorem tb_353 : Cond.methodLink "FieldDeskLaw" 61 nyD_copy ∈ fd_TB := List.mem_of_getElem? (i := 353) rfl
theorem tb_354 : Cond.instanceMethod nyD_copy ∈ fd_TB := List.mem_of_getElem? (i := 354) rfl
theorem tb_355 : Cond.selects "FieldDeskModel" nyD_copy nyD_copy ∈ fd_TB := List.mem_of_getElem? (i := 355) rfl
theorem tb_356 : Cond.code nyD_copy prog_5_method_23_code 2 (some FieldType.boolean) ∈ fd_TB := List.mem_of_getElem? (i := 356) rfl
theorem tb_357 : Cond.constantLong "FieldDeskLaw" 13 4294967295 ∈ fd_TB := List.mem_of_getElem? (i := 357) rfl
theorem tb_358 : Cond.fieldLink "java/lang/String" 9 "java/lang/String" "value" "[B" ∈ fd_TB := List.mem_of_getElem? (i := 358) rfl
theorem tb_359 : Cond.fieldLink "java/lang/String" 15 "java/lang/String" "coder" "B" ∈ fd_TB := List.mem_of_getElem? (i := 359) rfl
def fd_NB : List Cond := [
  Cond.fieldLinkNest "FieldDesk" 89 "FieldDesk$Row" "length" "I" "FieldDesk",
  Cond.methodLinkNest "FieldDesk" 20 nyM_init "FieldDesk",
  Cond.fieldLinkNest "FieldDesk" 52 "FieldDesk$Message" "kind" "I" "FieldDesk",
  Cond.fieldLinkNest "FieldDesk" 56 "FieldDesk$Message" "count" "I" "FieldDesk",
  Cond.fieldLinkNest "FieldDesk$Message" 45 "FieldDesk" "LEG_SORTS" "[I" "FieldDesk",
  Cond.methodLinkNest "FieldDesk$Message" 35 nyF_entry "FieldDesk",
  Cond.fieldLinkNest "FieldDesk$Message" 32 "FieldDesk" "KIND_SORTS" "[I" "FieldDesk",
  Cond.methodLinkNest "FieldDesk$Row" 21 nyF_valueOfSign "FieldDesk",
  Cond.fieldLinkNest "FieldDesk$Message" 52 "FieldDesk" "MOST_NUMBER" "[J" "FieldDesk",
  Cond.fieldLinkNest "FieldDesk$Message" 59 "FieldDesk" "LEAST_VALUE" "[I" "FieldDesk"]
theorem fd_NB_on : fd_NB.all (fun w => w.onTables) = true := by decide +kernel
set_option maxRecDepth 100000 in
theorem fd_NB_in : ∀ w ∈ fd_NB, w ∈ lw_tbl := by
  have h : fd_NB = [37, 46, 53, 55, 188, 190, 193, 239, 274, 277].filterMap (fun i => lw_tbl[i]?) := rfl
  intro w hw
  rw [h] at hw
  obtain ⟨i, -, hi⟩ := List.mem_filterMap.mp hw
  exact List.mem_of_getElem? hi
theorem nb_0 : Cond.fieldLinkNest "FieldDesk" 89 "FieldDesk$Row" "length" "I" "FieldDesk" ∈ fd_NB := List.mem_of_getElem? (i := 0) rfl
theorem nb_1 : Cond.methodLinkNest "FieldDesk" 20 nyM_init "FieldDesk" ∈ fd_NB := List.mem_of_getElem? (i := 1) rfl
theorem nb_2 : Cond.fieldLinkNest "FieldDesk" 52 "FieldDesk$Message" "kind" "I" "FieldDesk" ∈ fd_NB := List.mem_of_getElem? (i := 2) rfl
theorem nb_3 : Cond.fieldLinkNest "FieldDesk" 56 "FieldDesk$Message" "count" "I" "FieldDesk" ∈ fd_NB := List.mem_of_getElem? (i := 3) rfl
theorem nb_4 : Cond.fieldLinkNest "FieldDesk$Message" 45 "FieldDesk" "LEG_SORTS" "[I" "FieldDesk" ∈ fd_NB := List.mem_of_getElem? (i := 4) rfl
theorem nb_5 : Cond.methodLinkNest "FieldDesk$Message" 35 nyF_entry "FieldDesk" ∈ fd_NB := List.mem_of_getElem? (i := 5) rfl
theorem nb_6 : Cond.fieldLinkNest "FieldDesk$Message" 32 "FieldDesk" "KIND_SORTS" "[I" "FieldDesk" ∈ fd_NB := List.mem_of_getElem? (i := 6) rfl
theorem nb_7 : Cond.methodLinkNest "FieldDesk$Row" 21 nyF_valueOfSign "FieldDesk" ∈ fd_NB := List.mem_of_getElem? (i := 7) rfl
theorem nb_8 : Cond.fieldLinkNest "FieldDesk$Message" 52 "FieldDesk" "MOST_NUMBER" "[J" "FieldDesk" ∈ fd_NB := List.mem_of_getElem? (i := 8) rfl
theorem nb_9 : Cond.fieldLinkNest "FieldDesk$Message" 59 "FieldDesk" "LEAST_VALUE" "[I" "FieldDesk" ∈ fd_NB := List.mem_of_getElem? (i := 9) rfl
theorem in_R : ∀ w ∈ u_ws nR_R nT_R 2, w ∈ fd_TB := by decide +kernel
theorem in_M : ∀ w ∈ u_ws nR_M nT_M 4, w ∈ fd_TB := by decide +kernel
theorem in_F : ∀ w ∈ u_ws nR_F nT_F 5, w ∈ fd_TB := by decide +kernel
theorem in_D : ∀ w ∈ u_ws nR_D nT_D 11, w ∈ fd_TB := by decide +kernel
theorem fd_gi {y : MethodName} {c : ByteArray} {n : Nat} {r : Option FieldType} (h : Cond.code y c n r ∈ fd_TB) : GoodIn fd_TB (.code y c n r :: fd_TB) := fun w hw => by
  rcases List.mem_cons.mp hw with rfl | hw
  · exact ⟨h, fd_TB_good _ h⟩
  · exact ⟨hw, fd_TB_good _ hw⟩
theorem fd_gV {own C : String} {i : Nat} {y : MethodName} {c : ByteArray} {n : Nat} {r : Option FieldType} (h1 : Cond.methodLink own i y ∈ fd_TB) (h2 : Cond.instanceMethod y ∈ fd_TB) (h3 : Cond.selects C y y ∈ fd_TB) (h4 : Cond.initialized C ∈ fd_TB) (h : Cond.code y c n r ∈ fd_TB) : GoodIn fd_TB (wsV own i C y (.code y c n r :: fd_TB)) := fun w hw => by
  unfold wsV at hw
  rcases List.mem_append.mp hw with hw | hw
  · have hm : w ∈ fd_TB := by
      simp only [List.mem_cons, List.not_mem_nil, or_false] at hw
      rcases hw with rfl | rfl | rfl | rfl <;> assumption
    exact ⟨hm, fd_TB_good _ hm⟩
  · exact fd_gi h w hw
theorem fd_gS {own : String} {i : Nat} {y : MethodName} {c : ByteArray} {n : Nat} {r : Option FieldType} (h1 : Cond.methodLink own i y ∈ fd_TB) (h2 : Cond.static y ∈ fd_TB) (h3 : Cond.initialized y.cls ∈ fd_TB) (h : Cond.code y c n r ∈ fd_TB) : GoodIn fd_TB (va_wsS own i y (.code y c n r :: fd_TB)) := fun w hw => by
  unfold va_wsS at hw
  rcases List.mem_append.mp hw with hw | hw
  · have hm : w ∈ fd_TB := by
      simp only [List.mem_cons, List.not_mem_nil, or_false] at hw
      rcases hw with rfl | rfl | rfl <;> assumption
    exact ⟨hm, fd_TB_good _ hm⟩
  · exact fd_gi h w hw
