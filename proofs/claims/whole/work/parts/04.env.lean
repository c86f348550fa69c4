/-! what of the machine, beside the objects, the methods use: the class's static tables, its text constant, nest links -/
def fd_tab (k : Nat) : List Int32 := match k with
  | 0 => [0, 4, 3, 8, 15, 1, 2, 1, 1]
  | 1 => [0, 0, 0, 0, 0, 0, 0, 1, 1]
  | 2 => [0, 35, 35, 35, 9, 1, 9, 9, 4]
  | 3 => [1, 3, 1, 0, 0, 0, 1, 3, 2, 5, 4, 6, 1, 3, 2, 4, 6, 0, 1, 3, 2, 1, 4, 0, 1, 3, 2, 1, 4, 0, 1, 3, 7, 8, 0, 0, 1, 3, 1, 3, 0, 0, 1, 3, 3, 0, 0, 0, 1, 3, 3, 7, 0, 0, 1, 3, 1, 4, 0, 0, 1, 3, 1, 0, 0, 0, 1, 3, 2, 4, 0, 0, 1, 3, 2, 4, 0, 0, 1, 3, 0, 0, 0, 0, 1, 3, 0, 0, 0, 0]
  | _ => [1, 1, 2, 4]
def fd_sn (k : Nat) : String := match k with
  | 0 => "SIGNS"
  | 1 => "LEAST_VALUE"
  | 2 => "MOST_VALUE"
  | 3 => "KIND_SORTS"
  | _ => "LEG_SORTS"
def fd_mn : List Int64 := [0, 1679615, 46655, 2821109907455, 999999999999999, 1, 99, 9, 4]
def fd_kl : List Int32 := [78, 69, 87, 65, 83, 84, 80, 82, 67, 73, 83, 83, 82, 69, 68, 80, 65, 89, 67, 78, 70, 67, 65, 78, 80, 82, 73, 76, 73, 77, 85, 78, 76, 80, 76, 71, 85, 78, 80, 82, 69, 83, 83, 84, 77]
def fd_EV (Z : Nat → Nat) (A : Nat → Prop) (U : State) (H : Heap) : Prop :=
  (∀ w ∈ fd_NB, va_Nw w U) ∧ vk_R "FieldDesk" 155 "NEWASTPRCISSREDPAYCNFCANPRILIMUNLPLGUNPRESSTM" (Z 6) U ∧ va_Z "java/lang/String" "COMPACT_STRINGS" "Z" (.int 1) A U H ∧
  (∀ k, k < 5 → va_Z "FieldDesk" (fd_sn k) "[I" (.ref (Z k)) A U H ∧ va_T .int (Z k) (fd_tab k).length (fun j => .int ((fd_tab k).getD j 0)) A U H) ∧
  (va_Z "FieldDesk" "MOST_NUMBER" "[J" (.ref (Z 5)) A U H ∧ va_T .long (Z 5) 9 (fun j => .long (fd_mn.getD j 0)) A U H) ∧
  va_O "java/lang/String" (Z 6) A U H ∧ va_OF "java/lang/String" "coder" "B" (.int 0) (Z 6) A U H ∧ va_OF "java/lang/String" "value" "[B" (.ref (Z 7)) (Z 6) A U H ∧ va_T .byte (Z 7) 45 (fun j => .int (fd_kl.getD j 0)) A U H ∧
  va_Zq "jdk/internal/util/Preconditions" "SIOOBE_FORMATTER" "Ljava/util/function/BiFunction;" A U H
theorem fd_NB_warm {u U : State} (hW : u.WarmedH U.vm) (h : ∀ w ∈ fd_NB, va_Nw w u) : ∀ w ∈ fd_NB, va_Nw w U := by
  intro w hw
  have h0 := h w hw
  simp only [fd_NB, List.mem_cons, List.not_mem_nil, or_false] at hw
  rcases hw with rfl | rfl | rfl | rfl | rfl | rfl | rfl | rfl | rfl | rfl <;> first | exact va_Nw.warmF hW h0 | exact va_Nw.warmM hW h0
theorem fd_EV_ok (Z : Nat → Nat) : fd_Eok (fd_EV Z) := by
  refine ⟨?_, ?_, ?_, ?_⟩
  · rintro A u U H hW ⟨h1, h2, h3, h4, h5, h6, h7, h8, h9, h10⟩
    exact ⟨fd_NB_warm hW h1, h2.warm hW, h3.moved hW.alike, fun k hk => ⟨(h4 k hk).1.moved hW.alike, (h4 k hk).2.moved hW.alike⟩, ⟨h5.1.moved hW.alike, h5.2.moved hW.alike⟩, h6.moved hW.alike, h7.moved hW.alike, h8.moved hW.alike, h9.moved hW.alike, h10.moved hW.alike⟩
  · rintro A U H g mk a ⟨h1, h2, h3, h4, h5, h6, h7, h8, h9, h10⟩
    have al : U.vm.Alike (U.calling g mk a).vm := Vm.Alike.refl U.vm
    exact ⟨fun w hw => va_Nw.same (List.all_eq_true.mp fd_NB_on w hw) (u := U) rfl (h1 w hw), vk_R.same (u := U) rfl h2, h3.moved al, fun k hk => ⟨(h4 k hk).1.moved al, (h4 k hk).2.moved al⟩, ⟨h5.1.moved al, h5.2.moved al⟩, h6.moved al, h7.moved al, h8.moved al, h9.moved al, h10.moved al⟩
  · rintro A U H H1 ⟨h1, h2, h3, h4, h5, h6, h7, h8, h9, h10⟩ hq
    exact ⟨h1, h2, h3.kept hq, fun k hk => ⟨(h4 k hk).1.kept hq, (h4 k hk).2.kept hq⟩, ⟨h5.1.kept hq, h5.2.kept hq⟩, h6.kept hq, h7.kept hq, h8.kept hq, h9.kept hq, h10.kept hq⟩
  · rintro A B U H ⟨h1, h2, h3, h4, h5, h6, h7, h8, h9, h10⟩ hq
    exact ⟨h1, h2, h3.narrow hq, fun k hk => ⟨(h4 k hk).1.narrow hq, (h4 k hk).2.narrow hq⟩, ⟨h5.1.narrow hq, h5.2.narrow hq⟩, h6.narrow hq, h7.narrow hq, h8.narrow hq, h9.narrow hq, h10.narrow hq⟩
/-- a contract of this claim's methods, over its classes, arrays and surroundings -/
abbrev fd_ty (cI cL : ClassId) : List (ClassId × FieldType) := [(cI, .int), (cL, .long)]
theorem fd_nw {Z : Nat → Nat} {A : Nat → Prop} {U : State} {H : Heap} {args : Array Value} (h : fd_EV Z A U H) {w : Cond} (hw : w ∈ fd_NB) : w.before args U = true := va_Nw.use (List.all_eq_true.mp fd_NB_on w hw) (h.1 w hw)
