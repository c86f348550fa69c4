/-! the reference: its small functions, type, begin, end, copy and the reads -/
def fd_isg (c : Int32) : Int32 := if c < 48 then (if c < 65 then 0 else if 90 < c then 0 else 1) else if c ≤ 57 then 1 else (if c < 65 then 0 else if 90 < c then 0 else 1)
def fd_vo (c : Int32) : Int32 := if 57 < c then c - 65 + 10 else c - 48
def fd_stp (r c : Int32) : Int32 := if 57 < c then (r * 100 + c - 65 + 10) - (r * 100 + c - 65 + 10) / 97 * 97 else (r * 10 + c - 48) - (r * 10 + c - 48) / 97 * 97
def fd_fit (s : Nat) (c z : Int32) : Int32 := if s < 4 then fd_isg c else if s = 5 then (if c = 67 then 1 else if c = 83 then 1 else 0) else if s = 7 then (if c < 49 then 0 else if 57 < c then 0 else 1) else if s = 8 then (if c < 49 then 0 else if 52 < c then 0 else 1) else (if c < 48 then 0 else if (if z = 0 then 57 else 48) < c then 0 else 1)
theorem fd_isg_nar (x : Int32) : narrow .boolean (.int (fd_isg x)) = .int (fd_isg x) := by
  unfold fd_isg; (repeat' split) <;> rfl
theorem fd_so0 {q : Nat} (h1 : 1 ≤ q) (h2 : q ≤ 15) (fn : Nat → Int64) : fd_due q 0 fn = 1 := by
  have h : ∀ q, q < 16 → 1 ≤ q → fd_ent 3 (nI ((q - 1) * 6 + 0)) = 1 := by decide +kernel
  rw [fd_due, if_neg (by omega)]
  split
  · rw [if_pos (by omega)]; exact h q (by omega) h1
  · rw [if_neg (by omega)]; exact h q (by omega) h1
theorem fd_so1 {q : Nat} (h1 : 1 ≤ q) (h2 : q ≤ 15) (fn : Nat → Int64) : fd_due q 1 fn = 3 := by
  have h : ∀ q, q < 16 → 1 ≤ q → fd_ent 3 (nI ((q - 1) * 6 + 1)) = 3 := by decide +kernel
  rw [fd_due, if_neg (by omega)]
  split
  · rw [if_pos (by omega)]; exact h q (by omega) h1
  · rw [if_neg (by omega)]; exact h q (by omega) h1
theorem fd_so6 {j : Nat} (h : 4 ≤ j) (fn : Nat → Int64) : fd_due 6 j fn = fd_leg (j - 4) (fn 3) := by
  rw [fd_due, if_neg (by omega), if_pos rfl, if_neg (by omega)]
theorem fd_lg4 : ∀ r, r < 4 → ((r < 2 → 1 = fd_ent 4 (nI r)) ∧ (r = 2 → 2 = fd_ent 4 (nI r)) ∧ (r = 3 → 4 = fd_ent 4 (nI r))) := by decide +kernel
theorem fd_sub2 {j : Nat} (h : 4 ≤ j) : nI (j - 2) - 2 = nI (j - 4) := by
  rw [show (2 : Int32) = nI 2 from rfl, pk_sub (by omega), Nat.sub_sub]
set_option maxHeartbeats 4000000 in
set_option maxRecDepth 100000 in
theorem kD_letter (l : Launch) (D : va_G) (Z : Nat → Nat) (cI cL : ClassId) {kd i : Nat} (h1 : 1 ≤ kd) (h2 : kd ≤ 15) (hi : i < 3) : fd_Mi l D fd_cl (fd_ty cI cL) (fd_EV Z) nyD_letter (.code nyD_letter ncD_letter 2 (some .int) :: fd_TB) nmD_letter [.int (nI kd), .int (nI i)] [] [] (fd_let kd i) := by
  refine fd_open_i (cc := ncD_letter) (maxL := 2) (ret := (some .int)) (by decide) rfl (Nat.le_of_ble_eq_true rfl) ?_
  intro p e s m below meth c A ls X hP hD hS hl
  obtain ⟨hx, hb, hr, hml, hown, hts0, hlocks, hK, hEV, hA⟩ := X
  have hts : ∀ w ∈ fd_TB, w.before _ s = true := fun w h => hts0 w (List.mem_cons_of_mem _ h)
  have hE := fd_EV_ok Z
  have hown : s.vm.findClass "FieldDeskModel" = some m.cls := hown
  have hl : lv_has ls 2 [(0, .int (nI kd)), (1, .int (nI i))] := hl
  refine lv_iload_n hx hb ndD_letter_0 rfl (lv_at hl 0 rfl) ?_
  rcases (show kd = 1 ∨ kd = 2 ∨ kd = 3 ∨ kd = 4 ∨ kd = 5 ∨ kd = 6 ∨ kd = 7 ∨ kd = 8 ∨ kd = 9 ∨ kd = 10 ∨ kd = 11 ∨ kd = 12 ∨ kd = 13 ∨ kd = 14 ∨ kd = 15 by omega) with rfl | rfl | rfl | rfl | rfl | rfl | rfl | rfl | rfl | rfl | rfl | rfl | rfl | rfl | rfl
  · refine lv_tableIn (off := 71) (tgt := 72) hx hb ndD_letter_1 (by decide) (by decide) (by decide) (by decide) ?_
    refine lv_iload_n hx hb ndD_letter_72 rfl (lv_at hl 1 rfl) ?_
    refine lv_if_ne (tgt := 81) hx hb ndD_letter_73 (by decide) (fun c_73 => ?_) (fun c_73 => ?_)
    · have n_73 := mt (nI_eq (a := i) (b := 0) (by omega) (by omega)).mpr c_73
      refine lv_iload_n hx hb ndD_letter_81 rfl (lv_at hl 1 rfl) ?_
      refine lv_iconst (v := 1) hx hb ndD_letter_82 (by decide) ?_
      refine lv_icmp_ne (tgt := 91) hx hb ndD_letter_83 (by decide) (fun c_83 => ?_) (fun c_83 => ?_)
      · have n_83 := mt (nI_eq (a := i) (b := 1) (by omega) (by omega)).mpr c_83
        refine lv_bipush (v := 87) hx hb ndD_letter_91 (by decide) ?_
        exact fd_ret_i hx hb hr hlocks hS hP hD rfl (by rcases (show i = 0 ∨ i = 1 ∨ i = 2 by omega) with rfl | rfl | rfl <;> first | rfl | (exfalso; omega)) ndD_letter_93
      · have n_83 := (nI_eq (a := i) (b := 1) (by omega) (by omega)).mp c_83
        refine lv_bipush (v := 69) hx hb ndD_letter_86 (by decide) ?_
        refine lv_goto (tgt := 93) hx hb ndD_letter_88 (by decide) ?_
        exact fd_ret_i hx hb hr hlocks hS hP hD rfl (by rcases (show i = 0 ∨ i = 1 ∨ i = 2 by omega) with rfl | rfl | rfl <;> first | rfl | (exfalso; omega)) ndD_letter_93
    · have n_73 := (nI_eq (a := i) (b := 0) (by omega) (by omega)).mp c_73
      refine lv_bipush (v := 78) hx hb ndD_letter_76 (by decide) ?_
      refine lv_goto (tgt := 93) hx hb ndD_letter_78 (by decide) ?_
      exact fd_ret_i hx hb hr hlocks hS hP hD rfl (by rcases (show i = 0 ∨ i = 1 ∨ i = 2 by omega) with rfl | rfl | rfl <;> first | rfl | (exfalso; omega)) ndD_letter_93
  · refine lv_tableIn (off := 93) (tgt := 94) hx hb ndD_letter_1 (by decide) (by decide) (by decide) (by decide) ?_
    refine lv_iload_n hx hb ndD_letter_94 rfl (lv_at hl 1 rfl) ?_
    refine lv_if_ne (tgt := 103) hx hb ndD_letter_95 (by decide) (fun c_95 => ?_) (fun c_95 => ?_)
    · have n_95 := mt (nI_eq (a := i) (b := 0) (by omega) (by omega)).mpr c_95
      refine lv_iload_n hx hb ndD_letter_103 rfl (lv_at hl 1 rfl) ?_
      refine lv_iconst (v := 1) hx hb ndD_letter_104 (by decide) ?_
      refine lv_icmp_ne (tgt := 113) hx hb ndD_letter_105 (by decide) (fun c_105 => ?_) (fun c_105 => ?_)
      · have n_105 := mt (nI_eq (a := i) (b := 1) (by omega) (by omega)).mpr c_105
        refine lv_bipush (v := 84) hx hb ndD_letter_113 (by decide) ?_
        exact fd_ret_i hx hb hr hlocks hS hP hD rfl (by rcases (show i = 0 ∨ i = 1 ∨ i = 2 by omega) with rfl | rfl | rfl <;> first | rfl | (exfalso; omega)) ndD_letter_115
      · have n_105 := (nI_eq (a := i) (b := 1) (by omega) (by omega)).mp c_105
        refine lv_bipush (v := 83) hx hb ndD_letter_108 (by decide) ?_
        refine lv_goto (tgt := 115) hx hb ndD_letter_110 (by decide) ?_
        exact fd_ret_i hx hb hr hlocks hS hP hD rfl (by rcases (show i = 0 ∨ i = 1 ∨ i = 2 by omega) with rfl | rfl | rfl <;> first | rfl | (exfalso; omega)) ndD_letter_115
    · have n_95 := (nI_eq (a := i) (b := 0) (by omega) (by omega)).mp c_95
      refine lv_bipush (v := 65) hx hb ndD_letter_98 (by decide) ?_
      refine lv_goto (tgt := 115) hx hb ndD_letter_100 (by decide) ?_
      exact fd_ret_i hx hb hr hlocks hS hP hD rfl (by rcases (show i = 0 ∨ i = 1 ∨ i = 2 by omega) with rfl | rfl | rfl <;> first | rfl | (exfalso; omega)) ndD_letter_115
  · refine lv_tableIn (off := 115) (tgt := 116) hx hb ndD_letter_1 (by decide) (by decide) (by decide) (by decide) ?_
    refine lv_iload_n hx hb ndD_letter_116 rfl (lv_at hl 1 rfl) ?_
    refine lv_if_ne (tgt := 125) hx hb ndD_letter_117 (by decide) (fun c_117 => ?_) (fun c_117 => ?_)
    · have n_117 := mt (nI_eq (a := i) (b := 0) (by omega) (by omega)).mpr c_117
      refine lv_iload_n hx hb ndD_letter_125 rfl (lv_at hl 1 rfl) ?_
      refine lv_iconst (v := 1) hx hb ndD_letter_126 (by decide) ?_
      refine lv_icmp_ne (tgt := 135) hx hb ndD_letter_127 (by decide) (fun c_127 => ?_) (fun c_127 => ?_)
      · have n_127 := mt (nI_eq (a := i) (b := 1) (by omega) (by omega)).mpr c_127
        refine lv_bipush (v := 67) hx hb ndD_letter_135 (by decide) ?_
        exact fd_ret_i hx hb hr hlocks hS hP hD rfl (by rcases (show i = 0 ∨ i = 1 ∨ i = 2 by omega) with rfl | rfl | rfl <;> first | rfl | (exfalso; omega)) ndD_letter_137
      · have n_127 := (nI_eq (a := i) (b := 1) (by omega) (by omega)).mp c_127
        refine lv_bipush (v := 82) hx hb ndD_letter_130 (by decide) ?_
        refine lv_goto (tgt := 137) hx hb ndD_letter_132 (by decide) ?_
        exact fd_ret_i hx hb hr hlocks hS hP hD rfl (by rcases (show i = 0 ∨ i = 1 ∨ i = 2 by omega) with rfl | rfl | rfl <;> first | rfl | (exfalso; omega)) ndD_letter_137
    · have n_117 := (nI_eq (a := i) (b := 0) (by omega) (by omega)).mp c_117
      refine lv_bipush (v := 80) hx hb ndD_letter_120 (by decide) ?_
      refine lv_goto (tgt := 137) hx hb ndD_letter_122 (by decide) ?_
      exact fd_ret_i hx hb hr hlocks hS hP hD rfl (by rcases (show i = 0 ∨ i = 1 ∨ i = 2 by omega) with rfl | rfl | rfl <;> first | rfl | (exfalso; omega)) ndD_letter_137
  · refine lv_tableIn (off := 137) (tgt := 138) hx hb ndD_letter_1 (by decide) (by decide) (by decide) (by decide) ?_
    refine lv_iload_n hx hb ndD_letter_138 rfl (lv_at hl 1 rfl) ?_
    refine lv_if_ne (tgt := 147) hx hb ndD_letter_139 (by decide) (fun c_139 => ?_) (fun c_139 => ?_)
    · have n_139 := mt (nI_eq (a := i) (b := 0) (by omega) (by omega)).mpr c_139
      refine lv_bipush (v := 83) hx hb ndD_letter_147 (by decide) ?_
      exact fd_ret_i hx hb hr hlocks hS hP hD rfl (by rcases (show i = 0 ∨ i = 1 ∨ i = 2 by omega) with rfl | rfl | rfl <;> first | rfl | (exfalso; omega)) ndD_letter_149
    · have n_139 := (nI_eq (a := i) (b := 0) (by omega) (by omega)).mp c_139
      refine lv_bipush (v := 73) hx hb ndD_letter_142 (by decide) ?_
      refine lv_goto (tgt := 149) hx hb ndD_letter_144 (by decide) ?_
      exact fd_ret_i hx hb hr hlocks hS hP hD rfl (by rcases (show i = 0 ∨ i = 1 ∨ i = 2 by omega) with rfl | rfl | rfl <;> first | rfl | (exfalso; omega)) ndD_letter_149
  · refine lv_tableIn (off := 149) (tgt := 150) hx hb ndD_letter_1 (by decide) (by decide) (by decide) (by decide) ?_
    refine lv_iload_n hx hb ndD_letter_150 rfl (lv_at hl 1 rfl) ?_
    refine lv_if_ne (tgt := 159) hx hb ndD_letter_151 (by decide) (fun c_151 => ?_) (fun c_151 => ?_)
    · have n_151 := mt (nI_eq (a := i) (b := 0) (by omega) (by omega)).mpr c_151
      refine lv_iload_n hx hb ndD_letter_159 rfl (lv_at hl 1 rfl) ?_
      refine lv_iconst (v := 1) hx hb ndD_letter_160 (by decide) ?_
      refine lv_icmp_ne (tgt := 169) hx hb ndD_letter_161 (by decide) (fun c_161 => ?_) (fun c_161 => ?_)
      · have n_161 := mt (nI_eq (a := i) (b := 1) (by omega) (by omega)).mpr c_161
        refine lv_bipush (v := 68) hx hb ndD_letter_169 (by decide) ?_
        exact fd_ret_i hx hb hr hlocks hS hP hD rfl (by rcases (show i = 0 ∨ i = 1 ∨ i = 2 by omega) with rfl | rfl | rfl <;> first | rfl | (exfalso; omega)) ndD_letter_171
      · have n_161 := (nI_eq (a := i) (b := 1) (by omega) (by omega)).mp c_161
        refine lv_bipush (v := 69) hx hb ndD_letter_164 (by decide) ?_
        refine lv_goto (tgt := 171) hx hb ndD_letter_166 (by decide) ?_
        exact fd_ret_i hx hb hr hlocks hS hP hD rfl (by rcases (show i = 0 ∨ i = 1 ∨ i = 2 by omega) with rfl | rfl | rfl <;> first | rfl | (exfalso; omega)) ndD_letter_171
    · have n_151 := (nI_eq (a := i) (b := 0) (by omega) (by omega)).mp c_151
      refine lv_bipush (v := 82) hx hb ndD_letter_154 (by decide) ?_
      refine lv_goto (tgt := 171) hx hb ndD_letter_156 (by decide) ?_
      exact fd_ret_i hx hb hr hlocks hS hP hD rfl (by rcases (show i = 0 ∨ i = 1 ∨ i = 2 by omega) with rfl | rfl | rfl <;> first | rfl | (exfalso; omega)) ndD_letter_171
  · refine lv_tableIn (off := 171) (tgt := 172) hx hb ndD_letter_1 (by decide) (by decide) (by decide) (by decide) ?_
    refine lv_iload_n hx hb ndD_letter_172 rfl (lv_at hl 1 rfl) ?_
    refine lv_if_ne (tgt := 181) hx hb ndD_letter_173 (by decide) (fun c_173 => ?_) (fun c_173 => ?_)
    · have n_173 := mt (nI_eq (a := i) (b := 0) (by omega) (by omega)).mpr c_173
      refine lv_iload_n hx hb ndD_letter_181 rfl (lv_at hl 1 rfl) ?_
      refine lv_iconst (v := 1) hx hb ndD_letter_182 (by decide) ?_
      refine lv_icmp_ne (tgt := 191) hx hb ndD_letter_183 (by decide) (fun c_183 => ?_) (fun c_183 => ?_)
      · have n_183 := mt (nI_eq (a := i) (b := 1) (by omega) (by omega)).mpr c_183
        refine lv_bipush (v := 89) hx hb ndD_letter_191 (by decide) ?_
        exact fd_ret_i hx hb hr hlocks hS hP hD rfl (by rcases (show i = 0 ∨ i = 1 ∨ i = 2 by omega) with rfl | rfl | rfl <;> first | rfl | (exfalso; omega)) ndD_letter_193
      · have n_183 := (nI_eq (a := i) (b := 1) (by omega) (by omega)).mp c_183
        refine lv_bipush (v := 65) hx hb ndD_letter_186 (by decide) ?_
        refine lv_goto (tgt := 193) hx hb ndD_letter_188 (by decide) ?_
        exact fd_ret_i hx hb hr hlocks hS hP hD rfl (by rcases (show i = 0 ∨ i = 1 ∨ i = 2 by omega) with rfl | rfl | rfl <;> first | rfl | (exfalso; omega)) ndD_letter_193
    · have n_173 := (nI_eq (a := i) (b := 0) (by omega) (by omega)).mp c_173
      refine lv_bipush (v := 80) hx hb ndD_letter_176 (by decide) ?_
      refine lv_goto (tgt := 193) hx hb ndD_letter_178 (by decide) ?_
      exact fd_ret_i hx hb hr hlocks hS hP hD rfl (by rcases (show i = 0 ∨ i = 1 ∨ i = 2 by omega) with rfl | rfl | rfl <;> first | rfl | (exfalso; omega)) ndD_letter_193
  · refine lv_tableIn (off := 193) (tgt := 194) hx hb ndD_letter_1 (by decide) (by decide) (by decide) (by decide) ?_
    refine lv_iload_n hx hb ndD_letter_194 rfl (lv_at hl 1 rfl) ?_
    refine lv_if_ne (tgt := 203) hx hb ndD_letter_195 (by decide) (fun c_195 => ?_) (fun c_195 => ?_)
    · have n_195 := mt (nI_eq (a := i) (b := 0) (by omega) (by omega)).mpr c_195
      refine lv_iload_n hx hb ndD_letter_203 rfl (lv_at hl 1 rfl) ?_
      refine lv_iconst (v := 1) hx hb ndD_letter_204 (by decide) ?_
      refine lv_icmp_ne (tgt := 213) hx hb ndD_letter_205 (by decide) (fun c_205 => ?_) (fun c_205 => ?_)
      · have n_205 := mt (nI_eq (a := i) (b := 1) (by omega) (by omega)).mpr c_205
        refine lv_bipush (v := 70) hx hb ndD_letter_213 (by decide) ?_
        exact fd_ret_i hx hb hr hlocks hS hP hD rfl (by rcases (show i = 0 ∨ i = 1 ∨ i = 2 by omega) with rfl | rfl | rfl <;> first | rfl | (exfalso; omega)) ndD_letter_215
      · have n_205 := (nI_eq (a := i) (b := 1) (by omega) (by omega)).mp c_205
        refine lv_bipush (v := 78) hx hb ndD_letter_208 (by decide) ?_
        refine lv_goto (tgt := 215) hx hb ndD_letter_210 (by decide) ?_
        exact fd_ret_i hx hb hr hlocks hS hP hD rfl (by rcases (show i = 0 ∨ i = 1 ∨ i = 2 by omega) with rfl | rfl | rfl <;> first | rfl | (exfalso; omega)) ndD_letter_215
    · have n_195 := (nI_eq (a := i) (b := 0) (by omega) (by omega)).mp c_195
      refine lv_bipush (v := 67) hx hb ndD_letter_198 (by decide) ?_
      refine lv_goto (tgt := 215) hx hb ndD_letter_200 (by decide) ?_
      exact fd_ret_i hx hb hr hlocks hS hP hD rfl (by rcases (show i = 0 ∨ i = 1 ∨ i = 2 by omega) with rfl | rfl | rfl <;> first | rfl | (exfalso; omega)) ndD_letter_215
  · refine lv_tableIn (off := 215) (tgt := 216) hx hb ndD_letter_1 (by decide) (by decide) (by decide) (by decide) ?_
    refine lv_iload_n hx hb ndD_letter_216 rfl (lv_at hl 1 rfl) ?_
    refine lv_if_ne (tgt := 225) hx hb ndD_letter_217 (by decide) (fun c_217 => ?_) (fun c_217 => ?_)
    · have n_217 := mt (nI_eq (a := i) (b := 0) (by omega) (by omega)).mpr c_217
      refine lv_iload_n hx hb ndD_letter_225 rfl (lv_at hl 1 rfl) ?_
      refine lv_iconst (v := 1) hx hb ndD_letter_226 (by decide) ?_
      refine lv_icmp_ne (tgt := 235) hx hb ndD_letter_227 (by decide) (fun c_227 => ?_) (fun c_227 => ?_)
      · have n_227 := mt (nI_eq (a := i) (b := 1) (by omega) (by omega)).mpr c_227
        refine lv_bipush (v := 78) hx hb ndD_letter_235 (by decide) ?_
        exact fd_ret_i hx hb hr hlocks hS hP hD rfl (by rcases (show i = 0 ∨ i = 1 ∨ i = 2 by omega) with rfl | rfl | rfl <;> first | rfl | (exfalso; omega)) ndD_letter_237
      · have n_227 := (nI_eq (a := i) (b := 1) (by omega) (by omega)).mp c_227
        refine lv_bipush (v := 65) hx hb ndD_letter_230 (by decide) ?_
        refine lv_goto (tgt := 237) hx hb ndD_letter_232 (by decide) ?_
        exact fd_ret_i hx hb hr hlocks hS hP hD rfl (by rcases (show i = 0 ∨ i = 1 ∨ i = 2 by omega) with rfl | rfl | rfl <;> first | rfl | (exfalso; omega)) ndD_letter_237
    · have n_217 := (nI_eq (a := i) (b := 0) (by omega) (by omega)).mp c_217
      refine lv_bipush (v := 67) hx hb ndD_letter_220 (by decide) ?_
      refine lv_goto (tgt := 237) hx hb ndD_letter_222 (by decide) ?_
      exact fd_ret_i hx hb hr hlocks hS hP hD rfl (by rcases (show i = 0 ∨ i = 1 ∨ i = 2 by omega) with rfl | rfl | rfl <;> first | rfl | (exfalso; omega)) ndD_letter_237
  · refine lv_tableIn (off := 237) (tgt := 238) hx hb ndD_letter_1 (by decide) (by decide) (by decide) (by decide) ?_
    refine lv_iload_n hx hb ndD_letter_238 rfl (lv_at hl 1 rfl) ?_
    refine lv_if_ne (tgt := 247) hx hb ndD_letter_239 (by decide) (fun c_239 => ?_) (fun c_239 => ?_)
    · have n_239 := mt (nI_eq (a := i) (b := 0) (by omega) (by omega)).mpr c_239
      refine lv_iload_n hx hb ndD_letter_247 rfl (lv_at hl 1 rfl) ?_
      refine lv_iconst (v := 1) hx hb ndD_letter_248 (by decide) ?_
      refine lv_icmp_ne (tgt := 257) hx hb ndD_letter_249 (by decide) (fun c_249 => ?_) (fun c_249 => ?_)
      · have n_249 := mt (nI_eq (a := i) (b := 1) (by omega) (by omega)).mpr c_249
        refine lv_bipush (v := 73) hx hb ndD_letter_257 (by decide) ?_
        exact fd_ret_i hx hb hr hlocks hS hP hD rfl (by rcases (show i = 0 ∨ i = 1 ∨ i = 2 by omega) with rfl | rfl | rfl <;> first | rfl | (exfalso; omega)) ndD_letter_259
      · have n_249 := (nI_eq (a := i) (b := 1) (by omega) (by omega)).mp c_249
        refine lv_bipush (v := 82) hx hb ndD_letter_252 (by decide) ?_
        refine lv_goto (tgt := 259) hx hb ndD_letter_254 (by decide) ?_
        exact fd_ret_i hx hb hr hlocks hS hP hD rfl (by rcases (show i = 0 ∨ i = 1 ∨ i = 2 by omega) with rfl | rfl | rfl <;> first | rfl | (exfalso; omega)) ndD_letter_259
    · have n_239 := (nI_eq (a := i) (b := 0) (by omega) (by omega)).mp c_239
      refine lv_bipush (v := 80) hx hb ndD_letter_242 (by decide) ?_
      refine lv_goto (tgt := 259) hx hb ndD_letter_244 (by decide) ?_
      exact fd_ret_i hx hb hr hlocks hS hP hD rfl (by rcases (show i = 0 ∨ i = 1 ∨ i = 2 by omega) with rfl | rfl | rfl <;> first | rfl | (exfalso; omega)) ndD_letter_259
  · refine lv_tableIn (off := 259) (tgt := 260) hx hb ndD_letter_1 (by decide) (by decide) (by decide) (by decide) ?_
    refine lv_iload_n hx hb ndD_letter_260 rfl (lv_at hl 1 rfl) ?_
    refine lv_if_ne (tgt := 269) hx hb ndD_letter_261 (by decide) (fun c_261 => ?_) (fun c_261 => ?_)
    · have n_261 := mt (nI_eq (a := i) (b := 0) (by omega) (by omega)).mpr c_261
      refine lv_iload_n hx hb ndD_letter_269 rfl (lv_at hl 1 rfl) ?_
      refine lv_iconst (v := 1) hx hb ndD_letter_270 (by decide) ?_
      refine lv_icmp_ne (tgt := 279) hx hb ndD_letter_271 (by decide) (fun c_271 => ?_) (fun c_271 => ?_)
      · have n_271 := mt (nI_eq (a := i) (b := 1) (by omega) (by omega)).mpr c_271
        refine lv_bipush (v := 77) hx hb ndD_letter_279 (by decide) ?_
        exact fd_ret_i hx hb hr hlocks hS hP hD rfl (by rcases (show i = 0 ∨ i = 1 ∨ i = 2 by omega) with rfl | rfl | rfl <;> first | rfl | (exfalso; omega)) ndD_letter_281
      · have n_271 := (nI_eq (a := i) (b := 1) (by omega) (by omega)).mp c_271
        refine lv_bipush (v := 73) hx hb ndD_letter_274 (by decide) ?_
        refine lv_goto (tgt := 281) hx hb ndD_letter_276 (by decide) ?_
        exact fd_ret_i hx hb hr hlocks hS hP hD rfl (by rcases (show i = 0 ∨ i = 1 ∨ i = 2 by omega) with rfl | rfl | rfl <;> first | rfl | (exfalso; omega)) ndD_letter_281
    · have n_261 := (nI_eq (a := i) (b := 0) (by omega) (by omega)).mp c_261
      refine lv_bipush (v := 76) hx hb ndD_letter_264 (by decide) ?_
      refine lv_goto (tgt := 281) hx hb ndD_letter_266 (by decide) ?_
      exact fd_ret_i hx hb hr hlocks hS hP hD rfl (by rcases (show i = 0 ∨ i = 1 ∨ i = 2 by omega) with rfl | rfl | rfl <;> first | rfl | (exfalso; omega)) ndD_letter_281
  · refine lv_tableIn (off := 281) (tgt := 282) hx hb ndD_letter_1 (by decide) (by decide) (by decide) (by decide) ?_
    refine lv_iload_n hx hb ndD_letter_282 rfl (lv_at hl 1 rfl) ?_
    refine lv_if_ne (tgt := 291) hx hb ndD_letter_283 (by decide) (fun c_283 => ?_) (fun c_283 => ?_)
    · have n_283 := mt (nI_eq (a := i) (b := 0) (by omega) (by omega)).mpr c_283
      refine lv_iload_n hx hb ndD_letter_291 rfl (lv_at hl 1 rfl) ?_
      refine lv_iconst (v := 1) hx hb ndD_letter_292 (by decide) ?_
      refine lv_icmp_ne (tgt := 301) hx hb ndD_letter_293 (by decide) (fun c_293 => ?_) (fun c_293 => ?_)
      · have n_293 := mt (nI_eq (a := i) (b := 1) (by omega) (by omega)).mpr c_293
        refine lv_bipush (v := 76) hx hb ndD_letter_301 (by decide) ?_
        exact fd_ret_i hx hb hr hlocks hS hP hD rfl (by rcases (show i = 0 ∨ i = 1 ∨ i = 2 by omega) with rfl | rfl | rfl <;> first | rfl | (exfalso; omega)) ndD_letter_303
      · have n_293 := (nI_eq (a := i) (b := 1) (by omega) (by omega)).mp c_293
        refine lv_bipush (v := 78) hx hb ndD_letter_296 (by decide) ?_
        refine lv_goto (tgt := 303) hx hb ndD_letter_298 (by decide) ?_
        exact fd_ret_i hx hb hr hlocks hS hP hD rfl (by rcases (show i = 0 ∨ i = 1 ∨ i = 2 by omega) with rfl | rfl | rfl <;> first | rfl | (exfalso; omega)) ndD_letter_303
    · have n_283 := (nI_eq (a := i) (b := 0) (by omega) (by omega)).mp c_283
      refine lv_bipush (v := 85) hx hb ndD_letter_286 (by decide) ?_
      refine lv_goto (tgt := 303) hx hb ndD_letter_288 (by decide) ?_
      exact fd_ret_i hx hb hr hlocks hS hP hD rfl (by rcases (show i = 0 ∨ i = 1 ∨ i = 2 by omega) with rfl | rfl | rfl <;> first | rfl | (exfalso; omega)) ndD_letter_303
  · refine lv_tableIn (off := 303) (tgt := 304) hx hb ndD_letter_1 (by decide) (by decide) (by decide) (by decide) ?_
    refine lv_iload_n hx hb ndD_letter_304 rfl (lv_at hl 1 rfl) ?_
    refine lv_if_ne (tgt := 313) hx hb ndD_letter_305 (by decide) (fun c_305 => ?_) (fun c_305 => ?_)
    · have n_305 := mt (nI_eq (a := i) (b := 0) (by omega) (by omega)).mpr c_305
      refine lv_iload_n hx hb ndD_letter_313 rfl (lv_at hl 1 rfl) ?_
      refine lv_iconst (v := 1) hx hb ndD_letter_314 (by decide) ?_
      refine lv_icmp_ne (tgt := 323) hx hb ndD_letter_315 (by decide) (fun c_315 => ?_) (fun c_315 => ?_)
      · have n_315 := mt (nI_eq (a := i) (b := 1) (by omega) (by omega)).mpr c_315
        refine lv_bipush (v := 71) hx hb ndD_letter_323 (by decide) ?_
        exact fd_ret_i hx hb hr hlocks hS hP hD rfl (by rcases (show i = 0 ∨ i = 1 ∨ i = 2 by omega) with rfl | rfl | rfl <;> first | rfl | (exfalso; omega)) ndD_letter_325
      · have n_315 := (nI_eq (a := i) (b := 1) (by omega) (by omega)).mp c_315
        refine lv_bipush (v := 76) hx hb ndD_letter_318 (by decide) ?_
        refine lv_goto (tgt := 325) hx hb ndD_letter_320 (by decide) ?_
        exact fd_ret_i hx hb hr hlocks hS hP hD rfl (by rcases (show i = 0 ∨ i = 1 ∨ i = 2 by omega) with rfl | rfl | rfl <;> first | rfl | (exfalso; omega)) ndD_letter_325
    · have n_305 := (nI_eq (a := i) (b := 0) (by omega) (by omega)).mp c_305
      refine lv_bipush (v := 80) hx hb ndD_letter_308 (by decide) ?_
      refine lv_goto (tgt := 325) hx hb ndD_letter_310 (by decide) ?_
      exact fd_ret_i hx hb hr hlocks hS hP hD rfl (by rcases (show i = 0 ∨ i = 1 ∨ i = 2 by omega) with rfl | rfl | rfl <;> first | rfl | (exfalso; omega)) ndD_letter_325
  · refine lv_tableIn (off := 325) (tgt := 326) hx hb ndD_letter_1 (by decide) (by decide) (by decide) (by decide) ?_
    refine lv_iload_n hx hb ndD_letter_326 rfl (lv_at hl 1 rfl) ?_
    refine lv_if_ne (tgt := 335) hx hb ndD_letter_327 (by decide) (fun c_327 => ?_) (fun c_327 => ?_)
    · have n_327 := mt (nI_eq (a := i) (b := 0) (by omega) (by omega)).mpr c_327
      refine lv_iload_n hx hb ndD_letter_335 rfl (lv_at hl 1 rfl) ?_
      refine lv_iconst (v := 1) hx hb ndD_letter_336 (by decide) ?_
      refine lv_icmp_ne (tgt := 345) hx hb ndD_letter_337 (by decide) (fun c_337 => ?_) (fun c_337 => ?_)
      · have n_337 := mt (nI_eq (a := i) (b := 1) (by omega) (by omega)).mpr c_337
        refine lv_bipush (v := 80) hx hb ndD_letter_345 (by decide) ?_
        exact fd_ret_i hx hb hr hlocks hS hP hD rfl (by rcases (show i = 0 ∨ i = 1 ∨ i = 2 by omega) with rfl | rfl | rfl <;> first | rfl | (exfalso; omega)) ndD_letter_347
      · have n_337 := (nI_eq (a := i) (b := 1) (by omega) (by omega)).mp c_337
        refine lv_bipush (v := 78) hx hb ndD_letter_340 (by decide) ?_
        refine lv_goto (tgt := 347) hx hb ndD_letter_342 (by decide) ?_
        exact fd_ret_i hx hb hr hlocks hS hP hD rfl (by rcases (show i = 0 ∨ i = 1 ∨ i = 2 by omega) with rfl | rfl | rfl <;> first | rfl | (exfalso; omega)) ndD_letter_347
    · have n_327 := (nI_eq (a := i) (b := 0) (by omega) (by omega)).mp c_327
      refine lv_bipush (v := 85) hx hb ndD_letter_330 (by decide) ?_
      refine lv_goto (tgt := 347) hx hb ndD_letter_332 (by decide) ?_
      exact fd_ret_i hx hb hr hlocks hS hP hD rfl (by rcases (show i = 0 ∨ i = 1 ∨ i = 2 by omega) with rfl | rfl | rfl <;> first | rfl | (exfalso; omega)) ndD_letter_347
  · refine lv_tableIn (off := 347) (tgt := 348) hx hb ndD_letter_1 (by decide) (by decide) (by decide) (by decide) ?_
    refine lv_iload_n hx hb ndD_letter_348 rfl (lv_at hl 1 rfl) ?_
    refine lv_if_ne (tgt := 357) hx hb ndD_letter_349 (by decide) (fun c_349 => ?_) (fun c_349 => ?_)
    · have n_349 := mt (nI_eq (a := i) (b := 0) (by omega) (by omega)).mpr c_349
      refine lv_iload_n hx hb ndD_letter_357 rfl (lv_at hl 1 rfl) ?_
      refine lv_iconst (v := 1) hx hb ndD_letter_358 (by decide) ?_
      refine lv_icmp_ne (tgt := 367) hx hb ndD_letter_359 (by decide) (fun c_359 => ?_) (fun c_359 => ?_)
      · have n_359 := mt (nI_eq (a := i) (b := 1) (by omega) (by omega)).mpr c_359
        refine lv_bipush (v := 83) hx hb ndD_letter_367 (by decide) ?_
        exact fd_ret_i hx hb hr hlocks hS hP hD rfl (by rcases (show i = 0 ∨ i = 1 ∨ i = 2 by omega) with rfl | rfl | rfl <;> first | rfl | (exfalso; omega)) ndD_letter_369
      · have n_359 := (nI_eq (a := i) (b := 1) (by omega) (by omega)).mp c_359
        refine lv_bipush (v := 69) hx hb ndD_letter_362 (by decide) ?_
        refine lv_goto (tgt := 369) hx hb ndD_letter_364 (by decide) ?_
        exact fd_ret_i hx hb hr hlocks hS hP hD rfl (by rcases (show i = 0 ∨ i = 1 ∨ i = 2 by omega) with rfl | rfl | rfl <;> first | rfl | (exfalso; omega)) ndD_letter_369
    · have n_349 := (nI_eq (a := i) (b := 0) (by omega) (by omega)).mp c_349
      refine lv_bipush (v := 82) hx hb ndD_letter_352 (by decide) ?_
      refine lv_goto (tgt := 369) hx hb ndD_letter_354 (by decide) ?_
      exact fd_ret_i hx hb hr hlocks hS hP hD rfl (by rcases (show i = 0 ∨ i = 1 ∨ i = 2 by omega) with rfl | rfl | rfl <;> first | rfl | (exfalso; omega)) ndD_letter_369
  · refine lv_tableOut (tgt := 370) hx hb ndD_letter_1 (by decide) (by decide) ?_
    refine lv_iload_n hx hb ndD_letter_370 rfl (lv_at hl 1 rfl) ?_
    refine lv_if_ne (tgt := 379) hx hb ndD_letter_371 (by decide) (fun c_371 => ?_) (fun c_371 => ?_)
    · have n_371 := mt (nI_eq (a := i) (b := 0) (by omega) (by omega)).mpr c_371
      refine lv_iload_n hx hb ndD_letter_379 rfl (lv_at hl 1 rfl) ?_
      refine lv_iconst (v := 1) hx hb ndD_letter_380 (by decide) ?_
      refine lv_icmp_ne (tgt := 389) hx hb ndD_letter_381 (by decide) (fun c_381 => ?_) (fun c_381 => ?_)
      · have n_381 := mt (nI_eq (a := i) (b := 1) (by omega) (by omega)).mpr c_381
        refine lv_bipush (v := 77) hx hb ndD_letter_389 (by decide) ?_
        exact fd_ret_i hx hb hr hlocks hS hP hD rfl (by rcases (show i = 0 ∨ i = 1 ∨ i = 2 by omega) with rfl | rfl | rfl <;> first | rfl | (exfalso; omega)) ndD_letter_391
      · have n_381 := (nI_eq (a := i) (b := 1) (by omega) (by omega)).mp c_381
        refine lv_bipush (v := 84) hx hb ndD_letter_384 (by decide) ?_
        refine lv_goto (tgt := 391) hx hb ndD_letter_386 (by decide) ?_
        exact fd_ret_i hx hb hr hlocks hS hP hD rfl (by rcases (show i = 0 ∨ i = 1 ∨ i = 2 by omega) with rfl | rfl | rfl <;> first | rfl | (exfalso; omega)) ndD_letter_391
    · have n_371 := (nI_eq (a := i) (b := 0) (by omega) (by omega)).mp c_371
      refine lv_bipush (v := 83) hx hb ndD_letter_374 (by decide) ?_
      refine lv_goto (tgt := 391) hx hb ndD_letter_376 (by decide) ?_
      exact fd_ret_i hx hb hr hlocks hS hP hD rfl (by rcases (show i = 0 ∨ i = 1 ∨ i = 2 by omega) with rfl | rfl | rfl <;> first | rfl | (exfalso; omega)) ndD_letter_391
set_option maxHeartbeats 4000000 in
set_option maxRecDepth 100000 in
theorem kD_sortOf (l : Launch) (D : va_G) (Z : Nat → Nat) (cI cL : ClassId) {kd j : Nat} (h1 : 1 ≤ kd) (h2 : kd ≤ 15) (hj : j ≤ 24) (x : Int64) : fd_Mi l D fd_cl (fd_ty cI cL) (fd_EV Z) nyD_sortOf (.code nyD_sortOf ncD_sortOf 5 (some .int) :: fd_TB) nmD_sortOf [.int (nI kd), .int (nI j), .long x] [] [] (fd_due kd j (fun _ => x)) := by
  refine fd_open_i (cc := ncD_sortOf) (maxL := 5) (ret := (some .int)) (by decide) rfl (Nat.le_of_ble_eq_true rfl) ?_
  intro p e s m below meth c A ls X hP hD hS hl
  obtain ⟨hx, hb, hr, hml, hown, hts0, hlocks, hK, hEV, hA⟩ := X
  have hts : ∀ w ∈ fd_TB, w.before _ s = true := fun w h => hts0 w (List.mem_cons_of_mem _ h)
  have hE := fd_EV_ok Z
  have hown : s.vm.findClass "FieldDeskModel" = some m.cls := hown
  have hl : lv_has ls 5 [(0, .int (nI kd)), (1, .int (nI j)), (2, .long x)] := hl
  refine lv_iload_n hx hb ndD_sortOf_0 rfl (lv_at hl 1 rfl) ?_
  refine lv_iconst (v := 2) hx hb ndD_sortOf_1 (by decide) ?_
  refine lv_icmp_ge (tgt := 15) hx hb ndD_sortOf_2 (by decide) (fun c_2 => ?_) (fun c_2 => ?_)
  · have n_2 := (nI_leI (a := 2) (b := j) (by omega) (by omega)).mp c_2
    refine lv_iload_n hx hb ndD_sortOf_15 rfl (lv_at hl 1 rfl) ?_
    refine lv_iconst (v := 2) hx hb ndD_sortOf_16 (by decide) ?_
    refine lv_isub hx hb ndD_sortOf_17 ?_
    refine fd_asi (y := nI (j - 2)) (pk_sub (a := j) (b := 2) (by omega)) ?_
    refine lv_istore (lv' := [(4, .int (nI (j - 2))), (0, .int (nI kd)), (1, .int (nI j)), (2, .long x)]) hx hb ndD_sortOf_18 hl (by decide) rfl (fun ls hl => ?_)
    refine lv_iload_n hx hb ndD_sortOf_20 rfl (lv_at hl 1 rfl) ?_
    rcases (show kd = 1 ∨ kd = 2 ∨ kd = 3 ∨ kd = 4 ∨ kd = 5 ∨ kd = 6 ∨ kd = 7 ∨ kd = 8 ∨ kd = 9 ∨ kd = 10 ∨ kd = 11 ∨ kd = 12 ∨ kd = 13 ∨ kd = 14 ∨ kd = 15 by omega) with rfl | rfl | rfl | rfl | rfl | rfl | rfl | rfl | rfl | rfl | rfl | rfl | rfl | rfl | rfl
    · refine lv_tableIn (off := 67) (tgt := 88) hx hb ndD_sortOf_21 (by decide) (by decide) (by decide) (by decide) ?_
      refine lv_iload hx hb ndD_sortOf_88 (lv_at hl 0 rfl) ?_
      refine lv_if_ne (tgt := 97) hx hb ndD_sortOf_90 (by decide) (fun c_90 => ?_) (fun c_90 => ?_)
      · have n_90 := mt (nI_eq (a := (j - 2)) (b := 0) (by omega) (by omega)).mpr c_90
        refine lv_iconst (v := 0) hx hb ndD_sortOf_97 (by decide) ?_
        exact fd_ret_i hx hb hr hlocks hS hP hD rfl (by rcases (show j = 2 ∨ j = 3 ∨ j = 4 ∨ j = 5 ∨ 6 ≤ j by omega) with rfl | rfl | rfl | rfl | h6 <;> first | rfl | (exfalso; omega) | (rw [fd_due, if_neg (by decide), if_neg (by decide), if_pos h6])) ndD_sortOf_98
      · have n_90 := (nI_eq (a := (j - 2)) (b := 0) (by omega) (by omega)).mp c_90
        refine lv_iconst (v := 1) hx hb ndD_sortOf_93 (by decide) ?_
        refine lv_goto (tgt := 98) hx hb ndD_sortOf_94 (by decide) ?_
        exact fd_ret_i hx hb hr hlocks hS hP hD rfl (by rcases (show j = 2 ∨ j = 3 ∨ j = 4 ∨ j = 5 ∨ 6 ≤ j by omega) with rfl | rfl | rfl | rfl | h6 <;> first | rfl | (exfalso; omega) | (rw [fd_due, if_neg (by decide), if_neg (by decide), if_pos h6])) ndD_sortOf_98
    · refine lv_tableIn (off := 78) (tgt := 99) hx hb ndD_sortOf_21 (by decide) (by decide) (by decide) (by decide) ?_
      refine lv_iload hx hb ndD_sortOf_99 (lv_at hl 0 rfl) ?_
      refine lv_if_ne (tgt := 108) hx hb ndD_sortOf_101 (by decide) (fun c_101 => ?_) (fun c_101 => ?_)
      · have n_101 := mt (nI_eq (a := (j - 2)) (b := 0) (by omega) (by omega)).mpr c_101
        refine lv_iload hx hb ndD_sortOf_108 (lv_at hl 0 rfl) ?_
        refine lv_iconst (v := 1) hx hb ndD_sortOf_110 (by decide) ?_
        refine lv_icmp_ne (tgt := 118) hx hb ndD_sortOf_111 (by decide) (fun c_111 => ?_) (fun c_111 => ?_)
        · have n_111 := mt (nI_eq (a := (j - 2)) (b := 1) (by omega) (by omega)).mpr c_111
          refine lv_iload hx hb ndD_sortOf_118 (lv_at hl 0 rfl) ?_
          refine lv_iconst (v := 2) hx hb ndD_sortOf_120 (by decide) ?_
          refine lv_icmp_ne (tgt := 128) hx hb ndD_sortOf_121 (by decide) (fun c_121 => ?_) (fun c_121 => ?_)
          · have n_121 := mt (nI_eq (a := (j - 2)) (b := 2) (by omega) (by omega)).mpr c_121
            refine lv_iload hx hb ndD_sortOf_128 (lv_at hl 0 rfl) ?_
            refine lv_iconst (v := 3) hx hb ndD_sortOf_130 (by decide) ?_
            refine lv_icmp_ne (tgt := 139) hx hb ndD_sortOf_131 (by decide) (fun c_131 => ?_) (fun c_131 => ?_)
            · have n_131 := mt (nI_eq (a := (j - 2)) (b := 3) (by omega) (by omega)).mpr c_131
              refine lv_iconst (v := 0) hx hb ndD_sortOf_139 (by decide) ?_
              exact fd_ret_i hx hb hr hlocks hS hP hD rfl (by rcases (show j = 2 ∨ j = 3 ∨ j = 4 ∨ j = 5 ∨ 6 ≤ j by omega) with rfl | rfl | rfl | rfl | h6 <;> first | rfl | (exfalso; omega) | (rw [fd_due, if_neg (by decide), if_neg (by decide), if_pos h6])) ndD_sortOf_140
            · have n_131 := (nI_eq (a := (j - 2)) (b := 3) (by omega) (by omega)).mp c_131
              refine lv_bipush (v := 6) hx hb ndD_sortOf_134 (by decide) ?_
              refine lv_goto (tgt := 140) hx hb ndD_sortOf_136 (by decide) ?_
              exact fd_ret_i hx hb hr hlocks hS hP hD rfl (by rcases (show j = 2 ∨ j = 3 ∨ j = 4 ∨ j = 5 ∨ 6 ≤ j by omega) with rfl | rfl | rfl | rfl | h6 <;> first | rfl | (exfalso; omega) | (rw [fd_due, if_neg (by decide), if_neg (by decide), if_pos h6])) ndD_sortOf_140
          · have n_121 := (nI_eq (a := (j - 2)) (b := 2) (by omega) (by omega)).mp c_121
            refine lv_iconst (v := 4) hx hb ndD_sortOf_124 (by decide) ?_
            refine lv_goto (tgt := 140) hx hb ndD_sortOf_125 (by decide) ?_
            exact fd_ret_i hx hb hr hlocks hS hP hD rfl (by rcases (show j = 2 ∨ j = 3 ∨ j = 4 ∨ j = 5 ∨ 6 ≤ j by omega) with rfl | rfl | rfl | rfl | h6 <;> first | rfl | (exfalso; omega) | (rw [fd_due, if_neg (by decide), if_neg (by decide), if_pos h6])) ndD_sortOf_140
        · have n_111 := (nI_eq (a := (j - 2)) (b := 1) (by omega) (by omega)).mp c_111
          refine lv_iconst (v := 5) hx hb ndD_sortOf_114 (by decide) ?_
          refine lv_goto (tgt := 140) hx hb ndD_sortOf_115 (by decide) ?_
          exact fd_ret_i hx hb hr hlocks hS hP hD rfl (by rcases (show j = 2 ∨ j = 3 ∨ j = 4 ∨ j = 5 ∨ 6 ≤ j by omega) with rfl | rfl | rfl | rfl | h6 <;> first | rfl | (exfalso; omega) | (rw [fd_due, if_neg (by decide), if_neg (by decide), if_pos h6])) ndD_sortOf_140
      · have n_101 := (nI_eq (a := (j - 2)) (b := 0) (by omega) (by omega)).mp c_101
        refine lv_iconst (v := 2) hx hb ndD_sortOf_104 (by decide) ?_
        refine lv_goto (tgt := 140) hx hb ndD_sortOf_105 (by decide) ?_
        exact fd_ret_i hx hb hr hlocks hS hP hD rfl (by rcases (show j = 2 ∨ j = 3 ∨ j = 4 ∨ j = 5 ∨ 6 ≤ j by omega) with rfl | rfl | rfl | rfl | h6 <;> first | rfl | (exfalso; omega) | (rw [fd_due, if_neg (by decide), if_neg (by decide), if_pos h6])) ndD_sortOf_140
    · refine lv_tableIn (off := 120) (tgt := 141) hx hb ndD_sortOf_21 (by decide) (by decide) (by decide) (by decide) ?_
      refine lv_iload hx hb ndD_sortOf_141 (lv_at hl 0 rfl) ?_
      refine lv_if_ne (tgt := 150) hx hb ndD_sortOf_143 (by decide) (fun c_143 => ?_) (fun c_143 => ?_)
      · have n_143 := mt (nI_eq (a := (j - 2)) (b := 0) (by omega) (by omega)).mpr c_143
        refine lv_iload hx hb ndD_sortOf_150 (lv_at hl 0 rfl) ?_
        refine lv_iconst (v := 1) hx hb ndD_sortOf_152 (by decide) ?_
        refine lv_icmp_ne (tgt := 160) hx hb ndD_sortOf_153 (by decide) (fun c_153 => ?_) (fun c_153 => ?_)
        · have n_153 := mt (nI_eq (a := (j - 2)) (b := 1) (by omega) (by omega)).mpr c_153
          refine lv_iload hx hb ndD_sortOf_160 (lv_at hl 0 rfl) ?_
          refine lv_iconst (v := 2) hx hb ndD_sortOf_162 (by decide) ?_
          refine lv_icmp_ne (tgt := 171) hx hb ndD_sortOf_163 (by decide) (fun c_163 => ?_) (fun c_163 => ?_)
          · have n_163 := mt (nI_eq (a := (j - 2)) (b := 2) (by omega) (by omega)).mpr c_163
            refine lv_iconst (v := 0) hx hb ndD_sortOf_171 (by decide) ?_
            exact fd_ret_i hx hb hr hlocks hS hP hD rfl (by rcases (show j = 2 ∨ j = 3 ∨ j = 4 ∨ j = 5 ∨ 6 ≤ j by omega) with rfl | rfl | rfl | rfl | h6 <;> first | rfl | (exfalso; omega) | (rw [fd_due, if_neg (by decide), if_neg (by decide), if_pos h6])) ndD_sortOf_172
          · have n_163 := (nI_eq (a := (j - 2)) (b := 2) (by omega) (by omega)).mp c_163
            refine lv_bipush (v := 6) hx hb ndD_sortOf_166 (by decide) ?_
            refine lv_goto (tgt := 172) hx hb ndD_sortOf_168 (by decide) ?_
            exact fd_ret_i hx hb hr hlocks hS hP hD rfl (by rcases (show j = 2 ∨ j = 3 ∨ j = 4 ∨ j = 5 ∨ 6 ≤ j by omega) with rfl | rfl | rfl | rfl | h6 <;> first | rfl | (exfalso; omega) | (rw [fd_due, if_neg (by decide), if_neg (by decide), if_pos h6])) ndD_sortOf_172
        · have n_153 := (nI_eq (a := (j - 2)) (b := 1) (by omega) (by omega)).mp c_153
          refine lv_iconst (v := 4) hx hb ndD_sortOf_156 (by decide) ?_
          refine lv_goto (tgt := 172) hx hb ndD_sortOf_157 (by decide) ?_
          exact fd_ret_i hx hb hr hlocks hS hP hD rfl (by rcases (show j = 2 ∨ j = 3 ∨ j = 4 ∨ j = 5 ∨ 6 ≤ j by omega) with rfl | rfl | rfl | rfl | h6 <;> first | rfl | (exfalso; omega) | (rw [fd_due, if_neg (by decide), if_neg (by decide), if_pos h6])) ndD_sortOf_172
      · have n_143 := (nI_eq (a := (j - 2)) (b := 0) (by omega) (by omega)).mp c_143
        refine lv_iconst (v := 2) hx hb ndD_sortOf_146 (by decide) ?_
        refine lv_goto (tgt := 172) hx hb ndD_sortOf_147 (by decide) ?_
        exact fd_ret_i hx hb hr hlocks hS hP hD rfl (by rcases (show j = 2 ∨ j = 3 ∨ j = 4 ∨ j = 5 ∨ 6 ≤ j by omega) with rfl | rfl | rfl | rfl | h6 <;> first | rfl | (exfalso; omega) | (rw [fd_due, if_neg (by decide), if_neg (by decide), if_pos h6])) ndD_sortOf_172
    · refine lv_tableIn (off := 152) (tgt := 173) hx hb ndD_sortOf_21 (by decide) (by decide) (by decide) (by decide) ?_
      refine lv_iload hx hb ndD_sortOf_173 (lv_at hl 0 rfl) ?_
      refine lv_if_ne (tgt := 182) hx hb ndD_sortOf_175 (by decide) (fun c_175 => ?_) (fun c_175 => ?_)
      · have n_175 := mt (nI_eq (a := (j - 2)) (b := 0) (by omega) (by omega)).mpr c_175
        refine lv_iload hx hb ndD_sortOf_182 (lv_at hl 0 rfl) ?_
        refine lv_iconst (v := 1) hx hb ndD_sortOf_184 (by decide) ?_
        refine lv_icmp_ne (tgt := 192) hx hb ndD_sortOf_185 (by decide) (fun c_185 => ?_) (fun c_185 => ?_)
        · have n_185 := mt (nI_eq (a := (j - 2)) (b := 1) (by omega) (by omega)).mpr c_185
          refine lv_iload hx hb ndD_sortOf_192 (lv_at hl 0 rfl) ?_
          refine lv_iconst (v := 2) hx hb ndD_sortOf_194 (by decide) ?_
          refine lv_icmp_ne (tgt := 202) hx hb ndD_sortOf_195 (by decide) (fun c_195 => ?_) (fun c_195 => ?_)
          · have n_195 := mt (nI_eq (a := (j - 2)) (b := 2) (by omega) (by omega)).mpr c_195
            refine lv_iconst (v := 0) hx hb ndD_sortOf_202 (by decide) ?_
            exact fd_ret_i hx hb hr hlocks hS hP hD rfl (by rcases (show j = 2 ∨ j = 3 ∨ j = 4 ∨ j = 5 ∨ 6 ≤ j by omega) with rfl | rfl | rfl | rfl | h6 <;> first | rfl | (exfalso; omega) | (rw [fd_due, if_neg (by decide), if_neg (by decide), if_pos h6])) ndD_sortOf_203
          · have n_195 := (nI_eq (a := (j - 2)) (b := 2) (by omega) (by omega)).mp c_195
            refine lv_iconst (v := 4) hx hb ndD_sortOf_198 (by decide) ?_
            refine lv_goto (tgt := 203) hx hb ndD_sortOf_199 (by decide) ?_
            exact fd_ret_i hx hb hr hlocks hS hP hD rfl (by rcases (show j = 2 ∨ j = 3 ∨ j = 4 ∨ j = 5 ∨ 6 ≤ j by omega) with rfl | rfl | rfl | rfl | h6 <;> first | rfl | (exfalso; omega) | (rw [fd_due, if_neg (by decide), if_neg (by decide), if_pos h6])) ndD_sortOf_203
        · have n_185 := (nI_eq (a := (j - 2)) (b := 1) (by omega) (by omega)).mp c_185
          refine lv_iconst (v := 1) hx hb ndD_sortOf_188 (by decide) ?_
          refine lv_goto (tgt := 203) hx hb ndD_sortOf_189 (by decide) ?_
          exact fd_ret_i hx hb hr hlocks hS hP hD rfl (by rcases (show j = 2 ∨ j = 3 ∨ j = 4 ∨ j = 5 ∨ 6 ≤ j by omega) with rfl | rfl | rfl | rfl | h6 <;> first | rfl | (exfalso; omega) | (rw [fd_due, if_neg (by decide), if_neg (by decide), if_pos h6])) ndD_sortOf_203
      · have n_175 := (nI_eq (a := (j - 2)) (b := 0) (by omega) (by omega)).mp c_175
        refine lv_iconst (v := 2) hx hb ndD_sortOf_178 (by decide) ?_
        refine lv_goto (tgt := 203) hx hb ndD_sortOf_179 (by decide) ?_
        exact fd_ret_i hx hb hr hlocks hS hP hD rfl (by rcases (show j = 2 ∨ j = 3 ∨ j = 4 ∨ j = 5 ∨ 6 ≤ j by omega) with rfl | rfl | rfl | rfl | h6 <;> first | rfl | (exfalso; omega) | (rw [fd_due, if_neg (by decide), if_neg (by decide), if_pos h6])) ndD_sortOf_203
    · refine lv_tableIn (off := 152) (tgt := 173) hx hb ndD_sortOf_21 (by decide) (by decide) (by decide) (by decide) ?_
      refine lv_iload hx hb ndD_sortOf_173 (lv_at hl 0 rfl) ?_
      refine lv_if_ne (tgt := 182) hx hb ndD_sortOf_175 (by decide) (fun c_175 => ?_) (fun c_175 => ?_)
      · have n_175 := mt (nI_eq (a := (j - 2)) (b := 0) (by omega) (by omega)).mpr c_175
        refine lv_iload hx hb ndD_sortOf_182 (lv_at hl 0 rfl) ?_
        refine lv_iconst (v := 1) hx hb ndD_sortOf_184 (by decide) ?_
        refine lv_icmp_ne (tgt := 192) hx hb ndD_sortOf_185 (by decide) (fun c_185 => ?_) (fun c_185 => ?_)
        · have n_185 := mt (nI_eq (a := (j - 2)) (b := 1) (by omega) (by omega)).mpr c_185
          refine lv_iload hx hb ndD_sortOf_192 (lv_at hl 0 rfl) ?_
          refine lv_iconst (v := 2) hx hb ndD_sortOf_194 (by decide) ?_
          refine lv_icmp_ne (tgt := 202) hx hb ndD_sortOf_195 (by decide) (fun c_195 => ?_) (fun c_195 => ?_)
          · have n_195 := mt (nI_eq (a := (j - 2)) (b := 2) (by omega) (by omega)).mpr c_195
            refine lv_iconst (v := 0) hx hb ndD_sortOf_202 (by decide) ?_
            exact fd_ret_i hx hb hr hlocks hS hP hD rfl (by rcases (show j = 2 ∨ j = 3 ∨ j = 4 ∨ j = 5 ∨ 6 ≤ j by omega) with rfl | rfl | rfl | rfl | h6 <;> first | rfl | (exfalso; omega) | (rw [fd_due, if_neg (by decide), if_neg (by decide), if_pos h6])) ndD_sortOf_203
          · have n_195 := (nI_eq (a := (j - 2)) (b := 2) (by omega) (by omega)).mp c_195
            refine lv_iconst (v := 4) hx hb ndD_sortOf_198 (by decide) ?_
            refine lv_goto (tgt := 203) hx hb ndD_sortOf_199 (by decide) ?_
            exact fd_ret_i hx hb hr hlocks hS hP hD rfl (by rcases (show j = 2 ∨ j = 3 ∨ j = 4 ∨ j = 5 ∨ 6 ≤ j by omega) with rfl | rfl | rfl | rfl | h6 <;> first | rfl | (exfalso; omega) | (rw [fd_due, if_neg (by decide), if_neg (by decide), if_pos h6])) ndD_sortOf_203
        · have n_185 := (nI_eq (a := (j - 2)) (b := 1) (by omega) (by omega)).mp c_185
          refine lv_iconst (v := 1) hx hb ndD_sortOf_188 (by decide) ?_
          refine lv_goto (tgt := 203) hx hb ndD_sortOf_189 (by decide) ?_
          exact fd_ret_i hx hb hr hlocks hS hP hD rfl (by rcases (show j = 2 ∨ j = 3 ∨ j = 4 ∨ j = 5 ∨ 6 ≤ j by omega) with rfl | rfl | rfl | rfl | h6 <;> first | rfl | (exfalso; omega) | (rw [fd_due, if_neg (by decide), if_neg (by decide), if_pos h6])) ndD_sortOf_203
      · have n_175 := (nI_eq (a := (j - 2)) (b := 0) (by omega) (by omega)).mp c_175
        refine lv_iconst (v := 2) hx hb ndD_sortOf_178 (by decide) ?_
        refine lv_goto (tgt := 203) hx hb ndD_sortOf_179 (by decide) ?_
        exact fd_ret_i hx hb hr hlocks hS hP hD rfl (by rcases (show j = 2 ∨ j = 3 ∨ j = 4 ∨ j = 5 ∨ 6 ≤ j by omega) with rfl | rfl | rfl | rfl | h6 <;> first | rfl | (exfalso; omega) | (rw [fd_due, if_neg (by decide), if_neg (by decide), if_pos h6])) ndD_sortOf_203
    · refine lv_tableIn (off := 183) (tgt := 204) hx hb ndD_sortOf_21 (by decide) (by decide) (by decide) (by decide) ?_
      refine lv_iload hx hb ndD_sortOf_204 (lv_at hl 0 rfl) ?_
      refine lv_if_ne (tgt := 214) hx hb ndD_sortOf_206 (by decide) (fun c_206 => ?_) (fun c_206 => ?_)
      · have n_206 := mt (nI_eq (a := (j - 2)) (b := 0) (by omega) (by omega)).mpr c_206
        refine lv_iload hx hb ndD_sortOf_214 (lv_at hl 0 rfl) ?_
        refine lv_iconst (v := 1) hx hb ndD_sortOf_216 (by decide) ?_
        refine lv_icmp_ne (tgt := 225) hx hb ndD_sortOf_217 (by decide) (fun c_217 => ?_) (fun c_217 => ?_)
        · have n_217 := mt (nI_eq (a := (j - 2)) (b := 1) (by omega) (by omega)).mpr c_217
          refine lv_iload hx hb ndD_sortOf_225 (lv_at hl 0 rfl) ?_
          refine lv_iconst (v := 2) hx hb ndD_sortOf_227 (by decide) ?_
          refine lv_isub hx hb ndD_sortOf_228 ?_
          refine fd_asi (y := nI (j - 4)) (fd_sub2 (by omega)) ?_
          refine lv_i2l hx hb ndD_sortOf_229 rfl ?_
          refine lv_ldc2 hx hb hown (hts _ tb_306) ndD_sortOf_230 ?_
          refine lv_lload_n hx hb ndD_sortOf_233 rfl (lv_at hl 3 rfl) ?_
          refine lv_lmul hx hb ndD_sortOf_234 ?_
          refine W.lcmp hx hb ndD_sortOf_235 ?_
          refine lv_if_lt (tgt := 243) hx hb ndD_sortOf_236 (by decide) (fun c_236 => ?_) (fun c_236 => ?_)
          · have n_236 := (lg_cmp_lt _ _).mp c_236
            refine lv_iload hx hb ndD_sortOf_243 (lv_at hl 0 rfl) ?_
            refine lv_iconst (v := 2) hx hb ndD_sortOf_245 (by decide) ?_
            refine lv_isub hx hb ndD_sortOf_246 ?_
            refine fd_asi (y := nI (j - 4)) (fd_sub2 (by omega)) ?_
            refine lv_iconst (v := 4) hx hb ndD_sortOf_247 (by decide) ?_
            refine lv_irem hx hb ndD_sortOf_248 (by decide) ?_
            refine fd_asi (y := nI ((j - 4) % 4)) (pk_rem (a := j - 4) (d := 4) (by omega) (by omega) (by omega)) ?_
            refine lv_iconst (v := 2) hx hb ndD_sortOf_249 (by decide) ?_
            refine lv_icmp_ge (tgt := 257) hx hb ndD_sortOf_250 (by decide) (fun c_250 => ?_) (fun c_250 => ?_)
            · have n_250 := (nI_leI (a := 2) (b := ((j - 4) % 4)) (by omega) (by omega)).mp c_250
              refine lv_iload hx hb ndD_sortOf_257 (lv_at hl 0 rfl) ?_
              refine lv_iconst (v := 2) hx hb ndD_sortOf_259 (by decide) ?_
              refine lv_isub hx hb ndD_sortOf_260 ?_
              refine fd_asi (y := nI (j - 4)) (fd_sub2 (by omega)) ?_
              refine lv_iconst (v := 4) hx hb ndD_sortOf_261 (by decide) ?_
              refine lv_irem hx hb ndD_sortOf_262 (by decide) ?_
              refine fd_asi (y := nI ((j - 4) % 4)) (pk_rem (a := j - 4) (d := 4) (by omega) (by omega) (by omega)) ?_
              refine lv_iconst (v := 2) hx hb ndD_sortOf_263 (by decide) ?_
              refine lv_icmp_ne (tgt := 271) hx hb ndD_sortOf_264 (by decide) (fun c_264 => ?_) (fun c_264 => ?_)
              · have n_264 := mt (nI_eq (a := ((j - 4) % 4)) (b := 2) (by omega) (by omega)).mpr c_264
                refine lv_iconst (v := 4) hx hb ndD_sortOf_271 (by decide) ?_
                exact fd_ret_i hx hb hr hlocks hS hP hD rfl (by rw [fd_so6 (by omega), fd_leg, Int64.mul_comm, if_neg (Int64.not_le.mpr n_236)]; exact (fd_lg4 _ (Nat.mod_lt _ (by decide))).2.2 (by omega)) ndD_sortOf_272
              · have n_264 := (nI_eq (a := ((j - 4) % 4)) (b := 2) (by omega) (by omega)).mp c_264
                refine lv_iconst (v := 2) hx hb ndD_sortOf_267 (by decide) ?_
                refine lv_goto (tgt := 272) hx hb ndD_sortOf_268 (by decide) ?_
                exact fd_ret_i hx hb hr hlocks hS hP hD rfl (by rw [fd_so6 (by omega), fd_leg, Int64.mul_comm, if_neg (Int64.not_le.mpr n_236)]; exact (fd_lg4 _ (Nat.mod_lt _ (by decide))).2.1 (by omega)) ndD_sortOf_272
            · have n_250 := mt (nI_leI (a := 2) (b := ((j - 4) % 4)) (by omega) (by omega)).mpr c_250
              refine lv_iconst (v := 1) hx hb ndD_sortOf_253 (by decide) ?_
              refine lv_goto (tgt := 272) hx hb ndD_sortOf_254 (by decide) ?_
              exact fd_ret_i hx hb hr hlocks hS hP hD rfl (by rw [fd_so6 (by omega), fd_leg, Int64.mul_comm, if_neg (Int64.not_le.mpr n_236)]; exact (fd_lg4 _ (Nat.mod_lt _ (by decide))).1 (by omega)) ndD_sortOf_272
          · have n_236 := mt (lg_cmp_lt _ _).mpr c_236
            refine lv_iconst (v := 0) hx hb ndD_sortOf_239 (by decide) ?_
            refine lv_goto (tgt := 272) hx hb ndD_sortOf_240 (by decide) ?_
            exact fd_ret_i hx hb hr hlocks hS hP hD rfl (by rw [fd_so6 (by omega), fd_leg, Int64.mul_comm, if_pos (Int64.not_lt.mp n_236)]) ndD_sortOf_272
        · have n_217 := (nI_eq (a := (j - 2)) (b := 1) (by omega) (by omega)).mp c_217
          refine lv_bipush (v := 8) hx hb ndD_sortOf_220 (by decide) ?_
          refine lv_goto (tgt := 272) hx hb ndD_sortOf_222 (by decide) ?_
          exact fd_ret_i hx hb hr hlocks hS hP hD rfl (by rcases (show j = 2 ∨ j = 3 ∨ j = 4 ∨ j = 5 ∨ 6 ≤ j by omega) with rfl | rfl | rfl | rfl | h6 <;> first | rfl | (exfalso; omega) | (rw [fd_due, if_neg (by decide), if_neg (by decide), if_pos h6])) ndD_sortOf_272
      · have n_206 := (nI_eq (a := (j - 2)) (b := 0) (by omega) (by omega)).mp c_206
        refine lv_bipush (v := 7) hx hb ndD_sortOf_209 (by decide) ?_
        refine lv_goto (tgt := 272) hx hb ndD_sortOf_211 (by decide) ?_
        exact fd_ret_i hx hb hr hlocks hS hP hD rfl (by rcases (show j = 2 ∨ j = 3 ∨ j = 4 ∨ j = 5 ∨ 6 ≤ j by omega) with rfl | rfl | rfl | rfl | h6 <;> first | rfl | (exfalso; omega) | (rw [fd_due, if_neg (by decide), if_neg (by decide), if_pos h6])) ndD_sortOf_272
    · refine lv_tableIn (off := 252) (tgt := 273) hx hb ndD_sortOf_21 (by decide) (by decide) (by decide) (by decide) ?_
      refine lv_iload hx hb ndD_sortOf_273 (lv_at hl 0 rfl) ?_
      refine lv_if_ne (tgt := 282) hx hb ndD_sortOf_275 (by decide) (fun c_275 => ?_) (fun c_275 => ?_)
      · have n_275 := mt (nI_eq (a := (j - 2)) (b := 0) (by omega) (by omega)).mpr c_275
        refine lv_iload hx hb ndD_sortOf_282 (lv_at hl 0 rfl) ?_
        refine lv_iconst (v := 1) hx hb ndD_sortOf_284 (by decide) ?_
        refine lv_icmp_ne (tgt := 292) hx hb ndD_sortOf_285 (by decide) (fun c_285 => ?_) (fun c_285 => ?_)
        · have n_285 := mt (nI_eq (a := (j - 2)) (b := 1) (by omega) (by omega)).mpr c_285
          refine lv_iconst (v := 0) hx hb ndD_sortOf_292 (by decide) ?_
          exact fd_ret_i hx hb hr hlocks hS hP hD rfl (by rcases (show j = 2 ∨ j = 3 ∨ j = 4 ∨ j = 5 ∨ 6 ≤ j by omega) with rfl | rfl | rfl | rfl | h6 <;> first | rfl | (exfalso; omega) | (rw [fd_due, if_neg (by decide), if_neg (by decide), if_pos h6])) ndD_sortOf_293
        · have n_285 := (nI_eq (a := (j - 2)) (b := 1) (by omega) (by omega)).mp c_285
          refine lv_iconst (v := 3) hx hb ndD_sortOf_288 (by decide) ?_
          refine lv_goto (tgt := 293) hx hb ndD_sortOf_289 (by decide) ?_
          exact fd_ret_i hx hb hr hlocks hS hP hD rfl (by rcases (show j = 2 ∨ j = 3 ∨ j = 4 ∨ j = 5 ∨ 6 ≤ j by omega) with rfl | rfl | rfl | rfl | h6 <;> first | rfl | (exfalso; omega) | (rw [fd_due, if_neg (by decide), if_neg (by decide), if_pos h6])) ndD_sortOf_293
      · have n_275 := (nI_eq (a := (j - 2)) (b := 0) (by omega) (by omega)).mp c_275
        refine lv_iconst (v := 1) hx hb ndD_sortOf_278 (by decide) ?_
        refine lv_goto (tgt := 293) hx hb ndD_sortOf_279 (by decide) ?_
        exact fd_ret_i hx hb hr hlocks hS hP hD rfl (by rcases (show j = 2 ∨ j = 3 ∨ j = 4 ∨ j = 5 ∨ 6 ≤ j by omega) with rfl | rfl | rfl | rfl | h6 <;> first | rfl | (exfalso; omega) | (rw [fd_due, if_neg (by decide), if_neg (by decide), if_pos h6])) ndD_sortOf_293
    · refine lv_tableIn (off := 273) (tgt := 294) hx hb ndD_sortOf_21 (by decide) (by decide) (by decide) (by decide) ?_
      refine lv_iload hx hb ndD_sortOf_294 (lv_at hl 0 rfl) ?_
      refine lv_if_ne (tgt := 303) hx hb ndD_sortOf_296 (by decide) (fun c_296 => ?_) (fun c_296 => ?_)
      · have n_296 := mt (nI_eq (a := (j - 2)) (b := 0) (by omega) (by omega)).mpr c_296
        refine lv_iconst (v := 0) hx hb ndD_sortOf_303 (by decide) ?_
        exact fd_ret_i hx hb hr hlocks hS hP hD rfl (by rcases (show j = 2 ∨ j = 3 ∨ j = 4 ∨ j = 5 ∨ 6 ≤ j by omega) with rfl | rfl | rfl | rfl | h6 <;> first | rfl | (exfalso; omega) | (rw [fd_due, if_neg (by decide), if_neg (by decide), if_pos h6])) ndD_sortOf_304
      · have n_296 := (nI_eq (a := (j - 2)) (b := 0) (by omega) (by omega)).mp c_296
        refine lv_iconst (v := 3) hx hb ndD_sortOf_299 (by decide) ?_
        refine lv_goto (tgt := 304) hx hb ndD_sortOf_300 (by decide) ?_
        exact fd_ret_i hx hb hr hlocks hS hP hD rfl (by rcases (show j = 2 ∨ j = 3 ∨ j = 4 ∨ j = 5 ∨ 6 ≤ j by omega) with rfl | rfl | rfl | rfl | h6 <;> first | rfl | (exfalso; omega) | (rw [fd_due, if_neg (by decide), if_neg (by decide), if_pos h6])) ndD_sortOf_304
    · refine lv_tableIn (off := 284) (tgt := 305) hx hb ndD_sortOf_21 (by decide) (by decide) (by decide) (by decide) ?_
      refine lv_iload hx hb ndD_sortOf_305 (lv_at hl 0 rfl) ?_
      refine lv_if_ne (tgt := 314) hx hb ndD_sortOf_307 (by decide) (fun c_307 => ?_) (fun c_307 => ?_)
      · have n_307 := mt (nI_eq (a := (j - 2)) (b := 0) (by omega) (by omega)).mpr c_307
        refine lv_iload hx hb ndD_sortOf_314 (lv_at hl 0 rfl) ?_
        refine lv_iconst (v := 1) hx hb ndD_sortOf_316 (by decide) ?_
        refine lv_icmp_ne (tgt := 325) hx hb ndD_sortOf_317 (by decide) (fun c_317 => ?_) (fun c_317 => ?_)
        · have n_317 := mt (nI_eq (a := (j - 2)) (b := 1) (by omega) (by omega)).mpr c_317
          refine lv_iconst (v := 0) hx hb ndD_sortOf_325 (by decide) ?_
          exact fd_ret_i hx hb hr hlocks hS hP hD rfl (by rcases (show j = 2 ∨ j = 3 ∨ j = 4 ∨ j = 5 ∨ 6 ≤ j by omega) with rfl | rfl | rfl | rfl | h6 <;> first | rfl | (exfalso; omega) | (rw [fd_due, if_neg (by decide), if_neg (by decide), if_pos h6])) ndD_sortOf_326
        · have n_317 := (nI_eq (a := (j - 2)) (b := 1) (by omega) (by omega)).mp c_317
          refine lv_bipush (v := 7) hx hb ndD_sortOf_320 (by decide) ?_
          refine lv_goto (tgt := 326) hx hb ndD_sortOf_322 (by decide) ?_
          exact fd_ret_i hx hb hr hlocks hS hP hD rfl (by rcases (show j = 2 ∨ j = 3 ∨ j = 4 ∨ j = 5 ∨ 6 ≤ j by omega) with rfl | rfl | rfl | rfl | h6 <;> first | rfl | (exfalso; omega) | (rw [fd_due, if_neg (by decide), if_neg (by decide), if_pos h6])) ndD_sortOf_326
      · have n_307 := (nI_eq (a := (j - 2)) (b := 0) (by omega) (by omega)).mp c_307
        refine lv_iconst (v := 3) hx hb ndD_sortOf_310 (by decide) ?_
        refine lv_goto (tgt := 326) hx hb ndD_sortOf_311 (by decide) ?_
        exact fd_ret_i hx hb hr hlocks hS hP hD rfl (by rcases (show j = 2 ∨ j = 3 ∨ j = 4 ∨ j = 5 ∨ 6 ≤ j by omega) with rfl | rfl | rfl | rfl | h6 <;> first | rfl | (exfalso; omega) | (rw [fd_due, if_neg (by decide), if_neg (by decide), if_pos h6])) ndD_sortOf_326
    · refine lv_tableIn (off := 306) (tgt := 327) hx hb ndD_sortOf_21 (by decide) (by decide) (by decide) (by decide) ?_
      refine lv_iload hx hb ndD_sortOf_327 (lv_at hl 0 rfl) ?_
      refine lv_if_ne (tgt := 336) hx hb ndD_sortOf_329 (by decide) (fun c_329 => ?_) (fun c_329 => ?_)
      · have n_329 := mt (nI_eq (a := (j - 2)) (b := 0) (by omega) (by omega)).mpr c_329
        refine lv_iload hx hb ndD_sortOf_336 (lv_at hl 0 rfl) ?_
        refine lv_iconst (v := 1) hx hb ndD_sortOf_338 (by decide) ?_
        refine lv_icmp_ne (tgt := 346) hx hb ndD_sortOf_339 (by decide) (fun c_339 => ?_) (fun c_339 => ?_)
        · have n_339 := mt (nI_eq (a := (j - 2)) (b := 1) (by omega) (by omega)).mpr c_339
          refine lv_iconst (v := 0) hx hb ndD_sortOf_346 (by decide) ?_
          exact fd_ret_i hx hb hr hlocks hS hP hD rfl (by rcases (show j = 2 ∨ j = 3 ∨ j = 4 ∨ j = 5 ∨ 6 ≤ j by omega) with rfl | rfl | rfl | rfl | h6 <;> first | rfl | (exfalso; omega) | (rw [fd_due, if_neg (by decide), if_neg (by decide), if_pos h6])) ndD_sortOf_347
        · have n_339 := (nI_eq (a := (j - 2)) (b := 1) (by omega) (by omega)).mp c_339
          refine lv_iconst (v := 4) hx hb ndD_sortOf_342 (by decide) ?_
          refine lv_goto (tgt := 347) hx hb ndD_sortOf_343 (by decide) ?_
          exact fd_ret_i hx hb hr hlocks hS hP hD rfl (by rcases (show j = 2 ∨ j = 3 ∨ j = 4 ∨ j = 5 ∨ 6 ≤ j by omega) with rfl | rfl | rfl | rfl | h6 <;> first | rfl | (exfalso; omega) | (rw [fd_due, if_neg (by decide), if_neg (by decide), if_pos h6])) ndD_sortOf_347
      · have n_329 := (nI_eq (a := (j - 2)) (b := 0) (by omega) (by omega)).mp c_329
        refine lv_iconst (v := 1) hx hb ndD_sortOf_332 (by decide) ?_
        refine lv_goto (tgt := 347) hx hb ndD_sortOf_333 (by decide) ?_
        exact fd_ret_i hx hb hr hlocks hS hP hD rfl (by rcases (show j = 2 ∨ j = 3 ∨ j = 4 ∨ j = 5 ∨ 6 ≤ j by omega) with rfl | rfl | rfl | rfl | h6 <;> first | rfl | (exfalso; omega) | (rw [fd_due, if_neg (by decide), if_neg (by decide), if_pos h6])) ndD_sortOf_347
    · refine lv_tableIn (off := 67) (tgt := 88) hx hb ndD_sortOf_21 (by decide) (by decide) (by decide) (by decide) ?_
      refine lv_iload hx hb ndD_sortOf_88 (lv_at hl 0 rfl) ?_
      refine lv_if_ne (tgt := 97) hx hb ndD_sortOf_90 (by decide) (fun c_90 => ?_) (fun c_90 => ?_)
      · have n_90 := mt (nI_eq (a := (j - 2)) (b := 0) (by omega) (by omega)).mpr c_90
        refine lv_iconst (v := 0) hx hb ndD_sortOf_97 (by decide) ?_
        exact fd_ret_i hx hb hr hlocks hS hP hD rfl (by rcases (show j = 2 ∨ j = 3 ∨ j = 4 ∨ j = 5 ∨ 6 ≤ j by omega) with rfl | rfl | rfl | rfl | h6 <;> first | rfl | (exfalso; omega) | (rw [fd_due, if_neg (by decide), if_neg (by decide), if_pos h6])) ndD_sortOf_98
      · have n_90 := (nI_eq (a := (j - 2)) (b := 0) (by omega) (by omega)).mp c_90
        refine lv_iconst (v := 1) hx hb ndD_sortOf_93 (by decide) ?_
        refine lv_goto (tgt := 98) hx hb ndD_sortOf_94 (by decide) ?_
        exact fd_ret_i hx hb hr hlocks hS hP hD rfl (by rcases (show j = 2 ∨ j = 3 ∨ j = 4 ∨ j = 5 ∨ 6 ≤ j by omega) with rfl | rfl | rfl | rfl | h6 <;> first | rfl | (exfalso; omega) | (rw [fd_due, if_neg (by decide), if_neg (by decide), if_pos h6])) ndD_sortOf_98
    · refine lv_tableIn (off := 327) (tgt := 348) hx hb ndD_sortOf_21 (by decide) (by decide) (by decide) (by decide) ?_
      refine lv_iload hx hb ndD_sortOf_348 (lv_at hl 0 rfl) ?_
      refine lv_if_ne (tgt := 357) hx hb ndD_sortOf_350 (by decide) (fun c_350 => ?_) (fun c_350 => ?_)
      · have n_350 := mt (nI_eq (a := (j - 2)) (b := 0) (by omega) (by omega)).mpr c_350
        refine lv_iload hx hb ndD_sortOf_357 (lv_at hl 0 rfl) ?_
        refine lv_iconst (v := 1) hx hb ndD_sortOf_359 (by decide) ?_
        refine lv_icmp_ne (tgt := 367) hx hb ndD_sortOf_360 (by decide) (fun c_360 => ?_) (fun c_360 => ?_)
        · have n_360 := mt (nI_eq (a := (j - 2)) (b := 1) (by omega) (by omega)).mpr c_360
          refine lv_iconst (v := 0) hx hb ndD_sortOf_367 (by decide) ?_
          exact fd_ret_i hx hb hr hlocks hS hP hD rfl (by rcases (show j = 2 ∨ j = 3 ∨ j = 4 ∨ j = 5 ∨ 6 ≤ j by omega) with rfl | rfl | rfl | rfl | h6 <;> first | rfl | (exfalso; omega) | (rw [fd_due, if_neg (by decide), if_neg (by decide), if_pos h6])) ndD_sortOf_368
        · have n_360 := (nI_eq (a := (j - 2)) (b := 1) (by omega) (by omega)).mp c_360
          refine lv_iconst (v := 4) hx hb ndD_sortOf_363 (by decide) ?_
          refine lv_goto (tgt := 368) hx hb ndD_sortOf_364 (by decide) ?_
          exact fd_ret_i hx hb hr hlocks hS hP hD rfl (by rcases (show j = 2 ∨ j = 3 ∨ j = 4 ∨ j = 5 ∨ 6 ≤ j by omega) with rfl | rfl | rfl | rfl | h6 <;> first | rfl | (exfalso; omega) | (rw [fd_due, if_neg (by decide), if_neg (by decide), if_pos h6])) ndD_sortOf_368
      · have n_350 := (nI_eq (a := (j - 2)) (b := 0) (by omega) (by omega)).mp c_350
        refine lv_iconst (v := 2) hx hb ndD_sortOf_353 (by decide) ?_
        refine lv_goto (tgt := 368) hx hb ndD_sortOf_354 (by decide) ?_
        exact fd_ret_i hx hb hr hlocks hS hP hD rfl (by rcases (show j = 2 ∨ j = 3 ∨ j = 4 ∨ j = 5 ∨ 6 ≤ j by omega) with rfl | rfl | rfl | rfl | h6 <;> first | rfl | (exfalso; omega) | (rw [fd_due, if_neg (by decide), if_neg (by decide), if_pos h6])) ndD_sortOf_368
    · refine lv_tableIn (off := 327) (tgt := 348) hx hb ndD_sortOf_21 (by decide) (by decide) (by decide) (by decide) ?_
      refine lv_iload hx hb ndD_sortOf_348 (lv_at hl 0 rfl) ?_
      refine lv_if_ne (tgt := 357) hx hb ndD_sortOf_350 (by decide) (fun c_350 => ?_) (fun c_350 => ?_)
      · have n_350 := mt (nI_eq (a := (j - 2)) (b := 0) (by omega) (by omega)).mpr c_350
        refine lv_iload hx hb ndD_sortOf_357 (lv_at hl 0 rfl) ?_
        refine lv_iconst (v := 1) hx hb ndD_sortOf_359 (by decide) ?_
        refine lv_icmp_ne (tgt := 367) hx hb ndD_sortOf_360 (by decide) (fun c_360 => ?_) (fun c_360 => ?_)
        · have n_360 := mt (nI_eq (a := (j - 2)) (b := 1) (by omega) (by omega)).mpr c_360
          refine lv_iconst (v := 0) hx hb ndD_sortOf_367 (by decide) ?_
          exact fd_ret_i hx hb hr hlocks hS hP hD rfl (by rcases (show j = 2 ∨ j = 3 ∨ j = 4 ∨ j = 5 ∨ 6 ≤ j by omega) with rfl | rfl | rfl | rfl | h6 <;> first | rfl | (exfalso; omega) | (rw [fd_due, if_neg (by decide), if_neg (by decide), if_pos h6])) ndD_sortOf_368
        · have n_360 := (nI_eq (a := (j - 2)) (b := 1) (by omega) (by omega)).mp c_360
          refine lv_iconst (v := 4) hx hb ndD_sortOf_363 (by decide) ?_
          refine lv_goto (tgt := 368) hx hb ndD_sortOf_364 (by decide) ?_
          exact fd_ret_i hx hb hr hlocks hS hP hD rfl (by rcases (show j = 2 ∨ j = 3 ∨ j = 4 ∨ j = 5 ∨ 6 ≤ j by omega) with rfl | rfl | rfl | rfl | h6 <;> first | rfl | (exfalso; omega) | (rw [fd_due, if_neg (by decide), if_neg (by decide), if_pos h6])) ndD_sortOf_368
      · have n_350 := (nI_eq (a := (j - 2)) (b := 0) (by omega) (by omega)).mp c_350
        refine lv_iconst (v := 2) hx hb ndD_sortOf_353 (by decide) ?_
        refine lv_goto (tgt := 368) hx hb ndD_sortOf_354 (by decide) ?_
        exact fd_ret_i hx hb hr hlocks hS hP hD rfl (by rcases (show j = 2 ∨ j = 3 ∨ j = 4 ∨ j = 5 ∨ 6 ≤ j by omega) with rfl | rfl | rfl | rfl | h6 <;> first | rfl | (exfalso; omega) | (rw [fd_due, if_neg (by decide), if_neg (by decide), if_pos h6])) ndD_sortOf_368
    · refine lv_tableOut (tgt := 369) hx hb ndD_sortOf_21 (by decide) (by decide) ?_
      refine lv_iconst (v := 0) hx hb ndD_sortOf_369 (by decide) ?_
      exact fd_ret_i hx hb hr hlocks hS hP hD rfl (by rcases (show j = 2 ∨ j = 3 ∨ j = 4 ∨ j = 5 ∨ 6 ≤ j by omega) with rfl | rfl | rfl | rfl | h6 <;> first | rfl | (exfalso; omega) | (rw [fd_due, if_neg (by decide), if_neg (by decide), if_pos h6])) ndD_sortOf_370
    · refine lv_tableOut (tgt := 369) hx hb ndD_sortOf_21 (by decide) (by decide) ?_
      refine lv_iconst (v := 0) hx hb ndD_sortOf_369 (by decide) ?_
      exact fd_ret_i hx hb hr hlocks hS hP hD rfl (by rcases (show j = 2 ∨ j = 3 ∨ j = 4 ∨ j = 5 ∨ 6 ≤ j by omega) with rfl | rfl | rfl | rfl | h6 <;> first | rfl | (exfalso; omega) | (rw [fd_due, if_neg (by decide), if_neg (by decide), if_pos h6])) ndD_sortOf_370
  · have n_2 := mt (nI_leI (a := 2) (b := j) (by omega) (by omega)).mpr c_2
    refine lv_iload_n hx hb ndD_sortOf_5 rfl (lv_at hl 1 rfl) ?_
    refine lv_if_ne (tgt := 13) hx hb ndD_sortOf_6 (by decide) (fun c_6 => ?_) (fun c_6 => ?_)
    · have n_6 := mt (nI_eq (a := j) (b := 0) (by omega) (by omega)).mpr c_6
      refine lv_iconst (v := 3) hx hb ndD_sortOf_13 (by decide) ?_
      exact fd_ret_i hx hb hr hlocks hS hP hD rfl (by rw [show j = 1 by omega]; exact (fd_so1 h1 h2 _).symm) ndD_sortOf_14
    · have n_6 := (nI_eq (a := j) (b := 0) (by omega) (by omega)).mp c_6
      refine lv_iconst (v := 1) hx hb ndD_sortOf_9 (by decide) ?_
      refine lv_goto (tgt := 14) hx hb ndD_sortOf_10 (by decide) ?_
      exact fd_ret_i hx hb hr hlocks hS hP hD rfl (by rw [show j = 0 by omega]; exact (fd_so0 h1 h2 _).symm) ndD_sortOf_14
set_option maxHeartbeats 4000000 in
set_option maxRecDepth 100000 in
theorem kD_width (l : Launch) (D : va_G) (Z : Nat → Nat) (cI cL : ClassId) {s1 : Nat} (h1 : 1 ≤ s1) (h2 : s1 ≤ 8) : fd_Mi l D fd_cl (fd_ty cI cL) (fd_EV Z) nyD_width (.code nyD_width ncD_width 1 (some .int) :: fd_TB) nmD_width [.int (nI s1)] [] [] (nI (fd_W (nI s1))) := by
  refine fd_open_i (cc := ncD_width) (maxL := 1) (ret := (some .int)) (by decide) rfl (Nat.le_of_ble_eq_true rfl) ?_
  intro p e s m below meth c A ls X hP hD hS hl
  obtain ⟨hx, hb, hr, hml, hown, hts0, hlocks, hK, hEV, hA⟩ := X
  have hts : ∀ w ∈ fd_TB, w.before _ s = true := fun w h => hts0 w (List.mem_cons_of_mem _ h)
  have hE := fd_EV_ok Z
  have hown : s.vm.findClass "FieldDeskModel" = some m.cls := hown
  have hl : lv_has ls 1 [(0, .int (nI s1))] := hl
  refine lv_iload_n hx hb ndD_width_0 rfl (lv_at hl 0 rfl) ?_
  rcases (show s1 = 1 ∨ s1 = 2 ∨ s1 = 3 ∨ s1 = 4 ∨ s1 = 5 ∨ s1 = 6 ∨ s1 = 7 ∨ s1 = 8 by omega) with rfl | rfl | rfl | rfl | rfl | rfl | rfl | rfl
  · refine lv_tableIn (off := 39) (tgt := 40) hx hb ndD_width_1 (by decide) (by decide) (by decide) (by decide) ?_
    refine lv_iconst (v := 4) hx hb ndD_width_40 (by decide) ?_
    exact fd_ret_i hx hb hr hlocks hS hP hD rfl (by decide +kernel) ndD_width_41
  · refine lv_tableIn (off := 41) (tgt := 42) hx hb ndD_width_1 (by decide) (by decide) (by decide) (by decide) ?_
    refine lv_iconst (v := 3) hx hb ndD_width_42 (by decide) ?_
    exact fd_ret_i hx hb hr hlocks hS hP hD rfl (by decide +kernel) ndD_width_43
  · refine lv_tableIn (off := 43) (tgt := 44) hx hb ndD_width_1 (by decide) (by decide) (by decide) (by decide) ?_
    refine lv_bipush (v := 8) hx hb ndD_width_44 (by decide) ?_
    exact fd_ret_i hx hb hr hlocks hS hP hD rfl (by decide +kernel) ndD_width_46
  · refine lv_tableIn (off := 46) (tgt := 47) hx hb ndD_width_1 (by decide) (by decide) (by decide) (by decide) ?_
    refine lv_bipush (v := 15) hx hb ndD_width_47 (by decide) ?_
    exact fd_ret_i hx hb hr hlocks hS hP hD rfl (by decide +kernel) ndD_width_49
  · refine lv_tableIn (off := 51) (tgt := 52) hx hb ndD_width_1 (by decide) (by decide) (by decide) (by decide) ?_
    refine lv_iconst (v := 1) hx hb ndD_width_52 (by decide) ?_
    exact fd_ret_i hx hb hr hlocks hS hP hD rfl (by decide +kernel) ndD_width_53
  · refine lv_tableIn (off := 49) (tgt := 50) hx hb ndD_width_1 (by decide) (by decide) (by decide) (by decide) ?_
    refine lv_iconst (v := 2) hx hb ndD_width_50 (by decide) ?_
    exact fd_ret_i hx hb hr hlocks hS hP hD rfl (by decide +kernel) ndD_width_51
  · refine lv_tableOut (tgt := 52) hx hb ndD_width_1 (by decide) (by decide) ?_
    refine lv_iconst (v := 1) hx hb ndD_width_52 (by decide) ?_
    exact fd_ret_i hx hb hr hlocks hS hP hD rfl (by decide +kernel) ndD_width_53
  · refine lv_tableOut (tgt := 52) hx hb ndD_width_1 (by decide) (by decide) ?_
    refine lv_iconst (v := 1) hx hb ndD_width_52 (by decide) ?_
    exact fd_ret_i hx hb hr hlocks hS hP hD rfl (by decide +kernel) ndD_width_53
set_option maxHeartbeats 4000000 in
set_option maxRecDepth 100000 in
theorem kD_most (l : Launch) (D : va_G) (Z : Nat → Nat) (cI cL : ClassId) {s1 : Nat} (h1 : 1 ≤ s1) (h2 : s1 ≤ 8) : fd_Ml l D fd_cl (fd_ty cI cL) (fd_EV Z) nyD_most (.code nyD_most ncD_most 1 (some .long) :: fd_TB) nmD_most [.int (nI s1)] [] [] (fd_mn.getD s1 0) := by
  refine fd_open_l (cc := ncD_most) (maxL := 1) (ret := (some .long)) (by decide) rfl (Nat.le_of_ble_eq_true rfl) ?_
  intro p e s m below meth c A ls X hP hD hS hl
  obtain ⟨hx, hb, hr, hml, hown, hts0, hlocks, hK, hEV, hA⟩ := X
  have hts : ∀ w ∈ fd_TB, w.before _ s = true := fun w h => hts0 w (List.mem_cons_of_mem _ h)
  have hE := fd_EV_ok Z
  have hown : s.vm.findClass "FieldDeskModel" = some m.cls := hown
  have hl : lv_has ls 1 [(0, .int (nI s1))] := hl
  refine lv_iload_n hx hb ndD_most_0 rfl (lv_at hl 0 rfl) ?_
  rcases (show s1 = 1 ∨ s1 = 2 ∨ s1 = 3 ∨ s1 = 4 ∨ s1 = 5 ∨ s1 = 6 ∨ s1 = 7 ∨ s1 = 8 by omega) with rfl | rfl | rfl | rfl | rfl | rfl | rfl | rfl
  · refine lv_tableIn (off := 43) (tgt := 44) hx hb ndD_most_1 (by decide) (by decide) (by decide) (by decide) ?_
    refine lv_ldc2 hx hb hown (hts _ tb_337) ndD_most_44 ?_
    exact fd_ret_l hx hb hr hlocks hS hP hD (by decide +kernel) ndD_most_47
  · refine lv_tableIn (off := 47) (tgt := 48) hx hb ndD_most_1 (by decide) (by decide) (by decide) (by decide) ?_
    refine lv_ldc2 hx hb hown (hts _ tb_338) ndD_most_48 ?_
    exact fd_ret_l hx hb hr hlocks hS hP hD (by decide +kernel) ndD_most_51
  · refine lv_tableIn (off := 51) (tgt := 52) hx hb ndD_most_1 (by decide) (by decide) (by decide) (by decide) ?_
    refine lv_ldc2 hx hb hown (hts _ tb_339) ndD_most_52 ?_
    exact fd_ret_l hx hb hr hlocks hS hP hD (by decide +kernel) ndD_most_55
  · refine lv_tableIn (off := 55) (tgt := 56) hx hb ndD_most_1 (by decide) (by decide) (by decide) (by decide) ?_
    refine lv_ldc2 hx hb hown (hts _ tb_340) ndD_most_56 ?_
    exact fd_ret_l hx hb hr hlocks hS hP hD (by decide +kernel) ndD_most_59
  · refine lv_tableIn (off := 59) (tgt := 60) hx hb ndD_most_1 (by decide) (by decide) (by decide) (by decide) ?_
    refine lv_lconst (v := 1) hx hb ndD_most_60 (by decide) ?_
    exact fd_ret_l hx hb hr hlocks hS hP hD (by decide +kernel) ndD_most_61
  · refine lv_tableIn (off := 61) (tgt := 62) hx hb ndD_most_1 (by decide) (by decide) (by decide) (by decide) ?_
    refine lv_ldc2 hx hb hown (hts _ tb_341) ndD_most_62 ?_
    exact fd_ret_l hx hb hr hlocks hS hP hD (by decide +kernel) ndD_most_65
  · refine lv_tableIn (off := 65) (tgt := 66) hx hb ndD_most_1 (by decide) (by decide) (by decide) (by decide) ?_
    refine lv_ldc2 hx hb hown (hts _ tb_342) ndD_most_66 ?_
    exact fd_ret_l hx hb hr hlocks hS hP hD (by decide +kernel) ndD_most_69
  · refine lv_tableOut (tgt := 70) hx hb ndD_most_1 (by decide) (by decide) ?_
    refine lv_ldc2 hx hb hown (hts _ tb_306) ndD_most_70 ?_
    exact fd_ret_l hx hb hr hlocks hS hP hD (by decide +kernel) ndD_most_73
set_option maxHeartbeats 4000000 in
set_option maxRecDepth 100000 in
theorem kD_isSign (l : Launch) (D : va_G) (Z : Nat → Nat) (cI cL : ClassId) (x : Int32) : fd_Mi l D fd_cl (fd_ty cI cL) (fd_EV Z) nyD_isSign (.code nyD_isSign ncD_isSign 1 (some .boolean) :: fd_TB) nmD_isSign [.int x] [] [] (fd_isg x) := by
  refine fd_open_i (cc := ncD_isSign) (maxL := 1) (ret := (some .boolean)) (by decide) rfl (Nat.le_of_ble_eq_true rfl) ?_
  intro p e s m below meth c A ls X hP hD hS hl
  obtain ⟨hx, hb, hr, hml, hown, hts0, hlocks, hK, hEV, hA⟩ := X
  have hts : ∀ w ∈ fd_TB, w.before _ s = true := fun w h => hts0 w (List.mem_cons_of_mem _ h)
  have hE := fd_EV_ok Z
  have hown : s.vm.findClass "FieldDeskModel" = some m.cls := hown
  have hl : lv_has ls 1 [(0, .int x)] := hl
  refine lv_iload_n hx hb ndD_isSign_0 rfl (lv_at hl 0 rfl) ?_
  refine lv_bipush (v := 48) hx hb ndD_isSign_1 (by decide) ?_
  refine lv_icmp_lt (tgt := 12) hx hb ndD_isSign_3 (by decide) (fun c_3 => ?_) (fun c_3 => ?_)
  · refine lv_iload_n hx hb ndD_isSign_12 rfl (lv_at hl 0 rfl) ?_
    refine lv_bipush (v := 65) hx hb ndD_isSign_13 (by decide) ?_
    refine lv_icmp_lt (tgt := 28) hx hb ndD_isSign_15 (by decide) (fun c_15 => ?_) (fun c_15 => ?_)
    · refine lv_iconst (v := 0) hx hb ndD_isSign_28 (by decide) ?_
      exact fd_ret_i hx hb hr hlocks hS hP hD rfl (by rw [fd_isg, if_pos c_3, if_pos c_15]) ndD_isSign_29
    · refine lv_iload_n hx hb ndD_isSign_18 rfl (lv_at hl 0 rfl) ?_
      refine lv_bipush (v := 90) hx hb ndD_isSign_19 (by decide) ?_
      refine lv_icmp_gt (tgt := 28) hx hb ndD_isSign_21 (by decide) (fun c_21 => ?_) (fun c_21 => ?_)
      · refine lv_iconst (v := 0) hx hb ndD_isSign_28 (by decide) ?_
        exact fd_ret_i hx hb hr hlocks hS hP hD rfl (by rw [fd_isg, if_pos c_3, if_neg c_15, if_pos c_21]) ndD_isSign_29
      · refine lv_iconst (v := 1) hx hb ndD_isSign_24 (by decide) ?_
        refine lv_goto (tgt := 29) hx hb ndD_isSign_25 (by decide) ?_
        exact fd_ret_i hx hb hr hlocks hS hP hD rfl (by rw [fd_isg, if_pos c_3, if_neg c_15, if_neg c_21]) ndD_isSign_29
  · refine lv_iload_n hx hb ndD_isSign_6 rfl (lv_at hl 0 rfl) ?_
    refine lv_bipush (v := 57) hx hb ndD_isSign_7 (by decide) ?_
    refine lv_icmp_le (tgt := 24) hx hb ndD_isSign_9 (by decide) (fun c_9 => ?_) (fun c_9 => ?_)
    · refine lv_iconst (v := 1) hx hb ndD_isSign_24 (by decide) ?_
      refine lv_goto (tgt := 29) hx hb ndD_isSign_25 (by decide) ?_
      exact fd_ret_i hx hb hr hlocks hS hP hD rfl (by rw [fd_isg, if_neg c_3, if_pos c_9]) ndD_isSign_29
    · refine lv_iload_n hx hb ndD_isSign_12 rfl (lv_at hl 0 rfl) ?_
      refine lv_bipush (v := 65) hx hb ndD_isSign_13 (by decide) ?_
      refine lv_icmp_lt (tgt := 28) hx hb ndD_isSign_15 (by decide) (fun c_15 => ?_) (fun c_15 => ?_)
      · refine lv_iconst (v := 0) hx hb ndD_isSign_28 (by decide) ?_
        exact fd_ret_i hx hb hr hlocks hS hP hD rfl (by rw [fd_isg, if_neg c_3, if_neg c_9, if_pos c_15]) ndD_isSign_29
      · refine lv_iload_n hx hb ndD_isSign_18 rfl (lv_at hl 0 rfl) ?_
        refine lv_bipush (v := 90) hx hb ndD_isSign_19 (by decide) ?_
        refine lv_icmp_gt (tgt := 28) hx hb ndD_isSign_21 (by decide) (fun c_21 => ?_) (fun c_21 => ?_)
        · refine lv_iconst (v := 0) hx hb ndD_isSign_28 (by decide) ?_
          exact fd_ret_i hx hb hr hlocks hS hP hD rfl (by rw [fd_isg, if_neg c_3, if_neg c_9, if_neg c_15, if_pos c_21]) ndD_isSign_29
        · refine lv_iconst (v := 1) hx hb ndD_isSign_24 (by decide) ?_
          refine lv_goto (tgt := 29) hx hb ndD_isSign_25 (by decide) ?_
          exact fd_ret_i hx hb hr hlocks hS hP hD rfl (by rw [fd_isg, if_neg c_3, if_neg c_9, if_neg c_15, if_neg c_21]) ndD_isSign_29
set_option maxHeartbeats 4000000 in
set_option maxRecDepth 100000 in
theorem kD_valueOf (l : Launch) (D : va_G) (Z : Nat → Nat) (cI cL : ClassId) (x : Int32) : fd_Mi l D fd_cl (fd_ty cI cL) (fd_EV Z) nyD_valueOf (.code nyD_valueOf ncD_valueOf 1 (some .int) :: fd_TB) nmD_valueOf [.int x] [] [] (fd_vo x) := by
  refine fd_open_i (cc := ncD_valueOf) (maxL := 1) (ret := (some .int)) (by decide) rfl (Nat.le_of_ble_eq_true rfl) ?_
  intro p e s m below meth c A ls X hP hD hS hl
  obtain ⟨hx, hb, hr, hml, hown, hts0, hlocks, hK, hEV, hA⟩ := X
  have hts : ∀ w ∈ fd_TB, w.before _ s = true := fun w h => hts0 w (List.mem_cons_of_mem _ h)
  have hE := fd_EV_ok Z
  have hown : s.vm.findClass "FieldDeskModel" = some m.cls := hown
  have hl : lv_has ls 1 [(0, .int x)] := hl
  refine lv_iload_n hx hb ndD_valueOf_0 rfl (lv_at hl 0 rfl) ?_
  refine lv_bipush (v := 57) hx hb ndD_valueOf_1 (by decide) ?_
  refine lv_icmp_gt (tgt := 13) hx hb ndD_valueOf_3 (by decide) (fun c_3 => ?_) (fun c_3 => ?_)
  · refine lv_iload_n hx hb ndD_valueOf_13 rfl (lv_at hl 0 rfl) ?_
    refine lv_bipush (v := 65) hx hb ndD_valueOf_14 (by decide) ?_
    refine lv_isub hx hb ndD_valueOf_16 ?_
    refine lv_bipush (v := 10) hx hb ndD_valueOf_17 (by decide) ?_
    refine lv_iadd hx hb ndD_valueOf_19 ?_
    exact fd_ret_i hx hb hr hlocks hS hP hD rfl (by rw [fd_vo, if_pos c_3]) ndD_valueOf_20
  · refine lv_iload_n hx hb ndD_valueOf_6 rfl (lv_at hl 0 rfl) ?_
    refine lv_bipush (v := 48) hx hb ndD_valueOf_7 (by decide) ?_
    refine lv_isub hx hb ndD_valueOf_9 ?_
    refine lv_goto (tgt := 20) hx hb ndD_valueOf_10 (by decide) ?_
    exact fd_ret_i hx hb hr hlocks hS hP hD rfl (by rw [fd_vo, if_neg c_3]) ndD_valueOf_20
set_option maxHeartbeats 4000000 in
set_option maxRecDepth 100000 in
theorem kD_step (l : Launch) (D : va_G) (Z : Nat → Nat) (cI cL : ClassId) (x : Int32) (y : Int32) : fd_Mi l D fd_cl (fd_ty cI cL) (fd_EV Z) nyD_step (.code nyD_step ncD_step 2 (some .int) :: fd_TB) nmD_step [.int x, .int y] [] [] (fd_stp x y) := by
  refine fd_open_i (cc := ncD_step) (maxL := 2) (ret := (some .int)) (by decide) rfl (Nat.le_of_ble_eq_true rfl) ?_
  intro p e s m below meth c A ls X hP hD hS hl
  obtain ⟨hx, hb, hr, hml, hown, hts0, hlocks, hK, hEV, hA⟩ := X
  have hts : ∀ w ∈ fd_TB, w.before _ s = true := fun w h => hts0 w (List.mem_cons_of_mem _ h)
  have hE := fd_EV_ok Z
  have hown : s.vm.findClass "FieldDeskModel" = some m.cls := hown
  have hl : lv_has ls 2 [(0, .int x), (1, .int y)] := hl
  refine lv_iload_n hx hb ndD_step_0 rfl (lv_at hl 1 rfl) ?_
  refine lv_bipush (v := 57) hx hb ndD_step_1 (by decide) ?_
  refine lv_icmp_gt (tgt := 21) hx hb ndD_step_3 (by decide) (fun c_3 => ?_) (fun c_3 => ?_)
  · refine lv_iload_n hx hb ndD_step_21 rfl (lv_at hl 0 rfl) ?_
    refine lv_bipush (v := 100) hx hb ndD_step_22 (by decide) ?_
    refine lv_imul hx hb ndD_step_24 ?_
    refine lv_iload_n hx hb ndD_step_25 rfl (lv_at hl 1 rfl) ?_
    refine lv_iadd hx hb ndD_step_26 ?_
    refine lv_bipush (v := 65) hx hb ndD_step_27 (by decide) ?_
    refine lv_isub hx hb ndD_step_29 ?_
    refine lv_bipush (v := 10) hx hb ndD_step_30 (by decide) ?_
    refine lv_iadd hx hb ndD_step_32 ?_
    refine lv_bipush (v := 97) hx hb ndD_step_33 (by decide) ?_
    refine lv_irem hx hb ndD_step_35 (by decide) ?_
    exact fd_ret_i hx hb hr hlocks hS hP hD rfl (by rw [fd_stp, if_pos c_3]) ndD_step_36
  · refine lv_iload_n hx hb ndD_step_6 rfl (lv_at hl 0 rfl) ?_
    refine lv_bipush (v := 10) hx hb ndD_step_7 (by decide) ?_
    refine lv_imul hx hb ndD_step_9 ?_
    refine lv_iload_n hx hb ndD_step_10 rfl (lv_at hl 1 rfl) ?_
    refine lv_iadd hx hb ndD_step_11 ?_
    refine lv_bipush (v := 48) hx hb ndD_step_12 (by decide) ?_
    refine lv_isub hx hb ndD_step_14 ?_
    refine lv_bipush (v := 97) hx hb ndD_step_15 (by decide) ?_
    refine lv_irem hx hb ndD_step_17 (by decide) ?_
    refine lv_goto (tgt := 36) hx hb ndD_step_18 (by decide) ?_
    exact fd_ret_i hx hb hr hlocks hS hP hD rfl (by rw [fd_stp, if_neg c_3]) ndD_step_36
set_option maxHeartbeats 4000000 in
set_option maxRecDepth 100000 in
theorem kD_fits (l : Launch) (D : va_G) (Z : Nat → Nat) (cI cL : ClassId) {s1 : Nat} (h1 : 1 ≤ s1) (h2 : s1 ≤ 8) (x z : Int32) : fd_Mi l D fd_cl (fd_ty cI cL) (fd_EV Z) nyD_fits (.code nyD_fits ncD_fits 3 (some .boolean) :: fd_TB) nmD_fits [.int (nI s1), .int x, .int z] [] [] (fd_fit s1 x z) := by
  refine fd_open_i (cc := ncD_fits) (maxL := 3) (ret := (some .boolean)) (by decide) rfl (Nat.le_of_ble_eq_true rfl) ?_
  intro p e s m below meth c A ls X hP hD hS hl
  obtain ⟨hx, hb, hr, hml, hown, hts0, hlocks, hK, hEV, hA⟩ := X
  have hts : ∀ w ∈ fd_TB, w.before _ s = true := fun w h => hts0 w (List.mem_cons_of_mem _ h)
  have hE := fd_EV_ok Z
  have hown : s.vm.findClass "FieldDeskModel" = some m.cls := hown
  have hl : lv_has ls 3 [(0, .int (nI s1)), (1, .int x), (2, .int z)] := hl
  refine lv_iload_n hx hb ndD_fits_0 rfl (lv_at hl 0 rfl) ?_
  rcases (show s1 = 1 ∨ s1 = 2 ∨ s1 = 3 ∨ s1 = 4 ∨ s1 = 5 ∨ s1 = 6 ∨ s1 = 7 ∨ s1 = 8 by omega) with rfl | rfl | rfl | rfl | rfl | rfl | rfl | rfl
  · refine lv_tableIn (off := 43) (tgt := 44) hx hb ndD_fits_1 (by decide) (by decide) (by decide) (by decide) ?_
    refine lv_iload_n hx hb ndD_fits_44 rfl (lv_at hl 1 rfl) ?_
    refine fd_go_i (wr := []) (w2 := []) (va_runS (As := [.int x]) (rest := []) ⟨hx, hb, hml, hown, hts⟩ (kD_isSign l D Z cI cL x s.heap.size) (va_cwS 1 hts (fd_gS tb_297 tb_298 tb_16 tb_299) rfl rfl rfl nhD_isSign.2 ⟨(Nat.le_of_ble_eq_true rfl), (Nat.le_of_ble_eq_true rfl)⟩) (fd_PreS hE hK hEV hA hP hD hS [] rfl (by decide)) rfl rfl hl.1 rfl (lv_room (Nat.le_of_ble_eq_true rfl)) ndD_fits_45 ⟨(Nat.le_of_ble_eq_true rfl), (Nat.le_of_ble_eq_true rfl)⟩) hP hD hS hA [] [] rfl rfl (by decide) (by decide) [] rfl (by decide) (fun H locs hP hD hS => ?_)
    exact fd_ret_i hx hb hr hlocks hS hP hD (fd_isg_nar x) (by rw [fd_fit, if_pos (by decide)]) ndD_fits_48
  · refine lv_tableIn (off := 43) (tgt := 44) hx hb ndD_fits_1 (by decide) (by decide) (by decide) (by decide) ?_
    refine lv_iload_n hx hb ndD_fits_44 rfl (lv_at hl 1 rfl) ?_
    refine fd_go_i (wr := []) (w2 := []) (va_runS (As := [.int x]) (rest := []) ⟨hx, hb, hml, hown, hts⟩ (kD_isSign l D Z cI cL x s.heap.size) (va_cwS 1 hts (fd_gS tb_297 tb_298 tb_16 tb_299) rfl rfl rfl nhD_isSign.2 ⟨(Nat.le_of_ble_eq_true rfl), (Nat.le_of_ble_eq_true rfl)⟩) (fd_PreS hE hK hEV hA hP hD hS [] rfl (by decide)) rfl rfl hl.1 rfl (lv_room (Nat.le_of_ble_eq_true rfl)) ndD_fits_45 ⟨(Nat.le_of_ble_eq_true rfl), (Nat.le_of_ble_eq_true rfl)⟩) hP hD hS hA [] [] rfl rfl (by decide) (by decide) [] rfl (by decide) (fun H locs hP hD hS => ?_)
    exact fd_ret_i hx hb hr hlocks hS hP hD (fd_isg_nar x) (by rw [fd_fit, if_pos (by decide)]) ndD_fits_48
  · refine lv_tableIn (off := 43) (tgt := 44) hx hb ndD_fits_1 (by decide) (by decide) (by decide) (by decide) ?_
    refine lv_iload_n hx hb ndD_fits_44 rfl (lv_at hl 1 rfl) ?_
    refine fd_go_i (wr := []) (w2 := []) (va_runS (As := [.int x]) (rest := []) ⟨hx, hb, hml, hown, hts⟩ (kD_isSign l D Z cI cL x s.heap.size) (va_cwS 1 hts (fd_gS tb_297 tb_298 tb_16 tb_299) rfl rfl rfl nhD_isSign.2 ⟨(Nat.le_of_ble_eq_true rfl), (Nat.le_of_ble_eq_true rfl)⟩) (fd_PreS hE hK hEV hA hP hD hS [] rfl (by decide)) rfl rfl hl.1 rfl (lv_room (Nat.le_of_ble_eq_true rfl)) ndD_fits_45 ⟨(Nat.le_of_ble_eq_true rfl), (Nat.le_of_ble_eq_true rfl)⟩) hP hD hS hA [] [] rfl rfl (by decide) (by decide) [] rfl (by decide) (fun H locs hP hD hS => ?_)
    exact fd_ret_i hx hb hr hlocks hS hP hD (fd_isg_nar x) (by rw [fd_fit, if_pos (by decide)]) ndD_fits_48
  · refine lv_tableIn (off := 48) (tgt := 49) hx hb ndD_fits_1 (by decide) (by decide) (by decide) (by decide) ?_
    refine lv_iload_n hx hb ndD_fits_49 rfl (lv_at hl 1 rfl) ?_
    refine lv_bipush (v := 48) hx hb ndD_fits_50 (by decide) ?_
    refine lv_icmp_lt (tgt := 74) hx hb ndD_fits_52 (by decide) (fun c_52 => ?_) (fun c_52 => ?_)
    · refine lv_iconst (v := 0) hx hb ndD_fits_74 (by decide) ?_
      exact fd_ret_i hx hb hr hlocks hS hP hD rfl (by rw [fd_fit, if_neg (by decide), if_neg (by decide), if_neg (by decide), if_neg (by decide), if_pos c_52]) ndD_fits_75
    · refine lv_iload_n hx hb ndD_fits_55 rfl (lv_at hl 1 rfl) ?_
      refine lv_iload_n hx hb ndD_fits_56 rfl (lv_at hl 2 rfl) ?_
      refine lv_if_eq (tgt := 65) hx hb ndD_fits_57 (by decide) (fun c_57 => ?_) (fun c_57 => ?_)
      · refine lv_bipush (v := 57) hx hb ndD_fits_65 (by decide) ?_
        refine lv_icmp_gt (tgt := 74) hx hb ndD_fits_67 (by decide) (fun c_67 => ?_) (fun c_67 => ?_)
        · refine lv_iconst (v := 0) hx hb ndD_fits_74 (by decide) ?_
          exact fd_ret_i hx hb hr hlocks hS hP hD rfl (by rw [fd_fit, if_neg (by decide), if_neg (by decide), if_neg (by decide), if_neg (by decide), if_neg c_52, if_pos c_57, if_pos c_67]) ndD_fits_75
        · refine lv_iconst (v := 1) hx hb ndD_fits_70 (by decide) ?_
          refine lv_goto (tgt := 75) hx hb ndD_fits_71 (by decide) ?_
          exact fd_ret_i hx hb hr hlocks hS hP hD rfl (by rw [fd_fit, if_neg (by decide), if_neg (by decide), if_neg (by decide), if_neg (by decide), if_neg c_52, if_pos c_57, if_neg c_67]) ndD_fits_75
      · refine lv_bipush (v := 48) hx hb ndD_fits_60 (by decide) ?_
        refine lv_goto (tgt := 67) hx hb ndD_fits_62 (by decide) ?_
        refine lv_icmp_gt (tgt := 74) hx hb ndD_fits_67 (by decide) (fun c_67 => ?_) (fun c_67 => ?_)
        · refine lv_iconst (v := 0) hx hb ndD_fits_74 (by decide) ?_
          exact fd_ret_i hx hb hr hlocks hS hP hD rfl (by rw [fd_fit, if_neg (by decide), if_neg (by decide), if_neg (by decide), if_neg (by decide), if_neg c_52, if_neg c_57, if_pos c_67]) ndD_fits_75
        · refine lv_iconst (v := 1) hx hb ndD_fits_70 (by decide) ?_
          refine lv_goto (tgt := 75) hx hb ndD_fits_71 (by decide) ?_
          exact fd_ret_i hx hb hr hlocks hS hP hD rfl (by rw [fd_fit, if_neg (by decide), if_neg (by decide), if_neg (by decide), if_neg (by decide), if_neg c_52, if_neg c_57, if_neg c_67]) ndD_fits_75
  · refine lv_tableIn (off := 75) (tgt := 76) hx hb ndD_fits_1 (by decide) (by decide) (by decide) (by decide) ?_
    refine lv_iload_n hx hb ndD_fits_76 rfl (lv_at hl 1 rfl) ?_
    refine lv_bipush (v := 67) hx hb ndD_fits_77 (by decide) ?_
    refine lv_icmp_eq (tgt := 88) hx hb ndD_fits_79 (by decide) (fun c_79 => ?_) (fun c_79 => ?_)
    · refine lv_iconst (v := 1) hx hb ndD_fits_88 (by decide) ?_
      refine lv_goto (tgt := 93) hx hb ndD_fits_89 (by decide) ?_
      exact fd_ret_i hx hb hr hlocks hS hP hD rfl (by rw [fd_fit, if_neg (by decide), if_pos rfl, if_pos c_79]) ndD_fits_93
    · refine lv_iload_n hx hb ndD_fits_82 rfl (lv_at hl 1 rfl) ?_
      refine lv_bipush (v := 83) hx hb ndD_fits_83 (by decide) ?_
      refine lv_icmp_ne (tgt := 92) hx hb ndD_fits_85 (by decide) (fun c_85 => ?_) (fun c_85 => ?_)
      · refine lv_iconst (v := 0) hx hb ndD_fits_92 (by decide) ?_
        exact fd_ret_i hx hb hr hlocks hS hP hD rfl (by rw [fd_fit, if_neg (by decide), if_pos rfl, if_neg c_79, if_neg c_85]) ndD_fits_93
      · refine lv_iconst (v := 1) hx hb ndD_fits_88 (by decide) ?_
        refine lv_goto (tgt := 93) hx hb ndD_fits_89 (by decide) ?_
        exact fd_ret_i hx hb hr hlocks hS hP hD rfl (by rw [fd_fit, if_neg (by decide), if_pos rfl, if_neg c_79, if_pos c_85]) ndD_fits_93
  · refine lv_tableIn (off := 48) (tgt := 49) hx hb ndD_fits_1 (by decide) (by decide) (by decide) (by decide) ?_
    refine lv_iload_n hx hb ndD_fits_49 rfl (lv_at hl 1 rfl) ?_
    refine lv_bipush (v := 48) hx hb ndD_fits_50 (by decide) ?_
    refine lv_icmp_lt (tgt := 74) hx hb ndD_fits_52 (by decide) (fun c_52 => ?_) (fun c_52 => ?_)
    · refine lv_iconst (v := 0) hx hb ndD_fits_74 (by decide) ?_
      exact fd_ret_i hx hb hr hlocks hS hP hD rfl (by rw [fd_fit, if_neg (by decide), if_neg (by decide), if_neg (by decide), if_neg (by decide), if_pos c_52]) ndD_fits_75
    · refine lv_iload_n hx hb ndD_fits_55 rfl (lv_at hl 1 rfl) ?_
      refine lv_iload_n hx hb ndD_fits_56 rfl (lv_at hl 2 rfl) ?_
      refine lv_if_eq (tgt := 65) hx hb ndD_fits_57 (by decide) (fun c_57 => ?_) (fun c_57 => ?_)
      · refine lv_bipush (v := 57) hx hb ndD_fits_65 (by decide) ?_
        refine lv_icmp_gt (tgt := 74) hx hb ndD_fits_67 (by decide) (fun c_67 => ?_) (fun c_67 => ?_)
        · refine lv_iconst (v := 0) hx hb ndD_fits_74 (by decide) ?_
          exact fd_ret_i hx hb hr hlocks hS hP hD rfl (by rw [fd_fit, if_neg (by decide), if_neg (by decide), if_neg (by decide), if_neg (by decide), if_neg c_52, if_pos c_57, if_pos c_67]) ndD_fits_75
        · refine lv_iconst (v := 1) hx hb ndD_fits_70 (by decide) ?_
          refine lv_goto (tgt := 75) hx hb ndD_fits_71 (by decide) ?_
          exact fd_ret_i hx hb hr hlocks hS hP hD rfl (by rw [fd_fit, if_neg (by decide), if_neg (by decide), if_neg (by decide), if_neg (by decide), if_neg c_52, if_pos c_57, if_neg c_67]) ndD_fits_75
      · refine lv_bipush (v := 48) hx hb ndD_fits_60 (by decide) ?_
        refine lv_goto (tgt := 67) hx hb ndD_fits_62 (by decide) ?_
        refine lv_icmp_gt (tgt := 74) hx hb ndD_fits_67 (by decide) (fun c_67 => ?_) (fun c_67 => ?_)
        · refine lv_iconst (v := 0) hx hb ndD_fits_74 (by decide) ?_
          exact fd_ret_i hx hb hr hlocks hS hP hD rfl (by rw [fd_fit, if_neg (by decide), if_neg (by decide), if_neg (by decide), if_neg (by decide), if_neg c_52, if_neg c_57, if_pos c_67]) ndD_fits_75
        · refine lv_iconst (v := 1) hx hb ndD_fits_70 (by decide) ?_
          refine lv_goto (tgt := 75) hx hb ndD_fits_71 (by decide) ?_
          exact fd_ret_i hx hb hr hlocks hS hP hD rfl (by rw [fd_fit, if_neg (by decide), if_neg (by decide), if_neg (by decide), if_neg (by decide), if_neg c_52, if_neg c_57, if_neg c_67]) ndD_fits_75
  · refine lv_tableIn (off := 93) (tgt := 94) hx hb ndD_fits_1 (by decide) (by decide) (by decide) (by decide) ?_
    refine lv_iload_n hx hb ndD_fits_94 rfl (lv_at hl 1 rfl) ?_
    refine lv_bipush (v := 49) hx hb ndD_fits_95 (by decide) ?_
    refine lv_icmp_lt (tgt := 110) hx hb ndD_fits_97 (by decide) (fun c_97 => ?_) (fun c_97 => ?_)
    · refine lv_iconst (v := 0) hx hb ndD_fits_110 (by decide) ?_
      exact fd_ret_i hx hb hr hlocks hS hP hD rfl (by rw [fd_fit, if_neg (by decide), if_neg (by decide), if_pos rfl, if_pos c_97]) ndD_fits_111
    · refine lv_iload_n hx hb ndD_fits_100 rfl (lv_at hl 1 rfl) ?_
      refine lv_bipush (v := 57) hx hb ndD_fits_101 (by decide) ?_
      refine lv_icmp_gt (tgt := 110) hx hb ndD_fits_103 (by decide) (fun c_103 => ?_) (fun c_103 => ?_)
      · refine lv_iconst (v := 0) hx hb ndD_fits_110 (by decide) ?_
        exact fd_ret_i hx hb hr hlocks hS hP hD rfl (by rw [fd_fit, if_neg (by decide), if_neg (by decide), if_pos rfl, if_neg c_97, if_pos c_103]) ndD_fits_111
      · refine lv_iconst (v := 1) hx hb ndD_fits_106 (by decide) ?_
        refine lv_goto (tgt := 111) hx hb ndD_fits_107 (by decide) ?_
        exact fd_ret_i hx hb hr hlocks hS hP hD rfl (by rw [fd_fit, if_neg (by decide), if_neg (by decide), if_pos rfl, if_neg c_97, if_neg c_103]) ndD_fits_111
  · refine lv_tableOut (tgt := 112) hx hb ndD_fits_1 (by decide) (by decide) ?_
    refine lv_iload_n hx hb ndD_fits_112 rfl (lv_at hl 1 rfl) ?_
    refine lv_bipush (v := 49) hx hb ndD_fits_113 (by decide) ?_
    refine lv_icmp_lt (tgt := 128) hx hb ndD_fits_115 (by decide) (fun c_115 => ?_) (fun c_115 => ?_)
    · refine lv_iconst (v := 0) hx hb ndD_fits_128 (by decide) ?_
      exact fd_ret_i hx hb hr hlocks hS hP hD rfl (by rw [fd_fit, if_neg (by decide), if_neg (by decide), if_neg (by decide), if_pos rfl, if_pos c_115]) ndD_fits_129
    · refine lv_iload_n hx hb ndD_fits_118 rfl (lv_at hl 1 rfl) ?_
      refine lv_bipush (v := 52) hx hb ndD_fits_119 (by decide) ?_
      refine lv_icmp_gt (tgt := 128) hx hb ndD_fits_121 (by decide) (fun c_121 => ?_) (fun c_121 => ?_)
      · refine lv_iconst (v := 0) hx hb ndD_fits_128 (by decide) ?_
        exact fd_ret_i hx hb hr hlocks hS hP hD rfl (by rw [fd_fit, if_neg (by decide), if_neg (by decide), if_neg (by decide), if_pos rfl, if_neg c_115, if_pos c_121]) ndD_fits_129
      · refine lv_iconst (v := 1) hx hb ndD_fits_124 (by decide) ?_
        refine lv_goto (tgt := 129) hx hb ndD_fits_125 (by decide) ?_
        exact fd_ret_i hx hb hr hlocks hS hP hD rfl (by rw [fd_fit, if_neg (by decide), if_neg (by decide), if_neg (by decide), if_pos rfl, if_neg c_115, if_neg c_121]) ndD_fits_129
