/-! the text constant: String.length, String.charAt; letterOf -/
theorem fd_kl_ok : ∀ k, k < 45 → (((fd_kl.getD k 0) &&& 255).toUInt32 % 65536).toInt32 = fd_kl.getD k 0 := by decide +kernel
theorem fd_kl_nar (k : Nat) (h : k < 45) : narrow .char (.int (fd_kl.getD k 0)) = .int (fd_kl.getD k 0) := by
  rw [← fd_kl_ok k h]; exact pk_nc _
def fd_let (kd i : Nat) : Int32 := fd_kl.getD ((kd - 1) * 3 + i) 0
set_option maxHeartbeats 4000000 in
set_option maxRecDepth 100000 in
theorem kS_coder (l : Launch) (D : va_G) (Z : Nat → Nat) (cI cL : ClassId)  : fd_Mi l D fd_cl (fd_ty cI cL) (fd_EV Z) nyS_coder (.code nyS_coder ncS_coder 1 (some .byte) :: fd_TB) nmS_coder [.ref (Z 6)] [] [] 0 := by
  refine fd_open_i (cc := ncS_coder) (maxL := 1) (ret := (some .byte)) (by decide) rfl (Nat.le_of_ble_eq_true rfl) ?_
  intro p e s m below meth c A ls X hP hD hS hl
  obtain ⟨hx, hb, hr, hml, hown, hts0, hlocks, hK, hEV, hA⟩ := X
  have hts : ∀ w ∈ fd_TB, w.before _ s = true := fun w h => hts0 w (List.mem_cons_of_mem _ h)
  have hE := fd_EV_ok Z
  have hown : s.vm.findClass "java/lang/String" = some m.cls := hown
  have hl : lv_has ls 1 [(0, .ref (Z 6))] := hl
  refine va_gets hx hb hEV.2.2.1 hS hown (hts _ tb_106) (fun _ h9 => h9) ndS_coder_0 ?_
  refine lv_if_eq (tgt := 13) hx hb ndS_coder_3 (by decide) (fun c_3 => absurd c_3 (by decide)) (fun _ => ?_)
  refine lv_aload_n hx hb ndS_coder_6 rfl (lv_at hl 0 rfl) ?_
  refine vk_getf hx hb hEV.2.2.2.2.2.2.1 hS hown (hts _ tb_359) (fun _ h9 => h9) ndS_coder_7 ?_
  refine lv_goto (tgt := 14) hx hb ndS_coder_10 (by decide) ?_
  exact fd_ret_i hx hb hr hlocks hS hP hD rfl (rfl) ndS_coder_14
set_option maxHeartbeats 4000000 in
set_option maxRecDepth 100000 in
theorem kS_isLatin1 (l : Launch) (D : va_G) (Z : Nat → Nat) (cI cL : ClassId)  : fd_Mi l D fd_cl (fd_ty cI cL) (fd_EV Z) nyS_isLatin1 (.code nyS_isLatin1 ncS_isLatin1 1 (some .boolean) :: fd_TB) nmS_isLatin1 [.ref (Z 6)] [] [] 1 := by
  refine fd_open_i (cc := ncS_isLatin1) (maxL := 1) (ret := (some .boolean)) (by decide) rfl (Nat.le_of_ble_eq_true rfl) ?_
  intro p e s m below meth c A ls X hP hD hS hl
  obtain ⟨hx, hb, hr, hml, hown, hts0, hlocks, hK, hEV, hA⟩ := X
  have hts : ∀ w ∈ fd_TB, w.before _ s = true := fun w h => hts0 w (List.mem_cons_of_mem _ h)
  have hE := fd_EV_ok Z
  have hown : s.vm.findClass "java/lang/String" = some m.cls := hown
  have hl : lv_has ls 1 [(0, .ref (Z 6))] := hl
  refine va_gets hx hb hEV.2.2.1 hS hown (hts _ tb_106) (fun _ h9 => h9) ndS_isLatin1_0 ?_
  refine lv_if_eq (tgt := 17) hx hb ndS_isLatin1_3 (by decide) (fun c_3 => absurd c_3 (by decide)) (fun _ => ?_)
  refine lv_aload_n hx hb ndS_isLatin1_6 rfl (lv_at hl 0 rfl) ?_
  refine vk_getf hx hb hEV.2.2.2.2.2.2.1 hS hown (hts _ tb_359) (fun _ h9 => h9) ndS_isLatin1_7 ?_
  refine lv_if_ne (tgt := 17) hx hb ndS_isLatin1_10 (by decide) (fun c_10 => absurd (by decide) c_10) (fun _ => ?_)
  refine lv_iconst (v := 1) hx hb ndS_isLatin1_13 (by decide) ?_
  refine lv_goto (tgt := 18) hx hb ndS_isLatin1_14 (by decide) ?_
  exact fd_ret_i hx hb hr hlocks hS hP hD rfl (rfl) ndS_isLatin1_18
set_option maxHeartbeats 4000000 in
set_option maxRecDepth 100000 in
theorem kS_length (l : Launch) (D : va_G) (Z : Nat → Nat) (cI cL : ClassId)  : fd_Mi l D fd_cl (fd_ty cI cL) (fd_EV Z) nyS_length (.code nyS_length ncS_length 1 (some .int) :: fd_TB) nmS_length [.ref (Z 6)] [] [] (nI 45) := by
  refine fd_open_i (cc := ncS_length) (maxL := 1) (ret := (some .int)) (by decide) rfl (Nat.le_of_ble_eq_true rfl) ?_
  intro p e s m below meth c A ls X hP hD hS hl
  obtain ⟨hx, hb, hr, hml, hown, hts0, hlocks, hK, hEV, hA⟩ := X
  have hts : ∀ w ∈ fd_TB, w.before _ s = true := fun w h => hts0 w (List.mem_cons_of_mem _ h)
  have hE := fd_EV_ok Z
  have hown : s.vm.findClass "java/lang/String" = some m.cls := hown
  have hl : lv_has ls 1 [(0, .ref (Z 6))] := hl
  refine lv_aload_n hx hb ndS_length_0 rfl (lv_at hl 0 rfl) ?_
  refine vk_getf hx hb hEV.2.2.2.2.2.2.2.1 hS hown (hts _ tb_358) (fun _ h9 => h9) ndS_length_1 ?_
  refine va_tlen hx hb hEV.2.2.2.2.2.2.2.2.1 hS (v := nI 45) rfl ndS_length_4 ?_
  refine lv_aload_n hx hb ndS_length_5 rfl (lv_at hl 0 rfl) ?_
  refine fd_go_i (wr := []) (w2 := []) (va_runV (As := []) (rest := [.int (nI 45)]) ⟨hx, hb, hml, hown, hts⟩ (kS_coder l D Z cI cL s.heap.size) (cwV 0 hts (fd_gV tb_102 tb_103 tb_104 tb_17 tb_105) rfl rfl rfl nhS_coder ⟨(Nat.le_of_ble_eq_true rfl), (Nat.le_of_ble_eq_true rfl)⟩) (fd_PreR hE hK hEV hA hP hD hS [] rfl (by decide) (va_Orecv hEV.2.2.2.2.2.1 hS)) rfl rfl hl.1 rfl (lv_room (Nat.le_of_ble_eq_true rfl)) ndS_length_6 ⟨(Nat.le_of_ble_eq_true rfl), (Nat.le_of_ble_eq_true rfl)⟩) hP hD hS hA [] [] rfl rfl (by decide) (by decide) [] rfl (by decide) (fun H locs hP hD hS => ?_)
  refine lv_ishr hx hb ndS_length_9 ?_
  refine fd_asi (y := nI 45) (by decide) ?_
  exact fd_ret_i hx hb hr hlocks hS hP hD rfl (rfl) ndS_length_10
set_option maxHeartbeats 4000000 in
set_option maxRecDepth 100000 in
theorem kP_checkIndex_n (l : Launch) (D : va_G) (Z : Nat → Nat) (cI cL : ClassId) {k n : Nat} (hk : k < n) (hn : n < 2 ^ 31) : fd_Mi l D fd_cl (fd_ty cI cL) (fd_EV Z) nyP_checkIndex (.code nyP_checkIndex ncP_checkIndex 3 (some .int) :: fd_TB) nmP_checkIndex [.int (nI k), .int (nI n), .null] [] [] (nI k) := by
  refine fd_open_i (cc := ncP_checkIndex) (maxL := 3) (ret := (some .int)) (by decide) rfl (Nat.le_of_ble_eq_true rfl) ?_
  intro p e s m below meth c A ls X hP hD hS hl
  obtain ⟨hx, hb, hr, hml, hown, hts0, hlocks, hK, hEV, hA⟩ := X
  have hts : ∀ w ∈ fd_TB, w.before _ s = true := fun w h => hts0 w (List.mem_cons_of_mem _ h)
  have hE := fd_EV_ok Z
  have hown : s.vm.findClass "jdk/internal/util/Preconditions" = some m.cls := hown
  have hl : lv_has ls 3 [(0, .int (nI k)), (1, .int (nI n)), (2, .null)] := hl
  refine lv_iload_n hx hb ndP_checkIndex_0 rfl (lv_at hl 0 rfl) ?_
  refine lv_if_lt (tgt := 9) hx hb ndP_checkIndex_1 (by decide) (fun c_1 => absurd c_1 (fun h9 => absurd ((nI_ltI (a := k) (b := 0) (by omega) (by omega)).mp h9) (by omega))) (fun _ => ?_)
  refine lv_iload_n hx hb ndP_checkIndex_4 rfl (lv_at hl 0 rfl) ?_
  refine lv_iload_n hx hb ndP_checkIndex_5 rfl (lv_at hl 1 rfl) ?_
  refine lv_icmp_lt (tgt := 16) hx hb ndP_checkIndex_6 (by decide) (fun _ => ?_) (fun c_6 => absurd ((nI_ltI (a := k) (b := n) (by omega) (by omega)).mpr (by omega)) c_6)
  refine lv_iload_n hx hb ndP_checkIndex_16 rfl (lv_at hl 0 rfl) ?_
  exact fd_ret_i hx hb hr hlocks hS hP hD rfl (rfl) ndP_checkIndex_17
set_option maxHeartbeats 4000000 in
set_option maxRecDepth 100000 in
theorem kP_checkIndex_r (l : Launch) (D : va_G) (Z : Nat → Nat) (cI cL : ClassId) {k n t : Nat} (hk : k < n) (hn : n < 2 ^ 31) : fd_Mi l D fd_cl (fd_ty cI cL) (fd_EV Z) nyP_checkIndex (.code nyP_checkIndex ncP_checkIndex 3 (some .int) :: fd_TB) nmP_checkIndex [.int (nI k), .int (nI n), .ref t] [] [] (nI k) := by
  refine fd_open_i (cc := ncP_checkIndex) (maxL := 3) (ret := (some .int)) (by decide) rfl (Nat.le_of_ble_eq_true rfl) ?_
  intro p e s m below meth c A ls X hP hD hS hl
  obtain ⟨hx, hb, hr, hml, hown, hts0, hlocks, hK, hEV, hA⟩ := X
  have hts : ∀ w ∈ fd_TB, w.before _ s = true := fun w h => hts0 w (List.mem_cons_of_mem _ h)
  have hE := fd_EV_ok Z
  have hown : s.vm.findClass "jdk/internal/util/Preconditions" = some m.cls := hown
  have hl : lv_has ls 3 [(0, .int (nI k)), (1, .int (nI n)), (2, .ref t)] := hl
  refine lv_iload_n hx hb ndP_checkIndex_0 rfl (lv_at hl 0 rfl) ?_
  refine lv_if_lt (tgt := 9) hx hb ndP_checkIndex_1 (by decide) (fun c_1 => absurd c_1 (fun h9 => absurd ((nI_ltI (a := k) (b := 0) (by omega) (by omega)).mp h9) (by omega))) (fun _ => ?_)
  refine lv_iload_n hx hb ndP_checkIndex_4 rfl (lv_at hl 0 rfl) ?_
  refine lv_iload_n hx hb ndP_checkIndex_5 rfl (lv_at hl 1 rfl) ?_
  refine lv_icmp_lt (tgt := 16) hx hb ndP_checkIndex_6 (by decide) (fun _ => ?_) (fun c_6 => absurd ((nI_ltI (a := k) (b := n) (by omega) (by omega)).mpr (by omega)) c_6)
  refine lv_iload_n hx hb ndP_checkIndex_16 rfl (lv_at hl 0 rfl) ?_
  exact fd_ret_i hx hb hr hlocks hS hP hD rfl (rfl) ndP_checkIndex_17
set_option maxHeartbeats 4000000 in
set_option maxRecDepth 100000 in
theorem kS_checkIndex (l : Launch) (D : va_G) (Z : Nat → Nat) (cI cL : ClassId) {k n : Nat} (hk : k < n) (hn : n < 2 ^ 31) : fd_Mv l D fd_cl (fd_ty cI cL) (fd_EV Z) nyS_checkIndex (.code nyS_checkIndex ncS_checkIndex 2 none :: fd_TB) nmS_checkIndex [.int (nI k), .int (nI n)] [] [] := by
  refine fd_open_v (cc := ncS_checkIndex) (maxL := 2) (ret := none) (by decide) rfl (Nat.le_of_ble_eq_true rfl) ?_
  intro p e s m below meth c A ls X hP hD hS hl
  obtain ⟨hx, hb, hr, hml, hown, hts0, hlocks, hK, hEV, hA⟩ := X
  have hts : ∀ w ∈ fd_TB, w.before _ s = true := fun w h => hts0 w (List.mem_cons_of_mem _ h)
  have hE := fd_EV_ok Z
  have hown : s.vm.findClass "java/lang/String" = some m.cls := hown
  have hl : lv_has ls 2 [(0, .int (nI k)), (1, .int (nI n))] := hl
  refine lv_iload_n hx hb ndS_checkIndex_0 rfl (lv_at hl 0 rfl) ?_
  refine lv_iload_n hx hb ndS_checkIndex_1 rfl (lv_at hl 1 rfl) ?_
  rcases hEV.2.2.2.2.2.2.2.2.2 with hz | ⟨t, hz⟩
  · refine va_gets hx hb hz hS hown (hts _ tb_121) (fun _ h9 => h9) ndS_checkIndex_2 ?_
    refine fd_go_i (wr := []) (w2 := []) (va_runS (As := [.int (nI k), .int (nI n), .null]) (rest := []) ⟨hx, hb, hml, hown, hts⟩ (kP_checkIndex_n l D Z cI cL (k := k) (n := n) hk hn s.heap.size) (va_cwS 3 hts (fd_gS tb_122 tb_123 tb_19 tb_124) rfl rfl rfl nhP_checkIndex.2 ⟨(Nat.le_of_ble_eq_true rfl), (Nat.le_of_ble_eq_true rfl)⟩) (fd_PreS hE hK hEV hA hP hD hS [] rfl (by decide)) rfl rfl hl.1 rfl (lv_room (Nat.le_of_ble_eq_true rfl)) ndS_checkIndex_5 ⟨(Nat.le_of_ble_eq_true rfl), (Nat.le_of_ble_eq_true rfl)⟩) hP hD hS hA [] [] rfl rfl (by decide) (by decide) [] rfl (by decide) (fun H locs hP hD hS => ?_)
    refine lv_pop hx hb ndS_checkIndex_8 rfl ?_
    exact fd_ret_v hx hb hr hlocks hS hP hD ndS_checkIndex_9
  · refine va_gets hx hb hz hS hown (hts _ tb_121) (fun _ h9 => h9) ndS_checkIndex_2 ?_
    refine fd_go_i (wr := []) (w2 := []) (va_runS (As := [.int (nI k), .int (nI n), .ref t]) (rest := []) ⟨hx, hb, hml, hown, hts⟩ (kP_checkIndex_r l D Z cI cL (k := k) (n := n) hk hn s.heap.size) (va_cwS 3 hts (fd_gS tb_122 tb_123 tb_19 tb_124) rfl rfl rfl nhP_checkIndex.2 ⟨(Nat.le_of_ble_eq_true rfl), (Nat.le_of_ble_eq_true rfl)⟩) (fd_PreS hE hK hEV hA hP hD hS [] rfl (by decide)) rfl rfl hl.1 rfl (lv_room (Nat.le_of_ble_eq_true rfl)) ndS_checkIndex_5 ⟨(Nat.le_of_ble_eq_true rfl), (Nat.le_of_ble_eq_true rfl)⟩) hP hD hS hA [] [] rfl rfl (by decide) (by decide) [] rfl (by decide) (fun H locs hP hD hS => ?_)
    refine lv_pop hx hb ndS_checkIndex_8 rfl ?_
    exact fd_ret_v hx hb hr hlocks hS hP hD ndS_checkIndex_9
set_option maxHeartbeats 4000000 in
set_option maxRecDepth 100000 in
theorem kT_charAt (l : Launch) (D : va_G) (Z : Nat → Nat) (cI cL : ClassId) {k : Nat} (hk : k < 45) : fd_Mi l D fd_cl (fd_ty cI cL) (fd_EV Z) nyT_charAt (.code nyT_charAt ncT_charAt 2 (some .char) :: fd_TB) nmT_charAt [.ref (Z 7), .int (nI k)] [] [] (fd_kl.getD k 0) := by
  refine fd_open_i (cc := ncT_charAt) (maxL := 2) (ret := (some .char)) (by decide) rfl (Nat.le_of_ble_eq_true rfl) ?_
  intro p e s m below meth c A ls X hP hD hS hl
  obtain ⟨hx, hb, hr, hml, hown, hts0, hlocks, hK, hEV, hA⟩ := X
  have hts : ∀ w ∈ fd_TB, w.before _ s = true := fun w h => hts0 w (List.mem_cons_of_mem _ h)
  have hE := fd_EV_ok Z
  have hown : s.vm.findClass "java/lang/StringLatin1" = some m.cls := hown
  have hl : lv_has ls 2 [(0, .ref (Z 7)), (1, .int (nI k))] := hl
  refine lv_iload_n hx hb ndT_charAt_0 rfl (lv_at hl 1 rfl) ?_
  refine lv_aload_n hx hb ndT_charAt_1 rfl (lv_at hl 0 rfl) ?_
  refine va_tlen hx hb hEV.2.2.2.2.2.2.2.2.1 hS (v := nI 45) rfl ndT_charAt_2 ?_
  refine fd_go_v (wr := []) (w2 := []) (va_runS (As := [.int (nI k), .int (nI 45)]) (rest := []) ⟨hx, hb, hml, hown, hts⟩ (kS_checkIndex l D Z cI cL (k := k) (n := 45) hk (by omega) s.heap.size) (va_cwS 2 hts (fd_gS tb_118 tb_119 tb_17 tb_120) rfl rfl rfl nhS_checkIndex.2 ⟨(Nat.le_of_ble_eq_true rfl), (Nat.le_of_ble_eq_true rfl)⟩) (fd_PreS hE hK hEV hA hP hD hS [] rfl (by decide)) rfl rfl hl.1 rfl (lv_room (Nat.le_of_ble_eq_true rfl)) ndT_charAt_3 ⟨(Nat.le_of_ble_eq_true rfl), (Nat.le_of_ble_eq_true rfl)⟩) hP hD hS hA [] [] rfl rfl (by decide) (by decide) [] rfl (by decide) (fun H locs hP hD hS => ?_)
  refine lv_aload_n hx hb ndT_charAt_6 rfl (lv_at hl 0 rfl) ?_
  refine lv_iload_n hx hb ndT_charAt_7 rfl (lv_at hl 1 rfl) ?_
  refine va_tb hx hb hEV.2.2.2.2.2.2.2.2.1 hS (vp_in_nI hk (by omega)) (v := .int (fd_kl.getD k 0)) (by show Value.int _ = _; rw [nI_clamp (by omega)]) ndT_charAt_8 ?_
  refine lv_sipush (v := 255) hx hb ndT_charAt_9 (by decide) ?_
  refine lv_iand hx hb ndT_charAt_12 ?_
  refine lv_i2c hx hb ndT_charAt_13 rfl ?_
  refine fd_asi (y := fd_kl.getD k 0) (fd_kl_ok k hk) ?_
  exact fd_ret_i hx hb hr hlocks hS hP hD (fd_kl_nar k hk) (rfl) ndT_charAt_14
set_option maxHeartbeats 4000000 in
set_option maxRecDepth 100000 in
theorem kS_charAt (l : Launch) (D : va_G) (Z : Nat → Nat) (cI cL : ClassId) {k : Nat} (hk : k < 45) : fd_Mi l D fd_cl (fd_ty cI cL) (fd_EV Z) nyS_charAt (.code nyS_charAt ncS_charAt 2 (some .char) :: fd_TB) nmS_charAt [.ref (Z 6), .int (nI k)] [] [] (fd_kl.getD k 0) := by
  refine fd_open_i (cc := ncS_charAt) (maxL := 2) (ret := (some .char)) (by decide) rfl (Nat.le_of_ble_eq_true rfl) ?_
  intro p e s m below meth c A ls X hP hD hS hl
  obtain ⟨hx, hb, hr, hml, hown, hts0, hlocks, hK, hEV, hA⟩ := X
  have hts : ∀ w ∈ fd_TB, w.before _ s = true := fun w h => hts0 w (List.mem_cons_of_mem _ h)
  have hE := fd_EV_ok Z
  have hown : s.vm.findClass "java/lang/String" = some m.cls := hown
  have hl : lv_has ls 2 [(0, .ref (Z 6)), (1, .int (nI k))] := hl
  refine lv_aload_n hx hb ndS_charAt_0 rfl (lv_at hl 0 rfl) ?_
  refine fd_go_i (wr := []) (w2 := []) (va_runV (As := []) (rest := []) ⟨hx, hb, hml, hown, hts⟩ (kS_isLatin1 l D Z cI cL s.heap.size) (cwV 0 hts (fd_gV tb_111 tb_112 tb_113 tb_17 tb_114) rfl rfl rfl nhS_isLatin1 ⟨(Nat.le_of_ble_eq_true rfl), (Nat.le_of_ble_eq_true rfl)⟩) (fd_PreR hE hK hEV hA hP hD hS [] rfl (by decide) (va_Orecv hEV.2.2.2.2.2.1 hS)) rfl rfl hl.1 rfl (lv_room (Nat.le_of_ble_eq_true rfl)) ndS_charAt_1 ⟨(Nat.le_of_ble_eq_true rfl), (Nat.le_of_ble_eq_true rfl)⟩) hP hD hS hA [] [] rfl rfl (by decide) (by decide) [] rfl (by decide) (fun H locs hP hD hS => ?_)
  refine lv_if_eq (tgt := 16) hx hb ndS_charAt_4 (by decide) (fun c_4 => absurd c_4 (by decide)) (fun _ => ?_)
  refine lv_aload_n hx hb ndS_charAt_7 rfl (lv_at hl 0 rfl) ?_
  refine vk_getf hx hb hEV.2.2.2.2.2.2.2.1 hS hown (hts _ tb_358) (fun _ h9 => h9) ndS_charAt_8 ?_
  refine lv_iload_n hx hb ndS_charAt_11 rfl (lv_at hl 1 rfl) ?_
  refine fd_go_i (wr := []) (w2 := []) (va_runS (As := [.ref (Z 7), .int (nI k)]) (rest := []) ⟨hx, hb, hml, hown, hts⟩ (kT_charAt l D Z cI cL (k := k) (by omega) H.size) (va_cwS 2 hts (fd_gS tb_115 tb_116 tb_18 tb_117) rfl rfl rfl nhT_charAt.2 ⟨(Nat.le_of_ble_eq_true rfl), (Nat.le_of_ble_eq_true rfl)⟩) (fd_PreS hE hK hEV hA hP hD hS [] rfl (by decide)) rfl rfl hl.1 rfl (lv_room (Nat.le_of_ble_eq_true rfl)) ndS_charAt_12 ⟨(Nat.le_of_ble_eq_true rfl), (Nat.le_of_ble_eq_true rfl)⟩) hP hD hS hA [] [] rfl rfl (by decide) (by decide) [] rfl (by decide) (fun H locs hP hD hS => ?_)
  exact fd_ret_i hx hb hr hlocks hS hP hD (fd_kl_nar k hk) (rfl) ndS_charAt_15
set_option maxHeartbeats 4000000 in
set_option maxRecDepth 100000 in
theorem kF_letterOf (l : Launch) (D : va_G) (Z : Nat → Nat) (cI cL : ClassId) {kd i : Nat} (h1 : 1 ≤ kd) (h2 : kd ≤ 15) (hi : i < 3) : fd_Mi l D fd_cl (fd_ty cI cL) (fd_EV Z) nyF_letterOf (.code nyF_letterOf ncF_letterOf 3 (some .int) :: fd_TB) nmF_letterOf [.int (nI kd), .int (nI i)] [] [] (fd_let kd i) := by
  refine fd_open_i (cc := ncF_letterOf) (maxL := 3) (ret := (some .int)) (by decide) rfl (Nat.le_of_ble_eq_true rfl) ?_
  intro p e s m below meth c A ls X hP hD hS hl
  obtain ⟨hx, hb, hr, hml, hown, hts0, hlocks, hK, hEV, hA⟩ := X
  have hts : ∀ w ∈ fd_TB, w.before _ s = true := fun w h => hts0 w (List.mem_cons_of_mem _ h)
  have hE := fd_EV_ok Z
  have hown : s.vm.findClass "FieldDesk" = some m.cls := hown
  have hl : lv_has ls 3 [(0, .int (nI kd)), (1, .int (nI i))] := hl
  refine lv_iload_n hx hb ndF_letterOf_0 rfl (lv_at hl 0 rfl) ?_
  refine lv_iconst (v := 1) hx hb ndF_letterOf_1 (by decide) ?_
  refine lv_isub hx hb ndF_letterOf_2 ?_
  refine fd_asi (y := nI (kd - 1)) (pk_sub h1) ?_
  refine lv_iconst (v := 3) hx hb ndF_letterOf_3 (by decide) ?_
  refine lv_imul hx hb ndF_letterOf_4 ?_
  refine fd_asi (y := nI ((kd - 1) * 3)) (pk_mul (kd - 1) 3) ?_
  refine lv_iload_n hx hb ndF_letterOf_5 rfl (lv_at hl 1 rfl) ?_
  refine lv_iadd hx hb ndF_letterOf_6 ?_
  refine fd_asi (y := nI ((kd - 1) * 3 + i)) (nI_add _ _) ?_
  refine lv_istore_n (lv' := [(2, .int (nI ((kd - 1) * 3 + i))), (0, .int (nI kd)), (1, .int (nI i))]) hx hb ndF_letterOf_7 rfl hl (by decide) rfl (fun ls hl => ?_)
  refine lv_iload_n hx hb ndF_letterOf_8 rfl (lv_at hl 0 rfl) ?_
  refine lv_if_lt (tgt := 30) hx hb ndF_letterOf_9 (by decide) (fun c_9 => absurd c_9 (fun h9 => absurd ((nI_ltI (a := ((kd - 1) * 3 + i)) (b := 0) (by omega) (by omega)).mp h9) (by omega))) (fun _ => ?_)
  refine lv_iload_n hx hb ndF_letterOf_12 rfl (lv_at hl 0 rfl) ?_
  refine va_ldcS hx hb hown hEV.2.1 ndF_letterOf_13 ?_
  refine fd_go_i (wr := []) (w2 := []) (va_runV (As := []) (rest := [.int (nI ((kd - 1) * 3 + i))]) ⟨hx, hb, hml, hown, hts⟩ (kS_length l D Z cI cL s.heap.size) (cwV 0 hts (fd_gV tb_98 tb_99 tb_100 tb_17 tb_101) rfl rfl rfl nhS_length ⟨(Nat.le_of_ble_eq_true rfl), (Nat.le_of_ble_eq_true rfl)⟩) (fd_PreR hE hK hEV hA hP hD hS [] rfl (by decide) (va_Orecv hEV.2.2.2.2.2.1 hS)) rfl rfl hl.1 rfl (lv_room (Nat.le_of_ble_eq_true rfl)) ndF_letterOf_15 ⟨(Nat.le_of_ble_eq_true rfl), (Nat.le_of_ble_eq_true rfl)⟩) hP hD hS hA [] [] rfl rfl (by decide) (by decide) [] rfl (by decide) (fun H locs hP hD hS => ?_)
  refine lv_icmp_ge (tgt := 30) hx hb ndF_letterOf_18 (by decide) (fun c_18 => absurd c_18 (fun h9 => absurd ((nI_leI (a := 45) (b := ((kd - 1) * 3 + i)) (by omega) (by omega)).mp h9) (by omega))) (fun _ => ?_)
  refine va_ldcS hx hb hown hEV.2.1 ndF_letterOf_21 ?_
  refine lv_iload_n hx hb ndF_letterOf_23 rfl (lv_at hl 0 rfl) ?_
  refine fd_go_i (wr := []) (w2 := []) (va_runV (As := [.int (nI ((kd - 1) * 3 + i))]) (rest := []) ⟨hx, hb, hml, hown, hts⟩ (kS_charAt l D Z cI cL (k := ((kd - 1) * 3 + i)) (by omega) H.size) (cwV 1 hts (fd_gV tb_107 tb_108 tb_109 tb_17 tb_110) rfl rfl rfl nhS_charAt ⟨(Nat.le_of_ble_eq_true rfl), (Nat.le_of_ble_eq_true rfl)⟩) (fd_PreR hE hK hEV hA hP hD hS [] rfl (by decide) (va_Orecv hEV.2.2.2.2.2.1 hS)) rfl rfl hl.1 rfl (lv_room (Nat.le_of_ble_eq_true rfl)) ndF_letterOf_24 ⟨(Nat.le_of_ble_eq_true rfl), (Nat.le_of_ble_eq_true rfl)⟩) hP hD hS hA [] [] rfl rfl (by decide) (by decide) [] rfl (by decide) (fun H locs hP hD hS => ?_)
  refine lv_goto (tgt := 31) hx hb ndF_letterOf_27 (by decide) ?_
  exact fd_ret_i hx hb hr hlocks hS hP hD rfl (rfl) ndF_letterOf_31
