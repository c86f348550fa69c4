/-! the reference: type, begin, end, copy, the reads -/
def fd_rs (kd k : Nat) (rn : Nat → Int64) (i : Int32) : Int32 := if i < 0 then 0 else if nI k ≤ i then 0 else fd_due kd i.toNatClampNeg rn
theorem fd_tyno {n : Nat} {q : Int32} (hn : n ≤ 400) (hno : q < 1 ∨ 8 < q ∨ nI (400 - n) < q) (h1 : ¬ q < 1) (h2 : ¬ 8 < q) (h3 : nI n + q ≤ 400) : False := by
  have h0 : ¬ q < 0 := fun h => h1 (Int32.lt_trans h (by decide))
  obtain ⟨j, hj, rfl⟩ := nI_of2 (n := 8) (M := 8) (by decide) h0 (Int32.not_lt.mp h2)
  rw [nI_add] at h3
  have a := (nI_leI (a := n + j) (b := 400) (by omega) (by omega)).mp h3
  rcases hno with h | h | h
  · exact h1 h
  · exact h2 h
  · have b := (nI_ltI (a := 400 - n) (b := j) (by omega) (by omega)).mp h
    omega
set_option maxHeartbeats 4000000 in
set_option maxRecDepth 100000 in
theorem kD_fields (l : Launch) (D : va_G) (Z : Nat → Nat) (cI cL : ClassId) {b0 b1 b2 b3 b4 n kd k od wn ok : Nat} {g go : Nat → Int32} {rn gn : Nat → Int64} {cf : Int32} (hn : n ≤ 400) (hkd : kd ≤ 15) (hk : k ≤ 20) (hwn : wn ≤ 123) (hod : od ≤ 15) (hok : ok ≤ 20)  : fd_Mi l D fd_cl (fd_ty cI cL) (fd_EV Z) nyD_fields (.code nyD_fields ncD_fields 1 (some .int) :: fd_TB) nmD_fields [.ref b0] [(b0, .inr (3, [.ref b1, .int (nI n), .int (nI kd), .int (nI k), .ref b2, .int (nI od), .int cf, .int (nI wn), .ref b3, .int (nI ok), .ref b4])), (b1, .inl (cI, 400, .inl g)), (b2, .inl (cL, 24, .inr (.inl rn))), (b3, .inl (cI, 200, .inl go)), (b4, .inl (cL, 24, .inr (.inl gn)))] [(b0, .inr (3, [.ref b1, .int (nI n), .int (nI kd), .int (nI k), .ref b2, .int (nI od), .int cf, .int (nI wn), .ref b3, .int (nI ok), .ref b4])), (b1, .inl (cI, 400, .inl g)), (b2, .inl (cL, 24, .inr (.inl rn))), (b3, .inl (cI, 200, .inl go)), (b4, .inl (cL, 24, .inr (.inl gn)))] (nI k) := by
  refine fd_open_i (cc := ncD_fields) (maxL := 1) (ret := (some .int)) (by decide) rfl (Nat.le_of_ble_eq_true rfl) ?_
  intro p e s m below meth c A ls X hP hD hS hl
  obtain ⟨hx, hb, hr, hml, hown, hts0, hlocks, hK, hEV, hA⟩ := X
  have hts : ∀ w ∈ fd_TB, w.before _ s = true := fun w h => hts0 w (List.mem_cons_of_mem _ h)
  have hE := fd_EV_ok Z
  have hown : s.vm.findClass "FieldDeskModel" = some m.cls := hown
  have hl : lv_has ls 1 [(0, .ref b0)] := hl
  refine lv_aload_n hx hb ndD_fields_0 rfl (lv_at hl 0 rfl) ?_
  refine va_get (D := D) (ci := 3) (v := .int (nI k)) (C := nR_D) (T := nT_D) (N := 11) hx hb hts in_D hown hK hP 0 rfl rfl 3 (by decide) (hts _ tb_251) (fun _ h9 => h9) rfl ndD_fields_1 ?_
  exact fd_ret_i hx hb hr hlocks hS hP hD rfl (rfl) ndD_fields_4
set_option maxHeartbeats 4000000 in
set_option maxRecDepth 100000 in
theorem kD_number (l : Launch) (D : va_G) (Z : Nat → Nat) (cI cL : ClassId) {b0 b1 b2 b3 b4 n kd k od wn ok : Nat} {g go : Nat → Int32} {rn gn : Nat → Int64} {cf : Int32} (hn : n ≤ 400) (hkd : kd ≤ 15) (hk : k ≤ 20) (hwn : wn ≤ 123) (hod : od ≤ 15) (hok : ok ≤ 20) (i : Int32) : fd_Ml l D fd_cl (fd_ty cI cL) (fd_EV Z) nyD_number (.code nyD_number ncD_number 2 (some .long) :: fd_TB) nmD_number [.ref b0, .int i] [(b0, .inr (3, [.ref b1, .int (nI n), .int (nI kd), .int (nI k), .ref b2, .int (nI od), .int cf, .int (nI wn), .ref b3, .int (nI ok), .ref b4])), (b1, .inl (cI, 400, .inl g)), (b2, .inl (cL, 24, .inr (.inl rn))), (b3, .inl (cI, 200, .inl go)), (b4, .inl (cL, 24, .inr (.inl gn)))] [(b0, .inr (3, [.ref b1, .int (nI n), .int (nI kd), .int (nI k), .ref b2, .int (nI od), .int cf, .int (nI wn), .ref b3, .int (nI ok), .ref b4])), (b1, .inl (cI, 400, .inl g)), (b2, .inl (cL, 24, .inr (.inl rn))), (b3, .inl (cI, 200, .inl go)), (b4, .inl (cL, 24, .inr (.inl gn)))] (fd_na k rn i) := by
  refine fd_open_l (cc := ncD_number) (maxL := 2) (ret := (some .long)) (by decide) rfl (Nat.le_of_ble_eq_true rfl) ?_
  intro p e s m below meth c A ls X hP hD hS hl
  obtain ⟨hx, hb, hr, hml, hown, hts0, hlocks, hK, hEV, hA⟩ := X
  have hts : ∀ w ∈ fd_TB, w.before _ s = true := fun w h => hts0 w (List.mem_cons_of_mem _ h)
  have hE := fd_EV_ok Z
  have hown : s.vm.findClass "FieldDeskModel" = some m.cls := hown
  have hl : lv_has ls 2 [(0, .ref b0), (1, .int i)] := hl
  refine lv_iload_n hx hb ndD_number_0 rfl (lv_at hl 1 rfl) ?_
  refine lv_if_lt (tgt := 21) hx hb ndD_number_1 (by decide) (fun c_1 => ?_) (fun c_1 => ?_)
  · refine lv_ldc2 hx hb hown (hts _ tb_319) ndD_number_21 ?_
    exact fd_ret_l hx hb hr hlocks hS hP hD (by rw [fd_na, if_pos c_1]) ndD_number_24
  · refine lv_iload_n hx hb ndD_number_4 rfl (lv_at hl 1 rfl) ?_
    refine lv_aload_n hx hb ndD_number_5 rfl (lv_at hl 0 rfl) ?_
    refine va_get (D := D) (ci := 3) (v := .int (nI k)) (C := nR_D) (T := nT_D) (N := 11) hx hb hts in_D hown hK hP 0 rfl rfl 3 (by decide) (hts _ tb_251) (fun _ h9 => h9) rfl ndD_number_6 ?_
    refine lv_icmp_ge (tgt := 21) hx hb ndD_number_9 (by decide) (fun c_9 => ?_) (fun c_9 => ?_)
    · refine lv_ldc2 hx hb hown (hts _ tb_319) ndD_number_21 ?_
      exact fd_ret_l hx hb hr hlocks hS hP hD (by rw [fd_na, if_neg c_1, if_pos c_9]) ndD_number_24
    · obtain ⟨j9, hj9, rfl⟩ := fd_ix c_1 c_9 (by omega)
      refine lv_aload_n hx hb ndD_number_12 rfl (lv_at hl 0 rfl) ?_
      refine va_get (D := D) (ci := 3) (v := .ref b2) (C := nR_D) (T := nT_D) (N := 11) hx hb hts in_D hown hK hP 0 rfl rfl 4 (by decide) (hts _ tb_252) (fun _ h9 => h9) rfl ndD_number_13 ?_
      refine lv_iload_n hx hb ndD_number_16 rfl (lv_at hl 1 rfl) ?_
      refine fd_lald hx hb hK hP 2 1 (k := j9) rfl rfl (by omega) (by omega) ndD_number_17 ?_
      refine lv_goto (tgt := 24) hx hb ndD_number_18 (by decide) ?_
      exact fd_ret_l hx hb hr hlocks hS hP hD (by rw [fd_na, if_neg c_1, if_neg c_9, nI_clamp (by omega)]) ndD_number_24
set_option maxHeartbeats 4000000 in
set_option maxRecDepth 100000 in
theorem kD_byteOf (l : Launch) (D : va_G) (Z : Nat → Nat) (cI cL : ClassId) {b0 b1 b2 b3 b4 n kd k od wn ok : Nat} {g go : Nat → Int32} {rn gn : Nat → Int64} {cf : Int32} (hn : n ≤ 400) (hkd : kd ≤ 15) (hk : k ≤ 20) (hwn : wn ≤ 123) (hod : od ≤ 15) (hok : ok ≤ 20) (i : Int32) : fd_Mi l D fd_cl (fd_ty cI cL) (fd_EV Z) nyD_byteOf (.code nyD_byteOf ncD_byteOf 2 (some .int) :: fd_TB) nmD_byteOf [.ref b0, .int i] [(b0, .inr (3, [.ref b1, .int (nI n), .int (nI kd), .int (nI k), .ref b2, .int (nI od), .int cf, .int (nI wn), .ref b3, .int (nI ok), .ref b4])), (b1, .inl (cI, 400, .inl g)), (b2, .inl (cL, 24, .inr (.inl rn))), (b3, .inl (cI, 200, .inl go)), (b4, .inl (cL, 24, .inr (.inl gn)))] [(b0, .inr (3, [.ref b1, .int (nI n), .int (nI kd), .int (nI k), .ref b2, .int (nI od), .int cf, .int (nI wn), .ref b3, .int (nI ok), .ref b4])), (b1, .inl (cI, 400, .inl g)), (b2, .inl (cL, 24, .inr (.inl rn))), (b3, .inl (cI, 200, .inl go)), (b4, .inl (cL, 24, .inr (.inl gn)))] (fd_at wn go i) := by
  refine fd_open_i (cc := ncD_byteOf) (maxL := 2) (ret := (some .int)) (by decide) rfl (Nat.le_of_ble_eq_true rfl) ?_
  intro p e s m below meth c A ls X hP hD hS hl
  obtain ⟨hx, hb, hr, hml, hown, hts0, hlocks, hK, hEV, hA⟩ := X
  have hts : ∀ w ∈ fd_TB, w.before _ s = true := fun w h => hts0 w (List.mem_cons_of_mem _ h)
  have hE := fd_EV_ok Z
  have hown : s.vm.findClass "FieldDeskModel" = some m.cls := hown
  have hl : lv_has ls 2 [(0, .ref b0), (1, .int i)] := hl
  refine lv_iload_n hx hb ndD_byteOf_0 rfl (lv_at hl 1 rfl) ?_
  refine lv_if_lt (tgt := 21) hx hb ndD_byteOf_1 (by decide) (fun c_1 => ?_) (fun c_1 => ?_)
  · refine lv_iconst (v := (-1)) hx hb ndD_byteOf_21 (by decide) ?_
    exact fd_ret_i hx hb hr hlocks hS hP hD rfl (by rw [fd_at, if_pos c_1]) ndD_byteOf_22
  · refine lv_iload_n hx hb ndD_byteOf_4 rfl (lv_at hl 1 rfl) ?_
    refine lv_aload_n hx hb ndD_byteOf_5 rfl (lv_at hl 0 rfl) ?_
    refine va_get (D := D) (ci := 3) (v := .int (nI wn)) (C := nR_D) (T := nT_D) (N := 11) hx hb hts in_D hown hK hP 0 rfl rfl 7 (by decide) (hts _ tb_255) (fun _ h9 => h9) rfl ndD_byteOf_6 ?_
    refine lv_icmp_ge (tgt := 21) hx hb ndD_byteOf_9 (by decide) (fun c_9 => ?_) (fun c_9 => ?_)
    · refine lv_iconst (v := (-1)) hx hb ndD_byteOf_21 (by decide) ?_
      exact fd_ret_i hx hb hr hlocks hS hP hD rfl (by rw [fd_at, if_neg c_1, if_pos c_9]) ndD_byteOf_22
    · obtain ⟨j9, hj9, rfl⟩ := fd_ix c_1 c_9 (by omega)
      refine lv_aload_n hx hb ndD_byteOf_12 rfl (lv_at hl 0 rfl) ?_
      refine va_get (D := D) (ci := 3) (v := .ref b3) (C := nR_D) (T := nT_D) (N := 11) hx hb hts in_D hown hK hP 0 rfl rfl 8 (by decide) (hts _ tb_256) (fun _ h9 => h9) rfl ndD_byteOf_13 ?_
      refine lv_iload_n hx hb ndD_byteOf_16 rfl (lv_at hl 1 rfl) ?_
      refine fd_iald hx hb hK hP 3 0 (k := j9) rfl rfl (by omega) (by omega) ndD_byteOf_17 ?_
      refine lv_goto (tgt := 22) hx hb ndD_byteOf_18 (by decide) ?_
      exact fd_ret_i hx hb hr hlocks hS hP hD rfl (by rw [fd_at, if_neg c_1, if_neg c_9, nI_clamp (by omega)]) ndD_byteOf_22
set_option maxHeartbeats 4000000 in
set_option maxRecDepth 100000 in
theorem kD_sort (l : Launch) (D : va_G) (Z : Nat → Nat) (cI cL : ClassId) {b0 b1 b2 b3 b4 n kd k od wn ok : Nat} {g go : Nat → Int32} {rn gn : Nat → Int64} {cf : Int32} (hn : n ≤ 400) (hkd : kd ≤ 15) (hk : k ≤ 20) (hwn : wn ≤ 123) (hod : od ≤ 15) (hok : ok ≤ 20) (hkk : 1 ≤ kd ∨ k = 0) (i : Int32) : fd_Mi l D fd_cl (fd_ty cI cL) (fd_EV Z) nyD_sort (.code nyD_sort ncD_sort 2 (some .int) :: fd_TB) nmD_sort [.ref b0, .int i] [(b0, .inr (3, [.ref b1, .int (nI n), .int (nI kd), .int (nI k), .ref b2, .int (nI od), .int cf, .int (nI wn), .ref b3, .int (nI ok), .ref b4])), (b1, .inl (cI, 400, .inl g)), (b2, .inl (cL, 24, .inr (.inl rn))), (b3, .inl (cI, 200, .inl go)), (b4, .inl (cL, 24, .inr (.inl gn)))] [(b0, .inr (3, [.ref b1, .int (nI n), .int (nI kd), .int (nI k), .ref b2, .int (nI od), .int cf, .int (nI wn), .ref b3, .int (nI ok), .ref b4])), (b1, .inl (cI, 400, .inl g)), (b2, .inl (cL, 24, .inr (.inl rn))), (b3, .inl (cI, 200, .inl go)), (b4, .inl (cL, 24, .inr (.inl gn)))] (fd_rs kd k rn i) := by
  refine fd_open_i (cc := ncD_sort) (maxL := 2) (ret := (some .int)) (by decide) rfl (Nat.le_of_ble_eq_true rfl) ?_
  intro p e s m below meth c A ls X hP hD hS hl
  obtain ⟨hx, hb, hr, hml, hown, hts0, hlocks, hK, hEV, hA⟩ := X
  have hts : ∀ w ∈ fd_TB, w.before _ s = true := fun w h => hts0 w (List.mem_cons_of_mem _ h)
  have hE := fd_EV_ok Z
  have hown : s.vm.findClass "FieldDeskModel" = some m.cls := hown
  have hl : lv_has ls 2 [(0, .ref b0), (1, .int i)] := hl
  refine lv_iload_n hx hb ndD_sort_0 rfl (lv_at hl 1 rfl) ?_
  refine lv_if_lt (tgt := 29) hx hb ndD_sort_1 (by decide) (fun c_1 => ?_) (fun c_1 => ?_)
  · refine lv_iconst (v := 0) hx hb ndD_sort_29 (by decide) ?_
    exact fd_ret_i hx hb hr hlocks hS hP hD rfl (by rw [fd_rs, if_pos c_1]) ndD_sort_30
  · refine lv_iload_n hx hb ndD_sort_4 rfl (lv_at hl 1 rfl) ?_
    refine lv_aload_n hx hb ndD_sort_5 rfl (lv_at hl 0 rfl) ?_
    refine va_get (D := D) (ci := 3) (v := .int (nI k)) (C := nR_D) (T := nT_D) (N := 11) hx hb hts in_D hown hK hP 0 rfl rfl 3 (by decide) (hts _ tb_251) (fun _ h9 => h9) rfl ndD_sort_6 ?_
    refine lv_icmp_ge (tgt := 29) hx hb ndD_sort_9 (by decide) (fun c_9 => ?_) (fun c_9 => ?_)
    · refine lv_iconst (v := 0) hx hb ndD_sort_29 (by decide) ?_
      exact fd_ret_i hx hb hr hlocks hS hP hD rfl (by rw [fd_rs, if_neg c_1, if_pos c_9]) ndD_sort_30
    · obtain ⟨j9, hj9, rfl⟩ := fd_ix c_1 c_9 (by omega)
      refine lv_aload_n hx hb ndD_sort_12 rfl (lv_at hl 0 rfl) ?_
      refine va_get (D := D) (ci := 3) (v := .int (nI kd)) (C := nR_D) (T := nT_D) (N := 11) hx hb hts in_D hown hK hP 0 rfl rfl 2 (by decide) (hts _ tb_250) (fun _ h9 => h9) rfl ndD_sort_13 ?_
      refine lv_iload_n hx hb ndD_sort_16 rfl (lv_at hl 1 rfl) ?_
      refine lv_aload_n hx hb ndD_sort_17 rfl (lv_at hl 0 rfl) ?_
      refine va_get (D := D) (ci := 3) (v := .ref b2) (C := nR_D) (T := nT_D) (N := 11) hx hb hts in_D hown hK hP 0 rfl rfl 4 (by decide) (hts _ tb_252) (fun _ h9 => h9) rfl ndD_sort_18 ?_
      refine lv_iconst (v := 3) hx hb ndD_sort_21 (by decide) ?_
      refine fd_asi (y := nI 3) rfl ?_
      refine fd_lald hx hb hK hP 2 1 (k := 3) rfl rfl (by omega) (by omega) ndD_sort_22 ?_
      refine fd_go_i (wr := [(b0, .inr (3, [.ref b1, .int (nI n), .int (nI kd), .int (nI k), .ref b2, .int (nI od), .int cf, .int (nI wn), .ref b3, .int (nI ok), .ref b4])), (b1, .inl (cI, 400, .inl g)), (b2, .inl (cL, 24, .inr (.inl rn))), (b3, .inl (cI, 200, .inl go)), (b4, .inl (cL, 24, .inr (.inl gn)))]) (w2 := [(b0, .inr (3, [.ref b1, .int (nI n), .int (nI kd), .int (nI k), .ref b2, .int (nI od), .int cf, .int (nI wn), .ref b3, .int (nI ok), .ref b4])), (b1, .inl (cI, 400, .inl g)), (b2, .inl (cL, 24, .inr (.inl rn))), (b3, .inl (cI, 200, .inl go)), (b4, .inl (cL, 24, .inr (.inl gn)))]) (va_runS (As := [.int (nI kd), .int (nI j9), .long (rn 3)]) (rest := []) ⟨hx, hb, hml, hown, hts⟩ (kD_sortOf l D Z cI cL (kd := kd) (j := j9) (by omega) (by omega) (by omega) (rn 3) s.heap.size) (va_cwS 3 hts (fd_gS tb_303 tb_304 tb_16 tb_305) rfl rfl rfl nhD_sortOf.2 ⟨(Nat.le_of_ble_eq_true rfl), (Nat.le_of_ble_eq_true rfl)⟩) (fd_PreS hE hK hEV hA hP hD hS [] rfl (by decide)) rfl rfl hl.1 rfl (lv_room (Nat.le_of_ble_eq_true rfl)) ndD_sort_23 ⟨(Nat.le_of_ble_eq_true rfl), (Nat.le_of_ble_eq_true rfl)⟩) hP hD hS hA [] [0, 1, 2, 3, 4] rfl rfl (by decide) (by decide) [0, 1, 2, 3, 4] rfl (by decide) (fun H locs hP hD hS => ?_)
      refine fd_asi (y := fd_due kd j9 rn) rfl ?_
      refine lv_goto (tgt := 30) hx hb ndD_sort_26 (by decide) ?_
      exact fd_ret_i hx hb hr hlocks hS hP hD rfl (by rw [fd_rs, if_neg c_1, if_neg c_9, nI_clamp (by omega)]) ndD_sort_30
set_option maxHeartbeats 4000000 in
set_option maxRecDepth 100000 in
theorem kD_type_no (l : Launch) (D : va_G) (Z : Nat → Nat) (cI cL : ClassId) {b0 b1 b2 b3 b4 n kd k od wn ok : Nat} {g go : Nat → Int32} {rn gn : Nat → Int64} {cf : Int32} (hn : n ≤ 400) (hkd : kd ≤ 15) (hk : k ≤ 20) (hwn : wn ≤ 123) (hod : od ≤ 15) (hok : ok ≤ 20) (v : Int64) (q : Int32) (hno : q < 1 ∨ 8 < q ∨ nI (400 - n) < q) : fd_Mi l D fd_cl (fd_ty cI cL) (fd_EV Z) nyD_type (.code nyD_type ncD_type 5 (some .boolean) :: fd_TB) nmD_type [.ref b0, .long v, .int q] [(b0, .inr (3, [.ref b1, .int (nI n), .int (nI kd), .int (nI k), .ref b2, .int (nI od), .int cf, .int (nI wn), .ref b3, .int (nI ok), .ref b4])), (b1, .inl (cI, 400, .inl g)), (b2, .inl (cL, 24, .inr (.inl rn))), (b3, .inl (cI, 200, .inl go)), (b4, .inl (cL, 24, .inr (.inl gn)))] [(b0, .inr (3, [.ref b1, .int (nI n), .int (nI kd), .int (nI k), .ref b2, .int (nI od), .int cf, .int (nI wn), .ref b3, .int (nI ok), .ref b4])), (b1, .inl (cI, 400, .inl g)), (b2, .inl (cL, 24, .inr (.inl rn))), (b3, .inl (cI, 200, .inl go)), (b4, .inl (cL, 24, .inr (.inl gn)))] 0 := by
  refine fd_open_i (cc := ncD_type) (maxL := 5) (ret := (some .boolean)) (by decide) rfl (Nat.le_of_ble_eq_true rfl) ?_
  intro p e s m below meth c A ls X hP hD hS hl
  obtain ⟨hx, hb, hr, hml, hown, hts0, hlocks, hK, hEV, hA⟩ := X
  have hts : ∀ w ∈ fd_TB, w.before _ s = true := fun w h => hts0 w (List.mem_cons_of_mem _ h)
  have hE := fd_EV_ok Z
  have hown : s.vm.findClass "FieldDeskModel" = some m.cls := hown
  have hl : lv_has ls 5 [(0, .ref b0), (1, .long v), (3, .int q)] := hl
  refine lv_iload_n hx hb ndD_type_0 rfl (lv_at hl 2 rfl) ?_
  refine lv_iconst (v := 1) hx hb ndD_type_1 (by decide) ?_
  refine lv_icmp_lt (tgt := 23) hx hb ndD_type_2 (by decide) (fun c_2 => ?_) (fun c_2 => ?_)
  · refine lv_iconst (v := 0) hx hb ndD_type_23 (by decide) ?_
    exact fd_ret_i hx hb hr hlocks hS hP hD rfl (rfl) ndD_type_24
  · refine lv_iload_n hx hb ndD_type_5 rfl (lv_at hl 2 rfl) ?_
    refine lv_bipush (v := 8) hx hb ndD_type_6 (by decide) ?_
    refine lv_icmp_gt (tgt := 23) hx hb ndD_type_8 (by decide) (fun c_8 => ?_) (fun c_8 => ?_)
    · refine lv_iconst (v := 0) hx hb ndD_type_23 (by decide) ?_
      exact fd_ret_i hx hb hr hlocks hS hP hD rfl (rfl) ndD_type_24
    · refine lv_aload_n hx hb ndD_type_11 rfl (lv_at hl 0 rfl) ?_
      refine va_get (D := D) (ci := 3) (v := .int (nI n)) (C := nR_D) (T := nT_D) (N := 11) hx hb hts in_D hown hK hP 0 rfl rfl 1 (by decide) (hts _ tb_249) (fun _ h9 => h9) rfl ndD_type_12 ?_
      refine lv_iload_n hx hb ndD_type_15 rfl (lv_at hl 2 rfl) ?_
      refine lv_iadd hx hb ndD_type_16 ?_
      refine lv_sipush (v := 400) hx hb ndD_type_17 (by decide) ?_
      refine lv_icmp_le (tgt := 25) hx hb ndD_type_20 (by decide) (fun c_20 => absurd c_20 (fun h9 => fd_tyno hn hno c_2 c_8 h9)) (fun _ => ?_)
      refine lv_iconst (v := 0) hx hb ndD_type_23 (by decide) ?_
      exact fd_ret_i hx hb hr hlocks hS hP hD rfl (rfl) ndD_type_24
set_option maxHeartbeats 4000000 in
set_option maxRecDepth 100000 in
theorem kD_type_yes (l : Launch) (D : va_G) (Z : Nat → Nat) (cI cL : ClassId) {b0 b1 b2 b3 b4 n kd k od wn ok : Nat} {g go : Nat → Int32} {rn gn : Nat → Int64} {cf : Int32} (hn : n ≤ 400) (hkd : kd ≤ 15) (hk : k ≤ 20) (hwn : wn ≤ 123) (hod : od ≤ 15) (hok : ok ≤ 20) (v : Int64) {j : Nat} (h1 : 1 ≤ j) (h8 : j ≤ 8) (hj : n + j ≤ 400) : fd_Mi l D fd_cl (fd_ty cI cL) (fd_EV Z) nyD_type (.code nyD_type ncD_type 5 (some .boolean) :: fd_TB) nmD_type [.ref b0, .long v, .int (nI j)] [(b0, .inr (3, [.ref b1, .int (nI n), .int (nI kd), .int (nI k), .ref b2, .int (nI od), .int cf, .int (nI wn), .ref b3, .int (nI ok), .ref b4])), (b1, .inl (cI, 400, .inl g)), (b2, .inl (cL, 24, .inr (.inl rn))), (b3, .inl (cI, 200, .inl go)), (b4, .inl (cL, 24, .inr (.inl gn)))] [(b0, .inr (3, [.ref b1, .int (nI (n + j)), .int (nI kd), .int (nI k), .ref b2, .int (nI od), .int cf, .int (nI wn), .ref b3, .int (nI ok), .ref b4])), (b1, .inl (cI, 400, .inl (fd_tyf v j g n))), (b2, .inl (cL, 24, .inr (.inl rn))), (b3, .inl (cI, 200, .inl go)), (b4, .inl (cL, 24, .inr (.inl gn)))] 1 := by
  refine fd_open_i (cc := ncD_type) (maxL := 5) (ret := (some .boolean)) (by decide) rfl (Nat.le_of_ble_eq_true rfl) ?_
  intro p e s m below meth c A ls X hP hD hS hl
  obtain ⟨hx, hb, hr, hml, hown, hts0, hlocks, hK, hEV, hA⟩ := X
  have hts : ∀ w ∈ fd_TB, w.before _ s = true := fun w h => hts0 w (List.mem_cons_of_mem _ h)
  have hE := fd_EV_ok Z
  have hown : s.vm.findClass "FieldDeskModel" = some m.cls := hown
  have hl : lv_has ls 5 [(0, .ref b0), (1, .long v), (3, .int (nI j))] := hl
  refine lv_iload_n hx hb ndD_type_0 rfl (lv_at hl 2 rfl) ?_
  refine lv_iconst (v := 1) hx hb ndD_type_1 (by decide) ?_
  refine lv_icmp_lt (tgt := 23) hx hb ndD_type_2 (by decide) (fun c_2 => absurd c_2 (fun h9 => absurd ((nI_ltI (a := j) (b := 1) (by omega) (by omega)).mp h9) (by omega))) (fun _ => ?_)
  refine lv_iload_n hx hb ndD_type_5 rfl (lv_at hl 2 rfl) ?_
  refine lv_bipush (v := 8) hx hb ndD_type_6 (by decide) ?_
  refine lv_icmp_gt (tgt := 23) hx hb ndD_type_8 (by decide) (fun c_8 => absurd c_8 (fun h9 => absurd ((nI_ltI (a := 8) (b := j) (by omega) (by omega)).mp h9) (by omega))) (fun _ => ?_)
  refine lv_aload_n hx hb ndD_type_11 rfl (lv_at hl 0 rfl) ?_
  refine va_get (D := D) (ci := 3) (v := .int (nI n)) (C := nR_D) (T := nT_D) (N := 11) hx hb hts in_D hown hK hP 0 rfl rfl 1 (by decide) (hts _ tb_249) (fun _ h9 => h9) rfl ndD_type_12 ?_
  refine lv_iload_n hx hb ndD_type_15 rfl (lv_at hl 2 rfl) ?_
  refine lv_iadd hx hb ndD_type_16 ?_
  refine fd_asi (y := nI (n + j)) (nI_add _ _) ?_
  refine lv_sipush (v := 400) hx hb ndD_type_17 (by decide) ?_
  refine lv_icmp_le (tgt := 25) hx hb ndD_type_20 (by decide) (fun _ => ?_) (fun c_20 => absurd ((nI_leI (a := (n + j)) (b := 400) (by omega) (by omega)).mpr (by omega)) c_20)
  refine lv_iload_n hx hb ndD_type_25 rfl (lv_at hl 2 rfl) ?_
  refine lv_iconst (v := 1) hx hb ndD_type_26 (by decide) ?_
  refine lv_isub hx hb ndD_type_27 ?_
  refine lv_istore (lv' := [(4, .int ((nI j) - 1)), (0, .ref b0), (1, .long v), (3, .int (nI j))]) hx hb ndD_type_28 hl (by decide) rfl (fun ls hl => ?_)
  have loop : ∀ (z : Nat) (n1 : Nat) (f1 : Nat → Int32) (hm : n1 + z = n + j) (hz : z ≤ j) (hf : fd_tyf v z f1 n1 = fd_tyf v j g n) (H : Heap) (locs : List Loc) (ls : Array Slot), va_P D fd_cl [(b0, .inr (3, [.ref b1, .int (nI n1), .int (nI kd), .int (nI k), .ref b2, .int (nI od), .int cf, .int (nI wn), .ref b3, .int (nI ok), .ref b4])), (b1, .inl (cI, 400, .inl f1)), (b2, .inl (cL, 24, .inr (.inl rn))), (b3, .inl (cI, 200, .inl go)), (b4, .inl (cL, 24, .inr (.inl gn)))] H → va_D A [(b0, .inr (3, [.ref b1, .int (nI n1), .int (nI kd), .int (nI k), .ref b2, .int (nI od), .int cf, .int (nI wn), .ref b3, .int (nI ok), .ref b4])), (b1, .inl (cI, 400, .inl f1)), (b2, .inl (cL, 24, .inr (.inl rn))), (b3, .inl (cI, 200, .inl go)), (b4, .inl (cL, 24, .inr (.inl gn)))] → va_S A s.heap H locs → lv_has ls 5 [(0, .ref b0), (1, .long v), (4, .int (nI z - 1))] → W p l e nmD_type s m ([.ref b0, .long v, .int (nI j)].toArray) below meth c H locs 0 0 (MQ below (va_Qi (fun r' (_ : Unit) => r' = 1) (fd_B D fd_cl A [(b0, .inr (3, [.ref b1, .int (nI (n + j)), .int (nI kd), .int (nI k), .ref b2, .int (nI od), .int cf, .int (nI wn), .ref b3, .int (nI ok), .ref b4])), (b1, .inl (cI, 400, .inl (fd_tyf v j g n))), (b2, .inl (cL, 24, .inr (.inl rn))), (b3, .inl (cI, 200, .inl go)), (b4, .inl (cL, 24, .inr (.inl gn)))]) A) [.ref b0, .long v, .int (nI j)].toArray s 0 0 A) (F0 m 30 ls []) := by
    intro z
    induction z with
    | zero =>
      intro n1 f1 hm hz hf H locs ls hP hD hS hl
      obtain rfl : n1 = n + j := by omega
      obtain rfl : f1 = fd_tyf v j g n := hf
      refine lv_iload hx hb ndD_type_30 (lv_at hl 2 rfl) ?_
      refine lv_if_lt (tgt := 72) hx hb ndD_type_32 (by decide) (fun _ => ?_) (fun c_32 => absurd (by decide) c_32)
      refine lv_iconst (v := 1) hx hb ndD_type_72 (by decide) ?_
      exact fd_ret_i hx hb hr hlocks hS hP hD rfl (rfl) ndD_type_73
    | succ z ih =>
      intro n1 f1 hm hz hf H locs ls hP hD hS hl
      rw [nI_pred] at hl
      refine lv_iload hx hb ndD_type_30 (lv_at hl 2 rfl) ?_
      refine lv_if_lt (tgt := 72) hx hb ndD_type_32 (by decide) (fun c_32 => absurd c_32 (fun h9 => absurd ((nI_ltI (a := z) (b := 0) (by omega) (by omega)).mp h9) (by omega))) (fun _ => ?_)
      refine lv_aload_n hx hb ndD_type_35 rfl (lv_at hl 0 rfl) ?_
      refine va_get (D := D) (ci := 3) (v := .ref b1) (C := nR_D) (T := nT_D) (N := 11) hx hb hts in_D hown hK hP 0 rfl rfl 0 (by decide) (hts _ tb_248) (fun _ h9 => h9) rfl ndD_type_36 ?_
      refine lv_aload_n hx hb ndD_type_39 rfl (lv_at hl 0 rfl) ?_
      refine va_get (D := D) (ci := 3) (v := .int (nI n1)) (C := nR_D) (T := nT_D) (N := 11) hx hb hts in_D hown hK hP 0 rfl rfl 1 (by decide) (hts _ tb_249) (fun _ h9 => h9) rfl ndD_type_40 ?_
      refine lv_lload_n hx hb ndD_type_43 rfl (lv_at hl 1 rfl) ?_
      refine lv_bipush (v := 8) hx hb ndD_type_44 (by decide) ?_
      refine lv_iload hx hb ndD_type_46 (lv_at hl 2 rfl) ?_
      refine lv_imul hx hb ndD_type_48 ?_
      refine lv_lshr hx hb ndD_type_49 rfl ?_
      refine lv_ldc2 hx hb hown (hts _ tb_274) ndD_type_50 ?_
      refine lv_land hx hb ndD_type_53 ?_
      refine lv_l2i hx hb ndD_type_54 rfl ?_
      refine fd_asi (y := fd_byte v z) (fd_byte_eq v (by omega)) ?_
      refine fd_iast hx hb hK hP hD hS 1 0 (k := n1) rfl rfl (by omega) (by omega) ndD_type_55 (fun H locs hP hD hS => ?_)
      have hP : va_P D fd_cl [(b0, .inr (3, [.ref b1, .int (nI n1), .int (nI kd), .int (nI k), .ref b2, .int (nI od), .int cf, .int (nI wn), .ref b3, .int (nI ok), .ref b4])), (b1, .inl (cI, 400, .inl (upd f1 n1 (fd_byte v z)))), (b2, .inl (cL, 24, .inr (.inl rn))), (b3, .inl (cI, 200, .inl go)), (b4, .inl (cL, 24, .inr (.inl gn)))] H := hP
      have hD : va_D A [(b0, .inr (3, [.ref b1, .int (nI n1), .int (nI kd), .int (nI k), .ref b2, .int (nI od), .int cf, .int (nI wn), .ref b3, .int (nI ok), .ref b4])), (b1, .inl (cI, 400, .inl (upd f1 n1 (fd_byte v z)))), (b2, .inl (cL, 24, .inr (.inl rn))), (b3, .inl (cI, 200, .inl go)), (b4, .inl (cL, 24, .inr (.inl gn)))] := hD
      refine lv_aload_n hx hb ndD_type_56 rfl (lv_at hl 0 rfl) ?_
      refine lv_aload_n hx hb ndD_type_57 rfl (lv_at hl 0 rfl) ?_
      refine va_get (D := D) (ci := 3) (v := .int (nI n1)) (C := nR_D) (T := nT_D) (N := 11) hx hb hts in_D hown hK hP 0 rfl rfl 1 (by decide) (hts _ tb_249) (fun _ h9 => h9) rfl ndD_type_58 ?_
      refine lv_iconst (v := 1) hx hb ndD_type_61 (by decide) ?_
      refine lv_iadd hx hb ndD_type_62 ?_
      refine fd_asi (y := nI (n1 + 1)) (nI_1 n1) ?_
      refine va_put (D := D) (ci := 3) (v := .int (nI (n1 + 1))) (ty := (.int)) (C := nR_D) (T := nT_D) (N := 11) hx hb hts in_D nt_D nt_D_ok nn_D hown hK hP hD hS 0 rfl rfl 1 (by decide) (hts _ tb_249) (fun _ h9 => h9) rfl (by decide +kernel) rfl rfl (Nat.le_of_ble_eq_true rfl) ndD_type_63 (fun H locs hP hD hS => ?_)
      have hP : va_P D fd_cl [(b0, .inr (3, [.ref b1, .int (nI (n1 + 1)), .int (nI kd), .int (nI k), .ref b2, .int (nI od), .int cf, .int (nI wn), .ref b3, .int (nI ok), .ref b4])), (b1, .inl (cI, 400, .inl (upd f1 n1 (fd_byte v z)))), (b2, .inl (cL, 24, .inr (.inl rn))), (b3, .inl (cI, 200, .inl go)), (b4, .inl (cL, 24, .inr (.inl gn)))] H := hP
      have hD : va_D A [(b0, .inr (3, [.ref b1, .int (nI (n1 + 1)), .int (nI kd), .int (nI k), .ref b2, .int (nI od), .int cf, .int (nI wn), .ref b3, .int (nI ok), .ref b4])), (b1, .inl (cI, 400, .inl (upd f1 n1 (fd_byte v z)))), (b2, .inl (cL, 24, .inr (.inl rn))), (b3, .inl (cI, 200, .inl go)), (b4, .inl (cL, 24, .inr (.inl gn)))] := hD
      refine lv_iinc (v := nI z - 1) (lv' := [(4, .int (nI z - 1)), (0, .ref b0), (1, .long v)]) hx hb ndD_type_66 hl (k := 2) rfl (fd_dec _) (by decide) rfl (fun ls hl => ?_)
      refine lv_goto (tgt := 30) hx hb ndD_type_69 (by decide) ?_
      exact ih _ _ (by omega) (by omega) hf _ _ _ hP hD hS (lv_sub hl [1, 2, 0] rfl)
  exact loop j n g rfl (Nat.le_refl j) rfl _ _ _ hP hD hS (lv_sub hl [1, 2, 0] rfl)
set_option maxHeartbeats 4000000 in
set_option maxRecDepth 100000 in
theorem kD_lay (l : Launch) (D : va_G) (Z : Nat → Nat) (cI cL : ClassId) {b0 b1 b2 b3 b4 n kd k od wn ok : Nat} {g go : Nat → Int32} {rn gn : Nat → Int64} {cf : Int32} (hn : n ≤ 400) (hkd : kd ≤ 15) (hk : k ≤ 20) (hwn : wn ≤ 123) (hod : od ≤ 15) (hok : ok ≤ 20) (x : Int32) : fd_Mv l D fd_cl (fd_ty cI cL) (fd_EV Z) nyD_lay (.code nyD_lay ncD_lay 2 none :: fd_TB) nmD_lay [.ref b0, .int x] [(b0, .inr (3, [.ref b1, .int (nI n), .int (nI kd), .int (nI k), .ref b2, .int (nI od), .int cf, .int (nI wn), .ref b3, .int (nI ok), .ref b4])), (b1, .inl (cI, 400, .inl g)), (b2, .inl (cL, 24, .inr (.inl rn))), (b3, .inl (cI, 200, .inl go)), (b4, .inl (cL, 24, .inr (.inl gn)))] [(b0, .inr (3, [.ref b1, .int (nI n), .int (nI kd), .int (nI k), .ref b2, .int (nI od), .int cf, .int (nI (wn + 1)), .ref b3, .int (nI ok), .ref b4])), (b1, .inl (cI, 400, .inl g)), (b2, .inl (cL, 24, .inr (.inl rn))), (b3, .inl (cI, 200, .inl (upd go wn x))), (b4, .inl (cL, 24, .inr (.inl gn)))] := by
  refine fd_open_v (cc := ncD_lay) (maxL := 2) (ret := none) (by decide) rfl (Nat.le_of_ble_eq_true rfl) ?_
  intro p e s m below meth c A ls X hP hD hS hl
  obtain ⟨hx, hb, hr, hml, hown, hts0, hlocks, hK, hEV, hA⟩ := X
  have hts : ∀ w ∈ fd_TB, w.before _ s = true := fun w h => hts0 w (List.mem_cons_of_mem _ h)
  have hE := fd_EV_ok Z
  have hown : s.vm.findClass "FieldDeskModel" = some m.cls := hown
  have hl : lv_has ls 2 [(0, .ref b0), (1, .int x)] := hl
  refine lv_aload_n hx hb ndD_lay_0 rfl (lv_at hl 0 rfl) ?_
  refine va_get (D := D) (ci := 3) (v := .ref b3) (C := nR_D) (T := nT_D) (N := 11) hx hb hts in_D hown hK hP 0 rfl rfl 8 (by decide) (hts _ tb_256) (fun _ h9 => h9) rfl ndD_lay_1 ?_
  refine lv_aload_n hx hb ndD_lay_4 rfl (lv_at hl 0 rfl) ?_
  refine va_get (D := D) (ci := 3) (v := .int (nI wn)) (C := nR_D) (T := nT_D) (N := 11) hx hb hts in_D hown hK hP 0 rfl rfl 7 (by decide) (hts _ tb_255) (fun _ h9 => h9) rfl ndD_lay_5 ?_
  refine lv_iload_n hx hb ndD_lay_8 rfl (lv_at hl 1 rfl) ?_
  refine fd_iast hx hb hK hP hD hS 3 0 (k := wn) rfl rfl (by omega) (by omega) ndD_lay_9 (fun H locs hP hD hS => ?_)
  have hP : va_P D fd_cl [(b0, .inr (3, [.ref b1, .int (nI n), .int (nI kd), .int (nI k), .ref b2, .int (nI od), .int cf, .int (nI wn), .ref b3, .int (nI ok), .ref b4])), (b1, .inl (cI, 400, .inl g)), (b2, .inl (cL, 24, .inr (.inl rn))), (b3, .inl (cI, 200, .inl (upd go wn x))), (b4, .inl (cL, 24, .inr (.inl gn)))] H := hP
  have hD : va_D A [(b0, .inr (3, [.ref b1, .int (nI n), .int (nI kd), .int (nI k), .ref b2, .int (nI od), .int cf, .int (nI wn), .ref b3, .int (nI ok), .ref b4])), (b1, .inl (cI, 400, .inl g)), (b2, .inl (cL, 24, .inr (.inl rn))), (b3, .inl (cI, 200, .inl (upd go wn x))), (b4, .inl (cL, 24, .inr (.inl gn)))] := hD
  refine lv_aload_n hx hb ndD_lay_10 rfl (lv_at hl 0 rfl) ?_
  refine lv_aload_n hx hb ndD_lay_11 rfl (lv_at hl 0 rfl) ?_
  refine va_get (D := D) (ci := 3) (v := .int (nI wn)) (C := nR_D) (T := nT_D) (N := 11) hx hb hts in_D hown hK hP 0 rfl rfl 7 (by decide) (hts _ tb_255) (fun _ h9 => h9) rfl ndD_lay_12 ?_
  refine lv_iconst (v := 1) hx hb ndD_lay_15 (by decide) ?_
  refine lv_iadd hx hb ndD_lay_16 ?_
  refine fd_asi (y := nI (wn + 1)) (nI_1 wn) ?_
  refine va_put (D := D) (ci := 3) (v := .int (nI (wn + 1))) (ty := (.int)) (C := nR_D) (T := nT_D) (N := 11) hx hb hts in_D nt_D nt_D_ok nn_D hown hK hP hD hS 0 rfl rfl 7 (by decide) (hts _ tb_255) (fun _ h9 => h9) rfl (by decide +kernel) rfl rfl (Nat.le_of_ble_eq_true rfl) ndD_lay_17 (fun H locs hP hD hS => ?_)
  have hP : va_P D fd_cl [(b0, .inr (3, [.ref b1, .int (nI n), .int (nI kd), .int (nI k), .ref b2, .int (nI od), .int cf, .int (nI (wn + 1)), .ref b3, .int (nI ok), .ref b4])), (b1, .inl (cI, 400, .inl g)), (b2, .inl (cL, 24, .inr (.inl rn))), (b3, .inl (cI, 200, .inl (upd go wn x))), (b4, .inl (cL, 24, .inr (.inl gn)))] H := hP
  have hD : va_D A [(b0, .inr (3, [.ref b1, .int (nI n), .int (nI kd), .int (nI k), .ref b2, .int (nI od), .int cf, .int (nI (wn + 1)), .ref b3, .int (nI ok), .ref b4])), (b1, .inl (cI, 400, .inl g)), (b2, .inl (cL, 24, .inr (.inl rn))), (b3, .inl (cI, 200, .inl (upd go wn x))), (b4, .inl (cL, 24, .inr (.inl gn)))] := hD
  exact fd_ret_v hx hb hr hlocks hS hP hD ndD_lay_20
set_option maxHeartbeats 4000000 in
set_option maxRecDepth 100000 in
theorem kD_begin_no (l : Launch) (D : va_G) (Z : Nat → Nat) (cI cL : ClassId) {b0 b1 b2 b3 b4 n kd k od wn ok : Nat} {g go : Nat → Int32} {rn gn : Nat → Int64} {cf : Int32} (hn : n ≤ 400) (hkd : kd ≤ 15) (hk : k ≤ 20) (hwn : wn ≤ 123) (hod : od ≤ 15) (hok : ok ≤ 20) (q : Int32) (hno : q < 1 ∨ 15 < q) : fd_Mi l D fd_cl (fd_ty cI cL) (fd_EV Z) nyD_begin (.code nyD_begin ncD_begin 3 (some .boolean) :: fd_TB) nmD_begin [.ref b0, .int q] [(b0, .inr (3, [.ref b1, .int (nI n), .int (nI kd), .int (nI k), .ref b2, .int (nI od), .int cf, .int (nI wn), .ref b3, .int (nI ok), .ref b4])), (b1, .inl (cI, 400, .inl g)), (b2, .inl (cL, 24, .inr (.inl rn))), (b3, .inl (cI, 200, .inl go)), (b4, .inl (cL, 24, .inr (.inl gn)))] [(b0, .inr (3, [.ref b1, .int (nI n), .int (nI kd), .int (nI k), .ref b2, .int (nI od), .int cf, .int (nI wn), .ref b3, .int (nI ok), .ref b4])), (b1, .inl (cI, 400, .inl g)), (b2, .inl (cL, 24, .inr (.inl rn))), (b3, .inl (cI, 200, .inl go)), (b4, .inl (cL, 24, .inr (.inl gn)))] 0 := by
  refine fd_open_i (cc := ncD_begin) (maxL := 3) (ret := (some .boolean)) (by decide) rfl (Nat.le_of_ble_eq_true rfl) ?_
  intro p e s m below meth c A ls X hP hD hS hl
  obtain ⟨hx, hb, hr, hml, hown, hts0, hlocks, hK, hEV, hA⟩ := X
  have hts : ∀ w ∈ fd_TB, w.before _ s = true := fun w h => hts0 w (List.mem_cons_of_mem _ h)
  have hE := fd_EV_ok Z
  have hown : s.vm.findClass "FieldDeskModel" = some m.cls := hown
  have hl : lv_has ls 3 [(0, .ref b0), (1, .int q)] := hl
  refine lv_iload_n hx hb ndD_begin_0 rfl (lv_at hl 1 rfl) ?_
  refine lv_iconst (v := 1) hx hb ndD_begin_1 (by decide) ?_
  refine lv_icmp_lt (tgt := 11) hx hb ndD_begin_2 (by decide) (fun c_2 => ?_) (fun c_2 => ?_)
  · refine lv_iconst (v := 0) hx hb ndD_begin_11 (by decide) ?_
    exact fd_ret_i hx hb hr hlocks hS hP hD rfl (rfl) ndD_begin_12
  · refine lv_iload_n hx hb ndD_begin_5 rfl (lv_at hl 1 rfl) ?_
    refine lv_bipush (v := 15) hx hb ndD_begin_6 (by decide) ?_
    refine lv_icmp_le (tgt := 13) hx hb ndD_begin_8 (by decide) (fun c_8 => absurd c_8 (fun h9 => hno.elim (fun h => absurd h c_2) (fun h => absurd h9 (Int32.not_le.mpr h)))) (fun _ => ?_)
    refine lv_iconst (v := 0) hx hb ndD_begin_11 (by decide) ?_
    exact fd_ret_i hx hb hr hlocks hS hP hD rfl (rfl) ndD_begin_12
set_option maxHeartbeats 4000000 in
set_option maxRecDepth 100000 in
theorem kD_begin_yes (l : Launch) (D : va_G) (Z : Nat → Nat) (cI cL : ClassId) {b0 b1 b2 b3 b4 n kd k od wn ok : Nat} {g go : Nat → Int32} {rn gn : Nat → Int64} {cf : Int32} (hn : n ≤ 400) (hkd : kd ≤ 15) (hk : k ≤ 20) (hwn : wn ≤ 123) (hod : od ≤ 15) (hok : ok ≤ 20) {q : Nat} (h1 : 1 ≤ q) (h15 : q ≤ 15) : fd_Mi l D fd_cl (fd_ty cI cL) (fd_EV Z) nyD_begin (.code nyD_begin ncD_begin 3 (some .boolean) :: fd_TB) nmD_begin [.ref b0, .int (nI q)] [(b0, .inr (3, [.ref b1, .int (nI n), .int (nI kd), .int (nI k), .ref b2, .int (nI od), .int cf, .int (nI wn), .ref b3, .int (nI ok), .ref b4])), (b1, .inl (cI, 400, .inl g)), (b2, .inl (cL, 24, .inr (.inl rn))), (b3, .inl (cI, 200, .inl go)), (b4, .inl (cL, 24, .inr (.inl gn)))] [(b0, .inr (3, [.ref b1, .int (nI n), .int (nI kd), .int (nI k), .ref b2, .int (nI q), .int 0, .int (nI 3), .ref b3, .int (nI 0), .ref b4])), (b1, .inl (cI, 400, .inl g)), (b2, .inl (cL, 24, .inr (.inl rn))), (b3, .inl (cI, 200, .inl (fd_bw go q))), (b4, .inl (cL, 24, .inr (.inl gn)))] 1 := by
  refine fd_open_i (cc := ncD_begin) (maxL := 3) (ret := (some .boolean)) (by decide) rfl (Nat.le_of_ble_eq_true rfl) ?_
  intro p e s m below meth c A ls X hP hD hS hl
  obtain ⟨hx, hb, hr, hml, hown, hts0, hlocks, hK, hEV, hA⟩ := X
  have hts : ∀ w ∈ fd_TB, w.before _ s = true := fun w h => hts0 w (List.mem_cons_of_mem _ h)
  have hE := fd_EV_ok Z
  have hown : s.vm.findClass "FieldDeskModel" = some m.cls := hown
  have hl : lv_has ls 3 [(0, .ref b0), (1, .int (nI q))] := hl
  refine lv_iload_n hx hb ndD_begin_0 rfl (lv_at hl 1 rfl) ?_
  refine lv_iconst (v := 1) hx hb ndD_begin_1 (by decide) ?_
  refine lv_icmp_lt (tgt := 11) hx hb ndD_begin_2 (by decide) (fun c_2 => absurd c_2 (fun h9 => absurd ((nI_ltI (a := q) (b := 1) (by omega) (by omega)).mp h9) (by omega))) (fun _ => ?_)
  refine lv_iload_n hx hb ndD_begin_5 rfl (lv_at hl 1 rfl) ?_
  refine lv_bipush (v := 15) hx hb ndD_begin_6 (by decide) ?_
  refine lv_icmp_le (tgt := 13) hx hb ndD_begin_8 (by decide) (fun _ => ?_) (fun c_8 => absurd ((nI_leI (a := q) (b := 15) (by omega) (by omega)).mpr (by omega)) c_8)
  refine lv_aload_n hx hb ndD_begin_13 rfl (lv_at hl 0 rfl) ?_
  refine lv_iload_n hx hb ndD_begin_14 rfl (lv_at hl 1 rfl) ?_
  refine va_put (D := D) (ci := 3) (v := .int (nI q)) (ty := (.int)) (C := nR_D) (T := nT_D) (N := 11) hx hb hts in_D nt_D nt_D_ok nn_D hown hK hP hD hS 0 rfl rfl 5 (by decide) (hts _ tb_253) (fun _ h9 => h9) rfl (by decide +kernel) rfl rfl (Nat.le_of_ble_eq_true rfl) ndD_begin_15 (fun H locs hP hD hS => ?_)
  have hP : va_P D fd_cl [(b0, .inr (3, [.ref b1, .int (nI n), .int (nI kd), .int (nI k), .ref b2, .int (nI q), .int cf, .int (nI wn), .ref b3, .int (nI ok), .ref b4])), (b1, .inl (cI, 400, .inl g)), (b2, .inl (cL, 24, .inr (.inl rn))), (b3, .inl (cI, 200, .inl go)), (b4, .inl (cL, 24, .inr (.inl gn)))] H := hP
  have hD : va_D A [(b0, .inr (3, [.ref b1, .int (nI n), .int (nI kd), .int (nI k), .ref b2, .int (nI q), .int cf, .int (nI wn), .ref b3, .int (nI ok), .ref b4])), (b1, .inl (cI, 400, .inl g)), (b2, .inl (cL, 24, .inr (.inl rn))), (b3, .inl (cI, 200, .inl go)), (b4, .inl (cL, 24, .inr (.inl gn)))] := hD
  refine lv_aload_n hx hb ndD_begin_18 rfl (lv_at hl 0 rfl) ?_
  refine lv_iconst (v := 0) hx hb ndD_begin_19 (by decide) ?_
  refine va_put (D := D) (ci := 3) (v := .int 0) (ty := (.boolean)) (C := nR_D) (T := nT_D) (N := 11) hx hb hts in_D nt_D nt_D_ok nn_D hown hK hP hD hS 0 rfl rfl 6 (by decide) (hts _ tb_254) (fun _ h9 => h9) rfl (by decide +kernel) rfl rfl (Nat.le_of_ble_eq_true rfl) ndD_begin_20 (fun H locs hP hD hS => ?_)
  have hP : va_P D fd_cl [(b0, .inr (3, [.ref b1, .int (nI n), .int (nI kd), .int (nI k), .ref b2, .int (nI q), .int 0, .int (nI wn), .ref b3, .int (nI ok), .ref b4])), (b1, .inl (cI, 400, .inl g)), (b2, .inl (cL, 24, .inr (.inl rn))), (b3, .inl (cI, 200, .inl go)), (b4, .inl (cL, 24, .inr (.inl gn)))] H := hP
  have hD : va_D A [(b0, .inr (3, [.ref b1, .int (nI n), .int (nI kd), .int (nI k), .ref b2, .int (nI q), .int 0, .int (nI wn), .ref b3, .int (nI ok), .ref b4])), (b1, .inl (cI, 400, .inl g)), (b2, .inl (cL, 24, .inr (.inl rn))), (b3, .inl (cI, 200, .inl go)), (b4, .inl (cL, 24, .inr (.inl gn)))] := hD
  refine lv_aload_n hx hb ndD_begin_23 rfl (lv_at hl 0 rfl) ?_
  refine lv_iconst (v := 0) hx hb ndD_begin_24 (by decide) ?_
  refine fd_asi (y := nI 0) nI_0.symm ?_
  refine va_put (D := D) (ci := 3) (v := .int (nI 0)) (ty := (.int)) (C := nR_D) (T := nT_D) (N := 11) hx hb hts in_D nt_D nt_D_ok nn_D hown hK hP hD hS 0 rfl rfl 7 (by decide) (hts _ tb_255) (fun _ h9 => h9) rfl (by decide +kernel) rfl rfl (Nat.le_of_ble_eq_true rfl) ndD_begin_25 (fun H locs hP hD hS => ?_)
  have hP : va_P D fd_cl [(b0, .inr (3, [.ref b1, .int (nI n), .int (nI kd), .int (nI k), .ref b2, .int (nI q), .int 0, .int (nI 0), .ref b3, .int (nI ok), .ref b4])), (b1, .inl (cI, 400, .inl g)), (b2, .inl (cL, 24, .inr (.inl rn))), (b3, .inl (cI, 200, .inl go)), (b4, .inl (cL, 24, .inr (.inl gn)))] H := hP
  have hD : va_D A [(b0, .inr (3, [.ref b1, .int (nI n), .int (nI kd), .int (nI k), .ref b2, .int (nI q), .int 0, .int (nI 0), .ref b3, .int (nI ok), .ref b4])), (b1, .inl (cI, 400, .inl g)), (b2, .inl (cL, 24, .inr (.inl rn))), (b3, .inl (cI, 200, .inl go)), (b4, .inl (cL, 24, .inr (.inl gn)))] := hD
  refine lv_aload_n hx hb ndD_begin_28 rfl (lv_at hl 0 rfl) ?_
  refine lv_iconst (v := 0) hx hb ndD_begin_29 (by decide) ?_
  refine fd_asi (y := nI 0) nI_0.symm ?_
  refine va_put (D := D) (ci := 3) (v := .int (nI 0)) (ty := (.int)) (C := nR_D) (T := nT_D) (N := 11) hx hb hts in_D nt_D nt_D_ok nn_D hown hK hP hD hS 0 rfl rfl 9 (by decide) (hts _ tb_257) (fun _ h9 => h9) rfl (by decide +kernel) rfl rfl (Nat.le_of_ble_eq_true rfl) ndD_begin_30 (fun H locs hP hD hS => ?_)
  have hP : va_P D fd_cl [(b0, .inr (3, [.ref b1, .int (nI n), .int (nI kd), .int (nI k), .ref b2, .int (nI q), .int 0, .int (nI 0), .ref b3, .int (nI 0), .ref b4])), (b1, .inl (cI, 400, .inl g)), (b2, .inl (cL, 24, .inr (.inl rn))), (b3, .inl (cI, 200, .inl go)), (b4, .inl (cL, 24, .inr (.inl gn)))] H := hP
  have hD : va_D A [(b0, .inr (3, [.ref b1, .int (nI n), .int (nI kd), .int (nI k), .ref b2, .int (nI q), .int 0, .int (nI 0), .ref b3, .int (nI 0), .ref b4])), (b1, .inl (cI, 400, .inl g)), (b2, .inl (cL, 24, .inr (.inl rn))), (b3, .inl (cI, 200, .inl go)), (b4, .inl (cL, 24, .inr (.inl gn)))] := hD
  refine lv_iconst (v := 0) hx hb ndD_begin_33 (by decide) ?_
  refine lv_istore_n (lv' := [(2, .int 0), (0, .ref b0), (1, .int (nI q))]) hx hb ndD_begin_34 rfl hl (by decide) rfl (fun ls hl => ?_)
  refine lv_iload_n hx hb ndD_begin_35 rfl (lv_at hl 0 rfl) ?_
  refine lv_iconst (v := 3) hx hb ndD_begin_36 (by decide) ?_
  refine lv_icmp_ge (tgt := 55) hx hb ndD_begin_37 (by decide) (fun c_37 => absurd c_37 (by decide)) (fun _ => ?_)
  refine lv_aload_n hx hb ndD_begin_40 rfl (lv_at hl 1 rfl) ?_
  refine lv_iload_n hx hb ndD_begin_41 rfl (lv_at hl 2 rfl) ?_
  refine lv_iload_n hx hb ndD_begin_42 rfl (lv_at hl 0 rfl) ?_
  refine fd_go_i (wr := [(b0, .inr (3, [.ref b1, .int (nI n), .int (nI kd), .int (nI k), .ref b2, .int (nI q), .int 0, .int (nI 0), .ref b3, .int (nI 0), .ref b4])), (b1, .inl (cI, 400, .inl g)), (b2, .inl (cL, 24, .inr (.inl rn))), (b3, .inl (cI, 200, .inl go)), (b4, .inl (cL, 24, .inr (.inl gn)))]) (w2 := [(b0, .inr (3, [.ref b1, .int (nI n), .int (nI kd), .int (nI k), .ref b2, .int (nI q), .int 0, .int (nI 0), .ref b3, .int (nI 0), .ref b4])), (b1, .inl (cI, 400, .inl g)), (b2, .inl (cL, 24, .inr (.inl rn))), (b3, .inl (cI, 200, .inl go)), (b4, .inl (cL, 24, .inr (.inl gn)))]) (va_runS (As := [.int (nI q), .int 0]) (rest := [.ref b0]) ⟨hx, hb, hml, hown, hts⟩ (kD_letter l D Z cI cL (kd := q) (i := 0) (by omega) (by omega) (by omega) H.size) (va_cwS 2 hts (fd_gS tb_282 tb_283 tb_16 tb_284) rfl rfl rfl nhD_letter.2 ⟨(Nat.le_of_ble_eq_true rfl), (Nat.le_of_ble_eq_true rfl)⟩) (fd_PreS hE hK hEV hA hP hD hS [] rfl (by decide)) rfl rfl hl.1 rfl (lv_room (Nat.le_of_ble_eq_true rfl)) ndD_begin_43 ⟨(Nat.le_of_ble_eq_true rfl), (Nat.le_of_ble_eq_true rfl)⟩) hP hD hS hA [] [0, 1, 2, 3, 4] rfl rfl (by decide) (by decide) [0, 1, 2, 3, 4] rfl (by decide) (fun H locs hP hD hS => ?_)
  refine fd_go_v (wr := []) (w2 := [(b0, .inr (3, [.ref b1, .int (nI n), .int (nI kd), .int (nI k), .ref b2, .int (nI q), .int 0, .int (nI (0 + 1)), .ref b3, .int (nI 0), .ref b4])), (b1, .inl (cI, 400, .inl g)), (b2, .inl (cL, 24, .inr (.inl rn))), (b3, .inl (cI, 200, .inl (upd go 0 (fd_let q 0)))), (b4, .inl (cL, 24, .inr (.inl gn)))]) (va_runV (As := [.int (fd_let q 0)]) (rest := []) ⟨hx, hb, hml, hown, hts⟩ (kD_lay l D Z cI cL (n := n) (g := g) (kd := kd) (k := k) (rn := rn) (od := q) (cf := 0) (wn := 0) (go := go) (ok := 0) (gn := gn) (by omega) (by omega) (by omega) (by omega) (by omega) (by omega) (fd_let q 0) H.size) (cwV 1 hts (fd_gV tb_324 tb_325 tb_10 tb_16 tb_326) rfl rfl rfl nhD_lay ⟨(Nat.le_of_ble_eq_true rfl), (Nat.le_of_ble_eq_true rfl)⟩) (fd_PreV hE hK hEV hA hP hD hS [0, 1, 2, 3, 4] rfl (by decide) (ci := 3) (q0 := 0) rfl rfl) rfl rfl hl.1 rfl (lv_room (Nat.le_of_ble_eq_true rfl)) ndD_begin_46 ⟨(Nat.le_of_ble_eq_true rfl), (Nat.le_of_ble_eq_true rfl)⟩) hP hD hS hA [0, 1, 2, 3, 4] [] rfl rfl (by decide) (by decide) [0, 1, 2, 3, 4] rfl (by decide) (fun H locs hP hD hS => ?_)
  refine lv_iinc (v := 1) (lv' := [(2, .int 1), (0, .ref b0), (1, .int (nI q))]) hx hb ndD_begin_49 hl (k := 0) rfl (by decide) (by decide) rfl (fun ls hl => ?_)
  refine lv_goto (tgt := 35) hx hb ndD_begin_52 (by decide) ?_
  refine lv_iload_n hx hb ndD_begin_35 rfl (lv_at hl 0 rfl) ?_
  refine lv_iconst (v := 3) hx hb ndD_begin_36 (by decide) ?_
  refine lv_icmp_ge (tgt := 55) hx hb ndD_begin_37 (by decide) (fun c_37 => absurd c_37 (by decide)) (fun _ => ?_)
  refine lv_aload_n hx hb ndD_begin_40 rfl (lv_at hl 1 rfl) ?_
  refine lv_iload_n hx hb ndD_begin_41 rfl (lv_at hl 2 rfl) ?_
  refine lv_iload_n hx hb ndD_begin_42 rfl (lv_at hl 0 rfl) ?_
  refine fd_go_i (wr := [(b0, .inr (3, [.ref b1, .int (nI n), .int (nI kd), .int (nI k), .ref b2, .int (nI q), .int 0, .int (nI (0 + 1)), .ref b3, .int (nI 0), .ref b4])), (b1, .inl (cI, 400, .inl g)), (b2, .inl (cL, 24, .inr (.inl rn))), (b3, .inl (cI, 200, .inl (upd go 0 (fd_let q 0)))), (b4, .inl (cL, 24, .inr (.inl gn)))]) (w2 := [(b0, .inr (3, [.ref b1, .int (nI n), .int (nI kd), .int (nI k), .ref b2, .int (nI q), .int 0, .int (nI (0 + 1)), .ref b3, .int (nI 0), .ref b4])), (b1, .inl (cI, 400, .inl g)), (b2, .inl (cL, 24, .inr (.inl rn))), (b3, .inl (cI, 200, .inl (upd go 0 (fd_let q 0)))), (b4, .inl (cL, 24, .inr (.inl gn)))]) (va_runS (As := [.int (nI q), .int 1]) (rest := [.ref b0]) ⟨hx, hb, hml, hown, hts⟩ (kD_letter l D Z cI cL (kd := q) (i := 1) (by omega) (by omega) (by omega) H.size) (va_cwS 2 hts (fd_gS tb_282 tb_283 tb_16 tb_284) rfl rfl rfl nhD_letter.2 ⟨(Nat.le_of_ble_eq_true rfl), (Nat.le_of_ble_eq_true rfl)⟩) (fd_PreS hE hK hEV hA hP hD hS [] rfl (by decide)) rfl rfl hl.1 rfl (lv_room (Nat.le_of_ble_eq_true rfl)) ndD_begin_43 ⟨(Nat.le_of_ble_eq_true rfl), (Nat.le_of_ble_eq_true rfl)⟩) hP hD hS hA [] [0, 1, 2, 3, 4] rfl rfl (by decide) (by decide) [0, 1, 2, 3, 4] rfl (by decide) (fun H locs hP hD hS => ?_)
  refine fd_go_v (wr := []) (w2 := [(b0, .inr (3, [.ref b1, .int (nI n), .int (nI kd), .int (nI k), .ref b2, .int (nI q), .int 0, .int (nI ((0 + 1) + 1)), .ref b3, .int (nI 0), .ref b4])), (b1, .inl (cI, 400, .inl g)), (b2, .inl (cL, 24, .inr (.inl rn))), (b3, .inl (cI, 200, .inl (upd (upd go 0 (fd_let q 0)) ((0 + 1)) (fd_let q 1)))), (b4, .inl (cL, 24, .inr (.inl gn)))]) (va_runV (As := [.int (fd_let q 1)]) (rest := []) ⟨hx, hb, hml, hown, hts⟩ (kD_lay l D Z cI cL (n := n) (g := g) (kd := kd) (k := k) (rn := rn) (od := q) (cf := 0) (wn := (0 + 1)) (go := upd go 0 (fd_let q 0)) (ok := 0) (gn := gn) (by omega) (by omega) (by omega) (by omega) (by omega) (by omega) (fd_let q 1) H.size) (cwV 1 hts (fd_gV tb_324 tb_325 tb_10 tb_16 tb_326) rfl rfl rfl nhD_lay ⟨(Nat.le_of_ble_eq_true rfl), (Nat.le_of_ble_eq_true rfl)⟩) (fd_PreV hE hK hEV hA hP hD hS [0, 1, 2, 3, 4] rfl (by decide) (ci := 3) (q0 := 0) rfl rfl) rfl rfl hl.1 rfl (lv_room (Nat.le_of_ble_eq_true rfl)) ndD_begin_46 ⟨(Nat.le_of_ble_eq_true rfl), (Nat.le_of_ble_eq_true rfl)⟩) hP hD hS hA [0, 1, 2, 3, 4] [] rfl rfl (by decide) (by decide) [0, 1, 2, 3, 4] rfl (by decide) (fun H locs hP hD hS => ?_)
  refine lv_iinc (v := 2) (lv' := [(2, .int 2), (0, .ref b0), (1, .int (nI q))]) hx hb ndD_begin_49 hl (k := 0) rfl (by decide) (by decide) rfl (fun ls hl => ?_)
  refine lv_goto (tgt := 35) hx hb ndD_begin_52 (by decide) ?_
  refine lv_iload_n hx hb ndD_begin_35 rfl (lv_at hl 0 rfl) ?_
  refine lv_iconst (v := 3) hx hb ndD_begin_36 (by decide) ?_
  refine lv_icmp_ge (tgt := 55) hx hb ndD_begin_37 (by decide) (fun c_37 => absurd c_37 (by decide)) (fun _ => ?_)
  refine lv_aload_n hx hb ndD_begin_40 rfl (lv_at hl 1 rfl) ?_
  refine lv_iload_n hx hb ndD_begin_41 rfl (lv_at hl 2 rfl) ?_
  refine lv_iload_n hx hb ndD_begin_42 rfl (lv_at hl 0 rfl) ?_
  refine fd_go_i (wr := [(b0, .inr (3, [.ref b1, .int (nI n), .int (nI kd), .int (nI k), .ref b2, .int (nI q), .int 0, .int (nI ((0 + 1) + 1)), .ref b3, .int (nI 0), .ref b4])), (b1, .inl (cI, 400, .inl g)), (b2, .inl (cL, 24, .inr (.inl rn))), (b3, .inl (cI, 200, .inl (upd (upd go 0 (fd_let q 0)) ((0 + 1)) (fd_let q 1)))), (b4, .inl (cL, 24, .inr (.inl gn)))]) (w2 := [(b0, .inr (3, [.ref b1, .int (nI n), .int (nI kd), .int (nI k), .ref b2, .int (nI q), .int 0, .int (nI ((0 + 1) + 1)), .ref b3, .int (nI 0), .ref b4])), (b1, .inl (cI, 400, .inl g)), (b2, .inl (cL, 24, .inr (.inl rn))), (b3, .inl (cI, 200, .inl (upd (upd go 0 (fd_let q 0)) ((0 + 1)) (fd_let q 1)))), (b4, .inl (cL, 24, .inr (.inl gn)))]) (va_runS (As := [.int (nI q), .int 2]) (rest := [.ref b0]) ⟨hx, hb, hml, hown, hts⟩ (kD_letter l D Z cI cL (kd := q) (i := 2) (by omega) (by omega) (by omega) H.size) (va_cwS 2 hts (fd_gS tb_282 tb_283 tb_16 tb_284) rfl rfl rfl nhD_letter.2 ⟨(Nat.le_of_ble_eq_true rfl), (Nat.le_of_ble_eq_true rfl)⟩) (fd_PreS hE hK hEV hA hP hD hS [] rfl (by decide)) rfl rfl hl.1 rfl (lv_room (Nat.le_of_ble_eq_true rfl)) ndD_begin_43 ⟨(Nat.le_of_ble_eq_true rfl), (Nat.le_of_ble_eq_true rfl)⟩) hP hD hS hA [] [0, 1, 2, 3, 4] rfl rfl (by decide) (by decide) [0, 1, 2, 3, 4] rfl (by decide) (fun H locs hP hD hS => ?_)
  refine fd_go_v (wr := []) (w2 := [(b0, .inr (3, [.ref b1, .int (nI n), .int (nI kd), .int (nI k), .ref b2, .int (nI q), .int 0, .int (nI (((0 + 1) + 1) + 1)), .ref b3, .int (nI 0), .ref b4])), (b1, .inl (cI, 400, .inl g)), (b2, .inl (cL, 24, .inr (.inl rn))), (b3, .inl (cI, 200, .inl (upd (upd (upd go 0 (fd_let q 0)) ((0 + 1)) (fd_let q 1)) (((0 + 1) + 1)) (fd_let q 2)))), (b4, .inl (cL, 24, .inr (.inl gn)))]) (va_runV (As := [.int (fd_let q 2)]) (rest := []) ⟨hx, hb, hml, hown, hts⟩ (kD_lay l D Z cI cL (n := n) (g := g) (kd := kd) (k := k) (rn := rn) (od := q) (cf := 0) (wn := ((0 + 1) + 1)) (go := upd (upd go 0 (fd_let q 0)) ((0 + 1)) (fd_let q 1)) (ok := 0) (gn := gn) (by omega) (by omega) (by omega) (by omega) (by omega) (by omega) (fd_let q 2) H.size) (cwV 1 hts (fd_gV tb_324 tb_325 tb_10 tb_16 tb_326) rfl rfl rfl nhD_lay ⟨(Nat.le_of_ble_eq_true rfl), (Nat.le_of_ble_eq_true rfl)⟩) (fd_PreV hE hK hEV hA hP hD hS [0, 1, 2, 3, 4] rfl (by decide) (ci := 3) (q0 := 0) rfl rfl) rfl rfl hl.1 rfl (lv_room (Nat.le_of_ble_eq_true rfl)) ndD_begin_46 ⟨(Nat.le_of_ble_eq_true rfl), (Nat.le_of_ble_eq_true rfl)⟩) hP hD hS hA [0, 1, 2, 3, 4] [] rfl rfl (by decide) (by decide) [0, 1, 2, 3, 4] rfl (by decide) (fun H locs hP hD hS => ?_)
  refine lv_iinc (v := 3) (lv' := [(2, .int 3), (0, .ref b0), (1, .int (nI q))]) hx hb ndD_begin_49 hl (k := 0) rfl (by decide) (by decide) rfl (fun ls hl => ?_)
  refine lv_goto (tgt := 35) hx hb ndD_begin_52 (by decide) ?_
  refine lv_iload_n hx hb ndD_begin_35 rfl (lv_at hl 0 rfl) ?_
  refine lv_iconst (v := 3) hx hb ndD_begin_36 (by decide) ?_
  refine lv_icmp_ge (tgt := 55) hx hb ndD_begin_37 (by decide) (fun _ => ?_) (fun c_37 => absurd (by decide) c_37)
  refine lv_iconst (v := 1) hx hb ndD_begin_55 (by decide) ?_
  exact fd_ret_i hx hb hr hlocks hS hP hD rfl (rfl) ndD_begin_56
set_option maxHeartbeats 4000000 in
set_option maxRecDepth 100000 in
theorem kD_nextSort (l : Launch) (D : va_G) (Z : Nat → Nat) (cI cL : ClassId) {b0 b1 b2 b3 b4 n kd k od wn ok : Nat} {g go : Nat → Int32} {rn gn : Nat → Int64} {cf : Int32} (hn : n ≤ 400) (hkd : kd ≤ 15) (hk : k ≤ 20) (hwn : wn ≤ 123) (hod : od ≤ 15) (hok : ok ≤ 20)  : fd_Mi l D fd_cl (fd_ty cI cL) (fd_EV Z) nyD_nextSort (.code nyD_nextSort ncD_nextSort 1 (some .int) :: fd_TB) nmD_nextSort [.ref b0] [(b0, .inr (3, [.ref b1, .int (nI n), .int (nI kd), .int (nI k), .ref b2, .int (nI od), .int cf, .int (nI wn), .ref b3, .int (nI ok), .ref b4])), (b1, .inl (cI, 400, .inl g)), (b2, .inl (cL, 24, .inr (.inl rn))), (b3, .inl (cI, 200, .inl go)), (b4, .inl (cL, 24, .inr (.inl gn)))] [(b0, .inr (3, [.ref b1, .int (nI n), .int (nI kd), .int (nI k), .ref b2, .int (nI od), .int cf, .int (nI wn), .ref b3, .int (nI ok), .ref b4])), (b1, .inl (cI, 400, .inl g)), (b2, .inl (cL, 24, .inr (.inl rn))), (b3, .inl (cI, 200, .inl go)), (b4, .inl (cL, 24, .inr (.inl gn)))] (fd_due od ok gn) := by
  refine fd_open_i (cc := ncD_nextSort) (maxL := 1) (ret := (some .int)) (by decide) rfl (Nat.le_of_ble_eq_true rfl) ?_
  intro p e s m below meth c A ls X hP hD hS hl
  obtain ⟨hx, hb, hr, hml, hown, hts0, hlocks, hK, hEV, hA⟩ := X
  have hts : ∀ w ∈ fd_TB, w.before _ s = true := fun w h => hts0 w (List.mem_cons_of_mem _ h)
  have hE := fd_EV_ok Z
  have hown : s.vm.findClass "FieldDeskModel" = some m.cls := hown
  have hl : lv_has ls 1 [(0, .ref b0)] := hl
  refine lv_aload_n hx hb ndD_nextSort_0 rfl (lv_at hl 0 rfl) ?_
  refine va_get (D := D) (ci := 3) (v := .int (nI od)) (C := nR_D) (T := nT_D) (N := 11) hx hb hts in_D hown hK hP 0 rfl rfl 5 (by decide) (hts _ tb_253) (fun _ h9 => h9) rfl ndD_nextSort_1 ?_
  refine lv_if_ne (tgt := 11) hx hb ndD_nextSort_4 (by decide) (fun c_4 => ?_) (fun c_4 => ?_)
  · have n_4 := mt (nI_eq (a := od) (b := 0) (by omega) (by omega)).mpr c_4
    refine lv_aload_n hx hb ndD_nextSort_11 rfl (lv_at hl 0 rfl) ?_
    refine va_get (D := D) (ci := 3) (v := .int (nI od)) (C := nR_D) (T := nT_D) (N := 11) hx hb hts in_D hown hK hP 0 rfl rfl 5 (by decide) (hts _ tb_253) (fun _ h9 => h9) rfl ndD_nextSort_12 ?_
    refine lv_aload_n hx hb ndD_nextSort_15 rfl (lv_at hl 0 rfl) ?_
    refine va_get (D := D) (ci := 3) (v := .int (nI ok)) (C := nR_D) (T := nT_D) (N := 11) hx hb hts in_D hown hK hP 0 rfl rfl 9 (by decide) (hts _ tb_257) (fun _ h9 => h9) rfl ndD_nextSort_16 ?_
    refine lv_aload_n hx hb ndD_nextSort_19 rfl (lv_at hl 0 rfl) ?_
    refine va_get (D := D) (ci := 3) (v := .ref b4) (C := nR_D) (T := nT_D) (N := 11) hx hb hts in_D hown hK hP 0 rfl rfl 10 (by decide) (hts _ tb_258) (fun _ h9 => h9) rfl ndD_nextSort_20 ?_
    refine lv_iconst (v := 3) hx hb ndD_nextSort_23 (by decide) ?_
    refine fd_asi (y := nI 3) rfl ?_
    refine fd_lald hx hb hK hP 4 1 (k := 3) rfl rfl (by omega) (by omega) ndD_nextSort_24 ?_
    refine fd_go_i (wr := [(b0, .inr (3, [.ref b1, .int (nI n), .int (nI kd), .int (nI k), .ref b2, .int (nI od), .int cf, .int (nI wn), .ref b3, .int (nI ok), .ref b4])), (b1, .inl (cI, 400, .inl g)), (b2, .inl (cL, 24, .inr (.inl rn))), (b3, .inl (cI, 200, .inl go)), (b4, .inl (cL, 24, .inr (.inl gn)))]) (w2 := [(b0, .inr (3, [.ref b1, .int (nI n), .int (nI kd), .int (nI k), .ref b2, .int (nI od), .int cf, .int (nI wn), .ref b3, .int (nI ok), .ref b4])), (b1, .inl (cI, 400, .inl g)), (b2, .inl (cL, 24, .inr (.inl rn))), (b3, .inl (cI, 200, .inl go)), (b4, .inl (cL, 24, .inr (.inl gn)))]) (va_runS (As := [.int (nI od), .int (nI ok), .long (gn 3)]) (rest := []) ⟨hx, hb, hml, hown, hts⟩ (kD_sortOf l D Z cI cL (kd := od) (j := ok) (by omega) (by omega) (by omega) (gn 3) s.heap.size) (va_cwS 3 hts (fd_gS tb_303 tb_304 tb_16 tb_305) rfl rfl rfl nhD_sortOf.2 ⟨(Nat.le_of_ble_eq_true rfl), (Nat.le_of_ble_eq_true rfl)⟩) (fd_PreS hE hK hEV hA hP hD hS [] rfl (by decide)) rfl rfl hl.1 rfl (lv_room (Nat.le_of_ble_eq_true rfl)) ndD_nextSort_25 ⟨(Nat.le_of_ble_eq_true rfl), (Nat.le_of_ble_eq_true rfl)⟩) hP hD hS hA [] [0, 1, 2, 3, 4] rfl rfl (by decide) (by decide) [0, 1, 2, 3, 4] rfl (by decide) (fun H locs hP hD hS => ?_)
    refine fd_asi (y := fd_due od ok gn) rfl ?_
    exact fd_ret_i hx hb hr hlocks hS hP hD rfl (rfl) ndD_nextSort_28
  · have n_4 := (nI_eq (a := od) (b := 0) (by omega) (by omega)).mp c_4
    refine lv_iconst (v := 0) hx hb ndD_nextSort_7 (by decide) ?_
    refine lv_goto (tgt := 28) hx hb ndD_nextSort_8 (by decide) ?_
    exact fd_ret_i hx hb hr hlocks hS hP hD rfl (by rw [fd_due, if_pos (by omega)]) ndD_nextSort_28
set_option maxHeartbeats 4000000 in
set_option maxRecDepth 100000 in
theorem kD_end_no (l : Launch) (D : va_G) (Z : Nat → Nat) (cI cL : ClassId) {b0 b1 b2 b3 b4 n kd k od wn ok : Nat} {g go : Nat → Int32} {rn gn : Nat → Int64} {cf : Int32} (hn : n ≤ 400) (hkd : kd ≤ 15) (hk : k ≤ 20) (hwn : wn ≤ 123) (hod : od ≤ 15) (hok : ok ≤ 20) (hno : od = 0 ∨ ¬ cf = 0 ∨ ¬ fd_due od ok gn = 0) : fd_Mi l D fd_cl (fd_ty cI cL) (fd_EV Z) nyD_end (.code nyD_end ncD_end 3 (some .int) :: fd_TB) nmD_end [.ref b0] [(b0, .inr (3, [.ref b1, .int (nI n), .int (nI kd), .int (nI k), .ref b2, .int (nI od), .int cf, .int (nI wn), .ref b3, .int (nI ok), .ref b4])), (b1, .inl (cI, 400, .inl g)), (b2, .inl (cL, 24, .inr (.inl rn))), (b3, .inl (cI, 200, .inl go)), (b4, .inl (cL, 24, .inr (.inl gn)))] [(b0, .inr (3, [.ref b1, .int (nI n), .int (nI kd), .int (nI k), .ref b2, .int (nI od), .int cf, .int (nI wn), .ref b3, .int (nI ok), .ref b4])), (b1, .inl (cI, 400, .inl g)), (b2, .inl (cL, 24, .inr (.inl rn))), (b3, .inl (cI, 200, .inl go)), (b4, .inl (cL, 24, .inr (.inl gn)))] (-1) := by
  refine fd_open_i (cc := ncD_end) (maxL := 3) (ret := (some .int)) (by decide) rfl (Nat.le_of_ble_eq_true rfl) ?_
  intro p e s m below meth c A ls X hP hD hS hl
  obtain ⟨hx, hb, hr, hml, hown, hts0, hlocks, hK, hEV, hA⟩ := X
  have hts : ∀ w ∈ fd_TB, w.before _ s = true := fun w h => hts0 w (List.mem_cons_of_mem _ h)
  have hE := fd_EV_ok Z
  have hown : s.vm.findClass "FieldDeskModel" = some m.cls := hown
  have hl : lv_has ls 3 [(0, .ref b0)] := hl
  refine lv_aload_n hx hb ndD_end_0 rfl (lv_at hl 0 rfl) ?_
  refine va_get (D := D) (ci := 3) (v := .int (nI od)) (C := nR_D) (T := nT_D) (N := 11) hx hb hts in_D hown hK hP 0 rfl rfl 5 (by decide) (hts _ tb_253) (fun _ h9 => h9) rfl ndD_end_1 ?_
  refine lv_if_eq (tgt := 21) hx hb ndD_end_4 (by decide) (fun c_4 => ?_) (fun c_4 => ?_)
  · have n_4 := (nI_eq (a := od) (b := 0) (by omega) (by omega)).mp c_4
    refine lv_iconst (v := (-1)) hx hb ndD_end_21 (by decide) ?_
    exact fd_ret_i hx hb hr hlocks hS hP hD rfl (rfl) ndD_end_22
  · have n_4 := mt (nI_eq (a := od) (b := 0) (by omega) (by omega)).mpr c_4
    refine lv_aload_n hx hb ndD_end_7 rfl (lv_at hl 0 rfl) ?_
    refine va_get (D := D) (ci := 3) (v := .int cf) (C := nR_D) (T := nT_D) (N := 11) hx hb hts in_D hown hK hP 0 rfl rfl 6 (by decide) (hts _ tb_254) (fun _ h9 => h9) rfl ndD_end_8 ?_
    refine lv_if_ne (tgt := 21) hx hb ndD_end_11 (by decide) (fun c_11 => ?_) (fun c_11 => ?_)
    · refine lv_iconst (v := (-1)) hx hb ndD_end_21 (by decide) ?_
      exact fd_ret_i hx hb hr hlocks hS hP hD rfl (rfl) ndD_end_22
    · refine lv_aload_n hx hb ndD_end_14 rfl (lv_at hl 0 rfl) ?_
      refine fd_go_i (wr := []) (w2 := [(b0, .inr (3, [.ref b1, .int (nI n), .int (nI kd), .int (nI k), .ref b2, .int (nI od), .int cf, .int (nI wn), .ref b3, .int (nI ok), .ref b4])), (b1, .inl (cI, 400, .inl g)), (b2, .inl (cL, 24, .inr (.inl rn))), (b3, .inl (cI, 200, .inl go)), (b4, .inl (cL, 24, .inr (.inl gn)))]) (va_runV (As := []) (rest := []) ⟨hx, hb, hml, hown, hts⟩ (kD_nextSort l D Z cI cL (n := n) (g := g) (kd := kd) (k := k) (rn := rn) (od := od) (cf := cf) (wn := wn) (go := go) (ok := ok) (gn := gn) (by omega) (by omega) (by omega) (by omega) (by omega) (by omega)  s.heap.size) (cwV 0 hts (fd_gV tb_331 tb_332 tb_11 tb_16 tb_333) rfl rfl rfl nhD_nextSort ⟨(Nat.le_of_ble_eq_true rfl), (Nat.le_of_ble_eq_true rfl)⟩) (fd_PreV hE hK hEV hA hP hD hS [0, 1, 2, 3, 4] rfl (by decide) (ci := 3) (q0 := 0) rfl rfl) rfl rfl hl.1 rfl (lv_room (Nat.le_of_ble_eq_true rfl)) ndD_end_15 ⟨(Nat.le_of_ble_eq_true rfl), (Nat.le_of_ble_eq_true rfl)⟩) hP hD hS hA [0, 1, 2, 3, 4] [] rfl rfl (by decide) (by decide) [0, 1, 2, 3, 4] rfl (by decide) (fun H locs hP hD hS => ?_)
      refine lv_if_eq (tgt := 23) hx hb ndD_end_18 (by decide) (fun c_18 => absurd c_18 (fun h9 => hno.elim (fun h => n_4 h) (fun h => h.elim (fun h => absurd c_11 h) (fun h => h h9)))) (fun _ => ?_)
      refine lv_iconst (v := (-1)) hx hb ndD_end_21 (by decide) ?_
      exact fd_ret_i hx hb hr hlocks hS hP hD rfl (rfl) ndD_end_22
set_option maxHeartbeats 4000000 in
set_option maxRecDepth 100000 in
theorem kD_end_yes (l : Launch) (D : va_G) (Z : Nat → Nat) (cI cL : ClassId) {b0 b1 b2 b3 b4 n kd k od wn ok : Nat} {g go : Nat → Int32} {rn gn : Nat → Int64} {cf : Int32} (hn : n ≤ 400) (hkd : kd ≤ 15) (hk : k ≤ 20) (hwn : wn ≤ 123) (hod : od ≤ 15) (hok : ok ≤ 20) (h1 : ¬ od = 0) (h2 : cf = 0) (h3 : fd_due od ok gn = 0) (hw : wn + 2 ≤ 123) (hsg : ∀ i, i < wn → fd_sg (go i)) : fd_Mi l D fd_cl (fd_ty cI cL) (fd_EV Z) nyD_end (.code nyD_end ncD_end 3 (some .int) :: fd_TB) nmD_end [.ref b0] [(b0, .inr (3, [.ref b1, .int (nI n), .int (nI kd), .int (nI k), .ref b2, .int (nI od), .int cf, .int (nI wn), .ref b3, .int (nI ok), .ref b4])), (b1, .inl (cI, 400, .inl g)), (b2, .inl (cL, 24, .inr (.inl rn))), (b3, .inl (cI, 200, .inl go)), (b4, .inl (cL, 24, .inr (.inl gn)))] [(b0, .inr (3, [.ref b1, .int (nI n), .int (nI kd), .int (nI k), .ref b2, .int (nI od), .int 1, .int (nI (wn + 1 + 1)), .ref b3, .int (nI ok), .ref b4])), (b1, .inl (cI, 400, .inl g)), (b2, .inl (cL, 24, .inr (.inl rn))), (b3, .inl (cI, 200, .inl (fd_ew go wn))), (b4, .inl (cL, 24, .inr (.inl gn)))] (nI (wn + 1 + 1)) := by
  refine fd_open_i (cc := ncD_end) (maxL := 3) (ret := (some .int)) (by decide) rfl (Nat.le_of_ble_eq_true rfl) ?_
  intro p e s m below meth c A ls X hP hD hS hl
  obtain ⟨hx, hb, hr, hml, hown, hts0, hlocks, hK, hEV, hA⟩ := X
  have hts : ∀ w ∈ fd_TB, w.before _ s = true := fun w h => hts0 w (List.mem_cons_of_mem _ h)
  have hE := fd_EV_ok Z
  have hown : s.vm.findClass "FieldDeskModel" = some m.cls := hown
  have hl : lv_has ls 3 [(0, .ref b0)] := hl
  refine lv_aload_n hx hb ndD_end_0 rfl (lv_at hl 0 rfl) ?_
  refine va_get (D := D) (ci := 3) (v := .int (nI od)) (C := nR_D) (T := nT_D) (N := 11) hx hb hts in_D hown hK hP 0 rfl rfl 5 (by decide) (hts _ tb_253) (fun _ h9 => h9) rfl ndD_end_1 ?_
  refine lv_if_eq (tgt := 21) hx hb ndD_end_4 (by decide) (fun c_4 => absurd c_4 (fun h9 => absurd ((nI_eq (a := od) (b := 0) (by omega) (by omega)).mp h9) (by omega))) (fun _ => ?_)
  refine lv_aload_n hx hb ndD_end_7 rfl (lv_at hl 0 rfl) ?_
  refine va_get (D := D) (ci := 3) (v := .int cf) (C := nR_D) (T := nT_D) (N := 11) hx hb hts in_D hown hK hP 0 rfl rfl 6 (by decide) (hts _ tb_254) (fun _ h9 => h9) rfl ndD_end_8 ?_
  refine lv_if_ne (tgt := 21) hx hb ndD_end_11 (by decide) (fun c_11 => absurd h2 c_11) (fun _ => ?_)
  refine lv_aload_n hx hb ndD_end_14 rfl (lv_at hl 0 rfl) ?_
  refine fd_go_i (wr := []) (w2 := [(b0, .inr (3, [.ref b1, .int (nI n), .int (nI kd), .int (nI k), .ref b2, .int (nI od), .int cf, .int (nI wn), .ref b3, .int (nI ok), .ref b4])), (b1, .inl (cI, 400, .inl g)), (b2, .inl (cL, 24, .inr (.inl rn))), (b3, .inl (cI, 200, .inl go)), (b4, .inl (cL, 24, .inr (.inl gn)))]) (va_runV (As := []) (rest := []) ⟨hx, hb, hml, hown, hts⟩ (kD_nextSort l D Z cI cL (n := n) (g := g) (kd := kd) (k := k) (rn := rn) (od := od) (cf := cf) (wn := wn) (go := go) (ok := ok) (gn := gn) (by omega) (by omega) (by omega) (by omega) (by omega) (by omega)  s.heap.size) (cwV 0 hts (fd_gV tb_331 tb_332 tb_11 tb_16 tb_333) rfl rfl rfl nhD_nextSort ⟨(Nat.le_of_ble_eq_true rfl), (Nat.le_of_ble_eq_true rfl)⟩) (fd_PreV hE hK hEV hA hP hD hS [0, 1, 2, 3, 4] rfl (by decide) (ci := 3) (q0 := 0) rfl rfl) rfl rfl hl.1 rfl (lv_room (Nat.le_of_ble_eq_true rfl)) ndD_end_15 ⟨(Nat.le_of_ble_eq_true rfl), (Nat.le_of_ble_eq_true rfl)⟩) hP hD hS hA [0, 1, 2, 3, 4] [] rfl rfl (by decide) (by decide) [0, 1, 2, 3, 4] rfl (by decide) (fun H locs hP hD hS => ?_)
  refine lv_if_eq (tgt := 23) hx hb ndD_end_18 (by decide) (fun _ => ?_) (fun c_18 => absurd h3 c_18)
  refine lv_iconst (v := 0) hx hb ndD_end_23 (by decide) ?_
  refine lv_istore_n (lv' := [(1, .int 0), (0, .ref b0)]) hx hb ndD_end_24 rfl hl (by decide) rfl (fun ls hl => ?_)
  refine lv_iconst (v := 0) hx hb ndD_end_25 (by decide) ?_
  refine lv_istore_n (lv' := [(2, .int 0), (1, .int 0), (0, .ref b0)]) hx hb ndD_end_26 rfl hl (by decide) rfl (fun ls hl => ?_)
  have loop : ∀ (z : Nat) (i : Nat) (hi : i + z = wn) (H : Heap) (locs : List Loc) (ls : Array Slot), va_P D fd_cl [(b0, .inr (3, [.ref b1, .int (nI n), .int (nI kd), .int (nI k), .ref b2, .int (nI od), .int cf, .int (nI wn), .ref b3, .int (nI ok), .ref b4])), (b1, .inl (cI, 400, .inl g)), (b2, .inl (cL, 24, .inr (.inl rn))), (b3, .inl (cI, 200, .inl go)), (b4, .inl (cL, 24, .inr (.inl gn)))] H → va_D A [(b0, .inr (3, [.ref b1, .int (nI n), .int (nI kd), .int (nI k), .ref b2, .int (nI od), .int cf, .int (nI wn), .ref b3, .int (nI ok), .ref b4])), (b1, .inl (cI, 400, .inl g)), (b2, .inl (cL, 24, .inr (.inl rn))), (b3, .inl (cI, 200, .inl go)), (b4, .inl (cL, 24, .inr (.inl gn)))] → va_S A s.heap H locs → lv_has ls 3 [(0, .ref b0), (1, .int (fd_rem go i)), (2, .int (nI i))] → W p l e nmD_end s m ([.ref b0].toArray) below meth c H locs 0 0 (MQ below (va_Qi (fun r' (_ : Unit) => r' = (nI (wn + 1 + 1))) (fd_B D fd_cl A [(b0, .inr (3, [.ref b1, .int (nI n), .int (nI kd), .int (nI k), .ref b2, .int (nI od), .int 1, .int (nI (wn + 1 + 1)), .ref b3, .int (nI ok), .ref b4])), (b1, .inl (cI, 400, .inl g)), (b2, .inl (cL, 24, .inr (.inl rn))), (b3, .inl (cI, 200, .inl (fd_ew go wn))), (b4, .inl (cL, 24, .inr (.inl gn)))]) A) [.ref b0].toArray s 0 0 A) (F0 m 27 ls []) := by
    intro z
    induction z with
    | zero =>
      intro i hi H locs ls hP hD hS hl
      have e9 : wn = i := by omega
      subst e9
      refine lv_iload_n hx hb ndD_end_27 rfl (lv_at hl 2 rfl) ?_
      refine lv_aload_n hx hb ndD_end_28 rfl (lv_at hl 0 rfl) ?_
      refine va_get (D := D) (ci := 3) (v := .int (nI wn)) (C := nR_D) (T := nT_D) (N := 11) hx hb hts in_D hown hK hP 0 rfl rfl 7 (by decide) (hts _ tb_255) (fun _ h9 => h9) rfl ndD_end_29 ?_
      refine lv_icmp_ge (tgt := 52) hx hb ndD_end_32 (by decide) (fun _ => ?_) (fun c_32 => absurd ((nI_leI (a := wn) (b := wn) (by omega) (by omega)).mpr (by omega)) c_32)
      refine lv_bipush (v := 98) hx hb ndD_end_52 (by decide) ?_
      refine lv_iload_n hx hb ndD_end_54 rfl (lv_at hl 1 rfl) ?_
      refine lv_bipush (v := 100) hx hb ndD_end_55 (by decide) ?_
      refine lv_imul hx hb ndD_end_57 ?_
      refine lv_bipush (v := 97) hx hb ndD_end_58 (by decide) ?_
      refine lv_irem hx hb ndD_end_60 (by decide) ?_
      refine lv_isub hx hb ndD_end_61 ?_
      refine fd_asi (y := fd_ck (fd_rem go wn)) rfl ?_
      refine lv_istore_n (lv' := [(2, .int (fd_ck (fd_rem go wn))), (0, .ref b0), (1, .int (fd_rem go wn))]) hx hb ndD_end_62 rfl hl (by decide) rfl (fun ls hl => ?_)
      refine lv_aload_n hx hb ndD_end_63 rfl (lv_at hl 1 rfl) ?_
      refine lv_bipush (v := 48) hx hb ndD_end_64 (by decide) ?_
      refine lv_iload_n hx hb ndD_end_66 rfl (lv_at hl 0 rfl) ?_
      refine lv_bipush (v := 10) hx hb ndD_end_67 (by decide) ?_
      refine lv_idiv hx hb ndD_end_69 (by decide) ?_
      refine lv_iadd hx hb ndD_end_70 ?_
      refine fd_go_v (wr := []) (w2 := [(b0, .inr (3, [.ref b1, .int (nI n), .int (nI kd), .int (nI k), .ref b2, .int (nI od), .int cf, .int (nI (wn + 1)), .ref b3, .int (nI ok), .ref b4])), (b1, .inl (cI, 400, .inl g)), (b2, .inl (cL, 24, .inr (.inl rn))), (b3, .inl (cI, 200, .inl (upd go wn (48 + ((fd_ck (fd_rem go wn)) / 10))))), (b4, .inl (cL, 24, .inr (.inl gn)))]) (va_runV (As := [.int (48 + ((fd_ck (fd_rem go wn)) / 10))]) (rest := []) ⟨hx, hb, hml, hown, hts⟩ (kD_lay l D Z cI cL (n := n) (g := g) (kd := kd) (k := k) (rn := rn) (od := od) (cf := cf) (wn := wn) (go := go) (ok := ok) (gn := gn) (by omega) (by omega) (by omega) (by omega) (by omega) (by omega) (48 + ((fd_ck (fd_rem go wn)) / 10)) H.size) (cwV 1 hts (fd_gV tb_324 tb_325 tb_10 tb_16 tb_326) rfl rfl rfl nhD_lay ⟨(Nat.le_of_ble_eq_true rfl), (Nat.le_of_ble_eq_true rfl)⟩) (fd_PreV hE hK hEV hA hP hD hS [0, 1, 2, 3, 4] rfl (by decide) (ci := 3) (q0 := 0) rfl rfl) rfl rfl hl.1 rfl (lv_room (Nat.le_of_ble_eq_true rfl)) ndD_end_71 ⟨(Nat.le_of_ble_eq_true rfl), (Nat.le_of_ble_eq_true rfl)⟩) hP hD hS hA [0, 1, 2, 3, 4] [] rfl rfl (by decide) (by decide) [0, 1, 2, 3, 4] rfl (by decide) (fun H locs hP hD hS => ?_)
      refine lv_aload_n hx hb ndD_end_74 rfl (lv_at hl 1 rfl) ?_
      refine lv_bipush (v := 48) hx hb ndD_end_75 (by decide) ?_
      refine lv_iload_n hx hb ndD_end_77 rfl (lv_at hl 0 rfl) ?_
      refine lv_bipush (v := 10) hx hb ndD_end_78 (by decide) ?_
      refine lv_irem hx hb ndD_end_80 (by decide) ?_
      refine lv_iadd hx hb ndD_end_81 ?_
      refine fd_go_v (wr := []) (w2 := [(b0, .inr (3, [.ref b1, .int (nI n), .int (nI kd), .int (nI k), .ref b2, .int (nI od), .int cf, .int (nI ((wn + 1) + 1)), .ref b3, .int (nI ok), .ref b4])), (b1, .inl (cI, 400, .inl g)), (b2, .inl (cL, 24, .inr (.inl rn))), (b3, .inl (cI, 200, .inl (upd (upd go wn (48 + ((fd_ck (fd_rem go wn)) / 10))) ((wn + 1)) (48 + ((fd_ck (fd_rem go wn)) - (fd_ck (fd_rem go wn)) / 10 * 10))))), (b4, .inl (cL, 24, .inr (.inl gn)))]) (va_runV (As := [.int (48 + ((fd_ck (fd_rem go wn)) - (fd_ck (fd_rem go wn)) / 10 * 10))]) (rest := []) ⟨hx, hb, hml, hown, hts⟩ (kD_lay l D Z cI cL (n := n) (g := g) (kd := kd) (k := k) (rn := rn) (od := od) (cf := cf) (wn := (wn + 1)) (go := upd go wn (48 + ((fd_ck (fd_rem go wn)) / 10))) (ok := ok) (gn := gn) (by omega) (by omega) (by omega) (by omega) (by omega) (by omega) (48 + ((fd_ck (fd_rem go wn)) - (fd_ck (fd_rem go wn)) / 10 * 10)) H.size) (cwV 1 hts (fd_gV tb_324 tb_325 tb_10 tb_16 tb_326) rfl rfl rfl nhD_lay ⟨(Nat.le_of_ble_eq_true rfl), (Nat.le_of_ble_eq_true rfl)⟩) (fd_PreV hE hK hEV hA hP hD hS [0, 1, 2, 3, 4] rfl (by decide) (ci := 3) (q0 := 0) rfl rfl) rfl rfl hl.1 rfl (lv_room (Nat.le_of_ble_eq_true rfl)) ndD_end_82 ⟨(Nat.le_of_ble_eq_true rfl), (Nat.le_of_ble_eq_true rfl)⟩) hP hD hS hA [0, 1, 2, 3, 4] [] rfl rfl (by decide) (by decide) [0, 1, 2, 3, 4] rfl (by decide) (fun H locs hP hD hS => ?_)
      refine lv_aload_n hx hb ndD_end_85 rfl (lv_at hl 1 rfl) ?_
      refine lv_iconst (v := 1) hx hb ndD_end_86 (by decide) ?_
      refine va_put (D := D) (ci := 3) (v := .int 1) (ty := (.boolean)) (C := nR_D) (T := nT_D) (N := 11) hx hb hts in_D nt_D nt_D_ok nn_D hown hK hP hD hS 0 rfl rfl 6 (by decide) (hts _ tb_254) (fun _ h9 => h9) rfl (by decide +kernel) rfl rfl (Nat.le_of_ble_eq_true rfl) ndD_end_87 (fun H locs hP hD hS => ?_)
      have hP : va_P D fd_cl [(b0, .inr (3, [.ref b1, .int (nI n), .int (nI kd), .int (nI k), .ref b2, .int (nI od), .int 1, .int (nI ((wn + 1) + 1)), .ref b3, .int (nI ok), .ref b4])), (b1, .inl (cI, 400, .inl g)), (b2, .inl (cL, 24, .inr (.inl rn))), (b3, .inl (cI, 200, .inl (upd (upd go wn (48 + ((fd_ck (fd_rem go wn)) / 10))) ((wn + 1)) (48 + ((fd_ck (fd_rem go wn)) - (fd_ck (fd_rem go wn)) / 10 * 10))))), (b4, .inl (cL, 24, .inr (.inl gn)))] H := hP
      have hD : va_D A [(b0, .inr (3, [.ref b1, .int (nI n), .int (nI kd), .int (nI k), .ref b2, .int (nI od), .int 1, .int (nI ((wn + 1) + 1)), .ref b3, .int (nI ok), .ref b4])), (b1, .inl (cI, 400, .inl g)), (b2, .inl (cL, 24, .inr (.inl rn))), (b3, .inl (cI, 200, .inl (upd (upd go wn (48 + ((fd_ck (fd_rem go wn)) / 10))) ((wn + 1)) (48 + ((fd_ck (fd_rem go wn)) - (fd_ck (fd_rem go wn)) / 10 * 10))))), (b4, .inl (cL, 24, .inr (.inl gn)))] := hD
      refine lv_aload_n hx hb ndD_end_90 rfl (lv_at hl 1 rfl) ?_
      refine va_get (D := D) (ci := 3) (v := .int (nI ((wn + 1) + 1))) (C := nR_D) (T := nT_D) (N := 11) hx hb hts in_D hown hK hP 0 rfl rfl 7 (by decide) (hts _ tb_255) (fun _ h9 => h9) rfl ndD_end_91 ?_
      exact fd_ret_i hx hb hr hlocks hS hP hD rfl (rfl) ndD_end_94
    | succ z ih =>
      intro i hi H locs ls hP hD hS hl
      refine lv_iload_n hx hb ndD_end_27 rfl (lv_at hl 2 rfl) ?_
      refine lv_aload_n hx hb ndD_end_28 rfl (lv_at hl 0 rfl) ?_
      refine va_get (D := D) (ci := 3) (v := .int (nI wn)) (C := nR_D) (T := nT_D) (N := 11) hx hb hts in_D hown hK hP 0 rfl rfl 7 (by decide) (hts _ tb_255) (fun _ h9 => h9) rfl ndD_end_29 ?_
      refine lv_icmp_ge (tgt := 52) hx hb ndD_end_32 (by decide) (fun c_32 => absurd c_32 (fun h9 => absurd ((nI_leI (a := wn) (b := i) (by omega) (by omega)).mp h9) (by omega))) (fun _ => ?_)
      refine lv_iload_n hx hb ndD_end_35 rfl (lv_at hl 1 rfl) ?_
      refine lv_aload_n hx hb ndD_end_36 rfl (lv_at hl 0 rfl) ?_
      refine va_get (D := D) (ci := 3) (v := .ref b3) (C := nR_D) (T := nT_D) (N := 11) hx hb hts in_D hown hK hP 0 rfl rfl 8 (by decide) (hts _ tb_256) (fun _ h9 => h9) rfl ndD_end_37 ?_
      refine lv_iload_n hx hb ndD_end_40 rfl (lv_at hl 2 rfl) ?_
      refine fd_iald hx hb hK hP 3 0 (k := i) rfl rfl (by omega) (by omega) ndD_end_41 ?_
      refine fd_go_i (wr := [(b0, .inr (3, [.ref b1, .int (nI n), .int (nI kd), .int (nI k), .ref b2, .int (nI od), .int cf, .int (nI wn), .ref b3, .int (nI ok), .ref b4])), (b1, .inl (cI, 400, .inl g)), (b2, .inl (cL, 24, .inr (.inl rn))), (b3, .inl (cI, 200, .inl go)), (b4, .inl (cL, 24, .inr (.inl gn)))]) (w2 := [(b0, .inr (3, [.ref b1, .int (nI n), .int (nI kd), .int (nI k), .ref b2, .int (nI od), .int cf, .int (nI wn), .ref b3, .int (nI ok), .ref b4])), (b1, .inl (cI, 400, .inl g)), (b2, .inl (cL, 24, .inr (.inl rn))), (b3, .inl (cI, 200, .inl go)), (b4, .inl (cL, 24, .inr (.inl gn)))]) (va_runS (As := [.int (fd_rem go i), .int (go i)]) (rest := []) ⟨hx, hb, hml, hown, hts⟩ (kD_step l D Z cI cL (fd_rem go i) (go i) H.size) (va_cwS 2 hts (fd_gS tb_288 tb_289 tb_16 tb_290) rfl rfl rfl nhD_step.2 ⟨(Nat.le_of_ble_eq_true rfl), (Nat.le_of_ble_eq_true rfl)⟩) (fd_PreS hE hK hEV hA hP hD hS [] rfl (by decide)) rfl rfl hl.1 rfl (lv_room (Nat.le_of_ble_eq_true rfl)) ndD_end_42 ⟨(Nat.le_of_ble_eq_true rfl), (Nat.le_of_ble_eq_true rfl)⟩) hP hD hS hA [] [0, 1, 2, 3, 4] rfl rfl (by decide) (by decide) [0, 1, 2, 3, 4] rfl (by decide) (fun H locs hP hD hS => ?_)
      refine fd_asi (y := fd_rst (fd_rem go i) (fd_val (go i))) (fd_stp_eq (hsg i (by omega)) _) ?_
      refine lv_istore_n (lv' := [(1, .int (fd_rst (fd_rem go i) (fd_val (go i)))), (0, .ref b0), (2, .int (nI i))]) hx hb ndD_end_45 rfl hl (by decide) rfl (fun ls hl => ?_)
      refine lv_iinc (v := nI (i + 1)) (lv' := [(2, .int (nI (i + 1))), (1, .int (fd_rst (fd_rem go i) (fd_val (go i)))), (0, .ref b0)]) hx hb ndD_end_46 hl (k := 2) rfl (nI_1 i) (by decide) rfl (fun ls hl => ?_)
      refine lv_goto (tgt := 27) hx hb ndD_end_49 (by decide) ?_
      exact ih (i + 1) (by omega) _ _ _ hP hD hS (lv_sub hl [2, 1, 0] rfl)
  exact loop wn 0 (by omega) _ _ _ hP hD hS (lv_sub hl [2, 1, 0] rfl)
set_option maxHeartbeats 4000000 in
set_option maxRecDepth 100000 in
theorem kD_copy_no (l : Launch) (D : va_G) (Z : Nat → Nat) (cI cL : ClassId) {b0 b1 b2 b3 b4 n kd k od wn ok : Nat} {g go : Nat → Int32} {rn gn : Nat → Int64} {cf : Int32} (hn : n ≤ 400) (hkd : kd ≤ 15) (hk : k ≤ 20) (hwn : wn ≤ 123) (hod : od ≤ 15) (hok : ok ≤ 20) (hno : od = 0 ∨ 400 < n + wn) : fd_Mi l D fd_cl (fd_ty cI cL) (fd_EV Z) nyD_copy (.code nyD_copy ncD_copy 2 (some .boolean) :: fd_TB) nmD_copy [.ref b0] [(b0, .inr (3, [.ref b1, .int (nI n), .int (nI kd), .int (nI k), .ref b2, .int (nI od), .int cf, .int (nI wn), .ref b3, .int (nI ok), .ref b4])), (b1, .inl (cI, 400, .inl g)), (b2, .inl (cL, 24, .inr (.inl rn))), (b3, .inl (cI, 200, .inl go)), (b4, .inl (cL, 24, .inr (.inl gn)))] [(b0, .inr (3, [.ref b1, .int (nI n), .int (nI kd), .int (nI k), .ref b2, .int (nI od), .int cf, .int (nI wn), .ref b3, .int (nI ok), .ref b4])), (b1, .inl (cI, 400, .inl g)), (b2, .inl (cL, 24, .inr (.inl rn))), (b3, .inl (cI, 200, .inl go)), (b4, .inl (cL, 24, .inr (.inl gn)))] 0 := by
  refine fd_open_i (cc := ncD_copy) (maxL := 2) (ret := (some .boolean)) (by decide) rfl (Nat.le_of_ble_eq_true rfl) ?_
  intro p e s m below meth c A ls X hP hD hS hl
  obtain ⟨hx, hb, hr, hml, hown, hts0, hlocks, hK, hEV, hA⟩ := X
  have hts : ∀ w ∈ fd_TB, w.before _ s = true := fun w h => hts0 w (List.mem_cons_of_mem _ h)
  have hE := fd_EV_ok Z
  have hown : s.vm.findClass "FieldDeskModel" = some m.cls := hown
  have hl : lv_has ls 2 [(0, .ref b0)] := hl
  refine lv_aload_n hx hb ndD_copy_0 rfl (lv_at hl 0 rfl) ?_
  refine va_get (D := D) (ci := 3) (v := .int (nI od)) (C := nR_D) (T := nT_D) (N := 11) hx hb hts in_D hown hK hP 0 rfl rfl 5 (by decide) (hts _ tb_253) (fun _ h9 => h9) rfl ndD_copy_1 ?_
  refine lv_if_eq (tgt := 22) hx hb ndD_copy_4 (by decide) (fun c_4 => ?_) (fun c_4 => ?_)
  · have n_4 := (nI_eq (a := od) (b := 0) (by omega) (by omega)).mp c_4
    refine lv_iconst (v := 0) hx hb ndD_copy_22 (by decide) ?_
    exact fd_ret_i hx hb hr hlocks hS hP hD rfl (rfl) ndD_copy_23
  · have n_4 := mt (nI_eq (a := od) (b := 0) (by omega) (by omega)).mpr c_4
    refine lv_aload_n hx hb ndD_copy_7 rfl (lv_at hl 0 rfl) ?_
    refine va_get (D := D) (ci := 3) (v := .int (nI n)) (C := nR_D) (T := nT_D) (N := 11) hx hb hts in_D hown hK hP 0 rfl rfl 1 (by decide) (hts _ tb_249) (fun _ h9 => h9) rfl ndD_copy_8 ?_
    refine lv_aload_n hx hb ndD_copy_11 rfl (lv_at hl 0 rfl) ?_
    refine va_get (D := D) (ci := 3) (v := .int (nI wn)) (C := nR_D) (T := nT_D) (N := 11) hx hb hts in_D hown hK hP 0 rfl rfl 7 (by decide) (hts _ tb_255) (fun _ h9 => h9) rfl ndD_copy_12 ?_
    refine lv_iadd hx hb ndD_copy_15 ?_
    refine fd_asi (y := nI (n + wn)) (nI_add _ _) ?_
    refine lv_sipush (v := 400) hx hb ndD_copy_16 (by decide) ?_
    refine lv_icmp_le (tgt := 24) hx hb ndD_copy_19 (by decide) (fun c_19 => absurd c_19 (fun h9 => absurd ((nI_leI (a := (n + wn)) (b := 400) (by omega) (by omega)).mp h9) (by omega))) (fun _ => ?_)
    refine lv_iconst (v := 0) hx hb ndD_copy_22 (by decide) ?_
    exact fd_ret_i hx hb hr hlocks hS hP hD rfl (rfl) ndD_copy_23
set_option maxHeartbeats 4000000 in
set_option maxRecDepth 100000 in
theorem kD_copy_yes (l : Launch) (D : va_G) (Z : Nat → Nat) (cI cL : ClassId) {b0 b1 b2 b3 b4 n kd k od wn ok : Nat} {g go : Nat → Int32} {rn gn : Nat → Int64} {cf : Int32} (hn : n ≤ 400) (hkd : kd ≤ 15) (hk : k ≤ 20) (hwn : wn ≤ 123) (hod : od ≤ 15) (hok : ok ≤ 20) (h1 : ¬ od = 0) (hj : n + wn ≤ 400) : fd_Mi l D fd_cl (fd_ty cI cL) (fd_EV Z) nyD_copy (.code nyD_copy ncD_copy 2 (some .boolean) :: fd_TB) nmD_copy [.ref b0] [(b0, .inr (3, [.ref b1, .int (nI n), .int (nI kd), .int (nI k), .ref b2, .int (nI od), .int cf, .int (nI wn), .ref b3, .int (nI ok), .ref b4])), (b1, .inl (cI, 400, .inl g)), (b2, .inl (cL, 24, .inr (.inl rn))), (b3, .inl (cI, 200, .inl go)), (b4, .inl (cL, 24, .inr (.inl gn)))] [(b0, .inr (3, [.ref b1, .int (nI (n + wn)), .int (nI kd), .int (nI k), .ref b2, .int (nI od), .int cf, .int (nI wn), .ref b3, .int (nI ok), .ref b4])), (b1, .inl (cI, 400, .inl (fd_app g n go wn))), (b2, .inl (cL, 24, .inr (.inl rn))), (b3, .inl (cI, 200, .inl go)), (b4, .inl (cL, 24, .inr (.inl gn)))] 1 := by
  refine fd_open_i (cc := ncD_copy) (maxL := 2) (ret := (some .boolean)) (by decide) rfl (Nat.le_of_ble_eq_true rfl) ?_
  intro p e s m below meth c A ls X hP hD hS hl
  obtain ⟨hx, hb, hr, hml, hown, hts0, hlocks, hK, hEV, hA⟩ := X
  have hts : ∀ w ∈ fd_TB, w.before _ s = true := fun w h => hts0 w (List.mem_cons_of_mem _ h)
  have hE := fd_EV_ok Z
  have hown : s.vm.findClass "FieldDeskModel" = some m.cls := hown
  have hl : lv_has ls 2 [(0, .ref b0)] := hl
  refine lv_aload_n hx hb ndD_copy_0 rfl (lv_at hl 0 rfl) ?_
  refine va_get (D := D) (ci := 3) (v := .int (nI od)) (C := nR_D) (T := nT_D) (N := 11) hx hb hts in_D hown hK hP 0 rfl rfl 5 (by decide) (hts _ tb_253) (fun _ h9 => h9) rfl ndD_copy_1 ?_
  refine lv_if_eq (tgt := 22) hx hb ndD_copy_4 (by decide) (fun c_4 => absurd c_4 (fun h9 => absurd ((nI_eq (a := od) (b := 0) (by omega) (by omega)).mp h9) (by omega))) (fun _ => ?_)
  refine lv_aload_n hx hb ndD_copy_7 rfl (lv_at hl 0 rfl) ?_
  refine va_get (D := D) (ci := 3) (v := .int (nI n)) (C := nR_D) (T := nT_D) (N := 11) hx hb hts in_D hown hK hP 0 rfl rfl 1 (by decide) (hts _ tb_249) (fun _ h9 => h9) rfl ndD_copy_8 ?_
  refine lv_aload_n hx hb ndD_copy_11 rfl (lv_at hl 0 rfl) ?_
  refine va_get (D := D) (ci := 3) (v := .int (nI wn)) (C := nR_D) (T := nT_D) (N := 11) hx hb hts in_D hown hK hP 0 rfl rfl 7 (by decide) (hts _ tb_255) (fun _ h9 => h9) rfl ndD_copy_12 ?_
  refine lv_iadd hx hb ndD_copy_15 ?_
  refine fd_asi (y := nI (n + wn)) (nI_add _ _) ?_
  refine lv_sipush (v := 400) hx hb ndD_copy_16 (by decide) ?_
  refine lv_icmp_le (tgt := 24) hx hb ndD_copy_19 (by decide) (fun _ => ?_) (fun c_19 => absurd ((nI_leI (a := (n + wn)) (b := 400) (by omega) (by omega)).mpr (by omega)) c_19)
  refine lv_iconst (v := 0) hx hb ndD_copy_24 (by decide) ?_
  refine lv_istore_n (lv' := [(1, .int 0), (0, .ref b0)]) hx hb ndD_copy_25 rfl hl (by decide) rfl (fun ls hl => ?_)
  have loop : ∀ (z : Nat) (i : Nat) (hi : i + z = wn) (H : Heap) (locs : List Loc) (ls : Array Slot), va_P D fd_cl [(b0, .inr (3, [.ref b1, .int (nI n), .int (nI kd), .int (nI k), .ref b2, .int (nI od), .int cf, .int (nI wn), .ref b3, .int (nI ok), .ref b4])), (b1, .inl (cI, 400, .inl (fd_app g n go i))), (b2, .inl (cL, 24, .inr (.inl rn))), (b3, .inl (cI, 200, .inl go)), (b4, .inl (cL, 24, .inr (.inl gn)))] H → va_D A [(b0, .inr (3, [.ref b1, .int (nI n), .int (nI kd), .int (nI k), .ref b2, .int (nI od), .int cf, .int (nI wn), .ref b3, .int (nI ok), .ref b4])), (b1, .inl (cI, 400, .inl (fd_app g n go i))), (b2, .inl (cL, 24, .inr (.inl rn))), (b3, .inl (cI, 200, .inl go)), (b4, .inl (cL, 24, .inr (.inl gn)))] → va_S A s.heap H locs → lv_has ls 2 [(0, .ref b0), (1, .int (nI i))] → W p l e nmD_copy s m ([.ref b0].toArray) below meth c H locs 0 0 (MQ below (va_Qi (fun r' (_ : Unit) => r' = 1) (fd_B D fd_cl A [(b0, .inr (3, [.ref b1, .int (nI (n + wn)), .int (nI kd), .int (nI k), .ref b2, .int (nI od), .int cf, .int (nI wn), .ref b3, .int (nI ok), .ref b4])), (b1, .inl (cI, 400, .inl (fd_app g n go wn))), (b2, .inl (cL, 24, .inr (.inl rn))), (b3, .inl (cI, 200, .inl go)), (b4, .inl (cL, 24, .inr (.inl gn)))]) A) [.ref b0].toArray s 0 0 A) (F0 m 26 ls []) := by
    intro z
    induction z with
    | zero =>
      intro i hi H locs ls hP hD hS hl
      have e9 : wn = i := by omega
      subst e9
      refine lv_iload_n hx hb ndD_copy_26 rfl (lv_at hl 1 rfl) ?_
      refine lv_aload_n hx hb ndD_copy_27 rfl (lv_at hl 0 rfl) ?_
      refine va_get (D := D) (ci := 3) (v := .int (nI wn)) (C := nR_D) (T := nT_D) (N := 11) hx hb hts in_D hown hK hP 0 rfl rfl 7 (by decide) (hts _ tb_255) (fun _ h9 => h9) rfl ndD_copy_28 ?_
      refine lv_icmp_ge (tgt := 57) hx hb ndD_copy_31 (by decide) (fun _ => ?_) (fun c_31 => absurd ((nI_leI (a := wn) (b := wn) (by omega) (by omega)).mpr (by omega)) c_31)
      refine lv_aload_n hx hb ndD_copy_57 rfl (lv_at hl 0 rfl) ?_
      refine lv_aload_n hx hb ndD_copy_58 rfl (lv_at hl 0 rfl) ?_
      refine va_get (D := D) (ci := 3) (v := .int (nI n)) (C := nR_D) (T := nT_D) (N := 11) hx hb hts in_D hown hK hP 0 rfl rfl 1 (by decide) (hts _ tb_249) (fun _ h9 => h9) rfl ndD_copy_59 ?_
      refine lv_aload_n hx hb ndD_copy_62 rfl (lv_at hl 0 rfl) ?_
      refine va_get (D := D) (ci := 3) (v := .int (nI wn)) (C := nR_D) (T := nT_D) (N := 11) hx hb hts in_D hown hK hP 0 rfl rfl 7 (by decide) (hts _ tb_255) (fun _ h9 => h9) rfl ndD_copy_63 ?_
      refine lv_iadd hx hb ndD_copy_66 ?_
      refine fd_asi (y := nI (n + wn)) (nI_add _ _) ?_
      refine va_put (D := D) (ci := 3) (v := .int (nI (n + wn))) (ty := (.int)) (C := nR_D) (T := nT_D) (N := 11) hx hb hts in_D nt_D nt_D_ok nn_D hown hK hP hD hS 0 rfl rfl 1 (by decide) (hts _ tb_249) (fun _ h9 => h9) rfl (by decide +kernel) rfl rfl (Nat.le_of_ble_eq_true rfl) ndD_copy_67 (fun H locs hP hD hS => ?_)
      have hP : va_P D fd_cl [(b0, .inr (3, [.ref b1, .int (nI (n + wn)), .int (nI kd), .int (nI k), .ref b2, .int (nI od), .int cf, .int (nI wn), .ref b3, .int (nI ok), .ref b4])), (b1, .inl (cI, 400, .inl (fd_app g n go wn))), (b2, .inl (cL, 24, .inr (.inl rn))), (b3, .inl (cI, 200, .inl go)), (b4, .inl (cL, 24, .inr (.inl gn)))] H := hP
      have hD : va_D A [(b0, .inr (3, [.ref b1, .int (nI (n + wn)), .int (nI kd), .int (nI k), .ref b2, .int (nI od), .int cf, .int (nI wn), .ref b3, .int (nI ok), .ref b4])), (b1, .inl (cI, 400, .inl (fd_app g n go wn))), (b2, .inl (cL, 24, .inr (.inl rn))), (b3, .inl (cI, 200, .inl go)), (b4, .inl (cL, 24, .inr (.inl gn)))] := hD
      refine lv_iconst (v := 1) hx hb ndD_copy_70 (by decide) ?_
      exact fd_ret_i hx hb hr hlocks hS hP hD rfl (rfl) ndD_copy_71
    | succ z ih =>
      intro i hi H locs ls hP hD hS hl
      refine lv_iload_n hx hb ndD_copy_26 rfl (lv_at hl 1 rfl) ?_
      refine lv_aload_n hx hb ndD_copy_27 rfl (lv_at hl 0 rfl) ?_
      refine va_get (D := D) (ci := 3) (v := .int (nI wn)) (C := nR_D) (T := nT_D) (N := 11) hx hb hts in_D hown hK hP 0 rfl rfl 7 (by decide) (hts _ tb_255) (fun _ h9 => h9) rfl ndD_copy_28 ?_
      refine lv_icmp_ge (tgt := 57) hx hb ndD_copy_31 (by decide) (fun c_31 => absurd c_31 (fun h9 => absurd ((nI_leI (a := wn) (b := i) (by omega) (by omega)).mp h9) (by omega))) (fun _ => ?_)
      refine lv_aload_n hx hb ndD_copy_34 rfl (lv_at hl 0 rfl) ?_
      refine va_get (D := D) (ci := 3) (v := .ref b1) (C := nR_D) (T := nT_D) (N := 11) hx hb hts in_D hown hK hP 0 rfl rfl 0 (by decide) (hts _ tb_248) (fun _ h9 => h9) rfl ndD_copy_35 ?_
      refine lv_aload_n hx hb ndD_copy_38 rfl (lv_at hl 0 rfl) ?_
      refine va_get (D := D) (ci := 3) (v := .int (nI n)) (C := nR_D) (T := nT_D) (N := 11) hx hb hts in_D hown hK hP 0 rfl rfl 1 (by decide) (hts _ tb_249) (fun _ h9 => h9) rfl ndD_copy_39 ?_
      refine lv_iload_n hx hb ndD_copy_42 rfl (lv_at hl 1 rfl) ?_
      refine lv_iadd hx hb ndD_copy_43 ?_
      refine fd_asi (y := nI (n + i)) (nI_add _ _) ?_
      refine lv_aload_n hx hb ndD_copy_44 rfl (lv_at hl 0 rfl) ?_
      refine va_get (D := D) (ci := 3) (v := .ref b3) (C := nR_D) (T := nT_D) (N := 11) hx hb hts in_D hown hK hP 0 rfl rfl 8 (by decide) (hts _ tb_256) (fun _ h9 => h9) rfl ndD_copy_45 ?_
      refine lv_iload_n hx hb ndD_copy_48 rfl (lv_at hl 1 rfl) ?_
      refine fd_iald hx hb hK hP 3 0 (k := i) rfl rfl (by omega) (by omega) ndD_copy_49 ?_
      refine fd_iast hx hb hK hP hD hS 1 0 (k := (n + i)) rfl rfl (by omega) (by omega) ndD_copy_50 (fun H locs hP hD hS => ?_)
      have hP : va_P D fd_cl [(b0, .inr (3, [.ref b1, .int (nI n), .int (nI kd), .int (nI k), .ref b2, .int (nI od), .int cf, .int (nI wn), .ref b3, .int (nI ok), .ref b4])), (b1, .inl (cI, 400, .inl (upd (fd_app g n go i) (n + i) (go i)))), (b2, .inl (cL, 24, .inr (.inl rn))), (b3, .inl (cI, 200, .inl go)), (b4, .inl (cL, 24, .inr (.inl gn)))] H := hP
      have hD : va_D A [(b0, .inr (3, [.ref b1, .int (nI n), .int (nI kd), .int (nI k), .ref b2, .int (nI od), .int cf, .int (nI wn), .ref b3, .int (nI ok), .ref b4])), (b1, .inl (cI, 400, .inl (upd (fd_app g n go i) (n + i) (go i)))), (b2, .inl (cL, 24, .inr (.inl rn))), (b3, .inl (cI, 200, .inl go)), (b4, .inl (cL, 24, .inr (.inl gn)))] := hD
      refine lv_iinc (v := nI (i + 1)) (lv' := [(1, .int (nI (i + 1))), (0, .ref b0)]) hx hb ndD_copy_51 hl (k := 1) rfl (nI_1 i) (by decide) rfl (fun ls hl => ?_)
      refine lv_goto (tgt := 26) hx hb ndD_copy_54 (by decide) ?_
      rw [fd_app_s] at hP hD
      exact ih (i + 1) (by omega) _ _ _ hP hD hS (lv_sub hl [1, 0] rfl)
  rw [← fd_app_0 g n go] at hP hD
  exact loop wn 0 (by omega) _ _ _ hP hD hS (lv_sub hl [1, 0] rfl)
set_option maxHeartbeats 4000000 in
set_option maxRecDepth 100000 in
theorem kD_fault (l : Launch) (D : va_G) (Z : Nat → Nat) (cI cL : ClassId) {b0 b1 b2 b3 b4 n kd k od wn ok : Nat} {g go : Nat → Int32} {rn gn : Nat → Int64} {cf : Int32} (hn : n ≤ 400) (hkd : kd ≤ 15) (hk : k ≤ 20) (hwn : wn ≤ 123) (hod : od ≤ 15) (hok : ok ≤ 20) {p1 : Nat} : fd_Mi l D fd_cl (fd_ty cI cL) (fd_EV Z) nyD_fault (.code nyD_fault ncD_fault 2 (some .int) :: fd_TB) nmD_fault [.ref b0, .int (nI p1)] [(b0, .inr (3, [.ref b1, .int (nI n), .int (nI kd), .int (nI k), .ref b2, .int (nI od), .int cf, .int (nI wn), .ref b3, .int (nI ok), .ref b4])), (b1, .inl (cI, 400, .inl g)), (b2, .inl (cL, 24, .inr (.inl rn))), (b3, .inl (cI, 200, .inl go)), (b4, .inl (cL, 24, .inr (.inl gn)))] [(b0, .inr (3, [.ref b1, .int (nI 0), .int (nI 0), .int (nI 0), .ref b2, .int (nI od), .int cf, .int (nI wn), .ref b3, .int (nI ok), .ref b4])), (b1, .inl (cI, 400, .inl g)), (b2, .inl (cL, 24, .inr (.inl rn))), (b3, .inl (cI, 200, .inl go)), (b4, .inl (cL, 24, .inr (.inl gn)))] ((-1) - nI p1) := by
  refine fd_open_i (cc := ncD_fault) (maxL := 2) (ret := (some .int)) (by decide) rfl (Nat.le_of_ble_eq_true rfl) ?_
  intro p e s m below meth c A ls X hP hD hS hl
  obtain ⟨hx, hb, hr, hml, hown, hts0, hlocks, hK, hEV, hA⟩ := X
  have hts : ∀ w ∈ fd_TB, w.before _ s = true := fun w h => hts0 w (List.mem_cons_of_mem _ h)
  have hE := fd_EV_ok Z
  have hown : s.vm.findClass "FieldDeskModel" = some m.cls := hown
  have hl : lv_has ls 2 [(0, .ref b0), (1, .int (nI p1))] := hl
  refine lv_aload_n hx hb ndD_fault_0 rfl (lv_at hl 0 rfl) ?_
  refine lv_iconst (v := 0) hx hb ndD_fault_1 (by decide) ?_
  refine fd_asi (y := nI 0) nI_0.symm ?_
  refine va_put (D := D) (ci := 3) (v := .int (nI 0)) (ty := (.int)) (C := nR_D) (T := nT_D) (N := 11) hx hb hts in_D nt_D nt_D_ok nn_D hown hK hP hD hS 0 rfl rfl 1 (by decide) (hts _ tb_249) (fun _ h9 => h9) rfl (by decide +kernel) rfl rfl (Nat.le_of_ble_eq_true rfl) ndD_fault_2 (fun H locs hP hD hS => ?_)
  have hP : va_P D fd_cl [(b0, .inr (3, [.ref b1, .int (nI 0), .int (nI kd), .int (nI k), .ref b2, .int (nI od), .int cf, .int (nI wn), .ref b3, .int (nI ok), .ref b4])), (b1, .inl (cI, 400, .inl g)), (b2, .inl (cL, 24, .inr (.inl rn))), (b3, .inl (cI, 200, .inl go)), (b4, .inl (cL, 24, .inr (.inl gn)))] H := hP
  have hD : va_D A [(b0, .inr (3, [.ref b1, .int (nI 0), .int (nI kd), .int (nI k), .ref b2, .int (nI od), .int cf, .int (nI wn), .ref b3, .int (nI ok), .ref b4])), (b1, .inl (cI, 400, .inl g)), (b2, .inl (cL, 24, .inr (.inl rn))), (b3, .inl (cI, 200, .inl go)), (b4, .inl (cL, 24, .inr (.inl gn)))] := hD
  refine lv_aload_n hx hb ndD_fault_5 rfl (lv_at hl 0 rfl) ?_
  refine lv_iconst (v := 0) hx hb ndD_fault_6 (by decide) ?_
  refine fd_asi (y := nI 0) nI_0.symm ?_
  refine va_put (D := D) (ci := 3) (v := .int (nI 0)) (ty := (.int)) (C := nR_D) (T := nT_D) (N := 11) hx hb hts in_D nt_D nt_D_ok nn_D hown hK hP hD hS 0 rfl rfl 2 (by decide) (hts _ tb_250) (fun _ h9 => h9) rfl (by decide +kernel) rfl rfl (Nat.le_of_ble_eq_true rfl) ndD_fault_7 (fun H locs hP hD hS => ?_)
  have hP : va_P D fd_cl [(b0, .inr (3, [.ref b1, .int (nI 0), .int (nI 0), .int (nI k), .ref b2, .int (nI od), .int cf, .int (nI wn), .ref b3, .int (nI ok), .ref b4])), (b1, .inl (cI, 400, .inl g)), (b2, .inl (cL, 24, .inr (.inl rn))), (b3, .inl (cI, 200, .inl go)), (b4, .inl (cL, 24, .inr (.inl gn)))] H := hP
  have hD : va_D A [(b0, .inr (3, [.ref b1, .int (nI 0), .int (nI 0), .int (nI k), .ref b2, .int (nI od), .int cf, .int (nI wn), .ref b3, .int (nI ok), .ref b4])), (b1, .inl (cI, 400, .inl g)), (b2, .inl (cL, 24, .inr (.inl rn))), (b3, .inl (cI, 200, .inl go)), (b4, .inl (cL, 24, .inr (.inl gn)))] := hD
  refine lv_aload_n hx hb ndD_fault_10 rfl (lv_at hl 0 rfl) ?_
  refine lv_iconst (v := 0) hx hb ndD_fault_11 (by decide) ?_
  refine fd_asi (y := nI 0) nI_0.symm ?_
  refine va_put (D := D) (ci := 3) (v := .int (nI 0)) (ty := (.int)) (C := nR_D) (T := nT_D) (N := 11) hx hb hts in_D nt_D nt_D_ok nn_D hown hK hP hD hS 0 rfl rfl 3 (by decide) (hts _ tb_251) (fun _ h9 => h9) rfl (by decide +kernel) rfl rfl (Nat.le_of_ble_eq_true rfl) ndD_fault_12 (fun H locs hP hD hS => ?_)
  have hP : va_P D fd_cl [(b0, .inr (3, [.ref b1, .int (nI 0), .int (nI 0), .int (nI 0), .ref b2, .int (nI od), .int cf, .int (nI wn), .ref b3, .int (nI ok), .ref b4])), (b1, .inl (cI, 400, .inl g)), (b2, .inl (cL, 24, .inr (.inl rn))), (b3, .inl (cI, 200, .inl go)), (b4, .inl (cL, 24, .inr (.inl gn)))] H := hP
  have hD : va_D A [(b0, .inr (3, [.ref b1, .int (nI 0), .int (nI 0), .int (nI 0), .ref b2, .int (nI od), .int cf, .int (nI wn), .ref b3, .int (nI ok), .ref b4])), (b1, .inl (cI, 400, .inl g)), (b2, .inl (cL, 24, .inr (.inl rn))), (b3, .inl (cI, 200, .inl go)), (b4, .inl (cL, 24, .inr (.inl gn)))] := hD
  refine lv_iconst (v := (-1)) hx hb ndD_fault_15 (by decide) ?_
  refine lv_iload_n hx hb ndD_fault_16 rfl (lv_at hl 1 rfl) ?_
  refine lv_isub hx hb ndD_fault_17 ?_
  exact fd_ret_i hx hb hr hlocks hS hP hD rfl (rfl) ndD_fault_18
