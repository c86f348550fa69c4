/-! the reference: read -/
set_option maxHeartbeats 4000000 in
set_option maxRecDepth 100000 in
theorem kD_read_0 (l : Launch) (D : va_G) (Z : Nat → Nat) (cI cL : ClassId) {b0 b1 b2 b3 b4 n kd k od wn ok : Nat} {g go : Nat → Int32} {rn gn : Nat → Int64} {cf : Int32} (hn : n ≤ 400) (hkd : kd ≤ 15) (hk : k ≤ 20) (hwn : wn ≤ 123) (hod : od ≤ 15) (hok : ok ≤ 20) (g1 : fd_kn g n 1 = 0) (hnj : 0 ≤ n) : fd_Mi l D fd_cl (fd_ty cI cL) (fd_EV Z) nyD_read (.code nyD_read ncD_read 6 (some .int) :: fd_TB) nmD_read [.ref b0] [(b0, .inr (3, [.ref b1, .int (nI n), .int (nI kd), .int (nI k), .ref b2, .int (nI od), .int cf, .int (nI wn), .ref b3, .int (nI ok), .ref b4])), (b1, .inl (cI, 400, .inl g)), (b2, .inl (cL, 24, .inr (.inl rn))), (b3, .inl (cI, 200, .inl go)), (b4, .inl (cL, 24, .inr (.inl gn)))] [(b0, .inr (3, [.ref b1, .int (nI 0), .int (nI 0), .int (nI 0), .ref b2, .int (nI od), .int cf, .int (nI wn), .ref b3, .int (nI ok), .ref b4])), (b1, .inl (cI, 400, .inl g)), (b2, .inl (cL, 24, .inr (.inl rn))), (b3, .inl (cI, 200, .inl go)), (b4, .inl (cL, 24, .inr (.inl gn)))] ((-1) - nI 0) := by
  have K1 := fd_kn_le g n 1
  have K2 := fd_kn_le g n 2
  have K3 := fd_kn_le g n 3
  refine fd_open_i (cc := ncD_read) (maxL := 6) (ret := (some .int)) (by decide) rfl (Nat.le_of_ble_eq_true rfl) ?_
  intro p e s m below meth c A ls X hP hD hS hl
  obtain ⟨hx, hb, hr, hml, hown, hts0, hlocks, hK, hEV, hA⟩ := X
  have hts : ∀ w ∈ fd_TB, w.before _ s = true := fun w h => hts0 w (List.mem_cons_of_mem _ h)
  have hE := fd_EV_ok Z
  have hown : s.vm.findClass "FieldDeskModel" = some m.cls := hown
  have hl : lv_has ls 6 [(0, .ref b0)] := hl
  refine lv_iconst (v := 0) hx hb ndD_read_0 (by decide) ?_
  refine lv_istore_n (lv' := [(1, .int 0), (0, .ref b0)]) hx hb ndD_read_1 rfl hl (by decide) rfl (fun ls hl => ?_)
  refine lv_iconst (v := 0) hx hb ndD_read_2 (by decide) ?_
  refine lv_istore_n (lv' := [(2, .int 0), (1, .int 0), (0, .ref b0)]) hx hb ndD_read_3 rfl hl (by decide) rfl (fun ls hl => ?_)
  refine lv_iload_n hx hb ndD_read_4 rfl (lv_at hl 0 rfl) ?_
  refine lv_iconst (v := 3) hx hb ndD_read_5 (by decide) ?_
  refine lv_icmp_ge (tgt := 50) hx hb ndD_read_6 (by decide) (fun c_6 => absurd c_6 (by decide)) (fun _ => ?_)
  refine lv_iload_n hx hb ndD_read_9 rfl (lv_at hl 0 rfl) ?_
  refine lv_aload_n hx hb ndD_read_10 rfl (lv_at hl 2 rfl) ?_
  refine va_get (D := D) (ci := 3) (v := .int (nI n)) (C := nR_D) (T := nT_D) (N := 11) hx hb hts in_D hown hK hP 0 rfl rfl 1 (by decide) (hts _ tb_249) (fun _ h9 => h9) rfl ndD_read_11 ?_
  refine lv_icmp_eq (tgt := 27) hx hb ndD_read_14 (by decide) (fun c_14 => ?_) (fun c_14 => ?_)
  · have n_14 := (nI_eq (a := 0) (b := n) (by omega) (by omega)).mp c_14
    refine lv_aload_n hx hb ndD_read_27 rfl (lv_at hl 2 rfl) ?_
    refine lv_iload_n hx hb ndD_read_28 rfl (lv_at hl 0 rfl) ?_
    refine fd_go_i (wr := []) (w2 := [(b0, .inr (3, [.ref b1, .int (nI 0), .int (nI 0), .int (nI 0), .ref b2, .int (nI od), .int cf, .int (nI wn), .ref b3, .int (nI ok), .ref b4])), (b1, .inl (cI, 400, .inl g)), (b2, .inl (cL, 24, .inr (.inl rn))), (b3, .inl (cI, 200, .inl go)), (b4, .inl (cL, 24, .inr (.inl gn)))]) (va_runV (As := [.int 0]) (rest := []) ⟨hx, hb, hml, hown, hts⟩ (kD_fault l D Z cI cL (n := n) (g := g) (kd := kd) (k := k) (rn := rn) (od := od) (cf := cf) (wn := wn) (go := go) (ok := ok) (gn := gn) (by omega) (by omega) (by omega) (by omega) (by omega) (by omega) (p1 := 0) s.heap.size) (cwV 1 hts (fd_gV tb_285 tb_286 tb_9 tb_16 tb_287) rfl rfl rfl nhD_fault ⟨(Nat.le_of_ble_eq_true rfl), (Nat.le_of_ble_eq_true rfl)⟩) (fd_PreV hE hK hEV hA hP hD hS [0, 1, 2, 3, 4] rfl (by decide) (ci := 3) (q0 := 0) rfl rfl) rfl rfl hl.1 rfl (lv_room (Nat.le_of_ble_eq_true rfl)) ndD_read_29 ⟨(Nat.le_of_ble_eq_true rfl), (Nat.le_of_ble_eq_true rfl)⟩) hP hD hS hA [0, 1, 2, 3, 4] [] rfl rfl (by decide) (by decide) [0, 1, 2, 3, 4] rfl (by decide) (fun H locs hP hD hS => ?_)
    exact fd_ret_i hx hb hr hlocks hS hP hD rfl (rfl) ndD_read_32
  · have n_14 := mt (nI_eq (a := 0) (b := n) (by omega) (by omega)).mpr c_14
    refine lv_aload_n hx hb ndD_read_17 rfl (lv_at hl 2 rfl) ?_
    refine lv_iload_n hx hb ndD_read_18 rfl (lv_at hl 0 rfl) ?_
    refine lv_iconst (v := 1) hx hb ndD_read_19 (by decide) ?_
    refine lv_iadd hx hb ndD_read_20 ?_
    refine fd_asi (y := nI 1) (by decide) ?_
    refine fd_go_i (wr := []) (w2 := [(b0, .inr (3, [.ref b1, .int (nI n), .int (nI kd), .int (nI k), .ref b2, .int (nI od), .int cf, .int (nI wn), .ref b3, .int (nI ok), .ref b4])), (b1, .inl (cI, 400, .inl g)), (b2, .inl (cL, 24, .inr (.inl rn))), (b3, .inl (cI, 200, .inl go)), (b4, .inl (cL, 24, .inr (.inl gn)))]) (va_runV (As := [.int (nI 1)]) (rest := []) ⟨hx, hb, hml, hown, hts⟩ (kD_kindOf l D Z cI cL (n := n) (g := g) (kd := kd) (k := k) (rn := rn) (od := od) (cf := cf) (wn := wn) (go := go) (ok := ok) (gn := gn) (by omega) (by omega) (by omega) (by omega) (by omega) (by omega) (sg := 1) (by omega) (by omega) s.heap.size) (cwV 1 hts (fd_gV tb_279 tb_280 tb_8 tb_16 tb_281) rfl rfl rfl nhD_kindOf ⟨(Nat.le_of_ble_eq_true rfl), (Nat.le_of_ble_eq_true rfl)⟩) (fd_PreV hE hK hEV hA hP hD hS [0, 1, 2, 3, 4] rfl (by decide) (ci := 3) (q0 := 0) rfl rfl) rfl rfl hl.1 rfl (lv_room (Nat.le_of_ble_eq_true rfl)) ndD_read_21 ⟨(Nat.le_of_ble_eq_true rfl), (Nat.le_of_ble_eq_true rfl)⟩) hP hD hS hA [0, 1, 2, 3, 4] [] rfl rfl (by decide) (by decide) [0, 1, 2, 3, 4] rfl (by decide) (fun H locs hP hD hS => ?_)
    refine lv_if_ne (tgt := 33) hx hb ndD_read_24 (by decide) (fun c_24 => absurd ((nI_eq (a := (fd_kn g n 1)) (b := 0) (by omega) (by omega)).mpr (by omega)) c_24) (fun _ => ?_)
    refine lv_aload_n hx hb ndD_read_27 rfl (lv_at hl 2 rfl) ?_
    refine lv_iload_n hx hb ndD_read_28 rfl (lv_at hl 0 rfl) ?_
    refine fd_go_i (wr := []) (w2 := [(b0, .inr (3, [.ref b1, .int (nI 0), .int (nI 0), .int (nI 0), .ref b2, .int (nI od), .int cf, .int (nI wn), .ref b3, .int (nI ok), .ref b4])), (b1, .inl (cI, 400, .inl g)), (b2, .inl (cL, 24, .inr (.inl rn))), (b3, .inl (cI, 200, .inl go)), (b4, .inl (cL, 24, .inr (.inl gn)))]) (va_runV (As := [.int 0]) (rest := []) ⟨hx, hb, hml, hown, hts⟩ (kD_fault l D Z cI cL (n := n) (g := g) (kd := kd) (k := k) (rn := rn) (od := od) (cf := cf) (wn := wn) (go := go) (ok := ok) (gn := gn) (by omega) (by omega) (by omega) (by omega) (by omega) (by omega) (p1 := 0) H.size) (cwV 1 hts (fd_gV tb_285 tb_286 tb_9 tb_16 tb_287) rfl rfl rfl nhD_fault ⟨(Nat.le_of_ble_eq_true rfl), (Nat.le_of_ble_eq_true rfl)⟩) (fd_PreV hE hK hEV hA hP hD hS [0, 1, 2, 3, 4] rfl (by decide) (ci := 3) (q0 := 0) rfl rfl) rfl rfl hl.1 rfl (lv_room (Nat.le_of_ble_eq_true rfl)) ndD_read_29 ⟨(Nat.le_of_ble_eq_true rfl), (Nat.le_of_ble_eq_true rfl)⟩) hP hD hS hA [0, 1, 2, 3, 4] [] rfl rfl (by decide) (by decide) [0, 1, 2, 3, 4] rfl (by decide) (fun H locs hP hD hS => ?_)
    exact fd_ret_i hx hb hr hlocks hS hP hD rfl (rfl) ndD_read_32
set_option maxHeartbeats 4000000 in
set_option maxRecDepth 100000 in
theorem kD_read_1 (l : Launch) (D : va_G) (Z : Nat → Nat) (cI cL : ClassId) {b0 b1 b2 b3 b4 n kd k od wn ok : Nat} {g go : Nat → Int32} {rn gn : Nat → Int64} {cf : Int32} (hn : n ≤ 400) (hkd : kd ≤ 15) (hk : k ≤ 20) (hwn : wn ≤ 123) (hod : od ≤ 15) (hok : ok ≤ 20) (g1 : ¬ fd_kn g n 1 = 0) (g2 : fd_kn g n 2 = 0) (hnj : 1 ≤ n) : fd_Mi l D fd_cl (fd_ty cI cL) (fd_EV Z) nyD_read (.code nyD_read ncD_read 6 (some .int) :: fd_TB) nmD_read [.ref b0] [(b0, .inr (3, [.ref b1, .int (nI n), .int (nI kd), .int (nI k), .ref b2, .int (nI od), .int cf, .int (nI wn), .ref b3, .int (nI ok), .ref b4])), (b1, .inl (cI, 400, .inl g)), (b2, .inl (cL, 24, .inr (.inl rn))), (b3, .inl (cI, 200, .inl go)), (b4, .inl (cL, 24, .inr (.inl gn)))] [(b0, .inr (3, [.ref b1, .int (nI 0), .int (nI 0), .int (nI 0), .ref b2, .int (nI od), .int cf, .int (nI wn), .ref b3, .int (nI ok), .ref b4])), (b1, .inl (cI, 400, .inl g)), (b2, .inl (cL, 24, .inr (.inl rn))), (b3, .inl (cI, 200, .inl go)), (b4, .inl (cL, 24, .inr (.inl gn)))] ((-1) - nI 1) := by
  have K1 := fd_kn_le g n 1
  have K2 := fd_kn_le g n 2
  have K3 := fd_kn_le g n 3
  refine fd_open_i (cc := ncD_read) (maxL := 6) (ret := (some .int)) (by decide) rfl (Nat.le_of_ble_eq_true rfl) ?_
  intro p e s m below meth c A ls X hP hD hS hl
  obtain ⟨hx, hb, hr, hml, hown, hts0, hlocks, hK, hEV, hA⟩ := X
  have hts : ∀ w ∈ fd_TB, w.before _ s = true := fun w h => hts0 w (List.mem_cons_of_mem _ h)
  have hE := fd_EV_ok Z
  have hown : s.vm.findClass "FieldDeskModel" = some m.cls := hown
  have hl : lv_has ls 6 [(0, .ref b0)] := hl
  refine lv_iconst (v := 0) hx hb ndD_read_0 (by decide) ?_
  refine lv_istore_n (lv' := [(1, .int 0), (0, .ref b0)]) hx hb ndD_read_1 rfl hl (by decide) rfl (fun ls hl => ?_)
  refine lv_iconst (v := 0) hx hb ndD_read_2 (by decide) ?_
  refine lv_istore_n (lv' := [(2, .int 0), (1, .int 0), (0, .ref b0)]) hx hb ndD_read_3 rfl hl (by decide) rfl (fun ls hl => ?_)
  refine lv_iload_n hx hb ndD_read_4 rfl (lv_at hl 0 rfl) ?_
  refine lv_iconst (v := 3) hx hb ndD_read_5 (by decide) ?_
  refine lv_icmp_ge (tgt := 50) hx hb ndD_read_6 (by decide) (fun c_6 => absurd c_6 (by decide)) (fun _ => ?_)
  refine lv_iload_n hx hb ndD_read_9 rfl (lv_at hl 0 rfl) ?_
  refine lv_aload_n hx hb ndD_read_10 rfl (lv_at hl 2 rfl) ?_
  refine va_get (D := D) (ci := 3) (v := .int (nI n)) (C := nR_D) (T := nT_D) (N := 11) hx hb hts in_D hown hK hP 0 rfl rfl 1 (by decide) (hts _ tb_249) (fun _ h9 => h9) rfl ndD_read_11 ?_
  refine lv_icmp_eq (tgt := 27) hx hb ndD_read_14 (by decide) (fun c_14 => absurd c_14 (fun h9 => absurd ((nI_eq (a := 0) (b := n) (by omega) (by omega)).mp h9) (by omega))) (fun _ => ?_)
  refine lv_aload_n hx hb ndD_read_17 rfl (lv_at hl 2 rfl) ?_
  refine lv_iload_n hx hb ndD_read_18 rfl (lv_at hl 0 rfl) ?_
  refine lv_iconst (v := 1) hx hb ndD_read_19 (by decide) ?_
  refine lv_iadd hx hb ndD_read_20 ?_
  refine fd_asi (y := nI 1) (by decide) ?_
  refine fd_go_i (wr := []) (w2 := [(b0, .inr (3, [.ref b1, .int (nI n), .int (nI kd), .int (nI k), .ref b2, .int (nI od), .int cf, .int (nI wn), .ref b3, .int (nI ok), .ref b4])), (b1, .inl (cI, 400, .inl g)), (b2, .inl (cL, 24, .inr (.inl rn))), (b3, .inl (cI, 200, .inl go)), (b4, .inl (cL, 24, .inr (.inl gn)))]) (va_runV (As := [.int (nI 1)]) (rest := []) ⟨hx, hb, hml, hown, hts⟩ (kD_kindOf l D Z cI cL (n := n) (g := g) (kd := kd) (k := k) (rn := rn) (od := od) (cf := cf) (wn := wn) (go := go) (ok := ok) (gn := gn) (by omega) (by omega) (by omega) (by omega) (by omega) (by omega) (sg := 1) (by omega) (by omega) s.heap.size) (cwV 1 hts (fd_gV tb_279 tb_280 tb_8 tb_16 tb_281) rfl rfl rfl nhD_kindOf ⟨(Nat.le_of_ble_eq_true rfl), (Nat.le_of_ble_eq_true rfl)⟩) (fd_PreV hE hK hEV hA hP hD hS [0, 1, 2, 3, 4] rfl (by decide) (ci := 3) (q0 := 0) rfl rfl) rfl rfl hl.1 rfl (lv_room (Nat.le_of_ble_eq_true rfl)) ndD_read_21 ⟨(Nat.le_of_ble_eq_true rfl), (Nat.le_of_ble_eq_true rfl)⟩) hP hD hS hA [0, 1, 2, 3, 4] [] rfl rfl (by decide) (by decide) [0, 1, 2, 3, 4] rfl (by decide) (fun H locs hP hD hS => ?_)
  refine lv_if_ne (tgt := 33) hx hb ndD_read_24 (by decide) (fun _ => ?_) (fun c_24 => absurd c_24 (fun h9 => absurd ((nI_eq (a := (fd_kn g n 1)) (b := 0) (by omega) (by omega)).mp h9) (by omega)))
  refine lv_iload_n hx hb ndD_read_33 rfl (lv_at hl 1 rfl) ?_
  refine lv_aload_n hx hb ndD_read_34 rfl (lv_at hl 2 rfl) ?_
  refine va_get (D := D) (ci := 3) (v := .ref b1) (C := nR_D) (T := nT_D) (N := 11) hx hb hts in_D hown hK hP 0 rfl rfl 0 (by decide) (hts _ tb_248) (fun _ h9 => h9) rfl ndD_read_35 ?_
  refine lv_iload_n hx hb ndD_read_38 rfl (lv_at hl 0 rfl) ?_
  refine fd_asi (y := nI 0) rfl ?_
  refine fd_iald hx hb hK hP 1 0 (k := 0) rfl rfl (by omega) (by omega) ndD_read_39 ?_
  refine fd_go_i (wr := [(b0, .inr (3, [.ref b1, .int (nI n), .int (nI kd), .int (nI k), .ref b2, .int (nI od), .int cf, .int (nI wn), .ref b3, .int (nI ok), .ref b4])), (b1, .inl (cI, 400, .inl g)), (b2, .inl (cL, 24, .inr (.inl rn))), (b3, .inl (cI, 200, .inl go)), (b4, .inl (cL, 24, .inr (.inl gn)))]) (w2 := [(b0, .inr (3, [.ref b1, .int (nI n), .int (nI kd), .int (nI k), .ref b2, .int (nI od), .int cf, .int (nI wn), .ref b3, .int (nI ok), .ref b4])), (b1, .inl (cI, 400, .inl g)), (b2, .inl (cL, 24, .inr (.inl rn))), (b3, .inl (cI, 200, .inl go)), (b4, .inl (cL, 24, .inr (.inl gn)))]) (va_runS (As := [.int 0, .int (g 0)]) (rest := []) ⟨hx, hb, hml, hown, hts⟩ (kD_step l D Z cI cL 0 (g 0) H.size) (va_cwS 2 hts (fd_gS tb_288 tb_289 tb_16 tb_290) rfl rfl rfl nhD_step.2 ⟨(Nat.le_of_ble_eq_true rfl), (Nat.le_of_ble_eq_true rfl)⟩) (fd_PreS hE hK hEV hA hP hD hS [] rfl (by decide)) rfl rfl hl.1 rfl (lv_room (Nat.le_of_ble_eq_true rfl)) ndD_read_40 ⟨(Nat.le_of_ble_eq_true rfl), (Nat.le_of_ble_eq_true rfl)⟩) hP hD hS hA [] [0, 1, 2, 3, 4] rfl rfl (by decide) (by decide) [0, 1, 2, 3, 4] rfl (by decide) (fun H locs hP hD hS => ?_)
  refine lv_istore_n (lv' := [(1, .int (fd_stp 0 (g 0))), (2, .int 0), (0, .ref b0)]) hx hb ndD_read_43 rfl hl (by decide) rfl (fun ls hl => ?_)
  refine lv_iinc (v := 1) (lv' := [(2, .int 1), (1, .int (fd_stp 0 (g 0))), (0, .ref b0)]) hx hb ndD_read_44 hl (k := 1) rfl (by decide) (by decide) rfl (fun ls hl => ?_)
  refine lv_goto (tgt := 4) hx hb ndD_read_47 (by decide) ?_
  refine lv_iload_n hx hb ndD_read_4 rfl (lv_at hl 0 rfl) ?_
  refine lv_iconst (v := 3) hx hb ndD_read_5 (by decide) ?_
  refine lv_icmp_ge (tgt := 50) hx hb ndD_read_6 (by decide) (fun c_6 => absurd c_6 (by decide)) (fun _ => ?_)
  refine lv_iload_n hx hb ndD_read_9 rfl (lv_at hl 0 rfl) ?_
  refine lv_aload_n hx hb ndD_read_10 rfl (lv_at hl 2 rfl) ?_
  refine va_get (D := D) (ci := 3) (v := .int (nI n)) (C := nR_D) (T := nT_D) (N := 11) hx hb hts in_D hown hK hP 0 rfl rfl 1 (by decide) (hts _ tb_249) (fun _ h9 => h9) rfl ndD_read_11 ?_
  refine lv_icmp_eq (tgt := 27) hx hb ndD_read_14 (by decide) (fun c_14 => ?_) (fun c_14 => ?_)
  · have n_14 := (nI_eq (a := 1) (b := n) (by omega) (by omega)).mp c_14
    refine lv_aload_n hx hb ndD_read_27 rfl (lv_at hl 2 rfl) ?_
    refine lv_iload_n hx hb ndD_read_28 rfl (lv_at hl 0 rfl) ?_
    refine fd_go_i (wr := []) (w2 := [(b0, .inr (3, [.ref b1, .int (nI 0), .int (nI 0), .int (nI 0), .ref b2, .int (nI od), .int cf, .int (nI wn), .ref b3, .int (nI ok), .ref b4])), (b1, .inl (cI, 400, .inl g)), (b2, .inl (cL, 24, .inr (.inl rn))), (b3, .inl (cI, 200, .inl go)), (b4, .inl (cL, 24, .inr (.inl gn)))]) (va_runV (As := [.int 1]) (rest := []) ⟨hx, hb, hml, hown, hts⟩ (kD_fault l D Z cI cL (n := n) (g := g) (kd := kd) (k := k) (rn := rn) (od := od) (cf := cf) (wn := wn) (go := go) (ok := ok) (gn := gn) (by omega) (by omega) (by omega) (by omega) (by omega) (by omega) (p1 := 1) H.size) (cwV 1 hts (fd_gV tb_285 tb_286 tb_9 tb_16 tb_287) rfl rfl rfl nhD_fault ⟨(Nat.le_of_ble_eq_true rfl), (Nat.le_of_ble_eq_true rfl)⟩) (fd_PreV hE hK hEV hA hP hD hS [0, 1, 2, 3, 4] rfl (by decide) (ci := 3) (q0 := 0) rfl rfl) rfl rfl hl.1 rfl (lv_room (Nat.le_of_ble_eq_true rfl)) ndD_read_29 ⟨(Nat.le_of_ble_eq_true rfl), (Nat.le_of_ble_eq_true rfl)⟩) hP hD hS hA [0, 1, 2, 3, 4] [] rfl rfl (by decide) (by decide) [0, 1, 2, 3, 4] rfl (by decide) (fun H locs hP hD hS => ?_)
    exact fd_ret_i hx hb hr hlocks hS hP hD rfl (rfl) ndD_read_32
  · have n_14 := mt (nI_eq (a := 1) (b := n) (by omega) (by omega)).mpr c_14
    refine lv_aload_n hx hb ndD_read_17 rfl (lv_at hl 2 rfl) ?_
    refine lv_iload_n hx hb ndD_read_18 rfl (lv_at hl 0 rfl) ?_
    refine lv_iconst (v := 1) hx hb ndD_read_19 (by decide) ?_
    refine lv_iadd hx hb ndD_read_20 ?_
    refine fd_asi (y := nI 2) (by decide) ?_
    refine fd_go_i (wr := []) (w2 := [(b0, .inr (3, [.ref b1, .int (nI n), .int (nI kd), .int (nI k), .ref b2, .int (nI od), .int cf, .int (nI wn), .ref b3, .int (nI ok), .ref b4])), (b1, .inl (cI, 400, .inl g)), (b2, .inl (cL, 24, .inr (.inl rn))), (b3, .inl (cI, 200, .inl go)), (b4, .inl (cL, 24, .inr (.inl gn)))]) (va_runV (As := [.int (nI 2)]) (rest := []) ⟨hx, hb, hml, hown, hts⟩ (kD_kindOf l D Z cI cL (n := n) (g := g) (kd := kd) (k := k) (rn := rn) (od := od) (cf := cf) (wn := wn) (go := go) (ok := ok) (gn := gn) (by omega) (by omega) (by omega) (by omega) (by omega) (by omega) (sg := 2) (by omega) (by omega) H.size) (cwV 1 hts (fd_gV tb_279 tb_280 tb_8 tb_16 tb_281) rfl rfl rfl nhD_kindOf ⟨(Nat.le_of_ble_eq_true rfl), (Nat.le_of_ble_eq_true rfl)⟩) (fd_PreV hE hK hEV hA hP hD hS [0, 1, 2, 3, 4] rfl (by decide) (ci := 3) (q0 := 0) rfl rfl) rfl rfl hl.1 rfl (lv_room (Nat.le_of_ble_eq_true rfl)) ndD_read_21 ⟨(Nat.le_of_ble_eq_true rfl), (Nat.le_of_ble_eq_true rfl)⟩) hP hD hS hA [0, 1, 2, 3, 4] [] rfl rfl (by decide) (by decide) [0, 1, 2, 3, 4] rfl (by decide) (fun H locs hP hD hS => ?_)
    refine lv_if_ne (tgt := 33) hx hb ndD_read_24 (by decide) (fun c_24 => absurd ((nI_eq (a := (fd_kn g n 2)) (b := 0) (by omega) (by omega)).mpr (by omega)) c_24) (fun _ => ?_)
    refine lv_aload_n hx hb ndD_read_27 rfl (lv_at hl 2 rfl) ?_
    refine lv_iload_n hx hb ndD_read_28 rfl (lv_at hl 0 rfl) ?_
    refine fd_go_i (wr := []) (w2 := [(b0, .inr (3, [.ref b1, .int (nI 0), .int (nI 0), .int (nI 0), .ref b2, .int (nI od), .int cf, .int (nI wn), .ref b3, .int (nI ok), .ref b4])), (b1, .inl (cI, 400, .inl g)), (b2, .inl (cL, 24, .inr (.inl rn))), (b3, .inl (cI, 200, .inl go)), (b4, .inl (cL, 24, .inr (.inl gn)))]) (va_runV (As := [.int 1]) (rest := []) ⟨hx, hb, hml, hown, hts⟩ (kD_fault l D Z cI cL (n := n) (g := g) (kd := kd) (k := k) (rn := rn) (od := od) (cf := cf) (wn := wn) (go := go) (ok := ok) (gn := gn) (by omega) (by omega) (by omega) (by omega) (by omega) (by omega) (p1 := 1) H.size) (cwV 1 hts (fd_gV tb_285 tb_286 tb_9 tb_16 tb_287) rfl rfl rfl nhD_fault ⟨(Nat.le_of_ble_eq_true rfl), (Nat.le_of_ble_eq_true rfl)⟩) (fd_PreV hE hK hEV hA hP hD hS [0, 1, 2, 3, 4] rfl (by decide) (ci := 3) (q0 := 0) rfl rfl) rfl rfl hl.1 rfl (lv_room (Nat.le_of_ble_eq_true rfl)) ndD_read_29 ⟨(Nat.le_of_ble_eq_true rfl), (Nat.le_of_ble_eq_true rfl)⟩) hP hD hS hA [0, 1, 2, 3, 4] [] rfl rfl (by decide) (by decide) [0, 1, 2, 3, 4] rfl (by decide) (fun H locs hP hD hS => ?_)
    exact fd_ret_i hx hb hr hlocks hS hP hD rfl (rfl) ndD_read_32
set_option maxHeartbeats 4000000 in
set_option maxRecDepth 100000 in
theorem kD_read_2 (l : Launch) (D : va_G) (Z : Nat → Nat) (cI cL : ClassId) {b0 b1 b2 b3 b4 n kd k od wn ok : Nat} {g go : Nat → Int32} {rn gn : Nat → Int64} {cf : Int32} (hn : n ≤ 400) (hkd : kd ≤ 15) (hk : k ≤ 20) (hwn : wn ≤ 123) (hod : od ≤ 15) (hok : ok ≤ 20) (g1 : ¬ fd_kn g n 1 = 0) (g2 : ¬ fd_kn g n 2 = 0) (g3 : fd_kn g n 3 = 0) (hnj : 2 ≤ n) : fd_Mi l D fd_cl (fd_ty cI cL) (fd_EV Z) nyD_read (.code nyD_read ncD_read 6 (some .int) :: fd_TB) nmD_read [.ref b0] [(b0, .inr (3, [.ref b1, .int (nI n), .int (nI kd), .int (nI k), .ref b2, .int (nI od), .int cf, .int (nI wn), .ref b3, .int (nI ok), .ref b4])), (b1, .inl (cI, 400, .inl g)), (b2, .inl (cL, 24, .inr (.inl rn))), (b3, .inl (cI, 200, .inl go)), (b4, .inl (cL, 24, .inr (.inl gn)))] [(b0, .inr (3, [.ref b1, .int (nI 0), .int (nI 0), .int (nI 0), .ref b2, .int (nI od), .int cf, .int (nI wn), .ref b3, .int (nI ok), .ref b4])), (b1, .inl (cI, 400, .inl g)), (b2, .inl (cL, 24, .inr (.inl rn))), (b3, .inl (cI, 200, .inl go)), (b4, .inl (cL, 24, .inr (.inl gn)))] ((-1) - nI 2) := by
  have K1 := fd_kn_le g n 1
  have K2 := fd_kn_le g n 2
  have K3 := fd_kn_le g n 3
  refine fd_open_i (cc := ncD_read) (maxL := 6) (ret := (some .int)) (by decide) rfl (Nat.le_of_ble_eq_true rfl) ?_
  intro p e s m below meth c A ls X hP hD hS hl
  obtain ⟨hx, hb, hr, hml, hown, hts0, hlocks, hK, hEV, hA⟩ := X
  have hts : ∀ w ∈ fd_TB, w.before _ s = true := fun w h => hts0 w (List.mem_cons_of_mem _ h)
  have hE := fd_EV_ok Z
  have hown : s.vm.findClass "FieldDeskModel" = some m.cls := hown
  have hl : lv_has ls 6 [(0, .ref b0)] := hl
  refine lv_iconst (v := 0) hx hb ndD_read_0 (by decide) ?_
  refine lv_istore_n (lv' := [(1, .int 0), (0, .ref b0)]) hx hb ndD_read_1 rfl hl (by decide) rfl (fun ls hl => ?_)
  refine lv_iconst (v := 0) hx hb ndD_read_2 (by decide) ?_
  refine lv_istore_n (lv' := [(2, .int 0), (1, .int 0), (0, .ref b0)]) hx hb ndD_read_3 rfl hl (by decide) rfl (fun ls hl => ?_)
  refine lv_iload_n hx hb ndD_read_4 rfl (lv_at hl 0 rfl) ?_
  refine lv_iconst (v := 3) hx hb ndD_read_5 (by decide) ?_
  refine lv_icmp_ge (tgt := 50) hx hb ndD_read_6 (by decide) (fun c_6 => absurd c_6 (by decide)) (fun _ => ?_)
  refine lv_iload_n hx hb ndD_read_9 rfl (lv_at hl 0 rfl) ?_
  refine lv_aload_n hx hb ndD_read_10 rfl (lv_at hl 2 rfl) ?_
  refine va_get (D := D) (ci := 3) (v := .int (nI n)) (C := nR_D) (T := nT_D) (N := 11) hx hb hts in_D hown hK hP 0 rfl rfl 1 (by decide) (hts _ tb_249) (fun _ h9 => h9) rfl ndD_read_11 ?_
  refine lv_icmp_eq (tgt := 27) hx hb ndD_read_14 (by decide) (fun c_14 => absurd c_14 (fun h9 => absurd ((nI_eq (a := 0) (b := n) (by omega) (by omega)).mp h9) (by omega))) (fun _ => ?_)
  refine lv_aload_n hx hb ndD_read_17 rfl (lv_at hl 2 rfl) ?_
  refine lv_iload_n hx hb ndD_read_18 rfl (lv_at hl 0 rfl) ?_
  refine lv_iconst (v := 1) hx hb ndD_read_19 (by decide) ?_
  refine lv_iadd hx hb ndD_read_20 ?_
  refine fd_asi (y := nI 1) (by decide) ?_
  refine fd_go_i (wr := []) (w2 := [(b0, .inr (3, [.ref b1, .int (nI n), .int (nI kd), .int (nI k), .ref b2, .int (nI od), .int cf, .int (nI wn), .ref b3, .int (nI ok), .ref b4])), (b1, .inl (cI, 400, .inl g)), (b2, .inl (cL, 24, .inr (.inl rn))), (b3, .inl (cI, 200, .inl go)), (b4, .inl (cL, 24, .inr (.inl gn)))]) (va_runV (As := [.int (nI 1)]) (rest := []) ⟨hx, hb, hml, hown, hts⟩ (kD_kindOf l D Z cI cL (n := n) (g := g) (kd := kd) (k := k) (rn := rn) (od := od) (cf := cf) (wn := wn) (go := go) (ok := ok) (gn := gn) (by omega) (by omega) (by omega) (by omega) (by omega) (by omega) (sg := 1) (by omega) (by omega) s.heap.size) (cwV 1 hts (fd_gV tb_279 tb_280 tb_8 tb_16 tb_281) rfl rfl rfl nhD_kindOf ⟨(Nat.le_of_ble_eq_true rfl), (Nat.le_of_ble_eq_true rfl)⟩) (fd_PreV hE hK hEV hA hP hD hS [0, 1, 2, 3, 4] rfl (by decide) (ci := 3) (q0 := 0) rfl rfl) rfl rfl hl.1 rfl (lv_room (Nat.le_of_ble_eq_true rfl)) ndD_read_21 ⟨(Nat.le_of_ble_eq_true rfl), (Nat.le_of_ble_eq_true rfl)⟩) hP hD hS hA [0, 1, 2, 3, 4] [] rfl rfl (by decide) (by decide) [0, 1, 2, 3, 4] rfl (by decide) (fun H locs hP hD hS => ?_)
  refine lv_if_ne (tgt := 33) hx hb ndD_read_24 (by decide) (fun _ => ?_) (fun c_24 => absurd c_24 (fun h9 => absurd ((nI_eq (a := (fd_kn g n 1)) (b := 0) (by omega) (by omega)).mp h9) (by omega)))
  refine lv_iload_n hx hb ndD_read_33 rfl (lv_at hl 1 rfl) ?_
  refine lv_aload_n hx hb ndD_read_34 rfl (lv_at hl 2 rfl) ?_
  refine va_get (D := D) (ci := 3) (v := .ref b1) (C := nR_D) (T := nT_D) (N := 11) hx hb hts in_D hown hK hP 0 rfl rfl 0 (by decide) (hts _ tb_248) (fun _ h9 => h9) rfl ndD_read_35 ?_
  refine lv_iload_n hx hb ndD_read_38 rfl (lv_at hl 0 rfl) ?_
  refine fd_asi (y := nI 0) rfl ?_
  refine fd_iald hx hb hK hP 1 0 (k := 0) rfl rfl (by omega) (by omega) ndD_read_39 ?_
  refine fd_go_i (wr := [(b0, .inr (3, [.ref b1, .int (nI n), .int (nI kd), .int (nI k), .ref b2, .int (nI od), .int cf, .int (nI wn), .ref b3, .int (nI ok), .ref b4])), (b1, .inl (cI, 400, .inl g)), (b2, .inl (cL, 24, .inr (.inl rn))), (b3, .inl (cI, 200, .inl go)), (b4, .inl (cL, 24, .inr (.inl gn)))]) (w2 := [(b0, .inr (3, [.ref b1, .int (nI n), .int (nI kd), .int (nI k), .ref b2, .int (nI od), .int cf, .int (nI wn), .ref b3, .int (nI ok), .ref b4])), (b1, .inl (cI, 400, .inl g)), (b2, .inl (cL, 24, .inr (.inl rn))), (b3, .inl (cI, 200, .inl go)), (b4, .inl (cL, 24, .inr (.inl gn)))]) (va_runS (As := [.int 0, .int (g 0)]) (rest := []) ⟨hx, hb, hml, hown, hts⟩ (kD_step l D Z cI cL 0 (g 0) H.size) (va_cwS 2 hts (fd_gS tb_288 tb_289 tb_16 tb_290) rfl rfl rfl nhD_step.2 ⟨(Nat.le_of_ble_eq_true rfl), (Nat.le_of_ble_eq_true rfl)⟩) (fd_PreS hE hK hEV hA hP hD hS [] rfl (by decide)) rfl rfl hl.1 rfl (lv_room (Nat.le_of_ble_eq_true rfl)) ndD_read_40 ⟨(Nat.le_of_ble_eq_true rfl), (Nat.le_of_ble_eq_true rfl)⟩) hP hD hS hA [] [0, 1, 2, 3, 4] rfl rfl (by decide) (by decide) [0, 1, 2, 3, 4] rfl (by decide) (fun H locs hP hD hS => ?_)
  refine lv_istore_n (lv' := [(1, .int (fd_stp 0 (g 0))), (2, .int 0), (0, .ref b0)]) hx hb ndD_read_43 rfl hl (by decide) rfl (fun ls hl => ?_)
  refine lv_iinc (v := 1) (lv' := [(2, .int 1), (1, .int (fd_stp 0 (g 0))), (0, .ref b0)]) hx hb ndD_read_44 hl (k := 1) rfl (by decide) (by decide) rfl (fun ls hl => ?_)
  refine lv_goto (tgt := 4) hx hb ndD_read_47 (by decide) ?_
  refine lv_iload_n hx hb ndD_read_4 rfl (lv_at hl 0 rfl) ?_
  refine lv_iconst (v := 3) hx hb ndD_read_5 (by decide) ?_
  refine lv_icmp_ge (tgt := 50) hx hb ndD_read_6 (by decide) (fun c_6 => absurd c_6 (by decide)) (fun _ => ?_)
  refine lv_iload_n hx hb ndD_read_9 rfl (lv_at hl 0 rfl) ?_
  refine lv_aload_n hx hb ndD_read_10 rfl (lv_at hl 2 rfl) ?_
  refine va_get (D := D) (ci := 3) (v := .int (nI n)) (C := nR_D) (T := nT_D) (N := 11) hx hb hts in_D hown hK hP 0 rfl rfl 1 (by decide) (hts _ tb_249) (fun _ h9 => h9) rfl ndD_read_11 ?_
  refine lv_icmp_eq (tgt := 27) hx hb ndD_read_14 (by decide) (fun c_14 => absurd c_14 (fun h9 => absurd ((nI_eq (a := 1) (b := n) (by omega) (by omega)).mp h9) (by omega))) (fun _ => ?_)
  refine lv_aload_n hx hb ndD_read_17 rfl (lv_at hl 2 rfl) ?_
  refine lv_iload_n hx hb ndD_read_18 rfl (lv_at hl 0 rfl) ?_
  refine lv_iconst (v := 1) hx hb ndD_read_19 (by decide) ?_
  refine lv_iadd hx hb ndD_read_20 ?_
  refine fd_asi (y := nI 2) (by decide) ?_
  refine fd_go_i (wr := []) (w2 := [(b0, .inr (3, [.ref b1, .int (nI n), .int (nI kd), .int (nI k), .ref b2, .int (nI od), .int cf, .int (nI wn), .ref b3, .int (nI ok), .ref b4])), (b1, .inl (cI, 400, .inl g)), (b2, .inl (cL, 24, .inr (.inl rn))), (b3, .inl (cI, 200, .inl go)), (b4, .inl (cL, 24, .inr (.inl gn)))]) (va_runV (As := [.int (nI 2)]) (rest := []) ⟨hx, hb, hml, hown, hts⟩ (kD_kindOf l D Z cI cL (n := n) (g := g) (kd := kd) (k := k) (rn := rn) (od := od) (cf := cf) (wn := wn) (go := go) (ok := ok) (gn := gn) (by omega) (by omega) (by omega) (by omega) (by omega) (by omega) (sg := 2) (by omega) (by omega) H.size) (cwV 1 hts (fd_gV tb_279 tb_280 tb_8 tb_16 tb_281) rfl rfl rfl nhD_kindOf ⟨(Nat.le_of_ble_eq_true rfl), (Nat.le_of_ble_eq_true rfl)⟩) (fd_PreV hE hK hEV hA hP hD hS [0, 1, 2, 3, 4] rfl (by decide) (ci := 3) (q0 := 0) rfl rfl) rfl rfl hl.1 rfl (lv_room (Nat.le_of_ble_eq_true rfl)) ndD_read_21 ⟨(Nat.le_of_ble_eq_true rfl), (Nat.le_of_ble_eq_true rfl)⟩) hP hD hS hA [0, 1, 2, 3, 4] [] rfl rfl (by decide) (by decide) [0, 1, 2, 3, 4] rfl (by decide) (fun H locs hP hD hS => ?_)
  refine lv_if_ne (tgt := 33) hx hb ndD_read_24 (by decide) (fun _ => ?_) (fun c_24 => absurd c_24 (fun h9 => absurd ((nI_eq (a := (fd_kn g n 2)) (b := 0) (by omega) (by omega)).mp h9) (by omega)))
  refine lv_iload_n hx hb ndD_read_33 rfl (lv_at hl 1 rfl) ?_
  refine lv_aload_n hx hb ndD_read_34 rfl (lv_at hl 2 rfl) ?_
  refine va_get (D := D) (ci := 3) (v := .ref b1) (C := nR_D) (T := nT_D) (N := 11) hx hb hts in_D hown hK hP 0 rfl rfl 0 (by decide) (hts _ tb_248) (fun _ h9 => h9) rfl ndD_read_35 ?_
  refine lv_iload_n hx hb ndD_read_38 rfl (lv_at hl 0 rfl) ?_
  refine fd_asi (y := nI 1) rfl ?_
  refine fd_iald hx hb hK hP 1 0 (k := 1) rfl rfl (by omega) (by omega) ndD_read_39 ?_
  refine fd_go_i (wr := [(b0, .inr (3, [.ref b1, .int (nI n), .int (nI kd), .int (nI k), .ref b2, .int (nI od), .int cf, .int (nI wn), .ref b3, .int (nI ok), .ref b4])), (b1, .inl (cI, 400, .inl g)), (b2, .inl (cL, 24, .inr (.inl rn))), (b3, .inl (cI, 200, .inl go)), (b4, .inl (cL, 24, .inr (.inl gn)))]) (w2 := [(b0, .inr (3, [.ref b1, .int (nI n), .int (nI kd), .int (nI k), .ref b2, .int (nI od), .int cf, .int (nI wn), .ref b3, .int (nI ok), .ref b4])), (b1, .inl (cI, 400, .inl g)), (b2, .inl (cL, 24, .inr (.inl rn))), (b3, .inl (cI, 200, .inl go)), (b4, .inl (cL, 24, .inr (.inl gn)))]) (va_runS (As := [.int (fd_stp 0 (g 0)), .int (g 1)]) (rest := []) ⟨hx, hb, hml, hown, hts⟩ (kD_step l D Z cI cL (fd_stp 0 (g 0)) (g 1) H.size) (va_cwS 2 hts (fd_gS tb_288 tb_289 tb_16 tb_290) rfl rfl rfl nhD_step.2 ⟨(Nat.le_of_ble_eq_true rfl), (Nat.le_of_ble_eq_true rfl)⟩) (fd_PreS hE hK hEV hA hP hD hS [] rfl (by decide)) rfl rfl hl.1 rfl (lv_room (Nat.le_of_ble_eq_true rfl)) ndD_read_40 ⟨(Nat.le_of_ble_eq_true rfl), (Nat.le_of_ble_eq_true rfl)⟩) hP hD hS hA [] [0, 1, 2, 3, 4] rfl rfl (by decide) (by decide) [0, 1, 2, 3, 4] rfl (by decide) (fun H locs hP hD hS => ?_)
  refine lv_istore_n (lv' := [(1, .int (fd_stp (fd_stp 0 (g 0)) (g 1))), (2, .int 1), (0, .ref b0)]) hx hb ndD_read_43 rfl hl (by decide) rfl (fun ls hl => ?_)
  refine lv_iinc (v := 2) (lv' := [(2, .int 2), (1, .int (fd_stp (fd_stp 0 (g 0)) (g 1))), (0, .ref b0)]) hx hb ndD_read_44 hl (k := 1) rfl (by decide) (by decide) rfl (fun ls hl => ?_)
  refine lv_goto (tgt := 4) hx hb ndD_read_47 (by decide) ?_
  refine lv_iload_n hx hb ndD_read_4 rfl (lv_at hl 0 rfl) ?_
  refine lv_iconst (v := 3) hx hb ndD_read_5 (by decide) ?_
  refine lv_icmp_ge (tgt := 50) hx hb ndD_read_6 (by decide) (fun c_6 => absurd c_6 (by decide)) (fun _ => ?_)
  refine lv_iload_n hx hb ndD_read_9 rfl (lv_at hl 0 rfl) ?_
  refine lv_aload_n hx hb ndD_read_10 rfl (lv_at hl 2 rfl) ?_
  refine va_get (D := D) (ci := 3) (v := .int (nI n)) (C := nR_D) (T := nT_D) (N := 11) hx hb hts in_D hown hK hP 0 rfl rfl 1 (by decide) (hts _ tb_249) (fun _ h9 => h9) rfl ndD_read_11 ?_
  refine lv_icmp_eq (tgt := 27) hx hb ndD_read_14 (by decide) (fun c_14 => ?_) (fun c_14 => ?_)
  · have n_14 := (nI_eq (a := 2) (b := n) (by omega) (by omega)).mp c_14
    refine lv_aload_n hx hb ndD_read_27 rfl (lv_at hl 2 rfl) ?_
    refine lv_iload_n hx hb ndD_read_28 rfl (lv_at hl 0 rfl) ?_
    refine fd_go_i (wr := []) (w2 := [(b0, .inr (3, [.ref b1, .int (nI 0), .int (nI 0), .int (nI 0), .ref b2, .int (nI od), .int cf, .int (nI wn), .ref b3, .int (nI ok), .ref b4])), (b1, .inl (cI, 400, .inl g)), (b2, .inl (cL, 24, .inr (.inl rn))), (b3, .inl (cI, 200, .inl go)), (b4, .inl (cL, 24, .inr (.inl gn)))]) (va_runV (As := [.int 2]) (rest := []) ⟨hx, hb, hml, hown, hts⟩ (kD_fault l D Z cI cL (n := n) (g := g) (kd := kd) (k := k) (rn := rn) (od := od) (cf := cf) (wn := wn) (go := go) (ok := ok) (gn := gn) (by omega) (by omega) (by omega) (by omega) (by omega) (by omega) (p1 := 2) H.size) (cwV 1 hts (fd_gV tb_285 tb_286 tb_9 tb_16 tb_287) rfl rfl rfl nhD_fault ⟨(Nat.le_of_ble_eq_true rfl), (Nat.le_of_ble_eq_true rfl)⟩) (fd_PreV hE hK hEV hA hP hD hS [0, 1, 2, 3, 4] rfl (by decide) (ci := 3) (q0 := 0) rfl rfl) rfl rfl hl.1 rfl (lv_room (Nat.le_of_ble_eq_true rfl)) ndD_read_29 ⟨(Nat.le_of_ble_eq_true rfl), (Nat.le_of_ble_eq_true rfl)⟩) hP hD hS hA [0, 1, 2, 3, 4] [] rfl rfl (by decide) (by decide) [0, 1, 2, 3, 4] rfl (by decide) (fun H locs hP hD hS => ?_)
    exact fd_ret_i hx hb hr hlocks hS hP hD rfl (rfl) ndD_read_32
  · have n_14 := mt (nI_eq (a := 2) (b := n) (by omega) (by omega)).mpr c_14
    refine lv_aload_n hx hb ndD_read_17 rfl (lv_at hl 2 rfl) ?_
    refine lv_iload_n hx hb ndD_read_18 rfl (lv_at hl 0 rfl) ?_
    refine lv_iconst (v := 1) hx hb ndD_read_19 (by decide) ?_
    refine lv_iadd hx hb ndD_read_20 ?_
    refine fd_asi (y := nI 3) (by decide) ?_
    refine fd_go_i (wr := []) (w2 := [(b0, .inr (3, [.ref b1, .int (nI n), .int (nI kd), .int (nI k), .ref b2, .int (nI od), .int cf, .int (nI wn), .ref b3, .int (nI ok), .ref b4])), (b1, .inl (cI, 400, .inl g)), (b2, .inl (cL, 24, .inr (.inl rn))), (b3, .inl (cI, 200, .inl go)), (b4, .inl (cL, 24, .inr (.inl gn)))]) (va_runV (As := [.int (nI 3)]) (rest := []) ⟨hx, hb, hml, hown, hts⟩ (kD_kindOf l D Z cI cL (n := n) (g := g) (kd := kd) (k := k) (rn := rn) (od := od) (cf := cf) (wn := wn) (go := go) (ok := ok) (gn := gn) (by omega) (by omega) (by omega) (by omega) (by omega) (by omega) (sg := 3) (by omega) (by omega) H.size) (cwV 1 hts (fd_gV tb_279 tb_280 tb_8 tb_16 tb_281) rfl rfl rfl nhD_kindOf ⟨(Nat.le_of_ble_eq_true rfl), (Nat.le_of_ble_eq_true rfl)⟩) (fd_PreV hE hK hEV hA hP hD hS [0, 1, 2, 3, 4] rfl (by decide) (ci := 3) (q0 := 0) rfl rfl) rfl rfl hl.1 rfl (lv_room (Nat.le_of_ble_eq_true rfl)) ndD_read_21 ⟨(Nat.le_of_ble_eq_true rfl), (Nat.le_of_ble_eq_true rfl)⟩) hP hD hS hA [0, 1, 2, 3, 4] [] rfl rfl (by decide) (by decide) [0, 1, 2, 3, 4] rfl (by decide) (fun H locs hP hD hS => ?_)
    refine lv_if_ne (tgt := 33) hx hb ndD_read_24 (by decide) (fun c_24 => absurd ((nI_eq (a := (fd_kn g n 3)) (b := 0) (by omega) (by omega)).mpr (by omega)) c_24) (fun _ => ?_)
    refine lv_aload_n hx hb ndD_read_27 rfl (lv_at hl 2 rfl) ?_
    refine lv_iload_n hx hb ndD_read_28 rfl (lv_at hl 0 rfl) ?_
    refine fd_go_i (wr := []) (w2 := [(b0, .inr (3, [.ref b1, .int (nI 0), .int (nI 0), .int (nI 0), .ref b2, .int (nI od), .int cf, .int (nI wn), .ref b3, .int (nI ok), .ref b4])), (b1, .inl (cI, 400, .inl g)), (b2, .inl (cL, 24, .inr (.inl rn))), (b3, .inl (cI, 200, .inl go)), (b4, .inl (cL, 24, .inr (.inl gn)))]) (va_runV (As := [.int 2]) (rest := []) ⟨hx, hb, hml, hown, hts⟩ (kD_fault l D Z cI cL (n := n) (g := g) (kd := kd) (k := k) (rn := rn) (od := od) (cf := cf) (wn := wn) (go := go) (ok := ok) (gn := gn) (by omega) (by omega) (by omega) (by omega) (by omega) (by omega) (p1 := 2) H.size) (cwV 1 hts (fd_gV tb_285 tb_286 tb_9 tb_16 tb_287) rfl rfl rfl nhD_fault ⟨(Nat.le_of_ble_eq_true rfl), (Nat.le_of_ble_eq_true rfl)⟩) (fd_PreV hE hK hEV hA hP hD hS [0, 1, 2, 3, 4] rfl (by decide) (ci := 3) (q0 := 0) rfl rfl) rfl rfl hl.1 rfl (lv_room (Nat.le_of_ble_eq_true rfl)) ndD_read_29 ⟨(Nat.le_of_ble_eq_true rfl), (Nat.le_of_ble_eq_true rfl)⟩) hP hD hS hA [0, 1, 2, 3, 4] [] rfl rfl (by decide) (by decide) [0, 1, 2, 3, 4] rfl (by decide) (fun H locs hP hD hS => ?_)
    exact fd_ret_i hx hb hr hlocks hS hP hD rfl (rfl) ndD_read_32
set_option maxHeartbeats 4000000 in
set_option maxRecDepth 100000 in
theorem kD_read_ok (l : Launch) (D : va_G) (Z : Nat → Nat) (cI cL : ClassId) {b0 b1 b2 b3 b4 n kd k od wn ok : Nat} {g go : Nat → Int32} {rn gn : Nat → Int64} {cf : Int32} (hn : n ≤ 400) (hkd : kd ≤ 15) (hk : k ≤ 20) (hwn : wn ≤ 123) (hod : od ≤ 15) (hok : ok ≤ 20) {q : Nat} {cs cs9 : Nat → Int32} {cn cn9 : Nat → Int64} {r : Int32} {k9 : Nat} (g1 : ¬ fd_kn g n 1 = 0) (g2 : ¬ fd_kn g n 2 = 0) (hq : fd_kn g n 3 = q) (h1q : 1 ≤ q) (h15 : q ≤ 15) (hn3 : 3 ≤ n) (hsg3 : ∀ i, i < 3 → fd_sg (g i)) (hby : fd_by g n) (hres : fd_ht g n q 20 0 3 cs cn = (r, k9, cs9, cn9)) (hr2 : r = -1) : fd_Ni l D fd_cl (fd_ty cI cL) (fd_EV Z) nyD_read (.code nyD_read ncD_read 6 (some .int) :: fd_TB) nmD_read [.ref b0] [(b0, .inr (3, [.ref b1, .int (nI n), .int (nI kd), .int (nI k), .ref b2, .int (nI od), .int cf, .int (nI wn), .ref b3, .int (nI ok), .ref b4])), (b1, .inl (cI, 400, .inl g)), (b2, .inl (cL, 24, .inr (.inl rn))), (b3, .inl (cI, 200, .inl go)), (b4, .inl (cL, 24, .inr (.inl gn)))] (fun u : Nat → Int64 => [(b0, .inr (3, [.ref b1, .int (nI 0), .int (nI q), .int (nI k9), .ref b2, .int (nI od), .int cf, .int (nI wn), .ref b3, .int (nI ok), .ref b4])), (b1, .inl (cI, 400, .inl g)), (b2, .inl (cL, 24, .inr (.inl u))), (b3, .inl (cI, 200, .inl go)), (b4, .inl (cL, 24, .inr (.inl gn)))]) (fun u => ∀ j, j < k9 → u j = cn9 j) (nI q) := by
  have K1 := fd_kn_le g n 1
  have K2 := fd_kn_le g n 2
  refine fd_openN_i (cc := ncD_read) (maxL := 6) (ret := (some .int)) (by decide) rfl (Nat.le_of_ble_eq_true rfl) ?_
  intro p e s m below meth c A ls X hP hD hS hl
  obtain ⟨hx, hb, hr, hml, hown, hts0, hlocks, hK, hEV, hA⟩ := X
  have hts : ∀ w ∈ fd_TB, w.before _ s = true := fun w h => hts0 w (List.mem_cons_of_mem _ h)
  have hE := fd_EV_ok Z
  have hown : s.vm.findClass "FieldDeskModel" = some m.cls := hown
  have hl : lv_has ls 6 [(0, .ref b0)] := hl
  refine lv_iconst (v := 0) hx hb ndD_read_0 (by decide) ?_
  refine lv_istore_n (lv' := [(1, .int 0), (0, .ref b0)]) hx hb ndD_read_1 rfl hl (by decide) rfl (fun ls hl => ?_)
  refine lv_iconst (v := 0) hx hb ndD_read_2 (by decide) ?_
  refine lv_istore_n (lv' := [(2, .int 0), (1, .int 0), (0, .ref b0)]) hx hb ndD_read_3 rfl hl (by decide) rfl (fun ls hl => ?_)
  refine lv_iload_n hx hb ndD_read_4 rfl (lv_at hl 0 rfl) ?_
  refine lv_iconst (v := 3) hx hb ndD_read_5 (by decide) ?_
  refine lv_icmp_ge (tgt := 50) hx hb ndD_read_6 (by decide) (fun c_6 => absurd c_6 (by decide)) (fun _ => ?_)
  refine lv_iload_n hx hb ndD_read_9 rfl (lv_at hl 0 rfl) ?_
  refine lv_aload_n hx hb ndD_read_10 rfl (lv_at hl 2 rfl) ?_
  refine va_get (D := D) (ci := 3) (v := .int (nI n)) (C := nR_D) (T := nT_D) (N := 11) hx hb hts in_D hown hK hP 0 rfl rfl 1 (by decide) (hts _ tb_249) (fun _ h9 => h9) rfl ndD_read_11 ?_
  refine lv_icmp_eq (tgt := 27) hx hb ndD_read_14 (by decide) (fun c_14 => absurd c_14 (fun h9 => absurd ((nI_eq (a := 0) (b := n) (by omega) (by omega)).mp h9) (by omega))) (fun _ => ?_)
  refine lv_aload_n hx hb ndD_read_17 rfl (lv_at hl 2 rfl) ?_
  refine lv_iload_n hx hb ndD_read_18 rfl (lv_at hl 0 rfl) ?_
  refine lv_iconst (v := 1) hx hb ndD_read_19 (by decide) ?_
  refine lv_iadd hx hb ndD_read_20 ?_
  refine fd_asi (y := nI 1) (by decide) ?_
  refine fd_go_i (wr := []) (w2 := [(b0, .inr (3, [.ref b1, .int (nI n), .int (nI kd), .int (nI k), .ref b2, .int (nI od), .int cf, .int (nI wn), .ref b3, .int (nI ok), .ref b4])), (b1, .inl (cI, 400, .inl g)), (b2, .inl (cL, 24, .inr (.inl rn))), (b3, .inl (cI, 200, .inl go)), (b4, .inl (cL, 24, .inr (.inl gn)))]) (va_runV (As := [.int (nI 1)]) (rest := []) ⟨hx, hb, hml, hown, hts⟩ (kD_kindOf l D Z cI cL (n := n) (g := g) (kd := kd) (k := k) (rn := rn) (od := od) (cf := cf) (wn := wn) (go := go) (ok := ok) (gn := gn) (by omega) (by omega) (by omega) (by omega) (by omega) (by omega) (sg := 1) (by omega) (by omega) s.heap.size) (cwV 1 hts (fd_gV tb_279 tb_280 tb_8 tb_16 tb_281) rfl rfl rfl nhD_kindOf ⟨(Nat.le_of_ble_eq_true rfl), (Nat.le_of_ble_eq_true rfl)⟩) (fd_PreV hE hK hEV hA hP hD hS [0, 1, 2, 3, 4] rfl (by decide) (ci := 3) (q0 := 0) rfl rfl) rfl rfl hl.1 rfl (lv_room (Nat.le_of_ble_eq_true rfl)) ndD_read_21 ⟨(Nat.le_of_ble_eq_true rfl), (Nat.le_of_ble_eq_true rfl)⟩) hP hD hS hA [0, 1, 2, 3, 4] [] rfl rfl (by decide) (by decide) [0, 1, 2, 3, 4] rfl (by decide) (fun H locs hP hD hS => ?_)
  refine lv_if_ne (tgt := 33) hx hb ndD_read_24 (by decide) (fun _ => ?_) (fun c_24 => absurd c_24 (fun h9 => absurd ((nI_eq (a := (fd_kn g n 1)) (b := 0) (by omega) (by omega)).mp h9) (by omega)))
  refine lv_iload_n hx hb ndD_read_33 rfl (lv_at hl 1 rfl) ?_
  refine lv_aload_n hx hb ndD_read_34 rfl (lv_at hl 2 rfl) ?_
  refine va_get (D := D) (ci := 3) (v := .ref b1) (C := nR_D) (T := nT_D) (N := 11) hx hb hts in_D hown hK hP 0 rfl rfl 0 (by decide) (hts _ tb_248) (fun _ h9 => h9) rfl ndD_read_35 ?_
  refine lv_iload_n hx hb ndD_read_38 rfl (lv_at hl 0 rfl) ?_
  refine fd_asi (y := nI 0) rfl ?_
  refine fd_iald hx hb hK hP 1 0 (k := 0) rfl rfl (by omega) (by omega) ndD_read_39 ?_
  refine fd_go_i (wr := [(b0, .inr (3, [.ref b1, .int (nI n), .int (nI kd), .int (nI k), .ref b2, .int (nI od), .int cf, .int (nI wn), .ref b3, .int (nI ok), .ref b4])), (b1, .inl (cI, 400, .inl g)), (b2, .inl (cL, 24, .inr (.inl rn))), (b3, .inl (cI, 200, .inl go)), (b4, .inl (cL, 24, .inr (.inl gn)))]) (w2 := [(b0, .inr (3, [.ref b1, .int (nI n), .int (nI kd), .int (nI k), .ref b2, .int (nI od), .int cf, .int (nI wn), .ref b3, .int (nI ok), .ref b4])), (b1, .inl (cI, 400, .inl g)), (b2, .inl (cL, 24, .inr (.inl rn))), (b3, .inl (cI, 200, .inl go)), (b4, .inl (cL, 24, .inr (.inl gn)))]) (va_runS (As := [.int 0, .int (g 0)]) (rest := []) ⟨hx, hb, hml, hown, hts⟩ (kD_step l D Z cI cL 0 (g 0) H.size) (va_cwS 2 hts (fd_gS tb_288 tb_289 tb_16 tb_290) rfl rfl rfl nhD_step.2 ⟨(Nat.le_of_ble_eq_true rfl), (Nat.le_of_ble_eq_true rfl)⟩) (fd_PreS hE hK hEV hA hP hD hS [] rfl (by decide)) rfl rfl hl.1 rfl (lv_room (Nat.le_of_ble_eq_true rfl)) ndD_read_40 ⟨(Nat.le_of_ble_eq_true rfl), (Nat.le_of_ble_eq_true rfl)⟩) hP hD hS hA [] [0, 1, 2, 3, 4] rfl rfl (by decide) (by decide) [0, 1, 2, 3, 4] rfl (by decide) (fun H locs hP hD hS => ?_)
  refine fd_asi (y := fd_rem g 1) (fd_stp_eq (hsg3 0 (by omega)) _) ?_
  refine lv_istore_n (lv' := [(1, .int (fd_rem g 1)), (2, .int 0), (0, .ref b0)]) hx hb ndD_read_43 rfl hl (by decide) rfl (fun ls hl => ?_)
  refine lv_iinc (v := 1) (lv' := [(2, .int 1), (1, .int (fd_rem g 1)), (0, .ref b0)]) hx hb ndD_read_44 hl (k := 1) rfl (by decide) (by decide) rfl (fun ls hl => ?_)
  refine lv_goto (tgt := 4) hx hb ndD_read_47 (by decide) ?_
  refine lv_iload_n hx hb ndD_read_4 rfl (lv_at hl 0 rfl) ?_
  refine lv_iconst (v := 3) hx hb ndD_read_5 (by decide) ?_
  refine lv_icmp_ge (tgt := 50) hx hb ndD_read_6 (by decide) (fun c_6 => absurd c_6 (by decide)) (fun _ => ?_)
  refine lv_iload_n hx hb ndD_read_9 rfl (lv_at hl 0 rfl) ?_
  refine lv_aload_n hx hb ndD_read_10 rfl (lv_at hl 2 rfl) ?_
  refine va_get (D := D) (ci := 3) (v := .int (nI n)) (C := nR_D) (T := nT_D) (N := 11) hx hb hts in_D hown hK hP 0 rfl rfl 1 (by decide) (hts _ tb_249) (fun _ h9 => h9) rfl ndD_read_11 ?_
  refine lv_icmp_eq (tgt := 27) hx hb ndD_read_14 (by decide) (fun c_14 => absurd c_14 (fun h9 => absurd ((nI_eq (a := 1) (b := n) (by omega) (by omega)).mp h9) (by omega))) (fun _ => ?_)
  refine lv_aload_n hx hb ndD_read_17 rfl (lv_at hl 2 rfl) ?_
  refine lv_iload_n hx hb ndD_read_18 rfl (lv_at hl 0 rfl) ?_
  refine lv_iconst (v := 1) hx hb ndD_read_19 (by decide) ?_
  refine lv_iadd hx hb ndD_read_20 ?_
  refine fd_asi (y := nI 2) (by decide) ?_
  refine fd_go_i (wr := []) (w2 := [(b0, .inr (3, [.ref b1, .int (nI n), .int (nI kd), .int (nI k), .ref b2, .int (nI od), .int cf, .int (nI wn), .ref b3, .int (nI ok), .ref b4])), (b1, .inl (cI, 400, .inl g)), (b2, .inl (cL, 24, .inr (.inl rn))), (b3, .inl (cI, 200, .inl go)), (b4, .inl (cL, 24, .inr (.inl gn)))]) (va_runV (As := [.int (nI 2)]) (rest := []) ⟨hx, hb, hml, hown, hts⟩ (kD_kindOf l D Z cI cL (n := n) (g := g) (kd := kd) (k := k) (rn := rn) (od := od) (cf := cf) (wn := wn) (go := go) (ok := ok) (gn := gn) (by omega) (by omega) (by omega) (by omega) (by omega) (by omega) (sg := 2) (by omega) (by omega) H.size) (cwV 1 hts (fd_gV tb_279 tb_280 tb_8 tb_16 tb_281) rfl rfl rfl nhD_kindOf ⟨(Nat.le_of_ble_eq_true rfl), (Nat.le_of_ble_eq_true rfl)⟩) (fd_PreV hE hK hEV hA hP hD hS [0, 1, 2, 3, 4] rfl (by decide) (ci := 3) (q0 := 0) rfl rfl) rfl rfl hl.1 rfl (lv_room (Nat.le_of_ble_eq_true rfl)) ndD_read_21 ⟨(Nat.le_of_ble_eq_true rfl), (Nat.le_of_ble_eq_true rfl)⟩) hP hD hS hA [0, 1, 2, 3, 4] [] rfl rfl (by decide) (by decide) [0, 1, 2, 3, 4] rfl (by decide) (fun H locs hP hD hS => ?_)
  refine lv_if_ne (tgt := 33) hx hb ndD_read_24 (by decide) (fun _ => ?_) (fun c_24 => absurd c_24 (fun h9 => absurd ((nI_eq (a := (fd_kn g n 2)) (b := 0) (by omega) (by omega)).mp h9) (by omega)))
  refine lv_iload_n hx hb ndD_read_33 rfl (lv_at hl 1 rfl) ?_
  refine lv_aload_n hx hb ndD_read_34 rfl (lv_at hl 2 rfl) ?_
  refine va_get (D := D) (ci := 3) (v := .ref b1) (C := nR_D) (T := nT_D) (N := 11) hx hb hts in_D hown hK hP 0 rfl rfl 0 (by decide) (hts _ tb_248) (fun _ h9 => h9) rfl ndD_read_35 ?_
  refine lv_iload_n hx hb ndD_read_38 rfl (lv_at hl 0 rfl) ?_
  refine fd_asi (y := nI 1) rfl ?_
  refine fd_iald hx hb hK hP 1 0 (k := 1) rfl rfl (by omega) (by omega) ndD_read_39 ?_
  refine fd_go_i (wr := [(b0, .inr (3, [.ref b1, .int (nI n), .int (nI kd), .int (nI k), .ref b2, .int (nI od), .int cf, .int (nI wn), .ref b3, .int (nI ok), .ref b4])), (b1, .inl (cI, 400, .inl g)), (b2, .inl (cL, 24, .inr (.inl rn))), (b3, .inl (cI, 200, .inl go)), (b4, .inl (cL, 24, .inr (.inl gn)))]) (w2 := [(b0, .inr (3, [.ref b1, .int (nI n), .int (nI kd), .int (nI k), .ref b2, .int (nI od), .int cf, .int (nI wn), .ref b3, .int (nI ok), .ref b4])), (b1, .inl (cI, 400, .inl g)), (b2, .inl (cL, 24, .inr (.inl rn))), (b3, .inl (cI, 200, .inl go)), (b4, .inl (cL, 24, .inr (.inl gn)))]) (va_runS (As := [.int (fd_rem g 1), .int (g 1)]) (rest := []) ⟨hx, hb, hml, hown, hts⟩ (kD_step l D Z cI cL (fd_rem g 1) (g 1) H.size) (va_cwS 2 hts (fd_gS tb_288 tb_289 tb_16 tb_290) rfl rfl rfl nhD_step.2 ⟨(Nat.le_of_ble_eq_true rfl), (Nat.le_of_ble_eq_true rfl)⟩) (fd_PreS hE hK hEV hA hP hD hS [] rfl (by decide)) rfl rfl hl.1 rfl (lv_room (Nat.le_of_ble_eq_true rfl)) ndD_read_40 ⟨(Nat.le_of_ble_eq_true rfl), (Nat.le_of_ble_eq_true rfl)⟩) hP hD hS hA [] [0, 1, 2, 3, 4] rfl rfl (by decide) (by decide) [0, 1, 2, 3, 4] rfl (by decide) (fun H locs hP hD hS => ?_)
  refine fd_asi (y := fd_rem g 2) (fd_stp_eq (hsg3 1 (by omega)) _) ?_
  refine lv_istore_n (lv' := [(1, .int (fd_rem g 2)), (2, .int 1), (0, .ref b0)]) hx hb ndD_read_43 rfl hl (by decide) rfl (fun ls hl => ?_)
  refine lv_iinc (v := 2) (lv' := [(2, .int 2), (1, .int (fd_rem g 2)), (0, .ref b0)]) hx hb ndD_read_44 hl (k := 1) rfl (by decide) (by decide) rfl (fun ls hl => ?_)
  refine lv_goto (tgt := 4) hx hb ndD_read_47 (by decide) ?_
  refine lv_iload_n hx hb ndD_read_4 rfl (lv_at hl 0 rfl) ?_
  refine lv_iconst (v := 3) hx hb ndD_read_5 (by decide) ?_
  refine lv_icmp_ge (tgt := 50) hx hb ndD_read_6 (by decide) (fun c_6 => absurd c_6 (by decide)) (fun _ => ?_)
  refine lv_iload_n hx hb ndD_read_9 rfl (lv_at hl 0 rfl) ?_
  refine lv_aload_n hx hb ndD_read_10 rfl (lv_at hl 2 rfl) ?_
  refine va_get (D := D) (ci := 3) (v := .int (nI n)) (C := nR_D) (T := nT_D) (N := 11) hx hb hts in_D hown hK hP 0 rfl rfl 1 (by decide) (hts _ tb_249) (fun _ h9 => h9) rfl ndD_read_11 ?_
  refine lv_icmp_eq (tgt := 27) hx hb ndD_read_14 (by decide) (fun c_14 => absurd c_14 (fun h9 => absurd ((nI_eq (a := 2) (b := n) (by omega) (by omega)).mp h9) (by omega))) (fun _ => ?_)
  refine lv_aload_n hx hb ndD_read_17 rfl (lv_at hl 2 rfl) ?_
  refine lv_iload_n hx hb ndD_read_18 rfl (lv_at hl 0 rfl) ?_
  refine lv_iconst (v := 1) hx hb ndD_read_19 (by decide) ?_
  refine lv_iadd hx hb ndD_read_20 ?_
  refine fd_asi (y := nI 3) (by decide) ?_
  refine fd_go_i (wr := []) (w2 := [(b0, .inr (3, [.ref b1, .int (nI n), .int (nI kd), .int (nI k), .ref b2, .int (nI od), .int cf, .int (nI wn), .ref b3, .int (nI ok), .ref b4])), (b1, .inl (cI, 400, .inl g)), (b2, .inl (cL, 24, .inr (.inl rn))), (b3, .inl (cI, 200, .inl go)), (b4, .inl (cL, 24, .inr (.inl gn)))]) (va_runV (As := [.int (nI 3)]) (rest := []) ⟨hx, hb, hml, hown, hts⟩ (kD_kindOf l D Z cI cL (n := n) (g := g) (kd := kd) (k := k) (rn := rn) (od := od) (cf := cf) (wn := wn) (go := go) (ok := ok) (gn := gn) (by omega) (by omega) (by omega) (by omega) (by omega) (by omega) (sg := 3) (by omega) (by omega) H.size) (cwV 1 hts (fd_gV tb_279 tb_280 tb_8 tb_16 tb_281) rfl rfl rfl nhD_kindOf ⟨(Nat.le_of_ble_eq_true rfl), (Nat.le_of_ble_eq_true rfl)⟩) (fd_PreV hE hK hEV hA hP hD hS [0, 1, 2, 3, 4] rfl (by decide) (ci := 3) (q0 := 0) rfl rfl) rfl rfl hl.1 rfl (lv_room (Nat.le_of_ble_eq_true rfl)) ndD_read_21 ⟨(Nat.le_of_ble_eq_true rfl), (Nat.le_of_ble_eq_true rfl)⟩) hP hD hS hA [0, 1, 2, 3, 4] [] rfl rfl (by decide) (by decide) [0, 1, 2, 3, 4] rfl (by decide) (fun H locs hP hD hS => ?_)
  refine lv_if_ne (tgt := 33) hx hb ndD_read_24 (by decide) (fun _ => ?_) (fun c_24 => absurd c_24 (fun h9 => absurd ((nI_eq (a := (fd_kn g n 3)) (b := 0) (by omega) (by omega)).mp h9) (by omega)))
  refine lv_iload_n hx hb ndD_read_33 rfl (lv_at hl 1 rfl) ?_
  refine lv_aload_n hx hb ndD_read_34 rfl (lv_at hl 2 rfl) ?_
  refine va_get (D := D) (ci := 3) (v := .ref b1) (C := nR_D) (T := nT_D) (N := 11) hx hb hts in_D hown hK hP 0 rfl rfl 0 (by decide) (hts _ tb_248) (fun _ h9 => h9) rfl ndD_read_35 ?_
  refine lv_iload_n hx hb ndD_read_38 rfl (lv_at hl 0 rfl) ?_
  refine fd_asi (y := nI 2) rfl ?_
  refine fd_iald hx hb hK hP 1 0 (k := 2) rfl rfl (by omega) (by omega) ndD_read_39 ?_
  refine fd_go_i (wr := [(b0, .inr (3, [.ref b1, .int (nI n), .int (nI kd), .int (nI k), .ref b2, .int (nI od), .int cf, .int (nI wn), .ref b3, .int (nI ok), .ref b4])), (b1, .inl (cI, 400, .inl g)), (b2, .inl (cL, 24, .inr (.inl rn))), (b3, .inl (cI, 200, .inl go)), (b4, .inl (cL, 24, .inr (.inl gn)))]) (w2 := [(b0, .inr (3, [.ref b1, .int (nI n), .int (nI kd), .int (nI k), .ref b2, .int (nI od), .int cf, .int (nI wn), .ref b3, .int (nI ok), .ref b4])), (b1, .inl (cI, 400, .inl g)), (b2, .inl (cL, 24, .inr (.inl rn))), (b3, .inl (cI, 200, .inl go)), (b4, .inl (cL, 24, .inr (.inl gn)))]) (va_runS (As := [.int (fd_rem g 2), .int (g 2)]) (rest := []) ⟨hx, hb, hml, hown, hts⟩ (kD_step l D Z cI cL (fd_rem g 2) (g 2) H.size) (va_cwS 2 hts (fd_gS tb_288 tb_289 tb_16 tb_290) rfl rfl rfl nhD_step.2 ⟨(Nat.le_of_ble_eq_true rfl), (Nat.le_of_ble_eq_true rfl)⟩) (fd_PreS hE hK hEV hA hP hD hS [] rfl (by decide)) rfl rfl hl.1 rfl (lv_room (Nat.le_of_ble_eq_true rfl)) ndD_read_40 ⟨(Nat.le_of_ble_eq_true rfl), (Nat.le_of_ble_eq_true rfl)⟩) hP hD hS hA [] [0, 1, 2, 3, 4] rfl rfl (by decide) (by decide) [0, 1, 2, 3, 4] rfl (by decide) (fun H locs hP hD hS => ?_)
  refine fd_asi (y := fd_rem g 3) (fd_stp_eq (hsg3 2 (by omega)) _) ?_
  refine lv_istore_n (lv' := [(1, .int (fd_rem g 3)), (2, .int 2), (0, .ref b0)]) hx hb ndD_read_43 rfl hl (by decide) rfl (fun ls hl => ?_)
  refine lv_iinc (v := 3) (lv' := [(2, .int 3), (1, .int (fd_rem g 3)), (0, .ref b0)]) hx hb ndD_read_44 hl (k := 1) rfl (by decide) (by decide) rfl (fun ls hl => ?_)
  refine lv_goto (tgt := 4) hx hb ndD_read_47 (by decide) ?_
  refine lv_iload_n hx hb ndD_read_4 rfl (lv_at hl 0 rfl) ?_
  refine lv_iconst (v := 3) hx hb ndD_read_5 (by decide) ?_
  refine lv_icmp_ge (tgt := 50) hx hb ndD_read_6 (by decide) (fun _ => ?_) (fun c_6 => absurd (by decide) c_6)
  refine lv_aload_n hx hb ndD_read_50 rfl (lv_at hl 2 rfl) ?_
  refine lv_aload_n hx hb ndD_read_51 rfl (lv_at hl 2 rfl) ?_
  refine lv_iconst (v := 3) hx hb ndD_read_52 (by decide) ?_
  refine fd_go_i (wr := []) (w2 := [(b0, .inr (3, [.ref b1, .int (nI n), .int (nI kd), .int (nI k), .ref b2, .int (nI od), .int cf, .int (nI wn), .ref b3, .int (nI ok), .ref b4])), (b1, .inl (cI, 400, .inl g)), (b2, .inl (cL, 24, .inr (.inl rn))), (b3, .inl (cI, 200, .inl go)), (b4, .inl (cL, 24, .inr (.inl gn)))]) (va_runV (As := [.int 3]) (rest := [.ref b0]) ⟨hx, hb, hml, hown, hts⟩ (kD_kindOf l D Z cI cL (n := n) (g := g) (kd := kd) (k := k) (rn := rn) (od := od) (cf := cf) (wn := wn) (go := go) (ok := ok) (gn := gn) (by omega) (by omega) (by omega) (by omega) (by omega) (by omega) (sg := 3) (by omega) (by omega) H.size) (cwV 1 hts (fd_gV tb_279 tb_280 tb_8 tb_16 tb_281) rfl rfl rfl nhD_kindOf ⟨(Nat.le_of_ble_eq_true rfl), (Nat.le_of_ble_eq_true rfl)⟩) (fd_PreV hE hK hEV hA hP hD hS [0, 1, 2, 3, 4] rfl (by decide) (ci := 3) (q0 := 0) rfl rfl) rfl rfl hl.1 rfl (lv_room (Nat.le_of_ble_eq_true rfl)) ndD_read_53 ⟨(Nat.le_of_ble_eq_true rfl), (Nat.le_of_ble_eq_true rfl)⟩) hP hD hS hA [0, 1, 2, 3, 4] [] rfl rfl (by decide) (by decide) [0, 1, 2, 3, 4] rfl (by decide) (fun H locs hP hD hS => ?_)
  refine fd_asi (y := nI q) (by rw [hq]) ?_
  refine va_put (D := D) (ci := 3) (v := .int (nI q)) (ty := (.int)) (C := nR_D) (T := nT_D) (N := 11) hx hb hts in_D nt_D nt_D_ok nn_D hown hK hP hD hS 0 rfl rfl 2 (by decide) (hts _ tb_250) (fun _ h9 => h9) rfl (by decide +kernel) rfl rfl (Nat.le_of_ble_eq_true rfl) ndD_read_56 (fun H locs hP hD hS => ?_)
  have hP : va_P D fd_cl [(b0, .inr (3, [.ref b1, .int (nI n), .int (nI q), .int (nI k), .ref b2, .int (nI od), .int cf, .int (nI wn), .ref b3, .int (nI ok), .ref b4])), (b1, .inl (cI, 400, .inl g)), (b2, .inl (cL, 24, .inr (.inl rn))), (b3, .inl (cI, 200, .inl go)), (b4, .inl (cL, 24, .inr (.inl gn)))] H := hP
  have hD : va_D A [(b0, .inr (3, [.ref b1, .int (nI n), .int (nI q), .int (nI k), .ref b2, .int (nI od), .int cf, .int (nI wn), .ref b3, .int (nI ok), .ref b4])), (b1, .inl (cI, 400, .inl g)), (b2, .inl (cL, 24, .inr (.inl rn))), (b3, .inl (cI, 200, .inl go)), (b4, .inl (cL, 24, .inr (.inl gn)))] := hD
  refine lv_aload_n hx hb ndD_read_59 rfl (lv_at hl 2 rfl) ?_
  refine lv_iconst (v := 0) hx hb ndD_read_60 (by decide) ?_
  refine fd_asi (y := nI 0) nI_0.symm ?_
  refine va_put (D := D) (ci := 3) (v := .int (nI 0)) (ty := (.int)) (C := nR_D) (T := nT_D) (N := 11) hx hb hts in_D nt_D nt_D_ok nn_D hown hK hP hD hS 0 rfl rfl 3 (by decide) (hts _ tb_251) (fun _ h9 => h9) rfl (by decide +kernel) rfl rfl (Nat.le_of_ble_eq_true rfl) ndD_read_61 (fun H locs hP hD hS => ?_)
  have hP : va_P D fd_cl [(b0, .inr (3, [.ref b1, .int (nI n), .int (nI q), .int (nI 0), .ref b2, .int (nI od), .int cf, .int (nI wn), .ref b3, .int (nI ok), .ref b4])), (b1, .inl (cI, 400, .inl g)), (b2, .inl (cL, 24, .inr (.inl rn))), (b3, .inl (cI, 200, .inl go)), (b4, .inl (cL, 24, .inr (.inl gn)))] H := hP
  have hD : va_D A [(b0, .inr (3, [.ref b1, .int (nI n), .int (nI q), .int (nI 0), .ref b2, .int (nI od), .int cf, .int (nI wn), .ref b3, .int (nI ok), .ref b4])), (b1, .inl (cI, 400, .inl g)), (b2, .inl (cL, 24, .inr (.inl rn))), (b3, .inl (cI, 200, .inl go)), (b4, .inl (cL, 24, .inr (.inl gn)))] := hD
  refine lv_iconst (v := 3) hx hb ndD_read_64 (by decide) ?_
  refine lv_istore_n (lv' := [(2, .int 3), (1, .int (fd_rem g 3)), (0, .ref b0)]) hx hb ndD_read_65 rfl hl (by decide) rfl (fun ls hl => ?_)
  refine lv_iconst (v := 1) hx hb ndD_read_66 (by decide) ?_
  refine fd_asi (y := fd_due q 0 cn) (fd_so0 h1q h15 cn).symm ?_
  refine lv_istore_n (lv' := [(3, .int (fd_due q 0 cn)), (2, .int 3), (1, .int (fd_rem g 3)), (0, .ref b0)]) hx hb ndD_read_67 rfl hl (by decide) rfl (fun ls hl => ?_)
  have loop1 : ∀ (z : Nat) (k1 q1 : Nat) (rn1 : Nat → Int64) (cs1 : Nat → Int32) (cn1 : Nat → Int64) (hk9 : k1 + z = 20) (hq9 : q1 ≤ 3 + 15 * k1) (hq3 : q1 ≤ n) (ha : ∀ j, j < k1 → rn1 j = cn1 j) (hleg : q = 6 → 4 ≤ k1 → fd_lok (cn1 3)) (hh : fd_ht g n q z k1 q1 cs1 cn1 = (r, k9, cs9, cn9)) (H : Heap) (locs : List Loc) (ls : Array Slot), va_P D fd_cl [(b0, .inr (3, [.ref b1, .int (nI n), .int (nI q), .int (nI k1), .ref b2, .int (nI od), .int cf, .int (nI wn), .ref b3, .int (nI ok), .ref b4])), (b1, .inl (cI, 400, .inl g)), (b2, .inl (cL, 24, .inr (.inl rn1))), (b3, .inl (cI, 200, .inl go)), (b4, .inl (cL, 24, .inr (.inl gn)))] H → va_D A [(b0, .inr (3, [.ref b1, .int (nI n), .int (nI q), .int (nI k1), .ref b2, .int (nI od), .int cf, .int (nI wn), .ref b3, .int (nI ok), .ref b4])), (b1, .inl (cI, 400, .inl g)), (b2, .inl (cL, 24, .inr (.inl rn1))), (b3, .inl (cI, 200, .inl go)), (b4, .inl (cL, 24, .inr (.inl gn)))] → va_S A s.heap H locs → lv_has ls 6 [(0, .ref b0), (1, .int (fd_rem g q1)), (2, .int (nI q1)), (3, .int (fd_due q k1 cn1))] → W p l e nmD_read s m ([.ref b0].toArray) below meth c H locs 0 0 (MQ below (va_Qi (fun r' (u : Nat → Int64) => r' = (nI q) ∧ ∀ j, j < k9 → u j = cn9 j) (fd_BN D fd_cl A (fun u : Nat → Int64 => [(b0, .inr (3, [.ref b1, .int (nI 0), .int (nI q), .int (nI k9), .ref b2, .int (nI od), .int cf, .int (nI wn), .ref b3, .int (nI ok), .ref b4])), (b1, .inl (cI, 400, .inl g)), (b2, .inl (cL, 24, .inr (.inl u))), (b3, .inl (cI, 200, .inl go)), (b4, .inl (cL, 24, .inr (.inl gn)))])) A) [.ref b0].toArray s 0 0 A) (F0 m 68 ls []) := by
    intro z
    induction z with
    | zero =>
      intro k1 q1 rn1 cs1 cn1 hk9 hq9 hq3 ha hleg hh H locs ls hP hD hS hl
      obtain rfl : k1 = 20 := by omega
      rw [fd_due20 h1q (fun h => hleg h (by omega))] at hl
      obtain ⟨e1, rfl, rfl, rfl⟩ := fd_q4 hh
      refine lv_iload_n hx hb ndD_read_68 rfl (lv_at hl 3 rfl) ?_
      refine lv_if_le (tgt := 276) hx hb ndD_read_69 (by decide) (fun _ => ?_) (fun c_69 => absurd (by decide) c_69)
      refine lv_iconst (v := 0) hx hb ndD_read_276 (by decide) ?_
      refine lv_istore (lv' := [(4, .int 0), (0, .ref b0), (1, .int (fd_rem g q1)), (2, .int (nI q1)), (3, .int 0)]) hx hb ndD_read_277 hl (by decide) rfl (fun ls hl => ?_)
      refine lv_iload hx hb ndD_read_279 (lv_at hl 0 rfl) ?_
      refine lv_iconst (v := 2) hx hb ndD_read_281 (by decide) ?_
      refine lv_icmp_ge (tgt := 353) hx hb ndD_read_282 (by decide) (fun c_282 => absurd c_282 (by decide)) (fun _ => ?_)
      refine lv_iload_n hx hb ndD_read_285 rfl (lv_at hl 3 rfl) ?_
      refine lv_iload hx hb ndD_read_286 (lv_at hl 0 rfl) ?_
      refine lv_iadd hx hb ndD_read_288 ?_
      refine fd_asi (y := nI (q1 + 0)) (nI_add q1 0) ?_
      refine lv_aload_n hx hb ndD_read_289 rfl (lv_at hl 1 rfl) ?_
      refine va_get (D := D) (ci := 3) (v := .int (nI n)) (C := nR_D) (T := nT_D) (N := 11) hx hb hts in_D hown hK hP 0 rfl rfl 1 (by decide) (hts _ tb_249) (fun _ h9 => h9) rfl ndD_read_290 ?_
      refine lv_icmp_ge (tgt := 324) hx hb ndD_read_293 (by decide) (fun c_293 => ?_) (fun c_293 => ?_)
      · have n_293 := (nI_leI (a := n) (b := (q1 + 0)) (by omega) (by omega)).mp c_293
        have d0 : fd_dig (fd_at n g (nI (q1))) = 0 := fd_dig0 hn (by omega) (Or.inl (by omega))
        have e5 : fd_cd g n q1 = nI (q1) := by rw [fd_cd, if_pos d0]
        exact absurd (e5.symm.trans (e1.trans hr2)) (fd_nI_ne1 (by omega))
      · have n_293 := mt (nI_leI (a := n) (b := (q1 + 0)) (by omega) (by omega)).mpr c_293
        refine lv_aload_n hx hb ndD_read_296 rfl (lv_at hl 1 rfl) ?_
        refine va_get (D := D) (ci := 3) (v := .ref b1) (C := nR_D) (T := nT_D) (N := 11) hx hb hts in_D hown hK hP 0 rfl rfl 0 (by decide) (hts _ tb_248) (fun _ h9 => h9) rfl ndD_read_297 ?_
        refine lv_iload_n hx hb ndD_read_300 rfl (lv_at hl 3 rfl) ?_
        refine lv_iload hx hb ndD_read_301 (lv_at hl 0 rfl) ?_
        refine lv_iadd hx hb ndD_read_303 ?_
        refine fd_asi (y := nI (q1 + 0)) (nI_add q1 0) ?_
        refine fd_iald hx hb hK hP 1 0 (k := (q1 + 0)) rfl rfl (by omega) (by omega) ndD_read_304 ?_
        refine lv_bipush (v := 48) hx hb ndD_read_305 (by decide) ?_
        refine lv_icmp_lt (tgt := 324) hx hb ndD_read_307 (by decide) (fun c_307 => ?_) (fun c_307 => ?_)
        · have d0 : fd_dig (fd_at n g (nI (q1))) = 0 := fd_dig0 hn (by omega) (Or.inr ⟨by omega, Or.inl c_307⟩)
          have e5 : fd_cd g n q1 = nI (q1) := by rw [fd_cd, if_pos d0]
          exact absurd (e5.symm.trans (e1.trans hr2)) (fd_nI_ne1 (by omega))
        · refine lv_aload_n hx hb ndD_read_310 rfl (lv_at hl 1 rfl) ?_
          refine va_get (D := D) (ci := 3) (v := .ref b1) (C := nR_D) (T := nT_D) (N := 11) hx hb hts in_D hown hK hP 0 rfl rfl 0 (by decide) (hts _ tb_248) (fun _ h9 => h9) rfl ndD_read_311 ?_
          refine lv_iload_n hx hb ndD_read_314 rfl (lv_at hl 3 rfl) ?_
          refine lv_iload hx hb ndD_read_315 (lv_at hl 0 rfl) ?_
          refine lv_iadd hx hb ndD_read_317 ?_
          refine fd_asi (y := nI (q1 + 0)) (nI_add q1 0) ?_
          refine fd_iald hx hb hK hP 1 0 (k := (q1 + 0)) rfl rfl (by omega) (by omega) ndD_read_318 ?_
          refine lv_bipush (v := 57) hx hb ndD_read_319 (by decide) ?_
          refine lv_icmp_le (tgt := 333) hx hb ndD_read_321 (by decide) (fun c_321 => ?_) (fun c_321 => ?_)
          · refine lv_iload_n hx hb ndD_read_333 rfl (lv_at hl 2 rfl) ?_
            refine lv_aload_n hx hb ndD_read_334 rfl (lv_at hl 1 rfl) ?_
            refine va_get (D := D) (ci := 3) (v := .ref b1) (C := nR_D) (T := nT_D) (N := 11) hx hb hts in_D hown hK hP 0 rfl rfl 0 (by decide) (hts _ tb_248) (fun _ h9 => h9) rfl ndD_read_335 ?_
            refine lv_iload_n hx hb ndD_read_338 rfl (lv_at hl 3 rfl) ?_
            refine lv_iload hx hb ndD_read_339 (lv_at hl 0 rfl) ?_
            refine lv_iadd hx hb ndD_read_341 ?_
            refine fd_asi (y := nI (q1 + 0)) (nI_add q1 0) ?_
            refine fd_iald hx hb hK hP 1 0 (k := (q1 + 0)) rfl rfl (by omega) (by omega) ndD_read_342 ?_
            refine fd_go_i (wr := [(b0, .inr (3, [.ref b1, .int (nI n), .int (nI q), .int (nI 20), .ref b2, .int (nI od), .int cf, .int (nI wn), .ref b3, .int (nI ok), .ref b4])), (b1, .inl (cI, 400, .inl g)), (b2, .inl (cL, 24, .inr (.inl rn1))), (b3, .inl (cI, 200, .inl go)), (b4, .inl (cL, 24, .inr (.inl gn)))]) (w2 := [(b0, .inr (3, [.ref b1, .int (nI n), .int (nI q), .int (nI 20), .ref b2, .int (nI od), .int cf, .int (nI wn), .ref b3, .int (nI ok), .ref b4])), (b1, .inl (cI, 400, .inl g)), (b2, .inl (cL, 24, .inr (.inl rn1))), (b3, .inl (cI, 200, .inl go)), (b4, .inl (cL, 24, .inr (.inl gn)))]) (va_runS (As := [.int (fd_rem g q1), .int (g (q1 + 0))]) (rest := []) ⟨hx, hb, hml, hown, hts⟩ (kD_step l D Z cI cL (fd_rem g q1) (g (q1 + 0)) H.size) (va_cwS 2 hts (fd_gS tb_288 tb_289 tb_16 tb_290) rfl rfl rfl nhD_step.2 ⟨(Nat.le_of_ble_eq_true rfl), (Nat.le_of_ble_eq_true rfl)⟩) (fd_PreS hE hK hEV hA hP hD hS [] rfl (by decide)) rfl rfl hl.1 rfl (lv_room (Nat.le_of_ble_eq_true rfl)) ndD_read_343 ⟨(Nat.le_of_ble_eq_true rfl), (Nat.le_of_ble_eq_true rfl)⟩) hP hD hS hA [] [0, 1, 2, 3, 4] rfl rfl (by decide) (by decide) [0, 1, 2, 3, 4] rfl (by decide) (fun H locs hP hD hS => ?_)
            refine fd_asi (y := fd_rem g (q1 + 1)) (fd_stp_eq (fd_sg_dig c_307 c_321) _) ?_
            refine lv_istore_n (lv' := [(1, .int (fd_rem g (q1 + 1))), (4, .int 0), (0, .ref b0), (2, .int (nI q1)), (3, .int 0)]) hx hb ndD_read_346 rfl hl (by decide) rfl (fun ls hl => ?_)
            refine lv_iinc (v := 1) (lv' := [(4, .int 1), (1, .int (fd_rem g (q1 + 1))), (0, .ref b0), (2, .int (nI q1)), (3, .int 0)]) hx hb ndD_read_347 hl (k := 1) rfl (by decide) (by decide) rfl (fun ls hl => ?_)
            refine lv_goto (tgt := 279) hx hb ndD_read_350 (by decide) ?_
            have d_1 : ¬ fd_dig (fd_at n g (nI q1)) = 0 := fd_dig1 hn n_293 c_307 c_321
            refine lv_iload hx hb ndD_read_279 (lv_at hl 0 rfl) ?_
            refine lv_iconst (v := 2) hx hb ndD_read_281 (by decide) ?_
            refine lv_icmp_ge (tgt := 353) hx hb ndD_read_282 (by decide) (fun c_282 => absurd c_282 (by decide)) (fun _ => ?_)
            refine lv_iload_n hx hb ndD_read_285 rfl (lv_at hl 3 rfl) ?_
            refine lv_iload hx hb ndD_read_286 (lv_at hl 0 rfl) ?_
            refine lv_iadd hx hb ndD_read_288 ?_
            refine fd_asi (y := nI (q1 + 1)) (nI_add q1 1) ?_
            refine lv_aload_n hx hb ndD_read_289 rfl (lv_at hl 2 rfl) ?_
            refine va_get (D := D) (ci := 3) (v := .int (nI n)) (C := nR_D) (T := nT_D) (N := 11) hx hb hts in_D hown hK hP 0 rfl rfl 1 (by decide) (hts _ tb_249) (fun _ h9 => h9) rfl ndD_read_290 ?_
            refine lv_icmp_ge (tgt := 324) hx hb ndD_read_293 (by decide) (fun c_293 => ?_) (fun c_293 => ?_)
            · have n_293 := (nI_leI (a := n) (b := (q1 + 1)) (by omega) (by omega)).mp c_293
              have d0 : fd_dig (fd_at n g (nI (q1 + 1))) = 0 := fd_dig0 hn (by omega) (Or.inl (by omega))
              have e5 : fd_cd g n q1 = nI (q1 + 1) := by rw [fd_cd, if_neg d_1, if_pos d0]
              exact absurd (e5.symm.trans (e1.trans hr2)) (fd_nI_ne1 (by omega))
            · have n_293 := mt (nI_leI (a := n) (b := (q1 + 1)) (by omega) (by omega)).mpr c_293
              refine lv_aload_n hx hb ndD_read_296 rfl (lv_at hl 2 rfl) ?_
              refine va_get (D := D) (ci := 3) (v := .ref b1) (C := nR_D) (T := nT_D) (N := 11) hx hb hts in_D hown hK hP 0 rfl rfl 0 (by decide) (hts _ tb_248) (fun _ h9 => h9) rfl ndD_read_297 ?_
              refine lv_iload_n hx hb ndD_read_300 rfl (lv_at hl 3 rfl) ?_
              refine lv_iload hx hb ndD_read_301 (lv_at hl 0 rfl) ?_
              refine lv_iadd hx hb ndD_read_303 ?_
              refine fd_asi (y := nI (q1 + 1)) (nI_add q1 1) ?_
              refine fd_iald hx hb hK hP 1 0 (k := (q1 + 1)) rfl rfl (by omega) (by omega) ndD_read_304 ?_
              refine lv_bipush (v := 48) hx hb ndD_read_305 (by decide) ?_
              refine lv_icmp_lt (tgt := 324) hx hb ndD_read_307 (by decide) (fun c_307 => ?_) (fun c_307 => ?_)
              · have d0 : fd_dig (fd_at n g (nI (q1 + 1))) = 0 := fd_dig0 hn (by omega) (Or.inr ⟨by omega, Or.inl c_307⟩)
                have e5 : fd_cd g n q1 = nI (q1 + 1) := by rw [fd_cd, if_neg d_1, if_pos d0]
                exact absurd (e5.symm.trans (e1.trans hr2)) (fd_nI_ne1 (by omega))
              · refine lv_aload_n hx hb ndD_read_310 rfl (lv_at hl 2 rfl) ?_
                refine va_get (D := D) (ci := 3) (v := .ref b1) (C := nR_D) (T := nT_D) (N := 11) hx hb hts in_D hown hK hP 0 rfl rfl 0 (by decide) (hts _ tb_248) (fun _ h9 => h9) rfl ndD_read_311 ?_
                refine lv_iload_n hx hb ndD_read_314 rfl (lv_at hl 3 rfl) ?_
                refine lv_iload hx hb ndD_read_315 (lv_at hl 0 rfl) ?_
                refine lv_iadd hx hb ndD_read_317 ?_
                refine fd_asi (y := nI (q1 + 1)) (nI_add q1 1) ?_
                refine fd_iald hx hb hK hP 1 0 (k := (q1 + 1)) rfl rfl (by omega) (by omega) ndD_read_318 ?_
                refine lv_bipush (v := 57) hx hb ndD_read_319 (by decide) ?_
                refine lv_icmp_le (tgt := 333) hx hb ndD_read_321 (by decide) (fun c_321 => ?_) (fun c_321 => ?_)
                · refine lv_iload_n hx hb ndD_read_333 rfl (lv_at hl 1 rfl) ?_
                  refine lv_aload_n hx hb ndD_read_334 rfl (lv_at hl 2 rfl) ?_
                  refine va_get (D := D) (ci := 3) (v := .ref b1) (C := nR_D) (T := nT_D) (N := 11) hx hb hts in_D hown hK hP 0 rfl rfl 0 (by decide) (hts _ tb_248) (fun _ h9 => h9) rfl ndD_read_335 ?_
                  refine lv_iload_n hx hb ndD_read_338 rfl (lv_at hl 3 rfl) ?_
                  refine lv_iload hx hb ndD_read_339 (lv_at hl 0 rfl) ?_
                  refine lv_iadd hx hb ndD_read_341 ?_
                  refine fd_asi (y := nI (q1 + 1)) (nI_add q1 1) ?_
                  refine fd_iald hx hb hK hP 1 0 (k := (q1 + 1)) rfl rfl (by omega) (by omega) ndD_read_342 ?_
                  refine fd_go_i (wr := [(b0, .inr (3, [.ref b1, .int (nI n), .int (nI q), .int (nI 20), .ref b2, .int (nI od), .int cf, .int (nI wn), .ref b3, .int (nI ok), .ref b4])), (b1, .inl (cI, 400, .inl g)), (b2, .inl (cL, 24, .inr (.inl rn1))), (b3, .inl (cI, 200, .inl go)), (b4, .inl (cL, 24, .inr (.inl gn)))]) (w2 := [(b0, .inr (3, [.ref b1, .int (nI n), .int (nI q), .int (nI 20), .ref b2, .int (nI od), .int cf, .int (nI wn), .ref b3, .int (nI ok), .ref b4])), (b1, .inl (cI, 400, .inl g)), (b2, .inl (cL, 24, .inr (.inl rn1))), (b3, .inl (cI, 200, .inl go)), (b4, .inl (cL, 24, .inr (.inl gn)))]) (va_runS (As := [.int (fd_rem g (q1 + 1)), .int (g (q1 + 1))]) (rest := []) ⟨hx, hb, hml, hown, hts⟩ (kD_step l D Z cI cL (fd_rem g (q1 + 1)) (g (q1 + 1)) H.size) (va_cwS 2 hts (fd_gS tb_288 tb_289 tb_16 tb_290) rfl rfl rfl nhD_step.2 ⟨(Nat.le_of_ble_eq_true rfl), (Nat.le_of_ble_eq_true rfl)⟩) (fd_PreS hE hK hEV hA hP hD hS [] rfl (by decide)) rfl rfl hl.1 rfl (lv_room (Nat.le_of_ble_eq_true rfl)) ndD_read_343 ⟨(Nat.le_of_ble_eq_true rfl), (Nat.le_of_ble_eq_true rfl)⟩) hP hD hS hA [] [0, 1, 2, 3, 4] rfl rfl (by decide) (by decide) [0, 1, 2, 3, 4] rfl (by decide) (fun H locs hP hD hS => ?_)
                  refine fd_asi (y := fd_rem g (q1 + 1 + 1)) (fd_stp_eq (fd_sg_dig c_307 c_321) _) ?_
                  refine lv_istore_n (lv' := [(1, .int (fd_rem g (q1 + 1 + 1))), (4, .int 1), (0, .ref b0), (2, .int (nI q1)), (3, .int 0)]) hx hb ndD_read_346 rfl hl (by decide) rfl (fun ls hl => ?_)
                  refine lv_iinc (v := 2) (lv' := [(4, .int 2), (1, .int (fd_rem g (q1 + 1 + 1))), (0, .ref b0), (2, .int (nI q1)), (3, .int 0)]) hx hb ndD_read_347 hl (k := 1) rfl (by decide) (by decide) rfl (fun ls hl => ?_)
                  refine lv_goto (tgt := 279) hx hb ndD_read_350 (by decide) ?_
                  have d_2 : ¬ fd_dig (fd_at n g (nI (q1 + 1))) = 0 := fd_dig1 hn n_293 c_307 c_321
                  have en9 := n_293
                  refine lv_iload hx hb ndD_read_279 (lv_at hl 0 rfl) ?_
                  refine lv_iconst (v := 2) hx hb ndD_read_281 (by decide) ?_
                  refine lv_icmp_ge (tgt := 353) hx hb ndD_read_282 (by decide) (fun _ => ?_) (fun c_282 => absurd (by decide) c_282)
                  refine lv_aload_n hx hb ndD_read_353 rfl (lv_at hl 2 rfl) ?_
                  refine va_get (D := D) (ci := 3) (v := .int (nI n)) (C := nR_D) (T := nT_D) (N := 11) hx hb hts in_D hown hK hP 0 rfl rfl 1 (by decide) (hts _ tb_249) (fun _ h9 => h9) rfl ndD_read_354 ?_
                  refine lv_iload_n hx hb ndD_read_357 rfl (lv_at hl 3 rfl) ?_
                  refine lv_iconst (v := 2) hx hb ndD_read_358 (by decide) ?_
                  refine lv_iadd hx hb ndD_read_359 ?_
                  refine fd_asi (y := nI (q1 + 2)) (nI_add q1 2) ?_
                  refine lv_icmp_le (tgt := 371) hx hb ndD_read_360 (by decide) (fun c_360 => ?_) (fun c_360 => ?_)
                  · have n_360 := (nI_leI (a := n) (b := (q1 + 2)) (by omega) (by omega)).mp c_360
                    refine lv_iload_n hx hb ndD_read_371 rfl (lv_at hl 1 rfl) ?_
                    refine lv_iconst (v := 1) hx hb ndD_read_372 (by decide) ?_
                    refine lv_icmp_eq (tgt := 382) hx hb ndD_read_373 (by decide) (fun c_373 => ?_) (fun c_373 => ?_)
                    · refine lv_aload_n hx hb ndD_read_382 rfl (lv_at hl 2 rfl) ?_
                      refine lv_iconst (v := 0) hx hb ndD_read_383 (by decide) ?_
                      refine fd_asi (y := nI 0) nI_0.symm ?_
                      refine va_put (D := D) (ci := 3) (v := .int (nI 0)) (ty := (.int)) (C := nR_D) (T := nT_D) (N := 11) hx hb hts in_D nt_D nt_D_ok nn_D hown hK hP hD hS 0 rfl rfl 1 (by decide) (hts _ tb_249) (fun _ h9 => h9) rfl (by decide +kernel) rfl rfl (Nat.le_of_ble_eq_true rfl) ndD_read_384 (fun H locs hP hD hS => ?_)
                      have hP : va_P D fd_cl [(b0, .inr (3, [.ref b1, .int (nI 0), .int (nI q), .int (nI 20), .ref b2, .int (nI od), .int cf, .int (nI wn), .ref b3, .int (nI ok), .ref b4])), (b1, .inl (cI, 400, .inl g)), (b2, .inl (cL, 24, .inr (.inl rn1))), (b3, .inl (cI, 200, .inl go)), (b4, .inl (cL, 24, .inr (.inl gn)))] H := hP
                      have hD : va_D A [(b0, .inr (3, [.ref b1, .int (nI 0), .int (nI q), .int (nI 20), .ref b2, .int (nI od), .int cf, .int (nI wn), .ref b3, .int (nI ok), .ref b4])), (b1, .inl (cI, 400, .inl g)), (b2, .inl (cL, 24, .inr (.inl rn1))), (b3, .inl (cI, 200, .inl go)), (b4, .inl (cL, 24, .inr (.inl gn)))] := hD
                      refine lv_aload_n hx hb ndD_read_387 rfl (lv_at hl 2 rfl) ?_
                      refine va_get (D := D) (ci := 3) (v := .int (nI q)) (C := nR_D) (T := nT_D) (N := 11) hx hb hts in_D hown hK hP 0 rfl rfl 2 (by decide) (hts _ tb_250) (fun _ h9 => h9) rfl ndD_read_388 ?_
                      exact fd_retN_i (rn1) hx hb hr hlocks hS hP hD rfl (rfl) (ha) ndD_read_391
                    · have e5 : fd_cd g n q1 = nI q1 := by rw [fd_cd, if_neg d_1, if_neg d_2, if_pos n_360, if_neg (by rw [show n = q1 + 1 + 1 by omega]; exact c_373)]
                      exact absurd (e5.symm.trans (e1.trans hr2)) (fd_nI_ne1 (by omega))
                  · have n_360 := mt (nI_leI (a := n) (b := (q1 + 2)) (by omega) (by omega)).mpr c_360
                    have e5 : fd_cd g n q1 = nI (q1 + 2) := by rw [fd_cd, if_neg d_1, if_neg d_2, if_neg n_360]
                    exact absurd (e5.symm.trans (e1.trans hr2)) (fd_nI_ne1 (by omega))
                · have d0 : fd_dig (fd_at n g (nI (q1 + 1))) = 0 := fd_dig0 hn (by omega) (Or.inr ⟨by omega, Or.inr c_321⟩)
                  have e5 : fd_cd g n q1 = nI (q1 + 1) := by rw [fd_cd, if_neg d_1, if_pos d0]
                  exact absurd (e5.symm.trans (e1.trans hr2)) (fd_nI_ne1 (by omega))
          · have d0 : fd_dig (fd_at n g (nI (q1))) = 0 := fd_dig0 hn (by omega) (Or.inr ⟨by omega, Or.inr c_321⟩)
            have e5 : fd_cd g n q1 = nI (q1) := by rw [fd_cd, if_pos d0]
            exact absurd (e5.symm.trans (e1.trans hr2)) (fd_nI_ne1 (by omega))
    | succ z ih =>
      intro k1 q1 rn1 cs1 cn1 hk9 hq9 hq3 ha hleg hh H locs ls hP hD hS hl
      obtain ⟨s1, hs8, hs1⟩ := fd_due_ex h1q h15 (show k1 ≤ 20 by omega) cn1
      rw [hs1] at hl
      refine lv_iload_n hx hb ndD_read_68 rfl (lv_at hl 3 rfl) ?_
      refine lv_if_le (tgt := 276) hx hb ndD_read_69 (by decide) (fun c_69 => ?_) (fun c_69 => ?_)
      · have n_69 := (nI_leI (a := s1) (b := 0) (by omega) (by omega)).mp c_69
        obtain ⟨e1, rfl, rfl, rfl⟩ := fd_q4 ((fd_ht_end (by rw [hs1, show s1 = 0 by omega]; rfl)).symm.trans hh)
        refine lv_iconst (v := 0) hx hb ndD_read_276 (by decide) ?_
        refine lv_istore (lv' := [(4, .int 0), (0, .ref b0), (1, .int (fd_rem g q1)), (2, .int (nI q1)), (3, .int (nI s1))]) hx hb ndD_read_277 hl (by decide) rfl (fun ls hl => ?_)
        refine lv_iload hx hb ndD_read_279 (lv_at hl 0 rfl) ?_
        refine lv_iconst (v := 2) hx hb ndD_read_281 (by decide) ?_
        refine lv_icmp_ge (tgt := 353) hx hb ndD_read_282 (by decide) (fun c_282 => absurd c_282 (by decide)) (fun _ => ?_)
        refine lv_iload_n hx hb ndD_read_285 rfl (lv_at hl 3 rfl) ?_
        refine lv_iload hx hb ndD_read_286 (lv_at hl 0 rfl) ?_
        refine lv_iadd hx hb ndD_read_288 ?_
        refine fd_asi (y := nI (q1 + 0)) (nI_add q1 0) ?_
        refine lv_aload_n hx hb ndD_read_289 rfl (lv_at hl 1 rfl) ?_
        refine va_get (D := D) (ci := 3) (v := .int (nI n)) (C := nR_D) (T := nT_D) (N := 11) hx hb hts in_D hown hK hP 0 rfl rfl 1 (by decide) (hts _ tb_249) (fun _ h9 => h9) rfl ndD_read_290 ?_
        refine lv_icmp_ge (tgt := 324) hx hb ndD_read_293 (by decide) (fun c_293 => ?_) (fun c_293 => ?_)
        · have n_293 := (nI_leI (a := n) (b := (q1 + 0)) (by omega) (by omega)).mp c_293
          have d0 : fd_dig (fd_at n g (nI (q1))) = 0 := fd_dig0 hn (by omega) (Or.inl (by omega))
          have e5 : fd_cd g n q1 = nI (q1) := by rw [fd_cd, if_pos d0]
          exact absurd (e5.symm.trans (e1.trans hr2)) (fd_nI_ne1 (by omega))
        · have n_293 := mt (nI_leI (a := n) (b := (q1 + 0)) (by omega) (by omega)).mpr c_293
          refine lv_aload_n hx hb ndD_read_296 rfl (lv_at hl 1 rfl) ?_
          refine va_get (D := D) (ci := 3) (v := .ref b1) (C := nR_D) (T := nT_D) (N := 11) hx hb hts in_D hown hK hP 0 rfl rfl 0 (by decide) (hts _ tb_248) (fun _ h9 => h9) rfl ndD_read_297 ?_
          refine lv_iload_n hx hb ndD_read_300 rfl (lv_at hl 3 rfl) ?_
          refine lv_iload hx hb ndD_read_301 (lv_at hl 0 rfl) ?_
          refine lv_iadd hx hb ndD_read_303 ?_
          refine fd_asi (y := nI (q1 + 0)) (nI_add q1 0) ?_
          refine fd_iald hx hb hK hP 1 0 (k := (q1 + 0)) rfl rfl (by omega) (by omega) ndD_read_304 ?_
          refine lv_bipush (v := 48) hx hb ndD_read_305 (by decide) ?_
          refine lv_icmp_lt (tgt := 324) hx hb ndD_read_307 (by decide) (fun c_307 => ?_) (fun c_307 => ?_)
          · have d0 : fd_dig (fd_at n g (nI (q1))) = 0 := fd_dig0 hn (by omega) (Or.inr ⟨by omega, Or.inl c_307⟩)
            have e5 : fd_cd g n q1 = nI (q1) := by rw [fd_cd, if_pos d0]
            exact absurd (e5.symm.trans (e1.trans hr2)) (fd_nI_ne1 (by omega))
          · refine lv_aload_n hx hb ndD_read_310 rfl (lv_at hl 1 rfl) ?_
            refine va_get (D := D) (ci := 3) (v := .ref b1) (C := nR_D) (T := nT_D) (N := 11) hx hb hts in_D hown hK hP 0 rfl rfl 0 (by decide) (hts _ tb_248) (fun _ h9 => h9) rfl ndD_read_311 ?_
            refine lv_iload_n hx hb ndD_read_314 rfl (lv_at hl 3 rfl) ?_
            refine lv_iload hx hb ndD_read_315 (lv_at hl 0 rfl) ?_
            refine lv_iadd hx hb ndD_read_317 ?_
            refine fd_asi (y := nI (q1 + 0)) (nI_add q1 0) ?_
            refine fd_iald hx hb hK hP 1 0 (k := (q1 + 0)) rfl rfl (by omega) (by omega) ndD_read_318 ?_
            refine lv_bipush (v := 57) hx hb ndD_read_319 (by decide) ?_
            refine lv_icmp_le (tgt := 333) hx hb ndD_read_321 (by decide) (fun c_321 => ?_) (fun c_321 => ?_)
            · refine lv_iload_n hx hb ndD_read_333 rfl (lv_at hl 2 rfl) ?_
              refine lv_aload_n hx hb ndD_read_334 rfl (lv_at hl 1 rfl) ?_
              refine va_get (D := D) (ci := 3) (v := .ref b1) (C := nR_D) (T := nT_D) (N := 11) hx hb hts in_D hown hK hP 0 rfl rfl 0 (by decide) (hts _ tb_248) (fun _ h9 => h9) rfl ndD_read_335 ?_
              refine lv_iload_n hx hb ndD_read_338 rfl (lv_at hl 3 rfl) ?_
              refine lv_iload hx hb ndD_read_339 (lv_at hl 0 rfl) ?_
              refine lv_iadd hx hb ndD_read_341 ?_
              refine fd_asi (y := nI (q1 + 0)) (nI_add q1 0) ?_
              refine fd_iald hx hb hK hP 1 0 (k := (q1 + 0)) rfl rfl (by omega) (by omega) ndD_read_342 ?_
              refine fd_go_i (wr := [(b0, .inr (3, [.ref b1, .int (nI n), .int (nI q), .int (nI k1), .ref b2, .int (nI od), .int cf, .int (nI wn), .ref b3, .int (nI ok), .ref b4])), (b1, .inl (cI, 400, .inl g)), (b2, .inl (cL, 24, .inr (.inl rn1))), (b3, .inl (cI, 200, .inl go)), (b4, .inl (cL, 24, .inr (.inl gn)))]) (w2 := [(b0, .inr (3, [.ref b1, .int (nI n), .int (nI q), .int (nI k1), .ref b2, .int (nI od), .int cf, .int (nI wn), .ref b3, .int (nI ok), .ref b4])), (b1, .inl (cI, 400, .inl g)), (b2, .inl (cL, 24, .inr (.inl rn1))), (b3, .inl (cI, 200, .inl go)), (b4, .inl (cL, 24, .inr (.inl gn)))]) (va_runS (As := [.int (fd_rem g q1), .int (g (q1 + 0))]) (rest := []) ⟨hx, hb, hml, hown, hts⟩ (kD_step l D Z cI cL (fd_rem g q1) (g (q1 + 0)) H.size) (va_cwS 2 hts (fd_gS tb_288 tb_289 tb_16 tb_290) rfl rfl rfl nhD_step.2 ⟨(Nat.le_of_ble_eq_true rfl), (Nat.le_of_ble_eq_true rfl)⟩) (fd_PreS hE hK hEV hA hP hD hS [] rfl (by decide)) rfl rfl hl.1 rfl (lv_room (Nat.le_of_ble_eq_true rfl)) ndD_read_343 ⟨(Nat.le_of_ble_eq_true rfl), (Nat.le_of_ble_eq_true rfl)⟩) hP hD hS hA [] [0, 1, 2, 3, 4] rfl rfl (by decide) (by decide) [0, 1, 2, 3, 4] rfl (by decide) (fun H locs hP hD hS => ?_)
              refine fd_asi (y := fd_rem g (q1 + 1)) (fd_stp_eq (fd_sg_dig c_307 c_321) _) ?_
              refine lv_istore_n (lv' := [(1, .int (fd_rem g (q1 + 1))), (4, .int 0), (0, .ref b0), (2, .int (nI q1)), (3, .int (nI s1))]) hx hb ndD_read_346 rfl hl (by decide) rfl (fun ls hl => ?_)
              refine lv_iinc (v := 1) (lv' := [(4, .int 1), (1, .int (fd_rem g (q1 + 1))), (0, .ref b0), (2, .int (nI q1)), (3, .int (nI s1))]) hx hb ndD_read_347 hl (k := 1) rfl (by decide) (by decide) rfl (fun ls hl => ?_)
              refine lv_goto (tgt := 279) hx hb ndD_read_350 (by decide) ?_
              have d_1 : ¬ fd_dig (fd_at n g (nI q1)) = 0 := fd_dig1 hn n_293 c_307 c_321
              refine lv_iload hx hb ndD_read_279 (lv_at hl 0 rfl) ?_
              refine lv_iconst (v := 2) hx hb ndD_read_281 (by decide) ?_
              refine lv_icmp_ge (tgt := 353) hx hb ndD_read_282 (by decide) (fun c_282 => absurd c_282 (by decide)) (fun _ => ?_)
              refine lv_iload_n hx hb ndD_read_285 rfl (lv_at hl 3 rfl) ?_
              refine lv_iload hx hb ndD_read_286 (lv_at hl 0 rfl) ?_
              refine lv_iadd hx hb ndD_read_288 ?_
              refine fd_asi (y := nI (q1 + 1)) (nI_add q1 1) ?_
              refine lv_aload_n hx hb ndD_read_289 rfl (lv_at hl 2 rfl) ?_
              refine va_get (D := D) (ci := 3) (v := .int (nI n)) (C := nR_D) (T := nT_D) (N := 11) hx hb hts in_D hown hK hP 0 rfl rfl 1 (by decide) (hts _ tb_249) (fun _ h9 => h9) rfl ndD_read_290 ?_
              refine lv_icmp_ge (tgt := 324) hx hb ndD_read_293 (by decide) (fun c_293 => ?_) (fun c_293 => ?_)
              · have n_293 := (nI_leI (a := n) (b := (q1 + 1)) (by omega) (by omega)).mp c_293
                have d0 : fd_dig (fd_at n g (nI (q1 + 1))) = 0 := fd_dig0 hn (by omega) (Or.inl (by omega))
                have e5 : fd_cd g n q1 = nI (q1 + 1) := by rw [fd_cd, if_neg d_1, if_pos d0]
                exact absurd (e5.symm.trans (e1.trans hr2)) (fd_nI_ne1 (by omega))
              · have n_293 := mt (nI_leI (a := n) (b := (q1 + 1)) (by omega) (by omega)).mpr c_293
                refine lv_aload_n hx hb ndD_read_296 rfl (lv_at hl 2 rfl) ?_
                refine va_get (D := D) (ci := 3) (v := .ref b1) (C := nR_D) (T := nT_D) (N := 11) hx hb hts in_D hown hK hP 0 rfl rfl 0 (by decide) (hts _ tb_248) (fun _ h9 => h9) rfl ndD_read_297 ?_
                refine lv_iload_n hx hb ndD_read_300 rfl (lv_at hl 3 rfl) ?_
                refine lv_iload hx hb ndD_read_301 (lv_at hl 0 rfl) ?_
                refine lv_iadd hx hb ndD_read_303 ?_
                refine fd_asi (y := nI (q1 + 1)) (nI_add q1 1) ?_
                refine fd_iald hx hb hK hP 1 0 (k := (q1 + 1)) rfl rfl (by omega) (by omega) ndD_read_304 ?_
                refine lv_bipush (v := 48) hx hb ndD_read_305 (by decide) ?_
                refine lv_icmp_lt (tgt := 324) hx hb ndD_read_307 (by decide) (fun c_307 => ?_) (fun c_307 => ?_)
                · have d0 : fd_dig (fd_at n g (nI (q1 + 1))) = 0 := fd_dig0 hn (by omega) (Or.inr ⟨by omega, Or.inl c_307⟩)
                  have e5 : fd_cd g n q1 = nI (q1 + 1) := by rw [fd_cd, if_neg d_1, if_pos d0]
                  exact absurd (e5.symm.trans (e1.trans hr2)) (fd_nI_ne1 (by omega))
                · refine lv_aload_n hx hb ndD_read_310 rfl (lv_at hl 2 rfl) ?_
                  refine va_get (D := D) (ci := 3) (v := .ref b1) (C := nR_D) (T := nT_D) (N := 11) hx hb hts in_D hown hK hP 0 rfl rfl 0 (by decide) (hts _ tb_248) (fun _ h9 => h9) rfl ndD_read_311 ?_
                  refine lv_iload_n hx hb ndD_read_314 rfl (lv_at hl 3 rfl) ?_
                  refine lv_iload hx hb ndD_read_315 (lv_at hl 0 rfl) ?_
                  refine lv_iadd hx hb ndD_read_317 ?_
                  refine fd_asi (y := nI (q1 + 1)) (nI_add q1 1) ?_
                  refine fd_iald hx hb hK hP 1 0 (k := (q1 + 1)) rfl rfl (by omega) (by omega) ndD_read_318 ?_
                  refine lv_bipush (v := 57) hx hb ndD_read_319 (by decide) ?_
                  refine lv_icmp_le (tgt := 333) hx hb ndD_read_321 (by decide) (fun c_321 => ?_) (fun c_321 => ?_)
                  · refine lv_iload_n hx hb ndD_read_333 rfl (lv_at hl 1 rfl) ?_
                    refine lv_aload_n hx hb ndD_read_334 rfl (lv_at hl 2 rfl) ?_
                    refine va_get (D := D) (ci := 3) (v := .ref b1) (C := nR_D) (T := nT_D) (N := 11) hx hb hts in_D hown hK hP 0 rfl rfl 0 (by decide) (hts _ tb_248) (fun _ h9 => h9) rfl ndD_read_335 ?_
                    refine lv_iload_n hx hb ndD_read_338 rfl (lv_at hl 3 rfl) ?_
                    refine lv_iload hx hb ndD_read_339 (lv_at hl 0 rfl) ?_
                    refine lv_iadd hx hb ndD_read_341 ?_
                    refine fd_asi (y := nI (q1 + 1)) (nI_add q1 1) ?_
                    refine fd_iald hx hb hK hP 1 0 (k := (q1 + 1)) rfl rfl (by omega) (by omega) ndD_read_342 ?_
                    refine fd_go_i (wr := [(b0, .inr (3, [.ref b1, .int (nI n), .int (nI q), .int (nI k1), .ref b2, .int (nI od), .int cf, .int (nI wn), .ref b3, .int (nI ok), .ref b4])), (b1, .inl (cI, 400, .inl g)), (b2, .inl (cL, 24, .inr (.inl rn1))), (b3, .inl (cI, 200, .inl go)), (b4, .inl (cL, 24, .inr (.inl gn)))]) (w2 := [(b0, .inr (3, [.ref b1, .int (nI n), .int (nI q), .int (nI k1), .ref b2, .int (nI od), .int cf, .int (nI wn), .ref b3, .int (nI ok), .ref b4])), (b1, .inl (cI, 400, .inl g)), (b2, .inl (cL, 24, .inr (.inl rn1))), (b3, .inl (cI, 200, .inl go)), (b4, .inl (cL, 24, .inr (.inl gn)))]) (va_runS (As := [.int (fd_rem g (q1 + 1)), .int (g (q1 + 1))]) (rest := []) ⟨hx, hb, hml, hown, hts⟩ (kD_step l D Z cI cL (fd_rem g (q1 + 1)) (g (q1 + 1)) H.size) (va_cwS 2 hts (fd_gS tb_288 tb_289 tb_16 tb_290) rfl rfl rfl nhD_step.2 ⟨(Nat.le_of_ble_eq_true rfl), (Nat.le_of_ble_eq_true rfl)⟩) (fd_PreS hE hK hEV hA hP hD hS [] rfl (by decide)) rfl rfl hl.1 rfl (lv_room (Nat.le_of_ble_eq_true rfl)) ndD_read_343 ⟨(Nat.le_of_ble_eq_true rfl), (Nat.le_of_ble_eq_true rfl)⟩) hP hD hS hA [] [0, 1, 2, 3, 4] rfl rfl (by decide) (by decide) [0, 1, 2, 3, 4] rfl (by decide) (fun H locs hP hD hS => ?_)
                    refine fd_asi (y := fd_rem g (q1 + 1 + 1)) (fd_stp_eq (fd_sg_dig c_307 c_321) _) ?_
                    refine lv_istore_n (lv' := [(1, .int (fd_rem g (q1 + 1 + 1))), (4, .int 1), (0, .ref b0), (2, .int (nI q1)), (3, .int (nI s1))]) hx hb ndD_read_346 rfl hl (by decide) rfl (fun ls hl => ?_)
                    refine lv_iinc (v := 2) (lv' := [(4, .int 2), (1, .int (fd_rem g (q1 + 1 + 1))), (0, .ref b0), (2, .int (nI q1)), (3, .int (nI s1))]) hx hb ndD_read_347 hl (k := 1) rfl (by decide) (by decide) rfl (fun ls hl => ?_)
                    refine lv_goto (tgt := 279) hx hb ndD_read_350 (by decide) ?_
                    have d_2 : ¬ fd_dig (fd_at n g (nI (q1 + 1))) = 0 := fd_dig1 hn n_293 c_307 c_321
                    have en9 := n_293
                    refine lv_iload hx hb ndD_read_279 (lv_at hl 0 rfl) ?_
                    refine lv_iconst (v := 2) hx hb ndD_read_281 (by decide) ?_
                    refine lv_icmp_ge (tgt := 353) hx hb ndD_read_282 (by decide) (fun _ => ?_) (fun c_282 => absurd (by decide) c_282)
                    refine lv_aload_n hx hb ndD_read_353 rfl (lv_at hl 2 rfl) ?_
                    refine va_get (D := D) (ci := 3) (v := .int (nI n)) (C := nR_D) (T := nT_D) (N := 11) hx hb hts in_D hown hK hP 0 rfl rfl 1 (by decide) (hts _ tb_249) (fun _ h9 => h9) rfl ndD_read_354 ?_
                    refine lv_iload_n hx hb ndD_read_357 rfl (lv_at hl 3 rfl) ?_
                    refine lv_iconst (v := 2) hx hb ndD_read_358 (by decide) ?_
                    refine lv_iadd hx hb ndD_read_359 ?_
                    refine fd_asi (y := nI (q1 + 2)) (nI_add q1 2) ?_
                    refine lv_icmp_le (tgt := 371) hx hb ndD_read_360 (by decide) (fun c_360 => ?_) (fun c_360 => ?_)
                    · have n_360 := (nI_leI (a := n) (b := (q1 + 2)) (by omega) (by omega)).mp c_360
                      refine lv_iload_n hx hb ndD_read_371 rfl (lv_at hl 1 rfl) ?_
                      refine lv_iconst (v := 1) hx hb ndD_read_372 (by decide) ?_
                      refine lv_icmp_eq (tgt := 382) hx hb ndD_read_373 (by decide) (fun c_373 => ?_) (fun c_373 => ?_)
                      · refine lv_aload_n hx hb ndD_read_382 rfl (lv_at hl 2 rfl) ?_
                        refine lv_iconst (v := 0) hx hb ndD_read_383 (by decide) ?_
                        refine fd_asi (y := nI 0) nI_0.symm ?_
                        refine va_put (D := D) (ci := 3) (v := .int (nI 0)) (ty := (.int)) (C := nR_D) (T := nT_D) (N := 11) hx hb hts in_D nt_D nt_D_ok nn_D hown hK hP hD hS 0 rfl rfl 1 (by decide) (hts _ tb_249) (fun _ h9 => h9) rfl (by decide +kernel) rfl rfl (Nat.le_of_ble_eq_true rfl) ndD_read_384 (fun H locs hP hD hS => ?_)
                        have hP : va_P D fd_cl [(b0, .inr (3, [.ref b1, .int (nI 0), .int (nI q), .int (nI k1), .ref b2, .int (nI od), .int cf, .int (nI wn), .ref b3, .int (nI ok), .ref b4])), (b1, .inl (cI, 400, .inl g)), (b2, .inl (cL, 24, .inr (.inl rn1))), (b3, .inl (cI, 200, .inl go)), (b4, .inl (cL, 24, .inr (.inl gn)))] H := hP
                        have hD : va_D A [(b0, .inr (3, [.ref b1, .int (nI 0), .int (nI q), .int (nI k1), .ref b2, .int (nI od), .int cf, .int (nI wn), .ref b3, .int (nI ok), .ref b4])), (b1, .inl (cI, 400, .inl g)), (b2, .inl (cL, 24, .inr (.inl rn1))), (b3, .inl (cI, 200, .inl go)), (b4, .inl (cL, 24, .inr (.inl gn)))] := hD
                        refine lv_aload_n hx hb ndD_read_387 rfl (lv_at hl 2 rfl) ?_
                        refine va_get (D := D) (ci := 3) (v := .int (nI q)) (C := nR_D) (T := nT_D) (N := 11) hx hb hts in_D hown hK hP 0 rfl rfl 2 (by decide) (hts _ tb_250) (fun _ h9 => h9) rfl ndD_read_388 ?_
                        exact fd_retN_i (rn1) hx hb hr hlocks hS hP hD rfl (rfl) (ha) ndD_read_391
                      · have e5 : fd_cd g n q1 = nI q1 := by rw [fd_cd, if_neg d_1, if_neg d_2, if_pos n_360, if_neg (by rw [show n = q1 + 1 + 1 by omega]; exact c_373)]
                        exact absurd (e5.symm.trans (e1.trans hr2)) (fd_nI_ne1 (by omega))
                    · have n_360 := mt (nI_leI (a := n) (b := (q1 + 2)) (by omega) (by omega)).mpr c_360
                      have e5 : fd_cd g n q1 = nI (q1 + 2) := by rw [fd_cd, if_neg d_1, if_neg d_2, if_neg n_360]
                      exact absurd (e5.symm.trans (e1.trans hr2)) (fd_nI_ne1 (by omega))
                  · have d0 : fd_dig (fd_at n g (nI (q1 + 1))) = 0 := fd_dig0 hn (by omega) (Or.inr ⟨by omega, Or.inr c_321⟩)
                    have e5 : fd_cd g n q1 = nI (q1 + 1) := by rw [fd_cd, if_neg d_1, if_pos d0]
                    exact absurd (e5.symm.trans (e1.trans hr2)) (fd_nI_ne1 (by omega))
            · have d0 : fd_dig (fd_at n g (nI (q1))) = 0 := fd_dig0 hn (by omega) (Or.inr ⟨by omega, Or.inr c_321⟩)
              have e5 : fd_cd g n q1 = nI (q1) := by rw [fd_cd, if_pos d0]
              exact absurd (e5.symm.trans (e1.trans hr2)) (fd_nI_ne1 (by omega))
      · have n_69 := mt (nI_leI (a := s1) (b := 0) (by omega) (by omega)).mpr c_69
        have hs0 : 1 ≤ s1 := by omega
        have hdz : ¬ fd_due q k1 cn1 = 0 := by rw [hs1]; exact nI_ne0 (by omega) (by omega)
        obtain ⟨zz, hzz, hmz, hz1⟩ := fd_mz_nI (show k1 ≤ 20 by omega) hs0 hs8 hs1
        have hmr : fd_mz q k1 rn1 = nI zz := (fd_mz_congr (by omega) (fun h => ha 3 h)).trans hmz
        obtain ⟨w, hw⟩ : ∃ w, fd_W (nI s1) = w := ⟨_, rfl⟩
        have hwl : w ≤ 15 := by rw [← hw]; exact fd_W_le _
        have hw5 : s1 = 5 → w = 1 := by rw [← hw]; exact (fd_W_all s1 (by omega) hs0).2
        obtain ⟨r9, x9, hx9⟩ : ∃ r x, fd_hfd g n q k1 q1 cn1 = (r, x) := ⟨_, _, rfl⟩
        have hh0 : fd_hf (nI s1) (nI zz) g n w q1 0 = (r9, x9) := by rw [← hx9, fd_hfd, hs1, hmz, hw]
        have cut104 : ∀ (ls : Array Slot), lv_has ls 6 [(0, .ref b0), (1, .int (fd_rem g q1)), (2, .int (nI q1)), (3, .int (nI s1))] → W p l e nmD_read s m ([.ref b0].toArray) below meth c H locs 0 0 (MQ below (va_Qi (fun r' (u : Nat → Int64) => r' = (nI q) ∧ ∀ j, j < k9 → u j = cn9 j) (fd_BN D fd_cl A (fun u : Nat → Int64 => [(b0, .inr (3, [.ref b1, .int (nI 0), .int (nI q), .int (nI k9), .ref b2, .int (nI od), .int cf, .int (nI wn), .ref b3, .int (nI ok), .ref b4])), (b1, .inl (cI, 400, .inl g)), (b2, .inl (cL, 24, .inr (.inl u))), (b3, .inl (cI, 200, .inl go)), (b4, .inl (cL, 24, .inr (.inl gn)))])) A) [.ref b0].toArray s 0 0 A) (F0 m 104 ls [.int (nI zz)]) := by
          intro ls hl
          refine lv_istore (lv' := [(4, .int (nI zz)), (0, .ref b0), (1, .int (fd_rem g q1)), (2, .int (nI q1)), (3, .int (nI s1))]) hx hb ndD_read_104 hl (by decide) rfl (fun ls hl => ?_)
          refine lv_aload_n hx hb ndD_read_106 rfl (lv_at hl 1 rfl) ?_
          refine va_get (D := D) (ci := 3) (v := .ref b2) (C := nR_D) (T := nT_D) (N := 11) hx hb hts in_D hown hK hP 0 rfl rfl 4 (by decide) (hts _ tb_252) (fun _ h9 => h9) rfl ndD_read_107 ?_
          refine lv_aload_n hx hb ndD_read_110 rfl (lv_at hl 1 rfl) ?_
          refine va_get (D := D) (ci := 3) (v := .int (nI k1)) (C := nR_D) (T := nT_D) (N := 11) hx hb hts in_D hown hK hP 0 rfl rfl 3 (by decide) (hts _ tb_251) (fun _ h9 => h9) rfl ndD_read_111 ?_
          refine lv_lconst (v := 0) hx hb ndD_read_114 (by decide) ?_
          refine fd_last hx hb hK hP hD hS 2 1 (k := k1) rfl rfl (by omega) (by omega) ndD_read_115 (fun H locs hP hD hS => ?_)
          have hP : va_P D fd_cl [(b0, .inr (3, [.ref b1, .int (nI n), .int (nI q), .int (nI k1), .ref b2, .int (nI od), .int cf, .int (nI wn), .ref b3, .int (nI ok), .ref b4])), (b1, .inl (cI, 400, .inl g)), (b2, .inl (cL, 24, .inr (.inl (vp_updL rn1 k1 0)))), (b3, .inl (cI, 200, .inl go)), (b4, .inl (cL, 24, .inr (.inl gn)))] H := hP
          have hD : va_D A [(b0, .inr (3, [.ref b1, .int (nI n), .int (nI q), .int (nI k1), .ref b2, .int (nI od), .int cf, .int (nI wn), .ref b3, .int (nI ok), .ref b4])), (b1, .inl (cI, 400, .inl g)), (b2, .inl (cL, 24, .inr (.inl (vp_updL rn1 k1 0)))), (b3, .inl (cI, 200, .inl go)), (b4, .inl (cL, 24, .inr (.inl gn)))] := hD
          refine lv_iconst (v := 0) hx hb ndD_read_116 (by decide) ?_
          refine lv_istore (lv' := [(5, .int 0), (4, .int (nI zz)), (0, .ref b0), (1, .int (fd_rem g q1)), (2, .int (nI q1)), (3, .int (nI s1))]) hx hb ndD_read_117 hl (by decide) rfl (fun ls hl => ?_)
          have loop2 : ∀ (y : Nat) (i p2 : Nat) (acc : Int64) (hi : i + y = w) (hp2 : p2 = q1 + i) (hpn : p2 ≤ n) (hacc : i = 0 → acc = 0) (hh2 : fd_hf (nI s1) (nI zz) g n y p2 acc = (r9, x9)) (H : Heap) (locs : List Loc) (ls : Array Slot), va_P D fd_cl [(b0, .inr (3, [.ref b1, .int (nI n), .int (nI q), .int (nI k1), .ref b2, .int (nI od), .int cf, .int (nI wn), .ref b3, .int (nI ok), .ref b4])), (b1, .inl (cI, 400, .inl g)), (b2, .inl (cL, 24, .inr (.inl (vp_updL rn1 k1 acc)))), (b3, .inl (cI, 200, .inl go)), (b4, .inl (cL, 24, .inr (.inl gn)))] H → va_D A [(b0, .inr (3, [.ref b1, .int (nI n), .int (nI q), .int (nI k1), .ref b2, .int (nI od), .int cf, .int (nI wn), .ref b3, .int (nI ok), .ref b4])), (b1, .inl (cI, 400, .inl g)), (b2, .inl (cL, 24, .inr (.inl (vp_updL rn1 k1 acc)))), (b3, .inl (cI, 200, .inl go)), (b4, .inl (cL, 24, .inr (.inl gn)))] → va_S A s.heap H locs → lv_has ls 6 [(0, .ref b0), (1, .int (fd_rem g p2)), (2, .int (nI p2)), (3, .int (nI s1)), (4, .int (nI zz)), (5, .int (nI i))] → W p l e nmD_read s m ([.ref b0].toArray) below meth c H locs 0 0 (MQ below (va_Qi (fun r' (u : Nat → Int64) => r' = (nI q) ∧ ∀ j, j < k9 → u j = cn9 j) (fd_BN D fd_cl A (fun u : Nat → Int64 => [(b0, .inr (3, [.ref b1, .int (nI 0), .int (nI q), .int (nI k9), .ref b2, .int (nI od), .int cf, .int (nI wn), .ref b3, .int (nI ok), .ref b4])), (b1, .inl (cI, 400, .inl g)), (b2, .inl (cL, 24, .inr (.inl u))), (b3, .inl (cI, 200, .inl go)), (b4, .inl (cL, 24, .inr (.inl gn)))])) A) [.ref b0].toArray s 0 0 A) (F0 m 119 ls []) := by
            intro y
            induction y with
            | zero =>
              intro i p2 acc hi hp2 hpn hacc hh2 H locs ls hP hD hS hl
              obtain ⟨e8, e9⟩ := Prod.mk.inj hh2
              subst e8
              subst e9
              have ha2 := fd_agree (x := acc) ha
              have ep : p2 = q1 + fd_W (fd_due q k1 cn1) := by rw [hs1, hw]; omega
              refine lv_iload hx hb ndD_read_119 (lv_at hl 5 rfl) ?_
              refine lv_iload_n hx hb ndD_read_121 rfl (lv_at hl 3 rfl) ?_
              refine fd_go_i (wr := [(b0, .inr (3, [.ref b1, .int (nI n), .int (nI q), .int (nI k1), .ref b2, .int (nI od), .int cf, .int (nI wn), .ref b3, .int (nI ok), .ref b4])), (b1, .inl (cI, 400, .inl g)), (b2, .inl (cL, 24, .inr (.inl (vp_updL rn1 k1 acc)))), (b3, .inl (cI, 200, .inl go)), (b4, .inl (cL, 24, .inr (.inl gn)))]) (w2 := [(b0, .inr (3, [.ref b1, .int (nI n), .int (nI q), .int (nI k1), .ref b2, .int (nI od), .int cf, .int (nI wn), .ref b3, .int (nI ok), .ref b4])), (b1, .inl (cI, 400, .inl g)), (b2, .inl (cL, 24, .inr (.inl (vp_updL rn1 k1 acc)))), (b3, .inl (cI, 200, .inl go)), (b4, .inl (cL, 24, .inr (.inl gn)))]) (va_runS (As := [.int (nI s1)]) (rest := [.int (nI i)]) ⟨hx, hb, hml, hown, hts⟩ (kD_width l D Z cI cL (s1 := s1) (by omega) (by omega) H.size) (va_cwS 1 hts (fd_gS tb_291 tb_292 tb_16 tb_293) rfl rfl rfl nhD_width.2 ⟨(Nat.le_of_ble_eq_true rfl), (Nat.le_of_ble_eq_true rfl)⟩) (fd_PreS hE hK hEV hA hP hD hS [] rfl (by decide)) rfl rfl hl.1 rfl (lv_room (Nat.le_of_ble_eq_true rfl)) ndD_read_122 ⟨(Nat.le_of_ble_eq_true rfl), (Nat.le_of_ble_eq_true rfl)⟩) hP hD hS hA [] [0, 1, 2, 3, 4] rfl rfl (by decide) (by decide) [0, 1, 2, 3, 4] rfl (by decide) (fun H locs hP hD hS => ?_)
              refine fd_asi (y := nI w) (by rw [hw]) ?_
              refine lv_icmp_ge (tgt := 245) hx hb ndD_read_125 (by decide) (fun _ => ?_) (fun c_125 => absurd ((nI_leI (a := w) (b := i) (by omega) (by omega)).mpr (by omega)) c_125)
              refine lv_aload_n hx hb ndD_read_245 rfl (lv_at hl 0 rfl) ?_
              refine lv_aload_n hx hb ndD_read_246 rfl (lv_at hl 0 rfl) ?_
              refine va_get (D := D) (ci := 3) (v := .int (nI k1)) (C := nR_D) (T := nT_D) (N := 11) hx hb hts in_D hown hK hP 0 rfl rfl 3 (by decide) (hts _ tb_251) (fun _ h9 => h9) rfl ndD_read_247 ?_
              refine lv_iconst (v := 1) hx hb ndD_read_250 (by decide) ?_
              refine lv_iadd hx hb ndD_read_251 ?_
              refine fd_asi (y := nI (k1 + 1)) (nI_1 k1) ?_
              refine va_put (D := D) (ci := 3) (v := .int (nI (k1 + 1))) (ty := (.int)) (C := nR_D) (T := nT_D) (N := 11) hx hb hts in_D nt_D nt_D_ok nn_D hown hK hP hD hS 0 rfl rfl 3 (by decide) (hts _ tb_251) (fun _ h9 => h9) rfl (by decide +kernel) rfl rfl (Nat.le_of_ble_eq_true rfl) ndD_read_252 (fun H locs hP hD hS => ?_)
              have hP : va_P D fd_cl [(b0, .inr (3, [.ref b1, .int (nI n), .int (nI q), .int (nI (k1 + 1)), .ref b2, .int (nI od), .int cf, .int (nI wn), .ref b3, .int (nI ok), .ref b4])), (b1, .inl (cI, 400, .inl g)), (b2, .inl (cL, 24, .inr (.inl (vp_updL rn1 k1 acc)))), (b3, .inl (cI, 200, .inl go)), (b4, .inl (cL, 24, .inr (.inl gn)))] H := hP
              have hD : va_D A [(b0, .inr (3, [.ref b1, .int (nI n), .int (nI q), .int (nI (k1 + 1)), .ref b2, .int (nI od), .int cf, .int (nI wn), .ref b3, .int (nI ok), .ref b4])), (b1, .inl (cI, 400, .inl g)), (b2, .inl (cL, 24, .inr (.inl (vp_updL rn1 k1 acc)))), (b3, .inl (cI, 200, .inl go)), (b4, .inl (cL, 24, .inr (.inl gn)))] := hD
              refine lv_aload_n hx hb ndD_read_255 rfl (lv_at hl 0 rfl) ?_
              refine va_get (D := D) (ci := 3) (v := .int (nI q)) (C := nR_D) (T := nT_D) (N := 11) hx hb hts in_D hown hK hP 0 rfl rfl 2 (by decide) (hts _ tb_250) (fun _ h9 => h9) rfl ndD_read_256 ?_
              refine lv_aload_n hx hb ndD_read_259 rfl (lv_at hl 0 rfl) ?_
              refine va_get (D := D) (ci := 3) (v := .int (nI (k1 + 1))) (C := nR_D) (T := nT_D) (N := 11) hx hb hts in_D hown hK hP 0 rfl rfl 3 (by decide) (hts _ tb_251) (fun _ h9 => h9) rfl ndD_read_260 ?_
              refine lv_aload_n hx hb ndD_read_263 rfl (lv_at hl 0 rfl) ?_
              refine va_get (D := D) (ci := 3) (v := .ref b2) (C := nR_D) (T := nT_D) (N := 11) hx hb hts in_D hown hK hP 0 rfl rfl 4 (by decide) (hts _ tb_252) (fun _ h9 => h9) rfl ndD_read_264 ?_
              refine lv_iconst (v := 3) hx hb ndD_read_267 (by decide) ?_
              refine fd_asi (y := nI 3) rfl ?_
              refine fd_lald hx hb hK hP 2 1 (k := 3) rfl rfl (by omega) (by omega) ndD_read_268 ?_
              refine fd_go_i (wr := [(b0, .inr (3, [.ref b1, .int (nI n), .int (nI q), .int (nI (k1 + 1)), .ref b2, .int (nI od), .int cf, .int (nI wn), .ref b3, .int (nI ok), .ref b4])), (b1, .inl (cI, 400, .inl g)), (b2, .inl (cL, 24, .inr (.inl (vp_updL rn1 k1 acc)))), (b3, .inl (cI, 200, .inl go)), (b4, .inl (cL, 24, .inr (.inl gn)))]) (w2 := [(b0, .inr (3, [.ref b1, .int (nI n), .int (nI q), .int (nI (k1 + 1)), .ref b2, .int (nI od), .int cf, .int (nI wn), .ref b3, .int (nI ok), .ref b4])), (b1, .inl (cI, 400, .inl g)), (b2, .inl (cL, 24, .inr (.inl (vp_updL rn1 k1 acc)))), (b3, .inl (cI, 200, .inl go)), (b4, .inl (cL, 24, .inr (.inl gn)))]) (va_runS (As := [.int (nI q), .int (nI (k1 + 1)), .long ((vp_updL rn1 k1 acc) 3)]) (rest := []) ⟨hx, hb, hml, hown, hts⟩ (kD_sortOf l D Z cI cL (kd := q) (j := (k1 + 1)) (by omega) (by omega) (by omega) ((vp_updL rn1 k1 acc) 3) H.size) (va_cwS 3 hts (fd_gS tb_303 tb_304 tb_16 tb_305) rfl rfl rfl nhD_sortOf.2 ⟨(Nat.le_of_ble_eq_true rfl), (Nat.le_of_ble_eq_true rfl)⟩) (fd_PreS hE hK hEV hA hP hD hS [] rfl (by decide)) rfl rfl hl.1 rfl (lv_room (Nat.le_of_ble_eq_true rfl)) ndD_read_269 ⟨(Nat.le_of_ble_eq_true rfl), (Nat.le_of_ble_eq_true rfl)⟩) hP hD hS hA [] [0, 1, 2, 3, 4] rfl rfl (by decide) (by decide) [0, 1, 2, 3, 4] rfl (by decide) (fun H locs hP hD hS => ?_)
              refine fd_asi (y := fd_due q (k1 + 1) (vp_updL cn1 k1 acc)) (fd_due_congr (b := vp_updL cn1 k1 acc) (fun h => ha2 3 (by omega))) ?_
              refine lv_istore_n (lv' := [(3, .int (fd_due q (k1 + 1) (vp_updL cn1 k1 acc))), (0, .ref b0), (1, .int (fd_rem g p2)), (2, .int (nI p2)), (4, .int (nI zz)), (5, .int (nI i))]) hx hb ndD_read_272 rfl hl (by decide) rfl (fun ls hl => ?_)
              refine lv_goto (tgt := 68) hx hb ndD_read_273 (by decide) ?_
              exact ih (k1 + 1) p2 _ _ _ (by omega) (by omega) hpn ha2 (fd_leg_step hby hn (by omega) hs1 hs8 hw hh0 hleg) (by rw [ep]; exact (fd_ht_ok hdz hx9).symm.trans hh) _ _ _ hP hD hS (lv_sub hl [1, 2, 3, 0] rfl)
            | succ y ih =>
              intro i p2 acc hi hp2 hpn hacc hh2 H locs ls hP hD hS hl
              refine lv_iload hx hb ndD_read_119 (lv_at hl 5 rfl) ?_
              refine lv_iload_n hx hb ndD_read_121 rfl (lv_at hl 3 rfl) ?_
              refine fd_go_i (wr := [(b0, .inr (3, [.ref b1, .int (nI n), .int (nI q), .int (nI k1), .ref b2, .int (nI od), .int cf, .int (nI wn), .ref b3, .int (nI ok), .ref b4])), (b1, .inl (cI, 400, .inl g)), (b2, .inl (cL, 24, .inr (.inl (vp_updL rn1 k1 acc)))), (b3, .inl (cI, 200, .inl go)), (b4, .inl (cL, 24, .inr (.inl gn)))]) (w2 := [(b0, .inr (3, [.ref b1, .int (nI n), .int (nI q), .int (nI k1), .ref b2, .int (nI od), .int cf, .int (nI wn), .ref b3, .int (nI ok), .ref b4])), (b1, .inl (cI, 400, .inl g)), (b2, .inl (cL, 24, .inr (.inl (vp_updL rn1 k1 acc)))), (b3, .inl (cI, 200, .inl go)), (b4, .inl (cL, 24, .inr (.inl gn)))]) (va_runS (As := [.int (nI s1)]) (rest := [.int (nI i)]) ⟨hx, hb, hml, hown, hts⟩ (kD_width l D Z cI cL (s1 := s1) (by omega) (by omega) H.size) (va_cwS 1 hts (fd_gS tb_291 tb_292 tb_16 tb_293) rfl rfl rfl nhD_width.2 ⟨(Nat.le_of_ble_eq_true rfl), (Nat.le_of_ble_eq_true rfl)⟩) (fd_PreS hE hK hEV hA hP hD hS [] rfl (by decide)) rfl rfl hl.1 rfl (lv_room (Nat.le_of_ble_eq_true rfl)) ndD_read_122 ⟨(Nat.le_of_ble_eq_true rfl), (Nat.le_of_ble_eq_true rfl)⟩) hP hD hS hA [] [0, 1, 2, 3, 4] rfl rfl (by decide) (by decide) [0, 1, 2, 3, 4] rfl (by decide) (fun H locs hP hD hS => ?_)
              refine fd_asi (y := nI w) (by rw [hw]) ?_
              refine lv_icmp_ge (tgt := 245) hx hb ndD_read_125 (by decide) (fun c_125 => absurd c_125 (fun h9 => absurd ((nI_leI (a := w) (b := i) (by omega) (by omega)).mp h9) (by omega))) (fun _ => ?_)
              refine lv_iload_n hx hb ndD_read_128 rfl (lv_at hl 2 rfl) ?_
              refine lv_aload_n hx hb ndD_read_129 rfl (lv_at hl 0 rfl) ?_
              refine va_get (D := D) (ci := 3) (v := .int (nI n)) (C := nR_D) (T := nT_D) (N := 11) hx hb hts in_D hown hK hP 0 rfl rfl 1 (by decide) (hts _ tb_249) (fun _ h9 => h9) rfl ndD_read_130 ?_
              refine lv_icmp_eq (tgt := 151) hx hb ndD_read_133 (by decide) (fun c_133 => ?_) (fun c_133 => ?_)
              · have n_133 := (nI_eq (a := p2) (b := n) (by omega) (by omega)).mp c_133
                have e6 : r9 = nI p2 := (Prod.mk.inj ((fd_hf_no hs0 hs8 hzz hz1 hby hn (Or.inl (by omega)) (by omega)).symm.trans hh2)).1.symm
                have e7 := fd_q4 ((fd_ht_no hdz hx9 (by rw [e6]; exact fd_nI_ne1 (by omega))).symm.trans hh)
                exact absurd (e6.symm.trans (e7.1.trans hr2)) (fd_nI_ne1 (by omega))
              · have n_133 := mt (nI_eq (a := p2) (b := n) (by omega) (by omega)).mpr c_133
                refine lv_iload_n hx hb ndD_read_136 rfl (lv_at hl 3 rfl) ?_
                refine lv_aload_n hx hb ndD_read_137 rfl (lv_at hl 0 rfl) ?_
                refine va_get (D := D) (ci := 3) (v := .ref b1) (C := nR_D) (T := nT_D) (N := 11) hx hb hts in_D hown hK hP 0 rfl rfl 0 (by decide) (hts _ tb_248) (fun _ h9 => h9) rfl ndD_read_138 ?_
                refine lv_iload_n hx hb ndD_read_141 rfl (lv_at hl 2 rfl) ?_
                refine fd_iald hx hb hK hP 1 0 (k := p2) rfl rfl (by omega) (by omega) ndD_read_142 ?_
                refine lv_iload hx hb ndD_read_143 (lv_at hl 4 rfl) ?_
                refine fd_go_i (wr := [(b0, .inr (3, [.ref b1, .int (nI n), .int (nI q), .int (nI k1), .ref b2, .int (nI od), .int cf, .int (nI wn), .ref b3, .int (nI ok), .ref b4])), (b1, .inl (cI, 400, .inl g)), (b2, .inl (cL, 24, .inr (.inl (vp_updL rn1 k1 acc)))), (b3, .inl (cI, 200, .inl go)), (b4, .inl (cL, 24, .inr (.inl gn)))]) (w2 := [(b0, .inr (3, [.ref b1, .int (nI n), .int (nI q), .int (nI k1), .ref b2, .int (nI od), .int cf, .int (nI wn), .ref b3, .int (nI ok), .ref b4])), (b1, .inl (cI, 400, .inl g)), (b2, .inl (cL, 24, .inr (.inl (vp_updL rn1 k1 acc)))), (b3, .inl (cI, 200, .inl go)), (b4, .inl (cL, 24, .inr (.inl gn)))]) (va_runS (As := [.int (nI s1), .int (g p2), .int (nI zz)]) (rest := []) ⟨hx, hb, hml, hown, hts⟩ (kD_fits l D Z cI cL (s1 := s1) (by omega) (by omega) (g p2) (nI zz) H.size) (va_cwS 3 hts (fd_gS tb_294 tb_295 tb_16 tb_296) rfl rfl rfl nhD_fits.2 ⟨(Nat.le_of_ble_eq_true rfl), (Nat.le_of_ble_eq_true rfl)⟩) (fd_PreS hE hK hEV hA hP hD hS [] rfl (by decide)) rfl rfl hl.1 rfl (lv_room (Nat.le_of_ble_eq_true rfl)) ndD_read_145 ⟨(Nat.le_of_ble_eq_true rfl), (Nat.le_of_ble_eq_true rfl)⟩) hP hD hS hA [] [0, 1, 2, 3, 4] rfl rfl (by decide) (by decide) [0, 1, 2, 3, 4] rfl (by decide) (fun H locs hP hD hS => ?_)
                refine lv_if_ne (tgt := 157) hx hb ndD_read_148 (by decide) (fun c_148 => ?_) (fun c_148 => ?_)
                · refine lv_aload_n hx hb ndD_read_157 rfl (lv_at hl 0 rfl) ?_
                  refine va_get (D := D) (ci := 3) (v := .ref b2) (C := nR_D) (T := nT_D) (N := 11) hx hb hts in_D hown hK hP 0 rfl rfl 4 (by decide) (hts _ tb_252) (fun _ h9 => h9) rfl ndD_read_158 ?_
                  refine lv_aload_n hx hb ndD_read_161 rfl (lv_at hl 0 rfl) ?_
                  refine va_get (D := D) (ci := 3) (v := .int (nI k1)) (C := nR_D) (T := nT_D) (N := 11) hx hb hts in_D hown hK hP 0 rfl rfl 3 (by decide) (hts _ tb_251) (fun _ h9 => h9) rfl ndD_read_162 ?_
                  have cut223 : ∀ (H : Heap) (locs : List Loc) (ls : Array Slot), va_P D fd_cl [(b0, .inr (3, [.ref b1, .int (nI n), .int (nI q), .int (nI k1), .ref b2, .int (nI od), .int cf, .int (nI wn), .ref b3, .int (nI ok), .ref b4])), (b1, .inl (cI, 400, .inl g)), (b2, .inl (cL, 24, .inr (.inl (vp_updL rn1 k1 acc)))), (b3, .inl (cI, 200, .inl go)), (b4, .inl (cL, 24, .inr (.inl gn)))] H → va_D A [(b0, .inr (3, [.ref b1, .int (nI n), .int (nI q), .int (nI k1), .ref b2, .int (nI od), .int cf, .int (nI wn), .ref b3, .int (nI ok), .ref b4])), (b1, .inl (cI, 400, .inl g)), (b2, .inl (cL, 24, .inr (.inl (vp_updL rn1 k1 acc)))), (b3, .inl (cI, 200, .inl go)), (b4, .inl (cL, 24, .inr (.inl gn)))] → va_S A s.heap H locs → lv_has ls 6 [(0, .ref b0), (1, .int (fd_rem g p2)), (2, .int (nI p2)), (3, .int (nI s1)), (4, .int (nI zz)), (5, .int (nI i))] → W p l e nmD_read s m ([.ref b0].toArray) below meth c H locs 0 0 (MQ below (va_Qi (fun r' (u : Nat → Int64) => r' = (nI q) ∧ ∀ j, j < k9 → u j = cn9 j) (fd_BN D fd_cl A (fun u : Nat → Int64 => [(b0, .inr (3, [.ref b1, .int (nI 0), .int (nI q), .int (nI k9), .ref b2, .int (nI od), .int cf, .int (nI wn), .ref b3, .int (nI ok), .ref b4])), (b1, .inl (cI, 400, .inl g)), (b2, .inl (cL, 24, .inr (.inl u))), (b3, .inl (cI, 200, .inl go)), (b4, .inl (cL, 24, .inr (.inl gn)))])) A) [.ref b0].toArray s 0 0 A) (F0 m 223 ls [.long (acc * (fd_bI (nI s1)).toInt64 + (fd_vis (nI s1) (g p2)).toInt64), .int (nI k1), .ref b2]) := by
                    intro H locs ls hP hD hS hl
                    refine fd_last hx hb hK hP hD hS 2 1 (k := k1) rfl rfl (by omega) (by omega) ndD_read_223 (fun H locs hP hD hS => ?_)
                    have hP : va_P D fd_cl [(b0, .inr (3, [.ref b1, .int (nI n), .int (nI q), .int (nI k1), .ref b2, .int (nI od), .int cf, .int (nI wn), .ref b3, .int (nI ok), .ref b4])), (b1, .inl (cI, 400, .inl g)), (b2, .inl (cL, 24, .inr (.inl (vp_updL (vp_updL rn1 k1 acc) k1 (acc * (fd_bI (nI s1)).toInt64 + (fd_vis (nI s1) (g p2)).toInt64))))), (b3, .inl (cI, 200, .inl go)), (b4, .inl (cL, 24, .inr (.inl gn)))] H := hP
                    have hD : va_D A [(b0, .inr (3, [.ref b1, .int (nI n), .int (nI q), .int (nI k1), .ref b2, .int (nI od), .int cf, .int (nI wn), .ref b3, .int (nI ok), .ref b4])), (b1, .inl (cI, 400, .inl g)), (b2, .inl (cL, 24, .inr (.inl (vp_updL (vp_updL rn1 k1 acc) k1 (acc * (fd_bI (nI s1)).toInt64 + (fd_vis (nI s1) (g p2)).toInt64))))), (b3, .inl (cI, 200, .inl go)), (b4, .inl (cL, 24, .inr (.inl gn)))] := hD
                    rw [fd_uu] at hP hD
                    refine lv_iload_n hx hb ndD_read_224 rfl (lv_at hl 1 rfl) ?_
                    refine lv_aload_n hx hb ndD_read_225 rfl (lv_at hl 0 rfl) ?_
                    refine va_get (D := D) (ci := 3) (v := .ref b1) (C := nR_D) (T := nT_D) (N := 11) hx hb hts in_D hown hK hP 0 rfl rfl 0 (by decide) (hts _ tb_248) (fun _ h9 => h9) rfl ndD_read_226 ?_
                    refine lv_iload_n hx hb ndD_read_229 rfl (lv_at hl 2 rfl) ?_
                    refine fd_iald hx hb hK hP 1 0 (k := p2) rfl rfl (by omega) (by omega) ndD_read_230 ?_
                    refine fd_go_i (wr := [(b0, .inr (3, [.ref b1, .int (nI n), .int (nI q), .int (nI k1), .ref b2, .int (nI od), .int cf, .int (nI wn), .ref b3, .int (nI ok), .ref b4])), (b1, .inl (cI, 400, .inl g)), (b2, .inl (cL, 24, .inr (.inl (vp_updL rn1 k1 (acc * (fd_bI (nI s1)).toInt64 + (fd_vis (nI s1) (g p2)).toInt64))))), (b3, .inl (cI, 200, .inl go)), (b4, .inl (cL, 24, .inr (.inl gn)))]) (w2 := [(b0, .inr (3, [.ref b1, .int (nI n), .int (nI q), .int (nI k1), .ref b2, .int (nI od), .int cf, .int (nI wn), .ref b3, .int (nI ok), .ref b4])), (b1, .inl (cI, 400, .inl g)), (b2, .inl (cL, 24, .inr (.inl (vp_updL rn1 k1 (acc * (fd_bI (nI s1)).toInt64 + (fd_vis (nI s1) (g p2)).toInt64))))), (b3, .inl (cI, 200, .inl go)), (b4, .inl (cL, 24, .inr (.inl gn)))]) (va_runS (As := [.int (fd_rem g p2), .int (g p2)]) (rest := []) ⟨hx, hb, hml, hown, hts⟩ (kD_step l D Z cI cL (fd_rem g p2) (g p2) H.size) (va_cwS 2 hts (fd_gS tb_288 tb_289 tb_16 tb_290) rfl rfl rfl nhD_step.2 ⟨(Nat.le_of_ble_eq_true rfl), (Nat.le_of_ble_eq_true rfl)⟩) (fd_PreS hE hK hEV hA hP hD hS [] rfl (by decide)) rfl rfl hl.1 rfl (lv_room (Nat.le_of_ble_eq_true rfl)) ndD_read_231 ⟨(Nat.le_of_ble_eq_true rfl), (Nat.le_of_ble_eq_true rfl)⟩) hP hD hS hA [] [0, 1, 2, 3, 4] rfl rfl (by decide) (by decide) [0, 1, 2, 3, 4] rfl (by decide) (fun H locs hP hD hS => ?_)
                    refine fd_asi (y := fd_rem g (p2 + 1)) (fd_stp_eq (fd_fit_sg hs0 hs8 hzz hz1 hby (by omega) c_148) _) ?_
                    refine lv_istore_n (lv' := [(1, .int (fd_rem g (p2 + 1))), (0, .ref b0), (2, .int (nI p2)), (3, .int (nI s1)), (4, .int (nI zz)), (5, .int (nI i))]) hx hb ndD_read_234 rfl hl (by decide) rfl (fun ls hl => ?_)
                    refine lv_iload_n hx hb ndD_read_235 rfl (lv_at hl 2 rfl) ?_
                    refine lv_iconst (v := 1) hx hb ndD_read_236 (by decide) ?_
                    refine lv_iadd hx hb ndD_read_237 ?_
                    refine fd_asi (y := nI (p2 + 1)) (nI_1 p2) ?_
                    refine lv_istore_n (lv' := [(2, .int (nI (p2 + 1))), (1, .int (fd_rem g (p2 + 1))), (0, .ref b0), (3, .int (nI s1)), (4, .int (nI zz)), (5, .int (nI i))]) hx hb ndD_read_238 rfl hl (by decide) rfl (fun ls hl => ?_)
                    refine lv_iinc (v := nI (i + 1)) (lv' := [(5, .int (nI (i + 1))), (2, .int (nI (p2 + 1))), (1, .int (fd_rem g (p2 + 1))), (0, .ref b0), (3, .int (nI s1)), (4, .int (nI zz))]) hx hb ndD_read_239 hl (k := 5) rfl (nI_1 i) (by decide) rfl (fun ls hl => ?_)
                    refine lv_goto (tgt := 119) hx hb ndD_read_242 (by decide) ?_
                    exact ih (i + 1) (p2 + 1) _ (by omega) (by omega) (by omega) (fun h => absurd h (by omega)) ((fd_hf_ok hs0 hs8 hzz hz1 hby hn (by omega) c_148).symm.trans hh2) _ _ _ hP hD hS (lv_sub hl [3, 2, 1, 4, 5, 0] rfl)
                  refine lv_iload_n hx hb ndD_read_165 rfl (lv_at hl 3 rfl) ?_
                  refine lv_iconst (v := 5) hx hb ndD_read_166 (by decide) ?_
                  refine lv_icmp_ne (tgt := 189) hx hb ndD_read_167 (by decide) (fun c_167 => ?_) (fun c_167 => ?_)
                  · have n_167 := mt (nI_eq (a := s1) (b := 5) (by omega) (by omega)).mpr c_167
                    refine lv_aload_n hx hb ndD_read_189 rfl (lv_at hl 0 rfl) ?_
                    refine va_get (D := D) (ci := 3) (v := .ref b2) (C := nR_D) (T := nT_D) (N := 11) hx hb hts in_D hown hK hP 0 rfl rfl 4 (by decide) (hts _ tb_252) (fun _ h9 => h9) rfl ndD_read_190 ?_
                    refine lv_aload_n hx hb ndD_read_193 rfl (lv_at hl 0 rfl) ?_
                    refine va_get (D := D) (ci := 3) (v := .int (nI k1)) (C := nR_D) (T := nT_D) (N := 11) hx hb hts in_D hown hK hP 0 rfl rfl 3 (by decide) (hts _ tb_251) (fun _ h9 => h9) rfl ndD_read_194 ?_
                    refine fd_lald hx hb hK hP 2 1 (k := k1) rfl rfl (by omega) (by omega) ndD_read_197 ?_
                    refine fd_asl (y := acc) pk_uLs ?_
                    refine lv_iload_n hx hb ndD_read_198 rfl (lv_at hl 3 rfl) ?_
                    refine lv_iconst (v := 4) hx hb ndD_read_199 (by decide) ?_
                    refine lv_icmp_ge (tgt := 208) hx hb ndD_read_200 (by decide) (fun c_200 => ?_) (fun c_200 => ?_)
                    · have n_200 := (nI_leI (a := 4) (b := s1) (by omega) (by omega)).mp c_200
                      refine lv_bipush (v := 10) hx hb ndD_read_208 (by decide) ?_
                      refine fd_asi (y := fd_bI (nI s1)) (fd_bI_ge hs8 n_200) ?_
                      refine lv_i2l hx hb ndD_read_210 rfl ?_
                      refine lv_lmul hx hb ndD_read_211 ?_
                      refine lv_aload_n hx hb ndD_read_212 rfl (lv_at hl 0 rfl) ?_
                      refine va_get (D := D) (ci := 3) (v := .ref b1) (C := nR_D) (T := nT_D) (N := 11) hx hb hts in_D hown hK hP 0 rfl rfl 0 (by decide) (hts _ tb_248) (fun _ h9 => h9) rfl ndD_read_213 ?_
                      refine lv_iload_n hx hb ndD_read_216 rfl (lv_at hl 2 rfl) ?_
                      refine fd_iald hx hb hK hP 1 0 (k := p2) rfl rfl (by omega) (by omega) ndD_read_217 ?_
                      refine fd_go_i (wr := [(b0, .inr (3, [.ref b1, .int (nI n), .int (nI q), .int (nI k1), .ref b2, .int (nI od), .int cf, .int (nI wn), .ref b3, .int (nI ok), .ref b4])), (b1, .inl (cI, 400, .inl g)), (b2, .inl (cL, 24, .inr (.inl (vp_updL rn1 k1 acc)))), (b3, .inl (cI, 200, .inl go)), (b4, .inl (cL, 24, .inr (.inl gn)))]) (w2 := [(b0, .inr (3, [.ref b1, .int (nI n), .int (nI q), .int (nI k1), .ref b2, .int (nI od), .int cf, .int (nI wn), .ref b3, .int (nI ok), .ref b4])), (b1, .inl (cI, 400, .inl g)), (b2, .inl (cL, 24, .inr (.inl (vp_updL rn1 k1 acc)))), (b3, .inl (cI, 200, .inl go)), (b4, .inl (cL, 24, .inr (.inl gn)))]) (va_runS (As := [.int (g p2)]) (rest := [.long (acc * ((fd_bI (nI s1)).toInt64)), .int (nI k1), .ref b2]) ⟨hx, hb, hml, hown, hts⟩ (kD_valueOf l D Z cI cL (g p2) H.size) (va_cwS 1 hts (fd_gS tb_300 tb_301 tb_16 tb_302) rfl rfl rfl nhD_valueOf.2 ⟨(Nat.le_of_ble_eq_true rfl), (Nat.le_of_ble_eq_true rfl)⟩) (fd_PreS hE hK hEV hA hP hD hS [] rfl (by decide)) rfl rfl hl.1 rfl (lv_room (Nat.le_of_ble_eq_true rfl)) ndD_read_218 ⟨(Nat.le_of_ble_eq_true rfl), (Nat.le_of_ble_eq_true rfl)⟩) hP hD hS hA [] [0, 1, 2, 3, 4] rfl rfl (by decide) (by decide) [0, 1, 2, 3, 4] rfl (by decide) (fun H locs hP hD hS => ?_)
                      refine fd_asi (y := fd_vis (nI s1) (g p2)) (fd_fit_vo hs0 hs8 hzz hz1 hby (by omega) c_148 n_167) ?_
                      refine lv_i2l hx hb ndD_read_221 rfl ?_
                      refine lv_ladd hx hb ndD_read_222 ?_
                      exact cut223 _ _ _ hP hD hS (lv_sub hl [0, 1, 2, 3, 4, 5] rfl)
                    · have n_200 := mt (nI_leI (a := 4) (b := s1) (by omega) (by omega)).mpr c_200
                      refine lv_bipush (v := 36) hx hb ndD_read_203 (by decide) ?_
                      refine fd_asi (y := fd_bI (nI s1)) (fd_bI_lt hs0 n_200) ?_
                      refine lv_goto (tgt := 210) hx hb ndD_read_205 (by decide) ?_
                      refine lv_i2l hx hb ndD_read_210 rfl ?_
                      refine lv_lmul hx hb ndD_read_211 ?_
                      refine lv_aload_n hx hb ndD_read_212 rfl (lv_at hl 0 rfl) ?_
                      refine va_get (D := D) (ci := 3) (v := .ref b1) (C := nR_D) (T := nT_D) (N := 11) hx hb hts in_D hown hK hP 0 rfl rfl 0 (by decide) (hts _ tb_248) (fun _ h9 => h9) rfl ndD_read_213 ?_
                      refine lv_iload_n hx hb ndD_read_216 rfl (lv_at hl 2 rfl) ?_
                      refine fd_iald hx hb hK hP 1 0 (k := p2) rfl rfl (by omega) (by omega) ndD_read_217 ?_
                      refine fd_go_i (wr := [(b0, .inr (3, [.ref b1, .int (nI n), .int (nI q), .int (nI k1), .ref b2, .int (nI od), .int cf, .int (nI wn), .ref b3, .int (nI ok), .ref b4])), (b1, .inl (cI, 400, .inl g)), (b2, .inl (cL, 24, .inr (.inl (vp_updL rn1 k1 acc)))), (b3, .inl (cI, 200, .inl go)), (b4, .inl (cL, 24, .inr (.inl gn)))]) (w2 := [(b0, .inr (3, [.ref b1, .int (nI n), .int (nI q), .int (nI k1), .ref b2, .int (nI od), .int cf, .int (nI wn), .ref b3, .int (nI ok), .ref b4])), (b1, .inl (cI, 400, .inl g)), (b2, .inl (cL, 24, .inr (.inl (vp_updL rn1 k1 acc)))), (b3, .inl (cI, 200, .inl go)), (b4, .inl (cL, 24, .inr (.inl gn)))]) (va_runS (As := [.int (g p2)]) (rest := [.long (acc * ((fd_bI (nI s1)).toInt64)), .int (nI k1), .ref b2]) ⟨hx, hb, hml, hown, hts⟩ (kD_valueOf l D Z cI cL (g p2) H.size) (va_cwS 1 hts (fd_gS tb_300 tb_301 tb_16 tb_302) rfl rfl rfl nhD_valueOf.2 ⟨(Nat.le_of_ble_eq_true rfl), (Nat.le_of_ble_eq_true rfl)⟩) (fd_PreS hE hK hEV hA hP hD hS [] rfl (by decide)) rfl rfl hl.1 rfl (lv_room (Nat.le_of_ble_eq_true rfl)) ndD_read_218 ⟨(Nat.le_of_ble_eq_true rfl), (Nat.le_of_ble_eq_true rfl)⟩) hP hD hS hA [] [0, 1, 2, 3, 4] rfl rfl (by decide) (by decide) [0, 1, 2, 3, 4] rfl (by decide) (fun H locs hP hD hS => ?_)
                      refine fd_asi (y := fd_vis (nI s1) (g p2)) (fd_fit_vo hs0 hs8 hzz hz1 hby (by omega) c_148 n_167) ?_
                      refine lv_i2l hx hb ndD_read_221 rfl ?_
                      refine lv_ladd hx hb ndD_read_222 ?_
                      exact cut223 _ _ _ hP hD hS (lv_sub hl [0, 1, 2, 3, 4, 5] rfl)
                  · have n_167 := (nI_eq (a := s1) (b := 5) (by omega) (by omega)).mp c_167
                    refine lv_aload_n hx hb ndD_read_170 rfl (lv_at hl 0 rfl) ?_
                    refine va_get (D := D) (ci := 3) (v := .ref b1) (C := nR_D) (T := nT_D) (N := 11) hx hb hts in_D hown hK hP 0 rfl rfl 0 (by decide) (hts _ tb_248) (fun _ h9 => h9) rfl ndD_read_171 ?_
                    refine lv_iload_n hx hb ndD_read_174 rfl (lv_at hl 2 rfl) ?_
                    refine fd_iald hx hb hK hP 1 0 (k := p2) rfl rfl (by omega) (by omega) ndD_read_175 ?_
                    refine lv_bipush (v := 83) hx hb ndD_read_176 (by decide) ?_
                    refine lv_icmp_ne (tgt := 185) hx hb ndD_read_178 (by decide) (fun c_178 => ?_) (fun c_178 => ?_)
                    · refine lv_lconst (v := 0) hx hb ndD_read_185 (by decide) ?_
                      refine fd_asl (y := acc * (fd_bI (nI s1)).toInt64 + (fd_vis (nI s1) (g p2)).toInt64) ((fd_fit_5 hs0 hs8 hzz hz1 hby (by omega) c_148 n_167 (hacc (by have := hw5 n_167; omega))).2 c_178) ?_
                      refine lv_goto (tgt := 223) hx hb ndD_read_186 (by decide) ?_
                      exact cut223 _ _ _ hP hD hS (lv_sub hl [0, 1, 2, 3, 4, 5] rfl)
                    · refine lv_lconst (v := 1) hx hb ndD_read_181 (by decide) ?_
                      refine fd_asl (y := acc * (fd_bI (nI s1)).toInt64 + (fd_vis (nI s1) (g p2)).toInt64) ((fd_fit_5 hs0 hs8 hzz hz1 hby (by omega) c_148 n_167 (hacc (by have := hw5 n_167; omega))).1 c_178) ?_
                      refine lv_goto (tgt := 223) hx hb ndD_read_182 (by decide) ?_
                      exact cut223 _ _ _ hP hD hS (lv_sub hl [0, 1, 2, 3, 4, 5] rfl)
                · have e6 : r9 = nI p2 := (Prod.mk.inj ((fd_hf_no hs0 hs8 hzz hz1 hby hn (Or.inr ⟨by omega, c_148⟩) (by omega)).symm.trans hh2)).1.symm
                  have e7 := fd_q4 ((fd_ht_no hdz hx9 (by rw [e6]; exact fd_nI_ne1 (by omega))).symm.trans hh)
                  exact absurd (e6.symm.trans (e7.1.trans hr2)) (fd_nI_ne1 (by omega))
          exact loop2 w 0 q1 0 (by omega) rfl hq3 (fun _ => rfl) hh0 _ _ _ hP hD hS (lv_sub hl [2, 3, 4, 5, 1, 0] rfl)
        refine lv_aload_n hx hb ndD_read_72 rfl (lv_at hl 0 rfl) ?_
        refine va_get (D := D) (ci := 3) (v := .int (nI q)) (C := nR_D) (T := nT_D) (N := 11) hx hb hts in_D hown hK hP 0 rfl rfl 2 (by decide) (hts _ tb_250) (fun _ h9 => h9) rfl ndD_read_73 ?_
        refine lv_iconst (v := 2) hx hb ndD_read_76 (by decide) ?_
        refine lv_icmp_ne (tgt := 103) hx hb ndD_read_77 (by decide) (fun c_77 => ?_) (fun c_77 => ?_)
        · have n_77 := mt (nI_eq (a := q) (b := 2) (by omega) (by omega)).mpr c_77
          refine lv_iconst (v := 0) hx hb ndD_read_103 (by decide) ?_
          refine fd_asi (y := nI zz) ((fd_mz4 n_77).trans hmr) ?_
          exact cut104 _ (lv_sub hl [0, 1, 2, 3] rfl)
        · have n_77 := (nI_eq (a := q) (b := 2) (by omega) (by omega)).mp c_77
          refine lv_aload_n hx hb ndD_read_80 rfl (lv_at hl 0 rfl) ?_
          refine va_get (D := D) (ci := 3) (v := .int (nI k1)) (C := nR_D) (T := nT_D) (N := 11) hx hb hts in_D hown hK hP 0 rfl rfl 3 (by decide) (hts _ tb_251) (fun _ h9 => h9) rfl ndD_read_81 ?_
          refine lv_iconst (v := 3) hx hb ndD_read_84 (by decide) ?_
          refine lv_icmp_le (tgt := 103) hx hb ndD_read_85 (by decide) (fun c_85 => ?_) (fun c_85 => ?_)
          · have n_85 := (nI_leI (a := k1) (b := 3) (by omega) (by omega)).mp c_85
            refine lv_iconst (v := 0) hx hb ndD_read_103 (by decide) ?_
            refine fd_asi (y := nI zz) ((fd_mz3 n_77 n_85).trans hmr) ?_
            exact cut104 _ (lv_sub hl [0, 1, 2, 3] rfl)
          · have n_85 := mt (nI_leI (a := k1) (b := 3) (by omega) (by omega)).mpr c_85
            refine lv_aload_n hx hb ndD_read_88 rfl (lv_at hl 0 rfl) ?_
            refine va_get (D := D) (ci := 3) (v := .ref b2) (C := nR_D) (T := nT_D) (N := 11) hx hb hts in_D hown hK hP 0 rfl rfl 4 (by decide) (hts _ tb_252) (fun _ h9 => h9) rfl ndD_read_89 ?_
            refine lv_iconst (v := 3) hx hb ndD_read_92 (by decide) ?_
            refine fd_asi (y := nI 3) rfl ?_
            refine fd_lald hx hb hK hP 2 1 (k := 3) rfl rfl (by omega) (by omega) ndD_read_93 ?_
            refine lv_lconst (v := 0) hx hb ndD_read_94 (by decide) ?_
            refine W.lcmp hx hb ndD_read_95 ?_
            refine lv_if_ne (tgt := 103) hx hb ndD_read_96 (by decide) (fun c_96 => ?_) (fun c_96 => ?_)
            · have n_96 := mt (lg_cmp_eq _ _).mpr c_96
              refine lv_iconst (v := 0) hx hb ndD_read_103 (by decide) ?_
              refine fd_asi (y := nI zz) ((fd_mz2 n_77 n_85 (by omega) n_96).trans hmr) ?_
              exact cut104 _ (lv_sub hl [0, 1, 2, 3] rfl)
            · have n_96 := (lg_cmp_eq _ _).mp c_96
              refine lv_iconst (v := 1) hx hb ndD_read_99 (by decide) ?_
              refine fd_asi (y := nI zz) ((fd_mz1 n_77 n_85 (by omega) n_96).trans hmr) ?_
              refine lv_goto (tgt := 104) hx hb ndD_read_100 (by decide) ?_
              exact cut104 _ (lv_sub hl [0, 1, 2, 3] rfl)
  exact loop1 20 0 3 rn cs cn (by omega) (by omega) hn3 lt_0 (fun _ h => absurd h (by omega)) hres _ _ _ hP hD hS (lv_sub hl [3, 2, 1, 0] rfl)
set_option maxHeartbeats 4000000 in
set_option maxRecDepth 100000 in
theorem kD_read_no (l : Launch) (D : va_G) (Z : Nat → Nat) (cI cL : ClassId) {b0 b1 b2 b3 b4 n kd k od wn ok : Nat} {g go : Nat → Int32} {rn gn : Nat → Int64} {cf : Int32} (hn : n ≤ 400) (hkd : kd ≤ 15) (hk : k ≤ 20) (hwn : wn ≤ 123) (hod : od ≤ 15) (hok : ok ≤ 20) {q : Nat} {cs cs9 : Nat → Int32} {cn cn9 : Nat → Int64} {r : Int32} {k9 : Nat} (g1 : ¬ fd_kn g n 1 = 0) (g2 : ¬ fd_kn g n 2 = 0) (hq : fd_kn g n 3 = q) (h1q : 1 ≤ q) (h15 : q ≤ 15) (hn3 : 3 ≤ n) (hsg3 : ∀ i, i < 3 → fd_sg (g i)) (hby : fd_by g n) (hres : fd_ht g n q 20 0 3 cs cn = (r, k9, cs9, cn9)) (hr2 : ¬ r = -1) : fd_Ni l D fd_cl (fd_ty cI cL) (fd_EV Z) nyD_read (.code nyD_read ncD_read 6 (some .int) :: fd_TB) nmD_read [.ref b0] [(b0, .inr (3, [.ref b1, .int (nI n), .int (nI kd), .int (nI k), .ref b2, .int (nI od), .int cf, .int (nI wn), .ref b3, .int (nI ok), .ref b4])), (b1, .inl (cI, 400, .inl g)), (b2, .inl (cL, 24, .inr (.inl rn))), (b3, .inl (cI, 200, .inl go)), (b4, .inl (cL, 24, .inr (.inl gn)))] (fun u : Nat → Int64 => [(b0, .inr (3, [.ref b1, .int (nI 0), .int (nI 0), .int (nI 0), .ref b2, .int (nI od), .int cf, .int (nI wn), .ref b3, .int (nI ok), .ref b4])), (b1, .inl (cI, 400, .inl g)), (b2, .inl (cL, 24, .inr (.inl u))), (b3, .inl (cI, 200, .inl go)), (b4, .inl (cL, 24, .inr (.inl gn)))]) (fun u => True) ((-1) - r) := by
  have K1 := fd_kn_le g n 1
  have K2 := fd_kn_le g n 2
  refine fd_openN_i (cc := ncD_read) (maxL := 6) (ret := (some .int)) (by decide) rfl (Nat.le_of_ble_eq_true rfl) ?_
  intro p e s m below meth c A ls X hP hD hS hl
  obtain ⟨hx, hb, hr, hml, hown, hts0, hlocks, hK, hEV, hA⟩ := X
  have hts : ∀ w ∈ fd_TB, w.before _ s = true := fun w h => hts0 w (List.mem_cons_of_mem _ h)
  have hE := fd_EV_ok Z
  have hown : s.vm.findClass "FieldDeskModel" = some m.cls := hown
  have hl : lv_has ls 6 [(0, .ref b0)] := hl
  refine lv_iconst (v := 0) hx hb ndD_read_0 (by decide) ?_
  refine lv_istore_n (lv' := [(1, .int 0), (0, .ref b0)]) hx hb ndD_read_1 rfl hl (by decide) rfl (fun ls hl => ?_)
  refine lv_iconst (v := 0) hx hb ndD_read_2 (by decide) ?_
  refine lv_istore_n (lv' := [(2, .int 0), (1, .int 0), (0, .ref b0)]) hx hb ndD_read_3 rfl hl (by decide) rfl (fun ls hl => ?_)
  refine lv_iload_n hx hb ndD_read_4 rfl (lv_at hl 0 rfl) ?_
  refine lv_iconst (v := 3) hx hb ndD_read_5 (by decide) ?_
  refine lv_icmp_ge (tgt := 50) hx hb ndD_read_6 (by decide) (fun c_6 => absurd c_6 (by decide)) (fun _ => ?_)
  refine lv_iload_n hx hb ndD_read_9 rfl (lv_at hl 0 rfl) ?_
  refine lv_aload_n hx hb ndD_read_10 rfl (lv_at hl 2 rfl) ?_
  refine va_get (D := D) (ci := 3) (v := .int (nI n)) (C := nR_D) (T := nT_D) (N := 11) hx hb hts in_D hown hK hP 0 rfl rfl 1 (by decide) (hts _ tb_249) (fun _ h9 => h9) rfl ndD_read_11 ?_
  refine lv_icmp_eq (tgt := 27) hx hb ndD_read_14 (by decide) (fun c_14 => absurd c_14 (fun h9 => absurd ((nI_eq (a := 0) (b := n) (by omega) (by omega)).mp h9) (by omega))) (fun _ => ?_)
  refine lv_aload_n hx hb ndD_read_17 rfl (lv_at hl 2 rfl) ?_
  refine lv_iload_n hx hb ndD_read_18 rfl (lv_at hl 0 rfl) ?_
  refine lv_iconst (v := 1) hx hb ndD_read_19 (by decide) ?_
  refine lv_iadd hx hb ndD_read_20 ?_
  refine fd_asi (y := nI 1) (by decide) ?_
  refine fd_go_i (wr := []) (w2 := [(b0, .inr (3, [.ref b1, .int (nI n), .int (nI kd), .int (nI k), .ref b2, .int (nI od), .int cf, .int (nI wn), .ref b3, .int (nI ok), .ref b4])), (b1, .inl (cI, 400, .inl g)), (b2, .inl (cL, 24, .inr (.inl rn))), (b3, .inl (cI, 200, .inl go)), (b4, .inl (cL, 24, .inr (.inl gn)))]) (va_runV (As := [.int (nI 1)]) (rest := []) ⟨hx, hb, hml, hown, hts⟩ (kD_kindOf l D Z cI cL (n := n) (g := g) (kd := kd) (k := k) (rn := rn) (od := od) (cf := cf) (wn := wn) (go := go) (ok := ok) (gn := gn) (by omega) (by omega) (by omega) (by omega) (by omega) (by omega) (sg := 1) (by omega) (by omega) s.heap.size) (cwV 1 hts (fd_gV tb_279 tb_280 tb_8 tb_16 tb_281) rfl rfl rfl nhD_kindOf ⟨(Nat.le_of_ble_eq_true rfl), (Nat.le_of_ble_eq_true rfl)⟩) (fd_PreV hE hK hEV hA hP hD hS [0, 1, 2, 3, 4] rfl (by decide) (ci := 3) (q0 := 0) rfl rfl) rfl rfl hl.1 rfl (lv_room (Nat.le_of_ble_eq_true rfl)) ndD_read_21 ⟨(Nat.le_of_ble_eq_true rfl), (Nat.le_of_ble_eq_true rfl)⟩) hP hD hS hA [0, 1, 2, 3, 4] [] rfl rfl (by decide) (by decide) [0, 1, 2, 3, 4] rfl (by decide) (fun H locs hP hD hS => ?_)
  refine lv_if_ne (tgt := 33) hx hb ndD_read_24 (by decide) (fun _ => ?_) (fun c_24 => absurd c_24 (fun h9 => absurd ((nI_eq (a := (fd_kn g n 1)) (b := 0) (by omega) (by omega)).mp h9) (by omega)))
  refine lv_iload_n hx hb ndD_read_33 rfl (lv_at hl 1 rfl) ?_
  refine lv_aload_n hx hb ndD_read_34 rfl (lv_at hl 2 rfl) ?_
  refine va_get (D := D) (ci := 3) (v := .ref b1) (C := nR_D) (T := nT_D) (N := 11) hx hb hts in_D hown hK hP 0 rfl rfl 0 (by decide) (hts _ tb_248) (fun _ h9 => h9) rfl ndD_read_35 ?_
  refine lv_iload_n hx hb ndD_read_38 rfl (lv_at hl 0 rfl) ?_
  refine fd_asi (y := nI 0) rfl ?_
  refine fd_iald hx hb hK hP 1 0 (k := 0) rfl rfl (by omega) (by omega) ndD_read_39 ?_
  refine fd_go_i (wr := [(b0, .inr (3, [.ref b1, .int (nI n), .int (nI kd), .int (nI k), .ref b2, .int (nI od), .int cf, .int (nI wn), .ref b3, .int (nI ok), .ref b4])), (b1, .inl (cI, 400, .inl g)), (b2, .inl (cL, 24, .inr (.inl rn))), (b3, .inl (cI, 200, .inl go)), (b4, .inl (cL, 24, .inr (.inl gn)))]) (w2 := [(b0, .inr (3, [.ref b1, .int (nI n), .int (nI kd), .int (nI k), .ref b2, .int (nI od), .int cf, .int (nI wn), .ref b3, .int (nI ok), .ref b4])), (b1, .inl (cI, 400, .inl g)), (b2, .inl (cL, 24, .inr (.inl rn))), (b3, .inl (cI, 200, .inl go)), (b4, .inl (cL, 24, .inr (.inl gn)))]) (va_runS (As := [.int 0, .int (g 0)]) (rest := []) ⟨hx, hb, hml, hown, hts⟩ (kD_step l D Z cI cL 0 (g 0) H.size) (va_cwS 2 hts (fd_gS tb_288 tb_289 tb_16 tb_290) rfl rfl rfl nhD_step.2 ⟨(Nat.le_of_ble_eq_true rfl), (Nat.le_of_ble_eq_true rfl)⟩) (fd_PreS hE hK hEV hA hP hD hS [] rfl (by decide)) rfl rfl hl.1 rfl (lv_room (Nat.le_of_ble_eq_true rfl)) ndD_read_40 ⟨(Nat.le_of_ble_eq_true rfl), (Nat.le_of_ble_eq_true rfl)⟩) hP hD hS hA [] [0, 1, 2, 3, 4] rfl rfl (by decide) (by decide) [0, 1, 2, 3, 4] rfl (by decide) (fun H locs hP hD hS => ?_)
  refine fd_asi (y := fd_rem g 1) (fd_stp_eq (hsg3 0 (by omega)) _) ?_
  refine lv_istore_n (lv' := [(1, .int (fd_rem g 1)), (2, .int 0), (0, .ref b0)]) hx hb ndD_read_43 rfl hl (by decide) rfl (fun ls hl => ?_)
  refine lv_iinc (v := 1) (lv' := [(2, .int 1), (1, .int (fd_rem g 1)), (0, .ref b0)]) hx hb ndD_read_44 hl (k := 1) rfl (by decide) (by decide) rfl (fun ls hl => ?_)
  refine lv_goto (tgt := 4) hx hb ndD_read_47 (by decide) ?_
  refine lv_iload_n hx hb ndD_read_4 rfl (lv_at hl 0 rfl) ?_
  refine lv_iconst (v := 3) hx hb ndD_read_5 (by decide) ?_
  refine lv_icmp_ge (tgt := 50) hx hb ndD_read_6 (by decide) (fun c_6 => absurd c_6 (by decide)) (fun _ => ?_)
  refine lv_iload_n hx hb ndD_read_9 rfl (lv_at hl 0 rfl) ?_
  refine lv_aload_n hx hb ndD_read_10 rfl (lv_at hl 2 rfl) ?_
  refine va_get (D := D) (ci := 3) (v := .int (nI n)) (C := nR_D) (T := nT_D) (N := 11) hx hb hts in_D hown hK hP 0 rfl rfl 1 (by decide) (hts _ tb_249) (fun _ h9 => h9) rfl ndD_read_11 ?_
  refine lv_icmp_eq (tgt := 27) hx hb ndD_read_14 (by decide) (fun c_14 => absurd c_14 (fun h9 => absurd ((nI_eq (a := 1) (b := n) (by omega) (by omega)).mp h9) (by omega))) (fun _ => ?_)
  refine lv_aload_n hx hb ndD_read_17 rfl (lv_at hl 2 rfl) ?_
  refine lv_iload_n hx hb ndD_read_18 rfl (lv_at hl 0 rfl) ?_
  refine lv_iconst (v := 1) hx hb ndD_read_19 (by decide) ?_
  refine lv_iadd hx hb ndD_read_20 ?_
  refine fd_asi (y := nI 2) (by decide) ?_
  refine fd_go_i (wr := []) (w2 := [(b0, .inr (3, [.ref b1, .int (nI n), .int (nI kd), .int (nI k), .ref b2, .int (nI od), .int cf, .int (nI wn), .ref b3, .int (nI ok), .ref b4])), (b1, .inl (cI, 400, .inl g)), (b2, .inl (cL, 24, .inr (.inl rn))), (b3, .inl (cI, 200, .inl go)), (b4, .inl (cL, 24, .inr (.inl gn)))]) (va_runV (As := [.int (nI 2)]) (rest := []) ⟨hx, hb, hml, hown, hts⟩ (kD_kindOf l D Z cI cL (n := n) (g := g) (kd := kd) (k := k) (rn := rn) (od := od) (cf := cf) (wn := wn) (go := go) (ok := ok) (gn := gn) (by omega) (by omega) (by omega) (by omega) (by omega) (by omega) (sg := 2) (by omega) (by omega) H.size) (cwV 1 hts (fd_gV tb_279 tb_280 tb_8 tb_16 tb_281) rfl rfl rfl nhD_kindOf ⟨(Nat.le_of_ble_eq_true rfl), (Nat.le_of_ble_eq_true rfl)⟩) (fd_PreV hE hK hEV hA hP hD hS [0, 1, 2, 3, 4] rfl (by decide) (ci := 3) (q0 := 0) rfl rfl) rfl rfl hl.1 rfl (lv_room (Nat.le_of_ble_eq_true rfl)) ndD_read_21 ⟨(Nat.le_of_ble_eq_true rfl), (Nat.le_of_ble_eq_true rfl)⟩) hP hD hS hA [0, 1, 2, 3, 4] [] rfl rfl (by decide) (by decide) [0, 1, 2, 3, 4] rfl (by decide) (fun H locs hP hD hS => ?_)
  refine lv_if_ne (tgt := 33) hx hb ndD_read_24 (by decide) (fun _ => ?_) (fun c_24 => absurd c_24 (fun h9 => absurd ((nI_eq (a := (fd_kn g n 2)) (b := 0) (by omega) (by omega)).mp h9) (by omega)))
  refine lv_iload_n hx hb ndD_read_33 rfl (lv_at hl 1 rfl) ?_
  refine lv_aload_n hx hb ndD_read_34 rfl (lv_at hl 2 rfl) ?_
  refine va_get (D := D) (ci := 3) (v := .ref b1) (C := nR_D) (T := nT_D) (N := 11) hx hb hts in_D hown hK hP 0 rfl rfl 0 (by decide) (hts _ tb_248) (fun _ h9 => h9) rfl ndD_read_35 ?_
  refine lv_iload_n hx hb ndD_read_38 rfl (lv_at hl 0 rfl) ?_
  refine fd_asi (y := nI 1) rfl ?_
  refine fd_iald hx hb hK hP 1 0 (k := 1) rfl rfl (by omega) (by omega) ndD_read_39 ?_
  refine fd_go_i (wr := [(b0, .inr (3, [.ref b1, .int (nI n), .int (nI kd), .int (nI k), .ref b2, .int (nI od), .int cf, .int (nI wn), .ref b3, .int (nI ok), .ref b4])), (b1, .inl (cI, 400, .inl g)), (b2, .inl (cL, 24, .inr (.inl rn))), (b3, .inl (cI, 200, .inl go)), (b4, .inl (cL, 24, .inr (.inl gn)))]) (w2 := [(b0, .inr (3, [.ref b1, .int (nI n), .int (nI kd), .int (nI k), .ref b2, .int (nI od), .int cf, .int (nI wn), .ref b3, .int (nI ok), .ref b4])), (b1, .inl (cI, 400, .inl g)), (b2, .inl (cL, 24, .inr (.inl rn))), (b3, .inl (cI, 200, .inl go)), (b4, .inl (cL, 24, .inr (.inl gn)))]) (va_runS (As := [.int (fd_rem g 1), .int (g 1)]) (rest := []) ⟨hx, hb, hml, hown, hts⟩ (kD_step l D Z cI cL (fd_rem g 1) (g 1) H.size) (va_cwS 2 hts (fd_gS tb_288 tb_289 tb_16 tb_290) rfl rfl rfl nhD_step.2 ⟨(Nat.le_of_ble_eq_true rfl), (Nat.le_of_ble_eq_true rfl)⟩) (fd_PreS hE hK hEV hA hP hD hS [] rfl (by decide)) rfl rfl hl.1 rfl (lv_room (Nat.le_of_ble_eq_true rfl)) ndD_read_40 ⟨(Nat.le_of_ble_eq_true rfl), (Nat.le_of_ble_eq_true rfl)⟩) hP hD hS hA [] [0, 1, 2, 3, 4] rfl rfl (by decide) (by decide) [0, 1, 2, 3, 4] rfl (by decide) (fun H locs hP hD hS => ?_)
  refine fd_asi (y := fd_rem g 2) (fd_stp_eq (hsg3 1 (by omega)) _) ?_
  refine lv_istore_n (lv' := [(1, .int (fd_rem g 2)), (2, .int 1), (0, .ref b0)]) hx hb ndD_read_43 rfl hl (by decide) rfl (fun ls hl => ?_)
  refine lv_iinc (v := 2) (lv' := [(2, .int 2), (1, .int (fd_rem g 2)), (0, .ref b0)]) hx hb ndD_read_44 hl (k := 1) rfl (by decide) (by decide) rfl (fun ls hl => ?_)
  refine lv_goto (tgt := 4) hx hb ndD_read_47 (by decide) ?_
  refine lv_iload_n hx hb ndD_read_4 rfl (lv_at hl 0 rfl) ?_
  refine lv_iconst (v := 3) hx hb ndD_read_5 (by decide) ?_
  refine lv_icmp_ge (tgt := 50) hx hb ndD_read_6 (by decide) (fun c_6 => absurd c_6 (by decide)) (fun _ => ?_)
  refine lv_iload_n hx hb ndD_read_9 rfl (lv_at hl 0 rfl) ?_
  refine lv_aload_n hx hb ndD_read_10 rfl (lv_at hl 2 rfl) ?_
  refine va_get (D := D) (ci := 3) (v := .int (nI n)) (C := nR_D) (T := nT_D) (N := 11) hx hb hts in_D hown hK hP 0 rfl rfl 1 (by decide) (hts _ tb_249) (fun _ h9 => h9) rfl ndD_read_11 ?_
  refine lv_icmp_eq (tgt := 27) hx hb ndD_read_14 (by decide) (fun c_14 => absurd c_14 (fun h9 => absurd ((nI_eq (a := 2) (b := n) (by omega) (by omega)).mp h9) (by omega))) (fun _ => ?_)
  refine lv_aload_n hx hb ndD_read_17 rfl (lv_at hl 2 rfl) ?_
  refine lv_iload_n hx hb ndD_read_18 rfl (lv_at hl 0 rfl) ?_
  refine lv_iconst (v := 1) hx hb ndD_read_19 (by decide) ?_
  refine lv_iadd hx hb ndD_read_20 ?_
  refine fd_asi (y := nI 3) (by decide) ?_
  refine fd_go_i (wr := []) (w2 := [(b0, .inr (3, [.ref b1, .int (nI n), .int (nI kd), .int (nI k), .ref b2, .int (nI od), .int cf, .int (nI wn), .ref b3, .int (nI ok), .ref b4])), (b1, .inl (cI, 400, .inl g)), (b2, .inl (cL, 24, .inr (.inl rn))), (b3, .inl (cI, 200, .inl go)), (b4, .inl (cL, 24, .inr (.inl gn)))]) (va_runV (As := [.int (nI 3)]) (rest := []) ⟨hx, hb, hml, hown, hts⟩ (kD_kindOf l D Z cI cL (n := n) (g := g) (kd := kd) (k := k) (rn := rn) (od := od) (cf := cf) (wn := wn) (go := go) (ok := ok) (gn := gn) (by omega) (by omega) (by omega) (by omega) (by omega) (by omega) (sg := 3) (by omega) (by omega) H.size) (cwV 1 hts (fd_gV tb_279 tb_280 tb_8 tb_16 tb_281) rfl rfl rfl nhD_kindOf ⟨(Nat.le_of_ble_eq_true rfl), (Nat.le_of_ble_eq_true rfl)⟩) (fd_PreV hE hK hEV hA hP hD hS [0, 1, 2, 3, 4] rfl (by decide) (ci := 3) (q0 := 0) rfl rfl) rfl rfl hl.1 rfl (lv_room (Nat.le_of_ble_eq_true rfl)) ndD_read_21 ⟨(Nat.le_of_ble_eq_true rfl), (Nat.le_of_ble_eq_true rfl)⟩) hP hD hS hA [0, 1, 2, 3, 4] [] rfl rfl (by decide) (by decide) [0, 1, 2, 3, 4] rfl (by decide) (fun H locs hP hD hS => ?_)
  refine lv_if_ne (tgt := 33) hx hb ndD_read_24 (by decide) (fun _ => ?_) (fun c_24 => absurd c_24 (fun h9 => absurd ((nI_eq (a := (fd_kn g n 3)) (b := 0) (by omega) (by omega)).mp h9) (by omega)))
  refine lv_iload_n hx hb ndD_read_33 rfl (lv_at hl 1 rfl) ?_
  refine lv_aload_n hx hb ndD_read_34 rfl (lv_at hl 2 rfl) ?_
  refine va_get (D := D) (ci := 3) (v := .ref b1) (C := nR_D) (T := nT_D) (N := 11) hx hb hts in_D hown hK hP 0 rfl rfl 0 (by decide) (hts _ tb_248) (fun _ h9 => h9) rfl ndD_read_35 ?_
  refine lv_iload_n hx hb ndD_read_38 rfl (lv_at hl 0 rfl) ?_
  refine fd_asi (y := nI 2) rfl ?_
  refine fd_iald hx hb hK hP 1 0 (k := 2) rfl rfl (by omega) (by omega) ndD_read_39 ?_
  refine fd_go_i (wr := [(b0, .inr (3, [.ref b1, .int (nI n), .int (nI kd), .int (nI k), .ref b2, .int (nI od), .int cf, .int (nI wn), .ref b3, .int (nI ok), .ref b4])), (b1, .inl (cI, 400, .inl g)), (b2, .inl (cL, 24, .inr (.inl rn))), (b3, .inl (cI, 200, .inl go)), (b4, .inl (cL, 24, .inr (.inl gn)))]) (w2 := [(b0, .inr (3, [.ref b1, .int (nI n), .int (nI kd), .int (nI k), .ref b2, .int (nI od), .int cf, .int (nI wn), .ref b3, .int (nI ok), .ref b4])), (b1, .inl (cI, 400, .inl g)), (b2, .inl (cL, 24, .inr (.inl rn))), (b3, .inl (cI, 200, .inl go)), (b4, .inl (cL, 24, .inr (.inl gn)))]) (va_runS (As := [.int (fd_rem g 2), .int (g 2)]) (rest := []) ⟨hx, hb, hml, hown, hts⟩ (kD_step l D Z cI cL (fd_rem g 2) (g 2) H.size) (va_cwS 2 hts (fd_gS tb_288 tb_289 tb_16 tb_290) rfl rfl rfl nhD_step.2 ⟨(Nat.le_of_ble_eq_true rfl), (Nat.le_of_ble_eq_true rfl)⟩) (fd_PreS hE hK hEV hA hP hD hS [] rfl (by decide)) rfl rfl hl.1 rfl (lv_room (Nat.le_of_ble_eq_true rfl)) ndD_read_40 ⟨(Nat.le_of_ble_eq_true rfl), (Nat.le_of_ble_eq_true rfl)⟩) hP hD hS hA [] [0, 1, 2, 3, 4] rfl rfl (by decide) (by decide) [0, 1, 2, 3, 4] rfl (by decide) (fun H locs hP hD hS => ?_)
  refine fd_asi (y := fd_rem g 3) (fd_stp_eq (hsg3 2 (by omega)) _) ?_
  refine lv_istore_n (lv' := [(1, .int (fd_rem g 3)), (2, .int 2), (0, .ref b0)]) hx hb ndD_read_43 rfl hl (by decide) rfl (fun ls hl => ?_)
  refine lv_iinc (v := 3) (lv' := [(2, .int 3), (1, .int (fd_rem g 3)), (0, .ref b0)]) hx hb ndD_read_44 hl (k := 1) rfl (by decide) (by decide) rfl (fun ls hl => ?_)
  refine lv_goto (tgt := 4) hx hb ndD_read_47 (by decide) ?_
  refine lv_iload_n hx hb ndD_read_4 rfl (lv_at hl 0 rfl) ?_
  refine lv_iconst (v := 3) hx hb ndD_read_5 (by decide) ?_
  refine lv_icmp_ge (tgt := 50) hx hb ndD_read_6 (by decide) (fun _ => ?_) (fun c_6 => absurd (by decide) c_6)
  refine lv_aload_n hx hb ndD_read_50 rfl (lv_at hl 2 rfl) ?_
  refine lv_aload_n hx hb ndD_read_51 rfl (lv_at hl 2 rfl) ?_
  refine lv_iconst (v := 3) hx hb ndD_read_52 (by decide) ?_
  refine fd_go_i (wr := []) (w2 := [(b0, .inr (3, [.ref b1, .int (nI n), .int (nI kd), .int (nI k), .ref b2, .int (nI od), .int cf, .int (nI wn), .ref b3, .int (nI ok), .ref b4])), (b1, .inl (cI, 400, .inl g)), (b2, .inl (cL, 24, .inr (.inl rn))), (b3, .inl (cI, 200, .inl go)), (b4, .inl (cL, 24, .inr (.inl gn)))]) (va_runV (As := [.int 3]) (rest := [.ref b0]) ⟨hx, hb, hml, hown, hts⟩ (kD_kindOf l D Z cI cL (n := n) (g := g) (kd := kd) (k := k) (rn := rn) (od := od) (cf := cf) (wn := wn) (go := go) (ok := ok) (gn := gn) (by omega) (by omega) (by omega) (by omega) (by omega) (by omega) (sg := 3) (by omega) (by omega) H.size) (cwV 1 hts (fd_gV tb_279 tb_280 tb_8 tb_16 tb_281) rfl rfl rfl nhD_kindOf ⟨(Nat.le_of_ble_eq_true rfl), (Nat.le_of_ble_eq_true rfl)⟩) (fd_PreV hE hK hEV hA hP hD hS [0, 1, 2, 3, 4] rfl (by decide) (ci := 3) (q0 := 0) rfl rfl) rfl rfl hl.1 rfl (lv_room (Nat.le_of_ble_eq_true rfl)) ndD_read_53 ⟨(Nat.le_of_ble_eq_true rfl), (Nat.le_of_ble_eq_true rfl)⟩) hP hD hS hA [0, 1, 2, 3, 4] [] rfl rfl (by decide) (by decide) [0, 1, 2, 3, 4] rfl (by decide) (fun H locs hP hD hS => ?_)
  refine fd_asi (y := nI q) (by rw [hq]) ?_
  refine va_put (D := D) (ci := 3) (v := .int (nI q)) (ty := (.int)) (C := nR_D) (T := nT_D) (N := 11) hx hb hts in_D nt_D nt_D_ok nn_D hown hK hP hD hS 0 rfl rfl 2 (by decide) (hts _ tb_250) (fun _ h9 => h9) rfl (by decide +kernel) rfl rfl (Nat.le_of_ble_eq_true rfl) ndD_read_56 (fun H locs hP hD hS => ?_)
  have hP : va_P D fd_cl [(b0, .inr (3, [.ref b1, .int (nI n), .int (nI q), .int (nI k), .ref b2, .int (nI od), .int cf, .int (nI wn), .ref b3, .int (nI ok), .ref b4])), (b1, .inl (cI, 400, .inl g)), (b2, .inl (cL, 24, .inr (.inl rn))), (b3, .inl (cI, 200, .inl go)), (b4, .inl (cL, 24, .inr (.inl gn)))] H := hP
  have hD : va_D A [(b0, .inr (3, [.ref b1, .int (nI n), .int (nI q), .int (nI k), .ref b2, .int (nI od), .int cf, .int (nI wn), .ref b3, .int (nI ok), .ref b4])), (b1, .inl (cI, 400, .inl g)), (b2, .inl (cL, 24, .inr (.inl rn))), (b3, .inl (cI, 200, .inl go)), (b4, .inl (cL, 24, .inr (.inl gn)))] := hD
  refine lv_aload_n hx hb ndD_read_59 rfl (lv_at hl 2 rfl) ?_
  refine lv_iconst (v := 0) hx hb ndD_read_60 (by decide) ?_
  refine fd_asi (y := nI 0) nI_0.symm ?_
  refine va_put (D := D) (ci := 3) (v := .int (nI 0)) (ty := (.int)) (C := nR_D) (T := nT_D) (N := 11) hx hb hts in_D nt_D nt_D_ok nn_D hown hK hP hD hS 0 rfl rfl 3 (by decide) (hts _ tb_251) (fun _ h9 => h9) rfl (by decide +kernel) rfl rfl (Nat.le_of_ble_eq_true rfl) ndD_read_61 (fun H locs hP hD hS => ?_)
  have hP : va_P D fd_cl [(b0, .inr (3, [.ref b1, .int (nI n), .int (nI q), .int (nI 0), .ref b2, .int (nI od), .int cf, .int (nI wn), .ref b3, .int (nI ok), .ref b4])), (b1, .inl (cI, 400, .inl g)), (b2, .inl (cL, 24, .inr (.inl rn))), (b3, .inl (cI, 200, .inl go)), (b4, .inl (cL, 24, .inr (.inl gn)))] H := hP
  have hD : va_D A [(b0, .inr (3, [.ref b1, .int (nI n), .int (nI q), .int (nI 0), .ref b2, .int (nI od), .int cf, .int (nI wn), .ref b3, .int (nI ok), .ref b4])), (b1, .inl (cI, 400, .inl g)), (b2, .inl (cL, 24, .inr (.inl rn))), (b3, .inl (cI, 200, .inl go)), (b4, .inl (cL, 24, .inr (.inl gn)))] := hD
  refine lv_iconst (v := 3) hx hb ndD_read_64 (by decide) ?_
  refine lv_istore_n (lv' := [(2, .int 3), (1, .int (fd_rem g 3)), (0, .ref b0)]) hx hb ndD_read_65 rfl hl (by decide) rfl (fun ls hl => ?_)
  refine lv_iconst (v := 1) hx hb ndD_read_66 (by decide) ?_
  refine fd_asi (y := fd_due q 0 cn) (fd_so0 h1q h15 cn).symm ?_
  refine lv_istore_n (lv' := [(3, .int (fd_due q 0 cn)), (2, .int 3), (1, .int (fd_rem g 3)), (0, .ref b0)]) hx hb ndD_read_67 rfl hl (by decide) rfl (fun ls hl => ?_)
  have loop1 : ∀ (z : Nat) (k1 q1 : Nat) (rn1 : Nat → Int64) (cs1 : Nat → Int32) (cn1 : Nat → Int64) (hk9 : k1 + z = 20) (hq9 : q1 ≤ 3 + 15 * k1) (hq3 : q1 ≤ n) (ha : ∀ j, j < k1 → rn1 j = cn1 j) (hleg : q = 6 → 4 ≤ k1 → fd_lok (cn1 3)) (hh : fd_ht g n q z k1 q1 cs1 cn1 = (r, k9, cs9, cn9)) (H : Heap) (locs : List Loc) (ls : Array Slot), va_P D fd_cl [(b0, .inr (3, [.ref b1, .int (nI n), .int (nI q), .int (nI k1), .ref b2, .int (nI od), .int cf, .int (nI wn), .ref b3, .int (nI ok), .ref b4])), (b1, .inl (cI, 400, .inl g)), (b2, .inl (cL, 24, .inr (.inl rn1))), (b3, .inl (cI, 200, .inl go)), (b4, .inl (cL, 24, .inr (.inl gn)))] H → va_D A [(b0, .inr (3, [.ref b1, .int (nI n), .int (nI q), .int (nI k1), .ref b2, .int (nI od), .int cf, .int (nI wn), .ref b3, .int (nI ok), .ref b4])), (b1, .inl (cI, 400, .inl g)), (b2, .inl (cL, 24, .inr (.inl rn1))), (b3, .inl (cI, 200, .inl go)), (b4, .inl (cL, 24, .inr (.inl gn)))] → va_S A s.heap H locs → lv_has ls 6 [(0, .ref b0), (1, .int (fd_rem g q1)), (2, .int (nI q1)), (3, .int (fd_due q k1 cn1))] → W p l e nmD_read s m ([.ref b0].toArray) below meth c H locs 0 0 (MQ below (va_Qi (fun r' (u : Nat → Int64) => r' = ((-1) - r) ∧ True) (fd_BN D fd_cl A (fun u : Nat → Int64 => [(b0, .inr (3, [.ref b1, .int (nI 0), .int (nI 0), .int (nI 0), .ref b2, .int (nI od), .int cf, .int (nI wn), .ref b3, .int (nI ok), .ref b4])), (b1, .inl (cI, 400, .inl g)), (b2, .inl (cL, 24, .inr (.inl u))), (b3, .inl (cI, 200, .inl go)), (b4, .inl (cL, 24, .inr (.inl gn)))])) A) [.ref b0].toArray s 0 0 A) (F0 m 68 ls []) := by
    intro z
    induction z with
    | zero =>
      intro k1 q1 rn1 cs1 cn1 hk9 hq9 hq3 ha hleg hh H locs ls hP hD hS hl
      obtain rfl : k1 = 20 := by omega
      rw [fd_due20 h1q (fun h => hleg h (by omega))] at hl
      obtain ⟨e1, rfl, rfl, rfl⟩ := fd_q4 hh
      refine lv_iload_n hx hb ndD_read_68 rfl (lv_at hl 3 rfl) ?_
      refine lv_if_le (tgt := 276) hx hb ndD_read_69 (by decide) (fun _ => ?_) (fun c_69 => absurd (by decide) c_69)
      refine lv_iconst (v := 0) hx hb ndD_read_276 (by decide) ?_
      refine lv_istore (lv' := [(4, .int 0), (0, .ref b0), (1, .int (fd_rem g q1)), (2, .int (nI q1)), (3, .int 0)]) hx hb ndD_read_277 hl (by decide) rfl (fun ls hl => ?_)
      refine lv_iload hx hb ndD_read_279 (lv_at hl 0 rfl) ?_
      refine lv_iconst (v := 2) hx hb ndD_read_281 (by decide) ?_
      refine lv_icmp_ge (tgt := 353) hx hb ndD_read_282 (by decide) (fun c_282 => absurd c_282 (by decide)) (fun _ => ?_)
      refine lv_iload_n hx hb ndD_read_285 rfl (lv_at hl 3 rfl) ?_
      refine lv_iload hx hb ndD_read_286 (lv_at hl 0 rfl) ?_
      refine lv_iadd hx hb ndD_read_288 ?_
      refine fd_asi (y := nI (q1 + 0)) (nI_add q1 0) ?_
      refine lv_aload_n hx hb ndD_read_289 rfl (lv_at hl 1 rfl) ?_
      refine va_get (D := D) (ci := 3) (v := .int (nI n)) (C := nR_D) (T := nT_D) (N := 11) hx hb hts in_D hown hK hP 0 rfl rfl 1 (by decide) (hts _ tb_249) (fun _ h9 => h9) rfl ndD_read_290 ?_
      refine lv_icmp_ge (tgt := 324) hx hb ndD_read_293 (by decide) (fun c_293 => ?_) (fun c_293 => ?_)
      · have n_293 := (nI_leI (a := n) (b := (q1 + 0)) (by omega) (by omega)).mp c_293
        have d0 : fd_dig (fd_at n g (nI (q1))) = 0 := fd_dig0 hn (by omega) (Or.inl (by omega))
        have e5 : fd_cd g n q1 = nI (q1) := by rw [fd_cd, if_pos d0]
        refine lv_aload_n hx hb ndD_read_324 rfl (lv_at hl 1 rfl) ?_
        refine lv_iload_n hx hb ndD_read_325 rfl (lv_at hl 3 rfl) ?_
        refine lv_iload hx hb ndD_read_326 (lv_at hl 0 rfl) ?_
        refine lv_iadd hx hb ndD_read_328 ?_
        refine fd_asi (y := nI (q1 + 0)) (nI_add q1 0) ?_
        refine fd_go_i (wr := []) (w2 := [(b0, .inr (3, [.ref b1, .int (nI 0), .int (nI 0), .int (nI 0), .ref b2, .int (nI od), .int cf, .int (nI wn), .ref b3, .int (nI ok), .ref b4])), (b1, .inl (cI, 400, .inl g)), (b2, .inl (cL, 24, .inr (.inl rn1))), (b3, .inl (cI, 200, .inl go)), (b4, .inl (cL, 24, .inr (.inl gn)))]) (va_runV (As := [.int (nI (q1 + 0))]) (rest := []) ⟨hx, hb, hml, hown, hts⟩ (kD_fault l D Z cI cL (n := n) (g := g) (kd := q) (k := 20) (rn := rn1) (od := od) (cf := cf) (wn := wn) (go := go) (ok := ok) (gn := gn) (by omega) (by omega) (by omega) (by omega) (by omega) (by omega) (p1 := (q1 + 0)) H.size) (cwV 1 hts (fd_gV tb_285 tb_286 tb_9 tb_16 tb_287) rfl rfl rfl nhD_fault ⟨(Nat.le_of_ble_eq_true rfl), (Nat.le_of_ble_eq_true rfl)⟩) (fd_PreV hE hK hEV hA hP hD hS [0, 1, 2, 3, 4] rfl (by decide) (ci := 3) (q0 := 0) rfl rfl) rfl rfl hl.1 rfl (lv_room (Nat.le_of_ble_eq_true rfl)) ndD_read_329 ⟨(Nat.le_of_ble_eq_true rfl), (Nat.le_of_ble_eq_true rfl)⟩) hP hD hS hA [0, 1, 2, 3, 4] [] rfl rfl (by decide) (by decide) [0, 1, 2, 3, 4] rfl (by decide) (fun H locs hP hD hS => ?_)
        exact fd_retN_i (rn1) hx hb hr hlocks hS hP hD rfl (congrArg (fun z => (-1 : Int32) - z) (e5.symm.trans e1)) (trivial) ndD_read_332
      · have n_293 := mt (nI_leI (a := n) (b := (q1 + 0)) (by omega) (by omega)).mpr c_293
        refine lv_aload_n hx hb ndD_read_296 rfl (lv_at hl 1 rfl) ?_
        refine va_get (D := D) (ci := 3) (v := .ref b1) (C := nR_D) (T := nT_D) (N := 11) hx hb hts in_D hown hK hP 0 rfl rfl 0 (by decide) (hts _ tb_248) (fun _ h9 => h9) rfl ndD_read_297 ?_
        refine lv_iload_n hx hb ndD_read_300 rfl (lv_at hl 3 rfl) ?_
        refine lv_iload hx hb ndD_read_301 (lv_at hl 0 rfl) ?_
        refine lv_iadd hx hb ndD_read_303 ?_
        refine fd_asi (y := nI (q1 + 0)) (nI_add q1 0) ?_
        refine fd_iald hx hb hK hP 1 0 (k := (q1 + 0)) rfl rfl (by omega) (by omega) ndD_read_304 ?_
        refine lv_bipush (v := 48) hx hb ndD_read_305 (by decide) ?_
        refine lv_icmp_lt (tgt := 324) hx hb ndD_read_307 (by decide) (fun c_307 => ?_) (fun c_307 => ?_)
        · have d0 : fd_dig (fd_at n g (nI (q1))) = 0 := fd_dig0 hn (by omega) (Or.inr ⟨by omega, Or.inl c_307⟩)
          have e5 : fd_cd g n q1 = nI (q1) := by rw [fd_cd, if_pos d0]
          refine lv_aload_n hx hb ndD_read_324 rfl (lv_at hl 1 rfl) ?_
          refine lv_iload_n hx hb ndD_read_325 rfl (lv_at hl 3 rfl) ?_
          refine lv_iload hx hb ndD_read_326 (lv_at hl 0 rfl) ?_
          refine lv_iadd hx hb ndD_read_328 ?_
          refine fd_asi (y := nI (q1 + 0)) (nI_add q1 0) ?_
          refine fd_go_i (wr := []) (w2 := [(b0, .inr (3, [.ref b1, .int (nI 0), .int (nI 0), .int (nI 0), .ref b2, .int (nI od), .int cf, .int (nI wn), .ref b3, .int (nI ok), .ref b4])), (b1, .inl (cI, 400, .inl g)), (b2, .inl (cL, 24, .inr (.inl rn1))), (b3, .inl (cI, 200, .inl go)), (b4, .inl (cL, 24, .inr (.inl gn)))]) (va_runV (As := [.int (nI (q1 + 0))]) (rest := []) ⟨hx, hb, hml, hown, hts⟩ (kD_fault l D Z cI cL (n := n) (g := g) (kd := q) (k := 20) (rn := rn1) (od := od) (cf := cf) (wn := wn) (go := go) (ok := ok) (gn := gn) (by omega) (by omega) (by omega) (by omega) (by omega) (by omega) (p1 := (q1 + 0)) H.size) (cwV 1 hts (fd_gV tb_285 tb_286 tb_9 tb_16 tb_287) rfl rfl rfl nhD_fault ⟨(Nat.le_of_ble_eq_true rfl), (Nat.le_of_ble_eq_true rfl)⟩) (fd_PreV hE hK hEV hA hP hD hS [0, 1, 2, 3, 4] rfl (by decide) (ci := 3) (q0 := 0) rfl rfl) rfl rfl hl.1 rfl (lv_room (Nat.le_of_ble_eq_true rfl)) ndD_read_329 ⟨(Nat.le_of_ble_eq_true rfl), (Nat.le_of_ble_eq_true rfl)⟩) hP hD hS hA [0, 1, 2, 3, 4] [] rfl rfl (by decide) (by decide) [0, 1, 2, 3, 4] rfl (by decide) (fun H locs hP hD hS => ?_)
          exact fd_retN_i (rn1) hx hb hr hlocks hS hP hD rfl (congrArg (fun z => (-1 : Int32) - z) (e5.symm.trans e1)) (trivial) ndD_read_332
        · refine lv_aload_n hx hb ndD_read_310 rfl (lv_at hl 1 rfl) ?_
          refine va_get (D := D) (ci := 3) (v := .ref b1) (C := nR_D) (T := nT_D) (N := 11) hx hb hts in_D hown hK hP 0 rfl rfl 0 (by decide) (hts _ tb_248) (fun _ h9 => h9) rfl ndD_read_311 ?_
          refine lv_iload_n hx hb ndD_read_314 rfl (lv_at hl 3 rfl) ?_
          refine lv_iload hx hb ndD_read_315 (lv_at hl 0 rfl) ?_
          refine lv_iadd hx hb ndD_read_317 ?_
          refine fd_asi (y := nI (q1 + 0)) (nI_add q1 0) ?_
          refine fd_iald hx hb hK hP 1 0 (k := (q1 + 0)) rfl rfl (by omega) (by omega) ndD_read_318 ?_
          refine lv_bipush (v := 57) hx hb ndD_read_319 (by decide) ?_
          refine lv_icmp_le (tgt := 333) hx hb ndD_read_321 (by decide) (fun c_321 => ?_) (fun c_321 => ?_)
          · refine lv_iload_n hx hb ndD_read_333 rfl (lv_at hl 2 rfl) ?_
            refine lv_aload_n hx hb ndD_read_334 rfl (lv_at hl 1 rfl) ?_
            refine va_get (D := D) (ci := 3) (v := .ref b1) (C := nR_D) (T := nT_D) (N := 11) hx hb hts in_D hown hK hP 0 rfl rfl 0 (by decide) (hts _ tb_248) (fun _ h9 => h9) rfl ndD_read_335 ?_
            refine lv_iload_n hx hb ndD_read_338 rfl (lv_at hl 3 rfl) ?_
            refine lv_iload hx hb ndD_read_339 (lv_at hl 0 rfl) ?_
            refine lv_iadd hx hb ndD_read_341 ?_
            refine fd_asi (y := nI (q1 + 0)) (nI_add q1 0) ?_
            refine fd_iald hx hb hK hP 1 0 (k := (q1 + 0)) rfl rfl (by omega) (by omega) ndD_read_342 ?_
            refine fd_go_i (wr := [(b0, .inr (3, [.ref b1, .int (nI n), .int (nI q), .int (nI 20), .ref b2, .int (nI od), .int cf, .int (nI wn), .ref b3, .int (nI ok), .ref b4])), (b1, .inl (cI, 400, .inl g)), (b2, .inl (cL, 24, .inr (.inl rn1))), (b3, .inl (cI, 200, .inl go)), (b4, .inl (cL, 24, .inr (.inl gn)))]) (w2 := [(b0, .inr (3, [.ref b1, .int (nI n), .int (nI q), .int (nI 20), .ref b2, .int (nI od), .int cf, .int (nI wn), .ref b3, .int (nI ok), .ref b4])), (b1, .inl (cI, 400, .inl g)), (b2, .inl (cL, 24, .inr (.inl rn1))), (b3, .inl (cI, 200, .inl go)), (b4, .inl (cL, 24, .inr (.inl gn)))]) (va_runS (As := [.int (fd_rem g q1), .int (g (q1 + 0))]) (rest := []) ⟨hx, hb, hml, hown, hts⟩ (kD_step l D Z cI cL (fd_rem g q1) (g (q1 + 0)) H.size) (va_cwS 2 hts (fd_gS tb_288 tb_289 tb_16 tb_290) rfl rfl rfl nhD_step.2 ⟨(Nat.le_of_ble_eq_true rfl), (Nat.le_of_ble_eq_true rfl)⟩) (fd_PreS hE hK hEV hA hP hD hS [] rfl (by decide)) rfl rfl hl.1 rfl (lv_room (Nat.le_of_ble_eq_true rfl)) ndD_read_343 ⟨(Nat.le_of_ble_eq_true rfl), (Nat.le_of_ble_eq_true rfl)⟩) hP hD hS hA [] [0, 1, 2, 3, 4] rfl rfl (by decide) (by decide) [0, 1, 2, 3, 4] rfl (by decide) (fun H locs hP hD hS => ?_)
            refine fd_asi (y := fd_rem g (q1 + 1)) (fd_stp_eq (fd_sg_dig c_307 c_321) _) ?_
            refine lv_istore_n (lv' := [(1, .int (fd_rem g (q1 + 1))), (4, .int 0), (0, .ref b0), (2, .int (nI q1)), (3, .int 0)]) hx hb ndD_read_346 rfl hl (by decide) rfl (fun ls hl => ?_)
            refine lv_iinc (v := 1) (lv' := [(4, .int 1), (1, .int (fd_rem g (q1 + 1))), (0, .ref b0), (2, .int (nI q1)), (3, .int 0)]) hx hb ndD_read_347 hl (k := 1) rfl (by decide) (by decide) rfl (fun ls hl => ?_)
            refine lv_goto (tgt := 279) hx hb ndD_read_350 (by decide) ?_
            have d_1 : ¬ fd_dig (fd_at n g (nI q1)) = 0 := fd_dig1 hn n_293 c_307 c_321
            refine lv_iload hx hb ndD_read_279 (lv_at hl 0 rfl) ?_
            refine lv_iconst (v := 2) hx hb ndD_read_281 (by decide) ?_
            refine lv_icmp_ge (tgt := 353) hx hb ndD_read_282 (by decide) (fun c_282 => absurd c_282 (by decide)) (fun _ => ?_)
            refine lv_iload_n hx hb ndD_read_285 rfl (lv_at hl 3 rfl) ?_
            refine lv_iload hx hb ndD_read_286 (lv_at hl 0 rfl) ?_
            refine lv_iadd hx hb ndD_read_288 ?_
            refine fd_asi (y := nI (q1 + 1)) (nI_add q1 1) ?_
            refine lv_aload_n hx hb ndD_read_289 rfl (lv_at hl 2 rfl) ?_
            refine va_get (D := D) (ci := 3) (v := .int (nI n)) (C := nR_D) (T := nT_D) (N := 11) hx hb hts in_D hown hK hP 0 rfl rfl 1 (by decide) (hts _ tb_249) (fun _ h9 => h9) rfl ndD_read_290 ?_
            refine lv_icmp_ge (tgt := 324) hx hb ndD_read_293 (by decide) (fun c_293 => ?_) (fun c_293 => ?_)
            · have n_293 := (nI_leI (a := n) (b := (q1 + 1)) (by omega) (by omega)).mp c_293
              have d0 : fd_dig (fd_at n g (nI (q1 + 1))) = 0 := fd_dig0 hn (by omega) (Or.inl (by omega))
              have e5 : fd_cd g n q1 = nI (q1 + 1) := by rw [fd_cd, if_neg d_1, if_pos d0]
              refine lv_aload_n hx hb ndD_read_324 rfl (lv_at hl 2 rfl) ?_
              refine lv_iload_n hx hb ndD_read_325 rfl (lv_at hl 3 rfl) ?_
              refine lv_iload hx hb ndD_read_326 (lv_at hl 0 rfl) ?_
              refine lv_iadd hx hb ndD_read_328 ?_
              refine fd_asi (y := nI (q1 + 1)) (nI_add q1 1) ?_
              refine fd_go_i (wr := []) (w2 := [(b0, .inr (3, [.ref b1, .int (nI 0), .int (nI 0), .int (nI 0), .ref b2, .int (nI od), .int cf, .int (nI wn), .ref b3, .int (nI ok), .ref b4])), (b1, .inl (cI, 400, .inl g)), (b2, .inl (cL, 24, .inr (.inl rn1))), (b3, .inl (cI, 200, .inl go)), (b4, .inl (cL, 24, .inr (.inl gn)))]) (va_runV (As := [.int (nI (q1 + 1))]) (rest := []) ⟨hx, hb, hml, hown, hts⟩ (kD_fault l D Z cI cL (n := n) (g := g) (kd := q) (k := 20) (rn := rn1) (od := od) (cf := cf) (wn := wn) (go := go) (ok := ok) (gn := gn) (by omega) (by omega) (by omega) (by omega) (by omega) (by omega) (p1 := (q1 + 1)) H.size) (cwV 1 hts (fd_gV tb_285 tb_286 tb_9 tb_16 tb_287) rfl rfl rfl nhD_fault ⟨(Nat.le_of_ble_eq_true rfl), (Nat.le_of_ble_eq_true rfl)⟩) (fd_PreV hE hK hEV hA hP hD hS [0, 1, 2, 3, 4] rfl (by decide) (ci := 3) (q0 := 0) rfl rfl) rfl rfl hl.1 rfl (lv_room (Nat.le_of_ble_eq_true rfl)) ndD_read_329 ⟨(Nat.le_of_ble_eq_true rfl), (Nat.le_of_ble_eq_true rfl)⟩) hP hD hS hA [0, 1, 2, 3, 4] [] rfl rfl (by decide) (by decide) [0, 1, 2, 3, 4] rfl (by decide) (fun H locs hP hD hS => ?_)
              exact fd_retN_i (rn1) hx hb hr hlocks hS hP hD rfl (congrArg (fun z => (-1 : Int32) - z) (e5.symm.trans e1)) (trivial) ndD_read_332
            · have n_293 := mt (nI_leI (a := n) (b := (q1 + 1)) (by omega) (by omega)).mpr c_293
              refine lv_aload_n hx hb ndD_read_296 rfl (lv_at hl 2 rfl) ?_
              refine va_get (D := D) (ci := 3) (v := .ref b1) (C := nR_D) (T := nT_D) (N := 11) hx hb hts in_D hown hK hP 0 rfl rfl 0 (by decide) (hts _ tb_248) (fun _ h9 => h9) rfl ndD_read_297 ?_
              refine lv_iload_n hx hb ndD_read_300 rfl (lv_at hl 3 rfl) ?_
              refine lv_iload hx hb ndD_read_301 (lv_at hl 0 rfl) ?_
              refine lv_iadd hx hb ndD_read_303 ?_
              refine fd_asi (y := nI (q1 + 1)) (nI_add q1 1) ?_
              refine fd_iald hx hb hK hP 1 0 (k := (q1 + 1)) rfl rfl (by omega) (by omega) ndD_read_304 ?_
              refine lv_bipush (v := 48) hx hb ndD_read_305 (by decide) ?_
              refine lv_icmp_lt (tgt := 324) hx hb ndD_read_307 (by decide) (fun c_307 => ?_) (fun c_307 => ?_)
              · have d0 : fd_dig (fd_at n g (nI (q1 + 1))) = 0 := fd_dig0 hn (by omega) (Or.inr ⟨by omega, Or.inl c_307⟩)
                have e5 : fd_cd g n q1 = nI (q1 + 1) := by rw [fd_cd, if_neg d_1, if_pos d0]
                refine lv_aload_n hx hb ndD_read_324 rfl (lv_at hl 2 rfl) ?_
                refine lv_iload_n hx hb ndD_read_325 rfl (lv_at hl 3 rfl) ?_
                refine lv_iload hx hb ndD_read_326 (lv_at hl 0 rfl) ?_
                refine lv_iadd hx hb ndD_read_328 ?_
                refine fd_asi (y := nI (q1 + 1)) (nI_add q1 1) ?_
                refine fd_go_i (wr := []) (w2 := [(b0, .inr (3, [.ref b1, .int (nI 0), .int (nI 0), .int (nI 0), .ref b2, .int (nI od), .int cf, .int (nI wn), .ref b3, .int (nI ok), .ref b4])), (b1, .inl (cI, 400, .inl g)), (b2, .inl (cL, 24, .inr (.inl rn1))), (b3, .inl (cI, 200, .inl go)), (b4, .inl (cL, 24, .inr (.inl gn)))]) (va_runV (As := [.int (nI (q1 + 1))]) (rest := []) ⟨hx, hb, hml, hown, hts⟩ (kD_fault l D Z cI cL (n := n) (g := g) (kd := q) (k := 20) (rn := rn1) (od := od) (cf := cf) (wn := wn) (go := go) (ok := ok) (gn := gn) (by omega) (by omega) (by omega) (by omega) (by omega) (by omega) (p1 := (q1 + 1)) H.size) (cwV 1 hts (fd_gV tb_285 tb_286 tb_9 tb_16 tb_287) rfl rfl rfl nhD_fault ⟨(Nat.le_of_ble_eq_true rfl), (Nat.le_of_ble_eq_true rfl)⟩) (fd_PreV hE hK hEV hA hP hD hS [0, 1, 2, 3, 4] rfl (by decide) (ci := 3) (q0 := 0) rfl rfl) rfl rfl hl.1 rfl (lv_room (Nat.le_of_ble_eq_true rfl)) ndD_read_329 ⟨(Nat.le_of_ble_eq_true rfl), (Nat.le_of_ble_eq_true rfl)⟩) hP hD hS hA [0, 1, 2, 3, 4] [] rfl rfl (by decide) (by decide) [0, 1, 2, 3, 4] rfl (by decide) (fun H locs hP hD hS => ?_)
                exact fd_retN_i (rn1) hx hb hr hlocks hS hP hD rfl (congrArg (fun z => (-1 : Int32) - z) (e5.symm.trans e1)) (trivial) ndD_read_332
              · refine lv_aload_n hx hb ndD_read_310 rfl (lv_at hl 2 rfl) ?_
                refine va_get (D := D) (ci := 3) (v := .ref b1) (C := nR_D) (T := nT_D) (N := 11) hx hb hts in_D hown hK hP 0 rfl rfl 0 (by decide) (hts _ tb_248) (fun _ h9 => h9) rfl ndD_read_311 ?_
                refine lv_iload_n hx hb ndD_read_314 rfl (lv_at hl 3 rfl) ?_
                refine lv_iload hx hb ndD_read_315 (lv_at hl 0 rfl) ?_
                refine lv_iadd hx hb ndD_read_317 ?_
                refine fd_asi (y := nI (q1 + 1)) (nI_add q1 1) ?_
                refine fd_iald hx hb hK hP 1 0 (k := (q1 + 1)) rfl rfl (by omega) (by omega) ndD_read_318 ?_
                refine lv_bipush (v := 57) hx hb ndD_read_319 (by decide) ?_
                refine lv_icmp_le (tgt := 333) hx hb ndD_read_321 (by decide) (fun c_321 => ?_) (fun c_321 => ?_)
                · refine lv_iload_n hx hb ndD_read_333 rfl (lv_at hl 1 rfl) ?_
                  refine lv_aload_n hx hb ndD_read_334 rfl (lv_at hl 2 rfl) ?_
                  refine va_get (D := D) (ci := 3) (v := .ref b1) (C := nR_D) (T := nT_D) (N := 11) hx hb hts in_D hown hK hP 0 rfl rfl 0 (by decide) (hts _ tb_248) (fun _ h9 => h9) rfl ndD_read_335 ?_
                  refine lv_iload_n hx hb ndD_read_338 rfl (lv_at hl 3 rfl) ?_
                  refine lv_iload hx hb ndD_read_339 (lv_at hl 0 rfl) ?_
                  refine lv_iadd hx hb ndD_read_341 ?_
                  refine fd_asi (y := nI (q1 + 1)) (nI_add q1 1) ?_
                  refine fd_iald hx hb hK hP 1 0 (k := (q1 + 1)) rfl rfl (by omega) (by omega) ndD_read_342 ?_
                  refine fd_go_i (wr := [(b0, .inr (3, [.ref b1, .int (nI n), .int (nI q), .int (nI 20), .ref b2, .int (nI od), .int cf, .int (nI wn), .ref b3, .int (nI ok), .ref b4])), (b1, .inl (cI, 400, .inl g)), (b2, .inl (cL, 24, .inr (.inl rn1))), (b3, .inl (cI, 200, .inl go)), (b4, .inl (cL, 24, .inr (.inl gn)))]) (w2 := [(b0, .inr (3, [.ref b1, .int (nI n), .int (nI q), .int (nI 20), .ref b2, .int (nI od), .int cf, .int (nI wn), .ref b3, .int (nI ok), .ref b4])), (b1, .inl (cI, 400, .inl g)), (b2, .inl (cL, 24, .inr (.inl rn1))), (b3, .inl (cI, 200, .inl go)), (b4, .inl (cL, 24, .inr (.inl gn)))]) (va_runS (As := [.int (fd_rem g (q1 + 1)), .int (g (q1 + 1))]) (rest := []) ⟨hx, hb, hml, hown, hts⟩ (kD_step l D Z cI cL (fd_rem g (q1 + 1)) (g (q1 + 1)) H.size) (va_cwS 2 hts (fd_gS tb_288 tb_289 tb_16 tb_290) rfl rfl rfl nhD_step.2 ⟨(Nat.le_of_ble_eq_true rfl), (Nat.le_of_ble_eq_true rfl)⟩) (fd_PreS hE hK hEV hA hP hD hS [] rfl (by decide)) rfl rfl hl.1 rfl (lv_room (Nat.le_of_ble_eq_true rfl)) ndD_read_343 ⟨(Nat.le_of_ble_eq_true rfl), (Nat.le_of_ble_eq_true rfl)⟩) hP hD hS hA [] [0, 1, 2, 3, 4] rfl rfl (by decide) (by decide) [0, 1, 2, 3, 4] rfl (by decide) (fun H locs hP hD hS => ?_)
                  refine fd_asi (y := fd_rem g (q1 + 1 + 1)) (fd_stp_eq (fd_sg_dig c_307 c_321) _) ?_
                  refine lv_istore_n (lv' := [(1, .int (fd_rem g (q1 + 1 + 1))), (4, .int 1), (0, .ref b0), (2, .int (nI q1)), (3, .int 0)]) hx hb ndD_read_346 rfl hl (by decide) rfl (fun ls hl => ?_)
                  refine lv_iinc (v := 2) (lv' := [(4, .int 2), (1, .int (fd_rem g (q1 + 1 + 1))), (0, .ref b0), (2, .int (nI q1)), (3, .int 0)]) hx hb ndD_read_347 hl (k := 1) rfl (by decide) (by decide) rfl (fun ls hl => ?_)
                  refine lv_goto (tgt := 279) hx hb ndD_read_350 (by decide) ?_
                  have d_2 : ¬ fd_dig (fd_at n g (nI (q1 + 1))) = 0 := fd_dig1 hn n_293 c_307 c_321
                  have en9 := n_293
                  refine lv_iload hx hb ndD_read_279 (lv_at hl 0 rfl) ?_
                  refine lv_iconst (v := 2) hx hb ndD_read_281 (by decide) ?_
                  refine lv_icmp_ge (tgt := 353) hx hb ndD_read_282 (by decide) (fun _ => ?_) (fun c_282 => absurd (by decide) c_282)
                  refine lv_aload_n hx hb ndD_read_353 rfl (lv_at hl 2 rfl) ?_
                  refine va_get (D := D) (ci := 3) (v := .int (nI n)) (C := nR_D) (T := nT_D) (N := 11) hx hb hts in_D hown hK hP 0 rfl rfl 1 (by decide) (hts _ tb_249) (fun _ h9 => h9) rfl ndD_read_354 ?_
                  refine lv_iload_n hx hb ndD_read_357 rfl (lv_at hl 3 rfl) ?_
                  refine lv_iconst (v := 2) hx hb ndD_read_358 (by decide) ?_
                  refine lv_iadd hx hb ndD_read_359 ?_
                  refine fd_asi (y := nI (q1 + 2)) (nI_add q1 2) ?_
                  refine lv_icmp_le (tgt := 371) hx hb ndD_read_360 (by decide) (fun c_360 => ?_) (fun c_360 => ?_)
                  · have n_360 := (nI_leI (a := n) (b := (q1 + 2)) (by omega) (by omega)).mp c_360
                    refine lv_iload_n hx hb ndD_read_371 rfl (lv_at hl 1 rfl) ?_
                    refine lv_iconst (v := 1) hx hb ndD_read_372 (by decide) ?_
                    refine lv_icmp_eq (tgt := 382) hx hb ndD_read_373 (by decide) (fun c_373 => ?_) (fun c_373 => ?_)
                    · exact absurd (e1.symm.trans (by rw [fd_cd, if_neg d_1, if_neg d_2, if_pos n_360, if_pos (by rw [show n = q1 + 1 + 1 by omega]; exact c_373)])) hr2
                    · have e5 : fd_cd g n q1 = nI q1 := by rw [fd_cd, if_neg d_1, if_neg d_2, if_pos n_360, if_neg (by rw [show n = q1 + 1 + 1 by omega]; exact c_373)]
                      refine lv_aload_n hx hb ndD_read_376 rfl (lv_at hl 2 rfl) ?_
                      refine lv_iload_n hx hb ndD_read_377 rfl (lv_at hl 3 rfl) ?_
                      refine fd_go_i (wr := []) (w2 := [(b0, .inr (3, [.ref b1, .int (nI 0), .int (nI 0), .int (nI 0), .ref b2, .int (nI od), .int cf, .int (nI wn), .ref b3, .int (nI ok), .ref b4])), (b1, .inl (cI, 400, .inl g)), (b2, .inl (cL, 24, .inr (.inl rn1))), (b3, .inl (cI, 200, .inl go)), (b4, .inl (cL, 24, .inr (.inl gn)))]) (va_runV (As := [.int (nI q1)]) (rest := []) ⟨hx, hb, hml, hown, hts⟩ (kD_fault l D Z cI cL (n := n) (g := g) (kd := q) (k := 20) (rn := rn1) (od := od) (cf := cf) (wn := wn) (go := go) (ok := ok) (gn := gn) (by omega) (by omega) (by omega) (by omega) (by omega) (by omega) (p1 := q1) H.size) (cwV 1 hts (fd_gV tb_285 tb_286 tb_9 tb_16 tb_287) rfl rfl rfl nhD_fault ⟨(Nat.le_of_ble_eq_true rfl), (Nat.le_of_ble_eq_true rfl)⟩) (fd_PreV hE hK hEV hA hP hD hS [0, 1, 2, 3, 4] rfl (by decide) (ci := 3) (q0 := 0) rfl rfl) rfl rfl hl.1 rfl (lv_room (Nat.le_of_ble_eq_true rfl)) ndD_read_378 ⟨(Nat.le_of_ble_eq_true rfl), (Nat.le_of_ble_eq_true rfl)⟩) hP hD hS hA [0, 1, 2, 3, 4] [] rfl rfl (by decide) (by decide) [0, 1, 2, 3, 4] rfl (by decide) (fun H locs hP hD hS => ?_)
                      exact fd_retN_i (rn1) hx hb hr hlocks hS hP hD rfl (congrArg (fun z => (-1 : Int32) - z) (e5.symm.trans e1)) (trivial) ndD_read_381
                  · have n_360 := mt (nI_leI (a := n) (b := (q1 + 2)) (by omega) (by omega)).mpr c_360
                    have e5 : fd_cd g n q1 = nI (q1 + 2) := by rw [fd_cd, if_neg d_1, if_neg d_2, if_neg n_360]
                    refine lv_aload_n hx hb ndD_read_363 rfl (lv_at hl 2 rfl) ?_
                    refine lv_iload_n hx hb ndD_read_364 rfl (lv_at hl 3 rfl) ?_
                    refine lv_iconst (v := 2) hx hb ndD_read_365 (by decide) ?_
                    refine lv_iadd hx hb ndD_read_366 ?_
                    refine fd_asi (y := nI (q1 + 2)) (nI_add q1 2) ?_
                    refine fd_go_i (wr := []) (w2 := [(b0, .inr (3, [.ref b1, .int (nI 0), .int (nI 0), .int (nI 0), .ref b2, .int (nI od), .int cf, .int (nI wn), .ref b3, .int (nI ok), .ref b4])), (b1, .inl (cI, 400, .inl g)), (b2, .inl (cL, 24, .inr (.inl rn1))), (b3, .inl (cI, 200, .inl go)), (b4, .inl (cL, 24, .inr (.inl gn)))]) (va_runV (As := [.int (nI (q1 + 2))]) (rest := []) ⟨hx, hb, hml, hown, hts⟩ (kD_fault l D Z cI cL (n := n) (g := g) (kd := q) (k := 20) (rn := rn1) (od := od) (cf := cf) (wn := wn) (go := go) (ok := ok) (gn := gn) (by omega) (by omega) (by omega) (by omega) (by omega) (by omega) (p1 := (q1 + 2)) H.size) (cwV 1 hts (fd_gV tb_285 tb_286 tb_9 tb_16 tb_287) rfl rfl rfl nhD_fault ⟨(Nat.le_of_ble_eq_true rfl), (Nat.le_of_ble_eq_true rfl)⟩) (fd_PreV hE hK hEV hA hP hD hS [0, 1, 2, 3, 4] rfl (by decide) (ci := 3) (q0 := 0) rfl rfl) rfl rfl hl.1 rfl (lv_room (Nat.le_of_ble_eq_true rfl)) ndD_read_367 ⟨(Nat.le_of_ble_eq_true rfl), (Nat.le_of_ble_eq_true rfl)⟩) hP hD hS hA [0, 1, 2, 3, 4] [] rfl rfl (by decide) (by decide) [0, 1, 2, 3, 4] rfl (by decide) (fun H locs hP hD hS => ?_)
                    exact fd_retN_i (rn1) hx hb hr hlocks hS hP hD rfl (congrArg (fun z => (-1 : Int32) - z) (e5.symm.trans e1)) (trivial) ndD_read_370
                · have d0 : fd_dig (fd_at n g (nI (q1 + 1))) = 0 := fd_dig0 hn (by omega) (Or.inr ⟨by omega, Or.inr c_321⟩)
                  have e5 : fd_cd g n q1 = nI (q1 + 1) := by rw [fd_cd, if_neg d_1, if_pos d0]
                  refine lv_aload_n hx hb ndD_read_324 rfl (lv_at hl 2 rfl) ?_
                  refine lv_iload_n hx hb ndD_read_325 rfl (lv_at hl 3 rfl) ?_
                  refine lv_iload hx hb ndD_read_326 (lv_at hl 0 rfl) ?_
                  refine lv_iadd hx hb ndD_read_328 ?_
                  refine fd_asi (y := nI (q1 + 1)) (nI_add q1 1) ?_
                  refine fd_go_i (wr := []) (w2 := [(b0, .inr (3, [.ref b1, .int (nI 0), .int (nI 0), .int (nI 0), .ref b2, .int (nI od), .int cf, .int (nI wn), .ref b3, .int (nI ok), .ref b4])), (b1, .inl (cI, 400, .inl g)), (b2, .inl (cL, 24, .inr (.inl rn1))), (b3, .inl (cI, 200, .inl go)), (b4, .inl (cL, 24, .inr (.inl gn)))]) (va_runV (As := [.int (nI (q1 + 1))]) (rest := []) ⟨hx, hb, hml, hown, hts⟩ (kD_fault l D Z cI cL (n := n) (g := g) (kd := q) (k := 20) (rn := rn1) (od := od) (cf := cf) (wn := wn) (go := go) (ok := ok) (gn := gn) (by omega) (by omega) (by omega) (by omega) (by omega) (by omega) (p1 := (q1 + 1)) H.size) (cwV 1 hts (fd_gV tb_285 tb_286 tb_9 tb_16 tb_287) rfl rfl rfl nhD_fault ⟨(Nat.le_of_ble_eq_true rfl), (Nat.le_of_ble_eq_true rfl)⟩) (fd_PreV hE hK hEV hA hP hD hS [0, 1, 2, 3, 4] rfl (by decide) (ci := 3) (q0 := 0) rfl rfl) rfl rfl hl.1 rfl (lv_room (Nat.le_of_ble_eq_true rfl)) ndD_read_329 ⟨(Nat.le_of_ble_eq_true rfl), (Nat.le_of_ble_eq_true rfl)⟩) hP hD hS hA [0, 1, 2, 3, 4] [] rfl rfl (by decide) (by decide) [0, 1, 2, 3, 4] rfl (by decide) (fun H locs hP hD hS => ?_)
                  exact fd_retN_i (rn1) hx hb hr hlocks hS hP hD rfl (congrArg (fun z => (-1 : Int32) - z) (e5.symm.trans e1)) (trivial) ndD_read_332
          · have d0 : fd_dig (fd_at n g (nI (q1))) = 0 := fd_dig0 hn (by omega) (Or.inr ⟨by omega, Or.inr c_321⟩)
            have e5 : fd_cd g n q1 = nI (q1) := by rw [fd_cd, if_pos d0]
            refine lv_aload_n hx hb ndD_read_324 rfl (lv_at hl 1 rfl) ?_
            refine lv_iload_n hx hb ndD_read_325 rfl (lv_at hl 3 rfl) ?_
            refine lv_iload hx hb ndD_read_326 (lv_at hl 0 rfl) ?_
            refine lv_iadd hx hb ndD_read_328 ?_
            refine fd_asi (y := nI (q1 + 0)) (nI_add q1 0) ?_
            refine fd_go_i (wr := []) (w2 := [(b0, .inr (3, [.ref b1, .int (nI 0), .int (nI 0), .int (nI 0), .ref b2, .int (nI od), .int cf, .int (nI wn), .ref b3, .int (nI ok), .ref b4])), (b1, .inl (cI, 400, .inl g)), (b2, .inl (cL, 24, .inr (.inl rn1))), (b3, .inl (cI, 200, .inl go)), (b4, .inl (cL, 24, .inr (.inl gn)))]) (va_runV (As := [.int (nI (q1 + 0))]) (rest := []) ⟨hx, hb, hml, hown, hts⟩ (kD_fault l D Z cI cL (n := n) (g := g) (kd := q) (k := 20) (rn := rn1) (od := od) (cf := cf) (wn := wn) (go := go) (ok := ok) (gn := gn) (by omega) (by omega) (by omega) (by omega) (by omega) (by omega) (p1 := (q1 + 0)) H.size) (cwV 1 hts (fd_gV tb_285 tb_286 tb_9 tb_16 tb_287) rfl rfl rfl nhD_fault ⟨(Nat.le_of_ble_eq_true rfl), (Nat.le_of_ble_eq_true rfl)⟩) (fd_PreV hE hK hEV hA hP hD hS [0, 1, 2, 3, 4] rfl (by decide) (ci := 3) (q0 := 0) rfl rfl) rfl rfl hl.1 rfl (lv_room (Nat.le_of_ble_eq_true rfl)) ndD_read_329 ⟨(Nat.le_of_ble_eq_true rfl), (Nat.le_of_ble_eq_true rfl)⟩) hP hD hS hA [0, 1, 2, 3, 4] [] rfl rfl (by decide) (by decide) [0, 1, 2, 3, 4] rfl (by decide) (fun H locs hP hD hS => ?_)
            exact fd_retN_i (rn1) hx hb hr hlocks hS hP hD rfl (congrArg (fun z => (-1 : Int32) - z) (e5.symm.trans e1)) (trivial) ndD_read_332
    | succ z ih =>
      intro k1 q1 rn1 cs1 cn1 hk9 hq9 hq3 ha hleg hh H locs ls hP hD hS hl
      obtain ⟨s1, hs8, hs1⟩ := fd_due_ex h1q h15 (show k1 ≤ 20 by omega) cn1
      rw [hs1] at hl
      refine lv_iload_n hx hb ndD_read_68 rfl (lv_at hl 3 rfl) ?_
      refine lv_if_le (tgt := 276) hx hb ndD_read_69 (by decide) (fun c_69 => ?_) (fun c_69 => ?_)
      · have n_69 := (nI_leI (a := s1) (b := 0) (by omega) (by omega)).mp c_69
        obtain ⟨e1, rfl, rfl, rfl⟩ := fd_q4 ((fd_ht_end (by rw [hs1, show s1 = 0 by omega]; rfl)).symm.trans hh)
        refine lv_iconst (v := 0) hx hb ndD_read_276 (by decide) ?_
        refine lv_istore (lv' := [(4, .int 0), (0, .ref b0), (1, .int (fd_rem g q1)), (2, .int (nI q1)), (3, .int (nI s1))]) hx hb ndD_read_277 hl (by decide) rfl (fun ls hl => ?_)
        refine lv_iload hx hb ndD_read_279 (lv_at hl 0 rfl) ?_
        refine lv_iconst (v := 2) hx hb ndD_read_281 (by decide) ?_
        refine lv_icmp_ge (tgt := 353) hx hb ndD_read_282 (by decide) (fun c_282 => absurd c_282 (by decide)) (fun _ => ?_)
        refine lv_iload_n hx hb ndD_read_285 rfl (lv_at hl 3 rfl) ?_
        refine lv_iload hx hb ndD_read_286 (lv_at hl 0 rfl) ?_
        refine lv_iadd hx hb ndD_read_288 ?_
        refine fd_asi (y := nI (q1 + 0)) (nI_add q1 0) ?_
        refine lv_aload_n hx hb ndD_read_289 rfl (lv_at hl 1 rfl) ?_
        refine va_get (D := D) (ci := 3) (v := .int (nI n)) (C := nR_D) (T := nT_D) (N := 11) hx hb hts in_D hown hK hP 0 rfl rfl 1 (by decide) (hts _ tb_249) (fun _ h9 => h9) rfl ndD_read_290 ?_
        refine lv_icmp_ge (tgt := 324) hx hb ndD_read_293 (by decide) (fun c_293 => ?_) (fun c_293 => ?_)
        · have n_293 := (nI_leI (a := n) (b := (q1 + 0)) (by omega) (by omega)).mp c_293
          have d0 : fd_dig (fd_at n g (nI (q1))) = 0 := fd_dig0 hn (by omega) (Or.inl (by omega))
          have e5 : fd_cd g n q1 = nI (q1) := by rw [fd_cd, if_pos d0]
          refine lv_aload_n hx hb ndD_read_324 rfl (lv_at hl 1 rfl) ?_
          refine lv_iload_n hx hb ndD_read_325 rfl (lv_at hl 3 rfl) ?_
          refine lv_iload hx hb ndD_read_326 (lv_at hl 0 rfl) ?_
          refine lv_iadd hx hb ndD_read_328 ?_
          refine fd_asi (y := nI (q1 + 0)) (nI_add q1 0) ?_
          refine fd_go_i (wr := []) (w2 := [(b0, .inr (3, [.ref b1, .int (nI 0), .int (nI 0), .int (nI 0), .ref b2, .int (nI od), .int cf, .int (nI wn), .ref b3, .int (nI ok), .ref b4])), (b1, .inl (cI, 400, .inl g)), (b2, .inl (cL, 24, .inr (.inl rn1))), (b3, .inl (cI, 200, .inl go)), (b4, .inl (cL, 24, .inr (.inl gn)))]) (va_runV (As := [.int (nI (q1 + 0))]) (rest := []) ⟨hx, hb, hml, hown, hts⟩ (kD_fault l D Z cI cL (n := n) (g := g) (kd := q) (k := k1) (rn := rn1) (od := od) (cf := cf) (wn := wn) (go := go) (ok := ok) (gn := gn) (by omega) (by omega) (by omega) (by omega) (by omega) (by omega) (p1 := (q1 + 0)) H.size) (cwV 1 hts (fd_gV tb_285 tb_286 tb_9 tb_16 tb_287) rfl rfl rfl nhD_fault ⟨(Nat.le_of_ble_eq_true rfl), (Nat.le_of_ble_eq_true rfl)⟩) (fd_PreV hE hK hEV hA hP hD hS [0, 1, 2, 3, 4] rfl (by decide) (ci := 3) (q0 := 0) rfl rfl) rfl rfl hl.1 rfl (lv_room (Nat.le_of_ble_eq_true rfl)) ndD_read_329 ⟨(Nat.le_of_ble_eq_true rfl), (Nat.le_of_ble_eq_true rfl)⟩) hP hD hS hA [0, 1, 2, 3, 4] [] rfl rfl (by decide) (by decide) [0, 1, 2, 3, 4] rfl (by decide) (fun H locs hP hD hS => ?_)
          exact fd_retN_i (rn1) hx hb hr hlocks hS hP hD rfl (congrArg (fun z => (-1 : Int32) - z) (e5.symm.trans e1)) (trivial) ndD_read_332
        · have n_293 := mt (nI_leI (a := n) (b := (q1 + 0)) (by omega) (by omega)).mpr c_293
          refine lv_aload_n hx hb ndD_read_296 rfl (lv_at hl 1 rfl) ?_
          refine va_get (D := D) (ci := 3) (v := .ref b1) (C := nR_D) (T := nT_D) (N := 11) hx hb hts in_D hown hK hP 0 rfl rfl 0 (by decide) (hts _ tb_248) (fun _ h9 => h9) rfl ndD_read_297 ?_
          refine lv_iload_n hx hb ndD_read_300 rfl (lv_at hl 3 rfl) ?_
          refine lv_iload hx hb ndD_read_301 (lv_at hl 0 rfl) ?_
          refine lv_iadd hx hb ndD_read_303 ?_
          refine fd_asi (y := nI (q1 + 0)) (nI_add q1 0) ?_
          refine fd_iald hx hb hK hP 1 0 (k := (q1 + 0)) rfl rfl (by omega) (by omega) ndD_read_304 ?_
          refine lv_bipush (v := 48) hx hb ndD_read_305 (by decide) ?_
          refine lv_icmp_lt (tgt := 324) hx hb ndD_read_307 (by decide) (fun c_307 => ?_) (fun c_307 => ?_)
          · have d0 : fd_dig (fd_at n g (nI (q1))) = 0 := fd_dig0 hn (by omega) (Or.inr ⟨by omega, Or.inl c_307⟩)
            have e5 : fd_cd g n q1 = nI (q1) := by rw [fd_cd, if_pos d0]
            refine lv_aload_n hx hb ndD_read_324 rfl (lv_at hl 1 rfl) ?_
            refine lv_iload_n hx hb ndD_read_325 rfl (lv_at hl 3 rfl) ?_
            refine lv_iload hx hb ndD_read_326 (lv_at hl 0 rfl) ?_
            refine lv_iadd hx hb ndD_read_328 ?_
            refine fd_asi (y := nI (q1 + 0)) (nI_add q1 0) ?_
            refine fd_go_i (wr := []) (w2 := [(b0, .inr (3, [.ref b1, .int (nI 0), .int (nI 0), .int (nI 0), .ref b2, .int (nI od), .int cf, .int (nI wn), .ref b3, .int (nI ok), .ref b4])), (b1, .inl (cI, 400, .inl g)), (b2, .inl (cL, 24, .inr (.inl rn1))), (b3, .inl (cI, 200, .inl go)), (b4, .inl (cL, 24, .inr (.inl gn)))]) (va_runV (As := [.int (nI (q1 + 0))]) (rest := []) ⟨hx, hb, hml, hown, hts⟩ (kD_fault l D Z cI cL (n := n) (g := g) (kd := q) (k := k1) (rn := rn1) (od := od) (cf := cf) (wn := wn) (go := go) (ok := ok) (gn := gn) (by omega) (by omega) (by omega) (by omega) (by omega) (by omega) (p1 := (q1 + 0)) H.size) (cwV 1 hts (fd_gV tb_285 tb_286 tb_9 tb_16 tb_287) rfl rfl rfl nhD_fault ⟨(Nat.le_of_ble_eq_true rfl), (Nat.le_of_ble_eq_true rfl)⟩) (fd_PreV hE hK hEV hA hP hD hS [0, 1, 2, 3, 4] rfl (by decide) (ci := 3) (q0 := 0) rfl rfl) rfl rfl hl.1 rfl (lv_room (Nat.le_of_ble_eq_true rfl)) ndD_read_329 ⟨(Nat.le_of_ble_eq_true rfl), (Nat.le_of_ble_eq_true rfl)⟩) hP hD hS hA [0, 1, 2, 3, 4] [] rfl rfl (by decide) (by decide) [0, 1, 2, 3, 4] rfl (by decide) (fun H locs hP hD hS => ?_)
            exact fd_retN_i (rn1) hx hb hr hlocks hS hP hD rfl (congrArg (fun z => (-1 : Int32) - z) (e5.symm.trans e1)) (trivial) ndD_read_332
          · refine lv_aload_n hx hb ndD_read_310 rfl (lv_at hl 1 rfl) ?_
            refine va_get (D := D) (ci := 3) (v := .ref b1) (C := nR_D) (T := nT_D) (N := 11) hx hb hts in_D hown hK hP 0 rfl rfl 0 (by decide) (hts _ tb_248) (fun _ h9 => h9) rfl ndD_read_311 ?_
            refine lv_iload_n hx hb ndD_read_314 rfl (lv_at hl 3 rfl) ?_
            refine lv_iload hx hb ndD_read_315 (lv_at hl 0 rfl) ?_
            refine lv_iadd hx hb ndD_read_317 ?_
            refine fd_asi (y := nI (q1 + 0)) (nI_add q1 0) ?_
            refine fd_iald hx hb hK hP 1 0 (k := (q1 + 0)) rfl rfl (by omega) (by omega) ndD_read_318 ?_
            refine lv_bipush (v := 57) hx hb ndD_read_319 (by decide) ?_
            refine lv_icmp_le (tgt := 333) hx hb ndD_read_321 (by decide) (fun c_321 => ?_) (fun c_321 => ?_)
            · refine lv_iload_n hx hb ndD_read_333 rfl (lv_at hl 2 rfl) ?_
              refine lv_aload_n hx hb ndD_read_334 rfl (lv_at hl 1 rfl) ?_
              refine va_get (D := D) (ci := 3) (v := .ref b1) (C := nR_D) (T := nT_D) (N := 11) hx hb hts in_D hown hK hP 0 rfl rfl 0 (by decide) (hts _ tb_248) (fun _ h9 => h9) rfl ndD_read_335 ?_
              refine lv_iload_n hx hb ndD_read_338 rfl (lv_at hl 3 rfl) ?_
              refine lv_iload hx hb ndD_read_339 (lv_at hl 0 rfl) ?_
              refine lv_iadd hx hb ndD_read_341 ?_
              refine fd_asi (y := nI (q1 + 0)) (nI_add q1 0) ?_
              refine fd_iald hx hb hK hP 1 0 (k := (q1 + 0)) rfl rfl (by omega) (by omega) ndD_read_342 ?_
              refine fd_go_i (wr := [(b0, .inr (3, [.ref b1, .int (nI n), .int (nI q), .int (nI k1), .ref b2, .int (nI od), .int cf, .int (nI wn), .ref b3, .int (nI ok), .ref b4])), (b1, .inl (cI, 400, .inl g)), (b2, .inl (cL, 24, .inr (.inl rn1))), (b3, .inl (cI, 200, .inl go)), (b4, .inl (cL, 24, .inr (.inl gn)))]) (w2 := [(b0, .inr (3, [.ref b1, .int (nI n), .int (nI q), .int (nI k1), .ref b2, .int (nI od), .int cf, .int (nI wn), .ref b3, .int (nI ok), .ref b4])), (b1, .inl (cI, 400, .inl g)), (b2, .inl (cL, 24, .inr (.inl rn1))), (b3, .inl (cI, 200, .inl go)), (b4, .inl (cL, 24, .inr (.inl gn)))]) (va_runS (As := [.int (fd_rem g q1), .int (g (q1 + 0))]) (rest := []) ⟨hx, hb, hml, hown, hts⟩ (kD_step l D Z cI cL (fd_rem g q1) (g (q1 + 0)) H.size) (va_cwS 2 hts (fd_gS tb_288 tb_289 tb_16 tb_290) rfl rfl rfl nhD_step.2 ⟨(Nat.le_of_ble_eq_true rfl), (Nat.le_of_ble_eq_true rfl)⟩) (fd_PreS hE hK hEV hA hP hD hS [] rfl (by decide)) rfl rfl hl.1 rfl (lv_room (Nat.le_of_ble_eq_true rfl)) ndD_read_343 ⟨(Nat.le_of_ble_eq_true rfl), (Nat.le_of_ble_eq_true rfl)⟩) hP hD hS hA [] [0, 1, 2, 3, 4] rfl rfl (by decide) (by decide) [0, 1, 2, 3, 4] rfl (by decide) (fun H locs hP hD hS => ?_)
              refine fd_asi (y := fd_rem g (q1 + 1)) (fd_stp_eq (fd_sg_dig c_307 c_321) _) ?_
              refine lv_istore_n (lv' := [(1, .int (fd_rem g (q1 + 1))), (4, .int 0), (0, .ref b0), (2, .int (nI q1)), (3, .int (nI s1))]) hx hb ndD_read_346 rfl hl (by decide) rfl (fun ls hl => ?_)
              refine lv_iinc (v := 1) (lv' := [(4, .int 1), (1, .int (fd_rem g (q1 + 1))), (0, .ref b0), (2, .int (nI q1)), (3, .int (nI s1))]) hx hb ndD_read_347 hl (k := 1) rfl (by decide) (by decide) rfl (fun ls hl => ?_)
              refine lv_goto (tgt := 279) hx hb ndD_read_350 (by decide) ?_
              have d_1 : ¬ fd_dig (fd_at n g (nI q1)) = 0 := fd_dig1 hn n_293 c_307 c_321
              refine lv_iload hx hb ndD_read_279 (lv_at hl 0 rfl) ?_
              refine lv_iconst (v := 2) hx hb ndD_read_281 (by decide) ?_
              refine lv_icmp_ge (tgt := 353) hx hb ndD_read_282 (by decide) (fun c_282 => absurd c_282 (by decide)) (fun _ => ?_)
              refine lv_iload_n hx hb ndD_read_285 rfl (lv_at hl 3 rfl) ?_
              refine lv_iload hx hb ndD_read_286 (lv_at hl 0 rfl) ?_
              refine lv_iadd hx hb ndD_read_288 ?_
              refine fd_asi (y := nI (q1 + 1)) (nI_add q1 1) ?_
              refine lv_aload_n hx hb ndD_read_289 rfl (lv_at hl 2 rfl) ?_
              refine va_get (D := D) (ci := 3) (v := .int (nI n)) (C := nR_D) (T := nT_D) (N := 11) hx hb hts in_D hown hK hP 0 rfl rfl 1 (by decide) (hts _ tb_249) (fun _ h9 => h9) rfl ndD_read_290 ?_
              refine lv_icmp_ge (tgt := 324) hx hb ndD_read_293 (by decide) (fun c_293 => ?_) (fun c_293 => ?_)
              · have n_293 := (nI_leI (a := n) (b := (q1 + 1)) (by omega) (by omega)).mp c_293
                have d0 : fd_dig (fd_at n g (nI (q1 + 1))) = 0 := fd_dig0 hn (by omega) (Or.inl (by omega))
                have e5 : fd_cd g n q1 = nI (q1 + 1) := by rw [fd_cd, if_neg d_1, if_pos d0]
                refine lv_aload_n hx hb ndD_read_324 rfl (lv_at hl 2 rfl) ?_
                refine lv_iload_n hx hb ndD_read_325 rfl (lv_at hl 3 rfl) ?_
                refine lv_iload hx hb ndD_read_326 (lv_at hl 0 rfl) ?_
                refine lv_iadd hx hb ndD_read_328 ?_
                refine fd_asi (y := nI (q1 + 1)) (nI_add q1 1) ?_
                refine fd_go_i (wr := []) (w2 := [(b0, .inr (3, [.ref b1, .int (nI 0), .int (nI 0), .int (nI 0), .ref b2, .int (nI od), .int cf, .int (nI wn), .ref b3, .int (nI ok), .ref b4])), (b1, .inl (cI, 400, .inl g)), (b2, .inl (cL, 24, .inr (.inl rn1))), (b3, .inl (cI, 200, .inl go)), (b4, .inl (cL, 24, .inr (.inl gn)))]) (va_runV (As := [.int (nI (q1 + 1))]) (rest := []) ⟨hx, hb, hml, hown, hts⟩ (kD_fault l D Z cI cL (n := n) (g := g) (kd := q) (k := k1) (rn := rn1) (od := od) (cf := cf) (wn := wn) (go := go) (ok := ok) (gn := gn) (by omega) (by omega) (by omega) (by omega) (by omega) (by omega) (p1 := (q1 + 1)) H.size) (cwV 1 hts (fd_gV tb_285 tb_286 tb_9 tb_16 tb_287) rfl rfl rfl nhD_fault ⟨(Nat.le_of_ble_eq_true rfl), (Nat.le_of_ble_eq_true rfl)⟩) (fd_PreV hE hK hEV hA hP hD hS [0, 1, 2, 3, 4] rfl (by decide) (ci := 3) (q0 := 0) rfl rfl) rfl rfl hl.1 rfl (lv_room (Nat.le_of_ble_eq_true rfl)) ndD_read_329 ⟨(Nat.le_of_ble_eq_true rfl), (Nat.le_of_ble_eq_true rfl)⟩) hP hD hS hA [0, 1, 2, 3, 4] [] rfl rfl (by decide) (by decide) [0, 1, 2, 3, 4] rfl (by decide) (fun H locs hP hD hS => ?_)
                exact fd_retN_i (rn1) hx hb hr hlocks hS hP hD rfl (congrArg (fun z => (-1 : Int32) - z) (e5.symm.trans e1)) (trivial) ndD_read_332
              · have n_293 := mt (nI_leI (a := n) (b := (q1 + 1)) (by omega) (by omega)).mpr c_293
                refine lv_aload_n hx hb ndD_read_296 rfl (lv_at hl 2 rfl) ?_
                refine va_get (D := D) (ci := 3) (v := .ref b1) (C := nR_D) (T := nT_D) (N := 11) hx hb hts in_D hown hK hP 0 rfl rfl 0 (by decide) (hts _ tb_248) (fun _ h9 => h9) rfl ndD_read_297 ?_
                refine lv_iload_n hx hb ndD_read_300 rfl (lv_at hl 3 rfl) ?_
                refine lv_iload hx hb ndD_read_301 (lv_at hl 0 rfl) ?_
                refine lv_iadd hx hb ndD_read_303 ?_
                refine fd_asi (y := nI (q1 + 1)) (nI_add q1 1) ?_
                refine fd_iald hx hb hK hP 1 0 (k := (q1 + 1)) rfl rfl (by omega) (by omega) ndD_read_304 ?_
                refine lv_bipush (v := 48) hx hb ndD_read_305 (by decide) ?_
                refine lv_icmp_lt (tgt := 324) hx hb ndD_read_307 (by decide) (fun c_307 => ?_) (fun c_307 => ?_)
                · have d0 : fd_dig (fd_at n g (nI (q1 + 1))) = 0 := fd_dig0 hn (by omega) (Or.inr ⟨by omega, Or.inl c_307⟩)
                  have e5 : fd_cd g n q1 = nI (q1 + 1) := by rw [fd_cd, if_neg d_1, if_pos d0]
                  refine lv_aload_n hx hb ndD_read_324 rfl (lv_at hl 2 rfl) ?_
                  refine lv_iload_n hx hb ndD_read_325 rfl (lv_at hl 3 rfl) ?_
                  refine lv_iload hx hb ndD_read_326 (lv_at hl 0 rfl) ?_
                  refine lv_iadd hx hb ndD_read_328 ?_
                  refine fd_asi (y := nI (q1 + 1)) (nI_add q1 1) ?_
                  refine fd_go_i (wr := []) (w2 := [(b0, .inr (3, [.ref b1, .int (nI 0), .int (nI 0), .int (nI 0), .ref b2, .int (nI od), .int cf, .int (nI wn), .ref b3, .int (nI ok), .ref b4])), (b1, .inl (cI, 400, .inl g)), (b2, .inl (cL, 24, .inr (.inl rn1))), (b3, .inl (cI, 200, .inl go)), (b4, .inl (cL, 24, .inr (.inl gn)))]) (va_runV (As := [.int (nI (q1 + 1))]) (rest := []) ⟨hx, hb, hml, hown, hts⟩ (kD_fault l D Z cI cL (n := n) (g := g) (kd := q) (k := k1) (rn := rn1) (od := od) (cf := cf) (wn := wn) (go := go) (ok := ok) (gn := gn) (by omega) (by omega) (by omega) (by omega) (by omega) (by omega) (p1 := (q1 + 1)) H.size) (cwV 1 hts (fd_gV tb_285 tb_286 tb_9 tb_16 tb_287) rfl rfl rfl nhD_fault ⟨(Nat.le_of_ble_eq_true rfl), (Nat.le_of_ble_eq_true rfl)⟩) (fd_PreV hE hK hEV hA hP hD hS [0, 1, 2, 3, 4] rfl (by decide) (ci := 3) (q0 := 0) rfl rfl) rfl rfl hl.1 rfl (lv_room (Nat.le_of_ble_eq_true rfl)) ndD_read_329 ⟨(Nat.le_of_ble_eq_true rfl), (Nat.le_of_ble_eq_true rfl)⟩) hP hD hS hA [0, 1, 2, 3, 4] [] rfl rfl (by decide) (by decide) [0, 1, 2, 3, 4] rfl (by decide) (fun H locs hP hD hS => ?_)
                  exact fd_retN_i (rn1) hx hb hr hlocks hS hP hD rfl (congrArg (fun z => (-1 : Int32) - z) (e5.symm.trans e1)) (trivial) ndD_read_332
                · refine lv_aload_n hx hb ndD_read_310 rfl (lv_at hl 2 rfl) ?_
                  refine va_get (D := D) (ci := 3) (v := .ref b1) (C := nR_D) (T := nT_D) (N := 11) hx hb hts in_D hown hK hP 0 rfl rfl 0 (by decide) (hts _ tb_248) (fun _ h9 => h9) rfl ndD_read_311 ?_
                  refine lv_iload_n hx hb ndD_read_314 rfl (lv_at hl 3 rfl) ?_
                  refine lv_iload hx hb ndD_read_315 (lv_at hl 0 rfl) ?_
                  refine lv_iadd hx hb ndD_read_317 ?_
                  refine fd_asi (y := nI (q1 + 1)) (nI_add q1 1) ?_
                  refine fd_iald hx hb hK hP 1 0 (k := (q1 + 1)) rfl rfl (by omega) (by omega) ndD_read_318 ?_
                  refine lv_bipush (v := 57) hx hb ndD_read_319 (by decide) ?_
                  refine lv_icmp_le (tgt := 333) hx hb ndD_read_321 (by decide) (fun c_321 => ?_) (fun c_321 => ?_)
                  · refine lv_iload_n hx hb ndD_read_333 rfl (lv_at hl 1 rfl) ?_
                    refine lv_aload_n hx hb ndD_read_334 rfl (lv_at hl 2 rfl) ?_
                    refine va_get (D := D) (ci := 3) (v := .ref b1) (C := nR_D) (T := nT_D) (N := 11) hx hb hts in_D hown hK hP 0 rfl rfl 0 (by decide) (hts _ tb_248) (fun _ h9 => h9) rfl ndD_read_335 ?_
                    refine lv_iload_n hx hb ndD_read_338 rfl (lv_at hl 3 rfl) ?_
                    refine lv_iload hx hb ndD_read_339 (lv_at hl 0 rfl) ?_
                    refine lv_iadd hx hb ndD_read_341 ?_
                    refine fd_asi (y := nI (q1 + 1)) (nI_add q1 1) ?_
                    refine fd_iald hx hb hK hP 1 0 (k := (q1 + 1)) rfl rfl (by omega) (by omega) ndD_read_342 ?_
                    refine fd_go_i (wr := [(b0, .inr (3, [.ref b1, .int (nI n), .int (nI q), .int (nI k1), .ref b2, .int (nI od), .int cf, .int (nI wn), .ref b3, .int (nI ok), .ref b4])), (b1, .inl (cI, 400, .inl g)), (b2, .inl (cL, 24, .inr (.inl rn1))), (b3, .inl (cI, 200, .inl go)), (b4, .inl (cL, 24, .inr (.inl gn)))]) (w2 := [(b0, .inr (3, [.ref b1, .int (nI n), .int (nI q), .int (nI k1), .ref b2, .int (nI od), .int cf, .int (nI wn), .ref b3, .int (nI ok), .ref b4])), (b1, .inl (cI, 400, .inl g)), (b2, .inl (cL, 24, .inr (.inl rn1))), (b3, .inl (cI, 200, .inl go)), (b4, .inl (cL, 24, .inr (.inl gn)))]) (va_runS (As := [.int (fd_rem g (q1 + 1)), .int (g (q1 + 1))]) (rest := []) ⟨hx, hb, hml, hown, hts⟩ (kD_step l D Z cI cL (fd_rem g (q1 + 1)) (g (q1 + 1)) H.size) (va_cwS 2 hts (fd_gS tb_288 tb_289 tb_16 tb_290) rfl rfl rfl nhD_step.2 ⟨(Nat.le_of_ble_eq_true rfl), (Nat.le_of_ble_eq_true rfl)⟩) (fd_PreS hE hK hEV hA hP hD hS [] rfl (by decide)) rfl rfl hl.1 rfl (lv_room (Nat.le_of_ble_eq_true rfl)) ndD_read_343 ⟨(Nat.le_of_ble_eq_true rfl), (Nat.le_of_ble_eq_true rfl)⟩) hP hD hS hA [] [0, 1, 2, 3, 4] rfl rfl (by decide) (by decide) [0, 1, 2, 3, 4] rfl (by decide) (fun H locs hP hD hS => ?_)
                    refine fd_asi (y := fd_rem g (q1 + 1 + 1)) (fd_stp_eq (fd_sg_dig c_307 c_321) _) ?_
                    refine lv_istore_n (lv' := [(1, .int (fd_rem g (q1 + 1 + 1))), (4, .int 1), (0, .ref b0), (2, .int (nI q1)), (3, .int (nI s1))]) hx hb ndD_read_346 rfl hl (by decide) rfl (fun ls hl => ?_)
                    refine lv_iinc (v := 2) (lv' := [(4, .int 2), (1, .int (fd_rem g (q1 + 1 + 1))), (0, .ref b0), (2, .int (nI q1)), (3, .int (nI s1))]) hx hb ndD_read_347 hl (k := 1) rfl (by decide) (by decide) rfl (fun ls hl => ?_)
                    refine lv_goto (tgt := 279) hx hb ndD_read_350 (by decide) ?_
                    have d_2 : ¬ fd_dig (fd_at n g (nI (q1 + 1))) = 0 := fd_dig1 hn n_293 c_307 c_321
                    have en9 := n_293
                    refine lv_iload hx hb ndD_read_279 (lv_at hl 0 rfl) ?_
                    refine lv_iconst (v := 2) hx hb ndD_read_281 (by decide) ?_
                    refine lv_icmp_ge (tgt := 353) hx hb ndD_read_282 (by decide) (fun _ => ?_) (fun c_282 => absurd (by decide) c_282)
                    refine lv_aload_n hx hb ndD_read_353 rfl (lv_at hl 2 rfl) ?_
                    refine va_get (D := D) (ci := 3) (v := .int (nI n)) (C := nR_D) (T := nT_D) (N := 11) hx hb hts in_D hown hK hP 0 rfl rfl 1 (by decide) (hts _ tb_249) (fun _ h9 => h9) rfl ndD_read_354 ?_
                    refine lv_iload_n hx hb ndD_read_357 rfl (lv_at hl 3 rfl) ?_
                    refine lv_iconst (v := 2) hx hb ndD_read_358 (by decide) ?_
                    refine lv_iadd hx hb ndD_read_359 ?_
                    refine fd_asi (y := nI (q1 + 2)) (nI_add q1 2) ?_
                    refine lv_icmp_le (tgt := 371) hx hb ndD_read_360 (by decide) (fun c_360 => ?_) (fun c_360 => ?_)
                    · have n_360 := (nI_leI (a := n) (b := (q1 + 2)) (by omega) (by omega)).mp c_360
                      refine lv_iload_n hx hb ndD_read_371 rfl (lv_at hl 1 rfl) ?_
                      refine lv_iconst (v := 1) hx hb ndD_read_372 (by decide) ?_
                      refine lv_icmp_eq (tgt := 382) hx hb ndD_read_373 (by decide) (fun c_373 => ?_) (fun c_373 => ?_)
                      · exact absurd (e1.symm.trans (by rw [fd_cd, if_neg d_1, if_neg d_2, if_pos n_360, if_pos (by rw [show n = q1 + 1 + 1 by omega]; exact c_373)])) hr2
                      · have e5 : fd_cd g n q1 = nI q1 := by rw [fd_cd, if_neg d_1, if_neg d_2, if_pos n_360, if_neg (by rw [show n = q1 + 1 + 1 by omega]; exact c_373)]
                        refine lv_aload_n hx hb ndD_read_376 rfl (lv_at hl 2 rfl) ?_
                        refine lv_iload_n hx hb ndD_read_377 rfl (lv_at hl 3 rfl) ?_
                        refine fd_go_i (wr := []) (w2 := [(b0, .inr (3, [.ref b1, .int (nI 0), .int (nI 0), .int (nI 0), .ref b2, .int (nI od), .int cf, .int (nI wn), .ref b3, .int (nI ok), .ref b4])), (b1, .inl (cI, 400, .inl g)), (b2, .inl (cL, 24, .inr (.inl rn1))), (b3, .inl (cI, 200, .inl go)), (b4, .inl (cL, 24, .inr (.inl gn)))]) (va_runV (As := [.int (nI q1)]) (rest := []) ⟨hx, hb, hml, hown, hts⟩ (kD_fault l D Z cI cL (n := n) (g := g) (kd := q) (k := k1) (rn := rn1) (od := od) (cf := cf) (wn := wn) (go := go) (ok := ok) (gn := gn) (by omega) (by omega) (by omega) (by omega) (by omega) (by omega) (p1 := q1) H.size) (cwV 1 hts (fd_gV tb_285 tb_286 tb_9 tb_16 tb_287) rfl rfl rfl nhD_fault ⟨(Nat.le_of_ble_eq_true rfl), (Nat.le_of_ble_eq_true rfl)⟩) (fd_PreV hE hK hEV hA hP hD hS [0, 1, 2, 3, 4] rfl (by decide) (ci := 3) (q0 := 0) rfl rfl) rfl rfl hl.1 rfl (lv_room (Nat.le_of_ble_eq_true rfl)) ndD_read_378 ⟨(Nat.le_of_ble_eq_true rfl), (Nat.le_of_ble_eq_true rfl)⟩) hP hD hS hA [0, 1, 2, 3, 4] [] rfl rfl (by decide) (by decide) [0, 1, 2, 3, 4] rfl (by decide) (fun H locs hP hD hS => ?_)
                        exact fd_retN_i (rn1) hx hb hr hlocks hS hP hD rfl (congrArg (fun z => (-1 : Int32) - z) (e5.symm.trans e1)) (trivial) ndD_read_381
                    · have n_360 := mt (nI_leI (a := n) (b := (q1 + 2)) (by omega) (by omega)).mpr c_360
                      have e5 : fd_cd g n q1 = nI (q1 + 2) := by rw [fd_cd, if_neg d_1, if_neg d_2, if_neg n_360]
                      refine lv_aload_n hx hb ndD_read_363 rfl (lv_at hl 2 rfl) ?_
                      refine lv_iload_n hx hb ndD_read_364 rfl (lv_at hl 3 rfl) ?_
                      refine lv_iconst (v := 2) hx hb ndD_read_365 (by decide) ?_
                      refine lv_iadd hx hb ndD_read_366 ?_
                      refine fd_asi (y := nI (q1 + 2)) (nI_add q1 2) ?_
                      refine fd_go_i (wr := []) (w2 := [(b0, .inr (3, [.ref b1, .int (nI 0), .int (nI 0), .int (nI 0), .ref b2, .int (nI od), .int cf, .int (nI wn), .ref b3, .int (nI ok), .ref b4])), (b1, .inl (cI, 400, .inl g)), (b2, .inl (cL, 24, .inr (.inl rn1))), (b3, .inl (cI, 200, .inl go)), (b4, .inl (cL, 24, .inr (.inl gn)))]) (va_runV (As := [.int (nI (q1 + 2))]) (rest := []) ⟨hx, hb, hml, hown, hts⟩ (kD_fault l D Z cI cL (n := n) (g := g) (kd := q) (k := k1) (rn := rn1) (od := od) (cf := cf) (wn := wn) (go := go) (ok := ok) (gn := gn) (by omega) (by omega) (by omega) (by omega) (by omega) (by omega) (p1 := (q1 + 2)) H.size) (cwV 1 hts (fd_gV tb_285 tb_286 tb_9 tb_16 tb_287) rfl rfl rfl nhD_fault ⟨(Nat.le_of_ble_eq_true rfl), (Nat.le_of_ble_eq_true rfl)⟩) (fd_PreV hE hK hEV hA hP hD hS [0, 1, 2, 3, 4] rfl (by decide) (ci := 3) (q0 := 0) rfl rfl) rfl rfl hl.1 rfl (lv_room (Nat.le_of_ble_eq_true rfl)) ndD_read_367 ⟨(Nat.le_of_ble_eq_true rfl), (Nat.le_of_ble_eq_true rfl)⟩) hP hD hS hA [0, 1, 2, 3, 4] [] rfl rfl (by decide) (by decide) [0, 1, 2, 3, 4] rfl (by decide) (fun H locs hP hD hS => ?_)
                      exact fd_retN_i (rn1) hx hb hr hlocks hS hP hD rfl (congrArg (fun z => (-1 : Int32) - z) (e5.symm.trans e1)) (trivial) ndD_read_370
                  · have d0 : fd_dig (fd_at n g (nI (q1 + 1))) = 0 := fd_dig0 hn (by omega) (Or.inr ⟨by omega, Or.inr c_321⟩)
                    have e5 : fd_cd g n q1 = nI (q1 + 1) := by rw [fd_cd, if_neg d_1, if_pos d0]
                    refine lv_aload_n hx hb ndD_read_324 rfl (lv_at hl 2 rfl) ?_
                    refine lv_iload_n hx hb ndD_read_325 rfl (lv_at hl 3 rfl) ?_
                    refine lv_iload hx hb ndD_read_326 (lv_at hl 0 rfl) ?_
                    refine lv_iadd hx hb ndD_read_328 ?_
                    refine fd_asi (y := nI (q1 + 1)) (nI_add q1 1) ?_
                    refine fd_go_i (wr := []) (w2 := [(b0, .inr (3, [.ref b1, .int (nI 0), .int (nI 0), .int (nI 0), .ref b2, .int (nI od), .int cf, .int (nI wn), .ref b3, .int (nI ok), .ref b4])), (b1, .inl (cI, 400, .inl g)), (b2, .inl (cL, 24, .inr (.inl rn1))), (b3, .inl (cI, 200, .inl go)), (b4, .inl (cL, 24, .inr (.inl gn)))]) (va_runV (As := [.int (nI (q1 + 1))]) (rest := []) ⟨hx, hb, hml, hown, hts⟩ (kD_fault l D Z cI cL (n := n) (g := g) (kd := q) (k := k1) (rn := rn1) (od := od) (cf := cf) (wn := wn) (go := go) (ok := ok) (gn := gn) (by omega) (by omega) (by omega) (by omega) (by omega) (by omega) (p1 := (q1 + 1)) H.size) (cwV 1 hts (fd_gV tb_285 tb_286 tb_9 tb_16 tb_287) rfl rfl rfl nhD_fault ⟨(Nat.le_of_ble_eq_true rfl), (Nat.le_of_ble_eq_true rfl)⟩) (fd_PreV hE hK hEV hA hP hD hS [0, 1, 2, 3, 4] rfl (by decide) (ci := 3) (q0 := 0) rfl rfl) rfl rfl hl.1 rfl (lv_room (Nat.le_of_ble_eq_true rfl)) ndD_read_329 ⟨(Nat.le_of_ble_eq_true rfl), (Nat.le_of_ble_eq_true rfl)⟩) hP hD hS hA [0, 1, 2, 3, 4] [] rfl rfl (by decide) (by decide) [0, 1, 2, 3, 4] rfl (by decide) (fun H locs hP hD hS => ?_)
                    exact fd_retN_i (rn1) hx hb hr hlocks hS hP hD rfl (congrArg (fun z => (-1 : Int32) - z) (e5.symm.trans e1)) (trivial) ndD_read_332
            · have d0 : fd_dig (fd_at n g (nI (q1))) = 0 := fd_dig0 hn (by omega) (Or.inr ⟨by omega, Or.inr c_321⟩)
              have e5 : fd_cd g n q1 = nI (q1) := by rw [fd_cd, if_pos d0]
              refine lv_aload_n hx hb ndD_read_324 rfl (lv_at hl 1 rfl) ?_
              refine lv_iload_n hx hb ndD_read_325 rfl (lv_at hl 3 rfl) ?_
              refine lv_iload hx hb ndD_read_326 (lv_at hl 0 rfl) ?_
              refine lv_iadd hx hb ndD_read_328 ?_
              refine fd_asi (y := nI (q1 + 0)) (nI_add q1 0) ?_
              refine fd_go_i (wr := []) (w2 := [(b0, .inr (3, [.ref b1, .int (nI 0), .int (nI 0), .int (nI 0), .ref b2, .int (nI od), .int cf, .int (nI wn), .ref b3, .int (nI ok), .ref b4])), (b1, .inl (cI, 400, .inl g)), (b2, .inl (cL, 24, .inr (.inl rn1))), (b3, .inl (cI, 200, .inl go)), (b4, .inl (cL, 24, .inr (.inl gn)))]) (va_runV (As := [.int (nI (q1 + 0))]) (rest := []) ⟨hx, hb, hml, hown, hts⟩ (kD_fault l D Z cI cL (n := n) (g := g) (kd := q) (k := k1) (rn := rn1) (od := od) (cf := cf) (wn := wn) (go := go) (ok := ok) (gn := gn) (by omega) (by omega) (by omega) (by omega) (by omega) (by omega) (p1 := (q1 + 0)) H.size) (cwV 1 hts (fd_gV tb_285 tb_286 tb_9 tb_16 tb_287) rfl rfl rfl nhD_fault ⟨(Nat.le_of_ble_eq_true rfl), (Nat.le_of_ble_eq_true rfl)⟩) (fd_PreV hE hK hEV hA hP hD hS [0, 1, 2, 3, 4] rfl (by decide) (ci := 3) (q0 := 0) rfl rfl) rfl rfl hl.1 rfl (lv_room (Nat.le_of_ble_eq_true rfl)) ndD_read_329 ⟨(Nat.le_of_ble_eq_true rfl), (Nat.le_of_ble_eq_true rfl)⟩) hP hD hS hA [0, 1, 2, 3, 4] [] rfl rfl (by decide) (by decide) [0, 1, 2, 3, 4] rfl (by decide) (fun H locs hP hD hS => ?_)
              exact fd_retN_i (rn1) hx hb hr hlocks hS hP hD rfl (congrArg (fun z => (-1 : Int32) - z) (e5.symm.trans e1)) (trivial) ndD_read_332
      · have n_69 := mt (nI_leI (a := s1) (b := 0) (by omega) (by omega)).mpr c_69
        have hs0 : 1 ≤ s1 := by omega
        have hdz : ¬ fd_due q k1 cn1 = 0 := by rw [hs1]; exact nI_ne0 (by omega) (by omega)
        obtain ⟨zz, hzz, hmz, hz1⟩ := fd_mz_nI (show k1 ≤ 20 by omega) hs0 hs8 hs1
        have hmr : fd_mz q k1 rn1 = nI zz := (fd_mz_congr (by omega) (fun h => ha 3 h)).trans hmz
        obtain ⟨w, hw⟩ : ∃ w, fd_W (nI s1) = w := ⟨_, rfl⟩
        have hwl : w ≤ 15 := by rw [← hw]; exact fd_W_le _
        have hw5 : s1 = 5 → w = 1 := by rw [← hw]; exact (fd_W_all s1 (by omega) hs0).2
        obtain ⟨r9, x9, hx9⟩ : ∃ r x, fd_hfd g n q k1 q1 cn1 = (r, x) := ⟨_, _, rfl⟩
        have hh0 : fd_hf (nI s1) (nI zz) g n w q1 0 = (r9, x9) := by rw [← hx9, fd_hfd, hs1, hmz, hw]
        have cut104 : ∀ (ls : Array Slot), lv_has ls 6 [(0, .ref b0), (1, .int (fd_rem g q1)), (2, .int (nI q1)), (3, .int (nI s1))] → W p l e nmD_read s m ([.ref b0].toArray) below meth c H locs 0 0 (MQ below (va_Qi (fun r' (u : Nat → Int64) => r' = ((-1) - r) ∧ True) (fd_BN D fd_cl A (fun u : Nat → Int64 => [(b0, .inr (3, [.ref b1, .int (nI 0), .int (nI 0), .int (nI 0), .ref b2, .int (nI od), .int cf, .int (nI wn), .ref b3, .int (nI ok), .ref b4])), (b1, .inl (cI, 400, .inl g)), (b2, .inl (cL, 24, .inr (.inl u))), (b3, .inl (cI, 200, .inl go)), (b4, .inl (cL, 24, .inr (.inl gn)))])) A) [.ref b0].toArray s 0 0 A) (F0 m 104 ls [.int (nI zz)]) := by
          intro ls hl
          refine lv_istore (lv' := [(4, .int (nI zz)), (0, .ref b0), (1, .int (fd_rem g q1)), (2, .int (nI q1)), (3, .int (nI s1))]) hx hb ndD_read_104 hl (by decide) rfl (fun ls hl => ?_)
          refine lv_aload_n hx hb ndD_read_106 rfl (lv_at hl 1 rfl) ?_
          refine va_get (D := D) (ci := 3) (v := .ref b2) (C := nR_D) (T := nT_D) (N := 11) hx hb hts in_D hown hK hP 0 rfl rfl 4 (by decide) (hts _ tb_252) (fun _ h9 => h9) rfl ndD_read_107 ?_
          refine lv_aload_n hx hb ndD_read_110 rfl (lv_at hl 1 rfl) ?_
          refine va_get (D := D) (ci := 3) (v := .int (nI k1)) (C := nR_D) (T := nT_D) (N := 11) hx hb hts in_D hown hK hP 0 rfl rfl 3 (by decide) (hts _ tb_251) (fun _ h9 => h9) rfl ndD_read_111 ?_
          refine lv_lconst (v := 0) hx hb ndD_read_114 (by decide) ?_
          refine fd_last hx hb hK hP hD hS 2 1 (k := k1) rfl rfl (by omega) (by omega) ndD_read_115 (fun H locs hP hD hS => ?_)
          have hP : va_P D fd_cl [(b0, .inr (3, [.ref b1, .int (nI n), .int (nI q), .int (nI k1), .ref b2, .int (nI od), .int cf, .int (nI wn), .ref b3, .int (nI ok), .ref b4])), (b1, .inl (cI, 400, .inl g)), (b2, .inl (cL, 24, .inr (.inl (vp_updL rn1 k1 0)))), (b3, .inl (cI, 200, .inl go)), (b4, .inl (cL, 24, .inr (.inl gn)))] H := hP
          have hD : va_D A [(b0, .inr (3, [.ref b1, .int (nI n), .int (nI q), .int (nI k1), .ref b2, .int (nI od), .int cf, .int (nI wn), .ref b3, .int (nI ok), .ref b4])), (b1, .inl (cI, 400, .inl g)), (b2, .inl (cL, 24, .inr (.inl (vp_updL rn1 k1 0)))), (b3, .inl (cI, 200, .inl go)), (b4, .inl (cL, 24, .inr (.inl gn)))] := hD
          refine lv_iconst (v := 0) hx hb ndD_read_116 (by decide) ?_
          refine lv_istore (lv' := [(5, .int 0), (4, .int (nI zz)), (0, .ref b0), (1, .int (fd_rem g q1)), (2, .int (nI q1)), (3, .int (nI s1))]) hx hb ndD_read_117 hl (by decide) rfl (fun ls hl => ?_)
          have loop2 : ∀ (y : Nat) (i p2 : Nat) (acc : Int64) (hi : i + y = w) (hp2 : p2 = q1 + i) (hpn : p2 ≤ n) (hacc : i = 0 → acc = 0) (hh2 : fd_hf (nI s1) (nI zz) g n y p2 acc = (r9, x9)) (H : Heap) (locs : List Loc) (ls : Array Slot), va_P D fd_cl [(b0, .inr (3, [.ref b1, .int (nI n), .int (nI q), .int (nI k1), .ref b2, .int (nI od), .int cf, .int (nI wn), .ref b3, .int (nI ok), .ref b4])), (b1, .inl (cI, 400, .inl g)), (b2, .inl (cL, 24, .inr (.inl (vp_updL rn1 k1 acc)))), (b3, .inl (cI, 200, .inl go)), (b4, .inl (cL, 24, .inr (.inl gn)))] H → va_D A [(b0, .inr (3, [.ref b1, .int (nI n), .int (nI q), .int (nI k1), .ref b2, .int (nI od), .int cf, .int (nI wn), .ref b3, .int (nI ok), .ref b4])), (b1, .inl (cI, 400, .inl g)), (b2, .inl (cL, 24, .inr (.inl (vp_updL rn1 k1 acc)))), (b3, .inl (cI, 200, .inl go)), (b4, .inl (cL, 24, .inr (.inl gn)))] → va_S A s.heap H locs → lv_has ls 6 [(0, .ref b0), (1, .int (fd_rem g p2)), (2, .int (nI p2)), (3, .int (nI s1)), (4, .int (nI zz)), (5, .int (nI i))] → W p l e nmD_read s m ([.ref b0].toArray) below meth c H locs 0 0 (MQ below (va_Qi (fun r' (u : Nat → Int64) => r' = ((-1) - r) ∧ True) (fd_BN D fd_cl A (fun u : Nat → Int64 => [(b0, .inr (3, [.ref b1, .int (nI 0), .int (nI 0), .int (nI 0), .ref b2, .int (nI od), .int cf, .int (nI wn), .ref b3, .int (nI ok), .ref b4])), (b1, .inl (cI, 400, .inl g)), (b2, .inl (cL, 24, .inr (.inl u))), (b3, .inl (cI, 200, .inl go)), (b4, .inl (cL, 24, .inr (.inl gn)))])) A) [.ref b0].toArray s 0 0 A) (F0 m 119 ls []) := by
            intro y
            induction y with
            | zero =>
              intro i p2 acc hi hp2 hpn hacc hh2 H locs ls hP hD hS hl
              obtain ⟨e8, e9⟩ := Prod.mk.inj hh2
              subst e8
              subst e9
              have ha2 := fd_agree (x := acc) ha
              have ep : p2 = q1 + fd_W (fd_due q k1 cn1) := by rw [hs1, hw]; omega
              refine lv_iload hx hb ndD_read_119 (lv_at hl 5 rfl) ?_
              refine lv_iload_n hx hb ndD_read_121 rfl (lv_at hl 3 rfl) ?_
              refine fd_go_i (wr := [(b0, .inr (3, [.ref b1, .int (nI n), .int (nI q), .int (nI k1), .ref b2, .int (nI od), .int cf, .int (nI wn), .ref b3, .int (nI ok), .ref b4])), (b1, .inl (cI, 400, .inl g)), (b2, .inl (cL, 24, .inr (.inl (vp_updL rn1 k1 acc)))), (b3, .inl (cI, 200, .inl go)), (b4, .inl (cL, 24, .inr (.inl gn)))]) (w2 := [(b0, .inr (3, [.ref b1, .int (nI n), .int (nI q), .int (nI k1), .ref b2, .int (nI od), .int cf, .int (nI wn), .ref b3, .int (nI ok), .ref b4])), (b1, .inl (cI, 400, .inl g)), (b2, .inl (cL, 24, .inr (.inl (vp_updL rn1 k1 acc)))), (b3, .inl (cI, 200, .inl go)), (b4, .inl (cL, 24, .inr (.inl gn)))]) (va_runS (As := [.int (nI s1)]) (rest := [.int (nI i)]) ⟨hx, hb, hml, hown, hts⟩ (kD_width l D Z cI cL (s1 := s1) (by omega) (by omega) H.size) (va_cwS 1 hts (fd_gS tb_291 tb_292 tb_16 tb_293) rfl rfl rfl nhD_width.2 ⟨(Nat.le_of_ble_eq_true rfl), (Nat.le_of_ble_eq_true rfl)⟩) (fd_PreS hE hK hEV hA hP hD hS [] rfl (by decide)) rfl rfl hl.1 rfl (lv_room (Nat.le_of_ble_eq_true rfl)) ndD_read_122 ⟨(Nat.le_of_ble_eq_true rfl), (Nat.le_of_ble_eq_true rfl)⟩) hP hD hS hA [] [0, 1, 2, 3, 4] rfl rfl (by decide) (by decide) [0, 1, 2, 3, 4] rfl (by decide) (fun H locs hP hD hS => ?_)
              refine fd_asi (y := nI w) (by rw [hw]) ?_
              refine lv_icmp_ge (tgt := 245) hx hb ndD_read_125 (by decide) (fun _ => ?_) (fun c_125 => absurd ((nI_leI (a := w) (b := i) (by omega) (by omega)).mpr (by omega)) c_125)
              refine lv_aload_n hx hb ndD_read_245 rfl (lv_at hl 0 rfl) ?_
              refine lv_aload_n hx hb ndD_read_246 rfl (lv_at hl 0 rfl) ?_
              refine va_get (D := D) (ci := 3) (v := .int (nI k1)) (C := nR_D) (T := nT_D) (N := 11) hx hb hts in_D hown hK hP 0 rfl rfl 3 (by decide) (hts _ tb_251) (fun _ h9 => h9) rfl ndD_read_247 ?_
              refine lv_iconst (v := 1) hx hb ndD_read_250 (by decide) ?_
              refine lv_iadd hx hb ndD_read_251 ?_
              refine fd_asi (y := nI (k1 + 1)) (nI_1 k1) ?_
              refine va_put (D := D) (ci := 3) (v := .int (nI (k1 + 1))) (ty := (.int)) (C := nR_D) (T := nT_D) (N := 11) hx hb hts in_D nt_D nt_D_ok nn_D hown hK hP hD hS 0 rfl rfl 3 (by decide) (hts _ tb_251) (fun _ h9 => h9) rfl (by decide +kernel) rfl rfl (Nat.le_of_ble_eq_true rfl) ndD_read_252 (fun H locs hP hD hS => ?_)
              have hP : va_P D fd_cl [(b0, .inr (3, [.ref b1, .int (nI n), .int (nI q), .int (nI (k1 + 1)), .ref b2, .int (nI od), .int cf, .int (nI wn), .ref b3, .int (nI ok), .ref b4])), (b1, .inl (cI, 400, .inl g)), (b2, .inl (cL, 24, .inr (.inl (vp_updL rn1 k1 acc)))), (b3, .inl (cI, 200, .inl go)), (b4, .inl (cL, 24, .inr (.inl gn)))] H := hP
              have hD : va_D A [(b0, .inr (3, [.ref b1, .int (nI n), .int (nI q), .int (nI (k1 + 1)), .ref b2, .int (nI od), .int cf, .int (nI wn), .ref b3, .int (nI ok), .ref b4])), (b1, .inl (cI, 400, .inl g)), (b2, .inl (cL, 24, .inr (.inl (vp_updL rn1 k1 acc)))), (b3, .inl (cI, 200, .inl go)), (b4, .inl (cL, 24, .inr (.inl gn)))] := hD
              refine lv_aload_n hx hb ndD_read_255 rfl (lv_at hl 0 rfl) ?_
              refine va_get (D := D) (ci := 3) (v := .int (nI q)) (C := nR_D) (T := nT_D) (N := 11) hx hb hts in_D hown hK hP 0 rfl rfl 2 (by decide) (hts _ tb_250) (fun _ h9 => h9) rfl ndD_read_256 ?_
              refine lv_aload_n hx hb ndD_read_259 rfl (lv_at hl 0 rfl) ?_
              refine va_get (D := D) (ci := 3) (v := .int (nI (k1 + 1))) (C := nR_D) (T := nT_D) (N := 11) hx hb hts in_D hown hK hP 0 rfl rfl 3 (by decide) (hts _ tb_251) (fun _ h9 => h9) rfl ndD_read_260 ?_
              refine lv_aload_n hx hb ndD_read_263 rfl (lv_at hl 0 rfl) ?_
              refine va_get (D := D) (ci := 3) (v := .ref b2) (C := nR_D) (T := nT_D) (N := 11) hx hb hts in_D hown hK hP 0 rfl rfl 4 (by decide) (hts _ tb_252) (fun _ h9 => h9) rfl ndD_read_264 ?_
              refine lv_iconst (v := 3) hx hb ndD_read_267 (by decide) ?_
              refine fd_asi (y := nI 3) rfl ?_
              refine fd_lald hx hb hK hP 2 1 (k := 3) rfl rfl (by omega) (by omega) ndD_read_268 ?_
              refine fd_go_i (wr := [(b0, .inr (3, [.ref b1, .int (nI n), .int (nI q), .int (nI (k1 + 1)), .ref b2, .int (nI od), .int cf, .int (nI wn), .ref b3, .int (nI ok), .ref b4])), (b1, .inl (cI, 400, .inl g)), (b2, .inl (cL, 24, .inr (.inl (vp_updL rn1 k1 acc)))), (b3, .inl (cI, 200, .inl go)), (b4, .inl (cL, 24, .inr (.inl gn)))]) (w2 := [(b0, .inr (3, [.ref b1, .int (nI n), .int (nI q), .int (nI (k1 + 1)), .ref b2, .int (nI od), .int cf, .int (nI wn), .ref b3, .int (nI ok), .ref b4])), (b1, .inl (cI, 400, .inl g)), (b2, .inl (cL, 24, .inr (.inl (vp_updL rn1 k1 acc)))), (b3, .inl (cI, 200, .inl go)), (b4, .inl (cL, 24, .inr (.inl gn)))]) (va_runS (As := [.int (nI q), .int (nI (k1 + 1)), .long ((vp_updL rn1 k1 acc) 3)]) (rest := []) ⟨hx, hb, hml, hown, hts⟩ (kD_sortOf l D Z cI cL (kd := q) (j := (k1 + 1)) (by omega) (by omega) (by omega) ((vp_updL rn1 k1 acc) 3) H.size) (va_cwS 3 hts (fd_gS tb_303 tb_304 tb_16 tb_305) rfl rfl rfl nhD_sortOf.2 ⟨(Nat.le_of_ble_eq_true rfl), (Nat.le_of_ble_eq_true rfl)⟩) (fd_PreS hE hK hEV hA hP hD hS [] rfl (by decide)) rfl rfl hl.1 rfl (lv_room (Nat.le_of_ble_eq_true rfl)) ndD_read_269 ⟨(Nat.le_of_ble_eq_true rfl), (Nat.le_of_ble_eq_true rfl)⟩) hP hD hS hA [] [0, 1, 2, 3, 4] rfl rfl (by decide) (by decide) [0, 1, 2, 3, 4] rfl (by decide) (fun H locs hP hD hS => ?_)
              refine fd_asi (y := fd_due q (k1 + 1) (vp_updL cn1 k1 acc)) (fd_due_congr (b := vp_updL cn1 k1 acc) (fun h => ha2 3 (by omega))) ?_
              refine lv_istore_n (lv' := [(3, .int (fd_due q (k1 + 1) (vp_updL cn1 k1 acc))), (0, .ref b0), (1, .int (fd_rem g p2)), (2, .int (nI p2)), (4, .int (nI zz)), (5, .int (nI i))]) hx hb ndD_read_272 rfl hl (by decide) rfl (fun ls hl => ?_)
              refine lv_goto (tgt := 68) hx hb ndD_read_273 (by decide) ?_
              exact ih (k1 + 1) p2 _ _ _ (by omega) (by omega) hpn ha2 (fd_leg_step hby hn (by omega) hs1 hs8 hw hh0 hleg) (by rw [ep]; exact (fd_ht_ok hdz hx9).symm.trans hh) _ _ _ hP hD hS (lv_sub hl [1, 2, 3, 0] rfl)
            | succ y ih =>
              intro i p2 acc hi hp2 hpn hacc hh2 H locs ls hP hD hS hl
              refine lv_iload hx hb ndD_read_119 (lv_at hl 5 rfl) ?_
              refine lv_iload_n hx hb ndD_read_121 rfl (lv_at hl 3 rfl) ?_
              refine fd_go_i (wr := [(b0, .inr (3, [.ref b1, .int (nI n), .int (nI q), .int (nI k1), .ref b2, .int (nI od), .int cf, .int (nI wn), .ref b3, .int (nI ok), .ref b4])), (b1, .inl (cI, 400, .inl g)), (b2, .inl (cL, 24, .inr (.inl (vp_updL rn1 k1 acc)))), (b3, .inl (cI, 200, .inl go)), (b4, .inl (cL, 24, .inr (.inl gn)))]) (w2 := [(b0, .inr (3, [.ref b1, .int (nI n), .int (nI q), .int (nI k1), .ref b2, .int (nI od), .int cf, .int (nI wn), .ref b3, .int (nI ok), .ref b4])), (b1, .inl (cI, 400, .inl g)), (b2, .inl (cL, 24, .inr (.inl (vp_updL rn1 k1 acc)))), (b3, .inl (cI, 200, .inl go)), (b4, .inl (cL, 24, .inr (.inl gn)))]) (va_runS (As := [.int (nI s1)]) (rest := [.int (nI i)]) ⟨hx, hb, hml, hown, hts⟩ (kD_width l D Z cI cL (s1 := s1) (by omega) (by omega) H.size) (va_cwS 1 hts (fd_gS tb_291 tb_292 tb_16 tb_293) rfl rfl rfl nhD_width.2 ⟨(Nat.le_of_ble_eq_true rfl), (Nat.le_of_ble_eq_true rfl)⟩) (fd_PreS hE hK hEV hA hP hD hS [] rfl (by decide)) rfl rfl hl.1 rfl (lv_room (Nat.le_of_ble_eq_true rfl)) ndD_read_122 ⟨(Nat.le_of_ble_eq_true rfl), (Nat.le_of_ble_eq_true rfl)⟩) hP hD hS hA [] [0, 1, 2, 3, 4] rfl rfl (by decide) (by decide) [0, 1, 2, 3, 4] rfl (by decide) (fun H locs hP hD hS => ?_)
              refine fd_asi (y := nI w) (by rw [hw]) ?_
              refine lv_icmp_ge (tgt := 245) hx hb ndD_read_125 (by decide) (fun c_125 => absurd c_125 (fun h9 => absurd ((nI_leI (a := w) (b := i) (by omega) (by omega)).mp h9) (by omega))) (fun _ => ?_)
              refine lv_iload_n hx hb ndD_read_128 rfl (lv_at hl 2 rfl) ?_
              refine lv_aload_n hx hb ndD_read_129 rfl (lv_at hl 0 rfl) ?_
              refine va_get (D := D) (ci := 3) (v := .int (nI n)) (C := nR_D) (T := nT_D) (N := 11) hx hb hts in_D hown hK hP 0 rfl rfl 1 (by decide) (hts _ tb_249) (fun _ h9 => h9) rfl ndD_read_130 ?_
              refine lv_icmp_eq (tgt := 151) hx hb ndD_read_133 (by decide) (fun c_133 => ?_) (fun c_133 => ?_)
              · have n_133 := (nI_eq (a := p2) (b := n) (by omega) (by omega)).mp c_133
                have e6 : r9 = nI p2 := (Prod.mk.inj ((fd_hf_no hs0 hs8 hzz hz1 hby hn (Or.inl (by omega)) (by omega)).symm.trans hh2)).1.symm
                have e7 := fd_q4 ((fd_ht_no hdz hx9 (by rw [e6]; exact fd_nI_ne1 (by omega))).symm.trans hh)
                refine lv_aload_n hx hb ndD_read_151 rfl (lv_at hl 0 rfl) ?_
                refine lv_iload_n hx hb ndD_read_152 rfl (lv_at hl 2 rfl) ?_
                refine fd_go_i (wr := []) (w2 := [(b0, .inr (3, [.ref b1, .int (nI 0), .int (nI 0), .int (nI 0), .ref b2, .int (nI od), .int cf, .int (nI wn), .ref b3, .int (nI ok), .ref b4])), (b1, .inl (cI, 400, .inl g)), (b2, .inl (cL, 24, .inr (.inl (vp_updL rn1 k1 acc)))), (b3, .inl (cI, 200, .inl go)), (b4, .inl (cL, 24, .inr (.inl gn)))]) (va_runV (As := [.int (nI p2)]) (rest := []) ⟨hx, hb, hml, hown, hts⟩ (kD_fault l D Z cI cL (n := n) (g := g) (kd := q) (k := k1) (rn := vp_updL rn1 k1 acc) (od := od) (cf := cf) (wn := wn) (go := go) (ok := ok) (gn := gn) (by omega) (by omega) (by omega) (by omega) (by omega) (by omega) (p1 := p2) H.size) (cwV 1 hts (fd_gV tb_285 tb_286 tb_9 tb_16 tb_287) rfl rfl rfl nhD_fault ⟨(Nat.le_of_ble_eq_true rfl), (Nat.le_of_ble_eq_true rfl)⟩) (fd_PreV hE hK hEV hA hP hD hS [0, 1, 2, 3, 4] rfl (by decide) (ci := 3) (q0 := 0) rfl rfl) rfl rfl hl.1 rfl (lv_room (Nat.le_of_ble_eq_true rfl)) ndD_read_153 ⟨(Nat.le_of_ble_eq_true rfl), (Nat.le_of_ble_eq_true rfl)⟩) hP hD hS hA [0, 1, 2, 3, 4] [] rfl rfl (by decide) (by decide) [0, 1, 2, 3, 4] rfl (by decide) (fun H locs hP hD hS => ?_)
                exact fd_retN_i (vp_updL rn1 k1 acc) hx hb hr hlocks hS hP hD rfl (by rw [← e7.1, e6]) (trivial) ndD_read_156
              · have n_133 := mt (nI_eq (a := p2) (b := n) (by omega) (by omega)).mpr c_133
                refine lv_iload_n hx hb ndD_read_136 rfl (lv_at hl 3 rfl) ?_
                refine lv_aload_n hx hb ndD_read_137 rfl (lv_at hl 0 rfl) ?_
                refine va_get (D := D) (ci := 3) (v := .ref b1) (C := nR_D) (T := nT_D) (N := 11) hx hb hts in_D hown hK hP 0 rfl rfl 0 (by decide) (hts _ tb_248) (fun _ h9 => h9) rfl ndD_read_138 ?_
                refine lv_iload_n hx hb ndD_read_141 rfl (lv_at hl 2 rfl) ?_
                refine fd_iald hx hb hK hP 1 0 (k := p2) rfl rfl (by omega) (by omega) ndD_read_142 ?_
                refine lv_iload hx hb ndD_read_143 (lv_at hl 4 rfl) ?_
                refine fd_go_i (wr := [(b0, .inr (3, [.ref b1, .int (nI n), .int (nI q), .int (nI k1), .ref b2, .int (nI od), .int cf, .int (nI wn), .ref b3, .int (nI ok), .ref b4])), (b1, .inl (cI, 400, .inl g)), (b2, .inl (cL, 24, .inr (.inl (vp_updL rn1 k1 acc)))), (b3, .inl (cI, 200, .inl go)), (b4, .inl (cL, 24, .inr (.inl gn)))]) (w2 := [(b0, .inr (3, [.ref b1, .int (nI n), .int (nI q), .int (nI k1), .ref b2, .int (nI od), .int cf, .int (nI wn), .ref b3, .int (nI ok), .ref b4])), (b1, .inl (cI, 400, .inl g)), (b2, .inl (cL, 24, .inr (.inl (vp_updL rn1 k1 acc)))), (b3, .inl (cI, 200, .inl go)), (b4, .inl (cL, 24, .inr (.inl gn)))]) (va_runS (As := [.int (nI s1), .int (g p2), .int (nI zz)]) (rest := []) ⟨hx, hb, hml, hown, hts⟩ (kD_fits l D Z cI cL (s1 := s1) (by omega) (by omega) (g p2) (nI zz) H.size) (va_cwS 3 hts (fd_gS tb_294 tb_295 tb_16 tb_296) rfl rfl rfl nhD_fits.2 ⟨(Nat.le_of_ble_eq_true rfl), (Nat.le_of_ble_eq_true rfl)⟩) (fd_PreS hE hK hEV hA hP hD hS [] rfl (by decide)) rfl rfl hl.1 rfl (lv_room (Nat.le_of_ble_eq_true rfl)) ndD_read_145 ⟨(Nat.le_of_ble_eq_true rfl), (Nat.le_of_ble_eq_true rfl)⟩) hP hD hS hA [] [0, 1, 2, 3, 4] rfl rfl (by decide) (by decide) [0, 1, 2, 3, 4] rfl (by decide) (fun H locs hP hD hS => ?_)
                refine lv_if_ne (tgt := 157) hx hb ndD_read_148 (by decide) (fun c_148 => ?_) (fun c_148 => ?_)
                · refine lv_aload_n hx hb ndD_read_157 rfl (lv_at hl 0 rfl) ?_
                  refine va_get (D := D) (ci := 3) (v := .ref b2) (C := nR_D) (T := nT_D) (N := 11) hx hb hts in_D hown hK hP 0 rfl rfl 4 (by decide) (hts _ tb_252) (fun _ h9 => h9) rfl ndD_read_158 ?_
                  refine lv_aload_n hx hb ndD_read_161 rfl (lv_at hl 0 rfl) ?_
                  refine va_get (D := D) (ci := 3) (v := .int (nI k1)) (C := nR_D) (T := nT_D) (N := 11) hx hb hts in_D hown hK hP 0 rfl rfl 3 (by decide) (hts _ tb_251) (fun _ h9 => h9) rfl ndD_read_162 ?_
                  have cut223 : ∀ (H : Heap) (locs : List Loc) (ls : Array Slot), va_P D fd_cl [(b0, .inr (3, [.ref b1, .int (nI n), .int (nI q), .int (nI k1), .ref b2, .int (nI od), .int cf, .int (nI wn), .ref b3, .int (nI ok), .ref b4])), (b1, .inl (cI, 400, .inl g)), (b2, .inl (cL, 24, .inr (.inl (vp_updL rn1 k1 acc)))), (b3, .inl (cI, 200, .inl go)), (b4, .inl (cL, 24, .inr (.inl gn)))] H → va_D A [(b0, .inr (3, [.ref b1, .int (nI n), .int (nI q), .int (nI k1), .ref b2, .int (nI od), .int cf, .int (nI wn), .ref b3, .int (nI ok), .ref b4])), (b1, .inl (cI, 400, .inl g)), (b2, .inl (cL, 24, .inr (.inl (vp_updL rn1 k1 acc)))), (b3, .inl (cI, 200, .inl go)), (b4, .inl (cL, 24, .inr (.inl gn)))] → va_S A s.heap H locs → lv_has ls 6 [(0, .ref b0), (1, .int (fd_rem g p2)), (2, .int (nI p2)), (3, .int (nI s1)), (4, .int (nI zz)), (5, .int (nI i))] → W p l e nmD_read s m ([.ref b0].toArray) below meth c H locs 0 0 (MQ below (va_Qi (fun r' (u : Nat → Int64) => r' = ((-1) - r) ∧ True) (fd_BN D fd_cl A (fun u : Nat → Int64 => [(b0, .inr (3, [.ref b1, .int (nI 0), .int (nI 0), .int (nI 0), .ref b2, .int (nI od), .int cf, .int (nI wn), .ref b3, .int (nI ok), .ref b4])), (b1, .inl (cI, 400, .inl g)), (b2, .inl (cL, 24, .inr (.inl u))), (b3, .inl (cI, 200, .inl go)), (b4, .inl (cL, 24, .inr (.inl gn)))])) A) [.ref b0].toArray s 0 0 A) (F0 m 223 ls [.long (acc * (fd_bI (nI s1)).toInt64 + (fd_vis (nI s1) (g p2)).toInt64), .int (nI k1), .ref b2]) := by
                    intro H locs ls hP hD hS hl
                    refine fd_last hx hb hK hP hD hS 2 1 (k := k1) rfl rfl (by omega) (by omega) ndD_read_223 (fun H locs hP hD hS => ?_)
                    have hP : va_P D fd_cl [(b0, .inr (3, [.ref b1, .int (nI n), .int (nI q), .int (nI k1), .ref b2, .int (nI od), .int cf, .int (nI wn), .ref b3, .int (nI ok), .ref b4])), (b1, .inl (cI, 400, .inl g)), (b2, .inl (cL, 24, .inr (.inl (vp_updL (vp_updL rn1 k1 acc) k1 (acc * (fd_bI (nI s1)).toInt64 + (fd_vis (nI s1) (g p2)).toInt64))))), (b3, .inl (cI, 200, .inl go)), (b4, .inl (cL, 24, .inr (.inl gn)))] H := hP
                    have hD : va_D A [(b0, .inr (3, [.ref b1, .int (nI n), .int (nI q), .int (nI k1), .ref b2, .int (nI od), .int cf, .int (nI wn), .ref b3, .int (nI ok), .ref b4])), (b1, .inl (cI, 400, .inl g)), (b2, .inl (cL, 24, .inr (.inl (vp_updL (vp_updL rn1 k1 acc) k1 (acc * (fd_bI (nI s1)).toInt64 + (fd_vis (nI s1) (g p2)).toInt64))))), (b3, .inl (cI, 200, .inl go)), (b4, .inl (cL, 24, .inr (.inl gn)))] := hD
                    rw [fd_uu] at hP hD
                    refine lv_iload_n hx hb ndD_read_224 rfl (lv_at hl 1 rfl) ?_
                    refine lv_aload_n hx hb ndD_read_225 rfl (lv_at hl 0 rfl) ?_
                    refine va_get (D := D) (ci := 3) (v := .ref b1) (C := nR_D) (T := nT_D) (N := 11) hx hb hts in_D hown hK hP 0 rfl rfl 0 (by decide) (hts _ tb_248) (fun _ h9 => h9) rfl ndD_read_226 ?_
                    refine lv_iload_n hx hb ndD_read_229 rfl (lv_at hl 2 rfl) ?_
                    refine fd_iald hx hb hK hP 1 0 (k := p2) rfl rfl (by omega) (by omega) ndD_read_230 ?_
                    refine fd_go_i (wr := [(b0, .inr (3, [.ref b1, .int (nI n), .int (nI q), .int (nI k1), .ref b2, .int (nI od), .int cf, .int (nI wn), .ref b3, .int (nI ok), .ref b4])), (b1, .inl (cI, 400, .inl g)), (b2, .inl (cL, 24, .inr (.inl (vp_updL rn1 k1 (acc * (fd_bI (nI s1)).toInt64 + (fd_vis (nI s1) (g p2)).toInt64))))), (b3, .inl (cI, 200, .inl go)), (b4, .inl (cL, 24, .inr (.inl gn)))]) (w2 := [(b0, .inr (3, [.ref b1, .int (nI n), .int (nI q), .int (nI k1), .ref b2, .int (nI od), .int cf, .int (nI wn), .ref b3, .int (nI ok), .ref b4])), (b1, .inl (cI, 400, .inl g)), (b2, .inl (cL, 24, .inr (.inl (vp_updL rn1 k1 (acc * (fd_bI (nI s1)).toInt64 + (fd_vis (nI s1) (g p2)).toInt64))))), (b3, .inl (cI, 200, .inl go)), (b4, .inl (cL, 24, .inr (.inl gn)))]) (va_runS (As := [.int (fd_rem g p2), .int (g p2)]) (rest := []) ⟨hx, hb, hml, hown, hts⟩ (kD_step l D Z cI cL (fd_rem g p2) (g p2) H.size) (va_cwS 2 hts (fd_gS tb_288 tb_289 tb_16 tb_290) rfl rfl rfl nhD_step.2 ⟨(Nat.le_of_ble_eq_true rfl), (Nat.le_of_ble_eq_true rfl)⟩) (fd_PreS hE hK hEV hA hP hD hS [] rfl (by decide)) rfl rfl hl.1 rfl (lv_room (Nat.le_of_ble_eq_true rfl)) ndD_read_231 ⟨(Nat.le_of_ble_eq_true rfl), (Nat.le_of_ble_eq_true rfl)⟩) hP hD hS hA [] [0, 1, 2, 3, 4] rfl rfl (by decide) (by decide) [0, 1, 2, 3, 4] rfl (by decide) (fun H locs hP hD hS => ?_)
                    refine fd_asi (y := fd_rem g (p2 + 1)) (fd_stp_eq (fd_fit_sg hs0 hs8 hzz hz1 hby (by omega) c_148) _) ?_
                    refine lv_istore_n (lv' := [(1, .int (fd_rem g (p2 + 1))), (0, .ref b0), (2, .int (nI p2)), (3, .int (nI s1)), (4, .int (nI zz)), (5, .int (nI i))]) hx hb ndD_read_234 rfl hl (by decide) rfl (fun ls hl => ?_)
                    refine lv_iload_n hx hb ndD_read_235 rfl (lv_at hl 2 rfl) ?_
                    refine lv_iconst (v := 1) hx hb ndD_read_236 (by decide) ?_
                    refine lv_iadd hx hb ndD_read_237 ?_
                    refine fd_asi (y := nI (p2 + 1)) (nI_1 p2) ?_
                    refine lv_istore_n (lv' := [(2, .int (nI (p2 + 1))), (1, .int (fd_rem g (p2 + 1))), (0, .ref b0), (3, .int (nI s1)), (4, .int (nI zz)), (5, .int (nI i))]) hx hb ndD_read_238 rfl hl (by decide) rfl (fun ls hl => ?_)
                    refine lv_iinc (v := nI (i + 1)) (lv' := [(5, .int (nI (i + 1))), (2, .int (nI (p2 + 1))), (1, .int (fd_rem g (p2 + 1))), (0, .ref b0), (3, .int (nI s1)), (4, .int (nI zz))]) hx hb ndD_read_239 hl (k := 5) rfl (nI_1 i) (by decide) rfl (fun ls hl => ?_)
                    refine lv_goto (tgt := 119) hx hb ndD_read_242 (by decide) ?_
                    exact ih (i + 1) (p2 + 1) _ (by omega) (by omega) (by omega) (fun h => absurd h (by omega)) ((fd_hf_ok hs0 hs8 hzz hz1 hby hn (by omega) c_148).symm.trans hh2) _ _ _ hP hD hS (lv_sub hl [3, 2, 1, 4, 5, 0] rfl)
                  refine lv_iload_n hx hb ndD_read_165 rfl (lv_at hl 3 rfl) ?_
                  refine lv_iconst (v := 5) hx hb ndD_read_166 (by decide) ?_
                  refine lv_icmp_ne (tgt := 189) hx hb ndD_read_167 (by decide) (fun c_167 => ?_) (fun c_167 => ?_)
                  · have n_167 := mt (nI_eq (a := s1) (b := 5) (by omega) (by omega)).mpr c_167
                    refine lv_aload_n hx hb ndD_read_189 rfl (lv_at hl 0 rfl) ?_
                    refine va_get (D := D) (ci := 3) (v := .ref b2) (C := nR_D) (T := nT_D) (N := 11) hx hb hts in_D hown hK hP 0 rfl rfl 4 (by decide) (hts _ tb_252) (fun _ h9 => h9) rfl ndD_read_190 ?_
                    refine lv_aload_n hx hb ndD_read_193 rfl (lv_at hl 0 rfl) ?_
                    refine va_get (D := D) (ci := 3) (v := .int (nI k1)) (C := nR_D) (T := nT_D) (N := 11) hx hb hts in_D hown hK hP 0 rfl rfl 3 (by decide) (hts _ tb_251) (fun _ h9 => h9) rfl ndD_read_194 ?_
                    refine fd_lald hx hb hK hP 2 1 (k := k1) rfl rfl (by omega) (by omega) ndD_read_197 ?_
                    refine fd_asl (y := acc) pk_uLs ?_
                    refine lv_iload_n hx hb ndD_read_198 rfl (lv_at hl 3 rfl) ?_
                    refine lv_iconst (v := 4) hx hb ndD_read_199 (by decide) ?_
                    refine lv_icmp_ge (tgt := 208) hx hb ndD_read_200 (by decide) (fun c_200 => ?_) (fun c_200 => ?_)
                    · have n_200 := (nI_leI (a := 4) (b := s1) (by omega) (by omega)).mp c_200
                      refine lv_bipush (v := 10) hx hb ndD_read_208 (by decide) ?_
                      refine fd_asi (y := fd_bI (nI s1)) (fd_bI_ge hs8 n_200) ?_
                      refine lv_i2l hx hb ndD_read_210 rfl ?_
                      refine lv_lmul hx hb ndD_read_211 ?_
                      refine lv_aload_n hx hb ndD_read_212 rfl (lv_at hl 0 rfl) ?_
                      refine va_get (D := D) (ci := 3) (v := .ref b1) (C := nR_D) (T := nT_D) (N := 11) hx hb hts in_D hown hK hP 0 rfl rfl 0 (by decide) (hts _ tb_248) (fun _ h9 => h9) rfl ndD_read_213 ?_
                      refine lv_iload_n hx hb ndD_read_216 rfl (lv_at hl 2 rfl) ?_
                      refine fd_iald hx hb hK hP 1 0 (k := p2) rfl rfl (by omega) (by omega) ndD_read_217 ?_
                      refine fd_go_i (wr := [(b0, .inr (3, [.ref b1, .int (nI n), .int (nI q), .int (nI k1), .ref b2, .int (nI od), .int cf, .int (nI wn), .ref b3, .int (nI ok), .ref b4])), (b1, .inl (cI, 400, .inl g)), (b2, .inl (cL, 24, .inr (.inl (vp_updL rn1 k1 acc)))), (b3, .inl (cI, 200, .inl go)), (b4, .inl (cL, 24, .inr (.inl gn)))]) (w2 := [(b0, .inr (3, [.ref b1, .int (nI n), .int (nI q), .int (nI k1), .ref b2, .int (nI od), .int cf, .int (nI wn), .ref b3, .int (nI ok), .ref b4])), (b1, .inl (cI, 400, .inl g)), (b2, .inl (cL, 24, .inr (.inl (vp_updL rn1 k1 acc)))), (b3, .inl (cI, 200, .inl go)), (b4, .inl (cL, 24, .inr (.inl gn)))]) (va_runS (As := [.int (g p2)]) (rest := [.long (acc * ((fd_bI (nI s1)).toInt64)), .int (nI k1), .ref b2]) ⟨hx, hb, hml, hown, hts⟩ (kD_valueOf l D Z cI cL (g p2) H.size) (va_cwS 1 hts (fd_gS tb_300 tb_301 tb_16 tb_302) rfl rfl rfl nhD_valueOf.2 ⟨(Nat.le_of_ble_eq_true rfl), (Nat.le_of_ble_eq_true rfl)⟩) (fd_PreS hE hK hEV hA hP hD hS [] rfl (by decide)) rfl rfl hl.1 rfl (lv_room (Nat.le_of_ble_eq_true rfl)) ndD_read_218 ⟨(Nat.le_of_ble_eq_true rfl), (Nat.le_of_ble_eq_true rfl)⟩) hP hD hS hA [] [0, 1, 2, 3, 4] rfl rfl (by decide) (by decide) [0, 1, 2, 3, 4] rfl (by decide) (fun H locs hP hD hS => ?_)
                      refine fd_asi (y := fd_vis (nI s1) (g p2)) (fd_fit_vo hs0 hs8 hzz hz1 hby (by omega) c_148 n_167) ?_
                      refine lv_i2l hx hb ndD_read_221 rfl ?_
                      refine lv_ladd hx hb ndD_read_222 ?_
                      exact cut223 _ _ _ hP hD hS (lv_sub hl [0, 1, 2, 3, 4, 5] rfl)
                    · have n_200 := mt (nI_leI (a := 4) (b := s1) (by omega) (by omega)).mpr c_200
                      refine lv_bipush (v := 36) hx hb ndD_read_203 (by decide) ?_
                      refine fd_asi (y := fd_bI (nI s1)) (fd_bI_lt hs0 n_200) ?_
                      refine lv_goto (tgt := 210) hx hb ndD_read_205 (by decide) ?_
                      refine lv_i2l hx hb ndD_read_210 rfl ?_
                      refine lv_lmul hx hb ndD_read_211 ?_
                      refine lv_aload_n hx hb ndD_read_212 rfl (lv_at hl 0 rfl) ?_
                      refine va_get (D := D) (ci := 3) (v := .ref b1) (C := nR_D) (T := nT_D) (N := 11) hx hb hts in_D hown hK hP 0 rfl rfl 0 (by decide) (hts _ tb_248) (fun _ h9 => h9) rfl ndD_read_213 ?_
                      refine lv_iload_n hx hb ndD_read_216 rfl (lv_at hl 2 rfl) ?_
                      refine fd_iald hx hb hK hP 1 0 (k := p2) rfl rfl (by omega) (by omega) ndD_read_217 ?_
                      refine fd_go_i (wr := [(b0, .inr (3, [.ref b1, .int (nI n), .int (nI q), .int (nI k1), .ref b2, .int (nI od), .int cf, .int (nI wn), .ref b3, .int (nI ok), .ref b4])), (b1, .inl (cI, 400, .inl g)), (b2, .inl (cL, 24, .inr (.inl (vp_updL rn1 k1 acc)))), (b3, .inl (cI, 200, .inl go)), (b4, .inl (cL, 24, .inr (.inl gn)))]) (w2 := [(b0, .inr (3, [.ref b1, .int (nI n), .int (nI q), .int (nI k1), .ref b2, .int (nI od), .int cf, .int (nI wn), .ref b3, .int (nI ok), .ref b4])), (b1, .inl (cI, 400, .inl g)), (b2, .inl (cL, 24, .inr (.inl (vp_updL rn1 k1 acc)))), (b3, .inl (cI, 200, .inl go)), (b4, .inl (cL, 24, .inr (.inl gn)))]) (va_runS (As := [.int (g p2)]) (rest := [.long (acc * ((fd_bI (nI s1)).toInt64)), .int (nI k1), .ref b2]) ⟨hx, hb, hml, hown, hts⟩ (kD_valueOf l D Z cI cL (g p2) H.size) (va_cwS 1 hts (fd_gS tb_300 tb_301 tb_16 tb_302) rfl rfl rfl nhD_valueOf.2 ⟨(Nat.le_of_ble_eq_true rfl), (Nat.le_of_ble_eq_true rfl)⟩) (fd_PreS hE hK hEV hA hP hD hS [] rfl (by decide)) rfl rfl hl.1 rfl (lv_room (Nat.le_of_ble_eq_true rfl)) ndD_read_218 ⟨(Nat.le_of_ble_eq_true rfl), (Nat.le_of_ble_eq_true rfl)⟩) hP hD hS hA [] [0, 1, 2, 3, 4] rfl rfl (by decide) (by decide) [0, 1, 2, 3, 4] rfl (by decide) (fun H locs hP hD hS => ?_)
                      refine fd_asi (y := fd_vis (nI s1) (g p2)) (fd_fit_vo hs0 hs8 hzz hz1 hby (by omega) c_148 n_167) ?_
                      refine lv_i2l hx hb ndD_read_221 rfl ?_
                      refine lv_ladd hx hb ndD_read_222 ?_
                      exact cut223 _ _ _ hP hD hS (lv_sub hl [0, 1, 2, 3, 4, 5] rfl)
                  · have n_167 := (nI_eq (a := s1) (b := 5) (by omega) (by omega)).mp c_167
                    refine lv_aload_n hx hb ndD_read_170 rfl (lv_at hl 0 rfl) ?_
                    refine va_get (D := D) (ci := 3) (v := .ref b1) (C := nR_D) (T := nT_D) (N := 11) hx hb hts in_D hown hK hP 0 rfl rfl 0 (by decide) (hts _ tb_248) (fun _ h9 => h9) rfl ndD_read_171 ?_
                    refine lv_iload_n hx hb ndD_read_174 rfl (lv_at hl 2 rfl) ?_
                    refine fd_iald hx hb hK hP 1 0 (k := p2) rfl rfl (by omega) (by omega) ndD_read_175 ?_
                    refine lv_bipush (v := 83) hx hb ndD_read_176 (by decide) ?_
                    refine lv_icmp_ne (tgt := 185) hx hb ndD_read_178 (by decide) (fun c_178 => ?_) (fun c_178 => ?_)
                    · refine lv_lconst (v := 0) hx hb ndD_read_185 (by decide) ?_
                      refine fd_asl (y := acc * (fd_bI (nI s1)).toInt64 + (fd_vis (nI s1) (g p2)).toInt64) ((fd_fit_5 hs0 hs8 hzz hz1 hby (by omega) c_148 n_167 (hacc (by have := hw5 n_167; omega))).2 c_178) ?_
                      refine lv_goto (tgt := 223) hx hb ndD_read_186 (by decide) ?_
                      exact cut223 _ _ _ hP hD hS (lv_sub hl [0, 1, 2, 3, 4, 5] rfl)
                    · refine lv_lconst (v := 1) hx hb ndD_read_181 (by decide) ?_
                      refine fd_asl (y := acc * (fd_bI (nI s1)).toInt64 + (fd_vis (nI s1) (g p2)).toInt64) ((fd_fit_5 hs0 hs8 hzz hz1 hby (by omega) c_148 n_167 (hacc (by have := hw5 n_167; omega))).1 c_178) ?_
                      refine lv_goto (tgt := 223) hx hb ndD_read_182 (by decide) ?_
                      exact cut223 _ _ _ hP hD hS (lv_sub hl [0, 1, 2, 3, 4, 5] rfl)
                · have e6 : r9 = nI p2 := (Prod.mk.inj ((fd_hf_no hs0 hs8 hzz hz1 hby hn (Or.inr ⟨by omega, c_148⟩) (by omega)).symm.trans hh2)).1.symm
                  have e7 := fd_q4 ((fd_ht_no hdz hx9 (by rw [e6]; exact fd_nI_ne1 (by omega))).symm.trans hh)
                  refine lv_aload_n hx hb ndD_read_151 rfl (lv_at hl 0 rfl) ?_
                  refine lv_iload_n hx hb ndD_read_152 rfl (lv_at hl 2 rfl) ?_
                  refine fd_go_i (wr := []) (w2 := [(b0, .inr (3, [.ref b1, .int (nI 0), .int (nI 0), .int (nI 0), .ref b2, .int (nI od), .int cf, .int (nI wn), .ref b3, .int (nI ok), .ref b4])), (b1, .inl (cI, 400, .inl g)), (b2, .inl (cL, 24, .inr (.inl (vp_updL rn1 k1 acc)))), (b3, .inl (cI, 200, .inl go)), (b4, .inl (cL, 24, .inr (.inl gn)))]) (va_runV (As := [.int (nI p2)]) (rest := []) ⟨hx, hb, hml, hown, hts⟩ (kD_fault l D Z cI cL (n := n) (g := g) (kd := q) (k := k1) (rn := vp_updL rn1 k1 acc) (od := od) (cf := cf) (wn := wn) (go := go) (ok := ok) (gn := gn) (by omega) (by omega) (by omega) (by omega) (by omega) (by omega) (p1 := p2) H.size) (cwV 1 hts (fd_gV tb_285 tb_286 tb_9 tb_16 tb_287) rfl rfl rfl nhD_fault ⟨(Nat.le_of_ble_eq_true rfl), (Nat.le_of_ble_eq_true rfl)⟩) (fd_PreV hE hK hEV hA hP hD hS [0, 1, 2, 3, 4] rfl (by decide) (ci := 3) (q0 := 0) rfl rfl) rfl rfl hl.1 rfl (lv_room (Nat.le_of_ble_eq_true rfl)) ndD_read_153 ⟨(Nat.le_of_ble_eq_true rfl), (Nat.le_of_ble_eq_true rfl)⟩) hP hD hS hA [0, 1, 2, 3, 4] [] rfl rfl (by decide) (by decide) [0, 1, 2, 3, 4] rfl (by decide) (fun H locs hP hD hS => ?_)
                  exact fd_retN_i (vp_updL rn1 k1 acc) hx hb hr hlocks hS hP hD rfl (by rw [← e7.1, e6]) (trivial) ndD_read_156
          exact loop2 w 0 q1 0 (by omega) rfl hq3 (fun _ => rfl) hh0 _ _ _ hP hD hS (lv_sub hl [2, 3, 4, 5, 1, 0] rfl)
        refine lv_aload_n hx hb ndD_read_72 rfl (lv_at hl 0 rfl) ?_
        refine va_get (D := D) (ci := 3) (v := .int (nI q)) (C := nR_D) (T := nT_D) (N := 11) hx hb hts in_D hown hK hP 0 rfl rfl 2 (by decide) (hts _ tb_250) (fun _ h9 => h9) rfl ndD_read_73 ?_
        refine lv_iconst (v := 2) hx hb ndD_read_76 (by decide) ?_
        refine lv_icmp_ne (tgt := 103) hx hb ndD_read_77 (by decide) (fun c_77 => ?_) (fun c_77 => ?_)
        · have n_77 := mt (nI_eq (a := q) (b := 2) (by omega) (by omega)).mpr c_77
          refine lv_iconst (v := 0) hx hb ndD_read_103 (by decide) ?_
          refine fd_asi (y := nI zz) ((fd_mz4 n_77).trans hmr) ?_
          exact cut104 _ (lv_sub hl [0, 1, 2, 3] rfl)
        · have n_77 := (nI_eq (a := q) (b := 2) (by omega) (by omega)).mp c_77
          refine lv_aload_n hx hb ndD_read_80 rfl (lv_at hl 0 rfl) ?_
          refine va_get (D := D) (ci := 3) (v := .int (nI k1)) (C := nR_D) (T := nT_D) (N := 11) hx hb hts in_D hown hK hP 0 rfl rfl 3 (by decide) (hts _ tb_251) (fun _ h9 => h9) rfl ndD_read_81 ?_
          refine lv_iconst (v := 3) hx hb ndD_read_84 (by decide) ?_
          refine lv_icmp_le (tgt := 103) hx hb ndD_read_85 (by decide) (fun c_85 => ?_) (fun c_85 => ?_)
          · have n_85 := (nI_leI (a := k1) (b := 3) (by omega) (by omega)).mp c_85
            refine lv_iconst (v := 0) hx hb ndD_read_103 (by decide) ?_
            refine fd_asi (y := nI zz) ((fd_mz3 n_77 n_85).trans hmr) ?_
            exact cut104 _ (lv_sub hl [0, 1, 2, 3] rfl)
          · have n_85 := mt (nI_leI (a := k1) (b := 3) (by omega) (by omega)).mpr c_85
            refine lv_aload_n hx hb ndD_read_88 rfl (lv_at hl 0 rfl) ?_
            refine va_get (D := D) (ci := 3) (v := .ref b2) (C := nR_D) (T := nT_D) (N := 11) hx hb hts in_D hown hK hP 0 rfl rfl 4 (by decide) (hts _ tb_252) (fun _ h9 => h9) rfl ndD_read_89 ?_
            refine lv_iconst (v := 3) hx hb ndD_read_92 (by decide) ?_
            refine fd_asi (y := nI 3) rfl ?_
            refine fd_lald hx hb hK hP 2 1 (k := 3) rfl rfl (by omega) (by omega) ndD_read_93 ?_
            refine lv_lconst (v := 0) hx hb ndD_read_94 (by decide) ?_
            refine W.lcmp hx hb ndD_read_95 ?_
            refine lv_if_ne (tgt := 103) hx hb ndD_read_96 (by decide) (fun c_96 => ?_) (fun c_96 => ?_)
            · have n_96 := mt (lg_cmp_eq _ _).mpr c_96
              refine lv_iconst (v := 0) hx hb ndD_read_103 (by decide) ?_
              refine fd_asi (y := nI zz) ((fd_mz2 n_77 n_85 (by omega) n_96).trans hmr) ?_
              exact cut104 _ (lv_sub hl [0, 1, 2, 3] rfl)
            · have n_96 := (lg_cmp_eq _ _).mp c_96
              refine lv_iconst (v := 1) hx hb ndD_read_99 (by decide) ?_
              refine fd_asi (y := nI zz) ((fd_mz1 n_77 n_85 (by omega) n_96).trans hmr) ?_
              refine lv_goto (tgt := 104) hx hb ndD_read_100 (by decide) ?_
              exact cut104 _ (lv_sub hl [0, 1, 2, 3] rfl)
  exact loop1 20 0 3 rn cs cn (by omega) (by omega) hn3 lt_0 (fun _ h => absurd h (by omega)) hres _ _ _ hP hD hS (lv_sub hl [3, 2, 1, 0] rfl)
