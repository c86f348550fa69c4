/-! the constructors -/
set_option maxHeartbeats 4000000 in
set_option maxRecDepth 100000 in
theorem kR_init (l : Launch) (D : va_G) (Z : Nat → Nat) (cI cL : ClassId) {h cap : Nat} (hc : cap ≤ 1000) : fd_Nv l D fd_cl (fd_ty cI cL) (fd_EV Z) nyR_init (.code nyR_init ncR_init 2 none :: fd_TB) { frames := 1, cells := 1, slots := cap, locals := 12 } 1 cap [.ref h, .int (nI cap)] [(h, .inr (0, [.null, .int 0]))] (fun u : Nat => [(h, .inr (0, [.ref u, .int (nI 0)])), (u, .inl (cI, cap, .inl (fun _ => 0)))]) := by
  refine fd_openN_v (cc := ncR_init) (maxL := 2) (ret := none) (by decide) rfl (Nat.le_of_ble_eq_true rfl) ?_
  intro p e s m below meth c A ls hin X hP hD hS hl
  obtain ⟨hx, hb, hr, hml, hown, hts0, hlocks, hK, hEV, hA⟩ := X
  have hin : meth.name = "<init>" := hin
  have hts : ∀ w ∈ fd_TB, w.before _ s = true := fun w h => hts0 w (List.mem_cons_of_mem _ h)
  have hE := fd_EV_ok Z
  have hown : s.vm.findClass "FieldDesk$Row" = some m.cls := hown
  have hl : lv_has ls 2 [(0, .ref h), (1, .int (nI cap))] := hl
  refine lv_aload_n hx hb ndR_init_0 rfl (lv_at hl 0 rfl) ?_
  refine W.objInit hx hb hown (hts _ tb_33) (hts _ tb_26) (hts _ tb_27) rfl (by rw [hml]; exact hl.1) rfl ndR_init_1 (Nat.le_of_ble_eq_true rfl) (Nat.le_of_ble_eq_true rfl) ?_
  refine W.eq (g2 := F0 m 4 ls []) rfl ?_
  refine lv_aload_n hx hb ndR_init_4 rfl (lv_at hl 0 rfl) ?_
  refine lv_iconst (v := 0) hx hb ndR_init_5 (by decide) ?_
  refine va_put (D := D) (ci := 0) (v := .int 0) (ty := (.int)) (C := nR_R) (T := nT_R) (N := 2) hx hb hts in_R nt_R nt_R_ok nn_R hown hK hP hD hS 0 rfl rfl 1 (by decide) (hts _ tb_35) (fun _ h9 => h9) rfl (by decide +kernel) rfl rfl (Nat.le_of_ble_eq_true rfl) ndR_init_6 (fun H locs hP hD hS => ?_)
  have hP : va_P D fd_cl [(h, .inr (0, [.null, .int 0]))] H := hP
  have hD : va_D A [(h, .inr (0, [.null, .int 0]))] := hD
  refine lv_aload_n hx hb ndR_init_9 rfl (lv_at hl 0 rfl) ?_
  refine lv_iload_n hx hb ndR_init_10 rfl (lv_at hl 1 rfl) ?_
  refine lv_if_ge (tgt := 18) hx hb ndR_init_11 (by decide) (fun _ => ?_) (fun c_11 => absurd ((nI_leI (a := 0) (b := cap) (by omega) (by omega)).mpr (by omega)) c_11)
  refine lv_iload_n hx hb ndR_init_18 rfl (lv_at hl 1 rfl) ?_
  refine fd_newi (N := cap) hx hb (hts _ tb_38) hK hP hD hS hA (by omega) (Nat.le_of_ble_eq_true rfl) (by show 0 + cap ≤ cap; omega) ndR_init_19 (fun b H hP hD hS => ?_)
  have hP : va_P D fd_cl [(h, .inr (0, [.null, .int 0])), (b, .inl (cI, cap, .inl (fun _ => 0)))] H := hP
  have hD : va_D A [(h, .inr (0, [.null, .int 0])), (b, .inl (cI, cap, .inl (fun _ => 0)))] := hD
  refine va_putF (D := D) (ci := 0) (v := .ref b) (ty := (.array .int)) (C := nR_R) (T := nT_R) (N := 2) hx hb hts in_R nt_R nt_R_ok nn_R hown hK hP hD hS 0 rfl rfl 0 (by decide) (hts _ tb_34) (fun _ h9 => h9) rfl hin rfl (by decide +kernel) rfl rfl (Nat.le_of_ble_eq_true rfl) ndR_init_21 (fun H locs hP hD hS => ?_)
  have hP : va_P D fd_cl [(h, .inr (0, [.ref b, .int 0])), (b, .inl (cI, cap, .inl (fun _ => 0)))] H := hP
  have hD : va_D A [(h, .inr (0, [.ref b, .int 0])), (b, .inl (cI, cap, .inl (fun _ => 0)))] := hD
  refine W.widen (k := 1) (n := cap) (by omega) (by omega) ?_
  exact fd_retN_v (b) hx hb hr hlocks hS hP hD ndR_init_24
set_option maxHeartbeats 4000000 in
set_option maxRecDepth 100000 in
theorem kM_init (l : Launch) (D : va_G) (Z : Nat → Nat) (cI cL : ClassId) {h : Nat} : fd_Nv l D fd_cl (fd_ty cI cL) (fd_EV Z) nyM_init (.code nyM_init ncM_init 1 none :: fd_TB) { frames := 1, cells := 2, slots := 40, locals := 12 } 2 40 [.ref h] [(h, .inr (1, [.null, .null, .int 0, .int 0]))] (fun u : Nat × Nat => [(h, .inr (1, [.ref u.1, .ref u.2, .int (nI 0), .int (nI 0)])), (u.1, .inl (cI, 20, .inl (fun _ => 0))), (u.2, .inl (cL, 20, .inr (.inl (fun _ => 0))))]) := by
  refine fd_openN_v (cc := ncM_init) (maxL := 1) (ret := none) (by decide) rfl (Nat.le_of_ble_eq_true rfl) ?_
  intro p e s m below meth c A ls hin X hP hD hS hl
  obtain ⟨hx, hb, hr, hml, hown, hts0, hlocks, hK, hEV, hA⟩ := X
  have hin : meth.name = "<init>" := hin
  have hts : ∀ w ∈ fd_TB, w.before _ s = true := fun w h => hts0 w (List.mem_cons_of_mem _ h)
  have hE := fd_EV_ok Z
  have hown : s.vm.findClass "FieldDesk$Message" = some m.cls := hown
  have hl : lv_has ls 1 [(0, .ref h)] := hl
  refine lv_aload_n hx hb ndM_init_0 rfl (lv_at hl 0 rfl) ?_
  refine W.objInit hx hb hown (hts _ tb_43) (hts _ tb_26) (hts _ tb_27) rfl (by rw [hml]; exact hl.1) rfl ndM_init_1 (Nat.le_of_ble_eq_true rfl) (Nat.le_of_ble_eq_true rfl) ?_
  refine W.eq (g2 := F0 m 4 ls []) rfl ?_
  refine lv_aload_n hx hb ndM_init_4 rfl (lv_at hl 0 rfl) ?_
  refine lv_bipush (v := 20) hx hb ndM_init_5 (by decide) ?_
  refine fd_asi (y := nI 20) rfl ?_
  refine fd_newi (N := 20) hx hb (hts _ tb_38) hK hP hD hS hA (by omega) (Nat.le_of_ble_eq_true rfl) (Nat.le_of_ble_eq_true rfl) ndM_init_7 (fun a H hP hD hS => ?_)
  have hP : va_P D fd_cl [(h, .inr (1, [.null, .null, .int 0, .int 0])), (a, .inl (cI, 20, .inl (fun _ => 0)))] H := hP
  have hD : va_D A [(h, .inr (1, [.null, .null, .int 0, .int 0])), (a, .inl (cI, 20, .inl (fun _ => 0)))] := hD
  refine va_putF (D := D) (ci := 1) (v := .ref a) (ty := (.array .int)) (C := nR_M) (T := nT_M) (N := 4) hx hb hts in_M nt_M nt_M_ok nn_M hown hK hP hD hS 0 rfl rfl 0 (by decide) (hts _ tb_44) (fun _ h9 => h9) rfl hin rfl (by decide +kernel) rfl rfl (Nat.le_of_ble_eq_true rfl) ndM_init_9 (fun H locs hP hD hS => ?_)
  have hP : va_P D fd_cl [(h, .inr (1, [.ref a, .null, .int 0, .int 0])), (a, .inl (cI, 20, .inl (fun _ => 0)))] H := hP
  have hD : va_D A [(h, .inr (1, [.ref a, .null, .int 0, .int 0])), (a, .inl (cI, 20, .inl (fun _ => 0)))] := hD
  refine lv_aload_n hx hb ndM_init_12 rfl (lv_at hl 0 rfl) ?_
  refine lv_bipush (v := 20) hx hb ndM_init_13 (by decide) ?_
  refine fd_asi (y := nI 20) rfl ?_
  refine fd_newl (N := 20) hx hb (hts _ tb_52) hK hP hD hS hA (by omega) (Nat.le_of_ble_eq_true rfl) (Nat.le_of_ble_eq_true rfl) ndM_init_15 (fun b H hP hD hS => ?_)
  have hP : va_P D fd_cl [(h, .inr (1, [.ref a, .null, .int 0, .int 0])), (a, .inl (cI, 20, .inl (fun _ => 0))), (b, .inl (cL, 20, .inr (.inl (fun _ => 0))))] H := hP
  have hD : va_D A [(h, .inr (1, [.ref a, .null, .int 0, .int 0])), (a, .inl (cI, 20, .inl (fun _ => 0))), (b, .inl (cL, 20, .inr (.inl (fun _ => 0))))] := hD
  refine va_putF (D := D) (ci := 1) (v := .ref b) (ty := (.array .long)) (C := nR_M) (T := nT_M) (N := 4) hx hb hts in_M nt_M nt_M_ok nn_M hown hK hP hD hS 0 rfl rfl 1 (by decide) (hts _ tb_45) (fun _ h9 => h9) rfl hin rfl (by decide +kernel) rfl rfl (Nat.le_of_ble_eq_true rfl) ndM_init_17 (fun H locs hP hD hS => ?_)
  have hP : va_P D fd_cl [(h, .inr (1, [.ref a, .ref b, .int 0, .int 0])), (a, .inl (cI, 20, .inl (fun _ => 0))), (b, .inl (cL, 20, .inr (.inl (fun _ => 0))))] H := hP
  have hD : va_D A [(h, .inr (1, [.ref a, .ref b, .int 0, .int 0])), (a, .inl (cI, 20, .inl (fun _ => 0))), (b, .inl (cL, 20, .inr (.inl (fun _ => 0))))] := hD
  refine lv_aload_n hx hb ndM_init_20 rfl (lv_at hl 0 rfl) ?_
  refine lv_iconst (v := 0) hx hb ndM_init_21 (by decide) ?_
  refine va_put (D := D) (ci := 1) (v := .int 0) (ty := (.int)) (C := nR_M) (T := nT_M) (N := 4) hx hb hts in_M nt_M nt_M_ok nn_M hown hK hP hD hS 0 rfl rfl 2 (by decide) (hts _ tb_46) (fun _ h9 => h9) rfl (by decide +kernel) rfl rfl (Nat.le_of_ble_eq_true rfl) ndM_init_22 (fun H locs hP hD hS => ?_)
  have hP : va_P D fd_cl [(h, .inr (1, [.ref a, .ref b, .int 0, .int 0])), (a, .inl (cI, 20, .inl (fun _ => 0))), (b, .inl (cL, 20, .inr (.inl (fun _ => 0))))] H := hP
  have hD : va_D A [(h, .inr (1, [.ref a, .ref b, .int 0, .int 0])), (a, .inl (cI, 20, .inl (fun _ => 0))), (b, .inl (cL, 20, .inr (.inl (fun _ => 0))))] := hD
  refine lv_aload_n hx hb ndM_init_25 rfl (lv_at hl 0 rfl) ?_
  refine lv_iconst (v := 0) hx hb ndM_init_26 (by decide) ?_
  refine va_put (D := D) (ci := 1) (v := .int 0) (ty := (.int)) (C := nR_M) (T := nT_M) (N := 4) hx hb hts in_M nt_M nt_M_ok nn_M hown hK hP hD hS 0 rfl rfl 3 (by decide) (hts _ tb_47) (fun _ h9 => h9) rfl (by decide +kernel) rfl rfl (Nat.le_of_ble_eq_true rfl) ndM_init_27 (fun H locs hP hD hS => ?_)
  have hP : va_P D fd_cl [(h, .inr (1, [.ref a, .ref b, .int 0, .int 0])), (a, .inl (cI, 20, .inl (fun _ => 0))), (b, .inl (cL, 20, .inr (.inl (fun _ => 0))))] H := hP
  have hD : va_D A [(h, .inr (1, [.ref a, .ref b, .int 0, .int 0])), (a, .inl (cI, 20, .inl (fun _ => 0))), (b, .inl (cL, 20, .inr (.inl (fun _ => 0))))] := hD
  refine W.widen (k := 2) (n := 40) (by omega) (by omega) ?_
  exact fd_retN_v ((a, b)) hx hb hr hlocks hS hP hD ndM_init_30
set_option maxHeartbeats 4000000 in
set_option maxRecDepth 100000 in
theorem kD_init (l : Launch) (D : va_G) (Z : Nat → Nat) (cI cL : ClassId) {b0 : Nat} : fd_Nv l D fd_cl (fd_ty cI cL) (fd_EV Z) nyD_init (.code nyD_init ncD_init 1 none :: fd_TB) { frames := 1, cells := 4, slots := 648, locals := 12 } 4 648 [.ref b0] [(b0, .inr (3, [.null, .int 0, .int 0, .int 0, .null, .int 0, .int 0, .int 0, .null, .int 0, .null]))] (fun u : Nat → Nat => [(b0, .inr (3, [.ref (u 1), .int (nI 0), .int (nI 0), .int (nI 0), .ref (u 2), .int (nI 0), .int 0, .int (nI 0), .ref (u 3), .int (nI 0), .ref (u 4)])), ((u 1), .inl (cI, 400, .inl (fun _ => 0))), ((u 2), .inl (cL, 24, .inr (.inl (fun _ => 0)))), ((u 3), .inl (cI, 200, .inl (fun _ => 0))), ((u 4), .inl (cL, 24, .inr (.inl (fun _ => 0))))]) := by
  refine fd_openN_v (cc := ncD_init) (maxL := 1) (ret := none) (by decide) rfl (Nat.le_of_ble_eq_true rfl) ?_
  intro p e s m below meth c A ls hin X hP hD hS hl
  obtain ⟨hx, hb, hr, hml, hown, hts0, hlocks, hK, hEV, hA⟩ := X
  have hin : meth.name = "<init>" := hin
  have hts : ∀ w ∈ fd_TB, w.before _ s = true := fun w h => hts0 w (List.mem_cons_of_mem _ h)
  have hE := fd_EV_ok Z
  have hown : s.vm.findClass "FieldDeskModel" = some m.cls := hown
  have hl : lv_has ls 1 [(0, .ref b0)] := hl
  refine lv_aload_n hx hb ndD_init_0 rfl (lv_at hl 0 rfl) ?_
  refine W.objInit hx hb hown (hts _ tb_247) (hts _ tb_26) (hts _ tb_27) rfl (by rw [hml]; exact hl.1) rfl ndD_init_1 (Nat.le_of_ble_eq_true rfl) (Nat.le_of_ble_eq_true rfl) ?_
  refine W.eq (g2 := F0 m 4 ls []) rfl ?_
  refine lv_aload_n hx hb ndD_init_4 rfl (lv_at hl 0 rfl) ?_
  refine lv_sipush (v := 400) hx hb ndD_init_5 (by decide) ?_
  refine fd_asi (y := nI 400) rfl ?_
  refine fd_newi (N := 400) hx hb (hts _ tb_38) hK hP hD hS hA (by omega) (Nat.le_of_ble_eq_true rfl) (Nat.le_of_ble_eq_true rfl) ndD_init_8 (fun b1 H hP hD hS => ?_)
  have hP : va_P D fd_cl [(b0, .inr (3, [.null, .int 0, .int 0, .int 0, .null, .int 0, .int 0, .int 0, .null, .int 0, .null])), (b1, .inl (cI, 400, .inl (fun _ => 0)))] H := hP
  have hD : va_D A [(b0, .inr (3, [.null, .int 0, .int 0, .int 0, .null, .int 0, .int 0, .int 0, .null, .int 0, .null])), (b1, .inl (cI, 400, .inl (fun _ => 0)))] := hD
  refine va_putF (D := D) (ci := 3) (v := .ref b1) (ty := (.array .int)) (C := nR_D) (T := nT_D) (N := 11) hx hb hts in_D nt_D nt_D_ok nn_D hown hK hP hD hS 0 rfl rfl 0 (by decide) (hts _ tb_248) (fun _ h9 => h9) rfl hin rfl (by decide +kernel) rfl rfl (Nat.le_of_ble_eq_true rfl) ndD_init_10 (fun H locs hP hD hS => ?_)
  have hP : va_P D fd_cl [(b0, .inr (3, [.ref b1, .int 0, .int 0, .int 0, .null, .int 0, .int 0, .int 0, .null, .int 0, .null])), (b1, .inl (cI, 400, .inl (fun _ => 0)))] H := hP
  have hD : va_D A [(b0, .inr (3, [.ref b1, .int 0, .int 0, .int 0, .null, .int 0, .int 0, .int 0, .null, .int 0, .null])), (b1, .inl (cI, 400, .inl (fun _ => 0)))] := hD
  refine lv_aload_n hx hb ndD_init_13 rfl (lv_at hl 0 rfl) ?_
  refine lv_bipush (v := 24) hx hb ndD_init_14 (by decide) ?_
  refine fd_asi (y := nI 24) rfl ?_
  refine fd_newl (N := 24) hx hb (hts _ tb_52) hK hP hD hS hA (by omega) (Nat.le_of_ble_eq_true rfl) (Nat.le_of_ble_eq_true rfl) ndD_init_16 (fun b2 H hP hD hS => ?_)
  have hP : va_P D fd_cl [(b0, .inr (3, [.ref b1, .int 0, .int 0, .int 0, .null, .int 0, .int 0, .int 0, .null, .int 0, .null])), (b1, .inl (cI, 400, .inl (fun _ => 0))), (b2, .inl (cL, 24, .inr (.inl (fun _ => 0))))] H := hP
  have hD : va_D A [(b0, .inr (3, [.ref b1, .int 0, .int 0, .int 0, .null, .int 0, .int 0, .int 0, .null, .int 0, .null])), (b1, .inl (cI, 400, .inl (fun _ => 0))), (b2, .inl (cL, 24, .inr (.inl (fun _ => 0))))] := hD
  refine va_putF (D := D) (ci := 3) (v := .ref b2) (ty := (.array .long)) (C := nR_D) (T := nT_D) (N := 11) hx hb hts in_D nt_D nt_D_ok nn_D hown hK hP hD hS 0 rfl rfl 4 (by decide) (hts _ tb_252) (fun _ h9 => h9) rfl hin rfl (by decide +kernel) rfl rfl (Nat.le_of_ble_eq_true rfl) ndD_init_18 (fun H locs hP hD hS => ?_)
  have hP : va_P D fd_cl [(b0, .inr (3, [.ref b1, .int 0, .int 0, .int 0, .ref b2, .int 0, .int 0, .int 0, .null, .int 0, .null])), (b1, .inl (cI, 400, .inl (fun _ => 0))), (b2, .inl (cL, 24, .inr (.inl (fun _ => 0))))] H := hP
  have hD : va_D A [(b0, .inr (3, [.ref b1, .int 0, .int 0, .int 0, .ref b2, .int 0, .int 0, .int 0, .null, .int 0, .null])), (b1, .inl (cI, 400, .inl (fun _ => 0))), (b2, .inl (cL, 24, .inr (.inl (fun _ => 0))))] := hD
  refine lv_aload_n hx hb ndD_init_21 rfl (lv_at hl 0 rfl) ?_
  refine lv_sipush (v := 200) hx hb ndD_init_22 (by decide) ?_
  refine fd_asi (y := nI 200) rfl ?_
  refine fd_newi (N := 200) hx hb (hts _ tb_38) hK hP hD hS hA (by omega) (Nat.le_of_ble_eq_true rfl) (Nat.le_of_ble_eq_true rfl) ndD_init_25 (fun b3 H hP hD hS => ?_)
  have hP : va_P D fd_cl [(b0, .inr (3, [.ref b1, .int 0, .int 0, .int 0, .ref b2, .int 0, .int 0, .int 0, .null, .int 0, .null])), (b1, .inl (cI, 400, .inl (fun _ => 0))), (b2, .inl (cL, 24, .inr (.inl (fun _ => 0)))), (b3, .inl (cI, 200, .inl (fun _ => 0)))] H := hP
  have hD : va_D A [(b0, .inr (3, [.ref b1, .int 0, .int 0, .int 0, .ref b2, .int 0, .int 0, .int 0, .null, .int 0, .null])), (b1, .inl (cI, 400, .inl (fun _ => 0))), (b2, .inl (cL, 24, .inr (.inl (fun _ => 0)))), (b3, .inl (cI, 200, .inl (fun _ => 0)))] := hD
  refine va_putF (D := D) (ci := 3) (v := .ref b3) (ty := (.array .int)) (C := nR_D) (T := nT_D) (N := 11) hx hb hts in_D nt_D nt_D_ok nn_D hown hK hP hD hS 0 rfl rfl 8 (by decide) (hts _ tb_256) (fun _ h9 => h9) rfl hin rfl (by decide +kernel) rfl rfl (Nat.le_of_ble_eq_true rfl) ndD_init_27 (fun H locs hP hD hS => ?_)
  have hP : va_P D fd_cl [(b0, .inr (3, [.ref b1, .int 0, .int 0, .int 0, .ref b2, .int 0, .int 0, .int 0, .ref b3, .int 0, .null])), (b1, .inl (cI, 400, .inl (fun _ => 0))), (b2, .inl (cL, 24, .inr (.inl (fun _ => 0)))), (b3, .inl (cI, 200, .inl (fun _ => 0)))] H := hP
  have hD : va_D A [(b0, .inr (3, [.ref b1, .int 0, .int 0, .int 0, .ref b2, .int 0, .int 0, .int 0, .ref b3, .int 0, .null])), (b1, .inl (cI, 400, .inl (fun _ => 0))), (b2, .inl (cL, 24, .inr (.inl (fun _ => 0)))), (b3, .inl (cI, 200, .inl (fun _ => 0)))] := hD
  refine lv_aload_n hx hb ndD_init_30 rfl (lv_at hl 0 rfl) ?_
  refine lv_bipush (v := 24) hx hb ndD_init_31 (by decide) ?_
  refine fd_asi (y := nI 24) rfl ?_
  refine fd_newl (N := 24) hx hb (hts _ tb_52) hK hP hD hS hA (by omega) (Nat.le_of_ble_eq_true rfl) (Nat.le_of_ble_eq_true rfl) ndD_init_33 (fun b4 H hP hD hS => ?_)
  have hP : va_P D fd_cl [(b0, .inr (3, [.ref b1, .int 0, .int 0, .int 0, .ref b2, .int 0, .int 0, .int 0, .ref b3, .int 0, .null])), (b1, .inl (cI, 400, .inl (fun _ => 0))), (b2, .inl (cL, 24, .inr (.inl (fun _ => 0)))), (b3, .inl (cI, 200, .inl (fun _ => 0))), (b4, .inl (cL, 24, .inr (.inl (fun _ => 0))))] H := hP
  have hD : va_D A [(b0, .inr (3, [.ref b1, .int 0, .int 0, .int 0, .ref b2, .int 0, .int 0, .int 0, .ref b3, .int 0, .null])), (b1, .inl (cI, 400, .inl (fun _ => 0))), (b2, .inl (cL, 24, .inr (.inl (fun _ => 0)))), (b3, .inl (cI, 200, .inl (fun _ => 0))), (b4, .inl (cL, 24, .inr (.inl (fun _ => 0))))] := hD
  refine va_putF (D := D) (ci := 3) (v := .ref b4) (ty := (.array .long)) (C := nR_D) (T := nT_D) (N := 11) hx hb hts in_D nt_D nt_D_ok nn_D hown hK hP hD hS 0 rfl rfl 10 (by decide) (hts _ tb_258) (fun _ h9 => h9) rfl hin rfl (by decide +kernel) rfl rfl (Nat.le_of_ble_eq_true rfl) ndD_init_35 (fun H locs hP hD hS => ?_)
  have hP : va_P D fd_cl [(b0, .inr (3, [.ref b1, .int 0, .int 0, .int 0, .ref b2, .int 0, .int 0, .int 0, .ref b3, .int 0, .ref b4])), (b1, .inl (cI, 400, .inl (fun _ => 0))), (b2, .inl (cL, 24, .inr (.inl (fun _ => 0)))), (b3, .inl (cI, 200, .inl (fun _ => 0))), (b4, .inl (cL, 24, .inr (.inl (fun _ => 0))))] H := hP
  have hD : va_D A [(b0, .inr (3, [.ref b1, .int 0, .int 0, .int 0, .ref b2, .int 0, .int 0, .int 0, .ref b3, .int 0, .ref b4])), (b1, .inl (cI, 400, .inl (fun _ => 0))), (b2, .inl (cL, 24, .inr (.inl (fun _ => 0)))), (b3, .inl (cI, 200, .inl (fun _ => 0))), (b4, .inl (cL, 24, .inr (.inl (fun _ => 0))))] := hD
  refine W.widen (k := 4) (n := 648) (by omega) (by omega) ?_
  exact fd_retN_v (fun i => [0, b1, b2, b3, b4].getD i 0) hx hb hr hlocks hS hP hD ndD_init_38
set_option maxHeartbeats 4000000 in
set_option maxRecDepth 100000 in
theorem kF_init (l : Launch) (D : va_G) (Z : Nat → Nat) (cI cL : ClassId) {a0 : Nat} : fd_Nv l D fd_cl (fd_ty cI cL) (fd_EV Z) nyF_init (.code nyF_init ncF_init 1 none :: fd_TB) { frames := 2, cells := 10, slots := 615, locals := 33 } 10 615 [.ref a0] [(a0, .inr (2, [.null, .null, .null, .null, .int 0]))] (fun u : Nat → Nat => [(a0, .inr (2, [.ref (u 1), .ref (u 3), .ref (u 6), .ref (u 8), .int 0])), ((u 1), .inr (0, [.ref (u 2), .int (nI 0)])), ((u 2), .inl (cI, 400, .inl (fun _ => 0))), ((u 3), .inr (1, [.ref (u 4), .ref (u 5), .int (nI 0), .int (nI 0)])), ((u 4), .inl (cI, 20, .inl (fun _ => 0))), ((u 5), .inl (cL, 20, .inr (.inl (fun _ => 0)))), ((u 6), .inr (0, [.ref (u 7), .int (nI 0)])), ((u 7), .inl (cI, 123, .inl (fun _ => 0))), ((u 8), .inr (1, [.ref (u 9), .ref (u 10), .int (nI 0), .int (nI 0)])), ((u 9), .inl (cI, 20, .inl (fun _ => 0))), ((u 10), .inl (cL, 20, .inr (.inl (fun _ => 0))))]) := by
  refine fd_openN_v (cc := ncF_init) (maxL := 1) (ret := none) (by decide) rfl (Nat.le_of_ble_eq_true rfl) ?_
  intro p e s m below meth c A ls hin X hP hD hS hl
  obtain ⟨hx, hb, hr, hml, hown, hts0, hlocks, hK, hEV, hA⟩ := X
  have hin : meth.name = "<init>" := hin
  have hts : ∀ w ∈ fd_TB, w.before _ s = true := fun w h => hts0 w (List.mem_cons_of_mem _ h)
  have hE := fd_EV_ok Z
  have hown : s.vm.findClass "FieldDesk" = some m.cls := hown
  have hl : lv_has ls 1 [(0, .ref a0)] := hl
  refine lv_aload_n hx hb ndF_init_0 rfl (lv_at hl 0 rfl) ?_
  refine W.objInit hx hb hown (hts _ tb_25) (hts _ tb_26) (hts _ tb_27) rfl (by rw [hml]; exact hl.1) rfl ndF_init_1 (Nat.le_of_ble_eq_true rfl) (Nat.le_of_ble_eq_true rfl) ?_
  refine W.eq (g2 := F0 m 4 ls []) rfl ?_
  refine lv_aload_n hx hb ndF_init_4 rfl (lv_at hl 0 rfl) ?_
  refine va_new (ci := 0) (fs := [.null, .int 0]) (C := nR_R) (T := nT_R) (N := 2) hx hb hts in_R nt_R nt_R_ok hown (hts _ tb_28) (hts _ tb_29) (hts _ tb_14) hK hP hD hS hA rfl (fun j hj => by rcases (show j = 0 ∨ j = 1 by omega) with rfl | rfl <;> rfl) (Nat.le_of_ble_eq_true rfl) (Nat.le_of_ble_eq_true rfl) ndF_init_5 (fun a1 H hP hD hS => ?_)
  have hP : va_P D fd_cl [(a0, .inr (2, [.null, .null, .null, .null, .int 0])), (a1, .inr (0, [.null, .int 0]))] H := hP
  have hD : va_D A [(a0, .inr (2, [.null, .null, .null, .null, .int 0])), (a1, .inr (0, [.null, .int 0]))] := hD
  refine lv_dup hx hb ndF_init_8 rfl ?_
  refine lv_sipush (v := 400) hx hb ndF_init_9 (by decide) ?_
  refine fd_asi (y := nI 400) rfl ?_
  refine fd_goN_v (S := Nat) (wr := [(a0, .inr (2, [.null, .null, .null, .null, .int 0]))]) (w2 := fun u => [(a0, .inr (2, [.null, .null, .null, .null, .int 0])), (a1, .inr (0, [.ref u, .int (nI 0)])), (u, .inl (cI, 400, .inl (fun _ => 0)))]) (va_runI (As := [.int (nI 400)]) (rest := [.ref a1, .ref a0]) ⟨hx, hb, hml, hown, hts⟩ (kR_init l D Z cI cL (h := a1) (cap := 400) (by omega) H.size) (cwI 1 hts (fd_gi tb_32) rfl rfl rfl (hts _ tb_14) (hts _ tb_30) (hts _ tb_31) rfl nhR_init.2 ⟨(Nat.le_of_ble_eq_true rfl), (Nat.le_of_ble_eq_true rfl)⟩) (fd_PreS hE hK hEV hA hP hD hS [1] rfl (by decide)) rfl rfl hl.1 rfl (lv_room (Nat.le_of_ble_eq_true rfl)) ndF_init_12 ⟨(Nat.le_of_ble_eq_true rfl), (Nat.le_of_ble_eq_true rfl)⟩) hP hD hS hA [1] [0] rfl rfl (by decide) (by decide) (fun u => rfl) (fun u H locs hP hD hS => ?_)
  obtain ⟨a2, rfl⟩ : ∃ z, z = u := ⟨_, rfl⟩
  have hP : va_P D fd_cl [(a0, .inr (2, [.null, .null, .null, .null, .int 0])), (a1, .inr (0, [.ref a2, .int (nI 0)])), (a2, .inl (cI, 400, .inl (fun _ => 0)))] H := hP
  have hD : va_D A [(a0, .inr (2, [.null, .null, .null, .null, .int 0])), (a1, .inr (0, [.ref a2, .int (nI 0)])), (a2, .inl (cI, 400, .inl (fun _ => 0)))] := hD
  refine va_putF (D := D) (ci := 2) (v := .ref a1) (ty := (.object "FieldDesk$Row")) (C := nR_F) (T := nT_F) (N := 5) hx hb hts in_F nt_F nt_F_ok nn_F hown hK hP hD hS 0 rfl rfl 0 (by decide) (hts _ tb_53) (fun _ h9 => h9) rfl hin rfl (by decide +kernel) rfl rfl (Nat.le_of_ble_eq_true rfl) ndF_init_15 (fun H locs hP hD hS => ?_)
  have hP : va_P D fd_cl [(a0, .inr (2, [.ref a1, .null, .null, .null, .int 0])), (a1, .inr (0, [.ref a2, .int (nI 0)])), (a2, .inl (cI, 400, .inl (fun _ => 0)))] H := hP
  have hD : va_D A [(a0, .inr (2, [.ref a1, .null, .null, .null, .int 0])), (a1, .inr (0, [.ref a2, .int (nI 0)])), (a2, .inl (cI, 400, .inl (fun _ => 0)))] := hD
  refine lv_aload_n hx hb ndF_init_18 rfl (lv_at hl 0 rfl) ?_
  refine va_new (ci := 1) (fs := [.null, .null, .int 0, .int 0]) (C := nR_M) (T := nT_M) (N := 4) hx hb hts in_M nt_M nt_M_ok hown (hts _ tb_39) (hts _ tb_40) (hts _ tb_15) hK hP hD hS hA rfl (fun j hj => by rcases (show j = 0 ∨ j = 1 ∨ j = 2 ∨ j = 3 by omega) with rfl | rfl | rfl | rfl <;> rfl) (Nat.le_of_ble_eq_true rfl) (Nat.le_of_ble_eq_true rfl) ndF_init_19 (fun a3 H hP hD hS => ?_)
  have hP : va_P D fd_cl [(a0, .inr (2, [.ref a1, .null, .null, .null, .int 0])), (a1, .inr (0, [.ref a2, .int (nI 0)])), (a2, .inl (cI, 400, .inl (fun _ => 0))), (a3, .inr (1, [.null, .null, .int 0, .int 0]))] H := hP
  have hD : va_D A [(a0, .inr (2, [.ref a1, .null, .null, .null, .int 0])), (a1, .inr (0, [.ref a2, .int (nI 0)])), (a2, .inl (cI, 400, .inl (fun _ => 0))), (a3, .inr (1, [.null, .null, .int 0, .int 0]))] := hD
  refine lv_dup hx hb ndF_init_22 rfl ?_
  refine fd_goN_v (S := Nat × Nat) (wr := [(a0, .inr (2, [.ref a1, .null, .null, .null, .int 0])), (a1, .inr (0, [.ref a2, .int (nI 0)])), (a2, .inl (cI, 400, .inl (fun _ => 0)))]) (w2 := fun u => [(a0, .inr (2, [.ref a1, .null, .null, .null, .int 0])), (a1, .inr (0, [.ref a2, .int (nI 0)])), (a2, .inl (cI, 400, .inl (fun _ => 0))), (a3, .inr (1, [.ref u.1, .ref u.2, .int (nI 0), .int (nI 0)])), (u.1, .inl (cI, 20, .inl (fun _ => 0))), (u.2, .inl (cL, 20, .inr (.inl (fun _ => 0))))]) (va_runIN (As := []) (rest := [.ref a3, .ref a0]) ⟨hx, hb, hml, hown, hts⟩ (kM_init l D Z cI cL (h := a3) H.size) ⟨va_cnB 0 hts (fd_gi tb_42) rfl rfl rfl (hEV.1 _ nb_1) (hts _ tb_15) nhM_init.2 ⟨(Nat.le_of_ble_eq_true rfl), (Nat.le_of_ble_eq_true rfl)⟩, rfl, hts _ tb_41⟩ (fd_PreS hE hK hEV hA hP hD hS [3] rfl (by decide)) rfl rfl hl.1 rfl (lv_room (Nat.le_of_ble_eq_true rfl)) ndF_init_23 ⟨(Nat.le_of_ble_eq_true rfl), (Nat.le_of_ble_eq_true rfl)⟩) hP hD hS hA [3] [0, 1, 2] rfl rfl (by decide) (by decide) (fun u => rfl) (fun u H locs hP hD hS => ?_)
  obtain ⟨a4, a5⟩ := u
  have hP : va_P D fd_cl [(a0, .inr (2, [.ref a1, .null, .null, .null, .int 0])), (a1, .inr (0, [.ref a2, .int (nI 0)])), (a2, .inl (cI, 400, .inl (fun _ => 0))), (a3, .inr (1, [.ref a4, .ref a5, .int (nI 0), .int (nI 0)])), (a4, .inl (cI, 20, .inl (fun _ => 0))), (a5, .inl (cL, 20, .inr (.inl (fun _ => 0))))] H := hP
  have hD : va_D A [(a0, .inr (2, [.ref a1, .null, .null, .null, .int 0])), (a1, .inr (0, [.ref a2, .int (nI 0)])), (a2, .inl (cI, 400, .inl (fun _ => 0))), (a3, .inr (1, [.ref a4, .ref a5, .int (nI 0), .int (nI 0)])), (a4, .inl (cI, 20, .inl (fun _ => 0))), (a5, .inl (cL, 20, .inr (.inl (fun _ => 0))))] := hD
  refine va_putF (D := D) (ci := 2) (v := .ref a3) (ty := (.object "FieldDesk$Message")) (C := nR_F) (T := nT_F) (N := 5) hx hb hts in_F nt_F nt_F_ok nn_F hown hK hP hD hS 0 rfl rfl 1 (by decide) (hts _ tb_54) (fun _ h9 => h9) rfl hin rfl (by decide +kernel) rfl rfl (Nat.le_of_ble_eq_true rfl) ndF_init_26 (fun H locs hP hD hS => ?_)
  have hP : va_P D fd_cl [(a0, .inr (2, [.ref a1, .ref a3, .null, .null, .int 0])), (a1, .inr (0, [.ref a2, .int (nI 0)])), (a2, .inl (cI, 400, .inl (fun _ => 0))), (a3, .inr (1, [.ref a4, .ref a5, .int (nI 0), .int (nI 0)])), (a4, .inl (cI, 20, .inl (fun _ => 0))), (a5, .inl (cL, 20, .inr (.inl (fun _ => 0))))] H := hP
  have hD : va_D A [(a0, .inr (2, [.ref a1, .ref a3, .null, .null, .int 0])), (a1, .inr (0, [.ref a2, .int (nI 0)])), (a2, .inl (cI, 400, .inl (fun _ => 0))), (a3, .inr (1, [.ref a4, .ref a5, .int (nI 0), .int (nI 0)])), (a4, .inl (cI, 20, .inl (fun _ => 0))), (a5, .inl (cL, 20, .inr (.inl (fun _ => 0))))] := hD
  refine lv_aload_n hx hb ndF_init_29 rfl (lv_at hl 0 rfl) ?_
  refine va_new (ci := 0) (fs := [.null, .int 0]) (C := nR_R) (T := nT_R) (N := 2) hx hb hts in_R nt_R nt_R_ok hown (hts _ tb_28) (hts _ tb_29) (hts _ tb_14) hK hP hD hS hA rfl (fun j hj => by rcases (show j = 0 ∨ j = 1 by omega) with rfl | rfl <;> rfl) (Nat.le_of_ble_eq_true rfl) (Nat.le_of_ble_eq_true rfl) ndF_init_30 (fun a6 H hP hD hS => ?_)
  have hP : va_P D fd_cl [(a0, .inr (2, [.ref a1, .ref a3, .null, .null, .int 0])), (a1, .inr (0, [.ref a2, .int (nI 0)])), (a2, .inl (cI, 400, .inl (fun _ => 0))), (a3, .inr (1, [.ref a4, .ref a5, .int (nI 0), .int (nI 0)])), (a4, .inl (cI, 20, .inl (fun _ => 0))), (a5, .inl (cL, 20, .inr (.inl (fun _ => 0)))), (a6, .inr (0, [.null, .int 0]))] H := hP
  have hD : va_D A [(a0, .inr (2, [.ref a1, .ref a3, .null, .null, .int 0])), (a1, .inr (0, [.ref a2, .int (nI 0)])), (a2, .inl (cI, 400, .inl (fun _ => 0))), (a3, .inr (1, [.ref a4, .ref a5, .int (nI 0), .int (nI 0)])), (a4, .inl (cI, 20, .inl (fun _ => 0))), (a5, .inl (cL, 20, .inr (.inl (fun _ => 0)))), (a6, .inr (0, [.null, .int 0]))] := hD
  refine lv_dup hx hb ndF_init_33 rfl ?_
  refine lv_bipush (v := 123) hx hb ndF_init_34 (by decide) ?_
  refine fd_asi (y := nI 123) rfl ?_
  refine fd_goN_v (S := Nat) (wr := [(a0, .inr (2, [.ref a1, .ref a3, .null, .null, .int 0])), (a1, .inr (0, [.ref a2, .int (nI 0)])), (a2, .inl (cI, 400, .inl (fun _ => 0))), (a3, .inr (1, [.ref a4, .ref a5, .int (nI 0), .int (nI 0)])), (a4, .inl (cI, 20, .inl (fun _ => 0))), (a5, .inl (cL, 20, .inr (.inl (fun _ => 0))))]) (w2 := fun u => [(a0, .inr (2, [.ref a1, .ref a3, .null, .null, .int 0])), (a1, .inr (0, [.ref a2, .int (nI 0)])), (a2, .inl (cI, 400, .inl (fun _ => 0))), (a3, .inr (1, [.ref a4, .ref a5, .int (nI 0), .int (nI 0)])), (a4, .inl (cI, 20, .inl (fun _ => 0))), (a5, .inl (cL, 20, .inr (.inl (fun _ => 0)))), (a6, .inr (0, [.ref u, .int (nI 0)])), (u, .inl (cI, 123, .inl (fun _ => 0)))]) (va_runI (As := [.int (nI 123)]) (rest := [.ref a6, .ref a0]) ⟨hx, hb, hml, hown, hts⟩ (kR_init l D Z cI cL (h := a6) (cap := 123) (by omega) H.size) (cwI 1 hts (fd_gi tb_32) rfl rfl rfl (hts _ tb_14) (hts _ tb_30) (hts _ tb_31) rfl nhR_init.2 ⟨(Nat.le_of_ble_eq_true rfl), (Nat.le_of_ble_eq_true rfl)⟩) (fd_PreS hE hK hEV hA hP hD hS [6] rfl (by decide)) rfl rfl hl.1 rfl (lv_room (Nat.le_of_ble_eq_true rfl)) ndF_init_36 ⟨(Nat.le_of_ble_eq_true rfl), (Nat.le_of_ble_eq_true rfl)⟩) hP hD hS hA [6] [0, 1, 2, 3, 4, 5] rfl rfl (by decide) (by decide) (fun u => rfl) (fun u H locs hP hD hS => ?_)
  obtain ⟨a7, rfl⟩ : ∃ z, z = u := ⟨_, rfl⟩
  have hP : va_P D fd_cl [(a0, .inr (2, [.ref a1, .ref a3, .null, .null, .int 0])), (a1, .inr (0, [.ref a2, .int (nI 0)])), (a2, .inl (cI, 400, .inl (fun _ => 0))), (a3, .inr (1, [.ref a4, .ref a5, .int (nI 0), .int (nI 0)])), (a4, .inl (cI, 20, .inl (fun _ => 0))), (a5, .inl (cL, 20, .inr (.inl (fun _ => 0)))), (a6, .inr (0, [.ref a7, .int (nI 0)])), (a7, .inl (cI, 123, .inl (fun _ => 0)))] H := hP
  have hD : va_D A [(a0, .inr (2, [.ref a1, .ref a3, .null, .null, .int 0])), (a1, .inr (0, [.ref a2, .int (nI 0)])), (a2, .inl (cI, 400, .inl (fun _ => 0))), (a3, .inr (1, [.ref a4, .ref a5, .int (nI 0), .int (nI 0)])), (a4, .inl (cI, 20, .inl (fun _ => 0))), (a5, .inl (cL, 20, .inr (.inl (fun _ => 0)))), (a6, .inr (0, [.ref a7, .int (nI 0)])), (a7, .inl (cI, 123, .inl (fun _ => 0)))] := hD
  refine va_putF (D := D) (ci := 2) (v := .ref a6) (ty := (.object "FieldDesk$Row")) (C := nR_F) (T := nT_F) (N := 5) hx hb hts in_F nt_F nt_F_ok nn_F hown hK hP hD hS 0 rfl rfl 2 (by decide) (hts _ tb_55) (fun _ h9 => h9) rfl hin rfl (by decide +kernel) rfl rfl (Nat.le_of_ble_eq_true rfl) ndF_init_39 (fun H locs hP hD hS => ?_)
  have hP : va_P D fd_cl [(a0, .inr (2, [.ref a1, .ref a3, .ref a6, .null, .int 0])), (a1, .inr (0, [.ref a2, .int (nI 0)])), (a2, .inl (cI, 400, .inl (fun _ => 0))), (a3, .inr (1, [.ref a4, .ref a5, .int (nI 0), .int (nI 0)])), (a4, .inl (cI, 20, .inl (fun _ => 0))), (a5, .inl (cL, 20, .inr (.inl (fun _ => 0)))), (a6, .inr (0, [.ref a7, .int (nI 0)])), (a7, .inl (cI, 123, .inl (fun _ => 0)))] H := hP
  have hD : va_D A [(a0, .inr (2, [.ref a1, .ref a3, .ref a6, .null, .int 0])), (a1, .inr (0, [.ref a2, .int (nI 0)])), (a2, .inl (cI, 400, .inl (fun _ => 0))), (a3, .inr (1, [.ref a4, .ref a5, .int (nI 0), .int (nI 0)])), (a4, .inl (cI, 20, .inl (fun _ => 0))), (a5, .inl (cL, 20, .inr (.inl (fun _ => 0)))), (a6, .inr (0, [.ref a7, .int (nI 0)])), (a7, .inl (cI, 123, .inl (fun _ => 0)))] := hD
  refine lv_aload_n hx hb ndF_init_42 rfl (lv_at hl 0 rfl) ?_
  refine va_new (ci := 1) (fs := [.null, .null, .int 0, .int 0]) (C := nR_M) (T := nT_M) (N := 4) hx hb hts in_M nt_M nt_M_ok hown (hts _ tb_39) (hts _ tb_40) (hts _ tb_15) hK hP hD hS hA rfl (fun j hj => by rcases (show j = 0 ∨ j = 1 ∨ j = 2 ∨ j = 3 by omega) with rfl | rfl | rfl | rfl <;> rfl) (Nat.le_of_ble_eq_true rfl) (Nat.le_of_ble_eq_true rfl) ndF_init_43 (fun a8 H hP hD hS => ?_)
  have hP : va_P D fd_cl [(a0, .inr (2, [.ref a1, .ref a3, .ref a6, .null, .int 0])), (a1, .inr (0, [.ref a2, .int (nI 0)])), (a2, .inl (cI, 400, .inl (fun _ => 0))), (a3, .inr (1, [.ref a4, .ref a5, .int (nI 0), .int (nI 0)])), (a4, .inl (cI, 20, .inl (fun _ => 0))), (a5, .inl (cL, 20, .inr (.inl (fun _ => 0)))), (a6, .inr (0, [.ref a7, .int (nI 0)])), (a7, .inl (cI, 123, .inl (fun _ => 0))), (a8, .inr (1, [.null, .null, .int 0, .int 0]))] H := hP
  have hD : va_D A [(a0, .inr (2, [.ref a1, .ref a3, .ref a6, .null, .int 0])), (a1, .inr (0, [.ref a2, .int (nI 0)])), (a2, .inl (cI, 400, .inl (fun _ => 0))), (a3, .inr (1, [.ref a4, .ref a5, .int (nI 0), .int (nI 0)])), (a4, .inl (cI, 20, .inl (fun _ => 0))), (a5, .inl (cL, 20, .inr (.inl (fun _ => 0)))), (a6, .inr (0, [.ref a7, .int (nI 0)])), (a7, .inl (cI, 123, .inl (fun _ => 0))), (a8, .inr (1, [.null, .null, .int 0, .int 0]))] := hD
  refine lv_dup hx hb ndF_init_46 rfl ?_
  refine fd_goN_v (S := Nat × Nat) (wr := [(a0, .inr (2, [.ref a1, .ref a3, .ref a6, .null, .int 0])), (a1, .inr (0, [.ref a2, .int (nI 0)])), (a2, .inl (cI, 400, .inl (fun _ => 0))), (a3, .inr (1, [.ref a4, .ref a5, .int (nI 0), .int (nI 0)])), (a4, .inl (cI, 20, .inl (fun _ => 0))), (a5, .inl (cL, 20, .inr (.inl (fun _ => 0)))), (a6, .inr (0, [.ref a7, .int (nI 0)])), (a7, .inl (cI, 123, .inl (fun _ => 0)))]) (w2 := fun u => [(a0, .inr (2, [.ref a1, .ref a3, .ref a6, .null, .int 0])), (a1, .inr (0, [.ref a2, .int (nI 0)])), (a2, .inl (cI, 400, .inl (fun _ => 0))), (a3, .inr (1, [.ref a4, .ref a5, .int (nI 0), .int (nI 0)])), (a4, .inl (cI, 20, .inl (fun _ => 0))), (a5, .inl (cL, 20, .inr (.inl (fun _ => 0)))), (a6, .inr (0, [.ref a7, .int (nI 0)])), (a7, .inl (cI, 123, .inl (fun _ => 0))), (a8, .inr (1, [.ref u.1, .ref u.2, .int (nI 0), .int (nI 0)])), (u.1, .inl (cI, 20, .inl (fun _ => 0))), (u.2, .inl (cL, 20, .inr (.inl (fun _ => 0))))]) (va_runIN (As := []) (rest := [.ref a8, .ref a0]) ⟨hx, hb, hml, hown, hts⟩ (kM_init l D Z cI cL (h := a8) H.size) ⟨va_cnB 0 hts (fd_gi tb_42) rfl rfl rfl (hEV.1 _ nb_1) (hts _ tb_15) nhM_init.2 ⟨(Nat.le_of_ble_eq_true rfl), (Nat.le_of_ble_eq_true rfl)⟩, rfl, hts _ tb_41⟩ (fd_PreS hE hK hEV hA hP hD hS [8] rfl (by decide)) rfl rfl hl.1 rfl (lv_room (Nat.le_of_ble_eq_true rfl)) ndF_init_47 ⟨(Nat.le_of_ble_eq_true rfl), (Nat.le_of_ble_eq_true rfl)⟩) hP hD hS hA [8] [0, 1, 2, 3, 4, 5, 6, 7] rfl rfl (by decide) (by decide) (fun u => rfl) (fun u H locs hP hD hS => ?_)
  obtain ⟨a9, a10⟩ := u
  have hP : va_P D fd_cl [(a0, .inr (2, [.ref a1, .ref a3, .ref a6, .null, .int 0])), (a1, .inr (0, [.ref a2, .int (nI 0)])), (a2, .inl (cI, 400, .inl (fun _ => 0))), (a3, .inr (1, [.ref a4, .ref a5, .int (nI 0), .int (nI 0)])), (a4, .inl (cI, 20, .inl (fun _ => 0))), (a5, .inl (cL, 20, .inr (.inl (fun _ => 0)))), (a6, .inr (0, [.ref a7, .int (nI 0)])), (a7, .inl (cI, 123, .inl (fun _ => 0))), (a8, .inr (1, [.ref a9, .ref a10, .int (nI 0), .int (nI 0)])), (a9, .inl (cI, 20, .inl (fun _ => 0))), (a10, .inl (cL, 20, .inr (.inl (fun _ => 0))))] H := hP
  have hD : va_D A [(a0, .inr (2, [.ref a1, .ref a3, .ref a6, .null, .int 0])), (a1, .inr (0, [.ref a2, .int (nI 0)])), (a2, .inl (cI, 400, .inl (fun _ => 0))), (a3, .inr (1, [.ref a4, .ref a5, .int (nI 0), .int (nI 0)])), (a4, .inl (cI, 20, .inl (fun _ => 0))), (a5, .inl (cL, 20, .inr (.inl (fun _ => 0)))), (a6, .inr (0, [.ref a7, .int (nI 0)])), (a7, .inl (cI, 123, .inl (fun _ => 0))), (a8, .inr (1, [.ref a9, .ref a10, .int (nI 0), .int (nI 0)])), (a9, .inl (cI, 20, .inl (fun _ => 0))), (a10, .inl (cL, 20, .inr (.inl (fun _ => 0))))] := hD
  refine va_putF (D := D) (ci := 2) (v := .ref a8) (ty := (.object "FieldDesk$Message")) (C := nR_F) (T := nT_F) (N := 5) hx hb hts in_F nt_F nt_F_ok nn_F hown hK hP hD hS 0 rfl rfl 3 (by decide) (hts _ tb_56) (fun _ h9 => h9) rfl hin rfl (by decide +kernel) rfl rfl (Nat.le_of_ble_eq_true rfl) ndF_init_50 (fun H locs hP hD hS => ?_)
  have hP : va_P D fd_cl [(a0, .inr (2, [.ref a1, .ref a3, .ref a6, .ref a8, .int 0])), (a1, .inr (0, [.ref a2, .int (nI 0)])), (a2, .inl (cI, 400, .inl (fun _ => 0))), (a3, .inr (1, [.ref a4, .ref a5, .int (nI 0), .int (nI 0)])), (a4, .inl (cI, 20, .inl (fun _ => 0))), (a5, .inl (cL, 20, .inr (.inl (fun _ => 0)))), (a6, .inr (0, [.ref a7, .int (nI 0)])), (a7, .inl (cI, 123, .inl (fun _ => 0))), (a8, .inr (1, [.ref a9, .ref a10, .int (nI 0), .int (nI 0)])), (a9, .inl (cI, 20, .inl (fun _ => 0))), (a10, .inl (cL, 20, .inr (.inl (fun _ => 0))))] H := hP
  have hD : va_D A [(a0, .inr (2, [.ref a1, .ref a3, .ref a6, .ref a8, .int 0])), (a1, .inr (0, [.ref a2, .int (nI 0)])), (a2, .inl (cI, 400, .inl (fun _ => 0))), (a3, .inr (1, [.ref a4, .ref a5, .int (nI 0), .int (nI 0)])), (a4, .inl (cI, 20, .inl (fun _ => 0))), (a5, .inl (cL, 20, .inr (.inl (fun _ => 0)))), (a6, .inr (0, [.ref a7, .int (nI 0)])), (a7, .inl (cI, 123, .inl (fun _ => 0))), (a8, .inr (1, [.ref a9, .ref a10, .int (nI 0), .int (nI 0)])), (a9, .inl (cI, 20, .inl (fun _ => 0))), (a10, .inl (cL, 20, .inr (.inl (fun _ => 0))))] := hD
  refine lv_aload_n hx hb ndF_init_53 rfl (lv_at hl 0 rfl) ?_
  refine lv_iconst (v := 0) hx hb ndF_init_54 (by decide) ?_
  refine va_put (D := D) (ci := 2) (v := .int 0) (ty := (.boolean)) (C := nR_F) (T := nT_F) (N := 5) hx hb hts in_F nt_F nt_F_ok nn_F hown hK hP hD hS 0 rfl rfl 4 (by decide) (hts _ tb_57) (fun _ h9 => h9) rfl (by decide +kernel) rfl rfl (Nat.le_of_ble_eq_true rfl) ndF_init_55 (fun H locs hP hD hS => ?_)
  have hP : va_P D fd_cl [(a0, .inr (2, [.ref a1, .ref a3, .ref a6, .ref a8, .int 0])), (a1, .inr (0, [.ref a2, .int (nI 0)])), (a2, .inl (cI, 400, .inl (fun _ => 0))), (a3, .inr (1, [.ref a4, .ref a5, .int (nI 0), .int (nI 0)])), (a4, .inl (cI, 20, .inl (fun _ => 0))), (a5, .inl (cL, 20, .inr (.inl (fun _ => 0)))), (a6, .inr (0, [.ref a7, .int (nI 0)])), (a7, .inl (cI, 123, .inl (fun _ => 0))), (a8, .inr (1, [.ref a9, .ref a10, .int (nI 0), .int (nI 0)])), (a9, .inl (cI, 20, .inl (fun _ => 0))), (a10, .inl (cL, 20, .inr (.inl (fun _ => 0))))] H := hP
  have hD : va_D A [(a0, .inr (2, [.ref a1, .ref a3, .ref a6, .ref a8, .int 0])), (a1, .inr (0, [.ref a2, .int (nI 0)])), (a2, .inl (cI, 400, .inl (fun _ => 0))), (a3, .inr (1, [.ref a4, .ref a5, .int (nI 0), .int (nI 0)])), (a4, .inl (cI, 20, .inl (fun _ => 0))), (a5, .inl (cL, 20, .inr (.inl (fun _ => 0)))), (a6, .inr (0, [.ref a7, .int (nI 0)])), (a7, .inl (cI, 123, .inl (fun _ => 0))), (a8, .inr (1, [.ref a9, .ref a10, .int (nI 0), .int (nI 0)])), (a9, .inl (cI, 20, .inl (fun _ => 0))), (a10, .inl (cL, 20, .inr (.inl (fun _ => 0))))] := hD
  refine W.widen (k := 10) (n := 615) (by omega) (by omega) ?_
  exact fd_retN_v (fun i => [0, a1, a2, a3, a4, a5, a6, a7, a8, a9, a10].getD i 0) hx hb hr hlocks hS hP hD ndF_init_58
