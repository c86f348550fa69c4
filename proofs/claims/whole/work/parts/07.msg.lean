/-! a message: its kind, how many fields, their sorts and numbers -/
def fd_sa (n : Nat) (fs : Nat → Int32) (i : Int32) : Int32 := if i < 0 then 0 else if nI n ≤ i then 0 else fs i.toNatClampNeg
def fd_na (n : Nat) (fn : Nat → Int64) (i : Int32) : Int64 := if i < 0 then -1 else if nI n ≤ i then -1 else fn i.toNatClampNeg
theorem fd_na_lt {n k : Nat} {fn : Nat → Int64} (h : k < n) (hn : n < 2 ^ 31) : fd_na n fn (nI k) = fn k := by
  rw [fd_na, if_neg (nI_pos (by omega)), if_neg (nI_ge h hn), nI_clamp (by omega)]
theorem fd_na_ge {n k : Nat} {fn : Nat → Int64} (h : n ≤ k) (hk : k < 2 ^ 31) : fd_na n fn (nI k) = -1 := by
  rw [fd_na, if_neg (nI_pos hk), if_pos (nI_le h hk)]
def fd_leg (j : Nat) (x : Int64) : Int32 := if x * 4 ≤ (nI j).toInt64 then 0 else fd_ent 4 (nI (j % 4))
def fd_due (kd n : Nat) (fn : Nat → Int64) : Int32 := if kd < 1 then 0 else if kd = 6 then (if n < 4 then fd_ent 3 (nI ((kd - 1) * 6 + n)) else fd_leg (n - 4) (fn 3)) else (if 6 ≤ n then 0 else fd_ent 3 (nI ((kd - 1) * 6 + n)))
def fd_mz (kd n : Nat) (fn : Nat → Int64) : Int32 := if kd = 2 then (if fd_na n fn 3 = 0 then 1 else 0) else 0
def fd_sub (d : Int32) (x : Int64) : Int32 := if x < (fd_ent 1 d).toInt64 then 0 else if fd_mn.getD d.toNatClampNeg 0 < x then 0 else 1
def fd_suit (kd n : Nat) (fn : Nat → Int64) (x : Int64) : Int32 := if fd_due kd n fn < 1 then 0 else if nI 9 ≤ fd_due kd n fn then 0 else if fd_mz kd n fn = 0 then fd_sub (fd_due kd n fn) x else if x = 0 then fd_sub (fd_due kd n fn) x else 0
theorem fd_in9 {d : Int32} (h1 : ¬ d < 1) (h2 : ¬ nI 9 ≤ d) : vp_in d 9 := by
  have a : ¬ d < 0 := fun h => h1 (Int32.lt_trans h (by decide))
  obtain ⟨k, hk, rfl⟩ := fd_ix a h2 (by decide)
  exact vp_in_nI hk (by decide)
set_option maxHeartbeats 4000000 in
set_option maxRecDepth 100000 in
theorem kM_start (l : Launch) (D : va_G) (Z : Nat → Nat) (cI cL : ClassId) {h a b kd n : Nat} {fs : Nat → Int32} {fn : Nat → Int64} {k : Nat} : fd_Mv l D fd_cl (fd_ty cI cL) (fd_EV Z) nyM_start (.code nyM_start ncM_start 2 none :: fd_TB) nmM_start [.ref h, .int (nI k)] [(h, .inr (1, [.ref a, .ref b, .int (nI kd), .int (nI n)])), (a, .inl (cI, 20, .inl fs)), (b, .inl (cL, 20, .inr (.inl fn)))] [(h, .inr (1, [.ref a, .ref b, .int (nI k), .int (nI 0)])), (a, .inl (cI, 20, .inl fs)), (b, .inl (cL, 20, .inr (.inl fn)))] := by
  refine fd_open_v (cc := ncM_start) (maxL := 2) (ret := none) (by decide) rfl (Nat.le_of_ble_eq_true rfl) ?_
  intro p e s m below meth c A ls X hP hD hS hl
  obtain ⟨hx, hb, hr, hml, hown, hts0, hlocks, hK, hEV, hA⟩ := X
  have hts : ∀ w ∈ fd_TB, w.before _ s = true := fun w h => hts0 w (List.mem_cons_of_mem _ h)
  have hE := fd_EV_ok Z
  have hown : s.vm.findClass "FieldDesk$Message" = some m.cls := hown
  have hl : lv_has ls 2 [(0, .ref h), (1, .int (nI k))] := hl
  refine lv_aload_n hx hb ndM_start_0 rfl (lv_at hl 0 rfl) ?_
  refine lv_iload_n hx hb ndM_start_1 rfl (lv_at hl 1 rfl) ?_
  refine va_put (D := D) (ci := 1) (v := .int (nI k)) (ty := (.int)) (C := nR_M) (T := nT_M) (N := 4) hx hb hts in_M nt_M nt_M_ok nn_M hown hK hP hD hS 0 rfl rfl 2 (by decide) (hts _ tb_46) (fun _ h9 => h9) rfl (by decide +kernel) rfl rfl (Nat.le_of_ble_eq_true rfl) ndM_start_2 (fun H locs hP hD hS => ?_)
  have hP : va_P D fd_cl [(h, .inr (1, [.ref a, .ref b, .int (nI k), .int (nI n)])), (a, .inl (cI, 20, .inl fs)), (b, .inl (cL, 20, .inr (.inl fn)))] H := hP
  have hD : va_D A [(h, .inr (1, [.ref a, .ref b, .int (nI k), .int (nI n)])), (a, .inl (cI, 20, .inl fs)), (b, .inl (cL, 20, .inr (.inl fn)))] := hD
  refine lv_aload_n hx hb ndM_start_5 rfl (lv_at hl 0 rfl) ?_
  refine lv_iconst (v := 0) hx hb ndM_start_6 (by decide) ?_
  refine fd_asi (y := nI 0) nI_0.symm ?_
  refine va_put (D := D) (ci := 1) (v := .int (nI 0)) (ty := (.int)) (C := nR_M) (T := nT_M) (N := 4) hx hb hts in_M nt_M nt_M_ok nn_M hown hK hP hD hS 0 rfl rfl 3 (by decide) (hts _ tb_47) (fun _ h9 => h9) rfl (by decide +kernel) rfl rfl (Nat.le_of_ble_eq_true rfl) ndM_start_7 (fun H locs hP hD hS => ?_)
  have hP : va_P D fd_cl [(h, .inr (1, [.ref a, .ref b, .int (nI k), .int (nI 0)])), (a, .inl (cI, 20, .inl fs)), (b, .inl (cL, 20, .inr (.inl fn)))] H := hP
  have hD : va_D A [(h, .inr (1, [.ref a, .ref b, .int (nI k), .int (nI 0)])), (a, .inl (cI, 20, .inl fs)), (b, .inl (cL, 20, .inr (.inl fn)))] := hD
  exact fd_ret_v hx hb hr hlocks hS hP hD ndM_start_10
set_option maxHeartbeats 4000000 in
set_option maxRecDepth 100000 in
theorem kM_sortAt (l : Launch) (D : va_G) (Z : Nat → Nat) (cI cL : ClassId) {h a b kd n : Nat} {fs : Nat → Int32} {fn : Nat → Int64} (hn : n ≤ 20) (i : Int32) : fd_Mi l D fd_cl (fd_ty cI cL) (fd_EV Z) nyM_sortAt (.code nyM_sortAt ncM_sortAt 2 (some .int) :: fd_TB) nmM_sortAt [.ref h, .int i] [(h, .inr (1, [.ref a, .ref b, .int (nI kd), .int (nI n)])), (a, .inl (cI, 20, .inl fs)), (b, .inl (cL, 20, .inr (.inl fn)))] [(h, .inr (1, [.ref a, .ref b, .int (nI kd), .int (nI n)])), (a, .inl (cI, 20, .inl fs)), (b, .inl (cL, 20, .inr (.inl fn)))] (fd_sa n fs i) := by
  refine fd_open_i (cc := ncM_sortAt) (maxL := 2) (ret := (some .int)) (by decide) rfl (Nat.le_of_ble_eq_true rfl) ?_
  intro p e s m below meth c A ls X hP hD hS hl
  obtain ⟨hx, hb, hr, hml, hown, hts0, hlocks, hK, hEV, hA⟩ := X
  have hts : ∀ w ∈ fd_TB, w.before _ s = true := fun w h => hts0 w (List.mem_cons_of_mem _ h)
  have hE := fd_EV_ok Z
  have hown : s.vm.findClass "FieldDesk$Message" = some m.cls := hown
  have hl : lv_has ls 2 [(0, .ref h), (1, .int i)] := hl
  refine lv_iload_n hx hb ndM_sortAt_0 rfl (lv_at hl 1 rfl) ?_
  refine lv_if_lt (tgt := 30) hx hb ndM_sortAt_1 (by decide) (fun c_1 => ?_) (fun c_1 => ?_)
  · refine lv_iconst (v := 0) hx hb ndM_sortAt_30 (by decide) ?_
    exact fd_ret_i hx hb hr hlocks hS hP hD rfl (by rw [fd_sa, if_pos c_1]) ndM_sortAt_31
  · refine lv_iload_n hx hb ndM_sortAt_4 rfl (lv_at hl 1 rfl) ?_
    refine lv_aload_n hx hb ndM_sortAt_5 rfl (lv_at hl 0 rfl) ?_
    refine va_get (D := D) (ci := 1) (v := .int (nI n)) (C := nR_M) (T := nT_M) (N := 4) hx hb hts in_M hown hK hP 0 rfl rfl 3 (by decide) (hts _ tb_47) (fun _ h9 => h9) rfl ndM_sortAt_6 ?_
    refine lv_icmp_ge (tgt := 30) hx hb ndM_sortAt_9 (by decide) (fun c_9 => ?_) (fun c_9 => ?_)
    · refine lv_iconst (v := 0) hx hb ndM_sortAt_30 (by decide) ?_
      exact fd_ret_i hx hb hr hlocks hS hP hD rfl (by rw [fd_sa, if_neg c_1, if_pos c_9]) ndM_sortAt_31
    · obtain ⟨k, hk, rfl⟩ := fd_ix c_1 c_9 (by omega)
      refine lv_iload_n hx hb ndM_sortAt_12 rfl (lv_at hl 1 rfl) ?_
      refine lv_aload_n hx hb ndM_sortAt_13 rfl (lv_at hl 0 rfl) ?_
      refine va_get (D := D) (ci := 1) (v := .ref a) (C := nR_M) (T := nT_M) (N := 4) hx hb hts in_M hown hK hP 0 rfl rfl 0 (by decide) (hts _ tb_44) (fun _ h9 => h9) rfl ndM_sortAt_14 ?_
      refine va_alen hx hb hK hP 1 0 rfl rfl (v := nI 20) rfl ndM_sortAt_17 ?_
      refine lv_icmp_ge (tgt := 30) hx hb ndM_sortAt_18 (by decide) (fun c_18 => absurd c_18 (fun h9 => absurd ((nI_leI (a := 20) (b := k) (by omega) (by omega)).mp h9) (by omega))) (fun _ => ?_)
      refine lv_aload_n hx hb ndM_sortAt_21 rfl (lv_at hl 0 rfl) ?_
      refine va_get (D := D) (ci := 1) (v := .ref a) (C := nR_M) (T := nT_M) (N := 4) hx hb hts in_M hown hK hP 0 rfl rfl 0 (by decide) (hts _ tb_44) (fun _ h9 => h9) rfl ndM_sortAt_22 ?_
      refine lv_iload_n hx hb ndM_sortAt_25 rfl (lv_at hl 1 rfl) ?_
      refine fd_iald hx hb hK hP 1 0 (k := k) rfl rfl (by omega) (by omega) ndM_sortAt_26 ?_
      refine lv_goto (tgt := 31) hx hb ndM_sortAt_27 (by decide) ?_
      exact fd_ret_i hx hb hr hlocks hS hP hD rfl (by rw [fd_sa, if_neg c_1, if_neg c_9, nI_clamp (by omega)]) ndM_sortAt_31
set_option maxHeartbeats 4000000 in
set_option maxRecDepth 100000 in
theorem kM_numberAt (l : Launch) (D : va_G) (Z : Nat → Nat) (cI cL : ClassId) {h a b kd n : Nat} {fs : Nat → Int32} {fn : Nat → Int64} (hn : n ≤ 20) (i : Int32) : fd_Ml l D fd_cl (fd_ty cI cL) (fd_EV Z) nyM_numberAt (.code nyM_numberAt ncM_numberAt 2 (some .long) :: fd_TB) nmM_numberAt [.ref h, .int i] [(h, .inr (1, [.ref a, .ref b, .int (nI kd), .int (nI n)])), (a, .inl (cI, 20, .inl fs)), (b, .inl (cL, 20, .inr (.inl fn)))] [(h, .inr (1, [.ref a, .ref b, .int (nI kd), .int (nI n)])), (a, .inl (cI, 20, .inl fs)), (b, .inl (cL, 20, .inr (.inl fn)))] (fd_na n fn i) := by
  refine fd_open_l (cc := ncM_numberAt) (maxL := 2) (ret := (some .long)) (by decide) rfl (Nat.le_of_ble_eq_true rfl) ?_
  intro p e s m below meth c A ls X hP hD hS hl
  obtain ⟨hx, hb, hr, hml, hown, hts0, hlocks, hK, hEV, hA⟩ := X
  have hts : ∀ w ∈ fd_TB, w.before _ s = true := fun w h => hts0 w (List.mem_cons_of_mem _ h)
  have hE := fd_EV_ok Z
  have hown : s.vm.findClass "FieldDesk$Message" = some m.cls := hown
  have hl : lv_has ls 2 [(0, .ref h), (1, .int i)] := hl
  refine lv_iload_n hx hb ndM_numberAt_0 rfl (lv_at hl 1 rfl) ?_
  refine lv_if_lt (tgt := 30) hx hb ndM_numberAt_1 (by decide) (fun c_1 => ?_) (fun c_1 => ?_)
  · refine lv_ldc2 hx hb hown (hts _ tb_140) ndM_numberAt_30 ?_
    exact fd_ret_l hx hb hr hlocks hS hP hD (by rw [fd_na, if_pos c_1]) ndM_numberAt_33
  · refine lv_iload_n hx hb ndM_numberAt_4 rfl (lv_at hl 1 rfl) ?_
    refine lv_aload_n hx hb ndM_numberAt_5 rfl (lv_at hl 0 rfl) ?_
    refine va_get (D := D) (ci := 1) (v := .int (nI n)) (C := nR_M) (T := nT_M) (N := 4) hx hb hts in_M hown hK hP 0 rfl rfl 3 (by decide) (hts _ tb_47) (fun _ h9 => h9) rfl ndM_numberAt_6 ?_
    refine lv_icmp_ge (tgt := 30) hx hb ndM_numberAt_9 (by decide) (fun c_9 => ?_) (fun c_9 => ?_)
    · refine lv_ldc2 hx hb hown (hts _ tb_140) ndM_numberAt_30 ?_
      exact fd_ret_l hx hb hr hlocks hS hP hD (by rw [fd_na, if_neg c_1, if_pos c_9]) ndM_numberAt_33
    · obtain ⟨k, hk, rfl⟩ := fd_ix c_1 c_9 (by omega)
      refine lv_iload_n hx hb ndM_numberAt_12 rfl (lv_at hl 1 rfl) ?_
      refine lv_aload_n hx hb ndM_numberAt_13 rfl (lv_at hl 0 rfl) ?_
      refine va_get (D := D) (ci := 1) (v := .ref b) (C := nR_M) (T := nT_M) (N := 4) hx hb hts in_M hown hK hP 0 rfl rfl 1 (by decide) (hts _ tb_45) (fun _ h9 => h9) rfl ndM_numberAt_14 ?_
      refine va_alen hx hb hK hP 2 1 rfl rfl (v := nI 20) rfl ndM_numberAt_17 ?_
      refine lv_icmp_ge (tgt := 30) hx hb ndM_numberAt_18 (by decide) (fun c_18 => absurd c_18 (fun h9 => absurd ((nI_leI (a := 20) (b := k) (by omega) (by omega)).mp h9) (by omega))) (fun _ => ?_)
      refine lv_aload_n hx hb ndM_numberAt_21 rfl (lv_at hl 0 rfl) ?_
      refine va_get (D := D) (ci := 1) (v := .ref b) (C := nR_M) (T := nT_M) (N := 4) hx hb hts in_M hown hK hP 0 rfl rfl 1 (by decide) (hts _ tb_45) (fun _ h9 => h9) rfl ndM_numberAt_22 ?_
      refine lv_iload_n hx hb ndM_numberAt_25 rfl (lv_at hl 1 rfl) ?_
      refine fd_lald hx hb hK hP 2 1 (k := k) rfl rfl (by omega) (by omega) ndM_numberAt_26 ?_
      refine lv_goto (tgt := 33) hx hb ndM_numberAt_27 (by decide) ?_
      exact fd_ret_l hx hb hr hlocks hS hP hD (by rw [fd_na, if_neg c_1, if_neg c_9, nI_clamp (by omega)]) ndM_numberAt_33
set_option maxHeartbeats 4000000 in
set_option maxRecDepth 100000 in
theorem kM_dueLegSort (l : Launch) (D : va_G) (Z : Nat → Nat) (cI cL : ClassId) {h a b kd n : Nat} {fs : Nat → Int32} {fn : Nat → Int64} {j : Nat} (hn : n ≤ 20) (h4 : 4 ≤ n) (hj : j < 100) : fd_Mi l D fd_cl (fd_ty cI cL) (fd_EV Z) nyM_dueLegSort (.code nyM_dueLegSort ncM_dueLegSort 4 (some .int) :: fd_TB) nmM_dueLegSort [.ref h, .int (nI j)] [(h, .inr (1, [.ref a, .ref b, .int (nI kd), .int (nI n)])), (a, .inl (cI, 20, .inl fs)), (b, .inl (cL, 20, .inr (.inl fn)))] [(h, .inr (1, [.ref a, .ref b, .int (nI kd), .int (nI n)])), (a, .inl (cI, 20, .inl fs)), (b, .inl (cL, 20, .inr (.inl fn)))] (fd_leg j (fn 3)) := by
  refine fd_open_i (cc := ncM_dueLegSort) (maxL := 4) (ret := (some .int)) (by decide) rfl (Nat.le_of_ble_eq_true rfl) ?_
  intro p e s m below meth c A ls X hP hD hS hl
  obtain ⟨hx, hb, hr, hml, hown, hts0, hlocks, hK, hEV, hA⟩ := X
  have hts : ∀ w ∈ fd_TB, w.before _ s = true := fun w h => hts0 w (List.mem_cons_of_mem _ h)
  have hE := fd_EV_ok Z
  have hown : s.vm.findClass "FieldDesk$Message" = some m.cls := hown
  have hl : lv_has ls 4 [(0, .ref h), (1, .int (nI j))] := hl
  refine lv_aload_n hx hb ndM_dueLegSort_0 rfl (lv_at hl 0 rfl) ?_
  refine lv_iconst (v := 3) hx hb ndM_dueLegSort_1 (by decide) ?_
  refine fd_go_l (wr := []) (w2 := [(h, .inr (1, [.ref a, .ref b, .int (nI kd), .int (nI n)])), (a, .inl (cI, 20, .inl fs)), (b, .inl (cL, 20, .inr (.inl fn)))]) (va_runV (As := [.int 3]) (rest := []) ⟨hx, hb, hml, hown, hts⟩ (kM_numberAt l D Z cI cL (kd := kd) (n := n) (fs := fs) (fn := fn) (by omega) 3 s.heap.size) (cwV 1 hts (fd_gV tb_136 tb_137 tb_138 tb_15 tb_139) rfl rfl rfl nhM_numberAt ⟨(Nat.le_of_ble_eq_true rfl), (Nat.le_of_ble_eq_true rfl)⟩) (fd_PreV hE hK hEV hA hP hD hS [0, 1, 2] rfl (by decide) (ci := 1) (q0 := 0) rfl rfl) rfl rfl hl.1 rfl (lv_room (Nat.le_of_ble_eq_true rfl)) ndM_dueLegSort_2 ⟨(Nat.le_of_ble_eq_true rfl), (Nat.le_of_ble_eq_true rfl)⟩) hP hD hS hA [0, 1, 2] [] rfl rfl (by decide) (by decide) [0, 1, 2] rfl (by decide) (fun H locs hP hD hS => ?_)
  refine fd_asl (y := fn 3) (fd_na_lt (k := 3) (by omega) (by omega)) ?_
  refine lv_lstore_n (lv' := [(2, .long (fn 3)), (0, .ref h), (1, .int (nI j))]) hx hb ndM_dueLegSort_5 rfl hl (by decide) rfl (fun ls hl => ?_)
  refine lv_iload_n hx hb ndM_dueLegSort_6 rfl (lv_at hl 2 rfl) ?_
  refine lv_i2l hx hb ndM_dueLegSort_7 rfl ?_
  refine lv_lload_n hx hb ndM_dueLegSort_8 rfl (lv_at hl 0 rfl) ?_
  refine lv_ldc2 hx hb hown (hts _ tb_141) ndM_dueLegSort_9 ?_
  refine lv_lmul hx hb ndM_dueLegSort_12 ?_
  refine W.lcmp hx hb ndM_dueLegSort_13 ?_
  refine lv_if_ge (tgt := 29) hx hb ndM_dueLegSort_14 (by decide) (fun c_14 => ?_) (fun c_14 => ?_)
  · have n_14 := (lg_cmp_ge _ _).mp c_14
    refine lv_iconst (v := 0) hx hb ndM_dueLegSort_29 (by decide) ?_
    exact fd_ret_i hx hb hr hlocks hS hP hD rfl (by rw [fd_leg, if_pos n_14]) ndM_dueLegSort_30
  · have n_14 := mt (lg_cmp_ge _ _).mpr c_14
    refine va_getsN hx hb (hEV.2.2.2.1 4 (by decide)).1 hS hown (fd_nw hEV nb_4) (fun _ h9 => h9) ndM_dueLegSort_17 ?_
    refine lv_iload_n hx hb ndM_dueLegSort_20 rfl (lv_at hl 2 rfl) ?_
    refine lv_iconst (v := 4) hx hb ndM_dueLegSort_21 (by decide) ?_
    refine lv_irem hx hb ndM_dueLegSort_22 (by decide) ?_
    refine fd_asi (y := nI (j % 4)) (pk_rem (a := j) (d := 4) (by omega) (by omega) (by omega)) ?_
    refine fd_go_i (wr := [(h, .inr (1, [.ref a, .ref b, .int (nI kd), .int (nI n)])), (a, .inl (cI, 20, .inl fs)), (b, .inl (cL, 20, .inr (.inl fn)))]) (w2 := [(h, .inr (1, [.ref a, .ref b, .int (nI kd), .int (nI n)])), (a, .inl (cI, 20, .inl fs)), (b, .inl (cL, 20, .inr (.inl fn)))]) (va_runSN (As := [.ref (Z 4), .int (nI (j % 4))]) (rest := []) ⟨hx, hb, hml, hown, hts⟩ (kF_entry l D Z cI cL (k := 4) (by decide) (nI (j % 4)) H.size) ⟨va_cnB 2 hts (fd_gi tb_143) rfl rfl rfl (hEV.1 _ nb_5) (hts _ tb_13) nhF_entry.2 ⟨(Nat.le_of_ble_eq_true rfl), (Nat.le_of_ble_eq_true rfl)⟩, hts _ tb_142, trivial⟩ (fd_PreS hE hK hEV hA hP hD hS [] rfl (by decide)) rfl rfl hl.1 rfl (lv_room (Nat.le_of_ble_eq_true rfl)) ndM_dueLegSort_23 ⟨(Nat.le_of_ble_eq_true rfl), (Nat.le_of_ble_eq_true rfl)⟩) hP hD hS hA [] [0, 1, 2] rfl rfl (by decide) (by decide) [0, 1, 2] rfl (by decide) (fun H locs hP hD hS => ?_)
    refine lv_goto (tgt := 30) hx hb ndM_dueLegSort_26 (by decide) ?_
    exact fd_ret_i hx hb hr hlocks hS hP hD rfl (by rw [fd_leg, if_neg n_14]) ndM_dueLegSort_30
set_option maxHeartbeats 4000000 in
set_option maxRecDepth 100000 in
theorem kM_dueSort (l : Launch) (D : va_G) (Z : Nat → Nat) (cI cL : ClassId) {h a b kd n : Nat} {fs : Nat → Int32} {fn : Nat → Int64} (hk : kd ≤ 15) (hn : n ≤ 20) : fd_Mi l D fd_cl (fd_ty cI cL) (fd_EV Z) nyM_dueSort (.code nyM_dueSort ncM_dueSort 1 (some .int) :: fd_TB) nmM_dueSort [.ref h] [(h, .inr (1, [.ref a, .ref b, .int (nI kd), .int (nI n)])), (a, .inl (cI, 20, .inl fs)), (b, .inl (cL, 20, .inr (.inl fn)))] [(h, .inr (1, [.ref a, .ref b, .int (nI kd), .int (nI n)])), (a, .inl (cI, 20, .inl fs)), (b, .inl (cL, 20, .inr (.inl fn)))] (fd_due kd n fn) := by
  refine fd_open_i (cc := ncM_dueSort) (maxL := 1) (ret := (some .int)) (by decide) rfl (Nat.le_of_ble_eq_true rfl) ?_
  intro p e s m below meth c A ls X hP hD hS hl
  obtain ⟨hx, hb, hr, hml, hown, hts0, hlocks, hK, hEV, hA⟩ := X
  have hts : ∀ w ∈ fd_TB, w.before _ s = true := fun w h => hts0 w (List.mem_cons_of_mem _ h)
  have hE := fd_EV_ok Z
  have hown : s.vm.findClass "FieldDesk$Message" = some m.cls := hown
  have hl : lv_has ls 1 [(0, .ref h)] := hl
  refine lv_aload_n hx hb ndM_dueSort_0 rfl (lv_at hl 0 rfl) ?_
  refine va_get (D := D) (ci := 1) (v := .int (nI kd)) (C := nR_M) (T := nT_M) (N := 4) hx hb hts in_M hown hK hP 0 rfl rfl 2 (by decide) (hts _ tb_46) (fun _ h9 => h9) rfl ndM_dueSort_1 ?_
  refine lv_iconst (v := 1) hx hb ndM_dueSort_4 (by decide) ?_
  refine lv_icmp_lt (tgt := 24) hx hb ndM_dueSort_5 (by decide) (fun c_5 => ?_) (fun c_5 => ?_)
  · have n_5 := (nI_ltI (a := kd) (b := 1) (by omega) (by omega)).mp c_5
    refine lv_iconst (v := 0) hx hb ndM_dueSort_24 (by decide) ?_
    exact fd_ret_i hx hb hr hlocks hS hP hD rfl (by rw [fd_due, if_pos n_5]) ndM_dueSort_25
  · have n_5 := mt (nI_ltI (a := kd) (b := 1) (by omega) (by omega)).mpr c_5
    refine lv_aload_n hx hb ndM_dueSort_8 rfl (lv_at hl 0 rfl) ?_
    refine va_get (D := D) (ci := 1) (v := .int (nI kd)) (C := nR_M) (T := nT_M) (N := 4) hx hb hts in_M hown hK hP 0 rfl rfl 2 (by decide) (hts _ tb_46) (fun _ h9 => h9) rfl ndM_dueSort_9 ?_
    refine lv_bipush (v := 15) hx hb ndM_dueSort_12 (by decide) ?_
    refine lv_icmp_gt (tgt := 24) hx hb ndM_dueSort_14 (by decide) (fun c_14 => absurd c_14 (fun h9 => absurd ((nI_ltI (a := 15) (b := kd) (by omega) (by omega)).mp h9) (by omega))) (fun _ => ?_)
    refine lv_aload_n hx hb ndM_dueSort_17 rfl (lv_at hl 0 rfl) ?_
    refine va_get (D := D) (ci := 1) (v := .int (nI n)) (C := nR_M) (T := nT_M) (N := 4) hx hb hts in_M hown hK hP 0 rfl rfl 3 (by decide) (hts _ tb_47) (fun _ h9 => h9) rfl ndM_dueSort_18 ?_
    refine lv_if_ge (tgt := 26) hx hb ndM_dueSort_21 (by decide) (fun _ => ?_) (fun c_21 => absurd ((nI_leI (a := 0) (b := n) (by omega) (by omega)).mpr (by omega)) c_21)
    refine lv_aload_n hx hb ndM_dueSort_26 rfl (lv_at hl 0 rfl) ?_
    refine va_get (D := D) (ci := 1) (v := .int (nI kd)) (C := nR_M) (T := nT_M) (N := 4) hx hb hts in_M hown hK hP 0 rfl rfl 2 (by decide) (hts _ tb_46) (fun _ h9 => h9) rfl ndM_dueSort_27 ?_
    refine lv_bipush (v := 6) hx hb ndM_dueSort_30 (by decide) ?_
    refine lv_icmp_ne (tgt := 54) hx hb ndM_dueSort_32 (by decide) (fun c_32 => ?_) (fun c_32 => ?_)
    · have n_32 := mt (nI_eq (a := kd) (b := 6) (by omega) (by omega)).mpr c_32
      refine lv_aload_n hx hb ndM_dueSort_54 rfl (lv_at hl 0 rfl) ?_
      refine va_get (D := D) (ci := 1) (v := .int (nI n)) (C := nR_M) (T := nT_M) (N := 4) hx hb hts in_M hown hK hP 0 rfl rfl 3 (by decide) (hts _ tb_47) (fun _ h9 => h9) rfl ndM_dueSort_55 ?_
      refine lv_bipush (v := 6) hx hb ndM_dueSort_58 (by decide) ?_
      refine lv_icmp_ge (tgt := 86) hx hb ndM_dueSort_60 (by decide) (fun c_60 => ?_) (fun c_60 => ?_)
      · have n_60 := (nI_leI (a := 6) (b := n) (by omega) (by omega)).mp c_60
        refine lv_iconst (v := 0) hx hb ndM_dueSort_86 (by decide) ?_
        exact fd_ret_i hx hb hr hlocks hS hP hD rfl (by rw [fd_due, if_neg n_5, if_neg n_32, if_pos n_60]) ndM_dueSort_87
      · have n_60 := mt (nI_leI (a := 6) (b := n) (by omega) (by omega)).mpr c_60
        refine va_getsN hx hb (hEV.2.2.2.1 3 (by decide)).1 hS hown (fd_nw hEV nb_6) (fun _ h9 => h9) ndM_dueSort_63 ?_
        refine lv_aload_n hx hb ndM_dueSort_66 rfl (lv_at hl 0 rfl) ?_
        refine va_get (D := D) (ci := 1) (v := .int (nI kd)) (C := nR_M) (T := nT_M) (N := 4) hx hb hts in_M hown hK hP 0 rfl rfl 2 (by decide) (hts _ tb_46) (fun _ h9 => h9) rfl ndM_dueSort_67 ?_
        refine lv_iconst (v := 1) hx hb ndM_dueSort_70 (by decide) ?_
        refine lv_isub hx hb ndM_dueSort_71 ?_
        refine fd_asi (y := nI (kd - 1)) (pk_sub (a := kd) (b := 1) (by omega)) ?_
        refine lv_bipush (v := 6) hx hb ndM_dueSort_72 (by decide) ?_
        refine lv_imul hx hb ndM_dueSort_74 ?_
        refine fd_asi (y := nI ((kd - 1) * 6)) (pk_mul (kd - 1) 6) ?_
        refine lv_aload_n hx hb ndM_dueSort_75 rfl (lv_at hl 0 rfl) ?_
        refine va_get (D := D) (ci := 1) (v := .int (nI n)) (C := nR_M) (T := nT_M) (N := 4) hx hb hts in_M hown hK hP 0 rfl rfl 3 (by decide) (hts _ tb_47) (fun _ h9 => h9) rfl ndM_dueSort_76 ?_
        refine lv_iadd hx hb ndM_dueSort_79 ?_
        refine fd_asi (y := nI ((kd - 1) * 6 + n)) (nI_add _ _) ?_
        refine fd_go_i (wr := [(h, .inr (1, [.ref a, .ref b, .int (nI kd), .int (nI n)])), (a, .inl (cI, 20, .inl fs)), (b, .inl (cL, 20, .inr (.inl fn)))]) (w2 := [(h, .inr (1, [.ref a, .ref b, .int (nI kd), .int (nI n)])), (a, .inl (cI, 20, .inl fs)), (b, .inl (cL, 20, .inr (.inl fn)))]) (va_runSN (As := [.ref (Z 3), .int (nI ((kd - 1) * 6 + n))]) (rest := []) ⟨hx, hb, hml, hown, hts⟩ (kF_entry l D Z cI cL (k := 3) (by decide) (nI ((kd - 1) * 6 + n)) s.heap.size) ⟨va_cnB 2 hts (fd_gi tb_143) rfl rfl rfl (hEV.1 _ nb_5) (hts _ tb_13) nhF_entry.2 ⟨(Nat.le_of_ble_eq_true rfl), (Nat.le_of_ble_eq_true rfl)⟩, hts _ tb_142, trivial⟩ (fd_PreS hE hK hEV hA hP hD hS [] rfl (by decide)) rfl rfl hl.1 rfl (lv_room (Nat.le_of_ble_eq_true rfl)) ndM_dueSort_80 ⟨(Nat.le_of_ble_eq_true rfl), (Nat.le_of_ble_eq_true rfl)⟩) hP hD hS hA [] [0, 1, 2] rfl rfl (by decide) (by decide) [0, 1, 2] rfl (by decide) (fun H locs hP hD hS => ?_)
        refine lv_goto (tgt := 87) hx hb ndM_dueSort_83 (by decide) ?_
        exact fd_ret_i hx hb hr hlocks hS hP hD rfl (by rw [fd_due, if_neg n_5, if_neg n_32, if_neg n_60]) ndM_dueSort_87
    · have n_32 := (nI_eq (a := kd) (b := 6) (by omega) (by omega)).mp c_32
      refine lv_aload_n hx hb ndM_dueSort_35 rfl (lv_at hl 0 rfl) ?_
      refine va_get (D := D) (ci := 1) (v := .int (nI n)) (C := nR_M) (T := nT_M) (N := 4) hx hb hts in_M hown hK hP 0 rfl rfl 3 (by decide) (hts _ tb_47) (fun _ h9 => h9) rfl ndM_dueSort_36 ?_
      refine lv_iconst (v := 4) hx hb ndM_dueSort_39 (by decide) ?_
      refine lv_icmp_lt (tgt := 54) hx hb ndM_dueSort_40 (by decide) (fun c_40 => ?_) (fun c_40 => ?_)
      · have n_40 := (nI_ltI (a := n) (b := 4) (by omega) (by omega)).mp c_40
        refine lv_aload_n hx hb ndM_dueSort_54 rfl (lv_at hl 0 rfl) ?_
        refine va_get (D := D) (ci := 1) (v := .int (nI n)) (C := nR_M) (T := nT_M) (N := 4) hx hb hts in_M hown hK hP 0 rfl rfl 3 (by decide) (hts _ tb_47) (fun _ h9 => h9) rfl ndM_dueSort_55 ?_
        refine lv_bipush (v := 6) hx hb ndM_dueSort_58 (by decide) ?_
        refine lv_icmp_ge (tgt := 86) hx hb ndM_dueSort_60 (by decide) (fun c_60 => absurd c_60 (fun h9 => absurd ((nI_leI (a := 6) (b := n) (by omega) (by omega)).mp h9) (by omega))) (fun _ => ?_)
        refine va_getsN hx hb (hEV.2.2.2.1 3 (by decide)).1 hS hown (fd_nw hEV nb_6) (fun _ h9 => h9) ndM_dueSort_63 ?_
        refine lv_aload_n hx hb ndM_dueSort_66 rfl (lv_at hl 0 rfl) ?_
        refine va_get (D := D) (ci := 1) (v := .int (nI kd)) (C := nR_M) (T := nT_M) (N := 4) hx hb hts in_M hown hK hP 0 rfl rfl 2 (by decide) (hts _ tb_46) (fun _ h9 => h9) rfl ndM_dueSort_67 ?_
        refine lv_iconst (v := 1) hx hb ndM_dueSort_70 (by decide) ?_
        refine lv_isub hx hb ndM_dueSort_71 ?_
        refine fd_asi (y := nI (kd - 1)) (pk_sub (a := kd) (b := 1) (by omega)) ?_
        refine lv_bipush (v := 6) hx hb ndM_dueSort_72 (by decide) ?_
        refine lv_imul hx hb ndM_dueSort_74 ?_
        refine fd_asi (y := nI ((kd - 1) * 6)) (pk_mul (kd - 1) 6) ?_
        refine lv_aload_n hx hb ndM_dueSort_75 rfl (lv_at hl 0 rfl) ?_
        refine va_get (D := D) (ci := 1) (v := .int (nI n)) (C := nR_M) (T := nT_M) (N := 4) hx hb hts in_M hown hK hP 0 rfl rfl 3 (by decide) (hts _ tb_47) (fun _ h9 => h9) rfl ndM_dueSort_76 ?_
        refine lv_iadd hx hb ndM_dueSort_79 ?_
        refine fd_asi (y := nI ((kd - 1) * 6 + n)) (nI_add _ _) ?_
        refine fd_go_i (wr := [(h, .inr (1, [.ref a, .ref b, .int (nI kd), .int (nI n)])), (a, .inl (cI, 20, .inl fs)), (b, .inl (cL, 20, .inr (.inl fn)))]) (w2 := [(h, .inr (1, [.ref a, .ref b, .int (nI kd), .int (nI n)])), (a, .inl (cI, 20, .inl fs)), (b, .inl (cL, 20, .inr (.inl fn)))]) (va_runSN (As := [.ref (Z 3), .int (nI ((kd - 1) * 6 + n))]) (rest := []) ⟨hx, hb, hml, hown, hts⟩ (kF_entry l D Z cI cL (k := 3) (by decide) (nI ((kd - 1) * 6 + n)) s.heap.size) ⟨va_cnB 2 hts (fd_gi tb_143) rfl rfl rfl (hEV.1 _ nb_5) (hts _ tb_13) nhF_entry.2 ⟨(Nat.le_of_ble_eq_true rfl), (Nat.le_of_ble_eq_true rfl)⟩, hts _ tb_142, trivial⟩ (fd_PreS hE hK hEV hA hP hD hS [] rfl (by decide)) rfl rfl hl.1 rfl (lv_room (Nat.le_of_ble_eq_true rfl)) ndM_dueSort_80 ⟨(Nat.le_of_ble_eq_true rfl), (Nat.le_of_ble_eq_true rfl)⟩) hP hD hS hA [] [0, 1, 2] rfl rfl (by decide) (by decide) [0, 1, 2] rfl (by decide) (fun H locs hP hD hS => ?_)
        refine lv_goto (tgt := 87) hx hb ndM_dueSort_83 (by decide) ?_
        exact fd_ret_i hx hb hr hlocks hS hP hD rfl (by rw [fd_due, if_neg n_5, if_pos n_32, if_pos n_40]) ndM_dueSort_87
      · have n_40 := mt (nI_ltI (a := n) (b := 4) (by omega) (by omega)).mpr c_40
        refine lv_aload_n hx hb ndM_dueSort_43 rfl (lv_at hl 0 rfl) ?_
        refine lv_aload_n hx hb ndM_dueSort_44 rfl (lv_at hl 0 rfl) ?_
        refine va_get (D := D) (ci := 1) (v := .int (nI n)) (C := nR_M) (T := nT_M) (N := 4) hx hb hts in_M hown hK hP 0 rfl rfl 3 (by decide) (hts _ tb_47) (fun _ h9 => h9) rfl ndM_dueSort_45 ?_
        refine lv_iconst (v := 4) hx hb ndM_dueSort_48 (by decide) ?_
        refine lv_isub hx hb ndM_dueSort_49 ?_
        refine fd_asi (y := nI (n - 4)) (pk_sub (a := n) (b := 4) (by omega)) ?_
        refine fd_go_i (wr := []) (w2 := [(h, .inr (1, [.ref a, .ref b, .int (nI kd), .int (nI n)])), (a, .inl (cI, 20, .inl fs)), (b, .inl (cL, 20, .inr (.inl fn)))]) (va_runV (As := [.int (nI (n - 4))]) (rest := []) ⟨hx, hb, hml, hown, hts⟩ (kM_dueLegSort l D Z cI cL (kd := kd) (n := n) (fs := fs) (fn := fn) (j := (n - 4)) (by omega) (by omega) (by omega) s.heap.size) (cwV 1 hts (fd_gV tb_133 tb_134 tb_4 tb_15 tb_135) rfl rfl rfl nhM_dueLegSort ⟨(Nat.le_of_ble_eq_true rfl), (Nat.le_of_ble_eq_true rfl)⟩) (fd_PreV hE hK hEV hA hP hD hS [0, 1, 2] rfl (by decide) (ci := 1) (q0 := 0) rfl rfl) rfl rfl hl.1 rfl (lv_room (Nat.le_of_ble_eq_true rfl)) ndM_dueSort_50 ⟨(Nat.le_of_ble_eq_true rfl), (Nat.le_of_ble_eq_true rfl)⟩) hP hD hS hA [0, 1, 2] [] rfl rfl (by decide) (by decide) [0, 1, 2] rfl (by decide) (fun H locs hP hD hS => ?_)
        exact fd_ret_i hx hb hr hlocks hS hP hD rfl (by rw [fd_due, if_neg n_5, if_pos n_32, if_neg n_40]) ndM_dueSort_53
set_option maxHeartbeats 4000000 in
set_option maxRecDepth 100000 in
theorem kM_mustBeZero (l : Launch) (D : va_G) (Z : Nat → Nat) (cI cL : ClassId) {h a b kd n : Nat} {fs : Nat → Int32} {fn : Nat → Int64} (hk : kd ≤ 15) (hn : n ≤ 20) : fd_Mi l D fd_cl (fd_ty cI cL) (fd_EV Z) nyM_mustBeZero (.code nyM_mustBeZero ncM_mustBeZero 1 (some .boolean) :: fd_TB) nmM_mustBeZero [.ref h] [(h, .inr (1, [.ref a, .ref b, .int (nI kd), .int (nI n)])), (a, .inl (cI, 20, .inl fs)), (b, .inl (cL, 20, .inr (.inl fn)))] [(h, .inr (1, [.ref a, .ref b, .int (nI kd), .int (nI n)])), (a, .inl (cI, 20, .inl fs)), (b, .inl (cL, 20, .inr (.inl fn)))] (fd_mz kd n fn) := by
  refine fd_open_i (cc := ncM_mustBeZero) (maxL := 1) (ret := (some .boolean)) (by decide) rfl (Nat.le_of_ble_eq_true rfl) ?_
  intro p e s m below meth c A ls X hP hD hS hl
  obtain ⟨hx, hb, hr, hml, hown, hts0, hlocks, hK, hEV, hA⟩ := X
  have hts : ∀ w ∈ fd_TB, w.before _ s = true := fun w h => hts0 w (List.mem_cons_of_mem _ h)
  have hE := fd_EV_ok Z
  have hown : s.vm.findClass "FieldDesk$Message" = some m.cls := hown
  have hl : lv_has ls 1 [(0, .ref h)] := hl
  refine lv_aload_n hx hb ndM_mustBeZero_0 rfl (lv_at hl 0 rfl) ?_
  refine va_get (D := D) (ci := 1) (v := .int (nI kd)) (C := nR_M) (T := nT_M) (N := 4) hx hb hts in_M hown hK hP 0 rfl rfl 2 (by decide) (hts _ tb_46) (fun _ h9 => h9) rfl ndM_mustBeZero_1 ?_
  refine lv_iconst (v := 2) hx hb ndM_mustBeZero_4 (by decide) ?_
  refine lv_icmp_ne (tgt := 22) hx hb ndM_mustBeZero_5 (by decide) (fun c_5 => ?_) (fun c_5 => ?_)
  · have n_5 := mt (nI_eq (a := kd) (b := 2) (by omega) (by omega)).mpr c_5
    refine lv_iconst (v := 0) hx hb ndM_mustBeZero_22 (by decide) ?_
    exact fd_ret_i hx hb hr hlocks hS hP hD rfl (by rw [fd_mz, if_neg n_5]) ndM_mustBeZero_23
  · have n_5 := (nI_eq (a := kd) (b := 2) (by omega) (by omega)).mp c_5
    refine lv_aload_n hx hb ndM_mustBeZero_8 rfl (lv_at hl 0 rfl) ?_
    refine lv_iconst (v := 3) hx hb ndM_mustBeZero_9 (by decide) ?_
    refine fd_go_l (wr := []) (w2 := [(h, .inr (1, [.ref a, .ref b, .int (nI kd), .int (nI n)])), (a, .inl (cI, 20, .inl fs)), (b, .inl (cL, 20, .inr (.inl fn)))]) (va_runV (As := [.int 3]) (rest := []) ⟨hx, hb, hml, hown, hts⟩ (kM_numberAt l D Z cI cL (kd := kd) (n := n) (fs := fs) (fn := fn) (by omega) 3 s.heap.size) (cwV 1 hts (fd_gV tb_136 tb_137 tb_138 tb_15 tb_139) rfl rfl rfl nhM_numberAt ⟨(Nat.le_of_ble_eq_true rfl), (Nat.le_of_ble_eq_true rfl)⟩) (fd_PreV hE hK hEV hA hP hD hS [0, 1, 2] rfl (by decide) (ci := 1) (q0 := 0) rfl rfl) rfl rfl hl.1 rfl (lv_room (Nat.le_of_ble_eq_true rfl)) ndM_mustBeZero_10 ⟨(Nat.le_of_ble_eq_true rfl), (Nat.le_of_ble_eq_true rfl)⟩) hP hD hS hA [0, 1, 2] [] rfl rfl (by decide) (by decide) [0, 1, 2] rfl (by decide) (fun H locs hP hD hS => ?_)
    refine lv_lconst (v := 0) hx hb ndM_mustBeZero_13 (by decide) ?_
    refine W.lcmp hx hb ndM_mustBeZero_14 ?_
    refine lv_if_ne (tgt := 22) hx hb ndM_mustBeZero_15 (by decide) (fun c_15 => ?_) (fun c_15 => ?_)
    · have n_15 := mt (lg_cmp_eq _ _).mpr c_15
      refine lv_iconst (v := 0) hx hb ndM_mustBeZero_22 (by decide) ?_
      exact fd_ret_i hx hb hr hlocks hS hP hD rfl (by rw [fd_mz, if_pos n_5, if_neg n_15]) ndM_mustBeZero_23
    · have n_15 := (lg_cmp_eq _ _).mp c_15
      refine lv_iconst (v := 1) hx hb ndM_mustBeZero_18 (by decide) ?_
      refine lv_goto (tgt := 23) hx hb ndM_mustBeZero_19 (by decide) ?_
      exact fd_ret_i hx hb hr hlocks hS hP hD rfl (by rw [fd_mz, if_pos n_5, if_pos n_15]) ndM_mustBeZero_23
set_option maxHeartbeats 4000000 in
set_option maxRecDepth 100000 in
theorem kM_suits (l : Launch) (D : va_G) (Z : Nat → Nat) (cI cL : ClassId) {h a b kd n : Nat} {fs : Nat → Int32} {fn : Nat → Int64} (hk : kd ≤ 15) (hn : n ≤ 20) (x : Int64) : fd_Mi l D fd_cl (fd_ty cI cL) (fd_EV Z) nyM_suits (.code nyM_suits ncM_suits 4 (some .boolean) :: fd_TB) nmM_suits [.ref h, .long x] [(h, .inr (1, [.ref a, .ref b, .int (nI kd), .int (nI n)])), (a, .inl (cI, 20, .inl fs)), (b, .inl (cL, 20, .inr (.inl fn)))] [(h, .inr (1, [.ref a, .ref b, .int (nI kd), .int (nI n)])), (a, .inl (cI, 20, .inl fs)), (b, .inl (cL, 20, .inr (.inl fn)))] (fd_suit kd n fn x) := by
  refine fd_open_i (cc := ncM_suits) (maxL := 4) (ret := (some .boolean)) (by decide) rfl (Nat.le_of_ble_eq_true rfl) ?_
  intro p e s m below meth c A ls X hP hD hS hl
  obtain ⟨hx, hb, hr, hml, hown, hts0, hlocks, hK, hEV, hA⟩ := X
  have hts : ∀ w ∈ fd_TB, w.before _ s = true := fun w h => hts0 w (List.mem_cons_of_mem _ h)
  have hE := fd_EV_ok Z
  have hown : s.vm.findClass "FieldDesk$Message" = some m.cls := hown
  have hl : lv_has ls 4 [(0, .ref h), (1, .long x)] := hl
  refine lv_aload_n hx hb ndM_suits_0 rfl (lv_at hl 0 rfl) ?_
  refine fd_go_i (wr := []) (w2 := [(h, .inr (1, [.ref a, .ref b, .int (nI kd), .int (nI n)])), (a, .inl (cI, 20, .inl fs)), (b, .inl (cL, 20, .inr (.inl fn)))]) (va_runV (As := []) (rest := []) ⟨hx, hb, hml, hown, hts⟩ (kM_dueSort l D Z cI cL (kd := kd) (n := n) (fs := fs) (fn := fn) (by omega) (by omega) s.heap.size) (cwV 0 hts (fd_gV tb_174 tb_130 tb_131 tb_15 tb_132) rfl rfl rfl nhM_dueSort ⟨(Nat.le_of_ble_eq_true rfl), (Nat.le_of_ble_eq_true rfl)⟩) (fd_PreV hE hK hEV hA hP hD hS [0, 1, 2] rfl (by decide) (ci := 1) (q0 := 0) rfl rfl) rfl rfl hl.1 rfl (lv_room (Nat.le_of_ble_eq_true rfl)) ndM_suits_1 ⟨(Nat.le_of_ble_eq_true rfl), (Nat.le_of_ble_eq_true rfl)⟩) hP hD hS hA [0, 1, 2] [] rfl rfl (by decide) (by decide) [0, 1, 2] rfl (by decide) (fun H locs hP hD hS => ?_)
  refine lv_istore_n (lv' := [(3, .int (fd_due kd n fn)), (0, .ref h), (1, .long x)]) hx hb ndM_suits_4 rfl hl (by decide) rfl (fun ls hl => ?_)
  refine lv_iload_n hx hb ndM_suits_5 rfl (lv_at hl 0 rfl) ?_
  refine lv_iconst (v := 1) hx hb ndM_suits_6 (by decide) ?_
  refine lv_icmp_lt (tgt := 31) hx hb ndM_suits_7 (by decide) (fun c_7 => ?_) (fun c_7 => ?_)
  · refine lv_iconst (v := 0) hx hb ndM_suits_31 (by decide) ?_
    exact fd_ret_i hx hb hr hlocks hS hP hD rfl (by rw [fd_suit, if_pos c_7]) ndM_suits_32
  · refine lv_iload_n hx hb ndM_suits_10 rfl (lv_at hl 0 rfl) ?_
    refine va_getsN hx hb hEV.2.2.2.2.1.1 hS hown (fd_nw hEV nb_8) (fun _ h9 => h9) ndM_suits_11 ?_
    refine va_tlen hx hb hEV.2.2.2.2.1.2 hS (v := nI 9) rfl ndM_suits_14 ?_
    refine lv_icmp_ge (tgt := 31) hx hb ndM_suits_15 (by decide) (fun c_15 => ?_) (fun c_15 => ?_)
    · refine lv_iconst (v := 0) hx hb ndM_suits_31 (by decide) ?_
      exact fd_ret_i hx hb hr hlocks hS hP hD rfl (by rw [fd_suit, if_neg c_7, if_pos c_15]) ndM_suits_32
    · refine lv_aload_n hx hb ndM_suits_18 rfl (lv_at hl 1 rfl) ?_
      refine fd_go_i (wr := []) (w2 := [(h, .inr (1, [.ref a, .ref b, .int (nI kd), .int (nI n)])), (a, .inl (cI, 20, .inl fs)), (b, .inl (cL, 20, .inr (.inl fn)))]) (va_runV (As := []) (rest := []) ⟨hx, hb, hml, hown, hts⟩ (kM_mustBeZero l D Z cI cL (kd := kd) (n := n) (fs := fs) (fn := fn) (by omega) (by omega) H.size) (cwV 0 hts (fd_gV tb_217 tb_167 tb_168 tb_15 tb_169) rfl rfl rfl nhM_mustBeZero ⟨(Nat.le_of_ble_eq_true rfl), (Nat.le_of_ble_eq_true rfl)⟩) (fd_PreV hE hK hEV hA hP hD hS [0, 1, 2] rfl (by decide) (ci := 1) (q0 := 0) rfl rfl) rfl rfl hl.1 rfl (lv_room (Nat.le_of_ble_eq_true rfl)) ndM_suits_19 ⟨(Nat.le_of_ble_eq_true rfl), (Nat.le_of_ble_eq_true rfl)⟩) hP hD hS hA [0, 1, 2] [] rfl rfl (by decide) (by decide) [0, 1, 2] rfl (by decide) (fun H locs hP hD hS => ?_)
      refine lv_if_eq (tgt := 33) hx hb ndM_suits_22 (by decide) (fun c_22 => ?_) (fun c_22 => ?_)
      · refine lv_lload_n hx hb ndM_suits_33 rfl (lv_at hl 2 rfl) ?_
        refine va_getsN hx hb (hEV.2.2.2.1 1 (by decide)).1 hS hown (fd_nw hEV nb_9) (fun _ h9 => h9) ndM_suits_34 ?_
        refine lv_iload_n hx hb ndM_suits_37 rfl (lv_at hl 0 rfl) ?_
        refine fd_go_i (wr := [(h, .inr (1, [.ref a, .ref b, .int (nI kd), .int (nI n)])), (a, .inl (cI, 20, .inl fs)), (b, .inl (cL, 20, .inr (.inl fn)))]) (w2 := [(h, .inr (1, [.ref a, .ref b, .int (nI kd), .int (nI n)])), (a, .inl (cI, 20, .inl fs)), (b, .inl (cL, 20, .inr (.inl fn)))]) (va_runSN (As := [.ref (Z 1), .int (fd_due kd n fn)]) (rest := [.long x]) ⟨hx, hb, hml, hown, hts⟩ (kF_entry l D Z cI cL (k := 1) (by decide) (fd_due kd n fn) H.size) ⟨va_cnB 2 hts (fd_gi tb_143) rfl rfl rfl (hEV.1 _ nb_5) (hts _ tb_13) nhF_entry.2 ⟨(Nat.le_of_ble_eq_true rfl), (Nat.le_of_ble_eq_true rfl)⟩, hts _ tb_142, trivial⟩ (fd_PreS hE hK hEV hA hP hD hS [] rfl (by decide)) rfl rfl hl.1 rfl (lv_room (Nat.le_of_ble_eq_true rfl)) ndM_suits_38 ⟨(Nat.le_of_ble_eq_true rfl), (Nat.le_of_ble_eq_true rfl)⟩) hP hD hS hA [] [0, 1, 2] rfl rfl (by decide) (by decide) [0, 1, 2] rfl (by decide) (fun H locs hP hD hS => ?_)
        refine lv_i2l hx hb ndM_suits_41 rfl ?_
        refine W.lcmp hx hb ndM_suits_42 ?_
        refine lv_if_lt (tgt := 60) hx hb ndM_suits_43 (by decide) (fun c_43 => ?_) (fun c_43 => ?_)
        · have n_43 := (lg_cmp_lt _ _).mp c_43
          refine lv_iconst (v := 0) hx hb ndM_suits_60 (by decide) ?_
          exact fd_ret_i hx hb hr hlocks hS hP hD rfl (by rw [fd_suit, if_neg c_7, if_neg c_15, if_pos c_22, fd_sub, if_pos n_43]) ndM_suits_61
        · have n_43 := mt (lg_cmp_lt _ _).mpr c_43
          refine lv_lload_n hx hb ndM_suits_46 rfl (lv_at hl 2 rfl) ?_
          refine va_getsN hx hb hEV.2.2.2.2.1.1 hS hown (fd_nw hEV nb_8) (fun _ h9 => h9) ndM_suits_47 ?_
          refine lv_iload_n hx hb ndM_suits_50 rfl (lv_at hl 0 rfl) ?_
          refine va_tl hx hb hEV.2.2.2.2.1.2 hS (fd_in9 c_7 c_15) (v := .long (fd_mn.getD (fd_due kd n fn).toNatClampNeg 0)) rfl ndM_suits_51 ?_
          refine W.lcmp hx hb ndM_suits_52 ?_
          refine lv_if_gt (tgt := 60) hx hb ndM_suits_53 (by decide) (fun c_53 => ?_) (fun c_53 => ?_)
          · have n_53 := (lg_cmp_gt _ _).mp c_53
            refine lv_iconst (v := 0) hx hb ndM_suits_60 (by decide) ?_
            exact fd_ret_i hx hb hr hlocks hS hP hD rfl (by rw [fd_suit, if_neg c_7, if_neg c_15, if_pos c_22, fd_sub, if_neg n_43, if_pos n_53]) ndM_suits_61
          · have n_53 := mt (lg_cmp_gt _ _).mpr c_53
            refine lv_iconst (v := 1) hx hb ndM_suits_56 (by decide) ?_
            refine lv_goto (tgt := 61) hx hb ndM_suits_57 (by decide) ?_
            exact fd_ret_i hx hb hr hlocks hS hP hD rfl (by rw [fd_suit, if_neg c_7, if_neg c_15, if_pos c_22, fd_sub, if_neg n_43, if_neg n_53]) ndM_suits_61
      · refine lv_lload_n hx hb ndM_suits_25 rfl (lv_at hl 2 rfl) ?_
        refine lv_lconst (v := 0) hx hb ndM_suits_26 (by decide) ?_
        refine W.lcmp hx hb ndM_suits_27 ?_
        refine lv_if_eq (tgt := 33) hx hb ndM_suits_28 (by decide) (fun c_28 => ?_) (fun c_28 => ?_)
        · have n_28 := (lg_cmp_eq _ _).mp c_28
          refine lv_lload_n hx hb ndM_suits_33 rfl (lv_at hl 2 rfl) ?_
          refine va_getsN hx hb (hEV.2.2.2.1 1 (by decide)).1 hS hown (fd_nw hEV nb_9) (fun _ h9 => h9) ndM_suits_34 ?_
          refine lv_iload_n hx hb ndM_suits_37 rfl (lv_at hl 0 rfl) ?_
          refine fd_go_i (wr := [(h, .inr (1, [.ref a, .ref b, .int (nI kd), .int (nI n)])), (a, .inl (cI, 20, .inl fs)), (b, .inl (cL, 20, .inr (.inl fn)))]) (w2 := [(h, .inr (1, [.ref a, .ref b, .int (nI kd), .int (nI n)])), (a, .inl (cI, 20, .inl fs)), (b, .inl (cL, 20, .inr (.inl fn)))]) (va_runSN (As := [.ref (Z 1), .int (fd_due kd n fn)]) (rest := [.long x]) ⟨hx, hb, hml, hown, hts⟩ (kF_entry l D Z cI cL (k := 1) (by decide) (fd_due kd n fn) H.size) ⟨va_cnB 2 hts (fd_gi tb_143) rfl rfl rfl (hEV.1 _ nb_5) (hts _ tb_13) nhF_entry.2 ⟨(Nat.le_of_ble_eq_true rfl), (Nat.le_of_ble_eq_true rfl)⟩, hts _ tb_142, trivial⟩ (fd_PreS hE hK hEV hA hP hD hS [] rfl (by decide)) rfl rfl hl.1 rfl (lv_room (Nat.le_of_ble_eq_true rfl)) ndM_suits_38 ⟨(Nat.le_of_ble_eq_true rfl), (Nat.le_of_ble_eq_true rfl)⟩) hP hD hS hA [] [0, 1, 2] rfl rfl (by decide) (by decide) [0, 1, 2] rfl (by decide) (fun H locs hP hD hS => ?_)
          refine lv_i2l hx hb ndM_suits_41 rfl ?_
          refine W.lcmp hx hb ndM_suits_42 ?_
          refine lv_if_lt (tgt := 60) hx hb ndM_suits_43 (by decide) (fun c_43 => ?_) (fun c_43 => ?_)
          · have n_43 := (lg_cmp_lt _ _).mp c_43
            refine lv_iconst (v := 0) hx hb ndM_suits_60 (by decide) ?_
            exact fd_ret_i hx hb hr hlocks hS hP hD rfl (by rw [fd_suit, if_neg c_7, if_neg c_15, if_neg c_22, if_pos n_28, fd_sub, if_pos n_43]) ndM_suits_61
          · have n_43 := mt (lg_cmp_lt _ _).mpr c_43
            refine lv_lload_n hx hb ndM_suits_46 rfl (lv_at hl 2 rfl) ?_
            refine va_getsN hx hb hEV.2.2.2.2.1.1 hS hown (fd_nw hEV nb_8) (fun _ h9 => h9) ndM_suits_47 ?_
            refine lv_iload_n hx hb ndM_suits_50 rfl (lv_at hl 0 rfl) ?_
            refine va_tl hx hb hEV.2.2.2.2.1.2 hS (fd_in9 c_7 c_15) (v := .long (fd_mn.getD (fd_due kd n fn).toNatClampNeg 0)) rfl ndM_suits_51 ?_
            refine W.lcmp hx hb ndM_suits_52 ?_
            refine lv_if_gt (tgt := 60) hx hb ndM_suits_53 (by decide) (fun c_53 => ?_) (fun c_53 => ?_)
            · have n_53 := (lg_cmp_gt _ _).mp c_53
              refine lv_iconst (v := 0) hx hb ndM_suits_60 (by decide) ?_
              exact fd_ret_i hx hb hr hlocks hS hP hD rfl (by rw [fd_suit, if_neg c_7, if_neg c_15, if_neg c_22, if_pos n_28, fd_sub, if_neg n_43, if_pos n_53]) ndM_suits_61
            · have n_53 := mt (lg_cmp_gt _ _).mpr c_53
              refine lv_iconst (v := 1) hx hb ndM_suits_56 (by decide) ?_
              refine lv_goto (tgt := 61) hx hb ndM_suits_57 (by decide) ?_
              exact fd_ret_i hx hb hr hlocks hS hP hD rfl (by rw [fd_suit, if_neg c_7, if_neg c_15, if_neg c_22, if_pos n_28, fd_sub, if_neg n_43, if_neg n_53]) ndM_suits_61
        · have n_28 := mt (lg_cmp_eq _ _).mpr c_28
          refine lv_iconst (v := 0) hx hb ndM_suits_31 (by decide) ?_
          exact fd_ret_i hx hb hr hlocks hS hP hD rfl (by rw [fd_suit, if_neg c_7, if_neg c_15, if_neg c_22, if_neg n_28]) ndM_suits_32
set_option maxHeartbeats 4000000 in
set_option maxRecDepth 100000 in
theorem kM_take (l : Launch) (D : va_G) (Z : Nat → Nat) (cI cL : ClassId) {h a b kd n : Nat} {fs : Nat → Int32} {fn : Nat → Int64} (hk : kd ≤ 15) (hn : n < 20) (x : Int64) : fd_Mv l D fd_cl (fd_ty cI cL) (fd_EV Z) nyM_take (.code nyM_take ncM_take 3 none :: fd_TB) nmM_take [.ref h, .long x] [(h, .inr (1, [.ref a, .ref b, .int (nI kd), .int (nI n)])), (a, .inl (cI, 20, .inl fs)), (b, .inl (cL, 20, .inr (.inl fn)))] [(h, .inr (1, [.ref a, .ref b, .int (nI kd), .int (nI (n + 1))])), (a, .inl (cI, 20, .inl (upd fs n (fd_due kd n fn)))), (b, .inl (cL, 20, .inr (.inl (vp_updL fn n x))))] := by
  refine fd_open_v (cc := ncM_take) (maxL := 3) (ret := none) (by decide) rfl (Nat.le_of_ble_eq_true rfl) ?_
  intro p e s m below meth c A ls X hP hD hS hl
  obtain ⟨hx, hb, hr, hml, hown, hts0, hlocks, hK, hEV, hA⟩ := X
  have hts : ∀ w ∈ fd_TB, w.before _ s = true := fun w h => hts0 w (List.mem_cons_of_mem _ h)
  have hE := fd_EV_ok Z
  have hown : s.vm.findClass "FieldDesk$Message" = some m.cls := hown
  have hl : lv_has ls 3 [(0, .ref h), (1, .long x)] := hl
  refine lv_aload_n hx hb ndM_take_0 rfl (lv_at hl 0 rfl) ?_
  refine va_get (D := D) (ci := 1) (v := .int (nI n)) (C := nR_M) (T := nT_M) (N := 4) hx hb hts in_M hown hK hP 0 rfl rfl 3 (by decide) (hts _ tb_47) (fun _ h9 => h9) rfl ndM_take_1 ?_
  refine lv_if_lt (tgt := 64) hx hb ndM_take_4 (by decide) (fun c_4 => absurd c_4 (fun h9 => absurd ((nI_ltI (a := n) (b := 0) (by omega) (by omega)).mp h9) (by omega))) (fun _ => ?_)
  refine lv_aload_n hx hb ndM_take_7 rfl (lv_at hl 0 rfl) ?_
  refine va_get (D := D) (ci := 1) (v := .int (nI n)) (C := nR_M) (T := nT_M) (N := 4) hx hb hts in_M hown hK hP 0 rfl rfl 3 (by decide) (hts _ tb_47) (fun _ h9 => h9) rfl ndM_take_8 ?_
  refine lv_aload_n hx hb ndM_take_11 rfl (lv_at hl 0 rfl) ?_
  refine va_get (D := D) (ci := 1) (v := .ref a) (C := nR_M) (T := nT_M) (N := 4) hx hb hts in_M hown hK hP 0 rfl rfl 0 (by decide) (hts _ tb_44) (fun _ h9 => h9) rfl ndM_take_12 ?_
  refine va_alen hx hb hK hP 1 0 rfl rfl (v := nI 20) rfl ndM_take_15 ?_
  refine lv_icmp_ge (tgt := 64) hx hb ndM_take_16 (by decide) (fun c_16 => absurd c_16 (fun h9 => absurd ((nI_leI (a := 20) (b := n) (by omega) (by omega)).mp h9) (by omega))) (fun _ => ?_)
  refine lv_aload_n hx hb ndM_take_19 rfl (lv_at hl 0 rfl) ?_
  refine va_get (D := D) (ci := 1) (v := .int (nI n)) (C := nR_M) (T := nT_M) (N := 4) hx hb hts in_M hown hK hP 0 rfl rfl 3 (by decide) (hts _ tb_47) (fun _ h9 => h9) rfl ndM_take_20 ?_
  refine lv_aload_n hx hb ndM_take_23 rfl (lv_at hl 0 rfl) ?_
  refine va_get (D := D) (ci := 1) (v := .ref b) (C := nR_M) (T := nT_M) (N := 4) hx hb hts in_M hown hK hP 0 rfl rfl 1 (by decide) (hts _ tb_45) (fun _ h9 => h9) rfl ndM_take_24 ?_
  refine va_alen hx hb hK hP 2 1 rfl rfl (v := nI 20) rfl ndM_take_27 ?_
  refine lv_icmp_ge (tgt := 64) hx hb ndM_take_28 (by decide) (fun c_28 => absurd c_28 (fun h9 => absurd ((nI_leI (a := 20) (b := n) (by omega) (by omega)).mp h9) (by omega))) (fun _ => ?_)
  refine lv_aload_n hx hb ndM_take_31 rfl (lv_at hl 0 rfl) ?_
  refine va_get (D := D) (ci := 1) (v := .ref a) (C := nR_M) (T := nT_M) (N := 4) hx hb hts in_M hown hK hP 0 rfl rfl 0 (by decide) (hts _ tb_44) (fun _ h9 => h9) rfl ndM_take_32 ?_
  refine lv_aload_n hx hb ndM_take_35 rfl (lv_at hl 0 rfl) ?_
  refine va_get (D := D) (ci := 1) (v := .int (nI n)) (C := nR_M) (T := nT_M) (N := 4) hx hb hts in_M hown hK hP 0 rfl rfl 3 (by decide) (hts _ tb_47) (fun _ h9 => h9) rfl ndM_take_36 ?_
  refine lv_aload_n hx hb ndM_take_39 rfl (lv_at hl 0 rfl) ?_
  refine fd_go_i (wr := []) (w2 := [(h, .inr (1, [.ref a, .ref b, .int (nI kd), .int (nI n)])), (a, .inl (cI, 20, .inl fs)), (b, .inl (cL, 20, .inr (.inl fn)))]) (va_runV (As := []) (rest := [.int (nI n), .ref a]) ⟨hx, hb, hml, hown, hts⟩ (kM_dueSort l D Z cI cL (kd := kd) (n := n) (fs := fs) (fn := fn) (by omega) (by omega) s.heap.size) (cwV 0 hts (fd_gV tb_174 tb_130 tb_131 tb_15 tb_132) rfl rfl rfl nhM_dueSort ⟨(Nat.le_of_ble_eq_true rfl), (Nat.le_of_ble_eq_true rfl)⟩) (fd_PreV hE hK hEV hA hP hD hS [0, 1, 2] rfl (by decide) (ci := 1) (q0 := 0) rfl rfl) rfl rfl hl.1 rfl (lv_room (Nat.le_of_ble_eq_true rfl)) ndM_take_40 ⟨(Nat.le_of_ble_eq_true rfl), (Nat.le_of_ble_eq_true rfl)⟩) hP hD hS hA [0, 1, 2] [] rfl rfl (by decide) (by decide) [0, 1, 2] rfl (by decide) (fun H locs hP hD hS => ?_)
  refine fd_iast hx hb hK hP hD hS 1 0 (k := n) rfl rfl hn (by omega) ndM_take_43 (fun H locs hP hD hS => ?_)
  have hP : va_P D fd_cl [(h, .inr (1, [.ref a, .ref b, .int (nI kd), .int (nI n)])), (a, .inl (cI, 20, .inl (upd fs n (fd_due kd n fn)))), (b, .inl (cL, 20, .inr (.inl fn)))] H := hP
  have hD : va_D A [(h, .inr (1, [.ref a, .ref b, .int (nI kd), .int (nI n)])), (a, .inl (cI, 20, .inl (upd fs n (fd_due kd n fn)))), (b, .inl (cL, 20, .inr (.inl fn)))] := hD
  refine lv_aload_n hx hb ndM_take_44 rfl (lv_at hl 0 rfl) ?_
  refine va_get (D := D) (ci := 1) (v := .ref b) (C := nR_M) (T := nT_M) (N := 4) hx hb hts in_M hown hK hP 0 rfl rfl 1 (by decide) (hts _ tb_45) (fun _ h9 => h9) rfl ndM_take_45 ?_
  refine lv_aload_n hx hb ndM_take_48 rfl (lv_at hl 0 rfl) ?_
  refine va_get (D := D) (ci := 1) (v := .int (nI n)) (C := nR_M) (T := nT_M) (N := 4) hx hb hts in_M hown hK hP 0 rfl rfl 3 (by decide) (hts _ tb_47) (fun _ h9 => h9) rfl ndM_take_49 ?_
  refine lv_lload_n hx hb ndM_take_52 rfl (lv_at hl 1 rfl) ?_
  refine fd_last hx hb hK hP hD hS 2 1 (k := n) rfl rfl hn (by omega) ndM_take_53 (fun H locs hP hD hS => ?_)
  have hP : va_P D fd_cl [(h, .inr (1, [.ref a, .ref b, .int (nI kd), .int (nI n)])), (a, .inl (cI, 20, .inl (upd fs n (fd_due kd n fn)))), (b, .inl (cL, 20, .inr (.inl (vp_updL fn n x))))] H := hP
  have hD : va_D A [(h, .inr (1, [.ref a, .ref b, .int (nI kd), .int (nI n)])), (a, .inl (cI, 20, .inl (upd fs n (fd_due kd n fn)))), (b, .inl (cL, 20, .inr (.inl (vp_updL fn n x))))] := hD
  refine lv_aload_n hx hb ndM_take_54 rfl (lv_at hl 0 rfl) ?_
  refine lv_dup hx hb ndM_take_55 rfl ?_
  refine va_get (D := D) (ci := 1) (v := .int (nI n)) (C := nR_M) (T := nT_M) (N := 4) hx hb hts in_M hown hK hP 0 rfl rfl 3 (by decide) (hts _ tb_47) (fun _ h9 => h9) rfl ndM_take_56 ?_
  refine lv_iconst (v := 1) hx hb ndM_take_59 (by decide) ?_
  refine lv_iadd hx hb ndM_take_60 ?_
  refine fd_asi (y := nI (n + 1)) (nI_1 n) ?_
  refine va_put (D := D) (ci := 1) (v := .int (nI (n + 1))) (ty := (.int)) (C := nR_M) (T := nT_M) (N := 4) hx hb hts in_M nt_M nt_M_ok nn_M hown hK hP hD hS 0 rfl rfl 3 (by decide) (hts _ tb_47) (fun _ h9 => h9) rfl (by decide +kernel) rfl rfl (Nat.le_of_ble_eq_true rfl) ndM_take_61 (fun H locs hP hD hS => ?_)
  have hP : va_P D fd_cl [(h, .inr (1, [.ref a, .ref b, .int (nI kd), .int (nI (n + 1))])), (a, .inl (cI, 20, .inl (upd fs n (fd_due kd n fn)))), (b, .inl (cL, 20, .inr (.inl (vp_updL fn n x))))] H := hP
  have hD : va_D A [(h, .inr (1, [.ref a, .ref b, .int (nI kd), .int (nI (n + 1))])), (a, .inl (cI, 20, .inl (upd fs n (fd_due kd n fn)))), (b, .inl (cL, 20, .inr (.inl (vp_updL fn n x))))] := hD
  exact fd_ret_v hx hb hr hlocks hS hP hD ndM_take_64
