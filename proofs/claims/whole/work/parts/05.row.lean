/-! the row of bytes, and the small static functions -/
theorem fd_ix {x : Int32} {n : Nat} (h0 : ¬ x < 0) (h1 : ¬ nI n ≤ x) (hn : n < 2 ^ 31) : ∃ k : Nat, k < n ∧ x = nI k := by
  obtain ⟨j, hj, e, -⟩ := pk_mu h0 h1 hn
  exact ⟨j, hj, e⟩
def fd_at (n : Nat) (f : Nat → Int32) (i : Int32) : Int32 := if i < 0 then -1 else if nI n ≤ i then -1 else f i.toNatClampNeg
theorem fd_at_lt {n k : Nat} {f : Nat → Int32} (h : k < n) (hn : n < 2 ^ 31) : fd_at n f (nI k) = f k := by
  rw [fd_at, if_neg (nI_pos (by omega)), if_neg (nI_ge h hn), nI_clamp (by omega)]
theorem fd_at_ge {n k : Nat} {f : Nat → Int32} (h : n ≤ k) (hk : k < 2 ^ 31) : fd_at n f (nI k) = -1 := by
  rw [fd_at, if_neg (nI_pos hk), if_pos (nI_le h hk)]
def fd_dig (c : Int32) : Int32 := if c < 48 then 0 else if 57 < c then 0 else 1
def fd_val (c : Int32) : Int32 := if fd_dig c = 0 then (if c < 65 then -1 else if 90 < c then -1 else c - 65 + 10) else c - 48
def fd_vcl (c : Int32) : Int32 := if c = 67 then 0 else if c = 83 then 1 else -1
def fd_b36 (s : Int32) : Int32 := if s < 1 then 0 else if 3 < s then 0 else 1
def fd_ent (k : Nat) (i : Int32) : Int32 := if i < 0 then 0 else if nI (fd_tab k).length ≤ i then 0 else (fd_tab k).getD i.toNatClampNeg 0
def fd_vis (s c : Int32) : Int32 := if (if s = 5 then fd_vcl c else fd_val c) < fd_ent 1 s then -1 else if fd_ent 2 s < (if s = 5 then fd_vcl c else fd_val c) then -1 else (if s = 5 then fd_vcl c else fd_val c)
def fd_sis (s v : Int32) : Int32 := if s = 5 then (if v = 0 then 67 else 83) else (if 10 ≤ v then 65 + v - 10 else 48 + v)
def fd_rst (r v : Int32) : Int32 := (r * (if 10 ≤ v then 100 else 10) + v) - (r * (if 10 ≤ v then 100 else 10) + v) / 97 * 97
def fd_rem (f : Nat → Int32) : Nat → Int32
  | 0 => 0
  | i + 1 => fd_rst (fd_rem f i) (fd_val (f i))
theorem fd_tab_len (k : Nat) : (fd_tab k).length < 2 ^ 31 := by
  unfold fd_tab; split <;> decide
set_option maxHeartbeats 4000000 in
set_option maxRecDepth 100000 in
/-- is there room for k more? -/
theorem kR_hasRoomFor (l : Launch) (D : va_G) (Z : Nat → Nat) (cI cL : ClassId) {h b n cap : Nat} {f : Nat → Int32} (hn : n ≤ cap) (hc : cap < 2 ^ 31) (k : Int32) : fd_Mi l D fd_cl (fd_ty cI cL) (fd_EV Z) nyR_hasRoomFor (.code nyR_hasRoomFor ncR_hasRoomFor 2 (some .boolean) :: fd_TB) nmR_hasRoomFor [.ref h, .int k] [(h, .inr (0, [.ref b, .int (nI n)])), (b, .inl (cI, cap, .inl f))] [(h, .inr (0, [.ref b, .int (nI n)])), (b, .inl (cI, cap, .inl f))] (if nI (cap - n) < k then 0 else 1) := by
  refine fd_open_i (cc := ncR_hasRoomFor) (maxL := 2) (ret := (some .boolean)) (by decide) rfl (Nat.le_of_ble_eq_true rfl) ?_
  intro p e s m below meth c A ls X hP hD hS hl
  obtain ⟨hx, hb, hr, hml, hown, hts0, hlocks, hK, hEV, hA⟩ := X
  have hts : ∀ w ∈ fd_TB, w.before _ s = true := fun w h => hts0 w (List.mem_cons_of_mem _ h)
  have hE := fd_EV_ok Z
  have hown : s.vm.findClass "FieldDesk$Row" = some m.cls := hown
  have hl : lv_has ls 2 [(0, .ref h), (1, .int k)] := hl
  refine lv_iload_n hx hb ndR_hasRoomFor_0 rfl (lv_at hl 1 rfl) ?_
  refine lv_aload_n hx hb ndR_hasRoomFor_1 rfl (lv_at hl 0 rfl) ?_
  refine va_get (D := D) (ci := 0) (v := .ref b) (C := nR_R) (T := nT_R) (N := 2) hx hb hts in_R hown hK hP 0 rfl rfl 0 (by decide) (hts _ tb_34) (fun _ h9 => h9) rfl ndR_hasRoomFor_2 ?_
  refine va_alen hx hb hK hP 1 0 rfl rfl (v := nI cap) rfl ndR_hasRoomFor_5 ?_
  refine lv_aload_n hx hb ndR_hasRoomFor_6 rfl (lv_at hl 0 rfl) ?_
  refine va_get (D := D) (ci := 0) (v := .int (nI n)) (C := nR_R) (T := nT_R) (N := 2) hx hb hts in_R hown hK hP 0 rfl rfl 1 (by decide) (hts _ tb_35) (fun _ h9 => h9) rfl ndR_hasRoomFor_7 ?_
  refine lv_isub hx hb ndR_hasRoomFor_10 ?_
  refine fd_asi (y := nI (cap - n)) (pk_sub hn) ?_
  refine lv_icmp_gt (tgt := 18) hx hb ndR_hasRoomFor_11 (by decide) (fun c_11 => ?_) (fun c_11 => ?_)
  · refine lv_iconst (v := 0) hx hb ndR_hasRoomFor_18 (by decide) ?_
    exact fd_ret_i hx hb hr hlocks hS hP hD rfl (by rw [if_pos c_11]) ndR_hasRoomFor_19
  · refine lv_iconst (v := 1) hx hb ndR_hasRoomFor_14 (by decide) ?_
    refine lv_goto (tgt := 19) hx hb ndR_hasRoomFor_15 (by decide) ?_
    exact fd_ret_i hx hb hr hlocks hS hP hD rfl (by rw [if_neg c_11]) ndR_hasRoomFor_19
set_option maxHeartbeats 4000000 in
set_option maxRecDepth 100000 in
theorem kR_clear (l : Launch) (D : va_G) (Z : Nat → Nat) (cI cL : ClassId) {h b n cap : Nat} {f : Nat → Int32} : fd_Mv l D fd_cl (fd_ty cI cL) (fd_EV Z) nyR_clear (.code nyR_clear ncR_clear 1 none :: fd_TB) nmR_clear [.ref h] [(h, .inr (0, [.ref b, .int (nI n)])), (b, .inl (cI, cap, .inl f))] [(h, .inr (0, [.ref b, .int (nI 0)])), (b, .inl (cI, cap, .inl f))] := by
  refine fd_open_v (cc := ncR_clear) (maxL := 1) (ret := none) (by decide) rfl (Nat.le_of_ble_eq_true rfl) ?_
  intro p e s m below meth c A ls X hP hD hS hl
  obtain ⟨hx, hb, hr, hml, hown, hts0, hlocks, hK, hEV, hA⟩ := X
  have hts : ∀ w ∈ fd_TB, w.before _ s = true := fun w h => hts0 w (List.mem_cons_of_mem _ h)
  have hE := fd_EV_ok Z
  have hown : s.vm.findClass "FieldDesk$Row" = some m.cls := hown
  have hl : lv_has ls 1 [(0, .ref h)] := hl
  refine lv_aload_n hx hb ndR_clear_0 rfl (lv_at hl 0 rfl) ?_
  refine lv_iconst (v := 0) hx hb ndR_clear_1 (by decide) ?_
  refine fd_asi (y := nI 0) nI_0.symm ?_
  refine va_put (D := D) (ci := 0) (v := .int (nI 0)) (ty := (.int)) (C := nR_R) (T := nT_R) (N := 2) hx hb hts in_R nt_R nt_R_ok nn_R hown hK hP hD hS 0 rfl rfl 1 (by decide) (hts _ tb_35) (fun _ h9 => h9) rfl (by decide +kernel) rfl rfl (Nat.le_of_ble_eq_true rfl) ndR_clear_2 (fun H locs hP hD hS => ?_)
  have hP : va_P D fd_cl [(h, .inr (0, [.ref b, .int (nI 0)])), (b, .inl (cI, cap, .inl f))] H := hP
  have hD : va_D A [(h, .inr (0, [.ref b, .int (nI 0)])), (b, .inl (cI, cap, .inl f))] := hD
  exact fd_ret_v hx hb hr hlocks hS hP hD ndR_clear_5
set_option maxHeartbeats 4000000 in
set_option maxRecDepth 100000 in
theorem kR_append (l : Launch) (D : va_G) (Z : Nat → Nat) (cI cL : ClassId) {h b n cap : Nat} {f : Nat → Int32} (hn : n < cap) (hc : cap < 2 ^ 31) (v : Int32) : fd_Mv l D fd_cl (fd_ty cI cL) (fd_EV Z) nyR_append (.code nyR_append ncR_append 2 none :: fd_TB) nmR_append [.ref h, .int v] [(h, .inr (0, [.ref b, .int (nI n)])), (b, .inl (cI, cap, .inl f))] [(h, .inr (0, [.ref b, .int (nI (n + 1))])), (b, .inl (cI, cap, .inl (upd f n v)))] := by
  refine fd_open_v (cc := ncR_append) (maxL := 2) (ret := none) (by decide) rfl (Nat.le_of_ble_eq_true rfl) ?_
  intro p e s m below meth c A ls X hP hD hS hl
  obtain ⟨hx, hb, hr, hml, hown, hts0, hlocks, hK, hEV, hA⟩ := X
  have hts : ∀ w ∈ fd_TB, w.before _ s = true := fun w h => hts0 w (List.mem_cons_of_mem _ h)
  have hE := fd_EV_ok Z
  have hown : s.vm.findClass "FieldDesk$Row" = some m.cls := hown
  have hl : lv_has ls 2 [(0, .ref h), (1, .int v)] := hl
  refine lv_aload_n hx hb ndR_append_0 rfl (lv_at hl 0 rfl) ?_
  refine va_get (D := D) (ci := 0) (v := .int (nI n)) (C := nR_R) (T := nT_R) (N := 2) hx hb hts in_R hown hK hP 0 rfl rfl 1 (by decide) (hts _ tb_35) (fun _ h9 => h9) rfl ndR_append_1 ?_
  refine lv_if_lt (tgt := 39) hx hb ndR_append_4 (by decide) (fun c_4 => absurd c_4 (fun h9 => absurd ((nI_ltI (a := n) (b := 0) (by omega) (by omega)).mp h9) (by omega))) (fun _ => ?_)
  refine lv_aload_n hx hb ndR_append_7 rfl (lv_at hl 0 rfl) ?_
  refine va_get (D := D) (ci := 0) (v := .int (nI n)) (C := nR_R) (T := nT_R) (N := 2) hx hb hts in_R hown hK hP 0 rfl rfl 1 (by decide) (hts _ tb_35) (fun _ h9 => h9) rfl ndR_append_8 ?_
  refine lv_aload_n hx hb ndR_append_11 rfl (lv_at hl 0 rfl) ?_
  refine va_get (D := D) (ci := 0) (v := .ref b) (C := nR_R) (T := nT_R) (N := 2) hx hb hts in_R hown hK hP 0 rfl rfl 0 (by decide) (hts _ tb_34) (fun _ h9 => h9) rfl ndR_append_12 ?_
  refine va_alen hx hb hK hP 1 0 rfl rfl (v := nI cap) rfl ndR_append_15 ?_
  refine lv_icmp_ge (tgt := 39) hx hb ndR_append_16 (by decide) (fun c_16 => absurd c_16 (fun h9 => absurd ((nI_leI (a := cap) (b := n) (by omega) (by omega)).mp h9) (by omega))) (fun _ => ?_)
  refine lv_aload_n hx hb ndR_append_19 rfl (lv_at hl 0 rfl) ?_
  refine va_get (D := D) (ci := 0) (v := .ref b) (C := nR_R) (T := nT_R) (N := 2) hx hb hts in_R hown hK hP 0 rfl rfl 0 (by decide) (hts _ tb_34) (fun _ h9 => h9) rfl ndR_append_20 ?_
  refine lv_aload_n hx hb ndR_append_23 rfl (lv_at hl 0 rfl) ?_
  refine va_get (D := D) (ci := 0) (v := .int (nI n)) (C := nR_R) (T := nT_R) (N := 2) hx hb hts in_R hown hK hP 0 rfl rfl 1 (by decide) (hts _ tb_35) (fun _ h9 => h9) rfl ndR_append_24 ?_
  refine lv_iload_n hx hb ndR_append_27 rfl (lv_at hl 1 rfl) ?_
  refine fd_iast hx hb hK hP hD hS 1 0 (k := n) rfl rfl hn (by omega) ndR_append_28 (fun H locs hP hD hS => ?_)
  have hP : va_P D fd_cl [(h, .inr (0, [.ref b, .int (nI n)])), (b, .inl (cI, cap, .inl (upd f n v)))] H := hP
  have hD : va_D A [(h, .inr (0, [.ref b, .int (nI n)])), (b, .inl (cI, cap, .inl (upd f n v)))] := hD
  refine lv_aload_n hx hb ndR_append_29 rfl (lv_at hl 0 rfl) ?_
  refine lv_dup hx hb ndR_append_30 rfl ?_
  refine va_get (D := D) (ci := 0) (v := .int (nI n)) (C := nR_R) (T := nT_R) (N := 2) hx hb hts in_R hown hK hP 0 rfl rfl 1 (by decide) (hts _ tb_35) (fun _ h9 => h9) rfl ndR_append_31 ?_
  refine lv_iconst (v := 1) hx hb ndR_append_34 (by decide) ?_
  refine lv_iadd hx hb ndR_append_35 ?_
  refine fd_asi (y := nI (n + 1)) (nI_1 n) ?_
  refine va_put (D := D) (ci := 0) (v := .int (nI (n + 1))) (ty := (.int)) (C := nR_R) (T := nT_R) (N := 2) hx hb hts in_R nt_R nt_R_ok nn_R hown hK hP hD hS 0 rfl rfl 1 (by decide) (hts _ tb_35) (fun _ h9 => h9) rfl (by decide +kernel) rfl rfl (Nat.le_of_ble_eq_true rfl) ndR_append_36 (fun H locs hP hD hS => ?_)
  have hP : va_P D fd_cl [(h, .inr (0, [.ref b, .int (nI (n + 1))])), (b, .inl (cI, cap, .inl (upd f n v)))] H := hP
  have hD : va_D A [(h, .inr (0, [.ref b, .int (nI (n + 1))])), (b, .inl (cI, cap, .inl (upd f n v)))] := hD
  exact fd_ret_v hx hb hr hlocks hS hP hD ndR_append_39
set_option maxHeartbeats 4000000 in
set_option maxRecDepth 100000 in
theorem kR_put (l : Launch) (D : va_G) (Z : Nat → Nat) (cI cL : ClassId) {h b n cap : Nat} {f : Nat → Int32} {k : Nat} (hk : k < n) (hn : n ≤ cap) (hc : cap < 2 ^ 31) (v : Int32) : fd_Mv l D fd_cl (fd_ty cI cL) (fd_EV Z) nyR_put (.code nyR_put ncR_put 3 none :: fd_TB) nmR_put [.ref h, .int (nI k), .int v] [(h, .inr (0, [.ref b, .int (nI n)])), (b, .inl (cI, cap, .inl f))] [(h, .inr (0, [.ref b, .int (nI n)])), (b, .inl (cI, cap, .inl (upd f k v)))] := by
  refine fd_open_v (cc := ncR_put) (maxL := 3) (ret := none) (by decide) rfl (Nat.le_of_ble_eq_true rfl) ?_
  intro p e s m below meth c A ls X hP hD hS hl
  obtain ⟨hx, hb, hr, hml, hown, hts0, hlocks, hK, hEV, hA⟩ := X
  have hts : ∀ w ∈ fd_TB, w.before _ s = true := fun w h => hts0 w (List.mem_cons_of_mem _ h)
  have hE := fd_EV_ok Z
  have hown : s.vm.findClass "FieldDesk$Row" = some m.cls := hown
  have hl : lv_has ls 3 [(0, .ref h), (1, .int (nI k)), (2, .int v)] := hl
  refine lv_iload_n hx hb ndR_put_0 rfl (lv_at hl 1 rfl) ?_
  refine lv_if_lt (tgt := 28) hx hb ndR_put_1 (by decide) (fun c_1 => absurd c_1 (fun h9 => absurd ((nI_ltI (a := k) (b := 0) (by omega) (by omega)).mp h9) (by omega))) (fun _ => ?_)
  refine lv_iload_n hx hb ndR_put_4 rfl (lv_at hl 1 rfl) ?_
  refine lv_aload_n hx hb ndR_put_5 rfl (lv_at hl 0 rfl) ?_
  refine va_get (D := D) (ci := 0) (v := .int (nI n)) (C := nR_R) (T := nT_R) (N := 2) hx hb hts in_R hown hK hP 0 rfl rfl 1 (by decide) (hts _ tb_35) (fun _ h9 => h9) rfl ndR_put_6 ?_
  refine lv_icmp_ge (tgt := 28) hx hb ndR_put_9 (by decide) (fun c_9 => absurd c_9 (fun h9 => absurd ((nI_leI (a := n) (b := k) (by omega) (by omega)).mp h9) (by omega))) (fun _ => ?_)
  refine lv_iload_n hx hb ndR_put_12 rfl (lv_at hl 1 rfl) ?_
  refine lv_aload_n hx hb ndR_put_13 rfl (lv_at hl 0 rfl) ?_
  refine va_get (D := D) (ci := 0) (v := .ref b) (C := nR_R) (T := nT_R) (N := 2) hx hb hts in_R hown hK hP 0 rfl rfl 0 (by decide) (hts _ tb_34) (fun _ h9 => h9) rfl ndR_put_14 ?_
  refine va_alen hx hb hK hP 1 0 rfl rfl (v := nI cap) rfl ndR_put_17 ?_
  refine lv_icmp_ge (tgt := 28) hx hb ndR_put_18 (by decide) (fun c_18 => absurd c_18 (fun h9 => absurd ((nI_leI (a := cap) (b := k) (by omega) (by omega)).mp h9) (by omega))) (fun _ => ?_)
  refine lv_aload_n hx hb ndR_put_21 rfl (lv_at hl 0 rfl) ?_
  refine va_get (D := D) (ci := 0) (v := .ref b) (C := nR_R) (T := nT_R) (N := 2) hx hb hts in_R hown hK hP 0 rfl rfl 0 (by decide) (hts _ tb_34) (fun _ h9 => h9) rfl ndR_put_22 ?_
  refine lv_iload_n hx hb ndR_put_25 rfl (lv_at hl 1 rfl) ?_
  refine lv_iload_n hx hb ndR_put_26 rfl (lv_at hl 2 rfl) ?_
  refine fd_iast hx hb hK hP hD hS 1 0 (k := k) rfl rfl (by omega) (by omega) ndR_put_27 (fun H locs hP hD hS => ?_)
  have hP : va_P D fd_cl [(h, .inr (0, [.ref b, .int (nI n)])), (b, .inl (cI, cap, .inl (upd f k v)))] H := hP
  have hD : va_D A [(h, .inr (0, [.ref b, .int (nI n)])), (b, .inl (cI, cap, .inl (upd f k v)))] := hD
  exact fd_ret_v hx hb hr hlocks hS hP hD ndR_put_28
set_option maxHeartbeats 4000000 in
set_option maxRecDepth 100000 in
theorem kR_at (l : Launch) (D : va_G) (Z : Nat → Nat) (cI cL : ClassId) {h b n cap : Nat} {f : Nat → Int32} (hn : n ≤ cap) (hc : cap < 2 ^ 31) (i : Int32) : fd_Mi l D fd_cl (fd_ty cI cL) (fd_EV Z) nyR_at (.code nyR_at ncR_at 2 (some .int) :: fd_TB) nmR_at [.ref h, .int i] [(h, .inr (0, [.ref b, .int (nI n)])), (b, .inl (cI, cap, .inl f))] [(h, .inr (0, [.ref b, .int (nI n)])), (b, .inl (cI, cap, .inl f))] (fd_at n f i) := by
  refine fd_open_i (cc := ncR_at) (maxL := 2) (ret := (some .int)) (by decide) rfl (Nat.le_of_ble_eq_true rfl) ?_
  intro p e s m below meth c A ls X hP hD hS hl
  obtain ⟨hx, hb, hr, hml, hown, hts0, hlocks, hK, hEV, hA⟩ := X
  have hts : ∀ w ∈ fd_TB, w.before _ s = true := fun w h => hts0 w (List.mem_cons_of_mem _ h)
  have hE := fd_EV_ok Z
  have hown : s.vm.findClass "FieldDesk$Row" = some m.cls := hown
  have hl : lv_has ls 2 [(0, .ref h), (1, .int i)] := hl
  refine lv_iload_n hx hb ndR_at_0 rfl (lv_at hl 1 rfl) ?_
  refine lv_if_lt (tgt := 30) hx hb ndR_at_1 (by decide) (fun c_1 => ?_) (fun c_1 => ?_)
  · refine lv_iconst (v := (-1)) hx hb ndR_at_30 (by decide) ?_
    exact fd_ret_i hx hb hr hlocks hS hP hD rfl (by rw [fd_at, if_pos c_1]) ndR_at_31
  · refine lv_iload_n hx hb ndR_at_4 rfl (lv_at hl 1 rfl) ?_
    refine lv_aload_n hx hb ndR_at_5 rfl (lv_at hl 0 rfl) ?_
    refine va_get (D := D) (ci := 0) (v := .int (nI n)) (C := nR_R) (T := nT_R) (N := 2) hx hb hts in_R hown hK hP 0 rfl rfl 1 (by decide) (hts _ tb_35) (fun _ h9 => h9) rfl ndR_at_6 ?_
    refine lv_icmp_ge (tgt := 30) hx hb ndR_at_9 (by decide) (fun c_9 => ?_) (fun c_9 => ?_)
    · refine lv_iconst (v := (-1)) hx hb ndR_at_30 (by decide) ?_
      exact fd_ret_i hx hb hr hlocks hS hP hD rfl (by rw [fd_at, if_neg c_1, if_pos c_9]) ndR_at_31
    · obtain ⟨k, hk, rfl⟩ := fd_ix c_1 c_9 (by omega)
      refine lv_iload_n hx hb ndR_at_12 rfl (lv_at hl 1 rfl) ?_
      refine lv_aload_n hx hb ndR_at_13 rfl (lv_at hl 0 rfl) ?_
      refine va_get (D := D) (ci := 0) (v := .ref b) (C := nR_R) (T := nT_R) (N := 2) hx hb hts in_R hown hK hP 0 rfl rfl 0 (by decide) (hts _ tb_34) (fun _ h9 => h9) rfl ndR_at_14 ?_
      refine va_alen hx hb hK hP 1 0 rfl rfl (v := nI cap) rfl ndR_at_17 ?_
      refine lv_icmp_ge (tgt := 30) hx hb ndR_at_18 (by decide) (fun c_18 => absurd c_18 (fun h9 => absurd ((nI_leI (a := cap) (b := k) (by omega) (by omega)).mp h9) (by omega))) (fun _ => ?_)
      refine lv_aload_n hx hb ndR_at_21 rfl (lv_at hl 0 rfl) ?_
      refine va_get (D := D) (ci := 0) (v := .ref b) (C := nR_R) (T := nT_R) (N := 2) hx hb hts in_R hown hK hP 0 rfl rfl 0 (by decide) (hts _ tb_34) (fun _ h9 => h9) rfl ndR_at_22 ?_
      refine lv_iload_n hx hb ndR_at_25 rfl (lv_at hl 1 rfl) ?_
      refine fd_iald hx hb hK hP 1 0 (k := k) rfl rfl (by omega) (by omega) ndR_at_26 ?_
      refine lv_goto (tgt := 31) hx hb ndR_at_27 (by decide) ?_
      exact fd_ret_i hx hb hr hlocks hS hP hD rfl (by rw [fd_at, if_neg c_1, if_neg c_9, nI_clamp (by omega)]) ndR_at_31
set_option maxHeartbeats 4000000 in
set_option maxRecDepth 100000 in
theorem kF_isDigit (l : Launch) (D : va_G) (Z : Nat → Nat) (cI cL : ClassId) (x : Int32) : fd_Mi l D fd_cl (fd_ty cI cL) (fd_EV Z) nyF_isDigit (.code nyF_isDigit ncF_isDigit 1 (some .boolean) :: fd_TB) nmF_isDigit [.int x] [] [] (fd_dig x) := by
  refine fd_open_i (cc := ncF_isDigit) (maxL := 1) (ret := (some .boolean)) (by decide) rfl (Nat.le_of_ble_eq_true rfl) ?_
  intro p e s m below meth c A ls X hP hD hS hl
  obtain ⟨hx, hb, hr, hml, hown, hts0, hlocks, hK, hEV, hA⟩ := X
  have hts : ∀ w ∈ fd_TB, w.before _ s = true := fun w h => hts0 w (List.mem_cons_of_mem _ h)
  have hE := fd_EV_ok Z
  have hown : s.vm.findClass "FieldDesk" = some m.cls := hown
  have hl : lv_has ls 1 [(0, .int x)] := hl
  refine lv_iload_n hx hb ndF_isDigit_0 rfl (lv_at hl 0 rfl) ?_
  refine lv_bipush (v := 48) hx hb ndF_isDigit_1 (by decide) ?_
  refine lv_icmp_lt (tgt := 16) hx hb ndF_isDigit_3 (by decide) (fun c_3 => ?_) (fun c_3 => ?_)
  · refine lv_iconst (v := 0) hx hb ndF_isDigit_16 (by decide) ?_
    exact fd_ret_i hx hb hr hlocks hS hP hD rfl (by rw [fd_dig, if_pos c_3]) ndF_isDigit_17
  · refine lv_iload_n hx hb ndF_isDigit_6 rfl (lv_at hl 0 rfl) ?_
    refine lv_bipush (v := 57) hx hb ndF_isDigit_7 (by decide) ?_
    refine lv_icmp_gt (tgt := 16) hx hb ndF_isDigit_9 (by decide) (fun c_9 => ?_) (fun c_9 => ?_)
    · refine lv_iconst (v := 0) hx hb ndF_isDigit_16 (by decide) ?_
      exact fd_ret_i hx hb hr hlocks hS hP hD rfl (by rw [fd_dig, if_neg c_3, if_pos c_9]) ndF_isDigit_17
    · refine lv_iconst (v := 1) hx hb ndF_isDigit_12 (by decide) ?_
      refine lv_goto (tgt := 17) hx hb ndF_isDigit_13 (by decide) ?_
      exact fd_ret_i hx hb hr hlocks hS hP hD rfl (by rw [fd_dig, if_neg c_3, if_neg c_9]) ndF_isDigit_17
set_option maxHeartbeats 4000000 in
set_option maxRecDepth 100000 in
theorem kF_valueOfSign (l : Launch) (D : va_G) (Z : Nat → Nat) (cI cL : ClassId) (x : Int32) : fd_Mi l D fd_cl (fd_ty cI cL) (fd_EV Z) nyF_valueOfSign (.code nyF_valueOfSign ncF_valueOfSign 1 (some .int) :: fd_TB) nmF_valueOfSign [.int x] [] [] (fd_val x) := by
  refine fd_open_i (cc := ncF_valueOfSign) (maxL := 1) (ret := (some .int)) (by decide) rfl (Nat.le_of_ble_eq_true rfl) ?_
  intro p e s m below meth c A ls X hP hD hS hl
  obtain ⟨hx, hb, hr, hml, hown, hts0, hlocks, hK, hEV, hA⟩ := X
  have hts : ∀ w ∈ fd_TB, w.before _ s = true := fun w h => hts0 w (List.mem_cons_of_mem _ h)
  have hE := fd_EV_ok Z
  have hown : s.vm.findClass "FieldDesk" = some m.cls := hown
  have hl : lv_has ls 1 [(0, .int x)] := hl
  refine lv_iload_n hx hb ndF_valueOfSign_0 rfl (lv_at hl 0 rfl) ?_
  refine fd_go_i (wr := []) (w2 := []) (va_runS (As := [.int x]) (rest := []) ⟨hx, hb, hml, hown, hts⟩ (kF_isDigit l D Z cI cL x s.heap.size) (va_cwS 1 hts (fd_gS tb_161 tb_162 tb_13 tb_163) rfl rfl rfl nhF_isDigit.2 ⟨(Nat.le_of_ble_eq_true rfl), (Nat.le_of_ble_eq_true rfl)⟩) (fd_PreS hE hK hEV hA hP hD hS [] rfl (by decide)) rfl rfl hl.1 rfl (lv_room (Nat.le_of_ble_eq_true rfl)) ndF_valueOfSign_1 ⟨(Nat.le_of_ble_eq_true rfl), (Nat.le_of_ble_eq_true rfl)⟩) hP hD hS hA [] [] rfl rfl (by decide) (by decide) [] rfl (by decide) (fun H locs hP hD hS => ?_)
  refine lv_if_eq (tgt := 12) hx hb ndF_valueOfSign_4 (by decide) (fun c_4 => ?_) (fun c_4 => ?_)
  · refine lv_iload_n hx hb ndF_valueOfSign_12 rfl (lv_at hl 0 rfl) ?_
    refine lv_bipush (v := 65) hx hb ndF_valueOfSign_13 (by decide) ?_
    refine lv_icmp_lt (tgt := 34) hx hb ndF_valueOfSign_15 (by decide) (fun c_15 => ?_) (fun c_15 => ?_)
    · refine lv_iconst (v := (-1)) hx hb ndF_valueOfSign_34 (by decide) ?_
      exact fd_ret_i hx hb hr hlocks hS hP hD rfl (by rw [fd_val, if_pos c_4, if_pos c_15]) ndF_valueOfSign_35
    · refine lv_iload_n hx hb ndF_valueOfSign_18 rfl (lv_at hl 0 rfl) ?_
      refine lv_bipush (v := 90) hx hb ndF_valueOfSign_19 (by decide) ?_
      refine lv_icmp_gt (tgt := 34) hx hb ndF_valueOfSign_21 (by decide) (fun c_21 => ?_) (fun c_21 => ?_)
      · refine lv_iconst (v := (-1)) hx hb ndF_valueOfSign_34 (by decide) ?_
        exact fd_ret_i hx hb hr hlocks hS hP hD rfl (by rw [fd_val, if_pos c_4, if_neg c_15, if_pos c_21]) ndF_valueOfSign_35
      · refine lv_iload_n hx hb ndF_valueOfSign_24 rfl (lv_at hl 0 rfl) ?_
        refine lv_bipush (v := 65) hx hb ndF_valueOfSign_25 (by decide) ?_
        refine lv_isub hx hb ndF_valueOfSign_27 ?_
        refine lv_bipush (v := 10) hx hb ndF_valueOfSign_28 (by decide) ?_
        refine lv_iadd hx hb ndF_valueOfSign_30 ?_
        refine lv_goto (tgt := 35) hx hb ndF_valueOfSign_31 (by decide) ?_
        exact fd_ret_i hx hb hr hlocks hS hP hD rfl (by rw [fd_val, if_pos c_4, if_neg c_15, if_neg c_21]) ndF_valueOfSign_35
  · refine lv_iload_n hx hb ndF_valueOfSign_7 rfl (lv_at hl 0 rfl) ?_
    refine lv_bipush (v := 48) hx hb ndF_valueOfSign_8 (by decide) ?_
    refine lv_isub hx hb ndF_valueOfSign_10 ?_
    exact fd_ret_i hx hb hr hlocks hS hP hD rfl (by rw [fd_val, if_neg c_4]) ndF_valueOfSign_11
set_option maxHeartbeats 4000000 in
set_option maxRecDepth 100000 in
theorem kF_valueOfClass (l : Launch) (D : va_G) (Z : Nat → Nat) (cI cL : ClassId) (x : Int32) : fd_Mi l D fd_cl (fd_ty cI cL) (fd_EV Z) nyF_valueOfClass (.code nyF_valueOfClass ncF_valueOfClass 1 (some .int) :: fd_TB) nmF_valueOfClass [.int x] [] [] (fd_vcl x) := by
  refine fd_open_i (cc := ncF_valueOfClass) (maxL := 1) (ret := (some .int)) (by decide) rfl (Nat.le_of_ble_eq_true rfl) ?_
  intro p e s m below meth c A ls X hP hD hS hl
  obtain ⟨hx, hb, hr, hml, hown, hts0, hlocks, hK, hEV, hA⟩ := X
  have hts : ∀ w ∈ fd_TB, w.before _ s = true := fun w h => hts0 w (List.mem_cons_of_mem _ h)
  have hE := fd_EV_ok Z
  have hown : s.vm.findClass "FieldDesk" = some m.cls := hown
  have hl : lv_has ls 1 [(0, .int x)] := hl
  refine lv_iload_n hx hb ndF_valueOfClass_0 rfl (lv_at hl 0 rfl) ?_
  refine lv_bipush (v := 67) hx hb ndF_valueOfClass_1 (by decide) ?_
  refine lv_icmp_ne (tgt := 8) hx hb ndF_valueOfClass_3 (by decide) (fun c_3 => ?_) (fun c_3 => ?_)
  · refine lv_iload_n hx hb ndF_valueOfClass_8 rfl (lv_at hl 0 rfl) ?_
    refine lv_bipush (v := 83) hx hb ndF_valueOfClass_9 (by decide) ?_
    refine lv_icmp_ne (tgt := 18) hx hb ndF_valueOfClass_11 (by decide) (fun c_11 => ?_) (fun c_11 => ?_)
    · refine lv_iconst (v := (-1)) hx hb ndF_valueOfClass_18 (by decide) ?_
      exact fd_ret_i hx hb hr hlocks hS hP hD rfl (by rw [fd_vcl, if_neg c_3, if_neg c_11]) ndF_valueOfClass_19
    · refine lv_iconst (v := 1) hx hb ndF_valueOfClass_14 (by decide) ?_
      refine lv_goto (tgt := 19) hx hb ndF_valueOfClass_15 (by decide) ?_
      exact fd_ret_i hx hb hr hlocks hS hP hD rfl (by rw [fd_vcl, if_neg c_3, if_pos c_11]) ndF_valueOfClass_19
  · refine lv_iconst (v := 0) hx hb ndF_valueOfClass_6 (by decide) ?_
    exact fd_ret_i hx hb hr hlocks hS hP hD rfl (by rw [fd_vcl, if_pos c_3]) ndF_valueOfClass_7
set_option maxHeartbeats 4000000 in
set_option maxRecDepth 100000 in
theorem kF_isToBase36 (l : Launch) (D : va_G) (Z : Nat → Nat) (cI cL : ClassId) (x : Int32) : fd_Mi l D fd_cl (fd_ty cI cL) (fd_EV Z) nyF_isToBase36 (.code nyF_isToBase36 ncF_isToBase36 1 (some .boolean) :: fd_TB) nmF_isToBase36 [.int x] [] [] (fd_b36 x) := by
  refine fd_open_i (cc := ncF_isToBase36) (maxL := 1) (ret := (some .boolean)) (by decide) rfl (Nat.le_of_ble_eq_true rfl) ?_
  intro p e s m below meth c A ls X hP hD hS hl
  obtain ⟨hx, hb, hr, hml, hown, hts0, hlocks, hK, hEV, hA⟩ := X
  have hts : ∀ w ∈ fd_TB, w.before _ s = true := fun w h => hts0 w (List.mem_cons_of_mem _ h)
  have hE := fd_EV_ok Z
  have hown : s.vm.findClass "FieldDesk" = some m.cls := hown
  have hl : lv_has ls 1 [(0, .int x)] := hl
  refine lv_iload_n hx hb ndF_isToBase36_0 rfl (lv_at hl 0 rfl) ?_
  refine lv_iconst (v := 1) hx hb ndF_isToBase36_1 (by decide) ?_
  refine lv_icmp_lt (tgt := 14) hx hb ndF_isToBase36_2 (by decide) (fun c_2 => ?_) (fun c_2 => ?_)
  · refine lv_iconst (v := 0) hx hb ndF_isToBase36_14 (by decide) ?_
    exact fd_ret_i hx hb hr hlocks hS hP hD rfl (by rw [fd_b36, if_pos c_2]) ndF_isToBase36_15
  · refine lv_iload_n hx hb ndF_isToBase36_5 rfl (lv_at hl 0 rfl) ?_
    refine lv_iconst (v := 3) hx hb ndF_isToBase36_6 (by decide) ?_
    refine lv_icmp_gt (tgt := 14) hx hb ndF_isToBase36_7 (by decide) (fun c_7 => ?_) (fun c_7 => ?_)
    · refine lv_iconst (v := 0) hx hb ndF_isToBase36_14 (by decide) ?_
      exact fd_ret_i hx hb hr hlocks hS hP hD rfl (by rw [fd_b36, if_neg c_2, if_pos c_7]) ndF_isToBase36_15
    · refine lv_iconst (v := 1) hx hb ndF_isToBase36_10 (by decide) ?_
      refine lv_goto (tgt := 15) hx hb ndF_isToBase36_11 (by decide) ?_
      exact fd_ret_i hx hb hr hlocks hS hP hD rfl (by rw [fd_b36, if_neg c_2, if_neg c_7]) ndF_isToBase36_15
set_option maxHeartbeats 4000000 in
set_option maxRecDepth 100000 in
theorem kF_signInSort (l : Launch) (D : va_G) (Z : Nat → Nat) (cI cL : ClassId) (x : Int32) (y : Int32) : fd_Mi l D fd_cl (fd_ty cI cL) (fd_EV Z) nyF_signInSort (.code nyF_signInSort ncF_signInSort 2 (some .int) :: fd_TB) nmF_signInSort [.int x, .int y] [] [] (fd_sis x y) := by
  refine fd_open_i (cc := ncF_signInSort) (maxL := 2) (ret := (some .int)) (by decide) rfl (Nat.le_of_ble_eq_true rfl) ?_
  intro p e s m below meth c A ls X hP hD hS hl
  obtain ⟨hx, hb, hr, hml, hown, hts0, hlocks, hK, hEV, hA⟩ := X
  have hts : ∀ w ∈ fd_TB, w.before _ s = true := fun w h => hts0 w (List.mem_cons_of_mem _ h)
  have hE := fd_EV_ok Z
  have hown : s.vm.findClass "FieldDesk" = some m.cls := hown
  have hl : lv_has ls 2 [(0, .int x), (1, .int y)] := hl
  refine lv_iload_n hx hb ndF_signInSort_0 rfl (lv_at hl 0 rfl) ?_
  refine lv_iconst (v := 5) hx hb ndF_signInSort_1 (by decide) ?_
  refine lv_icmp_ne (tgt := 17) hx hb ndF_signInSort_2 (by decide) (fun c_2 => ?_) (fun c_2 => ?_)
  · refine lv_iload_n hx hb ndF_signInSort_17 rfl (lv_at hl 1 rfl) ?_
    refine lv_bipush (v := 10) hx hb ndF_signInSort_18 (by decide) ?_
    refine lv_icmp_ge (tgt := 30) hx hb ndF_signInSort_20 (by decide) (fun c_20 => ?_) (fun c_20 => ?_)
    · refine lv_bipush (v := 65) hx hb ndF_signInSort_30 (by decide) ?_
      refine lv_iload_n hx hb ndF_signInSort_32 rfl (lv_at hl 1 rfl) ?_
      refine lv_iadd hx hb ndF_signInSort_33 ?_
      refine lv_bipush (v := 10) hx hb ndF_signInSort_34 (by decide) ?_
      refine lv_isub hx hb ndF_signInSort_36 ?_
      exact fd_ret_i hx hb hr hlocks hS hP hD rfl (by rw [fd_sis, if_neg c_2, if_pos c_20]) ndF_signInSort_37
    · refine lv_bipush (v := 48) hx hb ndF_signInSort_23 (by decide) ?_
      refine lv_iload_n hx hb ndF_signInSort_25 rfl (lv_at hl 1 rfl) ?_
      refine lv_iadd hx hb ndF_signInSort_26 ?_
      refine lv_goto (tgt := 37) hx hb ndF_signInSort_27 (by decide) ?_
      exact fd_ret_i hx hb hr hlocks hS hP hD rfl (by rw [fd_sis, if_neg c_2, if_neg c_20]) ndF_signInSort_37
  · refine lv_iload_n hx hb ndF_signInSort_5 rfl (lv_at hl 1 rfl) ?_
    refine lv_if_ne (tgt := 14) hx hb ndF_signInSort_6 (by decide) (fun c_6 => ?_) (fun c_6 => ?_)
    · refine lv_bipush (v := 83) hx hb ndF_signInSort_14 (by decide) ?_
      exact fd_ret_i hx hb hr hlocks hS hP hD rfl (by rw [fd_sis, if_pos c_2, if_neg c_6]) ndF_signInSort_16
    · refine lv_bipush (v := 67) hx hb ndF_signInSort_9 (by decide) ?_
      refine lv_goto (tgt := 16) hx hb ndF_signInSort_11 (by decide) ?_
      exact fd_ret_i hx hb hr hlocks hS hP hD rfl (by rw [fd_sis, if_pos c_2, if_pos c_6]) ndF_signInSort_16
set_option maxHeartbeats 4000000 in
set_option maxRecDepth 100000 in
theorem kF_entry (l : Launch) (D : va_G) (Z : Nat → Nat) (cI cL : ClassId) {k : Nat} (hk : k < 5) (i : Int32) : fd_Mi l D fd_cl (fd_ty cI cL) (fd_EV Z) nyF_entry (.code nyF_entry ncF_entry 2 (some .int) :: fd_TB) nmF_entry [.ref (Z k), .int i] [] [] (fd_ent k i) := by
  have hkl := fd_tab_len k
  refine fd_open_i (cc := ncF_entry) (maxL := 2) (ret := (some .int)) (by decide) rfl (Nat.le_of_ble_eq_true rfl) ?_
  intro p e s m below meth c A ls X hP hD hS hl
  obtain ⟨hx, hb, hr, hml, hown, hts0, hlocks, hK, hEV, hA⟩ := X
  have hts : ∀ w ∈ fd_TB, w.before _ s = true := fun w h => hts0 w (List.mem_cons_of_mem _ h)
  have hE := fd_EV_ok Z
  have hown : s.vm.findClass "FieldDesk" = some m.cls := hown
  have hl : lv_has ls 2 [(0, .ref (Z k)), (1, .int i)] := hl
  refine lv_iload_n hx hb ndF_entry_0 rfl (lv_at hl 1 rfl) ?_
  refine lv_if_lt (tgt := 16) hx hb ndF_entry_1 (by decide) (fun c_1 => ?_) (fun c_1 => ?_)
  · refine lv_iconst (v := 0) hx hb ndF_entry_16 (by decide) ?_
    exact fd_ret_i hx hb hr hlocks hS hP hD rfl (by rw [fd_ent, if_pos c_1]) ndF_entry_17
  · refine lv_iload_n hx hb ndF_entry_4 rfl (lv_at hl 1 rfl) ?_
    refine lv_aload_n hx hb ndF_entry_5 rfl (lv_at hl 0 rfl) ?_
    refine va_tlen hx hb (hEV.2.2.2.1 k hk).2 hS (v := nI (fd_tab k).length) rfl ndF_entry_6 ?_
    refine lv_icmp_ge (tgt := 16) hx hb ndF_entry_7 (by decide) (fun c_7 => ?_) (fun c_7 => ?_)
    · refine lv_iconst (v := 0) hx hb ndF_entry_16 (by decide) ?_
      exact fd_ret_i hx hb hr hlocks hS hP hD rfl (by rw [fd_ent, if_neg c_1, if_pos c_7]) ndF_entry_17
    · obtain ⟨j, hj, rfl⟩ := fd_ix c_1 c_7 (fd_tab_len k)
      refine lv_aload_n hx hb ndF_entry_10 rfl (lv_at hl 0 rfl) ?_
      refine lv_iload_n hx hb ndF_entry_11 rfl (lv_at hl 1 rfl) ?_
      refine va_ti hx hb (hEV.2.2.2.1 k hk).2 hS (vp_in_nI hj (fd_tab_len k)) (v := .int ((fd_tab k).getD j 0)) (by show Value.int _ = _; rw [nI_clamp (by omega)]) ndF_entry_12 ?_
      refine lv_goto (tgt := 17) hx hb ndF_entry_13 (by decide) ?_
      exact fd_ret_i hx hb hr hlocks hS hP hD rfl (by rw [fd_ent, if_neg c_1, if_neg c_7, nI_clamp (by omega)]) ndF_entry_17
set_option maxHeartbeats 4000000 in
set_option maxRecDepth 100000 in
theorem kF_valueInSort (l : Launch) (D : va_G) (Z : Nat → Nat) (cI cL : ClassId) (x : Int32) (y : Int32) : fd_Mi l D fd_cl (fd_ty cI cL) (fd_EV Z) nyF_valueInSort (.code nyF_valueInSort ncF_valueInSort 4 (some .int) :: fd_TB) nmF_valueInSort [.int x, .int y] [] [] (fd_vis x y) := by
  refine fd_open_i (cc := ncF_valueInSort) (maxL := 4) (ret := (some .int)) (by decide) rfl (Nat.le_of_ble_eq_true rfl) ?_
  intro p e s m below meth c A ls X hP hD hS hl
  obtain ⟨hx, hb, hr, hml, hown, hts0, hlocks, hK, hEV, hA⟩ := X
  have hts : ∀ w ∈ fd_TB, w.before _ s = true := fun w h => hts0 w (List.mem_cons_of_mem _ h)
  have hE := fd_EV_ok Z
  have hown : s.vm.findClass "FieldDesk" = some m.cls := hown
  have hl : lv_has ls 4 [(0, .int x), (1, .int y)] := hl
  refine lv_iload_n hx hb ndF_valueInSort_0 rfl (lv_at hl 0 rfl) ?_
  refine lv_iconst (v := 5) hx hb ndF_valueInSort_1 (by decide) ?_
  refine lv_icmp_ne (tgt := 12) hx hb ndF_valueInSort_2 (by decide) (fun c_2 => ?_) (fun c_2 => ?_)
  · refine lv_iload_n hx hb ndF_valueInSort_12 rfl (lv_at hl 1 rfl) ?_
    refine fd_go_i (wr := []) (w2 := []) (va_runS (As := [.int y]) (rest := []) ⟨hx, hb, hml, hown, hts⟩ (kF_valueOfSign l D Z cI cL y s.heap.size) (va_cwS 1 hts (fd_gS tb_158 tb_159 tb_13 tb_160) rfl rfl rfl nhF_valueOfSign.2 ⟨(Nat.le_of_ble_eq_true rfl), (Nat.le_of_ble_eq_true rfl)⟩) (fd_PreS hE hK hEV hA hP hD hS [] rfl (by decide)) rfl rfl hl.1 rfl (lv_room (Nat.le_of_ble_eq_true rfl)) ndF_valueInSort_13 ⟨(Nat.le_of_ble_eq_true rfl), (Nat.le_of_ble_eq_true rfl)⟩) hP hD hS hA [] [] rfl rfl (by decide) (by decide) [] rfl (by decide) (fun H locs hP hD hS => ?_)
    refine lv_istore_n (lv' := [(2, .int (fd_val y)), (0, .int x), (1, .int y)]) hx hb ndF_valueInSort_16 rfl hl (by decide) rfl (fun ls hl => ?_)
    refine lv_iload_n hx hb ndF_valueInSort_17 rfl (lv_at hl 0 rfl) ?_
    refine va_gets hx hb (hEV.2.2.2.1 1 (by decide)).1 hS hown (hts _ tb_164) (fun _ h9 => h9) ndF_valueInSort_18 ?_
    refine lv_iload_n hx hb ndF_valueInSort_21 rfl (lv_at hl 1 rfl) ?_
    refine fd_go_i (wr := []) (w2 := []) (va_runS (As := [.ref (Z 1), .int x]) (rest := [.int (fd_val y)]) ⟨hx, hb, hml, hown, hts⟩ (kF_entry l D Z cI cL (k := 1) (by decide) x H.size) (va_cwS 2 hts (fd_gS tb_145 tb_142 tb_13 tb_143) rfl rfl rfl nhF_entry.2 ⟨(Nat.le_of_ble_eq_true rfl), (Nat.le_of_ble_eq_true rfl)⟩) (fd_PreS hE hK hEV hA hP hD hS [] rfl (by decide)) rfl rfl hl.1 rfl (lv_room (Nat.le_of_ble_eq_true rfl)) ndF_valueInSort_22 ⟨(Nat.le_of_ble_eq_true rfl), (Nat.le_of_ble_eq_true rfl)⟩) hP hD hS hA [] [] rfl rfl (by decide) (by decide) [] rfl (by decide) (fun H locs hP hD hS => ?_)
    refine lv_icmp_lt (tgt := 43) hx hb ndF_valueInSort_25 (by decide) (fun c_25 => ?_) (fun c_25 => ?_)
    · refine lv_iconst (v := 0) hx hb ndF_valueInSort_43 (by decide) ?_
      refine lv_istore_n (lv' := [(3, .int 0), (2, .int (fd_val y)), (0, .int x), (1, .int y)]) hx hb ndF_valueInSort_44 rfl hl (by decide) rfl (fun ls hl => ?_)
      refine lv_iload_n hx hb ndF_valueInSort_45 rfl (lv_at hl 0 rfl) ?_
      refine lv_if_eq (tgt := 53) hx hb ndF_valueInSort_46 (by decide) (fun _ => ?_) (fun c_46 => absurd (by decide) c_46)
      refine lv_iconst (v := (-1)) hx hb ndF_valueInSort_53 (by decide) ?_
      exact fd_ret_i hx hb hr hlocks hS hP hD rfl (by rw [fd_vis, if_neg c_2, if_pos c_25]) ndF_valueInSort_54
    · refine lv_iload_n hx hb ndF_valueInSort_28 rfl (lv_at hl 0 rfl) ?_
      refine va_gets hx hb (hEV.2.2.2.1 2 (by decide)).1 hS hown (hts _ tb_165) (fun _ h9 => h9) ndF_valueInSort_29 ?_
      refine lv_iload_n hx hb ndF_valueInSort_32 rfl (lv_at hl 1 rfl) ?_
      refine fd_go_i (wr := []) (w2 := []) (va_runS (As := [.ref (Z 2), .int x]) (rest := [.int (fd_val y)]) ⟨hx, hb, hml, hown, hts⟩ (kF_entry l D Z cI cL (k := 2) (by decide) x H.size) (va_cwS 2 hts (fd_gS tb_145 tb_142 tb_13 tb_143) rfl rfl rfl nhF_entry.2 ⟨(Nat.le_of_ble_eq_true rfl), (Nat.le_of_ble_eq_true rfl)⟩) (fd_PreS hE hK hEV hA hP hD hS [] rfl (by decide)) rfl rfl hl.1 rfl (lv_room (Nat.le_of_ble_eq_true rfl)) ndF_valueInSort_33 ⟨(Nat.le_of_ble_eq_true rfl), (Nat.le_of_ble_eq_true rfl)⟩) hP hD hS hA [] [] rfl rfl (by decide) (by decide) [] rfl (by decide) (fun H locs hP hD hS => ?_)
      refine lv_icmp_gt (tgt := 43) hx hb ndF_valueInSort_36 (by decide) (fun c_36 => ?_) (fun c_36 => ?_)
      · refine lv_iconst (v := 0) hx hb ndF_valueInSort_43 (by decide) ?_
        refine lv_istore_n (lv' := [(3, .int 0), (2, .int (fd_val y)), (0, .int x), (1, .int y)]) hx hb ndF_valueInSort_44 rfl hl (by decide) rfl (fun ls hl => ?_)
        refine lv_iload_n hx hb ndF_valueInSort_45 rfl (lv_at hl 0 rfl) ?_
        refine lv_if_eq (tgt := 53) hx hb ndF_valueInSort_46 (by decide) (fun _ => ?_) (fun c_46 => absurd (by decide) c_46)
        refine lv_iconst (v := (-1)) hx hb ndF_valueInSort_53 (by decide) ?_
        exact fd_ret_i hx hb hr hlocks hS hP hD rfl (by rw [fd_vis, if_neg c_2, if_neg c_25, if_pos c_36]) ndF_valueInSort_54
      · refine lv_iconst (v := 1) hx hb ndF_valueInSort_39 (by decide) ?_
        refine lv_goto (tgt := 44) hx hb ndF_valueInSort_40 (by decide) ?_
        refine lv_istore_n (lv' := [(3, .int 1), (2, .int (fd_val y)), (0, .int x), (1, .int y)]) hx hb ndF_valueInSort_44 rfl hl (by decide) rfl (fun ls hl => ?_)
        refine lv_iload_n hx hb ndF_valueInSort_45 rfl (lv_at hl 0 rfl) ?_
        refine lv_if_eq (tgt := 53) hx hb ndF_valueInSort_46 (by decide) (fun c_46 => absurd c_46 (by decide)) (fun _ => ?_)
        refine lv_iload_n hx hb ndF_valueInSort_49 rfl (lv_at hl 1 rfl) ?_
        refine lv_goto (tgt := 54) hx hb ndF_valueInSort_50 (by decide) ?_
        exact fd_ret_i hx hb hr hlocks hS hP hD rfl (by rw [fd_vis, if_neg c_2, if_neg c_25, if_neg c_36]) ndF_valueInSort_54
  · refine lv_iload_n hx hb ndF_valueInSort_5 rfl (lv_at hl 1 rfl) ?_
    refine fd_go_i (wr := []) (w2 := []) (va_runS (As := [.int y]) (rest := []) ⟨hx, hb, hml, hown, hts⟩ (kF_valueOfClass l D Z cI cL y s.heap.size) (va_cwS 1 hts (fd_gS tb_155 tb_156 tb_13 tb_157) rfl rfl rfl nhF_valueOfClass.2 ⟨(Nat.le_of_ble_eq_true rfl), (Nat.le_of_ble_eq_true rfl)⟩) (fd_PreS hE hK hEV hA hP hD hS [] rfl (by decide)) rfl rfl hl.1 rfl (lv_room (Nat.le_of_ble_eq_true rfl)) ndF_valueInSort_6 ⟨(Nat.le_of_ble_eq_true rfl), (Nat.le_of_ble_eq_true rfl)⟩) hP hD hS hA [] [] rfl rfl (by decide) (by decide) [] rfl (by decide) (fun H locs hP hD hS => ?_)
    refine lv_goto (tgt := 16) hx hb ndF_valueInSort_9 (by decide) ?_
    refine lv_istore_n (lv' := [(2, .int (fd_vcl y)), (0, .int x), (1, .int y)]) hx hb ndF_valueInSort_16 rfl hl (by decide) rfl (fun ls hl => ?_)
    refine lv_iload_n hx hb ndF_valueInSort_17 rfl (lv_at hl 0 rfl) ?_
    refine va_gets hx hb (hEV.2.2.2.1 1 (by decide)).1 hS hown (hts _ tb_164) (fun _ h9 => h9) ndF_valueInSort_18 ?_
    refine lv_iload_n hx hb ndF_valueInSort_21 rfl (lv_at hl 1 rfl) ?_
    refine fd_go_i (wr := []) (w2 := []) (va_runS (As := [.ref (Z 1), .int x]) (rest := [.int (fd_vcl y)]) ⟨hx, hb, hml, hown, hts⟩ (kF_entry l D Z cI cL (k := 1) (by decide) x H.size) (va_cwS 2 hts (fd_gS tb_145 tb_142 tb_13 tb_143) rfl rfl rfl nhF_entry.2 ⟨(Nat.le_of_ble_eq_true rfl), (Nat.le_of_ble_eq_true rfl)⟩) (fd_PreS hE hK hEV hA hP hD hS [] rfl (by decide)) rfl rfl hl.1 rfl (lv_room (Nat.le_of_ble_eq_true rfl)) ndF_valueInSort_22 ⟨(Nat.le_of_ble_eq_true rfl), (Nat.le_of_ble_eq_true rfl)⟩) hP hD hS hA [] [] rfl rfl (by decide) (by decide) [] rfl (by decide) (fun H locs hP hD hS => ?_)
    refine lv_icmp_lt (tgt := 43) hx hb ndF_valueInSort_25 (by decide) (fun c_25 => ?_) (fun c_25 => ?_)
    · refine lv_iconst (v := 0) hx hb ndF_valueInSort_43 (by decide) ?_
      refine lv_istore_n (lv' := [(3, .int 0), (2, .int (fd_vcl y)), (0, .int x), (1, .int y)]) hx hb ndF_valueInSort_44 rfl hl (by decide) rfl (fun ls hl => ?_)
      refine lv_iload_n hx hb ndF_valueInSort_45 rfl (lv_at hl 0 rfl) ?_
      refine lv_if_eq (tgt := 53) hx hb ndF_valueInSort_46 (by decide) (fun _ => ?_) (fun c_46 => absurd (by decide) c_46)
      refine lv_iconst (v := (-1)) hx hb ndF_valueInSort_53 (by decide) ?_
      exact fd_ret_i hx hb hr hlocks hS hP hD rfl (by rw [fd_vis, if_pos c_2, if_pos c_25]) ndF_valueInSort_54
    · refine lv_iload_n hx hb ndF_valueInSort_28 rfl (lv_at hl 0 rfl) ?_
      refine va_gets hx hb (hEV.2.2.2.1 2 (by decide)).1 hS hown (hts _ tb_165) (fun _ h9 => h9) ndF_valueInSort_29 ?_
      refine lv_iload_n hx hb ndF_valueInSort_32 rfl (lv_at hl 1 rfl) ?_
      refine fd_go_i (wr := []) (w2 := []) (va_runS (As := [.ref (Z 2), .int x]) (rest := [.int (fd_vcl y)]) ⟨hx, hb, hml, hown, hts⟩ (kF_entry l D Z cI cL (k := 2) (by decide) x H.size) (va_cwS 2 hts (fd_gS tb_145 tb_142 tb_13 tb_143) rfl rfl rfl nhF_entry.2 ⟨(Nat.le_of_ble_eq_true rfl), (Nat.le_of_ble_eq_true rfl)⟩) (fd_PreS hE hK hEV hA hP hD hS [] rfl (by decide)) rfl rfl hl.1 rfl (lv_room (Nat.le_of_ble_eq_true rfl)) ndF_valueInSort_33 ⟨(Nat.le_of_ble_eq_true rfl), (Nat.le_of_ble_eq_true rfl)⟩) hP hD hS hA [] [] rfl rfl (by decide) (by decide) [] rfl (by decide) (fun H locs hP hD hS => ?_)
      refine lv_icmp_gt (tgt := 43) hx hb ndF_valueInSort_36 (by decide) (fun c_36 => ?_) (fun c_36 => ?_)
      · refine lv_iconst (v := 0) hx hb ndF_valueInSort_43 (by decide) ?_
        refine lv_istore_n (lv' := [(3, .int 0), (2, .int (fd_vcl y)), (0, .int x), (1, .int y)]) hx hb ndF_valueInSort_44 rfl hl (by decide) rfl (fun ls hl => ?_)
        refine lv_iload_n hx hb ndF_valueInSort_45 rfl (lv_at hl 0 rfl) ?_
        refine lv_if_eq (tgt := 53) hx hb ndF_valueInSort_46 (by decide) (fun _ => ?_) (fun c_46 => absurd (by decide) c_46)
        refine lv_iconst (v := (-1)) hx hb ndF_valueInSort_53 (by decide) ?_
        exact fd_ret_i hx hb hr hlocks hS hP hD rfl (by rw [fd_vis, if_pos c_2, if_neg c_25, if_pos c_36]) ndF_valueInSort_54
      · refine lv_iconst (v := 1) hx hb ndF_valueInSort_39 (by decide) ?_
        refine lv_goto (tgt := 44) hx hb ndF_valueInSort_40 (by decide) ?_
        refine lv_istore_n (lv' := [(3, .int 1), (2, .int (fd_vcl y)), (0, .int x), (1, .int y)]) hx hb ndF_valueInSort_44 rfl hl (by decide) rfl (fun ls hl => ?_)
        refine lv_iload_n hx hb ndF_valueInSort_45 rfl (lv_at hl 0 rfl) ?_
        refine lv_if_eq (tgt := 53) hx hb ndF_valueInSort_46 (by decide) (fun c_46 => absurd c_46 (by decide)) (fun _ => ?_)
        refine lv_iload_n hx hb ndF_valueInSort_49 rfl (lv_at hl 1 rfl) ?_
        refine lv_goto (tgt := 54) hx hb ndF_valueInSort_50 (by decide) ?_
        exact fd_ret_i hx hb hr hlocks hS hP hD rfl (by rw [fd_vis, if_pos c_2, if_neg c_25, if_neg c_36]) ndF_valueInSort_54
set_option maxHeartbeats 4000000 in
set_option maxRecDepth 100000 in
theorem kR_remainder (l : Launch) (D : va_G) (Z : Nat → Nat) (cI cL : ClassId) {h b n cap : Nat} {f : Nat → Int32} (hn : n ≤ cap) (hc : cap < 2 ^ 31) : fd_Mi l D fd_cl (fd_ty cI cL) (fd_EV Z) nyR_remainder (.code nyR_remainder ncR_remainder 4 (some .int) :: fd_TB) nmR_remainder [.ref h] [(h, .inr (0, [.ref b, .int (nI n)])), (b, .inl (cI, cap, .inl f))] [(h, .inr (0, [.ref b, .int (nI n)])), (b, .inl (cI, cap, .inl f))] (fd_rem f n) := by
  refine fd_open_i (cc := ncR_remainder) (maxL := 4) (ret := (some .int)) (by decide) rfl (Nat.le_of_ble_eq_true rfl) ?_
  intro p e s m below meth c A ls X hP hD hS hl
  obtain ⟨hx, hb, hr, hml, hown, hts0, hlocks, hK, hEV, hA⟩ := X
  have hts : ∀ w ∈ fd_TB, w.before _ s = true := fun w h => hts0 w (List.mem_cons_of_mem _ h)
  have hE := fd_EV_ok Z
  have hown : s.vm.findClass "FieldDesk$Row" = some m.cls := hown
  have hl : lv_has ls 4 [(0, .ref h)] := hl
  refine lv_iconst (v := 0) hx hb ndR_remainder_0 (by decide) ?_
  refine lv_istore_n (lv' := [(1, .int 0), (0, .ref h)]) hx hb ndR_remainder_1 rfl hl (by decide) rfl (fun ls hl => ?_)
  refine lv_iconst (v := 0) hx hb ndR_remainder_2 (by decide) ?_
  refine lv_istore_n (lv' := [(2, .int 0), (1, .int 0), (0, .ref h)]) hx hb ndR_remainder_3 rfl hl (by decide) rfl (fun ls hl => ?_)
  have loop : ∀ (k : Nat) (i : Nat) (hi : i + k = n) (H : Heap) (locs : List Loc) (ls : Array Slot), va_P D fd_cl [(h, .inr (0, [.ref b, .int (nI n)])), (b, .inl (cI, cap, .inl f))] H → va_D A [(h, .inr (0, [.ref b, .int (nI n)])), (b, .inl (cI, cap, .inl f))] → va_S A s.heap H locs → lv_has ls 4 [(0, .ref h), (1, .int (fd_rem f i)), (2, .int (nI i))] → W p l e nmR_remainder s m ([.ref h].toArray) below meth c H locs 0 0 (MQ below (va_Qi (fun r' (_ : Unit) => r' = (fd_rem f n)) (fd_B D fd_cl A [(h, .inr (0, [.ref b, .int (nI n)])), (b, .inl (cI, cap, .inl f))]) A) [.ref h].toArray s 0 0 A) (F0 m 4 ls []) := by
    intro k
    induction k with
    | zero =>
      intro i hi H locs ls hP hD hS hl
      have hi0 : i = n := by omega
      refine lv_iload_n hx hb ndR_remainder_4 rfl (lv_at hl 2 rfl) ?_
      refine lv_aload_n hx hb ndR_remainder_5 rfl (lv_at hl 0 rfl) ?_
      refine va_get (D := D) (ci := 0) (v := .int (nI n)) (C := nR_R) (T := nT_R) (N := 2) hx hb hts in_R hown hK hP 0 rfl rfl 1 (by decide) (hts _ tb_35) (fun _ h9 => h9) rfl ndR_remainder_6 ?_
      refine lv_icmp_ge (tgt := 48) hx hb ndR_remainder_9 (by decide) (fun _ => ?_) (fun c_9 => absurd ((nI_leI (a := n) (b := i) (by omega) (by omega)).mpr (by omega)) c_9)
      refine lv_iload_n hx hb ndR_remainder_48 rfl (lv_at hl 1 rfl) ?_
      exact fd_ret_i hx hb hr hlocks hS hP hD rfl (by rw [hi0]) ndR_remainder_49
    | succ k ih =>
      intro i hi H locs ls hP hD hS hl
      have hi9 : i < n := by omega
      refine lv_iload_n hx hb ndR_remainder_4 rfl (lv_at hl 2 rfl) ?_
      refine lv_aload_n hx hb ndR_remainder_5 rfl (lv_at hl 0 rfl) ?_
      refine va_get (D := D) (ci := 0) (v := .int (nI n)) (C := nR_R) (T := nT_R) (N := 2) hx hb hts in_R hown hK hP 0 rfl rfl 1 (by decide) (hts _ tb_35) (fun _ h9 => h9) rfl ndR_remainder_6 ?_
      refine lv_icmp_ge (tgt := 48) hx hb ndR_remainder_9 (by decide) (fun c_9 => absurd c_9 (fun h9 => absurd ((nI_leI (a := n) (b := i) (by omega) (by omega)).mp h9) (by omega))) (fun _ => ?_)
      refine lv_aload_n hx hb ndR_remainder_12 rfl (lv_at hl 0 rfl) ?_
      refine lv_iload_n hx hb ndR_remainder_13 rfl (lv_at hl 2 rfl) ?_
      refine fd_go_i (wr := []) (w2 := [(h, .inr (0, [.ref b, .int (nI n)])), (b, .inl (cI, cap, .inl f))]) (va_runV (As := [.int (nI i)]) (rest := []) ⟨hx, hb, hml, hown, hts⟩ (kR_at l D Z cI cL (n := n) (f := f) (by omega) (by omega) (nI i) H.size) (cwV 1 hts (fd_gV tb_182 tb_92 tb_93 tb_14 tb_94) rfl rfl rfl nhR_at ⟨(Nat.le_of_ble_eq_true rfl), (Nat.le_of_ble_eq_true rfl)⟩) (fd_PreV hE hK hEV hA hP hD hS [0, 1] rfl (by decide) (ci := 0) (q0 := 0) rfl rfl) rfl rfl hl.1 rfl (lv_room (Nat.le_of_ble_eq_true rfl)) ndR_remainder_14 ⟨(Nat.le_of_ble_eq_true rfl), (Nat.le_of_ble_eq_true rfl)⟩) hP hD hS hA [0, 1] [] rfl rfl (by decide) (by decide) [0, 1] rfl (by decide) (fun H locs hP hD hS => ?_)
      refine fd_asi (y := f i) (fd_at_lt hi9 (by omega)) ?_
      refine fd_go_i (wr := [(h, .inr (0, [.ref b, .int (nI n)])), (b, .inl (cI, cap, .inl f))]) (w2 := [(h, .inr (0, [.ref b, .int (nI n)])), (b, .inl (cI, cap, .inl f))]) (va_runSN (As := [.int (f i)]) (rest := []) ⟨hx, hb, hml, hown, hts⟩ (kF_valueOfSign l D Z cI cL (f i) H.size) ⟨va_cnB 1 hts (fd_gi tb_160) rfl rfl rfl (hEV.1 _ nb_7) (hts _ tb_13) nhF_valueOfSign.2 ⟨(Nat.le_of_ble_eq_true rfl), (Nat.le_of_ble_eq_true rfl)⟩, hts _ tb_159, trivial⟩ (fd_PreS hE hK hEV hA hP hD hS [] rfl (by decide)) rfl rfl hl.1 rfl (lv_room (Nat.le_of_ble_eq_true rfl)) ndR_remainder_17 ⟨(Nat.le_of_ble_eq_true rfl), (Nat.le_of_ble_eq_true rfl)⟩) hP hD hS hA [] [0, 1] rfl rfl (by decide) (by decide) [0, 1] rfl (by decide) (fun H locs hP hD hS => ?_)
      refine lv_istore_n (lv' := [(3, .int (fd_val (f i))), (0, .ref h), (1, .int (fd_rem f i)), (2, .int (nI i))]) hx hb ndR_remainder_20 rfl hl (by decide) rfl (fun ls hl => ?_)
      refine lv_iload_n hx hb ndR_remainder_21 rfl (lv_at hl 2 rfl) ?_
      refine lv_iload_n hx hb ndR_remainder_22 rfl (lv_at hl 0 rfl) ?_
      refine lv_bipush (v := 10) hx hb ndR_remainder_23 (by decide) ?_
      refine lv_icmp_ge (tgt := 33) hx hb ndR_remainder_25 (by decide) (fun c_25 => ?_) (fun c_25 => ?_)
      · refine lv_bipush (v := 100) hx hb ndR_remainder_33 (by decide) ?_
        refine lv_imul hx hb ndR_remainder_35 ?_
        refine lv_iload_n hx hb ndR_remainder_36 rfl (lv_at hl 0 rfl) ?_
        refine lv_iadd hx hb ndR_remainder_37 ?_
        refine lv_bipush (v := 97) hx hb ndR_remainder_38 (by decide) ?_
        refine lv_irem hx hb ndR_remainder_40 (by decide) ?_
        refine fd_asi (y := fd_rst (fd_rem f i) (fd_val (f i))) (by rw [fd_rst, if_pos c_25]) ?_
        refine lv_istore_n (lv' := [(1, .int (fd_rst (fd_rem f i) (fd_val (f i)))), (3, .int (fd_val (f i))), (0, .ref h), (2, .int (nI i))]) hx hb ndR_remainder_41 rfl hl (by decide) rfl (fun ls hl => ?_)
        refine lv_iinc (v := nI (i + 1)) (lv' := [(2, .int (nI (i + 1))), (1, .int (fd_rst (fd_rem f i) (fd_val (f i)))), (3, .int (fd_val (f i))), (0, .ref h)]) hx hb ndR_remainder_42 hl (k := 3) rfl (nI_1 i) (by decide) rfl (fun ls hl => ?_)
        refine lv_goto (tgt := 4) hx hb ndR_remainder_45 (by decide) ?_
        exact ih (i + 1) (by omega) _ _ _ hP hD hS (lv_sub hl [3, 1, 0] rfl)
      · refine lv_bipush (v := 10) hx hb ndR_remainder_28 (by decide) ?_
        refine lv_goto (tgt := 35) hx hb ndR_remainder_30 (by decide) ?_
        refine lv_imul hx hb ndR_remainder_35 ?_
        refine lv_iload_n hx hb ndR_remainder_36 rfl (lv_at hl 0 rfl) ?_
        refine lv_iadd hx hb ndR_remainder_37 ?_
        refine lv_bipush (v := 97) hx hb ndR_remainder_38 (by decide) ?_
        refine lv_irem hx hb ndR_remainder_40 (by decide) ?_
        refine fd_asi (y := fd_rst (fd_rem f i) (fd_val (f i))) (by rw [fd_rst, if_neg c_25]) ?_
        refine lv_istore_n (lv' := [(1, .int (fd_rst (fd_rem f i) (fd_val (f i)))), (3, .int (fd_val (f i))), (0, .ref h), (2, .int (nI i))]) hx hb ndR_remainder_41 rfl hl (by decide) rfl (fun ls hl => ?_)
        refine lv_iinc (v := nI (i + 1)) (lv' := [(2, .int (nI (i + 1))), (1, .int (fd_rst (fd_rem f i) (fd_val (f i)))), (3, .int (fd_val (f i))), (0, .ref h)]) hx hb ndR_remainder_42 hl (k := 3) rfl (nI_1 i) (by decide) rfl (fun ls hl => ?_)
        refine lv_goto (tgt := 4) hx hb ndR_remainder_45 (by decide) ?_
        exact ih (i + 1) (by omega) _ _ _ hP hD hS (lv_sub hl [3, 1, 0] rfl)
  exact loop n 0 (by omega) _ _ _ hP hD hS (lv_sub hl [2, 1, 0] rfl)
