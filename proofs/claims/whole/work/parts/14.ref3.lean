/-! the reference: add, kindOf -/
def fd_lo (s : Nat) : Int64 := if s ≤ 6 then 0 else 1
def fd_dv (b x : Int64) : Nat → Int64
  | 0 => x
  | j + 1 => fd_dv b x j / b
def fd_dd (s : Nat) (x : Int64) (z : Nat) : Int32 := (fd_dv (fd_bs s) x z - fd_dv (fd_bs s) x z / fd_bs s * fd_bs s).toInt32
def fd_rc (s : Nat) (x : Int64) (d : Int32) : Int32 := if s = 5 then (if x = 0 then 67 else 83) else (if 10 ≤ d then 65 + d - 10 else 48 + d)
def fd_ra (s : Nat) (x : Int64) : Nat → (Nat → Int32) → Nat → (Nat → Int32)
  | 0, g, _ => g
  | z + 1, g, n => fd_ra s x z (upd g n (fd_rc s x (fd_dd s x z))) (n + 1)
theorem fd_bs_ne (s : Nat) : ¬ fd_bs s = 0 := by
  unfold fd_bs; split <;> decide
theorem fd_bs_lt {s : Nat} (h1 : 1 ≤ s) (h : ¬ 4 ≤ s) : 36 = fd_bs s := by
  rcases (show s = 1 ∨ s = 2 ∨ s = 3 by omega) with rfl | rfl | rfl <;> decide
theorem fd_bs_ge {s : Nat} (h8 : s ≤ 8) (h : 4 ≤ s) : 10 = fd_bs s := by
  rcases (show s = 4 ∨ s = 5 ∨ s = 6 ∨ s = 7 ∨ s = 8 by omega) with rfl | rfl | rfl | rfl | rfl <;> decide
theorem fd_mz1 {od ok : Nat} {gn : Nat → Int64} (h : od = 2) (h3 : ¬ ok ≤ 3) (h20 : ok ≤ 20) (hz : gn 3 = 0) : 1 = fd_mz od ok gn := by
  rw [fd_mz, if_pos h, show fd_na ok gn 3 = gn 3 from fd_na_lt (k := 3) (by omega) (by omega), if_pos hz]
theorem fd_mz2 {od ok : Nat} {gn : Nat → Int64} (h : od = 2) (h3 : ¬ ok ≤ 3) (h20 : ok ≤ 20) (hz : ¬ gn 3 = 0) : 0 = fd_mz od ok gn := by
  rw [fd_mz, if_pos h, show fd_na ok gn 3 = gn 3 from fd_na_lt (k := 3) (by omega) (by omega), if_neg hz]
theorem fd_mz3 {od ok : Nat} {gn : Nat → Int64} (h : od = 2) (h3 : ok ≤ 3) : 0 = fd_mz od ok gn := by
  rw [fd_mz, if_pos h, show fd_na ok gn 3 = -1 from fd_na_ge (k := 3) h3 (by omega), if_neg (by decide)]
theorem fd_mz4 {od ok : Nat} {gn : Nat → Int64} (h : ¬ od = 2) : 0 = fd_mz od ok gn := by
  rw [fd_mz, if_neg h]
theorem fd_bg_0 (g : Nat → Int32) (n q : Nat) : fd_bg g n q 0 = 1 := by
  rw [fd_bg, if_pos (fun i h => absurd h (Nat.not_lt_zero i))]
theorem fd_bg_a {g : Nat → Int32} {n q i : Nat} (h : fd_bg g n q i = 0) : 0 = fd_bg g n q (i + 1) := by
  rw [fd_bg, if_neg]
  intro a
  rw [fd_bg, if_pos (fun j hj => a j (by omega))] at h
  exact absurd h (by decide)
theorem fd_bg_b {g : Nat → Int32} {n q i : Nat} (hi : i < n) (hn : n ≤ 400) (e : ¬ g i = fd_let q i) : 0 = fd_bg g n q (i + 1) := by
  rw [fd_bg, if_neg]
  intro a
  have b := a i (by omega)
  rw [fd_at_lt hi (by omega)] at b
  exact e b
theorem fd_bg_c {g : Nat → Int32} {n q i : Nat} (hi : i < n) (hn : n ≤ 400) (h : ¬ fd_bg g n q i = 0) (e : g i = fd_let q i) : 1 = fd_bg g n q (i + 1) := by
  rw [fd_bg, if_pos]
  by_cases a : ∀ j, j < i → fd_at n g (nI j) = fd_let q j
  · exact lt_s a (by rw [fd_at_lt hi (by omega)]; exact e)
  · exact absurd (by rw [fd_bg, if_neg a]) h
set_option maxHeartbeats 4000000 in
set_option maxRecDepth 100000 in
theorem kD_add_no (l : Launch) (D : va_G) (Z : Nat → Nat) (cI cL : ClassId) {b0 b1 b2 b3 b4 n kd k od wn ok : Nat} {g go : Nat → Int32} {rn gn : Nat → Int64} {cf : Int32} (hn : n ≤ 400) (hkd : kd ≤ 15) (hk : k ≤ 20) (hwn : wn ≤ 123) (hod : od ≤ 15) (hok : ok ≤ 20) (x : Int64) {s1 : Nat} (hs : fd_due od ok gn = nI s1) (hs8 : s1 ≤ 8) (hno : s1 = 0 ∨ x < fd_lo s1 ∨ fd_mn.getD s1 0 < x ∨ (¬ fd_mz od ok gn = 0 ∧ ¬ x = 0)) : fd_Mi l D fd_cl (fd_ty cI cL) (fd_EV Z) nyD_add (.code nyD_add ncD_add 11 (some .boolean) :: fd_TB) nmD_add [.ref b0, .long x] [(b0, .inr (3, [.ref b1, .int (nI n), .int (nI kd), .int (nI k), .ref b2, .int (nI od), .int cf, .int (nI wn), .ref b3, .int (nI ok), .ref b4])), (b1, .inl (cI, 400, .inl g)), (b2, .inl (cL, 24, .inr (.inl rn))), (b3, .inl (cI, 200, .inl go)), (b4, .inl (cL, 24, .inr (.inl gn)))] [(b0, .inr (3, [.ref b1, .int (nI n), .int (nI kd), .int (nI k), .ref b2, .int (nI od), .int cf, .int (nI wn), .ref b3, .int (nI ok), .ref b4])), (b1, .inl (cI, 400, .inl g)), (b2, .inl (cL, 24, .inr (.inl rn))), (b3, .inl (cI, 200, .inl go)), (b4, .inl (cL, 24, .inr (.inl gn)))] 0 := by
  refine fd_open_i (cc := ncD_add) (maxL := 11) (ret := (some .boolean)) (by decide) rfl (Nat.le_of_ble_eq_true rfl) ?_
  intro p e s m below meth c A ls X hP hD hS hl
  obtain ⟨hx, hb, hr, hml, hown, hts0, hlocks, hK, hEV, hA⟩ := X
  have hts : ∀ w ∈ fd_TB, w.before _ s = true := fun w h => hts0 w (List.mem_cons_of_mem _ h)
  have hE := fd_EV_ok Z
  have hown : s.vm.findClass "FieldDeskModel" = some m.cls := hown
  have hl : lv_has ls 11 [(0, .ref b0), (1, .long x)] := hl
  refine lv_aload_n hx hb ndD_add_0 rfl (lv_at hl 0 rfl) ?_
  refine fd_go_i (wr := []) (w2 := [(b0, .inr (3, [.ref b1, .int (nI n), .int (nI kd), .int (nI k), .ref b2, .int (nI od), .int cf, .int (nI wn), .ref b3, .int (nI ok), .ref b4])), (b1, .inl (cI, 400, .inl g)), (b2, .inl (cL, 24, .inr (.inl rn))), (b3, .inl (cI, 200, .inl go)), (b4, .inl (cL, 24, .inr (.inl gn)))]) (va_runV (As := []) (rest := []) ⟨hx, hb, hml, hown, hts⟩ (kD_nextSort l D Z cI cL (n := n) (g := g) (kd := kd) (k := k) (rn := rn) (od := od) (cf := cf) (wn := wn) (go := go) (ok := ok) (gn := gn) (by omega) (by omega) (by omega) (by omega) (by omega) (by omega)  s.heap.size) (cwV 0 hts (fd_gV tb_331 tb_332 tb_11 tb_16 tb_333) rfl rfl rfl nhD_nextSort ⟨(Nat.le_of_ble_eq_true rfl), (Nat.le_of_ble_eq_true rfl)⟩) (fd_PreV hE hK hEV hA hP hD hS [0, 1, 2, 3, 4] rfl (by decide) (ci := 3) (q0 := 0) rfl rfl) rfl rfl hl.1 rfl (lv_room (Nat.le_of_ble_eq_true rfl)) ndD_add_1 ⟨(Nat.le_of_ble_eq_true rfl), (Nat.le_of_ble_eq_true rfl)⟩) hP hD hS hA [0, 1, 2, 3, 4] [] rfl rfl (by decide) (by decide) [0, 1, 2, 3, 4] rfl (by decide) (fun H locs hP hD hS => ?_)
  refine fd_asi (y := nI s1) hs ?_
  refine lv_istore_n (lv' := [(3, .int (nI s1)), (0, .ref b0), (1, .long x)]) hx hb ndD_add_4 rfl hl (by decide) rfl (fun ls hl => ?_)
  have cut37 : ∀ (ls : Array Slot), lv_has ls 11 [(0, .ref b0), (1, .long x), (3, .int (nI s1))] → W p l e nmD_add s m ([.ref b0, .long x].toArray) below meth c H locs 0 0 (MQ below (va_Qi (fun r' (_ : Unit) => r' = 0) (fd_B D fd_cl A [(b0, .inr (3, [.ref b1, .int (nI n), .int (nI kd), .int (nI k), .ref b2, .int (nI od), .int cf, .int (nI wn), .ref b3, .int (nI ok), .ref b4])), (b1, .inl (cI, 400, .inl g)), (b2, .inl (cL, 24, .inr (.inl rn))), (b3, .inl (cI, 200, .inl go)), (b4, .inl (cL, 24, .inr (.inl gn)))]) A) [.ref b0, .long x].toArray s 0 0 A) (F0 m 37 ls [.int (fd_mz od ok gn)]) := by
    intro ls hl
    refine lv_istore (lv' := [(4, .int (fd_mz od ok gn)), (0, .ref b0), (1, .long x), (3, .int (nI s1))]) hx hb ndD_add_37 hl (by decide) rfl (fun ls hl => ?_)
    refine lv_iload_n hx hb ndD_add_39 rfl (lv_at hl 3 rfl) ?_
    refine lv_if_eq (tgt := 79) hx hb ndD_add_40 (by decide) (fun c_40 => ?_) (fun c_40 => ?_)
    · have n_40 := (nI_eq (a := s1) (b := 0) (by omega) (by omega)).mp c_40
      refine lv_iconst (v := 0) hx hb ndD_add_79 (by decide) ?_
      exact fd_ret_i hx hb hr hlocks hS hP hD rfl (rfl) ndD_add_80
    · have n_40 := mt (nI_eq (a := s1) (b := 0) (by omega) (by omega)).mpr c_40
      have cut55 : ∀ (ls : Array Slot), lv_has ls 11 [(0, .ref b0), (1, .long x), (3, .int (nI s1)), (4, .int (fd_mz od ok gn))] → W p l e nmD_add s m ([.ref b0, .long x].toArray) below meth c H locs 0 0 (MQ below (va_Qi (fun r' (_ : Unit) => r' = 0) (fd_B D fd_cl A [(b0, .inr (3, [.ref b1, .int (nI n), .int (nI kd), .int (nI k), .ref b2, .int (nI od), .int cf, .int (nI wn), .ref b3, .int (nI ok), .ref b4])), (b1, .inl (cI, 400, .inl g)), (b2, .inl (cL, 24, .inr (.inl rn))), (b3, .inl (cI, 200, .inl go)), (b4, .inl (cL, 24, .inr (.inl gn)))]) A) [.ref b0, .long x].toArray s 0 0 A) (F0 m 55 ls [.long (fd_lo s1), .long x]) := by
        intro ls hl
        refine W.lcmp hx hb ndD_add_55 ?_
        refine lv_if_lt (tgt := 79) hx hb ndD_add_56 (by decide) (fun c_56 => ?_) (fun c_56 => ?_)
        · have n_56 := (lg_cmp_lt _ _).mp c_56
          refine lv_iconst (v := 0) hx hb ndD_add_79 (by decide) ?_
          exact fd_ret_i hx hb hr hlocks hS hP hD rfl (rfl) ndD_add_80
        · have n_56 := mt (lg_cmp_lt _ _).mpr c_56
          refine lv_lload_n hx hb ndD_add_59 rfl (lv_at hl 1 rfl) ?_
          refine lv_iload_n hx hb ndD_add_60 rfl (lv_at hl 2 rfl) ?_
          refine fd_go_l (wr := [(b0, .inr (3, [.ref b1, .int (nI n), .int (nI kd), .int (nI k), .ref b2, .int (nI od), .int cf, .int (nI wn), .ref b3, .int (nI ok), .ref b4])), (b1, .inl (cI, 400, .inl g)), (b2, .inl (cL, 24, .inr (.inl rn))), (b3, .inl (cI, 200, .inl go)), (b4, .inl (cL, 24, .inr (.inl gn)))]) (w2 := [(b0, .inr (3, [.ref b1, .int (nI n), .int (nI kd), .int (nI k), .ref b2, .int (nI od), .int cf, .int (nI wn), .ref b3, .int (nI ok), .ref b4])), (b1, .inl (cI, 400, .inl g)), (b2, .inl (cL, 24, .inr (.inl rn))), (b3, .inl (cI, 200, .inl go)), (b4, .inl (cL, 24, .inr (.inl gn)))]) (va_runS (As := [.int (nI s1)]) (rest := [.long x]) ⟨hx, hb, hml, hown, hts⟩ (kD_most l D Z cI cL (s1 := s1) (by omega) (by omega) H.size) (va_cwS 1 hts (fd_gS tb_334 tb_335 tb_16 tb_336) rfl rfl rfl nhD_most.2 ⟨(Nat.le_of_ble_eq_true rfl), (Nat.le_of_ble_eq_true rfl)⟩) (fd_PreS hE hK hEV hA hP hD hS [] rfl (by decide)) rfl rfl hl.1 rfl (lv_room (Nat.le_of_ble_eq_true rfl)) ndD_add_61 ⟨(Nat.le_of_ble_eq_true rfl), (Nat.le_of_ble_eq_true rfl)⟩) hP hD hS hA [] [0, 1, 2, 3, 4] rfl rfl (by decide) (by decide) [0, 1, 2, 3, 4] rfl (by decide) (fun H locs hP hD hS => ?_)
          refine W.lcmp hx hb ndD_add_64 ?_
          refine lv_if_gt (tgt := 79) hx hb ndD_add_65 (by decide) (fun c_65 => ?_) (fun c_65 => ?_)
          · have n_65 := (lg_cmp_gt _ _).mp c_65
            refine lv_iconst (v := 0) hx hb ndD_add_79 (by decide) ?_
            exact fd_ret_i hx hb hr hlocks hS hP hD rfl (rfl) ndD_add_80
          · have n_65 := mt (lg_cmp_gt _ _).mpr c_65
            refine lv_iload hx hb ndD_add_68 (lv_at hl 3 rfl) ?_
            refine lv_if_eq (tgt := 81) hx hb ndD_add_70 (by decide) (fun c_70 => ?_) (fun c_70 => ?_)
            · exact (hno.elim n_40 (fun h => h.elim n_56 (fun h => h.elim n_65 (fun h => h.1 c_70)))).elim
            · refine lv_lload_n hx hb ndD_add_73 rfl (lv_at hl 1 rfl) ?_
              refine lv_lconst (v := 0) hx hb ndD_add_74 (by decide) ?_
              refine W.lcmp hx hb ndD_add_75 ?_
              refine lv_if_eq (tgt := 81) hx hb ndD_add_76 (by decide) (fun c_76 => ?_) (fun c_76 => ?_)
              · have n_76 := (lg_cmp_eq _ _).mp c_76
                exact (hno.elim n_40 (fun h => h.elim n_56 (fun h => h.elim n_65 (fun h => h.2 n_76)))).elim
              · have n_76 := mt (lg_cmp_eq _ _).mpr c_76
                refine lv_iconst (v := 0) hx hb ndD_add_79 (by decide) ?_
                exact fd_ret_i hx hb hr hlocks hS hP hD rfl (rfl) ndD_add_80
      refine lv_lload_n hx hb ndD_add_43 rfl (lv_at hl 2 rfl) ?_
      refine lv_iload_n hx hb ndD_add_44 rfl (lv_at hl 3 rfl) ?_
      refine lv_bipush (v := 6) hx hb ndD_add_45 (by decide) ?_
      refine lv_icmp_le (tgt := 54) hx hb ndD_add_47 (by decide) (fun c_47 => ?_) (fun c_47 => ?_)
      · have n_47 := (nI_leI (a := s1) (b := 6) (by omega) (by omega)).mp c_47
        refine lv_lconst (v := 0) hx hb ndD_add_54 (by decide) ?_
        refine fd_asl (y := fd_lo s1) (by rw [fd_lo, if_pos n_47]) ?_
        exact cut55 _ (lv_sub hl [1, 2, 3, 0] rfl)
      · have n_47 := mt (nI_leI (a := s1) (b := 6) (by omega) (by omega)).mpr c_47
        refine lv_lconst (v := 1) hx hb ndD_add_50 (by decide) ?_
        refine fd_asl (y := fd_lo s1) (by rw [fd_lo, if_neg n_47]) ?_
        refine lv_goto (tgt := 55) hx hb ndD_add_51 (by decide) ?_
        exact cut55 _ (lv_sub hl [1, 2, 3, 0] rfl)
  refine lv_aload_n hx hb ndD_add_5 rfl (lv_at hl 1 rfl) ?_
  refine va_get (D := D) (ci := 3) (v := .int (nI od)) (C := nR_D) (T := nT_D) (N := 11) hx hb hts in_D hown hK hP 0 rfl rfl 5 (by decide) (hts _ tb_253) (fun _ h9 => h9) rfl ndD_add_6 ?_
  refine lv_iconst (v := 2) hx hb ndD_add_9 (by decide) ?_
  refine lv_icmp_ne (tgt := 36) hx hb ndD_add_10 (by decide) (fun c_10 => ?_) (fun c_10 => ?_)
  · have n_10 := mt (nI_eq (a := od) (b := 2) (by omega) (by omega)).mpr c_10
    refine lv_iconst (v := 0) hx hb ndD_add_36 (by decide) ?_
    refine fd_asi (y := fd_mz od ok gn) (fd_mz4 n_10) ?_
    exact cut37 _ (lv_sub hl [1, 2, 0] rfl)
  · have n_10 := (nI_eq (a := od) (b := 2) (by omega) (by omega)).mp c_10
    refine lv_aload_n hx hb ndD_add_13 rfl (lv_at hl 1 rfl) ?_
    refine va_get (D := D) (ci := 3) (v := .int (nI ok)) (C := nR_D) (T := nT_D) (N := 11) hx hb hts in_D hown hK hP 0 rfl rfl 9 (by decide) (hts _ tb_257) (fun _ h9 => h9) rfl ndD_add_14 ?_
    refine lv_iconst (v := 3) hx hb ndD_add_17 (by decide) ?_
    refine lv_icmp_le (tgt := 36) hx hb ndD_add_18 (by decide) (fun c_18 => ?_) (fun c_18 => ?_)
    · have n_18 := (nI_leI (a := ok) (b := 3) (by omega) (by omega)).mp c_18
      refine lv_iconst (v := 0) hx hb ndD_add_36 (by decide) ?_
      refine fd_asi (y := fd_mz od ok gn) (fd_mz3 n_10 n_18) ?_
      exact cut37 _ (lv_sub hl [1, 2, 0] rfl)
    · have n_18 := mt (nI_leI (a := ok) (b := 3) (by omega) (by omega)).mpr c_18
      refine lv_aload_n hx hb ndD_add_21 rfl (lv_at hl 1 rfl) ?_
      refine va_get (D := D) (ci := 3) (v := .ref b4) (C := nR_D) (T := nT_D) (N := 11) hx hb hts in_D hown hK hP 0 rfl rfl 10 (by decide) (hts _ tb_258) (fun _ h9 => h9) rfl ndD_add_22 ?_
      refine lv_iconst (v := 3) hx hb ndD_add_25 (by decide) ?_
      refine fd_asi (y := nI 3) rfl ?_
      refine fd_lald hx hb hK hP 4 1 (k := 3) rfl rfl (by omega) (by omega) ndD_add_26 ?_
      refine lv_lconst (v := 0) hx hb ndD_add_27 (by decide) ?_
      refine W.lcmp hx hb ndD_add_28 ?_
      refine lv_if_ne (tgt := 36) hx hb ndD_add_29 (by decide) (fun c_29 => ?_) (fun c_29 => ?_)
      · have n_29 := mt (lg_cmp_eq _ _).mpr c_29
        refine lv_iconst (v := 0) hx hb ndD_add_36 (by decide) ?_
        refine fd_asi (y := fd_mz od ok gn) (fd_mz2 n_10 n_18 (by omega) n_29) ?_
        exact cut37 _ (lv_sub hl [1, 2, 0] rfl)
      · have n_29 := (lg_cmp_eq _ _).mp c_29
        refine lv_iconst (v := 1) hx hb ndD_add_32 (by decide) ?_
        refine fd_asi (y := fd_mz od ok gn) (fd_mz1 n_10 n_18 (by omega) n_29) ?_
        refine lv_goto (tgt := 37) hx hb ndD_add_33 (by decide) ?_
        exact cut37 _ (lv_sub hl [1, 2, 0] rfl)
set_option maxHeartbeats 4000000 in
set_option maxRecDepth 100000 in
theorem kD_add_yes (l : Launch) (D : va_G) (Z : Nat → Nat) (cI cL : ClassId) {b0 b1 b2 b3 b4 n kd k od wn ok : Nat} {g go : Nat → Int32} {rn gn : Nat → Int64} {cf : Int32} (hn : n ≤ 400) (hkd : kd ≤ 15) (hk : k ≤ 20) (hwn : wn ≤ 123) (hod : od ≤ 15) (hok : ok ≤ 20) (x : Int64) {s1 w : Nat} (hs : fd_due od ok gn = nI s1) (h1 : 1 ≤ s1) (h8 : s1 ≤ 8) (hx1 : ¬ x < fd_lo s1) (hx2 : ¬ fd_mn.getD s1 0 < x) (hx3 : fd_mz od ok gn = 0 ∨ x = 0) (hw0 : fd_W (nI s1) = w) (hw : wn + w ≤ 123) (hk2 : ok < 20) : fd_Mi l D fd_cl (fd_ty cI cL) (fd_EV Z) nyD_add (.code nyD_add ncD_add 11 (some .boolean) :: fd_TB) nmD_add [.ref b0, .long x] [(b0, .inr (3, [.ref b1, .int (nI n), .int (nI kd), .int (nI k), .ref b2, .int (nI od), .int cf, .int (nI wn), .ref b3, .int (nI ok), .ref b4])), (b1, .inl (cI, 400, .inl g)), (b2, .inl (cL, 24, .inr (.inl rn))), (b3, .inl (cI, 200, .inl go)), (b4, .inl (cL, 24, .inr (.inl gn)))] [(b0, .inr (3, [.ref b1, .int (nI n), .int (nI kd), .int (nI k), .ref b2, .int (nI od), .int cf, .int (nI (wn + w)), .ref b3, .int (nI (ok + 1)), .ref b4])), (b1, .inl (cI, 400, .inl g)), (b2, .inl (cL, 24, .inr (.inl rn))), (b3, .inl (cI, 200, .inl (fd_ra s1 x w go wn))), (b4, .inl (cL, 24, .inr (.inl (vp_updL gn ok x))))] 1 := by
  refine fd_open_i (cc := ncD_add) (maxL := 11) (ret := (some .boolean)) (by decide) rfl (Nat.le_of_ble_eq_true rfl) ?_
  intro p e s m below meth c A ls X hP hD hS hl
  obtain ⟨hx, hb, hr, hml, hown, hts0, hlocks, hK, hEV, hA⟩ := X
  have hts : ∀ w ∈ fd_TB, w.before _ s = true := fun w h => hts0 w (List.mem_cons_of_mem _ h)
  have hE := fd_EV_ok Z
  have hown : s.vm.findClass "FieldDeskModel" = some m.cls := hown
  have hl : lv_has ls 11 [(0, .ref b0), (1, .long x)] := hl
  refine lv_aload_n hx hb ndD_add_0 rfl (lv_at hl 0 rfl) ?_
  refine fd_go_i (wr := []) (w2 := [(b0, .inr (3, [.ref b1, .int (nI n), .int (nI kd), .int (nI k), .ref b2, .int (nI od), .int cf, .int (nI wn), .ref b3, .int (nI ok), .ref b4])), (b1, .inl (cI, 400, .inl g)), (b2, .inl (cL, 24, .inr (.inl rn))), (b3, .inl (cI, 200, .inl go)), (b4, .inl (cL, 24, .inr (.inl gn)))]) (va_runV (As := []) (rest := []) ⟨hx, hb, hml, hown, hts⟩ (kD_nextSort l D Z cI cL (n := n) (g := g) (kd := kd) (k := k) (rn := rn) (od := od) (cf := cf) (wn := wn) (go := go) (ok := ok) (gn := gn) (by omega) (by omega) (by omega) (by omega) (by omega) (by omega)  s.heap.size) (cwV 0 hts (fd_gV tb_331 tb_332 tb_11 tb_16 tb_333) rfl rfl rfl nhD_nextSort ⟨(Nat.le_of_ble_eq_true rfl), (Nat.le_of_ble_eq_true rfl)⟩) (fd_PreV hE hK hEV hA hP hD hS [0, 1, 2, 3, 4] rfl (by decide) (ci := 3) (q0 := 0) rfl rfl) rfl rfl hl.1 rfl (lv_room (Nat.le_of_ble_eq_true rfl)) ndD_add_1 ⟨(Nat.le_of_ble_eq_true rfl), (Nat.le_of_ble_eq_true rfl)⟩) hP hD hS hA [0, 1, 2, 3, 4] [] rfl rfl (by decide) (by decide) [0, 1, 2, 3, 4] rfl (by decide) (fun H locs hP hD hS => ?_)
  refine fd_asi (y := nI s1) hs ?_
  refine lv_istore_n (lv' := [(3, .int (nI s1)), (0, .ref b0), (1, .long x)]) hx hb ndD_add_4 rfl hl (by decide) rfl (fun ls hl => ?_)
  have cut37 : ∀ (ls : Array Slot), lv_has ls 11 [(0, .ref b0), (1, .long x), (3, .int (nI s1))] → W p l e nmD_add s m ([.ref b0, .long x].toArray) below meth c H locs 0 0 (MQ below (va_Qi (fun r' (_ : Unit) => r' = 1) (fd_B D fd_cl A [(b0, .inr (3, [.ref b1, .int (nI n), .int (nI kd), .int (nI k), .ref b2, .int (nI od), .int cf, .int (nI (wn + w)), .ref b3, .int (nI (ok + 1)), .ref b4])), (b1, .inl (cI, 400, .inl g)), (b2, .inl (cL, 24, .inr (.inl rn))), (b3, .inl (cI, 200, .inl (fd_ra s1 x w go wn))), (b4, .inl (cL, 24, .inr (.inl (vp_updL gn ok x))))]) A) [.ref b0, .long x].toArray s 0 0 A) (F0 m 37 ls [.int (fd_mz od ok gn)]) := by
    intro ls hl
    refine lv_istore (lv' := [(4, .int (fd_mz od ok gn)), (0, .ref b0), (1, .long x), (3, .int (nI s1))]) hx hb ndD_add_37 hl (by decide) rfl (fun ls hl => ?_)
    refine lv_iload_n hx hb ndD_add_39 rfl (lv_at hl 3 rfl) ?_
    refine lv_if_eq (tgt := 79) hx hb ndD_add_40 (by decide) (fun c_40 => absurd c_40 (fun h9 => absurd ((nI_eq (a := s1) (b := 0) (by omega) (by omega)).mp h9) (by omega))) (fun _ => ?_)
    have cut55 : ∀ (ls : Array Slot), lv_has ls 11 [(0, .ref b0), (1, .long x), (3, .int (nI s1)), (4, .int (fd_mz od ok gn))] → W p l e nmD_add s m ([.ref b0, .long x].toArray) below meth c H locs 0 0 (MQ below (va_Qi (fun r' (_ : Unit) => r' = 1) (fd_B D fd_cl A [(b0, .inr (3, [.ref b1, .int (nI n), .int (nI kd), .int (nI k), .ref b2, .int (nI od), .int cf, .int (nI (wn + w)), .ref b3, .int (nI (ok + 1)), .ref b4])), (b1, .inl (cI, 400, .inl g)), (b2, .inl (cL, 24, .inr (.inl rn))), (b3, .inl (cI, 200, .inl (fd_ra s1 x w go wn))), (b4, .inl (cL, 24, .inr (.inl (vp_updL gn ok x))))]) A) [.ref b0, .long x].toArray s 0 0 A) (F0 m 55 ls [.long (fd_lo s1), .long x]) := by
      intro ls hl
      refine W.lcmp hx hb ndD_add_55 ?_
      refine lv_if_lt (tgt := 79) hx hb ndD_add_56 (by decide) (fun c_56 => absurd c_56 (fun h9 => hx1 ((lg_cmp_lt _ _).mp h9))) (fun _ => ?_)
      refine lv_lload_n hx hb ndD_add_59 rfl (lv_at hl 1 rfl) ?_
      refine lv_iload_n hx hb ndD_add_60 rfl (lv_at hl 2 rfl) ?_
      refine fd_go_l (wr := [(b0, .inr (3, [.ref b1, .int (nI n), .int (nI kd), .int (nI k), .ref b2, .int (nI od), .int cf, .int (nI wn), .ref b3, .int (nI ok), .ref b4])), (b1, .inl (cI, 400, .inl g)), (b2, .inl (cL, 24, .inr (.inl rn))), (b3, .inl (cI, 200, .inl go)), (b4, .inl (cL, 24, .inr (.inl gn)))]) (w2 := [(b0, .inr (3, [.ref b1, .int (nI n), .int (nI kd), .int (nI k), .ref b2, .int (nI od), .int cf, .int (nI wn), .ref b3, .int (nI ok), .ref b4])), (b1, .inl (cI, 400, .inl g)), (b2, .inl (cL, 24, .inr (.inl rn))), (b3, .inl (cI, 200, .inl go)), (b4, .inl (cL, 24, .inr (.inl gn)))]) (va_runS (As := [.int (nI s1)]) (rest := [.long x]) ⟨hx, hb, hml, hown, hts⟩ (kD_most l D Z cI cL (s1 := s1) (by omega) (by omega) H.size) (va_cwS 1 hts (fd_gS tb_334 tb_335 tb_16 tb_336) rfl rfl rfl nhD_most.2 ⟨(Nat.le_of_ble_eq_true rfl), (Nat.le_of_ble_eq_true rfl)⟩) (fd_PreS hE hK hEV hA hP hD hS [] rfl (by decide)) rfl rfl hl.1 rfl (lv_room (Nat.le_of_ble_eq_true rfl)) ndD_add_61 ⟨(Nat.le_of_ble_eq_true rfl), (Nat.le_of_ble_eq_true rfl)⟩) hP hD hS hA [] [0, 1, 2, 3, 4] rfl rfl (by decide) (by decide) [0, 1, 2, 3, 4] rfl (by decide) (fun H locs hP hD hS => ?_)
      refine W.lcmp hx hb ndD_add_64 ?_
      refine lv_if_gt (tgt := 79) hx hb ndD_add_65 (by decide) (fun c_65 => absurd c_65 (fun h9 => hx2 ((lg_cmp_gt _ _).mp h9))) (fun _ => ?_)
      have cut81 : ∀ (ls : Array Slot), lv_has ls 11 [(0, .ref b0), (1, .long x), (3, .int (nI s1)), (4, .int (fd_mz od ok gn))] → W p l e nmD_add s m ([.ref b0, .long x].toArray) below meth c H locs 0 0 (MQ below (va_Qi (fun r' (_ : Unit) => r' = 1) (fd_B D fd_cl A [(b0, .inr (3, [.ref b1, .int (nI n), .int (nI kd), .int (nI k), .ref b2, .int (nI od), .int cf, .int (nI (wn + w)), .ref b3, .int (nI (ok + 1)), .ref b4])), (b1, .inl (cI, 400, .inl g)), (b2, .inl (cL, 24, .inr (.inl rn))), (b3, .inl (cI, 200, .inl (fd_ra s1 x w go wn))), (b4, .inl (cL, 24, .inr (.inl (vp_updL gn ok x))))]) A) [.ref b0, .long x].toArray s 0 0 A) (F0 m 81 ls []) := by
        intro ls hl
        refine lv_aload_n hx hb ndD_add_81 rfl (lv_at hl 0 rfl) ?_
        refine va_get (D := D) (ci := 3) (v := .ref b4) (C := nR_D) (T := nT_D) (N := 11) hx hb hts in_D hown hK hP 0 rfl rfl 10 (by decide) (hts _ tb_258) (fun _ h9 => h9) rfl ndD_add_82 ?_
        refine lv_aload_n hx hb ndD_add_85 rfl (lv_at hl 0 rfl) ?_
        refine va_get (D := D) (ci := 3) (v := .int (nI ok)) (C := nR_D) (T := nT_D) (N := 11) hx hb hts in_D hown hK hP 0 rfl rfl 9 (by decide) (hts _ tb_257) (fun _ h9 => h9) rfl ndD_add_86 ?_
        refine lv_lload_n hx hb ndD_add_89 rfl (lv_at hl 1 rfl) ?_
        refine fd_last hx hb hK hP hD hS 4 1 (k := ok) rfl rfl (by omega) (by omega) ndD_add_90 (fun H locs hP hD hS => ?_)
        have hP : va_P D fd_cl [(b0, .inr (3, [.ref b1, .int (nI n), .int (nI kd), .int (nI k), .ref b2, .int (nI od), .int cf, .int (nI wn), .ref b3, .int (nI ok), .ref b4])), (b1, .inl (cI, 400, .inl g)), (b2, .inl (cL, 24, .inr (.inl rn))), (b3, .inl (cI, 200, .inl go)), (b4, .inl (cL, 24, .inr (.inl (vp_updL gn ok x))))] H := hP
        have hD : va_D A [(b0, .inr (3, [.ref b1, .int (nI n), .int (nI kd), .int (nI k), .ref b2, .int (nI od), .int cf, .int (nI wn), .ref b3, .int (nI ok), .ref b4])), (b1, .inl (cI, 400, .inl g)), (b2, .inl (cL, 24, .inr (.inl rn))), (b3, .inl (cI, 200, .inl go)), (b4, .inl (cL, 24, .inr (.inl (vp_updL gn ok x))))] := hD
        refine lv_aload_n hx hb ndD_add_91 rfl (lv_at hl 0 rfl) ?_
        refine lv_aload_n hx hb ndD_add_92 rfl (lv_at hl 0 rfl) ?_
        refine va_get (D := D) (ci := 3) (v := .int (nI ok)) (C := nR_D) (T := nT_D) (N := 11) hx hb hts in_D hown hK hP 0 rfl rfl 9 (by decide) (hts _ tb_257) (fun _ h9 => h9) rfl ndD_add_93 ?_
        refine lv_iconst (v := 1) hx hb ndD_add_96 (by decide) ?_
        refine lv_iadd hx hb ndD_add_97 ?_
        refine fd_asi (y := nI (ok + 1)) (nI_1 ok) ?_
        refine va_put (D := D) (ci := 3) (v := .int (nI (ok + 1))) (ty := (.int)) (C := nR_D) (T := nT_D) (N := 11) hx hb hts in_D nt_D nt_D_ok nn_D hown hK hP hD hS 0 rfl rfl 9 (by decide) (hts _ tb_257) (fun _ h9 => h9) rfl (by decide +kernel) rfl rfl (Nat.le_of_ble_eq_true rfl) ndD_add_98 (fun H locs hP hD hS => ?_)
        have hP : va_P D fd_cl [(b0, .inr (3, [.ref b1, .int (nI n), .int (nI kd), .int (nI k), .ref b2, .int (nI od), .int cf, .int (nI wn), .ref b3, .int (nI (ok + 1)), .ref b4])), (b1, .inl (cI, 400, .inl g)), (b2, .inl (cL, 24, .inr (.inl rn))), (b3, .inl (cI, 200, .inl go)), (b4, .inl (cL, 24, .inr (.inl (vp_updL gn ok x))))] H := hP
        have hD : va_D A [(b0, .inr (3, [.ref b1, .int (nI n), .int (nI kd), .int (nI k), .ref b2, .int (nI od), .int cf, .int (nI wn), .ref b3, .int (nI (ok + 1)), .ref b4])), (b1, .inl (cI, 400, .inl g)), (b2, .inl (cL, 24, .inr (.inl rn))), (b3, .inl (cI, 200, .inl go)), (b4, .inl (cL, 24, .inr (.inl (vp_updL gn ok x))))] := hD
        have cut115 : ∀ (ls : Array Slot), lv_has ls 11 [(0, .ref b0), (1, .long x), (3, .int (nI s1))] → W p l e nmD_add s m ([.ref b0, .long x].toArray) below meth c H locs 0 0 (MQ below (va_Qi (fun r' (_ : Unit) => r' = 1) (fd_B D fd_cl A [(b0, .inr (3, [.ref b1, .int (nI n), .int (nI kd), .int (nI k), .ref b2, .int (nI od), .int cf, .int (nI (wn + w)), .ref b3, .int (nI (ok + 1)), .ref b4])), (b1, .inl (cI, 400, .inl g)), (b2, .inl (cL, 24, .inr (.inl rn))), (b3, .inl (cI, 200, .inl (fd_ra s1 x w go wn))), (b4, .inl (cL, 24, .inr (.inl (vp_updL gn ok x))))]) A) [.ref b0, .long x].toArray s 0 0 A) (F0 m 115 ls [.long (fd_bs s1)]) := by
          intro ls hl
          refine lv_lstore (lv' := [(5, .long (fd_bs s1)), (0, .ref b0), (1, .long x), (3, .int (nI s1))]) hx hb ndD_add_115 hl (by decide) rfl (fun ls hl => ?_)
          refine lv_iload_n hx hb ndD_add_117 rfl (lv_at hl 3 rfl) ?_
          refine fd_go_i (wr := [(b0, .inr (3, [.ref b1, .int (nI n), .int (nI kd), .int (nI k), .ref b2, .int (nI od), .int cf, .int (nI wn), .ref b3, .int (nI (ok + 1)), .ref b4])), (b1, .inl (cI, 400, .inl g)), (b2, .inl (cL, 24, .inr (.inl rn))), (b3, .inl (cI, 200, .inl go)), (b4, .inl (cL, 24, .inr (.inl (vp_updL gn ok x))))]) (w2 := [(b0, .inr (3, [.ref b1, .int (nI n), .int (nI kd), .int (nI k), .ref b2, .int (nI od), .int cf, .int (nI wn), .ref b3, .int (nI (ok + 1)), .ref b4])), (b1, .inl (cI, 400, .inl g)), (b2, .inl (cL, 24, .inr (.inl rn))), (b3, .inl (cI, 200, .inl go)), (b4, .inl (cL, 24, .inr (.inl (vp_updL gn ok x))))]) (va_runS (As := [.int (nI s1)]) (rest := []) ⟨hx, hb, hml, hown, hts⟩ (kD_width l D Z cI cL (s1 := s1) (by omega) (by omega) H.size) (va_cwS 1 hts (fd_gS tb_291 tb_292 tb_16 tb_293) rfl rfl rfl nhD_width.2 ⟨(Nat.le_of_ble_eq_true rfl), (Nat.le_of_ble_eq_true rfl)⟩) (fd_PreS hE hK hEV hA hP hD hS [] rfl (by decide)) rfl rfl hl.1 rfl (lv_room (Nat.le_of_ble_eq_true rfl)) ndD_add_118 ⟨(Nat.le_of_ble_eq_true rfl), (Nat.le_of_ble_eq_true rfl)⟩) hP hD hS hA [] [0, 1, 2, 3, 4] rfl rfl (by decide) (by decide) [0, 1, 2, 3, 4] rfl (by decide) (fun H locs hP hD hS => ?_)
          refine fd_asi (y := nI w) (by rw [hw0]) ?_
          refine lv_iconst (v := 1) hx hb ndD_add_121 (by decide) ?_
          refine lv_isub hx hb ndD_add_122 ?_
          refine lv_istore (lv' := [(7, .int ((nI w) - 1)), (5, .long (fd_bs s1)), (0, .ref b0), (1, .long x), (3, .int (nI s1))]) hx hb ndD_add_123 hl (by decide) rfl (fun ls hl => ?_)
          have loop1 : ∀ (z : Nat) (n1 : Nat) (g1 : Nat → Int32) (hm : n1 + z = wn + w) (hg : fd_ra s1 x z g1 n1 = fd_ra s1 x w go wn) (H : Heap) (locs : List Loc) (ls : Array Slot), va_P D fd_cl [(b0, .inr (3, [.ref b1, .int (nI n), .int (nI kd), .int (nI k), .ref b2, .int (nI od), .int cf, .int (nI n1), .ref b3, .int (nI (ok + 1)), .ref b4])), (b1, .inl (cI, 400, .inl g)), (b2, .inl (cL, 24, .inr (.inl rn))), (b3, .inl (cI, 200, .inl g1)), (b4, .inl (cL, 24, .inr (.inl (vp_updL gn ok x))))] H → va_D A [(b0, .inr (3, [.ref b1, .int (nI n), .int (nI kd), .int (nI k), .ref b2, .int (nI od), .int cf, .int (nI n1), .ref b3, .int (nI (ok + 1)), .ref b4])), (b1, .inl (cI, 400, .inl g)), (b2, .inl (cL, 24, .inr (.inl rn))), (b3, .inl (cI, 200, .inl g1)), (b4, .inl (cL, 24, .inr (.inl (vp_updL gn ok x))))] → va_S A s.heap H locs → lv_has ls 11 [(0, .ref b0), (1, .long x), (3, .int (nI s1)), (5, .long (fd_bs s1)), (7, .int (nI z - 1))] → W p l e nmD_add s m ([.ref b0, .long x].toArray) below meth c H locs 0 0 (MQ below (va_Qi (fun r' (_ : Unit) => r' = 1) (fd_B D fd_cl A [(b0, .inr (3, [.ref b1, .int (nI n), .int (nI kd), .int (nI k), .ref b2, .int (nI od), .int cf, .int (nI (wn + w)), .ref b3, .int (nI (ok + 1)), .ref b4])), (b1, .inl (cI, 400, .inl g)), (b2, .inl (cL, 24, .inr (.inl rn))), (b3, .inl (cI, 200, .inl (fd_ra s1 x w go wn))), (b4, .inl (cL, 24, .inr (.inl (vp_updL gn ok x))))]) A) [.ref b0, .long x].toArray s 0 0 A) (F0 m 125 ls []) := by
            intro z
            induction z with
            | zero =>
              intro n1 g1 hm hg H locs ls hP hD hS hl
              obtain rfl : n1 = wn + w := by omega
              obtain rfl : g1 = fd_ra s1 x w go wn := hg
              refine lv_iload hx hb ndD_add_125 (lv_at hl 4 rfl) ?_
              refine lv_if_lt (tgt := 218) hx hb ndD_add_127 (by decide) (fun _ => ?_) (fun c_127 => absurd (by decide) c_127)
              refine lv_iconst (v := 1) hx hb ndD_add_218 (by decide) ?_
              exact fd_ret_i hx hb hr hlocks hS hP hD rfl (rfl) ndD_add_219
            | succ z ih =>
              intro n1 g1 hm hg H locs ls hP hD hS hl
              rw [nI_pred] at hl
              refine lv_iload hx hb ndD_add_125 (lv_at hl 4 rfl) ?_
              refine lv_if_lt (tgt := 218) hx hb ndD_add_127 (by decide) (fun c_127 => absurd c_127 (fun h9 => absurd ((nI_ltI (a := z) (b := 0) (by omega) (by omega)).mp h9) (by omega))) (fun _ => ?_)
              refine lv_lload_n hx hb ndD_add_130 rfl (lv_at hl 1 rfl) ?_
              refine lv_lstore (lv' := [(8, .long x), (0, .ref b0), (1, .long x), (3, .int (nI s1)), (5, .long (fd_bs s1)), (7, .int (nI z))]) hx hb ndD_add_131 hl (by decide) rfl (fun ls hl => ?_)
              refine lv_iconst (v := 0) hx hb ndD_add_133 (by decide) ?_
              refine lv_istore (lv' := [(10, .int 0), (8, .long x), (0, .ref b0), (1, .long x), (3, .int (nI s1)), (5, .long (fd_bs s1)), (7, .int (nI z))]) hx hb ndD_add_134 hl (by decide) rfl (fun ls hl => ?_)
              have loop2 : ∀ (y : Nat) (j : Nat) (hj : j + y = z) (H : Heap) (locs : List Loc) (ls : Array Slot), va_P D fd_cl [(b0, .inr (3, [.ref b1, .int (nI n), .int (nI kd), .int (nI k), .ref b2, .int (nI od), .int cf, .int (nI n1), .ref b3, .int (nI (ok + 1)), .ref b4])), (b1, .inl (cI, 400, .inl g)), (b2, .inl (cL, 24, .inr (.inl rn))), (b3, .inl (cI, 200, .inl g1)), (b4, .inl (cL, 24, .inr (.inl (vp_updL gn ok x))))] H → va_D A [(b0, .inr (3, [.ref b1, .int (nI n), .int (nI kd), .int (nI k), .ref b2, .int (nI od), .int cf, .int (nI n1), .ref b3, .int (nI (ok + 1)), .ref b4])), (b1, .inl (cI, 400, .inl g)), (b2, .inl (cL, 24, .inr (.inl rn))), (b3, .inl (cI, 200, .inl g1)), (b4, .inl (cL, 24, .inr (.inl (vp_updL gn ok x))))] → va_S A s.heap H locs → lv_has ls 11 [(0, .ref b0), (1, .long x), (3, .int (nI s1)), (5, .long (fd_bs s1)), (7, .int (nI z)), (8, .long (fd_dv (fd_bs s1) x j)), (10, .int (nI j))] → W p l e nmD_add s m ([.ref b0, .long x].toArray) below meth c H locs 0 0 (MQ below (va_Qi (fun r' (_ : Unit) => r' = 1) (fd_B D fd_cl A [(b0, .inr (3, [.ref b1, .int (nI n), .int (nI kd), .int (nI k), .ref b2, .int (nI od), .int cf, .int (nI (wn + w)), .ref b3, .int (nI (ok + 1)), .ref b4])), (b1, .inl (cI, 400, .inl g)), (b2, .inl (cL, 24, .inr (.inl rn))), (b3, .inl (cI, 200, .inl (fd_ra s1 x w go wn))), (b4, .inl (cL, 24, .inr (.inl (vp_updL gn ok x))))]) A) [.ref b0, .long x].toArray s 0 0 A) (F0 m 136 ls []) := by
                intro y
                induction y with
                | zero =>
                  intro j hj H locs ls hP hD hS hl
                  have e9 : z = j := by omega
                  subst e9
                  refine lv_iload hx hb ndD_add_136 (lv_at hl 6 rfl) ?_
                  refine lv_iload hx hb ndD_add_138 (lv_at hl 4 rfl) ?_
                  refine lv_icmp_ge (tgt := 156) hx hb ndD_add_140 (by decide) (fun _ => ?_) (fun c_140 => absurd ((nI_leI (a := z) (b := z) (by omega) (by omega)).mpr (by omega)) c_140)
                  refine lv_lload hx hb ndD_add_156 (lv_at hl 5 rfl) ?_
                  refine lv_lload hx hb ndD_add_158 (lv_at hl 3 rfl) ?_
                  refine lv_lrem hx hb ndD_add_160 (fd_bs_ne s1) ?_
                  refine lv_l2i hx hb ndD_add_161 rfl ?_
                  refine fd_asi (y := fd_dd s1 x z) rfl ?_
                  refine lv_istore (lv' := [(10, .int (fd_dd s1 x z)), (0, .ref b0), (1, .long x), (3, .int (nI s1)), (5, .long (fd_bs s1)), (7, .int (nI z)), (8, .long (fd_dv (fd_bs s1) x z))]) hx hb ndD_add_162 hl (by decide) rfl (fun ls hl => ?_)
                  refine lv_aload_n hx hb ndD_add_164 rfl (lv_at hl 1 rfl) ?_
                  have cut209 : ∀ (ls : Array Slot), lv_has ls 11 [(0, .ref b0), (1, .long x), (3, .int (nI s1)), (5, .long (fd_bs s1)), (7, .int (nI z))] → W p l e nmD_add s m ([.ref b0, .long x].toArray) below meth c H locs 0 0 (MQ below (va_Qi (fun r' (_ : Unit) => r' = 1) (fd_B D fd_cl A [(b0, .inr (3, [.ref b1, .int (nI n), .int (nI kd), .int (nI k), .ref b2, .int (nI od), .int cf, .int (nI (wn + w)), .ref b3, .int (nI (ok + 1)), .ref b4])), (b1, .inl (cI, 400, .inl g)), (b2, .inl (cL, 24, .inr (.inl rn))), (b3, .inl (cI, 200, .inl (fd_ra s1 x w go wn))), (b4, .inl (cL, 24, .inr (.inl (vp_updL gn ok x))))]) A) [.ref b0, .long x].toArray s 0 0 A) (F0 m 209 ls [.int (fd_rc s1 x (fd_dd s1 x z)), .ref b0]) := by
                    intro ls hl
                    refine fd_go_v (wr := []) (w2 := [(b0, .inr (3, [.ref b1, .int (nI n), .int (nI kd), .int (nI k), .ref b2, .int (nI od), .int cf, .int (nI (n1 + 1)), .ref b3, .int (nI ((ok + 1))), .ref b4])), (b1, .inl (cI, 400, .inl g)), (b2, .inl (cL, 24, .inr (.inl rn))), (b3, .inl (cI, 200, .inl (upd g1 n1 (fd_rc s1 x (fd_dd s1 x z))))), (b4, .inl (cL, 24, .inr (.inl (vp_updL gn ok x))))]) (va_runV (As := [.int (fd_rc s1 x (fd_dd s1 x z))]) (rest := []) ⟨hx, hb, hml, hown, hts⟩ (kD_lay l D Z cI cL (n := n) (g := g) (kd := kd) (k := k) (rn := rn) (od := od) (cf := cf) (wn := n1) (go := g1) (ok := (ok + 1)) (gn := vp_updL gn ok x) (by omega) (by omega) (by omega) (by omega) (by omega) (by omega) (fd_rc s1 x (fd_dd s1 x z)) H.size) (cwV 1 hts (fd_gV tb_324 tb_325 tb_10 tb_16 tb_326) rfl rfl rfl nhD_lay ⟨(Nat.le_of_ble_eq_true rfl), (Nat.le_of_ble_eq_true rfl)⟩) (fd_PreV hE hK hEV hA hP hD hS [0, 1, 2, 3, 4] rfl (by decide) (ci := 3) (q0 := 0) rfl rfl) rfl rfl hl.1 rfl (lv_room (Nat.le_of_ble_eq_true rfl)) ndD_add_209 ⟨(Nat.le_of_ble_eq_true rfl), (Nat.le_of_ble_eq_true rfl)⟩) hP hD hS hA [0, 1, 2, 3, 4] [] rfl rfl (by decide) (by decide) [0, 1, 2, 3, 4] rfl (by decide) (fun H locs hP hD hS => ?_)
                    refine lv_iinc (v := nI z - 1) (lv' := [(7, .int (nI z - 1)), (0, .ref b0), (1, .long x), (3, .int (nI s1)), (5, .long (fd_bs s1))]) hx hb ndD_add_212 hl (k := 4) rfl (fd_dec _) (by decide) rfl (fun ls hl => ?_)
                    refine lv_goto (tgt := 125) hx hb ndD_add_215 (by decide) ?_
                    exact ih _ _ (by omega) hg _ _ _ hP hD hS (lv_sub hl [1, 2, 3, 4, 0] rfl)
                  refine lv_iload_n hx hb ndD_add_165 rfl (lv_at hl 3 rfl) ?_
                  refine lv_iconst (v := 5) hx hb ndD_add_166 (by decide) ?_
                  refine lv_icmp_ne (tgt := 186) hx hb ndD_add_167 (by decide) (fun c_167 => ?_) (fun c_167 => ?_)
                  · have n_167 := mt (nI_eq (a := s1) (b := 5) (by omega) (by omega)).mpr c_167
                    refine lv_iload hx hb ndD_add_186 (lv_at hl 0 rfl) ?_
                    refine lv_bipush (v := 10) hx hb ndD_add_188 (by decide) ?_
                    refine lv_icmp_ge (tgt := 201) hx hb ndD_add_190 (by decide) (fun c_190 => ?_) (fun c_190 => ?_)
                    · refine lv_bipush (v := 65) hx hb ndD_add_201 (by decide) ?_
                      refine lv_iload hx hb ndD_add_203 (lv_at hl 0 rfl) ?_
                      refine lv_iadd hx hb ndD_add_205 ?_
                      refine lv_bipush (v := 10) hx hb ndD_add_206 (by decide) ?_
                      refine lv_isub hx hb ndD_add_208 ?_
                      refine fd_asi (y := fd_rc s1 x (fd_dd s1 x z)) (by rw [fd_rc, if_neg n_167, if_pos c_190]) ?_
                      exact cut209 _ (lv_sub hl [1, 2, 3, 4, 5] rfl)
                    · refine lv_bipush (v := 48) hx hb ndD_add_193 (by decide) ?_
                      refine lv_iload hx hb ndD_add_195 (lv_at hl 0 rfl) ?_
                      refine lv_iadd hx hb ndD_add_197 ?_
                      refine fd_asi (y := fd_rc s1 x (fd_dd s1 x z)) (by rw [fd_rc, if_neg n_167, if_neg c_190]) ?_
                      refine lv_goto (tgt := 209) hx hb ndD_add_198 (by decide) ?_
                      exact cut209 _ (lv_sub hl [1, 2, 3, 4, 5] rfl)
                  · have n_167 := (nI_eq (a := s1) (b := 5) (by omega) (by omega)).mp c_167
                    refine lv_lload_n hx hb ndD_add_170 rfl (lv_at hl 2 rfl) ?_
                    refine lv_lconst (v := 0) hx hb ndD_add_171 (by decide) ?_
                    refine W.lcmp hx hb ndD_add_172 ?_
                    refine lv_if_ne (tgt := 181) hx hb ndD_add_173 (by decide) (fun c_173 => ?_) (fun c_173 => ?_)
                    · have n_173 := mt (lg_cmp_eq _ _).mpr c_173
                      refine lv_bipush (v := 83) hx hb ndD_add_181 (by decide) ?_
                      refine fd_asi (y := fd_rc s1 x (fd_dd s1 x z)) (by rw [fd_rc, if_pos n_167, if_neg n_173]) ?_
                      refine lv_goto (tgt := 209) hx hb ndD_add_183 (by decide) ?_
                      exact cut209 _ (lv_sub hl [1, 2, 3, 4, 5] rfl)
                    · have n_173 := (lg_cmp_eq _ _).mp c_173
                      refine lv_bipush (v := 67) hx hb ndD_add_176 (by decide) ?_
                      refine fd_asi (y := fd_rc s1 x (fd_dd s1 x z)) (by rw [fd_rc, if_pos n_167, if_pos n_173]) ?_
                      refine lv_goto (tgt := 209) hx hb ndD_add_178 (by decide) ?_
                      exact cut209 _ (lv_sub hl [1, 2, 3, 4, 5] rfl)
                | succ y ih =>
                  intro j hj H locs ls hP hD hS hl
                  refine lv_iload hx hb ndD_add_136 (lv_at hl 6 rfl) ?_
                  refine lv_iload hx hb ndD_add_138 (lv_at hl 4 rfl) ?_
                  refine lv_icmp_ge (tgt := 156) hx hb ndD_add_140 (by decide) (fun c_140 => absurd c_140 (fun h9 => absurd ((nI_leI (a := z) (b := j) (by omega) (by omega)).mp h9) (by omega))) (fun _ => ?_)
                  refine lv_lload hx hb ndD_add_143 (lv_at hl 5 rfl) ?_
                  refine lv_lload hx hb ndD_add_145 (lv_at hl 3 rfl) ?_
                  refine lv_ldiv hx hb ndD_add_147 (fd_bs_ne s1) ?_
                  refine lv_lstore (lv' := [(8, .long ((fd_dv (fd_bs s1) x j) / (fd_bs s1))), (0, .ref b0), (1, .long x), (3, .int (nI s1)), (5, .long (fd_bs s1)), (7, .int (nI z)), (10, .int (nI j))]) hx hb ndD_add_148 hl (by decide) rfl (fun ls hl => ?_)
                  refine lv_iinc (v := nI (j + 1)) (lv' := [(10, .int (nI (j + 1))), (8, .long ((fd_dv (fd_bs s1) x j) / (fd_bs s1))), (0, .ref b0), (1, .long x), (3, .int (nI s1)), (5, .long (fd_bs s1)), (7, .int (nI z))]) hx hb ndD_add_150 hl (k := 6) rfl (nI_1 j) (by decide) rfl (fun ls hl => ?_)
                  refine lv_goto (tgt := 136) hx hb ndD_add_153 (by decide) ?_
                  exact ih (j + 1) (by omega) _ _ _ hP hD hS (lv_sub hl [2, 3, 4, 5, 6, 1, 0] rfl)
              exact loop2 z 0 (by omega) _ _ _ hP hD hS (lv_sub hl [2, 3, 4, 5, 6, 1, 0] rfl)
          exact loop1 w wn go rfl rfl _ _ _ hP hD hS (lv_sub hl [2, 3, 4, 1, 0] rfl)
        refine lv_iload_n hx hb ndD_add_101 rfl (lv_at hl 2 rfl) ?_
        refine lv_iconst (v := 4) hx hb ndD_add_102 (by decide) ?_
        refine lv_icmp_ge (tgt := 112) hx hb ndD_add_103 (by decide) (fun c_103 => ?_) (fun c_103 => ?_)
        · have n_103 := (nI_leI (a := 4) (b := s1) (by omega) (by omega)).mp c_103
          refine lv_ldc2 hx hb hown (hts _ tb_344) ndD_add_112 ?_
          refine fd_asl (y := fd_bs s1) (fd_bs_ge h8 n_103) ?_
          exact cut115 _ (lv_sub hl [0, 1, 2] rfl)
        · have n_103 := mt (nI_leI (a := 4) (b := s1) (by omega) (by omega)).mpr c_103
          refine lv_ldc2 hx hb hown (hts _ tb_343) ndD_add_106 ?_
          refine fd_asl (y := fd_bs s1) (fd_bs_lt h1 n_103) ?_
          refine lv_goto (tgt := 115) hx hb ndD_add_109 (by decide) ?_
          exact cut115 _ (lv_sub hl [0, 1, 2] rfl)
      refine lv_iload hx hb ndD_add_68 (lv_at hl 3 rfl) ?_
      refine lv_if_eq (tgt := 81) hx hb ndD_add_70 (by decide) (fun c_70 => ?_) (fun c_70 => ?_)
      · exact cut81 _ (lv_sub hl [0, 1, 2, 3] rfl)
      · refine lv_lload_n hx hb ndD_add_73 rfl (lv_at hl 1 rfl) ?_
        refine lv_lconst (v := 0) hx hb ndD_add_74 (by decide) ?_
        refine W.lcmp hx hb ndD_add_75 ?_
        refine lv_if_eq (tgt := 81) hx hb ndD_add_76 (by decide) (fun _ => ?_) (fun c_76 => absurd ((lg_cmp_eq _ _).mpr (hx3.resolve_left c_70)) c_76)
        exact cut81 _ (lv_sub hl [0, 1, 2, 3] rfl)
    refine lv_lload_n hx hb ndD_add_43 rfl (lv_at hl 2 rfl) ?_
    refine lv_iload_n hx hb ndD_add_44 rfl (lv_at hl 3 rfl) ?_
    refine lv_bipush (v := 6) hx hb ndD_add_45 (by decide) ?_
    refine lv_icmp_le (tgt := 54) hx hb ndD_add_47 (by decide) (fun c_47 => ?_) (fun c_47 => ?_)
    · have n_47 := (nI_leI (a := s1) (b := 6) (by omega) (by omega)).mp c_47
      refine lv_lconst (v := 0) hx hb ndD_add_54 (by decide) ?_
      refine fd_asl (y := fd_lo s1) (by rw [fd_lo, if_pos n_47]) ?_
      exact cut55 _ (lv_sub hl [1, 2, 3, 0] rfl)
    · have n_47 := mt (nI_leI (a := s1) (b := 6) (by omega) (by omega)).mpr c_47
      refine lv_lconst (v := 1) hx hb ndD_add_50 (by decide) ?_
      refine fd_asl (y := fd_lo s1) (by rw [fd_lo, if_neg n_47]) ?_
      refine lv_goto (tgt := 55) hx hb ndD_add_51 (by decide) ?_
      exact cut55 _ (lv_sub hl [1, 2, 3, 0] rfl)
  refine lv_aload_n hx hb ndD_add_5 rfl (lv_at hl 1 rfl) ?_
  refine va_get (D := D) (ci := 3) (v := .int (nI od)) (C := nR_D) (T := nT_D) (N := 11) hx hb hts in_D hown hK hP 0 rfl rfl 5 (by decide) (hts _ tb_253) (fun _ h9 => h9) rfl ndD_add_6 ?_
  refine lv_iconst (v := 2) hx hb ndD_add_9 (by decide) ?_
  refine lv_icmp_ne (tgt := 36) hx hb ndD_add_10 (by decide) (fun c_10 => ?_) (fun c_10 => ?_)
  · have n_10 := mt (nI_eq (a := od) (b := 2) (by omega) (by omega)).mpr c_10
    refine lv_iconst (v := 0) hx hb ndD_add_36 (by decide) ?_
    refine fd_asi (y := fd_mz od ok gn) (fd_mz4 n_10) ?_
    exact cut37 _ (lv_sub hl [1, 2, 0] rfl)
  · have n_10 := (nI_eq (a := od) (b := 2) (by omega) (by omega)).mp c_10
    refine lv_aload_n hx hb ndD_add_13 rfl (lv_at hl 1 rfl) ?_
    refine va_get (D := D) (ci := 3) (v := .int (nI ok)) (C := nR_D) (T := nT_D) (N := 11) hx hb hts in_D hown hK hP 0 rfl rfl 9 (by decide) (hts _ tb_257) (fun _ h9 => h9) rfl ndD_add_14 ?_
    refine lv_iconst (v := 3) hx hb ndD_add_17 (by decide) ?_
    refine lv_icmp_le (tgt := 36) hx hb ndD_add_18 (by decide) (fun c_18 => ?_) (fun c_18 => ?_)
    · have n_18 := (nI_leI (a := ok) (b := 3) (by omega) (by omega)).mp c_18
      refine lv_iconst (v := 0) hx hb ndD_add_36 (by decide) ?_
      refine fd_asi (y := fd_mz od ok gn) (fd_mz3 n_10 n_18) ?_
      exact cut37 _ (lv_sub hl [1, 2, 0] rfl)
    · have n_18 := mt (nI_leI (a := ok) (b := 3) (by omega) (by omega)).mpr c_18
      refine lv_aload_n hx hb ndD_add_21 rfl (lv_at hl 1 rfl) ?_
      refine va_get (D := D) (ci := 3) (v := .ref b4) (C := nR_D) (T := nT_D) (N := 11) hx hb hts in_D hown hK hP 0 rfl rfl 10 (by decide) (hts _ tb_258) (fun _ h9 => h9) rfl ndD_add_22 ?_
      refine lv_iconst (v := 3) hx hb ndD_add_25 (by decide) ?_
      refine fd_asi (y := nI 3) rfl ?_
      refine fd_lald hx hb hK hP 4 1 (k := 3) rfl rfl (by omega) (by omega) ndD_add_26 ?_
      refine lv_lconst (v := 0) hx hb ndD_add_27 (by decide) ?_
      refine W.lcmp hx hb ndD_add_28 ?_
      refine lv_if_ne (tgt := 36) hx hb ndD_add_29 (by decide) (fun c_29 => ?_) (fun c_29 => ?_)
      · have n_29 := mt (lg_cmp_eq _ _).mpr c_29
        refine lv_iconst (v := 0) hx hb ndD_add_36 (by decide) ?_
        refine fd_asi (y := fd_mz od ok gn) (fd_mz2 n_10 n_18 (by omega) n_29) ?_
        exact cut37 _ (lv_sub hl [1, 2, 0] rfl)
      · have n_29 := (lg_cmp_eq _ _).mp c_29
        refine lv_iconst (v := 1) hx hb ndD_add_32 (by decide) ?_
        refine fd_asi (y := fd_mz od ok gn) (fd_mz1 n_10 n_18 (by omega) n_29) ?_
        refine lv_goto (tgt := 37) hx hb ndD_add_33 (by decide) ?_
        exact cut37 _ (lv_sub hl [1, 2, 0] rfl)
set_option maxHeartbeats 4000000 in
set_option maxRecDepth 100000 in
theorem kD_kindOf (l : Launch) (D : va_G) (Z : Nat → Nat) (cI cL : ClassId) {b0 b1 b2 b3 b4 n kd k od wn ok : Nat} {g go : Nat → Int32} {rn gn : Nat → Int64} {cf : Int32} (hn : n ≤ 400) (hkd : kd ≤ 15) (hk : k ≤ 20) (hwn : wn ≤ 123) (hod : od ≤ 15) (hok : ok ≤ 20) {sg : Nat} (hsg : sg ≤ 3) (hsn : sg ≤ n) : fd_Mi l D fd_cl (fd_ty cI cL) (fd_EV Z) nyD_kindOf (.code nyD_kindOf ncD_kindOf 5 (some .int) :: fd_TB) nmD_kindOf [.ref b0, .int (nI sg)] [(b0, .inr (3, [.ref b1, .int (nI n), .int (nI kd), .int (nI k), .ref b2, .int (nI od), .int cf, .int (nI wn), .ref b3, .int (nI ok), .ref b4])), (b1, .inl (cI, 400, .inl g)), (b2, .inl (cL, 24, .inr (.inl rn))), (b3, .inl (cI, 200, .inl go)), (b4, .inl (cL, 24, .inr (.inl gn)))] [(b0, .inr (3, [.ref b1, .int (nI n), .int (nI kd), .int (nI k), .ref b2, .int (nI od), .int cf, .int (nI wn), .ref b3, .int (nI ok), .ref b4])), (b1, .inl (cI, 400, .inl g)), (b2, .inl (cL, 24, .inr (.inl rn))), (b3, .inl (cI, 200, .inl go)), (b4, .inl (cL, 24, .inr (.inl gn)))] (nI (fd_kn g n sg)) := by
  refine fd_open_i (cc := ncD_kindOf) (maxL := 5) (ret := (some .int)) (by decide) rfl (Nat.le_of_ble_eq_true rfl) ?_
  intro p e s m below meth c A ls X hP hD hS hl
  obtain ⟨hx, hb, hr, hml, hown, hts0, hlocks, hK, hEV, hA⟩ := X
  have hts : ∀ w ∈ fd_TB, w.before _ s = true := fun w h => hts0 w (List.mem_cons_of_mem _ h)
  have hE := fd_EV_ok Z
  have hown : s.vm.findClass "FieldDeskModel" = some m.cls := hown
  have hl : lv_has ls 5 [(0, .ref b0), (1, .int (nI sg))] := hl
  refine lv_iconst (v := 1) hx hb ndD_kindOf_0 (by decide) ?_
  refine lv_istore_n (lv' := [(2, .int 1), (0, .ref b0), (1, .int (nI sg))]) hx hb ndD_kindOf_1 rfl hl (by decide) rfl (fun ls hl => ?_)
  have loop1 : ∀ (z : Nat) (q : Nat) (hq : q + z = 16) (hq1 : 1 ≤ q) (hk9 : fd_kw g n sg z q = fd_kw g n sg 15 1) (H : Heap) (locs : List Loc) (ls : Array Slot), va_P D fd_cl [(b0, .inr (3, [.ref b1, .int (nI n), .int (nI kd), .int (nI k), .ref b2, .int (nI od), .int cf, .int (nI wn), .ref b3, .int (nI ok), .ref b4])), (b1, .inl (cI, 400, .inl g)), (b2, .inl (cL, 24, .inr (.inl rn))), (b3, .inl (cI, 200, .inl go)), (b4, .inl (cL, 24, .inr (.inl gn)))] H → va_D A [(b0, .inr (3, [.ref b1, .int (nI n), .int (nI kd), .int (nI k), .ref b2, .int (nI od), .int cf, .int (nI wn), .ref b3, .int (nI ok), .ref b4])), (b1, .inl (cI, 400, .inl g)), (b2, .inl (cL, 24, .inr (.inl rn))), (b3, .inl (cI, 200, .inl go)), (b4, .inl (cL, 24, .inr (.inl gn)))] → va_S A s.heap H locs → lv_has ls 5 [(0, .ref b0), (1, .int (nI sg)), (2, .int (nI q))] → W p l e nmD_kindOf s m ([.ref b0, .int (nI sg)].toArray) below meth c H locs 0 0 (MQ below (va_Qi (fun r' (_ : Unit) => r' = (nI (fd_kn g n sg))) (fd_B D fd_cl A [(b0, .inr (3, [.ref b1, .int (nI n), .int (nI kd), .int (nI k), .ref b2, .int (nI od), .int cf, .int (nI wn), .ref b3, .int (nI ok), .ref b4])), (b1, .inl (cI, 400, .inl g)), (b2, .inl (cL, 24, .inr (.inl rn))), (b3, .inl (cI, 200, .inl go)), (b4, .inl (cL, 24, .inr (.inl gn)))]) A) [.ref b0, .int (nI sg)].toArray s 0 0 A) (F0 m 2 ls []) := by
    intro z
    induction z with
    | zero =>
      intro q hq hq1 hk9 H locs ls hP hD hS hl
      refine lv_iload_n hx hb ndD_kindOf_2 rfl (lv_at hl 2 rfl) ?_
      refine lv_bipush (v := 16) hx hb ndD_kindOf_3 (by decide) ?_
      refine lv_icmp_ge (tgt := 63) hx hb ndD_kindOf_5 (by decide) (fun _ => ?_) (fun c_5 => absurd ((nI_leI (a := 16) (b := q) (by omega) (by omega)).mpr (by omega)) c_5)
      refine lv_iconst (v := 0) hx hb ndD_kindOf_63 (by decide) ?_
      exact fd_ret_i hx hb hr hlocks hS hP hD rfl (by rw [fd_kn, ← hk9]; rfl) ndD_kindOf_64
    | succ z ih =>
      intro q hq hq1 hk9 H locs ls hP hD hS hl
      refine lv_iload_n hx hb ndD_kindOf_2 rfl (lv_at hl 2 rfl) ?_
      refine lv_bipush (v := 16) hx hb ndD_kindOf_3 (by decide) ?_
      refine lv_icmp_ge (tgt := 63) hx hb ndD_kindOf_5 (by decide) (fun c_5 => absurd c_5 (fun h9 => absurd ((nI_leI (a := 16) (b := q) (by omega) (by omega)).mp h9) (by omega))) (fun _ => ?_)
      refine lv_iconst (v := 1) hx hb ndD_kindOf_8 (by decide) ?_
      refine fd_asi (y := fd_bg g n q 0) (fd_bg_0 g n q).symm ?_
      refine lv_istore_n (lv' := [(3, .int (fd_bg g n q 0)), (0, .ref b0), (1, .int (nI sg)), (2, .int (nI q))]) hx hb ndD_kindOf_9 rfl hl (by decide) rfl (fun ls hl => ?_)
      refine lv_iconst (v := 0) hx hb ndD_kindOf_10 (by decide) ?_
      refine lv_istore (lv' := [(4, .int 0), (3, .int (fd_bg g n q 0)), (0, .ref b0), (1, .int (nI sg)), (2, .int (nI q))]) hx hb ndD_kindOf_11 hl (by decide) rfl (fun ls hl => ?_)
      have loop2 : ∀ (y : Nat) (i : Nat) (hi : i + y = sg) (H : Heap) (locs : List Loc) (ls : Array Slot), va_P D fd_cl [(b0, .inr (3, [.ref b1, .int (nI n), .int (nI kd), .int (nI k), .ref b2, .int (nI od), .int cf, .int (nI wn), .ref b3, .int (nI ok), .ref b4])), (b1, .inl (cI, 400, .inl g)), (b2, .inl (cL, 24, .inr (.inl rn))), (b3, .inl (cI, 200, .inl go)), (b4, .inl (cL, 24, .inr (.inl gn)))] H → va_D A [(b0, .inr (3, [.ref b1, .int (nI n), .int (nI kd), .int (nI k), .ref b2, .int (nI od), .int cf, .int (nI wn), .ref b3, .int (nI ok), .ref b4])), (b1, .inl (cI, 400, .inl g)), (b2, .inl (cL, 24, .inr (.inl rn))), (b3, .inl (cI, 200, .inl go)), (b4, .inl (cL, 24, .inr (.inl gn)))] → va_S A s.heap H locs → lv_has ls 5 [(0, .ref b0), (1, .int (nI sg)), (2, .int (nI q)), (3, .int (fd_bg g n q i)), (4, .int (nI i))] → W p l e nmD_kindOf s m ([.ref b0, .int (nI sg)].toArray) below meth c H locs 0 0 (MQ below (va_Qi (fun r' (_ : Unit) => r' = (nI (fd_kn g n sg))) (fd_B D fd_cl A [(b0, .inr (3, [.ref b1, .int (nI n), .int (nI kd), .int (nI k), .ref b2, .int (nI od), .int cf, .int (nI wn), .ref b3, .int (nI ok), .ref b4])), (b1, .inl (cI, 400, .inl g)), (b2, .inl (cL, 24, .inr (.inl rn))), (b3, .inl (cI, 200, .inl go)), (b4, .inl (cL, 24, .inr (.inl gn)))]) A) [.ref b0, .int (nI sg)].toArray s 0 0 A) (F0 m 13 ls []) := by
        intro y
        induction y with
        | zero =>
          intro i hi H locs ls hP hD hS hl
          have e9 : sg = i := by omega
          subst e9
          refine lv_iload hx hb ndD_kindOf_13 (lv_at hl 4 rfl) ?_
          refine lv_iload_n hx hb ndD_kindOf_15 rfl (lv_at hl 1 rfl) ?_
          refine lv_icmp_ge (tgt := 51) hx hb ndD_kindOf_16 (by decide) (fun _ => ?_) (fun c_16 => absurd ((nI_leI (a := sg) (b := sg) (by omega) (by omega)).mpr (by omega)) c_16)
          refine lv_iload_n hx hb ndD_kindOf_51 rfl (lv_at hl 3 rfl) ?_
          refine lv_if_eq (tgt := 57) hx hb ndD_kindOf_52 (by decide) (fun c_52 => ?_) (fun c_52 => ?_)
          · refine lv_iinc (v := nI (q + 1)) (lv' := [(2, .int (nI (q + 1))), (0, .ref b0), (1, .int (nI sg)), (3, .int (fd_bg g n q sg)), (4, .int (nI sg))]) hx hb ndD_kindOf_57 hl (k := 2) rfl (nI_1 q) (by decide) rfl (fun ls hl => ?_)
            refine lv_goto (tgt := 2) hx hb ndD_kindOf_60 (by decide) ?_
            exact ih (q + 1) (by omega) (by omega) (by rw [← hk9, fd_kw, if_pos c_52]) _ _ _ hP hD hS (lv_sub hl [1, 2, 0] rfl)
          · refine lv_iload_n hx hb ndD_kindOf_55 rfl (lv_at hl 2 rfl) ?_
            exact fd_ret_i hx hb hr hlocks hS hP hD rfl (by rw [fd_kn, ← hk9, fd_kw, if_neg c_52]) ndD_kindOf_56
        | succ y ih =>
          intro i hi H locs ls hP hD hS hl
          refine lv_iload hx hb ndD_kindOf_13 (lv_at hl 4 rfl) ?_
          refine lv_iload_n hx hb ndD_kindOf_15 rfl (lv_at hl 1 rfl) ?_
          refine lv_icmp_ge (tgt := 51) hx hb ndD_kindOf_16 (by decide) (fun c_16 => absurd c_16 (fun h9 => absurd ((nI_leI (a := sg) (b := i) (by omega) (by omega)).mp h9) (by omega))) (fun _ => ?_)
          refine lv_iload_n hx hb ndD_kindOf_19 rfl (lv_at hl 3 rfl) ?_
          refine lv_if_eq (tgt := 43) hx hb ndD_kindOf_20 (by decide) (fun c_20 => ?_) (fun c_20 => ?_)
          · refine lv_iconst (v := 0) hx hb ndD_kindOf_43 (by decide) ?_
            refine fd_asi (y := fd_bg g n q (i + 1)) (fd_bg_a c_20) ?_
            refine lv_istore_n (lv' := [(3, .int (fd_bg g n q (i + 1))), (0, .ref b0), (1, .int (nI sg)), (2, .int (nI q)), (4, .int (nI i))]) hx hb ndD_kindOf_44 rfl hl (by decide) rfl (fun ls hl => ?_)
            refine lv_iinc (v := nI (i + 1)) (lv' := [(4, .int (nI (i + 1))), (3, .int (fd_bg g n q (i + 1))), (0, .ref b0), (1, .int (nI sg)), (2, .int (nI q))]) hx hb ndD_kindOf_45 hl (k := 4) rfl (nI_1 i) (by decide) rfl (fun ls hl => ?_)
            refine lv_goto (tgt := 13) hx hb ndD_kindOf_48 (by decide) ?_
            exact ih (i + 1) (by omega) _ _ _ hP hD hS (lv_sub hl [2, 3, 4, 1, 0] rfl)
          · refine lv_aload_n hx hb ndD_kindOf_23 rfl (lv_at hl 0 rfl) ?_
            refine va_get (D := D) (ci := 3) (v := .ref b1) (C := nR_D) (T := nT_D) (N := 11) hx hb hts in_D hown hK hP 0 rfl rfl 0 (by decide) (hts _ tb_248) (fun _ h9 => h9) rfl ndD_kindOf_24 ?_
            refine lv_iload hx hb ndD_kindOf_27 (lv_at hl 4 rfl) ?_
            refine fd_iald hx hb hK hP 1 0 (k := i) rfl rfl (by omega) (by omega) ndD_kindOf_29 ?_
            refine lv_iload_n hx hb ndD_kindOf_30 rfl (lv_at hl 2 rfl) ?_
            refine lv_iload hx hb ndD_kindOf_31 (lv_at hl 4 rfl) ?_
            refine fd_go_i (wr := [(b0, .inr (3, [.ref b1, .int (nI n), .int (nI kd), .int (nI k), .ref b2, .int (nI od), .int cf, .int (nI wn), .ref b3, .int (nI ok), .ref b4])), (b1, .inl (cI, 400, .inl g)), (b2, .inl (cL, 24, .inr (.inl rn))), (b3, .inl (cI, 200, .inl go)), (b4, .inl (cL, 24, .inr (.inl gn)))]) (w2 := [(b0, .inr (3, [.ref b1, .int (nI n), .int (nI kd), .int (nI k), .ref b2, .int (nI od), .int cf, .int (nI wn), .ref b3, .int (nI ok), .ref b4])), (b1, .inl (cI, 400, .inl g)), (b2, .inl (cL, 24, .inr (.inl rn))), (b3, .inl (cI, 200, .inl go)), (b4, .inl (cL, 24, .inr (.inl gn)))]) (va_runS (As := [.int (nI q), .int (nI i)]) (rest := [.int (g i)]) ⟨hx, hb, hml, hown, hts⟩ (kD_letter l D Z cI cL (kd := q) (i := i) (by omega) (by omega) (by omega) H.size) (va_cwS 2 hts (fd_gS tb_282 tb_283 tb_16 tb_284) rfl rfl rfl nhD_letter.2 ⟨(Nat.le_of_ble_eq_true rfl), (Nat.le_of_ble_eq_true rfl)⟩) (fd_PreS hE hK hEV hA hP hD hS [] rfl (by decide)) rfl rfl hl.1 rfl (lv_room (Nat.le_of_ble_eq_true rfl)) ndD_kindOf_33 ⟨(Nat.le_of_ble_eq_true rfl), (Nat.le_of_ble_eq_true rfl)⟩) hP hD hS hA [] [0, 1, 2, 3, 4] rfl rfl (by decide) (by decide) [0, 1, 2, 3, 4] rfl (by decide) (fun H locs hP hD hS => ?_)
            refine lv_icmp_ne (tgt := 43) hx hb ndD_kindOf_36 (by decide) (fun c_36 => ?_) (fun c_36 => ?_)
            · refine lv_iconst (v := 0) hx hb ndD_kindOf_43 (by decide) ?_
              refine fd_asi (y := fd_bg g n q (i + 1)) (fd_bg_b (by omega) hn c_36) ?_
              refine lv_istore_n (lv' := [(3, .int (fd_bg g n q (i + 1))), (0, .ref b0), (1, .int (nI sg)), (2, .int (nI q)), (4, .int (nI i))]) hx hb ndD_kindOf_44 rfl hl (by decide) rfl (fun ls hl => ?_)
              refine lv_iinc (v := nI (i + 1)) (lv' := [(4, .int (nI (i + 1))), (3, .int (fd_bg g n q (i + 1))), (0, .ref b0), (1, .int (nI sg)), (2, .int (nI q))]) hx hb ndD_kindOf_45 hl (k := 4) rfl (nI_1 i) (by decide) rfl (fun ls hl => ?_)
              refine lv_goto (tgt := 13) hx hb ndD_kindOf_48 (by decide) ?_
              exact ih (i + 1) (by omega) _ _ _ hP hD hS (lv_sub hl [2, 3, 4, 1, 0] rfl)
            · refine lv_iconst (v := 1) hx hb ndD_kindOf_39 (by decide) ?_
              refine fd_asi (y := fd_bg g n q (i + 1)) (fd_bg_c (by omega) hn c_20 c_36) ?_
              refine lv_goto (tgt := 44) hx hb ndD_kindOf_40 (by decide) ?_
              refine lv_istore_n (lv' := [(3, .int (fd_bg g n q (i + 1))), (0, .ref b0), (1, .int (nI sg)), (2, .int (nI q)), (4, .int (nI i))]) hx hb ndD_kindOf_44 rfl hl (by decide) rfl (fun ls hl => ?_)
              refine lv_iinc (v := nI (i + 1)) (lv' := [(4, .int (nI (i + 1))), (3, .int (fd_bg g n q (i + 1))), (0, .ref b0), (1, .int (nI sg)), (2, .int (nI q))]) hx hb ndD_kindOf_45 hl (k := 4) rfl (nI_1 i) (by decide) rfl (fun ls hl => ?_)
              refine lv_goto (tgt := 13) hx hb ndD_kindOf_48 (by decide) ?_
              exact ih (i + 1) (by omega) _ _ _ hP hD hS (lv_sub hl [2, 3, 4, 1, 0] rfl)
      exact loop2 sg 0 (by omega) _ _ _ hP hD hS (lv_sub hl [2, 3, 4, 1, 0] rfl)
  exact loop1 15 1 (by omega) (by omega) rfl _ _ _ hP hD hS (lv_sub hl [1, 2, 0] rfl)
