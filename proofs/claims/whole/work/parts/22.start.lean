/-! what the start gives: tables, text constant, array classes; rows for the law's loop -/
theorem fd_tab1 {args : Array Value} {s : State} {A : Nat → Prop} {n : String} {tb : List Int32} (hl : (Cond.laysStatic "FieldDesk" n "[I").before args s = true) (hini : (Cond.initialized "FieldDesk").before args s = true) (harr : (Cond.arrayOf (.static "FieldDesk" n "[I") .int).before args s = true) (hlen : (Cond.eq (.length (.static "FieldDesk" n "[I")) (.int (Int32.ofNat tb.length))).before args s = true)
    (hel : ∀ j, j < tb.length → (Cond.eq (.elem (.static "FieldDesk" n "[I") (.int (Int32.ofNat j))) (.int (tb.getD j 0))).before args s = true) (hN : tb.length < 2 ^ 31) (hA : ∀ a : Nat, a < s.heap.size → ¬ A a) : ∃ t, va_Z "FieldDesk" n "[I" (.ref t) A s s.heap ∧ va_T .int t tb.length (fun j => .int (tb.getD j 0)) A s s.heap := by
  obtain ⟨t, ht, hT⟩ := va_Tof (f := fun j => .int (tb.getD j 0)) (A := A) hN harr (va_eqt hlen) (fun j hj => va_eqt (hel j hj)) hA
  exact ⟨t, va_Zref hl hini ht hA, hT⟩
set_option maxRecDepth 100000 in
theorem fd_EV_start {p : Program} {s : State} {m : MethodId} {meth : Method} {c : Code} {b L : Nat} {xs : Nat → Int32} (C0 : lw_At p s m meth c b L xs) {A : Nat → Prop} (hA : ∀ a : Nat, a < s.heap.size → ¬ A a) : ∃ Z : Nat → Nat, fd_EV Z A s s.heap := by
  obtain ⟨-, -, -, -, -, hts, -, -, -, hgv⟩ := C0
  have hs := flat_of_before _ hgv
  have hini : (Cond.initialized "FieldDesk").before #[Value.ref b] s = true := hts _ (by decide +kernel)
  obtain ⟨t0, z0, e0⟩ := fd_tab1 (n := "SIGNS") (tb := fd_tab 0) (hts _ (by decide +kernel)) hini (hs _ (by decide +kernel)) (hs _ (by decide +kernel)) (fun j hj => hs _ (va_run (p := 112) (f := fun j => Cond.eq (.elem (.static "FieldDesk" "SIGNS" "[I") (.int (Int32.ofNat j))) (.int ((fd_tab 0).getD j 0))) (by decide +kernel) j hj)) (by decide) hA
  obtain ⟨t1, z1, e1⟩ := fd_tab1 (n := "LEAST_VALUE") (tb := fd_tab 1) (hts _ (by decide +kernel)) hini (hs _ (by decide +kernel)) (hs _ (by decide +kernel)) (fun j hj => hs _ (va_run (p := 124) (f := fun j => Cond.eq (.elem (.static "FieldDesk" "LEAST_VALUE" "[I") (.int (Int32.ofNat j))) (.int ((fd_tab 1).getD j 0))) (by decide +kernel) j hj)) (by decide) hA
  obtain ⟨t2, z2, e2⟩ := fd_tab1 (n := "MOST_VALUE") (tb := fd_tab 2) (hts _ (by decide +kernel)) hini (hs _ (by decide +kernel)) (hs _ (by decide +kernel)) (fun j hj => hs _ (va_run (p := 136) (f := fun j => Cond.eq (.elem (.static "FieldDesk" "MOST_VALUE" "[I") (.int (Int32.ofNat j))) (.int ((fd_tab 2).getD j 0))) (by decide +kernel) j hj)) (by decide) hA
  obtain ⟨t3, z3, e3⟩ := fd_tab1 (n := "KIND_SORTS") (tb := fd_tab 3) (hts _ (by decide +kernel)) hini (hs _ (by decide +kernel)) (hs _ (by decide +kernel)) (fun j hj => hs _ (va_run (p := 19) (f := fun j => Cond.eq (.elem (.static "FieldDesk" "KIND_SORTS" "[I") (.int (Int32.ofNat j))) (.int ((fd_tab 3).getD j 0))) (by decide +kernel) j hj)) (by decide) hA
  obtain ⟨t4, z4, e4⟩ := fd_tab1 (n := "LEG_SORTS") (tb := fd_tab 4) (hts _ (by decide +kernel)) hini (hs _ (by decide +kernel)) (hs _ (by decide +kernel)) (fun j hj => hs _ (va_run (p := 12) (f := fun j => Cond.eq (.elem (.static "FieldDesk" "LEG_SORTS" "[I") (.int (Int32.ofNat j))) (.int ((fd_tab 4).getD j 0))) (by decide +kernel) j hj)) (by decide) hA
  obtain ⟨t5, h5, e5⟩ := va_Tof (tm := .static "FieldDesk" "MOST_NUMBER" "[J") (ty := .long) (N := 9) (f := fun j => .long (fd_mn.getD j 0)) (A := A) (by decide) (hs _ (by decide +kernel)) (va_eqt (hs _ (by decide +kernel))) (fun j hj => va_eqtl (hs _ (va_run (p := 148) (f := fun j => Cond.eq (.elem (.static "FieldDesk" "MOST_NUMBER" "[J") (.int (Int32.ofNat j))) (.long (fd_mn.getD j 0))) (by decide +kernel) j hj))) hA
  have z5 : va_Z "FieldDesk" "MOST_NUMBER" "[J" (.ref t5) A s s.heap := va_Zref (hts _ (by decide +kernel)) hini h5 hA
  obtain ⟨adK, adV, hSt, hev⟩ := vk_Sof (args := #[Value.ref b]) (s := s) (N := 1) (tm := fun _ => .string "FieldDesk" 155) (len := [45]) (byt := [fd_kl]) (A := A) (fun i hi => by rw [show i = 0 by omega]; decide) (fun i hi => hs _ (by decide +kernel)) (fun i hi => hs _ (by decide +kernel)) (fun i hi => hs _ (by decide +kernel)) (fun i hi => by rw [show i = 0 by omega]; exact hs _ (by decide +kernel))
    (fun i hi j hj => by
      have e : i = 0 := by omega
      subst e
      exact hs _ (va_run (p := 161) (N := 45) (f := fun j => Cond.eq (.elem (.field (.string "FieldDesk" 155) "java/lang/String" "value" "[B") (.int (Int32.ofNat j))) (.int (fd_kl.getD j 0))) (by decide +kernel) j hj))
    (fun i j hi hj hne => absurd (show i = j by omega) hne) hA
  obtain ⟨q6, q7, q8, q9⟩ := hSt.1 0 (by omega)
  refine ⟨fun i => [t0, t1, t2, t3, t4, t5, adK 0, adV 0].getD i 0, ?_, vk_R.of (hts _ (by decide +kernel)) (hev 0 (by omega)), va_Zof (hts _ (by decide +kernel)) (hts _ (by decide +kernel)) (va_eqi (hs _ (by decide +kernel))) hA, ?_, ⟨z5, e5⟩, q6, q7, q8, q9, va_Zqof (hts _ (by decide +kernel)) (hts _ (by decide +kernel)) (hs _ (by decide +kernel)) hA⟩
  · intro w hw
    exact va_Nw.of (List.all_eq_true.mp fd_NB_on w hw) (hts w (fd_NB_in w hw))
  · intro k hk
    rcases (show k = 0 ∨ k = 1 ∨ k = 2 ∨ k = 3 ∨ k = 4 by omega) with rfl | rfl | rfl | rfl | rfl
    · exact ⟨z0, e0⟩
    · exact ⟨z1, e1⟩
    · exact ⟨z2, e2⟩
    · exact ⟨z3, e3⟩
    · exact ⟨z4, e4⟩
theorem fd_arr {args : Array Value} {s : State} {t : FieldType} (ht : t = .int ∨ t = .long) (h : (Cond.arrayClass t).before args s = true) : ∃ cA, ArrOfT s cA t ∧ va_RA s cA t := by
  obtain ⟨cA, kA, comp, h1, h2, h3⟩ := Cond.arrayClass_spec h
  rcases ht with rfl | rfl
  · exact ⟨cA, fun n z => ⟨fun k h => (by cases h), kA, h2, comp, h3⟩, h1⟩
  · exact ⟨cA, fun n z => ⟨fun k h => (by cases h), kA, h2, comp, h3⟩, h1⟩
theorem fd_lw {L t : Nat} (hL : L ≤ 2048) (ht : t ≤ 600) (h : ¬ nI L - 4 < nI (4 * t)) : 4 * t + 4 ≤ L := by
  rw [Int32.lt_iff_toInt_lt, show (4 : Int32) = nI 4 from rfl, pk_sub_toInt (by omega) (by omega), nI_toInt (by omega)] at h
  omega
section Sld
variable {p : Program} {l : Launch} {e : Env} {R : Room} {s : State} {m : MethodId} {args : Array Value} {below : List Frame} {meth : Method} {c : Code} {H H0 : Heap} {locs : List Loc} {cells slots : Nat} {Q : State → Prop} {cc : ByteArray} {pc : Nat} {ls : Array Slot} {rest : List Value} {A : Nat → Prop}
theorem fd_sld (hexec : p.tables.exec = Jvm.exec) (hb : c.code = cc) {b L k : Nat} {xs : Nat → Int32} (hX : va_X b L xs s H0) (hbl : b < H0.size) (hbA : ¬ A b) (hS : va_S A H0 H locs) (hk : k < L) (hL : L < 2 ^ 31) (hdg : decode cc pc = .ok (.iaload, 1))
    (kk : W p l e R s m args below meth c H locs cells slots Q (F0 m (pc + 1) ls (.int (xs k) :: rest))) : W p l e R s m args below meth c H locs cells slots Q (F0 m pc ls (.int (nI k) :: .ref b :: rest)) := by
  refine va_sld hexec hb hX hbl hbA hS (vp_in_nI hk hL) hdg ?_
  rw [nI_clamp (by omega)]; exact kk
end Sld
theorem fd_tyes {n : Nat} {q : Int32} (hn : n ≤ 400) (h : ¬ (q < 1 ∨ 8 < q ∨ nI (400 - n) < q)) : ∃ j : Nat, q = nI j ∧ 1 ≤ j ∧ j ≤ 8 ∧ n + j ≤ 400 := by
  have h1 : ¬ q < 1 := fun a => h (Or.inl a)
  have h2 : ¬ 8 < q := fun a => h (Or.inr (Or.inl a))
  have h3 : ¬ nI (400 - n) < q := fun a => h (Or.inr (Or.inr a))
  have h0 : ¬ q < 0 := fun h => h1 (Int32.lt_trans h (by decide))
  obtain ⟨j, hj, rfl⟩ := nI_of2 (n := 8) (M := 8) (by decide) h0 (Int32.not_lt.mp h2)
  have a := mt (nI_ltI (a := j) (b := 1) (by omega) (by omega)).mpr h1
  have b := mt (nI_ltI (a := 400 - n) (b := j) (by omega) (by omega)).mpr h3
  exact ⟨j, rfl, by omega, hj, by omega⟩
theorem fd_byes {q : Int32} (h : ¬ (q < 1 ∨ 15 < q)) : ∃ j : Nat, q = nI j ∧ 1 ≤ j ∧ j ≤ 15 := by
  have h1 : ¬ q < 1 := fun a => h (Or.inl a)
  have h2 : ¬ 15 < q := fun a => h (Or.inr a)
  have h0 : ¬ q < 0 := fun h => h1 (Int32.lt_trans h (by decide))
  obtain ⟨j, hj, rfl⟩ := nI_of2 (n := 15) (M := 15) (by decide) h0 (Int32.not_lt.mp h2)
  have a := mt (nI_ltI (a := j) (b := 1) (by omega) (by omega)).mpr h1
  exact ⟨j, rfl, by omega, hj⟩
theorem fd_due_ex0 {q k : Nat} (h15 : q ≤ 15) (hk : k ≤ 20) (fn : Nat → Int64) : ∃ s, s ≤ 8 ∧ fd_due q k fn = nI s := by
  rcases Nat.lt_or_ge q 1 with a | a
  · exact ⟨0, by omega, by rw [fd_due, if_pos a]; rfl⟩
  · exact fd_due_ex a h15 hk fn
theorem fd_IC_0 (on gn : Nat → Int64) (wf go : Nat → Int32) : fd_IC 0 0 on gn 0 0 wf go :=
  ⟨by omega, by omega, fun j h => absurd h (by omega), fun h => absurd h (by omega), fun i h => absurd h (by omega), fun i h => absurd h (by omega), Or.inl ⟨rfl, rfl, rfl⟩⟩
