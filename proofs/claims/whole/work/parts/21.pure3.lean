/-! the coupling: what is written -/
theorem fd_wl1 : ∀ od, od < 16 → 1 ≤ od → fd_wl od 1 20 ≤ 121 := by decide +kernel
theorem fd_wl2 : ∀ od, od < 16 → 1 ≤ od → fd_wl od 2 20 ≤ 121 := by decide +kernel
theorem fd_wl3 : ∀ od, od < 16 → 1 ≤ od → fd_wl od 3 20 ≤ 121 := by decide +kernel
theorem fd_wl4 : ∀ od, od < 16 → 1 ≤ od → fd_wl od 4 20 ≤ 121 := by decide +kernel
theorem fd_wl_mono (od : Nat) (x : Int64) (k : Nat) : ∀ d, fd_wl od x k ≤ fd_wl od x (k + d) := by
  intro d
  induction d with
  | zero => exact Nat.le_refl _
  | succ d ih => rw [show k + (d + 1) = (k + d) + 1 from rfl, fd_wl]; omega
theorem fd_wl_le {od k : Nat} {x : Int64} (h1 : 1 ≤ od) (h15 : od ≤ 15) (hk : k ≤ 20) (hx : fd_lok x) : fd_wl od x k ≤ 121 := by
  have a := fd_wl_mono od x k (20 - k)
  rw [show k + (20 - k) = 20 by omega] at a
  rcases hx with rfl | rfl | rfl | rfl
  · have b := fd_wl1 od (by omega) h1; omega
  · have b := fd_wl2 od (by omega) h1; omega
  · have b := fd_wl3 od (by omega) h1; omega
  · have b := fd_wl4 od (by omega) h1; omega
theorem fd_due_c2 {q k : Nat} {a b : Nat → Int64} (h : q = 6 → 4 ≤ k → a 3 = b 3) : fd_due q k a = fd_due q k b := by
  by_cases h6 : q = 6
  · exact fd_due_congr (h h6)
  · rw [fd_due, fd_due]
    by_cases h0 : q < 1
    · rw [if_pos h0, if_pos h0]
    · rw [if_neg h0, if_neg h0, if_neg h6, if_neg h6]
theorem fd_wl_c {od : Nat} {x y : Int64} : ∀ k, (∀ j, j < k → fd_due od j (fun _ => x) = fd_due od j (fun _ => y)) → fd_wl od x k = fd_wl od y k := by
  intro k
  induction k with
  | zero => intro _; rfl
  | succ k ih => intro h; rw [fd_wl, fd_wl, ih (fun j hj => h j (by omega)), h k (by omega)]
theorem fd_IC_wn {od ok : Nat} {on gn : Nat → Int64} {cf : Int32} {wn : Nat} {wf go : Nat → Int32} (h : fd_IC od ok on gn cf wn wf go) : wn ≤ 123 := by
  obtain ⟨h1, h2, -, -, -, -, h | ⟨h3, x, hx, -, h | h⟩⟩ := h
  · omega
  · have := fd_wl_le h3 h1 h2 hx; omega
  · have := fd_wl_le h3 h1 h2 hx; omega
theorem fd_IC_begin {q : Nat} (h1 : 1 ≤ q) (h15 : q ≤ 15) (on gn : Nat → Int64) (wf go : Nat → Int32) : fd_IC q 0 on gn 0 3 (fd_bw wf q) (fd_bw go q) := by
  have key : ∀ (w : Nat → Int32) (i : Nat), i < 3 → fd_bw w q i = fd_let q i := by
    intro w i hi
    rcases (show i = 0 ∨ i = 1 ∨ i = 2 by omega) with rfl | rfl | rfl <;> simp [fd_bw, upd]
  refine ⟨h15, by omega, fun j h => absurd h (by omega), fun _ h => absurd h (by omega), fun i hi => by rw [key _ i hi, key _ i hi], fun i hi => ?_, Or.inr ⟨h1, 1, Or.inl rfl, fun _ h => absurd h (by omega), Or.inl ⟨rfl, rfl⟩⟩⟩
  rw [key _ i hi]
  obtain ⟨b, hb, e, h65⟩ := fd_let_sg q (by omega) i hi h1
  exact ⟨b, e, Or.inr ⟨h65, by omega⟩⟩
-- digits
theorem fd_dv_s (b x : Int64) : ∀ z, fd_dv b (x / b) z = fd_dv b x (z + 1) := by
  intro z
  induction z with
  | zero => rfl
  | succ z ih => rw [fd_dv, ih, fd_dv, fd_dv, fd_dv]
theorem fd_dd_s (s : Nat) (x : Int64) (z : Nat) : fd_dd s (x / fd_bs s) z = fd_dd s x (z + 1) := by
  rw [fd_dd, fd_dd, fd_dv_s]
theorem fd_dg_out (s p : Nat) : ∀ k (f : Nat → Int32) (x : Int64) (i : Nat), i < p → fd_dg s p k f x i = f i := by
  intro k
  induction k with
  | zero => intro f x i _; rfl
  | succ k ih => intro f x i hi; rw [fd_dg, ih _ _ i hi, pk_un (by omega)]
theorem fd_dg_hi (s p : Nat) : ∀ k (f : Nat → Int32) (x : Int64) (i : Nat), p + k ≤ i → fd_dg s p k f x i = f i := by
  intro k
  induction k with
  | zero => intro f x i _; rfl
  | succ k ih => intro f x i hi; rw [fd_dg, ih _ _ i (by omega), pk_un (by omega)]
theorem fd_dg_at (s p : Nat) : ∀ k (f : Nat → Int32) (x : Int64) (t : Nat), t < k → fd_dg s p k f x (p + t) = fd_sis (nI s) (fd_dd s x (k - 1 - t)) := by
  intro k
  induction k with
  | zero => intro f x t h; exact absurd h (by omega)
  | succ k ih =>
    intro f x t ht
    rw [fd_dg]
    by_cases e : t = k
    · subst e
      rw [fd_dg_hi s p t _ _ _ (Nat.le_refl _), pk_us, show t + 1 - 1 - t = 0 by omega]
      rfl
    · rw [ih _ _ t (by omega), fd_dd_s, show k - 1 - t + 1 = k + 1 - 1 - t by omega]
theorem fd_pad_out : ∀ k (f : Nat → Int32) (n i : Nat), i < n → fd_pad k f n i = f i := by
  intro k
  induction k with
  | zero => intro f n i _; rfl
  | succ k ih => intro f n i hi; rw [fd_pad, ih _ _ i (by omega), pk_un (by omega)]
theorem fd_ra_out (s : Nat) (x : Int64) : ∀ z (g : Nat → Int32) (n i : Nat), i < n → fd_ra s x z g n i = g i := by
  intro z
  induction z with
  | zero => intro g n i _; rfl
  | succ z ih => intro g n i hi; rw [fd_ra, ih _ _ i (by omega), pk_un (by omega)]
theorem fd_ra_at (s : Nat) (x : Int64) : ∀ z (g : Nat → Int32) (n t : Nat), t < z → fd_ra s x z g n (n + t) = fd_rc s x (fd_dd s x (z - 1 - t)) := by
  intro z
  induction z with
  | zero => intro g n t h; exact absurd h (by omega)
  | succ z ih =>
    intro g n t ht
    rw [fd_ra]
    by_cases e : t = 0
    · subst e
      rw [fd_ra_out s x z _ _ _ (by omega), show n + 0 = n from rfl, pk_us, show z + 1 - 1 - 0 = z by omega]
    · rw [show n + t = (n + 1) + (t - 1) by omega, ih _ _ (t - 1) (by omega), show z - 1 - (t - 1) = z + 1 - 1 - t by omega]
theorem fd_bs_nat (s : Nat) : ∃ b : Nat, (b = 10 ∨ b = 36) ∧ fd_bs s = lN b := by
  unfold fd_bs
  split
  · exact ⟨10, Or.inl rfl, rfl⟩
  · exact ⟨36, Or.inr rfl, rfl⟩
theorem fd_dv_nat {b : Nat} (hb : b = 10 ∨ b = 36) {x : Int64} (hx : ¬ x < 0) : ∀ z, ∃ k : Nat, k < 2 ^ 63 ∧ fd_dv (lN b) x z = lN k := by
  intro z
  induction z with
  | zero => exact pk_lOf hx
  | succ z ih =>
    obtain ⟨k, hk, e⟩ := ih
    refine ⟨k / b, Nat.lt_of_le_of_lt (Nat.div_le_self k b) hk, ?_⟩
    rw [fd_dv, e, pk_lDiv hk (by omega) (by omega)]
theorem fd_dd_nat (s : Nat) {x : Int64} (hx : ¬ x < 0) (z : Nat) : ∃ d : Nat, d < 36 ∧ (fd_b36 (nI s) = 0 → d < 10) ∧ fd_dd s x z = nI d := by
  obtain ⟨b, hb, e⟩ := fd_bs_nat s
  obtain ⟨k, hk, e2⟩ := fd_dv_nat hb hx z
  refine ⟨k % b, ?_, fun h => ?_, ?_⟩
  · have := Nat.mod_lt k (show b > 0 by omega); omega
  · have h2 := fd_bs_p h
    rw [e] at h2
    have h3 : b = 10 := by
      rcases hb with hb | hb
      · exact hb
      · subst hb; exact absurd h2 (by decide)
    subst h3; exact Nat.mod_lt k (by omega)
  · rw [fd_dd, e, e2, pk_lRem hk (by omega) (by omega), lN_i]
def fd_sgB (c : Int32) : Bool := decide (c = nI c.toNatClampNeg) && (decide (48 ≤ c.toNatClampNeg ∧ c.toNatClampNeg ≤ 57) || decide (65 ≤ c.toNatClampNeg ∧ c.toNatClampNeg ≤ 90))
theorem fd_sgB_sg {c : Int32} (h : fd_sgB c = true) : fd_sg c := by
  simp only [fd_sgB, Bool.and_eq_true, Bool.or_eq_true, decide_eq_true_eq] at h
  exact ⟨c.toNatClampNeg, h.1, h.2⟩
theorem fd_sis_b : ((List.range 9).all fun s => (List.range 36).all fun d => fd_sgB (fd_sis (nI s) (nI d))) = true := by decide +kernel
theorem fd_sis_sg {s d : Nat} (hs : s ≤ 8) (hd : d < 36) : fd_sg (fd_sis (nI s) (nI d)) :=
  fd_sgB_sg (List.all_eq_true.mp (List.all_eq_true.mp fd_sis_b s (List.mem_range.mpr (by omega))) d (List.mem_range.mpr hd))
theorem fd_sis_rc {s : Nat} {x : Int64} {d : Int32} (hs : s ≤ 8) (h5 : s = 5 → (x = 0 ↔ d = 0)) : fd_sis (nI s) d = fd_rc s x d := by
  rw [fd_sis, fd_rc]
  by_cases e : s = 5
  · have e2 : nI s = 5 := by rw [e]; rfl
    rw [if_pos e2, if_pos e]
    by_cases a : x = 0
    · rw [if_pos a, if_pos ((h5 e).mp a)]
    · rw [if_neg a, if_neg (fun h => a ((h5 e).mpr h))]
  · have e2 : ¬ nI s = 5 := fun h => e ((nI_eq (a := s) (b := 5) (by omega) (by omega)).mp h)
    rw [if_neg e2, if_neg e]
-- what may be added
theorem fd_lo_all : ∀ s, s < 9 → 1 ≤ s → (fd_ent 1 (nI s)).toInt64 = fd_lo s := by decide +kernel
theorem fd_suit_cases {od ok s1 : Nat} {on : Nat → Int64} {x : Int64} (hs : fd_due od ok on = nI s1) (h8 : s1 ≤ 8) :
    (fd_suit od ok on x = 0 ∧ (s1 = 0 ∨ x < fd_lo s1 ∨ fd_mn.getD s1 0 < x ∨ (¬ fd_mz od ok on = 0 ∧ ¬ x = 0))) ∨ (fd_suit od ok on x = 1 ∧ 1 ≤ s1 ∧ ¬ x < fd_lo s1 ∧ ¬ fd_mn.getD s1 0 < x ∧ (fd_mz od ok on = 0 ∨ x = 0)) := by
  rw [fd_suit, hs]
  by_cases h0 : s1 = 0
  · subst h0; exact Or.inl ⟨by rw [if_pos (by decide)], Or.inl rfl⟩
  · have a1 : ¬ nI s1 < 1 := nI_nlt (a := s1) (b := 1) (by omega) (by omega)
    have a2 : ¬ nI 9 ≤ nI s1 := nI_ge (by omega) (by omega)
    rw [if_neg a1, if_neg a2]
    have sub : (fd_sub (nI s1) x = 0 ∧ (x < fd_lo s1 ∨ fd_mn.getD s1 0 < x)) ∨ (fd_sub (nI s1) x = 1 ∧ ¬ x < fd_lo s1 ∧ ¬ fd_mn.getD s1 0 < x) := by
      rw [fd_sub, fd_lo_all s1 (by omega) (by omega), nI_clamp (by omega)]
      by_cases b1 : x < fd_lo s1
      · rw [if_pos b1]; exact Or.inl ⟨rfl, Or.inl b1⟩
      · rw [if_neg b1]
        by_cases b2 : fd_mn.getD s1 0 < x
        · rw [if_pos b2]; exact Or.inl ⟨rfl, Or.inr b2⟩
        · rw [if_neg b2]; exact Or.inr ⟨rfl, b1, b2⟩
    by_cases c1 : fd_mz od ok on = 0
    · rw [if_pos c1]
      rcases sub with ⟨e, h | h⟩ | ⟨e, h1, h2⟩
      · exact Or.inl ⟨e, Or.inr (Or.inl h)⟩
      · exact Or.inl ⟨e, Or.inr (Or.inr (Or.inl h))⟩
      · exact Or.inr ⟨e, by omega, h1, h2, Or.inl c1⟩
    · rw [if_neg c1]
      by_cases c2 : x = 0
      · rw [if_pos c2]
        rcases sub with ⟨e, h | h⟩ | ⟨e, h1, h2⟩
        · exact Or.inl ⟨e, Or.inr (Or.inl h)⟩
        · exact Or.inl ⟨e, Or.inr (Or.inr (Or.inl h))⟩
        · exact Or.inr ⟨e, by omega, h1, h2, Or.inr c2⟩
      · rw [if_neg c2]; exact Or.inl ⟨rfl, Or.inr (Or.inr (Or.inr ⟨c1, c2⟩))⟩
theorem fd_lo_0 (s : Nat) : ¬ fd_lo s < 0 := by
  unfold fd_lo; split <;> decide
theorem fd_add_nn {s : Nat} {x : Int64} (h : ¬ x < fd_lo s) : ¬ x < 0 := by
  rw [Int64.lt_iff_toInt_lt] at h ⊢
  have a := fd_lo_0 s
  rw [Int64.lt_iff_toInt_lt] at a
  omega
theorem fd_x01 {x : Int64} (h0 : ¬ x < 0) (h1 : ¬ 1 < x) : x = 0 ∨ x = 1 := by
  obtain ⟨k, hk, rfl⟩ := pk_lOf h0
  have a := mt (pk_lLT (a := 1) (b := k) (by omega) hk).mpr h1
  rcases (show k = 0 ∨ k = 1 by omega) with rfl | rfl
  · exact Or.inl rfl
  · exact Or.inr rfl
theorem fd_x14 {x : Int64} (h0 : ¬ x < 1) (h1 : ¬ 4 < x) : fd_lok x := by
  have hn : ¬ x < 0 := fun h => h0 (Int64.lt_trans h (by decide))
  obtain ⟨k, hk, rfl⟩ := pk_lOf hn
  have a := mt (pk_lLT (a := 4) (b := k) (by omega) hk).mpr h1
  have b := mt (pk_lLT (a := k) (b := 1) hk (by omega)).mpr h0
  rcases (show k = 1 ∨ k = 2 ∨ k = 3 ∨ k = 4 by omega) with rfl | rfl | rfl | rfl
  · exact Or.inl rfl
  · exact Or.inr (Or.inl rfl)
  · exact Or.inr (Or.inr (Or.inl rfl))
  · exact Or.inr (Or.inr (Or.inr rfl))
theorem fd_IC_add {od ok s1 w : Nat} {on gn : Nat → Int64} {cf : Int32} {wn : Nat} {wf go : Nat → Int32} {x : Int64} (h : fd_IC od ok on gn cf wn wf go) (hs : fd_due od ok on = nI s1) (h1 : 1 ≤ s1) (h8 : s1 ≤ 8) (hx1 : ¬ x < fd_lo s1) (hx2 : ¬ fd_mn.getD s1 0 < x) (hw : fd_W (nI s1) = w) :
    cf = 0 ∧ 1 ≤ od ∧ ok < 20 ∧ wn + w ≤ 123 ∧ fd_IC od (ok + 1) (vp_updL on ok x) (vp_updL gn ok x) cf (wn + w) (fd_dg s1 wn w (fd_pad w wf wn) x) (fd_ra s1 x w go wn) := by
  obtain ⟨c1, c2, c3, c4, c5, c6, c7⟩ := h
  have hne : ¬ fd_due od ok on = 0 := by rw [hs]; exact nI_ne0 (by omega) (by omega)
  have hod : 1 ≤ od := by
    rcases Nat.lt_or_ge od 1 with a | a
    · exact absurd (by rw [fd_due, if_pos a]) hne
    · exact a
  have hok : ok < 20 := by
    rcases Nat.lt_or_ge ok 20 with a | a
    · exact a
    · have e : ok = 20 := by omega
      subst e
      exact absurd (fd_due20 hod (fun h6 => c4 h6 (by omega))) hne
  obtain ⟨hcf, x0, hx0, hx3, hwn⟩ : cf = 0 ∧ ∃ x0, fd_lok x0 ∧ (od = 6 → 4 ≤ ok → on 3 = x0) ∧ wn = fd_wl od x0 ok := by
    rcases c7 with ⟨a, -⟩ | ⟨-, x0, a1, a2, ⟨a3, a4⟩ | ⟨-, a5, -⟩⟩
    · exact absurd a (by omega)
    · exact ⟨a3, x0, a1, a2, a4⟩
    · exact absurd a5 hne
  have hnn : ¬ x < 0 := fd_add_nn hx1
  -- the length
  obtain ⟨x2, hl2, h32, hwl⟩ : ∃ x2, fd_lok x2 ∧ (od = 6 → 4 ≤ ok + 1 → vp_updL on ok x 3 = x2) ∧ wn + w = fd_wl od x2 (ok + 1) := by
    by_cases a : od = 6 ∧ ok = 3
    · obtain ⟨rfl, rfl⟩ := a
      have e : fd_due 6 3 on = nI 8 := by rw [fd_due, if_neg (by omega), if_pos rfl, if_pos (by omega)]; decide
      have e2 : s1 = 8 := ((nI_eq (by omega) (by omega)).mp (e.symm.trans hs)).symm
      subst e2
      refine ⟨x, fd_x14 hx1 hx2, fun _ _ => pk_uLs, ?_⟩
      rw [fd_wl, hwn, fd_wl_c (x := x0) (y := x) 3 (fun j hj => fd_due_c2 (fun _ h => absurd h (by omega))), ← hw, ← hs]
      rw [fd_due_c2 (a := on) (b := fun _ => x) (fun _ h => absurd h (by omega))]
    · refine ⟨x0, hx0, fun h6 h4 => ?_, ?_⟩
      · rw [pk_uLn (show 3 ≠ ok by omega)]; exact hx3 h6 (by omega)
      · rw [fd_wl, hwn, ← hw, ← hs, fd_due_c2 (a := on) (b := fun _ => x0) (fun h6 h4 => hx3 h6 h4)]
  have hb : wn + w ≤ 121 := by rw [hwl]; exact fd_wl_le hod c1 (by omega) hl2
  refine ⟨hcf, hod, hok, by omega, c1, by omega, fd_agree c3, ?_, ?_, ?_, Or.inr ⟨hod, x2, hl2, h32, Or.inl ⟨hcf, hwl⟩⟩⟩
  · intro h6 h4; rw [h32 h6 h4]; exact hl2
  · intro i hi
    by_cases a : i < wn
    · rw [fd_dg_out _ _ _ _ _ _ a, fd_pad_out _ _ _ _ a, fd_ra_out _ _ _ _ _ _ a]; exact c5 i a
    · obtain ⟨t, rfl⟩ : ∃ t, i = wn + t := ⟨i - wn, by omega⟩
      rw [fd_dg_at _ _ _ _ _ t (by omega), fd_ra_at _ _ _ _ _ t (by omega)]
      refine fd_sis_rc h8 (fun e5 => ?_)
      subst e5
      have hw1 : w = 1 := by rw [← hw]; decide
      subst hw1
      have ht : t = 0 := by omega
      subst ht
      rcases fd_x01 hnn hx2 with e | e <;> subst e <;> decide
  · intro i hi
    by_cases a : i < wn
    · rw [fd_dg_out _ _ _ _ _ _ a, fd_pad_out _ _ _ _ a]; exact c6 i a
    · obtain ⟨t, rfl⟩ : ∃ t, i = wn + t := ⟨i - wn, by omega⟩
      rw [fd_dg_at _ _ _ _ _ t (by omega)]
      obtain ⟨d, hd, -, e⟩ := fd_dd_nat s1 hnn (w - 1 - t)
      rw [e]; exact fd_sis_sg h8 hd
-- the end
theorem fd_val_nat : ∀ b, b < 91 → ((48 ≤ b ∧ b ≤ 57) ∨ (65 ≤ b ∧ b ≤ 90)) → ∃ v, v < 36 ∧ fd_val (nI b) = nI v := by decide +kernel
theorem fd_rem_nat {f : Nat → Int32} : ∀ n, (∀ i, i < n → fd_sg (f i)) → ∃ r : Nat, r < 97 ∧ fd_rem f n = nI r := by
  intro n
  induction n with
  | zero => intro _; exact ⟨0, by omega, rfl⟩
  | succ n ih =>
    intro h
    obtain ⟨r, hr, e⟩ := ih (fun i hi => h i (by omega))
    obtain ⟨b, eb, hb⟩ := h n (by omega)
    obtain ⟨v, hv, ev⟩ := fd_val_nat b (by omega) hb
    rw [fd_rem, e, eb, ev, fd_rst]
    by_cases a : (10 : Int32) ≤ nI v
    · rw [if_pos a]
      refine ⟨(r * 100 + v) % 97, Nat.mod_lt _ (by omega), ?_⟩
      rw [show nI r * 100 + nI v = nI (r * 100 + v) by rw [show (100 : Int32) = nI 100 from rfl, pk_mul, nI_add]]
      exact pk_rem (a := r * 100 + v) (d := 97) (by omega) (by omega) (by omega)
    · rw [if_neg a]
      refine ⟨(r * 10 + v) % 97, Nat.mod_lt _ (by omega), ?_⟩
      rw [show nI r * 10 + nI v = nI (r * 10 + v) by rw [show (10 : Int32) = nI 10 from rfl, pk_mul, nI_add]]
      exact pk_rem (a := r * 10 + v) (d := 97) (by omega) (by omega) (by omega)
theorem fd_ck_b : ((List.range 97).all fun r => fd_sgB (48 + fd_ck (nI r) / 10) && fd_sgB (48 + (fd_ck (nI r) - fd_ck (nI r) / 10 * 10))) = true := by decide +kernel
theorem fd_IC_end {od ok : Nat} {on gn : Nat → Int64} {wn : Nat} {wf go : Nat → Int32} (h : fd_IC od ok on gn 0 wn wf go) (h1 : ¬ od = 0) (h3 : fd_due od ok on = 0) :
    wn + 2 ≤ 123 ∧ fd_IC od ok on gn 1 (wn + 1 + 1) (fd_ew wf wn) (fd_ew go wn) := by
  obtain ⟨c1, c2, c3, c4, c5, c6, c7⟩ := h
  obtain ⟨x0, hx0, hx3, hwn⟩ : ∃ x0, fd_lok x0 ∧ (od = 6 → 4 ≤ ok → on 3 = x0) ∧ wn = fd_wl od x0 ok := by
    rcases c7 with ⟨a, -⟩ | ⟨-, x0, a1, a2, ⟨a3, a4⟩ | ⟨a5, -⟩⟩
    · exact absurd a h1
    · exact ⟨x0, a1, a2, a4⟩
    · exact absurd a5 (by decide)
  have hb : wn ≤ 121 := by rw [hwn]; exact fd_wl_le (by omega) c1 c2 hx0
  have hr : fd_rem go wn = fd_rem wf wn := fd_rem_congr wn (fun i hi => (c5 i hi).symm)
  obtain ⟨r, hr97, er⟩ := fd_rem_nat wn c6
  have hck := List.all_eq_true.mp fd_ck_b r (List.mem_range.mpr hr97)
  simp only [Bool.and_eq_true] at hck
  refine ⟨by omega, c1, c2, c3, c4, fun i hi => ?_, fun i hi => ?_, Or.inr ⟨by omega, x0, hx0, hx3, Or.inr ⟨rfl, h3, by omega⟩⟩⟩
  · rw [fd_ew, fd_ew, hr]
    by_cases a : i = wn + 1
    · subst a; rw [pk_us, pk_us]
    · rw [pk_un a, pk_un a]
      by_cases b : i = wn
      · subst b; rw [pk_us, pk_us]
      · rw [pk_un b, pk_un b]; exact c5 i (by omega)
  · rw [fd_ew, er]
    by_cases a : i = wn + 1
    · subst a; rw [pk_us]; exact fd_sgB_sg hck.2
    · rw [pk_un a]
      by_cases b : i = wn
      · subst b; rw [pk_us]; exact fd_sgB_sg hck.1
      · rw [pk_un b]; exact c6 i (by omega)
