/-! pure rows: sorts, signs, the parts of a field -/
theorem fd_ent3_ex : ∀ m, m < 96 → ∃ s, s < 9 ∧ fd_ent 3 (nI m) = nI s := by decide +kernel
theorem fd_ent4_ex : ∀ m, m < 4 → ∃ s, s < 9 ∧ fd_ent 4 (nI m) = nI s := by decide +kernel
theorem fd_due_ex {q k : Nat} (h1 : 1 ≤ q) (h15 : q ≤ 15) (hk : k ≤ 20) (fn : Nat → Int64) : ∃ s, s ≤ 8 ∧ fd_due q k fn = nI s := by
  rw [fd_due, if_neg (by omega)]
  split
  · rename_i h6; subst h6
    split
    · obtain ⟨s, h, e⟩ := fd_ent3_ex ((6 - 1) * 6 + k) (by omega)
      exact ⟨s, by omega, e⟩
    · rw [fd_leg]
      split
      · exact ⟨0, by omega, rfl⟩
      · obtain ⟨s, h, e⟩ := fd_ent4_ex ((k - 4) % 4) (Nat.mod_lt _ (by decide))
        exact ⟨s, by omega, e⟩
  · split
    · exact ⟨0, by omega, rfl⟩
    · obtain ⟨s, h, e⟩ := fd_ent3_ex ((q - 1) * 6 + k) (by omega)
      exact ⟨s, by omega, e⟩
theorem fd_due_congr {q k : Nat} {a b : Nat → Int64} (h : 4 ≤ k → a 3 = b 3) : fd_due q k a = fd_due q k b := by
  rw [fd_due, fd_due]
  by_cases hk : 4 ≤ k
  · rw [h hk]
  · rw [if_pos (show k < 4 by omega), if_pos (show k < 4 by omega)]
theorem fd_mz_congr {q k : Nat} {a b : Nat → Int64} (hk : k ≤ 20) (h : 3 < k → a 3 = b 3) : fd_mz q k a = fd_mz q k b := by
  rw [fd_mz, fd_mz]
  by_cases h3 : 3 < k
  · rw [show fd_na k a 3 = a 3 from fd_na_lt (k := 3) h3 (by omega), show fd_na k b 3 = b 3 from fd_na_lt (k := 3) h3 (by omega), h h3]
  · rw [show fd_na k a 3 = -1 from fd_na_ge (k := 3) (by omega) (by omega), show fd_na k b 3 = -1 from fd_na_ge (k := 3) (by omega) (by omega)]
def fd_lok (x : Int64) : Prop := x = 1 ∨ x = 2 ∨ x = 3 ∨ x = 4
theorem fd_due20 {q : Nat} {fn : Nat → Int64} (h1 : 1 ≤ q) (h : q = 6 → fd_lok (fn 3)) : fd_due q 20 fn = 0 := by
  rw [fd_due, if_neg (by omega)]
  split
  · rename_i h6
    rw [if_neg (by omega), fd_leg]
    rcases h h6 with e | e | e | e <;> rw [e, if_pos (by decide)]
  · rw [if_pos (by omega)]
theorem fd_mz_cases {q k : Nat} {fn : Nat → Int64} (h : ¬ fd_mz q k fn = 0) (hk : k ≤ 20) : fd_mz q k fn = 1 ∧ q = 2 ∧ 4 ≤ k := by
  by_cases h2 : q = 2
  · by_cases h3 : k ≤ 3
    · exact absurd (fd_mz3 h2 h3).symm h
    · by_cases h4 : fn 3 = 0
      · exact ⟨(fd_mz1 h2 h3 hk h4).symm, h2, by omega⟩
      · exact absurd (fd_mz2 h2 h3 hk h4).symm h
  · exact absurd (fd_mz4 h2).symm h
theorem fd_due2b : ((List.range 21).all fun k => (List.range 9).all fun s => decide (4 ≤ k → 1 ≤ s → (if 6 ≤ k then (0 : Int32) else fd_ent 3 (nI ((2 - 1) * 6 + k))) = nI s → s = 4 ∨ s = 6)) = true := by decide +kernel
theorem fd_due2 (k : Nat) (hk : k < 21) (s : Nat) (hs : s < 9) : 4 ≤ k → 1 ≤ s → (if 6 ≤ k then (0 : Int32) else fd_ent 3 (nI ((2 - 1) * 6 + k))) = nI s → s = 4 ∨ s = 6 :=
  of_decide_eq_true (List.all_eq_true.mp (List.all_eq_true.mp fd_due2b k (List.mem_range.mpr hk)) s (List.mem_range.mpr hs))
/-- the flag of class C, as a number below two, with what it says of the sort -/
theorem fd_mz_nI {q k s : Nat} {fn : Nat → Int64} (hk : k ≤ 20) (h1 : 1 ≤ s) (h8 : s ≤ 8) (hs : fd_due q k fn = nI s) : ∃ z, z < 2 ∧ fd_mz q k fn = nI z ∧ (z = 1 → s = 4 ∨ s = 6) := by
  by_cases h : fd_mz q k fn = 0
  · exact ⟨0, by omega, h, by omega⟩
  · obtain ⟨e, rfl, h4⟩ := fd_mz_cases h hk
    refine ⟨1, by omega, e, fun _ => ?_⟩
    rw [fd_due, if_neg (by omega), if_neg (by omega)] at hs
    exact fd_due2 k (by omega) s (by omega) h4 h1 hs
def fd_sgN (b : Nat) : Prop := (48 ≤ b ∧ b ≤ 57) ∨ (65 ≤ b ∧ b ≤ 90)
theorem fd_fit_b : ((List.range 9).all fun s => (List.range 2).all fun z => (List.range 256).all fun b => decide (1 ≤ s → (z = 1 → s = 4 ∨ s = 6) → (fd_fit s (nI b) (nI z) = 0 → (fd_vis (nI s) (nI b) < 0 ∨ (¬ fd_vis (nI s) (nI b) ≤ 0 ∧ z = 1))) ∧
    (¬ fd_fit s (nI b) (nI z) = 0 → ¬ fd_vis (nI s) (nI b) < 0 ∧ (¬ fd_vis (nI s) (nI b) ≤ 0 → z = 0) ∧ ((48 ≤ b ∧ b ≤ 57) ∨ (65 ≤ b ∧ b ≤ 90)) ∧ (¬ s = 5 → fd_vo (nI b) = fd_vis (nI s) (nI b)) ∧ (s = 5 → nI b = 83 → fd_vis (nI s) (nI b) = 1) ∧ (s = 5 → ¬ nI b = 83 → fd_vis (nI s) (nI b) = 0)))) = true := by decide +kernel
theorem fd_fit_all (s : Nat) (hs : s < 9) (z : Nat) (hz : z < 2) (b : Nat) (hb : b < 256) : 1 ≤ s → (z = 1 → s = 4 ∨ s = 6) → (fd_fit s (nI b) (nI z) = 0 → (fd_vis (nI s) (nI b) < 0 ∨ (¬ fd_vis (nI s) (nI b) ≤ 0 ∧ z = 1))) ∧
    (¬ fd_fit s (nI b) (nI z) = 0 → ¬ fd_vis (nI s) (nI b) < 0 ∧ (¬ fd_vis (nI s) (nI b) ≤ 0 → z = 0) ∧ ((48 ≤ b ∧ b ≤ 57) ∨ (65 ≤ b ∧ b ≤ 90)) ∧ (¬ s = 5 → fd_vo (nI b) = fd_vis (nI s) (nI b)) ∧ (s = 5 → nI b = 83 → fd_vis (nI s) (nI b) = 1) ∧ (s = 5 → ¬ nI b = 83 → fd_vis (nI s) (nI b) = 0)) :=
  of_decide_eq_true (List.all_eq_true.mp (List.all_eq_true.mp (List.all_eq_true.mp fd_fit_b s (List.mem_range.mpr hs)) z (List.mem_range.mpr hz)) b (List.mem_range.mpr hb))
theorem fd_vis_out : ∀ s, s < 9 → fd_vis (nI s) (-1) < 0 := by decide +kernel
theorem fd_vis8 : ∀ b, b < 256 → ¬ fd_vis (nI 8) (nI b) < 0 → (fd_vis (nI 8) (nI b) = 1 ∨ fd_vis (nI 8) (nI b) = 2 ∨ fd_vis (nI 8) (nI b) = 3 ∨ fd_vis (nI 8) (nI b) = 4) := by decide +kernel
theorem fd_W_all : ∀ s, s < 9 → 1 ≤ s → 1 ≤ fd_W (nI s) ∧ (s = 5 → fd_W (nI s) = 1) := by decide +kernel
theorem fd_bI_lt {s : Nat} (h1 : 1 ≤ s) (h : ¬ 4 ≤ s) : 36 = fd_bI (nI s) := by
  rcases (show s = 1 ∨ s = 2 ∨ s = 3 by omega) with rfl | rfl | rfl <;> decide
theorem fd_bI_ge {s : Nat} (h8 : s ≤ 8) (h : 4 ≤ s) : 10 = fd_bI (nI s) := by
  rcases (show s = 4 ∨ s = 5 ∨ s = 6 ∨ s = 7 ∨ s = 8 by omega) with rfl | rfl | rfl | rfl | rfl <;> decide
def fd_by (g : Nat → Int32) (n : Nat) : Prop := ∀ i, i < n → ∃ b : Nat, b < 256 ∧ g i = nI b
/-- a place that is refused, by the reference's test -/
theorem fd_hf_no {s z n p y : Nat} {g : Nat → Int32} {acc : Int64} (h1 : 1 ≤ s) (h8 : s ≤ 8) (hz : z < 2) (hz1 : z = 1 → s = 4 ∨ s = 6) (hby : fd_by g n) (hn : n ≤ 400) (h : n ≤ p ∨ (p < n ∧ fd_fit s (g p) (nI z) = 0)) (hp : p < 2 ^ 31) : fd_hf (nI s) (nI z) g n (y + 1) p acc = (nI p, acc) := by
  rcases h with h | ⟨h, hf⟩
  · rw [fd_hf, fd_at_ge h hp, if_pos (fd_vis_out s (by omega))]
  · obtain ⟨b, hb, e⟩ := hby p h
    rw [e] at hf
    rw [fd_hf, fd_at_lt h (by omega), e]
    rcases (fd_fit_all s (by omega) z hz b hb h1 hz1).1 hf with a | ⟨a, rfl⟩
    · rw [if_pos a]
    · by_cases a2 : fd_vis (nI s) (nI b) < 0
      · rw [if_pos a2]
      · rw [if_neg a2, if_neg a, if_neg (by decide)]
/-- a place that is taken -/
theorem fd_hf_ok {s z n p y : Nat} {g : Nat → Int32} {acc : Int64} (h1 : 1 ≤ s) (h8 : s ≤ 8) (hz : z < 2) (hz1 : z = 1 → s = 4 ∨ s = 6) (hby : fd_by g n) (hn : n ≤ 400) (h : p < n) (hf : ¬ fd_fit s (g p) (nI z) = 0) : fd_hf (nI s) (nI z) g n (y + 1) p acc = fd_hf (nI s) (nI z) g n y (p + 1) (acc * (fd_bI (nI s)).toInt64 + (fd_vis (nI s) (g p)).toInt64) := by
  obtain ⟨b, hb, e⟩ := hby p h
  rw [e] at hf
  rw [fd_hf, fd_at_lt h (by omega), e]
  obtain ⟨a1, a2, -⟩ := (fd_fit_all s (by omega) z hz b hb h1 hz1).2 hf
  rw [if_neg a1]
  by_cases a3 : fd_vis (nI s) (nI b) ≤ 0
  · rw [if_pos a3]
  · rw [if_neg a3, if_pos (by rw [a2 a3]; rfl)]
theorem fd_fit_sg {s z n p : Nat} {g : Nat → Int32} (h1 : 1 ≤ s) (h8 : s ≤ 8) (hz : z < 2) (hz1 : z = 1 → s = 4 ∨ s = 6) (hby : fd_by g n) (h : p < n) (hf : ¬ fd_fit s (g p) (nI z) = 0) : fd_sg (g p) := by
  obtain ⟨b, hb, e⟩ := hby p h
  rw [e] at hf
  exact ⟨b, e, ((fd_fit_all s (by omega) z hz b hb h1 hz1).2 hf).2.2.1⟩
theorem fd_fit_vo {s z n p : Nat} {g : Nat → Int32} (h1 : 1 ≤ s) (h8 : s ≤ 8) (hz : z < 2) (hz1 : z = 1 → s = 4 ∨ s = 6) (hby : fd_by g n) (h : p < n) (hf : ¬ fd_fit s (g p) (nI z) = 0) (h5 : ¬ s = 5) : fd_vo (g p) = fd_vis (nI s) (g p) := by
  obtain ⟨b, hb, e⟩ := hby p h
  rw [e] at hf ⊢
  exact ((fd_fit_all s (by omega) z hz b hb h1 hz1).2 hf).2.2.2.1 h5
theorem fd_fit_5 {s z n p : Nat} {g : Nat → Int32} {acc : Int64} (h1 : 1 ≤ s) (h8 : s ≤ 8) (hz : z < 2) (hz1 : z = 1 → s = 4 ∨ s = 6) (hby : fd_by g n) (h : p < n) (hf : ¬ fd_fit s (g p) (nI z) = 0) (h5 : s = 5) (ha : acc = 0) : (g p = 83 → 1 = acc * (fd_bI (nI s)).toInt64 + (fd_vis (nI s) (g p)).toInt64) ∧ (¬ g p = 83 → 0 = acc * (fd_bI (nI s)).toInt64 + (fd_vis (nI s) (g p)).toInt64) := by
  obtain ⟨b, hb, e⟩ := hby p h
  rw [e] at hf ⊢
  have q := ((fd_fit_all s (by omega) z hz b hb h1 hz1).2 hf).2.2.2.2
  subst h5; subst ha
  refine ⟨fun x => ?_, fun x => ?_⟩
  · rw [q.1 rfl x]; decide
  · rw [q.2 rfl x]; decide
