/-! the coupling: what the class and the reference hold in common -/
def fd_IA (n : Nat) (f g : Nat → Int32) : Prop := n ≤ 400 ∧ fd_by f n ∧ ∀ i, i < n → f i = g i
def fd_IB (kd k : Nat) (fs : Nat → Int32) (fn rn : Nat → Int64) : Prop := kd ≤ 15 ∧ k ≤ 20 ∧ (1 ≤ kd ∨ k = 0) ∧ (∀ j, j < k → fn j = rn j) ∧ ∀ j, j < k → fs j = fd_due kd j fn
def fd_wl (od : Nat) (x : Int64) : Nat → Nat
  | 0 => 3
  | k + 1 => fd_wl od x k + fd_W (fd_due od k (fun _ => x))
def fd_IC (od ok : Nat) (on gn : Nat → Int64) (cf : Int32) (wn : Nat) (wf go : Nat → Int32) : Prop :=
  od ≤ 15 ∧ ok ≤ 20 ∧ (∀ j, j < ok → on j = gn j) ∧ (od = 6 → 4 ≤ ok → fd_lok (on 3)) ∧ (∀ i, i < wn → wf i = go i) ∧ (∀ i, i < wn → fd_sg (wf i)) ∧
  ((od = 0 ∧ wn = 0 ∧ cf = 0) ∨ (1 ≤ od ∧ ∃ x, fd_lok x ∧ (od = 6 → 4 ≤ ok → on 3 = x) ∧ ((cf = 0 ∧ wn = fd_wl od x ok) ∨ (cf = 1 ∧ fd_due od ok on = 0 ∧ wn = fd_wl od x ok + 2))))
-- congruences
theorem fd_at_congr {n : Nat} {f g : Nat → Int32} (hn : n ≤ 400) (h : ∀ i, i < n → f i = g i) : fd_at n f = fd_at n g := by
  funext i
  rw [fd_at, fd_at]
  by_cases a : i < 0
  · rw [if_pos a, if_pos a]
  · by_cases b : nI n ≤ i
    · rw [if_neg a, if_neg a, if_pos b, if_pos b]
    · obtain ⟨k, hk, rfl⟩ := fd_ix a b (by omega)
      rw [if_neg a, if_neg a, if_neg b, if_neg b, nI_clamp (by omega)]
      exact h k hk
theorem fd_na_congr {n : Nat} {f g : Nat → Int64} (hn : n ≤ 20) (h : ∀ i, i < n → f i = g i) : fd_na n f = fd_na n g := by
  funext i
  rw [fd_na, fd_na]
  by_cases a : i < 0
  · rw [if_pos a, if_pos a]
  · by_cases b : nI n ≤ i
    · rw [if_neg a, if_neg a, if_pos b, if_pos b]
    · obtain ⟨k, hk, rfl⟩ := fd_ix a b (by omega)
      rw [if_neg a, if_neg a, if_neg b, if_neg b, nI_clamp (by omega)]
      exact h k hk
theorem fd_rem_congr {f g : Nat → Int32} : ∀ n, (∀ i, i < n → f i = g i) → fd_rem f n = fd_rem g n := by
  intro n
  induction n with
  | zero => intro _; rfl
  | succ n ih => intro h; rw [fd_rem, fd_rem, ih (fun i hi => h i (by omega)), h n (by omega)]
theorem fd_bg_congr {n : Nat} {f g : Nat → Int32} (h : fd_at n f = fd_at n g) (q sg : Nat) : fd_bg f n q sg = fd_bg g n q sg := by
  rw [fd_bg, fd_bg, h]
theorem fd_kn_congr {n : Nat} {f g : Nat → Int32} (h : fd_at n f = fd_at n g) (sg : Nat) : fd_kn f n sg = fd_kn g n sg := by
  have key : ∀ z q, fd_kw f n sg z q = fd_kw g n sg z q := by
    intro z
    induction z with
    | zero => intro q; rfl
    | succ z ih => intro q; rw [fd_kw, fd_kw, fd_bg_congr h, ih]
  exact key 15 1
theorem fd_hf_congr {n : Nat} {f g : Nat → Int32} (h : fd_at n f = fd_at n g) (d mz : Int32) : ∀ z p acc, fd_hf d mz f n z p acc = fd_hf d mz g n z p acc := by
  intro z
  induction z with
  | zero => intro p acc; rfl
  | succ z ih => intro p acc; rw [fd_hf, fd_hf, h, ih]
theorem fd_ht_congr {n : Nat} {f g : Nat → Int32} (h : fd_at n f = fd_at n g) (hr : fd_rem f n = fd_rem g n) (q : Nat) : ∀ z k p fs fn, fd_ht f n q z k p fs fn = fd_ht g n q z k p fs fn := by
  have hc : ∀ p, fd_cd f n p = fd_cd g n p := fun p => by rw [fd_cd, fd_cd, h, hr]
  have hh : ∀ k p fn, fd_hfd f n q k p fn = fd_hfd g n q k p fn := fun k p fn => by rw [fd_hfd, fd_hfd, fd_hf_congr h]
  intro z
  induction z with
  | zero => intro k p fs fn; rw [fd_ht, fd_ht, hc]
  | succ z ih => intro k p fs fn; rw [fd_ht, fd_ht, hc, hh, ih]
/-- what reading keeps: sorts and numbers fit together, and there are at most twenty -/
theorem fd_ht_inv {f : Nat → Int32} {n q : Nat} : ∀ z k p fs fn, k + z ≤ 20 → (∀ j, j < k → fs j = fd_due q j fn) → (fd_ht f n q z k p fs fn).2.1 ≤ 20 ∧ ∀ j, j < (fd_ht f n q z k p fs fn).2.1 → (fd_ht f n q z k p fs fn).2.2.1 j = fd_due q j (fd_ht f n q z k p fs fn).2.2.2 := by
  intro z
  induction z with
  | zero => intro k p fs fn hk h; exact ⟨by show k ≤ 20; omega, h⟩
  | succ z ih =>
    intro k p fs fn hk h
    rw [fd_ht]
    by_cases a : fd_due q k fn = 0
    · rw [if_pos a]; exact ⟨by show k ≤ 20; omega, h⟩
    · rw [if_neg a]
      by_cases b : (fd_hfd f n q k p fn).1 = -1
      · rw [if_pos b]
        refine ih _ _ _ _ (by omega) ?_
        intro j hj
        have hc : fd_due q j (vp_updL fn k (fd_hfd f n q k p fn).2) = fd_due q j fn := fd_due_congr (fun h4 => pk_uLn (by omega))
        rw [hc]
        by_cases e : j = k
        · subst e; exact pk_us
        · rw [pk_un e]; exact h j (by omega)
      · rw [if_neg b]; exact ⟨by show k ≤ 20; omega, h⟩
-- the text
theorem fd_byte_by : ∀ (v : Int64) (k : Nat), ∃ b : Nat, b < 256 ∧ fd_byte v k = nI b := fun v k => by
  obtain ⟨j, hj, e⟩ := pk_andE ((v.toUInt64 >>> (((8 : Int32) * nI k).toInt64.toUInt64 &&& Int64.toUInt64 63)).toInt64.toInt32) (m := 255) 8 (by decide)
  exact ⟨j, hj, e⟩
theorem fd_IA_type {v : Int64} : ∀ (j n : Nat) (f g : Nat → Int32), fd_IA n f g → n + j ≤ 400 → fd_IA (n + j) (fd_tyf v j f n) (fd_tyf v j g n) := by
  intro j
  induction j with
  | zero => intro n f g h _; exact h
  | succ j ih =>
    intro n f g h hj
    rw [fd_tyf, fd_tyf, show n + (j + 1) = (n + 1) + j by omega]
    refine ih (n + 1) _ _ ⟨by omega, fun i hi => ?_, fun i hi => ?_⟩ (by omega)
    · by_cases e : i = n
      · subst e; rw [pk_us]; exact fd_byte_by v j
      · rw [pk_un e]; exact h.2.1 i (by omega)
    · by_cases e : i = n
      · subst e; rw [pk_us, pk_us]
      · rw [pk_un e, pk_un e]; exact h.2.2 i (by omega)
theorem fd_sg_by {c : Int32} (h : fd_sg c) : ∃ b : Nat, b < 256 ∧ c = nI b := by
  obtain ⟨b, e, h⟩ := h
  exact ⟨b, by omega, e⟩
theorem fd_IA_copy {n wn : Nat} {f g wf go : Nat → Int32} (h : fd_IA n f g) (h1 : ∀ i, i < wn → wf i = go i) (h2 : ∀ i, i < wn → fd_sg (wf i)) (hn : n + wn ≤ 400) : fd_IA (n + wn) (fd_app f n wf wn) (fd_app g n go wn) := by
  refine ⟨hn, fun i hi => ?_, fun i hi => ?_⟩
  · simp only [fd_app]
    by_cases a : n ≤ i ∧ i < n + wn
    · rw [if_pos a]; exact fd_sg_by (h2 _ (by omega))
    · rw [if_neg a]; exact h.2.1 i (by omega)
  · simp only [fd_app]
    by_cases a : n ≤ i ∧ i < n + wn
    · rw [if_pos a, if_pos a]; exact h1 _ (by omega)
    · rw [if_neg a, if_neg a]; exact h.2.2 i (by omega)
theorem fd_IA_0 (f g : Nat → Int32) : fd_IA 0 f g := ⟨by omega, fun i h => absurd h (by omega), fun i h => absurd h (by omega)⟩
theorem fd_IB_0 (fs : Nat → Int32) (fn rn : Nat → Int64) : fd_IB 0 0 fs fn rn := ⟨by omega, by omega, Or.inr rfl, fun j h => absurd h (by omega), fun j h => absurd h (by omega)⟩
theorem fd_IB_sort {kd k : Nat} {fs : Nat → Int32} {fn rn : Nat → Int64} (h : fd_IB kd k fs fn rn) (i : Int32) : fd_sa k fs i = fd_rs kd k rn i := by
  obtain ⟨h1, h2, h3, h4, h5⟩ := h
  rw [fd_sa, fd_rs]
  by_cases a : i < 0
  · rw [if_pos a, if_pos a]
  · by_cases b : nI k ≤ i
    · rw [if_neg a, if_neg a, if_pos b, if_pos b]
    · obtain ⟨j, hj, rfl⟩ := fd_ix a b (by omega)
      rw [if_neg a, if_neg a, if_neg b, if_neg b, nI_clamp (by omega), h5 j hj]
      exact fd_due_congr (fun h4' => h4 3 (by omega))
