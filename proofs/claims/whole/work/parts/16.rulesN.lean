/-! a contract whose cells behind it hold something of which only a property is said; more pure rows -/
def fd_BN {S : Type} (D : va_G) (cl : List vw_C) (A : Nat → Prop) (w' : S → va_W) (u : S) (t : State) : Prop := va_P D cl (w' u) t.heap ∧ va_D A (w' u)
def fd_Ni {S : Type} (l : Launch) (D : va_G) (cl : List vw_C) (tys : List (ClassId × FieldType)) (EV : (Nat → Prop) → State → Heap → Prop) (y : MethodName) (ws : List Cond) (rm : Room) (av : List Value) (w : va_W) (w' : S → va_W) (post : S → Prop) (r : Int32) : Prop :=
  ∀ sz : Nat, Met l y ws rm (va_Pc av (fd_K D cl tys EV w sz)) (va_Qi (fun r' (u : S) => r' = r ∧ post u) (fd_BN D cl (va_A w sz) w') (va_A w sz)) 0 0 (va_A w sz)
section RulesN
variable {p : Program} {l : Launch} {e : Env} {R : Room} {s : State} {m : MethodId} {args : Array Value} {below : List Frame} {meth : Method} {c : Code} {H : Heap} {locs : List Loc} {cells slots : Nat} {Q : State → Prop} {cc : ByteArray} {pc : Nat} {ls : Array Slot} {rest st0 : List Value}
  {D : va_G} {cl : List vw_C} {tys : List (ClassId × FieldType)} {EV : (Nat → Prop) → State → Heap → Prop} {A : Nat → Prop} {w wc wr : va_W} {S : Type} {wcN w2 : S → va_W} {post : S → Prop}
theorem fd_goN_i {r : Int32} {a : Array Value} (hr : va_Run p l e R s m args below meth c H locs cells slots 0 0 (F0 m pc ls st0) rest (va_Qi (fun r' (u : S) => r' = r ∧ post u) (fd_BN D cl (va_A wc H.size) wcN) (va_A wc H.size) a) (va_A wc H.size))
    (hP : va_P D cl w H) (hD : va_D A w) (hS : va_S A s.heap H locs) (hA : ∀ q, s.heap.size ≤ q → A q)
    (isC isR : List Nat) (hC : isC.map (fun i => w[i]?) = wc.map some) (hR : isR.map (fun i => w[i]?) = wr.map some) (hn : va_nd isR = true) (hdis : ∀ i ∈ isR, i ∉ isC)
    (pm : List Nat) (hpm : ∀ u : S, pm.map (fun i => (wr ++ wcN u)[i]?) = (w2 u).map some) (hpn : va_nd pm = true)
    (kk : ∀ (u : S) (H1 : Heap) (locs1 : List Loc), post u → va_P D cl (w2 u) H1 → va_D A (w2 u) → va_S A s.heap H1 locs1 → W p l e R s m args below meth c H1 locs1 cells slots Q (F0 m (pc + 3) ls (.int r :: rest))) :
    W p l e R s m args below meth c H locs cells slots Q (F0 m pc ls st0) := by
  have hFc := va_free (wc := wc) hD hS hA isC hC
  refine va_calli hr hS (fun q _ h => hFc q h) hFc (fun r' u t H1 locs1 ht hvm hw hB hz1 hk1 hS1 => ?_)
  obtain ⟨hP1, hD1⟩ := hB
  rw [ht] at hP1
  obtain ⟨hP2, hD2⟩ := va_join (wr := wr) (w1 := wcN u) hP hD isC isR hC hR hn hdis hk1 hFc hP1 hD1
  obtain ⟨hw, hpo⟩ := hw
  subst hw
  exact kk u H1 locs1 hpo (hP2.sub pm (fd_fm (hpm u))) (hD2.sub pm hpn (hpm u)) hS1
theorem fd_retN_i {w' : S → va_W} {r v : Int32} {ty : FieldType} (u : S) (hx : p.tables.exec = Jvm.exec) (hb : c.code = cc) (hr : meth.sig.returnType = some ty) (hlocks : meth.locks = false) (hS : va_S A s.heap H locs) (hP : va_P D cl (w' u) H) (hD : va_D A (w' u)) (hn : narrow ty (.int v) = .int v) (hv : v = r) (hpo : post u) (hdg : decode cc pc = .ok (.ireturn, 1)) :
    W p l e R s m args below meth c H locs 0 0 (MQ below (va_Qi (fun r' (u : S) => r' = r ∧ post u) (fd_BN D cl A w') A) args s 0 0 A) (F0 m pc ls [.int v]) :=
  W.zret hx hb hr hn (fun t ht _ => ⟨⟨v, u, rfl, ⟨hv, hpo⟩, by rw [ht]; exact hP, hD⟩, hS.F ht⟩) hS.2.2 hdg hlocks
end RulesN
section OpensN
variable {l : Launch} {cc : ByteArray} {D : va_G} {cl : List vw_C} {tys : List (ClassId × FieldType)} {EV : (Nat → Prop) → State → Heap → Prop} {w : va_W} {y : MethodName} {ws ws' : List Cond} {rm : Room} {maxL : Nat} {ret : Option FieldType} {av : List Value} {S : Type} {w' : S → va_W} {post : S → Prop}
theorem fd_openN_i {r : Int32} (hy : plainName y.cls = true) (hw : ws = Cond.code y cc maxL ret :: ws') (hfit : (lg_sl av).length ≤ maxL)
    (body : ∀ (p : Program) (e : Env) (s : State) (m : MethodId) (below : List Frame) (meth : Method) (c : Code) (A : Nat → Prop) (ls : Array Slot), fd_X cc maxL ret y.cls ws av D cl tys EV A p s m meth c → va_P D cl w s.heap → va_D A w → va_S A s.heap s.heap [] → lv_has ls maxL (lv_args 0 av) →
      W p l e rm s m av.toArray below meth c s.heap [] 0 0 (MQ below (va_Qi (fun r' (u : S) => r' = r ∧ post u) (fd_BN D cl A w') A) av.toArray s 0 0 A) (F0 m 0 ls [])) :
    fd_Ni l D cl tys EV y ws rm av w w' post r := by
  intro sz
  refine Met.ofW (cc := cc) (maxL := maxL) (ret := ret) hy hw ?_
  intro p e s m args below meth c s₁ B hml hv
  obtain ⟨rfl, hsz, hP, hK, hEV, hD0⟩ := hv
  subst hsz
  have hl := lv_entry av (n := maxL) hfit
  rw [lg_entry_eq]
  exact body p e s m below meth c (va_A w s.heap.size) _ ⟨B.exec, B.bytes, B.returns, hml, findClass_of_methodNamed B.named, atoms_spec (ws := ws) B.pre, B.notSynchronized, hK, hEV, fun q h => Or.inr h⟩ hP hD0.self va_S.rf hl
end OpensN
theorem fd_nI_ne1 {p : Nat} (h : p < 2 ^ 31) : ¬ nI p = -1 := fun e1 => by
  have e2 := nI_pos h
  rw [e1] at e2
  exact e2 (by decide)
theorem fd_dig1 {g : Nat → Int32} {n p : Nat} (hn : n ≤ 400) (hp : ¬ n ≤ p) (h1 : ¬ g p < 48) (h2 : g p ≤ 57) : ¬ fd_dig (fd_at n g (nI p)) = 0 := by
  rw [fd_at_lt (by omega) (by omega), fd_dig, if_neg h1, if_neg (Int32.not_lt.mpr h2)]
  decide
theorem fd_dig0 {g : Nat → Int32} {n p : Nat} (hn : n ≤ 400) (hp : p < 2 ^ 31) (h : n ≤ p ∨ (p < n ∧ (g p < 48 ∨ ¬ g p ≤ 57))) : fd_dig (fd_at n g (nI p)) = 0 := by
  rcases h with h | ⟨h, h2⟩
  · rw [fd_at_ge h hp]; decide
  · rw [fd_at_lt h (by omega), fd_dig]
    by_cases a : g p < 48
    · rw [if_pos a]
    · rw [if_neg a, if_pos (Int32.not_le.mp (h2.resolve_left a))]
theorem fd_sg_dig {c : Int32} (h1 : ¬ c < 48) (h2 : c ≤ 57) : fd_sg c := by
  have h0 : ¬ c < 0 := fun h => h1 (Int32.lt_trans h (by decide))
  obtain ⟨j, hj, rfl⟩ := nI_of2 (n := 57) (M := 57) (by decide) h0 h2
  have a := mt (nI_ltI (a := j) (b := 48) (by omega) (by omega)).mpr h1
  exact ⟨j, rfl, Or.inl ⟨by omega, hj⟩⟩
theorem fd_let_sg : ∀ q, q < 16 → ∀ i, i < 3 → 1 ≤ q → ∃ b, b < 91 ∧ fd_let q i = nI b ∧ 65 ≤ b := by decide +kernel
theorem fd_kw_ex (g : Nat → Int32) (n sg : Nat) : ∀ z q, 1 ≤ q → q + z = 16 → ¬ fd_kw g n sg z q = 0 → ∃ q', 1 ≤ q' ∧ q' ≤ 15 ∧ ∀ i, i < sg → fd_at n g (nI i) = fd_let q' i := by
  intro z
  induction z with
  | zero => intro q h1 h2 h; exact absurd rfl h
  | succ z ih =>
    intro q h1 h2 h
    rw [fd_kw] at h
    by_cases a : fd_bg g n q sg = 0
    · rw [if_pos a] at h
      exact ih (q + 1) (by omega) (by omega) h
    · refine ⟨q, h1, by omega, ?_⟩
      by_cases b : ∀ i, i < sg → fd_at n g (nI i) = fd_let q i
      · exact b
      · exact absurd (by rw [fd_bg, if_neg b]) a
theorem fd_kn_sg {g : Nat → Int32} {n sg : Nat} (hn : n ≤ 400) (hsg : sg ≤ 3) (h : ¬ fd_kn g n sg = 0) : sg ≤ n ∧ ∀ i, i < sg → fd_sg (g i) := by
  obtain ⟨q, h1, h2, a⟩ := fd_kw_ex g n sg 15 1 (by omega) (by omega) h
  have key : ∀ i, i < sg → i < n := by
    intro i hi
    rcases Nat.lt_or_ge i n with b | b
    · exact b
    · have c := a i hi
      obtain ⟨x, hx, e, -⟩ := fd_let_sg q (by omega) i (by omega) h1
      rw [fd_at_ge b (by omega), e] at c
      exact absurd c.symm (fd_nI_ne1 (by omega))
  refine ⟨?_, fun i hi => ?_⟩
  · rcases Nat.lt_or_ge n sg with b | b
    · exact absurd (key n b) (by omega)
    · exact b
  · have c := a i hi
    obtain ⟨x, hx, e, h65⟩ := fd_let_sg q (by omega) i (by omega) h1
    rw [fd_at_lt (key i hi) (by omega), e] at c
    exact ⟨x, c, Or.inr ⟨h65, by omega⟩⟩
theorem fd_uu (f : Nat → Int64) (k : Nat) (a b : Int64) : vp_updL (vp_updL f k a) k b = vp_updL f k b := by
  funext j; simp only [vp_updL]; split <;> rfl
theorem fd_agree {a b : Nat → Int64} {k : Nat} {x : Int64} (h : ∀ j, j < k → a j = b j) : ∀ j, j < k + 1 → vp_updL a k x j = vp_updL b k x j := by
  intro j hj; simp only [vp_updL]
  by_cases e : j = k
  · rw [if_pos e, if_pos e]
  · rw [if_neg e, if_neg e]; exact h j (by omega)
theorem fd_leg_ok {zz n p : Nat} {g : Nat → Int32} {x : Int64} (hby : fd_by g n) (hn : n ≤ 400) (hp : p < 2 ^ 31) (h : fd_hf (nI 8) (nI zz) g n 1 p 0 = (-1, x)) : fd_lok x := by
  rw [show (1 : Nat) = 0 + 1 from rfl, fd_hf] at h
  have key : ∀ b, b < 256 → fd_at n g (nI p) = nI b → fd_lok x := by
    intro b hb e
    rw [e] at h
    by_cases a : fd_vis (nI 8) (nI b) < 0
    · rw [if_pos a] at h; exact absurd h (fd_ne1 hp)
    · rw [if_neg a] at h
      have v := fd_vis8 b hb a
      have fin : fd_hf (nI 8) (nI zz) g n 0 (p + 1) (0 * (fd_bI (nI 8)).toInt64 + (fd_vis (nI 8) (nI b)).toInt64) = (-1, x) → fd_lok x := by
        intro h
        have e2 := (Prod.mk.inj h).2
        rw [← e2]
        rcases v with v | v | v | v <;> rw [v] <;> unfold fd_lok <;> decide
      by_cases a2 : fd_vis (nI 8) (nI b) ≤ 0
      · rw [if_pos a2] at h; exact fin h
      · rw [if_neg a2] at h
        by_cases a3 : nI zz = 0
        · rw [if_pos a3] at h; exact fin h
        · rw [if_neg a3] at h; exact absurd h (fd_ne1 hp)
  rcases Nat.lt_or_ge p n with c | c
  · obtain ⟨b, hb, e⟩ := hby p c
    exact key b hb (by rw [fd_at_lt c (by omega)]; exact e)
  · rw [fd_at_ge c hp, if_pos (fd_vis_out 8 (by omega))] at h
    exact absurd h (fd_ne1 hp)
theorem fd_leg_step {q k1 s1 w zz n p : Nat} {g : Nat → Int32} {cn1 : Nat → Int64} {x : Int64} (hby : fd_by g n) (hn : n ≤ 400) (hp : p < 2 ^ 31) (hs1 : fd_due q k1 cn1 = nI s1) (hs8 : s1 ≤ 8) (hw : fd_W (nI s1) = w) (hh : fd_hf (nI s1) (nI zz) g n w p 0 = (-1, x)) (hleg : q = 6 → 4 ≤ k1 → fd_lok (cn1 3)) : q = 6 → 4 ≤ k1 + 1 → fd_lok (vp_updL cn1 k1 x 3) := by
  intro h6 h4
  subst h6
  by_cases h3 : k1 = 3
  · subst h3
    have e : fd_due 6 3 cn1 = nI 8 := by rw [fd_due, if_neg (by omega), if_pos rfl, if_pos (by omega)]; decide
    have e2 : s1 = 8 := ((nI_eq (by omega) (by omega)).mp (e.symm.trans hs1)).symm
    subst e2
    have e3 : w = 1 := by rw [← hw]; decide
    subst e3
    rw [show vp_updL cn1 3 x 3 = x from pk_uLs]
    exact fd_leg_ok hby hn hp hh
  · rw [show vp_updL cn1 k1 x 3 = cn1 3 from pk_uLn (by omega)]
    exact hleg rfl (by omega)
