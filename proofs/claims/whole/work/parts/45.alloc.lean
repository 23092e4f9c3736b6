/-! ===== a rule, a target more ===== -/
theorem VV_e {e e' : GE} {c m : CS} {q : Nat × Nat} {j : Nat} (h : vR e' q j = vR e q j) : VV e' c m q j = VV e c m q j := by
  unfold VV
  rw [h]
theorem g_fresh (e : GE) {a : Nat} (h : (g_own e a).1 < 12) : a < g_n e := by
  refine Classical.byContradiction fun h1 => ?_
  have h2 := (g_ok e).2.2.2.2.2.1 a (Nat.le_of_not_lt h1)
  rw [h2] at h
  exact absurd h (by decide)
theorem g_own7 (e : GE) {a : Nat} (h : (g_own e a).1 = 7) : (g_own e a).2 < g_nr e := (g_ok e).2.2.2.2.2.2.1 a h
theorem g_own8 (e : GE) {a : Nat} (h : 8 ≤ (g_own e a).1) (h2 : (g_own e a).1 < 12) : (g_own e a).2 < g_nt e := (g_ok e).2.2.2.2.2.2.2.1 a h h2
theorem g_ownN (e : GE) {a : Nat} (h : g_n e ≤ a) : g_own e a = (12, 0) := (g_ok e).2.2.2.2.2.1 a h
/-- a rule of a class that is known -/
def g_known (e : GE) (r : Nat) (hr : r < g_nr e) (h15 : g_nr e < 16) : GE := ⟨(g_n e, g_h e, g_own e, (g_nr e + 1, (fun i => if i = g_nr e then g_cr e r else g_cr e i), g_ac e), (g_nt e, g_rl e, g_ta e)), by
  have hcr := g_crr e hr
  obtain ⟨a1, a2, a3, a4, a5, a6, a7, a8, a9, a10, a11, a12⟩ := g_ok e
  refine ⟨a1, a2, fun i hi => ?_, a4, a5, a6, fun a ha => Nat.lt_succ_of_lt (a7 a ha), a8, fun t ht => Nat.lt_succ_of_lt (a9 t ht), fun i hi => ?_, h15, a12⟩
  · show g_own e (g_ac e (if i = g_nr e then g_cr e r else g_cr e i)) = (7, if i = g_nr e then g_cr e r else g_cr e i)
    by_cases h : i = g_nr e
    · rw [if_pos h]
      exact a3 r hr
    · rw [if_neg h]
      exact a3 i (Nat.lt_of_le_of_ne (Nat.le_of_lt_succ hi) h)
  · show (if i = g_nr e then g_cr e r else g_cr e i) ≤ i
    by_cases h : i = g_nr e
    · rw [if_pos h]
      omega
    · rw [if_neg h]
      exact a10 i (Nat.lt_of_le_of_ne (Nat.le_of_lt_succ hi) h)⟩
/-- a rule of a new class -/
def g_new (e : GE) (h15 : g_nr e < 16) : GE := ⟨(g_n e + 1, g_h e, (fun a => if a = g_n e then (7, g_nr e) else g_own e a), (g_nr e + 1, (fun i => if i = g_nr e then g_nr e else g_cr e i), (fun i => if i = g_nr e then g_n e else g_ac e i)), (g_nt e, g_rl e, g_ta e)), by
  obtain ⟨a1, a2, a3, a4, a5, a6, a7, a8, a9, a10, a11, a12⟩ := g_ok e
  have hne : ∀ {a : Nat} {q : Nat × Nat}, g_own e a = q → q.1 < 12 → (if a = g_n e then (7, g_nr e) else g_own e a) = q := by
    intro a q h1 h2
    have := g_fresh e (a := a) (by rw [h1]; exact h2)
    rw [if_neg (by omega)]
    exact h1
  refine ⟨⟨hne a1.1 (by decide), hne a1.2.1 (by decide), hne a1.2.2.1 (by decide), hne a1.2.2.2.1 (by decide), hne a1.2.2.2.2.1 (by decide), hne a1.2.2.2.2.2 (by decide)⟩, fun i hi => hne (a2 i hi) (by show 5 < 12; decide), fun i hi => ?_, fun t ht => ⟨hne (a4 t ht).1 (by show 8 < 12; decide), hne (a4 t ht).2.1 (by show 9 < 12; decide), hne (a4 t ht).2.2.1 (by show 10 < 12; decide), hne (a4 t ht).2.2.2 (by show 11 < 12; decide)⟩, fun a b hab h12 => ?_, fun a ha => ?_, fun a ha => ?_, fun a h1 h2 => ?_, fun t ht => Nat.lt_succ_of_lt (a9 t ht), fun i hi => ?_, h15, a12⟩
  · show (fun a => if a = g_n e then (7, g_nr e) else g_own e a) ((fun k => if k = g_nr e then g_n e else g_ac e k) ((fun k => if k = g_nr e then g_nr e else g_cr e k) i)) = (7, (fun k => if k = g_nr e then g_nr e else g_cr e k) i)
    by_cases h : i = g_nr e
    · simp only [h, if_true]
    · have h1 : i < g_nr e := Nat.lt_of_le_of_ne (Nat.le_of_lt_succ hi) h
      have h2 := a10 i h1
      have h3 : ¬ g_cr e i = g_nr e := by omega
      simp only [if_neg h, if_neg h3]
      exact hne (a3 i h1) (by show 7 < 12; decide)
  · simp only at hab h12
    by_cases h1 : a = g_n e
    · by_cases h2 : b = g_n e
      · rw [h1, h2]
      · rw [if_pos h1, if_neg h2] at hab
        have := g_own7 e (a := b) (by rw [← hab])
        rw [← hab] at this
        exact absurd this (Nat.lt_irrefl _)
    · rw [if_neg h1] at hab h12
      by_cases h2 : b = g_n e
      · rw [if_pos h2] at hab
        have := g_own7 e (a := a) (by rw [hab])
        rw [hab] at this
        exact absurd this (Nat.lt_irrefl _)
      · rw [if_neg h2] at hab
        exact a5 a b hab h12
  · simp only at ha
    show (if a = g_n e then (7, g_nr e) else g_own e a) = _
    rw [if_neg (by omega)]
    exact a6 a (by omega)
  · show (if a = g_n e then (7, g_nr e) else g_own e a).2 < g_nr e + 1
    by_cases h : a = g_n e
    · rw [if_pos h]
      exact Nat.lt_succ_self _
    · simp only [if_neg h] at ha
      rw [if_neg h]
      exact Nat.lt_succ_of_lt (a7 a ha)
  · simp only at h1 h2
    by_cases h : a = g_n e
    · rw [if_pos h] at h1
      exact absurd h1 (by show ¬ 8 ≤ 7; decide)
    · simp only [if_neg h] at h1 h2 ⊢
      exact a8 a h1 h2
  · show (if i = g_nr e then g_nr e else g_cr e i) ≤ i
    by_cases h : i = g_nr e
    · rw [if_pos h]
      omega
    · rw [if_neg h]
      exact a10 i (Nat.lt_of_le_of_ne (Nat.le_of_lt_succ hi) h)⟩
theorem nn8 (e : GE) {b : Nat} (h : (g_own e b).1 = 8) : (g_own e b).2 < g_nt e := g_own8 e (by omega) (by omega)
section ALLOC
variable {e : GE} {c m : CS}
theorem vR_known {r : Nat} (hr : r < g_nr e) (h15 : g_nr e < 16) {b j : Nat} (hb : g_own e b ≠ (1, 0)) : vR (g_known e r hr h15) (g_own e b) j = vR e (g_own e b) j := by
  have h8 : (g_own e b).1 = 8 → g_ca (g_known e r hr h15) (g_rl e (g_own e b).2) = g_ca e (g_rl e (g_own e b).2) := by
    intro h
    have h1 := g_rlr e (nn8 e h)
    show g_ac e (if g_rl e (g_own e b).2 = g_nr e then _ else _) = _
    rw [if_neg (by omega)]
    rfl
  generalize hq : g_own e b = q at *
  obtain ⟨q1, q2⟩ := q
  unfold vR
  split <;> try rfl
  · rename_i h0
    simp only at h0
    subst h0
    have h2 : ¬ q2 = 0 := by rintro rfl; exact hb rfl
    simp only [if_neg h2]
  · rename_i h0
    simp only at h0
    split <;> try rfl
    simp only at h8
    show Value.ref (g_ca (g_known e r hr h15) (g_rl e q2)) = _
    rw [h8 h0]
theorem W_known {r : Nat} (hr : r < g_nr e) (h15 : g_nr e < 16) : m_ap (WW e c m) 3 (g_h e + 1) (nI (g_nr e)) (.ref (g_ca e r)) = some (WW (g_known e r hr h15) c m) := by
  unfold m_ap
  rw [rd_ix (o_h1 e) rfl (by decide) h15]
  show some _ = some _
  refine congrArg some (Prod.ext rfl (Prod.ext rfl ?_))
  funext b j
  show (if b = g_h e + 1 ∧ j = g_nr e then Value.ref (g_ca e r) else VV e c m (g_own e b) j) = VV (g_known e r hr h15) c m (g_own e b) j
  by_cases hb : b = g_h e + 1
  · subst hb
    rw [o_h1 e]
    show (if _ ∧ j = g_nr e then _ else (if j < g_nr e then Value.ref (g_ca e j) else .null)) = (if j < g_nr e + 1 then Value.ref (g_ac e (if j = g_nr e then g_cr e r else g_cr e j)) else .null)
    by_cases h1 : j = g_nr e
    · rw [if_pos ⟨rfl, h1⟩, if_pos (by omega), if_pos h1]
      rfl
    · rw [if_neg (fun h => h1 h.2), if_neg h1]
      by_cases h2 : j < g_nr e
      · rw [if_pos h2, if_pos (by omega)]
        rfl
      · rw [if_neg h2, if_neg (by omega)]
  · rw [if_neg (fun h => hb h.1)]
    refine (VV_e (vR_known hr h15 ?_)).symm
    intro h
    exact hb (o_inj e (h.trans (o_h1 e).symm) (by rw [h]; decide))
theorem vR_new (h15 : g_nr e < 16) {b j : Nat} (hb : g_own e b ≠ (1, 0)) : vR (g_new e h15) (g_own e b) j = vR e (g_own e b) j := by
  have h8 : (g_own e b).1 = 8 → g_ca (g_new e h15) (g_rl e (g_own e b).2) = g_ca e (g_rl e (g_own e b).2) := by
    intro h
    have h1 := g_rlr e (nn8 e h)
    have h2 := g_crr e h1
    show (if (if g_rl e (g_own e b).2 = g_nr e then _ else g_cr e (g_rl e (g_own e b).2)) = g_nr e then _ else g_ac e (if g_rl e (g_own e b).2 = g_nr e then _ else g_cr e (g_rl e (g_own e b).2))) = _
    rw [if_neg (show ¬ g_rl e (g_own e b).2 = g_nr e by omega), if_neg (show ¬ g_cr e (g_rl e (g_own e b).2) = g_nr e by omega)]
    rfl
  generalize hq : g_own e b = q at *
  obtain ⟨q1, q2⟩ := q
  unfold vR
  split <;> try rfl
  · rename_i h0
    simp only at h0
    subst h0
    have h2 : ¬ q2 = 0 := by rintro rfl; exact hb rfl
    simp only [if_neg h2]
  · rename_i h0
    simp only at h0
    split <;> try rfl
    simp only at h8
    show Value.ref (g_ca (g_new e h15) (g_rl e q2)) = _
    rw [h8 h0]
/-- the class's picture with a new class -/
def c_new (e : GE) (c : CS) (p1 p2 p3 : Int32) : CS := uc (uc (uc (ug (uc (uc c 30 (g_nr e) 0) 31 (g_nr e) (-1)) 0 (g_nr e) 0) 7 (g_nr e) p1) 8 (g_nr e) p2) 10 (g_nr e) p3
theorem VV_new {p1 p2 p3 : Int32} {q : Nat × Nat} {j : Nat} (hq : q ≠ (7, g_nr e)) : VV e (c_new e c p1 p2 p3) m q j = VV e c m q j := by
  unfold c_new
  rw [(vv_C (q := (7, g_nr e)) (k := 2) rfl).2 q j (fun h => hq h.1), (vv_C (q := (7, g_nr e)) (k := 1) rfl).2 q j (fun h => hq h.1), (vv_C (q := (7, g_nr e)) (k := 0) rfl).2 q j (fun h => hq h.1), (vv_G (q := (7, g_nr e)) (k := 5) rfl).2 q j (fun h => hq h.1), (vv_C (q := (7, g_nr e)) (k := 4) rfl).2 q j (fun h => hq h.1), (vv_C (q := (7, g_nr e)) (k := 3) rfl).2 q j (fun h => hq h.1)]
theorem W_new (h15 : g_nr e < 16) (p1 p2 p3 : Int32) (hz : m_z p3 = some p3) : ∃ S1, f_X1_init (g_n e) p1 p2 p3 (m_mk (WW e c m) (.inl 1) (fun j => defaultValue (tyX1 j))) = some ((), S1) ∧ m_is S1 1 (g_n e) = some () ∧ m_ap S1 3 (g_h e + 1) (nI (g_nr e)) (.ref (g_n e)) = some (WW (g_new e h15) (c_new e c p1 p2 p3) m) := by
  have hn1 : g_h e + 1 < g_n e := g_fresh e (by rw [o_h1 e]; decide)
  have hk : m_knew (fun a => KV (g_own e a)) (g_n e) (.inl 1) (g_n e) = some (.inl 1) := by simp only [m_knew, if_true]
  refine ⟨(g_n e + 1, m_knew (fun a => KV (g_own e a)) (g_n e) (.inl 1), m_up (m_up (m_up (m_up (m_up (m_up (m_row (fun a j => VV e c m (g_own e a) j) (g_n e) (fun j => defaultValue (tyX1 j))) (g_n e) 3 (.int 0)) (g_n e) 4 (.int (-1))) (g_n e) 5 (.long 0)) (g_n e) 0 (.int p1)) (g_n e) 1 (.int p2)) (g_n e) 2 (.int p3)), ?_, ?_, ?_⟩
  · simp only [f_X1_init, m_mk, WW, m_p, hk, if_true, Option.bind_some, hz]
  · simp only [m_is, hk, if_true]
  · have hx : m_ix (g_n e + 1, m_knew (fun a => KV (g_own e a)) (g_n e) (.inl 1), m_up (m_up (m_up (m_up (m_up (m_up (m_row (fun a j => VV e c m (g_own e a) j) (g_n e) (fun j => defaultValue (tyX1 j))) (g_n e) 3 (.int 0)) (g_n e) 4 (.int (-1))) (g_n e) 5 (.long 0)) (g_n e) 0 (.int p1)) (g_n e) 1 (.int p2)) (g_n e) 2 (.int p3)) 3 (g_h e + 1) (nI (g_nr e)) = some (g_nr e) := by
      have h0 : (nI (g_nr e)).toNatClampNeg = g_nr e := nI_clamp (by omega)
      have h1 : 0 ≤ nI (g_nr e) := nI_pos' (by omega)
      have hk2 : m_knew (fun a => KV (g_own e a)) (g_n e) (.inl 1) (g_h e + 1) = some (.inr (3, 16)) := by
        simp only [m_knew]
        rw [if_neg (by omega), o_h1 e]
        rfl
      simp only [m_ix, m_ln, hk2, if_true, Option.bind_some, h0, h1, h15, and_self]
    unfold m_ap
    rw [hx, Option.bind_some]
    refine congrArg some (Prod.ext rfl (Prod.ext ?_ ?_))
    · funext a
      show (if a = g_n e then some (Sum.inl 1) else KV (g_own e a)) = KV (if a = g_n e then (7, g_nr e) else g_own e a)
      by_cases h : a = g_n e
      · rw [if_pos h, if_pos h]
        rfl
      · rw [if_neg h, if_neg h]
    · funext b j
      show m_up _ _ _ _ b j = VV (g_new e h15) (c_new e c p1 p2 p3) m (if b = g_n e then (7, g_nr e) else g_own e b) j
      by_cases hb : b = g_n e
      · subst hb
        rw [if_pos rfl]
        have hne : ¬ g_n e = g_h e + 1 := by omega
        simp only [m_up, m_row, hne, false_and, if_false, true_and, if_true]
        have hj : j = 0 ∨ j = 1 ∨ j = 2 ∨ j = 3 ∨ j = 4 ∨ j = 5 ∨ ∃ i, j = i + 6 := by
          by_cases h6 : j < 6
          · omega
          · exact Or.inr (Or.inr (Or.inr (Or.inr (Or.inr (Or.inr ⟨j - 6, by omega⟩)))))
        rcases hj with rfl | rfl | rfl | rfl | rfl | rfl | ⟨i, rfl⟩
        · show _ = Value.int ((c_new e c p1 p2 p3).1 7 (g_nr e))
          simp only [c_new, q01, q02, q03, q04, q05, q06, q07, q08, q10, q12, q13, q14, q15, q16, q17, q18, q20, q21, q23, q24, q25, q26, q27, q28, q30, q31, q32, q34, q35, q36, q37, q38, q40, q41, q42, q43, q45, q46, q47, q48, q50, q51, q52, q53, q54, q56, q57, q58, q60, q61, q62, q63, q64, q65, q67, q68, q70, q71, q72, q73, q74, q75, q76, q78, q80, q81, q82, q83, q84, q85, q86, q87, w02, w12, w22, w03, w13, w23, w33, qm1, Int32.reduceLT, Int32.reduceLE, Int32.reduceAdd, Int32.reduceSub, Nat.reduceEqDiff, Nat.add_left_cancel_iff, false_and, true_and, and_false, and_true, and_self, if_true, if_false, uc_r, ug_r, uc2, ug1]
        · show _ = Value.int ((c_new e c p1 p2 p3).1 8 (g_nr e))
          simp only [c_new, q01, q02, q03, q04, q05, q06, q07, q08, q10, q12, q13, q14, q15, q16, q17, q18, q20, q21, q23, q24, q25, q26, q27, q28, q30, q31, q32, q34, q35, q36, q37, q38, q40, q41, q42, q43, q45, q46, q47, q48, q50, q51, q52, q53, q54, q56, q57, q58, q60, q61, q62, q63, q64, q65, q67, q68, q70, q71, q72, q73, q74, q75, q76, q78, q80, q81, q82, q83, q84, q85, q86, q87, w02, w12, w22, w03, w13, w23, w33, qm1, Int32.reduceLT, Int32.reduceLE, Int32.reduceAdd, Int32.reduceSub, Nat.reduceEqDiff, Nat.add_left_cancel_iff, false_and, true_and, and_false, and_true, and_self, if_true, if_false, uc_r, ug_r, uc2, ug1]
        · show _ = Value.int ((c_new e c p1 p2 p3).1 10 (g_nr e))
          simp only [c_new, q01, q02, q03, q04, q05, q06, q07, q08, q10, q12, q13, q14, q15, q16, q17, q18, q20, q21, q23, q24, q25, q26, q27, q28, q30, q31, q32, q34, q35, q36, q37, q38, q40, q41, q42, q43, q45, q46, q47, q48, q50, q51, q52, q53, q54, q56, q57, q58, q60, q61, q62, q63, q64, q65, q67, q68, q70, q71, q72, q73, q74, q75, q76, q78, q80, q81, q82, q83, q84, q85, q86, q87, w02, w12, w22, w03, w13, w23, w33, qm1, Int32.reduceLT, Int32.reduceLE, Int32.reduceAdd, Int32.reduceSub, Nat.reduceEqDiff, Nat.add_left_cancel_iff, false_and, true_and, and_false, and_true, and_self, if_true, if_false, uc_r, ug_r, uc2, ug1]
        · show _ = Value.int ((c_new e c p1 p2 p3).1 30 (g_nr e))
          simp only [c_new, q01, q02, q03, q04, q05, q06, q07, q08, q10, q12, q13, q14, q15, q16, q17, q18, q20, q21, q23, q24, q25, q26, q27, q28, q30, q31, q32, q34, q35, q36, q37, q38, q40, q41, q42, q43, q45, q46, q47, q48, q50, q51, q52, q53, q54, q56, q57, q58, q60, q61, q62, q63, q64, q65, q67, q68, q70, q71, q72, q73, q74, q75, q76, q78, q80, q81, q82, q83, q84, q85, q86, q87, w02, w12, w22, w03, w13, w23, w33, qm1, Int32.reduceLT, Int32.reduceLE, Int32.reduceAdd, Int32.reduceSub, Nat.reduceEqDiff, Nat.add_left_cancel_iff, false_and, true_and, and_false, and_true, and_self, if_true, if_false, uc_r, ug_r, uc2, ug1]
        · show _ = Value.int ((c_new e c p1 p2 p3).1 31 (g_nr e))
          simp only [c_new, q01, q02, q03, q04, q05, q06, q07, q08, q10, q12, q13, q14, q15, q16, q17, q18, q20, q21, q23, q24, q25, q26, q27, q28, q30, q31, q32, q34, q35, q36, q37, q38, q40, q41, q42, q43, q45, q46, q47, q48, q50, q51, q52, q53, q54, q56, q57, q58, q60, q61, q62, q63, q64, q65, q67, q68, q70, q71, q72, q73, q74, q75, q76, q78, q80, q81, q82, q83, q84, q85, q86, q87, w02, w12, w22, w03, w13, w23, w33, qm1, Int32.reduceLT, Int32.reduceLE, Int32.reduceAdd, Int32.reduceSub, Nat.reduceEqDiff, Nat.add_left_cancel_iff, false_and, true_and, and_false, and_true, and_self, if_true, if_false, uc_r, ug_r, uc2, ug1]
        · show _ = Value.long ((c_new e c p1 p2 p3).2 0 (g_nr e))
          simp only [c_new, q01, q02, q03, q04, q05, q06, q07, q08, q10, q12, q13, q14, q15, q16, q17, q18, q20, q21, q23, q24, q25, q26, q27, q28, q30, q31, q32, q34, q35, q36, q37, q38, q40, q41, q42, q43, q45, q46, q47, q48, q50, q51, q52, q53, q54, q56, q57, q58, q60, q61, q62, q63, q64, q65, q67, q68, q70, q71, q72, q73, q74, q75, q76, q78, q80, q81, q82, q83, q84, q85, q86, q87, w02, w12, w22, w03, w13, w23, w33, qm1, Int32.reduceLT, Int32.reduceLE, Int32.reduceAdd, Int32.reduceSub, Nat.reduceEqDiff, Nat.add_left_cancel_iff, false_and, true_and, and_false, and_true, and_self, if_true, if_false, uc_r, ug_r, uc2, ug1]
        · have h0 : VV (g_new e h15) (c_new e c p1 p2 p3) m (7, g_nr e) (i + 6) = defaultValue (tyX1 (i + 6)) := rfl
          rw [h0, if_neg (by omega), if_neg (by omega), if_neg (by omega), if_neg (by omega), if_neg (by omega), if_neg (by omega)]
      · rw [if_neg hb]
        by_cases hb1 : b = g_h e + 1
        · subst hb1
          rw [o_h1 e]
          simp only [m_up, m_row, hb, false_and, if_false, true_and, o_h1 e]
          show (if j = g_nr e then _ else (if j < g_nr e then Value.ref (g_ca e j) else .null)) = (if j < g_nr e + 1 then Value.ref (g_ca (g_new e h15) j) else .null)
          have hca : g_ca (g_new e h15) j = if (if j = g_nr e then g_nr e else g_cr e j) = g_nr e then g_n e else g_ac e (if j = g_nr e then g_nr e else g_cr e j) := rfl
          rw [hca]
          by_cases h1 : j = g_nr e
          · rw [if_pos h1, if_pos (by omega), if_pos h1, if_pos rfl]
          · rw [if_neg h1, if_neg h1]
            by_cases h2 : j < g_nr e
            · have := g_crr e h2
              rw [if_pos h2, if_pos (by omega), if_neg (by omega)]
              rfl
            · rw [if_neg h2, if_neg (by omega)]
        · simp only [m_up, m_row, hb, hb1, false_and, if_false]
          have h1 : g_own e b ≠ (1, 0) := fun h => hb1 (o_inj e (h.trans (o_h1 e).symm) (by rw [h]; decide))
          have h2 : g_own e b ≠ (7, g_nr e) := by
            intro h
            have := g_own7 e (a := b) (by rw [h])
            rw [h] at this
            exact absurd this (Nat.lt_irrefl _)
          rw [VV_e (vR_new h15 h1), VV_new h2]
end ALLOC
