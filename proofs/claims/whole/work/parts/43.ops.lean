/-! ===== calls that ask ===== -/
theorem i_divm1 (x : Int32) : x / -1 = -x := by
  apply Int32.toInt_inj.mp
  have h : (-1 : Int32).toInt = -1 := by decide
  rw [Int32.toInt_div, h, Int32.toInt_neg, Int.tdiv_neg, Int.tdiv_one]
theorem l_divm1 (x : Int64) : x / -1 = -x := by
  apply Int64.toInt_inj.mp
  have h : (-1 : Int64).toInt = -1 := by decide
  rw [Int64.toInt_div, h, Int64.toInt_neg, Int.tdiv_neg, Int.tdiv_one]
theorem iw_y {r n : Nat} {x : Int32} {s : MS} (h : r ≤ n) (hn : n < 2 ^ 31) (hx : x = nI n) : f_X0_isWithin (nI r) x s = some (1, s) := by
  unfold f_X0_isWithin
  rw [hx, if_neg (nI_pos (by omega)), if_neg (nI_nlt (by omega) (by omega))]
theorem i_gt {p : Int32} {n : Nat} (h : nI (n + 1) ≤ p) (hn : n + 1 < 2 ^ 31) : nI n < p ∧ ¬ p ≤ nI n ∧ ¬ p < 0 := by
  have h0 : ¬ p < 0 := fun h0 => absurd (Int32.lt_of_le_of_lt h h0) (nI_pos hn)
  obtain ⟨j, hj, rfl⟩ := nI_of h0
  have h1 := (nI_leI hn hj).mp h
  exact ⟨nI_lt (by omega) hj, nI_ge (by omega) hj, h0⟩
theorem iw_n {p : Int32} {n : Nat} {x : Int32} {s : MS} (h : p < 0 ∨ nI (n + 1) ≤ p) (hn : n + 1 < 2 ^ 31) (hx : x = nI n) : f_X0_isWithin p x s = some (0, s) := by
  unfold f_X0_isWithin
  by_cases h0 : p < 0
  · rw [if_pos h0]
  · rw [if_neg h0, hx, if_pos (i_gt (h.resolve_left h0) hn).1]
section OPS
variable {e : GE} {c m : CS}
/-- both sides answer alike, and hold alike afterwards -/
def LK {α : Type} (e : GE) (c m : CS) (f g : MS → Option (α × MS)) : Prop := ∃ c' m' a, f (WW e c m) = some (a, WW e c' m) ∧ g (WW e c' m) = some (a, WW e c' m') ∧ Rel e c' m'
theorem L_make (h : Rel e c m) (p : Int32) : LK e c m (f_X0_make (g_h e) p) (f_X3_make (g_ar e 6) p) := by
  have h16 := g_nr16 e
  have h0 : Rel e c (uc m 0 0 0) := h.mx (Or.inl rfl)
  rcases pk_ix p (show g_nr e < 2 ^ 31 by omega) with hp | hp | ⟨r, hr, rfl⟩
  · exact ⟨c, uc m 0 0 0, -1, by simp only [f_X0_make, zh, Option.bind_some, f_classNo (Or.inl hp) h.cnr, m_bS, m_nnN], by simp only [f_X3_make, ym0, zm, Option.bind_some, f_isRuleNo (Or.inl hp) h0.nr, m_bS, if_true], h0⟩
  · exact ⟨c, uc m 0 0 0, -1, by simp only [f_X0_make, zh, Option.bind_some, f_classNo (Or.inr hp) h.cnr, m_bS, m_nnN], by simp only [f_X3_make, ym0, zm, Option.bind_some, f_isRuleNo (Or.inr hp) h0.nr, m_bS, if_true], h0⟩
  · obtain ⟨c', m', a, b, e1, e2, -, h1, -, h2⟩ := L_made hr h0
    rcases h2 with ⟨rfl, rfl⟩ | ⟨rfl, j, -, rfl, h31, -⟩
    · refine ⟨c', m', -1, ?_, ?_, h1⟩
      · simp only [f_X0_make, zh, Option.bind_some, f_classAt hr h.cnr, m_bS, m_nnS, e1, if_true]
      · simp only [f_X3_make, ym0, zm, Option.bind_some, f_isRule hr h0.nr, m_bS, e2, q10, if_false]
    · refine ⟨c', m', nI j, ?_, ?_, h1⟩
      · simp only [f_X0_make, zh, Option.bind_some, f_classAt hr h.cnr, m_bS, m_nnS, e1, q10, if_false, xc4 _ _ _ hr, h31]
      · simp only [f_X3_make, ym0, zm, Option.bind_some, f_isRule hr h0.nr, m_bS, e2, q10, if_false]
theorem L_cell (h : Rel e c m) (p : Int32) : LK e c m (f_X0_cell (g_h e) p) (f_X3_cell (g_ar e 6) p) := by
  have h16 := g_nr16 e
  have h0 : Rel e c (uc m 0 0 0) := h.mx (Or.inl rfl)
  rcases pk_ix p (show g_nr e < 2 ^ 31 by omega) with hp | hp | ⟨r, hr, rfl⟩
  · exact ⟨c, uc m 0 0 0, -1, by simp only [f_X0_cell, zh, Option.bind_some, f_classNo (Or.inl hp) h.cnr, m_bS, m_nnN], by simp only [f_X3_cell, ym0, zm, Option.bind_some, f_isRuleNo (Or.inl hp) h0.nr, m_bS, if_true], h0⟩
  · exact ⟨c, uc m 0 0 0, -1, by simp only [f_X0_cell, zh, Option.bind_some, f_classNo (Or.inr hp) h.cnr, m_bS, m_nnN], by simp only [f_X3_cell, ym0, zm, Option.bind_some, f_isRuleNo (Or.inr hp) h0.nr, m_bS, if_true], h0⟩
  · have hcr := g_crr e hr
    rcases R_made hr h0.2.1 with b | b
    · obtain ⟨b1, b2, b3⟩ := b
      refine ⟨c, uc m 0 0 0, -1, ?_, ?_, h0⟩
      · simp only [f_X0_cell, zh, Option.bind_some, f_classAt hr h.cnr, m_bS, m_nnS, xc3 _ _ _ hr, b1, if_true]
      · simp (disch := omega) only [f_X3_cell, ym0, zm, Option.bind_some, f_isRule hr h0.nr, m_bS, q10, if_false, xm9, f_firstOf hr h0.2.1, xi9, b2, if_true]
    · obtain ⟨b1, b2, j, b3, b4, b5, b6, b7⟩ := b
      refine ⟨c, uc m 0 0 0, c.2 0 (g_cr e r), ?_, ?_, h0⟩
      · simp only [f_X0_cell, zh, Option.bind_some, f_classAt hr h.cnr, m_bS, m_nnS, xc3 _ _ _ hr, b1, q10, if_false, xc5 _ _ _ hr]
      · simp (disch := omega) only [f_X3_cell, ym0, zm, Option.bind_some, f_isRule hr h0.nr, m_bS, q10, if_false, xm9, f_firstOf hr h0.2.1, xi9, b5, if_neg (nI_neg1 (show j < 2 ^ 31 by omega)), xm11, xi11, b7]
theorem L_same (h : Rel e c m) (p q : Int32) : LK e c m (f_X0_same (g_h e) p q) (f_X3_same (g_ar e 6) p q) := by
  have h16 := g_nr16 e
  have h0 : Rel e c (uc m 0 0 0) := h.mx (Or.inl rfl)
  have hp : (p < 0 ∨ nI (g_nr e) ≤ p) ∨ ∃ r, r < g_nr e ∧ p = nI r := by
    rcases pk_ix p (show g_nr e < 2 ^ 31 by omega) with hp | hp | hp
    · exact Or.inl (Or.inl hp)
    · exact Or.inl (Or.inr hp)
    · exact Or.inr hp
  have hq : (q < 0 ∨ nI (g_nr e) ≤ q) ∨ ∃ r, r < g_nr e ∧ q = nI r := by
    rcases pk_ix q (show g_nr e < 2 ^ 31 by omega) with hp | hp | hp
    · exact Or.inl (Or.inl hp)
    · exact Or.inl (Or.inr hp)
    · exact Or.inr hp
  rcases hp with hp | ⟨r, hr, rfl⟩
  · rcases hq with hq | ⟨s, hs, rfl⟩
    · exact ⟨c, uc m 0 0 0, 0, by simp only [f_X0_same, zh, Option.bind_some, f_classNo hp h.cnr, f_classNo hq h.cnr, m_bS, m_nnN], by simp only [f_X3_same, ym0, zm, Option.bind_some, f_isRuleNo hp h0.nr, m_bS, if_true], h0⟩
    · exact ⟨c, uc m 0 0 0, 0, by simp only [f_X0_same, zh, Option.bind_some, f_classNo hp h.cnr, f_classAt hs h.cnr, m_bS, m_nnN], by simp only [f_X3_same, ym0, zm, Option.bind_some, f_isRuleNo hp h0.nr, m_bS, if_true], h0⟩
  · rcases hq with hq | ⟨s, hs, rfl⟩
    · exact ⟨c, uc m 0 0 0, 0, by simp only [f_X0_same, zh, Option.bind_some, f_classNo hq h.cnr, f_classAt hr h.cnr, m_bS, m_nnN, m_nnS], by simp only [f_X3_same, ym0, zm, Option.bind_some, f_isRule hr h0.nr, f_isRuleNo hq h0.nr, m_bS, q10, if_false, if_true], h0⟩
    · have a1 := h0.2.1.2.2.1 r hr
      have a2 := h0.2.1.2.2.1 s hs
      have r7 : (uc m 0 0 0).1 7 = m.1 7 := by rw [uc1, up_ne (by decide)]
      have r8 : (uc m 0 0 0).1 8 = m.1 8 := by rw [uc1, up_ne (by decide)]
      rw [r7, r8] at a1 a2
      by_cases k7 : m.1 7 r = m.1 7 s
      · by_cases k8 : m.1 8 r = m.1 8 s
        · refine ⟨c, uc m 0 0 0, 1, ?_, ?_, h0⟩
          · simp (disch := omega) only [f_X0_same, f_X1_isOf, zh, zc, Option.bind_some, f_classAt hr h.cnr, f_classAt hs h.cnr, m_bS, m_nnS, xc0, xc1, a1.1, a1.2.1, a2.1, a2.2.1, k7, k8, if_true, q10, if_false]
          · simp (disch := omega) only [f_X3_same, ym0, zm, Option.bind_some, f_isRule hr h0.nr, f_isRule hs h0.nr, m_bS, q10, if_false, if_true, xm7, xm8, xi7, xi8, r7, r8, k7, k8]
        · refine ⟨c, uc m 0 0 0, 0, ?_, ?_, h0⟩
          · simp (disch := omega) only [f_X0_same, f_X1_isOf, zh, zc, Option.bind_some, f_classAt hr h.cnr, f_classAt hs h.cnr, m_bS, m_nnS, xc0, xc1, a1.1, a1.2.1, a2.1, a2.2.1, k7, k8, if_true, q10, if_false]
          · simp (disch := omega) only [f_X3_same, ym0, zm, Option.bind_some, f_isRule hr h0.nr, f_isRule hs h0.nr, m_bS, q10, if_false, if_true, xm7, xm8, xi7, xi8, r7, r8, k7, k8]
      · refine ⟨c, uc m 0 0 0, 0, ?_, ?_, h0⟩
        · simp (disch := omega) only [f_X0_same, f_X1_isOf, zh, zc, Option.bind_some, f_classAt hr h.cnr, f_classAt hs h.cnr, m_bS, m_nnS, xc0, xc1, a1.1, a1.2.1, a2.1, a2.2.1, k7, if_true, q10, if_false]
        · simp (disch := omega) only [f_X3_same, ym0, zm, Option.bind_some, f_isRule hr h0.nr, f_isRule hs h0.nr, m_bS, q10, if_false, if_true, xm7, xm8, xi7, xi8, r7, r8, k7]
theorem Rel.tq (h : Rel e c m) {t : Nat} (ht : t < g_nt e) : ∃ s, s ≤ 65536 ∧ m.1 1 0 = nI s ∧ TQ s t (g_rl e t) (m.1 12 t) (m.1 13 (4 * t + 0)) (m.1 13 (4 * t + 2)) (m.1 14 t) (m.1 15 t) (m.1 16 t) (m.1 17 t) (m.1 18 t) (m.1 21 t) (c.1 32 t) (c.1 33 t) := by
  obtain ⟨s, h1, h2, h3⟩ := h.2.2.1.2.1
  exact ⟨s, h1, h2, h3 t ht⟩
theorem p_ix (p : Int32) (n : Nat) (hn : n < 2 ^ 31) : (p < 0 ∨ nI n ≤ p) ∨ ∃ r, r < n ∧ p = nI r := by
  rcases pk_ix p hn with hp | hp | hp
  · exact Or.inl (Or.inl hp)
  · exact Or.inl (Or.inr hp)
  · exact Or.inr hp
theorem L_provider (h : Rel e c m) (p q : Int32) : LK e c m (f_X0_provider (g_h e) p q) (f_X3_provider (g_ar e 6) p q) := by
  have h40 := g_nt40 e
  have h0 : Rel e c (uc m 0 0 0) := h.mx (Or.inl rfl)
  rcases p_ix p (g_nt e) (by omega) with hp | ⟨t, ht, rfl⟩
  · exact ⟨c, uc m 0 0 0, 0, by simp only [f_X0_provider, zh, Option.bind_some, f_targetNo hp h.cnt, m_bS, m_nnN], by simp only [f_X3_provider, ym0, zm, Option.bind_some, f_isTargetNo hp h0.nt, m_bS, if_true], h0⟩
  · have hh : ∀ n, c.1 22 n = m.1 22 n := h.sh 22 rfl
    have hv : ∀ n, c.1 20 n = m.1 20 n := h.sh 20 rfl
    rcases p_ix q 3 (by decide) with hq | ⟨n, hn, rfl⟩
    · refine ⟨c, uc m 0 0 0, 0, by simp only [f_X0_provider, zh, Option.bind_some, f_targetAt ht h.cnt, m_bS, m_nnS, iw_n (n := 2) (x := 2) hq (by decide) rfl, if_true], ?_, h0⟩
      simp only [f_X3_provider, ym0, zm, Option.bind_some, f_isTarget ht h0.nt, m_bS, q10, if_false]
      rcases hq with hq | hq
      · rw [if_pos hq]
      · rw [if_neg (i_gt (n := 2) hq (by decide)).2.2, if_pos (show 3 ≤ q from hq)]
    · have hn' : n = 0 ∨ n = 1 ∨ n = 2 := by omega
      rcases hn' with rfl | rfl | rfl
      · by_cases k : m.1 22 (3 * t + 0) = 0
        · refine ⟨c, uc m 0 0 0, 0, by simp (disch := omega) only [f_X0_provider, zh, Option.bind_some, f_targetAt ht h.cnt, m_bS, m_nnS, w02, w12, w22, show nI 0 = 0 from rfl, q01, q02, q03, q04, q05, q06, q07, q08, q10, q12, q13, q14, q15, q16, q17, q18, q20, q21, q23, q24, q25, q26, q27, q28, q30, q31, q32, q34, q35, q36, q37, q38, q40, q41, q42, q43, q45, q46, q47, q48, q50, q51, q52, q53, q54, q56, q57, q58, q60, q61, q62, q63, q64, q65, q67, q68, q70, q71, q72, q73, q74, q75, q76, q78, q80, q81, q82, q83, q84, q85, q86, q87, w02, w12, w22, w03, w13, w23, w33, qm1, Int32.reduceLT, Int32.reduceLE, Int32.reduceAdd, Int32.reduceSub, Nat.reduceEqDiff, Nat.add_left_cancel_iff, false_and, true_and, and_false, and_true, and_self, if_true, if_false, uc_r, ug_r, uc2, ug1, xt4, xs0, hh, k], ?_, h0⟩
          simp (disch := omega) only [f_X3_provider, ym0, zm, Option.bind_some, f_isTarget ht h0.nt, m_bS, show nI 0 = 0 from rfl, q01, q02, q03, q04, q05, q06, q07, q08, q10, q12, q13, q14, q15, q16, q17, q18, q20, q21, q23, q24, q25, q26, q27, q28, q30, q31, q32, q34, q35, q36, q37, q38, q40, q41, q42, q43, q45, q46, q47, q48, q50, q51, q52, q53, q54, q56, q57, q58, q60, q61, q62, q63, q64, q65, q67, q68, q70, q71, q72, q73, q74, q75, q76, q78, q80, q81, q82, q83, q84, q85, q86, q87, w02, w12, w22, w03, w13, w23, w33, qm1, Int32.reduceLT, Int32.reduceLE, Int32.reduceAdd, Int32.reduceSub, Nat.reduceEqDiff, Nat.add_left_cancel_iff, false_and, true_and, and_false, and_true, and_self, if_true, if_false, uc_r, ug_r, uc2, ug1, xm22, i3_0, xi22, k]
        · refine ⟨c, uc m 0 0 0, m.1 20 (3 * t + 0), by simp (disch := omega) only [f_X0_provider, zh, Option.bind_some, f_targetAt ht h.cnt, m_bS, m_nnS, w02, w12, w22, show nI 0 = 0 from rfl, q01, q02, q03, q04, q05, q06, q07, q08, q10, q12, q13, q14, q15, q16, q17, q18, q20, q21, q23, q24, q25, q26, q27, q28, q30, q31, q32, q34, q35, q36, q37, q38, q40, q41, q42, q43, q45, q46, q47, q48, q50, q51, q52, q53, q54, q56, q57, q58, q60, q61, q62, q63, q64, q65, q67, q68, q70, q71, q72, q73, q74, q75, q76, q78, q80, q81, q82, q83, q84, q85, q86, q87, w02, w12, w22, w03, w13, w23, w33, qm1, Int32.reduceLT, Int32.reduceLE, Int32.reduceAdd, Int32.reduceSub, Nat.reduceEqDiff, Nat.add_left_cancel_iff, false_and, true_and, and_false, and_true, and_self, if_true, if_false, uc_r, ug_r, uc2, ug1, xt4, xs0, hh, k, xt3, xp0, hv], ?_, h0⟩
          simp (disch := omega) only [f_X3_provider, ym0, zm, Option.bind_some, f_isTarget ht h0.nt, m_bS, show nI 0 = 0 from rfl, q01, q02, q03, q04, q05, q06, q07, q08, q10, q12, q13, q14, q15, q16, q17, q18, q20, q21, q23, q24, q25, q26, q27, q28, q30, q31, q32, q34, q35, q36, q37, q38, q40, q41, q42, q43, q45, q46, q47, q48, q50, q51, q52, q53, q54, q56, q57, q58, q60, q61, q62, q63, q64, q65, q67, q68, q70, q71, q72, q73, q74, q75, q76, q78, q80, q81, q82, q83, q84, q85, q86, q87, w02, w12, w22, w03, w13, w23, w33, qm1, Int32.reduceLT, Int32.reduceLE, Int32.reduceAdd, Int32.reduceSub, Nat.reduceEqDiff, Nat.add_left_cancel_iff, false_and, true_and, and_false, and_true, and_self, if_true, if_false, uc_r, ug_r, uc2, ug1, xm22, i3_0, xi22, k, xm20, xi20]
      · by_cases k : m.1 22 (3 * t + 1) = 0
        · refine ⟨c, uc m 0 0 0, 0, by simp (disch := omega) only [f_X0_provider, zh, Option.bind_some, f_targetAt ht h.cnt, m_bS, m_nnS, w02, w12, w22, show nI 1 = 1 from rfl, q01, q02, q03, q04, q05, q06, q07, q08, q10, q12, q13, q14, q15, q16, q17, q18, q20, q21, q23, q24, q25, q26, q27, q28, q30, q31, q32, q34, q35, q36, q37, q38, q40, q41, q42, q43, q45, q46, q47, q48, q50, q51, q52, q53, q54, q56, q57, q58, q60, q61, q62, q63, q64, q65, q67, q68, q70, q71, q72, q73, q74, q75, q76, q78, q80, q81, q82, q83, q84, q85, q86, q87, w02, w12, w22, w03, w13, w23, w33, qm1, Int32.reduceLT, Int32.reduceLE, Int32.reduceAdd, Int32.reduceSub, Nat.reduceEqDiff, Nat.add_left_cancel_iff, false_and, true_and, and_false, and_true, and_self, if_true, if_false, uc_r, ug_r, uc2, ug1, xt4, xs1, hh, k], ?_, h0⟩
          simp (disch := omega) only [f_X3_provider, ym0, zm, Option.bind_some, f_isTarget ht h0.nt, m_bS, show nI 1 = 1 from rfl, q01, q02, q03, q04, q05, q06, q07, q08, q10, q12, q13, q14, q15, q16, q17, q18, q20, q21, q23, q24, q25, q26, q27, q28, q30, q31, q32, q34, q35, q36, q37, q38, q40, q41, q42, q43, q45, q46, q47, q48, q50, q51, q52, q53, q54, q56, q57, q58, q60, q61, q62, q63, q64, q65, q67, q68, q70, q71, q72, q73, q74, q75, q76, q78, q80, q81, q82, q83, q84, q85, q86, q87, w02, w12, w22, w03, w13, w23, w33, qm1, Int32.reduceLT, Int32.reduceLE, Int32.reduceAdd, Int32.reduceSub, Nat.reduceEqDiff, Nat.add_left_cancel_iff, false_and, true_and, and_false, and_true, and_self, if_true, if_false, uc_r, ug_r, uc2, ug1, xm22, i3_1, xi22, k]
        · refine ⟨c, uc m 0 0 0, m.1 20 (3 * t + 1), by simp (disch := omega) only [f_X0_provider, zh, Option.bind_some, f_targetAt ht h.cnt, m_bS, m_nnS, w02, w12, w22, show nI 1 = 1 from rfl, q01, q02, q03, q04, q05, q06, q07, q08, q10, q12, q13, q14, q15, q16, q17, q18, q20, q21, q23, q24, q25, q26, q27, q28, q30, q31, q32, q34, q35, q36, q37, q38, q40, q41, q42, q43, q45, q46, q47, q48, q50, q51, q52, q53, q54, q56, q57, q58, q60, q61, q62, q63, q64, q65, q67, q68, q70, q71, q72, q73, q74, q75, q76, q78, q80, q81, q82, q83, q84, q85, q86, q87, w02, w12, w22, w03, w13, w23, w33, qm1, Int32.reduceLT, Int32.reduceLE, Int32.reduceAdd, Int32.reduceSub, Nat.reduceEqDiff, Nat.add_left_cancel_iff, false_and, true_and, and_false, and_true, and_self, if_true, if_false, uc_r, ug_r, uc2, ug1, xt4, xs1, hh, k, xt3, xp1, hv], ?_, h0⟩
          simp (disch := omega) only [f_X3_provider, ym0, zm, Option.bind_some, f_isTarget ht h0.nt, m_bS, show nI 1 = 1 from rfl, q01, q02, q03, q04, q05, q06, q07, q08, q10, q12, q13, q14, q15, q16, q17, q18, q20, q21, q23, q24, q25, q26, q27, q28, q30, q31, q32, q34, q35, q36, q37, q38, q40, q41, q42, q43, q45, q46, q47, q48, q50, q51, q52, q53, q54, q56, q57, q58, q60, q61, q62, q63, q64, q65, q67, q68, q70, q71, q72, q73, q74, q75, q76, q78, q80, q81, q82, q83, q84, q85, q86, q87, w02, w12, w22, w03, w13, w23, w33, qm1, Int32.reduceLT, Int32.reduceLE, Int32.reduceAdd, Int32.reduceSub, Nat.reduceEqDiff, Nat.add_left_cancel_iff, false_and, true_and, and_false, and_true, and_self, if_true, if_false, uc_r, ug_r, uc2, ug1, xm22, i3_1, xi22, k, xm20, xi20]
      · by_cases k : m.1 22 (3 * t + 2) = 0
        · refine ⟨c, uc m 0 0 0, 0, by simp (disch := omega) only [f_X0_provider, zh, Option.bind_some, f_targetAt ht h.cnt, m_bS, m_nnS, w02, w12, w22, show nI 2 = 2 from rfl, q01, q02, q03, q04, q05, q06, q07, q08, q10, q12, q13, q14, q15, q16, q17, q18, q20, q21, q23, q24, q25, q26, q27, q28, q30, q31, q32, q34, q35, q36, q37, q38, q40, q41, q42, q43, q45, q46, q47, q48, q50, q51, q52, q53, q54, q56, q57, q58, q60, q61, q62, q63, q64, q65, q67, q68, q70, q71, q72, q73, q74, q75, q76, q78, q80, q81, q82, q83, q84, q85, q86, q87, w02, w12, w22, w03, w13, w23, w33, qm1, Int32.reduceLT, Int32.reduceLE, Int32.reduceAdd, Int32.reduceSub, Nat.reduceEqDiff, Nat.add_left_cancel_iff, false_and, true_and, and_false, and_true, and_self, if_true, if_false, uc_r, ug_r, uc2, ug1, xt4, xs2, hh, k], ?_, h0⟩
          simp (disch := omega) only [f_X3_provider, ym0, zm, Option.bind_some, f_isTarget ht h0.nt, m_bS, show nI 2 = 2 from rfl, q01, q02, q03, q04, q05, q06, q07, q08, q10, q12, q13, q14, q15, q16, q17, q18, q20, q21, q23, q24, q25, q26, q27, q28, q30, q31, q32, q34, q35, q36, q37, q38, q40, q41, q42, q43, q45, q46, q47, q48, q50, q51, q52, q53, q54, q56, q57, q58, q60, q61, q62, q63, q64, q65, q67, q68, q70, q71, q72, q73, q74, q75, q76, q78, q80, q81, q82, q83, q84, q85, q86, q87, w02, w12, w22, w03, w13, w23, w33, qm1, Int32.reduceLT, Int32.reduceLE, Int32.reduceAdd, Int32.reduceSub, Nat.reduceEqDiff, Nat.add_left_cancel_iff, false_and, true_and, and_false, and_true, and_self, if_true, if_false, uc_r, ug_r, uc2, ug1, xm22, i3_2, xi22, k]
        · refine ⟨c, uc m 0 0 0, m.1 20 (3 * t + 2), by simp (disch := omega) only [f_X0_provider, zh, Option.bind_some, f_targetAt ht h.cnt, m_bS, m_nnS, w02, w12, w22, show nI 2 = 2 from rfl, q01, q02, q03, q04, q05, q06, q07, q08, q10, q12, q13, q14, q15, q16, q17, q18, q20, q21, q23, q24, q25, q26, q27, q28, q30, q31, q32, q34, q35, q36, q37, q38, q40, q41, q42, q43, q45, q46, q47, q48, q50, q51, q52, q53, q54, q56, q57, q58, q60, q61, q62, q63, q64, q65, q67, q68, q70, q71, q72, q73, q74, q75, q76, q78, q80, q81, q82, q83, q84, q85, q86, q87, w02, w12, w22, w03, w13, w23, w33, qm1, Int32.reduceLT, Int32.reduceLE, Int32.reduceAdd, Int32.reduceSub, Nat.reduceEqDiff, Nat.add_left_cancel_iff, false_and, true_and, and_false, and_true, and_self, if_true, if_false, uc_r, ug_r, uc2, ug1, xt4, xs2, hh, k, xt3, xp2, hv], ?_, h0⟩
          simp (disch := omega) only [f_X3_provider, ym0, zm, Option.bind_some, f_isTarget ht h0.nt, m_bS, show nI 2 = 2 from rfl, q01, q02, q03, q04, q05, q06, q07, q08, q10, q12, q13, q14, q15, q16, q17, q18, q20, q21, q23, q24, q25, q26, q27, q28, q30, q31, q32, q34, q35, q36, q37, q38, q40, q41, q42, q43, q45, q46, q47, q48, q50, q51, q52, q53, q54, q56, q57, q58, q60, q61, q62, q63, q64, q65, q67, q68, q70, q71, q72, q73, q74, q75, q76, q78, q80, q81, q82, q83, q84, q85, q86, q87, w02, w12, w22, w03, w13, w23, w33, qm1, Int32.reduceLT, Int32.reduceLE, Int32.reduceAdd, Int32.reduceSub, Nat.reduceEqDiff, Nat.add_left_cancel_iff, false_and, true_and, and_false, and_true, and_self, if_true, if_false, uc_r, ug_r, uc2, ug1, xm22, i3_2, xi22, k, xm20, xi20]
theorem L_failed (h : Rel e c m) (p q : Int32) : LK e c m (f_X0_failed (g_h e) p q) (f_X3_failed (g_ar e 6) p q) := by
  have h40 := g_nt40 e
  have h0 : Rel e c (uc m 0 0 0) := h.mx (Or.inl rfl)
  rcases p_ix p (g_nt e) (by omega) with hp | ⟨t, ht, rfl⟩
  · exact ⟨c, uc m 0 0 0, -1, by simp only [f_X0_failed, zh, Option.bind_some, f_targetNo hp h.cnt, m_bS, m_nnN], by simp only [f_X3_failed, ym0, zm, Option.bind_some, f_isTargetNo hp h0.nt, m_bS, if_true], h0⟩
  · have k21 : c.1 21 t = m.1 21 t := h.sh 21 rfl t
    have k14 : c.1 14 t = m.1 14 t := h.sh 14 rfl t
    have k15 : c.1 15 t = m.1 15 t := h.sh 15 rfl t
    obtain ⟨s, -, -, -, -, -, -, hz, hnz, -⟩ := h.tq ht
    rcases p_ix q 3 (by decide) with hq | ⟨n, hn, rfl⟩
    · refine ⟨c, uc m 0 0 0, -2, by simp only [f_X0_failed, zh, Option.bind_some, f_targetAt ht h.cnt, m_bS, m_nnS, iw_n (n := 2) (x := 2) hq (by decide) rfl, if_true], ?_, h0⟩
      simp only [f_X3_failed, ym0, zm, Option.bind_some, f_isTarget ht h0.nt, m_bS, q10, if_false]
      rcases hq with hq | hq
      · rw [if_pos hq]
      · have hq1 := i_gt (n := 2) hq (by decide)
        rw [if_neg hq1.2.2, if_neg (show ¬ q ≤ 2 from hq1.2.1)]
    · have hn' : n = 0 ∨ n = 1 ∨ n = 2 := by omega
      by_cases k : m.1 21 t = 0
      · refine ⟨c, uc m 0 0 0, -3, by simp (disch := omega) only [f_X0_failed, zh, Option.bind_some, f_targetAt ht h.cnt, m_bS, m_nnS, iw_y (n := 2) (x := 2) (show n ≤ 2 by omega) (by decide) rfl, q10, if_false, xt5, k21, k, if_true], ?_, h0⟩
        simp (disch := omega) only [f_X3_failed, ym0, zm, Option.bind_some, f_isTarget ht h0.nt, m_bS, q10, if_false, if_neg (nI_pos (show n < 2 ^ 31 by omega)), if_pos (show nI n ≤ 2 from nI_le (b := 2) (by omega) (by decide)), xm21, xi21, uc_r, Nat.reduceEqDiff, false_and, k, if_true]
      · by_cases k1 : m.1 14 t = 0
        · obtain ⟨z1, z2⟩ := hz k1
          refine ⟨c, uc m 0 0 0, 0, by simp (disch := omega) only [f_X0_failed, zh, Option.bind_some, f_targetAt ht h.cnt, m_bS, m_nnS, iw_y (n := 2) (x := 2) (show n ≤ 2 by omega) (by decide) rfl, q10, if_false, xt5, k21, k, xt9, k14, k1, if_true], ?_, h0⟩
          simp (disch := omega) only [f_X3_failed, ym0, zm, Option.bind_some, f_isTarget ht h0.nt, m_bS, q10, if_false, if_neg (nI_pos (show n < 2 ^ 31 by omega)), if_pos (show nI n ≤ 2 from nI_le (b := 2) (by omega) (by decide)), xm21, xi21, uc_r, Nat.reduceEqDiff, false_and, k, xm14, xi14, xm15, xi15, xm16, xi16, k1, z1, z2, ite_self]
        · obtain ⟨z1, z2⟩ := hnz k1
          rcases hn' with rfl | rfl | rfl
          · refine ⟨c, uc m 0 0 0, m.1 14 t, by simp (disch := omega) only [f_X0_failed, zh, Option.bind_some, f_targetAt ht h.cnt, m_bS, m_nnS, w02, w12, w22, q10, if_false, xt5, k21, k, xt9, k14, k1, nI_0, if_true], ?_, h0⟩
            simp (disch := omega) only [f_X3_failed, ym0, zm, Option.bind_some, f_isTarget ht h0.nt, m_bS, q10, if_false, nI_0, xm21, xi21, uc_r, q01, q02, q03, q04, q05, q06, q07, q08, q10, q12, q13, q14, q15, q16, q17, q18, q20, q21, q23, q24, q25, q26, q27, q28, q30, q31, q32, q34, q35, q36, q37, q38, q40, q41, q42, q43, q45, q46, q47, q48, q50, q51, q52, q53, q54, q56, q57, q58, q60, q61, q62, q63, q64, q65, q67, q68, q70, q71, q72, q73, q74, q75, q76, q78, q80, q81, q82, q83, q84, q85, q86, q87, w02, w12, w22, w03, w13, w23, w33, qm1, Int32.reduceLT, Int32.reduceLE, Int32.reduceAdd, Int32.reduceSub, Nat.reduceEqDiff, Nat.add_left_cancel_iff, false_and, true_and, and_false, and_true, and_self, if_true, if_false, uc_r, ug_r, uc2, ug1, k, xm14, xi14]
          · refine ⟨c, uc m 0 0 0, m.1 15 t, by simp (disch := omega) only [f_X0_failed, zh, Option.bind_some, f_targetAt ht h.cnt, m_bS, m_nnS, w02, w12, w22, q10, if_false, xt5, k21, k, xt9, xt10, k14, k15, k1, show nI 1 = 1 from rfl, if_true], ?_, h0⟩
            simp (disch := omega) only [f_X3_failed, ym0, zm, Option.bind_some, f_isTarget ht h0.nt, m_bS, q10, if_false, show nI 1 = 1 from rfl, xm21, xi21, uc_r, q01, q02, q03, q04, q05, q06, q07, q08, q10, q12, q13, q14, q15, q16, q17, q18, q20, q21, q23, q24, q25, q26, q27, q28, q30, q31, q32, q34, q35, q36, q37, q38, q40, q41, q42, q43, q45, q46, q47, q48, q50, q51, q52, q53, q54, q56, q57, q58, q60, q61, q62, q63, q64, q65, q67, q68, q70, q71, q72, q73, q74, q75, q76, q78, q80, q81, q82, q83, q84, q85, q86, q87, w02, w12, w22, w03, w13, w23, w33, qm1, Int32.reduceLT, Int32.reduceLE, Int32.reduceAdd, Int32.reduceSub, Nat.reduceEqDiff, Nat.add_left_cancel_iff, false_and, true_and, and_false, and_true, and_self, if_true, if_false, uc_r, ug_r, uc2, ug1, k, xm15, xi15]
          · refine ⟨c, uc m 0 0 0, m.1 16 t, by simp (disch := omega) only [f_X0_failed, zh, Option.bind_some, f_targetAt ht h.cnt, m_bS, m_nnS, w02, w12, w22, q10, q20, q21, if_false, xt5, k21, k, xt9, xt11, k14, k1, z1, show nI 2 = 2 from rfl, if_true], ?_, h0⟩
            simp (disch := omega) only [f_X3_failed, ym0, zm, Option.bind_some, f_isTarget ht h0.nt, m_bS, q10, if_false, show nI 2 = 2 from rfl, xm21, xi21, uc_r, q01, q02, q03, q04, q05, q06, q07, q08, q10, q12, q13, q14, q15, q16, q17, q18, q20, q21, q23, q24, q25, q26, q27, q28, q30, q31, q32, q34, q35, q36, q37, q38, q40, q41, q42, q43, q45, q46, q47, q48, q50, q51, q52, q53, q54, q56, q57, q58, q60, q61, q62, q63, q64, q65, q67, q68, q70, q71, q72, q73, q74, q75, q76, q78, q80, q81, q82, q83, q84, q85, q86, q87, w02, w12, w22, w03, w13, w23, w33, qm1, Int32.reduceLT, Int32.reduceLE, Int32.reduceAdd, Int32.reduceSub, Nat.reduceEqDiff, Nat.add_left_cancel_iff, false_and, true_and, and_false, and_true, and_self, if_true, if_false, uc_r, ug_r, uc2, ug1, k, xm16, xi16]
theorem L_action (h : Rel e c m) (p q : Int32) : LK e c m (f_X0_action (g_h e) p q) (f_X3_action (g_ar e 6) p q) := by
  have h40 := g_nt40 e
  have h16 := g_nr16 e
  have h0 : Rel e c (uc m 0 0 0) := h.mx (Or.inl rfl)
  obtain ⟨⟨n, hn, k5, k23⟩, -⟩ := h.2.2.2
  have c5 : c.1 5 0 = nI n := (h.sh 5 rfl 0).trans k5
  rcases p_ix p n (by omega) with hp | ⟨i, hi, rfl⟩
  · refine ⟨c, uc m 0 0 0, -1, by simp only [f_X0_action, xh8, Option.bind_some, f_out hp (by omega) c5, m_bS, if_true], ?_, h0⟩
    simp only [f_X3_action, ym0, Option.bind_some, xm5, uc_r, Nat.reduceEqDiff, false_and, if_false, k5]
    rcases hp with hp | hp
    · rw [if_pos hp]
    · by_cases hp0 : p < 0
      · rw [if_pos hp0]
      · rw [if_neg hp0, if_neg (Int32.not_lt.mpr hp)]
  · obtain ⟨t, ht, ht2⟩ := k23 i hi
    have t23 : c.1 23 i = nI t := (h.sh 23 rfl i).trans ht2
    have t24 : c.1 24 i = m.1 24 i := h.sh 24 rfl i
    have hr := g_rlr e ht
    obtain ⟨s, -, -, z12, -⟩ := h.tq ht
    have a1 := h.2.1.2.2.1 _ hr
    by_cases q0 : q = 0
    · subst q0
      refine ⟨c, uc m 0 0 0, nI t, by simp (disch := omega) only [f_X0_action, xh8, Option.bind_some, f_in hi (by omega) c5, m_bS, q01, q02, q03, q04, q05, q06, q07, q08, q10, q12, q13, q14, q15, q16, q17, q18, q20, q21, q23, q24, q25, q26, q27, q28, q30, q31, q32, q34, q35, q36, q37, q38, q40, q41, q42, q43, q45, q46, q47, q48, q50, q51, q52, q53, q54, q56, q57, q58, q60, q61, q62, q63, q64, q65, q67, q68, q70, q71, q72, q73, q74, q75, q76, q78, q80, q81, q82, q83, q84, q85, q86, q87, w02, w12, w22, w03, w13, w23, w33, qm1, Int32.reduceLT, Int32.reduceLE, Int32.reduceAdd, Int32.reduceSub, Nat.reduceEqDiff, Nat.add_left_cancel_iff, false_and, true_and, and_false, and_true, and_self, if_true, if_false, uc_r, ug_r, uc2, ug1, xh6, xn3, t23], ?_, h0⟩
      simp (disch := omega) only [f_X3_action, ym0, Option.bind_some, xm5, q01, q02, q03, q04, q05, q06, q07, q08, q10, q12, q13, q14, q15, q16, q17, q18, q20, q21, q23, q24, q25, q26, q27, q28, q30, q31, q32, q34, q35, q36, q37, q38, q40, q41, q42, q43, q45, q46, q47, q48, q50, q51, q52, q53, q54, q56, q57, q58, q60, q61, q62, q63, q64, q65, q67, q68, q70, q71, q72, q73, q74, q75, q76, q78, q80, q81, q82, q83, q84, q85, q86, q87, w02, w12, w22, w03, w13, w23, w33, qm1, Int32.reduceLT, Int32.reduceLE, Int32.reduceAdd, Int32.reduceSub, Nat.reduceEqDiff, Nat.add_left_cancel_iff, false_and, true_and, and_false, and_true, and_self, if_true, if_false, uc_r, ug_r, uc2, ug1, k5, if_neg (nI_pos (show i < 2 ^ 31 by omega)), if_pos (nI_lt hi (show n < 2 ^ 31 by omega)), xm23, xi23, ht2, xm12, xi12, z12]
    · by_cases q1 : q = 1
      · subst q1
        refine ⟨c, uc m 0 0 0, m.1 24 i, by simp (disch := omega) only [f_X0_action, xh8, Option.bind_some, f_in hi (by omega) c5, m_bS, q01, q02, q03, q04, q05, q06, q07, q08, q10, q12, q13, q14, q15, q16, q17, q18, q20, q21, q23, q24, q25, q26, q27, q28, q30, q31, q32, q34, q35, q36, q37, q38, q40, q41, q42, q43, q45, q46, q47, q48, q50, q51, q52, q53, q54, q56, q57, q58, q60, q61, q62, q63, q64, q65, q67, q68, q70, q71, q72, q73, q74, q75, q76, q78, q80, q81, q82, q83, q84, q85, q86, q87, w02, w12, w22, w03, w13, w23, w33, qm1, Int32.reduceLT, Int32.reduceLE, Int32.reduceAdd, Int32.reduceSub, Nat.reduceEqDiff, Nat.add_left_cancel_iff, false_and, true_and, and_false, and_true, and_self, if_true, if_false, uc_r, ug_r, uc2, ug1, xh7, xn4, t24], ?_, h0⟩
        simp (disch := omega) only [f_X3_action, ym0, Option.bind_some, xm5, q01, q02, q03, q04, q05, q06, q07, q08, q10, q12, q13, q14, q15, q16, q17, q18, q20, q21, q23, q24, q25, q26, q27, q28, q30, q31, q32, q34, q35, q36, q37, q38, q40, q41, q42, q43, q45, q46, q47, q48, q50, q51, q52, q53, q54, q56, q57, q58, q60, q61, q62, q63, q64, q65, q67, q68, q70, q71, q72, q73, q74, q75, q76, q78, q80, q81, q82, q83, q84, q85, q86, q87, w02, w12, w22, w03, w13, w23, w33, qm1, Int32.reduceLT, Int32.reduceLE, Int32.reduceAdd, Int32.reduceSub, Nat.reduceEqDiff, Nat.add_left_cancel_iff, false_and, true_and, and_false, and_true, and_self, if_true, if_false, uc_r, ug_r, uc2, ug1, k5, if_neg (nI_pos (show i < 2 ^ 31 by omega)), if_pos (nI_lt hi (show n < 2 ^ 31 by omega)), xm23, xi23, ht2, xm12, xi12, z12, xm24, xi24]
      · by_cases q2 : q = 2
        · subst q2
          refine ⟨c, uc m 0 0 0, ((((m.1 7 (g_rl e t) * 31) + m.1 8 (g_rl e t)) * 31 + nI t) * 31) + m.1 24 i, by simp (disch := omega) only [f_X0_action, f_X0_digest, zh, xh8, Option.bind_some, f_in hi (by omega) c5, m_bS, m_nnS, q01, q02, q03, q04, q05, q06, q07, q08, q10, q12, q13, q14, q15, q16, q17, q18, q20, q21, q23, q24, q25, q26, q27, q28, q30, q31, q32, q34, q35, q36, q37, q38, q40, q41, q42, q43, q45, q46, q47, q48, q50, q51, q52, q53, q54, q56, q57, q58, q60, q61, q62, q63, q64, q65, q67, q68, q70, q71, q72, q73, q74, q75, q76, q78, q80, q81, q82, q83, q84, q85, q86, q87, w02, w12, w22, w03, w13, w23, w33, qm1, Int32.reduceLT, Int32.reduceLE, Int32.reduceAdd, Int32.reduceSub, Nat.reduceEqDiff, Nat.add_left_cancel_iff, false_and, true_and, and_false, and_true, and_self, if_true, if_false, uc_r, ug_r, uc2, ug1, xh6, xh7, xn3, xn4, t23, t24, f_targetAt ht h.cnt, xt1, xc0, xc1, a1.1, a1.2.1], ?_, h0⟩
          simp (disch := omega) only [f_X3_action, ym0, Option.bind_some, xm5, q01, q02, q03, q04, q05, q06, q07, q08, q10, q12, q13, q14, q15, q16, q17, q18, q20, q21, q23, q24, q25, q26, q27, q28, q30, q31, q32, q34, q35, q36, q37, q38, q40, q41, q42, q43, q45, q46, q47, q48, q50, q51, q52, q53, q54, q56, q57, q58, q60, q61, q62, q63, q64, q65, q67, q68, q70, q71, q72, q73, q74, q75, q76, q78, q80, q81, q82, q83, q84, q85, q86, q87, w02, w12, w22, w03, w13, w23, w33, qm1, Int32.reduceLT, Int32.reduceLE, Int32.reduceAdd, Int32.reduceSub, Nat.reduceEqDiff, Nat.add_left_cancel_iff, false_and, true_and, and_false, and_true, and_self, if_true, if_false, uc_r, ug_r, uc2, ug1, k5, if_neg (nI_pos (show i < 2 ^ 31 by omega)), if_pos (nI_lt hi (show n < 2 ^ 31 by omega)), xm23, xi23, ht2, xm12, xi12, z12, xm24, xi24, xm7, xi7, xm8, xi8]
        · refine ⟨c, uc m 0 0 0, -2, by simp (disch := omega) only [f_X0_action, xh8, Option.bind_some, f_in hi (by omega) c5, m_bS, q01, q02, q03, q04, q05, q06, q07, q08, q10, q12, q13, q14, q15, q16, q17, q18, q20, q21, q23, q24, q25, q26, q27, q28, q30, q31, q32, q34, q35, q36, q37, q38, q40, q41, q42, q43, q45, q46, q47, q48, q50, q51, q52, q53, q54, q56, q57, q58, q60, q61, q62, q63, q64, q65, q67, q68, q70, q71, q72, q73, q74, q75, q76, q78, q80, q81, q82, q83, q84, q85, q86, q87, w02, w12, w22, w03, w13, w23, w33, qm1, Int32.reduceLT, Int32.reduceLE, Int32.reduceAdd, Int32.reduceSub, Nat.reduceEqDiff, Nat.add_left_cancel_iff, false_and, true_and, and_false, and_true, and_self, if_true, if_false, uc_r, ug_r, uc2, ug1, q0, q1, q2], ?_, h0⟩
          simp (disch := omega) only [f_X3_action, ym0, Option.bind_some, xm5, q01, q02, q03, q04, q05, q06, q07, q08, q10, q12, q13, q14, q15, q16, q17, q18, q20, q21, q23, q24, q25, q26, q27, q28, q30, q31, q32, q34, q35, q36, q37, q38, q40, q41, q42, q43, q45, q46, q47, q48, q50, q51, q52, q53, q54, q56, q57, q58, q60, q61, q62, q63, q64, q65, q67, q68, q70, q71, q72, q73, q74, q75, q76, q78, q80, q81, q82, q83, q84, q85, q86, q87, w02, w12, w22, w03, w13, w23, w33, qm1, Int32.reduceLT, Int32.reduceLE, Int32.reduceAdd, Int32.reduceSub, Nat.reduceEqDiff, Nat.add_left_cancel_iff, false_and, true_and, and_false, and_true, and_self, if_true, if_false, uc_r, ug_r, uc2, ug1, k5, if_neg (nI_pos (show i < 2 ^ 31 by omega)), if_pos (nI_lt hi (show n < 2 ^ 31 by omega)), xm23, xi23, ht2, xm12, xi12, z12, q0, q1, q2]
end OPS
