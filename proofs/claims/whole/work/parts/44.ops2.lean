/-! ===== attribute, divide, handle ===== -/
section OPS2
variable {e : GE} {c m : CS}
theorem Rel.gl (h : Rel e c m) {i : Nat} {v : Int64} : Rel e (ug c 1 i v) m := by
  refine ⟨h.1, ?_, h.2.2.1, h.2.2.2⟩
  have h1 := h.2.1
  unfold RRx at *
  rw [ug2, up_ne (by decide)]
  exact h1
theorem RR_inc {r j : Nat} {x : Int64} (hr : r < g_nr e) (h : RRx e c m) (hj : j < 16) (h9 : m.1 9 (g_cr e r) = nI j) : RRx e (ug c 0 (g_cr e r) x) (ug m 0 j x) := by
  have hcr := g_crr e hr
  obtain ⟨a1, a2, a3, a4, a5, a6, a7, a8, a9⟩ := h
  refine ⟨a1, a2, a3, a4, a5, ?_, a7, a8, a9⟩
  intro s hs
  have hcs := g_crr e hs
  by_cases hq : g_cr e s = g_cr e r
  · rcases a6 s hs with b | b
    · rw [hq, h9] at b
      exact absurd b.2.1 (nI_neg1 (by omega))
    · obtain ⟨b1, b1', j', b2, b3, b4, b5, b6⟩ := b
      have hjj : j' = j := by
        rw [hq, h9, nI_eq (by omega) (by omega)] at b4
        exact b4.symm
      subst hjj
      refine Or.inr ⟨b1, b1', j', b2, b3, b4, b5, ?_⟩
      show (if 0 = 0 ∧ g_cr e s = g_cr e r then x else _) = (if 0 = 0 ∧ j' = j' then x else _)
      rw [if_pos ⟨rfl, hq⟩, if_pos ⟨rfl, rfl⟩]
  · have e1 : (ug c 0 (g_cr e r) x).2 0 (g_cr e s) = c.2 0 (g_cr e s) := by
      simp only [ug_r, hq, and_false, if_false]
    rw [e1]
    rcases a6 s hs with b | b
    · exact Or.inl b
    · obtain ⟨b1, b1', j', b2, b3, b4, b5, b6⟩ := b
      refine Or.inr ⟨b1, b1', j', b2, b3, b4, b5, ?_⟩
      have hjj : j' ≠ j := by
        rintro rfl
        exact hq (a7 _ _ (by omega) (by omega) (b4.trans h9.symm) (by rw [b4]; exact nI_neg1 (by omega)))
      show _ = (if 0 = 0 ∧ j' = j then x else m.2 0 j')
      rw [if_neg (fun h => hjj h.2)]
      exact b6
theorem Rel.inc {r j : Nat} {x : Int64} (hr : r < g_nr e) (h : Rel e c m) (hj : j < 16) (h9 : m.1 9 (g_cr e r) = nI j) : Rel e (ug c 0 (g_cr e r) x) (ug m 0 j x) := ⟨h.1, RR_inc hr h.2.1 hj h9, h.2.2.1, h.2.2.2⟩
theorem Rel.attr {t n : Nat} {v : Int32} (h : Rel e c m) (ht : t < g_nt e) (hn : n < 4) (h0 : n = 0 → ∃ d, d ≤ 20 ∧ v = nI d) (h2 : n = 2 → ∃ d, d ≤ t ∧ v = nI d) : Rel e (uc c 13 (4 * t + n) v) (uc m 13 (4 * t + n) v) := by
  refine ⟨h.1.b, (h.2.1.c (by decide)).m (by decide), TTx.c ?_ (by decide), h.2.2.2.m (by decide)⟩
  obtain ⟨a1, ⟨s, a2, a3, a4⟩, a5, a6, a7⟩ := h.2.2.1
  refine ⟨a1, ⟨s, a2, a3, fun t' ht' => ?_⟩, a5, fun i hi => ?_, a7⟩
  · obtain ⟨b1, b2, b3, b4⟩ := a4 t' ht'
    refine ⟨b1, ?_, ?_, b4⟩
    · rw [uc_r]
      by_cases k : 4 * t' + 0 = 4 * t + n
      · rw [if_pos ⟨rfl, k⟩]
        exact h0 (by omega)
      · rw [if_neg (fun h => k h.2)]
        exact b2
    · rw [uc_r]
      by_cases k : 4 * t' + 2 = 4 * t + n
      · rw [if_pos ⟨rfl, k⟩]
        obtain ⟨d, k1, k2⟩ := h2 (by omega)
        exact ⟨d, by omega, k2⟩
      · rw [if_neg (fun h => k h.2)]
        exact b3
  · rw [uc_r, if_neg (fun h => by omega)]
    exact a6 i hi
theorem L_attribute (h : Rel e c m) (p q v : Int32) : LK e c m (f_X0_attribute (g_h e) p q v) (f_X3_attribute (g_ar e 6) p q v) := by
  have h40 := g_nt40 e
  have h0 : Rel e c (uc m 0 0 0) := h.mx (Or.inl rfl)
  rcases p_ix p (g_nt e) (by omega) with hp | ⟨t, ht, rfl⟩
  · exact ⟨c, uc m 0 0 0, -1, by simp only [f_X0_attribute, zh, Option.bind_some, f_targetNo hp h.cnt, m_bS, m_nnN], by simp only [f_X3_attribute, ym0, zm, Option.bind_some, f_isTargetNo hp h0.nt, m_bS, if_true], h0⟩
  · have k21 : c.1 21 t = m.1 21 t := h.sh 21 rfl t
    have k13 : ∀ i, c.1 13 i = m.1 13 i := h.sh 13 rfl
    rcases p_ix q 4 (by decide) with hq | ⟨n, hn, rfl⟩
    · refine ⟨c, uc m 0 0 0, -1, by simp only [f_X0_attribute, zh, Option.bind_some, f_targetAt ht h.cnt, m_bS, m_nnS, iw_n (n := 3) (x := 3) hq (by decide) rfl, if_true], ?_, h0⟩
      simp only [f_X3_attribute, ym0, zm, Option.bind_some, f_isTarget ht h0.nt, m_bS, q10, if_false]
      rcases hq with hq | hq
      · rw [if_pos hq]
      · have hq1 := i_gt (n := 3) hq (by decide)
        rw [if_neg hq1.2.2, if_neg (show ¬ q ≤ 3 from hq1.2.1)]
    · have hn' : n = 0 ∨ n = 1 ∨ n = 2 ∨ n = 3 := by omega
      rcases hn' with rfl | rfl | rfl | rfl
      · rcases p_ix v 21 (by omega) with hv | ⟨d, hd, rfl⟩
        · refine ⟨c, uc m 0 0 0, -2, by simp (disch := omega) only [f_X0_attribute, f_X0_mayBecome, zh, Option.bind_some, f_targetAt ht h.cnt, m_bS, m_nnS, m_z0, m_z1, show nI 0 = 0 from rfl, xt0 e c m ht, q01, q02, q03, q04, q05, q06, q07, q08, q10, q12, q13, q14, q15, q16, q17, q18, q20, q21, q23, q24, q25, q26, q27, q28, q30, q31, q32, q34, q35, q36, q37, q38, q40, q41, q42, q43, q45, q46, q47, q48, q50, q51, q52, q53, q54, q56, q57, q58, q60, q61, q62, q63, q64, q65, q67, q68, q70, q71, q72, q73, q74, q75, q76, q78, q80, q81, q82, q83, q84, q85, q86, q87, w02, w12, w22, w03, w13, w23, w33, qm1, Int32.reduceLT, Int32.reduceLE, Int32.reduceAdd, Int32.reduceSub, Nat.reduceEqDiff, Nat.add_left_cancel_iff, false_and, true_and, and_false, and_true, and_self, if_true, if_false, uc_r, ug_r, uc2, ug1, iw_n (n := 20) (x := 20) hv (by omega) rfl], ?_, h0⟩
          simp (disch := omega) only [f_X3_attribute, ym0, zm, Option.bind_some, f_isTarget ht h0.nt, m_bS, show nI 0 = 0 from rfl, q01, q02, q03, q04, q05, q06, q07, q08, q10, q12, q13, q14, q15, q16, q17, q18, q20, q21, q23, q24, q25, q26, q27, q28, q30, q31, q32, q34, q35, q36, q37, q38, q40, q41, q42, q43, q45, q46, q47, q48, q50, q51, q52, q53, q54, q56, q57, q58, q60, q61, q62, q63, q64, q65, q67, q68, q70, q71, q72, q73, q74, q75, q76, q78, q80, q81, q82, q83, q84, q85, q86, q87, w02, w12, w22, w03, w13, w23, w33, qm1, Int32.reduceLT, Int32.reduceLE, Int32.reduceAdd, Int32.reduceSub, Nat.reduceEqDiff, Nat.add_left_cancel_iff, false_and, true_and, and_false, and_true, and_self, if_true, if_false, uc_r, ug_r, uc2, ug1]
          rcases hv with hv | hv
          · rw [if_pos hv]
          · have hv1 := i_gt (n := 20) hv (by omega)
            rw [if_neg hv1.2.2, if_neg (show ¬ v ≤ 20 from hv1.2.1)]
        · by_cases k : m.1 21 t = 0
          · refine ⟨uc c 13 (4 * t + 0) (nI d), uc (uc m 0 0 0) 13 (4 * t + 0) (nI d), m.1 13 (4 * t + 0), by simp (disch := omega) only [f_X0_attribute, f_X0_mayBecome, zh, Option.bind_some, f_targetAt ht h.cnt, m_bS, m_nnS, m_z0, m_z1, show nI 0 = 0 from rfl, xt0 e c m ht, q01, q02, q03, q04, q05, q06, q07, q08, q10, q12, q13, q14, q15, q16, q17, q18, q20, q21, q23, q24, q25, q26, q27, q28, q30, q31, q32, q34, q35, q36, q37, q38, q40, q41, q42, q43, q45, q46, q47, q48, q50, q51, q52, q53, q54, q56, q57, q58, q60, q61, q62, q63, q64, q65, q67, q68, q70, q71, q72, q73, q74, q75, q76, q78, q80, q81, q82, q83, q84, q85, q86, q87, w02, w12, w22, w03, w13, w23, w33, qm1, Int32.reduceLT, Int32.reduceLE, Int32.reduceAdd, Int32.reduceSub, Nat.reduceEqDiff, Nat.add_left_cancel_iff, false_and, true_and, and_false, and_true, and_self, if_true, if_false, uc_r, ug_r, uc2, ug1, iw_y (n := 20) (x := 20) (show d ≤ 20 by omega) (by omega) rfl, xt5, k21, k, xt2, xa0, ya0, k13], ?_, h0.attr ht (by decide) (fun _ => ⟨d, by omega, rfl⟩) (fun h => absurd h (by decide))⟩
            simp (disch := omega) only [f_X3_attribute, ym0, zm, Option.bind_some, f_isTarget ht h0.nt, m_bS, show nI 0 = 0 from rfl, q01, q02, q03, q04, q05, q06, q07, q08, q10, q12, q13, q14, q15, q16, q17, q18, q20, q21, q23, q24, q25, q26, q27, q28, q30, q31, q32, q34, q35, q36, q37, q38, q40, q41, q42, q43, q45, q46, q47, q48, q50, q51, q52, q53, q54, q56, q57, q58, q60, q61, q62, q63, q64, q65, q67, q68, q70, q71, q72, q73, q74, q75, q76, q78, q80, q81, q82, q83, q84, q85, q86, q87, w02, w12, w22, w03, w13, w23, w33, qm1, Int32.reduceLT, Int32.reduceLE, Int32.reduceAdd, Int32.reduceSub, Nat.reduceEqDiff, Nat.add_left_cancel_iff, false_and, true_and, and_false, and_true, and_self, if_true, if_false, uc_r, ug_r, uc2, ug1, if_neg (nI_pos (show d < 2 ^ 31 by omega)), if_pos (show nI d ≤ 20 from nI_le (b := 20) (by omega) (by omega)), xm21, xi21, k, xm13, i4_0, xi13, yi13]
          · refine ⟨c, uc m 0 0 0, -3, by simp (disch := omega) only [f_X0_attribute, f_X0_mayBecome, zh, Option.bind_some, f_targetAt ht h.cnt, m_bS, m_nnS, m_z0, m_z1, show nI 0 = 0 from rfl, xt0 e c m ht, q01, q02, q03, q04, q05, q06, q07, q08, q10, q12, q13, q14, q15, q16, q17, q18, q20, q21, q23, q24, q25, q26, q27, q28, q30, q31, q32, q34, q35, q36, q37, q38, q40, q41, q42, q43, q45, q46, q47, q48, q50, q51, q52, q53, q54, q56, q57, q58, q60, q61, q62, q63, q64, q65, q67, q68, q70, q71, q72, q73, q74, q75, q76, q78, q80, q81, q82, q83, q84, q85, q86, q87, w02, w12, w22, w03, w13, w23, w33, qm1, Int32.reduceLT, Int32.reduceLE, Int32.reduceAdd, Int32.reduceSub, Nat.reduceEqDiff, Nat.add_left_cancel_iff, false_and, true_and, and_false, and_true, and_self, if_true, if_false, uc_r, ug_r, uc2, ug1, iw_y (n := 20) (x := 20) (show d ≤ 20 by omega) (by omega) rfl, xt5, k21, k], ?_, h0⟩
            simp (disch := omega) only [f_X3_attribute, ym0, zm, Option.bind_some, f_isTarget ht h0.nt, m_bS, show nI 0 = 0 from rfl, q01, q02, q03, q04, q05, q06, q07, q08, q10, q12, q13, q14, q15, q16, q17, q18, q20, q21, q23, q24, q25, q26, q27, q28, q30, q31, q32, q34, q35, q36, q37, q38, q40, q41, q42, q43, q45, q46, q47, q48, q50, q51, q52, q53, q54, q56, q57, q58, q60, q61, q62, q63, q64, q65, q67, q68, q70, q71, q72, q73, q74, q75, q76, q78, q80, q81, q82, q83, q84, q85, q86, q87, w02, w12, w22, w03, w13, w23, w33, qm1, Int32.reduceLT, Int32.reduceLE, Int32.reduceAdd, Int32.reduceSub, Nat.reduceEqDiff, Nat.add_left_cancel_iff, false_and, true_and, and_false, and_true, and_self, if_true, if_false, uc_r, ug_r, uc2, ug1, if_neg (nI_pos (show d < 2 ^ 31 by omega)), if_pos (show nI d ≤ 20 from nI_le (b := 20) (by omega) (by omega)), xm21, xi21, k]
      · by_cases k : m.1 21 t = 0
        · refine ⟨uc c 13 (4 * t + 1) v, uc (uc m 0 0 0) 13 (4 * t + 1) v, m.1 13 (4 * t + 1), by simp (disch := omega) only [f_X0_attribute, f_X0_mayBecome, zh, Option.bind_some, f_targetAt ht h.cnt, m_bS, m_nnS, m_z0, m_z1, show nI 1 = 1 from rfl, xt0 e c m ht, q01, q02, q03, q04, q05, q06, q07, q08, q10, q12, q13, q14, q15, q16, q17, q18, q20, q21, q23, q24, q25, q26, q27, q28, q30, q31, q32, q34, q35, q36, q37, q38, q40, q41, q42, q43, q45, q46, q47, q48, q50, q51, q52, q53, q54, q56, q57, q58, q60, q61, q62, q63, q64, q65, q67, q68, q70, q71, q72, q73, q74, q75, q76, q78, q80, q81, q82, q83, q84, q85, q86, q87, w02, w12, w22, w03, w13, w23, w33, qm1, Int32.reduceLT, Int32.reduceLE, Int32.reduceAdd, Int32.reduceSub, Nat.reduceEqDiff, Nat.add_left_cancel_iff, false_and, true_and, and_false, and_true, and_self, if_true, if_false, uc_r, ug_r, uc2, ug1, xt5, k21, k, xt2, xa1, ya1, k13], ?_, h0.attr ht (by decide) (fun h => absurd h (by decide)) (fun h => absurd h (by decide))⟩
          simp (disch := omega) only [f_X3_attribute, ym0, zm, Option.bind_some, f_isTarget ht h0.nt, m_bS, show nI 1 = 1 from rfl, q01, q02, q03, q04, q05, q06, q07, q08, q10, q12, q13, q14, q15, q16, q17, q18, q20, q21, q23, q24, q25, q26, q27, q28, q30, q31, q32, q34, q35, q36, q37, q38, q40, q41, q42, q43, q45, q46, q47, q48, q50, q51, q52, q53, q54, q56, q57, q58, q60, q61, q62, q63, q64, q65, q67, q68, q70, q71, q72, q73, q74, q75, q76, q78, q80, q81, q82, q83, q84, q85, q86, q87, w02, w12, w22, w03, w13, w23, w33, qm1, Int32.reduceLT, Int32.reduceLE, Int32.reduceAdd, Int32.reduceSub, Nat.reduceEqDiff, Nat.add_left_cancel_iff, false_and, true_and, and_false, and_true, and_self, if_true, if_false, uc_r, ug_r, uc2, ug1, xm21, xi21, k, xm13, i4_1, xi13, yi13]
        · refine ⟨c, uc m 0 0 0, -3, by simp (disch := omega) only [f_X0_attribute, f_X0_mayBecome, zh, Option.bind_some, f_targetAt ht h.cnt, m_bS, m_nnS, m_z0, m_z1, show nI 1 = 1 from rfl, xt0 e c m ht, q01, q02, q03, q04, q05, q06, q07, q08, q10, q12, q13, q14, q15, q16, q17, q18, q20, q21, q23, q24, q25, q26, q27, q28, q30, q31, q32, q34, q35, q36, q37, q38, q40, q41, q42, q43, q45, q46, q47, q48, q50, q51, q52, q53, q54, q56, q57, q58, q60, q61, q62, q63, q64, q65, q67, q68, q70, q71, q72, q73, q74, q75, q76, q78, q80, q81, q82, q83, q84, q85, q86, q87, w02, w12, w22, w03, w13, w23, w33, qm1, Int32.reduceLT, Int32.reduceLE, Int32.reduceAdd, Int32.reduceSub, Nat.reduceEqDiff, Nat.add_left_cancel_iff, false_and, true_and, and_false, and_true, and_self, if_true, if_false, uc_r, ug_r, uc2, ug1, xt5, k21, k], ?_, h0⟩
          simp (disch := omega) only [f_X3_attribute, ym0, zm, Option.bind_some, f_isTarget ht h0.nt, m_bS, show nI 1 = 1 from rfl, q01, q02, q03, q04, q05, q06, q07, q08, q10, q12, q13, q14, q15, q16, q17, q18, q20, q21, q23, q24, q25, q26, q27, q28, q30, q31, q32, q34, q35, q36, q37, q38, q40, q41, q42, q43, q45, q46, q47, q48, q50, q51, q52, q53, q54, q56, q57, q58, q60, q61, q62, q63, q64, q65, q67, q68, q70, q71, q72, q73, q74, q75, q76, q78, q80, q81, q82, q83, q84, q85, q86, q87, w02, w12, w22, w03, w13, w23, w33, qm1, Int32.reduceLT, Int32.reduceLE, Int32.reduceAdd, Int32.reduceSub, Nat.reduceEqDiff, Nat.add_left_cancel_iff, false_and, true_and, and_false, and_true, and_self, if_true, if_false, uc_r, ug_r, uc2, ug1, xm21, xi21, k]
      · rcases p_ix v (t + 1) (by omega) with hv | ⟨d, hd, rfl⟩
        · refine ⟨c, uc m 0 0 0, -2, by simp (disch := omega) only [f_X0_attribute, f_X0_mayBecome, zh, Option.bind_some, f_targetAt ht h.cnt, m_bS, m_nnS, m_z0, m_z1, show nI 2 = 2 from rfl, xt0 e c m ht, q01, q02, q03, q04, q05, q06, q07, q08, q10, q12, q13, q14, q15, q16, q17, q18, q20, q21, q23, q24, q25, q26, q27, q28, q30, q31, q32, q34, q35, q36, q37, q38, q40, q41, q42, q43, q45, q46, q47, q48, q50, q51, q52, q53, q54, q56, q57, q58, q60, q61, q62, q63, q64, q65, q67, q68, q70, q71, q72, q73, q74, q75, q76, q78, q80, q81, q82, q83, q84, q85, q86, q87, w02, w12, w22, w03, w13, w23, w33, qm1, Int32.reduceLT, Int32.reduceLE, Int32.reduceAdd, Int32.reduceSub, Nat.reduceEqDiff, Nat.add_left_cancel_iff, false_and, true_and, and_false, and_true, and_self, if_true, if_false, uc_r, ug_r, uc2, ug1, iw_n (n := t) (x := (nI t)) hv (by omega) rfl], ?_, h0⟩
          simp (disch := omega) only [f_X3_attribute, ym0, zm, Option.bind_some, f_isTarget ht h0.nt, m_bS, show nI 2 = 2 from rfl, q01, q02, q03, q04, q05, q06, q07, q08, q10, q12, q13, q14, q15, q16, q17, q18, q20, q21, q23, q24, q25, q26, q27, q28, q30, q31, q32, q34, q35, q36, q37, q38, q40, q41, q42, q43, q45, q46, q47, q48, q50, q51, q52, q53, q54, q56, q57, q58, q60, q61, q62, q63, q64, q65, q67, q68, q70, q71, q72, q73, q74, q75, q76, q78, q80, q81, q82, q83, q84, q85, q86, q87, w02, w12, w22, w03, w13, w23, w33, qm1, Int32.reduceLT, Int32.reduceLE, Int32.reduceAdd, Int32.reduceSub, Nat.reduceEqDiff, Nat.add_left_cancel_iff, false_and, true_and, and_false, and_true, and_self, if_true, if_false, uc_r, ug_r, uc2, ug1]
          rcases hv with hv | hv
          · rw [if_pos hv]
          · have hv1 := i_gt (n := t) hv (by omega)
            rw [if_neg hv1.2.2, if_neg (show ¬ v ≤ nI t from hv1.2.1)]
        · by_cases k : m.1 21 t = 0
          · refine ⟨uc c 13 (4 * t + 2) (nI d), uc (uc m 0 0 0) 13 (4 * t + 2) (nI d), m.1 13 (4 * t + 2), by simp (disch := omega) only [f_X0_attribute, f_X0_mayBecome, zh, Option.bind_some, f_targetAt ht h.cnt, m_bS, m_nnS, m_z0, m_z1, show nI 2 = 2 from rfl, xt0 e c m ht, q01, q02, q03, q04, q05, q06, q07, q08, q10, q12, q13, q14, q15, q16, q17, q18, q20, q21, q23, q24, q25, q26, q27, q28, q30, q31, q32, q34, q35, q36, q37, q38, q40, q41, q42, q43, q45, q46, q47, q48, q50, q51, q52, q53, q54, q56, q57, q58, q60, q61, q62, q63, q64, q65, q67, q68, q70, q71, q72, q73, q74, q75, q76, q78, q80, q81, q82, q83, q84, q85, q86, q87, w02, w12, w22, w03, w13, w23, w33, qm1, Int32.reduceLT, Int32.reduceLE, Int32.reduceAdd, Int32.reduceSub, Nat.reduceEqDiff, Nat.add_left_cancel_iff, false_and, true_and, and_false, and_true, and_self, if_true, if_false, uc_r, ug_r, uc2, ug1, iw_y (n := t) (x := (nI t)) (show d ≤ t by omega) (by omega) rfl, xt5, k21, k, xt2, xa2, ya2, k13], ?_, h0.attr ht (by decide) (fun h => absurd h (by decide)) (fun _ => ⟨d, by omega, rfl⟩)⟩
            simp (disch := omega) only [f_X3_attribute, ym0, zm, Option.bind_some, f_isTarget ht h0.nt, m_bS, show nI 2 = 2 from rfl, q01, q02, q03, q04, q05, q06, q07, q08, q10, q12, q13, q14, q15, q16, q17, q18, q20, q21, q23, q24, q25, q26, q27, q28, q30, q31, q32, q34, q35, q36, q37, q38, q40, q41, q42, q43, q45, q46, q47, q48, q50, q51, q52, q53, q54, q56, q57, q58, q60, q61, q62, q63, q64, q65, q67, q68, q70, q71, q72, q73, q74, q75, q76, q78, q80, q81, q82, q83, q84, q85, q86, q87, w02, w12, w22, w03, w13, w23, w33, qm1, Int32.reduceLT, Int32.reduceLE, Int32.reduceAdd, Int32.reduceSub, Nat.reduceEqDiff, Nat.add_left_cancel_iff, false_and, true_and, and_false, and_true, and_self, if_true, if_false, uc_r, ug_r, uc2, ug1, if_neg (nI_pos (show d < 2 ^ 31 by omega)), if_pos (show nI d ≤ nI t from nI_le (b := t) (by omega) (by omega)), xm21, xi21, k, xm13, i4_2, xi13, yi13]
          · refine ⟨c, uc m 0 0 0, -3, by simp (disch := omega) only [f_X0_attribute, f_X0_mayBecome, zh, Option.bind_some, f_targetAt ht h.cnt, m_bS, m_nnS, m_z0, m_z1, show nI 2 = 2 from rfl, xt0 e c m ht, q01, q02, q03, q04, q05, q06, q07, q08, q10, q12, q13, q14, q15, q16, q17, q18, q20, q21, q23, q24, q25, q26, q27, q28, q30, q31, q32, q34, q35, q36, q37, q38, q40, q41, q42, q43, q45, q46, q47, q48, q50, q51, q52, q53, q54, q56, q57, q58, q60, q61, q62, q63, q64, q65, q67, q68, q70, q71, q72, q73, q74, q75, q76, q78, q80, q81, q82, q83, q84, q85, q86, q87, w02, w12, w22, w03, w13, w23, w33, qm1, Int32.reduceLT, Int32.reduceLE, Int32.reduceAdd, Int32.reduceSub, Nat.reduceEqDiff, Nat.add_left_cancel_iff, false_and, true_and, and_false, and_true, and_self, if_true, if_false, uc_r, ug_r, uc2, ug1, iw_y (n := t) (x := (nI t)) (show d ≤ t by omega) (by omega) rfl, xt5, k21, k], ?_, h0⟩
            simp (disch := omega) only [f_X3_attribute, ym0, zm, Option.bind_some, f_isTarget ht h0.nt, m_bS, show nI 2 = 2 from rfl, q01, q02, q03, q04, q05, q06, q07, q08, q10, q12, q13, q14, q15, q16, q17, q18, q20, q21, q23, q24, q25, q26, q27, q28, q30, q31, q32, q34, q35, q36, q37, q38, q40, q41, q42, q43, q45, q46, q47, q48, q50, q51, q52, q53, q54, q56, q57, q58, q60, q61, q62, q63, q64, q65, q67, q68, q70, q71, q72, q73, q74, q75, q76, q78, q80, q81, q82, q83, q84, q85, q86, q87, w02, w12, w22, w03, w13, w23, w33, qm1, Int32.reduceLT, Int32.reduceLE, Int32.reduceAdd, Int32.reduceSub, Nat.reduceEqDiff, Nat.add_left_cancel_iff, false_and, true_and, and_false, and_true, and_self, if_true, if_false, uc_r, ug_r, uc2, ug1, if_neg (nI_pos (show d < 2 ^ 31 by omega)), if_pos (show nI d ≤ nI t from nI_le (b := t) (by omega) (by omega)), xm21, xi21, k]
      · rcases p_ix v 2 (by omega) with hv | ⟨d, hd, rfl⟩
        · refine ⟨c, uc m 0 0 0, -2, by simp (disch := omega) only [f_X0_attribute, f_X0_mayBecome, zh, Option.bind_some, f_targetAt ht h.cnt, m_bS, m_nnS, m_z0, m_z1, show nI 3 = 3 from rfl, xt0 e c m ht, q01, q02, q03, q04, q05, q06, q07, q08, q10, q12, q13, q14, q15, q16, q17, q18, q20, q21, q23, q24, q25, q26, q27, q28, q30, q31, q32, q34, q35, q36, q37, q38, q40, q41, q42, q43, q45, q46, q47, q48, q50, q51, q52, q53, q54, q56, q57, q58, q60, q61, q62, q63, q64, q65, q67, q68, q70, q71, q72, q73, q74, q75, q76, q78, q80, q81, q82, q83, q84, q85, q86, q87, w02, w12, w22, w03, w13, w23, w33, qm1, Int32.reduceLT, Int32.reduceLE, Int32.reduceAdd, Int32.reduceSub, Nat.reduceEqDiff, Nat.add_left_cancel_iff, false_and, true_and, and_false, and_true, and_self, if_true, if_false, uc_r, ug_r, uc2, ug1, iw_n (n := 1) (x := 1) hv (by omega) rfl], ?_, h0⟩
          simp (disch := omega) only [f_X3_attribute, ym0, zm, Option.bind_some, f_isTarget ht h0.nt, m_bS, show nI 3 = 3 from rfl, q01, q02, q03, q04, q05, q06, q07, q08, q10, q12, q13, q14, q15, q16, q17, q18, q20, q21, q23, q24, q25, q26, q27, q28, q30, q31, q32, q34, q35, q36, q37, q38, q40, q41, q42, q43, q45, q46, q47, q48, q50, q51, q52, q53, q54, q56, q57, q58, q60, q61, q62, q63, q64, q65, q67, q68, q70, q71, q72, q73, q74, q75, q76, q78, q80, q81, q82, q83, q84, q85, q86, q87, w02, w12, w22, w03, w13, w23, w33, qm1, Int32.reduceLT, Int32.reduceLE, Int32.reduceAdd, Int32.reduceSub, Nat.reduceEqDiff, Nat.add_left_cancel_iff, false_and, true_and, and_false, and_true, and_self, if_true, if_false, uc_r, ug_r, uc2, ug1]
          rcases hv with hv | hv
          · rw [if_pos hv]
          · have hv1 := i_gt (n := 1) hv (by omega)
            rw [if_neg hv1.2.2, if_neg (show ¬ v ≤ 1 from hv1.2.1)]
        · by_cases k : m.1 21 t = 0
          · refine ⟨uc c 13 (4 * t + 3) (nI d), uc (uc m 0 0 0) 13 (4 * t + 3) (nI d), m.1 13 (4 * t + 3), by simp (disch := omega) only [f_X0_attribute, f_X0_mayBecome, zh, Option.bind_some, f_targetAt ht h.cnt, m_bS, m_nnS, m_z0, m_z1, show nI 3 = 3 from rfl, xt0 e c m ht, q01, q02, q03, q04, q05, q06, q07, q08, q10, q12, q13, q14, q15, q16, q17, q18, q20, q21, q23, q24, q25, q26, q27, q28, q30, q31, q32, q34, q35, q36, q37, q38, q40, q41, q42, q43, q45, q46, q47, q48, q50, q51, q52, q53, q54, q56, q57, q58, q60, q61, q62, q63, q64, q65, q67, q68, q70, q71, q72, q73, q74, q75, q76, q78, q80, q81, q82, q83, q84, q85, q86, q87, w02, w12, w22, w03, w13, w23, w33, qm1, Int32.reduceLT, Int32.reduceLE, Int32.reduceAdd, Int32.reduceSub, Nat.reduceEqDiff, Nat.add_left_cancel_iff, false_and, true_and, and_false, and_true, and_self, if_true, if_false, uc_r, ug_r, uc2, ug1, iw_y (n := 1) (x := 1) (show d ≤ 1 by omega) (by omega) rfl, xt5, k21, k, xt2, xa3, ya3, k13], ?_, h0.attr ht (by decide) (fun h => absurd h (by decide)) (fun h => absurd h (by decide))⟩
            simp (disch := omega) only [f_X3_attribute, ym0, zm, Option.bind_some, f_isTarget ht h0.nt, m_bS, show nI 3 = 3 from rfl, q01, q02, q03, q04, q05, q06, q07, q08, q10, q12, q13, q14, q15, q16, q17, q18, q20, q21, q23, q24, q25, q26, q27, q28, q30, q31, q32, q34, q35, q36, q37, q38, q40, q41, q42, q43, q45, q46, q47, q48, q50, q51, q52, q53, q54, q56, q57, q58, q60, q61, q62, q63, q64, q65, q67, q68, q70, q71, q72, q73, q74, q75, q76, q78, q80, q81, q82, q83, q84, q85, q86, q87, w02, w12, w22, w03, w13, w23, w33, qm1, Int32.reduceLT, Int32.reduceLE, Int32.reduceAdd, Int32.reduceSub, Nat.reduceEqDiff, Nat.add_left_cancel_iff, false_and, true_and, and_false, and_true, and_self, if_true, if_false, uc_r, ug_r, uc2, ug1, if_neg (nI_pos (show d < 2 ^ 31 by omega)), if_pos (show nI d ≤ 1 from nI_le (b := 1) (by omega) (by omega)), xm21, xi21, k, xm13, i4_3, xi13, yi13]
          · refine ⟨c, uc m 0 0 0, -3, by simp (disch := omega) only [f_X0_attribute, f_X0_mayBecome, zh, Option.bind_some, f_targetAt ht h.cnt, m_bS, m_nnS, m_z0, m_z1, show nI 3 = 3 from rfl, xt0 e c m ht, q01, q02, q03, q04, q05, q06, q07, q08, q10, q12, q13, q14, q15, q16, q17, q18, q20, q21, q23, q24, q25, q26, q27, q28, q30, q31, q32, q34, q35, q36, q37, q38, q40, q41, q42, q43, q45, q46, q47, q48, q50, q51, q52, q53, q54, q56, q57, q58, q60, q61, q62, q63, q64, q65, q67, q68, q70, q71, q72, q73, q74, q75, q76, q78, q80, q81, q82, q83, q84, q85, q86, q87, w02, w12, w22, w03, w13, w23, w33, qm1, Int32.reduceLT, Int32.reduceLE, Int32.reduceAdd, Int32.reduceSub, Nat.reduceEqDiff, Nat.add_left_cancel_iff, false_and, true_and, and_false, and_true, and_self, if_true, if_false, uc_r, ug_r, uc2, ug1, iw_y (n := 1) (x := 1) (show d ≤ 1 by omega) (by omega) rfl, xt5, k21, k], ?_, h0⟩
            simp (disch := omega) only [f_X3_attribute, ym0, zm, Option.bind_some, f_isTarget ht h0.nt, m_bS, show nI 3 = 3 from rfl, q01, q02, q03, q04, q05, q06, q07, q08, q10, q12, q13, q14, q15, q16, q17, q18, q20, q21, q23, q24, q25, q26, q27, q28, q30, q31, q32, q34, q35, q36, q37, q38, q40, q41, q42, q43, q45, q46, q47, q48, q50, q51, q52, q53, q54, q56, q57, q58, q60, q61, q62, q63, q64, q65, q67, q68, q70, q71, q72, q73, q74, q75, q76, q78, q80, q81, q82, q83, q84, q85, q86, q87, w02, w12, w22, w03, w13, w23, w33, qm1, Int32.reduceLT, Int32.reduceLE, Int32.reduceAdd, Int32.reduceSub, Nat.reduceEqDiff, Nat.add_left_cancel_iff, false_and, true_and, and_false, and_true, and_self, if_true, if_false, uc_r, ug_r, uc2, ug1, if_neg (nI_pos (show d < 2 ^ 31 by omega)), if_pos (show nI d ≤ 1 from nI_le (b := 1) (by omega) (by omega)), xm21, xi21, k]
theorem L_divide (h : Rel e c m) (p : Int32) (a b : Int64) : ∃ e' c' m' v l, g_h e' = g_h e ∧ f_L_divide (some (g_h e)) p a b (some (g_h e + 24)) (WW e c m) = some (v, WW e' c' m) ∧ f_X3_divide (g_ar e 6) p a b (WW e' c' m) = some (l, WW e' c' m') ∧ Rel e' c' m' ∧ m'.1 0 0 = v ∧ (v = 0 → c'.2 1 0 = l) := by
  have h16 := g_nr16 e
  have h0 : Rel e c (uc m 0 0 0) := h.mx (Or.inl rfl)
  rcases p_ix p (g_nr e) (by omega) with hp | ⟨r, hr, rfl⟩
  · refine ⟨e, ug c 1 0 0, uc m 0 0 0, 0, 0, rfl, ?_, ?_, h0.gl, rfl, fun _ => rfl⟩
    · simp only [f_L_divide, f_X0_divide, m_ov, zh, Option.bind_some, f_classNo hp h.cnr, m_bS, m_nnN, yl]
    · simp only [f_X3_divide, ym0, zm, Option.bind_some, f_isRuleNo hp h0.nr, m_bS, if_true]
  · have hcr := g_crr e hr
    obtain ⟨c', m', x, y, e1, e2, e3, h1, ⟨-, hfm, -⟩, h2⟩ := L_made hr h0
    have hm0 : m'.1 0 0 = 0 := by rw [hfm 0 (by decide) (by decide)]; rfl
    rcases h2 with ⟨rfl, rfl⟩ | ⟨rfl, j, hj, rfl, -, h9, -, hg⟩
    · refine ⟨e, ug c' 1 0 0, m', 0, 0, rfl, ?_, ?_, h1.gl, hm0, fun _ => rfl⟩
      · simp only [f_L_divide, f_X0_divide, m_ov, zh, Option.bind_some, f_classAt hr h.cnr, m_bS, m_nnS, e1, if_true, yl]
      · simp only [f_X3_divide, ym0, zm, Option.bind_some, f_isRule hr h0.nr, m_bS, q10, if_false, e2, if_true]
    · have h3 : Rel e (ug c' 0 (g_cr e r) (c'.2 0 (g_cr e r) + 1)) (ug m' 0 j (m'.2 0 j + 1)) := by
        rw [hg]
        exact h1.inc hr hj h9
      by_cases hb : b = 0
      · have hb' : lg_cmp b 0 = 0 := (lg_cmp_eq b 0).mpr hb
        refine ⟨g_bump e, ug c' 0 (g_cr e r) (c'.2 0 (g_cr e r) + 1), uc (ug m' 0 j (m'.2 0 j + 1)) 0 0 1, 1, 0, rfl, ?_, ?_, (h3.mx (Or.inl rfl)).bump, rfl, fun h => absurd h (by decide)⟩
        · simp only [f_L_divide, f_X0_divide, m_ov, zh, Option.bind_some, f_classAt hr h.cnr, m_bS, m_nnS, e1, q10, if_false, xc5 _ _ _ hr, yc5 _ _ _ hr, hb', if_true, WW_bump]
        · show f_X3_divide (g_ar (g_bump e) 6) (nI r) a b (WW (g_bump e) _ m) = _
          simp (disch := omega) only [f_X3_divide, ym0, zm, Option.bind_some, f_isRule (e := g_bump e) hr h0.nr, m_bS, q10, if_false, e3, if_neg (nI_neg1 (show j < 2 ^ 31 by omega)), xm11, xi11, yi11, hb', if_true]
      · have hb' : ¬ lg_cmp b 0 = 0 := fun hh => hb ((lg_cmp_eq b 0).mp hh)
        refine ⟨e, ug (ug c' 0 (g_cr e r) (c'.2 0 (g_cr e r) + 1)) 1 0 (a / b), uc (ug m' 0 j (m'.2 0 j + 1)) 0 0 0, 0, a / b, rfl, ?_, ?_, (h3.mx (Or.inl rfl)).gl, rfl, fun _ => rfl⟩
        · simp only [f_L_divide, f_X0_divide, m_ov, zh, Option.bind_some, f_classAt hr h.cnr, m_bS, m_nnS, e1, q10, if_false, xc5 _ _ _ hr, yc5 _ _ _ hr, hb', hb, yl]
        · simp (disch := omega) only [f_X3_divide, ym0, zm, Option.bind_some, f_isRule hr h0.nr, m_bS, q10, if_false, e2, if_neg (nI_neg1 (show j < 2 ^ 31 by omega)), xm11, xi11, yi11, hb', hb]
          by_cases hm1 : b = -1
          · subst hm1
            rw [if_pos ((lg_cmp_eq _ _).mpr rfl), l_divm1]
          · rw [if_neg (fun hh => hm1 ((lg_cmp_eq _ _).mp hh))]
theorem L_handle (h : Rel e c m) (p : Int32) : ∃ e' c' m' v l, g_h e' = g_h e ∧ f_L_handle (some (g_h e)) p (some (g_h e + 24)) (WW e c m) = some (v, WW e' c' m) ∧ f_X3_handle (g_ar e 6) p (WW e' c' m) = some (l, WW e' c' m') ∧ Rel e' c' m' ∧ m'.1 0 0 = v ∧ (v = 0 → c'.2 1 0 = (l : Int32).toInt64) := by
  obtain ⟨-, n, hn, k6⟩ := h.2.2.2
  have c6 : c.1 6 0 = nI n := (h.sh 6 rfl 0).trans k6
  have h0 : Rel e c (uc m 0 0 0) := h.mx (Or.inl rfl)
  have h1 : Rel e c (uc m 0 0 1) := h.mx (Or.inl rfl)
  rcases p_ix p n (by omega) with hp | ⟨i, hi, rfl⟩
  · refine ⟨e, ug c 1 0 (Int32.toInt64 (-1)), uc m 0 0 0, 0, -1, rfl, ?_, ?_, h0.gl, rfl, fun _ => rfl⟩
    · simp only [f_L_handle, f_X0_handle, m_ov, zh, xh9, Option.bind_some, f_out hp (by omega) c6, m_bS, if_true, yl]
    · simp only [f_X3_handle, ym0, xm0, xm6, Option.bind_some, k6, q01, q02, q03, q04, q05, q06, q07, q08, q10, q12, q13, q14, q15, q16, q17, q18, q20, q21, q23, q24, q25, q26, q27, q28, q30, q31, q32, q34, q35, q36, q37, q38, q40, q41, q42, q43, q45, q46, q47, q48, q50, q51, q52, q53, q54, q56, q57, q58, q60, q61, q62, q63, q64, q65, q67, q68, q70, q71, q72, q73, q74, q75, q76, q78, q80, q81, q82, q83, q84, q85, q86, q87, w02, w12, w22, w03, w13, w23, w33, qm1, Int32.reduceLT, Int32.reduceLE, Int32.reduceAdd, Int32.reduceSub, Nat.reduceEqDiff, Nat.add_left_cancel_iff, false_and, true_and, and_false, and_true, and_self, if_true, if_false, uc_r, ug_r, uc2, ug1]
      rcases hp with hp | hp
      · rw [if_pos hp]
      · by_cases hp0 : p < 0
        · rw [if_pos hp0]
        · rw [if_neg hp0, if_pos hp]
  · refine ⟨g_bump e, c, uc m 0 0 1, 1, 0, rfl, ?_, ?_, h1.bump, rfl, fun h => absurd h (by decide)⟩
    · simp only [f_L_handle, f_X0_handle, m_ov, zh, xh9, Option.bind_some, f_in hi (by omega) c6, m_bS, q10, if_false, WW_bump]
    · show f_X3_handle (g_ar (g_bump e) 6) (nI i) (WW (g_bump e) c m) = _
      simp only [f_X3_handle, ym0, xm0, xm6, Option.bind_some, k6, q01, q02, q03, q04, q05, q06, q07, q08, q10, q12, q13, q14, q15, q16, q17, q18, q20, q21, q23, q24, q25, q26, q27, q28, q30, q31, q32, q34, q35, q36, q37, q38, q40, q41, q42, q43, q45, q46, q47, q48, q50, q51, q52, q53, q54, q56, q57, q58, q60, q61, q62, q63, q64, q65, q67, q68, q70, q71, q72, q73, q74, q75, q76, q78, q80, q81, q82, q83, q84, q85, q86, q87, w02, w12, w22, w03, w13, w23, w33, qm1, Int32.reduceLT, Int32.reduceLE, Int32.reduceAdd, Int32.reduceSub, Nat.reduceEqDiff, Nat.add_left_cancel_iff, false_and, true_and, and_false, and_true, and_self, if_true, if_false, uc_r, ug_r, uc2, ug1, if_neg (nI_pos (show i < 2 ^ 31 by omega)), if_neg (nI_ge hi (show n < 2 ^ 31 by omega))]
end OPS2
