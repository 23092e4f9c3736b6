/-! ===== run ===== -/
theorem shr0 (x : Int32) : x >>> (nI 0 &&& 31) = x := by
  have h : (nI 0 &&& 31 : Int32) = 0 := by decide
  rw [h, Int32.shiftRight_zero]
section RUN
variable {e : GE} {c m : CS} {t : Nat}
theorem L_bits {na j : Nat} {nd : Option Nat} {q3 : Int32} (P : Nat) (ht : t < g_nt e) (hnd : ND e nd q3) : ∀ r b c m f f', b + r = 8 → r < f → r < f' → LI e t na b j c m →
    ∃ c' m', (∀ X, f_X0_doBits_L8 f (nI b) (nI na) (g_h e) (some (g_ta e t)) nd (WW e c X) = some ((), WW e c' X)) ∧ (∀ Y, f_X3_runOne_L58 f' (nI b) q3 (nI j) (g_ar e 6) (nI t) (WW e Y m) = some ((), WW e Y m')) ∧ Rel e c' m' ∧ FrT t P c m c' m' ∧ m'.1 21 t = m.1 21 t := by
  have h40 := g_nt40 e
  have h16 := g_nr16 e
  have hrl := g_rlr e ht
  intro r
  induction r with
  | zero =>
    intro b c m f f' hb hf hf' h
    cases f with
    | zero => omega
    | succ f =>
    cases f' with
    | zero => omega
    | succ f' =>
    have hb8 : b = 8 := by omega
    subst hb8
    have h8 : (8 : Int32) ≤ nI 8 := by decide
    refine ⟨c, m, fun X => ?_, fun Y => ?_, h.1, FrT.refl _ _ _ _, rfl⟩
    · simp only [f_X0_doBits_L8, if_pos h8]
    · simp only [f_X3_runOne_L58, if_pos h8]
  | succ r ih =>
    intro b c m f f' hb hf hf' h
    cases f with
    | zero => omega
    | succ f =>
    cases f' with
    | zero => omega
    | succ f' =>
    have h8 : ¬ (8 : Int32) ≤ nI b := nI_ge (b := 8) (by omega) (by decide)
    have hLI := h
    obtain ⟨h, hr, h14, ⟨q, h17, h5, hn, hq⟩, ho0, ho1, h9, hj⟩ := h
    obtain ⟨s, -, -, z12, -⟩ := h.tq ht
    have c8 : c.1 8 (g_cr e (g_rl e t)) = m.1 8 (g_rl e t) := (h.2.1.2.2.1 _ hrl).2.1
    by_cases hbit : (m.1 8 (g_rl e t) >>> (nI b &&& 31)) &&& 1 = 0
    · have hLI' : LI e t na (b + 1) j c m := by
        refine ⟨h, hr, h14, ⟨q, h17, h5, hn, fun hh => hq (by omega)⟩, fun hh => absurd hh (by omega), fun hh => ?_, h9, hj⟩
        have hb0 : b = 0 := by omega
        subst hb0
        rw [shr0] at hbit
        rw [ho0 rfl, hbit]
      obtain ⟨c', m', k1, k2, k3, k4, k5⟩ := ih (b + 1) c m f f' (by omega) (by omega) (by omega) hLI'
      refine ⟨c', m', fun X => ?_, fun Y => ?_, k3, k4, k5⟩
      · simp (disch := omega) only [f_X0_doBits_L8, if_neg h8, Option.bind_some, xt1, xc1, c8, hbit, if_true, nI_1, k1]
      · simp (disch := omega) only [f_X3_runOne_L58, if_neg h8, Option.bind_some, xm8, xm12, xi12, z12, xi8, hbit, if_true, nI_1, k2]
    · obtain ⟨c1, m1, b1, e1, e2, h1, hb1⟩ := L_step h ht
      rcases hb1 with ⟨rfl, rfl, rfl⟩ | ⟨rfl, v, rfl, rfl⟩
      · obtain ⟨c', m', k1, k2, k3, k4, k5, -⟩ := L_fail (n := na) (q := q) (x := 5) (v := nI b) (w := nI t) h ht P hr (by decide) h17 h5 hn
        refine ⟨c', m', fun X => ?_, fun Y => ?_, k3, k4, k5⟩
        · simp (disch := omega) only [f_X0_doBits_L8, if_neg h8, Option.bind_some, xt1, xc1, c8, hbit, zh, e1, m_bS, q01, q02, q03, q04, q05, q06, q07, q08, q10, q12, q13, q14, q15, q16, q17, q18, q20, q21, q23, q24, q25, q26, q27, q28, q30, q31, q32, q34, q35, q36, q37, q38, q40, q41, q42, q43, q45, q46, q47, q48, q50, q51, q52, q53, q54, q56, q57, q58, q60, q61, q62, q63, q64, q65, q67, q68, q70, q71, q72, q73, q74, q75, q76, q78, q80, q81, q82, q83, q84, q85, q86, q87, w02, w12, w22, w03, w13, w23, w33, qm1, Int32.reduceLT, Int32.reduceLE, Int32.reduceAdd, Int32.reduceSub, Nat.reduceEqDiff, Nat.add_left_cancel_iff, false_and, true_and, and_false, and_true, and_self, if_true, if_false, uc_r, ug_r, uc2, ug1, yh8, xt0, zt, k1]
        · simp (disch := omega) only [f_X3_runOne_L58, if_neg h8, Option.bind_some, xm8, xm12, xi12, z12, xi8, hbit, zm, e2, m_bS, q01, q02, q03, q04, q05, q06, q07, q08, q10, q12, q13, q14, q15, q16, q17, q18, q20, q21, q23, q24, q25, q26, q27, q28, q30, q31, q32, q34, q35, q36, q37, q38, q40, q41, q42, q43, q45, q46, q47, q48, q50, q51, q52, q53, q54, q56, q57, q58, q60, q61, q62, q63, q64, q65, q67, q68, q70, q71, q72, q73, q74, q75, q76, q78, q80, q81, q82, q83, q84, q85, q86, q87, w02, w12, w22, w03, w13, w23, w33, qm1, Int32.reduceLT, Int32.reduceLE, Int32.reduceAdd, Int32.reduceSub, Nat.reduceEqDiff, Nat.add_left_cancel_iff, false_and, true_and, and_false, and_true, and_self, if_true, if_false, uc_r, ug_r, uc2, ug1, k2]
      · have hLI1 : LI e t na b j (uc c 18 t v) (uc m 18 t v) := by
          refine ⟨h1, ?_, ?_, ⟨q, ?_, ?_, hn, hq⟩, ?_, ?_, ?_, hj⟩
          · simp only [q01, q02, q03, q04, q05, q06, q07, q08, q10, q12, q13, q14, q15, q16, q17, q18, q20, q21, q23, q24, q25, q26, q27, q28, q30, q31, q32, q34, q35, q36, q37, q38, q40, q41, q42, q43, q45, q46, q47, q48, q50, q51, q52, q53, q54, q56, q57, q58, q60, q61, q62, q63, q64, q65, q67, q68, q70, q71, q72, q73, q74, q75, q76, q78, q80, q81, q82, q83, q84, q85, q86, q87, w02, w12, w22, w03, w13, w23, w33, qm1, Int32.reduceLT, Int32.reduceLE, Int32.reduceAdd, Int32.reduceSub, Nat.reduceEqDiff, Nat.add_left_cancel_iff, false_and, true_and, and_false, and_true, and_self, if_true, if_false, uc_r, ug_r, uc2, ug1]
            exact hr
          · simp only [q01, q02, q03, q04, q05, q06, q07, q08, q10, q12, q13, q14, q15, q16, q17, q18, q20, q21, q23, q24, q25, q26, q27, q28, q30, q31, q32, q34, q35, q36, q37, q38, q40, q41, q42, q43, q45, q46, q47, q48, q50, q51, q52, q53, q54, q56, q57, q58, q60, q61, q62, q63, q64, q65, q67, q68, q70, q71, q72, q73, q74, q75, q76, q78, q80, q81, q82, q83, q84, q85, q86, q87, w02, w12, w22, w03, w13, w23, w33, qm1, Int32.reduceLT, Int32.reduceLE, Int32.reduceAdd, Int32.reduceSub, Nat.reduceEqDiff, Nat.add_left_cancel_iff, false_and, true_and, and_false, and_true, and_self, if_true, if_false, uc_r, ug_r, uc2, ug1]
            exact h14
          · simp only [q01, q02, q03, q04, q05, q06, q07, q08, q10, q12, q13, q14, q15, q16, q17, q18, q20, q21, q23, q24, q25, q26, q27, q28, q30, q31, q32, q34, q35, q36, q37, q38, q40, q41, q42, q43, q45, q46, q47, q48, q50, q51, q52, q53, q54, q56, q57, q58, q60, q61, q62, q63, q64, q65, q67, q68, q70, q71, q72, q73, q74, q75, q76, q78, q80, q81, q82, q83, q84, q85, q86, q87, w02, w12, w22, w03, w13, w23, w33, qm1, Int32.reduceLT, Int32.reduceLE, Int32.reduceAdd, Int32.reduceSub, Nat.reduceEqDiff, Nat.add_left_cancel_iff, false_and, true_and, and_false, and_true, and_self, if_true, if_false, uc_r, ug_r, uc2, ug1]
            exact h17
          · simp only [q01, q02, q03, q04, q05, q06, q07, q08, q10, q12, q13, q14, q15, q16, q17, q18, q20, q21, q23, q24, q25, q26, q27, q28, q30, q31, q32, q34, q35, q36, q37, q38, q40, q41, q42, q43, q45, q46, q47, q48, q50, q51, q52, q53, q54, q56, q57, q58, q60, q61, q62, q63, q64, q65, q67, q68, q70, q71, q72, q73, q74, q75, q76, q78, q80, q81, q82, q83, q84, q85, q86, q87, w02, w12, w22, w03, w13, w23, w33, qm1, Int32.reduceLT, Int32.reduceLE, Int32.reduceAdd, Int32.reduceSub, Nat.reduceEqDiff, Nat.add_left_cancel_iff, false_and, true_and, and_false, and_true, and_self, if_true, if_false, uc_r, ug_r, uc2, ug1]
            exact h5
          · simp only [q01, q02, q03, q04, q05, q06, q07, q08, q10, q12, q13, q14, q15, q16, q17, q18, q20, q21, q23, q24, q25, q26, q27, q28, q30, q31, q32, q34, q35, q36, q37, q38, q40, q41, q42, q43, q45, q46, q47, q48, q50, q51, q52, q53, q54, q56, q57, q58, q60, q61, q62, q63, q64, q65, q67, q68, q70, q71, q72, q73, q74, q75, q76, q78, q80, q81, q82, q83, q84, q85, q86, q87, w02, w12, w22, w03, w13, w23, w33, qm1, Int32.reduceLT, Int32.reduceLE, Int32.reduceAdd, Int32.reduceSub, Nat.reduceEqDiff, Nat.add_left_cancel_iff, false_and, true_and, and_false, and_true, and_self, if_true, if_false, uc_r, ug_r, uc2, ug1]
            exact ho0
          · simp only [q01, q02, q03, q04, q05, q06, q07, q08, q10, q12, q13, q14, q15, q16, q17, q18, q20, q21, q23, q24, q25, q26, q27, q28, q30, q31, q32, q34, q35, q36, q37, q38, q40, q41, q42, q43, q45, q46, q47, q48, q50, q51, q52, q53, q54, q56, q57, q58, q60, q61, q62, q63, q64, q65, q67, q68, q70, q71, q72, q73, q74, q75, q76, q78, q80, q81, q82, q83, q84, q85, q86, q87, w02, w12, w22, w03, w13, w23, w33, qm1, Int32.reduceLT, Int32.reduceLE, Int32.reduceAdd, Int32.reduceSub, Nat.reduceEqDiff, Nat.add_left_cancel_iff, false_and, true_and, and_false, and_true, and_self, if_true, if_false, uc_r, ug_r, uc2, ug1]
            exact ho1
          · simp only [q01, q02, q03, q04, q05, q06, q07, q08, q10, q12, q13, q14, q15, q16, q17, q18, q20, q21, q23, q24, q25, q26, q27, q28, q30, q31, q32, q34, q35, q36, q37, q38, q40, q41, q42, q43, q45, q46, q47, q48, q50, q51, q52, q53, q54, q56, q57, q58, q60, q61, q62, q63, q64, q65, q67, q68, q70, q71, q72, q73, q74, q75, q76, q78, q80, q81, q82, q83, q84, q85, q86, q87, w02, w12, w22, w03, w13, w23, w33, qm1, Int32.reduceLT, Int32.reduceLE, Int32.reduceAdd, Int32.reduceSub, Nat.reduceEqDiff, Nat.add_left_cancel_iff, false_and, true_and, and_false, and_true, and_self, if_true, if_false, uc_r, ug_r, uc2, ug1]
            exact h9
        obtain ⟨c2, m2, x, d1, d2, d3⟩ := L_deed P ht (by omega) hLI1 hnd (by
          rintro rfl
          rw [shr0] at hbit
          simp only [q01, q02, q03, q04, q05, q06, q07, q08, q10, q12, q13, q14, q15, q16, q17, q18, q20, q21, q23, q24, q25, q26, q27, q28, q30, q31, q32, q34, q35, q36, q37, q38, q40, q41, q42, q43, q45, q46, q47, q48, q50, q51, q52, q53, q54, q56, q57, q58, q60, q61, q62, q63, q64, q65, q67, q68, q70, q71, q72, q73, q74, q75, q76, q78, q80, q81, q82, q83, q84, q85, q86, q87, w02, w12, w22, w03, w13, w23, w33, qm1, Int32.reduceLT, Int32.reduceLE, Int32.reduceAdd, Int32.reduceSub, Nat.reduceEqDiff, Nat.add_left_cancel_iff, false_and, true_and, and_false, and_true, and_self, if_true, if_false, uc_r, ug_r, uc2, ug1]
          exact (and1 _).resolve_left hbit)
        obtain ⟨g1, g2, g3, g4, ⟨q', g5, g6, g7, g8⟩, g9, g10⟩ := d3
        have fr0 : FrT t P c m (uc c 18 t v) (uc m 18 t v) := by
          refine FrT.m (FrT.c (FrT.refl t P c m) ?_) rfl ?_ ?_ ?_ <;> omega
        have r21 : m2.1 21 t = m.1 21 t := by
          rw [g3]
          simp only [q01, q02, q03, q04, q05, q06, q07, q08, q10, q12, q13, q14, q15, q16, q17, q18, q20, q21, q23, q24, q25, q26, q27, q28, q30, q31, q32, q34, q35, q36, q37, q38, q40, q41, q42, q43, q45, q46, q47, q48, q50, q51, q52, q53, q54, q56, q57, q58, q60, q61, q62, q63, q64, q65, q67, q68, q70, q71, q72, q73, q74, q75, q76, q78, q80, q81, q82, q83, q84, q85, q86, q87, w02, w12, w22, w03, w13, w23, w33, qm1, Int32.reduceLT, Int32.reduceLE, Int32.reduceAdd, Int32.reduceSub, Nat.reduceEqDiff, Nat.add_left_cancel_iff, false_and, true_and, and_false, and_true, and_self, if_true, if_false, uc_r, ug_r, uc2, ug1]
        have r14 : m2.1 14 t = 0 := by
          rw [g4]
          simp only [q01, q02, q03, q04, q05, q06, q07, q08, q10, q12, q13, q14, q15, q16, q17, q18, q20, q21, q23, q24, q25, q26, q27, q28, q30, q31, q32, q34, q35, q36, q37, q38, q40, q41, q42, q43, q45, q46, q47, q48, q50, q51, q52, q53, q54, q56, q57, q58, q60, q61, q62, q63, q64, q65, q67, q68, q70, q71, q72, q73, q74, q75, q76, q78, q80, q81, q82, q83, q84, q85, q86, q87, w02, w12, w22, w03, w13, w23, w33, qm1, Int32.reduceLT, Int32.reduceLE, Int32.reduceAdd, Int32.reduceSub, Nat.reduceEqDiff, Nat.add_left_cancel_iff, false_and, true_and, and_false, and_true, and_self, if_true, if_false, uc_r, ug_r, uc2, ug1]
          exact h14
        by_cases hx : x = 0
        · subst hx
          have r8 : m2.1 8 = m.1 8 := (g2.1 8 rfl).trans (fr0.1 8 rfl)
          have hLI2 : LI e t na (b + 1) j c2 m2 := by
            refine ⟨g1, by rw [r21]; exact hr, r14, ⟨q', g5, g6, g7, fun hh => g8 (by omega)⟩, fun hh => absurd hh (by omega), fun hh => ?_, ?_, hj⟩
            · rw [g9 (by omega), r8]
              simp only [q01, q02, q03, q04, q05, q06, q07, q08, q10, q12, q13, q14, q15, q16, q17, q18, q20, q21, q23, q24, q25, q26, q27, q28, q30, q31, q32, q34, q35, q36, q37, q38, q40, q41, q42, q43, q45, q46, q47, q48, q50, q51, q52, q53, q54, q56, q57, q58, q60, q61, q62, q63, q64, q65, q67, q68, q70, q71, q72, q73, q74, q75, q76, q78, q80, q81, q82, q83, q84, q85, q86, q87, w02, w12, w22, w03, w13, w23, w33, qm1, Int32.reduceLT, Int32.reduceLE, Int32.reduceAdd, Int32.reduceSub, Nat.reduceEqDiff, Nat.add_left_cancel_iff, false_and, true_and, and_false, and_true, and_self, if_true, if_false, uc_r, ug_r, uc2, ug1]
            · have q9 : (uc m 18 t v).1 9 (g_cr e (g_rl e t)) = nI j := by
                simp only [q01, q02, q03, q04, q05, q06, q07, q08, q10, q12, q13, q14, q15, q16, q17, q18, q20, q21, q23, q24, q25, q26, q27, q28, q30, q31, q32, q34, q35, q36, q37, q38, q40, q41, q42, q43, q45, q46, q47, q48, q50, q51, q52, q53, q54, q56, q57, q58, q60, q61, q62, q63, q64, q65, q67, q68, q70, q71, q72, q73, q74, q75, q76, q78, q80, q81, q82, q83, q84, q85, q86, q87, w02, w12, w22, w03, w13, w23, w33, qm1, Int32.reduceLT, Int32.reduceLE, Int32.reduceAdd, Int32.reduceSub, Nat.reduceEqDiff, Nat.add_left_cancel_iff, false_and, true_and, and_false, and_true, and_self, if_true, if_false, uc_r, ug_r, uc2, ug1]
                exact h9
              rw [g2.2.1 _ (by rw [q9]; exact nI_neg1 (by omega)), q9]
          obtain ⟨c', m', k1, k2, k3, k4, k5⟩ := ih (b + 1) c2 m2 f f' (by omega) (by omega) (by omega) hLI2
          refine ⟨c', m', fun X => ?_, fun Y => ?_, k3, (fr0.trans g2 (Nat.le_refl _) (Nat.le_refl _)).trans k4 (Nat.le_refl _) (Nat.le_refl _), k5.trans r21⟩
          · simp (disch := omega) only [f_X0_doBits_L8, if_neg h8, Option.bind_some, xt1, xc1, c8, hbit, zh, e1, m_bS, q01, q02, q03, q04, q05, q06, q07, q08, q10, q12, q13, q14, q15, q16, q17, q18, q20, q21, q23, q24, q25, q26, q27, q28, q30, q31, q32, q34, q35, q36, q37, q38, q40, q41, q42, q43, q45, q46, q47, q48, q50, q51, q52, q53, q54, q56, q57, q58, q60, q61, q62, q63, q64, q65, q67, q68, q70, q71, q72, q73, q74, q75, q76, q78, q80, q81, q82, q83, q84, q85, q86, q87, w02, w12, w22, w03, w13, w23, w33, qm1, Int32.reduceLT, Int32.reduceLE, Int32.reduceAdd, Int32.reduceSub, Nat.reduceEqDiff, Nat.add_left_cancel_iff, false_and, true_and, and_false, and_true, and_self, if_true, if_false, uc_r, ug_r, uc2, ug1, d1, nI_1, k1]
          · simp (disch := omega) only [f_X3_runOne_L58, if_neg h8, Option.bind_some, xm8, xm12, xi12, z12, xi8, hbit, zm, e2, m_bS, q01, q02, q03, q04, q05, q06, q07, q08, q10, q12, q13, q14, q15, q16, q17, q18, q20, q21, q23, q24, q25, q26, q27, q28, q30, q31, q32, q34, q35, q36, q37, q38, q40, q41, q42, q43, q45, q46, q47, q48, q50, q51, q52, q53, q54, q56, q57, q58, q60, q61, q62, q63, q64, q65, q67, q68, q70, q71, q72, q73, q74, q75, q76, q78, q80, q81, q82, q83, q84, q85, q86, q87, w02, w12, w22, w03, w13, w23, w33, qm1, Int32.reduceLT, Int32.reduceLE, Int32.reduceAdd, Int32.reduceSub, Nat.reduceEqDiff, Nat.add_left_cancel_iff, false_and, true_and, and_false, and_true, and_self, if_true, if_false, uc_r, ug_r, uc2, ug1, d2, nI_1, k2]
        · obtain ⟨c', m', k1, k2, k3, k4, k5, -⟩ := L_fail (n := na) (q := q') (x := x) (v := nI b) (w := nI t) g1 ht P (by rw [r21]; exact hr) (g10.resolve_left hx) g5 g6 g7
          refine ⟨c', m', fun X => ?_, fun Y => ?_, k3, (fr0.trans g2 (Nat.le_refl _) (Nat.le_refl _)).trans k4 (Nat.le_refl _) (Nat.le_refl _), k5.trans r21⟩
          · simp (disch := omega) only [f_X0_doBits_L8, if_neg h8, Option.bind_some, xt1, xc1, c8, hbit, zh, e1, m_bS, q01, q02, q03, q04, q05, q06, q07, q08, q10, q12, q13, q14, q15, q16, q17, q18, q20, q21, q23, q24, q25, q26, q27, q28, q30, q31, q32, q34, q35, q36, q37, q38, q40, q41, q42, q43, q45, q46, q47, q48, q50, q51, q52, q53, q54, q56, q57, q58, q60, q61, q62, q63, q64, q65, q67, q68, q70, q71, q72, q73, q74, q75, q76, q78, q80, q81, q82, q83, q84, q85, q86, q87, w02, w12, w22, w03, w13, w23, w33, qm1, Int32.reduceLT, Int32.reduceLE, Int32.reduceAdd, Int32.reduceSub, Nat.reduceEqDiff, Nat.add_left_cancel_iff, false_and, true_and, and_false, and_true, and_self, if_true, if_false, uc_r, ug_r, uc2, ug1, d1, hx, yh8, xt0, zt, k1]
          · simp (disch := omega) only [f_X3_runOne_L58, if_neg h8, Option.bind_some, xm8, xm12, xi12, z12, xi8, hbit, zm, e2, m_bS, q01, q02, q03, q04, q05, q06, q07, q08, q10, q12, q13, q14, q15, q16, q17, q18, q20, q21, q23, q24, q25, q26, q27, q28, q30, q31, q32, q34, q35, q36, q37, q38, q40, q41, q42, q43, q45, q46, q47, q48, q50, q51, q52, q53, q54, q56, q57, q58, q60, q61, q62, q63, q64, q65, q67, q68, q70, q71, q72, q73, q74, q75, q76, q78, q80, q81, q82, q83, q84, q85, q86, q87, w02, w12, w22, w03, w13, w23, w33, qm1, Int32.reduceLT, Int32.reduceLE, Int32.reduceAdd, Int32.reduceSub, Nat.reduceEqDiff, Nat.add_left_cancel_iff, false_and, true_and, and_false, and_true, and_self, if_true, if_false, uc_r, ug_r, uc2, ug1, d2, hx, k2]
/-- what is left of a target once its need has been run -/
theorem L_fin {j dd : Nat} (P : Nat) (ht : t < g_nt e) (h : Rel e c m) (hr : m.1 21 t ≠ 0) (h14 : m.1 14 t = 0) (h17 : m.1 17 t = 0) (h33 : c.1 33 t = 0) (h9 : m.1 9 (g_cr e (g_rl e t)) = nI j) (hj : j < 16) (h10 : m.1 10 (g_cr e (g_rl e t)) = 0) (hdd : m.1 13 (4 * t + 2) = nI dd) (hdt : dd ≤ t) :
    ∃ c' m', (dd = 0 → ∀ X, f_X0_doBits (g_h e) (some (g_ta e t)) none (WW e c X) = some ((), WW e c' X)) ∧ (∀ n, dd = n + 1 → c.1 14 n = 0 → ∀ X, f_X0_doBits (g_h e) (some (g_ta e t)) (some (g_ta e n)) (WW e c X) = some ((), WW e c' X)) ∧ (∀ n, dd = n + 1 → ¬ c.1 14 n = 0 → ∀ X, f_X2_fail (g_ta e t) 6 8 (c.1 32 n) (WW e c X) = some ((), WW e c' X)) ∧
      (∀ Y, f_X3_runOne (g_ar e 6) (nI t) (WW e Y m) = some ((), WW e Y m')) ∧ Rel e c' m' ∧ FrT t P c m c' m' ∧ m'.1 21 t = m.1 21 t := by
  have h40 := g_nt40 e
  have h16 := g_nr16 e
  have hrl := g_rlr e ht
  obtain ⟨s, -, -, z12, -⟩ := h.tq ht
  obtain ⟨⟨na, hna, k5, -⟩, -⟩ := h.2.2.2
  have c5 : c.1 5 0 = nI na := (h.sh 5 rfl 0).trans k5
  have hLI : LI e t na 0 j c m := ⟨h, hr, h14, ⟨0, h17, k5, hna, fun _ => rfl⟩, fun _ => h33, fun hh => absurd hh (by decide), h9, hj⟩
  have hcl := classOf_made hrl h.2.1 hj h10 h9
  cases dd with
  | zero =>
    have hneg : nI 0 - 1 < 0 := by decide
    obtain ⟨c', m', k1, k2, k3, k4, k6⟩ := L_bits (na := na) (j := j) (nd := none) (q3 := nI 0 - 1) P ht (Or.inl ⟨rfl, hneg⟩) 8 0 c m 64 64 (by omega) (by omega) (by omega) hLI
    rw [nI_0] at k1 k2
    refine ⟨c', m', fun _ X => ?_, fun n hn => by omega, fun n hn => by omega, fun Y => ?_, k3, k4, k6⟩
    · simp only [f_X0_doBits, xh8, Option.bind_some, c5, k1]
    · rw [nI_0] at hneg hdd
      simp (disch := omega) only [f_X3_runOne, xm12, xi12, z12, Option.bind_some, zm, hcl, m_bS, xm13, i4_2, xi13, hdd, hneg, if_true, k2]
  | succ n =>
    have hnt : n < g_nt e := by omega
    have hpr : nI (n + 1) - 1 = nI n := nI_pred n
    have hnn : ¬ nI n < 0 := nI_pos (by omega)
    have kc14 : c.1 14 n = m.1 14 n := h.sh 14 rfl n
    obtain ⟨s', -, -, -, -, -, -, hz, hnz, -⟩ := h.tq hnt
    by_cases hf : m.1 14 n = 0
    · have hle : (0 : Int32) ≤ 0 := by decide
      obtain ⟨c', m', k1, k2, k3, k4, k6⟩ := L_bits (na := na) (j := j) (nd := some (g_ta e n)) (q3 := nI n) P ht (Or.inr ⟨n, hnt, rfl, rfl⟩) 8 0 c m 64 64 (by omega) (by omega) (by omega) hLI
      rw [nI_0] at k1 k2
      refine ⟨c', m', fun hh => by omega, fun n' hn' _ X => ?_, fun n' hn' hh => ?_, fun Y => ?_, k3, k4, k6⟩
      · have hnn' : n' = n := by omega
        subst hnn'
        simp only [f_X0_doBits, xh8, Option.bind_some, c5, k1]
      · have hnn' : n' = n := by omega
        subst hnn'
        exact absurd (kc14.trans hf) hh
      · simp (disch := omega) only [f_X3_runOne, xm12, xi12, z12, Option.bind_some, zm, hcl, m_bS, xm13, i4_2, xi13, hdd, hpr, hnn, if_false, xm14, xi14, hf, hle, if_true, k2]
    · obtain ⟨w1, w2⟩ := hnz hf
      obtain ⟨c', m', k1, k2, k3, k4, k6, -⟩ := L_fail (n := na) (q := 0) (x := 6) (v := 8) (w := c.1 32 n) h ht P hr (by decide) h17 k5 hna
      rw [uc_self c5] at k1
      refine ⟨c', m', fun hh => by omega, fun n' hn' hh => ?_, fun n' hn' _ X => ?_, fun Y => ?_, k3, k4, k6⟩
      · have hnn' : n' = n := by omega
        subst hnn'
        exact absurd (kc14.symm.trans hh) hf
      · have hnn' : n' = n := by omega
        subst hnn'
        exact k1 X
      · have hw : c.1 32 n + 1 - 1 = c.1 32 n := Int32.add_sub_cancel _ _
        simp (disch := omega) only [f_X3_runOne, xm12, xi12, z12, Option.bind_some, zm, hcl, m_bS, xm13, i4_2, xi13, hdd, hpr, hnn, if_false, xm14, xi14, w2, xm16, xi16, w1, hw, k2]
theorem L7_done {f a : Nat} {q3 q2 x : Int32} {s : MS} (h : 0 < f) : f_X3_runChain_L7 f 0 q3 q2 a x s = f_X3_runChain_L99 64 (q2 - 1) 0 q3 q2 a x s := by
  obtain ⟨f', rfl⟩ : ∃ f', f = f' + 1 := ⟨f - 1, by omega⟩
  simp only [f_X3_runChain_L7, if_true]
theorem L99_step {p g : Nat} {a b d x : Int32} {Y m' : CS} (ht : t < g_nt e) (hp : p < 40) (h19 : m.1 19 p = nI t) (h14 : m.1 14 t = 0) (hrun : ∀ Y, f_X3_runOne (g_ar e 6) (nI t) (WW e Y m) = some ((), WW e Y m')) : f_X3_runChain_L99 (g + 1) (nI p) a b d (g_ar e 6) x (WW e Y m) = f_X3_runChain_L99 g (nI p + (-1)) a b d (g_ar e 6) x (WW e Y m') := by
  have h40 := g_nt40 e
  simp (disch := omega) only [f_X3_runChain_L99, if_neg (nI_pos (show p < 2 ^ 31 by omega)), Option.bind_some, xm14, xm19, xi19, h19, xi14, h14, if_true, zm, hrun, m_bS]
theorem L99_skip {p g : Nat} {a b d x : Int32} {Y : CS} (ht : t < g_nt e) (hp : p < 40) (h19 : m.1 19 p = nI t) (h14 : ¬ m.1 14 t = 0) : f_X3_runChain_L99 (g + 1) (nI p) a b d (g_ar e 6) x (WW e Y m) = f_X3_runChain_L99 g (nI p + (-1)) a b d (g_ar e 6) x (WW e Y m) := by
  have h40 := g_nt40 e
  simp (disch := omega) only [f_X3_runChain_L99, if_neg (nI_pos (show p < 2 ^ 31 by omega)), Option.bind_some, xm14, xm19, xi19, h19, xi14, h14, if_false]
theorem once_done {d : Nat} {q : Int32} {X : CS} (ht : t < g_nt e) (h : ¬ c.1 21 t = 0) (hd : 0 < d) : f_X0_runOnce d (g_h e) (some (g_ta e t)) q (WW e c X) = some ((), WW e c X) := by
  obtain ⟨d', rfl⟩ : ∃ d', d = d' + 1 := ⟨d - 1, by omega⟩
  simp (disch := omega) only [↓reduceIte, f_X0_runOnce, Option.bind_some, xt5, h, if_false]
/-- the class's way down and up, and the reference's chain -/
theorem L_chain : ∀ t c m p, Rel e c m → t < g_nt e → m.1 21 t = 0 → p + t < 40 → ∃ c' m',
    (∀ X d q, t < d → q + t < 40 → f_X0_runOnce d (g_h e) (some (g_ta e t)) (nI q) (WW e c X) = some ((), WW e c' X)) ∧
    (∀ Y f x, t + 2 ≤ f → ∃ m1 k q3, k ≤ t + 1 ∧ f_X3_runChain_L7 f 1 (nI t) (nI p) (g_ar e 6) x (WW e Y m) = f_X3_runChain_L99 64 (nI (p + k) - 1) 0 q3 (nI (p + k)) (g_ar e 6) x (WW e Y m1) ∧
      ∀ g, f_X3_runChain_L99 (g + k) (nI (p + k) - 1) 0 q3 (nI (p + k)) (g_ar e 6) x (WW e Y m1) = f_X3_runChain_L99 g (nI p + (-1)) 0 q3 (nI (p + k)) (g_ar e 6) x (WW e Y m')) ∧
    Rel e c' m' ∧ FrT t p c m c' m' ∧ m'.1 21 t ≠ 0 := by
  intro t
  induction t using Nat.strongRecOn with
  | _ t ih =>
  intro c m p h ht h21 hp
  have h40 := g_nt40 e
  have h16 := g_nr16 e
  have hrl := g_rlr e ht
  have hcr := g_crr e hrl
  obtain ⟨s, -, -, z12, -, ⟨dd, hdd, zdd⟩, hnr, -⟩ := h.tq ht
  obtain ⟨z17, z14, z33⟩ := hnr h21
  have c21 : c.1 21 t = 0 := (h.sh 21 rfl t).trans h21
  have h1 : Rel e (uc c 21 t 1) (uc (uc m 21 t 1) 19 p (nI t)) := (h.mark ht).mx (Or.inr rfl)
  have fr1 : FrT t p c m (uc c 21 t 1) (uc (uc m 21 t 1) 19 p (nI t)) := by
    refine FrT.m (FrT.m (FrT.c (FrT.refl t p c m) ?_) rfl ?_ ?_ ?_) rfl ?_ ?_ ?_ <;> omega
  obtain ⟨c2, m2, a, b, e1, e2, -, h2, hfm, hcase⟩ := L_made hrl h1
  have fr2 : FrT t p c m c2 m2 := fr1.made hfm
  have n21 : m2.1 21 t ≠ 0 := by
    rw [hfm.2.1 21 (by decide) (by decide)]
    simp only [q01, q02, q03, q04, q05, q06, q07, q08, q10, q12, q13, q14, q15, q16, q17, q18, q20, q21, q23, q24, q25, q26, q27, q28, q30, q31, q32, q34, q35, q36, q37, q38, q40, q41, q42, q43, q45, q46, q47, q48, q50, q51, q52, q53, q54, q56, q57, q58, q60, q61, q62, q63, q64, q65, q67, q68, q70, q71, q72, q73, q74, q75, q76, q78, q80, q81, q82, q83, q84, q85, q86, q87, w02, w12, w22, w03, w13, w23, w33, qm1, Int32.reduceLT, Int32.reduceLE, Int32.reduceAdd, Int32.reduceSub, Nat.reduceEqDiff, Nat.add_left_cancel_iff, false_and, true_and, and_false, and_true, and_self, if_true, if_false, uc_r, ug_r, uc2, ug1]
    decide
  have n14 : m2.1 14 t = 0 := by
    rw [hfm.2.1 14 (by decide) (by decide)]
    simp only [q01, q02, q03, q04, q05, q06, q07, q08, q10, q12, q13, q14, q15, q16, q17, q18, q20, q21, q23, q24, q25, q26, q27, q28, q30, q31, q32, q34, q35, q36, q37, q38, q40, q41, q42, q43, q45, q46, q47, q48, q50, q51, q52, q53, q54, q56, q57, q58, q60, q61, q62, q63, q64, q65, q67, q68, q70, q71, q72, q73, q74, q75, q76, q78, q80, q81, q82, q83, q84, q85, q86, q87, w02, w12, w22, w03, w13, w23, w33, qm1, Int32.reduceLT, Int32.reduceLE, Int32.reduceAdd, Int32.reduceSub, Nat.reduceEqDiff, Nat.add_left_cancel_iff, false_and, true_and, and_false, and_true, and_self, if_true, if_false, uc_r, ug_r, uc2, ug1]
    exact z14
  have n17 : m2.1 17 t = 0 := by
    rw [hfm.2.1 17 (by decide) (by decide)]
    simp only [q01, q02, q03, q04, q05, q06, q07, q08, q10, q12, q13, q14, q15, q16, q17, q18, q20, q21, q23, q24, q25, q26, q27, q28, q30, q31, q32, q34, q35, q36, q37, q38, q40, q41, q42, q43, q45, q46, q47, q48, q50, q51, q52, q53, q54, q56, q57, q58, q60, q61, q62, q63, q64, q65, q67, q68, q70, q71, q72, q73, q74, q75, q76, q78, q80, q81, q82, q83, q84, q85, q86, q87, w02, w12, w22, w03, w13, w23, w33, qm1, Int32.reduceLT, Int32.reduceLE, Int32.reduceAdd, Int32.reduceSub, Nat.reduceEqDiff, Nat.add_left_cancel_iff, false_and, true_and, and_false, and_true, and_self, if_true, if_false, uc_r, ug_r, uc2, ug1]
    exact z17
  have n19 : m2.1 19 p = nI t := by
    rw [hfm.2.1 19 (by decide) (by decide)]
    simp only [q01, q02, q03, q04, q05, q06, q07, q08, q10, q12, q13, q14, q15, q16, q17, q18, q20, q21, q23, q24, q25, q26, q27, q28, q30, q31, q32, q34, q35, q36, q37, q38, q40, q41, q42, q43, q45, q46, q47, q48, q50, q51, q52, q53, q54, q56, q57, q58, q60, q61, q62, q63, q64, q65, q67, q68, q70, q71, q72, q73, q74, q75, q76, q78, q80, q81, q82, q83, q84, q85, q86, q87, w02, w12, w22, w03, w13, w23, w33, qm1, Int32.reduceLT, Int32.reduceLE, Int32.reduceAdd, Int32.reduceSub, Nat.reduceEqDiff, Nat.add_left_cancel_iff, false_and, true_and, and_false, and_true, and_self, if_true, if_false, uc_r, ug_r, uc2, ug1]
  have n33 : c2.1 33 t = 0 := by
    rw [hfm.1 33 (by decide) (by decide) (by decide)]
    simp only [q01, q02, q03, q04, q05, q06, q07, q08, q10, q12, q13, q14, q15, q16, q17, q18, q20, q21, q23, q24, q25, q26, q27, q28, q30, q31, q32, q34, q35, q36, q37, q38, q40, q41, q42, q43, q45, q46, q47, q48, q50, q51, q52, q53, q54, q56, q57, q58, q60, q61, q62, q63, q64, q65, q67, q68, q70, q71, q72, q73, q74, q75, q76, q78, q80, q81, q82, q83, q84, q85, q86, q87, w02, w12, w22, w03, w13, w23, w33, qm1, Int32.reduceLT, Int32.reduceLE, Int32.reduceAdd, Int32.reduceSub, Nat.reduceEqDiff, Nat.add_left_cancel_iff, false_and, true_and, and_false, and_true, and_self, if_true, if_false, uc_r, ug_r, uc2, ug1]
    exact z33
  have n13 : m2.1 13 (4 * t + 2) = nI dd := by
    rw [fr2.1 13 rfl]
    exact zdd
  have nc13 : c2.1 13 (4 * t + 2) = nI dd := (h2.sh 13 rfl _).trans n13
  have hpp : nI p + 1 - 1 = nI p := Int32.add_sub_cancel _ _
  rcases hcase with ⟨rfl, rfl⟩ | ⟨rfl, j, hj, rfl, -, h9, h10, -⟩
  · obtain ⟨⟨na, hna, k5, -⟩, -⟩ := h2.2.2.2
    have c5 : c2.1 5 0 = nI na := (h2.sh 5 rfl 0).trans k5
    obtain ⟨c', m', k1, k2, k3, k4, k6, k7⟩ := L_fail (n := na) (q := 0) (x := 1) (v := 8) (w := nI t) h2 ht (p + 1) n21 (by decide) n17 k5 hna
    rw [uc_self c5] at k1
    refine ⟨c', m', fun X d q hd hq => ?_, fun Y f x hf => ⟨m', 1, nI t, by omega, ?_, fun g => ?_⟩, k3, fr2.trans k4 (Nat.le_refl _) (by omega), by rw [k6]; exact n21⟩
    · obtain ⟨d', rfl⟩ : ∃ d', d = d' + 1 := ⟨d - 1, by omega⟩
      have hq4 : nI q < 40 := nI_lt (b := 40) (by omega) (by decide)
      simp (disch := omega) only [↓reduceIte, f_X0_runOnce, Option.bind_some, xt5, c21, if_true, hq4, yt5, xt1, zh, e1, m_bS, xt0, zt, k1]
    · obtain ⟨F, rfl⟩ : ∃ F, f = F + 1 := ⟨f - 1, by omega⟩
      have hF : ∀ q3 q2 s, f_X3_runChain_L7 F 0 q3 q2 (g_ar e 6) x s = f_X3_runChain_L99 64 (q2 - 1) 0 q3 q2 (g_ar e 6) x s := fun _ _ _ => L7_done (by omega)
      simp (disch := omega) only [↓reduceIte, f_X3_runChain_L7, q10, if_false, Option.bind_some, xm21, yi21, xm19, yi19, xm12, xi12, q01, q02, q03, q04, q05, q06, q07, q08, q10, q12, q13, q14, q15, q16, q17, q18, q20, q21, q23, q24, q25, q26, q27, q28, q30, q31, q32, q34, q35, q36, q37, q38, q40, q41, q42, q43, q45, q46, q47, q48, q50, q51, q52, q53, q54, q56, q57, q58, q60, q61, q62, q63, q64, q65, q67, q68, q70, q71, q72, q73, q74, q75, q76, q78, q80, q81, q82, q83, q84, q85, q86, q87, w02, w12, w22, w03, w13, w23, w33, qm1, Int32.reduceLT, Int32.reduceLE, Int32.reduceAdd, Int32.reduceSub, Nat.reduceEqDiff, Nat.add_left_cancel_iff, false_and, true_and, and_false, and_true, and_self, if_true, if_false, uc_r, ug_r, uc2, ug1, z12, zm, e2, m_bS, k2, nI_1, hF]
    · have h19 : m'.1 19 p = nI t := (k4.2.2.2 p (by omega)).trans n19
      rw [← nI_1, hpp]
      exact L99_skip ht (by omega) h19 (by rw [k7]; decide)
  · have hjn : ¬ nI j = -1 := nI_neg1 (by omega)
    cases dd with
    | zero =>
      obtain ⟨c', m', k0, -, -, k1, k3, k4, k6⟩ := L_fin (p + 1) ht h2 n21 n14 n17 n33 h9 hj h10 n13 hdd
      have hneg : nI 0 - 1 < 0 := by decide
      refine ⟨c', m', fun X d q hd hq => ?_, fun Y f x hf => ⟨m2, 1, nI 0 - 1, by omega, ?_, fun g => ?_⟩, k3, fr2.trans k4 (Nat.le_refl _) (by omega), by rw [k6]; exact n21⟩
      · obtain ⟨d', rfl⟩ : ∃ d', d = d' + 1 := ⟨d - 1, by omega⟩
        have hq4 : nI q < 40 := nI_lt (b := 40) (by omega) (by decide)
        simp (disch := omega) only [↓reduceIte, f_X0_runOnce, Option.bind_some, xt5, c21, if_true, hq4, yt5, xt1, zh, e1, m_bS, q10, if_false, xt2, xa2, nc13, f_targetNo (e := e) (c := c2) (Or.inl hneg) h2.cnt, m_nnN, k0 rfl]
      · obtain ⟨F, rfl⟩ : ∃ F, f = F + 1 := ⟨f - 1, by omega⟩
        have hF : ∀ q3 q2 s, f_X3_runChain_L7 F 0 q3 q2 (g_ar e 6) x s = f_X3_runChain_L99 64 (q2 - 1) 0 q3 q2 (g_ar e 6) x s := fun _ _ _ => L7_done (by omega)
        simp (disch := omega) only [↓reduceIte, f_X3_runChain_L7, q10, if_false, Option.bind_some, xm21, yi21, xm19, yi19, xm12, xi12, q01, q02, q03, q04, q05, q06, q07, q08, q10, q12, q13, q14, q15, q16, q17, q18, q20, q21, q23, q24, q25, q26, q27, q28, q30, q31, q32, q34, q35, q36, q37, q38, q40, q41, q42, q43, q45, q46, q47, q48, q50, q51, q52, q53, q54, q56, q57, q58, q60, q61, q62, q63, q64, q65, q67, q68, q70, q71, q72, q73, q74, q75, q76, q78, q80, q81, q82, q83, q84, q85, q86, q87, w02, w12, w22, w03, w13, w23, w33, qm1, Int32.reduceLT, Int32.reduceLE, Int32.reduceAdd, Int32.reduceSub, Nat.reduceEqDiff, Nat.add_left_cancel_iff, false_and, true_and, and_false, and_true, and_self, if_true, if_false, uc_r, ug_r, uc2, ug1, z12, zm, e2, m_bS, hjn, xm13, i4_2, xi13, n13, hneg, nI_1, hF]
      · rw [← nI_1, hpp]
        exact L99_step ht (by omega) n19 n14 k1
    | succ n =>
      have hnt : n < g_nt e := by omega
      have hpr : nI (n + 1) - 1 = nI n := nI_pred n
      have hnn : ¬ nI n < 0 := nI_pos (by omega)
      -- the need
      have sub : ∃ c3 m3, (∀ X d q, n < d → q + n < 40 → f_X0_runOnce d (g_h e) (some (g_ta e n)) (nI q) (WW e c2 X) = some ((), WW e c3 X)) ∧
          (∀ Y f x, n + 2 ≤ f → ∃ m1 k q3, k ≤ n + 1 ∧ f_X3_runChain_L7 f (if m2.1 21 n = 0 then 1 else 0) (nI n) (nI (p + 1)) (g_ar e 6) x (WW e Y m2) = f_X3_runChain_L99 64 (nI (p + 1 + k) - 1) 0 q3 (nI (p + 1 + k)) (g_ar e 6) x (WW e Y m1) ∧
            ∀ g, f_X3_runChain_L99 (g + k) (nI (p + 1 + k) - 1) 0 q3 (nI (p + 1 + k)) (g_ar e 6) x (WW e Y m1) = f_X3_runChain_L99 g (nI (p + 1) + (-1)) 0 q3 (nI (p + 1 + k)) (g_ar e 6) x (WW e Y m3)) ∧
          Rel e c3 m3 ∧ FrT n (p + 1) c2 m2 c3 m3 := by
        by_cases hn21 : m2.1 21 n = 0
        · obtain ⟨c3, m3, s1, s2, s3, s4, -⟩ := ih n (by omega) c2 m2 (p + 1) h2 hnt hn21 (by omega)
          refine ⟨c3, m3, s1, ?_, s3, s4⟩
          rw [if_pos hn21]
          exact s2
        · have cn21 : ¬ c2.1 21 n = 0 := by
            rw [h2.sh 21 rfl n]
            exact hn21
          refine ⟨c2, m2, fun X d q hd hq => once_done hnt cn21 (by omega), fun Y f x hf => ⟨m2, 0, nI n, by omega, ?_, fun g => ?_⟩, h2, FrT.refl _ _ _ _⟩
          · obtain ⟨f', rfl⟩ : ∃ f', f = f' + 1 := ⟨f - 1, by omega⟩
            rw [if_neg hn21]
            simp only [f_X3_runChain_L7, if_true]
          · have hq : nI (p + 1 + 0) - 1 = nI (p + 1) + (-1) := by
              rw [pk_m1]
              exact nI_pred p
            rw [hq]
            rfl
      obtain ⟨c3, m3, s1, s2, s3, s4⟩ := sub
      obtain ⟨u14, u17, u21, u33⟩ := s4.2.2.1 t (by omega)
      have w9 : m3.1 9 (g_cr e (g_rl e t)) = nI j := (s4.2.1 _ (by rw [h9]; exact hjn)).trans h9
      have w10 : m3.1 10 (g_cr e (g_rl e t)) = 0 := by
        rw [s4.1 10 rfl]
        exact h10
      have w13 : m3.1 13 (4 * t + 2) = nI (n + 1) := by
        rw [s4.1 13 rfl]
        exact n13
      have w19 : m3.1 19 p = nI t := (s4.2.2.2 p (by omega)).trans n19
      obtain ⟨c', m', -, k0, k0', k1, k3, k4, k6⟩ := L_fin (p + 1) ht s3 (by rw [u21]; exact n21) (u14.trans n14) (u17.trans n17) (u33.trans n33) w9 hj w10 w13 hdd
      refine ⟨c', m', fun X d q hd hq => ?_, fun Y f x hf => ?_, k3, (fr2.trans s4 (by omega) (by omega)).trans k4 (Nat.le_refl _) (by omega), by rw [k6, u21]; exact n21⟩
      · obtain ⟨d', rfl⟩ : ∃ d', d = d' + 1 := ⟨d - 1, by omega⟩
        have hq4 : nI q < 40 := nI_lt (b := 40) (by omega) (by decide)
        have s1' := s1 X d' (q + 1) (by omega) (by omega)
        simp (disch := omega) only [↓reduceIte, f_X0_runOnce, Option.bind_some, xt5, c21, if_true, hq4, yt5, xt1, zh, e1, m_bS, q10, if_false, xt2, xa2, nc13, hpr, f_targetAt (e := e) (c := c2) hnt h2.cnt, m_nnS, nI_1, s1', xt9]
        by_cases hf : c3.1 14 n = 0
        · simp only [hf, if_true, k0 n rfl hf, m_bS]
        · simp (disch := omega) only [hf, if_false, xt11, zt, Option.bind_some, k0' n rfl hf, m_bS]
      · obtain ⟨f', rfl⟩ : ∃ f', f = f' + 1 := ⟨f - 1, by omega⟩
        obtain ⟨m1, k, q3, v1, v2, v3⟩ := s2 Y f' x (by omega)
        refine ⟨m1, k + 1, q3, by omega, ?_, fun g => ?_⟩
        · rw [show p + (k + 1) = p + 1 + k by omega, ← v2]
          by_cases hn21 : m2.1 21 n = 0
          · simp (disch := omega) only [↓reduceIte, f_X3_runChain_L7, q10, if_false, Option.bind_some, xm21, yi21, xm19, yi19, xm12, xi12, q01, q02, q03, q04, q05, q06, q07, q08, q10, q12, q13, q14, q15, q16, q17, q18, q20, q21, q23, q24, q25, q26, q27, q28, q30, q31, q32, q34, q35, q36, q37, q38, q40, q41, q42, q43, q45, q46, q47, q48, q50, q51, q52, q53, q54, q56, q57, q58, q60, q61, q62, q63, q64, q65, q67, q68, q70, q71, q72, q73, q74, q75, q76, q78, q80, q81, q82, q83, q84, q85, q86, q87, w02, w12, w22, w03, w13, w23, w33, qm1, Int32.reduceLT, Int32.reduceLE, Int32.reduceAdd, Int32.reduceSub, Nat.reduceEqDiff, Nat.add_left_cancel_iff, false_and, true_and, and_false, and_true, and_self, if_true, if_false, uc_r, ug_r, uc2, ug1, z12, zm, e2, m_bS, hjn, xm13, i4_2, xi13, n13, hpr, hnn, xi21, hn21, nI_1]
          · simp (disch := omega) only [↓reduceIte, f_X3_runChain_L7, q10, if_false, Option.bind_some, xm21, yi21, xm19, yi19, xm12, xi12, q01, q02, q03, q04, q05, q06, q07, q08, q10, q12, q13, q14, q15, q16, q17, q18, q20, q21, q23, q24, q25, q26, q27, q28, q30, q31, q32, q34, q35, q36, q37, q38, q40, q41, q42, q43, q45, q46, q47, q48, q50, q51, q52, q53, q54, q56, q57, q58, q60, q61, q62, q63, q64, q65, q67, q68, q70, q71, q72, q73, q74, q75, q76, q78, q80, q81, q82, q83, q84, q85, q86, q87, w02, w12, w22, w03, w13, w23, w33, qm1, Int32.reduceLT, Int32.reduceLE, Int32.reduceAdd, Int32.reduceSub, Nat.reduceEqDiff, Nat.add_left_cancel_iff, false_and, true_and, and_false, and_true, and_self, if_true, if_false, uc_r, ug_r, uc2, ug1, z12, zm, e2, m_bS, hjn, xm13, i4_2, xi13, n13, hpr, hnn, xi21, hn21, nI_1]
        · rw [show p + (k + 1) = p + 1 + k by omega, show g + (k + 1) = (g + 1) + k by omega, v3 (g + 1), pk_m1]
          exact L99_step ht (by omega) w19 (u14.trans n14) k1
theorem L_run (h : Rel e c m) (p : Int32) : LK e c m (f_X0_run (g_h e) p) (f_X3_run (g_ar e 6) p) := by
  have h40 := g_nt40 e
  have h0 : Rel e c (uc m 0 0 0) := h.mx (Or.inl rfl)
  rcases p_ix p (g_nt e) (by omega) with hp | ⟨t, ht, rfl⟩
  · exact ⟨c, uc m 0 0 0, -1, by simp only [f_X0_run, zh, Option.bind_some, f_targetNo hp h.cnt, m_bS, m_nnN], by simp only [f_X3_run, ym0, zm, Option.bind_some, f_isTargetNo hp h0.nt, m_bS, if_true], h0⟩
  · -- both sides' state after the run
    have aft : ∃ c' m', (∀ X, f_X0_runOnce 41 (g_h e) (some (g_ta e t)) 0 (WW e c X) = some ((), WW e c' X)) ∧ Rel e c' m' ∧ ((m.1 21 t = 0 ∧ ∀ Y, f_X3_runChain (g_ar e 6) (nI t) (WW e Y (uc m 0 0 0)) = some ((), WW e Y m')) ∨ (¬ m.1 21 t = 0 ∧ m' = uc m 0 0 0)) := by
      by_cases h21 : m.1 21 t = 0
      · obtain ⟨c', m', k1, k2, k3, -⟩ := L_chain t c (uc m 0 0 0) 0 h0 ht (by simp only [q01, q02, q03, q04, q05, q06, q07, q08, q10, q12, q13, q14, q15, q16, q17, q18, q20, q21, q23, q24, q25, q26, q27, q28, q30, q31, q32, q34, q35, q36, q37, q38, q40, q41, q42, q43, q45, q46, q47, q48, q50, q51, q52, q53, q54, q56, q57, q58, q60, q61, q62, q63, q64, q65, q67, q68, q70, q71, q72, q73, q74, q75, q76, q78, q80, q81, q82, q83, q84, q85, q86, q87, w02, w12, w22, w03, w13, w23, w33, qm1, Int32.reduceLT, Int32.reduceLE, Int32.reduceAdd, Int32.reduceSub, Nat.reduceEqDiff, Nat.add_left_cancel_iff, false_and, true_and, and_false, and_true, and_self, if_true, if_false, uc_r, ug_r, uc2, ug1]; exact h21) (by omega)
        refine ⟨c', m', fun X => k1 X 41 0 (by omega) (by omega), k3, Or.inl ⟨h21, fun Y => ?_⟩⟩
        obtain ⟨m1, k, q3, v1, v2, v3⟩ := k2 Y 64 (nI t) (by omega)
        unfold f_X3_runChain
        rw [nI_0] at v2
        rw [v2]
        have hg : 64 = (63 - k + 1) + k := by omega
        rw [hg, v3]
        have hneg : nI 0 + (-1) < 0 := by decide
        simp only [f_X3_runChain_L99, hneg, if_true]
      · have c21 : ¬ c.1 21 t = 0 := by
          rw [h.sh 21 rfl t]
          exact h21
        exact ⟨c, uc m 0 0 0, fun X => once_done ht c21 (by decide), h0, Or.inr ⟨h21, rfl⟩⟩
    obtain ⟨c', m', k1, k2, k3⟩ := aft
    have c14 : c'.1 14 t = m'.1 14 t := k2.sh 14 rfl t
    have c17 : c'.1 17 t = m'.1 17 t := k2.sh 17 rfl t
    obtain ⟨s, -, -, -, -, -, -, hz, hnz, -⟩ := k2.tq ht
    have hle : (0 : Int32) ≤ 0 := by decide
    by_cases hf : m'.1 14 t = 0
    · refine ⟨c', m', m'.1 17 t, ?_, ?_, k2⟩
      · simp (disch := omega) only [f_X0_run, zh, Option.bind_some, f_targetAt ht h.cnt, m_bS, m_nnS, k1, xt9, c14, hf, if_true, xt8, c17]
      · rcases k3 with ⟨h21, k4⟩ | ⟨h21, rfl⟩
        · simp (disch := omega) only [f_X3_run, ym0, zm, Option.bind_some, f_isTarget ht h0.nt, m_bS, q01, q02, q03, q04, q05, q06, q07, q08, q10, q12, q13, q14, q15, q16, q17, q18, q20, q21, q23, q24, q25, q26, q27, q28, q30, q31, q32, q34, q35, q36, q37, q38, q40, q41, q42, q43, q45, q46, q47, q48, q50, q51, q52, q53, q54, q56, q57, q58, q60, q61, q62, q63, q64, q65, q67, q68, q70, q71, q72, q73, q74, q75, q76, q78, q80, q81, q82, q83, q84, q85, q86, q87, w02, w12, w22, w03, w13, w23, w33, qm1, Int32.reduceLT, Int32.reduceLE, Int32.reduceAdd, Int32.reduceSub, Nat.reduceEqDiff, Nat.add_left_cancel_iff, false_and, true_and, and_false, and_true, and_self, if_true, if_false, uc_r, ug_r, uc2, ug1, xm21, xi21, h21, k4, xm14, xi14, hf, xm17, xi17]
        · simp only [q01, q02, q03, q04, q05, q06, q07, q08, q10, q12, q13, q14, q15, q16, q17, q18, q20, q21, q23, q24, q25, q26, q27, q28, q30, q31, q32, q34, q35, q36, q37, q38, q40, q41, q42, q43, q45, q46, q47, q48, q50, q51, q52, q53, q54, q56, q57, q58, q60, q61, q62, q63, q64, q65, q67, q68, q70, q71, q72, q73, q74, q75, q76, q78, q80, q81, q82, q83, q84, q85, q86, q87, w02, w12, w22, w03, w13, w23, w33, qm1, Int32.reduceLT, Int32.reduceLE, Int32.reduceAdd, Int32.reduceSub, Nat.reduceEqDiff, Nat.add_left_cancel_iff, false_and, true_and, and_false, and_true, and_self, if_true, if_false, uc_r, ug_r, uc2, ug1] at hf
          simp (disch := omega) only [f_X3_run, ym0, zm, Option.bind_some, f_isTarget ht h0.nt, m_bS, q01, q02, q03, q04, q05, q06, q07, q08, q10, q12, q13, q14, q15, q16, q17, q18, q20, q21, q23, q24, q25, q26, q27, q28, q30, q31, q32, q34, q35, q36, q37, q38, q40, q41, q42, q43, q45, q46, q47, q48, q50, q51, q52, q53, q54, q56, q57, q58, q60, q61, q62, q63, q64, q65, q67, q68, q70, q71, q72, q73, q74, q75, q76, q78, q80, q81, q82, q83, q84, q85, q86, q87, w02, w12, w22, w03, w13, w23, w33, qm1, Int32.reduceLT, Int32.reduceLE, Int32.reduceAdd, Int32.reduceSub, Nat.reduceEqDiff, Nat.add_left_cancel_iff, false_and, true_and, and_false, and_true, and_self, if_true, if_false, uc_r, ug_r, uc2, ug1, xm21, xi21, h21, xm14, xi14, hf, xm17, xi17]
    · have hnl := (hnz hf).2
      refine ⟨c', m', (-10) - m'.1 14 t, ?_, ?_, k2⟩
      · simp (disch := omega) only [f_X0_run, zh, Option.bind_some, f_targetAt ht h.cnt, m_bS, m_nnS, k1, xt9, c14, hf, if_false]
      · rcases k3 with ⟨h21, k4⟩ | ⟨h21, rfl⟩
        · simp (disch := omega) only [f_X3_run, ym0, zm, Option.bind_some, f_isTarget ht h0.nt, m_bS, q01, q02, q03, q04, q05, q06, q07, q08, q10, q12, q13, q14, q15, q16, q17, q18, q20, q21, q23, q24, q25, q26, q27, q28, q30, q31, q32, q34, q35, q36, q37, q38, q40, q41, q42, q43, q45, q46, q47, q48, q50, q51, q52, q53, q54, q56, q57, q58, q60, q61, q62, q63, q64, q65, q67, q68, q70, q71, q72, q73, q74, q75, q76, q78, q80, q81, q82, q83, q84, q85, q86, q87, w02, w12, w22, w03, w13, w23, w33, qm1, Int32.reduceLT, Int32.reduceLE, Int32.reduceAdd, Int32.reduceSub, Nat.reduceEqDiff, Nat.add_left_cancel_iff, false_and, true_and, and_false, and_true, and_self, if_true, if_false, uc_r, ug_r, uc2, ug1, xm21, xi21, h21, k4, xm14, xi14, hnl]
        · simp only [q01, q02, q03, q04, q05, q06, q07, q08, q10, q12, q13, q14, q15, q16, q17, q18, q20, q21, q23, q24, q25, q26, q27, q28, q30, q31, q32, q34, q35, q36, q37, q38, q40, q41, q42, q43, q45, q46, q47, q48, q50, q51, q52, q53, q54, q56, q57, q58, q60, q61, q62, q63, q64, q65, q67, q68, q70, q71, q72, q73, q74, q75, q76, q78, q80, q81, q82, q83, q84, q85, q86, q87, w02, w12, w22, w03, w13, w23, w33, qm1, Int32.reduceLT, Int32.reduceLE, Int32.reduceAdd, Int32.reduceSub, Nat.reduceEqDiff, Nat.add_left_cancel_iff, false_and, true_and, and_false, and_true, and_self, if_true, if_false, uc_r, ug_r, uc2, ug1] at hnl
          simp (disch := omega) only [f_X3_run, ym0, zm, Option.bind_some, f_isTarget ht h0.nt, m_bS, q01, q02, q03, q04, q05, q06, q07, q08, q10, q12, q13, q14, q15, q16, q17, q18, q20, q21, q23, q24, q25, q26, q27, q28, q30, q31, q32, q34, q35, q36, q37, q38, q40, q41, q42, q43, q45, q46, q47, q48, q50, q51, q52, q53, q54, q56, q57, q58, q60, q61, q62, q63, q64, q65, q67, q68, q70, q71, q72, q73, q74, q75, q76, q78, q80, q81, q82, q83, q84, q85, q86, q87, w02, w12, w22, w03, w13, w23, w33, qm1, Int32.reduceLT, Int32.reduceLE, Int32.reduceAdd, Int32.reduceSub, Nat.reduceEqDiff, Nat.add_left_cancel_iff, false_and, true_and, and_false, and_true, and_self, if_true, if_false, uc_r, ug_r, uc2, ug1, xm21, xi21, h21, xm14, xi14, hnl]
end RUN
