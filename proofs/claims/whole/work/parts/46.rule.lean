/-! ===== rule ===== -/
def LKx {α : Type} (e : GE) (c m : CS) (f g : MS → Option (α × MS)) : Prop := ∃ e' c' m' a, g_h e' = g_h e ∧ f (WW e c m) = some (a, WW e' c' m) ∧ g (WW e' c' m) = some (a, WW e' c' m') ∧ Rel e' c' m'
theorem LK.x {α : Type} {e : GE} {c m : CS} {f g : MS → Option (α × MS)} (h : LK e c m f g) : LKx e c m f g := by
  obtain ⟨c', m', a, h1, h2, h3⟩ := h
  exact ⟨e, c', m', a, rfl, h1, h2, h3⟩
theorem RR_rule {e e' : GE} {c c' m m' : CS} {p1 p3 : Int32} {d : Nat} (h : RRx e c m) (hd : d < 256) (h2 : g_nr e' = g_nr e + 1) (h1 : ∀ r, r < g_nr e → g_cr e' r = g_cr e r) (hp3 : p3 = 0 ∨ p3 = 1)
    (kc : ∀ i, i < g_nr e → c'.1 7 i = c.1 7 i ∧ c'.1 8 i = c.1 8 i ∧ c'.1 10 i = c.1 10 i ∧ c'.1 30 i = c.1 30 i ∧ c'.1 31 i = c.1 31 i ∧ c'.2 0 i = c.2 0 i)
    (km : ∀ i, i < g_nr e → m'.1 7 i = m.1 7 i ∧ m'.1 8 i = m.1 8 i ∧ m'.1 9 i = m.1 9 i ∧ m'.1 10 i = m.1 10 i)
    (k2 : m'.1 2 0 = nI (g_nr e + 1)) (k3 : m'.1 3 0 = m.1 3 0) (kg : m'.2 0 = m.2 0)
    (kn : m'.1 7 (g_nr e) = p1 ∧ m'.1 8 (g_nr e) = nI d ∧ m'.1 9 (g_nr e) = -1 ∧ m'.1 10 (g_nr e) = p3)
    (hcn : (∃ r0, r0 < g_nr e ∧ g_cr e' (g_nr e) = g_cr e r0 ∧ m.1 7 r0 = p1 ∧ m.1 8 r0 = nI d) ∨ (g_cr e' (g_nr e) = g_nr e ∧ (∀ i, i < g_nr e → ¬ (m.1 7 i = p1 ∧ m.1 8 i = nI d)) ∧ c'.1 7 (g_nr e) = p1 ∧ c'.1 8 (g_nr e) = nI d ∧ c'.1 10 (g_nr e) = p3 ∧ c'.1 30 (g_nr e) = 0 ∧ c'.2 0 (g_nr e) = 0)) : RRx e' c' m' := by
  obtain ⟨a1, a2, a3, a4, a5, a6, a7, a8, a9⟩ := h
  have hcnt : cnt (m'.1 9) (g_nr e') = cnt (m.1 9) (g_nr e) := by
    rw [h2]
    show cnt (m'.1 9) (g_nr e) + _ = _
    rw [if_pos kn.2.2.1, cnt_congr _ (fun i hi => (km i hi).2.2.1)]
    rfl
  have sp : ∀ r, r < g_nr e' → r = g_nr e ∨ r < g_nr e := by
    intro r hr
    omega
  -- one class of an older rule
  have o3 : ∀ r, r < g_nr e → c'.1 7 (g_cr e r) = m.1 7 r ∧ c'.1 8 (g_cr e r) = m.1 8 r := by
    intro r hr
    have := g_crr e hr
    obtain ⟨q1, q2, -⟩ := kc (g_cr e r) (by omega)
    rw [q1, q2]
    exact ⟨(a3 r hr).1, (a3 r hr).2.1⟩
  have o5 : ∀ r, r < g_nr e → c'.1 10 (g_cr e r) = m'.1 10 (g_cr e r) ∧ (m'.1 10 (g_cr e r) = 0 ∨ m'.1 10 (g_cr e r) = 1) := by
    intro r hr
    have := g_crr e hr
    rw [(kc (g_cr e r) (by omega)).2.2.1, (km (g_cr e r) (by omega)).2.2.2]
    exact a5 r hr
  have o6 : ∀ r, r < g_nr e → (c'.1 30 (g_cr e r) = 0 ∧ m'.1 9 (g_cr e r) = -1 ∧ c'.2 0 (g_cr e r) = 0) ∨ (c'.1 30 (g_cr e r) = 1 ∧ m'.1 10 (g_cr e r) = 0 ∧ ∃ j, j < 16 ∧ j < cnt (m'.1 9) (g_nr e') ∧ m'.1 9 (g_cr e r) = nI j ∧ c'.1 31 (g_cr e r) = nI j ∧ c'.2 0 (g_cr e r) = m'.2 0 j) := by
    intro r hr
    have := g_crr e hr
    obtain ⟨-, -, -, q1, q2, q3⟩ := kc (g_cr e r) (by omega)
    obtain ⟨-, -, q4, q5⟩ := km (g_cr e r) (by omega)
    rw [q1, q2, q3, q4, q5, hcnt, kg]
    exact a6 r hr
  refine ⟨?_, ?_, ?_, ?_, ?_, ?_, ?_, ?_, ?_⟩
  · rw [h2]
    exact k2
  · intro r hr
    rcases sp r hr with rfl | hr
    · rcases hcn with ⟨r0, b1, b2, -⟩ | ⟨b1, -⟩
      · have := g_crr e b1
        rw [b2, h1 _ (by omega)]
        exact a2 r0 b1
      · rw [b1, b1]
    · have := g_crr e hr
      rw [h1 r hr, h1 _ (by omega)]
      exact a2 r hr
  · intro r hr
    rcases sp r hr with rfl | hr
    · rw [kn.1, kn.2.1]
      rcases hcn with ⟨r0, b1, b2, b3, b4⟩ | ⟨b1, -, b3, b4, -⟩
      · rw [b2]
        exact ⟨(o3 r0 b1).1.trans b3, (o3 r0 b1).2.trans b4, d, hd, rfl⟩
      · rw [b1]
        exact ⟨b3, b4, d, hd, rfl⟩
    · rw [h1 r hr, (km r hr).1, (km r hr).2.1]
      exact ⟨(o3 r hr).1, (o3 r hr).2, (a3 r hr).2.2⟩
  · have one : ∀ s, s < g_nr e → p1 = m.1 7 s → nI d = m.1 8 s → g_cr e' (g_nr e) = g_cr e s := by
      intro s hs q1 q2
      rcases hcn with ⟨r0, b1, b2, b3, b4⟩ | ⟨b1, b2, -⟩
      · rw [b2]
        exact a4 r0 s b1 hs (b3.trans q1) (b4.trans q2)
      · exact absurd ⟨q1.symm, q2.symm⟩ (b2 s hs)
    intro r s hr hs q1 q2
    rcases sp r hr with rfl | hr
    · rcases sp s hs with rfl | hs
      · rfl
      · rw [kn.1, (km s hs).1] at q1
        rw [kn.2.1, (km s hs).2.1] at q2
        rw [h1 s hs]
        exact one s hs q1 q2
    · rcases sp s hs with rfl | hs
      · rw [kn.1, (km r hr).1] at q1
        rw [kn.2.1, (km r hr).2.1] at q2
        rw [h1 r hr]
        exact (one r hr q1.symm q2.symm).symm
      · rw [(km r hr).1, (km s hs).1] at q1
        rw [(km r hr).2.1, (km s hs).2.1] at q2
        rw [h1 r hr, h1 s hs]
        exact a4 r s hr hs q1 q2
  · intro r hr
    rcases sp r hr with rfl | hr
    · rcases hcn with ⟨r0, b1, b2, -⟩ | ⟨b1, -, -, -, b5, -⟩
      · rw [b2]
        exact o5 r0 b1
      · rw [b1, b5, kn.2.2.2]
        exact ⟨rfl, hp3⟩
    · rw [h1 r hr]
      exact o5 r hr
  · intro r hr
    rcases sp r hr with rfl | hr
    · rcases hcn with ⟨r0, b1, b2, -⟩ | ⟨b1, -, -, -, -, b6, b7⟩
      · rw [b2]
        exact o6 r0 b1
      · rw [b1]
        exact Or.inl ⟨b6, kn.2.2.1, b7⟩
    · rw [h1 r hr]
      exact o6 r hr
  · intro r s hr hs q1 q2
    rcases sp r hr with rfl | hr
    · exact absurd kn.2.2.1 q2
    · rcases sp s hs with rfl | hs
      · exact absurd (q1.trans kn.2.2.1) q2
      · rw [(km r hr).2.2.1, (km s hs).2.2.1] at q1
        rw [(km r hr).2.2.1] at q2
        exact a7 r s hr hs q1 q2
  · intro r hr q1
    rcases sp r hr with rfl | hr
    · exact kn.2.2.1
    · rw [h1 r hr] at q1
      rw [(km r hr).2.2.1]
      exact a8 r hr q1
  · rw [hcnt, k3]
    exact a9
section RULE
variable {e : GE} {c m : CS}
theorem f_find (hc : c.1 2 0 = nI (g_nr e)) (h3 : ∀ r, r < g_nr e → c.1 7 (g_cr e r) = m.1 7 r ∧ c.1 8 (g_cr e r) = m.1 8 r) (p1 p2 : Int32) (X : CS) : ∃ res, f_X0_findClass (g_h e) p1 p2 (WW e c X) = some (res, WW e c X) ∧ ((res = none ∧ ∀ i, i < g_nr e → ¬ (m.1 7 i = p1 ∧ m.1 8 i = p2)) ∨ ∃ r, r < g_nr e ∧ res = some (g_ca e r) ∧ m.1 7 r = p1 ∧ m.1 8 r = p2) := by
  have h16 := g_nr16 e
  have key : ∀ d q f, q + d = g_nr e → d < f → (∀ i, i < q → ¬ (m.1 7 i = p1 ∧ m.1 8 i = p2)) → ∃ res, f_X0_findClass_L2 f (nI q) (g_h e) p1 p2 (WW e c X) = some (res, WW e c X) ∧ ((res = none ∧ ∀ i, i < g_nr e → ¬ (m.1 7 i = p1 ∧ m.1 8 i = p2)) ∨ ∃ r, r < g_nr e ∧ res = some (g_ca e r) ∧ m.1 7 r = p1 ∧ m.1 8 r = p2) := by
    intro d
    induction d with
    | zero =>
      intro q f hq hf hi
      cases f with
      | zero => omega
      | succ f =>
        have hq' : q = g_nr e := by omega
        subst hq'
        refine ⟨none, ?_, Or.inl ⟨rfl, hi⟩⟩
        simp only [f_X0_findClass_L2, xh2, Option.bind_some, hc, if_pos (nI_le (Nat.le_refl (g_nr e)) (show g_nr e < 2 ^ 31 by omega))]
    | succ d ih =>
      intro q f hq hf hi
      cases f with
      | zero => omega
      | succ f =>
        have hq' : q < g_nr e := by omega
        have ih' := ih (q + 1) f (by omega) (by omega)
        by_cases hm : m.1 7 q = p1 ∧ m.1 8 q = p2
        · refine ⟨some (g_ca e q), ?_, Or.inr ⟨q, hq', rfl, hm.1, hm.2⟩⟩
          simp (disch := omega) only [f_X0_findClass_L2, f_X1_isOf, xh2, Option.bind_some, hc, if_neg (nI_ge hq' (show g_nr e < 2 ^ 31 by omega)), zh, f_classAt hq' hc, m_bS, m_nnS, zc, xc0, xc1, (h3 q hq').1, (h3 q hq').2, hm.1, hm.2, if_true, q10, if_false]
        · obtain ⟨res, k1, k2⟩ := ih' (by
            intro i hii
            by_cases hiq : i = q
            · subst hiq
              exact hm
            · exact hi i (by omega))
          refine ⟨res, ?_, k2⟩
          by_cases h7 : m.1 7 q = p1
          · have h8 : ¬ m.1 8 q = p2 := fun h8 => hm ⟨h7, h8⟩
            simp (disch := omega) only [f_X0_findClass_L2, f_X1_isOf, xh2, Option.bind_some, hc, if_neg (nI_ge hq' (show g_nr e < 2 ^ 31 by omega)), zh, f_classAt hq' hc, m_bS, m_nnS, zc, xc0, xc1, (h3 q hq').1, (h3 q hq').2, h7, h8, if_true, if_false, nI_1, k1]
          · simp (disch := omega) only [f_X0_findClass_L2, f_X1_isOf, xh2, Option.bind_some, hc, if_neg (nI_ge hq' (show g_nr e < 2 ^ 31 by omega)), zh, f_classAt hq' hc, m_bS, m_nnS, zc, xc0, xc1, (h3 q hq').1, (h3 q hq').2, h7, if_true, if_false, nI_1, k1]
  exact key (g_nr e) 0 64 (by omega) (by omega) (fun i hi => by omega)
/-- the reference's picture with a rule more -/
def m_rule (e : GE) (m : CS) (p1 p2 p3 : Int32) : CS := uc (uc (uc (uc (uc (uc m 0 0 0) 7 (g_nr e) p1) 8 (g_nr e) p2) 10 (g_nr e) p3) 9 (g_nr e) (-1)) 2 0 (nI (g_nr e) + 1)
theorem f_rule3 {e' : GE} {a d : Nat} {p3 : Int32} (hm : m.1 2 0 = nI (g_nr e)) (ha : a ≤ 3) (hd : d < 256) (h15 : g_nr e < 16) (hz : m_z p3 = some p3) : f_X3_rule (g_ar e' 6) (nI a) (nI d) p3 (WW e' c m) = some (nI (g_nr e), WW e' c (m_rule e m (nI a) (nI d) p3)) := by
  have h16 : ¬ nI (g_nr e) = 16 := fun h => absurd ((nI_eq (show g_nr e < 2 ^ 31 by omega) (show 16 < 2 ^ 31 by decide)).mp h) (by omega)
  have hs : nI (g_nr e) + 1 - 1 = nI (g_nr e) := Int32.add_sub_cancel _ _
  simp (disch := omega) only [f_X3_rule, m_rule, ym0, Option.bind_some, if_neg (nI_pos (show a < 2 ^ 31 by omega)), if_neg (show ¬ 3 < nI a from nI_nlt (b := a) (a := 3) ha (by decide)), if_neg (nI_pos (show d < 2 ^ 31 by omega)), if_pos (show nI d ≤ 255 from nI_le (b := 255) (by omega) (by decide)), xm2, q01, q02, q03, q04, q05, q06, q07, q08, q10, q12, q13, q14, q15, q16, q17, q18, q20, q21, q23, q24, q25, q26, q27, q28, q30, q31, q32, q34, q35, q36, q37, q38, q40, q41, q42, q43, q45, q46, q47, q48, q50, q51, q52, q53, q54, q56, q57, q58, q60, q61, q62, q63, q64, q65, q67, q68, q70, q71, q72, q73, q74, q75, q76, q78, q80, q81, q82, q83, q84, q85, q86, q87, w02, w12, w22, w03, w13, w23, w33, qm1, Int32.reduceLT, Int32.reduceLE, Int32.reduceAdd, Int32.reduceSub, Nat.reduceEqDiff, Nat.add_left_cancel_iff, false_and, true_and, and_false, and_true, and_self, if_true, if_false, uc_r, ug_r, uc2, ug1, hm, if_neg h16, xm7, yi7, xm8, yi8, xm10, yi10, hz, xm9, yi9, ym2, hs]
theorem L_rule (h : Rel e c m) (p1 p2 p3 : Int32) (hp3 : p3 = 0 ∨ p3 = 1) : LKx e c m (f_X0_rule (g_h e) p1 p2 p3) (f_X3_rule (g_ar e 6) p1 p2 p3) := by
  have h16 := g_nr16 e
  have h0 : Rel e c (uc m 0 0 0) := h.mx (Or.inl rfl)
  have hz : m_z p3 = some p3 := by
    rcases hp3 with rfl | rfl
    · exact m_z0
    · exact m_z1
  rcases p_ix p1 4 (by decide) with hp | ⟨a, ha, rfl⟩
  · refine ⟨e, c, uc m 0 0 0, -2, rfl, ?_, ?_, h0⟩
    · simp only [f_X0_rule, iw_n (n := 3) (x := 3) hp (by decide) rfl, m_bS, if_true]
    · simp only [f_X3_rule, ym0, Option.bind_some]
      rcases hp with hp | hp
      · rw [if_pos hp]
      · have hq := i_gt (n := 3) hp (by decide)
        rw [if_neg hq.2.2, if_pos (show 3 < p1 from hq.1)]
  · rcases p_ix p2 256 (by decide) with hp | ⟨d, hd, rfl⟩
    · refine ⟨e, c, uc m 0 0 0, -2, rfl, ?_, ?_, h0⟩
      · simp only [f_X0_rule, iw_y (n := 3) (x := 3) (show a ≤ 3 by omega) (by decide) rfl, iw_n (n := 255) (x := 255) hp (by decide) rfl, m_bS, q10, if_false, if_true]
      · simp only [f_X3_rule, ym0, Option.bind_some, if_neg (nI_pos (show a < 2 ^ 31 by omega)), if_neg (show ¬ 3 < nI a from nI_nlt (b := a) (a := 3) (by omega) (by decide))]
        rcases hp with hp | hp
        · rw [if_pos hp]
        · have hq := i_gt (n := 255) hp (by decide)
          rw [if_neg hq.2.2, if_neg (show ¬ p2 ≤ 255 from hq.2.1)]
    · by_cases h15 : g_nr e < 16
      · have hlt : nI (g_nr e) < 16 := nI_lt (b := 16) h15 (by decide)
        have hs : nI (g_nr e) + 1 - 1 = nI (g_nr e) := Int32.add_sub_cancel _ _
        obtain ⟨res, k1, k2⟩ := f_find h.cnr (fun r hr => ⟨(h.2.1.2.2.1 r hr).1, (h.2.1.2.2.1 r hr).2.1⟩) (nI a) (nI d) m
        have mk : ∀ k i, i < g_nr e → k = 7 ∨ k = 8 ∨ k = 9 ∨ k = 10 → (m_rule e m (nI a) (nI d) p3).1 k i = m.1 k i := by
          intro k i hi hk
          have hne : ¬ i = g_nr e := by omega
          rcases hk with rfl | rfl | rfl | rfl <;> simp only [m_rule, q01, q02, q03, q04, q05, q06, q07, q08, q10, q12, q13, q14, q15, q16, q17, q18, q20, q21, q23, q24, q25, q26, q27, q28, q30, q31, q32, q34, q35, q36, q37, q38, q40, q41, q42, q43, q45, q46, q47, q48, q50, q51, q52, q53, q54, q56, q57, q58, q60, q61, q62, q63, q64, q65, q67, q68, q70, q71, q72, q73, q74, q75, q76, q78, q80, q81, q82, q83, q84, q85, q86, q87, w02, w12, w22, w03, w13, w23, w33, qm1, Int32.reduceLT, Int32.reduceLE, Int32.reduceAdd, Int32.reduceSub, Nat.reduceEqDiff, Nat.add_left_cancel_iff, false_and, true_and, and_false, and_true, and_self, if_true, if_false, uc_r, ug_r, uc2, ug1, hne]
        have mn : (m_rule e m (nI a) (nI d) p3).1 7 (g_nr e) = nI a ∧ (m_rule e m (nI a) (nI d) p3).1 8 (g_nr e) = nI d ∧ (m_rule e m (nI a) (nI d) p3).1 9 (g_nr e) = -1 ∧ (m_rule e m (nI a) (nI d) p3).1 10 (g_nr e) = p3 := by
          refine ⟨?_, ?_, ?_, ?_⟩ <;> simp only [m_rule, q01, q02, q03, q04, q05, q06, q07, q08, q10, q12, q13, q14, q15, q16, q17, q18, q20, q21, q23, q24, q25, q26, q27, q28, q30, q31, q32, q34, q35, q36, q37, q38, q40, q41, q42, q43, q45, q46, q47, q48, q50, q51, q52, q53, q54, q56, q57, q58, q60, q61, q62, q63, q64, q65, q67, q68, q70, q71, q72, q73, q74, q75, q76, q78, q80, q81, q82, q83, q84, q85, q86, q87, w02, w12, w22, w03, w13, w23, w33, qm1, Int32.reduceLT, Int32.reduceLE, Int32.reduceAdd, Int32.reduceSub, Nat.reduceEqDiff, Nat.add_left_cancel_iff, false_and, true_and, and_false, and_true, and_self, if_true, if_false, uc_r, ug_r, uc2, ug1]
        have m2 : (m_rule e m (nI a) (nI d) p3).1 2 0 = nI (g_nr e + 1) := by
          rw [← nI_1]
          simp only [m_rule, q01, q02, q03, q04, q05, q06, q07, q08, q10, q12, q13, q14, q15, q16, q17, q18, q20, q21, q23, q24, q25, q26, q27, q28, q30, q31, q32, q34, q35, q36, q37, q38, q40, q41, q42, q43, q45, q46, q47, q48, q50, q51, q52, q53, q54, q56, q57, q58, q60, q61, q62, q63, q64, q65, q67, q68, q70, q71, q72, q73, q74, q75, q76, q78, q80, q81, q82, q83, q84, q85, q86, q87, w02, w12, w22, w03, w13, w23, w33, qm1, Int32.reduceLT, Int32.reduceLE, Int32.reduceAdd, Int32.reduceSub, Nat.reduceEqDiff, Nat.add_left_cancel_iff, false_and, true_and, and_false, and_true, and_self, if_true, if_false, uc_r, ug_r, uc2, ug1]
        have m3 : (m_rule e m (nI a) (nI d) p3).1 3 0 = m.1 3 0 := by
          simp only [m_rule, q01, q02, q03, q04, q05, q06, q07, q08, q10, q12, q13, q14, q15, q16, q17, q18, q20, q21, q23, q24, q25, q26, q27, q28, q30, q31, q32, q34, q35, q36, q37, q38, q40, q41, q42, q43, q45, q46, q47, q48, q50, q51, q52, q53, q54, q56, q57, q58, q60, q61, q62, q63, q64, q65, q67, q68, q70, q71, q72, q73, q74, q75, q76, q78, q80, q81, q82, q83, q84, q85, q86, q87, w02, w12, w22, w03, w13, w23, w33, qm1, Int32.reduceLT, Int32.reduceLE, Int32.reduceAdd, Int32.reduceSub, Nat.reduceEqDiff, Nat.add_left_cancel_iff, false_and, true_and, and_false, and_true, and_self, if_true, if_false, uc_r, ug_r, uc2, ug1]
        have TM : TTx e c (m_rule e m (nI a) (nI d) p3) := ((((h0.2.2.1.m (by decide)).m (by decide)).m (by decide)).m (by decide)).m (by decide)
        have AM : AAx e (m_rule e m (nI a) (nI d) p3) := ((((h0.2.2.2.m (by decide)).m (by decide)).m (by decide)).m (by decide)).m (by decide)
        have SM : ∀ c : CS, Sh c m → Sh (uc c 2 0 (nI (g_nr e) + 1)) (m_rule e m (nI a) (nI d) p3) := fun c hc => (((((hc.m rfl).m rfl).m rfl).m rfl).m rfl).b
        rcases k2 with ⟨rfl, hno⟩ | ⟨r, hr, rfl, g7, g8⟩
        · obtain ⟨S1, w1, w2, w3⟩ := W_new (c := c) (m := m) h15 (nI a) (nI d) p3 hz
          refine ⟨g_new e h15, uc (c_new e c (nI a) (nI d) p3) 2 0 (nI (g_nr e) + 1), m_rule e m (nI a) (nI d) p3, nI (g_nr e), rfl, ?_, ?_, ⟨?_, ?_, ?_, ?_⟩⟩
          · have x2 : ∀ c, m_gI (WW (g_new e h15) c m) 0 (g_h e) 2 = some (c.1 2 0) := fun c => xh2 (g_new e h15) c m
            have y2 : ∀ c x, m_p (WW (g_new e h15) c m) 0 (g_h e) 2 (.int x) = some (WW (g_new e h15) (uc c 2 0 x) m) := fun c x => yh2 (g_new e h15) c m x
            have c2 : (c_new e c (nI a) (nI d) p3).1 2 0 = nI (g_nr e) := by
              simp only [c_new, q01, q02, q03, q04, q05, q06, q07, q08, q10, q12, q13, q14, q15, q16, q17, q18, q20, q21, q23, q24, q25, q26, q27, q28, q30, q31, q32, q34, q35, q36, q37, q38, q40, q41, q42, q43, q45, q46, q47, q48, q50, q51, q52, q53, q54, q56, q57, q58, q60, q61, q62, q63, q64, q65, q67, q68, q70, q71, q72, q73, q74, q75, q76, q78, q80, q81, q82, q83, q84, q85, q86, q87, w02, w12, w22, w03, w13, w23, w33, qm1, Int32.reduceLT, Int32.reduceLE, Int32.reduceAdd, Int32.reduceSub, Nat.reduceEqDiff, Nat.add_left_cancel_iff, false_and, true_and, and_false, and_true, and_self, if_true, if_false, uc_r, ug_r, uc2, ug1, h.cnr]
            have hn : (WW e c m).1 = g_n e := rfl
            simp only [f_X0_rule, iw_y (n := 3) (x := 3) (show a ≤ 3 by omega) (by decide) rfl, iw_y (n := 255) (x := 255) (show d ≤ 255 by omega) (by decide) rfl, m_bS, q01, q02, q03, q04, q05, q06, q07, q08, q10, q12, q13, q14, q15, q16, q17, q18, q20, q21, q23, q24, q25, q26, q27, q28, q30, q31, q32, q34, q35, q36, q37, q38, q40, q41, q42, q43, q45, q46, q47, q48, q50, q51, q52, q53, q54, q56, q57, q58, q60, q61, q62, q63, q64, q65, q67, q68, q70, q71, q72, q73, q74, q75, q76, q78, q80, q81, q82, q83, q84, q85, q86, q87, w02, w12, w22, w03, w13, w23, w33, qm1, Int32.reduceLT, Int32.reduceLE, Int32.reduceAdd, Int32.reduceSub, Nat.reduceEqDiff, Nat.add_left_cancel_iff, false_and, true_and, and_false, and_true, and_self, if_true, if_false, uc_r, ug_r, uc2, ug1, xh2, h.cnr, hlt, Option.bind_some, zh, k1, xh1, m_nnN, m_nw, hn, w1, w2, w3, x2, y2, c2, hs]
          · exact f_rule3 (e := e) (e' := g_new e h15) h.nr (by omega) hd h15 hz
          · refine SM _ ?_
            exact (((Sh.gc ((h.1.c rfl).c rfl)).c rfl).c rfl).c rfl
          · refine RR_rule (e := e) (c := c) (m := m) (d := d) (p1 := nI a) (p3 := p3) h.2.1 hd rfl ?_ hp3 ?_ ?_ m2 m3 rfl mn (Or.inr ⟨?_, hno, ?_, ?_, ?_, ?_, ?_⟩)
            · intro r hr
              show (if r = g_nr e then _ else _) = _
              rw [if_neg (by omega)]
            · intro i hi
              have hne : ¬ i = g_nr e := by omega
              refine ⟨?_, ?_, ?_, ?_, ?_, ?_⟩ <;> simp only [c_new, q01, q02, q03, q04, q05, q06, q07, q08, q10, q12, q13, q14, q15, q16, q17, q18, q20, q21, q23, q24, q25, q26, q27, q28, q30, q31, q32, q34, q35, q36, q37, q38, q40, q41, q42, q43, q45, q46, q47, q48, q50, q51, q52, q53, q54, q56, q57, q58, q60, q61, q62, q63, q64, q65, q67, q68, q70, q71, q72, q73, q74, q75, q76, q78, q80, q81, q82, q83, q84, q85, q86, q87, w02, w12, w22, w03, w13, w23, w33, qm1, Int32.reduceLT, Int32.reduceLE, Int32.reduceAdd, Int32.reduceSub, Nat.reduceEqDiff, Nat.add_left_cancel_iff, false_and, true_and, and_false, and_true, and_self, if_true, if_false, uc_r, ug_r, uc2, ug1, hne]
            · intro i hi
              exact ⟨mk 7 i hi (by omega), mk 8 i hi (by omega), mk 9 i hi (by omega), mk 10 i hi (by omega)⟩
            · show (if g_nr e = g_nr e then _ else _) = _
              rw [if_pos rfl]
            · simp only [c_new, q01, q02, q03, q04, q05, q06, q07, q08, q10, q12, q13, q14, q15, q16, q17, q18, q20, q21, q23, q24, q25, q26, q27, q28, q30, q31, q32, q34, q35, q36, q37, q38, q40, q41, q42, q43, q45, q46, q47, q48, q50, q51, q52, q53, q54, q56, q57, q58, q60, q61, q62, q63, q64, q65, q67, q68, q70, q71, q72, q73, q74, q75, q76, q78, q80, q81, q82, q83, q84, q85, q86, q87, w02, w12, w22, w03, w13, w23, w33, qm1, Int32.reduceLT, Int32.reduceLE, Int32.reduceAdd, Int32.reduceSub, Nat.reduceEqDiff, Nat.add_left_cancel_iff, false_and, true_and, and_false, and_true, and_self, if_true, if_false, uc_r, ug_r, uc2, ug1]
            · simp only [c_new, q01, q02, q03, q04, q05, q06, q07, q08, q10, q12, q13, q14, q15, q16, q17, q18, q20, q21, q23, q24, q25, q26, q27, q28, q30, q31, q32, q34, q35, q36, q37, q38, q40, q41, q42, q43, q45, q46, q47, q48, q50, q51, q52, q53, q54, q56, q57, q58, q60, q61, q62, q63, q64, q65, q67, q68, q70, q71, q72, q73, q74, q75, q76, q78, q80, q81, q82, q83, q84, q85, q86, q87, w02, w12, w22, w03, w13, w23, w33, qm1, Int32.reduceLT, Int32.reduceLE, Int32.reduceAdd, Int32.reduceSub, Nat.reduceEqDiff, Nat.add_left_cancel_iff, false_and, true_and, and_false, and_true, and_self, if_true, if_false, uc_r, ug_r, uc2, ug1]
            · simp only [c_new, q01, q02, q03, q04, q05, q06, q07, q08, q10, q12, q13, q14, q15, q16, q17, q18, q20, q21, q23, q24, q25, q26, q27, q28, q30, q31, q32, q34, q35, q36, q37, q38, q40, q41, q42, q43, q45, q46, q47, q48, q50, q51, q52, q53, q54, q56, q57, q58, q60, q61, q62, q63, q64, q65, q67, q68, q70, q71, q72, q73, q74, q75, q76, q78, q80, q81, q82, q83, q84, q85, q86, q87, w02, w12, w22, w03, w13, w23, w33, qm1, Int32.reduceLT, Int32.reduceLE, Int32.reduceAdd, Int32.reduceSub, Nat.reduceEqDiff, Nat.add_left_cancel_iff, false_and, true_and, and_false, and_true, and_self, if_true, if_false, uc_r, ug_r, uc2, ug1]
            · simp only [c_new, q01, q02, q03, q04, q05, q06, q07, q08, q10, q12, q13, q14, q15, q16, q17, q18, q20, q21, q23, q24, q25, q26, q27, q28, q30, q31, q32, q34, q35, q36, q37, q38, q40, q41, q42, q43, q45, q46, q47, q48, q50, q51, q52, q53, q54, q56, q57, q58, q60, q61, q62, q63, q64, q65, q67, q68, q70, q71, q72, q73, q74, q75, q76, q78, q80, q81, q82, q83, q84, q85, q86, q87, w02, w12, w22, w03, w13, w23, w33, qm1, Int32.reduceLT, Int32.reduceLE, Int32.reduceAdd, Int32.reduceSub, Nat.reduceEqDiff, Nat.add_left_cancel_iff, false_and, true_and, and_false, and_true, and_self, if_true, if_false, uc_r, ug_r, uc2, ug1]
            · simp only [c_new, q01, q02, q03, q04, q05, q06, q07, q08, q10, q12, q13, q14, q15, q16, q17, q18, q20, q21, q23, q24, q25, q26, q27, q28, q30, q31, q32, q34, q35, q36, q37, q38, q40, q41, q42, q43, q45, q46, q47, q48, q50, q51, q52, q53, q54, q56, q57, q58, q60, q61, q62, q63, q64, q65, q67, q68, q70, q71, q72, q73, q74, q75, q76, q78, q80, q81, q82, q83, q84, q85, q86, q87, w02, w12, w22, w03, w13, w23, w33, qm1, Int32.reduceLT, Int32.reduceLE, Int32.reduceAdd, Int32.reduceSub, Nat.reduceEqDiff, Nat.add_left_cancel_iff, false_and, true_and, and_false, and_true, and_self, if_true, if_false, uc_r, ug_r, uc2, ug1]
          · have TC : TTx e (uc (c_new e c (nI a) (nI d) p3) 2 0 (nI (g_nr e) + 1)) (m_rule e m (nI a) (nI d) p3) := by
              refine TTx.c ?_ (by decide)
              refine TTx.c (TTx.c (TTx.c ?_ (by decide)) (by decide)) (by decide)
              exact TTx.c (k := 31) (i := g_nr e) (v := -1) (TTx.c (k := 30) (i := g_nr e) (v := 0) TM (by decide)) (by decide)
            exact TC
          · exact AM
        · refine ⟨g_known e r hr h15, uc c 2 0 (nI (g_nr e) + 1), m_rule e m (nI a) (nI d) p3, nI (g_nr e), rfl, ?_, ?_, ⟨?_, ?_, ?_, ?_⟩⟩
          · have x2 : ∀ c, m_gI (WW (g_known e r hr h15) c m) 0 (g_h e) 2 = some (c.1 2 0) := fun c => xh2 (g_known e r hr h15) c m
            have y2 : ∀ c x, m_p (WW (g_known e r hr h15) c m) 0 (g_h e) 2 (.int x) = some (WW (g_known e r hr h15) (uc c 2 0 x) m) := fun c x => yh2 (g_known e r hr h15) c m x
            simp only [f_X0_rule, iw_y (n := 3) (x := 3) (show a ≤ 3 by omega) (by decide) rfl, iw_y (n := 255) (x := 255) (show d ≤ 255 by omega) (by decide) rfl, m_bS, q01, q02, q03, q04, q05, q06, q07, q08, q10, q12, q13, q14, q15, q16, q17, q18, q20, q21, q23, q24, q25, q26, q27, q28, q30, q31, q32, q34, q35, q36, q37, q38, q40, q41, q42, q43, q45, q46, q47, q48, q50, q51, q52, q53, q54, q56, q57, q58, q60, q61, q62, q63, q64, q65, q67, q68, q70, q71, q72, q73, q74, q75, q76, q78, q80, q81, q82, q83, q84, q85, q86, q87, w02, w12, w22, w03, w13, w23, w33, qm1, Int32.reduceLT, Int32.reduceLE, Int32.reduceAdd, Int32.reduceSub, Nat.reduceEqDiff, Nat.add_left_cancel_iff, false_and, true_and, and_false, and_true, and_self, if_true, if_false, uc_r, ug_r, uc2, ug1, xh2, h.cnr, hlt, Option.bind_some, zh, k1, xh1, m_nnS, zc _ _ _ hr, W_known hr h15, x2, y2, hs]
          · exact f_rule3 (e := e) (e' := g_known e r hr h15) h.nr (by omega) hd h15 hz
          · exact SM _ h.1
          · refine RR_rule (e := e) (c := c) (m := m) (d := d) (p1 := nI a) (p3 := p3) h.2.1 hd rfl ?_ hp3 ?_ ?_ m2 m3 rfl mn (Or.inl ⟨r, hr, ?_, g7, g8⟩)
            · intro r hr
              show (if r = g_nr e then _ else _) = _
              rw [if_neg (by omega)]
            · intro i hi
              refine ⟨?_, ?_, ?_, ?_, ?_, ?_⟩ <;> simp only [q01, q02, q03, q04, q05, q06, q07, q08, q10, q12, q13, q14, q15, q16, q17, q18, q20, q21, q23, q24, q25, q26, q27, q28, q30, q31, q32, q34, q35, q36, q37, q38, q40, q41, q42, q43, q45, q46, q47, q48, q50, q51, q52, q53, q54, q56, q57, q58, q60, q61, q62, q63, q64, q65, q67, q68, q70, q71, q72, q73, q74, q75, q76, q78, q80, q81, q82, q83, q84, q85, q86, q87, w02, w12, w22, w03, w13, w23, w33, qm1, Int32.reduceLT, Int32.reduceLE, Int32.reduceAdd, Int32.reduceSub, Nat.reduceEqDiff, Nat.add_left_cancel_iff, false_and, true_and, and_false, and_true, and_self, if_true, if_false, uc_r, ug_r, uc2, ug1]
            · intro i hi
              exact ⟨mk 7 i hi (by omega), mk 8 i hi (by omega), mk 9 i hi (by omega), mk 10 i hi (by omega)⟩
            · show (if g_nr e = g_nr e then _ else _) = _
              rw [if_pos rfl]
          · exact TTx.c TM (by decide)
          · exact AM
      · have he : g_nr e = 16 := by omega
        refine ⟨e, c, uc m 0 0 0, -4, rfl, ?_, ?_, h0⟩
        · have hx : ¬ (nI 16 : Int32) < 16 := by decide
          simp only [f_X0_rule, iw_y (n := 3) (x := 3) (show a ≤ 3 by omega) (by decide) rfl, iw_y (n := 255) (x := 255) (show d ≤ 255 by omega) (by decide) rfl, m_bS, q01, q02, q03, q04, q05, q06, q07, q08, q10, q12, q13, q14, q15, q16, q17, q18, q20, q21, q23, q24, q25, q26, q27, q28, q30, q31, q32, q34, q35, q36, q37, q38, q40, q41, q42, q43, q45, q46, q47, q48, q50, q51, q52, q53, q54, q56, q57, q58, q60, q61, q62, q63, q64, q65, q67, q68, q70, q71, q72, q73, q74, q75, q76, q78, q80, q81, q82, q83, q84, q85, q86, q87, w02, w12, w22, w03, w13, w23, w33, qm1, Int32.reduceLT, Int32.reduceLE, Int32.reduceAdd, Int32.reduceSub, Nat.reduceEqDiff, Nat.add_left_cancel_iff, false_and, true_and, and_false, and_true, and_self, if_true, if_false, uc_r, ug_r, uc2, ug1, xh2, h.cnr, he, Option.bind_some, hx]
        · have hx : (nI 16 : Int32) = 16 := by decide
          simp only [f_X3_rule, ym0, Option.bind_some, if_neg (nI_pos (show a < 2 ^ 31 by omega)), if_neg (show ¬ 3 < nI a from nI_nlt (b := a) (a := 3) (by omega) (by decide)), if_neg (nI_pos (show d < 2 ^ 31 by omega)), if_pos (show nI d ≤ 255 from nI_le (b := 255) (by omega) (by decide)), xm2, q01, q02, q03, q04, q05, q06, q07, q08, q10, q12, q13, q14, q15, q16, q17, q18, q20, q21, q23, q24, q25, q26, q27, q28, q30, q31, q32, q34, q35, q36, q37, q38, q40, q41, q42, q43, q45, q46, q47, q48, q50, q51, q52, q53, q54, q56, q57, q58, q60, q61, q62, q63, q64, q65, q67, q68, q70, q71, q72, q73, q74, q75, q76, q78, q80, q81, q82, q83, q84, q85, q86, q87, w02, w12, w22, w03, w13, w23, w33, qm1, Int32.reduceLT, Int32.reduceLE, Int32.reduceAdd, Int32.reduceSub, Nat.reduceEqDiff, Nat.add_left_cancel_iff, false_and, true_and, and_false, and_true, and_self, if_true, if_false, uc_r, ug_r, uc2, ug1, h.nr, he, hx]
end RULE
