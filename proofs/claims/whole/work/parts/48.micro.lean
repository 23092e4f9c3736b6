/-! ===== the small steps of a run, both sides at once ===== -/
theorem ucne {c : CS} {k i k' : Nat} {v : Int32} (h : k' ≠ k) : (uc c k i v).1 k' = c.1 k' := by rw [uc1, up_ne h]
theorem uc_comm {c : CS} {k i k' i' : Nat} {v v' : Int32} (h : k ≠ k') : uc (uc c k i v) k' i' v' = uc (uc c k' i' v') k i v := by
  refine Prod.ext ?_ rfl
  funext a b
  show (if a = k' ∧ b = i' then v' else if a = k ∧ b = i then v else c.1 a b) = (if a = k ∧ b = i then v else if a = k' ∧ b = i' then v' else c.1 a b)
  by_cases h1 : a = k'
  · have h2 : ¬ a = k := by omega
    simp only [h2, false_and, if_false]
  · simp only [h1, false_and, if_false]
theorem uc_self {c : CS} {k i : Nat} {v : Int32} (h : c.1 k i = v) : uc c k i v = c := by
  refine Prod.ext ?_ rfl
  funext a b
  show (if a = k ∧ b = i then v else c.1 a b) = c.1 a b
  by_cases h1 : a = k ∧ b = i
  · rw [if_pos h1, h1.1, h1.2, h]
  · rw [if_neg h1]
def frk (k : Nat) : Bool := k == 1 || k == 2 || k == 4 || k == 7 || k == 8 || k == 10 || k == 12 || k == 13
/-- what a run of target T leaves alone; the chain below P too -/
def FrT (T P : Nat) (c m c' m' : CS) : Prop := (∀ k, frk k = true → m'.1 k = m.1 k) ∧ (∀ i, m.1 9 i ≠ -1 → m'.1 9 i = m.1 9 i) ∧ (∀ t, T < t → m'.1 14 t = m.1 14 t ∧ m'.1 17 t = m.1 17 t ∧ m'.1 21 t = m.1 21 t ∧ c'.1 33 t = c.1 33 t) ∧ ∀ i, i < P → m'.1 19 i = m.1 19 i
theorem FrT.refl (T P : Nat) (c m : CS) : FrT T P c m c m := ⟨fun _ _ => rfl, fun _ _ => rfl, fun _ _ => ⟨rfl, rfl, rfl, rfl⟩, fun _ _ => rfl⟩
theorem FrT.trans {T P T' P' : Nat} {c m c1 m1 c2 m2 : CS} (h : FrT T P c m c1 m1) (h' : FrT T' P' c1 m1 c2 m2) (hT : T' ≤ T) (hP : P ≤ P') : FrT T P c m c2 m2 := by
  refine ⟨fun k hk => (h'.1 k hk).trans (h.1 k hk), fun i hi => ?_, fun t ht => ?_, fun i hi => (h'.2.2.2 i (by omega)).trans (h.2.2.2 i hi)⟩
  · have h1 := h.2.1 i hi
    rw [← h1]
    exact h'.2.1 i (by rw [h1]; exact hi)
  · obtain ⟨a1, a2, a3, a4⟩ := h.2.2.1 t ht
    obtain ⟨b1, b2, b3, b4⟩ := h'.2.2.1 t (by omega)
    exact ⟨b1.trans a1, b2.trans a2, b3.trans a3, b4.trans a4⟩
theorem FrT.c {T P : Nat} {c m c' m' : CS} {k i : Nat} {v : Int32} (h : FrT T P c m c' m') (hk : k ≠ 33 ∨ i ≤ T) : FrT T P c m (uc c' k i v) m' := by
  refine ⟨h.1, h.2.1, fun t ht => ?_, h.2.2.2⟩
  obtain ⟨a1, a2, a3, a4⟩ := h.2.2.1 t ht
  refine ⟨a1, a2, a3, ?_⟩
  rw [uc_r, if_neg (by omega)]
  exact a4
theorem FrT.m {T P : Nat} {c m c' m' : CS} {k i : Nat} {v : Int32} (h : FrT T P c m c' m') (hk : frk k = false) (h9 : k ≠ 9) (hi : (k ≠ 14 ∧ k ≠ 17 ∧ k ≠ 21) ∨ i ≤ T) (hp : k ≠ 19 ∨ P ≤ i) : FrT T P c m c' (uc m' k i v) := by
  refine ⟨fun k' hk' => ?_, fun j hj => ?_, fun t ht => ?_, fun j hj => ?_⟩
  · rw [uc1, up_ne]
    · exact h.1 k' hk'
    · rintro rfl
      rw [hk] at hk'
      cases hk'
  · rw [uc1, up_ne h9.symm]
    exact h.2.1 j hj
  · obtain ⟨a1, a2, a3, a4⟩ := h.2.2.1 t ht
    refine ⟨?_, ?_, ?_, a4⟩
    · rw [uc_r, if_neg (by omega)]
      exact a1
    · rw [uc_r, if_neg (by omega)]
      exact a2
    · rw [uc_r, if_neg (by omega)]
      exact a3
  · rw [uc_r, if_neg (by omega)]
    exact h.2.2.2 j hj
theorem FrT.g {T P : Nat} {c m c' m' : CS} {k i k' i' : Nat} {v v' : Int64} (h : FrT T P c m c' m') : FrT T P c m (ug c' k i v) (ug m' k' i' v') := h
theorem FrT.made {T P : Nat} {c m c1 m1 c2 m2 : CS} (h : FrT T P c m c1 m1) (h' : FrM c1 m1 c2 m2) : FrT T P c m c2 m2 := by
  refine ⟨fun k hk => ?_, fun i hi => ?_, fun t ht => ?_, fun i hi => ?_⟩
  · have h9 : k ≠ 9 ∧ k ≠ 3 := by
      constructor <;> rintro rfl <;> cases hk
    rw [h'.2.1 k h9.1 h9.2]
    exact h.1 k hk
  · have h1 := h.2.1 i hi
    rw [← h1]
    exact h'.2.2 i (by rw [h1]; exact hi)
  · rw [h'.2.1 14 (by decide) (by decide), h'.2.1 17 (by decide) (by decide), h'.2.1 21 (by decide) (by decide), h'.1 33 (by decide) (by decide) (by decide)]
    exact h.2.2.1 t ht
  · rw [h'.2.1 19 (by decide) (by decide)]
    exact h.2.2.2 i hi
section MICRO
variable {e : GE} {c m c' m' : CS} {t : Nat}
/-- one target changes -/
theorem TT_set (h : TTx e c m) (k1 : m'.1 1 = m.1 1) (k4 : m'.1 4 = m.1 4) (k12 : m'.1 12 = m.1 12) (k13 : m'.1 13 = m.1 13) (k20 : ∀ i, 3 * g_nt e ≤ i → m'.1 20 i = m.1 20 i ∧ m'.1 22 i = m.1 22 i)
    (ho : ∀ t', ¬ t' = t → m'.1 14 t' = m.1 14 t' ∧ m'.1 15 t' = m.1 15 t' ∧ m'.1 16 t' = m.1 16 t' ∧ m'.1 17 t' = m.1 17 t' ∧ m'.1 18 t' = m.1 18 t' ∧ m'.1 21 t' = m.1 21 t' ∧ c'.1 32 t' = c.1 32 t' ∧ c'.1 33 t' = c.1 33 t') (ht : t < g_nt e)
    (hq : ∀ s, s ≤ 65536 → m.1 1 0 = nI s → TQ s t (g_rl e t) (m.1 12 t) (m.1 13 (4 * t + 0)) (m.1 13 (4 * t + 2)) (m.1 14 t) (m.1 15 t) (m.1 16 t) (m.1 17 t) (m.1 18 t) (m.1 21 t) (c.1 32 t) (c.1 33 t) → TQ s t (g_rl e t) (m.1 12 t) (m.1 13 (4 * t + 0)) (m.1 13 (4 * t + 2)) (m'.1 14 t) (m'.1 15 t) (m'.1 16 t) (m'.1 17 t) (m'.1 18 t) (m'.1 21 t) (c'.1 32 t) (c'.1 33 t)) : TTx e c' m' := by
  obtain ⟨a1, ⟨s, a2, a3, a4⟩, a5, a6, a7⟩ := h
  unfold TTx TT
  rw [k1, k4, k12, k13]
  refine ⟨a1, ⟨s, a2, a3, fun t' ht' => ?_⟩, fun t' ht' => ?_, a6, fun i hi => ?_⟩
  · by_cases htt : t' = t
    · subst htt
      exact hq s a2 a3 (a4 t' ht)
    · obtain ⟨b1, b2, b3, b4, b5, b6, b7, b8⟩ := ho t' htt
      rw [b1, b2, b3, b4, b5, b6, b7, b8]
      exact a4 t' ht'
  · obtain ⟨b1, b2, b3, b4, b5, b6, b7, b8⟩ := ho t' (by omega)
    rw [b1, b2, b3, b4, b5, b6, b7, b8]
    exact a5 t' ht'
  · rw [(k20 i hi).1, (k20 i hi).2]
    exact a7 i hi
theorem Rel.step (h : Rel e c m) (ht : t < g_nt e) {s d : Nat} (hs : m.1 1 0 = nI s) (hs2 : s ≤ 65536) (hd : d ≤ s) : Rel e (uc c 18 t (nI d)) (uc m 18 t (nI d)) := by
  refine ⟨h.1.b, (h.2.1.c (by decide)).m (by decide), TT_set (t := t) h.2.2.1 (ucne (by decide)) (ucne (by decide)) (ucne (by decide)) (ucne (by decide)) (fun i _ => by simp only [q01, q02, q03, q04, q05, q06, q07, q08, q10, q12, q13, q14, q15, q16, q17, q18, q20, q21, q23, q24, q25, q26, q27, q28, q30, q31, q32, q34, q35, q36, q37, q38, q40, q41, q42, q43, q45, q46, q47, q48, q50, q51, q52, q53, q54, q56, q57, q58, q60, q61, q62, q63, q64, q65, q67, q68, q70, q71, q72, q73, q74, q75, q76, q78, q80, q81, q82, q83, q84, q85, q86, q87, w02, w12, w22, w03, w13, w23, w33, qm1, Int32.reduceLT, Int32.reduceLE, Int32.reduceAdd, Int32.reduceSub, Nat.reduceEqDiff, Nat.add_left_cancel_iff, false_and, true_and, and_false, and_true, and_self, if_true, if_false, uc_r, ug_r, uc2, ug1]) (fun t' ht' => by simp only [q01, q02, q03, q04, q05, q06, q07, q08, q10, q12, q13, q14, q15, q16, q17, q18, q20, q21, q23, q24, q25, q26, q27, q28, q30, q31, q32, q34, q35, q36, q37, q38, q40, q41, q42, q43, q45, q46, q47, q48, q50, q51, q52, q53, q54, q56, q57, q58, q60, q61, q62, q63, q64, q65, q67, q68, q70, q71, q72, q73, q74, q75, q76, q78, q80, q81, q82, q83, q84, q85, q86, q87, w02, w12, w22, w03, w13, w23, w33, qm1, Int32.reduceLT, Int32.reduceLE, Int32.reduceAdd, Int32.reduceSub, Nat.reduceEqDiff, Nat.add_left_cancel_iff, false_and, true_and, and_false, and_true, and_self, if_true, if_false, uc_r, ug_r, uc2, ug1, ht']) ht ?_, h.2.2.2.m (by decide)⟩
  intro s' hs' hss hq
  obtain ⟨q1, q2, q3, q4, q5, q6, q7⟩ := hq
  have : s' = s := by
    rw [hss, nI_eq (by omega) (by omega)] at hs
    exact hs
  simp only [q01, q02, q03, q04, q05, q06, q07, q08, q10, q12, q13, q14, q15, q16, q17, q18, q20, q21, q23, q24, q25, q26, q27, q28, q30, q31, q32, q34, q35, q36, q37, q38, q40, q41, q42, q43, q45, q46, q47, q48, q50, q51, q52, q53, q54, q56, q57, q58, q60, q61, q62, q63, q64, q65, q67, q68, q70, q71, q72, q73, q74, q75, q76, q78, q80, q81, q82, q83, q84, q85, q86, q87, w02, w12, w22, w03, w13, w23, w33, qm1, Int32.reduceLT, Int32.reduceLE, Int32.reduceAdd, Int32.reduceSub, Nat.reduceEqDiff, Nat.add_left_cancel_iff, false_and, true_and, and_false, and_true, and_self, if_true, if_false, uc_r, ug_r, uc2, ug1]
  exact ⟨q1, q2, q3, q4, q5, q6, d, by omega, rfl⟩
theorem Rel.mark (h : Rel e c m) (ht : t < g_nt e) : Rel e (uc c 21 t 1) (uc m 21 t 1) := by
  refine ⟨h.1.b, (h.2.1.c (by decide)).m (by decide), TT_set (t := t) h.2.2.1 (ucne (by decide)) (ucne (by decide)) (ucne (by decide)) (ucne (by decide)) (fun i _ => by simp only [q01, q02, q03, q04, q05, q06, q07, q08, q10, q12, q13, q14, q15, q16, q17, q18, q20, q21, q23, q24, q25, q26, q27, q28, q30, q31, q32, q34, q35, q36, q37, q38, q40, q41, q42, q43, q45, q46, q47, q48, q50, q51, q52, q53, q54, q56, q57, q58, q60, q61, q62, q63, q64, q65, q67, q68, q70, q71, q72, q73, q74, q75, q76, q78, q80, q81, q82, q83, q84, q85, q86, q87, w02, w12, w22, w03, w13, w23, w33, qm1, Int32.reduceLT, Int32.reduceLE, Int32.reduceAdd, Int32.reduceSub, Nat.reduceEqDiff, Nat.add_left_cancel_iff, false_and, true_and, and_false, and_true, and_self, if_true, if_false, uc_r, ug_r, uc2, ug1]) (fun t' ht' => by simp only [q01, q02, q03, q04, q05, q06, q07, q08, q10, q12, q13, q14, q15, q16, q17, q18, q20, q21, q23, q24, q25, q26, q27, q28, q30, q31, q32, q34, q35, q36, q37, q38, q40, q41, q42, q43, q45, q46, q47, q48, q50, q51, q52, q53, q54, q56, q57, q58, q60, q61, q62, q63, q64, q65, q67, q68, q70, q71, q72, q73, q74, q75, q76, q78, q80, q81, q82, q83, q84, q85, q86, q87, w02, w12, w22, w03, w13, w23, w33, qm1, Int32.reduceLT, Int32.reduceLE, Int32.reduceAdd, Int32.reduceSub, Nat.reduceEqDiff, Nat.add_left_cancel_iff, false_and, true_and, and_false, and_true, and_self, if_true, if_false, uc_r, ug_r, uc2, ug1, ht']) ht ?_, h.2.2.2.m (by decide)⟩
  intro s' hs' hss hq
  obtain ⟨q1, q2, q3, q4, q5, q6, q7⟩ := hq
  simp only [q01, q02, q03, q04, q05, q06, q07, q08, q10, q12, q13, q14, q15, q16, q17, q18, q20, q21, q23, q24, q25, q26, q27, q28, q30, q31, q32, q34, q35, q36, q37, q38, q40, q41, q42, q43, q45, q46, q47, q48, q50, q51, q52, q53, q54, q56, q57, q58, q60, q61, q62, q63, q64, q65, q67, q68, q70, q71, q72, q73, q74, q75, q76, q78, q80, q81, q82, q83, q84, q85, q86, q87, w02, w12, w22, w03, w13, w23, w33, qm1, Int32.reduceLT, Int32.reduceLE, Int32.reduceAdd, Int32.reduceSub, Nat.reduceEqDiff, Nat.add_left_cancel_iff, false_and, true_and, and_false, and_true, and_self, if_true, if_false, uc_r, ug_r, uc2, ug1]
  exact ⟨q1, q2, q3, fun h => absurd h (by decide), q5, q6, q7⟩
theorem Rel.out (h : Rel e c m) (ht : t < g_nt e) {v : Int32} (hr : m.1 21 t ≠ 0) : Rel e (uc c 33 t v) m := by
  refine ⟨h.1.c rfl, h.2.1.c (by decide), TT_set (t := t) h.2.2.1 rfl rfl rfl rfl (fun i _ => ⟨rfl, rfl⟩) (fun t' ht' => by simp only [q01, q02, q03, q04, q05, q06, q07, q08, q10, q12, q13, q14, q15, q16, q17, q18, q20, q21, q23, q24, q25, q26, q27, q28, q30, q31, q32, q34, q35, q36, q37, q38, q40, q41, q42, q43, q45, q46, q47, q48, q50, q51, q52, q53, q54, q56, q57, q58, q60, q61, q62, q63, q64, q65, q67, q68, q70, q71, q72, q73, q74, q75, q76, q78, q80, q81, q82, q83, q84, q85, q86, q87, w02, w12, w22, w03, w13, w23, w33, qm1, Int32.reduceLT, Int32.reduceLE, Int32.reduceAdd, Int32.reduceSub, Nat.reduceEqDiff, Nat.add_left_cancel_iff, false_and, true_and, and_false, and_true, and_self, if_true, if_false, uc_r, ug_r, uc2, ug1, ht']) ht ?_, h.2.2.2⟩
  intro s' hs' hss hq
  obtain ⟨q1, q2, q3, q4, q5, q6, q7⟩ := hq
  simp only [q01, q02, q03, q04, q05, q06, q07, q08, q10, q12, q13, q14, q15, q16, q17, q18, q20, q21, q23, q24, q25, q26, q27, q28, q30, q31, q32, q34, q35, q36, q37, q38, q40, q41, q42, q43, q45, q46, q47, q48, q50, q51, q52, q53, q54, q56, q57, q58, q60, q61, q62, q63, q64, q65, q67, q68, q70, q71, q72, q73, q74, q75, q76, q78, q80, q81, q82, q83, q84, q85, q86, q87, w02, w12, w22, w03, w13, w23, w33, qm1, Int32.reduceLT, Int32.reduceLE, Int32.reduceAdd, Int32.reduceSub, Nat.reduceEqDiff, Nat.add_left_cancel_iff, false_and, true_and, and_false, and_true, and_self, if_true, if_false, uc_r, ug_r, uc2, ug1]
  exact ⟨q1, q2, q3, fun h => absurd h hr, q5, q6, q7⟩
theorem Rel.give (h : Rel e c m) (ht : t < g_nt e) {n : Nat} {v w : Int32} (hn : n < 3) : Rel e (uc (uc c 20 (3 * t + n) v) 22 (3 * t + n) w) (uc (uc m 20 (3 * t + n) v) 22 (3 * t + n) w) := by
  refine ⟨h.1.b.b, (((h.2.1.c (by decide)).c (by decide)).m (by decide)).m (by decide), TT_set (t := t) h.2.2.1 ?_ ?_ ?_ ?_ (fun i hi => ?_) (fun t' ht' => by simp only [q01, q02, q03, q04, q05, q06, q07, q08, q10, q12, q13, q14, q15, q16, q17, q18, q20, q21, q23, q24, q25, q26, q27, q28, q30, q31, q32, q34, q35, q36, q37, q38, q40, q41, q42, q43, q45, q46, q47, q48, q50, q51, q52, q53, q54, q56, q57, q58, q60, q61, q62, q63, q64, q65, q67, q68, q70, q71, q72, q73, q74, q75, q76, q78, q80, q81, q82, q83, q84, q85, q86, q87, w02, w12, w22, w03, w13, w23, w33, qm1, Int32.reduceLT, Int32.reduceLE, Int32.reduceAdd, Int32.reduceSub, Nat.reduceEqDiff, Nat.add_left_cancel_iff, false_and, true_and, and_false, and_true, and_self, if_true, if_false, uc_r, ug_r, uc2, ug1]) ht ?_, (h.2.2.2.m (by decide)).m (by decide)⟩
  · rw [uc1, uc1, up_ne (by decide), up_ne (by decide)]
  · rw [uc1, uc1, up_ne (by decide), up_ne (by decide)]
  · rw [uc1, uc1, up_ne (by decide), up_ne (by decide)]
  · rw [uc1, uc1, up_ne (by decide), up_ne (by decide)]
  · have hne : ¬ i = 3 * t + n := by omega
    simp only [q01, q02, q03, q04, q05, q06, q07, q08, q10, q12, q13, q14, q15, q16, q17, q18, q20, q21, q23, q24, q25, q26, q27, q28, q30, q31, q32, q34, q35, q36, q37, q38, q40, q41, q42, q43, q45, q46, q47, q48, q50, q51, q52, q53, q54, q56, q57, q58, q60, q61, q62, q63, q64, q65, q67, q68, q70, q71, q72, q73, q74, q75, q76, q78, q80, q81, q82, q83, q84, q85, q86, q87, w02, w12, w22, w03, w13, w23, w33, qm1, Int32.reduceLT, Int32.reduceLE, Int32.reduceAdd, Int32.reduceSub, Nat.reduceEqDiff, Nat.add_left_cancel_iff, false_and, true_and, and_false, and_true, and_self, if_true, if_false, uc_r, ug_r, uc2, ug1, hne]
  · intro s' hs' hss hq
    simp only [q01, q02, q03, q04, q05, q06, q07, q08, q10, q12, q13, q14, q15, q16, q17, q18, q20, q21, q23, q24, q25, q26, q27, q28, q30, q31, q32, q34, q35, q36, q37, q38, q40, q41, q42, q43, q45, q46, q47, q48, q50, q51, q52, q53, q54, q56, q57, q58, q60, q61, q62, q63, q64, q65, q67, q68, q70, q71, q72, q73, q74, q75, q76, q78, q80, q81, q82, q83, q84, q85, q86, q87, w02, w12, w22, w03, w13, w23, w33, qm1, Int32.reduceLT, Int32.reduceLE, Int32.reduceAdd, Int32.reduceSub, Nat.reduceEqDiff, Nat.add_left_cancel_iff, false_and, true_and, and_false, and_true, and_self, if_true, if_false, uc_r, ug_r, uc2, ug1]
    exact hq
theorem Rel.hand (h : Rel e c m) {n : Nat} (hn : n ≤ 40) : Rel e (uc c 6 0 (nI n)) (uc m 6 0 (nI n)) := by
  refine ⟨h.1.b, (h.2.1.c (by decide)).m (by decide), (h.2.2.1.c (by decide)).m (by decide), ?_⟩
  obtain ⟨a1, a2⟩ := h.2.2.2
  exact ⟨a1, n, hn, rfl⟩
theorem Rel.act (h : Rel e c m) (ht : t < g_nt e) {n : Nat} {v x : Int32} (hn : n < 400) (h5 : m.1 5 0 = nI n) (hr : m.1 21 t ≠ 0) : Rel e (uc (uc (uc (uc c 23 n (nI t)) 24 n v) 5 0 (nI n + 1)) 17 t x) (uc (uc (uc (uc m 23 n (nI t)) 24 n v) 17 t x) 5 0 (nI n + 1)) := by
  rw [uc_comm (k := 17) (k' := 5) (by decide)]
  refine ⟨h.1.b.b.b.b, (((((((h.2.1.c (by decide)).c (by decide)).c (by decide)).c (by decide)).m (by decide)).m (by decide)).m (by decide)).m (by decide), TT_set (t := t) h.2.2.1 ?_ ?_ ?_ ?_ (fun i _ => by simp only [q01, q02, q03, q04, q05, q06, q07, q08, q10, q12, q13, q14, q15, q16, q17, q18, q20, q21, q23, q24, q25, q26, q27, q28, q30, q31, q32, q34, q35, q36, q37, q38, q40, q41, q42, q43, q45, q46, q47, q48, q50, q51, q52, q53, q54, q56, q57, q58, q60, q61, q62, q63, q64, q65, q67, q68, q70, q71, q72, q73, q74, q75, q76, q78, q80, q81, q82, q83, q84, q85, q86, q87, w02, w12, w22, w03, w13, w23, w33, qm1, Int32.reduceLT, Int32.reduceLE, Int32.reduceAdd, Int32.reduceSub, Nat.reduceEqDiff, Nat.add_left_cancel_iff, false_and, true_and, and_false, and_true, and_self, if_true, if_false, uc_r, ug_r, uc2, ug1]) (fun t' ht' => by simp only [q01, q02, q03, q04, q05, q06, q07, q08, q10, q12, q13, q14, q15, q16, q17, q18, q20, q21, q23, q24, q25, q26, q27, q28, q30, q31, q32, q34, q35, q36, q37, q38, q40, q41, q42, q43, q45, q46, q47, q48, q50, q51, q52, q53, q54, q56, q57, q58, q60, q61, q62, q63, q64, q65, q67, q68, q70, q71, q72, q73, q74, q75, q76, q78, q80, q81, q82, q83, q84, q85, q86, q87, w02, w12, w22, w03, w13, w23, w33, qm1, Int32.reduceLT, Int32.reduceLE, Int32.reduceAdd, Int32.reduceSub, Nat.reduceEqDiff, Nat.add_left_cancel_iff, false_and, true_and, and_false, and_true, and_self, if_true, if_false, uc_r, ug_r, uc2, ug1, ht']) ht ?_, AAx.m ?_ (by decide)⟩
  · simp only [uc1]
    rw [up_ne (by decide), up_ne (by decide), up_ne (by decide), up_ne (by decide)]
  · simp only [uc1]
    rw [up_ne (by decide), up_ne (by decide), up_ne (by decide), up_ne (by decide)]
  · simp only [uc1]
    rw [up_ne (by decide), up_ne (by decide), up_ne (by decide), up_ne (by decide)]
  · simp only [uc1]
    rw [up_ne (by decide), up_ne (by decide), up_ne (by decide), up_ne (by decide)]
  · intro s' hs' hss hq
    obtain ⟨q1, q2, q3, q4, q5, q6, q7⟩ := hq
    simp only [q01, q02, q03, q04, q05, q06, q07, q08, q10, q12, q13, q14, q15, q16, q17, q18, q20, q21, q23, q24, q25, q26, q27, q28, q30, q31, q32, q34, q35, q36, q37, q38, q40, q41, q42, q43, q45, q46, q47, q48, q50, q51, q52, q53, q54, q56, q57, q58, q60, q61, q62, q63, q64, q65, q67, q68, q70, q71, q72, q73, q74, q75, q76, q78, q80, q81, q82, q83, q84, q85, q86, q87, w02, w12, w22, w03, w13, w23, w33, qm1, Int32.reduceLT, Int32.reduceLE, Int32.reduceAdd, Int32.reduceSub, Nat.reduceEqDiff, Nat.add_left_cancel_iff, false_and, true_and, and_false, and_true, and_self, if_true, if_false, uc_r, ug_r, uc2, ug1]
    exact ⟨q1, q2, q3, fun h => absurd h hr, q5, q6, q7⟩
  · obtain ⟨⟨n', b1, b2, b3⟩, b4⟩ := h.2.2.2
    have hnn : n' = n := by
      rw [b2, nI_eq (by omega) (by omega)] at h5
      exact h5
    subst hnn
    refine ⟨⟨n' + 1, by omega, ?_, fun i hi => ?_⟩, ?_⟩
    · rw [← nI_1]
      simp only [q01, q02, q03, q04, q05, q06, q07, q08, q10, q12, q13, q14, q15, q16, q17, q18, q20, q21, q23, q24, q25, q26, q27, q28, q30, q31, q32, q34, q35, q36, q37, q38, q40, q41, q42, q43, q45, q46, q47, q48, q50, q51, q52, q53, q54, q56, q57, q58, q60, q61, q62, q63, q64, q65, q67, q68, q70, q71, q72, q73, q74, q75, q76, q78, q80, q81, q82, q83, q84, q85, q86, q87, w02, w12, w22, w03, w13, w23, w33, qm1, Int32.reduceLT, Int32.reduceLE, Int32.reduceAdd, Int32.reduceSub, Nat.reduceEqDiff, Nat.add_left_cancel_iff, false_and, true_and, and_false, and_true, and_self, if_true, if_false, uc_r, ug_r, uc2, ug1]
    · simp only [q01, q02, q03, q04, q05, q06, q07, q08, q10, q12, q13, q14, q15, q16, q17, q18, q20, q21, q23, q24, q25, q26, q27, q28, q30, q31, q32, q34, q35, q36, q37, q38, q40, q41, q42, q43, q45, q46, q47, q48, q50, q51, q52, q53, q54, q56, q57, q58, q60, q61, q62, q63, q64, q65, q67, q68, q70, q71, q72, q73, q74, q75, q76, q78, q80, q81, q82, q83, q84, q85, q86, q87, w02, w12, w22, w03, w13, w23, w33, qm1, Int32.reduceLT, Int32.reduceLE, Int32.reduceAdd, Int32.reduceSub, Nat.reduceEqDiff, Nat.add_left_cancel_iff, false_and, true_and, and_false, and_true, and_self, if_true, if_false, uc_r, ug_r, uc2, ug1]
      by_cases hi2 : i = n'
      · rw [if_pos hi2]
        exact ⟨t, ht, rfl⟩
      · rw [if_neg hi2]
        exact b3 i (by omega)
    · simp only [q01, q02, q03, q04, q05, q06, q07, q08, q10, q12, q13, q14, q15, q16, q17, q18, q20, q21, q23, q24, q25, q26, q27, q28, q30, q31, q32, q34, q35, q36, q37, q38, q40, q41, q42, q43, q45, q46, q47, q48, q50, q51, q52, q53, q54, q56, q57, q58, q60, q61, q62, q63, q64, q65, q67, q68, q70, q71, q72, q73, q74, q75, q76, q78, q80, q81, q82, q83, q84, q85, q86, q87, w02, w12, w22, w03, w13, w23, w33, qm1, Int32.reduceLT, Int32.reduceLE, Int32.reduceAdd, Int32.reduceSub, Nat.reduceEqDiff, Nat.add_left_cancel_iff, false_and, true_and, and_false, and_true, and_self, if_true, if_false, uc_r, ug_r, uc2, ug1]
      exact b4
theorem Rel.fail (h : Rel e c m) (ht : t < g_nt e) {n : Nat} {x v w : Int32} (hn : n ≤ 400) (hr : m.1 21 t ≠ 0) (hx : ¬ x ≤ 0) (hno : ∃ q, m.1 5 0 = nI (n + q) ∧ n + q ≤ 400) :
    Rel e (uc (uc (uc (uc (uc (uc (uc (uc c 5 0 (nI n)) 14 t x) 15 t v) 32 t w) 17 t 0) 22 (3 * t + 0) 0) 22 (3 * t + 1) 0) 22 (3 * t + 2) 0) (uc (uc (uc (uc (uc (uc (uc (uc m 14 t x) 15 t v) 16 t (w + 1)) 5 0 (nI n)) 17 t 0) 22 (3 * t + 0) 0) 22 (3 * t + 1) 0) 22 (3 * t + 2) 0) := by
  have hx0 : x ≠ 0 := by
    rintro rfl
    exact hx (by decide)
  rw [uc_comm (c := c) (k := 5) (k' := 14) (by decide), uc_comm (k := 5) (k' := 15) (by decide), uc_comm (k := 5) (k' := 32) (by decide)]
  refine ⟨Sh.b (Sh.b (Sh.b (Sh.b (Sh.b (Sh.m (Sh.c h.1.b.b rfl) rfl))))), ?_, TT_set (t := t) h.2.2.1 ?_ ?_ ?_ ?_ (fun i hi => ?_) (fun t' ht' => by simp only [q01, q02, q03, q04, q05, q06, q07, q08, q10, q12, q13, q14, q15, q16, q17, q18, q20, q21, q23, q24, q25, q26, q27, q28, q30, q31, q32, q34, q35, q36, q37, q38, q40, q41, q42, q43, q45, q46, q47, q48, q50, q51, q52, q53, q54, q56, q57, q58, q60, q61, q62, q63, q64, q65, q67, q68, q70, q71, q72, q73, q74, q75, q76, q78, q80, q81, q82, q83, q84, q85, q86, q87, w02, w12, w22, w03, w13, w23, w33, qm1, Int32.reduceLT, Int32.reduceLE, Int32.reduceAdd, Int32.reduceSub, Nat.reduceEqDiff, Nat.add_left_cancel_iff, false_and, true_and, and_false, and_true, and_self, if_true, if_false, uc_r, ug_r, uc2, ug1, ht']) ht ?_, ?_⟩
  · refine RRx.c (RRx.c (RRx.c (RRx.c (RRx.c (RRx.c (RRx.c (RRx.c ?_ (by decide)) (by decide)) (by decide)) (by decide)) (by decide)) (by decide)) (by decide)) (by decide)
    exact RRx.m (RRx.m (RRx.m (RRx.m (RRx.m (RRx.m (RRx.m (RRx.m h.2.1 (by decide)) (by decide)) (by decide)) (by decide)) (by decide)) (by decide)) (by decide)) (by decide)
  · simp only [uc1]
    rw [up_ne (by decide), up_ne (by decide), up_ne (by decide), up_ne (by decide), up_ne (by decide), up_ne (by decide), up_ne (by decide), up_ne (by decide)]
  · simp only [uc1]
    rw [up_ne (by decide), up_ne (by decide), up_ne (by decide), up_ne (by decide), up_ne (by decide), up_ne (by decide), up_ne (by decide), up_ne (by decide)]
  · simp only [uc1]
    rw [up_ne (by decide), up_ne (by decide), up_ne (by decide), up_ne (by decide), up_ne (by decide), up_ne (by decide), up_ne (by decide), up_ne (by decide)]
  · simp only [uc1]
    rw [up_ne (by decide), up_ne (by decide), up_ne (by decide), up_ne (by decide), up_ne (by decide), up_ne (by decide), up_ne (by decide), up_ne (by decide)]
  · have h0 : ¬ i = 3 * t + 0 := by omega
    have h1 : ¬ i = 3 * t + 1 := by omega
    have h2 : ¬ i = 3 * t + 2 := by omega
    simp only [q01, q02, q03, q04, q05, q06, q07, q08, q10, q12, q13, q14, q15, q16, q17, q18, q20, q21, q23, q24, q25, q26, q27, q28, q30, q31, q32, q34, q35, q36, q37, q38, q40, q41, q42, q43, q45, q46, q47, q48, q50, q51, q52, q53, q54, q56, q57, q58, q60, q61, q62, q63, q64, q65, q67, q68, q70, q71, q72, q73, q74, q75, q76, q78, q80, q81, q82, q83, q84, q85, q86, q87, w02, w12, w22, w03, w13, w23, w33, qm1, Int32.reduceLT, Int32.reduceLE, Int32.reduceAdd, Int32.reduceSub, Nat.reduceEqDiff, Nat.add_left_cancel_iff, false_and, true_and, and_false, and_true, and_self, if_true, if_false, uc_r, ug_r, uc2, ug1, h0, h1, h2]
  · intro s' hs' hss hq
    obtain ⟨q1, q2, q3, q4, q5, q6, q7⟩ := hq
    simp only [q01, q02, q03, q04, q05, q06, q07, q08, q10, q12, q13, q14, q15, q16, q17, q18, q20, q21, q23, q24, q25, q26, q27, q28, q30, q31, q32, q34, q35, q36, q37, q38, q40, q41, q42, q43, q45, q46, q47, q48, q50, q51, q52, q53, q54, q56, q57, q58, q60, q61, q62, q63, q64, q65, q67, q68, q70, q71, q72, q73, q74, q75, q76, q78, q80, q81, q82, q83, q84, q85, q86, q87, w02, w12, w22, w03, w13, w23, w33, qm1, Int32.reduceLT, Int32.reduceLE, Int32.reduceAdd, Int32.reduceSub, Nat.reduceEqDiff, Nat.add_left_cancel_iff, false_and, true_and, and_false, and_true, and_self, if_true, if_false, uc_r, ug_r, uc2, ug1]
    exact ⟨q1, q2, q3, fun h => absurd h hr, fun h => absurd h hx0, fun _ => ⟨rfl, hx⟩, q7⟩
  · obtain ⟨⟨n', b1, b2, b3⟩, b4⟩ := h.2.2.2
    obtain ⟨q, hq1, hq2⟩ := hno
    have hnn : n' = n + q := by
      rw [b2, nI_eq (by omega) (by omega)] at hq1
      exact hq1
    refine ⟨⟨n, hn, ?_, fun i hi => ?_⟩, ?_⟩
    · simp only [q01, q02, q03, q04, q05, q06, q07, q08, q10, q12, q13, q14, q15, q16, q17, q18, q20, q21, q23, q24, q25, q26, q27, q28, q30, q31, q32, q34, q35, q36, q37, q38, q40, q41, q42, q43, q45, q46, q47, q48, q50, q51, q52, q53, q54, q56, q57, q58, q60, q61, q62, q63, q64, q65, q67, q68, q70, q71, q72, q73, q74, q75, q76, q78, q80, q81, q82, q83, q84, q85, q86, q87, w02, w12, w22, w03, w13, w23, w33, qm1, Int32.reduceLT, Int32.reduceLE, Int32.reduceAdd, Int32.reduceSub, Nat.reduceEqDiff, Nat.add_left_cancel_iff, false_and, true_and, and_false, and_true, and_self, if_true, if_false, uc_r, ug_r, uc2, ug1]
    · simp only [q01, q02, q03, q04, q05, q06, q07, q08, q10, q12, q13, q14, q15, q16, q17, q18, q20, q21, q23, q24, q25, q26, q27, q28, q30, q31, q32, q34, q35, q36, q37, q38, q40, q41, q42, q43, q45, q46, q47, q48, q50, q51, q52, q53, q54, q56, q57, q58, q60, q61, q62, q63, q64, q65, q67, q68, q70, q71, q72, q73, q74, q75, q76, q78, q80, q81, q82, q83, q84, q85, q86, q87, w02, w12, w22, w03, w13, w23, w33, qm1, Int32.reduceLT, Int32.reduceLE, Int32.reduceAdd, Int32.reduceSub, Nat.reduceEqDiff, Nat.add_left_cancel_iff, false_and, true_and, and_false, and_true, and_self, if_true, if_false, uc_r, ug_r, uc2, ug1]
      exact b3 i (by omega)
    · simp only [q01, q02, q03, q04, q05, q06, q07, q08, q10, q12, q13, q14, q15, q16, q17, q18, q20, q21, q23, q24, q25, q26, q27, q28, q30, q31, q32, q34, q35, q36, q37, q38, q40, q41, q42, q43, q45, q46, q47, q48, q50, q51, q52, q53, q54, q56, q57, q58, q60, q61, q62, q63, q64, q65, q67, q68, q70, q71, q72, q73, q74, q75, q76, q78, q80, q81, q82, q83, q84, q85, q86, q87, w02, w12, w22, w03, w13, w23, w33, qm1, Int32.reduceLT, Int32.reduceLE, Int32.reduceAdd, Int32.reduceSub, Nat.reduceEqDiff, Nat.add_left_cancel_iff, false_and, true_and, and_false, and_true, and_self, if_true, if_false, uc_r, ug_r, uc2, ug1]
      exact b4
/-- a step -/
theorem L_step (h : Rel e c m) (ht : t < g_nt e) : ∃ c' m' b, (∀ X, f_X0_takesStep (g_h e) (some (g_ta e t)) (WW e c X) = some (b, WW e c' X)) ∧ (∀ Y, f_X3_step (g_ar e 6) (nI t) (WW e Y m) = some (b, WW e Y m')) ∧ Rel e c' m' ∧ ((b = 0 ∧ c' = c ∧ m' = m) ∨ (b = 1 ∧ ∃ v, c' = uc c 18 t v ∧ m' = uc m 18 t v)) := by
  have h40 := g_nt40 e
  obtain ⟨s, hs, hm1, -, -, -, -, -, -, d, hd, hm18⟩ := h.tq ht
  have hc1 : c.1 1 0 = nI s := (h.sh 1 rfl 0).trans hm1
  have hc18 : c.1 18 t = nI d := (h.sh 18 rfl t).trans hm18
  by_cases hds : d < s
  · refine ⟨uc c 18 t (nI (d + 1)), uc m 18 t (nI (d + 1)), 1, fun X => ?_, fun Y => ?_, h.step ht hm1 hs (by omega), Or.inr ⟨rfl, _, rfl, rfl⟩⟩
    · simp (disch := omega) only [f_X0_takesStep, Option.bind_some, xt7, xh0, hc1, hc18, if_pos (nI_lt hds (show s < 2 ^ 31 by omega)), yt7, nI_1]
    · have hne : ¬ nI d = nI s := fun hh => absurd ((nI_eq (by omega) (by omega)).mp hh) (by omega)
      simp (disch := omega) only [f_X3_step, Option.bind_some, xm18, xi18, xm1, hm1, hm18, if_neg hne, yi18, nI_1]
  · have hde : d = s := by omega
    subst hde
    refine ⟨c, m, 0, fun X => ?_, fun Y => ?_, h, Or.inl ⟨rfl, rfl, rfl⟩⟩
    · simp (disch := omega) only [f_X0_takesStep, Option.bind_some, xt7, xh0, hc1, hc18, if_neg (nI_nlt (Nat.le_refl d) (show d < 2 ^ 31 by omega))]
    · simp (disch := omega) only [f_X3_step, Option.bind_some, xm18, xi18, xm1, hm1, hm18, if_true]
theorem fail2_loop (ht : t < g_nt e) (f : Nat) (x v w : Int32) (X : CS) : f_X2_fail_L23 (f + 4) 0 (g_ta e t) x v w (WW e c X) = some ((), WW e (uc (uc (uc c 22 (3 * t + 0) 0) 22 (3 * t + 1) 0) 22 (3 * t + 2) 0) X) := by
  simp (disch := omega) only [f_X2_fail_L23, q01, q02, q03, q04, q05, q06, q07, q08, q10, q12, q13, q14, q15, q16, q17, q18, q20, q21, q23, q24, q25, q26, q27, q28, q30, q31, q32, q34, q35, q36, q37, q38, q40, q41, q42, q43, q45, q46, q47, q48, q50, q51, q52, q53, q54, q56, q57, q58, q60, q61, q62, q63, q64, q65, q67, q68, q70, q71, q72, q73, q74, q75, q76, q78, q80, q81, q82, q83, q84, q85, q86, q87, w02, w12, w22, w03, w13, w23, w33, qm1, Int32.reduceLT, Int32.reduceLE, Int32.reduceAdd, Int32.reduceSub, Nat.reduceEqDiff, Nat.add_left_cancel_iff, false_and, true_and, and_false, and_true, and_self, if_true, if_false, uc_r, ug_r, uc2, ug1, Option.bind_some, xt4, ys0, ys1, ys2]
theorem fail3_loop (ht : t < g_nt e) (f : Nat) (x v w : Int32) (Y : CS) : f_X3_fail_L49 (f + 4) 0 (g_ar e 6) (nI t) x v w (WW e Y m) = some ((), WW e Y (uc (uc (uc m 22 (3 * t + 0) 0) 22 (3 * t + 1) 0) 22 (3 * t + 2) 0)) := by
  have h40 := g_nt40 e
  simp (disch := omega) only [f_X3_fail_L49, q01, q02, q03, q04, q05, q06, q07, q08, q10, q12, q13, q14, q15, q16, q17, q18, q20, q21, q23, q24, q25, q26, q27, q28, q30, q31, q32, q34, q35, q36, q37, q38, q40, q41, q42, q43, q45, q46, q47, q48, q50, q51, q52, q53, q54, q56, q57, q58, q60, q61, q62, q63, q64, q65, q67, q68, q70, q71, q72, q73, q74, q75, q76, q78, q80, q81, q82, q83, q84, q85, q86, q87, w02, w12, w22, w03, w13, w23, w33, qm1, Int32.reduceLT, Int32.reduceLE, Int32.reduceAdd, Int32.reduceSub, Nat.reduceEqDiff, Nat.add_left_cancel_iff, false_and, true_and, and_false, and_true, and_self, if_true, if_false, uc_r, ug_r, uc2, ug1, Option.bind_some, xm22, i3_0, i3_1, i3_2, yi22]
theorem L_fail (h : Rel e c m) (ht : t < g_nt e) {n q : Nat} {x v w : Int32} (P : Nat) (hr : m.1 21 t ≠ 0) (hx : ¬ x ≤ 0) (h17 : m.1 17 t = nI q) (h5 : m.1 5 0 = nI (n + q)) (hn : n + q ≤ 400) :
    ∃ c' m', (∀ X, f_X2_fail (g_ta e t) x v w (WW e (uc c 5 0 (nI n)) X) = some ((), WW e c' X)) ∧ (∀ Y, f_X3_fail (g_ar e 6) (nI t) x v w (WW e Y m) = some ((), WW e Y m')) ∧ Rel e c' m' ∧ FrT t P c m c' m' ∧ m'.1 21 t = m.1 21 t ∧ m'.1 14 t = x := by
  have h40 := g_nt40 e
  refine ⟨_, _, fun X => ?_, fun Y => ?_, h.fail ht (n := n) (x := x) (v := v) (w := w) (by omega) hr hx ⟨q, h5, hn⟩, ?_, ?_, ?_⟩
  · have hl := fail2_loop (c := uc (uc (uc (uc (uc c 5 0 (nI n)) 14 t x) 15 t v) 32 t w) 17 t 0) ht 60 x v w X
    simp (disch := omega) only [f_X2_fail, Option.bind_some, yt9, yt10, yt11, yt8]
    exact hl
  · have hsub : nI (n + q) - nI q = nI n := by
      rw [pk_sub (by omega), Nat.add_sub_cancel]
    have hl := fail3_loop (m := uc (uc (uc (uc (uc m 14 t x) 15 t v) 16 t (w + 1)) 5 0 (nI n)) 17 t 0) ht 60 x v w Y
    simp (disch := omega) only [f_X3_fail, Option.bind_some, xm14, yi14, xm15, yi15, xm16, yi16, xm5, xm17, xi17, ym5, yi17, q01, q02, q03, q04, q05, q06, q07, q08, q10, q12, q13, q14, q15, q16, q17, q18, q20, q21, q23, q24, q25, q26, q27, q28, q30, q31, q32, q34, q35, q36, q37, q38, q40, q41, q42, q43, q45, q46, q47, q48, q50, q51, q52, q53, q54, q56, q57, q58, q60, q61, q62, q63, q64, q65, q67, q68, q70, q71, q72, q73, q74, q75, q76, q78, q80, q81, q82, q83, q84, q85, q86, q87, w02, w12, w22, w03, w13, w23, w33, qm1, Int32.reduceLT, Int32.reduceLE, Int32.reduceAdd, Int32.reduceSub, Nat.reduceEqDiff, Nat.add_left_cancel_iff, false_and, true_and, and_false, and_true, and_self, if_true, if_false, uc_r, ug_r, uc2, ug1, h5, h17, hsub]
    exact hl
  · refine FrT.m (FrT.m (FrT.m (FrT.m (FrT.m (FrT.m (FrT.m (FrT.m (FrT.c (FrT.c (FrT.c (FrT.c (FrT.c (FrT.c (FrT.c (FrT.c (FrT.refl t P c m) ?_) ?_) ?_) ?_) ?_) ?_) ?_) ?_) rfl ?_ ?_ ?_) rfl ?_ ?_ ?_) rfl ?_ ?_ ?_) rfl ?_ ?_ ?_) rfl ?_ ?_ ?_) rfl ?_ ?_ ?_) rfl ?_ ?_ ?_) rfl ?_ ?_ ?_ <;> omega
  · simp only [q01, q02, q03, q04, q05, q06, q07, q08, q10, q12, q13, q14, q15, q16, q17, q18, q20, q21, q23, q24, q25, q26, q27, q28, q30, q31, q32, q34, q35, q36, q37, q38, q40, q41, q42, q43, q45, q46, q47, q48, q50, q51, q52, q53, q54, q56, q57, q58, q60, q61, q62, q63, q64, q65, q67, q68, q70, q71, q72, q73, q74, q75, q76, q78, q80, q81, q82, q83, q84, q85, q86, q87, w02, w12, w22, w03, w13, w23, w33, qm1, Int32.reduceLT, Int32.reduceLE, Int32.reduceAdd, Int32.reduceSub, Nat.reduceEqDiff, Nat.add_left_cancel_iff, false_and, true_and, and_false, and_true, and_self, if_true, if_false, uc_r, ug_r, uc2, ug1]
  · simp only [q01, q02, q03, q04, q05, q06, q07, q08, q10, q12, q13, q14, q15, q16, q17, q18, q20, q21, q23, q24, q25, q26, q27, q28, q30, q31, q32, q34, q35, q36, q37, q38, q40, q41, q42, q43, q45, q46, q47, q48, q50, q51, q52, q53, q54, q56, q57, q58, q60, q61, q62, q63, q64, q65, q67, q68, q70, q71, q72, q73, q74, q75, q76, q78, q80, q81, q82, q83, q84, q85, q86, q87, w02, w12, w22, w03, w13, w23, w33, qm1, Int32.reduceLT, Int32.reduceLE, Int32.reduceAdd, Int32.reduceSub, Nat.reduceEqDiff, Nat.add_left_cancel_iff, false_and, true_and, and_false, and_true, and_self, if_true, if_false, uc_r, ug_r, uc2, ug1]
end MICRO
