/-! ===== a class is made ===== -/
theorem nI_neg1 {j : Nat} (h : j < 2 ^ 31) : nI j ≠ -1 := by
  intro h1
  have h2 := nI_toInt h
  rw [h1] at h2
  have h3 : (-1 : Int32).toInt = -1 := by decide
  omega
theorem m_z0 : m_z 0 = some 0 := by decide
theorem m_z1 : m_z 1 = some 1 := by decide
/-- what making leaves alone -/
def FrM (c m c' m' : CS) : Prop := (∀ k, k ≠ 30 → k ≠ 31 → k ≠ 3 → c'.1 k = c.1 k) ∧ (∀ k, k ≠ 9 → k ≠ 3 → m'.1 k = m.1 k) ∧ ∀ i, m.1 9 i ≠ -1 → m'.1 9 i = m.1 9 i
theorem FrM.refl (c m : CS) : FrM c m c m := ⟨fun _ _ _ _ => rfl, fun _ _ _ => rfl, fun _ _ => rfl⟩
def g_bump (e : GE) : GE := ⟨(e.1.1 + 1, e.1.2), by
  obtain ⟨a1, a2, a3, a4, a5, a6, a7⟩ := e.2
  exact ⟨a1, a2, a3, a4, a5, fun a ha => a6 a (Nat.le_of_succ_le ha), a7⟩⟩
theorem WW_bump (e : GE) (c m : CS) : ((WW e c m).1 + 1, (WW e c m).2.1, (WW e c m).2.2) = WW (g_bump e) c m := rfl
theorem Rel.bump {e : GE} {c m : CS} (h : Rel e c m) : Rel (g_bump e) c m := h
section MADE
variable {e : GE} {c m : CS}
theorem R_made {r : Nat} (hr : r < g_nr e) (h : RRx e c m) : (c.1 30 (g_cr e r) = 0 ∧ m.1 9 (g_cr e r) = -1 ∧ c.2 0 (g_cr e r) = 0) ∨ (c.1 30 (g_cr e r) = 1 ∧ m.1 10 (g_cr e r) = 0 ∧ ∃ j, j < 16 ∧ j < cnt (m.1 9) (g_nr e) ∧ m.1 9 (g_cr e r) = nI j ∧ c.1 31 (g_cr e r) = nI j ∧ c.2 0 (g_cr e r) = m.2 0 j) := h.2.2.2.2.2.1 r hr
theorem classOf_made {r j : Nat} (hr : r < g_nr e) (h : RRx e c m) (hj : j < 16) (h1 : m.1 10 (g_cr e r) = 0) (h2 : m.1 9 (g_cr e r) = nI j) (Y : CS) : f_X3_classOf (g_ar e 6) (nI r) (WW e Y m) = some (nI j, WW e Y m) := by
  have h16 := g_nr16 e
  have hcr := g_crr e hr
  simp (disch := omega) only [f_X3_classOf, zm, Option.bind_some, f_firstOf hr h, m_bS, xm10, xi10, h1, if_true, xm9, xi9, h2, if_neg (nI_neg1 (show j < 2 ^ 31 by omega))]
theorem classOf_make {r n : Nat} (hr : r < g_nr e) (h : RRx e c m) (h0 : m.1 10 (g_cr e r) = 0) (b2 : m.1 9 (g_cr e r) = -1) (hn : m.1 3 0 = nI n) (hn16 : n < 16) (Y : CS) : f_X3_classOf (g_ar e 6) (nI r) (WW e Y m) = some (nI n, WW e Y (uc (ug (uc m 9 (g_cr e r) (nI n)) 0 n 0) 3 0 (nI n + 1))) := by
  have h16 := g_nr16 e
  have hcr := g_crr e hr
  simp (disch := omega) only [f_X3_classOf, zm, Option.bind_some, f_firstOf hr h, m_bS, xm10, xi10, h0, if_true, xm9, xi9, b2, xm3, yi9, ug1, uc_r, Nat.reduceEqDiff, false_and, true_and, and_self, if_false, hn, xm11, yi11, ym3]
theorem classOf_no {r : Nat} (hr : r < g_nr e) (h : RRx e c m) (h0 : m.1 10 (g_cr e r) = 1) (Y : CS) : f_X3_classOf (g_ar e 6) (nI r) (WW e Y m) = some (-1, WW e Y m) := by
  have h16 := g_nr16 e
  have hcr := g_crr e hr
  have h10 : ¬ (1 : Int32) = 0 := by decide
  simp (disch := omega) only [f_X3_classOf, zm, Option.bind_some, f_firstOf hr h, m_bS, xm10, xi10, h0, if_neg h10]
theorem RR_make {r n : Nat} (hr : r < g_nr e) (h : RRx e c m) (h0 : m.1 9 (g_cr e r) = -1) (h1 : m.1 10 (g_cr e r) = 0) (hg : c.2 0 (g_cr e r) = 0) (hn : n = cnt (m.1 9) (g_nr e)) :
    RRx e (uc (uc (uc c 30 (g_cr e r) 1) 31 (g_cr e r) (nI n)) 3 0 (nI n + 1)) (uc (ug (uc m 9 (g_cr e r) (nI n)) 0 n 0) 3 0 (nI n + 1)) := by
  have h16 := g_nr16 e
  have hcr := g_crr e hr
  obtain ⟨a1, a2, a3, a4, a5, a6, a7, a8, a9⟩ := h
  have hcc := a2 r hr
  have hlt : cnt (m.1 9) (g_nr e) < g_nr e := cnt_lt h0 _ (by omega)
  have hm : ∀ i, (uc (ug (uc m 9 (g_cr e r) (nI n)) 0 n 0) 3 0 (nI n + 1)).1 9 i = if i = g_cr e r then nI n else m.1 9 i := by
    intro i
    simp only [uc_r, ug1, Nat.reduceEqDiff, false_and, true_and, if_false]
  have hcn : cnt ((uc (ug (uc m 9 (g_cr e r) (nI n)) 0 n 0) 3 0 (nI n + 1)).1 9) (g_nr e) = n + 1 := by
    refine (cnt_up h0 ?_ ?_ _ (by omega)).trans (by omega)
    · rw [hm, if_pos rfl]
      exact nI_neg1 (by omega)
    · intro i hi
      rw [hm, if_neg hi]
  have hlead : ∀ s, s < g_nr e → m.1 9 s ≠ -1 → ∃ j, j < n ∧ m.1 9 s = nI j := by
    intro s hs hne
    have hcs : g_cr e s = s := Classical.byContradiction fun hc => hne (a8 s hs hc)
    rcases a6 s hs with b | b
    · rw [hcs] at b
      exact absurd b.2.1 hne
    · obtain ⟨-, -, j, -, b2, b3, -⟩ := b
      rw [hcs] at b3
      exact ⟨j, by omega, b3⟩
  refine ⟨a1, a2, a3, a4, a5, ?_, ?_, ?_, ?_⟩
  · intro s hs
    rw [hcn]
    by_cases hq : g_cr e s = g_cr e r
    · refine Or.inr ⟨?_, ?_, n, by omega, by omega, ?_, ?_, ?_⟩
      · rw [hq]
        simp only [uc_r, Nat.reduceEqDiff, false_and, true_and, if_false, if_true, and_self]
      · rw [hq]
        exact h1
      · rw [hm, if_pos hq]
      · rw [hq]
        simp only [uc_r, Nat.reduceEqDiff, false_and, true_and, if_false, if_true, and_self]
      · rw [hq]
        show c.2 0 (g_cr e r) = (if 0 = 0 ∧ n = n then 0 else m.2 0 n)
        rw [if_pos ⟨rfl, rfl⟩, hg]
    · have e1 : ∀ k v, k = 30 ∨ k = 31 → (uc (uc (uc c 30 (g_cr e r) 1) 31 (g_cr e r) (nI n)) 3 0 v).1 k (g_cr e s) = c.1 k (g_cr e s) := by
        intro k v hk
        rcases hk with rfl | rfl <;> simp only [uc_r, hq, Nat.reduceEqDiff, and_false, false_and, if_false]
      rw [e1 30 _ (Or.inl rfl), e1 31 _ (Or.inr rfl), hm, if_neg hq]
      rcases a6 s hs with b | b
      · exact Or.inl b
      · obtain ⟨b1, b1', j, b2, b3, b4, b5, b6⟩ := b
        refine Or.inr ⟨b1, b1', j, b2, by omega, b4, b5, ?_⟩
        show c.2 0 (g_cr e s) = (if 0 = 0 ∧ j = n then 0 else m.2 0 j)
        rw [if_neg (by omega)]
        exact b6
  · intro s s' hs hs' he hne
    rw [hm] at he hne
    rw [hm] at he
    by_cases q1 : s = g_cr e r
    · by_cases q2 : s' = g_cr e r
      · rw [q1, q2]
      · rw [if_pos q1, if_neg q2] at he
        obtain ⟨j, hj, hj2⟩ := hlead s' hs' (by rw [← he]; exact nI_neg1 (by omega))
        rw [hj2, nI_eq (by omega) (by omega)] at he
        omega
    · rw [if_neg q1] at he hne
      by_cases q2 : s' = g_cr e r
      · rw [if_pos q2] at he
        obtain ⟨j, hj, hj2⟩ := hlead s hs hne
        rw [hj2, nI_eq (by omega) (by omega)] at he
        omega
      · rw [if_neg q2] at he
        exact a7 s s' hs hs' he hne
  · intro s hs hc
    rw [hm, if_neg (by rintro rfl; exact hc hcc)]
    exact a8 s hs hc
  · rw [hcn, ← nI_1]
    simp only [uc_r, and_self, if_true]
theorem L_made {r : Nat} (hr : r < g_nr e) (h : Rel e c m) : ∃ c' m' a b, (∀ X, f_X0_ensureMade (g_h e) (some (g_ca e r)) (WW e c X) = some (a, WW e c' X)) ∧ (∀ Y, f_X3_classOf (g_ar e 6) (nI r) (WW e Y m) = some (b, WW e Y m')) ∧ (∀ Y, f_X3_classOf (g_ar (g_bump e) 6) (nI r) (WW (g_bump e) Y m) = some (b, WW (g_bump e) Y m')) ∧ Rel e c' m' ∧ FrM c m c' m' ∧
    ((a = 0 ∧ b = -1) ∨ (a = 1 ∧ ∃ j, j < 16 ∧ b = nI j ∧ c'.1 31 (g_cr e r) = nI j ∧ m'.1 9 (g_cr e r) = nI j ∧ m'.1 10 (g_cr e r) = 0 ∧ c'.2 0 (g_cr e r) = m'.2 0 j)) := by
  have h16 := g_nr16 e
  have hcr := g_crr e hr
  have hr10 := h.2.1.2.2.2.2.1 r hr
  rcases R_made hr h.2.1 with b | b
  · obtain ⟨b1, b2, b3⟩ := b
    rcases hr10.2 with h0 | h0
    · have hc0 : c.1 10 (g_cr e r) = 0 := hr10.1.trans h0
      have hlt : cnt (m.1 9) (g_nr e) < g_nr e := cnt_lt b2 _ (by omega)
      have hn : m.1 3 0 = nI (cnt (m.1 9) (g_nr e)) := h.2.1.2.2.2.2.2.2.2.2
      have hcn : c.1 3 0 = nI (cnt (m.1 9) (g_nr e)) := (h.sh 3 rfl 0).trans hn
      refine ⟨uc (uc (uc c 30 (g_cr e r) 1) 31 (g_cr e r) (nI (cnt (m.1 9) (g_nr e)))) 3 0 (nI (cnt (m.1 9) (g_nr e)) + 1), uc (ug (uc m 9 (g_cr e r) (nI (cnt (m.1 9) (g_nr e)))) 0 (cnt (m.1 9) (g_nr e)) 0) 3 0 (nI (cnt (m.1 9) (g_nr e)) + 1), 1, nI (cnt (m.1 9) (g_nr e)), fun X => ?_, fun Y => classOf_make hr h.2.1 h0 b2 hn (by omega) Y, fun Y => classOf_make (e := g_bump e) hr h.bump.2.1 h0 b2 hn (Nat.lt_of_lt_of_le hlt h16) Y, ⟨?_, ?_, ?_, ?_⟩, ⟨?_, ?_, ?_⟩, ?_⟩
      · simp (disch := omega) only [f_X0_ensureMade, Option.bind_some, xc2, xc3, xc4, xh3, yc3, yc4, yh3, b1, hc0, if_true, uc_r, Nat.reduceEqDiff, false_and, true_and, and_self, if_false, hcn, m_z1]
      · exact ((h.1.c rfl).c rfl).m rfl |>.gm |>.b
      · exact RR_make hr h.2.1 b2 h0 b3 rfl
      · exact ((((h.2.2.1.c (by decide)).c (by decide)).c (by decide)).m (k := 9) (by decide)).m (by decide)
      · exact (h.2.2.2.m (k := 9) (by decide)).m (by decide)
      · intro k k1 k2 k3
        simp only [uc1, up_ne k1, up_ne k2, up_ne k3]
      · intro k k1 k2
        simp only [uc1, ug1, up_ne k1, up_ne k2]
      · intro i hi
        simp only [uc_r, ug1, Nat.reduceEqDiff, false_and, true_and, if_false]
        rw [if_neg]
        rintro rfl
        exact hi b2
      · refine Or.inr ⟨rfl, _, by omega, rfl, ?_, ?_, ?_, ?_⟩
        · simp only [uc_r, Nat.reduceEqDiff, false_and, true_and, if_false, if_true, and_self]
        · simp only [uc_r, ug1, Nat.reduceEqDiff, false_and, true_and, if_false, if_true, and_self]
        · exact h0
        · show c.2 0 (g_cr e r) = (if _ ∧ _ then _ else _)
          rw [if_pos ⟨rfl, rfl⟩]
          exact b3
    · have hc0 : c.1 10 (g_cr e r) = 1 := hr10.1.trans h0
      refine ⟨c, m, 0, -1, fun X => ?_, fun Y => classOf_no hr h.2.1 h0 Y, fun Y => classOf_no (e := g_bump e) hr h.bump.2.1 h0 Y, h, FrM.refl c m, Or.inl ⟨rfl, rfl⟩⟩
      · have h10 : ¬ (1 : Int32) = 0 := by decide
        simp (disch := omega) only [f_X0_ensureMade, Option.bind_some, xc2, xc3, b1, hc0, if_true, if_neg h10, m_z0]
  · obtain ⟨b1, b2, j, b3, b4, b5, b6, b7⟩ := b
    refine ⟨c, m, 1, nI j, fun X => ?_, fun Y => classOf_made hr h.2.1 b3 b2 b5 Y, fun Y => classOf_made (e := g_bump e) hr h.bump.2.1 b3 b2 b5 Y, h, FrM.refl c m, Or.inr ⟨rfl, j, b3, rfl, b6, b5, b2, b7⟩⟩
    have h10 : ¬ (1 : Int32) = 0 := by decide
    simp (disch := omega) only [f_X0_ensureMade, Option.bind_some, xc3, b1, if_neg h10, m_z1]
end MADE
