/-! ===== what both sides hold ===== -/
section UPS
variable {α : Type} {F : Nat → Nat → α} {k i k' i' : Nat} {v : α}
theorem up_ne (h : k' ≠ k) : up F k i v k' = F k' := by
  funext j
  simp only [up, h, false_and, if_false]
theorem up_eq : up F k i v k i = v := by simp only [up, and_self, if_true]
theorem up_ni (h : i' ≠ i) : up F k i v k' i' = F k' i' := by simp only [up, h, and_false, if_false]
end UPS
section UCS
variable {c : CS} {k i k' i' : Nat} {v : Int32} {w : Int64}
theorem uc1 : (uc c k i v).1 = up c.1 k i v := rfl
theorem ug2 : (ug c k i w).2 = up c.2 k i w := rfl
end UCS
/-- how many of the first n have a number -/
def cnt (f : Nat → Int32) : Nat → Nat
  | 0 => 0
  | n + 1 => cnt f n + (if f n = -1 then 0 else 1)
theorem cnt_le (f : Nat → Int32) : ∀ n, cnt f n ≤ n := by
  intro n
  induction n with
  | zero => exact Nat.le_refl _
  | succ n ih =>
    unfold cnt
    split <;> omega
theorem cnt_lt {f : Nat → Int32} {r : Nat} (h : f r = -1) : ∀ n, r < n → cnt f n < n := by
  intro n
  induction n with
  | zero => intro h; omega
  | succ n ih =>
    intro hr
    unfold cnt
    by_cases hrn : r = n
    · subst hrn
      rw [if_pos h]
      have := cnt_le f r
      omega
    · have := ih (by omega)
      split <;> omega
theorem cnt_congr {f g : Nat → Int32} : ∀ n, (∀ i, i < n → f i = g i) → cnt f n = cnt g n := by
  intro n
  induction n with
  | zero => intro _; rfl
  | succ n ih =>
    intro h
    unfold cnt
    rw [ih (fun i hi => h i (by omega)), h n (by omega)]
theorem cnt_up {f g : Nat → Int32} {r : Nat} (h : f r = -1) (hg : g r ≠ -1) (ho : ∀ i, i ≠ r → g i = f i) : ∀ n, r < n → cnt g n = cnt f n + 1 := by
  intro n
  induction n with
  | zero => intro h; omega
  | succ n ih =>
    intro hr
    unfold cnt
    by_cases hrn : r = n
    · subst hrn
      rw [if_pos h, if_neg hg, cnt_congr r (fun i hi => ho i (by omega))]
    · rw [ih (by omega), ho n (by omega)]
      omega
def shb (k : Nat) : Bool := k == 1 || k == 2 || k == 3 || k == 4 || k == 5 || k == 6 || k == 13 || k == 14 || k == 15 || k == 17 || k == 18 || k == 20 || k == 21 || k == 22 || k == 23 || k == 24
/-- the numbers that both sides hold alike -/
def Sh (c m : CS) : Prop := ∀ k, shb k = true → c.1 k = m.1 k
theorem Sh.b {c m : CS} {k i : Nat} {v : Int32} (h : Sh c m) : Sh (uc c k i v) (uc m k i v) := by
  intro k' hk
  rw [uc1, uc1]
  by_cases hkk : k' = k
  · subst hkk
    funext j
    simp only [up, h k' hk]
  · rw [up_ne hkk, up_ne hkk, h k' hk]
theorem Sh.c {c m : CS} {k i : Nat} {v : Int32} (h : Sh c m) (hk : shb k = false) : Sh (uc c k i v) m := by
  intro k' hk'
  rw [uc1, up_ne, h k' hk']
  rintro rfl
  rw [hk] at hk'
  cases hk'
theorem Sh.m {c m : CS} {k i : Nat} {v : Int32} (h : Sh c m) (hk : shb k = false) : Sh c (uc m k i v) := by
  intro k' hk'
  rw [uc1, up_ne, h k' hk']
  rintro rfl
  rw [hk] at hk'
  cases hk'
theorem Sh.gc {c m : CS} {k i : Nat} {v : Int64} (h : Sh c m) : Sh (ug c k i v) m := h
theorem Sh.gm {c m : CS} {k i : Nat} {v : Int64} (h : Sh c m) : Sh c (ug m k i v) := h
/-- rules and classes -/
def RR (e : GE) (c7 c8 c10 c30 c31 : Nat → Int32) (cg : Nat → Int64) (m2 m3 m7 m8 m9 m10 : Nat → Int32) (mg : Nat → Int64) : Prop :=
  m2 0 = nI (g_nr e) ∧
  (∀ r, r < g_nr e → g_cr e (g_cr e r) = g_cr e r) ∧
  (∀ r, r < g_nr e → c7 (g_cr e r) = m7 r ∧ c8 (g_cr e r) = m8 r ∧ ∃ d, d < 256 ∧ m8 r = nI d) ∧
  (∀ r s, r < g_nr e → s < g_nr e → m7 r = m7 s → m8 r = m8 s → g_cr e r = g_cr e s) ∧
  (∀ r, r < g_nr e → c10 (g_cr e r) = m10 (g_cr e r) ∧ (m10 (g_cr e r) = 0 ∨ m10 (g_cr e r) = 1)) ∧
  (∀ r, r < g_nr e → (c30 (g_cr e r) = 0 ∧ m9 (g_cr e r) = -1 ∧ cg (g_cr e r) = 0) ∨ (c30 (g_cr e r) = 1 ∧ m10 (g_cr e r) = 0 ∧ ∃ j, j < 16 ∧ j < cnt m9 (g_nr e) ∧ m9 (g_cr e r) = nI j ∧ c31 (g_cr e r) = nI j ∧ cg (g_cr e r) = mg j)) ∧
  (∀ r s, r < g_nr e → s < g_nr e → m9 r = m9 s → m9 r ≠ -1 → r = s) ∧
  (∀ r, r < g_nr e → g_cr e r ≠ r → m9 r = -1) ∧
  m3 0 = nI (cnt m9 (g_nr e))
def RRx (e : GE) (c m : CS) : Prop := RR e (c.1 7) (c.1 8) (c.1 10) (c.1 30) (c.1 31) (c.2 0) (m.1 2) (m.1 3) (m.1 7) (m.1 8) (m.1 9) (m.1 10) (m.2 0)
theorem RRx.c {e : GE} {c m : CS} {k i : Nat} {v : Int32} (h : RRx e c m) (hk : k ≠ 7 ∧ k ≠ 8 ∧ k ≠ 10 ∧ k ≠ 30 ∧ k ≠ 31) : RRx e (uc c k i v) m := by
  unfold RRx at *
  rw [uc1, uc2, up_ne hk.1.symm, up_ne hk.2.1.symm, up_ne hk.2.2.1.symm, up_ne hk.2.2.2.1.symm, up_ne hk.2.2.2.2.symm]
  exact h
theorem RRx.m {e : GE} {c m : CS} {k i : Nat} {v : Int32} (h : RRx e c m) (hk : k ≠ 2 ∧ k ≠ 3 ∧ k ≠ 7 ∧ k ≠ 8 ∧ k ≠ 9 ∧ k ≠ 10) : RRx e c (uc m k i v) := by
  unfold RRx at *
  rw [uc1, uc2, up_ne hk.1.symm, up_ne hk.2.1.symm, up_ne hk.2.2.1.symm, up_ne hk.2.2.2.1.symm, up_ne hk.2.2.2.2.1.symm, up_ne hk.2.2.2.2.2.symm]
  exact h
/-- one target -/
def TQ (s t r : Nat) (m12 a0 a2 m14 m15 m16 m17 m18 m21 c32 c33 : Int32) : Prop :=
  m12 = nI r ∧ (∃ d, d ≤ 20 ∧ a0 = nI d) ∧ (∃ d, d ≤ t ∧ a2 = nI d) ∧
  (m21 = 0 → m17 = 0 ∧ m14 = 0 ∧ c33 = 0) ∧
  (m14 = 0 → m15 = 0 ∧ m16 = 0) ∧ (m14 ≠ 0 → m16 = c32 + 1 ∧ ¬ m14 ≤ 0) ∧ ∃ d, d ≤ s ∧ m18 = nI d
def TT (e : GE) (m1 m4 m12 m13 m14 m15 m16 m17 m18 m20 m21 m22 c32 c33 : Nat → Int32) : Prop :=
  m4 0 = nI (g_nt e) ∧
  (∃ s, s ≤ 65536 ∧ m1 0 = nI s ∧ ∀ t, t < g_nt e → TQ s t (g_rl e t) (m12 t) (m13 (4 * t + 0)) (m13 (4 * t + 2)) (m14 t) (m15 t) (m16 t) (m17 t) (m18 t) (m21 t) (c32 t) (c33 t)) ∧
  (∀ t, g_nt e ≤ t → m14 t = 0 ∧ m15 t = 0 ∧ m16 t = 0 ∧ m17 t = 0 ∧ m18 t = 0 ∧ m21 t = 0 ∧ c32 t = 0 ∧ c33 t = 0) ∧
  (∀ i, 4 * g_nt e ≤ i → m13 i = 0) ∧ (∀ i, 3 * g_nt e ≤ i → m20 i = 0 ∧ m22 i = 0)
def TTx (e : GE) (c m : CS) : Prop := TT e (m.1 1) (m.1 4) (m.1 12) (m.1 13) (m.1 14) (m.1 15) (m.1 16) (m.1 17) (m.1 18) (m.1 20) (m.1 21) (m.1 22) (c.1 32) (c.1 33)
theorem TTx.c {e : GE} {c m : CS} {k i : Nat} {v : Int32} (h : TTx e c m) (hk : k ≠ 32 ∧ k ≠ 33) : TTx e (uc c k i v) m := by
  unfold TTx at *
  rw [uc1, up_ne hk.1.symm, up_ne hk.2.symm]
  exact h
theorem TTx.m {e : GE} {c m : CS} {k i : Nat} {v : Int32} (h : TTx e c m) (hk : k ≠ 1 ∧ k ≠ 4 ∧ k ≠ 12 ∧ k ≠ 13 ∧ k ≠ 14 ∧ k ≠ 15 ∧ k ≠ 16 ∧ k ≠ 17 ∧ k ≠ 18 ∧ k ≠ 20 ∧ k ≠ 21 ∧ k ≠ 22) : TTx e c (uc m k i v) := by
  unfold TTx at *
  obtain ⟨h1, h2, h3, h4, h5, h6, h7, h8, h9, h10, h11, h12⟩ := hk
  rw [uc1, up_ne h1.symm, up_ne h2.symm, up_ne h3.symm, up_ne h4.symm, up_ne h5.symm, up_ne h6.symm, up_ne h7.symm, up_ne h8.symm, up_ne h9.symm, up_ne h10.symm, up_ne h11.symm, up_ne h12.symm]
  exact h
/-- actions and handles -/
def AA (e : GE) (m5 m6 m23 : Nat → Int32) : Prop := (∃ n, n ≤ 400 ∧ m5 0 = nI n ∧ ∀ i, i < n → ∃ t, t < g_nt e ∧ m23 i = nI t) ∧ ∃ n, n ≤ 40 ∧ m6 0 = nI n
def AAx (e : GE) (m : CS) : Prop := AA e (m.1 5) (m.1 6) (m.1 23)
theorem AAx.m {e : GE} {m : CS} {k i : Nat} {v : Int32} (h : AAx e m) (hk : k ≠ 5 ∧ k ≠ 6 ∧ k ≠ 23) : AAx e (uc m k i v) := by
  unfold AAx at *
  rw [uc1, up_ne hk.1.symm, up_ne hk.2.1.symm, up_ne hk.2.2.symm]
  exact h
def Rel (e : GE) (c m : CS) : Prop := Sh c m ∧ RRx e c m ∧ TTx e c m ∧ AAx e m
theorem Rel.sh {e : GE} {c m : CS} (h : Rel e c m) (k : Nat) (hk : shb k = true) (i : Nat) : c.1 k i = m.1 k i := by rw [h.1 k hk]
/-- numbers that nothing depends on -/
theorem Rel.mx {e : GE} {c m : CS} {k i : Nat} {v : Int32} (h : Rel e c m) (hk : k = 0 ∨ k = 19) : Rel e c (uc m k i v) := by
  rcases hk with rfl | rfl <;> exact ⟨h.1.m rfl, h.2.1.m (by decide), h.2.2.1.m (by decide), h.2.2.2.m (by decide)⟩
-- pieces
theorem Rel.nr {e : GE} {c m : CS} (h : Rel e c m) : m.1 2 0 = nI (g_nr e) := h.2.1.1
theorem Rel.cnr {e : GE} {c m : CS} (h : Rel e c m) : c.1 2 0 = nI (g_nr e) := (h.sh 2 rfl 0).trans h.2.1.1
theorem Rel.nt {e : GE} {c m : CS} (h : Rel e c m) : m.1 4 0 = nI (g_nt e) := h.2.2.1.1
theorem Rel.cnt {e : GE} {c m : CS} (h : Rel e c m) : c.1 4 0 = nI (g_nt e) := (h.sh 4 rfl 0).trans h.2.2.1.1
-- asking whether a number lies within
theorem f_in {x : Int32} {n r : Nat} {s : MS} (h : r < n) (hn : n < 2 ^ 31) (hx : x = nI n) : f_X0_isWithin (nI r) (x - 1) s = some (1, s) := by
  unfold f_X0_isWithin
  obtain ⟨p, rfl⟩ : ∃ p, n = p + 1 := ⟨n - 1, by omega⟩
  rw [hx, nI_pred, if_neg (nI_pos (by omega)), if_neg (nI_nlt (by omega) (by omega))]
theorem f_out {x p : Int32} {n : Nat} {s : MS} (h : p < 0 ∨ nI n ≤ p) (hn : n < 2 ^ 31) (hx : x = nI n) : f_X0_isWithin p (x - 1) s = some (0, s) := by
  unfold f_X0_isWithin
  by_cases h0 : p < 0
  · rw [if_pos h0]
  · rw [if_neg h0]
    have h1 : nI n ≤ p := h.resolve_left h0
    obtain ⟨j, hj, rfl⟩ := nI_of h0
    have h2 : n ≤ j := (nI_leI hn hj).mp h1
    cases n with
    | zero =>
      subst hx
      rw [if_pos]
      show nI 0 - 1 < nI j
      have h3 : nI 0 - 1 < 0 := by decide
      exact Int32.lt_of_lt_of_le h3 (nI_pos' hj)
    | succ n =>
      rw [hx, nI_pred, if_pos (nI_lt (by omega) hj)]
section HELP
variable {e : GE} {c m : CS}
theorem f_classAt {r : Nat} (hr : r < g_nr e) (hn : c.1 2 0 = nI (g_nr e)) : f_X0_classAt (g_h e) (nI r) (WW e c m) = some (some (g_ca e r), WW e c m) := by
  have := g_nr16 e
  simp only [f_X0_classAt, xh2, xh1, Option.bind_some, f_in hr (by omega) hn, m_bS, xr e c m hr]
  rfl
theorem f_classNo {p : Int32} (hr : p < 0 ∨ nI (g_nr e) ≤ p) (hn : c.1 2 0 = nI (g_nr e)) : f_X0_classAt (g_h e) p (WW e c m) = some (none, WW e c m) := by
  have := g_nr16 e
  simp only [f_X0_classAt, xh2, xh1, Option.bind_some, f_out hr (by omega) hn, m_bS, if_true]
theorem f_targetAt {t : Nat} (ht : t < g_nt e) (hn : c.1 4 0 = nI (g_nt e)) : f_X0_targetAt (g_h e) (nI t) (WW e c m) = some (some (g_ta e t), WW e c m) := by
  have := g_nt40 e
  simp only [f_X0_targetAt, xh5, xh4, Option.bind_some, f_in ht (by omega) hn, m_bS, xg e c m ht]
  rfl
theorem f_targetNo {p : Int32} (hr : p < 0 ∨ nI (g_nt e) ≤ p) (hn : c.1 4 0 = nI (g_nt e)) : f_X0_targetAt (g_h e) p (WW e c m) = some (none, WW e c m) := by
  have := g_nt40 e
  simp only [f_X0_targetAt, xh5, xh4, Option.bind_some, f_out hr (by omega) hn, m_bS, if_true]
theorem f_isRule {r : Nat} (hr : r < g_nr e) (hn : m.1 2 0 = nI (g_nr e)) : f_X3_isRule (g_ar e 6) (nI r) (WW e c m) = some (1, WW e c m) := by
  have := g_nr16 e
  unfold f_X3_isRule
  rw [if_neg (nI_pos (by omega)), xm2, Option.bind_some, hn, if_neg (nI_ge hr (by omega))]
theorem f_isRuleNo {p : Int32} (hr : p < 0 ∨ nI (g_nr e) ≤ p) (hn : m.1 2 0 = nI (g_nr e)) : f_X3_isRule (g_ar e 6) p (WW e c m) = some (0, WW e c m) := by
  unfold f_X3_isRule
  by_cases h0 : p < 0
  · rw [if_pos h0]
  · rw [if_neg h0, xm2, Option.bind_some, hn, if_pos (hr.resolve_left h0)]
theorem f_isTarget {t : Nat} (ht : t < g_nt e) (hn : m.1 4 0 = nI (g_nt e)) : f_X3_isTarget (g_ar e 6) (nI t) (WW e c m) = some (1, WW e c m) := by
  have := g_nt40 e
  unfold f_X3_isTarget
  rw [if_neg (nI_pos (by omega)), xm4, Option.bind_some, hn, if_neg (nI_ge ht (by omega))]
theorem f_isTargetNo {p : Int32} (hr : p < 0 ∨ nI (g_nt e) ≤ p) (hn : m.1 4 0 = nI (g_nt e)) : f_X3_isTarget (g_ar e 6) p (WW e c m) = some (0, WW e c m) := by
  unfold f_X3_isTarget
  by_cases h0 : p < 0
  · rw [if_pos h0]
  · rw [if_neg h0, xm4, Option.bind_some, hn, if_pos (hr.resolve_left h0)]
/-- the first rule of the same class -/
theorem f_firstOf {r : Nat} (hr : r < g_nr e) (h : RRx e c m) (Y : CS) : f_X3_firstOf (g_ar e 6) (nI r) (WW e Y m) = some (nI (g_cr e r), WW e Y m) := by
  have h16 := g_nr16 e
  have hcr := g_crr e hr
  have key : ∀ d q f, q + d = g_cr e r → d < f → f_X3_firstOf_L2 f (nI q) (g_ar e 6) (nI r) (WW e Y m) = some (nI (g_cr e r), WW e Y m) := by
    intro d
    induction d with
    | zero =>
      intro q f hq hf
      cases f with
      | zero => omega
      | succ f =>
        have hq' : q = g_cr e r := by omega
        subst hq'
        have e1 := h.2.2.1 r hr
        have e2 := h.2.2.1 (g_cr e r) (by omega)
        rw [h.2.1 r hr] at e2
        have h7 : m.1 7 (g_cr e r) = m.1 7 r := e2.1.symm.trans e1.1
        have h8 : m.1 8 (g_cr e r) = m.1 8 r := e2.2.1.symm.trans e1.2.1
        simp only [f_X3_firstOf_L2, xm7, xm8, Option.bind_some, xi7 e Y m (show g_cr e r < 16 by omega), xi7 e Y m (show r < 16 by omega), xi8 e Y m (show g_cr e r < 16 by omega), xi8 e Y m (show r < 16 by omega), h7, h8, if_true]
    | succ d ih =>
      intro q f hq hf
      cases f with
      | zero => omega
      | succ f =>
        have hn : ¬ (m.1 7 q = m.1 7 r ∧ m.1 8 q = m.1 8 r) := by
          intro hh
          have h1 := h.2.2.2.1 q r (by omega) hr hh.1 hh.2
          have h2 := g_crr e (show q < g_nr e by omega)
          omega
        simp only [f_X3_firstOf_L2, xm7, xm8, Option.bind_some, xi7 e Y m (show q < 16 by omega), xi7 e Y m (show r < 16 by omega), xi8 e Y m (show q < 16 by omega), xi8 e Y m (show r < 16 by omega), nI_1]
        have ih' := ih (q + 1) f (by omega) (by omega)
        by_cases h7 : m.1 7 q = m.1 7 r
        · have h8 : ¬ m.1 8 q = m.1 8 r := fun h8 => hn ⟨h7, h8⟩
          rw [if_pos h7, if_neg h8]
          exact ih'
        · rw [if_neg h7]
          exact ih'
  exact key (g_cr e r) 0 64 (by omega) (by omega)
end HELP
