/-! ===== target ===== -/
/-- a target more -/
def g_tgt (e : GE) (r : Nat) (hr : r < g_nr e) (h39 : g_nt e < 40) : GE := ⟨(g_n e + 4, g_h e, (fun a => if a = g_n e then (8, g_nt e) else if a = g_n e + 1 then (9, g_nt e) else if a = g_n e + 2 then (10, g_nt e) else if a = g_n e + 3 then (11, g_nt e) else g_own e a), (g_nr e, g_cr e, g_ac e), (g_nt e + 1, (fun t => if t = g_nt e then r else g_rl e t), (fun t => if t = g_nt e then g_n e else g_ta e t))), by
  obtain ⟨a1, a2, a3, a4, a5, a6, a7, a8, a9, a10, a11, a12⟩ := g_ok e
  generalize hown : (fun a => if a = g_n e then (8, g_nt e) else if a = g_n e + 1 then (9, g_nt e) else if a = g_n e + 2 then (10, g_nt e) else if a = g_n e + 3 then (11, g_nt e) else g_own e a) = own
  have o0 : own (g_n e) = (8, g_nt e) := by rw [← hown]; simp only [if_true]
  have o1 : own (g_n e + 1) = (9, g_nt e) := by
    rw [← hown]
    show (if g_n e + 1 = g_n e then _ else if g_n e + 1 = g_n e + 1 then _ else _) = _
    rw [if_neg (by omega), if_pos rfl]
  have o2 : own (g_n e + 2) = (10, g_nt e) := by
    rw [← hown]
    show (if g_n e + 2 = g_n e then _ else if g_n e + 2 = g_n e + 1 then _ else if g_n e + 2 = g_n e + 2 then _ else _) = _
    rw [if_neg (by omega), if_neg (by omega), if_pos rfl]
  have o3 : own (g_n e + 3) = (11, g_nt e) := by
    rw [← hown]
    show (if g_n e + 3 = g_n e then _ else if g_n e + 3 = g_n e + 1 then _ else if g_n e + 3 = g_n e + 2 then _ else if g_n e + 3 = g_n e + 3 then _ else _) = _
    rw [if_neg (by omega), if_neg (by omega), if_neg (by omega), if_pos rfl]
  have oo : ∀ a, ¬ a = g_n e → ¬ a = g_n e + 1 → ¬ a = g_n e + 2 → ¬ a = g_n e + 3 → own a = g_own e a := by
    intro a h0 h1 h2 h3
    rw [← hown]
    simp only [if_neg h0, if_neg h1, if_neg h2, if_neg h3]
  have hne : ∀ {a : Nat} {q : Nat × Nat}, g_own e a = q → q.1 < 12 → own a = q := by
    intro a q h1 h2
    have := g_fresh e (a := a) (by rw [h1]; exact h2)
    rw [oo a (by omega) (by omega) (by omega) (by omega)]
    exact h1
  have sp : ∀ a, (a < g_n e ∧ own a = g_own e a) ∨ (a = g_n e ∧ own a = (8, g_nt e)) ∨ (a = g_n e + 1 ∧ own a = (9, g_nt e)) ∨ (a = g_n e + 2 ∧ own a = (10, g_nt e)) ∨ (a = g_n e + 3 ∧ own a = (11, g_nt e)) ∨ (g_n e + 4 ≤ a ∧ own a = (12, 0)) := by
    intro a
    by_cases h0 : a = g_n e
    · exact Or.inr (Or.inl ⟨h0, by rw [h0]; exact o0⟩)
    by_cases h1 : a = g_n e + 1
    · exact Or.inr (Or.inr (Or.inl ⟨h1, by rw [h1]; exact o1⟩))
    by_cases h2 : a = g_n e + 2
    · exact Or.inr (Or.inr (Or.inr (Or.inl ⟨h2, by rw [h2]; exact o2⟩)))
    by_cases h3 : a = g_n e + 3
    · exact Or.inr (Or.inr (Or.inr (Or.inr (Or.inl ⟨h3, by rw [h3]; exact o3⟩))))
    by_cases h4 : a < g_n e
    · exact Or.inl ⟨h4, oo a h0 h1 h2 h3⟩
    · exact Or.inr (Or.inr (Or.inr (Or.inr (Or.inr ⟨by omega, (oo a h0 h1 h2 h3).trans (a6 a (by omega))⟩))))
  have hnew : ∀ a k, a < g_n e → own a = g_own e a → own a = (k, g_nt e) → 8 ≤ k → k < 12 → False := by
    intro a k h1 h2 h3 h4 h5
    have h6 := a8 a (by rw [← h2, h3]; exact h4) (by rw [← h2, h3]; exact h5)
    rw [← h2, h3] at h6
    exact absurd h6 (Nat.lt_irrefl _)
  refine ⟨⟨hne a1.1 (by decide), hne a1.2.1 (by decide), hne a1.2.2.1 (by decide), hne a1.2.2.2.1 (by decide), hne a1.2.2.2.2.1 (by decide), hne a1.2.2.2.2.2 (by decide)⟩, fun i hi => hne (a2 i hi) (by show 5 < 12; decide), fun i hi => hne (a3 i hi) (by show 7 < 12; decide), fun t ht => ?_, fun a b hab h12 => ?_, fun a ha => ?_, fun a ha => ?_, fun a h1 h2 => ?_, fun t ht => ?_, a10, a11, h39⟩
  · show own (if t = g_nt e then g_n e else g_ta e t) = (8, t) ∧ own ((if t = g_nt e then g_n e else g_ta e t) + 1) = (9, t) ∧ own ((if t = g_nt e then g_n e else g_ta e t) + 2) = (10, t) ∧ own ((if t = g_nt e then g_n e else g_ta e t) + 3) = (11, t)
    by_cases h : t = g_nt e
    · rw [if_pos h, h]
      exact ⟨o0, o1, o2, o3⟩
    · rw [if_neg h]
      have h1 := a4 t (Nat.lt_of_le_of_ne (Nat.le_of_lt_succ ht) h)
      exact ⟨hne h1.1 (by show 8 < 12; decide), hne h1.2.1 (by show 9 < 12; decide), hne h1.2.2.1 (by show 10 < 12; decide), hne h1.2.2.2 (by show 11 < 12; decide)⟩
  · replace hab : own a = own b := hab
    replace h12 : (own a).1 < 12 := h12
    rcases sp a with ⟨p1, p2⟩ | ⟨p1, p2⟩ | ⟨p1, p2⟩ | ⟨p1, p2⟩ | ⟨p1, p2⟩ | ⟨p1, p2⟩ <;> rcases sp b with ⟨r1, r2⟩ | ⟨r1, r2⟩ | ⟨r1, r2⟩ | ⟨r1, r2⟩ | ⟨r1, r2⟩ | ⟨r1, r2⟩ <;> first
      | omega
      | (rw [p2] at h12; exact absurd h12 (by decide))
      | (rw [hab, r2] at h12; exact absurd h12 (by decide))
      | (rw [p2, r2] at hab; exact a5 a b hab (by rw [← p2]; exact h12))
      | exact absurd (hnew a _ p1 p2 (hab.trans r2) (by decide) (by decide)) id
      | exact absurd (hnew b _ r1 r2 (hab.symm.trans p2) (by decide) (by decide)) id
      | (rw [p2, r2] at hab; simp at hab)
  · replace ha : g_n e + 4 ≤ a := ha
    show own a = (12, 0)
    rcases sp a with ⟨p1, p2⟩ | ⟨p1, p2⟩ | ⟨p1, p2⟩ | ⟨p1, p2⟩ | ⟨p1, p2⟩ | ⟨p1, p2⟩ <;> first
      | omega
      | exact p2
  · replace ha : (own a).1 = 7 := ha
    show (own a).2 < g_nr e
    rcases sp a with ⟨p1, p2⟩ | ⟨p1, p2⟩ | ⟨p1, p2⟩ | ⟨p1, p2⟩ | ⟨p1, p2⟩ | ⟨p1, p2⟩ <;> rw [p2] at ha ⊢ <;> first
      | exact a7 a ha
      | exact absurd ha (by simp)
  · replace h1 : 8 ≤ (own a).1 := h1
    replace h2 : (own a).1 < 12 := h2
    show (own a).2 < g_nt e + 1
    rcases sp a with ⟨p1, p2⟩ | ⟨p1, p2⟩ | ⟨p1, p2⟩ | ⟨p1, p2⟩ | ⟨p1, p2⟩ | ⟨p1, p2⟩ <;> rw [p2] at h1 h2 ⊢ <;> first
      | exact Nat.lt_succ_of_lt (a8 a h1 h2)
      | exact Nat.lt_succ_self _
      | exact absurd h2 (by decide)
  · show (if t = g_nt e then r else g_rl e t) < g_nr e
    by_cases h : t = g_nt e
    · rw [if_pos h]
      exact hr
    · rw [if_neg h]
      exact a9 t (Nat.lt_of_le_of_ne (Nat.le_of_lt_succ ht) h)⟩
section TGT
variable {e : GE} {c m : CS}
theorem vR_tgt {r : Nat} (hr : r < g_nr e) (h39 : g_nt e < 40) {b j : Nat} (hb : g_own e b ≠ (2, 0)) : vR (g_tgt e r hr h39) (g_own e b) j = vR e (g_own e b) j := by
  have h8 : (g_own e b).1 = 8 → g_rl (g_tgt e r hr h39) (g_own e b).2 = g_rl e (g_own e b).2 ∧ g_ta (g_tgt e r hr h39) (g_own e b).2 = g_ta e (g_own e b).2 := by
    intro h
    have h1 := nn8 e h
    constructor
    · show (if (g_own e b).2 = g_nt e then _ else _) = _
      rw [if_neg (by omega)]
    · show (if (g_own e b).2 = g_nt e then _ else _) = _
      rw [if_neg (by omega)]
  generalize hq : g_own e b = q at *
  obtain ⟨q1, q2⟩ := q
  unfold vR
  split <;> try rfl
  · rename_i h0
    simp only at h0
    subst h0
    have h2 : ¬ q2 = 0 := by rintro rfl; exact hb rfl
    simp only [if_neg h2]
  · rename_i h0
    simp only at h0
    obtain ⟨k1, k2⟩ := h8 h0
    simp only at k1 k2
    simp only [k1, k2]
    rfl
theorem W_tgt {r : Nat} (hr : r < g_nr e) (h39 : g_nt e < 40) (hz : ∀ k, k = 14 ∨ k = 15 ∨ k = 17 ∨ k = 18 ∨ k = 21 ∨ k = 32 ∨ k = 33 → c.1 k (g_nt e) = 0) (hz4 : ∀ j, c.1 13 (4 * g_nt e + j) = 0) (hz3 : ∀ j, c.1 20 (3 * g_nt e + j) = 0 ∧ c.1 22 (3 * g_nt e + j) = 0) :
    ∃ S1, f_X2_init (g_n e) (nI (g_nt e)) (some (g_ca e r)) (m_mk (WW e c m) (.inl 2) (fun j => defaultValue (tyX2 j))) = some ((), S1) ∧ m_is S1 2 (g_n e) = some () ∧ m_ap S1 4 (g_h e + 2) (nI (g_nt e)) (.ref (g_n e)) = some (WW (g_tgt e r hr h39) c m) := by
  have hn2 : g_h e + 2 < g_n e := g_fresh e (by rw [o_h2 e]; decide)
  have n01 : ¬ g_n e = g_n e + 1 := by omega
  have n02 : ¬ g_n e = g_n e + 1 + 1 := by omega
  have n03 : ¬ g_n e = g_n e + 1 + 1 + 1 := by omega
  simp only [f_X2_init, m_mk, WW, m_nw, m_p, m_knew, if_true, if_false, n01, n02, n03, Option.bind_some]
  refine ⟨_, rfl, ?_, ?_⟩
  · simp only [m_is, m_knew, if_true, if_false, n01, n02, n03]
  · have h0 : (nI (g_nt e)).toNatClampNeg = g_nt e := nI_clamp (by omega)
    have h1 : 0 ≤ nI (g_nt e) := nI_pos' (by omega)
    have b0 : ¬ g_h e + 2 = g_n e := by omega
    have b1 : ¬ g_h e + 2 = g_n e + 1 := by omega
    have b2 : ¬ g_h e + 2 = g_n e + 1 + 1 := by omega
    have b3 : ¬ g_h e + 2 = g_n e + 1 + 1 + 1 := by omega
    have hk : KV (2, 0) = some (.inr (4, 40)) := rfl
    simp only [m_ap, m_ix, m_ln, m_knew, b0, b1, b2, b3, if_false, o_h2 e, hk, if_true, Option.bind_some, h0, h1, h39, and_self]
    refine congrArg some (Prod.ext rfl (Prod.ext ?_ ?_))
    · funext a
      show (if a = g_n e + 1 + 1 + 1 then some (Sum.inr (2, 3)) else if a = g_n e + 1 + 1 then some (Sum.inr (1, 3)) else if a = g_n e + 1 then some (Sum.inr (1, 4)) else if a = g_n e then some (Sum.inl 2) else KV (g_own e a)) = KV (if a = g_n e then (8, g_nt e) else if a = g_n e + 1 then (9, g_nt e) else if a = g_n e + 2 then (10, g_nt e) else if a = g_n e + 3 then (11, g_nt e) else g_own e a)
      by_cases k0 : a = g_n e
      · subst k0
        rw [if_neg n03, if_neg n02, if_neg n01, if_pos rfl, if_pos rfl]
        rfl
      by_cases k1 : a = g_n e + 1
      · subst k1
        rw [if_neg (by omega), if_neg (by omega), if_pos rfl, if_neg (by omega), if_pos rfl]
        rfl
      by_cases k2 : a = g_n e + 2
      · subst k2
        rw [if_neg (by omega), if_pos rfl, if_neg (by omega), if_neg (by omega), if_pos rfl]
        rfl
      by_cases k3 : a = g_n e + 3
      · subst k3
        rw [if_pos rfl, if_neg (by omega), if_neg (by omega), if_neg (by omega), if_pos rfl]
        rfl
      rw [if_neg k3, if_neg k2, if_neg k1, if_neg k0, if_neg k0, if_neg k1, if_neg k2, if_neg k3]
    · funext b j
      show _ = VV (g_tgt e r hr h39) c m (if b = g_n e then (8, g_nt e) else if b = g_n e + 1 then (9, g_nt e) else if b = g_n e + 2 then (10, g_nt e) else if b = g_n e + 3 then (11, g_nt e) else g_own e b) j
      by_cases k0 : b = g_n e
      · subst k0
        have c0 : ¬ g_n e = g_h e + 2 := by omega
        simp only [m_up, m_row, c0, n01, n02, n03, false_and, if_false, true_and, if_true]
        have hj : j = 0 ∨ j = 1 ∨ j = 2 ∨ j = 3 ∨ j = 4 ∨ j = 5 ∨ j = 6 ∨ j = 7 ∨ j = 8 ∨ j = 9 ∨ j = 10 ∨ j = 11 ∨ ∃ i, j = i + 12 := by
          by_cases h6 : j < 12
          · omega
          · exact Or.inr (Or.inr (Or.inr (Or.inr (Or.inr (Or.inr (Or.inr (Or.inr (Or.inr (Or.inr (Or.inr (Or.inr ⟨j - 12, by omega⟩)))))))))))
        have ta0 : g_ta (g_tgt e r hr h39) (g_nt e) = g_n e := if_pos rfl
        have rl0 : g_rl (g_tgt e r hr h39) (g_nt e) = r := if_pos rfl
        rcases hj with rfl | rfl | rfl | rfl | rfl | rfl | rfl | rfl | rfl | rfl | rfl | rfl | ⟨i, rfl⟩
        · rfl
        · show _ = Value.ref (g_ca (g_tgt e r hr h39) (g_rl (g_tgt e r hr h39) (g_nt e)))
          rw [rl0]
          rfl
        · show _ = Value.ref (g_ta (g_tgt e r hr h39) (g_nt e) + 1)
          rw [ta0]
          rfl
        · show _ = Value.ref (g_ta (g_tgt e r hr h39) (g_nt e) + 2)
          rw [ta0]
          rfl
        · show _ = Value.ref (g_ta (g_tgt e r hr h39) (g_nt e) + 3)
          rw [ta0]
          rfl
        · show _ = Value.int (c.1 21 (g_nt e))
          rw [hz 21 (by omega)]
          rfl
        · show _ = Value.int (c.1 33 (g_nt e))
          rw [hz 33 (by omega)]
          rfl
        · show _ = Value.int (c.1 18 (g_nt e))
          rw [hz 18 (by omega)]
          rfl
        · show _ = Value.int (c.1 17 (g_nt e))
          rw [hz 17 (by omega)]
          rfl
        · show _ = Value.int (c.1 14 (g_nt e))
          rw [hz 14 (by omega)]
          rfl
        · show _ = Value.int (c.1 15 (g_nt e))
          rw [hz 15 (by omega)]
          rfl
        · show _ = Value.int (c.1 32 (g_nt e))
          rw [hz 32 (by omega)]
          rfl
        · have h0 : VV (g_tgt e r hr h39) c m (8, g_nt e) (i + 12) = defaultValue (tyX2 (i + 12)) := rfl
          rw [h0]
          rw [if_neg (by omega), if_neg (by omega), if_neg (by omega), if_neg (by omega), if_neg (by omega), if_neg (by omega), if_neg (by omega), if_neg (by omega), if_neg (by omega), if_neg (by omega), if_neg (by omega), if_neg (by omega)]
      by_cases k1 : b = g_n e + 1
      · subst k1
        have c0 : ¬ g_n e + 1 = g_h e + 2 := by omega
        have c1 : ¬ g_n e + 1 = g_n e := by omega
        have c2 : ¬ g_n e + 1 = g_n e + 1 + 1 := by omega
        have c3 : ¬ g_n e + 1 = g_n e + 1 + 1 + 1 := by omega
        simp only [m_up, m_row, c0, c1, c2, c3, false_and, if_false, true_and, if_true]
        by_cases hj : j < 4
        · have h0 : VV (g_tgt e r hr h39) c m (9, g_nt e) j = .int (c.1 13 (4 * g_nt e + j)) := by
            have : locC (9, g_nt e) j = some (13, 4 * g_nt e + j) := if_pos hj
            simp only [VV, this]
          rw [h0, hz4]
          rfl
        · have h0 : VV (g_tgt e r hr h39) c m (9, g_nt e) j = .int 0 := by
            have : locC (9, g_nt e) j = none := if_neg hj
            simp only [VV, this]
            rfl
          rw [h0]
          rfl
      by_cases k2 : b = g_n e + 2
      · subst k2
        have c0 : ¬ g_n e + 2 = g_h e + 2 := by omega
        have c1 : ¬ g_n e + 2 = g_n e := by omega
        have c2 : ¬ g_n e + 2 = g_n e + 1 := by omega
        have c3 : ¬ g_n e + 2 = g_n e + 1 + 1 + 1 := by omega
        have c4 : g_n e + 2 = g_n e + 1 + 1 := by omega
        have c5 : g_n e + 2 = g_n e + 2 := rfl
        simp only [m_up, m_row, c0, c1, c2, c3, false_and, if_false, true_and, if_true]
        by_cases hj : j < 3
        · have h0 : VV (g_tgt e r hr h39) c m (10, g_nt e) j = .int (c.1 20 (3 * g_nt e + j)) := by
            have : locC (10, g_nt e) j = some (20, 3 * g_nt e + j) := if_pos hj
            simp only [VV, this]
          rw [h0, (hz3 j).1]
          rfl
        · have h0 : VV (g_tgt e r hr h39) c m (10, g_nt e) j = .int 0 := by
            have : locC (10, g_nt e) j = none := if_neg hj
            simp only [VV, this]
            rfl
          rw [h0]
          rfl
      by_cases k3 : b = g_n e + 3
      · subst k3
        have c0 : ¬ g_n e + 3 = g_h e + 2 := by omega
        have c1 : ¬ g_n e + 3 = g_n e := by omega
        have c2 : ¬ g_n e + 3 = g_n e + 1 := by omega
        have c3 : ¬ g_n e + 3 = g_n e + 2 := by omega
        have c4 : ¬ g_n e + 3 = g_n e + 1 + 1 := by omega
        simp only [m_up, m_row, c0, c1, c2, c3, c4, false_and, if_false, true_and, if_true]
        by_cases hj : j < 3
        · have h0 : VV (g_tgt e r hr h39) c m (11, g_nt e) j = .int (c.1 22 (3 * g_nt e + j)) := by
            have : locC (11, g_nt e) j = some (22, 3 * g_nt e + j) := if_pos hj
            simp only [VV, this]
          rw [h0, (hz3 j).2]
          rfl
        · have h0 : VV (g_tgt e r hr h39) c m (11, g_nt e) j = .int 0 := by
            have : locC (11, g_nt e) j = none := if_neg hj
            simp only [VV, this]
            rfl
          rw [h0]
          rfl
      have k2' : ¬ b = g_n e + 1 + 1 := by omega
      have k3' : ¬ b = g_n e + 1 + 1 + 1 := by omega
      rw [if_neg k0, if_neg k1, if_neg k2, if_neg k3]
      by_cases hb1 : b = g_h e + 2
      · subst hb1
        simp only [m_up, m_row, k0, k1, k2', k3', false_and, if_false, true_and, o_h2 e]
        show (if j = g_nt e then _ else (if j < g_nt e then Value.ref (g_ta e j) else .null)) = (if j < g_nt e + 1 then Value.ref (if j = g_nt e then g_n e else g_ta e j) else .null)
        by_cases h1 : j = g_nt e
        · rw [if_pos h1, if_pos (by omega), if_pos h1]
        · rw [if_neg h1, if_neg h1]
          by_cases h2 : j < g_nt e
          · rw [if_pos h2, if_pos (by omega)]
          · rw [if_neg h2, if_neg (by omega)]
      · simp only [m_up, m_row, k0, k1, k2', k3', hb1, false_and, if_false]
        have h1 : g_own e b ≠ (2, 0) := fun h => hb1 (o_inj e (h.trans (o_h2 e).symm) (by rw [h]; decide))
        rw [VV_e (vR_tgt hr h39 h1)]
/-- the reference's picture with a target more -/
def m_tgt (e : GE) (m : CS) (r : Nat) : CS := uc (uc (uc m 0 0 0) 12 (g_nt e) (nI r)) 4 0 (nI (g_nt e) + 1)
theorem L_target (h : Rel e c m) (p : Int32) : LKx e c m (f_X0_target (g_h e) p) (f_X3_target (g_ar e 6) p) := by
  have h16 := g_nr16 e
  have h40 := g_nt40 e
  have h0 : Rel e c (uc m 0 0 0) := h.mx (Or.inl rfl)
  rcases p_ix p (g_nr e) (by omega) with hp | ⟨r, hr, rfl⟩
  · refine ⟨e, c, uc m 0 0 0, -1, rfl, ?_, ?_, h0⟩
    · simp only [f_X0_target, zh, Option.bind_some, f_classNo hp h.cnr, m_bS, m_nnN]
    · simp only [f_X3_target, ym0, zm, Option.bind_some, f_isRuleNo hp h0.nr, m_bS, if_true]
  · by_cases h39 : g_nt e < 40
    · have hlt : nI (g_nt e) < 40 := nI_lt (b := 40) h39 (by decide)
      have hne : ¬ nI (g_nt e) = 40 := fun h => absurd ((nI_eq (show g_nt e < 2 ^ 31 by omega) (show 40 < 2 ^ 31 by decide)).mp h) (by omega)
      have hs : nI (g_nt e) + 1 - 1 = nI (g_nt e) := Int32.add_sub_cancel _ _
      obtain ⟨a1, ⟨s, a2, a3, a4⟩, a5, a6, a7⟩ := h.2.2.1
      have z := a5 (g_nt e) (Nat.le_refl _)
      obtain ⟨S1, w1, w2, w3⟩ := W_tgt (c := c) (m := m) hr h39 (by
        intro k hk
        rcases hk with rfl | rfl | rfl | rfl | rfl | rfl | rfl
        · exact (h.sh 14 rfl _).trans z.1
        · exact (h.sh 15 rfl _).trans z.2.1
        · exact (h.sh 17 rfl _).trans z.2.2.2.1
        · exact (h.sh 18 rfl _).trans z.2.2.2.2.1
        · exact (h.sh 21 rfl _).trans z.2.2.2.2.2.1
        · exact z.2.2.2.2.2.2.1
        · exact z.2.2.2.2.2.2.2) (fun j => (h.sh 13 rfl _).trans (a6 _ (by omega))) (fun j => ⟨(h.sh 20 rfl _).trans (a7 _ (by omega)).1, (h.sh 22 rfl _).trans (a7 _ (by omega)).2⟩)
      refine ⟨g_tgt e r hr h39, uc c 4 0 (nI (g_nt e) + 1), m_tgt e m r, nI (g_nt e), rfl, ?_, ?_, ⟨?_, ?_, ?_, ?_⟩⟩
      · have x5 : ∀ c, m_gI (WW (g_tgt e r hr h39) c m) 0 (g_h e) 5 = some (c.1 4 0) := fun c => xh5 (g_tgt e r hr h39) c m
        have y5 : ∀ c x, m_p (WW (g_tgt e r hr h39) c m) 0 (g_h e) 5 (.int x) = some (WW (g_tgt e r hr h39) (uc c 4 0 x) m) := fun c x => yh5 (g_tgt e r hr h39) c m x
        have hn : (WW e c m).1 = g_n e := rfl
        have hhn : g_h e < g_n e := g_fresh e (by rw [o_h e]; decide)
        have xq : m_gI (m_mk (WW e c m) (.inl 2) (fun j => defaultValue (tyX2 j))) 0 (g_h e) 5 = some (nI (g_nt e)) := by
          have hne2 : ¬ g_h e = g_n e := by omega
          have hk : KV (0, 0) = some (.inl 0) := rfl
          have hv : VV e c m (0, 0) 5 = .int (c.1 4 0) := rfl
          simp only [m_gI, m_mk, WW, m_knew, m_row, if_neg hne2, o_h e, hk, hv, if_true, h.cnt]
        simp only [f_X0_target, zh, Option.bind_some, f_classAt hr h.cnr, m_bS, m_nnS, xh5, h.cnt, if_pos hlt, xh4, m_nw, hn, xq, w1, w2, w3, x5, y5, q01, q02, q03, q04, q05, q06, q07, q08, q10, q12, q13, q14, q15, q16, q17, q18, q20, q21, q23, q24, q25, q26, q27, q28, q30, q31, q32, q34, q35, q36, q37, q38, q40, q41, q42, q43, q45, q46, q47, q48, q50, q51, q52, q53, q54, q56, q57, q58, q60, q61, q62, q63, q64, q65, q67, q68, q70, q71, q72, q73, q74, q75, q76, q78, q80, q81, q82, q83, q84, q85, q86, q87, w02, w12, w22, w03, w13, w23, w33, qm1, Int32.reduceLT, Int32.reduceLE, Int32.reduceAdd, Int32.reduceSub, Nat.reduceEqDiff, Nat.add_left_cancel_iff, false_and, true_and, and_false, and_true, and_self, if_true, if_false, uc_r, ug_r, uc2, ug1, hs]
      · show f_X3_target (g_ar (g_tgt e r hr h39) 6) (nI r) _ = _
        simp (disch := omega) only [f_X3_target, m_tgt, ym0, zm, Option.bind_some, f_isRule (e := g_tgt e r hr h39) hr h0.nr, m_bS, q01, q02, q03, q04, q05, q06, q07, q08, q10, q12, q13, q14, q15, q16, q17, q18, q20, q21, q23, q24, q25, q26, q27, q28, q30, q31, q32, q34, q35, q36, q37, q38, q40, q41, q42, q43, q45, q46, q47, q48, q50, q51, q52, q53, q54, q56, q57, q58, q60, q61, q62, q63, q64, q65, q67, q68, q70, q71, q72, q73, q74, q75, q76, q78, q80, q81, q82, q83, q84, q85, q86, q87, w02, w12, w22, w03, w13, w23, w33, qm1, Int32.reduceLT, Int32.reduceLE, Int32.reduceAdd, Int32.reduceSub, Nat.reduceEqDiff, Nat.add_left_cancel_iff, false_and, true_and, and_false, and_true, and_self, if_true, if_false, uc_r, ug_r, uc2, ug1, xm4, h.nt, if_neg hne, xm12, yi12, ym4, hs]
      · exact (Sh.m (h.1.m rfl) rfl).b
      · exact (((h0.2.1.c (k := 4) (by decide)).m (k := 12) (by decide)).m (k := 4) (by decide))
      · refine TTx.c ?_ (by decide)
        have mo : ∀ k, k ≠ 0 → k ≠ 12 → k ≠ 4 → (m_tgt e m r).1 k = m.1 k := by
          intro k k0 k1 k2
          simp only [m_tgt, uc1, up_ne k0, up_ne k1, up_ne k2]
        have m4 : (m_tgt e m r).1 4 0 = nI (g_nt e + 1) := by
          rw [← nI_1]
          simp only [m_tgt, q01, q02, q03, q04, q05, q06, q07, q08, q10, q12, q13, q14, q15, q16, q17, q18, q20, q21, q23, q24, q25, q26, q27, q28, q30, q31, q32, q34, q35, q36, q37, q38, q40, q41, q42, q43, q45, q46, q47, q48, q50, q51, q52, q53, q54, q56, q57, q58, q60, q61, q62, q63, q64, q65, q67, q68, q70, q71, q72, q73, q74, q75, q76, q78, q80, q81, q82, q83, q84, q85, q86, q87, w02, w12, w22, w03, w13, w23, w33, qm1, Int32.reduceLT, Int32.reduceLE, Int32.reduceAdd, Int32.reduceSub, Nat.reduceEqDiff, Nat.add_left_cancel_iff, false_and, true_and, and_false, and_true, and_self, if_true, if_false, uc_r, ug_r, uc2, ug1]
        have m12 : ∀ t, (m_tgt e m r).1 12 t = if t = g_nt e then nI r else m.1 12 t := by
          intro t
          simp only [m_tgt, q01, q02, q03, q04, q05, q06, q07, q08, q10, q12, q13, q14, q15, q16, q17, q18, q20, q21, q23, q24, q25, q26, q27, q28, q30, q31, q32, q34, q35, q36, q37, q38, q40, q41, q42, q43, q45, q46, q47, q48, q50, q51, q52, q53, q54, q56, q57, q58, q60, q61, q62, q63, q64, q65, q67, q68, q70, q71, q72, q73, q74, q75, q76, q78, q80, q81, q82, q83, q84, q85, q86, q87, w02, w12, w22, w03, w13, w23, w33, qm1, Int32.reduceLT, Int32.reduceLE, Int32.reduceAdd, Int32.reduceSub, Nat.reduceEqDiff, Nat.add_left_cancel_iff, false_and, true_and, and_false, and_true, and_self, if_true, if_false, uc_r, ug_r, uc2, ug1]
        unfold TTx
        rw [mo 1 (by decide) (by decide) (by decide), mo 13 (by decide) (by decide) (by decide), mo 14 (by decide) (by decide) (by decide), mo 15 (by decide) (by decide) (by decide), mo 16 (by decide) (by decide) (by decide), mo 17 (by decide) (by decide) (by decide), mo 18 (by decide) (by decide) (by decide), mo 20 (by decide) (by decide) (by decide), mo 21 (by decide) (by decide) (by decide), mo 22 (by decide) (by decide) (by decide)]
        refine ⟨m4, ⟨s, a2, a3, fun t ht => ?_⟩, fun t ht => a5 t (Nat.le_of_succ_le ht), fun i hi => a6 i (Nat.le_trans (Nat.mul_le_mul_left 4 (Nat.le_succ _)) hi), fun i hi => a7 i (Nat.le_trans (Nat.mul_le_mul_left 3 (Nat.le_succ _)) hi)⟩
        rw [m12]
        show TQ s t (if t = g_nt e then r else g_rl e t) _ _ _ _ _ _ _ _ _ _ _
        by_cases ht2 : t = g_nt e
        · rw [if_pos ht2, if_pos ht2, ht2]
          refine ⟨rfl, ⟨0, by omega, a6 _ (by omega)⟩, ⟨0, by omega, a6 _ (by omega)⟩, fun _ => ⟨z.2.2.2.1, z.1, z.2.2.2.2.2.2.2⟩, fun _ => ⟨z.2.1, z.2.2.1⟩, fun hh => absurd z.1 hh, ⟨0, by omega, z.2.2.2.2.1⟩⟩
        · rw [if_neg ht2, if_neg ht2]
          exact a4 t (Nat.lt_of_le_of_ne (Nat.le_of_lt_succ ht) ht2)
      · obtain ⟨⟨n, b1, b2, b3⟩, b4⟩ := h.2.2.2
        refine ⟨⟨n, b1, ?_, fun i hi => ?_⟩, ?_⟩
        · simp only [m_tgt, q01, q02, q03, q04, q05, q06, q07, q08, q10, q12, q13, q14, q15, q16, q17, q18, q20, q21, q23, q24, q25, q26, q27, q28, q30, q31, q32, q34, q35, q36, q37, q38, q40, q41, q42, q43, q45, q46, q47, q48, q50, q51, q52, q53, q54, q56, q57, q58, q60, q61, q62, q63, q64, q65, q67, q68, q70, q71, q72, q73, q74, q75, q76, q78, q80, q81, q82, q83, q84, q85, q86, q87, w02, w12, w22, w03, w13, w23, w33, qm1, Int32.reduceLT, Int32.reduceLE, Int32.reduceAdd, Int32.reduceSub, Nat.reduceEqDiff, Nat.add_left_cancel_iff, false_and, true_and, and_false, and_true, and_self, if_true, if_false, uc_r, ug_r, uc2, ug1]
          exact b2
        · obtain ⟨t, q1, q2⟩ := b3 i hi
          refine ⟨t, Nat.lt_succ_of_lt q1, ?_⟩
          simp only [m_tgt, q01, q02, q03, q04, q05, q06, q07, q08, q10, q12, q13, q14, q15, q16, q17, q18, q20, q21, q23, q24, q25, q26, q27, q28, q30, q31, q32, q34, q35, q36, q37, q38, q40, q41, q42, q43, q45, q46, q47, q48, q50, q51, q52, q53, q54, q56, q57, q58, q60, q61, q62, q63, q64, q65, q67, q68, q70, q71, q72, q73, q74, q75, q76, q78, q80, q81, q82, q83, q84, q85, q86, q87, w02, w12, w22, w03, w13, w23, w33, qm1, Int32.reduceLT, Int32.reduceLE, Int32.reduceAdd, Int32.reduceSub, Nat.reduceEqDiff, Nat.add_left_cancel_iff, false_and, true_and, and_false, and_true, and_self, if_true, if_false, uc_r, ug_r, uc2, ug1]
          exact q2
        · simp only [m_tgt, q01, q02, q03, q04, q05, q06, q07, q08, q10, q12, q13, q14, q15, q16, q17, q18, q20, q21, q23, q24, q25, q26, q27, q28, q30, q31, q32, q34, q35, q36, q37, q38, q40, q41, q42, q43, q45, q46, q47, q48, q50, q51, q52, q53, q54, q56, q57, q58, q60, q61, q62, q63, q64, q65, q67, q68, q70, q71, q72, q73, q74, q75, q76, q78, q80, q81, q82, q83, q84, q85, q86, q87, w02, w12, w22, w03, w13, w23, w33, qm1, Int32.reduceLT, Int32.reduceLE, Int32.reduceAdd, Int32.reduceSub, Nat.reduceEqDiff, Nat.add_left_cancel_iff, false_and, true_and, and_false, and_true, and_self, if_true, if_false, uc_r, ug_r, uc2, ug1]
          exact b4
    · have he : g_nt e = 40 := by omega
      refine ⟨e, c, uc m 0 0 0, -4, rfl, ?_, ?_, h0⟩
      · have hx : ¬ (nI 40 : Int32) < 40 := by decide
        simp only [f_X0_target, zh, Option.bind_some, f_classAt hr h.cnr, m_bS, m_nnS, xh5, h.cnt, he, if_neg hx]
      · have hx : (nI 40 : Int32) = 40 := by decide
        simp only [f_X3_target, ym0, zm, Option.bind_some, f_isRule hr h0.nr, m_bS, q01, q02, q03, q04, q05, q06, q07, q08, q10, q12, q13, q14, q15, q16, q17, q18, q20, q21, q23, q24, q25, q26, q27, q28, q30, q31, q32, q34, q35, q36, q37, q38, q40, q41, q42, q43, q45, q46, q47, q48, q50, q51, q52, q53, q54, q56, q57, q58, q60, q61, q62, q63, q64, q65, q67, q68, q70, q71, q72, q73, q74, q75, q76, q78, q80, q81, q82, q83, q84, q85, q86, q87, w02, w12, w22, w03, w13, w23, w33, qm1, Int32.reduceLT, Int32.reduceLE, Int32.reduceAdd, Int32.reduceSub, Nat.reduceEqDiff, Nat.add_left_cancel_iff, false_and, true_and, and_false, and_true, and_self, if_true, if_false, uc_r, ug_r, uc2, ug1, xm4, h.nt, he, hx]
end TGT
