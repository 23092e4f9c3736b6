/-! ===== the law's loop ===== -/
theorem ar_h {e e' : GE} (h : g_h e' = g_h e) (k : Nat) : g_ar e' k = g_ar e k := by
  unfold g_ar
  rw [h]
theorem sc_k {L k : Nat} {xs : Nat → Int32} (hk : k < L) (hL : L < 2 ^ 31) : m_sc L xs (nI k) = some (xs k) := by
  unfold m_sc
  rw [nI_clamp (by omega), if_pos ⟨nI_pos' (by omega), hk⟩]
theorem nI_2 (q : Nat) : nI q + 2 = nI (q + 2) := nI_add q 2
theorem nI_3 (q : Nat) : nI q + 3 = nI (q + 3) := nI_add q 3
theorem nI_4 (q : Nat) : nI q + 4 = nI (q + 4) := nI_add q 4
theorem nI_5 (q : Nat) : nI q + 5 = nI (q + 5) := nI_add q 5
theorem nI_6 (q : Nat) : nI q + 6 = nI (q + 6) := nI_add q 6
theorem stop_iff {L q : Nat} (hL : L < 2 ^ 30) (hq : q < 2 ^ 30) : nI L - 6 < nI q ↔ L < q + 6 := by
  have h6 : (6 : Int32) = nI 6 := rfl
  rw [Int32.lt_iff_toInt_lt, h6, pk_sub_toInt hL (by decide), nI_toInt (by omega)]
  omega
section LOOP
variable {L : Nat} {xs : Nat → Int32}
theorem law_loop (hL : L ≤ 3073) (h : Nat) : ∀ f q e c m, g_h e = h → Rel e c m → L < q + 6 * f + 6 → q ≤ L + 6 → ∃ st', f_L_law_L33 L xs (f + 1) (nI q) (h + 24) (h + 5) h (WW e c m) = some (1, st') := by
  intro f
  induction f with
  | zero =>
    intro q e c m he hr hf hq
    refine ⟨WW e c m, ?_⟩
    have hs : nI L - 6 < nI q := (stop_iff (by omega) (by omega)).mpr (by omega)
    rw [f_L_law_L33, if_pos hs]
  | succ f ih =>
    intro q e c m he hr hf hq
    subst he
    by_cases hst : L < q + 6
    · refine ⟨WW e c m, ?_⟩
      have hs : nI L - 6 < nI q := (stop_iff (by omega) (by omega)).mpr (by omega)
      rw [f_L_law_L33, if_pos hs]
    · have hs : ¬ nI L - 6 < nI q := fun hh => hst ((stop_iff (by omega) (by omega)).mp hh)
      have s0 := sc_k (L := L) (xs := xs) (k := q) (by omega) (by omega)
      have s1 : m_sc L xs (nI q + 1) = some (xs (q + 1)) := by rw [nI_1]; exact sc_k (by omega) (by omega)
      have s2 : m_sc L xs (nI q + 2) = some (xs (q + 2)) := by rw [nI_2]; exact sc_k (by omega) (by omega)
      have s3 : m_sc L xs (nI q + 3) = some (xs (q + 3)) := by rw [nI_3]; exact sc_k (by omega) (by omega)
      have s4 : m_sc L xs (nI q + 4) = some (xs (q + 4)) := by rw [nI_4]; exact sc_k (by omega) (by omega)
      have s5 : m_sc L xs (nI q + 5) = some (xs (q + 5)) := by rw [nI_5]; exact sc_k (by omega) (by omega)
      rw [f_L_law_L33, if_neg hs, s0, Option.bind_some]
      generalize hF : f_L_law_L33 L xs (f + 1) = F
      have go : ∀ e' c' m', g_h e' = g_h e → Rel e' c' m' → ∃ st', F (nI q + 6) (g_h e + 24) (g_h e + 5) (g_h e) (WW e' c' m') = some (1, st') := by
        intro e' c' m' hh hr'
        rw [nI_6, ← hF]
        exact ih (q + 6) e' c' m' hh hr' (by omega) (by omega)
      have zmm : ∀ e' c' m', g_h e' = g_h e → m_is (WW e' c' m') 3 (g_h e + 5) = some () := by
        intro e' c' m' hh
        have := zm e' c' m'
        rw [ar_h hh] at this
        exact this
      generalize xs q &&& 15 = z
      by_cases z0 : z = 0
      · rw [if_pos z0]
        simp only [s1, s2, s3, Option.bind_some, zh]
        by_cases hb : xs (q + 3) = 0
        · obtain ⟨e', c', m', a, hh, k1, k2, k3⟩ := L_rule hr (xs (q + 1)) (xs (q + 2)) 0 (Or.inl rfl)
          replace k2 : f_X3_rule (g_h e + 5) _ _ _ _ = _ := k2
          simp only [hb, if_true, k1, m_bS, zmm e' c' m hh, Option.bind_some, k2]
          exact go e' c' m' hh k3
        · obtain ⟨e', c', m', a, hh, k1, k2, k3⟩ := L_rule hr (xs (q + 1)) (xs (q + 2)) 1 (Or.inr rfl)
          replace k2 : f_X3_rule (g_h e + 5) _ _ _ _ = _ := k2
          simp only [hb, if_false, if_true, k1, m_bS, zmm e' c' m hh, Option.bind_some, k2]
          exact go e' c' m' hh k3
      rw [if_neg z0]
      by_cases z1 : z = 1
      · rw [if_pos z1]
        obtain ⟨e', c', m', a, hh, k1, k2, k3⟩ := (L_make hr (xs (q + 1))).x
        replace k2 : f_X3_make (g_h e + 5) _ _ = _ := k2
        simp only [s1, Option.bind_some, zh, k1, m_bS, zmm e' c' m hh, k2, if_true]
        exact go e' c' m' hh k3
      rw [if_neg z1]
      by_cases z2 : z = 2
      · rw [if_pos z2]
        obtain ⟨e', c', m', a, hh, k1, k2, k3⟩ := (L_attribute hr (xs (q + 1)) (xs (q + 2)) (xs (q + 3))).x
        replace k2 : f_X3_attribute (g_h e + 5) _ _ _ _ = _ := k2
        simp only [s1, s2, s3, Option.bind_some, zh, k1, m_bS, zmm e' c' m hh, k2, if_true]
        exact go e' c' m' hh k3
      rw [if_neg z2]
      by_cases z3 : z = 3
      · rw [if_pos z3]
        obtain ⟨e', c', m', a, hh, k1, k2, k3⟩ := L_target hr (xs (q + 1))
        replace k2 : f_X3_target (g_h e + 5) _ _ = _ := k2
        simp only [s1, Option.bind_some, zh, k1, m_bS, zmm e' c' m hh, k2, if_true]
        exact go e' c' m' hh k3
      rw [if_neg z3]
      by_cases z4 : z = 4
      · rw [if_pos z4]
        obtain ⟨e', c', m', a, hh, k1, k2, k3⟩ := (L_run hr (xs (q + 1))).x
        replace k2 : f_X3_run (g_h e + 5) _ _ = _ := k2
        simp only [s1, Option.bind_some, zh, k1, m_bS, zmm e' c' m hh, k2, if_true]
        exact go e' c' m' hh k3
      rw [if_neg z4]
      by_cases z5 : z = 5
      · rw [if_pos z5]
        obtain ⟨e', c', m', a, hh, k1, k2, k3⟩ := (L_action hr (xs (q + 1)) (xs (q + 2))).x
        replace k2 : f_X3_action (g_h e + 5) _ _ _ = _ := k2
        simp only [s1, s2, Option.bind_some, zh, k1, m_bS, zmm e' c' m hh, k2, if_true]
        exact go e' c' m' hh k3
      rw [if_neg z5]
      by_cases z6 : z = 6
      · rw [if_pos z6]
        obtain ⟨e', c', m', a, hh, k1, k2, k3⟩ := (L_provider hr (xs (q + 1)) (xs (q + 2))).x
        replace k2 : f_X3_provider (g_h e + 5) _ _ _ = _ := k2
        simp only [s1, s2, Option.bind_some, zh, k1, m_bS, zmm e' c' m hh, k2, if_true]
        exact go e' c' m' hh k3
      rw [if_neg z6]
      by_cases z7 : z = 7
      · rw [if_pos z7]
        obtain ⟨e', c', m', a, hh, k1, k2, k3⟩ := (L_failed hr (xs (q + 1)) (xs (q + 2))).x
        replace k2 : f_X3_failed (g_h e + 5) _ _ _ = _ := k2
        simp only [s1, s2, Option.bind_some, zh, k1, m_bS, zmm e' c' m hh, k2, if_true]
        exact go e' c' m' hh k3
      rw [if_neg z7]
      by_cases z8 : z = 8
      · rw [if_pos z8]
        obtain ⟨e', c', m', a, hh, k1, k2, k3⟩ := (L_cell hr (xs (q + 1))).x
        replace k2 : f_X3_cell (g_h e + 5) _ _ = _ := k2
        simp only [s1, Option.bind_some, zh, k1, m_bS, zmm e' c' m hh, k2]
        rw [if_pos ((lg_cmp_eq _ _).mpr rfl)]
        exact go e' c' m' hh k3
      rw [if_neg z8]
      by_cases z9 : z = 9
      · rw [if_pos z9]
        obtain ⟨e', c', m', a, hh, k1, k2, k3⟩ := (L_same hr (xs (q + 1)) (xs (q + 2))).x
        replace k2 : f_X3_same (g_h e + 5) _ _ _ = _ := k2
        simp only [s1, s2, Option.bind_some, zh, k1, m_bS, zmm e' c' m hh, k2, if_true]
        exact go e' c' m' hh k3
      rw [if_neg z9]
      by_cases z10 : z = 10
      · rw [if_pos z10]
        simp only [s1, s2, s3, s4, s5, Option.bind_some]
        generalize ((((xs (q + 2) : Int32).toInt64) <<< ((32 : Int32).toInt64 &&& 63)) ||| (((xs (q + 3) : Int32).toInt64) &&& 4294967295)) = A
        generalize ((((xs (q + 4) : Int32).toInt64) <<< ((32 : Int32).toInt64 &&& 63)) ||| (((xs (q + 5) : Int32).toInt64) &&& 4294967295)) = B
        obtain ⟨e', c', m', v, l, hh, k1, k2, k3, k4, k5⟩ := L_divide hr (xs (q + 1)) A B
        replace k2 : f_X3_divide (g_h e + 5) _ _ _ _ = _ := k2
        have x0 : m_gI (WW e' c' m') 3 (g_h e + 5) 0 = some v := by
          have := xm0 e' c' m'
          rw [ar_h hh, k4] at this
          exact this
        have xL : m_aL (WW e' c' m') 8 (g_h e + 24) 0 = some (c'.2 1 0) := by
          have := xl e' c' m'
          rw [hh] at this
          exact this
        simp only [k1, m_bS, zmm e' c' m hh, zmm e' c' m' hh, Option.bind_some, k2, f_X3_thrown, x0, if_true, xL]
        by_cases hv : v = 0
        · rw [if_pos hv, if_pos ((lg_cmp_eq _ _).mpr (k5 hv))]
          exact go e' c' m' hh k3
        · rw [if_neg hv]
          exact go e' c' m' hh k3
      rw [if_neg z10]
      by_cases z11 : z = 11
      · rw [if_pos z11]
        simp only [s1, Option.bind_some]
        obtain ⟨e', c', m', v, l, hh, k1, k2, k3, k4, k5⟩ := L_handle hr (xs (q + 1))
        replace k2 : f_X3_handle (g_h e + 5) _ _ = _ := k2
        have x0 : m_gI (WW e' c' m') 3 (g_h e + 5) 0 = some v := by
          have := xm0 e' c' m'
          rw [ar_h hh, k4] at this
          exact this
        have xL : m_aL (WW e' c' m') 8 (g_h e + 24) 0 = some (c'.2 1 0) := by
          have := xl e' c' m'
          rw [hh] at this
          exact this
        simp only [k1, m_bS, zmm e' c' m hh, zmm e' c' m' hh, Option.bind_some, k2, f_X3_thrown, x0, if_true, xL]
        by_cases hv : v = 0
        · rw [if_pos hv, if_pos ((lg_cmp_eq _ _).mpr (k5 hv))]
          exact go e' c' m' hh k3
        · rw [if_neg hv]
          exact go e' c' m' hh k3
      rw [if_neg z11]
      exact go e c m rfl hr
end LOOP
