/-! ===== the start ===== -/
def q0 (i : Nat) : Nat × Nat := if i < 5 then (i, 0) else if i < 24 then (5, i - 5) else if i = 24 then (6, 0) else (12, 0)
def r0 (q : Nat × Nat) : Nat := if q.1 < 5 then q.1 else if q.1 = 5 then q.2 + 5 else if q.1 = 6 then 24 else 25
def own0 (n a : Nat) : Nat × Nat := if n ≤ a then q0 (a - n) else (12, 0)
theorem own0_i (n i : Nat) : own0 n (n + i) = q0 i := by
  unfold own0
  rw [if_pos (Nat.le_add_right n i), Nat.add_sub_cancel_left]
theorem q0_r {i : Nat} (h : (q0 i).1 < 12) : r0 (q0 i) = i ∧ i < 25 := by
  have hi : i < 25 := by
    refine Classical.byContradiction fun hh => ?_
    have : q0 i = (12, 0) := by
      unfold q0
      rw [if_neg (by omega), if_neg (by omega), if_neg (by omega)]
    rw [this] at h
    exact absurd h (by decide)
  have key : ∀ i, i < 25 → r0 (q0 i) = i := by decide
  exact ⟨key i hi, hi⟩
theorem q0_78 : ∀ i, ¬ ((q0 i).1 = 7 ∨ (8 ≤ (q0 i).1 ∧ (q0 i).1 < 12)) := by
  intro i
  unfold q0
  split
  · simp only
    omega
  · split
    · simp
    · split <;> simp
def e_0 (n : Nat) : GE := ⟨(n + 25, n, own0 n, (0, fun _ => 0, fun _ => 0), (0, fun _ => 0, fun _ => 0)), by
  refine ⟨⟨own0_i n 0, own0_i n 1, own0_i n 2, own0_i n 3, own0_i n 4, own0_i n 24⟩, fun i hi => ?_, fun r hr => absurd hr (Nat.not_lt_zero r), fun t ht => absurd ht (Nat.not_lt_zero t), fun a b hab h12 => ?_, fun a ha => ?_, fun a ha => ?_, fun a h1 h2 => ?_, fun t ht => absurd ht (Nat.not_lt_zero t), fun t ht => absurd ht (Nat.not_lt_zero t), Nat.zero_le 16, Nat.zero_le 40⟩
  · show own0 n (n + 5 + i) = (5, i)
    rw [Nat.add_assoc, own0_i]
    unfold q0
    rw [if_neg (by omega), if_pos (by omega), Nat.add_sub_cancel_left]
  · replace hab : own0 n a = own0 n b := hab
    replace h12 : (own0 n a).1 < 12 := h12
    have h12b : (own0 n b).1 < 12 := by rw [← hab]; exact h12
    have ga : n ≤ a := by
      refine Classical.byContradiction fun hh => ?_
      unfold own0 at h12
      rw [if_neg hh] at h12
      exact absurd h12 (by decide)
    have gb : n ≤ b := by
      refine Classical.byContradiction fun hh => ?_
      unfold own0 at h12b
      rw [if_neg hh] at h12b
      exact absurd h12b (by decide)
    obtain ⟨i, rfl⟩ : ∃ i, a = n + i := ⟨a - n, by omega⟩
    obtain ⟨j, rfl⟩ : ∃ j, b = n + j := ⟨b - n, by omega⟩
    rw [own0_i] at h12 h12b
    rw [own0_i, own0_i] at hab
    have h1 := (q0_r h12).1
    have h2 := (q0_r h12b).1
    rw [hab, h2] at h1
    rw [h1]
  · replace ha : n + 25 ≤ a := ha
    obtain ⟨i, rfl⟩ : ∃ i, a = n + i := ⟨a - n, by omega⟩
    show own0 n (n + i) = (12, 0)
    rw [own0_i]
    unfold q0
    rw [if_neg (by omega), if_neg (by omega), if_neg (by omega)]
  · replace ha : (own0 n a).1 = 7 := ha
    by_cases g : n ≤ a
    · obtain ⟨i, rfl⟩ : ∃ i, a = n + i := ⟨a - n, by omega⟩
      rw [own0_i] at ha
      exact absurd (Or.inl ha) (q0_78 i)
    · unfold own0 at ha
      rw [if_neg g] at ha
      exact absurd ha (by decide)
  · replace h1 : 8 ≤ (own0 n a).1 := h1
    replace h2 : (own0 n a).1 < 12 := h2
    by_cases g : n ≤ a
    · obtain ⟨i, rfl⟩ : ∃ i, a = n + i := ⟨a - n, by omega⟩
      rw [own0_i] at h1 h2
      exact absurd (Or.inr ⟨h1, h2⟩) (q0_78 i)
    · unfold own0 at h2
      rw [if_neg g] at h2
      exact absurd h2 (by decide)⟩
def c_0 (s : Int32) : CS := uc (fun _ _ => 0, fun _ _ => 0) 1 0 s
theorem c0_r {s : Int32} {k i : Nat} (h : k ≠ 1) : (c_0 s).1 k i = 0 := by
  unfold c_0
  rw [uc_r, if_neg (fun hh => h hh.1)]
theorem Rel_0 (n s : Nat) (hs : s ≤ 65536) : Rel (e_0 n) (c_0 (nI s)) (c_0 (nI s)) := by
  refine ⟨fun _ _ => rfl, ⟨c0_r (by decide), fun r hr => absurd hr (Nat.not_lt_zero r), fun r hr => absurd hr (Nat.not_lt_zero r), fun r s hr => absurd hr (Nat.not_lt_zero r), fun r hr => absurd hr (Nat.not_lt_zero r), fun r hr => absurd hr (Nat.not_lt_zero r), fun r s hr => absurd hr (Nat.not_lt_zero r), fun r hr => absurd hr (Nat.not_lt_zero r), c0_r (by decide)⟩, ⟨c0_r (by decide), ⟨s, hs, rfl, fun t ht => absurd ht (Nat.not_lt_zero t)⟩, fun t _ => ⟨c0_r (by decide), c0_r (by decide), c0_r (by decide), c0_r (by decide), c0_r (by decide), c0_r (by decide), c0_r (by decide), c0_r (by decide)⟩, fun i _ => c0_r (by decide), fun i _ => ⟨c0_r (by decide), c0_r (by decide)⟩⟩, ⟨⟨0, by decide, c0_r (by decide), fun i hi => absurd hi (Nat.not_lt_zero i)⟩, 0, by decide, c0_r (by decide)⟩⟩
-- the two constructors
def AL (o k : Nat) (x : Nat ⊕ (Nat × Nat)) (f : Nat → Value) (st : MS) : MS := (st.1 + 1, m_knew st.2.1 st.1 x, m_up (m_row st.2.2 st.1 f) o k (.ref st.1))
theorem AL_r {o k : Nat} {x : Nat ⊕ (Nat × Nat)} {f : Nat → Value} {st : MS} {a j : Nat} : (AL o k x f st).2.2 a j = if a = o ∧ j = k then .ref st.1 else if a = st.1 then f j else st.2.2 a j := by
  show (if a = o ∧ j = k then Value.ref st.1 else (if a = st.1 then f else st.2.2 a) j) = _
  by_cases h : a = st.1
  · rw [if_pos h, if_pos h]
  · rw [if_neg h, if_neg h]
def PU (o k : Nat) (v : Value) (st : MS) : MS := (st.1, st.2.1, m_up st.2.2 o k v)
def OKs (ci o : Nat) (st : MS) : Prop := st.2.1 o = some (.inl ci) ∧ o < st.1
theorem OKs.al {ci o k : Nat} {x : Nat ⊕ (Nat × Nat)} {f : Nat → Value} {st : MS} (h : OKs ci o st) : OKs ci o (AL o k x f st) := by
  refine ⟨?_, Nat.lt_succ_of_lt h.2⟩
  show (if o = st.1 then _ else _) = _
  rw [if_neg (Nat.ne_of_lt h.2)]
  exact h.1
theorem OKs.pu {ci o k : Nat} {v : Value} {st : MS} (h : OKs ci o st) : OKs ci o (PU o k v st) := h
theorem f_al {β : Type} {ci o k : Nat} {x : Nat ⊕ (Nat × Nat)} {f : Nat → Value} {st : MS} {G : MS → Option β} (h : OKs ci o st) : (m_nw st x f fun a s => (m_p s ci o k (.ref a)).bind G) = G (AL o k x f st) := by
  have hk : (m_mk st x f).2.1 o = some (.inl ci) := by
    show (if o = st.1 then _ else _) = _
    rw [if_neg (Nat.ne_of_lt h.2)]
    exact h.1
  have h1 : m_p (m_mk st x f) ci o k (.ref st.1) = some (AL o k x f st) := if_pos hk
  show (m_p (m_mk st x f) ci o k (.ref st.1)).bind G = _
  rw [h1]
  rfl
theorem f_pu {β : Type} {ci o k : Nat} {v : Value} {st : MS} {G : MS → Option β} (h : OKs ci o st) : (m_p st ci o k v).bind G = G (PU o k v st) := by
  unfold m_p
  rw [if_pos h.1]
  rfl
/-- the class's cells after its constructor -/
def S_c (n : Nat) (v : Int32) (st : MS) : MS := PU n 0 (.int v) (PU n 9 (.int 0) (PU n 8 (.int 0) (AL n 7 (.inr (1, 400)) (fun _ => defaultValue .int) (AL n 6 (.inr (1, 400)) (fun _ => defaultValue .int) (PU n 5 (.int 0) (AL n 4 (.inr (4, 40)) (fun _ => .null) (PU n 3 (.int 0) (PU n 2 (.int 0) (AL n 1 (.inr (3, 16)) (fun _ => .null) st)))))))))
theorem init_c {n : Nat} {p : Int32} {st : MS} (h : OKs 0 n st) : f_X0_init n p st = some ((), S_c n (if 65536 < (if p < 0 then 0 else p) then 65536 else (if p < 0 then 0 else p)) st) := by
  unfold f_X0_init S_c
  rw [f_al h, f_pu h.al, f_pu h.al.pu, f_al h.al.pu.pu, f_pu h.al.pu.pu.al, f_al h.al.pu.pu.al.pu, f_al h.al.pu.pu.al.pu.al, f_pu h.al.pu.pu.al.pu.al.al, f_pu h.al.pu.pu.al.pu.al.al.pu, f_pu h.al.pu.pu.al.pu.al.al.pu.pu]
/-- the class's cells, plainly -/
def KC (n : Nat) : MK := fun a => if a = n then some (.inl 0) else if a = n + 1 then some (.inr (3, 16)) else if a = n + 2 then some (.inr (4, 40)) else if a = n + 3 ∨ a = n + 4 then some (.inr (1, 400)) else none
def hs0 (n : Nat) (v : Int32) (j : Nat) : Value := match j with
  | 0 => .int v | 1 => .ref (n + 1) | 2 => .int 0 | 3 => .int 0 | 4 => .ref (n + 2) | 5 => .int 0 | 6 => .ref (n + 3) | 7 => .ref (n + 4) | 8 => .int 0 | 9 => .int 0 | _ => defaultValue (tyX0 j)
def MC (n : Nat) (v : Int32) : MM := fun a j => if a = n then hs0 n v j else if a = n + 3 ∨ a = n + 4 then .int 0 else .null
def b_0 (n : Nat) : MS := m_mk (n, fun _ => none, fun _ _ => .null) (.inl 0) (fun j => defaultValue (tyX0 j))
theorem S_c_eq (n : Nat) (v : Int32) : S_c n v (b_0 n) = (n + 5, KC n, MC n v) := by
  refine Prod.ext rfl (Prod.ext ?_ ?_)
  · funext a
    simp only [S_c, b_0, AL, PU, m_mk, m_knew, KC, Nat.add_assoc, Nat.reduceAdd]
    by_cases h0 : a = n
    · rw [if_neg (by omega), if_neg (by omega), if_neg (by omega), if_neg (by omega), if_pos h0, if_pos h0]
    by_cases h1 : a = n + 1
    · rw [if_neg (by omega), if_neg (by omega), if_neg (by omega), if_pos h1, if_neg h0, if_pos h1]
    by_cases h2 : a = n + 2
    · rw [if_neg (by omega), if_neg (by omega), if_pos h2, if_neg h0, if_neg h1, if_pos h2]
    by_cases h3 : a = n + 3
    · rw [if_neg (by omega), if_pos h3, if_neg h0, if_neg h1, if_neg h2, if_pos (Or.inl h3)]
    by_cases h4 : a = n + 4
    · rw [if_pos h4, if_neg h0, if_neg h1, if_neg h2, if_pos (Or.inr h4)]
    rw [if_neg h4, if_neg h3, if_neg h2, if_neg h1, if_neg h0, if_neg h0, if_neg h1, if_neg h2, if_neg (by omega)]
  · funext a j
    simp only [S_c, b_0, AL, PU, m_mk, m_up, m_row, MC, Nat.add_assoc, Nat.reduceAdd]
    by_cases h0 : a = n
    · subst h0
      have c1 : ¬ a = a + 1 := by omega
      have c2 : ¬ a = a + 2 := by omega
      have c3 : ¬ a = a + 3 := by omega
      have c4 : ¬ a = a + 4 := by omega
      repeat simp only [m_up, m_row, c1, c2, c3, c4, true_and, if_true, if_false]
      have hj : j = 0 ∨ j = 1 ∨ j = 2 ∨ j = 3 ∨ j = 4 ∨ j = 5 ∨ j = 6 ∨ j = 7 ∨ j = 8 ∨ j = 9 ∨ ∃ i, j = i + 10 := by
        by_cases h6 : j < 10
        · omega
        · exact Or.inr (Or.inr (Or.inr (Or.inr (Or.inr (Or.inr (Or.inr (Or.inr (Or.inr (Or.inr ⟨j - 10, by omega⟩)))))))))
      rcases hj with rfl | rfl | rfl | rfl | rfl | rfl | rfl | rfl | rfl | rfl | ⟨i, rfl⟩
      · rfl
      · rfl
      · rfl
      · rfl
      · rfl
      · rfl
      · rfl
      · rfl
      · rfl
      · rfl
      · rw [if_neg (by omega), if_neg (by omega), if_neg (by omega), if_neg (by omega), if_neg (by omega), if_neg (by omega), if_neg (by omega), if_neg (by omega), if_neg (by omega), if_neg (by omega)]
        rfl
    · simp only [h0, false_and, if_false]
      by_cases h4 : a = n + 4
      · simp only [h4, if_true, or_true]
        rfl
      by_cases h3 : a = n + 3
      · repeat simp only [m_up, m_row, h0, h4, h3, Nat.add_left_cancel_iff, Nat.reduceEqDiff, Nat.add_eq_left, false_and, if_true, if_false, true_or]
        rfl
      · repeat simp only [m_up, m_row, h0, h4, h3, false_and, if_false, or_self]
        by_cases h2 : a = n + 2
        · rw [if_pos h2]
        · rw [if_neg h2]
          repeat simp only [m_up, m_row, h0, false_and, if_false]
          by_cases h1 : a = n + 1
          · rw [if_pos h1]
          · rw [if_neg h1]
            repeat simp only [m_up, m_row, h0, false_and, if_false]
/-- the reference's cells, the first i of its arrays made -/
def TM (o : Nat) (K0 : MK) (M0 : MM) (i : Nat) : MS := (o + 1 + i, fun a => if o < a ∧ a < o + 1 + i then some (.inr (kM (a - o))) else K0 a, fun a j => if a = o then (if 7 ≤ j ∧ j < 7 + i then .ref (o + (j - 6)) else M0 a j) else if o < a ∧ a < o + 1 + i then (if a - o = 5 then .long 0 else .int 0) else M0 a j)
theorem TM_0 (o : Nat) (K0 : MK) (M0 : MM) : (o + 1, K0, M0) = TM o K0 M0 0 := by
  refine Prod.ext rfl (Prod.ext ?_ ?_)
  · funext a
    show K0 a = (if _ then _ else _)
    rw [if_neg (by omega)]
  · funext a j
    show M0 a j = (if a = o then (if _ then _ else M0 a j) else if _ then _ else _)
    rw [if_neg (show ¬ (7 ≤ j ∧ j < 7 + 0) by omega), if_neg (show ¬ (o < a ∧ a < o + 1 + 0) by omega), ite_self]
theorem TM_al {β : Type} {o : Nat} {K0 : MK} {M0 : MM} (i : Nat) {k : Nat} {x : Nat ⊕ (Nat × Nat)} {f : Nat → Value} {G : MS → Option β} (hK : K0 o = some (.inl 3)) (hk : k = 7 + i) (hx : x = .inr (kM (i + 1))) (hf : ∀ j, f j = if i + 1 = 5 then .long 0 else .int 0) : (m_nw (TM o K0 M0 i) x f fun a s => (m_p s 3 o k (.ref a)).bind G) = G (TM o K0 M0 (i + 1)) := by
  have hok : OKs 3 o (TM o K0 M0 i) := by
    refine ⟨?_, ?_⟩
    · show (if o < o ∧ _ then _ else K0 o) = _
      rw [if_neg (by omega)]
      exact hK
    · show o < o + 1 + i
      omega
  rw [f_al hok]
  refine congrArg G (Prod.ext rfl (Prod.ext ?_ ?_))
  · funext a
    show (if a = o + 1 + i then some x else if o < a ∧ a < o + 1 + i then some (Sum.inr (kM (a - o))) else K0 a) = if o < a ∧ a < o + 1 + (i + 1) then some (Sum.inr (kM (a - o))) else K0 a
    by_cases h0 : a = o + 1 + i
    · rw [if_pos h0, if_pos (by omega), hx, show a - o = i + 1 by omega]
    · rw [if_neg h0]
      by_cases h1 : o < a ∧ a < o + 1 + i
      · rw [if_pos h1, if_pos (by omega)]
      · rw [if_neg h1, if_neg (by omega)]
  · funext a j
    rw [AL_r]
    show (if a = o ∧ j = k then Value.ref (o + 1 + i) else if a = o + 1 + i then f j else if a = o then (if 7 ≤ j ∧ j < 7 + i then .ref (o + (j - 6)) else M0 a j) else if o < a ∧ a < o + 1 + i then (if a - o = 5 then .long 0 else .int 0) else M0 a j) = if a = o then (if 7 ≤ j ∧ j < 7 + (i + 1) then .ref (o + (j - 6)) else M0 a j) else if o < a ∧ a < o + 1 + (i + 1) then (if a - o = 5 then .long 0 else .int 0) else M0 a j
    by_cases h0 : a = o
    · rw [if_neg (show ¬ a = o + 1 + i by omega), if_pos h0, if_pos h0]
      by_cases h1 : j = k
      · rw [if_pos ⟨h0, h1⟩, if_pos (by omega), show o + (j - 6) = o + 1 + i by omega]
      · rw [if_neg (fun hh => h1 hh.2)]
        by_cases h2 : 7 ≤ j ∧ j < 7 + i
        · rw [if_pos h2, if_pos (by omega)]
        · rw [if_neg h2, if_neg (by omega)]
    · rw [if_neg (fun hh => h0 hh.1), if_neg h0, if_neg h0]
      by_cases h1 : a = o + 1 + i
      · rw [if_pos h1, if_pos (by omega), hf, show a - o = i + 1 by omega]
      · rw [if_neg h1]
        by_cases h2 : o < a ∧ a < o + 1 + i
        · rw [if_pos h2, if_pos (show o < a ∧ a < o + 1 + (i + 1) by omega)]
        · rw [if_neg h2, if_neg (show ¬ (o < a ∧ a < o + 1 + (i + 1)) by omega)]
theorem init_m {o : Nat} {p : Int32} {K0 : MK} {M0 : MM} (hK : K0 o = some (.inl 3)) : f_X3_init o p (TM o K0 M0 0) = some ((), PU o 1 (.int (if 0 ≤ p then (if p ≤ 65536 then p else 65536) else 0)) (TM o K0 M0 18)) := by
  have hi : ∀ j : Nat, (fun _ => defaultValue .int : Nat → Value) j = .int 0 := fun _ => rfl
  have hb : ∀ j : Nat, (fun _ => defaultValue .boolean : Nat → Value) j = .int 0 := fun _ => rfl
  have hl : ∀ j : Nat, (fun _ => defaultValue .long : Nat → Value) j = .long 0 := fun _ => rfl
  have hok : OKs 3 o (TM o K0 M0 18) := by
    refine ⟨?_, ?_⟩
    · show (if o < o ∧ _ then _ else K0 o) = _
      rw [if_neg (by omega)]
      exact hK
    · show o < o + 1 + 18
      omega
  unfold f_X3_init
  rw [TM_al 0 (k := 7) (x := .inr (5, 16)) hK rfl rfl hi, TM_al 1 (k := 8) (x := .inr (5, 16)) hK rfl rfl hi, TM_al 2 (k := 9) (x := .inr (5, 16)) hK rfl rfl hi, TM_al 3 (k := 10) (x := .inr (6, 16)) hK rfl rfl hb, TM_al 4 (k := 11) (x := .inr (7, 16)) hK rfl rfl hl, TM_al 5 (k := 12) (x := .inr (5, 40)) hK rfl rfl hi, TM_al 6 (k := 13) (x := .inr (5, 160)) hK rfl rfl hi, TM_al 7 (k := 14) (x := .inr (5, 40)) hK rfl rfl hi, TM_al 8 (k := 15) (x := .inr (5, 40)) hK rfl rfl hi, TM_al 9 (k := 16) (x := .inr (5, 40)) hK rfl rfl hi, TM_al 10 (k := 17) (x := .inr (5, 40)) hK rfl rfl hi, TM_al 11 (k := 18) (x := .inr (5, 40)) hK rfl rfl hi, TM_al 12 (k := 19) (x := .inr (5, 40)) hK rfl rfl hi, TM_al 13 (k := 20) (x := .inr (5, 120)) hK rfl rfl hi, TM_al 14 (k := 21) (x := .inr (6, 40)) hK rfl rfl hb, TM_al 15 (k := 22) (x := .inr (6, 120)) hK rfl rfl hb, TM_al 16 (k := 23) (x := .inr (5, 400)) hK rfl rfl hi, TM_al 17 (k := 24) (x := .inr (5, 400)) hK rfl rfl hi]
  by_cases h0 : 0 ≤ p
  · rw [if_pos h0, if_pos h0]
    by_cases h1 : p ≤ 65536
    · rw [if_pos h1, if_pos h1, f_pu hok]
    · rw [if_neg h1, if_neg h1, f_pu hok]
  · rw [if_neg h0, if_neg h0, f_pu hok]
theorem steps_eq (p : Int32) : ∃ s, s ≤ 65536 ∧ (if 65536 < (if p < 0 then 0 else p) then 65536 else (if p < 0 then 0 else p)) = nI s ∧ (if 0 ≤ p then (if p ≤ 65536 then p else 65536) else 0) = nI s := by
  by_cases h0 : p < 0
  · have h1 : ¬ 0 ≤ p := Int32.not_le.mpr h0
    have h2 : ¬ (65536 : Int32) < 0 := by decide
    refine ⟨0, by decide, ?_, ?_⟩
    · rw [if_pos h0, if_neg h2]
      rfl
    · rw [if_neg h1]
      rfl
  · have h1 : 0 ≤ p := Int32.not_lt.mp h0
    rw [if_neg h0, if_pos h1]
    obtain ⟨j, hj, rfl⟩ := nI_of h0
    by_cases h2 : j ≤ 65536
    · have h3 : ¬ (65536 : Int32) < nI j := nI_nlt (a := 65536) h2 (by decide)
      have h4 : nI j ≤ 65536 := nI_le (b := 65536) h2 (by decide)
      exact ⟨j, h2, if_neg h3, if_pos h4⟩
    · have h3 : (65536 : Int32) < nI j := nI_lt (a := 65536) (by omega) hj
      have h4 : ¬ nI j ≤ 65536 := nI_ge (a := 65536) (by omega) hj
      exact ⟨65536, by decide, if_pos h3, if_neg h4⟩
/-- all that lies there when the loop begins -/
def S_0 (n : Nat) (v : Int32) : MS := m_mk (PU (n + 5) 1 (.int v) (TM (n + 5) (m_knew (KC n) (n + 5) (.inl 3)) (m_row (MC n v) (n + 5) (fun j => defaultValue (tyX3 j))) 18)) (.inr (8, 1)) (fun _ => defaultValue .long)
theorem q0_lt {i : Nat} (h : i < 5) : q0 i = (i, 0) := if_pos h
theorem q0_m {i : Nat} (h : 5 ≤ i) (h2 : i < 24) : q0 i = (5, i - 5) := by
  unfold q0
  rw [if_neg (by omega), if_pos h2]
theorem S_0_eq (n : Nat) (v : Int32) : S_0 n v = WW (e_0 n) (c_0 v) (c_0 v) := by
  have hout : ∀ a, ¬ (n ≤ a ∧ a < n + 25) → own0 n a = (12, 0) := by
    intro a ha
    unfold own0
    by_cases g : n ≤ a
    · rw [if_pos g]
      unfold q0
      rw [if_neg (by omega), if_neg (by omega), if_neg (by omega)]
    · rw [if_neg g]
  refine Prod.ext rfl (Prod.ext ?_ ?_)
  · funext a
    show (if a = n + 5 + 1 + 18 then some (Sum.inr (8, 1)) else if n + 5 < a ∧ a < n + 5 + 1 + 18 then some (Sum.inr (kM (a - (n + 5)))) else if a = n + 5 then some (Sum.inl 3) else KC n a) = KV (own0 n a)
    by_cases h24 : a = n + 24
    · rw [if_pos h24, h24, own0_i]
      rfl
    rw [if_neg (by omega)]
    by_cases h1 : n + 5 < a ∧ a < n + 5 + 1 + 18
    · rw [if_pos h1]
      obtain ⟨i, rfl⟩ : ∃ i, a = n + i := ⟨a - n, by omega⟩
      rw [own0_i, q0_m (by omega) (by omega), show n + i - (n + 5) = i - 5 by omega]
      show _ = (if i - 5 = 0 then _ else _)
      rw [if_neg (by omega)]
    rw [if_neg h1]
    by_cases h5 : a = n + 5
    · rw [if_pos h5, h5, own0_i]
      rfl
    rw [if_neg h5]
    unfold KC
    by_cases h0 : a = n
    · rw [if_pos h0, h0, show own0 n n = q0 0 from own0_i n 0]
      rfl
    rw [if_neg h0]
    by_cases k1 : a = n + 1
    · rw [if_pos k1, k1, own0_i]
      rfl
    rw [if_neg k1]
    by_cases k2 : a = n + 2
    · rw [if_pos k2, k2, own0_i]
      rfl
    rw [if_neg k2]
    by_cases k3 : a = n + 3
    · rw [if_pos (Or.inl k3), k3, own0_i]
      rfl
    by_cases k4 : a = n + 4
    · rw [if_pos (Or.inr k4), k4, own0_i]
      rfl
    rw [if_neg (by omega), hout a (by omega)]
    rfl
  · funext a j
    show (if a = n + 5 + 1 + 18 then (fun _ => defaultValue .long) else fun j => if a = n + 5 ∧ j = 1 then Value.int v else if a = n + 5 then (if 7 ≤ j ∧ j < 7 + 18 then Value.ref (n + 5 + (j - 6)) else (if a = n + 5 then (fun j => defaultValue (tyX3 j)) else MC n v a) j) else if n + 5 < a ∧ a < n + 5 + 1 + 18 then (if a - (n + 5) = 5 then Value.long 0 else Value.int 0) else (if a = n + 5 then (fun j => defaultValue (tyX3 j)) else MC n v a) j) j = VV (e_0 n) (c_0 v) (c_0 v) (own0 n a) j
    by_cases h24 : a = n + 24
    · rw [if_pos h24, h24, own0_i]
      rfl
    rw [if_neg (by omega)]
    by_cases h5 : a = n + 5
    · have hown : own0 n a = (5, 0) := by rw [h5, own0_i]; rfl
      rw [hown]
      show (if a = n + 5 ∧ j = 1 then Value.int v else if a = n + 5 then (if 7 ≤ j ∧ j < 7 + 18 then Value.ref (n + 5 + (j - 6)) else (if a = n + 5 then (fun j => defaultValue (tyX3 j)) else MC n v a) j) else _) = _
      rw [if_pos h5, if_pos h5]
      by_cases h7 : j < 7
      · have hv : VV (e_0 n) (c_0 v) (c_0 v) (5, 0) j = .int ((c_0 v).1 j 0) := by
          have h1 : locC (5, 0) j = none := rfl
          have h2 : locM (5, 0) j = some (j, 0) := by
            show (if j < 7 then some (j, 0) else none) = _
            rw [if_pos h7]
          simp only [VV, h1, h2]
        rw [hv]
        by_cases j1 : j = 1
        · rw [if_pos ⟨h5, j1⟩, j1]
          rfl
        · rw [if_neg (fun hh => j1 hh.2), if_neg (by omega), c0_r j1]
          have hj : j = 0 ∨ j = 2 ∨ j = 3 ∨ j = 4 ∨ j = 5 ∨ j = 6 := by omega
          rcases hj with rfl | rfl | rfl | rfl | rfl | rfl <;> rfl
      · have hv : VV (e_0 n) (c_0 v) (c_0 v) (5, 0) j = vR (e_0 n) (5, 0) j := by
          have h1 : locC (5, 0) j = none := rfl
          have h2 : locM (5, 0) j = none := by
            show (if j < 7 then some (j, 0) else none) = _
            rw [if_neg h7]
          have h3 : locG (5, 0) j = none := rfl
          have h4 : locH (5, 0) j = none := rfl
          simp only [VV, h1, h2, h3, h4]
        rw [hv, if_neg (by omega)]
        show _ = (if 7 ≤ j ∧ j < 25 then Value.ref (n + 5 + (j - 6)) else defaultValue (tyX3 j))
        rfl
    show (if a = n + 5 ∧ j = 1 then Value.int v else if a = n + 5 then _ else if n + 5 < a ∧ a < n + 5 + 1 + 18 then (if a - (n + 5) = 5 then Value.long 0 else Value.int 0) else (if a = n + 5 then (fun j => defaultValue (tyX3 j)) else MC n v a) j) = _
    rw [if_neg (fun hh => h5 hh.1), if_neg h5, if_neg h5]
    by_cases h1 : n + 5 < a ∧ a < n + 5 + 1 + 18
    · rw [if_pos h1]
      obtain ⟨i, rfl⟩ : ∃ i, a = n + i := ⟨a - n, by omega⟩
      rw [own0_i, q0_m (by omega) (by omega), show n + i - (n + 5) = i - 5 by omega]
      by_cases h10 : i - 5 = 5
      · rw [if_pos h10, h10]
        rfl
      · rw [if_neg h10]
        have hc : locC (5, i - 5) j = none := rfl
        have hm : locM (5, i - 5) j = some (i - 5 + 6, j) := by
          show (if i - 5 = 0 then _ else if i - 5 = 5 then none else if i - 5 < 19 then some (i - 5 + 6, j) else none) = _
          rw [if_neg (by omega), if_neg h10, if_pos (by omega)]
        simp only [VV, hc, hm]
        rw [c0_r (by omega)]
    rw [if_neg h1]
    unfold MC
    by_cases h0 : a = n
    · rw [if_pos h0, h0, show own0 n n = q0 0 from own0_i n 0]
      have hj : j = 0 ∨ j = 1 ∨ j = 2 ∨ j = 3 ∨ j = 4 ∨ j = 5 ∨ j = 6 ∨ j = 7 ∨ j = 8 ∨ j = 9 ∨ ∃ i, j = i + 10 := by
        by_cases h6 : j < 10
        · omega
        · exact Or.inr (Or.inr (Or.inr (Or.inr (Or.inr (Or.inr (Or.inr (Or.inr (Or.inr (Or.inr ⟨j - 10, by omega⟩)))))))))
      rcases hj with rfl | rfl | rfl | rfl | rfl | rfl | rfl | rfl | rfl | rfl | ⟨i, rfl⟩
      · rfl
      · rfl
      · rfl
      · rfl
      · rfl
      · rfl
      · rfl
      · rfl
      · rfl
      · rfl
      · rfl
    rw [if_neg h0]
    by_cases k1 : a = n + 1
    · rw [if_neg (by omega), k1, own0_i]
      rfl
    by_cases k2 : a = n + 2
    · rw [if_neg (by omega), k2, own0_i]
      rfl
    by_cases k3 : a = n + 3
    · rw [if_pos (Or.inl k3), k3, own0_i]
      rfl
    by_cases k4 : a = n + 4
    · rw [if_pos (Or.inr k4), k4, own0_i]
      rfl
    rw [if_neg (by omega), hout a (by omega)]
    rfl
theorem lm_cell (L : Nat) (xs : Nat → Int32) (hL : L ≤ 3073) : ∃ x, f_L_cell L xs 0 = some x := by
  unfold f_L_cell
  by_cases h : nI L ≤ 0
  · exact ⟨0, if_pos h⟩
  · rw [if_neg h]
    have h0 : 0 < L := by
      refine Classical.byContradiction fun hh => h ?_
      have : L = 0 := by omega
      subst this
      decide
    have h1 := sc_k (k := 0) (xs := xs) h0 (by omega)
    rw [nI_0] at h1
    exact ⟨xs 0, h1⟩
theorem lm_init_c {n s : Nat} {x : Int32} (e1 : (if 65536 < (if x < 0 then 0 else x) then 65536 else (if x < 0 then 0 else x)) = nI s) : f_X0_init n x (b_0 n) = some ((), (n + 5, KC n, MC n (nI s))) := by
  have hc : OKs 0 n (b_0 n) := ⟨if_pos rfl, Nat.lt_succ_self n⟩
  rw [init_c hc, e1, S_c_eq]
theorem lm_init_m {n s : Nat} {x : Int32} (e2 : (if 0 ≤ x then (if x ≤ 65536 then x else 65536) else 0) = nI s) : f_X3_init (n + 5) x (m_mk (n + 5, KC n, MC n (nI s)) (.inl 3) (fun j => defaultValue (tyX3 j))) = some ((), PU (n + 5) 1 (.int (nI s)) (TM (n + 5) (m_knew (KC n) (n + 5) (.inl 3)) (m_row (MC n (nI s)) (n + 5) (fun j => defaultValue (tyX3 j))) 18)) := by
  have h2 : m_mk (n + 5, KC n, MC n (nI s)) (.inl 3) (fun j => defaultValue (tyX3 j)) = TM (n + 5) (m_knew (KC n) (n + 5) (.inl 3)) (m_row (MC n (nI s)) (n + 5) (fun j => defaultValue (tyX3 j))) 0 := TM_0 _ _ _
  have h3 := init_m (o := n + 5) (p := x) (K0 := m_knew (KC n) (n + 5) (.inl 3)) (M0 := m_row (MC n (nI s)) (n + 5) (fun j => defaultValue (tyX3 j))) (if_pos rfl)
  rw [e2] at h3
  rw [h2, h3]
theorem lm_S0 (n : Nat) (v : Int32) : (PU (n + 5) 1 (.int v) (TM (n + 5) (m_knew (KC n) (n + 5) (.inl 3)) (m_row (MC n v) (n + 5) (fun j => defaultValue (tyX3 j))) 18)).1 = n + 24 := rfl
theorem lm_nw {β : Type} {st : MS} {x : Nat ⊕ (Nat × Nat)} {f : Nat → Value} {k : Nat → MS → Option β} : m_nw st x f k = k st.1 (m_mk st x f) := rfl
theorem lm_key {β : Type} {C : Option Int32} {n s : Nat} {x : Int32} (F : Nat → Nat → Nat → MS → Option β) (hx : C = some x) (e1 : (if 65536 < (if x < 0 then 0 else x) then 65536 else (if x < 0 then 0 else x)) = nI s) (e2 : (if 0 ≤ x then (if x ≤ 65536 then x else 65536) else 0) = nI s) :
    (m_nw (n, fun _ => none, fun _ _ => .null) (.inl 0) (fun j => defaultValue (tyX0 j)) fun a1 s2 =>
      C.bind fun x4 =>
      m_b (f_X0_init a1 x4 s2) fun u6 s7 =>
      m_nw s7 (.inl 3) (fun j => defaultValue (tyX3 j)) fun a9 s10 =>
      C.bind fun x12 =>
      m_b (f_X3_init a9 x12 s10) fun u14 s15 =>
      m_nw s15 (.inr (8, 1)) (fun _ => defaultValue .long) fun a17 s18 =>
      F a17 a9 a1 s18) = F (n + 24) (n + 5) n (S_0 n (nI s)) := by
  have hb : m_mk (n, fun _ => none, fun _ _ => .null) (.inl 0) (fun j => defaultValue (tyX0 j)) = b_0 n := rfl
  subst hx
  rw [lm_nw]
  simp only [Option.bind_some, hb]
  rw [lm_init_c e1]
  simp only [m_bS, lm_nw]
  rw [lm_init_m e2]
  simp only [m_bS, lm_S0]
  unfold S_0
  rfl
theorem law_math (L : Nat) (xs : Nat → Int32) (n : Nat) (hL : L ≤ 3073) : ∃ st', f_L_law L xs (n, fun _ => none, fun _ _ => .null) = some (1, st') := by
  obtain ⟨x, hx⟩ := lm_cell L xs hL
  obtain ⟨s, hs, e1, e2⟩ := steps_eq x
  obtain ⟨st', hl⟩ := law_loop (xs := xs) hL n 512 1 (e_0 n) (c_0 (nI s)) (c_0 (nI s)) rfl (Rel_0 n s hs) (by omega) (by omega)
  refine ⟨st', ?_⟩
  rw [← S_0_eq] at hl
  have n1 : nI 1 = 1 := by decide
  rw [n1] at hl
  unfold f_L_law
  rw [lm_key (fun a b c s => f_L_law_L33 L xs 513 1 a b c s) hx e1 e2]
  exact hl
