/-! ===== MY LAYER: one world for all cells: which kind of cell lies at an address, and what it holds ===== -/
/-- .inl c: an object of class number c; .inr (t, n): an array of n of the array type number t (t = 0: the script, never written) -/
abbrev MK : Type := Nat → Option (Nat ⊕ (Nat × Nat))
abbrev MM : Type := Nat → Nat → Value
/-- the heap's size, the kinds, the contents -/
abbrev MS : Type := Nat × MK × MM
def m_up (M : MM) (a k : Nat) (v : Value) : MM := fun b j => if b = a ∧ j = k then v else M b j
def m_row (M : MM) (a : Nat) (f : Nat → Value) : MM := fun b => if b = a then f else M b
def m_knew (K : MK) (a : Nat) (x : Nat ⊕ (Nat × Nat)) : MK := fun b => if b = a then some x else K b
def m_A (b : Nat) : Nat → Prop := fun q => b ≤ q
def mw_at (D : va_G) (cl : List vw_C) (tys : List (ClassId × FieldType)) (x : Nat ⊕ (Nat × Nat)) (a : Nat) (f : Nat → Value) (H : Heap) : Prop := match x with
  | .inl ci => ∃ r : vw_C, cl[ci]? = some r ∧ t_OB a (D.1 ci) r.2.2 (D.2 ci) H f
  | .inr q => ∃ r : ClassId × FieldType, tys[q.1]? = some r ∧ H[a]? = some (arrV r.1 q.2 f)
def mw (D : va_G) (cl : List vw_C) (tys : List (ClassId × FieldType)) (b : Nat) (st : MS) (H : Heap) : Prop := H.size = st.1 ∧ b ≤ st.1 ∧ (∀ (a : Nat) (x : Nat ⊕ (Nat × Nat)), st.2.1 a = some x → ((∀ n, x ≠ .inr (0, n)) → b ≤ a) ∧ mw_at D cl tys x a (st.2.2 a) H) ∧ ∀ (a : Nat) (cell : Cell), b ≤ a → H[a]? = some cell → cell.vm.isStatics = false
theorem mw_at.kept {D : va_G} {cl : List vw_C} {tys : List (ClassId × FieldType)} {x : Nat ⊕ (Nat × Nat)} {a : Nat} {f : Nat → Value} {H H1 : Heap} (h : mw_at D cl tys x a f H) (hq : H1[a]? = H[a]?) : mw_at D cl tys x a f H1 := by
  cases x with
  | inl ci =>
    obtain ⟨r, h1, h2⟩ := h
    exact ⟨r, h1, h2.kept hq⟩
  | inr q =>
    obtain ⟨r, h1, h2⟩ := h
    exact ⟨r, h1, hq.trans h2⟩
theorem mw_at.lt {D : va_G} {cl : List vw_C} {tys : List (ClassId × FieldType)} {x : Nat ⊕ (Nat × Nat)} {a : Nat} {f : Nat → Value} {H : Heap} (h : mw_at D cl tys x a f H) : a < H.size := by
  cases x with
  | inl ci =>
    obtain ⟨r, h1, cell, h2, -⟩ := h
    exact (Array.getElem?_eq_some_iff.mp h2).1
  | inr q =>
    obtain ⟨r, h1, h2⟩ := h
    exact (Array.getElem?_eq_some_iff.mp h2).1
theorem mw_at.nost {D : va_G} {cl : List vw_C} {tys : List (ClassId × FieldType)} {x : Nat ⊕ (Nat × Nat)} {a : Nat} {f : Nat → Value} {H : Heap} {cell : Cell} (h : mw_at D cl tys x a f H) (hc : H[a]? = some cell) : cell.vm.isStatics = false := by
  cases x with
  | inl ci =>
    obtain ⟨r, h1, cell', h2, -, h3, -⟩ := h
    cases h2.symm.trans hc
    rw [h3]; rfl
  | inr q =>
    obtain ⟨r, h1, h2⟩ := h
    cases h2.symm.trans hc
    rfl
/-- one cell's contents change -/
theorem mw.set {D : va_G} {cl : List vw_C} {tys : List (ClassId × FieldType)} {b : Nat} {st : MS} {H H1 : Heap} {a k : Nat} {v : Value} {x : Nat ⊕ (Nat × Nat)} (h : mw D cl tys b st H) (hk : st.2.1 a = some x) (he : mw_at D cl tys x a (updV (st.2.2 a) k v) H1) (z : H1.size = H.size) (oq : ∀ q : Nat, q ≠ a → H1[q]? = H[q]?) : mw D cl tys b (st.1, st.2.1, m_up st.2.2 a k v) H1 := by
  obtain ⟨n, K, M⟩ := st
  refine ⟨z.trans h.1, h.2.1, fun c y hc => ⟨(h.2.2.1 c y hc).1, ?_⟩, fun c cell hbc hc => ?_⟩
  rotate_left
  · by_cases hca : c = a
    · subst hca
      exact he.nost hc
    · rw [oq c hca] at hc
      exact h.2.2.2 c cell hbc hc
  by_cases hca : c = a
  · subst hca
    have hxy : x = y := Option.some.inj (hk.symm.trans hc)
    subst hxy
    have e1 : (m_up M c k v) c = updV (M c) k v := by
      funext j
      simp [m_up, updV]
    show mw_at D cl tys x c ((m_up M c k v) c) H1
    rw [e1]
    exact he
  · have e1 : (m_up M a k v) c = M c := by
      funext j
      simp [m_up, hca]
    show mw_at D cl tys y c ((m_up M a k v) c) H1
    rw [e1]
    exact (h.2.2.1 c y hc).2.kept (oq c hca)
def m_mk (st : MS) (x : Nat ⊕ (Nat × Nat)) (f : Nat → Value) : MS := (st.1 + 1, m_knew st.2.1 st.1 x, m_row st.2.2 st.1 f)
/-- one cell more -/
theorem mw.push {D : va_G} {cl : List vw_C} {tys : List (ClassId × FieldType)} {b : Nat} {st : MS} {H H1 : Heap} {f : Nat → Value} {x : Nat ⊕ (Nat × Nat)} (h : mw D cl tys b st H) (he : mw_at D cl tys x st.1 f H1) (z : H1.size = st.1 + 1) (oq : ∀ q : Nat, q < st.1 → H1[q]? = H[q]?) : mw D cl tys b (m_mk st x f) H1 := by
  obtain ⟨n, K, M⟩ := st
  refine ⟨z, Nat.le_trans h.2.1 (Nat.le_succ n), fun c y hc => ?_, fun c cell hbc hc => ?_⟩
  rotate_left
  · by_cases hcn : c = n
    · subst hcn
      exact he.nost hc
    · have hlt : c < n + 1 := by
        have := (Array.getElem?_eq_some_iff.mp hc).1
        omega
      rw [oq c (by omega)] at hc
      exact h.2.2.2 c cell hbc hc
  by_cases hcn : c = n
  · subst hcn
    have hxy : x = y := by
      have : (some x) = some y := by simpa [m_mk, m_knew] using hc
      exact Option.some.inj this
    subst hxy
    refine ⟨fun _ => h.2.1, ?_⟩
    have e1 : (m_row M c f) c = f := by simp [m_row]
    show mw_at D cl tys x c ((m_row M c f) c) H1
    rw [e1]
    exact he
  · have hc' : K c = some y := by simpa [m_mk, m_knew, hcn] using hc
    have e1 : (m_row M n f) c = M c := by simp [m_row, hcn]
    refine ⟨(h.2.2.1 c y hc').1, ?_⟩
    show mw_at D cl tys y c ((m_row M n f) c) H1
    rw [e1]
    have hlt := (h.2.2.1 c y hc').2.lt
    have hn : H.size = n := h.1
    exact (h.2.2.1 c y hc').2.kept (oq c (by omega))
theorem va_S.put' {A : Nat → Prop} {H0 H H1 : Heap} {locs : List Loc} {a k : Nat} (h : va_S A H0 H locs) (z : H1.size = H.size) (oq : ∀ q : Nat, q ≠ a → H1[q]? = H[q]?) (ha : A a) : va_S A H0 H1 (locs ++ [⟨a, k⟩]) := h.put z oq ha
theorem m_Spush {b : Nat} {H0 H H1 : Heap} {locs : List Loc} (hS : va_S (m_A b) H0 H locs) (z1 : H1.size = H.size + 1) (o1 : ∀ q : Nat, q < H.size → H1[q]? = H[q]?) : va_S (m_A b) H0 H1 locs :=
  ⟨Nat.le_trans hS.1 (by omega), fun x h1 h2 => (o1 x (Nat.lt_of_lt_of_le h1 hS.1)).trans (hS.2.1 x h1 h2), hS.2.2⟩
-- typed reads and writes
def m_gI (st : MS) (ci a k : Nat) : Option Int32 := if st.2.1 a = some (.inl ci) then (match st.2.2 a k with | .int x => some x | _ => none) else none
def m_gL (st : MS) (ci a k : Nat) : Option Int64 := if st.2.1 a = some (.inl ci) then (match st.2.2 a k with | .long x => some x | _ => none) else none
def m_gR (st : MS) (ci a k : Nat) : Option (Option Nat) := if st.2.1 a = some (.inl ci) then (match st.2.2 a k with | .ref x => some (some x) | .null => some none | _ => none) else none
def m_p (st : MS) (ci a k : Nat) (v : Value) : Option MS := if st.2.1 a = some (.inl ci) then some (st.1, st.2.1, m_up st.2.2 a k v) else none
/-- the kind of array that lies at an address: its length -/
def m_ln (st : MS) (t a : Nat) : Option Nat := match st.2.1 a with | some (.inr q) => if q.1 = t then some q.2 else none | _ => none
def m_ix (st : MS) (t a : Nat) (i : Int32) : Option Nat := (m_ln st t a).bind fun n => if 0 ≤ i ∧ i.toNatClampNeg < n then some i.toNatClampNeg else none
def m_aI (st : MS) (t a : Nat) (i : Int32) : Option Int32 := (m_ix st t a i).bind fun j => (match st.2.2 a j with | .int x => some x | _ => none)
def m_aL (st : MS) (t a : Nat) (i : Int32) : Option Int64 := (m_ix st t a i).bind fun j => (match st.2.2 a j with | .long x => some x | _ => none)
def m_aR (st : MS) (t a : Nat) (i : Int32) : Option (Option Nat) := (m_ix st t a i).bind fun j => (match st.2.2 a j with | .ref x => some (some x) | .null => some none | _ => none)
def m_ap (st : MS) (t a : Nat) (i : Int32) (v : Value) : Option MS := (m_ix st t a i).bind fun j => some (st.1, st.2.1, m_up st.2.2 a j v)
theorem m_gI_s {st : MS} {ci a k : Nat} {x : Int32} (h : m_gI st ci a k = some x) : st.2.1 a = some (.inl ci) ∧ st.2.2 a k = .int x := by
  unfold m_gI at h
  split at h
  · rename_i h1
    refine ⟨h1, ?_⟩
    split at h <;> simp_all
  · cases h
theorem m_gL_s {st : MS} {ci a k : Nat} {x : Int64} (h : m_gL st ci a k = some x) : st.2.1 a = some (.inl ci) ∧ st.2.2 a k = .long x := by
  unfold m_gL at h
  split at h
  · rename_i h1
    refine ⟨h1, ?_⟩
    split at h <;> simp_all
  · cases h
theorem m_gR_s {st : MS} {ci a k : Nat} {x : Option Nat} (h : m_gR st ci a k = some x) : st.2.1 a = some (.inl ci) ∧ st.2.2 a k = va_rf x := by
  unfold m_gR at h
  split at h
  · rename_i h1
    refine ⟨h1, ?_⟩
    split at h
    · rename_i h2
      cases h
      rw [h2]; rfl
    · rename_i h2
      cases h
      rw [h2]; rfl
    · cases h
  · cases h
theorem m_bs {α β : Type} {x : Option α} {f : α → Option β} {y : β} (h : x.bind f = some y) : ∃ z, x = some z ∧ f z = some y := by
  cases x with
  | none => cases h
  | some z => exact ⟨z, rfl, h⟩
theorem m_ln_s {st : MS} {t a n : Nat} (h : m_ln st t a = some n) : st.2.1 a = some (.inr (t, n)) := by
  unfold m_ln at h
  split at h
  · rename_i q hq
    split at h
    · rename_i h1
      cases h
      rw [hq, ← h1]
    · cases h
  · cases h
theorem m_ix_s {st : MS} {t a j : Nat} {i : Int32} (h : m_ix st t a i = some j) : ∃ n, st.2.1 a = some (.inr (t, n)) ∧ vp_in i n ∧ i.toNatClampNeg = j := by
  obtain ⟨n, h1, h2⟩ := m_bs h
  split at h2
  · rename_i h3
    refine ⟨n, m_ln_s h1, ?_, Option.some.inj h2⟩
    rintro (h4 | h4)
    · exact absurd h3.1 (Int32.not_le.mpr h4)
    · exact absurd h3.2 (Nat.not_lt.mpr h4)
  · cases h2
theorem m_aI_s {st : MS} {t a : Nat} {i x : Int32} (h : m_aI st t a i = some x) : ∃ n, st.2.1 a = some (.inr (t, n)) ∧ vp_in i n ∧ st.2.2 a i.toNatClampNeg = .int x := by
  obtain ⟨j, h1, h2⟩ := m_bs h
  obtain ⟨n, h3, h4, h5⟩ := m_ix_s h1
  refine ⟨n, h3, h4, ?_⟩
  rw [h5]
  split at h2 <;> simp_all
theorem m_aL_s {st : MS} {t a : Nat} {i : Int32} {x : Int64} (h : m_aL st t a i = some x) : ∃ n, st.2.1 a = some (.inr (t, n)) ∧ vp_in i n ∧ st.2.2 a i.toNatClampNeg = .long x := by
  obtain ⟨j, h1, h2⟩ := m_bs h
  obtain ⟨n, h3, h4, h5⟩ := m_ix_s h1
  refine ⟨n, h3, h4, ?_⟩
  rw [h5]
  split at h2 <;> simp_all
theorem m_aR_s {st : MS} {t a : Nat} {i : Int32} {x : Option Nat} (h : m_aR st t a i = some x) : ∃ n, st.2.1 a = some (.inr (t, n)) ∧ vp_in i n ∧ st.2.2 a i.toNatClampNeg = va_rf x := by
  obtain ⟨j, h1, h2⟩ := m_bs h
  obtain ⟨n, h3, h4, h5⟩ := m_ix_s h1
  refine ⟨n, h3, h4, ?_⟩
  rw [h5]
  split at h2
  · rename_i h6
    cases h2
    rw [h6]; rfl
  · rename_i h6
    cases h2
    rw [h6]; rfl
  · cases h2
theorem m_p_s {st st' : MS} {ci a k : Nat} {v : Value} (h : m_p st ci a k v = some st') : st.2.1 a = some (.inl ci) ∧ st' = (st.1, st.2.1, m_up st.2.2 a k v) := by
  unfold m_p at h
  split at h
  · rename_i h1
    exact ⟨h1, (Option.some.inj h).symm⟩
  · cases h
theorem m_ap_s {st st' : MS} {t a : Nat} {i : Int32} {v : Value} (h : m_ap st t a i v = some st') : ∃ n, st.2.1 a = some (.inr (t, n)) ∧ vp_in i n ∧ st' = (st.1, st.2.1, m_up st.2.2 a i.toNatClampNeg v) := by
  obtain ⟨j, h1, h2⟩ := m_bs h
  obtain ⟨n, h3, h4, h5⟩ := m_ix_s h1
  exact ⟨n, h3, h4, by rw [h5]; exact (Option.some.inj h2).symm⟩
/-- a cell of class ci lies there -/
def m_is (st : MS) (ci a : Nat) : Option Unit := if st.2.1 a = some (.inl ci) then some () else none
theorem m_is_s {st : MS} {ci a : Nat} {u : Unit} (h : m_is st ci a = some u) : st.2.1 a = some (.inl ci) := by
  unfold m_is at h
  split at h
  · assumption
  · cases h
def m_z (x : Int32) : Option Int32 := if x = 0 ∨ x = 1 then some x else none
theorem m_z_s {x y : Int32} (h : m_z x = some y) : x = y ∧ narrow .boolean (.int x) = .int x ∧ fits .boolean (.int x) = true := by
  unfold m_z at h
  split at h
  · rename_i h1
    refine ⟨Option.some.inj h, ?_⟩
    rcases h1 with rfl | rfl <;> exact ⟨by decide, by decide⟩
  · cases h
def m_b {α β : Type} (x : Option (α × MS)) (f : α → MS → Option β) : Option β := match x with
  | some q => f q.1 q.2
  | none => none
theorem m_b_s {α β : Type} {x : Option (α × MS)} {f : α → MS → Option β} {y : β} (h : m_b x f = some y) : ∃ r st, x = some (r, st) ∧ f r st = some y := by
  cases x with
  | none => cases h
  | some q => exact ⟨q.1, q.2, rfl, h⟩
/-- a branch on null -/
def m_nn {β : Type} (r : Option Nat) (A : Option β) (B : Nat → Option β) : Option β := match r with
  | none => A
  | some a => B a
theorem m_t {β : Type} {c : Prop} [Decidable c] {t e : Option β} {y : β} (hc : c) (h : (if c then t else e) = some y) : t = some y := by
  rw [if_pos hc] at h; exact h
theorem m_f {β : Type} {c : Prop} [Decidable c] {t e : Option β} {y : β} (hc : ¬ c) (h : (if c then t else e) = some y) : e = some y := by
  rw [if_neg hc] at h; exact h
theorem m_rfc (r : Option Nat) : (va_rf r).category = 1 := by cases r <;> rfl
theorem m_rff (r : Option Nat) (C : String) : narrow (.object C) (va_rf r) = va_rf r ∧ fits (.object C) (va_rf r) = true := by cases r <;> exact ⟨rfl, rfl⟩
theorem m_rfa (r : Option Nat) (t : FieldType) : narrow (.array t) (va_rf r) = va_rf r ∧ fits (.array t) (va_rf r) = true := by cases r <;> exact ⟨rfl, rfl⟩
def m_nw {β : Type} (st : MS) (x : Nat ⊕ (Nat × Nat)) (f : Nat → Value) (k : Nat → MS → Option β) : Option β := k st.1 (m_mk st x f)
theorem m_nw_s {β : Type} {st : MS} {x : Nat ⊕ (Nat × Nat)} {f : Nat → Value} {k : Nat → MS → Option β} {y : β} (h : m_nw st x f k = some y) : ∃ a st1, (a = st.1 ∧ st1 = m_mk st x f) ∧ k a st1 = some y := ⟨_, _, ⟨rfl, rfl⟩, h⟩
theorem m_fin {α β : Type} {x r : α} {s t : β} (h : some (x, s) = some (r, t)) : x = r ∧ s = t := by
  cases h
  exact ⟨rfl, rfl⟩
theorem m_nn0 {β : Type} {A : Option β} {B : Nat → Option β} {y : β} (h : m_nn none A B = some y) : A = some y := h
theorem m_nn1 {β : Type} {a : Nat} {A : Option β} {B : Nat → Option β} {y : β} (h : m_nn (some a) A B = some y) : B a = some y := h
theorem m_catI (x : Int32) : (Value.int x).category = 1 := rfl
theorem m_catL (x : Int64) : (Value.long x).category = 2 := rfl
theorem m_catA (x : Nat) : (Value.ref x).category = 1 := rfl
