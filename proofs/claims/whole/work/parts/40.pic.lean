/-! ===== the picture: what lies where, and the numbers that it holds ===== -/
abbrev GR : Type := Nat × Nat × (Nat → Nat × Nat) × (Nat × (Nat → Nat) × (Nat → Nat)) × (Nat × (Nat → Nat) × (Nat → Nat))
/-- heap size n, first address h, what lies at an address, rules (how many, first rule of the same class, address of the class), targets (how many, rule, address) -/
def gd_ok (n h : Nat) (own : Nat → Nat × Nat) (nr : Nat) (cr ac : Nat → Nat) (nt : Nat) (rl ta : Nat → Nat) : Prop :=
  (own h = (0, 0) ∧ own (h + 1) = (1, 0) ∧ own (h + 2) = (2, 0) ∧ own (h + 3) = (3, 0) ∧ own (h + 4) = (4, 0) ∧ own (h + 24) = (6, 0)) ∧
  (∀ i, i < 19 → own (h + 5 + i) = (5, i)) ∧
  (∀ r, r < nr → own (ac (cr r)) = (7, cr r)) ∧
  (∀ t, t < nt → own (ta t) = (8, t) ∧ own (ta t + 1) = (9, t) ∧ own (ta t + 2) = (10, t) ∧ own (ta t + 3) = (11, t)) ∧
  (∀ a b, own a = own b → (own a).1 < 12 → a = b) ∧
  (∀ a, n ≤ a → own a = (12, 0)) ∧
  (∀ a, (own a).1 = 7 → (own a).2 < nr) ∧
  (∀ a, 8 ≤ (own a).1 → (own a).1 < 12 → (own a).2 < nt) ∧
  (∀ t, t < nt → rl t < nr) ∧ (∀ r, r < nr → cr r ≤ r) ∧ nr ≤ 16 ∧ nt ≤ 40
abbrev GE : Type := { x : GR // gd_ok x.1 x.2.1 x.2.2.1 x.2.2.2.1.1 x.2.2.2.1.2.1 x.2.2.2.1.2.2 x.2.2.2.2.1 x.2.2.2.2.2.1 x.2.2.2.2.2.2 }
def g_n (e : GE) : Nat := e.1.1
def g_h (e : GE) : Nat := e.1.2.1
def g_own (e : GE) : Nat → Nat × Nat := e.1.2.2.1
def g_nr (e : GE) : Nat := e.1.2.2.2.1.1
def g_cr (e : GE) : Nat → Nat := e.1.2.2.2.1.2.1
def g_ac (e : GE) : Nat → Nat := e.1.2.2.2.1.2.2
def g_nt (e : GE) : Nat := e.1.2.2.2.2.1
def g_rl (e : GE) : Nat → Nat := e.1.2.2.2.2.2.1
def g_ta (e : GE) : Nat → Nat := e.1.2.2.2.2.2.2
/-- the address of a rule's class -/
def g_ca (e : GE) (r : Nat) : Nat := g_ac e (g_cr e r)
/-- the reference's arrays; number 6 is the reference itself -/
def g_ar (e : GE) (k : Nat) : Nat := g_h e + 5 + (k - 6)
theorem g_ok (e : GE) : gd_ok (g_n e) (g_h e) (g_own e) (g_nr e) (g_cr e) (g_ac e) (g_nt e) (g_rl e) (g_ta e) := e.2
theorem o_h (e : GE) : g_own e (g_h e) = (0, 0) := (g_ok e).1.1
theorem o_h1 (e : GE) : g_own e (g_h e + 1) = (1, 0) := (g_ok e).1.2.1
theorem o_h2 (e : GE) : g_own e (g_h e + 2) = (2, 0) := (g_ok e).1.2.2.1
theorem o_h3 (e : GE) : g_own e (g_h e + 3) = (3, 0) := (g_ok e).1.2.2.2.1
theorem o_h4 (e : GE) : g_own e (g_h e + 4) = (4, 0) := (g_ok e).1.2.2.2.2.1
theorem o_h24 (e : GE) : g_own e (g_h e + 24) = (6, 0) := (g_ok e).1.2.2.2.2.2
theorem o_ar (e : GE) (k : Nat) (h : k - 6 < 19) : g_own e (g_ar e k) = (5, k - 6) := (g_ok e).2.1 _ h
theorem o_ca (e : GE) {r : Nat} (h : r < g_nr e) : g_own e (g_ca e r) = (7, g_cr e r) := (g_ok e).2.2.1 r h
theorem o_ta (e : GE) {t : Nat} (h : t < g_nt e) : g_own e (g_ta e t) = (8, t) := ((g_ok e).2.2.2.1 t h).1
theorem o_ta1 (e : GE) {t : Nat} (h : t < g_nt e) : g_own e (g_ta e t + 1) = (9, t) := ((g_ok e).2.2.2.1 t h).2.1
theorem o_ta2 (e : GE) {t : Nat} (h : t < g_nt e) : g_own e (g_ta e t + 2) = (10, t) := ((g_ok e).2.2.2.1 t h).2.2.1
theorem o_ta3 (e : GE) {t : Nat} (h : t < g_nt e) : g_own e (g_ta e t + 3) = (11, t) := ((g_ok e).2.2.2.1 t h).2.2.2
theorem o_inj (e : GE) {a b : Nat} (h : g_own e a = g_own e b) (h1 : (g_own e a).1 < 12) : a = b := (g_ok e).2.2.2.2.1 a b h h1
theorem g_nr16 (e : GE) : g_nr e ≤ 16 := (g_ok e).2.2.2.2.2.2.2.2.2.2.1
theorem g_nt40 (e : GE) : g_nt e ≤ 40 := (g_ok e).2.2.2.2.2.2.2.2.2.2.2
theorem g_rlr (e : GE) {t : Nat} (h : t < g_nt e) : g_rl e t < g_nr e := (g_ok e).2.2.2.2.2.2.2.2.1 t h
theorem g_crr (e : GE) {r : Nat} (h : r < g_nr e) : g_cr e r ≤ r := (g_ok e).2.2.2.2.2.2.2.2.2.1 r h
def kM (i : Nat) : Nat × Nat := match i with
  | 1 => (5, 16) | 2 => (5, 16) | 3 => (5, 16) | 4 => (6, 16) | 5 => (7, 16) | 6 => (5, 40) | 7 => (5, 160)
  | 14 => (5, 120) | 15 => (6, 40) | 16 => (6, 120) | 17 => (5, 400) | 18 => (5, 400) | _ => (5, 40)
def KV (q : Nat × Nat) : Option (Nat ⊕ (Nat × Nat)) := match q.1 with
  | 0 => some (.inl 0)
  | 1 => some (.inr (3, 16))
  | 2 => some (.inr (4, 40))
  | 3 => some (.inr (1, 400))
  | 4 => some (.inr (1, 400))
  | 5 => if q.2 = 0 then some (.inl 3) else some (.inr (kM q.2))
  | 6 => some (.inr (8, 1))
  | 7 => some (.inl 1)
  | 8 => some (.inl 2)
  | 9 => some (.inr (1, 4))
  | 10 => some (.inr (1, 3))
  | 11 => some (.inr (2, 3))
  | _ => none
abbrev FN : Type := Nat → Nat → Int32
abbrev GN : Type := Nat → Nat → Int64
abbrev CS : Type := FN × GN
def up {α : Type} (F : Nat → Nat → α) (k i : Nat) (v : α) : Nat → Nat → α := fun k' i' => if k' = k ∧ i' = i then v else F k' i'
def uc (c : CS) (k i : Nat) (v : Int32) : CS := (up c.1 k i v, c.2)
def ug (c : CS) (k i : Nat) (v : Int64) : CS := (c.1, up c.2 k i v)
/-- where the class's ints stand in its picture -/
def locC (q : Nat × Nat) (j : Nat) : Option (Nat × Nat) := match q.1 with
  | 0 => if q.2 = 0 then (match j with | 0 => some (1, 0) | 2 => some (2, 0) | 3 => some (3, 0) | 5 => some (4, 0) | 8 => some (5, 0) | 9 => some (6, 0) | _ => none) else none
  | 3 => if q.2 = 0 then some (23, j) else none
  | 4 => if q.2 = 0 then some (24, j) else none
  | 7 => (match j with | 0 => some (7, q.2) | 1 => some (8, q.2) | 2 => some (10, q.2) | 3 => some (30, q.2) | 4 => some (31, q.2) | _ => none)
  | 8 => (match j with | 5 => some (21, q.2) | 6 => some (33, q.2) | 7 => some (18, q.2) | 8 => some (17, q.2) | 9 => some (14, q.2) | 10 => some (15, q.2) | 11 => some (32, q.2) | _ => none)
  | 9 => if j < 4 then some (13, 4 * q.2 + j) else none
  | 10 => if j < 3 then some (20, 3 * q.2 + j) else none
  | 11 => if j < 3 then some (22, 3 * q.2 + j) else none
  | _ => none
def invC (p : Nat × Nat) : (Nat × Nat) × Nat := match p.1 with
  | 1 => ((0, 0), 0) | 2 => ((0, 0), 2) | 3 => ((0, 0), 3) | 4 => ((0, 0), 5) | 5 => ((0, 0), 8) | 6 => ((0, 0), 9)
  | 23 => ((3, 0), p.2) | 24 => ((4, 0), p.2)
  | 7 => ((7, p.2), 0) | 8 => ((7, p.2), 1) | 10 => ((7, p.2), 2) | 30 => ((7, p.2), 3) | 31 => ((7, p.2), 4)
  | 21 => ((8, p.2), 5) | 33 => ((8, p.2), 6) | 18 => ((8, p.2), 7) | 17 => ((8, p.2), 8) | 14 => ((8, p.2), 9) | 15 => ((8, p.2), 10) | 32 => ((8, p.2), 11)
  | 13 => ((9, p.2 / 4), p.2 % 4) | 20 => ((10, p.2 / 3), p.2 % 3) | 22 => ((11, p.2 / 3), p.2 % 3)
  | _ => ((0, 0), 0)
def locM (q : Nat × Nat) (j : Nat) : Option (Nat × Nat) := if q.1 = 5 then (if q.2 = 0 then (if j < 7 then some (j, 0) else none) else if q.2 = 5 then none else if q.2 < 19 then some (q.2 + 6, j) else none) else none
def invM (p : Nat × Nat) : (Nat × Nat) × Nat := if p.1 < 7 then ((5, 0), p.1) else ((5, p.1 - 6), p.2)
def locG (q : Nat × Nat) (j : Nat) : Option (Nat × Nat) := if q.1 = 7 then (if j = 5 then some (0, q.2) else none) else if q.1 = 6 then (if q.2 = 0 then some (1, j) else none) else none
def invG (p : Nat × Nat) : (Nat × Nat) × Nat := if p.1 = 0 then ((7, p.2), 5) else ((6, 0), p.2)
def locH (q : Nat × Nat) (j : Nat) : Option (Nat × Nat) := if q.1 = 5 then (if q.2 = 5 then some (0, j) else none) else none
def invH (p : Nat × Nat) : (Nat × Nat) × Nat := ((5, 5), p.2)
/-- what is no number that changes -/
def vR (e : GE) (q : Nat × Nat) (j : Nat) : Value := match q.1 with
  | 0 => (match j with | 1 => .ref (g_h e + 1) | 4 => .ref (g_h e + 2) | 6 => .ref (g_h e + 3) | 7 => .ref (g_h e + 4) | _ => defaultValue (tyX0 j))
  | 1 => if q.2 = 0 then (if j < g_nr e then .ref (g_ca e j) else .null) else .null
  | 2 => if q.2 = 0 then (if j < g_nt e then .ref (g_ta e j) else .null) else .null
  | 5 => if 7 ≤ j ∧ j < 25 then .ref (g_ar e j) else defaultValue (tyX3 j)
  | 7 => defaultValue (tyX1 j)
  | 8 => (match j with | 0 => .int (nI q.2) | 1 => .ref (g_ca e (g_rl e q.2)) | 2 => .ref (g_ta e q.2 + 1) | 3 => .ref (g_ta e q.2 + 2) | 4 => .ref (g_ta e q.2 + 3) | _ => defaultValue (tyX2 j))
  | 9 => .int 0
  | 10 => .int 0
  | 11 => .int 0
  | _ => .null
def VV (e : GE) (c m : CS) (q : Nat × Nat) (j : Nat) : Value := match locC q j with
  | some p => .int (c.1 p.1 p.2)
  | none => match locM q j with
    | some p => .int (m.1 p.1 p.2)
    | none => match locG q j with
      | some p => .long (c.2 p.1 p.2)
      | none => match locH q j with
        | some p => .long (m.2 p.1 p.2)
        | none => vR e q j
def WW (e : GE) (c m : CS) : MS := (g_n e, fun a => KV (g_own e a), fun a j => VV e c m (g_own e a) j)
theorem invC_s {q : Nat × Nat} {j : Nat} {p : Nat × Nat} (h : locC q j = some p) : invC p = (q, j) := by
  obtain ⟨a, i⟩ := q
  unfold locC at h
  split at h
  · rename_i h0
    simp only at h0 h
    subst h0
    split at h
    · rename_i h1
      subst h1
      split at h <;> first | (cases h; rfl) | cases h
    · cases h
  · rename_i h0
    simp only at h0 h
    subst h0
    split at h
    · rename_i h1
      subst h1
      cases h; rfl
    · cases h
  · rename_i h0
    simp only at h0 h
    subst h0
    split at h
    · rename_i h1
      subst h1
      cases h; rfl
    · cases h
  · rename_i h0
    simp only at h0 h
    subst h0
    split at h <;> first | (cases h; rfl) | cases h
  · rename_i h0
    simp only at h0 h
    subst h0
    split at h <;> first | (cases h; rfl) | cases h
  · rename_i h0
    simp only at h0 h
    subst h0
    split at h
    · cases h
      show ((9, (4 * i + j) / 4), (4 * i + j) % 4) = _
      rw [show (4 * i + j) / 4 = i by omega, show (4 * i + j) % 4 = j by omega]
    · cases h
  · rename_i h0
    simp only at h0 h
    subst h0
    split at h
    · cases h
      show ((10, (3 * i + j) / 3), (3 * i + j) % 3) = _
      rw [show (3 * i + j) / 3 = i by omega, show (3 * i + j) % 3 = j by omega]
    · cases h
  · rename_i h0
    simp only at h0 h
    subst h0
    split at h
    · cases h
      show ((11, (3 * i + j) / 3), (3 * i + j) % 3) = _
      rw [show (3 * i + j) / 3 = i by omega, show (3 * i + j) % 3 = j by omega]
    · cases h
  · cases h
theorem invM_s {q : Nat × Nat} {j : Nat} {p : Nat × Nat} (h : locM q j = some p) : invM p = (q, j) := by
  obtain ⟨a, i⟩ := q
  unfold locM at h
  simp only at h
  split at h
  · rename_i h0
    subst h0
    split at h
    · rename_i h1
      subst h1
      split at h
      · rename_i h2
        cases h
        simp [invM, h2]
      · cases h
    · split at h
      · cases h
      · split at h
        · cases h
          have : ¬ i + 6 < 7 := by omega
          simp [invM, this]
        · cases h
  · cases h
theorem invG_s {q : Nat × Nat} {j : Nat} {p : Nat × Nat} (h : locG q j = some p) : invG p = (q, j) := by
  obtain ⟨a, i⟩ := q
  unfold locG at h
  simp only at h
  split at h
  · rename_i h0
    subst h0
    split at h
    · rename_i h1
      subst h1
      cases h; rfl
    · cases h
  · split at h
    · rename_i h0
      subst h0
      split at h
      · rename_i h1
        subst h1
        cases h; rfl
      · cases h
    · cases h
theorem invH_s {q : Nat × Nat} {j : Nat} {p : Nat × Nat} (h : locH q j = some p) : invH p = (q, j) := by
  obtain ⟨a, i⟩ := q
  unfold locH at h
  simp only at h
  split at h
  · rename_i h0
    subst h0
    split at h
    · rename_i h1
      subst h1
      cases h; rfl
    · cases h
  · cases h
section PIC
variable {e : GE} {c m : CS} {a ci k t n j : Nat} {q : Nat × Nat}
theorem rd_gI {x : Int32} (hq : g_own e a = q) (hk : KV q = some (.inl ci)) (hv : VV e c m q k = .int x) : m_gI (WW e c m) ci a k = some x := by
  subst hq
  unfold m_gI WW
  simp only [hk, hv, if_true]
theorem rd_gL {x : Int64} (hq : g_own e a = q) (hk : KV q = some (.inl ci)) (hv : VV e c m q k = .long x) : m_gL (WW e c m) ci a k = some x := by
  subst hq
  unfold m_gL WW
  simp only [hk, hv, if_true]
theorem rd_gR {x : Nat} (hq : g_own e a = q) (hk : KV q = some (.inl ci)) (hv : VV e c m q k = .ref x) : m_gR (WW e c m) ci a k = some (some x) := by
  subst hq
  unfold m_gR WW
  simp only [hk, hv, if_true]
theorem rd_is (hq : g_own e a = q) (hk : KV q = some (.inl ci)) : m_is (WW e c m) ci a = some () := by
  subst hq
  unfold m_is WW
  simp only [hk, if_true]
theorem rd_ix (hq : g_own e a = q) (hk : KV q = some (.inr (t, n))) (hn : n < 2 ^ 31) (hj : j < n) : m_ix (WW e c m) t a (nI j) = some j := by
  subst hq
  have h0 : (nI j).toNatClampNeg = j := nI_clamp (by omega)
  have h1 : 0 ≤ nI j := nI_pos' (by omega)
  unfold m_ix m_ln WW
  simp only [hk, if_true, Option.bind_some, h0, h1, hj, and_self]
theorem rd_aI {x : Int32} (hq : g_own e a = q) (hk : KV q = some (.inr (t, n))) (hn : n < 2 ^ 31) (hj : j < n) (hv : VV e c m q j = .int x) : m_aI (WW e c m) t a (nI j) = some x := by
  unfold m_aI
  rw [rd_ix hq hk hn hj]
  subst hq
  simp only [Option.bind_some, WW, hv]
theorem rd_aL {x : Int64} (hq : g_own e a = q) (hk : KV q = some (.inr (t, n))) (hn : n < 2 ^ 31) (hj : j < n) (hv : VV e c m q j = .long x) : m_aL (WW e c m) t a (nI j) = some x := by
  unfold m_aL
  rw [rd_ix hq hk hn hj]
  subst hq
  simp only [Option.bind_some, WW, hv]
theorem rd_aR {x : Nat} (hq : g_own e a = q) (hk : KV q = some (.inr (t, n))) (hn : n < 2 ^ 31) (hj : j < n) (hv : VV e c m q j = .ref x) : m_aR (WW e c m) t a (nI j) = some (some x) := by
  unfold m_aR
  rw [rd_ix hq hk hn hj]
  subst hq
  simp only [Option.bind_some, WW, hv]
theorem m_upW {v : Value} {c' m' : CS} (hq : g_own e a = q) (h12 : q.1 < 12) (h0 : VV e c' m' q k = v) (h1 : ∀ q' j', ¬ (q' = q ∧ j' = k) → VV e c' m' q' j' = VV e c m q' j') : ((WW e c m).1, (WW e c m).2.1, m_up (WW e c m).2.2 a k v) = WW e c' m' := by
  unfold WW
  refine Prod.ext rfl (Prod.ext rfl ?_)
  funext b j
  show (if b = a ∧ j = k then v else VV e c m (g_own e b) j) = VV e c' m' (g_own e b) j
  split
  · rename_i h
    rw [h.1, h.2, hq]
    exact h0.symm
  · rename_i h
    refine (h1 _ _ (fun h2 => h ⟨?_, h2.2⟩)).symm
    exact o_inj e (h2.1.trans hq.symm) (by rw [h2.1]; exact h12)
theorem kv12 {x : Nat ⊕ (Nat × Nat)} (h : KV q = some x) : q.1 < 12 := by
  unfold KV at h
  split at h <;> first | omega | cases h
theorem wr_p {v : Value} {c' m' : CS} (hq : g_own e a = q) (hk : KV q = some (.inl ci)) (h0 : VV e c' m' q k = v) (h1 : ∀ q' j', ¬ (q' = q ∧ j' = k) → VV e c' m' q' j' = VV e c m q' j') : m_p (WW e c m) ci a k v = some (WW e c' m') := by
  have h2 : (WW e c m).2.1 a = some (.inl ci) := by
    show KV (g_own e a) = _
    rw [hq]; exact hk
  unfold m_p
  rw [if_pos h2, m_upW hq (kv12 hk) h0 h1]
theorem wr_ap {v : Value} {c' m' : CS} (hq : g_own e a = q) (hk : KV q = some (.inr (t, n))) (hn : n < 2 ^ 31) (hj : j < n) (h0 : VV e c' m' q j = v) (h1 : ∀ q' j', ¬ (q' = q ∧ j' = j) → VV e c' m' q' j' = VV e c m q' j') : m_ap (WW e c m) t a (nI j) v = some (WW e c' m') := by
  unfold m_ap
  rw [rd_ix hq hk hn hj]
  simp only [Option.bind_some]
  rw [m_upW hq (kv12 hk) h0 h1]
theorem vv_C {s i : Nat} {x : Int32} (hl : locC q k = some (s, i)) : VV e (uc c s i x) m q k = .int x ∧ ∀ q' j', ¬ (q' = q ∧ j' = k) → VV e (uc c s i x) m q' j' = VV e c m q' j' := by
  constructor
  · simp only [VV, hl, uc, up, and_self, if_true]
  · intro q' j' h
    cases h0 : locC q' j' with
    | none => simp only [VV, h0, uc]
    | some p =>
      have h1 : ¬ (p.1 = s ∧ p.2 = i) := by
        intro h2
        have h3 : p = (s, i) := Prod.ext h2.1 h2.2
        have h4 := invC_s h0
        rw [h3, invC_s hl] at h4
        simp only [Prod.mk.injEq] at h4
        exact h ⟨h4.1.symm, h4.2.symm⟩
      simp only [VV, h0, uc, up, if_neg h1]
theorem locCM {s : Nat × Nat} (hl : locM q k = some s) : locC q k = none := by
  unfold locM at hl
  split at hl
  · rename_i h
    unfold locC
    rw [h]
    rfl
  · cases hl
theorem locCG {s : Nat × Nat} (hl : locG q k = some s) : locC q k = none ∧ locM q k = none := by
  unfold locG at hl
  split at hl
  · rename_i h
    split at hl
    · rename_i h2
      subst h2
      exact ⟨by unfold locC; rw [h]; rfl, by unfold locM; rw [h]; rfl⟩
    · cases hl
  · split at hl
    · rename_i h
      exact ⟨by unfold locC; rw [h]; rfl, by unfold locM; rw [h]; rfl⟩
    · cases hl
theorem locCH {s : Nat × Nat} (hl : locH q k = some s) : locC q k = none ∧ locM q k = none ∧ locG q k = none := by
  unfold locH at hl
  split at hl
  · rename_i h
    split at hl
    · rename_i h2
      exact ⟨by unfold locC; rw [h]; rfl, by unfold locM; rw [h, h2]; rfl, by unfold locG; rw [h]; rfl⟩
    · cases hl
  · cases hl
theorem vv_M {s i : Nat} {x : Int32} (hl : locM q k = some (s, i)) : VV e c (uc m s i x) q k = .int x ∧ ∀ q' j', ¬ (q' = q ∧ j' = k) → VV e c (uc m s i x) q' j' = VV e c m q' j' := by
  constructor
  · simp only [VV, locCM hl, hl, uc, up, and_self, if_true]
  · intro q' j' h
    cases h00 : locC q' j' with
    | some p => simp only [VV, h00]
    | none =>
    cases h0 : locM q' j' with
    | none => simp only [VV, h00, h0, uc]
    | some p =>
      have h1 : ¬ (p.1 = s ∧ p.2 = i) := by
        intro h2
        have h3 : p = (s, i) := Prod.ext h2.1 h2.2
        have h4 := invM_s h0
        rw [h3, invM_s hl] at h4
        simp only [Prod.mk.injEq] at h4
        exact h ⟨h4.1.symm, h4.2.symm⟩
      simp only [VV, h00, h0, uc, up, if_neg h1]
theorem vv_G {s i : Nat} {x : Int64} (hl : locG q k = some (s, i)) : VV e (ug c s i x) m q k = .long x ∧ ∀ q' j', ¬ (q' = q ∧ j' = k) → VV e (ug c s i x) m q' j' = VV e c m q' j' := by
  constructor
  · simp only [VV, (locCG hl).1, (locCG hl).2, hl, ug, up, and_self, if_true]
  · intro q' j' h
    cases h00 : locC q' j' with
    | some p => simp only [VV, h00, ug]
    | none =>
    cases h01 : locM q' j' with
    | some p => simp only [VV, h00, h01]
    | none =>
    cases h0 : locG q' j' with
    | none => simp only [VV, h00, h01, h0]
    | some p =>
      have h1 : ¬ (p.1 = s ∧ p.2 = i) := by
        intro h2
        have h3 : p = (s, i) := Prod.ext h2.1 h2.2
        have h4 := invG_s h0
        rw [h3, invG_s hl] at h4
        simp only [Prod.mk.injEq] at h4
        exact h ⟨h4.1.symm, h4.2.symm⟩
      simp only [VV, h00, h01, h0, ug, up, if_neg h1]
theorem vv_H {s i : Nat} {x : Int64} (hl : locH q k = some (s, i)) : VV e c (ug m s i x) q k = .long x ∧ ∀ q' j', ¬ (q' = q ∧ j' = k) → VV e c (ug m s i x) q' j' = VV e c m q' j' := by
  constructor
  · simp only [VV, (locCH hl).1, (locCH hl).2.1, (locCH hl).2.2, hl, ug, up, and_self, if_true]
  · intro q' j' h
    cases h00 : locC q' j' with
    | some p => simp only [VV, h00]
    | none =>
    cases h01 : locM q' j' with
    | some p => simp only [VV, h00, h01, ug]
    | none =>
    cases h02 : locG q' j' with
    | some p => simp only [VV, h00, h01, h02]
    | none =>
    cases h0 : locH q' j' with
    | none => simp only [VV, h00, h01, h02, h0]
    | some p =>
      have h1 : ¬ (p.1 = s ∧ p.2 = i) := by
        intro h2
        have h3 : p = (s, i) := Prod.ext h2.1 h2.2
        have h4 := invH_s h0
        rw [h3, invH_s hl] at h4
        simp only [Prod.mk.injEq] at h4
        exact h ⟨h4.1.symm, h4.2.symm⟩
      simp only [VV, h00, h01, h02, h0, ug, up, if_neg h1]
theorem wr_pC {s i : Nat} {x : Int32} (hq : g_own e a = q) (hk : KV q = some (.inl ci)) (hl : locC q k = some (s, i)) : m_p (WW e c m) ci a k (.int x) = some (WW e (uc c s i x) m) := wr_p hq hk (vv_C hl).1 (vv_C hl).2
theorem wr_pM {s i : Nat} {x : Int32} (hq : g_own e a = q) (hk : KV q = some (.inl ci)) (hl : locM q k = some (s, i)) : m_p (WW e c m) ci a k (.int x) = some (WW e c (uc m s i x)) := wr_p hq hk (vv_M hl).1 (vv_M hl).2
theorem wr_pG {s i : Nat} {x : Int64} (hq : g_own e a = q) (hk : KV q = some (.inl ci)) (hl : locG q k = some (s, i)) : m_p (WW e c m) ci a k (.long x) = some (WW e (ug c s i x) m) := wr_p hq hk (vv_G hl).1 (vv_G hl).2
theorem wr_apC {s i : Nat} {x : Int32} (hq : g_own e a = q) (hk : KV q = some (.inr (t, n))) (hn : n < 2 ^ 31) (hj : j < n) (hl : locC q j = some (s, i)) : m_ap (WW e c m) t a (nI j) (.int x) = some (WW e (uc c s i x) m) := wr_ap hq hk hn hj (vv_C hl).1 (vv_C hl).2
theorem wr_apM {s i : Nat} {x : Int32} (hq : g_own e a = q) (hk : KV q = some (.inr (t, n))) (hn : n < 2 ^ 31) (hj : j < n) (hl : locM q j = some (s, i)) : m_ap (WW e c m) t a (nI j) (.int x) = some (WW e c (uc m s i x)) := wr_ap hq hk hn hj (vv_M hl).1 (vv_M hl).2
theorem wr_apG {s i : Nat} {x : Int64} (hq : g_own e a = q) (hk : KV q = some (.inr (t, n))) (hn : n < 2 ^ 31) (hj : j < n) (hl : locG q j = some (s, i)) : m_ap (WW e c m) t a (nI j) (.long x) = some (WW e (ug c s i x) m) := wr_ap hq hk hn hj (vv_G hl).1 (vv_G hl).2
theorem wr_apH {s i : Nat} {x : Int64} (hq : g_own e a = q) (hk : KV q = some (.inr (t, n))) (hn : n < 2 ^ 31) (hj : j < n) (hl : locH q j = some (s, i)) : m_ap (WW e c m) t a (nI j) (.long x) = some (WW e c (ug m s i x)) := wr_ap hq hk hn hj (vv_H hl).1 (vv_H hl).2
end PIC
section PICI
variable (e : GE) (c m : CS)
theorem xh0 : m_gI (WW e c m) 0 (g_h e) 0 = some (c.1 1 0) := rd_gI (o_h e) rfl rfl
theorem yh0 (x : Int32) : m_p (WW e c m) 0 (g_h e) 0 (.int x) = some (WW e (uc c 1 0 x) m) := wr_pC (o_h e) rfl rfl
theorem xh2 : m_gI (WW e c m) 0 (g_h e) 2 = some (c.1 2 0) := rd_gI (o_h e) rfl rfl
theorem yh2 (x : Int32) : m_p (WW e c m) 0 (g_h e) 2 (.int x) = some (WW e (uc c 2 0 x) m) := wr_pC (o_h e) rfl rfl
theorem xh3 : m_gI (WW e c m) 0 (g_h e) 3 = some (c.1 3 0) := rd_gI (o_h e) rfl rfl
theorem yh3 (x : Int32) : m_p (WW e c m) 0 (g_h e) 3 (.int x) = some (WW e (uc c 3 0 x) m) := wr_pC (o_h e) rfl rfl
theorem xh5 : m_gI (WW e c m) 0 (g_h e) 5 = some (c.1 4 0) := rd_gI (o_h e) rfl rfl
theorem yh5 (x : Int32) : m_p (WW e c m) 0 (g_h e) 5 (.int x) = some (WW e (uc c 4 0 x) m) := wr_pC (o_h e) rfl rfl
theorem xh8 : m_gI (WW e c m) 0 (g_h e) 8 = some (c.1 5 0) := rd_gI (o_h e) rfl rfl
theorem yh8 (x : Int32) : m_p (WW e c m) 0 (g_h e) 8 (.int x) = some (WW e (uc c 5 0 x) m) := wr_pC (o_h e) rfl rfl
theorem xh9 : m_gI (WW e c m) 0 (g_h e) 9 = some (c.1 6 0) := rd_gI (o_h e) rfl rfl
theorem yh9 (x : Int32) : m_p (WW e c m) 0 (g_h e) 9 (.int x) = some (WW e (uc c 6 0 x) m) := wr_pC (o_h e) rfl rfl
theorem xh1 : m_gR (WW e c m) 0 (g_h e) 1 = some (some (g_h e + 1)) := rd_gR (o_h e) rfl rfl
theorem xh4 : m_gR (WW e c m) 0 (g_h e) 4 = some (some (g_h e + 2)) := rd_gR (o_h e) rfl rfl
theorem xh6 : m_gR (WW e c m) 0 (g_h e) 6 = some (some (g_h e + 3)) := rd_gR (o_h e) rfl rfl
theorem xh7 : m_gR (WW e c m) 0 (g_h e) 7 = some (some (g_h e + 4)) := rd_gR (o_h e) rfl rfl
theorem zh : m_is (WW e c m) 0 (g_h e) = some () := rd_is (o_h e) rfl
theorem zm : m_is (WW e c m) 3 (g_ar e 6) = some () := rd_is (o_ar e 6 (by decide)) rfl
theorem zc {r : Nat} (h : r < g_nr e) : m_is (WW e c m) 1 (g_ca e r) = some () := rd_is (o_ca e h) rfl
theorem zt {t : Nat} (h : t < g_nt e) : m_is (WW e c m) 2 (g_ta e t) = some () := rd_is (o_ta e h) rfl
theorem xc0 {r : Nat} (h : r < g_nr e) : m_gI (WW e c m) 1 (g_ca e r) 0 = some (c.1 7 (g_cr e r)) := rd_gI (o_ca e h) rfl rfl
theorem yc0 {r : Nat} (h : r < g_nr e) (x : Int32) : m_p (WW e c m) 1 (g_ca e r) 0 (.int x) = some (WW e (uc c 7 (g_cr e r) x) m) := wr_pC (o_ca e h) rfl rfl
theorem xc1 {r : Nat} (h : r < g_nr e) : m_gI (WW e c m) 1 (g_ca e r) 1 = some (c.1 8 (g_cr e r)) := rd_gI (o_ca e h) rfl rfl
theorem yc1 {r : Nat} (h : r < g_nr e) (x : Int32) : m_p (WW e c m) 1 (g_ca e r) 1 (.int x) = some (WW e (uc c 8 (g_cr e r) x) m) := wr_pC (o_ca e h) rfl rfl
theorem xc2 {r : Nat} (h : r < g_nr e) : m_gI (WW e c m) 1 (g_ca e r) 2 = some (c.1 10 (g_cr e r)) := rd_gI (o_ca e h) rfl rfl
theorem yc2 {r : Nat} (h : r < g_nr e) (x : Int32) : m_p (WW e c m) 1 (g_ca e r) 2 (.int x) = some (WW e (uc c 10 (g_cr e r) x) m) := wr_pC (o_ca e h) rfl rfl
theorem xc3 {r : Nat} (h : r < g_nr e) : m_gI (WW e c m) 1 (g_ca e r) 3 = some (c.1 30 (g_cr e r)) := rd_gI (o_ca e h) rfl rfl
theorem yc3 {r : Nat} (h : r < g_nr e) (x : Int32) : m_p (WW e c m) 1 (g_ca e r) 3 (.int x) = some (WW e (uc c 30 (g_cr e r) x) m) := wr_pC (o_ca e h) rfl rfl
theorem xc4 {r : Nat} (h : r < g_nr e) : m_gI (WW e c m) 1 (g_ca e r) 4 = some (c.1 31 (g_cr e r)) := rd_gI (o_ca e h) rfl rfl
theorem yc4 {r : Nat} (h : r < g_nr e) (x : Int32) : m_p (WW e c m) 1 (g_ca e r) 4 (.int x) = some (WW e (uc c 31 (g_cr e r) x) m) := wr_pC (o_ca e h) rfl rfl
theorem xc5 {r : Nat} (h : r < g_nr e) : m_gL (WW e c m) 1 (g_ca e r) 5 = some (c.2 0 (g_cr e r)) := rd_gL (o_ca e h) rfl rfl
theorem yc5 {r : Nat} (h : r < g_nr e) (x : Int64) : m_p (WW e c m) 1 (g_ca e r) 5 (.long x) = some (WW e (ug c 0 (g_cr e r) x) m) := wr_pG (o_ca e h) rfl rfl
theorem xt0 {t : Nat} (h : t < g_nt e) : m_gI (WW e c m) 2 (g_ta e t) 0 = some (nI t) := rd_gI (o_ta e h) rfl rfl
theorem xt1 {t : Nat} (h : t < g_nt e) : m_gR (WW e c m) 2 (g_ta e t) 1 = some (some (g_ca e (g_rl e t))) := rd_gR (o_ta e h) rfl rfl
theorem xt2 {t : Nat} (h : t < g_nt e) : m_gR (WW e c m) 2 (g_ta e t) 2 = some (some (g_ta e t + 1)) := rd_gR (o_ta e h) rfl rfl
theorem xt3 {t : Nat} (h : t < g_nt e) : m_gR (WW e c m) 2 (g_ta e t) 3 = some (some (g_ta e t + 2)) := rd_gR (o_ta e h) rfl rfl
theorem xt4 {t : Nat} (h : t < g_nt e) : m_gR (WW e c m) 2 (g_ta e t) 4 = some (some (g_ta e t + 3)) := rd_gR (o_ta e h) rfl rfl
theorem xt5 {t : Nat} (h : t < g_nt e) : m_gI (WW e c m) 2 (g_ta e t) 5 = some (c.1 21 t) := rd_gI (o_ta e h) rfl rfl
theorem yt5 {t : Nat} (h : t < g_nt e) (x : Int32) : m_p (WW e c m) 2 (g_ta e t) 5 (.int x) = some (WW e (uc c 21 t x) m) := wr_pC (o_ta e h) rfl rfl
theorem xt6 {t : Nat} (h : t < g_nt e) : m_gI (WW e c m) 2 (g_ta e t) 6 = some (c.1 33 t) := rd_gI (o_ta e h) rfl rfl
theorem yt6 {t : Nat} (h : t < g_nt e) (x : Int32) : m_p (WW e c m) 2 (g_ta e t) 6 (.int x) = some (WW e (uc c 33 t x) m) := wr_pC (o_ta e h) rfl rfl
theorem xt7 {t : Nat} (h : t < g_nt e) : m_gI (WW e c m) 2 (g_ta e t) 7 = some (c.1 18 t) := rd_gI (o_ta e h) rfl rfl
theorem yt7 {t : Nat} (h : t < g_nt e) (x : Int32) : m_p (WW e c m) 2 (g_ta e t) 7 (.int x) = some (WW e (uc c 18 t x) m) := wr_pC (o_ta e h) rfl rfl
theorem xt8 {t : Nat} (h : t < g_nt e) : m_gI (WW e c m) 2 (g_ta e t) 8 = some (c.1 17 t) := rd_gI (o_ta e h) rfl rfl
theorem yt8 {t : Nat} (h : t < g_nt e) (x : Int32) : m_p (WW e c m) 2 (g_ta e t) 8 (.int x) = some (WW e (uc c 17 t x) m) := wr_pC (o_ta e h) rfl rfl
theorem xt9 {t : Nat} (h : t < g_nt e) : m_gI (WW e c m) 2 (g_ta e t) 9 = some (c.1 14 t) := rd_gI (o_ta e h) rfl rfl
theorem yt9 {t : Nat} (h : t < g_nt e) (x : Int32) : m_p (WW e c m) 2 (g_ta e t) 9 (.int x) = some (WW e (uc c 14 t x) m) := wr_pC (o_ta e h) rfl rfl
theorem xt10 {t : Nat} (h : t < g_nt e) : m_gI (WW e c m) 2 (g_ta e t) 10 = some (c.1 15 t) := rd_gI (o_ta e h) rfl rfl
theorem yt10 {t : Nat} (h : t < g_nt e) (x : Int32) : m_p (WW e c m) 2 (g_ta e t) 10 (.int x) = some (WW e (uc c 15 t x) m) := wr_pC (o_ta e h) rfl rfl
theorem xt11 {t : Nat} (h : t < g_nt e) : m_gI (WW e c m) 2 (g_ta e t) 11 = some (c.1 32 t) := rd_gI (o_ta e h) rfl rfl
theorem yt11 {t : Nat} (h : t < g_nt e) (x : Int32) : m_p (WW e c m) 2 (g_ta e t) 11 (.int x) = some (WW e (uc c 32 t x) m) := wr_pC (o_ta e h) rfl rfl
theorem xa0 {t : Nat} (h : t < g_nt e) : m_aI (WW e c m) 1 (g_ta e t + 1) 0 = some (c.1 13 (4 * t + 0)) := rd_aI (j := 0) (o_ta1 e h) rfl (by decide) (by decide) rfl
theorem ya0 {t : Nat} (h : t < g_nt e) (x : Int32) : m_ap (WW e c m) 1 (g_ta e t + 1) 0 (.int x) = some (WW e (uc c 13 (4 * t + 0) x) m) := wr_apC (j := 0) (o_ta1 e h) rfl (by decide) (by decide) rfl
theorem xa1 {t : Nat} (h : t < g_nt e) : m_aI (WW e c m) 1 (g_ta e t + 1) 1 = some (c.1 13 (4 * t + 1)) := rd_aI (j := 1) (o_ta1 e h) rfl (by decide) (by decide) rfl
theorem ya1 {t : Nat} (h : t < g_nt e) (x : Int32) : m_ap (WW e c m) 1 (g_ta e t + 1) 1 (.int x) = some (WW e (uc c 13 (4 * t + 1) x) m) := wr_apC (j := 1) (o_ta1 e h) rfl (by decide) (by decide) rfl
theorem xa2 {t : Nat} (h : t < g_nt e) : m_aI (WW e c m) 1 (g_ta e t + 1) 2 = some (c.1 13 (4 * t + 2)) := rd_aI (j := 2) (o_ta1 e h) rfl (by decide) (by decide) rfl
theorem ya2 {t : Nat} (h : t < g_nt e) (x : Int32) : m_ap (WW e c m) 1 (g_ta e t + 1) 2 (.int x) = some (WW e (uc c 13 (4 * t + 2) x) m) := wr_apC (j := 2) (o_ta1 e h) rfl (by decide) (by decide) rfl
theorem xa3 {t : Nat} (h : t < g_nt e) : m_aI (WW e c m) 1 (g_ta e t + 1) 3 = some (c.1 13 (4 * t + 3)) := rd_aI (j := 3) (o_ta1 e h) rfl (by decide) (by decide) rfl
theorem ya3 {t : Nat} (h : t < g_nt e) (x : Int32) : m_ap (WW e c m) 1 (g_ta e t + 1) 3 (.int x) = some (WW e (uc c 13 (4 * t + 3) x) m) := wr_apC (j := 3) (o_ta1 e h) rfl (by decide) (by decide) rfl
theorem xp0 {t : Nat} (h : t < g_nt e) : m_aI (WW e c m) 1 (g_ta e t + 2) 0 = some (c.1 20 (3 * t + 0)) := rd_aI (j := 0) (o_ta2 e h) rfl (by decide) (by decide) rfl
theorem yp0 {t : Nat} (h : t < g_nt e) (x : Int32) : m_ap (WW e c m) 1 (g_ta e t + 2) 0 (.int x) = some (WW e (uc c 20 (3 * t + 0) x) m) := wr_apC (j := 0) (o_ta2 e h) rfl (by decide) (by decide) rfl
theorem xs0 {t : Nat} (h : t < g_nt e) : m_aI (WW e c m) 2 (g_ta e t + 3) 0 = some (c.1 22 (3 * t + 0)) := rd_aI (j := 0) (o_ta3 e h) rfl (by decide) (by decide) rfl
theorem ys0 {t : Nat} (h : t < g_nt e) (x : Int32) : m_ap (WW e c m) 2 (g_ta e t + 3) 0 (.int x) = some (WW e (uc c 22 (3 * t + 0) x) m) := wr_apC (j := 0) (o_ta3 e h) rfl (by decide) (by decide) rfl
theorem xp1 {t : Nat} (h : t < g_nt e) : m_aI (WW e c m) 1 (g_ta e t + 2) 1 = some (c.1 20 (3 * t + 1)) := rd_aI (j := 1) (o_ta2 e h) rfl (by decide) (by decide) rfl
theorem yp1 {t : Nat} (h : t < g_nt e) (x : Int32) : m_ap (WW e c m) 1 (g_ta e t + 2) 1 (.int x) = some (WW e (uc c 20 (3 * t + 1) x) m) := wr_apC (j := 1) (o_ta2 e h) rfl (by decide) (by decide) rfl
theorem xs1 {t : Nat} (h : t < g_nt e) : m_aI (WW e c m) 2 (g_ta e t + 3) 1 = some (c.1 22 (3 * t + 1)) := rd_aI (j := 1) (o_ta3 e h) rfl (by decide) (by decide) rfl
theorem ys1 {t : Nat} (h : t < g_nt e) (x : Int32) : m_ap (WW e c m) 2 (g_ta e t + 3) 1 (.int x) = some (WW e (uc c 22 (3 * t + 1) x) m) := wr_apC (j := 1) (o_ta3 e h) rfl (by decide) (by decide) rfl
theorem xp2 {t : Nat} (h : t < g_nt e) : m_aI (WW e c m) 1 (g_ta e t + 2) 2 = some (c.1 20 (3 * t + 2)) := rd_aI (j := 2) (o_ta2 e h) rfl (by decide) (by decide) rfl
theorem yp2 {t : Nat} (h : t < g_nt e) (x : Int32) : m_ap (WW e c m) 1 (g_ta e t + 2) 2 (.int x) = some (WW e (uc c 20 (3 * t + 2) x) m) := wr_apC (j := 2) (o_ta2 e h) rfl (by decide) (by decide) rfl
theorem xs2 {t : Nat} (h : t < g_nt e) : m_aI (WW e c m) 2 (g_ta e t + 3) 2 = some (c.1 22 (3 * t + 2)) := rd_aI (j := 2) (o_ta3 e h) rfl (by decide) (by decide) rfl
theorem ys2 {t : Nat} (h : t < g_nt e) (x : Int32) : m_ap (WW e c m) 2 (g_ta e t + 3) 2 (.int x) = some (WW e (uc c 22 (3 * t + 2) x) m) := wr_apC (j := 2) (o_ta3 e h) rfl (by decide) (by decide) rfl
theorem xr {r : Nat} (h : r < g_nr e) : m_aR (WW e c m) 3 (g_h e + 1) (nI r) = some (some (g_ca e r)) := rd_aR (o_h1 e) rfl (by decide) (Nat.lt_of_lt_of_le h (g_nr16 e)) (if_pos h)
theorem xg {t : Nat} (h : t < g_nt e) : m_aR (WW e c m) 4 (g_h e + 2) (nI t) = some (some (g_ta e t)) := rd_aR (o_h2 e) rfl (by decide) (Nat.lt_of_lt_of_le h (g_nt40 e)) (if_pos h)
theorem xn3 {i : Nat} (h : i < 400) : m_aI (WW e c m) 1 (g_h e + 3) (nI i) = some (c.1 23 i) := rd_aI (o_h3 e) rfl (by decide) h rfl
theorem yn3 {i : Nat} (h : i < 400) (x : Int32) : m_ap (WW e c m) 1 (g_h e + 3) (nI i) (.int x) = some (WW e (uc c 23 i x) m) := wr_apC (o_h3 e) rfl (by decide) h rfl
theorem xn4 {i : Nat} (h : i < 400) : m_aI (WW e c m) 1 (g_h e + 4) (nI i) = some (c.1 24 i) := rd_aI (o_h4 e) rfl (by decide) h rfl
theorem yn4 {i : Nat} (h : i < 400) (x : Int32) : m_ap (WW e c m) 1 (g_h e + 4) (nI i) (.int x) = some (WW e (uc c 24 i x) m) := wr_apC (o_h4 e) rfl (by decide) h rfl
theorem xl : m_aL (WW e c m) 8 (g_h e + 24) 0 = some (c.2 1 0) := rd_aL (j := 0) (o_h24 e) rfl (by decide) (by decide) rfl
theorem yl (x : Int64) : m_ap (WW e c m) 8 (g_h e + 24) 0 (.long x) = some (WW e (ug c 1 0 x) m) := wr_apG (j := 0) (o_h24 e) rfl (by decide) (by decide) rfl
theorem xm0 : m_gI (WW e c m) 3 (g_ar e 6) 0 = some (m.1 0 0) := rd_gI (o_ar e 6 (by decide)) rfl rfl
theorem ym0 (x : Int32) : m_p (WW e c m) 3 (g_ar e 6) 0 (.int x) = some (WW e c (uc m 0 0 x)) := wr_pM (o_ar e 6 (by decide)) rfl rfl
theorem xm1 : m_gI (WW e c m) 3 (g_ar e 6) 1 = some (m.1 1 0) := rd_gI (o_ar e 6 (by decide)) rfl rfl
theorem ym1 (x : Int32) : m_p (WW e c m) 3 (g_ar e 6) 1 (.int x) = some (WW e c (uc m 1 0 x)) := wr_pM (o_ar e 6 (by decide)) rfl rfl
theorem xm2 : m_gI (WW e c m) 3 (g_ar e 6) 2 = some (m.1 2 0) := rd_gI (o_ar e 6 (by decide)) rfl rfl
theorem ym2 (x : Int32) : m_p (WW e c m) 3 (g_ar e 6) 2 (.int x) = some (WW e c (uc m 2 0 x)) := wr_pM (o_ar e 6 (by decide)) rfl rfl
theorem xm3 : m_gI (WW e c m) 3 (g_ar e 6) 3 = some (m.1 3 0) := rd_gI (o_ar e 6 (by decide)) rfl rfl
theorem ym3 (x : Int32) : m_p (WW e c m) 3 (g_ar e 6) 3 (.int x) = some (WW e c (uc m 3 0 x)) := wr_pM (o_ar e 6 (by decide)) rfl rfl
theorem xm4 : m_gI (WW e c m) 3 (g_ar e 6) 4 = some (m.1 4 0) := rd_gI (o_ar e 6 (by decide)) rfl rfl
theorem ym4 (x : Int32) : m_p (WW e c m) 3 (g_ar e 6) 4 (.int x) = some (WW e c (uc m 4 0 x)) := wr_pM (o_ar e 6 (by decide)) rfl rfl
theorem xm5 : m_gI (WW e c m) 3 (g_ar e 6) 5 = some (m.1 5 0) := rd_gI (o_ar e 6 (by decide)) rfl rfl
theorem ym5 (x : Int32) : m_p (WW e c m) 3 (g_ar e 6) 5 (.int x) = some (WW e c (uc m 5 0 x)) := wr_pM (o_ar e 6 (by decide)) rfl rfl
theorem xm6 : m_gI (WW e c m) 3 (g_ar e 6) 6 = some (m.1 6 0) := rd_gI (o_ar e 6 (by decide)) rfl rfl
theorem ym6 (x : Int32) : m_p (WW e c m) 3 (g_ar e 6) 6 (.int x) = some (WW e c (uc m 6 0 x)) := wr_pM (o_ar e 6 (by decide)) rfl rfl
theorem xm7 : m_gR (WW e c m) 3 (g_ar e 6) 7 = some (some (g_ar e 7)) := rd_gR (o_ar e 6 (by decide)) rfl rfl
theorem xi7 {i : Nat} (h : i < 16) : m_aI (WW e c m) 5 (g_ar e 7) (nI i) = some (m.1 7 i) := rd_aI (o_ar e 7 (by decide)) rfl (by decide) h rfl
theorem yi7 {i : Nat} (h : i < 16) (x : Int32) : m_ap (WW e c m) 5 (g_ar e 7) (nI i) (.int x) = some (WW e c (uc m 7 i x)) := wr_apM (o_ar e 7 (by decide)) rfl (by decide) h rfl
theorem xm8 : m_gR (WW e c m) 3 (g_ar e 6) 8 = some (some (g_ar e 8)) := rd_gR (o_ar e 6 (by decide)) rfl rfl
theorem xi8 {i : Nat} (h : i < 16) : m_aI (WW e c m) 5 (g_ar e 8) (nI i) = some (m.1 8 i) := rd_aI (o_ar e 8 (by decide)) rfl (by decide) h rfl
theorem yi8 {i : Nat} (h : i < 16) (x : Int32) : m_ap (WW e c m) 5 (g_ar e 8) (nI i) (.int x) = some (WW e c (uc m 8 i x)) := wr_apM (o_ar e 8 (by decide)) rfl (by decide) h rfl
theorem xm9 : m_gR (WW e c m) 3 (g_ar e 6) 9 = some (some (g_ar e 9)) := rd_gR (o_ar e 6 (by decide)) rfl rfl
theorem xi9 {i : Nat} (h : i < 16) : m_aI (WW e c m) 5 (g_ar e 9) (nI i) = some (m.1 9 i) := rd_aI (o_ar e 9 (by decide)) rfl (by decide) h rfl
theorem yi9 {i : Nat} (h : i < 16) (x : Int32) : m_ap (WW e c m) 5 (g_ar e 9) (nI i) (.int x) = some (WW e c (uc m 9 i x)) := wr_apM (o_ar e 9 (by decide)) rfl (by decide) h rfl
theorem xm10 : m_gR (WW e c m) 3 (g_ar e 6) 10 = some (some (g_ar e 10)) := rd_gR (o_ar e 6 (by decide)) rfl rfl
theorem xi10 {i : Nat} (h : i < 16) : m_aI (WW e c m) 6 (g_ar e 10) (nI i) = some (m.1 10 i) := rd_aI (o_ar e 10 (by decide)) rfl (by decide) h rfl
theorem yi10 {i : Nat} (h : i < 16) (x : Int32) : m_ap (WW e c m) 6 (g_ar e 10) (nI i) (.int x) = some (WW e c (uc m 10 i x)) := wr_apM (o_ar e 10 (by decide)) rfl (by decide) h rfl
theorem xm11 : m_gR (WW e c m) 3 (g_ar e 6) 11 = some (some (g_ar e 11)) := rd_gR (o_ar e 6 (by decide)) rfl rfl
theorem xi11 {i : Nat} (h : i < 16) : m_aL (WW e c m) 7 (g_ar e 11) (nI i) = some (m.2 0 i) := rd_aL (o_ar e 11 (by decide)) rfl (by decide) h rfl
theorem yi11 {i : Nat} (h : i < 16) (x : Int64) : m_ap (WW e c m) 7 (g_ar e 11) (nI i) (.long x) = some (WW e c (ug m 0 i x)) := wr_apH (o_ar e 11 (by decide)) rfl (by decide) h rfl
theorem xm12 : m_gR (WW e c m) 3 (g_ar e 6) 12 = some (some (g_ar e 12)) := rd_gR (o_ar e 6 (by decide)) rfl rfl
theorem xi12 {i : Nat} (h : i < 40) : m_aI (WW e c m) 5 (g_ar e 12) (nI i) = some (m.1 12 i) := rd_aI (o_ar e 12 (by decide)) rfl (by decide) h rfl
theorem yi12 {i : Nat} (h : i < 40) (x : Int32) : m_ap (WW e c m) 5 (g_ar e 12) (nI i) (.int x) = some (WW e c (uc m 12 i x)) := wr_apM (o_ar e 12 (by decide)) rfl (by decide) h rfl
theorem xm13 : m_gR (WW e c m) 3 (g_ar e 6) 13 = some (some (g_ar e 13)) := rd_gR (o_ar e 6 (by decide)) rfl rfl
theorem xi13 {i : Nat} (h : i < 160) : m_aI (WW e c m) 5 (g_ar e 13) (nI i) = some (m.1 13 i) := rd_aI (o_ar e 13 (by decide)) rfl (by decide) h rfl
theorem yi13 {i : Nat} (h : i < 160) (x : Int32) : m_ap (WW e c m) 5 (g_ar e 13) (nI i) (.int x) = some (WW e c (uc m 13 i x)) := wr_apM (o_ar e 13 (by decide)) rfl (by decide) h rfl
theorem xm14 : m_gR (WW e c m) 3 (g_ar e 6) 14 = some (some (g_ar e 14)) := rd_gR (o_ar e 6 (by decide)) rfl rfl
theorem xi14 {i : Nat} (h : i < 40) : m_aI (WW e c m) 5 (g_ar e 14) (nI i) = some (m.1 14 i) := rd_aI (o_ar e 14 (by decide)) rfl (by decide) h rfl
theorem yi14 {i : Nat} (h : i < 40) (x : Int32) : m_ap (WW e c m) 5 (g_ar e 14) (nI i) (.int x) = some (WW e c (uc m 14 i x)) := wr_apM (o_ar e 14 (by decide)) rfl (by decide) h rfl
theorem xm15 : m_gR (WW e c m) 3 (g_ar e 6) 15 = some (some (g_ar e 15)) := rd_gR (o_ar e 6 (by decide)) rfl rfl
theorem xi15 {i : Nat} (h : i < 40) : m_aI (WW e c m) 5 (g_ar e 15) (nI i) = some (m.1 15 i) := rd_aI (o_ar e 15 (by decide)) rfl (by decide) h rfl
theorem yi15 {i : Nat} (h : i < 40) (x : Int32) : m_ap (WW e c m) 5 (g_ar e 15) (nI i) (.int x) = some (WW e c (uc m 15 i x)) := wr_apM (o_ar e 15 (by decide)) rfl (by decide) h rfl
theorem xm16 : m_gR (WW e c m) 3 (g_ar e 6) 16 = some (some (g_ar e 16)) := rd_gR (o_ar e 6 (by decide)) rfl rfl
theorem xi16 {i : Nat} (h : i < 40) : m_aI (WW e c m) 5 (g_ar e 16) (nI i) = some (m.1 16 i) := rd_aI (o_ar e 16 (by decide)) rfl (by decide) h rfl
theorem yi16 {i : Nat} (h : i < 40) (x : Int32) : m_ap (WW e c m) 5 (g_ar e 16) (nI i) (.int x) = some (WW e c (uc m 16 i x)) := wr_apM (o_ar e 16 (by decide)) rfl (by decide) h rfl
theorem xm17 : m_gR (WW e c m) 3 (g_ar e 6) 17 = some (some (g_ar e 17)) := rd_gR (o_ar e 6 (by decide)) rfl rfl
theorem xi17 {i : Nat} (h : i < 40) : m_aI (WW e c m) 5 (g_ar e 17) (nI i) = some (m.1 17 i) := rd_aI (o_ar e 17 (by decide)) rfl (by decide) h rfl
theorem yi17 {i : Nat} (h : i < 40) (x : Int32) : m_ap (WW e c m) 5 (g_ar e 17) (nI i) (.int x) = some (WW e c (uc m 17 i x)) := wr_apM (o_ar e 17 (by decide)) rfl (by decide) h rfl
theorem xm18 : m_gR (WW e c m) 3 (g_ar e 6) 18 = some (some (g_ar e 18)) := rd_gR (o_ar e 6 (by decide)) rfl rfl
theorem xi18 {i : Nat} (h : i < 40) : m_aI (WW e c m) 5 (g_ar e 18) (nI i) = some (m.1 18 i) := rd_aI (o_ar e 18 (by decide)) rfl (by decide) h rfl
theorem yi18 {i : Nat} (h : i < 40) (x : Int32) : m_ap (WW e c m) 5 (g_ar e 18) (nI i) (.int x) = some (WW e c (uc m 18 i x)) := wr_apM (o_ar e 18 (by decide)) rfl (by decide) h rfl
theorem xm19 : m_gR (WW e c m) 3 (g_ar e 6) 19 = some (some (g_ar e 19)) := rd_gR (o_ar e 6 (by decide)) rfl rfl
theorem xi19 {i : Nat} (h : i < 40) : m_aI (WW e c m) 5 (g_ar e 19) (nI i) = some (m.1 19 i) := rd_aI (o_ar e 19 (by decide)) rfl (by decide) h rfl
theorem yi19 {i : Nat} (h : i < 40) (x : Int32) : m_ap (WW e c m) 5 (g_ar e 19) (nI i) (.int x) = some (WW e c (uc m 19 i x)) := wr_apM (o_ar e 19 (by decide)) rfl (by decide) h rfl
theorem xm20 : m_gR (WW e c m) 3 (g_ar e 6) 20 = some (some (g_ar e 20)) := rd_gR (o_ar e 6 (by decide)) rfl rfl
theorem xi20 {i : Nat} (h : i < 120) : m_aI (WW e c m) 5 (g_ar e 20) (nI i) = some (m.1 20 i) := rd_aI (o_ar e 20 (by decide)) rfl (by decide) h rfl
theorem yi20 {i : Nat} (h : i < 120) (x : Int32) : m_ap (WW e c m) 5 (g_ar e 20) (nI i) (.int x) = some (WW e c (uc m 20 i x)) := wr_apM (o_ar e 20 (by decide)) rfl (by decide) h rfl
theorem xm21 : m_gR (WW e c m) 3 (g_ar e 6) 21 = some (some (g_ar e 21)) := rd_gR (o_ar e 6 (by decide)) rfl rfl
theorem xi21 {i : Nat} (h : i < 40) : m_aI (WW e c m) 6 (g_ar e 21) (nI i) = some (m.1 21 i) := rd_aI (o_ar e 21 (by decide)) rfl (by decide) h rfl
theorem yi21 {i : Nat} (h : i < 40) (x : Int32) : m_ap (WW e c m) 6 (g_ar e 21) (nI i) (.int x) = some (WW e c (uc m 21 i x)) := wr_apM (o_ar e 21 (by decide)) rfl (by decide) h rfl
theorem xm22 : m_gR (WW e c m) 3 (g_ar e 6) 22 = some (some (g_ar e 22)) := rd_gR (o_ar e 6 (by decide)) rfl rfl
theorem xi22 {i : Nat} (h : i < 120) : m_aI (WW e c m) 6 (g_ar e 22) (nI i) = some (m.1 22 i) := rd_aI (o_ar e 22 (by decide)) rfl (by decide) h rfl
theorem yi22 {i : Nat} (h : i < 120) (x : Int32) : m_ap (WW e c m) 6 (g_ar e 22) (nI i) (.int x) = some (WW e c (uc m 22 i x)) := wr_apM (o_ar e 22 (by decide)) rfl (by decide) h rfl
theorem xm23 : m_gR (WW e c m) 3 (g_ar e 6) 23 = some (some (g_ar e 23)) := rd_gR (o_ar e 6 (by decide)) rfl rfl
theorem xi23 {i : Nat} (h : i < 400) : m_aI (WW e c m) 5 (g_ar e 23) (nI i) = some (m.1 23 i) := rd_aI (o_ar e 23 (by decide)) rfl (by decide) h rfl
theorem yi23 {i : Nat} (h : i < 400) (x : Int32) : m_ap (WW e c m) 5 (g_ar e 23) (nI i) (.int x) = some (WW e c (uc m 23 i x)) := wr_apM (o_ar e 23 (by decide)) rfl (by decide) h rfl
theorem xm24 : m_gR (WW e c m) 3 (g_ar e 6) 24 = some (some (g_ar e 24)) := rd_gR (o_ar e 6 (by decide)) rfl rfl
theorem xi24 {i : Nat} (h : i < 400) : m_aI (WW e c m) 5 (g_ar e 24) (nI i) = some (m.1 24 i) := rd_aI (o_ar e 24 (by decide)) rfl (by decide) h rfl
theorem yi24 {i : Nat} (h : i < 400) (x : Int32) : m_ap (WW e c m) 5 (g_ar e 24) (nI i) (.int x) = some (WW e c (uc m 24 i x)) := wr_apM (o_ar e 24 (by decide)) rfl (by decide) h rfl
end PICI
theorem m_bS {α β : Type} (x : α) (s : MS) (f : α → MS → Option β) : m_b (some (x, s)) f = f x s := rfl
theorem m_nnN {β : Type} (A : Option β) (B : Nat → Option β) : m_nn none A B = A := rfl
theorem m_nnS {β : Type} (a : Nat) (A : Option β) (B : Nat → Option β) : m_nn (some a) A B = B a := rfl
theorem i4_0 (t : Nat) : 4 * nI t + 0 = nI (4 * t + 0) := by rw [← nI_add, ← pk_mul]; rfl
theorem i4_1 (t : Nat) : 4 * nI t + 1 = nI (4 * t + 1) := by rw [← nI_add, ← pk_mul]; rfl
theorem i4_2 (t : Nat) : 4 * nI t + 2 = nI (4 * t + 2) := by rw [← nI_add, ← pk_mul]; rfl
theorem i4_3 (t : Nat) : 4 * nI t + 3 = nI (4 * t + 3) := by rw [← nI_add, ← pk_mul]; rfl
theorem i4 (t : Nat) : 4 * nI t = nI (4 * t + 0) := by rw [show 4 * t + 0 = 4 * t from rfl, ← pk_mul]; rfl
theorem i3_0 (t : Nat) : 3 * nI t + 0 = nI (3 * t + 0) := by rw [← nI_add, ← pk_mul]; rfl
theorem i3_1 (t : Nat) : 3 * nI t + 1 = nI (3 * t + 1) := by rw [← nI_add, ← pk_mul]; rfl
theorem i3_2 (t : Nat) : 3 * nI t + 2 = nI (3 * t + 2) := by rw [← nI_add, ← pk_mul]; rfl
theorem i3 (t : Nat) : 3 * nI t = nI (3 * t + 0) := by rw [show 3 * t + 0 = 3 * t from rfl, ← pk_mul]; rfl
theorem xi13_z (e : GE) (c m : CS) {t : Nat} (h : t < 40) : m_aI (WW e c m) 5 (g_ar e 13) (4 * nI t) = some (m.1 13 (4 * t + 0)) := by rw [i4, xi13 e c m (by omega)]
theorem xi22_z (e : GE) (c m : CS) {t : Nat} (h : t < 40) : m_aI (WW e c m) 6 (g_ar e 22) (3 * nI t) = some (m.1 22 (3 * t + 0)) := by rw [i3, xi22 e c m (by omega)]
theorem xi20_z (e : GE) (c m : CS) {t : Nat} (h : t < 40) : m_aI (WW e c m) 5 (g_ar e 20) (3 * nI t) = some (m.1 20 (3 * t + 0)) := by rw [i3, xi20 e c m (by omega)]
theorem q01 : (((0 : Int32) = 1)) = False := by decide
theorem q02 : (((0 : Int32) = 2)) = False := by decide
theorem q03 : (((0 : Int32) = 3)) = False := by decide
theorem q04 : (((0 : Int32) = 4)) = False := by decide
theorem q05 : (((0 : Int32) = 5)) = False := by decide
theorem q06 : (((0 : Int32) = 6)) = False := by decide
theorem q07 : (((0 : Int32) = 7)) = False := by decide
theorem q08 : (((0 : Int32) = 8)) = False := by decide
theorem q10 : (((1 : Int32) = 0)) = False := by decide
theorem q12 : (((1 : Int32) = 2)) = False := by decide
theorem q13 : (((1 : Int32) = 3)) = False := by decide
theorem q14 : (((1 : Int32) = 4)) = False := by decide
theorem q15 : (((1 : Int32) = 5)) = False := by decide
theorem q16 : (((1 : Int32) = 6)) = False := by decide
theorem q17 : (((1 : Int32) = 7)) = False := by decide
theorem q18 : (((1 : Int32) = 8)) = False := by decide
theorem q20 : (((2 : Int32) = 0)) = False := by decide
theorem q21 : (((2 : Int32) = 1)) = False := by decide
theorem q23 : (((2 : Int32) = 3)) = False := by decide
theorem q24 : (((2 : Int32) = 4)) = False := by decide
theorem q25 : (((2 : Int32) = 5)) = False := by decide
theorem q26 : (((2 : Int32) = 6)) = False := by decide
theorem q27 : (((2 : Int32) = 7)) = False := by decide
theorem q28 : (((2 : Int32) = 8)) = False := by decide
theorem q30 : (((3 : Int32) = 0)) = False := by decide
theorem q31 : (((3 : Int32) = 1)) = False := by decide
theorem q32 : (((3 : Int32) = 2)) = False := by decide
theorem q34 : (((3 : Int32) = 4)) = False := by decide
theorem q35 : (((3 : Int32) = 5)) = False := by decide
theorem q36 : (((3 : Int32) = 6)) = False := by decide
theorem q37 : (((3 : Int32) = 7)) = False := by decide
theorem q38 : (((3 : Int32) = 8)) = False := by decide
theorem q40 : (((4 : Int32) = 0)) = False := by decide
theorem q41 : (((4 : Int32) = 1)) = False := by decide
theorem q42 : (((4 : Int32) = 2)) = False := by decide
theorem q43 : (((4 : Int32) = 3)) = False := by decide
theorem q45 : (((4 : Int32) = 5)) = False := by decide
theorem q46 : (((4 : Int32) = 6)) = False := by decide
theorem q47 : (((4 : Int32) = 7)) = False := by decide
theorem q48 : (((4 : Int32) = 8)) = False := by decide
theorem q50 : (((5 : Int32) = 0)) = False := by decide
theorem q51 : (((5 : Int32) = 1)) = False := by decide
theorem q52 : (((5 : Int32) = 2)) = False := by decide
theorem q53 : (((5 : Int32) = 3)) = False := by decide
theorem q54 : (((5 : Int32) = 4)) = False := by decide
theorem q56 : (((5 : Int32) = 6)) = False := by decide
theorem q57 : (((5 : Int32) = 7)) = False := by decide
theorem q58 : (((5 : Int32) = 8)) = False := by decide
theorem q60 : (((6 : Int32) = 0)) = False := by decide
theorem q61 : (((6 : Int32) = 1)) = False := by decide
theorem q62 : (((6 : Int32) = 2)) = False := by decide
theorem q63 : (((6 : Int32) = 3)) = False := by decide
theorem q64 : (((6 : Int32) = 4)) = False := by decide
theorem q65 : (((6 : Int32) = 5)) = False := by decide
theorem q67 : (((6 : Int32) = 7)) = False := by decide
theorem q68 : (((6 : Int32) = 8)) = False := by decide
theorem q70 : (((7 : Int32) = 0)) = False := by decide
theorem q71 : (((7 : Int32) = 1)) = False := by decide
theorem q72 : (((7 : Int32) = 2)) = False := by decide
theorem q73 : (((7 : Int32) = 3)) = False := by decide
theorem q74 : (((7 : Int32) = 4)) = False := by decide
theorem q75 : (((7 : Int32) = 5)) = False := by decide
theorem q76 : (((7 : Int32) = 6)) = False := by decide
theorem q78 : (((7 : Int32) = 8)) = False := by decide
theorem q80 : (((8 : Int32) = 0)) = False := by decide
theorem q81 : (((8 : Int32) = 1)) = False := by decide
theorem q82 : (((8 : Int32) = 2)) = False := by decide
theorem q83 : (((8 : Int32) = 3)) = False := by decide
theorem q84 : (((8 : Int32) = 4)) = False := by decide
theorem q85 : (((8 : Int32) = 5)) = False := by decide
theorem q86 : (((8 : Int32) = 6)) = False := by decide
theorem q87 : (((8 : Int32) = 7)) = False := by decide
theorem w02 (s : MS) : f_X0_isWithin 0 2 s = some (1, s) := rfl
theorem w12 (s : MS) : f_X0_isWithin 1 2 s = some (1, s) := rfl
theorem w22 (s : MS) : f_X0_isWithin 2 2 s = some (1, s) := rfl
theorem w03 (s : MS) : f_X0_isWithin 0 3 s = some (1, s) := rfl
theorem w13 (s : MS) : f_X0_isWithin 1 3 s = some (1, s) := rfl
theorem w23 (s : MS) : f_X0_isWithin 2 3 s = some (1, s) := rfl
theorem w33 (s : MS) : f_X0_isWithin 3 3 s = some (1, s) := rfl
theorem qm1 : (((-1) : Int32) = (-1)) = True := by decide
theorem uc_r {c : CS} {k i k' i' : Nat} {v : Int32} : (uc c k i v).1 k' i' = if k' = k ∧ i' = i then v else c.1 k' i' := rfl
theorem ug_r {c : CS} {k i k' i' : Nat} {v : Int64} : (ug c k i v).2 k' i' = if k' = k ∧ i' = i then v else c.2 k' i' := rfl
theorem uc2 {c : CS} {k i : Nat} {v : Int32} : (uc c k i v).2 = c.2 := rfl
theorem ug1 {c : CS} {k i : Nat} {w : Int64} : (ug c k i w).1 = c.1 := rfl
