section
-- ===== PART A: goes FIRST, ahead of the names: the tables' words, and 'selects' of the private methods out of them =====
/-- a private method of a class that the tables say can be made, by its rows of tables_1 -/
def lw_okq (q : MethodName × Nat) : Prop := (q.1.cls ≠ "java/lang/invoke/MethodHandle" ∧ q.1.cls ≠ "java/lang/invoke/VarHandle") ∧ Cond.instantiable q.1.cls q.2 ∈ tables_1 ∧ Cond.privateMethod q.1 ∈ tables_1 ∧ Cond.instanceMethod q.1 ∈ tables_1
theorem lw_p0 : lw_okq (⟨"RuleHouse2", "findClass", "(II)LRuleHouse2$RuleClass;"⟩, 10) := ⟨⟨by decide +kernel, by decide +kernel⟩, List.mem_of_getElem? (i := 12) (by decide +kernel), List.mem_of_getElem? (i := 70) (by decide +kernel), List.mem_of_getElem? (i := 71) (by decide +kernel)⟩
theorem lw_p1 : lw_okq (⟨"RuleHouse2", "classAt", "(I)LRuleHouse2$RuleClass;"⟩, 10) := ⟨⟨by decide +kernel, by decide +kernel⟩, List.mem_of_getElem? (i := 12) (by decide +kernel), List.mem_of_getElem? (i := 74) (by decide +kernel), List.mem_of_getElem? (i := 75) (by decide +kernel)⟩
theorem lw_p2 : lw_okq (⟨"RuleHouse2", "ensureMade", "(LRuleHouse2$RuleClass;)Z"⟩, 10) := ⟨⟨by decide +kernel, by decide +kernel⟩, List.mem_of_getElem? (i := 12) (by decide +kernel), List.mem_of_getElem? (i := 116) (by decide +kernel), List.mem_of_getElem? (i := 117) (by decide +kernel)⟩
theorem lw_p3 : lw_okq (⟨"RuleHouse2", "targetAt", "(I)LRuleHouse2$Target;"⟩, 10) := ⟨⟨by decide +kernel, by decide +kernel⟩, List.mem_of_getElem? (i := 12) (by decide +kernel), List.mem_of_getElem? (i := 124) (by decide +kernel), List.mem_of_getElem? (i := 125) (by decide +kernel)⟩
theorem lw_p4 : lw_okq (⟨"RuleHouse2", "runOnce", "(LRuleHouse2$Target;I)V"⟩, 10) := ⟨⟨by decide +kernel, by decide +kernel⟩, List.mem_of_getElem? (i := 12) (by decide +kernel), List.mem_of_getElem? (i := 194) (by decide +kernel), List.mem_of_getElem? (i := 195) (by decide +kernel)⟩
theorem lw_p5 : lw_okq (⟨"RuleHouse2", "doBits", "(LRuleHouse2$Target;LRuleHouse2$Target;)V"⟩, 10) := ⟨⟨by decide +kernel, by decide +kernel⟩, List.mem_of_getElem? (i := 12) (by decide +kernel), List.mem_of_getElem? (i := 202) (by decide +kernel), List.mem_of_getElem? (i := 203) (by decide +kernel)⟩
theorem lw_p6 : lw_okq (⟨"RuleHouse2", "takesStep", "(LRuleHouse2$Target;)Z"⟩, 10) := ⟨⟨by decide +kernel, by decide +kernel⟩, List.mem_of_getElem? (i := 12) (by decide +kernel), List.mem_of_getElem? (i := 206) (by decide +kernel), List.mem_of_getElem? (i := 207) (by decide +kernel)⟩
theorem lw_p7 : lw_okq (⟨"RuleHouse2", "doBit", "(LRuleHouse2$Target;LRuleHouse2$Target;I)I"⟩, 10) := ⟨⟨by decide +kernel, by decide +kernel⟩, List.mem_of_getElem? (i := 12) (by decide +kernel), List.mem_of_getElem? (i := 210) (by decide +kernel), List.mem_of_getElem? (i := 211) (by decide +kernel)⟩
theorem lw_p8 : lw_okq (⟨"RuleHouse2", "addActions", "(LRuleHouse2$Target;)I"⟩, 10) := ⟨⟨by decide +kernel, by decide +kernel⟩, List.mem_of_getElem? (i := 12) (by decide +kernel), List.mem_of_getElem? (i := 217) (by decide +kernel), List.mem_of_getElem? (i := 218) (by decide +kernel)⟩
theorem lw_p9 : lw_okq (⟨"RuleHouse2", "keepHandle", "()I"⟩, 10) := ⟨⟨by decide +kernel, by decide +kernel⟩, List.mem_of_getElem? (i := 12) (by decide +kernel), List.mem_of_getElem? (i := 237) (by decide +kernel), List.mem_of_getElem? (i := 238) (by decide +kernel)⟩
theorem lw_p10 : lw_okq (⟨"RuleHouse2", "digest", "(II)I"⟩, 10) := ⟨⟨by decide +kernel, by decide +kernel⟩, List.mem_of_getElem? (i := 12) (by decide +kernel), List.mem_of_getElem? (i := 245) (by decide +kernel), List.mem_of_getElem? (i := 246) (by decide +kernel)⟩
theorem lw_p11 : lw_okq (⟨"java/lang/Throwable", "fillInStackTrace", "(I)Ljava/lang/Throwable;"⟩, 6) := ⟨⟨by decide +kernel, by decide +kernel⟩, List.mem_of_getElem? (i := 314) (by decide +kernel), List.mem_of_getElem? (i := 312) (by decide +kernel), List.mem_of_getElem? (i := 313) (by decide +kernel)⟩
theorem lw_p12 : lw_okq (⟨"RuleHouse2Model", "isRule", "(I)Z"⟩, 25) := ⟨⟨by decide +kernel, by decide +kernel⟩, List.mem_of_getElem? (i := 368) (by decide +kernel), List.mem_of_getElem? (i := 464) (by decide +kernel), List.mem_of_getElem? (i := 465) (by decide +kernel)⟩
theorem lw_p13 : lw_okq (⟨"RuleHouse2Model", "classOf", "(I)I"⟩, 25) := ⟨⟨by decide +kernel, by decide +kernel⟩, List.mem_of_getElem? (i := 368) (by decide +kernel), List.mem_of_getElem? (i := 468) (by decide +kernel), List.mem_of_getElem? (i := 469) (by decide +kernel)⟩
theorem lw_p14 : lw_okq (⟨"RuleHouse2Model", "firstOf", "(I)I"⟩, 25) := ⟨⟨by decide +kernel, by decide +kernel⟩, List.mem_of_getElem? (i := 368) (by decide +kernel), List.mem_of_getElem? (i := 472) (by decide +kernel), List.mem_of_getElem? (i := 473) (by decide +kernel)⟩
theorem lw_p15 : lw_okq (⟨"RuleHouse2Model", "isTarget", "(I)Z"⟩, 25) := ⟨⟨by decide +kernel, by decide +kernel⟩, List.mem_of_getElem? (i := 368) (by decide +kernel), List.mem_of_getElem? (i := 501) (by decide +kernel), List.mem_of_getElem? (i := 502) (by decide +kernel)⟩
def lw_privs_1 : List (MethodName × Nat) := [(⟨"RuleHouse2", "findClass", "(II)LRuleHouse2$RuleClass;"⟩, 10), (⟨"RuleHouse2", "classAt", "(I)LRuleHouse2$RuleClass;"⟩, 10), (⟨"RuleHouse2", "ensureMade", "(LRuleHouse2$RuleClass;)Z"⟩, 10), (⟨"RuleHouse2", "targetAt", "(I)LRuleHouse2$Target;"⟩, 10), (⟨"RuleHouse2", "runOnce", "(LRuleHouse2$Target;I)V"⟩, 10), (⟨"RuleHouse2", "doBits", "(LRuleHouse2$Target;LRuleHouse2$Target;)V"⟩, 10), (⟨"RuleHouse2", "takesStep", "(LRuleHouse2$Target;)Z"⟩, 10), (⟨"RuleHouse2", "doBit", "(LRuleHouse2$Target;LRuleHouse2$Target;I)I"⟩, 10), (⟨"RuleHouse2", "addActions", "(LRuleHouse2$Target;)I"⟩, 10), (⟨"RuleHouse2", "keepHandle", "()I"⟩, 10), (⟨"RuleHouse2", "digest", "(II)I"⟩, 10), (⟨"java/lang/Throwable", "fillInStackTrace", "(I)Ljava/lang/Throwable;"⟩, 6), (⟨"RuleHouse2Model", "isRule", "(I)Z"⟩, 25), (⟨"RuleHouse2Model", "classOf", "(I)I"⟩, 25), (⟨"RuleHouse2Model", "firstOf", "(I)I"⟩, 25), (⟨"RuleHouse2Model", "isTarget", "(I)Z"⟩, 25)]
theorem lw_r1 : ∀ q ∈ lw_privs_1, lw_okq q := List.forall_mem_cons.mpr ⟨lw_p0, List.forall_mem_cons.mpr ⟨lw_p1, List.forall_mem_cons.mpr ⟨lw_p2, List.forall_mem_cons.mpr ⟨lw_p3, List.forall_mem_cons.mpr ⟨lw_p4, List.forall_mem_cons.mpr ⟨lw_p5, List.forall_mem_cons.mpr ⟨lw_p6, List.forall_mem_cons.mpr ⟨lw_p7, List.forall_mem_cons.mpr ⟨lw_p8, List.forall_mem_cons.mpr ⟨lw_p9, List.forall_mem_cons.mpr ⟨lw_p10, List.forall_mem_cons.mpr ⟨lw_p11, List.forall_mem_cons.mpr ⟨lw_p12, List.forall_mem_cons.mpr ⟨lw_p13, List.forall_mem_cons.mpr ⟨lw_p14, List.forall_mem_cons.mpr ⟨lw_p15, fun _ h => absurd h List.not_mem_nil⟩⟩⟩⟩⟩⟩⟩⟩⟩⟩⟩⟩⟩⟩⟩⟩
theorem lw_p16 : lw_okq (⟨"RuleHouse2Model", "runChain", "(I)V"⟩, 25) := ⟨⟨by decide +kernel, by decide +kernel⟩, List.mem_of_getElem? (i := 368) (by decide +kernel), List.mem_of_getElem? (i := 509) (by decide +kernel), List.mem_of_getElem? (i := 510) (by decide +kernel)⟩
theorem lw_p17 : lw_okq (⟨"RuleHouse2Model", "fail", "(IIII)V"⟩, 25) := ⟨⟨by decide +kernel, by decide +kernel⟩, List.mem_of_getElem? (i := 368) (by decide +kernel), List.mem_of_getElem? (i := 513) (by decide +kernel), List.mem_of_getElem? (i := 514) (by decide +kernel)⟩
theorem lw_p18 : lw_okq (⟨"RuleHouse2Model", "runOne", "(I)V"⟩, 25) := ⟨⟨by decide +kernel, by decide +kernel⟩, List.mem_of_getElem? (i := 368) (by decide +kernel), List.mem_of_getElem? (i := 517) (by decide +kernel), List.mem_of_getElem? (i := 518) (by decide +kernel)⟩
theorem lw_p19 : lw_okq (⟨"RuleHouse2Model", "step", "(I)Z"⟩, 25) := ⟨⟨by decide +kernel, by decide +kernel⟩, List.mem_of_getElem? (i := 368) (by decide +kernel), List.mem_of_getElem? (i := 521) (by decide +kernel), List.mem_of_getElem? (i := 522) (by decide +kernel)⟩
theorem lw_p20 : lw_okq (⟨"RuleHouse2Model", "deed", "(IIII)I"⟩, 25) := ⟨⟨by decide +kernel, by decide +kernel⟩, List.mem_of_getElem? (i := 368) (by decide +kernel), List.mem_of_getElem? (i := 525) (by decide +kernel), List.mem_of_getElem? (i := 526) (by decide +kernel)⟩
theorem lw_p21 : lw_okq (⟨"RuleHouse2Model", "act", "(II)I"⟩, 25) := ⟨⟨by decide +kernel, by decide +kernel⟩, List.mem_of_getElem? (i := 368) (by decide +kernel), List.mem_of_getElem? (i := 529) (by decide +kernel), List.mem_of_getElem? (i := 530) (by decide +kernel)⟩
theorem lw_p22 : lw_okq (⟨"RuleHouse2Model", "give", "(III)V"⟩, 25) := ⟨⟨by decide +kernel, by decide +kernel⟩, List.mem_of_getElem? (i := 368) (by decide +kernel), List.mem_of_getElem? (i := 533) (by decide +kernel), List.mem_of_getElem? (i := 534) (by decide +kernel)⟩
def lw_privs_2 : List (MethodName × Nat) := [(⟨"RuleHouse2Model", "runChain", "(I)V"⟩, 25), (⟨"RuleHouse2Model", "fail", "(IIII)V"⟩, 25), (⟨"RuleHouse2Model", "runOne", "(I)V"⟩, 25), (⟨"RuleHouse2Model", "step", "(I)Z"⟩, 25), (⟨"RuleHouse2Model", "deed", "(IIII)I"⟩, 25), (⟨"RuleHouse2Model", "act", "(II)I"⟩, 25), (⟨"RuleHouse2Model", "give", "(III)V"⟩, 25)]
theorem lw_r2 : ∀ q ∈ lw_privs_2, lw_okq q := List.forall_mem_cons.mpr ⟨lw_p16, List.forall_mem_cons.mpr ⟨lw_p17, List.forall_mem_cons.mpr ⟨lw_p18, List.forall_mem_cons.mpr ⟨lw_p19, List.forall_mem_cons.mpr ⟨lw_p20, List.forall_mem_cons.mpr ⟨lw_p21, List.forall_mem_cons.mpr ⟨lw_p22, fun _ h => absurd h List.not_mem_nil⟩⟩⟩⟩⟩⟩⟩
def lw_privs : List (MethodName × Nat) := lw_privs_1 ++ (lw_privs_2)
def lw_tbl : List Cond := k2_sels lw_privs ++ tables_1
theorem lw_privs_ok : ∀ q ∈ lw_privs, lw_okq q := by
  show ∀ q ∈ lw_privs_1 ++ (lw_privs_2), lw_okq q
  exact List.forall_mem_append.mpr ⟨lw_r1, lw_r2⟩
end
section
/-! ===== MY LAYER: one world for all cells: which kind of cell lies at an address, and what it holds ===== -/
/-- .inl c: an object of class number c; .inr (t, n): an array of n of the array type number t (t = 0: the script, never written) -/
abbrev MK : Type := Nat → Option (Nat ⊕ (Nat × Nat))
abbrev MM : Type := Nat → Nat → Value
/-- the heap's size, the kinds, the contents -/
abbrev MS : Type := Nat × MK × MM
def m_up (M : MM) (a k : Nat) (v : Value) : MM := fun b j => if b = a ∧ j = k then v else M b j
def m_row (M : MM) (a : Nat) (f : Nat → Value) : MM := fun b => if b = a then f else M b
def m_knew (K : MK) (a : Nat) (x : Nat ⊕ (Nat × Nat)) : MK := fun b => if b = a then some x else K b
def m_A (b : Nat) : Nat → Prop := fun q => b ≤ q
def mw_at (D : va_G) (cl : List vw_C) (tys : List (ClassId × FieldType)) (x : Nat ⊕ (Nat × Nat)) (a : Nat) (f : Nat → Value) (H : Heap) : Prop := match x with
  | .inl ci => ∃ r : vw_C, cl[ci]? = some r ∧ t_OB a (D.1 ci) r.2.2 (D.2 ci) H f
  | .inr q => ∃ r : ClassId × FieldType, tys[q.1]? = some r ∧ H[a]? = some (arrV r.1 q.2 f)
def mw (D : va_G) (cl : List vw_C) (tys : List (ClassId × FieldType)) (b : Nat) (st : MS) (H : Heap) : Prop := H.size = st.1 ∧ b ≤ st.1 ∧ (∀ (a : Nat) (x : Nat ⊕ (Nat × Nat)), st.2.1 a = some x → ((∀ n, x ≠ .inr (0, n)) → b ≤ a) ∧ mw_at D cl tys x a (st.2.2 a) H) ∧ ∀ (a : Nat) (cell : Cell), b ≤ a → H[a]? = some cell → cell.vm.isStatics = false
theorem mw_at.kept {D : va_G} {cl : List vw_C} {tys : List (ClassId × FieldType)} {x : Nat ⊕ (Nat × Nat)} {a : Nat} {f : Nat → Value} {H H1 : Heap} (h : mw_at D cl tys x a f H) (hq : H1[a]? = H[a]?) : mw_at D cl tys x a f H1 := by
  cases x with
  | inl ci =>
    obtain ⟨r, h1, h2⟩ := h
    exact ⟨r, h1, h2.kept hq⟩
  | inr q =>
    obtain ⟨r, h1, h2⟩ := h
    exact ⟨r, h1, hq.trans h2⟩
theorem mw_at.lt {D : va_G} {cl : List vw_C} {tys : List (ClassId × FieldType)} {x : Nat ⊕ (Nat × Nat)} {a : Nat} {f : Nat → Value} {H : Heap} (h : mw_at D cl tys x a f H) : a < H.size := by
  cases x with
  | inl ci =>
    obtain ⟨r, h1, cell, h2, -⟩ := h
    exact (Array.getElem?_eq_some_iff.mp h2).1
  | inr q =>
    obtain ⟨r, h1, h2⟩ := h
    exact (Array.getElem?_eq_some_iff.mp h2).1
theorem mw_at.nost {D : va_G} {cl : List vw_C} {tys : List (ClassId × FieldType)} {x : Nat ⊕ (Nat × Nat)} {a : Nat} {f : Nat → Value} {H : Heap} {cell : Cell} (h : mw_at D cl tys x a f H) (hc : H[a]? = some cell) : cell.vm.isStatics = false := by
  cases x with
  | inl ci =>
    obtain ⟨r, h1, cell', h2, -, h3, -⟩ := h
    cases h2.symm.trans hc
    rw [h3]; rfl
  | inr q =>
    obtain ⟨r, h1, h2⟩ := h
    cases h2.symm.trans hc
    rfl
/-- one cell's contents change -/
theorem mw.set {D : va_G} {cl : List vw_C} {tys : List (ClassId × FieldType)} {b : Nat} {st : MS} {H H1 : Heap} {a k : Nat} {v : Value} {x : Nat ⊕ (Nat × Nat)} (h : mw D cl tys b st H) (hk : st.2.1 a = some x) (he : mw_at D cl tys x a (updV (st.2.2 a) k v) H1) (z : H1.size = H.size) (oq : ∀ q : Nat, q ≠ a → H1[q]? = H[q]?) : mw D cl tys b (st.1, st.2.1, m_up st.2.2 a k v) H1 := by
  obtain ⟨n, K, M⟩ := st
  refine ⟨z.trans h.1, h.2.1, fun c y hc => ⟨(h.2.2.1 c y hc).1, ?_⟩, fun c cell hbc hc => ?_⟩
  rotate_left
  · by_cases hca : c = a
    · subst hca
      exact he.nost hc
    · rw [oq c hca] at hc
      exact h.2.2.2 c cell hbc hc
  by_cases hca : c = a
  · subst hca
    have hxy : x = y := Option.some.inj (hk.symm.trans hc)
    subst hxy
    have e1 : (m_up M c k v) c = updV (M c) k v := by
      funext j
      simp [m_up, updV]
    show mw_at D cl tys x c ((m_up M c k v) c) H1
    rw [e1]
    exact he
  · have e1 : (m_up M a k v) c = M c := by
      funext j
      simp [m_up, hca]
    show mw_at D cl tys y c ((m_up M a k v) c) H1
    rw [e1]
    exact (h.2.2.1 c y hc).2.kept (oq c hca)
def m_mk (st : MS) (x : Nat ⊕ (Nat × Nat)) (f : Nat → Value) : MS := (st.1 + 1, m_knew st.2.1 st.1 x, m_row st.2.2 st.1 f)
/-- one cell more -/
theorem mw.push {D : va_G} {cl : List vw_C} {tys : List (ClassId × FieldType)} {b : Nat} {st : MS} {H H1 : Heap} {f : Nat → Value} {x : Nat ⊕ (Nat × Nat)} (h : mw D cl tys b st H) (he : mw_at D cl tys x st.1 f H1) (z : H1.size = st.1 + 1) (oq : ∀ q : Nat, q < st.1 → H1[q]? = H[q]?) : mw D cl tys b (m_mk st x f) H1 := by
  obtain ⟨n, K, M⟩ := st
  refine ⟨z, Nat.le_trans h.2.1 (Nat.le_succ n), fun c y hc => ?_, fun c cell hbc hc => ?_⟩
  rotate_left
  · by_cases hcn : c = n
    · subst hcn
      exact he.nost hc
    · have hlt : c < n + 1 := by
        have := (Array.getElem?_eq_some_iff.mp hc).1
        omega
      rw [oq c (by omega)] at hc
      exact h.2.2.2 c cell hbc hc
  by_cases hcn : c = n
  · subst hcn
    have hxy : x = y := by
      have : (some x) = some y := by simpa [m_mk, m_knew] using hc
      exact Option.some.inj this
    subst hxy
    refine ⟨fun _ => h.2.1, ?_⟩
    have e1 : (m_row M c f) c = f := by simp [m_row]
    show mw_at D cl tys x c ((m_row M c f) c) H1
    rw [e1]
    exact he
  · have hc' : K c = some y := by simpa [m_mk, m_knew, hcn] using hc
    have e1 : (m_row M n f) c = M c := by simp [m_row, hcn]
    refine ⟨(h.2.2.1 c y hc').1, ?_⟩
    show mw_at D cl tys y c ((m_row M n f) c) H1
    rw [e1]
    have hlt := (h.2.2.1 c y hc').2.lt
    have hn : H.size = n := h.1
    exact (h.2.2.1 c y hc').2.kept (oq c (by omega))
theorem va_S.put' {A : Nat → Prop} {H0 H H1 : Heap} {locs : List Loc} {a k : Nat} (h : va_S A H0 H locs) (z : H1.size = H.size) (oq : ∀ q : Nat, q ≠ a → H1[q]? = H[q]?) (ha : A a) : va_S A H0 H1 (locs ++ [⟨a, k⟩]) := h.put z oq ha
theorem m_Spush {b : Nat} {H0 H H1 : Heap} {locs : List Loc} (hS : va_S (m_A b) H0 H locs) (z1 : H1.size = H.size + 1) (o1 : ∀ q : Nat, q < H.size → H1[q]? = H[q]?) : va_S (m_A b) H0 H1 locs :=
  ⟨Nat.le_trans hS.1 (by omega), fun x h1 h2 => (o1 x (Nat.lt_of_lt_of_le h1 hS.1)).trans (hS.2.1 x h1 h2), hS.2.2⟩
-- typed reads and writes
def m_gI (st : MS) (ci a k : Nat) : Option Int32 := if st.2.1 a = some (.inl ci) then (match st.2.2 a k with | .int x => some x | _ => none) else none
def m_gL (st : MS) (ci a k : Nat) : Option Int64 := if st.2.1 a = some (.inl ci) then (match st.2.2 a k with | .long x => some x | _ => none) else none
def m_gR (st : MS) (ci a k : Nat) : Option (Option Nat) := if st.2.1 a = some (.inl ci) then (match st.2.2 a k with | .ref x => some (some x) | .null => some none | _ => none) else none
def m_p (st : MS) (ci a k : Nat) (v : Value) : Option MS := if st.2.1 a = some (.inl ci) then some (st.1, st.2.1, m_up st.2.2 a k v) else none
/-- the kind of array that lies at an address: its length -/
def m_ln (st : MS) (t a : Nat) : Option Nat := match st.2.1 a with | some (.inr q) => if q.1 = t then some q.2 else none | _ => none
def m_ix (st : MS) (t a : Nat) (i : Int32) : Option Nat := (m_ln st t a).bind fun n => if 0 ≤ i ∧ i.toNatClampNeg < n then some i.toNatClampNeg else none
def m_aI (st : MS) (t a : Nat) (i : Int32) : Option Int32 := (m_ix st t a i).bind fun j => (match st.2.2 a j with | .int x => some x | _ => none)
def m_aL (st : MS) (t a : Nat) (i : Int32) : Option Int64 := (m_ix st t a i).bind fun j => (match st.2.2 a j with | .long x => some x | _ => none)
def m_aR (st : MS) (t a : Nat) (i : Int32) : Option (Option Nat) := (m_ix st t a i).bind fun j => (match st.2.2 a j with | .ref x => some (some x) | .null => some none | _ => none)
def m_ap (st : MS) (t a : Nat) (i : Int32) (v : Value) : Option MS := (m_ix st t a i).bind fun j => some (st.1, st.2.1, m_up st.2.2 a j v)
theorem m_gI_s {st : MS} {ci a k : Nat} {x : Int32} (h : m_gI st ci a k = some x) : st.2.1 a = some (.inl ci) ∧ st.2.2 a k = .int x := by
  unfold m_gI at h
  split at h
  · rename_i h1
    refine ⟨h1, ?_⟩
    split at h <;> simp_all
  · cases h
theorem m_gL_s {st : MS} {ci a k : Nat} {x : Int64} (h : m_gL st ci a k = some x) : st.2.1 a = some (.inl ci) ∧ st.2.2 a k = .long x := by
  unfold m_gL at h
  split at h
  · rename_i h1
    refine ⟨h1, ?_⟩
    split at h <;> simp_all
  · cases h
theorem m_gR_s {st : MS} {ci a k : Nat} {x : Option Nat} (h : m_gR st ci a k = some x) : st.2.1 a = some (.inl ci) ∧ st.2.2 a k = va_rf x := by
  unfold m_gR at h
  split at h
  · rename_i h1
    refine ⟨h1, ?_⟩
    split at h
    · rename_i h2
      cases h
      rw [h2]; rfl
    · rename_i h2
      cases h
      rw [h2]; rfl
    · cases h
  · cases h
theorem m_bs {α β : Type} {x : Option α} {f : α → Option β} {y : β} (h : x.bind f = some y) : ∃ z, x = some z ∧ f z = some y := by
  cases x with
  | none => cases h
  | some z => exact ⟨z, rfl, h⟩
theorem m_ln_s {st : MS} {t a n : Nat} (h : m_ln st t a = some n) : st.2.1 a = some (.inr (t, n)) := by
  unfold m_ln at h
  split at h
  · rename_i q hq
    split at h
    · rename_i h1
      cases h
      rw [hq, ← h1]
    · cases h
  · cases h
theorem m_ix_s {st : MS} {t a j : Nat} {i : Int32} (h : m_ix st t a i = some j) : ∃ n, st.2.1 a = some (.inr (t, n)) ∧ vp_in i n ∧ i.toNatClampNeg = j := by
  obtain ⟨n, h1, h2⟩ := m_bs h
  split at h2
  · rename_i h3
    refine ⟨n, m_ln_s h1, ?_, Option.some.inj h2⟩
    rintro (h4 | h4)
    · exact absurd h3.1 (Int32.not_le.mpr h4)
    · exact absurd h3.2 (Nat.not_lt.mpr h4)
  · cases h2
theorem m_aI_s {st : MS} {t a : Nat} {i x : Int32} (h : m_aI st t a i = some x) : ∃ n, st.2.1 a = some (.inr (t, n)) ∧ vp_in i n ∧ st.2.2 a i.toNatClampNeg = .int x := by
  obtain ⟨j, h1, h2⟩ := m_bs h
  obtain ⟨n, h3, h4, h5⟩ := m_ix_s h1
  refine ⟨n, h3, h4, ?_⟩
  rw [h5]
  split at h2 <;> simp_all
theorem m_aL_s {st : MS} {t a : Nat} {i : Int32} {x : Int64} (h : m_aL st t a i = some x) : ∃ n, st.2.1 a = some (.inr (t, n)) ∧ vp_in i n ∧ st.2.2 a i.toNatClampNeg = .long x := by
  obtain ⟨j, h1, h2⟩ := m_bs h
  obtain ⟨n, h3, h4, h5⟩ := m_ix_s h1
  refine ⟨n, h3, h4, ?_⟩
  rw [h5]
  split at h2 <;> simp_all
theorem m_aR_s {st : MS} {t a : Nat} {i : Int32} {x : Option Nat} (h : m_aR st t a i = some x) : ∃ n, st.2.1 a = some (.inr (t, n)) ∧ vp_in i n ∧ st.2.2 a i.toNatClampNeg = va_rf x := by
  obtain ⟨j, h1, h2⟩ := m_bs h
  obtain ⟨n, h3, h4, h5⟩ := m_ix_s h1
  refine ⟨n, h3, h4, ?_⟩
  rw [h5]
  split at h2
  · rename_i h6
    cases h2
    rw [h6]; rfl
  · rename_i h6
    cases h2
    rw [h6]; rfl
  · cases h2
theorem m_p_s {st st' : MS} {ci a k : Nat} {v : Value} (h : m_p st ci a k v = some st') : st.2.1 a = some (.inl ci) ∧ st' = (st.1, st.2.1, m_up st.2.2 a k v) := by
  unfold m_p at h
  split at h
  · rename_i h1
    exact ⟨h1, (Option.some.inj h).symm⟩
  · cases h
theorem m_ap_s {st st' : MS} {t a : Nat} {i : Int32} {v : Value} (h : m_ap st t a i v = some st') : ∃ n, st.2.1 a = some (.inr (t, n)) ∧ vp_in i n ∧ st' = (st.1, st.2.1, m_up st.2.2 a i.toNatClampNeg v) := by
  obtain ⟨j, h1, h2⟩ := m_bs h
  obtain ⟨n, h3, h4, h5⟩ := m_ix_s h1
  exact ⟨n, h3, h4, by rw [h5]; exact (Option.some.inj h2).symm⟩
/-- a cell of class ci lies there -/
def m_is (st : MS) (ci a : Nat) : Option Unit := if st.2.1 a = some (.inl ci) then some () else none
theorem m_is_s {st : MS} {ci a : Nat} {u : Unit} (h : m_is st ci a = some u) : st.2.1 a = some (.inl ci) := by
  unfold m_is at h
  split at h
  · assumption
  · cases h
def m_z (x : Int32) : Option Int32 := if x = 0 ∨ x = 1 then some x else none
theorem m_z_s {x y : Int32} (h : m_z x = some y) : y = x ∧ narrow .boolean (.int x) = .int x := by
  unfold m_z at h
  split at h
  · rename_i h1
    refine ⟨(Option.some.inj h).symm, ?_⟩
    rcases h1 with rfl | rfl <;> decide
  · cases h
def m_b {α β : Type} (x : Option (α × MS)) (f : α → MS → Option β) : Option β := match x with
  | some q => f q.1 q.2
  | none => none
theorem m_b_s {α β : Type} {x : Option (α × MS)} {f : α → MS → Option β} {y : β} (h : m_b x f = some y) : ∃ r st, x = some (r, st) ∧ f r st = some y := by
  cases x with
  | none => cases h
  | some q => exact ⟨q.1, q.2, rfl, h⟩
/-- a branch on null -/
def m_nn {β : Type} (r : Option Nat) (A : Option β) (B : Nat → Option β) : Option β := match r with
  | none => A
  | some a => B a
theorem m_t {β : Type} {c : Prop} [Decidable c] {t e : Option β} {y : β} (hc : c) (h : (if c then t else e) = some y) : t = some y := by
  rw [if_pos hc] at h; exact h
theorem m_f {β : Type} {c : Prop} [Decidable c] {t e : Option β} {y : β} (hc : ¬ c) (h : (if c then t else e) = some y) : e = some y := by
  rw [if_neg hc] at h; exact h
theorem m_rfc (r : Option Nat) : (va_rf r).category = 1 := by cases r <;> rfl
theorem m_rff (r : Option Nat) (C : String) : narrow (.object C) (va_rf r) = va_rf r ∧ fits (.object C) (va_rf r) = true := by cases r <;> exact ⟨rfl, rfl⟩
theorem m_rfa (r : Option Nat) (t : FieldType) : narrow (.array t) (va_rf r) = va_rf r ∧ fits (.array t) (va_rf r) = true := by cases r <;> exact ⟨rfl, rfl⟩
def m_nw {β : Type} (st : MS) (x : Nat ⊕ (Nat × Nat)) (f : Nat → Value) (k : Nat → MS → Option β) : Option β := k st.1 (m_mk st x f)
theorem m_nw_s {β : Type} {st : MS} {x : Nat ⊕ (Nat × Nat)} {f : Nat → Value} {k : Nat → MS → Option β} {y : β} (h : m_nw st x f k = some y) : ∃ a st1, (a = st.1 ∧ st1 = m_mk st x f) ∧ k a st1 = some y := ⟨_, _, ⟨rfl, rfl⟩, h⟩
end
section
section MROW
variable {p : Program} {l : Launch} {e : Env} {R : Room} {s : State} {m : MethodId} {args : Array Value} {below : List Frame} {meth : Method} {c : Code} {H : Heap} {locs : List Loc} {cells slots : Nat} {Q : State → Prop}
variable {cc : ByteArray} {pc nL b : Nat} {ls : Array Slot} {rest : List Value} {D : va_G} {cl : List vw_C} {tys : List (ClassId × FieldType)} {a : Nat} {H0 : Heap} {st st1 : MS} {Ts : List Cond} {own : String}
theorem m_get (S : CallFix p m c cc nL s args Ts own) {ref C : String} {T : u_T} {N ci index k : Nat} {v : Value} (hin : ∀ w ∈ u_ws C T N, w ∈ Ts) (hK : va_K D cl tys s) (hP : mw D cl tys b st H) (hop : st.2.1 a = some (.inl ci) ∧ st.2.2 a k = v) (hc : cl[ci]? = some (C, T, N)) (hkN : k < N) (hlink : (Cond.fieldLink own index ref (T k).2.1 (T k).2.2.1).before args s = true) (hsame : (T k).1 = ref) (hdg : decode cc pc = .ok (.getfield index, 3))
    (kk : W p l e R s m args below meth c H locs cells slots Q (F0 m (pc + 3) ls (v :: rest))) : W p l e R s m args below meth c H locs cells slots Q (F0 m pc ls (.ref a :: rest)) := by
  obtain ⟨hexec, hb, -, hown, hts⟩ := S
  obtain ⟨hk, hv⟩ := hop
  obtain ⟨r, h1, cell, q1, q2, q3, q4⟩ := (hP.2.2.1 a _ hk).2
  have hr : r = (C, T, N) := Option.some.inj (h1.symm.trans hc)
  subst hr
  obtain ⟨hS, hfc, kC, hkC, hkind⟩ := hK.1 ci _ hc
  obtain ⟨cf, kf, fi, f, hi, hsl⟩ := hS k hkN
  refine W.getf hexec hb hown hlink (by rw [← hsame]; exact hi) (u_facts hfc hkC (u_lays hts hin hkN) hi).1 q1 (by rw [q3]; exact fun h => by cases h) (v := v) ?_ rfl rfl hdg kk
  rw [hsl, q4 k hkN]
  exact congrArg some hv
theorem m_put (S : CallFix p m c cc nL s args Ts own) {ref C : String} {T : u_T} {N ci index k : Nat} {v : Value} (hin : ∀ w ∈ u_ws C T N, w ∈ Ts) (ty0 : Nat → FieldType) (hty : ∀ k, k < N → parseFieldDescriptor (T k).2.2.1 = some (ty0 k)) (hnm : ∀ a, a < N → ∀ b, b < N → a ≠ b → (T a).2.1 ≠ (T b).2.1) (hK : va_K D cl tys s) (hP : mw D cl tys b st H) (hS0 : va_S (m_A b) H0 H locs) (hop : m_p st ci a k v = some st1) (hc : cl[ci]? = some (C, T, N)) (hkN : k < N) (hlink : (Cond.fieldLink own index ref (T k).2.1 (T k).2.2.1).before args s = true) (hsame : (T k).1 = ref) (hfin : (T k).2.2.2 = false) {ty : FieldType} (hd : parseFieldDescriptor (T k).2.2.1 = some ty) (hn : narrow ty v = v) (hfit : fits ty v = true)
    (hdg : decode cc pc = .ok (.putfield index, 3)) (kk : ∀ (H1 : Heap) (locs1 : List Loc), mw D cl tys b st1 H1 → va_S (m_A b) H0 H1 locs1 → W p l e R s m args below meth c H1 locs1 cells slots Q (F0 m (pc + 3) ls rest)) : W p l e R s m args below meth c H locs cells slots Q (F0 m pc ls (v :: .ref a :: rest)) := by
  obtain ⟨hexec, hb, -, hown, hts⟩ := S
  obtain ⟨hk, rfl⟩ := m_p_s hop
  have hap := va_apart (own := own) hts hin ty0 hty hnm hK hc
  obtain ⟨r, h1, cell, q1, q2, q3, q4⟩ := (hP.2.2.1 a _ hk).2
  have hr : r = (C, T, N) := Option.some.inj (h1.symm.trans hc)
  subst hr
  obtain ⟨hS, hfc, kC, hkC, hkind⟩ := hK.1 ci _ hc
  obtain ⟨cf, kf, fi, f, hi, hsl⟩ := hS k hkN
  have hlay := hts _ (hin _ (u_in_lay hkN))
  unfold u_lay at hlay
  rw [if_neg (by rw [hfin]; decide)] at hlay
  have hst := (u_facts hfc hkC (u_lays hts hin hkN) hi).1
  have h6 := u_store hfc hkC hkind hlay hi hd hn hfit
  refine W.putK hexec hb (f := f) ⟨hown, hlink, ⟨_, _, _, by rw [← hsame]; exact hi⟩, hst⟩ (by rw [q2]; exact h6) q1 q3 (by rw [hsl]; exact k2_hasslot (q4 k hkN)) rfl rfl hdg fun H' e1 e2 e3 => ?_
  rw [hsl] at e1 ⊢
  exact kk H' _ (hP.set hk ⟨_, hc, ⟨_, e1, q2, q3, t_set q4 hap hkN v⟩⟩ e2 e3) (hS0.put e2 e3 ((hP.2.2.1 a _ hk).1 (fun _ h => by cases h)))
theorem m_putF (S : CallFix p m c cc nL s args Ts own) {ref C : String} {T : u_T} {N ci index k : Nat} {v : Value} (hin : ∀ w ∈ u_ws C T N, w ∈ Ts) (ty0 : Nat → FieldType) (hty : ∀ k, k < N → parseFieldDescriptor (T k).2.2.1 = some (ty0 k)) (hnm : ∀ a, a < N → ∀ b, b < N → a ≠ b → (T a).2.1 ≠ (T b).2.1) (hK : va_K D cl tys s) (hP : mw D cl tys b st H) (hS0 : va_S (m_A b) H0 H locs) (hop : m_p st ci a k v = some st1) (hc : cl[ci]? = some (C, T, N)) (hkN : k < N) (hlink : (Cond.fieldLink own index ref (T k).2.1 (T k).2.2.1).before args s = true) (hsame : (T k).1 = ref) (hfin : (T k).2.2.2 = true) (hin2 : meth.name = "<init>") (hdecl : (T k).1 = own) {ty : FieldType} (hd : parseFieldDescriptor (T k).2.2.1 = some ty) (hn : narrow ty v = v) (hfit : fits ty v = true)
    (hdg : decode cc pc = .ok (.putfield index, 3)) (kk : ∀ (H1 : Heap) (locs1 : List Loc), mw D cl tys b st1 H1 → va_S (m_A b) H0 H1 locs1 → W p l e R s m args below meth c H1 locs1 cells slots Q (F0 m (pc + 3) ls rest)) : W p l e R s m args below meth c H locs cells slots Q (F0 m pc ls (v :: .ref a :: rest)) := by
  obtain ⟨hexec, hb, -, hown, hts⟩ := S
  obtain ⟨hk, rfl⟩ := m_p_s hop
  have hap := va_apart (own := own) hts hin ty0 hty hnm hK hc
  obtain ⟨r, h1, cell, q1, q2, q3, q4⟩ := (hP.2.2.1 a _ hk).2
  have hr : r = (C, T, N) := Option.some.inj (h1.symm.trans hc)
  subst hr
  obtain ⟨hS, hfc, kC, hkC, hkind⟩ := hK.1 ci _ hc
  obtain ⟨cf, kf, fi, f, hi, hsl⟩ := hS k hkN
  have hlay := hts _ (hin _ (u_in_lay hkN))
  unfold u_lay at hlay
  rw [if_pos hfin] at hlay
  have hst := (u_facts hfc hkC (u_lays hts hin hkN) hi).1
  have hcf : m.cls = cf := by
    obtain ⟨_, _, c', _, _, _, -, -, hf', -, -, -, hown2, -⟩ := Cond.laysFinal_spec hlay
    have e1 : c' = cf := by have := hi.symm.trans hf'; simp at this; exact this.1.symm
    rw [hdecl] at hown2
    rw [← e1]; exact Option.some.inj (hown.symm.trans hown2)
  have h6 := u_fits hfc hkC hkind (Or.inr hlay) hi hd hn hfit
  refine W.putFinK hexec hb hown hlink (by rw [← hsame]; exact hi) hst hcf hin2 (by rw [q2]; exact h6) q1 q3 (by rw [hsl]; exact k2_hasslot (q4 k hkN)) rfl rfl hdg fun H' e1 e2 e3 => ?_
  rw [hsl] at e1 ⊢
  exact kk H' _ (hP.set hk ⟨_, hc, ⟨_, e1, q2, q3, t_set q4 hap hkN v⟩⟩ e2 e3) (hS0.put e2 e3 ((hP.2.2.1 a _ hk).1 (fun _ h => by cases h)))
theorem m_new (S : CallFix p m c cc nL s args Ts own) {C : String} {T : u_T} {N ci index : Nat} (hin : ∀ w ∈ u_ws C T N, w ∈ Ts) (ty : Nat → FieldType) (hty : ∀ k, k < N → parseFieldDescriptor (T k).2.2.1 = some (ty k)) (hcl : (Cond.classLink own index C).before args s = true) (hinst : (Cond.instantiable C N).before args s = true) (hini : (Cond.initialized C).before args s = true)
    (hK : va_K D cl tys s) (hP : mw D cl tys b st H) (hS : va_S (m_A b) H0 H locs) (hc : cl[ci]? = some (C, T, N)) {a1 : Nat} (hop : a1 = st.1 ∧ st1 = m_mk st (.inl ci) (fun j => defaultValue (ty j))) (hcells : cells + 1 ≤ R.cells) (hslots : slots + N ≤ R.slots) (hdg : decode cc pc = .ok (.new index, 3))
    (kk : ∀ H1 : Heap, mw D cl tys b st1 H1 → va_S (m_A b) H0 H1 locs →
      W p l e R s m args below meth c H1 locs (cells + 1) (slots + N) Q (F0 m (pc + 3) ls (.ref a1 :: rest))) : W p l e R s m args below meth c H locs cells slots Q (F0 m pc ls rest) := by
  obtain ⟨hexec, hb, -, hown, hts⟩ := S
  obtain ⟨rfl, rfl⟩ := hop
  have hKn := hK.1 ci _ hc
  have hn : H.size = st.1 := hP.1
  refine W.newcK hexec hb hown hcl hinst hini rfl hdg hcells hslots hKn.2.1 hn fun H1 kC hkC e1 z1 o1 => ?_
  exact kk H1 (hP.push ⟨_, hc, u_born ty hts hin hKn hkC e1 hty⟩ z1 o1) (m_Spush hS (by rw [hn]; exact z1) (by rw [hn]; exact o1))
theorem m_newa (S : CallFix p m c cc nL s args Ts own) {atype : ArrayType} (harr : (Cond.arrayClass (newarray.typeOf atype)).before args s = true) {ty : FieldType} (hty : newarray.typeOf atype = ty) (hK : va_K D cl tys s) (hP : mw D cl tys b st H) (hS : va_S (m_A b) H0 H locs) {t : Nat} {cA : ClassId} (ht : tys[t]? = some (cA, ty))
    {i : Int32} {N : Nat} (hi : ¬ i < 0) (hN : i.toNatClampNeg = N) (hbytes : N * componentBytes ty ≤ 536870912) (hcells : cells + 1 ≤ R.cells) (hslots : slots + N ≤ R.slots) {a1 : Nat} (hop : a1 = st.1 ∧ st1 = m_mk st (.inr (t, N)) (fun _ => defaultValue ty)) (hdg : decode cc pc = .ok (.newarray atype, 2))
    (kk : ∀ H1 : Heap, mw D cl tys b st1 H1 → va_S (m_A b) H0 H1 locs →
      W p l e R s m args below meth c H1 locs (cells + 1) (slots + N) Q (F0 m (pc + 2) ls (.ref a1 :: rest))) : W p l e R s m args below meth c H locs cells slots Q (F0 m pc ls (.int i :: rest)) := by
  obtain ⟨hexec, hb, -, hown, hts⟩ := S
  obtain ⟨rfl, rfl⟩ := hop
  subst hty
  have hn : H.size = st.1 := hP.1
  refine va_newaK hexec hb harr rfl hdg rfl hi hN hbytes hcells hslots hn fun H1 cB e1 z1 o1 hAr hNm => ?_
  have hRA := (hK.2 t _ ht).2
  have hcA : cB = cA := by
    have h2 : s.vm.findClass ("[" ++ (newarray.typeOf atype).toString) = some cA := by cases atype <;> exact hRA
    exact Option.some.inj (hNm.symm.trans h2)
  subst hcA
  exact kk H1 (hP.push ⟨_, ht, e1⟩ z1 o1) (m_Spush hS (by rw [hn]; exact z1) (by rw [hn]; exact o1))
theorem m_newq (S : CallFix p m c cc nL s args Ts own) {C : String} {index : Nat} (hclink : (Cond.classLink own index C).before args s = true) (hover : va_AO C s) (hK : va_K D cl tys s) (hP : mw D cl tys b st H) (hS : va_S (m_A b) H0 H locs) {t : Nat} {cA : ClassId} (ht : tys[t]? = some (cA, .object C))
    {i : Int32} {N : Nat} (hi : ¬ i < 0) (hN : i.toNatClampNeg = N) (hbytes : N * 4 ≤ 536870912) (hcells : cells + 1 ≤ R.cells) (hslots : slots + N ≤ R.slots) {a1 : Nat} (hop : a1 = st.1 ∧ st1 = m_mk st (.inr (t, N)) (fun _ => .null)) (hdg : decode cc pc = .ok (.anewarray index, 3))
    (kk : ∀ H1 : Heap, mw D cl tys b st1 H1 → va_S (m_A b) H0 H1 locs →
      W p l e R s m args below meth c H1 locs (cells + 1) (slots + N) Q (F0 m (pc + 3) ls (.ref a1 :: rest))) : W p l e R s m args below meth c H locs cells slots Q (F0 m pc ls (.int i :: rest)) := by
  obtain ⟨hexec, hb, -, hown, hts⟩ := S
  obtain ⟨rfl, rfl⟩ := hop
  subst hN
  have hn : H.size = st.1 := hP.1
  refine W.anew hexec hb hown hclink (va_AO.use hover) rfl hdg rfl hi hbytes hcells hslots fun cB kA comp f1 f2 f3 f4 => ?_
  generalize hH1 : H.push ({ cls := cB, slots := Array.replicate i.toNatClampNeg .null, vm := .none } : Cell) = H1
  have z1 : H1.size = H.size + 1 := by rw [← hH1, Array.size_push]
  have e1 : H1[H.size]? = some (arrV cB i.toNatClampNeg (fun _ => .null)) := by rw [← hH1, Array.getElem?_push_size, ← arrV_new]
  have o1 : ∀ q : Nat, q < H.size → H1[q]? = H[q]? := fun q hq => by rw [← hH1, Array.getElem?_push, if_neg (Nat.ne_of_lt hq)]
  obtain ⟨kA2, comp2, g1, g2, g3, g4⟩ := (hK.2 t _ ht).2
  have hcA : cB = cA := Option.some.inj (f1.symm.trans g4)
  subst hcA
  rw [hn] at z1 e1 o1
  have hg : W p l e R s m args below meth c H1 locs (cells + 1) (slots + i.toNatClampNeg) Q (F0 m (pc + 3) ls (.ref st.1 :: rest)) := kk H1 (hP.push ⟨_, ht, e1⟩ z1 o1) (m_Spush hS (by rw [hn]; exact z1) (by rw [hn]; exact o1))
  rw [← hn] at hg
  exact hg
theorem m_iald (S : CallFix p m c cc nL s args Ts own) (hK : va_K D cl tys s) (hP : mw D cl tys b st H) {t : Nat} {i : Int32} {v : Value} (hop : ∃ N, st.2.1 a = some (.inr (t, N)) ∧ vp_in i N ∧ st.2.2 a i.toNatClampNeg = v) {cA : ClassId} (ht : tys[t]? = some (cA, .int)) (hdg : decode cc pc = .ok (.iaload, 1))
    (kk : W p l e R s m args below meth c H locs cells slots Q (F0 m (pc + 1) ls (v :: rest))) : W p l e R s m args below meth c H locs cells slots Q (F0 m pc ls (.int i :: .ref a :: rest)) := by
  obtain ⟨hexec, hb, -, hown, hts⟩ := S
  obtain ⟨N, hk, hin, hv⟩ := hop
  obtain ⟨r, h1, h2⟩ := (hP.2.2.1 a _ hk).2
  have hr : r = (cA, .int) := Option.some.inj (h1.symm.trans ht)
  subst hr
  have hlt : i.toNatClampNeg < N := Nat.not_le.mp fun q => hin (Or.inr q)
  exact W.iald (v := v) hexec hb h2 ((hK.2 t _ ht).1 N (st.2.2 a)) (fun q => by cases q) (by show ¬ (i < 0 ∨ (arrV _ _ _).slots.size ≤ _); rw [arrV_size]; exact hin) (by show (arrV _ _ _).slots[_]? = _; rw [arrV_read _ _ hlt, hv]) rfl rfl hdg kk
theorem m_zald (S : CallFix p m c cc nL s args Ts own) (hK : va_K D cl tys s) (hP : mw D cl tys b st H) {t : Nat} {i : Int32} {v : Value} (hop : ∃ N, st.2.1 a = some (.inr (t, N)) ∧ vp_in i N ∧ st.2.2 a i.toNatClampNeg = v) {cA : ClassId} (ht : tys[t]? = some (cA, .boolean)) (hdg : decode cc pc = .ok (.baload, 1))
    (kk : W p l e R s m args below meth c H locs cells slots Q (F0 m (pc + 1) ls (v :: rest))) : W p l e R s m args below meth c H locs cells slots Q (F0 m pc ls (.int i :: .ref a :: rest)) := by
  obtain ⟨hexec, hb, -, hown, hts⟩ := S
  obtain ⟨N, hk, hin, hv⟩ := hop
  obtain ⟨r, h1, h2⟩ := (hP.2.2.1 a _ hk).2
  have hr : r = (cA, .boolean) := Option.some.inj (h1.symm.trans ht)
  subst hr
  have hlt : i.toNatClampNeg < N := Nat.not_le.mp fun q => hin (Or.inr q)
  exact W.zald (v := v) hexec hb h2 ((hK.2 t _ ht).1 N (st.2.2 a)) (fun q => by cases q) (by show ¬ (i < 0 ∨ (arrV _ _ _).slots.size ≤ _); rw [arrV_size]; exact hin) (by show (arrV _ _ _).slots[_]? = _; rw [arrV_read _ _ hlt, hv]) rfl rfl hdg kk
theorem m_lald (S : CallFix p m c cc nL s args Ts own) (hK : va_K D cl tys s) (hP : mw D cl tys b st H) {t : Nat} {i : Int32} {v : Value} (hop : ∃ N, st.2.1 a = some (.inr (t, N)) ∧ vp_in i N ∧ st.2.2 a i.toNatClampNeg = v) {cA : ClassId} (ht : tys[t]? = some (cA, .long)) (hdg : decode cc pc = .ok (.laload, 1))
    (kk : W p l e R s m args below meth c H locs cells slots Q (F0 m (pc + 1) ls (v :: rest))) : W p l e R s m args below meth c H locs cells slots Q (F0 m pc ls (.int i :: .ref a :: rest)) := by
  obtain ⟨hexec, hb, -, hown, hts⟩ := S
  obtain ⟨N, hk, hin, hv⟩ := hop
  obtain ⟨r, h1, h2⟩ := (hP.2.2.1 a _ hk).2
  have hr : r = (cA, .long) := Option.some.inj (h1.symm.trans ht)
  subst hr
  have hlt : i.toNatClampNeg < N := Nat.not_le.mp fun q => hin (Or.inr q)
  exact W.lald (v := v) hexec hb h2 ((hK.2 t _ ht).1 N (st.2.2 a)) (fun q => by cases q) (by show ¬ (i < 0 ∨ (arrV _ _ _).slots.size ≤ _); rw [arrV_size]; exact hin) (by show (arrV _ _ _).slots[_]? = _; rw [arrV_read _ _ hlt, hv]) rfl rfl hdg kk
theorem m_aald (S : CallFix p m c cc nL s args Ts own) (hK : va_K D cl tys s) (hP : mw D cl tys b st H) {t : Nat} {i : Int32} {v : Value} (hop : ∃ N, st.2.1 a = some (.inr (t, N)) ∧ vp_in i N ∧ st.2.2 a i.toNatClampNeg = v) {cA : ClassId} {C : String} (ht : tys[t]? = some (cA, .object C)) (hdg : decode cc pc = .ok (.aaload, 1))
    (kk : W p l e R s m args below meth c H locs cells slots Q (F0 m (pc + 1) ls (v :: rest))) : W p l e R s m args below meth c H locs cells slots Q (F0 m pc ls (.int i :: .ref a :: rest)) := by
  obtain ⟨hexec, hb, -, hown, hts⟩ := S
  obtain ⟨N, hk, hin, hv⟩ := hop
  obtain ⟨r, h1, h2⟩ := (hP.2.2.1 a _ hk).2
  have hr : r = (cA, .object C) := Option.some.inj (h1.symm.trans ht)
  subst hr
  have hlt : i.toNatClampNeg < N := Nat.not_le.mp fun q => hin (Or.inr q)
  exact W.aald (v := v) (ty := .object C) hexec hb h2 ((hK.2 t _ ht).1 N (st.2.2 a)) rfl (fun q => by cases q) (by show ¬ (i < 0 ∨ (arrV _ _ _).slots.size ≤ _); rw [arrV_size]; exact hin) (by show (arrV _ _ _).slots[_]? = _; rw [arrV_read _ _ hlt, hv]) rfl rfl hdg kk
theorem m_alen (S : CallFix p m c cc nL s args Ts own) (hK : va_K D cl tys s) (hP : mw D cl tys b st H) {t N : Nat} (hk : st.2.1 a = some (.inr (t, N))) {cA : ClassId} {ty : FieldType} (ht : tys[t]? = some (cA, ty)) (hdg : decode cc pc = .ok (.arraylength, 1))
    (kk : W p l e R s m args below meth c H locs cells slots Q (F0 m (pc + 1) ls (.int (nI N) :: rest))) : W p l e R s m args below meth c H locs cells slots Q (F0 m pc ls (.ref a :: rest)) := by
  obtain ⟨hexec, hb, -, hown, hts⟩ := S
  obtain ⟨r, h1, h2⟩ := (hP.2.2.1 a _ hk).2
  have hr : r = (cA, ty) := Option.some.inj (h1.symm.trans ht)
  subst hr
  exact W.alen (n := nI N) hexec hb h2 ((hK.2 t _ ht).1 N (st.2.2 a)) (by rw [arrV_size] <;> rfl) rfl rfl hdg kk
theorem m_iast (S : CallFix p m c cc nL s args Ts own) (hK : va_K D cl tys s) (hP : mw D cl tys b st H) (hS : va_S (m_A b) H0 H locs) {t : Nat} {i x : Int32} (hop : m_ap st t a i (.int x) = some st1) (ht0 : t ≠ 0) {cA : ClassId} (ht : tys[t]? = some (cA, .int)) (hdg : decode cc pc = .ok (.iastore, 1))
    (kk : ∀ (H1 : Heap) (locs1 : List Loc), mw D cl tys b st1 H1 → va_S (m_A b) H0 H1 locs1 → W p l e R s m args below meth c H1 locs1 cells slots Q (F0 m (pc + 1) ls rest)) : W p l e R s m args below meth c H locs cells slots Q (F0 m pc ls (.int x :: .int i :: .ref a :: rest)) := by
  obtain ⟨hexec, hb, -, hown, hts⟩ := S
  obtain ⟨N, hk, hin, rfl⟩ := m_ap_s hop
  obtain ⟨r, h1, h2⟩ := (hP.2.2.1 a _ hk).2
  have hr : r = (cA, .int) := Option.some.inj (h1.symm.trans ht)
  subst hr
  refine W.iast hexec hb h2 ((hK.2 t _ ht).1 N (st.2.2 a)) (fun q => by cases q) (by show ¬ (i < 0 ∨ (arrV _ _ _).slots.size ≤ _); rw [arrV_size]; exact hin) rfl rfl hdg fun H1 e1 z oq => ?_
  refine kk H1 _ (hP.set hk ⟨_, ht, ?_⟩ z oq) (hS.put z oq ((hP.2.2.1 a _ hk).1 (fun k h => by cases h; exact ht0 rfl)))
  rw [e1, arrV_store]
theorem m_last (S : CallFix p m c cc nL s args Ts own) (hK : va_K D cl tys s) (hP : mw D cl tys b st H) (hS : va_S (m_A b) H0 H locs) {t : Nat} {i : Int32} {x : Int64} (hop : m_ap st t a i (.long x) = some st1) (ht0 : t ≠ 0) {cA : ClassId} (ht : tys[t]? = some (cA, .long)) (hdg : decode cc pc = .ok (.lastore, 1))
    (kk : ∀ (H1 : Heap) (locs1 : List Loc), mw D cl tys b st1 H1 → va_S (m_A b) H0 H1 locs1 → W p l e R s m args below meth c H1 locs1 cells slots Q (F0 m (pc + 1) ls rest)) : W p l e R s m args below meth c H locs cells slots Q (F0 m pc ls (.long x :: .int i :: .ref a :: rest)) := by
  obtain ⟨hexec, hb, -, hown, hts⟩ := S
  obtain ⟨N, hk, hin, rfl⟩ := m_ap_s hop
  obtain ⟨r, h1, h2⟩ := (hP.2.2.1 a _ hk).2
  have hr : r = (cA, .long) := Option.some.inj (h1.symm.trans ht)
  subst hr
  refine W.last hexec hb h2 ((hK.2 t _ ht).1 N (st.2.2 a)) (fun q => by cases q) (by show ¬ (i < 0 ∨ (arrV _ _ _).slots.size ≤ _); rw [arrV_size]; exact hin) rfl rfl hdg fun H1 e1 z oq => ?_
  refine kk H1 _ (hP.set hk ⟨_, ht, ?_⟩ z oq) (hS.put z oq ((hP.2.2.1 a _ hk).1 (fun k h => by cases h; exact ht0 rfl)))
  rw [e1, arrV_store]
theorem m_zast (S : CallFix p m c cc nL s args Ts own) (hK : va_K D cl tys s) (hP : mw D cl tys b st H) (hS : va_S (m_A b) H0 H locs) {t : Nat} {i x : Int32} (hop : m_ap st t a i (.int x) = some st1) (ht0 : t ≠ 0) {cA : ClassId} (ht : tys[t]? = some (cA, .boolean)) (hx : narrow .boolean (.int x) = .int x) (hdg : decode cc pc = .ok (.bastore, 1))
    (kk : ∀ (H1 : Heap) (locs1 : List Loc), mw D cl tys b st1 H1 → va_S (m_A b) H0 H1 locs1 → W p l e R s m args below meth c H1 locs1 cells slots Q (F0 m (pc + 1) ls rest)) : W p l e R s m args below meth c H locs cells slots Q (F0 m pc ls (.int x :: .int i :: .ref a :: rest)) := by
  obtain ⟨hexec, hb, -, hown, hts⟩ := S
  obtain ⟨N, hk, hin, rfl⟩ := m_ap_s hop
  obtain ⟨r, h1, h2⟩ := (hP.2.2.1 a _ hk).2
  have hr : r = (cA, .boolean) := Option.some.inj (h1.symm.trans ht)
  subst hr
  refine W.zast hexec hb h2 ((hK.2 t _ ht).1 N (st.2.2 a)) (fun q => by cases q) (by show ¬ (i < 0 ∨ (arrV _ _ _).slots.size ≤ _); rw [arrV_size]; exact hin) rfl rfl hdg fun H1 e1 z oq => ?_
  refine kk H1 _ (hP.set hk ⟨_, ht, ?_⟩ z oq) (hS.put z oq ((hP.2.2.1 a _ hk).1 (fun k h => by cases h; exact ht0 rfl)))
  rw [e1, hx, arrV_store]
/-- an object of class ci goes into an array of its class -/
theorem m_aast (S : CallFix p m c cc nL s args Ts own) (hK : va_K D cl tys s) (hP : mw D cl tys b st H) (hS : va_S (m_A b) H0 H locs) {t ci v : Nat} {i : Int32} {r0 : vw_C} (hop : m_ap st t a i (.ref v) = some st1) (ht0 : t ≠ 0) (hv : st.2.1 v = some (.inl ci)) (hc : cl[ci]? = some r0) {cA : ClassId} (ht : tys[t]? = some (cA, .object r0.1)) (hdg : decode cc pc = .ok (.aastore, 1))
    (kk : ∀ (H1 : Heap) (locs1 : List Loc), mw D cl tys b st1 H1 → va_S (m_A b) H0 H1 locs1 → W p l e R s m args below meth c H1 locs1 cells slots Q (F0 m (pc + 1) ls rest)) : W p l e R s m args below meth c H locs cells slots Q (F0 m pc ls (.ref v :: .int i :: .ref a :: rest)) := by
  obtain ⟨hexec, hb, -, hown, hts⟩ := S
  obtain ⟨N, hk, hin, rfl⟩ := m_ap_s hop
  obtain ⟨r, h1, h2⟩ := (hP.2.2.1 a _ hk).2
  have hr : r = (cA, .object r0.1) := Option.some.inj (h1.symm.trans ht)
  subst hr
  have hlt : i.toNatClampNeg < N := Nat.not_le.mp fun q => hin (Or.inr q)
  have h0 : ¬ i < 0 := fun q => hin (Or.inl q)
  obtain ⟨r', hr', cellV, g1, g2, g3, -⟩ := (hP.2.2.1 v _ hv).2
  have hcls := (hK.1 ci r0 hc).2
  obtain ⟨kA, comp, k1, k2, k3, -⟩ := (hK.2 t _ ht).2
  have hcomp : comp = D.1 ci := Option.some.inj (k3.symm.trans hcls.1)
  subst hcomp
  obtain ⟨kC, hkC, -⟩ := hcls.2
  refine W.aast hexec hb h2 (fun q h => by cases h) (fun h => by cases h) k1 k2 rfl hkC ⟨h0, by show _ < (arrV _ _ _).slots.size; rw [arrV_size]; exact hlt⟩ g1 (fun q h => by rw [g3] at h; cases h) (by rw [g2]; exact hkC) (by rw [g2]; exact va_assign hcls) rfl rfl hdg fun H1 e1 z oq => ?_
  refine kk H1 _ (hP.set hk ⟨_, ht, ?_⟩ z oq) (hS.put z oq ((hP.2.2.1 a _ hk).1 (fun k h => by cases h; exact ht0 rfl)))
  rw [e1, arrV_store]
theorem m_aload_n (hexec : p.tables.exec = Jvm.exec) (hb : c.code = cc) {k : Fin 4} {i : Nat} {r : Option Nat} (hdg : decode cc pc = .ok (.aload_n k, 1)) (hi : (k : Nat) = i) (hl : ls[i]? = some (.val (va_rf r)))
    (kk : W p l e R s m args below meth c H locs cells slots Q (F0 m (pc + 1) ls (va_rf r :: rest))) : W p l e R s m args below meth c H locs cells slots Q (F0 m pc ls rest) := by
  cases r with
  | none => exact lv_aload_nN hexec hb hdg hi hl kk
  | some x => exact lv_aload_n hexec hb hdg hi hl kk
theorem m_aload (hexec : p.tables.exec = Jvm.exec) (hb : c.code = cc) {i : Nat} {r : Option Nat} (hdg : decode cc pc = .ok (.aload i, 2)) (hl : ls[i]? = some (.val (va_rf r)))
    (kk : W p l e R s m args below meth c H locs cells slots Q (F0 m (pc + 2) ls (va_rf r :: rest))) : W p l e R s m args below meth c H locs cells slots Q (F0 m pc ls rest) := by
  cases r with
  | none => exact lv_aloadN hexec hb hdg hl kk
  | some x => exact lv_aload hexec hb hdg hl kk
theorem m_astore_n (hexec : p.tables.exec = Jvm.exec) (hb : c.code = cc) {k : Fin 4} {i nL : Nat} {r : Option Nat} {lv lv' : List (Nat × Value)} (hdg : decode cc pc = .ok (.astore_n k, 1)) (hi : (k : Nat) = i) (h : lv_has ls nL lv) (hn : i < nL) (hl : (i, va_rf r) :: lv.filter (fun q => !(q.1 == i) && !(q.1 + 1 == i && q.2.category == 2)) = lv')
    (kk : ∀ ls' : Array Slot, lv_has ls' nL lv' → W p l e R s m args below meth c H locs cells slots Q (F0 m (pc + 1) ls' rest)) : W p l e R s m args below meth c H locs cells slots Q (F0 m pc ls (va_rf r :: rest)) := by
  cases r with
  | none => exact lv_astore_nN hexec hb hdg hi h hn hl kk
  | some x => exact lv_astore_n hexec hb hdg hi h hn hl kk
theorem m_astore (hexec : p.tables.exec = Jvm.exec) (hb : c.code = cc) {i nL : Nat} {r : Option Nat} {lv lv' : List (Nat × Value)} (hdg : decode cc pc = .ok (.astore i, 2)) (h : lv_has ls nL lv) (hn : i < nL) (hl : (i, va_rf r) :: lv.filter (fun q => !(q.1 == i) && !(q.1 + 1 == i && q.2.category == 2)) = lv')
    (kk : ∀ ls' : Array Slot, lv_has ls' nL lv' → W p l e R s m args below meth c H locs cells slots Q (F0 m (pc + 2) ls' rest)) : W p l e R s m args below meth c H locs cells slots Q (F0 m pc ls (va_rf r :: rest)) := by
  cases r with
  | none => exact lv_astoreN hexec hb hdg h hn hl kk
  | some x => exact lv_astore hexec hb hdg h hn hl kk
end MROW
/-! contracts: from the world st the method answers v and leaves the world st' -/
def m_Pc (D : va_G) (cl : List vw_C) (tys : List (ClassId × FieldType)) (b : Nat) (st : MS) (as : List Value) : Array Value → State → Prop := fun v U => v = as.toArray ∧ mw D cl tys b st U.heap ∧ va_K D cl tys U
def m_Q (D : va_G) (cl : List vw_C) (tys : List (ClassId × FieldType)) (b : Nat) (v : Option Value) (st : MS) : Array Value → State → Outcome → State → Prop := fun _ s0 o t => o = .returned v ∧ (mw D cl tys b st t.heap ∧ va_K D cl tys t) ∧ va_F (m_A b) s0 t
theorem m_blind {D : va_G} {cl : List vw_C} {tys : List (ClassId × FieldType)} {b : Nat} {st : MS} {as : List Value} : FrameBlind (m_Pc D cl tys b st as) := fun a U g mk q => ⟨q.1, q.2.1, va_K.moved (u := U) (U := U.calling g mk a) (Vm.Alike.refl U.vm) q.2.2⟩
theorem m_preS {s : State} {H : Heap} {D : va_G} {cl : List vw_C} {tys : List (ClassId × FieldType)} {b : Nat} {st : MS} {as : List Value} (hK : va_K D cl tys s) (hP : mw D cl tys b st H) : PreS s H (m_Pc D cl tys b st as) as := ⟨m_blind, fun U hU hW => ⟨rfl, by rw [hU]; exact hP, va_K.moved hW.alike hK⟩⟩
theorem m_preV {s : State} {H : Heap} {D : va_G} {cl : List vw_C} {tys : List (ClassId × FieldType)} {b a ci : Nat} {st : MS} {as : List Value} {r0 : vw_C} (hK : va_K D cl tys s) (hP : mw D cl tys b st H) (hk : st.2.1 a = some (.inl ci)) (hc : cl[ci]? = some r0) : PreV s H r0.1 a (m_Pc D cl tys b st (.ref a :: as)) as := by
  refine ⟨m_blind, ?_, fun U hU hW => ⟨rfl, by rw [hU]; exact hP, va_K.moved hW.alike hK⟩⟩
  obtain ⟨r, h1, cell, g1, g2, g3, -⟩ := (hP.2.2.1 a _ hk).2
  have hr : r = r0 := Option.some.inj (h1.symm.trans hc)
  subst hr
  exact ⟨cell, g1, by rw [g3]; rfl, by rw [g2]; exact (hK.1 ci _ hc).2.1⟩
section MCALL
variable {p : Program} {l : Launch} {e : Env} {R : Room} {s : State} {m : MethodId} {args : Array Value} {below : List Frame} {meth : Method} {c : Code} {H : Heap} {locs : List Loc} {cells slots : Nat} {Q : State → Prop}
variable {pc : Nat} {ls : Array Slot} {rest st0 : List Value} {a : Array Value} {H0 : Heap} {mc ms : Nat} {D : va_G} {cl : List vw_C} {tys : List (ClassId × FieldType)} {b : Nat}
theorem m_call {v : Option Value} {st : MS} (hr : va_Run p l e R s m args below meth c H locs cells slots mc ms (F0 m pc ls st0) rest (m_Q D cl tys b v st a) (m_A b)) (hS : va_S (m_A b) H0 H locs)
    (kk : ∀ (H1 : Heap) (locs1 : List Loc), mw D cl tys b st H1 → va_S (m_A b) H0 H1 locs1 → W p l e R s m args below meth c H1 locs1 (cells + mc) (slots + ms) Q (F0 m (pc + 3) ls (v.toList ++ rest))) : W p l e R s m args below meth c H locs cells slots Q (F0 m pc ls st0) := by
  intro T hT X
  obtain ⟨v', st₀, t, T', L, h0, X', hL, e1, e2, ⟨hv, ⟨hm, hk'⟩, hz, hk⟩, st⟩ := hr T hT X
  cases hv
  rw [h0] at hz hk
  obtain ⟨t2, a1, b1⟩ := kk T'.heap (locs ++ L) (by rw [e1]; exact hm)
    ⟨Nat.le_trans hS.1 (by rw [e1]; exact hz), fun q h1 h2 => by rw [e1, hk q (Nat.lt_of_lt_of_le h1 hS.1) h2]; exact hS.2.1 q h1 h2, fun q hq => by
      rcases List.mem_append.mp hq with h | h
      · exact hS.2.2 q h
      · exact hL q h⟩ T' rfl X'
  exact ⟨t2, st t2 a1, b1⟩
theorem m_calli {v : Int32} {st : MS} (hr : va_Run p l e R s m args below meth c H locs cells slots mc ms (F0 m pc ls st0) rest (m_Q D cl tys b (some (.int v)) st a) (m_A b)) (hS : va_S (m_A b) H0 H locs)
    (kk : ∀ (H1 : Heap) (locs1 : List Loc), mw D cl tys b st H1 → va_S (m_A b) H0 H1 locs1 → W p l e R s m args below meth c H1 locs1 (cells + mc) (slots + ms) Q (F0 m (pc + 3) ls (.int v :: rest))) : W p l e R s m args below meth c H locs cells slots Q (F0 m pc ls st0) := m_call hr hS kk
theorem m_calll {v : Int64} {st : MS} (hr : va_Run p l e R s m args below meth c H locs cells slots mc ms (F0 m pc ls st0) rest (m_Q D cl tys b (some (.long v)) st a) (m_A b)) (hS : va_S (m_A b) H0 H locs)
    (kk : ∀ (H1 : Heap) (locs1 : List Loc), mw D cl tys b st H1 → va_S (m_A b) H0 H1 locs1 → W p l e R s m args below meth c H1 locs1 (cells + mc) (slots + ms) Q (F0 m (pc + 3) ls (.long v :: rest))) : W p l e R s m args below meth c H locs cells slots Q (F0 m pc ls st0) := m_call hr hS kk
theorem m_callr {v : Option Nat} {st : MS} (hr : va_Run p l e R s m args below meth c H locs cells slots mc ms (F0 m pc ls st0) rest (m_Q D cl tys b (some (va_rf v)) st a) (m_A b)) (hS : va_S (m_A b) H0 H locs)
    (kk : ∀ (H1 : Heap) (locs1 : List Loc), mw D cl tys b st H1 → va_S (m_A b) H0 H1 locs1 → W p l e R s m args below meth c H1 locs1 (cells + mc) (slots + ms) Q (F0 m (pc + 3) ls (va_rf v :: rest))) : W p l e R s m args below meth c H locs cells slots Q (F0 m pc ls st0) := m_call hr hS kk
theorem m_callv {st : MS} (hr : va_Run p l e R s m args below meth c H locs cells slots mc ms (F0 m pc ls st0) rest (m_Q D cl tys b none st a) (m_A b)) (hS : va_S (m_A b) H0 H locs)
    (kk : ∀ (H1 : Heap) (locs1 : List Loc), mw D cl tys b st H1 → va_S (m_A b) H0 H1 locs1 → W p l e R s m args below meth c H1 locs1 (cells + mc) (slots + ms) Q (F0 m (pc + 3) ls rest)) : W p l e R s m args below meth c H locs cells slots Q (F0 m pc ls st0) := m_call hr hS kk
end MCALL
/-- a contract out of the walk of the body -/
theorem m_met {l : Launch} {y : MethodName} {ws ws' : List Cond} {rm : Room} {mc ms : Nat} {cc : ByteArray} {maxL : Nat} {ret : Option FieldType} {D : va_G} {cl : List vw_C} {tys : List (ClassId × FieldType)} {b : Nat} {st st' : MS} {as : List Value} {v : Option Value}
    (hy : plainName y.cls = true) (hw : ws = Cond.code y cc maxL ret :: ws') (hlen : (lg_sl as).length ≤ maxL)
    (body : ∀ (p : Program) (e : Env) (s : State) (m : MethodId) (below : List Frame) (meth : Method) (c : Code) (ls : Array Slot), CallFix p m c cc maxL s as.toArray ws y.cls → meth.sig.returnType = ret → meth.locks = false → meth.name = y.name → va_K D cl tys s → mw D cl tys b st s.heap → lv_has ls maxL (lv_args 0 as) → va_S (m_A b) s.heap s.heap [] →
      W p l e rm s m as.toArray below meth c s.heap [] 0 0 (MQ below (m_Q D cl tys b v st') as.toArray s mc ms (m_A b)) (F0 m 0 ls [])) : Met l y ws rm (m_Pc D cl tys b st as) (m_Q D cl tys b v st') mc ms (m_A b) := by
  refine Met.ofW (cc := cc) (maxL := maxL) (ret := ret) hy hw ?_
  intro p e s m args below meth c s₁ B hml hv
  obtain ⟨rfl, hP, hK⟩ := hv
  have hts := atoms_spec (ws := ws) B.pre
  have hl := lv_entry as (n := maxL) hlen
  rw [lg_entry_eq]
  exact body p e s m below meth c _ ⟨B.exec, B.bytes, hml, findClass_of_methodNamed B.named, hts⟩ B.returns B.notSynchronized (name_of_methodNamed B.named B.method).1 hK hP hl va_S.rf
section MRET
variable {p : Program} {l : Launch} {e : Env} {R : Room} {s : State} {m : MethodId} {args : Array Value} {below : List Frame} {meth : Method} {c : Code} {H : Heap} {locs : List Loc} {cells slots : Nat}
variable {cc : ByteArray} {pc nL b mc ms : Nat} {ls : Array Slot} {D : va_G} {cl : List vw_C} {tys : List (ClassId × FieldType)} {st : MS} {Ts : List Cond} {own : String}
theorem m_iret (S : CallFix p m c cc nL s args Ts own) (hr : meth.sig.returnType = some .int) (hlk : meth.locks = false) (hK : va_K D cl tys s) (hP : mw D cl tys b st H) (hS : va_S (m_A b) s.heap H locs) {v : Int32} (hc : cells ≤ mc) (hs : slots ≤ ms) (hdg : decode cc pc = .ok (.ireturn, 1)) :
    W p l e R s m args below meth c H locs cells slots (MQ below (m_Q D cl tys b (some (.int v)) st) args s mc ms (m_A b)) (F0 m pc ls [.int v]) :=
  W.widen hc hs (W.iret S.1 S.2.1 hr (fun t ht hW => ⟨rfl, ⟨by rw [ht]; exact hP, va_K.moved hW.alike hK⟩, hS.F ht⟩) hS.2.2 hdg)
theorem m_zret (S : CallFix p m c cc nL s args Ts own) (hr : meth.sig.returnType = some .boolean) (hlk : meth.locks = false) (hK : va_K D cl tys s) (hP : mw D cl tys b st H) (hS : va_S (m_A b) s.heap H locs) {v : Int32} (hv : narrow .boolean (.int v) = .int v) (hc : cells ≤ mc) (hs : slots ≤ ms) (hdg : decode cc pc = .ok (.ireturn, 1)) :
    W p l e R s m args below meth c H locs cells slots (MQ below (m_Q D cl tys b (some (.int v)) st) args s mc ms (m_A b)) (F0 m pc ls [.int v]) :=
  W.widen hc hs (W.zret S.1 S.2.1 hr hv (fun t ht hW => ⟨rfl, ⟨by rw [ht]; exact hP, va_K.moved hW.alike hK⟩, hS.F ht⟩) hS.2.2 hdg)
theorem m_lret (S : CallFix p m c cc nL s args Ts own) (hr : meth.sig.returnType = some .long) (hlk : meth.locks = false) (hK : va_K D cl tys s) (hP : mw D cl tys b st H) (hS : va_S (m_A b) s.heap H locs) {v : Int64} (hc : cells ≤ mc) (hs : slots ≤ ms) (hdg : decode cc pc = .ok (.lreturn, 1)) :
    W p l e R s m args below meth c H locs cells slots (MQ below (m_Q D cl tys b (some (.long v)) st) args s mc ms (m_A b)) (F0 m pc ls [.long v]) :=
  W.widen hc hs (W.lret S.1 S.2.1 hr (fun t ht hW => ⟨rfl, ⟨by rw [ht]; exact hP, va_K.moved hW.alike hK⟩, hS.F ht⟩) hS.2.2 hdg)
theorem m_vret (S : CallFix p m c cc nL s args Ts own) (hr : meth.sig.returnType = none) (hlk : meth.locks = false) (hK : va_K D cl tys s) (hP : mw D cl tys b st H) (hS : va_S (m_A b) s.heap H locs) (hc : cells ≤ mc) (hs : slots ≤ ms) (hdg : decode cc pc = .ok (.return_, 1)) :
    W p l e R s m args below meth c H locs cells slots (MQ below (m_Q D cl tys b none st) args s mc ms (m_A b)) (F0 m pc ls []) :=
  W.widen hc hs (W.vret S.1 S.2.1 hr (fun t ht hW => ⟨rfl, ⟨by rw [ht]; exact hP, va_K.moved hW.alike hK⟩, hS.F ht⟩) hS.2.2 hdg)
theorem m_aret (S : CallFix p m c cc nL s args Ts own) {C : String} (hr : meth.sig.returnType = some (.object C)) (hlk : meth.locks = false) (hK : va_K D cl tys s) (hP : mw D cl tys b st H) (hS : va_S (m_A b) s.heap H locs) {r : Option Nat} (hc : cells ≤ mc) (hs : slots ≤ ms) (hdg : decode cc pc = .ok (.areturn, 1)) :
    W p l e R s m args below meth c H locs cells slots (MQ below (m_Q D cl tys b (some (va_rf r)) st) args s mc ms (m_A b)) (F0 m pc ls [va_rf r]) :=
  W.widen hc hs (W.aret S.1 S.2.1 hr (Or.inl ⟨_, rfl⟩) (by cases r with | none => exact Or.inl rfl | some a => exact Or.inr ⟨a, rfl⟩) (fun t ht hW => ⟨rfl, ⟨by rw [ht]; exact hP, va_K.moved hW.alike hK⟩, hS.F ht⟩) hS.2.2 hdg)
end MRET
end
section
/-! ===== the words that every method's contract takes: the tables' good ones ===== -/
def m_tbl : List Cond := lw_tbl.filter goodWord
theorem m_in {w : Cond} (h : (decide (w ∈ lw_tbl) && goodWord w) = true) : w ∈ m_tbl := by
  rw [Bool.and_eq_true, decide_eq_true_eq] at h
  exact List.mem_filter.mpr h
theorem m_mem {w0 w : Cond} (h : (decide (w ∈ lw_tbl) && goodWord w) = true) : w ∈ w0 :: m_tbl := List.mem_cons_of_mem _ (m_in h)
theorem m_sub {w0 : Cond} {ws : List Cond} (h : ws.all (fun w => decide (w ∈ lw_tbl) && goodWord w) = true) : ∀ w ∈ ws, w ∈ w0 :: m_tbl := fun w hw => m_mem (List.all_eq_true.mp h w hw)
theorem m_gd {w0 : Cond} {ws : List Cond} (h : ws.all (fun w => decide (w ∈ lw_tbl) && goodWord w) = true) : GoodIn (w0 :: m_tbl) ws := fun w hw => by
  have h1 := List.all_eq_true.mp h w hw
  refine ⟨m_mem h1, good_of_word ?_⟩
  rw [Bool.and_eq_true] at h1
  exact h1.2
theorem m_gt {w0 : Cond} : GoodIn (w0 :: m_tbl) m_tbl := fun w hw => ⟨List.mem_cons_of_mem _ hw, good_of_word (List.mem_filter.mp hw).2⟩
theorem m_ga {big a b : List Cond} (ha : GoodIn big a) (hb : GoodIn big b) : GoodIn big (a ++ b) := fun w h => (List.mem_append.mp h).elim (ha w) (hb w)
theorem m_gI {w0 cw : Cond} (h : [cw].all (fun w => decide (w ∈ lw_tbl) && goodWord w) = true) : GoodIn (w0 :: m_tbl) (cw :: m_tbl) := m_ga (a := [cw]) (m_gd h) m_gt
theorem m_gV {w0 cw : Cond} {own C : String} {idx : Nat} {y : MethodName} (h : [cw].all (fun w => decide (w ∈ lw_tbl) && goodWord w) = true) (h2 : ([.methodLink own idx y, .instanceMethod y, .selects C y y, .initialized C] : List Cond).all (fun w => decide (w ∈ lw_tbl) && goodWord w) = true) : GoodIn (w0 :: m_tbl) (wsV own idx C y (cw :: m_tbl)) := m_ga (m_gd h2) (m_gI h)
theorem m_gS {w0 cw : Cond} {own : String} {idx : Nat} {y : MethodName} (h : [cw].all (fun w => decide (w ∈ lw_tbl) && goodWord w) = true) (h2 : ([.methodLink own idx y, .static y, .initialized own] : List Cond).all (fun w => decide (w ∈ lw_tbl) && goodWord w) = true) : GoodIn (w0 :: m_tbl) (wsS own idx y (cw :: m_tbl)) := m_ga (m_gd h2) (m_gI h)
def RX0 : String := "RuleHouse2"
def TX0 : u_T := fun k => match k with
  | 0 => ("RuleHouse2", "stepsAllowed", "I", true)
  | 1 => ("RuleHouse2", "classOfRule", "[LRuleHouse2$RuleClass;", true)
  | 2 => ("RuleHouse2", "ruleCount", "I", false)
  | 3 => ("RuleHouse2", "madeCount", "I", false)
  | 4 => ("RuleHouse2", "targets", "[LRuleHouse2$Target;", true)
  | 5 => ("RuleHouse2", "targetCount", "I", false)
  | 6 => ("RuleHouse2", "actionTarget", "[I", true)
  | 7 => ("RuleHouse2", "actionNumber", "[I", true)
  | 8 => ("RuleHouse2", "actionCount", "I", false)
  | _ => ("RuleHouse2", "handleCount", "I", false)
def tyX0 : Nat → FieldType := fun k => match k with
  | 0 => .int
  | 1 => (.array (.object "RuleHouse2$RuleClass"))
  | 2 => .int
  | 3 => .int
  | 4 => (.array (.object "RuleHouse2$Target"))
  | 5 => .int
  | 6 => (.array .int)
  | 7 => (.array .int)
  | 8 => .int
  | _ => .int
theorem nX0 : ∀ a, a < 10 → ∀ b, b < 10 → a ≠ b → (TX0 a).2.1 ≠ (TX0 b).2.1 := by decide +kernel
theorem tX0 : ∀ k, k < 10 → parseFieldDescriptor (TX0 k).2.2.1 = some (tyX0 k) := by decide +kernel
theorem inX0 (w0 : Cond) : ∀ w ∈ u_ws RX0 TX0 10, w ∈ w0 :: m_tbl := m_sub (by decide +kernel)
def RX1 : String := "RuleHouse2$RuleClass"
def TX1 : u_T := fun k => match k with
  | 0 => ("RuleHouse2$RuleClass", "edition", "I", true)
  | 1 => ("RuleHouse2$RuleClass", "does", "I", true)
  | 2 => ("RuleHouse2$RuleClass", "startFails", "Z", true)
  | 3 => ("RuleHouse2$RuleClass", "made", "Z", false)
  | 4 => ("RuleHouse2$RuleClass", "number", "I", false)
  | _ => ("RuleHouse2$RuleClass", "cell", "J", false)
def tyX1 : Nat → FieldType := fun k => match k with
  | 0 => .int
  | 1 => .int
  | 2 => .boolean
  | 3 => .boolean
  | 4 => .int
  | _ => .long
theorem nX1 : ∀ a, a < 6 → ∀ b, b < 6 → a ≠ b → (TX1 a).2.1 ≠ (TX1 b).2.1 := by decide +kernel
theorem tX1 : ∀ k, k < 6 → parseFieldDescriptor (TX1 k).2.2.1 = some (tyX1 k) := by decide +kernel
theorem inX1 (w0 : Cond) : ∀ w ∈ u_ws RX1 TX1 6, w ∈ w0 :: m_tbl := m_sub (by decide +kernel)
def RX2 : String := "RuleHouse2$Target"
def TX2 : u_T := fun k => match k with
  | 0 => ("RuleHouse2$Target", "number", "I", true)
  | 1 => ("RuleHouse2$Target", "ruleClass", "LRuleHouse2$RuleClass;", true)
  | 2 => ("RuleHouse2$Target", "attributes", "[I", true)
  | 3 => ("RuleHouse2$Target", "providers", "[I", true)
  | 4 => ("RuleHouse2$Target", "has", "[Z", true)
  | 5 => ("RuleHouse2$Target", "wasRun", "Z", false)
  | 6 => ("RuleHouse2$Target", "outputDeclared", "Z", false)
  | 7 => ("RuleHouse2$Target", "steps", "I", false)
  | 8 => ("RuleHouse2$Target", "actions", "I", false)
  | 9 => ("RuleHouse2$Target", "failure", "I", false)
  | 10 => ("RuleHouse2$Target", "failedBit", "I", false)
  | _ => ("RuleHouse2$Target", "failureBegan", "I", false)
def tyX2 : Nat → FieldType := fun k => match k with
  | 0 => .int
  | 1 => (.object "RuleHouse2$RuleClass")
  | 2 => (.array .int)
  | 3 => (.array .int)
  | 4 => (.array .boolean)
  | 5 => .boolean
  | 6 => .boolean
  | 7 => .int
  | 8 => .int
  | 9 => .int
  | 10 => .int
  | _ => .int
theorem nX2 : ∀ a, a < 12 → ∀ b, b < 12 → a ≠ b → (TX2 a).2.1 ≠ (TX2 b).2.1 := by decide +kernel
theorem tX2 : ∀ k, k < 12 → parseFieldDescriptor (TX2 k).2.2.1 = some (tyX2 k) := by decide +kernel
theorem inX2 (w0 : Cond) : ∀ w ∈ u_ws RX2 TX2 12, w ∈ w0 :: m_tbl := m_sub (by decide +kernel)
def RX3 : String := "RuleHouse2Model"
def TX3 : u_T := fun k => match k with
  | 0 => ("RuleHouse2Model", "code", "I", false)
  | 1 => ("RuleHouse2Model", "most", "I", true)
  | 2 => ("RuleHouse2Model", "rules", "I", false)
  | 3 => ("RuleHouse2Model", "classes", "I", false)
  | 4 => ("RuleHouse2Model", "targets", "I", false)
  | 5 => ("RuleHouse2Model", "actions", "I", false)
  | 6 => ("RuleHouse2Model", "handles", "I", false)
  | 7 => ("RuleHouse2Model", "edition", "[I", true)
  | 8 => ("RuleHouse2Model", "does", "[I", true)
  | 9 => ("RuleHouse2Model", "made", "[I", true)
  | 10 => ("RuleHouse2Model", "fails", "[Z", true)
  | 11 => ("RuleHouse2Model", "cell", "[J", true)
  | 12 => ("RuleHouse2Model", "rule", "[I", true)
  | 13 => ("RuleHouse2Model", "attributes", "[I", true)
  | 14 => ("RuleHouse2Model", "failure", "[I", true)
  | 15 => ("RuleHouse2Model", "bit", "[I", true)
  | 16 => ("RuleHouse2Model", "began", "[I", true)
  | 17 => ("RuleHouse2Model", "mine", "[I", true)
  | 18 => ("RuleHouse2Model", "steps", "[I", true)
  | 19 => ("RuleHouse2Model", "chain", "[I", true)
  | 20 => ("RuleHouse2Model", "provider", "[I", true)
  | 21 => ("RuleHouse2Model", "run", "[Z", true)
  | 22 => ("RuleHouse2Model", "has", "[Z", true)
  | 23 => ("RuleHouse2Model", "of", "[I", true)
  | _ => ("RuleHouse2Model", "number", "[I", true)
def tyX3 : Nat → FieldType := fun k => match k with
  | 0 => .int
  | 1 => .int
  | 2 => .int
  | 3 => .int
  | 4 => .int
  | 5 => .int
  | 6 => .int
  | 7 => (.array .int)
  | 8 => (.array .int)
  | 9 => (.array .int)
  | 10 => (.array .boolean)
  | 11 => (.array .long)
  | 12 => (.array .int)
  | 13 => (.array .int)
  | 14 => (.array .int)
  | 15 => (.array .int)
  | 16 => (.array .int)
  | 17 => (.array .int)
  | 18 => (.array .int)
  | 19 => (.array .int)
  | 20 => (.array .int)
  | 21 => (.array .boolean)
  | 22 => (.array .boolean)
  | 23 => (.array .int)
  | _ => (.array .int)
theorem nX3 : ∀ a, a < 25 → ∀ b, b < 25 → a ≠ b → (TX3 a).2.1 ≠ (TX3 b).2.1 := by decide +kernel
theorem tX3 : ∀ k, k < 25 → parseFieldDescriptor (TX3 k).2.2.1 = some (tyX3 k) := by decide +kernel
theorem inX3 (w0 : Cond) : ∀ w ∈ u_ws RX3 TX3 25, w ∈ w0 :: m_tbl := m_sub (by decide +kernel)
def RL : String := "RuleHouse2Law"
abbrev vwCl : List vw_C := [(RX0, TX0, 10), (RX1, TX1, 6), (RX2, TX2, 12), (RX3, TX3, 25)]
def m_tys (tc : Nat → ClassId) : List (ClassId × FieldType) := [(tc 0, .int), (tc 1, .int), (tc 2, .boolean), (tc 3, (.object "RuleHouse2$RuleClass")), (tc 4, (.object "RuleHouse2$Target")), (tc 5, .int), (tc 6, .boolean), (tc 7, .long), (tc 8, .long)]
abbrev cX0_init : ByteArray := prog_1_method_1_code
def yX0_init : MethodName := ⟨RX0, "<init>", "(I)V"⟩
abbrev wX0_init : Cond := .code yX0_init cX0_init 2 none
abbrev wsX0_init : List Cond := wX0_init :: m_tbl
theorem kX0_init : [wX0_init].all (fun w => decide (w ∈ lw_tbl) && goodWord w) = true := by decide +kernel
abbrev cX0_rule : ByteArray := prog_1_method_2_code
def yX0_rule : MethodName := ⟨RX0, "rule", "(IIZ)I"⟩
abbrev wX0_rule : Cond := .code yX0_rule cX0_rule 5 (some .int)
abbrev wsX0_rule : List Cond := wX0_rule :: m_tbl
theorem kX0_rule : [wX0_rule].all (fun w => decide (w ∈ lw_tbl) && goodWord w) = true := by decide +kernel
abbrev cX0_make : ByteArray := prog_1_method_3_code
def yX0_make : MethodName := ⟨RX0, "make", "(I)I"⟩
abbrev wX0_make : Cond := .code yX0_make cX0_make 3 (some .int)
abbrev wsX0_make : List Cond := wX0_make :: m_tbl
theorem kX0_make : [wX0_make].all (fun w => decide (w ∈ lw_tbl) && goodWord w) = true := by decide +kernel
abbrev cX0_attribute : ByteArray := prog_1_method_4_code
def yX0_attribute : MethodName := ⟨RX0, "attribute", "(III)I"⟩
abbrev wX0_attribute : Cond := .code yX0_attribute cX0_attribute 6 (some .int)
abbrev wsX0_attribute : List Cond := wX0_attribute :: m_tbl
theorem kX0_attribute : [wX0_attribute].all (fun w => decide (w ∈ lw_tbl) && goodWord w) = true := by decide +kernel
abbrev cX0_target : ByteArray := prog_1_method_5_code
def yX0_target : MethodName := ⟨RX0, "target", "(I)I"⟩
abbrev wX0_target : Cond := .code yX0_target cX0_target 3 (some .int)
abbrev wsX0_target : List Cond := wX0_target :: m_tbl
theorem kX0_target : [wX0_target].all (fun w => decide (w ∈ lw_tbl) && goodWord w) = true := by decide +kernel
abbrev cX0_run : ByteArray := prog_1_method_6_code
def yX0_run : MethodName := ⟨RX0, "run", "(I)I"⟩
abbrev wX0_run : Cond := .code yX0_run cX0_run 3 (some .int)
abbrev wsX0_run : List Cond := wX0_run :: m_tbl
theorem kX0_run : [wX0_run].all (fun w => decide (w ∈ lw_tbl) && goodWord w) = true := by decide +kernel
abbrev cX0_action : ByteArray := prog_1_method_7_code
def yX0_action : MethodName := ⟨RX0, "action", "(II)I"⟩
abbrev wX0_action : Cond := .code yX0_action cX0_action 3 (some .int)
abbrev wsX0_action : List Cond := wX0_action :: m_tbl
theorem kX0_action : [wX0_action].all (fun w => decide (w ∈ lw_tbl) && goodWord w) = true := by decide +kernel
abbrev cX0_provider : ByteArray := prog_1_method_8_code
def yX0_provider : MethodName := ⟨RX0, "provider", "(II)I"⟩
abbrev wX0_provider : Cond := .code yX0_provider cX0_provider 4 (some .int)
abbrev wsX0_provider : List Cond := wX0_provider :: m_tbl
theorem kX0_provider : [wX0_provider].all (fun w => decide (w ∈ lw_tbl) && goodWord w) = true := by decide +kernel
abbrev cX0_failed : ByteArray := prog_1_method_9_code
def yX0_failed : MethodName := ⟨RX0, "failed", "(II)I"⟩
abbrev wX0_failed : Cond := .code yX0_failed cX0_failed 4 (some .int)
abbrev wsX0_failed : List Cond := wX0_failed :: m_tbl
theorem kX0_failed : [wX0_failed].all (fun w => decide (w ∈ lw_tbl) && goodWord w) = true := by decide +kernel
abbrev cX0_cell : ByteArray := prog_1_method_10_code
def yX0_cell : MethodName := ⟨RX0, "cell", "(I)J"⟩
abbrev wX0_cell : Cond := .code yX0_cell cX0_cell 3 (some .long)
abbrev wsX0_cell : List Cond := wX0_cell :: m_tbl
theorem kX0_cell : [wX0_cell].all (fun w => decide (w ∈ lw_tbl) && goodWord w) = true := by decide +kernel
abbrev cX0_same : ByteArray := prog_1_method_11_code
def yX0_same : MethodName := ⟨RX0, "same", "(II)Z"⟩
abbrev wX0_same : Cond := .code yX0_same cX0_same 5 (some .boolean)
abbrev wsX0_same : List Cond := wX0_same :: m_tbl
theorem kX0_same : [wX0_same].all (fun w => decide (w ∈ lw_tbl) && goodWord w) = true := by decide +kernel
abbrev cX0_divide : ByteArray := prog_1_method_12_code
def yX0_divide : MethodName := ⟨RX0, "divide", "(IJJ)J"⟩
abbrev wX0_divide : Cond := .code yX0_divide cX0_divide 7 (some .long)
abbrev wsX0_divide : List Cond := wX0_divide :: m_tbl
theorem kX0_divide : [wX0_divide].all (fun w => decide (w ∈ lw_tbl) && goodWord w) = true := by decide +kernel
abbrev cX0_handle : ByteArray := prog_1_method_13_code
def yX0_handle : MethodName := ⟨RX0, "handle", "(I)I"⟩
abbrev wX0_handle : Cond := .code yX0_handle cX0_handle 2 (some .int)
abbrev wsX0_handle : List Cond := wX0_handle :: m_tbl
theorem kX0_handle : [wX0_handle].all (fun w => decide (w ∈ lw_tbl) && goodWord w) = true := by decide +kernel
abbrev cX0_isWithin : ByteArray := prog_1_method_14_code
def yX0_isWithin : MethodName := ⟨RX0, "isWithin", "(II)Z"⟩
abbrev wX0_isWithin : Cond := .code yX0_isWithin cX0_isWithin 2 (some .boolean)
abbrev wsX0_isWithin : List Cond := wX0_isWithin :: m_tbl
theorem kX0_isWithin : [wX0_isWithin].all (fun w => decide (w ∈ lw_tbl) && goodWord w) = true := by decide +kernel
abbrev cX0_classAt : ByteArray := prog_1_method_15_code
def yX0_classAt : MethodName := ⟨RX0, "classAt", "(I)LRuleHouse2$RuleClass;"⟩
abbrev wX0_classAt : Cond := .code yX0_classAt cX0_classAt 2 (some (.object "RuleHouse2$RuleClass"))
abbrev wsX0_classAt : List Cond := wX0_classAt :: m_tbl
theorem kX0_classAt : [wX0_classAt].all (fun w => decide (w ∈ lw_tbl) && goodWord w) = true := by decide +kernel
abbrev cX0_targetAt : ByteArray := prog_1_method_16_code
def yX0_targetAt : MethodName := ⟨RX0, "targetAt", "(I)LRuleHouse2$Target;"⟩
abbrev wX0_targetAt : Cond := .code yX0_targetAt cX0_targetAt 2 (some (.object "RuleHouse2$Target"))
abbrev wsX0_targetAt : List Cond := wX0_targetAt :: m_tbl
theorem kX0_targetAt : [wX0_targetAt].all (fun w => decide (w ∈ lw_tbl) && goodWord w) = true := by decide +kernel
abbrev cX0_findClass : ByteArray := prog_1_method_17_code
def yX0_findClass : MethodName := ⟨RX0, "findClass", "(II)LRuleHouse2$RuleClass;"⟩
abbrev wX0_findClass : Cond := .code yX0_findClass cX0_findClass 5 (some (.object "RuleHouse2$RuleClass"))
abbrev wsX0_findClass : List Cond := wX0_findClass :: m_tbl
theorem kX0_findClass : [wX0_findClass].all (fun w => decide (w ∈ lw_tbl) && goodWord w) = true := by decide +kernel
abbrev cX0_ensureMade : ByteArray := prog_1_method_18_code
def yX0_ensureMade : MethodName := ⟨RX0, "ensureMade", "(LRuleHouse2$RuleClass;)Z"⟩
abbrev wX0_ensureMade : Cond := .code yX0_ensureMade cX0_ensureMade 2 (some .boolean)
abbrev wsX0_ensureMade : List Cond := wX0_ensureMade :: m_tbl
theorem kX0_ensureMade : [wX0_ensureMade].all (fun w => decide (w ∈ lw_tbl) && goodWord w) = true := by decide +kernel
abbrev cX0_mayBecome : ByteArray := prog_1_method_19_code
def yX0_mayBecome : MethodName := ⟨RX0, "mayBecome", "(LRuleHouse2$Target;II)Z"⟩
abbrev wX0_mayBecome : Cond := .code yX0_mayBecome cX0_mayBecome 3 (some .boolean)
abbrev wsX0_mayBecome : List Cond := wX0_mayBecome :: m_tbl
theorem kX0_mayBecome : [wX0_mayBecome].all (fun w => decide (w ∈ lw_tbl) && goodWord w) = true := by decide +kernel
abbrev cX0_digest : ByteArray := prog_1_method_20_code
def yX0_digest : MethodName := ⟨RX0, "digest", "(II)I"⟩
abbrev wX0_digest : Cond := .code yX0_digest cX0_digest 5 (some .int)
abbrev wsX0_digest : List Cond := wX0_digest :: m_tbl
theorem kX0_digest : [wX0_digest].all (fun w => decide (w ∈ lw_tbl) && goodWord w) = true := by decide +kernel
abbrev cX0_runOnce : ByteArray := prog_1_method_21_code
def yX0_runOnce : MethodName := ⟨RX0, "runOnce", "(LRuleHouse2$Target;I)V"⟩
abbrev wX0_runOnce : Cond := .code yX0_runOnce cX0_runOnce 4 none
abbrev wsX0_runOnce : List Cond := wX0_runOnce :: m_tbl
theorem kX0_runOnce : [wX0_runOnce].all (fun w => decide (w ∈ lw_tbl) && goodWord w) = true := by decide +kernel
abbrev cX0_doBits : ByteArray := prog_1_method_22_code
def yX0_doBits : MethodName := ⟨RX0, "doBits", "(LRuleHouse2$Target;LRuleHouse2$Target;)V"⟩
abbrev wX0_doBits : Cond := .code yX0_doBits cX0_doBits 6 none
abbrev wsX0_doBits : List Cond := wX0_doBits :: m_tbl
theorem kX0_doBits : [wX0_doBits].all (fun w => decide (w ∈ lw_tbl) && goodWord w) = true := by decide +kernel
abbrev cX0_takesStep : ByteArray := prog_1_method_23_code
def yX0_takesStep : MethodName := ⟨RX0, "takesStep", "(LRuleHouse2$Target;)Z"⟩
abbrev wX0_takesStep : Cond := .code yX0_takesStep cX0_takesStep 2 (some .boolean)
abbrev wsX0_takesStep : List Cond := wX0_takesStep :: m_tbl
theorem kX0_takesStep : [wX0_takesStep].all (fun w => decide (w ∈ lw_tbl) && goodWord w) = true := by decide +kernel
abbrev cX0_doBit : ByteArray := prog_1_method_24_code
def yX0_doBit : MethodName := ⟨RX0, "doBit", "(LRuleHouse2$Target;LRuleHouse2$Target;I)I"⟩
abbrev wX0_doBit : Cond := .code yX0_doBit cX0_doBit 4 (some .int)
abbrev wsX0_doBit : List Cond := wX0_doBit :: m_tbl
theorem kX0_doBit : [wX0_doBit].all (fun w => decide (w ∈ lw_tbl) && goodWord w) = true := by decide +kernel
abbrev cX0_declareOutput : ByteArray := prog_1_method_25_code
def yX0_declareOutput : MethodName := ⟨RX0, "declareOutput", "(LRuleHouse2$Target;)I"⟩
abbrev wX0_declareOutput : Cond := .code yX0_declareOutput cX0_declareOutput 1 (some .int)
abbrev wsX0_declareOutput : List Cond := wX0_declareOutput :: m_tbl
theorem kX0_declareOutput : [wX0_declareOutput].all (fun w => decide (w ∈ lw_tbl) && goodWord w) = true := by decide +kernel
abbrev cX0_addActions : ByteArray := prog_1_method_26_code
def yX0_addActions : MethodName := ⟨RX0, "addActions", "(LRuleHouse2$Target;)I"⟩
abbrev wX0_addActions : Cond := .code yX0_addActions cX0_addActions 4 (some .int)
abbrev wsX0_addActions : List Cond := wX0_addActions :: m_tbl
theorem kX0_addActions : [wX0_addActions].all (fun w => decide (w ∈ lw_tbl) && goodWord w) = true := by decide +kernel
abbrev cX0_giveQuotient : ByteArray := prog_1_method_27_code
def yX0_giveQuotient : MethodName := ⟨RX0, "giveQuotient", "(LRuleHouse2$Target;)I"⟩
abbrev wX0_giveQuotient : Cond := .code yX0_giveQuotient cX0_giveQuotient 2 (some .int)
abbrev wsX0_giveQuotient : List Cond := wX0_giveQuotient :: m_tbl
theorem kX0_giveQuotient : [wX0_giveQuotient].all (fun w => decide (w ∈ lw_tbl) && goodWord w) = true := by decide +kernel
abbrev cX0_giveOneMore : ByteArray := prog_1_method_28_code
def yX0_giveOneMore : MethodName := ⟨RX0, "giveOneMore", "(LRuleHouse2$Target;LRuleHouse2$Target;)I"⟩
abbrev wX0_giveOneMore : Cond := .code yX0_giveOneMore cX0_giveOneMore 2 (some .int)
abbrev wsX0_giveOneMore : List Cond := wX0_giveOneMore :: m_tbl
theorem kX0_giveOneMore : [wX0_giveOneMore].all (fun w => decide (w ∈ lw_tbl) && goodWord w) = true := by decide +kernel
abbrev cX0_countInCell : ByteArray := prog_1_method_29_code
def yX0_countInCell : MethodName := ⟨RX0, "countInCell", "(LRuleHouse2$Target;)I"⟩
abbrev wX0_countInCell : Cond := .code yX0_countInCell cX0_countInCell 1 (some .int)
abbrev wsX0_countInCell : List Cond := wX0_countInCell :: m_tbl
theorem kX0_countInCell : [wX0_countInCell].all (fun w => decide (w ∈ lw_tbl) && goodWord w) = true := by decide +kernel
abbrev cX0_giveAmount : ByteArray := prog_1_method_30_code
def yX0_giveAmount : MethodName := ⟨RX0, "giveAmount", "(LRuleHouse2$Target;)I"⟩
abbrev wX0_giveAmount : Cond := .code yX0_giveAmount cX0_giveAmount 2 (some .int)
abbrev wsX0_giveAmount : List Cond := wX0_giveAmount :: m_tbl
theorem kX0_giveAmount : [wX0_giveAmount].all (fun w => decide (w ∈ lw_tbl) && goodWord w) = true := by decide +kernel
abbrev cX0_keepHandle : ByteArray := prog_1_method_31_code
def yX0_keepHandle : MethodName := ⟨RX0, "keepHandle", "()I"⟩
abbrev wX0_keepHandle : Cond := .code yX0_keepHandle cX0_keepHandle 1 (some .int)
abbrev wsX0_keepHandle : List Cond := wX0_keepHandle :: m_tbl
theorem kX0_keepHandle : [wX0_keepHandle].all (fun w => decide (w ∈ lw_tbl) && goodWord w) = true := by decide +kernel
abbrev cX3_init : ByteArray := prog_5_method_1_code
def yX3_init : MethodName := ⟨RX3, "<init>", "(I)V"⟩
abbrev wX3_init : Cond := .code yX3_init cX3_init 2 none
abbrev wsX3_init : List Cond := wX3_init :: m_tbl
theorem kX3_init : [wX3_init].all (fun w => decide (w ∈ lw_tbl) && goodWord w) = true := by decide +kernel
abbrev cX3_thrown : ByteArray := prog_5_method_2_code
def yX3_thrown : MethodName := ⟨RX3, "thrown", "()I"⟩
abbrev wX3_thrown : Cond := .code yX3_thrown cX3_thrown 1 (some .int)
abbrev wsX3_thrown : List Cond := wX3_thrown :: m_tbl
theorem kX3_thrown : [wX3_thrown].all (fun w => decide (w ∈ lw_tbl) && goodWord w) = true := by decide +kernel
abbrev cX3_isRule : ByteArray := prog_5_method_3_code
def yX3_isRule : MethodName := ⟨RX3, "isRule", "(I)Z"⟩
abbrev wX3_isRule : Cond := .code yX3_isRule cX3_isRule 2 (some .boolean)
abbrev wsX3_isRule : List Cond := wX3_isRule :: m_tbl
theorem kX3_isRule : [wX3_isRule].all (fun w => decide (w ∈ lw_tbl) && goodWord w) = true := by decide +kernel
abbrev cX3_isTarget : ByteArray := prog_5_method_4_code
def yX3_isTarget : MethodName := ⟨RX3, "isTarget", "(I)Z"⟩
abbrev wX3_isTarget : Cond := .code yX3_isTarget cX3_isTarget 2 (some .boolean)
abbrev wsX3_isTarget : List Cond := wX3_isTarget :: m_tbl
theorem kX3_isTarget : [wX3_isTarget].all (fun w => decide (w ∈ lw_tbl) && goodWord w) = true := by decide +kernel
abbrev cX3_rule : ByteArray := prog_5_method_5_code
def yX3_rule : MethodName := ⟨RX3, "rule", "(IIZ)I"⟩
abbrev wX3_rule : Cond := .code yX3_rule cX3_rule 4 (some .int)
abbrev wsX3_rule : List Cond := wX3_rule :: m_tbl
theorem kX3_rule : [wX3_rule].all (fun w => decide (w ∈ lw_tbl) && goodWord w) = true := by decide +kernel
abbrev cX3_firstOf : ByteArray := prog_5_method_6_code
def yX3_firstOf : MethodName := ⟨RX3, "firstOf", "(I)I"⟩
abbrev wX3_firstOf : Cond := .code yX3_firstOf cX3_firstOf 3 (some .int)
abbrev wsX3_firstOf : List Cond := wX3_firstOf :: m_tbl
theorem kX3_firstOf : [wX3_firstOf].all (fun w => decide (w ∈ lw_tbl) && goodWord w) = true := by decide +kernel
abbrev cX3_classOf : ByteArray := prog_5_method_7_code
def yX3_classOf : MethodName := ⟨RX3, "classOf", "(I)I"⟩
abbrev wX3_classOf : Cond := .code yX3_classOf cX3_classOf 3 (some .int)
abbrev wsX3_classOf : List Cond := wX3_classOf :: m_tbl
theorem kX3_classOf : [wX3_classOf].all (fun w => decide (w ∈ lw_tbl) && goodWord w) = true := by decide +kernel
abbrev cX3_make : ByteArray := prog_5_method_8_code
def yX3_make : MethodName := ⟨RX3, "make", "(I)I"⟩
abbrev wX3_make : Cond := .code yX3_make cX3_make 2 (some .int)
abbrev wsX3_make : List Cond := wX3_make :: m_tbl
theorem kX3_make : [wX3_make].all (fun w => decide (w ∈ lw_tbl) && goodWord w) = true := by decide +kernel
abbrev cX3_cell : ByteArray := prog_5_method_9_code
def yX3_cell : MethodName := ⟨RX3, "cell", "(I)J"⟩
abbrev wX3_cell : Cond := .code yX3_cell cX3_cell 3 (some .long)
abbrev wsX3_cell : List Cond := wX3_cell :: m_tbl
theorem kX3_cell : [wX3_cell].all (fun w => decide (w ∈ lw_tbl) && goodWord w) = true := by decide +kernel
abbrev cX3_same : ByteArray := prog_5_method_10_code
def yX3_same : MethodName := ⟨RX3, "same", "(II)Z"⟩
abbrev wX3_same : Cond := .code yX3_same cX3_same 3 (some .boolean)
abbrev wsX3_same : List Cond := wX3_same :: m_tbl
theorem kX3_same : [wX3_same].all (fun w => decide (w ∈ lw_tbl) && goodWord w) = true := by decide +kernel
abbrev cX3_divide : ByteArray := prog_5_method_11_code
def yX3_divide : MethodName := ⟨RX3, "divide", "(IJJ)J"⟩
abbrev wX3_divide : Cond := .code yX3_divide cX3_divide 7 (some .long)
abbrev wsX3_divide : List Cond := wX3_divide :: m_tbl
theorem kX3_divide : [wX3_divide].all (fun w => decide (w ∈ lw_tbl) && goodWord w) = true := by decide +kernel
abbrev cX3_handle : ByteArray := prog_5_method_12_code
def yX3_handle : MethodName := ⟨RX3, "handle", "(I)I"⟩
abbrev wX3_handle : Cond := .code yX3_handle cX3_handle 2 (some .int)
abbrev wsX3_handle : List Cond := wX3_handle :: m_tbl
theorem kX3_handle : [wX3_handle].all (fun w => decide (w ∈ lw_tbl) && goodWord w) = true := by decide +kernel
abbrev cX3_target : ByteArray := prog_5_method_13_code
def yX3_target : MethodName := ⟨RX3, "target", "(I)I"⟩
abbrev wX3_target : Cond := .code yX3_target cX3_target 2 (some .int)
abbrev wsX3_target : List Cond := wX3_target :: m_tbl
theorem kX3_target : [wX3_target].all (fun w => decide (w ∈ lw_tbl) && goodWord w) = true := by decide +kernel
abbrev cX3_attribute : ByteArray := prog_5_method_14_code
def yX3_attribute : MethodName := ⟨RX3, "attribute", "(III)I"⟩
abbrev wX3_attribute : Cond := .code yX3_attribute cX3_attribute 6 (some .int)
abbrev wsX3_attribute : List Cond := wX3_attribute :: m_tbl
theorem kX3_attribute : [wX3_attribute].all (fun w => decide (w ∈ lw_tbl) && goodWord w) = true := by decide +kernel
abbrev cX3_fail : ByteArray := prog_5_method_15_code
def yX3_fail : MethodName := ⟨RX3, "fail", "(IIII)V"⟩
abbrev wX3_fail : Cond := .code yX3_fail cX3_fail 6 none
abbrev wsX3_fail : List Cond := wX3_fail :: m_tbl
theorem kX3_fail : [wX3_fail].all (fun w => decide (w ∈ lw_tbl) && goodWord w) = true := by decide +kernel
abbrev cX3_give : ByteArray := prog_5_method_16_code
def yX3_give : MethodName := ⟨RX3, "give", "(III)V"⟩
abbrev wX3_give : Cond := .code yX3_give cX3_give 4 none
abbrev wsX3_give : List Cond := wX3_give :: m_tbl
theorem kX3_give : [wX3_give].all (fun w => decide (w ∈ lw_tbl) && goodWord w) = true := by decide +kernel
abbrev cX3_step : ByteArray := prog_5_method_17_code
def yX3_step : MethodName := ⟨RX3, "step", "(I)Z"⟩
abbrev wX3_step : Cond := .code yX3_step cX3_step 2 (some .boolean)
abbrev wsX3_step : List Cond := wX3_step :: m_tbl
theorem kX3_step : [wX3_step].all (fun w => decide (w ∈ lw_tbl) && goodWord w) = true := by decide +kernel
abbrev cX3_runChain : ByteArray := prog_5_method_18_code
def yX3_runChain : MethodName := ⟨RX3, "runChain", "(I)V"⟩
abbrev wX3_runChain : Cond := .code yX3_runChain cX3_runChain 6 none
abbrev wsX3_runChain : List Cond := wX3_runChain :: m_tbl
theorem kX3_runChain : [wX3_runChain].all (fun w => decide (w ∈ lw_tbl) && goodWord w) = true := by decide +kernel
abbrev cX3_runOne : ByteArray := prog_5_method_19_code
def yX3_runOne : MethodName := ⟨RX3, "runOne", "(I)V"⟩
abbrev wX3_runOne : Cond := .code yX3_runOne cX3_runOne 6 none
abbrev wsX3_runOne : List Cond := wX3_runOne :: m_tbl
theorem kX3_runOne : [wX3_runOne].all (fun w => decide (w ∈ lw_tbl) && goodWord w) = true := by decide +kernel
abbrev cX3_deed : ByteArray := prog_5_method_20_code
def yX3_deed : MethodName := ⟨RX3, "deed", "(IIII)I"⟩
abbrev wX3_deed : Cond := .code yX3_deed cX3_deed 7 (some .int)
abbrev wsX3_deed : List Cond := wX3_deed :: m_tbl
theorem kX3_deed : [wX3_deed].all (fun w => decide (w ∈ lw_tbl) && goodWord w) = true := by decide +kernel
abbrev cX3_act : ByteArray := prog_5_method_21_code
def yX3_act : MethodName := ⟨RX3, "act", "(II)I"⟩
abbrev wX3_act : Cond := .code yX3_act cX3_act 4 (some .int)
abbrev wsX3_act : List Cond := wX3_act :: m_tbl
theorem kX3_act : [wX3_act].all (fun w => decide (w ∈ lw_tbl) && goodWord w) = true := by decide +kernel
abbrev cX3_run : ByteArray := prog_5_method_22_code
def yX3_run : MethodName := ⟨RX3, "run", "(I)I"⟩
abbrev wX3_run : Cond := .code yX3_run cX3_run 2 (some .int)
abbrev wsX3_run : List Cond := wX3_run :: m_tbl
theorem kX3_run : [wX3_run].all (fun w => decide (w ∈ lw_tbl) && goodWord w) = true := by decide +kernel
abbrev cX3_action : ByteArray := prog_5_method_23_code
def yX3_action : MethodName := ⟨RX3, "action", "(II)I"⟩
abbrev wX3_action : Cond := .code yX3_action cX3_action 5 (some .int)
abbrev wsX3_action : List Cond := wX3_action :: m_tbl
theorem kX3_action : [wX3_action].all (fun w => decide (w ∈ lw_tbl) && goodWord w) = true := by decide +kernel
abbrev cX3_provider : ByteArray := prog_5_method_24_code
def yX3_provider : MethodName := ⟨RX3, "provider", "(II)I"⟩
abbrev wX3_provider : Cond := .code yX3_provider cX3_provider 3 (some .int)
abbrev wsX3_provider : List Cond := wX3_provider :: m_tbl
theorem kX3_provider : [wX3_provider].all (fun w => decide (w ∈ lw_tbl) && goodWord w) = true := by decide +kernel
abbrev cX3_failed : ByteArray := prog_5_method_25_code
def yX3_failed : MethodName := ⟨RX3, "failed", "(II)I"⟩
abbrev wX3_failed : Cond := .code yX3_failed cX3_failed 3 (some .int)
abbrev wsX3_failed : List Cond := wX3_failed :: m_tbl
theorem kX3_failed : [wX3_failed].all (fun w => decide (w ∈ lw_tbl) && goodWord w) = true := by decide +kernel
abbrev cX1_init : ByteArray := prog_2_method_1_code
def yX1_init : MethodName := ⟨RX1, "<init>", "(IIZ)V"⟩
abbrev wX1_init : Cond := .code yX1_init cX1_init 4 none
abbrev wsX1_init : List Cond := wX1_init :: m_tbl
theorem kX1_init : [wX1_init].all (fun w => decide (w ∈ lw_tbl) && goodWord w) = true := by decide +kernel
abbrev cX1_isOf : ByteArray := prog_2_method_2_code
def yX1_isOf : MethodName := ⟨RX1, "isOf", "(II)Z"⟩
abbrev wX1_isOf : Cond := .code yX1_isOf cX1_isOf 3 (some .boolean)
abbrev wsX1_isOf : List Cond := wX1_isOf :: m_tbl
theorem kX1_isOf : [wX1_isOf].all (fun w => decide (w ∈ lw_tbl) && goodWord w) = true := by decide +kernel
abbrev cX2_init : ByteArray := prog_3_method_1_code
def yX2_init : MethodName := ⟨RX2, "<init>", "(ILRuleHouse2$RuleClass;)V"⟩
abbrev wX2_init : Cond := .code yX2_init cX2_init 3 none
abbrev wsX2_init : List Cond := wX2_init :: m_tbl
theorem kX2_init : [wX2_init].all (fun w => decide (w ∈ lw_tbl) && goodWord w) = true := by decide +kernel
abbrev cX2_give : ByteArray := prog_3_method_2_code
def yX2_give : MethodName := ⟨RX2, "give", "(II)V"⟩
abbrev wX2_give : Cond := .code yX2_give cX2_give 3 none
abbrev wsX2_give : List Cond := wX2_give :: m_tbl
theorem kX2_give : [wX2_give].all (fun w => decide (w ∈ lw_tbl) && goodWord w) = true := by decide +kernel
abbrev cX2_fail : ByteArray := prog_3_method_3_code
def yX2_fail : MethodName := ⟨RX2, "fail", "(III)V"⟩
abbrev wX2_fail : Cond := .code yX2_fail cX2_fail 5 none
abbrev wsX2_fail : List Cond := wX2_fail :: m_tbl
theorem kX2_fail : [wX2_fail].all (fun w => decide (w ∈ lw_tbl) && goodWord w) = true := by decide +kernel
abbrev cL_cell : ByteArray := method_2_code
def yL_cell : MethodName := ⟨RL, "cell", "([II)I"⟩
abbrev wL_cell : Cond := .code yL_cell cL_cell 2 (some .int)
abbrev wsL_cell : List Cond := wL_cell :: m_tbl
theorem kL_cell : [wL_cell].all (fun w => decide (w ∈ lw_tbl) && goodWord w) = true := by decide +kernel
abbrev cL_divide : ByteArray := method_3_code
def yL_divide : MethodName := ⟨RL, "divide", "(LRuleHouse2;IJJ[J)I"⟩
abbrev wL_divide : Cond := .codeWith yL_divide cL_divide 8 (some .int) [(0, 12, 15, 13)]
abbrev wsL_divide : List Cond := wL_divide :: m_tbl
abbrev cL_handle : ByteArray := method_4_code
def yL_handle : MethodName := ⟨RL, "handle", "(LRuleHouse2;I[J)I"⟩
abbrev wL_handle : Cond := .codeWith yL_handle cL_handle 4 (some .int) [(0, 9, 12, 19)]
abbrev wsL_handle : List Cond := wL_handle :: m_tbl
end
