section
-- ===== PART A: goes FIRST, ahead of the names: the tables' words, and 'selects' of the private methods out of them =====
/-- a private method of a class that the tables say can be made, by its rows of tables_1 -/
def lw_okq (q : MethodName × Nat) : Prop := (q.1.cls ≠ "java/lang/invoke/MethodHandle" ∧ q.1.cls ≠ "java/lang/invoke/VarHandle") ∧ Cond.instantiable q.1.cls q.2 ∈ tables_1 ∧ Cond.privateMethod q.1 ∈ tables_1 ∧ Cond.instanceMethod q.1 ∈ tables_1
theorem lw_p0 : lw_okq (⟨"RuleHouse2", "findClass", "(II)LRuleHouse2$RuleClass;"⟩, 10) := ⟨⟨by decide +kernel, by decide +kernel⟩, List.mem_of_getElem? (i := 12) (by decide +kernel), List.mem_of_getElem? (i := 70) (by decide +kernel), List.mem_of_getElem? (i := 71) (by decide +kernel)⟩
theorem lw_p1 : lw_okq (⟨"RuleHouse2", "classAt", "(I)LRuleHouse2$RuleClass;"⟩, 10) := ⟨⟨by decide +kernel, by decide +kernel⟩, List.mem_of_getElem? (i := 12) (by decide +kernel), List.mem_of_getElem? (i := 74) (by decide +kernel), List.mem_of_getElem? (i := 75) (by decide +kernel)⟩
theorem lw_p2 : lw_okq (⟨"RuleHouse2", "ensureMade", "(LRuleHouse2$RuleClass;)Z"⟩, 10) := ⟨⟨by decide +kernel, by decide +kernel⟩, List.mem_of_getElem? (i := 12) (by decide +kernel), List.mem_of_getElem? (i := 116) (by decide +kernel), List.mem_of_getElem? (i := 117) (by decide +kernel)⟩
theorem lw_p3 : lw_okq (⟨"RuleHouse2", "targetAt", "(I)LRuleHouse2$Target;"⟩, 10) := ⟨⟨by decide +kernel, by decide +kernel⟩, List.mem_of_getElem? (i := 12) (by decide +kernel), List.mem_of_getElem? (i := 124) (by decide +kernel), List.mem_of_getElem? (i := 125) (by decide +kernel)⟩
theorem lw_p4 : lw_okq (⟨"RuleHouse2", "runOnce", "(LRuleHouse2$Target;I)V"⟩, 10) := ⟨⟨by decide +kernel, by decide +kernel⟩, List.mem_of_getElem? (i := 12) (by decide +kernel), List.mem_of_getElem? (i := 194) (by decide +kernel), List.mem_of_getElem? (i := 195) (by decide +kernel)⟩
theorem lw_p5 : lw_okq (⟨"RuleHouse2", "doBits", "(LRuleHouse2$Target;LRuleHouse2$Target;)V"⟩, 10) := ⟨⟨by decide +kernel, by decide +kernel⟩, List.mem_of_getElem? (i := 12) (by decide +kernel), List.mem_of_getElem? (i := 202) (by decide +kernel), List.mem_of_getElem? (i := 203) (by decide +kernel)⟩
theorem lw_p6 : lw_okq (⟨"RuleHouse2", "takesStep", "(LRuleHouse2$Target;)Z"⟩, 10) := ⟨⟨by decide +kernel, by decide +kernel⟩, List.mem_of_getElem? (i := 12) (by decide +kernel), List.mem_of_getElem? (i := 206) (by decide +kernel), List.mem_of_getElem? (i := 207) (by decide +kernel)⟩
theorem lw_p7 : lw_okq (⟨"RuleHouse2", "doBit", "(LRuleHouse2$Target;LRuleHouse2$Target;I)I"⟩, 10) := ⟨⟨by decide +kernel, by decide +kernel⟩, List.mem_of_getElem? (i := 12) (by decide +kernel), List.mem_of_getElem? (i := 210) (by decide +kernel), List.mem_of_getElem? (i := 211) (by decide +kernel)⟩
theorem lw_p8 : lw_okq (⟨"RuleHouse2", "addActions", "(LRuleHouse2$Target;)I"⟩, 10) := ⟨⟨by decide +kernel, by decide +kernel⟩, List.mem_of_getElem? (i := 12) (by decide +kernel), List.mem_of_getElem? (i := 217) (by decide +kernel), List.mem_of_getElem? (i := 218) (by decide +kernel)⟩
theorem lw_p9 : lw_okq (⟨"RuleHouse2", "keepHandle", "()I"⟩, 10) := ⟨⟨by decide +kernel, by decide +kernel⟩, List.mem_of_getElem? (i := 12) (by decide +kernel), List.mem_of_getElem? (i := 237) (by decide +kernel), List.mem_of_getElem? (i := 238) (by decide +kernel)⟩
theorem lw_p10 : lw_okq (⟨"RuleHouse2", "digest", "(II)I"⟩, 10) := ⟨⟨by decide +kernel, by decide +kernel⟩, List.mem_of_getElem? (i := 12) (by decide +kernel), List.mem_of_getElem? (i := 245) (by decide +kernel), List.mem_of_getElem? (i := 246) (by decide +kernel)⟩
theorem lw_p11 : lw_okq (⟨"java/lang/Throwable", "fillInStackTrace", "(I)Ljava/lang/Throwable;"⟩, 6) := ⟨⟨by decide +kernel, by decide +kernel⟩, List.mem_of_getElem? (i := 314) (by decide +kernel), List.mem_of_getElem? (i := 312) (by decide +kernel), List.mem_of_getElem? (i := 313) (by decide +kernel)⟩
theorem lw_p12 : lw_okq (⟨"RuleHouse2Model", "isRule", "(I)Z"⟩, 25) := ⟨⟨by decide +kernel, by decide +kernel⟩, List.mem_of_getElem? (i := 368) (by decide +kernel), List.mem_of_getElem? (i := 464) (by decide +kernel), List.mem_of_getElem? (i := 465) (by decide +kernel)⟩
theorem lw_p13 : lw_okq (⟨"RuleHouse2Model", "classOf", "(I)I"⟩, 25) := ⟨⟨by decide +kernel, by decide +kernel⟩, List.mem_of_getElem? (i := 368) (by decide +kernel), List.mem_of_getElem? (i := 468) (by decide +kernel), List.mem_of_getElem? (i := 469) (by decide +kernel)⟩
theorem lw_p14 : lw_okq (⟨"RuleHouse2Model", "firstOf", "(I)I"⟩, 25) := ⟨⟨by decide +kernel, by decide +kernel⟩, List.mem_of_getElem? (i := 368) (by decide +kernel), List.mem_of_getElem? (i := 472) (by decide +kernel), List.mem_of_getElem? (i := 473) (by decide +kernel)⟩
theorem lw_p15 : lw_okq (⟨"RuleHouse2Model", "isTarget", "(I)Z"⟩, 25) := ⟨⟨by decide +kernel, by decide +kernel⟩, List.mem_of_getElem? (i := 368) (by decide +kernel), List.mem_of_getElem? (i := 501) (by decide +kernel), List.mem_of_getElem? (i := 502) (by decide +kernel)⟩
def lw_privs_1 : List (MethodName × Nat) := [(⟨"RuleHouse2", "findClass", "(II)LRuleHouse2$RuleClass;"⟩, 10), (⟨"RuleHouse2", "classAt", "(I)LRuleHouse2$RuleClass;"⟩, 10), (⟨"RuleHouse2", "ensureMade", "(LRuleHouse2$RuleClass;)Z"⟩, 10), (⟨"RuleHouse2", "targetAt", "(I)LRuleHouse2$Target;"⟩, 10), (⟨"RuleHouse2", "runOnce", "(LRuleHouse2$Target;I)V"⟩, 10), (⟨"RuleHouse2", "doBits", "(LRuleHouse2$Target;LRuleHouse2$Target;)V"⟩, 10), (⟨"RuleHouse2", "takesStep", "(LRuleHouse2$Target;)Z"⟩, 10), (⟨"RuleHouse2", "doBit", "(LRuleHouse2$Target;LRuleHouse2$Target;I)I"⟩, 10), (⟨"RuleHouse2", "addActions", "(LRuleHouse2$Target;)I"⟩, 10), (⟨"RuleHouse2", "keepHandle", "()I"⟩, 10), (⟨"RuleHouse2", "digest", "(II)I"⟩, 10), (⟨"java/lang/Throwable", "fillInStackTrace", "(I)Ljava/lang/Throwable;"⟩, 6), (⟨"RuleHouse2Model", "isRule", "(I)Z"⟩, 25), (⟨"RuleHouse2Model", "classOf", "(I)I"⟩, 25), (⟨"RuleHouse2Model", "firstOf", "(I)I"⟩, 25), (⟨"RuleHouse2Model", "isTarget", "(I)Z"⟩, 25)]
theorem lw_r1 : ∀ q ∈ lw_privs_1, lw_okq q := List.forall_mem_cons.mpr ⟨lw_p0, List.forall_mem_cons.mpr ⟨lw_p1, List.forall_mem_cons.mpr ⟨lw_p2, List.forall_mem_cons.mpr ⟨lw_p3, List.forall_mem_cons.mpr ⟨lw_p4, List.forall_mem_cons.mpr ⟨lw_p5, List.forall_mem_cons.mpr ⟨lw_p6, List.forall_mem_cons.mpr ⟨lw_p7, List.forall_mem_cons.mpr ⟨lw_p8, List.forall_mem_cons.mpr ⟨lw_p9, List.forall_mem_cons.mpr ⟨lw_p10, List.forall_mem_cons.mpr ⟨lw_p11, List.forall_mem_cons.mpr ⟨lw_p12, List.forall_mem_cons.mpr ⟨lw_p13, List.forall_mem_cons.mpr ⟨lw_p14, List.forall_mem_cons.mpr ⟨lw_p15, fun _ h => absurd h List.not_mem_nil⟩⟩⟩⟩⟩⟩⟩⟩⟩⟩⟩⟩⟩⟩⟩⟩
theorem lw_p16 : lw_okq (⟨"RuleHouse2Model", "runChain", "(I)V"⟩, 25) := ⟨⟨by decide +kernel, by decide +kernel⟩, List.mem_of_getElem? (i := 368) (by decide +kernel), List.mem_of_getElem? (i := 509) (by decide +kernel), List.mem_of_getElem? (i := 510) (by decide +kernel)⟩
theorem lw_p17 : lw_okq (⟨"RuleHouse2Model", "fail", "(IIII)V"⟩, 25) := ⟨⟨by decide +kernel, by decide +kernel⟩, List.mem_of_getElem? (i := 368) (by decide +kernel), List.mem_of_getElem? (i := 513) (by decide +kernel), List.mem_of_getElem? (i := 514) (by decide +kernel)⟩
theorem lw_p18 : lw_okq (⟨"RuleHouse2Model", "runOne", "(I)V"⟩, 25) := ⟨⟨by decide +kernel, by decide +kernel⟩, List.mem_of_getElem? (i := 368) (by decide +kernel), List.mem_of_getElem? (i := 517) (by decide +kernel), List.mem_of_getElem? (i := 518) (by decide +kernel)⟩
theorem lw_p19 : lw_okq (⟨"RuleHouse2Model", "step", "(I)Z"⟩, 25) := ⟨⟨by decide +kernel, by decide +kernel⟩, List.mem_of_getElem? (i := 368) (by decide +kernel), List.mem_of_getElem? (i := 521) (by decide +kernel), List.mem_of_getElem? (i := 522) (by decide +kernel)⟩
theorem lw_p20 : lw_okq (⟨"RuleHouse2Model", "deed", "(IIII)I"⟩, 25) := ⟨⟨by decide +kernel, by decide +kernel⟩, List.mem_of_getElem? (i := 368) (by decide +kernel), List.mem_of_getElem? (i := 525) (by decide +kernel), List.mem_of_getElem? (i := 526) (by decide +kernel)⟩
theorem lw_p21 : lw_okq (⟨"RuleHouse2Model", "act", "(II)I"⟩, 25) := ⟨⟨by decide +kernel, by decide +kernel⟩, List.mem_of_getElem? (i := 368) (by decide +kernel), List.mem_of_getElem? (i := 529) (by decide +kernel), List.mem_of_getElem? (i := 530) (by decide +kernel)⟩
theorem lw_p22 : lw_okq (⟨"RuleHouse2Model", "give", "(III)V"⟩, 25) := ⟨⟨by decide +kernel, by decide +kernel⟩, List.mem_of_getElem? (i := 368) (by decide +kernel), List.mem_of_getElem? (i := 533) (by decide +kernel), List.mem_of_getElem? (i := 534) (by decide +kernel)⟩
def lw_privs_2 : List (MethodName × Nat) := [(⟨"RuleHouse2Model", "runChain", "(I)V"⟩, 25), (⟨"RuleHouse2Model", "fail", "(IIII)V"⟩, 25), (⟨"RuleHouse2Model", "runOne", "(I)V"⟩, 25), (⟨"RuleHouse2Model", "step", "(I)Z"⟩, 25), (⟨"RuleHouse2Model", "deed", "(IIII)I"⟩, 25), (⟨"RuleHouse2Model", "act", "(II)I"⟩, 25), (⟨"RuleHouse2Model", "give", "(III)V"⟩, 25)]
theorem lw_r2 : ∀ q ∈ lw_privs_2, lw_okq q := List.forall_mem_cons.mpr ⟨lw_p16, List.forall_mem_cons.mpr ⟨lw_p17, List.forall_mem_cons.mpr ⟨lw_p18, List.forall_mem_cons.mpr ⟨lw_p19, List.forall_mem_cons.mpr ⟨lw_p20, List.forall_mem_cons.mpr ⟨lw_p21, List.forall_mem_cons.mpr ⟨lw_p22, fun _ h => absurd h List.not_mem_nil⟩⟩⟩⟩⟩⟩⟩
def lw_privs : List (MethodName × Nat) := lw_privs_1 ++ (lw_privs_2)
def lw_tbl : List Cond := k2_sels lw_privs ++ tables_1
theorem lw_privs_ok : ∀ q ∈ lw_privs, lw_okq q := by
  show ∀ q ∈ lw_privs_1 ++ (lw_privs_2), lw_okq q
  exact List.forall_mem_append.mpr ⟨lw_r1, lw_r2⟩
end
section
/-! ===== MY LAYER: one world for all cells: which kind of cell lies at an address, and what it holds ===== -/
/-- .inl c: an object of class number c; .inr (t, n): an array of n of the array type number t (t = 0: the script, never written) -/
abbrev MK : Type := Nat → Option (Nat ⊕ (Nat × Nat))
abbrev MM : Type := Nat → Nat → Value
/-- the heap's size, the kinds, the contents -/
abbrev MS : Type := Nat × MK × MM
def m_up (M : MM) (a k : Nat) (v : Value) : MM := fun b j => if b = a ∧ j = k then v else M b j
def m_row (M : MM) (a : Nat) (f : Nat → Value) : MM := fun b => if b = a then f else M b
def m_knew (K : MK) (a : Nat) (x : Nat ⊕ (Nat × Nat)) : MK := fun b => if b = a then some x else K b
def m_A (b : Nat) : Nat → Prop := fun q => b ≤ q
def mw_at (D : va_G) (cl : List vw_C) (tys : List (ClassId × FieldType)) (x : Nat ⊕ (Nat × Nat)) (a : Nat) (f : Nat → Value) (H : Heap) : Prop := match x with
  | .inl ci => ∃ r : vw_C, cl[ci]? = some r ∧ t_OB a (D.1 ci) r.2.2 (D.2 ci) H f
  | .inr q => ∃ r : ClassId × FieldType, tys[q.1]? = some r ∧ H[a]? = some (arrV r.1 q.2 f)
def mw (D : va_G) (cl : List vw_C) (tys : List (ClassId × FieldType)) (b : Nat) (st : MS) (H : Heap) : Prop := H.size = st.1 ∧ b ≤ st.1 ∧ (∀ (a : Nat) (x : Nat ⊕ (Nat × Nat)), st.2.1 a = some x → ((∀ n, x ≠ .inr (0, n)) → b ≤ a) ∧ mw_at D cl tys x a (st.2.2 a) H) ∧ ∀ (a : Nat) (cell : Cell), b ≤ a → H[a]? = some cell → cell.vm.isStatics = false
theorem mw_at.kept {D : va_G} {cl : List vw_C} {tys : List (ClassId × FieldType)} {x : Nat ⊕ (Nat × Nat)} {a : Nat} {f : Nat → Value} {H H1 : Heap} (h : mw_at D cl tys x a f H) (hq : H1[a]? = H[a]?) : mw_at D cl tys x a f H1 := by
  cases x with
  | inl ci =>
    obtain ⟨r, h1, h2⟩ := h
    exact ⟨r, h1, h2.kept hq⟩
  | inr q =>
    obtain ⟨r, h1, h2⟩ := h
    exact ⟨r, h1, hq.trans h2⟩
theorem mw_at.lt {D : va_G} {cl : List vw_C} {tys : List (ClassId × FieldType)} {x : Nat ⊕ (Nat × Nat)} {a : Nat} {f : Nat → Value} {H : Heap} (h : mw_at D cl tys x a f H) : a < H.size := by
  cases x with
  | inl ci =>
    obtain ⟨r, h1, cell, h2, -⟩ := h
    exact (Array.getElem?_eq_some_iff.mp h2).1
  | inr q =>
    obtain ⟨r, h1, h2⟩ := h
    exact (Array.getElem?_eq_some_iff.mp h2).1
theorem mw_at.nost {D : va_G} {cl : List vw_C} {tys : List (ClassId × FieldType)} {x : Nat ⊕ (Nat × Nat)} {a : Nat} {f : Nat → Value} {H : Heap} {cell : Cell} (h : mw_at D cl tys x a f H) (hc : H[a]? = some cell) : cell.vm.isStatics = false := by
  cases x with
  | inl ci =>
    obtain ⟨r, h1, cell', h2, -, h3, -⟩ := h
    cases h2.symm.trans hc
    rw [h3]; rfl
  | inr q =>
    obtain ⟨r, h1, h2⟩ := h
    cases h2.symm.trans hc
    rfl
/-- one cell's contents change -/
theorem mw.set {D : va_G} {cl : List vw_C} {tys : List (ClassId × FieldType)} {b : Nat} {st : MS} {H H1 : Heap} {a k : Nat} {v : Value} {x : Nat ⊕ (Nat × Nat)} (h : mw D cl tys b st H) (hk : st.2.1 a = some x) (he : mw_at D cl tys x a (updV (st.2.2 a) k v) H1) (z : H1.size = H.size) (oq : ∀ q : Nat, q ≠ a → H1[q]? = H[q]?) : mw D cl tys b (st.1, st.2.1, m_up st.2.2 a k v) H1 := by
  obtain ⟨n, K, M⟩ := st
  refine ⟨z.trans h.1, h.2.1, fun c y hc => ⟨(h.2.2.1 c y hc).1, ?_⟩, fun c cell hbc hc => ?_⟩
  rotate_left
  · by_cases hca : c = a
    · subst hca
      exact he.nost hc
    · rw [oq c hca] at hc
      exact h.2.2.2 c cell hbc hc
  by_cases hca : c = a
  · subst hca
    have hxy : x = y := Option.some.inj (hk.symm.trans hc)
    subst hxy
    have e1 : (m_up M c k v) c = updV (M c) k v := by
      funext j
      simp [m_up, updV]
    show mw_at D cl tys x c ((m_up M c k v) c) H1
    rw [e1]
    exact he
  · have e1 : (m_up M a k v) c = M c := by
      funext j
      simp [m_up, hca]
    show mw_at D cl tys y c ((m_up M a k v) c) H1
    rw [e1]
    exact (h.2.2.1 c y hc).2.kept (oq c hca)
def m_mk (st : MS) (x : Nat ⊕ (Nat × Nat)) (f : Nat → Value) : MS := (st.1 + 1, m_knew st.2.1 st.1 x, m_row st.2.2 st.1 f)
/-- one cell more -/
theorem mw.push {D : va_G} {cl : List vw_C} {tys : List (ClassId × FieldType)} {b : Nat} {st : MS} {H H1 : Heap} {f : Nat → Value} {x : Nat ⊕ (Nat × Nat)} (h : mw D cl tys b st H) (he : mw_at D cl tys x st.1 f H1) (z : H1.size = st.1 + 1) (oq : ∀ q : Nat, q < st.1 → H1[q]? = H[q]?) : mw D cl tys b (m_mk st x f) H1 := by
  obtain ⟨n, K, M⟩ := st
  refine ⟨z, Nat.le_trans h.2.1 (Nat.le_succ n), fun c y hc => ?_, fun c cell hbc hc => ?_⟩
  rotate_left
  · by_cases hcn : c = n
    · subst hcn
      exact he.nost hc
    · have hlt : c < n + 1 := by
        have := (Array.getElem?_eq_some_iff.mp hc).1
        omega
      rw [oq c (by omega)] at hc
      exact h.2.2.2 c cell hbc hc
  by_cases hcn : c = n
  · subst hcn
    have hxy : x = y := by
      have : (some x) = some y := by simpa [m_mk, m_knew] using hc
      exact Option.some.inj this
    subst hxy
    refine ⟨fun _ => h.2.1, ?_⟩
    have e1 : (m_row M c f) c = f := by simp [m_row]
    show mw_at D cl tys x c ((m_row M c f) c) H1
    rw [e1]
    exact he
  · have hc' : K c = some y := by simpa [m_mk, m_knew, hcn] using hc
    have e1 : (m_row M n f) c = M c := by simp [m_row, hcn]
    refine ⟨(h.2.2.1 c y hc').1, ?_⟩
    show mw_at D cl tys y c ((m_row M n f) c) H1
    rw [e1]
    have hlt := (h.2.2.1 c y hc').2.lt
    have hn : H.size = n := h.1
    exact (h.2.2.1 c y hc').2.kept (oq c (by omega))
theorem va_S.put' {A : Nat → Prop} {H0 H H1 : Heap} {locs : List Loc} {a k : Nat} (h : va_S A H0 H locs) (z : H1.size = H.size) (oq : ∀ q : Nat, q ≠ a → H1[q]? = H[q]?) (ha : A a) : va_S A H0 H1 (locs ++ [⟨a, k⟩]) := h.put z oq ha
theorem m_Spush {b : Nat} {H0 H H1 : Heap} {locs : List Loc} (hS : va_S (m_A b) H0 H locs) (z1 : H1.size = H.size + 1) (o1 : ∀ q : Nat, q < H.size → H1[q]? = H[q]?) : va_S (m_A b) H0 H1 locs :=
  ⟨Nat.le_trans hS.1 (by omega), fun x h1 h2 => (o1 x (Nat.lt_of_lt_of_le h1 hS.1)).trans (hS.2.1 x h1 h2), hS.2.2⟩
-- typed reads and writes
def m_gI (st : MS) (ci a k : Nat) : Option Int32 := if st.2.1 a = some (.inl ci) then (match st.2.2 a k with | .int x => some x | _ => none) else none
def m_gL (st : MS) (ci a k : Nat) : Option Int64 := if st.2.1 a = some (.inl ci) then (match st.2.2 a k with | .long x => some x | _ => none) else none
def m_gR (st : MS) (ci a k : Nat) : Option (Option Nat) := if st.2.1 a = some (.inl ci) then (match st.2.2 a k with | .ref x => some (some x) | .null => some none | _ => none) else none
def m_p (st : MS) (ci a k : Nat) (v : Value) : Option MS := if st.2.1 a = some (.inl ci) then some (st.1, st.2.1, m_up st.2.2 a k v) else none
/-- the kind of array that lies at an address: its length -/
def m_ln (st : MS) (t a : Nat) : Option Nat := match st.2.1 a with | some (.inr q) => if q.1 = t then some q.2 else none | _ => none
def m_ix (st : MS) (t a : Nat) (i : Int32) : Option Nat := (m_ln st t a).bind fun n => if 0 ≤ i ∧ i.toNatClampNeg < n then some i.toNatClampNeg else none
def m_aI (st : MS) (t a : Nat) (i : Int32) : Option Int32 := (m_ix st t a i).bind fun j => (match st.2.2 a j with | .int x => some x | _ => none)
def m_aL (st : MS) (t a : Nat) (i : Int32) : Option Int64 := (m_ix st t a i).bind fun j => (match st.2.2 a j with | .long x => some x | _ => none)
def m_aR (st : MS) (t a : Nat) (i : Int32) : Option (Option Nat) := (m_ix st t a i).bind fun j => (match st.2.2 a j with | .ref x => some (some x) | .null => some none | _ => none)
def m_ap (st : MS) (t a : Nat) (i : Int32) (v : Value) : Option MS := (m_ix st t a i).bind fun j => some (st.1, st.2.1, m_up st.2.2 a j v)
theorem m_gI_s {st : MS} {ci a k : Nat} {x : Int32} (h : m_gI st ci a k = some x) : st.2.1 a = some (.inl ci) ∧ st.2.2 a k = .int x := by
  unfold m_gI at h
  split at h
  · rename_i h1
    refine ⟨h1, ?_⟩
    split at h <;> simp_all
  · cases h
theorem m_gL_s {st : MS} {ci a k : Nat} {x : Int64} (h : m_gL st ci a k = some x) : st.2.1 a = some (.inl ci) ∧ st.2.2 a k = .long x := by
  unfold m_gL at h
  split at h
  · rename_i h1
    refine ⟨h1, ?_⟩
    split at h <;> simp_all
  · cases h
theorem m_gR_s {st : MS} {ci a k : Nat} {x : Option Nat} (h : m_gR st ci a k = some x) : st.2.1 a = some (.inl ci) ∧ st.2.2 a k = va_rf x := by
  unfold m_gR at h
  split at h
  · rename_i h1
    refine ⟨h1, ?_⟩
    split at h
    · rename_i h2
      cases h
      rw [h2]; rfl
    · rename_i h2
      cases h
      rw [h2]; rfl
    · cases h
  · cases h
theorem m_bs {α β : Type} {x : Option α} {f : α → Option β} {y : β} (h : x.bind f = some y) : ∃ z, x = some z ∧ f z = some y := by
  cases x with
  | none => cases h
  | some z => exact ⟨z, rfl, h⟩
theorem m_ln_s {st : MS} {t a n : Nat} (h : m_ln st t a = some n) : st.2.1 a = some (.inr (t, n)) := by
  unfold m_ln at h
  split at h
  · rename_i q hq
    split at h
    · rename_i h1
      cases h
      rw [hq, ← h1]
    · cases h
  · cases h
theorem m_ix_s {st : MS} {t a j : Nat} {i : Int32} (h : m_ix st t a i = some j) : ∃ n, st.2.1 a = some (.inr (t, n)) ∧ vp_in i n ∧ i.toNatClampNeg = j := by
  obtain ⟨n, h1, h2⟩ := m_bs h
  split at h2
  · rename_i h3
    refine ⟨n, m_ln_s h1, ?_, Option.some.inj h2⟩
    rintro (h4 | h4)
    · exact absurd h3.1 (Int32.not_le.mpr h4)
    · exact absurd h3.2 (Nat.not_lt.mpr h4)
  · cases h2
theorem m_aI_s {st : MS} {t a : Nat} {i x : Int32} (h : m_aI st t a i = some x) : ∃ n, st.2.1 a = some (.inr (t, n)) ∧ vp_in i n ∧ st.2.2 a i.toNatClampNeg = .int x := by
  obtain ⟨j, h1, h2⟩ := m_bs h
  obtain ⟨n, h3, h4, h5⟩ := m_ix_s h1
  refine ⟨n, h3, h4, ?_⟩
  rw [h5]
  split at h2 <;> simp_all
theorem m_aL_s {st : MS} {t a : Nat} {i : Int32} {x : Int64} (h : m_aL st t a i = some x) : ∃ n, st.2.1 a = some (.inr (t, n)) ∧ vp_in i n ∧ st.2.2 a i.toNatClampNeg = .long x := by
  obtain ⟨j, h1, h2⟩ := m_bs h
  obtain ⟨n, h3, h4, h5⟩ := m_ix_s h1
  refine ⟨n, h3, h4, ?_⟩
  rw [h5]
  split at h2 <;> simp_all
theorem m_aR_s {st : MS} {t a : Nat} {i : Int32} {x : Option Nat} (h : m_aR st t a i = some x) : ∃ n, st.2.1 a = some (.inr (t, n)) ∧ vp_in i n ∧ st.2.2 a i.toNatClampNeg = va_rf x := by
  obtain ⟨j, h1, h2⟩ := m_bs h
  obtain ⟨n, h3, h4, h5⟩ := m_ix_s h1
  refine ⟨n, h3, h4, ?_⟩
  rw [h5]
  split at h2
  · rename_i h6
    cases h2
    rw [h6]; rfl
  · rename_i h6
    cases h2
    rw [h6]; rfl
  · cases h2
theorem m_p_s {st st' : MS} {ci a k : Nat} {v : Value} (h : m_p st ci a k v = some st') : st.2.1 a = some (.inl ci) ∧ st' = (st.1, st.2.1, m_up st.2.2 a k v) := by
  unfold m_p at h
  split at h
  · rename_i h1
    exact ⟨h1, (Option.some.inj h).symm⟩
  · cases h
theorem m_ap_s {st st' : MS} {t a : Nat} {i : Int32} {v : Value} (h : m_ap st t a i v = some st') : ∃ n, st.2.1 a = some (.inr (t, n)) ∧ vp_in i n ∧ st' = (st.1, st.2.1, m_up st.2.2 a i.toNatClampNeg v) := by
  obtain ⟨j, h1, h2⟩ := m_bs h
  obtain ⟨n, h3, h4, h5⟩ := m_ix_s h1
  exact ⟨n, h3, h4, by rw [h5]; exact (Option.some.inj h2).symm⟩
/-- a cell of class ci lies there -/
def m_is (st : MS) (ci a : Nat) : Option Unit := if st.2.1 a = some (.inl ci) then some () else none
theorem m_is_s {st : MS} {ci a : Nat} {u : Unit} (h : m_is st ci a = some u) : st.2.1 a = some (.inl ci) := by
  unfold m_is at h
  split at h
  · assumption
  · cases h
def m_z (x : Int32) : Option Int32 := if x = 0 ∨ x = 1 then some x else none
theorem m_z_s {x y : Int32} (h : m_z x = some y) : x = y ∧ narrow .boolean (.int x) = .int x ∧ fits .boolean (.int x) = true := by
  unfold m_z at h
  split at h
  · rename_i h1
    refine ⟨Option.some.inj h, ?_⟩
    rcases h1 with rfl | rfl <;> exact ⟨by decide, by decide⟩
  · cases h
def m_b {α β : Type} (x : Option (α × MS)) (f : α → MS → Option β) : Option β := match x with
  | some q => f q.1 q.2
  | none => none
theorem m_b_s {α β : Type} {x : Option (α × MS)} {f : α → MS → Option β} {y : β} (h : m_b x f = some y) : ∃ r st, x = some (r, st) ∧ f r st = some y := by
  cases x with
  | none => cases h
  | some q => exact ⟨q.1, q.2, rfl, h⟩
/-- a branch on null -/
def m_nn {β : Type} (r : Option Nat) (A : Option β) (B : Nat → Option β) : Option β := match r with
  | none => A
  | some a => B a
theorem m_t {β : Type} {c : Prop} [Decidable c] {t e : Option β} {y : β} (hc : c) (h : (if c then t else e) = some y) : t = some y := by
  rw [if_pos hc] at h; exact h
theorem m_f {β : Type} {c : Prop} [Decidable c] {t e : Option β} {y : β} (hc : ¬ c) (h : (if c then t else e) = some y) : e = some y := by
  rw [if_neg hc] at h; exact h
theorem m_rfc (r : Option Nat) : (va_rf r).category = 1 := by cases r <;> rfl
theorem m_rff (r : Option Nat) (C : String) : narrow (.object C) (va_rf r) = va_rf r ∧ fits (.object C) (va_rf r) = true := by cases r <;> exact ⟨rfl, rfl⟩
theorem m_rfa (r : Option Nat) (t : FieldType) : narrow (.array t) (va_rf r) = va_rf r ∧ fits (.array t) (va_rf r) = true := by cases r <;> exact ⟨rfl, rfl⟩
def m_nw {β : Type} (st : MS) (x : Nat ⊕ (Nat × Nat)) (f : Nat → Value) (k : Nat → MS → Option β) : Option β := k st.1 (m_mk st x f)
theorem m_nw_s {β : Type} {st : MS} {x : Nat ⊕ (Nat × Nat)} {f : Nat → Value} {k : Nat → MS → Option β} {y : β} (h : m_nw st x f k = some y) : ∃ a st1, (a = st.1 ∧ st1 = m_mk st x f) ∧ k a st1 = some y := ⟨_, _, ⟨rfl, rfl⟩, h⟩
theorem m_fin {α β : Type} {x r : α} {s t : β} (h : some (x, s) = some (r, t)) : x = r ∧ s = t := by
  cases h
  exact ⟨rfl, rfl⟩
theorem m_nn0 {β : Type} {A : Option β} {B : Nat → Option β} {y : β} (h : m_nn none A B = some y) : A = some y := h
theorem m_nn1 {β : Type} {a : Nat} {A : Option β} {B : Nat → Option β} {y : β} (h : m_nn (some a) A B = some y) : B a = some y := h
theorem m_catI (x : Int32) : (Value.int x).category = 1 := rfl
theorem m_catL (x : Int64) : (Value.long x).category = 2 := rfl
theorem m_catA (x : Nat) : (Value.ref x).category = 1 := rfl
end
section
section MROW
variable {p : Program} {l : Launch} {e : Env} {R : Room} {s : State} {m : MethodId} {args : Array Value} {below : List Frame} {meth : Method} {c : Code} {H : Heap} {locs : List Loc} {cells slots : Nat} {Q : State → Prop}
variable {cc : ByteArray} {pc nL b : Nat} {ls : Array Slot} {rest : List Value} {D : va_G} {cl : List vw_C} {tys : List (ClassId × FieldType)} {a : Nat} {H0 : Heap} {st st1 : MS} {Ts : List Cond} {own : String}
theorem m_get (S : CallFix p m c cc nL s args Ts own) {ref C : String} {T : u_T} {N ci index k : Nat} {v : Value} (hin : ∀ w ∈ u_ws C T N, w ∈ Ts) (hK : va_K D cl tys s) (hP : mw D cl tys b st H) (hop : st.2.1 a = some (.inl ci) ∧ st.2.2 a k = v) (hc : cl[ci]? = some (C, T, N)) (hkN : k < N) (hlink : (Cond.fieldLink own index ref (T k).2.1 (T k).2.2.1).before args s = true) (hsame : (T k).1 = ref) (hdg : decode cc pc = .ok (.getfield index, 3))
    (kk : W p l e R s m args below meth c H locs cells slots Q (F0 m (pc + 3) ls (v :: rest))) : W p l e R s m args below meth c H locs cells slots Q (F0 m pc ls (.ref a :: rest)) := by
  obtain ⟨hexec, hb, -, hown, hts⟩ := S
  obtain ⟨hk, hv⟩ := hop
  obtain ⟨r, h1, cell, q1, q2, q3, q4⟩ := (hP.2.2.1 a _ hk).2
  have hr : r = (C, T, N) := Option.some.inj (h1.symm.trans hc)
  subst hr
  obtain ⟨hS, hfc, kC, hkC, hkind⟩ := hK.1 ci _ hc
  obtain ⟨cf, kf, fi, f, hi, hsl⟩ := hS k hkN
  refine W.getf hexec hb hown hlink (by rw [← hsame]; exact hi) (u_facts hfc hkC (u_lays hts hin hkN) hi).1 q1 (by rw [q3]; exact fun h => by cases h) (v := v) ?_ rfl rfl hdg kk
  rw [hsl, q4 k hkN]
  exact congrArg some hv
theorem m_put (S : CallFix p m c cc nL s args Ts own) {ref C : String} {T : u_T} {N ci index k : Nat} {v : Value} (hin : ∀ w ∈ u_ws C T N, w ∈ Ts) (ty0 : Nat → FieldType) (hty : ∀ k, k < N → parseFieldDescriptor (T k).2.2.1 = some (ty0 k)) (hnm : ∀ a, a < N → ∀ b, b < N → a ≠ b → (T a).2.1 ≠ (T b).2.1) (hK : va_K D cl tys s) (hP : mw D cl tys b st H) (hS0 : va_S (m_A b) H0 H locs) (hop : m_p st ci a k v = some st1) (hc : cl[ci]? = some (C, T, N)) (hkN : k < N) (hlink : (Cond.fieldLink own index ref (T k).2.1 (T k).2.2.1).before args s = true) (hsame : (T k).1 = ref) (hfin : (T k).2.2.2 = false) {ty : FieldType} (hd : parseFieldDescriptor (T k).2.2.1 = some ty) (hn : narrow ty v = v) (hfit : fits ty v = true)
    (hdg : decode cc pc = .ok (.putfield index, 3)) (kk : ∀ (H1 : Heap) (locs1 : List Loc), mw D cl tys b st1 H1 → va_S (m_A b) H0 H1 locs1 → W p l e R s m args below meth c H1 locs1 cells slots Q (F0 m (pc + 3) ls rest)) : W p l e R s m args below meth c H locs cells slots Q (F0 m pc ls (v :: .ref a :: rest)) := by
  obtain ⟨hexec, hb, -, hown, hts⟩ := S
  obtain ⟨hk, rfl⟩ := m_p_s hop
  have hap := va_apart (own := own) hts hin ty0 hty hnm hK hc
  obtain ⟨r, h1, cell, q1, q2, q3, q4⟩ := (hP.2.2.1 a _ hk).2
  have hr : r = (C, T, N) := Option.some.inj (h1.symm.trans hc)
  subst hr
  obtain ⟨hS, hfc, kC, hkC, hkind⟩ := hK.1 ci _ hc
  obtain ⟨cf, kf, fi, f, hi, hsl⟩ := hS k hkN
  have hlay := hts _ (hin _ (u_in_lay hkN))
  unfold u_lay at hlay
  rw [if_neg (by rw [hfin]; decide)] at hlay
  have hst := (u_facts hfc hkC (u_lays hts hin hkN) hi).1
  have h6 := u_store hfc hkC hkind hlay hi hd hn hfit
  refine W.putK hexec hb (f := f) ⟨hown, hlink, ⟨_, _, _, by rw [← hsame]; exact hi⟩, hst⟩ (by rw [q2]; exact h6) q1 q3 (by rw [hsl]; exact k2_hasslot (q4 k hkN)) rfl rfl hdg fun H' e1 e2 e3 => ?_
  rw [hsl] at e1 ⊢
  exact kk H' _ (hP.set hk ⟨_, hc, ⟨_, e1, q2, q3, t_set q4 hap hkN v⟩⟩ e2 e3) (hS0.put e2 e3 ((hP.2.2.1 a _ hk).1 (fun _ h => by cases h)))
theorem m_putF (S : CallFix p m c cc nL s args Ts own) {ref C : String} {T : u_T} {N ci index k : Nat} {v : Value} (hin : ∀ w ∈ u_ws C T N, w ∈ Ts) (ty0 : Nat → FieldType) (hty : ∀ k, k < N → parseFieldDescriptor (T k).2.2.1 = some (ty0 k)) (hnm : ∀ a, a < N → ∀ b, b < N → a ≠ b → (T a).2.1 ≠ (T b).2.1) (hK : va_K D cl tys s) (hP : mw D cl tys b st H) (hS0 : va_S (m_A b) H0 H locs) (hop : m_p st ci a k v = some st1) (hc : cl[ci]? = some (C, T, N)) (hkN : k < N) (hlink : (Cond.fieldLink own index ref (T k).2.1 (T k).2.2.1).before args s = true) (hsame : (T k).1 = ref) (hfin : (T k).2.2.2 = true) (hin2 : meth.name = "<init>") (hdecl : (T k).1 = own) {ty : FieldType} (hd : parseFieldDescriptor (T k).2.2.1 = some ty) (hn : narrow ty v = v) (hfit : fits ty v = true)
    (hdg : decode cc pc = .ok (.putfield index, 3)) (kk : ∀ (H1 : Heap) (locs1 : List Loc), mw D cl tys b st1 H1 → va_S (m_A b) H0 H1 locs1 → W p l e R s m args below meth c H1 locs1 cells slots Q (F0 m (pc + 3) ls rest)) : W p l e R s m args below meth c H locs cells slots Q (F0 m pc ls (v :: .ref a :: rest)) := by
  obtain ⟨hexec, hb, -, hown, hts⟩ := S
  obtain ⟨hk, rfl⟩ := m_p_s hop
  have hap := va_apart (own := own) hts hin ty0 hty hnm hK hc
  obtain ⟨r, h1, cell, q1, q2, q3, q4⟩ := (hP.2.2.1 a _ hk).2
  have hr : r = (C, T, N) := Option.some.inj (h1.symm.trans hc)
  subst hr
  obtain ⟨hS, hfc, kC, hkC, hkind⟩ := hK.1 ci _ hc
  obtain ⟨cf, kf, fi, f, hi, hsl⟩ := hS k hkN
  have hlay := hts _ (hin _ (u_in_lay hkN))
  unfold u_lay at hlay
  rw [if_pos hfin] at hlay
  have hst := (u_facts hfc hkC (u_lays hts hin hkN) hi).1
  have hcf : m.cls = cf := by
    obtain ⟨_, _, c', _, _, _, -, -, hf', -, -, -, hown2, -⟩ := Cond.laysFinal_spec hlay
    have e1 : c' = cf := by have := hi.symm.trans hf'; simp at this; exact this.1.symm
    rw [hdecl] at hown2
    rw [← e1]; exact Option.some.inj (hown.symm.trans hown2)
  have h6 := u_fits hfc hkC hkind (Or.inr hlay) hi hd hn hfit
  refine W.putFinK hexec hb hown hlink (by rw [← hsame]; exact hi) hst hcf hin2 (by rw [q2]; exact h6) q1 q3 (by rw [hsl]; exact k2_hasslot (q4 k hkN)) rfl rfl hdg fun H' e1 e2 e3 => ?_
  rw [hsl] at e1 ⊢
  exact kk H' _ (hP.set hk ⟨_, hc, ⟨_, e1, q2, q3, t_set q4 hap hkN v⟩⟩ e2 e3) (hS0.put e2 e3 ((hP.2.2.1 a _ hk).1 (fun _ h => by cases h)))
theorem m_new (S : CallFix p m c cc nL s args Ts own) {C : String} {T : u_T} {N ci index : Nat} (hin : ∀ w ∈ u_ws C T N, w ∈ Ts) (ty : Nat → FieldType) (hty : ∀ k, k < N → parseFieldDescriptor (T k).2.2.1 = some (ty k)) (hcl : (Cond.classLink own index C).before args s = true) (hinst : (Cond.instantiable C N).before args s = true) (hini : (Cond.initialized C).before args s = true)
    (hK : va_K D cl tys s) (hP : mw D cl tys b st H) (hS : va_S (m_A b) H0 H locs) (hc : cl[ci]? = some (C, T, N)) {a1 : Nat} (hop : a1 = st.1 ∧ st1 = m_mk st (.inl ci) (fun j => defaultValue (ty j))) (hcells : cells + 1 ≤ R.cells) (hslots : slots + N ≤ R.slots) (hdg : decode cc pc = .ok (.new index, 3))
    (kk : ∀ H1 : Heap, mw D cl tys b st1 H1 → va_S (m_A b) H0 H1 locs →
      W p l e R s m args below meth c H1 locs (cells + 1) (slots + N) Q (F0 m (pc + 3) ls (.ref a1 :: rest))) : W p l e R s m args below meth c H locs cells slots Q (F0 m pc ls rest) := by
  obtain ⟨hexec, hb, -, hown, hts⟩ := S
  obtain ⟨rfl, rfl⟩ := hop
  have hKn := hK.1 ci _ hc
  have hn : H.size = st.1 := hP.1
  refine W.newcK hexec hb hown hcl hinst hini rfl hdg hcells hslots hKn.2.1 hn fun H1 kC hkC e1 z1 o1 => ?_
  exact kk H1 (hP.push ⟨_, hc, u_born ty hts hin hKn hkC e1 hty⟩ z1 o1) (m_Spush hS (by rw [hn]; exact z1) (by rw [hn]; exact o1))
theorem m_newa (S : CallFix p m c cc nL s args Ts own) {atype : ArrayType} (harr : (Cond.arrayClass (newarray.typeOf atype)).before args s = true) {ty : FieldType} (hty : newarray.typeOf atype = ty) (hK : va_K D cl tys s) (hP : mw D cl tys b st H) (hS : va_S (m_A b) H0 H locs) {t : Nat} {cA : ClassId} (ht : tys[t]? = some (cA, ty))
    {i : Int32} {N : Nat} (hi : ¬ i < 0) (hN : i.toNatClampNeg = N) (hbytes : N * componentBytes ty ≤ 536870912) (hcells : cells + 1 ≤ R.cells) (hslots : slots + N ≤ R.slots) {a1 : Nat} (hop : a1 = st.1 ∧ st1 = m_mk st (.inr (t, N)) (fun _ => defaultValue ty)) (hdg : decode cc pc = .ok (.newarray atype, 2))
    (kk : ∀ H1 : Heap, mw D cl tys b st1 H1 → va_S (m_A b) H0 H1 locs →
      W p l e R s m args below meth c H1 locs (cells + 1) (slots + N) Q (F0 m (pc + 2) ls (.ref a1 :: rest))) : W p l e R s m args below meth c H locs cells slots Q (F0 m pc ls (.int i :: rest)) := by
  obtain ⟨hexec, hb, -, hown, hts⟩ := S
  obtain ⟨rfl, rfl⟩ := hop
  subst hty
  have hn : H.size = st.1 := hP.1
  refine va_newaK hexec hb harr rfl hdg rfl hi hN hbytes hcells hslots hn fun H1 cB e1 z1 o1 hAr hNm => ?_
  have hRA := (hK.2 t _ ht).2
  have hcA : cB = cA := by
    have h2 : s.vm.findClass ("[" ++ (newarray.typeOf atype).toString) = some cA := by cases atype <;> exact hRA
    exact Option.some.inj (hNm.symm.trans h2)
  subst hcA
  exact kk H1 (hP.push ⟨_, ht, e1⟩ z1 o1) (m_Spush hS (by rw [hn]; exact z1) (by rw [hn]; exact o1))
theorem m_newq (S : CallFix p m c cc nL s args Ts own) {C : String} {index : Nat} (hclink : (Cond.classLink own index C).before args s = true) (hover : va_AO C s) (hK : va_K D cl tys s) (hP : mw D cl tys b st H) (hS : va_S (m_A b) H0 H locs) {t : Nat} {cA : ClassId} (ht : tys[t]? = some (cA, .object C))
    {i : Int32} {N : Nat} (hi : ¬ i < 0) (hN : i.toNatClampNeg = N) (hbytes : N * 4 ≤ 536870912) (hcells : cells + 1 ≤ R.cells) (hslots : slots + N ≤ R.slots) {a1 : Nat} (hop : a1 = st.1 ∧ st1 = m_mk st (.inr (t, N)) (fun _ => .null)) (hdg : decode cc pc = .ok (.anewarray index, 3))
    (kk : ∀ H1 : Heap, mw D cl tys b st1 H1 → va_S (m_A b) H0 H1 locs →
      W p l e R s m args below meth c H1 locs (cells + 1) (slots + N) Q (F0 m (pc + 3) ls (.ref a1 :: rest))) : W p l e R s m args below meth c H locs cells slots Q (F0 m pc ls (.int i :: rest)) := by
  obtain ⟨hexec, hb, -, hown, hts⟩ := S
  obtain ⟨rfl, rfl⟩ := hop
  subst hN
  have hn : H.size = st.1 := hP.1
  refine W.anew hexec hb hown hclink (va_AO.use hover) rfl hdg rfl hi hbytes hcells hslots fun cB kA comp f1 f2 f3 f4 => ?_
  generalize hH1 : H.push ({ cls := cB, slots := Array.replicate i.toNatClampNeg .null, vm := .none } : Cell) = H1
  have z1 : H1.size = H.size + 1 := by rw [← hH1, Array.size_push]
  have e1 : H1[H.size]? = some (arrV cB i.toNatClampNeg (fun _ => .null)) := by rw [← hH1, Array.getElem?_push_size, ← arrV_new]
  have o1 : ∀ q : Nat, q < H.size → H1[q]? = H[q]? := fun q hq => by rw [← hH1, Array.getElem?_push, if_neg (Nat.ne_of_lt hq)]
  obtain ⟨kA2, comp2, g1, g2, g3, g4⟩ := (hK.2 t _ ht).2
  have hcA : cB = cA := Option.some.inj (f1.symm.trans g4)
  subst hcA
  rw [hn] at z1 e1 o1
  have hg : W p l e R s m args below meth c H1 locs (cells + 1) (slots + i.toNatClampNeg) Q (F0 m (pc + 3) ls (.ref st.1 :: rest)) := kk H1 (hP.push ⟨_, ht, e1⟩ z1 o1) (m_Spush hS (by rw [hn]; exact z1) (by rw [hn]; exact o1))
  rw [← hn] at hg
  exact hg
theorem m_iald (S : CallFix p m c cc nL s args Ts own) (hK : va_K D cl tys s) (hP : mw D cl tys b st H) {t : Nat} {i : Int32} {v : Value} (hop : ∃ N, st.2.1 a = some (.inr (t, N)) ∧ vp_in i N ∧ st.2.2 a i.toNatClampNeg = v) {cA : ClassId} (ht : tys[t]? = some (cA, .int)) (hdg : decode cc pc = .ok (.iaload, 1))
    (kk : W p l e R s m args below meth c H locs cells slots Q (F0 m (pc + 1) ls (v :: rest))) : W p l e R s m args below meth c H locs cells slots Q (F0 m pc ls (.int i :: .ref a :: rest)) := by
  obtain ⟨hexec, hb, -, hown, hts⟩ := S
  obtain ⟨N, hk, hin, hv⟩ := hop
  obtain ⟨r, h1, h2⟩ := (hP.2.2.1 a _ hk).2
  have hr : r = (cA, .int) := Option.some.inj (h1.symm.trans ht)
  subst hr
  have hlt : i.toNatClampNeg < N := Nat.not_le.mp fun q => hin (Or.inr q)
  exact W.iald (v := v) hexec hb h2 ((hK.2 t _ ht).1 N (st.2.2 a)) (fun q => by cases q) (by show ¬ (i < 0 ∨ (arrV _ _ _).slots.size ≤ _); rw [arrV_size]; exact hin) (by show (arrV _ _ _).slots[_]? = _; rw [arrV_read _ _ hlt, hv]) rfl rfl hdg kk
theorem m_zald (S : CallFix p m c cc nL s args Ts own) (hK : va_K D cl tys s) (hP : mw D cl tys b st H) {t : Nat} {i : Int32} {v : Value} (hop : ∃ N, st.2.1 a = some (.inr (t, N)) ∧ vp_in i N ∧ st.2.2 a i.toNatClampNeg = v) {cA : ClassId} (ht : tys[t]? = some (cA, .boolean)) (hdg : decode cc pc = .ok (.baload, 1))
    (kk : W p l e R s m args below meth c H locs cells slots Q (F0 m (pc + 1) ls (v :: rest))) : W p l e R s m args below meth c H locs cells slots Q (F0 m pc ls (.int i :: .ref a :: rest)) := by
  obtain ⟨hexec, hb, -, hown, hts⟩ := S
  obtain ⟨N, hk, hin, hv⟩ := hop
  obtain ⟨r, h1, h2⟩ := (hP.2.2.1 a _ hk).2
  have hr : r = (cA, .boolean) := Option.some.inj (h1.symm.trans ht)
  subst hr
  have hlt : i.toNatClampNeg < N := Nat.not_le.mp fun q => hin (Or.inr q)
  exact W.zald (v := v) hexec hb h2 ((hK.2 t _ ht).1 N (st.2.2 a)) (fun q => by cases q) (by show ¬ (i < 0 ∨ (arrV _ _ _).slots.size ≤ _); rw [arrV_size]; exact hin) (by show (arrV _ _ _).slots[_]? = _; rw [arrV_read _ _ hlt, hv]) rfl rfl hdg kk
theorem m_lald (S : CallFix p m c cc nL s args Ts own) (hK : va_K D cl tys s) (hP : mw D cl tys b st H) {t : Nat} {i : Int32} {v : Value} (hop : ∃ N, st.2.1 a = some (.inr (t, N)) ∧ vp_in i N ∧ st.2.2 a i.toNatClampNeg = v) {cA : ClassId} (ht : tys[t]? = some (cA, .long)) (hdg : decode cc pc = .ok (.laload, 1))
    (kk : W p l e R s m args below meth c H locs cells slots Q (F0 m (pc + 1) ls (v :: rest))) : W p l e R s m args below meth c H locs cells slots Q (F0 m pc ls (.int i :: .ref a :: rest)) := by
  obtain ⟨hexec, hb, -, hown, hts⟩ := S
  obtain ⟨N, hk, hin, hv⟩ := hop
  obtain ⟨r, h1, h2⟩ := (hP.2.2.1 a _ hk).2
  have hr : r = (cA, .long) := Option.some.inj (h1.symm.trans ht)
  subst hr
  have hlt : i.toNatClampNeg < N := Nat.not_le.mp fun q => hin (Or.inr q)
  exact W.lald (v := v) hexec hb h2 ((hK.2 t _ ht).1 N (st.2.2 a)) (fun q => by cases q) (by show ¬ (i < 0 ∨ (arrV _ _ _).slots.size ≤ _); rw [arrV_size]; exact hin) (by show (arrV _ _ _).slots[_]? = _; rw [arrV_read _ _ hlt, hv]) rfl rfl hdg kk
theorem m_aald (S : CallFix p m c cc nL s args Ts own) (hK : va_K D cl tys s) (hP : mw D cl tys b st H) {t : Nat} {i : Int32} {v : Value} (hop : ∃ N, st.2.1 a = some (.inr (t, N)) ∧ vp_in i N ∧ st.2.2 a i.toNatClampNeg = v) {cA : ClassId} {C : String} (ht : tys[t]? = some (cA, .object C)) (hdg : decode cc pc = .ok (.aaload, 1))
    (kk : W p l e R s m args below meth c H locs cells slots Q (F0 m (pc + 1) ls (v :: rest))) : W p l e R s m args below meth c H locs cells slots Q (F0 m pc ls (.int i :: .ref a :: rest)) := by
  obtain ⟨hexec, hb, -, hown, hts⟩ := S
  obtain ⟨N, hk, hin, hv⟩ := hop
  obtain ⟨r, h1, h2⟩ := (hP.2.2.1 a _ hk).2
  have hr : r = (cA, .object C) := Option.some.inj (h1.symm.trans ht)
  subst hr
  have hlt : i.toNatClampNeg < N := Nat.not_le.mp fun q => hin (Or.inr q)
  exact W.aald (v := v) (ty := .object C) hexec hb h2 ((hK.2 t _ ht).1 N (st.2.2 a)) rfl (fun q => by cases q) (by show ¬ (i < 0 ∨ (arrV _ _ _).slots.size ≤ _); rw [arrV_size]; exact hin) (by show (arrV _ _ _).slots[_]? = _; rw [arrV_read _ _ hlt, hv]) rfl rfl hdg kk
theorem m_alen (S : CallFix p m c cc nL s args Ts own) (hK : va_K D cl tys s) (hP : mw D cl tys b st H) {t N : Nat} (hk : st.2.1 a = some (.inr (t, N))) {cA : ClassId} {ty : FieldType} (ht : tys[t]? = some (cA, ty)) (hdg : decode cc pc = .ok (.arraylength, 1))
    (kk : W p l e R s m args below meth c H locs cells slots Q (F0 m (pc + 1) ls (.int (nI N) :: rest))) : W p l e R s m args below meth c H locs cells slots Q (F0 m pc ls (.ref a :: rest)) := by
  obtain ⟨hexec, hb, -, hown, hts⟩ := S
  obtain ⟨r, h1, h2⟩ := (hP.2.2.1 a _ hk).2
  have hr : r = (cA, ty) := Option.some.inj (h1.symm.trans ht)
  subst hr
  exact W.alen (n := nI N) hexec hb h2 ((hK.2 t _ ht).1 N (st.2.2 a)) (by rw [arrV_size] <;> rfl) rfl rfl hdg kk
theorem m_iast (S : CallFix p m c cc nL s args Ts own) (hK : va_K D cl tys s) (hP : mw D cl tys b st H) (hS : va_S (m_A b) H0 H locs) {t : Nat} {i x : Int32} (hop : m_ap st t a i (.int x) = some st1) (ht0 : t ≠ 0) {cA : ClassId} (ht : tys[t]? = some (cA, .int)) (hdg : decode cc pc = .ok (.iastore, 1))
    (kk : ∀ (H1 : Heap) (locs1 : List Loc), mw D cl tys b st1 H1 → va_S (m_A b) H0 H1 locs1 → W p l e R s m args below meth c H1 locs1 cells slots Q (F0 m (pc + 1) ls rest)) : W p l e R s m args below meth c H locs cells slots Q (F0 m pc ls (.int x :: .int i :: .ref a :: rest)) := by
  obtain ⟨hexec, hb, -, hown, hts⟩ := S
  obtain ⟨N, hk, hin, rfl⟩ := m_ap_s hop
  obtain ⟨r, h1, h2⟩ := (hP.2.2.1 a _ hk).2
  have hr : r = (cA, .int) := Option.some.inj (h1.symm.trans ht)
  subst hr
  refine W.iast hexec hb h2 ((hK.2 t _ ht).1 N (st.2.2 a)) (fun q => by cases q) (by show ¬ (i < 0 ∨ (arrV _ _ _).slots.size ≤ _); rw [arrV_size]; exact hin) rfl rfl hdg fun H1 e1 z oq => ?_
  refine kk H1 _ (hP.set hk ⟨_, ht, ?_⟩ z oq) (hS.put z oq ((hP.2.2.1 a _ hk).1 (fun k h => by cases h; exact ht0 rfl)))
  rw [e1, arrV_store]
theorem m_last (S : CallFix p m c cc nL s args Ts own) (hK : va_K D cl tys s) (hP : mw D cl tys b st H) (hS : va_S (m_A b) H0 H locs) {t : Nat} {i : Int32} {x : Int64} (hop : m_ap st t a i (.long x) = some st1) (ht0 : t ≠ 0) {cA : ClassId} (ht : tys[t]? = some (cA, .long)) (hdg : decode cc pc = .ok (.lastore, 1))
    (kk : ∀ (H1 : Heap) (locs1 : List Loc), mw D cl tys b st1 H1 → va_S (m_A b) H0 H1 locs1 → W p l e R s m args below meth c H1 locs1 cells slots Q (F0 m (pc + 1) ls rest)) : W p l e R s m args below meth c H locs cells slots Q (F0 m pc ls (.long x :: .int i :: .ref a :: rest)) := by
  obtain ⟨hexec, hb, -, hown, hts⟩ := S
  obtain ⟨N, hk, hin, rfl⟩ := m_ap_s hop
  obtain ⟨r, h1, h2⟩ := (hP.2.2.1 a _ hk).2
  have hr : r = (cA, .long) := Option.some.inj (h1.symm.trans ht)
  subst hr
  refine W.last hexec hb h2 ((hK.2 t _ ht).1 N (st.2.2 a)) (fun q => by cases q) (by show ¬ (i < 0 ∨ (arrV _ _ _).slots.size ≤ _); rw [arrV_size]; exact hin) rfl rfl hdg fun H1 e1 z oq => ?_
  refine kk H1 _ (hP.set hk ⟨_, ht, ?_⟩ z oq) (hS.put z oq ((hP.2.2.1 a _ hk).1 (fun k h => by cases h; exact ht0 rfl)))
  rw [e1, arrV_store]
theorem m_zast (S : CallFix p m c cc nL s args Ts own) (hK : va_K D cl tys s) (hP : mw D cl tys b st H) (hS : va_S (m_A b) H0 H locs) {t : Nat} {i x : Int32} (hop : m_ap st t a i (.int x) = some st1) (ht0 : t ≠ 0) {cA : ClassId} (ht : tys[t]? = some (cA, .boolean)) (hx : narrow .boolean (.int x) = .int x) (hdg : decode cc pc = .ok (.bastore, 1))
    (kk : ∀ (H1 : Heap) (locs1 : List Loc), mw D cl tys b st1 H1 → va_S (m_A b) H0 H1 locs1 → W p l e R s m args below meth c H1 locs1 cells slots Q (F0 m (pc + 1) ls rest)) : W p l e R s m args below meth c H locs cells slots Q (F0 m pc ls (.int x :: .int i :: .ref a :: rest)) := by
  obtain ⟨hexec, hb, -, hown, hts⟩ := S
  obtain ⟨N, hk, hin, rfl⟩ := m_ap_s hop
  obtain ⟨r, h1, h2⟩ := (hP.2.2.1 a _ hk).2
  have hr : r = (cA, .boolean) := Option.some.inj (h1.symm.trans ht)
  subst hr
  refine W.zast hexec hb h2 ((hK.2 t _ ht).1 N (st.2.2 a)) (fun q => by cases q) (by show ¬ (i < 0 ∨ (arrV _ _ _).slots.size ≤ _); rw [arrV_size]; exact hin) rfl rfl hdg fun H1 e1 z oq => ?_
  refine kk H1 _ (hP.set hk ⟨_, ht, ?_⟩ z oq) (hS.put z oq ((hP.2.2.1 a _ hk).1 (fun k h => by cases h; exact ht0 rfl)))
  rw [e1, hx, arrV_store]
/-- an object of class ci goes into an array of its class -/
theorem m_aast (S : CallFix p m c cc nL s args Ts own) (hK : va_K D cl tys s) (hP : mw D cl tys b st H) (hS : va_S (m_A b) H0 H locs) {t ci v : Nat} {i : Int32} {r0 : vw_C} (hop : m_ap st t a i (.ref v) = some st1) (ht0 : t ≠ 0) (hv : st.2.1 v = some (.inl ci)) (hc : cl[ci]? = some r0) {cA : ClassId} (ht : tys[t]? = some (cA, .object r0.1)) (hdg : decode cc pc = .ok (.aastore, 1))
    (kk : ∀ (H1 : Heap) (locs1 : List Loc), mw D cl tys b st1 H1 → va_S (m_A b) H0 H1 locs1 → W p l e R s m args below meth c H1 locs1 cells slots Q (F0 m (pc + 1) ls rest)) : W p l e R s m args below meth c H locs cells slots Q (F0 m pc ls (.ref v :: .int i :: .ref a :: rest)) := by
  obtain ⟨hexec, hb, -, hown, hts⟩ := S
  obtain ⟨N, hk, hin, rfl⟩ := m_ap_s hop
  obtain ⟨r, h1, h2⟩ := (hP.2.2.1 a _ hk).2
  have hr : r = (cA, .object r0.1) := Option.some.inj (h1.symm.trans ht)
  subst hr
  have hlt : i.toNatClampNeg < N := Nat.not_le.mp fun q => hin (Or.inr q)
  have h0 : ¬ i < 0 := fun q => hin (Or.inl q)
  obtain ⟨r', hr', cellV, g1, g2, g3, -⟩ := (hP.2.2.1 v _ hv).2
  have hcls := (hK.1 ci r0 hc).2
  obtain ⟨kA, comp, k1, k2, k3, -⟩ := (hK.2 t _ ht).2
  have hcomp : comp = D.1 ci := Option.some.inj (k3.symm.trans hcls.1)
  subst hcomp
  obtain ⟨kC, hkC, -⟩ := hcls.2
  refine W.aast hexec hb h2 (fun q h => by cases h) (fun h => by cases h) k1 k2 rfl hkC ⟨h0, by show _ < (arrV _ _ _).slots.size; rw [arrV_size]; exact hlt⟩ g1 (fun q h => by rw [g3] at h; cases h) (by rw [g2]; exact hkC) (by rw [g2]; exact va_assign hcls) rfl rfl hdg fun H1 e1 z oq => ?_
  refine kk H1 _ (hP.set hk ⟨_, ht, ?_⟩ z oq) (hS.put z oq ((hP.2.2.1 a _ hk).1 (fun k h => by cases h; exact ht0 rfl)))
  rw [e1, arrV_store]
theorem m_aload_n (hexec : p.tables.exec = Jvm.exec) (hb : c.code = cc) {k : Fin 4} {i : Nat} {r : Option Nat} (hdg : decode cc pc = .ok (.aload_n k, 1)) (hi : (k : Nat) = i) (hl : ls[i]? = some (.val (va_rf r)))
    (kk : W p l e R s m args below meth c H locs cells slots Q (F0 m (pc + 1) ls (va_rf r :: rest))) : W p l e R s m args below meth c H locs cells slots Q (F0 m pc ls rest) := by
  cases r with
  | none => exact lv_aload_nN hexec hb hdg hi hl kk
  | some x => exact lv_aload_n hexec hb hdg hi hl kk
theorem m_aload (hexec : p.tables.exec = Jvm.exec) (hb : c.code = cc) {i : Nat} {r : Option Nat} (hdg : decode cc pc = .ok (.aload i, 2)) (hl : ls[i]? = some (.val (va_rf r)))
    (kk : W p l e R s m args below meth c H locs cells slots Q (F0 m (pc + 2) ls (va_rf r :: rest))) : W p l e R s m args below meth c H locs cells slots Q (F0 m pc ls rest) := by
  cases r with
  | none => exact lv_aloadN hexec hb hdg hl kk
  | some x => exact lv_aload hexec hb hdg hl kk
theorem m_astore_n (hexec : p.tables.exec = Jvm.exec) (hb : c.code = cc) {k : Fin 4} {i nL : Nat} {r : Option Nat} {lv lv' : List (Nat × Value)} (hdg : decode cc pc = .ok (.astore_n k, 1)) (hi : (k : Nat) = i) (h : lv_has ls nL lv) (hn : i < nL) (hl : (i, va_rf r) :: lv.filter (fun q => !(q.1 == i) && !(q.1 + 1 == i && q.2.category == 2)) = lv')
    (kk : ∀ ls' : Array Slot, lv_has ls' nL lv' → W p l e R s m args below meth c H locs cells slots Q (F0 m (pc + 1) ls' rest)) : W p l e R s m args below meth c H locs cells slots Q (F0 m pc ls (va_rf r :: rest)) := by
  cases r with
  | none => exact lv_astore_nN hexec hb hdg hi h hn hl kk
  | some x => exact lv_astore_n hexec hb hdg hi h hn hl kk
theorem m_astore (hexec : p.tables.exec = Jvm.exec) (hb : c.code = cc) {i nL : Nat} {r : Option Nat} {lv lv' : List (Nat × Value)} (hdg : decode cc pc = .ok (.astore i, 2)) (h : lv_has ls nL lv) (hn : i < nL) (hl : (i, va_rf r) :: lv.filter (fun q => !(q.1 == i) && !(q.1 + 1 == i && q.2.category == 2)) = lv')
    (kk : ∀ ls' : Array Slot, lv_has ls' nL lv' → W p l e R s m args below meth c H locs cells slots Q (F0 m (pc + 2) ls' rest)) : W p l e R s m args below meth c H locs cells slots Q (F0 m pc ls (va_rf r :: rest)) := by
  cases r with
  | none => exact lv_astoreN hexec hb hdg h hn hl kk
  | some x => exact lv_astore hexec hb hdg h hn hl kk
end MROW
/-! contracts: from the world st the method answers v and leaves the world st' -/
def m_Pc (D : va_G) (cl : List vw_C) (tys : List (ClassId × FieldType)) (b : Nat) (st : MS) (as : List Value) : Array Value → State → Prop := fun v U => v = as.toArray ∧ mw D cl tys b st U.heap ∧ va_K D cl tys U
def m_Q (D : va_G) (cl : List vw_C) (tys : List (ClassId × FieldType)) (b : Nat) (v : Option Value) (st : MS) : Array Value → State → Outcome → State → Prop := fun _ s0 o t => o = .returned v ∧ (mw D cl tys b st t.heap ∧ va_K D cl tys t) ∧ va_F (m_A b) s0 t
theorem m_blind {D : va_G} {cl : List vw_C} {tys : List (ClassId × FieldType)} {b : Nat} {st : MS} {as : List Value} : FrameBlind (m_Pc D cl tys b st as) := fun a U g mk q => ⟨q.1, q.2.1, va_K.moved (u := U) (U := U.calling g mk a) (Vm.Alike.refl U.vm) q.2.2⟩
theorem m_preS {s : State} {H : Heap} {D : va_G} {cl : List vw_C} {tys : List (ClassId × FieldType)} {b : Nat} {st : MS} {as : List Value} (hK : va_K D cl tys s) (hP : mw D cl tys b st H) : PreS s H (m_Pc D cl tys b st as) as := ⟨m_blind, fun U hU hW => ⟨rfl, by rw [hU]; exact hP, va_K.moved hW.alike hK⟩⟩
theorem m_preV {s : State} {H : Heap} {D : va_G} {cl : List vw_C} {tys : List (ClassId × FieldType)} {b a ci : Nat} {st : MS} {as : List Value} {r0 : vw_C} (hK : va_K D cl tys s) (hP : mw D cl tys b st H) (hk : st.2.1 a = some (.inl ci)) (hc : cl[ci]? = some r0) : PreV s H r0.1 a (m_Pc D cl tys b st (.ref a :: as)) as := by
  refine ⟨m_blind, ?_, fun U hU hW => ⟨rfl, by rw [hU]; exact hP, va_K.moved hW.alike hK⟩⟩
  obtain ⟨r, h1, cell, g1, g2, g3, -⟩ := (hP.2.2.1 a _ hk).2
  have hr : r = r0 := Option.some.inj (h1.symm.trans hc)
  subst hr
  exact ⟨cell, g1, by rw [g3]; rfl, by rw [g2]; exact (hK.1 ci _ hc).2.1⟩
section MCALL
variable {p : Program} {l : Launch} {e : Env} {R : Room} {s : State} {m : MethodId} {args : Array Value} {below : List Frame} {meth : Method} {c : Code} {H : Heap} {locs : List Loc} {cells slots : Nat} {Q : State → Prop}
variable {pc : Nat} {ls : Array Slot} {rest st0 : List Value} {a : Array Value} {H0 : Heap} {mc ms : Nat} {D : va_G} {cl : List vw_C} {tys : List (ClassId × FieldType)} {b : Nat}
theorem m_call {v : Option Value} {st : MS} (hr : va_Run p l e R s m args below meth c H locs cells slots mc ms (F0 m pc ls st0) rest (m_Q D cl tys b v st a) (m_A b)) (hS : va_S (m_A b) H0 H locs)
    (kk : ∀ (H1 : Heap) (locs1 : List Loc), mw D cl tys b st H1 → va_S (m_A b) H0 H1 locs1 → W p l e R s m args below meth c H1 locs1 (cells + mc) (slots + ms) Q (F0 m (pc + 3) ls (v.toList ++ rest))) : W p l e R s m args below meth c H locs cells slots Q (F0 m pc ls st0) := by
  intro T hT X
  obtain ⟨v', st₀, t, T', L, h0, X', hL, e1, e2, ⟨hv, ⟨hm, hk'⟩, hz, hk⟩, st⟩ := hr T hT X
  cases hv
  rw [h0] at hz hk
  obtain ⟨t2, a1, b1⟩ := kk T'.heap (locs ++ L) (by rw [e1]; exact hm)
    ⟨Nat.le_trans hS.1 (by rw [e1]; exact hz), fun q h1 h2 => by rw [e1, hk q (Nat.lt_of_lt_of_le h1 hS.1) h2]; exact hS.2.1 q h1 h2, fun q hq => by
      rcases List.mem_append.mp hq with h | h
      · exact hS.2.2 q h
      · exact hL q h⟩ T' rfl X'
  exact ⟨t2, st t2 a1, b1⟩
theorem m_calli {v : Int32} {st : MS} (hr : va_Run p l e R s m args below meth c H locs cells slots mc ms (F0 m pc ls st0) rest (m_Q D cl tys b (some (.int v)) st a) (m_A b)) (hS : va_S (m_A b) H0 H locs)
    (kk : ∀ (H1 : Heap) (locs1 : List Loc), mw D cl tys b st H1 → va_S (m_A b) H0 H1 locs1 → W p l e R s m args below meth c H1 locs1 (cells + mc) (slots + ms) Q (F0 m (pc + 3) ls (.int v :: rest))) : W p l e R s m args below meth c H locs cells slots Q (F0 m pc ls st0) := m_call hr hS kk
theorem m_calll {v : Int64} {st : MS} (hr : va_Run p l e R s m args below meth c H locs cells slots mc ms (F0 m pc ls st0) rest (m_Q D cl tys b (some (.long v)) st a) (m_A b)) (hS : va_S (m_A b) H0 H locs)
    (kk : ∀ (H1 : Heap) (locs1 : List Loc), mw D cl tys b st H1 → va_S (m_A b) H0 H1 locs1 → W p l e R s m args below meth c H1 locs1 (cells + mc) (slots + ms) Q (F0 m (pc + 3) ls (.long v :: rest))) : W p l e R s m args below meth c H locs cells slots Q (F0 m pc ls st0) := m_call hr hS kk
theorem m_callr {v : Option Nat} {st : MS} (hr : va_Run p l e R s m args below meth c H locs cells slots mc ms (F0 m pc ls st0) rest (m_Q D cl tys b (some (va_rf v)) st a) (m_A b)) (hS : va_S (m_A b) H0 H locs)
    (kk : ∀ (H1 : Heap) (locs1 : List Loc), mw D cl tys b st H1 → va_S (m_A b) H0 H1 locs1 → W p l e R s m args below meth c H1 locs1 (cells + mc) (slots + ms) Q (F0 m (pc + 3) ls (va_rf v :: rest))) : W p l e R s m args below meth c H locs cells slots Q (F0 m pc ls st0) := m_call hr hS kk
theorem m_callv {st : MS} (hr : va_Run p l e R s m args below meth c H locs cells slots mc ms (F0 m pc ls st0) rest (m_Q D cl tys b none st a) (m_A b)) (hS : va_S (m_A b) H0 H locs)
    (kk : ∀ (H1 : Heap) (locs1 : List Loc), mw D cl tys b st H1 → va_S (m_A b) H0 H1 locs1 → W p l e R s m args below meth c H1 locs1 (cells + mc) (slots + ms) Q (F0 m (pc + 3) ls rest)) : W p l e R s m args below meth c H locs cells slots Q (F0 m pc ls st0) := m_call hr hS kk
end MCALL
/-- a contract out of the walk of the body -/
theorem m_met {l : Launch} {y : MethodName} {ws ws' : List Cond} {rm : Room} {mc ms : Nat} {cc : ByteArray} {maxL : Nat} {ret : Option FieldType} {D : va_G} {cl : List vw_C} {tys : List (ClassId × FieldType)} {b : Nat} {st st' : MS} {as : List Value} {v : Option Value}
    (hy : plainName y.cls = true) (hw : ws = Cond.code y cc maxL ret :: ws') (hlen : (lg_sl as).length ≤ maxL)
    (body : ∀ (p : Program) (e : Env) (s : State) (m : MethodId) (below : List Frame) (meth : Method) (c : Code) (ls : Array Slot), CallFix p m c cc maxL s as.toArray ws y.cls → meth.sig.returnType = ret → meth.locks = false → meth.name = y.name → va_K D cl tys s → mw D cl tys b st s.heap → lv_has ls maxL (lv_args 0 as) → va_S (m_A b) s.heap s.heap [] →
      W p l e rm s m as.toArray below meth c s.heap [] 0 0 (MQ below (m_Q D cl tys b v st') as.toArray s mc ms (m_A b)) (F0 m 0 ls [])) : Met l y ws rm (m_Pc D cl tys b st as) (m_Q D cl tys b v st') mc ms (m_A b) := by
  refine Met.ofW (cc := cc) (maxL := maxL) (ret := ret) hy hw ?_
  intro p e s m args below meth c s₁ B hml hv
  obtain ⟨rfl, hP, hK⟩ := hv
  have hts := atoms_spec (ws := ws) B.pre
  have hl := lv_entry as (n := maxL) hlen
  rw [lg_entry_eq]
  exact body p e s m below meth c _ ⟨B.exec, B.bytes, hml, findClass_of_methodNamed B.named, hts⟩ B.returns B.notSynchronized (name_of_methodNamed B.named B.method).1 hK hP hl va_S.rf
section MRET
variable {p : Program} {l : Launch} {e : Env} {R : Room} {s : State} {m : MethodId} {args : Array Value} {below : List Frame} {meth : Method} {c : Code} {H : Heap} {locs : List Loc} {cells slots : Nat}
variable {cc : ByteArray} {pc nL b mc ms : Nat} {ls : Array Slot} {D : va_G} {cl : List vw_C} {tys : List (ClassId × FieldType)} {st : MS} {Ts : List Cond} {own : String}
theorem m_iret (S : CallFix p m c cc nL s args Ts own) (hr : meth.sig.returnType = some .int) (hlk : meth.locks = false) (hK : va_K D cl tys s) (hP : mw D cl tys b st H) (hS : va_S (m_A b) s.heap H locs) {v : Int32} (hc : cells ≤ mc) (hs : slots ≤ ms) (hdg : decode cc pc = .ok (.ireturn, 1)) :
    W p l e R s m args below meth c H locs cells slots (MQ below (m_Q D cl tys b (some (.int v)) st) args s mc ms (m_A b)) (F0 m pc ls [.int v]) :=
  W.widen hc hs (W.iret S.1 S.2.1 hr (fun t ht hW => ⟨rfl, ⟨by rw [ht]; exact hP, va_K.moved hW.alike hK⟩, hS.F ht⟩) hS.2.2 hdg)
theorem m_zret (S : CallFix p m c cc nL s args Ts own) (hr : meth.sig.returnType = some .boolean) (hlk : meth.locks = false) (hK : va_K D cl tys s) (hP : mw D cl tys b st H) (hS : va_S (m_A b) s.heap H locs) {v : Int32} (hv : narrow .boolean (.int v) = .int v) (hc : cells ≤ mc) (hs : slots ≤ ms) (hdg : decode cc pc = .ok (.ireturn, 1)) :
    W p l e R s m args below meth c H locs cells slots (MQ below (m_Q D cl tys b (some (.int v)) st) args s mc ms (m_A b)) (F0 m pc ls [.int v]) :=
  W.widen hc hs (W.zret S.1 S.2.1 hr hv (fun t ht hW => ⟨rfl, ⟨by rw [ht]; exact hP, va_K.moved hW.alike hK⟩, hS.F ht⟩) hS.2.2 hdg)
theorem m_lret (S : CallFix p m c cc nL s args Ts own) (hr : meth.sig.returnType = some .long) (hlk : meth.locks = false) (hK : va_K D cl tys s) (hP : mw D cl tys b st H) (hS : va_S (m_A b) s.heap H locs) {v : Int64} (hc : cells ≤ mc) (hs : slots ≤ ms) (hdg : decode cc pc = .ok (.lreturn, 1)) :
    W p l e R s m args below meth c H locs cells slots (MQ below (m_Q D cl tys b (some (.long v)) st) args s mc ms (m_A b)) (F0 m pc ls [.long v]) :=
  W.widen hc hs (W.lret S.1 S.2.1 hr (fun t ht hW => ⟨rfl, ⟨by rw [ht]; exact hP, va_K.moved hW.alike hK⟩, hS.F ht⟩) hS.2.2 hdg)
theorem m_vret (S : CallFix p m c cc nL s args Ts own) (hr : meth.sig.returnType = none) (hlk : meth.locks = false) (hK : va_K D cl tys s) (hP : mw D cl tys b st H) (hS : va_S (m_A b) s.heap H locs) (hc : cells ≤ mc) (hs : slots ≤ ms) (hdg : decode cc pc = .ok (.return_, 1)) :
    W p l e R s m args below meth c H locs cells slots (MQ below (m_Q D cl tys b none st) args s mc ms (m_A b)) (F0 m pc ls []) :=
  W.widen hc hs (W.vret S.1 S.2.1 hr (fun t ht hW => ⟨rfl, ⟨by rw [ht]; exact hP, va_K.moved hW.alike hK⟩, hS.F ht⟩) hS.2.2 hdg)
theorem m_aret (S : CallFix p m c cc nL s args Ts own) {C : String} (hr : meth.sig.returnType = some (.object C)) (hlk : meth.locks = false) (hK : va_K D cl tys s) (hP : mw D cl tys b st H) (hS : va_S (m_A b) s.heap H locs) {r : Option Nat} (hc : cells ≤ mc) (hs : slots ≤ ms) (hdg : decode cc pc = .ok (.areturn, 1)) :
    W p l e R s m args below meth c H locs cells slots (MQ below (m_Q D cl tys b (some (va_rf r)) st) args s mc ms (m_A b)) (F0 m pc ls [va_rf r]) :=
  W.widen hc hs (W.aret S.1 S.2.1 hr (Or.inl ⟨_, rfl⟩) (by cases r with | none => exact Or.inl rfl | some a => exact Or.inr ⟨a, rfl⟩) (fun t ht hW => ⟨rfl, ⟨by rw [ht]; exact hP, va_K.moved hW.alike hK⟩, hS.F ht⟩) hS.2.2 hdg)
end MRET
def m_xup : List String := ["java/lang/RuntimeException", "java/lang/Exception"]
def m_xA : List Cond := Bundle.ownAtoms "RuleHouse2" 145 "java/lang/ArithmeticException" m_xup
def m_xI : List Cond := Bundle.ownAtoms "RuleHouse2" 152 "java/lang/IllegalStateException" m_xup
def m_xq (w : Cond) : Bool := match w with
  | .laysStatic .. => true
  | .isRef (.static ..) => true
  | _ => false
theorem m_xA_k : m_xA.all (fun w => goodWord w || (w.onTables && w.faceAtom) || m_xq w) = true := by decide +kernel
theorem m_xI_k : m_xI.all (fun w => goodWord w || (w.onTables && w.faceAtom) || m_xq w) = true := by decide +kernel
theorem x_lays {A A' : Array Value} {s U : State} {b : Nat} {O f d : String} (hl : (Cond.laysStatic O f d).before A s = true) (hal : s.vm.Alike U.vm) (hst : ∀ (a : Nat) (cell : Cell), b ≤ a → s.heap[a]? = some cell → cell.vm.isStatics = false) (hH : ∀ q : Nat, q < b → U.heap[q]? = s.heap[q]?) : (Cond.laysStatic O f d).before A' U = true := by
  obtain ⟨c, k, i, f', a, cell, hc, hi, hst', ha, hcell, hs, hcls, hlt, hty⟩ := Cond.laysStatic_spec hl
  obtain ⟨k', hi', hek⟩ := State.fieldFound?_setVm hal hi
  have hab : a < b := by
    rcases Nat.lt_or_ge a b with h | h
    · exact h
    · rw [hst a cell h hcell] at hs; cases hs
  exact Cond.laysStatic_of (s := U) (by rw [hal.findClass]; exact hc) hi' hst' (by rw [hek]; exact ha) (by rw [hH a hab]; exact hcell) hs hcls hlt (by rw [hek]; exact hty)
theorem x_isref {A A' : Array Value} {s U : State} {b : Nat} {O f d : String} (hl : (Cond.laysStatic O f d).before A s = true) (hr : (Cond.isRef (.static O f d)).before A s = true) (hal : s.vm.Alike U.vm) (hst : ∀ (a : Nat) (cell : Cell), b ≤ a → s.heap[a]? = some cell → cell.vm.isStatics = false) (hH : ∀ q : Nat, q < b → U.heap[q]? = s.heap[q]?) : (Cond.isRef (.static O f d)).before A' U = true := by
  obtain ⟨c, k, i, f', a, cell, hc, hi, hst', ha, hcell, hs, hcls, hlt, hty⟩ := Cond.laysStatic_spec hl
  obtain ⟨u, hu⟩ := Cond.staticRefV hi hst' ha hcell hs hr
  obtain ⟨k', hi0, hek⟩ := State.fieldFound?_setVm hal hi
  have hi' : U.fieldFound? O f d = some (c, k', i, f') := hi0
  have hab : a < b := by
    rcases Nat.lt_or_ge a b with h | h
    · exact h
    · rw [hst a cell h hcell] at hs; cases hs
  have hsta : k'.statics = some a := by rw [hek]; exact ha
  have hcell' : U.heap[a]? = some cell := by rw [hH a hab]; exact hcell
  have he : (Term.static O f d).eval A' U none [] U = cell.slots[f'.slot]? := by
    simp [Term.eval, State.fieldNamed?, hi', hst', hsta, hcell', hs]
  simp only [Cond.before, Cond.holds, Cond.value]
  rw [he, hu]
  obtain ⟨v, hv⟩ := u
  cases v <;> simp [Value.isRef] at hv <;> rfl
def m_xst : List (String × String × String) := [("java/lang/Throwable", "UNASSIGNED_STACK", "[Ljava/lang/StackTraceElement;"), ("java/lang/Throwable", "SUPPRESSED_SENTINEL", "Ljava/util/List;")]
/-- what else holds of the tables and of what lies below b: for the methods that make arrays of objects, or throw -/
def m_E (b : Nat) (U : State) : Prop := va_AO "RuleHouse2$RuleClass" U ∧ va_AO "RuleHouse2$Target" U ∧ (b ≤ U.heap.size ∧ ∀ (a : Nat) (cell : Cell), b ≤ a → U.heap[a]? = some cell → cell.vm.isStatics = false) ∧ (∀ (A : Array Value), ∀ w ∈ m_xA ++ m_xI, w.before A U = true) ∧ (∃ q, vk_R "RuleHouse2" 143 "divided by 0" q U) ∧ ∃ q, vk_R "RuleHouse2" 150 "the call of this handle has ended" q U
theorem m_xmove {A0 : Array Value} {s U : State} {b : Nat} (h : ∀ w ∈ m_xA ++ m_xI, w.before A0 s = true) (hW : s.WarmedH U.vm) (hst : ∀ (a : Nat) (cell : Cell), b ≤ a → s.heap[a]? = some cell → cell.vm.isStatics = false) (hH : ∀ q : Nat, q < b → U.heap[q]? = s.heap[q]?) : ∀ (A : Array Value), ∀ w ∈ m_xA ++ m_xI, w.before A U = true := by
  intro A w hw
  have hk : (goodWord w || (w.onTables && w.faceAtom) || m_xq w) = true := by
    rcases List.mem_append.mp hw with h1 | h1
    · exact List.all_eq_true.mp m_xA_k w h1
    · exact List.all_eq_true.mp m_xI_k w h1
  have h1 := h w hw
  rcases Bool.or_eq_true _ _ |>.mp hk with hk | hk
  · rcases Bool.or_eq_true _ _ |>.mp hk with hk | hk
    · exact word_at hW (good_of_word hk) h1
    · rw [Bool.and_eq_true] at hk
      exact va_tabs hk.1 (rfl : (s.setVm U.vm).vm = U.vm) (Cond.faceAtom_setVm hW.alike w hk.2 h1)
  · have hlay : ∀ O f d, w = .isRef (.static O f d) → (Cond.laysStatic O f d) ∈ m_xA ++ m_xI := by
      have hd : (m_xA ++ m_xI).all (fun w => match w with
        | .isRef (.static O f d) => decide ((O, f, d) ∈ m_xst)
        | _ => true) = true := by decide +kernel
      have hd2 : m_xst.all (fun q => decide (Cond.laysStatic q.1 q.2.1 q.2.2 ∈ m_xA ++ m_xI)) = true := by decide +kernel
      intro O f d e
      have h2 := List.all_eq_true.mp hd w hw
      rw [e] at h2
      have h3 := List.all_eq_true.mp hd2 _ (of_decide_eq_true h2)
      exact of_decide_eq_true h3
    match w, hk, h1, hlay with
    | .laysStatic O f d, _, h1, _ => exact x_lays h1 hW.alike hst hH
    | .isRef (.static O f d), _, h1, hlay => exact x_isref (h _ (hlay O f d rfl)) h1 hW.alike hst hH
theorem m_E.moved {b : Nat} {s U : State} (h : m_E b s) (hW : s.WarmedH U.vm) (hH : ∀ q : Nat, q < b → U.heap[q]? = s.heap[q]?) (hU : b ≤ U.heap.size ∧ ∀ (a : Nat) (cell : Cell), b ≤ a → U.heap[a]? = some cell → cell.vm.isStatics = false) : m_E b U := by
  obtain ⟨h1, h2, h3, h4, ⟨q5, h5⟩, q6, h6⟩ := h
  exact ⟨h1.moved hW.alike, h2.moved hW.alike, hU, m_xmove (h4 #[]) hW h3.2 hH, ⟨q5, h5.warm hW⟩, q6, h6.warm hW⟩
def m_PcE (D : va_G) (cl : List vw_C) (tys : List (ClassId × FieldType)) (b : Nat) (st : MS) (as : List Value) : Array Value → State → Prop := fun v U => m_Pc D cl tys b st as v U ∧ m_E b U
theorem m_blindE {D : va_G} {cl : List vw_C} {tys : List (ClassId × FieldType)} {b : Nat} {st : MS} {as : List Value} : FrameBlind (m_PcE D cl tys b st as) := fun a U g mk q => ⟨m_blind a U g mk q.1, q.2.moved (U := U.calling g mk a) (State.WarmedH.refl U) (fun _ _ => rfl) q.2.2.2.1⟩
theorem m_E.to {s U : State} {H : Heap} {D : va_G} {cl : List vw_C} {tys : List (ClassId × FieldType)} {b : Nat} {st : MS} {locs : List Loc} (hP : mw D cl tys b st H) (hE : m_E b s) (hS : va_S (m_A b) s.heap H locs) (hU : U.heap = H) (hW : s.WarmedH U.vm) : m_E b U :=
  hE.moved hW (fun q hq => by rw [hU]; exact hS.2.1 q (Nat.lt_of_lt_of_le hq hE.2.2.1.1) (Nat.not_le.mpr hq)) ⟨by rw [hU, hP.1]; exact hP.2.1, by rw [hU]; exact hP.2.2.2⟩
theorem m_preSE {s : State} {H : Heap} {D : va_G} {cl : List vw_C} {tys : List (ClassId × FieldType)} {b : Nat} {st : MS} {as : List Value} {locs : List Loc} (hK : va_K D cl tys s) (hP : mw D cl tys b st H) (hE : m_E b s) (hS : va_S (m_A b) s.heap H locs) : PreS s H (m_PcE D cl tys b st as) as := ⟨m_blindE, fun U hU hW => ⟨(m_preS hK hP).2 U hU hW, hE.to hP hS hU hW⟩⟩
theorem m_preVE {s : State} {H : Heap} {D : va_G} {cl : List vw_C} {tys : List (ClassId × FieldType)} {b a ci : Nat} {st : MS} {as : List Value} {r0 : vw_C} {locs : List Loc} (hK : va_K D cl tys s) (hP : mw D cl tys b st H) (hk : st.2.1 a = some (.inl ci)) (hc : cl[ci]? = some r0) (hE : m_E b s) (hS : va_S (m_A b) s.heap H locs) : PreV s H r0.1 a (m_PcE D cl tys b st (.ref a :: as)) as := by
  have h := m_preV (as := as) hK hP hk hc
  exact ⟨m_blindE, h.2.1, fun U hU hW => ⟨h.2.2 U hU hW, hE.to hP hS hU hW⟩⟩
theorem m_metE {l : Launch} {y : MethodName} {ws ws' : List Cond} {rm : Room} {mc ms : Nat} {cc : ByteArray} {maxL : Nat} {ret : Option FieldType} {D : va_G} {cl : List vw_C} {tys : List (ClassId × FieldType)} {b : Nat} {st st' : MS} {as : List Value} {v : Option Value}
    (hy : plainName y.cls = true) (hw : ws = Cond.code y cc maxL ret :: ws') (hlen : (lg_sl as).length ≤ maxL)
    (body : ∀ (p : Program) (e : Env) (s : State) (m : MethodId) (below : List Frame) (meth : Method) (c : Code) (ls : Array Slot), CallFix p m c cc maxL s as.toArray ws y.cls → meth.sig.returnType = ret → meth.locks = false → meth.name = y.name → va_K D cl tys s → mw D cl tys b st s.heap → lv_has ls maxL (lv_args 0 as) → va_S (m_A b) s.heap s.heap [] → m_E b s →
      W p l e rm s m as.toArray below meth c s.heap [] 0 0 (MQ below (m_Q D cl tys b v st') as.toArray s mc ms (m_A b)) (F0 m 0 ls [])) : Met l y ws rm (m_PcE D cl tys b st as) (m_Q D cl tys b v st') mc ms (m_A b) := by
  refine Met.ofW (cc := cc) (maxL := maxL) (ret := ret) hy hw ?_
  intro p e s m args below meth c s₁ B hml hv
  obtain ⟨⟨rfl, hP, hK⟩, hE⟩ := hv
  have hts := atoms_spec (ws := ws) B.pre
  have hl := lv_entry as (n := maxL) hlen
  rw [lg_entry_eq]
  exact body p e s m below meth c _ ⟨B.exec, B.bytes, hml, findClass_of_methodNamed B.named, hts⟩ B.returns B.notSynchronized (name_of_methodNamed B.named B.method).1 hK hP hl va_S.rf hE
end
section
/-! ===== the words that every method's contract takes: the tables' good ones ===== -/
def m_tbl : List Cond := lw_tbl.filter goodWord
theorem m_in {w : Cond} (h : (decide (w ∈ lw_tbl) && goodWord w) = true) : w ∈ m_tbl := by
  rw [Bool.and_eq_true, decide_eq_true_eq] at h
  exact List.mem_filter.mpr h
theorem m_mem {w0 w : Cond} (h : (decide (w ∈ lw_tbl) && goodWord w) = true) : w ∈ w0 :: m_tbl := List.mem_cons_of_mem _ (m_in h)
theorem m_sub {w0 : Cond} {ws : List Cond} (h : ws.all (fun w => decide (w ∈ lw_tbl) && goodWord w) = true) : ∀ w ∈ ws, w ∈ w0 :: m_tbl := fun w hw => m_mem (List.all_eq_true.mp h w hw)
theorem m_gd {w0 : Cond} {ws : List Cond} (h : ws.all (fun w => decide (w ∈ lw_tbl) && goodWord w) = true) : GoodIn (w0 :: m_tbl) ws := fun w hw => by
  have h1 := List.all_eq_true.mp h w hw
  refine ⟨m_mem h1, good_of_word ?_⟩
  rw [Bool.and_eq_true] at h1
  exact h1.2
theorem m_gt {w0 : Cond} : GoodIn (w0 :: m_tbl) m_tbl := fun w hw => ⟨List.mem_cons_of_mem _ hw, good_of_word (List.mem_filter.mp hw).2⟩
theorem m_ga {big a b : List Cond} (ha : GoodIn big a) (hb : GoodIn big b) : GoodIn big (a ++ b) := fun w h => (List.mem_append.mp h).elim (ha w) (hb w)
theorem m_wI {w0 cw : Cond} (h : [cw].all (fun w => decide (w ∈ lw_tbl) && goodWord w) = true) : GoodIn (w0 :: m_tbl) (cw :: m_tbl) := m_ga (a := [cw]) (m_gd h) m_gt
theorem m_wV {w0 cw : Cond} {own C : String} {idx : Nat} {y : MethodName} (h : [cw].all (fun w => decide (w ∈ lw_tbl) && goodWord w) = true) (h2 : ([.methodLink own idx y, .instanceMethod y, .selects C y y, .initialized C] : List Cond).all (fun w => decide (w ∈ lw_tbl) && goodWord w) = true) : GoodIn (w0 :: m_tbl) (wsV own idx C y (cw :: m_tbl)) := m_ga (m_gd h2) (m_wI h)
theorem m_wS {w0 cw : Cond} {own : String} {idx : Nat} {y : MethodName} (h : [cw].all (fun w => decide (w ∈ lw_tbl) && goodWord w) = true) (h2 : ([.methodLink own idx y, .static y, .initialized own] : List Cond).all (fun w => decide (w ∈ lw_tbl) && goodWord w) = true) : GoodIn (w0 :: m_tbl) (wsS own idx y (cw :: m_tbl)) := m_ga (m_gd h2) (m_wI h)
def RX0 : String := "RuleHouse2"
def TX0 : u_T := fun k => match k with
  | 0 => ("RuleHouse2", "stepsAllowed", "I", true)
  | 1 => ("RuleHouse2", "classOfRule", "[LRuleHouse2$RuleClass;", true)
  | 2 => ("RuleHouse2", "ruleCount", "I", false)
  | 3 => ("RuleHouse2", "madeCount", "I", false)
  | 4 => ("RuleHouse2", "targets", "[LRuleHouse2$Target;", true)
  | 5 => ("RuleHouse2", "targetCount", "I", false)
  | 6 => ("RuleHouse2", "actionTarget", "[I", true)
  | 7 => ("RuleHouse2", "actionNumber", "[I", true)
  | 8 => ("RuleHouse2", "actionCount", "I", false)
  | _ => ("RuleHouse2", "handleCount", "I", false)
def tyX0 : Nat → FieldType := fun k => match k with
  | 0 => .int
  | 1 => (.array (.object "RuleHouse2$RuleClass"))
  | 2 => .int
  | 3 => .int
  | 4 => (.array (.object "RuleHouse2$Target"))
  | 5 => .int
  | 6 => (.array .int)
  | 7 => (.array .int)
  | 8 => .int
  | _ => .int
theorem nX0 : ∀ a, a < 10 → ∀ b, b < 10 → a ≠ b → (TX0 a).2.1 ≠ (TX0 b).2.1 := by decide +kernel
theorem tX0 : ∀ k, k < 10 → parseFieldDescriptor (TX0 k).2.2.1 = some (tyX0 k) := by decide +kernel
theorem inX0 (w0 : Cond) : ∀ w ∈ u_ws RX0 TX0 10, w ∈ w0 :: m_tbl := m_sub (by decide +kernel)
def RX1 : String := "RuleHouse2$RuleClass"
def TX1 : u_T := fun k => match k with
  | 0 => ("RuleHouse2$RuleClass", "edition", "I", true)
  | 1 => ("RuleHouse2$RuleClass", "does", "I", true)
  | 2 => ("RuleHouse2$RuleClass", "startFails", "Z", true)
  | 3 => ("RuleHouse2$RuleClass", "made", "Z", false)
  | 4 => ("RuleHouse2$RuleClass", "number", "I", false)
  | _ => ("RuleHouse2$RuleClass", "cell", "J", false)
def tyX1 : Nat → FieldType := fun k => match k with
  | 0 => .int
  | 1 => .int
  | 2 => .boolean
  | 3 => .boolean
  | 4 => .int
  | _ => .long
theorem nX1 : ∀ a, a < 6 → ∀ b, b < 6 → a ≠ b → (TX1 a).2.1 ≠ (TX1 b).2.1 := by decide +kernel
theorem tX1 : ∀ k, k < 6 → parseFieldDescriptor (TX1 k).2.2.1 = some (tyX1 k) := by decide +kernel
theorem inX1 (w0 : Cond) : ∀ w ∈ u_ws RX1 TX1 6, w ∈ w0 :: m_tbl := m_sub (by decide +kernel)
def RX2 : String := "RuleHouse2$Target"
def TX2 : u_T := fun k => match k with
  | 0 => ("RuleHouse2$Target", "number", "I", true)
  | 1 => ("RuleHouse2$Target", "ruleClass", "LRuleHouse2$RuleClass;", true)
  | 2 => ("RuleHouse2$Target", "attributes", "[I", true)
  | 3 => ("RuleHouse2$Target", "providers", "[I", true)
  | 4 => ("RuleHouse2$Target", "has", "[Z", true)
  | 5 => ("RuleHouse2$Target", "wasRun", "Z", false)
  | 6 => ("RuleHouse2$Target", "outputDeclared", "Z", false)
  | 7 => ("RuleHouse2$Target", "steps", "I", false)
  | 8 => ("RuleHouse2$Target", "actions", "I", false)
  | 9 => ("RuleHouse2$Target", "failure", "I", false)
  | 10 => ("RuleHouse2$Target", "failedBit", "I", false)
  | _ => ("RuleHouse2$Target", "failureBegan", "I", false)
def tyX2 : Nat → FieldType := fun k => match k with
  | 0 => .int
  | 1 => (.object "RuleHouse2$RuleClass")
  | 2 => (.array .int)
  | 3 => (.array .int)
  | 4 => (.array .boolean)
  | 5 => .boolean
  | 6 => .boolean
  | 7 => .int
  | 8 => .int
  | 9 => .int
  | 10 => .int
  | _ => .int
theorem nX2 : ∀ a, a < 12 → ∀ b, b < 12 → a ≠ b → (TX2 a).2.1 ≠ (TX2 b).2.1 := by decide +kernel
theorem tX2 : ∀ k, k < 12 → parseFieldDescriptor (TX2 k).2.2.1 = some (tyX2 k) := by decide +kernel
theorem inX2 (w0 : Cond) : ∀ w ∈ u_ws RX2 TX2 12, w ∈ w0 :: m_tbl := m_sub (by decide +kernel)
def RX3 : String := "RuleHouse2Model"
def TX3 : u_T := fun k => match k with
  | 0 => ("RuleHouse2Model", "code", "I", false)
  | 1 => ("RuleHouse2Model", "most", "I", true)
  | 2 => ("RuleHouse2Model", "rules", "I", false)
  | 3 => ("RuleHouse2Model", "classes", "I", false)
  | 4 => ("RuleHouse2Model", "targets", "I", false)
  | 5 => ("RuleHouse2Model", "actions", "I", false)
  | 6 => ("RuleHouse2Model", "handles", "I", false)
  | 7 => ("RuleHouse2Model", "edition", "[I", true)
  | 8 => ("RuleHouse2Model", "does", "[I", true)
  | 9 => ("RuleHouse2Model", "made", "[I", true)
  | 10 => ("RuleHouse2Model", "fails", "[Z", true)
  | 11 => ("RuleHouse2Model", "cell", "[J", true)
  | 12 => ("RuleHouse2Model", "rule", "[I", true)
  | 13 => ("RuleHouse2Model", "attributes", "[I", true)
  | 14 => ("RuleHouse2Model", "failure", "[I", true)
  | 15 => ("RuleHouse2Model", "bit", "[I", true)
  | 16 => ("RuleHouse2Model", "began", "[I", true)
  | 17 => ("RuleHouse2Model", "mine", "[I", true)
  | 18 => ("RuleHouse2Model", "steps", "[I", true)
  | 19 => ("RuleHouse2Model", "chain", "[I", true)
  | 20 => ("RuleHouse2Model", "provider", "[I", true)
  | 21 => ("RuleHouse2Model", "run", "[Z", true)
  | 22 => ("RuleHouse2Model", "has", "[Z", true)
  | 23 => ("RuleHouse2Model", "of", "[I", true)
  | _ => ("RuleHouse2Model", "number", "[I", true)
def tyX3 : Nat → FieldType := fun k => match k with
  | 0 => .int
  | 1 => .int
  | 2 => .int
  | 3 => .int
  | 4 => .int
  | 5 => .int
  | 6 => .int
  | 7 => (.array .int)
  | 8 => (.array .int)
  | 9 => (.array .int)
  | 10 => (.array .boolean)
  | 11 => (.array .long)
  | 12 => (.array .int)
  | 13 => (.array .int)
  | 14 => (.array .int)
  | 15 => (.array .int)
  | 16 => (.array .int)
  | 17 => (.array .int)
  | 18 => (.array .int)
  | 19 => (.array .int)
  | 20 => (.array .int)
  | 21 => (.array .boolean)
  | 22 => (.array .boolean)
  | 23 => (.array .int)
  | _ => (.array .int)
theorem nX3 : ∀ a, a < 25 → ∀ b, b < 25 → a ≠ b → (TX3 a).2.1 ≠ (TX3 b).2.1 := by decide +kernel
theorem tX3 : ∀ k, k < 25 → parseFieldDescriptor (TX3 k).2.2.1 = some (tyX3 k) := by decide +kernel
theorem inX3 (w0 : Cond) : ∀ w ∈ u_ws RX3 TX3 25, w ∈ w0 :: m_tbl := m_sub (by decide +kernel)
def RL : String := "RuleHouse2Law"
abbrev vwCl : List vw_C := [(RX0, TX0, 10), (RX1, TX1, 6), (RX2, TX2, 12), (RX3, TX3, 25)]
def m_tys (tc : Nat → ClassId) : List (ClassId × FieldType) := [(tc 0, .int), (tc 1, .int), (tc 2, .boolean), (tc 3, (.object "RuleHouse2$RuleClass")), (tc 4, (.object "RuleHouse2$Target")), (tc 5, .int), (tc 6, .boolean), (tc 7, .long), (tc 8, .long)]
abbrev cX0_init : ByteArray := prog_1_method_1_code
def yX0_init : MethodName := ⟨RX0, "<init>", "(I)V"⟩
abbrev wX0_init : Cond := .code yX0_init cX0_init 2 none
abbrev wsX0_init : List Cond := wX0_init :: m_tbl
theorem kX0_init : [wX0_init].all (fun w => decide (w ∈ lw_tbl) && goodWord w) = true := by decide +kernel
abbrev cX0_rule : ByteArray := prog_1_method_2_code
def yX0_rule : MethodName := ⟨RX0, "rule", "(IIZ)I"⟩
abbrev wX0_rule : Cond := .code yX0_rule cX0_rule 5 (some .int)
abbrev wsX0_rule : List Cond := wX0_rule :: m_tbl
theorem kX0_rule : [wX0_rule].all (fun w => decide (w ∈ lw_tbl) && goodWord w) = true := by decide +kernel
abbrev cX0_make : ByteArray := prog_1_method_3_code
def yX0_make : MethodName := ⟨RX0, "make", "(I)I"⟩
abbrev wX0_make : Cond := .code yX0_make cX0_make 3 (some .int)
abbrev wsX0_make : List Cond := wX0_make :: m_tbl
theorem kX0_make : [wX0_make].all (fun w => decide (w ∈ lw_tbl) && goodWord w) = true := by decide +kernel
abbrev cX0_attribute : ByteArray := prog_1_method_4_code
def yX0_attribute : MethodName := ⟨RX0, "attribute", "(III)I"⟩
abbrev wX0_attribute : Cond := .code yX0_attribute cX0_attribute 6 (some .int)
abbrev wsX0_attribute : List Cond := wX0_attribute :: m_tbl
theorem kX0_attribute : [wX0_attribute].all (fun w => decide (w ∈ lw_tbl) && goodWord w) = true := by decide +kernel
abbrev cX0_target : ByteArray := prog_1_method_5_code
def yX0_target : MethodName := ⟨RX0, "target", "(I)I"⟩
abbrev wX0_target : Cond := .code yX0_target cX0_target 3 (some .int)
abbrev wsX0_target : List Cond := wX0_target :: m_tbl
theorem kX0_target : [wX0_target].all (fun w => decide (w ∈ lw_tbl) && goodWord w) = true := by decide +kernel
abbrev cX0_run : ByteArray := prog_1_method_6_code
def yX0_run : MethodName := ⟨RX0, "run", "(I)I"⟩
abbrev wX0_run : Cond := .code yX0_run cX0_run 3 (some .int)
abbrev wsX0_run : List Cond := wX0_run :: m_tbl
theorem kX0_run : [wX0_run].all (fun w => decide (w ∈ lw_tbl) && goodWord w) = true := by decide +kernel
abbrev cX0_action : ByteArray := prog_1_method_7_code
def yX0_action : MethodName := ⟨RX0, "action", "(II)I"⟩
abbrev wX0_action : Cond := .code yX0_action cX0_action 3 (some .int)
abbrev wsX0_action : List Cond := wX0_action :: m_tbl
theorem kX0_action : [wX0_action].all (fun w => decide (w ∈ lw_tbl) && goodWord w) = true := by decide +kernel
abbrev cX0_provider : ByteArray := prog_1_method_8_code
def yX0_provider : MethodName := ⟨RX0, "provider", "(II)I"⟩
abbrev wX0_provider : Cond := .code yX0_provider cX0_provider 4 (some .int)
abbrev wsX0_provider : List Cond := wX0_provider :: m_tbl
theorem kX0_provider : [wX0_provider].all (fun w => decide (w ∈ lw_tbl) && goodWord w) = true := by decide +kernel
abbrev cX0_failed : ByteArray := prog_1_method_9_code
def yX0_failed : MethodName := ⟨RX0, "failed", "(II)I"⟩
abbrev wX0_failed : Cond := .code yX0_failed cX0_failed 4 (some .int)
abbrev wsX0_failed : List Cond := wX0_failed :: m_tbl
theorem kX0_failed : [wX0_failed].all (fun w => decide (w ∈ lw_tbl) && goodWord w) = true := by decide +kernel
abbrev cX0_cell : ByteArray := prog_1_method_10_code
def yX0_cell : MethodName := ⟨RX0, "cell", "(I)J"⟩
abbrev wX0_cell : Cond := .code yX0_cell cX0_cell 3 (some .long)
abbrev wsX0_cell : List Cond := wX0_cell :: m_tbl
theorem kX0_cell : [wX0_cell].all (fun w => decide (w ∈ lw_tbl) && goodWord w) = true := by decide +kernel
abbrev cX0_same : ByteArray := prog_1_method_11_code
def yX0_same : MethodName := ⟨RX0, "same", "(II)Z"⟩
abbrev wX0_same : Cond := .code yX0_same cX0_same 5 (some .boolean)
abbrev wsX0_same : List Cond := wX0_same :: m_tbl
theorem kX0_same : [wX0_same].all (fun w => decide (w ∈ lw_tbl) && goodWord w) = true := by decide +kernel
abbrev cX0_divide : ByteArray := prog_1_method_12_code
def yX0_divide : MethodName := ⟨RX0, "divide", "(IJJ)J"⟩
abbrev wX0_divide : Cond := .code yX0_divide cX0_divide 7 (some .long)
abbrev wsX0_divide : List Cond := wX0_divide :: m_tbl
theorem kX0_divide : [wX0_divide].all (fun w => decide (w ∈ lw_tbl) && goodWord w) = true := by decide +kernel
abbrev cX0_handle : ByteArray := prog_1_method_13_code
def yX0_handle : MethodName := ⟨RX0, "handle", "(I)I"⟩
abbrev wX0_handle : Cond := .code yX0_handle cX0_handle 2 (some .int)
abbrev wsX0_handle : List Cond := wX0_handle :: m_tbl
theorem kX0_handle : [wX0_handle].all (fun w => decide (w ∈ lw_tbl) && goodWord w) = true := by decide +kernel
abbrev cX0_isWithin : ByteArray := prog_1_method_14_code
def yX0_isWithin : MethodName := ⟨RX0, "isWithin", "(II)Z"⟩
abbrev wX0_isWithin : Cond := .code yX0_isWithin cX0_isWithin 2 (some .boolean)
abbrev wsX0_isWithin : List Cond := wX0_isWithin :: m_tbl
theorem kX0_isWithin : [wX0_isWithin].all (fun w => decide (w ∈ lw_tbl) && goodWord w) = true := by decide +kernel
abbrev cX0_classAt : ByteArray := prog_1_method_15_code
def yX0_classAt : MethodName := ⟨RX0, "classAt", "(I)LRuleHouse2$RuleClass;"⟩
abbrev wX0_classAt : Cond := .code yX0_classAt cX0_classAt 2 (some (.object "RuleHouse2$RuleClass"))
abbrev wsX0_classAt : List Cond := wX0_classAt :: m_tbl
theorem kX0_classAt : [wX0_classAt].all (fun w => decide (w ∈ lw_tbl) && goodWord w) = true := by decide +kernel
abbrev cX0_targetAt : ByteArray := prog_1_method_16_code
def yX0_targetAt : MethodName := ⟨RX0, "targetAt", "(I)LRuleHouse2$Target;"⟩
abbrev wX0_targetAt : Cond := .code yX0_targetAt cX0_targetAt 2 (some (.object "RuleHouse2$Target"))
abbrev wsX0_targetAt : List Cond := wX0_targetAt :: m_tbl
theorem kX0_targetAt : [wX0_targetAt].all (fun w => decide (w ∈ lw_tbl) && goodWord w) = true := by decide +kernel
abbrev cX0_findClass : ByteArray := prog_1_method_17_code
def yX0_findClass : MethodName := ⟨RX0, "findClass", "(II)LRuleHouse2$RuleClass;"⟩
abbrev wX0_findClass : Cond := .code yX0_findClass cX0_findClass 5 (some (.object "RuleHouse2$RuleClass"))
abbrev wsX0_findClass : List Cond := wX0_findClass :: m_tbl
theorem kX0_findClass : [wX0_findClass].all (fun w => decide (w ∈ lw_tbl) && goodWord w) = true := by decide +kernel
abbrev cX0_ensureMade : ByteArray := prog_1_method_18_code
def yX0_ensureMade : MethodName := ⟨RX0, "ensureMade", "(LRuleHouse2$RuleClass;)Z"⟩
abbrev wX0_ensureMade : Cond := .code yX0_ensureMade cX0_ensureMade 2 (some .boolean)
abbrev wsX0_ensureMade : List Cond := wX0_ensureMade :: m_tbl
theorem kX0_ensureMade : [wX0_ensureMade].all (fun w => decide (w ∈ lw_tbl) && goodWord w) = true := by decide +kernel
abbrev cX0_mayBecome : ByteArray := prog_1_method_19_code
def yX0_mayBecome : MethodName := ⟨RX0, "mayBecome", "(LRuleHouse2$Target;II)Z"⟩
abbrev wX0_mayBecome : Cond := .code yX0_mayBecome cX0_mayBecome 3 (some .boolean)
abbrev wsX0_mayBecome : List Cond := wX0_mayBecome :: m_tbl
theorem kX0_mayBecome : [wX0_mayBecome].all (fun w => decide (w ∈ lw_tbl) && goodWord w) = true := by decide +kernel
abbrev cX0_digest : ByteArray := prog_1_method_20_code
def yX0_digest : MethodName := ⟨RX0, "digest", "(II)I"⟩
abbrev wX0_digest : Cond := .code yX0_digest cX0_digest 5 (some .int)
abbrev wsX0_digest : List Cond := wX0_digest :: m_tbl
theorem kX0_digest : [wX0_digest].all (fun w => decide (w ∈ lw_tbl) && goodWord w) = true := by decide +kernel
abbrev cX0_runOnce : ByteArray := prog_1_method_21_code
def yX0_runOnce : MethodName := ⟨RX0, "runOnce", "(LRuleHouse2$Target;I)V"⟩
abbrev wX0_runOnce : Cond := .code yX0_runOnce cX0_runOnce 4 none
abbrev wsX0_runOnce : List Cond := wX0_runOnce :: m_tbl
theorem kX0_runOnce : [wX0_runOnce].all (fun w => decide (w ∈ lw_tbl) && goodWord w) = true := by decide +kernel
abbrev cX0_doBits : ByteArray := prog_1_method_22_code
def yX0_doBits : MethodName := ⟨RX0, "doBits", "(LRuleHouse2$Target;LRuleHouse2$Target;)V"⟩
abbrev wX0_doBits : Cond := .code yX0_doBits cX0_doBits 6 none
abbrev wsX0_doBits : List Cond := wX0_doBits :: m_tbl
theorem kX0_doBits : [wX0_doBits].all (fun w => decide (w ∈ lw_tbl) && goodWord w) = true := by decide +kernel
abbrev cX0_takesStep : ByteArray := prog_1_method_23_code
def yX0_takesStep : MethodName := ⟨RX0, "takesStep", "(LRuleHouse2$Target;)Z"⟩
abbrev wX0_takesStep : Cond := .code yX0_takesStep cX0_takesStep 2 (some .boolean)
abbrev wsX0_takesStep : List Cond := wX0_takesStep :: m_tbl
theorem kX0_takesStep : [wX0_takesStep].all (fun w => decide (w ∈ lw_tbl) && goodWord w) = true := by decide +kernel
abbrev cX0_doBit : ByteArray := prog_1_method_24_code
def yX0_doBit : MethodName := ⟨RX0, "doBit", "(LRuleHouse2$Target;LRuleHouse2$Target;I)I"⟩
abbrev wX0_doBit : Cond := .code yX0_doBit cX0_doBit 4 (some .int)
abbrev wsX0_doBit : List Cond := wX0_doBit :: m_tbl
theorem kX0_doBit : [wX0_doBit].all (fun w => decide (w ∈ lw_tbl) && goodWord w) = true := by decide +kernel
abbrev cX0_declareOutput : ByteArray := prog_1_method_25_code
def yX0_declareOutput : MethodName := ⟨RX0, "declareOutput", "(LRuleHouse2$Target;)I"⟩
abbrev wX0_declareOutput : Cond := .code yX0_declareOutput cX0_declareOutput 1 (some .int)
abbrev wsX0_declareOutput : List Cond := wX0_declareOutput :: m_tbl
theorem kX0_declareOutput : [wX0_declareOutput].all (fun w => decide (w ∈ lw_tbl) && goodWord w) = true := by decide +kernel
abbrev cX0_addActions : ByteArray := prog_1_method_26_code
def yX0_addActions : MethodName := ⟨RX0, "addActions", "(LRuleHouse2$Target;)I"⟩
abbrev wX0_addActions : Cond := .code yX0_addActions cX0_addActions 4 (some .int)
abbrev wsX0_addActions : List Cond := wX0_addActions :: m_tbl
theorem kX0_addActions : [wX0_addActions].all (fun w => decide (w ∈ lw_tbl) && goodWord w) = true := by decide +kernel
abbrev cX0_giveQuotient : ByteArray := prog_1_method_27_code
def yX0_giveQuotient : MethodName := ⟨RX0, "giveQuotient", "(LRuleHouse2$Target;)I"⟩
abbrev wX0_giveQuotient : Cond := .code yX0_giveQuotient cX0_giveQuotient 2 (some .int)
abbrev wsX0_giveQuotient : List Cond := wX0_giveQuotient :: m_tbl
theorem kX0_giveQuotient : [wX0_giveQuotient].all (fun w => decide (w ∈ lw_tbl) && goodWord w) = true := by decide +kernel
abbrev cX0_giveOneMore : ByteArray := prog_1_method_28_code
def yX0_giveOneMore : MethodName := ⟨RX0, "giveOneMore", "(LRuleHouse2$Target;LRuleHouse2$Target;)I"⟩
abbrev wX0_giveOneMore : Cond := .code yX0_giveOneMore cX0_giveOneMore 2 (some .int)
abbrev wsX0_giveOneMore : List Cond := wX0_giveOneMore :: m_tbl
theorem kX0_giveOneMore : [wX0_giveOneMore].all (fun w => decide (w ∈ lw_tbl) && goodWord w) = true := by decide +kernel
abbrev cX0_countInCell : ByteArray := prog_1_method_29_code
def yX0_countInCell : MethodName := ⟨RX0, "countInCell", "(LRuleHouse2$Target;)I"⟩
abbrev wX0_countInCell : Cond := .code yX0_countInCell cX0_countInCell 1 (some .int)
abbrev wsX0_countInCell : List Cond := wX0_countInCell :: m_tbl
theorem kX0_countInCell : [wX0_countInCell].all (fun w => decide (w ∈ lw_tbl) && goodWord w) = true := by decide +kernel
abbrev cX0_giveAmount : ByteArray := prog_1_method_30_code
def yX0_giveAmount : MethodName := ⟨RX0, "giveAmount", "(LRuleHouse2$Target;)I"⟩
abbrev wX0_giveAmount : Cond := .code yX0_giveAmount cX0_giveAmount 2 (some .int)
abbrev wsX0_giveAmount : List Cond := wX0_giveAmount :: m_tbl
theorem kX0_giveAmount : [wX0_giveAmount].all (fun w => decide (w ∈ lw_tbl) && goodWord w) = true := by decide +kernel
abbrev cX0_keepHandle : ByteArray := prog_1_method_31_code
def yX0_keepHandle : MethodName := ⟨RX0, "keepHandle", "()I"⟩
abbrev wX0_keepHandle : Cond := .code yX0_keepHandle cX0_keepHandle 1 (some .int)
abbrev wsX0_keepHandle : List Cond := wX0_keepHandle :: m_tbl
theorem kX0_keepHandle : [wX0_keepHandle].all (fun w => decide (w ∈ lw_tbl) && goodWord w) = true := by decide +kernel
abbrev cX3_init : ByteArray := prog_5_method_1_code
def yX3_init : MethodName := ⟨RX3, "<init>", "(I)V"⟩
abbrev wX3_init : Cond := .code yX3_init cX3_init 2 none
abbrev wsX3_init : List Cond := wX3_init :: m_tbl
theorem kX3_init : [wX3_init].all (fun w => decide (w ∈ lw_tbl) && goodWord w) = true := by decide +kernel
abbrev cX3_thrown : ByteArray := prog_5_method_2_code
def yX3_thrown : MethodName := ⟨RX3, "thrown", "()I"⟩
abbrev wX3_thrown : Cond := .code yX3_thrown cX3_thrown 1 (some .int)
abbrev wsX3_thrown : List Cond := wX3_thrown :: m_tbl
theorem kX3_thrown : [wX3_thrown].all (fun w => decide (w ∈ lw_tbl) && goodWord w) = true := by decide +kernel
abbrev cX3_isRule : ByteArray := prog_5_method_3_code
def yX3_isRule : MethodName := ⟨RX3, "isRule", "(I)Z"⟩
abbrev wX3_isRule : Cond := .code yX3_isRule cX3_isRule 2 (some .boolean)
abbrev wsX3_isRule : List Cond := wX3_isRule :: m_tbl
theorem kX3_isRule : [wX3_isRule].all (fun w => decide (w ∈ lw_tbl) && goodWord w) = true := by decide +kernel
abbrev cX3_isTarget : ByteArray := prog_5_method_4_code
def yX3_isTarget : MethodName := ⟨RX3, "isTarget", "(I)Z"⟩
abbrev wX3_isTarget : Cond := .code yX3_isTarget cX3_isTarget 2 (some .boolean)
abbrev wsX3_isTarget : List Cond := wX3_isTarget :: m_tbl
theorem kX3_isTarget : [wX3_isTarget].all (fun w => decide (w ∈ lw_tbl) && goodWord w) = true := by decide +kernel
abbrev cX3_rule : ByteArray := prog_5_method_5_code
def yX3_rule : MethodName := ⟨RX3, "rule", "(IIZ)I"⟩
abbrev wX3_rule : Cond := .code yX3_rule cX3_rule 4 (some .int)
abbrev wsX3_rule : List Cond := wX3_rule :: m_tbl
theorem kX3_rule : [wX3_rule].all (fun w => decide (w ∈ lw_tbl) && goodWord w) = true := by decide +kernel
abbrev cX3_firstOf : ByteArray := prog_5_method_6_code
def yX3_firstOf : MethodName := ⟨RX3, "firstOf", "(I)I"⟩
abbrev wX3_firstOf : Cond := .code yX3_firstOf cX3_firstOf 3 (some .int)
abbrev wsX3_firstOf : List Cond := wX3_firstOf :: m_tbl
theorem kX3_firstOf : [wX3_firstOf].all (fun w => decide (w ∈ lw_tbl) && goodWord w) = true := by decide +kernel
abbrev cX3_classOf : ByteArray := prog_5_method_7_code
def yX3_classOf : MethodName := ⟨RX3, "classOf", "(I)I"⟩
abbrev wX3_classOf : Cond := .code yX3_classOf cX3_classOf 3 (some .int)
abbrev wsX3_classOf : List Cond := wX3_classOf :: m_tbl
theorem kX3_classOf : [wX3_classOf].all (fun w => decide (w ∈ lw_tbl) && goodWord w) = true := by decide +kernel
abbrev cX3_make : ByteArray := prog_5_method_8_code
def yX3_make : MethodName := ⟨RX3, "make", "(I)I"⟩
abbrev wX3_make : Cond := .code yX3_make cX3_make 2 (some .int)
abbrev wsX3_make : List Cond := wX3_make :: m_tbl
theorem kX3_make : [wX3_make].all (fun w => decide (w ∈ lw_tbl) && goodWord w) = true := by decide +kernel
abbrev cX3_cell : ByteArray := prog_5_method_9_code
def yX3_cell : MethodName := ⟨RX3, "cell", "(I)J"⟩
abbrev wX3_cell : Cond := .code yX3_cell cX3_cell 3 (some .long)
abbrev wsX3_cell : List Cond := wX3_cell :: m_tbl
theorem kX3_cell : [wX3_cell].all (fun w => decide (w ∈ lw_tbl) && goodWord w) = true := by decide +kernel
abbrev cX3_same : ByteArray := prog_5_method_10_code
def yX3_same : MethodName := ⟨RX3, "same", "(II)Z"⟩
abbrev wX3_same : Cond := .code yX3_same cX3_same 3 (some .boolean)
abbrev wsX3_same : List Cond := wX3_same :: m_tbl
theorem kX3_same : [wX3_same].all (fun w => decide (w ∈ lw_tbl) && goodWord w) = true := by decide +kernel
abbrev cX3_divide : ByteArray := prog_5_method_11_code
def yX3_divide : MethodName := ⟨RX3, "divide", "(IJJ)J"⟩
abbrev wX3_divide : Cond := .code yX3_divide cX3_divide 7 (some .long)
abbrev wsX3_divide : List Cond := wX3_divide :: m_tbl
theorem kX3_divide : [wX3_divide].all (fun w => decide (w ∈ lw_tbl) && goodWord w) = true := by decide +kernel
abbrev cX3_handle : ByteArray := prog_5_method_12_code
def yX3_handle : MethodName := ⟨RX3, "handle", "(I)I"⟩
abbrev wX3_handle : Cond := .code yX3_handle cX3_handle 2 (some .int)
abbrev wsX3_handle : List Cond := wX3_handle :: m_tbl
theorem kX3_handle : [wX3_handle].all (fun w => decide (w ∈ lw_tbl) && goodWord w) = true := by decide +kernel
abbrev cX3_target : ByteArray := prog_5_method_13_code
def yX3_target : MethodName := ⟨RX3, "target", "(I)I"⟩
abbrev wX3_target : Cond := .code yX3_target cX3_target 2 (some .int)
abbrev wsX3_target : List Cond := wX3_target :: m_tbl
theorem kX3_target : [wX3_target].all (fun w => decide (w ∈ lw_tbl) && goodWord w) = true := by decide +kernel
abbrev cX3_attribute : ByteArray := prog_5_method_14_code
def yX3_attribute : MethodName := ⟨RX3, "attribute", "(III)I"⟩
abbrev wX3_attribute : Cond := .code yX3_attribute cX3_attribute 6 (some .int)
abbrev wsX3_attribute : List Cond := wX3_attribute :: m_tbl
theorem kX3_attribute : [wX3_attribute].all (fun w => decide (w ∈ lw_tbl) && goodWord w) = true := by decide +kernel
abbrev cX3_fail : ByteArray := prog_5_method_15_code
def yX3_fail : MethodName := ⟨RX3, "fail", "(IIII)V"⟩
abbrev wX3_fail : Cond := .code yX3_fail cX3_fail 6 none
abbrev wsX3_fail : List Cond := wX3_fail :: m_tbl
theorem kX3_fail : [wX3_fail].all (fun w => decide (w ∈ lw_tbl) && goodWord w) = true := by decide +kernel
abbrev cX3_give : ByteArray := prog_5_method_16_code
def yX3_give : MethodName := ⟨RX3, "give", "(III)V"⟩
abbrev wX3_give : Cond := .code yX3_give cX3_give 4 none
abbrev wsX3_give : List Cond := wX3_give :: m_tbl
theorem kX3_give : [wX3_give].all (fun w => decide (w ∈ lw_tbl) && goodWord w) = true := by decide +kernel
abbrev cX3_step : ByteArray := prog_5_method_17_code
def yX3_step : MethodName := ⟨RX3, "step", "(I)Z"⟩
abbrev wX3_step : Cond := .code yX3_step cX3_step 2 (some .boolean)
abbrev wsX3_step : List Cond := wX3_step :: m_tbl
theorem kX3_step : [wX3_step].all (fun w => decide (w ∈ lw_tbl) && goodWord w) = true := by decide +kernel
abbrev cX3_runChain : ByteArray := prog_5_method_18_code
def yX3_runChain : MethodName := ⟨RX3, "runChain", "(I)V"⟩
abbrev wX3_runChain : Cond := .code yX3_runChain cX3_runChain 6 none
abbrev wsX3_runChain : List Cond := wX3_runChain :: m_tbl
theorem kX3_runChain : [wX3_runChain].all (fun w => decide (w ∈ lw_tbl) && goodWord w) = true := by decide +kernel
abbrev cX3_runOne : ByteArray := prog_5_method_19_code
def yX3_runOne : MethodName := ⟨RX3, "runOne", "(I)V"⟩
abbrev wX3_runOne : Cond := .code yX3_runOne cX3_runOne 6 none
abbrev wsX3_runOne : List Cond := wX3_runOne :: m_tbl
theorem kX3_runOne : [wX3_runOne].all (fun w => decide (w ∈ lw_tbl) && goodWord w) = true := by decide +kernel
abbrev cX3_deed : ByteArray := prog_5_method_20_code
def yX3_deed : MethodName := ⟨RX3, "deed", "(IIII)I"⟩
abbrev wX3_deed : Cond := .code yX3_deed cX3_deed 7 (some .int)
abbrev wsX3_deed : List Cond := wX3_deed :: m_tbl
theorem kX3_deed : [wX3_deed].all (fun w => decide (w ∈ lw_tbl) && goodWord w) = true := by decide +kernel
abbrev cX3_act : ByteArray := prog_5_method_21_code
def yX3_act : MethodName := ⟨RX3, "act", "(II)I"⟩
abbrev wX3_act : Cond := .code yX3_act cX3_act 4 (some .int)
abbrev wsX3_act : List Cond := wX3_act :: m_tbl
theorem kX3_act : [wX3_act].all (fun w => decide (w ∈ lw_tbl) && goodWord w) = true := by decide +kernel
abbrev cX3_run : ByteArray := prog_5_method_22_code
def yX3_run : MethodName := ⟨RX3, "run", "(I)I"⟩
abbrev wX3_run : Cond := .code yX3_run cX3_run 2 (some .int)
abbrev wsX3_run : List Cond := wX3_run :: m_tbl
theorem kX3_run : [wX3_run].all (fun w => decide (w ∈ lw_tbl) && goodWord w) = true := by decide +kernel
abbrev cX3_action : ByteArray := prog_5_method_23_code
def yX3_action : MethodName := ⟨RX3, "action", "(II)I"⟩
abbrev wX3_action : Cond := .code yX3_action cX3_action 5 (some .int)
abbrev wsX3_action : List Cond := wX3_action :: m_tbl
theorem kX3_action : [wX3_action].all (fun w => decide (w ∈ lw_tbl) && goodWord w) = true := by decide +kernel
abbrev cX3_provider : ByteArray := prog_5_method_24_code
def yX3_provider : MethodName := ⟨RX3, "provider", "(II)I"⟩
abbrev wX3_provider : Cond := .code yX3_provider cX3_provider 3 (some .int)
abbrev wsX3_provider : List Cond := wX3_provider :: m_tbl
theorem kX3_provider : [wX3_provider].all (fun w => decide (w ∈ lw_tbl) && goodWord w) = true := by decide +kernel
abbrev cX3_failed : ByteArray := prog_5_method_25_code
def yX3_failed : MethodName := ⟨RX3, "failed", "(II)I"⟩
abbrev wX3_failed : Cond := .code yX3_failed cX3_failed 3 (some .int)
abbrev wsX3_failed : List Cond := wX3_failed :: m_tbl
theorem kX3_failed : [wX3_failed].all (fun w => decide (w ∈ lw_tbl) && goodWord w) = true := by decide +kernel
abbrev cX1_init : ByteArray := prog_2_method_1_code
def yX1_init : MethodName := ⟨RX1, "<init>", "(IIZ)V"⟩
abbrev wX1_init : Cond := .code yX1_init cX1_init 4 none
abbrev wsX1_init : List Cond := wX1_init :: m_tbl
theorem kX1_init : [wX1_init].all (fun w => decide (w ∈ lw_tbl) && goodWord w) = true := by decide +kernel
abbrev cX1_isOf : ByteArray := prog_2_method_2_code
def yX1_isOf : MethodName := ⟨RX1, "isOf", "(II)Z"⟩
abbrev wX1_isOf : Cond := .code yX1_isOf cX1_isOf 3 (some .boolean)
abbrev wsX1_isOf : List Cond := wX1_isOf :: m_tbl
theorem kX1_isOf : [wX1_isOf].all (fun w => decide (w ∈ lw_tbl) && goodWord w) = true := by decide +kernel
abbrev cX2_init : ByteArray := prog_3_method_1_code
def yX2_init : MethodName := ⟨RX2, "<init>", "(ILRuleHouse2$RuleClass;)V"⟩
abbrev wX2_init : Cond := .code yX2_init cX2_init 3 none
abbrev wsX2_init : List Cond := wX2_init :: m_tbl
theorem kX2_init : [wX2_init].all (fun w => decide (w ∈ lw_tbl) && goodWord w) = true := by decide +kernel
abbrev cX2_give : ByteArray := prog_3_method_2_code
def yX2_give : MethodName := ⟨RX2, "give", "(II)V"⟩
abbrev wX2_give : Cond := .code yX2_give cX2_give 3 none
abbrev wsX2_give : List Cond := wX2_give :: m_tbl
theorem kX2_give : [wX2_give].all (fun w => decide (w ∈ lw_tbl) && goodWord w) = true := by decide +kernel
abbrev cX2_fail : ByteArray := prog_3_method_3_code
def yX2_fail : MethodName := ⟨RX2, "fail", "(III)V"⟩
abbrev wX2_fail : Cond := .code yX2_fail cX2_fail 5 none
abbrev wsX2_fail : List Cond := wX2_fail :: m_tbl
theorem kX2_fail : [wX2_fail].all (fun w => decide (w ∈ lw_tbl) && goodWord w) = true := by decide +kernel
abbrev cL_cell : ByteArray := method_2_code
def yL_cell : MethodName := ⟨RL, "cell", "([II)I"⟩
abbrev wL_cell : Cond := .code yL_cell cL_cell 2 (some .int)
abbrev wsL_cell : List Cond := wL_cell :: m_tbl
theorem kL_cell : [wL_cell].all (fun w => decide (w ∈ lw_tbl) && goodWord w) = true := by decide +kernel
abbrev cL_divide : ByteArray := method_3_code
def yL_divide : MethodName := ⟨RL, "divide", "(LRuleHouse2;IJJ[J)I"⟩
abbrev wL_divide : Cond := .codeWith yL_divide cL_divide 8 (some .int) [(0, 12, 15, 13)]
abbrev wsL_divide : List Cond := wL_divide :: m_tbl
theorem kL_divide : [wL_divide].all (fun w => decide (w ∈ lw_tbl) && goodWord w) = true := by decide +kernel
abbrev cL_handle : ByteArray := method_4_code
def yL_handle : MethodName := ⟨RL, "handle", "(LRuleHouse2;I[J)I"⟩
abbrev wL_handle : Cond := .codeWith yL_handle cL_handle 4 (some .int) [(0, 9, 12, 19)]
abbrev wsL_handle : List Cond := wL_handle :: m_tbl
theorem kL_handle : [wL_handle].all (fun w => decide (w ∈ lw_tbl) && goodWord w) = true := by decide +kernel
end
section
theorem dX0_init_0 : decode cX0_init 0 = .ok (.aload_n 0, 1) := by decide +kernel
theorem dX0_init_1 : decode cX0_init 1 = .ok (.invokespecial 1, 3) := by decide +kernel
theorem dX0_init_4 : decode cX0_init 4 = .ok (.aload_n 0, 1) := by decide +kernel
theorem dX0_init_5 : decode cX0_init 5 = .ok (.bipush 16, 2) := by decide +kernel
theorem dX0_init_7 : decode cX0_init 7 = .ok (.anewarray 9, 3) := by decide +kernel
theorem dX0_init_10 : decode cX0_init 10 = .ok (.putfield 11, 3) := by decide +kernel
theorem dX0_init_13 : decode cX0_init 13 = .ok (.aload_n 0, 1) := by decide +kernel
theorem dX0_init_14 : decode cX0_init 14 = .ok (.iconst 0, 1) := by decide +kernel
theorem dX0_init_15 : decode cX0_init 15 = .ok (.putfield 15, 3) := by decide +kernel
theorem dX0_init_18 : decode cX0_init 18 = .ok (.aload_n 0, 1) := by decide +kernel
theorem dX0_init_19 : decode cX0_init 19 = .ok (.iconst 0, 1) := by decide +kernel
theorem dX0_init_20 : decode cX0_init 20 = .ok (.putfield 19, 3) := by decide +kernel
theorem dX0_init_23 : decode cX0_init 23 = .ok (.aload_n 0, 1) := by decide +kernel
theorem dX0_init_24 : decode cX0_init 24 = .ok (.bipush 40, 2) := by decide +kernel
theorem dX0_init_26 : decode cX0_init 26 = .ok (.anewarray 22, 3) := by decide +kernel
theorem dX0_init_29 : decode cX0_init 29 = .ok (.putfield 24, 3) := by decide +kernel
theorem dX0_init_32 : decode cX0_init 32 = .ok (.aload_n 0, 1) := by decide +kernel
theorem dX0_init_33 : decode cX0_init 33 = .ok (.iconst 0, 1) := by decide +kernel
theorem dX0_init_34 : decode cX0_init 34 = .ok (.putfield 28, 3) := by decide +kernel
theorem dX0_init_37 : decode cX0_init 37 = .ok (.aload_n 0, 1) := by decide +kernel
theorem dX0_init_38 : decode cX0_init 38 = .ok (.sipush 400, 3) := by decide +kernel
theorem dX0_init_41 : decode cX0_init 41 = .ok (.newarray .int, 2) := by decide +kernel
theorem dX0_init_43 : decode cX0_init 43 = .ok (.putfield 31, 3) := by decide +kernel
theorem dX0_init_46 : decode cX0_init 46 = .ok (.aload_n 0, 1) := by decide +kernel
theorem dX0_init_47 : decode cX0_init 47 = .ok (.sipush 400, 3) := by decide +kernel
theorem dX0_init_50 : decode cX0_init 50 = .ok (.newarray .int, 2) := by decide +kernel
theorem dX0_init_52 : decode cX0_init 52 = .ok (.putfield 35, 3) := by decide +kernel
theorem dX0_init_55 : decode cX0_init 55 = .ok (.aload_n 0, 1) := by decide +kernel
theorem dX0_init_56 : decode cX0_init 56 = .ok (.iconst 0, 1) := by decide +kernel
theorem dX0_init_57 : decode cX0_init 57 = .ok (.putfield 38, 3) := by decide +kernel
theorem dX0_init_60 : decode cX0_init 60 = .ok (.aload_n 0, 1) := by decide +kernel
theorem dX0_init_61 : decode cX0_init 61 = .ok (.iconst 0, 1) := by decide +kernel
theorem dX0_init_62 : decode cX0_init 62 = .ok (.putfield 41, 3) := by decide +kernel
theorem dX0_init_65 : decode cX0_init 65 = .ok (.aload_n 0, 1) := by decide +kernel
theorem dX0_init_66 : decode cX0_init 66 = .ok (.iload_n 1, 1) := by decide +kernel
theorem dX0_init_67 : decode cX0_init 67 = .ok (.iconst 0, 1) := by decide +kernel
theorem dX0_init_68 : decode cX0_init 68 = .ok (.invokestatic 44, 3) := by decide +kernel
theorem dX0_init_71 : decode cX0_init 71 = .ok (.ldc 50, 2) := by decide +kernel
theorem dX0_init_73 : decode cX0_init 73 = .ok (.invokestatic 51, 3) := by decide +kernel
theorem dX0_init_76 : decode cX0_init 76 = .ok (.putfield 54, 3) := by decide +kernel
theorem dX0_init_79 : decode cX0_init 79 = .ok (.return_, 1) := by decide +kernel
theorem dX0_isWithin_0 : decode cX0_isWithin 0 = .ok (.iload_n 0, 1) := by decide +kernel
theorem dX0_isWithin_1 : decode cX0_isWithin 1 = .ok (.ifCond .lt 12, 3) := by decide +kernel
theorem dX0_isWithin_13 : decode cX0_isWithin 13 = .ok (.iconst 0, 1) := by decide +kernel
theorem dX0_isWithin_14 : decode cX0_isWithin 14 = .ok (.ireturn, 1) := by decide +kernel
theorem dX0_isWithin_4 : decode cX0_isWithin 4 = .ok (.iload_n 0, 1) := by decide +kernel
theorem dX0_isWithin_5 : decode cX0_isWithin 5 = .ok (.iload_n 1, 1) := by decide +kernel
theorem dX0_isWithin_6 : decode cX0_isWithin 6 = .ok (.if_icmp .gt 7, 3) := by decide +kernel
theorem dX0_isWithin_9 : decode cX0_isWithin 9 = .ok (.iconst 1, 1) := by decide +kernel
theorem dX0_isWithin_10 : decode cX0_isWithin 10 = .ok (.goto 4, 3) := by decide +kernel
theorem dX0_classAt_0 : decode cX0_classAt 0 = .ok (.iload_n 1, 1) := by decide +kernel
theorem dX0_classAt_1 : decode cX0_classAt 1 = .ok (.aload_n 0, 1) := by decide +kernel
theorem dX0_classAt_2 : decode cX0_classAt 2 = .ok (.getfield 15, 3) := by decide +kernel
theorem dX0_classAt_5 : decode cX0_classAt 5 = .ok (.iconst 1, 1) := by decide +kernel
theorem dX0_classAt_6 : decode cX0_classAt 6 = .ok (.isub, 1) := by decide +kernel
theorem dX0_classAt_7 : decode cX0_classAt 7 = .ok (.invokestatic 57, 3) := by decide +kernel
theorem dX0_classAt_10 : decode cX0_classAt 10 = .ok (.ifCond .eq 12, 3) := by decide +kernel
theorem dX0_classAt_22 : decode cX0_classAt 22 = .ok (.aconst_null, 1) := by decide +kernel
theorem dX0_classAt_23 : decode cX0_classAt 23 = .ok (.areturn, 1) := by decide +kernel
theorem dX0_classAt_13 : decode cX0_classAt 13 = .ok (.aload_n 0, 1) := by decide +kernel
theorem dX0_classAt_14 : decode cX0_classAt 14 = .ok (.getfield 11, 3) := by decide +kernel
theorem dX0_classAt_17 : decode cX0_classAt 17 = .ok (.iload_n 1, 1) := by decide +kernel
theorem dX0_classAt_18 : decode cX0_classAt 18 = .ok (.aaload, 1) := by decide +kernel
theorem dX0_classAt_19 : decode cX0_classAt 19 = .ok (.goto 4, 3) := by decide +kernel
theorem dX1_isOf_0 : decode cX1_isOf 0 = .ok (.aload_n 0, 1) := by decide +kernel
theorem dX1_isOf_1 : decode cX1_isOf 1 = .ok (.getfield 23, 3) := by decide +kernel
theorem dX1_isOf_4 : decode cX1_isOf 4 = .ok (.iload_n 1, 1) := by decide +kernel
theorem dX1_isOf_5 : decode cX1_isOf 5 = .ok (.if_icmp .ne 15, 3) := by decide +kernel
theorem dX1_isOf_20 : decode cX1_isOf 20 = .ok (.iconst 0, 1) := by decide +kernel
theorem dX1_isOf_21 : decode cX1_isOf 21 = .ok (.ireturn, 1) := by decide +kernel
theorem dX1_isOf_8 : decode cX1_isOf 8 = .ok (.aload_n 0, 1) := by decide +kernel
theorem dX1_isOf_9 : decode cX1_isOf 9 = .ok (.getfield 26, 3) := by decide +kernel
theorem dX1_isOf_12 : decode cX1_isOf 12 = .ok (.iload_n 2, 1) := by decide +kernel
theorem dX1_isOf_13 : decode cX1_isOf 13 = .ok (.if_icmp .ne 7, 3) := by decide +kernel
theorem dX1_isOf_16 : decode cX1_isOf 16 = .ok (.iconst 1, 1) := by decide +kernel
theorem dX1_isOf_17 : decode cX1_isOf 17 = .ok (.goto 4, 3) := by decide +kernel
theorem dX0_findClass_0 : decode cX0_findClass 0 = .ok (.iconst 0, 1) := by decide +kernel
theorem dX0_findClass_1 : decode cX0_findClass 1 = .ok (.istore_n 3, 1) := by decide +kernel
theorem dX0_findClass_2 : decode cX0_findClass 2 = .ok (.iload_n 3, 1) := by decide +kernel
theorem dX0_findClass_3 : decode cX0_findClass 3 = .ok (.aload_n 0, 1) := by decide +kernel
theorem dX0_findClass_4 : decode cX0_findClass 4 = .ok (.getfield 15, 3) := by decide +kernel
theorem dX0_findClass_7 : decode cX0_findClass 7 = .ok (.if_icmp .ge 34, 3) := by decide +kernel
theorem dX0_findClass_41 : decode cX0_findClass 41 = .ok (.aconst_null, 1) := by decide +kernel
theorem dX0_findClass_42 : decode cX0_findClass 42 = .ok (.areturn, 1) := by decide +kernel
theorem dX0_findClass_10 : decode cX0_findClass 10 = .ok (.aload_n 0, 1) := by decide +kernel
theorem dX0_findClass_11 : decode cX0_findClass 11 = .ok (.iload_n 3, 1) := by decide +kernel
theorem dX0_findClass_12 : decode cX0_findClass 12 = .ok (.invokevirtual 68, 3) := by decide +kernel
theorem dX0_findClass_15 : decode cX0_findClass 15 = .ok (.astore 4, 2) := by decide +kernel
theorem dX0_findClass_17 : decode cX0_findClass 17 = .ok (.aload 4, 2) := by decide +kernel
theorem dX0_findClass_19 : decode cX0_findClass 19 = .ok (.ifnull 16, 3) := by decide +kernel
theorem dX0_findClass_35 : decode cX0_findClass 35 = .ok (.iinc 3 1, 3) := by decide +kernel
theorem dX0_findClass_38 : decode cX0_findClass 38 = .ok (.goto (-36), 3) := by decide +kernel
theorem dX0_findClass_22 : decode cX0_findClass 22 = .ok (.aload 4, 2) := by decide +kernel
theorem dX0_findClass_24 : decode cX0_findClass 24 = .ok (.iload_n 1, 1) := by decide +kernel
theorem dX0_findClass_25 : decode cX0_findClass 25 = .ok (.iload_n 2, 1) := by decide +kernel
theorem dX0_findClass_26 : decode cX0_findClass 26 = .ok (.invokevirtual 138, 3) := by decide +kernel
theorem dX0_findClass_29 : decode cX0_findClass 29 = .ok (.ifCond .eq 6, 3) := by decide +kernel
theorem dX0_findClass_32 : decode cX0_findClass 32 = .ok (.aload 4, 2) := by decide +kernel
theorem dX0_findClass_34 : decode cX0_findClass 34 = .ok (.areturn, 1) := by decide +kernel
theorem dX1_init_0 : decode cX1_init 0 = .ok (.aload_n 0, 1) := by decide +kernel
theorem dX1_init_1 : decode cX1_init 1 = .ok (.invokespecial 3, 3) := by decide +kernel
theorem dX1_init_4 : decode cX1_init 4 = .ok (.aload_n 0, 1) := by decide +kernel
theorem dX1_init_5 : decode cX1_init 5 = .ok (.iconst 0, 1) := by decide +kernel
theorem dX1_init_6 : decode cX1_init 6 = .ok (.putfield 9, 3) := by decide +kernel
theorem dX1_init_9 : decode cX1_init 9 = .ok (.aload_n 0, 1) := by decide +kernel
theorem dX1_init_10 : decode cX1_init 10 = .ok (.iconst (-1), 1) := by decide +kernel
theorem dX1_init_11 : decode cX1_init 11 = .ok (.putfield 15, 3) := by decide +kernel
theorem dX1_init_14 : decode cX1_init 14 = .ok (.aload_n 0, 1) := by decide +kernel
theorem dX1_init_15 : decode cX1_init 15 = .ok (.lconst 0, 1) := by decide +kernel
theorem dX1_init_16 : decode cX1_init 16 = .ok (.putfield 19, 3) := by decide +kernel
theorem dX1_init_19 : decode cX1_init 19 = .ok (.aload_n 0, 1) := by decide +kernel
theorem dX1_init_20 : decode cX1_init 20 = .ok (.iload_n 1, 1) := by decide +kernel
theorem dX1_init_21 : decode cX1_init 21 = .ok (.putfield 23, 3) := by decide +kernel
theorem dX1_init_24 : decode cX1_init 24 = .ok (.aload_n 0, 1) := by decide +kernel
theorem dX1_init_25 : decode cX1_init 25 = .ok (.iload_n 2, 1) := by decide +kernel
theorem dX1_init_26 : decode cX1_init 26 = .ok (.putfield 26, 3) := by decide +kernel
theorem dX1_init_29 : decode cX1_init 29 = .ok (.aload_n 0, 1) := by decide +kernel
theorem dX1_init_30 : decode cX1_init 30 = .ok (.iload_n 3, 1) := by decide +kernel
theorem dX1_init_31 : decode cX1_init 31 = .ok (.putfield 29, 3) := by decide +kernel
theorem dX1_init_34 : decode cX1_init 34 = .ok (.return_, 1) := by decide +kernel
theorem dX0_rule_0 : decode cX0_rule 0 = .ok (.iload_n 1, 1) := by decide +kernel
theorem dX0_rule_1 : decode cX0_rule 1 = .ok (.iconst 3, 1) := by decide +kernel
theorem dX0_rule_2 : decode cX0_rule 2 = .ok (.invokestatic 57, 3) := by decide +kernel
theorem dX0_rule_5 : decode cX0_rule 5 = .ok (.ifCond .eq 13, 3) := by decide +kernel
theorem dX0_rule_18 : decode cX0_rule 18 = .ok (.bipush (-2), 2) := by decide +kernel
theorem dX0_rule_20 : decode cX0_rule 20 = .ok (.ireturn, 1) := by decide +kernel
theorem dX0_rule_8 : decode cX0_rule 8 = .ok (.iload_n 2, 1) := by decide +kernel
theorem dX0_rule_9 : decode cX0_rule 9 = .ok (.sipush 255, 3) := by decide +kernel
theorem dX0_rule_12 : decode cX0_rule 12 = .ok (.invokestatic 57, 3) := by decide +kernel
theorem dX0_rule_15 : decode cX0_rule 15 = .ok (.ifCond .ne 6, 3) := by decide +kernel
theorem dX0_rule_21 : decode cX0_rule 21 = .ok (.aload_n 0, 1) := by decide +kernel
theorem dX0_rule_22 : decode cX0_rule 22 = .ok (.getfield 15, 3) := by decide +kernel
theorem dX0_rule_25 : decode cX0_rule 25 = .ok (.bipush 16, 2) := by decide +kernel
theorem dX0_rule_27 : decode cX0_rule 27 = .ok (.if_icmp .lt 6, 3) := by decide +kernel
theorem dX0_rule_33 : decode cX0_rule 33 = .ok (.aload_n 0, 1) := by decide +kernel
theorem dX0_rule_34 : decode cX0_rule 34 = .ok (.iload_n 1, 1) := by decide +kernel
theorem dX0_rule_35 : decode cX0_rule 35 = .ok (.iload_n 2, 1) := by decide +kernel
theorem dX0_rule_36 : decode cX0_rule 36 = .ok (.invokevirtual 61, 3) := by decide +kernel
theorem dX0_rule_39 : decode cX0_rule 39 = .ok (.astore 4, 2) := by decide +kernel
theorem dX0_rule_41 : decode cX0_rule 41 = .ok (.aload_n 0, 1) := by decide +kernel
theorem dX0_rule_42 : decode cX0_rule 42 = .ok (.getfield 11, 3) := by decide +kernel
theorem dX0_rule_45 : decode cX0_rule 45 = .ok (.aload_n 0, 1) := by decide +kernel
theorem dX0_rule_46 : decode cX0_rule 46 = .ok (.getfield 15, 3) := by decide +kernel
theorem dX0_rule_49 : decode cX0_rule 49 = .ok (.aload 4, 2) := by decide +kernel
theorem dX0_rule_51 : decode cX0_rule 51 = .ok (.ifnull 8, 3) := by decide +kernel
theorem dX0_rule_59 : decode cX0_rule 59 = .ok (.new 9, 3) := by decide +kernel
theorem dX0_rule_62 : decode cX0_rule 62 = .ok (.dup, 1) := by decide +kernel
theorem dX0_rule_63 : decode cX0_rule 63 = .ok (.iload_n 1, 1) := by decide +kernel
theorem dX0_rule_64 : decode cX0_rule 64 = .ok (.iload_n 2, 1) := by decide +kernel
theorem dX0_rule_65 : decode cX0_rule 65 = .ok (.iload_n 3, 1) := by decide +kernel
theorem dX0_rule_66 : decode cX0_rule 66 = .ok (.invokespecial 65, 3) := by decide +kernel
theorem dX0_rule_69 : decode cX0_rule 69 = .ok (.aastore, 1) := by decide +kernel
theorem dX0_rule_70 : decode cX0_rule 70 = .ok (.aload_n 0, 1) := by decide +kernel
theorem dX0_rule_71 : decode cX0_rule 71 = .ok (.dup, 1) := by decide +kernel
theorem dX0_rule_72 : decode cX0_rule 72 = .ok (.getfield 15, 3) := by decide +kernel
theorem dX0_rule_75 : decode cX0_rule 75 = .ok (.iconst 1, 1) := by decide +kernel
theorem dX0_rule_76 : decode cX0_rule 76 = .ok (.iadd, 1) := by decide +kernel
theorem dX0_rule_77 : decode cX0_rule 77 = .ok (.putfield 15, 3) := by decide +kernel
theorem dX0_rule_80 : decode cX0_rule 80 = .ok (.aload_n 0, 1) := by decide +kernel
theorem dX0_rule_81 : decode cX0_rule 81 = .ok (.getfield 15, 3) := by decide +kernel
theorem dX0_rule_84 : decode cX0_rule 84 = .ok (.iconst 1, 1) := by decide +kernel
theorem dX0_rule_85 : decode cX0_rule 85 = .ok (.isub, 1) := by decide +kernel
theorem dX0_rule_86 : decode cX0_rule 86 = .ok (.ireturn, 1) := by decide +kernel
theorem dX0_rule_54 : decode cX0_rule 54 = .ok (.aload 4, 2) := by decide +kernel
theorem dX0_rule_56 : decode cX0_rule 56 = .ok (.goto 13, 3) := by decide +kernel
theorem dX0_rule_30 : decode cX0_rule 30 = .ok (.bipush (-4), 2) := by decide +kernel
theorem dX0_rule_32 : decode cX0_rule 32 = .ok (.ireturn, 1) := by decide +kernel
theorem dX0_ensureMade_0 : decode cX0_ensureMade 0 = .ok (.aload_n 1, 1) := by decide +kernel
theorem dX0_ensureMade_1 : decode cX0_ensureMade 1 = .ok (.getfield 123, 3) := by decide +kernel
theorem dX0_ensureMade_4 : decode cX0_ensureMade 4 = .ok (.ifCond .ne 33, 3) := by decide +kernel
theorem dX0_ensureMade_37 : decode cX0_ensureMade 37 = .ok (.aload_n 1, 1) := by decide +kernel
theorem dX0_ensureMade_38 : decode cX0_ensureMade 38 = .ok (.getfield 123, 3) := by decide +kernel
theorem dX0_ensureMade_41 : decode cX0_ensureMade 41 = .ok (.ireturn, 1) := by decide +kernel
theorem dX0_ensureMade_7 : decode cX0_ensureMade 7 = .ok (.aload_n 1, 1) := by decide +kernel
theorem dX0_ensureMade_8 : decode cX0_ensureMade 8 = .ok (.getfield 153, 3) := by decide +kernel
theorem dX0_ensureMade_11 : decode cX0_ensureMade 11 = .ok (.ifCond .ne 26, 3) := by decide +kernel
theorem dX0_ensureMade_14 : decode cX0_ensureMade 14 = .ok (.aload_n 1, 1) := by decide +kernel
theorem dX0_ensureMade_15 : decode cX0_ensureMade 15 = .ok (.iconst 1, 1) := by decide +kernel
theorem dX0_ensureMade_16 : decode cX0_ensureMade 16 = .ok (.putfield 123, 3) := by decide +kernel
theorem dX0_ensureMade_19 : decode cX0_ensureMade 19 = .ok (.aload_n 1, 1) := by decide +kernel
theorem dX0_ensureMade_20 : decode cX0_ensureMade 20 = .ok (.aload_n 0, 1) := by decide +kernel
theorem dX0_ensureMade_21 : decode cX0_ensureMade 21 = .ok (.getfield 19, 3) := by decide +kernel
theorem dX0_ensureMade_24 : decode cX0_ensureMade 24 = .ok (.putfield 76, 3) := by decide +kernel
theorem dX0_ensureMade_27 : decode cX0_ensureMade 27 = .ok (.aload_n 0, 1) := by decide +kernel
theorem dX0_ensureMade_28 : decode cX0_ensureMade 28 = .ok (.dup, 1) := by decide +kernel
theorem dX0_ensureMade_29 : decode cX0_ensureMade 29 = .ok (.getfield 19, 3) := by decide +kernel
theorem dX0_ensureMade_32 : decode cX0_ensureMade 32 = .ok (.iconst 1, 1) := by decide +kernel
theorem dX0_ensureMade_33 : decode cX0_ensureMade 33 = .ok (.iadd, 1) := by decide +kernel
theorem dX0_ensureMade_34 : decode cX0_ensureMade 34 = .ok (.putfield 19, 3) := by decide +kernel
theorem dX0_make_0 : decode cX0_make 0 = .ok (.aload_n 0, 1) := by decide +kernel
theorem dX0_make_1 : decode cX0_make 1 = .ok (.iload_n 1, 1) := by decide +kernel
theorem dX0_make_2 : decode cX0_make 2 = .ok (.invokevirtual 68, 3) := by decide +kernel
theorem dX0_make_5 : decode cX0_make 5 = .ok (.astore_n 2, 1) := by decide +kernel
theorem dX0_make_6 : decode cX0_make 6 = .ok (.aload_n 2, 1) := by decide +kernel
theorem dX0_make_7 : decode cX0_make 7 = .ok (.ifnull 11, 3) := by decide +kernel
theorem dX0_make_18 : decode cX0_make 18 = .ok (.iconst (-1), 1) := by decide +kernel
theorem dX0_make_19 : decode cX0_make 19 = .ok (.ireturn, 1) := by decide +kernel
theorem dX0_make_10 : decode cX0_make 10 = .ok (.aload_n 0, 1) := by decide +kernel
theorem dX0_make_11 : decode cX0_make 11 = .ok (.aload_n 2, 1) := by decide +kernel
theorem dX0_make_12 : decode cX0_make 12 = .ok (.invokevirtual 72, 3) := by decide +kernel
theorem dX0_make_15 : decode cX0_make 15 = .ok (.ifCond .ne 5, 3) := by decide +kernel
theorem dX0_make_20 : decode cX0_make 20 = .ok (.aload_n 2, 1) := by decide +kernel
theorem dX0_make_21 : decode cX0_make 21 = .ok (.getfield 76, 3) := by decide +kernel
theorem dX0_make_24 : decode cX0_make 24 = .ok (.ireturn, 1) := by decide +kernel
theorem dX0_targetAt_0 : decode cX0_targetAt 0 = .ok (.iload_n 1, 1) := by decide +kernel
theorem dX0_targetAt_1 : decode cX0_targetAt 1 = .ok (.aload_n 0, 1) := by decide +kernel
theorem dX0_targetAt_2 : decode cX0_targetAt 2 = .ok (.getfield 28, 3) := by decide +kernel
theorem dX0_targetAt_5 : decode cX0_targetAt 5 = .ok (.iconst 1, 1) := by decide +kernel
theorem dX0_targetAt_6 : decode cX0_targetAt 6 = .ok (.isub, 1) := by decide +kernel
theorem dX0_targetAt_7 : decode cX0_targetAt 7 = .ok (.invokestatic 57, 3) := by decide +kernel
theorem dX0_targetAt_10 : decode cX0_targetAt 10 = .ok (.ifCond .eq 12, 3) := by decide +kernel
theorem dX0_targetAt_22 : decode cX0_targetAt 22 = .ok (.aconst_null, 1) := by decide +kernel
theorem dX0_targetAt_23 : decode cX0_targetAt 23 = .ok (.areturn, 1) := by decide +kernel
theorem dX0_targetAt_13 : decode cX0_targetAt 13 = .ok (.aload_n 0, 1) := by decide +kernel
theorem dX0_targetAt_14 : decode cX0_targetAt 14 = .ok (.getfield 24, 3) := by decide +kernel
theorem dX0_targetAt_17 : decode cX0_targetAt 17 = .ok (.iload_n 1, 1) := by decide +kernel
theorem dX0_targetAt_18 : decode cX0_targetAt 18 = .ok (.aaload, 1) := by decide +kernel
theorem dX0_targetAt_19 : decode cX0_targetAt 19 = .ok (.goto 4, 3) := by decide +kernel
theorem dX0_mayBecome_0 : decode cX0_mayBecome 0 = .ok (.iload_n 1, 1) := by decide +kernel
theorem dX0_mayBecome_1 : decode cX0_mayBecome 1 = .ok (.tableswitch 53 0 3 #[31, 53, 38, 47], 31) := by decide +kernel
theorem dX0_mayBecome_32 : decode cX0_mayBecome 32 = .ok (.iload_n 2, 1) := by decide +kernel
theorem dX0_mayBecome_33 : decode cX0_mayBecome 33 = .ok (.bipush 20, 2) := by decide +kernel
theorem dX0_mayBecome_35 : decode cX0_mayBecome 35 = .ok (.invokestatic 57, 3) := by decide +kernel
theorem dX0_mayBecome_38 : decode cX0_mayBecome 38 = .ok (.ireturn, 1) := by decide +kernel
theorem dX0_mayBecome_54 : decode cX0_mayBecome 54 = .ok (.iconst 1, 1) := by decide +kernel
theorem dX0_mayBecome_55 : decode cX0_mayBecome 55 = .ok (.ireturn, 1) := by decide +kernel
theorem dX0_mayBecome_39 : decode cX0_mayBecome 39 = .ok (.iload_n 2, 1) := by decide +kernel
theorem dX0_mayBecome_40 : decode cX0_mayBecome 40 = .ok (.aload_n 0, 1) := by decide +kernel
theorem dX0_mayBecome_41 : decode cX0_mayBecome 41 = .ok (.getfield 156, 3) := by decide +kernel
theorem dX0_mayBecome_44 : decode cX0_mayBecome 44 = .ok (.invokestatic 57, 3) := by decide +kernel
theorem dX0_mayBecome_47 : decode cX0_mayBecome 47 = .ok (.ireturn, 1) := by decide +kernel
theorem dX0_mayBecome_48 : decode cX0_mayBecome 48 = .ok (.iload_n 2, 1) := by decide +kernel
theorem dX0_mayBecome_49 : decode cX0_mayBecome 49 = .ok (.iconst 1, 1) := by decide +kernel
theorem dX0_mayBecome_50 : decode cX0_mayBecome 50 = .ok (.invokestatic 57, 3) := by decide +kernel
theorem dX0_mayBecome_53 : decode cX0_mayBecome 53 = .ok (.ireturn, 1) := by decide +kernel
theorem dX0_attribute_0 : decode cX0_attribute 0 = .ok (.aload_n 0, 1) := by decide +kernel
theorem dX0_attribute_1 : decode cX0_attribute 1 = .ok (.iload_n 1, 1) := by decide +kernel
theorem dX0_attribute_2 : decode cX0_attribute 2 = .ok (.invokevirtual 79, 3) := by decide +kernel
theorem dX0_attribute_5 : decode cX0_attribute 5 = .ok (.astore 4, 2) := by decide +kernel
theorem dX0_attribute_7 : decode cX0_attribute 7 = .ok (.aload 4, 2) := by decide +kernel
theorem dX0_attribute_9 : decode cX0_attribute 9 = .ok (.ifnull 11, 3) := by decide +kernel
theorem dX0_attribute_20 : decode cX0_attribute 20 = .ok (.iconst (-1), 1) := by decide +kernel
theorem dX0_attribute_21 : decode cX0_attribute 21 = .ok (.ireturn, 1) := by decide +kernel
theorem dX0_attribute_12 : decode cX0_attribute 12 = .ok (.iload_n 2, 1) := by decide +kernel
theorem dX0_attribute_13 : decode cX0_attribute 13 = .ok (.iconst 3, 1) := by decide +kernel
theorem dX0_attribute_14 : decode cX0_attribute 14 = .ok (.invokestatic 57, 3) := by decide +kernel
theorem dX0_attribute_17 : decode cX0_attribute 17 = .ok (.ifCond .ne 5, 3) := by decide +kernel
theorem dX0_attribute_22 : decode cX0_attribute 22 = .ok (.aload 4, 2) := by decide +kernel
theorem dX0_attribute_24 : decode cX0_attribute 24 = .ok (.iload_n 2, 1) := by decide +kernel
theorem dX0_attribute_25 : decode cX0_attribute 25 = .ok (.iload_n 3, 1) := by decide +kernel
theorem dX0_attribute_26 : decode cX0_attribute 26 = .ok (.invokestatic 83, 3) := by decide +kernel
theorem dX0_attribute_29 : decode cX0_attribute 29 = .ok (.ifCond .ne 6, 3) := by decide +kernel
theorem dX0_attribute_35 : decode cX0_attribute 35 = .ok (.aload 4, 2) := by decide +kernel
theorem dX0_attribute_37 : decode cX0_attribute 37 = .ok (.getfield 87, 3) := by decide +kernel
theorem dX0_attribute_40 : decode cX0_attribute 40 = .ok (.ifCond .eq 6, 3) := by decide +kernel
theorem dX0_attribute_46 : decode cX0_attribute 46 = .ok (.aload 4, 2) := by decide +kernel
theorem dX0_attribute_48 : decode cX0_attribute 48 = .ok (.getfield 91, 3) := by decide +kernel
theorem dX0_attribute_51 : decode cX0_attribute 51 = .ok (.iload_n 2, 1) := by decide +kernel
theorem dX0_attribute_52 : decode cX0_attribute 52 = .ok (.iaload, 1) := by decide +kernel
theorem dX0_attribute_53 : decode cX0_attribute 53 = .ok (.istore 5, 2) := by decide +kernel
theorem dX0_attribute_55 : decode cX0_attribute 55 = .ok (.aload 4, 2) := by decide +kernel
theorem dX0_attribute_57 : decode cX0_attribute 57 = .ok (.getfield 91, 3) := by decide +kernel
theorem dX0_attribute_60 : decode cX0_attribute 60 = .ok (.iload_n 2, 1) := by decide +kernel
theorem dX0_attribute_61 : decode cX0_attribute 61 = .ok (.iload_n 3, 1) := by decide +kernel
theorem dX0_attribute_62 : decode cX0_attribute 62 = .ok (.iastore, 1) := by decide +kernel
theorem dX0_attribute_63 : decode cX0_attribute 63 = .ok (.iload 5, 2) := by decide +kernel
theorem dX0_attribute_65 : decode cX0_attribute 65 = .ok (.ireturn, 1) := by decide +kernel
theorem dX0_attribute_43 : decode cX0_attribute 43 = .ok (.bipush (-3), 2) := by decide +kernel
theorem dX0_attribute_45 : decode cX0_attribute 45 = .ok (.ireturn, 1) := by decide +kernel
theorem dX0_attribute_32 : decode cX0_attribute 32 = .ok (.bipush (-2), 2) := by decide +kernel
theorem dX0_attribute_34 : decode cX0_attribute 34 = .ok (.ireturn, 1) := by decide +kernel
theorem dX2_init_0 : decode cX2_init 0 = .ok (.aload_n 0, 1) := by decide +kernel
theorem dX2_init_1 : decode cX2_init 1 = .ok (.invokespecial 3, 3) := by decide +kernel
theorem dX2_init_4 : decode cX2_init 4 = .ok (.aload_n 0, 1) := by decide +kernel
theorem dX2_init_5 : decode cX2_init 5 = .ok (.iconst 4, 1) := by decide +kernel
theorem dX2_init_6 : decode cX2_init 6 = .ok (.newarray .int, 2) := by decide +kernel
theorem dX2_init_8 : decode cX2_init 8 = .ok (.putfield 9, 3) := by decide +kernel
theorem dX2_init_11 : decode cX2_init 11 = .ok (.aload_n 0, 1) := by decide +kernel
theorem dX2_init_12 : decode cX2_init 12 = .ok (.iconst 3, 1) := by decide +kernel
theorem dX2_init_13 : decode cX2_init 13 = .ok (.newarray .int, 2) := by decide +kernel
theorem dX2_init_15 : decode cX2_init 15 = .ok (.putfield 15, 3) := by decide +kernel
theorem dX2_init_18 : decode cX2_init 18 = .ok (.aload_n 0, 1) := by decide +kernel
theorem dX2_init_19 : decode cX2_init 19 = .ok (.iconst 3, 1) := by decide +kernel
theorem dX2_init_20 : decode cX2_init 20 = .ok (.newarray .boolean, 2) := by decide +kernel
theorem dX2_init_22 : decode cX2_init 22 = .ok (.putfield 18, 3) := by decide +kernel
theorem dX2_init_25 : decode cX2_init 25 = .ok (.aload_n 0, 1) := by decide +kernel
theorem dX2_init_26 : decode cX2_init 26 = .ok (.iconst 0, 1) := by decide +kernel
theorem dX2_init_27 : decode cX2_init 27 = .ok (.putfield 22, 3) := by decide +kernel
theorem dX2_init_30 : decode cX2_init 30 = .ok (.aload_n 0, 1) := by decide +kernel
theorem dX2_init_31 : decode cX2_init 31 = .ok (.iconst 0, 1) := by decide +kernel
theorem dX2_init_32 : decode cX2_init 32 = .ok (.putfield 26, 3) := by decide +kernel
theorem dX2_init_35 : decode cX2_init 35 = .ok (.aload_n 0, 1) := by decide +kernel
theorem dX2_init_36 : decode cX2_init 36 = .ok (.iconst 0, 1) := by decide +kernel
theorem dX2_init_37 : decode cX2_init 37 = .ok (.putfield 29, 3) := by decide +kernel
theorem dX2_init_40 : decode cX2_init 40 = .ok (.aload_n 0, 1) := by decide +kernel
theorem dX2_init_41 : decode cX2_init 41 = .ok (.iconst 0, 1) := by decide +kernel
theorem dX2_init_42 : decode cX2_init 42 = .ok (.putfield 33, 3) := by decide +kernel
theorem dX2_init_45 : decode cX2_init 45 = .ok (.aload_n 0, 1) := by decide +kernel
theorem dX2_init_46 : decode cX2_init 46 = .ok (.iconst 0, 1) := by decide +kernel
theorem dX2_init_47 : decode cX2_init 47 = .ok (.putfield 36, 3) := by decide +kernel
theorem dX2_init_50 : decode cX2_init 50 = .ok (.aload_n 0, 1) := by decide +kernel
theorem dX2_init_51 : decode cX2_init 51 = .ok (.iconst 0, 1) := by decide +kernel
theorem dX2_init_52 : decode cX2_init 52 = .ok (.putfield 39, 3) := by decide +kernel
theorem dX2_init_55 : decode cX2_init 55 = .ok (.aload_n 0, 1) := by decide +kernel
theorem dX2_init_56 : decode cX2_init 56 = .ok (.iconst 0, 1) := by decide +kernel
theorem dX2_init_57 : decode cX2_init 57 = .ok (.putfield 42, 3) := by decide +kernel
theorem dX2_init_60 : decode cX2_init 60 = .ok (.aload_n 0, 1) := by decide +kernel
theorem dX2_init_61 : decode cX2_init 61 = .ok (.iload_n 1, 1) := by decide +kernel
theorem dX2_init_62 : decode cX2_init 62 = .ok (.putfield 45, 3) := by decide +kernel
theorem dX2_init_65 : decode cX2_init 65 = .ok (.aload_n 0, 1) := by decide +kernel
theorem dX2_init_66 : decode cX2_init 66 = .ok (.aload_n 2, 1) := by decide +kernel
theorem dX2_init_67 : decode cX2_init 67 = .ok (.putfield 48, 3) := by decide +kernel
theorem dX2_init_70 : decode cX2_init 70 = .ok (.return_, 1) := by decide +kernel
theorem dX0_target_0 : decode cX0_target 0 = .ok (.aload_n 0, 1) := by decide +kernel
theorem dX0_target_1 : decode cX0_target 1 = .ok (.iload_n 1, 1) := by decide +kernel
theorem dX0_target_2 : decode cX0_target 2 = .ok (.invokevirtual 68, 3) := by decide +kernel
theorem dX0_target_5 : decode cX0_target 5 = .ok (.astore_n 2, 1) := by decide +kernel
theorem dX0_target_6 : decode cX0_target 6 = .ok (.aload_n 2, 1) := by decide +kernel
theorem dX0_target_7 : decode cX0_target 7 = .ok (.ifnonnull 5, 3) := by decide +kernel
theorem dX0_target_10 : decode cX0_target 10 = .ok (.iconst (-1), 1) := by decide +kernel
theorem dX0_target_11 : decode cX0_target 11 = .ok (.ireturn, 1) := by decide +kernel
theorem dX0_target_12 : decode cX0_target 12 = .ok (.aload_n 0, 1) := by decide +kernel
theorem dX0_target_13 : decode cX0_target 13 = .ok (.getfield 28, 3) := by decide +kernel
theorem dX0_target_16 : decode cX0_target 16 = .ok (.bipush 40, 2) := by decide +kernel
theorem dX0_target_18 : decode cX0_target 18 = .ok (.if_icmp .lt 6, 3) := by decide +kernel
theorem dX0_target_24 : decode cX0_target 24 = .ok (.aload_n 0, 1) := by decide +kernel
theorem dX0_target_25 : decode cX0_target 25 = .ok (.getfield 24, 3) := by decide +kernel
theorem dX0_target_28 : decode cX0_target 28 = .ok (.aload_n 0, 1) := by decide +kernel
theorem dX0_target_29 : decode cX0_target 29 = .ok (.getfield 28, 3) := by decide +kernel
theorem dX0_target_32 : decode cX0_target 32 = .ok (.new 22, 3) := by decide +kernel
theorem dX0_target_35 : decode cX0_target 35 = .ok (.dup, 1) := by decide +kernel
theorem dX0_target_36 : decode cX0_target 36 = .ok (.aload_n 0, 1) := by decide +kernel
theorem dX0_target_37 : decode cX0_target 37 = .ok (.getfield 28, 3) := by decide +kernel
theorem dX0_target_40 : decode cX0_target 40 = .ok (.aload_n 2, 1) := by decide +kernel
theorem dX0_target_41 : decode cX0_target 41 = .ok (.invokespecial 94, 3) := by decide +kernel
theorem dX0_target_44 : decode cX0_target 44 = .ok (.aastore, 1) := by decide +kernel
theorem dX0_target_45 : decode cX0_target 45 = .ok (.aload_n 0, 1) := by decide +kernel
theorem dX0_target_46 : decode cX0_target 46 = .ok (.dup, 1) := by decide +kernel
theorem dX0_target_47 : decode cX0_target 47 = .ok (.getfield 28, 3) := by decide +kernel
theorem dX0_target_50 : decode cX0_target 50 = .ok (.iconst 1, 1) := by decide +kernel
theorem dX0_target_51 : decode cX0_target 51 = .ok (.iadd, 1) := by decide +kernel
theorem dX0_target_52 : decode cX0_target 52 = .ok (.putfield 28, 3) := by decide +kernel
theorem dX0_target_55 : decode cX0_target 55 = .ok (.aload_n 0, 1) := by decide +kernel
theorem dX0_target_56 : decode cX0_target 56 = .ok (.getfield 28, 3) := by decide +kernel
theorem dX0_target_59 : decode cX0_target 59 = .ok (.iconst 1, 1) := by decide +kernel
theorem dX0_target_60 : decode cX0_target 60 = .ok (.isub, 1) := by decide +kernel
theorem dX0_target_61 : decode cX0_target 61 = .ok (.ireturn, 1) := by decide +kernel
theorem dX0_target_21 : decode cX0_target 21 = .ok (.bipush (-4), 2) := by decide +kernel
theorem dX0_target_23 : decode cX0_target 23 = .ok (.ireturn, 1) := by decide +kernel
theorem dX2_fail_0 : decode cX2_fail 0 = .ok (.aload_n 0, 1) := by decide +kernel
theorem dX2_fail_1 : decode cX2_fail 1 = .ok (.iload_n 1, 1) := by decide +kernel
theorem dX2_fail_2 : decode cX2_fail 2 = .ok (.putfield 36, 3) := by decide +kernel
theorem dX2_fail_5 : decode cX2_fail 5 = .ok (.aload_n 0, 1) := by decide +kernel
theorem dX2_fail_6 : decode cX2_fail 6 = .ok (.iload_n 2, 1) := by decide +kernel
theorem dX2_fail_7 : decode cX2_fail 7 = .ok (.putfield 39, 3) := by decide +kernel
theorem dX2_fail_10 : decode cX2_fail 10 = .ok (.aload_n 0, 1) := by decide +kernel
theorem dX2_fail_11 : decode cX2_fail 11 = .ok (.iload_n 3, 1) := by decide +kernel
theorem dX2_fail_12 : decode cX2_fail 12 = .ok (.putfield 42, 3) := by decide +kernel
theorem dX2_fail_15 : decode cX2_fail 15 = .ok (.aload_n 0, 1) := by decide +kernel
theorem dX2_fail_16 : decode cX2_fail 16 = .ok (.iconst 0, 1) := by decide +kernel
theorem dX2_fail_17 : decode cX2_fail 17 = .ok (.putfield 33, 3) := by decide +kernel
theorem dX2_fail_20 : decode cX2_fail 20 = .ok (.iconst 0, 1) := by decide +kernel
theorem dX2_fail_21 : decode cX2_fail 21 = .ok (.istore 4, 2) := by decide +kernel
theorem dX2_fail_23 : decode cX2_fail 23 = .ok (.iload 4, 2) := by decide +kernel
theorem dX2_fail_25 : decode cX2_fail 25 = .ok (.iconst 3, 1) := by decide +kernel
theorem dX2_fail_26 : decode cX2_fail 26 = .ok (.if_icmp .ge 17, 3) := by decide +kernel
theorem dX2_fail_43 : decode cX2_fail 43 = .ok (.return_, 1) := by decide +kernel
theorem dX2_fail_29 : decode cX2_fail 29 = .ok (.aload_n 0, 1) := by decide +kernel
theorem dX2_fail_30 : decode cX2_fail 30 = .ok (.getfield 18, 3) := by decide +kernel
theorem dX2_fail_33 : decode cX2_fail 33 = .ok (.iload 4, 2) := by decide +kernel
theorem dX2_fail_35 : decode cX2_fail 35 = .ok (.iconst 0, 1) := by decide +kernel
theorem dX2_fail_36 : decode cX2_fail 36 = .ok (.bastore, 1) := by decide +kernel
theorem dX2_fail_37 : decode cX2_fail 37 = .ok (.iinc 4 1, 3) := by decide +kernel
theorem dX2_fail_40 : decode cX2_fail 40 = .ok (.goto (-17), 3) := by decide +kernel
theorem dX0_takesStep_0 : decode cX0_takesStep 0 = .ok (.aload_n 1, 1) := by decide +kernel
theorem dX0_takesStep_1 : decode cX0_takesStep 1 = .ok (.getfield 177, 3) := by decide +kernel
theorem dX0_takesStep_4 : decode cX0_takesStep 4 = .ok (.aload_n 0, 1) := by decide +kernel
theorem dX0_takesStep_5 : decode cX0_takesStep 5 = .ok (.getfield 54, 3) := by decide +kernel
theorem dX0_takesStep_8 : decode cX0_takesStep 8 = .ok (.if_icmp .lt 5, 3) := by decide +kernel
theorem dX0_takesStep_13 : decode cX0_takesStep 13 = .ok (.aload_n 1, 1) := by decide +kernel
theorem dX0_takesStep_14 : decode cX0_takesStep 14 = .ok (.dup, 1) := by decide +kernel
theorem dX0_takesStep_15 : decode cX0_takesStep 15 = .ok (.getfield 177, 3) := by decide +kernel
theorem dX0_takesStep_18 : decode cX0_takesStep 18 = .ok (.iconst 1, 1) := by decide +kernel
theorem dX0_takesStep_19 : decode cX0_takesStep 19 = .ok (.iadd, 1) := by decide +kernel
theorem dX0_takesStep_20 : decode cX0_takesStep 20 = .ok (.putfield 177, 3) := by decide +kernel
theorem dX0_takesStep_23 : decode cX0_takesStep 23 = .ok (.iconst 1, 1) := by decide +kernel
theorem dX0_takesStep_24 : decode cX0_takesStep 24 = .ok (.ireturn, 1) := by decide +kernel
theorem dX0_takesStep_11 : decode cX0_takesStep 11 = .ok (.iconst 0, 1) := by decide +kernel
theorem dX0_takesStep_12 : decode cX0_takesStep 12 = .ok (.ireturn, 1) := by decide +kernel
theorem dX0_declareOutput_0 : decode cX0_declareOutput 0 = .ok (.aload_n 0, 1) := by decide +kernel
theorem dX0_declareOutput_1 : decode cX0_declareOutput 1 = .ok (.getfield 204, 3) := by decide +kernel
theorem dX0_declareOutput_4 : decode cX0_declareOutput 4 = .ok (.ifCond .eq 5, 3) := by decide +kernel
theorem dX0_declareOutput_9 : decode cX0_declareOutput 9 = .ok (.aload_n 0, 1) := by decide +kernel
theorem dX0_declareOutput_10 : decode cX0_declareOutput 10 = .ok (.iconst 1, 1) := by decide +kernel
theorem dX0_declareOutput_11 : decode cX0_declareOutput 11 = .ok (.putfield 204, 3) := by decide +kernel
theorem dX0_declareOutput_14 : decode cX0_declareOutput 14 = .ok (.iconst 0, 1) := by decide +kernel
theorem dX0_declareOutput_15 : decode cX0_declareOutput 15 = .ok (.ireturn, 1) := by decide +kernel
theorem dX0_declareOutput_7 : decode cX0_declareOutput 7 = .ok (.iconst 2, 1) := by decide +kernel
theorem dX0_declareOutput_8 : decode cX0_declareOutput 8 = .ok (.ireturn, 1) := by decide +kernel
theorem dX0_addActions_0 : decode cX0_addActions 0 = .ok (.aload_n 1, 1) := by decide +kernel
theorem dX0_addActions_1 : decode cX0_addActions 1 = .ok (.getfield 91, 3) := by decide +kernel
theorem dX0_addActions_4 : decode cX0_addActions 4 = .ok (.iconst 0, 1) := by decide +kernel
theorem dX0_addActions_5 : decode cX0_addActions 5 = .ok (.iaload, 1) := by decide +kernel
theorem dX0_addActions_6 : decode cX0_addActions 6 = .ok (.istore_n 2, 1) := by decide +kernel
theorem dX0_addActions_7 : decode cX0_addActions 7 = .ok (.iconst 0, 1) := by decide +kernel
theorem dX0_addActions_8 : decode cX0_addActions 8 = .ok (.istore_n 3, 1) := by decide +kernel
theorem dX0_addActions_9 : decode cX0_addActions 9 = .ok (.iload_n 3, 1) := by decide +kernel
theorem dX0_addActions_10 : decode cX0_addActions 10 = .ok (.iload_n 2, 1) := by decide +kernel
theorem dX0_addActions_11 : decode cX0_addActions 11 = .ok (.if_icmp .ge 75, 3) := by decide +kernel
theorem dX0_addActions_86 : decode cX0_addActions 86 = .ok (.iconst 0, 1) := by decide +kernel
theorem dX0_addActions_87 : decode cX0_addActions 87 = .ok (.ireturn, 1) := by decide +kernel
theorem dX0_addActions_14 : decode cX0_addActions 14 = .ok (.aload_n 0, 1) := by decide +kernel
theorem dX0_addActions_15 : decode cX0_addActions 15 = .ok (.aload_n 1, 1) := by decide +kernel
theorem dX0_addActions_16 : decode cX0_addActions 16 = .ok (.invokevirtual 169, 3) := by decide +kernel
theorem dX0_addActions_19 : decode cX0_addActions 19 = .ok (.ifCond .ne 5, 3) := by decide +kernel
theorem dX0_addActions_24 : decode cX0_addActions 24 = .ok (.aload_n 0, 1) := by decide +kernel
theorem dX0_addActions_25 : decode cX0_addActions 25 = .ok (.getfield 38, 3) := by decide +kernel
theorem dX0_addActions_28 : decode cX0_addActions 28 = .ok (.sipush 400, 3) := by decide +kernel
theorem dX0_addActions_31 : decode cX0_addActions 31 = .ok (.if_icmp .lt 6, 3) := by decide +kernel
theorem dX0_addActions_37 : decode cX0_addActions 37 = .ok (.aload_n 0, 1) := by decide +kernel
theorem dX0_addActions_38 : decode cX0_addActions 38 = .ok (.getfield 31, 3) := by decide +kernel
theorem dX0_addActions_41 : decode cX0_addActions 41 = .ok (.aload_n 0, 1) := by decide +kernel
theorem dX0_addActions_42 : decode cX0_addActions 42 = .ok (.getfield 38, 3) := by decide +kernel
theorem dX0_addActions_45 : decode cX0_addActions 45 = .ok (.aload_n 1, 1) := by decide +kernel
theorem dX0_addActions_46 : decode cX0_addActions 46 = .ok (.getfield 156, 3) := by decide +kernel
theorem dX0_addActions_49 : decode cX0_addActions 49 = .ok (.iastore, 1) := by decide +kernel
theorem dX0_addActions_50 : decode cX0_addActions 50 = .ok (.aload_n 0, 1) := by decide +kernel
theorem dX0_addActions_51 : decode cX0_addActions 51 = .ok (.getfield 35, 3) := by decide +kernel
theorem dX0_addActions_54 : decode cX0_addActions 54 = .ok (.aload_n 0, 1) := by decide +kernel
theorem dX0_addActions_55 : decode cX0_addActions 55 = .ok (.getfield 38, 3) := by decide +kernel
theorem dX0_addActions_58 : decode cX0_addActions 58 = .ok (.iload_n 3, 1) := by decide +kernel
theorem dX0_addActions_59 : decode cX0_addActions 59 = .ok (.iastore, 1) := by decide +kernel
theorem dX0_addActions_60 : decode cX0_addActions 60 = .ok (.aload_n 0, 1) := by decide +kernel
theorem dX0_addActions_61 : decode cX0_addActions 61 = .ok (.dup, 1) := by decide +kernel
theorem dX0_addActions_62 : decode cX0_addActions 62 = .ok (.getfield 38, 3) := by decide +kernel
theorem dX0_addActions_65 : decode cX0_addActions 65 = .ok (.iconst 1, 1) := by decide +kernel
theorem dX0_addActions_66 : decode cX0_addActions 66 = .ok (.iadd, 1) := by decide +kernel
theorem dX0_addActions_67 : decode cX0_addActions 67 = .ok (.putfield 38, 3) := by decide +kernel
theorem dX0_addActions_70 : decode cX0_addActions 70 = .ok (.aload_n 1, 1) := by decide +kernel
theorem dX0_addActions_71 : decode cX0_addActions 71 = .ok (.dup, 1) := by decide +kernel
theorem dX0_addActions_72 : decode cX0_addActions 72 = .ok (.getfield 104, 3) := by decide +kernel
theorem dX0_addActions_75 : decode cX0_addActions 75 = .ok (.iconst 1, 1) := by decide +kernel
theorem dX0_addActions_76 : decode cX0_addActions 76 = .ok (.iadd, 1) := by decide +kernel
theorem dX0_addActions_77 : decode cX0_addActions 77 = .ok (.putfield 104, 3) := by decide +kernel
theorem dX0_addActions_80 : decode cX0_addActions 80 = .ok (.iinc 3 1, 3) := by decide +kernel
theorem dX0_addActions_83 : decode cX0_addActions 83 = .ok (.goto (-74), 3) := by decide +kernel
theorem dX0_addActions_34 : decode cX0_addActions 34 = .ok (.bipush 7, 2) := by decide +kernel
theorem dX0_addActions_36 : decode cX0_addActions 36 = .ok (.ireturn, 1) := by decide +kernel
theorem dX0_addActions_22 : decode cX0_addActions 22 = .ok (.iconst 5, 1) := by decide +kernel
theorem dX0_addActions_23 : decode cX0_addActions 23 = .ok (.ireturn, 1) := by decide +kernel
theorem dX2_give_0 : decode cX2_give 0 = .ok (.aload_n 0, 1) := by decide +kernel
theorem dX2_give_1 : decode cX2_give 1 = .ok (.getfield 15, 3) := by decide +kernel
theorem dX2_give_4 : decode cX2_give 4 = .ok (.iload_n 1, 1) := by decide +kernel
theorem dX2_give_5 : decode cX2_give 5 = .ok (.iload_n 2, 1) := by decide +kernel
theorem dX2_give_6 : decode cX2_give 6 = .ok (.iastore, 1) := by decide +kernel
theorem dX2_give_7 : decode cX2_give 7 = .ok (.aload_n 0, 1) := by decide +kernel
theorem dX2_give_8 : decode cX2_give 8 = .ok (.getfield 18, 3) := by decide +kernel
theorem dX2_give_11 : decode cX2_give 11 = .ok (.iload_n 1, 1) := by decide +kernel
theorem dX2_give_12 : decode cX2_give 12 = .ok (.iconst 1, 1) := by decide +kernel
theorem dX2_give_13 : decode cX2_give 13 = .ok (.bastore, 1) := by decide +kernel
theorem dX2_give_14 : decode cX2_give 14 = .ok (.return_, 1) := by decide +kernel
theorem dX0_giveQuotient_0 : decode cX0_giveQuotient 0 = .ok (.aload_n 0, 1) := by decide +kernel
theorem dX0_giveQuotient_1 : decode cX0_giveQuotient 1 = .ok (.getfield 91, 3) := by decide +kernel
theorem dX0_giveQuotient_4 : decode cX0_giveQuotient 4 = .ok (.iconst 1, 1) := by decide +kernel
theorem dX0_giveQuotient_5 : decode cX0_giveQuotient 5 = .ok (.iaload, 1) := by decide +kernel
theorem dX0_giveQuotient_6 : decode cX0_giveQuotient 6 = .ok (.istore_n 1, 1) := by decide +kernel
theorem dX0_giveQuotient_7 : decode cX0_giveQuotient 7 = .ok (.iload_n 1, 1) := by decide +kernel
theorem dX0_giveQuotient_8 : decode cX0_giveQuotient 8 = .ok (.ifCond .ne 5, 3) := by decide +kernel
theorem dX0_giveQuotient_13 : decode cX0_giveQuotient 13 = .ok (.aload_n 0, 1) := by decide +kernel
theorem dX0_giveQuotient_14 : decode cX0_giveQuotient 14 = .ok (.iconst 1, 1) := by decide +kernel
theorem dX0_giveQuotient_15 : decode cX0_giveQuotient 15 = .ok (.aload_n 0, 1) := by decide +kernel
theorem dX0_giveQuotient_16 : decode cX0_giveQuotient 16 = .ok (.getfield 91, 3) := by decide +kernel
theorem dX0_giveQuotient_19 : decode cX0_giveQuotient 19 = .ok (.iconst 0, 1) := by decide +kernel
theorem dX0_giveQuotient_20 : decode cX0_giveQuotient 20 = .ok (.iaload, 1) := by decide +kernel
theorem dX0_giveQuotient_21 : decode cX0_giveQuotient 21 = .ok (.iload_n 1, 1) := by decide +kernel
theorem dX0_giveQuotient_22 : decode cX0_giveQuotient 22 = .ok (.idiv, 1) := by decide +kernel
theorem dX0_giveQuotient_23 : decode cX0_giveQuotient 23 = .ok (.invokevirtual 207, 3) := by decide +kernel
theorem dX0_giveQuotient_26 : decode cX0_giveQuotient 26 = .ok (.iconst 0, 1) := by decide +kernel
theorem dX0_giveQuotient_27 : decode cX0_giveQuotient 27 = .ok (.ireturn, 1) := by decide +kernel
theorem dX0_giveQuotient_11 : decode cX0_giveQuotient 11 = .ok (.iconst 3, 1) := by decide +kernel
theorem dX0_giveQuotient_12 : decode cX0_giveQuotient 12 = .ok (.ireturn, 1) := by decide +kernel
theorem dX0_giveOneMore_0 : decode cX0_giveOneMore 0 = .ok (.aload_n 1, 1) := by decide +kernel
theorem dX0_giveOneMore_1 : decode cX0_giveOneMore 1 = .ok (.ifnull 12, 3) := by decide +kernel
theorem dX0_giveOneMore_13 : decode cX0_giveOneMore 13 = .ok (.iconst 4, 1) := by decide +kernel
theorem dX0_giveOneMore_14 : decode cX0_giveOneMore 14 = .ok (.ireturn, 1) := by decide +kernel
theorem dX0_giveOneMore_4 : decode cX0_giveOneMore 4 = .ok (.aload_n 1, 1) := by decide +kernel
theorem dX0_giveOneMore_5 : decode cX0_giveOneMore 5 = .ok (.getfield 110, 3) := by decide +kernel
theorem dX0_giveOneMore_8 : decode cX0_giveOneMore 8 = .ok (.iconst 0, 1) := by decide +kernel
theorem dX0_giveOneMore_9 : decode cX0_giveOneMore 9 = .ok (.baload, 1) := by decide +kernel
theorem dX0_giveOneMore_10 : decode cX0_giveOneMore 10 = .ok (.ifCond .ne 5, 3) := by decide +kernel
theorem dX0_giveOneMore_15 : decode cX0_giveOneMore 15 = .ok (.aload_n 0, 1) := by decide +kernel
theorem dX0_giveOneMore_16 : decode cX0_giveOneMore 16 = .ok (.iconst 0, 1) := by decide +kernel
theorem dX0_giveOneMore_17 : decode cX0_giveOneMore 17 = .ok (.aload_n 1, 1) := by decide +kernel
theorem dX0_giveOneMore_18 : decode cX0_giveOneMore 18 = .ok (.getfield 114, 3) := by decide +kernel
theorem dX0_giveOneMore_21 : decode cX0_giveOneMore 21 = .ok (.iconst 0, 1) := by decide +kernel
theorem dX0_giveOneMore_22 : decode cX0_giveOneMore 22 = .ok (.iaload, 1) := by decide +kernel
theorem dX0_giveOneMore_23 : decode cX0_giveOneMore 23 = .ok (.iconst 1, 1) := by decide +kernel
theorem dX0_giveOneMore_24 : decode cX0_giveOneMore 24 = .ok (.iadd, 1) := by decide +kernel
theorem dX0_giveOneMore_25 : decode cX0_giveOneMore 25 = .ok (.invokevirtual 207, 3) := by decide +kernel
theorem dX0_giveOneMore_28 : decode cX0_giveOneMore 28 = .ok (.iconst 0, 1) := by decide +kernel
end
section
theorem dX0_giveOneMore_29 : decode cX0_giveOneMore 29 = .ok (.ireturn, 1) := by decide +kernel
theorem dX0_countInCell_0 : decode cX0_countInCell 0 = .ok (.aload_n 0, 1) := by decide +kernel
theorem dX0_countInCell_1 : decode cX0_countInCell 1 = .ok (.getfield 157, 3) := by decide +kernel
theorem dX0_countInCell_4 : decode cX0_countInCell 4 = .ok (.dup, 1) := by decide +kernel
theorem dX0_countInCell_5 : decode cX0_countInCell 5 = .ok (.getfield 128, 3) := by decide +kernel
theorem dX0_countInCell_8 : decode cX0_countInCell 8 = .ok (.lconst 1, 1) := by decide +kernel
theorem dX0_countInCell_9 : decode cX0_countInCell 9 = .ok (.ladd, 1) := by decide +kernel
theorem dX0_countInCell_10 : decode cX0_countInCell 10 = .ok (.putfield 128, 3) := by decide +kernel
theorem dX0_countInCell_13 : decode cX0_countInCell 13 = .ok (.aload_n 0, 1) := by decide +kernel
theorem dX0_countInCell_14 : decode cX0_countInCell 14 = .ok (.iconst 2, 1) := by decide +kernel
theorem dX0_countInCell_15 : decode cX0_countInCell 15 = .ok (.aload_n 0, 1) := by decide +kernel
theorem dX0_countInCell_16 : decode cX0_countInCell 16 = .ok (.getfield 157, 3) := by decide +kernel
theorem dX0_countInCell_19 : decode cX0_countInCell 19 = .ok (.getfield 128, 3) := by decide +kernel
theorem dX0_countInCell_22 : decode cX0_countInCell 22 = .ok (.l2i, 1) := by decide +kernel
theorem dX0_countInCell_23 : decode cX0_countInCell 23 = .ok (.invokevirtual 207, 3) := by decide +kernel
theorem dX0_countInCell_26 : decode cX0_countInCell 26 = .ok (.iconst 0, 1) := by decide +kernel
theorem dX0_countInCell_27 : decode cX0_countInCell 27 = .ok (.ireturn, 1) := by decide +kernel
theorem dX0_giveAmount_0 : decode cX0_giveAmount 0 = .ok (.aload_n 0, 1) := by decide +kernel
theorem dX0_giveAmount_1 : decode cX0_giveAmount 1 = .ok (.getfield 91, 3) := by decide +kernel
theorem dX0_giveAmount_4 : decode cX0_giveAmount 4 = .ok (.iconst 0, 1) := by decide +kernel
theorem dX0_giveAmount_5 : decode cX0_giveAmount 5 = .ok (.iaload, 1) := by decide +kernel
theorem dX0_giveAmount_6 : decode cX0_giveAmount 6 = .ok (.istore_n 1, 1) := by decide +kernel
theorem dX0_giveAmount_7 : decode cX0_giveAmount 7 = .ok (.aload_n 0, 1) := by decide +kernel
theorem dX0_giveAmount_8 : decode cX0_giveAmount 8 = .ok (.iconst 0, 1) := by decide +kernel
theorem dX0_giveAmount_9 : decode cX0_giveAmount 9 = .ok (.aload_n 0, 1) := by decide +kernel
theorem dX0_giveAmount_10 : decode cX0_giveAmount 10 = .ok (.getfield 91, 3) := by decide +kernel
theorem dX0_giveAmount_13 : decode cX0_giveAmount 13 = .ok (.iconst 3, 1) := by decide +kernel
theorem dX0_giveAmount_14 : decode cX0_giveAmount 14 = .ok (.iaload, 1) := by decide +kernel
theorem dX0_giveAmount_15 : decode cX0_giveAmount 15 = .ok (.iconst 1, 1) := by decide +kernel
theorem dX0_giveAmount_16 : decode cX0_giveAmount 16 = .ok (.if_icmp .ne 8, 3) := by decide +kernel
theorem dX0_giveAmount_24 : decode cX0_giveAmount 24 = .ok (.iload_n 1, 1) := by decide +kernel
theorem dX0_giveAmount_25 : decode cX0_giveAmount 25 = .ok (.invokevirtual 207, 3) := by decide +kernel
theorem dX0_giveAmount_28 : decode cX0_giveAmount 28 = .ok (.iconst 0, 1) := by decide +kernel
theorem dX0_giveAmount_29 : decode cX0_giveAmount 29 = .ok (.ireturn, 1) := by decide +kernel
theorem dX0_giveAmount_19 : decode cX0_giveAmount 19 = .ok (.iload_n 1, 1) := by decide +kernel
theorem dX0_giveAmount_20 : decode cX0_giveAmount 20 = .ok (.ineg, 1) := by decide +kernel
theorem dX0_giveAmount_21 : decode cX0_giveAmount 21 = .ok (.goto 4, 3) := by decide +kernel
theorem dX0_keepHandle_0 : decode cX0_keepHandle 0 = .ok (.aload_n 0, 1) := by decide +kernel
theorem dX0_keepHandle_1 : decode cX0_keepHandle 1 = .ok (.getfield 41, 3) := by decide +kernel
theorem dX0_keepHandle_4 : decode cX0_keepHandle 4 = .ok (.bipush 40, 2) := by decide +kernel
theorem dX0_keepHandle_6 : decode cX0_keepHandle 6 = .ok (.if_icmp .ge 13, 3) := by decide +kernel
theorem dX0_keepHandle_19 : decode cX0_keepHandle 19 = .ok (.iconst 0, 1) := by decide +kernel
theorem dX0_keepHandle_20 : decode cX0_keepHandle 20 = .ok (.ireturn, 1) := by decide +kernel
theorem dX0_keepHandle_9 : decode cX0_keepHandle 9 = .ok (.aload_n 0, 1) := by decide +kernel
theorem dX0_keepHandle_10 : decode cX0_keepHandle 10 = .ok (.dup, 1) := by decide +kernel
theorem dX0_keepHandle_11 : decode cX0_keepHandle 11 = .ok (.getfield 41, 3) := by decide +kernel
theorem dX0_keepHandle_14 : decode cX0_keepHandle 14 = .ok (.iconst 1, 1) := by decide +kernel
theorem dX0_keepHandle_15 : decode cX0_keepHandle 15 = .ok (.iadd, 1) := by decide +kernel
theorem dX0_keepHandle_16 : decode cX0_keepHandle 16 = .ok (.putfield 41, 3) := by decide +kernel
theorem dX0_doBit_0 : decode cX0_doBit 0 = .ok (.iload_n 3, 1) := by decide +kernel
theorem dX0_doBit_1 : decode cX0_doBit 1 = .ok (.tableswitch 75 0 6 #[43, 43, 48, 54, 59, 65, 70], 43) := by decide +kernel
theorem dX0_doBit_44 : decode cX0_doBit 44 = .ok (.aload_n 1, 1) := by decide +kernel
theorem dX0_doBit_45 : decode cX0_doBit 45 = .ok (.invokestatic 180, 3) := by decide +kernel
theorem dX0_doBit_48 : decode cX0_doBit 48 = .ok (.ireturn, 1) := by decide +kernel
theorem dX0_doBit_49 : decode cX0_doBit 49 = .ok (.aload_n 0, 1) := by decide +kernel
theorem dX0_doBit_50 : decode cX0_doBit 50 = .ok (.aload_n 1, 1) := by decide +kernel
theorem dX0_doBit_51 : decode cX0_doBit 51 = .ok (.invokevirtual 184, 3) := by decide +kernel
theorem dX0_doBit_54 : decode cX0_doBit 54 = .ok (.ireturn, 1) := by decide +kernel
theorem dX0_doBit_55 : decode cX0_doBit 55 = .ok (.aload_n 1, 1) := by decide +kernel
theorem dX0_doBit_56 : decode cX0_doBit 56 = .ok (.invokestatic 187, 3) := by decide +kernel
theorem dX0_doBit_59 : decode cX0_doBit 59 = .ok (.ireturn, 1) := by decide +kernel
theorem dX0_doBit_60 : decode cX0_doBit 60 = .ok (.aload_n 1, 1) := by decide +kernel
theorem dX0_doBit_61 : decode cX0_doBit 61 = .ok (.aload_n 2, 1) := by decide +kernel
theorem dX0_doBit_62 : decode cX0_doBit 62 = .ok (.invokestatic 190, 3) := by decide +kernel
theorem dX0_doBit_65 : decode cX0_doBit 65 = .ok (.ireturn, 1) := by decide +kernel
theorem dX0_doBit_66 : decode cX0_doBit 66 = .ok (.aload_n 1, 1) := by decide +kernel
theorem dX0_doBit_67 : decode cX0_doBit 67 = .ok (.invokestatic 194, 3) := by decide +kernel
theorem dX0_doBit_70 : decode cX0_doBit 70 = .ok (.ireturn, 1) := by decide +kernel
theorem dX0_doBit_71 : decode cX0_doBit 71 = .ok (.aload_n 1, 1) := by decide +kernel
theorem dX0_doBit_72 : decode cX0_doBit 72 = .ok (.invokestatic 197, 3) := by decide +kernel
theorem dX0_doBit_75 : decode cX0_doBit 75 = .ok (.ireturn, 1) := by decide +kernel
theorem dX0_doBit_76 : decode cX0_doBit 76 = .ok (.aload_n 0, 1) := by decide +kernel
theorem dX0_doBit_77 : decode cX0_doBit 77 = .ok (.invokevirtual 200, 3) := by decide +kernel
theorem dX0_doBit_80 : decode cX0_doBit 80 = .ok (.ireturn, 1) := by decide +kernel
theorem dX0_doBits_0 : decode cX0_doBits 0 = .ok (.aload_n 0, 1) := by decide +kernel
theorem dX0_doBits_1 : decode cX0_doBits 1 = .ok (.getfield 38, 3) := by decide +kernel
theorem dX0_doBits_4 : decode cX0_doBits 4 = .ok (.istore_n 3, 1) := by decide +kernel
theorem dX0_doBits_5 : decode cX0_doBits 5 = .ok (.iconst 0, 1) := by decide +kernel
theorem dX0_doBits_6 : decode cX0_doBits 6 = .ok (.istore 4, 2) := by decide +kernel
theorem dX0_doBits_8 : decode cX0_doBits 8 = .ok (.iload 4, 2) := by decide +kernel
theorem dX0_doBits_10 : decode cX0_doBits 10 = .ok (.bipush 8, 2) := by decide +kernel
theorem dX0_doBits_12 : decode cX0_doBits 12 = .ok (.if_icmp .ge 72, 3) := by decide +kernel
theorem dX0_doBits_84 : decode cX0_doBits 84 = .ok (.return_, 1) := by decide +kernel
theorem dX0_doBits_15 : decode cX0_doBits 15 = .ok (.aload_n 1, 1) := by decide +kernel
theorem dX0_doBits_16 : decode cX0_doBits 16 = .ok (.getfield 157, 3) := by decide +kernel
theorem dX0_doBits_19 : decode cX0_doBits 19 = .ok (.getfield 135, 3) := by decide +kernel
theorem dX0_doBits_22 : decode cX0_doBits 22 = .ok (.iload 4, 2) := by decide +kernel
theorem dX0_doBits_24 : decode cX0_doBits 24 = .ok (.ishr, 1) := by decide +kernel
theorem dX0_doBits_25 : decode cX0_doBits 25 = .ok (.iconst 1, 1) := by decide +kernel
theorem dX0_doBits_26 : decode cX0_doBits 26 = .ok (.iand, 1) := by decide +kernel
theorem dX0_doBits_27 : decode cX0_doBits 27 = .ok (.ifCond .ne 6, 3) := by decide +kernel
theorem dX0_doBits_33 : decode cX0_doBits 33 = .ok (.aload_n 0, 1) := by decide +kernel
theorem dX0_doBits_34 : decode cX0_doBits 34 = .ok (.aload_n 1, 1) := by decide +kernel
theorem dX0_doBits_35 : decode cX0_doBits 35 = .ok (.invokevirtual 169, 3) := by decide +kernel
theorem dX0_doBits_38 : decode cX0_doBits 38 = .ok (.ifCond .eq 14, 3) := by decide +kernel
theorem dX0_doBits_52 : decode cX0_doBits 52 = .ok (.iconst 5, 1) := by decide +kernel
theorem dX0_doBits_53 : decode cX0_doBits 53 = .ok (.istore 5, 2) := by decide +kernel
theorem dX0_doBits_55 : decode cX0_doBits 55 = .ok (.iload 5, 2) := by decide +kernel
theorem dX0_doBits_57 : decode cX0_doBits 57 = .ok (.ifCond .eq 21, 3) := by decide +kernel
theorem dX0_doBits_78 : decode cX0_doBits 78 = .ok (.iinc 4 1, 3) := by decide +kernel
theorem dX0_doBits_81 : decode cX0_doBits 81 = .ok (.goto (-73), 3) := by decide +kernel
theorem dX0_doBits_60 : decode cX0_doBits 60 = .ok (.aload_n 0, 1) := by decide +kernel
theorem dX0_doBits_61 : decode cX0_doBits 61 = .ok (.iload_n 3, 1) := by decide +kernel
theorem dX0_doBits_62 : decode cX0_doBits 62 = .ok (.putfield 38, 3) := by decide +kernel
theorem dX0_doBits_65 : decode cX0_doBits 65 = .ok (.aload_n 1, 1) := by decide +kernel
theorem dX0_doBits_66 : decode cX0_doBits 66 = .ok (.iload 5, 2) := by decide +kernel
theorem dX0_doBits_68 : decode cX0_doBits 68 = .ok (.iload 4, 2) := by decide +kernel
theorem dX0_doBits_70 : decode cX0_doBits 70 = .ok (.aload_n 1, 1) := by decide +kernel
theorem dX0_doBits_71 : decode cX0_doBits 71 = .ok (.getfield 156, 3) := by decide +kernel
theorem dX0_doBits_74 : decode cX0_doBits 74 = .ok (.invokevirtual 161, 3) := by decide +kernel
theorem dX0_doBits_77 : decode cX0_doBits 77 = .ok (.return_, 1) := by decide +kernel
theorem dX0_doBits_41 : decode cX0_doBits 41 = .ok (.aload_n 0, 1) := by decide +kernel
theorem dX0_doBits_42 : decode cX0_doBits 42 = .ok (.aload_n 1, 1) := by decide +kernel
theorem dX0_doBits_43 : decode cX0_doBits 43 = .ok (.aload_n 2, 1) := by decide +kernel
theorem dX0_doBits_44 : decode cX0_doBits 44 = .ok (.iload 4, 2) := by decide +kernel
theorem dX0_doBits_46 : decode cX0_doBits 46 = .ok (.invokevirtual 173, 3) := by decide +kernel
theorem dX0_doBits_49 : decode cX0_doBits 49 = .ok (.goto 4, 3) := by decide +kernel
theorem dX0_doBits_30 : decode cX0_doBits 30 = .ok (.goto 48, 3) := by decide +kernel
theorem dX0_runOnce_0 : decode cX0_runOnce 0 = .ok (.aload_n 1, 1) := by decide +kernel
theorem dX0_runOnce_1 : decode cX0_runOnce 1 = .ok (.getfield 87, 3) := by decide +kernel
theorem dX0_runOnce_4 : decode cX0_runOnce 4 = .ok (.ifCond .ne 9, 3) := by decide +kernel
theorem dX0_runOnce_13 : decode cX0_runOnce 13 = .ok (.return_, 1) := by decide +kernel
theorem dX0_runOnce_7 : decode cX0_runOnce 7 = .ok (.iload_n 2, 1) := by decide +kernel
theorem dX0_runOnce_8 : decode cX0_runOnce 8 = .ok (.bipush 40, 2) := by decide +kernel
theorem dX0_runOnce_10 : decode cX0_runOnce 10 = .ok (.if_icmp .lt 4, 3) := by decide +kernel
theorem dX0_runOnce_14 : decode cX0_runOnce 14 = .ok (.aload_n 1, 1) := by decide +kernel
theorem dX0_runOnce_15 : decode cX0_runOnce 15 = .ok (.iconst 1, 1) := by decide +kernel
theorem dX0_runOnce_16 : decode cX0_runOnce 16 = .ok (.putfield 87, 3) := by decide +kernel
theorem dX0_runOnce_19 : decode cX0_runOnce 19 = .ok (.aload_n 0, 1) := by decide +kernel
theorem dX0_runOnce_20 : decode cX0_runOnce 20 = .ok (.aload_n 1, 1) := by decide +kernel
theorem dX0_runOnce_21 : decode cX0_runOnce 21 = .ok (.getfield 157, 3) := by decide +kernel
theorem dX0_runOnce_24 : decode cX0_runOnce 24 = .ok (.invokevirtual 72, 3) := by decide +kernel
theorem dX0_runOnce_27 : decode cX0_runOnce 27 = .ok (.ifCond .ne 15, 3) := by decide +kernel
theorem dX0_runOnce_42 : decode cX0_runOnce 42 = .ok (.aload_n 0, 1) := by decide +kernel
theorem dX0_runOnce_43 : decode cX0_runOnce 43 = .ok (.aload_n 1, 1) := by decide +kernel
theorem dX0_runOnce_44 : decode cX0_runOnce 44 = .ok (.getfield 91, 3) := by decide +kernel
theorem dX0_runOnce_47 : decode cX0_runOnce 47 = .ok (.iconst 2, 1) := by decide +kernel
theorem dX0_runOnce_48 : decode cX0_runOnce 48 = .ok (.iaload, 1) := by decide +kernel
theorem dX0_runOnce_49 : decode cX0_runOnce 49 = .ok (.iconst 1, 1) := by decide +kernel
theorem dX0_runOnce_50 : decode cX0_runOnce 50 = .ok (.isub, 1) := by decide +kernel
theorem dX0_runOnce_51 : decode cX0_runOnce 51 = .ok (.invokevirtual 79, 3) := by decide +kernel
theorem dX0_runOnce_54 : decode cX0_runOnce 54 = .ok (.astore_n 3, 1) := by decide +kernel
theorem dX0_runOnce_55 : decode cX0_runOnce 55 = .ok (.aload_n 3, 1) := by decide +kernel
theorem dX0_runOnce_56 : decode cX0_runOnce 56 = .ok (.ifnull 31, 3) := by decide +kernel
theorem dX0_runOnce_87 : decode cX0_runOnce 87 = .ok (.aload_n 0, 1) := by decide +kernel
theorem dX0_runOnce_88 : decode cX0_runOnce 88 = .ok (.aload_n 1, 1) := by decide +kernel
theorem dX0_runOnce_89 : decode cX0_runOnce 89 = .ok (.aload_n 3, 1) := by decide +kernel
theorem dX0_runOnce_90 : decode cX0_runOnce 90 = .ok (.invokevirtual 165, 3) := by decide +kernel
theorem dX0_runOnce_93 : decode cX0_runOnce 93 = .ok (.return_, 1) := by decide +kernel
theorem dX0_runOnce_59 : decode cX0_runOnce 59 = .ok (.aload_n 0, 1) := by decide +kernel
theorem dX0_runOnce_60 : decode cX0_runOnce 60 = .ok (.aload_n 3, 1) := by decide +kernel
theorem dX0_runOnce_61 : decode cX0_runOnce 61 = .ok (.iload_n 2, 1) := by decide +kernel
theorem dX0_runOnce_62 : decode cX0_runOnce 62 = .ok (.iconst 1, 1) := by decide +kernel
theorem dX0_runOnce_63 : decode cX0_runOnce 63 = .ok (.iadd, 1) := by decide +kernel
theorem dX0_runOnce_64 : decode cX0_runOnce 64 = .ok (.invokevirtual 97, 3) := by decide +kernel
theorem dX0_runOnce_67 : decode cX0_runOnce 67 = .ok (.aload_n 3, 1) := by decide +kernel
theorem dX0_runOnce_68 : decode cX0_runOnce 68 = .ok (.getfield 101, 3) := by decide +kernel
theorem dX0_runOnce_71 : decode cX0_runOnce 71 = .ok (.ifCond .eq 16, 3) := by decide +kernel
theorem dX0_runOnce_74 : decode cX0_runOnce 74 = .ok (.aload_n 1, 1) := by decide +kernel
theorem dX0_runOnce_75 : decode cX0_runOnce 75 = .ok (.bipush 6, 2) := by decide +kernel
theorem dX0_runOnce_77 : decode cX0_runOnce 77 = .ok (.bipush 8, 2) := by decide +kernel
theorem dX0_runOnce_79 : decode cX0_runOnce 79 = .ok (.aload_n 3, 1) := by decide +kernel
theorem dX0_runOnce_80 : decode cX0_runOnce 80 = .ok (.getfield 120, 3) := by decide +kernel
theorem dX0_runOnce_83 : decode cX0_runOnce 83 = .ok (.invokevirtual 161, 3) := by decide +kernel
theorem dX0_runOnce_86 : decode cX0_runOnce 86 = .ok (.return_, 1) := by decide +kernel
theorem dX0_runOnce_30 : decode cX0_runOnce 30 = .ok (.aload_n 1, 1) := by decide +kernel
theorem dX0_runOnce_31 : decode cX0_runOnce 31 = .ok (.iconst 1, 1) := by decide +kernel
theorem dX0_runOnce_32 : decode cX0_runOnce 32 = .ok (.bipush 8, 2) := by decide +kernel
theorem dX0_runOnce_34 : decode cX0_runOnce 34 = .ok (.aload_n 1, 1) := by decide +kernel
theorem dX0_runOnce_35 : decode cX0_runOnce 35 = .ok (.getfield 156, 3) := by decide +kernel
theorem dX0_runOnce_38 : decode cX0_runOnce 38 = .ok (.invokevirtual 161, 3) := by decide +kernel
theorem dX0_runOnce_41 : decode cX0_runOnce 41 = .ok (.return_, 1) := by decide +kernel
theorem dX0_run_0 : decode cX0_run 0 = .ok (.aload_n 0, 1) := by decide +kernel
theorem dX0_run_1 : decode cX0_run 1 = .ok (.iload_n 1, 1) := by decide +kernel
theorem dX0_run_2 : decode cX0_run 2 = .ok (.invokevirtual 79, 3) := by decide +kernel
theorem dX0_run_5 : decode cX0_run 5 = .ok (.astore_n 2, 1) := by decide +kernel
theorem dX0_run_6 : decode cX0_run 6 = .ok (.aload_n 2, 1) := by decide +kernel
theorem dX0_run_7 : decode cX0_run 7 = .ok (.ifnonnull 5, 3) := by decide +kernel
theorem dX0_run_10 : decode cX0_run 10 = .ok (.iconst (-1), 1) := by decide +kernel
theorem dX0_run_11 : decode cX0_run 11 = .ok (.ireturn, 1) := by decide +kernel
theorem dX0_run_12 : decode cX0_run 12 = .ok (.aload_n 0, 1) := by decide +kernel
theorem dX0_run_13 : decode cX0_run 13 = .ok (.aload_n 2, 1) := by decide +kernel
theorem dX0_run_14 : decode cX0_run 14 = .ok (.iconst 0, 1) := by decide +kernel
theorem dX0_run_15 : decode cX0_run 15 = .ok (.invokevirtual 97, 3) := by decide +kernel
theorem dX0_run_18 : decode cX0_run 18 = .ok (.aload_n 2, 1) := by decide +kernel
theorem dX0_run_19 : decode cX0_run 19 = .ok (.getfield 101, 3) := by decide +kernel
theorem dX0_run_22 : decode cX0_run 22 = .ok (.ifCond .ne 10, 3) := by decide +kernel
theorem dX0_run_32 : decode cX0_run 32 = .ok (.bipush (-10), 2) := by decide +kernel
theorem dX0_run_34 : decode cX0_run 34 = .ok (.aload_n 2, 1) := by decide +kernel
theorem dX0_run_35 : decode cX0_run 35 = .ok (.getfield 101, 3) := by decide +kernel
theorem dX0_run_38 : decode cX0_run 38 = .ok (.isub, 1) := by decide +kernel
theorem dX0_run_39 : decode cX0_run 39 = .ok (.ireturn, 1) := by decide +kernel
theorem dX0_run_25 : decode cX0_run 25 = .ok (.aload_n 2, 1) := by decide +kernel
theorem dX0_run_26 : decode cX0_run 26 = .ok (.getfield 104, 3) := by decide +kernel
theorem dX0_run_29 : decode cX0_run 29 = .ok (.goto 10, 3) := by decide +kernel
theorem dX0_digest_0 : decode cX0_digest 0 = .ok (.aload_n 0, 1) := by decide +kernel
theorem dX0_digest_1 : decode cX0_digest 1 = .ok (.iload_n 1, 1) := by decide +kernel
theorem dX0_digest_2 : decode cX0_digest 2 = .ok (.invokevirtual 79, 3) := by decide +kernel
theorem dX0_digest_5 : decode cX0_digest 5 = .ok (.astore_n 3, 1) := by decide +kernel
theorem dX0_digest_6 : decode cX0_digest 6 = .ok (.aload_n 3, 1) := by decide +kernel
theorem dX0_digest_7 : decode cX0_digest 7 = .ok (.ifnonnull 5, 3) := by decide +kernel
theorem dX0_digest_10 : decode cX0_digest 10 = .ok (.iconst 0, 1) := by decide +kernel
theorem dX0_digest_11 : decode cX0_digest 11 = .ok (.ireturn, 1) := by decide +kernel
theorem dX0_digest_12 : decode cX0_digest 12 = .ok (.aload_n 3, 1) := by decide +kernel
theorem dX0_digest_13 : decode cX0_digest 13 = .ok (.getfield 157, 3) := by decide +kernel
theorem dX0_digest_16 : decode cX0_digest 16 = .ok (.astore 4, 2) := by decide +kernel
theorem dX0_digest_18 : decode cX0_digest 18 = .ok (.aload 4, 2) := by decide +kernel
theorem dX0_digest_20 : decode cX0_digest 20 = .ok (.getfield 132, 3) := by decide +kernel
theorem dX0_digest_23 : decode cX0_digest 23 = .ok (.bipush 31, 2) := by decide +kernel
theorem dX0_digest_25 : decode cX0_digest 25 = .ok (.imul, 1) := by decide +kernel
theorem dX0_digest_26 : decode cX0_digest 26 = .ok (.aload 4, 2) := by decide +kernel
theorem dX0_digest_28 : decode cX0_digest 28 = .ok (.getfield 135, 3) := by decide +kernel
theorem dX0_digest_31 : decode cX0_digest 31 = .ok (.iadd, 1) := by decide +kernel
theorem dX0_digest_32 : decode cX0_digest 32 = .ok (.bipush 31, 2) := by decide +kernel
theorem dX0_digest_34 : decode cX0_digest 34 = .ok (.imul, 1) := by decide +kernel
theorem dX0_digest_35 : decode cX0_digest 35 = .ok (.iload_n 1, 1) := by decide +kernel
theorem dX0_digest_36 : decode cX0_digest 36 = .ok (.iadd, 1) := by decide +kernel
theorem dX0_digest_37 : decode cX0_digest 37 = .ok (.bipush 31, 2) := by decide +kernel
theorem dX0_digest_39 : decode cX0_digest 39 = .ok (.imul, 1) := by decide +kernel
theorem dX0_digest_40 : decode cX0_digest 40 = .ok (.iload_n 2, 1) := by decide +kernel
theorem dX0_digest_41 : decode cX0_digest 41 = .ok (.iadd, 1) := by decide +kernel
theorem dX0_digest_42 : decode cX0_digest 42 = .ok (.ireturn, 1) := by decide +kernel
theorem dX0_action_0 : decode cX0_action 0 = .ok (.iload_n 1, 1) := by decide +kernel
theorem dX0_action_1 : decode cX0_action 1 = .ok (.aload_n 0, 1) := by decide +kernel
theorem dX0_action_2 : decode cX0_action 2 = .ok (.getfield 38, 3) := by decide +kernel
theorem dX0_action_5 : decode cX0_action 5 = .ok (.iconst 1, 1) := by decide +kernel
theorem dX0_action_6 : decode cX0_action 6 = .ok (.isub, 1) := by decide +kernel
theorem dX0_action_7 : decode cX0_action 7 = .ok (.invokestatic 57, 3) := by decide +kernel
theorem dX0_action_10 : decode cX0_action 10 = .ok (.ifCond .ne 5, 3) := by decide +kernel
theorem dX0_action_15 : decode cX0_action 15 = .ok (.iload_n 2, 1) := by decide +kernel
theorem dX0_action_16 : decode cX0_action 16 = .ok (.tableswitch 59 0 2 #[28, 35, 42], 28) := by decide +kernel
theorem dX0_action_44 : decode cX0_action 44 = .ok (.aload_n 0, 1) := by decide +kernel
theorem dX0_action_45 : decode cX0_action 45 = .ok (.getfield 31, 3) := by decide +kernel
theorem dX0_action_48 : decode cX0_action 48 = .ok (.iload_n 1, 1) := by decide +kernel
theorem dX0_action_49 : decode cX0_action 49 = .ok (.iaload, 1) := by decide +kernel
theorem dX0_action_50 : decode cX0_action 50 = .ok (.ireturn, 1) := by decide +kernel
theorem dX0_action_51 : decode cX0_action 51 = .ok (.aload_n 0, 1) := by decide +kernel
theorem dX0_action_52 : decode cX0_action 52 = .ok (.getfield 35, 3) := by decide +kernel
theorem dX0_action_55 : decode cX0_action 55 = .ok (.iload_n 1, 1) := by decide +kernel
theorem dX0_action_56 : decode cX0_action 56 = .ok (.iaload, 1) := by decide +kernel
theorem dX0_action_57 : decode cX0_action 57 = .ok (.ireturn, 1) := by decide +kernel
theorem dX0_action_58 : decode cX0_action 58 = .ok (.aload_n 0, 1) := by decide +kernel
theorem dX0_action_59 : decode cX0_action 59 = .ok (.aload_n 0, 1) := by decide +kernel
theorem dX0_action_60 : decode cX0_action 60 = .ok (.getfield 31, 3) := by decide +kernel
theorem dX0_action_63 : decode cX0_action 63 = .ok (.iload_n 1, 1) := by decide +kernel
theorem dX0_action_64 : decode cX0_action 64 = .ok (.iaload, 1) := by decide +kernel
theorem dX0_action_65 : decode cX0_action 65 = .ok (.aload_n 0, 1) := by decide +kernel
theorem dX0_action_66 : decode cX0_action 66 = .ok (.getfield 35, 3) := by decide +kernel
theorem dX0_action_69 : decode cX0_action 69 = .ok (.iload_n 1, 1) := by decide +kernel
theorem dX0_action_70 : decode cX0_action 70 = .ok (.iaload, 1) := by decide +kernel
theorem dX0_action_71 : decode cX0_action 71 = .ok (.invokevirtual 107, 3) := by decide +kernel
theorem dX0_action_74 : decode cX0_action 74 = .ok (.ireturn, 1) := by decide +kernel
theorem dX0_action_75 : decode cX0_action 75 = .ok (.bipush (-2), 2) := by decide +kernel
theorem dX0_action_77 : decode cX0_action 77 = .ok (.ireturn, 1) := by decide +kernel
theorem dX0_action_13 : decode cX0_action 13 = .ok (.iconst (-1), 1) := by decide +kernel
theorem dX0_action_14 : decode cX0_action 14 = .ok (.ireturn, 1) := by decide +kernel
theorem dX0_provider_0 : decode cX0_provider 0 = .ok (.aload_n 0, 1) := by decide +kernel
theorem dX0_provider_1 : decode cX0_provider 1 = .ok (.iload_n 1, 1) := by decide +kernel
theorem dX0_provider_2 : decode cX0_provider 2 = .ok (.invokevirtual 79, 3) := by decide +kernel
theorem dX0_provider_5 : decode cX0_provider 5 = .ok (.astore_n 3, 1) := by decide +kernel
theorem dX0_provider_6 : decode cX0_provider 6 = .ok (.aload_n 3, 1) := by decide +kernel
theorem dX0_provider_7 : decode cX0_provider 7 = .ok (.ifnull 20, 3) := by decide +kernel
theorem dX0_provider_27 : decode cX0_provider 27 = .ok (.iconst 0, 1) := by decide +kernel
theorem dX0_provider_28 : decode cX0_provider 28 = .ok (.ireturn, 1) := by decide +kernel
theorem dX0_provider_10 : decode cX0_provider 10 = .ok (.iload_n 2, 1) := by decide +kernel
theorem dX0_provider_11 : decode cX0_provider 11 = .ok (.iconst 2, 1) := by decide +kernel
theorem dX0_provider_12 : decode cX0_provider 12 = .ok (.invokestatic 57, 3) := by decide +kernel
theorem dX0_provider_15 : decode cX0_provider 15 = .ok (.ifCond .eq 12, 3) := by decide +kernel
theorem dX0_provider_18 : decode cX0_provider 18 = .ok (.aload_n 3, 1) := by decide +kernel
theorem dX0_provider_19 : decode cX0_provider 19 = .ok (.getfield 110, 3) := by decide +kernel
theorem dX0_provider_22 : decode cX0_provider 22 = .ok (.iload_n 2, 1) := by decide +kernel
theorem dX0_provider_23 : decode cX0_provider 23 = .ok (.baload, 1) := by decide +kernel
theorem dX0_provider_24 : decode cX0_provider 24 = .ok (.ifCond .ne 5, 3) := by decide +kernel
theorem dX0_provider_29 : decode cX0_provider 29 = .ok (.aload_n 3, 1) := by decide +kernel
theorem dX0_provider_30 : decode cX0_provider 30 = .ok (.getfield 114, 3) := by decide +kernel
theorem dX0_provider_33 : decode cX0_provider 33 = .ok (.iload_n 2, 1) := by decide +kernel
theorem dX0_provider_34 : decode cX0_provider 34 = .ok (.iaload, 1) := by decide +kernel
theorem dX0_provider_35 : decode cX0_provider 35 = .ok (.ireturn, 1) := by decide +kernel
theorem dX0_failed_0 : decode cX0_failed 0 = .ok (.aload_n 0, 1) := by decide +kernel
theorem dX0_failed_1 : decode cX0_failed 1 = .ok (.iload_n 1, 1) := by decide +kernel
theorem dX0_failed_2 : decode cX0_failed 2 = .ok (.invokevirtual 79, 3) := by decide +kernel
theorem dX0_failed_5 : decode cX0_failed 5 = .ok (.astore_n 3, 1) := by decide +kernel
theorem dX0_failed_6 : decode cX0_failed 6 = .ok (.aload_n 3, 1) := by decide +kernel
theorem dX0_failed_7 : decode cX0_failed 7 = .ok (.ifnonnull 5, 3) := by decide +kernel
theorem dX0_failed_10 : decode cX0_failed 10 = .ok (.iconst (-1), 1) := by decide +kernel
theorem dX0_failed_11 : decode cX0_failed 11 = .ok (.ireturn, 1) := by decide +kernel
theorem dX0_failed_12 : decode cX0_failed 12 = .ok (.iload_n 2, 1) := by decide +kernel
theorem dX0_failed_13 : decode cX0_failed 13 = .ok (.iconst 2, 1) := by decide +kernel
theorem dX0_failed_14 : decode cX0_failed 14 = .ok (.invokestatic 57, 3) := by decide +kernel
theorem dX0_failed_17 : decode cX0_failed 17 = .ok (.ifCond .ne 6, 3) := by decide +kernel
theorem dX0_failed_23 : decode cX0_failed 23 = .ok (.aload_n 3, 1) := by decide +kernel
theorem dX0_failed_24 : decode cX0_failed 24 = .ok (.getfield 87, 3) := by decide +kernel
theorem dX0_failed_27 : decode cX0_failed 27 = .ok (.ifCond .ne 6, 3) := by decide +kernel
theorem dX0_failed_33 : decode cX0_failed 33 = .ok (.aload_n 3, 1) := by decide +kernel
theorem dX0_failed_34 : decode cX0_failed 34 = .ok (.getfield 101, 3) := by decide +kernel
theorem dX0_failed_37 : decode cX0_failed 37 = .ok (.ifCond .ne 5, 3) := by decide +kernel
theorem dX0_failed_42 : decode cX0_failed 42 = .ok (.iload_n 2, 1) := by decide +kernel
theorem dX0_failed_43 : decode cX0_failed 43 = .ok (.lookupswitch 35 #[(0, 25), (1, 30)], 25) := by decide +kernel
theorem dX0_failed_68 : decode cX0_failed 68 = .ok (.aload_n 3, 1) := by decide +kernel
theorem dX0_failed_69 : decode cX0_failed 69 = .ok (.getfield 101, 3) := by decide +kernel
theorem dX0_failed_72 : decode cX0_failed 72 = .ok (.ireturn, 1) := by decide +kernel
theorem dX0_failed_73 : decode cX0_failed 73 = .ok (.aload_n 3, 1) := by decide +kernel
theorem dX0_failed_74 : decode cX0_failed 74 = .ok (.getfield 117, 3) := by decide +kernel
theorem dX0_failed_77 : decode cX0_failed 77 = .ok (.ireturn, 1) := by decide +kernel
theorem dX0_failed_78 : decode cX0_failed 78 = .ok (.aload_n 3, 1) := by decide +kernel
theorem dX0_failed_79 : decode cX0_failed 79 = .ok (.getfield 120, 3) := by decide +kernel
theorem dX0_failed_82 : decode cX0_failed 82 = .ok (.iconst 1, 1) := by decide +kernel
theorem dX0_failed_83 : decode cX0_failed 83 = .ok (.iadd, 1) := by decide +kernel
theorem dX0_failed_84 : decode cX0_failed 84 = .ok (.ireturn, 1) := by decide +kernel
theorem dX0_failed_40 : decode cX0_failed 40 = .ok (.iconst 0, 1) := by decide +kernel
theorem dX0_failed_41 : decode cX0_failed 41 = .ok (.ireturn, 1) := by decide +kernel
theorem dX0_failed_30 : decode cX0_failed 30 = .ok (.bipush (-3), 2) := by decide +kernel
theorem dX0_failed_32 : decode cX0_failed 32 = .ok (.ireturn, 1) := by decide +kernel
theorem dX0_failed_20 : decode cX0_failed 20 = .ok (.bipush (-2), 2) := by decide +kernel
theorem dX0_failed_22 : decode cX0_failed 22 = .ok (.ireturn, 1) := by decide +kernel
theorem dX0_cell_0 : decode cX0_cell 0 = .ok (.aload_n 0, 1) := by decide +kernel
theorem dX0_cell_1 : decode cX0_cell 1 = .ok (.iload_n 1, 1) := by decide +kernel
theorem dX0_cell_2 : decode cX0_cell 2 = .ok (.invokevirtual 68, 3) := by decide +kernel
theorem dX0_cell_5 : decode cX0_cell 5 = .ok (.astore_n 2, 1) := by decide +kernel
theorem dX0_cell_6 : decode cX0_cell 6 = .ok (.aload_n 2, 1) := by decide +kernel
theorem dX0_cell_7 : decode cX0_cell 7 = .ok (.ifnull 10, 3) := by decide +kernel
theorem dX0_cell_17 : decode cX0_cell 17 = .ok (.ldc2_w 126, 3) := by decide +kernel
theorem dX0_cell_20 : decode cX0_cell 20 = .ok (.lreturn, 1) := by decide +kernel
theorem dX0_cell_10 : decode cX0_cell 10 = .ok (.aload_n 2, 1) := by decide +kernel
theorem dX0_cell_11 : decode cX0_cell 11 = .ok (.getfield 123, 3) := by decide +kernel
theorem dX0_cell_14 : decode cX0_cell 14 = .ok (.ifCond .ne 7, 3) := by decide +kernel
theorem dX0_cell_21 : decode cX0_cell 21 = .ok (.aload_n 2, 1) := by decide +kernel
theorem dX0_cell_22 : decode cX0_cell 22 = .ok (.getfield 128, 3) := by decide +kernel
theorem dX0_cell_25 : decode cX0_cell 25 = .ok (.lreturn, 1) := by decide +kernel
theorem dX0_same_0 : decode cX0_same 0 = .ok (.aload_n 0, 1) := by decide +kernel
theorem dX0_same_1 : decode cX0_same 1 = .ok (.iload_n 1, 1) := by decide +kernel
theorem dX0_same_2 : decode cX0_same 2 = .ok (.invokevirtual 68, 3) := by decide +kernel
theorem dX0_same_5 : decode cX0_same 5 = .ok (.astore_n 3, 1) := by decide +kernel
theorem dX0_same_6 : decode cX0_same 6 = .ok (.aload_n 0, 1) := by decide +kernel
theorem dX0_same_7 : decode cX0_same 7 = .ok (.iload_n 2, 1) := by decide +kernel
theorem dX0_same_8 : decode cX0_same 8 = .ok (.invokevirtual 68, 3) := by decide +kernel
theorem dX0_same_11 : decode cX0_same 11 = .ok (.astore 4, 2) := by decide +kernel
theorem dX0_same_13 : decode cX0_same 13 = .ok (.aload_n 3, 1) := by decide +kernel
theorem dX0_same_14 : decode cX0_same 14 = .ok (.ifnull 29, 3) := by decide +kernel
theorem dX0_same_43 : decode cX0_same 43 = .ok (.iconst 0, 1) := by decide +kernel
theorem dX0_same_44 : decode cX0_same 44 = .ok (.ireturn, 1) := by decide +kernel
theorem dX0_same_17 : decode cX0_same 17 = .ok (.aload 4, 2) := by decide +kernel
theorem dX0_same_19 : decode cX0_same 19 = .ok (.ifnull 24, 3) := by decide +kernel
theorem dX0_same_22 : decode cX0_same 22 = .ok (.aload_n 3, 1) := by decide +kernel
theorem dX0_same_23 : decode cX0_same 23 = .ok (.aload 4, 2) := by decide +kernel
theorem dX0_same_25 : decode cX0_same 25 = .ok (.getfield 132, 3) := by decide +kernel
theorem dX0_same_28 : decode cX0_same 28 = .ok (.aload 4, 2) := by decide +kernel
theorem dX0_same_30 : decode cX0_same 30 = .ok (.getfield 135, 3) := by decide +kernel
theorem dX0_same_33 : decode cX0_same 33 = .ok (.invokevirtual 138, 3) := by decide +kernel
theorem dX0_same_36 : decode cX0_same 36 = .ok (.ifCond .eq 7, 3) := by decide +kernel
theorem dX0_same_39 : decode cX0_same 39 = .ok (.iconst 1, 1) := by decide +kernel
theorem dX0_same_40 : decode cX0_same 40 = .ok (.goto 4, 3) := by decide +kernel
theorem dX3_init_0 : decode cX3_init 0 = .ok (.aload_n 0, 1) := by decide +kernel
theorem dX3_init_1 : decode cX3_init 1 = .ok (.invokespecial 1, 3) := by decide +kernel
theorem dX3_init_4 : decode cX3_init 4 = .ok (.aload_n 0, 1) := by decide +kernel
theorem dX3_init_5 : decode cX3_init 5 = .ok (.bipush 16, 2) := by decide +kernel
theorem dX3_init_7 : decode cX3_init 7 = .ok (.newarray .int, 2) := by decide +kernel
theorem dX3_init_9 : decode cX3_init 9 = .ok (.putfield 7, 3) := by decide +kernel
theorem dX3_init_12 : decode cX3_init 12 = .ok (.aload_n 0, 1) := by decide +kernel
theorem dX3_init_13 : decode cX3_init 13 = .ok (.bipush 16, 2) := by decide +kernel
theorem dX3_init_15 : decode cX3_init 15 = .ok (.newarray .int, 2) := by decide +kernel
theorem dX3_init_17 : decode cX3_init 17 = .ok (.putfield 13, 3) := by decide +kernel
theorem dX3_init_20 : decode cX3_init 20 = .ok (.aload_n 0, 1) := by decide +kernel
theorem dX3_init_21 : decode cX3_init 21 = .ok (.bipush 16, 2) := by decide +kernel
theorem dX3_init_23 : decode cX3_init 23 = .ok (.newarray .int, 2) := by decide +kernel
theorem dX3_init_25 : decode cX3_init 25 = .ok (.putfield 16, 3) := by decide +kernel
theorem dX3_init_28 : decode cX3_init 28 = .ok (.aload_n 0, 1) := by decide +kernel
theorem dX3_init_29 : decode cX3_init 29 = .ok (.bipush 16, 2) := by decide +kernel
theorem dX3_init_31 : decode cX3_init 31 = .ok (.newarray .boolean, 2) := by decide +kernel
theorem dX3_init_33 : decode cX3_init 33 = .ok (.putfield 19, 3) := by decide +kernel
theorem dX3_init_36 : decode cX3_init 36 = .ok (.aload_n 0, 1) := by decide +kernel
theorem dX3_init_37 : decode cX3_init 37 = .ok (.bipush 16, 2) := by decide +kernel
theorem dX3_init_39 : decode cX3_init 39 = .ok (.newarray .long, 2) := by decide +kernel
theorem dX3_init_41 : decode cX3_init 41 = .ok (.putfield 23, 3) := by decide +kernel
theorem dX3_init_44 : decode cX3_init 44 = .ok (.aload_n 0, 1) := by decide +kernel
theorem dX3_init_45 : decode cX3_init 45 = .ok (.bipush 40, 2) := by decide +kernel
theorem dX3_init_47 : decode cX3_init 47 = .ok (.newarray .int, 2) := by decide +kernel
theorem dX3_init_49 : decode cX3_init 49 = .ok (.putfield 27, 3) := by decide +kernel
theorem dX3_init_52 : decode cX3_init 52 = .ok (.aload_n 0, 1) := by decide +kernel
theorem dX3_init_53 : decode cX3_init 53 = .ok (.sipush 160, 3) := by decide +kernel
theorem dX3_init_56 : decode cX3_init 56 = .ok (.newarray .int, 2) := by decide +kernel
theorem dX3_init_58 : decode cX3_init 58 = .ok (.putfield 30, 3) := by decide +kernel
theorem dX3_init_61 : decode cX3_init 61 = .ok (.aload_n 0, 1) := by decide +kernel
theorem dX3_init_62 : decode cX3_init 62 = .ok (.bipush 40, 2) := by decide +kernel
theorem dX3_init_64 : decode cX3_init 64 = .ok (.newarray .int, 2) := by decide +kernel
theorem dX3_init_66 : decode cX3_init 66 = .ok (.putfield 33, 3) := by decide +kernel
theorem dX3_init_69 : decode cX3_init 69 = .ok (.aload_n 0, 1) := by decide +kernel
theorem dX3_init_70 : decode cX3_init 70 = .ok (.bipush 40, 2) := by decide +kernel
theorem dX3_init_72 : decode cX3_init 72 = .ok (.newarray .int, 2) := by decide +kernel
theorem dX3_init_74 : decode cX3_init 74 = .ok (.putfield 36, 3) := by decide +kernel
theorem dX3_init_77 : decode cX3_init 77 = .ok (.aload_n 0, 1) := by decide +kernel
theorem dX3_init_78 : decode cX3_init 78 = .ok (.bipush 40, 2) := by decide +kernel
theorem dX3_init_80 : decode cX3_init 80 = .ok (.newarray .int, 2) := by decide +kernel
theorem dX3_init_82 : decode cX3_init 82 = .ok (.putfield 39, 3) := by decide +kernel
theorem dX3_init_85 : decode cX3_init 85 = .ok (.aload_n 0, 1) := by decide +kernel
theorem dX3_init_86 : decode cX3_init 86 = .ok (.bipush 40, 2) := by decide +kernel
theorem dX3_init_88 : decode cX3_init 88 = .ok (.newarray .int, 2) := by decide +kernel
theorem dX3_init_90 : decode cX3_init 90 = .ok (.putfield 42, 3) := by decide +kernel
theorem dX3_init_93 : decode cX3_init 93 = .ok (.aload_n 0, 1) := by decide +kernel
theorem dX3_init_94 : decode cX3_init 94 = .ok (.bipush 40, 2) := by decide +kernel
theorem dX3_init_96 : decode cX3_init 96 = .ok (.newarray .int, 2) := by decide +kernel
theorem dX3_init_98 : decode cX3_init 98 = .ok (.putfield 45, 3) := by decide +kernel
theorem dX3_init_101 : decode cX3_init 101 = .ok (.aload_n 0, 1) := by decide +kernel
theorem dX3_init_102 : decode cX3_init 102 = .ok (.bipush 40, 2) := by decide +kernel
theorem dX3_init_104 : decode cX3_init 104 = .ok (.newarray .int, 2) := by decide +kernel
theorem dX3_init_106 : decode cX3_init 106 = .ok (.putfield 48, 3) := by decide +kernel
theorem dX3_init_109 : decode cX3_init 109 = .ok (.aload_n 0, 1) := by decide +kernel
theorem dX3_init_110 : decode cX3_init 110 = .ok (.bipush 120, 2) := by decide +kernel
theorem dX3_init_112 : decode cX3_init 112 = .ok (.newarray .int, 2) := by decide +kernel
theorem dX3_init_114 : decode cX3_init 114 = .ok (.putfield 51, 3) := by decide +kernel
theorem dX3_init_117 : decode cX3_init 117 = .ok (.aload_n 0, 1) := by decide +kernel
theorem dX3_init_118 : decode cX3_init 118 = .ok (.bipush 40, 2) := by decide +kernel
theorem dX3_init_120 : decode cX3_init 120 = .ok (.newarray .boolean, 2) := by decide +kernel
theorem dX3_init_122 : decode cX3_init 122 = .ok (.putfield 54, 3) := by decide +kernel
theorem dX3_init_125 : decode cX3_init 125 = .ok (.aload_n 0, 1) := by decide +kernel
theorem dX3_init_126 : decode cX3_init 126 = .ok (.bipush 120, 2) := by decide +kernel
theorem dX3_init_128 : decode cX3_init 128 = .ok (.newarray .boolean, 2) := by decide +kernel
theorem dX3_init_130 : decode cX3_init 130 = .ok (.putfield 57, 3) := by decide +kernel
theorem dX3_init_133 : decode cX3_init 133 = .ok (.aload_n 0, 1) := by decide +kernel
theorem dX3_init_134 : decode cX3_init 134 = .ok (.sipush 400, 3) := by decide +kernel
theorem dX3_init_137 : decode cX3_init 137 = .ok (.newarray .int, 2) := by decide +kernel
theorem dX3_init_139 : decode cX3_init 139 = .ok (.putfield 60, 3) := by decide +kernel
theorem dX3_init_142 : decode cX3_init 142 = .ok (.aload_n 0, 1) := by decide +kernel
theorem dX3_init_143 : decode cX3_init 143 = .ok (.sipush 400, 3) := by decide +kernel
theorem dX3_init_146 : decode cX3_init 146 = .ok (.newarray .int, 2) := by decide +kernel
theorem dX3_init_148 : decode cX3_init 148 = .ok (.putfield 63, 3) := by decide +kernel
theorem dX3_init_151 : decode cX3_init 151 = .ok (.aload_n 0, 1) := by decide +kernel
theorem dX3_init_152 : decode cX3_init 152 = .ok (.iload_n 1, 1) := by decide +kernel
theorem dX3_init_153 : decode cX3_init 153 = .ok (.ifCond .ge 7, 3) := by decide +kernel
theorem dX3_init_160 : decode cX3_init 160 = .ok (.iload_n 1, 1) := by decide +kernel
theorem dX3_init_161 : decode cX3_init 161 = .ok (.ldc 66, 2) := by decide +kernel
theorem dX3_init_163 : decode cX3_init 163 = .ok (.if_icmp .le 8, 3) := by decide +kernel
theorem dX3_init_171 : decode cX3_init 171 = .ok (.iload_n 1, 1) := by decide +kernel
theorem dX3_init_172 : decode cX3_init 172 = .ok (.putfield 67, 3) := by decide +kernel
theorem dX3_init_175 : decode cX3_init 175 = .ok (.return_, 1) := by decide +kernel
theorem dX3_init_166 : decode cX3_init 166 = .ok (.ldc 66, 2) := by decide +kernel
theorem dX3_init_168 : decode cX3_init 168 = .ok (.goto 4, 3) := by decide +kernel
theorem dX3_init_156 : decode cX3_init 156 = .ok (.iconst 0, 1) := by decide +kernel
theorem dX3_init_157 : decode cX3_init 157 = .ok (.goto 15, 3) := by decide +kernel
theorem dX3_thrown_0 : decode cX3_thrown 0 = .ok (.aload_n 0, 1) := by decide +kernel
theorem dX3_thrown_1 : decode cX3_thrown 1 = .ok (.getfield 71, 3) := by decide +kernel
theorem dX3_thrown_4 : decode cX3_thrown 4 = .ok (.ireturn, 1) := by decide +kernel
theorem dX3_isRule_0 : decode cX3_isRule 0 = .ok (.iload_n 1, 1) := by decide +kernel
theorem dX3_isRule_1 : decode cX3_isRule 1 = .ok (.ifCond .lt 15, 3) := by decide +kernel
theorem dX3_isRule_16 : decode cX3_isRule 16 = .ok (.iconst 0, 1) := by decide +kernel
theorem dX3_isRule_17 : decode cX3_isRule 17 = .ok (.ireturn, 1) := by decide +kernel
theorem dX3_isRule_4 : decode cX3_isRule 4 = .ok (.iload_n 1, 1) := by decide +kernel
theorem dX3_isRule_5 : decode cX3_isRule 5 = .ok (.aload_n 0, 1) := by decide +kernel
theorem dX3_isRule_6 : decode cX3_isRule 6 = .ok (.getfield 74, 3) := by decide +kernel
theorem dX3_isRule_9 : decode cX3_isRule 9 = .ok (.if_icmp .ge 7, 3) := by decide +kernel
theorem dX3_isRule_12 : decode cX3_isRule 12 = .ok (.iconst 1, 1) := by decide +kernel
theorem dX3_isRule_13 : decode cX3_isRule 13 = .ok (.goto 4, 3) := by decide +kernel
theorem dX3_isTarget_0 : decode cX3_isTarget 0 = .ok (.iload_n 1, 1) := by decide +kernel
theorem dX3_isTarget_1 : decode cX3_isTarget 1 = .ok (.ifCond .lt 15, 3) := by decide +kernel
theorem dX3_isTarget_16 : decode cX3_isTarget 16 = .ok (.iconst 0, 1) := by decide +kernel
theorem dX3_isTarget_17 : decode cX3_isTarget 17 = .ok (.ireturn, 1) := by decide +kernel
theorem dX3_isTarget_4 : decode cX3_isTarget 4 = .ok (.iload_n 1, 1) := by decide +kernel
theorem dX3_isTarget_5 : decode cX3_isTarget 5 = .ok (.aload_n 0, 1) := by decide +kernel
theorem dX3_isTarget_6 : decode cX3_isTarget 6 = .ok (.getfield 77, 3) := by decide +kernel
theorem dX3_isTarget_9 : decode cX3_isTarget 9 = .ok (.if_icmp .ge 7, 3) := by decide +kernel
theorem dX3_isTarget_12 : decode cX3_isTarget 12 = .ok (.iconst 1, 1) := by decide +kernel
theorem dX3_isTarget_13 : decode cX3_isTarget 13 = .ok (.goto 4, 3) := by decide +kernel
theorem dX3_rule_0 : decode cX3_rule 0 = .ok (.aload_n 0, 1) := by decide +kernel
theorem dX3_rule_1 : decode cX3_rule 1 = .ok (.iconst 0, 1) := by decide +kernel
theorem dX3_rule_2 : decode cX3_rule 2 = .ok (.putfield 71, 3) := by decide +kernel
theorem dX3_rule_5 : decode cX3_rule 5 = .ok (.iload_n 1, 1) := by decide +kernel
theorem dX3_rule_6 : decode cX3_rule 6 = .ok (.ifCond .lt 19, 3) := by decide +kernel
theorem dX3_rule_25 : decode cX3_rule 25 = .ok (.bipush (-2), 2) := by decide +kernel
theorem dX3_rule_27 : decode cX3_rule 27 = .ok (.ireturn, 1) := by decide +kernel
theorem dX3_rule_9 : decode cX3_rule 9 = .ok (.iload_n 1, 1) := by decide +kernel
theorem dX3_rule_10 : decode cX3_rule 10 = .ok (.iconst 3, 1) := by decide +kernel
theorem dX3_rule_11 : decode cX3_rule 11 = .ok (.if_icmp .gt 14, 3) := by decide +kernel
theorem dX3_rule_14 : decode cX3_rule 14 = .ok (.iload_n 2, 1) := by decide +kernel
theorem dX3_rule_15 : decode cX3_rule 15 = .ok (.ifCond .lt 10, 3) := by decide +kernel
theorem dX3_rule_18 : decode cX3_rule 18 = .ok (.iload_n 2, 1) := by decide +kernel
theorem dX3_rule_19 : decode cX3_rule 19 = .ok (.sipush 255, 3) := by decide +kernel
theorem dX3_rule_22 : decode cX3_rule 22 = .ok (.if_icmp .le 6, 3) := by decide +kernel
theorem dX3_rule_28 : decode cX3_rule 28 = .ok (.aload_n 0, 1) := by decide +kernel
theorem dX3_rule_29 : decode cX3_rule 29 = .ok (.getfield 74, 3) := by decide +kernel
theorem dX3_rule_32 : decode cX3_rule 32 = .ok (.bipush 16, 2) := by decide +kernel
theorem dX3_rule_34 : decode cX3_rule 34 = .ok (.if_icmp .ne 6, 3) := by decide +kernel
theorem dX3_rule_40 : decode cX3_rule 40 = .ok (.aload_n 0, 1) := by decide +kernel
theorem dX3_rule_41 : decode cX3_rule 41 = .ok (.getfield 7, 3) := by decide +kernel
theorem dX3_rule_44 : decode cX3_rule 44 = .ok (.aload_n 0, 1) := by decide +kernel
theorem dX3_rule_45 : decode cX3_rule 45 = .ok (.getfield 74, 3) := by decide +kernel
theorem dX3_rule_48 : decode cX3_rule 48 = .ok (.iload_n 1, 1) := by decide +kernel
theorem dX3_rule_49 : decode cX3_rule 49 = .ok (.iastore, 1) := by decide +kernel
theorem dX3_rule_50 : decode cX3_rule 50 = .ok (.aload_n 0, 1) := by decide +kernel
theorem dX3_rule_51 : decode cX3_rule 51 = .ok (.getfield 13, 3) := by decide +kernel
theorem dX3_rule_54 : decode cX3_rule 54 = .ok (.aload_n 0, 1) := by decide +kernel
theorem dX3_rule_55 : decode cX3_rule 55 = .ok (.getfield 74, 3) := by decide +kernel
theorem dX3_rule_58 : decode cX3_rule 58 = .ok (.iload_n 2, 1) := by decide +kernel
theorem dX3_rule_59 : decode cX3_rule 59 = .ok (.iastore, 1) := by decide +kernel
theorem dX3_rule_60 : decode cX3_rule 60 = .ok (.aload_n 0, 1) := by decide +kernel
theorem dX3_rule_61 : decode cX3_rule 61 = .ok (.getfield 19, 3) := by decide +kernel
theorem dX3_rule_64 : decode cX3_rule 64 = .ok (.aload_n 0, 1) := by decide +kernel
theorem dX3_rule_65 : decode cX3_rule 65 = .ok (.getfield 74, 3) := by decide +kernel
theorem dX3_rule_68 : decode cX3_rule 68 = .ok (.iload_n 3, 1) := by decide +kernel
theorem dX3_rule_69 : decode cX3_rule 69 = .ok (.bastore, 1) := by decide +kernel
theorem dX3_rule_70 : decode cX3_rule 70 = .ok (.aload_n 0, 1) := by decide +kernel
end
section
theorem dX3_rule_71 : decode cX3_rule 71 = .ok (.getfield 16, 3) := by decide +kernel
theorem dX3_rule_74 : decode cX3_rule 74 = .ok (.aload_n 0, 1) := by decide +kernel
theorem dX3_rule_75 : decode cX3_rule 75 = .ok (.getfield 74, 3) := by decide +kernel
theorem dX3_rule_78 : decode cX3_rule 78 = .ok (.iconst (-1), 1) := by decide +kernel
theorem dX3_rule_79 : decode cX3_rule 79 = .ok (.iastore, 1) := by decide +kernel
theorem dX3_rule_80 : decode cX3_rule 80 = .ok (.aload_n 0, 1) := by decide +kernel
theorem dX3_rule_81 : decode cX3_rule 81 = .ok (.dup, 1) := by decide +kernel
theorem dX3_rule_82 : decode cX3_rule 82 = .ok (.getfield 74, 3) := by decide +kernel
theorem dX3_rule_85 : decode cX3_rule 85 = .ok (.iconst 1, 1) := by decide +kernel
theorem dX3_rule_86 : decode cX3_rule 86 = .ok (.iadd, 1) := by decide +kernel
theorem dX3_rule_87 : decode cX3_rule 87 = .ok (.putfield 74, 3) := by decide +kernel
theorem dX3_rule_90 : decode cX3_rule 90 = .ok (.aload_n 0, 1) := by decide +kernel
theorem dX3_rule_91 : decode cX3_rule 91 = .ok (.getfield 74, 3) := by decide +kernel
theorem dX3_rule_94 : decode cX3_rule 94 = .ok (.iconst 1, 1) := by decide +kernel
theorem dX3_rule_95 : decode cX3_rule 95 = .ok (.isub, 1) := by decide +kernel
theorem dX3_rule_96 : decode cX3_rule 96 = .ok (.ireturn, 1) := by decide +kernel
theorem dX3_rule_37 : decode cX3_rule 37 = .ok (.bipush (-4), 2) := by decide +kernel
theorem dX3_rule_39 : decode cX3_rule 39 = .ok (.ireturn, 1) := by decide +kernel
theorem dX3_firstOf_0 : decode cX3_firstOf 0 = .ok (.iconst 0, 1) := by decide +kernel
theorem dX3_firstOf_1 : decode cX3_firstOf 1 = .ok (.istore_n 2, 1) := by decide +kernel
theorem dX3_firstOf_2 : decode cX3_firstOf 2 = .ok (.aload_n 0, 1) := by decide +kernel
theorem dX3_firstOf_3 : decode cX3_firstOf 3 = .ok (.getfield 7, 3) := by decide +kernel
theorem dX3_firstOf_6 : decode cX3_firstOf 6 = .ok (.iload_n 2, 1) := by decide +kernel
theorem dX3_firstOf_7 : decode cX3_firstOf 7 = .ok (.iaload, 1) := by decide +kernel
theorem dX3_firstOf_8 : decode cX3_firstOf 8 = .ok (.aload_n 0, 1) := by decide +kernel
theorem dX3_firstOf_9 : decode cX3_firstOf 9 = .ok (.getfield 7, 3) := by decide +kernel
theorem dX3_firstOf_12 : decode cX3_firstOf 12 = .ok (.iload_n 1, 1) := by decide +kernel
theorem dX3_firstOf_13 : decode cX3_firstOf 13 = .ok (.iaload, 1) := by decide +kernel
theorem dX3_firstOf_14 : decode cX3_firstOf 14 = .ok (.if_icmp .ne 18, 3) := by decide +kernel
theorem dX3_firstOf_32 : decode cX3_firstOf 32 = .ok (.iinc 2 1, 3) := by decide +kernel
theorem dX3_firstOf_35 : decode cX3_firstOf 35 = .ok (.goto (-33), 3) := by decide +kernel
theorem dX3_firstOf_17 : decode cX3_firstOf 17 = .ok (.aload_n 0, 1) := by decide +kernel
theorem dX3_firstOf_18 : decode cX3_firstOf 18 = .ok (.getfield 13, 3) := by decide +kernel
theorem dX3_firstOf_21 : decode cX3_firstOf 21 = .ok (.iload_n 2, 1) := by decide +kernel
theorem dX3_firstOf_22 : decode cX3_firstOf 22 = .ok (.iaload, 1) := by decide +kernel
theorem dX3_firstOf_23 : decode cX3_firstOf 23 = .ok (.aload_n 0, 1) := by decide +kernel
theorem dX3_firstOf_24 : decode cX3_firstOf 24 = .ok (.getfield 13, 3) := by decide +kernel
theorem dX3_firstOf_27 : decode cX3_firstOf 27 = .ok (.iload_n 1, 1) := by decide +kernel
theorem dX3_firstOf_28 : decode cX3_firstOf 28 = .ok (.iaload, 1) := by decide +kernel
theorem dX3_firstOf_29 : decode cX3_firstOf 29 = .ok (.if_icmp .eq 9, 3) := by decide +kernel
theorem dX3_firstOf_38 : decode cX3_firstOf 38 = .ok (.iload_n 2, 1) := by decide +kernel
theorem dX3_firstOf_39 : decode cX3_firstOf 39 = .ok (.ireturn, 1) := by decide +kernel
theorem dX3_classOf_0 : decode cX3_classOf 0 = .ok (.aload_n 0, 1) := by decide +kernel
theorem dX3_classOf_1 : decode cX3_classOf 1 = .ok (.iload_n 1, 1) := by decide +kernel
theorem dX3_classOf_2 : decode cX3_classOf 2 = .ok (.invokevirtual 80, 3) := by decide +kernel
theorem dX3_classOf_5 : decode cX3_classOf 5 = .ok (.istore_n 2, 1) := by decide +kernel
theorem dX3_classOf_6 : decode cX3_classOf 6 = .ok (.aload_n 0, 1) := by decide +kernel
theorem dX3_classOf_7 : decode cX3_classOf 7 = .ok (.getfield 19, 3) := by decide +kernel
theorem dX3_classOf_10 : decode cX3_classOf 10 = .ok (.iload_n 2, 1) := by decide +kernel
theorem dX3_classOf_11 : decode cX3_classOf 11 = .ok (.baload, 1) := by decide +kernel
theorem dX3_classOf_12 : decode cX3_classOf 12 = .ok (.ifCond .eq 5, 3) := by decide +kernel
theorem dX3_classOf_17 : decode cX3_classOf 17 = .ok (.aload_n 0, 1) := by decide +kernel
theorem dX3_classOf_18 : decode cX3_classOf 18 = .ok (.getfield 16, 3) := by decide +kernel
theorem dX3_classOf_21 : decode cX3_classOf 21 = .ok (.iload_n 2, 1) := by decide +kernel
theorem dX3_classOf_22 : decode cX3_classOf 22 = .ok (.iaload, 1) := by decide +kernel
theorem dX3_classOf_23 : decode cX3_classOf 23 = .ok (.iconst (-1), 1) := by decide +kernel
theorem dX3_classOf_24 : decode cX3_classOf 24 = .ok (.if_icmp .ne 33, 3) := by decide +kernel
theorem dX3_classOf_57 : decode cX3_classOf 57 = .ok (.aload_n 0, 1) := by decide +kernel
theorem dX3_classOf_58 : decode cX3_classOf 58 = .ok (.getfield 16, 3) := by decide +kernel
theorem dX3_classOf_61 : decode cX3_classOf 61 = .ok (.iload_n 2, 1) := by decide +kernel
theorem dX3_classOf_62 : decode cX3_classOf 62 = .ok (.iaload, 1) := by decide +kernel
theorem dX3_classOf_63 : decode cX3_classOf 63 = .ok (.ireturn, 1) := by decide +kernel
theorem dX3_classOf_27 : decode cX3_classOf 27 = .ok (.aload_n 0, 1) := by decide +kernel
theorem dX3_classOf_28 : decode cX3_classOf 28 = .ok (.getfield 16, 3) := by decide +kernel
theorem dX3_classOf_31 : decode cX3_classOf 31 = .ok (.iload_n 2, 1) := by decide +kernel
theorem dX3_classOf_32 : decode cX3_classOf 32 = .ok (.aload_n 0, 1) := by decide +kernel
theorem dX3_classOf_33 : decode cX3_classOf 33 = .ok (.getfield 84, 3) := by decide +kernel
theorem dX3_classOf_36 : decode cX3_classOf 36 = .ok (.iastore, 1) := by decide +kernel
theorem dX3_classOf_37 : decode cX3_classOf 37 = .ok (.aload_n 0, 1) := by decide +kernel
theorem dX3_classOf_38 : decode cX3_classOf 38 = .ok (.getfield 23, 3) := by decide +kernel
theorem dX3_classOf_41 : decode cX3_classOf 41 = .ok (.aload_n 0, 1) := by decide +kernel
theorem dX3_classOf_42 : decode cX3_classOf 42 = .ok (.getfield 84, 3) := by decide +kernel
theorem dX3_classOf_45 : decode cX3_classOf 45 = .ok (.lconst 0, 1) := by decide +kernel
theorem dX3_classOf_46 : decode cX3_classOf 46 = .ok (.lastore, 1) := by decide +kernel
theorem dX3_classOf_47 : decode cX3_classOf 47 = .ok (.aload_n 0, 1) := by decide +kernel
theorem dX3_classOf_48 : decode cX3_classOf 48 = .ok (.dup, 1) := by decide +kernel
theorem dX3_classOf_49 : decode cX3_classOf 49 = .ok (.getfield 84, 3) := by decide +kernel
theorem dX3_classOf_52 : decode cX3_classOf 52 = .ok (.iconst 1, 1) := by decide +kernel
theorem dX3_classOf_53 : decode cX3_classOf 53 = .ok (.iadd, 1) := by decide +kernel
theorem dX3_classOf_54 : decode cX3_classOf 54 = .ok (.putfield 84, 3) := by decide +kernel
theorem dX3_classOf_15 : decode cX3_classOf 15 = .ok (.iconst (-1), 1) := by decide +kernel
theorem dX3_classOf_16 : decode cX3_classOf 16 = .ok (.ireturn, 1) := by decide +kernel
theorem dX3_make_0 : decode cX3_make 0 = .ok (.aload_n 0, 1) := by decide +kernel
theorem dX3_make_1 : decode cX3_make 1 = .ok (.iconst 0, 1) := by decide +kernel
theorem dX3_make_2 : decode cX3_make 2 = .ok (.putfield 71, 3) := by decide +kernel
theorem dX3_make_5 : decode cX3_make 5 = .ok (.aload_n 0, 1) := by decide +kernel
theorem dX3_make_6 : decode cX3_make 6 = .ok (.iload_n 1, 1) := by decide +kernel
theorem dX3_make_7 : decode cX3_make 7 = .ok (.invokevirtual 87, 3) := by decide +kernel
theorem dX3_make_10 : decode cX3_make 10 = .ok (.ifCond .eq 11, 3) := by decide +kernel
theorem dX3_make_21 : decode cX3_make 21 = .ok (.iconst (-1), 1) := by decide +kernel
theorem dX3_make_22 : decode cX3_make 22 = .ok (.ireturn, 1) := by decide +kernel
theorem dX3_make_13 : decode cX3_make 13 = .ok (.aload_n 0, 1) := by decide +kernel
theorem dX3_make_14 : decode cX3_make 14 = .ok (.iload_n 1, 1) := by decide +kernel
theorem dX3_make_15 : decode cX3_make 15 = .ok (.invokevirtual 91, 3) := by decide +kernel
theorem dX3_make_18 : decode cX3_make 18 = .ok (.goto 4, 3) := by decide +kernel
theorem dX3_cell_0 : decode cX3_cell 0 = .ok (.aload_n 0, 1) := by decide +kernel
theorem dX3_cell_1 : decode cX3_cell 1 = .ok (.iconst 0, 1) := by decide +kernel
theorem dX3_cell_2 : decode cX3_cell 2 = .ok (.putfield 71, 3) := by decide +kernel
theorem dX3_cell_5 : decode cX3_cell 5 = .ok (.aload_n 0, 1) := by decide +kernel
theorem dX3_cell_6 : decode cX3_cell 6 = .ok (.iload_n 1, 1) := by decide +kernel
theorem dX3_cell_7 : decode cX3_cell 7 = .ok (.invokevirtual 87, 3) := by decide +kernel
theorem dX3_cell_10 : decode cX3_cell 10 = .ok (.ifCond .eq 16, 3) := by decide +kernel
theorem dX3_cell_26 : decode cX3_cell 26 = .ok (.iconst (-1), 1) := by decide +kernel
theorem dX3_cell_27 : decode cX3_cell 27 = .ok (.istore_n 2, 1) := by decide +kernel
theorem dX3_cell_28 : decode cX3_cell 28 = .ok (.iload_n 2, 1) := by decide +kernel
theorem dX3_cell_29 : decode cX3_cell 29 = .ok (.iconst (-1), 1) := by decide +kernel
theorem dX3_cell_30 : decode cX3_cell 30 = .ok (.if_icmp .ne 9, 3) := by decide +kernel
theorem dX3_cell_39 : decode cX3_cell 39 = .ok (.aload_n 0, 1) := by decide +kernel
theorem dX3_cell_40 : decode cX3_cell 40 = .ok (.getfield 23, 3) := by decide +kernel
theorem dX3_cell_43 : decode cX3_cell 43 = .ok (.iload_n 2, 1) := by decide +kernel
theorem dX3_cell_44 : decode cX3_cell 44 = .ok (.laload, 1) := by decide +kernel
theorem dX3_cell_45 : decode cX3_cell 45 = .ok (.lreturn, 1) := by decide +kernel
theorem dX3_cell_33 : decode cX3_cell 33 = .ok (.ldc2_w 94, 3) := by decide +kernel
theorem dX3_cell_36 : decode cX3_cell 36 = .ok (.goto 9, 3) := by decide +kernel
theorem dX3_cell_13 : decode cX3_cell 13 = .ok (.aload_n 0, 1) := by decide +kernel
theorem dX3_cell_14 : decode cX3_cell 14 = .ok (.getfield 16, 3) := by decide +kernel
theorem dX3_cell_17 : decode cX3_cell 17 = .ok (.aload_n 0, 1) := by decide +kernel
theorem dX3_cell_18 : decode cX3_cell 18 = .ok (.iload_n 1, 1) := by decide +kernel
theorem dX3_cell_19 : decode cX3_cell 19 = .ok (.invokevirtual 80, 3) := by decide +kernel
theorem dX3_cell_22 : decode cX3_cell 22 = .ok (.iaload, 1) := by decide +kernel
theorem dX3_cell_23 : decode cX3_cell 23 = .ok (.goto 4, 3) := by decide +kernel
theorem dX3_same_0 : decode cX3_same 0 = .ok (.aload_n 0, 1) := by decide +kernel
theorem dX3_same_1 : decode cX3_same 1 = .ok (.iconst 0, 1) := by decide +kernel
theorem dX3_same_2 : decode cX3_same 2 = .ok (.putfield 71, 3) := by decide +kernel
theorem dX3_same_5 : decode cX3_same 5 = .ok (.aload_n 0, 1) := by decide +kernel
theorem dX3_same_6 : decode cX3_same 6 = .ok (.iload_n 1, 1) := by decide +kernel
theorem dX3_same_7 : decode cX3_same 7 = .ok (.invokevirtual 87, 3) := by decide +kernel
theorem dX3_same_10 : decode cX3_same 10 = .ok (.ifCond .eq 45, 3) := by decide +kernel
theorem dX3_same_55 : decode cX3_same 55 = .ok (.iconst 0, 1) := by decide +kernel
theorem dX3_same_56 : decode cX3_same 56 = .ok (.ireturn, 1) := by decide +kernel
theorem dX3_same_13 : decode cX3_same 13 = .ok (.aload_n 0, 1) := by decide +kernel
theorem dX3_same_14 : decode cX3_same 14 = .ok (.iload_n 2, 1) := by decide +kernel
theorem dX3_same_15 : decode cX3_same 15 = .ok (.invokevirtual 87, 3) := by decide +kernel
theorem dX3_same_18 : decode cX3_same 18 = .ok (.ifCond .eq 37, 3) := by decide +kernel
theorem dX3_same_21 : decode cX3_same 21 = .ok (.aload_n 0, 1) := by decide +kernel
theorem dX3_same_22 : decode cX3_same 22 = .ok (.getfield 7, 3) := by decide +kernel
theorem dX3_same_25 : decode cX3_same 25 = .ok (.iload_n 1, 1) := by decide +kernel
theorem dX3_same_26 : decode cX3_same 26 = .ok (.iaload, 1) := by decide +kernel
theorem dX3_same_27 : decode cX3_same 27 = .ok (.aload_n 0, 1) := by decide +kernel
theorem dX3_same_28 : decode cX3_same 28 = .ok (.getfield 7, 3) := by decide +kernel
theorem dX3_same_31 : decode cX3_same 31 = .ok (.iload_n 2, 1) := by decide +kernel
theorem dX3_same_32 : decode cX3_same 32 = .ok (.iaload, 1) := by decide +kernel
theorem dX3_same_33 : decode cX3_same 33 = .ok (.if_icmp .ne 22, 3) := by decide +kernel
theorem dX3_same_36 : decode cX3_same 36 = .ok (.aload_n 0, 1) := by decide +kernel
theorem dX3_same_37 : decode cX3_same 37 = .ok (.getfield 13, 3) := by decide +kernel
theorem dX3_same_40 : decode cX3_same 40 = .ok (.iload_n 1, 1) := by decide +kernel
theorem dX3_same_41 : decode cX3_same 41 = .ok (.iaload, 1) := by decide +kernel
theorem dX3_same_42 : decode cX3_same 42 = .ok (.aload_n 0, 1) := by decide +kernel
theorem dX3_same_43 : decode cX3_same 43 = .ok (.getfield 13, 3) := by decide +kernel
theorem dX3_same_46 : decode cX3_same 46 = .ok (.iload_n 2, 1) := by decide +kernel
theorem dX3_same_47 : decode cX3_same 47 = .ok (.iaload, 1) := by decide +kernel
theorem dX3_same_48 : decode cX3_same 48 = .ok (.if_icmp .ne 7, 3) := by decide +kernel
theorem dX3_same_51 : decode cX3_same 51 = .ok (.iconst 1, 1) := by decide +kernel
theorem dX3_same_52 : decode cX3_same 52 = .ok (.goto 4, 3) := by decide +kernel
theorem dX3_divide_0 : decode cX3_divide 0 = .ok (.aload_n 0, 1) := by decide +kernel
theorem dX3_divide_1 : decode cX3_divide 1 = .ok (.iconst 0, 1) := by decide +kernel
theorem dX3_divide_2 : decode cX3_divide 2 = .ok (.putfield 71, 3) := by decide +kernel
theorem dX3_divide_5 : decode cX3_divide 5 = .ok (.aload_n 0, 1) := by decide +kernel
theorem dX3_divide_6 : decode cX3_divide 6 = .ok (.iload_n 1, 1) := by decide +kernel
theorem dX3_divide_7 : decode cX3_divide 7 = .ok (.invokevirtual 87, 3) := by decide +kernel
theorem dX3_divide_10 : decode cX3_divide 10 = .ok (.ifCond .eq 11, 3) := by decide +kernel
theorem dX3_divide_21 : decode cX3_divide 21 = .ok (.iconst (-1), 1) := by decide +kernel
theorem dX3_divide_22 : decode cX3_divide 22 = .ok (.istore 6, 2) := by decide +kernel
theorem dX3_divide_24 : decode cX3_divide 24 = .ok (.iload 6, 2) := by decide +kernel
theorem dX3_divide_26 : decode cX3_divide 26 = .ok (.iconst (-1), 1) := by decide +kernel
theorem dX3_divide_27 : decode cX3_divide 27 = .ok (.if_icmp .ne 5, 3) := by decide +kernel
theorem dX3_divide_32 : decode cX3_divide 32 = .ok (.aload_n 0, 1) := by decide +kernel
theorem dX3_divide_33 : decode cX3_divide 33 = .ok (.getfield 23, 3) := by decide +kernel
theorem dX3_divide_36 : decode cX3_divide 36 = .ok (.iload 6, 2) := by decide +kernel
theorem dX3_divide_38 : decode cX3_divide 38 = .ok (.dup2, 1) := by decide +kernel
theorem dX3_divide_39 : decode cX3_divide 39 = .ok (.laload, 1) := by decide +kernel
theorem dX3_divide_40 : decode cX3_divide 40 = .ok (.lconst 1, 1) := by decide +kernel
theorem dX3_divide_41 : decode cX3_divide 41 = .ok (.ladd, 1) := by decide +kernel
theorem dX3_divide_42 : decode cX3_divide 42 = .ok (.lastore, 1) := by decide +kernel
theorem dX3_divide_43 : decode cX3_divide 43 = .ok (.aload_n 0, 1) := by decide +kernel
theorem dX3_divide_44 : decode cX3_divide 44 = .ok (.lload 4, 2) := by decide +kernel
theorem dX3_divide_46 : decode cX3_divide 46 = .ok (.lconst 0, 1) := by decide +kernel
theorem dX3_divide_47 : decode cX3_divide 47 = .ok (.lcmp, 1) := by decide +kernel
theorem dX3_divide_48 : decode cX3_divide 48 = .ok (.ifCond .ne 7, 3) := by decide +kernel
theorem dX3_divide_55 : decode cX3_divide 55 = .ok (.iconst 0, 1) := by decide +kernel
theorem dX3_divide_56 : decode cX3_divide 56 = .ok (.putfield 71, 3) := by decide +kernel
theorem dX3_divide_59 : decode cX3_divide 59 = .ok (.lload 4, 2) := by decide +kernel
theorem dX3_divide_61 : decode cX3_divide 61 = .ok (.lconst 0, 1) := by decide +kernel
theorem dX3_divide_62 : decode cX3_divide 62 = .ok (.lcmp, 1) := by decide +kernel
theorem dX3_divide_63 : decode cX3_divide 63 = .ok (.ifCond .ne 7, 3) := by decide +kernel
theorem dX3_divide_70 : decode cX3_divide 70 = .ok (.lload 4, 2) := by decide +kernel
theorem dX3_divide_72 : decode cX3_divide 72 = .ok (.ldc2_w 94, 3) := by decide +kernel
theorem dX3_divide_75 : decode cX3_divide 75 = .ok (.lcmp, 1) := by decide +kernel
theorem dX3_divide_76 : decode cX3_divide 76 = .ok (.ifCond .ne 8, 3) := by decide +kernel
theorem dX3_divide_84 : decode cX3_divide 84 = .ok (.lload_n 2, 1) := by decide +kernel
theorem dX3_divide_85 : decode cX3_divide 85 = .ok (.lload 4, 2) := by decide +kernel
theorem dX3_divide_87 : decode cX3_divide 87 = .ok (.ldiv, 1) := by decide +kernel
theorem dX3_divide_88 : decode cX3_divide 88 = .ok (.lreturn, 1) := by decide +kernel
theorem dX3_divide_79 : decode cX3_divide 79 = .ok (.lload_n 2, 1) := by decide +kernel
theorem dX3_divide_80 : decode cX3_divide 80 = .ok (.lneg, 1) := by decide +kernel
theorem dX3_divide_81 : decode cX3_divide 81 = .ok (.goto 7, 3) := by decide +kernel
theorem dX3_divide_66 : decode cX3_divide 66 = .ok (.lconst 0, 1) := by decide +kernel
theorem dX3_divide_67 : decode cX3_divide 67 = .ok (.goto 21, 3) := by decide +kernel
theorem dX3_divide_51 : decode cX3_divide 51 = .ok (.iconst 1, 1) := by decide +kernel
theorem dX3_divide_52 : decode cX3_divide 52 = .ok (.goto 4, 3) := by decide +kernel
theorem dX3_divide_30 : decode cX3_divide 30 = .ok (.lconst 0, 1) := by decide +kernel
theorem dX3_divide_31 : decode cX3_divide 31 = .ok (.lreturn, 1) := by decide +kernel
theorem dX3_divide_13 : decode cX3_divide 13 = .ok (.aload_n 0, 1) := by decide +kernel
theorem dX3_divide_14 : decode cX3_divide 14 = .ok (.iload_n 1, 1) := by decide +kernel
theorem dX3_divide_15 : decode cX3_divide 15 = .ok (.invokevirtual 91, 3) := by decide +kernel
theorem dX3_divide_18 : decode cX3_divide 18 = .ok (.goto 4, 3) := by decide +kernel
theorem dX3_handle_0 : decode cX3_handle 0 = .ok (.aload_n 0, 1) := by decide +kernel
theorem dX3_handle_1 : decode cX3_handle 1 = .ok (.iload_n 1, 1) := by decide +kernel
theorem dX3_handle_2 : decode cX3_handle 2 = .ok (.ifCond .lt 15, 3) := by decide +kernel
theorem dX3_handle_17 : decode cX3_handle 17 = .ok (.iconst 0, 1) := by decide +kernel
theorem dX3_handle_18 : decode cX3_handle 18 = .ok (.putfield 71, 3) := by decide +kernel
theorem dX3_handle_21 : decode cX3_handle 21 = .ok (.aload_n 0, 1) := by decide +kernel
theorem dX3_handle_22 : decode cX3_handle 22 = .ok (.getfield 71, 3) := by decide +kernel
theorem dX3_handle_25 : decode cX3_handle 25 = .ok (.ifCond .le 7, 3) := by decide +kernel
theorem dX3_handle_32 : decode cX3_handle 32 = .ok (.iconst (-1), 1) := by decide +kernel
theorem dX3_handle_33 : decode cX3_handle 33 = .ok (.ireturn, 1) := by decide +kernel
theorem dX3_handle_28 : decode cX3_handle 28 = .ok (.iconst 0, 1) := by decide +kernel
theorem dX3_handle_29 : decode cX3_handle 29 = .ok (.goto 4, 3) := by decide +kernel
theorem dX3_handle_5 : decode cX3_handle 5 = .ok (.iload_n 1, 1) := by decide +kernel
theorem dX3_handle_6 : decode cX3_handle 6 = .ok (.aload_n 0, 1) := by decide +kernel
theorem dX3_handle_7 : decode cX3_handle 7 = .ok (.getfield 96, 3) := by decide +kernel
theorem dX3_handle_10 : decode cX3_handle 10 = .ok (.if_icmp .ge 7, 3) := by decide +kernel
theorem dX3_handle_13 : decode cX3_handle 13 = .ok (.iconst 1, 1) := by decide +kernel
theorem dX3_handle_14 : decode cX3_handle 14 = .ok (.goto 4, 3) := by decide +kernel
theorem dX3_target_0 : decode cX3_target 0 = .ok (.aload_n 0, 1) := by decide +kernel
theorem dX3_target_1 : decode cX3_target 1 = .ok (.iconst 0, 1) := by decide +kernel
theorem dX3_target_2 : decode cX3_target 2 = .ok (.putfield 71, 3) := by decide +kernel
theorem dX3_target_5 : decode cX3_target 5 = .ok (.aload_n 0, 1) := by decide +kernel
theorem dX3_target_6 : decode cX3_target 6 = .ok (.iload_n 1, 1) := by decide +kernel
theorem dX3_target_7 : decode cX3_target 7 = .ok (.invokevirtual 87, 3) := by decide +kernel
theorem dX3_target_10 : decode cX3_target 10 = .ok (.ifCond .ne 5, 3) := by decide +kernel
theorem dX3_target_15 : decode cX3_target 15 = .ok (.aload_n 0, 1) := by decide +kernel
theorem dX3_target_16 : decode cX3_target 16 = .ok (.getfield 77, 3) := by decide +kernel
theorem dX3_target_19 : decode cX3_target 19 = .ok (.bipush 40, 2) := by decide +kernel
theorem dX3_target_21 : decode cX3_target 21 = .ok (.if_icmp .ne 6, 3) := by decide +kernel
theorem dX3_target_27 : decode cX3_target 27 = .ok (.aload_n 0, 1) := by decide +kernel
theorem dX3_target_28 : decode cX3_target 28 = .ok (.getfield 27, 3) := by decide +kernel
theorem dX3_target_31 : decode cX3_target 31 = .ok (.aload_n 0, 1) := by decide +kernel
theorem dX3_target_32 : decode cX3_target 32 = .ok (.getfield 77, 3) := by decide +kernel
theorem dX3_target_35 : decode cX3_target 35 = .ok (.iload_n 1, 1) := by decide +kernel
theorem dX3_target_36 : decode cX3_target 36 = .ok (.iastore, 1) := by decide +kernel
theorem dX3_target_37 : decode cX3_target 37 = .ok (.aload_n 0, 1) := by decide +kernel
theorem dX3_target_38 : decode cX3_target 38 = .ok (.dup, 1) := by decide +kernel
theorem dX3_target_39 : decode cX3_target 39 = .ok (.getfield 77, 3) := by decide +kernel
theorem dX3_target_42 : decode cX3_target 42 = .ok (.iconst 1, 1) := by decide +kernel
theorem dX3_target_43 : decode cX3_target 43 = .ok (.iadd, 1) := by decide +kernel
theorem dX3_target_44 : decode cX3_target 44 = .ok (.putfield 77, 3) := by decide +kernel
theorem dX3_target_47 : decode cX3_target 47 = .ok (.aload_n 0, 1) := by decide +kernel
theorem dX3_target_48 : decode cX3_target 48 = .ok (.getfield 77, 3) := by decide +kernel
theorem dX3_target_51 : decode cX3_target 51 = .ok (.iconst 1, 1) := by decide +kernel
theorem dX3_target_52 : decode cX3_target 52 = .ok (.isub, 1) := by decide +kernel
theorem dX3_target_53 : decode cX3_target 53 = .ok (.ireturn, 1) := by decide +kernel
theorem dX3_target_24 : decode cX3_target 24 = .ok (.bipush (-4), 2) := by decide +kernel
theorem dX3_target_26 : decode cX3_target 26 = .ok (.ireturn, 1) := by decide +kernel
theorem dX3_target_13 : decode cX3_target 13 = .ok (.iconst (-1), 1) := by decide +kernel
theorem dX3_target_14 : decode cX3_target 14 = .ok (.ireturn, 1) := by decide +kernel
theorem dX3_attribute_0 : decode cX3_attribute 0 = .ok (.aload_n 0, 1) := by decide +kernel
theorem dX3_attribute_1 : decode cX3_attribute 1 = .ok (.iconst 0, 1) := by decide +kernel
theorem dX3_attribute_2 : decode cX3_attribute 2 = .ok (.putfield 71, 3) := by decide +kernel
theorem dX3_attribute_5 : decode cX3_attribute 5 = .ok (.aload_n 0, 1) := by decide +kernel
theorem dX3_attribute_6 : decode cX3_attribute 6 = .ok (.iload_n 1, 1) := by decide +kernel
theorem dX3_attribute_7 : decode cX3_attribute 7 = .ok (.invokevirtual 99, 3) := by decide +kernel
theorem dX3_attribute_10 : decode cX3_attribute 10 = .ok (.ifCond .eq 12, 3) := by decide +kernel
theorem dX3_attribute_22 : decode cX3_attribute 22 = .ok (.iconst (-1), 1) := by decide +kernel
theorem dX3_attribute_23 : decode cX3_attribute 23 = .ok (.ireturn, 1) := by decide +kernel
theorem dX3_attribute_13 : decode cX3_attribute 13 = .ok (.iload_n 2, 1) := by decide +kernel
theorem dX3_attribute_14 : decode cX3_attribute 14 = .ok (.ifCond .lt 8, 3) := by decide +kernel
theorem dX3_attribute_17 : decode cX3_attribute 17 = .ok (.iload_n 2, 1) := by decide +kernel
theorem dX3_attribute_18 : decode cX3_attribute 18 = .ok (.iconst 3, 1) := by decide +kernel
theorem dX3_attribute_19 : decode cX3_attribute 19 = .ok (.if_icmp .le 5, 3) := by decide +kernel
theorem dX3_attribute_24 : decode cX3_attribute 24 = .ok (.iload_n 2, 1) := by decide +kernel
theorem dX3_attribute_25 : decode cX3_attribute 25 = .ok (.ifCond .ne 8, 3) := by decide +kernel
theorem dX3_attribute_33 : decode cX3_attribute 33 = .ok (.iload_n 2, 1) := by decide +kernel
theorem dX3_attribute_34 : decode cX3_attribute 34 = .ok (.iconst 2, 1) := by decide +kernel
theorem dX3_attribute_35 : decode cX3_attribute 35 = .ok (.if_icmp .ne 7, 3) := by decide +kernel
theorem dX3_attribute_42 : decode cX3_attribute 42 = .ok (.iconst 1, 1) := by decide +kernel
theorem dX3_attribute_43 : decode cX3_attribute 43 = .ok (.istore 4, 2) := by decide +kernel
theorem dX3_attribute_45 : decode cX3_attribute 45 = .ok (.iload_n 2, 1) := by decide +kernel
theorem dX3_attribute_46 : decode cX3_attribute 46 = .ok (.iconst 1, 1) := by decide +kernel
theorem dX3_attribute_47 : decode cX3_attribute 47 = .ok (.if_icmp .eq 16, 3) := by decide +kernel
theorem dX3_attribute_63 : decode cX3_attribute 63 = .ok (.aload_n 0, 1) := by decide +kernel
theorem dX3_attribute_64 : decode cX3_attribute 64 = .ok (.getfield 54, 3) := by decide +kernel
theorem dX3_attribute_67 : decode cX3_attribute 67 = .ok (.iload_n 1, 1) := by decide +kernel
theorem dX3_attribute_68 : decode cX3_attribute 68 = .ok (.baload, 1) := by decide +kernel
theorem dX3_attribute_69 : decode cX3_attribute 69 = .ok (.ifCond .eq 6, 3) := by decide +kernel
theorem dX3_attribute_75 : decode cX3_attribute 75 = .ok (.aload_n 0, 1) := by decide +kernel
theorem dX3_attribute_76 : decode cX3_attribute 76 = .ok (.getfield 30, 3) := by decide +kernel
theorem dX3_attribute_79 : decode cX3_attribute 79 = .ok (.iconst 4, 1) := by decide +kernel
theorem dX3_attribute_80 : decode cX3_attribute 80 = .ok (.iload_n 1, 1) := by decide +kernel
theorem dX3_attribute_81 : decode cX3_attribute 81 = .ok (.imul, 1) := by decide +kernel
theorem dX3_attribute_82 : decode cX3_attribute 82 = .ok (.iload_n 2, 1) := by decide +kernel
theorem dX3_attribute_83 : decode cX3_attribute 83 = .ok (.iadd, 1) := by decide +kernel
theorem dX3_attribute_84 : decode cX3_attribute 84 = .ok (.iaload, 1) := by decide +kernel
theorem dX3_attribute_85 : decode cX3_attribute 85 = .ok (.istore 5, 2) := by decide +kernel
theorem dX3_attribute_87 : decode cX3_attribute 87 = .ok (.aload_n 0, 1) := by decide +kernel
theorem dX3_attribute_88 : decode cX3_attribute 88 = .ok (.getfield 30, 3) := by decide +kernel
theorem dX3_attribute_91 : decode cX3_attribute 91 = .ok (.iconst 4, 1) := by decide +kernel
theorem dX3_attribute_92 : decode cX3_attribute 92 = .ok (.iload_n 1, 1) := by decide +kernel
theorem dX3_attribute_93 : decode cX3_attribute 93 = .ok (.imul, 1) := by decide +kernel
theorem dX3_attribute_94 : decode cX3_attribute 94 = .ok (.iload_n 2, 1) := by decide +kernel
theorem dX3_attribute_95 : decode cX3_attribute 95 = .ok (.iadd, 1) := by decide +kernel
theorem dX3_attribute_96 : decode cX3_attribute 96 = .ok (.iload_n 3, 1) := by decide +kernel
theorem dX3_attribute_97 : decode cX3_attribute 97 = .ok (.iastore, 1) := by decide +kernel
theorem dX3_attribute_98 : decode cX3_attribute 98 = .ok (.iload 5, 2) := by decide +kernel
theorem dX3_attribute_100 : decode cX3_attribute 100 = .ok (.ireturn, 1) := by decide +kernel
theorem dX3_attribute_72 : decode cX3_attribute 72 = .ok (.bipush (-3), 2) := by decide +kernel
theorem dX3_attribute_74 : decode cX3_attribute 74 = .ok (.ireturn, 1) := by decide +kernel
theorem dX3_attribute_50 : decode cX3_attribute 50 = .ok (.iload_n 3, 1) := by decide +kernel
theorem dX3_attribute_51 : decode cX3_attribute 51 = .ok (.ifCond .lt 9, 3) := by decide +kernel
theorem dX3_attribute_60 : decode cX3_attribute 60 = .ok (.bipush (-2), 2) := by decide +kernel
theorem dX3_attribute_62 : decode cX3_attribute 62 = .ok (.ireturn, 1) := by decide +kernel
theorem dX3_attribute_54 : decode cX3_attribute 54 = .ok (.iload_n 3, 1) := by decide +kernel
theorem dX3_attribute_55 : decode cX3_attribute 55 = .ok (.iload 4, 2) := by decide +kernel
theorem dX3_attribute_57 : decode cX3_attribute 57 = .ok (.if_icmp .le 6, 3) := by decide +kernel
theorem dX3_attribute_38 : decode cX3_attribute 38 = .ok (.iload_n 1, 1) := by decide +kernel
theorem dX3_attribute_39 : decode cX3_attribute 39 = .ok (.goto 4, 3) := by decide +kernel
theorem dX3_attribute_28 : decode cX3_attribute 28 = .ok (.bipush 20, 2) := by decide +kernel
theorem dX3_attribute_30 : decode cX3_attribute 30 = .ok (.goto 13, 3) := by decide +kernel
theorem dX3_fail_0 : decode cX3_fail 0 = .ok (.aload_n 0, 1) := by decide +kernel
theorem dX3_fail_1 : decode cX3_fail 1 = .ok (.getfield 33, 3) := by decide +kernel
theorem dX3_fail_4 : decode cX3_fail 4 = .ok (.iload_n 1, 1) := by decide +kernel
theorem dX3_fail_5 : decode cX3_fail 5 = .ok (.iload_n 2, 1) := by decide +kernel
theorem dX3_fail_6 : decode cX3_fail 6 = .ok (.iastore, 1) := by decide +kernel
theorem dX3_fail_7 : decode cX3_fail 7 = .ok (.aload_n 0, 1) := by decide +kernel
theorem dX3_fail_8 : decode cX3_fail 8 = .ok (.getfield 36, 3) := by decide +kernel
theorem dX3_fail_11 : decode cX3_fail 11 = .ok (.iload_n 1, 1) := by decide +kernel
theorem dX3_fail_12 : decode cX3_fail 12 = .ok (.iload_n 3, 1) := by decide +kernel
theorem dX3_fail_13 : decode cX3_fail 13 = .ok (.iastore, 1) := by decide +kernel
theorem dX3_fail_14 : decode cX3_fail 14 = .ok (.aload_n 0, 1) := by decide +kernel
theorem dX3_fail_15 : decode cX3_fail 15 = .ok (.getfield 39, 3) := by decide +kernel
theorem dX3_fail_18 : decode cX3_fail 18 = .ok (.iload_n 1, 1) := by decide +kernel
theorem dX3_fail_19 : decode cX3_fail 19 = .ok (.iload 4, 2) := by decide +kernel
theorem dX3_fail_21 : decode cX3_fail 21 = .ok (.iconst 1, 1) := by decide +kernel
theorem dX3_fail_22 : decode cX3_fail 22 = .ok (.iadd, 1) := by decide +kernel
theorem dX3_fail_23 : decode cX3_fail 23 = .ok (.iastore, 1) := by decide +kernel
theorem dX3_fail_24 : decode cX3_fail 24 = .ok (.aload_n 0, 1) := by decide +kernel
theorem dX3_fail_25 : decode cX3_fail 25 = .ok (.dup, 1) := by decide +kernel
theorem dX3_fail_26 : decode cX3_fail 26 = .ok (.getfield 102, 3) := by decide +kernel
theorem dX3_fail_29 : decode cX3_fail 29 = .ok (.aload_n 0, 1) := by decide +kernel
theorem dX3_fail_30 : decode cX3_fail 30 = .ok (.getfield 42, 3) := by decide +kernel
theorem dX3_fail_33 : decode cX3_fail 33 = .ok (.iload_n 1, 1) := by decide +kernel
theorem dX3_fail_34 : decode cX3_fail 34 = .ok (.iaload, 1) := by decide +kernel
theorem dX3_fail_35 : decode cX3_fail 35 = .ok (.isub, 1) := by decide +kernel
theorem dX3_fail_36 : decode cX3_fail 36 = .ok (.putfield 102, 3) := by decide +kernel
theorem dX3_fail_39 : decode cX3_fail 39 = .ok (.aload_n 0, 1) := by decide +kernel
theorem dX3_fail_40 : decode cX3_fail 40 = .ok (.getfield 42, 3) := by decide +kernel
theorem dX3_fail_43 : decode cX3_fail 43 = .ok (.iload_n 1, 1) := by decide +kernel
theorem dX3_fail_44 : decode cX3_fail 44 = .ok (.iconst 0, 1) := by decide +kernel
theorem dX3_fail_45 : decode cX3_fail 45 = .ok (.iastore, 1) := by decide +kernel
theorem dX3_fail_46 : decode cX3_fail 46 = .ok (.iconst 0, 1) := by decide +kernel
theorem dX3_fail_47 : decode cX3_fail 47 = .ok (.istore 5, 2) := by decide +kernel
theorem dX3_fail_49 : decode cX3_fail 49 = .ok (.iload 5, 2) := by decide +kernel
theorem dX3_fail_51 : decode cX3_fail 51 = .ok (.iconst 3, 1) := by decide +kernel
theorem dX3_fail_52 : decode cX3_fail 52 = .ok (.if_icmp .ge 21, 3) := by decide +kernel
theorem dX3_fail_73 : decode cX3_fail 73 = .ok (.return_, 1) := by decide +kernel
theorem dX3_fail_55 : decode cX3_fail 55 = .ok (.aload_n 0, 1) := by decide +kernel
theorem dX3_fail_56 : decode cX3_fail 56 = .ok (.getfield 57, 3) := by decide +kernel
theorem dX3_fail_59 : decode cX3_fail 59 = .ok (.iconst 3, 1) := by decide +kernel
theorem dX3_fail_60 : decode cX3_fail 60 = .ok (.iload_n 1, 1) := by decide +kernel
theorem dX3_fail_61 : decode cX3_fail 61 = .ok (.imul, 1) := by decide +kernel
theorem dX3_fail_62 : decode cX3_fail 62 = .ok (.iload 5, 2) := by decide +kernel
theorem dX3_fail_64 : decode cX3_fail 64 = .ok (.iadd, 1) := by decide +kernel
theorem dX3_fail_65 : decode cX3_fail 65 = .ok (.iconst 0, 1) := by decide +kernel
theorem dX3_fail_66 : decode cX3_fail 66 = .ok (.bastore, 1) := by decide +kernel
theorem dX3_fail_67 : decode cX3_fail 67 = .ok (.iinc 5 1, 3) := by decide +kernel
theorem dX3_fail_70 : decode cX3_fail 70 = .ok (.goto (-21), 3) := by decide +kernel
theorem dX3_give_0 : decode cX3_give 0 = .ok (.aload_n 0, 1) := by decide +kernel
theorem dX3_give_1 : decode cX3_give 1 = .ok (.getfield 51, 3) := by decide +kernel
theorem dX3_give_4 : decode cX3_give 4 = .ok (.iconst 3, 1) := by decide +kernel
theorem dX3_give_5 : decode cX3_give 5 = .ok (.iload_n 1, 1) := by decide +kernel
theorem dX3_give_6 : decode cX3_give 6 = .ok (.imul, 1) := by decide +kernel
theorem dX3_give_7 : decode cX3_give 7 = .ok (.iload_n 2, 1) := by decide +kernel
theorem dX3_give_8 : decode cX3_give 8 = .ok (.iadd, 1) := by decide +kernel
theorem dX3_give_9 : decode cX3_give 9 = .ok (.iload_n 3, 1) := by decide +kernel
theorem dX3_give_10 : decode cX3_give 10 = .ok (.iastore, 1) := by decide +kernel
theorem dX3_give_11 : decode cX3_give 11 = .ok (.aload_n 0, 1) := by decide +kernel
theorem dX3_give_12 : decode cX3_give 12 = .ok (.getfield 57, 3) := by decide +kernel
theorem dX3_give_15 : decode cX3_give 15 = .ok (.iconst 3, 1) := by decide +kernel
theorem dX3_give_16 : decode cX3_give 16 = .ok (.iload_n 1, 1) := by decide +kernel
theorem dX3_give_17 : decode cX3_give 17 = .ok (.imul, 1) := by decide +kernel
theorem dX3_give_18 : decode cX3_give 18 = .ok (.iload_n 2, 1) := by decide +kernel
theorem dX3_give_19 : decode cX3_give 19 = .ok (.iadd, 1) := by decide +kernel
theorem dX3_give_20 : decode cX3_give 20 = .ok (.iconst 1, 1) := by decide +kernel
theorem dX3_give_21 : decode cX3_give 21 = .ok (.bastore, 1) := by decide +kernel
theorem dX3_give_22 : decode cX3_give 22 = .ok (.return_, 1) := by decide +kernel
theorem dX3_step_0 : decode cX3_step 0 = .ok (.aload_n 0, 1) := by decide +kernel
theorem dX3_step_1 : decode cX3_step 1 = .ok (.getfield 45, 3) := by decide +kernel
theorem dX3_step_4 : decode cX3_step 4 = .ok (.iload_n 1, 1) := by decide +kernel
theorem dX3_step_5 : decode cX3_step 5 = .ok (.iaload, 1) := by decide +kernel
theorem dX3_step_6 : decode cX3_step 6 = .ok (.aload_n 0, 1) := by decide +kernel
theorem dX3_step_7 : decode cX3_step 7 = .ok (.getfield 67, 3) := by decide +kernel
theorem dX3_step_10 : decode cX3_step 10 = .ok (.if_icmp .ne 5, 3) := by decide +kernel
theorem dX3_step_15 : decode cX3_step 15 = .ok (.aload_n 0, 1) := by decide +kernel
theorem dX3_step_16 : decode cX3_step 16 = .ok (.getfield 45, 3) := by decide +kernel
theorem dX3_step_19 : decode cX3_step 19 = .ok (.iload_n 1, 1) := by decide +kernel
theorem dX3_step_20 : decode cX3_step 20 = .ok (.dup2, 1) := by decide +kernel
theorem dX3_step_21 : decode cX3_step 21 = .ok (.iaload, 1) := by decide +kernel
theorem dX3_step_22 : decode cX3_step 22 = .ok (.iconst 1, 1) := by decide +kernel
theorem dX3_step_23 : decode cX3_step 23 = .ok (.iadd, 1) := by decide +kernel
theorem dX3_step_24 : decode cX3_step 24 = .ok (.iastore, 1) := by decide +kernel
theorem dX3_step_25 : decode cX3_step 25 = .ok (.iconst 1, 1) := by decide +kernel
theorem dX3_step_26 : decode cX3_step 26 = .ok (.ireturn, 1) := by decide +kernel
theorem dX3_step_13 : decode cX3_step 13 = .ok (.iconst 0, 1) := by decide +kernel
theorem dX3_step_14 : decode cX3_step 14 = .ok (.ireturn, 1) := by decide +kernel
theorem dX3_act_0 : decode cX3_act 0 = .ok (.iconst 0, 1) := by decide +kernel
theorem dX3_act_1 : decode cX3_act 1 = .ok (.istore_n 3, 1) := by decide +kernel
theorem dX3_act_2 : decode cX3_act 2 = .ok (.iload_n 3, 1) := by decide +kernel
theorem dX3_act_3 : decode cX3_act 3 = .ok (.iload_n 2, 1) := by decide +kernel
theorem dX3_act_4 : decode cX3_act 4 = .ok (.if_icmp .ge 77, 3) := by decide +kernel
theorem dX3_act_81 : decode cX3_act 81 = .ok (.iconst 0, 1) := by decide +kernel
theorem dX3_act_82 : decode cX3_act 82 = .ok (.ireturn, 1) := by decide +kernel
theorem dX3_act_7 : decode cX3_act 7 = .ok (.aload_n 0, 1) := by decide +kernel
theorem dX3_act_8 : decode cX3_act 8 = .ok (.iload_n 1, 1) := by decide +kernel
theorem dX3_act_9 : decode cX3_act 9 = .ok (.invokevirtual 113, 3) := by decide +kernel
theorem dX3_act_12 : decode cX3_act 12 = .ok (.ifCond .ne 5, 3) := by decide +kernel
theorem dX3_act_17 : decode cX3_act 17 = .ok (.aload_n 0, 1) := by decide +kernel
theorem dX3_act_18 : decode cX3_act 18 = .ok (.getfield 102, 3) := by decide +kernel
theorem dX3_act_21 : decode cX3_act 21 = .ok (.sipush 400, 3) := by decide +kernel
theorem dX3_act_24 : decode cX3_act 24 = .ok (.if_icmp .ne 6, 3) := by decide +kernel
theorem dX3_act_30 : decode cX3_act 30 = .ok (.aload_n 0, 1) := by decide +kernel
theorem dX3_act_31 : decode cX3_act 31 = .ok (.getfield 60, 3) := by decide +kernel
theorem dX3_act_34 : decode cX3_act 34 = .ok (.aload_n 0, 1) := by decide +kernel
theorem dX3_act_35 : decode cX3_act 35 = .ok (.getfield 102, 3) := by decide +kernel
theorem dX3_act_38 : decode cX3_act 38 = .ok (.iload_n 1, 1) := by decide +kernel
theorem dX3_act_39 : decode cX3_act 39 = .ok (.iastore, 1) := by decide +kernel
theorem dX3_act_40 : decode cX3_act 40 = .ok (.aload_n 0, 1) := by decide +kernel
theorem dX3_act_41 : decode cX3_act 41 = .ok (.getfield 63, 3) := by decide +kernel
theorem dX3_act_44 : decode cX3_act 44 = .ok (.aload_n 0, 1) := by decide +kernel
theorem dX3_act_45 : decode cX3_act 45 = .ok (.getfield 102, 3) := by decide +kernel
theorem dX3_act_48 : decode cX3_act 48 = .ok (.aload_n 0, 1) := by decide +kernel
theorem dX3_act_49 : decode cX3_act 49 = .ok (.getfield 42, 3) := by decide +kernel
theorem dX3_act_52 : decode cX3_act 52 = .ok (.iload_n 1, 1) := by decide +kernel
theorem dX3_act_53 : decode cX3_act 53 = .ok (.iaload, 1) := by decide +kernel
theorem dX3_act_54 : decode cX3_act 54 = .ok (.iastore, 1) := by decide +kernel
theorem dX3_act_55 : decode cX3_act 55 = .ok (.aload_n 0, 1) := by decide +kernel
theorem dX3_act_56 : decode cX3_act 56 = .ok (.getfield 42, 3) := by decide +kernel
theorem dX3_act_59 : decode cX3_act 59 = .ok (.iload_n 1, 1) := by decide +kernel
theorem dX3_act_60 : decode cX3_act 60 = .ok (.dup2, 1) := by decide +kernel
theorem dX3_act_61 : decode cX3_act 61 = .ok (.iaload, 1) := by decide +kernel
theorem dX3_act_62 : decode cX3_act 62 = .ok (.iconst 1, 1) := by decide +kernel
theorem dX3_act_63 : decode cX3_act 63 = .ok (.iadd, 1) := by decide +kernel
theorem dX3_act_64 : decode cX3_act 64 = .ok (.iastore, 1) := by decide +kernel
theorem dX3_act_65 : decode cX3_act 65 = .ok (.aload_n 0, 1) := by decide +kernel
theorem dX3_act_66 : decode cX3_act 66 = .ok (.dup, 1) := by decide +kernel
theorem dX3_act_67 : decode cX3_act 67 = .ok (.getfield 102, 3) := by decide +kernel
theorem dX3_act_70 : decode cX3_act 70 = .ok (.iconst 1, 1) := by decide +kernel
theorem dX3_act_71 : decode cX3_act 71 = .ok (.iadd, 1) := by decide +kernel
theorem dX3_act_72 : decode cX3_act 72 = .ok (.putfield 102, 3) := by decide +kernel
theorem dX3_act_75 : decode cX3_act 75 = .ok (.iinc 3 1, 3) := by decide +kernel
theorem dX3_act_78 : decode cX3_act 78 = .ok (.goto (-76), 3) := by decide +kernel
theorem dX3_act_27 : decode cX3_act 27 = .ok (.bipush 7, 2) := by decide +kernel
theorem dX3_act_29 : decode cX3_act 29 = .ok (.ireturn, 1) := by decide +kernel
theorem dX3_act_15 : decode cX3_act 15 = .ok (.iconst 5, 1) := by decide +kernel
theorem dX3_act_16 : decode cX3_act 16 = .ok (.ireturn, 1) := by decide +kernel
theorem dX3_deed_0 : decode cX3_deed 0 = .ok (.aload_n 0, 1) := by decide +kernel
theorem dX3_deed_1 : decode cX3_deed 1 = .ok (.getfield 30, 3) := by decide +kernel
theorem dX3_deed_4 : decode cX3_deed 4 = .ok (.iconst 4, 1) := by decide +kernel
theorem dX3_deed_5 : decode cX3_deed 5 = .ok (.iload_n 1, 1) := by decide +kernel
theorem dX3_deed_6 : decode cX3_deed 6 = .ok (.imul, 1) := by decide +kernel
theorem dX3_deed_7 : decode cX3_deed 7 = .ok (.iaload, 1) := by decide +kernel
theorem dX3_deed_8 : decode cX3_deed 8 = .ok (.istore 5, 2) := by decide +kernel
theorem dX3_deed_10 : decode cX3_deed 10 = .ok (.aload_n 0, 1) := by decide +kernel
theorem dX3_deed_11 : decode cX3_deed 11 = .ok (.getfield 30, 3) := by decide +kernel
theorem dX3_deed_14 : decode cX3_deed 14 = .ok (.iconst 4, 1) := by decide +kernel
theorem dX3_deed_15 : decode cX3_deed 15 = .ok (.iload_n 1, 1) := by decide +kernel
theorem dX3_deed_16 : decode cX3_deed 16 = .ok (.imul, 1) := by decide +kernel
theorem dX3_deed_17 : decode cX3_deed 17 = .ok (.iconst 1, 1) := by decide +kernel
theorem dX3_deed_18 : decode cX3_deed 18 = .ok (.iadd, 1) := by decide +kernel
theorem dX3_deed_19 : decode cX3_deed 19 = .ok (.iaload, 1) := by decide +kernel
theorem dX3_deed_20 : decode cX3_deed 20 = .ok (.istore 6, 2) := by decide +kernel
theorem dX3_deed_22 : decode cX3_deed 22 = .ok (.iload_n 2, 1) := by decide +kernel
theorem dX3_deed_23 : decode cX3_deed 23 = .ok (.tableswitch 222 1 7 #[41, 64, 72, 104, 142, 167, 197], 41) := by decide +kernel
theorem dX3_deed_64 : decode cX3_deed 64 = .ok (.aload_n 0, 1) := by decide +kernel
theorem dX3_deed_65 : decode cX3_deed 65 = .ok (.getfield 13, 3) := by decide +kernel
theorem dX3_deed_68 : decode cX3_deed 68 = .ok (.aload_n 0, 1) := by decide +kernel
theorem dX3_deed_69 : decode cX3_deed 69 = .ok (.getfield 27, 3) := by decide +kernel
theorem dX3_deed_72 : decode cX3_deed 72 = .ok (.iload_n 1, 1) := by decide +kernel
theorem dX3_deed_73 : decode cX3_deed 73 = .ok (.iaload, 1) := by decide +kernel
theorem dX3_deed_74 : decode cX3_deed 74 = .ok (.iaload, 1) := by decide +kernel
theorem dX3_deed_75 : decode cX3_deed 75 = .ok (.iconst 1, 1) := by decide +kernel
theorem dX3_deed_76 : decode cX3_deed 76 = .ok (.iand, 1) := by decide +kernel
theorem dX3_deed_77 : decode cX3_deed 77 = .ok (.iconst 1, 1) := by decide +kernel
theorem dX3_deed_78 : decode cX3_deed 78 = .ok (.if_icmp .ne 7, 3) := by decide +kernel
theorem dX3_deed_85 : decode cX3_deed 85 = .ok (.iconst 0, 1) := by decide +kernel
theorem dX3_deed_86 : decode cX3_deed 86 = .ok (.ireturn, 1) := by decide +kernel
theorem dX3_deed_81 : decode cX3_deed 81 = .ok (.iconst 2, 1) := by decide +kernel
theorem dX3_deed_82 : decode cX3_deed 82 = .ok (.goto 4, 3) := by decide +kernel
theorem dX3_deed_87 : decode cX3_deed 87 = .ok (.aload_n 0, 1) := by decide +kernel
theorem dX3_deed_88 : decode cX3_deed 88 = .ok (.iload_n 1, 1) := by decide +kernel
theorem dX3_deed_89 : decode cX3_deed 89 = .ok (.iload 5, 2) := by decide +kernel
theorem dX3_deed_91 : decode cX3_deed 91 = .ok (.invokevirtual 120, 3) := by decide +kernel
theorem dX3_deed_94 : decode cX3_deed 94 = .ok (.ireturn, 1) := by decide +kernel
theorem dX3_deed_95 : decode cX3_deed 95 = .ok (.iload 6, 2) := by decide +kernel
theorem dX3_deed_97 : decode cX3_deed 97 = .ok (.ifCond .ne 5, 3) := by decide +kernel
theorem dX3_deed_102 : decode cX3_deed 102 = .ok (.aload_n 0, 1) := by decide +kernel
theorem dX3_deed_103 : decode cX3_deed 103 = .ok (.iload_n 1, 1) := by decide +kernel
theorem dX3_deed_104 : decode cX3_deed 104 = .ok (.iconst 1, 1) := by decide +kernel
theorem dX3_deed_105 : decode cX3_deed 105 = .ok (.iload 6, 2) := by decide +kernel
theorem dX3_deed_107 : decode cX3_deed 107 = .ok (.iconst (-1), 1) := by decide +kernel
theorem dX3_deed_108 : decode cX3_deed 108 = .ok (.if_icmp .ne 9, 3) := by decide +kernel
end
section
theorem dX3_deed_117 : decode cX3_deed 117 = .ok (.iload 5, 2) := by decide +kernel
theorem dX3_deed_119 : decode cX3_deed 119 = .ok (.iload 6, 2) := by decide +kernel
theorem dX3_deed_121 : decode cX3_deed 121 = .ok (.idiv, 1) := by decide +kernel
theorem dX3_deed_122 : decode cX3_deed 122 = .ok (.invokevirtual 124, 3) := by decide +kernel
theorem dX3_deed_125 : decode cX3_deed 125 = .ok (.iconst 0, 1) := by decide +kernel
theorem dX3_deed_126 : decode cX3_deed 126 = .ok (.ireturn, 1) := by decide +kernel
theorem dX3_deed_111 : decode cX3_deed 111 = .ok (.iload 5, 2) := by decide +kernel
theorem dX3_deed_113 : decode cX3_deed 113 = .ok (.ineg, 1) := by decide +kernel
theorem dX3_deed_114 : decode cX3_deed 114 = .ok (.goto 8, 3) := by decide +kernel
theorem dX3_deed_100 : decode cX3_deed 100 = .ok (.iconst 3, 1) := by decide +kernel
theorem dX3_deed_101 : decode cX3_deed 101 = .ok (.ireturn, 1) := by decide +kernel
theorem dX3_deed_127 : decode cX3_deed 127 = .ok (.iload 4, 2) := by decide +kernel
theorem dX3_deed_129 : decode cX3_deed 129 = .ok (.ifCond .lt 15, 3) := by decide +kernel
theorem dX3_deed_144 : decode cX3_deed 144 = .ok (.iconst 4, 1) := by decide +kernel
theorem dX3_deed_145 : decode cX3_deed 145 = .ok (.ireturn, 1) := by decide +kernel
theorem dX3_deed_132 : decode cX3_deed 132 = .ok (.aload_n 0, 1) := by decide +kernel
theorem dX3_deed_133 : decode cX3_deed 133 = .ok (.getfield 57, 3) := by decide +kernel
theorem dX3_deed_136 : decode cX3_deed 136 = .ok (.iconst 3, 1) := by decide +kernel
theorem dX3_deed_137 : decode cX3_deed 137 = .ok (.iload 4, 2) := by decide +kernel
theorem dX3_deed_139 : decode cX3_deed 139 = .ok (.imul, 1) := by decide +kernel
theorem dX3_deed_140 : decode cX3_deed 140 = .ok (.baload, 1) := by decide +kernel
theorem dX3_deed_141 : decode cX3_deed 141 = .ok (.ifCond .ne 5, 3) := by decide +kernel
theorem dX3_deed_146 : decode cX3_deed 146 = .ok (.aload_n 0, 1) := by decide +kernel
theorem dX3_deed_147 : decode cX3_deed 147 = .ok (.iload_n 1, 1) := by decide +kernel
theorem dX3_deed_148 : decode cX3_deed 148 = .ok (.iconst 0, 1) := by decide +kernel
theorem dX3_deed_149 : decode cX3_deed 149 = .ok (.aload_n 0, 1) := by decide +kernel
theorem dX3_deed_150 : decode cX3_deed 150 = .ok (.getfield 51, 3) := by decide +kernel
theorem dX3_deed_153 : decode cX3_deed 153 = .ok (.iconst 3, 1) := by decide +kernel
theorem dX3_deed_154 : decode cX3_deed 154 = .ok (.iload 4, 2) := by decide +kernel
theorem dX3_deed_156 : decode cX3_deed 156 = .ok (.imul, 1) := by decide +kernel
theorem dX3_deed_157 : decode cX3_deed 157 = .ok (.iaload, 1) := by decide +kernel
theorem dX3_deed_158 : decode cX3_deed 158 = .ok (.iconst 1, 1) := by decide +kernel
theorem dX3_deed_159 : decode cX3_deed 159 = .ok (.iadd, 1) := by decide +kernel
theorem dX3_deed_160 : decode cX3_deed 160 = .ok (.invokevirtual 124, 3) := by decide +kernel
theorem dX3_deed_163 : decode cX3_deed 163 = .ok (.iconst 0, 1) := by decide +kernel
theorem dX3_deed_164 : decode cX3_deed 164 = .ok (.ireturn, 1) := by decide +kernel
theorem dX3_deed_165 : decode cX3_deed 165 = .ok (.aload_n 0, 1) := by decide +kernel
theorem dX3_deed_166 : decode cX3_deed 166 = .ok (.getfield 23, 3) := by decide +kernel
theorem dX3_deed_169 : decode cX3_deed 169 = .ok (.iload_n 3, 1) := by decide +kernel
theorem dX3_deed_170 : decode cX3_deed 170 = .ok (.dup2, 1) := by decide +kernel
theorem dX3_deed_171 : decode cX3_deed 171 = .ok (.laload, 1) := by decide +kernel
theorem dX3_deed_172 : decode cX3_deed 172 = .ok (.lconst 1, 1) := by decide +kernel
theorem dX3_deed_173 : decode cX3_deed 173 = .ok (.ladd, 1) := by decide +kernel
theorem dX3_deed_174 : decode cX3_deed 174 = .ok (.lastore, 1) := by decide +kernel
theorem dX3_deed_175 : decode cX3_deed 175 = .ok (.aload_n 0, 1) := by decide +kernel
theorem dX3_deed_176 : decode cX3_deed 176 = .ok (.iload_n 1, 1) := by decide +kernel
theorem dX3_deed_177 : decode cX3_deed 177 = .ok (.iconst 2, 1) := by decide +kernel
theorem dX3_deed_178 : decode cX3_deed 178 = .ok (.aload_n 0, 1) := by decide +kernel
theorem dX3_deed_179 : decode cX3_deed 179 = .ok (.getfield 23, 3) := by decide +kernel
theorem dX3_deed_182 : decode cX3_deed 182 = .ok (.iload_n 3, 1) := by decide +kernel
theorem dX3_deed_183 : decode cX3_deed 183 = .ok (.laload, 1) := by decide +kernel
theorem dX3_deed_184 : decode cX3_deed 184 = .ok (.l2i, 1) := by decide +kernel
theorem dX3_deed_185 : decode cX3_deed 185 = .ok (.invokevirtual 124, 3) := by decide +kernel
theorem dX3_deed_188 : decode cX3_deed 188 = .ok (.iconst 0, 1) := by decide +kernel
theorem dX3_deed_189 : decode cX3_deed 189 = .ok (.ireturn, 1) := by decide +kernel
theorem dX3_deed_190 : decode cX3_deed 190 = .ok (.aload_n 0, 1) := by decide +kernel
theorem dX3_deed_191 : decode cX3_deed 191 = .ok (.iload_n 1, 1) := by decide +kernel
theorem dX3_deed_192 : decode cX3_deed 192 = .ok (.iconst 0, 1) := by decide +kernel
theorem dX3_deed_193 : decode cX3_deed 193 = .ok (.aload_n 0, 1) := by decide +kernel
theorem dX3_deed_194 : decode cX3_deed 194 = .ok (.getfield 30, 3) := by decide +kernel
theorem dX3_deed_197 : decode cX3_deed 197 = .ok (.iconst 4, 1) := by decide +kernel
theorem dX3_deed_198 : decode cX3_deed 198 = .ok (.iload_n 1, 1) := by decide +kernel
theorem dX3_deed_199 : decode cX3_deed 199 = .ok (.imul, 1) := by decide +kernel
theorem dX3_deed_200 : decode cX3_deed 200 = .ok (.iconst 3, 1) := by decide +kernel
theorem dX3_deed_201 : decode cX3_deed 201 = .ok (.iadd, 1) := by decide +kernel
theorem dX3_deed_202 : decode cX3_deed 202 = .ok (.iaload, 1) := by decide +kernel
theorem dX3_deed_203 : decode cX3_deed 203 = .ok (.iconst 1, 1) := by decide +kernel
theorem dX3_deed_204 : decode cX3_deed 204 = .ok (.if_icmp .ne 9, 3) := by decide +kernel
theorem dX3_deed_213 : decode cX3_deed 213 = .ok (.iload 5, 2) := by decide +kernel
theorem dX3_deed_215 : decode cX3_deed 215 = .ok (.invokevirtual 124, 3) := by decide +kernel
theorem dX3_deed_218 : decode cX3_deed 218 = .ok (.iconst 0, 1) := by decide +kernel
theorem dX3_deed_219 : decode cX3_deed 219 = .ok (.ireturn, 1) := by decide +kernel
theorem dX3_deed_207 : decode cX3_deed 207 = .ok (.iload 5, 2) := by decide +kernel
theorem dX3_deed_209 : decode cX3_deed 209 = .ok (.ineg, 1) := by decide +kernel
theorem dX3_deed_210 : decode cX3_deed 210 = .ok (.goto 5, 3) := by decide +kernel
theorem dX3_deed_220 : decode cX3_deed 220 = .ok (.aload_n 0, 1) := by decide +kernel
theorem dX3_deed_221 : decode cX3_deed 221 = .ok (.dup, 1) := by decide +kernel
theorem dX3_deed_222 : decode cX3_deed 222 = .ok (.getfield 96, 3) := by decide +kernel
theorem dX3_deed_225 : decode cX3_deed 225 = .ok (.aload_n 0, 1) := by decide +kernel
theorem dX3_deed_226 : decode cX3_deed 226 = .ok (.getfield 96, 3) := by decide +kernel
theorem dX3_deed_229 : decode cX3_deed 229 = .ok (.bipush 40, 2) := by decide +kernel
theorem dX3_deed_231 : decode cX3_deed 231 = .ok (.if_icmp .ge 7, 3) := by decide +kernel
theorem dX3_deed_238 : decode cX3_deed 238 = .ok (.iconst 0, 1) := by decide +kernel
theorem dX3_deed_239 : decode cX3_deed 239 = .ok (.iadd, 1) := by decide +kernel
theorem dX3_deed_240 : decode cX3_deed 240 = .ok (.putfield 96, 3) := by decide +kernel
theorem dX3_deed_243 : decode cX3_deed 243 = .ok (.iconst 0, 1) := by decide +kernel
theorem dX3_deed_244 : decode cX3_deed 244 = .ok (.ireturn, 1) := by decide +kernel
theorem dX3_deed_234 : decode cX3_deed 234 = .ok (.iconst 1, 1) := by decide +kernel
theorem dX3_deed_235 : decode cX3_deed 235 = .ok (.goto 4, 3) := by decide +kernel
theorem dX3_deed_245 : decode cX3_deed 245 = .ok (.iconst 0, 1) := by decide +kernel
theorem dX3_deed_246 : decode cX3_deed 246 = .ok (.ireturn, 1) := by decide +kernel
theorem dX3_runOne_0 : decode cX3_runOne 0 = .ok (.aload_n 0, 1) := by decide +kernel
theorem dX3_runOne_1 : decode cX3_runOne 1 = .ok (.aload_n 0, 1) := by decide +kernel
theorem dX3_runOne_2 : decode cX3_runOne 2 = .ok (.getfield 27, 3) := by decide +kernel
theorem dX3_runOne_5 : decode cX3_runOne 5 = .ok (.iload_n 1, 1) := by decide +kernel
theorem dX3_runOne_6 : decode cX3_runOne 6 = .ok (.iaload, 1) := by decide +kernel
theorem dX3_runOne_7 : decode cX3_runOne 7 = .ok (.invokevirtual 91, 3) := by decide +kernel
theorem dX3_runOne_10 : decode cX3_runOne 10 = .ok (.istore_n 2, 1) := by decide +kernel
theorem dX3_runOne_11 : decode cX3_runOne 11 = .ok (.aload_n 0, 1) := by decide +kernel
theorem dX3_runOne_12 : decode cX3_runOne 12 = .ok (.getfield 30, 3) := by decide +kernel
theorem dX3_runOne_15 : decode cX3_runOne 15 = .ok (.iconst 4, 1) := by decide +kernel
theorem dX3_runOne_16 : decode cX3_runOne 16 = .ok (.iload_n 1, 1) := by decide +kernel
theorem dX3_runOne_17 : decode cX3_runOne 17 = .ok (.imul, 1) := by decide +kernel
theorem dX3_runOne_18 : decode cX3_runOne 18 = .ok (.iconst 2, 1) := by decide +kernel
theorem dX3_runOne_19 : decode cX3_runOne 19 = .ok (.iadd, 1) := by decide +kernel
theorem dX3_runOne_20 : decode cX3_runOne 20 = .ok (.iaload, 1) := by decide +kernel
theorem dX3_runOne_21 : decode cX3_runOne 21 = .ok (.iconst 1, 1) := by decide +kernel
theorem dX3_runOne_22 : decode cX3_runOne 22 = .ok (.isub, 1) := by decide +kernel
theorem dX3_runOne_23 : decode cX3_runOne 23 = .ok (.istore_n 3, 1) := by decide +kernel
theorem dX3_runOne_24 : decode cX3_runOne 24 = .ok (.iload_n 3, 1) := by decide +kernel
theorem dX3_runOne_25 : decode cX3_runOne 25 = .ok (.ifCond .lt 30, 3) := by decide +kernel
theorem dX3_runOne_55 : decode cX3_runOne 55 = .ok (.iconst 0, 1) := by decide +kernel
theorem dX3_runOne_56 : decode cX3_runOne 56 = .ok (.istore 4, 2) := by decide +kernel
theorem dX3_runOne_58 : decode cX3_runOne 58 = .ok (.iload 4, 2) := by decide +kernel
theorem dX3_runOne_60 : decode cX3_runOne 60 = .ok (.bipush 8, 2) := by decide +kernel
theorem dX3_runOne_62 : decode cX3_runOne 62 = .ok (.if_icmp .ge 73, 3) := by decide +kernel
theorem dX3_runOne_135 : decode cX3_runOne 135 = .ok (.return_, 1) := by decide +kernel
theorem dX3_runOne_65 : decode cX3_runOne 65 = .ok (.aload_n 0, 1) := by decide +kernel
theorem dX3_runOne_66 : decode cX3_runOne 66 = .ok (.getfield 13, 3) := by decide +kernel
theorem dX3_runOne_69 : decode cX3_runOne 69 = .ok (.aload_n 0, 1) := by decide +kernel
theorem dX3_runOne_70 : decode cX3_runOne 70 = .ok (.getfield 27, 3) := by decide +kernel
theorem dX3_runOne_73 : decode cX3_runOne 73 = .ok (.iload_n 1, 1) := by decide +kernel
theorem dX3_runOne_74 : decode cX3_runOne 74 = .ok (.iaload, 1) := by decide +kernel
theorem dX3_runOne_75 : decode cX3_runOne 75 = .ok (.iaload, 1) := by decide +kernel
theorem dX3_runOne_76 : decode cX3_runOne 76 = .ok (.iload 4, 2) := by decide +kernel
theorem dX3_runOne_78 : decode cX3_runOne 78 = .ok (.ishr, 1) := by decide +kernel
theorem dX3_runOne_79 : decode cX3_runOne 79 = .ok (.iconst 1, 1) := by decide +kernel
theorem dX3_runOne_80 : decode cX3_runOne 80 = .ok (.iand, 1) := by decide +kernel
theorem dX3_runOne_81 : decode cX3_runOne 81 = .ok (.ifCond .ne 6, 3) := by decide +kernel
theorem dX3_runOne_87 : decode cX3_runOne 87 = .ok (.aload_n 0, 1) := by decide +kernel
theorem dX3_runOne_88 : decode cX3_runOne 88 = .ok (.iload_n 1, 1) := by decide +kernel
theorem dX3_runOne_89 : decode cX3_runOne 89 = .ok (.invokevirtual 113, 3) := by decide +kernel
theorem dX3_runOne_92 : decode cX3_runOne 92 = .ok (.ifCond .eq 15, 3) := by decide +kernel
theorem dX3_runOne_107 : decode cX3_runOne 107 = .ok (.iconst 5, 1) := by decide +kernel
theorem dX3_runOne_108 : decode cX3_runOne 108 = .ok (.istore 5, 2) := by decide +kernel
theorem dX3_runOne_110 : decode cX3_runOne 110 = .ok (.iload 5, 2) := by decide +kernel
theorem dX3_runOne_112 : decode cX3_runOne 112 = .ok (.ifCond .ne 6, 3) := by decide +kernel
theorem dX3_runOne_118 : decode cX3_runOne 118 = .ok (.aload_n 0, 1) := by decide +kernel
theorem dX3_runOne_119 : decode cX3_runOne 119 = .ok (.iload_n 1, 1) := by decide +kernel
theorem dX3_runOne_120 : decode cX3_runOne 120 = .ok (.iload 5, 2) := by decide +kernel
theorem dX3_runOne_122 : decode cX3_runOne 122 = .ok (.iload 4, 2) := by decide +kernel
theorem dX3_runOne_124 : decode cX3_runOne 124 = .ok (.iload_n 1, 1) := by decide +kernel
theorem dX3_runOne_125 : decode cX3_runOne 125 = .ok (.invokevirtual 105, 3) := by decide +kernel
theorem dX3_runOne_128 : decode cX3_runOne 128 = .ok (.return_, 1) := by decide +kernel
theorem dX3_runOne_115 : decode cX3_runOne 115 = .ok (.goto 14, 3) := by decide +kernel
theorem dX3_runOne_129 : decode cX3_runOne 129 = .ok (.iinc 4 1, 3) := by decide +kernel
theorem dX3_runOne_132 : decode cX3_runOne 132 = .ok (.goto (-74), 3) := by decide +kernel
theorem dX3_runOne_95 : decode cX3_runOne 95 = .ok (.aload_n 0, 1) := by decide +kernel
theorem dX3_runOne_96 : decode cX3_runOne 96 = .ok (.iload_n 1, 1) := by decide +kernel
theorem dX3_runOne_97 : decode cX3_runOne 97 = .ok (.iload 4, 2) := by decide +kernel
theorem dX3_runOne_99 : decode cX3_runOne 99 = .ok (.iload_n 2, 1) := by decide +kernel
theorem dX3_runOne_100 : decode cX3_runOne 100 = .ok (.iload_n 3, 1) := by decide +kernel
theorem dX3_runOne_101 : decode cX3_runOne 101 = .ok (.invokevirtual 116, 3) := by decide +kernel
theorem dX3_runOne_104 : decode cX3_runOne 104 = .ok (.goto 4, 3) := by decide +kernel
theorem dX3_runOne_84 : decode cX3_runOne 84 = .ok (.goto 45, 3) := by decide +kernel
theorem dX3_runOne_28 : decode cX3_runOne 28 = .ok (.aload_n 0, 1) := by decide +kernel
theorem dX3_runOne_29 : decode cX3_runOne 29 = .ok (.getfield 33, 3) := by decide +kernel
theorem dX3_runOne_32 : decode cX3_runOne 32 = .ok (.iload_n 3, 1) := by decide +kernel
theorem dX3_runOne_33 : decode cX3_runOne 33 = .ok (.iaload, 1) := by decide +kernel
theorem dX3_runOne_34 : decode cX3_runOne 34 = .ok (.ifCond .le 21, 3) := by decide +kernel
theorem dX3_runOne_37 : decode cX3_runOne 37 = .ok (.aload_n 0, 1) := by decide +kernel
theorem dX3_runOne_38 : decode cX3_runOne 38 = .ok (.iload_n 1, 1) := by decide +kernel
theorem dX3_runOne_39 : decode cX3_runOne 39 = .ok (.bipush 6, 2) := by decide +kernel
theorem dX3_runOne_41 : decode cX3_runOne 41 = .ok (.bipush 8, 2) := by decide +kernel
theorem dX3_runOne_43 : decode cX3_runOne 43 = .ok (.aload_n 0, 1) := by decide +kernel
theorem dX3_runOne_44 : decode cX3_runOne 44 = .ok (.getfield 39, 3) := by decide +kernel
theorem dX3_runOne_47 : decode cX3_runOne 47 = .ok (.iload_n 3, 1) := by decide +kernel
theorem dX3_runOne_48 : decode cX3_runOne 48 = .ok (.iaload, 1) := by decide +kernel
theorem dX3_runOne_49 : decode cX3_runOne 49 = .ok (.iconst 1, 1) := by decide +kernel
theorem dX3_runOne_50 : decode cX3_runOne 50 = .ok (.isub, 1) := by decide +kernel
theorem dX3_runOne_51 : decode cX3_runOne 51 = .ok (.invokevirtual 105, 3) := by decide +kernel
theorem dX3_runOne_54 : decode cX3_runOne 54 = .ok (.return_, 1) := by decide +kernel
theorem dX3_runChain_0 : decode cX3_runChain 0 = .ok (.iconst 0, 1) := by decide +kernel
theorem dX3_runChain_1 : decode cX3_runChain 1 = .ok (.istore_n 2, 1) := by decide +kernel
theorem dX3_runChain_2 : decode cX3_runChain 2 = .ok (.iload_n 1, 1) := by decide +kernel
theorem dX3_runChain_3 : decode cX3_runChain 3 = .ok (.istore_n 3, 1) := by decide +kernel
theorem dX3_runChain_4 : decode cX3_runChain 4 = .ok (.iconst 1, 1) := by decide +kernel
theorem dX3_runChain_5 : decode cX3_runChain 5 = .ok (.istore 4, 2) := by decide +kernel
theorem dX3_runChain_7 : decode cX3_runChain 7 = .ok (.iload 4, 2) := by decide +kernel
theorem dX3_runChain_9 : decode cX3_runChain 9 = .ok (.ifCond .eq 85, 3) := by decide +kernel
theorem dX3_runChain_94 : decode cX3_runChain 94 = .ok (.iload_n 2, 1) := by decide +kernel
theorem dX3_runChain_95 : decode cX3_runChain 95 = .ok (.iconst 1, 1) := by decide +kernel
theorem dX3_runChain_96 : decode cX3_runChain 96 = .ok (.isub, 1) := by decide +kernel
theorem dX3_runChain_97 : decode cX3_runChain 97 = .ok (.istore 5, 2) := by decide +kernel
theorem dX3_runChain_99 : decode cX3_runChain 99 = .ok (.iload 5, 2) := by decide +kernel
theorem dX3_runChain_101 : decode cX3_runChain 101 = .ok (.ifCond .lt 35, 3) := by decide +kernel
theorem dX3_runChain_136 : decode cX3_runChain 136 = .ok (.return_, 1) := by decide +kernel
theorem dX3_runChain_104 : decode cX3_runChain 104 = .ok (.aload_n 0, 1) := by decide +kernel
theorem dX3_runChain_105 : decode cX3_runChain 105 = .ok (.getfield 33, 3) := by decide +kernel
theorem dX3_runChain_108 : decode cX3_runChain 108 = .ok (.aload_n 0, 1) := by decide +kernel
theorem dX3_runChain_109 : decode cX3_runChain 109 = .ok (.getfield 48, 3) := by decide +kernel
theorem dX3_runChain_112 : decode cX3_runChain 112 = .ok (.iload 5, 2) := by decide +kernel
theorem dX3_runChain_114 : decode cX3_runChain 114 = .ok (.iaload, 1) := by decide +kernel
theorem dX3_runChain_115 : decode cX3_runChain 115 = .ok (.iaload, 1) := by decide +kernel
theorem dX3_runChain_116 : decode cX3_runChain 116 = .ok (.ifCond .ne 14, 3) := by decide +kernel
theorem dX3_runChain_130 : decode cX3_runChain 130 = .ok (.iinc 5 (-1), 3) := by decide +kernel
theorem dX3_runChain_133 : decode cX3_runChain 133 = .ok (.goto (-34), 3) := by decide +kernel
theorem dX3_runChain_119 : decode cX3_runChain 119 = .ok (.aload_n 0, 1) := by decide +kernel
theorem dX3_runChain_120 : decode cX3_runChain 120 = .ok (.aload_n 0, 1) := by decide +kernel
theorem dX3_runChain_121 : decode cX3_runChain 121 = .ok (.getfield 48, 3) := by decide +kernel
theorem dX3_runChain_124 : decode cX3_runChain 124 = .ok (.iload 5, 2) := by decide +kernel
theorem dX3_runChain_126 : decode cX3_runChain 126 = .ok (.iaload, 1) := by decide +kernel
theorem dX3_runChain_127 : decode cX3_runChain 127 = .ok (.invokevirtual 109, 3) := by decide +kernel
theorem dX3_runChain_12 : decode cX3_runChain 12 = .ok (.aload_n 0, 1) := by decide +kernel
theorem dX3_runChain_13 : decode cX3_runChain 13 = .ok (.getfield 54, 3) := by decide +kernel
theorem dX3_runChain_16 : decode cX3_runChain 16 = .ok (.iload_n 3, 1) := by decide +kernel
theorem dX3_runChain_17 : decode cX3_runChain 17 = .ok (.iconst 1, 1) := by decide +kernel
theorem dX3_runChain_18 : decode cX3_runChain 18 = .ok (.bastore, 1) := by decide +kernel
theorem dX3_runChain_19 : decode cX3_runChain 19 = .ok (.aload_n 0, 1) := by decide +kernel
theorem dX3_runChain_20 : decode cX3_runChain 20 = .ok (.getfield 48, 3) := by decide +kernel
theorem dX3_runChain_23 : decode cX3_runChain 23 = .ok (.iload_n 2, 1) := by decide +kernel
theorem dX3_runChain_24 : decode cX3_runChain 24 = .ok (.iload_n 3, 1) := by decide +kernel
theorem dX3_runChain_25 : decode cX3_runChain 25 = .ok (.iastore, 1) := by decide +kernel
theorem dX3_runChain_26 : decode cX3_runChain 26 = .ok (.iinc 2 1, 3) := by decide +kernel
theorem dX3_runChain_29 : decode cX3_runChain 29 = .ok (.aload_n 0, 1) := by decide +kernel
theorem dX3_runChain_30 : decode cX3_runChain 30 = .ok (.aload_n 0, 1) := by decide +kernel
theorem dX3_runChain_31 : decode cX3_runChain 31 = .ok (.getfield 27, 3) := by decide +kernel
theorem dX3_runChain_34 : decode cX3_runChain 34 = .ok (.iload_n 3, 1) := by decide +kernel
theorem dX3_runChain_35 : decode cX3_runChain 35 = .ok (.iaload, 1) := by decide +kernel
theorem dX3_runChain_36 : decode cX3_runChain 36 = .ok (.invokevirtual 91, 3) := by decide +kernel
theorem dX3_runChain_39 : decode cX3_runChain 39 = .ok (.iconst (-1), 1) := by decide +kernel
theorem dX3_runChain_40 : decode cX3_runChain 40 = .ok (.if_icmp .ne 18, 3) := by decide +kernel
theorem dX3_runChain_58 : decode cX3_runChain 58 = .ok (.aload_n 0, 1) := by decide +kernel
theorem dX3_runChain_59 : decode cX3_runChain 59 = .ok (.getfield 30, 3) := by decide +kernel
theorem dX3_runChain_62 : decode cX3_runChain 62 = .ok (.iconst 4, 1) := by decide +kernel
theorem dX3_runChain_63 : decode cX3_runChain 63 = .ok (.iload_n 3, 1) := by decide +kernel
theorem dX3_runChain_64 : decode cX3_runChain 64 = .ok (.imul, 1) := by decide +kernel
theorem dX3_runChain_65 : decode cX3_runChain 65 = .ok (.iconst 2, 1) := by decide +kernel
theorem dX3_runChain_66 : decode cX3_runChain 66 = .ok (.iadd, 1) := by decide +kernel
theorem dX3_runChain_67 : decode cX3_runChain 67 = .ok (.iaload, 1) := by decide +kernel
theorem dX3_runChain_68 : decode cX3_runChain 68 = .ok (.iconst 1, 1) := by decide +kernel
theorem dX3_runChain_69 : decode cX3_runChain 69 = .ok (.isub, 1) := by decide +kernel
theorem dX3_runChain_70 : decode cX3_runChain 70 = .ok (.istore_n 3, 1) := by decide +kernel
theorem dX3_runChain_71 : decode cX3_runChain 71 = .ok (.iload_n 3, 1) := by decide +kernel
theorem dX3_runChain_72 : decode cX3_runChain 72 = .ok (.ifCond .lt 16, 3) := by decide +kernel
theorem dX3_runChain_88 : decode cX3_runChain 88 = .ok (.iconst 0, 1) := by decide +kernel
theorem dX3_runChain_89 : decode cX3_runChain 89 = .ok (.istore 4, 2) := by decide +kernel
theorem dX3_runChain_91 : decode cX3_runChain 91 = .ok (.goto (-84), 3) := by decide +kernel
theorem dX3_runChain_75 : decode cX3_runChain 75 = .ok (.aload_n 0, 1) := by decide +kernel
theorem dX3_runChain_76 : decode cX3_runChain 76 = .ok (.getfield 54, 3) := by decide +kernel
theorem dX3_runChain_79 : decode cX3_runChain 79 = .ok (.iload_n 3, 1) := by decide +kernel
theorem dX3_runChain_80 : decode cX3_runChain 80 = .ok (.baload, 1) := by decide +kernel
theorem dX3_runChain_81 : decode cX3_runChain 81 = .ok (.ifCond .ne 7, 3) := by decide +kernel
theorem dX3_runChain_84 : decode cX3_runChain 84 = .ok (.iconst 1, 1) := by decide +kernel
theorem dX3_runChain_85 : decode cX3_runChain 85 = .ok (.goto 4, 3) := by decide +kernel
theorem dX3_runChain_43 : decode cX3_runChain 43 = .ok (.aload_n 0, 1) := by decide +kernel
theorem dX3_runChain_44 : decode cX3_runChain 44 = .ok (.iload_n 3, 1) := by decide +kernel
theorem dX3_runChain_45 : decode cX3_runChain 45 = .ok (.iconst 1, 1) := by decide +kernel
theorem dX3_runChain_46 : decode cX3_runChain 46 = .ok (.bipush 8, 2) := by decide +kernel
theorem dX3_runChain_48 : decode cX3_runChain 48 = .ok (.iload_n 3, 1) := by decide +kernel
theorem dX3_runChain_49 : decode cX3_runChain 49 = .ok (.invokevirtual 105, 3) := by decide +kernel
theorem dX3_runChain_52 : decode cX3_runChain 52 = .ok (.iconst 0, 1) := by decide +kernel
theorem dX3_runChain_53 : decode cX3_runChain 53 = .ok (.istore 4, 2) := by decide +kernel
theorem dX3_runChain_55 : decode cX3_runChain 55 = .ok (.goto (-48), 3) := by decide +kernel
theorem dX3_run_0 : decode cX3_run 0 = .ok (.aload_n 0, 1) := by decide +kernel
theorem dX3_run_1 : decode cX3_run 1 = .ok (.iconst 0, 1) := by decide +kernel
theorem dX3_run_2 : decode cX3_run 2 = .ok (.putfield 71, 3) := by decide +kernel
theorem dX3_run_5 : decode cX3_run 5 = .ok (.aload_n 0, 1) := by decide +kernel
theorem dX3_run_6 : decode cX3_run 6 = .ok (.iload_n 1, 1) := by decide +kernel
theorem dX3_run_7 : decode cX3_run 7 = .ok (.invokevirtual 99, 3) := by decide +kernel
theorem dX3_run_10 : decode cX3_run 10 = .ok (.ifCond .ne 5, 3) := by decide +kernel
theorem dX3_run_15 : decode cX3_run 15 = .ok (.aload_n 0, 1) := by decide +kernel
theorem dX3_run_16 : decode cX3_run 16 = .ok (.getfield 54, 3) := by decide +kernel
theorem dX3_run_19 : decode cX3_run 19 = .ok (.iload_n 1, 1) := by decide +kernel
theorem dX3_run_20 : decode cX3_run 20 = .ok (.baload, 1) := by decide +kernel
theorem dX3_run_21 : decode cX3_run 21 = .ok (.ifCond .ne 8, 3) := by decide +kernel
theorem dX3_run_29 : decode cX3_run 29 = .ok (.aload_n 0, 1) := by decide +kernel
theorem dX3_run_30 : decode cX3_run 30 = .ok (.getfield 33, 3) := by decide +kernel
theorem dX3_run_33 : decode cX3_run 33 = .ok (.iload_n 1, 1) := by decide +kernel
theorem dX3_run_34 : decode cX3_run 34 = .ok (.iaload, 1) := by decide +kernel
theorem dX3_run_35 : decode cX3_run 35 = .ok (.ifCond .le 15, 3) := by decide +kernel
theorem dX3_run_50 : decode cX3_run 50 = .ok (.aload_n 0, 1) := by decide +kernel
theorem dX3_run_51 : decode cX3_run 51 = .ok (.getfield 42, 3) := by decide +kernel
theorem dX3_run_54 : decode cX3_run 54 = .ok (.iload_n 1, 1) := by decide +kernel
theorem dX3_run_55 : decode cX3_run 55 = .ok (.iaload, 1) := by decide +kernel
theorem dX3_run_56 : decode cX3_run 56 = .ok (.ireturn, 1) := by decide +kernel
theorem dX3_run_38 : decode cX3_run 38 = .ok (.bipush (-10), 2) := by decide +kernel
theorem dX3_run_40 : decode cX3_run 40 = .ok (.aload_n 0, 1) := by decide +kernel
theorem dX3_run_41 : decode cX3_run 41 = .ok (.getfield 33, 3) := by decide +kernel
theorem dX3_run_44 : decode cX3_run 44 = .ok (.iload_n 1, 1) := by decide +kernel
theorem dX3_run_45 : decode cX3_run 45 = .ok (.iaload, 1) := by decide +kernel
theorem dX3_run_46 : decode cX3_run 46 = .ok (.isub, 1) := by decide +kernel
theorem dX3_run_47 : decode cX3_run 47 = .ok (.goto 9, 3) := by decide +kernel
theorem dX3_run_24 : decode cX3_run 24 = .ok (.aload_n 0, 1) := by decide +kernel
theorem dX3_run_25 : decode cX3_run 25 = .ok (.iload_n 1, 1) := by decide +kernel
theorem dX3_run_26 : decode cX3_run 26 = .ok (.invokevirtual 128, 3) := by decide +kernel
theorem dX3_run_13 : decode cX3_run 13 = .ok (.iconst (-1), 1) := by decide +kernel
theorem dX3_run_14 : decode cX3_run 14 = .ok (.ireturn, 1) := by decide +kernel
theorem dX3_action_0 : decode cX3_action 0 = .ok (.aload_n 0, 1) := by decide +kernel
theorem dX3_action_1 : decode cX3_action 1 = .ok (.iconst 0, 1) := by decide +kernel
theorem dX3_action_2 : decode cX3_action 2 = .ok (.putfield 71, 3) := by decide +kernel
theorem dX3_action_5 : decode cX3_action 5 = .ok (.iload_n 1, 1) := by decide +kernel
theorem dX3_action_6 : decode cX3_action 6 = .ok (.ifCond .lt 11, 3) := by decide +kernel
theorem dX3_action_17 : decode cX3_action 17 = .ok (.iconst (-1), 1) := by decide +kernel
theorem dX3_action_18 : decode cX3_action 18 = .ok (.ireturn, 1) := by decide +kernel
theorem dX3_action_9 : decode cX3_action 9 = .ok (.iload_n 1, 1) := by decide +kernel
theorem dX3_action_10 : decode cX3_action 10 = .ok (.aload_n 0, 1) := by decide +kernel
theorem dX3_action_11 : decode cX3_action 11 = .ok (.getfield 102, 3) := by decide +kernel
theorem dX3_action_14 : decode cX3_action 14 = .ok (.if_icmp .lt 5, 3) := by decide +kernel
theorem dX3_action_19 : decode cX3_action 19 = .ok (.aload_n 0, 1) := by decide +kernel
theorem dX3_action_20 : decode cX3_action 20 = .ok (.getfield 60, 3) := by decide +kernel
theorem dX3_action_23 : decode cX3_action 23 = .ok (.iload_n 1, 1) := by decide +kernel
theorem dX3_action_24 : decode cX3_action 24 = .ok (.iaload, 1) := by decide +kernel
theorem dX3_action_25 : decode cX3_action 25 = .ok (.istore_n 3, 1) := by decide +kernel
theorem dX3_action_26 : decode cX3_action 26 = .ok (.aload_n 0, 1) := by decide +kernel
theorem dX3_action_27 : decode cX3_action 27 = .ok (.getfield 27, 3) := by decide +kernel
theorem dX3_action_30 : decode cX3_action 30 = .ok (.iload_n 3, 1) := by decide +kernel
theorem dX3_action_31 : decode cX3_action 31 = .ok (.iaload, 1) := by decide +kernel
theorem dX3_action_32 : decode cX3_action 32 = .ok (.istore 4, 2) := by decide +kernel
theorem dX3_action_34 : decode cX3_action 34 = .ok (.iload_n 2, 1) := by decide +kernel
theorem dX3_action_35 : decode cX3_action 35 = .ok (.ifCond .ne 7, 3) := by decide +kernel
theorem dX3_action_42 : decode cX3_action 42 = .ok (.iload_n 2, 1) := by decide +kernel
theorem dX3_action_43 : decode cX3_action 43 = .ok (.iconst 1, 1) := by decide +kernel
theorem dX3_action_44 : decode cX3_action 44 = .ok (.if_icmp .ne 12, 3) := by decide +kernel
theorem dX3_action_56 : decode cX3_action 56 = .ok (.iload_n 2, 1) := by decide +kernel
theorem dX3_action_57 : decode cX3_action 57 = .ok (.iconst 2, 1) := by decide +kernel
theorem dX3_action_58 : decode cX3_action 58 = .ok (.if_icmp .ne 39, 3) := by decide +kernel
theorem dX3_action_97 : decode cX3_action 97 = .ok (.bipush (-2), 2) := by decide +kernel
theorem dX3_action_99 : decode cX3_action 99 = .ok (.ireturn, 1) := by decide +kernel
theorem dX3_action_61 : decode cX3_action 61 = .ok (.aload_n 0, 1) := by decide +kernel
theorem dX3_action_62 : decode cX3_action 62 = .ok (.getfield 7, 3) := by decide +kernel
theorem dX3_action_65 : decode cX3_action 65 = .ok (.iload 4, 2) := by decide +kernel
theorem dX3_action_67 : decode cX3_action 67 = .ok (.iaload, 1) := by decide +kernel
theorem dX3_action_68 : decode cX3_action 68 = .ok (.bipush 31, 2) := by decide +kernel
theorem dX3_action_70 : decode cX3_action 70 = .ok (.imul, 1) := by decide +kernel
theorem dX3_action_71 : decode cX3_action 71 = .ok (.aload_n 0, 1) := by decide +kernel
theorem dX3_action_72 : decode cX3_action 72 = .ok (.getfield 13, 3) := by decide +kernel
theorem dX3_action_75 : decode cX3_action 75 = .ok (.iload 4, 2) := by decide +kernel
theorem dX3_action_77 : decode cX3_action 77 = .ok (.iaload, 1) := by decide +kernel
theorem dX3_action_78 : decode cX3_action 78 = .ok (.iadd, 1) := by decide +kernel
theorem dX3_action_79 : decode cX3_action 79 = .ok (.bipush 31, 2) := by decide +kernel
theorem dX3_action_81 : decode cX3_action 81 = .ok (.imul, 1) := by decide +kernel
theorem dX3_action_82 : decode cX3_action 82 = .ok (.iload_n 3, 1) := by decide +kernel
theorem dX3_action_83 : decode cX3_action 83 = .ok (.iadd, 1) := by decide +kernel
theorem dX3_action_84 : decode cX3_action 84 = .ok (.bipush 31, 2) := by decide +kernel
theorem dX3_action_86 : decode cX3_action 86 = .ok (.imul, 1) := by decide +kernel
theorem dX3_action_87 : decode cX3_action 87 = .ok (.aload_n 0, 1) := by decide +kernel
theorem dX3_action_88 : decode cX3_action 88 = .ok (.getfield 63, 3) := by decide +kernel
theorem dX3_action_91 : decode cX3_action 91 = .ok (.iload_n 1, 1) := by decide +kernel
theorem dX3_action_92 : decode cX3_action 92 = .ok (.iaload, 1) := by decide +kernel
theorem dX3_action_93 : decode cX3_action 93 = .ok (.iadd, 1) := by decide +kernel
theorem dX3_action_94 : decode cX3_action 94 = .ok (.goto 5, 3) := by decide +kernel
theorem dX3_action_47 : decode cX3_action 47 = .ok (.aload_n 0, 1) := by decide +kernel
theorem dX3_action_48 : decode cX3_action 48 = .ok (.getfield 63, 3) := by decide +kernel
theorem dX3_action_51 : decode cX3_action 51 = .ok (.iload_n 1, 1) := by decide +kernel
theorem dX3_action_52 : decode cX3_action 52 = .ok (.iaload, 1) := by decide +kernel
theorem dX3_action_53 : decode cX3_action 53 = .ok (.goto 46, 3) := by decide +kernel
theorem dX3_action_38 : decode cX3_action 38 = .ok (.iload_n 3, 1) := by decide +kernel
theorem dX3_action_39 : decode cX3_action 39 = .ok (.goto 60, 3) := by decide +kernel
theorem dX3_provider_0 : decode cX3_provider 0 = .ok (.aload_n 0, 1) := by decide +kernel
theorem dX3_provider_1 : decode cX3_provider 1 = .ok (.iconst 0, 1) := by decide +kernel
theorem dX3_provider_2 : decode cX3_provider 2 = .ok (.putfield 71, 3) := by decide +kernel
theorem dX3_provider_5 : decode cX3_provider 5 = .ok (.aload_n 0, 1) := by decide +kernel
theorem dX3_provider_6 : decode cX3_provider 6 = .ok (.iload_n 1, 1) := by decide +kernel
theorem dX3_provider_7 : decode cX3_provider 7 = .ok (.invokevirtual 99, 3) := by decide +kernel
theorem dX3_provider_10 : decode cX3_provider 10 = .ok (.ifCond .eq 38, 3) := by decide +kernel
theorem dX3_provider_48 : decode cX3_provider 48 = .ok (.iconst 0, 1) := by decide +kernel
theorem dX3_provider_49 : decode cX3_provider 49 = .ok (.ireturn, 1) := by decide +kernel
theorem dX3_provider_13 : decode cX3_provider 13 = .ok (.iload_n 2, 1) := by decide +kernel
theorem dX3_provider_14 : decode cX3_provider 14 = .ok (.ifCond .lt 34, 3) := by decide +kernel
theorem dX3_provider_17 : decode cX3_provider 17 = .ok (.iload_n 2, 1) := by decide +kernel
theorem dX3_provider_18 : decode cX3_provider 18 = .ok (.iconst 3, 1) := by decide +kernel
theorem dX3_provider_19 : decode cX3_provider 19 = .ok (.if_icmp .ge 29, 3) := by decide +kernel
theorem dX3_provider_22 : decode cX3_provider 22 = .ok (.aload_n 0, 1) := by decide +kernel
theorem dX3_provider_23 : decode cX3_provider 23 = .ok (.getfield 57, 3) := by decide +kernel
theorem dX3_provider_26 : decode cX3_provider 26 = .ok (.iconst 3, 1) := by decide +kernel
theorem dX3_provider_27 : decode cX3_provider 27 = .ok (.iload_n 1, 1) := by decide +kernel
theorem dX3_provider_28 : decode cX3_provider 28 = .ok (.imul, 1) := by decide +kernel
theorem dX3_provider_29 : decode cX3_provider 29 = .ok (.iload_n 2, 1) := by decide +kernel
theorem dX3_provider_30 : decode cX3_provider 30 = .ok (.iadd, 1) := by decide +kernel
theorem dX3_provider_31 : decode cX3_provider 31 = .ok (.baload, 1) := by decide +kernel
theorem dX3_provider_32 : decode cX3_provider 32 = .ok (.ifCond .eq 16, 3) := by decide +kernel
theorem dX3_provider_35 : decode cX3_provider 35 = .ok (.aload_n 0, 1) := by decide +kernel
theorem dX3_provider_36 : decode cX3_provider 36 = .ok (.getfield 51, 3) := by decide +kernel
theorem dX3_provider_39 : decode cX3_provider 39 = .ok (.iconst 3, 1) := by decide +kernel
theorem dX3_provider_40 : decode cX3_provider 40 = .ok (.iload_n 1, 1) := by decide +kernel
theorem dX3_provider_41 : decode cX3_provider 41 = .ok (.imul, 1) := by decide +kernel
theorem dX3_provider_42 : decode cX3_provider 42 = .ok (.iload_n 2, 1) := by decide +kernel
theorem dX3_provider_43 : decode cX3_provider 43 = .ok (.iadd, 1) := by decide +kernel
theorem dX3_provider_44 : decode cX3_provider 44 = .ok (.iaload, 1) := by decide +kernel
theorem dX3_provider_45 : decode cX3_provider 45 = .ok (.goto 4, 3) := by decide +kernel
theorem dX3_failed_0 : decode cX3_failed 0 = .ok (.aload_n 0, 1) := by decide +kernel
theorem dX3_failed_1 : decode cX3_failed 1 = .ok (.iconst 0, 1) := by decide +kernel
theorem dX3_failed_2 : decode cX3_failed 2 = .ok (.putfield 71, 3) := by decide +kernel
theorem dX3_failed_5 : decode cX3_failed 5 = .ok (.aload_n 0, 1) := by decide +kernel
theorem dX3_failed_6 : decode cX3_failed 6 = .ok (.iload_n 1, 1) := by decide +kernel
theorem dX3_failed_7 : decode cX3_failed 7 = .ok (.invokevirtual 99, 3) := by decide +kernel
theorem dX3_failed_10 : decode cX3_failed 10 = .ok (.ifCond .ne 5, 3) := by decide +kernel
theorem dX3_failed_15 : decode cX3_failed 15 = .ok (.iload_n 2, 1) := by decide +kernel
theorem dX3_failed_16 : decode cX3_failed 16 = .ok (.ifCond .lt 8, 3) := by decide +kernel
theorem dX3_failed_24 : decode cX3_failed 24 = .ok (.bipush (-2), 2) := by decide +kernel
theorem dX3_failed_26 : decode cX3_failed 26 = .ok (.ireturn, 1) := by decide +kernel
theorem dX3_failed_19 : decode cX3_failed 19 = .ok (.iload_n 2, 1) := by decide +kernel
theorem dX3_failed_20 : decode cX3_failed 20 = .ok (.iconst 2, 1) := by decide +kernel
theorem dX3_failed_21 : decode cX3_failed 21 = .ok (.if_icmp .le 6, 3) := by decide +kernel
theorem dX3_failed_27 : decode cX3_failed 27 = .ok (.aload_n 0, 1) := by decide +kernel
theorem dX3_failed_28 : decode cX3_failed 28 = .ok (.getfield 54, 3) := by decide +kernel
theorem dX3_failed_31 : decode cX3_failed 31 = .ok (.iload_n 1, 1) := by decide +kernel
theorem dX3_failed_32 : decode cX3_failed 32 = .ok (.baload, 1) := by decide +kernel
theorem dX3_failed_33 : decode cX3_failed 33 = .ok (.ifCond .ne 6, 3) := by decide +kernel
theorem dX3_failed_39 : decode cX3_failed 39 = .ok (.iload_n 2, 1) := by decide +kernel
theorem dX3_failed_40 : decode cX3_failed 40 = .ok (.ifCond .ne 12, 3) := by decide +kernel
theorem dX3_failed_52 : decode cX3_failed 52 = .ok (.iload_n 2, 1) := by decide +kernel
theorem dX3_failed_53 : decode cX3_failed 53 = .ok (.iconst 1, 1) := by decide +kernel
theorem dX3_failed_54 : decode cX3_failed 54 = .ok (.if_icmp .ne 12, 3) := by decide +kernel
theorem dX3_failed_66 : decode cX3_failed 66 = .ok (.aload_n 0, 1) := by decide +kernel
theorem dX3_failed_67 : decode cX3_failed 67 = .ok (.getfield 39, 3) := by decide +kernel
theorem dX3_failed_70 : decode cX3_failed 70 = .ok (.iload_n 1, 1) := by decide +kernel
theorem dX3_failed_71 : decode cX3_failed 71 = .ok (.iaload, 1) := by decide +kernel
theorem dX3_failed_72 : decode cX3_failed 72 = .ok (.ireturn, 1) := by decide +kernel
theorem dX3_failed_57 : decode cX3_failed 57 = .ok (.aload_n 0, 1) := by decide +kernel
theorem dX3_failed_58 : decode cX3_failed 58 = .ok (.getfield 36, 3) := by decide +kernel
theorem dX3_failed_61 : decode cX3_failed 61 = .ok (.iload_n 1, 1) := by decide +kernel
theorem dX3_failed_62 : decode cX3_failed 62 = .ok (.iaload, 1) := by decide +kernel
theorem dX3_failed_63 : decode cX3_failed 63 = .ok (.goto 9, 3) := by decide +kernel
theorem dX3_failed_43 : decode cX3_failed 43 = .ok (.aload_n 0, 1) := by decide +kernel
theorem dX3_failed_44 : decode cX3_failed 44 = .ok (.getfield 33, 3) := by decide +kernel
theorem dX3_failed_47 : decode cX3_failed 47 = .ok (.iload_n 1, 1) := by decide +kernel
theorem dX3_failed_48 : decode cX3_failed 48 = .ok (.iaload, 1) := by decide +kernel
theorem dX3_failed_49 : decode cX3_failed 49 = .ok (.goto 23, 3) := by decide +kernel
theorem dX3_failed_36 : decode cX3_failed 36 = .ok (.bipush (-3), 2) := by decide +kernel
theorem dX3_failed_38 : decode cX3_failed 38 = .ok (.ireturn, 1) := by decide +kernel
theorem dX3_failed_13 : decode cX3_failed 13 = .ok (.iconst (-1), 1) := by decide +kernel
theorem dX3_failed_14 : decode cX3_failed 14 = .ok (.ireturn, 1) := by decide +kernel
theorem dX0_divide_0 : decode cX0_divide 0 = .ok (.aload_n 0, 1) := by decide +kernel
theorem dX0_divide_1 : decode cX0_divide 1 = .ok (.iload_n 1, 1) := by decide +kernel
theorem dX0_divide_2 : decode cX0_divide 2 = .ok (.invokevirtual 68, 3) := by decide +kernel
theorem dX0_divide_5 : decode cX0_divide 5 = .ok (.astore 6, 2) := by decide +kernel
theorem dX0_divide_7 : decode cX0_divide 7 = .ok (.aload 6, 2) := by decide +kernel
theorem dX0_divide_9 : decode cX0_divide 9 = .ok (.ifnull 12, 3) := by decide +kernel
theorem dX0_divide_21 : decode cX0_divide 21 = .ok (.lconst 0, 1) := by decide +kernel
theorem dX0_divide_22 : decode cX0_divide 22 = .ok (.lreturn, 1) := by decide +kernel
theorem dX0_divide_12 : decode cX0_divide 12 = .ok (.aload_n 0, 1) := by decide +kernel
theorem dX0_divide_13 : decode cX0_divide 13 = .ok (.aload 6, 2) := by decide +kernel
theorem dX0_divide_15 : decode cX0_divide 15 = .ok (.invokevirtual 72, 3) := by decide +kernel
theorem dX0_divide_18 : decode cX0_divide 18 = .ok (.ifCond .ne 5, 3) := by decide +kernel
theorem dX0_divide_23 : decode cX0_divide 23 = .ok (.aload 6, 2) := by decide +kernel
theorem dX0_divide_25 : decode cX0_divide 25 = .ok (.dup, 1) := by decide +kernel
theorem dX0_divide_26 : decode cX0_divide 26 = .ok (.getfield 128, 3) := by decide +kernel
theorem dX0_divide_29 : decode cX0_divide 29 = .ok (.lconst 1, 1) := by decide +kernel
theorem dX0_divide_30 : decode cX0_divide 30 = .ok (.ladd, 1) := by decide +kernel
theorem dX0_divide_31 : decode cX0_divide 31 = .ok (.putfield 128, 3) := by decide +kernel
theorem dX0_divide_34 : decode cX0_divide 34 = .ok (.lload 4, 2) := by decide +kernel
theorem dX0_divide_36 : decode cX0_divide 36 = .ok (.lconst 0, 1) := by decide +kernel
theorem dX0_divide_37 : decode cX0_divide 37 = .ok (.lcmp, 1) := by decide +kernel
theorem dX0_divide_38 : decode cX0_divide 38 = .ok (.ifCond .ne 13, 3) := by decide +kernel
theorem dX0_divide_51 : decode cX0_divide 51 = .ok (.lload_n 2, 1) := by decide +kernel
theorem dX0_divide_52 : decode cX0_divide 52 = .ok (.lload 4, 2) := by decide +kernel
theorem dX0_divide_54 : decode cX0_divide 54 = .ok (.ldiv, 1) := by decide +kernel
theorem dX0_divide_55 : decode cX0_divide 55 = .ok (.lreturn, 1) := by decide +kernel
theorem dX0_divide_41 : decode cX0_divide 41 = .ok (.new 141, 3) := by decide +kernel
theorem dX0_divide_44 : decode cX0_divide 44 = .ok (.dup, 1) := by decide +kernel
theorem dX0_divide_45 : decode cX0_divide 45 = .ok (.ldc 143, 2) := by decide +kernel
theorem dX0_divide_47 : decode cX0_divide 47 = .ok (.invokespecial 145, 3) := by decide +kernel
theorem dX0_divide_50 : decode cX0_divide 50 = .ok (.athrow, 1) := by decide +kernel
theorem dX0_handle_0 : decode cX0_handle 0 = .ok (.iload_n 1, 1) := by decide +kernel
theorem dX0_handle_1 : decode cX0_handle 1 = .ok (.aload_n 0, 1) := by decide +kernel
theorem dX0_handle_2 : decode cX0_handle 2 = .ok (.getfield 41, 3) := by decide +kernel
theorem dX0_handle_5 : decode cX0_handle 5 = .ok (.iconst 1, 1) := by decide +kernel
theorem dX0_handle_6 : decode cX0_handle 6 = .ok (.isub, 1) := by decide +kernel
theorem dX0_handle_7 : decode cX0_handle 7 = .ok (.invokestatic 57, 3) := by decide +kernel
theorem dX0_handle_10 : decode cX0_handle 10 = .ok (.ifCond .eq 13, 3) := by decide +kernel
theorem dX0_handle_23 : decode cX0_handle 23 = .ok (.iconst (-1), 1) := by decide +kernel
theorem dX0_handle_24 : decode cX0_handle 24 = .ok (.ireturn, 1) := by decide +kernel
theorem dX0_handle_13 : decode cX0_handle 13 = .ok (.new 148, 3) := by decide +kernel
theorem dX0_handle_16 : decode cX0_handle 16 = .ok (.dup, 1) := by decide +kernel
theorem dX0_handle_17 : decode cX0_handle 17 = .ok (.ldc 150, 2) := by decide +kernel
theorem dX0_handle_19 : decode cX0_handle 19 = .ok (.invokespecial 152, 3) := by decide +kernel
theorem dX0_handle_22 : decode cX0_handle 22 = .ok (.athrow, 1) := by decide +kernel
theorem dL_law_0 : decode code 0 = .ok (.new 8, 3) := by decide +kernel
theorem dL_law_3 : decode code 3 = .ok (.dup, 1) := by decide +kernel
theorem dL_law_4 : decode code 4 = .ok (.aload_n 0, 1) := by decide +kernel
theorem dL_law_5 : decode code 5 = .ok (.iconst 0, 1) := by decide +kernel
theorem dL_law_6 : decode code 6 = .ok (.invokestatic 21, 3) := by decide +kernel
theorem dL_law_9 : decode code 9 = .ok (.invokespecial 27, 3) := by decide +kernel
theorem dL_law_12 : decode code 12 = .ok (.astore_n 1, 1) := by decide +kernel
theorem dL_law_13 : decode code 13 = .ok (.new 30, 3) := by decide +kernel
theorem dL_law_16 : decode code 16 = .ok (.dup, 1) := by decide +kernel
theorem dL_law_17 : decode code 17 = .ok (.aload_n 0, 1) := by decide +kernel
theorem dL_law_18 : decode code 18 = .ok (.iconst 0, 1) := by decide +kernel
theorem dL_law_19 : decode code 19 = .ok (.invokestatic 21, 3) := by decide +kernel
theorem dL_law_22 : decode code 22 = .ok (.invokespecial 32, 3) := by decide +kernel
theorem dL_law_25 : decode code 25 = .ok (.astore_n 2, 1) := by decide +kernel
theorem dL_law_26 : decode code 26 = .ok (.iconst 1, 1) := by decide +kernel
theorem dL_law_27 : decode code 27 = .ok (.newarray .long, 2) := by decide +kernel
theorem dL_law_29 : decode code 29 = .ok (.astore_n 3, 1) := by decide +kernel
theorem dL_law_30 : decode code 30 = .ok (.iconst 1, 1) := by decide +kernel
theorem dL_law_31 : decode code 31 = .ok (.istore 4, 2) := by decide +kernel
theorem dL_law_33 : decode code 33 = .ok (.iload 4, 2) := by decide +kernel
theorem dL_law_35 : decode code 35 = .ok (.aload_n 0, 1) := by decide +kernel
theorem dL_law_36 : decode code 36 = .ok (.arraylength, 1) := by decide +kernel
theorem dL_law_37 : decode code 37 = .ok (.bipush 6, 2) := by decide +kernel
theorem dL_law_39 : decode code 39 = .ok (.isub, 1) := by decide +kernel
theorem dL_law_40 : decode code 40 = .ok (.if_icmp .gt 640, 3) := by decide +kernel
theorem dL_law_680 : decode code 680 = .ok (.iconst 1, 1) := by decide +kernel
theorem dL_law_681 : decode code 681 = .ok (.ireturn, 1) := by decide +kernel
theorem dL_law_43 : decode code 43 = .ok (.aload_n 0, 1) := by decide +kernel
theorem dL_law_44 : decode code 44 = .ok (.iload 4, 2) := by decide +kernel
theorem dL_law_46 : decode code 46 = .ok (.iaload, 1) := by decide +kernel
theorem dL_law_47 : decode code 47 = .ok (.bipush 15, 2) := by decide +kernel
end
section
theorem dL_law_49 : decode code 49 = .ok (.iand, 1) := by decide +kernel
theorem dL_law_50 : decode code 50 = .ok (.tableswitch 624 0 11 #[62, 127, 152, 201, 226, 251, 288, 325, 362, 388, 425, 568], 62) := by decide +kernel
theorem dL_law_112 : decode code 112 = .ok (.aload_n 1, 1) := by decide +kernel
theorem dL_law_113 : decode code 113 = .ok (.aload_n 0, 1) := by decide +kernel
theorem dL_law_114 : decode code 114 = .ok (.iload 4, 2) := by decide +kernel
theorem dL_law_116 : decode code 116 = .ok (.iconst 1, 1) := by decide +kernel
theorem dL_law_117 : decode code 117 = .ok (.iadd, 1) := by decide +kernel
theorem dL_law_118 : decode code 118 = .ok (.iaload, 1) := by decide +kernel
theorem dL_law_119 : decode code 119 = .ok (.aload_n 0, 1) := by decide +kernel
theorem dL_law_120 : decode code 120 = .ok (.iload 4, 2) := by decide +kernel
theorem dL_law_122 : decode code 122 = .ok (.iconst 2, 1) := by decide +kernel
theorem dL_law_123 : decode code 123 = .ok (.iadd, 1) := by decide +kernel
theorem dL_law_124 : decode code 124 = .ok (.iaload, 1) := by decide +kernel
theorem dL_law_125 : decode code 125 = .ok (.aload_n 0, 1) := by decide +kernel
theorem dL_law_126 : decode code 126 = .ok (.iload 4, 2) := by decide +kernel
theorem dL_law_128 : decode code 128 = .ok (.iconst 3, 1) := by decide +kernel
theorem dL_law_129 : decode code 129 = .ok (.iadd, 1) := by decide +kernel
theorem dL_law_130 : decode code 130 = .ok (.iaload, 1) := by decide +kernel
theorem dL_law_131 : decode code 131 = .ok (.ifCond .eq 7, 3) := by decide +kernel
theorem dL_law_138 : decode code 138 = .ok (.iconst 0, 1) := by decide +kernel
theorem dL_law_139 : decode code 139 = .ok (.invokevirtual 33, 3) := by decide +kernel
theorem dL_law_142 : decode code 142 = .ok (.aload_n 2, 1) := by decide +kernel
theorem dL_law_143 : decode code 143 = .ok (.aload_n 0, 1) := by decide +kernel
theorem dL_law_144 : decode code 144 = .ok (.iload 4, 2) := by decide +kernel
theorem dL_law_146 : decode code 146 = .ok (.iconst 1, 1) := by decide +kernel
theorem dL_law_147 : decode code 147 = .ok (.iadd, 1) := by decide +kernel
theorem dL_law_148 : decode code 148 = .ok (.iaload, 1) := by decide +kernel
theorem dL_law_149 : decode code 149 = .ok (.aload_n 0, 1) := by decide +kernel
theorem dL_law_150 : decode code 150 = .ok (.iload 4, 2) := by decide +kernel
theorem dL_law_152 : decode code 152 = .ok (.iconst 2, 1) := by decide +kernel
theorem dL_law_153 : decode code 153 = .ok (.iadd, 1) := by decide +kernel
theorem dL_law_154 : decode code 154 = .ok (.iaload, 1) := by decide +kernel
theorem dL_law_155 : decode code 155 = .ok (.aload_n 0, 1) := by decide +kernel
theorem dL_law_156 : decode code 156 = .ok (.iload 4, 2) := by decide +kernel
theorem dL_law_158 : decode code 158 = .ok (.iconst 3, 1) := by decide +kernel
theorem dL_law_159 : decode code 159 = .ok (.iadd, 1) := by decide +kernel
theorem dL_law_160 : decode code 160 = .ok (.iaload, 1) := by decide +kernel
theorem dL_law_161 : decode code 161 = .ok (.ifCond .eq 7, 3) := by decide +kernel
theorem dL_law_168 : decode code 168 = .ok (.iconst 0, 1) := by decide +kernel
theorem dL_law_169 : decode code 169 = .ok (.invokevirtual 37, 3) := by decide +kernel
theorem dL_law_172 : decode code 172 = .ok (.if_icmp .eq 502, 3) := by decide +kernel
theorem dL_law_674 : decode code 674 = .ok (.iinc 4 6, 3) := by decide +kernel
theorem dL_law_677 : decode code 677 = .ok (.goto (-644), 3) := by decide +kernel
theorem dL_law_175 : decode code 175 = .ok (.iconst 0, 1) := by decide +kernel
theorem dL_law_176 : decode code 176 = .ok (.ireturn, 1) := by decide +kernel
theorem dL_law_164 : decode code 164 = .ok (.iconst 1, 1) := by decide +kernel
theorem dL_law_165 : decode code 165 = .ok (.goto 4, 3) := by decide +kernel
theorem dL_law_134 : decode code 134 = .ok (.iconst 1, 1) := by decide +kernel
theorem dL_law_135 : decode code 135 = .ok (.goto 4, 3) := by decide +kernel
theorem dL_law_177 : decode code 177 = .ok (.aload_n 1, 1) := by decide +kernel
theorem dL_law_178 : decode code 178 = .ok (.aload_n 0, 1) := by decide +kernel
theorem dL_law_179 : decode code 179 = .ok (.iload 4, 2) := by decide +kernel
theorem dL_law_181 : decode code 181 = .ok (.iconst 1, 1) := by decide +kernel
theorem dL_law_182 : decode code 182 = .ok (.iadd, 1) := by decide +kernel
theorem dL_law_183 : decode code 183 = .ok (.iaload, 1) := by decide +kernel
theorem dL_law_184 : decode code 184 = .ok (.invokevirtual 38, 3) := by decide +kernel
theorem dL_law_187 : decode code 187 = .ok (.aload_n 2, 1) := by decide +kernel
theorem dL_law_188 : decode code 188 = .ok (.aload_n 0, 1) := by decide +kernel
theorem dL_law_189 : decode code 189 = .ok (.iload 4, 2) := by decide +kernel
theorem dL_law_191 : decode code 191 = .ok (.iconst 1, 1) := by decide +kernel
theorem dL_law_192 : decode code 192 = .ok (.iadd, 1) := by decide +kernel
theorem dL_law_193 : decode code 193 = .ok (.iaload, 1) := by decide +kernel
theorem dL_law_194 : decode code 194 = .ok (.invokevirtual 41, 3) := by decide +kernel
theorem dL_law_197 : decode code 197 = .ok (.if_icmp .eq 477, 3) := by decide +kernel
theorem dL_law_200 : decode code 200 = .ok (.iconst 0, 1) := by decide +kernel
theorem dL_law_201 : decode code 201 = .ok (.ireturn, 1) := by decide +kernel
theorem dL_law_202 : decode code 202 = .ok (.aload_n 1, 1) := by decide +kernel
theorem dL_law_203 : decode code 203 = .ok (.aload_n 0, 1) := by decide +kernel
theorem dL_law_204 : decode code 204 = .ok (.iload 4, 2) := by decide +kernel
theorem dL_law_206 : decode code 206 = .ok (.iconst 1, 1) := by decide +kernel
theorem dL_law_207 : decode code 207 = .ok (.iadd, 1) := by decide +kernel
theorem dL_law_208 : decode code 208 = .ok (.iaload, 1) := by decide +kernel
theorem dL_law_209 : decode code 209 = .ok (.aload_n 0, 1) := by decide +kernel
theorem dL_law_210 : decode code 210 = .ok (.iload 4, 2) := by decide +kernel
theorem dL_law_212 : decode code 212 = .ok (.iconst 2, 1) := by decide +kernel
theorem dL_law_213 : decode code 213 = .ok (.iadd, 1) := by decide +kernel
theorem dL_law_214 : decode code 214 = .ok (.iaload, 1) := by decide +kernel
theorem dL_law_215 : decode code 215 = .ok (.aload_n 0, 1) := by decide +kernel
theorem dL_law_216 : decode code 216 = .ok (.iload 4, 2) := by decide +kernel
theorem dL_law_218 : decode code 218 = .ok (.iconst 3, 1) := by decide +kernel
theorem dL_law_219 : decode code 219 = .ok (.iadd, 1) := by decide +kernel
theorem dL_law_220 : decode code 220 = .ok (.iaload, 1) := by decide +kernel
theorem dL_law_221 : decode code 221 = .ok (.invokevirtual 42, 3) := by decide +kernel
theorem dL_law_224 : decode code 224 = .ok (.aload_n 2, 1) := by decide +kernel
theorem dL_law_225 : decode code 225 = .ok (.aload_n 0, 1) := by decide +kernel
theorem dL_law_226 : decode code 226 = .ok (.iload 4, 2) := by decide +kernel
theorem dL_law_228 : decode code 228 = .ok (.iconst 1, 1) := by decide +kernel
theorem dL_law_229 : decode code 229 = .ok (.iadd, 1) := by decide +kernel
theorem dL_law_230 : decode code 230 = .ok (.iaload, 1) := by decide +kernel
theorem dL_law_231 : decode code 231 = .ok (.aload_n 0, 1) := by decide +kernel
theorem dL_law_232 : decode code 232 = .ok (.iload 4, 2) := by decide +kernel
theorem dL_law_234 : decode code 234 = .ok (.iconst 2, 1) := by decide +kernel
theorem dL_law_235 : decode code 235 = .ok (.iadd, 1) := by decide +kernel
theorem dL_law_236 : decode code 236 = .ok (.iaload, 1) := by decide +kernel
theorem dL_law_237 : decode code 237 = .ok (.aload_n 0, 1) := by decide +kernel
theorem dL_law_238 : decode code 238 = .ok (.iload 4, 2) := by decide +kernel
theorem dL_law_240 : decode code 240 = .ok (.iconst 3, 1) := by decide +kernel
theorem dL_law_241 : decode code 241 = .ok (.iadd, 1) := by decide +kernel
theorem dL_law_242 : decode code 242 = .ok (.iaload, 1) := by decide +kernel
theorem dL_law_243 : decode code 243 = .ok (.invokevirtual 46, 3) := by decide +kernel
theorem dL_law_246 : decode code 246 = .ok (.if_icmp .eq 428, 3) := by decide +kernel
theorem dL_law_249 : decode code 249 = .ok (.iconst 0, 1) := by decide +kernel
theorem dL_law_250 : decode code 250 = .ok (.ireturn, 1) := by decide +kernel
theorem dL_law_251 : decode code 251 = .ok (.aload_n 1, 1) := by decide +kernel
theorem dL_law_252 : decode code 252 = .ok (.aload_n 0, 1) := by decide +kernel
theorem dL_law_253 : decode code 253 = .ok (.iload 4, 2) := by decide +kernel
theorem dL_law_255 : decode code 255 = .ok (.iconst 1, 1) := by decide +kernel
theorem dL_law_256 : decode code 256 = .ok (.iadd, 1) := by decide +kernel
theorem dL_law_257 : decode code 257 = .ok (.iaload, 1) := by decide +kernel
theorem dL_law_258 : decode code 258 = .ok (.invokevirtual 47, 3) := by decide +kernel
theorem dL_law_261 : decode code 261 = .ok (.aload_n 2, 1) := by decide +kernel
theorem dL_law_262 : decode code 262 = .ok (.aload_n 0, 1) := by decide +kernel
theorem dL_law_263 : decode code 263 = .ok (.iload 4, 2) := by decide +kernel
theorem dL_law_265 : decode code 265 = .ok (.iconst 1, 1) := by decide +kernel
theorem dL_law_266 : decode code 266 = .ok (.iadd, 1) := by decide +kernel
theorem dL_law_267 : decode code 267 = .ok (.iaload, 1) := by decide +kernel
theorem dL_law_268 : decode code 268 = .ok (.invokevirtual 50, 3) := by decide +kernel
theorem dL_law_271 : decode code 271 = .ok (.if_icmp .eq 403, 3) := by decide +kernel
theorem dL_law_274 : decode code 274 = .ok (.iconst 0, 1) := by decide +kernel
theorem dL_law_275 : decode code 275 = .ok (.ireturn, 1) := by decide +kernel
theorem dL_law_276 : decode code 276 = .ok (.aload_n 1, 1) := by decide +kernel
theorem dL_law_277 : decode code 277 = .ok (.aload_n 0, 1) := by decide +kernel
theorem dL_law_278 : decode code 278 = .ok (.iload 4, 2) := by decide +kernel
theorem dL_law_280 : decode code 280 = .ok (.iconst 1, 1) := by decide +kernel
theorem dL_law_281 : decode code 281 = .ok (.iadd, 1) := by decide +kernel
theorem dL_law_282 : decode code 282 = .ok (.iaload, 1) := by decide +kernel
theorem dL_law_283 : decode code 283 = .ok (.invokevirtual 51, 3) := by decide +kernel
theorem dL_law_286 : decode code 286 = .ok (.aload_n 2, 1) := by decide +kernel
theorem dL_law_287 : decode code 287 = .ok (.aload_n 0, 1) := by decide +kernel
theorem dL_law_288 : decode code 288 = .ok (.iload 4, 2) := by decide +kernel
theorem dL_law_290 : decode code 290 = .ok (.iconst 1, 1) := by decide +kernel
theorem dL_law_291 : decode code 291 = .ok (.iadd, 1) := by decide +kernel
theorem dL_law_292 : decode code 292 = .ok (.iaload, 1) := by decide +kernel
theorem dL_law_293 : decode code 293 = .ok (.invokevirtual 54, 3) := by decide +kernel
theorem dL_law_296 : decode code 296 = .ok (.if_icmp .eq 378, 3) := by decide +kernel
theorem dL_law_299 : decode code 299 = .ok (.iconst 0, 1) := by decide +kernel
theorem dL_law_300 : decode code 300 = .ok (.ireturn, 1) := by decide +kernel
theorem dL_law_301 : decode code 301 = .ok (.aload_n 1, 1) := by decide +kernel
theorem dL_law_302 : decode code 302 = .ok (.aload_n 0, 1) := by decide +kernel
theorem dL_law_303 : decode code 303 = .ok (.iload 4, 2) := by decide +kernel
theorem dL_law_305 : decode code 305 = .ok (.iconst 1, 1) := by decide +kernel
theorem dL_law_306 : decode code 306 = .ok (.iadd, 1) := by decide +kernel
theorem dL_law_307 : decode code 307 = .ok (.iaload, 1) := by decide +kernel
theorem dL_law_308 : decode code 308 = .ok (.aload_n 0, 1) := by decide +kernel
theorem dL_law_309 : decode code 309 = .ok (.iload 4, 2) := by decide +kernel
theorem dL_law_311 : decode code 311 = .ok (.iconst 2, 1) := by decide +kernel
theorem dL_law_312 : decode code 312 = .ok (.iadd, 1) := by decide +kernel
theorem dL_law_313 : decode code 313 = .ok (.iaload, 1) := by decide +kernel
theorem dL_law_314 : decode code 314 = .ok (.invokevirtual 55, 3) := by decide +kernel
theorem dL_law_317 : decode code 317 = .ok (.aload_n 2, 1) := by decide +kernel
theorem dL_law_318 : decode code 318 = .ok (.aload_n 0, 1) := by decide +kernel
theorem dL_law_319 : decode code 319 = .ok (.iload 4, 2) := by decide +kernel
theorem dL_law_321 : decode code 321 = .ok (.iconst 1, 1) := by decide +kernel
theorem dL_law_322 : decode code 322 = .ok (.iadd, 1) := by decide +kernel
theorem dL_law_323 : decode code 323 = .ok (.iaload, 1) := by decide +kernel
theorem dL_law_324 : decode code 324 = .ok (.aload_n 0, 1) := by decide +kernel
theorem dL_law_325 : decode code 325 = .ok (.iload 4, 2) := by decide +kernel
theorem dL_law_327 : decode code 327 = .ok (.iconst 2, 1) := by decide +kernel
theorem dL_law_328 : decode code 328 = .ok (.iadd, 1) := by decide +kernel
theorem dL_law_329 : decode code 329 = .ok (.iaload, 1) := by decide +kernel
theorem dL_law_330 : decode code 330 = .ok (.invokevirtual 59, 3) := by decide +kernel
theorem dL_law_333 : decode code 333 = .ok (.if_icmp .eq 341, 3) := by decide +kernel
theorem dL_law_336 : decode code 336 = .ok (.iconst 0, 1) := by decide +kernel
theorem dL_law_337 : decode code 337 = .ok (.ireturn, 1) := by decide +kernel
theorem dL_law_338 : decode code 338 = .ok (.aload_n 1, 1) := by decide +kernel
theorem dL_law_339 : decode code 339 = .ok (.aload_n 0, 1) := by decide +kernel
theorem dL_law_340 : decode code 340 = .ok (.iload 4, 2) := by decide +kernel
theorem dL_law_342 : decode code 342 = .ok (.iconst 1, 1) := by decide +kernel
theorem dL_law_343 : decode code 343 = .ok (.iadd, 1) := by decide +kernel
theorem dL_law_344 : decode code 344 = .ok (.iaload, 1) := by decide +kernel
theorem dL_law_345 : decode code 345 = .ok (.aload_n 0, 1) := by decide +kernel
theorem dL_law_346 : decode code 346 = .ok (.iload 4, 2) := by decide +kernel
theorem dL_law_348 : decode code 348 = .ok (.iconst 2, 1) := by decide +kernel
theorem dL_law_349 : decode code 349 = .ok (.iadd, 1) := by decide +kernel
theorem dL_law_350 : decode code 350 = .ok (.iaload, 1) := by decide +kernel
theorem dL_law_351 : decode code 351 = .ok (.invokevirtual 60, 3) := by decide +kernel
theorem dL_law_354 : decode code 354 = .ok (.aload_n 2, 1) := by decide +kernel
theorem dL_law_355 : decode code 355 = .ok (.aload_n 0, 1) := by decide +kernel
theorem dL_law_356 : decode code 356 = .ok (.iload 4, 2) := by decide +kernel
theorem dL_law_358 : decode code 358 = .ok (.iconst 1, 1) := by decide +kernel
theorem dL_law_359 : decode code 359 = .ok (.iadd, 1) := by decide +kernel
theorem dL_law_360 : decode code 360 = .ok (.iaload, 1) := by decide +kernel
theorem dL_law_361 : decode code 361 = .ok (.aload_n 0, 1) := by decide +kernel
theorem dL_law_362 : decode code 362 = .ok (.iload 4, 2) := by decide +kernel
theorem dL_law_364 : decode code 364 = .ok (.iconst 2, 1) := by decide +kernel
theorem dL_law_365 : decode code 365 = .ok (.iadd, 1) := by decide +kernel
theorem dL_law_366 : decode code 366 = .ok (.iaload, 1) := by decide +kernel
theorem dL_law_367 : decode code 367 = .ok (.invokevirtual 63, 3) := by decide +kernel
theorem dL_law_370 : decode code 370 = .ok (.if_icmp .eq 304, 3) := by decide +kernel
theorem dL_law_373 : decode code 373 = .ok (.iconst 0, 1) := by decide +kernel
theorem dL_law_374 : decode code 374 = .ok (.ireturn, 1) := by decide +kernel
theorem dL_law_375 : decode code 375 = .ok (.aload_n 1, 1) := by decide +kernel
theorem dL_law_376 : decode code 376 = .ok (.aload_n 0, 1) := by decide +kernel
theorem dL_law_377 : decode code 377 = .ok (.iload 4, 2) := by decide +kernel
theorem dL_law_379 : decode code 379 = .ok (.iconst 1, 1) := by decide +kernel
theorem dL_law_380 : decode code 380 = .ok (.iadd, 1) := by decide +kernel
theorem dL_law_381 : decode code 381 = .ok (.iaload, 1) := by decide +kernel
theorem dL_law_382 : decode code 382 = .ok (.aload_n 0, 1) := by decide +kernel
theorem dL_law_383 : decode code 383 = .ok (.iload 4, 2) := by decide +kernel
theorem dL_law_385 : decode code 385 = .ok (.iconst 2, 1) := by decide +kernel
theorem dL_law_386 : decode code 386 = .ok (.iadd, 1) := by decide +kernel
theorem dL_law_387 : decode code 387 = .ok (.iaload, 1) := by decide +kernel
theorem dL_law_388 : decode code 388 = .ok (.invokevirtual 64, 3) := by decide +kernel
theorem dL_law_391 : decode code 391 = .ok (.aload_n 2, 1) := by decide +kernel
theorem dL_law_392 : decode code 392 = .ok (.aload_n 0, 1) := by decide +kernel
theorem dL_law_393 : decode code 393 = .ok (.iload 4, 2) := by decide +kernel
theorem dL_law_395 : decode code 395 = .ok (.iconst 1, 1) := by decide +kernel
theorem dL_law_396 : decode code 396 = .ok (.iadd, 1) := by decide +kernel
theorem dL_law_397 : decode code 397 = .ok (.iaload, 1) := by decide +kernel
theorem dL_law_398 : decode code 398 = .ok (.aload_n 0, 1) := by decide +kernel
theorem dL_law_399 : decode code 399 = .ok (.iload 4, 2) := by decide +kernel
theorem dL_law_401 : decode code 401 = .ok (.iconst 2, 1) := by decide +kernel
theorem dL_law_402 : decode code 402 = .ok (.iadd, 1) := by decide +kernel
theorem dL_law_403 : decode code 403 = .ok (.iaload, 1) := by decide +kernel
theorem dL_law_404 : decode code 404 = .ok (.invokevirtual 67, 3) := by decide +kernel
theorem dL_law_407 : decode code 407 = .ok (.if_icmp .eq 267, 3) := by decide +kernel
theorem dL_law_410 : decode code 410 = .ok (.iconst 0, 1) := by decide +kernel
theorem dL_law_411 : decode code 411 = .ok (.ireturn, 1) := by decide +kernel
theorem dL_law_412 : decode code 412 = .ok (.aload_n 1, 1) := by decide +kernel
theorem dL_law_413 : decode code 413 = .ok (.aload_n 0, 1) := by decide +kernel
theorem dL_law_414 : decode code 414 = .ok (.iload 4, 2) := by decide +kernel
theorem dL_law_416 : decode code 416 = .ok (.iconst 1, 1) := by decide +kernel
theorem dL_law_417 : decode code 417 = .ok (.iadd, 1) := by decide +kernel
theorem dL_law_418 : decode code 418 = .ok (.iaload, 1) := by decide +kernel
theorem dL_law_419 : decode code 419 = .ok (.invokevirtual 68, 3) := by decide +kernel
theorem dL_law_422 : decode code 422 = .ok (.aload_n 2, 1) := by decide +kernel
theorem dL_law_423 : decode code 423 = .ok (.aload_n 0, 1) := by decide +kernel
theorem dL_law_424 : decode code 424 = .ok (.iload 4, 2) := by decide +kernel
theorem dL_law_426 : decode code 426 = .ok (.iconst 1, 1) := by decide +kernel
theorem dL_law_427 : decode code 427 = .ok (.iadd, 1) := by decide +kernel
theorem dL_law_428 : decode code 428 = .ok (.iaload, 1) := by decide +kernel
theorem dL_law_429 : decode code 429 = .ok (.invokevirtual 71, 3) := by decide +kernel
theorem dL_law_432 : decode code 432 = .ok (.lcmp, 1) := by decide +kernel
theorem dL_law_433 : decode code 433 = .ok (.ifCond .eq 241, 3) := by decide +kernel
theorem dL_law_436 : decode code 436 = .ok (.iconst 0, 1) := by decide +kernel
theorem dL_law_437 : decode code 437 = .ok (.ireturn, 1) := by decide +kernel
theorem dL_law_438 : decode code 438 = .ok (.aload_n 1, 1) := by decide +kernel
theorem dL_law_439 : decode code 439 = .ok (.aload_n 0, 1) := by decide +kernel
theorem dL_law_440 : decode code 440 = .ok (.iload 4, 2) := by decide +kernel
theorem dL_law_442 : decode code 442 = .ok (.iconst 1, 1) := by decide +kernel
theorem dL_law_443 : decode code 443 = .ok (.iadd, 1) := by decide +kernel
theorem dL_law_444 : decode code 444 = .ok (.iaload, 1) := by decide +kernel
theorem dL_law_445 : decode code 445 = .ok (.aload_n 0, 1) := by decide +kernel
theorem dL_law_446 : decode code 446 = .ok (.iload 4, 2) := by decide +kernel
theorem dL_law_448 : decode code 448 = .ok (.iconst 2, 1) := by decide +kernel
theorem dL_law_449 : decode code 449 = .ok (.iadd, 1) := by decide +kernel
theorem dL_law_450 : decode code 450 = .ok (.iaload, 1) := by decide +kernel
theorem dL_law_451 : decode code 451 = .ok (.invokevirtual 72, 3) := by decide +kernel
theorem dL_law_454 : decode code 454 = .ok (.aload_n 2, 1) := by decide +kernel
theorem dL_law_455 : decode code 455 = .ok (.aload_n 0, 1) := by decide +kernel
theorem dL_law_456 : decode code 456 = .ok (.iload 4, 2) := by decide +kernel
theorem dL_law_458 : decode code 458 = .ok (.iconst 1, 1) := by decide +kernel
theorem dL_law_459 : decode code 459 = .ok (.iadd, 1) := by decide +kernel
theorem dL_law_460 : decode code 460 = .ok (.iaload, 1) := by decide +kernel
theorem dL_law_461 : decode code 461 = .ok (.aload_n 0, 1) := by decide +kernel
theorem dL_law_462 : decode code 462 = .ok (.iload 4, 2) := by decide +kernel
theorem dL_law_464 : decode code 464 = .ok (.iconst 2, 1) := by decide +kernel
theorem dL_law_465 : decode code 465 = .ok (.iadd, 1) := by decide +kernel
theorem dL_law_466 : decode code 466 = .ok (.iaload, 1) := by decide +kernel
theorem dL_law_467 : decode code 467 = .ok (.invokevirtual 76, 3) := by decide +kernel
theorem dL_law_470 : decode code 470 = .ok (.if_icmp .eq 204, 3) := by decide +kernel
theorem dL_law_473 : decode code 473 = .ok (.iconst 0, 1) := by decide +kernel
theorem dL_law_474 : decode code 474 = .ok (.ireturn, 1) := by decide +kernel
theorem dL_law_475 : decode code 475 = .ok (.aload_n 1, 1) := by decide +kernel
theorem dL_law_476 : decode code 476 = .ok (.aload_n 0, 1) := by decide +kernel
theorem dL_law_477 : decode code 477 = .ok (.iload 4, 2) := by decide +kernel
theorem dL_law_479 : decode code 479 = .ok (.iconst 1, 1) := by decide +kernel
theorem dL_law_480 : decode code 480 = .ok (.iadd, 1) := by decide +kernel
theorem dL_law_481 : decode code 481 = .ok (.iaload, 1) := by decide +kernel
theorem dL_law_482 : decode code 482 = .ok (.aload_n 0, 1) := by decide +kernel
theorem dL_law_483 : decode code 483 = .ok (.iload 4, 2) := by decide +kernel
theorem dL_law_485 : decode code 485 = .ok (.iconst 2, 1) := by decide +kernel
theorem dL_law_486 : decode code 486 = .ok (.iadd, 1) := by decide +kernel
theorem dL_law_487 : decode code 487 = .ok (.iaload, 1) := by decide +kernel
theorem dL_law_488 : decode code 488 = .ok (.i2l, 1) := by decide +kernel
theorem dL_law_489 : decode code 489 = .ok (.bipush 32, 2) := by decide +kernel
theorem dL_law_491 : decode code 491 = .ok (.lshl, 1) := by decide +kernel
theorem dL_law_492 : decode code 492 = .ok (.aload_n 0, 1) := by decide +kernel
theorem dL_law_493 : decode code 493 = .ok (.iload 4, 2) := by decide +kernel
theorem dL_law_495 : decode code 495 = .ok (.iconst 3, 1) := by decide +kernel
theorem dL_law_496 : decode code 496 = .ok (.iadd, 1) := by decide +kernel
theorem dL_law_497 : decode code 497 = .ok (.iaload, 1) := by decide +kernel
theorem dL_law_498 : decode code 498 = .ok (.i2l, 1) := by decide +kernel
theorem dL_law_499 : decode code 499 = .ok (.ldc2_w 77, 3) := by decide +kernel
theorem dL_law_502 : decode code 502 = .ok (.land, 1) := by decide +kernel
theorem dL_law_503 : decode code 503 = .ok (.lor, 1) := by decide +kernel
theorem dL_law_504 : decode code 504 = .ok (.aload_n 0, 1) := by decide +kernel
theorem dL_law_505 : decode code 505 = .ok (.iload 4, 2) := by decide +kernel
theorem dL_law_507 : decode code 507 = .ok (.iconst 4, 1) := by decide +kernel
theorem dL_law_508 : decode code 508 = .ok (.iadd, 1) := by decide +kernel
theorem dL_law_509 : decode code 509 = .ok (.iaload, 1) := by decide +kernel
theorem dL_law_510 : decode code 510 = .ok (.i2l, 1) := by decide +kernel
theorem dL_law_511 : decode code 511 = .ok (.bipush 32, 2) := by decide +kernel
theorem dL_law_513 : decode code 513 = .ok (.lshl, 1) := by decide +kernel
theorem dL_law_514 : decode code 514 = .ok (.aload_n 0, 1) := by decide +kernel
theorem dL_law_515 : decode code 515 = .ok (.iload 4, 2) := by decide +kernel
theorem dL_law_517 : decode code 517 = .ok (.iconst 5, 1) := by decide +kernel
theorem dL_law_518 : decode code 518 = .ok (.iadd, 1) := by decide +kernel
theorem dL_law_519 : decode code 519 = .ok (.iaload, 1) := by decide +kernel
theorem dL_law_520 : decode code 520 = .ok (.i2l, 1) := by decide +kernel
theorem dL_law_521 : decode code 521 = .ok (.ldc2_w 77, 3) := by decide +kernel
theorem dL_law_524 : decode code 524 = .ok (.land, 1) := by decide +kernel
theorem dL_law_525 : decode code 525 = .ok (.lor, 1) := by decide +kernel
theorem dL_law_526 : decode code 526 = .ok (.aload_n 3, 1) := by decide +kernel
theorem dL_law_527 : decode code 527 = .ok (.invokestatic 79, 3) := by decide +kernel
theorem dL_law_530 : decode code 530 = .ok (.istore 5, 2) := by decide +kernel
theorem dL_law_532 : decode code 532 = .ok (.aload_n 2, 1) := by decide +kernel
theorem dL_law_533 : decode code 533 = .ok (.aload_n 0, 1) := by decide +kernel
theorem dL_law_534 : decode code 534 = .ok (.iload 4, 2) := by decide +kernel
theorem dL_law_536 : decode code 536 = .ok (.iconst 1, 1) := by decide +kernel
theorem dL_law_537 : decode code 537 = .ok (.iadd, 1) := by decide +kernel
theorem dL_law_538 : decode code 538 = .ok (.iaload, 1) := by decide +kernel
theorem dL_law_539 : decode code 539 = .ok (.aload_n 0, 1) := by decide +kernel
theorem dL_law_540 : decode code 540 = .ok (.iload 4, 2) := by decide +kernel
theorem dL_law_542 : decode code 542 = .ok (.iconst 2, 1) := by decide +kernel
theorem dL_law_543 : decode code 543 = .ok (.iadd, 1) := by decide +kernel
theorem dL_law_544 : decode code 544 = .ok (.iaload, 1) := by decide +kernel
theorem dL_law_545 : decode code 545 = .ok (.i2l, 1) := by decide +kernel
theorem dL_law_546 : decode code 546 = .ok (.bipush 32, 2) := by decide +kernel
theorem dL_law_548 : decode code 548 = .ok (.lshl, 1) := by decide +kernel
theorem dL_law_549 : decode code 549 = .ok (.aload_n 0, 1) := by decide +kernel
theorem dL_law_550 : decode code 550 = .ok (.iload 4, 2) := by decide +kernel
theorem dL_law_552 : decode code 552 = .ok (.iconst 3, 1) := by decide +kernel
theorem dL_law_553 : decode code 553 = .ok (.iadd, 1) := by decide +kernel
theorem dL_law_554 : decode code 554 = .ok (.iaload, 1) := by decide +kernel
theorem dL_law_555 : decode code 555 = .ok (.i2l, 1) := by decide +kernel
theorem dL_law_556 : decode code 556 = .ok (.ldc2_w 77, 3) := by decide +kernel
theorem dL_law_559 : decode code 559 = .ok (.land, 1) := by decide +kernel
theorem dL_law_560 : decode code 560 = .ok (.lor, 1) := by decide +kernel
theorem dL_law_561 : decode code 561 = .ok (.aload_n 0, 1) := by decide +kernel
theorem dL_law_562 : decode code 562 = .ok (.iload 4, 2) := by decide +kernel
theorem dL_law_564 : decode code 564 = .ok (.iconst 4, 1) := by decide +kernel
theorem dL_law_565 : decode code 565 = .ok (.iadd, 1) := by decide +kernel
theorem dL_law_566 : decode code 566 = .ok (.iaload, 1) := by decide +kernel
theorem dL_law_567 : decode code 567 = .ok (.i2l, 1) := by decide +kernel
theorem dL_law_568 : decode code 568 = .ok (.bipush 32, 2) := by decide +kernel
theorem dL_law_570 : decode code 570 = .ok (.lshl, 1) := by decide +kernel
theorem dL_law_571 : decode code 571 = .ok (.aload_n 0, 1) := by decide +kernel
theorem dL_law_572 : decode code 572 = .ok (.iload 4, 2) := by decide +kernel
theorem dL_law_574 : decode code 574 = .ok (.iconst 5, 1) := by decide +kernel
theorem dL_law_575 : decode code 575 = .ok (.iadd, 1) := by decide +kernel
theorem dL_law_576 : decode code 576 = .ok (.iaload, 1) := by decide +kernel
theorem dL_law_577 : decode code 577 = .ok (.i2l, 1) := by decide +kernel
theorem dL_law_578 : decode code 578 = .ok (.ldc2_w 77, 3) := by decide +kernel
theorem dL_law_581 : decode code 581 = .ok (.land, 1) := by decide +kernel
theorem dL_law_582 : decode code 582 = .ok (.lor, 1) := by decide +kernel
theorem dL_law_583 : decode code 583 = .ok (.invokevirtual 82, 3) := by decide +kernel
theorem dL_law_586 : decode code 586 = .ok (.lstore 6, 2) := by decide +kernel
theorem dL_law_588 : decode code 588 = .ok (.aload_n 2, 1) := by decide +kernel
theorem dL_law_589 : decode code 589 = .ok (.invokevirtual 83, 3) := by decide +kernel
theorem dL_law_592 : decode code 592 = .ok (.iload 5, 2) := by decide +kernel
theorem dL_law_594 : decode code 594 = .ok (.if_icmp .eq 5, 3) := by decide +kernel
theorem dL_law_599 : decode code 599 = .ok (.iload 5, 2) := by decide +kernel
theorem dL_law_601 : decode code 601 = .ok (.ifCond .ne 14, 3) := by decide +kernel
theorem dL_law_615 : decode code 615 = .ok (.goto 59, 3) := by decide +kernel
theorem dL_law_604 : decode code 604 = .ok (.aload_n 3, 1) := by decide +kernel
theorem dL_law_605 : decode code 605 = .ok (.iconst 0, 1) := by decide +kernel
theorem dL_law_606 : decode code 606 = .ok (.laload, 1) := by decide +kernel
theorem dL_law_607 : decode code 607 = .ok (.lload 6, 2) := by decide +kernel
theorem dL_law_609 : decode code 609 = .ok (.lcmp, 1) := by decide +kernel
theorem dL_law_610 : decode code 610 = .ok (.ifCond .eq 5, 3) := by decide +kernel
theorem dL_law_613 : decode code 613 = .ok (.iconst 0, 1) := by decide +kernel
theorem dL_law_614 : decode code 614 = .ok (.ireturn, 1) := by decide +kernel
theorem dL_law_597 : decode code 597 = .ok (.iconst 0, 1) := by decide +kernel
theorem dL_law_598 : decode code 598 = .ok (.ireturn, 1) := by decide +kernel
theorem dL_law_618 : decode code 618 = .ok (.aload_n 1, 1) := by decide +kernel
theorem dL_law_619 : decode code 619 = .ok (.aload_n 0, 1) := by decide +kernel
theorem dL_law_620 : decode code 620 = .ok (.iload 4, 2) := by decide +kernel
theorem dL_law_622 : decode code 622 = .ok (.iconst 1, 1) := by decide +kernel
theorem dL_law_623 : decode code 623 = .ok (.iadd, 1) := by decide +kernel
theorem dL_law_624 : decode code 624 = .ok (.iaload, 1) := by decide +kernel
theorem dL_law_625 : decode code 625 = .ok (.aload_n 3, 1) := by decide +kernel
theorem dL_law_626 : decode code 626 = .ok (.invokestatic 87, 3) := by decide +kernel
theorem dL_law_629 : decode code 629 = .ok (.istore 5, 2) := by decide +kernel
theorem dL_law_631 : decode code 631 = .ok (.aload_n 2, 1) := by decide +kernel
theorem dL_law_632 : decode code 632 = .ok (.aload_n 0, 1) := by decide +kernel
theorem dL_law_633 : decode code 633 = .ok (.iload 4, 2) := by decide +kernel
theorem dL_law_635 : decode code 635 = .ok (.iconst 1, 1) := by decide +kernel
theorem dL_law_636 : decode code 636 = .ok (.iadd, 1) := by decide +kernel
theorem dL_law_637 : decode code 637 = .ok (.iaload, 1) := by decide +kernel
theorem dL_law_638 : decode code 638 = .ok (.invokevirtual 90, 3) := by decide +kernel
theorem dL_law_641 : decode code 641 = .ok (.istore 6, 2) := by decide +kernel
theorem dL_law_643 : decode code 643 = .ok (.aload_n 2, 1) := by decide +kernel
theorem dL_law_644 : decode code 644 = .ok (.invokevirtual 83, 3) := by decide +kernel
theorem dL_law_647 : decode code 647 = .ok (.iload 5, 2) := by decide +kernel
theorem dL_law_649 : decode code 649 = .ok (.if_icmp .eq 5, 3) := by decide +kernel
theorem dL_law_654 : decode code 654 = .ok (.iload 5, 2) := by decide +kernel
theorem dL_law_656 : decode code 656 = .ok (.ifCond .ne 15, 3) := by decide +kernel
theorem dL_law_671 : decode code 671 = .ok (.goto 3, 3) := by decide +kernel
theorem dL_law_659 : decode code 659 = .ok (.aload_n 3, 1) := by decide +kernel
theorem dL_law_660 : decode code 660 = .ok (.iconst 0, 1) := by decide +kernel
theorem dL_law_661 : decode code 661 = .ok (.laload, 1) := by decide +kernel
theorem dL_law_662 : decode code 662 = .ok (.iload 6, 2) := by decide +kernel
theorem dL_law_664 : decode code 664 = .ok (.i2l, 1) := by decide +kernel
theorem dL_law_665 : decode code 665 = .ok (.lcmp, 1) := by decide +kernel
theorem dL_law_666 : decode code 666 = .ok (.ifCond .eq 5, 3) := by decide +kernel
theorem dL_law_669 : decode code 669 = .ok (.iconst 0, 1) := by decide +kernel
theorem dL_law_670 : decode code 670 = .ok (.ireturn, 1) := by decide +kernel
theorem dL_law_652 : decode code 652 = .ok (.iconst 0, 1) := by decide +kernel
theorem dL_law_653 : decode code 653 = .ok (.ireturn, 1) := by decide +kernel
theorem dL_cell_0 : decode cL_cell 0 = .ok (.iload_n 1, 1) := by decide +kernel
theorem dL_cell_1 : decode cL_cell 1 = .ok (.aload_n 0, 1) := by decide +kernel
theorem dL_cell_2 : decode cL_cell 2 = .ok (.arraylength, 1) := by decide +kernel
theorem dL_cell_3 : decode cL_cell 3 = .ok (.if_icmp .ge 9, 3) := by decide +kernel
theorem dL_cell_6 : decode cL_cell 6 = .ok (.aload_n 0, 1) := by decide +kernel
theorem dL_cell_7 : decode cL_cell 7 = .ok (.iload_n 1, 1) := by decide +kernel
theorem dL_cell_8 : decode cL_cell 8 = .ok (.iaload, 1) := by decide +kernel
theorem dL_cell_9 : decode cL_cell 9 = .ok (.goto 4, 3) := by decide +kernel
theorem dL_cell_12 : decode cL_cell 12 = .ok (.iconst 0, 1) := by decide +kernel
theorem dL_cell_13 : decode cL_cell 13 = .ok (.ireturn, 1) := by decide +kernel
theorem dL_divide_0 : decode cL_divide 0 = .ok (.aload 6, 2) := by decide +kernel
theorem dL_divide_2 : decode cL_divide 2 = .ok (.iconst 0, 1) := by decide +kernel
theorem dL_divide_3 : decode cL_divide 3 = .ok (.aload_n 0, 1) := by decide +kernel
theorem dL_divide_4 : decode cL_divide 4 = .ok (.iload_n 1, 1) := by decide +kernel
theorem dL_divide_5 : decode cL_divide 5 = .ok (.lload_n 2, 1) := by decide +kernel
theorem dL_divide_6 : decode cL_divide 6 = .ok (.lload 4, 2) := by decide +kernel
theorem dL_divide_8 : decode cL_divide 8 = .ok (.invokevirtual 7, 3) := by decide +kernel
theorem dL_divide_11 : decode cL_divide 11 = .ok (.lastore, 1) := by decide +kernel
theorem dL_divide_12 : decode cL_divide 12 = .ok (.goto 7, 3) := by decide +kernel
theorem dL_divide_15 : decode cL_divide 15 = .ok (.astore 7, 2) := by decide +kernel
theorem dL_divide_17 : decode cL_divide 17 = .ok (.iconst 1, 1) := by decide +kernel
theorem dL_divide_18 : decode cL_divide 18 = .ok (.ireturn, 1) := by decide +kernel
theorem dL_divide_19 : decode cL_divide 19 = .ok (.iconst 0, 1) := by decide +kernel
theorem dL_divide_20 : decode cL_divide 20 = .ok (.ireturn, 1) := by decide +kernel
theorem dL_handle_0 : decode cL_handle 0 = .ok (.aload_n 2, 1) := by decide +kernel
theorem dL_handle_1 : decode cL_handle 1 = .ok (.iconst 0, 1) := by decide +kernel
theorem dL_handle_2 : decode cL_handle 2 = .ok (.aload_n 0, 1) := by decide +kernel
theorem dL_handle_3 : decode cL_handle 3 = .ok (.iload_n 1, 1) := by decide +kernel
theorem dL_handle_4 : decode cL_handle 4 = .ok (.invokevirtual 15, 3) := by decide +kernel
theorem dL_handle_7 : decode cL_handle 7 = .ok (.i2l, 1) := by decide +kernel
theorem dL_handle_8 : decode cL_handle 8 = .ok (.lastore, 1) := by decide +kernel
theorem dL_handle_9 : decode cL_handle 9 = .ok (.goto 6, 3) := by decide +kernel
theorem dL_handle_12 : decode cL_handle 12 = .ok (.astore_n 3, 1) := by decide +kernel
theorem dL_handle_13 : decode cL_handle 13 = .ok (.iconst 1, 1) := by decide +kernel
theorem dL_handle_14 : decode cL_handle 14 = .ok (.ireturn, 1) := by decide +kernel
theorem dL_handle_15 : decode cL_handle 15 = .ok (.iconst 0, 1) := by decide +kernel
theorem dL_handle_16 : decode cL_handle 16 = .ok (.ireturn, 1) := by decide +kernel
end
section
def f_X0_init (t0 : Nat) (p1 : Int32) (s0 : MS) : Option (Unit × MS) :=
  m_nw s0 (.inr (3, 16)) (fun _ => .null) fun a1 s2 =>
  (m_p s2 0 t0 1 (.ref a1)).bind fun s4 =>
  (m_p s4 0 t0 2 (.int 0)).bind fun s6 =>
  (m_p s6 0 t0 3 (.int 0)).bind fun s8 =>
  m_nw s8 (.inr (4, 40)) (fun _ => .null) fun a10 s11 =>
  (m_p s11 0 t0 4 (.ref a10)).bind fun s13 =>
  (m_p s13 0 t0 5 (.int 0)).bind fun s15 =>
  m_nw s15 (.inr (1, 400)) (fun _ => defaultValue .int) fun a17 s18 =>
  (m_p s18 0 t0 6 (.ref a17)).bind fun s20 =>
  m_nw s20 (.inr (1, 400)) (fun _ => defaultValue .int) fun a22 s23 =>
  (m_p s23 0 t0 7 (.ref a22)).bind fun s25 =>
  (m_p s25 0 t0 8 (.int 0)).bind fun s27 =>
  (m_p s27 0 t0 9 (.int 0)).bind fun s29 =>
  (m_p s29 0 t0 0 (.int (if 65536 < (if p1 < 0 then 0 else p1) then 65536 else (if p1 < 0 then 0 else p1)))).bind fun s31 =>
  some ((), s31)
set_option maxHeartbeats 4000000 in
set_option maxRecDepth 100000 in
theorem c_X0_init (l : Launch) (D : va_G) (tc : Nat → ClassId) (b : Nat) (t0 : Nat) (p1 : Int32) (s0 st' : MS) (r : Unit) (h : f_X0_init t0 p1 s0 = some (r, st')) : Met l yX0_init wsX0_init ({ frames := 1, cells := 4, slots := 856, locals := 21 }) (m_PcE D vwCl (m_tys tc) b s0 [.ref t0, .int p1]) (m_Q D vwCl (m_tys tc) b none st') 4 856 (m_A b) := by
  unfold f_X0_init at h
  refine m_metE (cc := cX0_init) (maxL := 2) (ret := none) (by decide) rfl (by first | exact Nat.le_of_ble_eq_true rfl | simp [lg_sl, m_rfc, m_catI, m_catL, m_catA]) ?_
  intro p e s m below meth c ls S hr hlk hnm hK hP hl hS hE
  replace hl : lv_has ls 2 [(0, .ref t0), (1, .int p1)] := by first | exact hl | simpa [lv_args, m_rfc, m_catI, m_catL, m_catA] using hl
  refine lv_aload_n S.1 S.2.1 dX0_init_0 rfl (lv_at hl 0 rfl) ?_
  refine W.objInit S.1 S.2.1 S.2.2.2.1 (S.2.2.2.2 (.methodLink RX0 1 objectInit) (m_mem (by decide +kernel))) (S.2.2.2.2 (.instanceMethod objectInit) (m_mem (by decide +kernel))) (S.2.2.2.2 (.code objectInit ⟨#[0xb1]⟩ 1 none) (m_mem (by decide +kernel))) rfl (by rw [S.2.2.1]; exact hl.1) rfl dX0_init_1 (Nat.le_of_ble_eq_true rfl) (Nat.le_of_ble_eq_true rfl) ?_
  refine W.eq (g2 := F0 m 4 ls []) rfl ?_
  refine lv_aload_n S.1 S.2.1 dX0_init_4 rfl (lv_at hl 0 rfl) ?_
  refine lv_bipush (v := 16) S.1 S.2.1 dX0_init_5 (by decide) ?_
  obtain ⟨a1, s2, e3, h⟩ := m_nw_s h
  refine m_newq (t := 3) (N := 16) S (S.2.2.2.2 (.classLink RX0 9 "RuleHouse2$RuleClass") (m_mem (by decide +kernel))) hE.1 hK hP hS rfl (by decide +kernel) (by decide +kernel) (by decide +kernel) (by decide +kernel) (by decide +kernel) e3 dX0_init_7 (fun H hP hS => ?_)
  obtain ⟨s4, e5, h⟩ := m_bs h
  refine m_putF (ci := 0) (k := 1) (T := TX0) (N := 10) (v := .ref a1) (ty := (.array (.object "RuleHouse2$RuleClass"))) S (inX0 _) tyX0 tX0 nX0 hK hP hS e5 rfl (by decide) (S.2.2.2.2 (.fieldLink RX0 11 "RuleHouse2" "classOfRule" "[LRuleHouse2$RuleClass;") (m_mem (by decide +kernel))) rfl rfl hnm rfl (by decide +kernel) rfl rfl dX0_init_10 (fun H locs hP hS => ?_)
  refine lv_aload_n S.1 S.2.1 dX0_init_13 rfl (lv_at hl 0 rfl) ?_
  refine lv_iconst (v := 0) S.1 S.2.1 dX0_init_14 (by decide) ?_
  obtain ⟨s6, e7, h⟩ := m_bs h
  refine m_put (ci := 0) (k := 2) (T := TX0) (N := 10) (v := .int 0) (ty := .int) S (inX0 _) tyX0 tX0 nX0 hK hP hS e7 rfl (by decide) (S.2.2.2.2 (.fieldLink RX0 15 "RuleHouse2" "ruleCount" "I") (m_mem (by decide +kernel))) rfl rfl (by decide +kernel) rfl rfl dX0_init_15 (fun H locs hP hS => ?_)
  refine lv_aload_n S.1 S.2.1 dX0_init_18 rfl (lv_at hl 0 rfl) ?_
  refine lv_iconst (v := 0) S.1 S.2.1 dX0_init_19 (by decide) ?_
  obtain ⟨s8, e9, h⟩ := m_bs h
  refine m_put (ci := 0) (k := 3) (T := TX0) (N := 10) (v := .int 0) (ty := .int) S (inX0 _) tyX0 tX0 nX0 hK hP hS e9 rfl (by decide) (S.2.2.2.2 (.fieldLink RX0 19 "RuleHouse2" "madeCount" "I") (m_mem (by decide +kernel))) rfl rfl (by decide +kernel) rfl rfl dX0_init_20 (fun H locs hP hS => ?_)
  refine lv_aload_n S.1 S.2.1 dX0_init_23 rfl (lv_at hl 0 rfl) ?_
  refine lv_bipush (v := 40) S.1 S.2.1 dX0_init_24 (by decide) ?_
  obtain ⟨a10, s11, e12, h⟩ := m_nw_s h
  refine m_newq (t := 4) (N := 40) S (S.2.2.2.2 (.classLink RX0 22 "RuleHouse2$Target") (m_mem (by decide +kernel))) hE.2.1 hK hP hS rfl (by decide +kernel) (by decide +kernel) (by decide +kernel) (by decide +kernel) (by decide +kernel) e12 dX0_init_26 (fun H hP hS => ?_)
  obtain ⟨s13, e14, h⟩ := m_bs h
  refine m_putF (ci := 0) (k := 4) (T := TX0) (N := 10) (v := .ref a10) (ty := (.array (.object "RuleHouse2$Target"))) S (inX0 _) tyX0 tX0 nX0 hK hP hS e14 rfl (by decide) (S.2.2.2.2 (.fieldLink RX0 24 "RuleHouse2" "targets" "[LRuleHouse2$Target;") (m_mem (by decide +kernel))) rfl rfl hnm rfl (by decide +kernel) rfl rfl dX0_init_29 (fun H locs hP hS => ?_)
  refine lv_aload_n S.1 S.2.1 dX0_init_32 rfl (lv_at hl 0 rfl) ?_
  refine lv_iconst (v := 0) S.1 S.2.1 dX0_init_33 (by decide) ?_
  obtain ⟨s15, e16, h⟩ := m_bs h
  refine m_put (ci := 0) (k := 5) (T := TX0) (N := 10) (v := .int 0) (ty := .int) S (inX0 _) tyX0 tX0 nX0 hK hP hS e16 rfl (by decide) (S.2.2.2.2 (.fieldLink RX0 28 "RuleHouse2" "targetCount" "I") (m_mem (by decide +kernel))) rfl rfl (by decide +kernel) rfl rfl dX0_init_34 (fun H locs hP hS => ?_)
  refine lv_aload_n S.1 S.2.1 dX0_init_37 rfl (lv_at hl 0 rfl) ?_
  refine lv_sipush (v := 400) S.1 S.2.1 dX0_init_38 (by decide) ?_
  obtain ⟨a17, s18, e19, h⟩ := m_nw_s h
  refine m_newa (t := 1) (N := 400) (i := 400) (atype := .int) (ty := .int) (cA := tc 1) S (S.2.2.2.2 (.arrayClass .int) (m_mem (by decide +kernel))) rfl hK hP hS rfl (by decide +kernel) (by decide +kernel) (by decide +kernel) (by decide +kernel) (by decide +kernel) e19 dX0_init_41 (fun H hP hS => ?_)
  obtain ⟨s20, e21, h⟩ := m_bs h
  refine m_putF (ci := 0) (k := 6) (T := TX0) (N := 10) (v := .ref a17) (ty := (.array .int)) S (inX0 _) tyX0 tX0 nX0 hK hP hS e21 rfl (by decide) (S.2.2.2.2 (.fieldLink RX0 31 "RuleHouse2" "actionTarget" "[I") (m_mem (by decide +kernel))) rfl rfl hnm rfl (by decide +kernel) rfl rfl dX0_init_43 (fun H locs hP hS => ?_)
  refine lv_aload_n S.1 S.2.1 dX0_init_46 rfl (lv_at hl 0 rfl) ?_
  refine lv_sipush (v := 400) S.1 S.2.1 dX0_init_47 (by decide) ?_
  obtain ⟨a22, s23, e24, h⟩ := m_nw_s h
  refine m_newa (t := 1) (N := 400) (i := 400) (atype := .int) (ty := .int) (cA := tc 1) S (S.2.2.2.2 (.arrayClass .int) (m_mem (by decide +kernel))) rfl hK hP hS rfl (by decide +kernel) (by decide +kernel) (by decide +kernel) (by decide +kernel) (by decide +kernel) e24 dX0_init_50 (fun H hP hS => ?_)
  obtain ⟨s25, e26, h⟩ := m_bs h
  refine m_putF (ci := 0) (k := 7) (T := TX0) (N := 10) (v := .ref a22) (ty := (.array .int)) S (inX0 _) tyX0 tX0 nX0 hK hP hS e26 rfl (by decide) (S.2.2.2.2 (.fieldLink RX0 35 "RuleHouse2" "actionNumber" "[I") (m_mem (by decide +kernel))) rfl rfl hnm rfl (by decide +kernel) rfl rfl dX0_init_52 (fun H locs hP hS => ?_)
  refine lv_aload_n S.1 S.2.1 dX0_init_55 rfl (lv_at hl 0 rfl) ?_
  refine lv_iconst (v := 0) S.1 S.2.1 dX0_init_56 (by decide) ?_
  obtain ⟨s27, e28, h⟩ := m_bs h
  refine m_put (ci := 0) (k := 8) (T := TX0) (N := 10) (v := .int 0) (ty := .int) S (inX0 _) tyX0 tX0 nX0 hK hP hS e28 rfl (by decide) (S.2.2.2.2 (.fieldLink RX0 38 "RuleHouse2" "actionCount" "I") (m_mem (by decide +kernel))) rfl rfl (by decide +kernel) rfl rfl dX0_init_57 (fun H locs hP hS => ?_)
  refine lv_aload_n S.1 S.2.1 dX0_init_60 rfl (lv_at hl 0 rfl) ?_
  refine lv_iconst (v := 0) S.1 S.2.1 dX0_init_61 (by decide) ?_
  obtain ⟨s29, e30, h⟩ := m_bs h
  refine m_put (ci := 0) (k := 9) (T := TX0) (N := 10) (v := .int 0) (ty := .int) S (inX0 _) tyX0 tX0 nX0 hK hP hS e30 rfl (by decide) (S.2.2.2.2 (.fieldLink RX0 41 "RuleHouse2" "handleCount" "I") (m_mem (by decide +kernel))) rfl rfl (by decide +kernel) rfl rfl dX0_init_62 (fun H locs hP hS => ?_)
  refine lv_aload_n S.1 S.2.1 dX0_init_65 rfl (lv_at hl 0 rfl) ?_
  refine lv_iload_n S.1 S.2.1 dX0_init_66 rfl (lv_at hl 1 rfl) ?_
  refine lv_iconst (v := 0) S.1 S.2.1 dX0_init_67 (by decide) ?_
  refine va_mmax S.1 S.2.1 (S.2.2.1.trans hl.1.symm) S.2.2.2.1 (S.2.2.2.2 (.methodLink RX0 44 Lib.Math.max.name) (m_mem (by decide +kernel))) (S.2.2.2.2 (.static Lib.Math.max.name) (m_mem (by decide +kernel))) (S.2.2.2.2 (.initialized "java/lang/Math") (m_mem (by decide +kernel))) (S.2.2.2.2 (.code Lib.Math.max.name Lib.Math.max.code 2 (some .int)) (m_mem (by decide +kernel))) (by decide) (Nat.le_of_ble_eq_true rfl) (by decide +kernel) (by decide +kernel) dX0_init_68 ?_
  refine lv_ldc (v := 65536) S.1 S.2.1 S.2.2.2.1 (S.2.2.2.2 (.constant RX0 50 65536) (m_mem (by decide +kernel))) dX0_init_71 ?_
  refine va_mmin S.1 S.2.1 (S.2.2.1.trans hl.1.symm) S.2.2.2.1 (S.2.2.2.2 (.methodLink RX0 51 Lib.Math.min.name) (m_mem (by decide +kernel))) (S.2.2.2.2 (.static Lib.Math.min.name) (m_mem (by decide +kernel))) (S.2.2.2.2 (.initialized "java/lang/Math") (m_mem (by decide +kernel))) (S.2.2.2.2 (.code Lib.Math.min.name Lib.Math.min.code 2 (some .int)) (m_mem (by decide +kernel))) (by decide) (Nat.le_of_ble_eq_true rfl) (by decide +kernel) (by decide +kernel) dX0_init_73 ?_
  obtain ⟨s31, e32, h⟩ := m_bs h
  refine m_putF (ci := 0) (k := 0) (T := TX0) (N := 10) (v := .int (if 65536 < (if p1 < 0 then 0 else p1) then 65536 else (if p1 < 0 then 0 else p1))) (ty := .int) S (inX0 _) tyX0 tX0 nX0 hK hP hS e32 rfl (by decide) (S.2.2.2.2 (.fieldLink RX0 54 "RuleHouse2" "stepsAllowed" "I") (m_mem (by decide +kernel))) rfl rfl hnm rfl (by decide +kernel) rfl rfl dX0_init_76 (fun H locs hP hS => ?_)
  obtain ⟨h1, h2⟩ := m_fin h; subst h1; subst h2
  exact m_vret S hr hlk hK hP hS (by decide +kernel) (by decide +kernel) dX0_init_79

def f_X0_isWithin (p1 : Int32) (p2 : Int32) (s0 : MS) : Option (Int32 × MS) :=
  if p1 < 0 then
    some (0, s0)
  else
    if p2 < p1 then
      some (0, s0)
    else
      some (1, s0)
set_option maxHeartbeats 4000000 in
set_option maxRecDepth 100000 in
theorem c_X0_isWithin (l : Launch) (D : va_G) (tc : Nat → ClassId) (b : Nat) (p1 : Int32) (p2 : Int32) (s0 st' : MS) (r : Int32) (h : f_X0_isWithin p1 p2 s0 = some (r, st')) : Met l yX0_isWithin wsX0_isWithin ({ frames := 0, cells := 0, slots := 0, locals := 0 }) (m_Pc D vwCl (m_tys tc) b s0 [.int p1, .int p2]) (m_Q D vwCl (m_tys tc) b (some (.int r)) st') 0 0 (m_A b) := by
  unfold f_X0_isWithin at h
  refine m_met (cc := cX0_isWithin) (maxL := 2) (ret := (some .boolean)) (by decide) rfl (by first | exact Nat.le_of_ble_eq_true rfl | simp [lg_sl, m_rfc, m_catI, m_catL, m_catA]) ?_
  intro p e s m below meth c ls S hr hlk hnm hK hP hl hS
  replace hl : lv_has ls 2 [(0, .int p1), (1, .int p2)] := by first | exact hl | simpa [lv_args, m_rfc, m_catI, m_catL, m_catA] using hl
  refine lv_iload_n S.1 S.2.1 dX0_isWithin_0 rfl (lv_at hl 0 rfl) ?_
  refine lv_if_lt (tgt := 13) S.1 S.2.1 dX0_isWithin_1 (by decide) (fun c1 => ?_) (fun c1 => ?_)
  · replace h := m_t c1 h
    refine lv_iconst (v := 0) S.1 S.2.1 dX0_isWithin_13 (by decide) ?_
    obtain ⟨h1, h2⟩ := m_fin h; subst h1; subst h2
    exact m_zret S hr hlk hK hP hS (by decide) (by decide +kernel) (by decide +kernel) dX0_isWithin_14
  · replace h := m_f c1 h
    refine lv_iload_n S.1 S.2.1 dX0_isWithin_4 rfl (lv_at hl 0 rfl) ?_
    refine lv_iload_n S.1 S.2.1 dX0_isWithin_5 rfl (lv_at hl 1 rfl) ?_
    refine lv_icmp_gt (tgt := 13) S.1 S.2.1 dX0_isWithin_6 (by decide) (fun c2 => ?_) (fun c2 => ?_)
    · replace h := m_t c2 h
      refine lv_iconst (v := 0) S.1 S.2.1 dX0_isWithin_13 (by decide) ?_
      obtain ⟨h1, h2⟩ := m_fin h; subst h1; subst h2
      exact m_zret S hr hlk hK hP hS (by decide) (by decide +kernel) (by decide +kernel) dX0_isWithin_14
    · replace h := m_f c2 h
      refine lv_iconst (v := 1) S.1 S.2.1 dX0_isWithin_9 (by decide) ?_
      refine lv_goto (tgt := 14) S.1 S.2.1 dX0_isWithin_10 (by decide) ?_
      obtain ⟨h1, h2⟩ := m_fin h; subst h1; subst h2
      exact m_zret S hr hlk hK hP hS (by decide) (by decide +kernel) (by decide +kernel) dX0_isWithin_14

def f_X0_classAt (t0 : Nat) (p1 : Int32) (s0 : MS) : Option (Option Nat × MS) :=
  (m_gI s0 0 t0 2).bind fun x1 =>
  m_b (f_X0_isWithin p1 (x1 - 1) s0) fun x3 s4 =>
  if x3 = 0 then
    some (none, s4)
  else
    (m_gR s4 0 t0 1).bind fun r7 =>
    r7.bind fun a9 =>
    (m_aR s4 3 a9 p1).bind fun r10 =>
    some (r10, s4)
set_option maxHeartbeats 4000000 in
set_option maxRecDepth 100000 in
theorem c_X0_classAt (l : Launch) (D : va_G) (tc : Nat → ClassId) (b : Nat) (t0 : Nat) (p1 : Int32) (s0 st' : MS) (r : Option Nat) (h : f_X0_classAt t0 p1 s0 = some (r, st')) : Met l yX0_classAt wsX0_classAt ({ frames := 1, cells := 0, slots := 0, locals := 21 }) (m_Pc D vwCl (m_tys tc) b s0 [.ref t0, .int p1]) (m_Q D vwCl (m_tys tc) b (some (va_rf r)) st') 0 0 (m_A b) := by
  unfold f_X0_classAt at h
  refine m_met (cc := cX0_classAt) (maxL := 2) (ret := (some (.object "RuleHouse2$RuleClass"))) (by decide) rfl (by first | exact Nat.le_of_ble_eq_true rfl | simp [lg_sl, m_rfc, m_catI, m_catL, m_catA]) ?_
  intro p e s m below meth c ls S hr hlk hnm hK hP hl hS
  replace hl : lv_has ls 2 [(0, .ref t0), (1, .int p1)] := by first | exact hl | simpa [lv_args, m_rfc, m_catI, m_catL, m_catA] using hl
  refine lv_iload_n S.1 S.2.1 dX0_classAt_0 rfl (lv_at hl 1 rfl) ?_
  refine lv_aload_n S.1 S.2.1 dX0_classAt_1 rfl (lv_at hl 0 rfl) ?_
  obtain ⟨x1, e2, h⟩ := m_bs h
  refine m_get (ci := 0) (k := 2) (T := TX0) (N := 10) S (inX0 _) hK hP (m_gI_s e2) rfl (by decide) (S.2.2.2.2 (.fieldLink RX0 15 "RuleHouse2" "ruleCount" "I") (m_mem (by decide +kernel))) rfl dX0_classAt_2 ?_
  refine lv_iconst (v := 1) S.1 S.2.1 dX0_classAt_5 (by decide) ?_
  refine lv_isub S.1 S.2.1 dX0_classAt_6 ?_
  obtain ⟨x3, s4, e5, h⟩ := m_b_s h
  refine m_calli (va_runS (As := [.int p1, .int (x1 - 1)]) (rest := []) S (c_X0_isWithin l D tc b p1 (x1 - 1) _ _ _ e5) (cwS 2 S.2.2.2.2 (m_wS kX0_isWithin (by decide +kernel)) rfl rfl rfl (by decide +kernel) ⟨by decide +kernel, by decide +kernel⟩) (m_preS hK hP) rfl rfl hl.1 rfl (lv_room (by first | decide | simp [m_rfc, m_catI, m_catL, m_catA])) dX0_classAt_7 ⟨by decide +kernel, by decide +kernel⟩) hS (fun H locs hP hS => ?_)
  refine lv_if_eq (tgt := 22) S.1 S.2.1 dX0_classAt_10 (by decide) (fun c6 => ?_) (fun c6 => ?_)
  · replace h := m_t c6 h
    refine lv_null S.1 S.2.1 dX0_classAt_22 ?_
    obtain ⟨h1, h2⟩ := m_fin h; subst h1; subst h2
    exact m_aret (r := none) S hr hlk hK hP hS (by decide +kernel) (by decide +kernel) dX0_classAt_23
  · replace h := m_f c6 h
    refine lv_aload_n S.1 S.2.1 dX0_classAt_13 rfl (lv_at hl 0 rfl) ?_
    obtain ⟨r7, e8, h⟩ := m_bs h
    refine m_get (ci := 0) (k := 1) (T := TX0) (N := 10) S (inX0 _) hK hP (m_gR_s e8) rfl (by decide) (S.2.2.2.2 (.fieldLink RX0 11 "RuleHouse2" "classOfRule" "[LRuleHouse2$RuleClass;") (m_mem (by decide +kernel))) rfl dX0_classAt_14 ?_
    refine lv_iload_n S.1 S.2.1 dX0_classAt_17 rfl (lv_at hl 1 rfl) ?_
    obtain ⟨a9, ea, g⟩ := m_bs h; clear h; subst ea; have h := g; clear g
    obtain ⟨r10, e11, h⟩ := m_bs h
    refine m_aald (t := 3) S hK hP (m_aR_s e11) rfl dX0_classAt_18 ?_
    refine lv_goto (tgt := 23) S.1 S.2.1 dX0_classAt_19 (by decide) ?_
    obtain ⟨h1, h2⟩ := m_fin h; subst h1; subst h2
    exact m_aret (r := r10) S hr hlk hK hP hS (by decide +kernel) (by decide +kernel) dX0_classAt_23

def f_X1_isOf (t0 : Nat) (p1 : Int32) (p2 : Int32) (s0 : MS) : Option (Int32 × MS) :=
  (m_gI s0 1 t0 0).bind fun x1 =>
  if x1 = p1 then
    (m_gI s0 1 t0 1).bind fun x4 =>
    if x4 = p2 then
      some (1, s0)
    else
      some (0, s0)
  else
    some (0, s0)
set_option maxHeartbeats 4000000 in
set_option maxRecDepth 100000 in
theorem c_X1_isOf (l : Launch) (D : va_G) (tc : Nat → ClassId) (b : Nat) (t0 : Nat) (p1 : Int32) (p2 : Int32) (s0 st' : MS) (r : Int32) (h : f_X1_isOf t0 p1 p2 s0 = some (r, st')) : Met l yX1_isOf wsX1_isOf ({ frames := 0, cells := 0, slots := 0, locals := 0 }) (m_Pc D vwCl (m_tys tc) b s0 [.ref t0, .int p1, .int p2]) (m_Q D vwCl (m_tys tc) b (some (.int r)) st') 0 0 (m_A b) := by
  unfold f_X1_isOf at h
  refine m_met (cc := cX1_isOf) (maxL := 3) (ret := (some .boolean)) (by decide) rfl (by first | exact Nat.le_of_ble_eq_true rfl | simp [lg_sl, m_rfc, m_catI, m_catL, m_catA]) ?_
  intro p e s m below meth c ls S hr hlk hnm hK hP hl hS
  replace hl : lv_has ls 3 [(0, .ref t0), (1, .int p1), (2, .int p2)] := by first | exact hl | simpa [lv_args, m_rfc, m_catI, m_catL, m_catA] using hl
  refine lv_aload_n S.1 S.2.1 dX1_isOf_0 rfl (lv_at hl 0 rfl) ?_
  obtain ⟨x1, e2, h⟩ := m_bs h
  refine m_get (ci := 1) (k := 0) (T := TX1) (N := 6) S (inX1 _) hK hP (m_gI_s e2) rfl (by decide) (S.2.2.2.2 (.fieldLink RX1 23 "RuleHouse2$RuleClass" "edition" "I") (m_mem (by decide +kernel))) rfl dX1_isOf_1 ?_
  refine lv_iload_n S.1 S.2.1 dX1_isOf_4 rfl (lv_at hl 1 rfl) ?_
  refine lv_icmp_ne (tgt := 20) S.1 S.2.1 dX1_isOf_5 (by decide) (fun c3 => ?_) (fun c3 => ?_)
  · replace h := m_f c3 h
    refine lv_iconst (v := 0) S.1 S.2.1 dX1_isOf_20 (by decide) ?_
    obtain ⟨h1, h2⟩ := m_fin h; subst h1; subst h2
    exact m_zret S hr hlk hK hP hS (by decide) (by decide +kernel) (by decide +kernel) dX1_isOf_21
  · replace h := m_t c3 h
    refine lv_aload_n S.1 S.2.1 dX1_isOf_8 rfl (lv_at hl 0 rfl) ?_
    obtain ⟨x4, e5, h⟩ := m_bs h
    refine m_get (ci := 1) (k := 1) (T := TX1) (N := 6) S (inX1 _) hK hP (m_gI_s e5) rfl (by decide) (S.2.2.2.2 (.fieldLink RX1 26 "RuleHouse2$RuleClass" "does" "I") (m_mem (by decide +kernel))) rfl dX1_isOf_9 ?_
    refine lv_iload_n S.1 S.2.1 dX1_isOf_12 rfl (lv_at hl 2 rfl) ?_
    refine lv_icmp_ne (tgt := 20) S.1 S.2.1 dX1_isOf_13 (by decide) (fun c6 => ?_) (fun c6 => ?_)
    · replace h := m_f c6 h
      refine lv_iconst (v := 0) S.1 S.2.1 dX1_isOf_20 (by decide) ?_
      obtain ⟨h1, h2⟩ := m_fin h; subst h1; subst h2
      exact m_zret S hr hlk hK hP hS (by decide) (by decide +kernel) (by decide +kernel) dX1_isOf_21
    · replace h := m_t c6 h
      refine lv_iconst (v := 1) S.1 S.2.1 dX1_isOf_16 (by decide) ?_
      refine lv_goto (tgt := 21) S.1 S.2.1 dX1_isOf_17 (by decide) ?_
      obtain ⟨h1, h2⟩ := m_fin h; subst h1; subst h2
      exact m_zret S hr hlk hK hP hS (by decide) (by decide +kernel) (by decide +kernel) dX1_isOf_21

def f_X0_findClass_L2 : Nat → Int32 → Nat → Int32 → Int32 → MS → Option (Option Nat × MS)
  | 0, _, _, _, _, _ => none
  | f + 1, q3, q0, q1, q2, s0 =>
    (m_gI s0 0 q0 2).bind fun x1 =>
    if x1 ≤ q3 then
      some (none, s0)
    else
      (m_is s0 0 q0).bind fun _ =>
      m_b (f_X0_classAt q0 q3 s0) fun r4 s5 =>
      m_nn r4
        (f_X0_findClass_L2 f (q3 + 1) q0 q1 q2 s5)
        (fun a8 =>
        (m_is s5 1 a8).bind fun _ =>
        m_b (f_X1_isOf a8 q1 q2 s5) fun x9 s10 =>
        if x9 = 0 then
          f_X0_findClass_L2 f (q3 + 1) q0 q1 q2 s10
        else
          some ((some a8), s10))
def f_X0_findClass (t0 : Nat) (p1 : Int32) (p2 : Int32) (s0 : MS) : Option (Option Nat × MS) :=
  f_X0_findClass_L2 64 0 t0 p1 p2 s0
set_option maxHeartbeats 4000000 in
set_option maxRecDepth 100000 in
theorem w_X0_findClass_L2 {p : Program} {l : Launch} {e : Env} {s : State} {m : MethodId} {args : Array Value} {below : List Frame} {meth : Method} {c : Code} (D : va_G) (tc : Nat → ClassId) (b : Nat) (S : CallFix p m c cX0_findClass 5 s args wsX0_findClass RX0) (hr : meth.sig.returnType = (some (.object "RuleHouse2$RuleClass"))) (hlk : meth.locks = false) (hK : va_K D vwCl (m_tys tc) s) :
    ∀ (f : Nat) (q3 : Int32) (q0 : Nat) (q1 : Int32) (q2 : Int32) (s0 st' : MS) (r : Option Nat) (h : f_X0_findClass_L2 f q3 q0 q1 q2 s0 = some (r, st')) (H : Heap) (locs : List Loc) (ls : Array Slot) (hP : mw D vwCl (m_tys tc) b s0 H) (hS : va_S (m_A b) s.heap H locs) (hl : lv_has ls 5 [(3, .int q3), (0, .ref q0), (1, .int q1), (2, .int q2)]), W p l e { frames := 2, cells := 0, slots := 0, locals := 42 } s m args below meth c H locs 0 0 (MQ below (m_Q D vwCl (m_tys tc) b (some (va_rf r)) st') args s 0 0 (m_A b)) (F0 m 2 ls []) := by
  intro f
  induction f with
  | zero =>
    intro q3 q0 q1 q2 s0 st' r h
    cases h
  | succ f ih =>
    intro q3 q0 q1 q2 s0 st' r h H locs ls hP hS hl
    rw [f_X0_findClass_L2] at h
    refine lv_iload_n S.1 S.2.1 dX0_findClass_2 rfl (lv_at hl 0 rfl) ?_
    refine lv_aload_n S.1 S.2.1 dX0_findClass_3 rfl (lv_at hl 1 rfl) ?_
    obtain ⟨x1, e2, h⟩ := m_bs h
    refine m_get (ci := 0) (k := 2) (T := TX0) (N := 10) S (inX0 _) hK hP (m_gI_s e2) rfl (by decide) (S.2.2.2.2 (.fieldLink RX0 15 "RuleHouse2" "ruleCount" "I") (m_mem (by decide +kernel))) rfl dX0_findClass_4 ?_
    refine lv_icmp_ge (tgt := 41) S.1 S.2.1 dX0_findClass_7 (by decide) (fun c3 => ?_) (fun c3 => ?_)
    · replace h := m_t c3 h
      refine lv_null S.1 S.2.1 dX0_findClass_41 ?_
      obtain ⟨h1, h2⟩ := m_fin h; subst h1; subst h2
      exact m_aret (r := none) S hr hlk hK hP hS (by decide +kernel) (by decide +kernel) dX0_findClass_42
    · replace h := m_f c3 h
      refine lv_aload_n S.1 S.2.1 dX0_findClass_10 rfl (lv_at hl 1 rfl) ?_
      refine lv_iload_n S.1 S.2.1 dX0_findClass_11 rfl (lv_at hl 0 rfl) ?_
      obtain ⟨_, k7, h⟩ := m_bs h
      obtain ⟨r4, s5, e6, h⟩ := m_b_s h
      refine m_callr (va_runV (As := [.int q3]) (rest := []) S (c_X0_classAt l D tc b q0 q3 _ _ _ e6) (cwV 1 S.2.2.2.2 (m_wV kX0_classAt (by decide +kernel)) rfl rfl rfl (by decide +kernel) ⟨by decide +kernel, by decide +kernel⟩) (m_preV hK hP (m_is_s k7) rfl) rfl rfl hl.1 rfl (lv_room (by first | decide | simp [m_rfc, m_catI, m_catL, m_catA])) dX0_findClass_12 ⟨by decide +kernel, by decide +kernel⟩) hS (fun H locs hP hS => ?_)
      refine m_astore (i := 4) (lv' := [(4, va_rf r4), (3, .int q3), (0, .ref q0), (1, .int q1), (2, .int q2)]) S.1 S.2.1 dX0_findClass_15 hl (by decide) (by first | rfl | simp [m_rfc, m_catI, m_catL, m_catA]) (fun ls hl => ?_)
      refine m_aload S.1 S.2.1 dX0_findClass_17 (lv_at hl 0 rfl) ?_
      rcases r4 with _ | a8
      · replace h := m_nn0 h
        refine lv_ifnullN (tgt := 35) S.1 S.2.1 dX0_findClass_19 (by decide) ?_
        refine lv_iinc (v := q3 + 1) (lv' := [(3, .int (q3 + 1)), (4, .null), (0, .ref q0), (1, .int q1), (2, .int q2)]) S.1 S.2.1 dX0_findClass_35 hl (k := 1) rfl rfl (by decide) (by first | rfl | simp [m_rfc, m_catI, m_catL, m_catA]) (fun ls hl => ?_)
        refine lv_goto (tgt := 2) S.1 S.2.1 dX0_findClass_38 (by decide) ?_
        exact ih (q3 + 1) q0 q1 q2 _ _ _ h _ _ _ hP hS (lv_sub hl [0, 2, 3, 4] rfl)
      · replace h := m_nn1 h
        refine lv_ifnull S.1 S.2.1 dX0_findClass_19 ?_
        refine lv_aload S.1 S.2.1 dX0_findClass_22 (lv_at hl 0 rfl) ?_
        refine lv_iload_n S.1 S.2.1 dX0_findClass_24 rfl (lv_at hl 3 rfl) ?_
        refine lv_iload_n S.1 S.2.1 dX0_findClass_25 rfl (lv_at hl 4 rfl) ?_
        obtain ⟨_, k12, h⟩ := m_bs h
        obtain ⟨x9, s10, e11, h⟩ := m_b_s h
        refine m_calli (va_runV (As := [.int q1, .int q2]) (rest := []) S (c_X1_isOf l D tc b a8 q1 q2 _ _ _ e11) (cwV 2 S.2.2.2.2 (m_wV kX1_isOf (by decide +kernel)) rfl rfl rfl (by decide +kernel) ⟨by decide +kernel, by decide +kernel⟩) (m_preV hK hP (m_is_s k12) rfl) rfl rfl hl.1 rfl (lv_room (by first | decide | simp [m_rfc, m_catI, m_catL, m_catA])) dX0_findClass_26 ⟨by decide +kernel, by decide +kernel⟩) hS (fun H locs hP hS => ?_)
        refine lv_if_eq (tgt := 35) S.1 S.2.1 dX0_findClass_29 (by decide) (fun c13 => ?_) (fun c13 => ?_)
        · replace h := m_t c13 h
          refine lv_iinc (v := q3 + 1) (lv' := [(3, .int (q3 + 1)), (4, .ref a8), (0, .ref q0), (1, .int q1), (2, .int q2)]) S.1 S.2.1 dX0_findClass_35 hl (k := 1) rfl rfl (by decide) (by first | rfl | simp [m_rfc, m_catI, m_catL, m_catA]) (fun ls hl => ?_)
          refine lv_goto (tgt := 2) S.1 S.2.1 dX0_findClass_38 (by decide) ?_
          exact ih (q3 + 1) q0 q1 q2 _ _ _ h _ _ _ hP hS (lv_sub hl [0, 2, 3, 4] rfl)
        · replace h := m_f c13 h
          refine lv_aload S.1 S.2.1 dX0_findClass_32 (lv_at hl 0 rfl) ?_
          obtain ⟨h1, h2⟩ := m_fin h; subst h1; subst h2
          exact m_aret (r := (some a8)) S hr hlk hK hP hS (by decide +kernel) (by decide +kernel) dX0_findClass_34
set_option maxHeartbeats 4000000 in
set_option maxRecDepth 100000 in
theorem c_X0_findClass (l : Launch) (D : va_G) (tc : Nat → ClassId) (b : Nat) (t0 : Nat) (p1 : Int32) (p2 : Int32) (s0 st' : MS) (r : Option Nat) (h : f_X0_findClass t0 p1 p2 s0 = some (r, st')) : Met l yX0_findClass wsX0_findClass ({ frames := 2, cells := 0, slots := 0, locals := 42 }) (m_Pc D vwCl (m_tys tc) b s0 [.ref t0, .int p1, .int p2]) (m_Q D vwCl (m_tys tc) b (some (va_rf r)) st') 0 0 (m_A b) := by
  unfold f_X0_findClass at h
  refine m_met (cc := cX0_findClass) (maxL := 5) (ret := (some (.object "RuleHouse2$RuleClass"))) (by decide) rfl (by first | exact Nat.le_of_ble_eq_true rfl | simp [lg_sl, m_rfc, m_catI, m_catL, m_catA]) ?_
  intro p e s m below meth c ls S hr hlk hnm hK hP hl hS
  replace hl : lv_has ls 5 [(0, .ref t0), (1, .int p1), (2, .int p2)] := by first | exact hl | simpa [lv_args, m_rfc, m_catI, m_catL, m_catA] using hl
  refine lv_iconst (v := 0) S.1 S.2.1 dX0_findClass_0 (by decide) ?_
  refine lv_istore_n (i := 3) (lv' := [(3, .int 0), (0, .ref t0), (1, .int p1), (2, .int p2)]) S.1 S.2.1 dX0_findClass_1 rfl hl (by decide) (by first | rfl | simp [m_rfc, m_catI, m_catL, m_catA]) (fun ls hl => ?_)
  exact w_X0_findClass_L2 D tc b S hr hlk hK 64 0 t0 p1 p2 _ _ _ h _ _ _ hP hS (lv_sub hl [0, 1, 2, 3] rfl)

def f_X1_init (t0 : Nat) (p1 : Int32) (p2 : Int32) (p3 : Int32) (s0 : MS) : Option (Unit × MS) :=
  (m_p s0 1 t0 3 (.int 0)).bind fun s1 =>
  (m_p s1 1 t0 4 (.int (-1))).bind fun s3 =>
  (m_p s3 1 t0 5 (.long 0)).bind fun s5 =>
  (m_p s5 1 t0 0 (.int p1)).bind fun s7 =>
  (m_p s7 1 t0 1 (.int p2)).bind fun s9 =>
  (m_z p3).bind fun z13 =>
  (m_p s9 1 t0 2 (.int p3)).bind fun s11 =>
  some ((), s11)
set_option maxHeartbeats 4000000 in
set_option maxRecDepth 100000 in
theorem c_X1_init (l : Launch) (D : va_G) (tc : Nat → ClassId) (b : Nat) (t0 : Nat) (p1 : Int32) (p2 : Int32) (p3 : Int32) (s0 st' : MS) (r : Unit) (h : f_X1_init t0 p1 p2 p3 s0 = some (r, st')) : Met l yX1_init wsX1_init ({ frames := 1, cells := 0, slots := 0, locals := 12 }) (m_Pc D vwCl (m_tys tc) b s0 [.ref t0, .int p1, .int p2, .int p3]) (m_Q D vwCl (m_tys tc) b none st') 0 0 (m_A b) := by
  unfold f_X1_init at h
  refine m_met (cc := cX1_init) (maxL := 4) (ret := none) (by decide) rfl (by first | exact Nat.le_of_ble_eq_true rfl | simp [lg_sl, m_rfc, m_catI, m_catL, m_catA]) ?_
  intro p e s m below meth c ls S hr hlk hnm hK hP hl hS
  replace hl : lv_has ls 4 [(0, .ref t0), (1, .int p1), (2, .int p2), (3, .int p3)] := by first | exact hl | simpa [lv_args, m_rfc, m_catI, m_catL, m_catA] using hl
  refine lv_aload_n S.1 S.2.1 dX1_init_0 rfl (lv_at hl 0 rfl) ?_
  refine W.objInit S.1 S.2.1 S.2.2.2.1 (S.2.2.2.2 (.methodLink RX1 3 objectInit) (m_mem (by decide +kernel))) (S.2.2.2.2 (.instanceMethod objectInit) (m_mem (by decide +kernel))) (S.2.2.2.2 (.code objectInit ⟨#[0xb1]⟩ 1 none) (m_mem (by decide +kernel))) rfl (by rw [S.2.2.1]; exact hl.1) rfl dX1_init_1 (Nat.le_of_ble_eq_true rfl) (Nat.le_of_ble_eq_true rfl) ?_
  refine W.eq (g2 := F0 m 4 ls []) rfl ?_
  refine lv_aload_n S.1 S.2.1 dX1_init_4 rfl (lv_at hl 0 rfl) ?_
  refine lv_iconst (v := 0) S.1 S.2.1 dX1_init_5 (by decide) ?_
  obtain ⟨s1, e2, h⟩ := m_bs h
  refine m_put (ci := 1) (k := 3) (T := TX1) (N := 6) (v := .int 0) (ty := .boolean) S (inX1 _) tyX1 tX1 nX1 hK hP hS e2 rfl (by decide) (S.2.2.2.2 (.fieldLink RX1 9 "RuleHouse2$RuleClass" "made" "Z") (m_mem (by decide +kernel))) rfl rfl (by decide +kernel) (by decide) rfl dX1_init_6 (fun H locs hP hS => ?_)
  refine lv_aload_n S.1 S.2.1 dX1_init_9 rfl (lv_at hl 0 rfl) ?_
  refine lv_iconst (v := (-1)) S.1 S.2.1 dX1_init_10 (by decide) ?_
  obtain ⟨s3, e4, h⟩ := m_bs h
  refine m_put (ci := 1) (k := 4) (T := TX1) (N := 6) (v := .int (-1)) (ty := .int) S (inX1 _) tyX1 tX1 nX1 hK hP hS e4 rfl (by decide) (S.2.2.2.2 (.fieldLink RX1 15 "RuleHouse2$RuleClass" "number" "I") (m_mem (by decide +kernel))) rfl rfl (by decide +kernel) rfl rfl dX1_init_11 (fun H locs hP hS => ?_)
  refine lv_aload_n S.1 S.2.1 dX1_init_14 rfl (lv_at hl 0 rfl) ?_
  refine lv_lconst (v := 0) S.1 S.2.1 dX1_init_15 (by decide) ?_
  obtain ⟨s5, e6, h⟩ := m_bs h
  refine m_put (ci := 1) (k := 5) (T := TX1) (N := 6) (v := .long 0) (ty := .long) S (inX1 _) tyX1 tX1 nX1 hK hP hS e6 rfl (by decide) (S.2.2.2.2 (.fieldLink RX1 19 "RuleHouse2$RuleClass" "cell" "J") (m_mem (by decide +kernel))) rfl rfl (by decide +kernel) rfl rfl dX1_init_16 (fun H locs hP hS => ?_)
  refine lv_aload_n S.1 S.2.1 dX1_init_19 rfl (lv_at hl 0 rfl) ?_
  refine lv_iload_n S.1 S.2.1 dX1_init_20 rfl (lv_at hl 1 rfl) ?_
  obtain ⟨s7, e8, h⟩ := m_bs h
  refine m_putF (ci := 1) (k := 0) (T := TX1) (N := 6) (v := .int p1) (ty := .int) S (inX1 _) tyX1 tX1 nX1 hK hP hS e8 rfl (by decide) (S.2.2.2.2 (.fieldLink RX1 23 "RuleHouse2$RuleClass" "edition" "I") (m_mem (by decide +kernel))) rfl rfl hnm rfl (by decide +kernel) rfl rfl dX1_init_21 (fun H locs hP hS => ?_)
  refine lv_aload_n S.1 S.2.1 dX1_init_24 rfl (lv_at hl 0 rfl) ?_
  refine lv_iload_n S.1 S.2.1 dX1_init_25 rfl (lv_at hl 2 rfl) ?_
  obtain ⟨s9, e10, h⟩ := m_bs h
  refine m_putF (ci := 1) (k := 1) (T := TX1) (N := 6) (v := .int p2) (ty := .int) S (inX1 _) tyX1 tX1 nX1 hK hP hS e10 rfl (by decide) (S.2.2.2.2 (.fieldLink RX1 26 "RuleHouse2$RuleClass" "does" "I") (m_mem (by decide +kernel))) rfl rfl hnm rfl (by decide +kernel) rfl rfl dX1_init_26 (fun H locs hP hS => ?_)
  refine lv_aload_n S.1 S.2.1 dX1_init_29 rfl (lv_at hl 0 rfl) ?_
  refine lv_iload_n S.1 S.2.1 dX1_init_30 rfl (lv_at hl 3 rfl) ?_
  obtain ⟨z13, e14, h⟩ := m_bs h
  obtain ⟨hz, ne14⟩ := m_z_s e14; subst hz
  obtain ⟨s11, e12, h⟩ := m_bs h
  refine m_putF (ci := 1) (k := 2) (T := TX1) (N := 6) (v := .int p3) (ty := .boolean) S (inX1 _) tyX1 tX1 nX1 hK hP hS e12 rfl (by decide) (S.2.2.2.2 (.fieldLink RX1 29 "RuleHouse2$RuleClass" "startFails" "Z") (m_mem (by decide +kernel))) rfl rfl hnm rfl (by decide +kernel) ne14.1 ne14.2 dX1_init_31 (fun H locs hP hS => ?_)
  obtain ⟨h1, h2⟩ := m_fin h; subst h1; subst h2
  exact m_vret S hr hlk hK hP hS (by decide +kernel) (by decide +kernel) dX1_init_34

def f_X0_rule (t0 : Nat) (p1 : Int32) (p2 : Int32) (p3 : Int32) (s0 : MS) : Option (Int32 × MS) :=
  m_b (f_X0_isWithin p1 3 s0) fun x1 s2 =>
  if x1 = 0 then
    some ((-2), s2)
  else
    m_b (f_X0_isWithin p2 255 s2) fun x5 s6 =>
    if x5 = 0 then
      some ((-2), s6)
    else
      (m_gI s6 0 t0 2).bind fun x9 =>
      if x9 < 16 then
        (m_is s6 0 t0).bind fun _ =>
        m_b (f_X0_findClass t0 p1 p2 s6) fun r12 s13 =>
        (m_gR s13 0 t0 1).bind fun r16 =>
        (m_gI s13 0 t0 2).bind fun x18 =>
        m_nn r12
          (m_nw s13 (.inl 1) (fun j => defaultValue (tyX1 j)) fun a21 s22 =>
          m_b (f_X1_init a21 p1 p2 p3 s22) fun u24 s25 =>
          r16.bind fun a27 =>
          (m_is s25 1 a21).bind fun _ =>
          (m_ap s25 3 a27 x18 (.ref a21)).bind fun s28 =>
          (m_gI s28 0 t0 2).bind fun x31 =>
          (m_p s28 0 t0 2 (.int (x31 + 1))).bind fun s33 =>
          (m_gI s33 0 t0 2).bind fun x35 =>
          some (x35 - 1, s33))
          (fun a20 =>
          r16.bind fun a37 =>
          (m_is s13 1 a20).bind fun _ =>
          (m_ap s13 3 a37 x18 (.ref a20)).bind fun s38 =>
          (m_gI s38 0 t0 2).bind fun x41 =>
          (m_p s38 0 t0 2 (.int (x41 + 1))).bind fun s43 =>
          (m_gI s43 0 t0 2).bind fun x45 =>
          some (x45 - 1, s43))
      else
        some ((-4), s6)
set_option maxHeartbeats 4000000 in
set_option maxRecDepth 100000 in
theorem c_X0_rule (l : Launch) (D : va_G) (tc : Nat → ClassId) (b : Nat) (t0 : Nat) (p1 : Int32) (p2 : Int32) (p3 : Int32) (s0 st' : MS) (r : Int32) (h : f_X0_rule t0 p1 p2 p3 s0 = some (r, st')) : Met l yX0_rule wsX0_rule ({ frames := 3, cells := 1, slots := 6, locals := 66 }) (m_Pc D vwCl (m_tys tc) b s0 [.ref t0, .int p1, .int p2, .int p3]) (m_Q D vwCl (m_tys tc) b (some (.int r)) st') 1 6 (m_A b) := by
  unfold f_X0_rule at h
  refine m_met (cc := cX0_rule) (maxL := 5) (ret := (some .int)) (by decide) rfl (by first | exact Nat.le_of_ble_eq_true rfl | simp [lg_sl, m_rfc, m_catI, m_catL, m_catA]) ?_
  intro p e s m below meth c ls S hr hlk hnm hK hP hl hS
  replace hl : lv_has ls 5 [(0, .ref t0), (1, .int p1), (2, .int p2), (3, .int p3)] := by first | exact hl | simpa [lv_args, m_rfc, m_catI, m_catL, m_catA] using hl
  refine lv_iload_n S.1 S.2.1 dX0_rule_0 rfl (lv_at hl 1 rfl) ?_
  refine lv_iconst (v := 3) S.1 S.2.1 dX0_rule_1 (by decide) ?_
  obtain ⟨x1, s2, e3, h⟩ := m_b_s h
  refine m_calli (va_runS (As := [.int p1, .int 3]) (rest := []) S (c_X0_isWithin l D tc b p1 3 _ _ _ e3) (cwS 2 S.2.2.2.2 (m_wS kX0_isWithin (by decide +kernel)) rfl rfl rfl (by decide +kernel) ⟨by decide +kernel, by decide +kernel⟩) (m_preS hK hP) rfl rfl hl.1 rfl (lv_room (by first | decide | simp [m_rfc, m_catI, m_catL, m_catA])) dX0_rule_2 ⟨by decide +kernel, by decide +kernel⟩) hS (fun H locs hP hS => ?_)
  refine lv_if_eq (tgt := 18) S.1 S.2.1 dX0_rule_5 (by decide) (fun c4 => ?_) (fun c4 => ?_)
  · replace h := m_t c4 h
    refine lv_bipush (v := (-2)) S.1 S.2.1 dX0_rule_18 (by decide) ?_
    obtain ⟨h1, h2⟩ := m_fin h; subst h1; subst h2
    exact m_iret S hr hlk hK hP hS (by decide +kernel) (by decide +kernel) dX0_rule_20
  · replace h := m_f c4 h
    refine lv_iload_n S.1 S.2.1 dX0_rule_8 rfl (lv_at hl 2 rfl) ?_
    refine lv_sipush (v := 255) S.1 S.2.1 dX0_rule_9 (by decide) ?_
    obtain ⟨x5, s6, e7, h⟩ := m_b_s h
    refine m_calli (va_runS (As := [.int p2, .int 255]) (rest := []) S (c_X0_isWithin l D tc b p2 255 _ _ _ e7) (cwS 2 S.2.2.2.2 (m_wS kX0_isWithin (by decide +kernel)) rfl rfl rfl (by decide +kernel) ⟨by decide +kernel, by decide +kernel⟩) (m_preS hK hP) rfl rfl hl.1 rfl (lv_room (by first | decide | simp [m_rfc, m_catI, m_catL, m_catA])) dX0_rule_12 ⟨by decide +kernel, by decide +kernel⟩) hS (fun H locs hP hS => ?_)
    refine lv_if_ne (tgt := 21) S.1 S.2.1 dX0_rule_15 (by decide) (fun c8 => ?_) (fun c8 => ?_)
    · replace h := m_f c8 h
      refine lv_aload_n S.1 S.2.1 dX0_rule_21 rfl (lv_at hl 0 rfl) ?_
      obtain ⟨x9, e10, h⟩ := m_bs h
      refine m_get (ci := 0) (k := 2) (T := TX0) (N := 10) S (inX0 _) hK hP (m_gI_s e10) rfl (by decide) (S.2.2.2.2 (.fieldLink RX0 15 "RuleHouse2" "ruleCount" "I") (m_mem (by decide +kernel))) rfl dX0_rule_22 ?_
      refine lv_bipush (v := 16) S.1 S.2.1 dX0_rule_25 (by decide) ?_
      refine lv_icmp_lt (tgt := 33) S.1 S.2.1 dX0_rule_27 (by decide) (fun c11 => ?_) (fun c11 => ?_)
      · replace h := m_t c11 h
        refine lv_aload_n S.1 S.2.1 dX0_rule_33 rfl (lv_at hl 0 rfl) ?_
        refine lv_iload_n S.1 S.2.1 dX0_rule_34 rfl (lv_at hl 1 rfl) ?_
        refine lv_iload_n S.1 S.2.1 dX0_rule_35 rfl (lv_at hl 2 rfl) ?_
        obtain ⟨_, k15, h⟩ := m_bs h
        obtain ⟨r12, s13, e14, h⟩ := m_b_s h
        refine m_callr (va_runV (As := [.int p1, .int p2]) (rest := []) S (c_X0_findClass l D tc b t0 p1 p2 _ _ _ e14) (cwV 2 S.2.2.2.2 (m_wV kX0_findClass (by decide +kernel)) rfl rfl rfl (by decide +kernel) ⟨by decide +kernel, by decide +kernel⟩) (m_preV hK hP (m_is_s k15) rfl) rfl rfl hl.1 rfl (lv_room (by first | decide | simp [m_rfc, m_catI, m_catL, m_catA])) dX0_rule_36 ⟨by decide +kernel, by decide +kernel⟩) hS (fun H locs hP hS => ?_)
        refine m_astore (i := 4) (lv' := [(4, va_rf r12), (0, .ref t0), (1, .int p1), (2, .int p2), (3, .int p3)]) S.1 S.2.1 dX0_rule_39 hl (by decide) (by first | rfl | simp [m_rfc, m_catI, m_catL, m_catA]) (fun ls hl => ?_)
        refine lv_aload_n S.1 S.2.1 dX0_rule_41 rfl (lv_at hl 1 rfl) ?_
        obtain ⟨r16, e17, h⟩ := m_bs h
        refine m_get (ci := 0) (k := 1) (T := TX0) (N := 10) S (inX0 _) hK hP (m_gR_s e17) rfl (by decide) (S.2.2.2.2 (.fieldLink RX0 11 "RuleHouse2" "classOfRule" "[LRuleHouse2$RuleClass;") (m_mem (by decide +kernel))) rfl dX0_rule_42 ?_
        refine lv_aload_n S.1 S.2.1 dX0_rule_45 rfl (lv_at hl 1 rfl) ?_
        obtain ⟨x18, e19, h⟩ := m_bs h
        refine m_get (ci := 0) (k := 2) (T := TX0) (N := 10) S (inX0 _) hK hP (m_gI_s e19) rfl (by decide) (S.2.2.2.2 (.fieldLink RX0 15 "RuleHouse2" "ruleCount" "I") (m_mem (by decide +kernel))) rfl dX0_rule_46 ?_
        refine m_aload S.1 S.2.1 dX0_rule_49 (lv_at hl 0 rfl) ?_
        rcases r12 with _ | a20
        · replace h := m_nn0 h
          refine lv_ifnullN (tgt := 59) S.1 S.2.1 dX0_rule_51 (by decide) ?_
          obtain ⟨a21, s22, e23, h⟩ := m_nw_s h
          refine m_new (ci := 1) S (inX1 _) tyX1 tX1 (S.2.2.2.2 (.classLink RX0 9 RX1) (m_mem (by decide +kernel))) (S.2.2.2.2 (.instantiable RX1 6) (m_mem (by decide +kernel))) (S.2.2.2.2 (.initialized RX1) (m_mem (by decide +kernel))) hK hP hS rfl e23 (by decide +kernel) (by decide +kernel) dX0_rule_59 (fun H hP hS => ?_)
          refine lv_dup S.1 S.2.1 dX0_rule_62 rfl ?_
          refine lv_iload_n S.1 S.2.1 dX0_rule_63 rfl (lv_at hl 2 rfl) ?_
          refine lv_iload_n S.1 S.2.1 dX0_rule_64 rfl (lv_at hl 3 rfl) ?_
          refine lv_iload_n S.1 S.2.1 dX0_rule_65 rfl (lv_at hl 4 rfl) ?_
          obtain ⟨u24, s25, e26, h⟩ := m_b_s h
          refine m_callv (va_runI (As := [.int p1, .int p2, .int p3]) (rest := [.ref a21, .int x18, va_rf r16]) S (c_X1_init l D tc b a21 p1 p2 p3 _ _ _ e26) (cwI 3 S.2.2.2.2 (m_wI kX1_init) rfl rfl rfl (S.2.2.2.2 (.initialized RX1) (m_mem (by decide +kernel))) (S.2.2.2.2 (.methodLink RX0 65 yX1_init) (m_mem (by decide +kernel))) (S.2.2.2.2 (.instanceMethod yX1_init) (m_mem (by decide +kernel))) rfl (by decide +kernel) ⟨by decide +kernel, by decide +kernel⟩) (m_preS hK hP) rfl rfl hl.1 rfl (lv_room (by first | decide | simp [m_rfc, m_catI, m_catL, m_catA])) dX0_rule_66 ⟨by decide +kernel, by decide +kernel⟩) hS (fun H locs hP hS => ?_)
          obtain ⟨a27, ea, g⟩ := m_bs h; clear h; subst ea; have h := g; clear g
          obtain ⟨_, k30, h⟩ := m_bs h
          obtain ⟨s28, e29, h⟩ := m_bs h
          refine m_aast (t := 3) S hK hP hS e29 (by decide) (m_is_s k30) rfl rfl dX0_rule_69 (fun H locs hP hS => ?_)
          refine lv_aload_n S.1 S.2.1 dX0_rule_70 rfl (lv_at hl 1 rfl) ?_
          refine lv_dup S.1 S.2.1 dX0_rule_71 rfl ?_
          obtain ⟨x31, e32, h⟩ := m_bs h
          refine m_get (ci := 0) (k := 2) (T := TX0) (N := 10) S (inX0 _) hK hP (m_gI_s e32) rfl (by decide) (S.2.2.2.2 (.fieldLink RX0 15 "RuleHouse2" "ruleCount" "I") (m_mem (by decide +kernel))) rfl dX0_rule_72 ?_
          refine lv_iconst (v := 1) S.1 S.2.1 dX0_rule_75 (by decide) ?_
          refine lv_iadd S.1 S.2.1 dX0_rule_76 ?_
          obtain ⟨s33, e34, h⟩ := m_bs h
          refine m_put (ci := 0) (k := 2) (T := TX0) (N := 10) (v := .int (x31 + 1)) (ty := .int) S (inX0 _) tyX0 tX0 nX0 hK hP hS e34 rfl (by decide) (S.2.2.2.2 (.fieldLink RX0 15 "RuleHouse2" "ruleCount" "I") (m_mem (by decide +kernel))) rfl rfl (by decide +kernel) rfl rfl dX0_rule_77 (fun H locs hP hS => ?_)
          refine lv_aload_n S.1 S.2.1 dX0_rule_80 rfl (lv_at hl 1 rfl) ?_
          obtain ⟨x35, e36, h⟩ := m_bs h
          refine m_get (ci := 0) (k := 2) (T := TX0) (N := 10) S (inX0 _) hK hP (m_gI_s e36) rfl (by decide) (S.2.2.2.2 (.fieldLink RX0 15 "RuleHouse2" "ruleCount" "I") (m_mem (by decide +kernel))) rfl dX0_rule_81 ?_
          refine lv_iconst (v := 1) S.1 S.2.1 dX0_rule_84 (by decide) ?_
          refine lv_isub S.1 S.2.1 dX0_rule_85 ?_
          obtain ⟨h1, h2⟩ := m_fin h; subst h1; subst h2
          exact m_iret S hr hlk hK hP hS (by decide +kernel) (by decide +kernel) dX0_rule_86
        · replace h := m_nn1 h
          refine lv_ifnull S.1 S.2.1 dX0_rule_51 ?_
          refine lv_aload S.1 S.2.1 dX0_rule_54 (lv_at hl 0 rfl) ?_
          refine lv_goto (tgt := 69) S.1 S.2.1 dX0_rule_56 (by decide) ?_
          obtain ⟨a37, ea, g⟩ := m_bs h; clear h; subst ea; have h := g; clear g
          obtain ⟨_, k40, h⟩ := m_bs h
          obtain ⟨s38, e39, h⟩ := m_bs h
          refine m_aast (t := 3) S hK hP hS e39 (by decide) (m_is_s k40) rfl rfl dX0_rule_69 (fun H locs hP hS => ?_)
          refine lv_aload_n S.1 S.2.1 dX0_rule_70 rfl (lv_at hl 1 rfl) ?_
          refine lv_dup S.1 S.2.1 dX0_rule_71 rfl ?_
          obtain ⟨x41, e42, h⟩ := m_bs h
          refine m_get (ci := 0) (k := 2) (T := TX0) (N := 10) S (inX0 _) hK hP (m_gI_s e42) rfl (by decide) (S.2.2.2.2 (.fieldLink RX0 15 "RuleHouse2" "ruleCount" "I") (m_mem (by decide +kernel))) rfl dX0_rule_72 ?_
          refine lv_iconst (v := 1) S.1 S.2.1 dX0_rule_75 (by decide) ?_
          refine lv_iadd S.1 S.2.1 dX0_rule_76 ?_
          obtain ⟨s43, e44, h⟩ := m_bs h
          refine m_put (ci := 0) (k := 2) (T := TX0) (N := 10) (v := .int (x41 + 1)) (ty := .int) S (inX0 _) tyX0 tX0 nX0 hK hP hS e44 rfl (by decide) (S.2.2.2.2 (.fieldLink RX0 15 "RuleHouse2" "ruleCount" "I") (m_mem (by decide +kernel))) rfl rfl (by decide +kernel) rfl rfl dX0_rule_77 (fun H locs hP hS => ?_)
          refine lv_aload_n S.1 S.2.1 dX0_rule_80 rfl (lv_at hl 1 rfl) ?_
          obtain ⟨x45, e46, h⟩ := m_bs h
          refine m_get (ci := 0) (k := 2) (T := TX0) (N := 10) S (inX0 _) hK hP (m_gI_s e46) rfl (by decide) (S.2.2.2.2 (.fieldLink RX0 15 "RuleHouse2" "ruleCount" "I") (m_mem (by decide +kernel))) rfl dX0_rule_81 ?_
          refine lv_iconst (v := 1) S.1 S.2.1 dX0_rule_84 (by decide) ?_
          refine lv_isub S.1 S.2.1 dX0_rule_85 ?_
          obtain ⟨h1, h2⟩ := m_fin h; subst h1; subst h2
          exact m_iret S hr hlk hK hP hS (by decide +kernel) (by decide +kernel) dX0_rule_86
      · replace h := m_f c11 h
        refine lv_bipush (v := (-4)) S.1 S.2.1 dX0_rule_30 (by decide) ?_
        obtain ⟨h1, h2⟩ := m_fin h; subst h1; subst h2
        exact m_iret S hr hlk hK hP hS (by decide +kernel) (by decide +kernel) dX0_rule_32
    · replace h := m_t c8 h
      refine lv_bipush (v := (-2)) S.1 S.2.1 dX0_rule_18 (by decide) ?_
      obtain ⟨h1, h2⟩ := m_fin h; subst h1; subst h2
      exact m_iret S hr hlk hK hP hS (by decide +kernel) (by decide +kernel) dX0_rule_20

def f_X0_ensureMade (t0 : Nat) (p1 : Option Nat) (s0 : MS) : Option (Int32 × MS) :=
  p1.bind fun a1 =>
  (m_gI s0 1 a1 3).bind fun x2 =>
  if x2 = 0 then
    (m_gI s0 1 a1 2).bind fun x9 =>
    if x9 = 0 then
      (m_p s0 1 a1 3 (.int 1)).bind fun s16 =>
      (m_gI s16 0 t0 3).bind fun x18 =>
      (m_p s16 1 a1 4 (.int x18)).bind fun s20 =>
      (m_gI s20 0 t0 3).bind fun x22 =>
      (m_p s20 0 t0 3 (.int (x22 + 1))).bind fun s24 =>
      (m_gI s24 1 a1 3).bind fun x26 =>
      (m_z x26).bind fun z28 =>
      some (z28, s24)
    else
      (m_gI s0 1 a1 3).bind fun x12 =>
      (m_z x12).bind fun z14 =>
      some (z14, s0)
  else
    (m_gI s0 1 a1 3).bind fun x5 =>
    (m_z x5).bind fun z7 =>
    some (z7, s0)
set_option maxHeartbeats 4000000 in
set_option maxRecDepth 100000 in
theorem c_X0_ensureMade (l : Launch) (D : va_G) (tc : Nat → ClassId) (b : Nat) (t0 : Nat) (p1 : Option Nat) (s0 st' : MS) (r : Int32) (h : f_X0_ensureMade t0 p1 s0 = some (r, st')) : Met l yX0_ensureMade wsX0_ensureMade ({ frames := 0, cells := 0, slots := 0, locals := 0 }) (m_Pc D vwCl (m_tys tc) b s0 [.ref t0, va_rf p1]) (m_Q D vwCl (m_tys tc) b (some (.int r)) st') 0 0 (m_A b) := by
  unfold f_X0_ensureMade at h
  refine m_met (cc := cX0_ensureMade) (maxL := 2) (ret := (some .boolean)) (by decide) rfl (by first | exact Nat.le_of_ble_eq_true rfl | simp [lg_sl, m_rfc, m_catI, m_catL, m_catA]) ?_
  intro p e s m below meth c ls S hr hlk hnm hK hP hl hS
  replace hl : lv_has ls 2 [(0, .ref t0), (1, va_rf p1)] := by first | exact hl | simpa [lv_args, m_rfc, m_catI, m_catL, m_catA] using hl
  refine m_aload_n S.1 S.2.1 dX0_ensureMade_0 rfl (lv_at hl 1 rfl) ?_
  obtain ⟨a1, ea, g⟩ := m_bs h; clear h; subst ea; have h := g; clear g
  obtain ⟨x2, e3, h⟩ := m_bs h
  refine m_get (ci := 1) (k := 3) (T := TX1) (N := 6) S (inX1 _) hK hP (m_gI_s e3) rfl (by decide) (S.2.2.2.2 (.fieldLink RX0 123 "RuleHouse2$RuleClass" "made" "Z") (m_mem (by decide +kernel))) rfl dX0_ensureMade_1 ?_
  refine lv_if_ne (tgt := 37) S.1 S.2.1 dX0_ensureMade_4 (by decide) (fun c4 => ?_) (fun c4 => ?_)
  · replace h := m_f c4 h
    refine lv_aload_n S.1 S.2.1 dX0_ensureMade_37 rfl (lv_at hl 1 rfl) ?_
    obtain ⟨x5, e6, h⟩ := m_bs h
    refine m_get (ci := 1) (k := 3) (T := TX1) (N := 6) S (inX1 _) hK hP (m_gI_s e6) rfl (by decide) (S.2.2.2.2 (.fieldLink RX0 123 "RuleHouse2$RuleClass" "made" "Z") (m_mem (by decide +kernel))) rfl dX0_ensureMade_38 ?_
    obtain ⟨z7, e8, h⟩ := m_bs h
    obtain ⟨hz, ne8⟩ := m_z_s e8; subst hz
    obtain ⟨h1, h2⟩ := m_fin h; subst h1; subst h2
    exact m_zret S hr hlk hK hP hS ne8.1 (by decide +kernel) (by decide +kernel) dX0_ensureMade_41
  · replace h := m_t c4 h
    refine lv_aload_n S.1 S.2.1 dX0_ensureMade_7 rfl (lv_at hl 1 rfl) ?_
    obtain ⟨x9, e10, h⟩ := m_bs h
    refine m_get (ci := 1) (k := 2) (T := TX1) (N := 6) S (inX1 _) hK hP (m_gI_s e10) rfl (by decide) (S.2.2.2.2 (.fieldLink RX0 153 "RuleHouse2$RuleClass" "startFails" "Z") (m_mem (by decide +kernel))) rfl dX0_ensureMade_8 ?_
    refine lv_if_ne (tgt := 37) S.1 S.2.1 dX0_ensureMade_11 (by decide) (fun c11 => ?_) (fun c11 => ?_)
    · replace h := m_f c11 h
      refine lv_aload_n S.1 S.2.1 dX0_ensureMade_37 rfl (lv_at hl 1 rfl) ?_
      obtain ⟨x12, e13, h⟩ := m_bs h
      refine m_get (ci := 1) (k := 3) (T := TX1) (N := 6) S (inX1 _) hK hP (m_gI_s e13) rfl (by decide) (S.2.2.2.2 (.fieldLink RX0 123 "RuleHouse2$RuleClass" "made" "Z") (m_mem (by decide +kernel))) rfl dX0_ensureMade_38 ?_
      obtain ⟨z14, e15, h⟩ := m_bs h
      obtain ⟨hz, ne15⟩ := m_z_s e15; subst hz
      obtain ⟨h1, h2⟩ := m_fin h; subst h1; subst h2
      exact m_zret S hr hlk hK hP hS ne15.1 (by decide +kernel) (by decide +kernel) dX0_ensureMade_41
    · replace h := m_t c11 h
      refine lv_aload_n S.1 S.2.1 dX0_ensureMade_14 rfl (lv_at hl 1 rfl) ?_
      refine lv_iconst (v := 1) S.1 S.2.1 dX0_ensureMade_15 (by decide) ?_
      obtain ⟨s16, e17, h⟩ := m_bs h
      refine m_put (ci := 1) (k := 3) (T := TX1) (N := 6) (v := .int 1) (ty := .boolean) S (inX1 _) tyX1 tX1 nX1 hK hP hS e17 rfl (by decide) (S.2.2.2.2 (.fieldLink RX0 123 "RuleHouse2$RuleClass" "made" "Z") (m_mem (by decide +kernel))) rfl rfl (by decide +kernel) (by decide) rfl dX0_ensureMade_16 (fun H locs hP hS => ?_)
      refine lv_aload_n S.1 S.2.1 dX0_ensureMade_19 rfl (lv_at hl 1 rfl) ?_
      refine lv_aload_n S.1 S.2.1 dX0_ensureMade_20 rfl (lv_at hl 0 rfl) ?_
      obtain ⟨x18, e19, h⟩ := m_bs h
      refine m_get (ci := 0) (k := 3) (T := TX0) (N := 10) S (inX0 _) hK hP (m_gI_s e19) rfl (by decide) (S.2.2.2.2 (.fieldLink RX0 19 "RuleHouse2" "madeCount" "I") (m_mem (by decide +kernel))) rfl dX0_ensureMade_21 ?_
      obtain ⟨s20, e21, h⟩ := m_bs h
      refine m_put (ci := 1) (k := 4) (T := TX1) (N := 6) (v := .int x18) (ty := .int) S (inX1 _) tyX1 tX1 nX1 hK hP hS e21 rfl (by decide) (S.2.2.2.2 (.fieldLink RX0 76 "RuleHouse2$RuleClass" "number" "I") (m_mem (by decide +kernel))) rfl rfl (by decide +kernel) rfl rfl dX0_ensureMade_24 (fun H locs hP hS => ?_)
      refine lv_aload_n S.1 S.2.1 dX0_ensureMade_27 rfl (lv_at hl 0 rfl) ?_
      refine lv_dup S.1 S.2.1 dX0_ensureMade_28 rfl ?_
      obtain ⟨x22, e23, h⟩ := m_bs h
      refine m_get (ci := 0) (k := 3) (T := TX0) (N := 10) S (inX0 _) hK hP (m_gI_s e23) rfl (by decide) (S.2.2.2.2 (.fieldLink RX0 19 "RuleHouse2" "madeCount" "I") (m_mem (by decide +kernel))) rfl dX0_ensureMade_29 ?_
      refine lv_iconst (v := 1) S.1 S.2.1 dX0_ensureMade_32 (by decide) ?_
      refine lv_iadd S.1 S.2.1 dX0_ensureMade_33 ?_
      obtain ⟨s24, e25, h⟩ := m_bs h
      refine m_put (ci := 0) (k := 3) (T := TX0) (N := 10) (v := .int (x22 + 1)) (ty := .int) S (inX0 _) tyX0 tX0 nX0 hK hP hS e25 rfl (by decide) (S.2.2.2.2 (.fieldLink RX0 19 "RuleHouse2" "madeCount" "I") (m_mem (by decide +kernel))) rfl rfl (by decide +kernel) rfl rfl dX0_ensureMade_34 (fun H locs hP hS => ?_)
      refine lv_aload_n S.1 S.2.1 dX0_ensureMade_37 rfl (lv_at hl 1 rfl) ?_
      obtain ⟨x26, e27, h⟩ := m_bs h
      refine m_get (ci := 1) (k := 3) (T := TX1) (N := 6) S (inX1 _) hK hP (m_gI_s e27) rfl (by decide) (S.2.2.2.2 (.fieldLink RX0 123 "RuleHouse2$RuleClass" "made" "Z") (m_mem (by decide +kernel))) rfl dX0_ensureMade_38 ?_
      obtain ⟨z28, e29, h⟩ := m_bs h
      obtain ⟨hz, ne29⟩ := m_z_s e29; subst hz
      obtain ⟨h1, h2⟩ := m_fin h; subst h1; subst h2
      exact m_zret S hr hlk hK hP hS ne29.1 (by decide +kernel) (by decide +kernel) dX0_ensureMade_41

def f_X0_make (t0 : Nat) (p1 : Int32) (s0 : MS) : Option (Int32 × MS) :=
  (m_is s0 0 t0).bind fun _ =>
  m_b (f_X0_classAt t0 p1 s0) fun r1 s2 =>
  m_nn r1
    (some ((-1), s2))
    (fun a5 =>
    (m_is s2 0 t0).bind fun _ =>
    m_b (f_X0_ensureMade t0 (some a5) s2) fun x6 s7 =>
    if x6 = 0 then
      some ((-1), s7)
    else
      (m_gI s7 1 a5 4).bind fun x11 =>
      some (x11, s7))
set_option maxHeartbeats 4000000 in
set_option maxRecDepth 100000 in
theorem c_X0_make (l : Launch) (D : va_G) (tc : Nat → ClassId) (b : Nat) (t0 : Nat) (p1 : Int32) (s0 st' : MS) (r : Int32) (h : f_X0_make t0 p1 s0 = some (r, st')) : Met l yX0_make wsX0_make ({ frames := 2, cells := 0, slots := 0, locals := 42 }) (m_Pc D vwCl (m_tys tc) b s0 [.ref t0, .int p1]) (m_Q D vwCl (m_tys tc) b (some (.int r)) st') 0 0 (m_A b) := by
  unfold f_X0_make at h
  refine m_met (cc := cX0_make) (maxL := 3) (ret := (some .int)) (by decide) rfl (by first | exact Nat.le_of_ble_eq_true rfl | simp [lg_sl, m_rfc, m_catI, m_catL, m_catA]) ?_
  intro p e s m below meth c ls S hr hlk hnm hK hP hl hS
  replace hl : lv_has ls 3 [(0, .ref t0), (1, .int p1)] := by first | exact hl | simpa [lv_args, m_rfc, m_catI, m_catL, m_catA] using hl
  refine lv_aload_n S.1 S.2.1 dX0_make_0 rfl (lv_at hl 0 rfl) ?_
  refine lv_iload_n S.1 S.2.1 dX0_make_1 rfl (lv_at hl 1 rfl) ?_
  obtain ⟨_, k4, h⟩ := m_bs h
  obtain ⟨r1, s2, e3, h⟩ := m_b_s h
  refine m_callr (va_runV (As := [.int p1]) (rest := []) S (c_X0_classAt l D tc b t0 p1 _ _ _ e3) (cwV 1 S.2.2.2.2 (m_wV kX0_classAt (by decide +kernel)) rfl rfl rfl (by decide +kernel) ⟨by decide +kernel, by decide +kernel⟩) (m_preV hK hP (m_is_s k4) rfl) rfl rfl hl.1 rfl (lv_room (by first | decide | simp [m_rfc, m_catI, m_catL, m_catA])) dX0_make_2 ⟨by decide +kernel, by decide +kernel⟩) hS (fun H locs hP hS => ?_)
  refine m_astore_n (i := 2) (lv' := [(2, va_rf r1), (0, .ref t0), (1, .int p1)]) S.1 S.2.1 dX0_make_5 rfl hl (by decide) (by first | rfl | simp [m_rfc, m_catI, m_catL, m_catA]) (fun ls hl => ?_)
  refine m_aload_n S.1 S.2.1 dX0_make_6 rfl (lv_at hl 0 rfl) ?_
  rcases r1 with _ | a5
  · replace h := m_nn0 h
    refine lv_ifnullN (tgt := 18) S.1 S.2.1 dX0_make_7 (by decide) ?_
    refine lv_iconst (v := (-1)) S.1 S.2.1 dX0_make_18 (by decide) ?_
    obtain ⟨h1, h2⟩ := m_fin h; subst h1; subst h2
    exact m_iret S hr hlk hK hP hS (by decide +kernel) (by decide +kernel) dX0_make_19
  · replace h := m_nn1 h
    refine lv_ifnull S.1 S.2.1 dX0_make_7 ?_
    refine lv_aload_n S.1 S.2.1 dX0_make_10 rfl (lv_at hl 1 rfl) ?_
    refine lv_aload_n S.1 S.2.1 dX0_make_11 rfl (lv_at hl 0 rfl) ?_
    obtain ⟨_, k9, h⟩ := m_bs h
    obtain ⟨x6, s7, e8, h⟩ := m_b_s h
    refine m_calli (va_runV (As := [va_rf (some a5)]) (rest := []) S (c_X0_ensureMade l D tc b t0 (some a5) _ _ _ e8) (cwV 1 S.2.2.2.2 (m_wV kX0_ensureMade (by decide +kernel)) rfl rfl rfl (by decide +kernel) ⟨by decide +kernel, by decide +kernel⟩) (m_preV hK hP (m_is_s k9) rfl) rfl rfl hl.1 rfl (lv_room (by first | decide | simp [m_rfc, m_catI, m_catL, m_catA])) dX0_make_12 ⟨by decide +kernel, by decide +kernel⟩) hS (fun H locs hP hS => ?_)
    refine lv_if_ne (tgt := 20) S.1 S.2.1 dX0_make_15 (by decide) (fun c10 => ?_) (fun c10 => ?_)
    · replace h := m_f c10 h
      refine lv_aload_n S.1 S.2.1 dX0_make_20 rfl (lv_at hl 0 rfl) ?_
      obtain ⟨x11, e12, h⟩ := m_bs h
      refine m_get (ci := 1) (k := 4) (T := TX1) (N := 6) S (inX1 _) hK hP (m_gI_s e12) rfl (by decide) (S.2.2.2.2 (.fieldLink RX0 76 "RuleHouse2$RuleClass" "number" "I") (m_mem (by decide +kernel))) rfl dX0_make_21 ?_
      obtain ⟨h1, h2⟩ := m_fin h; subst h1; subst h2
      exact m_iret S hr hlk hK hP hS (by decide +kernel) (by decide +kernel) dX0_make_24
    · replace h := m_t c10 h
      refine lv_iconst (v := (-1)) S.1 S.2.1 dX0_make_18 (by decide) ?_
      obtain ⟨h1, h2⟩ := m_fin h; subst h1; subst h2
      exact m_iret S hr hlk hK hP hS (by decide +kernel) (by decide +kernel) dX0_make_19

def f_X0_targetAt (t0 : Nat) (p1 : Int32) (s0 : MS) : Option (Option Nat × MS) :=
  (m_gI s0 0 t0 5).bind fun x1 =>
  m_b (f_X0_isWithin p1 (x1 - 1) s0) fun x3 s4 =>
  if x3 = 0 then
    some (none, s4)
  else
    (m_gR s4 0 t0 4).bind fun r7 =>
    r7.bind fun a9 =>
    (m_aR s4 4 a9 p1).bind fun r10 =>
    some (r10, s4)
set_option maxHeartbeats 4000000 in
set_option maxRecDepth 100000 in
theorem c_X0_targetAt (l : Launch) (D : va_G) (tc : Nat → ClassId) (b : Nat) (t0 : Nat) (p1 : Int32) (s0 st' : MS) (r : Option Nat) (h : f_X0_targetAt t0 p1 s0 = some (r, st')) : Met l yX0_targetAt wsX0_targetAt ({ frames := 1, cells := 0, slots := 0, locals := 21 }) (m_Pc D vwCl (m_tys tc) b s0 [.ref t0, .int p1]) (m_Q D vwCl (m_tys tc) b (some (va_rf r)) st') 0 0 (m_A b) := by
  unfold f_X0_targetAt at h
  refine m_met (cc := cX0_targetAt) (maxL := 2) (ret := (some (.object "RuleHouse2$Target"))) (by decide) rfl (by first | exact Nat.le_of_ble_eq_true rfl | simp [lg_sl, m_rfc, m_catI, m_catL, m_catA]) ?_
  intro p e s m below meth c ls S hr hlk hnm hK hP hl hS
  replace hl : lv_has ls 2 [(0, .ref t0), (1, .int p1)] := by first | exact hl | simpa [lv_args, m_rfc, m_catI, m_catL, m_catA] using hl
  refine lv_iload_n S.1 S.2.1 dX0_targetAt_0 rfl (lv_at hl 1 rfl) ?_
  refine lv_aload_n S.1 S.2.1 dX0_targetAt_1 rfl (lv_at hl 0 rfl) ?_
  obtain ⟨x1, e2, h⟩ := m_bs h
  refine m_get (ci := 0) (k := 5) (T := TX0) (N := 10) S (inX0 _) hK hP (m_gI_s e2) rfl (by decide) (S.2.2.2.2 (.fieldLink RX0 28 "RuleHouse2" "targetCount" "I") (m_mem (by decide +kernel))) rfl dX0_targetAt_2 ?_
  refine lv_iconst (v := 1) S.1 S.2.1 dX0_targetAt_5 (by decide) ?_
  refine lv_isub S.1 S.2.1 dX0_targetAt_6 ?_
  obtain ⟨x3, s4, e5, h⟩ := m_b_s h
  refine m_calli (va_runS (As := [.int p1, .int (x1 - 1)]) (rest := []) S (c_X0_isWithin l D tc b p1 (x1 - 1) _ _ _ e5) (cwS 2 S.2.2.2.2 (m_wS kX0_isWithin (by decide +kernel)) rfl rfl rfl (by decide +kernel) ⟨by decide +kernel, by decide +kernel⟩) (m_preS hK hP) rfl rfl hl.1 rfl (lv_room (by first | decide | simp [m_rfc, m_catI, m_catL, m_catA])) dX0_targetAt_7 ⟨by decide +kernel, by decide +kernel⟩) hS (fun H locs hP hS => ?_)
  refine lv_if_eq (tgt := 22) S.1 S.2.1 dX0_targetAt_10 (by decide) (fun c6 => ?_) (fun c6 => ?_)
  · replace h := m_t c6 h
    refine lv_null S.1 S.2.1 dX0_targetAt_22 ?_
    obtain ⟨h1, h2⟩ := m_fin h; subst h1; subst h2
    exact m_aret (r := none) S hr hlk hK hP hS (by decide +kernel) (by decide +kernel) dX0_targetAt_23
  · replace h := m_f c6 h
    refine lv_aload_n S.1 S.2.1 dX0_targetAt_13 rfl (lv_at hl 0 rfl) ?_
    obtain ⟨r7, e8, h⟩ := m_bs h
    refine m_get (ci := 0) (k := 4) (T := TX0) (N := 10) S (inX0 _) hK hP (m_gR_s e8) rfl (by decide) (S.2.2.2.2 (.fieldLink RX0 24 "RuleHouse2" "targets" "[LRuleHouse2$Target;") (m_mem (by decide +kernel))) rfl dX0_targetAt_14 ?_
    refine lv_iload_n S.1 S.2.1 dX0_targetAt_17 rfl (lv_at hl 1 rfl) ?_
    obtain ⟨a9, ea, g⟩ := m_bs h; clear h; subst ea; have h := g; clear g
    obtain ⟨r10, e11, h⟩ := m_bs h
    refine m_aald (t := 4) S hK hP (m_aR_s e11) rfl dX0_targetAt_18 ?_
    refine lv_goto (tgt := 23) S.1 S.2.1 dX0_targetAt_19 (by decide) ?_
    obtain ⟨h1, h2⟩ := m_fin h; subst h1; subst h2
    exact m_aret (r := r10) S hr hlk hK hP hS (by decide +kernel) (by decide +kernel) dX0_targetAt_23

def f_X0_mayBecome (p1 : Option Nat) (p2 : Int32) (p3 : Int32) (s0 : MS) : Option (Int32 × MS) :=
  if p2 = 0 then
    m_b (f_X0_isWithin p3 20 s0) fun x2 s3 =>
    (m_z x2).bind fun z5 =>
    some (z5, s3)
  else if p2 = 1 then
    some (1, s0)
  else if p2 = 2 then
    p1.bind fun a9 =>
    (m_gI s0 2 a9 0).bind fun x10 =>
    m_b (f_X0_isWithin p3 x10 s0) fun x12 s13 =>
    (m_z x12).bind fun z15 =>
    some (z15, s13)
  else if p2 = 3 then
    m_b (f_X0_isWithin p3 1 s0) fun x18 s19 =>
    (m_z x18).bind fun z21 =>
    some (z21, s19)
  else some (1, s0)
set_option maxHeartbeats 4000000 in
set_option maxRecDepth 100000 in
theorem c_X0_mayBecome (l : Launch) (D : va_G) (tc : Nat → ClassId) (b : Nat) (p1 : Option Nat) (p2 : Int32) (p3 : Int32) (s0 st' : MS) (r : Int32) (h : f_X0_mayBecome p1 p2 p3 s0 = some (r, st')) : Met l yX0_mayBecome wsX0_mayBecome ({ frames := 1, cells := 0, slots := 0, locals := 21 }) (m_Pc D vwCl (m_tys tc) b s0 [va_rf p1, .int p2, .int p3]) (m_Q D vwCl (m_tys tc) b (some (.int r)) st') 0 0 (m_A b) := by
  unfold f_X0_mayBecome at h
  refine m_met (cc := cX0_mayBecome) (maxL := 3) (ret := (some .boolean)) (by decide) rfl (by first | exact Nat.le_of_ble_eq_true rfl | simp [lg_sl, m_rfc, m_catI, m_catL, m_catA]) ?_
  intro p e s m below meth c ls S hr hlk hnm hK hP hl hS
  replace hl : lv_has ls 3 [(0, va_rf p1), (1, .int p2), (2, .int p3)] := by first | exact hl | simpa [lv_args, m_rfc, m_catI, m_catL, m_catA] using hl
  refine lv_iload_n S.1 S.2.1 dX0_mayBecome_0 rfl (lv_at hl 1 rfl) ?_
  by_cases c1 : p2 = 0
  · replace h := m_t c1 h
    refine lv_tableIn (tgt := 32) S.1 S.2.1 dX0_mayBecome_1 (by rw [c1]; decide) (by rw [c1]; decide) (by rw [c1]; rfl) (by decide) ?_
    refine lv_iload_n S.1 S.2.1 dX0_mayBecome_32 rfl (lv_at hl 2 rfl) ?_
    refine lv_bipush (v := 20) S.1 S.2.1 dX0_mayBecome_33 (by decide) ?_
    obtain ⟨x2, s3, e4, h⟩ := m_b_s h
    refine m_calli (va_runS (As := [.int p3, .int 20]) (rest := []) S (c_X0_isWithin l D tc b p3 20 _ _ _ e4) (cwS 2 S.2.2.2.2 (m_wS kX0_isWithin (by decide +kernel)) rfl rfl rfl (by decide +kernel) ⟨by decide +kernel, by decide +kernel⟩) (m_preS hK hP) rfl rfl hl.1 rfl (lv_room (by first | decide | simp [m_rfc, m_catI, m_catL, m_catA])) dX0_mayBecome_35 ⟨by decide +kernel, by decide +kernel⟩) hS (fun H locs hP hS => ?_)
    obtain ⟨z5, e6, h⟩ := m_bs h
    obtain ⟨hz, ne6⟩ := m_z_s e6; subst hz
    obtain ⟨h1, h2⟩ := m_fin h; subst h1; subst h2
    exact m_zret S hr hlk hK hP hS ne6.1 (by decide +kernel) (by decide +kernel) dX0_mayBecome_38
  replace h := m_f c1 h
  by_cases c7 : p2 = 1
  · replace h := m_t c7 h
    refine lv_tableIn (tgt := 54) S.1 S.2.1 dX0_mayBecome_1 (by rw [c7]; decide) (by rw [c7]; decide) (by rw [c7]; rfl) (by decide) ?_
    refine lv_iconst (v := 1) S.1 S.2.1 dX0_mayBecome_54 (by decide) ?_
    obtain ⟨h1, h2⟩ := m_fin h; subst h1; subst h2
    exact m_zret S hr hlk hK hP hS (by decide) (by decide +kernel) (by decide +kernel) dX0_mayBecome_55
  replace h := m_f c7 h
  by_cases c8 : p2 = 2
  · replace h := m_t c8 h
    refine lv_tableIn (tgt := 39) S.1 S.2.1 dX0_mayBecome_1 (by rw [c8]; decide) (by rw [c8]; decide) (by rw [c8]; rfl) (by decide) ?_
    refine lv_iload_n S.1 S.2.1 dX0_mayBecome_39 rfl (lv_at hl 2 rfl) ?_
    refine m_aload_n S.1 S.2.1 dX0_mayBecome_40 rfl (lv_at hl 0 rfl) ?_
    obtain ⟨a9, ea, g⟩ := m_bs h; clear h; subst ea; have h := g; clear g
    obtain ⟨x10, e11, h⟩ := m_bs h
    refine m_get (ci := 2) (k := 0) (T := TX2) (N := 12) S (inX2 _) hK hP (m_gI_s e11) rfl (by decide) (S.2.2.2.2 (.fieldLink RX0 156 "RuleHouse2$Target" "number" "I") (m_mem (by decide +kernel))) rfl dX0_mayBecome_41 ?_
    obtain ⟨x12, s13, e14, h⟩ := m_b_s h
    refine m_calli (va_runS (As := [.int p3, .int x10]) (rest := []) S (c_X0_isWithin l D tc b p3 x10 _ _ _ e14) (cwS 2 S.2.2.2.2 (m_wS kX0_isWithin (by decide +kernel)) rfl rfl rfl (by decide +kernel) ⟨by decide +kernel, by decide +kernel⟩) (m_preS hK hP) rfl rfl hl.1 rfl (lv_room (by first | decide | simp [m_rfc, m_catI, m_catL, m_catA])) dX0_mayBecome_44 ⟨by decide +kernel, by decide +kernel⟩) hS (fun H locs hP hS => ?_)
    obtain ⟨z15, e16, h⟩ := m_bs h
    obtain ⟨hz, ne16⟩ := m_z_s e16; subst hz
    obtain ⟨h1, h2⟩ := m_fin h; subst h1; subst h2
    exact m_zret S hr hlk hK hP hS ne16.1 (by decide +kernel) (by decide +kernel) dX0_mayBecome_47
  replace h := m_f c8 h
  by_cases c17 : p2 = 3
  · replace h := m_t c17 h
    refine lv_tableIn (tgt := 48) S.1 S.2.1 dX0_mayBecome_1 (by rw [c17]; decide) (by rw [c17]; decide) (by rw [c17]; rfl) (by decide) ?_
    refine lv_iload_n S.1 S.2.1 dX0_mayBecome_48 rfl (lv_at hl 2 rfl) ?_
    refine lv_iconst (v := 1) S.1 S.2.1 dX0_mayBecome_49 (by decide) ?_
    obtain ⟨x18, s19, e20, h⟩ := m_b_s h
    refine m_calli (va_runS (As := [.int p3, .int 1]) (rest := []) S (c_X0_isWithin l D tc b p3 1 _ _ _ e20) (cwS 2 S.2.2.2.2 (m_wS kX0_isWithin (by decide +kernel)) rfl rfl rfl (by decide +kernel) ⟨by decide +kernel, by decide +kernel⟩) (m_preS hK hP) rfl rfl hl.1 rfl (lv_room (by first | decide | simp [m_rfc, m_catI, m_catL, m_catA])) dX0_mayBecome_50 ⟨by decide +kernel, by decide +kernel⟩) hS (fun H locs hP hS => ?_)
    obtain ⟨z21, e22, h⟩ := m_bs h
    obtain ⟨hz, ne22⟩ := m_z_s e22; subst hz
    obtain ⟨h1, h2⟩ := m_fin h; subst h1; subst h2
    exact m_zret S hr hlk hK hP hS ne22.1 (by decide +kernel) (by decide +kernel) dX0_mayBecome_53
  replace h := m_f c17 h
  have nc17 := (⟨lv_neT (a := 0) c1 (by decide), lv_neT (a := 1) c7 (by decide), lv_neT (a := 2) c8 (by decide), lv_neT (a := 3) c17 (by decide)⟩ : ¬ (p2).toInt = 0 ∧ ¬ (p2).toInt = 1 ∧ ¬ (p2).toInt = 2 ∧ ¬ (p2).toInt = 3)
  refine lv_tableOut (tgt := 54) S.1 S.2.1 dX0_mayBecome_1 (by omega) (by decide) ?_
  refine lv_iconst (v := 1) S.1 S.2.1 dX0_mayBecome_54 (by decide) ?_
  obtain ⟨h1, h2⟩ := m_fin h; subst h1; subst h2
  exact m_zret S hr hlk hK hP hS (by decide) (by decide +kernel) (by decide +kernel) dX0_mayBecome_55
end
section
def f_X0_attribute (t0 : Nat) (p1 : Int32) (p2 : Int32) (p3 : Int32) (s0 : MS) : Option (Int32 × MS) :=
  (m_is s0 0 t0).bind fun _ =>
  m_b (f_X0_targetAt t0 p1 s0) fun r1 s2 =>
  m_nn r1
    (some ((-1), s2))
    (fun a5 =>
    m_b (f_X0_isWithin p2 3 s2) fun x6 s7 =>
    if x6 = 0 then
      some ((-1), s7)
    else
      m_b (f_X0_mayBecome (some a5) p2 p3 s7) fun x10 s11 =>
      if x10 = 0 then
        some ((-2), s11)
      else
        (m_gI s11 2 a5 5).bind fun x14 =>
        if x14 = 0 then
          (m_gR s11 2 a5 2).bind fun r17 =>
          r17.bind fun a19 =>
          (m_aI s11 1 a19 p2).bind fun x20 =>
          (m_gR s11 2 a5 2).bind fun r22 =>
          r22.bind fun a24 =>
          (m_ap s11 1 a24 p2 (.int p3)).bind fun s25 =>
          some (x20, s25)
        else
          some ((-3), s11))
set_option maxHeartbeats 4000000 in
set_option maxRecDepth 100000 in
theorem c_X0_attribute (l : Launch) (D : va_G) (tc : Nat → ClassId) (b : Nat) (t0 : Nat) (p1 : Int32) (p2 : Int32) (p3 : Int32) (s0 st' : MS) (r : Int32) (h : f_X0_attribute t0 p1 p2 p3 s0 = some (r, st')) : Met l yX0_attribute wsX0_attribute ({ frames := 2, cells := 0, slots := 0, locals := 43 }) (m_Pc D vwCl (m_tys tc) b s0 [.ref t0, .int p1, .int p2, .int p3]) (m_Q D vwCl (m_tys tc) b (some (.int r)) st') 0 0 (m_A b) := by
  unfold f_X0_attribute at h
  refine m_met (cc := cX0_attribute) (maxL := 6) (ret := (some .int)) (by decide) rfl (by first | exact Nat.le_of_ble_eq_true rfl | simp [lg_sl, m_rfc, m_catI, m_catL, m_catA]) ?_
  intro p e s m below meth c ls S hr hlk hnm hK hP hl hS
  replace hl : lv_has ls 6 [(0, .ref t0), (1, .int p1), (2, .int p2), (3, .int p3)] := by first | exact hl | simpa [lv_args, m_rfc, m_catI, m_catL, m_catA] using hl
  refine lv_aload_n S.1 S.2.1 dX0_attribute_0 rfl (lv_at hl 0 rfl) ?_
  refine lv_iload_n S.1 S.2.1 dX0_attribute_1 rfl (lv_at hl 1 rfl) ?_
  obtain ⟨_, k4, h⟩ := m_bs h
  obtain ⟨r1, s2, e3, h⟩ := m_b_s h
  refine m_callr (va_runV (As := [.int p1]) (rest := []) S (c_X0_targetAt l D tc b t0 p1 _ _ _ e3) (cwV 1 S.2.2.2.2 (m_wV kX0_targetAt (by decide +kernel)) rfl rfl rfl (by decide +kernel) ⟨by decide +kernel, by decide +kernel⟩) (m_preV hK hP (m_is_s k4) rfl) rfl rfl hl.1 rfl (lv_room (by first | decide | simp [m_rfc, m_catI, m_catL, m_catA])) dX0_attribute_2 ⟨by decide +kernel, by decide +kernel⟩) hS (fun H locs hP hS => ?_)
  refine m_astore (i := 4) (lv' := [(4, va_rf r1), (0, .ref t0), (1, .int p1), (2, .int p2), (3, .int p3)]) S.1 S.2.1 dX0_attribute_5 hl (by decide) (by first | rfl | simp [m_rfc, m_catI, m_catL, m_catA]) (fun ls hl => ?_)
  refine m_aload S.1 S.2.1 dX0_attribute_7 (lv_at hl 0 rfl) ?_
  rcases r1 with _ | a5
  · replace h := m_nn0 h
    refine lv_ifnullN (tgt := 20) S.1 S.2.1 dX0_attribute_9 (by decide) ?_
    refine lv_iconst (v := (-1)) S.1 S.2.1 dX0_attribute_20 (by decide) ?_
    obtain ⟨h1, h2⟩ := m_fin h; subst h1; subst h2
    exact m_iret S hr hlk hK hP hS (by decide +kernel) (by decide +kernel) dX0_attribute_21
  · replace h := m_nn1 h
    refine lv_ifnull S.1 S.2.1 dX0_attribute_9 ?_
    refine lv_iload_n S.1 S.2.1 dX0_attribute_12 rfl (lv_at hl 3 rfl) ?_
    refine lv_iconst (v := 3) S.1 S.2.1 dX0_attribute_13 (by decide) ?_
    obtain ⟨x6, s7, e8, h⟩ := m_b_s h
    refine m_calli (va_runS (As := [.int p2, .int 3]) (rest := []) S (c_X0_isWithin l D tc b p2 3 _ _ _ e8) (cwS 2 S.2.2.2.2 (m_wS kX0_isWithin (by decide +kernel)) rfl rfl rfl (by decide +kernel) ⟨by decide +kernel, by decide +kernel⟩) (m_preS hK hP) rfl rfl hl.1 rfl (lv_room (by first | decide | simp [m_rfc, m_catI, m_catL, m_catA])) dX0_attribute_14 ⟨by decide +kernel, by decide +kernel⟩) hS (fun H locs hP hS => ?_)
    refine lv_if_ne (tgt := 22) S.1 S.2.1 dX0_attribute_17 (by decide) (fun c9 => ?_) (fun c9 => ?_)
    · replace h := m_f c9 h
      refine lv_aload S.1 S.2.1 dX0_attribute_22 (lv_at hl 0 rfl) ?_
      refine lv_iload_n S.1 S.2.1 dX0_attribute_24 rfl (lv_at hl 3 rfl) ?_
      refine lv_iload_n S.1 S.2.1 dX0_attribute_25 rfl (lv_at hl 4 rfl) ?_
      obtain ⟨x10, s11, e12, h⟩ := m_b_s h
      refine m_calli (va_runS (As := [va_rf (some a5), .int p2, .int p3]) (rest := []) S (c_X0_mayBecome l D tc b (some a5) p2 p3 _ _ _ e12) (cwS 3 S.2.2.2.2 (m_wS kX0_mayBecome (by decide +kernel)) rfl rfl rfl (by decide +kernel) ⟨by decide +kernel, by decide +kernel⟩) (m_preS hK hP) rfl rfl hl.1 rfl (lv_room (by first | decide | simp [m_rfc, m_catI, m_catL, m_catA])) dX0_attribute_26 ⟨by decide +kernel, by decide +kernel⟩) hS (fun H locs hP hS => ?_)
      refine lv_if_ne (tgt := 35) S.1 S.2.1 dX0_attribute_29 (by decide) (fun c13 => ?_) (fun c13 => ?_)
      · replace h := m_f c13 h
        refine lv_aload S.1 S.2.1 dX0_attribute_35 (lv_at hl 0 rfl) ?_
        obtain ⟨x14, e15, h⟩ := m_bs h
        refine m_get (ci := 2) (k := 5) (T := TX2) (N := 12) S (inX2 _) hK hP (m_gI_s e15) rfl (by decide) (S.2.2.2.2 (.fieldLink RX0 87 "RuleHouse2$Target" "wasRun" "Z") (m_mem (by decide +kernel))) rfl dX0_attribute_37 ?_
        refine lv_if_eq (tgt := 46) S.1 S.2.1 dX0_attribute_40 (by decide) (fun c16 => ?_) (fun c16 => ?_)
        · replace h := m_t c16 h
          refine lv_aload S.1 S.2.1 dX0_attribute_46 (lv_at hl 0 rfl) ?_
          obtain ⟨r17, e18, h⟩ := m_bs h
          refine m_get (ci := 2) (k := 2) (T := TX2) (N := 12) S (inX2 _) hK hP (m_gR_s e18) rfl (by decide) (S.2.2.2.2 (.fieldLink RX0 91 "RuleHouse2$Target" "attributes" "[I") (m_mem (by decide +kernel))) rfl dX0_attribute_48 ?_
          refine lv_iload_n S.1 S.2.1 dX0_attribute_51 rfl (lv_at hl 3 rfl) ?_
          obtain ⟨a19, ea, g⟩ := m_bs h; clear h; subst ea; have h := g; clear g
          obtain ⟨x20, e21, h⟩ := m_bs h
          refine m_iald (t := 1) S hK hP (m_aI_s e21) rfl dX0_attribute_52 ?_
          refine lv_istore (i := 5) (lv' := [(5, .int x20), (4, .ref a5), (0, .ref t0), (1, .int p1), (2, .int p2), (3, .int p3)]) S.1 S.2.1 dX0_attribute_53 hl (by decide) (by first | rfl | simp [m_rfc, m_catI, m_catL, m_catA]) (fun ls hl => ?_)
          refine lv_aload S.1 S.2.1 dX0_attribute_55 (lv_at hl 1 rfl) ?_
          obtain ⟨r22, e23, h⟩ := m_bs h
          refine m_get (ci := 2) (k := 2) (T := TX2) (N := 12) S (inX2 _) hK hP (m_gR_s e23) rfl (by decide) (S.2.2.2.2 (.fieldLink RX0 91 "RuleHouse2$Target" "attributes" "[I") (m_mem (by decide +kernel))) rfl dX0_attribute_57 ?_
          refine lv_iload_n S.1 S.2.1 dX0_attribute_60 rfl (lv_at hl 4 rfl) ?_
          refine lv_iload_n S.1 S.2.1 dX0_attribute_61 rfl (lv_at hl 5 rfl) ?_
          obtain ⟨a24, ea, g⟩ := m_bs h; clear h; subst ea; have h := g; clear g
          obtain ⟨s25, e26, h⟩ := m_bs h
          refine m_iast (t := 1) S hK hP hS e26 (by decide) rfl dX0_attribute_62 (fun H locs hP hS => ?_)
          refine lv_iload S.1 S.2.1 dX0_attribute_63 (lv_at hl 0 rfl) ?_
          obtain ⟨h1, h2⟩ := m_fin h; subst h1; subst h2
          exact m_iret S hr hlk hK hP hS (by decide +kernel) (by decide +kernel) dX0_attribute_65
        · replace h := m_f c16 h
          refine lv_bipush (v := (-3)) S.1 S.2.1 dX0_attribute_43 (by decide) ?_
          obtain ⟨h1, h2⟩ := m_fin h; subst h1; subst h2
          exact m_iret S hr hlk hK hP hS (by decide +kernel) (by decide +kernel) dX0_attribute_45
      · replace h := m_t c13 h
        refine lv_bipush (v := (-2)) S.1 S.2.1 dX0_attribute_32 (by decide) ?_
        obtain ⟨h1, h2⟩ := m_fin h; subst h1; subst h2
        exact m_iret S hr hlk hK hP hS (by decide +kernel) (by decide +kernel) dX0_attribute_34
    · replace h := m_t c9 h
      refine lv_iconst (v := (-1)) S.1 S.2.1 dX0_attribute_20 (by decide) ?_
      obtain ⟨h1, h2⟩ := m_fin h; subst h1; subst h2
      exact m_iret S hr hlk hK hP hS (by decide +kernel) (by decide +kernel) dX0_attribute_21

def f_X2_init (t0 : Nat) (p1 : Int32) (p2 : Option Nat) (s0 : MS) : Option (Unit × MS) :=
  m_nw s0 (.inr (1, 4)) (fun _ => defaultValue .int) fun a1 s2 =>
  (m_p s2 2 t0 2 (.ref a1)).bind fun s4 =>
  m_nw s4 (.inr (1, 3)) (fun _ => defaultValue .int) fun a6 s7 =>
  (m_p s7 2 t0 3 (.ref a6)).bind fun s9 =>
  m_nw s9 (.inr (2, 3)) (fun _ => defaultValue .boolean) fun a11 s12 =>
  (m_p s12 2 t0 4 (.ref a11)).bind fun s14 =>
  (m_p s14 2 t0 5 (.int 0)).bind fun s16 =>
  (m_p s16 2 t0 6 (.int 0)).bind fun s18 =>
  (m_p s18 2 t0 7 (.int 0)).bind fun s20 =>
  (m_p s20 2 t0 8 (.int 0)).bind fun s22 =>
  (m_p s22 2 t0 9 (.int 0)).bind fun s24 =>
  (m_p s24 2 t0 10 (.int 0)).bind fun s26 =>
  (m_p s26 2 t0 11 (.int 0)).bind fun s28 =>
  (m_p s28 2 t0 0 (.int p1)).bind fun s30 =>
  (m_p s30 2 t0 1 (va_rf p2)).bind fun s32 =>
  some ((), s32)
set_option maxHeartbeats 4000000 in
set_option maxRecDepth 100000 in
theorem c_X2_init (l : Launch) (D : va_G) (tc : Nat → ClassId) (b : Nat) (t0 : Nat) (p1 : Int32) (p2 : Option Nat) (s0 st' : MS) (r : Unit) (h : f_X2_init t0 p1 p2 s0 = some (r, st')) : Met l yX2_init wsX2_init ({ frames := 1, cells := 3, slots := 10, locals := 12 }) (m_Pc D vwCl (m_tys tc) b s0 [.ref t0, .int p1, va_rf p2]) (m_Q D vwCl (m_tys tc) b none st') 3 10 (m_A b) := by
  unfold f_X2_init at h
  refine m_met (cc := cX2_init) (maxL := 3) (ret := none) (by decide) rfl (by first | exact Nat.le_of_ble_eq_true rfl | simp [lg_sl, m_rfc, m_catI, m_catL, m_catA]) ?_
  intro p e s m below meth c ls S hr hlk hnm hK hP hl hS
  replace hl : lv_has ls 3 [(0, .ref t0), (1, .int p1), (2, va_rf p2)] := by first | exact hl | simpa [lv_args, m_rfc, m_catI, m_catL, m_catA] using hl
  refine lv_aload_n S.1 S.2.1 dX2_init_0 rfl (lv_at hl 0 rfl) ?_
  refine W.objInit S.1 S.2.1 S.2.2.2.1 (S.2.2.2.2 (.methodLink RX2 3 objectInit) (m_mem (by decide +kernel))) (S.2.2.2.2 (.instanceMethod objectInit) (m_mem (by decide +kernel))) (S.2.2.2.2 (.code objectInit ⟨#[0xb1]⟩ 1 none) (m_mem (by decide +kernel))) rfl (by rw [S.2.2.1]; exact hl.1) rfl dX2_init_1 (Nat.le_of_ble_eq_true rfl) (Nat.le_of_ble_eq_true rfl) ?_
  refine W.eq (g2 := F0 m 4 ls []) rfl ?_
  refine lv_aload_n S.1 S.2.1 dX2_init_4 rfl (lv_at hl 0 rfl) ?_
  refine lv_iconst (v := 4) S.1 S.2.1 dX2_init_5 (by decide) ?_
  obtain ⟨a1, s2, e3, h⟩ := m_nw_s h
  refine m_newa (t := 1) (N := 4) (i := 4) (atype := .int) (ty := .int) (cA := tc 1) S (S.2.2.2.2 (.arrayClass .int) (m_mem (by decide +kernel))) rfl hK hP hS rfl (by decide +kernel) (by decide +kernel) (by decide +kernel) (by decide +kernel) (by decide +kernel) e3 dX2_init_6 (fun H hP hS => ?_)
  obtain ⟨s4, e5, h⟩ := m_bs h
  refine m_putF (ci := 2) (k := 2) (T := TX2) (N := 12) (v := .ref a1) (ty := (.array .int)) S (inX2 _) tyX2 tX2 nX2 hK hP hS e5 rfl (by decide) (S.2.2.2.2 (.fieldLink RX2 9 "RuleHouse2$Target" "attributes" "[I") (m_mem (by decide +kernel))) rfl rfl hnm rfl (by decide +kernel) rfl rfl dX2_init_8 (fun H locs hP hS => ?_)
  refine lv_aload_n S.1 S.2.1 dX2_init_11 rfl (lv_at hl 0 rfl) ?_
  refine lv_iconst (v := 3) S.1 S.2.1 dX2_init_12 (by decide) ?_
  obtain ⟨a6, s7, e8, h⟩ := m_nw_s h
  refine m_newa (t := 1) (N := 3) (i := 3) (atype := .int) (ty := .int) (cA := tc 1) S (S.2.2.2.2 (.arrayClass .int) (m_mem (by decide +kernel))) rfl hK hP hS rfl (by decide +kernel) (by decide +kernel) (by decide +kernel) (by decide +kernel) (by decide +kernel) e8 dX2_init_13 (fun H hP hS => ?_)
  obtain ⟨s9, e10, h⟩ := m_bs h
  refine m_putF (ci := 2) (k := 3) (T := TX2) (N := 12) (v := .ref a6) (ty := (.array .int)) S (inX2 _) tyX2 tX2 nX2 hK hP hS e10 rfl (by decide) (S.2.2.2.2 (.fieldLink RX2 15 "RuleHouse2$Target" "providers" "[I") (m_mem (by decide +kernel))) rfl rfl hnm rfl (by decide +kernel) rfl rfl dX2_init_15 (fun H locs hP hS => ?_)
  refine lv_aload_n S.1 S.2.1 dX2_init_18 rfl (lv_at hl 0 rfl) ?_
  refine lv_iconst (v := 3) S.1 S.2.1 dX2_init_19 (by decide) ?_
  obtain ⟨a11, s12, e13, h⟩ := m_nw_s h
  refine m_newa (t := 2) (N := 3) (i := 3) (atype := .boolean) (ty := .boolean) (cA := tc 2) S (S.2.2.2.2 (.arrayClass .boolean) (m_mem (by decide +kernel))) rfl hK hP hS rfl (by decide +kernel) (by decide +kernel) (by decide +kernel) (by decide +kernel) (by decide +kernel) e13 dX2_init_20 (fun H hP hS => ?_)
  obtain ⟨s14, e15, h⟩ := m_bs h
  refine m_putF (ci := 2) (k := 4) (T := TX2) (N := 12) (v := .ref a11) (ty := (.array .boolean)) S (inX2 _) tyX2 tX2 nX2 hK hP hS e15 rfl (by decide) (S.2.2.2.2 (.fieldLink RX2 18 "RuleHouse2$Target" "has" "[Z") (m_mem (by decide +kernel))) rfl rfl hnm rfl (by decide +kernel) rfl rfl dX2_init_22 (fun H locs hP hS => ?_)
  refine lv_aload_n S.1 S.2.1 dX2_init_25 rfl (lv_at hl 0 rfl) ?_
  refine lv_iconst (v := 0) S.1 S.2.1 dX2_init_26 (by decide) ?_
  obtain ⟨s16, e17, h⟩ := m_bs h
  refine m_put (ci := 2) (k := 5) (T := TX2) (N := 12) (v := .int 0) (ty := .boolean) S (inX2 _) tyX2 tX2 nX2 hK hP hS e17 rfl (by decide) (S.2.2.2.2 (.fieldLink RX2 22 "RuleHouse2$Target" "wasRun" "Z") (m_mem (by decide +kernel))) rfl rfl (by decide +kernel) (by decide) rfl dX2_init_27 (fun H locs hP hS => ?_)
  refine lv_aload_n S.1 S.2.1 dX2_init_30 rfl (lv_at hl 0 rfl) ?_
  refine lv_iconst (v := 0) S.1 S.2.1 dX2_init_31 (by decide) ?_
  obtain ⟨s18, e19, h⟩ := m_bs h
  refine m_put (ci := 2) (k := 6) (T := TX2) (N := 12) (v := .int 0) (ty := .boolean) S (inX2 _) tyX2 tX2 nX2 hK hP hS e19 rfl (by decide) (S.2.2.2.2 (.fieldLink RX2 26 "RuleHouse2$Target" "outputDeclared" "Z") (m_mem (by decide +kernel))) rfl rfl (by decide +kernel) (by decide) rfl dX2_init_32 (fun H locs hP hS => ?_)
  refine lv_aload_n S.1 S.2.1 dX2_init_35 rfl (lv_at hl 0 rfl) ?_
  refine lv_iconst (v := 0) S.1 S.2.1 dX2_init_36 (by decide) ?_
  obtain ⟨s20, e21, h⟩ := m_bs h
  refine m_put (ci := 2) (k := 7) (T := TX2) (N := 12) (v := .int 0) (ty := .int) S (inX2 _) tyX2 tX2 nX2 hK hP hS e21 rfl (by decide) (S.2.2.2.2 (.fieldLink RX2 29 "RuleHouse2$Target" "steps" "I") (m_mem (by decide +kernel))) rfl rfl (by decide +kernel) rfl rfl dX2_init_37 (fun H locs hP hS => ?_)
  refine lv_aload_n S.1 S.2.1 dX2_init_40 rfl (lv_at hl 0 rfl) ?_
  refine lv_iconst (v := 0) S.1 S.2.1 dX2_init_41 (by decide) ?_
  obtain ⟨s22, e23, h⟩ := m_bs h
  refine m_put (ci := 2) (k := 8) (T := TX2) (N := 12) (v := .int 0) (ty := .int) S (inX2 _) tyX2 tX2 nX2 hK hP hS e23 rfl (by decide) (S.2.2.2.2 (.fieldLink RX2 33 "RuleHouse2$Target" "actions" "I") (m_mem (by decide +kernel))) rfl rfl (by decide +kernel) rfl rfl dX2_init_42 (fun H locs hP hS => ?_)
  refine lv_aload_n S.1 S.2.1 dX2_init_45 rfl (lv_at hl 0 rfl) ?_
  refine lv_iconst (v := 0) S.1 S.2.1 dX2_init_46 (by decide) ?_
  obtain ⟨s24, e25, h⟩ := m_bs h
  refine m_put (ci := 2) (k := 9) (T := TX2) (N := 12) (v := .int 0) (ty := .int) S (inX2 _) tyX2 tX2 nX2 hK hP hS e25 rfl (by decide) (S.2.2.2.2 (.fieldLink RX2 36 "RuleHouse2$Target" "failure" "I") (m_mem (by decide +kernel))) rfl rfl (by decide +kernel) rfl rfl dX2_init_47 (fun H locs hP hS => ?_)
  refine lv_aload_n S.1 S.2.1 dX2_init_50 rfl (lv_at hl 0 rfl) ?_
  refine lv_iconst (v := 0) S.1 S.2.1 dX2_init_51 (by decide) ?_
  obtain ⟨s26, e27, h⟩ := m_bs h
  refine m_put (ci := 2) (k := 10) (T := TX2) (N := 12) (v := .int 0) (ty := .int) S (inX2 _) tyX2 tX2 nX2 hK hP hS e27 rfl (by decide) (S.2.2.2.2 (.fieldLink RX2 39 "RuleHouse2$Target" "failedBit" "I") (m_mem (by decide +kernel))) rfl rfl (by decide +kernel) rfl rfl dX2_init_52 (fun H locs hP hS => ?_)
  refine lv_aload_n S.1 S.2.1 dX2_init_55 rfl (lv_at hl 0 rfl) ?_
  refine lv_iconst (v := 0) S.1 S.2.1 dX2_init_56 (by decide) ?_
  obtain ⟨s28, e29, h⟩ := m_bs h
  refine m_put (ci := 2) (k := 11) (T := TX2) (N := 12) (v := .int 0) (ty := .int) S (inX2 _) tyX2 tX2 nX2 hK hP hS e29 rfl (by decide) (S.2.2.2.2 (.fieldLink RX2 42 "RuleHouse2$Target" "failureBegan" "I") (m_mem (by decide +kernel))) rfl rfl (by decide +kernel) rfl rfl dX2_init_57 (fun H locs hP hS => ?_)
  refine lv_aload_n S.1 S.2.1 dX2_init_60 rfl (lv_at hl 0 rfl) ?_
  refine lv_iload_n S.1 S.2.1 dX2_init_61 rfl (lv_at hl 1 rfl) ?_
  obtain ⟨s30, e31, h⟩ := m_bs h
  refine m_putF (ci := 2) (k := 0) (T := TX2) (N := 12) (v := .int p1) (ty := .int) S (inX2 _) tyX2 tX2 nX2 hK hP hS e31 rfl (by decide) (S.2.2.2.2 (.fieldLink RX2 45 "RuleHouse2$Target" "number" "I") (m_mem (by decide +kernel))) rfl rfl hnm rfl (by decide +kernel) rfl rfl dX2_init_62 (fun H locs hP hS => ?_)
  refine lv_aload_n S.1 S.2.1 dX2_init_65 rfl (lv_at hl 0 rfl) ?_
  refine m_aload_n S.1 S.2.1 dX2_init_66 rfl (lv_at hl 2 rfl) ?_
  obtain ⟨s32, e33, h⟩ := m_bs h
  refine m_putF (ci := 2) (k := 1) (T := TX2) (N := 12) (v := va_rf p2) (ty := (.object "RuleHouse2$RuleClass")) S (inX2 _) tyX2 tX2 nX2 hK hP hS e33 rfl (by decide) (S.2.2.2.2 (.fieldLink RX2 48 "RuleHouse2$Target" "ruleClass" "LRuleHouse2$RuleClass;") (m_mem (by decide +kernel))) rfl rfl hnm rfl (by decide +kernel) (m_rff _ _).1 (m_rff _ _).2 dX2_init_67 (fun H locs hP hS => ?_)
  obtain ⟨h1, h2⟩ := m_fin h; subst h1; subst h2
  exact m_vret S hr hlk hK hP hS (by decide +kernel) (by decide +kernel) dX2_init_70

def f_X0_target (t0 : Nat) (p1 : Int32) (s0 : MS) : Option (Int32 × MS) :=
  (m_is s0 0 t0).bind fun _ =>
  m_b (f_X0_classAt t0 p1 s0) fun r1 s2 =>
  m_nn r1
    (some ((-1), s2))
    (fun a5 =>
    (m_gI s2 0 t0 5).bind fun x6 =>
    if x6 < 40 then
      (m_gR s2 0 t0 4).bind fun r9 =>
      (m_gI s2 0 t0 5).bind fun x11 =>
      m_nw s2 (.inl 2) (fun j => defaultValue (tyX2 j)) fun a13 s14 =>
      (m_gI s14 0 t0 5).bind fun x16 =>
      m_b (f_X2_init a13 x16 (some a5) s14) fun u18 s19 =>
      r9.bind fun a21 =>
      (m_is s19 2 a13).bind fun _ =>
      (m_ap s19 4 a21 x11 (.ref a13)).bind fun s22 =>
      (m_gI s22 0 t0 5).bind fun x25 =>
      (m_p s22 0 t0 5 (.int (x25 + 1))).bind fun s27 =>
      (m_gI s27 0 t0 5).bind fun x29 =>
      some (x29 - 1, s27)
    else
      some ((-4), s2))
set_option maxHeartbeats 4000000 in
set_option maxRecDepth 100000 in
theorem c_X0_target (l : Launch) (D : va_G) (tc : Nat → ClassId) (b : Nat) (t0 : Nat) (p1 : Int32) (s0 st' : MS) (r : Int32) (h : f_X0_target t0 p1 s0 = some (r, st')) : Met l yX0_target wsX0_target ({ frames := 2, cells := 4, slots := 22, locals := 42 }) (m_Pc D vwCl (m_tys tc) b s0 [.ref t0, .int p1]) (m_Q D vwCl (m_tys tc) b (some (.int r)) st') 4 22 (m_A b) := by
  unfold f_X0_target at h
  refine m_met (cc := cX0_target) (maxL := 3) (ret := (some .int)) (by decide) rfl (by first | exact Nat.le_of_ble_eq_true rfl | simp [lg_sl, m_rfc, m_catI, m_catL, m_catA]) ?_
  intro p e s m below meth c ls S hr hlk hnm hK hP hl hS
  replace hl : lv_has ls 3 [(0, .ref t0), (1, .int p1)] := by first | exact hl | simpa [lv_args, m_rfc, m_catI, m_catL, m_catA] using hl
  refine lv_aload_n S.1 S.2.1 dX0_target_0 rfl (lv_at hl 0 rfl) ?_
  refine lv_iload_n S.1 S.2.1 dX0_target_1 rfl (lv_at hl 1 rfl) ?_
  obtain ⟨_, k4, h⟩ := m_bs h
  obtain ⟨r1, s2, e3, h⟩ := m_b_s h
  refine m_callr (va_runV (As := [.int p1]) (rest := []) S (c_X0_classAt l D tc b t0 p1 _ _ _ e3) (cwV 1 S.2.2.2.2 (m_wV kX0_classAt (by decide +kernel)) rfl rfl rfl (by decide +kernel) ⟨by decide +kernel, by decide +kernel⟩) (m_preV hK hP (m_is_s k4) rfl) rfl rfl hl.1 rfl (lv_room (by first | decide | simp [m_rfc, m_catI, m_catL, m_catA])) dX0_target_2 ⟨by decide +kernel, by decide +kernel⟩) hS (fun H locs hP hS => ?_)
  refine m_astore_n (i := 2) (lv' := [(2, va_rf r1), (0, .ref t0), (1, .int p1)]) S.1 S.2.1 dX0_target_5 rfl hl (by decide) (by first | rfl | simp [m_rfc, m_catI, m_catL, m_catA]) (fun ls hl => ?_)
  refine m_aload_n S.1 S.2.1 dX0_target_6 rfl (lv_at hl 0 rfl) ?_
  rcases r1 with _ | a5
  · replace h := m_nn0 h
    refine lv_ifnonnullN S.1 S.2.1 dX0_target_7 ?_
    refine lv_iconst (v := (-1)) S.1 S.2.1 dX0_target_10 (by decide) ?_
    obtain ⟨h1, h2⟩ := m_fin h; subst h1; subst h2
    exact m_iret S hr hlk hK hP hS (by decide +kernel) (by decide +kernel) dX0_target_11
  · replace h := m_nn1 h
    refine lv_ifnonnull (tgt := 12) S.1 S.2.1 dX0_target_7 (by decide) ?_
    refine lv_aload_n S.1 S.2.1 dX0_target_12 rfl (lv_at hl 1 rfl) ?_
    obtain ⟨x6, e7, h⟩ := m_bs h
    refine m_get (ci := 0) (k := 5) (T := TX0) (N := 10) S (inX0 _) hK hP (m_gI_s e7) rfl (by decide) (S.2.2.2.2 (.fieldLink RX0 28 "RuleHouse2" "targetCount" "I") (m_mem (by decide +kernel))) rfl dX0_target_13 ?_
    refine lv_bipush (v := 40) S.1 S.2.1 dX0_target_16 (by decide) ?_
    refine lv_icmp_lt (tgt := 24) S.1 S.2.1 dX0_target_18 (by decide) (fun c8 => ?_) (fun c8 => ?_)
    · replace h := m_t c8 h
      refine lv_aload_n S.1 S.2.1 dX0_target_24 rfl (lv_at hl 1 rfl) ?_
      obtain ⟨r9, e10, h⟩ := m_bs h
      refine m_get (ci := 0) (k := 4) (T := TX0) (N := 10) S (inX0 _) hK hP (m_gR_s e10) rfl (by decide) (S.2.2.2.2 (.fieldLink RX0 24 "RuleHouse2" "targets" "[LRuleHouse2$Target;") (m_mem (by decide +kernel))) rfl dX0_target_25 ?_
      refine lv_aload_n S.1 S.2.1 dX0_target_28 rfl (lv_at hl 1 rfl) ?_
      obtain ⟨x11, e12, h⟩ := m_bs h
      refine m_get (ci := 0) (k := 5) (T := TX0) (N := 10) S (inX0 _) hK hP (m_gI_s e12) rfl (by decide) (S.2.2.2.2 (.fieldLink RX0 28 "RuleHouse2" "targetCount" "I") (m_mem (by decide +kernel))) rfl dX0_target_29 ?_
      obtain ⟨a13, s14, e15, h⟩ := m_nw_s h
      refine m_new (ci := 2) S (inX2 _) tyX2 tX2 (S.2.2.2.2 (.classLink RX0 22 RX2) (m_mem (by decide +kernel))) (S.2.2.2.2 (.instantiable RX2 12) (m_mem (by decide +kernel))) (S.2.2.2.2 (.initialized RX2) (m_mem (by decide +kernel))) hK hP hS rfl e15 (by decide +kernel) (by decide +kernel) dX0_target_32 (fun H hP hS => ?_)
      refine lv_dup S.1 S.2.1 dX0_target_35 rfl ?_
      refine lv_aload_n S.1 S.2.1 dX0_target_36 rfl (lv_at hl 1 rfl) ?_
      obtain ⟨x16, e17, h⟩ := m_bs h
      refine m_get (ci := 0) (k := 5) (T := TX0) (N := 10) S (inX0 _) hK hP (m_gI_s e17) rfl (by decide) (S.2.2.2.2 (.fieldLink RX0 28 "RuleHouse2" "targetCount" "I") (m_mem (by decide +kernel))) rfl dX0_target_37 ?_
      refine lv_aload_n S.1 S.2.1 dX0_target_40 rfl (lv_at hl 0 rfl) ?_
      obtain ⟨u18, s19, e20, h⟩ := m_b_s h
      refine m_callv (va_runI (As := [.int x16, va_rf (some a5)]) (rest := [.ref a13, .int x11, va_rf r9]) S (c_X2_init l D tc b a13 x16 (some a5) _ _ _ e20) (cwI 2 S.2.2.2.2 (m_wI kX2_init) rfl rfl rfl (S.2.2.2.2 (.initialized RX2) (m_mem (by decide +kernel))) (S.2.2.2.2 (.methodLink RX0 94 yX2_init) (m_mem (by decide +kernel))) (S.2.2.2.2 (.instanceMethod yX2_init) (m_mem (by decide +kernel))) rfl (by decide +kernel) ⟨by decide +kernel, by decide +kernel⟩) (m_preS hK hP) rfl rfl hl.1 rfl (lv_room (by first | decide | simp [m_rfc, m_catI, m_catL, m_catA])) dX0_target_41 ⟨by decide +kernel, by decide +kernel⟩) hS (fun H locs hP hS => ?_)
      obtain ⟨a21, ea, g⟩ := m_bs h; clear h; subst ea; have h := g; clear g
      obtain ⟨_, k24, h⟩ := m_bs h
      obtain ⟨s22, e23, h⟩ := m_bs h
      refine m_aast (t := 4) S hK hP hS e23 (by decide) (m_is_s k24) rfl rfl dX0_target_44 (fun H locs hP hS => ?_)
      refine lv_aload_n S.1 S.2.1 dX0_target_45 rfl (lv_at hl 1 rfl) ?_
      refine lv_dup S.1 S.2.1 dX0_target_46 rfl ?_
      obtain ⟨x25, e26, h⟩ := m_bs h
      refine m_get (ci := 0) (k := 5) (T := TX0) (N := 10) S (inX0 _) hK hP (m_gI_s e26) rfl (by decide) (S.2.2.2.2 (.fieldLink RX0 28 "RuleHouse2" "targetCount" "I") (m_mem (by decide +kernel))) rfl dX0_target_47 ?_
      refine lv_iconst (v := 1) S.1 S.2.1 dX0_target_50 (by decide) ?_
      refine lv_iadd S.1 S.2.1 dX0_target_51 ?_
      obtain ⟨s27, e28, h⟩ := m_bs h
      refine m_put (ci := 0) (k := 5) (T := TX0) (N := 10) (v := .int (x25 + 1)) (ty := .int) S (inX0 _) tyX0 tX0 nX0 hK hP hS e28 rfl (by decide) (S.2.2.2.2 (.fieldLink RX0 28 "RuleHouse2" "targetCount" "I") (m_mem (by decide +kernel))) rfl rfl (by decide +kernel) rfl rfl dX0_target_52 (fun H locs hP hS => ?_)
      refine lv_aload_n S.1 S.2.1 dX0_target_55 rfl (lv_at hl 1 rfl) ?_
      obtain ⟨x29, e30, h⟩ := m_bs h
      refine m_get (ci := 0) (k := 5) (T := TX0) (N := 10) S (inX0 _) hK hP (m_gI_s e30) rfl (by decide) (S.2.2.2.2 (.fieldLink RX0 28 "RuleHouse2" "targetCount" "I") (m_mem (by decide +kernel))) rfl dX0_target_56 ?_
      refine lv_iconst (v := 1) S.1 S.2.1 dX0_target_59 (by decide) ?_
      refine lv_isub S.1 S.2.1 dX0_target_60 ?_
      obtain ⟨h1, h2⟩ := m_fin h; subst h1; subst h2
      exact m_iret S hr hlk hK hP hS (by decide +kernel) (by decide +kernel) dX0_target_61
    · replace h := m_f c8 h
      refine lv_bipush (v := (-4)) S.1 S.2.1 dX0_target_21 (by decide) ?_
      obtain ⟨h1, h2⟩ := m_fin h; subst h1; subst h2
      exact m_iret S hr hlk hK hP hS (by decide +kernel) (by decide +kernel) dX0_target_23

def f_X2_fail_L23 : Nat → Int32 → Nat → Int32 → Int32 → Int32 → MS → Option (Unit × MS)
  | 0, _, _, _, _, _, _ => none
  | f + 1, q4, q0, q1, q2, q3, s0 =>
    if 3 ≤ q4 then
      some ((), s0)
    else
      (m_gR s0 2 q0 4).bind fun r10 =>
      r10.bind fun a12 =>
      (m_ap s0 2 a12 q4 (.int 0)).bind fun s13 =>
      f_X2_fail_L23 f (q4 + 1) q0 q1 q2 q3 s13
def f_X2_fail (t0 : Nat) (p1 : Int32) (p2 : Int32) (p3 : Int32) (s0 : MS) : Option (Unit × MS) :=
  (m_p s0 2 t0 9 (.int p1)).bind fun s1 =>
  (m_p s1 2 t0 10 (.int p2)).bind fun s3 =>
  (m_p s3 2 t0 11 (.int p3)).bind fun s5 =>
  (m_p s5 2 t0 8 (.int 0)).bind fun s7 =>
  f_X2_fail_L23 64 0 t0 p1 p2 p3 s7
set_option maxHeartbeats 4000000 in
set_option maxRecDepth 100000 in
theorem w_X2_fail_L23 {p : Program} {l : Launch} {e : Env} {s : State} {m : MethodId} {args : Array Value} {below : List Frame} {meth : Method} {c : Code} (D : va_G) (tc : Nat → ClassId) (b : Nat) (S : CallFix p m c cX2_fail 5 s args wsX2_fail RX2) (hr : meth.sig.returnType = none) (hlk : meth.locks = false) (hK : va_K D vwCl (m_tys tc) s) :
    ∀ (f : Nat) (q4 : Int32) (q0 : Nat) (q1 : Int32) (q2 : Int32) (q3 : Int32) (s0 st' : MS) (r : Unit) (h : f_X2_fail_L23 f q4 q0 q1 q2 q3 s0 = some (r, st')) (H : Heap) (locs : List Loc) (ls : Array Slot) (hP : mw D vwCl (m_tys tc) b s0 H) (hS : va_S (m_A b) s.heap H locs) (hl : lv_has ls 5 [(4, .int q4), (0, .ref q0), (1, .int q1), (2, .int q2), (3, .int q3)]), W p l e { frames := 0, cells := 0, slots := 0, locals := 0 } s m args below meth c H locs 0 0 (MQ below (m_Q D vwCl (m_tys tc) b none st') args s 0 0 (m_A b)) (F0 m 23 ls []) := by
  intro f
  induction f with
  | zero =>
    intro q4 q0 q1 q2 q3 s0 st' r h
    cases h
  | succ f ih =>
    intro q4 q0 q1 q2 q3 s0 st' r h H locs ls hP hS hl
    rw [f_X2_fail_L23] at h
    refine lv_iload S.1 S.2.1 dX2_fail_23 (lv_at hl 0 rfl) ?_
    refine lv_iconst (v := 3) S.1 S.2.1 dX2_fail_25 (by decide) ?_
    refine lv_icmp_ge (tgt := 43) S.1 S.2.1 dX2_fail_26 (by decide) (fun c9 => ?_) (fun c9 => ?_)
    · replace h := m_t c9 h
      obtain ⟨h1, h2⟩ := m_fin h; subst h1; subst h2
      exact m_vret S hr hlk hK hP hS (by decide +kernel) (by decide +kernel) dX2_fail_43
    · replace h := m_f c9 h
      refine lv_aload_n S.1 S.2.1 dX2_fail_29 rfl (lv_at hl 1 rfl) ?_
      obtain ⟨r10, e11, h⟩ := m_bs h
      refine m_get (ci := 2) (k := 4) (T := TX2) (N := 12) S (inX2 _) hK hP (m_gR_s e11) rfl (by decide) (S.2.2.2.2 (.fieldLink RX2 18 "RuleHouse2$Target" "has" "[Z") (m_mem (by decide +kernel))) rfl dX2_fail_30 ?_
      refine lv_iload S.1 S.2.1 dX2_fail_33 (lv_at hl 0 rfl) ?_
      refine lv_iconst (v := 0) S.1 S.2.1 dX2_fail_35 (by decide) ?_
      obtain ⟨a12, ea, g⟩ := m_bs h; clear h; subst ea; have h := g; clear g
      obtain ⟨s13, e14, h⟩ := m_bs h
      refine m_zast (t := 2) S hK hP hS e14 (by decide) rfl (by decide) dX2_fail_36 (fun H locs hP hS => ?_)
      refine lv_iinc (v := q4 + 1) (lv' := [(4, .int (q4 + 1)), (0, .ref q0), (1, .int q1), (2, .int q2), (3, .int q3)]) S.1 S.2.1 dX2_fail_37 hl (k := 0) rfl rfl (by decide) (by first | rfl | simp [m_rfc, m_catI, m_catL, m_catA]) (fun ls hl => ?_)
      refine lv_goto (tgt := 23) S.1 S.2.1 dX2_fail_40 (by decide) ?_
      exact ih (q4 + 1) q0 q1 q2 q3 _ _ _ h _ _ _ hP hS (lv_sub hl [0, 1, 2, 3, 4] rfl)
set_option maxHeartbeats 4000000 in
set_option maxRecDepth 100000 in
theorem c_X2_fail (l : Launch) (D : va_G) (tc : Nat → ClassId) (b : Nat) (t0 : Nat) (p1 : Int32) (p2 : Int32) (p3 : Int32) (s0 st' : MS) (r : Unit) (h : f_X2_fail t0 p1 p2 p3 s0 = some (r, st')) : Met l yX2_fail wsX2_fail ({ frames := 0, cells := 0, slots := 0, locals := 0 }) (m_Pc D vwCl (m_tys tc) b s0 [.ref t0, .int p1, .int p2, .int p3]) (m_Q D vwCl (m_tys tc) b none st') 0 0 (m_A b) := by
  unfold f_X2_fail at h
  refine m_met (cc := cX2_fail) (maxL := 5) (ret := none) (by decide) rfl (by first | exact Nat.le_of_ble_eq_true rfl | simp [lg_sl, m_rfc, m_catI, m_catL, m_catA]) ?_
  intro p e s m below meth c ls S hr hlk hnm hK hP hl hS
  replace hl : lv_has ls 5 [(0, .ref t0), (1, .int p1), (2, .int p2), (3, .int p3)] := by first | exact hl | simpa [lv_args, m_rfc, m_catI, m_catL, m_catA] using hl
  refine lv_aload_n S.1 S.2.1 dX2_fail_0 rfl (lv_at hl 0 rfl) ?_
  refine lv_iload_n S.1 S.2.1 dX2_fail_1 rfl (lv_at hl 1 rfl) ?_
  obtain ⟨s1, e2, h⟩ := m_bs h
  refine m_put (ci := 2) (k := 9) (T := TX2) (N := 12) (v := .int p1) (ty := .int) S (inX2 _) tyX2 tX2 nX2 hK hP hS e2 rfl (by decide) (S.2.2.2.2 (.fieldLink RX2 36 "RuleHouse2$Target" "failure" "I") (m_mem (by decide +kernel))) rfl rfl (by decide +kernel) rfl rfl dX2_fail_2 (fun H locs hP hS => ?_)
  refine lv_aload_n S.1 S.2.1 dX2_fail_5 rfl (lv_at hl 0 rfl) ?_
  refine lv_iload_n S.1 S.2.1 dX2_fail_6 rfl (lv_at hl 2 rfl) ?_
  obtain ⟨s3, e4, h⟩ := m_bs h
  refine m_put (ci := 2) (k := 10) (T := TX2) (N := 12) (v := .int p2) (ty := .int) S (inX2 _) tyX2 tX2 nX2 hK hP hS e4 rfl (by decide) (S.2.2.2.2 (.fieldLink RX2 39 "RuleHouse2$Target" "failedBit" "I") (m_mem (by decide +kernel))) rfl rfl (by decide +kernel) rfl rfl dX2_fail_7 (fun H locs hP hS => ?_)
  refine lv_aload_n S.1 S.2.1 dX2_fail_10 rfl (lv_at hl 0 rfl) ?_
  refine lv_iload_n S.1 S.2.1 dX2_fail_11 rfl (lv_at hl 3 rfl) ?_
  obtain ⟨s5, e6, h⟩ := m_bs h
  refine m_put (ci := 2) (k := 11) (T := TX2) (N := 12) (v := .int p3) (ty := .int) S (inX2 _) tyX2 tX2 nX2 hK hP hS e6 rfl (by decide) (S.2.2.2.2 (.fieldLink RX2 42 "RuleHouse2$Target" "failureBegan" "I") (m_mem (by decide +kernel))) rfl rfl (by decide +kernel) rfl rfl dX2_fail_12 (fun H locs hP hS => ?_)
  refine lv_aload_n S.1 S.2.1 dX2_fail_15 rfl (lv_at hl 0 rfl) ?_
  refine lv_iconst (v := 0) S.1 S.2.1 dX2_fail_16 (by decide) ?_
  obtain ⟨s7, e8, h⟩ := m_bs h
  refine m_put (ci := 2) (k := 8) (T := TX2) (N := 12) (v := .int 0) (ty := .int) S (inX2 _) tyX2 tX2 nX2 hK hP hS e8 rfl (by decide) (S.2.2.2.2 (.fieldLink RX2 33 "RuleHouse2$Target" "actions" "I") (m_mem (by decide +kernel))) rfl rfl (by decide +kernel) rfl rfl dX2_fail_17 (fun H locs hP hS => ?_)
  refine lv_iconst (v := 0) S.1 S.2.1 dX2_fail_20 (by decide) ?_
  refine lv_istore (i := 4) (lv' := [(4, .int 0), (0, .ref t0), (1, .int p1), (2, .int p2), (3, .int p3)]) S.1 S.2.1 dX2_fail_21 hl (by decide) (by first | rfl | simp [m_rfc, m_catI, m_catL, m_catA]) (fun ls hl => ?_)
  exact w_X2_fail_L23 D tc b S hr hlk hK 64 0 t0 p1 p2 p3 _ _ _ h _ _ _ hP hS (lv_sub hl [0, 1, 2, 3, 4] rfl)

def f_X0_takesStep (t0 : Nat) (p1 : Option Nat) (s0 : MS) : Option (Int32 × MS) :=
  p1.bind fun a1 =>
  (m_gI s0 2 a1 7).bind fun x2 =>
  (m_gI s0 0 t0 0).bind fun x4 =>
  if x2 < x4 then
    (m_gI s0 2 a1 7).bind fun x7 =>
    (m_p s0 2 a1 7 (.int (x7 + 1))).bind fun s9 =>
    some (1, s9)
  else
    some (0, s0)
set_option maxHeartbeats 4000000 in
set_option maxRecDepth 100000 in
theorem c_X0_takesStep (l : Launch) (D : va_G) (tc : Nat → ClassId) (b : Nat) (t0 : Nat) (p1 : Option Nat) (s0 st' : MS) (r : Int32) (h : f_X0_takesStep t0 p1 s0 = some (r, st')) : Met l yX0_takesStep wsX0_takesStep ({ frames := 0, cells := 0, slots := 0, locals := 0 }) (m_Pc D vwCl (m_tys tc) b s0 [.ref t0, va_rf p1]) (m_Q D vwCl (m_tys tc) b (some (.int r)) st') 0 0 (m_A b) := by
  unfold f_X0_takesStep at h
  refine m_met (cc := cX0_takesStep) (maxL := 2) (ret := (some .boolean)) (by decide) rfl (by first | exact Nat.le_of_ble_eq_true rfl | simp [lg_sl, m_rfc, m_catI, m_catL, m_catA]) ?_
  intro p e s m below meth c ls S hr hlk hnm hK hP hl hS
  replace hl : lv_has ls 2 [(0, .ref t0), (1, va_rf p1)] := by first | exact hl | simpa [lv_args, m_rfc, m_catI, m_catL, m_catA] using hl
  refine m_aload_n S.1 S.2.1 dX0_takesStep_0 rfl (lv_at hl 1 rfl) ?_
  obtain ⟨a1, ea, g⟩ := m_bs h; clear h; subst ea; have h := g; clear g
  obtain ⟨x2, e3, h⟩ := m_bs h
  refine m_get (ci := 2) (k := 7) (T := TX2) (N := 12) S (inX2 _) hK hP (m_gI_s e3) rfl (by decide) (S.2.2.2.2 (.fieldLink RX0 177 "RuleHouse2$Target" "steps" "I") (m_mem (by decide +kernel))) rfl dX0_takesStep_1 ?_
  refine lv_aload_n S.1 S.2.1 dX0_takesStep_4 rfl (lv_at hl 0 rfl) ?_
  obtain ⟨x4, e5, h⟩ := m_bs h
  refine m_get (ci := 0) (k := 0) (T := TX0) (N := 10) S (inX0 _) hK hP (m_gI_s e5) rfl (by decide) (S.2.2.2.2 (.fieldLink RX0 54 "RuleHouse2" "stepsAllowed" "I") (m_mem (by decide +kernel))) rfl dX0_takesStep_5 ?_
  refine lv_icmp_lt (tgt := 13) S.1 S.2.1 dX0_takesStep_8 (by decide) (fun c6 => ?_) (fun c6 => ?_)
  · replace h := m_t c6 h
    refine lv_aload_n S.1 S.2.1 dX0_takesStep_13 rfl (lv_at hl 1 rfl) ?_
    refine lv_dup S.1 S.2.1 dX0_takesStep_14 rfl ?_
    obtain ⟨x7, e8, h⟩ := m_bs h
    refine m_get (ci := 2) (k := 7) (T := TX2) (N := 12) S (inX2 _) hK hP (m_gI_s e8) rfl (by decide) (S.2.2.2.2 (.fieldLink RX0 177 "RuleHouse2$Target" "steps" "I") (m_mem (by decide +kernel))) rfl dX0_takesStep_15 ?_
    refine lv_iconst (v := 1) S.1 S.2.1 dX0_takesStep_18 (by decide) ?_
    refine lv_iadd S.1 S.2.1 dX0_takesStep_19 ?_
    obtain ⟨s9, e10, h⟩ := m_bs h
    refine m_put (ci := 2) (k := 7) (T := TX2) (N := 12) (v := .int (x7 + 1)) (ty := .int) S (inX2 _) tyX2 tX2 nX2 hK hP hS e10 rfl (by decide) (S.2.2.2.2 (.fieldLink RX0 177 "RuleHouse2$Target" "steps" "I") (m_mem (by decide +kernel))) rfl rfl (by decide +kernel) rfl rfl dX0_takesStep_20 (fun H locs hP hS => ?_)
    refine lv_iconst (v := 1) S.1 S.2.1 dX0_takesStep_23 (by decide) ?_
    obtain ⟨h1, h2⟩ := m_fin h; subst h1; subst h2
    exact m_zret S hr hlk hK hP hS (by decide) (by decide +kernel) (by decide +kernel) dX0_takesStep_24
  · replace h := m_f c6 h
    refine lv_iconst (v := 0) S.1 S.2.1 dX0_takesStep_11 (by decide) ?_
    obtain ⟨h1, h2⟩ := m_fin h; subst h1; subst h2
    exact m_zret S hr hlk hK hP hS (by decide) (by decide +kernel) (by decide +kernel) dX0_takesStep_12

def f_X0_declareOutput (p1 : Option Nat) (s0 : MS) : Option (Int32 × MS) :=
  p1.bind fun a1 =>
  (m_gI s0 2 a1 6).bind fun x2 =>
  if x2 = 0 then
    (m_p s0 2 a1 6 (.int 1)).bind fun s5 =>
    some (0, s5)
  else
    some (2, s0)
set_option maxHeartbeats 4000000 in
set_option maxRecDepth 100000 in
theorem c_X0_declareOutput (l : Launch) (D : va_G) (tc : Nat → ClassId) (b : Nat) (p1 : Option Nat) (s0 st' : MS) (r : Int32) (h : f_X0_declareOutput p1 s0 = some (r, st')) : Met l yX0_declareOutput wsX0_declareOutput ({ frames := 0, cells := 0, slots := 0, locals := 0 }) (m_Pc D vwCl (m_tys tc) b s0 [va_rf p1]) (m_Q D vwCl (m_tys tc) b (some (.int r)) st') 0 0 (m_A b) := by
  unfold f_X0_declareOutput at h
  refine m_met (cc := cX0_declareOutput) (maxL := 1) (ret := (some .int)) (by decide) rfl (by first | exact Nat.le_of_ble_eq_true rfl | simp [lg_sl, m_rfc, m_catI, m_catL, m_catA]) ?_
  intro p e s m below meth c ls S hr hlk hnm hK hP hl hS
  replace hl : lv_has ls 1 [(0, va_rf p1)] := by first | exact hl | simpa [lv_args, m_rfc, m_catI, m_catL, m_catA] using hl
  refine m_aload_n S.1 S.2.1 dX0_declareOutput_0 rfl (lv_at hl 0 rfl) ?_
  obtain ⟨a1, ea, g⟩ := m_bs h; clear h; subst ea; have h := g; clear g
  obtain ⟨x2, e3, h⟩ := m_bs h
  refine m_get (ci := 2) (k := 6) (T := TX2) (N := 12) S (inX2 _) hK hP (m_gI_s e3) rfl (by decide) (S.2.2.2.2 (.fieldLink RX0 204 "RuleHouse2$Target" "outputDeclared" "Z") (m_mem (by decide +kernel))) rfl dX0_declareOutput_1 ?_
  refine lv_if_eq (tgt := 9) S.1 S.2.1 dX0_declareOutput_4 (by decide) (fun c4 => ?_) (fun c4 => ?_)
  · replace h := m_t c4 h
    refine lv_aload_n S.1 S.2.1 dX0_declareOutput_9 rfl (lv_at hl 0 rfl) ?_
    refine lv_iconst (v := 1) S.1 S.2.1 dX0_declareOutput_10 (by decide) ?_
    obtain ⟨s5, e6, h⟩ := m_bs h
    refine m_put (ci := 2) (k := 6) (T := TX2) (N := 12) (v := .int 1) (ty := .boolean) S (inX2 _) tyX2 tX2 nX2 hK hP hS e6 rfl (by decide) (S.2.2.2.2 (.fieldLink RX0 204 "RuleHouse2$Target" "outputDeclared" "Z") (m_mem (by decide +kernel))) rfl rfl (by decide +kernel) (by decide) rfl dX0_declareOutput_11 (fun H locs hP hS => ?_)
    refine lv_iconst (v := 0) S.1 S.2.1 dX0_declareOutput_14 (by decide) ?_
    obtain ⟨h1, h2⟩ := m_fin h; subst h1; subst h2
    exact m_iret S hr hlk hK hP hS (by decide +kernel) (by decide +kernel) dX0_declareOutput_15
  · replace h := m_f c4 h
    refine lv_iconst (v := 2) S.1 S.2.1 dX0_declareOutput_7 (by decide) ?_
    obtain ⟨h1, h2⟩ := m_fin h; subst h1; subst h2
    exact m_iret S hr hlk hK hP hS (by decide +kernel) (by decide +kernel) dX0_declareOutput_8

def f_X0_addActions_L9 : Nat → Int32 → Int32 → Nat → Nat → MS → Option (Int32 × MS)
  | 0, _, _, _, _, _ => none
  | f + 1, q3, q2, q0, q1, s0 =>
    if q2 ≤ q3 then
      some (0, s0)
    else
      (m_is s0 0 q0).bind fun _ =>
      m_b (f_X0_takesStep q0 (some q1) s0) fun x8 s9 =>
      if x8 = 0 then
        some (5, s9)
      else
        (m_gI s9 0 q0 8).bind fun x13 =>
        if x13 < 400 then
          (m_gR s9 0 q0 6).bind fun r16 =>
          (m_gI s9 0 q0 8).bind fun x18 =>
          (m_gI s9 2 q1 0).bind fun x20 =>
          r16.bind fun a22 =>
          (m_ap s9 1 a22 x18 (.int x20)).bind fun s23 =>
          (m_gR s23 0 q0 7).bind fun r25 =>
          (m_gI s23 0 q0 8).bind fun x27 =>
          r25.bind fun a29 =>
          (m_ap s23 1 a29 x27 (.int q3)).bind fun s30 =>
          (m_gI s30 0 q0 8).bind fun x32 =>
          (m_p s30 0 q0 8 (.int (x32 + 1))).bind fun s34 =>
          (m_gI s34 2 q1 8).bind fun x36 =>
          (m_p s34 2 q1 8 (.int (x36 + 1))).bind fun s38 =>
          f_X0_addActions_L9 f (q3 + 1) q2 q0 q1 s38
        else
          some (7, s9)
def f_X0_addActions (t0 : Nat) (p1 : Option Nat) (s0 : MS) : Option (Int32 × MS) :=
  p1.bind fun a1 =>
  (m_gR s0 2 a1 2).bind fun r2 =>
  r2.bind fun a4 =>
  (m_aI s0 1 a4 0).bind fun x5 =>
  f_X0_addActions_L9 64 0 x5 t0 a1 s0
set_option maxHeartbeats 4000000 in
set_option maxRecDepth 100000 in
theorem w_X0_addActions_L9 {p : Program} {l : Launch} {e : Env} {s : State} {m : MethodId} {args : Array Value} {below : List Frame} {meth : Method} {c : Code} (D : va_G) (tc : Nat → ClassId) (b : Nat) (S : CallFix p m c cX0_addActions 4 s args wsX0_addActions RX0) (hr : meth.sig.returnType = (some .int)) (hlk : meth.locks = false) (hK : va_K D vwCl (m_tys tc) s) :
    ∀ (f : Nat) (q3 : Int32) (q2 : Int32) (q0 : Nat) (q1 : Nat) (s0 st' : MS) (r : Int32) (h : f_X0_addActions_L9 f q3 q2 q0 q1 s0 = some (r, st')) (H : Heap) (locs : List Loc) (ls : Array Slot) (hP : mw D vwCl (m_tys tc) b s0 H) (hS : va_S (m_A b) s.heap H locs) (hl : lv_has ls 4 [(3, .int q3), (2, .int q2), (0, .ref q0), (1, .ref q1)]), W p l e { frames := 1, cells := 0, slots := 0, locals := 21 } s m args below meth c H locs 0 0 (MQ below (m_Q D vwCl (m_tys tc) b (some (.int r)) st') args s 0 0 (m_A b)) (F0 m 9 ls []) := by
  intro f
  induction f with
  | zero =>
    intro q3 q2 q0 q1 s0 st' r h
    cases h
  | succ f ih =>
    intro q3 q2 q0 q1 s0 st' r h H locs ls hP hS hl
    rw [f_X0_addActions_L9] at h
    refine lv_iload_n S.1 S.2.1 dX0_addActions_9 rfl (lv_at hl 0 rfl) ?_
    refine lv_iload_n S.1 S.2.1 dX0_addActions_10 rfl (lv_at hl 1 rfl) ?_
    refine lv_icmp_ge (tgt := 86) S.1 S.2.1 dX0_addActions_11 (by decide) (fun c7 => ?_) (fun c7 => ?_)
    · replace h := m_t c7 h
      refine lv_iconst (v := 0) S.1 S.2.1 dX0_addActions_86 (by decide) ?_
      obtain ⟨h1, h2⟩ := m_fin h; subst h1; subst h2
      exact m_iret S hr hlk hK hP hS (by decide +kernel) (by decide +kernel) dX0_addActions_87
    · replace h := m_f c7 h
      refine lv_aload_n S.1 S.2.1 dX0_addActions_14 rfl (lv_at hl 2 rfl) ?_
      refine lv_aload_n S.1 S.2.1 dX0_addActions_15 rfl (lv_at hl 3 rfl) ?_
      obtain ⟨_, k11, h⟩ := m_bs h
      obtain ⟨x8, s9, e10, h⟩ := m_b_s h
      refine m_calli (va_runV (As := [va_rf (some q1)]) (rest := []) S (c_X0_takesStep l D tc b q0 (some q1) _ _ _ e10) (cwV 1 S.2.2.2.2 (m_wV kX0_takesStep (by decide +kernel)) rfl rfl rfl (by decide +kernel) ⟨by decide +kernel, by decide +kernel⟩) (m_preV hK hP (m_is_s k11) rfl) rfl rfl hl.1 rfl (lv_room (by first | decide | simp [m_rfc, m_catI, m_catL, m_catA])) dX0_addActions_16 ⟨by decide +kernel, by decide +kernel⟩) hS (fun H locs hP hS => ?_)
      refine lv_if_ne (tgt := 24) S.1 S.2.1 dX0_addActions_19 (by decide) (fun c12 => ?_) (fun c12 => ?_)
      · replace h := m_f c12 h
        refine lv_aload_n S.1 S.2.1 dX0_addActions_24 rfl (lv_at hl 2 rfl) ?_
        obtain ⟨x13, e14, h⟩ := m_bs h
        refine m_get (ci := 0) (k := 8) (T := TX0) (N := 10) S (inX0 _) hK hP (m_gI_s e14) rfl (by decide) (S.2.2.2.2 (.fieldLink RX0 38 "RuleHouse2" "actionCount" "I") (m_mem (by decide +kernel))) rfl dX0_addActions_25 ?_
        refine lv_sipush (v := 400) S.1 S.2.1 dX0_addActions_28 (by decide) ?_
        refine lv_icmp_lt (tgt := 37) S.1 S.2.1 dX0_addActions_31 (by decide) (fun c15 => ?_) (fun c15 => ?_)
        · replace h := m_t c15 h
          refine lv_aload_n S.1 S.2.1 dX0_addActions_37 rfl (lv_at hl 2 rfl) ?_
          obtain ⟨r16, e17, h⟩ := m_bs h
          refine m_get (ci := 0) (k := 6) (T := TX0) (N := 10) S (inX0 _) hK hP (m_gR_s e17) rfl (by decide) (S.2.2.2.2 (.fieldLink RX0 31 "RuleHouse2" "actionTarget" "[I") (m_mem (by decide +kernel))) rfl dX0_addActions_38 ?_
          refine lv_aload_n S.1 S.2.1 dX0_addActions_41 rfl (lv_at hl 2 rfl) ?_
          obtain ⟨x18, e19, h⟩ := m_bs h
          refine m_get (ci := 0) (k := 8) (T := TX0) (N := 10) S (inX0 _) hK hP (m_gI_s e19) rfl (by decide) (S.2.2.2.2 (.fieldLink RX0 38 "RuleHouse2" "actionCount" "I") (m_mem (by decide +kernel))) rfl dX0_addActions_42 ?_
          refine lv_aload_n S.1 S.2.1 dX0_addActions_45 rfl (lv_at hl 3 rfl) ?_
          obtain ⟨x20, e21, h⟩ := m_bs h
          refine m_get (ci := 2) (k := 0) (T := TX2) (N := 12) S (inX2 _) hK hP (m_gI_s e21) rfl (by decide) (S.2.2.2.2 (.fieldLink RX0 156 "RuleHouse2$Target" "number" "I") (m_mem (by decide +kernel))) rfl dX0_addActions_46 ?_
          obtain ⟨a22, ea, g⟩ := m_bs h; clear h; subst ea; have h := g; clear g
          obtain ⟨s23, e24, h⟩ := m_bs h
          refine m_iast (t := 1) S hK hP hS e24 (by decide) rfl dX0_addActions_49 (fun H locs hP hS => ?_)
          refine lv_aload_n S.1 S.2.1 dX0_addActions_50 rfl (lv_at hl 2 rfl) ?_
          obtain ⟨r25, e26, h⟩ := m_bs h
          refine m_get (ci := 0) (k := 7) (T := TX0) (N := 10) S (inX0 _) hK hP (m_gR_s e26) rfl (by decide) (S.2.2.2.2 (.fieldLink RX0 35 "RuleHouse2" "actionNumber" "[I") (m_mem (by decide +kernel))) rfl dX0_addActions_51 ?_
          refine lv_aload_n S.1 S.2.1 dX0_addActions_54 rfl (lv_at hl 2 rfl) ?_
          obtain ⟨x27, e28, h⟩ := m_bs h
          refine m_get (ci := 0) (k := 8) (T := TX0) (N := 10) S (inX0 _) hK hP (m_gI_s e28) rfl (by decide) (S.2.2.2.2 (.fieldLink RX0 38 "RuleHouse2" "actionCount" "I") (m_mem (by decide +kernel))) rfl dX0_addActions_55 ?_
          refine lv_iload_n S.1 S.2.1 dX0_addActions_58 rfl (lv_at hl 0 rfl) ?_
          obtain ⟨a29, ea, g⟩ := m_bs h; clear h; subst ea; have h := g; clear g
          obtain ⟨s30, e31, h⟩ := m_bs h
          refine m_iast (t := 1) S hK hP hS e31 (by decide) rfl dX0_addActions_59 (fun H locs hP hS => ?_)
          refine lv_aload_n S.1 S.2.1 dX0_addActions_60 rfl (lv_at hl 2 rfl) ?_
          refine lv_dup S.1 S.2.1 dX0_addActions_61 rfl ?_
          obtain ⟨x32, e33, h⟩ := m_bs h
          refine m_get (ci := 0) (k := 8) (T := TX0) (N := 10) S (inX0 _) hK hP (m_gI_s e33) rfl (by decide) (S.2.2.2.2 (.fieldLink RX0 38 "RuleHouse2" "actionCount" "I") (m_mem (by decide +kernel))) rfl dX0_addActions_62 ?_
          refine lv_iconst (v := 1) S.1 S.2.1 dX0_addActions_65 (by decide) ?_
          refine lv_iadd S.1 S.2.1 dX0_addActions_66 ?_
          obtain ⟨s34, e35, h⟩ := m_bs h
          refine m_put (ci := 0) (k := 8) (T := TX0) (N := 10) (v := .int (x32 + 1)) (ty := .int) S (inX0 _) tyX0 tX0 nX0 hK hP hS e35 rfl (by decide) (S.2.2.2.2 (.fieldLink RX0 38 "RuleHouse2" "actionCount" "I") (m_mem (by decide +kernel))) rfl rfl (by decide +kernel) rfl rfl dX0_addActions_67 (fun H locs hP hS => ?_)
          refine lv_aload_n S.1 S.2.1 dX0_addActions_70 rfl (lv_at hl 3 rfl) ?_
          refine lv_dup S.1 S.2.1 dX0_addActions_71 rfl ?_
          obtain ⟨x36, e37, h⟩ := m_bs h
          refine m_get (ci := 2) (k := 8) (T := TX2) (N := 12) S (inX2 _) hK hP (m_gI_s e37) rfl (by decide) (S.2.2.2.2 (.fieldLink RX0 104 "RuleHouse2$Target" "actions" "I") (m_mem (by decide +kernel))) rfl dX0_addActions_72 ?_
          refine lv_iconst (v := 1) S.1 S.2.1 dX0_addActions_75 (by decide) ?_
          refine lv_iadd S.1 S.2.1 dX0_addActions_76 ?_
          obtain ⟨s38, e39, h⟩ := m_bs h
          refine m_put (ci := 2) (k := 8) (T := TX2) (N := 12) (v := .int (x36 + 1)) (ty := .int) S (inX2 _) tyX2 tX2 nX2 hK hP hS e39 rfl (by decide) (S.2.2.2.2 (.fieldLink RX0 104 "RuleHouse2$Target" "actions" "I") (m_mem (by decide +kernel))) rfl rfl (by decide +kernel) rfl rfl dX0_addActions_77 (fun H locs hP hS => ?_)
          refine lv_iinc (v := q3 + 1) (lv' := [(3, .int (q3 + 1)), (2, .int q2), (0, .ref q0), (1, .ref q1)]) S.1 S.2.1 dX0_addActions_80 hl (k := 0) rfl rfl (by decide) (by first | rfl | simp [m_rfc, m_catI, m_catL, m_catA]) (fun ls hl => ?_)
          refine lv_goto (tgt := 9) S.1 S.2.1 dX0_addActions_83 (by decide) ?_
          exact ih (q3 + 1) q2 q0 q1 _ _ _ h _ _ _ hP hS (lv_sub hl [0, 1, 2, 3] rfl)
        · replace h := m_f c15 h
          refine lv_bipush (v := 7) S.1 S.2.1 dX0_addActions_34 (by decide) ?_
          obtain ⟨h1, h2⟩ := m_fin h; subst h1; subst h2
          exact m_iret S hr hlk hK hP hS (by decide +kernel) (by decide +kernel) dX0_addActions_36
      · replace h := m_t c12 h
        refine lv_iconst (v := 5) S.1 S.2.1 dX0_addActions_22 (by decide) ?_
        obtain ⟨h1, h2⟩ := m_fin h; subst h1; subst h2
        exact m_iret S hr hlk hK hP hS (by decide +kernel) (by decide +kernel) dX0_addActions_23
set_option maxHeartbeats 4000000 in
set_option maxRecDepth 100000 in
theorem c_X0_addActions (l : Launch) (D : va_G) (tc : Nat → ClassId) (b : Nat) (t0 : Nat) (p1 : Option Nat) (s0 st' : MS) (r : Int32) (h : f_X0_addActions t0 p1 s0 = some (r, st')) : Met l yX0_addActions wsX0_addActions ({ frames := 1, cells := 0, slots := 0, locals := 21 }) (m_Pc D vwCl (m_tys tc) b s0 [.ref t0, va_rf p1]) (m_Q D vwCl (m_tys tc) b (some (.int r)) st') 0 0 (m_A b) := by
  unfold f_X0_addActions at h
  refine m_met (cc := cX0_addActions) (maxL := 4) (ret := (some .int)) (by decide) rfl (by first | exact Nat.le_of_ble_eq_true rfl | simp [lg_sl, m_rfc, m_catI, m_catL, m_catA]) ?_
  intro p e s m below meth c ls S hr hlk hnm hK hP hl hS
  replace hl : lv_has ls 4 [(0, .ref t0), (1, va_rf p1)] := by first | exact hl | simpa [lv_args, m_rfc, m_catI, m_catL, m_catA] using hl
  refine m_aload_n S.1 S.2.1 dX0_addActions_0 rfl (lv_at hl 1 rfl) ?_
  obtain ⟨a1, ea, g⟩ := m_bs h; clear h; subst ea; have h := g; clear g
  obtain ⟨r2, e3, h⟩ := m_bs h
  refine m_get (ci := 2) (k := 2) (T := TX2) (N := 12) S (inX2 _) hK hP (m_gR_s e3) rfl (by decide) (S.2.2.2.2 (.fieldLink RX0 91 "RuleHouse2$Target" "attributes" "[I") (m_mem (by decide +kernel))) rfl dX0_addActions_1 ?_
  refine lv_iconst (v := 0) S.1 S.2.1 dX0_addActions_4 (by decide) ?_
  obtain ⟨a4, ea, g⟩ := m_bs h; clear h; subst ea; have h := g; clear g
  obtain ⟨x5, e6, h⟩ := m_bs h
  refine m_iald (t := 1) S hK hP (m_aI_s e6) rfl dX0_addActions_5 ?_
  refine lv_istore_n (i := 2) (lv' := [(2, .int x5), (0, .ref t0), (1, .ref a1)]) S.1 S.2.1 dX0_addActions_6 rfl hl (by decide) (by first | rfl | simp [m_rfc, m_catI, m_catL, m_catA]) (fun ls hl => ?_)
  refine lv_iconst (v := 0) S.1 S.2.1 dX0_addActions_7 (by decide) ?_
  refine lv_istore_n (i := 3) (lv' := [(3, .int 0), (2, .int x5), (0, .ref t0), (1, .ref a1)]) S.1 S.2.1 dX0_addActions_8 rfl hl (by decide) (by first | rfl | simp [m_rfc, m_catI, m_catL, m_catA]) (fun ls hl => ?_)
  exact w_X0_addActions_L9 D tc b S hr hlk hK 64 0 x5 t0 a1 _ _ _ h _ _ _ hP hS (lv_sub hl [0, 1, 2, 3] rfl)

def f_X2_give (t0 : Nat) (p1 : Int32) (p2 : Int32) (s0 : MS) : Option (Unit × MS) :=
  (m_gR s0 2 t0 3).bind fun r1 =>
  r1.bind fun a3 =>
  (m_ap s0 1 a3 p1 (.int p2)).bind fun s4 =>
  (m_gR s4 2 t0 4).bind fun r6 =>
  r6.bind fun a8 =>
  (m_ap s4 2 a8 p1 (.int 1)).bind fun s9 =>
  some ((), s9)
set_option maxHeartbeats 4000000 in
set_option maxRecDepth 100000 in
theorem c_X2_give (l : Launch) (D : va_G) (tc : Nat → ClassId) (b : Nat) (t0 : Nat) (p1 : Int32) (p2 : Int32) (s0 st' : MS) (r : Unit) (h : f_X2_give t0 p1 p2 s0 = some (r, st')) : Met l yX2_give wsX2_give ({ frames := 0, cells := 0, slots := 0, locals := 0 }) (m_Pc D vwCl (m_tys tc) b s0 [.ref t0, .int p1, .int p2]) (m_Q D vwCl (m_tys tc) b none st') 0 0 (m_A b) := by
  unfold f_X2_give at h
  refine m_met (cc := cX2_give) (maxL := 3) (ret := none) (by decide) rfl (by first | exact Nat.le_of_ble_eq_true rfl | simp [lg_sl, m_rfc, m_catI, m_catL, m_catA]) ?_
  intro p e s m below meth c ls S hr hlk hnm hK hP hl hS
  replace hl : lv_has ls 3 [(0, .ref t0), (1, .int p1), (2, .int p2)] := by first | exact hl | simpa [lv_args, m_rfc, m_catI, m_catL, m_catA] using hl
  refine lv_aload_n S.1 S.2.1 dX2_give_0 rfl (lv_at hl 0 rfl) ?_
  obtain ⟨r1, e2, h⟩ := m_bs h
  refine m_get (ci := 2) (k := 3) (T := TX2) (N := 12) S (inX2 _) hK hP (m_gR_s e2) rfl (by decide) (S.2.2.2.2 (.fieldLink RX2 15 "RuleHouse2$Target" "providers" "[I") (m_mem (by decide +kernel))) rfl dX2_give_1 ?_
  refine lv_iload_n S.1 S.2.1 dX2_give_4 rfl (lv_at hl 1 rfl) ?_
  refine lv_iload_n S.1 S.2.1 dX2_give_5 rfl (lv_at hl 2 rfl) ?_
  obtain ⟨a3, ea, g⟩ := m_bs h; clear h; subst ea; have h := g; clear g
  obtain ⟨s4, e5, h⟩ := m_bs h
  refine m_iast (t := 1) S hK hP hS e5 (by decide) rfl dX2_give_6 (fun H locs hP hS => ?_)
  refine lv_aload_n S.1 S.2.1 dX2_give_7 rfl (lv_at hl 0 rfl) ?_
  obtain ⟨r6, e7, h⟩ := m_bs h
  refine m_get (ci := 2) (k := 4) (T := TX2) (N := 12) S (inX2 _) hK hP (m_gR_s e7) rfl (by decide) (S.2.2.2.2 (.fieldLink RX2 18 "RuleHouse2$Target" "has" "[Z") (m_mem (by decide +kernel))) rfl dX2_give_8 ?_
  refine lv_iload_n S.1 S.2.1 dX2_give_11 rfl (lv_at hl 1 rfl) ?_
  refine lv_iconst (v := 1) S.1 S.2.1 dX2_give_12 (by decide) ?_
  obtain ⟨a8, ea, g⟩ := m_bs h; clear h; subst ea; have h := g; clear g
  obtain ⟨s9, e10, h⟩ := m_bs h
  refine m_zast (t := 2) S hK hP hS e10 (by decide) rfl (by decide) dX2_give_13 (fun H locs hP hS => ?_)
  obtain ⟨h1, h2⟩ := m_fin h; subst h1; subst h2
  exact m_vret S hr hlk hK hP hS (by decide +kernel) (by decide +kernel) dX2_give_14

def f_X0_giveQuotient (p1 : Option Nat) (s0 : MS) : Option (Int32 × MS) :=
  p1.bind fun a1 =>
  (m_gR s0 2 a1 2).bind fun r2 =>
  r2.bind fun a4 =>
  (m_aI s0 1 a4 1).bind fun x5 =>
  if x5 = 0 then
    some (3, s0)
  else
    (m_gR s0 2 a1 2).bind fun r8 =>
    r8.bind fun a10 =>
    (m_aI s0 1 a10 0).bind fun x11 =>
    if (x5 : Int32) = 0 then none else
    (m_is s0 2 a1).bind fun _ =>
    m_b (f_X2_give a1 1 (x11 / x5) s0) fun u14 s15 =>
    some (0, s15)
set_option maxHeartbeats 4000000 in
set_option maxRecDepth 100000 in
theorem c_X0_giveQuotient (l : Launch) (D : va_G) (tc : Nat → ClassId) (b : Nat) (p1 : Option Nat) (s0 st' : MS) (r : Int32) (h : f_X0_giveQuotient p1 s0 = some (r, st')) : Met l yX0_giveQuotient wsX0_giveQuotient ({ frames := 1, cells := 0, slots := 0, locals := 22 }) (m_Pc D vwCl (m_tys tc) b s0 [va_rf p1]) (m_Q D vwCl (m_tys tc) b (some (.int r)) st') 0 0 (m_A b) := by
  unfold f_X0_giveQuotient at h
  refine m_met (cc := cX0_giveQuotient) (maxL := 2) (ret := (some .int)) (by decide) rfl (by first | exact Nat.le_of_ble_eq_true rfl | simp [lg_sl, m_rfc, m_catI, m_catL, m_catA]) ?_
  intro p e s m below meth c ls S hr hlk hnm hK hP hl hS
  replace hl : lv_has ls 2 [(0, va_rf p1)] := by first | exact hl | simpa [lv_args, m_rfc, m_catI, m_catL, m_catA] using hl
  refine m_aload_n S.1 S.2.1 dX0_giveQuotient_0 rfl (lv_at hl 0 rfl) ?_
  obtain ⟨a1, ea, g⟩ := m_bs h; clear h; subst ea; have h := g; clear g
  obtain ⟨r2, e3, h⟩ := m_bs h
  refine m_get (ci := 2) (k := 2) (T := TX2) (N := 12) S (inX2 _) hK hP (m_gR_s e3) rfl (by decide) (S.2.2.2.2 (.fieldLink RX0 91 "RuleHouse2$Target" "attributes" "[I") (m_mem (by decide +kernel))) rfl dX0_giveQuotient_1 ?_
  refine lv_iconst (v := 1) S.1 S.2.1 dX0_giveQuotient_4 (by decide) ?_
  obtain ⟨a4, ea, g⟩ := m_bs h; clear h; subst ea; have h := g; clear g
  obtain ⟨x5, e6, h⟩ := m_bs h
  refine m_iald (t := 1) S hK hP (m_aI_s e6) rfl dX0_giveQuotient_5 ?_
  refine lv_istore_n (i := 1) (lv' := [(1, .int x5), (0, .ref a1)]) S.1 S.2.1 dX0_giveQuotient_6 rfl hl (by decide) (by first | rfl | simp [m_rfc, m_catI, m_catL, m_catA]) (fun ls hl => ?_)
  refine lv_iload_n S.1 S.2.1 dX0_giveQuotient_7 rfl (lv_at hl 0 rfl) ?_
  refine lv_if_ne (tgt := 13) S.1 S.2.1 dX0_giveQuotient_8 (by decide) (fun c7 => ?_) (fun c7 => ?_)
  · replace h := m_f c7 h
    refine lv_aload_n S.1 S.2.1 dX0_giveQuotient_13 rfl (lv_at hl 1 rfl) ?_
    refine lv_iconst (v := 1) S.1 S.2.1 dX0_giveQuotient_14 (by decide) ?_
    refine lv_aload_n S.1 S.2.1 dX0_giveQuotient_15 rfl (lv_at hl 1 rfl) ?_
    obtain ⟨r8, e9, h⟩ := m_bs h
    refine m_get (ci := 2) (k := 2) (T := TX2) (N := 12) S (inX2 _) hK hP (m_gR_s e9) rfl (by decide) (S.2.2.2.2 (.fieldLink RX0 91 "RuleHouse2$Target" "attributes" "[I") (m_mem (by decide +kernel))) rfl dX0_giveQuotient_16 ?_
    refine lv_iconst (v := 0) S.1 S.2.1 dX0_giveQuotient_19 (by decide) ?_
    obtain ⟨a10, ea, g⟩ := m_bs h; clear h; subst ea; have h := g; clear g
    obtain ⟨x11, e12, h⟩ := m_bs h
    refine m_iald (t := 1) S hK hP (m_aI_s e12) rfl dX0_giveQuotient_20 ?_
    refine lv_iload_n S.1 S.2.1 dX0_giveQuotient_21 rfl (lv_at hl 0 rfl) ?_
    by_cases c13 : (x5 : Int32) = 0
    · exact absurd (m_t c13 h) (fun h => by cases h)
    replace h := m_f c13 h
    refine lv_idiv S.1 S.2.1 dX0_giveQuotient_22 c13 ?_
    obtain ⟨_, k17, h⟩ := m_bs h
    obtain ⟨u14, s15, e16, h⟩ := m_b_s h
    refine m_callv (va_runV (As := [.int 1, .int (x11 / x5)]) (rest := []) S (c_X2_give l D tc b a1 1 (x11 / x5) _ _ _ e16) (cwV 2 S.2.2.2.2 (m_wV kX2_give (by decide +kernel)) rfl rfl rfl (by decide +kernel) ⟨by decide +kernel, by decide +kernel⟩) (m_preV hK hP (m_is_s k17) rfl) rfl rfl hl.1 rfl (lv_room (by first | decide | simp [m_rfc, m_catI, m_catL, m_catA])) dX0_giveQuotient_23 ⟨by decide +kernel, by decide +kernel⟩) hS (fun H locs hP hS => ?_)
    refine lv_iconst (v := 0) S.1 S.2.1 dX0_giveQuotient_26 (by decide) ?_
    obtain ⟨h1, h2⟩ := m_fin h; subst h1; subst h2
    exact m_iret S hr hlk hK hP hS (by decide +kernel) (by decide +kernel) dX0_giveQuotient_27
  · replace h := m_t c7 h
    refine lv_iconst (v := 3) S.1 S.2.1 dX0_giveQuotient_11 (by decide) ?_
    obtain ⟨h1, h2⟩ := m_fin h; subst h1; subst h2
    exact m_iret S hr hlk hK hP hS (by decide +kernel) (by decide +kernel) dX0_giveQuotient_12

def f_X0_giveOneMore (p1 : Option Nat) (p2 : Option Nat) (s0 : MS) : Option (Int32 × MS) :=
  m_nn p2
    (some (4, s0))
    (fun a1 =>
    (m_gR s0 2 a1 4).bind fun r2 =>
    r2.bind fun a4 =>
    (m_aI s0 2 a4 0).bind fun x5 =>
    if x5 = 0 then
      some (4, s0)
    else
      (m_gR s0 2 a1 3).bind fun r8 =>
      r8.bind fun a10 =>
      (m_aI s0 1 a10 0).bind fun x11 =>
      p1.bind fun a13 =>
      (m_is s0 2 a13).bind fun _ =>
      m_b (f_X2_give a13 0 (x11 + 1) s0) fun u14 s15 =>
      some (0, s15))
set_option maxHeartbeats 4000000 in
set_option maxRecDepth 100000 in
theorem c_X0_giveOneMore (l : Launch) (D : va_G) (tc : Nat → ClassId) (b : Nat) (p1 : Option Nat) (p2 : Option Nat) (s0 st' : MS) (r : Int32) (h : f_X0_giveOneMore p1 p2 s0 = some (r, st')) : Met l yX0_giveOneMore wsX0_giveOneMore ({ frames := 1, cells := 0, slots := 0, locals := 22 }) (m_Pc D vwCl (m_tys tc) b s0 [va_rf p1, va_rf p2]) (m_Q D vwCl (m_tys tc) b (some (.int r)) st') 0 0 (m_A b) := by
  unfold f_X0_giveOneMore at h
  refine m_met (cc := cX0_giveOneMore) (maxL := 2) (ret := (some .int)) (by decide) rfl (by first | exact Nat.le_of_ble_eq_true rfl | simp [lg_sl, m_rfc, m_catI, m_catL, m_catA]) ?_
  intro p e s m below meth c ls S hr hlk hnm hK hP hl hS
  replace hl : lv_has ls 2 [(0, va_rf p1), (1, va_rf p2)] := by first | exact hl | simpa [lv_args, m_rfc, m_catI, m_catL, m_catA] using hl
  refine m_aload_n S.1 S.2.1 dX0_giveOneMore_0 rfl (lv_at hl 1 rfl) ?_
  rcases p2 with _ | a1
  · replace h := m_nn0 h
    refine lv_ifnullN (tgt := 13) S.1 S.2.1 dX0_giveOneMore_1 (by decide) ?_
    refine lv_iconst (v := 4) S.1 S.2.1 dX0_giveOneMore_13 (by decide) ?_
    obtain ⟨h1, h2⟩ := m_fin h; subst h1; subst h2
    exact m_iret S hr hlk hK hP hS (by decide +kernel) (by decide +kernel) dX0_giveOneMore_14
  · replace h := m_nn1 h
    refine lv_ifnull S.1 S.2.1 dX0_giveOneMore_1 ?_
    refine lv_aload_n S.1 S.2.1 dX0_giveOneMore_4 rfl (lv_at hl 1 rfl) ?_
    obtain ⟨r2, e3, h⟩ := m_bs h
    refine m_get (ci := 2) (k := 4) (T := TX2) (N := 12) S (inX2 _) hK hP (m_gR_s e3) rfl (by decide) (S.2.2.2.2 (.fieldLink RX0 110 "RuleHouse2$Target" "has" "[Z") (m_mem (by decide +kernel))) rfl dX0_giveOneMore_5 ?_
    refine lv_iconst (v := 0) S.1 S.2.1 dX0_giveOneMore_8 (by decide) ?_
    obtain ⟨a4, ea, g⟩ := m_bs h; clear h; subst ea; have h := g; clear g
    obtain ⟨x5, e6, h⟩ := m_bs h
    refine m_zald (t := 2) S hK hP (m_aI_s e6) rfl dX0_giveOneMore_9 ?_
    refine lv_if_ne (tgt := 15) S.1 S.2.1 dX0_giveOneMore_10 (by decide) (fun c7 => ?_) (fun c7 => ?_)
    · replace h := m_f c7 h
      refine m_aload_n S.1 S.2.1 dX0_giveOneMore_15 rfl (lv_at hl 0 rfl) ?_
      refine lv_iconst (v := 0) S.1 S.2.1 dX0_giveOneMore_16 (by decide) ?_
      refine lv_aload_n S.1 S.2.1 dX0_giveOneMore_17 rfl (lv_at hl 1 rfl) ?_
      obtain ⟨r8, e9, h⟩ := m_bs h
      refine m_get (ci := 2) (k := 3) (T := TX2) (N := 12) S (inX2 _) hK hP (m_gR_s e9) rfl (by decide) (S.2.2.2.2 (.fieldLink RX0 114 "RuleHouse2$Target" "providers" "[I") (m_mem (by decide +kernel))) rfl dX0_giveOneMore_18 ?_
      refine lv_iconst (v := 0) S.1 S.2.1 dX0_giveOneMore_21 (by decide) ?_
      obtain ⟨a10, ea, g⟩ := m_bs h; clear h; subst ea; have h := g; clear g
      obtain ⟨x11, e12, h⟩ := m_bs h
      refine m_iald (t := 1) S hK hP (m_aI_s e12) rfl dX0_giveOneMore_22 ?_
      refine lv_iconst (v := 1) S.1 S.2.1 dX0_giveOneMore_23 (by decide) ?_
      refine lv_iadd S.1 S.2.1 dX0_giveOneMore_24 ?_
      obtain ⟨a13, ea, g⟩ := m_bs h; clear h; subst ea; have h := g; clear g
      obtain ⟨_, k17, h⟩ := m_bs h
      obtain ⟨u14, s15, e16, h⟩ := m_b_s h
      refine m_callv (va_runV (As := [.int 0, .int (x11 + 1)]) (rest := []) S (c_X2_give l D tc b a13 0 (x11 + 1) _ _ _ e16) (cwV 2 S.2.2.2.2 (m_wV kX2_give (by decide +kernel)) rfl rfl rfl (by decide +kernel) ⟨by decide +kernel, by decide +kernel⟩) (m_preV hK hP (m_is_s k17) rfl) rfl rfl hl.1 rfl (lv_room (by first | decide | simp [m_rfc, m_catI, m_catL, m_catA])) dX0_giveOneMore_25 ⟨by decide +kernel, by decide +kernel⟩) hS (fun H locs hP hS => ?_)
      refine lv_iconst (v := 0) S.1 S.2.1 dX0_giveOneMore_28 (by decide) ?_
      obtain ⟨h1, h2⟩ := m_fin h; subst h1; subst h2
      exact m_iret S hr hlk hK hP hS (by decide +kernel) (by decide +kernel) dX0_giveOneMore_29
    · replace h := m_t c7 h
      refine lv_iconst (v := 4) S.1 S.2.1 dX0_giveOneMore_13 (by decide) ?_
      obtain ⟨h1, h2⟩ := m_fin h; subst h1; subst h2
      exact m_iret S hr hlk hK hP hS (by decide +kernel) (by decide +kernel) dX0_giveOneMore_14
end
section
def f_X0_countInCell (p1 : Option Nat) (s0 : MS) : Option (Int32 × MS) :=
  p1.bind fun a1 =>
  (m_gR s0 2 a1 1).bind fun r2 =>
  r2.bind fun a4 =>
  (m_gL s0 1 a4 5).bind fun l5 =>
  (m_p s0 1 a4 5 (.long (l5 + 1))).bind fun s7 =>
  (m_gR s7 2 a1 1).bind fun r9 =>
  r9.bind fun a11 =>
  (m_gL s7 1 a11 5).bind fun l12 =>
  (m_is s7 2 a1).bind fun _ =>
  m_b (f_X2_give a1 2 ((l12 : Int64).toInt32) s7) fun u14 s15 =>
  some (0, s15)
set_option maxHeartbeats 4000000 in
set_option maxRecDepth 100000 in
theorem c_X0_countInCell (l : Launch) (D : va_G) (tc : Nat → ClassId) (b : Nat) (p1 : Option Nat) (s0 st' : MS) (r : Int32) (h : f_X0_countInCell p1 s0 = some (r, st')) : Met l yX0_countInCell wsX0_countInCell ({ frames := 1, cells := 0, slots := 0, locals := 22 }) (m_Pc D vwCl (m_tys tc) b s0 [va_rf p1]) (m_Q D vwCl (m_tys tc) b (some (.int r)) st') 0 0 (m_A b) := by
  unfold f_X0_countInCell at h
  refine m_met (cc := cX0_countInCell) (maxL := 1) (ret := (some .int)) (by decide) rfl (by first | exact Nat.le_of_ble_eq_true rfl | simp [lg_sl, m_rfc, m_catI, m_catL, m_catA]) ?_
  intro p e s m below meth c ls S hr hlk hnm hK hP hl hS
  replace hl : lv_has ls 1 [(0, va_rf p1)] := by first | exact hl | simpa [lv_args, m_rfc, m_catI, m_catL, m_catA] using hl
  refine m_aload_n S.1 S.2.1 dX0_countInCell_0 rfl (lv_at hl 0 rfl) ?_
  obtain ⟨a1, ea, g⟩ := m_bs h; clear h; subst ea; have h := g; clear g
  obtain ⟨r2, e3, h⟩ := m_bs h
  refine m_get (ci := 2) (k := 1) (T := TX2) (N := 12) S (inX2 _) hK hP (m_gR_s e3) rfl (by decide) (S.2.2.2.2 (.fieldLink RX0 157 "RuleHouse2$Target" "ruleClass" "LRuleHouse2$RuleClass;") (m_mem (by decide +kernel))) rfl dX0_countInCell_1 ?_
  refine lv_dup S.1 S.2.1 dX0_countInCell_4 (m_rfc _) ?_
  obtain ⟨a4, ea, g⟩ := m_bs h; clear h; subst ea; have h := g; clear g
  obtain ⟨l5, e6, h⟩ := m_bs h
  refine m_get (ci := 1) (k := 5) (T := TX1) (N := 6) S (inX1 _) hK hP (m_gL_s e6) rfl (by decide) (S.2.2.2.2 (.fieldLink RX0 128 "RuleHouse2$RuleClass" "cell" "J") (m_mem (by decide +kernel))) rfl dX0_countInCell_5 ?_
  refine lv_lconst (v := 1) S.1 S.2.1 dX0_countInCell_8 (by decide) ?_
  refine lv_ladd S.1 S.2.1 dX0_countInCell_9 ?_
  obtain ⟨s7, e8, h⟩ := m_bs h
  refine m_put (ci := 1) (k := 5) (T := TX1) (N := 6) (v := .long (l5 + 1)) (ty := .long) S (inX1 _) tyX1 tX1 nX1 hK hP hS e8 rfl (by decide) (S.2.2.2.2 (.fieldLink RX0 128 "RuleHouse2$RuleClass" "cell" "J") (m_mem (by decide +kernel))) rfl rfl (by decide +kernel) rfl rfl dX0_countInCell_10 (fun H locs hP hS => ?_)
  refine lv_aload_n S.1 S.2.1 dX0_countInCell_13 rfl (lv_at hl 0 rfl) ?_
  refine lv_iconst (v := 2) S.1 S.2.1 dX0_countInCell_14 (by decide) ?_
  refine lv_aload_n S.1 S.2.1 dX0_countInCell_15 rfl (lv_at hl 0 rfl) ?_
  obtain ⟨r9, e10, h⟩ := m_bs h
  refine m_get (ci := 2) (k := 1) (T := TX2) (N := 12) S (inX2 _) hK hP (m_gR_s e10) rfl (by decide) (S.2.2.2.2 (.fieldLink RX0 157 "RuleHouse2$Target" "ruleClass" "LRuleHouse2$RuleClass;") (m_mem (by decide +kernel))) rfl dX0_countInCell_16 ?_
  obtain ⟨a11, ea, g⟩ := m_bs h; clear h; subst ea; have h := g; clear g
  obtain ⟨l12, e13, h⟩ := m_bs h
  refine m_get (ci := 1) (k := 5) (T := TX1) (N := 6) S (inX1 _) hK hP (m_gL_s e13) rfl (by decide) (S.2.2.2.2 (.fieldLink RX0 128 "RuleHouse2$RuleClass" "cell" "J") (m_mem (by decide +kernel))) rfl dX0_countInCell_19 ?_
  refine lv_l2i S.1 S.2.1 dX0_countInCell_22 rfl ?_
  obtain ⟨_, k17, h⟩ := m_bs h
  obtain ⟨u14, s15, e16, h⟩ := m_b_s h
  refine m_callv (va_runV (As := [.int 2, .int ((l12 : Int64).toInt32)]) (rest := []) S (c_X2_give l D tc b a1 2 ((l12 : Int64).toInt32) _ _ _ e16) (cwV 2 S.2.2.2.2 (m_wV kX2_give (by decide +kernel)) rfl rfl rfl (by decide +kernel) ⟨by decide +kernel, by decide +kernel⟩) (m_preV hK hP (m_is_s k17) rfl) rfl rfl hl.1 rfl (lv_room (by first | decide | simp [m_rfc, m_catI, m_catL, m_catA])) dX0_countInCell_23 ⟨by decide +kernel, by decide +kernel⟩) hS (fun H locs hP hS => ?_)
  refine lv_iconst (v := 0) S.1 S.2.1 dX0_countInCell_26 (by decide) ?_
  obtain ⟨h1, h2⟩ := m_fin h; subst h1; subst h2
  exact m_iret S hr hlk hK hP hS (by decide +kernel) (by decide +kernel) dX0_countInCell_27

def f_X0_giveAmount (p1 : Option Nat) (s0 : MS) : Option (Int32 × MS) :=
  p1.bind fun a1 =>
  (m_gR s0 2 a1 2).bind fun r2 =>
  r2.bind fun a4 =>
  (m_aI s0 1 a4 0).bind fun x5 =>
  (m_gR s0 2 a1 2).bind fun r7 =>
  r7.bind fun a9 =>
  (m_aI s0 1 a9 3).bind fun x10 =>
  if x10 = 1 then
    (m_is s0 2 a1).bind fun _ =>
    m_b (f_X2_give a1 0 (-x5) s0) fun u17 s18 =>
    some (0, s18)
  else
    (m_is s0 2 a1).bind fun _ =>
    m_b (f_X2_give a1 0 x5 s0) fun u13 s14 =>
    some (0, s14)
set_option maxHeartbeats 4000000 in
set_option maxRecDepth 100000 in
theorem c_X0_giveAmount (l : Launch) (D : va_G) (tc : Nat → ClassId) (b : Nat) (p1 : Option Nat) (s0 st' : MS) (r : Int32) (h : f_X0_giveAmount p1 s0 = some (r, st')) : Met l yX0_giveAmount wsX0_giveAmount ({ frames := 1, cells := 0, slots := 0, locals := 22 }) (m_Pc D vwCl (m_tys tc) b s0 [va_rf p1]) (m_Q D vwCl (m_tys tc) b (some (.int r)) st') 0 0 (m_A b) := by
  unfold f_X0_giveAmount at h
  refine m_met (cc := cX0_giveAmount) (maxL := 2) (ret := (some .int)) (by decide) rfl (by first | exact Nat.le_of_ble_eq_true rfl | simp [lg_sl, m_rfc, m_catI, m_catL, m_catA]) ?_
  intro p e s m below meth c ls S hr hlk hnm hK hP hl hS
  replace hl : lv_has ls 2 [(0, va_rf p1)] := by first | exact hl | simpa [lv_args, m_rfc, m_catI, m_catL, m_catA] using hl
  refine m_aload_n S.1 S.2.1 dX0_giveAmount_0 rfl (lv_at hl 0 rfl) ?_
  obtain ⟨a1, ea, g⟩ := m_bs h; clear h; subst ea; have h := g; clear g
  obtain ⟨r2, e3, h⟩ := m_bs h
  refine m_get (ci := 2) (k := 2) (T := TX2) (N := 12) S (inX2 _) hK hP (m_gR_s e3) rfl (by decide) (S.2.2.2.2 (.fieldLink RX0 91 "RuleHouse2$Target" "attributes" "[I") (m_mem (by decide +kernel))) rfl dX0_giveAmount_1 ?_
  refine lv_iconst (v := 0) S.1 S.2.1 dX0_giveAmount_4 (by decide) ?_
  obtain ⟨a4, ea, g⟩ := m_bs h; clear h; subst ea; have h := g; clear g
  obtain ⟨x5, e6, h⟩ := m_bs h
  refine m_iald (t := 1) S hK hP (m_aI_s e6) rfl dX0_giveAmount_5 ?_
  refine lv_istore_n (i := 1) (lv' := [(1, .int x5), (0, .ref a1)]) S.1 S.2.1 dX0_giveAmount_6 rfl hl (by decide) (by first | rfl | simp [m_rfc, m_catI, m_catL, m_catA]) (fun ls hl => ?_)
  refine lv_aload_n S.1 S.2.1 dX0_giveAmount_7 rfl (lv_at hl 1 rfl) ?_
  refine lv_iconst (v := 0) S.1 S.2.1 dX0_giveAmount_8 (by decide) ?_
  refine lv_aload_n S.1 S.2.1 dX0_giveAmount_9 rfl (lv_at hl 1 rfl) ?_
  obtain ⟨r7, e8, h⟩ := m_bs h
  refine m_get (ci := 2) (k := 2) (T := TX2) (N := 12) S (inX2 _) hK hP (m_gR_s e8) rfl (by decide) (S.2.2.2.2 (.fieldLink RX0 91 "RuleHouse2$Target" "attributes" "[I") (m_mem (by decide +kernel))) rfl dX0_giveAmount_10 ?_
  refine lv_iconst (v := 3) S.1 S.2.1 dX0_giveAmount_13 (by decide) ?_
  obtain ⟨a9, ea, g⟩ := m_bs h; clear h; subst ea; have h := g; clear g
  obtain ⟨x10, e11, h⟩ := m_bs h
  refine m_iald (t := 1) S hK hP (m_aI_s e11) rfl dX0_giveAmount_14 ?_
  refine lv_iconst (v := 1) S.1 S.2.1 dX0_giveAmount_15 (by decide) ?_
  refine lv_icmp_ne (tgt := 24) S.1 S.2.1 dX0_giveAmount_16 (by decide) (fun c12 => ?_) (fun c12 => ?_)
  · replace h := m_f c12 h
    refine lv_iload_n S.1 S.2.1 dX0_giveAmount_24 rfl (lv_at hl 0 rfl) ?_
    obtain ⟨_, k16, h⟩ := m_bs h
    obtain ⟨u13, s14, e15, h⟩ := m_b_s h
    refine m_callv (va_runV (As := [.int 0, .int x5]) (rest := []) S (c_X2_give l D tc b a1 0 x5 _ _ _ e15) (cwV 2 S.2.2.2.2 (m_wV kX2_give (by decide +kernel)) rfl rfl rfl (by decide +kernel) ⟨by decide +kernel, by decide +kernel⟩) (m_preV hK hP (m_is_s k16) rfl) rfl rfl hl.1 rfl (lv_room (by first | decide | simp [m_rfc, m_catI, m_catL, m_catA])) dX0_giveAmount_25 ⟨by decide +kernel, by decide +kernel⟩) hS (fun H locs hP hS => ?_)
    refine lv_iconst (v := 0) S.1 S.2.1 dX0_giveAmount_28 (by decide) ?_
    obtain ⟨h1, h2⟩ := m_fin h; subst h1; subst h2
    exact m_iret S hr hlk hK hP hS (by decide +kernel) (by decide +kernel) dX0_giveAmount_29
  · replace h := m_t c12 h
    refine lv_iload_n S.1 S.2.1 dX0_giveAmount_19 rfl (lv_at hl 0 rfl) ?_
    refine lv_ineg S.1 S.2.1 dX0_giveAmount_20 ?_
    refine lv_goto (tgt := 25) S.1 S.2.1 dX0_giveAmount_21 (by decide) ?_
    obtain ⟨_, k20, h⟩ := m_bs h
    obtain ⟨u17, s18, e19, h⟩ := m_b_s h
    refine m_callv (va_runV (As := [.int 0, .int (-x5)]) (rest := []) S (c_X2_give l D tc b a1 0 (-x5) _ _ _ e19) (cwV 2 S.2.2.2.2 (m_wV kX2_give (by decide +kernel)) rfl rfl rfl (by decide +kernel) ⟨by decide +kernel, by decide +kernel⟩) (m_preV hK hP (m_is_s k20) rfl) rfl rfl hl.1 rfl (lv_room (by first | decide | simp [m_rfc, m_catI, m_catL, m_catA])) dX0_giveAmount_25 ⟨by decide +kernel, by decide +kernel⟩) hS (fun H locs hP hS => ?_)
    refine lv_iconst (v := 0) S.1 S.2.1 dX0_giveAmount_28 (by decide) ?_
    obtain ⟨h1, h2⟩ := m_fin h; subst h1; subst h2
    exact m_iret S hr hlk hK hP hS (by decide +kernel) (by decide +kernel) dX0_giveAmount_29

def f_X0_keepHandle (t0 : Nat) (s0 : MS) : Option (Int32 × MS) :=
  (m_gI s0 0 t0 9).bind fun x1 =>
  if 40 ≤ x1 then
    some (0, s0)
  else
    (m_gI s0 0 t0 9).bind fun x4 =>
    (m_p s0 0 t0 9 (.int (x4 + 1))).bind fun s6 =>
    some (0, s6)
set_option maxHeartbeats 4000000 in
set_option maxRecDepth 100000 in
theorem c_X0_keepHandle (l : Launch) (D : va_G) (tc : Nat → ClassId) (b : Nat) (t0 : Nat) (s0 st' : MS) (r : Int32) (h : f_X0_keepHandle t0 s0 = some (r, st')) : Met l yX0_keepHandle wsX0_keepHandle ({ frames := 0, cells := 0, slots := 0, locals := 0 }) (m_Pc D vwCl (m_tys tc) b s0 [.ref t0]) (m_Q D vwCl (m_tys tc) b (some (.int r)) st') 0 0 (m_A b) := by
  unfold f_X0_keepHandle at h
  refine m_met (cc := cX0_keepHandle) (maxL := 1) (ret := (some .int)) (by decide) rfl (by first | exact Nat.le_of_ble_eq_true rfl | simp [lg_sl, m_rfc, m_catI, m_catL, m_catA]) ?_
  intro p e s m below meth c ls S hr hlk hnm hK hP hl hS
  replace hl : lv_has ls 1 [(0, .ref t0)] := by first | exact hl | simpa [lv_args, m_rfc, m_catI, m_catL, m_catA] using hl
  refine lv_aload_n S.1 S.2.1 dX0_keepHandle_0 rfl (lv_at hl 0 rfl) ?_
  obtain ⟨x1, e2, h⟩ := m_bs h
  refine m_get (ci := 0) (k := 9) (T := TX0) (N := 10) S (inX0 _) hK hP (m_gI_s e2) rfl (by decide) (S.2.2.2.2 (.fieldLink RX0 41 "RuleHouse2" "handleCount" "I") (m_mem (by decide +kernel))) rfl dX0_keepHandle_1 ?_
  refine lv_bipush (v := 40) S.1 S.2.1 dX0_keepHandle_4 (by decide) ?_
  refine lv_icmp_ge (tgt := 19) S.1 S.2.1 dX0_keepHandle_6 (by decide) (fun c3 => ?_) (fun c3 => ?_)
  · replace h := m_t c3 h
    refine lv_iconst (v := 0) S.1 S.2.1 dX0_keepHandle_19 (by decide) ?_
    obtain ⟨h1, h2⟩ := m_fin h; subst h1; subst h2
    exact m_iret S hr hlk hK hP hS (by decide +kernel) (by decide +kernel) dX0_keepHandle_20
  · replace h := m_f c3 h
    refine lv_aload_n S.1 S.2.1 dX0_keepHandle_9 rfl (lv_at hl 0 rfl) ?_
    refine lv_dup S.1 S.2.1 dX0_keepHandle_10 rfl ?_
    obtain ⟨x4, e5, h⟩ := m_bs h
    refine m_get (ci := 0) (k := 9) (T := TX0) (N := 10) S (inX0 _) hK hP (m_gI_s e5) rfl (by decide) (S.2.2.2.2 (.fieldLink RX0 41 "RuleHouse2" "handleCount" "I") (m_mem (by decide +kernel))) rfl dX0_keepHandle_11 ?_
    refine lv_iconst (v := 1) S.1 S.2.1 dX0_keepHandle_14 (by decide) ?_
    refine lv_iadd S.1 S.2.1 dX0_keepHandle_15 ?_
    obtain ⟨s6, e7, h⟩ := m_bs h
    refine m_put (ci := 0) (k := 9) (T := TX0) (N := 10) (v := .int (x4 + 1)) (ty := .int) S (inX0 _) tyX0 tX0 nX0 hK hP hS e7 rfl (by decide) (S.2.2.2.2 (.fieldLink RX0 41 "RuleHouse2" "handleCount" "I") (m_mem (by decide +kernel))) rfl rfl (by decide +kernel) rfl rfl dX0_keepHandle_16 (fun H locs hP hS => ?_)
    refine lv_iconst (v := 0) S.1 S.2.1 dX0_keepHandle_19 (by decide) ?_
    obtain ⟨h1, h2⟩ := m_fin h; subst h1; subst h2
    exact m_iret S hr hlk hK hP hS (by decide +kernel) (by decide +kernel) dX0_keepHandle_20

def f_X0_doBit (t0 : Nat) (p1 : Option Nat) (p2 : Option Nat) (p3 : Int32) (s0 : MS) : Option (Int32 × MS) :=
  if p3 = 0 then
    m_b (f_X0_declareOutput p1 s0) fun x2 s3 =>
    some (x2, s3)
  else if p3 = 1 then
    m_b (f_X0_declareOutput p1 s0) fun x6 s7 =>
    some (x6, s7)
  else if p3 = 2 then
    (m_is s0 0 t0).bind fun _ =>
    m_b (f_X0_addActions t0 p1 s0) fun x10 s11 =>
    some (x10, s11)
  else if p3 = 3 then
    m_b (f_X0_giveQuotient p1 s0) fun x15 s16 =>
    some (x15, s16)
  else if p3 = 4 then
    m_b (f_X0_giveOneMore p1 p2 s0) fun x19 s20 =>
    some (x19, s20)
  else if p3 = 5 then
    m_b (f_X0_countInCell p1 s0) fun x23 s24 =>
    some (x23, s24)
  else if p3 = 6 then
    m_b (f_X0_giveAmount p1 s0) fun x27 s28 =>
    some (x27, s28)
  else (m_is s0 0 t0).bind fun _ =>
  m_b (f_X0_keepHandle t0 s0) fun x30 s31 =>
  some (x30, s31)
set_option maxHeartbeats 4000000 in
set_option maxRecDepth 100000 in
theorem c_X0_doBit (l : Launch) (D : va_G) (tc : Nat → ClassId) (b : Nat) (t0 : Nat) (p1 : Option Nat) (p2 : Option Nat) (p3 : Int32) (s0 st' : MS) (r : Int32) (h : f_X0_doBit t0 p1 p2 p3 s0 = some (r, st')) : Met l yX0_doBit wsX0_doBit ({ frames := 2, cells := 0, slots := 0, locals := 44 }) (m_Pc D vwCl (m_tys tc) b s0 [.ref t0, va_rf p1, va_rf p2, .int p3]) (m_Q D vwCl (m_tys tc) b (some (.int r)) st') 0 0 (m_A b) := by
  unfold f_X0_doBit at h
  refine m_met (cc := cX0_doBit) (maxL := 4) (ret := (some .int)) (by decide) rfl (by first | exact Nat.le_of_ble_eq_true rfl | simp [lg_sl, m_rfc, m_catI, m_catL, m_catA]) ?_
  intro p e s m below meth c ls S hr hlk hnm hK hP hl hS
  replace hl : lv_has ls 4 [(0, .ref t0), (1, va_rf p1), (2, va_rf p2), (3, .int p3)] := by first | exact hl | simpa [lv_args, m_rfc, m_catI, m_catL, m_catA] using hl
  refine lv_iload_n S.1 S.2.1 dX0_doBit_0 rfl (lv_at hl 3 rfl) ?_
  by_cases c1 : p3 = 0
  · replace h := m_t c1 h
    refine lv_tableIn (tgt := 44) S.1 S.2.1 dX0_doBit_1 (by rw [c1]; decide) (by rw [c1]; decide) (by rw [c1]; rfl) (by decide) ?_
    refine m_aload_n S.1 S.2.1 dX0_doBit_44 rfl (lv_at hl 1 rfl) ?_
    obtain ⟨x2, s3, e4, h⟩ := m_b_s h
    refine m_calli (va_runS (As := [va_rf p1]) (rest := []) S (c_X0_declareOutput l D tc b p1 _ _ _ e4) (cwS 1 S.2.2.2.2 (m_wS kX0_declareOutput (by decide +kernel)) rfl rfl rfl (by decide +kernel) ⟨by decide +kernel, by decide +kernel⟩) (m_preS hK hP) rfl rfl hl.1 rfl (lv_room (by first | decide | simp [m_rfc, m_catI, m_catL, m_catA])) dX0_doBit_45 ⟨by decide +kernel, by decide +kernel⟩) hS (fun H locs hP hS => ?_)
    obtain ⟨h1, h2⟩ := m_fin h; subst h1; subst h2
    exact m_iret S hr hlk hK hP hS (by decide +kernel) (by decide +kernel) dX0_doBit_48
  replace h := m_f c1 h
  by_cases c5 : p3 = 1
  · replace h := m_t c5 h
    refine lv_tableIn (tgt := 44) S.1 S.2.1 dX0_doBit_1 (by rw [c5]; decide) (by rw [c5]; decide) (by rw [c5]; rfl) (by decide) ?_
    refine m_aload_n S.1 S.2.1 dX0_doBit_44 rfl (lv_at hl 1 rfl) ?_
    obtain ⟨x6, s7, e8, h⟩ := m_b_s h
    refine m_calli (va_runS (As := [va_rf p1]) (rest := []) S (c_X0_declareOutput l D tc b p1 _ _ _ e8) (cwS 1 S.2.2.2.2 (m_wS kX0_declareOutput (by decide +kernel)) rfl rfl rfl (by decide +kernel) ⟨by decide +kernel, by decide +kernel⟩) (m_preS hK hP) rfl rfl hl.1 rfl (lv_room (by first | decide | simp [m_rfc, m_catI, m_catL, m_catA])) dX0_doBit_45 ⟨by decide +kernel, by decide +kernel⟩) hS (fun H locs hP hS => ?_)
    obtain ⟨h1, h2⟩ := m_fin h; subst h1; subst h2
    exact m_iret S hr hlk hK hP hS (by decide +kernel) (by decide +kernel) dX0_doBit_48
  replace h := m_f c5 h
  by_cases c9 : p3 = 2
  · replace h := m_t c9 h
    refine lv_tableIn (tgt := 49) S.1 S.2.1 dX0_doBit_1 (by rw [c9]; decide) (by rw [c9]; decide) (by rw [c9]; rfl) (by decide) ?_
    refine lv_aload_n S.1 S.2.1 dX0_doBit_49 rfl (lv_at hl 0 rfl) ?_
    refine m_aload_n S.1 S.2.1 dX0_doBit_50 rfl (lv_at hl 1 rfl) ?_
    obtain ⟨_, k13, h⟩ := m_bs h
    obtain ⟨x10, s11, e12, h⟩ := m_b_s h
    refine m_calli (va_runV (As := [va_rf p1]) (rest := []) S (c_X0_addActions l D tc b t0 p1 _ _ _ e12) (cwV 1 S.2.2.2.2 (m_wV kX0_addActions (by decide +kernel)) rfl rfl rfl (by decide +kernel) ⟨by decide +kernel, by decide +kernel⟩) (m_preV hK hP (m_is_s k13) rfl) rfl rfl hl.1 rfl (lv_room (by first | decide | simp [m_rfc, m_catI, m_catL, m_catA])) dX0_doBit_51 ⟨by decide +kernel, by decide +kernel⟩) hS (fun H locs hP hS => ?_)
    obtain ⟨h1, h2⟩ := m_fin h; subst h1; subst h2
    exact m_iret S hr hlk hK hP hS (by decide +kernel) (by decide +kernel) dX0_doBit_54
  replace h := m_f c9 h
  by_cases c14 : p3 = 3
  · replace h := m_t c14 h
    refine lv_tableIn (tgt := 55) S.1 S.2.1 dX0_doBit_1 (by rw [c14]; decide) (by rw [c14]; decide) (by rw [c14]; rfl) (by decide) ?_
    refine m_aload_n S.1 S.2.1 dX0_doBit_55 rfl (lv_at hl 1 rfl) ?_
    obtain ⟨x15, s16, e17, h⟩ := m_b_s h
    refine m_calli (va_runS (As := [va_rf p1]) (rest := []) S (c_X0_giveQuotient l D tc b p1 _ _ _ e17) (cwS 1 S.2.2.2.2 (m_wS kX0_giveQuotient (by decide +kernel)) rfl rfl rfl (by decide +kernel) ⟨by decide +kernel, by decide +kernel⟩) (m_preS hK hP) rfl rfl hl.1 rfl (lv_room (by first | decide | simp [m_rfc, m_catI, m_catL, m_catA])) dX0_doBit_56 ⟨by decide +kernel, by decide +kernel⟩) hS (fun H locs hP hS => ?_)
    obtain ⟨h1, h2⟩ := m_fin h; subst h1; subst h2
    exact m_iret S hr hlk hK hP hS (by decide +kernel) (by decide +kernel) dX0_doBit_59
  replace h := m_f c14 h
  by_cases c18 : p3 = 4
  · replace h := m_t c18 h
    refine lv_tableIn (tgt := 60) S.1 S.2.1 dX0_doBit_1 (by rw [c18]; decide) (by rw [c18]; decide) (by rw [c18]; rfl) (by decide) ?_
    refine m_aload_n S.1 S.2.1 dX0_doBit_60 rfl (lv_at hl 1 rfl) ?_
    refine m_aload_n S.1 S.2.1 dX0_doBit_61 rfl (lv_at hl 2 rfl) ?_
    obtain ⟨x19, s20, e21, h⟩ := m_b_s h
    refine m_calli (va_runS (As := [va_rf p1, va_rf p2]) (rest := []) S (c_X0_giveOneMore l D tc b p1 p2 _ _ _ e21) (cwS 2 S.2.2.2.2 (m_wS kX0_giveOneMore (by decide +kernel)) rfl rfl rfl (by decide +kernel) ⟨by decide +kernel, by decide +kernel⟩) (m_preS hK hP) rfl rfl hl.1 rfl (lv_room (by first | decide | simp [m_rfc, m_catI, m_catL, m_catA])) dX0_doBit_62 ⟨by decide +kernel, by decide +kernel⟩) hS (fun H locs hP hS => ?_)
    obtain ⟨h1, h2⟩ := m_fin h; subst h1; subst h2
    exact m_iret S hr hlk hK hP hS (by decide +kernel) (by decide +kernel) dX0_doBit_65
  replace h := m_f c18 h
  by_cases c22 : p3 = 5
  · replace h := m_t c22 h
    refine lv_tableIn (tgt := 66) S.1 S.2.1 dX0_doBit_1 (by rw [c22]; decide) (by rw [c22]; decide) (by rw [c22]; rfl) (by decide) ?_
    refine m_aload_n S.1 S.2.1 dX0_doBit_66 rfl (lv_at hl 1 rfl) ?_
    obtain ⟨x23, s24, e25, h⟩ := m_b_s h
    refine m_calli (va_runS (As := [va_rf p1]) (rest := []) S (c_X0_countInCell l D tc b p1 _ _ _ e25) (cwS 1 S.2.2.2.2 (m_wS kX0_countInCell (by decide +kernel)) rfl rfl rfl (by decide +kernel) ⟨by decide +kernel, by decide +kernel⟩) (m_preS hK hP) rfl rfl hl.1 rfl (lv_room (by first | decide | simp [m_rfc, m_catI, m_catL, m_catA])) dX0_doBit_67 ⟨by decide +kernel, by decide +kernel⟩) hS (fun H locs hP hS => ?_)
    obtain ⟨h1, h2⟩ := m_fin h; subst h1; subst h2
    exact m_iret S hr hlk hK hP hS (by decide +kernel) (by decide +kernel) dX0_doBit_70
  replace h := m_f c22 h
  by_cases c26 : p3 = 6
  · replace h := m_t c26 h
    refine lv_tableIn (tgt := 71) S.1 S.2.1 dX0_doBit_1 (by rw [c26]; decide) (by rw [c26]; decide) (by rw [c26]; rfl) (by decide) ?_
    refine m_aload_n S.1 S.2.1 dX0_doBit_71 rfl (lv_at hl 1 rfl) ?_
    obtain ⟨x27, s28, e29, h⟩ := m_b_s h
    refine m_calli (va_runS (As := [va_rf p1]) (rest := []) S (c_X0_giveAmount l D tc b p1 _ _ _ e29) (cwS 1 S.2.2.2.2 (m_wS kX0_giveAmount (by decide +kernel)) rfl rfl rfl (by decide +kernel) ⟨by decide +kernel, by decide +kernel⟩) (m_preS hK hP) rfl rfl hl.1 rfl (lv_room (by first | decide | simp [m_rfc, m_catI, m_catL, m_catA])) dX0_doBit_72 ⟨by decide +kernel, by decide +kernel⟩) hS (fun H locs hP hS => ?_)
    obtain ⟨h1, h2⟩ := m_fin h; subst h1; subst h2
    exact m_iret S hr hlk hK hP hS (by decide +kernel) (by decide +kernel) dX0_doBit_75
  replace h := m_f c26 h
  have nc26 := (⟨lv_neT (a := 0) c1 (by decide), lv_neT (a := 1) c5 (by decide), lv_neT (a := 2) c9 (by decide), lv_neT (a := 3) c14 (by decide), lv_neT (a := 4) c18 (by decide), lv_neT (a := 5) c22 (by decide), lv_neT (a := 6) c26 (by decide)⟩ : ¬ (p3).toInt = 0 ∧ ¬ (p3).toInt = 1 ∧ ¬ (p3).toInt = 2 ∧ ¬ (p3).toInt = 3 ∧ ¬ (p3).toInt = 4 ∧ ¬ (p3).toInt = 5 ∧ ¬ (p3).toInt = 6)
  refine lv_tableOut (tgt := 76) S.1 S.2.1 dX0_doBit_1 (by omega) (by decide) ?_
  refine lv_aload_n S.1 S.2.1 dX0_doBit_76 rfl (lv_at hl 0 rfl) ?_
  obtain ⟨_, k33, h⟩ := m_bs h
  obtain ⟨x30, s31, e32, h⟩ := m_b_s h
  refine m_calli (va_runV (As := []) (rest := []) S (c_X0_keepHandle l D tc b t0 _ _ _ e32) (cwV 0 S.2.2.2.2 (m_wV kX0_keepHandle (by decide +kernel)) rfl rfl rfl (by decide +kernel) ⟨by decide +kernel, by decide +kernel⟩) (m_preV hK hP (m_is_s k33) rfl) rfl rfl hl.1 rfl (lv_room (by first | decide | simp [m_rfc, m_catI, m_catL, m_catA])) dX0_doBit_77 ⟨by decide +kernel, by decide +kernel⟩) hS (fun H locs hP hS => ?_)
  obtain ⟨h1, h2⟩ := m_fin h; subst h1; subst h2
  exact m_iret S hr hlk hK hP hS (by decide +kernel) (by decide +kernel) dX0_doBit_80

def f_X0_doBits_L8 : Nat → Int32 → Int32 → Nat → (Option Nat) → (Option Nat) → MS → Option (Unit × MS)
  | 0, _, _, _, _, _, _ => none
  | f + 1, q4, q3, q0, q1, q2, s0 =>
    if 8 ≤ q4 then
      some ((), s0)
    else
      q1.bind fun a4 =>
      (m_gR s0 2 a4 1).bind fun r5 =>
      r5.bind fun a7 =>
      (m_gI s0 1 a7 1).bind fun x8 =>
      if ((x8 >>> (q4 &&& 31)) &&& 1) = 0 then
        f_X0_doBits_L8 f (q4 + 1) q3 q0 (some a4) q2 s0
      else
        (m_is s0 0 q0).bind fun _ =>
        m_b (f_X0_takesStep q0 (some a4) s0) fun x11 s12 =>
        if x11 = 0 then
          if (5 : Int32) = 0 then
            f_X0_doBits_L8 f (q4 + 1) q3 q0 (some a4) q2 s12
          else
            (m_p s12 0 q0 8 (.int q3)).bind fun s17 =>
            (m_gI s17 2 a4 0).bind fun x19 =>
            (m_is s17 2 a4).bind fun _ =>
            m_b (f_X2_fail a4 5 q4 x19 s17) fun u21 s22 =>
            some ((), s22)
        else
          (m_is s12 0 q0).bind fun _ =>
          m_b (f_X0_doBit q0 (some a4) q2 q4 s12) fun x25 s26 =>
          if x25 = 0 then
            f_X0_doBits_L8 f (q4 + 1) q3 q0 (some a4) q2 s26
          else
            (m_p s26 0 q0 8 (.int q3)).bind fun s30 =>
            (m_gI s30 2 a4 0).bind fun x32 =>
            (m_is s30 2 a4).bind fun _ =>
            m_b (f_X2_fail a4 x25 q4 x32 s30) fun u34 s35 =>
            some ((), s35)
def f_X0_doBits (t0 : Nat) (p1 : Option Nat) (p2 : Option Nat) (s0 : MS) : Option (Unit × MS) :=
  (m_gI s0 0 t0 8).bind fun x1 =>
  f_X0_doBits_L8 64 0 x1 t0 p1 p2 s0
set_option maxHeartbeats 4000000 in
set_option maxRecDepth 100000 in
theorem w_X0_doBits_L8 {p : Program} {l : Launch} {e : Env} {s : State} {m : MethodId} {args : Array Value} {below : List Frame} {meth : Method} {c : Code} (D : va_G) (tc : Nat → ClassId) (b : Nat) (S : CallFix p m c cX0_doBits 6 s args wsX0_doBits RX0) (hr : meth.sig.returnType = none) (hlk : meth.locks = false) (hK : va_K D vwCl (m_tys tc) s) :
    ∀ (f : Nat) (q4 : Int32) (q3 : Int32) (q0 : Nat) (q1 : Option Nat) (q2 : Option Nat) (s0 st' : MS) (r : Unit) (h : f_X0_doBits_L8 f q4 q3 q0 q1 q2 s0 = some (r, st')) (H : Heap) (locs : List Loc) (ls : Array Slot) (hP : mw D vwCl (m_tys tc) b s0 H) (hS : va_S (m_A b) s.heap H locs) (hl : lv_has ls 6 [(4, .int q4), (3, .int q3), (0, .ref q0), (1, va_rf q1), (2, va_rf q2)]), W p l e { frames := 3, cells := 0, slots := 0, locals := 67 } s m args below meth c H locs 0 0 (MQ below (m_Q D vwCl (m_tys tc) b none st') args s 0 0 (m_A b)) (F0 m 8 ls []) := by
  intro f
  induction f with
  | zero =>
    intro q4 q3 q0 q1 q2 s0 st' r h
    cases h
  | succ f ih =>
    intro q4 q3 q0 q1 q2 s0 st' r h H locs ls hP hS hl
    rw [f_X0_doBits_L8] at h
    refine lv_iload S.1 S.2.1 dX0_doBits_8 (lv_at hl 0 rfl) ?_
    refine lv_bipush (v := 8) S.1 S.2.1 dX0_doBits_10 (by decide) ?_
    refine lv_icmp_ge (tgt := 84) S.1 S.2.1 dX0_doBits_12 (by decide) (fun c3 => ?_) (fun c3 => ?_)
    · replace h := m_t c3 h
      obtain ⟨h1, h2⟩ := m_fin h; subst h1; subst h2
      exact m_vret S hr hlk hK hP hS (by decide +kernel) (by decide +kernel) dX0_doBits_84
    · replace h := m_f c3 h
      refine m_aload_n S.1 S.2.1 dX0_doBits_15 rfl (lv_at hl 3 rfl) ?_
      obtain ⟨a4, ea, g⟩ := m_bs h; clear h; subst ea; have h := g; clear g
      obtain ⟨r5, e6, h⟩ := m_bs h
      refine m_get (ci := 2) (k := 1) (T := TX2) (N := 12) S (inX2 _) hK hP (m_gR_s e6) rfl (by decide) (S.2.2.2.2 (.fieldLink RX0 157 "RuleHouse2$Target" "ruleClass" "LRuleHouse2$RuleClass;") (m_mem (by decide +kernel))) rfl dX0_doBits_16 ?_
      obtain ⟨a7, ea, g⟩ := m_bs h; clear h; subst ea; have h := g; clear g
      obtain ⟨x8, e9, h⟩ := m_bs h
      refine m_get (ci := 1) (k := 1) (T := TX1) (N := 6) S (inX1 _) hK hP (m_gI_s e9) rfl (by decide) (S.2.2.2.2 (.fieldLink RX0 135 "RuleHouse2$RuleClass" "does" "I") (m_mem (by decide +kernel))) rfl dX0_doBits_19 ?_
      refine lv_iload S.1 S.2.1 dX0_doBits_22 (lv_at hl 0 rfl) ?_
      refine lv_ishr S.1 S.2.1 dX0_doBits_24 ?_
      refine lv_iconst (v := 1) S.1 S.2.1 dX0_doBits_25 (by decide) ?_
      refine lv_iand S.1 S.2.1 dX0_doBits_26 ?_
      refine lv_if_ne (tgt := 33) S.1 S.2.1 dX0_doBits_27 (by decide) (fun c10 => ?_) (fun c10 => ?_)
      · replace h := m_f c10 h
        refine lv_aload_n S.1 S.2.1 dX0_doBits_33 rfl (lv_at hl 2 rfl) ?_
        refine lv_aload_n S.1 S.2.1 dX0_doBits_34 rfl (lv_at hl 3 rfl) ?_
        obtain ⟨_, k14, h⟩ := m_bs h
        obtain ⟨x11, s12, e13, h⟩ := m_b_s h
        refine m_calli (va_runV (As := [va_rf (some a4)]) (rest := []) S (c_X0_takesStep l D tc b q0 (some a4) _ _ _ e13) (cwV 1 S.2.2.2.2 (m_wV kX0_takesStep (by decide +kernel)) rfl rfl rfl (by decide +kernel) ⟨by decide +kernel, by decide +kernel⟩) (m_preV hK hP (m_is_s k14) rfl) rfl rfl hl.1 rfl (lv_room (by first | decide | simp [m_rfc, m_catI, m_catL, m_catA])) dX0_doBits_35 ⟨by decide +kernel, by decide +kernel⟩) hS (fun H locs hP hS => ?_)
        refine lv_if_eq (tgt := 52) S.1 S.2.1 dX0_doBits_38 (by decide) (fun c15 => ?_) (fun c15 => ?_)
        · replace h := m_t c15 h
          refine lv_iconst (v := 5) S.1 S.2.1 dX0_doBits_52 (by decide) ?_
          refine lv_istore (i := 5) (lv' := [(5, .int 5), (4, .int q4), (3, .int q3), (0, .ref q0), (1, .ref a4), (2, va_rf q2)]) S.1 S.2.1 dX0_doBits_53 hl (by decide) (by first | rfl | simp [m_rfc, m_catI, m_catL, m_catA]) (fun ls hl => ?_)
          refine lv_iload S.1 S.2.1 dX0_doBits_55 (lv_at hl 0 rfl) ?_
          refine lv_if_eq (tgt := 78) S.1 S.2.1 dX0_doBits_57 (by decide) (fun c16 => ?_) (fun c16 => ?_)
          · replace h := m_t c16 h
            refine lv_iinc (v := q4 + 1) (lv' := [(4, .int (q4 + 1)), (5, .int 5), (3, .int q3), (0, .ref q0), (1, .ref a4), (2, va_rf q2)]) S.1 S.2.1 dX0_doBits_78 hl (k := 1) rfl rfl (by decide) (by first | rfl | simp [m_rfc, m_catI, m_catL, m_catA]) (fun ls hl => ?_)
            refine lv_goto (tgt := 8) S.1 S.2.1 dX0_doBits_81 (by decide) ?_
            exact ih (q4 + 1) q3 q0 (some a4) q2 _ _ _ h _ _ _ hP hS (lv_sub hl [0, 2, 3, 4, 5] rfl)
          · replace h := m_f c16 h
            refine lv_aload_n S.1 S.2.1 dX0_doBits_60 rfl (lv_at hl 3 rfl) ?_
            refine lv_iload_n S.1 S.2.1 dX0_doBits_61 rfl (lv_at hl 2 rfl) ?_
            obtain ⟨s17, e18, h⟩ := m_bs h
            refine m_put (ci := 0) (k := 8) (T := TX0) (N := 10) (v := .int q3) (ty := .int) S (inX0 _) tyX0 tX0 nX0 hK hP hS e18 rfl (by decide) (S.2.2.2.2 (.fieldLink RX0 38 "RuleHouse2" "actionCount" "I") (m_mem (by decide +kernel))) rfl rfl (by decide +kernel) rfl rfl dX0_doBits_62 (fun H locs hP hS => ?_)
            refine lv_aload_n S.1 S.2.1 dX0_doBits_65 rfl (lv_at hl 4 rfl) ?_
            refine lv_iload S.1 S.2.1 dX0_doBits_66 (lv_at hl 0 rfl) ?_
            refine lv_iload S.1 S.2.1 dX0_doBits_68 (lv_at hl 1 rfl) ?_
            refine lv_aload_n S.1 S.2.1 dX0_doBits_70 rfl (lv_at hl 4 rfl) ?_
            obtain ⟨x19, e20, h⟩ := m_bs h
            refine m_get (ci := 2) (k := 0) (T := TX2) (N := 12) S (inX2 _) hK hP (m_gI_s e20) rfl (by decide) (S.2.2.2.2 (.fieldLink RX0 156 "RuleHouse2$Target" "number" "I") (m_mem (by decide +kernel))) rfl dX0_doBits_71 ?_
            obtain ⟨_, k24, h⟩ := m_bs h
            obtain ⟨u21, s22, e23, h⟩ := m_b_s h
            refine m_callv (va_runV (As := [.int 5, .int q4, .int x19]) (rest := []) S (c_X2_fail l D tc b a4 5 q4 x19 _ _ _ e23) (cwV 3 S.2.2.2.2 (m_wV kX2_fail (by decide +kernel)) rfl rfl rfl (by decide +kernel) ⟨by decide +kernel, by decide +kernel⟩) (m_preV hK hP (m_is_s k24) rfl) rfl rfl hl.1 rfl (lv_room (by first | decide | simp [m_rfc, m_catI, m_catL, m_catA])) dX0_doBits_74 ⟨by decide +kernel, by decide +kernel⟩) hS (fun H locs hP hS => ?_)
            obtain ⟨h1, h2⟩ := m_fin h; subst h1; subst h2
            exact m_vret S hr hlk hK hP hS (by decide +kernel) (by decide +kernel) dX0_doBits_77
        · replace h := m_f c15 h
          refine lv_aload_n S.1 S.2.1 dX0_doBits_41 rfl (lv_at hl 2 rfl) ?_
          refine lv_aload_n S.1 S.2.1 dX0_doBits_42 rfl (lv_at hl 3 rfl) ?_
          refine m_aload_n S.1 S.2.1 dX0_doBits_43 rfl (lv_at hl 4 rfl) ?_
          refine lv_iload S.1 S.2.1 dX0_doBits_44 (lv_at hl 0 rfl) ?_
          obtain ⟨_, k28, h⟩ := m_bs h
          obtain ⟨x25, s26, e27, h⟩ := m_b_s h
          refine m_calli (va_runV (As := [va_rf (some a4), va_rf q2, .int q4]) (rest := []) S (c_X0_doBit l D tc b q0 (some a4) q2 q4 _ _ _ e27) (cwV 3 S.2.2.2.2 (m_wV kX0_doBit (by decide +kernel)) rfl rfl rfl (by decide +kernel) ⟨by decide +kernel, by decide +kernel⟩) (m_preV hK hP (m_is_s k28) rfl) rfl rfl hl.1 rfl (lv_room (by first | decide | simp [m_rfc, m_catI, m_catL, m_catA])) dX0_doBits_46 ⟨by decide +kernel, by decide +kernel⟩) hS (fun H locs hP hS => ?_)
          refine lv_goto (tgt := 53) S.1 S.2.1 dX0_doBits_49 (by decide) ?_
          refine lv_istore (i := 5) (lv' := [(5, .int x25), (4, .int q4), (3, .int q3), (0, .ref q0), (1, .ref a4), (2, va_rf q2)]) S.1 S.2.1 dX0_doBits_53 hl (by decide) (by first | rfl | simp [m_rfc, m_catI, m_catL, m_catA]) (fun ls hl => ?_)
          refine lv_iload S.1 S.2.1 dX0_doBits_55 (lv_at hl 0 rfl) ?_
          refine lv_if_eq (tgt := 78) S.1 S.2.1 dX0_doBits_57 (by decide) (fun c29 => ?_) (fun c29 => ?_)
          · replace h := m_t c29 h
            refine lv_iinc (v := q4 + 1) (lv' := [(4, .int (q4 + 1)), (5, .int x25), (3, .int q3), (0, .ref q0), (1, .ref a4), (2, va_rf q2)]) S.1 S.2.1 dX0_doBits_78 hl (k := 1) rfl rfl (by decide) (by first | rfl | simp [m_rfc, m_catI, m_catL, m_catA]) (fun ls hl => ?_)
            refine lv_goto (tgt := 8) S.1 S.2.1 dX0_doBits_81 (by decide) ?_
            exact ih (q4 + 1) q3 q0 (some a4) q2 _ _ _ h _ _ _ hP hS (lv_sub hl [0, 2, 3, 4, 5] rfl)
          · replace h := m_f c29 h
            refine lv_aload_n S.1 S.2.1 dX0_doBits_60 rfl (lv_at hl 3 rfl) ?_
            refine lv_iload_n S.1 S.2.1 dX0_doBits_61 rfl (lv_at hl 2 rfl) ?_
            obtain ⟨s30, e31, h⟩ := m_bs h
            refine m_put (ci := 0) (k := 8) (T := TX0) (N := 10) (v := .int q3) (ty := .int) S (inX0 _) tyX0 tX0 nX0 hK hP hS e31 rfl (by decide) (S.2.2.2.2 (.fieldLink RX0 38 "RuleHouse2" "actionCount" "I") (m_mem (by decide +kernel))) rfl rfl (by decide +kernel) rfl rfl dX0_doBits_62 (fun H locs hP hS => ?_)
            refine lv_aload_n S.1 S.2.1 dX0_doBits_65 rfl (lv_at hl 4 rfl) ?_
            refine lv_iload S.1 S.2.1 dX0_doBits_66 (lv_at hl 0 rfl) ?_
            refine lv_iload S.1 S.2.1 dX0_doBits_68 (lv_at hl 1 rfl) ?_
            refine lv_aload_n S.1 S.2.1 dX0_doBits_70 rfl (lv_at hl 4 rfl) ?_
            obtain ⟨x32, e33, h⟩ := m_bs h
            refine m_get (ci := 2) (k := 0) (T := TX2) (N := 12) S (inX2 _) hK hP (m_gI_s e33) rfl (by decide) (S.2.2.2.2 (.fieldLink RX0 156 "RuleHouse2$Target" "number" "I") (m_mem (by decide +kernel))) rfl dX0_doBits_71 ?_
            obtain ⟨_, k37, h⟩ := m_bs h
            obtain ⟨u34, s35, e36, h⟩ := m_b_s h
            refine m_callv (va_runV (As := [.int x25, .int q4, .int x32]) (rest := []) S (c_X2_fail l D tc b a4 x25 q4 x32 _ _ _ e36) (cwV 3 S.2.2.2.2 (m_wV kX2_fail (by decide +kernel)) rfl rfl rfl (by decide +kernel) ⟨by decide +kernel, by decide +kernel⟩) (m_preV hK hP (m_is_s k37) rfl) rfl rfl hl.1 rfl (lv_room (by first | decide | simp [m_rfc, m_catI, m_catL, m_catA])) dX0_doBits_74 ⟨by decide +kernel, by decide +kernel⟩) hS (fun H locs hP hS => ?_)
            obtain ⟨h1, h2⟩ := m_fin h; subst h1; subst h2
            exact m_vret S hr hlk hK hP hS (by decide +kernel) (by decide +kernel) dX0_doBits_77
      · replace h := m_t c10 h
        refine lv_goto (tgt := 78) S.1 S.2.1 dX0_doBits_30 (by decide) ?_
        refine lv_iinc (v := q4 + 1) (lv' := [(4, .int (q4 + 1)), (3, .int q3), (0, .ref q0), (1, .ref a4), (2, va_rf q2)]) S.1 S.2.1 dX0_doBits_78 hl (k := 0) rfl rfl (by decide) (by first | rfl | simp [m_rfc, m_catI, m_catL, m_catA]) (fun ls hl => ?_)
        refine lv_goto (tgt := 8) S.1 S.2.1 dX0_doBits_81 (by decide) ?_
        exact ih (q4 + 1) q3 q0 (some a4) q2 _ _ _ h _ _ _ hP hS (lv_sub hl [0, 1, 2, 3, 4] rfl)
set_option maxHeartbeats 4000000 in
set_option maxRecDepth 100000 in
theorem c_X0_doBits (l : Launch) (D : va_G) (tc : Nat → ClassId) (b : Nat) (t0 : Nat) (p1 : Option Nat) (p2 : Option Nat) (s0 st' : MS) (r : Unit) (h : f_X0_doBits t0 p1 p2 s0 = some (r, st')) : Met l yX0_doBits wsX0_doBits ({ frames := 3, cells := 0, slots := 0, locals := 67 }) (m_Pc D vwCl (m_tys tc) b s0 [.ref t0, va_rf p1, va_rf p2]) (m_Q D vwCl (m_tys tc) b none st') 0 0 (m_A b) := by
  unfold f_X0_doBits at h
  refine m_met (cc := cX0_doBits) (maxL := 6) (ret := none) (by decide) rfl (by first | exact Nat.le_of_ble_eq_true rfl | simp [lg_sl, m_rfc, m_catI, m_catL, m_catA]) ?_
  intro p e s m below meth c ls S hr hlk hnm hK hP hl hS
  replace hl : lv_has ls 6 [(0, .ref t0), (1, va_rf p1), (2, va_rf p2)] := by first | exact hl | simpa [lv_args, m_rfc, m_catI, m_catL, m_catA] using hl
  refine lv_aload_n S.1 S.2.1 dX0_doBits_0 rfl (lv_at hl 0 rfl) ?_
  obtain ⟨x1, e2, h⟩ := m_bs h
  refine m_get (ci := 0) (k := 8) (T := TX0) (N := 10) S (inX0 _) hK hP (m_gI_s e2) rfl (by decide) (S.2.2.2.2 (.fieldLink RX0 38 "RuleHouse2" "actionCount" "I") (m_mem (by decide +kernel))) rfl dX0_doBits_1 ?_
  refine lv_istore_n (i := 3) (lv' := [(3, .int x1), (0, .ref t0), (1, va_rf p1), (2, va_rf p2)]) S.1 S.2.1 dX0_doBits_4 rfl hl (by decide) (by first | rfl | simp [m_rfc, m_catI, m_catL, m_catA]) (fun ls hl => ?_)
  refine lv_iconst (v := 0) S.1 S.2.1 dX0_doBits_5 (by decide) ?_
  refine lv_istore (i := 4) (lv' := [(4, .int 0), (3, .int x1), (0, .ref t0), (1, va_rf p1), (2, va_rf p2)]) S.1 S.2.1 dX0_doBits_6 hl (by decide) (by first | rfl | simp [m_rfc, m_catI, m_catL, m_catA]) (fun ls hl => ?_)
  exact w_X0_doBits_L8 D tc b S hr hlk hK 64 0 x1 t0 p1 p2 _ _ _ h _ _ _ hP hS (lv_sub hl [0, 1, 2, 3, 4] rfl)

def f_X0_runOnce : Nat → Nat → (Option Nat) → Int32 → MS → Option (Unit × MS)
  | 0, _, _, _, _ => none
  | d + 1, t0, p1, p2, s0 =>
  p1.bind fun a1 =>
  (m_gI s0 2 a1 5).bind fun x2 =>
  if x2 = 0 then
    if p2 < 40 then
      (m_p s0 2 a1 5 (.int 1)).bind fun s6 =>
      (m_gR s6 2 a1 1).bind fun r8 =>
      (m_is s6 0 t0).bind fun _ =>
      m_b (f_X0_ensureMade t0 r8 s6) fun x10 s11 =>
      if x10 = 0 then
        (m_gI s11 2 a1 0).bind fun x46 =>
        (m_is s11 2 a1).bind fun _ =>
        m_b (f_X2_fail a1 1 8 x46 s11) fun u48 s49 =>
        some ((), s49)
      else
        (m_gR s11 2 a1 2).bind fun r15 =>
        r15.bind fun a17 =>
        (m_aI s11 1 a17 2).bind fun x18 =>
        (m_is s11 0 t0).bind fun _ =>
        m_b (f_X0_targetAt t0 (x18 - 1) s11) fun r20 s21 =>
        m_nn r20
          ((m_is s21 0 t0).bind fun _ =>
          m_b (f_X0_doBits t0 (some a1) none s21) fun u25 s26 =>
          some ((), s26))
          (fun a24 =>
          (m_is s21 0 t0).bind fun _ =>
          m_b (f_X0_runOnce d t0 (some a24) (p2 + 1) s21) fun u29 s30 =>
          (m_gI s30 2 a24 9).bind fun x33 =>
          if x33 = 0 then
            (m_is s30 0 t0).bind fun _ =>
            m_b (f_X0_doBits t0 (some a1) (some a24) s30) fun u36 s37 =>
            some ((), s37)
          else
            (m_gI s30 2 a24 11).bind fun x40 =>
            (m_is s30 2 a1).bind fun _ =>
            m_b (f_X2_fail a1 6 8 x40 s30) fun u42 s43 =>
            some ((), s43))
    else
      some ((), s0)
  else
    some ((), s0)
set_option maxHeartbeats 4000000 in
set_option maxRecDepth 100000 in
theorem c_X0_runOnce (l : Launch) (D : va_G) (tc : Nat → ClassId) (b : Nat) : ∀ (d : Nat) (t0 : Nat) (p1 : Option Nat) (p2 : Int32) (s0 st' : MS) (r : Unit) (h : f_X0_runOnce d t0 p1 p2 s0 = some (r, st')), Met l yX0_runOnce wsX0_runOnce ({ frames := d + 4, cells := 0, slots := 0, locals := d * 23 + 92 }) (m_Pc D vwCl (m_tys tc) b s0 [.ref t0, va_rf p1, .int p2]) (m_Q D vwCl (m_tys tc) b none st') 0 0 (m_A b) := by
  intro d
  induction d with
  | zero =>
    intro t0 p1 p2 s0 st' r h
    cases h
  | succ d ih =>
  intro t0 p1 p2 s0 st' r h
  rw [f_X0_runOnce] at h
  refine m_met (cc := cX0_runOnce) (maxL := 4) (ret := none) (by decide) rfl (by first | exact Nat.le_of_ble_eq_true rfl | simp [lg_sl, m_rfc, m_catI, m_catL, m_catA]) ?_
  intro p e s m below meth c ls S hr hlk hnm hK hP hl hS
  replace hl : lv_has ls 4 [(0, .ref t0), (1, va_rf p1), (2, .int p2)] := by first | exact hl | simpa [lv_args, m_rfc, m_catI, m_catL, m_catA] using hl
  refine m_aload_n S.1 S.2.1 dX0_runOnce_0 rfl (lv_at hl 1 rfl) ?_
  obtain ⟨a1, ea, g⟩ := m_bs h; clear h; subst ea; have h := g; clear g
  obtain ⟨x2, e3, h⟩ := m_bs h
  refine m_get (ci := 2) (k := 5) (T := TX2) (N := 12) S (inX2 _) hK hP (m_gI_s e3) rfl (by decide) (S.2.2.2.2 (.fieldLink RX0 87 "RuleHouse2$Target" "wasRun" "Z") (m_mem (by decide +kernel))) rfl dX0_runOnce_1 ?_
  refine lv_if_ne (tgt := 13) S.1 S.2.1 dX0_runOnce_4 (by decide) (fun c4 => ?_) (fun c4 => ?_)
  · replace h := m_f c4 h
    obtain ⟨h1, h2⟩ := m_fin h; subst h1; subst h2
    exact m_vret S hr hlk hK hP hS (by decide +kernel) (by decide +kernel) dX0_runOnce_13
  · replace h := m_t c4 h
    refine lv_iload_n S.1 S.2.1 dX0_runOnce_7 rfl (lv_at hl 2 rfl) ?_
    refine lv_bipush (v := 40) S.1 S.2.1 dX0_runOnce_8 (by decide) ?_
    refine lv_icmp_lt (tgt := 14) S.1 S.2.1 dX0_runOnce_10 (by decide) (fun c5 => ?_) (fun c5 => ?_)
    · replace h := m_t c5 h
      refine lv_aload_n S.1 S.2.1 dX0_runOnce_14 rfl (lv_at hl 1 rfl) ?_
      refine lv_iconst (v := 1) S.1 S.2.1 dX0_runOnce_15 (by decide) ?_
      obtain ⟨s6, e7, h⟩ := m_bs h
      refine m_put (ci := 2) (k := 5) (T := TX2) (N := 12) (v := .int 1) (ty := .boolean) S (inX2 _) tyX2 tX2 nX2 hK hP hS e7 rfl (by decide) (S.2.2.2.2 (.fieldLink RX0 87 "RuleHouse2$Target" "wasRun" "Z") (m_mem (by decide +kernel))) rfl rfl (by decide +kernel) (by decide) rfl dX0_runOnce_16 (fun H locs hP hS => ?_)
      refine lv_aload_n S.1 S.2.1 dX0_runOnce_19 rfl (lv_at hl 0 rfl) ?_
      refine lv_aload_n S.1 S.2.1 dX0_runOnce_20 rfl (lv_at hl 1 rfl) ?_
      obtain ⟨r8, e9, h⟩ := m_bs h
      refine m_get (ci := 2) (k := 1) (T := TX2) (N := 12) S (inX2 _) hK hP (m_gR_s e9) rfl (by decide) (S.2.2.2.2 (.fieldLink RX0 157 "RuleHouse2$Target" "ruleClass" "LRuleHouse2$RuleClass;") (m_mem (by decide +kernel))) rfl dX0_runOnce_21 ?_
      obtain ⟨_, k13, h⟩ := m_bs h
      obtain ⟨x10, s11, e12, h⟩ := m_b_s h
      refine m_calli (va_runV (As := [va_rf r8]) (rest := []) S (c_X0_ensureMade l D tc b t0 r8 _ _ _ e12) (cwV 1 S.2.2.2.2 (m_wV kX0_ensureMade (by decide +kernel)) rfl rfl rfl (by decide +kernel) ⟨by first | exact Nat.le_refl _ | ((try dsimp only); omega), by first | exact Nat.le_refl _ | ((try dsimp only); omega)⟩) (m_preV hK hP (m_is_s k13) rfl) rfl rfl hl.1 rfl (lv_room (by first | decide | simp [m_rfc, m_catI, m_catL, m_catA])) dX0_runOnce_24 ⟨by first | exact Nat.le_refl _ | ((try dsimp only); omega), by first | exact Nat.le_refl _ | ((try dsimp only); omega)⟩) hS (fun H locs hP hS => ?_)
      refine lv_if_ne (tgt := 42) S.1 S.2.1 dX0_runOnce_27 (by decide) (fun c14 => ?_) (fun c14 => ?_)
      · replace h := m_f c14 h
        refine lv_aload_n S.1 S.2.1 dX0_runOnce_42 rfl (lv_at hl 0 rfl) ?_
        refine lv_aload_n S.1 S.2.1 dX0_runOnce_43 rfl (lv_at hl 1 rfl) ?_
        obtain ⟨r15, e16, h⟩ := m_bs h
        refine m_get (ci := 2) (k := 2) (T := TX2) (N := 12) S (inX2 _) hK hP (m_gR_s e16) rfl (by decide) (S.2.2.2.2 (.fieldLink RX0 91 "RuleHouse2$Target" "attributes" "[I") (m_mem (by decide +kernel))) rfl dX0_runOnce_44 ?_
        refine lv_iconst (v := 2) S.1 S.2.1 dX0_runOnce_47 (by decide) ?_
        obtain ⟨a17, ea, g⟩ := m_bs h; clear h; subst ea; have h := g; clear g
        obtain ⟨x18, e19, h⟩ := m_bs h
        refine m_iald (t := 1) S hK hP (m_aI_s e19) rfl dX0_runOnce_48 ?_
        refine lv_iconst (v := 1) S.1 S.2.1 dX0_runOnce_49 (by decide) ?_
        refine lv_isub S.1 S.2.1 dX0_runOnce_50 ?_
        obtain ⟨_, k23, h⟩ := m_bs h
        obtain ⟨r20, s21, e22, h⟩ := m_b_s h
        refine m_callr (va_runV (As := [.int (x18 - 1)]) (rest := []) S (c_X0_targetAt l D tc b t0 (x18 - 1) _ _ _ e22) (cwV 1 S.2.2.2.2 (m_wV kX0_targetAt (by decide +kernel)) rfl rfl rfl (by decide +kernel) ⟨by first | exact Nat.le_refl _ | ((try dsimp only); omega), by first | exact Nat.le_refl _ | ((try dsimp only); omega)⟩) (m_preV hK hP (m_is_s k23) rfl) rfl rfl hl.1 rfl (lv_room (by first | decide | simp [m_rfc, m_catI, m_catL, m_catA])) dX0_runOnce_51 ⟨by first | exact Nat.le_refl _ | ((try dsimp only); omega), by first | exact Nat.le_refl _ | ((try dsimp only); omega)⟩) hS (fun H locs hP hS => ?_)
        refine m_astore_n (i := 3) (lv' := [(3, va_rf r20), (0, .ref t0), (1, .ref a1), (2, .int p2)]) S.1 S.2.1 dX0_runOnce_54 rfl hl (by decide) (by first | rfl | simp [m_rfc, m_catI, m_catL, m_catA]) (fun ls hl => ?_)
        refine m_aload_n S.1 S.2.1 dX0_runOnce_55 rfl (lv_at hl 0 rfl) ?_
        rcases r20 with _ | a24
        · replace h := m_nn0 h
          refine lv_ifnullN (tgt := 87) S.1 S.2.1 dX0_runOnce_56 (by decide) ?_
          refine lv_aload_n S.1 S.2.1 dX0_runOnce_87 rfl (lv_at hl 1 rfl) ?_
          refine lv_aload_n S.1 S.2.1 dX0_runOnce_88 rfl (lv_at hl 2 rfl) ?_
          refine lv_aload_nN S.1 S.2.1 dX0_runOnce_89 rfl (lv_at hl 0 rfl) ?_
          obtain ⟨_, k28, h⟩ := m_bs h
          obtain ⟨u25, s26, e27, h⟩ := m_b_s h
          refine m_callv (va_runV (As := [va_rf (some a1), va_rf none]) (rest := []) S (c_X0_doBits l D tc b t0 (some a1) none _ _ _ e27) (cwV 2 S.2.2.2.2 (m_wV kX0_doBits (by decide +kernel)) rfl rfl rfl (by decide +kernel) ⟨by first | exact Nat.le_refl _ | ((try dsimp only); omega), by first | exact Nat.le_refl _ | ((try dsimp only); omega)⟩) (m_preV hK hP (m_is_s k28) rfl) rfl rfl hl.1 rfl (lv_room (by first | decide | simp [m_rfc, m_catI, m_catL, m_catA])) dX0_runOnce_90 ⟨by first | exact Nat.le_refl _ | ((try dsimp only); omega), by first | exact Nat.le_refl _ | ((try dsimp only); omega)⟩) hS (fun H locs hP hS => ?_)
          obtain ⟨h1, h2⟩ := m_fin h; subst h1; subst h2
          exact m_vret S hr hlk hK hP hS (by decide +kernel) (by decide +kernel) dX0_runOnce_93
        · replace h := m_nn1 h
          refine lv_ifnull S.1 S.2.1 dX0_runOnce_56 ?_
          refine lv_aload_n S.1 S.2.1 dX0_runOnce_59 rfl (lv_at hl 1 rfl) ?_
          refine lv_aload_n S.1 S.2.1 dX0_runOnce_60 rfl (lv_at hl 0 rfl) ?_
          refine lv_iload_n S.1 S.2.1 dX0_runOnce_61 rfl (lv_at hl 3 rfl) ?_
          refine lv_iconst (v := 1) S.1 S.2.1 dX0_runOnce_62 (by decide) ?_
          refine lv_iadd S.1 S.2.1 dX0_runOnce_63 ?_
          obtain ⟨_, k32, h⟩ := m_bs h
          obtain ⟨u29, s30, e31, h⟩ := m_b_s h
          refine m_callv (va_runV (As := [va_rf (some a24), .int (p2 + 1)]) (rest := []) S (ih t0 (some a24) (p2 + 1) _ _ _ e31) (cwV 2 S.2.2.2.2 (m_wV kX0_runOnce (by decide +kernel)) rfl rfl rfl (by decide +kernel) ⟨by first | exact Nat.le_refl _ | ((try dsimp only); omega), by first | exact Nat.le_refl _ | ((try dsimp only); omega)⟩) (m_preV hK hP (m_is_s k32) rfl) rfl rfl hl.1 rfl (lv_room (by first | decide | simp [m_rfc, m_catI, m_catL, m_catA])) dX0_runOnce_64 ⟨by first | exact Nat.le_refl _ | ((try dsimp only); omega), by first | exact Nat.le_refl _ | ((try dsimp only); omega)⟩) hS (fun H locs hP hS => ?_)
          refine lv_aload_n S.1 S.2.1 dX0_runOnce_67 rfl (lv_at hl 0 rfl) ?_
          obtain ⟨x33, e34, h⟩ := m_bs h
          refine m_get (ci := 2) (k := 9) (T := TX2) (N := 12) S (inX2 _) hK hP (m_gI_s e34) rfl (by decide) (S.2.2.2.2 (.fieldLink RX0 101 "RuleHouse2$Target" "failure" "I") (m_mem (by decide +kernel))) rfl dX0_runOnce_68 ?_
          refine lv_if_eq (tgt := 87) S.1 S.2.1 dX0_runOnce_71 (by decide) (fun c35 => ?_) (fun c35 => ?_)
          · replace h := m_t c35 h
            refine lv_aload_n S.1 S.2.1 dX0_runOnce_87 rfl (lv_at hl 1 rfl) ?_
            refine lv_aload_n S.1 S.2.1 dX0_runOnce_88 rfl (lv_at hl 2 rfl) ?_
            refine lv_aload_n S.1 S.2.1 dX0_runOnce_89 rfl (lv_at hl 0 rfl) ?_
            obtain ⟨_, k39, h⟩ := m_bs h
            obtain ⟨u36, s37, e38, h⟩ := m_b_s h
            refine m_callv (va_runV (As := [va_rf (some a1), va_rf (some a24)]) (rest := []) S (c_X0_doBits l D tc b t0 (some a1) (some a24) _ _ _ e38) (cwV 2 S.2.2.2.2 (m_wV kX0_doBits (by decide +kernel)) rfl rfl rfl (by decide +kernel) ⟨by first | exact Nat.le_refl _ | ((try dsimp only); omega), by first | exact Nat.le_refl _ | ((try dsimp only); omega)⟩) (m_preV hK hP (m_is_s k39) rfl) rfl rfl hl.1 rfl (lv_room (by first | decide | simp [m_rfc, m_catI, m_catL, m_catA])) dX0_runOnce_90 ⟨by first | exact Nat.le_refl _ | ((try dsimp only); omega), by first | exact Nat.le_refl _ | ((try dsimp only); omega)⟩) hS (fun H locs hP hS => ?_)
            obtain ⟨h1, h2⟩ := m_fin h; subst h1; subst h2
            exact m_vret S hr hlk hK hP hS (by decide +kernel) (by decide +kernel) dX0_runOnce_93
          · replace h := m_f c35 h
            refine lv_aload_n S.1 S.2.1 dX0_runOnce_74 rfl (lv_at hl 2 rfl) ?_
            refine lv_bipush (v := 6) S.1 S.2.1 dX0_runOnce_75 (by decide) ?_
            refine lv_bipush (v := 8) S.1 S.2.1 dX0_runOnce_77 (by decide) ?_
            refine lv_aload_n S.1 S.2.1 dX0_runOnce_79 rfl (lv_at hl 0 rfl) ?_
            obtain ⟨x40, e41, h⟩ := m_bs h
            refine m_get (ci := 2) (k := 11) (T := TX2) (N := 12) S (inX2 _) hK hP (m_gI_s e41) rfl (by decide) (S.2.2.2.2 (.fieldLink RX0 120 "RuleHouse2$Target" "failureBegan" "I") (m_mem (by decide +kernel))) rfl dX0_runOnce_80 ?_
            obtain ⟨_, k45, h⟩ := m_bs h
            obtain ⟨u42, s43, e44, h⟩ := m_b_s h
            refine m_callv (va_runV (As := [.int 6, .int 8, .int x40]) (rest := []) S (c_X2_fail l D tc b a1 6 8 x40 _ _ _ e44) (cwV 3 S.2.2.2.2 (m_wV kX2_fail (by decide +kernel)) rfl rfl rfl (by decide +kernel) ⟨by first | exact Nat.le_refl _ | ((try dsimp only); omega), by first | exact Nat.le_refl _ | ((try dsimp only); omega)⟩) (m_preV hK hP (m_is_s k45) rfl) rfl rfl hl.1 rfl (lv_room (by first | decide | simp [m_rfc, m_catI, m_catL, m_catA])) dX0_runOnce_83 ⟨by first | exact Nat.le_refl _ | ((try dsimp only); omega), by first | exact Nat.le_refl _ | ((try dsimp only); omega)⟩) hS (fun H locs hP hS => ?_)
            obtain ⟨h1, h2⟩ := m_fin h; subst h1; subst h2
            exact m_vret S hr hlk hK hP hS (by decide +kernel) (by decide +kernel) dX0_runOnce_86
      · replace h := m_t c14 h
        refine lv_aload_n S.1 S.2.1 dX0_runOnce_30 rfl (lv_at hl 1 rfl) ?_
        refine lv_iconst (v := 1) S.1 S.2.1 dX0_runOnce_31 (by decide) ?_
        refine lv_bipush (v := 8) S.1 S.2.1 dX0_runOnce_32 (by decide) ?_
        refine lv_aload_n S.1 S.2.1 dX0_runOnce_34 rfl (lv_at hl 1 rfl) ?_
        obtain ⟨x46, e47, h⟩ := m_bs h
        refine m_get (ci := 2) (k := 0) (T := TX2) (N := 12) S (inX2 _) hK hP (m_gI_s e47) rfl (by decide) (S.2.2.2.2 (.fieldLink RX0 156 "RuleHouse2$Target" "number" "I") (m_mem (by decide +kernel))) rfl dX0_runOnce_35 ?_
        obtain ⟨_, k51, h⟩ := m_bs h
        obtain ⟨u48, s49, e50, h⟩ := m_b_s h
        refine m_callv (va_runV (As := [.int 1, .int 8, .int x46]) (rest := []) S (c_X2_fail l D tc b a1 1 8 x46 _ _ _ e50) (cwV 3 S.2.2.2.2 (m_wV kX2_fail (by decide +kernel)) rfl rfl rfl (by decide +kernel) ⟨by first | exact Nat.le_refl _ | ((try dsimp only); omega), by first | exact Nat.le_refl _ | ((try dsimp only); omega)⟩) (m_preV hK hP (m_is_s k51) rfl) rfl rfl hl.1 rfl (lv_room (by first | decide | simp [m_rfc, m_catI, m_catL, m_catA])) dX0_runOnce_38 ⟨by first | exact Nat.le_refl _ | ((try dsimp only); omega), by first | exact Nat.le_refl _ | ((try dsimp only); omega)⟩) hS (fun H locs hP hS => ?_)
        obtain ⟨h1, h2⟩ := m_fin h; subst h1; subst h2
        exact m_vret S hr hlk hK hP hS (by decide +kernel) (by decide +kernel) dX0_runOnce_41
    · replace h := m_f c5 h
      obtain ⟨h1, h2⟩ := m_fin h; subst h1; subst h2
      exact m_vret S hr hlk hK hP hS (by decide +kernel) (by decide +kernel) dX0_runOnce_13

def f_X0_run (t0 : Nat) (p1 : Int32) (s0 : MS) : Option (Int32 × MS) :=
  (m_is s0 0 t0).bind fun _ =>
  m_b (f_X0_targetAt t0 p1 s0) fun r1 s2 =>
  m_nn r1
    (some ((-1), s2))
    (fun a5 =>
    (m_is s2 0 t0).bind fun _ =>
    m_b (f_X0_runOnce 41 t0 (some a5) 0 s2) fun u6 s7 =>
    (m_gI s7 2 a5 9).bind fun x10 =>
    if x10 = 0 then
      (m_gI s7 2 a5 8).bind fun x15 =>
      some (x15, s7)
    else
      (m_gI s7 2 a5 9).bind fun x13 =>
      some ((-10) - x13, s7))
set_option maxHeartbeats 4000000 in
set_option maxRecDepth 100000 in
theorem c_X0_run (l : Launch) (D : va_G) (tc : Nat → ClassId) (b : Nat) (t0 : Nat) (p1 : Int32) (s0 st' : MS) (r : Int32) (h : f_X0_run t0 p1 s0 = some (r, st')) : Met l yX0_run wsX0_run ({ frames := 46, cells := 0, slots := 0, locals := 1058 }) (m_Pc D vwCl (m_tys tc) b s0 [.ref t0, .int p1]) (m_Q D vwCl (m_tys tc) b (some (.int r)) st') 0 0 (m_A b) := by
  unfold f_X0_run at h
  refine m_met (cc := cX0_run) (maxL := 3) (ret := (some .int)) (by decide) rfl (by first | exact Nat.le_of_ble_eq_true rfl | simp [lg_sl, m_rfc, m_catI, m_catL, m_catA]) ?_
  intro p e s m below meth c ls S hr hlk hnm hK hP hl hS
  replace hl : lv_has ls 3 [(0, .ref t0), (1, .int p1)] := by first | exact hl | simpa [lv_args, m_rfc, m_catI, m_catL, m_catA] using hl
  refine lv_aload_n S.1 S.2.1 dX0_run_0 rfl (lv_at hl 0 rfl) ?_
  refine lv_iload_n S.1 S.2.1 dX0_run_1 rfl (lv_at hl 1 rfl) ?_
  obtain ⟨_, k4, h⟩ := m_bs h
  obtain ⟨r1, s2, e3, h⟩ := m_b_s h
  refine m_callr (va_runV (As := [.int p1]) (rest := []) S (c_X0_targetAt l D tc b t0 p1 _ _ _ e3) (cwV 1 S.2.2.2.2 (m_wV kX0_targetAt (by decide +kernel)) rfl rfl rfl (by decide +kernel) ⟨by decide +kernel, by decide +kernel⟩) (m_preV hK hP (m_is_s k4) rfl) rfl rfl hl.1 rfl (lv_room (by first | decide | simp [m_rfc, m_catI, m_catL, m_catA])) dX0_run_2 ⟨by decide +kernel, by decide +kernel⟩) hS (fun H locs hP hS => ?_)
  refine m_astore_n (i := 2) (lv' := [(2, va_rf r1), (0, .ref t0), (1, .int p1)]) S.1 S.2.1 dX0_run_5 rfl hl (by decide) (by first | rfl | simp [m_rfc, m_catI, m_catL, m_catA]) (fun ls hl => ?_)
  refine m_aload_n S.1 S.2.1 dX0_run_6 rfl (lv_at hl 0 rfl) ?_
  rcases r1 with _ | a5
  · replace h := m_nn0 h
    refine lv_ifnonnullN S.1 S.2.1 dX0_run_7 ?_
    refine lv_iconst (v := (-1)) S.1 S.2.1 dX0_run_10 (by decide) ?_
    obtain ⟨h1, h2⟩ := m_fin h; subst h1; subst h2
    exact m_iret S hr hlk hK hP hS (by decide +kernel) (by decide +kernel) dX0_run_11
  · replace h := m_nn1 h
    refine lv_ifnonnull (tgt := 12) S.1 S.2.1 dX0_run_7 (by decide) ?_
    refine lv_aload_n S.1 S.2.1 dX0_run_12 rfl (lv_at hl 1 rfl) ?_
    refine lv_aload_n S.1 S.2.1 dX0_run_13 rfl (lv_at hl 0 rfl) ?_
    refine lv_iconst (v := 0) S.1 S.2.1 dX0_run_14 (by decide) ?_
    obtain ⟨_, k9, h⟩ := m_bs h
    obtain ⟨u6, s7, e8, h⟩ := m_b_s h
    refine m_callv (va_runV (As := [va_rf (some a5), .int 0]) (rest := []) S (c_X0_runOnce l D tc b 41 t0 (some a5) 0 _ _ _ e8) (cwV 2 S.2.2.2.2 (m_wV kX0_runOnce (by decide +kernel)) rfl rfl rfl (by decide +kernel) ⟨by decide +kernel, by decide +kernel⟩) (m_preV hK hP (m_is_s k9) rfl) rfl rfl hl.1 rfl (lv_room (by first | decide | simp [m_rfc, m_catI, m_catL, m_catA])) dX0_run_15 ⟨by decide +kernel, by decide +kernel⟩) hS (fun H locs hP hS => ?_)
    refine lv_aload_n S.1 S.2.1 dX0_run_18 rfl (lv_at hl 0 rfl) ?_
    obtain ⟨x10, e11, h⟩ := m_bs h
    refine m_get (ci := 2) (k := 9) (T := TX2) (N := 12) S (inX2 _) hK hP (m_gI_s e11) rfl (by decide) (S.2.2.2.2 (.fieldLink RX0 101 "RuleHouse2$Target" "failure" "I") (m_mem (by decide +kernel))) rfl dX0_run_19 ?_
    refine lv_if_ne (tgt := 32) S.1 S.2.1 dX0_run_22 (by decide) (fun c12 => ?_) (fun c12 => ?_)
    · replace h := m_f c12 h
      refine lv_bipush (v := (-10)) S.1 S.2.1 dX0_run_32 (by decide) ?_
      refine lv_aload_n S.1 S.2.1 dX0_run_34 rfl (lv_at hl 0 rfl) ?_
      obtain ⟨x13, e14, h⟩ := m_bs h
      refine m_get (ci := 2) (k := 9) (T := TX2) (N := 12) S (inX2 _) hK hP (m_gI_s e14) rfl (by decide) (S.2.2.2.2 (.fieldLink RX0 101 "RuleHouse2$Target" "failure" "I") (m_mem (by decide +kernel))) rfl dX0_run_35 ?_
      refine lv_isub S.1 S.2.1 dX0_run_38 ?_
      obtain ⟨h1, h2⟩ := m_fin h; subst h1; subst h2
      exact m_iret S hr hlk hK hP hS (by decide +kernel) (by decide +kernel) dX0_run_39
    · replace h := m_t c12 h
      refine lv_aload_n S.1 S.2.1 dX0_run_25 rfl (lv_at hl 0 rfl) ?_
      obtain ⟨x15, e16, h⟩ := m_bs h
      refine m_get (ci := 2) (k := 8) (T := TX2) (N := 12) S (inX2 _) hK hP (m_gI_s e16) rfl (by decide) (S.2.2.2.2 (.fieldLink RX0 104 "RuleHouse2$Target" "actions" "I") (m_mem (by decide +kernel))) rfl dX0_run_26 ?_
      refine lv_goto (tgt := 39) S.1 S.2.1 dX0_run_29 (by decide) ?_
      obtain ⟨h1, h2⟩ := m_fin h; subst h1; subst h2
      exact m_iret S hr hlk hK hP hS (by decide +kernel) (by decide +kernel) dX0_run_39

def f_X0_digest (t0 : Nat) (p1 : Int32) (p2 : Int32) (s0 : MS) : Option (Int32 × MS) :=
  (m_is s0 0 t0).bind fun _ =>
  m_b (f_X0_targetAt t0 p1 s0) fun r1 s2 =>
  m_nn r1
    (some (0, s2))
    (fun a5 =>
    (m_gR s2 2 a5 1).bind fun r6 =>
    r6.bind fun a8 =>
    (m_gI s2 1 a8 0).bind fun x9 =>
    (m_gI s2 1 a8 1).bind fun x11 =>
    some ((((((x9 * 31) + x11) * 31) + p1) * 31) + p2, s2))
set_option maxHeartbeats 4000000 in
set_option maxRecDepth 100000 in
theorem c_X0_digest (l : Launch) (D : va_G) (tc : Nat → ClassId) (b : Nat) (t0 : Nat) (p1 : Int32) (p2 : Int32) (s0 st' : MS) (r : Int32) (h : f_X0_digest t0 p1 p2 s0 = some (r, st')) : Met l yX0_digest wsX0_digest ({ frames := 2, cells := 0, slots := 0, locals := 42 }) (m_Pc D vwCl (m_tys tc) b s0 [.ref t0, .int p1, .int p2]) (m_Q D vwCl (m_tys tc) b (some (.int r)) st') 0 0 (m_A b) := by
  unfold f_X0_digest at h
  refine m_met (cc := cX0_digest) (maxL := 5) (ret := (some .int)) (by decide) rfl (by first | exact Nat.le_of_ble_eq_true rfl | simp [lg_sl, m_rfc, m_catI, m_catL, m_catA]) ?_
  intro p e s m below meth c ls S hr hlk hnm hK hP hl hS
  replace hl : lv_has ls 5 [(0, .ref t0), (1, .int p1), (2, .int p2)] := by first | exact hl | simpa [lv_args, m_rfc, m_catI, m_catL, m_catA] using hl
  refine lv_aload_n S.1 S.2.1 dX0_digest_0 rfl (lv_at hl 0 rfl) ?_
  refine lv_iload_n S.1 S.2.1 dX0_digest_1 rfl (lv_at hl 1 rfl) ?_
  obtain ⟨_, k4, h⟩ := m_bs h
  obtain ⟨r1, s2, e3, h⟩ := m_b_s h
  refine m_callr (va_runV (As := [.int p1]) (rest := []) S (c_X0_targetAt l D tc b t0 p1 _ _ _ e3) (cwV 1 S.2.2.2.2 (m_wV kX0_targetAt (by decide +kernel)) rfl rfl rfl (by decide +kernel) ⟨by decide +kernel, by decide +kernel⟩) (m_preV hK hP (m_is_s k4) rfl) rfl rfl hl.1 rfl (lv_room (by first | decide | simp [m_rfc, m_catI, m_catL, m_catA])) dX0_digest_2 ⟨by decide +kernel, by decide +kernel⟩) hS (fun H locs hP hS => ?_)
  refine m_astore_n (i := 3) (lv' := [(3, va_rf r1), (0, .ref t0), (1, .int p1), (2, .int p2)]) S.1 S.2.1 dX0_digest_5 rfl hl (by decide) (by first | rfl | simp [m_rfc, m_catI, m_catL, m_catA]) (fun ls hl => ?_)
  refine m_aload_n S.1 S.2.1 dX0_digest_6 rfl (lv_at hl 0 rfl) ?_
  rcases r1 with _ | a5
  · replace h := m_nn0 h
    refine lv_ifnonnullN S.1 S.2.1 dX0_digest_7 ?_
    refine lv_iconst (v := 0) S.1 S.2.1 dX0_digest_10 (by decide) ?_
    obtain ⟨h1, h2⟩ := m_fin h; subst h1; subst h2
    exact m_iret S hr hlk hK hP hS (by decide +kernel) (by decide +kernel) dX0_digest_11
  · replace h := m_nn1 h
    refine lv_ifnonnull (tgt := 12) S.1 S.2.1 dX0_digest_7 (by decide) ?_
    refine lv_aload_n S.1 S.2.1 dX0_digest_12 rfl (lv_at hl 0 rfl) ?_
    obtain ⟨r6, e7, h⟩ := m_bs h
    refine m_get (ci := 2) (k := 1) (T := TX2) (N := 12) S (inX2 _) hK hP (m_gR_s e7) rfl (by decide) (S.2.2.2.2 (.fieldLink RX0 157 "RuleHouse2$Target" "ruleClass" "LRuleHouse2$RuleClass;") (m_mem (by decide +kernel))) rfl dX0_digest_13 ?_
    refine m_astore (i := 4) (lv' := [(4, va_rf r6), (3, .ref a5), (0, .ref t0), (1, .int p1), (2, .int p2)]) S.1 S.2.1 dX0_digest_16 hl (by decide) (by first | rfl | simp [m_rfc, m_catI, m_catL, m_catA]) (fun ls hl => ?_)
    refine m_aload S.1 S.2.1 dX0_digest_18 (lv_at hl 0 rfl) ?_
    obtain ⟨a8, ea, g⟩ := m_bs h; clear h; subst ea; have h := g; clear g
    obtain ⟨x9, e10, h⟩ := m_bs h
    refine m_get (ci := 1) (k := 0) (T := TX1) (N := 6) S (inX1 _) hK hP (m_gI_s e10) rfl (by decide) (S.2.2.2.2 (.fieldLink RX0 132 "RuleHouse2$RuleClass" "edition" "I") (m_mem (by decide +kernel))) rfl dX0_digest_20 ?_
    refine lv_bipush (v := 31) S.1 S.2.1 dX0_digest_23 (by decide) ?_
    refine lv_imul S.1 S.2.1 dX0_digest_25 ?_
    refine lv_aload S.1 S.2.1 dX0_digest_26 (lv_at hl 0 rfl) ?_
    obtain ⟨x11, e12, h⟩ := m_bs h
    refine m_get (ci := 1) (k := 1) (T := TX1) (N := 6) S (inX1 _) hK hP (m_gI_s e12) rfl (by decide) (S.2.2.2.2 (.fieldLink RX0 135 "RuleHouse2$RuleClass" "does" "I") (m_mem (by decide +kernel))) rfl dX0_digest_28 ?_
    refine lv_iadd S.1 S.2.1 dX0_digest_31 ?_
    refine lv_bipush (v := 31) S.1 S.2.1 dX0_digest_32 (by decide) ?_
    refine lv_imul S.1 S.2.1 dX0_digest_34 ?_
    refine lv_iload_n S.1 S.2.1 dX0_digest_35 rfl (lv_at hl 3 rfl) ?_
    refine lv_iadd S.1 S.2.1 dX0_digest_36 ?_
    refine lv_bipush (v := 31) S.1 S.2.1 dX0_digest_37 (by decide) ?_
    refine lv_imul S.1 S.2.1 dX0_digest_39 ?_
    refine lv_iload_n S.1 S.2.1 dX0_digest_40 rfl (lv_at hl 4 rfl) ?_
    refine lv_iadd S.1 S.2.1 dX0_digest_41 ?_
    obtain ⟨h1, h2⟩ := m_fin h; subst h1; subst h2
    exact m_iret S hr hlk hK hP hS (by decide +kernel) (by decide +kernel) dX0_digest_42

def f_X0_action (t0 : Nat) (p1 : Int32) (p2 : Int32) (s0 : MS) : Option (Int32 × MS) :=
  (m_gI s0 0 t0 8).bind fun x1 =>
  m_b (f_X0_isWithin p1 (x1 - 1) s0) fun x3 s4 =>
  if x3 = 0 then
    some ((-1), s4)
  else
    if p2 = 0 then
      (m_gR s4 0 t0 6).bind fun r8 =>
      r8.bind fun a10 =>
      (m_aI s4 1 a10 p1).bind fun x11 =>
      some (x11, s4)
    else if p2 = 1 then
      (m_gR s4 0 t0 7).bind fun r14 =>
      r14.bind fun a16 =>
      (m_aI s4 1 a16 p1).bind fun x17 =>
      some (x17, s4)
    else if p2 = 2 then
      (m_gR s4 0 t0 6).bind fun r20 =>
      r20.bind fun a22 =>
      (m_aI s4 1 a22 p1).bind fun x23 =>
      (m_gR s4 0 t0 7).bind fun r25 =>
      r25.bind fun a27 =>
      (m_aI s4 1 a27 p1).bind fun x28 =>
      (m_is s4 0 t0).bind fun _ =>
      m_b (f_X0_digest t0 x23 x28 s4) fun x30 s31 =>
      some (x30, s31)
    else some ((-2), s4)
set_option maxHeartbeats 4000000 in
set_option maxRecDepth 100000 in
theorem c_X0_action (l : Launch) (D : va_G) (tc : Nat → ClassId) (b : Nat) (t0 : Nat) (p1 : Int32) (p2 : Int32) (s0 st' : MS) (r : Int32) (h : f_X0_action t0 p1 p2 s0 = some (r, st')) : Met l yX0_action wsX0_action ({ frames := 3, cells := 0, slots := 0, locals := 66 }) (m_Pc D vwCl (m_tys tc) b s0 [.ref t0, .int p1, .int p2]) (m_Q D vwCl (m_tys tc) b (some (.int r)) st') 0 0 (m_A b) := by
  unfold f_X0_action at h
  refine m_met (cc := cX0_action) (maxL := 3) (ret := (some .int)) (by decide) rfl (by first | exact Nat.le_of_ble_eq_true rfl | simp [lg_sl, m_rfc, m_catI, m_catL, m_catA]) ?_
  intro p e s m below meth c ls S hr hlk hnm hK hP hl hS
  replace hl : lv_has ls 3 [(0, .ref t0), (1, .int p1), (2, .int p2)] := by first | exact hl | simpa [lv_args, m_rfc, m_catI, m_catL, m_catA] using hl
  refine lv_iload_n S.1 S.2.1 dX0_action_0 rfl (lv_at hl 1 rfl) ?_
  refine lv_aload_n S.1 S.2.1 dX0_action_1 rfl (lv_at hl 0 rfl) ?_
  obtain ⟨x1, e2, h⟩ := m_bs h
  refine m_get (ci := 0) (k := 8) (T := TX0) (N := 10) S (inX0 _) hK hP (m_gI_s e2) rfl (by decide) (S.2.2.2.2 (.fieldLink RX0 38 "RuleHouse2" "actionCount" "I") (m_mem (by decide +kernel))) rfl dX0_action_2 ?_
  refine lv_iconst (v := 1) S.1 S.2.1 dX0_action_5 (by decide) ?_
  refine lv_isub S.1 S.2.1 dX0_action_6 ?_
  obtain ⟨x3, s4, e5, h⟩ := m_b_s h
  refine m_calli (va_runS (As := [.int p1, .int (x1 - 1)]) (rest := []) S (c_X0_isWithin l D tc b p1 (x1 - 1) _ _ _ e5) (cwS 2 S.2.2.2.2 (m_wS kX0_isWithin (by decide +kernel)) rfl rfl rfl (by decide +kernel) ⟨by decide +kernel, by decide +kernel⟩) (m_preS hK hP) rfl rfl hl.1 rfl (lv_room (by first | decide | simp [m_rfc, m_catI, m_catL, m_catA])) dX0_action_7 ⟨by decide +kernel, by decide +kernel⟩) hS (fun H locs hP hS => ?_)
  refine lv_if_ne (tgt := 15) S.1 S.2.1 dX0_action_10 (by decide) (fun c6 => ?_) (fun c6 => ?_)
  · replace h := m_f c6 h
    refine lv_iload_n S.1 S.2.1 dX0_action_15 rfl (lv_at hl 2 rfl) ?_
    by_cases c7 : p2 = 0
    · replace h := m_t c7 h
      refine lv_tableIn (tgt := 44) S.1 S.2.1 dX0_action_16 (by rw [c7]; decide) (by rw [c7]; decide) (by rw [c7]; rfl) (by decide) ?_
      refine lv_aload_n S.1 S.2.1 dX0_action_44 rfl (lv_at hl 0 rfl) ?_
      obtain ⟨r8, e9, h⟩ := m_bs h
      refine m_get (ci := 0) (k := 6) (T := TX0) (N := 10) S (inX0 _) hK hP (m_gR_s e9) rfl (by decide) (S.2.2.2.2 (.fieldLink RX0 31 "RuleHouse2" "actionTarget" "[I") (m_mem (by decide +kernel))) rfl dX0_action_45 ?_
      refine lv_iload_n S.1 S.2.1 dX0_action_48 rfl (lv_at hl 1 rfl) ?_
      obtain ⟨a10, ea, g⟩ := m_bs h; clear h; subst ea; have h := g; clear g
      obtain ⟨x11, e12, h⟩ := m_bs h
      refine m_iald (t := 1) S hK hP (m_aI_s e12) rfl dX0_action_49 ?_
      obtain ⟨h1, h2⟩ := m_fin h; subst h1; subst h2
      exact m_iret S hr hlk hK hP hS (by decide +kernel) (by decide +kernel) dX0_action_50
    replace h := m_f c7 h
    by_cases c13 : p2 = 1
    · replace h := m_t c13 h
      refine lv_tableIn (tgt := 51) S.1 S.2.1 dX0_action_16 (by rw [c13]; decide) (by rw [c13]; decide) (by rw [c13]; rfl) (by decide) ?_
      refine lv_aload_n S.1 S.2.1 dX0_action_51 rfl (lv_at hl 0 rfl) ?_
      obtain ⟨r14, e15, h⟩ := m_bs h
      refine m_get (ci := 0) (k := 7) (T := TX0) (N := 10) S (inX0 _) hK hP (m_gR_s e15) rfl (by decide) (S.2.2.2.2 (.fieldLink RX0 35 "RuleHouse2" "actionNumber" "[I") (m_mem (by decide +kernel))) rfl dX0_action_52 ?_
      refine lv_iload_n S.1 S.2.1 dX0_action_55 rfl (lv_at hl 1 rfl) ?_
      obtain ⟨a16, ea, g⟩ := m_bs h; clear h; subst ea; have h := g; clear g
      obtain ⟨x17, e18, h⟩ := m_bs h
      refine m_iald (t := 1) S hK hP (m_aI_s e18) rfl dX0_action_56 ?_
      obtain ⟨h1, h2⟩ := m_fin h; subst h1; subst h2
      exact m_iret S hr hlk hK hP hS (by decide +kernel) (by decide +kernel) dX0_action_57
    replace h := m_f c13 h
    by_cases c19 : p2 = 2
    · replace h := m_t c19 h
      refine lv_tableIn (tgt := 58) S.1 S.2.1 dX0_action_16 (by rw [c19]; decide) (by rw [c19]; decide) (by rw [c19]; rfl) (by decide) ?_
      refine lv_aload_n S.1 S.2.1 dX0_action_58 rfl (lv_at hl 0 rfl) ?_
      refine lv_aload_n S.1 S.2.1 dX0_action_59 rfl (lv_at hl 0 rfl) ?_
      obtain ⟨r20, e21, h⟩ := m_bs h
      refine m_get (ci := 0) (k := 6) (T := TX0) (N := 10) S (inX0 _) hK hP (m_gR_s e21) rfl (by decide) (S.2.2.2.2 (.fieldLink RX0 31 "RuleHouse2" "actionTarget" "[I") (m_mem (by decide +kernel))) rfl dX0_action_60 ?_
      refine lv_iload_n S.1 S.2.1 dX0_action_63 rfl (lv_at hl 1 rfl) ?_
      obtain ⟨a22, ea, g⟩ := m_bs h; clear h; subst ea; have h := g; clear g
      obtain ⟨x23, e24, h⟩ := m_bs h
      refine m_iald (t := 1) S hK hP (m_aI_s e24) rfl dX0_action_64 ?_
      refine lv_aload_n S.1 S.2.1 dX0_action_65 rfl (lv_at hl 0 rfl) ?_
      obtain ⟨r25, e26, h⟩ := m_bs h
      refine m_get (ci := 0) (k := 7) (T := TX0) (N := 10) S (inX0 _) hK hP (m_gR_s e26) rfl (by decide) (S.2.2.2.2 (.fieldLink RX0 35 "RuleHouse2" "actionNumber" "[I") (m_mem (by decide +kernel))) rfl dX0_action_66 ?_
      refine lv_iload_n S.1 S.2.1 dX0_action_69 rfl (lv_at hl 1 rfl) ?_
      obtain ⟨a27, ea, g⟩ := m_bs h; clear h; subst ea; have h := g; clear g
      obtain ⟨x28, e29, h⟩ := m_bs h
      refine m_iald (t := 1) S hK hP (m_aI_s e29) rfl dX0_action_70 ?_
      obtain ⟨_, k33, h⟩ := m_bs h
      obtain ⟨x30, s31, e32, h⟩ := m_b_s h
      refine m_calli (va_runV (As := [.int x23, .int x28]) (rest := []) S (c_X0_digest l D tc b t0 x23 x28 _ _ _ e32) (cwV 2 S.2.2.2.2 (m_wV kX0_digest (by decide +kernel)) rfl rfl rfl (by decide +kernel) ⟨by decide +kernel, by decide +kernel⟩) (m_preV hK hP (m_is_s k33) rfl) rfl rfl hl.1 rfl (lv_room (by first | decide | simp [m_rfc, m_catI, m_catL, m_catA])) dX0_action_71 ⟨by decide +kernel, by decide +kernel⟩) hS (fun H locs hP hS => ?_)
      obtain ⟨h1, h2⟩ := m_fin h; subst h1; subst h2
      exact m_iret S hr hlk hK hP hS (by decide +kernel) (by decide +kernel) dX0_action_74
    replace h := m_f c19 h
    have nc19 := (⟨lv_neT (a := 0) c7 (by decide), lv_neT (a := 1) c13 (by decide), lv_neT (a := 2) c19 (by decide)⟩ : ¬ (p2).toInt = 0 ∧ ¬ (p2).toInt = 1 ∧ ¬ (p2).toInt = 2)
    refine lv_tableOut (tgt := 75) S.1 S.2.1 dX0_action_16 (by omega) (by decide) ?_
    refine lv_bipush (v := (-2)) S.1 S.2.1 dX0_action_75 (by decide) ?_
    obtain ⟨h1, h2⟩ := m_fin h; subst h1; subst h2
    exact m_iret S hr hlk hK hP hS (by decide +kernel) (by decide +kernel) dX0_action_77
  · replace h := m_t c6 h
    refine lv_iconst (v := (-1)) S.1 S.2.1 dX0_action_13 (by decide) ?_
    obtain ⟨h1, h2⟩ := m_fin h; subst h1; subst h2
    exact m_iret S hr hlk hK hP hS (by decide +kernel) (by decide +kernel) dX0_action_14
end
section
def f_X0_provider (t0 : Nat) (p1 : Int32) (p2 : Int32) (s0 : MS) : Option (Int32 × MS) :=
  (m_is s0 0 t0).bind fun _ =>
  m_b (f_X0_targetAt t0 p1 s0) fun r1 s2 =>
  m_nn r1
    (some (0, s2))
    (fun a5 =>
    m_b (f_X0_isWithin p2 2 s2) fun x6 s7 =>
    if x6 = 0 then
      some (0, s7)
    else
      (m_gR s7 2 a5 4).bind fun r10 =>
      r10.bind fun a12 =>
      (m_aI s7 2 a12 p2).bind fun x13 =>
      if x13 = 0 then
        some (0, s7)
      else
        (m_gR s7 2 a5 3).bind fun r16 =>
        r16.bind fun a18 =>
        (m_aI s7 1 a18 p2).bind fun x19 =>
        some (x19, s7))
set_option maxHeartbeats 4000000 in
set_option maxRecDepth 100000 in
theorem c_X0_provider (l : Launch) (D : va_G) (tc : Nat → ClassId) (b : Nat) (t0 : Nat) (p1 : Int32) (p2 : Int32) (s0 st' : MS) (r : Int32) (h : f_X0_provider t0 p1 p2 s0 = some (r, st')) : Met l yX0_provider wsX0_provider ({ frames := 2, cells := 0, slots := 0, locals := 42 }) (m_Pc D vwCl (m_tys tc) b s0 [.ref t0, .int p1, .int p2]) (m_Q D vwCl (m_tys tc) b (some (.int r)) st') 0 0 (m_A b) := by
  unfold f_X0_provider at h
  refine m_met (cc := cX0_provider) (maxL := 4) (ret := (some .int)) (by decide) rfl (by first | exact Nat.le_of_ble_eq_true rfl | simp [lg_sl, m_rfc, m_catI, m_catL, m_catA]) ?_
  intro p e s m below meth c ls S hr hlk hnm hK hP hl hS
  replace hl : lv_has ls 4 [(0, .ref t0), (1, .int p1), (2, .int p2)] := by first | exact hl | simpa [lv_args, m_rfc, m_catI, m_catL, m_catA] using hl
  refine lv_aload_n S.1 S.2.1 dX0_provider_0 rfl (lv_at hl 0 rfl) ?_
  refine lv_iload_n S.1 S.2.1 dX0_provider_1 rfl (lv_at hl 1 rfl) ?_
  obtain ⟨_, k4, h⟩ := m_bs h
  obtain ⟨r1, s2, e3, h⟩ := m_b_s h
  refine m_callr (va_runV (As := [.int p1]) (rest := []) S (c_X0_targetAt l D tc b t0 p1 _ _ _ e3) (cwV 1 S.2.2.2.2 (m_wV kX0_targetAt (by decide +kernel)) rfl rfl rfl (by decide +kernel) ⟨by decide +kernel, by decide +kernel⟩) (m_preV hK hP (m_is_s k4) rfl) rfl rfl hl.1 rfl (lv_room (by first | decide | simp [m_rfc, m_catI, m_catL, m_catA])) dX0_provider_2 ⟨by decide +kernel, by decide +kernel⟩) hS (fun H locs hP hS => ?_)
  refine m_astore_n (i := 3) (lv' := [(3, va_rf r1), (0, .ref t0), (1, .int p1), (2, .int p2)]) S.1 S.2.1 dX0_provider_5 rfl hl (by decide) (by first | rfl | simp [m_rfc, m_catI, m_catL, m_catA]) (fun ls hl => ?_)
  refine m_aload_n S.1 S.2.1 dX0_provider_6 rfl (lv_at hl 0 rfl) ?_
  rcases r1 with _ | a5
  · replace h := m_nn0 h
    refine lv_ifnullN (tgt := 27) S.1 S.2.1 dX0_provider_7 (by decide) ?_
    refine lv_iconst (v := 0) S.1 S.2.1 dX0_provider_27 (by decide) ?_
    obtain ⟨h1, h2⟩ := m_fin h; subst h1; subst h2
    exact m_iret S hr hlk hK hP hS (by decide +kernel) (by decide +kernel) dX0_provider_28
  · replace h := m_nn1 h
    refine lv_ifnull S.1 S.2.1 dX0_provider_7 ?_
    refine lv_iload_n S.1 S.2.1 dX0_provider_10 rfl (lv_at hl 3 rfl) ?_
    refine lv_iconst (v := 2) S.1 S.2.1 dX0_provider_11 (by decide) ?_
    obtain ⟨x6, s7, e8, h⟩ := m_b_s h
    refine m_calli (va_runS (As := [.int p2, .int 2]) (rest := []) S (c_X0_isWithin l D tc b p2 2 _ _ _ e8) (cwS 2 S.2.2.2.2 (m_wS kX0_isWithin (by decide +kernel)) rfl rfl rfl (by decide +kernel) ⟨by decide +kernel, by decide +kernel⟩) (m_preS hK hP) rfl rfl hl.1 rfl (lv_room (by first | decide | simp [m_rfc, m_catI, m_catL, m_catA])) dX0_provider_12 ⟨by decide +kernel, by decide +kernel⟩) hS (fun H locs hP hS => ?_)
    refine lv_if_eq (tgt := 27) S.1 S.2.1 dX0_provider_15 (by decide) (fun c9 => ?_) (fun c9 => ?_)
    · replace h := m_t c9 h
      refine lv_iconst (v := 0) S.1 S.2.1 dX0_provider_27 (by decide) ?_
      obtain ⟨h1, h2⟩ := m_fin h; subst h1; subst h2
      exact m_iret S hr hlk hK hP hS (by decide +kernel) (by decide +kernel) dX0_provider_28
    · replace h := m_f c9 h
      refine lv_aload_n S.1 S.2.1 dX0_provider_18 rfl (lv_at hl 0 rfl) ?_
      obtain ⟨r10, e11, h⟩ := m_bs h
      refine m_get (ci := 2) (k := 4) (T := TX2) (N := 12) S (inX2 _) hK hP (m_gR_s e11) rfl (by decide) (S.2.2.2.2 (.fieldLink RX0 110 "RuleHouse2$Target" "has" "[Z") (m_mem (by decide +kernel))) rfl dX0_provider_19 ?_
      refine lv_iload_n S.1 S.2.1 dX0_provider_22 rfl (lv_at hl 3 rfl) ?_
      obtain ⟨a12, ea, g⟩ := m_bs h; clear h; subst ea; have h := g; clear g
      obtain ⟨x13, e14, h⟩ := m_bs h
      refine m_zald (t := 2) S hK hP (m_aI_s e14) rfl dX0_provider_23 ?_
      refine lv_if_ne (tgt := 29) S.1 S.2.1 dX0_provider_24 (by decide) (fun c15 => ?_) (fun c15 => ?_)
      · replace h := m_f c15 h
        refine lv_aload_n S.1 S.2.1 dX0_provider_29 rfl (lv_at hl 0 rfl) ?_
        obtain ⟨r16, e17, h⟩ := m_bs h
        refine m_get (ci := 2) (k := 3) (T := TX2) (N := 12) S (inX2 _) hK hP (m_gR_s e17) rfl (by decide) (S.2.2.2.2 (.fieldLink RX0 114 "RuleHouse2$Target" "providers" "[I") (m_mem (by decide +kernel))) rfl dX0_provider_30 ?_
        refine lv_iload_n S.1 S.2.1 dX0_provider_33 rfl (lv_at hl 3 rfl) ?_
        obtain ⟨a18, ea, g⟩ := m_bs h; clear h; subst ea; have h := g; clear g
        obtain ⟨x19, e20, h⟩ := m_bs h
        refine m_iald (t := 1) S hK hP (m_aI_s e20) rfl dX0_provider_34 ?_
        obtain ⟨h1, h2⟩ := m_fin h; subst h1; subst h2
        exact m_iret S hr hlk hK hP hS (by decide +kernel) (by decide +kernel) dX0_provider_35
      · replace h := m_t c15 h
        refine lv_iconst (v := 0) S.1 S.2.1 dX0_provider_27 (by decide) ?_
        obtain ⟨h1, h2⟩ := m_fin h; subst h1; subst h2
        exact m_iret S hr hlk hK hP hS (by decide +kernel) (by decide +kernel) dX0_provider_28

def f_X0_failed (t0 : Nat) (p1 : Int32) (p2 : Int32) (s0 : MS) : Option (Int32 × MS) :=
  (m_is s0 0 t0).bind fun _ =>
  m_b (f_X0_targetAt t0 p1 s0) fun r1 s2 =>
  m_nn r1
    (some ((-1), s2))
    (fun a5 =>
    m_b (f_X0_isWithin p2 2 s2) fun x6 s7 =>
    if x6 = 0 then
      some ((-2), s7)
    else
      (m_gI s7 2 a5 5).bind fun x10 =>
      if x10 = 0 then
        some ((-3), s7)
      else
        (m_gI s7 2 a5 9).bind fun x13 =>
        if x13 = 0 then
          some (0, s7)
        else
          if p2 = 0 then
            (m_gI s7 2 a5 9).bind fun x17 =>
            some (x17, s7)
          else if p2 = 1 then
            (m_gI s7 2 a5 10).bind fun x20 =>
            some (x20, s7)
          else (m_gI s7 2 a5 11).bind fun x22 =>
          some (x22 + 1, s7))
set_option maxHeartbeats 4000000 in
set_option maxRecDepth 100000 in
theorem c_X0_failed (l : Launch) (D : va_G) (tc : Nat → ClassId) (b : Nat) (t0 : Nat) (p1 : Int32) (p2 : Int32) (s0 st' : MS) (r : Int32) (h : f_X0_failed t0 p1 p2 s0 = some (r, st')) : Met l yX0_failed wsX0_failed ({ frames := 2, cells := 0, slots := 0, locals := 42 }) (m_Pc D vwCl (m_tys tc) b s0 [.ref t0, .int p1, .int p2]) (m_Q D vwCl (m_tys tc) b (some (.int r)) st') 0 0 (m_A b) := by
  unfold f_X0_failed at h
  refine m_met (cc := cX0_failed) (maxL := 4) (ret := (some .int)) (by decide) rfl (by first | exact Nat.le_of_ble_eq_true rfl | simp [lg_sl, m_rfc, m_catI, m_catL, m_catA]) ?_
  intro p e s m below meth c ls S hr hlk hnm hK hP hl hS
  replace hl : lv_has ls 4 [(0, .ref t0), (1, .int p1), (2, .int p2)] := by first | exact hl | simpa [lv_args, m_rfc, m_catI, m_catL, m_catA] using hl
  refine lv_aload_n S.1 S.2.1 dX0_failed_0 rfl (lv_at hl 0 rfl) ?_
  refine lv_iload_n S.1 S.2.1 dX0_failed_1 rfl (lv_at hl 1 rfl) ?_
  obtain ⟨_, k4, h⟩ := m_bs h
  obtain ⟨r1, s2, e3, h⟩ := m_b_s h
  refine m_callr (va_runV (As := [.int p1]) (rest := []) S (c_X0_targetAt l D tc b t0 p1 _ _ _ e3) (cwV 1 S.2.2.2.2 (m_wV kX0_targetAt (by decide +kernel)) rfl rfl rfl (by decide +kernel) ⟨by decide +kernel, by decide +kernel⟩) (m_preV hK hP (m_is_s k4) rfl) rfl rfl hl.1 rfl (lv_room (by first | decide | simp [m_rfc, m_catI, m_catL, m_catA])) dX0_failed_2 ⟨by decide +kernel, by decide +kernel⟩) hS (fun H locs hP hS => ?_)
  refine m_astore_n (i := 3) (lv' := [(3, va_rf r1), (0, .ref t0), (1, .int p1), (2, .int p2)]) S.1 S.2.1 dX0_failed_5 rfl hl (by decide) (by first | rfl | simp [m_rfc, m_catI, m_catL, m_catA]) (fun ls hl => ?_)
  refine m_aload_n S.1 S.2.1 dX0_failed_6 rfl (lv_at hl 0 rfl) ?_
  rcases r1 with _ | a5
  · replace h := m_nn0 h
    refine lv_ifnonnullN S.1 S.2.1 dX0_failed_7 ?_
    refine lv_iconst (v := (-1)) S.1 S.2.1 dX0_failed_10 (by decide) ?_
    obtain ⟨h1, h2⟩ := m_fin h; subst h1; subst h2
    exact m_iret S hr hlk hK hP hS (by decide +kernel) (by decide +kernel) dX0_failed_11
  · replace h := m_nn1 h
    refine lv_ifnonnull (tgt := 12) S.1 S.2.1 dX0_failed_7 (by decide) ?_
    refine lv_iload_n S.1 S.2.1 dX0_failed_12 rfl (lv_at hl 3 rfl) ?_
    refine lv_iconst (v := 2) S.1 S.2.1 dX0_failed_13 (by decide) ?_
    obtain ⟨x6, s7, e8, h⟩ := m_b_s h
    refine m_calli (va_runS (As := [.int p2, .int 2]) (rest := []) S (c_X0_isWithin l D tc b p2 2 _ _ _ e8) (cwS 2 S.2.2.2.2 (m_wS kX0_isWithin (by decide +kernel)) rfl rfl rfl (by decide +kernel) ⟨by decide +kernel, by decide +kernel⟩) (m_preS hK hP) rfl rfl hl.1 rfl (lv_room (by first | decide | simp [m_rfc, m_catI, m_catL, m_catA])) dX0_failed_14 ⟨by decide +kernel, by decide +kernel⟩) hS (fun H locs hP hS => ?_)
    refine lv_if_ne (tgt := 23) S.1 S.2.1 dX0_failed_17 (by decide) (fun c9 => ?_) (fun c9 => ?_)
    · replace h := m_f c9 h
      refine lv_aload_n S.1 S.2.1 dX0_failed_23 rfl (lv_at hl 0 rfl) ?_
      obtain ⟨x10, e11, h⟩ := m_bs h
      refine m_get (ci := 2) (k := 5) (T := TX2) (N := 12) S (inX2 _) hK hP (m_gI_s e11) rfl (by decide) (S.2.2.2.2 (.fieldLink RX0 87 "RuleHouse2$Target" "wasRun" "Z") (m_mem (by decide +kernel))) rfl dX0_failed_24 ?_
      refine lv_if_ne (tgt := 33) S.1 S.2.1 dX0_failed_27 (by decide) (fun c12 => ?_) (fun c12 => ?_)
      · replace h := m_f c12 h
        refine lv_aload_n S.1 S.2.1 dX0_failed_33 rfl (lv_at hl 0 rfl) ?_
        obtain ⟨x13, e14, h⟩ := m_bs h
        refine m_get (ci := 2) (k := 9) (T := TX2) (N := 12) S (inX2 _) hK hP (m_gI_s e14) rfl (by decide) (S.2.2.2.2 (.fieldLink RX0 101 "RuleHouse2$Target" "failure" "I") (m_mem (by decide +kernel))) rfl dX0_failed_34 ?_
        refine lv_if_ne (tgt := 42) S.1 S.2.1 dX0_failed_37 (by decide) (fun c15 => ?_) (fun c15 => ?_)
        · replace h := m_f c15 h
          refine lv_iload_n S.1 S.2.1 dX0_failed_42 rfl (lv_at hl 3 rfl) ?_
          by_cases c16 : p2 = 0
          · replace h := m_t c16 h
            refine lv_lookup (off := 25) (tgt := 68) S.1 S.2.1 dX0_failed_43 (by decide) (by rw [c16] <;> rfl) (by decide) ?_
            refine lv_aload_n S.1 S.2.1 dX0_failed_68 rfl (lv_at hl 0 rfl) ?_
            obtain ⟨x17, e18, h⟩ := m_bs h
            refine m_get (ci := 2) (k := 9) (T := TX2) (N := 12) S (inX2 _) hK hP (m_gI_s e18) rfl (by decide) (S.2.2.2.2 (.fieldLink RX0 101 "RuleHouse2$Target" "failure" "I") (m_mem (by decide +kernel))) rfl dX0_failed_69 ?_
            obtain ⟨h1, h2⟩ := m_fin h; subst h1; subst h2
            exact m_iret S hr hlk hK hP hS (by decide +kernel) (by decide +kernel) dX0_failed_72
          replace h := m_f c16 h
          by_cases c19 : p2 = 1
          · replace h := m_t c19 h
            refine lv_lookup (off := 30) (tgt := 73) S.1 S.2.1 dX0_failed_43 (by decide) (by rw [c19] <;> rfl) (by decide) ?_
            refine lv_aload_n S.1 S.2.1 dX0_failed_73 rfl (lv_at hl 0 rfl) ?_
            obtain ⟨x20, e21, h⟩ := m_bs h
            refine m_get (ci := 2) (k := 10) (T := TX2) (N := 12) S (inX2 _) hK hP (m_gI_s e21) rfl (by decide) (S.2.2.2.2 (.fieldLink RX0 117 "RuleHouse2$Target" "failedBit" "I") (m_mem (by decide +kernel))) rfl dX0_failed_74 ?_
            obtain ⟨h1, h2⟩ := m_fin h; subst h1; subst h2
            exact m_iret S hr hlk hK hP hS (by decide +kernel) (by decide +kernel) dX0_failed_77
          replace h := m_f c19 h
          refine lv_lookup (off := 35) (tgt := 78) S.1 S.2.1 dX0_failed_43 (by decide) (by show Op.lookupswitch.offset _ _ _ = _; rw [lv_osw c16 (by decide), lv_osw c19 (by decide)] <;> rfl) (by decide) ?_
          refine lv_aload_n S.1 S.2.1 dX0_failed_78 rfl (lv_at hl 0 rfl) ?_
          obtain ⟨x22, e23, h⟩ := m_bs h
          refine m_get (ci := 2) (k := 11) (T := TX2) (N := 12) S (inX2 _) hK hP (m_gI_s e23) rfl (by decide) (S.2.2.2.2 (.fieldLink RX0 120 "RuleHouse2$Target" "failureBegan" "I") (m_mem (by decide +kernel))) rfl dX0_failed_79 ?_
          refine lv_iconst (v := 1) S.1 S.2.1 dX0_failed_82 (by decide) ?_
          refine lv_iadd S.1 S.2.1 dX0_failed_83 ?_
          obtain ⟨h1, h2⟩ := m_fin h; subst h1; subst h2
          exact m_iret S hr hlk hK hP hS (by decide +kernel) (by decide +kernel) dX0_failed_84
        · replace h := m_t c15 h
          refine lv_iconst (v := 0) S.1 S.2.1 dX0_failed_40 (by decide) ?_
          obtain ⟨h1, h2⟩ := m_fin h; subst h1; subst h2
          exact m_iret S hr hlk hK hP hS (by decide +kernel) (by decide +kernel) dX0_failed_41
      · replace h := m_t c12 h
        refine lv_bipush (v := (-3)) S.1 S.2.1 dX0_failed_30 (by decide) ?_
        obtain ⟨h1, h2⟩ := m_fin h; subst h1; subst h2
        exact m_iret S hr hlk hK hP hS (by decide +kernel) (by decide +kernel) dX0_failed_32
    · replace h := m_t c9 h
      refine lv_bipush (v := (-2)) S.1 S.2.1 dX0_failed_20 (by decide) ?_
      obtain ⟨h1, h2⟩ := m_fin h; subst h1; subst h2
      exact m_iret S hr hlk hK hP hS (by decide +kernel) (by decide +kernel) dX0_failed_22

def f_X0_cell (t0 : Nat) (p1 : Int32) (s0 : MS) : Option (Int64 × MS) :=
  (m_is s0 0 t0).bind fun _ =>
  m_b (f_X0_classAt t0 p1 s0) fun r1 s2 =>
  m_nn r1
    (some ((-1), s2))
    (fun a5 =>
    (m_gI s2 1 a5 3).bind fun x6 =>
    if x6 = 0 then
      some ((-1), s2)
    else
      (m_gL s2 1 a5 5).bind fun l9 =>
      some (l9, s2))
set_option maxHeartbeats 4000000 in
set_option maxRecDepth 100000 in
theorem c_X0_cell (l : Launch) (D : va_G) (tc : Nat → ClassId) (b : Nat) (t0 : Nat) (p1 : Int32) (s0 st' : MS) (r : Int64) (h : f_X0_cell t0 p1 s0 = some (r, st')) : Met l yX0_cell wsX0_cell ({ frames := 2, cells := 0, slots := 0, locals := 42 }) (m_Pc D vwCl (m_tys tc) b s0 [.ref t0, .int p1]) (m_Q D vwCl (m_tys tc) b (some (.long r)) st') 0 0 (m_A b) := by
  unfold f_X0_cell at h
  refine m_met (cc := cX0_cell) (maxL := 3) (ret := (some .long)) (by decide) rfl (by first | exact Nat.le_of_ble_eq_true rfl | simp [lg_sl, m_rfc, m_catI, m_catL, m_catA]) ?_
  intro p e s m below meth c ls S hr hlk hnm hK hP hl hS
  replace hl : lv_has ls 3 [(0, .ref t0), (1, .int p1)] := by first | exact hl | simpa [lv_args, m_rfc, m_catI, m_catL, m_catA] using hl
  refine lv_aload_n S.1 S.2.1 dX0_cell_0 rfl (lv_at hl 0 rfl) ?_
  refine lv_iload_n S.1 S.2.1 dX0_cell_1 rfl (lv_at hl 1 rfl) ?_
  obtain ⟨_, k4, h⟩ := m_bs h
  obtain ⟨r1, s2, e3, h⟩ := m_b_s h
  refine m_callr (va_runV (As := [.int p1]) (rest := []) S (c_X0_classAt l D tc b t0 p1 _ _ _ e3) (cwV 1 S.2.2.2.2 (m_wV kX0_classAt (by decide +kernel)) rfl rfl rfl (by decide +kernel) ⟨by decide +kernel, by decide +kernel⟩) (m_preV hK hP (m_is_s k4) rfl) rfl rfl hl.1 rfl (lv_room (by first | decide | simp [m_rfc, m_catI, m_catL, m_catA])) dX0_cell_2 ⟨by decide +kernel, by decide +kernel⟩) hS (fun H locs hP hS => ?_)
  refine m_astore_n (i := 2) (lv' := [(2, va_rf r1), (0, .ref t0), (1, .int p1)]) S.1 S.2.1 dX0_cell_5 rfl hl (by decide) (by first | rfl | simp [m_rfc, m_catI, m_catL, m_catA]) (fun ls hl => ?_)
  refine m_aload_n S.1 S.2.1 dX0_cell_6 rfl (lv_at hl 0 rfl) ?_
  rcases r1 with _ | a5
  · replace h := m_nn0 h
    refine lv_ifnullN (tgt := 17) S.1 S.2.1 dX0_cell_7 (by decide) ?_
    refine lv_ldc2 (v := (-1)) S.1 S.2.1 S.2.2.2.1 (S.2.2.2.2 (.constantLong RX0 126 (-1)) (m_mem (by decide +kernel))) dX0_cell_17 ?_
    obtain ⟨h1, h2⟩ := m_fin h; subst h1; subst h2
    exact m_lret S hr hlk hK hP hS (by decide +kernel) (by decide +kernel) dX0_cell_20
  · replace h := m_nn1 h
    refine lv_ifnull S.1 S.2.1 dX0_cell_7 ?_
    refine lv_aload_n S.1 S.2.1 dX0_cell_10 rfl (lv_at hl 0 rfl) ?_
    obtain ⟨x6, e7, h⟩ := m_bs h
    refine m_get (ci := 1) (k := 3) (T := TX1) (N := 6) S (inX1 _) hK hP (m_gI_s e7) rfl (by decide) (S.2.2.2.2 (.fieldLink RX0 123 "RuleHouse2$RuleClass" "made" "Z") (m_mem (by decide +kernel))) rfl dX0_cell_11 ?_
    refine lv_if_ne (tgt := 21) S.1 S.2.1 dX0_cell_14 (by decide) (fun c8 => ?_) (fun c8 => ?_)
    · replace h := m_f c8 h
      refine lv_aload_n S.1 S.2.1 dX0_cell_21 rfl (lv_at hl 0 rfl) ?_
      obtain ⟨l9, e10, h⟩ := m_bs h
      refine m_get (ci := 1) (k := 5) (T := TX1) (N := 6) S (inX1 _) hK hP (m_gL_s e10) rfl (by decide) (S.2.2.2.2 (.fieldLink RX0 128 "RuleHouse2$RuleClass" "cell" "J") (m_mem (by decide +kernel))) rfl dX0_cell_22 ?_
      obtain ⟨h1, h2⟩ := m_fin h; subst h1; subst h2
      exact m_lret S hr hlk hK hP hS (by decide +kernel) (by decide +kernel) dX0_cell_25
    · replace h := m_t c8 h
      refine lv_ldc2 (v := (-1)) S.1 S.2.1 S.2.2.2.1 (S.2.2.2.2 (.constantLong RX0 126 (-1)) (m_mem (by decide +kernel))) dX0_cell_17 ?_
      obtain ⟨h1, h2⟩ := m_fin h; subst h1; subst h2
      exact m_lret S hr hlk hK hP hS (by decide +kernel) (by decide +kernel) dX0_cell_20

def f_X0_same (t0 : Nat) (p1 : Int32) (p2 : Int32) (s0 : MS) : Option (Int32 × MS) :=
  (m_is s0 0 t0).bind fun _ =>
  m_b (f_X0_classAt t0 p1 s0) fun r1 s2 =>
  (m_is s2 0 t0).bind fun _ =>
  m_b (f_X0_classAt t0 p2 s2) fun r5 s6 =>
  m_nn r1
    (some (0, s6))
    (fun a9 =>
    m_nn r5
      (some (0, s6))
      (fun a10 =>
      (m_gI s6 1 a10 0).bind fun x11 =>
      (m_gI s6 1 a10 1).bind fun x13 =>
      (m_is s6 1 a9).bind fun _ =>
      m_b (f_X1_isOf a9 x11 x13 s6) fun x15 s16 =>
      if x15 = 0 then
        some (0, s16)
      else
        some (1, s16)))
set_option maxHeartbeats 4000000 in
set_option maxRecDepth 100000 in
theorem c_X0_same (l : Launch) (D : va_G) (tc : Nat → ClassId) (b : Nat) (t0 : Nat) (p1 : Int32) (p2 : Int32) (s0 st' : MS) (r : Int32) (h : f_X0_same t0 p1 p2 s0 = some (r, st')) : Met l yX0_same wsX0_same ({ frames := 2, cells := 0, slots := 0, locals := 42 }) (m_Pc D vwCl (m_tys tc) b s0 [.ref t0, .int p1, .int p2]) (m_Q D vwCl (m_tys tc) b (some (.int r)) st') 0 0 (m_A b) := by
  unfold f_X0_same at h
  refine m_met (cc := cX0_same) (maxL := 5) (ret := (some .boolean)) (by decide) rfl (by first | exact Nat.le_of_ble_eq_true rfl | simp [lg_sl, m_rfc, m_catI, m_catL, m_catA]) ?_
  intro p e s m below meth c ls S hr hlk hnm hK hP hl hS
  replace hl : lv_has ls 5 [(0, .ref t0), (1, .int p1), (2, .int p2)] := by first | exact hl | simpa [lv_args, m_rfc, m_catI, m_catL, m_catA] using hl
  refine lv_aload_n S.1 S.2.1 dX0_same_0 rfl (lv_at hl 0 rfl) ?_
  refine lv_iload_n S.1 S.2.1 dX0_same_1 rfl (lv_at hl 1 rfl) ?_
  obtain ⟨_, k4, h⟩ := m_bs h
  obtain ⟨r1, s2, e3, h⟩ := m_b_s h
  refine m_callr (va_runV (As := [.int p1]) (rest := []) S (c_X0_classAt l D tc b t0 p1 _ _ _ e3) (cwV 1 S.2.2.2.2 (m_wV kX0_classAt (by decide +kernel)) rfl rfl rfl (by decide +kernel) ⟨by decide +kernel, by decide +kernel⟩) (m_preV hK hP (m_is_s k4) rfl) rfl rfl hl.1 rfl (lv_room (by first | decide | simp [m_rfc, m_catI, m_catL, m_catA])) dX0_same_2 ⟨by decide +kernel, by decide +kernel⟩) hS (fun H locs hP hS => ?_)
  refine m_astore_n (i := 3) (lv' := [(3, va_rf r1), (0, .ref t0), (1, .int p1), (2, .int p2)]) S.1 S.2.1 dX0_same_5 rfl hl (by decide) (by first | rfl | simp [m_rfc, m_catI, m_catL, m_catA]) (fun ls hl => ?_)
  refine lv_aload_n S.1 S.2.1 dX0_same_6 rfl (lv_at hl 1 rfl) ?_
  refine lv_iload_n S.1 S.2.1 dX0_same_7 rfl (lv_at hl 3 rfl) ?_
  obtain ⟨_, k8, h⟩ := m_bs h
  obtain ⟨r5, s6, e7, h⟩ := m_b_s h
  refine m_callr (va_runV (As := [.int p2]) (rest := []) S (c_X0_classAt l D tc b t0 p2 _ _ _ e7) (cwV 1 S.2.2.2.2 (m_wV kX0_classAt (by decide +kernel)) rfl rfl rfl (by decide +kernel) ⟨by decide +kernel, by decide +kernel⟩) (m_preV hK hP (m_is_s k8) rfl) rfl rfl hl.1 rfl (lv_room (by first | decide | simp [m_rfc, m_catI, m_catL, m_catA])) dX0_same_8 ⟨by decide +kernel, by decide +kernel⟩) hS (fun H locs hP hS => ?_)
  refine m_astore (i := 4) (lv' := [(4, va_rf r5), (3, va_rf r1), (0, .ref t0), (1, .int p1), (2, .int p2)]) S.1 S.2.1 dX0_same_11 hl (by decide) (by first | rfl | simp [m_rfc, m_catI, m_catL, m_catA]) (fun ls hl => ?_)
  refine m_aload_n S.1 S.2.1 dX0_same_13 rfl (lv_at hl 1 rfl) ?_
  rcases r1 with _ | a9
  · replace h := m_nn0 h
    refine lv_ifnullN (tgt := 43) S.1 S.2.1 dX0_same_14 (by decide) ?_
    refine lv_iconst (v := 0) S.1 S.2.1 dX0_same_43 (by decide) ?_
    obtain ⟨h1, h2⟩ := m_fin h; subst h1; subst h2
    exact m_zret S hr hlk hK hP hS (by decide) (by decide +kernel) (by decide +kernel) dX0_same_44
  · replace h := m_nn1 h
    refine lv_ifnull S.1 S.2.1 dX0_same_14 ?_
    refine m_aload S.1 S.2.1 dX0_same_17 (lv_at hl 0 rfl) ?_
    rcases r5 with _ | a10
    · replace h := m_nn0 h
      refine lv_ifnullN (tgt := 43) S.1 S.2.1 dX0_same_19 (by decide) ?_
      refine lv_iconst (v := 0) S.1 S.2.1 dX0_same_43 (by decide) ?_
      obtain ⟨h1, h2⟩ := m_fin h; subst h1; subst h2
      exact m_zret S hr hlk hK hP hS (by decide) (by decide +kernel) (by decide +kernel) dX0_same_44
    · replace h := m_nn1 h
      refine lv_ifnull S.1 S.2.1 dX0_same_19 ?_
      refine lv_aload_n S.1 S.2.1 dX0_same_22 rfl (lv_at hl 1 rfl) ?_
      refine lv_aload S.1 S.2.1 dX0_same_23 (lv_at hl 0 rfl) ?_
      obtain ⟨x11, e12, h⟩ := m_bs h
      refine m_get (ci := 1) (k := 0) (T := TX1) (N := 6) S (inX1 _) hK hP (m_gI_s e12) rfl (by decide) (S.2.2.2.2 (.fieldLink RX0 132 "RuleHouse2$RuleClass" "edition" "I") (m_mem (by decide +kernel))) rfl dX0_same_25 ?_
      refine lv_aload S.1 S.2.1 dX0_same_28 (lv_at hl 0 rfl) ?_
      obtain ⟨x13, e14, h⟩ := m_bs h
      refine m_get (ci := 1) (k := 1) (T := TX1) (N := 6) S (inX1 _) hK hP (m_gI_s e14) rfl (by decide) (S.2.2.2.2 (.fieldLink RX0 135 "RuleHouse2$RuleClass" "does" "I") (m_mem (by decide +kernel))) rfl dX0_same_30 ?_
      obtain ⟨_, k18, h⟩ := m_bs h
      obtain ⟨x15, s16, e17, h⟩ := m_b_s h
      refine m_calli (va_runV (As := [.int x11, .int x13]) (rest := []) S (c_X1_isOf l D tc b a9 x11 x13 _ _ _ e17) (cwV 2 S.2.2.2.2 (m_wV kX1_isOf (by decide +kernel)) rfl rfl rfl (by decide +kernel) ⟨by decide +kernel, by decide +kernel⟩) (m_preV hK hP (m_is_s k18) rfl) rfl rfl hl.1 rfl (lv_room (by first | decide | simp [m_rfc, m_catI, m_catL, m_catA])) dX0_same_33 ⟨by decide +kernel, by decide +kernel⟩) hS (fun H locs hP hS => ?_)
      refine lv_if_eq (tgt := 43) S.1 S.2.1 dX0_same_36 (by decide) (fun c19 => ?_) (fun c19 => ?_)
      · replace h := m_t c19 h
        refine lv_iconst (v := 0) S.1 S.2.1 dX0_same_43 (by decide) ?_
        obtain ⟨h1, h2⟩ := m_fin h; subst h1; subst h2
        exact m_zret S hr hlk hK hP hS (by decide) (by decide +kernel) (by decide +kernel) dX0_same_44
      · replace h := m_f c19 h
        refine lv_iconst (v := 1) S.1 S.2.1 dX0_same_39 (by decide) ?_
        refine lv_goto (tgt := 44) S.1 S.2.1 dX0_same_40 (by decide) ?_
        obtain ⟨h1, h2⟩ := m_fin h; subst h1; subst h2
        exact m_zret S hr hlk hK hP hS (by decide) (by decide +kernel) (by decide +kernel) dX0_same_44
end
section
def f_X3_init (t0 : Nat) (p1 : Int32) (s0 : MS) : Option (Unit × MS) :=
  m_nw s0 (.inr (5, 16)) (fun _ => defaultValue .int) fun a1 s2 =>
  (m_p s2 3 t0 7 (.ref a1)).bind fun s4 =>
  m_nw s4 (.inr (5, 16)) (fun _ => defaultValue .int) fun a6 s7 =>
  (m_p s7 3 t0 8 (.ref a6)).bind fun s9 =>
  m_nw s9 (.inr (5, 16)) (fun _ => defaultValue .int) fun a11 s12 =>
  (m_p s12 3 t0 9 (.ref a11)).bind fun s14 =>
  m_nw s14 (.inr (6, 16)) (fun _ => defaultValue .boolean) fun a16 s17 =>
  (m_p s17 3 t0 10 (.ref a16)).bind fun s19 =>
  m_nw s19 (.inr (7, 16)) (fun _ => defaultValue .long) fun a21 s22 =>
  (m_p s22 3 t0 11 (.ref a21)).bind fun s24 =>
  m_nw s24 (.inr (5, 40)) (fun _ => defaultValue .int) fun a26 s27 =>
  (m_p s27 3 t0 12 (.ref a26)).bind fun s29 =>
  m_nw s29 (.inr (5, 160)) (fun _ => defaultValue .int) fun a31 s32 =>
  (m_p s32 3 t0 13 (.ref a31)).bind fun s34 =>
  m_nw s34 (.inr (5, 40)) (fun _ => defaultValue .int) fun a36 s37 =>
  (m_p s37 3 t0 14 (.ref a36)).bind fun s39 =>
  m_nw s39 (.inr (5, 40)) (fun _ => defaultValue .int) fun a41 s42 =>
  (m_p s42 3 t0 15 (.ref a41)).bind fun s44 =>
  m_nw s44 (.inr (5, 40)) (fun _ => defaultValue .int) fun a46 s47 =>
  (m_p s47 3 t0 16 (.ref a46)).bind fun s49 =>
  m_nw s49 (.inr (5, 40)) (fun _ => defaultValue .int) fun a51 s52 =>
  (m_p s52 3 t0 17 (.ref a51)).bind fun s54 =>
  m_nw s54 (.inr (5, 40)) (fun _ => defaultValue .int) fun a56 s57 =>
  (m_p s57 3 t0 18 (.ref a56)).bind fun s59 =>
  m_nw s59 (.inr (5, 40)) (fun _ => defaultValue .int) fun a61 s62 =>
  (m_p s62 3 t0 19 (.ref a61)).bind fun s64 =>
  m_nw s64 (.inr (5, 120)) (fun _ => defaultValue .int) fun a66 s67 =>
  (m_p s67 3 t0 20 (.ref a66)).bind fun s69 =>
  m_nw s69 (.inr (6, 40)) (fun _ => defaultValue .boolean) fun a71 s72 =>
  (m_p s72 3 t0 21 (.ref a71)).bind fun s74 =>
  m_nw s74 (.inr (6, 120)) (fun _ => defaultValue .boolean) fun a76 s77 =>
  (m_p s77 3 t0 22 (.ref a76)).bind fun s79 =>
  m_nw s79 (.inr (5, 400)) (fun _ => defaultValue .int) fun a81 s82 =>
  (m_p s82 3 t0 23 (.ref a81)).bind fun s84 =>
  m_nw s84 (.inr (5, 400)) (fun _ => defaultValue .int) fun a86 s87 =>
  (m_p s87 3 t0 24 (.ref a86)).bind fun s89 =>
  if 0 ≤ p1 then
    if p1 ≤ 65536 then
      (m_p s89 3 t0 1 (.int p1)).bind fun s93 =>
      some ((), s93)
    else
      (m_p s89 3 t0 1 (.int 65536)).bind fun s95 =>
      some ((), s95)
  else
    (m_p s89 3 t0 1 (.int 0)).bind fun s97 =>
    some ((), s97)
set_option maxHeartbeats 4000000 in
set_option maxRecDepth 100000 in
theorem c_X3_init (l : Launch) (D : va_G) (tc : Nat → ClassId) (b : Nat) (t0 : Nat) (p1 : Int32) (s0 st' : MS) (r : Unit) (h : f_X3_init t0 p1 s0 = some (r, st')) : Met l yX3_init wsX3_init ({ frames := 1, cells := 18, slots := 1680, locals := 12 }) (m_Pc D vwCl (m_tys tc) b s0 [.ref t0, .int p1]) (m_Q D vwCl (m_tys tc) b none st') 18 1680 (m_A b) := by
  unfold f_X3_init at h
  refine m_met (cc := cX3_init) (maxL := 2) (ret := none) (by decide) rfl (by first | exact Nat.le_of_ble_eq_true rfl | simp [lg_sl, m_rfc, m_catI, m_catL, m_catA]) ?_
  intro p e s m below meth c ls S hr hlk hnm hK hP hl hS
  replace hl : lv_has ls 2 [(0, .ref t0), (1, .int p1)] := by first | exact hl | simpa [lv_args, m_rfc, m_catI, m_catL, m_catA] using hl
  refine lv_aload_n S.1 S.2.1 dX3_init_0 rfl (lv_at hl 0 rfl) ?_
  refine W.objInit S.1 S.2.1 S.2.2.2.1 (S.2.2.2.2 (.methodLink RX3 1 objectInit) (m_mem (by decide +kernel))) (S.2.2.2.2 (.instanceMethod objectInit) (m_mem (by decide +kernel))) (S.2.2.2.2 (.code objectInit ⟨#[0xb1]⟩ 1 none) (m_mem (by decide +kernel))) rfl (by rw [S.2.2.1]; exact hl.1) rfl dX3_init_1 (Nat.le_of_ble_eq_true rfl) (Nat.le_of_ble_eq_true rfl) ?_
  refine W.eq (g2 := F0 m 4 ls []) rfl ?_
  refine lv_aload_n S.1 S.2.1 dX3_init_4 rfl (lv_at hl 0 rfl) ?_
  refine lv_bipush (v := 16) S.1 S.2.1 dX3_init_5 (by decide) ?_
  obtain ⟨a1, s2, e3, h⟩ := m_nw_s h
  refine m_newa (t := 5) (N := 16) (i := 16) (atype := .int) (ty := .int) (cA := tc 5) S (S.2.2.2.2 (.arrayClass .int) (m_mem (by decide +kernel))) rfl hK hP hS rfl (by decide +kernel) (by decide +kernel) (by decide +kernel) (by decide +kernel) (by decide +kernel) e3 dX3_init_7 (fun H hP hS => ?_)
  obtain ⟨s4, e5, h⟩ := m_bs h
  refine m_putF (ci := 3) (k := 7) (T := TX3) (N := 25) (v := .ref a1) (ty := (.array .int)) S (inX3 _) tyX3 tX3 nX3 hK hP hS e5 rfl (by decide) (S.2.2.2.2 (.fieldLink RX3 7 "RuleHouse2Model" "edition" "[I") (m_mem (by decide +kernel))) rfl rfl hnm rfl (by decide +kernel) rfl rfl dX3_init_9 (fun H locs hP hS => ?_)
  refine lv_aload_n S.1 S.2.1 dX3_init_12 rfl (lv_at hl 0 rfl) ?_
  refine lv_bipush (v := 16) S.1 S.2.1 dX3_init_13 (by decide) ?_
  obtain ⟨a6, s7, e8, h⟩ := m_nw_s h
  refine m_newa (t := 5) (N := 16) (i := 16) (atype := .int) (ty := .int) (cA := tc 5) S (S.2.2.2.2 (.arrayClass .int) (m_mem (by decide +kernel))) rfl hK hP hS rfl (by decide +kernel) (by decide +kernel) (by decide +kernel) (by decide +kernel) (by decide +kernel) e8 dX3_init_15 (fun H hP hS => ?_)
  obtain ⟨s9, e10, h⟩ := m_bs h
  refine m_putF (ci := 3) (k := 8) (T := TX3) (N := 25) (v := .ref a6) (ty := (.array .int)) S (inX3 _) tyX3 tX3 nX3 hK hP hS e10 rfl (by decide) (S.2.2.2.2 (.fieldLink RX3 13 "RuleHouse2Model" "does" "[I") (m_mem (by decide +kernel))) rfl rfl hnm rfl (by decide +kernel) rfl rfl dX3_init_17 (fun H locs hP hS => ?_)
  refine lv_aload_n S.1 S.2.1 dX3_init_20 rfl (lv_at hl 0 rfl) ?_
  refine lv_bipush (v := 16) S.1 S.2.1 dX3_init_21 (by decide) ?_
  obtain ⟨a11, s12, e13, h⟩ := m_nw_s h
  refine m_newa (t := 5) (N := 16) (i := 16) (atype := .int) (ty := .int) (cA := tc 5) S (S.2.2.2.2 (.arrayClass .int) (m_mem (by decide +kernel))) rfl hK hP hS rfl (by decide +kernel) (by decide +kernel) (by decide +kernel) (by decide +kernel) (by decide +kernel) e13 dX3_init_23 (fun H hP hS => ?_)
  obtain ⟨s14, e15, h⟩ := m_bs h
  refine m_putF (ci := 3) (k := 9) (T := TX3) (N := 25) (v := .ref a11) (ty := (.array .int)) S (inX3 _) tyX3 tX3 nX3 hK hP hS e15 rfl (by decide) (S.2.2.2.2 (.fieldLink RX3 16 "RuleHouse2Model" "made" "[I") (m_mem (by decide +kernel))) rfl rfl hnm rfl (by decide +kernel) rfl rfl dX3_init_25 (fun H locs hP hS => ?_)
  refine lv_aload_n S.1 S.2.1 dX3_init_28 rfl (lv_at hl 0 rfl) ?_
  refine lv_bipush (v := 16) S.1 S.2.1 dX3_init_29 (by decide) ?_
  obtain ⟨a16, s17, e18, h⟩ := m_nw_s h
  refine m_newa (t := 6) (N := 16) (i := 16) (atype := .boolean) (ty := .boolean) (cA := tc 6) S (S.2.2.2.2 (.arrayClass .boolean) (m_mem (by decide +kernel))) rfl hK hP hS rfl (by decide +kernel) (by decide +kernel) (by decide +kernel) (by decide +kernel) (by decide +kernel) e18 dX3_init_31 (fun H hP hS => ?_)
  obtain ⟨s19, e20, h⟩ := m_bs h
  refine m_putF (ci := 3) (k := 10) (T := TX3) (N := 25) (v := .ref a16) (ty := (.array .boolean)) S (inX3 _) tyX3 tX3 nX3 hK hP hS e20 rfl (by decide) (S.2.2.2.2 (.fieldLink RX3 19 "RuleHouse2Model" "fails" "[Z") (m_mem (by decide +kernel))) rfl rfl hnm rfl (by decide +kernel) rfl rfl dX3_init_33 (fun H locs hP hS => ?_)
  refine lv_aload_n S.1 S.2.1 dX3_init_36 rfl (lv_at hl 0 rfl) ?_
  refine lv_bipush (v := 16) S.1 S.2.1 dX3_init_37 (by decide) ?_
  obtain ⟨a21, s22, e23, h⟩ := m_nw_s h
  refine m_newa (t := 7) (N := 16) (i := 16) (atype := .long) (ty := .long) (cA := tc 7) S (S.2.2.2.2 (.arrayClass .long) (m_mem (by decide +kernel))) rfl hK hP hS rfl (by decide +kernel) (by decide +kernel) (by decide +kernel) (by decide +kernel) (by decide +kernel) e23 dX3_init_39 (fun H hP hS => ?_)
  obtain ⟨s24, e25, h⟩ := m_bs h
  refine m_putF (ci := 3) (k := 11) (T := TX3) (N := 25) (v := .ref a21) (ty := (.array .long)) S (inX3 _) tyX3 tX3 nX3 hK hP hS e25 rfl (by decide) (S.2.2.2.2 (.fieldLink RX3 23 "RuleHouse2Model" "cell" "[J") (m_mem (by decide +kernel))) rfl rfl hnm rfl (by decide +kernel) rfl rfl dX3_init_41 (fun H locs hP hS => ?_)
  refine lv_aload_n S.1 S.2.1 dX3_init_44 rfl (lv_at hl 0 rfl) ?_
  refine lv_bipush (v := 40) S.1 S.2.1 dX3_init_45 (by decide) ?_
  obtain ⟨a26, s27, e28, h⟩ := m_nw_s h
  refine m_newa (t := 5) (N := 40) (i := 40) (atype := .int) (ty := .int) (cA := tc 5) S (S.2.2.2.2 (.arrayClass .int) (m_mem (by decide +kernel))) rfl hK hP hS rfl (by decide +kernel) (by decide +kernel) (by decide +kernel) (by decide +kernel) (by decide +kernel) e28 dX3_init_47 (fun H hP hS => ?_)
  obtain ⟨s29, e30, h⟩ := m_bs h
  refine m_putF (ci := 3) (k := 12) (T := TX3) (N := 25) (v := .ref a26) (ty := (.array .int)) S (inX3 _) tyX3 tX3 nX3 hK hP hS e30 rfl (by decide) (S.2.2.2.2 (.fieldLink RX3 27 "RuleHouse2Model" "rule" "[I") (m_mem (by decide +kernel))) rfl rfl hnm rfl (by decide +kernel) rfl rfl dX3_init_49 (fun H locs hP hS => ?_)
  refine lv_aload_n S.1 S.2.1 dX3_init_52 rfl (lv_at hl 0 rfl) ?_
  refine lv_sipush (v := 160) S.1 S.2.1 dX3_init_53 (by decide) ?_
  obtain ⟨a31, s32, e33, h⟩ := m_nw_s h
  refine m_newa (t := 5) (N := 160) (i := 160) (atype := .int) (ty := .int) (cA := tc 5) S (S.2.2.2.2 (.arrayClass .int) (m_mem (by decide +kernel))) rfl hK hP hS rfl (by decide +kernel) (by decide +kernel) (by decide +kernel) (by decide +kernel) (by decide +kernel) e33 dX3_init_56 (fun H hP hS => ?_)
  obtain ⟨s34, e35, h⟩ := m_bs h
  refine m_putF (ci := 3) (k := 13) (T := TX3) (N := 25) (v := .ref a31) (ty := (.array .int)) S (inX3 _) tyX3 tX3 nX3 hK hP hS e35 rfl (by decide) (S.2.2.2.2 (.fieldLink RX3 30 "RuleHouse2Model" "attributes" "[I") (m_mem (by decide +kernel))) rfl rfl hnm rfl (by decide +kernel) rfl rfl dX3_init_58 (fun H locs hP hS => ?_)
  refine lv_aload_n S.1 S.2.1 dX3_init_61 rfl (lv_at hl 0 rfl) ?_
  refine lv_bipush (v := 40) S.1 S.2.1 dX3_init_62 (by decide) ?_
  obtain ⟨a36, s37, e38, h⟩ := m_nw_s h
  refine m_newa (t := 5) (N := 40) (i := 40) (atype := .int) (ty := .int) (cA := tc 5) S (S.2.2.2.2 (.arrayClass .int) (m_mem (by decide +kernel))) rfl hK hP hS rfl (by decide +kernel) (by decide +kernel) (by decide +kernel) (by decide +kernel) (by decide +kernel) e38 dX3_init_64 (fun H hP hS => ?_)
  obtain ⟨s39, e40, h⟩ := m_bs h
  refine m_putF (ci := 3) (k := 14) (T := TX3) (N := 25) (v := .ref a36) (ty := (.array .int)) S (inX3 _) tyX3 tX3 nX3 hK hP hS e40 rfl (by decide) (S.2.2.2.2 (.fieldLink RX3 33 "RuleHouse2Model" "failure" "[I") (m_mem (by decide +kernel))) rfl rfl hnm rfl (by decide +kernel) rfl rfl dX3_init_66 (fun H locs hP hS => ?_)
  refine lv_aload_n S.1 S.2.1 dX3_init_69 rfl (lv_at hl 0 rfl) ?_
  refine lv_bipush (v := 40) S.1 S.2.1 dX3_init_70 (by decide) ?_
  obtain ⟨a41, s42, e43, h⟩ := m_nw_s h
  refine m_newa (t := 5) (N := 40) (i := 40) (atype := .int) (ty := .int) (cA := tc 5) S (S.2.2.2.2 (.arrayClass .int) (m_mem (by decide +kernel))) rfl hK hP hS rfl (by decide +kernel) (by decide +kernel) (by decide +kernel) (by decide +kernel) (by decide +kernel) e43 dX3_init_72 (fun H hP hS => ?_)
  obtain ⟨s44, e45, h⟩ := m_bs h
  refine m_putF (ci := 3) (k := 15) (T := TX3) (N := 25) (v := .ref a41) (ty := (.array .int)) S (inX3 _) tyX3 tX3 nX3 hK hP hS e45 rfl (by decide) (S.2.2.2.2 (.fieldLink RX3 36 "RuleHouse2Model" "bit" "[I") (m_mem (by decide +kernel))) rfl rfl hnm rfl (by decide +kernel) rfl rfl dX3_init_74 (fun H locs hP hS => ?_)
  refine lv_aload_n S.1 S.2.1 dX3_init_77 rfl (lv_at hl 0 rfl) ?_
  refine lv_bipush (v := 40) S.1 S.2.1 dX3_init_78 (by decide) ?_
  obtain ⟨a46, s47, e48, h⟩ := m_nw_s h
  refine m_newa (t := 5) (N := 40) (i := 40) (atype := .int) (ty := .int) (cA := tc 5) S (S.2.2.2.2 (.arrayClass .int) (m_mem (by decide +kernel))) rfl hK hP hS rfl (by decide +kernel) (by decide +kernel) (by decide +kernel) (by decide +kernel) (by decide +kernel) e48 dX3_init_80 (fun H hP hS => ?_)
  obtain ⟨s49, e50, h⟩ := m_bs h
  refine m_putF (ci := 3) (k := 16) (T := TX3) (N := 25) (v := .ref a46) (ty := (.array .int)) S (inX3 _) tyX3 tX3 nX3 hK hP hS e50 rfl (by decide) (S.2.2.2.2 (.fieldLink RX3 39 "RuleHouse2Model" "began" "[I") (m_mem (by decide +kernel))) rfl rfl hnm rfl (by decide +kernel) rfl rfl dX3_init_82 (fun H locs hP hS => ?_)
  refine lv_aload_n S.1 S.2.1 dX3_init_85 rfl (lv_at hl 0 rfl) ?_
  refine lv_bipush (v := 40) S.1 S.2.1 dX3_init_86 (by decide) ?_
  obtain ⟨a51, s52, e53, h⟩ := m_nw_s h
  refine m_newa (t := 5) (N := 40) (i := 40) (atype := .int) (ty := .int) (cA := tc 5) S (S.2.2.2.2 (.arrayClass .int) (m_mem (by decide +kernel))) rfl hK hP hS rfl (by decide +kernel) (by decide +kernel) (by decide +kernel) (by decide +kernel) (by decide +kernel) e53 dX3_init_88 (fun H hP hS => ?_)
  obtain ⟨s54, e55, h⟩ := m_bs h
  refine m_putF (ci := 3) (k := 17) (T := TX3) (N := 25) (v := .ref a51) (ty := (.array .int)) S (inX3 _) tyX3 tX3 nX3 hK hP hS e55 rfl (by decide) (S.2.2.2.2 (.fieldLink RX3 42 "RuleHouse2Model" "mine" "[I") (m_mem (by decide +kernel))) rfl rfl hnm rfl (by decide +kernel) rfl rfl dX3_init_90 (fun H locs hP hS => ?_)
  refine lv_aload_n S.1 S.2.1 dX3_init_93 rfl (lv_at hl 0 rfl) ?_
  refine lv_bipush (v := 40) S.1 S.2.1 dX3_init_94 (by decide) ?_
  obtain ⟨a56, s57, e58, h⟩ := m_nw_s h
  refine m_newa (t := 5) (N := 40) (i := 40) (atype := .int) (ty := .int) (cA := tc 5) S (S.2.2.2.2 (.arrayClass .int) (m_mem (by decide +kernel))) rfl hK hP hS rfl (by decide +kernel) (by decide +kernel) (by decide +kernel) (by decide +kernel) (by decide +kernel) e58 dX3_init_96 (fun H hP hS => ?_)
  obtain ⟨s59, e60, h⟩ := m_bs h
  refine m_putF (ci := 3) (k := 18) (T := TX3) (N := 25) (v := .ref a56) (ty := (.array .int)) S (inX3 _) tyX3 tX3 nX3 hK hP hS e60 rfl (by decide) (S.2.2.2.2 (.fieldLink RX3 45 "RuleHouse2Model" "steps" "[I") (m_mem (by decide +kernel))) rfl rfl hnm rfl (by decide +kernel) rfl rfl dX3_init_98 (fun H locs hP hS => ?_)
  refine lv_aload_n S.1 S.2.1 dX3_init_101 rfl (lv_at hl 0 rfl) ?_
  refine lv_bipush (v := 40) S.1 S.2.1 dX3_init_102 (by decide) ?_
  obtain ⟨a61, s62, e63, h⟩ := m_nw_s h
  refine m_newa (t := 5) (N := 40) (i := 40) (atype := .int) (ty := .int) (cA := tc 5) S (S.2.2.2.2 (.arrayClass .int) (m_mem (by decide +kernel))) rfl hK hP hS rfl (by decide +kernel) (by decide +kernel) (by decide +kernel) (by decide +kernel) (by decide +kernel) e63 dX3_init_104 (fun H hP hS => ?_)
  obtain ⟨s64, e65, h⟩ := m_bs h
  refine m_putF (ci := 3) (k := 19) (T := TX3) (N := 25) (v := .ref a61) (ty := (.array .int)) S (inX3 _) tyX3 tX3 nX3 hK hP hS e65 rfl (by decide) (S.2.2.2.2 (.fieldLink RX3 48 "RuleHouse2Model" "chain" "[I") (m_mem (by decide +kernel))) rfl rfl hnm rfl (by decide +kernel) rfl rfl dX3_init_106 (fun H locs hP hS => ?_)
  refine lv_aload_n S.1 S.2.1 dX3_init_109 rfl (lv_at hl 0 rfl) ?_
  refine lv_bipush (v := 120) S.1 S.2.1 dX3_init_110 (by decide) ?_
  obtain ⟨a66, s67, e68, h⟩ := m_nw_s h
  refine m_newa (t := 5) (N := 120) (i := 120) (atype := .int) (ty := .int) (cA := tc 5) S (S.2.2.2.2 (.arrayClass .int) (m_mem (by decide +kernel))) rfl hK hP hS rfl (by decide +kernel) (by decide +kernel) (by decide +kernel) (by decide +kernel) (by decide +kernel) e68 dX3_init_112 (fun H hP hS => ?_)
  obtain ⟨s69, e70, h⟩ := m_bs h
  refine m_putF (ci := 3) (k := 20) (T := TX3) (N := 25) (v := .ref a66) (ty := (.array .int)) S (inX3 _) tyX3 tX3 nX3 hK hP hS e70 rfl (by decide) (S.2.2.2.2 (.fieldLink RX3 51 "RuleHouse2Model" "provider" "[I") (m_mem (by decide +kernel))) rfl rfl hnm rfl (by decide +kernel) rfl rfl dX3_init_114 (fun H locs hP hS => ?_)
  refine lv_aload_n S.1 S.2.1 dX3_init_117 rfl (lv_at hl 0 rfl) ?_
  refine lv_bipush (v := 40) S.1 S.2.1 dX3_init_118 (by decide) ?_
  obtain ⟨a71, s72, e73, h⟩ := m_nw_s h
  refine m_newa (t := 6) (N := 40) (i := 40) (atype := .boolean) (ty := .boolean) (cA := tc 6) S (S.2.2.2.2 (.arrayClass .boolean) (m_mem (by decide +kernel))) rfl hK hP hS rfl (by decide +kernel) (by decide +kernel) (by decide +kernel) (by decide +kernel) (by decide +kernel) e73 dX3_init_120 (fun H hP hS => ?_)
  obtain ⟨s74, e75, h⟩ := m_bs h
  refine m_putF (ci := 3) (k := 21) (T := TX3) (N := 25) (v := .ref a71) (ty := (.array .boolean)) S (inX3 _) tyX3 tX3 nX3 hK hP hS e75 rfl (by decide) (S.2.2.2.2 (.fieldLink RX3 54 "RuleHouse2Model" "run" "[Z") (m_mem (by decide +kernel))) rfl rfl hnm rfl (by decide +kernel) rfl rfl dX3_init_122 (fun H locs hP hS => ?_)
  refine lv_aload_n S.1 S.2.1 dX3_init_125 rfl (lv_at hl 0 rfl) ?_
  refine lv_bipush (v := 120) S.1 S.2.1 dX3_init_126 (by decide) ?_
  obtain ⟨a76, s77, e78, h⟩ := m_nw_s h
  refine m_newa (t := 6) (N := 120) (i := 120) (atype := .boolean) (ty := .boolean) (cA := tc 6) S (S.2.2.2.2 (.arrayClass .boolean) (m_mem (by decide +kernel))) rfl hK hP hS rfl (by decide +kernel) (by decide +kernel) (by decide +kernel) (by decide +kernel) (by decide +kernel) e78 dX3_init_128 (fun H hP hS => ?_)
  obtain ⟨s79, e80, h⟩ := m_bs h
  refine m_putF (ci := 3) (k := 22) (T := TX3) (N := 25) (v := .ref a76) (ty := (.array .boolean)) S (inX3 _) tyX3 tX3 nX3 hK hP hS e80 rfl (by decide) (S.2.2.2.2 (.fieldLink RX3 57 "RuleHouse2Model" "has" "[Z") (m_mem (by decide +kernel))) rfl rfl hnm rfl (by decide +kernel) rfl rfl dX3_init_130 (fun H locs hP hS => ?_)
  refine lv_aload_n S.1 S.2.1 dX3_init_133 rfl (lv_at hl 0 rfl) ?_
  refine lv_sipush (v := 400) S.1 S.2.1 dX3_init_134 (by decide) ?_
  obtain ⟨a81, s82, e83, h⟩ := m_nw_s h
  refine m_newa (t := 5) (N := 400) (i := 400) (atype := .int) (ty := .int) (cA := tc 5) S (S.2.2.2.2 (.arrayClass .int) (m_mem (by decide +kernel))) rfl hK hP hS rfl (by decide +kernel) (by decide +kernel) (by decide +kernel) (by decide +kernel) (by decide +kernel) e83 dX3_init_137 (fun H hP hS => ?_)
  obtain ⟨s84, e85, h⟩ := m_bs h
  refine m_putF (ci := 3) (k := 23) (T := TX3) (N := 25) (v := .ref a81) (ty := (.array .int)) S (inX3 _) tyX3 tX3 nX3 hK hP hS e85 rfl (by decide) (S.2.2.2.2 (.fieldLink RX3 60 "RuleHouse2Model" "of" "[I") (m_mem (by decide +kernel))) rfl rfl hnm rfl (by decide +kernel) rfl rfl dX3_init_139 (fun H locs hP hS => ?_)
  refine lv_aload_n S.1 S.2.1 dX3_init_142 rfl (lv_at hl 0 rfl) ?_
  refine lv_sipush (v := 400) S.1 S.2.1 dX3_init_143 (by decide) ?_
  obtain ⟨a86, s87, e88, h⟩ := m_nw_s h
  refine m_newa (t := 5) (N := 400) (i := 400) (atype := .int) (ty := .int) (cA := tc 5) S (S.2.2.2.2 (.arrayClass .int) (m_mem (by decide +kernel))) rfl hK hP hS rfl (by decide +kernel) (by decide +kernel) (by decide +kernel) (by decide +kernel) (by decide +kernel) e88 dX3_init_146 (fun H hP hS => ?_)
  obtain ⟨s89, e90, h⟩ := m_bs h
  refine m_putF (ci := 3) (k := 24) (T := TX3) (N := 25) (v := .ref a86) (ty := (.array .int)) S (inX3 _) tyX3 tX3 nX3 hK hP hS e90 rfl (by decide) (S.2.2.2.2 (.fieldLink RX3 63 "RuleHouse2Model" "number" "[I") (m_mem (by decide +kernel))) rfl rfl hnm rfl (by decide +kernel) rfl rfl dX3_init_148 (fun H locs hP hS => ?_)
  refine lv_aload_n S.1 S.2.1 dX3_init_151 rfl (lv_at hl 0 rfl) ?_
  refine lv_iload_n S.1 S.2.1 dX3_init_152 rfl (lv_at hl 1 rfl) ?_
  refine lv_if_ge (tgt := 160) S.1 S.2.1 dX3_init_153 (by decide) (fun c91 => ?_) (fun c91 => ?_)
  · replace h := m_t c91 h
    refine lv_iload_n S.1 S.2.1 dX3_init_160 rfl (lv_at hl 1 rfl) ?_
    refine lv_ldc (v := 65536) S.1 S.2.1 S.2.2.2.1 (S.2.2.2.2 (.constant RX3 66 65536) (m_mem (by decide +kernel))) dX3_init_161 ?_
    refine lv_icmp_le (tgt := 171) S.1 S.2.1 dX3_init_163 (by decide) (fun c92 => ?_) (fun c92 => ?_)
    · replace h := m_t c92 h
      refine lv_iload_n S.1 S.2.1 dX3_init_171 rfl (lv_at hl 1 rfl) ?_
      obtain ⟨s93, e94, h⟩ := m_bs h
      refine m_putF (ci := 3) (k := 1) (T := TX3) (N := 25) (v := .int p1) (ty := .int) S (inX3 _) tyX3 tX3 nX3 hK hP hS e94 rfl (by decide) (S.2.2.2.2 (.fieldLink RX3 67 "RuleHouse2Model" "most" "I") (m_mem (by decide +kernel))) rfl rfl hnm rfl (by decide +kernel) rfl rfl dX3_init_172 (fun H locs hP hS => ?_)
      obtain ⟨h1, h2⟩ := m_fin h; subst h1; subst h2
      exact m_vret S hr hlk hK hP hS (by decide +kernel) (by decide +kernel) dX3_init_175
    · replace h := m_f c92 h
      refine lv_ldc (v := 65536) S.1 S.2.1 S.2.2.2.1 (S.2.2.2.2 (.constant RX3 66 65536) (m_mem (by decide +kernel))) dX3_init_166 ?_
      refine lv_goto (tgt := 172) S.1 S.2.1 dX3_init_168 (by decide) ?_
      obtain ⟨s95, e96, h⟩ := m_bs h
      refine m_putF (ci := 3) (k := 1) (T := TX3) (N := 25) (v := .int 65536) (ty := .int) S (inX3 _) tyX3 tX3 nX3 hK hP hS e96 rfl (by decide) (S.2.2.2.2 (.fieldLink RX3 67 "RuleHouse2Model" "most" "I") (m_mem (by decide +kernel))) rfl rfl hnm rfl (by decide +kernel) rfl rfl dX3_init_172 (fun H locs hP hS => ?_)
      obtain ⟨h1, h2⟩ := m_fin h; subst h1; subst h2
      exact m_vret S hr hlk hK hP hS (by decide +kernel) (by decide +kernel) dX3_init_175
  · replace h := m_f c91 h
    refine lv_iconst (v := 0) S.1 S.2.1 dX3_init_156 (by decide) ?_
    refine lv_goto (tgt := 172) S.1 S.2.1 dX3_init_157 (by decide) ?_
    obtain ⟨s97, e98, h⟩ := m_bs h
    refine m_putF (ci := 3) (k := 1) (T := TX3) (N := 25) (v := .int 0) (ty := .int) S (inX3 _) tyX3 tX3 nX3 hK hP hS e98 rfl (by decide) (S.2.2.2.2 (.fieldLink RX3 67 "RuleHouse2Model" "most" "I") (m_mem (by decide +kernel))) rfl rfl hnm rfl (by decide +kernel) rfl rfl dX3_init_172 (fun H locs hP hS => ?_)
    obtain ⟨h1, h2⟩ := m_fin h; subst h1; subst h2
    exact m_vret S hr hlk hK hP hS (by decide +kernel) (by decide +kernel) dX3_init_175

def f_X3_thrown (t0 : Nat) (s0 : MS) : Option (Int32 × MS) :=
  (m_gI s0 3 t0 0).bind fun x1 =>
  some (x1, s0)
set_option maxHeartbeats 4000000 in
set_option maxRecDepth 100000 in
theorem c_X3_thrown (l : Launch) (D : va_G) (tc : Nat → ClassId) (b : Nat) (t0 : Nat) (s0 st' : MS) (r : Int32) (h : f_X3_thrown t0 s0 = some (r, st')) : Met l yX3_thrown wsX3_thrown ({ frames := 0, cells := 0, slots := 0, locals := 0 }) (m_Pc D vwCl (m_tys tc) b s0 [.ref t0]) (m_Q D vwCl (m_tys tc) b (some (.int r)) st') 0 0 (m_A b) := by
  unfold f_X3_thrown at h
  refine m_met (cc := cX3_thrown) (maxL := 1) (ret := (some .int)) (by decide) rfl (by first | exact Nat.le_of_ble_eq_true rfl | simp [lg_sl, m_rfc, m_catI, m_catL, m_catA]) ?_
  intro p e s m below meth c ls S hr hlk hnm hK hP hl hS
  replace hl : lv_has ls 1 [(0, .ref t0)] := by first | exact hl | simpa [lv_args, m_rfc, m_catI, m_catL, m_catA] using hl
  refine lv_aload_n S.1 S.2.1 dX3_thrown_0 rfl (lv_at hl 0 rfl) ?_
  obtain ⟨x1, e2, h⟩ := m_bs h
  refine m_get (ci := 3) (k := 0) (T := TX3) (N := 25) S (inX3 _) hK hP (m_gI_s e2) rfl (by decide) (S.2.2.2.2 (.fieldLink RX3 71 "RuleHouse2Model" "code" "I") (m_mem (by decide +kernel))) rfl dX3_thrown_1 ?_
  obtain ⟨h1, h2⟩ := m_fin h; subst h1; subst h2
  exact m_iret S hr hlk hK hP hS (by decide +kernel) (by decide +kernel) dX3_thrown_4

def f_X3_isRule (t0 : Nat) (p1 : Int32) (s0 : MS) : Option (Int32 × MS) :=
  if p1 < 0 then
    some (0, s0)
  else
    (m_gI s0 3 t0 2).bind fun x2 =>
    if x2 ≤ p1 then
      some (0, s0)
    else
      some (1, s0)
set_option maxHeartbeats 4000000 in
set_option maxRecDepth 100000 in
theorem c_X3_isRule (l : Launch) (D : va_G) (tc : Nat → ClassId) (b : Nat) (t0 : Nat) (p1 : Int32) (s0 st' : MS) (r : Int32) (h : f_X3_isRule t0 p1 s0 = some (r, st')) : Met l yX3_isRule wsX3_isRule ({ frames := 0, cells := 0, slots := 0, locals := 0 }) (m_Pc D vwCl (m_tys tc) b s0 [.ref t0, .int p1]) (m_Q D vwCl (m_tys tc) b (some (.int r)) st') 0 0 (m_A b) := by
  unfold f_X3_isRule at h
  refine m_met (cc := cX3_isRule) (maxL := 2) (ret := (some .boolean)) (by decide) rfl (by first | exact Nat.le_of_ble_eq_true rfl | simp [lg_sl, m_rfc, m_catI, m_catL, m_catA]) ?_
  intro p e s m below meth c ls S hr hlk hnm hK hP hl hS
  replace hl : lv_has ls 2 [(0, .ref t0), (1, .int p1)] := by first | exact hl | simpa [lv_args, m_rfc, m_catI, m_catL, m_catA] using hl
  refine lv_iload_n S.1 S.2.1 dX3_isRule_0 rfl (lv_at hl 1 rfl) ?_
  refine lv_if_lt (tgt := 16) S.1 S.2.1 dX3_isRule_1 (by decide) (fun c1 => ?_) (fun c1 => ?_)
  · replace h := m_t c1 h
    refine lv_iconst (v := 0) S.1 S.2.1 dX3_isRule_16 (by decide) ?_
    obtain ⟨h1, h2⟩ := m_fin h; subst h1; subst h2
    exact m_zret S hr hlk hK hP hS (by decide) (by decide +kernel) (by decide +kernel) dX3_isRule_17
  · replace h := m_f c1 h
    refine lv_iload_n S.1 S.2.1 dX3_isRule_4 rfl (lv_at hl 1 rfl) ?_
    refine lv_aload_n S.1 S.2.1 dX3_isRule_5 rfl (lv_at hl 0 rfl) ?_
    obtain ⟨x2, e3, h⟩ := m_bs h
    refine m_get (ci := 3) (k := 2) (T := TX3) (N := 25) S (inX3 _) hK hP (m_gI_s e3) rfl (by decide) (S.2.2.2.2 (.fieldLink RX3 74 "RuleHouse2Model" "rules" "I") (m_mem (by decide +kernel))) rfl dX3_isRule_6 ?_
    refine lv_icmp_ge (tgt := 16) S.1 S.2.1 dX3_isRule_9 (by decide) (fun c4 => ?_) (fun c4 => ?_)
    · replace h := m_t c4 h
      refine lv_iconst (v := 0) S.1 S.2.1 dX3_isRule_16 (by decide) ?_
      obtain ⟨h1, h2⟩ := m_fin h; subst h1; subst h2
      exact m_zret S hr hlk hK hP hS (by decide) (by decide +kernel) (by decide +kernel) dX3_isRule_17
    · replace h := m_f c4 h
      refine lv_iconst (v := 1) S.1 S.2.1 dX3_isRule_12 (by decide) ?_
      refine lv_goto (tgt := 17) S.1 S.2.1 dX3_isRule_13 (by decide) ?_
      obtain ⟨h1, h2⟩ := m_fin h; subst h1; subst h2
      exact m_zret S hr hlk hK hP hS (by decide) (by decide +kernel) (by decide +kernel) dX3_isRule_17

def f_X3_isTarget (t0 : Nat) (p1 : Int32) (s0 : MS) : Option (Int32 × MS) :=
  if p1 < 0 then
    some (0, s0)
  else
    (m_gI s0 3 t0 4).bind fun x2 =>
    if x2 ≤ p1 then
      some (0, s0)
    else
      some (1, s0)
set_option maxHeartbeats 4000000 in
set_option maxRecDepth 100000 in
theorem c_X3_isTarget (l : Launch) (D : va_G) (tc : Nat → ClassId) (b : Nat) (t0 : Nat) (p1 : Int32) (s0 st' : MS) (r : Int32) (h : f_X3_isTarget t0 p1 s0 = some (r, st')) : Met l yX3_isTarget wsX3_isTarget ({ frames := 0, cells := 0, slots := 0, locals := 0 }) (m_Pc D vwCl (m_tys tc) b s0 [.ref t0, .int p1]) (m_Q D vwCl (m_tys tc) b (some (.int r)) st') 0 0 (m_A b) := by
  unfold f_X3_isTarget at h
  refine m_met (cc := cX3_isTarget) (maxL := 2) (ret := (some .boolean)) (by decide) rfl (by first | exact Nat.le_of_ble_eq_true rfl | simp [lg_sl, m_rfc, m_catI, m_catL, m_catA]) ?_
  intro p e s m below meth c ls S hr hlk hnm hK hP hl hS
  replace hl : lv_has ls 2 [(0, .ref t0), (1, .int p1)] := by first | exact hl | simpa [lv_args, m_rfc, m_catI, m_catL, m_catA] using hl
  refine lv_iload_n S.1 S.2.1 dX3_isTarget_0 rfl (lv_at hl 1 rfl) ?_
  refine lv_if_lt (tgt := 16) S.1 S.2.1 dX3_isTarget_1 (by decide) (fun c1 => ?_) (fun c1 => ?_)
  · replace h := m_t c1 h
    refine lv_iconst (v := 0) S.1 S.2.1 dX3_isTarget_16 (by decide) ?_
    obtain ⟨h1, h2⟩ := m_fin h; subst h1; subst h2
    exact m_zret S hr hlk hK hP hS (by decide) (by decide +kernel) (by decide +kernel) dX3_isTarget_17
  · replace h := m_f c1 h
    refine lv_iload_n S.1 S.2.1 dX3_isTarget_4 rfl (lv_at hl 1 rfl) ?_
    refine lv_aload_n S.1 S.2.1 dX3_isTarget_5 rfl (lv_at hl 0 rfl) ?_
    obtain ⟨x2, e3, h⟩ := m_bs h
    refine m_get (ci := 3) (k := 4) (T := TX3) (N := 25) S (inX3 _) hK hP (m_gI_s e3) rfl (by decide) (S.2.2.2.2 (.fieldLink RX3 77 "RuleHouse2Model" "targets" "I") (m_mem (by decide +kernel))) rfl dX3_isTarget_6 ?_
    refine lv_icmp_ge (tgt := 16) S.1 S.2.1 dX3_isTarget_9 (by decide) (fun c4 => ?_) (fun c4 => ?_)
    · replace h := m_t c4 h
      refine lv_iconst (v := 0) S.1 S.2.1 dX3_isTarget_16 (by decide) ?_
      obtain ⟨h1, h2⟩ := m_fin h; subst h1; subst h2
      exact m_zret S hr hlk hK hP hS (by decide) (by decide +kernel) (by decide +kernel) dX3_isTarget_17
    · replace h := m_f c4 h
      refine lv_iconst (v := 1) S.1 S.2.1 dX3_isTarget_12 (by decide) ?_
      refine lv_goto (tgt := 17) S.1 S.2.1 dX3_isTarget_13 (by decide) ?_
      obtain ⟨h1, h2⟩ := m_fin h; subst h1; subst h2
      exact m_zret S hr hlk hK hP hS (by decide) (by decide +kernel) (by decide +kernel) dX3_isTarget_17

def f_X3_rule (t0 : Nat) (p1 : Int32) (p2 : Int32) (p3 : Int32) (s0 : MS) : Option (Int32 × MS) :=
  (m_p s0 3 t0 0 (.int 0)).bind fun s1 =>
  if p1 < 0 then
    some ((-2), s1)
  else
    if 3 < p1 then
      some ((-2), s1)
    else
      if p2 < 0 then
        some ((-2), s1)
      else
        if p2 ≤ 255 then
          (m_gI s1 3 t0 2).bind fun x7 =>
          if x7 = 16 then
            some ((-4), s1)
          else
            (m_gR s1 3 t0 7).bind fun r10 =>
            (m_gI s1 3 t0 2).bind fun x12 =>
            r10.bind fun a14 =>
            (m_ap s1 5 a14 x12 (.int p1)).bind fun s15 =>
            (m_gR s15 3 t0 8).bind fun r17 =>
            (m_gI s15 3 t0 2).bind fun x19 =>
            r17.bind fun a21 =>
            (m_ap s15 5 a21 x19 (.int p2)).bind fun s22 =>
            (m_gR s22 3 t0 10).bind fun r24 =>
            (m_gI s22 3 t0 2).bind fun x26 =>
            r24.bind fun a28 =>
            (m_z p3).bind fun z31 =>
            (m_ap s22 6 a28 x26 (.int p3)).bind fun s29 =>
            (m_gR s29 3 t0 9).bind fun r33 =>
            (m_gI s29 3 t0 2).bind fun x35 =>
            r33.bind fun a37 =>
            (m_ap s29 5 a37 x35 (.int (-1))).bind fun s38 =>
            (m_gI s38 3 t0 2).bind fun x40 =>
            (m_p s38 3 t0 2 (.int (x40 + 1))).bind fun s42 =>
            (m_gI s42 3 t0 2).bind fun x44 =>
            some (x44 - 1, s42)
        else
          some ((-2), s1)
set_option maxHeartbeats 4000000 in
set_option maxRecDepth 100000 in
theorem c_X3_rule (l : Launch) (D : va_G) (tc : Nat → ClassId) (b : Nat) (t0 : Nat) (p1 : Int32) (p2 : Int32) (p3 : Int32) (s0 st' : MS) (r : Int32) (h : f_X3_rule t0 p1 p2 p3 s0 = some (r, st')) : Met l yX3_rule wsX3_rule ({ frames := 0, cells := 0, slots := 0, locals := 0 }) (m_Pc D vwCl (m_tys tc) b s0 [.ref t0, .int p1, .int p2, .int p3]) (m_Q D vwCl (m_tys tc) b (some (.int r)) st') 0 0 (m_A b) := by
  unfold f_X3_rule at h
  refine m_met (cc := cX3_rule) (maxL := 4) (ret := (some .int)) (by decide) rfl (by first | exact Nat.le_of_ble_eq_true rfl | simp [lg_sl, m_rfc, m_catI, m_catL, m_catA]) ?_
  intro p e s m below meth c ls S hr hlk hnm hK hP hl hS
  replace hl : lv_has ls 4 [(0, .ref t0), (1, .int p1), (2, .int p2), (3, .int p3)] := by first | exact hl | simpa [lv_args, m_rfc, m_catI, m_catL, m_catA] using hl
  refine lv_aload_n S.1 S.2.1 dX3_rule_0 rfl (lv_at hl 0 rfl) ?_
  refine lv_iconst (v := 0) S.1 S.2.1 dX3_rule_1 (by decide) ?_
  obtain ⟨s1, e2, h⟩ := m_bs h
  refine m_put (ci := 3) (k := 0) (T := TX3) (N := 25) (v := .int 0) (ty := .int) S (inX3 _) tyX3 tX3 nX3 hK hP hS e2 rfl (by decide) (S.2.2.2.2 (.fieldLink RX3 71 "RuleHouse2Model" "code" "I") (m_mem (by decide +kernel))) rfl rfl (by decide +kernel) rfl rfl dX3_rule_2 (fun H locs hP hS => ?_)
  refine lv_iload_n S.1 S.2.1 dX3_rule_5 rfl (lv_at hl 1 rfl) ?_
  refine lv_if_lt (tgt := 25) S.1 S.2.1 dX3_rule_6 (by decide) (fun c3 => ?_) (fun c3 => ?_)
  · replace h := m_t c3 h
    refine lv_bipush (v := (-2)) S.1 S.2.1 dX3_rule_25 (by decide) ?_
    obtain ⟨h1, h2⟩ := m_fin h; subst h1; subst h2
    exact m_iret S hr hlk hK hP hS (by decide +kernel) (by decide +kernel) dX3_rule_27
  · replace h := m_f c3 h
    refine lv_iload_n S.1 S.2.1 dX3_rule_9 rfl (lv_at hl 1 rfl) ?_
    refine lv_iconst (v := 3) S.1 S.2.1 dX3_rule_10 (by decide) ?_
    refine lv_icmp_gt (tgt := 25) S.1 S.2.1 dX3_rule_11 (by decide) (fun c4 => ?_) (fun c4 => ?_)
    · replace h := m_t c4 h
      refine lv_bipush (v := (-2)) S.1 S.2.1 dX3_rule_25 (by decide) ?_
      obtain ⟨h1, h2⟩ := m_fin h; subst h1; subst h2
      exact m_iret S hr hlk hK hP hS (by decide +kernel) (by decide +kernel) dX3_rule_27
    · replace h := m_f c4 h
      refine lv_iload_n S.1 S.2.1 dX3_rule_14 rfl (lv_at hl 2 rfl) ?_
      refine lv_if_lt (tgt := 25) S.1 S.2.1 dX3_rule_15 (by decide) (fun c5 => ?_) (fun c5 => ?_)
      · replace h := m_t c5 h
        refine lv_bipush (v := (-2)) S.1 S.2.1 dX3_rule_25 (by decide) ?_
        obtain ⟨h1, h2⟩ := m_fin h; subst h1; subst h2
        exact m_iret S hr hlk hK hP hS (by decide +kernel) (by decide +kernel) dX3_rule_27
      · replace h := m_f c5 h
        refine lv_iload_n S.1 S.2.1 dX3_rule_18 rfl (lv_at hl 2 rfl) ?_
        refine lv_sipush (v := 255) S.1 S.2.1 dX3_rule_19 (by decide) ?_
        refine lv_icmp_le (tgt := 28) S.1 S.2.1 dX3_rule_22 (by decide) (fun c6 => ?_) (fun c6 => ?_)
        · replace h := m_t c6 h
          refine lv_aload_n S.1 S.2.1 dX3_rule_28 rfl (lv_at hl 0 rfl) ?_
          obtain ⟨x7, e8, h⟩ := m_bs h
          refine m_get (ci := 3) (k := 2) (T := TX3) (N := 25) S (inX3 _) hK hP (m_gI_s e8) rfl (by decide) (S.2.2.2.2 (.fieldLink RX3 74 "RuleHouse2Model" "rules" "I") (m_mem (by decide +kernel))) rfl dX3_rule_29 ?_
          refine lv_bipush (v := 16) S.1 S.2.1 dX3_rule_32 (by decide) ?_
          refine lv_icmp_ne (tgt := 40) S.1 S.2.1 dX3_rule_34 (by decide) (fun c9 => ?_) (fun c9 => ?_)
          · replace h := m_f c9 h
            refine lv_aload_n S.1 S.2.1 dX3_rule_40 rfl (lv_at hl 0 rfl) ?_
            obtain ⟨r10, e11, h⟩ := m_bs h
            refine m_get (ci := 3) (k := 7) (T := TX3) (N := 25) S (inX3 _) hK hP (m_gR_s e11) rfl (by decide) (S.2.2.2.2 (.fieldLink RX3 7 "RuleHouse2Model" "edition" "[I") (m_mem (by decide +kernel))) rfl dX3_rule_41 ?_
            refine lv_aload_n S.1 S.2.1 dX3_rule_44 rfl (lv_at hl 0 rfl) ?_
            obtain ⟨x12, e13, h⟩ := m_bs h
            refine m_get (ci := 3) (k := 2) (T := TX3) (N := 25) S (inX3 _) hK hP (m_gI_s e13) rfl (by decide) (S.2.2.2.2 (.fieldLink RX3 74 "RuleHouse2Model" "rules" "I") (m_mem (by decide +kernel))) rfl dX3_rule_45 ?_
            refine lv_iload_n S.1 S.2.1 dX3_rule_48 rfl (lv_at hl 1 rfl) ?_
            obtain ⟨a14, ea, g⟩ := m_bs h; clear h; subst ea; have h := g; clear g
            obtain ⟨s15, e16, h⟩ := m_bs h
            refine m_iast (t := 5) S hK hP hS e16 (by decide) rfl dX3_rule_49 (fun H locs hP hS => ?_)
            refine lv_aload_n S.1 S.2.1 dX3_rule_50 rfl (lv_at hl 0 rfl) ?_
            obtain ⟨r17, e18, h⟩ := m_bs h
            refine m_get (ci := 3) (k := 8) (T := TX3) (N := 25) S (inX3 _) hK hP (m_gR_s e18) rfl (by decide) (S.2.2.2.2 (.fieldLink RX3 13 "RuleHouse2Model" "does" "[I") (m_mem (by decide +kernel))) rfl dX3_rule_51 ?_
            refine lv_aload_n S.1 S.2.1 dX3_rule_54 rfl (lv_at hl 0 rfl) ?_
            obtain ⟨x19, e20, h⟩ := m_bs h
            refine m_get (ci := 3) (k := 2) (T := TX3) (N := 25) S (inX3 _) hK hP (m_gI_s e20) rfl (by decide) (S.2.2.2.2 (.fieldLink RX3 74 "RuleHouse2Model" "rules" "I") (m_mem (by decide +kernel))) rfl dX3_rule_55 ?_
            refine lv_iload_n S.1 S.2.1 dX3_rule_58 rfl (lv_at hl 2 rfl) ?_
            obtain ⟨a21, ea, g⟩ := m_bs h; clear h; subst ea; have h := g; clear g
            obtain ⟨s22, e23, h⟩ := m_bs h
            refine m_iast (t := 5) S hK hP hS e23 (by decide) rfl dX3_rule_59 (fun H locs hP hS => ?_)
            refine lv_aload_n S.1 S.2.1 dX3_rule_60 rfl (lv_at hl 0 rfl) ?_
            obtain ⟨r24, e25, h⟩ := m_bs h
            refine m_get (ci := 3) (k := 10) (T := TX3) (N := 25) S (inX3 _) hK hP (m_gR_s e25) rfl (by decide) (S.2.2.2.2 (.fieldLink RX3 19 "RuleHouse2Model" "fails" "[Z") (m_mem (by decide +kernel))) rfl dX3_rule_61 ?_
            refine lv_aload_n S.1 S.2.1 dX3_rule_64 rfl (lv_at hl 0 rfl) ?_
            obtain ⟨x26, e27, h⟩ := m_bs h
            refine m_get (ci := 3) (k := 2) (T := TX3) (N := 25) S (inX3 _) hK hP (m_gI_s e27) rfl (by decide) (S.2.2.2.2 (.fieldLink RX3 74 "RuleHouse2Model" "rules" "I") (m_mem (by decide +kernel))) rfl dX3_rule_65 ?_
            refine lv_iload_n S.1 S.2.1 dX3_rule_68 rfl (lv_at hl 3 rfl) ?_
            obtain ⟨a28, ea, g⟩ := m_bs h; clear h; subst ea; have h := g; clear g
            obtain ⟨z31, e32, h⟩ := m_bs h
            obtain ⟨hz, ne32⟩ := m_z_s e32; subst hz
            obtain ⟨s29, e30, h⟩ := m_bs h
            refine m_zast (t := 6) S hK hP hS e30 (by decide) rfl ne32.1 dX3_rule_69 (fun H locs hP hS => ?_)
            refine lv_aload_n S.1 S.2.1 dX3_rule_70 rfl (lv_at hl 0 rfl) ?_
            obtain ⟨r33, e34, h⟩ := m_bs h
            refine m_get (ci := 3) (k := 9) (T := TX3) (N := 25) S (inX3 _) hK hP (m_gR_s e34) rfl (by decide) (S.2.2.2.2 (.fieldLink RX3 16 "RuleHouse2Model" "made" "[I") (m_mem (by decide +kernel))) rfl dX3_rule_71 ?_
            refine lv_aload_n S.1 S.2.1 dX3_rule_74 rfl (lv_at hl 0 rfl) ?_
            obtain ⟨x35, e36, h⟩ := m_bs h
            refine m_get (ci := 3) (k := 2) (T := TX3) (N := 25) S (inX3 _) hK hP (m_gI_s e36) rfl (by decide) (S.2.2.2.2 (.fieldLink RX3 74 "RuleHouse2Model" "rules" "I") (m_mem (by decide +kernel))) rfl dX3_rule_75 ?_
            refine lv_iconst (v := (-1)) S.1 S.2.1 dX3_rule_78 (by decide) ?_
            obtain ⟨a37, ea, g⟩ := m_bs h; clear h; subst ea; have h := g; clear g
            obtain ⟨s38, e39, h⟩ := m_bs h
            refine m_iast (t := 5) S hK hP hS e39 (by decide) rfl dX3_rule_79 (fun H locs hP hS => ?_)
            refine lv_aload_n S.1 S.2.1 dX3_rule_80 rfl (lv_at hl 0 rfl) ?_
            refine lv_dup S.1 S.2.1 dX3_rule_81 rfl ?_
            obtain ⟨x40, e41, h⟩ := m_bs h
            refine m_get (ci := 3) (k := 2) (T := TX3) (N := 25) S (inX3 _) hK hP (m_gI_s e41) rfl (by decide) (S.2.2.2.2 (.fieldLink RX3 74 "RuleHouse2Model" "rules" "I") (m_mem (by decide +kernel))) rfl dX3_rule_82 ?_
            refine lv_iconst (v := 1) S.1 S.2.1 dX3_rule_85 (by decide) ?_
            refine lv_iadd S.1 S.2.1 dX3_rule_86 ?_
            obtain ⟨s42, e43, h⟩ := m_bs h
            refine m_put (ci := 3) (k := 2) (T := TX3) (N := 25) (v := .int (x40 + 1)) (ty := .int) S (inX3 _) tyX3 tX3 nX3 hK hP hS e43 rfl (by decide) (S.2.2.2.2 (.fieldLink RX3 74 "RuleHouse2Model" "rules" "I") (m_mem (by decide +kernel))) rfl rfl (by decide +kernel) rfl rfl dX3_rule_87 (fun H locs hP hS => ?_)
            refine lv_aload_n S.1 S.2.1 dX3_rule_90 rfl (lv_at hl 0 rfl) ?_
            obtain ⟨x44, e45, h⟩ := m_bs h
            refine m_get (ci := 3) (k := 2) (T := TX3) (N := 25) S (inX3 _) hK hP (m_gI_s e45) rfl (by decide) (S.2.2.2.2 (.fieldLink RX3 74 "RuleHouse2Model" "rules" "I") (m_mem (by decide +kernel))) rfl dX3_rule_91 ?_
            refine lv_iconst (v := 1) S.1 S.2.1 dX3_rule_94 (by decide) ?_
            refine lv_isub S.1 S.2.1 dX3_rule_95 ?_
            obtain ⟨h1, h2⟩ := m_fin h; subst h1; subst h2
            exact m_iret S hr hlk hK hP hS (by decide +kernel) (by decide +kernel) dX3_rule_96
          · replace h := m_t c9 h
            refine lv_bipush (v := (-4)) S.1 S.2.1 dX3_rule_37 (by decide) ?_
            obtain ⟨h1, h2⟩ := m_fin h; subst h1; subst h2
            exact m_iret S hr hlk hK hP hS (by decide +kernel) (by decide +kernel) dX3_rule_39
        · replace h := m_f c6 h
          refine lv_bipush (v := (-2)) S.1 S.2.1 dX3_rule_25 (by decide) ?_
          obtain ⟨h1, h2⟩ := m_fin h; subst h1; subst h2
          exact m_iret S hr hlk hK hP hS (by decide +kernel) (by decide +kernel) dX3_rule_27

def f_X3_firstOf_L2 : Nat → Int32 → Nat → Int32 → MS → Option (Int32 × MS)
  | 0, _, _, _, _ => none
  | f + 1, q2, q0, q1, s0 =>
    (m_gR s0 3 q0 7).bind fun r1 =>
    r1.bind fun a3 =>
    (m_aI s0 5 a3 q2).bind fun x4 =>
    (m_gR s0 3 q0 7).bind fun r6 =>
    r6.bind fun a8 =>
    (m_aI s0 5 a8 q1).bind fun x9 =>
    if x4 = x9 then
      (m_gR s0 3 q0 8).bind fun r12 =>
      r12.bind fun a14 =>
      (m_aI s0 5 a14 q2).bind fun x15 =>
      (m_gR s0 3 q0 8).bind fun r17 =>
      r17.bind fun a19 =>
      (m_aI s0 5 a19 q1).bind fun x20 =>
      if x15 = x20 then
        some (q2, s0)
      else
        f_X3_firstOf_L2 f (q2 + 1) q0 q1 s0
    else
      f_X3_firstOf_L2 f (q2 + 1) q0 q1 s0
def f_X3_firstOf (t0 : Nat) (p1 : Int32) (s0 : MS) : Option (Int32 × MS) :=
  f_X3_firstOf_L2 64 0 t0 p1 s0
set_option maxHeartbeats 4000000 in
set_option maxRecDepth 100000 in
theorem w_X3_firstOf_L2 {p : Program} {l : Launch} {e : Env} {s : State} {m : MethodId} {args : Array Value} {below : List Frame} {meth : Method} {c : Code} (D : va_G) (tc : Nat → ClassId) (b : Nat) (S : CallFix p m c cX3_firstOf 3 s args wsX3_firstOf RX3) (hr : meth.sig.returnType = (some .int)) (hlk : meth.locks = false) (hK : va_K D vwCl (m_tys tc) s) :
    ∀ (f : Nat) (q2 : Int32) (q0 : Nat) (q1 : Int32) (s0 st' : MS) (r : Int32) (h : f_X3_firstOf_L2 f q2 q0 q1 s0 = some (r, st')) (H : Heap) (locs : List Loc) (ls : Array Slot) (hP : mw D vwCl (m_tys tc) b s0 H) (hS : va_S (m_A b) s.heap H locs) (hl : lv_has ls 3 [(2, .int q2), (0, .ref q0), (1, .int q1)]), W p l e { frames := 0, cells := 0, slots := 0, locals := 0 } s m args below meth c H locs 0 0 (MQ below (m_Q D vwCl (m_tys tc) b (some (.int r)) st') args s 0 0 (m_A b)) (F0 m 2 ls []) := by
  intro f
  induction f with
  | zero =>
    intro q2 q0 q1 s0 st' r h
    cases h
  | succ f ih =>
    intro q2 q0 q1 s0 st' r h H locs ls hP hS hl
    rw [f_X3_firstOf_L2] at h
    refine lv_aload_n S.1 S.2.1 dX3_firstOf_2 rfl (lv_at hl 1 rfl) ?_
    obtain ⟨r1, e2, h⟩ := m_bs h
    refine m_get (ci := 3) (k := 7) (T := TX3) (N := 25) S (inX3 _) hK hP (m_gR_s e2) rfl (by decide) (S.2.2.2.2 (.fieldLink RX3 7 "RuleHouse2Model" "edition" "[I") (m_mem (by decide +kernel))) rfl dX3_firstOf_3 ?_
    refine lv_iload_n S.1 S.2.1 dX3_firstOf_6 rfl (lv_at hl 0 rfl) ?_
    obtain ⟨a3, ea, g⟩ := m_bs h; clear h; subst ea; have h := g; clear g
    obtain ⟨x4, e5, h⟩ := m_bs h
    refine m_iald (t := 5) S hK hP (m_aI_s e5) rfl dX3_firstOf_7 ?_
    refine lv_aload_n S.1 S.2.1 dX3_firstOf_8 rfl (lv_at hl 1 rfl) ?_
    obtain ⟨r6, e7, h⟩ := m_bs h
    refine m_get (ci := 3) (k := 7) (T := TX3) (N := 25) S (inX3 _) hK hP (m_gR_s e7) rfl (by decide) (S.2.2.2.2 (.fieldLink RX3 7 "RuleHouse2Model" "edition" "[I") (m_mem (by decide +kernel))) rfl dX3_firstOf_9 ?_
    refine lv_iload_n S.1 S.2.1 dX3_firstOf_12 rfl (lv_at hl 2 rfl) ?_
    obtain ⟨a8, ea, g⟩ := m_bs h; clear h; subst ea; have h := g; clear g
    obtain ⟨x9, e10, h⟩ := m_bs h
    refine m_iald (t := 5) S hK hP (m_aI_s e10) rfl dX3_firstOf_13 ?_
    refine lv_icmp_ne (tgt := 32) S.1 S.2.1 dX3_firstOf_14 (by decide) (fun c11 => ?_) (fun c11 => ?_)
    · replace h := m_f c11 h
      refine lv_iinc (v := q2 + 1) (lv' := [(2, .int (q2 + 1)), (0, .ref q0), (1, .int q1)]) S.1 S.2.1 dX3_firstOf_32 hl (k := 0) rfl rfl (by decide) (by first | rfl | simp [m_rfc, m_catI, m_catL, m_catA]) (fun ls hl => ?_)
      refine lv_goto (tgt := 2) S.1 S.2.1 dX3_firstOf_35 (by decide) ?_
      exact ih (q2 + 1) q0 q1 _ _ _ h _ _ _ hP hS (lv_sub hl [0, 1, 2] rfl)
    · replace h := m_t c11 h
      refine lv_aload_n S.1 S.2.1 dX3_firstOf_17 rfl (lv_at hl 1 rfl) ?_
      obtain ⟨r12, e13, h⟩ := m_bs h
      refine m_get (ci := 3) (k := 8) (T := TX3) (N := 25) S (inX3 _) hK hP (m_gR_s e13) rfl (by decide) (S.2.2.2.2 (.fieldLink RX3 13 "RuleHouse2Model" "does" "[I") (m_mem (by decide +kernel))) rfl dX3_firstOf_18 ?_
      refine lv_iload_n S.1 S.2.1 dX3_firstOf_21 rfl (lv_at hl 0 rfl) ?_
      obtain ⟨a14, ea, g⟩ := m_bs h; clear h; subst ea; have h := g; clear g
      obtain ⟨x15, e16, h⟩ := m_bs h
      refine m_iald (t := 5) S hK hP (m_aI_s e16) rfl dX3_firstOf_22 ?_
      refine lv_aload_n S.1 S.2.1 dX3_firstOf_23 rfl (lv_at hl 1 rfl) ?_
      obtain ⟨r17, e18, h⟩ := m_bs h
      refine m_get (ci := 3) (k := 8) (T := TX3) (N := 25) S (inX3 _) hK hP (m_gR_s e18) rfl (by decide) (S.2.2.2.2 (.fieldLink RX3 13 "RuleHouse2Model" "does" "[I") (m_mem (by decide +kernel))) rfl dX3_firstOf_24 ?_
      refine lv_iload_n S.1 S.2.1 dX3_firstOf_27 rfl (lv_at hl 2 rfl) ?_
      obtain ⟨a19, ea, g⟩ := m_bs h; clear h; subst ea; have h := g; clear g
      obtain ⟨x20, e21, h⟩ := m_bs h
      refine m_iald (t := 5) S hK hP (m_aI_s e21) rfl dX3_firstOf_28 ?_
      refine lv_icmp_eq (tgt := 38) S.1 S.2.1 dX3_firstOf_29 (by decide) (fun c22 => ?_) (fun c22 => ?_)
      · replace h := m_t c22 h
        refine lv_iload_n S.1 S.2.1 dX3_firstOf_38 rfl (lv_at hl 0 rfl) ?_
        obtain ⟨h1, h2⟩ := m_fin h; subst h1; subst h2
        exact m_iret S hr hlk hK hP hS (by decide +kernel) (by decide +kernel) dX3_firstOf_39
      · replace h := m_f c22 h
        refine lv_iinc (v := q2 + 1) (lv' := [(2, .int (q2 + 1)), (0, .ref q0), (1, .int q1)]) S.1 S.2.1 dX3_firstOf_32 hl (k := 0) rfl rfl (by decide) (by first | rfl | simp [m_rfc, m_catI, m_catL, m_catA]) (fun ls hl => ?_)
        refine lv_goto (tgt := 2) S.1 S.2.1 dX3_firstOf_35 (by decide) ?_
        exact ih (q2 + 1) q0 q1 _ _ _ h _ _ _ hP hS (lv_sub hl [0, 1, 2] rfl)
set_option maxHeartbeats 4000000 in
set_option maxRecDepth 100000 in
theorem c_X3_firstOf (l : Launch) (D : va_G) (tc : Nat → ClassId) (b : Nat) (t0 : Nat) (p1 : Int32) (s0 st' : MS) (r : Int32) (h : f_X3_firstOf t0 p1 s0 = some (r, st')) : Met l yX3_firstOf wsX3_firstOf ({ frames := 0, cells := 0, slots := 0, locals := 0 }) (m_Pc D vwCl (m_tys tc) b s0 [.ref t0, .int p1]) (m_Q D vwCl (m_tys tc) b (some (.int r)) st') 0 0 (m_A b) := by
  unfold f_X3_firstOf at h
  refine m_met (cc := cX3_firstOf) (maxL := 3) (ret := (some .int)) (by decide) rfl (by first | exact Nat.le_of_ble_eq_true rfl | simp [lg_sl, m_rfc, m_catI, m_catL, m_catA]) ?_
  intro p e s m below meth c ls S hr hlk hnm hK hP hl hS
  replace hl : lv_has ls 3 [(0, .ref t0), (1, .int p1)] := by first | exact hl | simpa [lv_args, m_rfc, m_catI, m_catL, m_catA] using hl
  refine lv_iconst (v := 0) S.1 S.2.1 dX3_firstOf_0 (by decide) ?_
  refine lv_istore_n (i := 2) (lv' := [(2, .int 0), (0, .ref t0), (1, .int p1)]) S.1 S.2.1 dX3_firstOf_1 rfl hl (by decide) (by first | rfl | simp [m_rfc, m_catI, m_catL, m_catA]) (fun ls hl => ?_)
  exact w_X3_firstOf_L2 D tc b S hr hlk hK 64 0 t0 p1 _ _ _ h _ _ _ hP hS (lv_sub hl [0, 1, 2] rfl)

def f_X3_classOf (t0 : Nat) (p1 : Int32) (s0 : MS) : Option (Int32 × MS) :=
  (m_is s0 3 t0).bind fun _ =>
  m_b (f_X3_firstOf t0 p1 s0) fun x1 s2 =>
  (m_gR s2 3 t0 10).bind fun r5 =>
  r5.bind fun a7 =>
  (m_aI s2 6 a7 x1).bind fun x8 =>
  if x8 = 0 then
    (m_gR s2 3 t0 9).bind fun r11 =>
    r11.bind fun a13 =>
    (m_aI s2 5 a13 x1).bind fun x14 =>
    if x14 = (-1) then
      (m_gR s2 3 t0 9).bind fun r22 =>
      (m_gI s2 3 t0 3).bind fun x24 =>
      r22.bind fun a26 =>
      (m_ap s2 5 a26 x1 (.int x24)).bind fun s27 =>
      (m_gR s27 3 t0 11).bind fun r29 =>
      (m_gI s27 3 t0 3).bind fun x31 =>
      r29.bind fun a33 =>
      (m_ap s27 7 a33 x31 (.long 0)).bind fun s34 =>
      (m_gI s34 3 t0 3).bind fun x36 =>
      (m_p s34 3 t0 3 (.int (x36 + 1))).bind fun s38 =>
      (m_gR s38 3 t0 9).bind fun r40 =>
      r40.bind fun a42 =>
      (m_aI s38 5 a42 x1).bind fun x43 =>
      some (x43, s38)
    else
      (m_gR s2 3 t0 9).bind fun r17 =>
      r17.bind fun a19 =>
      (m_aI s2 5 a19 x1).bind fun x20 =>
      some (x20, s2)
  else
    some ((-1), s2)
set_option maxHeartbeats 4000000 in
set_option maxRecDepth 100000 in
theorem c_X3_classOf (l : Launch) (D : va_G) (tc : Nat → ClassId) (b : Nat) (t0 : Nat) (p1 : Int32) (s0 st' : MS) (r : Int32) (h : f_X3_classOf t0 p1 s0 = some (r, st')) : Met l yX3_classOf wsX3_classOf ({ frames := 1, cells := 0, slots := 0, locals := 22 }) (m_Pc D vwCl (m_tys tc) b s0 [.ref t0, .int p1]) (m_Q D vwCl (m_tys tc) b (some (.int r)) st') 0 0 (m_A b) := by
  unfold f_X3_classOf at h
  refine m_met (cc := cX3_classOf) (maxL := 3) (ret := (some .int)) (by decide) rfl (by first | exact Nat.le_of_ble_eq_true rfl | simp [lg_sl, m_rfc, m_catI, m_catL, m_catA]) ?_
  intro p e s m below meth c ls S hr hlk hnm hK hP hl hS
  replace hl : lv_has ls 3 [(0, .ref t0), (1, .int p1)] := by first | exact hl | simpa [lv_args, m_rfc, m_catI, m_catL, m_catA] using hl
  refine lv_aload_n S.1 S.2.1 dX3_classOf_0 rfl (lv_at hl 0 rfl) ?_
  refine lv_iload_n S.1 S.2.1 dX3_classOf_1 rfl (lv_at hl 1 rfl) ?_
  obtain ⟨_, k4, h⟩ := m_bs h
  obtain ⟨x1, s2, e3, h⟩ := m_b_s h
  refine m_calli (va_runV (As := [.int p1]) (rest := []) S (c_X3_firstOf l D tc b t0 p1 _ _ _ e3) (cwV 1 S.2.2.2.2 (m_wV kX3_firstOf (by decide +kernel)) rfl rfl rfl (by decide +kernel) ⟨by decide +kernel, by decide +kernel⟩) (m_preV hK hP (m_is_s k4) rfl) rfl rfl hl.1 rfl (lv_room (by first | decide | simp [m_rfc, m_catI, m_catL, m_catA])) dX3_classOf_2 ⟨by decide +kernel, by decide +kernel⟩) hS (fun H locs hP hS => ?_)
  refine lv_istore_n (i := 2) (lv' := [(2, .int x1), (0, .ref t0), (1, .int p1)]) S.1 S.2.1 dX3_classOf_5 rfl hl (by decide) (by first | rfl | simp [m_rfc, m_catI, m_catL, m_catA]) (fun ls hl => ?_)
  refine lv_aload_n S.1 S.2.1 dX3_classOf_6 rfl (lv_at hl 1 rfl) ?_
  obtain ⟨r5, e6, h⟩ := m_bs h
  refine m_get (ci := 3) (k := 10) (T := TX3) (N := 25) S (inX3 _) hK hP (m_gR_s e6) rfl (by decide) (S.2.2.2.2 (.fieldLink RX3 19 "RuleHouse2Model" "fails" "[Z") (m_mem (by decide +kernel))) rfl dX3_classOf_7 ?_
  refine lv_iload_n S.1 S.2.1 dX3_classOf_10 rfl (lv_at hl 0 rfl) ?_
  obtain ⟨a7, ea, g⟩ := m_bs h; clear h; subst ea; have h := g; clear g
  obtain ⟨x8, e9, h⟩ := m_bs h
  refine m_zald (t := 6) S hK hP (m_aI_s e9) rfl dX3_classOf_11 ?_
  refine lv_if_eq (tgt := 17) S.1 S.2.1 dX3_classOf_12 (by decide) (fun c10 => ?_) (fun c10 => ?_)
  · replace h := m_t c10 h
    refine lv_aload_n S.1 S.2.1 dX3_classOf_17 rfl (lv_at hl 1 rfl) ?_
    obtain ⟨r11, e12, h⟩ := m_bs h
    refine m_get (ci := 3) (k := 9) (T := TX3) (N := 25) S (inX3 _) hK hP (m_gR_s e12) rfl (by decide) (S.2.2.2.2 (.fieldLink RX3 16 "RuleHouse2Model" "made" "[I") (m_mem (by decide +kernel))) rfl dX3_classOf_18 ?_
    refine lv_iload_n S.1 S.2.1 dX3_classOf_21 rfl (lv_at hl 0 rfl) ?_
    obtain ⟨a13, ea, g⟩ := m_bs h; clear h; subst ea; have h := g; clear g
    obtain ⟨x14, e15, h⟩ := m_bs h
    refine m_iald (t := 5) S hK hP (m_aI_s e15) rfl dX3_classOf_22 ?_
    refine lv_iconst (v := (-1)) S.1 S.2.1 dX3_classOf_23 (by decide) ?_
    refine lv_icmp_ne (tgt := 57) S.1 S.2.1 dX3_classOf_24 (by decide) (fun c16 => ?_) (fun c16 => ?_)
    · replace h := m_f c16 h
      refine lv_aload_n S.1 S.2.1 dX3_classOf_57 rfl (lv_at hl 1 rfl) ?_
      obtain ⟨r17, e18, h⟩ := m_bs h
      refine m_get (ci := 3) (k := 9) (T := TX3) (N := 25) S (inX3 _) hK hP (m_gR_s e18) rfl (by decide) (S.2.2.2.2 (.fieldLink RX3 16 "RuleHouse2Model" "made" "[I") (m_mem (by decide +kernel))) rfl dX3_classOf_58 ?_
      refine lv_iload_n S.1 S.2.1 dX3_classOf_61 rfl (lv_at hl 0 rfl) ?_
      obtain ⟨a19, ea, g⟩ := m_bs h; clear h; subst ea; have h := g; clear g
      obtain ⟨x20, e21, h⟩ := m_bs h
      refine m_iald (t := 5) S hK hP (m_aI_s e21) rfl dX3_classOf_62 ?_
      obtain ⟨h1, h2⟩ := m_fin h; subst h1; subst h2
      exact m_iret S hr hlk hK hP hS (by decide +kernel) (by decide +kernel) dX3_classOf_63
    · replace h := m_t c16 h
      refine lv_aload_n S.1 S.2.1 dX3_classOf_27 rfl (lv_at hl 1 rfl) ?_
      obtain ⟨r22, e23, h⟩ := m_bs h
      refine m_get (ci := 3) (k := 9) (T := TX3) (N := 25) S (inX3 _) hK hP (m_gR_s e23) rfl (by decide) (S.2.2.2.2 (.fieldLink RX3 16 "RuleHouse2Model" "made" "[I") (m_mem (by decide +kernel))) rfl dX3_classOf_28 ?_
      refine lv_iload_n S.1 S.2.1 dX3_classOf_31 rfl (lv_at hl 0 rfl) ?_
      refine lv_aload_n S.1 S.2.1 dX3_classOf_32 rfl (lv_at hl 1 rfl) ?_
      obtain ⟨x24, e25, h⟩ := m_bs h
      refine m_get (ci := 3) (k := 3) (T := TX3) (N := 25) S (inX3 _) hK hP (m_gI_s e25) rfl (by decide) (S.2.2.2.2 (.fieldLink RX3 84 "RuleHouse2Model" "classes" "I") (m_mem (by decide +kernel))) rfl dX3_classOf_33 ?_
      obtain ⟨a26, ea, g⟩ := m_bs h; clear h; subst ea; have h := g; clear g
      obtain ⟨s27, e28, h⟩ := m_bs h
      refine m_iast (t := 5) S hK hP hS e28 (by decide) rfl dX3_classOf_36 (fun H locs hP hS => ?_)
      refine lv_aload_n S.1 S.2.1 dX3_classOf_37 rfl (lv_at hl 1 rfl) ?_
      obtain ⟨r29, e30, h⟩ := m_bs h
      refine m_get (ci := 3) (k := 11) (T := TX3) (N := 25) S (inX3 _) hK hP (m_gR_s e30) rfl (by decide) (S.2.2.2.2 (.fieldLink RX3 23 "RuleHouse2Model" "cell" "[J") (m_mem (by decide +kernel))) rfl dX3_classOf_38 ?_
      refine lv_aload_n S.1 S.2.1 dX3_classOf_41 rfl (lv_at hl 1 rfl) ?_
      obtain ⟨x31, e32, h⟩ := m_bs h
      refine m_get (ci := 3) (k := 3) (T := TX3) (N := 25) S (inX3 _) hK hP (m_gI_s e32) rfl (by decide) (S.2.2.2.2 (.fieldLink RX3 84 "RuleHouse2Model" "classes" "I") (m_mem (by decide +kernel))) rfl dX3_classOf_42 ?_
      refine lv_lconst (v := 0) S.1 S.2.1 dX3_classOf_45 (by decide) ?_
      obtain ⟨a33, ea, g⟩ := m_bs h; clear h; subst ea; have h := g; clear g
      obtain ⟨s34, e35, h⟩ := m_bs h
      refine m_last (t := 7) S hK hP hS e35 (by decide) rfl dX3_classOf_46 (fun H locs hP hS => ?_)
      refine lv_aload_n S.1 S.2.1 dX3_classOf_47 rfl (lv_at hl 1 rfl) ?_
      refine lv_dup S.1 S.2.1 dX3_classOf_48 rfl ?_
      obtain ⟨x36, e37, h⟩ := m_bs h
      refine m_get (ci := 3) (k := 3) (T := TX3) (N := 25) S (inX3 _) hK hP (m_gI_s e37) rfl (by decide) (S.2.2.2.2 (.fieldLink RX3 84 "RuleHouse2Model" "classes" "I") (m_mem (by decide +kernel))) rfl dX3_classOf_49 ?_
      refine lv_iconst (v := 1) S.1 S.2.1 dX3_classOf_52 (by decide) ?_
      refine lv_iadd S.1 S.2.1 dX3_classOf_53 ?_
      obtain ⟨s38, e39, h⟩ := m_bs h
      refine m_put (ci := 3) (k := 3) (T := TX3) (N := 25) (v := .int (x36 + 1)) (ty := .int) S (inX3 _) tyX3 tX3 nX3 hK hP hS e39 rfl (by decide) (S.2.2.2.2 (.fieldLink RX3 84 "RuleHouse2Model" "classes" "I") (m_mem (by decide +kernel))) rfl rfl (by decide +kernel) rfl rfl dX3_classOf_54 (fun H locs hP hS => ?_)
      refine lv_aload_n S.1 S.2.1 dX3_classOf_57 rfl (lv_at hl 1 rfl) ?_
      obtain ⟨r40, e41, h⟩ := m_bs h
      refine m_get (ci := 3) (k := 9) (T := TX3) (N := 25) S (inX3 _) hK hP (m_gR_s e41) rfl (by decide) (S.2.2.2.2 (.fieldLink RX3 16 "RuleHouse2Model" "made" "[I") (m_mem (by decide +kernel))) rfl dX3_classOf_58 ?_
      refine lv_iload_n S.1 S.2.1 dX3_classOf_61 rfl (lv_at hl 0 rfl) ?_
      obtain ⟨a42, ea, g⟩ := m_bs h; clear h; subst ea; have h := g; clear g
      obtain ⟨x43, e44, h⟩ := m_bs h
      refine m_iald (t := 5) S hK hP (m_aI_s e44) rfl dX3_classOf_62 ?_
      obtain ⟨h1, h2⟩ := m_fin h; subst h1; subst h2
      exact m_iret S hr hlk hK hP hS (by decide +kernel) (by decide +kernel) dX3_classOf_63
  · replace h := m_f c10 h
    refine lv_iconst (v := (-1)) S.1 S.2.1 dX3_classOf_15 (by decide) ?_
    obtain ⟨h1, h2⟩ := m_fin h; subst h1; subst h2
    exact m_iret S hr hlk hK hP hS (by decide +kernel) (by decide +kernel) dX3_classOf_16

def f_X3_make (t0 : Nat) (p1 : Int32) (s0 : MS) : Option (Int32 × MS) :=
  (m_p s0 3 t0 0 (.int 0)).bind fun s1 =>
  (m_is s1 3 t0).bind fun _ =>
  m_b (f_X3_isRule t0 p1 s1) fun x3 s4 =>
  if x3 = 0 then
    some ((-1), s4)
  else
    (m_is s4 3 t0).bind fun _ =>
    m_b (f_X3_classOf t0 p1 s4) fun x8 s9 =>
    some (x8, s9)
set_option maxHeartbeats 4000000 in
set_option maxRecDepth 100000 in
theorem c_X3_make (l : Launch) (D : va_G) (tc : Nat → ClassId) (b : Nat) (t0 : Nat) (p1 : Int32) (s0 st' : MS) (r : Int32) (h : f_X3_make t0 p1 s0 = some (r, st')) : Met l yX3_make wsX3_make ({ frames := 2, cells := 0, slots := 0, locals := 44 }) (m_Pc D vwCl (m_tys tc) b s0 [.ref t0, .int p1]) (m_Q D vwCl (m_tys tc) b (some (.int r)) st') 0 0 (m_A b) := by
  unfold f_X3_make at h
  refine m_met (cc := cX3_make) (maxL := 2) (ret := (some .int)) (by decide) rfl (by first | exact Nat.le_of_ble_eq_true rfl | simp [lg_sl, m_rfc, m_catI, m_catL, m_catA]) ?_
  intro p e s m below meth c ls S hr hlk hnm hK hP hl hS
  replace hl : lv_has ls 2 [(0, .ref t0), (1, .int p1)] := by first | exact hl | simpa [lv_args, m_rfc, m_catI, m_catL, m_catA] using hl
  refine lv_aload_n S.1 S.2.1 dX3_make_0 rfl (lv_at hl 0 rfl) ?_
  refine lv_iconst (v := 0) S.1 S.2.1 dX3_make_1 (by decide) ?_
  obtain ⟨s1, e2, h⟩ := m_bs h
  refine m_put (ci := 3) (k := 0) (T := TX3) (N := 25) (v := .int 0) (ty := .int) S (inX3 _) tyX3 tX3 nX3 hK hP hS e2 rfl (by decide) (S.2.2.2.2 (.fieldLink RX3 71 "RuleHouse2Model" "code" "I") (m_mem (by decide +kernel))) rfl rfl (by decide +kernel) rfl rfl dX3_make_2 (fun H locs hP hS => ?_)
  refine lv_aload_n S.1 S.2.1 dX3_make_5 rfl (lv_at hl 0 rfl) ?_
  refine lv_iload_n S.1 S.2.1 dX3_make_6 rfl (lv_at hl 1 rfl) ?_
  obtain ⟨_, k6, h⟩ := m_bs h
  obtain ⟨x3, s4, e5, h⟩ := m_b_s h
  refine m_calli (va_runV (As := [.int p1]) (rest := []) S (c_X3_isRule l D tc b t0 p1 _ _ _ e5) (cwV 1 S.2.2.2.2 (m_wV kX3_isRule (by decide +kernel)) rfl rfl rfl (by decide +kernel) ⟨by decide +kernel, by decide +kernel⟩) (m_preV hK hP (m_is_s k6) rfl) rfl rfl hl.1 rfl (lv_room (by first | decide | simp [m_rfc, m_catI, m_catL, m_catA])) dX3_make_7 ⟨by decide +kernel, by decide +kernel⟩) hS (fun H locs hP hS => ?_)
  refine lv_if_eq (tgt := 21) S.1 S.2.1 dX3_make_10 (by decide) (fun c7 => ?_) (fun c7 => ?_)
  · replace h := m_t c7 h
    refine lv_iconst (v := (-1)) S.1 S.2.1 dX3_make_21 (by decide) ?_
    obtain ⟨h1, h2⟩ := m_fin h; subst h1; subst h2
    exact m_iret S hr hlk hK hP hS (by decide +kernel) (by decide +kernel) dX3_make_22
  · replace h := m_f c7 h
    refine lv_aload_n S.1 S.2.1 dX3_make_13 rfl (lv_at hl 0 rfl) ?_
    refine lv_iload_n S.1 S.2.1 dX3_make_14 rfl (lv_at hl 1 rfl) ?_
    obtain ⟨_, k11, h⟩ := m_bs h
    obtain ⟨x8, s9, e10, h⟩ := m_b_s h
    refine m_calli (va_runV (As := [.int p1]) (rest := []) S (c_X3_classOf l D tc b t0 p1 _ _ _ e10) (cwV 1 S.2.2.2.2 (m_wV kX3_classOf (by decide +kernel)) rfl rfl rfl (by decide +kernel) ⟨by decide +kernel, by decide +kernel⟩) (m_preV hK hP (m_is_s k11) rfl) rfl rfl hl.1 rfl (lv_room (by first | decide | simp [m_rfc, m_catI, m_catL, m_catA])) dX3_make_15 ⟨by decide +kernel, by decide +kernel⟩) hS (fun H locs hP hS => ?_)
    refine lv_goto (tgt := 22) S.1 S.2.1 dX3_make_18 (by decide) ?_
    obtain ⟨h1, h2⟩ := m_fin h; subst h1; subst h2
    exact m_iret S hr hlk hK hP hS (by decide +kernel) (by decide +kernel) dX3_make_22

def f_X3_cell (t0 : Nat) (p1 : Int32) (s0 : MS) : Option (Int64 × MS) :=
  (m_p s0 3 t0 0 (.int 0)).bind fun s1 =>
  (m_is s1 3 t0).bind fun _ =>
  m_b (f_X3_isRule t0 p1 s1) fun x3 s4 =>
  if x3 = 0 then
    if ((-1) : Int32) = (-1) then
      some ((-1), s4)
    else
      (m_gR s4 3 t0 11).bind fun r9 =>
      r9.bind fun a11 =>
      (m_aL s4 7 a11 (-1)).bind fun l12 =>
      some (l12, s4)
  else
    (m_gR s4 3 t0 9).bind fun r14 =>
    (m_is s4 3 t0).bind fun _ =>
    m_b (f_X3_firstOf t0 p1 s4) fun x16 s17 =>
    r14.bind fun a20 =>
    (m_aI s17 5 a20 x16).bind fun x21 =>
    if x21 = (-1) then
      some ((-1), s17)
    else
      (m_gR s17 3 t0 11).bind fun r24 =>
      r24.bind fun a26 =>
      (m_aL s17 7 a26 x21).bind fun l27 =>
      some (l27, s17)
set_option maxHeartbeats 4000000 in
set_option maxRecDepth 100000 in
theorem c_X3_cell (l : Launch) (D : va_G) (tc : Nat → ClassId) (b : Nat) (t0 : Nat) (p1 : Int32) (s0 st' : MS) (r : Int64) (h : f_X3_cell t0 p1 s0 = some (r, st')) : Met l yX3_cell wsX3_cell ({ frames := 1, cells := 0, slots := 0, locals := 22 }) (m_Pc D vwCl (m_tys tc) b s0 [.ref t0, .int p1]) (m_Q D vwCl (m_tys tc) b (some (.long r)) st') 0 0 (m_A b) := by
  unfold f_X3_cell at h
  refine m_met (cc := cX3_cell) (maxL := 3) (ret := (some .long)) (by decide) rfl (by first | exact Nat.le_of_ble_eq_true rfl | simp [lg_sl, m_rfc, m_catI, m_catL, m_catA]) ?_
  intro p e s m below meth c ls S hr hlk hnm hK hP hl hS
  replace hl : lv_has ls 3 [(0, .ref t0), (1, .int p1)] := by first | exact hl | simpa [lv_args, m_rfc, m_catI, m_catL, m_catA] using hl
  refine lv_aload_n S.1 S.2.1 dX3_cell_0 rfl (lv_at hl 0 rfl) ?_
  refine lv_iconst (v := 0) S.1 S.2.1 dX3_cell_1 (by decide) ?_
  obtain ⟨s1, e2, h⟩ := m_bs h
  refine m_put (ci := 3) (k := 0) (T := TX3) (N := 25) (v := .int 0) (ty := .int) S (inX3 _) tyX3 tX3 nX3 hK hP hS e2 rfl (by decide) (S.2.2.2.2 (.fieldLink RX3 71 "RuleHouse2Model" "code" "I") (m_mem (by decide +kernel))) rfl rfl (by decide +kernel) rfl rfl dX3_cell_2 (fun H locs hP hS => ?_)
  refine lv_aload_n S.1 S.2.1 dX3_cell_5 rfl (lv_at hl 0 rfl) ?_
  refine lv_iload_n S.1 S.2.1 dX3_cell_6 rfl (lv_at hl 1 rfl) ?_
  obtain ⟨_, k6, h⟩ := m_bs h
  obtain ⟨x3, s4, e5, h⟩ := m_b_s h
  refine m_calli (va_runV (As := [.int p1]) (rest := []) S (c_X3_isRule l D tc b t0 p1 _ _ _ e5) (cwV 1 S.2.2.2.2 (m_wV kX3_isRule (by decide +kernel)) rfl rfl rfl (by decide +kernel) ⟨by decide +kernel, by decide +kernel⟩) (m_preV hK hP (m_is_s k6) rfl) rfl rfl hl.1 rfl (lv_room (by first | decide | simp [m_rfc, m_catI, m_catL, m_catA])) dX3_cell_7 ⟨by decide +kernel, by decide +kernel⟩) hS (fun H locs hP hS => ?_)
  refine lv_if_eq (tgt := 26) S.1 S.2.1 dX3_cell_10 (by decide) (fun c7 => ?_) (fun c7 => ?_)
  · replace h := m_t c7 h
    refine lv_iconst (v := (-1)) S.1 S.2.1 dX3_cell_26 (by decide) ?_
    refine lv_istore_n (i := 2) (lv' := [(2, .int (-1)), (0, .ref t0), (1, .int p1)]) S.1 S.2.1 dX3_cell_27 rfl hl (by decide) (by first | rfl | simp [m_rfc, m_catI, m_catL, m_catA]) (fun ls hl => ?_)
    refine lv_iload_n S.1 S.2.1 dX3_cell_28 rfl (lv_at hl 0 rfl) ?_
    refine lv_iconst (v := (-1)) S.1 S.2.1 dX3_cell_29 (by decide) ?_
    refine lv_icmp_ne (tgt := 39) S.1 S.2.1 dX3_cell_30 (by decide) (fun c8 => ?_) (fun c8 => ?_)
    · replace h := m_f c8 h
      refine lv_aload_n S.1 S.2.1 dX3_cell_39 rfl (lv_at hl 1 rfl) ?_
      obtain ⟨r9, e10, h⟩ := m_bs h
      refine m_get (ci := 3) (k := 11) (T := TX3) (N := 25) S (inX3 _) hK hP (m_gR_s e10) rfl (by decide) (S.2.2.2.2 (.fieldLink RX3 23 "RuleHouse2Model" "cell" "[J") (m_mem (by decide +kernel))) rfl dX3_cell_40 ?_
      refine lv_iload_n S.1 S.2.1 dX3_cell_43 rfl (lv_at hl 0 rfl) ?_
      obtain ⟨a11, ea, g⟩ := m_bs h; clear h; subst ea; have h := g; clear g
      obtain ⟨l12, e13, h⟩ := m_bs h
      refine m_lald (t := 7) S hK hP (m_aL_s e13) rfl dX3_cell_44 ?_
      obtain ⟨h1, h2⟩ := m_fin h; subst h1; subst h2
      exact m_lret S hr hlk hK hP hS (by decide +kernel) (by decide +kernel) dX3_cell_45
    · replace h := m_t c8 h
      refine lv_ldc2 (v := (-1)) S.1 S.2.1 S.2.2.2.1 (S.2.2.2.2 (.constantLong RX3 94 (-1)) (m_mem (by decide +kernel))) dX3_cell_33 ?_
      refine lv_goto (tgt := 45) S.1 S.2.1 dX3_cell_36 (by decide) ?_
      obtain ⟨h1, h2⟩ := m_fin h; subst h1; subst h2
      exact m_lret S hr hlk hK hP hS (by decide +kernel) (by decide +kernel) dX3_cell_45
  · replace h := m_f c7 h
    refine lv_aload_n S.1 S.2.1 dX3_cell_13 rfl (lv_at hl 0 rfl) ?_
    obtain ⟨r14, e15, h⟩ := m_bs h
    refine m_get (ci := 3) (k := 9) (T := TX3) (N := 25) S (inX3 _) hK hP (m_gR_s e15) rfl (by decide) (S.2.2.2.2 (.fieldLink RX3 16 "RuleHouse2Model" "made" "[I") (m_mem (by decide +kernel))) rfl dX3_cell_14 ?_
    refine lv_aload_n S.1 S.2.1 dX3_cell_17 rfl (lv_at hl 0 rfl) ?_
    refine lv_iload_n S.1 S.2.1 dX3_cell_18 rfl (lv_at hl 1 rfl) ?_
    obtain ⟨_, k19, h⟩ := m_bs h
    obtain ⟨x16, s17, e18, h⟩ := m_b_s h
    refine m_calli (va_runV (As := [.int p1]) (rest := [va_rf r14]) S (c_X3_firstOf l D tc b t0 p1 _ _ _ e18) (cwV 1 S.2.2.2.2 (m_wV kX3_firstOf (by decide +kernel)) rfl rfl rfl (by decide +kernel) ⟨by decide +kernel, by decide +kernel⟩) (m_preV hK hP (m_is_s k19) rfl) rfl rfl hl.1 rfl (lv_room (by first | decide | simp [m_rfc, m_catI, m_catL, m_catA])) dX3_cell_19 ⟨by decide +kernel, by decide +kernel⟩) hS (fun H locs hP hS => ?_)
    obtain ⟨a20, ea, g⟩ := m_bs h; clear h; subst ea; have h := g; clear g
    obtain ⟨x21, e22, h⟩ := m_bs h
    refine m_iald (t := 5) S hK hP (m_aI_s e22) rfl dX3_cell_22 ?_
    refine lv_goto (tgt := 27) S.1 S.2.1 dX3_cell_23 (by decide) ?_
    refine lv_istore_n (i := 2) (lv' := [(2, .int x21), (0, .ref t0), (1, .int p1)]) S.1 S.2.1 dX3_cell_27 rfl hl (by decide) (by first | rfl | simp [m_rfc, m_catI, m_catL, m_catA]) (fun ls hl => ?_)
    refine lv_iload_n S.1 S.2.1 dX3_cell_28 rfl (lv_at hl 0 rfl) ?_
    refine lv_iconst (v := (-1)) S.1 S.2.1 dX3_cell_29 (by decide) ?_
    refine lv_icmp_ne (tgt := 39) S.1 S.2.1 dX3_cell_30 (by decide) (fun c23 => ?_) (fun c23 => ?_)
    · replace h := m_f c23 h
      refine lv_aload_n S.1 S.2.1 dX3_cell_39 rfl (lv_at hl 1 rfl) ?_
      obtain ⟨r24, e25, h⟩ := m_bs h
      refine m_get (ci := 3) (k := 11) (T := TX3) (N := 25) S (inX3 _) hK hP (m_gR_s e25) rfl (by decide) (S.2.2.2.2 (.fieldLink RX3 23 "RuleHouse2Model" "cell" "[J") (m_mem (by decide +kernel))) rfl dX3_cell_40 ?_
      refine lv_iload_n S.1 S.2.1 dX3_cell_43 rfl (lv_at hl 0 rfl) ?_
      obtain ⟨a26, ea, g⟩ := m_bs h; clear h; subst ea; have h := g; clear g
      obtain ⟨l27, e28, h⟩ := m_bs h
      refine m_lald (t := 7) S hK hP (m_aL_s e28) rfl dX3_cell_44 ?_
      obtain ⟨h1, h2⟩ := m_fin h; subst h1; subst h2
      exact m_lret S hr hlk hK hP hS (by decide +kernel) (by decide +kernel) dX3_cell_45
    · replace h := m_t c23 h
      refine lv_ldc2 (v := (-1)) S.1 S.2.1 S.2.2.2.1 (S.2.2.2.2 (.constantLong RX3 94 (-1)) (m_mem (by decide +kernel))) dX3_cell_33 ?_
      refine lv_goto (tgt := 45) S.1 S.2.1 dX3_cell_36 (by decide) ?_
      obtain ⟨h1, h2⟩ := m_fin h; subst h1; subst h2
      exact m_lret S hr hlk hK hP hS (by decide +kernel) (by decide +kernel) dX3_cell_45
end
section
def f_X3_same (t0 : Nat) (p1 : Int32) (p2 : Int32) (s0 : MS) : Option (Int32 × MS) :=
  (m_p s0 3 t0 0 (.int 0)).bind fun s1 =>
  (m_is s1 3 t0).bind fun _ =>
  m_b (f_X3_isRule t0 p1 s1) fun x3 s4 =>
  if x3 = 0 then
    some (0, s4)
  else
    (m_is s4 3 t0).bind fun _ =>
    m_b (f_X3_isRule t0 p2 s4) fun x8 s9 =>
    if x8 = 0 then
      some (0, s9)
    else
      (m_gR s9 3 t0 7).bind fun r13 =>
      r13.bind fun a15 =>
      (m_aI s9 5 a15 p1).bind fun x16 =>
      (m_gR s9 3 t0 7).bind fun r18 =>
      r18.bind fun a20 =>
      (m_aI s9 5 a20 p2).bind fun x21 =>
      if x16 = x21 then
        (m_gR s9 3 t0 8).bind fun r24 =>
        r24.bind fun a26 =>
        (m_aI s9 5 a26 p1).bind fun x27 =>
        (m_gR s9 3 t0 8).bind fun r29 =>
        r29.bind fun a31 =>
        (m_aI s9 5 a31 p2).bind fun x32 =>
        if x27 = x32 then
          some (1, s9)
        else
          some (0, s9)
      else
        some (0, s9)
set_option maxHeartbeats 4000000 in
set_option maxRecDepth 100000 in
theorem c_X3_same (l : Launch) (D : va_G) (tc : Nat → ClassId) (b : Nat) (t0 : Nat) (p1 : Int32) (p2 : Int32) (s0 st' : MS) (r : Int32) (h : f_X3_same t0 p1 p2 s0 = some (r, st')) : Met l yX3_same wsX3_same ({ frames := 1, cells := 0, slots := 0, locals := 21 }) (m_Pc D vwCl (m_tys tc) b s0 [.ref t0, .int p1, .int p2]) (m_Q D vwCl (m_tys tc) b (some (.int r)) st') 0 0 (m_A b) := by
  unfold f_X3_same at h
  refine m_met (cc := cX3_same) (maxL := 3) (ret := (some .boolean)) (by decide) rfl (by first | exact Nat.le_of_ble_eq_true rfl | simp [lg_sl, m_rfc, m_catI, m_catL, m_catA]) ?_
  intro p e s m below meth c ls S hr hlk hnm hK hP hl hS
  replace hl : lv_has ls 3 [(0, .ref t0), (1, .int p1), (2, .int p2)] := by first | exact hl | simpa [lv_args, m_rfc, m_catI, m_catL, m_catA] using hl
  refine lv_aload_n S.1 S.2.1 dX3_same_0 rfl (lv_at hl 0 rfl) ?_
  refine lv_iconst (v := 0) S.1 S.2.1 dX3_same_1 (by decide) ?_
  obtain ⟨s1, e2, h⟩ := m_bs h
  refine m_put (ci := 3) (k := 0) (T := TX3) (N := 25) (v := .int 0) (ty := .int) S (inX3 _) tyX3 tX3 nX3 hK hP hS e2 rfl (by decide) (S.2.2.2.2 (.fieldLink RX3 71 "RuleHouse2Model" "code" "I") (m_mem (by decide +kernel))) rfl rfl (by decide +kernel) rfl rfl dX3_same_2 (fun H locs hP hS => ?_)
  refine lv_aload_n S.1 S.2.1 dX3_same_5 rfl (lv_at hl 0 rfl) ?_
  refine lv_iload_n S.1 S.2.1 dX3_same_6 rfl (lv_at hl 1 rfl) ?_
  obtain ⟨_, k6, h⟩ := m_bs h
  obtain ⟨x3, s4, e5, h⟩ := m_b_s h
  refine m_calli (va_runV (As := [.int p1]) (rest := []) S (c_X3_isRule l D tc b t0 p1 _ _ _ e5) (cwV 1 S.2.2.2.2 (m_wV kX3_isRule (by decide +kernel)) rfl rfl rfl (by decide +kernel) ⟨by decide +kernel, by decide +kernel⟩) (m_preV hK hP (m_is_s k6) rfl) rfl rfl hl.1 rfl (lv_room (by first | decide | simp [m_rfc, m_catI, m_catL, m_catA])) dX3_same_7 ⟨by decide +kernel, by decide +kernel⟩) hS (fun H locs hP hS => ?_)
  refine lv_if_eq (tgt := 55) S.1 S.2.1 dX3_same_10 (by decide) (fun c7 => ?_) (fun c7 => ?_)
  · replace h := m_t c7 h
    refine lv_iconst (v := 0) S.1 S.2.1 dX3_same_55 (by decide) ?_
    obtain ⟨h1, h2⟩ := m_fin h; subst h1; subst h2
    exact m_zret S hr hlk hK hP hS (by decide) (by decide +kernel) (by decide +kernel) dX3_same_56
  · replace h := m_f c7 h
    refine lv_aload_n S.1 S.2.1 dX3_same_13 rfl (lv_at hl 0 rfl) ?_
    refine lv_iload_n S.1 S.2.1 dX3_same_14 rfl (lv_at hl 2 rfl) ?_
    obtain ⟨_, k11, h⟩ := m_bs h
    obtain ⟨x8, s9, e10, h⟩ := m_b_s h
    refine m_calli (va_runV (As := [.int p2]) (rest := []) S (c_X3_isRule l D tc b t0 p2 _ _ _ e10) (cwV 1 S.2.2.2.2 (m_wV kX3_isRule (by decide +kernel)) rfl rfl rfl (by decide +kernel) ⟨by decide +kernel, by decide +kernel⟩) (m_preV hK hP (m_is_s k11) rfl) rfl rfl hl.1 rfl (lv_room (by first | decide | simp [m_rfc, m_catI, m_catL, m_catA])) dX3_same_15 ⟨by decide +kernel, by decide +kernel⟩) hS (fun H locs hP hS => ?_)
    refine lv_if_eq (tgt := 55) S.1 S.2.1 dX3_same_18 (by decide) (fun c12 => ?_) (fun c12 => ?_)
    · replace h := m_t c12 h
      refine lv_iconst (v := 0) S.1 S.2.1 dX3_same_55 (by decide) ?_
      obtain ⟨h1, h2⟩ := m_fin h; subst h1; subst h2
      exact m_zret S hr hlk hK hP hS (by decide) (by decide +kernel) (by decide +kernel) dX3_same_56
    · replace h := m_f c12 h
      refine lv_aload_n S.1 S.2.1 dX3_same_21 rfl (lv_at hl 0 rfl) ?_
      obtain ⟨r13, e14, h⟩ := m_bs h
      refine m_get (ci := 3) (k := 7) (T := TX3) (N := 25) S (inX3 _) hK hP (m_gR_s e14) rfl (by decide) (S.2.2.2.2 (.fieldLink RX3 7 "RuleHouse2Model" "edition" "[I") (m_mem (by decide +kernel))) rfl dX3_same_22 ?_
      refine lv_iload_n S.1 S.2.1 dX3_same_25 rfl (lv_at hl 1 rfl) ?_
      obtain ⟨a15, ea, g⟩ := m_bs h; clear h; subst ea; have h := g; clear g
      obtain ⟨x16, e17, h⟩ := m_bs h
      refine m_iald (t := 5) S hK hP (m_aI_s e17) rfl dX3_same_26 ?_
      refine lv_aload_n S.1 S.2.1 dX3_same_27 rfl (lv_at hl 0 rfl) ?_
      obtain ⟨r18, e19, h⟩ := m_bs h
      refine m_get (ci := 3) (k := 7) (T := TX3) (N := 25) S (inX3 _) hK hP (m_gR_s e19) rfl (by decide) (S.2.2.2.2 (.fieldLink RX3 7 "RuleHouse2Model" "edition" "[I") (m_mem (by decide +kernel))) rfl dX3_same_28 ?_
      refine lv_iload_n S.1 S.2.1 dX3_same_31 rfl (lv_at hl 2 rfl) ?_
      obtain ⟨a20, ea, g⟩ := m_bs h; clear h; subst ea; have h := g; clear g
      obtain ⟨x21, e22, h⟩ := m_bs h
      refine m_iald (t := 5) S hK hP (m_aI_s e22) rfl dX3_same_32 ?_
      refine lv_icmp_ne (tgt := 55) S.1 S.2.1 dX3_same_33 (by decide) (fun c23 => ?_) (fun c23 => ?_)
      · replace h := m_f c23 h
        refine lv_iconst (v := 0) S.1 S.2.1 dX3_same_55 (by decide) ?_
        obtain ⟨h1, h2⟩ := m_fin h; subst h1; subst h2
        exact m_zret S hr hlk hK hP hS (by decide) (by decide +kernel) (by decide +kernel) dX3_same_56
      · replace h := m_t c23 h
        refine lv_aload_n S.1 S.2.1 dX3_same_36 rfl (lv_at hl 0 rfl) ?_
        obtain ⟨r24, e25, h⟩ := m_bs h
        refine m_get (ci := 3) (k := 8) (T := TX3) (N := 25) S (inX3 _) hK hP (m_gR_s e25) rfl (by decide) (S.2.2.2.2 (.fieldLink RX3 13 "RuleHouse2Model" "does" "[I") (m_mem (by decide +kernel))) rfl dX3_same_37 ?_
        refine lv_iload_n S.1 S.2.1 dX3_same_40 rfl (lv_at hl 1 rfl) ?_
        obtain ⟨a26, ea, g⟩ := m_bs h; clear h; subst ea; have h := g; clear g
        obtain ⟨x27, e28, h⟩ := m_bs h
        refine m_iald (t := 5) S hK hP (m_aI_s e28) rfl dX3_same_41 ?_
        refine lv_aload_n S.1 S.2.1 dX3_same_42 rfl (lv_at hl 0 rfl) ?_
        obtain ⟨r29, e30, h⟩ := m_bs h
        refine m_get (ci := 3) (k := 8) (T := TX3) (N := 25) S (inX3 _) hK hP (m_gR_s e30) rfl (by decide) (S.2.2.2.2 (.fieldLink RX3 13 "RuleHouse2Model" "does" "[I") (m_mem (by decide +kernel))) rfl dX3_same_43 ?_
        refine lv_iload_n S.1 S.2.1 dX3_same_46 rfl (lv_at hl 2 rfl) ?_
        obtain ⟨a31, ea, g⟩ := m_bs h; clear h; subst ea; have h := g; clear g
        obtain ⟨x32, e33, h⟩ := m_bs h
        refine m_iald (t := 5) S hK hP (m_aI_s e33) rfl dX3_same_47 ?_
        refine lv_icmp_ne (tgt := 55) S.1 S.2.1 dX3_same_48 (by decide) (fun c34 => ?_) (fun c34 => ?_)
        · replace h := m_f c34 h
          refine lv_iconst (v := 0) S.1 S.2.1 dX3_same_55 (by decide) ?_
          obtain ⟨h1, h2⟩ := m_fin h; subst h1; subst h2
          exact m_zret S hr hlk hK hP hS (by decide) (by decide +kernel) (by decide +kernel) dX3_same_56
        · replace h := m_t c34 h
          refine lv_iconst (v := 1) S.1 S.2.1 dX3_same_51 (by decide) ?_
          refine lv_goto (tgt := 56) S.1 S.2.1 dX3_same_52 (by decide) ?_
          obtain ⟨h1, h2⟩ := m_fin h; subst h1; subst h2
          exact m_zret S hr hlk hK hP hS (by decide) (by decide +kernel) (by decide +kernel) dX3_same_56

def f_X3_divide (t0 : Nat) (p1 : Int32) (p2 : Int64) (p3 : Int64) (s0 : MS) : Option (Int64 × MS) :=
  (m_p s0 3 t0 0 (.int 0)).bind fun s1 =>
  (m_is s1 3 t0).bind fun _ =>
  m_b (f_X3_isRule t0 p1 s1) fun x3 s4 =>
  if x3 = 0 then
    if ((-1) : Int32) = (-1) then
      some (0, s4)
    else
      (m_gR s4 3 t0 11).bind fun r9 =>
      r9.bind fun a11 =>
      (m_aL s4 7 a11 (-1)).bind fun l12 =>
      (m_ap s4 7 a11 (-1) (.long (l12 + 1))).bind fun s14 =>
      if (lg_cmp p3 0) = 0 then
        (m_p s14 3 t0 0 (.int 1)).bind fun s22 =>
        if (lg_cmp p3 0) = 0 then
          some (0, s22)
        else
          if (lg_cmp p3 (-1)) = 0 then
            some (-p2, s22)
          else
            if (p3 : Int64) = 0 then none else
            some (p2 / p3, s22)
      else
        (m_p s14 3 t0 0 (.int 0)).bind fun s17 =>
        if (lg_cmp p3 0) = 0 then
          some (0, s17)
        else
          if (lg_cmp p3 (-1)) = 0 then
            some (-p2, s17)
          else
            if (p3 : Int64) = 0 then none else
            some (p2 / p3, s17)
  else
    (m_is s4 3 t0).bind fun _ =>
    m_b (f_X3_classOf t0 p1 s4) fun x27 s28 =>
    if x27 = (-1) then
      some (0, s28)
    else
      (m_gR s28 3 t0 11).bind fun r32 =>
      r32.bind fun a34 =>
      (m_aL s28 7 a34 x27).bind fun l35 =>
      (m_ap s28 7 a34 x27 (.long (l35 + 1))).bind fun s37 =>
      if (lg_cmp p3 0) = 0 then
        (m_p s37 3 t0 0 (.int 1)).bind fun s45 =>
        if (lg_cmp p3 0) = 0 then
          some (0, s45)
        else
          if (lg_cmp p3 (-1)) = 0 then
            some (-p2, s45)
          else
            if (p3 : Int64) = 0 then none else
            some (p2 / p3, s45)
      else
        (m_p s37 3 t0 0 (.int 0)).bind fun s40 =>
        if (lg_cmp p3 0) = 0 then
          some (0, s40)
        else
          if (lg_cmp p3 (-1)) = 0 then
            some (-p2, s40)
          else
            if (p3 : Int64) = 0 then none else
            some (p2 / p3, s40)
set_option maxHeartbeats 4000000 in
set_option maxRecDepth 100000 in
theorem c_X3_divide (l : Launch) (D : va_G) (tc : Nat → ClassId) (b : Nat) (t0 : Nat) (p1 : Int32) (p2 : Int64) (p3 : Int64) (s0 st' : MS) (r : Int64) (h : f_X3_divide t0 p1 p2 p3 s0 = some (r, st')) : Met l yX3_divide wsX3_divide ({ frames := 2, cells := 0, slots := 0, locals := 44 }) (m_Pc D vwCl (m_tys tc) b s0 [.ref t0, .int p1, .long p2, .long p3]) (m_Q D vwCl (m_tys tc) b (some (.long r)) st') 0 0 (m_A b) := by
  unfold f_X3_divide at h
  refine m_met (cc := cX3_divide) (maxL := 7) (ret := (some .long)) (by decide) rfl (by first | exact Nat.le_of_ble_eq_true rfl | simp [lg_sl, m_rfc, m_catI, m_catL, m_catA]) ?_
  intro p e s m below meth c ls S hr hlk hnm hK hP hl hS
  replace hl : lv_has ls 7 [(0, .ref t0), (1, .int p1), (2, .long p2), (4, .long p3)] := by first | exact hl | simpa [lv_args, m_rfc, m_catI, m_catL, m_catA] using hl
  refine lv_aload_n S.1 S.2.1 dX3_divide_0 rfl (lv_at hl 0 rfl) ?_
  refine lv_iconst (v := 0) S.1 S.2.1 dX3_divide_1 (by decide) ?_
  obtain ⟨s1, e2, h⟩ := m_bs h
  refine m_put (ci := 3) (k := 0) (T := TX3) (N := 25) (v := .int 0) (ty := .int) S (inX3 _) tyX3 tX3 nX3 hK hP hS e2 rfl (by decide) (S.2.2.2.2 (.fieldLink RX3 71 "RuleHouse2Model" "code" "I") (m_mem (by decide +kernel))) rfl rfl (by decide +kernel) rfl rfl dX3_divide_2 (fun H locs hP hS => ?_)
  refine lv_aload_n S.1 S.2.1 dX3_divide_5 rfl (lv_at hl 0 rfl) ?_
  refine lv_iload_n S.1 S.2.1 dX3_divide_6 rfl (lv_at hl 1 rfl) ?_
  obtain ⟨_, k6, h⟩ := m_bs h
  obtain ⟨x3, s4, e5, h⟩ := m_b_s h
  refine m_calli (va_runV (As := [.int p1]) (rest := []) S (c_X3_isRule l D tc b t0 p1 _ _ _ e5) (cwV 1 S.2.2.2.2 (m_wV kX3_isRule (by decide +kernel)) rfl rfl rfl (by decide +kernel) ⟨by decide +kernel, by decide +kernel⟩) (m_preV hK hP (m_is_s k6) rfl) rfl rfl hl.1 rfl (lv_room (by first | decide | simp [m_rfc, m_catI, m_catL, m_catA])) dX3_divide_7 ⟨by decide +kernel, by decide +kernel⟩) hS (fun H locs hP hS => ?_)
  refine lv_if_eq (tgt := 21) S.1 S.2.1 dX3_divide_10 (by decide) (fun c7 => ?_) (fun c7 => ?_)
  · replace h := m_t c7 h
    refine lv_iconst (v := (-1)) S.1 S.2.1 dX3_divide_21 (by decide) ?_
    refine lv_istore (i := 6) (lv' := [(6, .int (-1)), (0, .ref t0), (1, .int p1), (2, .long p2), (4, .long p3)]) S.1 S.2.1 dX3_divide_22 hl (by decide) (by first | rfl | simp [m_rfc, m_catI, m_catL, m_catA]) (fun ls hl => ?_)
    refine lv_iload S.1 S.2.1 dX3_divide_24 (lv_at hl 0 rfl) ?_
    refine lv_iconst (v := (-1)) S.1 S.2.1 dX3_divide_26 (by decide) ?_
    refine lv_icmp_ne (tgt := 32) S.1 S.2.1 dX3_divide_27 (by decide) (fun c8 => ?_) (fun c8 => ?_)
    · replace h := m_f c8 h
      refine lv_aload_n S.1 S.2.1 dX3_divide_32 rfl (lv_at hl 1 rfl) ?_
      obtain ⟨r9, e10, h⟩ := m_bs h
      refine m_get (ci := 3) (k := 11) (T := TX3) (N := 25) S (inX3 _) hK hP (m_gR_s e10) rfl (by decide) (S.2.2.2.2 (.fieldLink RX3 23 "RuleHouse2Model" "cell" "[J") (m_mem (by decide +kernel))) rfl dX3_divide_33 ?_
      refine lv_iload S.1 S.2.1 dX3_divide_36 (lv_at hl 0 rfl) ?_
      refine lv_dup2_11 S.1 S.2.1 dX3_divide_38 rfl (m_rfc _) ?_
      obtain ⟨a11, ea, g⟩ := m_bs h; clear h; subst ea; have h := g; clear g
      obtain ⟨l12, e13, h⟩ := m_bs h
      refine m_lald (t := 7) S hK hP (m_aL_s e13) rfl dX3_divide_39 ?_
      refine lv_lconst (v := 1) S.1 S.2.1 dX3_divide_40 (by decide) ?_
      refine lv_ladd S.1 S.2.1 dX3_divide_41 ?_
      obtain ⟨s14, e15, h⟩ := m_bs h
      refine m_last (t := 7) S hK hP hS e15 (by decide) rfl dX3_divide_42 (fun H locs hP hS => ?_)
      refine lv_aload_n S.1 S.2.1 dX3_divide_43 rfl (lv_at hl 1 rfl) ?_
      refine lv_lload S.1 S.2.1 dX3_divide_44 (lv_at hl 4 rfl) ?_
      refine lv_lconst (v := 0) S.1 S.2.1 dX3_divide_46 (by decide) ?_
      refine W.lcmp S.1 S.2.1 dX3_divide_47 ?_
      refine lv_if_ne (tgt := 55) S.1 S.2.1 dX3_divide_48 (by decide) (fun c16 => ?_) (fun c16 => ?_)
      · replace h := m_f c16 h
        refine lv_iconst (v := 0) S.1 S.2.1 dX3_divide_55 (by decide) ?_
        obtain ⟨s17, e18, h⟩ := m_bs h
        refine m_put (ci := 3) (k := 0) (T := TX3) (N := 25) (v := .int 0) (ty := .int) S (inX3 _) tyX3 tX3 nX3 hK hP hS e18 rfl (by decide) (S.2.2.2.2 (.fieldLink RX3 71 "RuleHouse2Model" "code" "I") (m_mem (by decide +kernel))) rfl rfl (by decide +kernel) rfl rfl dX3_divide_56 (fun H locs hP hS => ?_)
        refine lv_lload S.1 S.2.1 dX3_divide_59 (lv_at hl 4 rfl) ?_
        refine lv_lconst (v := 0) S.1 S.2.1 dX3_divide_61 (by decide) ?_
        refine W.lcmp S.1 S.2.1 dX3_divide_62 ?_
        refine lv_if_ne (tgt := 70) S.1 S.2.1 dX3_divide_63 (by decide) (fun c19 => ?_) (fun c19 => ?_)
        · replace h := m_f c19 h
          refine lv_lload S.1 S.2.1 dX3_divide_70 (lv_at hl 4 rfl) ?_
          refine lv_ldc2 (v := (-1)) S.1 S.2.1 S.2.2.2.1 (S.2.2.2.2 (.constantLong RX3 94 (-1)) (m_mem (by decide +kernel))) dX3_divide_72 ?_
          refine W.lcmp S.1 S.2.1 dX3_divide_75 ?_
          refine lv_if_ne (tgt := 84) S.1 S.2.1 dX3_divide_76 (by decide) (fun c20 => ?_) (fun c20 => ?_)
          · replace h := m_f c20 h
            refine lv_lload_n S.1 S.2.1 dX3_divide_84 rfl (lv_at hl 3 rfl) ?_
            refine lv_lload S.1 S.2.1 dX3_divide_85 (lv_at hl 4 rfl) ?_
            by_cases c21 : (p3 : Int64) = 0
            · exact absurd (m_t c21 h) (fun h => by cases h)
            replace h := m_f c21 h
            refine lv_ldiv S.1 S.2.1 dX3_divide_87 c21 ?_
            obtain ⟨h1, h2⟩ := m_fin h; subst h1; subst h2
            exact m_lret S hr hlk hK hP hS (by decide +kernel) (by decide +kernel) dX3_divide_88
          · replace h := m_t c20 h
            refine lv_lload_n S.1 S.2.1 dX3_divide_79 rfl (lv_at hl 3 rfl) ?_
            refine lv_lneg S.1 S.2.1 dX3_divide_80 ?_
            refine lv_goto (tgt := 88) S.1 S.2.1 dX3_divide_81 (by decide) ?_
            obtain ⟨h1, h2⟩ := m_fin h; subst h1; subst h2
            exact m_lret S hr hlk hK hP hS (by decide +kernel) (by decide +kernel) dX3_divide_88
        · replace h := m_t c19 h
          refine lv_lconst (v := 0) S.1 S.2.1 dX3_divide_66 (by decide) ?_
          refine lv_goto (tgt := 88) S.1 S.2.1 dX3_divide_67 (by decide) ?_
          obtain ⟨h1, h2⟩ := m_fin h; subst h1; subst h2
          exact m_lret S hr hlk hK hP hS (by decide +kernel) (by decide +kernel) dX3_divide_88
      · replace h := m_t c16 h
        refine lv_iconst (v := 1) S.1 S.2.1 dX3_divide_51 (by decide) ?_
        refine lv_goto (tgt := 56) S.1 S.2.1 dX3_divide_52 (by decide) ?_
        obtain ⟨s22, e23, h⟩ := m_bs h
        refine m_put (ci := 3) (k := 0) (T := TX3) (N := 25) (v := .int 1) (ty := .int) S (inX3 _) tyX3 tX3 nX3 hK hP hS e23 rfl (by decide) (S.2.2.2.2 (.fieldLink RX3 71 "RuleHouse2Model" "code" "I") (m_mem (by decide +kernel))) rfl rfl (by decide +kernel) rfl rfl dX3_divide_56 (fun H locs hP hS => ?_)
        refine lv_lload S.1 S.2.1 dX3_divide_59 (lv_at hl 4 rfl) ?_
        refine lv_lconst (v := 0) S.1 S.2.1 dX3_divide_61 (by decide) ?_
        refine W.lcmp S.1 S.2.1 dX3_divide_62 ?_
        refine lv_if_ne (tgt := 70) S.1 S.2.1 dX3_divide_63 (by decide) (fun c24 => ?_) (fun c24 => ?_)
        · replace h := m_f c24 h
          refine lv_lload S.1 S.2.1 dX3_divide_70 (lv_at hl 4 rfl) ?_
          refine lv_ldc2 (v := (-1)) S.1 S.2.1 S.2.2.2.1 (S.2.2.2.2 (.constantLong RX3 94 (-1)) (m_mem (by decide +kernel))) dX3_divide_72 ?_
          refine W.lcmp S.1 S.2.1 dX3_divide_75 ?_
          refine lv_if_ne (tgt := 84) S.1 S.2.1 dX3_divide_76 (by decide) (fun c25 => ?_) (fun c25 => ?_)
          · replace h := m_f c25 h
            refine lv_lload_n S.1 S.2.1 dX3_divide_84 rfl (lv_at hl 3 rfl) ?_
            refine lv_lload S.1 S.2.1 dX3_divide_85 (lv_at hl 4 rfl) ?_
            by_cases c26 : (p3 : Int64) = 0
            · exact absurd (m_t c26 h) (fun h => by cases h)
            replace h := m_f c26 h
            refine lv_ldiv S.1 S.2.1 dX3_divide_87 c26 ?_
            obtain ⟨h1, h2⟩ := m_fin h; subst h1; subst h2
            exact m_lret S hr hlk hK hP hS (by decide +kernel) (by decide +kernel) dX3_divide_88
          · replace h := m_t c25 h
            refine lv_lload_n S.1 S.2.1 dX3_divide_79 rfl (lv_at hl 3 rfl) ?_
            refine lv_lneg S.1 S.2.1 dX3_divide_80 ?_
            refine lv_goto (tgt := 88) S.1 S.2.1 dX3_divide_81 (by decide) ?_
            obtain ⟨h1, h2⟩ := m_fin h; subst h1; subst h2
            exact m_lret S hr hlk hK hP hS (by decide +kernel) (by decide +kernel) dX3_divide_88
        · replace h := m_t c24 h
          refine lv_lconst (v := 0) S.1 S.2.1 dX3_divide_66 (by decide) ?_
          refine lv_goto (tgt := 88) S.1 S.2.1 dX3_divide_67 (by decide) ?_
          obtain ⟨h1, h2⟩ := m_fin h; subst h1; subst h2
          exact m_lret S hr hlk hK hP hS (by decide +kernel) (by decide +kernel) dX3_divide_88
    · replace h := m_t c8 h
      refine lv_lconst (v := 0) S.1 S.2.1 dX3_divide_30 (by decide) ?_
      obtain ⟨h1, h2⟩ := m_fin h; subst h1; subst h2
      exact m_lret S hr hlk hK hP hS (by decide +kernel) (by decide +kernel) dX3_divide_31
  · replace h := m_f c7 h
    refine lv_aload_n S.1 S.2.1 dX3_divide_13 rfl (lv_at hl 0 rfl) ?_
    refine lv_iload_n S.1 S.2.1 dX3_divide_14 rfl (lv_at hl 1 rfl) ?_
    obtain ⟨_, k30, h⟩ := m_bs h
    obtain ⟨x27, s28, e29, h⟩ := m_b_s h
    refine m_calli (va_runV (As := [.int p1]) (rest := []) S (c_X3_classOf l D tc b t0 p1 _ _ _ e29) (cwV 1 S.2.2.2.2 (m_wV kX3_classOf (by decide +kernel)) rfl rfl rfl (by decide +kernel) ⟨by decide +kernel, by decide +kernel⟩) (m_preV hK hP (m_is_s k30) rfl) rfl rfl hl.1 rfl (lv_room (by first | decide | simp [m_rfc, m_catI, m_catL, m_catA])) dX3_divide_15 ⟨by decide +kernel, by decide +kernel⟩) hS (fun H locs hP hS => ?_)
    refine lv_goto (tgt := 22) S.1 S.2.1 dX3_divide_18 (by decide) ?_
    refine lv_istore (i := 6) (lv' := [(6, .int x27), (0, .ref t0), (1, .int p1), (2, .long p2), (4, .long p3)]) S.1 S.2.1 dX3_divide_22 hl (by decide) (by first | rfl | simp [m_rfc, m_catI, m_catL, m_catA]) (fun ls hl => ?_)
    refine lv_iload S.1 S.2.1 dX3_divide_24 (lv_at hl 0 rfl) ?_
    refine lv_iconst (v := (-1)) S.1 S.2.1 dX3_divide_26 (by decide) ?_
    refine lv_icmp_ne (tgt := 32) S.1 S.2.1 dX3_divide_27 (by decide) (fun c31 => ?_) (fun c31 => ?_)
    · replace h := m_f c31 h
      refine lv_aload_n S.1 S.2.1 dX3_divide_32 rfl (lv_at hl 1 rfl) ?_
      obtain ⟨r32, e33, h⟩ := m_bs h
      refine m_get (ci := 3) (k := 11) (T := TX3) (N := 25) S (inX3 _) hK hP (m_gR_s e33) rfl (by decide) (S.2.2.2.2 (.fieldLink RX3 23 "RuleHouse2Model" "cell" "[J") (m_mem (by decide +kernel))) rfl dX3_divide_33 ?_
      refine lv_iload S.1 S.2.1 dX3_divide_36 (lv_at hl 0 rfl) ?_
      refine lv_dup2_11 S.1 S.2.1 dX3_divide_38 rfl (m_rfc _) ?_
      obtain ⟨a34, ea, g⟩ := m_bs h; clear h; subst ea; have h := g; clear g
      obtain ⟨l35, e36, h⟩ := m_bs h
      refine m_lald (t := 7) S hK hP (m_aL_s e36) rfl dX3_divide_39 ?_
      refine lv_lconst (v := 1) S.1 S.2.1 dX3_divide_40 (by decide) ?_
      refine lv_ladd S.1 S.2.1 dX3_divide_41 ?_
      obtain ⟨s37, e38, h⟩ := m_bs h
      refine m_last (t := 7) S hK hP hS e38 (by decide) rfl dX3_divide_42 (fun H locs hP hS => ?_)
      refine lv_aload_n S.1 S.2.1 dX3_divide_43 rfl (lv_at hl 1 rfl) ?_
      refine lv_lload S.1 S.2.1 dX3_divide_44 (lv_at hl 4 rfl) ?_
      refine lv_lconst (v := 0) S.1 S.2.1 dX3_divide_46 (by decide) ?_
      refine W.lcmp S.1 S.2.1 dX3_divide_47 ?_
      refine lv_if_ne (tgt := 55) S.1 S.2.1 dX3_divide_48 (by decide) (fun c39 => ?_) (fun c39 => ?_)
      · replace h := m_f c39 h
        refine lv_iconst (v := 0) S.1 S.2.1 dX3_divide_55 (by decide) ?_
        obtain ⟨s40, e41, h⟩ := m_bs h
        refine m_put (ci := 3) (k := 0) (T := TX3) (N := 25) (v := .int 0) (ty := .int) S (inX3 _) tyX3 tX3 nX3 hK hP hS e41 rfl (by decide) (S.2.2.2.2 (.fieldLink RX3 71 "RuleHouse2Model" "code" "I") (m_mem (by decide +kernel))) rfl rfl (by decide +kernel) rfl rfl dX3_divide_56 (fun H locs hP hS => ?_)
        refine lv_lload S.1 S.2.1 dX3_divide_59 (lv_at hl 4 rfl) ?_
        refine lv_lconst (v := 0) S.1 S.2.1 dX3_divide_61 (by decide) ?_
        refine W.lcmp S.1 S.2.1 dX3_divide_62 ?_
        refine lv_if_ne (tgt := 70) S.1 S.2.1 dX3_divide_63 (by decide) (fun c42 => ?_) (fun c42 => ?_)
        · replace h := m_f c42 h
          refine lv_lload S.1 S.2.1 dX3_divide_70 (lv_at hl 4 rfl) ?_
          refine lv_ldc2 (v := (-1)) S.1 S.2.1 S.2.2.2.1 (S.2.2.2.2 (.constantLong RX3 94 (-1)) (m_mem (by decide +kernel))) dX3_divide_72 ?_
          refine W.lcmp S.1 S.2.1 dX3_divide_75 ?_
          refine lv_if_ne (tgt := 84) S.1 S.2.1 dX3_divide_76 (by decide) (fun c43 => ?_) (fun c43 => ?_)
          · replace h := m_f c43 h
            refine lv_lload_n S.1 S.2.1 dX3_divide_84 rfl (lv_at hl 3 rfl) ?_
            refine lv_lload S.1 S.2.1 dX3_divide_85 (lv_at hl 4 rfl) ?_
            by_cases c44 : (p3 : Int64) = 0
            · exact absurd (m_t c44 h) (fun h => by cases h)
            replace h := m_f c44 h
            refine lv_ldiv S.1 S.2.1 dX3_divide_87 c44 ?_
            obtain ⟨h1, h2⟩ := m_fin h; subst h1; subst h2
            exact m_lret S hr hlk hK hP hS (by decide +kernel) (by decide +kernel) dX3_divide_88
          · replace h := m_t c43 h
            refine lv_lload_n S.1 S.2.1 dX3_divide_79 rfl (lv_at hl 3 rfl) ?_
            refine lv_lneg S.1 S.2.1 dX3_divide_80 ?_
            refine lv_goto (tgt := 88) S.1 S.2.1 dX3_divide_81 (by decide) ?_
            obtain ⟨h1, h2⟩ := m_fin h; subst h1; subst h2
            exact m_lret S hr hlk hK hP hS (by decide +kernel) (by decide +kernel) dX3_divide_88
        · replace h := m_t c42 h
          refine lv_lconst (v := 0) S.1 S.2.1 dX3_divide_66 (by decide) ?_
          refine lv_goto (tgt := 88) S.1 S.2.1 dX3_divide_67 (by decide) ?_
          obtain ⟨h1, h2⟩ := m_fin h; subst h1; subst h2
          exact m_lret S hr hlk hK hP hS (by decide +kernel) (by decide +kernel) dX3_divide_88
      · replace h := m_t c39 h
        refine lv_iconst (v := 1) S.1 S.2.1 dX3_divide_51 (by decide) ?_
        refine lv_goto (tgt := 56) S.1 S.2.1 dX3_divide_52 (by decide) ?_
        obtain ⟨s45, e46, h⟩ := m_bs h
        refine m_put (ci := 3) (k := 0) (T := TX3) (N := 25) (v := .int 1) (ty := .int) S (inX3 _) tyX3 tX3 nX3 hK hP hS e46 rfl (by decide) (S.2.2.2.2 (.fieldLink RX3 71 "RuleHouse2Model" "code" "I") (m_mem (by decide +kernel))) rfl rfl (by decide +kernel) rfl rfl dX3_divide_56 (fun H locs hP hS => ?_)
        refine lv_lload S.1 S.2.1 dX3_divide_59 (lv_at hl 4 rfl) ?_
        refine lv_lconst (v := 0) S.1 S.2.1 dX3_divide_61 (by decide) ?_
        refine W.lcmp S.1 S.2.1 dX3_divide_62 ?_
        refine lv_if_ne (tgt := 70) S.1 S.2.1 dX3_divide_63 (by decide) (fun c47 => ?_) (fun c47 => ?_)
        · replace h := m_f c47 h
          refine lv_lload S.1 S.2.1 dX3_divide_70 (lv_at hl 4 rfl) ?_
          refine lv_ldc2 (v := (-1)) S.1 S.2.1 S.2.2.2.1 (S.2.2.2.2 (.constantLong RX3 94 (-1)) (m_mem (by decide +kernel))) dX3_divide_72 ?_
          refine W.lcmp S.1 S.2.1 dX3_divide_75 ?_
          refine lv_if_ne (tgt := 84) S.1 S.2.1 dX3_divide_76 (by decide) (fun c48 => ?_) (fun c48 => ?_)
          · replace h := m_f c48 h
            refine lv_lload_n S.1 S.2.1 dX3_divide_84 rfl (lv_at hl 3 rfl) ?_
            refine lv_lload S.1 S.2.1 dX3_divide_85 (lv_at hl 4 rfl) ?_
            by_cases c49 : (p3 : Int64) = 0
            · exact absurd (m_t c49 h) (fun h => by cases h)
            replace h := m_f c49 h
            refine lv_ldiv S.1 S.2.1 dX3_divide_87 c49 ?_
            obtain ⟨h1, h2⟩ := m_fin h; subst h1; subst h2
            exact m_lret S hr hlk hK hP hS (by decide +kernel) (by decide +kernel) dX3_divide_88
          · replace h := m_t c48 h
            refine lv_lload_n S.1 S.2.1 dX3_divide_79 rfl (lv_at hl 3 rfl) ?_
            refine lv_lneg S.1 S.2.1 dX3_divide_80 ?_
            refine lv_goto (tgt := 88) S.1 S.2.1 dX3_divide_81 (by decide) ?_
            obtain ⟨h1, h2⟩ := m_fin h; subst h1; subst h2
            exact m_lret S hr hlk hK hP hS (by decide +kernel) (by decide +kernel) dX3_divide_88
        · replace h := m_t c47 h
          refine lv_lconst (v := 0) S.1 S.2.1 dX3_divide_66 (by decide) ?_
          refine lv_goto (tgt := 88) S.1 S.2.1 dX3_divide_67 (by decide) ?_
          obtain ⟨h1, h2⟩ := m_fin h; subst h1; subst h2
          exact m_lret S hr hlk hK hP hS (by decide +kernel) (by decide +kernel) dX3_divide_88
    · replace h := m_t c31 h
      refine lv_lconst (v := 0) S.1 S.2.1 dX3_divide_30 (by decide) ?_
      obtain ⟨h1, h2⟩ := m_fin h; subst h1; subst h2
      exact m_lret S hr hlk hK hP hS (by decide +kernel) (by decide +kernel) dX3_divide_31

def f_X3_handle (t0 : Nat) (p1 : Int32) (s0 : MS) : Option (Int32 × MS) :=
  if p1 < 0 then
    (m_p s0 3 t0 0 (.int 0)).bind fun s2 =>
    (m_gI s2 3 t0 0).bind fun x4 =>
    if x4 ≤ 0 then
      some ((-1), s2)
    else
      some (0, s2)
  else
    (m_gI s0 3 t0 6).bind fun x7 =>
    if x7 ≤ p1 then
      (m_p s0 3 t0 0 (.int 0)).bind fun s10 =>
      (m_gI s10 3 t0 0).bind fun x12 =>
      if x12 ≤ 0 then
        some ((-1), s10)
      else
        some (0, s10)
    else
      (m_p s0 3 t0 0 (.int 1)).bind fun s15 =>
      (m_gI s15 3 t0 0).bind fun x17 =>
      if x17 ≤ 0 then
        some ((-1), s15)
      else
        some (0, s15)
set_option maxHeartbeats 4000000 in
set_option maxRecDepth 100000 in
theorem c_X3_handle (l : Launch) (D : va_G) (tc : Nat → ClassId) (b : Nat) (t0 : Nat) (p1 : Int32) (s0 st' : MS) (r : Int32) (h : f_X3_handle t0 p1 s0 = some (r, st')) : Met l yX3_handle wsX3_handle ({ frames := 0, cells := 0, slots := 0, locals := 0 }) (m_Pc D vwCl (m_tys tc) b s0 [.ref t0, .int p1]) (m_Q D vwCl (m_tys tc) b (some (.int r)) st') 0 0 (m_A b) := by
  unfold f_X3_handle at h
  refine m_met (cc := cX3_handle) (maxL := 2) (ret := (some .int)) (by decide) rfl (by first | exact Nat.le_of_ble_eq_true rfl | simp [lg_sl, m_rfc, m_catI, m_catL, m_catA]) ?_
  intro p e s m below meth c ls S hr hlk hnm hK hP hl hS
  replace hl : lv_has ls 2 [(0, .ref t0), (1, .int p1)] := by first | exact hl | simpa [lv_args, m_rfc, m_catI, m_catL, m_catA] using hl
  refine lv_aload_n S.1 S.2.1 dX3_handle_0 rfl (lv_at hl 0 rfl) ?_
  refine lv_iload_n S.1 S.2.1 dX3_handle_1 rfl (lv_at hl 1 rfl) ?_
  refine lv_if_lt (tgt := 17) S.1 S.2.1 dX3_handle_2 (by decide) (fun c1 => ?_) (fun c1 => ?_)
  · replace h := m_t c1 h
    refine lv_iconst (v := 0) S.1 S.2.1 dX3_handle_17 (by decide) ?_
    obtain ⟨s2, e3, h⟩ := m_bs h
    refine m_put (ci := 3) (k := 0) (T := TX3) (N := 25) (v := .int 0) (ty := .int) S (inX3 _) tyX3 tX3 nX3 hK hP hS e3 rfl (by decide) (S.2.2.2.2 (.fieldLink RX3 71 "RuleHouse2Model" "code" "I") (m_mem (by decide +kernel))) rfl rfl (by decide +kernel) rfl rfl dX3_handle_18 (fun H locs hP hS => ?_)
    refine lv_aload_n S.1 S.2.1 dX3_handle_21 rfl (lv_at hl 0 rfl) ?_
    obtain ⟨x4, e5, h⟩ := m_bs h
    refine m_get (ci := 3) (k := 0) (T := TX3) (N := 25) S (inX3 _) hK hP (m_gI_s e5) rfl (by decide) (S.2.2.2.2 (.fieldLink RX3 71 "RuleHouse2Model" "code" "I") (m_mem (by decide +kernel))) rfl dX3_handle_22 ?_
    refine lv_if_le (tgt := 32) S.1 S.2.1 dX3_handle_25 (by decide) (fun c6 => ?_) (fun c6 => ?_)
    · replace h := m_t c6 h
      refine lv_iconst (v := (-1)) S.1 S.2.1 dX3_handle_32 (by decide) ?_
      obtain ⟨h1, h2⟩ := m_fin h; subst h1; subst h2
      exact m_iret S hr hlk hK hP hS (by decide +kernel) (by decide +kernel) dX3_handle_33
    · replace h := m_f c6 h
      refine lv_iconst (v := 0) S.1 S.2.1 dX3_handle_28 (by decide) ?_
      refine lv_goto (tgt := 33) S.1 S.2.1 dX3_handle_29 (by decide) ?_
      obtain ⟨h1, h2⟩ := m_fin h; subst h1; subst h2
      exact m_iret S hr hlk hK hP hS (by decide +kernel) (by decide +kernel) dX3_handle_33
  · replace h := m_f c1 h
    refine lv_iload_n S.1 S.2.1 dX3_handle_5 rfl (lv_at hl 1 rfl) ?_
    refine lv_aload_n S.1 S.2.1 dX3_handle_6 rfl (lv_at hl 0 rfl) ?_
    obtain ⟨x7, e8, h⟩ := m_bs h
    refine m_get (ci := 3) (k := 6) (T := TX3) (N := 25) S (inX3 _) hK hP (m_gI_s e8) rfl (by decide) (S.2.2.2.2 (.fieldLink RX3 96 "RuleHouse2Model" "handles" "I") (m_mem (by decide +kernel))) rfl dX3_handle_7 ?_
    refine lv_icmp_ge (tgt := 17) S.1 S.2.1 dX3_handle_10 (by decide) (fun c9 => ?_) (fun c9 => ?_)
    · replace h := m_t c9 h
      refine lv_iconst (v := 0) S.1 S.2.1 dX3_handle_17 (by decide) ?_
      obtain ⟨s10, e11, h⟩ := m_bs h
      refine m_put (ci := 3) (k := 0) (T := TX3) (N := 25) (v := .int 0) (ty := .int) S (inX3 _) tyX3 tX3 nX3 hK hP hS e11 rfl (by decide) (S.2.2.2.2 (.fieldLink RX3 71 "RuleHouse2Model" "code" "I") (m_mem (by decide +kernel))) rfl rfl (by decide +kernel) rfl rfl dX3_handle_18 (fun H locs hP hS => ?_)
      refine lv_aload_n S.1 S.2.1 dX3_handle_21 rfl (lv_at hl 0 rfl) ?_
      obtain ⟨x12, e13, h⟩ := m_bs h
      refine m_get (ci := 3) (k := 0) (T := TX3) (N := 25) S (inX3 _) hK hP (m_gI_s e13) rfl (by decide) (S.2.2.2.2 (.fieldLink RX3 71 "RuleHouse2Model" "code" "I") (m_mem (by decide +kernel))) rfl dX3_handle_22 ?_
      refine lv_if_le (tgt := 32) S.1 S.2.1 dX3_handle_25 (by decide) (fun c14 => ?_) (fun c14 => ?_)
      · replace h := m_t c14 h
        refine lv_iconst (v := (-1)) S.1 S.2.1 dX3_handle_32 (by decide) ?_
        obtain ⟨h1, h2⟩ := m_fin h; subst h1; subst h2
        exact m_iret S hr hlk hK hP hS (by decide +kernel) (by decide +kernel) dX3_handle_33
      · replace h := m_f c14 h
        refine lv_iconst (v := 0) S.1 S.2.1 dX3_handle_28 (by decide) ?_
        refine lv_goto (tgt := 33) S.1 S.2.1 dX3_handle_29 (by decide) ?_
        obtain ⟨h1, h2⟩ := m_fin h; subst h1; subst h2
        exact m_iret S hr hlk hK hP hS (by decide +kernel) (by decide +kernel) dX3_handle_33
    · replace h := m_f c9 h
      refine lv_iconst (v := 1) S.1 S.2.1 dX3_handle_13 (by decide) ?_
      refine lv_goto (tgt := 18) S.1 S.2.1 dX3_handle_14 (by decide) ?_
      obtain ⟨s15, e16, h⟩ := m_bs h
      refine m_put (ci := 3) (k := 0) (T := TX3) (N := 25) (v := .int 1) (ty := .int) S (inX3 _) tyX3 tX3 nX3 hK hP hS e16 rfl (by decide) (S.2.2.2.2 (.fieldLink RX3 71 "RuleHouse2Model" "code" "I") (m_mem (by decide +kernel))) rfl rfl (by decide +kernel) rfl rfl dX3_handle_18 (fun H locs hP hS => ?_)
      refine lv_aload_n S.1 S.2.1 dX3_handle_21 rfl (lv_at hl 0 rfl) ?_
      obtain ⟨x17, e18, h⟩ := m_bs h
      refine m_get (ci := 3) (k := 0) (T := TX3) (N := 25) S (inX3 _) hK hP (m_gI_s e18) rfl (by decide) (S.2.2.2.2 (.fieldLink RX3 71 "RuleHouse2Model" "code" "I") (m_mem (by decide +kernel))) rfl dX3_handle_22 ?_
      refine lv_if_le (tgt := 32) S.1 S.2.1 dX3_handle_25 (by decide) (fun c19 => ?_) (fun c19 => ?_)
      · replace h := m_t c19 h
        refine lv_iconst (v := (-1)) S.1 S.2.1 dX3_handle_32 (by decide) ?_
        obtain ⟨h1, h2⟩ := m_fin h; subst h1; subst h2
        exact m_iret S hr hlk hK hP hS (by decide +kernel) (by decide +kernel) dX3_handle_33
      · replace h := m_f c19 h
        refine lv_iconst (v := 0) S.1 S.2.1 dX3_handle_28 (by decide) ?_
        refine lv_goto (tgt := 33) S.1 S.2.1 dX3_handle_29 (by decide) ?_
        obtain ⟨h1, h2⟩ := m_fin h; subst h1; subst h2
        exact m_iret S hr hlk hK hP hS (by decide +kernel) (by decide +kernel) dX3_handle_33

def f_X3_target (t0 : Nat) (p1 : Int32) (s0 : MS) : Option (Int32 × MS) :=
  (m_p s0 3 t0 0 (.int 0)).bind fun s1 =>
  (m_is s1 3 t0).bind fun _ =>
  m_b (f_X3_isRule t0 p1 s1) fun x3 s4 =>
  if x3 = 0 then
    some ((-1), s4)
  else
    (m_gI s4 3 t0 4).bind fun x8 =>
    if x8 = 40 then
      some ((-4), s4)
    else
      (m_gR s4 3 t0 12).bind fun r11 =>
      (m_gI s4 3 t0 4).bind fun x13 =>
      r11.bind fun a15 =>
      (m_ap s4 5 a15 x13 (.int p1)).bind fun s16 =>
      (m_gI s16 3 t0 4).bind fun x18 =>
      (m_p s16 3 t0 4 (.int (x18 + 1))).bind fun s20 =>
      (m_gI s20 3 t0 4).bind fun x22 =>
      some (x22 - 1, s20)
set_option maxHeartbeats 4000000 in
set_option maxRecDepth 100000 in
theorem c_X3_target (l : Launch) (D : va_G) (tc : Nat → ClassId) (b : Nat) (t0 : Nat) (p1 : Int32) (s0 st' : MS) (r : Int32) (h : f_X3_target t0 p1 s0 = some (r, st')) : Met l yX3_target wsX3_target ({ frames := 1, cells := 0, slots := 0, locals := 21 }) (m_Pc D vwCl (m_tys tc) b s0 [.ref t0, .int p1]) (m_Q D vwCl (m_tys tc) b (some (.int r)) st') 0 0 (m_A b) := by
  unfold f_X3_target at h
  refine m_met (cc := cX3_target) (maxL := 2) (ret := (some .int)) (by decide) rfl (by first | exact Nat.le_of_ble_eq_true rfl | simp [lg_sl, m_rfc, m_catI, m_catL, m_catA]) ?_
  intro p e s m below meth c ls S hr hlk hnm hK hP hl hS
  replace hl : lv_has ls 2 [(0, .ref t0), (1, .int p1)] := by first | exact hl | simpa [lv_args, m_rfc, m_catI, m_catL, m_catA] using hl
  refine lv_aload_n S.1 S.2.1 dX3_target_0 rfl (lv_at hl 0 rfl) ?_
  refine lv_iconst (v := 0) S.1 S.2.1 dX3_target_1 (by decide) ?_
  obtain ⟨s1, e2, h⟩ := m_bs h
  refine m_put (ci := 3) (k := 0) (T := TX3) (N := 25) (v := .int 0) (ty := .int) S (inX3 _) tyX3 tX3 nX3 hK hP hS e2 rfl (by decide) (S.2.2.2.2 (.fieldLink RX3 71 "RuleHouse2Model" "code" "I") (m_mem (by decide +kernel))) rfl rfl (by decide +kernel) rfl rfl dX3_target_2 (fun H locs hP hS => ?_)
  refine lv_aload_n S.1 S.2.1 dX3_target_5 rfl (lv_at hl 0 rfl) ?_
  refine lv_iload_n S.1 S.2.1 dX3_target_6 rfl (lv_at hl 1 rfl) ?_
  obtain ⟨_, k6, h⟩ := m_bs h
  obtain ⟨x3, s4, e5, h⟩ := m_b_s h
  refine m_calli (va_runV (As := [.int p1]) (rest := []) S (c_X3_isRule l D tc b t0 p1 _ _ _ e5) (cwV 1 S.2.2.2.2 (m_wV kX3_isRule (by decide +kernel)) rfl rfl rfl (by decide +kernel) ⟨by decide +kernel, by decide +kernel⟩) (m_preV hK hP (m_is_s k6) rfl) rfl rfl hl.1 rfl (lv_room (by first | decide | simp [m_rfc, m_catI, m_catL, m_catA])) dX3_target_7 ⟨by decide +kernel, by decide +kernel⟩) hS (fun H locs hP hS => ?_)
  refine lv_if_ne (tgt := 15) S.1 S.2.1 dX3_target_10 (by decide) (fun c7 => ?_) (fun c7 => ?_)
  · replace h := m_f c7 h
    refine lv_aload_n S.1 S.2.1 dX3_target_15 rfl (lv_at hl 0 rfl) ?_
    obtain ⟨x8, e9, h⟩ := m_bs h
    refine m_get (ci := 3) (k := 4) (T := TX3) (N := 25) S (inX3 _) hK hP (m_gI_s e9) rfl (by decide) (S.2.2.2.2 (.fieldLink RX3 77 "RuleHouse2Model" "targets" "I") (m_mem (by decide +kernel))) rfl dX3_target_16 ?_
    refine lv_bipush (v := 40) S.1 S.2.1 dX3_target_19 (by decide) ?_
    refine lv_icmp_ne (tgt := 27) S.1 S.2.1 dX3_target_21 (by decide) (fun c10 => ?_) (fun c10 => ?_)
    · replace h := m_f c10 h
      refine lv_aload_n S.1 S.2.1 dX3_target_27 rfl (lv_at hl 0 rfl) ?_
      obtain ⟨r11, e12, h⟩ := m_bs h
      refine m_get (ci := 3) (k := 12) (T := TX3) (N := 25) S (inX3 _) hK hP (m_gR_s e12) rfl (by decide) (S.2.2.2.2 (.fieldLink RX3 27 "RuleHouse2Model" "rule" "[I") (m_mem (by decide +kernel))) rfl dX3_target_28 ?_
      refine lv_aload_n S.1 S.2.1 dX3_target_31 rfl (lv_at hl 0 rfl) ?_
      obtain ⟨x13, e14, h⟩ := m_bs h
      refine m_get (ci := 3) (k := 4) (T := TX3) (N := 25) S (inX3 _) hK hP (m_gI_s e14) rfl (by decide) (S.2.2.2.2 (.fieldLink RX3 77 "RuleHouse2Model" "targets" "I") (m_mem (by decide +kernel))) rfl dX3_target_32 ?_
      refine lv_iload_n S.1 S.2.1 dX3_target_35 rfl (lv_at hl 1 rfl) ?_
      obtain ⟨a15, ea, g⟩ := m_bs h; clear h; subst ea; have h := g; clear g
      obtain ⟨s16, e17, h⟩ := m_bs h
      refine m_iast (t := 5) S hK hP hS e17 (by decide) rfl dX3_target_36 (fun H locs hP hS => ?_)
      refine lv_aload_n S.1 S.2.1 dX3_target_37 rfl (lv_at hl 0 rfl) ?_
      refine lv_dup S.1 S.2.1 dX3_target_38 rfl ?_
      obtain ⟨x18, e19, h⟩ := m_bs h
      refine m_get (ci := 3) (k := 4) (T := TX3) (N := 25) S (inX3 _) hK hP (m_gI_s e19) rfl (by decide) (S.2.2.2.2 (.fieldLink RX3 77 "RuleHouse2Model" "targets" "I") (m_mem (by decide +kernel))) rfl dX3_target_39 ?_
      refine lv_iconst (v := 1) S.1 S.2.1 dX3_target_42 (by decide) ?_
      refine lv_iadd S.1 S.2.1 dX3_target_43 ?_
      obtain ⟨s20, e21, h⟩ := m_bs h
      refine m_put (ci := 3) (k := 4) (T := TX3) (N := 25) (v := .int (x18 + 1)) (ty := .int) S (inX3 _) tyX3 tX3 nX3 hK hP hS e21 rfl (by decide) (S.2.2.2.2 (.fieldLink RX3 77 "RuleHouse2Model" "targets" "I") (m_mem (by decide +kernel))) rfl rfl (by decide +kernel) rfl rfl dX3_target_44 (fun H locs hP hS => ?_)
      refine lv_aload_n S.1 S.2.1 dX3_target_47 rfl (lv_at hl 0 rfl) ?_
      obtain ⟨x22, e23, h⟩ := m_bs h
      refine m_get (ci := 3) (k := 4) (T := TX3) (N := 25) S (inX3 _) hK hP (m_gI_s e23) rfl (by decide) (S.2.2.2.2 (.fieldLink RX3 77 "RuleHouse2Model" "targets" "I") (m_mem (by decide +kernel))) rfl dX3_target_48 ?_
      refine lv_iconst (v := 1) S.1 S.2.1 dX3_target_51 (by decide) ?_
      refine lv_isub S.1 S.2.1 dX3_target_52 ?_
      obtain ⟨h1, h2⟩ := m_fin h; subst h1; subst h2
      exact m_iret S hr hlk hK hP hS (by decide +kernel) (by decide +kernel) dX3_target_53
    · replace h := m_t c10 h
      refine lv_bipush (v := (-4)) S.1 S.2.1 dX3_target_24 (by decide) ?_
      obtain ⟨h1, h2⟩ := m_fin h; subst h1; subst h2
      exact m_iret S hr hlk hK hP hS (by decide +kernel) (by decide +kernel) dX3_target_26
  · replace h := m_t c7 h
    refine lv_iconst (v := (-1)) S.1 S.2.1 dX3_target_13 (by decide) ?_
    obtain ⟨h1, h2⟩ := m_fin h; subst h1; subst h2
    exact m_iret S hr hlk hK hP hS (by decide +kernel) (by decide +kernel) dX3_target_14

def f_X3_attribute (t0 : Nat) (p1 : Int32) (p2 : Int32) (p3 : Int32) (s0 : MS) : Option (Int32 × MS) :=
  (m_p s0 3 t0 0 (.int 0)).bind fun s1 =>
  (m_is s1 3 t0).bind fun _ =>
  m_b (f_X3_isTarget t0 p1 s1) fun x3 s4 =>
  if x3 = 0 then
    some ((-1), s4)
  else
    if p2 < 0 then
      some ((-1), s4)
    else
      if p2 ≤ 3 then
        if p2 = 0 then
          if p2 = 1 then
            (m_gR s4 3 t0 21).bind fun r83 =>
            r83.bind fun a85 =>
            (m_aI s4 6 a85 p1).bind fun x86 =>
            if x86 = 0 then
              (m_gR s4 3 t0 13).bind fun r89 =>
              r89.bind fun a91 =>
              (m_aI s4 5 a91 ((4 * p1) + p2)).bind fun x92 =>
              (m_gR s4 3 t0 13).bind fun r94 =>
              r94.bind fun a96 =>
              (m_ap s4 5 a96 ((4 * p1) + p2) (.int p3)).bind fun s97 =>
              some (x92, s97)
            else
              some ((-3), s4)
          else
            if p3 < 0 then
              some ((-2), s4)
            else
              if p3 ≤ 20 then
                (m_gR s4 3 t0 21).bind fun r101 =>
                r101.bind fun a103 =>
                (m_aI s4 6 a103 p1).bind fun x104 =>
                if x104 = 0 then
                  (m_gR s4 3 t0 13).bind fun r107 =>
                  r107.bind fun a109 =>
                  (m_aI s4 5 a109 ((4 * p1) + p2)).bind fun x110 =>
                  (m_gR s4 3 t0 13).bind fun r112 =>
                  r112.bind fun a114 =>
                  (m_ap s4 5 a114 ((4 * p1) + p2) (.int p3)).bind fun s115 =>
                  some (x110, s115)
                else
                  some ((-3), s4)
              else
                some ((-2), s4)
        else
          if p2 = 2 then
            if p2 = 1 then
              (m_gR s4 3 t0 21).bind fun r48 =>
              r48.bind fun a50 =>
              (m_aI s4 6 a50 p1).bind fun x51 =>
              if x51 = 0 then
                (m_gR s4 3 t0 13).bind fun r54 =>
                r54.bind fun a56 =>
                (m_aI s4 5 a56 ((4 * p1) + p2)).bind fun x57 =>
                (m_gR s4 3 t0 13).bind fun r59 =>
                r59.bind fun a61 =>
                (m_ap s4 5 a61 ((4 * p1) + p2) (.int p3)).bind fun s62 =>
                some (x57, s62)
              else
                some ((-3), s4)
            else
              if p3 < 0 then
                some ((-2), s4)
              else
                if p3 ≤ p1 then
                  (m_gR s4 3 t0 21).bind fun r66 =>
                  r66.bind fun a68 =>
                  (m_aI s4 6 a68 p1).bind fun x69 =>
                  if x69 = 0 then
                    (m_gR s4 3 t0 13).bind fun r72 =>
                    r72.bind fun a74 =>
                    (m_aI s4 5 a74 ((4 * p1) + p2)).bind fun x75 =>
                    (m_gR s4 3 t0 13).bind fun r77 =>
                    r77.bind fun a79 =>
                    (m_ap s4 5 a79 ((4 * p1) + p2) (.int p3)).bind fun s80 =>
                    some (x75, s80)
                  else
                    some ((-3), s4)
                else
                  some ((-2), s4)
          else
            if p2 = 1 then
              (m_gR s4 3 t0 21).bind fun r13 =>
              r13.bind fun a15 =>
              (m_aI s4 6 a15 p1).bind fun x16 =>
              if x16 = 0 then
                (m_gR s4 3 t0 13).bind fun r19 =>
                r19.bind fun a21 =>
                (m_aI s4 5 a21 ((4 * p1) + p2)).bind fun x22 =>
                (m_gR s4 3 t0 13).bind fun r24 =>
                r24.bind fun a26 =>
                (m_ap s4 5 a26 ((4 * p1) + p2) (.int p3)).bind fun s27 =>
                some (x22, s27)
              else
                some ((-3), s4)
            else
              if p3 < 0 then
                some ((-2), s4)
              else
                if p3 ≤ 1 then
                  (m_gR s4 3 t0 21).bind fun r31 =>
                  r31.bind fun a33 =>
                  (m_aI s4 6 a33 p1).bind fun x34 =>
                  if x34 = 0 then
                    (m_gR s4 3 t0 13).bind fun r37 =>
                    r37.bind fun a39 =>
                    (m_aI s4 5 a39 ((4 * p1) + p2)).bind fun x40 =>
                    (m_gR s4 3 t0 13).bind fun r42 =>
                    r42.bind fun a44 =>
                    (m_ap s4 5 a44 ((4 * p1) + p2) (.int p3)).bind fun s45 =>
                    some (x40, s45)
                  else
                    some ((-3), s4)
                else
                  some ((-2), s4)
      else
        some ((-1), s4)
set_option maxHeartbeats 4000000 in
set_option maxRecDepth 100000 in
theorem c_X3_attribute (l : Launch) (D : va_G) (tc : Nat → ClassId) (b : Nat) (t0 : Nat) (p1 : Int32) (p2 : Int32) (p3 : Int32) (s0 st' : MS) (r : Int32) (h : f_X3_attribute t0 p1 p2 p3 s0 = some (r, st')) : Met l yX3_attribute wsX3_attribute ({ frames := 1, cells := 0, slots := 0, locals := 21 }) (m_Pc D vwCl (m_tys tc) b s0 [.ref t0, .int p1, .int p2, .int p3]) (m_Q D vwCl (m_tys tc) b (some (.int r)) st') 0 0 (m_A b) := by
  unfold f_X3_attribute at h
  refine m_met (cc := cX3_attribute) (maxL := 6) (ret := (some .int)) (by decide) rfl (by first | exact Nat.le_of_ble_eq_true rfl | simp [lg_sl, m_rfc, m_catI, m_catL, m_catA]) ?_
  intro p e s m below meth c ls S hr hlk hnm hK hP hl hS
  replace hl : lv_has ls 6 [(0, .ref t0), (1, .int p1), (2, .int p2), (3, .int p3)] := by first | exact hl | simpa [lv_args, m_rfc, m_catI, m_catL, m_catA] using hl
  refine lv_aload_n S.1 S.2.1 dX3_attribute_0 rfl (lv_at hl 0 rfl) ?_
  refine lv_iconst (v := 0) S.1 S.2.1 dX3_attribute_1 (by decide) ?_
  obtain ⟨s1, e2, h⟩ := m_bs h
  refine m_put (ci := 3) (k := 0) (T := TX3) (N := 25) (v := .int 0) (ty := .int) S (inX3 _) tyX3 tX3 nX3 hK hP hS e2 rfl (by decide) (S.2.2.2.2 (.fieldLink RX3 71 "RuleHouse2Model" "code" "I") (m_mem (by decide +kernel))) rfl rfl (by decide +kernel) rfl rfl dX3_attribute_2 (fun H locs hP hS => ?_)
  refine lv_aload_n S.1 S.2.1 dX3_attribute_5 rfl (lv_at hl 0 rfl) ?_
  refine lv_iload_n S.1 S.2.1 dX3_attribute_6 rfl (lv_at hl 1 rfl) ?_
  obtain ⟨_, k6, h⟩ := m_bs h
  obtain ⟨x3, s4, e5, h⟩ := m_b_s h
  refine m_calli (va_runV (As := [.int p1]) (rest := []) S (c_X3_isTarget l D tc b t0 p1 _ _ _ e5) (cwV 1 S.2.2.2.2 (m_wV kX3_isTarget (by decide +kernel)) rfl rfl rfl (by decide +kernel) ⟨by decide +kernel, by decide +kernel⟩) (m_preV hK hP (m_is_s k6) rfl) rfl rfl hl.1 rfl (lv_room (by first | decide | simp [m_rfc, m_catI, m_catL, m_catA])) dX3_attribute_7 ⟨by decide +kernel, by decide +kernel⟩) hS (fun H locs hP hS => ?_)
  refine lv_if_eq (tgt := 22) S.1 S.2.1 dX3_attribute_10 (by decide) (fun c7 => ?_) (fun c7 => ?_)
  · replace h := m_t c7 h
    refine lv_iconst (v := (-1)) S.1 S.2.1 dX3_attribute_22 (by decide) ?_
    obtain ⟨h1, h2⟩ := m_fin h; subst h1; subst h2
    exact m_iret S hr hlk hK hP hS (by decide +kernel) (by decide +kernel) dX3_attribute_23
  · replace h := m_f c7 h
    refine lv_iload_n S.1 S.2.1 dX3_attribute_13 rfl (lv_at hl 2 rfl) ?_
    refine lv_if_lt (tgt := 22) S.1 S.2.1 dX3_attribute_14 (by decide) (fun c8 => ?_) (fun c8 => ?_)
    · replace h := m_t c8 h
      refine lv_iconst (v := (-1)) S.1 S.2.1 dX3_attribute_22 (by decide) ?_
      obtain ⟨h1, h2⟩ := m_fin h; subst h1; subst h2
      exact m_iret S hr hlk hK hP hS (by decide +kernel) (by decide +kernel) dX3_attribute_23
    · replace h := m_f c8 h
      refine lv_iload_n S.1 S.2.1 dX3_attribute_17 rfl (lv_at hl 2 rfl) ?_
      refine lv_iconst (v := 3) S.1 S.2.1 dX3_attribute_18 (by decide) ?_
      refine lv_icmp_le (tgt := 24) S.1 S.2.1 dX3_attribute_19 (by decide) (fun c9 => ?_) (fun c9 => ?_)
      · replace h := m_t c9 h
        refine lv_iload_n S.1 S.2.1 dX3_attribute_24 rfl (lv_at hl 2 rfl) ?_
        refine lv_if_ne (tgt := 33) S.1 S.2.1 dX3_attribute_25 (by decide) (fun c10 => ?_) (fun c10 => ?_)
        · replace h := m_f c10 h
          refine lv_iload_n S.1 S.2.1 dX3_attribute_33 rfl (lv_at hl 2 rfl) ?_
          refine lv_iconst (v := 2) S.1 S.2.1 dX3_attribute_34 (by decide) ?_
          refine lv_icmp_ne (tgt := 42) S.1 S.2.1 dX3_attribute_35 (by decide) (fun c11 => ?_) (fun c11 => ?_)
          · replace h := m_f c11 h
            refine lv_iconst (v := 1) S.1 S.2.1 dX3_attribute_42 (by decide) ?_
            refine lv_istore (i := 4) (lv' := [(4, .int 1), (0, .ref t0), (1, .int p1), (2, .int p2), (3, .int p3)]) S.1 S.2.1 dX3_attribute_43 hl (by decide) (by first | rfl | simp [m_rfc, m_catI, m_catL, m_catA]) (fun ls hl => ?_)
            refine lv_iload_n S.1 S.2.1 dX3_attribute_45 rfl (lv_at hl 3 rfl) ?_
            refine lv_iconst (v := 1) S.1 S.2.1 dX3_attribute_46 (by decide) ?_
            refine lv_icmp_eq (tgt := 63) S.1 S.2.1 dX3_attribute_47 (by decide) (fun c12 => ?_) (fun c12 => ?_)
            · replace h := m_t c12 h
              refine lv_aload_n S.1 S.2.1 dX3_attribute_63 rfl (lv_at hl 1 rfl) ?_
              obtain ⟨r13, e14, h⟩ := m_bs h
              refine m_get (ci := 3) (k := 21) (T := TX3) (N := 25) S (inX3 _) hK hP (m_gR_s e14) rfl (by decide) (S.2.2.2.2 (.fieldLink RX3 54 "RuleHouse2Model" "run" "[Z") (m_mem (by decide +kernel))) rfl dX3_attribute_64 ?_
              refine lv_iload_n S.1 S.2.1 dX3_attribute_67 rfl (lv_at hl 2 rfl) ?_
              obtain ⟨a15, ea, g⟩ := m_bs h; clear h; subst ea; have h := g; clear g
              obtain ⟨x16, e17, h⟩ := m_bs h
              refine m_zald (t := 6) S hK hP (m_aI_s e17) rfl dX3_attribute_68 ?_
              refine lv_if_eq (tgt := 75) S.1 S.2.1 dX3_attribute_69 (by decide) (fun c18 => ?_) (fun c18 => ?_)
              · replace h := m_t c18 h
                refine lv_aload_n S.1 S.2.1 dX3_attribute_75 rfl (lv_at hl 1 rfl) ?_
                obtain ⟨r19, e20, h⟩ := m_bs h
                refine m_get (ci := 3) (k := 13) (T := TX3) (N := 25) S (inX3 _) hK hP (m_gR_s e20) rfl (by decide) (S.2.2.2.2 (.fieldLink RX3 30 "RuleHouse2Model" "attributes" "[I") (m_mem (by decide +kernel))) rfl dX3_attribute_76 ?_
                refine lv_iconst (v := 4) S.1 S.2.1 dX3_attribute_79 (by decide) ?_
                refine lv_iload_n S.1 S.2.1 dX3_attribute_80 rfl (lv_at hl 2 rfl) ?_
                refine lv_imul S.1 S.2.1 dX3_attribute_81 ?_
                refine lv_iload_n S.1 S.2.1 dX3_attribute_82 rfl (lv_at hl 3 rfl) ?_
                refine lv_iadd S.1 S.2.1 dX3_attribute_83 ?_
                obtain ⟨a21, ea, g⟩ := m_bs h; clear h; subst ea; have h := g; clear g
                obtain ⟨x22, e23, h⟩ := m_bs h
                refine m_iald (t := 5) S hK hP (m_aI_s e23) rfl dX3_attribute_84 ?_
                refine lv_istore (i := 5) (lv' := [(5, .int x22), (4, .int 1), (0, .ref t0), (1, .int p1), (2, .int p2), (3, .int p3)]) S.1 S.2.1 dX3_attribute_85 hl (by decide) (by first | rfl | simp [m_rfc, m_catI, m_catL, m_catA]) (fun ls hl => ?_)
                refine lv_aload_n S.1 S.2.1 dX3_attribute_87 rfl (lv_at hl 2 rfl) ?_
                obtain ⟨r24, e25, h⟩ := m_bs h
                refine m_get (ci := 3) (k := 13) (T := TX3) (N := 25) S (inX3 _) hK hP (m_gR_s e25) rfl (by decide) (S.2.2.2.2 (.fieldLink RX3 30 "RuleHouse2Model" "attributes" "[I") (m_mem (by decide +kernel))) rfl dX3_attribute_88 ?_
                refine lv_iconst (v := 4) S.1 S.2.1 dX3_attribute_91 (by decide) ?_
                refine lv_iload_n S.1 S.2.1 dX3_attribute_92 rfl (lv_at hl 3 rfl) ?_
                refine lv_imul S.1 S.2.1 dX3_attribute_93 ?_
                refine lv_iload_n S.1 S.2.1 dX3_attribute_94 rfl (lv_at hl 4 rfl) ?_
                refine lv_iadd S.1 S.2.1 dX3_attribute_95 ?_
                refine lv_iload_n S.1 S.2.1 dX3_attribute_96 rfl (lv_at hl 5 rfl) ?_
                obtain ⟨a26, ea, g⟩ := m_bs h; clear h; subst ea; have h := g; clear g
                obtain ⟨s27, e28, h⟩ := m_bs h
                refine m_iast (t := 5) S hK hP hS e28 (by decide) rfl dX3_attribute_97 (fun H locs hP hS => ?_)
                refine lv_iload S.1 S.2.1 dX3_attribute_98 (lv_at hl 0 rfl) ?_
                obtain ⟨h1, h2⟩ := m_fin h; subst h1; subst h2
                exact m_iret S hr hlk hK hP hS (by decide +kernel) (by decide +kernel) dX3_attribute_100
              · replace h := m_f c18 h
                refine lv_bipush (v := (-3)) S.1 S.2.1 dX3_attribute_72 (by decide) ?_
                obtain ⟨h1, h2⟩ := m_fin h; subst h1; subst h2
                exact m_iret S hr hlk hK hP hS (by decide +kernel) (by decide +kernel) dX3_attribute_74
            · replace h := m_f c12 h
              refine lv_iload_n S.1 S.2.1 dX3_attribute_50 rfl (lv_at hl 4 rfl) ?_
              refine lv_if_lt (tgt := 60) S.1 S.2.1 dX3_attribute_51 (by decide) (fun c29 => ?_) (fun c29 => ?_)
              · replace h := m_t c29 h
                refine lv_bipush (v := (-2)) S.1 S.2.1 dX3_attribute_60 (by decide) ?_
                obtain ⟨h1, h2⟩ := m_fin h; subst h1; subst h2
                exact m_iret S hr hlk hK hP hS (by decide +kernel) (by decide +kernel) dX3_attribute_62
              · replace h := m_f c29 h
                refine lv_iload_n S.1 S.2.1 dX3_attribute_54 rfl (lv_at hl 4 rfl) ?_
                refine lv_iload S.1 S.2.1 dX3_attribute_55 (lv_at hl 0 rfl) ?_
                refine lv_icmp_le (tgt := 63) S.1 S.2.1 dX3_attribute_57 (by decide) (fun c30 => ?_) (fun c30 => ?_)
                · replace h := m_t c30 h
                  refine lv_aload_n S.1 S.2.1 dX3_attribute_63 rfl (lv_at hl 1 rfl) ?_
                  obtain ⟨r31, e32, h⟩ := m_bs h
                  refine m_get (ci := 3) (k := 21) (T := TX3) (N := 25) S (inX3 _) hK hP (m_gR_s e32) rfl (by decide) (S.2.2.2.2 (.fieldLink RX3 54 "RuleHouse2Model" "run" "[Z") (m_mem (by decide +kernel))) rfl dX3_attribute_64 ?_
                  refine lv_iload_n S.1 S.2.1 dX3_attribute_67 rfl (lv_at hl 2 rfl) ?_
                  obtain ⟨a33, ea, g⟩ := m_bs h; clear h; subst ea; have h := g; clear g
                  obtain ⟨x34, e35, h⟩ := m_bs h
                  refine m_zald (t := 6) S hK hP (m_aI_s e35) rfl dX3_attribute_68 ?_
                  refine lv_if_eq (tgt := 75) S.1 S.2.1 dX3_attribute_69 (by decide) (fun c36 => ?_) (fun c36 => ?_)
                  · replace h := m_t c36 h
                    refine lv_aload_n S.1 S.2.1 dX3_attribute_75 rfl (lv_at hl 1 rfl) ?_
                    obtain ⟨r37, e38, h⟩ := m_bs h
                    refine m_get (ci := 3) (k := 13) (T := TX3) (N := 25) S (inX3 _) hK hP (m_gR_s e38) rfl (by decide) (S.2.2.2.2 (.fieldLink RX3 30 "RuleHouse2Model" "attributes" "[I") (m_mem (by decide +kernel))) rfl dX3_attribute_76 ?_
                    refine lv_iconst (v := 4) S.1 S.2.1 dX3_attribute_79 (by decide) ?_
                    refine lv_iload_n S.1 S.2.1 dX3_attribute_80 rfl (lv_at hl 2 rfl) ?_
                    refine lv_imul S.1 S.2.1 dX3_attribute_81 ?_
                    refine lv_iload_n S.1 S.2.1 dX3_attribute_82 rfl (lv_at hl 3 rfl) ?_
                    refine lv_iadd S.1 S.2.1 dX3_attribute_83 ?_
                    obtain ⟨a39, ea, g⟩ := m_bs h; clear h; subst ea; have h := g; clear g
                    obtain ⟨x40, e41, h⟩ := m_bs h
                    refine m_iald (t := 5) S hK hP (m_aI_s e41) rfl dX3_attribute_84 ?_
                    refine lv_istore (i := 5) (lv' := [(5, .int x40), (4, .int 1), (0, .ref t0), (1, .int p1), (2, .int p2), (3, .int p3)]) S.1 S.2.1 dX3_attribute_85 hl (by decide) (by first | rfl | simp [m_rfc, m_catI, m_catL, m_catA]) (fun ls hl => ?_)
                    refine lv_aload_n S.1 S.2.1 dX3_attribute_87 rfl (lv_at hl 2 rfl) ?_
                    obtain ⟨r42, e43, h⟩ := m_bs h
                    refine m_get (ci := 3) (k := 13) (T := TX3) (N := 25) S (inX3 _) hK hP (m_gR_s e43) rfl (by decide) (S.2.2.2.2 (.fieldLink RX3 30 "RuleHouse2Model" "attributes" "[I") (m_mem (by decide +kernel))) rfl dX3_attribute_88 ?_
                    refine lv_iconst (v := 4) S.1 S.2.1 dX3_attribute_91 (by decide) ?_
                    refine lv_iload_n S.1 S.2.1 dX3_attribute_92 rfl (lv_at hl 3 rfl) ?_
                    refine lv_imul S.1 S.2.1 dX3_attribute_93 ?_
                    refine lv_iload_n S.1 S.2.1 dX3_attribute_94 rfl (lv_at hl 4 rfl) ?_
                    refine lv_iadd S.1 S.2.1 dX3_attribute_95 ?_
                    refine lv_iload_n S.1 S.2.1 dX3_attribute_96 rfl (lv_at hl 5 rfl) ?_
                    obtain ⟨a44, ea, g⟩ := m_bs h; clear h; subst ea; have h := g; clear g
                    obtain ⟨s45, e46, h⟩ := m_bs h
                    refine m_iast (t := 5) S hK hP hS e46 (by decide) rfl dX3_attribute_97 (fun H locs hP hS => ?_)
                    refine lv_iload S.1 S.2.1 dX3_attribute_98 (lv_at hl 0 rfl) ?_
                    obtain ⟨h1, h2⟩ := m_fin h; subst h1; subst h2
                    exact m_iret S hr hlk hK hP hS (by decide +kernel) (by decide +kernel) dX3_attribute_100
                  · replace h := m_f c36 h
                    refine lv_bipush (v := (-3)) S.1 S.2.1 dX3_attribute_72 (by decide) ?_
                    obtain ⟨h1, h2⟩ := m_fin h; subst h1; subst h2
                    exact m_iret S hr hlk hK hP hS (by decide +kernel) (by decide +kernel) dX3_attribute_74
                · replace h := m_f c30 h
                  refine lv_bipush (v := (-2)) S.1 S.2.1 dX3_attribute_60 (by decide) ?_
                  obtain ⟨h1, h2⟩ := m_fin h; subst h1; subst h2
                  exact m_iret S hr hlk hK hP hS (by decide +kernel) (by decide +kernel) dX3_attribute_62
          · replace h := m_t c11 h
            refine lv_iload_n S.1 S.2.1 dX3_attribute_38 rfl (lv_at hl 1 rfl) ?_
            refine lv_goto (tgt := 43) S.1 S.2.1 dX3_attribute_39 (by decide) ?_
            refine lv_istore (i := 4) (lv' := [(4, .int p1), (0, .ref t0), (1, .int p1), (2, .int p2), (3, .int p3)]) S.1 S.2.1 dX3_attribute_43 hl (by decide) (by first | rfl | simp [m_rfc, m_catI, m_catL, m_catA]) (fun ls hl => ?_)
            refine lv_iload_n S.1 S.2.1 dX3_attribute_45 rfl (lv_at hl 3 rfl) ?_
            refine lv_iconst (v := 1) S.1 S.2.1 dX3_attribute_46 (by decide) ?_
            refine lv_icmp_eq (tgt := 63) S.1 S.2.1 dX3_attribute_47 (by decide) (fun c47 => ?_) (fun c47 => ?_)
            · replace h := m_t c47 h
              refine lv_aload_n S.1 S.2.1 dX3_attribute_63 rfl (lv_at hl 1 rfl) ?_
              obtain ⟨r48, e49, h⟩ := m_bs h
              refine m_get (ci := 3) (k := 21) (T := TX3) (N := 25) S (inX3 _) hK hP (m_gR_s e49) rfl (by decide) (S.2.2.2.2 (.fieldLink RX3 54 "RuleHouse2Model" "run" "[Z") (m_mem (by decide +kernel))) rfl dX3_attribute_64 ?_
              refine lv_iload_n S.1 S.2.1 dX3_attribute_67 rfl (lv_at hl 2 rfl) ?_
              obtain ⟨a50, ea, g⟩ := m_bs h; clear h; subst ea; have h := g; clear g
              obtain ⟨x51, e52, h⟩ := m_bs h
              refine m_zald (t := 6) S hK hP (m_aI_s e52) rfl dX3_attribute_68 ?_
              refine lv_if_eq (tgt := 75) S.1 S.2.1 dX3_attribute_69 (by decide) (fun c53 => ?_) (fun c53 => ?_)
              · replace h := m_t c53 h
                refine lv_aload_n S.1 S.2.1 dX3_attribute_75 rfl (lv_at hl 1 rfl) ?_
                obtain ⟨r54, e55, h⟩ := m_bs h
                refine m_get (ci := 3) (k := 13) (T := TX3) (N := 25) S (inX3 _) hK hP (m_gR_s e55) rfl (by decide) (S.2.2.2.2 (.fieldLink RX3 30 "RuleHouse2Model" "attributes" "[I") (m_mem (by decide +kernel))) rfl dX3_attribute_76 ?_
                refine lv_iconst (v := 4) S.1 S.2.1 dX3_attribute_79 (by decide) ?_
                refine lv_iload_n S.1 S.2.1 dX3_attribute_80 rfl (lv_at hl 2 rfl) ?_
                refine lv_imul S.1 S.2.1 dX3_attribute_81 ?_
                refine lv_iload_n S.1 S.2.1 dX3_attribute_82 rfl (lv_at hl 3 rfl) ?_
                refine lv_iadd S.1 S.2.1 dX3_attribute_83 ?_
                obtain ⟨a56, ea, g⟩ := m_bs h; clear h; subst ea; have h := g; clear g
                obtain ⟨x57, e58, h⟩ := m_bs h
                refine m_iald (t := 5) S hK hP (m_aI_s e58) rfl dX3_attribute_84 ?_
                refine lv_istore (i := 5) (lv' := [(5, .int x57), (4, .int p1), (0, .ref t0), (1, .int p1), (2, .int p2), (3, .int p3)]) S.1 S.2.1 dX3_attribute_85 hl (by decide) (by first | rfl | simp [m_rfc, m_catI, m_catL, m_catA]) (fun ls hl => ?_)
                refine lv_aload_n S.1 S.2.1 dX3_attribute_87 rfl (lv_at hl 2 rfl) ?_
                obtain ⟨r59, e60, h⟩ := m_bs h
                refine m_get (ci := 3) (k := 13) (T := TX3) (N := 25) S (inX3 _) hK hP (m_gR_s e60) rfl (by decide) (S.2.2.2.2 (.fieldLink RX3 30 "RuleHouse2Model" "attributes" "[I") (m_mem (by decide +kernel))) rfl dX3_attribute_88 ?_
                refine lv_iconst (v := 4) S.1 S.2.1 dX3_attribute_91 (by decide) ?_
                refine lv_iload_n S.1 S.2.1 dX3_attribute_92 rfl (lv_at hl 3 rfl) ?_
                refine lv_imul S.1 S.2.1 dX3_attribute_93 ?_
                refine lv_iload_n S.1 S.2.1 dX3_attribute_94 rfl (lv_at hl 4 rfl) ?_
                refine lv_iadd S.1 S.2.1 dX3_attribute_95 ?_
                refine lv_iload_n S.1 S.2.1 dX3_attribute_96 rfl (lv_at hl 5 rfl) ?_
                obtain ⟨a61, ea, g⟩ := m_bs h; clear h; subst ea; have h := g; clear g
                obtain ⟨s62, e63, h⟩ := m_bs h
                refine m_iast (t := 5) S hK hP hS e63 (by decide) rfl dX3_attribute_97 (fun H locs hP hS => ?_)
                refine lv_iload S.1 S.2.1 dX3_attribute_98 (lv_at hl 0 rfl) ?_
                obtain ⟨h1, h2⟩ := m_fin h; subst h1; subst h2
                exact m_iret S hr hlk hK hP hS (by decide +kernel) (by decide +kernel) dX3_attribute_100
              · replace h := m_f c53 h
                refine lv_bipush (v := (-3)) S.1 S.2.1 dX3_attribute_72 (by decide) ?_
                obtain ⟨h1, h2⟩ := m_fin h; subst h1; subst h2
                exact m_iret S hr hlk hK hP hS (by decide +kernel) (by decide +kernel) dX3_attribute_74
            · replace h := m_f c47 h
              refine lv_iload_n S.1 S.2.1 dX3_attribute_50 rfl (lv_at hl 4 rfl) ?_
              refine lv_if_lt (tgt := 60) S.1 S.2.1 dX3_attribute_51 (by decide) (fun c64 => ?_) (fun c64 => ?_)
              · replace h := m_t c64 h
                refine lv_bipush (v := (-2)) S.1 S.2.1 dX3_attribute_60 (by decide) ?_
                obtain ⟨h1, h2⟩ := m_fin h; subst h1; subst h2
                exact m_iret S hr hlk hK hP hS (by decide +kernel) (by decide +kernel) dX3_attribute_62
              · replace h := m_f c64 h
                refine lv_iload_n S.1 S.2.1 dX3_attribute_54 rfl (lv_at hl 4 rfl) ?_
                refine lv_iload S.1 S.2.1 dX3_attribute_55 (lv_at hl 0 rfl) ?_
                refine lv_icmp_le (tgt := 63) S.1 S.2.1 dX3_attribute_57 (by decide) (fun c65 => ?_) (fun c65 => ?_)
                · replace h := m_t c65 h
                  refine lv_aload_n S.1 S.2.1 dX3_attribute_63 rfl (lv_at hl 1 rfl) ?_
                  obtain ⟨r66, e67, h⟩ := m_bs h
                  refine m_get (ci := 3) (k := 21) (T := TX3) (N := 25) S (inX3 _) hK hP (m_gR_s e67) rfl (by decide) (S.2.2.2.2 (.fieldLink RX3 54 "RuleHouse2Model" "run" "[Z") (m_mem (by decide +kernel))) rfl dX3_attribute_64 ?_
                  refine lv_iload_n S.1 S.2.1 dX3_attribute_67 rfl (lv_at hl 2 rfl) ?_
                  obtain ⟨a68, ea, g⟩ := m_bs h; clear h; subst ea; have h := g; clear g
                  obtain ⟨x69, e70, h⟩ := m_bs h
                  refine m_zald (t := 6) S hK hP (m_aI_s e70) rfl dX3_attribute_68 ?_
                  refine lv_if_eq (tgt := 75) S.1 S.2.1 dX3_attribute_69 (by decide) (fun c71 => ?_) (fun c71 => ?_)
                  · replace h := m_t c71 h
                    refine lv_aload_n S.1 S.2.1 dX3_attribute_75 rfl (lv_at hl 1 rfl) ?_
                    obtain ⟨r72, e73, h⟩ := m_bs h
                    refine m_get (ci := 3) (k := 13) (T := TX3) (N := 25) S (inX3 _) hK hP (m_gR_s e73) rfl (by decide) (S.2.2.2.2 (.fieldLink RX3 30 "RuleHouse2Model" "attributes" "[I") (m_mem (by decide +kernel))) rfl dX3_attribute_76 ?_
                    refine lv_iconst (v := 4) S.1 S.2.1 dX3_attribute_79 (by decide) ?_
                    refine lv_iload_n S.1 S.2.1 dX3_attribute_80 rfl (lv_at hl 2 rfl) ?_
                    refine lv_imul S.1 S.2.1 dX3_attribute_81 ?_
                    refine lv_iload_n S.1 S.2.1 dX3_attribute_82 rfl (lv_at hl 3 rfl) ?_
                    refine lv_iadd S.1 S.2.1 dX3_attribute_83 ?_
                    obtain ⟨a74, ea, g⟩ := m_bs h; clear h; subst ea; have h := g; clear g
                    obtain ⟨x75, e76, h⟩ := m_bs h
                    refine m_iald (t := 5) S hK hP (m_aI_s e76) rfl dX3_attribute_84 ?_
                    refine lv_istore (i := 5) (lv' := [(5, .int x75), (4, .int p1), (0, .ref t0), (1, .int p1), (2, .int p2), (3, .int p3)]) S.1 S.2.1 dX3_attribute_85 hl (by decide) (by first | rfl | simp [m_rfc, m_catI, m_catL, m_catA]) (fun ls hl => ?_)
                    refine lv_aload_n S.1 S.2.1 dX3_attribute_87 rfl (lv_at hl 2 rfl) ?_
                    obtain ⟨r77, e78, h⟩ := m_bs h
                    refine m_get (ci := 3) (k := 13) (T := TX3) (N := 25) S (inX3 _) hK hP (m_gR_s e78) rfl (by decide) (S.2.2.2.2 (.fieldLink RX3 30 "RuleHouse2Model" "attributes" "[I") (m_mem (by decide +kernel))) rfl dX3_attribute_88 ?_
                    refine lv_iconst (v := 4) S.1 S.2.1 dX3_attribute_91 (by decide) ?_
                    refine lv_iload_n S.1 S.2.1 dX3_attribute_92 rfl (lv_at hl 3 rfl) ?_
                    refine lv_imul S.1 S.2.1 dX3_attribute_93 ?_
                    refine lv_iload_n S.1 S.2.1 dX3_attribute_94 rfl (lv_at hl 4 rfl) ?_
                    refine lv_iadd S.1 S.2.1 dX3_attribute_95 ?_
                    refine lv_iload_n S.1 S.2.1 dX3_attribute_96 rfl (lv_at hl 5 rfl) ?_
                    obtain ⟨a79, ea, g⟩ := m_bs h; clear h; subst ea; have h := g; clear g
                    obtain ⟨s80, e81, h⟩ := m_bs h
                    refine m_iast (t := 5) S hK hP hS e81 (by decide) rfl dX3_attribute_97 (fun H locs hP hS => ?_)
                    refine lv_iload S.1 S.2.1 dX3_attribute_98 (lv_at hl 0 rfl) ?_
                    obtain ⟨h1, h2⟩ := m_fin h; subst h1; subst h2
                    exact m_iret S hr hlk hK hP hS (by decide +kernel) (by decide +kernel) dX3_attribute_100
                  · replace h := m_f c71 h
                    refine lv_bipush (v := (-3)) S.1 S.2.1 dX3_attribute_72 (by decide) ?_
                    obtain ⟨h1, h2⟩ := m_fin h; subst h1; subst h2
                    exact m_iret S hr hlk hK hP hS (by decide +kernel) (by decide +kernel) dX3_attribute_74
                · replace h := m_f c65 h
                  refine lv_bipush (v := (-2)) S.1 S.2.1 dX3_attribute_60 (by decide) ?_
                  obtain ⟨h1, h2⟩ := m_fin h; subst h1; subst h2
                  exact m_iret S hr hlk hK hP hS (by decide +kernel) (by decide +kernel) dX3_attribute_62
        · replace h := m_t c10 h
          refine lv_bipush (v := 20) S.1 S.2.1 dX3_attribute_28 (by decide) ?_
          refine lv_goto (tgt := 43) S.1 S.2.1 dX3_attribute_30 (by decide) ?_
          refine lv_istore (i := 4) (lv' := [(4, .int 20), (0, .ref t0), (1, .int p1), (2, .int p2), (3, .int p3)]) S.1 S.2.1 dX3_attribute_43 hl (by decide) (by first | rfl | simp [m_rfc, m_catI, m_catL, m_catA]) (fun ls hl => ?_)
          refine lv_iload_n S.1 S.2.1 dX3_attribute_45 rfl (lv_at hl 3 rfl) ?_
          refine lv_iconst (v := 1) S.1 S.2.1 dX3_attribute_46 (by decide) ?_
          refine lv_icmp_eq (tgt := 63) S.1 S.2.1 dX3_attribute_47 (by decide) (fun c82 => ?_) (fun c82 => ?_)
          · replace h := m_t c82 h
            refine lv_aload_n S.1 S.2.1 dX3_attribute_63 rfl (lv_at hl 1 rfl) ?_
            obtain ⟨r83, e84, h⟩ := m_bs h
            refine m_get (ci := 3) (k := 21) (T := TX3) (N := 25) S (inX3 _) hK hP (m_gR_s e84) rfl (by decide) (S.2.2.2.2 (.fieldLink RX3 54 "RuleHouse2Model" "run" "[Z") (m_mem (by decide +kernel))) rfl dX3_attribute_64 ?_
            refine lv_iload_n S.1 S.2.1 dX3_attribute_67 rfl (lv_at hl 2 rfl) ?_
            obtain ⟨a85, ea, g⟩ := m_bs h; clear h; subst ea; have h := g; clear g
            obtain ⟨x86, e87, h⟩ := m_bs h
            refine m_zald (t := 6) S hK hP (m_aI_s e87) rfl dX3_attribute_68 ?_
            refine lv_if_eq (tgt := 75) S.1 S.2.1 dX3_attribute_69 (by decide) (fun c88 => ?_) (fun c88 => ?_)
            · replace h := m_t c88 h
              refine lv_aload_n S.1 S.2.1 dX3_attribute_75 rfl (lv_at hl 1 rfl) ?_
              obtain ⟨r89, e90, h⟩ := m_bs h
              refine m_get (ci := 3) (k := 13) (T := TX3) (N := 25) S (inX3 _) hK hP (m_gR_s e90) rfl (by decide) (S.2.2.2.2 (.fieldLink RX3 30 "RuleHouse2Model" "attributes" "[I") (m_mem (by decide +kernel))) rfl dX3_attribute_76 ?_
              refine lv_iconst (v := 4) S.1 S.2.1 dX3_attribute_79 (by decide) ?_
              refine lv_iload_n S.1 S.2.1 dX3_attribute_80 rfl (lv_at hl 2 rfl) ?_
              refine lv_imul S.1 S.2.1 dX3_attribute_81 ?_
              refine lv_iload_n S.1 S.2.1 dX3_attribute_82 rfl (lv_at hl 3 rfl) ?_
              refine lv_iadd S.1 S.2.1 dX3_attribute_83 ?_
              obtain ⟨a91, ea, g⟩ := m_bs h; clear h; subst ea; have h := g; clear g
              obtain ⟨x92, e93, h⟩ := m_bs h
              refine m_iald (t := 5) S hK hP (m_aI_s e93) rfl dX3_attribute_84 ?_
              refine lv_istore (i := 5) (lv' := [(5, .int x92), (4, .int 20), (0, .ref t0), (1, .int p1), (2, .int p2), (3, .int p3)]) S.1 S.2.1 dX3_attribute_85 hl (by decide) (by first | rfl | simp [m_rfc, m_catI, m_catL, m_catA]) (fun ls hl => ?_)
              refine lv_aload_n S.1 S.2.1 dX3_attribute_87 rfl (lv_at hl 2 rfl) ?_
              obtain ⟨r94, e95, h⟩ := m_bs h
              refine m_get (ci := 3) (k := 13) (T := TX3) (N := 25) S (inX3 _) hK hP (m_gR_s e95) rfl (by decide) (S.2.2.2.2 (.fieldLink RX3 30 "RuleHouse2Model" "attributes" "[I") (m_mem (by decide +kernel))) rfl dX3_attribute_88 ?_
              refine lv_iconst (v := 4) S.1 S.2.1 dX3_attribute_91 (by decide) ?_
              refine lv_iload_n S.1 S.2.1 dX3_attribute_92 rfl (lv_at hl 3 rfl) ?_
              refine lv_imul S.1 S.2.1 dX3_attribute_93 ?_
              refine lv_iload_n S.1 S.2.1 dX3_attribute_94 rfl (lv_at hl 4 rfl) ?_
              refine lv_iadd S.1 S.2.1 dX3_attribute_95 ?_
              refine lv_iload_n S.1 S.2.1 dX3_attribute_96 rfl (lv_at hl 5 rfl) ?_
              obtain ⟨a96, ea, g⟩ := m_bs h; clear h; subst ea; have h := g; clear g
              obtain ⟨s97, e98, h⟩ := m_bs h
              refine m_iast (t := 5) S hK hP hS e98 (by decide) rfl dX3_attribute_97 (fun H locs hP hS => ?_)
              refine lv_iload S.1 S.2.1 dX3_attribute_98 (lv_at hl 0 rfl) ?_
              obtain ⟨h1, h2⟩ := m_fin h; subst h1; subst h2
              exact m_iret S hr hlk hK hP hS (by decide +kernel) (by decide +kernel) dX3_attribute_100
            · replace h := m_f c88 h
              refine lv_bipush (v := (-3)) S.1 S.2.1 dX3_attribute_72 (by decide) ?_
              obtain ⟨h1, h2⟩ := m_fin h; subst h1; subst h2
              exact m_iret S hr hlk hK hP hS (by decide +kernel) (by decide +kernel) dX3_attribute_74
          · replace h := m_f c82 h
            refine lv_iload_n S.1 S.2.1 dX3_attribute_50 rfl (lv_at hl 4 rfl) ?_
            refine lv_if_lt (tgt := 60) S.1 S.2.1 dX3_attribute_51 (by decide) (fun c99 => ?_) (fun c99 => ?_)
            · replace h := m_t c99 h
              refine lv_bipush (v := (-2)) S.1 S.2.1 dX3_attribute_60 (by decide) ?_
              obtain ⟨h1, h2⟩ := m_fin h; subst h1; subst h2
              exact m_iret S hr hlk hK hP hS (by decide +kernel) (by decide +kernel) dX3_attribute_62
            · replace h := m_f c99 h
              refine lv_iload_n S.1 S.2.1 dX3_attribute_54 rfl (lv_at hl 4 rfl) ?_
              refine lv_iload S.1 S.2.1 dX3_attribute_55 (lv_at hl 0 rfl) ?_
              refine lv_icmp_le (tgt := 63) S.1 S.2.1 dX3_attribute_57 (by decide) (fun c100 => ?_) (fun c100 => ?_)
              · replace h := m_t c100 h
                refine lv_aload_n S.1 S.2.1 dX3_attribute_63 rfl (lv_at hl 1 rfl) ?_
                obtain ⟨r101, e102, h⟩ := m_bs h
                refine m_get (ci := 3) (k := 21) (T := TX3) (N := 25) S (inX3 _) hK hP (m_gR_s e102) rfl (by decide) (S.2.2.2.2 (.fieldLink RX3 54 "RuleHouse2Model" "run" "[Z") (m_mem (by decide +kernel))) rfl dX3_attribute_64 ?_
                refine lv_iload_n S.1 S.2.1 dX3_attribute_67 rfl (lv_at hl 2 rfl) ?_
                obtain ⟨a103, ea, g⟩ := m_bs h; clear h; subst ea; have h := g; clear g
                obtain ⟨x104, e105, h⟩ := m_bs h
                refine m_zald (t := 6) S hK hP (m_aI_s e105) rfl dX3_attribute_68 ?_
                refine lv_if_eq (tgt := 75) S.1 S.2.1 dX3_attribute_69 (by decide) (fun c106 => ?_) (fun c106 => ?_)
                · replace h := m_t c106 h
                  refine lv_aload_n S.1 S.2.1 dX3_attribute_75 rfl (lv_at hl 1 rfl) ?_
                  obtain ⟨r107, e108, h⟩ := m_bs h
                  refine m_get (ci := 3) (k := 13) (T := TX3) (N := 25) S (inX3 _) hK hP (m_gR_s e108) rfl (by decide) (S.2.2.2.2 (.fieldLink RX3 30 "RuleHouse2Model" "attributes" "[I") (m_mem (by decide +kernel))) rfl dX3_attribute_76 ?_
                  refine lv_iconst (v := 4) S.1 S.2.1 dX3_attribute_79 (by decide) ?_
                  refine lv_iload_n S.1 S.2.1 dX3_attribute_80 rfl (lv_at hl 2 rfl) ?_
                  refine lv_imul S.1 S.2.1 dX3_attribute_81 ?_
                  refine lv_iload_n S.1 S.2.1 dX3_attribute_82 rfl (lv_at hl 3 rfl) ?_
                  refine lv_iadd S.1 S.2.1 dX3_attribute_83 ?_
                  obtain ⟨a109, ea, g⟩ := m_bs h; clear h; subst ea; have h := g; clear g
                  obtain ⟨x110, e111, h⟩ := m_bs h
                  refine m_iald (t := 5) S hK hP (m_aI_s e111) rfl dX3_attribute_84 ?_
                  refine lv_istore (i := 5) (lv' := [(5, .int x110), (4, .int 20), (0, .ref t0), (1, .int p1), (2, .int p2), (3, .int p3)]) S.1 S.2.1 dX3_attribute_85 hl (by decide) (by first | rfl | simp [m_rfc, m_catI, m_catL, m_catA]) (fun ls hl => ?_)
                  refine lv_aload_n S.1 S.2.1 dX3_attribute_87 rfl (lv_at hl 2 rfl) ?_
                  obtain ⟨r112, e113, h⟩ := m_bs h
                  refine m_get (ci := 3) (k := 13) (T := TX3) (N := 25) S (inX3 _) hK hP (m_gR_s e113) rfl (by decide) (S.2.2.2.2 (.fieldLink RX3 30 "RuleHouse2Model" "attributes" "[I") (m_mem (by decide +kernel))) rfl dX3_attribute_88 ?_
                  refine lv_iconst (v := 4) S.1 S.2.1 dX3_attribute_91 (by decide) ?_
                  refine lv_iload_n S.1 S.2.1 dX3_attribute_92 rfl (lv_at hl 3 rfl) ?_
                  refine lv_imul S.1 S.2.1 dX3_attribute_93 ?_
                  refine lv_iload_n S.1 S.2.1 dX3_attribute_94 rfl (lv_at hl 4 rfl) ?_
                  refine lv_iadd S.1 S.2.1 dX3_attribute_95 ?_
                  refine lv_iload_n S.1 S.2.1 dX3_attribute_96 rfl (lv_at hl 5 rfl) ?_
                  obtain ⟨a114, ea, g⟩ := m_bs h; clear h; subst ea; have h := g; clear g
                  obtain ⟨s115, e116, h⟩ := m_bs h
                  refine m_iast (t := 5) S hK hP hS e116 (by decide) rfl dX3_attribute_97 (fun H locs hP hS => ?_)
                  refine lv_iload S.1 S.2.1 dX3_attribute_98 (lv_at hl 0 rfl) ?_
                  obtain ⟨h1, h2⟩ := m_fin h; subst h1; subst h2
                  exact m_iret S hr hlk hK hP hS (by decide +kernel) (by decide +kernel) dX3_attribute_100
                · replace h := m_f c106 h
                  refine lv_bipush (v := (-3)) S.1 S.2.1 dX3_attribute_72 (by decide) ?_
                  obtain ⟨h1, h2⟩ := m_fin h; subst h1; subst h2
                  exact m_iret S hr hlk hK hP hS (by decide +kernel) (by decide +kernel) dX3_attribute_74
              · replace h := m_f c100 h
                refine lv_bipush (v := (-2)) S.1 S.2.1 dX3_attribute_60 (by decide) ?_
                obtain ⟨h1, h2⟩ := m_fin h; subst h1; subst h2
                exact m_iret S hr hlk hK hP hS (by decide +kernel) (by decide +kernel) dX3_attribute_62
      · replace h := m_f c9 h
        refine lv_iconst (v := (-1)) S.1 S.2.1 dX3_attribute_22 (by decide) ?_
        obtain ⟨h1, h2⟩ := m_fin h; subst h1; subst h2
        exact m_iret S hr hlk hK hP hS (by decide +kernel) (by decide +kernel) dX3_attribute_23
end
section
def f_X3_fail_L49 : Nat → Int32 → Nat → Int32 → Int32 → Int32 → Int32 → MS → Option (Unit × MS)
  | 0, _, _, _, _, _, _, _ => none
  | f + 1, q5, q0, q1, q2, q3, q4, s0 =>
    if 3 ≤ q5 then
      some ((), s0)
    else
      (m_gR s0 3 q0 22).bind fun r31 =>
      r31.bind fun a33 =>
      (m_ap s0 6 a33 ((3 * q1) + q5) (.int 0)).bind fun s34 =>
      f_X3_fail_L49 f (q5 + 1) q0 q1 q2 q3 q4 s34
def f_X3_fail (t0 : Nat) (p1 : Int32) (p2 : Int32) (p3 : Int32) (p4 : Int32) (s0 : MS) : Option (Unit × MS) :=
  (m_gR s0 3 t0 14).bind fun r1 =>
  r1.bind fun a3 =>
  (m_ap s0 5 a3 p1 (.int p2)).bind fun s4 =>
  (m_gR s4 3 t0 15).bind fun r6 =>
  r6.bind fun a8 =>
  (m_ap s4 5 a8 p1 (.int p3)).bind fun s9 =>
  (m_gR s9 3 t0 16).bind fun r11 =>
  r11.bind fun a13 =>
  (m_ap s9 5 a13 p1 (.int (p4 + 1))).bind fun s14 =>
  (m_gI s14 3 t0 5).bind fun x16 =>
  (m_gR s14 3 t0 17).bind fun r18 =>
  r18.bind fun a20 =>
  (m_aI s14 5 a20 p1).bind fun x21 =>
  (m_p s14 3 t0 5 (.int (x16 - x21))).bind fun s23 =>
  (m_gR s23 3 t0 17).bind fun r25 =>
  r25.bind fun a27 =>
  (m_ap s23 5 a27 p1 (.int 0)).bind fun s28 =>
  f_X3_fail_L49 64 0 t0 p1 p2 p3 p4 s28
set_option maxHeartbeats 4000000 in
set_option maxRecDepth 100000 in
theorem w_X3_fail_L49 {p : Program} {l : Launch} {e : Env} {s : State} {m : MethodId} {args : Array Value} {below : List Frame} {meth : Method} {c : Code} (D : va_G) (tc : Nat → ClassId) (b : Nat) (S : CallFix p m c cX3_fail 6 s args wsX3_fail RX3) (hr : meth.sig.returnType = none) (hlk : meth.locks = false) (hK : va_K D vwCl (m_tys tc) s) :
    ∀ (f : Nat) (q5 : Int32) (q0 : Nat) (q1 : Int32) (q2 : Int32) (q3 : Int32) (q4 : Int32) (s0 st' : MS) (r : Unit) (h : f_X3_fail_L49 f q5 q0 q1 q2 q3 q4 s0 = some (r, st')) (H : Heap) (locs : List Loc) (ls : Array Slot) (hP : mw D vwCl (m_tys tc) b s0 H) (hS : va_S (m_A b) s.heap H locs) (hl : lv_has ls 6 [(5, .int q5), (0, .ref q0), (1, .int q1), (2, .int q2), (3, .int q3), (4, .int q4)]), W p l e { frames := 0, cells := 0, slots := 0, locals := 0 } s m args below meth c H locs 0 0 (MQ below (m_Q D vwCl (m_tys tc) b none st') args s 0 0 (m_A b)) (F0 m 49 ls []) := by
  intro f
  induction f with
  | zero =>
    intro q5 q0 q1 q2 q3 q4 s0 st' r h
    cases h
  | succ f ih =>
    intro q5 q0 q1 q2 q3 q4 s0 st' r h H locs ls hP hS hl
    rw [f_X3_fail_L49] at h
    refine lv_iload S.1 S.2.1 dX3_fail_49 (lv_at hl 0 rfl) ?_
    refine lv_iconst (v := 3) S.1 S.2.1 dX3_fail_51 (by decide) ?_
    refine lv_icmp_ge (tgt := 73) S.1 S.2.1 dX3_fail_52 (by decide) (fun c30 => ?_) (fun c30 => ?_)
    · replace h := m_t c30 h
      obtain ⟨h1, h2⟩ := m_fin h; subst h1; subst h2
      exact m_vret S hr hlk hK hP hS (by decide +kernel) (by decide +kernel) dX3_fail_73
    · replace h := m_f c30 h
      refine lv_aload_n S.1 S.2.1 dX3_fail_55 rfl (lv_at hl 1 rfl) ?_
      obtain ⟨r31, e32, h⟩ := m_bs h
      refine m_get (ci := 3) (k := 22) (T := TX3) (N := 25) S (inX3 _) hK hP (m_gR_s e32) rfl (by decide) (S.2.2.2.2 (.fieldLink RX3 57 "RuleHouse2Model" "has" "[Z") (m_mem (by decide +kernel))) rfl dX3_fail_56 ?_
      refine lv_iconst (v := 3) S.1 S.2.1 dX3_fail_59 (by decide) ?_
      refine lv_iload_n S.1 S.2.1 dX3_fail_60 rfl (lv_at hl 2 rfl) ?_
      refine lv_imul S.1 S.2.1 dX3_fail_61 ?_
      refine lv_iload S.1 S.2.1 dX3_fail_62 (lv_at hl 0 rfl) ?_
      refine lv_iadd S.1 S.2.1 dX3_fail_64 ?_
      refine lv_iconst (v := 0) S.1 S.2.1 dX3_fail_65 (by decide) ?_
      obtain ⟨a33, ea, g⟩ := m_bs h; clear h; subst ea; have h := g; clear g
      obtain ⟨s34, e35, h⟩ := m_bs h
      refine m_zast (t := 6) S hK hP hS e35 (by decide) rfl (by decide) dX3_fail_66 (fun H locs hP hS => ?_)
      refine lv_iinc (v := q5 + 1) (lv' := [(5, .int (q5 + 1)), (0, .ref q0), (1, .int q1), (2, .int q2), (3, .int q3), (4, .int q4)]) S.1 S.2.1 dX3_fail_67 hl (k := 0) rfl rfl (by decide) (by first | rfl | simp [m_rfc, m_catI, m_catL, m_catA]) (fun ls hl => ?_)
      refine lv_goto (tgt := 49) S.1 S.2.1 dX3_fail_70 (by decide) ?_
      exact ih (q5 + 1) q0 q1 q2 q3 q4 _ _ _ h _ _ _ hP hS (lv_sub hl [0, 1, 2, 3, 4, 5] rfl)
set_option maxHeartbeats 4000000 in
set_option maxRecDepth 100000 in
theorem c_X3_fail (l : Launch) (D : va_G) (tc : Nat → ClassId) (b : Nat) (t0 : Nat) (p1 : Int32) (p2 : Int32) (p3 : Int32) (p4 : Int32) (s0 st' : MS) (r : Unit) (h : f_X3_fail t0 p1 p2 p3 p4 s0 = some (r, st')) : Met l yX3_fail wsX3_fail ({ frames := 0, cells := 0, slots := 0, locals := 0 }) (m_Pc D vwCl (m_tys tc) b s0 [.ref t0, .int p1, .int p2, .int p3, .int p4]) (m_Q D vwCl (m_tys tc) b none st') 0 0 (m_A b) := by
  unfold f_X3_fail at h
  refine m_met (cc := cX3_fail) (maxL := 6) (ret := none) (by decide) rfl (by first | exact Nat.le_of_ble_eq_true rfl | simp [lg_sl, m_rfc, m_catI, m_catL, m_catA]) ?_
  intro p e s m below meth c ls S hr hlk hnm hK hP hl hS
  replace hl : lv_has ls 6 [(0, .ref t0), (1, .int p1), (2, .int p2), (3, .int p3), (4, .int p4)] := by first | exact hl | simpa [lv_args, m_rfc, m_catI, m_catL, m_catA] using hl
  refine lv_aload_n S.1 S.2.1 dX3_fail_0 rfl (lv_at hl 0 rfl) ?_
  obtain ⟨r1, e2, h⟩ := m_bs h
  refine m_get (ci := 3) (k := 14) (T := TX3) (N := 25) S (inX3 _) hK hP (m_gR_s e2) rfl (by decide) (S.2.2.2.2 (.fieldLink RX3 33 "RuleHouse2Model" "failure" "[I") (m_mem (by decide +kernel))) rfl dX3_fail_1 ?_
  refine lv_iload_n S.1 S.2.1 dX3_fail_4 rfl (lv_at hl 1 rfl) ?_
  refine lv_iload_n S.1 S.2.1 dX3_fail_5 rfl (lv_at hl 2 rfl) ?_
  obtain ⟨a3, ea, g⟩ := m_bs h; clear h; subst ea; have h := g; clear g
  obtain ⟨s4, e5, h⟩ := m_bs h
  refine m_iast (t := 5) S hK hP hS e5 (by decide) rfl dX3_fail_6 (fun H locs hP hS => ?_)
  refine lv_aload_n S.1 S.2.1 dX3_fail_7 rfl (lv_at hl 0 rfl) ?_
  obtain ⟨r6, e7, h⟩ := m_bs h
  refine m_get (ci := 3) (k := 15) (T := TX3) (N := 25) S (inX3 _) hK hP (m_gR_s e7) rfl (by decide) (S.2.2.2.2 (.fieldLink RX3 36 "RuleHouse2Model" "bit" "[I") (m_mem (by decide +kernel))) rfl dX3_fail_8 ?_
  refine lv_iload_n S.1 S.2.1 dX3_fail_11 rfl (lv_at hl 1 rfl) ?_
  refine lv_iload_n S.1 S.2.1 dX3_fail_12 rfl (lv_at hl 3 rfl) ?_
  obtain ⟨a8, ea, g⟩ := m_bs h; clear h; subst ea; have h := g; clear g
  obtain ⟨s9, e10, h⟩ := m_bs h
  refine m_iast (t := 5) S hK hP hS e10 (by decide) rfl dX3_fail_13 (fun H locs hP hS => ?_)
  refine lv_aload_n S.1 S.2.1 dX3_fail_14 rfl (lv_at hl 0 rfl) ?_
  obtain ⟨r11, e12, h⟩ := m_bs h
  refine m_get (ci := 3) (k := 16) (T := TX3) (N := 25) S (inX3 _) hK hP (m_gR_s e12) rfl (by decide) (S.2.2.2.2 (.fieldLink RX3 39 "RuleHouse2Model" "began" "[I") (m_mem (by decide +kernel))) rfl dX3_fail_15 ?_
  refine lv_iload_n S.1 S.2.1 dX3_fail_18 rfl (lv_at hl 1 rfl) ?_
  refine lv_iload S.1 S.2.1 dX3_fail_19 (lv_at hl 4 rfl) ?_
  refine lv_iconst (v := 1) S.1 S.2.1 dX3_fail_21 (by decide) ?_
  refine lv_iadd S.1 S.2.1 dX3_fail_22 ?_
  obtain ⟨a13, ea, g⟩ := m_bs h; clear h; subst ea; have h := g; clear g
  obtain ⟨s14, e15, h⟩ := m_bs h
  refine m_iast (t := 5) S hK hP hS e15 (by decide) rfl dX3_fail_23 (fun H locs hP hS => ?_)
  refine lv_aload_n S.1 S.2.1 dX3_fail_24 rfl (lv_at hl 0 rfl) ?_
  refine lv_dup S.1 S.2.1 dX3_fail_25 rfl ?_
  obtain ⟨x16, e17, h⟩ := m_bs h
  refine m_get (ci := 3) (k := 5) (T := TX3) (N := 25) S (inX3 _) hK hP (m_gI_s e17) rfl (by decide) (S.2.2.2.2 (.fieldLink RX3 102 "RuleHouse2Model" "actions" "I") (m_mem (by decide +kernel))) rfl dX3_fail_26 ?_
  refine lv_aload_n S.1 S.2.1 dX3_fail_29 rfl (lv_at hl 0 rfl) ?_
  obtain ⟨r18, e19, h⟩ := m_bs h
  refine m_get (ci := 3) (k := 17) (T := TX3) (N := 25) S (inX3 _) hK hP (m_gR_s e19) rfl (by decide) (S.2.2.2.2 (.fieldLink RX3 42 "RuleHouse2Model" "mine" "[I") (m_mem (by decide +kernel))) rfl dX3_fail_30 ?_
  refine lv_iload_n S.1 S.2.1 dX3_fail_33 rfl (lv_at hl 1 rfl) ?_
  obtain ⟨a20, ea, g⟩ := m_bs h; clear h; subst ea; have h := g; clear g
  obtain ⟨x21, e22, h⟩ := m_bs h
  refine m_iald (t := 5) S hK hP (m_aI_s e22) rfl dX3_fail_34 ?_
  refine lv_isub S.1 S.2.1 dX3_fail_35 ?_
  obtain ⟨s23, e24, h⟩ := m_bs h
  refine m_put (ci := 3) (k := 5) (T := TX3) (N := 25) (v := .int (x16 - x21)) (ty := .int) S (inX3 _) tyX3 tX3 nX3 hK hP hS e24 rfl (by decide) (S.2.2.2.2 (.fieldLink RX3 102 "RuleHouse2Model" "actions" "I") (m_mem (by decide +kernel))) rfl rfl (by decide +kernel) rfl rfl dX3_fail_36 (fun H locs hP hS => ?_)
  refine lv_aload_n S.1 S.2.1 dX3_fail_39 rfl (lv_at hl 0 rfl) ?_
  obtain ⟨r25, e26, h⟩ := m_bs h
  refine m_get (ci := 3) (k := 17) (T := TX3) (N := 25) S (inX3 _) hK hP (m_gR_s e26) rfl (by decide) (S.2.2.2.2 (.fieldLink RX3 42 "RuleHouse2Model" "mine" "[I") (m_mem (by decide +kernel))) rfl dX3_fail_40 ?_
  refine lv_iload_n S.1 S.2.1 dX3_fail_43 rfl (lv_at hl 1 rfl) ?_
  refine lv_iconst (v := 0) S.1 S.2.1 dX3_fail_44 (by decide) ?_
  obtain ⟨a27, ea, g⟩ := m_bs h; clear h; subst ea; have h := g; clear g
  obtain ⟨s28, e29, h⟩ := m_bs h
  refine m_iast (t := 5) S hK hP hS e29 (by decide) rfl dX3_fail_45 (fun H locs hP hS => ?_)
  refine lv_iconst (v := 0) S.1 S.2.1 dX3_fail_46 (by decide) ?_
  refine lv_istore (i := 5) (lv' := [(5, .int 0), (0, .ref t0), (1, .int p1), (2, .int p2), (3, .int p3), (4, .int p4)]) S.1 S.2.1 dX3_fail_47 hl (by decide) (by first | rfl | simp [m_rfc, m_catI, m_catL, m_catA]) (fun ls hl => ?_)
  exact w_X3_fail_L49 D tc b S hr hlk hK 64 0 t0 p1 p2 p3 p4 _ _ _ h _ _ _ hP hS (lv_sub hl [0, 1, 2, 3, 4, 5] rfl)

def f_X3_give (t0 : Nat) (p1 : Int32) (p2 : Int32) (p3 : Int32) (s0 : MS) : Option (Unit × MS) :=
  (m_gR s0 3 t0 20).bind fun r1 =>
  r1.bind fun a3 =>
  (m_ap s0 5 a3 ((3 * p1) + p2) (.int p3)).bind fun s4 =>
  (m_gR s4 3 t0 22).bind fun r6 =>
  r6.bind fun a8 =>
  (m_ap s4 6 a8 ((3 * p1) + p2) (.int 1)).bind fun s9 =>
  some ((), s9)
set_option maxHeartbeats 4000000 in
set_option maxRecDepth 100000 in
theorem c_X3_give (l : Launch) (D : va_G) (tc : Nat → ClassId) (b : Nat) (t0 : Nat) (p1 : Int32) (p2 : Int32) (p3 : Int32) (s0 st' : MS) (r : Unit) (h : f_X3_give t0 p1 p2 p3 s0 = some (r, st')) : Met l yX3_give wsX3_give ({ frames := 0, cells := 0, slots := 0, locals := 0 }) (m_Pc D vwCl (m_tys tc) b s0 [.ref t0, .int p1, .int p2, .int p3]) (m_Q D vwCl (m_tys tc) b none st') 0 0 (m_A b) := by
  unfold f_X3_give at h
  refine m_met (cc := cX3_give) (maxL := 4) (ret := none) (by decide) rfl (by first | exact Nat.le_of_ble_eq_true rfl | simp [lg_sl, m_rfc, m_catI, m_catL, m_catA]) ?_
  intro p e s m below meth c ls S hr hlk hnm hK hP hl hS
  replace hl : lv_has ls 4 [(0, .ref t0), (1, .int p1), (2, .int p2), (3, .int p3)] := by first | exact hl | simpa [lv_args, m_rfc, m_catI, m_catL, m_catA] using hl
  refine lv_aload_n S.1 S.2.1 dX3_give_0 rfl (lv_at hl 0 rfl) ?_
  obtain ⟨r1, e2, h⟩ := m_bs h
  refine m_get (ci := 3) (k := 20) (T := TX3) (N := 25) S (inX3 _) hK hP (m_gR_s e2) rfl (by decide) (S.2.2.2.2 (.fieldLink RX3 51 "RuleHouse2Model" "provider" "[I") (m_mem (by decide +kernel))) rfl dX3_give_1 ?_
  refine lv_iconst (v := 3) S.1 S.2.1 dX3_give_4 (by decide) ?_
  refine lv_iload_n S.1 S.2.1 dX3_give_5 rfl (lv_at hl 1 rfl) ?_
  refine lv_imul S.1 S.2.1 dX3_give_6 ?_
  refine lv_iload_n S.1 S.2.1 dX3_give_7 rfl (lv_at hl 2 rfl) ?_
  refine lv_iadd S.1 S.2.1 dX3_give_8 ?_
  refine lv_iload_n S.1 S.2.1 dX3_give_9 rfl (lv_at hl 3 rfl) ?_
  obtain ⟨a3, ea, g⟩ := m_bs h; clear h; subst ea; have h := g; clear g
  obtain ⟨s4, e5, h⟩ := m_bs h
  refine m_iast (t := 5) S hK hP hS e5 (by decide) rfl dX3_give_10 (fun H locs hP hS => ?_)
  refine lv_aload_n S.1 S.2.1 dX3_give_11 rfl (lv_at hl 0 rfl) ?_
  obtain ⟨r6, e7, h⟩ := m_bs h
  refine m_get (ci := 3) (k := 22) (T := TX3) (N := 25) S (inX3 _) hK hP (m_gR_s e7) rfl (by decide) (S.2.2.2.2 (.fieldLink RX3 57 "RuleHouse2Model" "has" "[Z") (m_mem (by decide +kernel))) rfl dX3_give_12 ?_
  refine lv_iconst (v := 3) S.1 S.2.1 dX3_give_15 (by decide) ?_
  refine lv_iload_n S.1 S.2.1 dX3_give_16 rfl (lv_at hl 1 rfl) ?_
  refine lv_imul S.1 S.2.1 dX3_give_17 ?_
  refine lv_iload_n S.1 S.2.1 dX3_give_18 rfl (lv_at hl 2 rfl) ?_
  refine lv_iadd S.1 S.2.1 dX3_give_19 ?_
  refine lv_iconst (v := 1) S.1 S.2.1 dX3_give_20 (by decide) ?_
  obtain ⟨a8, ea, g⟩ := m_bs h; clear h; subst ea; have h := g; clear g
  obtain ⟨s9, e10, h⟩ := m_bs h
  refine m_zast (t := 6) S hK hP hS e10 (by decide) rfl (by decide) dX3_give_21 (fun H locs hP hS => ?_)
  obtain ⟨h1, h2⟩ := m_fin h; subst h1; subst h2
  exact m_vret S hr hlk hK hP hS (by decide +kernel) (by decide +kernel) dX3_give_22

def f_X3_step (t0 : Nat) (p1 : Int32) (s0 : MS) : Option (Int32 × MS) :=
  (m_gR s0 3 t0 18).bind fun r1 =>
  r1.bind fun a3 =>
  (m_aI s0 5 a3 p1).bind fun x4 =>
  (m_gI s0 3 t0 1).bind fun x6 =>
  if x4 = x6 then
    some (0, s0)
  else
    (m_gR s0 3 t0 18).bind fun r9 =>
    r9.bind fun a11 =>
    (m_aI s0 5 a11 p1).bind fun x12 =>
    (m_ap s0 5 a11 p1 (.int (x12 + 1))).bind fun s14 =>
    some (1, s14)
set_option maxHeartbeats 4000000 in
set_option maxRecDepth 100000 in
theorem c_X3_step (l : Launch) (D : va_G) (tc : Nat → ClassId) (b : Nat) (t0 : Nat) (p1 : Int32) (s0 st' : MS) (r : Int32) (h : f_X3_step t0 p1 s0 = some (r, st')) : Met l yX3_step wsX3_step ({ frames := 0, cells := 0, slots := 0, locals := 0 }) (m_Pc D vwCl (m_tys tc) b s0 [.ref t0, .int p1]) (m_Q D vwCl (m_tys tc) b (some (.int r)) st') 0 0 (m_A b) := by
  unfold f_X3_step at h
  refine m_met (cc := cX3_step) (maxL := 2) (ret := (some .boolean)) (by decide) rfl (by first | exact Nat.le_of_ble_eq_true rfl | simp [lg_sl, m_rfc, m_catI, m_catL, m_catA]) ?_
  intro p e s m below meth c ls S hr hlk hnm hK hP hl hS
  replace hl : lv_has ls 2 [(0, .ref t0), (1, .int p1)] := by first | exact hl | simpa [lv_args, m_rfc, m_catI, m_catL, m_catA] using hl
  refine lv_aload_n S.1 S.2.1 dX3_step_0 rfl (lv_at hl 0 rfl) ?_
  obtain ⟨r1, e2, h⟩ := m_bs h
  refine m_get (ci := 3) (k := 18) (T := TX3) (N := 25) S (inX3 _) hK hP (m_gR_s e2) rfl (by decide) (S.2.2.2.2 (.fieldLink RX3 45 "RuleHouse2Model" "steps" "[I") (m_mem (by decide +kernel))) rfl dX3_step_1 ?_
  refine lv_iload_n S.1 S.2.1 dX3_step_4 rfl (lv_at hl 1 rfl) ?_
  obtain ⟨a3, ea, g⟩ := m_bs h; clear h; subst ea; have h := g; clear g
  obtain ⟨x4, e5, h⟩ := m_bs h
  refine m_iald (t := 5) S hK hP (m_aI_s e5) rfl dX3_step_5 ?_
  refine lv_aload_n S.1 S.2.1 dX3_step_6 rfl (lv_at hl 0 rfl) ?_
  obtain ⟨x6, e7, h⟩ := m_bs h
  refine m_get (ci := 3) (k := 1) (T := TX3) (N := 25) S (inX3 _) hK hP (m_gI_s e7) rfl (by decide) (S.2.2.2.2 (.fieldLink RX3 67 "RuleHouse2Model" "most" "I") (m_mem (by decide +kernel))) rfl dX3_step_7 ?_
  refine lv_icmp_ne (tgt := 15) S.1 S.2.1 dX3_step_10 (by decide) (fun c8 => ?_) (fun c8 => ?_)
  · replace h := m_f c8 h
    refine lv_aload_n S.1 S.2.1 dX3_step_15 rfl (lv_at hl 0 rfl) ?_
    obtain ⟨r9, e10, h⟩ := m_bs h
    refine m_get (ci := 3) (k := 18) (T := TX3) (N := 25) S (inX3 _) hK hP (m_gR_s e10) rfl (by decide) (S.2.2.2.2 (.fieldLink RX3 45 "RuleHouse2Model" "steps" "[I") (m_mem (by decide +kernel))) rfl dX3_step_16 ?_
    refine lv_iload_n S.1 S.2.1 dX3_step_19 rfl (lv_at hl 1 rfl) ?_
    refine lv_dup2_11 S.1 S.2.1 dX3_step_20 rfl (m_rfc _) ?_
    obtain ⟨a11, ea, g⟩ := m_bs h; clear h; subst ea; have h := g; clear g
    obtain ⟨x12, e13, h⟩ := m_bs h
    refine m_iald (t := 5) S hK hP (m_aI_s e13) rfl dX3_step_21 ?_
    refine lv_iconst (v := 1) S.1 S.2.1 dX3_step_22 (by decide) ?_
    refine lv_iadd S.1 S.2.1 dX3_step_23 ?_
    obtain ⟨s14, e15, h⟩ := m_bs h
    refine m_iast (t := 5) S hK hP hS e15 (by decide) rfl dX3_step_24 (fun H locs hP hS => ?_)
    refine lv_iconst (v := 1) S.1 S.2.1 dX3_step_25 (by decide) ?_
    obtain ⟨h1, h2⟩ := m_fin h; subst h1; subst h2
    exact m_zret S hr hlk hK hP hS (by decide) (by decide +kernel) (by decide +kernel) dX3_step_26
  · replace h := m_t c8 h
    refine lv_iconst (v := 0) S.1 S.2.1 dX3_step_13 (by decide) ?_
    obtain ⟨h1, h2⟩ := m_fin h; subst h1; subst h2
    exact m_zret S hr hlk hK hP hS (by decide) (by decide +kernel) (by decide +kernel) dX3_step_14

def f_X3_act_L2 : Nat → Int32 → Nat → Int32 → Int32 → MS → Option (Int32 × MS)
  | 0, _, _, _, _, _ => none
  | f + 1, q3, q0, q1, q2, s0 =>
    if q2 ≤ q3 then
      some (0, s0)
    else
      (m_is s0 3 q0).bind fun _ =>
      m_b (f_X3_step q0 q1 s0) fun x2 s3 =>
      if x2 = 0 then
        some (5, s3)
      else
        (m_gI s3 3 q0 5).bind fun x7 =>
        if x7 = 400 then
          some (7, s3)
        else
          (m_gR s3 3 q0 23).bind fun r10 =>
          (m_gI s3 3 q0 5).bind fun x12 =>
          r10.bind fun a14 =>
          (m_ap s3 5 a14 x12 (.int q1)).bind fun s15 =>
          (m_gR s15 3 q0 24).bind fun r17 =>
          (m_gI s15 3 q0 5).bind fun x19 =>
          (m_gR s15 3 q0 17).bind fun r21 =>
          r21.bind fun a23 =>
          (m_aI s15 5 a23 q1).bind fun x24 =>
          r17.bind fun a26 =>
          (m_ap s15 5 a26 x19 (.int x24)).bind fun s27 =>
          (m_gR s27 3 q0 17).bind fun r29 =>
          r29.bind fun a31 =>
          (m_aI s27 5 a31 q1).bind fun x32 =>
          (m_ap s27 5 a31 q1 (.int (x32 + 1))).bind fun s34 =>
          (m_gI s34 3 q0 5).bind fun x36 =>
          (m_p s34 3 q0 5 (.int (x36 + 1))).bind fun s38 =>
          f_X3_act_L2 f (q3 + 1) q0 q1 q2 s38
def f_X3_act (t0 : Nat) (p1 : Int32) (p2 : Int32) (s0 : MS) : Option (Int32 × MS) :=
  f_X3_act_L2 64 0 t0 p1 p2 s0
set_option maxHeartbeats 4000000 in
set_option maxRecDepth 100000 in
theorem w_X3_act_L2 {p : Program} {l : Launch} {e : Env} {s : State} {m : MethodId} {args : Array Value} {below : List Frame} {meth : Method} {c : Code} (D : va_G) (tc : Nat → ClassId) (b : Nat) (S : CallFix p m c cX3_act 4 s args wsX3_act RX3) (hr : meth.sig.returnType = (some .int)) (hlk : meth.locks = false) (hK : va_K D vwCl (m_tys tc) s) :
    ∀ (f : Nat) (q3 : Int32) (q0 : Nat) (q1 : Int32) (q2 : Int32) (s0 st' : MS) (r : Int32) (h : f_X3_act_L2 f q3 q0 q1 q2 s0 = some (r, st')) (H : Heap) (locs : List Loc) (ls : Array Slot) (hP : mw D vwCl (m_tys tc) b s0 H) (hS : va_S (m_A b) s.heap H locs) (hl : lv_has ls 4 [(3, .int q3), (0, .ref q0), (1, .int q1), (2, .int q2)]), W p l e { frames := 1, cells := 0, slots := 0, locals := 21 } s m args below meth c H locs 0 0 (MQ below (m_Q D vwCl (m_tys tc) b (some (.int r)) st') args s 0 0 (m_A b)) (F0 m 2 ls []) := by
  intro f
  induction f with
  | zero =>
    intro q3 q0 q1 q2 s0 st' r h
    cases h
  | succ f ih =>
    intro q3 q0 q1 q2 s0 st' r h H locs ls hP hS hl
    rw [f_X3_act_L2] at h
    refine lv_iload_n S.1 S.2.1 dX3_act_2 rfl (lv_at hl 0 rfl) ?_
    refine lv_iload_n S.1 S.2.1 dX3_act_3 rfl (lv_at hl 3 rfl) ?_
    refine lv_icmp_ge (tgt := 81) S.1 S.2.1 dX3_act_4 (by decide) (fun c1 => ?_) (fun c1 => ?_)
    · replace h := m_t c1 h
      refine lv_iconst (v := 0) S.1 S.2.1 dX3_act_81 (by decide) ?_
      obtain ⟨h1, h2⟩ := m_fin h; subst h1; subst h2
      exact m_iret S hr hlk hK hP hS (by decide +kernel) (by decide +kernel) dX3_act_82
    · replace h := m_f c1 h
      refine lv_aload_n S.1 S.2.1 dX3_act_7 rfl (lv_at hl 1 rfl) ?_
      refine lv_iload_n S.1 S.2.1 dX3_act_8 rfl (lv_at hl 2 rfl) ?_
      obtain ⟨_, k5, h⟩ := m_bs h
      obtain ⟨x2, s3, e4, h⟩ := m_b_s h
      refine m_calli (va_runV (As := [.int q1]) (rest := []) S (c_X3_step l D tc b q0 q1 _ _ _ e4) (cwV 1 S.2.2.2.2 (m_wV kX3_step (by decide +kernel)) rfl rfl rfl (by decide +kernel) ⟨by decide +kernel, by decide +kernel⟩) (m_preV hK hP (m_is_s k5) rfl) rfl rfl hl.1 rfl (lv_room (by first | decide | simp [m_rfc, m_catI, m_catL, m_catA])) dX3_act_9 ⟨by decide +kernel, by decide +kernel⟩) hS (fun H locs hP hS => ?_)
      refine lv_if_ne (tgt := 17) S.1 S.2.1 dX3_act_12 (by decide) (fun c6 => ?_) (fun c6 => ?_)
      · replace h := m_f c6 h
        refine lv_aload_n S.1 S.2.1 dX3_act_17 rfl (lv_at hl 1 rfl) ?_
        obtain ⟨x7, e8, h⟩ := m_bs h
        refine m_get (ci := 3) (k := 5) (T := TX3) (N := 25) S (inX3 _) hK hP (m_gI_s e8) rfl (by decide) (S.2.2.2.2 (.fieldLink RX3 102 "RuleHouse2Model" "actions" "I") (m_mem (by decide +kernel))) rfl dX3_act_18 ?_
        refine lv_sipush (v := 400) S.1 S.2.1 dX3_act_21 (by decide) ?_
        refine lv_icmp_ne (tgt := 30) S.1 S.2.1 dX3_act_24 (by decide) (fun c9 => ?_) (fun c9 => ?_)
        · replace h := m_f c9 h
          refine lv_aload_n S.1 S.2.1 dX3_act_30 rfl (lv_at hl 1 rfl) ?_
          obtain ⟨r10, e11, h⟩ := m_bs h
          refine m_get (ci := 3) (k := 23) (T := TX3) (N := 25) S (inX3 _) hK hP (m_gR_s e11) rfl (by decide) (S.2.2.2.2 (.fieldLink RX3 60 "RuleHouse2Model" "of" "[I") (m_mem (by decide +kernel))) rfl dX3_act_31 ?_
          refine lv_aload_n S.1 S.2.1 dX3_act_34 rfl (lv_at hl 1 rfl) ?_
          obtain ⟨x12, e13, h⟩ := m_bs h
          refine m_get (ci := 3) (k := 5) (T := TX3) (N := 25) S (inX3 _) hK hP (m_gI_s e13) rfl (by decide) (S.2.2.2.2 (.fieldLink RX3 102 "RuleHouse2Model" "actions" "I") (m_mem (by decide +kernel))) rfl dX3_act_35 ?_
          refine lv_iload_n S.1 S.2.1 dX3_act_38 rfl (lv_at hl 2 rfl) ?_
          obtain ⟨a14, ea, g⟩ := m_bs h; clear h; subst ea; have h := g; clear g
          obtain ⟨s15, e16, h⟩ := m_bs h
          refine m_iast (t := 5) S hK hP hS e16 (by decide) rfl dX3_act_39 (fun H locs hP hS => ?_)
          refine lv_aload_n S.1 S.2.1 dX3_act_40 rfl (lv_at hl 1 rfl) ?_
          obtain ⟨r17, e18, h⟩ := m_bs h
          refine m_get (ci := 3) (k := 24) (T := TX3) (N := 25) S (inX3 _) hK hP (m_gR_s e18) rfl (by decide) (S.2.2.2.2 (.fieldLink RX3 63 "RuleHouse2Model" "number" "[I") (m_mem (by decide +kernel))) rfl dX3_act_41 ?_
          refine lv_aload_n S.1 S.2.1 dX3_act_44 rfl (lv_at hl 1 rfl) ?_
          obtain ⟨x19, e20, h⟩ := m_bs h
          refine m_get (ci := 3) (k := 5) (T := TX3) (N := 25) S (inX3 _) hK hP (m_gI_s e20) rfl (by decide) (S.2.2.2.2 (.fieldLink RX3 102 "RuleHouse2Model" "actions" "I") (m_mem (by decide +kernel))) rfl dX3_act_45 ?_
          refine lv_aload_n S.1 S.2.1 dX3_act_48 rfl (lv_at hl 1 rfl) ?_
          obtain ⟨r21, e22, h⟩ := m_bs h
          refine m_get (ci := 3) (k := 17) (T := TX3) (N := 25) S (inX3 _) hK hP (m_gR_s e22) rfl (by decide) (S.2.2.2.2 (.fieldLink RX3 42 "RuleHouse2Model" "mine" "[I") (m_mem (by decide +kernel))) rfl dX3_act_49 ?_
          refine lv_iload_n S.1 S.2.1 dX3_act_52 rfl (lv_at hl 2 rfl) ?_
          obtain ⟨a23, ea, g⟩ := m_bs h; clear h; subst ea; have h := g; clear g
          obtain ⟨x24, e25, h⟩ := m_bs h
          refine m_iald (t := 5) S hK hP (m_aI_s e25) rfl dX3_act_53 ?_
          obtain ⟨a26, ea, g⟩ := m_bs h; clear h; subst ea; have h := g; clear g
          obtain ⟨s27, e28, h⟩ := m_bs h
          refine m_iast (t := 5) S hK hP hS e28 (by decide) rfl dX3_act_54 (fun H locs hP hS => ?_)
          refine lv_aload_n S.1 S.2.1 dX3_act_55 rfl (lv_at hl 1 rfl) ?_
          obtain ⟨r29, e30, h⟩ := m_bs h
          refine m_get (ci := 3) (k := 17) (T := TX3) (N := 25) S (inX3 _) hK hP (m_gR_s e30) rfl (by decide) (S.2.2.2.2 (.fieldLink RX3 42 "RuleHouse2Model" "mine" "[I") (m_mem (by decide +kernel))) rfl dX3_act_56 ?_
          refine lv_iload_n S.1 S.2.1 dX3_act_59 rfl (lv_at hl 2 rfl) ?_
          refine lv_dup2_11 S.1 S.2.1 dX3_act_60 rfl (m_rfc _) ?_
          obtain ⟨a31, ea, g⟩ := m_bs h; clear h; subst ea; have h := g; clear g
          obtain ⟨x32, e33, h⟩ := m_bs h
          refine m_iald (t := 5) S hK hP (m_aI_s e33) rfl dX3_act_61 ?_
          refine lv_iconst (v := 1) S.1 S.2.1 dX3_act_62 (by decide) ?_
          refine lv_iadd S.1 S.2.1 dX3_act_63 ?_
          obtain ⟨s34, e35, h⟩ := m_bs h
          refine m_iast (t := 5) S hK hP hS e35 (by decide) rfl dX3_act_64 (fun H locs hP hS => ?_)
          refine lv_aload_n S.1 S.2.1 dX3_act_65 rfl (lv_at hl 1 rfl) ?_
          refine lv_dup S.1 S.2.1 dX3_act_66 rfl ?_
          obtain ⟨x36, e37, h⟩ := m_bs h
          refine m_get (ci := 3) (k := 5) (T := TX3) (N := 25) S (inX3 _) hK hP (m_gI_s e37) rfl (by decide) (S.2.2.2.2 (.fieldLink RX3 102 "RuleHouse2Model" "actions" "I") (m_mem (by decide +kernel))) rfl dX3_act_67 ?_
          refine lv_iconst (v := 1) S.1 S.2.1 dX3_act_70 (by decide) ?_
          refine lv_iadd S.1 S.2.1 dX3_act_71 ?_
          obtain ⟨s38, e39, h⟩ := m_bs h
          refine m_put (ci := 3) (k := 5) (T := TX3) (N := 25) (v := .int (x36 + 1)) (ty := .int) S (inX3 _) tyX3 tX3 nX3 hK hP hS e39 rfl (by decide) (S.2.2.2.2 (.fieldLink RX3 102 "RuleHouse2Model" "actions" "I") (m_mem (by decide +kernel))) rfl rfl (by decide +kernel) rfl rfl dX3_act_72 (fun H locs hP hS => ?_)
          refine lv_iinc (v := q3 + 1) (lv' := [(3, .int (q3 + 1)), (0, .ref q0), (1, .int q1), (2, .int q2)]) S.1 S.2.1 dX3_act_75 hl (k := 0) rfl rfl (by decide) (by first | rfl | simp [m_rfc, m_catI, m_catL, m_catA]) (fun ls hl => ?_)
          refine lv_goto (tgt := 2) S.1 S.2.1 dX3_act_78 (by decide) ?_
          exact ih (q3 + 1) q0 q1 q2 _ _ _ h _ _ _ hP hS (lv_sub hl [0, 1, 2, 3] rfl)
        · replace h := m_t c9 h
          refine lv_bipush (v := 7) S.1 S.2.1 dX3_act_27 (by decide) ?_
          obtain ⟨h1, h2⟩ := m_fin h; subst h1; subst h2
          exact m_iret S hr hlk hK hP hS (by decide +kernel) (by decide +kernel) dX3_act_29
      · replace h := m_t c6 h
        refine lv_iconst (v := 5) S.1 S.2.1 dX3_act_15 (by decide) ?_
        obtain ⟨h1, h2⟩ := m_fin h; subst h1; subst h2
        exact m_iret S hr hlk hK hP hS (by decide +kernel) (by decide +kernel) dX3_act_16
set_option maxHeartbeats 4000000 in
set_option maxRecDepth 100000 in
theorem c_X3_act (l : Launch) (D : va_G) (tc : Nat → ClassId) (b : Nat) (t0 : Nat) (p1 : Int32) (p2 : Int32) (s0 st' : MS) (r : Int32) (h : f_X3_act t0 p1 p2 s0 = some (r, st')) : Met l yX3_act wsX3_act ({ frames := 1, cells := 0, slots := 0, locals := 21 }) (m_Pc D vwCl (m_tys tc) b s0 [.ref t0, .int p1, .int p2]) (m_Q D vwCl (m_tys tc) b (some (.int r)) st') 0 0 (m_A b) := by
  unfold f_X3_act at h
  refine m_met (cc := cX3_act) (maxL := 4) (ret := (some .int)) (by decide) rfl (by first | exact Nat.le_of_ble_eq_true rfl | simp [lg_sl, m_rfc, m_catI, m_catL, m_catA]) ?_
  intro p e s m below meth c ls S hr hlk hnm hK hP hl hS
  replace hl : lv_has ls 4 [(0, .ref t0), (1, .int p1), (2, .int p2)] := by first | exact hl | simpa [lv_args, m_rfc, m_catI, m_catL, m_catA] using hl
  refine lv_iconst (v := 0) S.1 S.2.1 dX3_act_0 (by decide) ?_
  refine lv_istore_n (i := 3) (lv' := [(3, .int 0), (0, .ref t0), (1, .int p1), (2, .int p2)]) S.1 S.2.1 dX3_act_1 rfl hl (by decide) (by first | rfl | simp [m_rfc, m_catI, m_catL, m_catA]) (fun ls hl => ?_)
  exact w_X3_act_L2 D tc b S hr hlk hK 64 0 t0 p1 p2 _ _ _ h _ _ _ hP hS (lv_sub hl [0, 1, 2, 3] rfl)

def f_X3_deed (t0 : Nat) (p1 : Int32) (p2 : Int32) (p3 : Int32) (p4 : Int32) (s0 : MS) : Option (Int32 × MS) :=
  (m_gR s0 3 t0 13).bind fun r1 =>
  r1.bind fun a3 =>
  (m_aI s0 5 a3 (4 * p1)).bind fun x4 =>
  (m_gR s0 3 t0 13).bind fun r6 =>
  r6.bind fun a8 =>
  (m_aI s0 5 a8 ((4 * p1) + 1)).bind fun x9 =>
  if p2 = 1 then
    (m_gR s0 3 t0 8).bind fun r12 =>
    (m_gR s0 3 t0 12).bind fun r14 =>
    r14.bind fun a16 =>
    (m_aI s0 5 a16 p1).bind fun x17 =>
    r12.bind fun a19 =>
    (m_aI s0 5 a19 x17).bind fun x20 =>
    if (x20 &&& 1) = 1 then
      some (2, s0)
    else
      some (0, s0)
  else if p2 = 2 then
    (m_is s0 3 t0).bind fun _ =>
    m_b (f_X3_act t0 p1 x4 s0) fun x24 s25 =>
    some (x24, s25)
  else if p2 = 3 then
    if x9 = 0 then
      some (3, s0)
    else
      if x9 = (-1) then
        (m_is s0 3 t0).bind fun _ =>
        m_b (f_X3_give t0 p1 1 (-x4) s0) fun u36 s37 =>
        some (0, s37)
      else
        if (x9 : Int32) = 0 then none else
        (m_is s0 3 t0).bind fun _ =>
        m_b (f_X3_give t0 p1 1 (x4 / x9) s0) fun u32 s33 =>
        some (0, s33)
  else if p2 = 4 then
    if p4 < 0 then
      some (4, s0)
    else
      (m_gR s0 3 t0 22).bind fun r42 =>
      r42.bind fun a44 =>
      (m_aI s0 6 a44 (3 * p4)).bind fun x45 =>
      if x45 = 0 then
        some (4, s0)
      else
        (m_gR s0 3 t0 20).bind fun r48 =>
        r48.bind fun a50 =>
        (m_aI s0 5 a50 (3 * p4)).bind fun x51 =>
        (m_is s0 3 t0).bind fun _ =>
        m_b (f_X3_give t0 p1 0 (x51 + 1) s0) fun u53 s54 =>
        some (0, s54)
  else if p2 = 5 then
    (m_gR s0 3 t0 11).bind fun r58 =>
    r58.bind fun a60 =>
    (m_aL s0 7 a60 p3).bind fun l61 =>
    (m_ap s0 7 a60 p3 (.long (l61 + 1))).bind fun s63 =>
    (m_gR s63 3 t0 11).bind fun r65 =>
    r65.bind fun a67 =>
    (m_aL s63 7 a67 p3).bind fun l68 =>
    (m_is s63 3 t0).bind fun _ =>
    m_b (f_X3_give t0 p1 2 ((l68 : Int64).toInt32) s63) fun u70 s71 =>
    some (0, s71)
  else if p2 = 6 then
    (m_gR s0 3 t0 13).bind fun r75 =>
    r75.bind fun a77 =>
    (m_aI s0 5 a77 ((4 * p1) + 3)).bind fun x78 =>
    if x78 = 1 then
      (m_is s0 3 t0).bind fun _ =>
      m_b (f_X3_give t0 p1 0 (-x4) s0) fun u85 s86 =>
      some (0, s86)
    else
      (m_is s0 3 t0).bind fun _ =>
      m_b (f_X3_give t0 p1 0 x4 s0) fun u81 s82 =>
      some (0, s82)
  else if p2 = 7 then
    (m_gI s0 3 t0 6).bind fun x90 =>
    (m_gI s0 3 t0 6).bind fun x92 =>
    if 40 ≤ x92 then
      (m_p s0 3 t0 6 (.int (x90 + 0))).bind fun s95 =>
      some (0, s95)
    else
      (m_p s0 3 t0 6 (.int (x90 + 1))).bind fun s97 =>
      some (0, s97)
  else some (0, s0)
set_option maxHeartbeats 4000000 in
set_option maxRecDepth 100000 in
theorem c_X3_deed (l : Launch) (D : va_G) (tc : Nat → ClassId) (b : Nat) (t0 : Nat) (p1 : Int32) (p2 : Int32) (p3 : Int32) (p4 : Int32) (s0 st' : MS) (r : Int32) (h : f_X3_deed t0 p1 p2 p3 p4 s0 = some (r, st')) : Met l yX3_deed wsX3_deed ({ frames := 2, cells := 0, slots := 0, locals := 44 }) (m_Pc D vwCl (m_tys tc) b s0 [.ref t0, .int p1, .int p2, .int p3, .int p4]) (m_Q D vwCl (m_tys tc) b (some (.int r)) st') 0 0 (m_A b) := by
  unfold f_X3_deed at h
  refine m_met (cc := cX3_deed) (maxL := 7) (ret := (some .int)) (by decide) rfl (by first | exact Nat.le_of_ble_eq_true rfl | simp [lg_sl, m_rfc, m_catI, m_catL, m_catA]) ?_
  intro p e s m below meth c ls S hr hlk hnm hK hP hl hS
  replace hl : lv_has ls 7 [(0, .ref t0), (1, .int p1), (2, .int p2), (3, .int p3), (4, .int p4)] := by first | exact hl | simpa [lv_args, m_rfc, m_catI, m_catL, m_catA] using hl
  refine lv_aload_n S.1 S.2.1 dX3_deed_0 rfl (lv_at hl 0 rfl) ?_
  obtain ⟨r1, e2, h⟩ := m_bs h
  refine m_get (ci := 3) (k := 13) (T := TX3) (N := 25) S (inX3 _) hK hP (m_gR_s e2) rfl (by decide) (S.2.2.2.2 (.fieldLink RX3 30 "RuleHouse2Model" "attributes" "[I") (m_mem (by decide +kernel))) rfl dX3_deed_1 ?_
  refine lv_iconst (v := 4) S.1 S.2.1 dX3_deed_4 (by decide) ?_
  refine lv_iload_n S.1 S.2.1 dX3_deed_5 rfl (lv_at hl 1 rfl) ?_
  refine lv_imul S.1 S.2.1 dX3_deed_6 ?_
  obtain ⟨a3, ea, g⟩ := m_bs h; clear h; subst ea; have h := g; clear g
  obtain ⟨x4, e5, h⟩ := m_bs h
  refine m_iald (t := 5) S hK hP (m_aI_s e5) rfl dX3_deed_7 ?_
  refine lv_istore (i := 5) (lv' := [(5, .int x4), (0, .ref t0), (1, .int p1), (2, .int p2), (3, .int p3), (4, .int p4)]) S.1 S.2.1 dX3_deed_8 hl (by decide) (by first | rfl | simp [m_rfc, m_catI, m_catL, m_catA]) (fun ls hl => ?_)
  refine lv_aload_n S.1 S.2.1 dX3_deed_10 rfl (lv_at hl 1 rfl) ?_
  obtain ⟨r6, e7, h⟩ := m_bs h
  refine m_get (ci := 3) (k := 13) (T := TX3) (N := 25) S (inX3 _) hK hP (m_gR_s e7) rfl (by decide) (S.2.2.2.2 (.fieldLink RX3 30 "RuleHouse2Model" "attributes" "[I") (m_mem (by decide +kernel))) rfl dX3_deed_11 ?_
  refine lv_iconst (v := 4) S.1 S.2.1 dX3_deed_14 (by decide) ?_
  refine lv_iload_n S.1 S.2.1 dX3_deed_15 rfl (lv_at hl 2 rfl) ?_
  refine lv_imul S.1 S.2.1 dX3_deed_16 ?_
  refine lv_iconst (v := 1) S.1 S.2.1 dX3_deed_17 (by decide) ?_
  refine lv_iadd S.1 S.2.1 dX3_deed_18 ?_
  obtain ⟨a8, ea, g⟩ := m_bs h; clear h; subst ea; have h := g; clear g
  obtain ⟨x9, e10, h⟩ := m_bs h
  refine m_iald (t := 5) S hK hP (m_aI_s e10) rfl dX3_deed_19 ?_
  refine lv_istore (i := 6) (lv' := [(6, .int x9), (5, .int x4), (0, .ref t0), (1, .int p1), (2, .int p2), (3, .int p3), (4, .int p4)]) S.1 S.2.1 dX3_deed_20 hl (by decide) (by first | rfl | simp [m_rfc, m_catI, m_catL, m_catA]) (fun ls hl => ?_)
  refine lv_iload_n S.1 S.2.1 dX3_deed_22 rfl (lv_at hl 4 rfl) ?_
  by_cases c11 : p2 = 1
  · replace h := m_t c11 h
    refine lv_tableIn (tgt := 64) S.1 S.2.1 dX3_deed_23 (by rw [c11]; decide) (by rw [c11]; decide) (by rw [c11]; rfl) (by decide) ?_
    refine lv_aload_n S.1 S.2.1 dX3_deed_64 rfl (lv_at hl 2 rfl) ?_
    obtain ⟨r12, e13, h⟩ := m_bs h
    refine m_get (ci := 3) (k := 8) (T := TX3) (N := 25) S (inX3 _) hK hP (m_gR_s e13) rfl (by decide) (S.2.2.2.2 (.fieldLink RX3 13 "RuleHouse2Model" "does" "[I") (m_mem (by decide +kernel))) rfl dX3_deed_65 ?_
    refine lv_aload_n S.1 S.2.1 dX3_deed_68 rfl (lv_at hl 2 rfl) ?_
    obtain ⟨r14, e15, h⟩ := m_bs h
    refine m_get (ci := 3) (k := 12) (T := TX3) (N := 25) S (inX3 _) hK hP (m_gR_s e15) rfl (by decide) (S.2.2.2.2 (.fieldLink RX3 27 "RuleHouse2Model" "rule" "[I") (m_mem (by decide +kernel))) rfl dX3_deed_69 ?_
    refine lv_iload_n S.1 S.2.1 dX3_deed_72 rfl (lv_at hl 3 rfl) ?_
    obtain ⟨a16, ea, g⟩ := m_bs h; clear h; subst ea; have h := g; clear g
    obtain ⟨x17, e18, h⟩ := m_bs h
    refine m_iald (t := 5) S hK hP (m_aI_s e18) rfl dX3_deed_73 ?_
    obtain ⟨a19, ea, g⟩ := m_bs h; clear h; subst ea; have h := g; clear g
    obtain ⟨x20, e21, h⟩ := m_bs h
    refine m_iald (t := 5) S hK hP (m_aI_s e21) rfl dX3_deed_74 ?_
    refine lv_iconst (v := 1) S.1 S.2.1 dX3_deed_75 (by decide) ?_
    refine lv_iand S.1 S.2.1 dX3_deed_76 ?_
    refine lv_iconst (v := 1) S.1 S.2.1 dX3_deed_77 (by decide) ?_
    refine lv_icmp_ne (tgt := 85) S.1 S.2.1 dX3_deed_78 (by decide) (fun c22 => ?_) (fun c22 => ?_)
    · replace h := m_f c22 h
      refine lv_iconst (v := 0) S.1 S.2.1 dX3_deed_85 (by decide) ?_
      obtain ⟨h1, h2⟩ := m_fin h; subst h1; subst h2
      exact m_iret S hr hlk hK hP hS (by decide +kernel) (by decide +kernel) dX3_deed_86
    · replace h := m_t c22 h
      refine lv_iconst (v := 2) S.1 S.2.1 dX3_deed_81 (by decide) ?_
      refine lv_goto (tgt := 86) S.1 S.2.1 dX3_deed_82 (by decide) ?_
      obtain ⟨h1, h2⟩ := m_fin h; subst h1; subst h2
      exact m_iret S hr hlk hK hP hS (by decide +kernel) (by decide +kernel) dX3_deed_86
  replace h := m_f c11 h
  by_cases c23 : p2 = 2
  · replace h := m_t c23 h
    refine lv_tableIn (tgt := 87) S.1 S.2.1 dX3_deed_23 (by rw [c23]; decide) (by rw [c23]; decide) (by rw [c23]; rfl) (by decide) ?_
    refine lv_aload_n S.1 S.2.1 dX3_deed_87 rfl (lv_at hl 2 rfl) ?_
    refine lv_iload_n S.1 S.2.1 dX3_deed_88 rfl (lv_at hl 3 rfl) ?_
    refine lv_iload S.1 S.2.1 dX3_deed_89 (lv_at hl 1 rfl) ?_
    obtain ⟨_, k27, h⟩ := m_bs h
    obtain ⟨x24, s25, e26, h⟩ := m_b_s h
    refine m_calli (va_runV (As := [.int p1, .int x4]) (rest := []) S (c_X3_act l D tc b t0 p1 x4 _ _ _ e26) (cwV 2 S.2.2.2.2 (m_wV kX3_act (by decide +kernel)) rfl rfl rfl (by decide +kernel) ⟨by decide +kernel, by decide +kernel⟩) (m_preV hK hP (m_is_s k27) rfl) rfl rfl hl.1 rfl (lv_room (by first | decide | simp [m_rfc, m_catI, m_catL, m_catA])) dX3_deed_91 ⟨by decide +kernel, by decide +kernel⟩) hS (fun H locs hP hS => ?_)
    obtain ⟨h1, h2⟩ := m_fin h; subst h1; subst h2
    exact m_iret S hr hlk hK hP hS (by decide +kernel) (by decide +kernel) dX3_deed_94
  replace h := m_f c23 h
  by_cases c28 : p2 = 3
  · replace h := m_t c28 h
    refine lv_tableIn (tgt := 95) S.1 S.2.1 dX3_deed_23 (by rw [c28]; decide) (by rw [c28]; decide) (by rw [c28]; rfl) (by decide) ?_
    refine lv_iload S.1 S.2.1 dX3_deed_95 (lv_at hl 0 rfl) ?_
    refine lv_if_ne (tgt := 102) S.1 S.2.1 dX3_deed_97 (by decide) (fun c29 => ?_) (fun c29 => ?_)
    · replace h := m_f c29 h
      refine lv_aload_n S.1 S.2.1 dX3_deed_102 rfl (lv_at hl 2 rfl) ?_
      refine lv_iload_n S.1 S.2.1 dX3_deed_103 rfl (lv_at hl 3 rfl) ?_
      refine lv_iconst (v := 1) S.1 S.2.1 dX3_deed_104 (by decide) ?_
      refine lv_iload S.1 S.2.1 dX3_deed_105 (lv_at hl 0 rfl) ?_
      refine lv_iconst (v := (-1)) S.1 S.2.1 dX3_deed_107 (by decide) ?_
      refine lv_icmp_ne (tgt := 117) S.1 S.2.1 dX3_deed_108 (by decide) (fun c30 => ?_) (fun c30 => ?_)
      · replace h := m_f c30 h
        refine lv_iload S.1 S.2.1 dX3_deed_117 (lv_at hl 1 rfl) ?_
        refine lv_iload S.1 S.2.1 dX3_deed_119 (lv_at hl 0 rfl) ?_
        by_cases c31 : (x9 : Int32) = 0
        · exact absurd (m_t c31 h) (fun h => by cases h)
        replace h := m_f c31 h
        refine lv_idiv S.1 S.2.1 dX3_deed_121 c31 ?_
        obtain ⟨_, k35, h⟩ := m_bs h
        obtain ⟨u32, s33, e34, h⟩ := m_b_s h
        refine m_callv (va_runV (As := [.int p1, .int 1, .int (x4 / x9)]) (rest := []) S (c_X3_give l D tc b t0 p1 1 (x4 / x9) _ _ _ e34) (cwV 3 S.2.2.2.2 (m_wV kX3_give (by decide +kernel)) rfl rfl rfl (by decide +kernel) ⟨by decide +kernel, by decide +kernel⟩) (m_preV hK hP (m_is_s k35) rfl) rfl rfl hl.1 rfl (lv_room (by first | decide | simp [m_rfc, m_catI, m_catL, m_catA])) dX3_deed_122 ⟨by decide +kernel, by decide +kernel⟩) hS (fun H locs hP hS => ?_)
        refine lv_iconst (v := 0) S.1 S.2.1 dX3_deed_125 (by decide) ?_
        obtain ⟨h1, h2⟩ := m_fin h; subst h1; subst h2
        exact m_iret S hr hlk hK hP hS (by decide +kernel) (by decide +kernel) dX3_deed_126
      · replace h := m_t c30 h
        refine lv_iload S.1 S.2.1 dX3_deed_111 (lv_at hl 1 rfl) ?_
        refine lv_ineg S.1 S.2.1 dX3_deed_113 ?_
        refine lv_goto (tgt := 122) S.1 S.2.1 dX3_deed_114 (by decide) ?_
        obtain ⟨_, k39, h⟩ := m_bs h
        obtain ⟨u36, s37, e38, h⟩ := m_b_s h
        refine m_callv (va_runV (As := [.int p1, .int 1, .int (-x4)]) (rest := []) S (c_X3_give l D tc b t0 p1 1 (-x4) _ _ _ e38) (cwV 3 S.2.2.2.2 (m_wV kX3_give (by decide +kernel)) rfl rfl rfl (by decide +kernel) ⟨by decide +kernel, by decide +kernel⟩) (m_preV hK hP (m_is_s k39) rfl) rfl rfl hl.1 rfl (lv_room (by first | decide | simp [m_rfc, m_catI, m_catL, m_catA])) dX3_deed_122 ⟨by decide +kernel, by decide +kernel⟩) hS (fun H locs hP hS => ?_)
        refine lv_iconst (v := 0) S.1 S.2.1 dX3_deed_125 (by decide) ?_
        obtain ⟨h1, h2⟩ := m_fin h; subst h1; subst h2
        exact m_iret S hr hlk hK hP hS (by decide +kernel) (by decide +kernel) dX3_deed_126
    · replace h := m_t c29 h
      refine lv_iconst (v := 3) S.1 S.2.1 dX3_deed_100 (by decide) ?_
      obtain ⟨h1, h2⟩ := m_fin h; subst h1; subst h2
      exact m_iret S hr hlk hK hP hS (by decide +kernel) (by decide +kernel) dX3_deed_101
  replace h := m_f c28 h
  by_cases c40 : p2 = 4
  · replace h := m_t c40 h
    refine lv_tableIn (tgt := 127) S.1 S.2.1 dX3_deed_23 (by rw [c40]; decide) (by rw [c40]; decide) (by rw [c40]; rfl) (by decide) ?_
    refine lv_iload S.1 S.2.1 dX3_deed_127 (lv_at hl 6 rfl) ?_
    refine lv_if_lt (tgt := 144) S.1 S.2.1 dX3_deed_129 (by decide) (fun c41 => ?_) (fun c41 => ?_)
    · replace h := m_t c41 h
      refine lv_iconst (v := 4) S.1 S.2.1 dX3_deed_144 (by decide) ?_
      obtain ⟨h1, h2⟩ := m_fin h; subst h1; subst h2
      exact m_iret S hr hlk hK hP hS (by decide +kernel) (by decide +kernel) dX3_deed_145
    · replace h := m_f c41 h
      refine lv_aload_n S.1 S.2.1 dX3_deed_132 rfl (lv_at hl 2 rfl) ?_
      obtain ⟨r42, e43, h⟩ := m_bs h
      refine m_get (ci := 3) (k := 22) (T := TX3) (N := 25) S (inX3 _) hK hP (m_gR_s e43) rfl (by decide) (S.2.2.2.2 (.fieldLink RX3 57 "RuleHouse2Model" "has" "[Z") (m_mem (by decide +kernel))) rfl dX3_deed_133 ?_
      refine lv_iconst (v := 3) S.1 S.2.1 dX3_deed_136 (by decide) ?_
      refine lv_iload S.1 S.2.1 dX3_deed_137 (lv_at hl 6 rfl) ?_
      refine lv_imul S.1 S.2.1 dX3_deed_139 ?_
      obtain ⟨a44, ea, g⟩ := m_bs h; clear h; subst ea; have h := g; clear g
      obtain ⟨x45, e46, h⟩ := m_bs h
      refine m_zald (t := 6) S hK hP (m_aI_s e46) rfl dX3_deed_140 ?_
      refine lv_if_ne (tgt := 146) S.1 S.2.1 dX3_deed_141 (by decide) (fun c47 => ?_) (fun c47 => ?_)
      · replace h := m_f c47 h
        refine lv_aload_n S.1 S.2.1 dX3_deed_146 rfl (lv_at hl 2 rfl) ?_
        refine lv_iload_n S.1 S.2.1 dX3_deed_147 rfl (lv_at hl 3 rfl) ?_
        refine lv_iconst (v := 0) S.1 S.2.1 dX3_deed_148 (by decide) ?_
        refine lv_aload_n S.1 S.2.1 dX3_deed_149 rfl (lv_at hl 2 rfl) ?_
        obtain ⟨r48, e49, h⟩ := m_bs h
        refine m_get (ci := 3) (k := 20) (T := TX3) (N := 25) S (inX3 _) hK hP (m_gR_s e49) rfl (by decide) (S.2.2.2.2 (.fieldLink RX3 51 "RuleHouse2Model" "provider" "[I") (m_mem (by decide +kernel))) rfl dX3_deed_150 ?_
        refine lv_iconst (v := 3) S.1 S.2.1 dX3_deed_153 (by decide) ?_
        refine lv_iload S.1 S.2.1 dX3_deed_154 (lv_at hl 6 rfl) ?_
        refine lv_imul S.1 S.2.1 dX3_deed_156 ?_
        obtain ⟨a50, ea, g⟩ := m_bs h; clear h; subst ea; have h := g; clear g
        obtain ⟨x51, e52, h⟩ := m_bs h
        refine m_iald (t := 5) S hK hP (m_aI_s e52) rfl dX3_deed_157 ?_
        refine lv_iconst (v := 1) S.1 S.2.1 dX3_deed_158 (by decide) ?_
        refine lv_iadd S.1 S.2.1 dX3_deed_159 ?_
        obtain ⟨_, k56, h⟩ := m_bs h
        obtain ⟨u53, s54, e55, h⟩ := m_b_s h
        refine m_callv (va_runV (As := [.int p1, .int 0, .int (x51 + 1)]) (rest := []) S (c_X3_give l D tc b t0 p1 0 (x51 + 1) _ _ _ e55) (cwV 3 S.2.2.2.2 (m_wV kX3_give (by decide +kernel)) rfl rfl rfl (by decide +kernel) ⟨by decide +kernel, by decide +kernel⟩) (m_preV hK hP (m_is_s k56) rfl) rfl rfl hl.1 rfl (lv_room (by first | decide | simp [m_rfc, m_catI, m_catL, m_catA])) dX3_deed_160 ⟨by decide +kernel, by decide +kernel⟩) hS (fun H locs hP hS => ?_)
        refine lv_iconst (v := 0) S.1 S.2.1 dX3_deed_163 (by decide) ?_
        obtain ⟨h1, h2⟩ := m_fin h; subst h1; subst h2
        exact m_iret S hr hlk hK hP hS (by decide +kernel) (by decide +kernel) dX3_deed_164
      · replace h := m_t c47 h
        refine lv_iconst (v := 4) S.1 S.2.1 dX3_deed_144 (by decide) ?_
        obtain ⟨h1, h2⟩ := m_fin h; subst h1; subst h2
        exact m_iret S hr hlk hK hP hS (by decide +kernel) (by decide +kernel) dX3_deed_145
  replace h := m_f c40 h
  by_cases c57 : p2 = 5
  · replace h := m_t c57 h
    refine lv_tableIn (tgt := 165) S.1 S.2.1 dX3_deed_23 (by rw [c57]; decide) (by rw [c57]; decide) (by rw [c57]; rfl) (by decide) ?_
    refine lv_aload_n S.1 S.2.1 dX3_deed_165 rfl (lv_at hl 2 rfl) ?_
    obtain ⟨r58, e59, h⟩ := m_bs h
    refine m_get (ci := 3) (k := 11) (T := TX3) (N := 25) S (inX3 _) hK hP (m_gR_s e59) rfl (by decide) (S.2.2.2.2 (.fieldLink RX3 23 "RuleHouse2Model" "cell" "[J") (m_mem (by decide +kernel))) rfl dX3_deed_166 ?_
    refine lv_iload_n S.1 S.2.1 dX3_deed_169 rfl (lv_at hl 5 rfl) ?_
    refine lv_dup2_11 S.1 S.2.1 dX3_deed_170 rfl (m_rfc _) ?_
    obtain ⟨a60, ea, g⟩ := m_bs h; clear h; subst ea; have h := g; clear g
    obtain ⟨l61, e62, h⟩ := m_bs h
    refine m_lald (t := 7) S hK hP (m_aL_s e62) rfl dX3_deed_171 ?_
    refine lv_lconst (v := 1) S.1 S.2.1 dX3_deed_172 (by decide) ?_
    refine lv_ladd S.1 S.2.1 dX3_deed_173 ?_
    obtain ⟨s63, e64, h⟩ := m_bs h
    refine m_last (t := 7) S hK hP hS e64 (by decide) rfl dX3_deed_174 (fun H locs hP hS => ?_)
    refine lv_aload_n S.1 S.2.1 dX3_deed_175 rfl (lv_at hl 2 rfl) ?_
    refine lv_iload_n S.1 S.2.1 dX3_deed_176 rfl (lv_at hl 3 rfl) ?_
    refine lv_iconst (v := 2) S.1 S.2.1 dX3_deed_177 (by decide) ?_
    refine lv_aload_n S.1 S.2.1 dX3_deed_178 rfl (lv_at hl 2 rfl) ?_
    obtain ⟨r65, e66, h⟩ := m_bs h
    refine m_get (ci := 3) (k := 11) (T := TX3) (N := 25) S (inX3 _) hK hP (m_gR_s e66) rfl (by decide) (S.2.2.2.2 (.fieldLink RX3 23 "RuleHouse2Model" "cell" "[J") (m_mem (by decide +kernel))) rfl dX3_deed_179 ?_
    refine lv_iload_n S.1 S.2.1 dX3_deed_182 rfl (lv_at hl 5 rfl) ?_
    obtain ⟨a67, ea, g⟩ := m_bs h; clear h; subst ea; have h := g; clear g
    obtain ⟨l68, e69, h⟩ := m_bs h
    refine m_lald (t := 7) S hK hP (m_aL_s e69) rfl dX3_deed_183 ?_
    refine lv_l2i S.1 S.2.1 dX3_deed_184 rfl ?_
    obtain ⟨_, k73, h⟩ := m_bs h
    obtain ⟨u70, s71, e72, h⟩ := m_b_s h
    refine m_callv (va_runV (As := [.int p1, .int 2, .int ((l68 : Int64).toInt32)]) (rest := []) S (c_X3_give l D tc b t0 p1 2 ((l68 : Int64).toInt32) _ _ _ e72) (cwV 3 S.2.2.2.2 (m_wV kX3_give (by decide +kernel)) rfl rfl rfl (by decide +kernel) ⟨by decide +kernel, by decide +kernel⟩) (m_preV hK hP (m_is_s k73) rfl) rfl rfl hl.1 rfl (lv_room (by first | decide | simp [m_rfc, m_catI, m_catL, m_catA])) dX3_deed_185 ⟨by decide +kernel, by decide +kernel⟩) hS (fun H locs hP hS => ?_)
    refine lv_iconst (v := 0) S.1 S.2.1 dX3_deed_188 (by decide) ?_
    obtain ⟨h1, h2⟩ := m_fin h; subst h1; subst h2
    exact m_iret S hr hlk hK hP hS (by decide +kernel) (by decide +kernel) dX3_deed_189
  replace h := m_f c57 h
  by_cases c74 : p2 = 6
  · replace h := m_t c74 h
    refine lv_tableIn (tgt := 190) S.1 S.2.1 dX3_deed_23 (by rw [c74]; decide) (by rw [c74]; decide) (by rw [c74]; rfl) (by decide) ?_
    refine lv_aload_n S.1 S.2.1 dX3_deed_190 rfl (lv_at hl 2 rfl) ?_
    refine lv_iload_n S.1 S.2.1 dX3_deed_191 rfl (lv_at hl 3 rfl) ?_
    refine lv_iconst (v := 0) S.1 S.2.1 dX3_deed_192 (by decide) ?_
    refine lv_aload_n S.1 S.2.1 dX3_deed_193 rfl (lv_at hl 2 rfl) ?_
    obtain ⟨r75, e76, h⟩ := m_bs h
    refine m_get (ci := 3) (k := 13) (T := TX3) (N := 25) S (inX3 _) hK hP (m_gR_s e76) rfl (by decide) (S.2.2.2.2 (.fieldLink RX3 30 "RuleHouse2Model" "attributes" "[I") (m_mem (by decide +kernel))) rfl dX3_deed_194 ?_
    refine lv_iconst (v := 4) S.1 S.2.1 dX3_deed_197 (by decide) ?_
    refine lv_iload_n S.1 S.2.1 dX3_deed_198 rfl (lv_at hl 3 rfl) ?_
    refine lv_imul S.1 S.2.1 dX3_deed_199 ?_
    refine lv_iconst (v := 3) S.1 S.2.1 dX3_deed_200 (by decide) ?_
    refine lv_iadd S.1 S.2.1 dX3_deed_201 ?_
    obtain ⟨a77, ea, g⟩ := m_bs h; clear h; subst ea; have h := g; clear g
    obtain ⟨x78, e79, h⟩ := m_bs h
    refine m_iald (t := 5) S hK hP (m_aI_s e79) rfl dX3_deed_202 ?_
    refine lv_iconst (v := 1) S.1 S.2.1 dX3_deed_203 (by decide) ?_
    refine lv_icmp_ne (tgt := 213) S.1 S.2.1 dX3_deed_204 (by decide) (fun c80 => ?_) (fun c80 => ?_)
    · replace h := m_f c80 h
      refine lv_iload S.1 S.2.1 dX3_deed_213 (lv_at hl 1 rfl) ?_
      obtain ⟨_, k84, h⟩ := m_bs h
      obtain ⟨u81, s82, e83, h⟩ := m_b_s h
      refine m_callv (va_runV (As := [.int p1, .int 0, .int x4]) (rest := []) S (c_X3_give l D tc b t0 p1 0 x4 _ _ _ e83) (cwV 3 S.2.2.2.2 (m_wV kX3_give (by decide +kernel)) rfl rfl rfl (by decide +kernel) ⟨by decide +kernel, by decide +kernel⟩) (m_preV hK hP (m_is_s k84) rfl) rfl rfl hl.1 rfl (lv_room (by first | decide | simp [m_rfc, m_catI, m_catL, m_catA])) dX3_deed_215 ⟨by decide +kernel, by decide +kernel⟩) hS (fun H locs hP hS => ?_)
      refine lv_iconst (v := 0) S.1 S.2.1 dX3_deed_218 (by decide) ?_
      obtain ⟨h1, h2⟩ := m_fin h; subst h1; subst h2
      exact m_iret S hr hlk hK hP hS (by decide +kernel) (by decide +kernel) dX3_deed_219
    · replace h := m_t c80 h
      refine lv_iload S.1 S.2.1 dX3_deed_207 (lv_at hl 1 rfl) ?_
      refine lv_ineg S.1 S.2.1 dX3_deed_209 ?_
      refine lv_goto (tgt := 215) S.1 S.2.1 dX3_deed_210 (by decide) ?_
      obtain ⟨_, k88, h⟩ := m_bs h
      obtain ⟨u85, s86, e87, h⟩ := m_b_s h
      refine m_callv (va_runV (As := [.int p1, .int 0, .int (-x4)]) (rest := []) S (c_X3_give l D tc b t0 p1 0 (-x4) _ _ _ e87) (cwV 3 S.2.2.2.2 (m_wV kX3_give (by decide +kernel)) rfl rfl rfl (by decide +kernel) ⟨by decide +kernel, by decide +kernel⟩) (m_preV hK hP (m_is_s k88) rfl) rfl rfl hl.1 rfl (lv_room (by first | decide | simp [m_rfc, m_catI, m_catL, m_catA])) dX3_deed_215 ⟨by decide +kernel, by decide +kernel⟩) hS (fun H locs hP hS => ?_)
      refine lv_iconst (v := 0) S.1 S.2.1 dX3_deed_218 (by decide) ?_
      obtain ⟨h1, h2⟩ := m_fin h; subst h1; subst h2
      exact m_iret S hr hlk hK hP hS (by decide +kernel) (by decide +kernel) dX3_deed_219
  replace h := m_f c74 h
  by_cases c89 : p2 = 7
  · replace h := m_t c89 h
    refine lv_tableIn (tgt := 220) S.1 S.2.1 dX3_deed_23 (by rw [c89]; decide) (by rw [c89]; decide) (by rw [c89]; rfl) (by decide) ?_
    refine lv_aload_n S.1 S.2.1 dX3_deed_220 rfl (lv_at hl 2 rfl) ?_
    refine lv_dup S.1 S.2.1 dX3_deed_221 rfl ?_
    obtain ⟨x90, e91, h⟩ := m_bs h
    refine m_get (ci := 3) (k := 6) (T := TX3) (N := 25) S (inX3 _) hK hP (m_gI_s e91) rfl (by decide) (S.2.2.2.2 (.fieldLink RX3 96 "RuleHouse2Model" "handles" "I") (m_mem (by decide +kernel))) rfl dX3_deed_222 ?_
    refine lv_aload_n S.1 S.2.1 dX3_deed_225 rfl (lv_at hl 2 rfl) ?_
    obtain ⟨x92, e93, h⟩ := m_bs h
    refine m_get (ci := 3) (k := 6) (T := TX3) (N := 25) S (inX3 _) hK hP (m_gI_s e93) rfl (by decide) (S.2.2.2.2 (.fieldLink RX3 96 "RuleHouse2Model" "handles" "I") (m_mem (by decide +kernel))) rfl dX3_deed_226 ?_
    refine lv_bipush (v := 40) S.1 S.2.1 dX3_deed_229 (by decide) ?_
    refine lv_icmp_ge (tgt := 238) S.1 S.2.1 dX3_deed_231 (by decide) (fun c94 => ?_) (fun c94 => ?_)
    · replace h := m_t c94 h
      refine lv_iconst (v := 0) S.1 S.2.1 dX3_deed_238 (by decide) ?_
      refine lv_iadd S.1 S.2.1 dX3_deed_239 ?_
      obtain ⟨s95, e96, h⟩ := m_bs h
      refine m_put (ci := 3) (k := 6) (T := TX3) (N := 25) (v := .int (x90 + 0)) (ty := .int) S (inX3 _) tyX3 tX3 nX3 hK hP hS e96 rfl (by decide) (S.2.2.2.2 (.fieldLink RX3 96 "RuleHouse2Model" "handles" "I") (m_mem (by decide +kernel))) rfl rfl (by decide +kernel) rfl rfl dX3_deed_240 (fun H locs hP hS => ?_)
      refine lv_iconst (v := 0) S.1 S.2.1 dX3_deed_243 (by decide) ?_
      obtain ⟨h1, h2⟩ := m_fin h; subst h1; subst h2
      exact m_iret S hr hlk hK hP hS (by decide +kernel) (by decide +kernel) dX3_deed_244
    · replace h := m_f c94 h
      refine lv_iconst (v := 1) S.1 S.2.1 dX3_deed_234 (by decide) ?_
      refine lv_goto (tgt := 239) S.1 S.2.1 dX3_deed_235 (by decide) ?_
      refine lv_iadd S.1 S.2.1 dX3_deed_239 ?_
      obtain ⟨s97, e98, h⟩ := m_bs h
      refine m_put (ci := 3) (k := 6) (T := TX3) (N := 25) (v := .int (x90 + 1)) (ty := .int) S (inX3 _) tyX3 tX3 nX3 hK hP hS e98 rfl (by decide) (S.2.2.2.2 (.fieldLink RX3 96 "RuleHouse2Model" "handles" "I") (m_mem (by decide +kernel))) rfl rfl (by decide +kernel) rfl rfl dX3_deed_240 (fun H locs hP hS => ?_)
      refine lv_iconst (v := 0) S.1 S.2.1 dX3_deed_243 (by decide) ?_
      obtain ⟨h1, h2⟩ := m_fin h; subst h1; subst h2
      exact m_iret S hr hlk hK hP hS (by decide +kernel) (by decide +kernel) dX3_deed_244
  replace h := m_f c89 h
  have nc89 := (⟨lv_neT (a := 1) c11 (by decide), lv_neT (a := 2) c23 (by decide), lv_neT (a := 3) c28 (by decide), lv_neT (a := 4) c40 (by decide), lv_neT (a := 5) c57 (by decide), lv_neT (a := 6) c74 (by decide), lv_neT (a := 7) c89 (by decide)⟩ : ¬ (p2).toInt = 1 ∧ ¬ (p2).toInt = 2 ∧ ¬ (p2).toInt = 3 ∧ ¬ (p2).toInt = 4 ∧ ¬ (p2).toInt = 5 ∧ ¬ (p2).toInt = 6 ∧ ¬ (p2).toInt = 7)
  refine lv_tableOut (tgt := 245) S.1 S.2.1 dX3_deed_23 (by omega) (by decide) ?_
  refine lv_iconst (v := 0) S.1 S.2.1 dX3_deed_245 (by decide) ?_
  obtain ⟨h1, h2⟩ := m_fin h; subst h1; subst h2
  exact m_iret S hr hlk hK hP hS (by decide +kernel) (by decide +kernel) dX3_deed_246

def f_X3_runOne_L58 : Nat → Int32 → Int32 → Int32 → Nat → Int32 → MS → Option (Unit × MS)
  | 0, _, _, _, _, _, _ => none
  | f + 1, q4, q3, q2, q0, q1, s0 =>
    if 8 ≤ q4 then
      some ((), s0)
    else
      (m_gR s0 3 q0 8).bind fun r17 =>
      (m_gR s0 3 q0 12).bind fun r19 =>
      r19.bind fun a21 =>
      (m_aI s0 5 a21 q1).bind fun x22 =>
      r17.bind fun a24 =>
      (m_aI s0 5 a24 x22).bind fun x25 =>
      if ((x25 >>> (q4 &&& 31)) &&& 1) = 0 then
        f_X3_runOne_L58 f (q4 + 1) q3 q2 q0 q1 s0
      else
        (m_is s0 3 q0).bind fun _ =>
        m_b (f_X3_step q0 q1 s0) fun x28 s29 =>
        if x28 = 0 then
          if (5 : Int32) = 0 then
            f_X3_runOne_L58 f (q4 + 1) q3 q2 q0 q1 s29
          else
            (m_is s29 3 q0).bind fun _ =>
            m_b (f_X3_fail q0 q1 5 q4 q1 s29) fun u34 s35 =>
            some ((), s35)
        else
          (m_is s29 3 q0).bind fun _ =>
          m_b (f_X3_deed q0 q1 q4 q2 q3 s29) fun x38 s39 =>
          if x38 = 0 then
            f_X3_runOne_L58 f (q4 + 1) q3 q2 q0 q1 s39
          else
            (m_is s39 3 q0).bind fun _ =>
            m_b (f_X3_fail q0 q1 x38 q4 q1 s39) fun u43 s44 =>
            some ((), s44)
def f_X3_runOne (t0 : Nat) (p1 : Int32) (s0 : MS) : Option (Unit × MS) :=
  (m_gR s0 3 t0 12).bind fun r1 =>
  r1.bind fun a3 =>
  (m_aI s0 5 a3 p1).bind fun x4 =>
  (m_is s0 3 t0).bind fun _ =>
  m_b (f_X3_classOf t0 x4 s0) fun x6 s7 =>
  (m_gR s7 3 t0 13).bind fun r10 =>
  r10.bind fun a12 =>
  (m_aI s7 5 a12 ((4 * p1) + 2)).bind fun x13 =>
  if (x13 - 1) < 0 then
    f_X3_runOne_L58 64 0 (x13 - 1) x6 t0 p1 s7
  else
    (m_gR s7 3 t0 14).bind fun r47 =>
    r47.bind fun a49 =>
    (m_aI s7 5 a49 (x13 - 1)).bind fun x50 =>
    if x50 ≤ 0 then
      f_X3_runOne_L58 64 0 (x13 - 1) x6 t0 p1 s7
    else
      (m_gR s7 3 t0 16).bind fun r53 =>
      r53.bind fun a55 =>
      (m_aI s7 5 a55 (x13 - 1)).bind fun x56 =>
      (m_is s7 3 t0).bind fun _ =>
      m_b (f_X3_fail t0 p1 6 8 (x56 - 1) s7) fun u58 s59 =>
      some ((), s59)
set_option maxHeartbeats 4000000 in
set_option maxRecDepth 100000 in
theorem w_X3_runOne_L58 {p : Program} {l : Launch} {e : Env} {s : State} {m : MethodId} {args : Array Value} {below : List Frame} {meth : Method} {c : Code} (D : va_G) (tc : Nat → ClassId) (b : Nat) (S : CallFix p m c cX3_runOne 6 s args wsX3_runOne RX3) (hr : meth.sig.returnType = none) (hlk : meth.locks = false) (hK : va_K D vwCl (m_tys tc) s) :
    ∀ (f : Nat) (q4 : Int32) (q3 : Int32) (q2 : Int32) (q0 : Nat) (q1 : Int32) (s0 st' : MS) (r : Unit) (h : f_X3_runOne_L58 f q4 q3 q2 q0 q1 s0 = some (r, st')) (H : Heap) (locs : List Loc) (ls : Array Slot) (hP : mw D vwCl (m_tys tc) b s0 H) (hS : va_S (m_A b) s.heap H locs) (hl : lv_has ls 6 [(4, .int q4), (3, .int q3), (2, .int q2), (0, .ref q0), (1, .int q1)]), W p l e { frames := 3, cells := 0, slots := 0, locals := 70 } s m args below meth c H locs 0 0 (MQ below (m_Q D vwCl (m_tys tc) b none st') args s 0 0 (m_A b)) (F0 m 58 ls []) := by
  intro f
  induction f with
  | zero =>
    intro q4 q3 q2 q0 q1 s0 st' r h
    cases h
  | succ f ih =>
    intro q4 q3 q2 q0 q1 s0 st' r h H locs ls hP hS hl
    rw [f_X3_runOne_L58] at h
    refine lv_iload S.1 S.2.1 dX3_runOne_58 (lv_at hl 0 rfl) ?_
    refine lv_bipush (v := 8) S.1 S.2.1 dX3_runOne_60 (by decide) ?_
    refine lv_icmp_ge (tgt := 135) S.1 S.2.1 dX3_runOne_62 (by decide) (fun c16 => ?_) (fun c16 => ?_)
    · replace h := m_t c16 h
      obtain ⟨h1, h2⟩ := m_fin h; subst h1; subst h2
      exact m_vret S hr hlk hK hP hS (by decide +kernel) (by decide +kernel) dX3_runOne_135
    · replace h := m_f c16 h
      refine lv_aload_n S.1 S.2.1 dX3_runOne_65 rfl (lv_at hl 3 rfl) ?_
      obtain ⟨r17, e18, h⟩ := m_bs h
      refine m_get (ci := 3) (k := 8) (T := TX3) (N := 25) S (inX3 _) hK hP (m_gR_s e18) rfl (by decide) (S.2.2.2.2 (.fieldLink RX3 13 "RuleHouse2Model" "does" "[I") (m_mem (by decide +kernel))) rfl dX3_runOne_66 ?_
      refine lv_aload_n S.1 S.2.1 dX3_runOne_69 rfl (lv_at hl 3 rfl) ?_
      obtain ⟨r19, e20, h⟩ := m_bs h
      refine m_get (ci := 3) (k := 12) (T := TX3) (N := 25) S (inX3 _) hK hP (m_gR_s e20) rfl (by decide) (S.2.2.2.2 (.fieldLink RX3 27 "RuleHouse2Model" "rule" "[I") (m_mem (by decide +kernel))) rfl dX3_runOne_70 ?_
      refine lv_iload_n S.1 S.2.1 dX3_runOne_73 rfl (lv_at hl 4 rfl) ?_
      obtain ⟨a21, ea, g⟩ := m_bs h; clear h; subst ea; have h := g; clear g
      obtain ⟨x22, e23, h⟩ := m_bs h
      refine m_iald (t := 5) S hK hP (m_aI_s e23) rfl dX3_runOne_74 ?_
      obtain ⟨a24, ea, g⟩ := m_bs h; clear h; subst ea; have h := g; clear g
      obtain ⟨x25, e26, h⟩ := m_bs h
      refine m_iald (t := 5) S hK hP (m_aI_s e26) rfl dX3_runOne_75 ?_
      refine lv_iload S.1 S.2.1 dX3_runOne_76 (lv_at hl 0 rfl) ?_
      refine lv_ishr S.1 S.2.1 dX3_runOne_78 ?_
      refine lv_iconst (v := 1) S.1 S.2.1 dX3_runOne_79 (by decide) ?_
      refine lv_iand S.1 S.2.1 dX3_runOne_80 ?_
      refine lv_if_ne (tgt := 87) S.1 S.2.1 dX3_runOne_81 (by decide) (fun c27 => ?_) (fun c27 => ?_)
      · replace h := m_f c27 h
        refine lv_aload_n S.1 S.2.1 dX3_runOne_87 rfl (lv_at hl 3 rfl) ?_
        refine lv_iload_n S.1 S.2.1 dX3_runOne_88 rfl (lv_at hl 4 rfl) ?_
        obtain ⟨_, k31, h⟩ := m_bs h
        obtain ⟨x28, s29, e30, h⟩ := m_b_s h
        refine m_calli (va_runV (As := [.int q1]) (rest := []) S (c_X3_step l D tc b q0 q1 _ _ _ e30) (cwV 1 S.2.2.2.2 (m_wV kX3_step (by decide +kernel)) rfl rfl rfl (by decide +kernel) ⟨by decide +kernel, by decide +kernel⟩) (m_preV hK hP (m_is_s k31) rfl) rfl rfl hl.1 rfl (lv_room (by first | decide | simp [m_rfc, m_catI, m_catL, m_catA])) dX3_runOne_89 ⟨by decide +kernel, by decide +kernel⟩) hS (fun H locs hP hS => ?_)
        refine lv_if_eq (tgt := 107) S.1 S.2.1 dX3_runOne_92 (by decide) (fun c32 => ?_) (fun c32 => ?_)
        · replace h := m_t c32 h
          refine lv_iconst (v := 5) S.1 S.2.1 dX3_runOne_107 (by decide) ?_
          refine lv_istore (i := 5) (lv' := [(5, .int 5), (4, .int q4), (3, .int q3), (2, .int q2), (0, .ref q0), (1, .int q1)]) S.1 S.2.1 dX3_runOne_108 hl (by decide) (by first | rfl | simp [m_rfc, m_catI, m_catL, m_catA]) (fun ls hl => ?_)
          refine lv_iload S.1 S.2.1 dX3_runOne_110 (lv_at hl 0 rfl) ?_
          refine lv_if_ne (tgt := 118) S.1 S.2.1 dX3_runOne_112 (by decide) (fun c33 => ?_) (fun c33 => ?_)
          · replace h := m_f c33 h
            refine lv_aload_n S.1 S.2.1 dX3_runOne_118 rfl (lv_at hl 4 rfl) ?_
            refine lv_iload_n S.1 S.2.1 dX3_runOne_119 rfl (lv_at hl 5 rfl) ?_
            refine lv_iload S.1 S.2.1 dX3_runOne_120 (lv_at hl 0 rfl) ?_
            refine lv_iload S.1 S.2.1 dX3_runOne_122 (lv_at hl 1 rfl) ?_
            refine lv_iload_n S.1 S.2.1 dX3_runOne_124 rfl (lv_at hl 5 rfl) ?_
            obtain ⟨_, k37, h⟩ := m_bs h
            obtain ⟨u34, s35, e36, h⟩ := m_b_s h
            refine m_callv (va_runV (As := [.int q1, .int 5, .int q4, .int q1]) (rest := []) S (c_X3_fail l D tc b q0 q1 5 q4 q1 _ _ _ e36) (cwV 4 S.2.2.2.2 (m_wV kX3_fail (by decide +kernel)) rfl rfl rfl (by decide +kernel) ⟨by decide +kernel, by decide +kernel⟩) (m_preV hK hP (m_is_s k37) rfl) rfl rfl hl.1 rfl (lv_room (by first | decide | simp [m_rfc, m_catI, m_catL, m_catA])) dX3_runOne_125 ⟨by decide +kernel, by decide +kernel⟩) hS (fun H locs hP hS => ?_)
            obtain ⟨h1, h2⟩ := m_fin h; subst h1; subst h2
            exact m_vret S hr hlk hK hP hS (by decide +kernel) (by decide +kernel) dX3_runOne_128
          · replace h := m_t c33 h
            refine lv_goto (tgt := 129) S.1 S.2.1 dX3_runOne_115 (by decide) ?_
            refine lv_iinc (v := q4 + 1) (lv' := [(4, .int (q4 + 1)), (5, .int 5), (3, .int q3), (2, .int q2), (0, .ref q0), (1, .int q1)]) S.1 S.2.1 dX3_runOne_129 hl (k := 1) rfl rfl (by decide) (by first | rfl | simp [m_rfc, m_catI, m_catL, m_catA]) (fun ls hl => ?_)
            refine lv_goto (tgt := 58) S.1 S.2.1 dX3_runOne_132 (by decide) ?_
            exact ih (q4 + 1) q3 q2 q0 q1 _ _ _ h _ _ _ hP hS (lv_sub hl [0, 2, 3, 4, 5] rfl)
        · replace h := m_f c32 h
          refine lv_aload_n S.1 S.2.1 dX3_runOne_95 rfl (lv_at hl 3 rfl) ?_
          refine lv_iload_n S.1 S.2.1 dX3_runOne_96 rfl (lv_at hl 4 rfl) ?_
          refine lv_iload S.1 S.2.1 dX3_runOne_97 (lv_at hl 0 rfl) ?_
          refine lv_iload_n S.1 S.2.1 dX3_runOne_99 rfl (lv_at hl 2 rfl) ?_
          refine lv_iload_n S.1 S.2.1 dX3_runOne_100 rfl (lv_at hl 1 rfl) ?_
          obtain ⟨_, k41, h⟩ := m_bs h
          obtain ⟨x38, s39, e40, h⟩ := m_b_s h
          refine m_calli (va_runV (As := [.int q1, .int q4, .int q2, .int q3]) (rest := []) S (c_X3_deed l D tc b q0 q1 q4 q2 q3 _ _ _ e40) (cwV 4 S.2.2.2.2 (m_wV kX3_deed (by decide +kernel)) rfl rfl rfl (by decide +kernel) ⟨by decide +kernel, by decide +kernel⟩) (m_preV hK hP (m_is_s k41) rfl) rfl rfl hl.1 rfl (lv_room (by first | decide | simp [m_rfc, m_catI, m_catL, m_catA])) dX3_runOne_101 ⟨by decide +kernel, by decide +kernel⟩) hS (fun H locs hP hS => ?_)
          refine lv_goto (tgt := 108) S.1 S.2.1 dX3_runOne_104 (by decide) ?_
          refine lv_istore (i := 5) (lv' := [(5, .int x38), (4, .int q4), (3, .int q3), (2, .int q2), (0, .ref q0), (1, .int q1)]) S.1 S.2.1 dX3_runOne_108 hl (by decide) (by first | rfl | simp [m_rfc, m_catI, m_catL, m_catA]) (fun ls hl => ?_)
          refine lv_iload S.1 S.2.1 dX3_runOne_110 (lv_at hl 0 rfl) ?_
          refine lv_if_ne (tgt := 118) S.1 S.2.1 dX3_runOne_112 (by decide) (fun c42 => ?_) (fun c42 => ?_)
          · replace h := m_f c42 h
            refine lv_aload_n S.1 S.2.1 dX3_runOne_118 rfl (lv_at hl 4 rfl) ?_
            refine lv_iload_n S.1 S.2.1 dX3_runOne_119 rfl (lv_at hl 5 rfl) ?_
            refine lv_iload S.1 S.2.1 dX3_runOne_120 (lv_at hl 0 rfl) ?_
            refine lv_iload S.1 S.2.1 dX3_runOne_122 (lv_at hl 1 rfl) ?_
            refine lv_iload_n S.1 S.2.1 dX3_runOne_124 rfl (lv_at hl 5 rfl) ?_
            obtain ⟨_, k46, h⟩ := m_bs h
            obtain ⟨u43, s44, e45, h⟩ := m_b_s h
            refine m_callv (va_runV (As := [.int q1, .int x38, .int q4, .int q1]) (rest := []) S (c_X3_fail l D tc b q0 q1 x38 q4 q1 _ _ _ e45) (cwV 4 S.2.2.2.2 (m_wV kX3_fail (by decide +kernel)) rfl rfl rfl (by decide +kernel) ⟨by decide +kernel, by decide +kernel⟩) (m_preV hK hP (m_is_s k46) rfl) rfl rfl hl.1 rfl (lv_room (by first | decide | simp [m_rfc, m_catI, m_catL, m_catA])) dX3_runOne_125 ⟨by decide +kernel, by decide +kernel⟩) hS (fun H locs hP hS => ?_)
            obtain ⟨h1, h2⟩ := m_fin h; subst h1; subst h2
            exact m_vret S hr hlk hK hP hS (by decide +kernel) (by decide +kernel) dX3_runOne_128
          · replace h := m_t c42 h
            refine lv_goto (tgt := 129) S.1 S.2.1 dX3_runOne_115 (by decide) ?_
            refine lv_iinc (v := q4 + 1) (lv' := [(4, .int (q4 + 1)), (5, .int x38), (3, .int q3), (2, .int q2), (0, .ref q0), (1, .int q1)]) S.1 S.2.1 dX3_runOne_129 hl (k := 1) rfl rfl (by decide) (by first | rfl | simp [m_rfc, m_catI, m_catL, m_catA]) (fun ls hl => ?_)
            refine lv_goto (tgt := 58) S.1 S.2.1 dX3_runOne_132 (by decide) ?_
            exact ih (q4 + 1) q3 q2 q0 q1 _ _ _ h _ _ _ hP hS (lv_sub hl [0, 2, 3, 4, 5] rfl)
      · replace h := m_t c27 h
        refine lv_goto (tgt := 129) S.1 S.2.1 dX3_runOne_84 (by decide) ?_
        refine lv_iinc (v := q4 + 1) (lv' := [(4, .int (q4 + 1)), (3, .int q3), (2, .int q2), (0, .ref q0), (1, .int q1)]) S.1 S.2.1 dX3_runOne_129 hl (k := 0) rfl rfl (by decide) (by first | rfl | simp [m_rfc, m_catI, m_catL, m_catA]) (fun ls hl => ?_)
        refine lv_goto (tgt := 58) S.1 S.2.1 dX3_runOne_132 (by decide) ?_
        exact ih (q4 + 1) q3 q2 q0 q1 _ _ _ h _ _ _ hP hS (lv_sub hl [0, 1, 2, 3, 4] rfl)
set_option maxHeartbeats 4000000 in
set_option maxRecDepth 100000 in
theorem c_X3_runOne (l : Launch) (D : va_G) (tc : Nat → ClassId) (b : Nat) (t0 : Nat) (p1 : Int32) (s0 st' : MS) (r : Unit) (h : f_X3_runOne t0 p1 s0 = some (r, st')) : Met l yX3_runOne wsX3_runOne ({ frames := 3, cells := 0, slots := 0, locals := 70 }) (m_Pc D vwCl (m_tys tc) b s0 [.ref t0, .int p1]) (m_Q D vwCl (m_tys tc) b none st') 0 0 (m_A b) := by
  unfold f_X3_runOne at h
  refine m_met (cc := cX3_runOne) (maxL := 6) (ret := none) (by decide) rfl (by first | exact Nat.le_of_ble_eq_true rfl | simp [lg_sl, m_rfc, m_catI, m_catL, m_catA]) ?_
  intro p e s m below meth c ls S hr hlk hnm hK hP hl hS
  replace hl : lv_has ls 6 [(0, .ref t0), (1, .int p1)] := by first | exact hl | simpa [lv_args, m_rfc, m_catI, m_catL, m_catA] using hl
  refine lv_aload_n S.1 S.2.1 dX3_runOne_0 rfl (lv_at hl 0 rfl) ?_
  refine lv_aload_n S.1 S.2.1 dX3_runOne_1 rfl (lv_at hl 0 rfl) ?_
  obtain ⟨r1, e2, h⟩ := m_bs h
  refine m_get (ci := 3) (k := 12) (T := TX3) (N := 25) S (inX3 _) hK hP (m_gR_s e2) rfl (by decide) (S.2.2.2.2 (.fieldLink RX3 27 "RuleHouse2Model" "rule" "[I") (m_mem (by decide +kernel))) rfl dX3_runOne_2 ?_
  refine lv_iload_n S.1 S.2.1 dX3_runOne_5 rfl (lv_at hl 1 rfl) ?_
  obtain ⟨a3, ea, g⟩ := m_bs h; clear h; subst ea; have h := g; clear g
  obtain ⟨x4, e5, h⟩ := m_bs h
  refine m_iald (t := 5) S hK hP (m_aI_s e5) rfl dX3_runOne_6 ?_
  obtain ⟨_, k9, h⟩ := m_bs h
  obtain ⟨x6, s7, e8, h⟩ := m_b_s h
  refine m_calli (va_runV (As := [.int x4]) (rest := []) S (c_X3_classOf l D tc b t0 x4 _ _ _ e8) (cwV 1 S.2.2.2.2 (m_wV kX3_classOf (by decide +kernel)) rfl rfl rfl (by decide +kernel) ⟨by decide +kernel, by decide +kernel⟩) (m_preV hK hP (m_is_s k9) rfl) rfl rfl hl.1 rfl (lv_room (by first | decide | simp [m_rfc, m_catI, m_catL, m_catA])) dX3_runOne_7 ⟨by decide +kernel, by decide +kernel⟩) hS (fun H locs hP hS => ?_)
  refine lv_istore_n (i := 2) (lv' := [(2, .int x6), (0, .ref t0), (1, .int p1)]) S.1 S.2.1 dX3_runOne_10 rfl hl (by decide) (by first | rfl | simp [m_rfc, m_catI, m_catL, m_catA]) (fun ls hl => ?_)
  refine lv_aload_n S.1 S.2.1 dX3_runOne_11 rfl (lv_at hl 1 rfl) ?_
  obtain ⟨r10, e11, h⟩ := m_bs h
  refine m_get (ci := 3) (k := 13) (T := TX3) (N := 25) S (inX3 _) hK hP (m_gR_s e11) rfl (by decide) (S.2.2.2.2 (.fieldLink RX3 30 "RuleHouse2Model" "attributes" "[I") (m_mem (by decide +kernel))) rfl dX3_runOne_12 ?_
  refine lv_iconst (v := 4) S.1 S.2.1 dX3_runOne_15 (by decide) ?_
  refine lv_iload_n S.1 S.2.1 dX3_runOne_16 rfl (lv_at hl 2 rfl) ?_
  refine lv_imul S.1 S.2.1 dX3_runOne_17 ?_
  refine lv_iconst (v := 2) S.1 S.2.1 dX3_runOne_18 (by decide) ?_
  refine lv_iadd S.1 S.2.1 dX3_runOne_19 ?_
  obtain ⟨a12, ea, g⟩ := m_bs h; clear h; subst ea; have h := g; clear g
  obtain ⟨x13, e14, h⟩ := m_bs h
  refine m_iald (t := 5) S hK hP (m_aI_s e14) rfl dX3_runOne_20 ?_
  refine lv_iconst (v := 1) S.1 S.2.1 dX3_runOne_21 (by decide) ?_
  refine lv_isub S.1 S.2.1 dX3_runOne_22 ?_
  refine lv_istore_n (i := 3) (lv' := [(3, .int (x13 - 1)), (2, .int x6), (0, .ref t0), (1, .int p1)]) S.1 S.2.1 dX3_runOne_23 rfl hl (by decide) (by first | rfl | simp [m_rfc, m_catI, m_catL, m_catA]) (fun ls hl => ?_)
  refine lv_iload_n S.1 S.2.1 dX3_runOne_24 rfl (lv_at hl 0 rfl) ?_
  refine lv_if_lt (tgt := 55) S.1 S.2.1 dX3_runOne_25 (by decide) (fun c15 => ?_) (fun c15 => ?_)
  · replace h := m_t c15 h
    refine lv_iconst (v := 0) S.1 S.2.1 dX3_runOne_55 (by decide) ?_
    refine lv_istore (i := 4) (lv' := [(4, .int 0), (3, .int (x13 - 1)), (2, .int x6), (0, .ref t0), (1, .int p1)]) S.1 S.2.1 dX3_runOne_56 hl (by decide) (by first | rfl | simp [m_rfc, m_catI, m_catL, m_catA]) (fun ls hl => ?_)
    exact w_X3_runOne_L58 D tc b S hr hlk hK 64 0 (x13 - 1) x6 t0 p1 _ _ _ h _ _ _ hP hS (lv_sub hl [0, 1, 2, 3, 4] rfl)
  · replace h := m_f c15 h
    refine lv_aload_n S.1 S.2.1 dX3_runOne_28 rfl (lv_at hl 2 rfl) ?_
    obtain ⟨r47, e48, h⟩ := m_bs h
    refine m_get (ci := 3) (k := 14) (T := TX3) (N := 25) S (inX3 _) hK hP (m_gR_s e48) rfl (by decide) (S.2.2.2.2 (.fieldLink RX3 33 "RuleHouse2Model" "failure" "[I") (m_mem (by decide +kernel))) rfl dX3_runOne_29 ?_
    refine lv_iload_n S.1 S.2.1 dX3_runOne_32 rfl (lv_at hl 0 rfl) ?_
    obtain ⟨a49, ea, g⟩ := m_bs h; clear h; subst ea; have h := g; clear g
    obtain ⟨x50, e51, h⟩ := m_bs h
    refine m_iald (t := 5) S hK hP (m_aI_s e51) rfl dX3_runOne_33 ?_
    refine lv_if_le (tgt := 55) S.1 S.2.1 dX3_runOne_34 (by decide) (fun c52 => ?_) (fun c52 => ?_)
    · replace h := m_t c52 h
      refine lv_iconst (v := 0) S.1 S.2.1 dX3_runOne_55 (by decide) ?_
      refine lv_istore (i := 4) (lv' := [(4, .int 0), (3, .int (x13 - 1)), (2, .int x6), (0, .ref t0), (1, .int p1)]) S.1 S.2.1 dX3_runOne_56 hl (by decide) (by first | rfl | simp [m_rfc, m_catI, m_catL, m_catA]) (fun ls hl => ?_)
      exact w_X3_runOne_L58 D tc b S hr hlk hK 64 0 (x13 - 1) x6 t0 p1 _ _ _ h _ _ _ hP hS (lv_sub hl [0, 1, 2, 3, 4] rfl)
    · replace h := m_f c52 h
      refine lv_aload_n S.1 S.2.1 dX3_runOne_37 rfl (lv_at hl 2 rfl) ?_
      refine lv_iload_n S.1 S.2.1 dX3_runOne_38 rfl (lv_at hl 3 rfl) ?_
      refine lv_bipush (v := 6) S.1 S.2.1 dX3_runOne_39 (by decide) ?_
      refine lv_bipush (v := 8) S.1 S.2.1 dX3_runOne_41 (by decide) ?_
      refine lv_aload_n S.1 S.2.1 dX3_runOne_43 rfl (lv_at hl 2 rfl) ?_
      obtain ⟨r53, e54, h⟩ := m_bs h
      refine m_get (ci := 3) (k := 16) (T := TX3) (N := 25) S (inX3 _) hK hP (m_gR_s e54) rfl (by decide) (S.2.2.2.2 (.fieldLink RX3 39 "RuleHouse2Model" "began" "[I") (m_mem (by decide +kernel))) rfl dX3_runOne_44 ?_
      refine lv_iload_n S.1 S.2.1 dX3_runOne_47 rfl (lv_at hl 0 rfl) ?_
      obtain ⟨a55, ea, g⟩ := m_bs h; clear h; subst ea; have h := g; clear g
      obtain ⟨x56, e57, h⟩ := m_bs h
      refine m_iald (t := 5) S hK hP (m_aI_s e57) rfl dX3_runOne_48 ?_
      refine lv_iconst (v := 1) S.1 S.2.1 dX3_runOne_49 (by decide) ?_
      refine lv_isub S.1 S.2.1 dX3_runOne_50 ?_
      obtain ⟨_, k61, h⟩ := m_bs h
      obtain ⟨u58, s59, e60, h⟩ := m_b_s h
      refine m_callv (va_runV (As := [.int p1, .int 6, .int 8, .int (x56 - 1)]) (rest := []) S (c_X3_fail l D tc b t0 p1 6 8 (x56 - 1) _ _ _ e60) (cwV 4 S.2.2.2.2 (m_wV kX3_fail (by decide +kernel)) rfl rfl rfl (by decide +kernel) ⟨by decide +kernel, by decide +kernel⟩) (m_preV hK hP (m_is_s k61) rfl) rfl rfl hl.1 rfl (lv_room (by first | decide | simp [m_rfc, m_catI, m_catL, m_catA])) dX3_runOne_51 ⟨by decide +kernel, by decide +kernel⟩) hS (fun H locs hP hS => ?_)
      obtain ⟨h1, h2⟩ := m_fin h; subst h1; subst h2
      exact m_vret S hr hlk hK hP hS (by decide +kernel) (by decide +kernel) dX3_runOne_54
end
section
def f_X3_runChain_L99 : Nat → Int32 → Int32 → Int32 → Int32 → Nat → Int32 → MS → Option (Unit × MS)
  | 0, _, _, _, _, _, _, _ => none
  | f + 1, q5, q4, q3, q2, q0, q1, s0 =>
    if q5 < 0 then
      some ((), s0)
    else
      (m_gR s0 3 q0 14).bind fun r3 =>
      (m_gR s0 3 q0 19).bind fun r5 =>
      r5.bind fun a7 =>
      (m_aI s0 5 a7 q5).bind fun x8 =>
      r3.bind fun a10 =>
      (m_aI s0 5 a10 x8).bind fun x11 =>
      if x11 = 0 then
        (m_gR s0 3 q0 19).bind fun r14 =>
        r14.bind fun a16 =>
        (m_aI s0 5 a16 q5).bind fun x17 =>
        (m_is s0 3 q0).bind fun _ =>
        m_b (f_X3_runOne q0 x17 s0) fun u19 s20 =>
        f_X3_runChain_L99 f (q5 + (-1)) q4 q3 q2 q0 q1 s20
      else
        f_X3_runChain_L99 f (q5 + (-1)) q4 q3 q2 q0 q1 s0
def f_X3_runChain_L7 : Nat → Int32 → Int32 → Int32 → Nat → Int32 → MS → Option (Unit × MS)
  | 0, _, _, _, _, _, _ => none
  | f + 1, q4, q3, q2, q0, q1, s0 =>
    if q4 = 0 then
      f_X3_runChain_L99 64 (q2 - 1) q4 q3 q2 q0 q1 s0
    else
      (m_gR s0 3 q0 21).bind fun r23 =>
      r23.bind fun a25 =>
      (m_ap s0 6 a25 q3 (.int 1)).bind fun s26 =>
      (m_gR s26 3 q0 19).bind fun r28 =>
      r28.bind fun a30 =>
      (m_ap s26 5 a30 q2 (.int q3)).bind fun s31 =>
      (m_gR s31 3 q0 12).bind fun r33 =>
      r33.bind fun a35 =>
      (m_aI s31 5 a35 q3).bind fun x36 =>
      (m_is s31 3 q0).bind fun _ =>
      m_b (f_X3_classOf q0 x36 s31) fun x38 s39 =>
      if x38 = (-1) then
        (m_is s39 3 q0).bind fun _ =>
        m_b (f_X3_fail q0 q3 1 8 q3 s39) fun u55 s56 =>
        f_X3_runChain_L7 f 0 q3 (q2 + 1) q0 q1 s56
      else
        (m_gR s39 3 q0 13).bind fun r43 =>
        r43.bind fun a45 =>
        (m_aI s39 5 a45 ((4 * q3) + 2)).bind fun x46 =>
        if (x46 - 1) < 0 then
          f_X3_runChain_L7 f 0 (x46 - 1) (q2 + 1) q0 q1 s39
        else
          (m_gR s39 3 q0 21).bind fun r49 =>
          r49.bind fun a51 =>
          (m_aI s39 6 a51 (x46 - 1)).bind fun x52 =>
          if x52 = 0 then
            f_X3_runChain_L7 f 1 (x46 - 1) (q2 + 1) q0 q1 s39
          else
            f_X3_runChain_L7 f 0 (x46 - 1) (q2 + 1) q0 q1 s39
def f_X3_runChain (t0 : Nat) (p1 : Int32) (s0 : MS) : Option (Unit × MS) :=
  f_X3_runChain_L7 64 1 p1 0 t0 p1 s0
set_option maxHeartbeats 4000000 in
set_option maxRecDepth 100000 in
theorem w_X3_runChain_L99 {p : Program} {l : Launch} {e : Env} {s : State} {m : MethodId} {args : Array Value} {below : List Frame} {meth : Method} {c : Code} (D : va_G) (tc : Nat → ClassId) (b : Nat) (S : CallFix p m c cX3_runChain 6 s args wsX3_runChain RX3) (hr : meth.sig.returnType = none) (hlk : meth.locks = false) (hK : va_K D vwCl (m_tys tc) s) :
    ∀ (f : Nat) (q5 : Int32) (q4 : Int32) (q3 : Int32) (q2 : Int32) (q0 : Nat) (q1 : Int32) (s0 st' : MS) (r : Unit) (h : f_X3_runChain_L99 f q5 q4 q3 q2 q0 q1 s0 = some (r, st')) (H : Heap) (locs : List Loc) (ls : Array Slot) (hP : mw D vwCl (m_tys tc) b s0 H) (hS : va_S (m_A b) s.heap H locs) (hl : lv_has ls 6 [(5, .int q5), (4, .int q4), (3, .int q3), (2, .int q2), (0, .ref q0), (1, .int q1)]), W p l e { frames := 4, cells := 0, slots := 0, locals := 95 } s m args below meth c H locs 0 0 (MQ below (m_Q D vwCl (m_tys tc) b none st') args s 0 0 (m_A b)) (F0 m 99 ls []) := by
  intro f
  induction f with
  | zero =>
    intro q5 q4 q3 q2 q0 q1 s0 st' r h
    cases h
  | succ f ih =>
    intro q5 q4 q3 q2 q0 q1 s0 st' r h H locs ls hP hS hl
    rw [f_X3_runChain_L99] at h
    refine lv_iload S.1 S.2.1 dX3_runChain_99 (lv_at hl 0 rfl) ?_
    refine lv_if_lt (tgt := 136) S.1 S.2.1 dX3_runChain_101 (by decide) (fun c2 => ?_) (fun c2 => ?_)
    · replace h := m_t c2 h
      obtain ⟨h1, h2⟩ := m_fin h; subst h1; subst h2
      exact m_vret S hr hlk hK hP hS (by decide +kernel) (by decide +kernel) dX3_runChain_136
    · replace h := m_f c2 h
      refine lv_aload_n S.1 S.2.1 dX3_runChain_104 rfl (lv_at hl 4 rfl) ?_
      obtain ⟨r3, e4, h⟩ := m_bs h
      refine m_get (ci := 3) (k := 14) (T := TX3) (N := 25) S (inX3 _) hK hP (m_gR_s e4) rfl (by decide) (S.2.2.2.2 (.fieldLink RX3 33 "RuleHouse2Model" "failure" "[I") (m_mem (by decide +kernel))) rfl dX3_runChain_105 ?_
      refine lv_aload_n S.1 S.2.1 dX3_runChain_108 rfl (lv_at hl 4 rfl) ?_
      obtain ⟨r5, e6, h⟩ := m_bs h
      refine m_get (ci := 3) (k := 19) (T := TX3) (N := 25) S (inX3 _) hK hP (m_gR_s e6) rfl (by decide) (S.2.2.2.2 (.fieldLink RX3 48 "RuleHouse2Model" "chain" "[I") (m_mem (by decide +kernel))) rfl dX3_runChain_109 ?_
      refine lv_iload S.1 S.2.1 dX3_runChain_112 (lv_at hl 0 rfl) ?_
      obtain ⟨a7, ea, g⟩ := m_bs h; clear h; subst ea; have h := g; clear g
      obtain ⟨x8, e9, h⟩ := m_bs h
      refine m_iald (t := 5) S hK hP (m_aI_s e9) rfl dX3_runChain_114 ?_
      obtain ⟨a10, ea, g⟩ := m_bs h; clear h; subst ea; have h := g; clear g
      obtain ⟨x11, e12, h⟩ := m_bs h
      refine m_iald (t := 5) S hK hP (m_aI_s e12) rfl dX3_runChain_115 ?_
      refine lv_if_ne (tgt := 130) S.1 S.2.1 dX3_runChain_116 (by decide) (fun c13 => ?_) (fun c13 => ?_)
      · replace h := m_f c13 h
        refine lv_iinc (v := q5 + (-1)) (lv' := [(5, .int (q5 + (-1))), (4, .int q4), (3, .int q3), (2, .int q2), (0, .ref q0), (1, .int q1)]) S.1 S.2.1 dX3_runChain_130 hl (k := 0) rfl rfl (by decide) (by first | rfl | simp [m_rfc, m_catI, m_catL, m_catA]) (fun ls hl => ?_)
        refine lv_goto (tgt := 99) S.1 S.2.1 dX3_runChain_133 (by decide) ?_
        exact ih (q5 + (-1)) q4 q3 q2 q0 q1 _ _ _ h _ _ _ hP hS (lv_sub hl [0, 1, 2, 3, 4, 5] rfl)
      · replace h := m_t c13 h
        refine lv_aload_n S.1 S.2.1 dX3_runChain_119 rfl (lv_at hl 4 rfl) ?_
        refine lv_aload_n S.1 S.2.1 dX3_runChain_120 rfl (lv_at hl 4 rfl) ?_
        obtain ⟨r14, e15, h⟩ := m_bs h
        refine m_get (ci := 3) (k := 19) (T := TX3) (N := 25) S (inX3 _) hK hP (m_gR_s e15) rfl (by decide) (S.2.2.2.2 (.fieldLink RX3 48 "RuleHouse2Model" "chain" "[I") (m_mem (by decide +kernel))) rfl dX3_runChain_121 ?_
        refine lv_iload S.1 S.2.1 dX3_runChain_124 (lv_at hl 0 rfl) ?_
        obtain ⟨a16, ea, g⟩ := m_bs h; clear h; subst ea; have h := g; clear g
        obtain ⟨x17, e18, h⟩ := m_bs h
        refine m_iald (t := 5) S hK hP (m_aI_s e18) rfl dX3_runChain_126 ?_
        obtain ⟨_, k22, h⟩ := m_bs h
        obtain ⟨u19, s20, e21, h⟩ := m_b_s h
        refine m_callv (va_runV (As := [.int x17]) (rest := []) S (c_X3_runOne l D tc b q0 x17 _ _ _ e21) (cwV 1 S.2.2.2.2 (m_wV kX3_runOne (by decide +kernel)) rfl rfl rfl (by decide +kernel) ⟨by decide +kernel, by decide +kernel⟩) (m_preV hK hP (m_is_s k22) rfl) rfl rfl hl.1 rfl (lv_room (by first | decide | simp [m_rfc, m_catI, m_catL, m_catA])) dX3_runChain_127 ⟨by decide +kernel, by decide +kernel⟩) hS (fun H locs hP hS => ?_)
        refine lv_iinc (v := q5 + (-1)) (lv' := [(5, .int (q5 + (-1))), (4, .int q4), (3, .int q3), (2, .int q2), (0, .ref q0), (1, .int q1)]) S.1 S.2.1 dX3_runChain_130 hl (k := 0) rfl rfl (by decide) (by first | rfl | simp [m_rfc, m_catI, m_catL, m_catA]) (fun ls hl => ?_)
        refine lv_goto (tgt := 99) S.1 S.2.1 dX3_runChain_133 (by decide) ?_
        exact ih (q5 + (-1)) q4 q3 q2 q0 q1 _ _ _ h _ _ _ hP hS (lv_sub hl [0, 1, 2, 3, 4, 5] rfl)
set_option maxHeartbeats 4000000 in
set_option maxRecDepth 100000 in
theorem w_X3_runChain_L7 {p : Program} {l : Launch} {e : Env} {s : State} {m : MethodId} {args : Array Value} {below : List Frame} {meth : Method} {c : Code} (D : va_G) (tc : Nat → ClassId) (b : Nat) (S : CallFix p m c cX3_runChain 6 s args wsX3_runChain RX3) (hr : meth.sig.returnType = none) (hlk : meth.locks = false) (hK : va_K D vwCl (m_tys tc) s) :
    ∀ (f : Nat) (q4 : Int32) (q3 : Int32) (q2 : Int32) (q0 : Nat) (q1 : Int32) (s0 st' : MS) (r : Unit) (h : f_X3_runChain_L7 f q4 q3 q2 q0 q1 s0 = some (r, st')) (H : Heap) (locs : List Loc) (ls : Array Slot) (hP : mw D vwCl (m_tys tc) b s0 H) (hS : va_S (m_A b) s.heap H locs) (hl : lv_has ls 6 [(4, .int q4), (3, .int q3), (2, .int q2), (0, .ref q0), (1, .int q1)]), W p l e { frames := 4, cells := 0, slots := 0, locals := 95 } s m args below meth c H locs 0 0 (MQ below (m_Q D vwCl (m_tys tc) b none st') args s 0 0 (m_A b)) (F0 m 7 ls []) := by
  intro f
  induction f with
  | zero =>
    intro q4 q3 q2 q0 q1 s0 st' r h
    cases h
  | succ f ih =>
    intro q4 q3 q2 q0 q1 s0 st' r h H locs ls hP hS hl
    rw [f_X3_runChain_L7] at h
    refine lv_iload S.1 S.2.1 dX3_runChain_7 (lv_at hl 0 rfl) ?_
    refine lv_if_eq (tgt := 94) S.1 S.2.1 dX3_runChain_9 (by decide) (fun c1 => ?_) (fun c1 => ?_)
    · replace h := m_t c1 h
      refine lv_iload_n S.1 S.2.1 dX3_runChain_94 rfl (lv_at hl 2 rfl) ?_
      refine lv_iconst (v := 1) S.1 S.2.1 dX3_runChain_95 (by decide) ?_
      refine lv_isub S.1 S.2.1 dX3_runChain_96 ?_
      refine lv_istore (i := 5) (lv' := [(5, .int (q2 - 1)), (4, .int q4), (3, .int q3), (2, .int q2), (0, .ref q0), (1, .int q1)]) S.1 S.2.1 dX3_runChain_97 hl (by decide) (by first | rfl | simp [m_rfc, m_catI, m_catL, m_catA]) (fun ls hl => ?_)
      exact w_X3_runChain_L99 D tc b S hr hlk hK 64 (q2 - 1) q4 q3 q2 q0 q1 _ _ _ h _ _ _ hP hS (lv_sub hl [0, 1, 2, 3, 4, 5] rfl)
    · replace h := m_f c1 h
      refine lv_aload_n S.1 S.2.1 dX3_runChain_12 rfl (lv_at hl 3 rfl) ?_
      obtain ⟨r23, e24, h⟩ := m_bs h
      refine m_get (ci := 3) (k := 21) (T := TX3) (N := 25) S (inX3 _) hK hP (m_gR_s e24) rfl (by decide) (S.2.2.2.2 (.fieldLink RX3 54 "RuleHouse2Model" "run" "[Z") (m_mem (by decide +kernel))) rfl dX3_runChain_13 ?_
      refine lv_iload_n S.1 S.2.1 dX3_runChain_16 rfl (lv_at hl 1 rfl) ?_
      refine lv_iconst (v := 1) S.1 S.2.1 dX3_runChain_17 (by decide) ?_
      obtain ⟨a25, ea, g⟩ := m_bs h; clear h; subst ea; have h := g; clear g
      obtain ⟨s26, e27, h⟩ := m_bs h
      refine m_zast (t := 6) S hK hP hS e27 (by decide) rfl (by decide) dX3_runChain_18 (fun H locs hP hS => ?_)
      refine lv_aload_n S.1 S.2.1 dX3_runChain_19 rfl (lv_at hl 3 rfl) ?_
      obtain ⟨r28, e29, h⟩ := m_bs h
      refine m_get (ci := 3) (k := 19) (T := TX3) (N := 25) S (inX3 _) hK hP (m_gR_s e29) rfl (by decide) (S.2.2.2.2 (.fieldLink RX3 48 "RuleHouse2Model" "chain" "[I") (m_mem (by decide +kernel))) rfl dX3_runChain_20 ?_
      refine lv_iload_n S.1 S.2.1 dX3_runChain_23 rfl (lv_at hl 2 rfl) ?_
      refine lv_iload_n S.1 S.2.1 dX3_runChain_24 rfl (lv_at hl 1 rfl) ?_
      obtain ⟨a30, ea, g⟩ := m_bs h; clear h; subst ea; have h := g; clear g
      obtain ⟨s31, e32, h⟩ := m_bs h
      refine m_iast (t := 5) S hK hP hS e32 (by decide) rfl dX3_runChain_25 (fun H locs hP hS => ?_)
      refine lv_iinc (v := q2 + 1) (lv' := [(2, .int (q2 + 1)), (4, .int q4), (3, .int q3), (0, .ref q0), (1, .int q1)]) S.1 S.2.1 dX3_runChain_26 hl (k := 2) rfl rfl (by decide) (by first | rfl | simp [m_rfc, m_catI, m_catL, m_catA]) (fun ls hl => ?_)
      refine lv_aload_n S.1 S.2.1 dX3_runChain_29 rfl (lv_at hl 3 rfl) ?_
      refine lv_aload_n S.1 S.2.1 dX3_runChain_30 rfl (lv_at hl 3 rfl) ?_
      obtain ⟨r33, e34, h⟩ := m_bs h
      refine m_get (ci := 3) (k := 12) (T := TX3) (N := 25) S (inX3 _) hK hP (m_gR_s e34) rfl (by decide) (S.2.2.2.2 (.fieldLink RX3 27 "RuleHouse2Model" "rule" "[I") (m_mem (by decide +kernel))) rfl dX3_runChain_31 ?_
      refine lv_iload_n S.1 S.2.1 dX3_runChain_34 rfl (lv_at hl 2 rfl) ?_
      obtain ⟨a35, ea, g⟩ := m_bs h; clear h; subst ea; have h := g; clear g
      obtain ⟨x36, e37, h⟩ := m_bs h
      refine m_iald (t := 5) S hK hP (m_aI_s e37) rfl dX3_runChain_35 ?_
      obtain ⟨_, k41, h⟩ := m_bs h
      obtain ⟨x38, s39, e40, h⟩ := m_b_s h
      refine m_calli (va_runV (As := [.int x36]) (rest := []) S (c_X3_classOf l D tc b q0 x36 _ _ _ e40) (cwV 1 S.2.2.2.2 (m_wV kX3_classOf (by decide +kernel)) rfl rfl rfl (by decide +kernel) ⟨by decide +kernel, by decide +kernel⟩) (m_preV hK hP (m_is_s k41) rfl) rfl rfl hl.1 rfl (lv_room (by first | decide | simp [m_rfc, m_catI, m_catL, m_catA])) dX3_runChain_36 ⟨by decide +kernel, by decide +kernel⟩) hS (fun H locs hP hS => ?_)
      refine lv_iconst (v := (-1)) S.1 S.2.1 dX3_runChain_39 (by decide) ?_
      refine lv_icmp_ne (tgt := 58) S.1 S.2.1 dX3_runChain_40 (by decide) (fun c42 => ?_) (fun c42 => ?_)
      · replace h := m_f c42 h
        refine lv_aload_n S.1 S.2.1 dX3_runChain_58 rfl (lv_at hl 3 rfl) ?_
        obtain ⟨r43, e44, h⟩ := m_bs h
        refine m_get (ci := 3) (k := 13) (T := TX3) (N := 25) S (inX3 _) hK hP (m_gR_s e44) rfl (by decide) (S.2.2.2.2 (.fieldLink RX3 30 "RuleHouse2Model" "attributes" "[I") (m_mem (by decide +kernel))) rfl dX3_runChain_59 ?_
        refine lv_iconst (v := 4) S.1 S.2.1 dX3_runChain_62 (by decide) ?_
        refine lv_iload_n S.1 S.2.1 dX3_runChain_63 rfl (lv_at hl 2 rfl) ?_
        refine lv_imul S.1 S.2.1 dX3_runChain_64 ?_
        refine lv_iconst (v := 2) S.1 S.2.1 dX3_runChain_65 (by decide) ?_
        refine lv_iadd S.1 S.2.1 dX3_runChain_66 ?_
        obtain ⟨a45, ea, g⟩ := m_bs h; clear h; subst ea; have h := g; clear g
        obtain ⟨x46, e47, h⟩ := m_bs h
        refine m_iald (t := 5) S hK hP (m_aI_s e47) rfl dX3_runChain_67 ?_
        refine lv_iconst (v := 1) S.1 S.2.1 dX3_runChain_68 (by decide) ?_
        refine lv_isub S.1 S.2.1 dX3_runChain_69 ?_
        refine lv_istore_n (i := 3) (lv' := [(3, .int (x46 - 1)), (2, .int (q2 + 1)), (4, .int q4), (0, .ref q0), (1, .int q1)]) S.1 S.2.1 dX3_runChain_70 rfl hl (by decide) (by first | rfl | simp [m_rfc, m_catI, m_catL, m_catA]) (fun ls hl => ?_)
        refine lv_iload_n S.1 S.2.1 dX3_runChain_71 rfl (lv_at hl 0 rfl) ?_
        refine lv_if_lt (tgt := 88) S.1 S.2.1 dX3_runChain_72 (by decide) (fun c48 => ?_) (fun c48 => ?_)
        · replace h := m_t c48 h
          refine lv_iconst (v := 0) S.1 S.2.1 dX3_runChain_88 (by decide) ?_
          refine lv_istore (i := 4) (lv' := [(4, .int 0), (3, .int (x46 - 1)), (2, .int (q2 + 1)), (0, .ref q0), (1, .int q1)]) S.1 S.2.1 dX3_runChain_89 hl (by decide) (by first | rfl | simp [m_rfc, m_catI, m_catL, m_catA]) (fun ls hl => ?_)
          refine lv_goto (tgt := 7) S.1 S.2.1 dX3_runChain_91 (by decide) ?_
          exact ih 0 (x46 - 1) (q2 + 1) q0 q1 _ _ _ h _ _ _ hP hS (lv_sub hl [0, 1, 2, 3, 4] rfl)
        · replace h := m_f c48 h
          refine lv_aload_n S.1 S.2.1 dX3_runChain_75 rfl (lv_at hl 3 rfl) ?_
          obtain ⟨r49, e50, h⟩ := m_bs h
          refine m_get (ci := 3) (k := 21) (T := TX3) (N := 25) S (inX3 _) hK hP (m_gR_s e50) rfl (by decide) (S.2.2.2.2 (.fieldLink RX3 54 "RuleHouse2Model" "run" "[Z") (m_mem (by decide +kernel))) rfl dX3_runChain_76 ?_
          refine lv_iload_n S.1 S.2.1 dX3_runChain_79 rfl (lv_at hl 0 rfl) ?_
          obtain ⟨a51, ea, g⟩ := m_bs h; clear h; subst ea; have h := g; clear g
          obtain ⟨x52, e53, h⟩ := m_bs h
          refine m_zald (t := 6) S hK hP (m_aI_s e53) rfl dX3_runChain_80 ?_
          refine lv_if_ne (tgt := 88) S.1 S.2.1 dX3_runChain_81 (by decide) (fun c54 => ?_) (fun c54 => ?_)
          · replace h := m_f c54 h
            refine lv_iconst (v := 0) S.1 S.2.1 dX3_runChain_88 (by decide) ?_
            refine lv_istore (i := 4) (lv' := [(4, .int 0), (3, .int (x46 - 1)), (2, .int (q2 + 1)), (0, .ref q0), (1, .int q1)]) S.1 S.2.1 dX3_runChain_89 hl (by decide) (by first | rfl | simp [m_rfc, m_catI, m_catL, m_catA]) (fun ls hl => ?_)
            refine lv_goto (tgt := 7) S.1 S.2.1 dX3_runChain_91 (by decide) ?_
            exact ih 0 (x46 - 1) (q2 + 1) q0 q1 _ _ _ h _ _ _ hP hS (lv_sub hl [0, 1, 2, 3, 4] rfl)
          · replace h := m_t c54 h
            refine lv_iconst (v := 1) S.1 S.2.1 dX3_runChain_84 (by decide) ?_
            refine lv_goto (tgt := 89) S.1 S.2.1 dX3_runChain_85 (by decide) ?_
            refine lv_istore (i := 4) (lv' := [(4, .int 1), (3, .int (x46 - 1)), (2, .int (q2 + 1)), (0, .ref q0), (1, .int q1)]) S.1 S.2.1 dX3_runChain_89 hl (by decide) (by first | rfl | simp [m_rfc, m_catI, m_catL, m_catA]) (fun ls hl => ?_)
            refine lv_goto (tgt := 7) S.1 S.2.1 dX3_runChain_91 (by decide) ?_
            exact ih 1 (x46 - 1) (q2 + 1) q0 q1 _ _ _ h _ _ _ hP hS (lv_sub hl [0, 1, 2, 3, 4] rfl)
      · replace h := m_t c42 h
        refine lv_aload_n S.1 S.2.1 dX3_runChain_43 rfl (lv_at hl 3 rfl) ?_
        refine lv_iload_n S.1 S.2.1 dX3_runChain_44 rfl (lv_at hl 2 rfl) ?_
        refine lv_iconst (v := 1) S.1 S.2.1 dX3_runChain_45 (by decide) ?_
        refine lv_bipush (v := 8) S.1 S.2.1 dX3_runChain_46 (by decide) ?_
        refine lv_iload_n S.1 S.2.1 dX3_runChain_48 rfl (lv_at hl 2 rfl) ?_
        obtain ⟨_, k58, h⟩ := m_bs h
        obtain ⟨u55, s56, e57, h⟩ := m_b_s h
        refine m_callv (va_runV (As := [.int q3, .int 1, .int 8, .int q3]) (rest := []) S (c_X3_fail l D tc b q0 q3 1 8 q3 _ _ _ e57) (cwV 4 S.2.2.2.2 (m_wV kX3_fail (by decide +kernel)) rfl rfl rfl (by decide +kernel) ⟨by decide +kernel, by decide +kernel⟩) (m_preV hK hP (m_is_s k58) rfl) rfl rfl hl.1 rfl (lv_room (by first | decide | simp [m_rfc, m_catI, m_catL, m_catA])) dX3_runChain_49 ⟨by decide +kernel, by decide +kernel⟩) hS (fun H locs hP hS => ?_)
        refine lv_iconst (v := 0) S.1 S.2.1 dX3_runChain_52 (by decide) ?_
        refine lv_istore (i := 4) (lv' := [(4, .int 0), (2, .int (q2 + 1)), (3, .int q3), (0, .ref q0), (1, .int q1)]) S.1 S.2.1 dX3_runChain_53 hl (by decide) (by first | rfl | simp [m_rfc, m_catI, m_catL, m_catA]) (fun ls hl => ?_)
        refine lv_goto (tgt := 7) S.1 S.2.1 dX3_runChain_55 (by decide) ?_
        exact ih 0 q3 (q2 + 1) q0 q1 _ _ _ h _ _ _ hP hS (lv_sub hl [0, 2, 1, 3, 4] rfl)
set_option maxHeartbeats 4000000 in
set_option maxRecDepth 100000 in
theorem c_X3_runChain (l : Launch) (D : va_G) (tc : Nat → ClassId) (b : Nat) (t0 : Nat) (p1 : Int32) (s0 st' : MS) (r : Unit) (h : f_X3_runChain t0 p1 s0 = some (r, st')) : Met l yX3_runChain wsX3_runChain ({ frames := 4, cells := 0, slots := 0, locals := 95 }) (m_Pc D vwCl (m_tys tc) b s0 [.ref t0, .int p1]) (m_Q D vwCl (m_tys tc) b none st') 0 0 (m_A b) := by
  unfold f_X3_runChain at h
  refine m_met (cc := cX3_runChain) (maxL := 6) (ret := none) (by decide) rfl (by first | exact Nat.le_of_ble_eq_true rfl | simp [lg_sl, m_rfc, m_catI, m_catL, m_catA]) ?_
  intro p e s m below meth c ls S hr hlk hnm hK hP hl hS
  replace hl : lv_has ls 6 [(0, .ref t0), (1, .int p1)] := by first | exact hl | simpa [lv_args, m_rfc, m_catI, m_catL, m_catA] using hl
  refine lv_iconst (v := 0) S.1 S.2.1 dX3_runChain_0 (by decide) ?_
  refine lv_istore_n (i := 2) (lv' := [(2, .int 0), (0, .ref t0), (1, .int p1)]) S.1 S.2.1 dX3_runChain_1 rfl hl (by decide) (by first | rfl | simp [m_rfc, m_catI, m_catL, m_catA]) (fun ls hl => ?_)
  refine lv_iload_n S.1 S.2.1 dX3_runChain_2 rfl (lv_at hl 2 rfl) ?_
  refine lv_istore_n (i := 3) (lv' := [(3, .int p1), (2, .int 0), (0, .ref t0), (1, .int p1)]) S.1 S.2.1 dX3_runChain_3 rfl hl (by decide) (by first | rfl | simp [m_rfc, m_catI, m_catL, m_catA]) (fun ls hl => ?_)
  refine lv_iconst (v := 1) S.1 S.2.1 dX3_runChain_4 (by decide) ?_
  refine lv_istore (i := 4) (lv' := [(4, .int 1), (3, .int p1), (2, .int 0), (0, .ref t0), (1, .int p1)]) S.1 S.2.1 dX3_runChain_5 hl (by decide) (by first | rfl | simp [m_rfc, m_catI, m_catL, m_catA]) (fun ls hl => ?_)
  exact w_X3_runChain_L7 D tc b S hr hlk hK 64 1 p1 0 t0 p1 _ _ _ h _ _ _ hP hS (lv_sub hl [0, 1, 2, 3, 4] rfl)

def f_X3_run (t0 : Nat) (p1 : Int32) (s0 : MS) : Option (Int32 × MS) :=
  (m_p s0 3 t0 0 (.int 0)).bind fun s1 =>
  (m_is s1 3 t0).bind fun _ =>
  m_b (f_X3_isTarget t0 p1 s1) fun x3 s4 =>
  if x3 = 0 then
    some ((-1), s4)
  else
    (m_gR s4 3 t0 21).bind fun r8 =>
    r8.bind fun a10 =>
    (m_aI s4 6 a10 p1).bind fun x11 =>
    if x11 = 0 then
      (m_is s4 3 t0).bind fun _ =>
      m_b (f_X3_runChain t0 p1 s4) fun u30 s31 =>
      (m_gR s31 3 t0 14).bind fun r34 =>
      r34.bind fun a36 =>
      (m_aI s31 5 a36 p1).bind fun x37 =>
      if x37 ≤ 0 then
        (m_gR s31 3 t0 17).bind fun r40 =>
        r40.bind fun a42 =>
        (m_aI s31 5 a42 p1).bind fun x43 =>
        some (x43, s31)
      else
        (m_gR s31 3 t0 14).bind fun r45 =>
        r45.bind fun a47 =>
        (m_aI s31 5 a47 p1).bind fun x48 =>
        some ((-10) - x48, s31)
    else
      (m_gR s4 3 t0 14).bind fun r14 =>
      r14.bind fun a16 =>
      (m_aI s4 5 a16 p1).bind fun x17 =>
      if x17 ≤ 0 then
        (m_gR s4 3 t0 17).bind fun r20 =>
        r20.bind fun a22 =>
        (m_aI s4 5 a22 p1).bind fun x23 =>
        some (x23, s4)
      else
        (m_gR s4 3 t0 14).bind fun r25 =>
        r25.bind fun a27 =>
        (m_aI s4 5 a27 p1).bind fun x28 =>
        some ((-10) - x28, s4)
set_option maxHeartbeats 4000000 in
set_option maxRecDepth 100000 in
theorem c_X3_run (l : Launch) (D : va_G) (tc : Nat → ClassId) (b : Nat) (t0 : Nat) (p1 : Int32) (s0 st' : MS) (r : Int32) (h : f_X3_run t0 p1 s0 = some (r, st')) : Met l yX3_run wsX3_run ({ frames := 5, cells := 0, slots := 0, locals := 120 }) (m_Pc D vwCl (m_tys tc) b s0 [.ref t0, .int p1]) (m_Q D vwCl (m_tys tc) b (some (.int r)) st') 0 0 (m_A b) := by
  unfold f_X3_run at h
  refine m_met (cc := cX3_run) (maxL := 2) (ret := (some .int)) (by decide) rfl (by first | exact Nat.le_of_ble_eq_true rfl | simp [lg_sl, m_rfc, m_catI, m_catL, m_catA]) ?_
  intro p e s m below meth c ls S hr hlk hnm hK hP hl hS
  replace hl : lv_has ls 2 [(0, .ref t0), (1, .int p1)] := by first | exact hl | simpa [lv_args, m_rfc, m_catI, m_catL, m_catA] using hl
  refine lv_aload_n S.1 S.2.1 dX3_run_0 rfl (lv_at hl 0 rfl) ?_
  refine lv_iconst (v := 0) S.1 S.2.1 dX3_run_1 (by decide) ?_
  obtain ⟨s1, e2, h⟩ := m_bs h
  refine m_put (ci := 3) (k := 0) (T := TX3) (N := 25) (v := .int 0) (ty := .int) S (inX3 _) tyX3 tX3 nX3 hK hP hS e2 rfl (by decide) (S.2.2.2.2 (.fieldLink RX3 71 "RuleHouse2Model" "code" "I") (m_mem (by decide +kernel))) rfl rfl (by decide +kernel) rfl rfl dX3_run_2 (fun H locs hP hS => ?_)
  refine lv_aload_n S.1 S.2.1 dX3_run_5 rfl (lv_at hl 0 rfl) ?_
  refine lv_iload_n S.1 S.2.1 dX3_run_6 rfl (lv_at hl 1 rfl) ?_
  obtain ⟨_, k6, h⟩ := m_bs h
  obtain ⟨x3, s4, e5, h⟩ := m_b_s h
  refine m_calli (va_runV (As := [.int p1]) (rest := []) S (c_X3_isTarget l D tc b t0 p1 _ _ _ e5) (cwV 1 S.2.2.2.2 (m_wV kX3_isTarget (by decide +kernel)) rfl rfl rfl (by decide +kernel) ⟨by decide +kernel, by decide +kernel⟩) (m_preV hK hP (m_is_s k6) rfl) rfl rfl hl.1 rfl (lv_room (by first | decide | simp [m_rfc, m_catI, m_catL, m_catA])) dX3_run_7 ⟨by decide +kernel, by decide +kernel⟩) hS (fun H locs hP hS => ?_)
  refine lv_if_ne (tgt := 15) S.1 S.2.1 dX3_run_10 (by decide) (fun c7 => ?_) (fun c7 => ?_)
  · replace h := m_f c7 h
    refine lv_aload_n S.1 S.2.1 dX3_run_15 rfl (lv_at hl 0 rfl) ?_
    obtain ⟨r8, e9, h⟩ := m_bs h
    refine m_get (ci := 3) (k := 21) (T := TX3) (N := 25) S (inX3 _) hK hP (m_gR_s e9) rfl (by decide) (S.2.2.2.2 (.fieldLink RX3 54 "RuleHouse2Model" "run" "[Z") (m_mem (by decide +kernel))) rfl dX3_run_16 ?_
    refine lv_iload_n S.1 S.2.1 dX3_run_19 rfl (lv_at hl 1 rfl) ?_
    obtain ⟨a10, ea, g⟩ := m_bs h; clear h; subst ea; have h := g; clear g
    obtain ⟨x11, e12, h⟩ := m_bs h
    refine m_zald (t := 6) S hK hP (m_aI_s e12) rfl dX3_run_20 ?_
    refine lv_if_ne (tgt := 29) S.1 S.2.1 dX3_run_21 (by decide) (fun c13 => ?_) (fun c13 => ?_)
    · replace h := m_f c13 h
      refine lv_aload_n S.1 S.2.1 dX3_run_29 rfl (lv_at hl 0 rfl) ?_
      obtain ⟨r14, e15, h⟩ := m_bs h
      refine m_get (ci := 3) (k := 14) (T := TX3) (N := 25) S (inX3 _) hK hP (m_gR_s e15) rfl (by decide) (S.2.2.2.2 (.fieldLink RX3 33 "RuleHouse2Model" "failure" "[I") (m_mem (by decide +kernel))) rfl dX3_run_30 ?_
      refine lv_iload_n S.1 S.2.1 dX3_run_33 rfl (lv_at hl 1 rfl) ?_
      obtain ⟨a16, ea, g⟩ := m_bs h; clear h; subst ea; have h := g; clear g
      obtain ⟨x17, e18, h⟩ := m_bs h
      refine m_iald (t := 5) S hK hP (m_aI_s e18) rfl dX3_run_34 ?_
      refine lv_if_le (tgt := 50) S.1 S.2.1 dX3_run_35 (by decide) (fun c19 => ?_) (fun c19 => ?_)
      · replace h := m_t c19 h
        refine lv_aload_n S.1 S.2.1 dX3_run_50 rfl (lv_at hl 0 rfl) ?_
        obtain ⟨r20, e21, h⟩ := m_bs h
        refine m_get (ci := 3) (k := 17) (T := TX3) (N := 25) S (inX3 _) hK hP (m_gR_s e21) rfl (by decide) (S.2.2.2.2 (.fieldLink RX3 42 "RuleHouse2Model" "mine" "[I") (m_mem (by decide +kernel))) rfl dX3_run_51 ?_
        refine lv_iload_n S.1 S.2.1 dX3_run_54 rfl (lv_at hl 1 rfl) ?_
        obtain ⟨a22, ea, g⟩ := m_bs h; clear h; subst ea; have h := g; clear g
        obtain ⟨x23, e24, h⟩ := m_bs h
        refine m_iald (t := 5) S hK hP (m_aI_s e24) rfl dX3_run_55 ?_
        obtain ⟨h1, h2⟩ := m_fin h; subst h1; subst h2
        exact m_iret S hr hlk hK hP hS (by decide +kernel) (by decide +kernel) dX3_run_56
      · replace h := m_f c19 h
        refine lv_bipush (v := (-10)) S.1 S.2.1 dX3_run_38 (by decide) ?_
        refine lv_aload_n S.1 S.2.1 dX3_run_40 rfl (lv_at hl 0 rfl) ?_
        obtain ⟨r25, e26, h⟩ := m_bs h
        refine m_get (ci := 3) (k := 14) (T := TX3) (N := 25) S (inX3 _) hK hP (m_gR_s e26) rfl (by decide) (S.2.2.2.2 (.fieldLink RX3 33 "RuleHouse2Model" "failure" "[I") (m_mem (by decide +kernel))) rfl dX3_run_41 ?_
        refine lv_iload_n S.1 S.2.1 dX3_run_44 rfl (lv_at hl 1 rfl) ?_
        obtain ⟨a27, ea, g⟩ := m_bs h; clear h; subst ea; have h := g; clear g
        obtain ⟨x28, e29, h⟩ := m_bs h
        refine m_iald (t := 5) S hK hP (m_aI_s e29) rfl dX3_run_45 ?_
        refine lv_isub S.1 S.2.1 dX3_run_46 ?_
        refine lv_goto (tgt := 56) S.1 S.2.1 dX3_run_47 (by decide) ?_
        obtain ⟨h1, h2⟩ := m_fin h; subst h1; subst h2
        exact m_iret S hr hlk hK hP hS (by decide +kernel) (by decide +kernel) dX3_run_56
    · replace h := m_t c13 h
      refine lv_aload_n S.1 S.2.1 dX3_run_24 rfl (lv_at hl 0 rfl) ?_
      refine lv_iload_n S.1 S.2.1 dX3_run_25 rfl (lv_at hl 1 rfl) ?_
      obtain ⟨_, k33, h⟩ := m_bs h
      obtain ⟨u30, s31, e32, h⟩ := m_b_s h
      refine m_callv (va_runV (As := [.int p1]) (rest := []) S (c_X3_runChain l D tc b t0 p1 _ _ _ e32) (cwV 1 S.2.2.2.2 (m_wV kX3_runChain (by decide +kernel)) rfl rfl rfl (by decide +kernel) ⟨by decide +kernel, by decide +kernel⟩) (m_preV hK hP (m_is_s k33) rfl) rfl rfl hl.1 rfl (lv_room (by first | decide | simp [m_rfc, m_catI, m_catL, m_catA])) dX3_run_26 ⟨by decide +kernel, by decide +kernel⟩) hS (fun H locs hP hS => ?_)
      refine lv_aload_n S.1 S.2.1 dX3_run_29 rfl (lv_at hl 0 rfl) ?_
      obtain ⟨r34, e35, h⟩ := m_bs h
      refine m_get (ci := 3) (k := 14) (T := TX3) (N := 25) S (inX3 _) hK hP (m_gR_s e35) rfl (by decide) (S.2.2.2.2 (.fieldLink RX3 33 "RuleHouse2Model" "failure" "[I") (m_mem (by decide +kernel))) rfl dX3_run_30 ?_
      refine lv_iload_n S.1 S.2.1 dX3_run_33 rfl (lv_at hl 1 rfl) ?_
      obtain ⟨a36, ea, g⟩ := m_bs h; clear h; subst ea; have h := g; clear g
      obtain ⟨x37, e38, h⟩ := m_bs h
      refine m_iald (t := 5) S hK hP (m_aI_s e38) rfl dX3_run_34 ?_
      refine lv_if_le (tgt := 50) S.1 S.2.1 dX3_run_35 (by decide) (fun c39 => ?_) (fun c39 => ?_)
      · replace h := m_t c39 h
        refine lv_aload_n S.1 S.2.1 dX3_run_50 rfl (lv_at hl 0 rfl) ?_
        obtain ⟨r40, e41, h⟩ := m_bs h
        refine m_get (ci := 3) (k := 17) (T := TX3) (N := 25) S (inX3 _) hK hP (m_gR_s e41) rfl (by decide) (S.2.2.2.2 (.fieldLink RX3 42 "RuleHouse2Model" "mine" "[I") (m_mem (by decide +kernel))) rfl dX3_run_51 ?_
        refine lv_iload_n S.1 S.2.1 dX3_run_54 rfl (lv_at hl 1 rfl) ?_
        obtain ⟨a42, ea, g⟩ := m_bs h; clear h; subst ea; have h := g; clear g
        obtain ⟨x43, e44, h⟩ := m_bs h
        refine m_iald (t := 5) S hK hP (m_aI_s e44) rfl dX3_run_55 ?_
        obtain ⟨h1, h2⟩ := m_fin h; subst h1; subst h2
        exact m_iret S hr hlk hK hP hS (by decide +kernel) (by decide +kernel) dX3_run_56
      · replace h := m_f c39 h
        refine lv_bipush (v := (-10)) S.1 S.2.1 dX3_run_38 (by decide) ?_
        refine lv_aload_n S.1 S.2.1 dX3_run_40 rfl (lv_at hl 0 rfl) ?_
        obtain ⟨r45, e46, h⟩ := m_bs h
        refine m_get (ci := 3) (k := 14) (T := TX3) (N := 25) S (inX3 _) hK hP (m_gR_s e46) rfl (by decide) (S.2.2.2.2 (.fieldLink RX3 33 "RuleHouse2Model" "failure" "[I") (m_mem (by decide +kernel))) rfl dX3_run_41 ?_
        refine lv_iload_n S.1 S.2.1 dX3_run_44 rfl (lv_at hl 1 rfl) ?_
        obtain ⟨a47, ea, g⟩ := m_bs h; clear h; subst ea; have h := g; clear g
        obtain ⟨x48, e49, h⟩ := m_bs h
        refine m_iald (t := 5) S hK hP (m_aI_s e49) rfl dX3_run_45 ?_
        refine lv_isub S.1 S.2.1 dX3_run_46 ?_
        refine lv_goto (tgt := 56) S.1 S.2.1 dX3_run_47 (by decide) ?_
        obtain ⟨h1, h2⟩ := m_fin h; subst h1; subst h2
        exact m_iret S hr hlk hK hP hS (by decide +kernel) (by decide +kernel) dX3_run_56
  · replace h := m_t c7 h
    refine lv_iconst (v := (-1)) S.1 S.2.1 dX3_run_13 (by decide) ?_
    obtain ⟨h1, h2⟩ := m_fin h; subst h1; subst h2
    exact m_iret S hr hlk hK hP hS (by decide +kernel) (by decide +kernel) dX3_run_14

def f_X3_action (t0 : Nat) (p1 : Int32) (p2 : Int32) (s0 : MS) : Option (Int32 × MS) :=
  (m_p s0 3 t0 0 (.int 0)).bind fun s1 =>
  if p1 < 0 then
    some ((-1), s1)
  else
    (m_gI s1 3 t0 5).bind fun x4 =>
    if p1 < x4 then
      (m_gR s1 3 t0 23).bind fun r7 =>
      r7.bind fun a9 =>
      (m_aI s1 5 a9 p1).bind fun x10 =>
      (m_gR s1 3 t0 12).bind fun r12 =>
      r12.bind fun a14 =>
      (m_aI s1 5 a14 x10).bind fun x15 =>
      if p2 = 0 then
        some (x10, s1)
      else
        if p2 = 1 then
          (m_gR s1 3 t0 24).bind fun r35 =>
          r35.bind fun a37 =>
          (m_aI s1 5 a37 p1).bind fun x38 =>
          some (x38, s1)
        else
          if p2 = 2 then
            (m_gR s1 3 t0 7).bind fun r20 =>
            r20.bind fun a22 =>
            (m_aI s1 5 a22 x15).bind fun x23 =>
            (m_gR s1 3 t0 8).bind fun r25 =>
            r25.bind fun a27 =>
            (m_aI s1 5 a27 x15).bind fun x28 =>
            (m_gR s1 3 t0 24).bind fun r30 =>
            r30.bind fun a32 =>
            (m_aI s1 5 a32 p1).bind fun x33 =>
            some ((((((x23 * 31) + x28) * 31) + x10) * 31) + x33, s1)
          else
            some ((-2), s1)
    else
      some ((-1), s1)
set_option maxHeartbeats 4000000 in
set_option maxRecDepth 100000 in
theorem c_X3_action (l : Launch) (D : va_G) (tc : Nat → ClassId) (b : Nat) (t0 : Nat) (p1 : Int32) (p2 : Int32) (s0 st' : MS) (r : Int32) (h : f_X3_action t0 p1 p2 s0 = some (r, st')) : Met l yX3_action wsX3_action ({ frames := 0, cells := 0, slots := 0, locals := 0 }) (m_Pc D vwCl (m_tys tc) b s0 [.ref t0, .int p1, .int p2]) (m_Q D vwCl (m_tys tc) b (some (.int r)) st') 0 0 (m_A b) := by
  unfold f_X3_action at h
  refine m_met (cc := cX3_action) (maxL := 5) (ret := (some .int)) (by decide) rfl (by first | exact Nat.le_of_ble_eq_true rfl | simp [lg_sl, m_rfc, m_catI, m_catL, m_catA]) ?_
  intro p e s m below meth c ls S hr hlk hnm hK hP hl hS
  replace hl : lv_has ls 5 [(0, .ref t0), (1, .int p1), (2, .int p2)] := by first | exact hl | simpa [lv_args, m_rfc, m_catI, m_catL, m_catA] using hl
  refine lv_aload_n S.1 S.2.1 dX3_action_0 rfl (lv_at hl 0 rfl) ?_
  refine lv_iconst (v := 0) S.1 S.2.1 dX3_action_1 (by decide) ?_
  obtain ⟨s1, e2, h⟩ := m_bs h
  refine m_put (ci := 3) (k := 0) (T := TX3) (N := 25) (v := .int 0) (ty := .int) S (inX3 _) tyX3 tX3 nX3 hK hP hS e2 rfl (by decide) (S.2.2.2.2 (.fieldLink RX3 71 "RuleHouse2Model" "code" "I") (m_mem (by decide +kernel))) rfl rfl (by decide +kernel) rfl rfl dX3_action_2 (fun H locs hP hS => ?_)
  refine lv_iload_n S.1 S.2.1 dX3_action_5 rfl (lv_at hl 1 rfl) ?_
  refine lv_if_lt (tgt := 17) S.1 S.2.1 dX3_action_6 (by decide) (fun c3 => ?_) (fun c3 => ?_)
  · replace h := m_t c3 h
    refine lv_iconst (v := (-1)) S.1 S.2.1 dX3_action_17 (by decide) ?_
    obtain ⟨h1, h2⟩ := m_fin h; subst h1; subst h2
    exact m_iret S hr hlk hK hP hS (by decide +kernel) (by decide +kernel) dX3_action_18
  · replace h := m_f c3 h
    refine lv_iload_n S.1 S.2.1 dX3_action_9 rfl (lv_at hl 1 rfl) ?_
    refine lv_aload_n S.1 S.2.1 dX3_action_10 rfl (lv_at hl 0 rfl) ?_
    obtain ⟨x4, e5, h⟩ := m_bs h
    refine m_get (ci := 3) (k := 5) (T := TX3) (N := 25) S (inX3 _) hK hP (m_gI_s e5) rfl (by decide) (S.2.2.2.2 (.fieldLink RX3 102 "RuleHouse2Model" "actions" "I") (m_mem (by decide +kernel))) rfl dX3_action_11 ?_
    refine lv_icmp_lt (tgt := 19) S.1 S.2.1 dX3_action_14 (by decide) (fun c6 => ?_) (fun c6 => ?_)
    · replace h := m_t c6 h
      refine lv_aload_n S.1 S.2.1 dX3_action_19 rfl (lv_at hl 0 rfl) ?_
      obtain ⟨r7, e8, h⟩ := m_bs h
      refine m_get (ci := 3) (k := 23) (T := TX3) (N := 25) S (inX3 _) hK hP (m_gR_s e8) rfl (by decide) (S.2.2.2.2 (.fieldLink RX3 60 "RuleHouse2Model" "of" "[I") (m_mem (by decide +kernel))) rfl dX3_action_20 ?_
      refine lv_iload_n S.1 S.2.1 dX3_action_23 rfl (lv_at hl 1 rfl) ?_
      obtain ⟨a9, ea, g⟩ := m_bs h; clear h; subst ea; have h := g; clear g
      obtain ⟨x10, e11, h⟩ := m_bs h
      refine m_iald (t := 5) S hK hP (m_aI_s e11) rfl dX3_action_24 ?_
      refine lv_istore_n (i := 3) (lv' := [(3, .int x10), (0, .ref t0), (1, .int p1), (2, .int p2)]) S.1 S.2.1 dX3_action_25 rfl hl (by decide) (by first | rfl | simp [m_rfc, m_catI, m_catL, m_catA]) (fun ls hl => ?_)
      refine lv_aload_n S.1 S.2.1 dX3_action_26 rfl (lv_at hl 1 rfl) ?_
      obtain ⟨r12, e13, h⟩ := m_bs h
      refine m_get (ci := 3) (k := 12) (T := TX3) (N := 25) S (inX3 _) hK hP (m_gR_s e13) rfl (by decide) (S.2.2.2.2 (.fieldLink RX3 27 "RuleHouse2Model" "rule" "[I") (m_mem (by decide +kernel))) rfl dX3_action_27 ?_
      refine lv_iload_n S.1 S.2.1 dX3_action_30 rfl (lv_at hl 0 rfl) ?_
      obtain ⟨a14, ea, g⟩ := m_bs h; clear h; subst ea; have h := g; clear g
      obtain ⟨x15, e16, h⟩ := m_bs h
      refine m_iald (t := 5) S hK hP (m_aI_s e16) rfl dX3_action_31 ?_
      refine lv_istore (i := 4) (lv' := [(4, .int x15), (3, .int x10), (0, .ref t0), (1, .int p1), (2, .int p2)]) S.1 S.2.1 dX3_action_32 hl (by decide) (by first | rfl | simp [m_rfc, m_catI, m_catL, m_catA]) (fun ls hl => ?_)
      refine lv_iload_n S.1 S.2.1 dX3_action_34 rfl (lv_at hl 4 rfl) ?_
      refine lv_if_ne (tgt := 42) S.1 S.2.1 dX3_action_35 (by decide) (fun c17 => ?_) (fun c17 => ?_)
      · replace h := m_f c17 h
        refine lv_iload_n S.1 S.2.1 dX3_action_42 rfl (lv_at hl 4 rfl) ?_
        refine lv_iconst (v := 1) S.1 S.2.1 dX3_action_43 (by decide) ?_
        refine lv_icmp_ne (tgt := 56) S.1 S.2.1 dX3_action_44 (by decide) (fun c18 => ?_) (fun c18 => ?_)
        · replace h := m_f c18 h
          refine lv_iload_n S.1 S.2.1 dX3_action_56 rfl (lv_at hl 4 rfl) ?_
          refine lv_iconst (v := 2) S.1 S.2.1 dX3_action_57 (by decide) ?_
          refine lv_icmp_ne (tgt := 97) S.1 S.2.1 dX3_action_58 (by decide) (fun c19 => ?_) (fun c19 => ?_)
          · replace h := m_f c19 h
            refine lv_bipush (v := (-2)) S.1 S.2.1 dX3_action_97 (by decide) ?_
            obtain ⟨h1, h2⟩ := m_fin h; subst h1; subst h2
            exact m_iret S hr hlk hK hP hS (by decide +kernel) (by decide +kernel) dX3_action_99
          · replace h := m_t c19 h
            refine lv_aload_n S.1 S.2.1 dX3_action_61 rfl (lv_at hl 2 rfl) ?_
            obtain ⟨r20, e21, h⟩ := m_bs h
            refine m_get (ci := 3) (k := 7) (T := TX3) (N := 25) S (inX3 _) hK hP (m_gR_s e21) rfl (by decide) (S.2.2.2.2 (.fieldLink RX3 7 "RuleHouse2Model" "edition" "[I") (m_mem (by decide +kernel))) rfl dX3_action_62 ?_
            refine lv_iload S.1 S.2.1 dX3_action_65 (lv_at hl 0 rfl) ?_
            obtain ⟨a22, ea, g⟩ := m_bs h; clear h; subst ea; have h := g; clear g
            obtain ⟨x23, e24, h⟩ := m_bs h
            refine m_iald (t := 5) S hK hP (m_aI_s e24) rfl dX3_action_67 ?_
            refine lv_bipush (v := 31) S.1 S.2.1 dX3_action_68 (by decide) ?_
            refine lv_imul S.1 S.2.1 dX3_action_70 ?_
            refine lv_aload_n S.1 S.2.1 dX3_action_71 rfl (lv_at hl 2 rfl) ?_
            obtain ⟨r25, e26, h⟩ := m_bs h
            refine m_get (ci := 3) (k := 8) (T := TX3) (N := 25) S (inX3 _) hK hP (m_gR_s e26) rfl (by decide) (S.2.2.2.2 (.fieldLink RX3 13 "RuleHouse2Model" "does" "[I") (m_mem (by decide +kernel))) rfl dX3_action_72 ?_
            refine lv_iload S.1 S.2.1 dX3_action_75 (lv_at hl 0 rfl) ?_
            obtain ⟨a27, ea, g⟩ := m_bs h; clear h; subst ea; have h := g; clear g
            obtain ⟨x28, e29, h⟩ := m_bs h
            refine m_iald (t := 5) S hK hP (m_aI_s e29) rfl dX3_action_77 ?_
            refine lv_iadd S.1 S.2.1 dX3_action_78 ?_
            refine lv_bipush (v := 31) S.1 S.2.1 dX3_action_79 (by decide) ?_
            refine lv_imul S.1 S.2.1 dX3_action_81 ?_
            refine lv_iload_n S.1 S.2.1 dX3_action_82 rfl (lv_at hl 1 rfl) ?_
            refine lv_iadd S.1 S.2.1 dX3_action_83 ?_
            refine lv_bipush (v := 31) S.1 S.2.1 dX3_action_84 (by decide) ?_
            refine lv_imul S.1 S.2.1 dX3_action_86 ?_
            refine lv_aload_n S.1 S.2.1 dX3_action_87 rfl (lv_at hl 2 rfl) ?_
            obtain ⟨r30, e31, h⟩ := m_bs h
            refine m_get (ci := 3) (k := 24) (T := TX3) (N := 25) S (inX3 _) hK hP (m_gR_s e31) rfl (by decide) (S.2.2.2.2 (.fieldLink RX3 63 "RuleHouse2Model" "number" "[I") (m_mem (by decide +kernel))) rfl dX3_action_88 ?_
            refine lv_iload_n S.1 S.2.1 dX3_action_91 rfl (lv_at hl 3 rfl) ?_
            obtain ⟨a32, ea, g⟩ := m_bs h; clear h; subst ea; have h := g; clear g
            obtain ⟨x33, e34, h⟩ := m_bs h
            refine m_iald (t := 5) S hK hP (m_aI_s e34) rfl dX3_action_92 ?_
            refine lv_iadd S.1 S.2.1 dX3_action_93 ?_
            refine lv_goto (tgt := 99) S.1 S.2.1 dX3_action_94 (by decide) ?_
            obtain ⟨h1, h2⟩ := m_fin h; subst h1; subst h2
            exact m_iret S hr hlk hK hP hS (by decide +kernel) (by decide +kernel) dX3_action_99
        · replace h := m_t c18 h
          refine lv_aload_n S.1 S.2.1 dX3_action_47 rfl (lv_at hl 2 rfl) ?_
          obtain ⟨r35, e36, h⟩ := m_bs h
          refine m_get (ci := 3) (k := 24) (T := TX3) (N := 25) S (inX3 _) hK hP (m_gR_s e36) rfl (by decide) (S.2.2.2.2 (.fieldLink RX3 63 "RuleHouse2Model" "number" "[I") (m_mem (by decide +kernel))) rfl dX3_action_48 ?_
          refine lv_iload_n S.1 S.2.1 dX3_action_51 rfl (lv_at hl 3 rfl) ?_
          obtain ⟨a37, ea, g⟩ := m_bs h; clear h; subst ea; have h := g; clear g
          obtain ⟨x38, e39, h⟩ := m_bs h
          refine m_iald (t := 5) S hK hP (m_aI_s e39) rfl dX3_action_52 ?_
          refine lv_goto (tgt := 99) S.1 S.2.1 dX3_action_53 (by decide) ?_
          obtain ⟨h1, h2⟩ := m_fin h; subst h1; subst h2
          exact m_iret S hr hlk hK hP hS (by decide +kernel) (by decide +kernel) dX3_action_99
      · replace h := m_t c17 h
        refine lv_iload_n S.1 S.2.1 dX3_action_38 rfl (lv_at hl 1 rfl) ?_
        refine lv_goto (tgt := 99) S.1 S.2.1 dX3_action_39 (by decide) ?_
        obtain ⟨h1, h2⟩ := m_fin h; subst h1; subst h2
        exact m_iret S hr hlk hK hP hS (by decide +kernel) (by decide +kernel) dX3_action_99
    · replace h := m_f c6 h
      refine lv_iconst (v := (-1)) S.1 S.2.1 dX3_action_17 (by decide) ?_
      obtain ⟨h1, h2⟩ := m_fin h; subst h1; subst h2
      exact m_iret S hr hlk hK hP hS (by decide +kernel) (by decide +kernel) dX3_action_18

def f_X3_provider (t0 : Nat) (p1 : Int32) (p2 : Int32) (s0 : MS) : Option (Int32 × MS) :=
  (m_p s0 3 t0 0 (.int 0)).bind fun s1 =>
  (m_is s1 3 t0).bind fun _ =>
  m_b (f_X3_isTarget t0 p1 s1) fun x3 s4 =>
  if x3 = 0 then
    some (0, s4)
  else
    if p2 < 0 then
      some (0, s4)
    else
      if 3 ≤ p2 then
        some (0, s4)
      else
        (m_gR s4 3 t0 22).bind fun r10 =>
        r10.bind fun a12 =>
        (m_aI s4 6 a12 ((3 * p1) + p2)).bind fun x13 =>
        if x13 = 0 then
          some (0, s4)
        else
          (m_gR s4 3 t0 20).bind fun r16 =>
          r16.bind fun a18 =>
          (m_aI s4 5 a18 ((3 * p1) + p2)).bind fun x19 =>
          some (x19, s4)
set_option maxHeartbeats 4000000 in
set_option maxRecDepth 100000 in
theorem c_X3_provider (l : Launch) (D : va_G) (tc : Nat → ClassId) (b : Nat) (t0 : Nat) (p1 : Int32) (p2 : Int32) (s0 st' : MS) (r : Int32) (h : f_X3_provider t0 p1 p2 s0 = some (r, st')) : Met l yX3_provider wsX3_provider ({ frames := 1, cells := 0, slots := 0, locals := 21 }) (m_Pc D vwCl (m_tys tc) b s0 [.ref t0, .int p1, .int p2]) (m_Q D vwCl (m_tys tc) b (some (.int r)) st') 0 0 (m_A b) := by
  unfold f_X3_provider at h
  refine m_met (cc := cX3_provider) (maxL := 3) (ret := (some .int)) (by decide) rfl (by first | exact Nat.le_of_ble_eq_true rfl | simp [lg_sl, m_rfc, m_catI, m_catL, m_catA]) ?_
  intro p e s m below meth c ls S hr hlk hnm hK hP hl hS
  replace hl : lv_has ls 3 [(0, .ref t0), (1, .int p1), (2, .int p2)] := by first | exact hl | simpa [lv_args, m_rfc, m_catI, m_catL, m_catA] using hl
  refine lv_aload_n S.1 S.2.1 dX3_provider_0 rfl (lv_at hl 0 rfl) ?_
  refine lv_iconst (v := 0) S.1 S.2.1 dX3_provider_1 (by decide) ?_
  obtain ⟨s1, e2, h⟩ := m_bs h
  refine m_put (ci := 3) (k := 0) (T := TX3) (N := 25) (v := .int 0) (ty := .int) S (inX3 _) tyX3 tX3 nX3 hK hP hS e2 rfl (by decide) (S.2.2.2.2 (.fieldLink RX3 71 "RuleHouse2Model" "code" "I") (m_mem (by decide +kernel))) rfl rfl (by decide +kernel) rfl rfl dX3_provider_2 (fun H locs hP hS => ?_)
  refine lv_aload_n S.1 S.2.1 dX3_provider_5 rfl (lv_at hl 0 rfl) ?_
  refine lv_iload_n S.1 S.2.1 dX3_provider_6 rfl (lv_at hl 1 rfl) ?_
  obtain ⟨_, k6, h⟩ := m_bs h
  obtain ⟨x3, s4, e5, h⟩ := m_b_s h
  refine m_calli (va_runV (As := [.int p1]) (rest := []) S (c_X3_isTarget l D tc b t0 p1 _ _ _ e5) (cwV 1 S.2.2.2.2 (m_wV kX3_isTarget (by decide +kernel)) rfl rfl rfl (by decide +kernel) ⟨by decide +kernel, by decide +kernel⟩) (m_preV hK hP (m_is_s k6) rfl) rfl rfl hl.1 rfl (lv_room (by first | decide | simp [m_rfc, m_catI, m_catL, m_catA])) dX3_provider_7 ⟨by decide +kernel, by decide +kernel⟩) hS (fun H locs hP hS => ?_)
  refine lv_if_eq (tgt := 48) S.1 S.2.1 dX3_provider_10 (by decide) (fun c7 => ?_) (fun c7 => ?_)
  · replace h := m_t c7 h
    refine lv_iconst (v := 0) S.1 S.2.1 dX3_provider_48 (by decide) ?_
    obtain ⟨h1, h2⟩ := m_fin h; subst h1; subst h2
    exact m_iret S hr hlk hK hP hS (by decide +kernel) (by decide +kernel) dX3_provider_49
  · replace h := m_f c7 h
    refine lv_iload_n S.1 S.2.1 dX3_provider_13 rfl (lv_at hl 2 rfl) ?_
    refine lv_if_lt (tgt := 48) S.1 S.2.1 dX3_provider_14 (by decide) (fun c8 => ?_) (fun c8 => ?_)
    · replace h := m_t c8 h
      refine lv_iconst (v := 0) S.1 S.2.1 dX3_provider_48 (by decide) ?_
      obtain ⟨h1, h2⟩ := m_fin h; subst h1; subst h2
      exact m_iret S hr hlk hK hP hS (by decide +kernel) (by decide +kernel) dX3_provider_49
    · replace h := m_f c8 h
      refine lv_iload_n S.1 S.2.1 dX3_provider_17 rfl (lv_at hl 2 rfl) ?_
      refine lv_iconst (v := 3) S.1 S.2.1 dX3_provider_18 (by decide) ?_
      refine lv_icmp_ge (tgt := 48) S.1 S.2.1 dX3_provider_19 (by decide) (fun c9 => ?_) (fun c9 => ?_)
      · replace h := m_t c9 h
        refine lv_iconst (v := 0) S.1 S.2.1 dX3_provider_48 (by decide) ?_
        obtain ⟨h1, h2⟩ := m_fin h; subst h1; subst h2
        exact m_iret S hr hlk hK hP hS (by decide +kernel) (by decide +kernel) dX3_provider_49
      · replace h := m_f c9 h
        refine lv_aload_n S.1 S.2.1 dX3_provider_22 rfl (lv_at hl 0 rfl) ?_
        obtain ⟨r10, e11, h⟩ := m_bs h
        refine m_get (ci := 3) (k := 22) (T := TX3) (N := 25) S (inX3 _) hK hP (m_gR_s e11) rfl (by decide) (S.2.2.2.2 (.fieldLink RX3 57 "RuleHouse2Model" "has" "[Z") (m_mem (by decide +kernel))) rfl dX3_provider_23 ?_
        refine lv_iconst (v := 3) S.1 S.2.1 dX3_provider_26 (by decide) ?_
        refine lv_iload_n S.1 S.2.1 dX3_provider_27 rfl (lv_at hl 1 rfl) ?_
        refine lv_imul S.1 S.2.1 dX3_provider_28 ?_
        refine lv_iload_n S.1 S.2.1 dX3_provider_29 rfl (lv_at hl 2 rfl) ?_
        refine lv_iadd S.1 S.2.1 dX3_provider_30 ?_
        obtain ⟨a12, ea, g⟩ := m_bs h; clear h; subst ea; have h := g; clear g
        obtain ⟨x13, e14, h⟩ := m_bs h
        refine m_zald (t := 6) S hK hP (m_aI_s e14) rfl dX3_provider_31 ?_
        refine lv_if_eq (tgt := 48) S.1 S.2.1 dX3_provider_32 (by decide) (fun c15 => ?_) (fun c15 => ?_)
        · replace h := m_t c15 h
          refine lv_iconst (v := 0) S.1 S.2.1 dX3_provider_48 (by decide) ?_
          obtain ⟨h1, h2⟩ := m_fin h; subst h1; subst h2
          exact m_iret S hr hlk hK hP hS (by decide +kernel) (by decide +kernel) dX3_provider_49
        · replace h := m_f c15 h
          refine lv_aload_n S.1 S.2.1 dX3_provider_35 rfl (lv_at hl 0 rfl) ?_
          obtain ⟨r16, e17, h⟩ := m_bs h
          refine m_get (ci := 3) (k := 20) (T := TX3) (N := 25) S (inX3 _) hK hP (m_gR_s e17) rfl (by decide) (S.2.2.2.2 (.fieldLink RX3 51 "RuleHouse2Model" "provider" "[I") (m_mem (by decide +kernel))) rfl dX3_provider_36 ?_
          refine lv_iconst (v := 3) S.1 S.2.1 dX3_provider_39 (by decide) ?_
          refine lv_iload_n S.1 S.2.1 dX3_provider_40 rfl (lv_at hl 1 rfl) ?_
          refine lv_imul S.1 S.2.1 dX3_provider_41 ?_
          refine lv_iload_n S.1 S.2.1 dX3_provider_42 rfl (lv_at hl 2 rfl) ?_
          refine lv_iadd S.1 S.2.1 dX3_provider_43 ?_
          obtain ⟨a18, ea, g⟩ := m_bs h; clear h; subst ea; have h := g; clear g
          obtain ⟨x19, e20, h⟩ := m_bs h
          refine m_iald (t := 5) S hK hP (m_aI_s e20) rfl dX3_provider_44 ?_
          refine lv_goto (tgt := 49) S.1 S.2.1 dX3_provider_45 (by decide) ?_
          obtain ⟨h1, h2⟩ := m_fin h; subst h1; subst h2
          exact m_iret S hr hlk hK hP hS (by decide +kernel) (by decide +kernel) dX3_provider_49

def f_X3_failed (t0 : Nat) (p1 : Int32) (p2 : Int32) (s0 : MS) : Option (Int32 × MS) :=
  (m_p s0 3 t0 0 (.int 0)).bind fun s1 =>
  (m_is s1 3 t0).bind fun _ =>
  m_b (f_X3_isTarget t0 p1 s1) fun x3 s4 =>
  if x3 = 0 then
    some ((-1), s4)
  else
    if p2 < 0 then
      some ((-2), s4)
    else
      if p2 ≤ 2 then
        (m_gR s4 3 t0 21).bind fun r10 =>
        r10.bind fun a12 =>
        (m_aI s4 6 a12 p1).bind fun x13 =>
        if x13 = 0 then
          some ((-3), s4)
        else
          if p2 = 0 then
            (m_gR s4 3 t0 14).bind fun r28 =>
            r28.bind fun a30 =>
            (m_aI s4 5 a30 p1).bind fun x31 =>
            some (x31, s4)
          else
            if p2 = 1 then
              (m_gR s4 3 t0 15).bind fun r23 =>
              r23.bind fun a25 =>
              (m_aI s4 5 a25 p1).bind fun x26 =>
              some (x26, s4)
            else
              (m_gR s4 3 t0 16).bind fun r18 =>
              r18.bind fun a20 =>
              (m_aI s4 5 a20 p1).bind fun x21 =>
              some (x21, s4)
      else
        some ((-2), s4)
set_option maxHeartbeats 4000000 in
set_option maxRecDepth 100000 in
theorem c_X3_failed (l : Launch) (D : va_G) (tc : Nat → ClassId) (b : Nat) (t0 : Nat) (p1 : Int32) (p2 : Int32) (s0 st' : MS) (r : Int32) (h : f_X3_failed t0 p1 p2 s0 = some (r, st')) : Met l yX3_failed wsX3_failed ({ frames := 1, cells := 0, slots := 0, locals := 21 }) (m_Pc D vwCl (m_tys tc) b s0 [.ref t0, .int p1, .int p2]) (m_Q D vwCl (m_tys tc) b (some (.int r)) st') 0 0 (m_A b) := by
  unfold f_X3_failed at h
  refine m_met (cc := cX3_failed) (maxL := 3) (ret := (some .int)) (by decide) rfl (by first | exact Nat.le_of_ble_eq_true rfl | simp [lg_sl, m_rfc, m_catI, m_catL, m_catA]) ?_
  intro p e s m below meth c ls S hr hlk hnm hK hP hl hS
  replace hl : lv_has ls 3 [(0, .ref t0), (1, .int p1), (2, .int p2)] := by first | exact hl | simpa [lv_args, m_rfc, m_catI, m_catL, m_catA] using hl
  refine lv_aload_n S.1 S.2.1 dX3_failed_0 rfl (lv_at hl 0 rfl) ?_
  refine lv_iconst (v := 0) S.1 S.2.1 dX3_failed_1 (by decide) ?_
  obtain ⟨s1, e2, h⟩ := m_bs h
  refine m_put (ci := 3) (k := 0) (T := TX3) (N := 25) (v := .int 0) (ty := .int) S (inX3 _) tyX3 tX3 nX3 hK hP hS e2 rfl (by decide) (S.2.2.2.2 (.fieldLink RX3 71 "RuleHouse2Model" "code" "I") (m_mem (by decide +kernel))) rfl rfl (by decide +kernel) rfl rfl dX3_failed_2 (fun H locs hP hS => ?_)
  refine lv_aload_n S.1 S.2.1 dX3_failed_5 rfl (lv_at hl 0 rfl) ?_
  refine lv_iload_n S.1 S.2.1 dX3_failed_6 rfl (lv_at hl 1 rfl) ?_
  obtain ⟨_, k6, h⟩ := m_bs h
  obtain ⟨x3, s4, e5, h⟩ := m_b_s h
  refine m_calli (va_runV (As := [.int p1]) (rest := []) S (c_X3_isTarget l D tc b t0 p1 _ _ _ e5) (cwV 1 S.2.2.2.2 (m_wV kX3_isTarget (by decide +kernel)) rfl rfl rfl (by decide +kernel) ⟨by decide +kernel, by decide +kernel⟩) (m_preV hK hP (m_is_s k6) rfl) rfl rfl hl.1 rfl (lv_room (by first | decide | simp [m_rfc, m_catI, m_catL, m_catA])) dX3_failed_7 ⟨by decide +kernel, by decide +kernel⟩) hS (fun H locs hP hS => ?_)
  refine lv_if_ne (tgt := 15) S.1 S.2.1 dX3_failed_10 (by decide) (fun c7 => ?_) (fun c7 => ?_)
  · replace h := m_f c7 h
    refine lv_iload_n S.1 S.2.1 dX3_failed_15 rfl (lv_at hl 2 rfl) ?_
    refine lv_if_lt (tgt := 24) S.1 S.2.1 dX3_failed_16 (by decide) (fun c8 => ?_) (fun c8 => ?_)
    · replace h := m_t c8 h
      refine lv_bipush (v := (-2)) S.1 S.2.1 dX3_failed_24 (by decide) ?_
      obtain ⟨h1, h2⟩ := m_fin h; subst h1; subst h2
      exact m_iret S hr hlk hK hP hS (by decide +kernel) (by decide +kernel) dX3_failed_26
    · replace h := m_f c8 h
      refine lv_iload_n S.1 S.2.1 dX3_failed_19 rfl (lv_at hl 2 rfl) ?_
      refine lv_iconst (v := 2) S.1 S.2.1 dX3_failed_20 (by decide) ?_
      refine lv_icmp_le (tgt := 27) S.1 S.2.1 dX3_failed_21 (by decide) (fun c9 => ?_) (fun c9 => ?_)
      · replace h := m_t c9 h
        refine lv_aload_n S.1 S.2.1 dX3_failed_27 rfl (lv_at hl 0 rfl) ?_
        obtain ⟨r10, e11, h⟩ := m_bs h
        refine m_get (ci := 3) (k := 21) (T := TX3) (N := 25) S (inX3 _) hK hP (m_gR_s e11) rfl (by decide) (S.2.2.2.2 (.fieldLink RX3 54 "RuleHouse2Model" "run" "[Z") (m_mem (by decide +kernel))) rfl dX3_failed_28 ?_
        refine lv_iload_n S.1 S.2.1 dX3_failed_31 rfl (lv_at hl 1 rfl) ?_
        obtain ⟨a12, ea, g⟩ := m_bs h; clear h; subst ea; have h := g; clear g
        obtain ⟨x13, e14, h⟩ := m_bs h
        refine m_zald (t := 6) S hK hP (m_aI_s e14) rfl dX3_failed_32 ?_
        refine lv_if_ne (tgt := 39) S.1 S.2.1 dX3_failed_33 (by decide) (fun c15 => ?_) (fun c15 => ?_)
        · replace h := m_f c15 h
          refine lv_iload_n S.1 S.2.1 dX3_failed_39 rfl (lv_at hl 2 rfl) ?_
          refine lv_if_ne (tgt := 52) S.1 S.2.1 dX3_failed_40 (by decide) (fun c16 => ?_) (fun c16 => ?_)
          · replace h := m_f c16 h
            refine lv_iload_n S.1 S.2.1 dX3_failed_52 rfl (lv_at hl 2 rfl) ?_
            refine lv_iconst (v := 1) S.1 S.2.1 dX3_failed_53 (by decide) ?_
            refine lv_icmp_ne (tgt := 66) S.1 S.2.1 dX3_failed_54 (by decide) (fun c17 => ?_) (fun c17 => ?_)
            · replace h := m_f c17 h
              refine lv_aload_n S.1 S.2.1 dX3_failed_66 rfl (lv_at hl 0 rfl) ?_
              obtain ⟨r18, e19, h⟩ := m_bs h
              refine m_get (ci := 3) (k := 16) (T := TX3) (N := 25) S (inX3 _) hK hP (m_gR_s e19) rfl (by decide) (S.2.2.2.2 (.fieldLink RX3 39 "RuleHouse2Model" "began" "[I") (m_mem (by decide +kernel))) rfl dX3_failed_67 ?_
              refine lv_iload_n S.1 S.2.1 dX3_failed_70 rfl (lv_at hl 1 rfl) ?_
              obtain ⟨a20, ea, g⟩ := m_bs h; clear h; subst ea; have h := g; clear g
              obtain ⟨x21, e22, h⟩ := m_bs h
              refine m_iald (t := 5) S hK hP (m_aI_s e22) rfl dX3_failed_71 ?_
              obtain ⟨h1, h2⟩ := m_fin h; subst h1; subst h2
              exact m_iret S hr hlk hK hP hS (by decide +kernel) (by decide +kernel) dX3_failed_72
            · replace h := m_t c17 h
              refine lv_aload_n S.1 S.2.1 dX3_failed_57 rfl (lv_at hl 0 rfl) ?_
              obtain ⟨r23, e24, h⟩ := m_bs h
              refine m_get (ci := 3) (k := 15) (T := TX3) (N := 25) S (inX3 _) hK hP (m_gR_s e24) rfl (by decide) (S.2.2.2.2 (.fieldLink RX3 36 "RuleHouse2Model" "bit" "[I") (m_mem (by decide +kernel))) rfl dX3_failed_58 ?_
              refine lv_iload_n S.1 S.2.1 dX3_failed_61 rfl (lv_at hl 1 rfl) ?_
              obtain ⟨a25, ea, g⟩ := m_bs h; clear h; subst ea; have h := g; clear g
              obtain ⟨x26, e27, h⟩ := m_bs h
              refine m_iald (t := 5) S hK hP (m_aI_s e27) rfl dX3_failed_62 ?_
              refine lv_goto (tgt := 72) S.1 S.2.1 dX3_failed_63 (by decide) ?_
              obtain ⟨h1, h2⟩ := m_fin h; subst h1; subst h2
              exact m_iret S hr hlk hK hP hS (by decide +kernel) (by decide +kernel) dX3_failed_72
          · replace h := m_t c16 h
            refine lv_aload_n S.1 S.2.1 dX3_failed_43 rfl (lv_at hl 0 rfl) ?_
            obtain ⟨r28, e29, h⟩ := m_bs h
            refine m_get (ci := 3) (k := 14) (T := TX3) (N := 25) S (inX3 _) hK hP (m_gR_s e29) rfl (by decide) (S.2.2.2.2 (.fieldLink RX3 33 "RuleHouse2Model" "failure" "[I") (m_mem (by decide +kernel))) rfl dX3_failed_44 ?_
            refine lv_iload_n S.1 S.2.1 dX3_failed_47 rfl (lv_at hl 1 rfl) ?_
            obtain ⟨a30, ea, g⟩ := m_bs h; clear h; subst ea; have h := g; clear g
            obtain ⟨x31, e32, h⟩ := m_bs h
            refine m_iald (t := 5) S hK hP (m_aI_s e32) rfl dX3_failed_48 ?_
            refine lv_goto (tgt := 72) S.1 S.2.1 dX3_failed_49 (by decide) ?_
            obtain ⟨h1, h2⟩ := m_fin h; subst h1; subst h2
            exact m_iret S hr hlk hK hP hS (by decide +kernel) (by decide +kernel) dX3_failed_72
        · replace h := m_t c15 h
          refine lv_bipush (v := (-3)) S.1 S.2.1 dX3_failed_36 (by decide) ?_
          obtain ⟨h1, h2⟩ := m_fin h; subst h1; subst h2
          exact m_iret S hr hlk hK hP hS (by decide +kernel) (by decide +kernel) dX3_failed_38
      · replace h := m_f c9 h
        refine lv_bipush (v := (-2)) S.1 S.2.1 dX3_failed_24 (by decide) ?_
        obtain ⟨h1, h2⟩ := m_fin h; subst h1; subst h2
        exact m_iret S hr hlk hK hP hS (by decide +kernel) (by decide +kernel) dX3_failed_26
  · replace h := m_t c7 h
    refine lv_iconst (v := (-1)) S.1 S.2.1 dX3_failed_13 (by decide) ?_
    obtain ⟨h1, h2⟩ := m_fin h; subst h1; subst h2
    exact m_iret S hr hlk hK hP hS (by decide +kernel) (by decide +kernel) dX3_failed_14
end
section
/-! ===== methods that throw ===== -/
/-- the contract of a method that throws: which cell, and what it leaves -/
def MetT (l : Launch) (y : MethodName) (ws : List Cond) (rm : Room) (Pc : Array Value → State → Prop) (Qt : Array Value → State → Addr → State → Prop) (mc ms : Nat) (free : Addr → Prop) : Prop :=
  MetFree l y (headSpec ws rm) Pc (fun _ _ _ _ _ => True) (fun a st o t => ∃ x, o = .threw x ∧ Qt a st x t ∧ ∃ L, (st.WarmedH t.vm ∧ st.sameButNew ({ t with vm := st.vm } : State) L mc ms) ∧ ∀ q ∈ L, free q.base)
def MTQ (below : List Frame) (Qt : Array Value → State → Addr → State → Prop) (a : Array Value) (s : State) (mc ms : Nat) (free : Addr → Prop) : State → Prop := fun t =>
  ∃ x, t.status = .running ∧ Ended t below (.threw x) ∧ Qt a s x t ∧ ∃ L, (s.WarmedH t.vm ∧ s.sameButNew ({ t with vm := s.vm } : State) L mc ms) ∧ ∀ q ∈ L, free q.base
theorem MetT.ofW {l : Launch} {y : MethodName} {ws ws' : List Cond} {rm : Room} {Pc : Array Value → State → Prop} {Qt : Array Value → State → Addr → State → Prop} {mc ms : Nat} {free : Addr → Prop} {cc : ByteArray} {maxL : Nat} {ret : Option FieldType}
    (hy : plainName y.cls = true) (hw : ws = Cond.code y cc maxL ret :: ws')
    (body : ∀ p e s m args below meth c s₁, BodyLoose p l y (headSpec ws rm) cc maxL ret e s m args below meth c s₁ → c.maxLocals = maxL → Pc args s →
      W p l e (headSpec ws rm).room s m args below meth c s.heap [] 0 0 (MTQ below Qt args s mc ms free) (entryFrame m args maxL)) : MetT l y ws rm Pc Qt mc ms free := by
  refine MetFree.of_bodyS (code := cc) (maxLocals := maxL) (ret := ret) hy ?_ ?_
  · intro args s m h hn
    obtain ⟨meth, c, h1, h2, h3, h4, h5, h6, -, -⟩ := Cond.code_spec hn (atoms_spec (ws := ws) h _ (by rw [hw]; exact List.mem_cons_self))
    exact ⟨meth, c, h1, h2, h3, h4, h5, h6⟩
  · intro p e s m args below meth c s₁ B hml hP _
    have hh0 : s₁.heap = s.heap := by rw [B.state]; rfl
    obtain ⟨t, a1, x, b1, b2, b3, b4⟩ := body p e s m args below meth c s₁ B hml hP s₁ hh0 (Stand.of_body B)
    exact ⟨t, .threw x, a1, b1, b2, x, rfl, b3, b4⟩
/-- the new cell of class cls, thrown; the world has one cell more, that nobody knows -/
def m_QT (D : va_G) (cl : List vw_C) (tys : List (ClassId × FieldType)) (b : Nat) (cls : String) (st : MS) : Array Value → State → Addr → State → Prop := fun _ s0 x t => (∃ cell : Cell, t.heap[x]? = some cell ∧ cell.vm = .none ∧ s0.vm.findClass cls = some cell.cls) ∧ (mw D cl tys b st t.heap ∧ va_K D cl tys t) ∧ va_F (m_A b) s0 t
theorem m_metT {l : Launch} {y : MethodName} {ws ws' : List Cond} {rm : Room} {mc ms : Nat} {cc : ByteArray} {maxL : Nat} {ret : Option FieldType} {D : va_G} {cl : List vw_C} {tys : List (ClassId × FieldType)} {b : Nat} {st st' : MS} {as : List Value} {cls : String}
    (hy : plainName y.cls = true) (hw : ws = Cond.code y cc maxL ret :: ws') (hlen : (lg_sl as).length ≤ maxL)
    (body : ∀ (p : Program) (e : Env) (s : State) (m : MethodId) (below : List Frame) (meth : Method) (c : Code) (ls : Array Slot), CallFix p m c cc maxL s as.toArray ws y.cls → c.exceptionTable.isEmpty = true → meth.locks = false → va_K D cl tys s → mw D cl tys b st s.heap → lv_has ls maxL (lv_args 0 as) → va_S (m_A b) s.heap s.heap [] → m_E b s →
      W p l e rm s m as.toArray below meth c s.heap [] 0 0 (MTQ below (m_QT D cl tys b cls st') as.toArray s mc ms (m_A b)) (F0 m 0 ls [])) : MetT l y ws rm (m_PcE D cl tys b st as) (m_QT D cl tys b cls st') mc ms (m_A b) := by
  refine MetT.ofW (cc := cc) (maxL := maxL) (ret := ret) hy hw ?_
  intro p e s m args below meth c s₁ B hml hv
  obtain ⟨⟨rfl, hP, hK⟩, hE⟩ := hv
  have hts := atoms_spec (ws := ws) B.pre
  have hl := lv_entry as (n := maxL) hlen
  rw [lg_entry_eq]
  exact body p e s m below meth c _ ⟨B.exec, B.bytes, hml, findClass_of_methodNamed B.named, hts⟩ (B.noHandlers (hts _ (by rw [hw]; exact List.mem_cons_self))) B.notSynchronized hK hP hl va_S.rf hE
theorem m_ntr {l : Launch} {e : Env} (h : l.admits e) (hl : l.stackTraces = false) : e.platform.stackTraces = false := by
  have h1 := h.2.2.2.2.1
  rw [h1]
  exact hl
/-- the walk's start is taken anew, at the heap as it now is -/
def m_s1 (s V : State) : State := { s.setVm V.vm with heap := V.heap, slotsUsed := V.slotsUsed }
theorem m_restand {p : Program} {l : Launch} {e : Env} {R : Room} {s : State} {m : MethodId} {args : Array Value} {below : List Frame} {meth : Method} {c : Code} {V : State} {locs : List Loc} {cells slots k n : Nat} (X : Stand p l e R s m args below meth c V locs cells slots) (hc : cells + k ≤ R.cells) (hs : slots + n ≤ R.slots) :
    Stand p l e { frames := R.frames, cells := k, slots := n, locals := R.locals } (m_s1 s V) m args below meth c V [] 0 0 := by
  have Y := X.rebased (Vm.Akin.of_alike X.warmed.alike)
  have hroom : (m_s1 s V).hasRoom e.platform { frames := R.frames, cells := k, slots := n, locals := R.locals } = true := by
    have h := Y.room
    have h1 := X.cellsAbove (n := k) hc
    have h2 := X.slotsAbove (n := n) hs
    have h3 := X.book
    simp only [State.hasRoom, Bool.and_eq_true, decide_eq_true_eq] at h ⊢
    exact ⟨⟨⟨⟨h.1.1.1.1, h.1.1.1.2⟩, h1⟩, h2⟩, h3⟩
  have hsame : (m_s1 s V).sameButNew (V.setVm (m_s1 s V).vm) [] 0 0 := by
    refine ⟨?_, Nat.le_refl _, Nat.le_refl _, ?_, ?_, ?_⟩
    · have h := Y.same.1
      show V = _
      have hV : (V.setVm V.vm).setVm (s.setVm V.vm).vm = V := rfl
      rw [hV] at h
      exact h
    · show V.slotsUsed = V.slotsUsed + ((V.heap.toList.drop V.heap.size).map (·.slots.size)).sum
      rw [List.drop_eq_nil_of_le (by simp)]
      rfl
    · show ((V.heap.toList.drop V.heap.size).map (·.slots.size)).sum ≤ 0
      rw [List.drop_eq_nil_of_le (by simp)]
      exact Nat.le_refl _
    · intro a cell h
      exact ⟨cell, h, rfl, rfl, fun _ _ => rfl⟩
  exact ⟨Y.admits, Y.cas, Y.clock, Y.frames, hroom, Y.hears, Y.method, Y.code, Y.here, Y.tail, State.WarmedH.refl _, Y.limits, Y.bytes, hsame⟩
/-- what has changed since the new start has changed since the old one -/
theorem m_backsame {s V U : State} {locs : List Loc} {cells slots k n : Nat} (h1 : s.sameButNew (V.setVm s.vm) locs cells slots) (h2 : (m_s1 s V).sameButNew ({ U with vm := (m_s1 s V).vm } : State) [] k n) : s.sameButNew ({ U with vm := s.vm } : State) locs (cells + k) (slots + n) := by
  have h3 : (V.setVm s.vm).sameButNew ({ U with vm := s.vm } : State) [] k n := by
    obtain ⟨e1, q2, q3, q4, q5, q6⟩ := h2
    refine ⟨?_, q2, q3, q4, q5, q6⟩
    have e2 := h1.1
    have e3 : ({ U with vm := s.vm } : State) = ({ s.setFrames ({ U with vm := (m_s1 s V).vm } : State).frames with heap := U.heap, slotsUsed := U.slotsUsed } : State) := congrArg (fun z : State => z.setVm s.vm) e1
    have e4 : (V.setVm s.vm).setFrames ({ U with vm := (m_s1 s V).vm } : State).frames = ({ s.setFrames ({ U with vm := (m_s1 s V).vm } : State).frames with heap := V.heap, slotsUsed := V.slotsUsed } : State) := by
      rw [e2]
      show ({ (s.setFrames _).setFrames _ with heap := V.heap, slotsUsed := V.slotsUsed } : State) = _
      rw [State.setFrames_setFrames]
    show ({ U with vm := s.vm } : State) = ({ (V.setVm s.vm).setFrames ({ U with vm := (m_s1 s V).vm } : State).frames with heap := U.heap, slotsUsed := U.slotsUsed } : State)
    rw [e4]
    exact e3
  have h4 := h1.trans h3
  rw [List.append_nil] at h4
  exact h4
set_option maxHeartbeats 4000000 in
/-- new X(text) is made and thrown: the row -/
theorem m_throw {p : Program} {l : Launch} {e : Env} {R : Room} {s : State} {m : MethodId} {args : Array Value} {below : List Frame} {meth : Method} {c : Code} {H : Heap} {locs : List Loc} {cells slots : Nat} {cc : ByteArray} {pc nL b : Nat} {ls : Array Slot} {D : va_G} {cl : List vw_C} {tys : List (ClassId × FieldType)} {st : MS} {w0 : Cond} {own cls tx : String} {ic ix il : Nat}
    (hfl : l.stackTraces = false) (S : CallFix p m c cc nL s args (w0 :: m_tbl) own) (hno : c.exceptionTable.isEmpty = true) (hlk : meth.locks = false) (hK : va_K D cl tys s) (hP : mw D cl tys b st H) (hS : va_S (m_A b) s.heap H locs) (hE : m_E b s)
    (hat : ∀ U : State, m_E b U → ∀ w ∈ Bundle.ownAtoms own ic cls m_xup, w.before args U = true) (htx : ∀ U : State, m_E b U → ∃ q, vk_R own il tx q U) (hcls : Bundle.fit cls = true)
    (hcl : (decide (Cond.classLink own ix cls ∈ lw_tbl) && goodWord (Cond.classLink own ix cls)) = true) (hini : (decide (Cond.initialized cls ∈ lw_tbl) && goodWord (Cond.initialized cls)) = true)
    (hfr : 5 < R.frames) (hlo : 90 ≤ R.locals) (hsz : ls.size = nL) (hcells : cells + 1 ≤ R.cells) (hslots : slots + 6 ≤ R.slots)
    (d1 : decode cc pc = .ok (.new ix, 3)) (d2 : decode cc (pc + 3) = .ok (.dup, 1)) (d3 : decode cc (pc + 4) = .ok (.ldc il, 2)) (d4 : decode cc (pc + 6) = .ok (.invokespecial ic, 3)) (d5 : decode cc (pc + 9) = .ok (.athrow, 1)) :
    W p l e R s m args below meth c H locs cells slots (MTQ below (m_QT D cl tys b cls (st.1 + 1, st.2.1, st.2.2)) args s (cells + 1) (slots + 6) (m_A b)) (F0 m pc ls []) := by
  obtain ⟨hx, hb, hml, hown, hts⟩ := S
  intro T hT X
  have X' := m_restand X hcells hslots
  have hW0 : s.WarmedH (m_s1 s T).vm := X.warmed
  have hE1 : m_E b (m_s1 s T) := hE.to hP hS hT hW0
  have hown1 : (m_s1 s T).vm.findClass own = some m.cls := by rw [hW0.alike.findClass]; exact hown
  have hcl1 : (Cond.classLink own ix cls).before args (m_s1 s T) = true := word_at hW0 (good_of_word (Bool.and_eq_true _ _ |>.mp hcl).2) (hts _ (m_mem hcl))
  have hini1 : (Cond.initialized cls).before args (m_s1 s T) = true := word_at hW0 (good_of_word (Bool.and_eq_true _ _ |>.mp hini).2) (hts _ (m_mem hini))
  have hins1 : (Cond.instantiable cls 6).before args (m_s1 s T) = true := hat _ hE1 _ (by simp [Bundle.ownAtoms])
  have hhs : (m_s1 s T).heap.size = st.1 := by rw [← hP.1, ← hT]; rfl
  have hTs : T.heap.size = st.1 := by rw [hT]; exact hP.1
  obtain ⟨vm₁, cX, kX, hfX, hkX, -, -, X₁, st1⟩ := X'.newCold hx (own := own) (C := cls) (index := ix) (n := 6) hown1 hcl1 hins1 hini1
    (g := F0 m pc ls []) rfl (by rw [hb]; exact d1) (Nat.le_refl _) (Nat.le_refl _)
  generalize hT1 : (T.setVm vm₁).pushCell { cls := cX, slots := kX.instanceTypes.map defaultValue, vm := .none } = T1 at X₁ st1
  have hcellA : T1.heap[T.heap.size]? = some (freshCell cX kX) := by rw [← hT1]; exact State.heap_pushCell_size _ _
  have htr : e.platform.stackTraces = false := m_ntr X.admits hfl
  obtain ⟨q, hq⟩ := htx _ hE1
  have w : W p l e { frames := R.frames, cells := 1, slots := 6, locals := R.locals } (m_s1 s T) m args below meth c T1.heap [] (0 + 1) (0 + 6) (MTQ below (m_QT D cl tys b cls (st.1 + 1, st.2.1, st.2.2)) args s (cells + 1) (slots + 6) (m_A b)) (F0 m (pc + 3) ls [.ref T.heap.size]) := by
    refine lv_dup hx hb d2 rfl ?_
    refine va_ldcS hx hb hown1 hq d3 ?_
    intro T2 hT2 X2
    obtain ⟨U, hsteps, hrun, hend, hWU, hsame, ce, hce, KC⟩ := X2.ctorThrowS hx htr (own := own) (cls := cls) (names := m_xup) (ic := ic) hown1 hcls (by decide) (hat _ hE1) (fun y hy => by cases hy) (cX := cX) (kX := kX) hfX hkX (a := T.heap.size) (by rw [hT2]; exact hcellA) (by rw [hhs, hTs]; exact Nat.le_refl _) (msg := .ref q) rfl
      (g := F0 m (pc + 6) ls [.ref q, .ref T.heap.size, .ref T.heap.size]) rfl (by rw [hml]; exact hsz) rfl rfl (rest := []) rfl (by rw [hb]; exact d4) (by rw [hb]; exact d5) (covers_of_empty hno _) (by show 2 + 3 < R.frames; exact hfr) (by show 2 * 0 + 1 + (13 * (2 + 1) + 42) ≤ R.locals; omega) hlk
    have hkeep : ∀ z : Nat, z < st.1 → U.heap[z]? = H[z]? := by
      intro z hz
      have hlt : z < (m_s1 s T).heap.size := by rw [hhs]; exact hz
      obtain ⟨c', k1, k2, k3, k4⟩ := hsame.2.2.2.2.2 z _ (Array.getElem?_eq_getElem hlt)
      have hsl : c'.slots = ((m_s1 s T).heap[z]'hlt).slots := by
        apply Array.ext_getElem?
        intro i
        exact k4 i (fun h => by cases h)
      have hcc : c' = (m_s1 s T).heap[z]'hlt := by rw [k2, hsl]
      have k1' : U.heap[z]? = some c' := k1
      rw [k1', hcc, ← Array.getElem?_eq_getElem hlt]
      show T.heap[z]? = H[z]?
      rw [hT]
    have hsize : U.heap.size = st.1 + 1 := by
      have g1 : U.heap.size ≤ (m_s1 s T).heap.size + (0 + 1) := hsame.2.2.1
      have g2 : T.heap.size < U.heap.size := (Array.getElem?_eq_some_iff.mp hce).1
      rw [hhs] at g1
      rw [hTs] at g2
      omega
    have hmw : mw D cl tys b (st.1 + 1, st.2.1, st.2.2) U.heap := by
      refine ⟨hsize, Nat.le_trans hP.2.1 (Nat.le_succ _), fun a x ha => ?_, fun a cell hba hac => ?_⟩
      · have h1 := hP.2.2.1 a x ha
        have h2 := h1.2.lt
        rw [hP.1] at h2
        exact ⟨h1.1, h1.2.kept (hkeep a h2)⟩
      · rcases Nat.lt_or_ge a st.1 with h1 | h1
        · rw [hkeep a h1] at hac
          exact hP.2.2.2 a cell hba hac
        · have h2 := (Array.getElem?_eq_some_iff.mp hac).1
          have h3 : a = T.heap.size := by omega
          rw [h3] at hac
          cases hce.symm.trans hac
          rw [KC.vm]; rfl
    refine ⟨U, hsteps, T.heap.size, hrun, hend, ⟨⟨ce, hce, KC.vm, ?_⟩, ⟨hmw, va_K.moved (hW0.trans hWU).alike hK⟩, ?_⟩, locs, ⟨hW0.trans hWU, m_backsame X.same hsame⟩, hS.2.2⟩
    · rw [← hW0.alike.findClass]; exact KC.cls
    · refine ⟨by rw [hsize, ← hP.1]; exact Nat.le_trans hS.1 (Nat.le_succ _), fun z hz1 hz2 => ?_⟩
      have hz3 : z < st.1 := by rw [← hP.1]; exact Nat.lt_of_lt_of_le hz1 hS.1
      rw [hkeep z hz3]
      exact hS.2.1 z hz1 hz2
  obtain ⟨t, a1, b1⟩ := w T1 rfl X₁
  exact ⟨t, st1 t a1, b1⟩
end
section
/-! ===== a call that throws, and the handler of the caller's own that takes it (its table has one entry; its class is linked, cold or warm) ===== -/
theorem m_setfin {V : State} {g₀ g g2 : JFrame} {r : List Frame} {fr : Frame} (vm' : Vm) (hr : V.frames = .java g₀ :: r) : (((V.setTop g).pushFrame fr).setVm vm').setFrames (.java g2 :: V.frames.tail) = (V.setVm vm').setTop g2 := by
  have hr' : (V.setVm vm').frames = .java g₀ :: r := hr
  rw [State.setTop_of_frames _ hr', State.pushFrame, State.setTop_of_frames _ hr, hr, List.tail_cons, State.setFrames_setFrames]
  have h1 : ∀ F : List Frame, (V.setFrames F).setVm vm' = (V.setVm vm').setFrames F := fun F => rfl
  rw [h1, State.setFrames_setFrames]
theorem m_caught {p : Program} {l : Launch} {e : Env} {R : Room} {s : State} {m : MethodId} {args : Array Value} {below : List Frame} {meth : Method} {c : Code} {V : State} {locs : List Loc} {cells slots : Nat} (X : Stand p l e R s m args below meth c V locs cells slots) {own cls : String} (hown : s.vm.findClass own = some m.cls) (pc : Nat) (ls : Array Slot) (rest : List Value) {x : ExceptionTableEntry}
    (htab : c.exceptionTable.toList = [x]) (hx : covers x pc = true) (h0 : x.catchType ≠ 0) (hlink : (Cond.classLink own x.catchType cls).before args s = true) {a : Addr} {cell : Cell} (hcell : V.heap[a]? = some cell) (hobj : cell.vm = .none) (hfc : s.vm.findClass cls = some cell.cls) (hself : s.vm.assignable cell.cls cell.cls = true) :
    ∃ vm', Stand p l e R s m args below meth c (V.setVm vm') locs cells slots ∧ ∀ target, Steps p.tables e below ((V.setVm vm').setTop (F0 m x.handlerPc ls [.ref a])) target → Steps p.tables e below ((V.setTop (F0 m pc ls rest)).pushFrame (.throwing a)) target := by
  have hpl : e.platform.magicAccessors = ({} : Platform).magicAccessors := by rw [X.admits.platform]
  obtain ⟨c', hc', hcl⟩ := Cond.classLink_spec hown hlink e.platform hpl
  cases hfc.symm.trans hc'
  obtain ⟨dk, _, _, kt, hd, _, _, _, _, hkt, _, hopen⟩ := hcl.here
  have hclV : V.vm.ClassLinks e.platform m.cls x.catchType cell.cls := X.warmed.classLinks hcl
  have hW' : s.WarmedH (V.vm.noted m.cls x.catchType (.cls cell.cls)) := X.warmed.noted hd hopen (State.rightAt_cls hcl)
  have hal2 : V.vm.Alike (V.vm.noted m.cls x.catchType (.cls cell.cls)) := (Vm.Alike.refl V.vm).noted _ _ _
  obtain ⟨kt1, hkt1, -⟩ := hW'.alike.2.2 _ _ hkt
  have hfit2 : (V.vm.noted m.cls x.catchType (.cls cell.cls)).assignable cell.cls cell.cls = true := by rw [hW'.alike.assignable]; exact hself
  refine ⟨_, X.noted hW', fun target hrest => ?_⟩
  have hfind : ∀ (Q : Handler → Pre) (E : CtlPost) (d : Bool) (acts : List Action), wp (findHandler (F0 m pc ls rest) a) Q E e d acts ((V.setTop (F0 m pc ls rest)).pushFrame (.throwing a)) ↔ Q (.found x.handlerPc) d acts (((V.setTop (F0 m pc ls rest)).pushFrame (.throwing a)).setVm (V.vm.noted m.cls x.catchType (.cls cell.cls))) := by
    intro Q E d acts
    rw [W.findHandler_eq (meth := meth) (code := c) X.method' X.code, htab]
    simp only [covers] at hx
    obtain ⟨ha, ht⟩ := (resolveClass_links e.toSetting hclV).op (op := VmOp.resolveClass m.cls x.catchType) rfl
    have ho : ∀ k, cell.vm ≠ .statics k := fun k h => by rw [hobj] at h; cases h
    have hhe : ((V.setTop (F0 m pc ls rest)).pushFrame (.throwing a)).heap[a]? = some cell := hcell
    have hvm : ((V.setTop (F0 m pc ls rest)).pushFrame (.throwing a)).vm = V.vm := rfl
    rw [← hvm] at ha ht hkt1 hfit2 ⊢
    simp [findHandler.go, hx, h0, ha, ht, hhe, ho, hkt1, hfit2, VmOp.dirties, VmOp.acts]
  have hthr : (stepThrowing e ((V.setTop (F0 m pc ls rest)).pushFrame (.throwing a)) a (.java (F0 m pc ls rest) :: V.frames.tail)).Is ((((V.setTop (F0 m pc ls rest)).pushFrame (.throwing a)).setVm (V.vm.noted m.cls x.catchType (.cls cell.cls))).setFrames (.java (F0 m x.handlerPc ls [.ref a]) :: V.frames.tail)) [] := by
    simp only [stepThrowing, searchFrame, vmDo]
    generalize hr : Sem.go _ e false [] _ = res
    obtain ⟨as, rfl, ha⟩ := Sem.eq_ok_of hr (a := Handler.found x.handlerPc) (s' := ((V.setTop (F0 m pc ls rest)).pushFrame (.throwing a)).setVm (V.vm.noted m.cls x.catchType (.cls cell.cls))) (acts' := []) (by simp [hfind _ _ _ _])
    exact ⟨rfl, ha⟩
  have hAt : At V (F0 m pc ls rest).method c below := X.here
  obtain ⟨hgo, hw⟩ := hAt.throwing a
  refine Steps.head hgo hw ?_
  rw [stepThread_throwing (frames_entered hAt.top _), hthr.1]
  obtain ⟨g₀, hg0⟩ := Option.isSome_iff_exists.mp hAt.top
  obtain ⟨r, hr⟩ := State.topJava?_eq_some.mp hg0
  rw [m_setfin _ hr]
  exact hrest
/-- invokevirtual of a method that throws, caught here -/
theorem m_callT {p : Program} {l : Launch} {e : Env} {R : Room} {s : State} {m : MethodId} {args : Array Value} {below : List Frame} {meth : Method} {c : Code} {H : Heap} {locs : List Loc} {cells slots : Nat} {Q : State → Prop} {y : MethodName} {bytes cc : ByteArray} {maxL nL mc ms n index : Nat} {ret : Option FieldType} {ws : List Cond} {rm : Room} {Pc : Array Value → State → Prop} {Ts : List Cond} {own C cls : String} {b a0 pc : Nat} {As rest st0 : List Value} {ls : Array Slot} {D : va_G} {cl : List vw_C} {tys : List (ClassId × FieldType)} {st : MS}
    (S : CallFix p m c cc nL s args Ts own) (hM : MetT l y ws rm Pc (m_QT D cl tys b cls st) mc ms (m_A b)) (cw : CallW R s args own C index y bytes maxL ret ws rm mc ms n) (hp : PreV s H C a0 Pc As)
    (hn : As.length = n) (hsize : ls.size = nL) (hstack : st0 = As.reverse ++ .ref a0 :: rest) (hW : (rest.map fun v => v.category).sum ≤ 8) (hdg : decode cc pc = .ok (.invokevirtual index, 3)) (hf : cells + mc ≤ R.cells ∧ slots + ms ≤ R.slots)
    {x : ExceptionTableEntry} (htab : c.exceptionTable.toList = [x]) (hx : covers x pc = true) (h0 : x.catchType ≠ 0) (hlink : (Cond.classLink own x.catchType cls).before args s = true) (hself : ∀ cX, s.vm.findClass cls = some cX → s.vm.assignable cX cX = true)
    (hS : va_S (m_A b) s.heap H locs)
    (kk : ∀ (a : Nat) (H1 : Heap) (locs1 : List Loc), mw D cl tys b st H1 → va_S (m_A b) s.heap H1 locs1 → W p l e R s m args below meth c H1 locs1 (cells + mc) (slots + ms) Q (F0 m x.handlerPc ls [.ref a])) : W p l e R s m args below meth c H locs cells slots Q (F0 m pc ls st0) := by
  intro T hT X
  obtain ⟨⟨hrc, hrs, hfr, hlo, hws, hcw, hcode, hini, hy, hlen, hl⟩, hin, hse⟩ := cw
  obtain ⟨hex, hb, hml, ho, -⟩ := S
  obtain ⟨hbl, ⟨cellB, hcB, hoB, hclB⟩, hPc⟩ := hp
  obtain ⟨mk, methM, hnamed, hmethM, hstM, habM⟩ := Cond.instanceMethod_spec hin
  obtain ⟨methM', cM, hmethM', -, -, -, -, -, -, hsigM⟩ := Cond.code_spec hnamed hcode
  cases hmethM.symm.trans hmethM'
  obtain ⟨c2, r2, m2, q1, q2, q3, q4, kP, hkP, hkPi⟩ := Cond.selects_spec hse
  cases hclB.symm.trans q1
  cases (State.methodFound?_of_named hnamed hy).symm.trans q2
  cases hnamed.symm.trans q3
  have hselP : selectMethod e.platform s.vm cellB.cls mk = .method mk := by rw [Launch.admits_selectMethod X.admits]; exact q4
  obtain ⟨vm₁, X₁, hstep₁⟩ := X.invokevirtual hex ho hl hnamed hmethM hstM hkP hkPi hy (a := a0) (cell := cellB) (by rw [hT]; exact hcB)
    (fun z h => by rw [h] at hoB; cases hoB) hselP hmethM habM hkP hkPi (g := F0 m pc ls st0) rfl (argsL := As) (rest := rest) (hn.trans (hlen _ hsigM)) hstack (by rw [hb]; exact hdg)
  generalize hUe : T.setVm vm₁ = U at X₁ hstep₁
  have hUh : U.heap = H := by rw [← hUe]; exact hT
  have hnU : U.methodNamed? y = some mk := X₁.named hnamed
  obtain ⟨methY, cY, hmY, hcY, -, hlY, -, -, -, -⟩ := Cond.code_spec hnU (hws _ hcw (Value.ref a0 :: As).toArray U X₁.warmed)
  obtain ⟨kY, hkY, -⟩ := className_of_methodNamed hnU
  have hinitY : kY.init = .initialized := Cond.initialized_spec (findClass_of_methodNamed hnU) hkY (word_at (a' := (Value.ref a0 :: As).toArray) X₁.warmed (Or.inl (by first | rfl | simp [Cond.onTables, Cond.keeps, Cond.steady])) hini)
  have hA : At U (F0 m pc ls rest).method c below := X₁.here
  have hWs : ((F0 m pc ls rest).stack.map fun v => v.category).sum ≤ 8 := hW
  have happ : (headSpec ws rm).appliesLoose y e.platform (U.calling (F0 m pc ls rest) mk (Value.ref a0 :: As).toArray) = true :=
    Spec.appliesLoose_calling (g := F0 m pc ls rest) hA (by rw [hb]; exact hdg) hnU hkY hinitY
      (X₁.room_calling (g := F0 m pc ls rest) (R' := rm) (hsize.trans hml.symm) hmY hcY hfr (by show 2 * 0 + _ + _ + _ ≤ _; rw [hlY]; omega) (by rw [hrc]; exact hf.1) (by rw [hrs]; exact hf.2)) (atoms_intro fun w hw => hws w hw _ _ X₁.warmed)
  obtain ⟨mid, hmid⟩ := hA.above
  have hfrm : (U.setTop (F0 m pc ls rest)).frames = (.java (F0 m pc ls rest) :: mid) ++ below := by rw [State.frames_setTop' _ hA.top, hmid]; rfl
  obtain ⟨o, s₂, hsteps, -, hend, xa, rfl, hq, L, ⟨hW₂, hsm⟩, hL⟩ := Steps.callFree hM p X₁.admits X₁.cas X₁.clock (acts := []) hfrm happ (hbl _ _ _ _ (hPc U hUh X₁.warmed)) trivial
  obtain ⟨e2, z2, z3, z4, z5, z6⟩ := id hsm
  rw [State.frames_setTop' _ hA.top] at hend
  have e3 : s₂ = ({ (U.calling (F0 m pc ls rest) mk (Value.ref a0 :: As).toArray).setFrames s₂.frames with heap := s₂.heap, slotsUsed := s₂.slotsUsed } : State).setVm s₂.vm := by
    have : s₂ = ({ s₂ with vm := (U.calling (F0 m pc ls rest) mk (Value.ref a0 :: As).toArray).vm } : State).setVm s₂.vm := rfl
    refine this.trans ?_
    exact congrArg (fun z : State => z.setVm s₂.vm) e2
  have hf₂ : s₂.frames = .throwing xa :: .java (F0 m pc ls rest) :: U.frames.tail := hend
  have hWU : U.WarmedH s₂.vm := hW₂
  obtain ⟨g₀, hg0⟩ := Option.isSome_iff_exists.mp hA.top
  obtain ⟨r, hr⟩ := State.topJava?_eq_some.mp hg0
  generalize hBe : (({ U with heap := s₂.heap, slotsUsed := s₂.slotsUsed } : State).setVm s₂.vm) = B
  have hrB : B.frames = .java g₀ :: r := by rw [← hBe]; exact hr
  have hs₂ : s₂ = (B.setTop (F0 m pc ls rest)).pushFrame (.throwing xa) := by
    refine e3.trans ?_
    rw [hf₂, State.calling_eq hA.top, State.setFrames_setFrames, State.pushFrame, State.frames_setTop _ hrB, State.setTop_of_frames _ hrB, State.setFrames_setFrames, hr, ← hBe]
    rfl
  have hsame : U.sameButNew ({ U with heap := s₂.heap, slotsUsed := s₂.slotsUsed } : State) L mc ms := by
    refine ⟨?_, z2, z3, z4, z5, z6⟩
    obtain ⟨t, ht, -⟩ := State.frames_cons hr
    show ({ U with heap := s₂.heap, slotsUsed := s₂.slotsUsed } : State) = { U.setFrames U.frames with heap := s₂.heap, slotsUsed := s₂.slotsUsed }
    rw [State.setFrames_self ht]
  have XB : Stand p l e R s m args below meth c B (locs ++ L) (cells + mc) (slots + ms) := by
    rw [← hBe]
    exact ⟨X₁.admits, X₁.cas, X₁.clock, X₁.frames, X₁.room, X₁.hears, X₁.method, X₁.code, (X₁.here.setHeapUsed s₂.heap s₂.slotsUsed).setVm hWU.alike, X₁.tail, State.WarmedH.trans X₁.warmed hWU, X₁.limits, X₁.bytes, X₁.same.trans (hsame.setVm s.vm)⟩
  obtain ⟨⟨cell, hc1, hc2, hc3⟩, ⟨hmw, -⟩, hz, hk⟩ := hq
  have hBh : B.heap = s₂.heap := by rw [← hBe]; rfl
  have hfcs : s.vm.findClass cls = some cell.cls := by rw [← X₁.warmed.alike.findClass]; exact hc3
  obtain ⟨vm', X', hc⟩ := m_caught XB ho pc ls rest htab hx h0 hlink (a := xa) (cell := cell) (by rw [hBh]; exact hc1) hc2 hfcs (hself _ hfcs)
  have hz' : H.size ≤ s₂.heap.size := by rw [← hUh]; exact hz
  have hk' : ∀ q : Nat, q < H.size → ¬ m_A b q → s₂.heap[q]? = H[q]? := by rw [← hUh]; exact hk
  obtain ⟨t2, a1, b1⟩ := kk xa s₂.heap (locs ++ L) hmw
    ⟨Nat.le_trans hS.1 hz', fun q h1 h2 => by rw [hk' q (Nat.lt_of_lt_of_le h1 hS.1) h2]; exact hS.2.1 q h1 h2, fun q hq => by
      rcases List.mem_append.mp hq with h | h
      · exact hS.2.2 q h
      · exact hL q h⟩ (B.setVm vm') (by show B.heap = _; exact hBh) X'
  refine ⟨t2, hstep₁ _ fun acts => ?_, b1⟩
  rw [doInvoke_state]
  refine hsteps.trans ?_
  rw [hs₂]
  exact hc t2 a1
end
section
def f_X0_divide (t0 : Nat) (p1 : Int32) (p2 : Int64) (p3 : Int64) (s0 : MS) : Option (Option Int64 × MS) :=
  (m_is s0 0 t0).bind fun _ =>
  m_b (f_X0_classAt t0 p1 s0) fun r1 s2 =>
  m_nn r1
    (some (some 0, s2))
    (fun a5 =>
    (m_is s2 0 t0).bind fun _ =>
    m_b (f_X0_ensureMade t0 (some a5) s2) fun x6 s7 =>
    if x6 = 0 then
      some (some 0, s7)
    else
      (m_gL s7 1 a5 5).bind fun l11 =>
      (m_p s7 1 a5 5 (.long (l11 + 1))).bind fun s13 =>
      if (lg_cmp p3 0) = 0 then
        some (none, (s13.1 + 1, s13.2.1, s13.2.2))
      else
        if (p3 : Int64) = 0 then none else
        some (some (p2 / p3), s13))
set_option maxHeartbeats 4000000 in
set_option maxRecDepth 100000 in
theorem c_X0_divide_r (l : Launch) (D : va_G) (tc : Nat → ClassId) (b : Nat) (t0 : Nat) (p1 : Int32) (p2 : Int64) (p3 : Int64) (s0 st' : MS) (r : Int64) (h : f_X0_divide t0 p1 p2 p3 s0 = some (some r, st')) : Met l yX0_divide wsX0_divide ({ frames := 7, cells := 1, slots := 6, locals := 160 }) (m_PcE D vwCl (m_tys tc) b s0 [.ref t0, .int p1, .long p2, .long p3]) (m_Q D vwCl (m_tys tc) b (some (.long r)) st') 1 6 (m_A b) := by
  unfold f_X0_divide at h
  refine m_metE (cc := cX0_divide) (maxL := 7) (ret := (some .long)) (by decide) rfl (by first | exact Nat.le_of_ble_eq_true rfl | simp [lg_sl, m_rfc, m_catI, m_catL, m_catA]) ?_
  intro p e s m below meth c ls S hr hlk hnm hK hP hl hS hE
  replace hl : lv_has ls 7 [(0, .ref t0), (1, .int p1), (2, .long p2), (4, .long p3)] := by first | exact hl | simpa [lv_args, m_rfc, m_catI, m_catL, m_catA] using hl
  refine lv_aload_n S.1 S.2.1 dX0_divide_0 rfl (lv_at hl 0 rfl) ?_
  refine lv_iload_n S.1 S.2.1 dX0_divide_1 rfl (lv_at hl 1 rfl) ?_
  obtain ⟨_, k4, h⟩ := m_bs h
  obtain ⟨r1, s2, e3, h⟩ := m_b_s h
  refine m_callr (va_runV (As := [.int p1]) (rest := []) S (c_X0_classAt l D tc b t0 p1 _ _ _ e3) (cwV 1 S.2.2.2.2 (m_wV kX0_classAt (by decide +kernel)) rfl rfl rfl (by decide +kernel) ⟨by decide +kernel, by decide +kernel⟩) (m_preV hK hP (m_is_s k4) rfl) rfl rfl hl.1 rfl (lv_room (by first | decide | simp [m_rfc, m_catI, m_catL, m_catA])) dX0_divide_2 ⟨by decide +kernel, by decide +kernel⟩) hS (fun H locs hP hS => ?_)
  refine m_astore (i := 6) (lv' := [(6, va_rf r1), (0, .ref t0), (1, .int p1), (2, .long p2), (4, .long p3)]) S.1 S.2.1 dX0_divide_5 hl (by decide) (by first | rfl | simp [m_rfc, m_catI, m_catL, m_catA]) (fun ls hl => ?_)
  refine m_aload S.1 S.2.1 dX0_divide_7 (lv_at hl 0 rfl) ?_
  rcases r1 with _ | a5
  · replace h := m_nn0 h
    refine lv_ifnullN (tgt := 21) S.1 S.2.1 dX0_divide_9 (by decide) ?_
    refine lv_lconst (v := 0) S.1 S.2.1 dX0_divide_21 (by decide) ?_
    obtain ⟨h1, h2⟩ := m_fin h; cases h1; subst h2
    exact m_lret S hr hlk hK hP hS (by decide +kernel) (by decide +kernel) dX0_divide_22
  · replace h := m_nn1 h
    refine lv_ifnull S.1 S.2.1 dX0_divide_9 ?_
    refine lv_aload_n S.1 S.2.1 dX0_divide_12 rfl (lv_at hl 1 rfl) ?_
    refine lv_aload S.1 S.2.1 dX0_divide_13 (lv_at hl 0 rfl) ?_
    obtain ⟨_, k9, h⟩ := m_bs h
    obtain ⟨x6, s7, e8, h⟩ := m_b_s h
    refine m_calli (va_runV (As := [va_rf (some a5)]) (rest := []) S (c_X0_ensureMade l D tc b t0 (some a5) _ _ _ e8) (cwV 1 S.2.2.2.2 (m_wV kX0_ensureMade (by decide +kernel)) rfl rfl rfl (by decide +kernel) ⟨by decide +kernel, by decide +kernel⟩) (m_preV hK hP (m_is_s k9) rfl) rfl rfl hl.1 rfl (lv_room (by first | decide | simp [m_rfc, m_catI, m_catL, m_catA])) dX0_divide_15 ⟨by decide +kernel, by decide +kernel⟩) hS (fun H locs hP hS => ?_)
    refine lv_if_ne (tgt := 23) S.1 S.2.1 dX0_divide_18 (by decide) (fun c10 => ?_) (fun c10 => ?_)
    · replace h := m_f c10 h
      refine lv_aload S.1 S.2.1 dX0_divide_23 (lv_at hl 0 rfl) ?_
      refine lv_dup S.1 S.2.1 dX0_divide_25 rfl ?_
      obtain ⟨l11, e12, h⟩ := m_bs h
      refine m_get (ci := 1) (k := 5) (T := TX1) (N := 6) S (inX1 _) hK hP (m_gL_s e12) rfl (by decide) (S.2.2.2.2 (.fieldLink RX0 128 "RuleHouse2$RuleClass" "cell" "J") (m_mem (by decide +kernel))) rfl dX0_divide_26 ?_
      refine lv_lconst (v := 1) S.1 S.2.1 dX0_divide_29 (by decide) ?_
      refine lv_ladd S.1 S.2.1 dX0_divide_30 ?_
      obtain ⟨s13, e14, h⟩ := m_bs h
      refine m_put (ci := 1) (k := 5) (T := TX1) (N := 6) (v := .long (l11 + 1)) (ty := .long) S (inX1 _) tyX1 tX1 nX1 hK hP hS e14 rfl (by decide) (S.2.2.2.2 (.fieldLink RX0 128 "RuleHouse2$RuleClass" "cell" "J") (m_mem (by decide +kernel))) rfl rfl (by decide +kernel) rfl rfl dX0_divide_31 (fun H locs hP hS => ?_)
      refine lv_lload S.1 S.2.1 dX0_divide_34 (lv_at hl 4 rfl) ?_
      refine lv_lconst (v := 0) S.1 S.2.1 dX0_divide_36 (by decide) ?_
      refine W.lcmp S.1 S.2.1 dX0_divide_37 ?_
      refine lv_if_ne (tgt := 51) S.1 S.2.1 dX0_divide_38 (by decide) (fun c15 => ?_) (fun c15 => ?_)
      · replace h := m_f c15 h
        refine lv_lload_n S.1 S.2.1 dX0_divide_51 rfl (lv_at hl 3 rfl) ?_
        refine lv_lload S.1 S.2.1 dX0_divide_52 (lv_at hl 4 rfl) ?_
        by_cases c16 : (p3 : Int64) = 0
        · exact absurd (m_t c16 h) (fun h => by cases h)
        replace h := m_f c16 h
        refine lv_ldiv S.1 S.2.1 dX0_divide_54 c16 ?_
        obtain ⟨h1, h2⟩ := m_fin h; cases h1; subst h2
        exact m_lret S hr hlk hK hP hS (by decide +kernel) (by decide +kernel) dX0_divide_55
      · replace h := m_t c15 h
        cases (m_fin h).1
    · replace h := m_t c10 h
      refine lv_lconst (v := 0) S.1 S.2.1 dX0_divide_21 (by decide) ?_
      obtain ⟨h1, h2⟩ := m_fin h; cases h1; subst h2
      exact m_lret S hr hlk hK hP hS (by decide +kernel) (by decide +kernel) dX0_divide_22

set_option maxHeartbeats 4000000 in
set_option maxRecDepth 100000 in
theorem c_X0_divide_t (l : Launch) (hfl : l.stackTraces = false) (D : va_G) (tc : Nat → ClassId) (b : Nat) (t0 : Nat) (p1 : Int32) (p2 : Int64) (p3 : Int64) (s0 st' : MS) (h : f_X0_divide t0 p1 p2 p3 s0 = some (none, st')) : MetT l yX0_divide wsX0_divide ({ frames := 7, cells := 1, slots := 6, locals := 160 }) (m_PcE D vwCl (m_tys tc) b s0 [.ref t0, .int p1, .long p2, .long p3]) (m_QT D vwCl (m_tys tc) b "java/lang/ArithmeticException" st') 1 6 (m_A b) := by
  unfold f_X0_divide at h
  refine m_metT (cc := cX0_divide) (maxL := 7) (ret := (some .long)) (by decide) rfl (by first | exact Nat.le_of_ble_eq_true rfl | simp [lg_sl, m_rfc, m_catI, m_catL, m_catA]) ?_
  intro p e s m below meth c ls S hno hlk hK hP hl hS hE
  replace hl : lv_has ls 7 [(0, .ref t0), (1, .int p1), (2, .long p2), (4, .long p3)] := by first | exact hl | simpa [lv_args, m_rfc, m_catI, m_catL, m_catA] using hl
  refine lv_aload_n S.1 S.2.1 dX0_divide_0 rfl (lv_at hl 0 rfl) ?_
  refine lv_iload_n S.1 S.2.1 dX0_divide_1 rfl (lv_at hl 1 rfl) ?_
  obtain ⟨_, k4, h⟩ := m_bs h
  obtain ⟨r1, s2, e3, h⟩ := m_b_s h
  refine m_callr (va_runV (As := [.int p1]) (rest := []) S (c_X0_classAt l D tc b t0 p1 _ _ _ e3) (cwV 1 S.2.2.2.2 (m_wV kX0_classAt (by decide +kernel)) rfl rfl rfl (by decide +kernel) ⟨by decide +kernel, by decide +kernel⟩) (m_preV hK hP (m_is_s k4) rfl) rfl rfl hl.1 rfl (lv_room (by first | decide | simp [m_rfc, m_catI, m_catL, m_catA])) dX0_divide_2 ⟨by decide +kernel, by decide +kernel⟩) hS (fun H locs hP hS => ?_)
  refine m_astore (i := 6) (lv' := [(6, va_rf r1), (0, .ref t0), (1, .int p1), (2, .long p2), (4, .long p3)]) S.1 S.2.1 dX0_divide_5 hl (by decide) (by first | rfl | simp [m_rfc, m_catI, m_catL, m_catA]) (fun ls hl => ?_)
  refine m_aload S.1 S.2.1 dX0_divide_7 (lv_at hl 0 rfl) ?_
  rcases r1 with _ | a5
  · replace h := m_nn0 h
    refine lv_ifnullN (tgt := 21) S.1 S.2.1 dX0_divide_9 (by decide) ?_
    refine lv_lconst (v := 0) S.1 S.2.1 dX0_divide_21 (by decide) ?_
    cases (m_fin h).1
  · replace h := m_nn1 h
    refine lv_ifnull S.1 S.2.1 dX0_divide_9 ?_
    refine lv_aload_n S.1 S.2.1 dX0_divide_12 rfl (lv_at hl 1 rfl) ?_
    refine lv_aload S.1 S.2.1 dX0_divide_13 (lv_at hl 0 rfl) ?_
    obtain ⟨_, k9, h⟩ := m_bs h
    obtain ⟨x6, s7, e8, h⟩ := m_b_s h
    refine m_calli (va_runV (As := [va_rf (some a5)]) (rest := []) S (c_X0_ensureMade l D tc b t0 (some a5) _ _ _ e8) (cwV 1 S.2.2.2.2 (m_wV kX0_ensureMade (by decide +kernel)) rfl rfl rfl (by decide +kernel) ⟨by decide +kernel, by decide +kernel⟩) (m_preV hK hP (m_is_s k9) rfl) rfl rfl hl.1 rfl (lv_room (by first | decide | simp [m_rfc, m_catI, m_catL, m_catA])) dX0_divide_15 ⟨by decide +kernel, by decide +kernel⟩) hS (fun H locs hP hS => ?_)
    refine lv_if_ne (tgt := 23) S.1 S.2.1 dX0_divide_18 (by decide) (fun c10 => ?_) (fun c10 => ?_)
    · replace h := m_f c10 h
      refine lv_aload S.1 S.2.1 dX0_divide_23 (lv_at hl 0 rfl) ?_
      refine lv_dup S.1 S.2.1 dX0_divide_25 rfl ?_
      obtain ⟨l11, e12, h⟩ := m_bs h
      refine m_get (ci := 1) (k := 5) (T := TX1) (N := 6) S (inX1 _) hK hP (m_gL_s e12) rfl (by decide) (S.2.2.2.2 (.fieldLink RX0 128 "RuleHouse2$RuleClass" "cell" "J") (m_mem (by decide +kernel))) rfl dX0_divide_26 ?_
      refine lv_lconst (v := 1) S.1 S.2.1 dX0_divide_29 (by decide) ?_
      refine lv_ladd S.1 S.2.1 dX0_divide_30 ?_
      obtain ⟨s13, e14, h⟩ := m_bs h
      refine m_put (ci := 1) (k := 5) (T := TX1) (N := 6) (v := .long (l11 + 1)) (ty := .long) S (inX1 _) tyX1 tX1 nX1 hK hP hS e14 rfl (by decide) (S.2.2.2.2 (.fieldLink RX0 128 "RuleHouse2$RuleClass" "cell" "J") (m_mem (by decide +kernel))) rfl rfl (by decide +kernel) rfl rfl dX0_divide_31 (fun H locs hP hS => ?_)
      refine lv_lload S.1 S.2.1 dX0_divide_34 (lv_at hl 4 rfl) ?_
      refine lv_lconst (v := 0) S.1 S.2.1 dX0_divide_36 (by decide) ?_
      refine W.lcmp S.1 S.2.1 dX0_divide_37 ?_
      refine lv_if_ne (tgt := 51) S.1 S.2.1 dX0_divide_38 (by decide) (fun c15 => ?_) (fun c15 => ?_)
      · replace h := m_f c15 h
        refine lv_lload_n S.1 S.2.1 dX0_divide_51 rfl (lv_at hl 3 rfl) ?_
        refine lv_lload S.1 S.2.1 dX0_divide_52 (lv_at hl 4 rfl) ?_
        by_cases c16 : (p3 : Int64) = 0
        · exact absurd (m_t c16 h) (fun h => by cases h)
        replace h := m_f c16 h
        refine lv_ldiv S.1 S.2.1 dX0_divide_54 c16 ?_
        cases (m_fin h).1
      · replace h := m_t c15 h
        obtain ⟨h1, h2⟩ := m_fin h; subst h2
        exact m_throw hfl S hno hlk hK hP hS hE (fun U hU w hw => hU.2.2.2.1 _ w (List.mem_append_left _ hw)) (fun U hU => hU.2.2.2.2.1) (by decide) (by decide +kernel) (by decide +kernel) (by decide) (by decide) hl.1 (by decide) (by decide) dX0_divide_41 dX0_divide_44 dX0_divide_45 dX0_divide_47 dX0_divide_50
    · replace h := m_t c10 h
      refine lv_lconst (v := 0) S.1 S.2.1 dX0_divide_21 (by decide) ?_
      cases (m_fin h).1
def f_X0_handle (t0 : Nat) (p1 : Int32) (s0 : MS) : Option (Option Int32 × MS) :=
  (m_gI s0 0 t0 9).bind fun x1 =>
  m_b (f_X0_isWithin p1 (x1 - 1) s0) fun x3 s4 =>
  if x3 = 0 then
    some (some (-1), s4)
  else
    some (none, (s4.1 + 1, s4.2.1, s4.2.2))
set_option maxHeartbeats 4000000 in
set_option maxRecDepth 100000 in
theorem c_X0_handle_r (l : Launch) (D : va_G) (tc : Nat → ClassId) (b : Nat) (t0 : Nat) (p1 : Int32) (s0 st' : MS) (r : Int32) (h : f_X0_handle t0 p1 s0 = some (some r, st')) : Met l yX0_handle wsX0_handle ({ frames := 7, cells := 1, slots := 6, locals := 160 }) (m_PcE D vwCl (m_tys tc) b s0 [.ref t0, .int p1]) (m_Q D vwCl (m_tys tc) b (some (.int r)) st') 1 6 (m_A b) := by
  unfold f_X0_handle at h
  refine m_metE (cc := cX0_handle) (maxL := 2) (ret := (some .int)) (by decide) rfl (by first | exact Nat.le_of_ble_eq_true rfl | simp [lg_sl, m_rfc, m_catI, m_catL, m_catA]) ?_
  intro p e s m below meth c ls S hr hlk hnm hK hP hl hS hE
  replace hl : lv_has ls 2 [(0, .ref t0), (1, .int p1)] := by first | exact hl | simpa [lv_args, m_rfc, m_catI, m_catL, m_catA] using hl
  refine lv_iload_n S.1 S.2.1 dX0_handle_0 rfl (lv_at hl 1 rfl) ?_
  refine lv_aload_n S.1 S.2.1 dX0_handle_1 rfl (lv_at hl 0 rfl) ?_
  obtain ⟨x1, e2, h⟩ := m_bs h
  refine m_get (ci := 0) (k := 9) (T := TX0) (N := 10) S (inX0 _) hK hP (m_gI_s e2) rfl (by decide) (S.2.2.2.2 (.fieldLink RX0 41 "RuleHouse2" "handleCount" "I") (m_mem (by decide +kernel))) rfl dX0_handle_2 ?_
  refine lv_iconst (v := 1) S.1 S.2.1 dX0_handle_5 (by decide) ?_
  refine lv_isub S.1 S.2.1 dX0_handle_6 ?_
  obtain ⟨x3, s4, e5, h⟩ := m_b_s h
  refine m_calli (va_runS (As := [.int p1, .int (x1 - 1)]) (rest := []) S (c_X0_isWithin l D tc b p1 (x1 - 1) _ _ _ e5) (cwS 2 S.2.2.2.2 (m_wS kX0_isWithin (by decide +kernel)) rfl rfl rfl (by decide +kernel) ⟨by decide +kernel, by decide +kernel⟩) (m_preS hK hP) rfl rfl hl.1 rfl (lv_room (by first | decide | simp [m_rfc, m_catI, m_catL, m_catA])) dX0_handle_7 ⟨by decide +kernel, by decide +kernel⟩) hS (fun H locs hP hS => ?_)
  refine lv_if_eq (tgt := 23) S.1 S.2.1 dX0_handle_10 (by decide) (fun c6 => ?_) (fun c6 => ?_)
  · replace h := m_t c6 h
    refine lv_iconst (v := (-1)) S.1 S.2.1 dX0_handle_23 (by decide) ?_
    obtain ⟨h1, h2⟩ := m_fin h; cases h1; subst h2
    exact m_iret S hr hlk hK hP hS (by decide +kernel) (by decide +kernel) dX0_handle_24
  · replace h := m_f c6 h
    cases (m_fin h).1

set_option maxHeartbeats 4000000 in
set_option maxRecDepth 100000 in
theorem c_X0_handle_t (l : Launch) (hfl : l.stackTraces = false) (D : va_G) (tc : Nat → ClassId) (b : Nat) (t0 : Nat) (p1 : Int32) (s0 st' : MS) (h : f_X0_handle t0 p1 s0 = some (none, st')) : MetT l yX0_handle wsX0_handle ({ frames := 7, cells := 1, slots := 6, locals := 160 }) (m_PcE D vwCl (m_tys tc) b s0 [.ref t0, .int p1]) (m_QT D vwCl (m_tys tc) b "java/lang/IllegalStateException" st') 1 6 (m_A b) := by
  unfold f_X0_handle at h
  refine m_metT (cc := cX0_handle) (maxL := 2) (ret := (some .int)) (by decide) rfl (by first | exact Nat.le_of_ble_eq_true rfl | simp [lg_sl, m_rfc, m_catI, m_catL, m_catA]) ?_
  intro p e s m below meth c ls S hno hlk hK hP hl hS hE
  replace hl : lv_has ls 2 [(0, .ref t0), (1, .int p1)] := by first | exact hl | simpa [lv_args, m_rfc, m_catI, m_catL, m_catA] using hl
  refine lv_iload_n S.1 S.2.1 dX0_handle_0 rfl (lv_at hl 1 rfl) ?_
  refine lv_aload_n S.1 S.2.1 dX0_handle_1 rfl (lv_at hl 0 rfl) ?_
  obtain ⟨x1, e2, h⟩ := m_bs h
  refine m_get (ci := 0) (k := 9) (T := TX0) (N := 10) S (inX0 _) hK hP (m_gI_s e2) rfl (by decide) (S.2.2.2.2 (.fieldLink RX0 41 "RuleHouse2" "handleCount" "I") (m_mem (by decide +kernel))) rfl dX0_handle_2 ?_
  refine lv_iconst (v := 1) S.1 S.2.1 dX0_handle_5 (by decide) ?_
  refine lv_isub S.1 S.2.1 dX0_handle_6 ?_
  obtain ⟨x3, s4, e5, h⟩ := m_b_s h
  refine m_calli (va_runS (As := [.int p1, .int (x1 - 1)]) (rest := []) S (c_X0_isWithin l D tc b p1 (x1 - 1) _ _ _ e5) (cwS 2 S.2.2.2.2 (m_wS kX0_isWithin (by decide +kernel)) rfl rfl rfl (by decide +kernel) ⟨by decide +kernel, by decide +kernel⟩) (m_preS hK hP) rfl rfl hl.1 rfl (lv_room (by first | decide | simp [m_rfc, m_catI, m_catL, m_catA])) dX0_handle_7 ⟨by decide +kernel, by decide +kernel⟩) hS (fun H locs hP hS => ?_)
  refine lv_if_eq (tgt := 23) S.1 S.2.1 dX0_handle_10 (by decide) (fun c6 => ?_) (fun c6 => ?_)
  · replace h := m_t c6 h
    refine lv_iconst (v := (-1)) S.1 S.2.1 dX0_handle_23 (by decide) ?_
    cases (m_fin h).1
  · replace h := m_f c6 h
    obtain ⟨h1, h2⟩ := m_fin h; subst h2
    exact m_throw hfl S hno hlk hK hP hS hE (fun U hU w hw => hU.2.2.2.1 _ w (List.mem_append_right _ hw)) (fun U hU => hU.2.2.2.2.2) (by decide) (by decide +kernel) (by decide +kernel) (by decide) (by decide) hl.1 (by decide) (by decide) dX0_handle_13 dX0_handle_16 dX0_handle_17 dX0_handle_19 dX0_handle_22
/-! ===== the law's own script, its method 'cell', its two catching methods ===== -/
def m_sc (L : Nat) (xs : Nat → Int32) (i : Int32) : Option Int32 := if 0 ≤ i ∧ i.toNatClampNeg < L then some (xs i.toNatClampNeg) else none
theorem m_sc_s {L : Nat} {xs : Nat → Int32} {i x : Int32} (h : m_sc L xs i = some x) : vp_in i L ∧ xs i.toNatClampNeg = x := by
  unfold m_sc at h
  split at h
  · rename_i h1
    refine ⟨?_, Option.some.inj h⟩
    rintro (h2 | h2)
    · exact absurd h1.1 (Int32.not_le.mpr h2)
    · exact absurd h1.2 (Nat.not_lt.mpr h2)
  · cases h
def m_ov {α β : Type} (o : Option α) (A : α → Option β) (B : Option β) : Option β := match o with
  | some v => A v
  | none => B
section MLAW
variable {p : Program} {l : Launch} {e : Env} {R : Room} {s : State} {m : MethodId} {args : Array Value} {below : List Frame} {meth : Method} {c : Code} {H : Heap} {locs : List Loc} {cells slots : Nat} {Q : State → Prop}
variable {cc : ByteArray} {pc nL b : Nat} {ls : Array Slot} {rest : List Value} {bs L : Nat} {xs : Nat → Int32} {A : Nat → Prop} {H0 : Heap}
theorem m_sld (hexec : p.tables.exec = Jvm.exec) (hb : c.code = cc) (hX : va_X bs L xs s H0) (hbl : bs < H0.size) (hbA : ¬ A bs) (hS : va_S A H0 H locs) {i x : Int32} (hop : m_sc L xs i = some x) (hdg : decode cc pc = .ok (.iaload, 1))
    (kk : W p l e R s m args below meth c H locs cells slots Q (F0 m (pc + 1) ls (.int x :: rest))) : W p l e R s m args below meth c H locs cells slots Q (F0 m pc ls (.int i :: .ref bs :: rest)) := by
  obtain ⟨h1, rfl⟩ := m_sc_s hop
  exact va_sld hexec hb hX hbl hbA hS h1 hdg kk
theorem m_slen (hexec : p.tables.exec = Jvm.exec) (hb : c.code = cc) (hX : va_X bs L xs s H0) (hbl : bs < H0.size) (hbA : ¬ A bs) (hS : va_S A H0 H locs) (hdg : decode cc pc = .ok (.arraylength, 1))
    (kk : W p l e R s m args below meth c H locs cells slots Q (F0 m (pc + 1) ls (.int (nI L) :: rest))) : W p l e R s m args below meth c H locs cells slots Q (F0 m pc ls (.ref bs :: rest)) := va_slen hexec hb hX hbl hbA hS hdg kk
end MLAW
def f_L_cell (L : Nat) (xs : Nat → Int32) (k : Int32) : Option Int32 := if nI L ≤ k then some 0 else m_sc L xs k
set_option maxHeartbeats 4000000 in
set_option maxRecDepth 100000 in
theorem c_L_cell (l : Launch) (bs L : Nat) (xs : Nat → Int32) (k x : Int32) (h : f_L_cell L xs k = some x) : Met l yL_cell wsL_cell ({ frames := 0, cells := 0, slots := 0, locals := 0 }) (va_Pc [.ref bs, .int k] (fun U => bs < U.heap.size ∧ va_X bs L xs U U.heap)) (vp_Si (fun r => r = x)) 0 0 (fun _ => False) := by
  unfold f_L_cell at h
  refine Met.ofW (cc := cL_cell) (maxL := 2) (ret := some .int) (by decide) rfl ?_
  intro p e s m args below meth c s₁ B hml hv
  obtain ⟨rfl, hbl, hX⟩ := hv
  have S : CallFix p m c cL_cell 2 s [Value.ref bs, .int k].toArray wsL_cell RL := ⟨B.exec, B.bytes, hml, findClass_of_methodNamed B.named, atoms_spec (ws := wsL_cell) B.pre⟩
  have hr := B.returns
  have hlocks := B.notSynchronized
  have hl := lv_entry ([.ref bs, .int k]) (n := 2) (Nat.le_of_ble_eq_true rfl)
  rw [lg_entry_eq]
  generalize (lg_sl ([.ref bs, .int k]) ++ List.replicate (2 - (lg_sl ([.ref bs, .int k])).length) Slot.unset).toArray = ls at hl ⊢
  replace hl : lv_has ls 2 [(0, .ref bs), (1, .int k)] := hl
  have hS : va_S (fun _ => False) s.heap s.heap [] := va_S.rf
  refine lv_iload_n S.1 S.2.1 dL_cell_0 rfl (lv_at hl 1 rfl) ?_
  refine lv_aload_n S.1 S.2.1 dL_cell_1 rfl (lv_at hl 0 rfl) ?_
  refine m_slen S.1 S.2.1 hX hbl id hS dL_cell_2 ?_
  refine lv_icmp_ge (tgt := 12) S.1 S.2.1 dL_cell_3 (by decide) (fun c1 => ?_) (fun c1 => ?_)
  · replace h := m_t c1 h
    refine lv_iconst (v := 0) S.1 S.2.1 dL_cell_12 (by decide) ?_
    exact W.iret S.1 S.2.1 hr (fun t ht hW => ⟨0, rfl, Option.some.inj h, ht⟩) hS.2.2 dL_cell_13
  · replace h := m_f c1 h
    refine lv_aload_n S.1 S.2.1 dL_cell_6 rfl (lv_at hl 0 rfl) ?_
    refine lv_iload_n S.1 S.2.1 dL_cell_7 rfl (lv_at hl 1 rfl) ?_
    refine m_sld S.1 S.2.1 hX hbl id hS h dL_cell_8 ?_
    refine lv_goto (tgt := 13) S.1 S.2.1 dL_cell_9 (by decide) ?_
    exact W.iret S.1 S.2.1 hr (fun t ht hW => ⟨x, rfl, rfl, ht⟩) hS.2.2 dL_cell_13
/-- the law calls 'cell' -/
theorem m_lcell {p : Program} {l : Launch} {e : Env} {s : State} {m : MethodId} {args : Array Value} {below : List Frame} {meth : Method} {c : Code} {H : Heap} {locs : List Loc} {cells slots : Nat} {Q : State → Prop} {w0 : Cond} {pc b : Nat} {ls : Array Slot} {rest : List Value} {bs L : Nat} {xs : Nat → Int32}
    (S : CallFix p m c code 8 s args (w0 :: m_tbl) RL) (hX : va_X bs L xs s s.heap) (hbl : bs < s.heap.size) (hbA : ¬ m_A b bs) (hS : va_S (m_A b) s.heap H locs) {k x : Int32} (hop : f_L_cell L xs k = some x) (hsz : ls.size = 8) (hrest : (rest.map fun v => v.category).sum ≤ 8) (hc : cells ≤ 601024) (hs : slots ≤ 7293000) (hdg : decode code pc = .ok (.invokestatic 21, 3))
    (kk : W p l e room_1 s m args below meth c H locs cells slots Q (F0 m (pc + 3) ls (.int x :: rest))) : W p l e room_1 s m args below meth c H locs cells slots Q (F0 m pc ls (.int k :: .ref bs :: rest)) := by
  have hH : H[bs]? = s.heap[bs]? := hS.2.1 bs hbl hbA
  refine vp_callSi (W.runS (As := [.ref bs, .int k]) (rest := rest) S (c_L_cell l bs L xs k x hop) (cwS 2 S.2.2.2.2 (m_wS kL_cell (by decide +kernel)) rfl rfl rfl (by decide +kernel) ⟨by decide +kernel, by decide +kernel⟩) ⟨fun a U g mk q => ⟨q.1, q.2.1, va_X.moved (u := U) (U := U.calling g mk a) (Vm.Alike.refl U.vm) q.2.2⟩, fun U hU hW => ⟨rfl, by rw [hU]; exact Nat.lt_of_lt_of_le hbl hS.1, by rw [hU]; exact va_X.moved hW.alike (hX.kept hH)⟩⟩ rfl rfl hsz rfl (lv_room hrest) hdg ⟨hc, hs⟩) (fun r hr => ?_)
  rw [hr]
  exact kk
end
section
/-- a static call of a method with an exception table, on a road where it returns -/
theorem m_runSW {p : Program} {l : Launch} {e : Env} {R : Room} {s : State} {m : MethodId} {args : Array Value} {below : List Frame} {meth : Method} {c : Code} {H : Heap} {locs : List Loc} {cells slots : Nat} {y : MethodName} {bytes cc : ByteArray} {maxL nL mc ms n index : Nat} {ret : Option FieldType} {hh : List (Nat × Nat × Nat × Nat)} {ws : List Cond} {rm : Room} {Pc : Array Value → State → Prop} {Qc : Array Value → State → Outcome → State → Prop} {free : Addr → Prop} {Ts : List Cond} {own : String} {As rest : List Value} {g : JFrame}
    (S : CallFix p m c cc nL s args Ts own) (hM : Met l y ws rm Pc Qc mc ms free) (hd : (parseMethodDescriptor y.desc).map (fun d => d.parameters.length) = some n) (hy : y.cls ≠ "java/lang/invoke/MethodHandle" ∧ y.cls ≠ "java/lang/invoke/VarHandle") (hrc : rm.cells = mc) (hrs : rm.slots = ms) (hR : rm.frames + 1 ≤ R.frames ∧ 8 + (maxL + 11) + rm.locals ≤ R.locals)
    (hws : ∀ w ∈ ws, ∀ (a' : Array Value) (U : State), s.WarmedH U.vm → w.before a' U = true) (hcw : Cond.codeWith y bytes maxL ret hh ∈ ws) (hlink : (Cond.methodLink own index y).before args s = true) (hstat : (Cond.static y).before args s = true) (hini : (Cond.initialized y.cls).before args s = true) (hp : PreS s H Pc As)
    (hg : g.method = m) (hn : As.length = n) (hsize : g.locals.size = nL) (hstack : g.stack = As.reverse ++ rest) (hW : 2 * g.monitorRoom + (rest.map fun v => v.category).sum ≤ 8) (hdg : decode cc g.pc = .ok (.invokestatic index, 3)) (hf : cells + mc ≤ R.cells ∧ slots + ms ≤ R.slots) :
    va_Run p l e R s m args below meth c H locs cells slots mc ms g rest (Qc As.toArray) (free) := by
  have hK : Back l R p e below s args y 3 8 (PreOf R mc ms Pc) (PostOf Qc mc ms free) := va_backW (hh := hh) (bytes := bytes) (maxL := maxL) (ret := ret) hM hp.1 hrc hrs hR.1 hR.2 hws hcw (fun a' U hW => word_at hW (Or.inl (by first | rfl | simp [Cond.onTables, Cond.keeps, Cond.steady])) hini)
  obtain ⟨hx, hb, hml, ho, -⟩ := S
  intro T hT X
  have hcode : (Cond.codeWith y bytes maxL ret hh).before args s = true := by
    have h1 := hws _ hcw args (T.setVm T.vm) X.warmed
    have h2 := hws _ hcw args s (State.WarmedH.refl s)
    exact h2
  obtain ⟨mk, methM, cM, hnamed, hmethM, -, -, -, -, -, -, hsigM⟩ := Cond.codeWith_spec hcode
  have hstatic : methM.isStatic = true := Cond.static_spec hnamed hmethM hstat
  obtain ⟨kP, hkP, -⟩ := className_of_methodNamed hnamed
  have hinitP : kP.init = .initialized := Cond.initialized_spec (findClass_of_methodNamed hnamed) hkP hini
  have hlen : As.length = methM.sig.parameters.length := by
    rw [hsigM] at hd
    exact hn.trans (Option.some.inj hd).symm
  obtain ⟨vm₁, X₁, hstep₁⟩ := X.invokestatic hx ho hlink hnamed hmethM hstatic hkP hinitP hy (g := g) hg (argsL := As) (rest := rest) hlen hstack (by rw [hb]; exact hdg)
  obtain ⟨v, ⟨U', l2, c2, s2⟩, X', ⟨g', mk', t, L, e1, e2, hq, h1, hL, h2, h3⟩, hsteps⟩ := hK m meth c ⟨T.setVm vm₁, locs, cells, slots⟩ { g with stack := rest } (.invokestatic index) mk As.toArray X₁ hg (hsize.trans hml.symm) (by rw [hb]; exact hdg) hW (X₁.named hnamed) ⟨hf.1, hf.2, hp.2 (T.setVm vm₁) hT X₁.warmed⟩
  dsimp only [Pt.U, Pt.locs, Pt.cells, Pt.slots] at X' e1 e2 h1 h2 h3 hsteps
  subst h1; subst h2; subst h3
  exact ⟨v, (T.setVm vm₁).calling g' mk' As.toArray, t, U', L, hT, X', hL, e1, e2, hq, fun target h => hstep₁ _ fun acts => by rw [doInvoke_state]; exact hsteps.trans h⟩
def f_L_divide (p1 : Option Nat) (p2 : Int32) (p3 p4 : Int64) (p5 : Option Nat) (s0 : MS) : Option (Int32 × MS) :=
  p1.bind fun a => (m_is s0 0 a).bind fun _ => m_b (f_X0_divide a p2 p3 p4 s0) fun o s1 =>
  m_ov o (fun v => p5.bind fun q => (m_ap s1 8 q 0 (.long v)).bind fun s2 => some (0, s2)) (some (1, s1))
def f_L_handle (p1 : Option Nat) (p2 : Int32) (p3 : Option Nat) (s0 : MS) : Option (Int32 × MS) :=
  p1.bind fun a => (m_is s0 0 a).bind fun _ => m_b (f_X0_handle a p2 s0) fun o s1 =>
  m_ov o (fun v => p3.bind fun q => (m_ap s1 8 q 0 (.long (v : Int32).toInt64)).bind fun s2 => some (0, s2)) (some (1, s1))
theorem m_metW {l : Launch} {y : MethodName} {ws ws' : List Cond} {rm : Room} {mc ms : Nat} {cc : ByteArray} {maxL : Nat} {ret : Option FieldType} {hh : List (Nat × Nat × Nat × Nat)} {D : va_G} {cl : List vw_C} {tys : List (ClassId × FieldType)} {b : Nat} {st st' : MS} {as : List Value} {v : Option Value}
    (hy : plainName y.cls = true) (hw : ws = Cond.codeWith y cc maxL ret hh :: ws') (hlen : (lg_sl as).length ≤ maxL)
    (body : ∀ (p : Program) (e : Env) (s : State) (m : MethodId) (below : List Frame) (meth : Method) (c : Code) (ls : Array Slot), CallFix p m c cc maxL s as.toArray ws y.cls → meth.sig.returnType = ret → meth.locks = false → c.exceptionTable.toList.map (fun h => (h.startPc, h.endPc, h.handlerPc, h.catchType)) = hh → va_K D cl tys s → mw D cl tys b st s.heap → lv_has ls maxL (lv_args 0 as) → va_S (m_A b) s.heap s.heap [] → m_E b s →
      W p l e rm s m as.toArray below meth c s.heap [] 0 0 (MQ below (m_Q D cl tys b v st') as.toArray s mc ms (m_A b)) (F0 m 0 ls [])) : Met l y ws rm (m_PcE D cl tys b st as) (m_Q D cl tys b v st') mc ms (m_A b) := by
  refine va_MetW (cc := cc) (maxL := maxL) (ret := ret) (hh := hh) hy hw ?_
  intro p e s m args below meth c s₁ B hml hv
  obtain ⟨⟨rfl, hP, hK⟩, hE⟩ := hv
  have hts := atoms_spec (ws := ws) B.pre
  obtain ⟨m9, meth9, c9, hn9, hm9, hc9, -, -, ht9, -, -, -⟩ := Cond.codeWith_spec (hts _ (by rw [hw]; exact List.mem_cons_self))
  cases B.named.symm.trans hn9
  cases B.method.symm.trans hm9
  cases (Stand.of_body B).code.symm.trans hc9
  have hl := lv_entry as (n := maxL) hlen
  rw [lg_entry_eq]
  exact body p e s m below meth c _ ⟨B.exec, B.bytes, hml, findClass_of_methodNamed B.named, hts⟩ B.returns B.notSynchronized ht9 hK hP hl va_S.rf hE
theorem m_tab1 {c : Code} {a b h t : Nat} (hh : c.exceptionTable.toList.map (fun h => (h.startPc, h.endPc, h.handlerPc, h.catchType)) = [(a, b, h, t)]) : ∃ x : ExceptionTableEntry, c.exceptionTable.toList = [x] ∧ x.startPc = a ∧ x.endPc = b ∧ x.handlerPc = h ∧ x.catchType = t := by
  match hl : c.exceptionTable.toList, hh with
  | [], hh => simp at hh
  | [x], hh =>
    simp only [List.map_cons, List.map_nil, List.cons.injEq, Prod.mk.injEq, and_true] at hh
    exact ⟨x, rfl, hh.1, hh.2.1, hh.2.2.1, hh.2.2.2⟩
  | x :: y :: r, hh => simp at hh
theorem m_self {b : Nat} {s : State} (hE : m_E b s) {cls : String} (hm : Cond.castable cls cls ∈ m_xA ++ m_xI) (cX : ClassId) (h : s.vm.findClass cls = some cX) : s.vm.assignable cX cX = true := by
  obtain ⟨c, t, h1, h2, h3⟩ := Cond.castable_spec (hE.2.2.2.1 #[] _ hm)
  cases h.symm.trans h1
  cases h.symm.trans h2
  exact h3
theorem m_ov0 {α β : Type} {A : α → Option β} {B : Option β} {y : β} (h : m_ov none A B = some y) : B = some y := h
theorem m_ov1 {α β : Type} {v : α} {A : α → Option β} {B : Option β} {y : β} (h : m_ov (some v) A B = some y) : A v = some y := h
set_option maxHeartbeats 4000000 in
set_option maxRecDepth 100000 in
theorem c_L_divide (l : Launch) (hfl : l.stackTraces = false) (D : va_G) (tc : Nat → ClassId) (b : Nat) (p1 : Option Nat) (p2 : Int32) (p3 p4 : Int64) (p5 : Option Nat) (s0 st' : MS) (r : Int32) (h : f_L_divide p1 p2 p3 p4 p5 s0 = some (r, st')) : Met l yL_divide wsL_divide ({ frames := 8, cells := 1, slots := 6, locals := 200 }) (m_PcE D vwCl (m_tys tc) b s0 [va_rf p1, .int p2, .long p3, .long p4, va_rf p5]) (m_Q D vwCl (m_tys tc) b (some (.int r)) st') 1 6 (m_A b) := by
  unfold f_L_divide at h
  refine m_metW (cc := cL_divide) (maxL := 8) (ret := some .int) (hh := [(0, 12, 15, 13)]) (by decide) rfl (by first | exact Nat.le_of_ble_eq_true rfl | simp [lg_sl, m_rfc, m_catI, m_catL, m_catA]) ?_
  intro p e s m below meth c ls S hr hlk hht hK hP hl hS hE
  replace hl : lv_has ls 8 [(0, va_rf p1), (1, .int p2), (2, .long p3), (4, .long p4), (6, va_rf p5)] := by first | exact hl | simpa [lv_args, m_rfc, m_catI, m_catL, m_catA] using hl
  obtain ⟨a1, ea, g⟩ := m_bs h; clear h; subst ea; have h := g; clear g
  obtain ⟨_, k1, h⟩ := m_bs h
  obtain ⟨o, s1, e1, h⟩ := m_b_s h
  refine m_aload S.1 S.2.1 dL_divide_0 (lv_at hl 4 rfl) ?_
  refine lv_iconst (v := 0) S.1 S.2.1 dL_divide_2 (by decide) ?_
  refine lv_aload_n S.1 S.2.1 dL_divide_3 rfl (lv_at hl 0 rfl) ?_
  refine lv_iload_n S.1 S.2.1 dL_divide_4 rfl (lv_at hl 1 rfl) ?_
  refine lv_lload_n S.1 S.2.1 dL_divide_5 rfl (lv_at hl 2 rfl) ?_
  refine lv_lload S.1 S.2.1 dL_divide_6 (lv_at hl 3 rfl) ?_
  rcases o with _ | v
  · replace h := m_ov0 h
    obtain ⟨h1, h2⟩ := m_fin h; subst h1; subst h2
    obtain ⟨x, hx1, hx2, hx3, hx4, hx5⟩ := m_tab1 hht
    refine m_callT (As := [.int p2, .long p3, .long p4]) (rest := [.int 0, va_rf p5]) S (c_X0_divide_t l hfl D tc b a1 p2 p3 p4 _ _ e1) (cwV 3 S.2.2.2.2 (m_wV kX0_divide (by decide +kernel)) rfl rfl rfl (by decide +kernel) ⟨by decide +kernel, by decide +kernel⟩) (m_preVE hK hP (m_is_s k1) rfl hE hS) rfl hl.1 rfl (by simp [m_rfc, m_catI]) dL_divide_8 ⟨by decide +kernel, by decide +kernel⟩ hx1 (by simp [covers, hx2, hx3]) (by rw [hx5]; decide) (by rw [hx5]; exact S.2.2.2.2 _ (m_mem (by decide +kernel))) (m_self hE (by decide +kernel)) hS (fun a H locs hP hS => ?_)
    rw [hx4]
    refine lv_astore (i := 7) (lv' := [(7, .ref a), (0, va_rf (some a1)), (1, .int p2), (2, .long p3), (4, .long p4), (6, va_rf p5)]) S.1 S.2.1 dL_divide_15 hl (by decide) (by first | rfl | simp [m_rfc, m_catI, m_catL, m_catA]) (fun ls hl => ?_)
    refine lv_iconst (v := 1) S.1 S.2.1 dL_divide_17 (by decide) ?_
    exact m_iret S hr hlk hK hP hS (by decide +kernel) (by decide +kernel) dL_divide_18
  · replace h := m_ov1 h
    refine m_calll (va_runV (As := [.int p2, .long p3, .long p4]) (rest := [.int 0, va_rf p5]) S (c_X0_divide_r l D tc b a1 p2 p3 p4 _ _ _ e1) (cwV 3 S.2.2.2.2 (m_wV kX0_divide (by decide +kernel)) rfl rfl rfl (by decide +kernel) ⟨by decide +kernel, by decide +kernel⟩) (m_preVE hK hP (m_is_s k1) rfl hE hS) rfl rfl hl.1 rfl (lv_room (by simp [m_rfc, m_catI])) dL_divide_8 ⟨by decide +kernel, by decide +kernel⟩) hS (fun H locs hP hS => ?_)
    obtain ⟨q, ea, g⟩ := m_bs h; clear h; subst ea; have h := g; clear g
    obtain ⟨s2, e2, h⟩ := m_bs h
    obtain ⟨h1, h2⟩ := m_fin h; subst h1; subst h2
    refine m_last (t := 8) S hK hP hS e2 (by decide) rfl dL_divide_11 (fun H locs hP hS => ?_)
    refine lv_goto (tgt := 19) S.1 S.2.1 dL_divide_12 (by decide) ?_
    refine lv_iconst (v := 0) S.1 S.2.1 dL_divide_19 (by decide) ?_
    exact m_iret S hr hlk hK hP hS (by decide +kernel) (by decide +kernel) dL_divide_20
set_option maxHeartbeats 4000000 in
set_option maxRecDepth 100000 in
theorem c_L_handle (l : Launch) (hfl : l.stackTraces = false) (D : va_G) (tc : Nat → ClassId) (b : Nat) (p1 : Option Nat) (p2 : Int32) (p3 : Option Nat) (s0 st' : MS) (r : Int32) (h : f_L_handle p1 p2 p3 s0 = some (r, st')) : Met l yL_handle wsL_handle ({ frames := 8, cells := 1, slots := 6, locals := 200 }) (m_PcE D vwCl (m_tys tc) b s0 [va_rf p1, .int p2, va_rf p3]) (m_Q D vwCl (m_tys tc) b (some (.int r)) st') 1 6 (m_A b) := by
  unfold f_L_handle at h
  refine m_metW (cc := cL_handle) (maxL := 4) (ret := some .int) (hh := [(0, 9, 12, 19)]) (by decide) rfl (by first | exact Nat.le_of_ble_eq_true rfl | simp [lg_sl, m_rfc, m_catI, m_catL, m_catA]) ?_
  intro p e s m below meth c ls S hr hlk hht hK hP hl hS hE
  replace hl : lv_has ls 4 [(0, va_rf p1), (1, .int p2), (2, va_rf p3)] := by first | exact hl | simpa [lv_args, m_rfc, m_catI, m_catL, m_catA] using hl
  obtain ⟨a1, ea, g⟩ := m_bs h; clear h; subst ea; have h := g; clear g
  obtain ⟨_, k1, h⟩ := m_bs h
  obtain ⟨o, s1, e1, h⟩ := m_b_s h
  refine m_aload_n S.1 S.2.1 dL_handle_0 rfl (lv_at hl 2 rfl) ?_
  refine lv_iconst (v := 0) S.1 S.2.1 dL_handle_1 (by decide) ?_
  refine lv_aload_n S.1 S.2.1 dL_handle_2 rfl (lv_at hl 0 rfl) ?_
  refine lv_iload_n S.1 S.2.1 dL_handle_3 rfl (lv_at hl 1 rfl) ?_
  rcases o with _ | v
  · replace h := m_ov0 h
    obtain ⟨h1, h2⟩ := m_fin h; subst h1; subst h2
    obtain ⟨x, hx1, hx2, hx3, hx4, hx5⟩ := m_tab1 hht
    refine m_callT (As := [.int p2]) (rest := [.int 0, va_rf p3]) S (c_X0_handle_t l hfl D tc b a1 p2 _ _ e1) (cwV 1 S.2.2.2.2 (m_wV kX0_handle (by decide +kernel)) rfl rfl rfl (by decide +kernel) ⟨by decide +kernel, by decide +kernel⟩) (m_preVE hK hP (m_is_s k1) rfl hE hS) rfl hl.1 rfl (by simp [m_rfc, m_catI]) dL_handle_4 ⟨by decide +kernel, by decide +kernel⟩ hx1 (by simp [covers, hx2, hx3]) (by rw [hx5]; decide) (by rw [hx5]; exact S.2.2.2.2 _ (m_mem (by decide +kernel))) (m_self hE (by decide +kernel)) hS (fun a H locs hP hS => ?_)
    rw [hx4]
    refine lv_astore_n (i := 3) (lv' := [(3, .ref a), (0, va_rf (some a1)), (1, .int p2), (2, va_rf p3)]) S.1 S.2.1 dL_handle_12 rfl hl (by decide) (by first | rfl | simp [m_rfc, m_catI, m_catL, m_catA]) (fun ls hl => ?_)
    refine lv_iconst (v := 1) S.1 S.2.1 dL_handle_13 (by decide) ?_
    exact m_iret S hr hlk hK hP hS (by decide +kernel) (by decide +kernel) dL_handle_14
  · replace h := m_ov1 h
    refine m_calli (va_runV (As := [.int p2]) (rest := [.int 0, va_rf p3]) S (c_X0_handle_r l D tc b a1 p2 _ _ _ e1) (cwV 1 S.2.2.2.2 (m_wV kX0_handle (by decide +kernel)) rfl rfl rfl (by decide +kernel) ⟨by decide +kernel, by decide +kernel⟩) (m_preVE hK hP (m_is_s k1) rfl hE hS) rfl rfl hl.1 rfl (lv_room (by simp [m_rfc, m_catI])) dL_handle_4 ⟨by decide +kernel, by decide +kernel⟩) hS (fun H locs hP hS => ?_)
    refine lv_i2l S.1 S.2.1 dL_handle_7 rfl ?_
    obtain ⟨q, ea, g⟩ := m_bs h; clear h; subst ea; have h := g; clear g
    obtain ⟨s2, e2, h⟩ := m_bs h
    obtain ⟨h1, h2⟩ := m_fin h; subst h1; subst h2
    refine m_last (t := 8) S hK hP hS e2 (by decide) rfl dL_handle_8 (fun H locs hP hS => ?_)
    refine lv_goto (tgt := 15) S.1 S.2.1 dL_handle_9 (by decide) ?_
    refine lv_iconst (v := 0) S.1 S.2.1 dL_handle_15 (by decide) ?_
    exact m_iret S hr hlk hK hP hS (by decide +kernel) (by decide +kernel) dL_handle_16
end
section
-- ===== end of PART A; then your names; then what follows =====
/-! THE CLAIM OUT OF ONE WALK OF THE LAW'S BODY. Your part is whole_start (and what it stands on); all else here is the same for every law, but numbers. -/
def R_law : String := "RuleHouse2Law"
def lw_P (b : Addr) (xs : List Int32) (args : Array Value) (s : State) : Prop := args = #[.ref b] ∧ s.IntsAt b xs ∧ xs.length ≤ 3073 ∧ (Jvm.Cond.and given_1 narrow_1).before args s = true
def lw_Q (_ : Array Value) (s : State) (o : Outcome) (t : State) : Prop := o = .returned (some (.int 1)) ∧ Framed s o t [] 601024 7293000
def lw_Z (below : List Frame) (a : Array Value) (s : State) : State → Prop := fun t => ∃ o, t.status = .running ∧ Ended t below o ∧ lw_Q a s o t
/-- the law's own end, with 1 on the stack, nothing written that was there before, its room as the claim has it -/
theorem lw_ret {p : Program} {l : Launch} {e : Env} {s : State} {m : MethodId} {below : List Frame} {meth : Method} {c : Code} {b : Nat} (hx : p.tables.exec = Jvm.exec) (hb : c.code = code) (hr : meth.sig.returnType = ret) (hlocks : meth.locks = false) {pc : Nat} {H : Heap} {ls : Array Slot} (hdg : decode code pc = .ok (.ireturn, 1)) : W p l e room_1 s m #[Value.ref b] below meth c H [] 601024 7293000 (lw_Z below #[Value.ref b] s) (F0 m pc ls [.int 1]) := by
  intro T hT X
  obtain ⟨fs, hret, hrun, hended, hW, hframe⟩ := X.leave (v := some (.int 1)) (hlocks := hlocks) (fun h => by rw [hr] at h; cases h)
  have hmeth' : T.vm.method? m = some meth := X.method'
  refine ⟨T.setFrames fs, ?_, .returned (some (.int 1)), hrun, hended, rfl, ⟨_, rfl⟩, hW, hframe⟩
  jvm_step X.here [X.here.top, hx, hb, hdg, hmeth', hr, ret, narrow_b1]
  (try refine ⟨rfl, ?_⟩); (try refine ⟨rfl, ?_⟩)
  first | (intro acts; rw [hret _ acts rfl rfl rfl]) | rw [hret _ _ rfl rfl rfl]
  exact Steps.refl _
/-- what holds at the law's entry: the machine, the code, the tables' words (any of lw_tbl by 'hts w (by decide +kernel)'), the script of L ints xs at the cell b, what the Statement gives of the start (any of its parts by flat_of_before) -/
def lw_At (p : Program) (s : State) (m : MethodId) (meth : Method) (c : Code) (b L : Nat) (xs : Nat → Int32) : Prop :=
  p.tables.exec = Jvm.exec ∧ c.code = code ∧ meth.sig.returnType = ret ∧ c.maxLocals = 8 ∧ s.vm.findClass R_law = some m.cls ∧ (∀ w ∈ lw_tbl, w.before #[Value.ref b] s = true) ∧ va_X b L xs s s.heap ∧ b < s.heap.size ∧ meth.locks = false ∧ (Jvm.Cond.and given_1 narrow_1).before #[Value.ref b] s = true
end
section
def f_L_law_L33 (L : Nat) (xs : Nat → Int32) : Nat → Int32 → Nat → Nat → Nat → MS → Option (Int32 × MS)
  | 0, _, _, _, _, _ => none
  | f + 1, q4, q3, q2, q1, s0 =>
    if ((nI L) - 6) < q4 then
      some (1, s0)
    else
      (m_sc L xs q4).bind fun x21 =>
      if (x21 &&& 15) = 0 then
        (m_sc L xs (q4 + 1)).bind fun x24 =>
        (m_sc L xs (q4 + 2)).bind fun x26 =>
        (m_sc L xs (q4 + 3)).bind fun x28 =>
        if x28 = 0 then
          (m_is s0 0 q1).bind fun _ =>
          m_b (f_X0_rule q1 x24 x26 0 s0) fun x31 s32 =>
          (m_sc L xs (q4 + 1)).bind fun x35 =>
          (m_sc L xs (q4 + 2)).bind fun x37 =>
          (m_sc L xs (q4 + 3)).bind fun x39 =>
          if x39 = 0 then
            (m_is s32 3 q2).bind fun _ =>
            m_b (f_X3_rule q2 x35 x37 0 s32) fun x42 s43 =>
            if x31 = x42 then
              f_L_law_L33 L xs f (q4 + 6) q3 q2 q1 s43
            else
              some (0, s43)
          else
            (m_is s32 3 q2).bind fun _ =>
            m_b (f_X3_rule q2 x35 x37 1 s32) fun x47 s48 =>
            if x31 = x47 then
              f_L_law_L33 L xs f (q4 + 6) q3 q2 q1 s48
            else
              some (0, s48)
        else
          (m_is s0 0 q1).bind fun _ =>
          m_b (f_X0_rule q1 x24 x26 1 s0) fun x52 s53 =>
          (m_sc L xs (q4 + 1)).bind fun x56 =>
          (m_sc L xs (q4 + 2)).bind fun x58 =>
          (m_sc L xs (q4 + 3)).bind fun x60 =>
          if x60 = 0 then
            (m_is s53 3 q2).bind fun _ =>
            m_b (f_X3_rule q2 x56 x58 0 s53) fun x63 s64 =>
            if x52 = x63 then
              f_L_law_L33 L xs f (q4 + 6) q3 q2 q1 s64
            else
              some (0, s64)
          else
            (m_is s53 3 q2).bind fun _ =>
            m_b (f_X3_rule q2 x56 x58 1 s53) fun x68 s69 =>
            if x52 = x68 then
              f_L_law_L33 L xs f (q4 + 6) q3 q2 q1 s69
            else
              some (0, s69)
      else if (x21 &&& 15) = 1 then
        (m_sc L xs (q4 + 1)).bind fun x74 =>
        (m_is s0 0 q1).bind fun _ =>
        m_b (f_X0_make q1 x74 s0) fun x76 s77 =>
        (m_sc L xs (q4 + 1)).bind fun x80 =>
        (m_is s77 3 q2).bind fun _ =>
        m_b (f_X3_make q2 x80 s77) fun x82 s83 =>
        if x76 = x82 then
          f_L_law_L33 L xs f (q4 + 6) q3 q2 q1 s83
        else
          some (0, s83)
      else if (x21 &&& 15) = 2 then
        (m_sc L xs (q4 + 1)).bind fun x88 =>
        (m_sc L xs (q4 + 2)).bind fun x90 =>
        (m_sc L xs (q4 + 3)).bind fun x92 =>
        (m_is s0 0 q1).bind fun _ =>
        m_b (f_X0_attribute q1 x88 x90 x92 s0) fun x94 s95 =>
        (m_sc L xs (q4 + 1)).bind fun x98 =>
        (m_sc L xs (q4 + 2)).bind fun x100 =>
        (m_sc L xs (q4 + 3)).bind fun x102 =>
        (m_is s95 3 q2).bind fun _ =>
        m_b (f_X3_attribute q2 x98 x100 x102 s95) fun x104 s105 =>
        if x94 = x104 then
          f_L_law_L33 L xs f (q4 + 6) q3 q2 q1 s105
        else
          some (0, s105)
      else if (x21 &&& 15) = 3 then
        (m_sc L xs (q4 + 1)).bind fun x110 =>
        (m_is s0 0 q1).bind fun _ =>
        m_b (f_X0_target q1 x110 s0) fun x112 s113 =>
        (m_sc L xs (q4 + 1)).bind fun x116 =>
        (m_is s113 3 q2).bind fun _ =>
        m_b (f_X3_target q2 x116 s113) fun x118 s119 =>
        if x112 = x118 then
          f_L_law_L33 L xs f (q4 + 6) q3 q2 q1 s119
        else
          some (0, s119)
      else if (x21 &&& 15) = 4 then
        (m_sc L xs (q4 + 1)).bind fun x124 =>
        (m_is s0 0 q1).bind fun _ =>
        m_b (f_X0_run q1 x124 s0) fun x126 s127 =>
        (m_sc L xs (q4 + 1)).bind fun x130 =>
        (m_is s127 3 q2).bind fun _ =>
        m_b (f_X3_run q2 x130 s127) fun x132 s133 =>
        if x126 = x132 then
          f_L_law_L33 L xs f (q4 + 6) q3 q2 q1 s133
        else
          some (0, s133)
      else if (x21 &&& 15) = 5 then
        (m_sc L xs (q4 + 1)).bind fun x138 =>
        (m_sc L xs (q4 + 2)).bind fun x140 =>
        (m_is s0 0 q1).bind fun _ =>
        m_b (f_X0_action q1 x138 x140 s0) fun x142 s143 =>
        (m_sc L xs (q4 + 1)).bind fun x146 =>
        (m_sc L xs (q4 + 2)).bind fun x148 =>
        (m_is s143 3 q2).bind fun _ =>
        m_b (f_X3_action q2 x146 x148 s143) fun x150 s151 =>
        if x142 = x150 then
          f_L_law_L33 L xs f (q4 + 6) q3 q2 q1 s151
        else
          some (0, s151)
      else if (x21 &&& 15) = 6 then
        (m_sc L xs (q4 + 1)).bind fun x156 =>
        (m_sc L xs (q4 + 2)).bind fun x158 =>
        (m_is s0 0 q1).bind fun _ =>
        m_b (f_X0_provider q1 x156 x158 s0) fun x160 s161 =>
        (m_sc L xs (q4 + 1)).bind fun x164 =>
        (m_sc L xs (q4 + 2)).bind fun x166 =>
        (m_is s161 3 q2).bind fun _ =>
        m_b (f_X3_provider q2 x164 x166 s161) fun x168 s169 =>
        if x160 = x168 then
          f_L_law_L33 L xs f (q4 + 6) q3 q2 q1 s169
        else
          some (0, s169)
      else if (x21 &&& 15) = 7 then
        (m_sc L xs (q4 + 1)).bind fun x174 =>
        (m_sc L xs (q4 + 2)).bind fun x176 =>
        (m_is s0 0 q1).bind fun _ =>
        m_b (f_X0_failed q1 x174 x176 s0) fun x178 s179 =>
        (m_sc L xs (q4 + 1)).bind fun x182 =>
        (m_sc L xs (q4 + 2)).bind fun x184 =>
        (m_is s179 3 q2).bind fun _ =>
        m_b (f_X3_failed q2 x182 x184 s179) fun x186 s187 =>
        if x178 = x186 then
          f_L_law_L33 L xs f (q4 + 6) q3 q2 q1 s187
        else
          some (0, s187)
      else if (x21 &&& 15) = 8 then
        (m_sc L xs (q4 + 1)).bind fun x192 =>
        (m_is s0 0 q1).bind fun _ =>
        m_b (f_X0_cell q1 x192 s0) fun l194 s195 =>
        (m_sc L xs (q4 + 1)).bind fun x198 =>
        (m_is s195 3 q2).bind fun _ =>
        m_b (f_X3_cell q2 x198 s195) fun l200 s201 =>
        if (lg_cmp l194 l200) = 0 then
          f_L_law_L33 L xs f (q4 + 6) q3 q2 q1 s201
        else
          some (0, s201)
      else if (x21 &&& 15) = 9 then
        (m_sc L xs (q4 + 1)).bind fun x206 =>
        (m_sc L xs (q4 + 2)).bind fun x208 =>
        (m_is s0 0 q1).bind fun _ =>
        m_b (f_X0_same q1 x206 x208 s0) fun x210 s211 =>
        (m_sc L xs (q4 + 1)).bind fun x214 =>
        (m_sc L xs (q4 + 2)).bind fun x216 =>
        (m_is s211 3 q2).bind fun _ =>
        m_b (f_X3_same q2 x214 x216 s211) fun x218 s219 =>
        if x210 = x218 then
          f_L_law_L33 L xs f (q4 + 6) q3 q2 q1 s219
        else
          some (0, s219)
      else if (x21 &&& 15) = 10 then
        (m_sc L xs (q4 + 1)).bind fun x224 =>
        (m_sc L xs (q4 + 2)).bind fun x226 =>
        (m_sc L xs (q4 + 3)).bind fun x228 =>
        (m_sc L xs (q4 + 4)).bind fun x230 =>
        (m_sc L xs (q4 + 5)).bind fun x232 =>
        m_b (f_L_divide (some q1) x224 ((((x226 : Int32).toInt64) <<< ((32 : Int32).toInt64 &&& 63)) ||| (((x228 : Int32).toInt64) &&& 4294967295)) ((((x230 : Int32).toInt64) <<< ((32 : Int32).toInt64 &&& 63)) ||| (((x232 : Int32).toInt64) &&& 4294967295)) (some q3) s0) fun x234 s235 =>
        (m_sc L xs (q4 + 1)).bind fun x237 =>
        (m_sc L xs (q4 + 2)).bind fun x239 =>
        (m_sc L xs (q4 + 3)).bind fun x241 =>
        (m_sc L xs (q4 + 4)).bind fun x243 =>
        (m_sc L xs (q4 + 5)).bind fun x245 =>
        (m_is s235 3 q2).bind fun _ =>
        m_b (f_X3_divide q2 x237 ((((x239 : Int32).toInt64) <<< ((32 : Int32).toInt64 &&& 63)) ||| (((x241 : Int32).toInt64) &&& 4294967295)) ((((x243 : Int32).toInt64) <<< ((32 : Int32).toInt64 &&& 63)) ||| (((x245 : Int32).toInt64) &&& 4294967295)) s235) fun l247 s248 =>
        (m_is s248 3 q2).bind fun _ =>
        m_b (f_X3_thrown q2 s248) fun x251 s252 =>
        if x251 = x234 then
          if x234 = 0 then
            (m_aL s252 8 q3 0).bind fun l257 =>
            if (lg_cmp l257 l247) = 0 then
              f_L_law_L33 L xs f (q4 + 6) q3 q2 q1 s252
            else
              some (0, s252)
          else
            f_L_law_L33 L xs f (q4 + 6) q3 q2 q1 s252
        else
          some (0, s252)
      else if (x21 &&& 15) = 11 then
        (m_sc L xs (q4 + 1)).bind fun x261 =>
        m_b (f_L_handle (some q1) x261 (some q3) s0) fun x263 s264 =>
        (m_sc L xs (q4 + 1)).bind fun x266 =>
        (m_is s264 3 q2).bind fun _ =>
        m_b (f_X3_handle q2 x266 s264) fun x268 s269 =>
        (m_is s269 3 q2).bind fun _ =>
        m_b (f_X3_thrown q2 s269) fun x272 s273 =>
        if x272 = x263 then
          if x263 = 0 then
            (m_aL s273 8 q3 0).bind fun l278 =>
            if (lg_cmp l278 ((x268 : Int32).toInt64)) = 0 then
              f_L_law_L33 L xs f (q4 + 6) q3 q2 q1 s273
            else
              some (0, s273)
          else
            f_L_law_L33 L xs f (q4 + 6) q3 q2 q1 s273
        else
          some (0, s273)
      else f_L_law_L33 L xs f (q4 + 6) q3 q2 q1 s0
def f_L_law (L : Nat) (xs : Nat → Int32) (s0 : MS) : Option (Int32 × MS) :=
  m_nw s0 (.inl 0) (fun j => defaultValue (tyX0 j)) fun a1 s2 =>
  (f_L_cell L xs 0).bind fun x4 =>
  m_b (f_X0_init a1 x4 s2) fun u6 s7 =>
  m_nw s7 (.inl 3) (fun j => defaultValue (tyX3 j)) fun a9 s10 =>
  (f_L_cell L xs 0).bind fun x12 =>
  m_b (f_X3_init a9 x12 s10) fun u14 s15 =>
  m_nw s15 (.inr (8, 1)) (fun _ => defaultValue .long) fun a17 s18 =>
  f_L_law_L33 L xs 513 1 a17 a9 a1 s18
set_option maxHeartbeats 8000000 in
set_option maxRecDepth 100000 in
theorem w_L_law_L33 {p : Program} {l : Launch} (hfl : l.stackTraces = false) {e : Env} {s : State} {m : MethodId} {below : List Frame} {meth : Method} {c : Code} {w0 : Cond} {bs L b : Nat} {xs : Nat → Int32} (D : va_G) (tc : Nat → ClassId) (S : CallFix p m c code 8 s #[Value.ref bs] (w0 :: m_tbl) RL) (hr : meth.sig.returnType = ret) (hlk : meth.locks = false) (hK : va_K D vwCl (m_tys tc) s) (hX : va_X bs L xs s s.heap) (hbl : bs < s.heap.size) (hbA : ¬ m_A b bs) (hbs : s.heap.size = b) (hE : m_E b s) :
    ∀ (f : Nat) (q4 : Int32) (q3 : Nat) (q2 : Nat) (q1 : Nat) (s0 st' : MS) (r : Int32) (h : f_L_law_L33 L xs f q4 q3 q2 q1 s0 = some (r, st')) (hr1 : r = 1) (cells slots : Nat) (hc : cells + 4 * f ≤ 601024) (hs : slots + 22 * f ≤ 7293000) (H : Heap) (locs : List Loc) (ls : Array Slot) (hP : mw D vwCl (m_tys tc) b s0 H) (hS : va_S (m_A b) s.heap H locs) (hl : lv_has ls 8 [(4, .int q4), (3, .ref q3), (2, .ref q2), (1, .ref q1), (0, .ref bs)]), W p l e room_1 s m #[Value.ref bs] below meth c H locs cells slots (lw_Z below #[Value.ref bs] s) (F0 m 33 ls []) := by
  intro f
  induction f with
  | zero =>
    intro q4 q3 q2 q1 s0 st' r h
    cases h
  | succ f ih =>
    intro q4 q3 q2 q1 s0 st' r h hr1 cells slots hc hs H locs ls hP hS hl
    subst hr1
    rw [f_L_law_L33] at h
    refine lv_iload S.1 S.2.1 dL_law_33 (lv_at hl 0 rfl) ?_
    refine lv_aload_n S.1 S.2.1 dL_law_35 rfl (lv_at hl 4 rfl) ?_
    refine m_slen S.1 S.2.1 hX hbl hbA hS dL_law_36 ?_
    refine lv_bipush (v := 6) S.1 S.2.1 dL_law_37 (by decide) ?_
    refine lv_isub S.1 S.2.1 dL_law_39 ?_
    refine lv_icmp_gt (tgt := 680) S.1 S.2.1 dL_law_40 (by decide) (fun c20 => ?_) (fun c20 => ?_)
    · replace h := m_t c20 h
      refine lv_iconst (v := 1) S.1 S.2.1 dL_law_680 (by decide) ?_
      refine va_forget (fun q hq => by rw [hbs]; exact hS.2.2 q hq) ?_
      refine W.widen (k := 601024) (n := 7293000) (by omega) (by omega) ?_
      exact lw_ret S.1 S.2.1 hr hlk dL_law_681
    · replace h := m_f c20 h
      refine lv_aload_n S.1 S.2.1 dL_law_43 rfl (lv_at hl 4 rfl) ?_
      refine lv_iload S.1 S.2.1 dL_law_44 (lv_at hl 0 rfl) ?_
      obtain ⟨x21, e22, h⟩ := m_bs h
      refine m_sld S.1 S.2.1 hX hbl hbA hS e22 dL_law_46 ?_
      refine lv_bipush (v := 15) S.1 S.2.1 dL_law_47 (by decide) ?_
      refine lv_iand S.1 S.2.1 dL_law_49 ?_
      by_cases c23 : (x21 &&& 15) = 0
      · replace h := m_t c23 h
        refine lv_tableIn (tgt := 112) S.1 S.2.1 dL_law_50 (by rw [c23]; decide) (by rw [c23]; decide) (by rw [c23]; rfl) (by decide) ?_
        refine lv_aload_n S.1 S.2.1 dL_law_112 rfl (lv_at hl 3 rfl) ?_
        refine lv_aload_n S.1 S.2.1 dL_law_113 rfl (lv_at hl 4 rfl) ?_
        refine lv_iload S.1 S.2.1 dL_law_114 (lv_at hl 0 rfl) ?_
        refine lv_iconst (v := 1) S.1 S.2.1 dL_law_116 (by decide) ?_
        refine lv_iadd S.1 S.2.1 dL_law_117 ?_
        obtain ⟨x24, e25, h⟩ := m_bs h
        refine m_sld S.1 S.2.1 hX hbl hbA hS e25 dL_law_118 ?_
        refine lv_aload_n S.1 S.2.1 dL_law_119 rfl (lv_at hl 4 rfl) ?_
        refine lv_iload S.1 S.2.1 dL_law_120 (lv_at hl 0 rfl) ?_
        refine lv_iconst (v := 2) S.1 S.2.1 dL_law_122 (by decide) ?_
        refine lv_iadd S.1 S.2.1 dL_law_123 ?_
        obtain ⟨x26, e27, h⟩ := m_bs h
        refine m_sld S.1 S.2.1 hX hbl hbA hS e27 dL_law_124 ?_
        refine lv_aload_n S.1 S.2.1 dL_law_125 rfl (lv_at hl 4 rfl) ?_
        refine lv_iload S.1 S.2.1 dL_law_126 (lv_at hl 0 rfl) ?_
        refine lv_iconst (v := 3) S.1 S.2.1 dL_law_128 (by decide) ?_
        refine lv_iadd S.1 S.2.1 dL_law_129 ?_
        obtain ⟨x28, e29, h⟩ := m_bs h
        refine m_sld S.1 S.2.1 hX hbl hbA hS e29 dL_law_130 ?_
        refine lv_if_eq (tgt := 138) S.1 S.2.1 dL_law_131 (by decide) (fun c30 => ?_) (fun c30 => ?_)
        · replace h := m_t c30 h
          refine lv_iconst (v := 0) S.1 S.2.1 dL_law_138 (by decide) ?_
          obtain ⟨_, k34, h⟩ := m_bs h
          obtain ⟨x31, s32, e33, h⟩ := m_b_s h
          refine m_calli (va_runV (As := [.int x24, .int x26, .int 0]) (rest := []) S (c_X0_rule l D tc b q1 x24 x26 0 _ _ _ e33) (cwV 3 S.2.2.2.2 (m_wV kX0_rule (by decide +kernel)) rfl rfl rfl (by decide +kernel) ⟨by decide +kernel, by decide +kernel⟩) (m_preV hK hP (m_is_s k34) rfl) rfl rfl hl.1 rfl (lv_room (by first | decide | simp [m_rfc, m_catI, m_catL, m_catA])) dL_law_139 ⟨by show _ ≤ 601024; omega, by show _ ≤ 7293000; omega⟩) hS (fun H locs hP hS => ?_)
          refine lv_aload_n S.1 S.2.1 dL_law_142 rfl (lv_at hl 2 rfl) ?_
          refine lv_aload_n S.1 S.2.1 dL_law_143 rfl (lv_at hl 4 rfl) ?_
          refine lv_iload S.1 S.2.1 dL_law_144 (lv_at hl 0 rfl) ?_
          refine lv_iconst (v := 1) S.1 S.2.1 dL_law_146 (by decide) ?_
          refine lv_iadd S.1 S.2.1 dL_law_147 ?_
          obtain ⟨x35, e36, h⟩ := m_bs h
          refine m_sld S.1 S.2.1 hX hbl hbA hS e36 dL_law_148 ?_
          refine lv_aload_n S.1 S.2.1 dL_law_149 rfl (lv_at hl 4 rfl) ?_
          refine lv_iload S.1 S.2.1 dL_law_150 (lv_at hl 0 rfl) ?_
          refine lv_iconst (v := 2) S.1 S.2.1 dL_law_152 (by decide) ?_
          refine lv_iadd S.1 S.2.1 dL_law_153 ?_
          obtain ⟨x37, e38, h⟩ := m_bs h
          refine m_sld S.1 S.2.1 hX hbl hbA hS e38 dL_law_154 ?_
          refine lv_aload_n S.1 S.2.1 dL_law_155 rfl (lv_at hl 4 rfl) ?_
          refine lv_iload S.1 S.2.1 dL_law_156 (lv_at hl 0 rfl) ?_
          refine lv_iconst (v := 3) S.1 S.2.1 dL_law_158 (by decide) ?_
          refine lv_iadd S.1 S.2.1 dL_law_159 ?_
          obtain ⟨x39, e40, h⟩ := m_bs h
          refine m_sld S.1 S.2.1 hX hbl hbA hS e40 dL_law_160 ?_
          refine lv_if_eq (tgt := 168) S.1 S.2.1 dL_law_161 (by decide) (fun c41 => ?_) (fun c41 => ?_)
          · replace h := m_t c41 h
            refine lv_iconst (v := 0) S.1 S.2.1 dL_law_168 (by decide) ?_
            obtain ⟨_, k45, h⟩ := m_bs h
            obtain ⟨x42, s43, e44, h⟩ := m_b_s h
            refine m_calli (va_runV (As := [.int x35, .int x37, .int 0]) (rest := [.int x31]) S (c_X3_rule l D tc b q2 x35 x37 0 _ _ _ e44) (cwV 3 S.2.2.2.2 (m_wV kX3_rule (by decide +kernel)) rfl rfl rfl (by decide +kernel) ⟨by decide +kernel, by decide +kernel⟩) (m_preV hK hP (m_is_s k45) rfl) rfl rfl hl.1 rfl (lv_room (by first | decide | simp [m_rfc, m_catI, m_catL, m_catA])) dL_law_169 ⟨by show _ ≤ 601024; omega, by show _ ≤ 7293000; omega⟩) hS (fun H locs hP hS => ?_)
            refine lv_icmp_eq (tgt := 674) S.1 S.2.1 dL_law_172 (by decide) (fun c46 => ?_) (fun c46 => ?_)
            · replace h := m_t c46 h
              refine lv_iinc (v := q4 + 6) (lv' := [(4, .int (q4 + 6)), (3, .ref q3), (2, .ref q2), (1, .ref q1), (0, .ref bs)]) S.1 S.2.1 dL_law_674 hl (k := 0) rfl rfl (by decide) (by first | rfl | simp [m_rfc, m_catI, m_catL, m_catA]) (fun ls hl => ?_)
              refine lv_goto (tgt := 33) S.1 S.2.1 dL_law_677 (by decide) ?_
              exact ih (q4 + 6) q3 q2 q1 _ _ _ h rfl _ _ (by omega) (by omega) _ _ _ hP hS (lv_sub hl [0, 1, 2, 3, 4] rfl)
            · replace h := m_f c46 h
              refine lv_iconst (v := 0) S.1 S.2.1 dL_law_175 (by decide) ?_
              exact absurd (m_fin h).1 (by decide)
          · replace h := m_f c41 h
            refine lv_iconst (v := 1) S.1 S.2.1 dL_law_164 (by decide) ?_
            refine lv_goto (tgt := 169) S.1 S.2.1 dL_law_165 (by decide) ?_
            obtain ⟨_, k50, h⟩ := m_bs h
            obtain ⟨x47, s48, e49, h⟩ := m_b_s h
            refine m_calli (va_runV (As := [.int x35, .int x37, .int 1]) (rest := [.int x31]) S (c_X3_rule l D tc b q2 x35 x37 1 _ _ _ e49) (cwV 3 S.2.2.2.2 (m_wV kX3_rule (by decide +kernel)) rfl rfl rfl (by decide +kernel) ⟨by decide +kernel, by decide +kernel⟩) (m_preV hK hP (m_is_s k50) rfl) rfl rfl hl.1 rfl (lv_room (by first | decide | simp [m_rfc, m_catI, m_catL, m_catA])) dL_law_169 ⟨by show _ ≤ 601024; omega, by show _ ≤ 7293000; omega⟩) hS (fun H locs hP hS => ?_)
            refine lv_icmp_eq (tgt := 674) S.1 S.2.1 dL_law_172 (by decide) (fun c51 => ?_) (fun c51 => ?_)
            · replace h := m_t c51 h
              refine lv_iinc (v := q4 + 6) (lv' := [(4, .int (q4 + 6)), (3, .ref q3), (2, .ref q2), (1, .ref q1), (0, .ref bs)]) S.1 S.2.1 dL_law_674 hl (k := 0) rfl rfl (by decide) (by first | rfl | simp [m_rfc, m_catI, m_catL, m_catA]) (fun ls hl => ?_)
              refine lv_goto (tgt := 33) S.1 S.2.1 dL_law_677 (by decide) ?_
              exact ih (q4 + 6) q3 q2 q1 _ _ _ h rfl _ _ (by omega) (by omega) _ _ _ hP hS (lv_sub hl [0, 1, 2, 3, 4] rfl)
            · replace h := m_f c51 h
              refine lv_iconst (v := 0) S.1 S.2.1 dL_law_175 (by decide) ?_
              exact absurd (m_fin h).1 (by decide)
        · replace h := m_f c30 h
          refine lv_iconst (v := 1) S.1 S.2.1 dL_law_134 (by decide) ?_
          refine lv_goto (tgt := 139) S.1 S.2.1 dL_law_135 (by decide) ?_
          obtain ⟨_, k55, h⟩ := m_bs h
          obtain ⟨x52, s53, e54, h⟩ := m_b_s h
          refine m_calli (va_runV (As := [.int x24, .int x26, .int 1]) (rest := []) S (c_X0_rule l D tc b q1 x24 x26 1 _ _ _ e54) (cwV 3 S.2.2.2.2 (m_wV kX0_rule (by decide +kernel)) rfl rfl rfl (by decide +kernel) ⟨by decide +kernel, by decide +kernel⟩) (m_preV hK hP (m_is_s k55) rfl) rfl rfl hl.1 rfl (lv_room (by first | decide | simp [m_rfc, m_catI, m_catL, m_catA])) dL_law_139 ⟨by show _ ≤ 601024; omega, by show _ ≤ 7293000; omega⟩) hS (fun H locs hP hS => ?_)
          refine lv_aload_n S.1 S.2.1 dL_law_142 rfl (lv_at hl 2 rfl) ?_
          refine lv_aload_n S.1 S.2.1 dL_law_143 rfl (lv_at hl 4 rfl) ?_
          refine lv_iload S.1 S.2.1 dL_law_144 (lv_at hl 0 rfl) ?_
          refine lv_iconst (v := 1) S.1 S.2.1 dL_law_146 (by decide) ?_
          refine lv_iadd S.1 S.2.1 dL_law_147 ?_
          obtain ⟨x56, e57, h⟩ := m_bs h
          refine m_sld S.1 S.2.1 hX hbl hbA hS e57 dL_law_148 ?_
          refine lv_aload_n S.1 S.2.1 dL_law_149 rfl (lv_at hl 4 rfl) ?_
          refine lv_iload S.1 S.2.1 dL_law_150 (lv_at hl 0 rfl) ?_
          refine lv_iconst (v := 2) S.1 S.2.1 dL_law_152 (by decide) ?_
          refine lv_iadd S.1 S.2.1 dL_law_153 ?_
          obtain ⟨x58, e59, h⟩ := m_bs h
          refine m_sld S.1 S.2.1 hX hbl hbA hS e59 dL_law_154 ?_
          refine lv_aload_n S.1 S.2.1 dL_law_155 rfl (lv_at hl 4 rfl) ?_
          refine lv_iload S.1 S.2.1 dL_law_156 (lv_at hl 0 rfl) ?_
          refine lv_iconst (v := 3) S.1 S.2.1 dL_law_158 (by decide) ?_
          refine lv_iadd S.1 S.2.1 dL_law_159 ?_
          obtain ⟨x60, e61, h⟩ := m_bs h
          refine m_sld S.1 S.2.1 hX hbl hbA hS e61 dL_law_160 ?_
          refine lv_if_eq (tgt := 168) S.1 S.2.1 dL_law_161 (by decide) (fun c62 => ?_) (fun c62 => ?_)
          · replace h := m_t c62 h
            refine lv_iconst (v := 0) S.1 S.2.1 dL_law_168 (by decide) ?_
            obtain ⟨_, k66, h⟩ := m_bs h
            obtain ⟨x63, s64, e65, h⟩ := m_b_s h
            refine m_calli (va_runV (As := [.int x56, .int x58, .int 0]) (rest := [.int x52]) S (c_X3_rule l D tc b q2 x56 x58 0 _ _ _ e65) (cwV 3 S.2.2.2.2 (m_wV kX3_rule (by decide +kernel)) rfl rfl rfl (by decide +kernel) ⟨by decide +kernel, by decide +kernel⟩) (m_preV hK hP (m_is_s k66) rfl) rfl rfl hl.1 rfl (lv_room (by first | decide | simp [m_rfc, m_catI, m_catL, m_catA])) dL_law_169 ⟨by show _ ≤ 601024; omega, by show _ ≤ 7293000; omega⟩) hS (fun H locs hP hS => ?_)
            refine lv_icmp_eq (tgt := 674) S.1 S.2.1 dL_law_172 (by decide) (fun c67 => ?_) (fun c67 => ?_)
            · replace h := m_t c67 h
              refine lv_iinc (v := q4 + 6) (lv' := [(4, .int (q4 + 6)), (3, .ref q3), (2, .ref q2), (1, .ref q1), (0, .ref bs)]) S.1 S.2.1 dL_law_674 hl (k := 0) rfl rfl (by decide) (by first | rfl | simp [m_rfc, m_catI, m_catL, m_catA]) (fun ls hl => ?_)
              refine lv_goto (tgt := 33) S.1 S.2.1 dL_law_677 (by decide) ?_
              exact ih (q4 + 6) q3 q2 q1 _ _ _ h rfl _ _ (by omega) (by omega) _ _ _ hP hS (lv_sub hl [0, 1, 2, 3, 4] rfl)
            · replace h := m_f c67 h
              refine lv_iconst (v := 0) S.1 S.2.1 dL_law_175 (by decide) ?_
              exact absurd (m_fin h).1 (by decide)
          · replace h := m_f c62 h
            refine lv_iconst (v := 1) S.1 S.2.1 dL_law_164 (by decide) ?_
            refine lv_goto (tgt := 169) S.1 S.2.1 dL_law_165 (by decide) ?_
            obtain ⟨_, k71, h⟩ := m_bs h
            obtain ⟨x68, s69, e70, h⟩ := m_b_s h
            refine m_calli (va_runV (As := [.int x56, .int x58, .int 1]) (rest := [.int x52]) S (c_X3_rule l D tc b q2 x56 x58 1 _ _ _ e70) (cwV 3 S.2.2.2.2 (m_wV kX3_rule (by decide +kernel)) rfl rfl rfl (by decide +kernel) ⟨by decide +kernel, by decide +kernel⟩) (m_preV hK hP (m_is_s k71) rfl) rfl rfl hl.1 rfl (lv_room (by first | decide | simp [m_rfc, m_catI, m_catL, m_catA])) dL_law_169 ⟨by show _ ≤ 601024; omega, by show _ ≤ 7293000; omega⟩) hS (fun H locs hP hS => ?_)
            refine lv_icmp_eq (tgt := 674) S.1 S.2.1 dL_law_172 (by decide) (fun c72 => ?_) (fun c72 => ?_)
            · replace h := m_t c72 h
              refine lv_iinc (v := q4 + 6) (lv' := [(4, .int (q4 + 6)), (3, .ref q3), (2, .ref q2), (1, .ref q1), (0, .ref bs)]) S.1 S.2.1 dL_law_674 hl (k := 0) rfl rfl (by decide) (by first | rfl | simp [m_rfc, m_catI, m_catL, m_catA]) (fun ls hl => ?_)
              refine lv_goto (tgt := 33) S.1 S.2.1 dL_law_677 (by decide) ?_
              exact ih (q4 + 6) q3 q2 q1 _ _ _ h rfl _ _ (by omega) (by omega) _ _ _ hP hS (lv_sub hl [0, 1, 2, 3, 4] rfl)
            · replace h := m_f c72 h
              refine lv_iconst (v := 0) S.1 S.2.1 dL_law_175 (by decide) ?_
              exact absurd (m_fin h).1 (by decide)
      replace h := m_f c23 h
      by_cases c73 : (x21 &&& 15) = 1
      · replace h := m_t c73 h
        refine lv_tableIn (tgt := 177) S.1 S.2.1 dL_law_50 (by rw [c73]; decide) (by rw [c73]; decide) (by rw [c73]; rfl) (by decide) ?_
        refine lv_aload_n S.1 S.2.1 dL_law_177 rfl (lv_at hl 3 rfl) ?_
        refine lv_aload_n S.1 S.2.1 dL_law_178 rfl (lv_at hl 4 rfl) ?_
        refine lv_iload S.1 S.2.1 dL_law_179 (lv_at hl 0 rfl) ?_
        refine lv_iconst (v := 1) S.1 S.2.1 dL_law_181 (by decide) ?_
        refine lv_iadd S.1 S.2.1 dL_law_182 ?_
        obtain ⟨x74, e75, h⟩ := m_bs h
        refine m_sld S.1 S.2.1 hX hbl hbA hS e75 dL_law_183 ?_
        obtain ⟨_, k79, h⟩ := m_bs h
        obtain ⟨x76, s77, e78, h⟩ := m_b_s h
        refine m_calli (va_runV (As := [.int x74]) (rest := []) S (c_X0_make l D tc b q1 x74 _ _ _ e78) (cwV 1 S.2.2.2.2 (m_wV kX0_make (by decide +kernel)) rfl rfl rfl (by decide +kernel) ⟨by decide +kernel, by decide +kernel⟩) (m_preV hK hP (m_is_s k79) rfl) rfl rfl hl.1 rfl (lv_room (by first | decide | simp [m_rfc, m_catI, m_catL, m_catA])) dL_law_184 ⟨by show _ ≤ 601024; omega, by show _ ≤ 7293000; omega⟩) hS (fun H locs hP hS => ?_)
        refine lv_aload_n S.1 S.2.1 dL_law_187 rfl (lv_at hl 2 rfl) ?_
        refine lv_aload_n S.1 S.2.1 dL_law_188 rfl (lv_at hl 4 rfl) ?_
        refine lv_iload S.1 S.2.1 dL_law_189 (lv_at hl 0 rfl) ?_
        refine lv_iconst (v := 1) S.1 S.2.1 dL_law_191 (by decide) ?_
        refine lv_iadd S.1 S.2.1 dL_law_192 ?_
        obtain ⟨x80, e81, h⟩ := m_bs h
        refine m_sld S.1 S.2.1 hX hbl hbA hS e81 dL_law_193 ?_
        obtain ⟨_, k85, h⟩ := m_bs h
        obtain ⟨x82, s83, e84, h⟩ := m_b_s h
        refine m_calli (va_runV (As := [.int x80]) (rest := [.int x76]) S (c_X3_make l D tc b q2 x80 _ _ _ e84) (cwV 1 S.2.2.2.2 (m_wV kX3_make (by decide +kernel)) rfl rfl rfl (by decide +kernel) ⟨by decide +kernel, by decide +kernel⟩) (m_preV hK hP (m_is_s k85) rfl) rfl rfl hl.1 rfl (lv_room (by first | decide | simp [m_rfc, m_catI, m_catL, m_catA])) dL_law_194 ⟨by show _ ≤ 601024; omega, by show _ ≤ 7293000; omega⟩) hS (fun H locs hP hS => ?_)
        refine lv_icmp_eq (tgt := 674) S.1 S.2.1 dL_law_197 (by decide) (fun c86 => ?_) (fun c86 => ?_)
        · replace h := m_t c86 h
          refine lv_iinc (v := q4 + 6) (lv' := [(4, .int (q4 + 6)), (3, .ref q3), (2, .ref q2), (1, .ref q1), (0, .ref bs)]) S.1 S.2.1 dL_law_674 hl (k := 0) rfl rfl (by decide) (by first | rfl | simp [m_rfc, m_catI, m_catL, m_catA]) (fun ls hl => ?_)
          refine lv_goto (tgt := 33) S.1 S.2.1 dL_law_677 (by decide) ?_
          exact ih (q4 + 6) q3 q2 q1 _ _ _ h rfl _ _ (by omega) (by omega) _ _ _ hP hS (lv_sub hl [0, 1, 2, 3, 4] rfl)
        · replace h := m_f c86 h
          refine lv_iconst (v := 0) S.1 S.2.1 dL_law_200 (by decide) ?_
          exact absurd (m_fin h).1 (by decide)
      replace h := m_f c73 h
      by_cases c87 : (x21 &&& 15) = 2
      · replace h := m_t c87 h
        refine lv_tableIn (tgt := 202) S.1 S.2.1 dL_law_50 (by rw [c87]; decide) (by rw [c87]; decide) (by rw [c87]; rfl) (by decide) ?_
        refine lv_aload_n S.1 S.2.1 dL_law_202 rfl (lv_at hl 3 rfl) ?_
        refine lv_aload_n S.1 S.2.1 dL_law_203 rfl (lv_at hl 4 rfl) ?_
        refine lv_iload S.1 S.2.1 dL_law_204 (lv_at hl 0 rfl) ?_
        refine lv_iconst (v := 1) S.1 S.2.1 dL_law_206 (by decide) ?_
        refine lv_iadd S.1 S.2.1 dL_law_207 ?_
        obtain ⟨x88, e89, h⟩ := m_bs h
        refine m_sld S.1 S.2.1 hX hbl hbA hS e89 dL_law_208 ?_
        refine lv_aload_n S.1 S.2.1 dL_law_209 rfl (lv_at hl 4 rfl) ?_
        refine lv_iload S.1 S.2.1 dL_law_210 (lv_at hl 0 rfl) ?_
        refine lv_iconst (v := 2) S.1 S.2.1 dL_law_212 (by decide) ?_
        refine lv_iadd S.1 S.2.1 dL_law_213 ?_
        obtain ⟨x90, e91, h⟩ := m_bs h
        refine m_sld S.1 S.2.1 hX hbl hbA hS e91 dL_law_214 ?_
        refine lv_aload_n S.1 S.2.1 dL_law_215 rfl (lv_at hl 4 rfl) ?_
        refine lv_iload S.1 S.2.1 dL_law_216 (lv_at hl 0 rfl) ?_
        refine lv_iconst (v := 3) S.1 S.2.1 dL_law_218 (by decide) ?_
        refine lv_iadd S.1 S.2.1 dL_law_219 ?_
        obtain ⟨x92, e93, h⟩ := m_bs h
        refine m_sld S.1 S.2.1 hX hbl hbA hS e93 dL_law_220 ?_
        obtain ⟨_, k97, h⟩ := m_bs h
        obtain ⟨x94, s95, e96, h⟩ := m_b_s h
        refine m_calli (va_runV (As := [.int x88, .int x90, .int x92]) (rest := []) S (c_X0_attribute l D tc b q1 x88 x90 x92 _ _ _ e96) (cwV 3 S.2.2.2.2 (m_wV kX0_attribute (by decide +kernel)) rfl rfl rfl (by decide +kernel) ⟨by decide +kernel, by decide +kernel⟩) (m_preV hK hP (m_is_s k97) rfl) rfl rfl hl.1 rfl (lv_room (by first | decide | simp [m_rfc, m_catI, m_catL, m_catA])) dL_law_221 ⟨by show _ ≤ 601024; omega, by show _ ≤ 7293000; omega⟩) hS (fun H locs hP hS => ?_)
        refine lv_aload_n S.1 S.2.1 dL_law_224 rfl (lv_at hl 2 rfl) ?_
        refine lv_aload_n S.1 S.2.1 dL_law_225 rfl (lv_at hl 4 rfl) ?_
        refine lv_iload S.1 S.2.1 dL_law_226 (lv_at hl 0 rfl) ?_
        refine lv_iconst (v := 1) S.1 S.2.1 dL_law_228 (by decide) ?_
        refine lv_iadd S.1 S.2.1 dL_law_229 ?_
        obtain ⟨x98, e99, h⟩ := m_bs h
        refine m_sld S.1 S.2.1 hX hbl hbA hS e99 dL_law_230 ?_
        refine lv_aload_n S.1 S.2.1 dL_law_231 rfl (lv_at hl 4 rfl) ?_
        refine lv_iload S.1 S.2.1 dL_law_232 (lv_at hl 0 rfl) ?_
        refine lv_iconst (v := 2) S.1 S.2.1 dL_law_234 (by decide) ?_
        refine lv_iadd S.1 S.2.1 dL_law_235 ?_
        obtain ⟨x100, e101, h⟩ := m_bs h
        refine m_sld S.1 S.2.1 hX hbl hbA hS e101 dL_law_236 ?_
        refine lv_aload_n S.1 S.2.1 dL_law_237 rfl (lv_at hl 4 rfl) ?_
        refine lv_iload S.1 S.2.1 dL_law_238 (lv_at hl 0 rfl) ?_
        refine lv_iconst (v := 3) S.1 S.2.1 dL_law_240 (by decide) ?_
        refine lv_iadd S.1 S.2.1 dL_law_241 ?_
        obtain ⟨x102, e103, h⟩ := m_bs h
        refine m_sld S.1 S.2.1 hX hbl hbA hS e103 dL_law_242 ?_
        obtain ⟨_, k107, h⟩ := m_bs h
        obtain ⟨x104, s105, e106, h⟩ := m_b_s h
        refine m_calli (va_runV (As := [.int x98, .int x100, .int x102]) (rest := [.int x94]) S (c_X3_attribute l D tc b q2 x98 x100 x102 _ _ _ e106) (cwV 3 S.2.2.2.2 (m_wV kX3_attribute (by decide +kernel)) rfl rfl rfl (by decide +kernel) ⟨by decide +kernel, by decide +kernel⟩) (m_preV hK hP (m_is_s k107) rfl) rfl rfl hl.1 rfl (lv_room (by first | decide | simp [m_rfc, m_catI, m_catL, m_catA])) dL_law_243 ⟨by show _ ≤ 601024; omega, by show _ ≤ 7293000; omega⟩) hS (fun H locs hP hS => ?_)
        refine lv_icmp_eq (tgt := 674) S.1 S.2.1 dL_law_246 (by decide) (fun c108 => ?_) (fun c108 => ?_)
        · replace h := m_t c108 h
          refine lv_iinc (v := q4 + 6) (lv' := [(4, .int (q4 + 6)), (3, .ref q3), (2, .ref q2), (1, .ref q1), (0, .ref bs)]) S.1 S.2.1 dL_law_674 hl (k := 0) rfl rfl (by decide) (by first | rfl | simp [m_rfc, m_catI, m_catL, m_catA]) (fun ls hl => ?_)
          refine lv_goto (tgt := 33) S.1 S.2.1 dL_law_677 (by decide) ?_
          exact ih (q4 + 6) q3 q2 q1 _ _ _ h rfl _ _ (by omega) (by omega) _ _ _ hP hS (lv_sub hl [0, 1, 2, 3, 4] rfl)
        · replace h := m_f c108 h
          refine lv_iconst (v := 0) S.1 S.2.1 dL_law_249 (by decide) ?_
          exact absurd (m_fin h).1 (by decide)
      replace h := m_f c87 h
      by_cases c109 : (x21 &&& 15) = 3
      · replace h := m_t c109 h
        refine lv_tableIn (tgt := 251) S.1 S.2.1 dL_law_50 (by rw [c109]; decide) (by rw [c109]; decide) (by rw [c109]; rfl) (by decide) ?_
        refine lv_aload_n S.1 S.2.1 dL_law_251 rfl (lv_at hl 3 rfl) ?_
        refine lv_aload_n S.1 S.2.1 dL_law_252 rfl (lv_at hl 4 rfl) ?_
        refine lv_iload S.1 S.2.1 dL_law_253 (lv_at hl 0 rfl) ?_
        refine lv_iconst (v := 1) S.1 S.2.1 dL_law_255 (by decide) ?_
        refine lv_iadd S.1 S.2.1 dL_law_256 ?_
        obtain ⟨x110, e111, h⟩ := m_bs h
        refine m_sld S.1 S.2.1 hX hbl hbA hS e111 dL_law_257 ?_
        obtain ⟨_, k115, h⟩ := m_bs h
        obtain ⟨x112, s113, e114, h⟩ := m_b_s h
        refine m_calli (va_runV (As := [.int x110]) (rest := []) S (c_X0_target l D tc b q1 x110 _ _ _ e114) (cwV 1 S.2.2.2.2 (m_wV kX0_target (by decide +kernel)) rfl rfl rfl (by decide +kernel) ⟨by decide +kernel, by decide +kernel⟩) (m_preV hK hP (m_is_s k115) rfl) rfl rfl hl.1 rfl (lv_room (by first | decide | simp [m_rfc, m_catI, m_catL, m_catA])) dL_law_258 ⟨by show _ ≤ 601024; omega, by show _ ≤ 7293000; omega⟩) hS (fun H locs hP hS => ?_)
        refine lv_aload_n S.1 S.2.1 dL_law_261 rfl (lv_at hl 2 rfl) ?_
        refine lv_aload_n S.1 S.2.1 dL_law_262 rfl (lv_at hl 4 rfl) ?_
        refine lv_iload S.1 S.2.1 dL_law_263 (lv_at hl 0 rfl) ?_
        refine lv_iconst (v := 1) S.1 S.2.1 dL_law_265 (by decide) ?_
        refine lv_iadd S.1 S.2.1 dL_law_266 ?_
        obtain ⟨x116, e117, h⟩ := m_bs h
        refine m_sld S.1 S.2.1 hX hbl hbA hS e117 dL_law_267 ?_
        obtain ⟨_, k121, h⟩ := m_bs h
        obtain ⟨x118, s119, e120, h⟩ := m_b_s h
        refine m_calli (va_runV (As := [.int x116]) (rest := [.int x112]) S (c_X3_target l D tc b q2 x116 _ _ _ e120) (cwV 1 S.2.2.2.2 (m_wV kX3_target (by decide +kernel)) rfl rfl rfl (by decide +kernel) ⟨by decide +kernel, by decide +kernel⟩) (m_preV hK hP (m_is_s k121) rfl) rfl rfl hl.1 rfl (lv_room (by first | decide | simp [m_rfc, m_catI, m_catL, m_catA])) dL_law_268 ⟨by show _ ≤ 601024; omega, by show _ ≤ 7293000; omega⟩) hS (fun H locs hP hS => ?_)
        refine lv_icmp_eq (tgt := 674) S.1 S.2.1 dL_law_271 (by decide) (fun c122 => ?_) (fun c122 => ?_)
        · replace h := m_t c122 h
          refine lv_iinc (v := q4 + 6) (lv' := [(4, .int (q4 + 6)), (3, .ref q3), (2, .ref q2), (1, .ref q1), (0, .ref bs)]) S.1 S.2.1 dL_law_674 hl (k := 0) rfl rfl (by decide) (by first | rfl | simp [m_rfc, m_catI, m_catL, m_catA]) (fun ls hl => ?_)
          refine lv_goto (tgt := 33) S.1 S.2.1 dL_law_677 (by decide) ?_
          exact ih (q4 + 6) q3 q2 q1 _ _ _ h rfl _ _ (by omega) (by omega) _ _ _ hP hS (lv_sub hl [0, 1, 2, 3, 4] rfl)
        · replace h := m_f c122 h
          refine lv_iconst (v := 0) S.1 S.2.1 dL_law_274 (by decide) ?_
          exact absurd (m_fin h).1 (by decide)
      replace h := m_f c109 h
      by_cases c123 : (x21 &&& 15) = 4
      · replace h := m_t c123 h
        refine lv_tableIn (tgt := 276) S.1 S.2.1 dL_law_50 (by rw [c123]; decide) (by rw [c123]; decide) (by rw [c123]; rfl) (by decide) ?_
        refine lv_aload_n S.1 S.2.1 dL_law_276 rfl (lv_at hl 3 rfl) ?_
        refine lv_aload_n S.1 S.2.1 dL_law_277 rfl (lv_at hl 4 rfl) ?_
        refine lv_iload S.1 S.2.1 dL_law_278 (lv_at hl 0 rfl) ?_
        refine lv_iconst (v := 1) S.1 S.2.1 dL_law_280 (by decide) ?_
        refine lv_iadd S.1 S.2.1 dL_law_281 ?_
        obtain ⟨x124, e125, h⟩ := m_bs h
        refine m_sld S.1 S.2.1 hX hbl hbA hS e125 dL_law_282 ?_
        obtain ⟨_, k129, h⟩ := m_bs h
        obtain ⟨x126, s127, e128, h⟩ := m_b_s h
        refine m_calli (va_runV (As := [.int x124]) (rest := []) S (c_X0_run l D tc b q1 x124 _ _ _ e128) (cwV 1 S.2.2.2.2 (m_wV kX0_run (by decide +kernel)) rfl rfl rfl (by decide +kernel) ⟨by decide +kernel, by decide +kernel⟩) (m_preV hK hP (m_is_s k129) rfl) rfl rfl hl.1 rfl (lv_room (by first | decide | simp [m_rfc, m_catI, m_catL, m_catA])) dL_law_283 ⟨by show _ ≤ 601024; omega, by show _ ≤ 7293000; omega⟩) hS (fun H locs hP hS => ?_)
        refine lv_aload_n S.1 S.2.1 dL_law_286 rfl (lv_at hl 2 rfl) ?_
        refine lv_aload_n S.1 S.2.1 dL_law_287 rfl (lv_at hl 4 rfl) ?_
        refine lv_iload S.1 S.2.1 dL_law_288 (lv_at hl 0 rfl) ?_
        refine lv_iconst (v := 1) S.1 S.2.1 dL_law_290 (by decide) ?_
        refine lv_iadd S.1 S.2.1 dL_law_291 ?_
        obtain ⟨x130, e131, h⟩ := m_bs h
        refine m_sld S.1 S.2.1 hX hbl hbA hS e131 dL_law_292 ?_
        obtain ⟨_, k135, h⟩ := m_bs h
        obtain ⟨x132, s133, e134, h⟩ := m_b_s h
        refine m_calli (va_runV (As := [.int x130]) (rest := [.int x126]) S (c_X3_run l D tc b q2 x130 _ _ _ e134) (cwV 1 S.2.2.2.2 (m_wV kX3_run (by decide +kernel)) rfl rfl rfl (by decide +kernel) ⟨by decide +kernel, by decide +kernel⟩) (m_preV hK hP (m_is_s k135) rfl) rfl rfl hl.1 rfl (lv_room (by first | decide | simp [m_rfc, m_catI, m_catL, m_catA])) dL_law_293 ⟨by show _ ≤ 601024; omega, by show _ ≤ 7293000; omega⟩) hS (fun H locs hP hS => ?_)
        refine lv_icmp_eq (tgt := 674) S.1 S.2.1 dL_law_296 (by decide) (fun c136 => ?_) (fun c136 => ?_)
        · replace h := m_t c136 h
          refine lv_iinc (v := q4 + 6) (lv' := [(4, .int (q4 + 6)), (3, .ref q3), (2, .ref q2), (1, .ref q1), (0, .ref bs)]) S.1 S.2.1 dL_law_674 hl (k := 0) rfl rfl (by decide) (by first | rfl | simp [m_rfc, m_catI, m_catL, m_catA]) (fun ls hl => ?_)
          refine lv_goto (tgt := 33) S.1 S.2.1 dL_law_677 (by decide) ?_
          exact ih (q4 + 6) q3 q2 q1 _ _ _ h rfl _ _ (by omega) (by omega) _ _ _ hP hS (lv_sub hl [0, 1, 2, 3, 4] rfl)
        · replace h := m_f c136 h
          refine lv_iconst (v := 0) S.1 S.2.1 dL_law_299 (by decide) ?_
          exact absurd (m_fin h).1 (by decide)
      replace h := m_f c123 h
      by_cases c137 : (x21 &&& 15) = 5
      · replace h := m_t c137 h
        refine lv_tableIn (tgt := 301) S.1 S.2.1 dL_law_50 (by rw [c137]; decide) (by rw [c137]; decide) (by rw [c137]; rfl) (by decide) ?_
        refine lv_aload_n S.1 S.2.1 dL_law_301 rfl (lv_at hl 3 rfl) ?_
        refine lv_aload_n S.1 S.2.1 dL_law_302 rfl (lv_at hl 4 rfl) ?_
        refine lv_iload S.1 S.2.1 dL_law_303 (lv_at hl 0 rfl) ?_
        refine lv_iconst (v := 1) S.1 S.2.1 dL_law_305 (by decide) ?_
        refine lv_iadd S.1 S.2.1 dL_law_306 ?_
        obtain ⟨x138, e139, h⟩ := m_bs h
        refine m_sld S.1 S.2.1 hX hbl hbA hS e139 dL_law_307 ?_
        refine lv_aload_n S.1 S.2.1 dL_law_308 rfl (lv_at hl 4 rfl) ?_
        refine lv_iload S.1 S.2.1 dL_law_309 (lv_at hl 0 rfl) ?_
        refine lv_iconst (v := 2) S.1 S.2.1 dL_law_311 (by decide) ?_
        refine lv_iadd S.1 S.2.1 dL_law_312 ?_
        obtain ⟨x140, e141, h⟩ := m_bs h
        refine m_sld S.1 S.2.1 hX hbl hbA hS e141 dL_law_313 ?_
        obtain ⟨_, k145, h⟩ := m_bs h
        obtain ⟨x142, s143, e144, h⟩ := m_b_s h
        refine m_calli (va_runV (As := [.int x138, .int x140]) (rest := []) S (c_X0_action l D tc b q1 x138 x140 _ _ _ e144) (cwV 2 S.2.2.2.2 (m_wV kX0_action (by decide +kernel)) rfl rfl rfl (by decide +kernel) ⟨by decide +kernel, by decide +kernel⟩) (m_preV hK hP (m_is_s k145) rfl) rfl rfl hl.1 rfl (lv_room (by first | decide | simp [m_rfc, m_catI, m_catL, m_catA])) dL_law_314 ⟨by show _ ≤ 601024; omega, by show _ ≤ 7293000; omega⟩) hS (fun H locs hP hS => ?_)
        refine lv_aload_n S.1 S.2.1 dL_law_317 rfl (lv_at hl 2 rfl) ?_
        refine lv_aload_n S.1 S.2.1 dL_law_318 rfl (lv_at hl 4 rfl) ?_
        refine lv_iload S.1 S.2.1 dL_law_319 (lv_at hl 0 rfl) ?_
        refine lv_iconst (v := 1) S.1 S.2.1 dL_law_321 (by decide) ?_
        refine lv_iadd S.1 S.2.1 dL_law_322 ?_
        obtain ⟨x146, e147, h⟩ := m_bs h
        refine m_sld S.1 S.2.1 hX hbl hbA hS e147 dL_law_323 ?_
        refine lv_aload_n S.1 S.2.1 dL_law_324 rfl (lv_at hl 4 rfl) ?_
        refine lv_iload S.1 S.2.1 dL_law_325 (lv_at hl 0 rfl) ?_
        refine lv_iconst (v := 2) S.1 S.2.1 dL_law_327 (by decide) ?_
        refine lv_iadd S.1 S.2.1 dL_law_328 ?_
        obtain ⟨x148, e149, h⟩ := m_bs h
        refine m_sld S.1 S.2.1 hX hbl hbA hS e149 dL_law_329 ?_
        obtain ⟨_, k153, h⟩ := m_bs h
        obtain ⟨x150, s151, e152, h⟩ := m_b_s h
        refine m_calli (va_runV (As := [.int x146, .int x148]) (rest := [.int x142]) S (c_X3_action l D tc b q2 x146 x148 _ _ _ e152) (cwV 2 S.2.2.2.2 (m_wV kX3_action (by decide +kernel)) rfl rfl rfl (by decide +kernel) ⟨by decide +kernel, by decide +kernel⟩) (m_preV hK hP (m_is_s k153) rfl) rfl rfl hl.1 rfl (lv_room (by first | decide | simp [m_rfc, m_catI, m_catL, m_catA])) dL_law_330 ⟨by show _ ≤ 601024; omega, by show _ ≤ 7293000; omega⟩) hS (fun H locs hP hS => ?_)
        refine lv_icmp_eq (tgt := 674) S.1 S.2.1 dL_law_333 (by decide) (fun c154 => ?_) (fun c154 => ?_)
        · replace h := m_t c154 h
          refine lv_iinc (v := q4 + 6) (lv' := [(4, .int (q4 + 6)), (3, .ref q3), (2, .ref q2), (1, .ref q1), (0, .ref bs)]) S.1 S.2.1 dL_law_674 hl (k := 0) rfl rfl (by decide) (by first | rfl | simp [m_rfc, m_catI, m_catL, m_catA]) (fun ls hl => ?_)
          refine lv_goto (tgt := 33) S.1 S.2.1 dL_law_677 (by decide) ?_
          exact ih (q4 + 6) q3 q2 q1 _ _ _ h rfl _ _ (by omega) (by omega) _ _ _ hP hS (lv_sub hl [0, 1, 2, 3, 4] rfl)
        · replace h := m_f c154 h
          refine lv_iconst (v := 0) S.1 S.2.1 dL_law_336 (by decide) ?_
          exact absurd (m_fin h).1 (by decide)
      replace h := m_f c137 h
      by_cases c155 : (x21 &&& 15) = 6
      · replace h := m_t c155 h
        refine lv_tableIn (tgt := 338) S.1 S.2.1 dL_law_50 (by rw [c155]; decide) (by rw [c155]; decide) (by rw [c155]; rfl) (by decide) ?_
        refine lv_aload_n S.1 S.2.1 dL_law_338 rfl (lv_at hl 3 rfl) ?_
        refine lv_aload_n S.1 S.2.1 dL_law_339 rfl (lv_at hl 4 rfl) ?_
        refine lv_iload S.1 S.2.1 dL_law_340 (lv_at hl 0 rfl) ?_
        refine lv_iconst (v := 1) S.1 S.2.1 dL_law_342 (by decide) ?_
        refine lv_iadd S.1 S.2.1 dL_law_343 ?_
        obtain ⟨x156, e157, h⟩ := m_bs h
        refine m_sld S.1 S.2.1 hX hbl hbA hS e157 dL_law_344 ?_
        refine lv_aload_n S.1 S.2.1 dL_law_345 rfl (lv_at hl 4 rfl) ?_
        refine lv_iload S.1 S.2.1 dL_law_346 (lv_at hl 0 rfl) ?_
        refine lv_iconst (v := 2) S.1 S.2.1 dL_law_348 (by decide) ?_
        refine lv_iadd S.1 S.2.1 dL_law_349 ?_
        obtain ⟨x158, e159, h⟩ := m_bs h
        refine m_sld S.1 S.2.1 hX hbl hbA hS e159 dL_law_350 ?_
        obtain ⟨_, k163, h⟩ := m_bs h
        obtain ⟨x160, s161, e162, h⟩ := m_b_s h
        refine m_calli (va_runV (As := [.int x156, .int x158]) (rest := []) S (c_X0_provider l D tc b q1 x156 x158 _ _ _ e162) (cwV 2 S.2.2.2.2 (m_wV kX0_provider (by decide +kernel)) rfl rfl rfl (by decide +kernel) ⟨by decide +kernel, by decide +kernel⟩) (m_preV hK hP (m_is_s k163) rfl) rfl rfl hl.1 rfl (lv_room (by first | decide | simp [m_rfc, m_catI, m_catL, m_catA])) dL_law_351 ⟨by show _ ≤ 601024; omega, by show _ ≤ 7293000; omega⟩) hS (fun H locs hP hS => ?_)
        refine lv_aload_n S.1 S.2.1 dL_law_354 rfl (lv_at hl 2 rfl) ?_
        refine lv_aload_n S.1 S.2.1 dL_law_355 rfl (lv_at hl 4 rfl) ?_
        refine lv_iload S.1 S.2.1 dL_law_356 (lv_at hl 0 rfl) ?_
        refine lv_iconst (v := 1) S.1 S.2.1 dL_law_358 (by decide) ?_
        refine lv_iadd S.1 S.2.1 dL_law_359 ?_
        obtain ⟨x164, e165, h⟩ := m_bs h
        refine m_sld S.1 S.2.1 hX hbl hbA hS e165 dL_law_360 ?_
        refine lv_aload_n S.1 S.2.1 dL_law_361 rfl (lv_at hl 4 rfl) ?_
        refine lv_iload S.1 S.2.1 dL_law_362 (lv_at hl 0 rfl) ?_
        refine lv_iconst (v := 2) S.1 S.2.1 dL_law_364 (by decide) ?_
        refine lv_iadd S.1 S.2.1 dL_law_365 ?_
        obtain ⟨x166, e167, h⟩ := m_bs h
        refine m_sld S.1 S.2.1 hX hbl hbA hS e167 dL_law_366 ?_
        obtain ⟨_, k171, h⟩ := m_bs h
        obtain ⟨x168, s169, e170, h⟩ := m_b_s h
        refine m_calli (va_runV (As := [.int x164, .int x166]) (rest := [.int x160]) S (c_X3_provider l D tc b q2 x164 x166 _ _ _ e170) (cwV 2 S.2.2.2.2 (m_wV kX3_provider (by decide +kernel)) rfl rfl rfl (by decide +kernel) ⟨by decide +kernel, by decide +kernel⟩) (m_preV hK hP (m_is_s k171) rfl) rfl rfl hl.1 rfl (lv_room (by first | decide | simp [m_rfc, m_catI, m_catL, m_catA])) dL_law_367 ⟨by show _ ≤ 601024; omega, by show _ ≤ 7293000; omega⟩) hS (fun H locs hP hS => ?_)
        refine lv_icmp_eq (tgt := 674) S.1 S.2.1 dL_law_370 (by decide) (fun c172 => ?_) (fun c172 => ?_)
        · replace h := m_t c172 h
          refine lv_iinc (v := q4 + 6) (lv' := [(4, .int (q4 + 6)), (3, .ref q3), (2, .ref q2), (1, .ref q1), (0, .ref bs)]) S.1 S.2.1 dL_law_674 hl (k := 0) rfl rfl (by decide) (by first | rfl | simp [m_rfc, m_catI, m_catL, m_catA]) (fun ls hl => ?_)
          refine lv_goto (tgt := 33) S.1 S.2.1 dL_law_677 (by decide) ?_
          exact ih (q4 + 6) q3 q2 q1 _ _ _ h rfl _ _ (by omega) (by omega) _ _ _ hP hS (lv_sub hl [0, 1, 2, 3, 4] rfl)
        · replace h := m_f c172 h
          refine lv_iconst (v := 0) S.1 S.2.1 dL_law_373 (by decide) ?_
          exact absurd (m_fin h).1 (by decide)
      replace h := m_f c155 h
      by_cases c173 : (x21 &&& 15) = 7
      · replace h := m_t c173 h
        refine lv_tableIn (tgt := 375) S.1 S.2.1 dL_law_50 (by rw [c173]; decide) (by rw [c173]; decide) (by rw [c173]; rfl) (by decide) ?_
        refine lv_aload_n S.1 S.2.1 dL_law_375 rfl (lv_at hl 3 rfl) ?_
        refine lv_aload_n S.1 S.2.1 dL_law_376 rfl (lv_at hl 4 rfl) ?_
        refine lv_iload S.1 S.2.1 dL_law_377 (lv_at hl 0 rfl) ?_
        refine lv_iconst (v := 1) S.1 S.2.1 dL_law_379 (by decide) ?_
        refine lv_iadd S.1 S.2.1 dL_law_380 ?_
        obtain ⟨x174, e175, h⟩ := m_bs h
        refine m_sld S.1 S.2.1 hX hbl hbA hS e175 dL_law_381 ?_
        refine lv_aload_n S.1 S.2.1 dL_law_382 rfl (lv_at hl 4 rfl) ?_
        refine lv_iload S.1 S.2.1 dL_law_383 (lv_at hl 0 rfl) ?_
        refine lv_iconst (v := 2) S.1 S.2.1 dL_law_385 (by decide) ?_
        refine lv_iadd S.1 S.2.1 dL_law_386 ?_
        obtain ⟨x176, e177, h⟩ := m_bs h
        refine m_sld S.1 S.2.1 hX hbl hbA hS e177 dL_law_387 ?_
        obtain ⟨_, k181, h⟩ := m_bs h
        obtain ⟨x178, s179, e180, h⟩ := m_b_s h
        refine m_calli (va_runV (As := [.int x174, .int x176]) (rest := []) S (c_X0_failed l D tc b q1 x174 x176 _ _ _ e180) (cwV 2 S.2.2.2.2 (m_wV kX0_failed (by decide +kernel)) rfl rfl rfl (by decide +kernel) ⟨by decide +kernel, by decide +kernel⟩) (m_preV hK hP (m_is_s k181) rfl) rfl rfl hl.1 rfl (lv_room (by first | decide | simp [m_rfc, m_catI, m_catL, m_catA])) dL_law_388 ⟨by show _ ≤ 601024; omega, by show _ ≤ 7293000; omega⟩) hS (fun H locs hP hS => ?_)
        refine lv_aload_n S.1 S.2.1 dL_law_391 rfl (lv_at hl 2 rfl) ?_
        refine lv_aload_n S.1 S.2.1 dL_law_392 rfl (lv_at hl 4 rfl) ?_
        refine lv_iload S.1 S.2.1 dL_law_393 (lv_at hl 0 rfl) ?_
        refine lv_iconst (v := 1) S.1 S.2.1 dL_law_395 (by decide) ?_
        refine lv_iadd S.1 S.2.1 dL_law_396 ?_
        obtain ⟨x182, e183, h⟩ := m_bs h
        refine m_sld S.1 S.2.1 hX hbl hbA hS e183 dL_law_397 ?_
        refine lv_aload_n S.1 S.2.1 dL_law_398 rfl (lv_at hl 4 rfl) ?_
        refine lv_iload S.1 S.2.1 dL_law_399 (lv_at hl 0 rfl) ?_
        refine lv_iconst (v := 2) S.1 S.2.1 dL_law_401 (by decide) ?_
        refine lv_iadd S.1 S.2.1 dL_law_402 ?_
        obtain ⟨x184, e185, h⟩ := m_bs h
        refine m_sld S.1 S.2.1 hX hbl hbA hS e185 dL_law_403 ?_
        obtain ⟨_, k189, h⟩ := m_bs h
        obtain ⟨x186, s187, e188, h⟩ := m_b_s h
        refine m_calli (va_runV (As := [.int x182, .int x184]) (rest := [.int x178]) S (c_X3_failed l D tc b q2 x182 x184 _ _ _ e188) (cwV 2 S.2.2.2.2 (m_wV kX3_failed (by decide +kernel)) rfl rfl rfl (by decide +kernel) ⟨by decide +kernel, by decide +kernel⟩) (m_preV hK hP (m_is_s k189) rfl) rfl rfl hl.1 rfl (lv_room (by first | decide | simp [m_rfc, m_catI, m_catL, m_catA])) dL_law_404 ⟨by show _ ≤ 601024; omega, by show _ ≤ 7293000; omega⟩) hS (fun H locs hP hS => ?_)
        refine lv_icmp_eq (tgt := 674) S.1 S.2.1 dL_law_407 (by decide) (fun c190 => ?_) (fun c190 => ?_)
        · replace h := m_t c190 h
          refine lv_iinc (v := q4 + 6) (lv' := [(4, .int (q4 + 6)), (3, .ref q3), (2, .ref q2), (1, .ref q1), (0, .ref bs)]) S.1 S.2.1 dL_law_674 hl (k := 0) rfl rfl (by decide) (by first | rfl | simp [m_rfc, m_catI, m_catL, m_catA]) (fun ls hl => ?_)
          refine lv_goto (tgt := 33) S.1 S.2.1 dL_law_677 (by decide) ?_
          exact ih (q4 + 6) q3 q2 q1 _ _ _ h rfl _ _ (by omega) (by omega) _ _ _ hP hS (lv_sub hl [0, 1, 2, 3, 4] rfl)
        · replace h := m_f c190 h
          refine lv_iconst (v := 0) S.1 S.2.1 dL_law_410 (by decide) ?_
          exact absurd (m_fin h).1 (by decide)
      replace h := m_f c173 h
      by_cases c191 : (x21 &&& 15) = 8
      · replace h := m_t c191 h
        refine lv_tableIn (tgt := 412) S.1 S.2.1 dL_law_50 (by rw [c191]; decide) (by rw [c191]; decide) (by rw [c191]; rfl) (by decide) ?_
        refine lv_aload_n S.1 S.2.1 dL_law_412 rfl (lv_at hl 3 rfl) ?_
        refine lv_aload_n S.1 S.2.1 dL_law_413 rfl (lv_at hl 4 rfl) ?_
        refine lv_iload S.1 S.2.1 dL_law_414 (lv_at hl 0 rfl) ?_
        refine lv_iconst (v := 1) S.1 S.2.1 dL_law_416 (by decide) ?_
        refine lv_iadd S.1 S.2.1 dL_law_417 ?_
        obtain ⟨x192, e193, h⟩ := m_bs h
        refine m_sld S.1 S.2.1 hX hbl hbA hS e193 dL_law_418 ?_
        obtain ⟨_, k197, h⟩ := m_bs h
        obtain ⟨l194, s195, e196, h⟩ := m_b_s h
        refine m_calll (va_runV (As := [.int x192]) (rest := []) S (c_X0_cell l D tc b q1 x192 _ _ _ e196) (cwV 1 S.2.2.2.2 (m_wV kX0_cell (by decide +kernel)) rfl rfl rfl (by decide +kernel) ⟨by decide +kernel, by decide +kernel⟩) (m_preV hK hP (m_is_s k197) rfl) rfl rfl hl.1 rfl (lv_room (by first | decide | simp [m_rfc, m_catI, m_catL, m_catA])) dL_law_419 ⟨by show _ ≤ 601024; omega, by show _ ≤ 7293000; omega⟩) hS (fun H locs hP hS => ?_)
        refine lv_aload_n S.1 S.2.1 dL_law_422 rfl (lv_at hl 2 rfl) ?_
        refine lv_aload_n S.1 S.2.1 dL_law_423 rfl (lv_at hl 4 rfl) ?_
        refine lv_iload S.1 S.2.1 dL_law_424 (lv_at hl 0 rfl) ?_
        refine lv_iconst (v := 1) S.1 S.2.1 dL_law_426 (by decide) ?_
        refine lv_iadd S.1 S.2.1 dL_law_427 ?_
        obtain ⟨x198, e199, h⟩ := m_bs h
        refine m_sld S.1 S.2.1 hX hbl hbA hS e199 dL_law_428 ?_
        obtain ⟨_, k203, h⟩ := m_bs h
        obtain ⟨l200, s201, e202, h⟩ := m_b_s h
        refine m_calll (va_runV (As := [.int x198]) (rest := [.long l194]) S (c_X3_cell l D tc b q2 x198 _ _ _ e202) (cwV 1 S.2.2.2.2 (m_wV kX3_cell (by decide +kernel)) rfl rfl rfl (by decide +kernel) ⟨by decide +kernel, by decide +kernel⟩) (m_preV hK hP (m_is_s k203) rfl) rfl rfl hl.1 rfl (lv_room (by first | decide | simp [m_rfc, m_catI, m_catL, m_catA])) dL_law_429 ⟨by show _ ≤ 601024; omega, by show _ ≤ 7293000; omega⟩) hS (fun H locs hP hS => ?_)
        refine W.lcmp S.1 S.2.1 dL_law_432 ?_
        refine lv_if_eq (tgt := 674) S.1 S.2.1 dL_law_433 (by decide) (fun c204 => ?_) (fun c204 => ?_)
        · replace h := m_t c204 h
          refine lv_iinc (v := q4 + 6) (lv' := [(4, .int (q4 + 6)), (3, .ref q3), (2, .ref q2), (1, .ref q1), (0, .ref bs)]) S.1 S.2.1 dL_law_674 hl (k := 0) rfl rfl (by decide) (by first | rfl | simp [m_rfc, m_catI, m_catL, m_catA]) (fun ls hl => ?_)
          refine lv_goto (tgt := 33) S.1 S.2.1 dL_law_677 (by decide) ?_
          exact ih (q4 + 6) q3 q2 q1 _ _ _ h rfl _ _ (by omega) (by omega) _ _ _ hP hS (lv_sub hl [0, 1, 2, 3, 4] rfl)
        · replace h := m_f c204 h
          refine lv_iconst (v := 0) S.1 S.2.1 dL_law_436 (by decide) ?_
          exact absurd (m_fin h).1 (by decide)
      replace h := m_f c191 h
      by_cases c205 : (x21 &&& 15) = 9
      · replace h := m_t c205 h
        refine lv_tableIn (tgt := 438) S.1 S.2.1 dL_law_50 (by rw [c205]; decide) (by rw [c205]; decide) (by rw [c205]; rfl) (by decide) ?_
        refine lv_aload_n S.1 S.2.1 dL_law_438 rfl (lv_at hl 3 rfl) ?_
        refine lv_aload_n S.1 S.2.1 dL_law_439 rfl (lv_at hl 4 rfl) ?_
        refine lv_iload S.1 S.2.1 dL_law_440 (lv_at hl 0 rfl) ?_
        refine lv_iconst (v := 1) S.1 S.2.1 dL_law_442 (by decide) ?_
        refine lv_iadd S.1 S.2.1 dL_law_443 ?_
        obtain ⟨x206, e207, h⟩ := m_bs h
        refine m_sld S.1 S.2.1 hX hbl hbA hS e207 dL_law_444 ?_
        refine lv_aload_n S.1 S.2.1 dL_law_445 rfl (lv_at hl 4 rfl) ?_
        refine lv_iload S.1 S.2.1 dL_law_446 (lv_at hl 0 rfl) ?_
        refine lv_iconst (v := 2) S.1 S.2.1 dL_law_448 (by decide) ?_
        refine lv_iadd S.1 S.2.1 dL_law_449 ?_
        obtain ⟨x208, e209, h⟩ := m_bs h
        refine m_sld S.1 S.2.1 hX hbl hbA hS e209 dL_law_450 ?_
        obtain ⟨_, k213, h⟩ := m_bs h
        obtain ⟨x210, s211, e212, h⟩ := m_b_s h
        refine m_calli (va_runV (As := [.int x206, .int x208]) (rest := []) S (c_X0_same l D tc b q1 x206 x208 _ _ _ e212) (cwV 2 S.2.2.2.2 (m_wV kX0_same (by decide +kernel)) rfl rfl rfl (by decide +kernel) ⟨by decide +kernel, by decide +kernel⟩) (m_preV hK hP (m_is_s k213) rfl) rfl rfl hl.1 rfl (lv_room (by first | decide | simp [m_rfc, m_catI, m_catL, m_catA])) dL_law_451 ⟨by show _ ≤ 601024; omega, by show _ ≤ 7293000; omega⟩) hS (fun H locs hP hS => ?_)
        refine lv_aload_n S.1 S.2.1 dL_law_454 rfl (lv_at hl 2 rfl) ?_
        refine lv_aload_n S.1 S.2.1 dL_law_455 rfl (lv_at hl 4 rfl) ?_
        refine lv_iload S.1 S.2.1 dL_law_456 (lv_at hl 0 rfl) ?_
        refine lv_iconst (v := 1) S.1 S.2.1 dL_law_458 (by decide) ?_
        refine lv_iadd S.1 S.2.1 dL_law_459 ?_
        obtain ⟨x214, e215, h⟩ := m_bs h
        refine m_sld S.1 S.2.1 hX hbl hbA hS e215 dL_law_460 ?_
        refine lv_aload_n S.1 S.2.1 dL_law_461 rfl (lv_at hl 4 rfl) ?_
        refine lv_iload S.1 S.2.1 dL_law_462 (lv_at hl 0 rfl) ?_
        refine lv_iconst (v := 2) S.1 S.2.1 dL_law_464 (by decide) ?_
        refine lv_iadd S.1 S.2.1 dL_law_465 ?_
        obtain ⟨x216, e217, h⟩ := m_bs h
        refine m_sld S.1 S.2.1 hX hbl hbA hS e217 dL_law_466 ?_
        obtain ⟨_, k221, h⟩ := m_bs h
        obtain ⟨x218, s219, e220, h⟩ := m_b_s h
        refine m_calli (va_runV (As := [.int x214, .int x216]) (rest := [.int x210]) S (c_X3_same l D tc b q2 x214 x216 _ _ _ e220) (cwV 2 S.2.2.2.2 (m_wV kX3_same (by decide +kernel)) rfl rfl rfl (by decide +kernel) ⟨by decide +kernel, by decide +kernel⟩) (m_preV hK hP (m_is_s k221) rfl) rfl rfl hl.1 rfl (lv_room (by first | decide | simp [m_rfc, m_catI, m_catL, m_catA])) dL_law_467 ⟨by show _ ≤ 601024; omega, by show _ ≤ 7293000; omega⟩) hS (fun H locs hP hS => ?_)
        refine lv_icmp_eq (tgt := 674) S.1 S.2.1 dL_law_470 (by decide) (fun c222 => ?_) (fun c222 => ?_)
        · replace h := m_t c222 h
          refine lv_iinc (v := q4 + 6) (lv' := [(4, .int (q4 + 6)), (3, .ref q3), (2, .ref q2), (1, .ref q1), (0, .ref bs)]) S.1 S.2.1 dL_law_674 hl (k := 0) rfl rfl (by decide) (by first | rfl | simp [m_rfc, m_catI, m_catL, m_catA]) (fun ls hl => ?_)
          refine lv_goto (tgt := 33) S.1 S.2.1 dL_law_677 (by decide) ?_
          exact ih (q4 + 6) q3 q2 q1 _ _ _ h rfl _ _ (by omega) (by omega) _ _ _ hP hS (lv_sub hl [0, 1, 2, 3, 4] rfl)
        · replace h := m_f c222 h
          refine lv_iconst (v := 0) S.1 S.2.1 dL_law_473 (by decide) ?_
          exact absurd (m_fin h).1 (by decide)
      replace h := m_f c205 h
      by_cases c223 : (x21 &&& 15) = 10
      · replace h := m_t c223 h
        refine lv_tableIn (tgt := 475) S.1 S.2.1 dL_law_50 (by rw [c223]; decide) (by rw [c223]; decide) (by rw [c223]; rfl) (by decide) ?_
        refine lv_aload_n S.1 S.2.1 dL_law_475 rfl (lv_at hl 3 rfl) ?_
        refine lv_aload_n S.1 S.2.1 dL_law_476 rfl (lv_at hl 4 rfl) ?_
        refine lv_iload S.1 S.2.1 dL_law_477 (lv_at hl 0 rfl) ?_
        refine lv_iconst (v := 1) S.1 S.2.1 dL_law_479 (by decide) ?_
        refine lv_iadd S.1 S.2.1 dL_law_480 ?_
        obtain ⟨x224, e225, h⟩ := m_bs h
        refine m_sld S.1 S.2.1 hX hbl hbA hS e225 dL_law_481 ?_
        refine lv_aload_n S.1 S.2.1 dL_law_482 rfl (lv_at hl 4 rfl) ?_
        refine lv_iload S.1 S.2.1 dL_law_483 (lv_at hl 0 rfl) ?_
        refine lv_iconst (v := 2) S.1 S.2.1 dL_law_485 (by decide) ?_
        refine lv_iadd S.1 S.2.1 dL_law_486 ?_
        obtain ⟨x226, e227, h⟩ := m_bs h
        refine m_sld S.1 S.2.1 hX hbl hbA hS e227 dL_law_487 ?_
        refine lv_i2l S.1 S.2.1 dL_law_488 rfl ?_
        refine lv_bipush (v := 32) S.1 S.2.1 dL_law_489 (by decide) ?_
        refine lv_lshl S.1 S.2.1 dL_law_491 rfl ?_
        refine lv_aload_n S.1 S.2.1 dL_law_492 rfl (lv_at hl 4 rfl) ?_
        refine lv_iload S.1 S.2.1 dL_law_493 (lv_at hl 0 rfl) ?_
        refine lv_iconst (v := 3) S.1 S.2.1 dL_law_495 (by decide) ?_
        refine lv_iadd S.1 S.2.1 dL_law_496 ?_
        obtain ⟨x228, e229, h⟩ := m_bs h
        refine m_sld S.1 S.2.1 hX hbl hbA hS e229 dL_law_497 ?_
        refine lv_i2l S.1 S.2.1 dL_law_498 rfl ?_
        refine lv_ldc2 (v := 4294967295) S.1 S.2.1 S.2.2.2.1 (S.2.2.2.2 (.constantLong RL 77 4294967295) (m_mem (by decide +kernel))) dL_law_499 ?_
        refine lv_land S.1 S.2.1 dL_law_502 ?_
        refine lv_lor S.1 S.2.1 dL_law_503 ?_
        refine lv_aload_n S.1 S.2.1 dL_law_504 rfl (lv_at hl 4 rfl) ?_
        refine lv_iload S.1 S.2.1 dL_law_505 (lv_at hl 0 rfl) ?_
        refine lv_iconst (v := 4) S.1 S.2.1 dL_law_507 (by decide) ?_
        refine lv_iadd S.1 S.2.1 dL_law_508 ?_
        obtain ⟨x230, e231, h⟩ := m_bs h
        refine m_sld S.1 S.2.1 hX hbl hbA hS e231 dL_law_509 ?_
        refine lv_i2l S.1 S.2.1 dL_law_510 rfl ?_
        refine lv_bipush (v := 32) S.1 S.2.1 dL_law_511 (by decide) ?_
        refine lv_lshl S.1 S.2.1 dL_law_513 rfl ?_
        refine lv_aload_n S.1 S.2.1 dL_law_514 rfl (lv_at hl 4 rfl) ?_
        refine lv_iload S.1 S.2.1 dL_law_515 (lv_at hl 0 rfl) ?_
        refine lv_iconst (v := 5) S.1 S.2.1 dL_law_517 (by decide) ?_
        refine lv_iadd S.1 S.2.1 dL_law_518 ?_
        obtain ⟨x232, e233, h⟩ := m_bs h
        refine m_sld S.1 S.2.1 hX hbl hbA hS e233 dL_law_519 ?_
        refine lv_i2l S.1 S.2.1 dL_law_520 rfl ?_
        refine lv_ldc2 (v := 4294967295) S.1 S.2.1 S.2.2.2.1 (S.2.2.2.2 (.constantLong RL 77 4294967295) (m_mem (by decide +kernel))) dL_law_521 ?_
        refine lv_land S.1 S.2.1 dL_law_524 ?_
        refine lv_lor S.1 S.2.1 dL_law_525 ?_
        refine lv_aload_n S.1 S.2.1 dL_law_526 rfl (lv_at hl 1 rfl) ?_
        obtain ⟨x234, s235, e236, h⟩ := m_b_s h
        refine m_calli (m_runSW (n := 5) (As := [va_rf (some q1), .int x224, .long ((((x226 : Int32).toInt64) <<< ((32 : Int32).toInt64 &&& 63)) ||| (((x228 : Int32).toInt64) &&& 4294967295)), .long ((((x230 : Int32).toInt64) <<< ((32 : Int32).toInt64 &&& 63)) ||| (((x232 : Int32).toInt64) &&& 4294967295)), va_rf (some q3)]) (rest := []) S (c_L_divide l hfl D tc b (some q1) x224 ((((x226 : Int32).toInt64) <<< ((32 : Int32).toInt64 &&& 63)) ||| (((x228 : Int32).toInt64) &&& 4294967295)) ((((x230 : Int32).toInt64) <<< ((32 : Int32).toInt64 &&& 63)) ||| (((x232 : Int32).toInt64) &&& 4294967295)) (some q3) _ _ _ e236) (by decide +kernel) (by decide +kernel) rfl rfl ⟨by decide +kernel, by decide +kernel⟩ (pay_in S.2.2.2.2 (m_wI kL_divide)) List.mem_cons_self (S.2.2.2.2 (.methodLink RL 79 yL_divide) (m_mem (by decide +kernel))) (S.2.2.2.2 (.static yL_divide) (m_mem (by decide +kernel))) (S.2.2.2.2 (.initialized RL) (m_mem (by decide +kernel))) (m_preSE hK hP hE hS) rfl rfl hl.1 rfl (lv_room (by first | decide | simp [m_rfc, m_catI, m_catL, m_catA])) dL_law_527 ⟨by show _ ≤ 601024; omega, by show _ ≤ 7293000; omega⟩) hS (fun H locs hP hS => ?_)
        refine lv_istore (i := 5) (lv' := [(5, .int x234), (4, .int q4), (3, .ref q3), (2, .ref q2), (1, .ref q1), (0, .ref bs)]) S.1 S.2.1 dL_law_530 hl (by decide) (by first | rfl | simp [m_rfc, m_catI, m_catL, m_catA]) (fun ls hl => ?_)
        refine lv_aload_n S.1 S.2.1 dL_law_532 rfl (lv_at hl 3 rfl) ?_
        refine lv_aload_n S.1 S.2.1 dL_law_533 rfl (lv_at hl 5 rfl) ?_
        refine lv_iload S.1 S.2.1 dL_law_534 (lv_at hl 1 rfl) ?_
        refine lv_iconst (v := 1) S.1 S.2.1 dL_law_536 (by decide) ?_
        refine lv_iadd S.1 S.2.1 dL_law_537 ?_
        obtain ⟨x237, e238, h⟩ := m_bs h
        refine m_sld S.1 S.2.1 hX hbl hbA hS e238 dL_law_538 ?_
        refine lv_aload_n S.1 S.2.1 dL_law_539 rfl (lv_at hl 5 rfl) ?_
        refine lv_iload S.1 S.2.1 dL_law_540 (lv_at hl 1 rfl) ?_
        refine lv_iconst (v := 2) S.1 S.2.1 dL_law_542 (by decide) ?_
        refine lv_iadd S.1 S.2.1 dL_law_543 ?_
        obtain ⟨x239, e240, h⟩ := m_bs h
        refine m_sld S.1 S.2.1 hX hbl hbA hS e240 dL_law_544 ?_
        refine lv_i2l S.1 S.2.1 dL_law_545 rfl ?_
        refine lv_bipush (v := 32) S.1 S.2.1 dL_law_546 (by decide) ?_
        refine lv_lshl S.1 S.2.1 dL_law_548 rfl ?_
        refine lv_aload_n S.1 S.2.1 dL_law_549 rfl (lv_at hl 5 rfl) ?_
        refine lv_iload S.1 S.2.1 dL_law_550 (lv_at hl 1 rfl) ?_
        refine lv_iconst (v := 3) S.1 S.2.1 dL_law_552 (by decide) ?_
        refine lv_iadd S.1 S.2.1 dL_law_553 ?_
        obtain ⟨x241, e242, h⟩ := m_bs h
        refine m_sld S.1 S.2.1 hX hbl hbA hS e242 dL_law_554 ?_
        refine lv_i2l S.1 S.2.1 dL_law_555 rfl ?_
        refine lv_ldc2 (v := 4294967295) S.1 S.2.1 S.2.2.2.1 (S.2.2.2.2 (.constantLong RL 77 4294967295) (m_mem (by decide +kernel))) dL_law_556 ?_
        refine lv_land S.1 S.2.1 dL_law_559 ?_
        refine lv_lor S.1 S.2.1 dL_law_560 ?_
        refine lv_aload_n S.1 S.2.1 dL_law_561 rfl (lv_at hl 5 rfl) ?_
        refine lv_iload S.1 S.2.1 dL_law_562 (lv_at hl 1 rfl) ?_
        refine lv_iconst (v := 4) S.1 S.2.1 dL_law_564 (by decide) ?_
        refine lv_iadd S.1 S.2.1 dL_law_565 ?_
        obtain ⟨x243, e244, h⟩ := m_bs h
        refine m_sld S.1 S.2.1 hX hbl hbA hS e244 dL_law_566 ?_
        refine lv_i2l S.1 S.2.1 dL_law_567 rfl ?_
        refine lv_bipush (v := 32) S.1 S.2.1 dL_law_568 (by decide) ?_
        refine lv_lshl S.1 S.2.1 dL_law_570 rfl ?_
        refine lv_aload_n S.1 S.2.1 dL_law_571 rfl (lv_at hl 5 rfl) ?_
        refine lv_iload S.1 S.2.1 dL_law_572 (lv_at hl 1 rfl) ?_
        refine lv_iconst (v := 5) S.1 S.2.1 dL_law_574 (by decide) ?_
        refine lv_iadd S.1 S.2.1 dL_law_575 ?_
        obtain ⟨x245, e246, h⟩ := m_bs h
        refine m_sld S.1 S.2.1 hX hbl hbA hS e246 dL_law_576 ?_
        refine lv_i2l S.1 S.2.1 dL_law_577 rfl ?_
        refine lv_ldc2 (v := 4294967295) S.1 S.2.1 S.2.2.2.1 (S.2.2.2.2 (.constantLong RL 77 4294967295) (m_mem (by decide +kernel))) dL_law_578 ?_
        refine lv_land S.1 S.2.1 dL_law_581 ?_
        refine lv_lor S.1 S.2.1 dL_law_582 ?_
        obtain ⟨_, k250, h⟩ := m_bs h
        obtain ⟨l247, s248, e249, h⟩ := m_b_s h
        refine m_calll (va_runV (As := [.int x237, .long ((((x239 : Int32).toInt64) <<< ((32 : Int32).toInt64 &&& 63)) ||| (((x241 : Int32).toInt64) &&& 4294967295)), .long ((((x243 : Int32).toInt64) <<< ((32 : Int32).toInt64 &&& 63)) ||| (((x245 : Int32).toInt64) &&& 4294967295))]) (rest := []) S (c_X3_divide l D tc b q2 x237 ((((x239 : Int32).toInt64) <<< ((32 : Int32).toInt64 &&& 63)) ||| (((x241 : Int32).toInt64) &&& 4294967295)) ((((x243 : Int32).toInt64) <<< ((32 : Int32).toInt64 &&& 63)) ||| (((x245 : Int32).toInt64) &&& 4294967295)) _ _ _ e249) (cwV 3 S.2.2.2.2 (m_wV kX3_divide (by decide +kernel)) rfl rfl rfl (by decide +kernel) ⟨by decide +kernel, by decide +kernel⟩) (m_preV hK hP (m_is_s k250) rfl) rfl rfl hl.1 rfl (lv_room (by first | decide | simp [m_rfc, m_catI, m_catL, m_catA])) dL_law_583 ⟨by show _ ≤ 601024; omega, by show _ ≤ 7293000; omega⟩) hS (fun H locs hP hS => ?_)
        refine lv_lstore (i := 6) (lv' := [(6, .long l247), (5, .int x234), (4, .int q4), (3, .ref q3), (2, .ref q2), (1, .ref q1), (0, .ref bs)]) S.1 S.2.1 dL_law_586 hl (by decide) (by first | rfl | simp [m_rfc, m_catI, m_catL, m_catA]) (fun ls hl => ?_)
        refine lv_aload_n S.1 S.2.1 dL_law_588 rfl (lv_at hl 4 rfl) ?_
        obtain ⟨_, k254, h⟩ := m_bs h
        obtain ⟨x251, s252, e253, h⟩ := m_b_s h
        refine m_calli (va_runV (As := []) (rest := []) S (c_X3_thrown l D tc b q2 _ _ _ e253) (cwV 0 S.2.2.2.2 (m_wV kX3_thrown (by decide +kernel)) rfl rfl rfl (by decide +kernel) ⟨by decide +kernel, by decide +kernel⟩) (m_preV hK hP (m_is_s k254) rfl) rfl rfl hl.1 rfl (lv_room (by first | decide | simp [m_rfc, m_catI, m_catL, m_catA])) dL_law_589 ⟨by show _ ≤ 601024; omega, by show _ ≤ 7293000; omega⟩) hS (fun H locs hP hS => ?_)
        refine lv_iload S.1 S.2.1 dL_law_592 (lv_at hl 1 rfl) ?_
        refine lv_icmp_eq (tgt := 599) S.1 S.2.1 dL_law_594 (by decide) (fun c255 => ?_) (fun c255 => ?_)
        · replace h := m_t c255 h
          refine lv_iload S.1 S.2.1 dL_law_599 (lv_at hl 1 rfl) ?_
          refine lv_if_ne (tgt := 615) S.1 S.2.1 dL_law_601 (by decide) (fun c256 => ?_) (fun c256 => ?_)
          · replace h := m_f c256 h
            refine lv_goto (tgt := 674) S.1 S.2.1 dL_law_615 (by decide) ?_
            refine lv_iinc (v := q4 + 6) (lv' := [(4, .int (q4 + 6)), (6, .long l247), (5, .int x234), (3, .ref q3), (2, .ref q2), (1, .ref q1), (0, .ref bs)]) S.1 S.2.1 dL_law_674 hl (k := 2) rfl rfl (by decide) (by first | rfl | simp [m_rfc, m_catI, m_catL, m_catA]) (fun ls hl => ?_)
            refine lv_goto (tgt := 33) S.1 S.2.1 dL_law_677 (by decide) ?_
            exact ih (q4 + 6) q3 q2 q1 _ _ _ h rfl _ _ (by omega) (by omega) _ _ _ hP hS (lv_sub hl [0, 3, 4, 5, 6] rfl)
          · replace h := m_t c256 h
            refine lv_aload_n S.1 S.2.1 dL_law_604 rfl (lv_at hl 3 rfl) ?_
            refine lv_iconst (v := 0) S.1 S.2.1 dL_law_605 (by decide) ?_
            obtain ⟨l257, e258, h⟩ := m_bs h
            refine m_lald (t := 8) S hK hP (m_aL_s e258) rfl dL_law_606 ?_
            refine lv_lload S.1 S.2.1 dL_law_607 (lv_at hl 0 rfl) ?_
            refine W.lcmp S.1 S.2.1 dL_law_609 ?_
            refine lv_if_eq (tgt := 615) S.1 S.2.1 dL_law_610 (by decide) (fun c259 => ?_) (fun c259 => ?_)
            · replace h := m_t c259 h
              refine lv_goto (tgt := 674) S.1 S.2.1 dL_law_615 (by decide) ?_
              refine lv_iinc (v := q4 + 6) (lv' := [(4, .int (q4 + 6)), (6, .long l247), (5, .int x234), (3, .ref q3), (2, .ref q2), (1, .ref q1), (0, .ref bs)]) S.1 S.2.1 dL_law_674 hl (k := 2) rfl rfl (by decide) (by first | rfl | simp [m_rfc, m_catI, m_catL, m_catA]) (fun ls hl => ?_)
              refine lv_goto (tgt := 33) S.1 S.2.1 dL_law_677 (by decide) ?_
              exact ih (q4 + 6) q3 q2 q1 _ _ _ h rfl _ _ (by omega) (by omega) _ _ _ hP hS (lv_sub hl [0, 3, 4, 5, 6] rfl)
            · replace h := m_f c259 h
              refine lv_iconst (v := 0) S.1 S.2.1 dL_law_613 (by decide) ?_
              exact absurd (m_fin h).1 (by decide)
        · replace h := m_f c255 h
          refine lv_iconst (v := 0) S.1 S.2.1 dL_law_597 (by decide) ?_
          exact absurd (m_fin h).1 (by decide)
      replace h := m_f c223 h
      by_cases c260 : (x21 &&& 15) = 11
      · replace h := m_t c260 h
        refine lv_tableIn (tgt := 618) S.1 S.2.1 dL_law_50 (by rw [c260]; decide) (by rw [c260]; decide) (by rw [c260]; rfl) (by decide) ?_
        refine lv_aload_n S.1 S.2.1 dL_law_618 rfl (lv_at hl 3 rfl) ?_
        refine lv_aload_n S.1 S.2.1 dL_law_619 rfl (lv_at hl 4 rfl) ?_
        refine lv_iload S.1 S.2.1 dL_law_620 (lv_at hl 0 rfl) ?_
        refine lv_iconst (v := 1) S.1 S.2.1 dL_law_622 (by decide) ?_
        refine lv_iadd S.1 S.2.1 dL_law_623 ?_
        obtain ⟨x261, e262, h⟩ := m_bs h
        refine m_sld S.1 S.2.1 hX hbl hbA hS e262 dL_law_624 ?_
        refine lv_aload_n S.1 S.2.1 dL_law_625 rfl (lv_at hl 1 rfl) ?_
        obtain ⟨x263, s264, e265, h⟩ := m_b_s h
        refine m_calli (m_runSW (n := 3) (As := [va_rf (some q1), .int x261, va_rf (some q3)]) (rest := []) S (c_L_handle l hfl D tc b (some q1) x261 (some q3) _ _ _ e265) (by decide +kernel) (by decide +kernel) rfl rfl ⟨by decide +kernel, by decide +kernel⟩ (pay_in S.2.2.2.2 (m_wI kL_handle)) List.mem_cons_self (S.2.2.2.2 (.methodLink RL 87 yL_handle) (m_mem (by decide +kernel))) (S.2.2.2.2 (.static yL_handle) (m_mem (by decide +kernel))) (S.2.2.2.2 (.initialized RL) (m_mem (by decide +kernel))) (m_preSE hK hP hE hS) rfl rfl hl.1 rfl (lv_room (by first | decide | simp [m_rfc, m_catI, m_catL, m_catA])) dL_law_626 ⟨by show _ ≤ 601024; omega, by show _ ≤ 7293000; omega⟩) hS (fun H locs hP hS => ?_)
        refine lv_istore (i := 5) (lv' := [(5, .int x263), (4, .int q4), (3, .ref q3), (2, .ref q2), (1, .ref q1), (0, .ref bs)]) S.1 S.2.1 dL_law_629 hl (by decide) (by first | rfl | simp [m_rfc, m_catI, m_catL, m_catA]) (fun ls hl => ?_)
        refine lv_aload_n S.1 S.2.1 dL_law_631 rfl (lv_at hl 3 rfl) ?_
        refine lv_aload_n S.1 S.2.1 dL_law_632 rfl (lv_at hl 5 rfl) ?_
        refine lv_iload S.1 S.2.1 dL_law_633 (lv_at hl 1 rfl) ?_
        refine lv_iconst (v := 1) S.1 S.2.1 dL_law_635 (by decide) ?_
        refine lv_iadd S.1 S.2.1 dL_law_636 ?_
        obtain ⟨x266, e267, h⟩ := m_bs h
        refine m_sld S.1 S.2.1 hX hbl hbA hS e267 dL_law_637 ?_
        obtain ⟨_, k271, h⟩ := m_bs h
        obtain ⟨x268, s269, e270, h⟩ := m_b_s h
        refine m_calli (va_runV (As := [.int x266]) (rest := []) S (c_X3_handle l D tc b q2 x266 _ _ _ e270) (cwV 1 S.2.2.2.2 (m_wV kX3_handle (by decide +kernel)) rfl rfl rfl (by decide +kernel) ⟨by decide +kernel, by decide +kernel⟩) (m_preV hK hP (m_is_s k271) rfl) rfl rfl hl.1 rfl (lv_room (by first | decide | simp [m_rfc, m_catI, m_catL, m_catA])) dL_law_638 ⟨by show _ ≤ 601024; omega, by show _ ≤ 7293000; omega⟩) hS (fun H locs hP hS => ?_)
        refine lv_istore (i := 6) (lv' := [(6, .int x268), (5, .int x263), (4, .int q4), (3, .ref q3), (2, .ref q2), (1, .ref q1), (0, .ref bs)]) S.1 S.2.1 dL_law_641 hl (by decide) (by first | rfl | simp [m_rfc, m_catI, m_catL, m_catA]) (fun ls hl => ?_)
        refine lv_aload_n S.1 S.2.1 dL_law_643 rfl (lv_at hl 4 rfl) ?_
        obtain ⟨_, k275, h⟩ := m_bs h
        obtain ⟨x272, s273, e274, h⟩ := m_b_s h
        refine m_calli (va_runV (As := []) (rest := []) S (c_X3_thrown l D tc b q2 _ _ _ e274) (cwV 0 S.2.2.2.2 (m_wV kX3_thrown (by decide +kernel)) rfl rfl rfl (by decide +kernel) ⟨by decide +kernel, by decide +kernel⟩) (m_preV hK hP (m_is_s k275) rfl) rfl rfl hl.1 rfl (lv_room (by first | decide | simp [m_rfc, m_catI, m_catL, m_catA])) dL_law_644 ⟨by show _ ≤ 601024; omega, by show _ ≤ 7293000; omega⟩) hS (fun H locs hP hS => ?_)
        refine lv_iload S.1 S.2.1 dL_law_647 (lv_at hl 1 rfl) ?_
        refine lv_icmp_eq (tgt := 654) S.1 S.2.1 dL_law_649 (by decide) (fun c276 => ?_) (fun c276 => ?_)
        · replace h := m_t c276 h
          refine lv_iload S.1 S.2.1 dL_law_654 (lv_at hl 1 rfl) ?_
          refine lv_if_ne (tgt := 671) S.1 S.2.1 dL_law_656 (by decide) (fun c277 => ?_) (fun c277 => ?_)
          · replace h := m_f c277 h
            refine lv_goto (tgt := 674) S.1 S.2.1 dL_law_671 (by decide) ?_
            refine lv_iinc (v := q4 + 6) (lv' := [(4, .int (q4 + 6)), (6, .int x268), (5, .int x263), (3, .ref q3), (2, .ref q2), (1, .ref q1), (0, .ref bs)]) S.1 S.2.1 dL_law_674 hl (k := 2) rfl rfl (by decide) (by first | rfl | simp [m_rfc, m_catI, m_catL, m_catA]) (fun ls hl => ?_)
            refine lv_goto (tgt := 33) S.1 S.2.1 dL_law_677 (by decide) ?_
            exact ih (q4 + 6) q3 q2 q1 _ _ _ h rfl _ _ (by omega) (by omega) _ _ _ hP hS (lv_sub hl [0, 3, 4, 5, 6] rfl)
          · replace h := m_t c277 h
            refine lv_aload_n S.1 S.2.1 dL_law_659 rfl (lv_at hl 3 rfl) ?_
            refine lv_iconst (v := 0) S.1 S.2.1 dL_law_660 (by decide) ?_
            obtain ⟨l278, e279, h⟩ := m_bs h
            refine m_lald (t := 8) S hK hP (m_aL_s e279) rfl dL_law_661 ?_
            refine lv_iload S.1 S.2.1 dL_law_662 (lv_at hl 0 rfl) ?_
            refine lv_i2l S.1 S.2.1 dL_law_664 rfl ?_
            refine W.lcmp S.1 S.2.1 dL_law_665 ?_
            refine lv_if_eq (tgt := 671) S.1 S.2.1 dL_law_666 (by decide) (fun c280 => ?_) (fun c280 => ?_)
            · replace h := m_t c280 h
              refine lv_goto (tgt := 674) S.1 S.2.1 dL_law_671 (by decide) ?_
              refine lv_iinc (v := q4 + 6) (lv' := [(4, .int (q4 + 6)), (6, .int x268), (5, .int x263), (3, .ref q3), (2, .ref q2), (1, .ref q1), (0, .ref bs)]) S.1 S.2.1 dL_law_674 hl (k := 2) rfl rfl (by decide) (by first | rfl | simp [m_rfc, m_catI, m_catL, m_catA]) (fun ls hl => ?_)
              refine lv_goto (tgt := 33) S.1 S.2.1 dL_law_677 (by decide) ?_
              exact ih (q4 + 6) q3 q2 q1 _ _ _ h rfl _ _ (by omega) (by omega) _ _ _ hP hS (lv_sub hl [0, 3, 4, 5, 6] rfl)
            · replace h := m_f c280 h
              refine lv_iconst (v := 0) S.1 S.2.1 dL_law_669 (by decide) ?_
              exact absurd (m_fin h).1 (by decide)
        · replace h := m_f c276 h
          refine lv_iconst (v := 0) S.1 S.2.1 dL_law_652 (by decide) ?_
          exact absurd (m_fin h).1 (by decide)
      replace h := m_f c260 h
      have nc260 := (⟨lv_neT (a := 0) c23 (by decide), lv_neT (a := 1) c73 (by decide), lv_neT (a := 2) c87 (by decide), lv_neT (a := 3) c109 (by decide), lv_neT (a := 4) c123 (by decide), lv_neT (a := 5) c137 (by decide), lv_neT (a := 6) c155 (by decide), lv_neT (a := 7) c173 (by decide), lv_neT (a := 8) c191 (by decide), lv_neT (a := 9) c205 (by decide), lv_neT (a := 10) c223 (by decide), lv_neT (a := 11) c260 (by decide)⟩ : ¬ ((x21 &&& 15)).toInt = 0 ∧ ¬ ((x21 &&& 15)).toInt = 1 ∧ ¬ ((x21 &&& 15)).toInt = 2 ∧ ¬ ((x21 &&& 15)).toInt = 3 ∧ ¬ ((x21 &&& 15)).toInt = 4 ∧ ¬ ((x21 &&& 15)).toInt = 5 ∧ ¬ ((x21 &&& 15)).toInt = 6 ∧ ¬ ((x21 &&& 15)).toInt = 7 ∧ ¬ ((x21 &&& 15)).toInt = 8 ∧ ¬ ((x21 &&& 15)).toInt = 9 ∧ ¬ ((x21 &&& 15)).toInt = 10 ∧ ¬ ((x21 &&& 15)).toInt = 11)
      refine lv_tableOut (tgt := 674) S.1 S.2.1 dL_law_50 (by omega) (by decide) ?_
      refine lv_iinc (v := q4 + 6) (lv' := [(4, .int (q4 + 6)), (3, .ref q3), (2, .ref q2), (1, .ref q1), (0, .ref bs)]) S.1 S.2.1 dL_law_674 hl (k := 0) rfl rfl (by decide) (by first | rfl | simp [m_rfc, m_catI, m_catL, m_catA]) (fun ls hl => ?_)
      refine lv_goto (tgt := 33) S.1 S.2.1 dL_law_677 (by decide) ?_
      exact ih (q4 + 6) q3 q2 q1 _ _ _ h rfl _ _ (by omega) (by omega) _ _ _ hP hS (lv_sub hl [0, 1, 2, 3, 4] rfl)
set_option maxHeartbeats 8000000 in
set_option maxRecDepth 100000 in
theorem w_L_law {p : Program} {l : Launch} (hfl : l.stackTraces = false) {e : Env} {s : State} {m : MethodId} {below : List Frame} {meth : Method} {c : Code} {w0 : Cond} {bs L b : Nat} {xs : Nat → Int32} (D : va_G) (tc : Nat → ClassId) (S : CallFix p m c code 8 s #[Value.ref bs] (w0 :: m_tbl) RL) (hr : meth.sig.returnType = ret) (hlk : meth.locks = false) (hK : va_K D vwCl (m_tys tc) s) (hX : va_X bs L xs s s.heap) (hbl : bs < s.heap.size) (hbA : ¬ m_A b bs) (hbs : s.heap.size = b) (hE : m_E b s) (s0 st' : MS) (h : f_L_law L xs s0 = some (1, st')) (ls : Array Slot) (hP : mw D vwCl (m_tys tc) b s0 s.heap) (hl : lv_has ls 8 [(0, .ref bs)]) : W p l e room_1 s m #[Value.ref bs] below meth c s.heap [] 0 0 (lw_Z below #[Value.ref bs] s) (F0 m 0 ls []) := by
  have hS : va_S (m_A b) s.heap s.heap [] := va_S.rf
  unfold f_L_law at h
  obtain ⟨a1, s2, e3, h⟩ := m_nw_s h
  refine m_new (ci := 0) S (inX0 _) tyX0 tX0 (S.2.2.2.2 (.classLink RL 8 RX0) (m_mem (by decide +kernel))) (S.2.2.2.2 (.instantiable RX0 10) (m_mem (by decide +kernel))) (S.2.2.2.2 (.initialized RX0) (m_mem (by decide +kernel))) hK hP hS rfl e3 (by show _ ≤ 601024; omega) (by show _ ≤ 7293000; omega) dL_law_0 (fun H hP hS => ?_)
  refine lv_dup S.1 S.2.1 dL_law_3 rfl ?_
  refine lv_aload_n S.1 S.2.1 dL_law_4 rfl (lv_at hl 0 rfl) ?_
  refine lv_iconst (v := 0) S.1 S.2.1 dL_law_5 (by decide) ?_
  obtain ⟨x4, e5, h⟩ := m_bs h
  refine m_lcell S hX hbl hbA hS e5 hl.1 (by first | decide | simp [m_rfc, m_catI, m_catL, m_catA]) (by omega) (by omega) dL_law_6 ?_
  obtain ⟨u6, s7, e8, h⟩ := m_b_s h
  refine m_callv (va_runI (As := [.int x4]) (rest := [.ref a1]) S (c_X0_init l D tc b a1 x4 _ _ _ e8) (cwI 1 S.2.2.2.2 (m_wI kX0_init) rfl rfl rfl (S.2.2.2.2 (.initialized RX0) (m_mem (by decide +kernel))) (S.2.2.2.2 (.methodLink RL 27 yX0_init) (m_mem (by decide +kernel))) (S.2.2.2.2 (.instanceMethod yX0_init) (m_mem (by decide +kernel))) rfl (by decide +kernel) ⟨by decide +kernel, by decide +kernel⟩) (m_preSE hK hP hE hS) rfl rfl hl.1 rfl (lv_room (by first | decide | simp [m_rfc, m_catI, m_catL, m_catA])) dL_law_9 ⟨by show _ ≤ 601024; omega, by show _ ≤ 7293000; omega⟩) hS (fun H locs hP hS => ?_)
  refine lv_astore_n (i := 1) (lv' := [(1, .ref a1), (0, .ref bs)]) S.1 S.2.1 dL_law_12 rfl hl (by decide) (by first | rfl | simp [m_rfc, m_catI, m_catL, m_catA]) (fun ls hl => ?_)
  obtain ⟨a9, s10, e11, h⟩ := m_nw_s h
  refine m_new (ci := 3) S (inX3 _) tyX3 tX3 (S.2.2.2.2 (.classLink RL 30 RX3) (m_mem (by decide +kernel))) (S.2.2.2.2 (.instantiable RX3 25) (m_mem (by decide +kernel))) (S.2.2.2.2 (.initialized RX3) (m_mem (by decide +kernel))) hK hP hS rfl e11 (by show _ ≤ 601024; omega) (by show _ ≤ 7293000; omega) dL_law_13 (fun H hP hS => ?_)
  refine lv_dup S.1 S.2.1 dL_law_16 rfl ?_
  refine lv_aload_n S.1 S.2.1 dL_law_17 rfl (lv_at hl 1 rfl) ?_
  refine lv_iconst (v := 0) S.1 S.2.1 dL_law_18 (by decide) ?_
  obtain ⟨x12, e13, h⟩ := m_bs h
  refine m_lcell S hX hbl hbA hS e13 hl.1 (by first | decide | simp [m_rfc, m_catI, m_catL, m_catA]) (by omega) (by omega) dL_law_19 ?_
  obtain ⟨u14, s15, e16, h⟩ := m_b_s h
  refine m_callv (va_runI (As := [.int x12]) (rest := [.ref a9]) S (c_X3_init l D tc b a9 x12 _ _ _ e16) (cwI 1 S.2.2.2.2 (m_wI kX3_init) rfl rfl rfl (S.2.2.2.2 (.initialized RX3) (m_mem (by decide +kernel))) (S.2.2.2.2 (.methodLink RL 32 yX3_init) (m_mem (by decide +kernel))) (S.2.2.2.2 (.instanceMethod yX3_init) (m_mem (by decide +kernel))) rfl (by decide +kernel) ⟨by decide +kernel, by decide +kernel⟩) (m_preS hK hP) rfl rfl hl.1 rfl (lv_room (by first | decide | simp [m_rfc, m_catI, m_catL, m_catA])) dL_law_22 ⟨by show _ ≤ 601024; omega, by show _ ≤ 7293000; omega⟩) hS (fun H locs hP hS => ?_)
  refine lv_astore_n (i := 2) (lv' := [(2, .ref a9), (1, .ref a1), (0, .ref bs)]) S.1 S.2.1 dL_law_25 rfl hl (by decide) (by first | rfl | simp [m_rfc, m_catI, m_catL, m_catA]) (fun ls hl => ?_)
  refine lv_iconst (v := 1) S.1 S.2.1 dL_law_26 (by decide) ?_
  obtain ⟨a17, s18, e19, h⟩ := m_nw_s h
  refine m_newa (t := 8) (N := 1) (i := 1) (atype := .long) (ty := .long) (cA := tc 8) S (S.2.2.2.2 (.arrayClass .long) (m_mem (by decide +kernel))) rfl hK hP hS rfl (by decide +kernel) (by decide +kernel) (by decide +kernel) (by decide +kernel) (by decide +kernel) e19 dL_law_27 (fun H hP hS => ?_)
  refine lv_astore_n (i := 3) (lv' := [(3, .ref a17), (2, .ref a9), (1, .ref a1), (0, .ref bs)]) S.1 S.2.1 dL_law_29 rfl hl (by decide) (by first | rfl | simp [m_rfc, m_catI, m_catL, m_catA]) (fun ls hl => ?_)
  refine lv_iconst (v := 1) S.1 S.2.1 dL_law_30 (by decide) ?_
  refine lv_istore (i := 4) (lv' := [(4, .int 1), (3, .ref a17), (2, .ref a9), (1, .ref a1), (0, .ref bs)]) S.1 S.2.1 dL_law_31 hl (by decide) (by first | rfl | simp [m_rfc, m_catI, m_catL, m_catA]) (fun ls hl => ?_)
  exact w_L_law_L33 hfl D tc S hr hlk hK hX hbl hbA hbs hE 513 1 a17 a9 a1 _ _ _ h rfl _ _ (by omega) (by omega) _ _ _ hP hS (lv_sub hl [0, 1, 2, 3, 4] rfl)
end
section
/-! ===== the picture: what lies where, and the numbers that it holds ===== -/
abbrev GR : Type := Nat × Nat × (Nat → Nat × Nat) × (Nat × (Nat → Nat) × (Nat → Nat)) × (Nat × (Nat → Nat) × (Nat → Nat))
/-- heap size n, first address h, what lies at an address, rules (how many, first rule of the same class, address of the class), targets (how many, rule, address) -/
def gd_ok (n h : Nat) (own : Nat → Nat × Nat) (nr : Nat) (cr ac : Nat → Nat) (nt : Nat) (rl ta : Nat → Nat) : Prop :=
  (own h = (0, 0) ∧ own (h + 1) = (1, 0) ∧ own (h + 2) = (2, 0) ∧ own (h + 3) = (3, 0) ∧ own (h + 4) = (4, 0) ∧ own (h + 24) = (6, 0)) ∧
  (∀ i, i < 19 → own (h + 5 + i) = (5, i)) ∧
  (∀ r, r < nr → own (ac (cr r)) = (7, cr r)) ∧
  (∀ t, t < nt → own (ta t) = (8, t) ∧ own (ta t + 1) = (9, t) ∧ own (ta t + 2) = (10, t) ∧ own (ta t + 3) = (11, t)) ∧
  (∀ a b, own a = own b → (own a).1 < 12 → a = b) ∧
  (∀ a, n ≤ a → own a = (12, 0)) ∧
  (∀ a, (own a).1 = 7 → (own a).2 < nr) ∧
  (∀ a, 8 ≤ (own a).1 → (own a).1 < 12 → (own a).2 < nt) ∧
  (∀ t, t < nt → rl t < nr) ∧ (∀ r, r < nr → cr r ≤ r) ∧ nr ≤ 16 ∧ nt ≤ 40
abbrev GE : Type := { x : GR // gd_ok x.1 x.2.1 x.2.2.1 x.2.2.2.1.1 x.2.2.2.1.2.1 x.2.2.2.1.2.2 x.2.2.2.2.1 x.2.2.2.2.2.1 x.2.2.2.2.2.2 }
def g_n (e : GE) : Nat := e.1.1
def g_h (e : GE) : Nat := e.1.2.1
def g_own (e : GE) : Nat → Nat × Nat := e.1.2.2.1
def g_nr (e : GE) : Nat := e.1.2.2.2.1.1
def g_cr (e : GE) : Nat → Nat := e.1.2.2.2.1.2.1
def g_ac (e : GE) : Nat → Nat := e.1.2.2.2.1.2.2
def g_nt (e : GE) : Nat := e.1.2.2.2.2.1
def g_rl (e : GE) : Nat → Nat := e.1.2.2.2.2.2.1
def g_ta (e : GE) : Nat → Nat := e.1.2.2.2.2.2.2
/-- the address of a rule's class -/
def g_ca (e : GE) (r : Nat) : Nat := g_ac e (g_cr e r)
/-- the reference's arrays; number 6 is the reference itself -/
def g_ar (e : GE) (k : Nat) : Nat := g_h e + 5 + (k - 6)
theorem g_ok (e : GE) : gd_ok (g_n e) (g_h e) (g_own e) (g_nr e) (g_cr e) (g_ac e) (g_nt e) (g_rl e) (g_ta e) := e.2
theorem o_h (e : GE) : g_own e (g_h e) = (0, 0) := (g_ok e).1.1
theorem o_h1 (e : GE) : g_own e (g_h e + 1) = (1, 0) := (g_ok e).1.2.1
theorem o_h2 (e : GE) : g_own e (g_h e + 2) = (2, 0) := (g_ok e).1.2.2.1
theorem o_h3 (e : GE) : g_own e (g_h e + 3) = (3, 0) := (g_ok e).1.2.2.2.1
theorem o_h4 (e : GE) : g_own e (g_h e + 4) = (4, 0) := (g_ok e).1.2.2.2.2.1
theorem o_h24 (e : GE) : g_own e (g_h e + 24) = (6, 0) := (g_ok e).1.2.2.2.2.2
theorem o_ar (e : GE) (k : Nat) (h : k - 6 < 19) : g_own e (g_ar e k) = (5, k - 6) := (g_ok e).2.1 _ h
theorem o_ca (e : GE) {r : Nat} (h : r < g_nr e) : g_own e (g_ca e r) = (7, g_cr e r) := (g_ok e).2.2.1 r h
theorem o_ta (e : GE) {t : Nat} (h : t < g_nt e) : g_own e (g_ta e t) = (8, t) := ((g_ok e).2.2.2.1 t h).1
theorem o_ta1 (e : GE) {t : Nat} (h : t < g_nt e) : g_own e (g_ta e t + 1) = (9, t) := ((g_ok e).2.2.2.1 t h).2.1
theorem o_ta2 (e : GE) {t : Nat} (h : t < g_nt e) : g_own e (g_ta e t + 2) = (10, t) := ((g_ok e).2.2.2.1 t h).2.2.1
theorem o_ta3 (e : GE) {t : Nat} (h : t < g_nt e) : g_own e (g_ta e t + 3) = (11, t) := ((g_ok e).2.2.2.1 t h).2.2.2
theorem o_inj (e : GE) {a b : Nat} (h : g_own e a = g_own e b) (h1 : (g_own e a).1 < 12) : a = b := (g_ok e).2.2.2.2.1 a b h h1
theorem g_nr16 (e : GE) : g_nr e ≤ 16 := (g_ok e).2.2.2.2.2.2.2.2.2.2.1
theorem g_nt40 (e : GE) : g_nt e ≤ 40 := (g_ok e).2.2.2.2.2.2.2.2.2.2.2
theorem g_rlr (e : GE) {t : Nat} (h : t < g_nt e) : g_rl e t < g_nr e := (g_ok e).2.2.2.2.2.2.2.2.1 t h
theorem g_crr (e : GE) {r : Nat} (h : r < g_nr e) : g_cr e r ≤ r := (g_ok e).2.2.2.2.2.2.2.2.2.1 r h
def kM (i : Nat) : Nat × Nat := match i with
  | 1 => (5, 16) | 2 => (5, 16) | 3 => (5, 16) | 4 => (6, 16) | 5 => (7, 16) | 6 => (5, 40) | 7 => (5, 160)
  | 14 => (5, 120) | 15 => (6, 40) | 16 => (6, 120) | 17 => (5, 400) | 18 => (5, 400) | _ => (5, 40)
def KV (q : Nat × Nat) : Option (Nat ⊕ (Nat × Nat)) := match q.1 with
  | 0 => some (.inl 0)
  | 1 => some (.inr (3, 16))
  | 2 => some (.inr (4, 40))
  | 3 => some (.inr (1, 400))
  | 4 => some (.inr (1, 400))
  | 5 => if q.2 = 0 then some (.inl 3) else some (.inr (kM q.2))
  | 6 => some (.inr (8, 1))
  | 7 => some (.inl 1)
  | 8 => some (.inl 2)
  | 9 => some (.inr (1, 4))
  | 10 => some (.inr (1, 3))
  | 11 => some (.inr (2, 3))
  | _ => none
abbrev FN : Type := Nat → Nat → Int32
abbrev GN : Type := Nat → Nat → Int64
abbrev CS : Type := FN × GN
def up {α : Type} (F : Nat → Nat → α) (k i : Nat) (v : α) : Nat → Nat → α := fun k' i' => if k' = k ∧ i' = i then v else F k' i'
def uc (c : CS) (k i : Nat) (v : Int32) : CS := (up c.1 k i v, c.2)
def ug (c : CS) (k i : Nat) (v : Int64) : CS := (c.1, up c.2 k i v)
/-- where the class's ints stand in its picture -/
def locC (q : Nat × Nat) (j : Nat) : Option (Nat × Nat) := match q.1 with
  | 0 => if q.2 = 0 then (match j with | 0 => some (1, 0) | 2 => some (2, 0) | 3 => some (3, 0) | 5 => some (4, 0) | 8 => some (5, 0) | 9 => some (6, 0) | _ => none) else none
  | 3 => if q.2 = 0 then some (23, j) else none
  | 4 => if q.2 = 0 then some (24, j) else none
  | 7 => (match j with | 0 => some (7, q.2) | 1 => some (8, q.2) | 2 => some (10, q.2) | 3 => some (30, q.2) | 4 => some (31, q.2) | _ => none)
  | 8 => (match j with | 5 => some (21, q.2) | 6 => some (33, q.2) | 7 => some (18, q.2) | 8 => some (17, q.2) | 9 => some (14, q.2) | 10 => some (15, q.2) | 11 => some (32, q.2) | _ => none)
  | 9 => if j < 4 then some (13, 4 * q.2 + j) else none
  | 10 => if j < 3 then some (20, 3 * q.2 + j) else none
  | 11 => if j < 3 then some (22, 3 * q.2 + j) else none
  | _ => none
def invC (p : Nat × Nat) : (Nat × Nat) × Nat := match p.1 with
  | 1 => ((0, 0), 0) | 2 => ((0, 0), 2) | 3 => ((0, 0), 3) | 4 => ((0, 0), 5) | 5 => ((0, 0), 8) | 6 => ((0, 0), 9)
  | 23 => ((3, 0), p.2) | 24 => ((4, 0), p.2)
  | 7 => ((7, p.2), 0) | 8 => ((7, p.2), 1) | 10 => ((7, p.2), 2) | 30 => ((7, p.2), 3) | 31 => ((7, p.2), 4)
  | 21 => ((8, p.2), 5) | 33 => ((8, p.2), 6) | 18 => ((8, p.2), 7) | 17 => ((8, p.2), 8) | 14 => ((8, p.2), 9) | 15 => ((8, p.2), 10) | 32 => ((8, p.2), 11)
  | 13 => ((9, p.2 / 4), p.2 % 4) | 20 => ((10, p.2 / 3), p.2 % 3) | 22 => ((11, p.2 / 3), p.2 % 3)
  | _ => ((0, 0), 0)
def locM (q : Nat × Nat) (j : Nat) : Option (Nat × Nat) := if q.1 = 5 then (if q.2 = 0 then (if j < 7 then some (j, 0) else none) else if q.2 = 5 then none else if q.2 < 19 then some (q.2 + 6, j) else none) else none
def invM (p : Nat × Nat) : (Nat × Nat) × Nat := if p.1 < 7 then ((5, 0), p.1) else ((5, p.1 - 6), p.2)
def locG (q : Nat × Nat) (j : Nat) : Option (Nat × Nat) := if q.1 = 7 then (if j = 5 then some (0, q.2) else none) else if q.1 = 6 then (if q.2 = 0 then some (1, j) else none) else none
def invG (p : Nat × Nat) : (Nat × Nat) × Nat := if p.1 = 0 then ((7, p.2), 5) else ((6, 0), p.2)
def locH (q : Nat × Nat) (j : Nat) : Option (Nat × Nat) := if q.1 = 5 then (if q.2 = 5 then some (0, j) else none) else none
def invH (p : Nat × Nat) : (Nat × Nat) × Nat := ((5, 5), p.2)
/-- what is no number that changes -/
def vR (e : GE) (q : Nat × Nat) (j : Nat) : Value := match q.1 with
  | 0 => (match j with | 1 => .ref (g_h e + 1) | 4 => .ref (g_h e + 2) | 6 => .ref (g_h e + 3) | 7 => .ref (g_h e + 4) | _ => defaultValue (tyX0 j))
  | 1 => if j < g_nr e then .ref (g_ca e j) else .null
  | 2 => if j < g_nt e then .ref (g_ta e j) else .null
  | 5 => if 7 ≤ j ∧ j < 25 then .ref (g_ar e j) else defaultValue (tyX3 j)
  | 7 => defaultValue (tyX1 j)
  | 8 => (match j with | 0 => .int (nI q.2) | 1 => .ref (g_ca e (g_rl e q.2)) | 2 => .ref (g_ta e q.2 + 1) | 3 => .ref (g_ta e q.2 + 2) | 4 => .ref (g_ta e q.2 + 3) | _ => defaultValue (tyX2 j))
  | 9 => .int 0
  | 10 => .int 0
  | 11 => .int 0
  | _ => .null
def VV (e : GE) (c m : CS) (q : Nat × Nat) (j : Nat) : Value := match locC q j with
  | some p => .int (c.1 p.1 p.2)
  | none => match locM q j with
    | some p => .int (m.1 p.1 p.2)
    | none => match locG q j with
      | some p => .long (c.2 p.1 p.2)
      | none => match locH q j with
        | some p => .long (m.2 p.1 p.2)
        | none => vR e q j
def WW (e : GE) (c m : CS) : MS := (g_n e, fun a => KV (g_own e a), fun a j => VV e c m (g_own e a) j)
theorem invC_s {q : Nat × Nat} {j : Nat} {p : Nat × Nat} (h : locC q j = some p) : invC p = (q, j) := by
  obtain ⟨a, i⟩ := q
  unfold locC at h
  split at h
  · rename_i h0
    simp only at h0 h
    subst h0
    split at h
    · rename_i h1
      subst h1
      split at h <;> first | (cases h; rfl) | cases h
    · cases h
  · rename_i h0
    simp only at h0 h
    subst h0
    split at h
    · rename_i h1
      subst h1
      cases h; rfl
    · cases h
  · rename_i h0
    simp only at h0 h
    subst h0
    split at h
    · rename_i h1
      subst h1
      cases h; rfl
    · cases h
  · rename_i h0
    simp only at h0 h
    subst h0
    split at h <;> first | (cases h; rfl) | cases h
  · rename_i h0
    simp only at h0 h
    subst h0
    split at h <;> first | (cases h; rfl) | cases h
  · rename_i h0
    simp only at h0 h
    subst h0
    split at h
    · cases h
      show ((9, (4 * i + j) / 4), (4 * i + j) % 4) = _
      rw [show (4 * i + j) / 4 = i by omega, show (4 * i + j) % 4 = j by omega]
    · cases h
  · rename_i h0
    simp only at h0 h
    subst h0
    split at h
    · cases h
      show ((10, (3 * i + j) / 3), (3 * i + j) % 3) = _
      rw [show (3 * i + j) / 3 = i by omega, show (3 * i + j) % 3 = j by omega]
    · cases h
  · rename_i h0
    simp only at h0 h
    subst h0
    split at h
    · cases h
      show ((11, (3 * i + j) / 3), (3 * i + j) % 3) = _
      rw [show (3 * i + j) / 3 = i by omega, show (3 * i + j) % 3 = j by omega]
    · cases h
  · cases h
theorem invM_s {q : Nat × Nat} {j : Nat} {p : Nat × Nat} (h : locM q j = some p) : invM p = (q, j) := by
  obtain ⟨a, i⟩ := q
  unfold locM at h
  simp only at h
  split at h
  · rename_i h0
    subst h0
    split at h
    · rename_i h1
      subst h1
      split at h
      · rename_i h2
        cases h
        simp [invM, h2]
      · cases h
    · split at h
      · cases h
      · split at h
        · cases h
          have : ¬ i + 6 < 7 := by omega
          simp [invM, this]
        · cases h
  · cases h
theorem invG_s {q : Nat × Nat} {j : Nat} {p : Nat × Nat} (h : locG q j = some p) : invG p = (q, j) := by
  obtain ⟨a, i⟩ := q
  unfold locG at h
  simp only at h
  split at h
  · rename_i h0
    subst h0
    split at h
    · rename_i h1
      subst h1
      cases h; rfl
    · cases h
  · split at h
    · rename_i h0
      subst h0
      split at h
      · rename_i h1
        subst h1
        cases h; rfl
      · cases h
    · cases h
theorem invH_s {q : Nat × Nat} {j : Nat} {p : Nat × Nat} (h : locH q j = some p) : invH p = (q, j) := by
  obtain ⟨a, i⟩ := q
  unfold locH at h
  simp only at h
  split at h
  · rename_i h0
    subst h0
    split at h
    · rename_i h1
      subst h1
      cases h; rfl
    · cases h
  · cases h
section PIC
variable {e : GE} {c m : CS} {a ci k t n j : Nat} {q : Nat × Nat}
theorem rd_gI {x : Int32} (hq : g_own e a = q) (hk : KV q = some (.inl ci)) (hv : VV e c m q k = .int x) : m_gI (WW e c m) ci a k = some x := by
  subst hq
  unfold m_gI WW
  simp only [hk, hv, if_true]
theorem rd_gL {x : Int64} (hq : g_own e a = q) (hk : KV q = some (.inl ci)) (hv : VV e c m q k = .long x) : m_gL (WW e c m) ci a k = some x := by
  subst hq
  unfold m_gL WW
  simp only [hk, hv, if_true]
theorem rd_gR {x : Nat} (hq : g_own e a = q) (hk : KV q = some (.inl ci)) (hv : VV e c m q k = .ref x) : m_gR (WW e c m) ci a k = some (some x) := by
  subst hq
  unfold m_gR WW
  simp only [hk, hv, if_true]
theorem rd_is (hq : g_own e a = q) (hk : KV q = some (.inl ci)) : m_is (WW e c m) ci a = some () := by
  subst hq
  unfold m_is WW
  simp only [hk, if_true]
theorem rd_ix (hq : g_own e a = q) (hk : KV q = some (.inr (t, n))) (hn : n < 2 ^ 31) (hj : j < n) : m_ix (WW e c m) t a (nI j) = some j := by
  subst hq
  have h0 : (nI j).toNatClampNeg = j := nI_clamp (by omega)
  have h1 : 0 ≤ nI j := nI_pos' (by omega)
  unfold m_ix m_ln WW
  simp only [hk, if_true, Option.bind_some, h0, h1, hj, and_self]
theorem rd_aI {x : Int32} (hq : g_own e a = q) (hk : KV q = some (.inr (t, n))) (hn : n < 2 ^ 31) (hj : j < n) (hv : VV e c m q j = .int x) : m_aI (WW e c m) t a (nI j) = some x := by
  unfold m_aI
  rw [rd_ix hq hk hn hj]
  subst hq
  simp only [Option.bind_some, WW, hv]
theorem rd_aL {x : Int64} (hq : g_own e a = q) (hk : KV q = some (.inr (t, n))) (hn : n < 2 ^ 31) (hj : j < n) (hv : VV e c m q j = .long x) : m_aL (WW e c m) t a (nI j) = some x := by
  unfold m_aL
  rw [rd_ix hq hk hn hj]
  subst hq
  simp only [Option.bind_some, WW, hv]
theorem rd_aR {x : Nat} (hq : g_own e a = q) (hk : KV q = some (.inr (t, n))) (hn : n < 2 ^ 31) (hj : j < n) (hv : VV e c m q j = .ref x) : m_aR (WW e c m) t a (nI j) = some (some x) := by
  unfold m_aR
  rw [rd_ix hq hk hn hj]
  subst hq
  simp only [Option.bind_some, WW, hv]
theorem m_upW {v : Value} {c' m' : CS} (hq : g_own e a = q) (h12 : q.1 < 12) (h0 : VV e c' m' q k = v) (h1 : ∀ q' j', ¬ (q' = q ∧ j' = k) → VV e c' m' q' j' = VV e c m q' j') : ((WW e c m).1, (WW e c m).2.1, m_up (WW e c m).2.2 a k v) = WW e c' m' := by
  unfold WW
  refine Prod.ext rfl (Prod.ext rfl ?_)
  funext b j
  show (if b = a ∧ j = k then v else VV e c m (g_own e b) j) = VV e c' m' (g_own e b) j
  split
  · rename_i h
    rw [h.1, h.2, hq]
    exact h0.symm
  · rename_i h
    refine (h1 _ _ (fun h2 => h ⟨?_, h2.2⟩)).symm
    exact o_inj e (h2.1.trans hq.symm) (by rw [h2.1]; exact h12)
theorem kv12 {x : Nat ⊕ (Nat × Nat)} (h : KV q = some x) : q.1 < 12 := by
  unfold KV at h
  split at h <;> first | omega | cases h
theorem wr_p {v : Value} {c' m' : CS} (hq : g_own e a = q) (hk : KV q = some (.inl ci)) (h0 : VV e c' m' q k = v) (h1 : ∀ q' j', ¬ (q' = q ∧ j' = k) → VV e c' m' q' j' = VV e c m q' j') : m_p (WW e c m) ci a k v = some (WW e c' m') := by
  have h2 : (WW e c m).2.1 a = some (.inl ci) := by
    show KV (g_own e a) = _
    rw [hq]; exact hk
  unfold m_p
  rw [if_pos h2, m_upW hq (kv12 hk) h0 h1]
theorem wr_ap {v : Value} {c' m' : CS} (hq : g_own e a = q) (hk : KV q = some (.inr (t, n))) (hn : n < 2 ^ 31) (hj : j < n) (h0 : VV e c' m' q j = v) (h1 : ∀ q' j', ¬ (q' = q ∧ j' = j) → VV e c' m' q' j' = VV e c m q' j') : m_ap (WW e c m) t a (nI j) v = some (WW e c' m') := by
  unfold m_ap
  rw [rd_ix hq hk hn hj]
  simp only [Option.bind_some]
  rw [m_upW hq (kv12 hk) h0 h1]
theorem vv_C {s i : Nat} {x : Int32} (hl : locC q k = some (s, i)) : VV e (uc c s i x) m q k = .int x ∧ ∀ q' j', ¬ (q' = q ∧ j' = k) → VV e (uc c s i x) m q' j' = VV e c m q' j' := by
  constructor
  · simp only [VV, hl, uc, up, and_self, if_true]
  · intro q' j' h
    cases h0 : locC q' j' with
    | none => simp only [VV, h0, uc]
    | some p =>
      have h1 : ¬ (p.1 = s ∧ p.2 = i) := by
        intro h2
        have h3 : p = (s, i) := Prod.ext h2.1 h2.2
        have h4 := invC_s h0
        rw [h3, invC_s hl] at h4
        simp only [Prod.mk.injEq] at h4
        exact h ⟨h4.1.symm, h4.2.symm⟩
      simp only [VV, h0, uc, up, if_neg h1]
theorem locCM {s : Nat × Nat} (hl : locM q k = some s) : locC q k = none := by
  unfold locM at hl
  split at hl
  · rename_i h
    unfold locC
    rw [h]
    rfl
  · cases hl
theorem locCG {s : Nat × Nat} (hl : locG q k = some s) : locC q k = none ∧ locM q k = none := by
  unfold locG at hl
  split at hl
  · rename_i h
    split at hl
    · rename_i h2
      subst h2
      exact ⟨by unfold locC; rw [h]; rfl, by unfold locM; rw [h]; rfl⟩
    · cases hl
  · split at hl
    · rename_i h
      exact ⟨by unfold locC; rw [h]; rfl, by unfold locM; rw [h]; rfl⟩
    · cases hl
theorem locCH {s : Nat × Nat} (hl : locH q k = some s) : locC q k = none ∧ locM q k = none ∧ locG q k = none := by
  unfold locH at hl
  split at hl
  · rename_i h
    split at hl
    · rename_i h2
      exact ⟨by unfold locC; rw [h]; rfl, by unfold locM; rw [h, h2]; rfl, by unfold locG; rw [h]; rfl⟩
    · cases hl
  · cases hl
theorem vv_M {s i : Nat} {x : Int32} (hl : locM q k = some (s, i)) : VV e c (uc m s i x) q k = .int x ∧ ∀ q' j', ¬ (q' = q ∧ j' = k) → VV e c (uc m s i x) q' j' = VV e c m q' j' := by
  constructor
  · simp only [VV, locCM hl, hl, uc, up, and_self, if_true]
  · intro q' j' h
    cases h00 : locC q' j' with
    | some p => simp only [VV, h00]
    | none =>
    cases h0 : locM q' j' with
    | none => simp only [VV, h00, h0, uc]
    | some p =>
      have h1 : ¬ (p.1 = s ∧ p.2 = i) := by
        intro h2
        have h3 : p = (s, i) := Prod.ext h2.1 h2.2
        have h4 := invM_s h0
        rw [h3, invM_s hl] at h4
        simp only [Prod.mk.injEq] at h4
        exact h ⟨h4.1.symm, h4.2.symm⟩
      simp only [VV, h00, h0, uc, up, if_neg h1]
theorem vv_G {s i : Nat} {x : Int64} (hl : locG q k = some (s, i)) : VV e (ug c s i x) m q k = .long x ∧ ∀ q' j', ¬ (q' = q ∧ j' = k) → VV e (ug c s i x) m q' j' = VV e c m q' j' := by
  constructor
  · simp only [VV, (locCG hl).1, (locCG hl).2, hl, ug, up, and_self, if_true]
  · intro q' j' h
    cases h00 : locC q' j' with
    | some p => simp only [VV, h00, ug]
    | none =>
    cases h01 : locM q' j' with
    | some p => simp only [VV, h00, h01]
    | none =>
    cases h0 : locG q' j' with
    | none => simp only [VV, h00, h01, h0]
    | some p =>
      have h1 : ¬ (p.1 = s ∧ p.2 = i) := by
        intro h2
        have h3 : p = (s, i) := Prod.ext h2.1 h2.2
        have h4 := invG_s h0
        rw [h3, invG_s hl] at h4
        simp only [Prod.mk.injEq] at h4
        exact h ⟨h4.1.symm, h4.2.symm⟩
      simp only [VV, h00, h01, h0, ug, up, if_neg h1]
theorem vv_H {s i : Nat} {x : Int64} (hl : locH q k = some (s, i)) : VV e c (ug m s i x) q k = .long x ∧ ∀ q' j', ¬ (q' = q ∧ j' = k) → VV e c (ug m s i x) q' j' = VV e c m q' j' := by
  constructor
  · simp only [VV, (locCH hl).1, (locCH hl).2.1, (locCH hl).2.2, hl, ug, up, and_self, if_true]
  · intro q' j' h
    cases h00 : locC q' j' with
    | some p => simp only [VV, h00]
    | none =>
    cases h01 : locM q' j' with
    | some p => simp only [VV, h00, h01, ug]
    | none =>
    cases h02 : locG q' j' with
    | some p => simp only [VV, h00, h01, h02]
    | none =>
    cases h0 : locH q' j' with
    | none => simp only [VV, h00, h01, h02, h0]
    | some p =>
      have h1 : ¬ (p.1 = s ∧ p.2 = i) := by
        intro h2
        have h3 : p = (s, i) := Prod.ext h2.1 h2.2
        have h4 := invH_s h0
        rw [h3, invH_s hl] at h4
        simp only [Prod.mk.injEq] at h4
        exact h ⟨h4.1.symm, h4.2.symm⟩
      simp only [VV, h00, h01, h02, h0, ug, up, if_neg h1]
theorem wr_pC {s i : Nat} {x : Int32} (hq : g_own e a = q) (hk : KV q = some (.inl ci)) (hl : locC q k = some (s, i)) : m_p (WW e c m) ci a k (.int x) = some (WW e (uc c s i x) m) := wr_p hq hk (vv_C hl).1 (vv_C hl).2
theorem wr_pM {s i : Nat} {x : Int32} (hq : g_own e a = q) (hk : KV q = some (.inl ci)) (hl : locM q k = some (s, i)) : m_p (WW e c m) ci a k (.int x) = some (WW e c (uc m s i x)) := wr_p hq hk (vv_M hl).1 (vv_M hl).2
theorem wr_pG {s i : Nat} {x : Int64} (hq : g_own e a = q) (hk : KV q = some (.inl ci)) (hl : locG q k = some (s, i)) : m_p (WW e c m) ci a k (.long x) = some (WW e (ug c s i x) m) := wr_p hq hk (vv_G hl).1 (vv_G hl).2
theorem wr_apC {s i : Nat} {x : Int32} (hq : g_own e a = q) (hk : KV q = some (.inr (t, n))) (hn : n < 2 ^ 31) (hj : j < n) (hl : locC q j = some (s, i)) : m_ap (WW e c m) t a (nI j) (.int x) = some (WW e (uc c s i x) m) := wr_ap hq hk hn hj (vv_C hl).1 (vv_C hl).2
theorem wr_apM {s i : Nat} {x : Int32} (hq : g_own e a = q) (hk : KV q = some (.inr (t, n))) (hn : n < 2 ^ 31) (hj : j < n) (hl : locM q j = some (s, i)) : m_ap (WW e c m) t a (nI j) (.int x) = some (WW e c (uc m s i x)) := wr_ap hq hk hn hj (vv_M hl).1 (vv_M hl).2
theorem wr_apG {s i : Nat} {x : Int64} (hq : g_own e a = q) (hk : KV q = some (.inr (t, n))) (hn : n < 2 ^ 31) (hj : j < n) (hl : locG q j = some (s, i)) : m_ap (WW e c m) t a (nI j) (.long x) = some (WW e (ug c s i x) m) := wr_ap hq hk hn hj (vv_G hl).1 (vv_G hl).2
theorem wr_apH {s i : Nat} {x : Int64} (hq : g_own e a = q) (hk : KV q = some (.inr (t, n))) (hn : n < 2 ^ 31) (hj : j < n) (hl : locH q j = some (s, i)) : m_ap (WW e c m) t a (nI j) (.long x) = some (WW e c (ug m s i x)) := wr_ap hq hk hn hj (vv_H hl).1 (vv_H hl).2
end PIC
section PICI
variable (e : GE) (c m : CS)
theorem xh0 : m_gI (WW e c m) 0 (g_h e) 0 = some (c.1 1 0) := rd_gI (o_h e) rfl rfl
theorem yh0 (x : Int32) : m_p (WW e c m) 0 (g_h e) 0 (.int x) = some (WW e (uc c 1 0 x) m) := wr_pC (o_h e) rfl rfl
theorem xh2 : m_gI (WW e c m) 0 (g_h e) 2 = some (c.1 2 0) := rd_gI (o_h e) rfl rfl
theorem yh2 (x : Int32) : m_p (WW e c m) 0 (g_h e) 2 (.int x) = some (WW e (uc c 2 0 x) m) := wr_pC (o_h e) rfl rfl
theorem xh3 : m_gI (WW e c m) 0 (g_h e) 3 = some (c.1 3 0) := rd_gI (o_h e) rfl rfl
theorem yh3 (x : Int32) : m_p (WW e c m) 0 (g_h e) 3 (.int x) = some (WW e (uc c 3 0 x) m) := wr_pC (o_h e) rfl rfl
theorem xh5 : m_gI (WW e c m) 0 (g_h e) 5 = some (c.1 4 0) := rd_gI (o_h e) rfl rfl
theorem yh5 (x : Int32) : m_p (WW e c m) 0 (g_h e) 5 (.int x) = some (WW e (uc c 4 0 x) m) := wr_pC (o_h e) rfl rfl
theorem xh8 : m_gI (WW e c m) 0 (g_h e) 8 = some (c.1 5 0) := rd_gI (o_h e) rfl rfl
theorem yh8 (x : Int32) : m_p (WW e c m) 0 (g_h e) 8 (.int x) = some (WW e (uc c 5 0 x) m) := wr_pC (o_h e) rfl rfl
theorem xh9 : m_gI (WW e c m) 0 (g_h e) 9 = some (c.1 6 0) := rd_gI (o_h e) rfl rfl
theorem yh9 (x : Int32) : m_p (WW e c m) 0 (g_h e) 9 (.int x) = some (WW e (uc c 6 0 x) m) := wr_pC (o_h e) rfl rfl
theorem xh1 : m_gR (WW e c m) 0 (g_h e) 1 = some (some (g_h e + 1)) := rd_gR (o_h e) rfl rfl
theorem xh4 : m_gR (WW e c m) 0 (g_h e) 4 = some (some (g_h e + 2)) := rd_gR (o_h e) rfl rfl
theorem xh6 : m_gR (WW e c m) 0 (g_h e) 6 = some (some (g_h e + 3)) := rd_gR (o_h e) rfl rfl
theorem xh7 : m_gR (WW e c m) 0 (g_h e) 7 = some (some (g_h e + 4)) := rd_gR (o_h e) rfl rfl
theorem zh : m_is (WW e c m) 0 (g_h e) = some () := rd_is (o_h e) rfl
theorem zm : m_is (WW e c m) 3 (g_ar e 6) = some () := rd_is (o_ar e 6 (by decide)) rfl
theorem zc {r : Nat} (h : r < g_nr e) : m_is (WW e c m) 1 (g_ca e r) = some () := rd_is (o_ca e h) rfl
theorem zt {t : Nat} (h : t < g_nt e) : m_is (WW e c m) 2 (g_ta e t) = some () := rd_is (o_ta e h) rfl
theorem xc0 {r : Nat} (h : r < g_nr e) : m_gI (WW e c m) 1 (g_ca e r) 0 = some (c.1 7 (g_cr e r)) := rd_gI (o_ca e h) rfl rfl
theorem yc0 {r : Nat} (h : r < g_nr e) (x : Int32) : m_p (WW e c m) 1 (g_ca e r) 0 (.int x) = some (WW e (uc c 7 (g_cr e r) x) m) := wr_pC (o_ca e h) rfl rfl
theorem xc1 {r : Nat} (h : r < g_nr e) : m_gI (WW e c m) 1 (g_ca e r) 1 = some (c.1 8 (g_cr e r)) := rd_gI (o_ca e h) rfl rfl
theorem yc1 {r : Nat} (h : r < g_nr e) (x : Int32) : m_p (WW e c m) 1 (g_ca e r) 1 (.int x) = some (WW e (uc c 8 (g_cr e r) x) m) := wr_pC (o_ca e h) rfl rfl
theorem xc2 {r : Nat} (h : r < g_nr e) : m_gI (WW e c m) 1 (g_ca e r) 2 = some (c.1 10 (g_cr e r)) := rd_gI (o_ca e h) rfl rfl
theorem yc2 {r : Nat} (h : r < g_nr e) (x : Int32) : m_p (WW e c m) 1 (g_ca e r) 2 (.int x) = some (WW e (uc c 10 (g_cr e r) x) m) := wr_pC (o_ca e h) rfl rfl
theorem xc3 {r : Nat} (h : r < g_nr e) : m_gI (WW e c m) 1 (g_ca e r) 3 = some (c.1 30 (g_cr e r)) := rd_gI (o_ca e h) rfl rfl
theorem yc3 {r : Nat} (h : r < g_nr e) (x : Int32) : m_p (WW e c m) 1 (g_ca e r) 3 (.int x) = some (WW e (uc c 30 (g_cr e r) x) m) := wr_pC (o_ca e h) rfl rfl
theorem xc4 {r : Nat} (h : r < g_nr e) : m_gI (WW e c m) 1 (g_ca e r) 4 = some (c.1 31 (g_cr e r)) := rd_gI (o_ca e h) rfl rfl
theorem yc4 {r : Nat} (h : r < g_nr e) (x : Int32) : m_p (WW e c m) 1 (g_ca e r) 4 (.int x) = some (WW e (uc c 31 (g_cr e r) x) m) := wr_pC (o_ca e h) rfl rfl
theorem xc5 {r : Nat} (h : r < g_nr e) : m_gL (WW e c m) 1 (g_ca e r) 5 = some (c.2 0 (g_cr e r)) := rd_gL (o_ca e h) rfl rfl
theorem yc5 {r : Nat} (h : r < g_nr e) (x : Int64) : m_p (WW e c m) 1 (g_ca e r) 5 (.long x) = some (WW e (ug c 0 (g_cr e r) x) m) := wr_pG (o_ca e h) rfl rfl
theorem xt0 {t : Nat} (h : t < g_nt e) : m_gI (WW e c m) 2 (g_ta e t) 0 = some (nI t) := rd_gI (o_ta e h) rfl rfl
theorem xt1 {t : Nat} (h : t < g_nt e) : m_gR (WW e c m) 2 (g_ta e t) 1 = some (some (g_ca e (g_rl e t))) := rd_gR (o_ta e h) rfl rfl
theorem xt2 {t : Nat} (h : t < g_nt e) : m_gR (WW e c m) 2 (g_ta e t) 2 = some (some (g_ta e t + 1)) := rd_gR (o_ta e h) rfl rfl
theorem xt3 {t : Nat} (h : t < g_nt e) : m_gR (WW e c m) 2 (g_ta e t) 3 = some (some (g_ta e t + 2)) := rd_gR (o_ta e h) rfl rfl
theorem xt4 {t : Nat} (h : t < g_nt e) : m_gR (WW e c m) 2 (g_ta e t) 4 = some (some (g_ta e t + 3)) := rd_gR (o_ta e h) rfl rfl
theorem xt5 {t : Nat} (h : t < g_nt e) : m_gI (WW e c m) 2 (g_ta e t) 5 = some (c.1 21 t) := rd_gI (o_ta e h) rfl rfl
theorem yt5 {t : Nat} (h : t < g_nt e) (x : Int32) : m_p (WW e c m) 2 (g_ta e t) 5 (.int x) = some (WW e (uc c 21 t x) m) := wr_pC (o_ta e h) rfl rfl
theorem xt6 {t : Nat} (h : t < g_nt e) : m_gI (WW e c m) 2 (g_ta e t) 6 = some (c.1 33 t) := rd_gI (o_ta e h) rfl rfl
theorem yt6 {t : Nat} (h : t < g_nt e) (x : Int32) : m_p (WW e c m) 2 (g_ta e t) 6 (.int x) = some (WW e (uc c 33 t x) m) := wr_pC (o_ta e h) rfl rfl
theorem xt7 {t : Nat} (h : t < g_nt e) : m_gI (WW e c m) 2 (g_ta e t) 7 = some (c.1 18 t) := rd_gI (o_ta e h) rfl rfl
theorem yt7 {t : Nat} (h : t < g_nt e) (x : Int32) : m_p (WW e c m) 2 (g_ta e t) 7 (.int x) = some (WW e (uc c 18 t x) m) := wr_pC (o_ta e h) rfl rfl
theorem xt8 {t : Nat} (h : t < g_nt e) : m_gI (WW e c m) 2 (g_ta e t) 8 = some (c.1 17 t) := rd_gI (o_ta e h) rfl rfl
theorem yt8 {t : Nat} (h : t < g_nt e) (x : Int32) : m_p (WW e c m) 2 (g_ta e t) 8 (.int x) = some (WW e (uc c 17 t x) m) := wr_pC (o_ta e h) rfl rfl
theorem xt9 {t : Nat} (h : t < g_nt e) : m_gI (WW e c m) 2 (g_ta e t) 9 = some (c.1 14 t) := rd_gI (o_ta e h) rfl rfl
theorem yt9 {t : Nat} (h : t < g_nt e) (x : Int32) : m_p (WW e c m) 2 (g_ta e t) 9 (.int x) = some (WW e (uc c 14 t x) m) := wr_pC (o_ta e h) rfl rfl
theorem xt10 {t : Nat} (h : t < g_nt e) : m_gI (WW e c m) 2 (g_ta e t) 10 = some (c.1 15 t) := rd_gI (o_ta e h) rfl rfl
theorem yt10 {t : Nat} (h : t < g_nt e) (x : Int32) : m_p (WW e c m) 2 (g_ta e t) 10 (.int x) = some (WW e (uc c 15 t x) m) := wr_pC (o_ta e h) rfl rfl
theorem xt11 {t : Nat} (h : t < g_nt e) : m_gI (WW e c m) 2 (g_ta e t) 11 = some (c.1 32 t) := rd_gI (o_ta e h) rfl rfl
theorem yt11 {t : Nat} (h : t < g_nt e) (x : Int32) : m_p (WW e c m) 2 (g_ta e t) 11 (.int x) = some (WW e (uc c 32 t x) m) := wr_pC (o_ta e h) rfl rfl
theorem xa0 {t : Nat} (h : t < g_nt e) : m_aI (WW e c m) 1 (g_ta e t + 1) 0 = some (c.1 13 (4 * t + 0)) := rd_aI (j := 0) (o_ta1 e h) rfl (by decide) (by decide) rfl
theorem ya0 {t : Nat} (h : t < g_nt e) (x : Int32) : m_ap (WW e c m) 1 (g_ta e t + 1) 0 (.int x) = some (WW e (uc c 13 (4 * t + 0) x) m) := wr_apC (j := 0) (o_ta1 e h) rfl (by decide) (by decide) rfl
theorem xa1 {t : Nat} (h : t < g_nt e) : m_aI (WW e c m) 1 (g_ta e t + 1) 1 = some (c.1 13 (4 * t + 1)) := rd_aI (j := 1) (o_ta1 e h) rfl (by decide) (by decide) rfl
theorem ya1 {t : Nat} (h : t < g_nt e) (x : Int32) : m_ap (WW e c m) 1 (g_ta e t + 1) 1 (.int x) = some (WW e (uc c 13 (4 * t + 1) x) m) := wr_apC (j := 1) (o_ta1 e h) rfl (by decide) (by decide) rfl
theorem xa2 {t : Nat} (h : t < g_nt e) : m_aI (WW e c m) 1 (g_ta e t + 1) 2 = some (c.1 13 (4 * t + 2)) := rd_aI (j := 2) (o_ta1 e h) rfl (by decide) (by decide) rfl
theorem ya2 {t : Nat} (h : t < g_nt e) (x : Int32) : m_ap (WW e c m) 1 (g_ta e t + 1) 2 (.int x) = some (WW e (uc c 13 (4 * t + 2) x) m) := wr_apC (j := 2) (o_ta1 e h) rfl (by decide) (by decide) rfl
theorem xa3 {t : Nat} (h : t < g_nt e) : m_aI (WW e c m) 1 (g_ta e t + 1) 3 = some (c.1 13 (4 * t + 3)) := rd_aI (j := 3) (o_ta1 e h) rfl (by decide) (by decide) rfl
theorem ya3 {t : Nat} (h : t < g_nt e) (x : Int32) : m_ap (WW e c m) 1 (g_ta e t + 1) 3 (.int x) = some (WW e (uc c 13 (4 * t + 3) x) m) := wr_apC (j := 3) (o_ta1 e h) rfl (by decide) (by decide) rfl
theorem xp0 {t : Nat} (h : t < g_nt e) : m_aI (WW e c m) 1 (g_ta e t + 2) 0 = some (c.1 20 (3 * t + 0)) := rd_aI (j := 0) (o_ta2 e h) rfl (by decide) (by decide) rfl
theorem yp0 {t : Nat} (h : t < g_nt e) (x : Int32) : m_ap (WW e c m) 1 (g_ta e t + 2) 0 (.int x) = some (WW e (uc c 20 (3 * t + 0) x) m) := wr_apC (j := 0) (o_ta2 e h) rfl (by decide) (by decide) rfl
theorem xs0 {t : Nat} (h : t < g_nt e) : m_aI (WW e c m) 2 (g_ta e t + 3) 0 = some (c.1 22 (3 * t + 0)) := rd_aI (j := 0) (o_ta3 e h) rfl (by decide) (by decide) rfl
theorem ys0 {t : Nat} (h : t < g_nt e) (x : Int32) : m_ap (WW e c m) 2 (g_ta e t + 3) 0 (.int x) = some (WW e (uc c 22 (3 * t + 0) x) m) := wr_apC (j := 0) (o_ta3 e h) rfl (by decide) (by decide) rfl
theorem xp1 {t : Nat} (h : t < g_nt e) : m_aI (WW e c m) 1 (g_ta e t + 2) 1 = some (c.1 20 (3 * t + 1)) := rd_aI (j := 1) (o_ta2 e h) rfl (by decide) (by decide) rfl
theorem yp1 {t : Nat} (h : t < g_nt e) (x : Int32) : m_ap (WW e c m) 1 (g_ta e t + 2) 1 (.int x) = some (WW e (uc c 20 (3 * t + 1) x) m) := wr_apC (j := 1) (o_ta2 e h) rfl (by decide) (by decide) rfl
theorem xs1 {t : Nat} (h : t < g_nt e) : m_aI (WW e c m) 2 (g_ta e t + 3) 1 = some (c.1 22 (3 * t + 1)) := rd_aI (j := 1) (o_ta3 e h) rfl (by decide) (by decide) rfl
theorem ys1 {t : Nat} (h : t < g_nt e) (x : Int32) : m_ap (WW e c m) 2 (g_ta e t + 3) 1 (.int x) = some (WW e (uc c 22 (3 * t + 1) x) m) := wr_apC (j := 1) (o_ta3 e h) rfl (by decide) (by decide) rfl
theorem xp2 {t : Nat} (h : t < g_nt e) : m_aI (WW e c m) 1 (g_ta e t + 2) 2 = some (c.1 20 (3 * t + 2)) := rd_aI (j := 2) (o_ta2 e h) rfl (by decide) (by decide) rfl
theorem yp2 {t : Nat} (h : t < g_nt e) (x : Int32) : m_ap (WW e c m) 1 (g_ta e t + 2) 2 (.int x) = some (WW e (uc c 20 (3 * t + 2) x) m) := wr_apC (j := 2) (o_ta2 e h) rfl (by decide) (by decide) rfl
theorem xs2 {t : Nat} (h : t < g_nt e) : m_aI (WW e c m) 2 (g_ta e t + 3) 2 = some (c.1 22 (3 * t + 2)) := rd_aI (j := 2) (o_ta3 e h) rfl (by decide) (by decide) rfl
theorem ys2 {t : Nat} (h : t < g_nt e) (x : Int32) : m_ap (WW e c m) 2 (g_ta e t + 3) 2 (.int x) = some (WW e (uc c 22 (3 * t + 2) x) m) := wr_apC (j := 2) (o_ta3 e h) rfl (by decide) (by decide) rfl
theorem xr {r : Nat} (h : r < g_nr e) : m_aR (WW e c m) 3 (g_h e + 1) (nI r) = some (some (g_ca e r)) := rd_aR (o_h1 e) rfl (by decide) (Nat.lt_of_lt_of_le h (g_nr16 e)) (if_pos h)
theorem xg {t : Nat} (h : t < g_nt e) : m_aR (WW e c m) 4 (g_h e + 2) (nI t) = some (some (g_ta e t)) := rd_aR (o_h2 e) rfl (by decide) (Nat.lt_of_lt_of_le h (g_nt40 e)) (if_pos h)
theorem xn3 {i : Nat} (h : i < 400) : m_aI (WW e c m) 1 (g_h e + 3) (nI i) = some (c.1 23 i) := rd_aI (o_h3 e) rfl (by decide) h rfl
theorem yn3 {i : Nat} (h : i < 400) (x : Int32) : m_ap (WW e c m) 1 (g_h e + 3) (nI i) (.int x) = some (WW e (uc c 23 i x) m) := wr_apC (o_h3 e) rfl (by decide) h rfl
theorem xn4 {i : Nat} (h : i < 400) : m_aI (WW e c m) 1 (g_h e + 4) (nI i) = some (c.1 24 i) := rd_aI (o_h4 e) rfl (by decide) h rfl
theorem yn4 {i : Nat} (h : i < 400) (x : Int32) : m_ap (WW e c m) 1 (g_h e + 4) (nI i) (.int x) = some (WW e (uc c 24 i x) m) := wr_apC (o_h4 e) rfl (by decide) h rfl
theorem xl : m_aL (WW e c m) 8 (g_h e + 24) 0 = some (c.2 1 0) := rd_aL (j := 0) (o_h24 e) rfl (by decide) (by decide) rfl
theorem yl (x : Int64) : m_ap (WW e c m) 8 (g_h e + 24) 0 (.long x) = some (WW e (ug c 1 0 x) m) := wr_apG (j := 0) (o_h24 e) rfl (by decide) (by decide) rfl
theorem xm0 : m_gI (WW e c m) 3 (g_ar e 6) 0 = some (m.1 0 0) := rd_gI (o_ar e 6 (by decide)) rfl rfl
theorem ym0 (x : Int32) : m_p (WW e c m) 3 (g_ar e 6) 0 (.int x) = some (WW e c (uc m 0 0 x)) := wr_pM (o_ar e 6 (by decide)) rfl rfl
theorem xm1 : m_gI (WW e c m) 3 (g_ar e 6) 1 = some (m.1 1 0) := rd_gI (o_ar e 6 (by decide)) rfl rfl
theorem ym1 (x : Int32) : m_p (WW e c m) 3 (g_ar e 6) 1 (.int x) = some (WW e c (uc m 1 0 x)) := wr_pM (o_ar e 6 (by decide)) rfl rfl
theorem xm2 : m_gI (WW e c m) 3 (g_ar e 6) 2 = some (m.1 2 0) := rd_gI (o_ar e 6 (by decide)) rfl rfl
theorem ym2 (x : Int32) : m_p (WW e c m) 3 (g_ar e 6) 2 (.int x) = some (WW e c (uc m 2 0 x)) := wr_pM (o_ar e 6 (by decide)) rfl rfl
theorem xm3 : m_gI (WW e c m) 3 (g_ar e 6) 3 = some (m.1 3 0) := rd_gI (o_ar e 6 (by decide)) rfl rfl
theorem ym3 (x : Int32) : m_p (WW e c m) 3 (g_ar e 6) 3 (.int x) = some (WW e c (uc m 3 0 x)) := wr_pM (o_ar e 6 (by decide)) rfl rfl
theorem xm4 : m_gI (WW e c m) 3 (g_ar e 6) 4 = some (m.1 4 0) := rd_gI (o_ar e 6 (by decide)) rfl rfl
theorem ym4 (x : Int32) : m_p (WW e c m) 3 (g_ar e 6) 4 (.int x) = some (WW e c (uc m 4 0 x)) := wr_pM (o_ar e 6 (by decide)) rfl rfl
theorem xm5 : m_gI (WW e c m) 3 (g_ar e 6) 5 = some (m.1 5 0) := rd_gI (o_ar e 6 (by decide)) rfl rfl
theorem ym5 (x : Int32) : m_p (WW e c m) 3 (g_ar e 6) 5 (.int x) = some (WW e c (uc m 5 0 x)) := wr_pM (o_ar e 6 (by decide)) rfl rfl
theorem xm6 : m_gI (WW e c m) 3 (g_ar e 6) 6 = some (m.1 6 0) := rd_gI (o_ar e 6 (by decide)) rfl rfl
theorem ym6 (x : Int32) : m_p (WW e c m) 3 (g_ar e 6) 6 (.int x) = some (WW e c (uc m 6 0 x)) := wr_pM (o_ar e 6 (by decide)) rfl rfl
theorem xm7 : m_gR (WW e c m) 3 (g_ar e 6) 7 = some (some (g_ar e 7)) := rd_gR (o_ar e 6 (by decide)) rfl rfl
theorem xi7 {i : Nat} (h : i < 16) : m_aI (WW e c m) 5 (g_ar e 7) (nI i) = some (m.1 7 i) := rd_aI (o_ar e 7 (by decide)) rfl (by decide) h rfl
theorem yi7 {i : Nat} (h : i < 16) (x : Int32) : m_ap (WW e c m) 5 (g_ar e 7) (nI i) (.int x) = some (WW e c (uc m 7 i x)) := wr_apM (o_ar e 7 (by decide)) rfl (by decide) h rfl
theorem xm8 : m_gR (WW e c m) 3 (g_ar e 6) 8 = some (some (g_ar e 8)) := rd_gR (o_ar e 6 (by decide)) rfl rfl
theorem xi8 {i : Nat} (h : i < 16) : m_aI (WW e c m) 5 (g_ar e 8) (nI i) = some (m.1 8 i) := rd_aI (o_ar e 8 (by decide)) rfl (by decide) h rfl
theorem yi8 {i : Nat} (h : i < 16) (x : Int32) : m_ap (WW e c m) 5 (g_ar e 8) (nI i) (.int x) = some (WW e c (uc m 8 i x)) := wr_apM (o_ar e 8 (by decide)) rfl (by decide) h rfl
theorem xm9 : m_gR (WW e c m) 3 (g_ar e 6) 9 = some (some (g_ar e 9)) := rd_gR (o_ar e 6 (by decide)) rfl rfl
theorem xi9 {i : Nat} (h : i < 16) : m_aI (WW e c m) 5 (g_ar e 9) (nI i) = some (m.1 9 i) := rd_aI (o_ar e 9 (by decide)) rfl (by decide) h rfl
theorem yi9 {i : Nat} (h : i < 16) (x : Int32) : m_ap (WW e c m) 5 (g_ar e 9) (nI i) (.int x) = some (WW e c (uc m 9 i x)) := wr_apM (o_ar e 9 (by decide)) rfl (by decide) h rfl
theorem xm10 : m_gR (WW e c m) 3 (g_ar e 6) 10 = some (some (g_ar e 10)) := rd_gR (o_ar e 6 (by decide)) rfl rfl
theorem xi10 {i : Nat} (h : i < 16) : m_aI (WW e c m) 6 (g_ar e 10) (nI i) = some (m.1 10 i) := rd_aI (o_ar e 10 (by decide)) rfl (by decide) h rfl
theorem yi10 {i : Nat} (h : i < 16) (x : Int32) : m_ap (WW e c m) 6 (g_ar e 10) (nI i) (.int x) = some (WW e c (uc m 10 i x)) := wr_apM (o_ar e 10 (by decide)) rfl (by decide) h rfl
theorem xm11 : m_gR (WW e c m) 3 (g_ar e 6) 11 = some (some (g_ar e 11)) := rd_gR (o_ar e 6 (by decide)) rfl rfl
theorem xi11 {i : Nat} (h : i < 16) : m_aL (WW e c m) 7 (g_ar e 11) (nI i) = some (m.2 0 i) := rd_aL (o_ar e 11 (by decide)) rfl (by decide) h rfl
theorem yi11 {i : Nat} (h : i < 16) (x : Int64) : m_ap (WW e c m) 7 (g_ar e 11) (nI i) (.long x) = some (WW e c (ug m 0 i x)) := wr_apH (o_ar e 11 (by decide)) rfl (by decide) h rfl
theorem xm12 : m_gR (WW e c m) 3 (g_ar e 6) 12 = some (some (g_ar e 12)) := rd_gR (o_ar e 6 (by decide)) rfl rfl
theorem xi12 {i : Nat} (h : i < 40) : m_aI (WW e c m) 5 (g_ar e 12) (nI i) = some (m.1 12 i) := rd_aI (o_ar e 12 (by decide)) rfl (by decide) h rfl
theorem yi12 {i : Nat} (h : i < 40) (x : Int32) : m_ap (WW e c m) 5 (g_ar e 12) (nI i) (.int x) = some (WW e c (uc m 12 i x)) := wr_apM (o_ar e 12 (by decide)) rfl (by decide) h rfl
theorem xm13 : m_gR (WW e c m) 3 (g_ar e 6) 13 = some (some (g_ar e 13)) := rd_gR (o_ar e 6 (by decide)) rfl rfl
theorem xi13 {i : Nat} (h : i < 160) : m_aI (WW e c m) 5 (g_ar e 13) (nI i) = some (m.1 13 i) := rd_aI (o_ar e 13 (by decide)) rfl (by decide) h rfl
theorem yi13 {i : Nat} (h : i < 160) (x : Int32) : m_ap (WW e c m) 5 (g_ar e 13) (nI i) (.int x) = some (WW e c (uc m 13 i x)) := wr_apM (o_ar e 13 (by decide)) rfl (by decide) h rfl
theorem xm14 : m_gR (WW e c m) 3 (g_ar e 6) 14 = some (some (g_ar e 14)) := rd_gR (o_ar e 6 (by decide)) rfl rfl
theorem xi14 {i : Nat} (h : i < 40) : m_aI (WW e c m) 5 (g_ar e 14) (nI i) = some (m.1 14 i) := rd_aI (o_ar e 14 (by decide)) rfl (by decide) h rfl
theorem yi14 {i : Nat} (h : i < 40) (x : Int32) : m_ap (WW e c m) 5 (g_ar e 14) (nI i) (.int x) = some (WW e c (uc m 14 i x)) := wr_apM (o_ar e 14 (by decide)) rfl (by decide) h rfl
theorem xm15 : m_gR (WW e c m) 3 (g_ar e 6) 15 = some (some (g_ar e 15)) := rd_gR (o_ar e 6 (by decide)) rfl rfl
theorem xi15 {i : Nat} (h : i < 40) : m_aI (WW e c m) 5 (g_ar e 15) (nI i) = some (m.1 15 i) := rd_aI (o_ar e 15 (by decide)) rfl (by decide) h rfl
theorem yi15 {i : Nat} (h : i < 40) (x : Int32) : m_ap (WW e c m) 5 (g_ar e 15) (nI i) (.int x) = some (WW e c (uc m 15 i x)) := wr_apM (o_ar e 15 (by decide)) rfl (by decide) h rfl
theorem xm16 : m_gR (WW e c m) 3 (g_ar e 6) 16 = some (some (g_ar e 16)) := rd_gR (o_ar e 6 (by decide)) rfl rfl
theorem xi16 {i : Nat} (h : i < 40) : m_aI (WW e c m) 5 (g_ar e 16) (nI i) = some (m.1 16 i) := rd_aI (o_ar e 16 (by decide)) rfl (by decide) h rfl
theorem yi16 {i : Nat} (h : i < 40) (x : Int32) : m_ap (WW e c m) 5 (g_ar e 16) (nI i) (.int x) = some (WW e c (uc m 16 i x)) := wr_apM (o_ar e 16 (by decide)) rfl (by decide) h rfl
theorem xm17 : m_gR (WW e c m) 3 (g_ar e 6) 17 = some (some (g_ar e 17)) := rd_gR (o_ar e 6 (by decide)) rfl rfl
theorem xi17 {i : Nat} (h : i < 40) : m_aI (WW e c m) 5 (g_ar e 17) (nI i) = some (m.1 17 i) := rd_aI (o_ar e 17 (by decide)) rfl (by decide) h rfl
theorem yi17 {i : Nat} (h : i < 40) (x : Int32) : m_ap (WW e c m) 5 (g_ar e 17) (nI i) (.int x) = some (WW e c (uc m 17 i x)) := wr_apM (o_ar e 17 (by decide)) rfl (by decide) h rfl
theorem xm18 : m_gR (WW e c m) 3 (g_ar e 6) 18 = some (some (g_ar e 18)) := rd_gR (o_ar e 6 (by decide)) rfl rfl
theorem xi18 {i : Nat} (h : i < 40) : m_aI (WW e c m) 5 (g_ar e 18) (nI i) = some (m.1 18 i) := rd_aI (o_ar e 18 (by decide)) rfl (by decide) h rfl
theorem yi18 {i : Nat} (h : i < 40) (x : Int32) : m_ap (WW e c m) 5 (g_ar e 18) (nI i) (.int x) = some (WW e c (uc m 18 i x)) := wr_apM (o_ar e 18 (by decide)) rfl (by decide) h rfl
theorem xm19 : m_gR (WW e c m) 3 (g_ar e 6) 19 = some (some (g_ar e 19)) := rd_gR (o_ar e 6 (by decide)) rfl rfl
theorem xi19 {i : Nat} (h : i < 40) : m_aI (WW e c m) 5 (g_ar e 19) (nI i) = some (m.1 19 i) := rd_aI (o_ar e 19 (by decide)) rfl (by decide) h rfl
theorem yi19 {i : Nat} (h : i < 40) (x : Int32) : m_ap (WW e c m) 5 (g_ar e 19) (nI i) (.int x) = some (WW e c (uc m 19 i x)) := wr_apM (o_ar e 19 (by decide)) rfl (by decide) h rfl
theorem xm20 : m_gR (WW e c m) 3 (g_ar e 6) 20 = some (some (g_ar e 20)) := rd_gR (o_ar e 6 (by decide)) rfl rfl
theorem xi20 {i : Nat} (h : i < 120) : m_aI (WW e c m) 5 (g_ar e 20) (nI i) = some (m.1 20 i) := rd_aI (o_ar e 20 (by decide)) rfl (by decide) h rfl
theorem yi20 {i : Nat} (h : i < 120) (x : Int32) : m_ap (WW e c m) 5 (g_ar e 20) (nI i) (.int x) = some (WW e c (uc m 20 i x)) := wr_apM (o_ar e 20 (by decide)) rfl (by decide) h rfl
theorem xm21 : m_gR (WW e c m) 3 (g_ar e 6) 21 = some (some (g_ar e 21)) := rd_gR (o_ar e 6 (by decide)) rfl rfl
theorem xi21 {i : Nat} (h : i < 40) : m_aI (WW e c m) 6 (g_ar e 21) (nI i) = some (m.1 21 i) := rd_aI (o_ar e 21 (by decide)) rfl (by decide) h rfl
theorem yi21 {i : Nat} (h : i < 40) (x : Int32) : m_ap (WW e c m) 6 (g_ar e 21) (nI i) (.int x) = some (WW e c (uc m 21 i x)) := wr_apM (o_ar e 21 (by decide)) rfl (by decide) h rfl
theorem xm22 : m_gR (WW e c m) 3 (g_ar e 6) 22 = some (some (g_ar e 22)) := rd_gR (o_ar e 6 (by decide)) rfl rfl
theorem xi22 {i : Nat} (h : i < 120) : m_aI (WW e c m) 6 (g_ar e 22) (nI i) = some (m.1 22 i) := rd_aI (o_ar e 22 (by decide)) rfl (by decide) h rfl
theorem yi22 {i : Nat} (h : i < 120) (x : Int32) : m_ap (WW e c m) 6 (g_ar e 22) (nI i) (.int x) = some (WW e c (uc m 22 i x)) := wr_apM (o_ar e 22 (by decide)) rfl (by decide) h rfl
theorem xm23 : m_gR (WW e c m) 3 (g_ar e 6) 23 = some (some (g_ar e 23)) := rd_gR (o_ar e 6 (by decide)) rfl rfl
theorem xi23 {i : Nat} (h : i < 400) : m_aI (WW e c m) 5 (g_ar e 23) (nI i) = some (m.1 23 i) := rd_aI (o_ar e 23 (by decide)) rfl (by decide) h rfl
theorem yi23 {i : Nat} (h : i < 400) (x : Int32) : m_ap (WW e c m) 5 (g_ar e 23) (nI i) (.int x) = some (WW e c (uc m 23 i x)) := wr_apM (o_ar e 23 (by decide)) rfl (by decide) h rfl
theorem xm24 : m_gR (WW e c m) 3 (g_ar e 6) 24 = some (some (g_ar e 24)) := rd_gR (o_ar e 6 (by decide)) rfl rfl
theorem xi24 {i : Nat} (h : i < 400) : m_aI (WW e c m) 5 (g_ar e 24) (nI i) = some (m.1 24 i) := rd_aI (o_ar e 24 (by decide)) rfl (by decide) h rfl
theorem yi24 {i : Nat} (h : i < 400) (x : Int32) : m_ap (WW e c m) 5 (g_ar e 24) (nI i) (.int x) = some (WW e c (uc m 24 i x)) := wr_apM (o_ar e 24 (by decide)) rfl (by decide) h rfl
end PICI
theorem m_bS {α β : Type} (x : α) (s : MS) (f : α → MS → Option β) : m_b (some (x, s)) f = f x s := rfl
theorem m_nnN {β : Type} (A : Option β) (B : Nat → Option β) : m_nn none A B = A := rfl
theorem m_nnS {β : Type} (a : Nat) (A : Option β) (B : Nat → Option β) : m_nn (some a) A B = B a := rfl
theorem i4_0 (t : Nat) : 4 * nI t + 0 = nI (4 * t + 0) := by rw [← nI_add, ← pk_mul]; rfl
theorem i4_1 (t : Nat) : 4 * nI t + 1 = nI (4 * t + 1) := by rw [← nI_add, ← pk_mul]; rfl
theorem i4_2 (t : Nat) : 4 * nI t + 2 = nI (4 * t + 2) := by rw [← nI_add, ← pk_mul]; rfl
theorem i4_3 (t : Nat) : 4 * nI t + 3 = nI (4 * t + 3) := by rw [← nI_add, ← pk_mul]; rfl
theorem i4 (t : Nat) : 4 * nI t = nI (4 * t + 0) := by rw [show 4 * t + 0 = 4 * t from rfl, ← pk_mul]; rfl
theorem i3_0 (t : Nat) : 3 * nI t + 0 = nI (3 * t + 0) := by rw [← nI_add, ← pk_mul]; rfl
theorem i3_1 (t : Nat) : 3 * nI t + 1 = nI (3 * t + 1) := by rw [← nI_add, ← pk_mul]; rfl
theorem i3_2 (t : Nat) : 3 * nI t + 2 = nI (3 * t + 2) := by rw [← nI_add, ← pk_mul]; rfl
theorem i3 (t : Nat) : 3 * nI t = nI (3 * t + 0) := by rw [show 3 * t + 0 = 3 * t from rfl, ← pk_mul]; rfl
end
