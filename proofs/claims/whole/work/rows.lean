section
-- ===== PART A: goes FIRST, ahead of the names: the tables' words, and 'selects' of the private methods out of them =====
/-- a private method of a class that the tables say can be made, by its rows of tables_1 -/
def lw_okq (q : MethodName × Nat) : Prop := (q.1.cls ≠ "java/lang/invoke/MethodHandle" ∧ q.1.cls ≠ "java/lang/invoke/VarHandle") ∧ Cond.instantiable q.1.cls q.2 ∈ tables_1 ∧ Cond.privateMethod q.1 ∈ tables_1 ∧ Cond.instanceMethod q.1 ∈ tables_1
theorem lw_p0 : lw_okq (⟨"RuleHouse2", "findClass", "(II)LRuleHouse2$RuleClass;"⟩, 10) := ⟨⟨by decide +kernel, by decide +kernel⟩, List.mem_of_getElem? (i := 12) (by decide +kernel), List.mem_of_getElem? (i := 70) (by decide +kernel), List.mem_of_getElem? (i := 71) (by decide +kernel)⟩
theorem lw_p1 : lw_okq (⟨"RuleHouse2", "classAt", "(I)LRuleHouse2$RuleClass;"⟩, 10) := ⟨⟨by decide +kernel, by decide +kernel⟩, List.mem_of_getElem? (i := 12) (by decide +kernel), List.mem_of_getElem? (i := 74) (by decide +kernel), List.mem_of_getElem? (i := 75) (by decide +kernel)⟩
theorem lw_p2 : lw_okq (⟨"RuleHouse2", "ensureMade", "(LRuleHouse2$RuleClass;)Z"⟩, 10) := ⟨⟨by decide +kernel, by decide +kernel⟩, List.mem_of_getElem? (i := 12) (by decide +kernel), List.mem_of_getElem? (i := 116) (by decide +kernel), List.mem_of_getElem? (i := 117) (by decide +kernel)⟩
theorem lw_p3 : lw_okq (⟨"RuleHouse2", "targetAt", "(I)LRuleHouse2$Target;"⟩, 10) := ⟨⟨by decide +kernel, by decide +kernel⟩, List.mem_of_getElem? (i := 12) (by decide +kernel), List.mem_of_getElem? (i := 124) (by decide +kernel), List.mem_of_getElem? (i := 125) (by decide +kernel)⟩
theorem lw_p4 : lw_okq (⟨"RuleHouse2", "runOnce", "(LRuleHouse2$Target;I)V"⟩, 10) := ⟨⟨by decide +kernel, by decide +kernel⟩, List.mem_of_getElem? (i := 12) (by decide +kernel), List.mem_of_getElem? (i := 194) (by decide +kernel), List.mem_of_getElem? (i := 195) (by decide +kernel)⟩
theorem lw_p5 : lw_okq (⟨"RuleHouse2", "doBits", "(LRuleHouse2$Target;LRuleHouse2$Target;)V"⟩, 10) := ⟨⟨by decide +kernel, by decide +kernel⟩, List.mem_of_getElem? (i := 12) (by decide +kernel), List.mem_of_getElem? (i := 202) (by decide +kernel), List.mem_of_getElem? (i := 203) (by decide +kernel)⟩
theorem lw_p6 : lw_okq (⟨"RuleHouse2", "takesStep", "(LRuleHouse2$Target;)Z"⟩, 10) := ⟨⟨by decide +kernel, by decide +kernel⟩, List.mem_of_getElem? (i := 12) (by decide +kernel), List.mem_of_getElem? (i := 206) (by decide +kernel), List.mem_of_getElem? (i := 207) (by decide +kernel)⟩
theorem lw_p7 : lw_okq (⟨"RuleHouse2", "doBit", "(LRuleHouse2$Target;LRuleHouse2$Target;I)I"⟩, 10) := ⟨⟨by decide +kernel, by decide +kernel⟩, List.mem_of_getElem? (i := 12) (by decide +kernel), List.mem_of_getElem? (i := 210) (by decide +kernel), List.mem_of_getElem? (i := 211) (by decide +kernel)⟩
theorem lw_p8 : lw_okq (⟨"RuleHouse2", "addActions", "(LRuleHouse2$Target;)I"⟩, 10) := ⟨⟨by decide +kernel, by decide +kernel⟩, List.mem_of_getElem? (i := 12) (by decide +kernel), List.mem_of_getElem? (i := 217) (by decide +kernel), List.mem_of_getElem? (i := 218) (by decide +kernel)⟩
theorem lw_p9 : lw_okq (⟨"RuleHouse2", "keepHandle", "()I"⟩, 10) := ⟨⟨by decide +kernel, by decide +kernel⟩, List.mem_of_getElem? (i := 12) (by decide +kernel), List.mem_of_getElem? (i := 237) (by decide +kernel), List.mem_of_getElem? (i := 238) (by decide +kernel)⟩
theorem lw_p10 : lw_okq (⟨"RuleHouse2", "digest", "(II)I"⟩, 10) := ⟨⟨by decide +kernel, by decide +kernel⟩, List.mem_of_getElem? (i := 12) (by decide +kernel), List.mem_of_getElem? (i := 245) (by decide +kernel), List.mem_of_getElem? (i := 246) (by decide +kernel)⟩
theorem lw_p11 : lw_okq (⟨"java/lang/Throwable", "fillInStackTrace", "(I)Ljava/lang/Throwable;"⟩, 6) := ⟨⟨by decide +kernel, by decide +kernel⟩, List.mem_of_getElem? (i := 314) (by decide +kernel), List.mem_of_getElem? (i := 312) (by decide +kernel), List.mem_of_getElem? (i := 313) (by decide +kernel)⟩
theorem lw_p12 : lw_okq (⟨"RuleHouse2Model", "isRule", "(I)Z"⟩, 25) := ⟨⟨by decide +kernel, by decide +kernel⟩, List.mem_of_getElem? (i := 368) (by decide +kernel), List.mem_of_getElem? (i := 464) (by decide +kernel), List.mem_of_getElem? (i := 465) (by decide +kernel)⟩
theorem lw_p13 : lw_okq (⟨"RuleHouse2Model", "classOf", "(I)I"⟩, 25) := ⟨⟨by decide +kernel, by decide +kernel⟩, List.mem_of_getElem? (i := 368) (by decide +kernel), List.mem_of_getElem? (i := 468) (by decide +kernel), List.mem_of_getElem? (i := 469) (by decide +kernel)⟩
theorem lw_p14 : lw_okq (⟨"RuleHouse2Model", "firstOf", "(I)I"⟩, 25) := ⟨⟨by decide +kernel, by decide +kernel⟩, List.mem_of_getElem? (i := 368) (by decide +kernel), List.mem_of_getElem? (i := 472) (by decide +kernel), List.mem_of_getElem? (i := 473) (by decide +kernel)⟩
theorem lw_p15 : lw_okq (⟨"RuleHouse2Model", "isTarget", "(I)Z"⟩, 25) := ⟨⟨by decide +kernel, by decide +kernel⟩, List.mem_of_getElem? (i := 368) (by decide +kernel), List.mem_of_getElem? (i := 501) (by decide +kernel), List.mem_of_getElem? (i := 502) (by decide +kernel)⟩
def lw_privs_1 : List (MethodName × Nat) := [(⟨"RuleHouse2", "findClass", "(II)LRuleHouse2$RuleClass;"⟩, 10), (⟨"RuleHouse2", "classAt", "(I)LRuleHouse2$RuleClass;"⟩, 10), (⟨"RuleHouse2", "ensureMade", "(LRuleHouse2$RuleClass;)Z"⟩, 10), (⟨"RuleHouse2", "targetAt", "(I)LRuleHouse2$Target;"⟩, 10), (⟨"RuleHouse2", "runOnce", "(LRuleHouse2$Target;I)V"⟩, 10), (⟨"RuleHouse2", "doBits", "(LRuleHouse2$Target;LRuleHouse2$Target;)V"⟩, 10), (⟨"RuleHouse2", "takesStep", "(LRuleHouse2$Target;)Z"⟩, 10), (⟨"RuleHouse2", "doBit", "(LRuleHouse2$Target;LRuleHouse2$Target;I)I"⟩, 10), (⟨"RuleHouse2", "addActions", "(LRuleHouse2$Target;)I"⟩, 10), (⟨"RuleHouse2", "keepHandle", "()I"⟩, 10), (⟨"RuleHouse2", "digest", "(II)I"⟩, 10), (⟨"java/lang/Throwable", "fillInStackTrace", "(I)Ljava/lang/Throwable;"⟩, 6), (⟨"RuleHouse2Model", "isRule", "(I)Z"⟩, 25), (⟨"RuleHouse2Model", "classOf", "(I)I"⟩, 25), (⟨"RuleHouse2Model", "firstOf", "(I)I"⟩, 25), (⟨"RuleHouse2Model", "isTarget", "(I)Z"⟩, 25)]
theorem lw_r1 : ∀ q ∈ lw_privs_1, lw_okq q := List.forall_mem_cons.mpr ⟨lw_p0, List.forall_mem_cons.mpr ⟨lw_p1, List.forall_mem_cons.mpr ⟨lw_p2, List.forall_mem_cons.mpr ⟨lw_p3, List.forall_mem_cons.mpr ⟨lw_p4, List.forall_mem_cons.mpr ⟨lw_p5, List.forall_mem_cons.mpr ⟨lw_p6, List.forall_mem_cons.mpr ⟨lw_p7, List.forall_mem_cons.mpr ⟨lw_p8, List.forall_mem_cons.mpr ⟨lw_p9, List.forall_mem_cons.mpr ⟨lw_p10, List.forall_mem_cons.mpr ⟨lw_p11, List.forall_mem_cons.mpr ⟨lw_p12, List.forall_mem_cons.mpr ⟨lw_p13, List.forall_mem_cons.mpr ⟨lw_p14, List.forall_mem_cons.mpr ⟨lw_p15, fun _ h => absurd h List.not_mem_nil⟩⟩⟩⟩⟩⟩⟩⟩⟩⟩⟩⟩⟩⟩⟩⟩
theorem lw_p16 : lw_okq (⟨"RuleHouse2Model", "runChain", "(I)V"⟩, 25) := ⟨⟨by decide +kernel, by decide +kernel⟩, List.mem_of_getElem? (i := 368) (by decide +kernel), List.mem_of_getElem? (i := 509) (by decide +kernel), List.mem_of_getElem? (i := 510) (by decide +kernel)⟩
theorem lw_p17 : lw_okq (⟨"RuleHouse2Model", "fail", "(IIII)V"⟩, 25) := ⟨⟨by decide +kernel, by decide +kernel⟩, List.mem_of_getElem? (i := 368) (by decide +kernel), List.mem_of_getElem? (i := 513) (by decide +kernel), List.mem_of_getElem? (i := 514) (by decide +kernel)⟩
theorem lw_p18 : lw_okq (⟨"RuleHouse2Model", "runOne", "(I)V"⟩, 25) := ⟨⟨by decide +kernel, by decide +kernel⟩, List.mem_of_getElem? (i := 368) (by decide +kernel), List.mem_of_getElem? (i := 517) (by decide +kernel), List.mem_of_getElem? (i := 518) (by decide +kernel)⟩
theorem lw_p19 : lw_okq (⟨"RuleHouse2Model", "step", "(I)Z"⟩, 25) := ⟨⟨by decide +kernel, by decide +kernel⟩, List.mem_of_getElem? (i := 368) (by decide +kernel), List.mem_of_getElem? (i := 521) (by decide +kernel), List.mem_of_getElem? (i := 522) (by decide +kernel)⟩
theorem lw_p20 : lw_okq (⟨"RuleHouse2Model", "deed", "(IIII)I"⟩, 25) := ⟨⟨by decide +kernel, by decide +kernel⟩, List.mem_of_getElem? (i := 368) (by decide +kernel), List.mem_of_getElem? (i := 525) (by decide +kernel), List.mem_of_getElem? (i := 526) (by decide +kernel)⟩
theorem lw_p21 : lw_okq (⟨"RuleHouse2Model", "act", "(II)I"⟩, 25) := ⟨⟨by decide +kernel, by decide +kernel⟩, List.mem_of_getElem? (i := 368) (by decide +kernel), List.mem_of_getElem? (i := 529) (by decide +kernel), List.mem_of_getElem? (i := 530) (by decide +kernel)⟩
theorem lw_p22 : lw_okq (⟨"RuleHouse2Model", "give", "(III)V"⟩, 25) := ⟨⟨by decide +kernel, by decide +kernel⟩, List.mem_of_getElem? (i := 368) (by decide +kernel), List.mem_of_getElem? (i := 533) (by decide +kernel), List.mem_of_getElem? (i := 534) (by decide +kernel)⟩
def lw_privs_2 : List (MethodName × Nat) := [(⟨"RuleHouse2Model", "runChain", "(I)V"⟩, 25), (⟨"RuleHouse2Model", "fail", "(IIII)V"⟩, 25), (⟨"RuleHouse2Model", "runOne", "(I)V"⟩, 25), (⟨"RuleHouse2Model", "step", "(I)Z"⟩, 25), (⟨"RuleHouse2Model", "deed", "(IIII)I"⟩, 25), (⟨"RuleHouse2Model", "act", "(II)I"⟩, 25), (⟨"RuleHouse2Model", "give", "(III)V"⟩, 25)]
theorem lw_r2 : ∀ q ∈ lw_privs_2, lw_okq q := List.forall_mem_cons.mpr ⟨lw_p16, List.forall_mem_cons.mpr ⟨lw_p17, List.forall_mem_cons.mpr ⟨lw_p18, List.forall_mem_cons.mpr ⟨lw_p19, List.forall_mem_cons.mpr ⟨lw_p20, List.forall_mem_cons.mpr ⟨lw_p21, List.forall_mem_cons.mpr ⟨lw_p22, fun _ h => absurd h List.not_mem_nil⟩⟩⟩⟩⟩⟩⟩
def lw_privs : List (MethodName × Nat) := lw_privs_1 ++ (lw_privs_2)
def lw_tbl : List Cond := k2_sels lw_privs ++ tables_1
theorem lw_privs_ok : ∀ q ∈ lw_privs, lw_okq q := by
  show ∀ q ∈ lw_privs_1 ++ (lw_privs_2), lw_okq q
  exact List.forall_mem_append.mpr ⟨lw_r1, lw_r2⟩
end
section
/-! ===== MY LAYER: one world for all cells: which kind of cell lies at an address, and what it holds ===== -/
/-- .inl c: an object of class number c; .inr (t, n): an array of n of the array type number t (t = 0: the script, never written) -/
abbrev MK : Type := Nat → Option (Nat ⊕ (Nat × Nat))
abbrev MM : Type := Nat → Nat → Value
/-- the heap's size, the kinds, the contents -/
abbrev MS : Type := Nat × MK × MM
def m_up (M : MM) (a k : Nat) (v : Value) : MM := fun b j => if b = a ∧ j = k then v else M b j
def m_row (M : MM) (a : Nat) (f : Nat → Value) : MM := fun b => if b = a then f else M b
def m_knew (K : MK) (a : Nat) (x : Nat ⊕ (Nat × Nat)) : MK := fun b => if b = a then some x else K b
def m_A (b : Nat) : Nat → Prop := fun q => b ≤ q
def mw_at (D : va_G) (cl : List vw_C) (tys : List (ClassId × FieldType)) (x : Nat ⊕ (Nat × Nat)) (a : Nat) (f : Nat → Value) (H : Heap) : Prop := match x with
  | .inl ci => ∃ r : vw_C, cl[ci]? = some r ∧ t_OB a (D.1 ci) r.2.2 (D.2 ci) H f
  | .inr q => ∃ r : ClassId × FieldType, tys[q.1]? = some r ∧ H[a]? = some (arrV r.1 q.2 f)
def mw (D : va_G) (cl : List vw_C) (tys : List (ClassId × FieldType)) (b : Nat) (st : MS) (H : Heap) : Prop := H.size = st.1 ∧ b ≤ st.1 ∧ (∀ (a : Nat) (x : Nat ⊕ (Nat × Nat)), st.2.1 a = some x → ((∀ n, x ≠ .inr (0, n)) → b ≤ a) ∧ mw_at D cl tys x a (st.2.2 a) H) ∧ ∀ (a : Nat) (cell : Cell), b ≤ a → H[a]? = some cell → cell.vm.isStatics = false
theorem mw_at.kept {D : va_G} {cl : List vw_C} {tys : List (ClassId × FieldType)} {x : Nat ⊕ (Nat × Nat)} {a : Nat} {f : Nat → Value} {H H1 : Heap} (h : mw_at D cl tys x a f H) (hq : H1[a]? = H[a]?) : mw_at D cl tys x a f H1 := by
  cases x with
  | inl ci =>
    obtain ⟨r, h1, h2⟩ := h
    exact ⟨r, h1, h2.kept hq⟩
  | inr q =>
    obtain ⟨r, h1, h2⟩ := h
    exact ⟨r, h1, hq.trans h2⟩
theorem mw_at.lt {D : va_G} {cl : List vw_C} {tys : List (ClassId × FieldType)} {x : Nat ⊕ (Nat × Nat)} {a : Nat} {f : Nat → Value} {H : Heap} (h : mw_at D cl tys x a f H) : a < H.size := by
  cases x with
  | inl ci =>
    obtain ⟨r, h1, cell, h2, -⟩ := h
    exact (Array.getElem?_eq_some_iff.mp h2).1
  | inr q =>
    obtain ⟨r, h1, h2⟩ := h
    exact (Array.getElem?_eq_some_iff.mp h2).1
theorem mw_at.nost {D : va_G} {cl : List vw_C} {tys : List (ClassId × FieldType)} {x : Nat ⊕ (Nat × Nat)} {a : Nat} {f : Nat → Value} {H : Heap} {cell : Cell} (h : mw_at D cl tys x a f H) (hc : H[a]? = some cell) : cell.vm.isStatics = false := by
  cases x with
  | inl ci =>
    obtain ⟨r, h1, cell', h2, -, h3, -⟩ := h
    cases h2.symm.trans hc
    rw [h3]; rfl
  | inr q =>
    obtain ⟨r, h1, h2⟩ := h
    cases h2.symm.trans hc
    rfl
/-- one cell's contents change -/
theorem mw.set {D : va_G} {cl : List vw_C} {tys : List (ClassId × FieldType)} {b : Nat} {st : MS} {H H1 : Heap} {a k : Nat} {v : Value} {x : Nat ⊕ (Nat × Nat)} (h : mw D cl tys b st H) (hk : st.2.1 a = some x) (he : mw_at D cl tys x a (updV (st.2.2 a) k v) H1) (z : H1.size = H.size) (oq : ∀ q : Nat, q ≠ a → H1[q]? = H[q]?) : mw D cl tys b (st.1, st.2.1, m_up st.2.2 a k v) H1 := by
  obtain ⟨n, K, M⟩ := st
  refine ⟨z.trans h.1, h.2.1, fun c y hc => ⟨(h.2.2.1 c y hc).1, ?_⟩, fun c cell hbc hc => ?_⟩
  rotate_left
  · by_cases hca : c = a
    · subst hca
      exact he.nost hc
    · rw [oq c hca] at hc
      exact h.2.2.2 c cell hbc hc
  by_cases hca : c = a
  · subst hca
    have hxy : x = y := Option.some.inj (hk.symm.trans hc)
    subst hxy
    have e1 : (m_up M c k v) c = updV (M c) k v := by
      funext j
      simp [m_up, updV]
    show mw_at D cl tys x c ((m_up M c k v) c) H1
    rw [e1]
    exact he
  · have e1 : (m_up M a k v) c = M c := by
      funext j
      simp [m_up, hca]
    show mw_at D cl tys y c ((m_up M a k v) c) H1
    rw [e1]
    exact (h.2.2.1 c y hc).2.kept (oq c hca)
def m_mk (st : MS) (x : Nat ⊕ (Nat × Nat)) (f : Nat → Value) : MS := (st.1 + 1, m_knew st.2.1 st.1 x, m_row st.2.2 st.1 f)
/-- one cell more -/
theorem mw.push {D : va_G} {cl : List vw_C} {tys : List (ClassId × FieldType)} {b : Nat} {st : MS} {H H1 : Heap} {f : Nat → Value} {x : Nat ⊕ (Nat × Nat)} (h : mw D cl tys b st H) (he : mw_at D cl tys x st.1 f H1) (z : H1.size = st.1 + 1) (oq : ∀ q : Nat, q < st.1 → H1[q]? = H[q]?) : mw D cl tys b (m_mk st x f) H1 := by
  obtain ⟨n, K, M⟩ := st
  refine ⟨z, Nat.le_trans h.2.1 (Nat.le_succ n), fun c y hc => ?_, fun c cell hbc hc => ?_⟩
  rotate_left
  · by_cases hcn : c = n
    · subst hcn
      exact he.nost hc
    · have hlt : c < n + 1 := by
        have := (Array.getElem?_eq_some_iff.mp hc).1
        omega
      rw [oq c (by omega)] at hc
      exact h.2.2.2 c cell hbc hc
  by_cases hcn : c = n
  · subst hcn
    have hxy : x = y := by
      have : (some x) = some y := by simpa [m_mk, m_knew] using hc
      exact Option.some.inj this
    subst hxy
    refine ⟨fun _ => h.2.1, ?_⟩
    have e1 : (m_row M c f) c = f := by simp [m_row]
    show mw_at D cl tys x c ((m_row M c f) c) H1
    rw [e1]
    exact he
  · have hc' : K c = some y := by simpa [m_mk, m_knew, hcn] using hc
    have e1 : (m_row M n f) c = M c := by simp [m_row, hcn]
    refine ⟨(h.2.2.1 c y hc').1, ?_⟩
    show mw_at D cl tys y c ((m_row M n f) c) H1
    rw [e1]
    have hlt := (h.2.2.1 c y hc').2.lt
    have hn : H.size = n := h.1
    exact (h.2.2.1 c y hc').2.kept (oq c (by omega))
theorem va_S.put' {A : Nat → Prop} {H0 H H1 : Heap} {locs : List Loc} {a k : Nat} (h : va_S A H0 H locs) (z : H1.size = H.size) (oq : ∀ q : Nat, q ≠ a → H1[q]? = H[q]?) (ha : A a) : va_S A H0 H1 (locs ++ [⟨a, k⟩]) := h.put z oq ha
theorem m_Spush {b : Nat} {H0 H H1 : Heap} {locs : List Loc} (hS : va_S (m_A b) H0 H locs) (z1 : H1.size = H.size + 1) (o1 : ∀ q : Nat, q < H.size → H1[q]? = H[q]?) : va_S (m_A b) H0 H1 locs :=
  ⟨Nat.le_trans hS.1 (by omega), fun x h1 h2 => (o1 x (Nat.lt_of_lt_of_le h1 hS.1)).trans (hS.2.1 x h1 h2), hS.2.2⟩
-- typed reads and writes
def m_gI (st : MS) (ci a k : Nat) : Option Int32 := if st.2.1 a = some (.inl ci) then (match st.2.2 a k with | .int x => some x | _ => none) else none
def m_gL (st : MS) (ci a k : Nat) : Option Int64 := if st.2.1 a = some (.inl ci) then (match st.2.2 a k with | .long x => some x | _ => none) else none
def m_gR (st : MS) (ci a k : Nat) : Option (Option Nat) := if st.2.1 a = some (.inl ci) then (match st.2.2 a k with | .ref x => some (some x) | .null => some none | _ => none) else none
def m_p (st : MS) (ci a k : Nat) (v : Value) : Option MS := if st.2.1 a = some (.inl ci) then some (st.1, st.2.1, m_up st.2.2 a k v) else none
/-- the kind of array that lies at an address: its length -/
def m_ln (st : MS) (t a : Nat) : Option Nat := match st.2.1 a with | some (.inr q) => if q.1 = t then some q.2 else none | _ => none
def m_ix (st : MS) (t a : Nat) (i : Int32) : Option Nat := (m_ln st t a).bind fun n => if 0 ≤ i ∧ i.toNatClampNeg < n then some i.toNatClampNeg else none
def m_aI (st : MS) (t a : Nat) (i : Int32) : Option Int32 := (m_ix st t a i).bind fun j => (match st.2.2 a j with | .int x => some x | _ => none)
def m_aL (st : MS) (t a : Nat) (i : Int32) : Option Int64 := (m_ix st t a i).bind fun j => (match st.2.2 a j with | .long x => some x | _ => none)
def m_aR (st : MS) (t a : Nat) (i : Int32) : Option (Option Nat) := (m_ix st t a i).bind fun j => (match st.2.2 a j with | .ref x => some (some x) | .null => some none | _ => none)
def m_ap (st : MS) (t a : Nat) (i : Int32) (v : Value) : Option MS := (m_ix st t a i).bind fun j => some (st.1, st.2.1, m_up st.2.2 a j v)
theorem m_gI_s {st : MS} {ci a k : Nat} {x : Int32} (h : m_gI st ci a k = some x) : st.2.1 a = some (.inl ci) ∧ st.2.2 a k = .int x := by
  unfold m_gI at h
  split at h
  · rename_i h1
    refine ⟨h1, ?_⟩
    split at h <;> simp_all
  · cases h
theorem m_gL_s {st : MS} {ci a k : Nat} {x : Int64} (h : m_gL st ci a k = some x) : st.2.1 a = some (.inl ci) ∧ st.2.2 a k = .long x := by
  unfold m_gL at h
  split at h
  · rename_i h1
    refine ⟨h1, ?_⟩
    split at h <;> simp_all
  · cases h
theorem m_gR_s {st : MS} {ci a k : Nat} {x : Option Nat} (h : m_gR st ci a k = some x) : st.2.1 a = some (.inl ci) ∧ st.2.2 a k = va_rf x := by
  unfold m_gR at h
  split at h
  · rename_i h1
    refine ⟨h1, ?_⟩
    split at h
    · rename_i h2
      cases h
      rw [h2]; rfl
    · rename_i h2
      cases h
      rw [h2]; rfl
    · cases h
  · cases h
theorem m_bs {α β : Type} {x : Option α} {f : α → Option β} {y : β} (h : x.bind f = some y) : ∃ z, x = some z ∧ f z = some y := by
  cases x with
  | none => cases h
  | some z => exact ⟨z, rfl, h⟩
theorem m_ln_s {st : MS} {t a n : Nat} (h : m_ln st t a = some n) : st.2.1 a = some (.inr (t, n)) := by
  unfold m_ln at h
  split at h
  · rename_i q hq
    split at h
    · rename_i h1
      cases h
      rw [hq, ← h1]
    · cases h
  · cases h
theorem m_ix_s {st : MS} {t a j : Nat} {i : Int32} (h : m_ix st t a i = some j) : ∃ n, st.2.1 a = some (.inr (t, n)) ∧ vp_in i n ∧ i.toNatClampNeg = j := by
  obtain ⟨n, h1, h2⟩ := m_bs h
  split at h2
  · rename_i h3
    refine ⟨n, m_ln_s h1, ?_, Option.some.inj h2⟩
    rintro (h4 | h4)
    · exact absurd h3.1 (Int32.not_le.mpr h4)
    · exact absurd h3.2 (Nat.not_lt.mpr h4)
  · cases h2
theorem m_aI_s {st : MS} {t a : Nat} {i x : Int32} (h : m_aI st t a i = some x) : ∃ n, st.2.1 a = some (.inr (t, n)) ∧ vp_in i n ∧ st.2.2 a i.toNatClampNeg = .int x := by
  obtain ⟨j, h1, h2⟩ := m_bs h
  obtain ⟨n, h3, h4, h5⟩ := m_ix_s h1
  refine ⟨n, h3, h4, ?_⟩
  rw [h5]
  split at h2 <;> simp_all
theorem m_aL_s {st : MS} {t a : Nat} {i : Int32} {x : Int64} (h : m_aL st t a i = some x) : ∃ n, st.2.1 a = some (.inr (t, n)) ∧ vp_in i n ∧ st.2.2 a i.toNatClampNeg = .long x := by
  obtain ⟨j, h1, h2⟩ := m_bs h
  obtain ⟨n, h3, h4, h5⟩ := m_ix_s h1
  refine ⟨n, h3, h4, ?_⟩
  rw [h5]
  split at h2 <;> simp_all
theorem m_aR_s {st : MS} {t a : Nat} {i : Int32} {x : Option Nat} (h : m_aR st t a i = some x) : ∃ n, st.2.1 a = some (.inr (t, n)) ∧ vp_in i n ∧ st.2.2 a i.toNatClampNeg = va_rf x := by
  obtain ⟨j, h1, h2⟩ := m_bs h
  obtain ⟨n, h3, h4, h5⟩ := m_ix_s h1
  refine ⟨n, h3, h4, ?_⟩
  rw [h5]
  split at h2
  · rename_i h6
    cases h2
    rw [h6]; rfl
  · rename_i h6
    cases h2
    rw [h6]; rfl
  · cases h2
theorem m_p_s {st st' : MS} {ci a k : Nat} {v : Value} (h : m_p st ci a k v = some st') : st.2.1 a = some (.inl ci) ∧ st' = (st.1, st.2.1, m_up st.2.2 a k v) := by
  unfold m_p at h
  split at h
  · rename_i h1
    exact ⟨h1, (Option.some.inj h).symm⟩
  · cases h
theorem m_ap_s {st st' : MS} {t a : Nat} {i : Int32} {v : Value} (h : m_ap st t a i v = some st') : ∃ n, st.2.1 a = some (.inr (t, n)) ∧ vp_in i n ∧ st' = (st.1, st.2.1, m_up st.2.2 a i.toNatClampNeg v) := by
  obtain ⟨j, h1, h2⟩ := m_bs h
  obtain ⟨n, h3, h4, h5⟩ := m_ix_s h1
  exact ⟨n, h3, h4, by rw [h5]; exact (Option.some.inj h2).symm⟩
/-- a cell of class ci lies there -/
def m_is (st : MS) (ci a : Nat) : Option Unit := if st.2.1 a = some (.inl ci) then some () else none
theorem m_is_s {st : MS} {ci a : Nat} {u : Unit} (h : m_is st ci a = some u) : st.2.1 a = some (.inl ci) := by
  unfold m_is at h
  split at h
  · assumption
  · cases h
def m_z (x : Int32) : Option Int32 := if x = 0 ∨ x = 1 then some x else none
theorem m_z_s {x y : Int32} (h : m_z x = some y) : x = y ∧ narrow .boolean (.int x) = .int x ∧ fits .boolean (.int x) = true := by
  unfold m_z at h
  split at h
  · rename_i h1
    refine ⟨Option.some.inj h, ?_⟩
    rcases h1 with rfl | rfl <;> exact ⟨by decide, by decide⟩
  · cases h
def m_b {α β : Type} (x : Option (α × MS)) (f : α → MS → Option β) : Option β := match x with
  | some q => f q.1 q.2
  | none => none
theorem m_b_s {α β : Type} {x : Option (α × MS)} {f : α → MS → Option β} {y : β} (h : m_b x f = some y) : ∃ r st, x = some (r, st) ∧ f r st = some y := by
  cases x with
  | none => cases h
  | some q => exact ⟨q.1, q.2, rfl, h⟩
/-- a branch on null -/
def m_nn {β : Type} (r : Option Nat) (A : Option β) (B : Nat → Option β) : Option β := match r with
  | none => A
  | some a => B a
theorem m_t {β : Type} {c : Prop} [Decidable c] {t e : Option β} {y : β} (hc : c) (h : (if c then t else e) = some y) : t = some y := by
  rw [if_pos hc] at h; exact h
theorem m_f {β : Type} {c : Prop} [Decidable c] {t e : Option β} {y : β} (hc : ¬ c) (h : (if c then t else e) = some y) : e = some y := by
  rw [if_neg hc] at h; exact h
theorem m_rfc (r : Option Nat) : (va_rf r).category = 1 := by cases r <;> rfl
theorem m_rff (r : Option Nat) (C : String) : narrow (.object C) (va_rf r) = va_rf r ∧ fits (.object C) (va_rf r) = true := by cases r <;> exact ⟨rfl, rfl⟩
theorem m_rfa (r : Option Nat) (t : FieldType) : narrow (.array t) (va_rf r) = va_rf r ∧ fits (.array t) (va_rf r) = true := by cases r <;> exact ⟨rfl, rfl⟩
def m_nw {β : Type} (st : MS) (x : Nat ⊕ (Nat × Nat)) (f : Nat → Value) (k : Nat → MS → Option β) : Option β := k st.1 (m_mk st x f)
theorem m_nw_s {β : Type} {st : MS} {x : Nat ⊕ (Nat × Nat)} {f : Nat → Value} {k : Nat → MS → Option β} {y : β} (h : m_nw st x f k = some y) : ∃ a st1, (a = st.1 ∧ st1 = m_mk st x f) ∧ k a st1 = some y := ⟨_, _, ⟨rfl, rfl⟩, h⟩
theorem m_fin {α β : Type} {x r : α} {s t : β} (h : some (x, s) = some (r, t)) : x = r ∧ s = t := by
  cases h
  exact ⟨rfl, rfl⟩
theorem m_nn0 {β : Type} {A : Option β} {B : Nat → Option β} {y : β} (h : m_nn none A B = some y) : A = some y := h
theorem m_nn1 {β : Type} {a : Nat} {A : Option β} {B : Nat → Option β} {y : β} (h : m_nn (some a) A B = some y) : B a = some y := h
theorem m_catI (x : Int32) : (Value.int x).category = 1 := rfl
theorem m_catL (x : Int64) : (Value.long x).category = 2 := rfl
theorem m_catA (x : Nat) : (Value.ref x).category = 1 := rfl
end
section
section MROW
variable {p : Program} {l : Launch} {e : Env} {R : Room} {s : State} {m : MethodId} {args : Array Value} {below : List Frame} {meth : Method} {c : Code} {H : Heap} {locs : List Loc} {cells slots : Nat} {Q : State → Prop}
variable {cc : ByteArray} {pc nL b : Nat} {ls : Array Slot} {rest : List Value} {D : va_G} {cl : List vw_C} {tys : List (ClassId × FieldType)} {a : Nat} {H0 : Heap} {st st1 : MS} {Ts : List Cond} {own : String}
theorem m_get (S : CallFix p m c cc nL s args Ts own) {ref C : String} {T : u_T} {N ci index k : Nat} {v : Value} (hin : ∀ w ∈ u_ws C T N, w ∈ Ts) (hK : va_K D cl tys s) (hP : mw D cl tys b st H) (hop : st.2.1 a = some (.inl ci) ∧ st.2.2 a k = v) (hc : cl[ci]? = some (C, T, N)) (hkN : k < N) (hlink : (Cond.fieldLink own index ref (T k).2.1 (T k).2.2.1).before args s = true) (hsame : (T k).1 = ref) (hdg : decode cc pc = .ok (.getfield index, 3))
    (kk : W p l e R s m args below meth c H locs cells slots Q (F0 m (pc + 3) ls (v :: rest))) : W p l e R s m args below meth c H locs cells slots Q (F0 m pc ls (.ref a :: rest)) := by
  obtain ⟨hexec, hb, -, hown, hts⟩ := S
  obtain ⟨hk, hv⟩ := hop
  obtain ⟨r, h1, cell, q1, q2, q3, q4⟩ := (hP.2.2.1 a _ hk).2
  have hr : r = (C, T, N) := Option.some.inj (h1.symm.trans hc)
  subst hr
  obtain ⟨hS, hfc, kC, hkC, hkind⟩ := hK.1 ci _ hc
  obtain ⟨cf, kf, fi, f, hi, hsl⟩ := hS k hkN
  refine W.getf hexec hb hown hlink (by rw [← hsame]; exact hi) (u_facts hfc hkC (u_lays hts hin hkN) hi).1 q1 (by rw [q3]; exact fun h => by cases h) (v := v) ?_ rfl rfl hdg kk
  rw [hsl, q4 k hkN]
  exact congrArg some hv
theorem m_put (S : CallFix p m c cc nL s args Ts own) {ref C : String} {T : u_T} {N ci index k : Nat} {v : Value} (hin : ∀ w ∈ u_ws C T N, w ∈ Ts) (ty0 : Nat → FieldType) (hty : ∀ k, k < N → parseFieldDescriptor (T k).2.2.1 = some (ty0 k)) (hnm : ∀ a, a < N → ∀ b, b < N → a ≠ b → (T a).2.1 ≠ (T b).2.1) (hK : va_K D cl tys s) (hP : mw D cl tys b st H) (hS0 : va_S (m_A b) H0 H locs) (hop : m_p st ci a k v = some st1) (hc : cl[ci]? = some (C, T, N)) (hkN : k < N) (hlink : (Cond.fieldLink own index ref (T k).2.1 (T k).2.2.1).before args s = true) (hsame : (T k).1 = ref) (hfin : (T k).2.2.2 = false) {ty : FieldType} (hd : parseFieldDescriptor (T k).2.2.1 = some ty) (hn : narrow ty v = v) (hfit : fits ty v = true)
    (hdg : decode cc pc = .ok (.putfield index, 3)) (kk : ∀ (H1 : Heap) (locs1 : List Loc), mw D cl tys b st1 H1 → va_S (m_A b) H0 H1 locs1 → W p l e R s m args below meth c H1 locs1 cells slots Q (F0 m (pc + 3) ls rest)) : W p l e R s m args below meth c H locs cells slots Q (F0 m pc ls (v :: .ref a :: rest)) := by
  obtain ⟨hexec, hb, -, hown, hts⟩ := S
  obtain ⟨hk, rfl⟩ := m_p_s hop
  have hap := va_apart (own := own) hts hin ty0 hty hnm hK hc
  obtain ⟨r, h1, cell, q1, q2, q3, q4⟩ := (hP.2.2.1 a _ hk).2
  have hr : r = (C, T, N) := Option.some.inj (h1.symm.trans hc)
  subst hr
  obtain ⟨hS, hfc, kC, hkC, hkind⟩ := hK.1 ci _ hc
  obtain ⟨cf, kf, fi, f, hi, hsl⟩ := hS k hkN
  have hlay := hts _ (hin _ (u_in_lay hkN))
  unfold u_lay at hlay
  rw [if_neg (by rw [hfin]; decide)] at hlay
  have hst := (u_facts hfc hkC (u_lays hts hin hkN) hi).1
  have h6 := u_store hfc hkC hkind hlay hi hd hn hfit
  refine W.putK hexec hb (f := f) ⟨hown, hlink, ⟨_, _, _, by rw [← hsame]; exact hi⟩, hst⟩ (by rw [q2]; exact h6) q1 q3 (by rw [hsl]; exact k2_hasslot (q4 k hkN)) rfl rfl hdg fun H' e1 e2 e3 => ?_
  rw [hsl] at e1 ⊢
  exact kk H' _ (hP.set hk ⟨_, hc, ⟨_, e1, q2, q3, t_set q4 hap hkN v⟩⟩ e2 e3) (hS0.put e2 e3 ((hP.2.2.1 a _ hk).1 (fun _ h => by cases h)))
theorem m_putF (S : CallFix p m c cc nL s args Ts own) {ref C : String} {T : u_T} {N ci index k : Nat} {v : Value} (hin : ∀ w ∈ u_ws C T N, w ∈ Ts) (ty0 : Nat → FieldType) (hty : ∀ k, k < N → parseFieldDescriptor (T k).2.2.1 = some (ty0 k)) (hnm : ∀ a, a < N → ∀ b, b < N → a ≠ b → (T a).2.1 ≠ (T b).2.1) (hK : va_K D cl tys s) (hP : mw D cl tys b st H) (hS0 : va_S (m_A b) H0 H locs) (hop : m_p st ci a k v = some st1) (hc : cl[ci]? = some (C, T, N)) (hkN : k < N) (hlink : (Cond.fieldLink own index ref (T k).2.1 (T k).2.2.1).before args s = true) (hsame : (T k).1 = ref) (hfin : (T k).2.2.2 = true) (hin2 : meth.name = "<init>") (hdecl : (T k).1 = own) {ty : FieldType} (hd : parseFieldDescriptor (T k).2.2.1 = some ty) (hn : narrow ty v = v) (hfit : fits ty v = true)
    (hdg : decode cc pc = .ok (.putfield index, 3)) (kk : ∀ (H1 : Heap) (locs1 : List Loc), mw D cl tys b st1 H1 → va_S (m_A b) H0 H1 locs1 → W p l e R s m args below meth c H1 locs1 cells slots Q (F0 m (pc + 3) ls rest)) : W p l e R s m args below meth c H locs cells slots Q (F0 m pc ls (v :: .ref a :: rest)) := by
  obtain ⟨hexec, hb, -, hown, hts⟩ := S
  obtain ⟨hk, rfl⟩ := m_p_s hop
  have hap := va_apart (own := own) hts hin ty0 hty hnm hK hc
  obtain ⟨r, h1, cell, q1, q2, q3, q4⟩ := (hP.2.2.1 a _ hk).2
  have hr : r = (C, T, N) := Option.some.inj (h1.symm.trans hc)
  subst hr
  obtain ⟨hS, hfc, kC, hkC, hkind⟩ := hK.1 ci _ hc
  obtain ⟨cf, kf, fi, f, hi, hsl⟩ := hS k hkN
  have hlay := hts _ (hin _ (u_in_lay hkN))
  unfold u_lay at hlay
  rw [if_pos hfin] at hlay
  have hst := (u_facts hfc hkC (u_lays hts hin hkN) hi).1
  have hcf : m.cls = cf := by
    obtain ⟨_, _, c', _, _, _, -, -, hf', -, -, -, hown2, -⟩ := Cond.laysFinal_spec hlay
    have e1 : c' = cf := by have := hi.symm.trans hf'; simp at this; exact this.1.symm
    rw [hdecl] at hown2
    rw [← e1]; exact Option.some.inj (hown.symm.trans hown2)
  have h6 := u_fits hfc hkC hkind (Or.inr hlay) hi hd hn hfit
  refine W.putFinK hexec hb hown hlink (by rw [← hsame]; exact hi) hst hcf hin2 (by rw [q2]; exact h6) q1 q3 (by rw [hsl]; exact k2_hasslot (q4 k hkN)) rfl rfl hdg fun H' e1 e2 e3 => ?_
  rw [hsl] at e1 ⊢
  exact kk H' _ (hP.set hk ⟨_, hc, ⟨_, e1, q2, q3, t_set q4 hap hkN v⟩⟩ e2 e3) (hS0.put e2 e3 ((hP.2.2.1 a _ hk).1 (fun _ h => by cases h)))
theorem m_new (S : CallFix p m c cc nL s args Ts own) {C : String} {T : u_T} {N ci index : Nat} (hin : ∀ w ∈ u_ws C T N, w ∈ Ts) (ty : Nat → FieldType) (hty : ∀ k, k < N → parseFieldDescriptor (T k).2.2.1 = some (ty k)) (hcl : (Cond.classLink own index C).before args s = true) (hinst : (Cond.instantiable C N).before args s = true) (hini : (Cond.initialized C).before args s = true)
    (hK : va_K D cl tys s) (hP : mw D cl tys b st H) (hS : va_S (m_A b) H0 H locs) (hc : cl[ci]? = some (C, T, N)) {a1 : Nat} (hop : a1 = st.1 ∧ st1 = m_mk st (.inl ci) (fun j => defaultValue (ty j))) (hcells : cells + 1 ≤ R.cells) (hslots : slots + N ≤ R.slots) (hdg : decode cc pc = .ok (.new index, 3))
    (kk : ∀ H1 : Heap, mw D cl tys b st1 H1 → va_S (m_A b) H0 H1 locs →
      W p l e R s m args below meth c H1 locs (cells + 1) (slots + N) Q (F0 m (pc + 3) ls (.ref a1 :: rest))) : W p l e R s m args below meth c H locs cells slots Q (F0 m pc ls rest) := by
  obtain ⟨hexec, hb, -, hown, hts⟩ := S
  obtain ⟨rfl, rfl⟩ := hop
  have hKn := hK.1 ci _ hc
  have hn : H.size = st.1 := hP.1
  refine W.newcK hexec hb hown hcl hinst hini rfl hdg hcells hslots hKn.2.1 hn fun H1 kC hkC e1 z1 o1 => ?_
  exact kk H1 (hP.push ⟨_, hc, u_born ty hts hin hKn hkC e1 hty⟩ z1 o1) (m_Spush hS (by rw [hn]; exact z1) (by rw [hn]; exact o1))
theorem m_newa (S : CallFix p m c cc nL s args Ts own) {atype : ArrayType} (harr : (Cond.arrayClass (newarray.typeOf atype)).before args s = true) {ty : FieldType} (hty : newarray.typeOf atype = ty) (hK : va_K D cl tys s) (hP : mw D cl tys b st H) (hS : va_S (m_A b) H0 H locs) {t : Nat} {cA : ClassId} (ht : tys[t]? = some (cA, ty))
    {i : Int32} {N : Nat} (hi : ¬ i < 0) (hN : i.toNatClampNeg = N) (hbytes : N * componentBytes ty ≤ 536870912) (hcells : cells + 1 ≤ R.cells) (hslots : slots + N ≤ R.slots) {a1 : Nat} (hop : a1 = st.1 ∧ st1 = m_mk st (.inr (t, N)) (fun _ => defaultValue ty)) (hdg : decode cc pc = .ok (.newarray atype, 2))
    (kk : ∀ H1 : Heap, mw D cl tys b st1 H1 → va_S (m_A b) H0 H1 locs →
      W p l e R s m args below meth c H1 locs (cells + 1) (slots + N) Q (F0 m (pc + 2) ls (.ref a1 :: rest))) : W p l e R s m args below meth c H locs cells slots Q (F0 m pc ls (.int i :: rest)) := by
  obtain ⟨hexec, hb, -, hown, hts⟩ := S
  obtain ⟨rfl, rfl⟩ := hop
  subst hty
  have hn : H.size = st.1 := hP.1
  refine va_newaK hexec hb harr rfl hdg rfl hi hN hbytes hcells hslots hn fun H1 cB e1 z1 o1 hAr hNm => ?_
  have hRA := (hK.2 t _ ht).2
  have hcA : cB = cA := by
    have h2 : s.vm.findClass ("[" ++ (newarray.typeOf atype).toString) = some cA := by cases atype <;> exact hRA
    exact Option.some.inj (hNm.symm.trans h2)
  subst hcA
  exact kk H1 (hP.push ⟨_, ht, e1⟩ z1 o1) (m_Spush hS (by rw [hn]; exact z1) (by rw [hn]; exact o1))
theorem m_newq (S : CallFix p m c cc nL s args Ts own) {C : String} {index : Nat} (hclink : (Cond.classLink own index C).before args s = true) (hover : va_AO C s) (hK : va_K D cl tys s) (hP : mw D cl tys b st H) (hS : va_S (m_A b) H0 H locs) {t : Nat} {cA : ClassId} (ht : tys[t]? = some (cA, .object C))
    {i : Int32} {N : Nat} (hi : ¬ i < 0) (hN : i.toNatClampNeg = N) (hbytes : N * 4 ≤ 536870912) (hcells : cells + 1 ≤ R.cells) (hslots : slots + N ≤ R.slots) {a1 : Nat} (hop : a1 = st.1 ∧ st1 = m_mk st (.inr (t, N)) (fun _ => .null)) (hdg : decode cc pc = .ok (.anewarray index, 3))
    (kk : ∀ H1 : Heap, mw D cl tys b st1 H1 → va_S (m_A b) H0 H1 locs →
      W p l e R s m args below meth c H1 locs (cells + 1) (slots + N) Q (F0 m (pc + 3) ls (.ref a1 :: rest))) : W p l e R s m args below meth c H locs cells slots Q (F0 m pc ls (.int i :: rest)) := by
  obtain ⟨hexec, hb, -, hown, hts⟩ := S
  obtain ⟨rfl, rfl⟩ := hop
  subst hN
  have hn : H.size = st.1 := hP.1
  refine W.anew hexec hb hown hclink (va_AO.use hover) rfl hdg rfl hi hbytes hcells hslots fun cB kA comp f1 f2 f3 f4 => ?_
  generalize hH1 : H.push ({ cls := cB, slots := Array.replicate i.toNatClampNeg .null, vm := .none } : Cell) = H1
  have z1 : H1.size = H.size + 1 := by rw [← hH1, Array.size_push]
  have e1 : H1[H.size]? = some (arrV cB i.toNatClampNeg (fun _ => .null)) := by rw [← hH1, Array.getElem?_push_size, ← arrV_new]
  have o1 : ∀ q : Nat, q < H.size → H1[q]? = H[q]? := fun q hq => by rw [← hH1, Array.getElem?_push, if_neg (Nat.ne_of_lt hq)]
  obtain ⟨kA2, comp2, g1, g2, g3, g4⟩ := (hK.2 t _ ht).2
  have hcA : cB = cA := Option.some.inj (f1.symm.trans g4)
  subst hcA
  rw [hn] at z1 e1 o1
  have hg : W p l e R s m args below meth c H1 locs (cells + 1) (slots + i.toNatClampNeg) Q (F0 m (pc + 3) ls (.ref st.1 :: rest)) := kk H1 (hP.push ⟨_, ht, e1⟩ z1 o1) (m_Spush hS (by rw [hn]; exact z1) (by rw [hn]; exact o1))
  rw [← hn] at hg
  exact hg
theorem m_iald (S : CallFix p m c cc nL s args Ts own) (hK : va_K D cl tys s) (hP : mw D cl tys b st H) {t : Nat} {i : Int32} {v : Value} (hop : ∃ N, st.2.1 a = some (.inr (t, N)) ∧ vp_in i N ∧ st.2.2 a i.toNatClampNeg = v) {cA : ClassId} (ht : tys[t]? = some (cA, .int)) (hdg : decode cc pc = .ok (.iaload, 1))
    (kk : W p l e R s m args below meth c H locs cells slots Q (F0 m (pc + 1) ls (v :: rest))) : W p l e R s m args below meth c H locs cells slots Q (F0 m pc ls (.int i :: .ref a :: rest)) := by
  obtain ⟨hexec, hb, -, hown, hts⟩ := S
  obtain ⟨N, hk, hin, hv⟩ := hop
  obtain ⟨r, h1, h2⟩ := (hP.2.2.1 a _ hk).2
  have hr : r = (cA, .int) := Option.some.inj (h1.symm.trans ht)
  subst hr
  have hlt : i.toNatClampNeg < N := Nat.not_le.mp fun q => hin (Or.inr q)
  exact W.iald (v := v) hexec hb h2 ((hK.2 t _ ht).1 N (st.2.2 a)) (fun q => by cases q) (by show ¬ (i < 0 ∨ (arrV _ _ _).slots.size ≤ _); rw [arrV_size]; exact hin) (by show (arrV _ _ _).slots[_]? = _; rw [arrV_read _ _ hlt, hv]) rfl rfl hdg kk
theorem m_zald (S : CallFix p m c cc nL s args Ts own) (hK : va_K D cl tys s) (hP : mw D cl tys b st H) {t : Nat} {i : Int32} {v : Value} (hop : ∃ N, st.2.1 a = some (.inr (t, N)) ∧ vp_in i N ∧ st.2.2 a i.toNatClampNeg = v) {cA : ClassId} (ht : tys[t]? = some (cA, .boolean)) (hdg : decode cc pc = .ok (.baload, 1))
    (kk : W p l e R s m args below meth c H locs cells slots Q (F0 m (pc + 1) ls (v :: rest))) : W p l e R s m args below meth c H locs cells slots Q (F0 m pc ls (.int i :: .ref a :: rest)) := by
  obtain ⟨hexec, hb, -, hown, hts⟩ := S
  obtain ⟨N, hk, hin, hv⟩ := hop
  obtain ⟨r, h1, h2⟩ := (hP.2.2.1 a _ hk).2
  have hr : r = (cA, .boolean) := Option.some.inj (h1.symm.trans ht)
  subst hr
  have hlt : i.toNatClampNeg < N := Nat.not_le.mp fun q => hin (Or.inr q)
  exact W.zald (v := v) hexec hb h2 ((hK.2 t _ ht).1 N (st.2.2 a)) (fun q => by cases q) (by show ¬ (i < 0 ∨ (arrV _ _ _).slots.size ≤ _); rw [arrV_size]; exact hin) (by show (arrV _ _ _).slots[_]? = _; rw [arrV_read _ _ hlt, hv]) rfl rfl hdg kk
theorem m_lald (S : CallFix p m c cc nL s args Ts own) (hK : va_K D cl tys s) (hP : mw D cl tys b st H) {t : Nat} {i : Int32} {v : Value} (hop : ∃ N, st.2.1 a = some (.inr (t, N)) ∧ vp_in i N ∧ st.2.2 a i.toNatClampNeg = v) {cA : ClassId} (ht : tys[t]? = some (cA, .long)) (hdg : decode cc pc = .ok (.laload, 1))
    (kk : W p l e R s m args below meth c H locs cells slots Q (F0 m (pc + 1) ls (v :: rest))) : W p l e R s m args below meth c H locs cells slots Q (F0 m pc ls (.int i :: .ref a :: rest)) := by
  obtain ⟨hexec, hb, -, hown, hts⟩ := S
  obtain ⟨N, hk, hin, hv⟩ := hop
  obtain ⟨r, h1, h2⟩ := (hP.2.2.1 a _ hk).2
  have hr : r = (cA, .long) := Option.some.inj (h1.symm.trans ht)
  subst hr
  have hlt : i.toNatClampNeg < N := Nat.not_le.mp fun q => hin (Or.inr q)
  exact W.lald (v := v) hexec hb h2 ((hK.2 t _ ht).1 N (st.2.2 a)) (fun q => by cases q) (by show ¬ (i < 0 ∨ (arrV _ _ _).slots.size ≤ _); rw [arrV_size]; exact hin) (by show (arrV _ _ _).slots[_]? = _; rw [arrV_read _ _ hlt, hv]) rfl rfl hdg kk
theorem m_aald (S : CallFix p m c cc nL s args Ts own) (hK : va_K D cl tys s) (hP : mw D cl tys b st H) {t : Nat} {i : Int32} {v : Value} (hop : ∃ N, st.2.1 a = some (.inr (t, N)) ∧ vp_in i N ∧ st.2.2 a i.toNatClampNeg = v) {cA : ClassId} {C : String} (ht : tys[t]? = some (cA, .object C)) (hdg : decode cc pc = .ok (.aaload, 1))
    (kk : W p l e R s m args below meth c H locs cells slots Q (F0 m (pc + 1) ls (v :: rest))) : W p l e R s m args below meth c H locs cells slots Q (F0 m pc ls (.int i :: .ref a :: rest)) := by
  obtain ⟨hexec, hb, -, hown, hts⟩ := S
  obtain ⟨N, hk, hin, hv⟩ := hop
  obtain ⟨r, h1, h2⟩ := (hP.2.2.1 a _ hk).2
  have hr : r = (cA, .object C) := Option.some.inj (h1.symm.trans ht)
  subst hr
  have hlt : i.toNatClampNeg < N := Nat.not_le.mp fun q => hin (Or.inr q)
  exact W.aald (v := v) (ty := .object C) hexec hb h2 ((hK.2 t _ ht).1 N (st.2.2 a)) rfl (fun q => by cases q) (by show ¬ (i < 0 ∨ (arrV _ _ _).slots.size ≤ _); rw [arrV_size]; exact hin) (by show (arrV _ _ _).slots[_]? = _; rw [arrV_read _ _ hlt, hv]) rfl rfl hdg kk
theorem m_alen (S : CallFix p m c cc nL s args Ts own) (hK : va_K D cl tys s) (hP : mw D cl tys b st H) {t N : Nat} (hk : st.2.1 a = some (.inr (t, N))) {cA : ClassId} {ty : FieldType} (ht : tys[t]? = some (cA, ty)) (hdg : decode cc pc = .ok (.arraylength, 1))
    (kk : W p l e R s m args below meth c H locs cells slots Q (F0 m (pc + 1) ls (.int (nI N) :: rest))) : W p l e R s m args below meth c H locs cells slots Q (F0 m pc ls (.ref a :: rest)) := by
  obtain ⟨hexec, hb, -, hown, hts⟩ := S
  obtain ⟨r, h1, h2⟩ := (hP.2.2.1 a _ hk).2
  have hr : r = (cA, ty) := Option.some.inj (h1.symm.trans ht)
  subst hr
  exact W.alen (n := nI N) hexec hb h2 ((hK.2 t _ ht).1 N (st.2.2 a)) (by rw [arrV_size] <;> rfl) rfl rfl hdg kk
theorem m_iast (S : CallFix p m c cc nL s args Ts own) (hK : va_K D cl tys s) (hP : mw D cl tys b st H) (hS : va_S (m_A b) H0 H locs) {t : Nat} {i x : Int32} (hop : m_ap st t a i (.int x) = some st1) (ht0 : t ≠ 0) {cA : ClassId} (ht : tys[t]? = some (cA, .int)) (hdg : decode cc pc = .ok (.iastore, 1))
    (kk : ∀ (H1 : Heap) (locs1 : List Loc), mw D cl tys b st1 H1 → va_S (m_A b) H0 H1 locs1 → W p l e R s m args below meth c H1 locs1 cells slots Q (F0 m (pc + 1) ls rest)) : W p l e R s m args below meth c H locs cells slots Q (F0 m pc ls (.int x :: .int i :: .ref a :: rest)) := by
  obtain ⟨hexec, hb, -, hown, hts⟩ := S
  obtain ⟨N, hk, hin, rfl⟩ := m_ap_s hop
  obtain ⟨r, h1, h2⟩ := (hP.2.2.1 a _ hk).2
  have hr : r = (cA, .int) := Option.some.inj (h1.symm.trans ht)
  subst hr
  refine W.iast hexec hb h2 ((hK.2 t _ ht).1 N (st.2.2 a)) (fun q => by cases q) (by show ¬ (i < 0 ∨ (arrV _ _ _).slots.size ≤ _); rw [arrV_size]; exact hin) rfl rfl hdg fun H1 e1 z oq => ?_
  refine kk H1 _ (hP.set hk ⟨_, ht, ?_⟩ z oq) (hS.put z oq ((hP.2.2.1 a _ hk).1 (fun k h => by cases h; exact ht0 rfl)))
  rw [e1, arrV_store]
theorem m_last (S : CallFix p m c cc nL s args Ts own) (hK : va_K D cl tys s) (hP : mw D cl tys b st H) (hS : va_S (m_A b) H0 H locs) {t : Nat} {i : Int32} {x : Int64} (hop : m_ap st t a i (.long x) = some st1) (ht0 : t ≠ 0) {cA : ClassId} (ht : tys[t]? = some (cA, .long)) (hdg : decode cc pc = .ok (.lastore, 1))
    (kk : ∀ (H1 : Heap) (locs1 : List Loc), mw D cl tys b st1 H1 → va_S (m_A b) H0 H1 locs1 → W p l e R s m args below meth c H1 locs1 cells slots Q (F0 m (pc + 1) ls rest)) : W p l e R s m args below meth c H locs cells slots Q (F0 m pc ls (.long x :: .int i :: .ref a :: rest)) := by
  obtain ⟨hexec, hb, -, hown, hts⟩ := S
  obtain ⟨N, hk, hin, rfl⟩ := m_ap_s hop
  obtain ⟨r, h1, h2⟩ := (hP.2.2.1 a _ hk).2
  have hr : r = (cA, .long) := Option.some.inj (h1.symm.trans ht)
  subst hr
  refine W.last hexec hb h2 ((hK.2 t _ ht).1 N (st.2.2 a)) (fun q => by cases q) (by show ¬ (i < 0 ∨ (arrV _ _ _).slots.size ≤ _); rw [arrV_size]; exact hin) rfl rfl hdg fun H1 e1 z oq => ?_
  refine kk H1 _ (hP.set hk ⟨_, ht, ?_⟩ z oq) (hS.put z oq ((hP.2.2.1 a _ hk).1 (fun k h => by cases h; exact ht0 rfl)))
  rw [e1, arrV_store]
theorem m_zast (S : CallFix p m c cc nL s args Ts own) (hK : va_K D cl tys s) (hP : mw D cl tys b st H) (hS : va_S (m_A b) H0 H locs) {t : Nat} {i x : Int32} (hop : m_ap st t a i (.int x) = some st1) (ht0 : t ≠ 0) {cA : ClassId} (ht : tys[t]? = some (cA, .boolean)) (hx : narrow .boolean (.int x) = .int x) (hdg : decode cc pc = .ok (.bastore, 1))
    (kk : ∀ (H1 : Heap) (locs1 : List Loc), mw D cl tys b st1 H1 → va_S (m_A b) H0 H1 locs1 → W p l e R s m args below meth c H1 locs1 cells slots Q (F0 m (pc + 1) ls rest)) : W p l e R s m args below meth c H locs cells slots Q (F0 m pc ls (.int x :: .int i :: .ref a :: rest)) := by
  obtain ⟨hexec, hb, -, hown, hts⟩ := S
  obtain ⟨N, hk, hin, rfl⟩ := m_ap_s hop
  obtain ⟨r, h1, h2⟩ := (hP.2.2.1 a _ hk).2
  have hr : r = (cA, .boolean) := Option.some.inj (h1.symm.trans ht)
  subst hr
  refine W.zast hexec hb h2 ((hK.2 t _ ht).1 N (st.2.2 a)) (fun q => by cases q) (by show ¬ (i < 0 ∨ (arrV _ _ _).slots.size ≤ _); rw [arrV_size]; exact hin) rfl rfl hdg fun H1 e1 z oq => ?_
  refine kk H1 _ (hP.set hk ⟨_, ht, ?_⟩ z oq) (hS.put z oq ((hP.2.2.1 a _ hk).1 (fun k h => by cases h; exact ht0 rfl)))
  rw [e1, hx, arrV_store]
/-- an object of class ci goes into an array of its class -/
theorem m_aast (S : CallFix p m c cc nL s args Ts own) (hK : va_K D cl tys s) (hP : mw D cl tys b st H) (hS : va_S (m_A b) H0 H locs) {t ci v : Nat} {i : Int32} {r0 : vw_C} (hop : m_ap st t a i (.ref v) = some st1) (ht0 : t ≠ 0) (hv : st.2.1 v = some (.inl ci)) (hc : cl[ci]? = some r0) {cA : ClassId} (ht : tys[t]? = some (cA, .object r0.1)) (hdg : decode cc pc = .ok (.aastore, 1))
    (kk : ∀ (H1 : Heap) (locs1 : List Loc), mw D cl tys b st1 H1 → va_S (m_A b) H0 H1 locs1 → W p l e R s m args below meth c H1 locs1 cells slots Q (F0 m (pc + 1) ls rest)) : W p l e R s m args below meth c H locs cells slots Q (F0 m pc ls (.ref v :: .int i :: .ref a :: rest)) := by
  obtain ⟨hexec, hb, -, hown, hts⟩ := S
  obtain ⟨N, hk, hin, rfl⟩ := m_ap_s hop
  obtain ⟨r, h1, h2⟩ := (hP.2.2.1 a _ hk).2
  have hr : r = (cA, .object r0.1) := Option.some.inj (h1.symm.trans ht)
  subst hr
  have hlt : i.toNatClampNeg < N := Nat.not_le.mp fun q => hin (Or.inr q)
  have h0 : ¬ i < 0 := fun q => hin (Or.inl q)
  obtain ⟨r', hr', cellV, g1, g2, g3, -⟩ := (hP.2.2.1 v _ hv).2
  have hcls := (hK.1 ci r0 hc).2
  obtain ⟨kA, comp, k1, k2, k3, -⟩ := (hK.2 t _ ht).2
  have hcomp : comp = D.1 ci := Option.some.inj (k3.symm.trans hcls.1)
  subst hcomp
  obtain ⟨kC, hkC, -⟩ := hcls.2
  refine W.aast hexec hb h2 (fun q h => by cases h) (fun h => by cases h) k1 k2 rfl hkC ⟨h0, by show _ < (arrV _ _ _).slots.size; rw [arrV_size]; exact hlt⟩ g1 (fun q h => by rw [g3] at h; cases h) (by rw [g2]; exact hkC) (by rw [g2]; exact va_assign hcls) rfl rfl hdg fun H1 e1 z oq => ?_
  refine kk H1 _ (hP.set hk ⟨_, ht, ?_⟩ z oq) (hS.put z oq ((hP.2.2.1 a _ hk).1 (fun k h => by cases h; exact ht0 rfl)))
  rw [e1, arrV_store]
theorem m_aload_n (hexec : p.tables.exec = Jvm.exec) (hb : c.code = cc) {k : Fin 4} {i : Nat} {r : Option Nat} (hdg : decode cc pc = .ok (.aload_n k, 1)) (hi : (k : Nat) = i) (hl : ls[i]? = some (.val (va_rf r)))
    (kk : W p l e R s m args below meth c H locs cells slots Q (F0 m (pc + 1) ls (va_rf r :: rest))) : W p l e R s m args below meth c H locs cells slots Q (F0 m pc ls rest) := by
  cases r with
  | none => exact lv_aload_nN hexec hb hdg hi hl kk
  | some x => exact lv_aload_n hexec hb hdg hi hl kk
theorem m_aload (hexec : p.tables.exec = Jvm.exec) (hb : c.code = cc) {i : Nat} {r : Option Nat} (hdg : decode cc pc = .ok (.aload i, 2)) (hl : ls[i]? = some (.val (va_rf r)))
    (kk : W p l e R s m args below meth c H locs cells slots Q (F0 m (pc + 2) ls (va_rf r :: rest))) : W p l e R s m args below meth c H locs cells slots Q (F0 m pc ls rest) := by
  cases r with
  | none => exact lv_aloadN hexec hb hdg hl kk
  | some x => exact lv_aload hexec hb hdg hl kk
theorem m_astore_n (hexec : p.tables.exec = Jvm.exec) (hb : c.code = cc) {k : Fin 4} {i nL : Nat} {r : Option Nat} {lv lv' : List (Nat × Value)} (hdg : decode cc pc = .ok (.astore_n k, 1)) (hi : (k : Nat) = i) (h : lv_has ls nL lv) (hn : i < nL) (hl : (i, va_rf r) :: lv.filter (fun q => !(q.1 == i) && !(q.1 + 1 == i && q.2.category == 2)) = lv')
    (kk : ∀ ls' : Array Slot, lv_has ls' nL lv' → W p l e R s m args below meth c H locs cells slots Q (F0 m (pc + 1) ls' rest)) : W p l e R s m args below meth c H locs cells slots Q (F0 m pc ls (va_rf r :: rest)) := by
  cases r with
  | none => exact lv_astore_nN hexec hb hdg hi h hn hl kk
  | some x => exact lv_astore_n hexec hb hdg hi h hn hl kk
theorem m_astore (hexec : p.tables.exec = Jvm.exec) (hb : c.code = cc) {i nL : Nat} {r : Option Nat} {lv lv' : List (Nat × Value)} (hdg : decode cc pc = .ok (.astore i, 2)) (h : lv_has ls nL lv) (hn : i < nL) (hl : (i, va_rf r) :: lv.filter (fun q => !(q.1 == i) && !(q.1 + 1 == i && q.2.category == 2)) = lv')
    (kk : ∀ ls' : Array Slot, lv_has ls' nL lv' → W p l e R s m args below meth c H locs cells slots Q (F0 m (pc + 2) ls' rest)) : W p l e R s m args below meth c H locs cells slots Q (F0 m pc ls (va_rf r :: rest)) := by
  cases r with
  | none => exact lv_astoreN hexec hb hdg h hn hl kk
  | some x => exact lv_astore hexec hb hdg h hn hl kk
end MROW
/-! contracts: from the world st the method answers v and leaves the world st' -/
def m_Pc (D : va_G) (cl : List vw_C) (tys : List (ClassId × FieldType)) (b : Nat) (st : MS) (as : List Value) : Array Value → State → Prop := fun v U => v = as.toArray ∧ mw D cl tys b st U.heap ∧ va_K D cl tys U
def m_Q (D : va_G) (cl : List vw_C) (tys : List (ClassId × FieldType)) (b : Nat) (v : Option Value) (st : MS) : Array Value → State → Outcome → State → Prop := fun _ s0 o t => o = .returned v ∧ (mw D cl tys b st t.heap ∧ va_K D cl tys t) ∧ va_F (m_A b) s0 t
theorem m_blind {D : va_G} {cl : List vw_C} {tys : List (ClassId × FieldType)} {b : Nat} {st : MS} {as : List Value} : FrameBlind (m_Pc D cl tys b st as) := fun a U g mk q => ⟨q.1, q.2.1, va_K.moved (u := U) (U := U.calling g mk a) (Vm.Alike.refl U.vm) q.2.2⟩
theorem m_preS {s : State} {H : Heap} {D : va_G} {cl : List vw_C} {tys : List (ClassId × FieldType)} {b : Nat} {st : MS} {as : List Value} (hK : va_K D cl tys s) (hP : mw D cl tys b st H) : PreS s H (m_Pc D cl tys b st as) as := ⟨m_blind, fun U hU hW => ⟨rfl, by rw [hU]; exact hP, va_K.moved hW.alike hK⟩⟩
theorem m_preV {s : State} {H : Heap} {D : va_G} {cl : List vw_C} {tys : List (ClassId × FieldType)} {b a ci : Nat} {st : MS} {as : List Value} {r0 : vw_C} (hK : va_K D cl tys s) (hP : mw D cl tys b st H) (hk : st.2.1 a = some (.inl ci)) (hc : cl[ci]? = some r0) : PreV s H r0.1 a (m_Pc D cl tys b st (.ref a :: as)) as := by
  refine ⟨m_blind, ?_, fun U hU hW => ⟨rfl, by rw [hU]; exact hP, va_K.moved hW.alike hK⟩⟩
  obtain ⟨r, h1, cell, g1, g2, g3, -⟩ := (hP.2.2.1 a _ hk).2
  have hr : r = r0 := Option.some.inj (h1.symm.trans hc)
  subst hr
  exact ⟨cell, g1, by rw [g3]; rfl, by rw [g2]; exact (hK.1 ci _ hc).2.1⟩
section MCALL
variable {p : Program} {l : Launch} {e : Env} {R : Room} {s : State} {m : MethodId} {args : Array Value} {below : List Frame} {meth : Method} {c : Code} {H : Heap} {locs : List Loc} {cells slots : Nat} {Q : State → Prop}
variable {pc : Nat} {ls : Array Slot} {rest st0 : List Value} {a : Array Value} {H0 : Heap} {mc ms : Nat} {D : va_G} {cl : List vw_C} {tys : List (ClassId × FieldType)} {b : Nat}
theorem m_call {v : Option Value} {st : MS} (hr : va_Run p l e R s m args below meth c H locs cells slots mc ms (F0 m pc ls st0) rest (m_Q D cl tys b v st a) (m_A b)) (hS : va_S (m_A b) H0 H locs)
    (kk : ∀ (H1 : Heap) (locs1 : List Loc), mw D cl tys b st H1 → va_S (m_A b) H0 H1 locs1 → W p l e R s m args below meth c H1 locs1 (cells + mc) (slots + ms) Q (F0 m (pc + 3) ls (v.toList ++ rest))) : W p l e R s m args below meth c H locs cells slots Q (F0 m pc ls st0) := by
  intro T hT X
  obtain ⟨v', st₀, t, T', L, h0, X', hL, e1, e2, ⟨hv, ⟨hm, hk'⟩, hz, hk⟩, st⟩ := hr T hT X
  cases hv
  rw [h0] at hz hk
  obtain ⟨t2, a1, b1⟩ := kk T'.heap (locs ++ L) (by rw [e1]; exact hm)
    ⟨Nat.le_trans hS.1 (by rw [e1]; exact hz), fun q h1 h2 => by rw [e1, hk q (Nat.lt_of_lt_of_le h1 hS.1) h2]; exact hS.2.1 q h1 h2, fun q hq => by
      rcases List.mem_append.mp hq with h | h
      · exact hS.2.2 q h
      · exact hL q h⟩ T' rfl X'
  exact ⟨t2, st t2 a1, b1⟩
theorem m_calli {v : Int32} {st : MS} (hr : va_Run p l e R s m args below meth c H locs cells slots mc ms (F0 m pc ls st0) rest (m_Q D cl tys b (some (.int v)) st a) (m_A b)) (hS : va_S (m_A b) H0 H locs)
    (kk : ∀ (H1 : Heap) (locs1 : List Loc), mw D cl tys b st H1 → va_S (m_A b) H0 H1 locs1 → W p l e R s m args below meth c H1 locs1 (cells + mc) (slots + ms) Q (F0 m (pc + 3) ls (.int v :: rest))) : W p l e R s m args below meth c H locs cells slots Q (F0 m pc ls st0) := m_call hr hS kk
theorem m_calll {v : Int64} {st : MS} (hr : va_Run p l e R s m args below meth c H locs cells slots mc ms (F0 m pc ls st0) rest (m_Q D cl tys b (some (.long v)) st a) (m_A b)) (hS : va_S (m_A b) H0 H locs)
    (kk : ∀ (H1 : Heap) (locs1 : List Loc), mw D cl tys b st H1 → va_S (m_A b) H0 H1 locs1 → W p l e R s m args below meth c H1 locs1 (cells + mc) (slots + ms) Q (F0 m (pc + 3) ls (.long v :: rest))) : W p l e R s m args below meth c H locs cells slots Q (F0 m pc ls st0) := m_call hr hS kk
theorem m_callr {v : Option Nat} {st : MS} (hr : va_Run p l e R s m args below meth c H locs cells slots mc ms (F0 m pc ls st0) rest (m_Q D cl tys b (some (va_rf v)) st a) (m_A b)) (hS : va_S (m_A b) H0 H locs)
    (kk : ∀ (H1 : Heap) (locs1 : List Loc), mw D cl tys b st H1 → va_S (m_A b) H0 H1 locs1 → W p l e R s m args below meth c H1 locs1 (cells + mc) (slots + ms) Q (F0 m (pc + 3) ls (va_rf v :: rest))) : W p l e R s m args below meth c H locs cells slots Q (F0 m pc ls st0) := m_call hr hS kk
theorem m_callv {st : MS} (hr : va_Run p l e R s m args below meth c H locs cells slots mc ms (F0 m pc ls st0) rest (m_Q D cl tys b none st a) (m_A b)) (hS : va_S (m_A b) H0 H locs)
    (kk : ∀ (H1 : Heap) (locs1 : List Loc), mw D cl tys b st H1 → va_S (m_A b) H0 H1 locs1 → W p l e R s m args below meth c H1 locs1 (cells + mc) (slots + ms) Q (F0 m (pc + 3) ls rest)) : W p l e R s m args below meth c H locs cells slots Q (F0 m pc ls st0) := m_call hr hS kk
end MCALL
/-- a contract out of the walk of the body -/
theorem m_met {l : Launch} {y : MethodName} {ws ws' : List Cond} {rm : Room} {mc ms : Nat} {cc : ByteArray} {maxL : Nat} {ret : Option FieldType} {D : va_G} {cl : List vw_C} {tys : List (ClassId × FieldType)} {b : Nat} {st st' : MS} {as : List Value} {v : Option Value}
    (hy : plainName y.cls = true) (hw : ws = Cond.code y cc maxL ret :: ws') (hlen : (lg_sl as).length ≤ maxL)
    (body : ∀ (p : Program) (e : Env) (s : State) (m : MethodId) (below : List Frame) (meth : Method) (c : Code) (ls : Array Slot), CallFix p m c cc maxL s as.toArray ws y.cls → meth.sig.returnType = ret → meth.locks = false → meth.name = y.name → va_K D cl tys s → mw D cl tys b st s.heap → lv_has ls maxL (lv_args 0 as) → va_S (m_A b) s.heap s.heap [] →
      W p l e rm s m as.toArray below meth c s.heap [] 0 0 (MQ below (m_Q D cl tys b v st') as.toArray s mc ms (m_A b)) (F0 m 0 ls [])) : Met l y ws rm (m_Pc D cl tys b st as) (m_Q D cl tys b v st') mc ms (m_A b) := by
  refine Met.ofW (cc := cc) (maxL := maxL) (ret := ret) hy hw ?_
  intro p e s m args below meth c s₁ B hml hv
  obtain ⟨rfl, hP, hK⟩ := hv
  have hts := atoms_spec (ws := ws) B.pre
  have hl := lv_entry as (n := maxL) hlen
  rw [lg_entry_eq]
  exact body p e s m below meth c _ ⟨B.exec, B.bytes, hml, findClass_of_methodNamed B.named, hts⟩ B.returns B.notSynchronized (name_of_methodNamed B.named B.method).1 hK hP hl va_S.rf
section MRET
variable {p : Program} {l : Launch} {e : Env} {R : Room} {s : State} {m : MethodId} {args : Array Value} {below : List Frame} {meth : Method} {c : Code} {H : Heap} {locs : List Loc} {cells slots : Nat}
variable {cc : ByteArray} {pc nL b mc ms : Nat} {ls : Array Slot} {D : va_G} {cl : List vw_C} {tys : List (ClassId × FieldType)} {st : MS} {Ts : List Cond} {own : String}
theorem m_iret (S : CallFix p m c cc nL s args Ts own) (hr : meth.sig.returnType = some .int) (hlk : meth.locks = false) (hK : va_K D cl tys s) (hP : mw D cl tys b st H) (hS : va_S (m_A b) s.heap H locs) {v : Int32} (hc : cells ≤ mc) (hs : slots ≤ ms) (hdg : decode cc pc = .ok (.ireturn, 1)) :
    W p l e R s m args below meth c H locs cells slots (MQ below (m_Q D cl tys b (some (.int v)) st) args s mc ms (m_A b)) (F0 m pc ls [.int v]) :=
  W.widen hc hs (W.iret S.1 S.2.1 hr (fun t ht hW => ⟨rfl, ⟨by rw [ht]; exact hP, va_K.moved hW.alike hK⟩, hS.F ht⟩) hS.2.2 hdg)
theorem m_zret (S : CallFix p m c cc nL s args Ts own) (hr : meth.sig.returnType = some .boolean) (hlk : meth.locks = false) (hK : va_K D cl tys s) (hP : mw D cl tys b st H) (hS : va_S (m_A b) s.heap H locs) {v : Int32} (hv : narrow .boolean (.int v) = .int v) (hc : cells ≤ mc) (hs : slots ≤ ms) (hdg : decode cc pc = .ok (.ireturn, 1)) :
    W p l e R s m args below meth c H locs cells slots (MQ below (m_Q D cl tys b (some (.int v)) st) args s mc ms (m_A b)) (F0 m pc ls [.int v]) :=
  W.widen hc hs (W.zret S.1 S.2.1 hr hv (fun t ht hW => ⟨rfl, ⟨by rw [ht]; exact hP, va_K.moved hW.alike hK⟩, hS.F ht⟩) hS.2.2 hdg)
theorem m_lret (S : CallFix p m c cc nL s args Ts own) (hr : meth.sig.returnType = some .long) (hlk : meth.locks = false) (hK : va_K D cl tys s) (hP : mw D cl tys b st H) (hS : va_S (m_A b) s.heap H locs) {v : Int64} (hc : cells ≤ mc) (hs : slots ≤ ms) (hdg : decode cc pc = .ok (.lreturn, 1)) :
    W p l e R s m args below meth c H locs cells slots (MQ below (m_Q D cl tys b (some (.long v)) st) args s mc ms (m_A b)) (F0 m pc ls [.long v]) :=
  W.widen hc hs (W.lret S.1 S.2.1 hr (fun t ht hW => ⟨rfl, ⟨by rw [ht]; exact hP, va_K.moved hW.alike hK⟩, hS.F ht⟩) hS.2.2 hdg)
theorem m_vret (S : CallFix p m c cc nL s args Ts own) (hr : meth.sig.returnType = none) (hlk : meth.locks = false) (hK : va_K D cl tys s) (hP : mw D cl tys b st H) (hS : va_S (m_A b) s.heap H locs) (hc : cells ≤ mc) (hs : slots ≤ ms) (hdg : decode cc pc = .ok (.return_, 1)) :
    W p l e R s m args below meth c H locs cells slots (MQ below (m_Q D cl tys b none st) args s mc ms (m_A b)) (F0 m pc ls []) :=
  W.widen hc hs (W.vret S.1 S.2.1 hr (fun t ht hW => ⟨rfl, ⟨by rw [ht]; exact hP, va_K.moved hW.alike hK⟩, hS.F ht⟩) hS.2.2 hdg)
theorem m_aret (S : CallFix p m c cc nL s args Ts own) {C : String} (hr : meth.sig.returnType = some (.object C)) (hlk : meth.locks = false) (hK : va_K D cl tys s) (hP : mw D cl tys b st H) (hS : va_S (m_A b) s.heap H locs) {r : Option Nat} (hc : cells ≤ mc) (hs : slots ≤ ms) (hdg : decode cc pc = .ok (.areturn, 1)) :
    W p l e R s m args below meth c H locs cells slots (MQ below (m_Q D cl tys b (some (va_rf r)) st) args s mc ms (m_A b)) (F0 m pc ls [va_rf r]) :=
  W.widen hc hs (W.aret S.1 S.2.1 hr (Or.inl ⟨_, rfl⟩) (by cases r with | none => exact Or.inl rfl | some a => exact Or.inr ⟨a, rfl⟩) (fun t ht hW => ⟨rfl, ⟨by rw [ht]; exact hP, va_K.moved hW.alike hK⟩, hS.F ht⟩) hS.2.2 hdg)
end MRET
/-- what else holds of the tables and of what lies below b: for the methods that make arrays of objects, or throw -/
def m_E (_ : Nat) (U : State) : Prop := va_AO "RuleHouse2$RuleClass" U ∧ va_AO "RuleHouse2$Target" U ∧ True
theorem m_E.moved {b : Nat} {s U : State} (h : m_E b s) (hW : s.WarmedH U.vm) : m_E b U := ⟨h.1.moved hW.alike, h.2.1.moved hW.alike, trivial⟩
def m_PcE (D : va_G) (cl : List vw_C) (tys : List (ClassId × FieldType)) (b : Nat) (st : MS) (as : List Value) : Array Value → State → Prop := fun v U => m_Pc D cl tys b st as v U ∧ m_E b U
theorem m_blindE {D : va_G} {cl : List vw_C} {tys : List (ClassId × FieldType)} {b : Nat} {st : MS} {as : List Value} : FrameBlind (m_PcE D cl tys b st as) := fun a U g mk q => ⟨m_blind a U g mk q.1, q.2⟩
theorem m_preSE {s : State} {H : Heap} {D : va_G} {cl : List vw_C} {tys : List (ClassId × FieldType)} {b : Nat} {st : MS} {as : List Value} (hK : va_K D cl tys s) (hP : mw D cl tys b st H) (hE : m_E b s) : PreS s H (m_PcE D cl tys b st as) as := ⟨m_blindE, fun U hU hW => ⟨(m_preS hK hP).2 U hU hW, hE.moved hW⟩⟩
theorem m_metE {l : Launch} {y : MethodName} {ws ws' : List Cond} {rm : Room} {mc ms : Nat} {cc : ByteArray} {maxL : Nat} {ret : Option FieldType} {D : va_G} {cl : List vw_C} {tys : List (ClassId × FieldType)} {b : Nat} {st st' : MS} {as : List Value} {v : Option Value}
    (hy : plainName y.cls = true) (hw : ws = Cond.code y cc maxL ret :: ws') (hlen : (lg_sl as).length ≤ maxL)
    (body : ∀ (p : Program) (e : Env) (s : State) (m : MethodId) (below : List Frame) (meth : Method) (c : Code) (ls : Array Slot), CallFix p m c cc maxL s as.toArray ws y.cls → meth.sig.returnType = ret → meth.locks = false → meth.name = y.name → va_K D cl tys s → mw D cl tys b st s.heap → lv_has ls maxL (lv_args 0 as) → va_S (m_A b) s.heap s.heap [] → m_E b s →
      W p l e rm s m as.toArray below meth c s.heap [] 0 0 (MQ below (m_Q D cl tys b v st') as.toArray s mc ms (m_A b)) (F0 m 0 ls [])) : Met l y ws rm (m_PcE D cl tys b st as) (m_Q D cl tys b v st') mc ms (m_A b) := by
  refine Met.ofW (cc := cc) (maxL := maxL) (ret := ret) hy hw ?_
  intro p e s m args below meth c s₁ B hml hv
  obtain ⟨⟨rfl, hP, hK⟩, hE⟩ := hv
  have hts := atoms_spec (ws := ws) B.pre
  have hl := lv_entry as (n := maxL) hlen
  rw [lg_entry_eq]
  exact body p e s m below meth c _ ⟨B.exec, B.bytes, hml, findClass_of_methodNamed B.named, hts⟩ B.returns B.notSynchronized (name_of_methodNamed B.named B.method).1 hK hP hl va_S.rf hE
end
section
/-! ===== the words that every method's contract takes: the tables' good ones ===== -/
def m_tbl : List Cond := lw_tbl.filter goodWord
theorem m_in {w : Cond} (h : (decide (w ∈ lw_tbl) && goodWord w) = true) : w ∈ m_tbl := by
  rw [Bool.and_eq_true, decide_eq_true_eq] at h
  exact List.mem_filter.mpr h
theorem m_mem {w0 w : Cond} (h : (decide (w ∈ lw_tbl) && goodWord w) = true) : w ∈ w0 :: m_tbl := List.mem_cons_of_mem _ (m_in h)
theorem m_sub {w0 : Cond} {ws : List Cond} (h : ws.all (fun w => decide (w ∈ lw_tbl) && goodWord w) = true) : ∀ w ∈ ws, w ∈ w0 :: m_tbl := fun w hw => m_mem (List.all_eq_true.mp h w hw)
theorem m_gd {w0 : Cond} {ws : List Cond} (h : ws.all (fun w => decide (w ∈ lw_tbl) && goodWord w) = true) : GoodIn (w0 :: m_tbl) ws := fun w hw => by
  have h1 := List.all_eq_true.mp h w hw
  refine ⟨m_mem h1, good_of_word ?_⟩
  rw [Bool.and_eq_true] at h1
  exact h1.2
theorem m_gt {w0 : Cond} : GoodIn (w0 :: m_tbl) m_tbl := fun w hw => ⟨List.mem_cons_of_mem _ hw, good_of_word (List.mem_filter.mp hw).2⟩
theorem m_ga {big a b : List Cond} (ha : GoodIn big a) (hb : GoodIn big b) : GoodIn big (a ++ b) := fun w h => (List.mem_append.mp h).elim (ha w) (hb w)
theorem m_wI {w0 cw : Cond} (h : [cw].all (fun w => decide (w ∈ lw_tbl) && goodWord w) = true) : GoodIn (w0 :: m_tbl) (cw :: m_tbl) := m_ga (a := [cw]) (m_gd h) m_gt
theorem m_wV {w0 cw : Cond} {own C : String} {idx : Nat} {y : MethodName} (h : [cw].all (fun w => decide (w ∈ lw_tbl) && goodWord w) = true) (h2 : ([.methodLink own idx y, .instanceMethod y, .selects C y y, .initialized C] : List Cond).all (fun w => decide (w ∈ lw_tbl) && goodWord w) = true) : GoodIn (w0 :: m_tbl) (wsV own idx C y (cw :: m_tbl)) := m_ga (m_gd h2) (m_wI h)
theorem m_wS {w0 cw : Cond} {own : String} {idx : Nat} {y : MethodName} (h : [cw].all (fun w => decide (w ∈ lw_tbl) && goodWord w) = true) (h2 : ([.methodLink own idx y, .static y, .initialized own] : List Cond).all (fun w => decide (w ∈ lw_tbl) && goodWord w) = true) : GoodIn (w0 :: m_tbl) (wsS own idx y (cw :: m_tbl)) := m_ga (m_gd h2) (m_wI h)
def RX0 : String := "RuleHouse2"
def TX0 : u_T := fun k => match k with
  | 0 => ("RuleHouse2", "stepsAllowed", "I", true)
  | 1 => ("RuleHouse2", "classOfRule", "[LRuleHouse2$RuleClass;", true)
  | 2 => ("RuleHouse2", "ruleCount", "I", false)
  | 3 => ("RuleHouse2", "madeCount", "I", false)
  | 4 => ("RuleHouse2", "targets", "[LRuleHouse2$Target;", true)
  | 5 => ("RuleHouse2", "targetCount", "I", false)
  | 6 => ("RuleHouse2", "actionTarget", "[I", true)
  | 7 => ("RuleHouse2", "actionNumber", "[I", true)
  | 8 => ("RuleHouse2", "actionCount", "I", false)
  | _ => ("RuleHouse2", "handleCount", "I", false)
def tyX0 : Nat → FieldType := fun k => match k with
  | 0 => .int
  | 1 => (.array (.object "RuleHouse2$RuleClass"))
  | 2 => .int
  | 3 => .int
  | 4 => (.array (.object "RuleHouse2$Target"))
  | 5 => .int
  | 6 => (.array .int)
  | 7 => (.array .int)
  | 8 => .int
  | _ => .int
theorem nX0 : ∀ a, a < 10 → ∀ b, b < 10 → a ≠ b → (TX0 a).2.1 ≠ (TX0 b).2.1 := by decide +kernel
theorem tX0 : ∀ k, k < 10 → parseFieldDescriptor (TX0 k).2.2.1 = some (tyX0 k) := by decide +kernel
theorem inX0 (w0 : Cond) : ∀ w ∈ u_ws RX0 TX0 10, w ∈ w0 :: m_tbl := m_sub (by decide +kernel)
def RX1 : String := "RuleHouse2$RuleClass"
def TX1 : u_T := fun k => match k with
  | 0 => ("RuleHouse2$RuleClass", "edition", "I", true)
  | 1 => ("RuleHouse2$RuleClass", "does", "I", true)
  | 2 => ("RuleHouse2$RuleClass", "startFails", "Z", true)
  | 3 => ("RuleHouse2$RuleClass", "made", "Z", false)
  | 4 => ("RuleHouse2$RuleClass", "number", "I", false)
  | _ => ("RuleHouse2$RuleClass", "cell", "J", false)
def tyX1 : Nat → FieldType := fun k => match k with
  | 0 => .int
  | 1 => .int
  | 2 => .boolean
  | 3 => .boolean
  | 4 => .int
  | _ => .long
theorem nX1 : ∀ a, a < 6 → ∀ b, b < 6 → a ≠ b → (TX1 a).2.1 ≠ (TX1 b).2.1 := by decide +kernel
theorem tX1 : ∀ k, k < 6 → parseFieldDescriptor (TX1 k).2.2.1 = some (tyX1 k) := by decide +kernel
theorem inX1 (w0 : Cond) : ∀ w ∈ u_ws RX1 TX1 6, w ∈ w0 :: m_tbl := m_sub (by decide +kernel)
def RX2 : String := "RuleHouse2$Target"
def TX2 : u_T := fun k => match k with
  | 0 => ("RuleHouse2$Target", "number", "I", true)
  | 1 => ("RuleHouse2$Target", "ruleClass", "LRuleHouse2$RuleClass;", true)
  | 2 => ("RuleHouse2$Target", "attributes", "[I", true)
  | 3 => ("RuleHouse2$Target", "providers", "[I", true)
  | 4 => ("RuleHouse2$Target", "has", "[Z", true)
  | 5 => ("RuleHouse2$Target", "wasRun", "Z", false)
  | 6 => ("RuleHouse2$Target", "outputDeclared", "Z", false)
  | 7 => ("RuleHouse2$Target", "steps", "I", false)
  | 8 => ("RuleHouse2$Target", "actions", "I", false)
  | 9 => ("RuleHouse2$Target", "failure", "I", false)
  | 10 => ("RuleHouse2$Target", "failedBit", "I", false)
  | _ => ("RuleHouse2$Target", "failureBegan", "I", false)
def tyX2 : Nat → FieldType := fun k => match k with
  | 0 => .int
  | 1 => (.object "RuleHouse2$RuleClass")
  | 2 => (.array .int)
  | 3 => (.array .int)
  | 4 => (.array .boolean)
  | 5 => .boolean
  | 6 => .boolean
  | 7 => .int
  | 8 => .int
  | 9 => .int
  | 10 => .int
  | _ => .int
theorem nX2 : ∀ a, a < 12 → ∀ b, b < 12 → a ≠ b → (TX2 a).2.1 ≠ (TX2 b).2.1 := by decide +kernel
theorem tX2 : ∀ k, k < 12 → parseFieldDescriptor (TX2 k).2.2.1 = some (tyX2 k) := by decide +kernel
theorem inX2 (w0 : Cond) : ∀ w ∈ u_ws RX2 TX2 12, w ∈ w0 :: m_tbl := m_sub (by decide +kernel)
def RX3 : String := "RuleHouse2Model"
def TX3 : u_T := fun k => match k with
  | 0 => ("RuleHouse2Model", "code", "I", false)
  | 1 => ("RuleHouse2Model", "most", "I", true)
  | 2 => ("RuleHouse2Model", "rules", "I", false)
  | 3 => ("RuleHouse2Model", "classes", "I", false)
  | 4 => ("RuleHouse2Model", "targets", "I", false)
  | 5 => ("RuleHouse2Model", "actions", "I", false)
  | 6 => ("RuleHouse2Model", "handles", "I", false)
  | 7 => ("RuleHouse2Model", "edition", "[I", true)
  | 8 => ("RuleHouse2Model", "does", "[I", true)
  | 9 => ("RuleHouse2Model", "made", "[I", true)
  | 10 => ("RuleHouse2Model", "fails", "[Z", true)
  | 11 => ("RuleHouse2Model", "cell", "[J", true)
  | 12 => ("RuleHouse2Model", "rule", "[I", true)
  | 13 => ("RuleHouse2Model", "attributes", "[I", true)
  | 14 => ("RuleHouse2Model", "failure", "[I", true)
  | 15 => ("RuleHouse2Model", "bit", "[I", true)
  | 16 => ("RuleHouse2Model", "began", "[I", true)
  | 17 => ("RuleHouse2Model", "mine", "[I", true)
  | 18 => ("RuleHouse2Model", "steps", "[I", true)
  | 19 => ("RuleHouse2Model", "chain", "[I", true)
  | 20 => ("RuleHouse2Model", "provider", "[I", true)
  | 21 => ("RuleHouse2Model", "run", "[Z", true)
  | 22 => ("RuleHouse2Model", "has", "[Z", true)
  | 23 => ("RuleHouse2Model", "of", "[I", true)
  | _ => ("RuleHouse2Model", "number", "[I", true)
def tyX3 : Nat → FieldType := fun k => match k with
  | 0 => .int
  | 1 => .int
  | 2 => .int
  | 3 => .int
  | 4 => .int
  | 5 => .int
  | 6 => .int
  | 7 => (.array .int)
  | 8 => (.array .int)
  | 9 => (.array .int)
  | 10 => (.array .boolean)
  | 11 => (.array .long)
  | 12 => (.array .int)
  | 13 => (.array .int)
  | 14 => (.array .int)
  | 15 => (.array .int)
  | 16 => (.array .int)
  | 17 => (.array .int)
  | 18 => (.array .int)
  | 19 => (.array .int)
  | 20 => (.array .int)
  | 21 => (.array .boolean)
  | 22 => (.array .boolean)
  | 23 => (.array .int)
  | _ => (.array .int)
theorem nX3 : ∀ a, a < 25 → ∀ b, b < 25 → a ≠ b → (TX3 a).2.1 ≠ (TX3 b).2.1 := by decide +kernel
theorem tX3 : ∀ k, k < 25 → parseFieldDescriptor (TX3 k).2.2.1 = some (tyX3 k) := by decide +kernel
theorem inX3 (w0 : Cond) : ∀ w ∈ u_ws RX3 TX3 25, w ∈ w0 :: m_tbl := m_sub (by decide +kernel)
def RL : String := "RuleHouse2Law"
abbrev vwCl : List vw_C := [(RX0, TX0, 10), (RX1, TX1, 6), (RX2, TX2, 12), (RX3, TX3, 25)]
def m_tys (tc : Nat → ClassId) : List (ClassId × FieldType) := [(tc 0, .int), (tc 1, .int), (tc 2, .boolean), (tc 3, (.object "RuleHouse2$RuleClass")), (tc 4, (.object "RuleHouse2$Target")), (tc 5, .int), (tc 6, .boolean), (tc 7, .long), (tc 8, .long)]
abbrev cX0_init : ByteArray := prog_1_method_1_code
def yX0_init : MethodName := ⟨RX0, "<init>", "(I)V"⟩
abbrev wX0_init : Cond := .code yX0_init cX0_init 2 none
abbrev wsX0_init : List Cond := wX0_init :: m_tbl
theorem kX0_init : [wX0_init].all (fun w => decide (w ∈ lw_tbl) && goodWord w) = true := by decide +kernel
abbrev cX0_rule : ByteArray := prog_1_method_2_code
def yX0_rule : MethodName := ⟨RX0, "rule", "(IIZ)I"⟩
abbrev wX0_rule : Cond := .code yX0_rule cX0_rule 5 (some .int)
abbrev wsX0_rule : List Cond := wX0_rule :: m_tbl
theorem kX0_rule : [wX0_rule].all (fun w => decide (w ∈ lw_tbl) && goodWord w) = true := by decide +kernel
abbrev cX0_make : ByteArray := prog_1_method_3_code
def yX0_make : MethodName := ⟨RX0, "make", "(I)I"⟩
abbrev wX0_make : Cond := .code yX0_make cX0_make 3 (some .int)
abbrev wsX0_make : List Cond := wX0_make :: m_tbl
theorem kX0_make : [wX0_make].all (fun w => decide (w ∈ lw_tbl) && goodWord w) = true := by decide +kernel
abbrev cX0_attribute : ByteArray := prog_1_method_4_code
def yX0_attribute : MethodName := ⟨RX0, "attribute", "(III)I"⟩
abbrev wX0_attribute : Cond := .code yX0_attribute cX0_attribute 6 (some .int)
abbrev wsX0_attribute : List Cond := wX0_attribute :: m_tbl
theorem kX0_attribute : [wX0_attribute].all (fun w => decide (w ∈ lw_tbl) && goodWord w) = true := by decide +kernel
abbrev cX0_target : ByteArray := prog_1_method_5_code
def yX0_target : MethodName := ⟨RX0, "target", "(I)I"⟩
abbrev wX0_target : Cond := .code yX0_target cX0_target 3 (some .int)
abbrev wsX0_target : List Cond := wX0_target :: m_tbl
theorem kX0_target : [wX0_target].all (fun w => decide (w ∈ lw_tbl) && goodWord w) = true := by decide +kernel
abbrev cX0_run : ByteArray := prog_1_method_6_code
def yX0_run : MethodName := ⟨RX0, "run", "(I)I"⟩
abbrev wX0_run : Cond := .code yX0_run cX0_run 3 (some .int)
abbrev wsX0_run : List Cond := wX0_run :: m_tbl
theorem kX0_run : [wX0_run].all (fun w => decide (w ∈ lw_tbl) && goodWord w) = true := by decide +kernel
abbrev cX0_action : ByteArray := prog_1_method_7_code
def yX0_action : MethodName := ⟨RX0, "action", "(II)I"⟩
abbrev wX0_action : Cond := .code yX0_action cX0_action 3 (some .int)
abbrev wsX0_action : List Cond := wX0_action :: m_tbl
theorem kX0_action : [wX0_action].all (fun w => decide (w ∈ lw_tbl) && goodWord w) = true := by decide +kernel
abbrev cX0_provider : ByteArray := prog_1_method_8_code
def yX0_provider : MethodName := ⟨RX0, "provider", "(II)I"⟩
abbrev wX0_provider : Cond := .code yX0_provider cX0_provider 4 (some .int)
abbrev wsX0_provider : List Cond := wX0_provider :: m_tbl
theorem kX0_provider : [wX0_provider].all (fun w => decide (w ∈ lw_tbl) && goodWord w) = true := by decide +kernel
abbrev cX0_failed : ByteArray := prog_1_method_9_code
def yX0_failed : MethodName := ⟨RX0, "failed", "(II)I"⟩
abbrev wX0_failed : Cond := .code yX0_failed cX0_failed 4 (some .int)
abbrev wsX0_failed : List Cond := wX0_failed :: m_tbl
theorem kX0_failed : [wX0_failed].all (fun w => decide (w ∈ lw_tbl) && goodWord w) = true := by decide +kernel
abbrev cX0_cell : ByteArray := prog_1_method_10_code
def yX0_cell : MethodName := ⟨RX0, "cell", "(I)J"⟩
abbrev wX0_cell : Cond := .code yX0_cell cX0_cell 3 (some .long)
abbrev wsX0_cell : List Cond := wX0_cell :: m_tbl
theorem kX0_cell : [wX0_cell].all (fun w => decide (w ∈ lw_tbl) && goodWord w) = true := by decide +kernel
abbrev cX0_same : ByteArray := prog_1_method_11_code
def yX0_same : MethodName := ⟨RX0, "same", "(II)Z"⟩
abbrev wX0_same : Cond := .code yX0_same cX0_same 5 (some .boolean)
abbrev wsX0_same : List Cond := wX0_same :: m_tbl
theorem kX0_same : [wX0_same].all (fun w => decide (w ∈ lw_tbl) && goodWord w) = true := by decide +kernel
abbrev cX0_divide : ByteArray := prog_1_method_12_code
def yX0_divide : MethodName := ⟨RX0, "divide", "(IJJ)J"⟩
abbrev wX0_divide : Cond := .code yX0_divide cX0_divide 7 (some .long)
abbrev wsX0_divide : List Cond := wX0_divide :: m_tbl
theorem kX0_divide : [wX0_divide].all (fun w => decide (w ∈ lw_tbl) && goodWord w) = true := by decide +kernel
abbrev cX0_handle : ByteArray := prog_1_method_13_code
def yX0_handle : MethodName := ⟨RX0, "handle", "(I)I"⟩
abbrev wX0_handle : Cond := .code yX0_handle cX0_handle 2 (some .int)
abbrev wsX0_handle : List Cond := wX0_handle :: m_tbl
theorem kX0_handle : [wX0_handle].all (fun w => decide (w ∈ lw_tbl) && goodWord w) = true := by decide +kernel
abbrev cX0_isWithin : ByteArray := prog_1_method_14_code
def yX0_isWithin : MethodName := ⟨RX0, "isWithin", "(II)Z"⟩
abbrev wX0_isWithin : Cond := .code yX0_isWithin cX0_isWithin 2 (some .boolean)
abbrev wsX0_isWithin : List Cond := wX0_isWithin :: m_tbl
theorem kX0_isWithin : [wX0_isWithin].all (fun w => decide (w ∈ lw_tbl) && goodWord w) = true := by decide +kernel
abbrev cX0_classAt : ByteArray := prog_1_method_15_code
def yX0_classAt : MethodName := ⟨RX0, "classAt", "(I)LRuleHouse2$RuleClass;"⟩
abbrev wX0_classAt : Cond := .code yX0_classAt cX0_classAt 2 (some (.object "RuleHouse2$RuleClass"))
abbrev wsX0_classAt : List Cond := wX0_classAt :: m_tbl
theorem kX0_classAt : [wX0_classAt].all (fun w => decide (w ∈ lw_tbl) && goodWord w) = true := by decide +kernel
abbrev cX0_targetAt : ByteArray := prog_1_method_16_code
def yX0_targetAt : MethodName := ⟨RX0, "targetAt", "(I)LRuleHouse2$Target;"⟩
abbrev wX0_targetAt : Cond := .code yX0_targetAt cX0_targetAt 2 (some (.object "RuleHouse2$Target"))
abbrev wsX0_targetAt : List Cond := wX0_targetAt :: m_tbl
theorem kX0_targetAt : [wX0_targetAt].all (fun w => decide (w ∈ lw_tbl) && goodWord w) = true := by decide +kernel
abbrev cX0_findClass : ByteArray := prog_1_method_17_code
def yX0_findClass : MethodName := ⟨RX0, "findClass", "(II)LRuleHouse2$RuleClass;"⟩
abbrev wX0_findClass : Cond := .code yX0_findClass cX0_findClass 5 (some (.object "RuleHouse2$RuleClass"))
abbrev wsX0_findClass : List Cond := wX0_findClass :: m_tbl
theorem kX0_findClass : [wX0_findClass].all (fun w => decide (w ∈ lw_tbl) && goodWord w) = true := by decide +kernel
abbrev cX0_ensureMade : ByteArray := prog_1_method_18_code
def yX0_ensureMade : MethodName := ⟨RX0, "ensureMade", "(LRuleHouse2$RuleClass;)Z"⟩
abbrev wX0_ensureMade : Cond := .code yX0_ensureMade cX0_ensureMade 2 (some .boolean)
abbrev wsX0_ensureMade : List Cond := wX0_ensureMade :: m_tbl
theorem kX0_ensureMade : [wX0_ensureMade].all (fun w => decide (w ∈ lw_tbl) && goodWord w) = true := by decide +kernel
abbrev cX0_mayBecome : ByteArray := prog_1_method_19_code
def yX0_mayBecome : MethodName := ⟨RX0, "mayBecome", "(LRuleHouse2$Target;II)Z"⟩
abbrev wX0_mayBecome : Cond := .code yX0_mayBecome cX0_mayBecome 3 (some .boolean)
abbrev wsX0_mayBecome : List Cond := wX0_mayBecome :: m_tbl
theorem kX0_mayBecome : [wX0_mayBecome].all (fun w => decide (w ∈ lw_tbl) && goodWord w) = true := by decide +kernel
abbrev cX0_digest : ByteArray := prog_1_method_20_code
def yX0_digest : MethodName := ⟨RX0, "digest", "(II)I"⟩
abbrev wX0_digest : Cond := .code yX0_digest cX0_digest 5 (some .int)
abbrev wsX0_digest : List Cond := wX0_digest :: m_tbl
theorem kX0_digest : [wX0_digest].all (fun w => decide (w ∈ lw_tbl) && goodWord w) = true := by decide +kernel
abbrev cX0_runOnce : ByteArray := prog_1_method_21_code
def yX0_runOnce : MethodName := ⟨RX0, "runOnce", "(LRuleHouse2$Target;I)V"⟩
abbrev wX0_runOnce : Cond := .code yX0_runOnce cX0_runOnce 4 none
abbrev wsX0_runOnce : List Cond := wX0_runOnce :: m_tbl
theorem kX0_runOnce : [wX0_runOnce].all (fun w => decide (w ∈ lw_tbl) && goodWord w) = true := by decide +kernel
abbrev cX0_doBits : ByteArray := prog_1_method_22_code
def yX0_doBits : MethodName := ⟨RX0, "doBits", "(LRuleHouse2$Target;LRuleHouse2$Target;)V"⟩
abbrev wX0_doBits : Cond := .code yX0_doBits cX0_doBits 6 none
abbrev wsX0_doBits : List Cond := wX0_doBits :: m_tbl
theorem kX0_doBits : [wX0_doBits].all (fun w => decide (w ∈ lw_tbl) && goodWord w) = true := by decide +kernel
abbrev cX0_takesStep : ByteArray := prog_1_method_23_code
def yX0_takesStep : MethodName := ⟨RX0, "takesStep", "(LRuleHouse2$Target;)Z"⟩
abbrev wX0_takesStep : Cond := .code yX0_takesStep cX0_takesStep 2 (some .boolean)
abbrev wsX0_takesStep : List Cond := wX0_takesStep :: m_tbl
theorem kX0_takesStep : [wX0_takesStep].all (fun w => decide (w ∈ lw_tbl) && goodWord w) = true := by decide +kernel
abbrev cX0_doBit : ByteArray := prog_1_method_24_code
def yX0_doBit : MethodName := ⟨RX0, "doBit", "(LRuleHouse2$Target;LRuleHouse2$Target;I)I"⟩
abbrev wX0_doBit : Cond := .code yX0_doBit cX0_doBit 4 (some .int)
abbrev wsX0_doBit : List Cond := wX0_doBit :: m_tbl
theorem kX0_doBit : [wX0_doBit].all (fun w => decide (w ∈ lw_tbl) && goodWord w) = true := by decide +kernel
abbrev cX0_declareOutput : ByteArray := prog_1_method_25_code
def yX0_declareOutput : MethodName := ⟨RX0, "declareOutput", "(LRuleHouse2$Target;)I"⟩
abbrev wX0_declareOutput : Cond := .code yX0_declareOutput cX0_declareOutput 1 (some .int)
abbrev wsX0_declareOutput : List Cond := wX0_declareOutput :: m_tbl
theorem kX0_declareOutput : [wX0_declareOutput].all (fun w => decide (w ∈ lw_tbl) && goodWord w) = true := by decide +kernel
abbrev cX0_addActions : ByteArray := prog_1_method_26_code
def yX0_addActions : MethodName := ⟨RX0, "addActions", "(LRuleHouse2$Target;)I"⟩
abbrev wX0_addActions : Cond := .code yX0_addActions cX0_addActions 4 (some .int)
abbrev wsX0_addActions : List Cond := wX0_addActions :: m_tbl
theorem kX0_addActions : [wX0_addActions].all (fun w => decide (w ∈ lw_tbl) && goodWord w) = true := by decide +kernel
abbrev cX0_giveQuotient : ByteArray := prog_1_method_27_code
def yX0_giveQuotient : MethodName := ⟨RX0, "giveQuotient", "(LRuleHouse2$Target;)I"⟩
abbrev wX0_giveQuotient : Cond := .code yX0_giveQuotient cX0_giveQuotient 2 (some .int)
abbrev wsX0_giveQuotient : List Cond := wX0_giveQuotient :: m_tbl
theorem kX0_giveQuotient : [wX0_giveQuotient].all (fun w => decide (w ∈ lw_tbl) && goodWord w) = true := by decide +kernel
abbrev cX0_giveOneMore : ByteArray := prog_1_method_28_code
def yX0_giveOneMore : MethodName := ⟨RX0, "giveOneMore", "(LRuleHouse2$Target;LRuleHouse2$Target;)I"⟩
abbrev wX0_giveOneMore : Cond := .code yX0_giveOneMore cX0_giveOneMore 2 (some .int)
abbrev wsX0_giveOneMore : List Cond := wX0_giveOneMore :: m_tbl
theorem kX0_giveOneMore : [wX0_giveOneMore].all (fun w => decide (w ∈ lw_tbl) && goodWord w) = true := by decide +kernel
abbrev cX0_countInCell : ByteArray := prog_1_method_29_code
def yX0_countInCell : MethodName := ⟨RX0, "countInCell", "(LRuleHouse2$Target;)I"⟩
abbrev wX0_countInCell : Cond := .code yX0_countInCell cX0_countInCell 1 (some .int)
abbrev wsX0_countInCell : List Cond := wX0_countInCell :: m_tbl
theorem kX0_countInCell : [wX0_countInCell].all (fun w => decide (w ∈ lw_tbl) && goodWord w) = true := by decide +kernel
abbrev cX0_giveAmount : ByteArray := prog_1_method_30_code
def yX0_giveAmount : MethodName := ⟨RX0, "giveAmount", "(LRuleHouse2$Target;)I"⟩
abbrev wX0_giveAmount : Cond := .code yX0_giveAmount cX0_giveAmount 2 (some .int)
abbrev wsX0_giveAmount : List Cond := wX0_giveAmount :: m_tbl
theorem kX0_giveAmount : [wX0_giveAmount].all (fun w => decide (w ∈ lw_tbl) && goodWord w) = true := by decide +kernel
abbrev cX0_keepHandle : ByteArray := prog_1_method_31_code
def yX0_keepHandle : MethodName := ⟨RX0, "keepHandle", "()I"⟩
abbrev wX0_keepHandle : Cond := .code yX0_keepHandle cX0_keepHandle 1 (some .int)
abbrev wsX0_keepHandle : List Cond := wX0_keepHandle :: m_tbl
theorem kX0_keepHandle : [wX0_keepHandle].all (fun w => decide (w ∈ lw_tbl) && goodWord w) = true := by decide +kernel
abbrev cX3_init : ByteArray := prog_5_method_1_code
def yX3_init : MethodName := ⟨RX3, "<init>", "(I)V"⟩
abbrev wX3_init : Cond := .code yX3_init cX3_init 2 none
abbrev wsX3_init : List Cond := wX3_init :: m_tbl
theorem kX3_init : [wX3_init].all (fun w => decide (w ∈ lw_tbl) && goodWord w) = true := by decide +kernel
abbrev cX3_thrown : ByteArray := prog_5_method_2_code
def yX3_thrown : MethodName := ⟨RX3, "thrown", "()I"⟩
abbrev wX3_thrown : Cond := .code yX3_thrown cX3_thrown 1 (some .int)
abbrev wsX3_thrown : List Cond := wX3_thrown :: m_tbl
theorem kX3_thrown : [wX3_thrown].all (fun w => decide (w ∈ lw_tbl) && goodWord w) = true := by decide +kernel
abbrev cX3_isRule : ByteArray := prog_5_method_3_code
def yX3_isRule : MethodName := ⟨RX3, "isRule", "(I)Z"⟩
abbrev wX3_isRule : Cond := .code yX3_isRule cX3_isRule 2 (some .boolean)
abbrev wsX3_isRule : List Cond := wX3_isRule :: m_tbl
theorem kX3_isRule : [wX3_isRule].all (fun w => decide (w ∈ lw_tbl) && goodWord w) = true := by decide +kernel
abbrev cX3_isTarget : ByteArray := prog_5_method_4_code
def yX3_isTarget : MethodName := ⟨RX3, "isTarget", "(I)Z"⟩
abbrev wX3_isTarget : Cond := .code yX3_isTarget cX3_isTarget 2 (some .boolean)
abbrev wsX3_isTarget : List Cond := wX3_isTarget :: m_tbl
theorem kX3_isTarget : [wX3_isTarget].all (fun w => decide (w ∈ lw_tbl) && goodWord w) = true := by decide +kernel
abbrev cX3_rule : ByteArray := prog_5_method_5_code
def yX3_rule : MethodName := ⟨RX3, "rule", "(IIZ)I"⟩
abbrev wX3_rule : Cond := .code yX3_rule cX3_rule 4 (some .int)
abbrev wsX3_rule : List Cond := wX3_rule :: m_tbl
theorem kX3_rule : [wX3_rule].all (fun w => decide (w ∈ lw_tbl) && goodWord w) = true := by decide +kernel
abbrev cX3_firstOf : ByteArray := prog_5_method_6_code
def yX3_firstOf : MethodName := ⟨RX3, "firstOf", "(I)I"⟩
abbrev wX3_firstOf : Cond := .code yX3_firstOf cX3_firstOf 3 (some .int)
abbrev wsX3_firstOf : List Cond := wX3_firstOf :: m_tbl
theorem kX3_firstOf : [wX3_firstOf].all (fun w => decide (w ∈ lw_tbl) && goodWord w) = true := by decide +kernel
abbrev cX3_classOf : ByteArray := prog_5_method_7_code
def yX3_classOf : MethodName := ⟨RX3, "classOf", "(I)I"⟩
abbrev wX3_classOf : Cond := .code yX3_classOf cX3_classOf 3 (some .int)
abbrev wsX3_classOf : List Cond := wX3_classOf :: m_tbl
theorem kX3_classOf : [wX3_classOf].all (fun w => decide (w ∈ lw_tbl) && goodWord w) = true := by decide +kernel
abbrev cX3_make : ByteArray := prog_5_method_8_code
def yX3_make : MethodName := ⟨RX3, "make", "(I)I"⟩
abbrev wX3_make : Cond := .code yX3_make cX3_make 2 (some .int)
abbrev wsX3_make : List Cond := wX3_make :: m_tbl
theorem kX3_make : [wX3_make].all (fun w => decide (w ∈ lw_tbl) && goodWord w) = true := by decide +kernel
abbrev cX3_cell : ByteArray := prog_5_method_9_code
def yX3_cell : MethodName := ⟨RX3, "cell", "(I)J"⟩
abbrev wX3_cell : Cond := .code yX3_cell cX3_cell 3 (some .long)
abbrev wsX3_cell : List Cond := wX3_cell :: m_tbl
theorem kX3_cell : [wX3_cell].all (fun w => decide (w ∈ lw_tbl) && goodWord w) = true := by decide +kernel
abbrev cX3_same : ByteArray := prog_5_method_10_code
def yX3_same : MethodName := ⟨RX3, "same", "(II)Z"⟩
abbrev wX3_same : Cond := .code yX3_same cX3_same 3 (some .boolean)
abbrev wsX3_same : List Cond := wX3_same :: m_tbl
theorem kX3_same : [wX3_same].all (fun w => decide (w ∈ lw_tbl) && goodWord w) = true := by decide +kernel
abbrev cX3_divide : ByteArray := prog_5_method_11_code
def yX3_divide : MethodName := ⟨RX3, "divide", "(IJJ)J"⟩
abbrev wX3_divide : Cond := .code yX3_divide cX3_divide 7 (some .long)
abbrev wsX3_divide : List Cond := wX3_divide :: m_tbl
theorem kX3_divide : [wX3_divide].all (fun w => decide (w ∈ lw_tbl) && goodWord w) = true := by decide +kernel
abbrev cX3_handle : ByteArray := prog_5_method_12_code
def yX3_handle : MethodName := ⟨RX3, "handle", "(I)I"⟩
abbrev wX3_handle : Cond := .code yX3_handle cX3_handle 2 (some .int)
abbrev wsX3_handle : List Cond := wX3_handle :: m_tbl
theorem kX3_handle : [wX3_handle].all (fun w => decide (w ∈ lw_tbl) && goodWord w) = true := by decide +kernel
abbrev cX3_target : ByteArray := prog_5_method_13_code
def yX3_target : MethodName := ⟨RX3, "target", "(I)I"⟩
abbrev wX3_target : Cond := .code yX3_target cX3_target 2 (some .int)
abbrev wsX3_target : List Cond := wX3_target :: m_tbl
theorem kX3_target : [wX3_target].all (fun w => decide (w ∈ lw_tbl) && goodWord w) = true := by decide +kernel
abbrev cX3_attribute : ByteArray := prog_5_method_14_code
def yX3_attribute : MethodName := ⟨RX3, "attribute", "(III)I"⟩
abbrev wX3_attribute : Cond := .code yX3_attribute cX3_attribute 6 (some .int)
abbrev wsX3_attribute : List Cond := wX3_attribute :: m_tbl
theorem kX3_attribute : [wX3_attribute].all (fun w => decide (w ∈ lw_tbl) && goodWord w) = true := by decide +kernel
abbrev cX3_fail : ByteArray := prog_5_method_15_code
def yX3_fail : MethodName := ⟨RX3, "fail", "(IIII)V"⟩
abbrev wX3_fail : Cond := .code yX3_fail cX3_fail 6 none
abbrev wsX3_fail : List Cond := wX3_fail :: m_tbl
theorem kX3_fail : [wX3_fail].all (fun w => decide (w ∈ lw_tbl) && goodWord w) = true := by decide +kernel
abbrev cX3_give : ByteArray := prog_5_method_16_code
def yX3_give : MethodName := ⟨RX3, "give", "(III)V"⟩
abbrev wX3_give : Cond := .code yX3_give cX3_give 4 none
abbrev wsX3_give : List Cond := wX3_give :: m_tbl
theorem kX3_give : [wX3_give].all (fun w => decide (w ∈ lw_tbl) && goodWord w) = true := by decide +kernel
abbrev cX3_step : ByteArray := prog_5_method_17_code
def yX3_step : MethodName := ⟨RX3, "step", "(I)Z"⟩
abbrev wX3_step : Cond := .code yX3_step cX3_step 2 (some .boolean)
abbrev wsX3_step : List Cond := wX3_step :: m_tbl
theorem kX3_step : [wX3_step].all (fun w => decide (w ∈ lw_tbl) && goodWord w) = true := by decide +kernel
abbrev cX3_runChain : ByteArray := prog_5_method_18_code
def yX3_runChain : MethodName := ⟨RX3, "runChain", "(I)V"⟩
abbrev wX3_runChain : Cond := .code yX3_runChain cX3_runChain 6 none
abbrev wsX3_runChain : List Cond := wX3_runChain :: m_tbl
theorem kX3_runChain : [wX3_runChain].all (fun w => decide (w ∈ lw_tbl) && goodWord w) = true := by decide +kernel
abbrev cX3_runOne : ByteArray := prog_5_method_19_code
def yX3_runOne : MethodName := ⟨RX3, "runOne", "(I)V"⟩
abbrev wX3_runOne : Cond := .code yX3_runOne cX3_runOne 6 none
abbrev wsX3_runOne : List Cond := wX3_runOne :: m_tbl
theorem kX3_runOne : [wX3_runOne].all (fun w => decide (w ∈ lw_tbl) && goodWord w) = true := by decide +kernel
abbrev cX3_deed : ByteArray := prog_5_method_20_code
def yX3_deed : MethodName := ⟨RX3, "deed", "(IIII)I"⟩
abbrev wX3_deed : Cond := .code yX3_deed cX3_deed 7 (some .int)
abbrev wsX3_deed : List Cond := wX3_deed :: m_tbl
theorem kX3_deed : [wX3_deed].all (fun w => decide (w ∈ lw_tbl) && goodWord w) = true := by decide +kernel
abbrev cX3_act : ByteArray := prog_5_method_21_code
def yX3_act : MethodName := ⟨RX3, "act", "(II)I"⟩
abbrev wX3_act : Cond := .code yX3_act cX3_act 4 (some .int)
abbrev wsX3_act : List Cond := wX3_act :: m_tbl
theorem kX3_act : [wX3_act].all (fun w => decide (w ∈ lw_tbl) && goodWord w) = true := by decide +kernel
abbrev cX3_run : ByteArray := prog_5_method_22_code
def yX3_run : MethodName := ⟨RX3, "run", "(I)I"⟩
abbrev wX3_run : Cond := .code yX3_run cX3_run 2 (some .int)
abbrev wsX3_run : List Cond := wX3_run :: m_tbl
theorem kX3_run : [wX3_run].all (fun w => decide (w ∈ lw_tbl) && goodWord w) = true := by decide +kernel
abbrev cX3_action : ByteArray := prog_5_method_23_code
def yX3_action : MethodName := ⟨RX3, "action", "(II)I"⟩
abbrev wX3_action : Cond := .code yX3_action cX3_action 5 (some .int)
abbrev wsX3_action : List Cond := wX3_action :: m_tbl
theorem kX3_action : [wX3_action].all (fun w => decide (w ∈ lw_tbl) && goodWord w) = true := by decide +kernel
abbrev cX3_provider : ByteArray := prog_5_method_24_code
def yX3_provider : MethodName := ⟨RX3, "provider", "(II)I"⟩
abbrev wX3_provider : Cond := .code yX3_provider cX3_provider 3 (some .int)
abbrev wsX3_provider : List Cond := wX3_provider :: m_tbl
theorem kX3_provider : [wX3_provider].all (fun w => decide (w ∈ lw_tbl) && goodWord w) = true := by decide +kernel
abbrev cX3_failed : ByteArray := prog_5_method_25_code
def yX3_failed : MethodName := ⟨RX3, "failed", "(II)I"⟩
abbrev wX3_failed : Cond := .code yX3_failed cX3_failed 3 (some .int)
abbrev wsX3_failed : List Cond := wX3_failed :: m_tbl
theorem kX3_failed : [wX3_failed].all (fun w => decide (w ∈ lw_tbl) && goodWord w) = true := by decide +kernel
abbrev cX1_init : ByteArray := prog_2_method_1_code
def yX1_init : MethodName := ⟨RX1, "<init>", "(IIZ)V"⟩
abbrev wX1_init : Cond := .code yX1_init cX1_init 4 none
abbrev wsX1_init : List Cond := wX1_init :: m_tbl
theorem kX1_init : [wX1_init].all (fun w => decide (w ∈ lw_tbl) && goodWord w) = true := by decide +kernel
abbrev cX1_isOf : ByteArray := prog_2_method_2_code
def yX1_isOf : MethodName := ⟨RX1, "isOf", "(II)Z"⟩
abbrev wX1_isOf : Cond := .code yX1_isOf cX1_isOf 3 (some .boolean)
abbrev wsX1_isOf : List Cond := wX1_isOf :: m_tbl
theorem kX1_isOf : [wX1_isOf].all (fun w => decide (w ∈ lw_tbl) && goodWord w) = true := by decide +kernel
abbrev cX2_init : ByteArray := prog_3_method_1_code
def yX2_init : MethodName := ⟨RX2, "<init>", "(ILRuleHouse2$RuleClass;)V"⟩
abbrev wX2_init : Cond := .code yX2_init cX2_init 3 none
abbrev wsX2_init : List Cond := wX2_init :: m_tbl
theorem kX2_init : [wX2_init].all (fun w => decide (w ∈ lw_tbl) && goodWord w) = true := by decide +kernel
abbrev cX2_give : ByteArray := prog_3_method_2_code
def yX2_give : MethodName := ⟨RX2, "give", "(II)V"⟩
abbrev wX2_give : Cond := .code yX2_give cX2_give 3 none
abbrev wsX2_give : List Cond := wX2_give :: m_tbl
theorem kX2_give : [wX2_give].all (fun w => decide (w ∈ lw_tbl) && goodWord w) = true := by decide +kernel
abbrev cX2_fail : ByteArray := prog_3_method_3_code
def yX2_fail : MethodName := ⟨RX2, "fail", "(III)V"⟩
abbrev wX2_fail : Cond := .code yX2_fail cX2_fail 5 none
abbrev wsX2_fail : List Cond := wX2_fail :: m_tbl
theorem kX2_fail : [wX2_fail].all (fun w => decide (w ∈ lw_tbl) && goodWord w) = true := by decide +kernel
abbrev cL_cell : ByteArray := method_2_code
def yL_cell : MethodName := ⟨RL, "cell", "([II)I"⟩
abbrev wL_cell : Cond := .code yL_cell cL_cell 2 (some .int)
abbrev wsL_cell : List Cond := wL_cell :: m_tbl
theorem kL_cell : [wL_cell].all (fun w => decide (w ∈ lw_tbl) && goodWord w) = true := by decide +kernel
abbrev cL_divide : ByteArray := method_3_code
def yL_divide : MethodName := ⟨RL, "divide", "(LRuleHouse2;IJJ[J)I"⟩
abbrev wL_divide : Cond := .codeWith yL_divide cL_divide 8 (some .int) [(0, 12, 15, 13)]
abbrev wsL_divide : List Cond := wL_divide :: m_tbl
abbrev cL_handle : ByteArray := method_4_code
def yL_handle : MethodName := ⟨RL, "handle", "(LRuleHouse2;I[J)I"⟩
abbrev wL_handle : Cond := .codeWith yL_handle cL_handle 4 (some .int) [(0, 9, 12, 19)]
abbrev wsL_handle : List Cond := wL_handle :: m_tbl
end
section
theorem dX0_init_0 : decode cX0_init 0 = .ok (.aload_n 0, 1) := by decide +kernel
theorem dX0_init_1 : decode cX0_init 1 = .ok (.invokespecial 1, 3) := by decide +kernel
theorem dX0_init_4 : decode cX0_init 4 = .ok (.aload_n 0, 1) := by decide +kernel
theorem dX0_init_5 : decode cX0_init 5 = .ok (.bipush 16, 2) := by decide +kernel
theorem dX0_init_7 : decode cX0_init 7 = .ok (.anewarray 9, 3) := by decide +kernel
theorem dX0_init_10 : decode cX0_init 10 = .ok (.putfield 11, 3) := by decide +kernel
theorem dX0_init_13 : decode cX0_init 13 = .ok (.aload_n 0, 1) := by decide +kernel
theorem dX0_init_14 : decode cX0_init 14 = .ok (.iconst 0, 1) := by decide +kernel
theorem dX0_init_15 : decode cX0_init 15 = .ok (.putfield 15, 3) := by decide +kernel
theorem dX0_init_18 : decode cX0_init 18 = .ok (.aload_n 0, 1) := by decide +kernel
theorem dX0_init_19 : decode cX0_init 19 = .ok (.iconst 0, 1) := by decide +kernel
theorem dX0_init_20 : decode cX0_init 20 = .ok (.putfield 19, 3) := by decide +kernel
theorem dX0_init_23 : decode cX0_init 23 = .ok (.aload_n 0, 1) := by decide +kernel
theorem dX0_init_24 : decode cX0_init 24 = .ok (.bipush 40, 2) := by decide +kernel
theorem dX0_init_26 : decode cX0_init 26 = .ok (.anewarray 22, 3) := by decide +kernel
theorem dX0_init_29 : decode cX0_init 29 = .ok (.putfield 24, 3) := by decide +kernel
theorem dX0_init_32 : decode cX0_init 32 = .ok (.aload_n 0, 1) := by decide +kernel
theorem dX0_init_33 : decode cX0_init 33 = .ok (.iconst 0, 1) := by decide +kernel
theorem dX0_init_34 : decode cX0_init 34 = .ok (.putfield 28, 3) := by decide +kernel
theorem dX0_init_37 : decode cX0_init 37 = .ok (.aload_n 0, 1) := by decide +kernel
theorem dX0_init_38 : decode cX0_init 38 = .ok (.sipush 400, 3) := by decide +kernel
theorem dX0_init_41 : decode cX0_init 41 = .ok (.newarray .int, 2) := by decide +kernel
theorem dX0_init_43 : decode cX0_init 43 = .ok (.putfield 31, 3) := by decide +kernel
theorem dX0_init_46 : decode cX0_init 46 = .ok (.aload_n 0, 1) := by decide +kernel
theorem dX0_init_47 : decode cX0_init 47 = .ok (.sipush 400, 3) := by decide +kernel
theorem dX0_init_50 : decode cX0_init 50 = .ok (.newarray .int, 2) := by decide +kernel
theorem dX0_init_52 : decode cX0_init 52 = .ok (.putfield 35, 3) := by decide +kernel
theorem dX0_init_55 : decode cX0_init 55 = .ok (.aload_n 0, 1) := by decide +kernel
theorem dX0_init_56 : decode cX0_init 56 = .ok (.iconst 0, 1) := by decide +kernel
theorem dX0_init_57 : decode cX0_init 57 = .ok (.putfield 38, 3) := by decide +kernel
theorem dX0_init_60 : decode cX0_init 60 = .ok (.aload_n 0, 1) := by decide +kernel
theorem dX0_init_61 : decode cX0_init 61 = .ok (.iconst 0, 1) := by decide +kernel
theorem dX0_init_62 : decode cX0_init 62 = .ok (.putfield 41, 3) := by decide +kernel
theorem dX0_init_65 : decode cX0_init 65 = .ok (.aload_n 0, 1) := by decide +kernel
theorem dX0_init_66 : decode cX0_init 66 = .ok (.iload_n 1, 1) := by decide +kernel
theorem dX0_init_67 : decode cX0_init 67 = .ok (.iconst 0, 1) := by decide +kernel
theorem dX0_init_68 : decode cX0_init 68 = .ok (.invokestatic 44, 3) := by decide +kernel
theorem dX0_init_71 : decode cX0_init 71 = .ok (.ldc 50, 2) := by decide +kernel
theorem dX0_init_73 : decode cX0_init 73 = .ok (.invokestatic 51, 3) := by decide +kernel
theorem dX0_init_76 : decode cX0_init 76 = .ok (.putfield 54, 3) := by decide +kernel
theorem dX0_init_79 : decode cX0_init 79 = .ok (.return_, 1) := by decide +kernel
theorem dX0_isWithin_0 : decode cX0_isWithin 0 = .ok (.iload_n 0, 1) := by decide +kernel
theorem dX0_isWithin_1 : decode cX0_isWithin 1 = .ok (.ifCond .lt 12, 3) := by decide +kernel
theorem dX0_isWithin_13 : decode cX0_isWithin 13 = .ok (.iconst 0, 1) := by decide +kernel
theorem dX0_isWithin_14 : decode cX0_isWithin 14 = .ok (.ireturn, 1) := by decide +kernel
theorem dX0_isWithin_4 : decode cX0_isWithin 4 = .ok (.iload_n 0, 1) := by decide +kernel
theorem dX0_isWithin_5 : decode cX0_isWithin 5 = .ok (.iload_n 1, 1) := by decide +kernel
theorem dX0_isWithin_6 : decode cX0_isWithin 6 = .ok (.if_icmp .gt 7, 3) := by decide +kernel
theorem dX0_isWithin_9 : decode cX0_isWithin 9 = .ok (.iconst 1, 1) := by decide +kernel
theorem dX0_isWithin_10 : decode cX0_isWithin 10 = .ok (.goto 4, 3) := by decide +kernel
theorem dX0_classAt_0 : decode cX0_classAt 0 = .ok (.iload_n 1, 1) := by decide +kernel
theorem dX0_classAt_1 : decode cX0_classAt 1 = .ok (.aload_n 0, 1) := by decide +kernel
theorem dX0_classAt_2 : decode cX0_classAt 2 = .ok (.getfield 15, 3) := by decide +kernel
theorem dX0_classAt_5 : decode cX0_classAt 5 = .ok (.iconst 1, 1) := by decide +kernel
theorem dX0_classAt_6 : decode cX0_classAt 6 = .ok (.isub, 1) := by decide +kernel
theorem dX0_classAt_7 : decode cX0_classAt 7 = .ok (.invokestatic 57, 3) := by decide +kernel
theorem dX0_classAt_10 : decode cX0_classAt 10 = .ok (.ifCond .eq 12, 3) := by decide +kernel
theorem dX0_classAt_22 : decode cX0_classAt 22 = .ok (.aconst_null, 1) := by decide +kernel
theorem dX0_classAt_23 : decode cX0_classAt 23 = .ok (.areturn, 1) := by decide +kernel
theorem dX0_classAt_13 : decode cX0_classAt 13 = .ok (.aload_n 0, 1) := by decide +kernel
theorem dX0_classAt_14 : decode cX0_classAt 14 = .ok (.getfield 11, 3) := by decide +kernel
theorem dX0_classAt_17 : decode cX0_classAt 17 = .ok (.iload_n 1, 1) := by decide +kernel
theorem dX0_classAt_18 : decode cX0_classAt 18 = .ok (.aaload, 1) := by decide +kernel
theorem dX0_classAt_19 : decode cX0_classAt 19 = .ok (.goto 4, 3) := by decide +kernel
theorem dX1_isOf_0 : decode cX1_isOf 0 = .ok (.aload_n 0, 1) := by decide +kernel
theorem dX1_isOf_1 : decode cX1_isOf 1 = .ok (.getfield 23, 3) := by decide +kernel
theorem dX1_isOf_4 : decode cX1_isOf 4 = .ok (.iload_n 1, 1) := by decide +kernel
theorem dX1_isOf_5 : decode cX1_isOf 5 = .ok (.if_icmp .ne 15, 3) := by decide +kernel
theorem dX1_isOf_20 : decode cX1_isOf 20 = .ok (.iconst 0, 1) := by decide +kernel
theorem dX1_isOf_21 : decode cX1_isOf 21 = .ok (.ireturn, 1) := by decide +kernel
theorem dX1_isOf_8 : decode cX1_isOf 8 = .ok (.aload_n 0, 1) := by decide +kernel
theorem dX1_isOf_9 : decode cX1_isOf 9 = .ok (.getfield 26, 3) := by decide +kernel
theorem dX1_isOf_12 : decode cX1_isOf 12 = .ok (.iload_n 2, 1) := by decide +kernel
theorem dX1_isOf_13 : decode cX1_isOf 13 = .ok (.if_icmp .ne 7, 3) := by decide +kernel
theorem dX1_isOf_16 : decode cX1_isOf 16 = .ok (.iconst 1, 1) := by decide +kernel
theorem dX1_isOf_17 : decode cX1_isOf 17 = .ok (.goto 4, 3) := by decide +kernel
theorem dX0_findClass_0 : decode cX0_findClass 0 = .ok (.iconst 0, 1) := by decide +kernel
theorem dX0_findClass_1 : decode cX0_findClass 1 = .ok (.istore_n 3, 1) := by decide +kernel
theorem dX0_findClass_2 : decode cX0_findClass 2 = .ok (.iload_n 3, 1) := by decide +kernel
theorem dX0_findClass_3 : decode cX0_findClass 3 = .ok (.aload_n 0, 1) := by decide +kernel
theorem dX0_findClass_4 : decode cX0_findClass 4 = .ok (.getfield 15, 3) := by decide +kernel
theorem dX0_findClass_7 : decode cX0_findClass 7 = .ok (.if_icmp .ge 34, 3) := by decide +kernel
theorem dX0_findClass_41 : decode cX0_findClass 41 = .ok (.aconst_null, 1) := by decide +kernel
theorem dX0_findClass_42 : decode cX0_findClass 42 = .ok (.areturn, 1) := by decide +kernel
theorem dX0_findClass_10 : decode cX0_findClass 10 = .ok (.aload_n 0, 1) := by decide +kernel
theorem dX0_findClass_11 : decode cX0_findClass 11 = .ok (.iload_n 3, 1) := by decide +kernel
theorem dX0_findClass_12 : decode cX0_findClass 12 = .ok (.invokevirtual 68, 3) := by decide +kernel
theorem dX0_findClass_15 : decode cX0_findClass 15 = .ok (.astore 4, 2) := by decide +kernel
theorem dX0_findClass_17 : decode cX0_findClass 17 = .ok (.aload 4, 2) := by decide +kernel
theorem dX0_findClass_19 : decode cX0_findClass 19 = .ok (.ifnull 16, 3) := by decide +kernel
theorem dX0_findClass_35 : decode cX0_findClass 35 = .ok (.iinc 3 1, 3) := by decide +kernel
theorem dX0_findClass_38 : decode cX0_findClass 38 = .ok (.goto (-36), 3) := by decide +kernel
theorem dX0_findClass_22 : decode cX0_findClass 22 = .ok (.aload 4, 2) := by decide +kernel
theorem dX0_findClass_24 : decode cX0_findClass 24 = .ok (.iload_n 1, 1) := by decide +kernel
theorem dX0_findClass_25 : decode cX0_findClass 25 = .ok (.iload_n 2, 1) := by decide +kernel
theorem dX0_findClass_26 : decode cX0_findClass 26 = .ok (.invokevirtual 138, 3) := by decide +kernel
theorem dX0_findClass_29 : decode cX0_findClass 29 = .ok (.ifCond .eq 6, 3) := by decide +kernel
theorem dX0_findClass_32 : decode cX0_findClass 32 = .ok (.aload 4, 2) := by decide +kernel
theorem dX0_findClass_34 : decode cX0_findClass 34 = .ok (.areturn, 1) := by decide +kernel
theorem dX1_init_0 : decode cX1_init 0 = .ok (.aload_n 0, 1) := by decide +kernel
theorem dX1_init_1 : decode cX1_init 1 = .ok (.invokespecial 3, 3) := by decide +kernel
theorem dX1_init_4 : decode cX1_init 4 = .ok (.aload_n 0, 1) := by decide +kernel
theorem dX1_init_5 : decode cX1_init 5 = .ok (.iconst 0, 1) := by decide +kernel
theorem dX1_init_6 : decode cX1_init 6 = .ok (.putfield 9, 3) := by decide +kernel
theorem dX1_init_9 : decode cX1_init 9 = .ok (.aload_n 0, 1) := by decide +kernel
theorem dX1_init_10 : decode cX1_init 10 = .ok (.iconst (-1), 1) := by decide +kernel
theorem dX1_init_11 : decode cX1_init 11 = .ok (.putfield 15, 3) := by decide +kernel
theorem dX1_init_14 : decode cX1_init 14 = .ok (.aload_n 0, 1) := by decide +kernel
theorem dX1_init_15 : decode cX1_init 15 = .ok (.lconst 0, 1) := by decide +kernel
theorem dX1_init_16 : decode cX1_init 16 = .ok (.putfield 19, 3) := by decide +kernel
theorem dX1_init_19 : decode cX1_init 19 = .ok (.aload_n 0, 1) := by decide +kernel
theorem dX1_init_20 : decode cX1_init 20 = .ok (.iload_n 1, 1) := by decide +kernel
theorem dX1_init_21 : decode cX1_init 21 = .ok (.putfield 23, 3) := by decide +kernel
theorem dX1_init_24 : decode cX1_init 24 = .ok (.aload_n 0, 1) := by decide +kernel
theorem dX1_init_25 : decode cX1_init 25 = .ok (.iload_n 2, 1) := by decide +kernel
theorem dX1_init_26 : decode cX1_init 26 = .ok (.putfield 26, 3) := by decide +kernel
theorem dX1_init_29 : decode cX1_init 29 = .ok (.aload_n 0, 1) := by decide +kernel
theorem dX1_init_30 : decode cX1_init 30 = .ok (.iload_n 3, 1) := by decide +kernel
theorem dX1_init_31 : decode cX1_init 31 = .ok (.putfield 29, 3) := by decide +kernel
theorem dX1_init_34 : decode cX1_init 34 = .ok (.return_, 1) := by decide +kernel
theorem dX0_rule_0 : decode cX0_rule 0 = .ok (.iload_n 1, 1) := by decide +kernel
theorem dX0_rule_1 : decode cX0_rule 1 = .ok (.iconst 3, 1) := by decide +kernel
theorem dX0_rule_2 : decode cX0_rule 2 = .ok (.invokestatic 57, 3) := by decide +kernel
theorem dX0_rule_5 : decode cX0_rule 5 = .ok (.ifCond .eq 13, 3) := by decide +kernel
theorem dX0_rule_18 : decode cX0_rule 18 = .ok (.bipush (-2), 2) := by decide +kernel
theorem dX0_rule_20 : decode cX0_rule 20 = .ok (.ireturn, 1) := by decide +kernel
theorem dX0_rule_8 : decode cX0_rule 8 = .ok (.iload_n 2, 1) := by decide +kernel
theorem dX0_rule_9 : decode cX0_rule 9 = .ok (.sipush 255, 3) := by decide +kernel
theorem dX0_rule_12 : decode cX0_rule 12 = .ok (.invokestatic 57, 3) := by decide +kernel
theorem dX0_rule_15 : decode cX0_rule 15 = .ok (.ifCond .ne 6, 3) := by decide +kernel
theorem dX0_rule_21 : decode cX0_rule 21 = .ok (.aload_n 0, 1) := by decide +kernel
theorem dX0_rule_22 : decode cX0_rule 22 = .ok (.getfield 15, 3) := by decide +kernel
theorem dX0_rule_25 : decode cX0_rule 25 = .ok (.bipush 16, 2) := by decide +kernel
theorem dX0_rule_27 : decode cX0_rule 27 = .ok (.if_icmp .lt 6, 3) := by decide +kernel
theorem dX0_rule_33 : decode cX0_rule 33 = .ok (.aload_n 0, 1) := by decide +kernel
theorem dX0_rule_34 : decode cX0_rule 34 = .ok (.iload_n 1, 1) := by decide +kernel
theorem dX0_rule_35 : decode cX0_rule 35 = .ok (.iload_n 2, 1) := by decide +kernel
theorem dX0_rule_36 : decode cX0_rule 36 = .ok (.invokevirtual 61, 3) := by decide +kernel
theorem dX0_rule_39 : decode cX0_rule 39 = .ok (.astore 4, 2) := by decide +kernel
theorem dX0_rule_41 : decode cX0_rule 41 = .ok (.aload_n 0, 1) := by decide +kernel
theorem dX0_rule_42 : decode cX0_rule 42 = .ok (.getfield 11, 3) := by decide +kernel
theorem dX0_rule_45 : decode cX0_rule 45 = .ok (.aload_n 0, 1) := by decide +kernel
theorem dX0_rule_46 : decode cX0_rule 46 = .ok (.getfield 15, 3) := by decide +kernel
theorem dX0_rule_49 : decode cX0_rule 49 = .ok (.aload 4, 2) := by decide +kernel
theorem dX0_rule_51 : decode cX0_rule 51 = .ok (.ifnull 8, 3) := by decide +kernel
theorem dX0_rule_59 : decode cX0_rule 59 = .ok (.new 9, 3) := by decide +kernel
theorem dX0_rule_62 : decode cX0_rule 62 = .ok (.dup, 1) := by decide +kernel
theorem dX0_rule_63 : decode cX0_rule 63 = .ok (.iload_n 1, 1) := by decide +kernel
theorem dX0_rule_64 : decode cX0_rule 64 = .ok (.iload_n 2, 1) := by decide +kernel
theorem dX0_rule_65 : decode cX0_rule 65 = .ok (.iload_n 3, 1) := by decide +kernel
theorem dX0_rule_66 : decode cX0_rule 66 = .ok (.invokespecial 65, 3) := by decide +kernel
theorem dX0_rule_69 : decode cX0_rule 69 = .ok (.aastore, 1) := by decide +kernel
theorem dX0_rule_70 : decode cX0_rule 70 = .ok (.aload_n 0, 1) := by decide +kernel
theorem dX0_rule_71 : decode cX0_rule 71 = .ok (.dup, 1) := by decide +kernel
theorem dX0_rule_72 : decode cX0_rule 72 = .ok (.getfield 15, 3) := by decide +kernel
theorem dX0_rule_75 : decode cX0_rule 75 = .ok (.iconst 1, 1) := by decide +kernel
theorem dX0_rule_76 : decode cX0_rule 76 = .ok (.iadd, 1) := by decide +kernel
theorem dX0_rule_77 : decode cX0_rule 77 = .ok (.putfield 15, 3) := by decide +kernel
theorem dX0_rule_80 : decode cX0_rule 80 = .ok (.aload_n 0, 1) := by decide +kernel
theorem dX0_rule_81 : decode cX0_rule 81 = .ok (.getfield 15, 3) := by decide +kernel
theorem dX0_rule_84 : decode cX0_rule 84 = .ok (.iconst 1, 1) := by decide +kernel
theorem dX0_rule_85 : decode cX0_rule 85 = .ok (.isub, 1) := by decide +kernel
theorem dX0_rule_86 : decode cX0_rule 86 = .ok (.ireturn, 1) := by decide +kernel
theorem dX0_rule_54 : decode cX0_rule 54 = .ok (.aload 4, 2) := by decide +kernel
theorem dX0_rule_56 : decode cX0_rule 56 = .ok (.goto 13, 3) := by decide +kernel
theorem dX0_rule_30 : decode cX0_rule 30 = .ok (.bipush (-4), 2) := by decide +kernel
theorem dX0_rule_32 : decode cX0_rule 32 = .ok (.ireturn, 1) := by decide +kernel
theorem dX0_ensureMade_0 : decode cX0_ensureMade 0 = .ok (.aload_n 1, 1) := by decide +kernel
theorem dX0_ensureMade_1 : decode cX0_ensureMade 1 = .ok (.getfield 123, 3) := by decide +kernel
theorem dX0_ensureMade_4 : decode cX0_ensureMade 4 = .ok (.ifCond .ne 33, 3) := by decide +kernel
theorem dX0_ensureMade_37 : decode cX0_ensureMade 37 = .ok (.aload_n 1, 1) := by decide +kernel
theorem dX0_ensureMade_38 : decode cX0_ensureMade 38 = .ok (.getfield 123, 3) := by decide +kernel
theorem dX0_ensureMade_41 : decode cX0_ensureMade 41 = .ok (.ireturn, 1) := by decide +kernel
theorem dX0_ensureMade_7 : decode cX0_ensureMade 7 = .ok (.aload_n 1, 1) := by decide +kernel
theorem dX0_ensureMade_8 : decode cX0_ensureMade 8 = .ok (.getfield 153, 3) := by decide +kernel
theorem dX0_ensureMade_11 : decode cX0_ensureMade 11 = .ok (.ifCond .ne 26, 3) := by decide +kernel
theorem dX0_ensureMade_14 : decode cX0_ensureMade 14 = .ok (.aload_n 1, 1) := by decide +kernel
theorem dX0_ensureMade_15 : decode cX0_ensureMade 15 = .ok (.iconst 1, 1) := by decide +kernel
theorem dX0_ensureMade_16 : decode cX0_ensureMade 16 = .ok (.putfield 123, 3) := by decide +kernel
theorem dX0_ensureMade_19 : decode cX0_ensureMade 19 = .ok (.aload_n 1, 1) := by decide +kernel
theorem dX0_ensureMade_20 : decode cX0_ensureMade 20 = .ok (.aload_n 0, 1) := by decide +kernel
theorem dX0_ensureMade_21 : decode cX0_ensureMade 21 = .ok (.getfield 19, 3) := by decide +kernel
theorem dX0_ensureMade_24 : decode cX0_ensureMade 24 = .ok (.putfield 76, 3) := by decide +kernel
theorem dX0_ensureMade_27 : decode cX0_ensureMade 27 = .ok (.aload_n 0, 1) := by decide +kernel
theorem dX0_ensureMade_28 : decode cX0_ensureMade 28 = .ok (.dup, 1) := by decide +kernel
theorem dX0_ensureMade_29 : decode cX0_ensureMade 29 = .ok (.getfield 19, 3) := by decide +kernel
theorem dX0_ensureMade_32 : decode cX0_ensureMade 32 = .ok (.iconst 1, 1) := by decide +kernel
theorem dX0_ensureMade_33 : decode cX0_ensureMade 33 = .ok (.iadd, 1) := by decide +kernel
theorem dX0_ensureMade_34 : decode cX0_ensureMade 34 = .ok (.putfield 19, 3) := by decide +kernel
theorem dX0_make_0 : decode cX0_make 0 = .ok (.aload_n 0, 1) := by decide +kernel
theorem dX0_make_1 : decode cX0_make 1 = .ok (.iload_n 1, 1) := by decide +kernel
theorem dX0_make_2 : decode cX0_make 2 = .ok (.invokevirtual 68, 3) := by decide +kernel
theorem dX0_make_5 : decode cX0_make 5 = .ok (.astore_n 2, 1) := by decide +kernel
theorem dX0_make_6 : decode cX0_make 6 = .ok (.aload_n 2, 1) := by decide +kernel
theorem dX0_make_7 : decode cX0_make 7 = .ok (.ifnull 11, 3) := by decide +kernel
theorem dX0_make_18 : decode cX0_make 18 = .ok (.iconst (-1), 1) := by decide +kernel
theorem dX0_make_19 : decode cX0_make 19 = .ok (.ireturn, 1) := by decide +kernel
theorem dX0_make_10 : decode cX0_make 10 = .ok (.aload_n 0, 1) := by decide +kernel
theorem dX0_make_11 : decode cX0_make 11 = .ok (.aload_n 2, 1) := by decide +kernel
theorem dX0_make_12 : decode cX0_make 12 = .ok (.invokevirtual 72, 3) := by decide +kernel
theorem dX0_make_15 : decode cX0_make 15 = .ok (.ifCond .ne 5, 3) := by decide +kernel
theorem dX0_make_20 : decode cX0_make 20 = .ok (.aload_n 2, 1) := by decide +kernel
theorem dX0_make_21 : decode cX0_make 21 = .ok (.getfield 76, 3) := by decide +kernel
theorem dX0_make_24 : decode cX0_make 24 = .ok (.ireturn, 1) := by decide +kernel
theorem dX0_targetAt_0 : decode cX0_targetAt 0 = .ok (.iload_n 1, 1) := by decide +kernel
theorem dX0_targetAt_1 : decode cX0_targetAt 1 = .ok (.aload_n 0, 1) := by decide +kernel
theorem dX0_targetAt_2 : decode cX0_targetAt 2 = .ok (.getfield 28, 3) := by decide +kernel
theorem dX0_targetAt_5 : decode cX0_targetAt 5 = .ok (.iconst 1, 1) := by decide +kernel
theorem dX0_targetAt_6 : decode cX0_targetAt 6 = .ok (.isub, 1) := by decide +kernel
theorem dX0_targetAt_7 : decode cX0_targetAt 7 = .ok (.invokestatic 57, 3) := by decide +kernel
theorem dX0_targetAt_10 : decode cX0_targetAt 10 = .ok (.ifCond .eq 12, 3) := by decide +kernel
theorem dX0_targetAt_22 : decode cX0_targetAt 22 = .ok (.aconst_null, 1) := by decide +kernel
theorem dX0_targetAt_23 : decode cX0_targetAt 23 = .ok (.areturn, 1) := by decide +kernel
theorem dX0_targetAt_13 : decode cX0_targetAt 13 = .ok (.aload_n 0, 1) := by decide +kernel
theorem dX0_targetAt_14 : decode cX0_targetAt 14 = .ok (.getfield 24, 3) := by decide +kernel
theorem dX0_targetAt_17 : decode cX0_targetAt 17 = .ok (.iload_n 1, 1) := by decide +kernel
theorem dX0_targetAt_18 : decode cX0_targetAt 18 = .ok (.aaload, 1) := by decide +kernel
theorem dX0_targetAt_19 : decode cX0_targetAt 19 = .ok (.goto 4, 3) := by decide +kernel
theorem dX0_mayBecome_0 : decode cX0_mayBecome 0 = .ok (.iload_n 1, 1) := by decide +kernel
theorem dX0_mayBecome_1 : decode cX0_mayBecome 1 = .ok (.tableswitch 53 0 3 #[31, 53, 38, 47], 31) := by decide +kernel
theorem dX0_mayBecome_32 : decode cX0_mayBecome 32 = .ok (.iload_n 2, 1) := by decide +kernel
theorem dX0_mayBecome_33 : decode cX0_mayBecome 33 = .ok (.bipush 20, 2) := by decide +kernel
theorem dX0_mayBecome_35 : decode cX0_mayBecome 35 = .ok (.invokestatic 57, 3) := by decide +kernel
theorem dX0_mayBecome_38 : decode cX0_mayBecome 38 = .ok (.ireturn, 1) := by decide +kernel
theorem dX0_mayBecome_54 : decode cX0_mayBecome 54 = .ok (.iconst 1, 1) := by decide +kernel
theorem dX0_mayBecome_55 : decode cX0_mayBecome 55 = .ok (.ireturn, 1) := by decide +kernel
theorem dX0_mayBecome_39 : decode cX0_mayBecome 39 = .ok (.iload_n 2, 1) := by decide +kernel
theorem dX0_mayBecome_40 : decode cX0_mayBecome 40 = .ok (.aload_n 0, 1) := by decide +kernel
theorem dX0_mayBecome_41 : decode cX0_mayBecome 41 = .ok (.getfield 156, 3) := by decide +kernel
theorem dX0_mayBecome_44 : decode cX0_mayBecome 44 = .ok (.invokestatic 57, 3) := by decide +kernel
theorem dX0_mayBecome_47 : decode cX0_mayBecome 47 = .ok (.ireturn, 1) := by decide +kernel
theorem dX0_mayBecome_48 : decode cX0_mayBecome 48 = .ok (.iload_n 2, 1) := by decide +kernel
theorem dX0_mayBecome_49 : decode cX0_mayBecome 49 = .ok (.iconst 1, 1) := by decide +kernel
theorem dX0_mayBecome_50 : decode cX0_mayBecome 50 = .ok (.invokestatic 57, 3) := by decide +kernel
theorem dX0_mayBecome_53 : decode cX0_mayBecome 53 = .ok (.ireturn, 1) := by decide +kernel
theorem dX0_attribute_0 : decode cX0_attribute 0 = .ok (.aload_n 0, 1) := by decide +kernel
theorem dX0_attribute_1 : decode cX0_attribute 1 = .ok (.iload_n 1, 1) := by decide +kernel
theorem dX0_attribute_2 : decode cX0_attribute 2 = .ok (.invokevirtual 79, 3) := by decide +kernel
theorem dX0_attribute_5 : decode cX0_attribute 5 = .ok (.astore 4, 2) := by decide +kernel
theorem dX0_attribute_7 : decode cX0_attribute 7 = .ok (.aload 4, 2) := by decide +kernel
theorem dX0_attribute_9 : decode cX0_attribute 9 = .ok (.ifnull 11, 3) := by decide +kernel
theorem dX0_attribute_20 : decode cX0_attribute 20 = .ok (.iconst (-1), 1) := by decide +kernel
theorem dX0_attribute_21 : decode cX0_attribute 21 = .ok (.ireturn, 1) := by decide +kernel
theorem dX0_attribute_12 : decode cX0_attribute 12 = .ok (.iload_n 2, 1) := by decide +kernel
theorem dX0_attribute_13 : decode cX0_attribute 13 = .ok (.iconst 3, 1) := by decide +kernel
theorem dX0_attribute_14 : decode cX0_attribute 14 = .ok (.invokestatic 57, 3) := by decide +kernel
theorem dX0_attribute_17 : decode cX0_attribute 17 = .ok (.ifCond .ne 5, 3) := by decide +kernel
theorem dX0_attribute_22 : decode cX0_attribute 22 = .ok (.aload 4, 2) := by decide +kernel
theorem dX0_attribute_24 : decode cX0_attribute 24 = .ok (.iload_n 2, 1) := by decide +kernel
theorem dX0_attribute_25 : decode cX0_attribute 25 = .ok (.iload_n 3, 1) := by decide +kernel
theorem dX0_attribute_26 : decode cX0_attribute 26 = .ok (.invokestatic 83, 3) := by decide +kernel
theorem dX0_attribute_29 : decode cX0_attribute 29 = .ok (.ifCond .ne 6, 3) := by decide +kernel
theorem dX0_attribute_35 : decode cX0_attribute 35 = .ok (.aload 4, 2) := by decide +kernel
theorem dX0_attribute_37 : decode cX0_attribute 37 = .ok (.getfield 87, 3) := by decide +kernel
theorem dX0_attribute_40 : decode cX0_attribute 40 = .ok (.ifCond .eq 6, 3) := by decide +kernel
theorem dX0_attribute_46 : decode cX0_attribute 46 = .ok (.aload 4, 2) := by decide +kernel
theorem dX0_attribute_48 : decode cX0_attribute 48 = .ok (.getfield 91, 3) := by decide +kernel
theorem dX0_attribute_51 : decode cX0_attribute 51 = .ok (.iload_n 2, 1) := by decide +kernel
theorem dX0_attribute_52 : decode cX0_attribute 52 = .ok (.iaload, 1) := by decide +kernel
theorem dX0_attribute_53 : decode cX0_attribute 53 = .ok (.istore 5, 2) := by decide +kernel
theorem dX0_attribute_55 : decode cX0_attribute 55 = .ok (.aload 4, 2) := by decide +kernel
theorem dX0_attribute_57 : decode cX0_attribute 57 = .ok (.getfield 91, 3) := by decide +kernel
theorem dX0_attribute_60 : decode cX0_attribute 60 = .ok (.iload_n 2, 1) := by decide +kernel
theorem dX0_attribute_61 : decode cX0_attribute 61 = .ok (.iload_n 3, 1) := by decide +kernel
theorem dX0_attribute_62 : decode cX0_attribute 62 = .ok (.iastore, 1) := by decide +kernel
theorem dX0_attribute_63 : decode cX0_attribute 63 = .ok (.iload 5, 2) := by decide +kernel
theorem dX0_attribute_65 : decode cX0_attribute 65 = .ok (.ireturn, 1) := by decide +kernel
theorem dX0_attribute_43 : decode cX0_attribute 43 = .ok (.bipush (-3), 2) := by decide +kernel
theorem dX0_attribute_45 : decode cX0_attribute 45 = .ok (.ireturn, 1) := by decide +kernel
theorem dX0_attribute_32 : decode cX0_attribute 32 = .ok (.bipush (-2), 2) := by decide +kernel
theorem dX0_attribute_34 : decode cX0_attribute 34 = .ok (.ireturn, 1) := by decide +kernel
theorem dX2_init_0 : decode cX2_init 0 = .ok (.aload_n 0, 1) := by decide +kernel
theorem dX2_init_1 : decode cX2_init 1 = .ok (.invokespecial 3, 3) := by decide +kernel
theorem dX2_init_4 : decode cX2_init 4 = .ok (.aload_n 0, 1) := by decide +kernel
theorem dX2_init_5 : decode cX2_init 5 = .ok (.iconst 4, 1) := by decide +kernel
theorem dX2_init_6 : decode cX2_init 6 = .ok (.newarray .int, 2) := by decide +kernel
theorem dX2_init_8 : decode cX2_init 8 = .ok (.putfield 9, 3) := by decide +kernel
theorem dX2_init_11 : decode cX2_init 11 = .ok (.aload_n 0, 1) := by decide +kernel
theorem dX2_init_12 : decode cX2_init 12 = .ok (.iconst 3, 1) := by decide +kernel
theorem dX2_init_13 : decode cX2_init 13 = .ok (.newarray .int, 2) := by decide +kernel
theorem dX2_init_15 : decode cX2_init 15 = .ok (.putfield 15, 3) := by decide +kernel
theorem dX2_init_18 : decode cX2_init 18 = .ok (.aload_n 0, 1) := by decide +kernel
theorem dX2_init_19 : decode cX2_init 19 = .ok (.iconst 3, 1) := by decide +kernel
theorem dX2_init_20 : decode cX2_init 20 = .ok (.newarray .boolean, 2) := by decide +kernel
theorem dX2_init_22 : decode cX2_init 22 = .ok (.putfield 18, 3) := by decide +kernel
theorem dX2_init_25 : decode cX2_init 25 = .ok (.aload_n 0, 1) := by decide +kernel
theorem dX2_init_26 : decode cX2_init 26 = .ok (.iconst 0, 1) := by decide +kernel
theorem dX2_init_27 : decode cX2_init 27 = .ok (.putfield 22, 3) := by decide +kernel
theorem dX2_init_30 : decode cX2_init 30 = .ok (.aload_n 0, 1) := by decide +kernel
theorem dX2_init_31 : decode cX2_init 31 = .ok (.iconst 0, 1) := by decide +kernel
theorem dX2_init_32 : decode cX2_init 32 = .ok (.putfield 26, 3) := by decide +kernel
theorem dX2_init_35 : decode cX2_init 35 = .ok (.aload_n 0, 1) := by decide +kernel
theorem dX2_init_36 : decode cX2_init 36 = .ok (.iconst 0, 1) := by decide +kernel
theorem dX2_init_37 : decode cX2_init 37 = .ok (.putfield 29, 3) := by decide +kernel
theorem dX2_init_40 : decode cX2_init 40 = .ok (.aload_n 0, 1) := by decide +kernel
theorem dX2_init_41 : decode cX2_init 41 = .ok (.iconst 0, 1) := by decide +kernel
theorem dX2_init_42 : decode cX2_init 42 = .ok (.putfield 33, 3) := by decide +kernel
theorem dX2_init_45 : decode cX2_init 45 = .ok (.aload_n 0, 1) := by decide +kernel
theorem dX2_init_46 : decode cX2_init 46 = .ok (.iconst 0, 1) := by decide +kernel
theorem dX2_init_47 : decode cX2_init 47 = .ok (.putfield 36, 3) := by decide +kernel
theorem dX2_init_50 : decode cX2_init 50 = .ok (.aload_n 0, 1) := by decide +kernel
theorem dX2_init_51 : decode cX2_init 51 = .ok (.iconst 0, 1) := by decide +kernel
theorem dX2_init_52 : decode cX2_init 52 = .ok (.putfield 39, 3) := by decide +kernel
theorem dX2_init_55 : decode cX2_init 55 = .ok (.aload_n 0, 1) := by decide +kernel
theorem dX2_init_56 : decode cX2_init 56 = .ok (.iconst 0, 1) := by decide +kernel
theorem dX2_init_57 : decode cX2_init 57 = .ok (.putfield 42, 3) := by decide +kernel
theorem dX2_init_60 : decode cX2_init 60 = .ok (.aload_n 0, 1) := by decide +kernel
theorem dX2_init_61 : decode cX2_init 61 = .ok (.iload_n 1, 1) := by decide +kernel
theorem dX2_init_62 : decode cX2_init 62 = .ok (.putfield 45, 3) := by decide +kernel
theorem dX2_init_65 : decode cX2_init 65 = .ok (.aload_n 0, 1) := by decide +kernel
theorem dX2_init_66 : decode cX2_init 66 = .ok (.aload_n 2, 1) := by decide +kernel
theorem dX2_init_67 : decode cX2_init 67 = .ok (.putfield 48, 3) := by decide +kernel
theorem dX2_init_70 : decode cX2_init 70 = .ok (.return_, 1) := by decide +kernel
theorem dX0_target_0 : decode cX0_target 0 = .ok (.aload_n 0, 1) := by decide +kernel
theorem dX0_target_1 : decode cX0_target 1 = .ok (.iload_n 1, 1) := by decide +kernel
theorem dX0_target_2 : decode cX0_target 2 = .ok (.invokevirtual 68, 3) := by decide +kernel
theorem dX0_target_5 : decode cX0_target 5 = .ok (.astore_n 2, 1) := by decide +kernel
theorem dX0_target_6 : decode cX0_target 6 = .ok (.aload_n 2, 1) := by decide +kernel
theorem dX0_target_7 : decode cX0_target 7 = .ok (.ifnonnull 5, 3) := by decide +kernel
theorem dX0_target_10 : decode cX0_target 10 = .ok (.iconst (-1), 1) := by decide +kernel
theorem dX0_target_11 : decode cX0_target 11 = .ok (.ireturn, 1) := by decide +kernel
theorem dX0_target_12 : decode cX0_target 12 = .ok (.aload_n 0, 1) := by decide +kernel
theorem dX0_target_13 : decode cX0_target 13 = .ok (.getfield 28, 3) := by decide +kernel
theorem dX0_target_16 : decode cX0_target 16 = .ok (.bipush 40, 2) := by decide +kernel
theorem dX0_target_18 : decode cX0_target 18 = .ok (.if_icmp .lt 6, 3) := by decide +kernel
theorem dX0_target_24 : decode cX0_target 24 = .ok (.aload_n 0, 1) := by decide +kernel
theorem dX0_target_25 : decode cX0_target 25 = .ok (.getfield 24, 3) := by decide +kernel
theorem dX0_target_28 : decode cX0_target 28 = .ok (.aload_n 0, 1) := by decide +kernel
theorem dX0_target_29 : decode cX0_target 29 = .ok (.getfield 28, 3) := by decide +kernel
theorem dX0_target_32 : decode cX0_target 32 = .ok (.new 22, 3) := by decide +kernel
theorem dX0_target_35 : decode cX0_target 35 = .ok (.dup, 1) := by decide +kernel
theorem dX0_target_36 : decode cX0_target 36 = .ok (.aload_n 0, 1) := by decide +kernel
theorem dX0_target_37 : decode cX0_target 37 = .ok (.getfield 28, 3) := by decide +kernel
theorem dX0_target_40 : decode cX0_target 40 = .ok (.aload_n 2, 1) := by decide +kernel
theorem dX0_target_41 : decode cX0_target 41 = .ok (.invokespecial 94, 3) := by decide +kernel
theorem dX0_target_44 : decode cX0_target 44 = .ok (.aastore, 1) := by decide +kernel
theorem dX0_target_45 : decode cX0_target 45 = .ok (.aload_n 0, 1) := by decide +kernel
theorem dX0_target_46 : decode cX0_target 46 = .ok (.dup, 1) := by decide +kernel
theorem dX0_target_47 : decode cX0_target 47 = .ok (.getfield 28, 3) := by decide +kernel
theorem dX0_target_50 : decode cX0_target 50 = .ok (.iconst 1, 1) := by decide +kernel
theorem dX0_target_51 : decode cX0_target 51 = .ok (.iadd, 1) := by decide +kernel
theorem dX0_target_52 : decode cX0_target 52 = .ok (.putfield 28, 3) := by decide +kernel
theorem dX0_target_55 : decode cX0_target 55 = .ok (.aload_n 0, 1) := by decide +kernel
theorem dX0_target_56 : decode cX0_target 56 = .ok (.getfield 28, 3) := by decide +kernel
theorem dX0_target_59 : decode cX0_target 59 = .ok (.iconst 1, 1) := by decide +kernel
theorem dX0_target_60 : decode cX0_target 60 = .ok (.isub, 1) := by decide +kernel
theorem dX0_target_61 : decode cX0_target 61 = .ok (.ireturn, 1) := by decide +kernel
theorem dX0_target_21 : decode cX0_target 21 = .ok (.bipush (-4), 2) := by decide +kernel
theorem dX0_target_23 : decode cX0_target 23 = .ok (.ireturn, 1) := by decide +kernel
theorem dX2_fail_0 : decode cX2_fail 0 = .ok (.aload_n 0, 1) := by decide +kernel
theorem dX2_fail_1 : decode cX2_fail 1 = .ok (.iload_n 1, 1) := by decide +kernel
theorem dX2_fail_2 : decode cX2_fail 2 = .ok (.putfield 36, 3) := by decide +kernel
theorem dX2_fail_5 : decode cX2_fail 5 = .ok (.aload_n 0, 1) := by decide +kernel
theorem dX2_fail_6 : decode cX2_fail 6 = .ok (.iload_n 2, 1) := by decide +kernel
theorem dX2_fail_7 : decode cX2_fail 7 = .ok (.putfield 39, 3) := by decide +kernel
theorem dX2_fail_10 : decode cX2_fail 10 = .ok (.aload_n 0, 1) := by decide +kernel
theorem dX2_fail_11 : decode cX2_fail 11 = .ok (.iload_n 3, 1) := by decide +kernel
theorem dX2_fail_12 : decode cX2_fail 12 = .ok (.putfield 42, 3) := by decide +kernel
theorem dX2_fail_15 : decode cX2_fail 15 = .ok (.aload_n 0, 1) := by decide +kernel
theorem dX2_fail_16 : decode cX2_fail 16 = .ok (.iconst 0, 1) := by decide +kernel
theorem dX2_fail_17 : decode cX2_fail 17 = .ok (.putfield 33, 3) := by decide +kernel
theorem dX2_fail_20 : decode cX2_fail 20 = .ok (.iconst 0, 1) := by decide +kernel
theorem dX2_fail_21 : decode cX2_fail 21 = .ok (.istore 4, 2) := by decide +kernel
theorem dX2_fail_23 : decode cX2_fail 23 = .ok (.iload 4, 2) := by decide +kernel
theorem dX2_fail_25 : decode cX2_fail 25 = .ok (.iconst 3, 1) := by decide +kernel
theorem dX2_fail_26 : decode cX2_fail 26 = .ok (.if_icmp .ge 17, 3) := by decide +kernel
theorem dX2_fail_43 : decode cX2_fail 43 = .ok (.return_, 1) := by decide +kernel
theorem dX2_fail_29 : decode cX2_fail 29 = .ok (.aload_n 0, 1) := by decide +kernel
theorem dX2_fail_30 : decode cX2_fail 30 = .ok (.getfield 18, 3) := by decide +kernel
theorem dX2_fail_33 : decode cX2_fail 33 = .ok (.iload 4, 2) := by decide +kernel
theorem dX2_fail_35 : decode cX2_fail 35 = .ok (.iconst 0, 1) := by decide +kernel
theorem dX2_fail_36 : decode cX2_fail 36 = .ok (.bastore, 1) := by decide +kernel
theorem dX2_fail_37 : decode cX2_fail 37 = .ok (.iinc 4 1, 3) := by decide +kernel
theorem dX2_fail_40 : decode cX2_fail 40 = .ok (.goto (-17), 3) := by decide +kernel
theorem dX0_takesStep_0 : decode cX0_takesStep 0 = .ok (.aload_n 1, 1) := by decide +kernel
theorem dX0_takesStep_1 : decode cX0_takesStep 1 = .ok (.getfield 177, 3) := by decide +kernel
theorem dX0_takesStep_4 : decode cX0_takesStep 4 = .ok (.aload_n 0, 1) := by decide +kernel
theorem dX0_takesStep_5 : decode cX0_takesStep 5 = .ok (.getfield 54, 3) := by decide +kernel
theorem dX0_takesStep_8 : decode cX0_takesStep 8 = .ok (.if_icmp .lt 5, 3) := by decide +kernel
theorem dX0_takesStep_13 : decode cX0_takesStep 13 = .ok (.aload_n 1, 1) := by decide +kernel
theorem dX0_takesStep_14 : decode cX0_takesStep 14 = .ok (.dup, 1) := by decide +kernel
theorem dX0_takesStep_15 : decode cX0_takesStep 15 = .ok (.getfield 177, 3) := by decide +kernel
theorem dX0_takesStep_18 : decode cX0_takesStep 18 = .ok (.iconst 1, 1) := by decide +kernel
theorem dX0_takesStep_19 : decode cX0_takesStep 19 = .ok (.iadd, 1) := by decide +kernel
theorem dX0_takesStep_20 : decode cX0_takesStep 20 = .ok (.putfield 177, 3) := by decide +kernel
theorem dX0_takesStep_23 : decode cX0_takesStep 23 = .ok (.iconst 1, 1) := by decide +kernel
theorem dX0_takesStep_24 : decode cX0_takesStep 24 = .ok (.ireturn, 1) := by decide +kernel
theorem dX0_takesStep_11 : decode cX0_takesStep 11 = .ok (.iconst 0, 1) := by decide +kernel
theorem dX0_takesStep_12 : decode cX0_takesStep 12 = .ok (.ireturn, 1) := by decide +kernel
theorem dX0_declareOutput_0 : decode cX0_declareOutput 0 = .ok (.aload_n 0, 1) := by decide +kernel
theorem dX0_declareOutput_1 : decode cX0_declareOutput 1 = .ok (.getfield 204, 3) := by decide +kernel
theorem dX0_declareOutput_4 : decode cX0_declareOutput 4 = .ok (.ifCond .eq 5, 3) := by decide +kernel
theorem dX0_declareOutput_9 : decode cX0_declareOutput 9 = .ok (.aload_n 0, 1) := by decide +kernel
theorem dX0_declareOutput_10 : decode cX0_declareOutput 10 = .ok (.iconst 1, 1) := by decide +kernel
theorem dX0_declareOutput_11 : decode cX0_declareOutput 11 = .ok (.putfield 204, 3) := by decide +kernel
theorem dX0_declareOutput_14 : decode cX0_declareOutput 14 = .ok (.iconst 0, 1) := by decide +kernel
theorem dX0_declareOutput_15 : decode cX0_declareOutput 15 = .ok (.ireturn, 1) := by decide +kernel
theorem dX0_declareOutput_7 : decode cX0_declareOutput 7 = .ok (.iconst 2, 1) := by decide +kernel
theorem dX0_declareOutput_8 : decode cX0_declareOutput 8 = .ok (.ireturn, 1) := by decide +kernel
theorem dX0_addActions_0 : decode cX0_addActions 0 = .ok (.aload_n 1, 1) := by decide +kernel
theorem dX0_addActions_1 : decode cX0_addActions 1 = .ok (.getfield 91, 3) := by decide +kernel
theorem dX0_addActions_4 : decode cX0_addActions 4 = .ok (.iconst 0, 1) := by decide +kernel
theorem dX0_addActions_5 : decode cX0_addActions 5 = .ok (.iaload, 1) := by decide +kernel
theorem dX0_addActions_6 : decode cX0_addActions 6 = .ok (.istore_n 2, 1) := by decide +kernel
theorem dX0_addActions_7 : decode cX0_addActions 7 = .ok (.iconst 0, 1) := by decide +kernel
theorem dX0_addActions_8 : decode cX0_addActions 8 = .ok (.istore_n 3, 1) := by decide +kernel
theorem dX0_addActions_9 : decode cX0_addActions 9 = .ok (.iload_n 3, 1) := by decide +kernel
theorem dX0_addActions_10 : decode cX0_addActions 10 = .ok (.iload_n 2, 1) := by decide +kernel
theorem dX0_addActions_11 : decode cX0_addActions 11 = .ok (.if_icmp .ge 75, 3) := by decide +kernel
theorem dX0_addActions_86 : decode cX0_addActions 86 = .ok (.iconst 0, 1) := by decide +kernel
theorem dX0_addActions_87 : decode cX0_addActions 87 = .ok (.ireturn, 1) := by decide +kernel
theorem dX0_addActions_14 : decode cX0_addActions 14 = .ok (.aload_n 0, 1) := by decide +kernel
theorem dX0_addActions_15 : decode cX0_addActions 15 = .ok (.aload_n 1, 1) := by decide +kernel
theorem dX0_addActions_16 : decode cX0_addActions 16 = .ok (.invokevirtual 169, 3) := by decide +kernel
theorem dX0_addActions_19 : decode cX0_addActions 19 = .ok (.ifCond .ne 5, 3) := by decide +kernel
theorem dX0_addActions_24 : decode cX0_addActions 24 = .ok (.aload_n 0, 1) := by decide +kernel
theorem dX0_addActions_25 : decode cX0_addActions 25 = .ok (.getfield 38, 3) := by decide +kernel
theorem dX0_addActions_28 : decode cX0_addActions 28 = .ok (.sipush 400, 3) := by decide +kernel
theorem dX0_addActions_31 : decode cX0_addActions 31 = .ok (.if_icmp .lt 6, 3) := by decide +kernel
theorem dX0_addActions_37 : decode cX0_addActions 37 = .ok (.aload_n 0, 1) := by decide +kernel
theorem dX0_addActions_38 : decode cX0_addActions 38 = .ok (.getfield 31, 3) := by decide +kernel
theorem dX0_addActions_41 : decode cX0_addActions 41 = .ok (.aload_n 0, 1) := by decide +kernel
theorem dX0_addActions_42 : decode cX0_addActions 42 = .ok (.getfield 38, 3) := by decide +kernel
theorem dX0_addActions_45 : decode cX0_addActions 45 = .ok (.aload_n 1, 1) := by decide +kernel
theorem dX0_addActions_46 : decode cX0_addActions 46 = .ok (.getfield 156, 3) := by decide +kernel
theorem dX0_addActions_49 : decode cX0_addActions 49 = .ok (.iastore, 1) := by decide +kernel
theorem dX0_addActions_50 : decode cX0_addActions 50 = .ok (.aload_n 0, 1) := by decide +kernel
theorem dX0_addActions_51 : decode cX0_addActions 51 = .ok (.getfield 35, 3) := by decide +kernel
theorem dX0_addActions_54 : decode cX0_addActions 54 = .ok (.aload_n 0, 1) := by decide +kernel
theorem dX0_addActions_55 : decode cX0_addActions 55 = .ok (.getfield 38, 3) := by decide +kernel
theorem dX0_addActions_58 : decode cX0_addActions 58 = .ok (.iload_n 3, 1) := by decide +kernel
theorem dX0_addActions_59 : decode cX0_addActions 59 = .ok (.iastore, 1) := by decide +kernel
theorem dX0_addActions_60 : decode cX0_addActions 60 = .ok (.aload_n 0, 1) := by decide +kernel
theorem dX0_addActions_61 : decode cX0_addActions 61 = .ok (.dup, 1) := by decide +kernel
theorem dX0_addActions_62 : decode cX0_addActions 62 = .ok (.getfield 38, 3) := by decide +kernel
theorem dX0_addActions_65 : decode cX0_addActions 65 = .ok (.iconst 1, 1) := by decide +kernel
theorem dX0_addActions_66 : decode cX0_addActions 66 = .ok (.iadd, 1) := by decide +kernel
theorem dX0_addActions_67 : decode cX0_addActions 67 = .ok (.putfield 38, 3) := by decide +kernel
theorem dX0_addActions_70 : decode cX0_addActions 70 = .ok (.aload_n 1, 1) := by decide +kernel
theorem dX0_addActions_71 : decode cX0_addActions 71 = .ok (.dup, 1) := by decide +kernel
theorem dX0_addActions_72 : decode cX0_addActions 72 = .ok (.getfield 104, 3) := by decide +kernel
theorem dX0_addActions_75 : decode cX0_addActions 75 = .ok (.iconst 1, 1) := by decide +kernel
theorem dX0_addActions_76 : decode cX0_addActions 76 = .ok (.iadd, 1) := by decide +kernel
theorem dX0_addActions_77 : decode cX0_addActions 77 = .ok (.putfield 104, 3) := by decide +kernel
theorem dX0_addActions_80 : decode cX0_addActions 80 = .ok (.iinc 3 1, 3) := by decide +kernel
theorem dX0_addActions_83 : decode cX0_addActions 83 = .ok (.goto (-74), 3) := by decide +kernel
theorem dX0_addActions_34 : decode cX0_addActions 34 = .ok (.bipush 7, 2) := by decide +kernel
theorem dX0_addActions_36 : decode cX0_addActions 36 = .ok (.ireturn, 1) := by decide +kernel
theorem dX0_addActions_22 : decode cX0_addActions 22 = .ok (.iconst 5, 1) := by decide +kernel
theorem dX0_addActions_23 : decode cX0_addActions 23 = .ok (.ireturn, 1) := by decide +kernel
theorem dX2_give_0 : decode cX2_give 0 = .ok (.aload_n 0, 1) := by decide +kernel
theorem dX2_give_1 : decode cX2_give 1 = .ok (.getfield 15, 3) := by decide +kernel
theorem dX2_give_4 : decode cX2_give 4 = .ok (.iload_n 1, 1) := by decide +kernel
theorem dX2_give_5 : decode cX2_give 5 = .ok (.iload_n 2, 1) := by decide +kernel
theorem dX2_give_6 : decode cX2_give 6 = .ok (.iastore, 1) := by decide +kernel
theorem dX2_give_7 : decode cX2_give 7 = .ok (.aload_n 0, 1) := by decide +kernel
theorem dX2_give_8 : decode cX2_give 8 = .ok (.getfield 18, 3) := by decide +kernel
theorem dX2_give_11 : decode cX2_give 11 = .ok (.iload_n 1, 1) := by decide +kernel
theorem dX2_give_12 : decode cX2_give 12 = .ok (.iconst 1, 1) := by decide +kernel
theorem dX2_give_13 : decode cX2_give 13 = .ok (.bastore, 1) := by decide +kernel
theorem dX2_give_14 : decode cX2_give 14 = .ok (.return_, 1) := by decide +kernel
theorem dX0_giveQuotient_0 : decode cX0_giveQuotient 0 = .ok (.aload_n 0, 1) := by decide +kernel
theorem dX0_giveQuotient_1 : decode cX0_giveQuotient 1 = .ok (.getfield 91, 3) := by decide +kernel
theorem dX0_giveQuotient_4 : decode cX0_giveQuotient 4 = .ok (.iconst 1, 1) := by decide +kernel
theorem dX0_giveQuotient_5 : decode cX0_giveQuotient 5 = .ok (.iaload, 1) := by decide +kernel
theorem dX0_giveQuotient_6 : decode cX0_giveQuotient 6 = .ok (.istore_n 1, 1) := by decide +kernel
theorem dX0_giveQuotient_7 : decode cX0_giveQuotient 7 = .ok (.iload_n 1, 1) := by decide +kernel
theorem dX0_giveQuotient_8 : decode cX0_giveQuotient 8 = .ok (.ifCond .ne 5, 3) := by decide +kernel
theorem dX0_giveQuotient_13 : decode cX0_giveQuotient 13 = .ok (.aload_n 0, 1) := by decide +kernel
theorem dX0_giveQuotient_14 : decode cX0_giveQuotient 14 = .ok (.iconst 1, 1) := by decide +kernel
theorem dX0_giveQuotient_15 : decode cX0_giveQuotient 15 = .ok (.aload_n 0, 1) := by decide +kernel
theorem dX0_giveQuotient_16 : decode cX0_giveQuotient 16 = .ok (.getfield 91, 3) := by decide +kernel
theorem dX0_giveQuotient_19 : decode cX0_giveQuotient 19 = .ok (.iconst 0, 1) := by decide +kernel
theorem dX0_giveQuotient_20 : decode cX0_giveQuotient 20 = .ok (.iaload, 1) := by decide +kernel
theorem dX0_giveQuotient_21 : decode cX0_giveQuotient 21 = .ok (.iload_n 1, 1) := by decide +kernel
theorem dX0_giveQuotient_22 : decode cX0_giveQuotient 22 = .ok (.idiv, 1) := by decide +kernel
theorem dX0_giveQuotient_23 : decode cX0_giveQuotient 23 = .ok (.invokevirtual 207, 3) := by decide +kernel
theorem dX0_giveQuotient_26 : decode cX0_giveQuotient 26 = .ok (.iconst 0, 1) := by decide +kernel
theorem dX0_giveQuotient_27 : decode cX0_giveQuotient 27 = .ok (.ireturn, 1) := by decide +kernel
theorem dX0_giveQuotient_11 : decode cX0_giveQuotient 11 = .ok (.iconst 3, 1) := by decide +kernel
theorem dX0_giveQuotient_12 : decode cX0_giveQuotient 12 = .ok (.ireturn, 1) := by decide +kernel
theorem dX0_giveOneMore_0 : decode cX0_giveOneMore 0 = .ok (.aload_n 1, 1) := by decide +kernel
theorem dX0_giveOneMore_1 : decode cX0_giveOneMore 1 = .ok (.ifnull 12, 3) := by decide +kernel
theorem dX0_giveOneMore_13 : decode cX0_giveOneMore 13 = .ok (.iconst 4, 1) := by decide +kernel
theorem dX0_giveOneMore_14 : decode cX0_giveOneMore 14 = .ok (.ireturn, 1) := by decide +kernel
theorem dX0_giveOneMore_4 : decode cX0_giveOneMore 4 = .ok (.aload_n 1, 1) := by decide +kernel
theorem dX0_giveOneMore_5 : decode cX0_giveOneMore 5 = .ok (.getfield 110, 3) := by decide +kernel
theorem dX0_giveOneMore_8 : decode cX0_giveOneMore 8 = .ok (.iconst 0, 1) := by decide +kernel
theorem dX0_giveOneMore_9 : decode cX0_giveOneMore 9 = .ok (.baload, 1) := by decide +kernel
theorem dX0_giveOneMore_10 : decode cX0_giveOneMore 10 = .ok (.ifCond .ne 5, 3) := by decide +kernel
theorem dX0_giveOneMore_15 : decode cX0_giveOneMore 15 = .ok (.aload_n 0, 1) := by decide +kernel
theorem dX0_giveOneMore_16 : decode cX0_giveOneMore 16 = .ok (.iconst 0, 1) := by decide +kernel
theorem dX0_giveOneMore_17 : decode cX0_giveOneMore 17 = .ok (.aload_n 1, 1) := by decide +kernel
theorem dX0_giveOneMore_18 : decode cX0_giveOneMore 18 = .ok (.getfield 114, 3) := by decide +kernel
theorem dX0_giveOneMore_21 : decode cX0_giveOneMore 21 = .ok (.iconst 0, 1) := by decide +kernel
theorem dX0_giveOneMore_22 : decode cX0_giveOneMore 22 = .ok (.iaload, 1) := by decide +kernel
theorem dX0_giveOneMore_23 : decode cX0_giveOneMore 23 = .ok (.iconst 1, 1) := by decide +kernel
theorem dX0_giveOneMore_24 : decode cX0_giveOneMore 24 = .ok (.iadd, 1) := by decide +kernel
theorem dX0_giveOneMore_25 : decode cX0_giveOneMore 25 = .ok (.invokevirtual 207, 3) := by decide +kernel
theorem dX0_giveOneMore_28 : decode cX0_giveOneMore 28 = .ok (.iconst 0, 1) := by decide +kernel
end
section
theorem dX0_giveOneMore_29 : decode cX0_giveOneMore 29 = .ok (.ireturn, 1) := by decide +kernel
theorem dX0_countInCell_0 : decode cX0_countInCell 0 = .ok (.aload_n 0, 1) := by decide +kernel
theorem dX0_countInCell_1 : decode cX0_countInCell 1 = .ok (.getfield 157, 3) := by decide +kernel
theorem dX0_countInCell_4 : decode cX0_countInCell 4 = .ok (.dup, 1) := by decide +kernel
theorem dX0_countInCell_5 : decode cX0_countInCell 5 = .ok (.getfield 128, 3) := by decide +kernel
theorem dX0_countInCell_8 : decode cX0_countInCell 8 = .ok (.lconst 1, 1) := by decide +kernel
theorem dX0_countInCell_9 : decode cX0_countInCell 9 = .ok (.ladd, 1) := by decide +kernel
theorem dX0_countInCell_10 : decode cX0_countInCell 10 = .ok (.putfield 128, 3) := by decide +kernel
theorem dX0_countInCell_13 : decode cX0_countInCell 13 = .ok (.aload_n 0, 1) := by decide +kernel
theorem dX0_countInCell_14 : decode cX0_countInCell 14 = .ok (.iconst 2, 1) := by decide +kernel
theorem dX0_countInCell_15 : decode cX0_countInCell 15 = .ok (.aload_n 0, 1) := by decide +kernel
theorem dX0_countInCell_16 : decode cX0_countInCell 16 = .ok (.getfield 157, 3) := by decide +kernel
theorem dX0_countInCell_19 : decode cX0_countInCell 19 = .ok (.getfield 128, 3) := by decide +kernel
theorem dX0_countInCell_22 : decode cX0_countInCell 22 = .ok (.l2i, 1) := by decide +kernel
theorem dX0_countInCell_23 : decode cX0_countInCell 23 = .ok (.invokevirtual 207, 3) := by decide +kernel
theorem dX0_countInCell_26 : decode cX0_countInCell 26 = .ok (.iconst 0, 1) := by decide +kernel
theorem dX0_countInCell_27 : decode cX0_countInCell 27 = .ok (.ireturn, 1) := by decide +kernel
theorem dX0_giveAmount_0 : decode cX0_giveAmount 0 = .ok (.aload_n 0, 1) := by decide +kernel
theorem dX0_giveAmount_1 : decode cX0_giveAmount 1 = .ok (.getfield 91, 3) := by decide +kernel
theorem dX0_giveAmount_4 : decode cX0_giveAmount 4 = .ok (.iconst 0, 1) := by decide +kernel
theorem dX0_giveAmount_5 : decode cX0_giveAmount 5 = .ok (.iaload, 1) := by decide +kernel
theorem dX0_giveAmount_6 : decode cX0_giveAmount 6 = .ok (.istore_n 1, 1) := by decide +kernel
theorem dX0_giveAmount_7 : decode cX0_giveAmount 7 = .ok (.aload_n 0, 1) := by decide +kernel
theorem dX0_giveAmount_8 : decode cX0_giveAmount 8 = .ok (.iconst 0, 1) := by decide +kernel
theorem dX0_giveAmount_9 : decode cX0_giveAmount 9 = .ok (.aload_n 0, 1) := by decide +kernel
theorem dX0_giveAmount_10 : decode cX0_giveAmount 10 = .ok (.getfield 91, 3) := by decide +kernel
theorem dX0_giveAmount_13 : decode cX0_giveAmount 13 = .ok (.iconst 3, 1) := by decide +kernel
theorem dX0_giveAmount_14 : decode cX0_giveAmount 14 = .ok (.iaload, 1) := by decide +kernel
theorem dX0_giveAmount_15 : decode cX0_giveAmount 15 = .ok (.iconst 1, 1) := by decide +kernel
theorem dX0_giveAmount_16 : decode cX0_giveAmount 16 = .ok (.if_icmp .ne 8, 3) := by decide +kernel
theorem dX0_giveAmount_24 : decode cX0_giveAmount 24 = .ok (.iload_n 1, 1) := by decide +kernel
theorem dX0_giveAmount_25 : decode cX0_giveAmount 25 = .ok (.invokevirtual 207, 3) := by decide +kernel
theorem dX0_giveAmount_28 : decode cX0_giveAmount 28 = .ok (.iconst 0, 1) := by decide +kernel
theorem dX0_giveAmount_29 : decode cX0_giveAmount 29 = .ok (.ireturn, 1) := by decide +kernel
theorem dX0_giveAmount_19 : decode cX0_giveAmount 19 = .ok (.iload_n 1, 1) := by decide +kernel
theorem dX0_giveAmount_20 : decode cX0_giveAmount 20 = .ok (.ineg, 1) := by decide +kernel
theorem dX0_giveAmount_21 : decode cX0_giveAmount 21 = .ok (.goto 4, 3) := by decide +kernel
theorem dX0_keepHandle_0 : decode cX0_keepHandle 0 = .ok (.aload_n 0, 1) := by decide +kernel
theorem dX0_keepHandle_1 : decode cX0_keepHandle 1 = .ok (.getfield 41, 3) := by decide +kernel
theorem dX0_keepHandle_4 : decode cX0_keepHandle 4 = .ok (.bipush 40, 2) := by decide +kernel
theorem dX0_keepHandle_6 : decode cX0_keepHandle 6 = .ok (.if_icmp .ge 13, 3) := by decide +kernel
theorem dX0_keepHandle_19 : decode cX0_keepHandle 19 = .ok (.iconst 0, 1) := by decide +kernel
theorem dX0_keepHandle_20 : decode cX0_keepHandle 20 = .ok (.ireturn, 1) := by decide +kernel
theorem dX0_keepHandle_9 : decode cX0_keepHandle 9 = .ok (.aload_n 0, 1) := by decide +kernel
theorem dX0_keepHandle_10 : decode cX0_keepHandle 10 = .ok (.dup, 1) := by decide +kernel
theorem dX0_keepHandle_11 : decode cX0_keepHandle 11 = .ok (.getfield 41, 3) := by decide +kernel
theorem dX0_keepHandle_14 : decode cX0_keepHandle 14 = .ok (.iconst 1, 1) := by decide +kernel
theorem dX0_keepHandle_15 : decode cX0_keepHandle 15 = .ok (.iadd, 1) := by decide +kernel
theorem dX0_keepHandle_16 : decode cX0_keepHandle 16 = .ok (.putfield 41, 3) := by decide +kernel
theorem dX0_doBit_0 : decode cX0_doBit 0 = .ok (.iload_n 3, 1) := by decide +kernel
theorem dX0_doBit_1 : decode cX0_doBit 1 = .ok (.tableswitch 75 0 6 #[43, 43, 48, 54, 59, 65, 70], 43) := by decide +kernel
theorem dX0_doBit_44 : decode cX0_doBit 44 = .ok (.aload_n 1, 1) := by decide +kernel
theorem dX0_doBit_45 : decode cX0_doBit 45 = .ok (.invokestatic 180, 3) := by decide +kernel
theorem dX0_doBit_48 : decode cX0_doBit 48 = .ok (.ireturn, 1) := by decide +kernel
theorem dX0_doBit_49 : decode cX0_doBit 49 = .ok (.aload_n 0, 1) := by decide +kernel
theorem dX0_doBit_50 : decode cX0_doBit 50 = .ok (.aload_n 1, 1) := by decide +kernel
theorem dX0_doBit_51 : decode cX0_doBit 51 = .ok (.invokevirtual 184, 3) := by decide +kernel
theorem dX0_doBit_54 : decode cX0_doBit 54 = .ok (.ireturn, 1) := by decide +kernel
theorem dX0_doBit_55 : decode cX0_doBit 55 = .ok (.aload_n 1, 1) := by decide +kernel
theorem dX0_doBit_56 : decode cX0_doBit 56 = .ok (.invokestatic 187, 3) := by decide +kernel
theorem dX0_doBit_59 : decode cX0_doBit 59 = .ok (.ireturn, 1) := by decide +kernel
theorem dX0_doBit_60 : decode cX0_doBit 60 = .ok (.aload_n 1, 1) := by decide +kernel
theorem dX0_doBit_61 : decode cX0_doBit 61 = .ok (.aload_n 2, 1) := by decide +kernel
theorem dX0_doBit_62 : decode cX0_doBit 62 = .ok (.invokestatic 190, 3) := by decide +kernel
theorem dX0_doBit_65 : decode cX0_doBit 65 = .ok (.ireturn, 1) := by decide +kernel
theorem dX0_doBit_66 : decode cX0_doBit 66 = .ok (.aload_n 1, 1) := by decide +kernel
theorem dX0_doBit_67 : decode cX0_doBit 67 = .ok (.invokestatic 194, 3) := by decide +kernel
theorem dX0_doBit_70 : decode cX0_doBit 70 = .ok (.ireturn, 1) := by decide +kernel
theorem dX0_doBit_71 : decode cX0_doBit 71 = .ok (.aload_n 1, 1) := by decide +kernel
theorem dX0_doBit_72 : decode cX0_doBit 72 = .ok (.invokestatic 197, 3) := by decide +kernel
theorem dX0_doBit_75 : decode cX0_doBit 75 = .ok (.ireturn, 1) := by decide +kernel
theorem dX0_doBit_76 : decode cX0_doBit 76 = .ok (.aload_n 0, 1) := by decide +kernel
theorem dX0_doBit_77 : decode cX0_doBit 77 = .ok (.invokevirtual 200, 3) := by decide +kernel
theorem dX0_doBit_80 : decode cX0_doBit 80 = .ok (.ireturn, 1) := by decide +kernel
theorem dX0_doBits_0 : decode cX0_doBits 0 = .ok (.aload_n 0, 1) := by decide +kernel
theorem dX0_doBits_1 : decode cX0_doBits 1 = .ok (.getfield 38, 3) := by decide +kernel
theorem dX0_doBits_4 : decode cX0_doBits 4 = .ok (.istore_n 3, 1) := by decide +kernel
theorem dX0_doBits_5 : decode cX0_doBits 5 = .ok (.iconst 0, 1) := by decide +kernel
theorem dX0_doBits_6 : decode cX0_doBits 6 = .ok (.istore 4, 2) := by decide +kernel
theorem dX0_doBits_8 : decode cX0_doBits 8 = .ok (.iload 4, 2) := by decide +kernel
theorem dX0_doBits_10 : decode cX0_doBits 10 = .ok (.bipush 8, 2) := by decide +kernel
theorem dX0_doBits_12 : decode cX0_doBits 12 = .ok (.if_icmp .ge 72, 3) := by decide +kernel
theorem dX0_doBits_84 : decode cX0_doBits 84 = .ok (.return_, 1) := by decide +kernel
theorem dX0_doBits_15 : decode cX0_doBits 15 = .ok (.aload_n 1, 1) := by decide +kernel
theorem dX0_doBits_16 : decode cX0_doBits 16 = .ok (.getfield 157, 3) := by decide +kernel
theorem dX0_doBits_19 : decode cX0_doBits 19 = .ok (.getfield 135, 3) := by decide +kernel
theorem dX0_doBits_22 : decode cX0_doBits 22 = .ok (.iload 4, 2) := by decide +kernel
theorem dX0_doBits_24 : decode cX0_doBits 24 = .ok (.ishr, 1) := by decide +kernel
theorem dX0_doBits_25 : decode cX0_doBits 25 = .ok (.iconst 1, 1) := by decide +kernel
theorem dX0_doBits_26 : decode cX0_doBits 26 = .ok (.iand, 1) := by decide +kernel
theorem dX0_doBits_27 : decode cX0_doBits 27 = .ok (.ifCond .ne 6, 3) := by decide +kernel
theorem dX0_doBits_33 : decode cX0_doBits 33 = .ok (.aload_n 0, 1) := by decide +kernel
theorem dX0_doBits_34 : decode cX0_doBits 34 = .ok (.aload_n 1, 1) := by decide +kernel
theorem dX0_doBits_35 : decode cX0_doBits 35 = .ok (.invokevirtual 169, 3) := by decide +kernel
theorem dX0_doBits_38 : decode cX0_doBits 38 = .ok (.ifCond .eq 14, 3) := by decide +kernel
theorem dX0_doBits_52 : decode cX0_doBits 52 = .ok (.iconst 5, 1) := by decide +kernel
theorem dX0_doBits_53 : decode cX0_doBits 53 = .ok (.istore 5, 2) := by decide +kernel
theorem dX0_doBits_55 : decode cX0_doBits 55 = .ok (.iload 5, 2) := by decide +kernel
theorem dX0_doBits_57 : decode cX0_doBits 57 = .ok (.ifCond .eq 21, 3) := by decide +kernel
theorem dX0_doBits_78 : decode cX0_doBits 78 = .ok (.iinc 4 1, 3) := by decide +kernel
theorem dX0_doBits_81 : decode cX0_doBits 81 = .ok (.goto (-73), 3) := by decide +kernel
theorem dX0_doBits_60 : decode cX0_doBits 60 = .ok (.aload_n 0, 1) := by decide +kernel
theorem dX0_doBits_61 : decode cX0_doBits 61 = .ok (.iload_n 3, 1) := by decide +kernel
theorem dX0_doBits_62 : decode cX0_doBits 62 = .ok (.putfield 38, 3) := by decide +kernel
theorem dX0_doBits_65 : decode cX0_doBits 65 = .ok (.aload_n 1, 1) := by decide +kernel
theorem dX0_doBits_66 : decode cX0_doBits 66 = .ok (.iload 5, 2) := by decide +kernel
theorem dX0_doBits_68 : decode cX0_doBits 68 = .ok (.iload 4, 2) := by decide +kernel
theorem dX0_doBits_70 : decode cX0_doBits 70 = .ok (.aload_n 1, 1) := by decide +kernel
theorem dX0_doBits_71 : decode cX0_doBits 71 = .ok (.getfield 156, 3) := by decide +kernel
theorem dX0_doBits_74 : decode cX0_doBits 74 = .ok (.invokevirtual 161, 3) := by decide +kernel
theorem dX0_doBits_77 : decode cX0_doBits 77 = .ok (.return_, 1) := by decide +kernel
theorem dX0_doBits_41 : decode cX0_doBits 41 = .ok (.aload_n 0, 1) := by decide +kernel
theorem dX0_doBits_42 : decode cX0_doBits 42 = .ok (.aload_n 1, 1) := by decide +kernel
theorem dX0_doBits_43 : decode cX0_doBits 43 = .ok (.aload_n 2, 1) := by decide +kernel
theorem dX0_doBits_44 : decode cX0_doBits 44 = .ok (.iload 4, 2) := by decide +kernel
theorem dX0_doBits_46 : decode cX0_doBits 46 = .ok (.invokevirtual 173, 3) := by decide +kernel
theorem dX0_doBits_49 : decode cX0_doBits 49 = .ok (.goto 4, 3) := by decide +kernel
theorem dX0_doBits_30 : decode cX0_doBits 30 = .ok (.goto 48, 3) := by decide +kernel
theorem dX0_runOnce_0 : decode cX0_runOnce 0 = .ok (.aload_n 1, 1) := by decide +kernel
theorem dX0_runOnce_1 : decode cX0_runOnce 1 = .ok (.getfield 87, 3) := by decide +kernel
theorem dX0_runOnce_4 : decode cX0_runOnce 4 = .ok (.ifCond .ne 9, 3) := by decide +kernel
theorem dX0_runOnce_13 : decode cX0_runOnce 13 = .ok (.return_, 1) := by decide +kernel
theorem dX0_runOnce_7 : decode cX0_runOnce 7 = .ok (.iload_n 2, 1) := by decide +kernel
theorem dX0_runOnce_8 : decode cX0_runOnce 8 = .ok (.bipush 40, 2) := by decide +kernel
theorem dX0_runOnce_10 : decode cX0_runOnce 10 = .ok (.if_icmp .lt 4, 3) := by decide +kernel
theorem dX0_runOnce_14 : decode cX0_runOnce 14 = .ok (.aload_n 1, 1) := by decide +kernel
theorem dX0_runOnce_15 : decode cX0_runOnce 15 = .ok (.iconst 1, 1) := by decide +kernel
theorem dX0_runOnce_16 : decode cX0_runOnce 16 = .ok (.putfield 87, 3) := by decide +kernel
theorem dX0_runOnce_19 : decode cX0_runOnce 19 = .ok (.aload_n 0, 1) := by decide +kernel
theorem dX0_runOnce_20 : decode cX0_runOnce 20 = .ok (.aload_n 1, 1) := by decide +kernel
theorem dX0_runOnce_21 : decode cX0_runOnce 21 = .ok (.getfield 157, 3) := by decide +kernel
theorem dX0_runOnce_24 : decode cX0_runOnce 24 = .ok (.invokevirtual 72, 3) := by decide +kernel
theorem dX0_runOnce_27 : decode cX0_runOnce 27 = .ok (.ifCond .ne 15, 3) := by decide +kernel
theorem dX0_runOnce_42 : decode cX0_runOnce 42 = .ok (.aload_n 0, 1) := by decide +kernel
theorem dX0_runOnce_43 : decode cX0_runOnce 43 = .ok (.aload_n 1, 1) := by decide +kernel
theorem dX0_runOnce_44 : decode cX0_runOnce 44 = .ok (.getfield 91, 3) := by decide +kernel
theorem dX0_runOnce_47 : decode cX0_runOnce 47 = .ok (.iconst 2, 1) := by decide +kernel
theorem dX0_runOnce_48 : decode cX0_runOnce 48 = .ok (.iaload, 1) := by decide +kernel
theorem dX0_runOnce_49 : decode cX0_runOnce 49 = .ok (.iconst 1, 1) := by decide +kernel
theorem dX0_runOnce_50 : decode cX0_runOnce 50 = .ok (.isub, 1) := by decide +kernel
theorem dX0_runOnce_51 : decode cX0_runOnce 51 = .ok (.invokevirtual 79, 3) := by decide +kernel
theorem dX0_runOnce_54 : decode cX0_runOnce 54 = .ok (.astore_n 3, 1) := by decide +kernel
theorem dX0_runOnce_55 : decode cX0_runOnce 55 = .ok (.aload_n 3, 1) := by decide +kernel
theorem dX0_runOnce_56 : decode cX0_runOnce 56 = .ok (.ifnull 31, 3) := by decide +kernel
theorem dX0_runOnce_87 : decode cX0_runOnce 87 = .ok (.aload_n 0, 1) := by decide +kernel
theorem dX0_runOnce_88 : decode cX0_runOnce 88 = .ok (.aload_n 1, 1) := by decide +kernel
theorem dX0_runOnce_89 : decode cX0_runOnce 89 = .ok (.aload_n 3, 1) := by decide +kernel
theorem dX0_runOnce_90 : decode cX0_runOnce 90 = .ok (.invokevirtual 165, 3) := by decide +kernel
theorem dX0_runOnce_93 : decode cX0_runOnce 93 = .ok (.return_, 1) := by decide +kernel
theorem dX0_runOnce_59 : decode cX0_runOnce 59 = .ok (.aload_n 0, 1) := by decide +kernel
theorem dX0_runOnce_60 : decode cX0_runOnce 60 = .ok (.aload_n 3, 1) := by decide +kernel
theorem dX0_runOnce_61 : decode cX0_runOnce 61 = .ok (.iload_n 2, 1) := by decide +kernel
theorem dX0_runOnce_62 : decode cX0_runOnce 62 = .ok (.iconst 1, 1) := by decide +kernel
theorem dX0_runOnce_63 : decode cX0_runOnce 63 = .ok (.iadd, 1) := by decide +kernel
theorem dX0_runOnce_64 : decode cX0_runOnce 64 = .ok (.invokevirtual 97, 3) := by decide +kernel
theorem dX0_runOnce_67 : decode cX0_runOnce 67 = .ok (.aload_n 3, 1) := by decide +kernel
theorem dX0_runOnce_68 : decode cX0_runOnce 68 = .ok (.getfield 101, 3) := by decide +kernel
theorem dX0_runOnce_71 : decode cX0_runOnce 71 = .ok (.ifCond .eq 16, 3) := by decide +kernel
theorem dX0_runOnce_74 : decode cX0_runOnce 74 = .ok (.aload_n 1, 1) := by decide +kernel
theorem dX0_runOnce_75 : decode cX0_runOnce 75 = .ok (.bipush 6, 2) := by decide +kernel
theorem dX0_runOnce_77 : decode cX0_runOnce 77 = .ok (.bipush 8, 2) := by decide +kernel
theorem dX0_runOnce_79 : decode cX0_runOnce 79 = .ok (.aload_n 3, 1) := by decide +kernel
theorem dX0_runOnce_80 : decode cX0_runOnce 80 = .ok (.getfield 120, 3) := by decide +kernel
theorem dX0_runOnce_83 : decode cX0_runOnce 83 = .ok (.invokevirtual 161, 3) := by decide +kernel
theorem dX0_runOnce_86 : decode cX0_runOnce 86 = .ok (.return_, 1) := by decide +kernel
theorem dX0_runOnce_30 : decode cX0_runOnce 30 = .ok (.aload_n 1, 1) := by decide +kernel
theorem dX0_runOnce_31 : decode cX0_runOnce 31 = .ok (.iconst 1, 1) := by decide +kernel
theorem dX0_runOnce_32 : decode cX0_runOnce 32 = .ok (.bipush 8, 2) := by decide +kernel
theorem dX0_runOnce_34 : decode cX0_runOnce 34 = .ok (.aload_n 1, 1) := by decide +kernel
theorem dX0_runOnce_35 : decode cX0_runOnce 35 = .ok (.getfield 156, 3) := by decide +kernel
theorem dX0_runOnce_38 : decode cX0_runOnce 38 = .ok (.invokevirtual 161, 3) := by decide +kernel
theorem dX0_runOnce_41 : decode cX0_runOnce 41 = .ok (.return_, 1) := by decide +kernel
theorem dX0_run_0 : decode cX0_run 0 = .ok (.aload_n 0, 1) := by decide +kernel
theorem dX0_run_1 : decode cX0_run 1 = .ok (.iload_n 1, 1) := by decide +kernel
theorem dX0_run_2 : decode cX0_run 2 = .ok (.invokevirtual 79, 3) := by decide +kernel
theorem dX0_run_5 : decode cX0_run 5 = .ok (.astore_n 2, 1) := by decide +kernel
theorem dX0_run_6 : decode cX0_run 6 = .ok (.aload_n 2, 1) := by decide +kernel
theorem dX0_run_7 : decode cX0_run 7 = .ok (.ifnonnull 5, 3) := by decide +kernel
theorem dX0_run_10 : decode cX0_run 10 = .ok (.iconst (-1), 1) := by decide +kernel
theorem dX0_run_11 : decode cX0_run 11 = .ok (.ireturn, 1) := by decide +kernel
theorem dX0_run_12 : decode cX0_run 12 = .ok (.aload_n 0, 1) := by decide +kernel
theorem dX0_run_13 : decode cX0_run 13 = .ok (.aload_n 2, 1) := by decide +kernel
theorem dX0_run_14 : decode cX0_run 14 = .ok (.iconst 0, 1) := by decide +kernel
theorem dX0_run_15 : decode cX0_run 15 = .ok (.invokevirtual 97, 3) := by decide +kernel
theorem dX0_run_18 : decode cX0_run 18 = .ok (.aload_n 2, 1) := by decide +kernel
theorem dX0_run_19 : decode cX0_run 19 = .ok (.getfield 101, 3) := by decide +kernel
theorem dX0_run_22 : decode cX0_run 22 = .ok (.ifCond .ne 10, 3) := by decide +kernel
theorem dX0_run_32 : decode cX0_run 32 = .ok (.bipush (-10), 2) := by decide +kernel
theorem dX0_run_34 : decode cX0_run 34 = .ok (.aload_n 2, 1) := by decide +kernel
theorem dX0_run_35 : decode cX0_run 35 = .ok (.getfield 101, 3) := by decide +kernel
theorem dX0_run_38 : decode cX0_run 38 = .ok (.isub, 1) := by decide +kernel
theorem dX0_run_39 : decode cX0_run 39 = .ok (.ireturn, 1) := by decide +kernel
theorem dX0_run_25 : decode cX0_run 25 = .ok (.aload_n 2, 1) := by decide +kernel
theorem dX0_run_26 : decode cX0_run 26 = .ok (.getfield 104, 3) := by decide +kernel
theorem dX0_run_29 : decode cX0_run 29 = .ok (.goto 10, 3) := by decide +kernel
theorem dX0_digest_0 : decode cX0_digest 0 = .ok (.aload_n 0, 1) := by decide +kernel
theorem dX0_digest_1 : decode cX0_digest 1 = .ok (.iload_n 1, 1) := by decide +kernel
theorem dX0_digest_2 : decode cX0_digest 2 = .ok (.invokevirtual 79, 3) := by decide +kernel
theorem dX0_digest_5 : decode cX0_digest 5 = .ok (.astore_n 3, 1) := by decide +kernel
theorem dX0_digest_6 : decode cX0_digest 6 = .ok (.aload_n 3, 1) := by decide +kernel
theorem dX0_digest_7 : decode cX0_digest 7 = .ok (.ifnonnull 5, 3) := by decide +kernel
theorem dX0_digest_10 : decode cX0_digest 10 = .ok (.iconst 0, 1) := by decide +kernel
theorem dX0_digest_11 : decode cX0_digest 11 = .ok (.ireturn, 1) := by decide +kernel
theorem dX0_digest_12 : decode cX0_digest 12 = .ok (.aload_n 3, 1) := by decide +kernel
theorem dX0_digest_13 : decode cX0_digest 13 = .ok (.getfield 157, 3) := by decide +kernel
theorem dX0_digest_16 : decode cX0_digest 16 = .ok (.astore 4, 2) := by decide +kernel
theorem dX0_digest_18 : decode cX0_digest 18 = .ok (.aload 4, 2) := by decide +kernel
theorem dX0_digest_20 : decode cX0_digest 20 = .ok (.getfield 132, 3) := by decide +kernel
theorem dX0_digest_23 : decode cX0_digest 23 = .ok (.bipush 31, 2) := by decide +kernel
theorem dX0_digest_25 : decode cX0_digest 25 = .ok (.imul, 1) := by decide +kernel
theorem dX0_digest_26 : decode cX0_digest 26 = .ok (.aload 4, 2) := by decide +kernel
theorem dX0_digest_28 : decode cX0_digest 28 = .ok (.getfield 135, 3) := by decide +kernel
theorem dX0_digest_31 : decode cX0_digest 31 = .ok (.iadd, 1) := by decide +kernel
theorem dX0_digest_32 : decode cX0_digest 32 = .ok (.bipush 31, 2) := by decide +kernel
theorem dX0_digest_34 : decode cX0_digest 34 = .ok (.imul, 1) := by decide +kernel
theorem dX0_digest_35 : decode cX0_digest 35 = .ok (.iload_n 1, 1) := by decide +kernel
theorem dX0_digest_36 : decode cX0_digest 36 = .ok (.iadd, 1) := by decide +kernel
theorem dX0_digest_37 : decode cX0_digest 37 = .ok (.bipush 31, 2) := by decide +kernel
theorem dX0_digest_39 : decode cX0_digest 39 = .ok (.imul, 1) := by decide +kernel
theorem dX0_digest_40 : decode cX0_digest 40 = .ok (.iload_n 2, 1) := by decide +kernel
theorem dX0_digest_41 : decode cX0_digest 41 = .ok (.iadd, 1) := by decide +kernel
theorem dX0_digest_42 : decode cX0_digest 42 = .ok (.ireturn, 1) := by decide +kernel
theorem dX0_action_0 : decode cX0_action 0 = .ok (.iload_n 1, 1) := by decide +kernel
theorem dX0_action_1 : decode cX0_action 1 = .ok (.aload_n 0, 1) := by decide +kernel
theorem dX0_action_2 : decode cX0_action 2 = .ok (.getfield 38, 3) := by decide +kernel
theorem dX0_action_5 : decode cX0_action 5 = .ok (.iconst 1, 1) := by decide +kernel
theorem dX0_action_6 : decode cX0_action 6 = .ok (.isub, 1) := by decide +kernel
theorem dX0_action_7 : decode cX0_action 7 = .ok (.invokestatic 57, 3) := by decide +kernel
theorem dX0_action_10 : decode cX0_action 10 = .ok (.ifCond .ne 5, 3) := by decide +kernel
theorem dX0_action_15 : decode cX0_action 15 = .ok (.iload_n 2, 1) := by decide +kernel
theorem dX0_action_16 : decode cX0_action 16 = .ok (.tableswitch 59 0 2 #[28, 35, 42], 28) := by decide +kernel
theorem dX0_action_44 : decode cX0_action 44 = .ok (.aload_n 0, 1) := by decide +kernel
theorem dX0_action_45 : decode cX0_action 45 = .ok (.getfield 31, 3) := by decide +kernel
theorem dX0_action_48 : decode cX0_action 48 = .ok (.iload_n 1, 1) := by decide +kernel
theorem dX0_action_49 : decode cX0_action 49 = .ok (.iaload, 1) := by decide +kernel
theorem dX0_action_50 : decode cX0_action 50 = .ok (.ireturn, 1) := by decide +kernel
theorem dX0_action_51 : decode cX0_action 51 = .ok (.aload_n 0, 1) := by decide +kernel
theorem dX0_action_52 : decode cX0_action 52 = .ok (.getfield 35, 3) := by decide +kernel
theorem dX0_action_55 : decode cX0_action 55 = .ok (.iload_n 1, 1) := by decide +kernel
theorem dX0_action_56 : decode cX0_action 56 = .ok (.iaload, 1) := by decide +kernel
theorem dX0_action_57 : decode cX0_action 57 = .ok (.ireturn, 1) := by decide +kernel
theorem dX0_action_58 : decode cX0_action 58 = .ok (.aload_n 0, 1) := by decide +kernel
theorem dX0_action_59 : decode cX0_action 59 = .ok (.aload_n 0, 1) := by decide +kernel
theorem dX0_action_60 : decode cX0_action 60 = .ok (.getfield 31, 3) := by decide +kernel
theorem dX0_action_63 : decode cX0_action 63 = .ok (.iload_n 1, 1) := by decide +kernel
theorem dX0_action_64 : decode cX0_action 64 = .ok (.iaload, 1) := by decide +kernel
theorem dX0_action_65 : decode cX0_action 65 = .ok (.aload_n 0, 1) := by decide +kernel
theorem dX0_action_66 : decode cX0_action 66 = .ok (.getfield 35, 3) := by decide +kernel
theorem dX0_action_69 : decode cX0_action 69 = .ok (.iload_n 1, 1) := by decide +kernel
theorem dX0_action_70 : decode cX0_action 70 = .ok (.iaload, 1) := by decide +kernel
theorem dX0_action_71 : decode cX0_action 71 = .ok (.invokevirtual 107, 3) := by decide +kernel
theorem dX0_action_74 : decode cX0_action 74 = .ok (.ireturn, 1) := by decide +kernel
theorem dX0_action_75 : decode cX0_action 75 = .ok (.bipush (-2), 2) := by decide +kernel
theorem dX0_action_77 : decode cX0_action 77 = .ok (.ireturn, 1) := by decide +kernel
theorem dX0_action_13 : decode cX0_action 13 = .ok (.iconst (-1), 1) := by decide +kernel
theorem dX0_action_14 : decode cX0_action 14 = .ok (.ireturn, 1) := by decide +kernel
theorem dX0_provider_0 : decode cX0_provider 0 = .ok (.aload_n 0, 1) := by decide +kernel
theorem dX0_provider_1 : decode cX0_provider 1 = .ok (.iload_n 1, 1) := by decide +kernel
theorem dX0_provider_2 : decode cX0_provider 2 = .ok (.invokevirtual 79, 3) := by decide +kernel
theorem dX0_provider_5 : decode cX0_provider 5 = .ok (.astore_n 3, 1) := by decide +kernel
theorem dX0_provider_6 : decode cX0_provider 6 = .ok (.aload_n 3, 1) := by decide +kernel
theorem dX0_provider_7 : decode cX0_provider 7 = .ok (.ifnull 20, 3) := by decide +kernel
theorem dX0_provider_27 : decode cX0_provider 27 = .ok (.iconst 0, 1) := by decide +kernel
theorem dX0_provider_28 : decode cX0_provider 28 = .ok (.ireturn, 1) := by decide +kernel
theorem dX0_provider_10 : decode cX0_provider 10 = .ok (.iload_n 2, 1) := by decide +kernel
theorem dX0_provider_11 : decode cX0_provider 11 = .ok (.iconst 2, 1) := by decide +kernel
theorem dX0_provider_12 : decode cX0_provider 12 = .ok (.invokestatic 57, 3) := by decide +kernel
theorem dX0_provider_15 : decode cX0_provider 15 = .ok (.ifCond .eq 12, 3) := by decide +kernel
theorem dX0_provider_18 : decode cX0_provider 18 = .ok (.aload_n 3, 1) := by decide +kernel
theorem dX0_provider_19 : decode cX0_provider 19 = .ok (.getfield 110, 3) := by decide +kernel
theorem dX0_provider_22 : decode cX0_provider 22 = .ok (.iload_n 2, 1) := by decide +kernel
theorem dX0_provider_23 : decode cX0_provider 23 = .ok (.baload, 1) := by decide +kernel
theorem dX0_provider_24 : decode cX0_provider 24 = .ok (.ifCond .ne 5, 3) := by decide +kernel
theorem dX0_provider_29 : decode cX0_provider 29 = .ok (.aload_n 3, 1) := by decide +kernel
theorem dX0_provider_30 : decode cX0_provider 30 = .ok (.getfield 114, 3) := by decide +kernel
theorem dX0_provider_33 : decode cX0_provider 33 = .ok (.iload_n 2, 1) := by decide +kernel
theorem dX0_provider_34 : decode cX0_provider 34 = .ok (.iaload, 1) := by decide +kernel
theorem dX0_provider_35 : decode cX0_provider 35 = .ok (.ireturn, 1) := by decide +kernel
theorem dX0_failed_0 : decode cX0_failed 0 = .ok (.aload_n 0, 1) := by decide +kernel
theorem dX0_failed_1 : decode cX0_failed 1 = .ok (.iload_n 1, 1) := by decide +kernel
theorem dX0_failed_2 : decode cX0_failed 2 = .ok (.invokevirtual 79, 3) := by decide +kernel
theorem dX0_failed_5 : decode cX0_failed 5 = .ok (.astore_n 3, 1) := by decide +kernel
theorem dX0_failed_6 : decode cX0_failed 6 = .ok (.aload_n 3, 1) := by decide +kernel
theorem dX0_failed_7 : decode cX0_failed 7 = .ok (.ifnonnull 5, 3) := by decide +kernel
theorem dX0_failed_10 : decode cX0_failed 10 = .ok (.iconst (-1), 1) := by decide +kernel
theorem dX0_failed_11 : decode cX0_failed 11 = .ok (.ireturn, 1) := by decide +kernel
theorem dX0_failed_12 : decode cX0_failed 12 = .ok (.iload_n 2, 1) := by decide +kernel
theorem dX0_failed_13 : decode cX0_failed 13 = .ok (.iconst 2, 1) := by decide +kernel
theorem dX0_failed_14 : decode cX0_failed 14 = .ok (.invokestatic 57, 3) := by decide +kernel
theorem dX0_failed_17 : decode cX0_failed 17 = .ok (.ifCond .ne 6, 3) := by decide +kernel
theorem dX0_failed_23 : decode cX0_failed 23 = .ok (.aload_n 3, 1) := by decide +kernel
theorem dX0_failed_24 : decode cX0_failed 24 = .ok (.getfield 87, 3) := by decide +kernel
theorem dX0_failed_27 : decode cX0_failed 27 = .ok (.ifCond .ne 6, 3) := by decide +kernel
theorem dX0_failed_33 : decode cX0_failed 33 = .ok (.aload_n 3, 1) := by decide +kernel
theorem dX0_failed_34 : decode cX0_failed 34 = .ok (.getfield 101, 3) := by decide +kernel
theorem dX0_failed_37 : decode cX0_failed 37 = .ok (.ifCond .ne 5, 3) := by decide +kernel
theorem dX0_failed_42 : decode cX0_failed 42 = .ok (.iload_n 2, 1) := by decide +kernel
theorem dX0_failed_43 : decode cX0_failed 43 = .ok (.lookupswitch 35 #[(0, 25), (1, 30)], 25) := by decide +kernel
theorem dX0_failed_68 : decode cX0_failed 68 = .ok (.aload_n 3, 1) := by decide +kernel
theorem dX0_failed_69 : decode cX0_failed 69 = .ok (.getfield 101, 3) := by decide +kernel
theorem dX0_failed_72 : decode cX0_failed 72 = .ok (.ireturn, 1) := by decide +kernel
theorem dX0_failed_73 : decode cX0_failed 73 = .ok (.aload_n 3, 1) := by decide +kernel
theorem dX0_failed_74 : decode cX0_failed 74 = .ok (.getfield 117, 3) := by decide +kernel
theorem dX0_failed_77 : decode cX0_failed 77 = .ok (.ireturn, 1) := by decide +kernel
theorem dX0_failed_78 : decode cX0_failed 78 = .ok (.aload_n 3, 1) := by decide +kernel
theorem dX0_failed_79 : decode cX0_failed 79 = .ok (.getfield 120, 3) := by decide +kernel
theorem dX0_failed_82 : decode cX0_failed 82 = .ok (.iconst 1, 1) := by decide +kernel
theorem dX0_failed_83 : decode cX0_failed 83 = .ok (.iadd, 1) := by decide +kernel
theorem dX0_failed_84 : decode cX0_failed 84 = .ok (.ireturn, 1) := by decide +kernel
theorem dX0_failed_40 : decode cX0_failed 40 = .ok (.iconst 0, 1) := by decide +kernel
theorem dX0_failed_41 : decode cX0_failed 41 = .ok (.ireturn, 1) := by decide +kernel
theorem dX0_failed_30 : decode cX0_failed 30 = .ok (.bipush (-3), 2) := by decide +kernel
theorem dX0_failed_32 : decode cX0_failed 32 = .ok (.ireturn, 1) := by decide +kernel
theorem dX0_failed_20 : decode cX0_failed 20 = .ok (.bipush (-2), 2) := by decide +kernel
theorem dX0_failed_22 : decode cX0_failed 22 = .ok (.ireturn, 1) := by decide +kernel
theorem dX0_cell_0 : decode cX0_cell 0 = .ok (.aload_n 0, 1) := by decide +kernel
theorem dX0_cell_1 : decode cX0_cell 1 = .ok (.iload_n 1, 1) := by decide +kernel
theorem dX0_cell_2 : decode cX0_cell 2 = .ok (.invokevirtual 68, 3) := by decide +kernel
theorem dX0_cell_5 : decode cX0_cell 5 = .ok (.astore_n 2, 1) := by decide +kernel
theorem dX0_cell_6 : decode cX0_cell 6 = .ok (.aload_n 2, 1) := by decide +kernel
theorem dX0_cell_7 : decode cX0_cell 7 = .ok (.ifnull 10, 3) := by decide +kernel
theorem dX0_cell_17 : decode cX0_cell 17 = .ok (.ldc2_w 126, 3) := by decide +kernel
theorem dX0_cell_20 : decode cX0_cell 20 = .ok (.lreturn, 1) := by decide +kernel
theorem dX0_cell_10 : decode cX0_cell 10 = .ok (.aload_n 2, 1) := by decide +kernel
theorem dX0_cell_11 : decode cX0_cell 11 = .ok (.getfield 123, 3) := by decide +kernel
theorem dX0_cell_14 : decode cX0_cell 14 = .ok (.ifCond .ne 7, 3) := by decide +kernel
theorem dX0_cell_21 : decode cX0_cell 21 = .ok (.aload_n 2, 1) := by decide +kernel
theorem dX0_cell_22 : decode cX0_cell 22 = .ok (.getfield 128, 3) := by decide +kernel
theorem dX0_cell_25 : decode cX0_cell 25 = .ok (.lreturn, 1) := by decide +kernel
theorem dX0_same_0 : decode cX0_same 0 = .ok (.aload_n 0, 1) := by decide +kernel
theorem dX0_same_1 : decode cX0_same 1 = .ok (.iload_n 1, 1) := by decide +kernel
theorem dX0_same_2 : decode cX0_same 2 = .ok (.invokevirtual 68, 3) := by decide +kernel
theorem dX0_same_5 : decode cX0_same 5 = .ok (.astore_n 3, 1) := by decide +kernel
theorem dX0_same_6 : decode cX0_same 6 = .ok (.aload_n 0, 1) := by decide +kernel
theorem dX0_same_7 : decode cX0_same 7 = .ok (.iload_n 2, 1) := by decide +kernel
theorem dX0_same_8 : decode cX0_same 8 = .ok (.invokevirtual 68, 3) := by decide +kernel
theorem dX0_same_11 : decode cX0_same 11 = .ok (.astore 4, 2) := by decide +kernel
theorem dX0_same_13 : decode cX0_same 13 = .ok (.aload_n 3, 1) := by decide +kernel
theorem dX0_same_14 : decode cX0_same 14 = .ok (.ifnull 29, 3) := by decide +kernel
theorem dX0_same_43 : decode cX0_same 43 = .ok (.iconst 0, 1) := by decide +kernel
theorem dX0_same_44 : decode cX0_same 44 = .ok (.ireturn, 1) := by decide +kernel
theorem dX0_same_17 : decode cX0_same 17 = .ok (.aload 4, 2) := by decide +kernel
theorem dX0_same_19 : decode cX0_same 19 = .ok (.ifnull 24, 3) := by decide +kernel
theorem dX0_same_22 : decode cX0_same 22 = .ok (.aload_n 3, 1) := by decide +kernel
theorem dX0_same_23 : decode cX0_same 23 = .ok (.aload 4, 2) := by decide +kernel
theorem dX0_same_25 : decode cX0_same 25 = .ok (.getfield 132, 3) := by decide +kernel
theorem dX0_same_28 : decode cX0_same 28 = .ok (.aload 4, 2) := by decide +kernel
theorem dX0_same_30 : decode cX0_same 30 = .ok (.getfield 135, 3) := by decide +kernel
theorem dX0_same_33 : decode cX0_same 33 = .ok (.invokevirtual 138, 3) := by decide +kernel
theorem dX0_same_36 : decode cX0_same 36 = .ok (.ifCond .eq 7, 3) := by decide +kernel
theorem dX0_same_39 : decode cX0_same 39 = .ok (.iconst 1, 1) := by decide +kernel
theorem dX0_same_40 : decode cX0_same 40 = .ok (.goto 4, 3) := by decide +kernel
theorem dX3_init_0 : decode cX3_init 0 = .ok (.aload_n 0, 1) := by decide +kernel
theorem dX3_init_1 : decode cX3_init 1 = .ok (.invokespecial 1, 3) := by decide +kernel
theorem dX3_init_4 : decode cX3_init 4 = .ok (.aload_n 0, 1) := by decide +kernel
theorem dX3_init_5 : decode cX3_init 5 = .ok (.bipush 16, 2) := by decide +kernel
theorem dX3_init_7 : decode cX3_init 7 = .ok (.newarray .int, 2) := by decide +kernel
theorem dX3_init_9 : decode cX3_init 9 = .ok (.putfield 7, 3) := by decide +kernel
theorem dX3_init_12 : decode cX3_init 12 = .ok (.aload_n 0, 1) := by decide +kernel
theorem dX3_init_13 : decode cX3_init 13 = .ok (.bipush 16, 2) := by decide +kernel
theorem dX3_init_15 : decode cX3_init 15 = .ok (.newarray .int, 2) := by decide +kernel
theorem dX3_init_17 : decode cX3_init 17 = .ok (.putfield 13, 3) := by decide +kernel
theorem dX3_init_20 : decode cX3_init 20 = .ok (.aload_n 0, 1) := by decide +kernel
theorem dX3_init_21 : decode cX3_init 21 = .ok (.bipush 16, 2) := by decide +kernel
theorem dX3_init_23 : decode cX3_init 23 = .ok (.newarray .int, 2) := by decide +kernel
theorem dX3_init_25 : decode cX3_init 25 = .ok (.putfield 16, 3) := by decide +kernel
theorem dX3_init_28 : decode cX3_init 28 = .ok (.aload_n 0, 1) := by decide +kernel
theorem dX3_init_29 : decode cX3_init 29 = .ok (.bipush 16, 2) := by decide +kernel
theorem dX3_init_31 : decode cX3_init 31 = .ok (.newarray .boolean, 2) := by decide +kernel
theorem dX3_init_33 : decode cX3_init 33 = .ok (.putfield 19, 3) := by decide +kernel
theorem dX3_init_36 : decode cX3_init 36 = .ok (.aload_n 0, 1) := by decide +kernel
theorem dX3_init_37 : decode cX3_init 37 = .ok (.bipush 16, 2) := by decide +kernel
theorem dX3_init_39 : decode cX3_init 39 = .ok (.newarray .long, 2) := by decide +kernel
theorem dX3_init_41 : decode cX3_init 41 = .ok (.putfield 23, 3) := by decide +kernel
theorem dX3_init_44 : decode cX3_init 44 = .ok (.aload_n 0, 1) := by decide +kernel
theorem dX3_init_45 : decode cX3_init 45 = .ok (.bipush 40, 2) := by decide +kernel
theorem dX3_init_47 : decode cX3_init 47 = .ok (.newarray .int, 2) := by decide +kernel
theorem dX3_init_49 : decode cX3_init 49 = .ok (.putfield 27, 3) := by decide +kernel
theorem dX3_init_52 : decode cX3_init 52 = .ok (.aload_n 0, 1) := by decide +kernel
theorem dX3_init_53 : decode cX3_init 53 = .ok (.sipush 160, 3) := by decide +kernel
theorem dX3_init_56 : decode cX3_init 56 = .ok (.newarray .int, 2) := by decide +kernel
theorem dX3_init_58 : decode cX3_init 58 = .ok (.putfield 30, 3) := by decide +kernel
theorem dX3_init_61 : decode cX3_init 61 = .ok (.aload_n 0, 1) := by decide +kernel
theorem dX3_init_62 : decode cX3_init 62 = .ok (.bipush 40, 2) := by decide +kernel
theorem dX3_init_64 : decode cX3_init 64 = .ok (.newarray .int, 2) := by decide +kernel
theorem dX3_init_66 : decode cX3_init 66 = .ok (.putfield 33, 3) := by decide +kernel
theorem dX3_init_69 : decode cX3_init 69 = .ok (.aload_n 0, 1) := by decide +kernel
theorem dX3_init_70 : decode cX3_init 70 = .ok (.bipush 40, 2) := by decide +kernel
theorem dX3_init_72 : decode cX3_init 72 = .ok (.newarray .int, 2) := by decide +kernel
theorem dX3_init_74 : decode cX3_init 74 = .ok (.putfield 36, 3) := by decide +kernel
theorem dX3_init_77 : decode cX3_init 77 = .ok (.aload_n 0, 1) := by decide +kernel
theorem dX3_init_78 : decode cX3_init 78 = .ok (.bipush 40, 2) := by decide +kernel
theorem dX3_init_80 : decode cX3_init 80 = .ok (.newarray .int, 2) := by decide +kernel
theorem dX3_init_82 : decode cX3_init 82 = .ok (.putfield 39, 3) := by decide +kernel
theorem dX3_init_85 : decode cX3_init 85 = .ok (.aload_n 0, 1) := by decide +kernel
theorem dX3_init_86 : decode cX3_init 86 = .ok (.bipush 40, 2) := by decide +kernel
theorem dX3_init_88 : decode cX3_init 88 = .ok (.newarray .int, 2) := by decide +kernel
theorem dX3_init_90 : decode cX3_init 90 = .ok (.putfield 42, 3) := by decide +kernel
theorem dX3_init_93 : decode cX3_init 93 = .ok (.aload_n 0, 1) := by decide +kernel
theorem dX3_init_94 : decode cX3_init 94 = .ok (.bipush 40, 2) := by decide +kernel
theorem dX3_init_96 : decode cX3_init 96 = .ok (.newarray .int, 2) := by decide +kernel
theorem dX3_init_98 : decode cX3_init 98 = .ok (.putfield 45, 3) := by decide +kernel
theorem dX3_init_101 : decode cX3_init 101 = .ok (.aload_n 0, 1) := by decide +kernel
theorem dX3_init_102 : decode cX3_init 102 = .ok (.bipush 40, 2) := by decide +kernel
theorem dX3_init_104 : decode cX3_init 104 = .ok (.newarray .int, 2) := by decide +kernel
theorem dX3_init_106 : decode cX3_init 106 = .ok (.putfield 48, 3) := by decide +kernel
theorem dX3_init_109 : decode cX3_init 109 = .ok (.aload_n 0, 1) := by decide +kernel
theorem dX3_init_110 : decode cX3_init 110 = .ok (.bipush 120, 2) := by decide +kernel
theorem dX3_init_112 : decode cX3_init 112 = .ok (.newarray .int, 2) := by decide +kernel
theorem dX3_init_114 : decode cX3_init 114 = .ok (.putfield 51, 3) := by decide +kernel
theorem dX3_init_117 : decode cX3_init 117 = .ok (.aload_n 0, 1) := by decide +kernel
theorem dX3_init_118 : decode cX3_init 118 = .ok (.bipush 40, 2) := by decide +kernel
theorem dX3_init_120 : decode cX3_init 120 = .ok (.newarray .boolean, 2) := by decide +kernel
theorem dX3_init_122 : decode cX3_init 122 = .ok (.putfield 54, 3) := by decide +kernel
theorem dX3_init_125 : decode cX3_init 125 = .ok (.aload_n 0, 1) := by decide +kernel
theorem dX3_init_126 : decode cX3_init 126 = .ok (.bipush 120, 2) := by decide +kernel
theorem dX3_init_128 : decode cX3_init 128 = .ok (.newarray .boolean, 2) := by decide +kernel
theorem dX3_init_130 : decode cX3_init 130 = .ok (.putfield 57, 3) := by decide +kernel
theorem dX3_init_133 : decode cX3_init 133 = .ok (.aload_n 0, 1) := by decide +kernel
theorem dX3_init_134 : decode cX3_init 134 = .ok (.sipush 400, 3) := by decide +kernel
theorem dX3_init_137 : decode cX3_init 137 = .ok (.newarray .int, 2) := by decide +kernel
theorem dX3_init_139 : decode cX3_init 139 = .ok (.putfield 60, 3) := by decide +kernel
theorem dX3_init_142 : decode cX3_init 142 = .ok (.aload_n 0, 1) := by decide +kernel
theorem dX3_init_143 : decode cX3_init 143 = .ok (.sipush 400, 3) := by decide +kernel
theorem dX3_init_146 : decode cX3_init 146 = .ok (.newarray .int, 2) := by decide +kernel
theorem dX3_init_148 : decode cX3_init 148 = .ok (.putfield 63, 3) := by decide +kernel
theorem dX3_init_151 : decode cX3_init 151 = .ok (.aload_n 0, 1) := by decide +kernel
theorem dX3_init_152 : decode cX3_init 152 = .ok (.iload_n 1, 1) := by decide +kernel
theorem dX3_init_153 : decode cX3_init 153 = .ok (.ifCond .ge 7, 3) := by decide +kernel
theorem dX3_init_160 : decode cX3_init 160 = .ok (.iload_n 1, 1) := by decide +kernel
theorem dX3_init_161 : decode cX3_init 161 = .ok (.ldc 66, 2) := by decide +kernel
theorem dX3_init_163 : decode cX3_init 163 = .ok (.if_icmp .le 8, 3) := by decide +kernel
theorem dX3_init_171 : decode cX3_init 171 = .ok (.iload_n 1, 1) := by decide +kernel
theorem dX3_init_172 : decode cX3_init 172 = .ok (.putfield 67, 3) := by decide +kernel
theorem dX3_init_175 : decode cX3_init 175 = .ok (.return_, 1) := by decide +kernel
theorem dX3_init_166 : decode cX3_init 166 = .ok (.ldc 66, 2) := by decide +kernel
theorem dX3_init_168 : decode cX3_init 168 = .ok (.goto 4, 3) := by decide +kernel
theorem dX3_init_156 : decode cX3_init 156 = .ok (.iconst 0, 1) := by decide +kernel
theorem dX3_init_157 : decode cX3_init 157 = .ok (.goto 15, 3) := by decide +kernel
theorem dX3_thrown_0 : decode cX3_thrown 0 = .ok (.aload_n 0, 1) := by decide +kernel
theorem dX3_thrown_1 : decode cX3_thrown 1 = .ok (.getfield 71, 3) := by decide +kernel
theorem dX3_thrown_4 : decode cX3_thrown 4 = .ok (.ireturn, 1) := by decide +kernel
theorem dX3_isRule_0 : decode cX3_isRule 0 = .ok (.iload_n 1, 1) := by decide +kernel
theorem dX3_isRule_1 : decode cX3_isRule 1 = .ok (.ifCond .lt 15, 3) := by decide +kernel
theorem dX3_isRule_16 : decode cX3_isRule 16 = .ok (.iconst 0, 1) := by decide +kernel
theorem dX3_isRule_17 : decode cX3_isRule 17 = .ok (.ireturn, 1) := by decide +kernel
theorem dX3_isRule_4 : decode cX3_isRule 4 = .ok (.iload_n 1, 1) := by decide +kernel
theorem dX3_isRule_5 : decode cX3_isRule 5 = .ok (.aload_n 0, 1) := by decide +kernel
theorem dX3_isRule_6 : decode cX3_isRule 6 = .ok (.getfield 74, 3) := by decide +kernel
theorem dX3_isRule_9 : decode cX3_isRule 9 = .ok (.if_icmp .ge 7, 3) := by decide +kernel
theorem dX3_isRule_12 : decode cX3_isRule 12 = .ok (.iconst 1, 1) := by decide +kernel
theorem dX3_isRule_13 : decode cX3_isRule 13 = .ok (.goto 4, 3) := by decide +kernel
theorem dX3_isTarget_0 : decode cX3_isTarget 0 = .ok (.iload_n 1, 1) := by decide +kernel
theorem dX3_isTarget_1 : decode cX3_isTarget 1 = .ok (.ifCond .lt 15, 3) := by decide +kernel
theorem dX3_isTarget_16 : decode cX3_isTarget 16 = .ok (.iconst 0, 1) := by decide +kernel
theorem dX3_isTarget_17 : decode cX3_isTarget 17 = .ok (.ireturn, 1) := by decide +kernel
theorem dX3_isTarget_4 : decode cX3_isTarget 4 = .ok (.iload_n 1, 1) := by decide +kernel
theorem dX3_isTarget_5 : decode cX3_isTarget 5 = .ok (.aload_n 0, 1) := by decide +kernel
theorem dX3_isTarget_6 : decode cX3_isTarget 6 = .ok (.getfield 77, 3) := by decide +kernel
theorem dX3_isTarget_9 : decode cX3_isTarget 9 = .ok (.if_icmp .ge 7, 3) := by decide +kernel
theorem dX3_isTarget_12 : decode cX3_isTarget 12 = .ok (.iconst 1, 1) := by decide +kernel
theorem dX3_isTarget_13 : decode cX3_isTarget 13 = .ok (.goto 4, 3) := by decide +kernel
theorem dX3_rule_0 : decode cX3_rule 0 = .ok (.aload_n 0, 1) := by decide +kernel
theorem dX3_rule_1 : decode cX3_rule 1 = .ok (.iconst 0, 1) := by decide +kernel
theorem dX3_rule_2 : decode cX3_rule 2 = .ok (.putfield 71, 3) := by decide +kernel
theorem dX3_rule_5 : decode cX3_rule 5 = .ok (.iload_n 1, 1) := by decide +kernel
theorem dX3_rule_6 : decode cX3_rule 6 = .ok (.ifCond .lt 19, 3) := by decide +kernel
theorem dX3_rule_25 : decode cX3_rule 25 = .ok (.bipush (-2), 2) := by decide +kernel
theorem dX3_rule_27 : decode cX3_rule 27 = .ok (.ireturn, 1) := by decide +kernel
theorem dX3_rule_9 : decode cX3_rule 9 = .ok (.iload_n 1, 1) := by decide +kernel
theorem dX3_rule_10 : decode cX3_rule 10 = .ok (.iconst 3, 1) := by decide +kernel
theorem dX3_rule_11 : decode cX3_rule 11 = .ok (.if_icmp .gt 14, 3) := by decide +kernel
theorem dX3_rule_14 : decode cX3_rule 14 = .ok (.iload_n 2, 1) := by decide +kernel
theorem dX3_rule_15 : decode cX3_rule 15 = .ok (.ifCond .lt 10, 3) := by decide +kernel
theorem dX3_rule_18 : decode cX3_rule 18 = .ok (.iload_n 2, 1) := by decide +kernel
theorem dX3_rule_19 : decode cX3_rule 19 = .ok (.sipush 255, 3) := by decide +kernel
theorem dX3_rule_22 : decode cX3_rule 22 = .ok (.if_icmp .le 6, 3) := by decide +kernel
theorem dX3_rule_28 : decode cX3_rule 28 = .ok (.aload_n 0, 1) := by decide +kernel
theorem dX3_rule_29 : decode cX3_rule 29 = .ok (.getfield 74, 3) := by decide +kernel
theorem dX3_rule_32 : decode cX3_rule 32 = .ok (.bipush 16, 2) := by decide +kernel
theorem dX3_rule_34 : decode cX3_rule 34 = .ok (.if_icmp .ne 6, 3) := by decide +kernel
theorem dX3_rule_40 : decode cX3_rule 40 = .ok (.aload_n 0, 1) := by decide +kernel
theorem dX3_rule_41 : decode cX3_rule 41 = .ok (.getfield 7, 3) := by decide +kernel
theorem dX3_rule_44 : decode cX3_rule 44 = .ok (.aload_n 0, 1) := by decide +kernel
theorem dX3_rule_45 : decode cX3_rule 45 = .ok (.getfield 74, 3) := by decide +kernel
theorem dX3_rule_48 : decode cX3_rule 48 = .ok (.iload_n 1, 1) := by decide +kernel
theorem dX3_rule_49 : decode cX3_rule 49 = .ok (.iastore, 1) := by decide +kernel
theorem dX3_rule_50 : decode cX3_rule 50 = .ok (.aload_n 0, 1) := by decide +kernel
theorem dX3_rule_51 : decode cX3_rule 51 = .ok (.getfield 13, 3) := by decide +kernel
theorem dX3_rule_54 : decode cX3_rule 54 = .ok (.aload_n 0, 1) := by decide +kernel
theorem dX3_rule_55 : decode cX3_rule 55 = .ok (.getfield 74, 3) := by decide +kernel
theorem dX3_rule_58 : decode cX3_rule 58 = .ok (.iload_n 2, 1) := by decide +kernel
theorem dX3_rule_59 : decode cX3_rule 59 = .ok (.iastore, 1) := by decide +kernel
theorem dX3_rule_60 : decode cX3_rule 60 = .ok (.aload_n 0, 1) := by decide +kernel
theorem dX3_rule_61 : decode cX3_rule 61 = .ok (.getfield 19, 3) := by decide +kernel
theorem dX3_rule_64 : decode cX3_rule 64 = .ok (.aload_n 0, 1) := by decide +kernel
theorem dX3_rule_65 : decode cX3_rule 65 = .ok (.getfield 74, 3) := by decide +kernel
theorem dX3_rule_68 : decode cX3_rule 68 = .ok (.iload_n 3, 1) := by decide +kernel
theorem dX3_rule_69 : decode cX3_rule 69 = .ok (.bastore, 1) := by decide +kernel
theorem dX3_rule_70 : decode cX3_rule 70 = .ok (.aload_n 0, 1) := by decide +kernel
end
section
theorem dX3_rule_71 : decode cX3_rule 71 = .ok (.getfield 16, 3) := by decide +kernel
theorem dX3_rule_74 : decode cX3_rule 74 = .ok (.aload_n 0, 1) := by decide +kernel
theorem dX3_rule_75 : decode cX3_rule 75 = .ok (.getfield 74, 3) := by decide +kernel
theorem dX3_rule_78 : decode cX3_rule 78 = .ok (.iconst (-1), 1) := by decide +kernel
theorem dX3_rule_79 : decode cX3_rule 79 = .ok (.iastore, 1) := by decide +kernel
theorem dX3_rule_80 : decode cX3_rule 80 = .ok (.aload_n 0, 1) := by decide +kernel
theorem dX3_rule_81 : decode cX3_rule 81 = .ok (.dup, 1) := by decide +kernel
theorem dX3_rule_82 : decode cX3_rule 82 = .ok (.getfield 74, 3) := by decide +kernel
theorem dX3_rule_85 : decode cX3_rule 85 = .ok (.iconst 1, 1) := by decide +kernel
theorem dX3_rule_86 : decode cX3_rule 86 = .ok (.iadd, 1) := by decide +kernel
theorem dX3_rule_87 : decode cX3_rule 87 = .ok (.putfield 74, 3) := by decide +kernel
theorem dX3_rule_90 : decode cX3_rule 90 = .ok (.aload_n 0, 1) := by decide +kernel
theorem dX3_rule_91 : decode cX3_rule 91 = .ok (.getfield 74, 3) := by decide +kernel
theorem dX3_rule_94 : decode cX3_rule 94 = .ok (.iconst 1, 1) := by decide +kernel
theorem dX3_rule_95 : decode cX3_rule 95 = .ok (.isub, 1) := by decide +kernel
theorem dX3_rule_96 : decode cX3_rule 96 = .ok (.ireturn, 1) := by decide +kernel
theorem dX3_rule_37 : decode cX3_rule 37 = .ok (.bipush (-4), 2) := by decide +kernel
theorem dX3_rule_39 : decode cX3_rule 39 = .ok (.ireturn, 1) := by decide +kernel
theorem dX3_firstOf_0 : decode cX3_firstOf 0 = .ok (.iconst 0, 1) := by decide +kernel
theorem dX3_firstOf_1 : decode cX3_firstOf 1 = .ok (.istore_n 2, 1) := by decide +kernel
theorem dX3_firstOf_2 : decode cX3_firstOf 2 = .ok (.aload_n 0, 1) := by decide +kernel
theorem dX3_firstOf_3 : decode cX3_firstOf 3 = .ok (.getfield 7, 3) := by decide +kernel
theorem dX3_firstOf_6 : decode cX3_firstOf 6 = .ok (.iload_n 2, 1) := by decide +kernel
theorem dX3_firstOf_7 : decode cX3_firstOf 7 = .ok (.iaload, 1) := by decide +kernel
theorem dX3_firstOf_8 : decode cX3_firstOf 8 = .ok (.aload_n 0, 1) := by decide +kernel
theorem dX3_firstOf_9 : decode cX3_firstOf 9 = .ok (.getfield 7, 3) := by decide +kernel
theorem dX3_firstOf_12 : decode cX3_firstOf 12 = .ok (.iload_n 1, 1) := by decide +kernel
theorem dX3_firstOf_13 : decode cX3_firstOf 13 = .ok (.iaload, 1) := by decide +kernel
theorem dX3_firstOf_14 : decode cX3_firstOf 14 = .ok (.if_icmp .ne 18, 3) := by decide +kernel
theorem dX3_firstOf_32 : decode cX3_firstOf 32 = .ok (.iinc 2 1, 3) := by decide +kernel
theorem dX3_firstOf_35 : decode cX3_firstOf 35 = .ok (.goto (-33), 3) := by decide +kernel
theorem dX3_firstOf_17 : decode cX3_firstOf 17 = .ok (.aload_n 0, 1) := by decide +kernel
theorem dX3_firstOf_18 : decode cX3_firstOf 18 = .ok (.getfield 13, 3) := by decide +kernel
theorem dX3_firstOf_21 : decode cX3_firstOf 21 = .ok (.iload_n 2, 1) := by decide +kernel
theorem dX3_firstOf_22 : decode cX3_firstOf 22 = .ok (.iaload, 1) := by decide +kernel
theorem dX3_firstOf_23 : decode cX3_firstOf 23 = .ok (.aload_n 0, 1) := by decide +kernel
theorem dX3_firstOf_24 : decode cX3_firstOf 24 = .ok (.getfield 13, 3) := by decide +kernel
theorem dX3_firstOf_27 : decode cX3_firstOf 27 = .ok (.iload_n 1, 1) := by decide +kernel
theorem dX3_firstOf_28 : decode cX3_firstOf 28 = .ok (.iaload, 1) := by decide +kernel
theorem dX3_firstOf_29 : decode cX3_firstOf 29 = .ok (.if_icmp .eq 9, 3) := by decide +kernel
theorem dX3_firstOf_38 : decode cX3_firstOf 38 = .ok (.iload_n 2, 1) := by decide +kernel
theorem dX3_firstOf_39 : decode cX3_firstOf 39 = .ok (.ireturn, 1) := by decide +kernel
theorem dX3_classOf_0 : decode cX3_classOf 0 = .ok (.aload_n 0, 1) := by decide +kernel
theorem dX3_classOf_1 : decode cX3_classOf 1 = .ok (.iload_n 1, 1) := by decide +kernel
theorem dX3_classOf_2 : decode cX3_classOf 2 = .ok (.invokevirtual 80, 3) := by decide +kernel
theorem dX3_classOf_5 : decode cX3_classOf 5 = .ok (.istore_n 2, 1) := by decide +kernel
theorem dX3_classOf_6 : decode cX3_classOf 6 = .ok (.aload_n 0, 1) := by decide +kernel
theorem dX3_classOf_7 : decode cX3_classOf 7 = .ok (.getfield 19, 3) := by decide +kernel
theorem dX3_classOf_10 : decode cX3_classOf 10 = .ok (.iload_n 2, 1) := by decide +kernel
theorem dX3_classOf_11 : decode cX3_classOf 11 = .ok (.baload, 1) := by decide +kernel
theorem dX3_classOf_12 : decode cX3_classOf 12 = .ok (.ifCond .eq 5, 3) := by decide +kernel
theorem dX3_classOf_17 : decode cX3_classOf 17 = .ok (.aload_n 0, 1) := by decide +kernel
theorem dX3_classOf_18 : decode cX3_classOf 18 = .ok (.getfield 16, 3) := by decide +kernel
theorem dX3_classOf_21 : decode cX3_classOf 21 = .ok (.iload_n 2, 1) := by decide +kernel
theorem dX3_classOf_22 : decode cX3_classOf 22 = .ok (.iaload, 1) := by decide +kernel
theorem dX3_classOf_23 : decode cX3_classOf 23 = .ok (.iconst (-1), 1) := by decide +kernel
theorem dX3_classOf_24 : decode cX3_classOf 24 = .ok (.if_icmp .ne 33, 3) := by decide +kernel
theorem dX3_classOf_57 : decode cX3_classOf 57 = .ok (.aload_n 0, 1) := by decide +kernel
theorem dX3_classOf_58 : decode cX3_classOf 58 = .ok (.getfield 16, 3) := by decide +kernel
theorem dX3_classOf_61 : decode cX3_classOf 61 = .ok (.iload_n 2, 1) := by decide +kernel
theorem dX3_classOf_62 : decode cX3_classOf 62 = .ok (.iaload, 1) := by decide +kernel
theorem dX3_classOf_63 : decode cX3_classOf 63 = .ok (.ireturn, 1) := by decide +kernel
theorem dX3_classOf_27 : decode cX3_classOf 27 = .ok (.aload_n 0, 1) := by decide +kernel
theorem dX3_classOf_28 : decode cX3_classOf 28 = .ok (.getfield 16, 3) := by decide +kernel
theorem dX3_classOf_31 : decode cX3_classOf 31 = .ok (.iload_n 2, 1) := by decide +kernel
theorem dX3_classOf_32 : decode cX3_classOf 32 = .ok (.aload_n 0, 1) := by decide +kernel
theorem dX3_classOf_33 : decode cX3_classOf 33 = .ok (.getfield 84, 3) := by decide +kernel
theorem dX3_classOf_36 : decode cX3_classOf 36 = .ok (.iastore, 1) := by decide +kernel
theorem dX3_classOf_37 : decode cX3_classOf 37 = .ok (.aload_n 0, 1) := by decide +kernel
theorem dX3_classOf_38 : decode cX3_classOf 38 = .ok (.getfield 23, 3) := by decide +kernel
theorem dX3_classOf_41 : decode cX3_classOf 41 = .ok (.aload_n 0, 1) := by decide +kernel
theorem dX3_classOf_42 : decode cX3_classOf 42 = .ok (.getfield 84, 3) := by decide +kernel
theorem dX3_classOf_45 : decode cX3_classOf 45 = .ok (.lconst 0, 1) := by decide +kernel
theorem dX3_classOf_46 : decode cX3_classOf 46 = .ok (.lastore, 1) := by decide +kernel
theorem dX3_classOf_47 : decode cX3_classOf 47 = .ok (.aload_n 0, 1) := by decide +kernel
theorem dX3_classOf_48 : decode cX3_classOf 48 = .ok (.dup, 1) := by decide +kernel
theorem dX3_classOf_49 : decode cX3_classOf 49 = .ok (.getfield 84, 3) := by decide +kernel
theorem dX3_classOf_52 : decode cX3_classOf 52 = .ok (.iconst 1, 1) := by decide +kernel
theorem dX3_classOf_53 : decode cX3_classOf 53 = .ok (.iadd, 1) := by decide +kernel
theorem dX3_classOf_54 : decode cX3_classOf 54 = .ok (.putfield 84, 3) := by decide +kernel
theorem dX3_classOf_15 : decode cX3_classOf 15 = .ok (.iconst (-1), 1) := by decide +kernel
theorem dX3_classOf_16 : decode cX3_classOf 16 = .ok (.ireturn, 1) := by decide +kernel
theorem dX3_make_0 : decode cX3_make 0 = .ok (.aload_n 0, 1) := by decide +kernel
theorem dX3_make_1 : decode cX3_make 1 = .ok (.iconst 0, 1) := by decide +kernel
theorem dX3_make_2 : decode cX3_make 2 = .ok (.putfield 71, 3) := by decide +kernel
theorem dX3_make_5 : decode cX3_make 5 = .ok (.aload_n 0, 1) := by decide +kernel
theorem dX3_make_6 : decode cX3_make 6 = .ok (.iload_n 1, 1) := by decide +kernel
theorem dX3_make_7 : decode cX3_make 7 = .ok (.invokevirtual 87, 3) := by decide +kernel
theorem dX3_make_10 : decode cX3_make 10 = .ok (.ifCond .eq 11, 3) := by decide +kernel
theorem dX3_make_21 : decode cX3_make 21 = .ok (.iconst (-1), 1) := by decide +kernel
theorem dX3_make_22 : decode cX3_make 22 = .ok (.ireturn, 1) := by decide +kernel
theorem dX3_make_13 : decode cX3_make 13 = .ok (.aload_n 0, 1) := by decide +kernel
theorem dX3_make_14 : decode cX3_make 14 = .ok (.iload_n 1, 1) := by decide +kernel
theorem dX3_make_15 : decode cX3_make 15 = .ok (.invokevirtual 91, 3) := by decide +kernel
theorem dX3_make_18 : decode cX3_make 18 = .ok (.goto 4, 3) := by decide +kernel
theorem dX3_cell_0 : decode cX3_cell 0 = .ok (.aload_n 0, 1) := by decide +kernel
theorem dX3_cell_1 : decode cX3_cell 1 = .ok (.iconst 0, 1) := by decide +kernel
theorem dX3_cell_2 : decode cX3_cell 2 = .ok (.putfield 71, 3) := by decide +kernel
theorem dX3_cell_5 : decode cX3_cell 5 = .ok (.aload_n 0, 1) := by decide +kernel
theorem dX3_cell_6 : decode cX3_cell 6 = .ok (.iload_n 1, 1) := by decide +kernel
theorem dX3_cell_7 : decode cX3_cell 7 = .ok (.invokevirtual 87, 3) := by decide +kernel
theorem dX3_cell_10 : decode cX3_cell 10 = .ok (.ifCond .eq 16, 3) := by decide +kernel
theorem dX3_cell_26 : decode cX3_cell 26 = .ok (.iconst (-1), 1) := by decide +kernel
theorem dX3_cell_27 : decode cX3_cell 27 = .ok (.istore_n 2, 1) := by decide +kernel
theorem dX3_cell_28 : decode cX3_cell 28 = .ok (.iload_n 2, 1) := by decide +kernel
theorem dX3_cell_29 : decode cX3_cell 29 = .ok (.iconst (-1), 1) := by decide +kernel
theorem dX3_cell_30 : decode cX3_cell 30 = .ok (.if_icmp .ne 9, 3) := by decide +kernel
theorem dX3_cell_39 : decode cX3_cell 39 = .ok (.aload_n 0, 1) := by decide +kernel
theorem dX3_cell_40 : decode cX3_cell 40 = .ok (.getfield 23, 3) := by decide +kernel
theorem dX3_cell_43 : decode cX3_cell 43 = .ok (.iload_n 2, 1) := by decide +kernel
theorem dX3_cell_44 : decode cX3_cell 44 = .ok (.laload, 1) := by decide +kernel
theorem dX3_cell_45 : decode cX3_cell 45 = .ok (.lreturn, 1) := by decide +kernel
theorem dX3_cell_33 : decode cX3_cell 33 = .ok (.ldc2_w 94, 3) := by decide +kernel
theorem dX3_cell_36 : decode cX3_cell 36 = .ok (.goto 9, 3) := by decide +kernel
theorem dX3_cell_13 : decode cX3_cell 13 = .ok (.aload_n 0, 1) := by decide +kernel
theorem dX3_cell_14 : decode cX3_cell 14 = .ok (.getfield 16, 3) := by decide +kernel
theorem dX3_cell_17 : decode cX3_cell 17 = .ok (.aload_n 0, 1) := by decide +kernel
theorem dX3_cell_18 : decode cX3_cell 18 = .ok (.iload_n 1, 1) := by decide +kernel
theorem dX3_cell_19 : decode cX3_cell 19 = .ok (.invokevirtual 80, 3) := by decide +kernel
theorem dX3_cell_22 : decode cX3_cell 22 = .ok (.iaload, 1) := by decide +kernel
theorem dX3_cell_23 : decode cX3_cell 23 = .ok (.goto 4, 3) := by decide +kernel
theorem dX3_same_0 : decode cX3_same 0 = .ok (.aload_n 0, 1) := by decide +kernel
theorem dX3_same_1 : decode cX3_same 1 = .ok (.iconst 0, 1) := by decide +kernel
theorem dX3_same_2 : decode cX3_same 2 = .ok (.putfield 71, 3) := by decide +kernel
theorem dX3_same_5 : decode cX3_same 5 = .ok (.aload_n 0, 1) := by decide +kernel
theorem dX3_same_6 : decode cX3_same 6 = .ok (.iload_n 1, 1) := by decide +kernel
theorem dX3_same_7 : decode cX3_same 7 = .ok (.invokevirtual 87, 3) := by decide +kernel
theorem dX3_same_10 : decode cX3_same 10 = .ok (.ifCond .eq 45, 3) := by decide +kernel
theorem dX3_same_55 : decode cX3_same 55 = .ok (.iconst 0, 1) := by decide +kernel
theorem dX3_same_56 : decode cX3_same 56 = .ok (.ireturn, 1) := by decide +kernel
theorem dX3_same_13 : decode cX3_same 13 = .ok (.aload_n 0, 1) := by decide +kernel
theorem dX3_same_14 : decode cX3_same 14 = .ok (.iload_n 2, 1) := by decide +kernel
theorem dX3_same_15 : decode cX3_same 15 = .ok (.invokevirtual 87, 3) := by decide +kernel
theorem dX3_same_18 : decode cX3_same 18 = .ok (.ifCond .eq 37, 3) := by decide +kernel
theorem dX3_same_21 : decode cX3_same 21 = .ok (.aload_n 0, 1) := by decide +kernel
theorem dX3_same_22 : decode cX3_same 22 = .ok (.getfield 7, 3) := by decide +kernel
theorem dX3_same_25 : decode cX3_same 25 = .ok (.iload_n 1, 1) := by decide +kernel
theorem dX3_same_26 : decode cX3_same 26 = .ok (.iaload, 1) := by decide +kernel
theorem dX3_same_27 : decode cX3_same 27 = .ok (.aload_n 0, 1) := by decide +kernel
theorem dX3_same_28 : decode cX3_same 28 = .ok (.getfield 7, 3) := by decide +kernel
theorem dX3_same_31 : decode cX3_same 31 = .ok (.iload_n 2, 1) := by decide +kernel
theorem dX3_same_32 : decode cX3_same 32 = .ok (.iaload, 1) := by decide +kernel
theorem dX3_same_33 : decode cX3_same 33 = .ok (.if_icmp .ne 22, 3) := by decide +kernel
theorem dX3_same_36 : decode cX3_same 36 = .ok (.aload_n 0, 1) := by decide +kernel
theorem dX3_same_37 : decode cX3_same 37 = .ok (.getfield 13, 3) := by decide +kernel
theorem dX3_same_40 : decode cX3_same 40 = .ok (.iload_n 1, 1) := by decide +kernel
theorem dX3_same_41 : decode cX3_same 41 = .ok (.iaload, 1) := by decide +kernel
theorem dX3_same_42 : decode cX3_same 42 = .ok (.aload_n 0, 1) := by decide +kernel
theorem dX3_same_43 : decode cX3_same 43 = .ok (.getfield 13, 3) := by decide +kernel
theorem dX3_same_46 : decode cX3_same 46 = .ok (.iload_n 2, 1) := by decide +kernel
theorem dX3_same_47 : decode cX3_same 47 = .ok (.iaload, 1) := by decide +kernel
theorem dX3_same_48 : decode cX3_same 48 = .ok (.if_icmp .ne 7, 3) := by decide +kernel
theorem dX3_same_51 : decode cX3_same 51 = .ok (.iconst 1, 1) := by decide +kernel
theorem dX3_same_52 : decode cX3_same 52 = .ok (.goto 4, 3) := by decide +kernel
theorem dX3_divide_0 : decode cX3_divide 0 = .ok (.aload_n 0, 1) := by decide +kernel
theorem dX3_divide_1 : decode cX3_divide 1 = .ok (.iconst 0, 1) := by decide +kernel
theorem dX3_divide_2 : decode cX3_divide 2 = .ok (.putfield 71, 3) := by decide +kernel
theorem dX3_divide_5 : decode cX3_divide 5 = .ok (.aload_n 0, 1) := by decide +kernel
theorem dX3_divide_6 : decode cX3_divide 6 = .ok (.iload_n 1, 1) := by decide +kernel
theorem dX3_divide_7 : decode cX3_divide 7 = .ok (.invokevirtual 87, 3) := by decide +kernel
theorem dX3_divide_10 : decode cX3_divide 10 = .ok (.ifCond .eq 11, 3) := by decide +kernel
theorem dX3_divide_21 : decode cX3_divide 21 = .ok (.iconst (-1), 1) := by decide +kernel
theorem dX3_divide_22 : decode cX3_divide 22 = .ok (.istore 6, 2) := by decide +kernel
theorem dX3_divide_24 : decode cX3_divide 24 = .ok (.iload 6, 2) := by decide +kernel
theorem dX3_divide_26 : decode cX3_divide 26 = .ok (.iconst (-1), 1) := by decide +kernel
theorem dX3_divide_27 : decode cX3_divide 27 = .ok (.if_icmp .ne 5, 3) := by decide +kernel
theorem dX3_divide_32 : decode cX3_divide 32 = .ok (.aload_n 0, 1) := by decide +kernel
theorem dX3_divide_33 : decode cX3_divide 33 = .ok (.getfield 23, 3) := by decide +kernel
theorem dX3_divide_36 : decode cX3_divide 36 = .ok (.iload 6, 2) := by decide +kernel
theorem dX3_divide_38 : decode cX3_divide 38 = .ok (.dup2, 1) := by decide +kernel
theorem dX3_divide_39 : decode cX3_divide 39 = .ok (.laload, 1) := by decide +kernel
theorem dX3_divide_40 : decode cX3_divide 40 = .ok (.lconst 1, 1) := by decide +kernel
theorem dX3_divide_41 : decode cX3_divide 41 = .ok (.ladd, 1) := by decide +kernel
theorem dX3_divide_42 : decode cX3_divide 42 = .ok (.lastore, 1) := by decide +kernel
theorem dX3_divide_43 : decode cX3_divide 43 = .ok (.aload_n 0, 1) := by decide +kernel
theorem dX3_divide_44 : decode cX3_divide 44 = .ok (.lload 4, 2) := by decide +kernel
theorem dX3_divide_46 : decode cX3_divide 46 = .ok (.lconst 0, 1) := by decide +kernel
theorem dX3_divide_47 : decode cX3_divide 47 = .ok (.lcmp, 1) := by decide +kernel
theorem dX3_divide_48 : decode cX3_divide 48 = .ok (.ifCond .ne 7, 3) := by decide +kernel
theorem dX3_divide_55 : decode cX3_divide 55 = .ok (.iconst 0, 1) := by decide +kernel
theorem dX3_divide_56 : decode cX3_divide 56 = .ok (.putfield 71, 3) := by decide +kernel
theorem dX3_divide_59 : decode cX3_divide 59 = .ok (.lload 4, 2) := by decide +kernel
theorem dX3_divide_61 : decode cX3_divide 61 = .ok (.lconst 0, 1) := by decide +kernel
theorem dX3_divide_62 : decode cX3_divide 62 = .ok (.lcmp, 1) := by decide +kernel
theorem dX3_divide_63 : decode cX3_divide 63 = .ok (.ifCond .ne 7, 3) := by decide +kernel
theorem dX3_divide_70 : decode cX3_divide 70 = .ok (.lload 4, 2) := by decide +kernel
theorem dX3_divide_72 : decode cX3_divide 72 = .ok (.ldc2_w 94, 3) := by decide +kernel
theorem dX3_divide_75 : decode cX3_divide 75 = .ok (.lcmp, 1) := by decide +kernel
theorem dX3_divide_76 : decode cX3_divide 76 = .ok (.ifCond .ne 8, 3) := by decide +kernel
theorem dX3_divide_84 : decode cX3_divide 84 = .ok (.lload_n 2, 1) := by decide +kernel
theorem dX3_divide_85 : decode cX3_divide 85 = .ok (.lload 4, 2) := by decide +kernel
theorem dX3_divide_87 : decode cX3_divide 87 = .ok (.ldiv, 1) := by decide +kernel
theorem dX3_divide_88 : decode cX3_divide 88 = .ok (.lreturn, 1) := by decide +kernel
theorem dX3_divide_79 : decode cX3_divide 79 = .ok (.lload_n 2, 1) := by decide +kernel
theorem dX3_divide_80 : decode cX3_divide 80 = .ok (.lneg, 1) := by decide +kernel
theorem dX3_divide_81 : decode cX3_divide 81 = .ok (.goto 7, 3) := by decide +kernel
theorem dX3_divide_66 : decode cX3_divide 66 = .ok (.lconst 0, 1) := by decide +kernel
theorem dX3_divide_67 : decode cX3_divide 67 = .ok (.goto 21, 3) := by decide +kernel
theorem dX3_divide_51 : decode cX3_divide 51 = .ok (.iconst 1, 1) := by decide +kernel
theorem dX3_divide_52 : decode cX3_divide 52 = .ok (.goto 4, 3) := by decide +kernel
theorem dX3_divide_30 : decode cX3_divide 30 = .ok (.lconst 0, 1) := by decide +kernel
theorem dX3_divide_31 : decode cX3_divide 31 = .ok (.lreturn, 1) := by decide +kernel
theorem dX3_divide_13 : decode cX3_divide 13 = .ok (.aload_n 0, 1) := by decide +kernel
theorem dX3_divide_14 : decode cX3_divide 14 = .ok (.iload_n 1, 1) := by decide +kernel
theorem dX3_divide_15 : decode cX3_divide 15 = .ok (.invokevirtual 91, 3) := by decide +kernel
theorem dX3_divide_18 : decode cX3_divide 18 = .ok (.goto 4, 3) := by decide +kernel
theorem dX3_handle_0 : decode cX3_handle 0 = .ok (.aload_n 0, 1) := by decide +kernel
theorem dX3_handle_1 : decode cX3_handle 1 = .ok (.iload_n 1, 1) := by decide +kernel
theorem dX3_handle_2 : decode cX3_handle 2 = .ok (.ifCond .lt 15, 3) := by decide +kernel
theorem dX3_handle_17 : decode cX3_handle 17 = .ok (.iconst 0, 1) := by decide +kernel
theorem dX3_handle_18 : decode cX3_handle 18 = .ok (.putfield 71, 3) := by decide +kernel
theorem dX3_handle_21 : decode cX3_handle 21 = .ok (.aload_n 0, 1) := by decide +kernel
theorem dX3_handle_22 : decode cX3_handle 22 = .ok (.getfield 71, 3) := by decide +kernel
theorem dX3_handle_25 : decode cX3_handle 25 = .ok (.ifCond .le 7, 3) := by decide +kernel
theorem dX3_handle_32 : decode cX3_handle 32 = .ok (.iconst (-1), 1) := by decide +kernel
theorem dX3_handle_33 : decode cX3_handle 33 = .ok (.ireturn, 1) := by decide +kernel
theorem dX3_handle_28 : decode cX3_handle 28 = .ok (.iconst 0, 1) := by decide +kernel
theorem dX3_handle_29 : decode cX3_handle 29 = .ok (.goto 4, 3) := by decide +kernel
theorem dX3_handle_5 : decode cX3_handle 5 = .ok (.iload_n 1, 1) := by decide +kernel
theorem dX3_handle_6 : decode cX3_handle 6 = .ok (.aload_n 0, 1) := by decide +kernel
theorem dX3_handle_7 : decode cX3_handle 7 = .ok (.getfield 96, 3) := by decide +kernel
theorem dX3_handle_10 : decode cX3_handle 10 = .ok (.if_icmp .ge 7, 3) := by decide +kernel
theorem dX3_handle_13 : decode cX3_handle 13 = .ok (.iconst 1, 1) := by decide +kernel
theorem dX3_handle_14 : decode cX3_handle 14 = .ok (.goto 4, 3) := by decide +kernel
theorem dX3_target_0 : decode cX3_target 0 = .ok (.aload_n 0, 1) := by decide +kernel
theorem dX3_target_1 : decode cX3_target 1 = .ok (.iconst 0, 1) := by decide +kernel
theorem dX3_target_2 : decode cX3_target 2 = .ok (.putfield 71, 3) := by decide +kernel
theorem dX3_target_5 : decode cX3_target 5 = .ok (.aload_n 0, 1) := by decide +kernel
theorem dX3_target_6 : decode cX3_target 6 = .ok (.iload_n 1, 1) := by decide +kernel
theorem dX3_target_7 : decode cX3_target 7 = .ok (.invokevirtual 87, 3) := by decide +kernel
theorem dX3_target_10 : decode cX3_target 10 = .ok (.ifCond .ne 5, 3) := by decide +kernel
theorem dX3_target_15 : decode cX3_target 15 = .ok (.aload_n 0, 1) := by decide +kernel
theorem dX3_target_16 : decode cX3_target 16 = .ok (.getfield 77, 3) := by decide +kernel
theorem dX3_target_19 : decode cX3_target 19 = .ok (.bipush 40, 2) := by decide +kernel
theorem dX3_target_21 : decode cX3_target 21 = .ok (.if_icmp .ne 6, 3) := by decide +kernel
theorem dX3_target_27 : decode cX3_target 27 = .ok (.aload_n 0, 1) := by decide +kernel
theorem dX3_target_28 : decode cX3_target 28 = .ok (.getfield 27, 3) := by decide +kernel
theorem dX3_target_31 : decode cX3_target 31 = .ok (.aload_n 0, 1) := by decide +kernel
theorem dX3_target_32 : decode cX3_target 32 = .ok (.getfield 77, 3) := by decide +kernel
theorem dX3_target_35 : decode cX3_target 35 = .ok (.iload_n 1, 1) := by decide +kernel
theorem dX3_target_36 : decode cX3_target 36 = .ok (.iastore, 1) := by decide +kernel
theorem dX3_target_37 : decode cX3_target 37 = .ok (.aload_n 0, 1) := by decide +kernel
theorem dX3_target_38 : decode cX3_target 38 = .ok (.dup, 1) := by decide +kernel
theorem dX3_target_39 : decode cX3_target 39 = .ok (.getfield 77, 3) := by decide +kernel
theorem dX3_target_42 : decode cX3_target 42 = .ok (.iconst 1, 1) := by decide +kernel
theorem dX3_target_43 : decode cX3_target 43 = .ok (.iadd, 1) := by decide +kernel
theorem dX3_target_44 : decode cX3_target 44 = .ok (.putfield 77, 3) := by decide +kernel
theorem dX3_target_47 : decode cX3_target 47 = .ok (.aload_n 0, 1) := by decide +kernel
theorem dX3_target_48 : decode cX3_target 48 = .ok (.getfield 77, 3) := by decide +kernel
theorem dX3_target_51 : decode cX3_target 51 = .ok (.iconst 1, 1) := by decide +kernel
theorem dX3_target_52 : decode cX3_target 52 = .ok (.isub, 1) := by decide +kernel
theorem dX3_target_53 : decode cX3_target 53 = .ok (.ireturn, 1) := by decide +kernel
theorem dX3_target_24 : decode cX3_target 24 = .ok (.bipush (-4), 2) := by decide +kernel
theorem dX3_target_26 : decode cX3_target 26 = .ok (.ireturn, 1) := by decide +kernel
theorem dX3_target_13 : decode cX3_target 13 = .ok (.iconst (-1), 1) := by decide +kernel
theorem dX3_target_14 : decode cX3_target 14 = .ok (.ireturn, 1) := by decide +kernel
theorem dX3_attribute_0 : decode cX3_attribute 0 = .ok (.aload_n 0, 1) := by decide +kernel
theorem dX3_attribute_1 : decode cX3_attribute 1 = .ok (.iconst 0, 1) := by decide +kernel
theorem dX3_attribute_2 : decode cX3_attribute 2 = .ok (.putfield 71, 3) := by decide +kernel
theorem dX3_attribute_5 : decode cX3_attribute 5 = .ok (.aload_n 0, 1) := by decide +kernel
theorem dX3_attribute_6 : decode cX3_attribute 6 = .ok (.iload_n 1, 1) := by decide +kernel
theorem dX3_attribute_7 : decode cX3_attribute 7 = .ok (.invokevirtual 99, 3) := by decide +kernel
theorem dX3_attribute_10 : decode cX3_attribute 10 = .ok (.ifCond .eq 12, 3) := by decide +kernel
theorem dX3_attribute_22 : decode cX3_attribute 22 = .ok (.iconst (-1), 1) := by decide +kernel
theorem dX3_attribute_23 : decode cX3_attribute 23 = .ok (.ireturn, 1) := by decide +kernel
theorem dX3_attribute_13 : decode cX3_attribute 13 = .ok (.iload_n 2, 1) := by decide +kernel
theorem dX3_attribute_14 : decode cX3_attribute 14 = .ok (.ifCond .lt 8, 3) := by decide +kernel
theorem dX3_attribute_17 : decode cX3_attribute 17 = .ok (.iload_n 2, 1) := by decide +kernel
theorem dX3_attribute_18 : decode cX3_attribute 18 = .ok (.iconst 3, 1) := by decide +kernel
theorem dX3_attribute_19 : decode cX3_attribute 19 = .ok (.if_icmp .le 5, 3) := by decide +kernel
theorem dX3_attribute_24 : decode cX3_attribute 24 = .ok (.iload_n 2, 1) := by decide +kernel
theorem dX3_attribute_25 : decode cX3_attribute 25 = .ok (.ifCond .ne 8, 3) := by decide +kernel
theorem dX3_attribute_33 : decode cX3_attribute 33 = .ok (.iload_n 2, 1) := by decide +kernel
theorem dX3_attribute_34 : decode cX3_attribute 34 = .ok (.iconst 2, 1) := by decide +kernel
theorem dX3_attribute_35 : decode cX3_attribute 35 = .ok (.if_icmp .ne 7, 3) := by decide +kernel
theorem dX3_attribute_42 : decode cX3_attribute 42 = .ok (.iconst 1, 1) := by decide +kernel
theorem dX3_attribute_43 : decode cX3_attribute 43 = .ok (.istore 4, 2) := by decide +kernel
theorem dX3_attribute_45 : decode cX3_attribute 45 = .ok (.iload_n 2, 1) := by decide +kernel
theorem dX3_attribute_46 : decode cX3_attribute 46 = .ok (.iconst 1, 1) := by decide +kernel
theorem dX3_attribute_47 : decode cX3_attribute 47 = .ok (.if_icmp .eq 16, 3) := by decide +kernel
theorem dX3_attribute_63 : decode cX3_attribute 63 = .ok (.aload_n 0, 1) := by decide +kernel
theorem dX3_attribute_64 : decode cX3_attribute 64 = .ok (.getfield 54, 3) := by decide +kernel
theorem dX3_attribute_67 : decode cX3_attribute 67 = .ok (.iload_n 1, 1) := by decide +kernel
theorem dX3_attribute_68 : decode cX3_attribute 68 = .ok (.baload, 1) := by decide +kernel
theorem dX3_attribute_69 : decode cX3_attribute 69 = .ok (.ifCond .eq 6, 3) := by decide +kernel
theorem dX3_attribute_75 : decode cX3_attribute 75 = .ok (.aload_n 0, 1) := by decide +kernel
theorem dX3_attribute_76 : decode cX3_attribute 76 = .ok (.getfield 30, 3) := by decide +kernel
theorem dX3_attribute_79 : decode cX3_attribute 79 = .ok (.iconst 4, 1) := by decide +kernel
theorem dX3_attribute_80 : decode cX3_attribute 80 = .ok (.iload_n 1, 1) := by decide +kernel
theorem dX3_attribute_81 : decode cX3_attribute 81 = .ok (.imul, 1) := by decide +kernel
theorem dX3_attribute_82 : decode cX3_attribute 82 = .ok (.iload_n 2, 1) := by decide +kernel
theorem dX3_attribute_83 : decode cX3_attribute 83 = .ok (.iadd, 1) := by decide +kernel
theorem dX3_attribute_84 : decode cX3_attribute 84 = .ok (.iaload, 1) := by decide +kernel
theorem dX3_attribute_85 : decode cX3_attribute 85 = .ok (.istore 5, 2) := by decide +kernel
theorem dX3_attribute_87 : decode cX3_attribute 87 = .ok (.aload_n 0, 1) := by decide +kernel
theorem dX3_attribute_88 : decode cX3_attribute 88 = .ok (.getfield 30, 3) := by decide +kernel
theorem dX3_attribute_91 : decode cX3_attribute 91 = .ok (.iconst 4, 1) := by decide +kernel
theorem dX3_attribute_92 : decode cX3_attribute 92 = .ok (.iload_n 1, 1) := by decide +kernel
theorem dX3_attribute_93 : decode cX3_attribute 93 = .ok (.imul, 1) := by decide +kernel
theorem dX3_attribute_94 : decode cX3_attribute 94 = .ok (.iload_n 2, 1) := by decide +kernel
theorem dX3_attribute_95 : decode cX3_attribute 95 = .ok (.iadd, 1) := by decide +kernel
theorem dX3_attribute_96 : decode cX3_attribute 96 = .ok (.iload_n 3, 1) := by decide +kernel
theorem dX3_attribute_97 : decode cX3_attribute 97 = .ok (.iastore, 1) := by decide +kernel
theorem dX3_attribute_98 : decode cX3_attribute 98 = .ok (.iload 5, 2) := by decide +kernel
theorem dX3_attribute_100 : decode cX3_attribute 100 = .ok (.ireturn, 1) := by decide +kernel
theorem dX3_attribute_72 : decode cX3_attribute 72 = .ok (.bipush (-3), 2) := by decide +kernel
theorem dX3_attribute_74 : decode cX3_attribute 74 = .ok (.ireturn, 1) := by decide +kernel
theorem dX3_attribute_50 : decode cX3_attribute 50 = .ok (.iload_n 3, 1) := by decide +kernel
theorem dX3_attribute_51 : decode cX3_attribute 51 = .ok (.ifCond .lt 9, 3) := by decide +kernel
theorem dX3_attribute_60 : decode cX3_attribute 60 = .ok (.bipush (-2), 2) := by decide +kernel
theorem dX3_attribute_62 : decode cX3_attribute 62 = .ok (.ireturn, 1) := by decide +kernel
theorem dX3_attribute_54 : decode cX3_attribute 54 = .ok (.iload_n 3, 1) := by decide +kernel
theorem dX3_attribute_55 : decode cX3_attribute 55 = .ok (.iload 4, 2) := by decide +kernel
theorem dX3_attribute_57 : decode cX3_attribute 57 = .ok (.if_icmp .le 6, 3) := by decide +kernel
theorem dX3_attribute_38 : decode cX3_attribute 38 = .ok (.iload_n 1, 1) := by decide +kernel
theorem dX3_attribute_39 : decode cX3_attribute 39 = .ok (.goto 4, 3) := by decide +kernel
theorem dX3_attribute_28 : decode cX3_attribute 28 = .ok (.bipush 20, 2) := by decide +kernel
theorem dX3_attribute_30 : decode cX3_attribute 30 = .ok (.goto 13, 3) := by decide +kernel
theorem dX3_fail_0 : decode cX3_fail 0 = .ok (.aload_n 0, 1) := by decide +kernel
theorem dX3_fail_1 : decode cX3_fail 1 = .ok (.getfield 33, 3) := by decide +kernel
theorem dX3_fail_4 : decode cX3_fail 4 = .ok (.iload_n 1, 1) := by decide +kernel
theorem dX3_fail_5 : decode cX3_fail 5 = .ok (.iload_n 2, 1) := by decide +kernel
theorem dX3_fail_6 : decode cX3_fail 6 = .ok (.iastore, 1) := by decide +kernel
theorem dX3_fail_7 : decode cX3_fail 7 = .ok (.aload_n 0, 1) := by decide +kernel
theorem dX3_fail_8 : decode cX3_fail 8 = .ok (.getfield 36, 3) := by decide +kernel
theorem dX3_fail_11 : decode cX3_fail 11 = .ok (.iload_n 1, 1) := by decide +kernel
theorem dX3_fail_12 : decode cX3_fail 12 = .ok (.iload_n 3, 1) := by decide +kernel
theorem dX3_fail_13 : decode cX3_fail 13 = .ok (.iastore, 1) := by decide +kernel
theorem dX3_fail_14 : decode cX3_fail 14 = .ok (.aload_n 0, 1) := by decide +kernel
theorem dX3_fail_15 : decode cX3_fail 15 = .ok (.getfield 39, 3) := by decide +kernel
theorem dX3_fail_18 : decode cX3_fail 18 = .ok (.iload_n 1, 1) := by decide +kernel
theorem dX3_fail_19 : decode cX3_fail 19 = .ok (.iload 4, 2) := by decide +kernel
theorem dX3_fail_21 : decode cX3_fail 21 = .ok (.iconst 1, 1) := by decide +kernel
theorem dX3_fail_22 : decode cX3_fail 22 = .ok (.iadd, 1) := by decide +kernel
theorem dX3_fail_23 : decode cX3_fail 23 = .ok (.iastore, 1) := by decide +kernel
theorem dX3_fail_24 : decode cX3_fail 24 = .ok (.aload_n 0, 1) := by decide +kernel
theorem dX3_fail_25 : decode cX3_fail 25 = .ok (.dup, 1) := by decide +kernel
theorem dX3_fail_26 : decode cX3_fail 26 = .ok (.getfield 102, 3) := by decide +kernel
theorem dX3_fail_29 : decode cX3_fail 29 = .ok (.aload_n 0, 1) := by decide +kernel
theorem dX3_fail_30 : decode cX3_fail 30 = .ok (.getfield 42, 3) := by decide +kernel
theorem dX3_fail_33 : decode cX3_fail 33 = .ok (.iload_n 1, 1) := by decide +kernel
theorem dX3_fail_34 : decode cX3_fail 34 = .ok (.iaload, 1) := by decide +kernel
theorem dX3_fail_35 : decode cX3_fail 35 = .ok (.isub, 1) := by decide +kernel
theorem dX3_fail_36 : decode cX3_fail 36 = .ok (.putfield 102, 3) := by decide +kernel
theorem dX3_fail_39 : decode cX3_fail 39 = .ok (.aload_n 0, 1) := by decide +kernel
theorem dX3_fail_40 : decode cX3_fail 40 = .ok (.getfield 42, 3) := by decide +kernel
theorem dX3_fail_43 : decode cX3_fail 43 = .ok (.iload_n 1, 1) := by decide +kernel
theorem dX3_fail_44 : decode cX3_fail 44 = .ok (.iconst 0, 1) := by decide +kernel
theorem dX3_fail_45 : decode cX3_fail 45 = .ok (.iastore, 1) := by decide +kernel
theorem dX3_fail_46 : decode cX3_fail 46 = .ok (.iconst 0, 1) := by decide +kernel
theorem dX3_fail_47 : decode cX3_fail 47 = .ok (.istore 5, 2) := by decide +kernel
theorem dX3_fail_49 : decode cX3_fail 49 = .ok (.iload 5, 2) := by decide +kernel
theorem dX3_fail_51 : decode cX3_fail 51 = .ok (.iconst 3, 1) := by decide +kernel
theorem dX3_fail_52 : decode cX3_fail 52 = .ok (.if_icmp .ge 21, 3) := by decide +kernel
theorem dX3_fail_73 : decode cX3_fail 73 = .ok (.return_, 1) := by decide +kernel
theorem dX3_fail_55 : decode cX3_fail 55 = .ok (.aload_n 0, 1) := by decide +kernel
theorem dX3_fail_56 : decode cX3_fail 56 = .ok (.getfield 57, 3) := by decide +kernel
theorem dX3_fail_59 : decode cX3_fail 59 = .ok (.iconst 3, 1) := by decide +kernel
theorem dX3_fail_60 : decode cX3_fail 60 = .ok (.iload_n 1, 1) := by decide +kernel
theorem dX3_fail_61 : decode cX3_fail 61 = .ok (.imul, 1) := by decide +kernel
theorem dX3_fail_62 : decode cX3_fail 62 = .ok (.iload 5, 2) := by decide +kernel
theorem dX3_fail_64 : decode cX3_fail 64 = .ok (.iadd, 1) := by decide +kernel
theorem dX3_fail_65 : decode cX3_fail 65 = .ok (.iconst 0, 1) := by decide +kernel
theorem dX3_fail_66 : decode cX3_fail 66 = .ok (.bastore, 1) := by decide +kernel
theorem dX3_fail_67 : decode cX3_fail 67 = .ok (.iinc 5 1, 3) := by decide +kernel
theorem dX3_fail_70 : decode cX3_fail 70 = .ok (.goto (-21), 3) := by decide +kernel
theorem dX3_give_0 : decode cX3_give 0 = .ok (.aload_n 0, 1) := by decide +kernel
theorem dX3_give_1 : decode cX3_give 1 = .ok (.getfield 51, 3) := by decide +kernel
theorem dX3_give_4 : decode cX3_give 4 = .ok (.iconst 3, 1) := by decide +kernel
theorem dX3_give_5 : decode cX3_give 5 = .ok (.iload_n 1, 1) := by decide +kernel
theorem dX3_give_6 : decode cX3_give 6 = .ok (.imul, 1) := by decide +kernel
theorem dX3_give_7 : decode cX3_give 7 = .ok (.iload_n 2, 1) := by decide +kernel
theorem dX3_give_8 : decode cX3_give 8 = .ok (.iadd, 1) := by decide +kernel
theorem dX3_give_9 : decode cX3_give 9 = .ok (.iload_n 3, 1) := by decide +kernel
theorem dX3_give_10 : decode cX3_give 10 = .ok (.iastore, 1) := by decide +kernel
theorem dX3_give_11 : decode cX3_give 11 = .ok (.aload_n 0, 1) := by decide +kernel
theorem dX3_give_12 : decode cX3_give 12 = .ok (.getfield 57, 3) := by decide +kernel
theorem dX3_give_15 : decode cX3_give 15 = .ok (.iconst 3, 1) := by decide +kernel
theorem dX3_give_16 : decode cX3_give 16 = .ok (.iload_n 1, 1) := by decide +kernel
theorem dX3_give_17 : decode cX3_give 17 = .ok (.imul, 1) := by decide +kernel
theorem dX3_give_18 : decode cX3_give 18 = .ok (.iload_n 2, 1) := by decide +kernel
theorem dX3_give_19 : decode cX3_give 19 = .ok (.iadd, 1) := by decide +kernel
theorem dX3_give_20 : decode cX3_give 20 = .ok (.iconst 1, 1) := by decide +kernel
theorem dX3_give_21 : decode cX3_give 21 = .ok (.bastore, 1) := by decide +kernel
theorem dX3_give_22 : decode cX3_give 22 = .ok (.return_, 1) := by decide +kernel
theorem dX3_step_0 : decode cX3_step 0 = .ok (.aload_n 0, 1) := by decide +kernel
theorem dX3_step_1 : decode cX3_step 1 = .ok (.getfield 45, 3) := by decide +kernel
theorem dX3_step_4 : decode cX3_step 4 = .ok (.iload_n 1, 1) := by decide +kernel
theorem dX3_step_5 : decode cX3_step 5 = .ok (.iaload, 1) := by decide +kernel
theorem dX3_step_6 : decode cX3_step 6 = .ok (.aload_n 0, 1) := by decide +kernel
theorem dX3_step_7 : decode cX3_step 7 = .ok (.getfield 67, 3) := by decide +kernel
theorem dX3_step_10 : decode cX3_step 10 = .ok (.if_icmp .ne 5, 3) := by decide +kernel
theorem dX3_step_15 : decode cX3_step 15 = .ok (.aload_n 0, 1) := by decide +kernel
theorem dX3_step_16 : decode cX3_step 16 = .ok (.getfield 45, 3) := by decide +kernel
theorem dX3_step_19 : decode cX3_step 19 = .ok (.iload_n 1, 1) := by decide +kernel
theorem dX3_step_20 : decode cX3_step 20 = .ok (.dup2, 1) := by decide +kernel
theorem dX3_step_21 : decode cX3_step 21 = .ok (.iaload, 1) := by decide +kernel
theorem dX3_step_22 : decode cX3_step 22 = .ok (.iconst 1, 1) := by decide +kernel
theorem dX3_step_23 : decode cX3_step 23 = .ok (.iadd, 1) := by decide +kernel
theorem dX3_step_24 : decode cX3_step 24 = .ok (.iastore, 1) := by decide +kernel
theorem dX3_step_25 : decode cX3_step 25 = .ok (.iconst 1, 1) := by decide +kernel
theorem dX3_step_26 : decode cX3_step 26 = .ok (.ireturn, 1) := by decide +kernel
theorem dX3_step_13 : decode cX3_step 13 = .ok (.iconst 0, 1) := by decide +kernel
theorem dX3_step_14 : decode cX3_step 14 = .ok (.ireturn, 1) := by decide +kernel
theorem dX3_act_0 : decode cX3_act 0 = .ok (.iconst 0, 1) := by decide +kernel
theorem dX3_act_1 : decode cX3_act 1 = .ok (.istore_n 3, 1) := by decide +kernel
theorem dX3_act_2 : decode cX3_act 2 = .ok (.iload_n 3, 1) := by decide +kernel
theorem dX3_act_3 : decode cX3_act 3 = .ok (.iload_n 2, 1) := by decide +kernel
theorem dX3_act_4 : decode cX3_act 4 = .ok (.if_icmp .ge 77, 3) := by decide +kernel
theorem dX3_act_81 : decode cX3_act 81 = .ok (.iconst 0, 1) := by decide +kernel
theorem dX3_act_82 : decode cX3_act 82 = .ok (.ireturn, 1) := by decide +kernel
theorem dX3_act_7 : decode cX3_act 7 = .ok (.aload_n 0, 1) := by decide +kernel
theorem dX3_act_8 : decode cX3_act 8 = .ok (.iload_n 1, 1) := by decide +kernel
theorem dX3_act_9 : decode cX3_act 9 = .ok (.invokevirtual 113, 3) := by decide +kernel
theorem dX3_act_12 : decode cX3_act 12 = .ok (.ifCond .ne 5, 3) := by decide +kernel
theorem dX3_act_17 : decode cX3_act 17 = .ok (.aload_n 0, 1) := by decide +kernel
theorem dX3_act_18 : decode cX3_act 18 = .ok (.getfield 102, 3) := by decide +kernel
theorem dX3_act_21 : decode cX3_act 21 = .ok (.sipush 400, 3) := by decide +kernel
theorem dX3_act_24 : decode cX3_act 24 = .ok (.if_icmp .ne 6, 3) := by decide +kernel
theorem dX3_act_30 : decode cX3_act 30 = .ok (.aload_n 0, 1) := by decide +kernel
theorem dX3_act_31 : decode cX3_act 31 = .ok (.getfield 60, 3) := by decide +kernel
theorem dX3_act_34 : decode cX3_act 34 = .ok (.aload_n 0, 1) := by decide +kernel
theorem dX3_act_35 : decode cX3_act 35 = .ok (.getfield 102, 3) := by decide +kernel
theorem dX3_act_38 : decode cX3_act 38 = .ok (.iload_n 1, 1) := by decide +kernel
theorem dX3_act_39 : decode cX3_act 39 = .ok (.iastore, 1) := by decide +kernel
theorem dX3_act_40 : decode cX3_act 40 = .ok (.aload_n 0, 1) := by decide +kernel
theorem dX3_act_41 : decode cX3_act 41 = .ok (.getfield 63, 3) := by decide +kernel
theorem dX3_act_44 : decode cX3_act 44 = .ok (.aload_n 0, 1) := by decide +kernel
theorem dX3_act_45 : decode cX3_act 45 = .ok (.getfield 102, 3) := by decide +kernel
theorem dX3_act_48 : decode cX3_act 48 = .ok (.aload_n 0, 1) := by decide +kernel
theorem dX3_act_49 : decode cX3_act 49 = .ok (.getfield 42, 3) := by decide +kernel
theorem dX3_act_52 : decode cX3_act 52 = .ok (.iload_n 1, 1) := by decide +kernel
theorem dX3_act_53 : decode cX3_act 53 = .ok (.iaload, 1) := by decide +kernel
theorem dX3_act_54 : decode cX3_act 54 = .ok (.iastore, 1) := by decide +kernel
theorem dX3_act_55 : decode cX3_act 55 = .ok (.aload_n 0, 1) := by decide +kernel
theorem dX3_act_56 : decode cX3_act 56 = .ok (.getfield 42, 3) := by decide +kernel
theorem dX3_act_59 : decode cX3_act 59 = .ok (.iload_n 1, 1) := by decide +kernel
theorem dX3_act_60 : decode cX3_act 60 = .ok (.dup2, 1) := by decide +kernel
theorem dX3_act_61 : decode cX3_act 61 = .ok (.iaload, 1) := by decide +kernel
theorem dX3_act_62 : decode cX3_act 62 = .ok (.iconst 1, 1) := by decide +kernel
theorem dX3_act_63 : decode cX3_act 63 = .ok (.iadd, 1) := by decide +kernel
theorem dX3_act_64 : decode cX3_act 64 = .ok (.iastore, 1) := by decide +kernel
theorem dX3_act_65 : decode cX3_act 65 = .ok (.aload_n 0, 1) := by decide +kernel
theorem dX3_act_66 : decode cX3_act 66 = .ok (.dup, 1) := by decide +kernel
theorem dX3_act_67 : decode cX3_act 67 = .ok (.getfield 102, 3) := by decide +kernel
theorem dX3_act_70 : decode cX3_act 70 = .ok (.iconst 1, 1) := by decide +kernel
theorem dX3_act_71 : decode cX3_act 71 = .ok (.iadd, 1) := by decide +kernel
theorem dX3_act_72 : decode cX3_act 72 = .ok (.putfield 102, 3) := by decide +kernel
theorem dX3_act_75 : decode cX3_act 75 = .ok (.iinc 3 1, 3) := by decide +kernel
theorem dX3_act_78 : decode cX3_act 78 = .ok (.goto (-76), 3) := by decide +kernel
theorem dX3_act_27 : decode cX3_act 27 = .ok (.bipush 7, 2) := by decide +kernel
theorem dX3_act_29 : decode cX3_act 29 = .ok (.ireturn, 1) := by decide +kernel
theorem dX3_act_15 : decode cX3_act 15 = .ok (.iconst 5, 1) := by decide +kernel
theorem dX3_act_16 : decode cX3_act 16 = .ok (.ireturn, 1) := by decide +kernel
theorem dX3_deed_0 : decode cX3_deed 0 = .ok (.aload_n 0, 1) := by decide +kernel
theorem dX3_deed_1 : decode cX3_deed 1 = .ok (.getfield 30, 3) := by decide +kernel
theorem dX3_deed_4 : decode cX3_deed 4 = .ok (.iconst 4, 1) := by decide +kernel
theorem dX3_deed_5 : decode cX3_deed 5 = .ok (.iload_n 1, 1) := by decide +kernel
theorem dX3_deed_6 : decode cX3_deed 6 = .ok (.imul, 1) := by decide +kernel
theorem dX3_deed_7 : decode cX3_deed 7 = .ok (.iaload, 1) := by decide +kernel
theorem dX3_deed_8 : decode cX3_deed 8 = .ok (.istore 5, 2) := by decide +kernel
theorem dX3_deed_10 : decode cX3_deed 10 = .ok (.aload_n 0, 1) := by decide +kernel
theorem dX3_deed_11 : decode cX3_deed 11 = .ok (.getfield 30, 3) := by decide +kernel
theorem dX3_deed_14 : decode cX3_deed 14 = .ok (.iconst 4, 1) := by decide +kernel
theorem dX3_deed_15 : decode cX3_deed 15 = .ok (.iload_n 1, 1) := by decide +kernel
theorem dX3_deed_16 : decode cX3_deed 16 = .ok (.imul, 1) := by decide +kernel
theorem dX3_deed_17 : decode cX3_deed 17 = .ok (.iconst 1, 1) := by decide +kernel
theorem dX3_deed_18 : decode cX3_deed 18 = .ok (.iadd, 1) := by decide +kernel
theorem dX3_deed_19 : decode cX3_deed 19 = .ok (.iaload, 1) := by decide +kernel
theorem dX3_deed_20 : decode cX3_deed 20 = .ok (.istore 6, 2) := by decide +kernel
theorem dX3_deed_22 : decode cX3_deed 22 = .ok (.iload_n 2, 1) := by decide +kernel
theorem dX3_deed_23 : decode cX3_deed 23 = .ok (.tableswitch 222 1 7 #[41, 64, 72, 104, 142, 167, 197], 41) := by decide +kernel
theorem dX3_deed_64 : decode cX3_deed 64 = .ok (.aload_n 0, 1) := by decide +kernel
theorem dX3_deed_65 : decode cX3_deed 65 = .ok (.getfield 13, 3) := by decide +kernel
theorem dX3_deed_68 : decode cX3_deed 68 = .ok (.aload_n 0, 1) := by decide +kernel
theorem dX3_deed_69 : decode cX3_deed 69 = .ok (.getfield 27, 3) := by decide +kernel
theorem dX3_deed_72 : decode cX3_deed 72 = .ok (.iload_n 1, 1) := by decide +kernel
theorem dX3_deed_73 : decode cX3_deed 73 = .ok (.iaload, 1) := by decide +kernel
theorem dX3_deed_74 : decode cX3_deed 74 = .ok (.iaload, 1) := by decide +kernel
theorem dX3_deed_75 : decode cX3_deed 75 = .ok (.iconst 1, 1) := by decide +kernel
theorem dX3_deed_76 : decode cX3_deed 76 = .ok (.iand, 1) := by decide +kernel
theorem dX3_deed_77 : decode cX3_deed 77 = .ok (.iconst 1, 1) := by decide +kernel
theorem dX3_deed_78 : decode cX3_deed 78 = .ok (.if_icmp .ne 7, 3) := by decide +kernel
theorem dX3_deed_85 : decode cX3_deed 85 = .ok (.iconst 0, 1) := by decide +kernel
theorem dX3_deed_86 : decode cX3_deed 86 = .ok (.ireturn, 1) := by decide +kernel
theorem dX3_deed_81 : decode cX3_deed 81 = .ok (.iconst 2, 1) := by decide +kernel
theorem dX3_deed_82 : decode cX3_deed 82 = .ok (.goto 4, 3) := by decide +kernel
theorem dX3_deed_87 : decode cX3_deed 87 = .ok (.aload_n 0, 1) := by decide +kernel
theorem dX3_deed_88 : decode cX3_deed 88 = .ok (.iload_n 1, 1) := by decide +kernel
theorem dX3_deed_89 : decode cX3_deed 89 = .ok (.iload 5, 2) := by decide +kernel
theorem dX3_deed_91 : decode cX3_deed 91 = .ok (.invokevirtual 120, 3) := by decide +kernel
theorem dX3_deed_94 : decode cX3_deed 94 = .ok (.ireturn, 1) := by decide +kernel
theorem dX3_deed_95 : decode cX3_deed 95 = .ok (.iload 6, 2) := by decide +kernel
theorem dX3_deed_97 : decode cX3_deed 97 = .ok (.ifCond .ne 5, 3) := by decide +kernel
theorem dX3_deed_102 : decode cX3_deed 102 = .ok (.aload_n 0, 1) := by decide +kernel
theorem dX3_deed_103 : decode cX3_deed 103 = .ok (.iload_n 1, 1) := by decide +kernel
theorem dX3_deed_104 : decode cX3_deed 104 = .ok (.iconst 1, 1) := by decide +kernel
theorem dX3_deed_105 : decode cX3_deed 105 = .ok (.iload 6, 2) := by decide +kernel
theorem dX3_deed_107 : decode cX3_deed 107 = .ok (.iconst (-1), 1) := by decide +kernel
theorem dX3_deed_108 : decode cX3_deed 108 = .ok (.if_icmp .ne 9, 3) := by decide +kernel
end
section
theorem dX3_deed_117 : decode cX3_deed 117 = .ok (.iload 5, 2) := by decide +kernel
theorem dX3_deed_119 : decode cX3_deed 119 = .ok (.iload 6, 2) := by decide +kernel
theorem dX3_deed_121 : decode cX3_deed 121 = .ok (.idiv, 1) := by decide +kernel
theorem dX3_deed_122 : decode cX3_deed 122 = .ok (.invokevirtual 124, 3) := by decide +kernel
theorem dX3_deed_125 : decode cX3_deed 125 = .ok (.iconst 0, 1) := by decide +kernel
theorem dX3_deed_126 : decode cX3_deed 126 = .ok (.ireturn, 1) := by decide +kernel
theorem dX3_deed_111 : decode cX3_deed 111 = .ok (.iload 5, 2) := by decide +kernel
theorem dX3_deed_113 : decode cX3_deed 113 = .ok (.ineg, 1) := by decide +kernel
theorem dX3_deed_114 : decode cX3_deed 114 = .ok (.goto 8, 3) := by decide +kernel
theorem dX3_deed_100 : decode cX3_deed 100 = .ok (.iconst 3, 1) := by decide +kernel
theorem dX3_deed_101 : decode cX3_deed 101 = .ok (.ireturn, 1) := by decide +kernel
theorem dX3_deed_127 : decode cX3_deed 127 = .ok (.iload 4, 2) := by decide +kernel
theorem dX3_deed_129 : decode cX3_deed 129 = .ok (.ifCond .lt 15, 3) := by decide +kernel
theorem dX3_deed_144 : decode cX3_deed 144 = .ok (.iconst 4, 1) := by decide +kernel
theorem dX3_deed_145 : decode cX3_deed 145 = .ok (.ireturn, 1) := by decide +kernel
theorem dX3_deed_132 : decode cX3_deed 132 = .ok (.aload_n 0, 1) := by decide +kernel
theorem dX3_deed_133 : decode cX3_deed 133 = .ok (.getfield 57, 3) := by decide +kernel
theorem dX3_deed_136 : decode cX3_deed 136 = .ok (.iconst 3, 1) := by decide +kernel
theorem dX3_deed_137 : decode cX3_deed 137 = .ok (.iload 4, 2) := by decide +kernel
theorem dX3_deed_139 : decode cX3_deed 139 = .ok (.imul, 1) := by decide +kernel
theorem dX3_deed_140 : decode cX3_deed 140 = .ok (.baload, 1) := by decide +kernel
theorem dX3_deed_141 : decode cX3_deed 141 = .ok (.ifCond .ne 5, 3) := by decide +kernel
theorem dX3_deed_146 : decode cX3_deed 146 = .ok (.aload_n 0, 1) := by decide +kernel
theorem dX3_deed_147 : decode cX3_deed 147 = .ok (.iload_n 1, 1) := by decide +kernel
theorem dX3_deed_148 : decode cX3_deed 148 = .ok (.iconst 0, 1) := by decide +kernel
theorem dX3_deed_149 : decode cX3_deed 149 = .ok (.aload_n 0, 1) := by decide +kernel
theorem dX3_deed_150 : decode cX3_deed 150 = .ok (.getfield 51, 3) := by decide +kernel
theorem dX3_deed_153 : decode cX3_deed 153 = .ok (.iconst 3, 1) := by decide +kernel
theorem dX3_deed_154 : decode cX3_deed 154 = .ok (.iload 4, 2) := by decide +kernel
theorem dX3_deed_156 : decode cX3_deed 156 = .ok (.imul, 1) := by decide +kernel
theorem dX3_deed_157 : decode cX3_deed 157 = .ok (.iaload, 1) := by decide +kernel
theorem dX3_deed_158 : decode cX3_deed 158 = .ok (.iconst 1, 1) := by decide +kernel
theorem dX3_deed_159 : decode cX3_deed 159 = .ok (.iadd, 1) := by decide +kernel
theorem dX3_deed_160 : decode cX3_deed 160 = .ok (.invokevirtual 124, 3) := by decide +kernel
theorem dX3_deed_163 : decode cX3_deed 163 = .ok (.iconst 0, 1) := by decide +kernel
theorem dX3_deed_164 : decode cX3_deed 164 = .ok (.ireturn, 1) := by decide +kernel
theorem dX3_deed_165 : decode cX3_deed 165 = .ok (.aload_n 0, 1) := by decide +kernel
theorem dX3_deed_166 : decode cX3_deed 166 = .ok (.getfield 23, 3) := by decide +kernel
theorem dX3_deed_169 : decode cX3_deed 169 = .ok (.iload_n 3, 1) := by decide +kernel
theorem dX3_deed_170 : decode cX3_deed 170 = .ok (.dup2, 1) := by decide +kernel
theorem dX3_deed_171 : decode cX3_deed 171 = .ok (.laload, 1) := by decide +kernel
theorem dX3_deed_172 : decode cX3_deed 172 = .ok (.lconst 1, 1) := by decide +kernel
theorem dX3_deed_173 : decode cX3_deed 173 = .ok (.ladd, 1) := by decide +kernel
theorem dX3_deed_174 : decode cX3_deed 174 = .ok (.lastore, 1) := by decide +kernel
theorem dX3_deed_175 : decode cX3_deed 175 = .ok (.aload_n 0, 1) := by decide +kernel
theorem dX3_deed_176 : decode cX3_deed 176 = .ok (.iload_n 1, 1) := by decide +kernel
theorem dX3_deed_177 : decode cX3_deed 177 = .ok (.iconst 2, 1) := by decide +kernel
theorem dX3_deed_178 : decode cX3_deed 178 = .ok (.aload_n 0, 1) := by decide +kernel
theorem dX3_deed_179 : decode cX3_deed 179 = .ok (.getfield 23, 3) := by decide +kernel
theorem dX3_deed_182 : decode cX3_deed 182 = .ok (.iload_n 3, 1) := by decide +kernel
theorem dX3_deed_183 : decode cX3_deed 183 = .ok (.laload, 1) := by decide +kernel
theorem dX3_deed_184 : decode cX3_deed 184 = .ok (.l2i, 1) := by decide +kernel
theorem dX3_deed_185 : decode cX3_deed 185 = .ok (.invokevirtual 124, 3) := by decide +kernel
theorem dX3_deed_188 : decode cX3_deed 188 = .ok (.iconst 0, 1) := by decide +kernel
theorem dX3_deed_189 : decode cX3_deed 189 = .ok (.ireturn, 1) := by decide +kernel
theorem dX3_deed_190 : decode cX3_deed 190 = .ok (.aload_n 0, 1) := by decide +kernel
theorem dX3_deed_191 : decode cX3_deed 191 = .ok (.iload_n 1, 1) := by decide +kernel
theorem dX3_deed_192 : decode cX3_deed 192 = .ok (.iconst 0, 1) := by decide +kernel
theorem dX3_deed_193 : decode cX3_deed 193 = .ok (.aload_n 0, 1) := by decide +kernel
theorem dX3_deed_194 : decode cX3_deed 194 = .ok (.getfield 30, 3) := by decide +kernel
theorem dX3_deed_197 : decode cX3_deed 197 = .ok (.iconst 4, 1) := by decide +kernel
theorem dX3_deed_198 : decode cX3_deed 198 = .ok (.iload_n 1, 1) := by decide +kernel
theorem dX3_deed_199 : decode cX3_deed 199 = .ok (.imul, 1) := by decide +kernel
theorem dX3_deed_200 : decode cX3_deed 200 = .ok (.iconst 3, 1) := by decide +kernel
theorem dX3_deed_201 : decode cX3_deed 201 = .ok (.iadd, 1) := by decide +kernel
theorem dX3_deed_202 : decode cX3_deed 202 = .ok (.iaload, 1) := by decide +kernel
theorem dX3_deed_203 : decode cX3_deed 203 = .ok (.iconst 1, 1) := by decide +kernel
theorem dX3_deed_204 : decode cX3_deed 204 = .ok (.if_icmp .ne 9, 3) := by decide +kernel
theorem dX3_deed_213 : decode cX3_deed 213 = .ok (.iload 5, 2) := by decide +kernel
theorem dX3_deed_215 : decode cX3_deed 215 = .ok (.invokevirtual 124, 3) := by decide +kernel
theorem dX3_deed_218 : decode cX3_deed 218 = .ok (.iconst 0, 1) := by decide +kernel
theorem dX3_deed_219 : decode cX3_deed 219 = .ok (.ireturn, 1) := by decide +kernel
theorem dX3_deed_207 : decode cX3_deed 207 = .ok (.iload 5, 2) := by decide +kernel
theorem dX3_deed_209 : decode cX3_deed 209 = .ok (.ineg, 1) := by decide +kernel
theorem dX3_deed_210 : decode cX3_deed 210 = .ok (.goto 5, 3) := by decide +kernel
theorem dX3_deed_220 : decode cX3_deed 220 = .ok (.aload_n 0, 1) := by decide +kernel
theorem dX3_deed_221 : decode cX3_deed 221 = .ok (.dup, 1) := by decide +kernel
theorem dX3_deed_222 : decode cX3_deed 222 = .ok (.getfield 96, 3) := by decide +kernel
theorem dX3_deed_225 : decode cX3_deed 225 = .ok (.aload_n 0, 1) := by decide +kernel
theorem dX3_deed_226 : decode cX3_deed 226 = .ok (.getfield 96, 3) := by decide +kernel
theorem dX3_deed_229 : decode cX3_deed 229 = .ok (.bipush 40, 2) := by decide +kernel
theorem dX3_deed_231 : decode cX3_deed 231 = .ok (.if_icmp .ge 7, 3) := by decide +kernel
theorem dX3_deed_238 : decode cX3_deed 238 = .ok (.iconst 0, 1) := by decide +kernel
theorem dX3_deed_239 : decode cX3_deed 239 = .ok (.iadd, 1) := by decide +kernel
theorem dX3_deed_240 : decode cX3_deed 240 = .ok (.putfield 96, 3) := by decide +kernel
theorem dX3_deed_243 : decode cX3_deed 243 = .ok (.iconst 0, 1) := by decide +kernel
theorem dX3_deed_244 : decode cX3_deed 244 = .ok (.ireturn, 1) := by decide +kernel
theorem dX3_deed_234 : decode cX3_deed 234 = .ok (.iconst 1, 1) := by decide +kernel
theorem dX3_deed_235 : decode cX3_deed 235 = .ok (.goto 4, 3) := by decide +kernel
theorem dX3_deed_245 : decode cX3_deed 245 = .ok (.iconst 0, 1) := by decide +kernel
theorem dX3_deed_246 : decode cX3_deed 246 = .ok (.ireturn, 1) := by decide +kernel
theorem dX3_runOne_0 : decode cX3_runOne 0 = .ok (.aload_n 0, 1) := by decide +kernel
theorem dX3_runOne_1 : decode cX3_runOne 1 = .ok (.aload_n 0, 1) := by decide +kernel
theorem dX3_runOne_2 : decode cX3_runOne 2 = .ok (.getfield 27, 3) := by decide +kernel
theorem dX3_runOne_5 : decode cX3_runOne 5 = .ok (.iload_n 1, 1) := by decide +kernel
theorem dX3_runOne_6 : decode cX3_runOne 6 = .ok (.iaload, 1) := by decide +kernel
theorem dX3_runOne_7 : decode cX3_runOne 7 = .ok (.invokevirtual 91, 3) := by decide +kernel
theorem dX3_runOne_10 : decode cX3_runOne 10 = .ok (.istore_n 2, 1) := by decide +kernel
theorem dX3_runOne_11 : decode cX3_runOne 11 = .ok (.aload_n 0, 1) := by decide +kernel
theorem dX3_runOne_12 : decode cX3_runOne 12 = .ok (.getfield 30, 3) := by decide +kernel
theorem dX3_runOne_15 : decode cX3_runOne 15 = .ok (.iconst 4, 1) := by decide +kernel
theorem dX3_runOne_16 : decode cX3_runOne 16 = .ok (.iload_n 1, 1) := by decide +kernel
theorem dX3_runOne_17 : decode cX3_runOne 17 = .ok (.imul, 1) := by decide +kernel
theorem dX3_runOne_18 : decode cX3_runOne 18 = .ok (.iconst 2, 1) := by decide +kernel
theorem dX3_runOne_19 : decode cX3_runOne 19 = .ok (.iadd, 1) := by decide +kernel
theorem dX3_runOne_20 : decode cX3_runOne 20 = .ok (.iaload, 1) := by decide +kernel
theorem dX3_runOne_21 : decode cX3_runOne 21 = .ok (.iconst 1, 1) := by decide +kernel
theorem dX3_runOne_22 : decode cX3_runOne 22 = .ok (.isub, 1) := by decide +kernel
theorem dX3_runOne_23 : decode cX3_runOne 23 = .ok (.istore_n 3, 1) := by decide +kernel
theorem dX3_runOne_24 : decode cX3_runOne 24 = .ok (.iload_n 3, 1) := by decide +kernel
theorem dX3_runOne_25 : decode cX3_runOne 25 = .ok (.ifCond .lt 30, 3) := by decide +kernel
theorem dX3_runOne_55 : decode cX3_runOne 55 = .ok (.iconst 0, 1) := by decide +kernel
theorem dX3_runOne_56 : decode cX3_runOne 56 = .ok (.istore 4, 2) := by decide +kernel
theorem dX3_runOne_58 : decode cX3_runOne 58 = .ok (.iload 4, 2) := by decide +kernel
theorem dX3_runOne_60 : decode cX3_runOne 60 = .ok (.bipush 8, 2) := by decide +kernel
theorem dX3_runOne_62 : decode cX3_runOne 62 = .ok (.if_icmp .ge 73, 3) := by decide +kernel
theorem dX3_runOne_135 : decode cX3_runOne 135 = .ok (.return_, 1) := by decide +kernel
theorem dX3_runOne_65 : decode cX3_runOne 65 = .ok (.aload_n 0, 1) := by decide +kernel
theorem dX3_runOne_66 : decode cX3_runOne 66 = .ok (.getfield 13, 3) := by decide +kernel
theorem dX3_runOne_69 : decode cX3_runOne 69 = .ok (.aload_n 0, 1) := by decide +kernel
theorem dX3_runOne_70 : decode cX3_runOne 70 = .ok (.getfield 27, 3) := by decide +kernel
theorem dX3_runOne_73 : decode cX3_runOne 73 = .ok (.iload_n 1, 1) := by decide +kernel
theorem dX3_runOne_74 : decode cX3_runOne 74 = .ok (.iaload, 1) := by decide +kernel
theorem dX3_runOne_75 : decode cX3_runOne 75 = .ok (.iaload, 1) := by decide +kernel
theorem dX3_runOne_76 : decode cX3_runOne 76 = .ok (.iload 4, 2) := by decide +kernel
theorem dX3_runOne_78 : decode cX3_runOne 78 = .ok (.ishr, 1) := by decide +kernel
theorem dX3_runOne_79 : decode cX3_runOne 79 = .ok (.iconst 1, 1) := by decide +kernel
theorem dX3_runOne_80 : decode cX3_runOne 80 = .ok (.iand, 1) := by decide +kernel
theorem dX3_runOne_81 : decode cX3_runOne 81 = .ok (.ifCond .ne 6, 3) := by decide +kernel
theorem dX3_runOne_87 : decode cX3_runOne 87 = .ok (.aload_n 0, 1) := by decide +kernel
theorem dX3_runOne_88 : decode cX3_runOne 88 = .ok (.iload_n 1, 1) := by decide +kernel
theorem dX3_runOne_89 : decode cX3_runOne 89 = .ok (.invokevirtual 113, 3) := by decide +kernel
theorem dX3_runOne_92 : decode cX3_runOne 92 = .ok (.ifCond .eq 15, 3) := by decide +kernel
theorem dX3_runOne_107 : decode cX3_runOne 107 = .ok (.iconst 5, 1) := by decide +kernel
theorem dX3_runOne_108 : decode cX3_runOne 108 = .ok (.istore 5, 2) := by decide +kernel
theorem dX3_runOne_110 : decode cX3_runOne 110 = .ok (.iload 5, 2) := by decide +kernel
theorem dX3_runOne_112 : decode cX3_runOne 112 = .ok (.ifCond .ne 6, 3) := by decide +kernel
theorem dX3_runOne_118 : decode cX3_runOne 118 = .ok (.aload_n 0, 1) := by decide +kernel
theorem dX3_runOne_119 : decode cX3_runOne 119 = .ok (.iload_n 1, 1) := by decide +kernel
theorem dX3_runOne_120 : decode cX3_runOne 120 = .ok (.iload 5, 2) := by decide +kernel
theorem dX3_runOne_122 : decode cX3_runOne 122 = .ok (.iload 4, 2) := by decide +kernel
theorem dX3_runOne_124 : decode cX3_runOne 124 = .ok (.iload_n 1, 1) := by decide +kernel
theorem dX3_runOne_125 : decode cX3_runOne 125 = .ok (.invokevirtual 105, 3) := by decide +kernel
theorem dX3_runOne_128 : decode cX3_runOne 128 = .ok (.return_, 1) := by decide +kernel
theorem dX3_runOne_115 : decode cX3_runOne 115 = .ok (.goto 14, 3) := by decide +kernel
theorem dX3_runOne_129 : decode cX3_runOne 129 = .ok (.iinc 4 1, 3) := by decide +kernel
theorem dX3_runOne_132 : decode cX3_runOne 132 = .ok (.goto (-74), 3) := by decide +kernel
theorem dX3_runOne_95 : decode cX3_runOne 95 = .ok (.aload_n 0, 1) := by decide +kernel
theorem dX3_runOne_96 : decode cX3_runOne 96 = .ok (.iload_n 1, 1) := by decide +kernel
theorem dX3_runOne_97 : decode cX3_runOne 97 = .ok (.iload 4, 2) := by decide +kernel
theorem dX3_runOne_99 : decode cX3_runOne 99 = .ok (.iload_n 2, 1) := by decide +kernel
theorem dX3_runOne_100 : decode cX3_runOne 100 = .ok (.iload_n 3, 1) := by decide +kernel
theorem dX3_runOne_101 : decode cX3_runOne 101 = .ok (.invokevirtual 116, 3) := by decide +kernel
theorem dX3_runOne_104 : decode cX3_runOne 104 = .ok (.goto 4, 3) := by decide +kernel
theorem dX3_runOne_84 : decode cX3_runOne 84 = .ok (.goto 45, 3) := by decide +kernel
theorem dX3_runOne_28 : decode cX3_runOne 28 = .ok (.aload_n 0, 1) := by decide +kernel
theorem dX3_runOne_29 : decode cX3_runOne 29 = .ok (.getfield 33, 3) := by decide +kernel
theorem dX3_runOne_32 : decode cX3_runOne 32 = .ok (.iload_n 3, 1) := by decide +kernel
theorem dX3_runOne_33 : decode cX3_runOne 33 = .ok (.iaload, 1) := by decide +kernel
theorem dX3_runOne_34 : decode cX3_runOne 34 = .ok (.ifCond .le 21, 3) := by decide +kernel
theorem dX3_runOne_37 : decode cX3_runOne 37 = .ok (.aload_n 0, 1) := by decide +kernel
theorem dX3_runOne_38 : decode cX3_runOne 38 = .ok (.iload_n 1, 1) := by decide +kernel
theorem dX3_runOne_39 : decode cX3_runOne 39 = .ok (.bipush 6, 2) := by decide +kernel
theorem dX3_runOne_41 : decode cX3_runOne 41 = .ok (.bipush 8, 2) := by decide +kernel
theorem dX3_runOne_43 : decode cX3_runOne 43 = .ok (.aload_n 0, 1) := by decide +kernel
theorem dX3_runOne_44 : decode cX3_runOne 44 = .ok (.getfield 39, 3) := by decide +kernel
theorem dX3_runOne_47 : decode cX3_runOne 47 = .ok (.iload_n 3, 1) := by decide +kernel
theorem dX3_runOne_48 : decode cX3_runOne 48 = .ok (.iaload, 1) := by decide +kernel
theorem dX3_runOne_49 : decode cX3_runOne 49 = .ok (.iconst 1, 1) := by decide +kernel
theorem dX3_runOne_50 : decode cX3_runOne 50 = .ok (.isub, 1) := by decide +kernel
theorem dX3_runOne_51 : decode cX3_runOne 51 = .ok (.invokevirtual 105, 3) := by decide +kernel
theorem dX3_runOne_54 : decode cX3_runOne 54 = .ok (.return_, 1) := by decide +kernel
theorem dX3_runChain_0 : decode cX3_runChain 0 = .ok (.iconst 0, 1) := by decide +kernel
theorem dX3_runChain_1 : decode cX3_runChain 1 = .ok (.istore_n 2, 1) := by decide +kernel
theorem dX3_runChain_2 : decode cX3_runChain 2 = .ok (.iload_n 1, 1) := by decide +kernel
theorem dX3_runChain_3 : decode cX3_runChain 3 = .ok (.istore_n 3, 1) := by decide +kernel
theorem dX3_runChain_4 : decode cX3_runChain 4 = .ok (.iconst 1, 1) := by decide +kernel
theorem dX3_runChain_5 : decode cX3_runChain 5 = .ok (.istore 4, 2) := by decide +kernel
theorem dX3_runChain_7 : decode cX3_runChain 7 = .ok (.iload 4, 2) := by decide +kernel
theorem dX3_runChain_9 : decode cX3_runChain 9 = .ok (.ifCond .eq 85, 3) := by decide +kernel
theorem dX3_runChain_94 : decode cX3_runChain 94 = .ok (.iload_n 2, 1) := by decide +kernel
theorem dX3_runChain_95 : decode cX3_runChain 95 = .ok (.iconst 1, 1) := by decide +kernel
theorem dX3_runChain_96 : decode cX3_runChain 96 = .ok (.isub, 1) := by decide +kernel
theorem dX3_runChain_97 : decode cX3_runChain 97 = .ok (.istore 5, 2) := by decide +kernel
theorem dX3_runChain_99 : decode cX3_runChain 99 = .ok (.iload 5, 2) := by decide +kernel
theorem dX3_runChain_101 : decode cX3_runChain 101 = .ok (.ifCond .lt 35, 3) := by decide +kernel
theorem dX3_runChain_136 : decode cX3_runChain 136 = .ok (.return_, 1) := by decide +kernel
theorem dX3_runChain_104 : decode cX3_runChain 104 = .ok (.aload_n 0, 1) := by decide +kernel
theorem dX3_runChain_105 : decode cX3_runChain 105 = .ok (.getfield 33, 3) := by decide +kernel
theorem dX3_runChain_108 : decode cX3_runChain 108 = .ok (.aload_n 0, 1) := by decide +kernel
theorem dX3_runChain_109 : decode cX3_runChain 109 = .ok (.getfield 48, 3) := by decide +kernel
theorem dX3_runChain_112 : decode cX3_runChain 112 = .ok (.iload 5, 2) := by decide +kernel
theorem dX3_runChain_114 : decode cX3_runChain 114 = .ok (.iaload, 1) := by decide +kernel
theorem dX3_runChain_115 : decode cX3_runChain 115 = .ok (.iaload, 1) := by decide +kernel
theorem dX3_runChain_116 : decode cX3_runChain 116 = .ok (.ifCond .ne 14, 3) := by decide +kernel
theorem dX3_runChain_130 : decode cX3_runChain 130 = .ok (.iinc 5 (-1), 3) := by decide +kernel
theorem dX3_runChain_133 : decode cX3_runChain 133 = .ok (.goto (-34), 3) := by decide +kernel
theorem dX3_runChain_119 : decode cX3_runChain 119 = .ok (.aload_n 0, 1) := by decide +kernel
theorem dX3_runChain_120 : decode cX3_runChain 120 = .ok (.aload_n 0, 1) := by decide +kernel
theorem dX3_runChain_121 : decode cX3_runChain 121 = .ok (.getfield 48, 3) := by decide +kernel
theorem dX3_runChain_124 : decode cX3_runChain 124 = .ok (.iload 5, 2) := by decide +kernel
theorem dX3_runChain_126 : decode cX3_runChain 126 = .ok (.iaload, 1) := by decide +kernel
theorem dX3_runChain_127 : decode cX3_runChain 127 = .ok (.invokevirtual 109, 3) := by decide +kernel
theorem dX3_runChain_12 : decode cX3_runChain 12 = .ok (.aload_n 0, 1) := by decide +kernel
theorem dX3_runChain_13 : decode cX3_runChain 13 = .ok (.getfield 54, 3) := by decide +kernel
theorem dX3_runChain_16 : decode cX3_runChain 16 = .ok (.iload_n 3, 1) := by decide +kernel
theorem dX3_runChain_17 : decode cX3_runChain 17 = .ok (.iconst 1, 1) := by decide +kernel
theorem dX3_runChain_18 : decode cX3_runChain 18 = .ok (.bastore, 1) := by decide +kernel
theorem dX3_runChain_19 : decode cX3_runChain 19 = .ok (.aload_n 0, 1) := by decide +kernel
theorem dX3_runChain_20 : decode cX3_runChain 20 = .ok (.getfield 48, 3) := by decide +kernel
theorem dX3_runChain_23 : decode cX3_runChain 23 = .ok (.iload_n 2, 1) := by decide +kernel
theorem dX3_runChain_24 : decode cX3_runChain 24 = .ok (.iload_n 3, 1) := by decide +kernel
theorem dX3_runChain_25 : decode cX3_runChain 25 = .ok (.iastore, 1) := by decide +kernel
theorem dX3_runChain_26 : decode cX3_runChain 26 = .ok (.iinc 2 1, 3) := by decide +kernel
theorem dX3_runChain_29 : decode cX3_runChain 29 = .ok (.aload_n 0, 1) := by decide +kernel
theorem dX3_runChain_30 : decode cX3_runChain 30 = .ok (.aload_n 0, 1) := by decide +kernel
theorem dX3_runChain_31 : decode cX3_runChain 31 = .ok (.getfield 27, 3) := by decide +kernel
theorem dX3_runChain_34 : decode cX3_runChain 34 = .ok (.iload_n 3, 1) := by decide +kernel
theorem dX3_runChain_35 : decode cX3_runChain 35 = .ok (.iaload, 1) := by decide +kernel
theorem dX3_runChain_36 : decode cX3_runChain 36 = .ok (.invokevirtual 91, 3) := by decide +kernel
theorem dX3_runChain_39 : decode cX3_runChain 39 = .ok (.iconst (-1), 1) := by decide +kernel
theorem dX3_runChain_40 : decode cX3_runChain 40 = .ok (.if_icmp .ne 18, 3) := by decide +kernel
theorem dX3_runChain_58 : decode cX3_runChain 58 = .ok (.aload_n 0, 1) := by decide +kernel
theorem dX3_runChain_59 : decode cX3_runChain 59 = .ok (.getfield 30, 3) := by decide +kernel
theorem dX3_runChain_62 : decode cX3_runChain 62 = .ok (.iconst 4, 1) := by decide +kernel
theorem dX3_runChain_63 : decode cX3_runChain 63 = .ok (.iload_n 3, 1) := by decide +kernel
theorem dX3_runChain_64 : decode cX3_runChain 64 = .ok (.imul, 1) := by decide +kernel
theorem dX3_runChain_65 : decode cX3_runChain 65 = .ok (.iconst 2, 1) := by decide +kernel
theorem dX3_runChain_66 : decode cX3_runChain 66 = .ok (.iadd, 1) := by decide +kernel
theorem dX3_runChain_67 : decode cX3_runChain 67 = .ok (.iaload, 1) := by decide +kernel
theorem dX3_runChain_68 : decode cX3_runChain 68 = .ok (.iconst 1, 1) := by decide +kernel
theorem dX3_runChain_69 : decode cX3_runChain 69 = .ok (.isub, 1) := by decide +kernel
theorem dX3_runChain_70 : decode cX3_runChain 70 = .ok (.istore_n 3, 1) := by decide +kernel
theorem dX3_runChain_71 : decode cX3_runChain 71 = .ok (.iload_n 3, 1) := by decide +kernel
theorem dX3_runChain_72 : decode cX3_runChain 72 = .ok (.ifCond .lt 16, 3) := by decide +kernel
theorem dX3_runChain_88 : decode cX3_runChain 88 = .ok (.iconst 0, 1) := by decide +kernel
theorem dX3_runChain_89 : decode cX3_runChain 89 = .ok (.istore 4, 2) := by decide +kernel
theorem dX3_runChain_91 : decode cX3_runChain 91 = .ok (.goto (-84), 3) := by decide +kernel
theorem dX3_runChain_75 : decode cX3_runChain 75 = .ok (.aload_n 0, 1) := by decide +kernel
theorem dX3_runChain_76 : decode cX3_runChain 76 = .ok (.getfield 54, 3) := by decide +kernel
theorem dX3_runChain_79 : decode cX3_runChain 79 = .ok (.iload_n 3, 1) := by decide +kernel
theorem dX3_runChain_80 : decode cX3_runChain 80 = .ok (.baload, 1) := by decide +kernel
theorem dX3_runChain_81 : decode cX3_runChain 81 = .ok (.ifCond .ne 7, 3) := by decide +kernel
theorem dX3_runChain_84 : decode cX3_runChain 84 = .ok (.iconst 1, 1) := by decide +kernel
theorem dX3_runChain_85 : decode cX3_runChain 85 = .ok (.goto 4, 3) := by decide +kernel
theorem dX3_runChain_43 : decode cX3_runChain 43 = .ok (.aload_n 0, 1) := by decide +kernel
theorem dX3_runChain_44 : decode cX3_runChain 44 = .ok (.iload_n 3, 1) := by decide +kernel
theorem dX3_runChain_45 : decode cX3_runChain 45 = .ok (.iconst 1, 1) := by decide +kernel
theorem dX3_runChain_46 : decode cX3_runChain 46 = .ok (.bipush 8, 2) := by decide +kernel
theorem dX3_runChain_48 : decode cX3_runChain 48 = .ok (.iload_n 3, 1) := by decide +kernel
theorem dX3_runChain_49 : decode cX3_runChain 49 = .ok (.invokevirtual 105, 3) := by decide +kernel
theorem dX3_runChain_52 : decode cX3_runChain 52 = .ok (.iconst 0, 1) := by decide +kernel
theorem dX3_runChain_53 : decode cX3_runChain 53 = .ok (.istore 4, 2) := by decide +kernel
theorem dX3_runChain_55 : decode cX3_runChain 55 = .ok (.goto (-48), 3) := by decide +kernel
theorem dX3_run_0 : decode cX3_run 0 = .ok (.aload_n 0, 1) := by decide +kernel
theorem dX3_run_1 : decode cX3_run 1 = .ok (.iconst 0, 1) := by decide +kernel
theorem dX3_run_2 : decode cX3_run 2 = .ok (.putfield 71, 3) := by decide +kernel
theorem dX3_run_5 : decode cX3_run 5 = .ok (.aload_n 0, 1) := by decide +kernel
theorem dX3_run_6 : decode cX3_run 6 = .ok (.iload_n 1, 1) := by decide +kernel
theorem dX3_run_7 : decode cX3_run 7 = .ok (.invokevirtual 99, 3) := by decide +kernel
theorem dX3_run_10 : decode cX3_run 10 = .ok (.ifCond .ne 5, 3) := by decide +kernel
theorem dX3_run_15 : decode cX3_run 15 = .ok (.aload_n 0, 1) := by decide +kernel
theorem dX3_run_16 : decode cX3_run 16 = .ok (.getfield 54, 3) := by decide +kernel
theorem dX3_run_19 : decode cX3_run 19 = .ok (.iload_n 1, 1) := by decide +kernel
theorem dX3_run_20 : decode cX3_run 20 = .ok (.baload, 1) := by decide +kernel
theorem dX3_run_21 : decode cX3_run 21 = .ok (.ifCond .ne 8, 3) := by decide +kernel
theorem dX3_run_29 : decode cX3_run 29 = .ok (.aload_n 0, 1) := by decide +kernel
theorem dX3_run_30 : decode cX3_run 30 = .ok (.getfield 33, 3) := by decide +kernel
theorem dX3_run_33 : decode cX3_run 33 = .ok (.iload_n 1, 1) := by decide +kernel
theorem dX3_run_34 : decode cX3_run 34 = .ok (.iaload, 1) := by decide +kernel
theorem dX3_run_35 : decode cX3_run 35 = .ok (.ifCond .le 15, 3) := by decide +kernel
theorem dX3_run_50 : decode cX3_run 50 = .ok (.aload_n 0, 1) := by decide +kernel
theorem dX3_run_51 : decode cX3_run 51 = .ok (.getfield 42, 3) := by decide +kernel
theorem dX3_run_54 : decode cX3_run 54 = .ok (.iload_n 1, 1) := by decide +kernel
theorem dX3_run_55 : decode cX3_run 55 = .ok (.iaload, 1) := by decide +kernel
theorem dX3_run_56 : decode cX3_run 56 = .ok (.ireturn, 1) := by decide +kernel
theorem dX3_run_38 : decode cX3_run 38 = .ok (.bipush (-10), 2) := by decide +kernel
theorem dX3_run_40 : decode cX3_run 40 = .ok (.aload_n 0, 1) := by decide +kernel
theorem dX3_run_41 : decode cX3_run 41 = .ok (.getfield 33, 3) := by decide +kernel
theorem dX3_run_44 : decode cX3_run 44 = .ok (.iload_n 1, 1) := by decide +kernel
theorem dX3_run_45 : decode cX3_run 45 = .ok (.iaload, 1) := by decide +kernel
theorem dX3_run_46 : decode cX3_run 46 = .ok (.isub, 1) := by decide +kernel
theorem dX3_run_47 : decode cX3_run 47 = .ok (.goto 9, 3) := by decide +kernel
theorem dX3_run_24 : decode cX3_run 24 = .ok (.aload_n 0, 1) := by decide +kernel
theorem dX3_run_25 : decode cX3_run 25 = .ok (.iload_n 1, 1) := by decide +kernel
theorem dX3_run_26 : decode cX3_run 26 = .ok (.invokevirtual 128, 3) := by decide +kernel
theorem dX3_run_13 : decode cX3_run 13 = .ok (.iconst (-1), 1) := by decide +kernel
theorem dX3_run_14 : decode cX3_run 14 = .ok (.ireturn, 1) := by decide +kernel
theorem dX3_action_0 : decode cX3_action 0 = .ok (.aload_n 0, 1) := by decide +kernel
theorem dX3_action_1 : decode cX3_action 1 = .ok (.iconst 0, 1) := by decide +kernel
theorem dX3_action_2 : decode cX3_action 2 = .ok (.putfield 71, 3) := by decide +kernel
theorem dX3_action_5 : decode cX3_action 5 = .ok (.iload_n 1, 1) := by decide +kernel
theorem dX3_action_6 : decode cX3_action 6 = .ok (.ifCond .lt 11, 3) := by decide +kernel
theorem dX3_action_17 : decode cX3_action 17 = .ok (.iconst (-1), 1) := by decide +kernel
theorem dX3_action_18 : decode cX3_action 18 = .ok (.ireturn, 1) := by decide +kernel
theorem dX3_action_9 : decode cX3_action 9 = .ok (.iload_n 1, 1) := by decide +kernel
theorem dX3_action_10 : decode cX3_action 10 = .ok (.aload_n 0, 1) := by decide +kernel
theorem dX3_action_11 : decode cX3_action 11 = .ok (.getfield 102, 3) := by decide +kernel
theorem dX3_action_14 : decode cX3_action 14 = .ok (.if_icmp .lt 5, 3) := by decide +kernel
theorem dX3_action_19 : decode cX3_action 19 = .ok (.aload_n 0, 1) := by decide +kernel
theorem dX3_action_20 : decode cX3_action 20 = .ok (.getfield 60, 3) := by decide +kernel
theorem dX3_action_23 : decode cX3_action 23 = .ok (.iload_n 1, 1) := by decide +kernel
theorem dX3_action_24 : decode cX3_action 24 = .ok (.iaload, 1) := by decide +kernel
theorem dX3_action_25 : decode cX3_action 25 = .ok (.istore_n 3, 1) := by decide +kernel
theorem dX3_action_26 : decode cX3_action 26 = .ok (.aload_n 0, 1) := by decide +kernel
theorem dX3_action_27 : decode cX3_action 27 = .ok (.getfield 27, 3) := by decide +kernel
theorem dX3_action_30 : decode cX3_action 30 = .ok (.iload_n 3, 1) := by decide +kernel
theorem dX3_action_31 : decode cX3_action 31 = .ok (.iaload, 1) := by decide +kernel
theorem dX3_action_32 : decode cX3_action 32 = .ok (.istore 4, 2) := by decide +kernel
theorem dX3_action_34 : decode cX3_action 34 = .ok (.iload_n 2, 1) := by decide +kernel
theorem dX3_action_35 : decode cX3_action 35 = .ok (.ifCond .ne 7, 3) := by decide +kernel
theorem dX3_action_42 : decode cX3_action 42 = .ok (.iload_n 2, 1) := by decide +kernel
theorem dX3_action_43 : decode cX3_action 43 = .ok (.iconst 1, 1) := by decide +kernel
theorem dX3_action_44 : decode cX3_action 44 = .ok (.if_icmp .ne 12, 3) := by decide +kernel
theorem dX3_action_56 : decode cX3_action 56 = .ok (.iload_n 2, 1) := by decide +kernel
theorem dX3_action_57 : decode cX3_action 57 = .ok (.iconst 2, 1) := by decide +kernel
theorem dX3_action_58 : decode cX3_action 58 = .ok (.if_icmp .ne 39, 3) := by decide +kernel
theorem dX3_action_97 : decode cX3_action 97 = .ok (.bipush (-2), 2) := by decide +kernel
theorem dX3_action_99 : decode cX3_action 99 = .ok (.ireturn, 1) := by decide +kernel
theorem dX3_action_61 : decode cX3_action 61 = .ok (.aload_n 0, 1) := by decide +kernel
theorem dX3_action_62 : decode cX3_action 62 = .ok (.getfield 7, 3) := by decide +kernel
theorem dX3_action_65 : decode cX3_action 65 = .ok (.iload 4, 2) := by decide +kernel
theorem dX3_action_67 : decode cX3_action 67 = .ok (.iaload, 1) := by decide +kernel
theorem dX3_action_68 : decode cX3_action 68 = .ok (.bipush 31, 2) := by decide +kernel
theorem dX3_action_70 : decode cX3_action 70 = .ok (.imul, 1) := by decide +kernel
theorem dX3_action_71 : decode cX3_action 71 = .ok (.aload_n 0, 1) := by decide +kernel
theorem dX3_action_72 : decode cX3_action 72 = .ok (.getfield 13, 3) := by decide +kernel
theorem dX3_action_75 : decode cX3_action 75 = .ok (.iload 4, 2) := by decide +kernel
theorem dX3_action_77 : decode cX3_action 77 = .ok (.iaload, 1) := by decide +kernel
theorem dX3_action_78 : decode cX3_action 78 = .ok (.iadd, 1) := by decide +kernel
theorem dX3_action_79 : decode cX3_action 79 = .ok (.bipush 31, 2) := by decide +kernel
theorem dX3_action_81 : decode cX3_action 81 = .ok (.imul, 1) := by decide +kernel
theorem dX3_action_82 : decode cX3_action 82 = .ok (.iload_n 3, 1) := by decide +kernel
theorem dX3_action_83 : decode cX3_action 83 = .ok (.iadd, 1) := by decide +kernel
theorem dX3_action_84 : decode cX3_action 84 = .ok (.bipush 31, 2) := by decide +kernel
theorem dX3_action_86 : decode cX3_action 86 = .ok (.imul, 1) := by decide +kernel
theorem dX3_action_87 : decode cX3_action 87 = .ok (.aload_n 0, 1) := by decide +kernel
theorem dX3_action_88 : decode cX3_action 88 = .ok (.getfield 63, 3) := by decide +kernel
theorem dX3_action_91 : decode cX3_action 91 = .ok (.iload_n 1, 1) := by decide +kernel
theorem dX3_action_92 : decode cX3_action 92 = .ok (.iaload, 1) := by decide +kernel
theorem dX3_action_93 : decode cX3_action 93 = .ok (.iadd, 1) := by decide +kernel
theorem dX3_action_94 : decode cX3_action 94 = .ok (.goto 5, 3) := by decide +kernel
theorem dX3_action_47 : decode cX3_action 47 = .ok (.aload_n 0, 1) := by decide +kernel
theorem dX3_action_48 : decode cX3_action 48 = .ok (.getfield 63, 3) := by decide +kernel
theorem dX3_action_51 : decode cX3_action 51 = .ok (.iload_n 1, 1) := by decide +kernel
theorem dX3_action_52 : decode cX3_action 52 = .ok (.iaload, 1) := by decide +kernel
theorem dX3_action_53 : decode cX3_action 53 = .ok (.goto 46, 3) := by decide +kernel
theorem dX3_action_38 : decode cX3_action 38 = .ok (.iload_n 3, 1) := by decide +kernel
theorem dX3_action_39 : decode cX3_action 39 = .ok (.goto 60, 3) := by decide +kernel
theorem dX3_provider_0 : decode cX3_provider 0 = .ok (.aload_n 0, 1) := by decide +kernel
theorem dX3_provider_1 : decode cX3_provider 1 = .ok (.iconst 0, 1) := by decide +kernel
theorem dX3_provider_2 : decode cX3_provider 2 = .ok (.putfield 71, 3) := by decide +kernel
theorem dX3_provider_5 : decode cX3_provider 5 = .ok (.aload_n 0, 1) := by decide +kernel
theorem dX3_provider_6 : decode cX3_provider 6 = .ok (.iload_n 1, 1) := by decide +kernel
theorem dX3_provider_7 : decode cX3_provider 7 = .ok (.invokevirtual 99, 3) := by decide +kernel
theorem dX3_provider_10 : decode cX3_provider 10 = .ok (.ifCond .eq 38, 3) := by decide +kernel
theorem dX3_provider_48 : decode cX3_provider 48 = .ok (.iconst 0, 1) := by decide +kernel
theorem dX3_provider_49 : decode cX3_provider 49 = .ok (.ireturn, 1) := by decide +kernel
theorem dX3_provider_13 : decode cX3_provider 13 = .ok (.iload_n 2, 1) := by decide +kernel
theorem dX3_provider_14 : decode cX3_provider 14 = .ok (.ifCond .lt 34, 3) := by decide +kernel
theorem dX3_provider_17 : decode cX3_provider 17 = .ok (.iload_n 2, 1) := by decide +kernel
theorem dX3_provider_18 : decode cX3_provider 18 = .ok (.iconst 3, 1) := by decide +kernel
theorem dX3_provider_19 : decode cX3_provider 19 = .ok (.if_icmp .ge 29, 3) := by decide +kernel
theorem dX3_provider_22 : decode cX3_provider 22 = .ok (.aload_n 0, 1) := by decide +kernel
theorem dX3_provider_23 : decode cX3_provider 23 = .ok (.getfield 57, 3) := by decide +kernel
theorem dX3_provider_26 : decode cX3_provider 26 = .ok (.iconst 3, 1) := by decide +kernel
theorem dX3_provider_27 : decode cX3_provider 27 = .ok (.iload_n 1, 1) := by decide +kernel
theorem dX3_provider_28 : decode cX3_provider 28 = .ok (.imul, 1) := by decide +kernel
theorem dX3_provider_29 : decode cX3_provider 29 = .ok (.iload_n 2, 1) := by decide +kernel
theorem dX3_provider_30 : decode cX3_provider 30 = .ok (.iadd, 1) := by decide +kernel
theorem dX3_provider_31 : decode cX3_provider 31 = .ok (.baload, 1) := by decide +kernel
theorem dX3_provider_32 : decode cX3_provider 32 = .ok (.ifCond .eq 16, 3) := by decide +kernel
theorem dX3_provider_35 : decode cX3_provider 35 = .ok (.aload_n 0, 1) := by decide +kernel
theorem dX3_provider_36 : decode cX3_provider 36 = .ok (.getfield 51, 3) := by decide +kernel
theorem dX3_provider_39 : decode cX3_provider 39 = .ok (.iconst 3, 1) := by decide +kernel
theorem dX3_provider_40 : decode cX3_provider 40 = .ok (.iload_n 1, 1) := by decide +kernel
theorem dX3_provider_41 : decode cX3_provider 41 = .ok (.imul, 1) := by decide +kernel
theorem dX3_provider_42 : decode cX3_provider 42 = .ok (.iload_n 2, 1) := by decide +kernel
theorem dX3_provider_43 : decode cX3_provider 43 = .ok (.iadd, 1) := by decide +kernel
theorem dX3_provider_44 : decode cX3_provider 44 = .ok (.iaload, 1) := by decide +kernel
theorem dX3_provider_45 : decode cX3_provider 45 = .ok (.goto 4, 3) := by decide +kernel
theorem dX3_failed_0 : decode cX3_failed 0 = .ok (.aload_n 0, 1) := by decide +kernel
theorem dX3_failed_1 : decode cX3_failed 1 = .ok (.iconst 0, 1) := by decide +kernel
theorem dX3_failed_2 : decode cX3_failed 2 = .ok (.putfield 71, 3) := by decide +kernel
theorem dX3_failed_5 : decode cX3_failed 5 = .ok (.aload_n 0, 1) := by decide +kernel
theorem dX3_failed_6 : decode cX3_failed 6 = .ok (.iload_n 1, 1) := by decide +kernel
theorem dX3_failed_7 : decode cX3_failed 7 = .ok (.invokevirtual 99, 3) := by decide +kernel
theorem dX3_failed_10 : decode cX3_failed 10 = .ok (.ifCond .ne 5, 3) := by decide +kernel
theorem dX3_failed_15 : decode cX3_failed 15 = .ok (.iload_n 2, 1) := by decide +kernel
theorem dX3_failed_16 : decode cX3_failed 16 = .ok (.ifCond .lt 8, 3) := by decide +kernel
theorem dX3_failed_24 : decode cX3_failed 24 = .ok (.bipush (-2), 2) := by decide +kernel
theorem dX3_failed_26 : decode cX3_failed 26 = .ok (.ireturn, 1) := by decide +kernel
theorem dX3_failed_19 : decode cX3_failed 19 = .ok (.iload_n 2, 1) := by decide +kernel
theorem dX3_failed_20 : decode cX3_failed 20 = .ok (.iconst 2, 1) := by decide +kernel
theorem dX3_failed_21 : decode cX3_failed 21 = .ok (.if_icmp .le 6, 3) := by decide +kernel
theorem dX3_failed_27 : decode cX3_failed 27 = .ok (.aload_n 0, 1) := by decide +kernel
theorem dX3_failed_28 : decode cX3_failed 28 = .ok (.getfield 54, 3) := by decide +kernel
theorem dX3_failed_31 : decode cX3_failed 31 = .ok (.iload_n 1, 1) := by decide +kernel
theorem dX3_failed_32 : decode cX3_failed 32 = .ok (.baload, 1) := by decide +kernel
theorem dX3_failed_33 : decode cX3_failed 33 = .ok (.ifCond .ne 6, 3) := by decide +kernel
theorem dX3_failed_39 : decode cX3_failed 39 = .ok (.iload_n 2, 1) := by decide +kernel
theorem dX3_failed_40 : decode cX3_failed 40 = .ok (.ifCond .ne 12, 3) := by decide +kernel
theorem dX3_failed_52 : decode cX3_failed 52 = .ok (.iload_n 2, 1) := by decide +kernel
theorem dX3_failed_53 : decode cX3_failed 53 = .ok (.iconst 1, 1) := by decide +kernel
theorem dX3_failed_54 : decode cX3_failed 54 = .ok (.if_icmp .ne 12, 3) := by decide +kernel
theorem dX3_failed_66 : decode cX3_failed 66 = .ok (.aload_n 0, 1) := by decide +kernel
theorem dX3_failed_67 : decode cX3_failed 67 = .ok (.getfield 39, 3) := by decide +kernel
theorem dX3_failed_70 : decode cX3_failed 70 = .ok (.iload_n 1, 1) := by decide +kernel
theorem dX3_failed_71 : decode cX3_failed 71 = .ok (.iaload, 1) := by decide +kernel
theorem dX3_failed_72 : decode cX3_failed 72 = .ok (.ireturn, 1) := by decide +kernel
theorem dX3_failed_57 : decode cX3_failed 57 = .ok (.aload_n 0, 1) := by decide +kernel
theorem dX3_failed_58 : decode cX3_failed 58 = .ok (.getfield 36, 3) := by decide +kernel
theorem dX3_failed_61 : decode cX3_failed 61 = .ok (.iload_n 1, 1) := by decide +kernel
theorem dX3_failed_62 : decode cX3_failed 62 = .ok (.iaload, 1) := by decide +kernel
theorem dX3_failed_63 : decode cX3_failed 63 = .ok (.goto 9, 3) := by decide +kernel
theorem dX3_failed_43 : decode cX3_failed 43 = .ok (.aload_n 0, 1) := by decide +kernel
theorem dX3_failed_44 : decode cX3_failed 44 = .ok (.getfield 33, 3) := by decide +kernel
theorem dX3_failed_47 : decode cX3_failed 47 = .ok (.iload_n 1, 1) := by decide +kernel
theorem dX3_failed_48 : decode cX3_failed 48 = .ok (.iaload, 1) := by decide +kernel
theorem dX3_failed_49 : decode cX3_failed 49 = .ok (.goto 23, 3) := by decide +kernel
theorem dX3_failed_36 : decode cX3_failed 36 = .ok (.bipush (-3), 2) := by decide +kernel
theorem dX3_failed_38 : decode cX3_failed 38 = .ok (.ireturn, 1) := by decide +kernel
theorem dX3_failed_13 : decode cX3_failed 13 = .ok (.iconst (-1), 1) := by decide +kernel
theorem dX3_failed_14 : decode cX3_failed 14 = .ok (.ireturn, 1) := by decide +kernel
end
section
def f_X0_init (t0 : Nat) (p1 : Int32) (s0 : MS) : Option (Unit × MS) :=
  m_nw s0 (.inr (3, 16)) (fun _ => .null) fun a1 s2 =>
  (m_p s2 0 t0 1 (.ref a1)).bind fun s4 =>
  (m_p s4 0 t0 2 (.int 0)).bind fun s6 =>
  (m_p s6 0 t0 3 (.int 0)).bind fun s8 =>
  m_nw s8 (.inr (4, 40)) (fun _ => .null) fun a10 s11 =>
  (m_p s11 0 t0 4 (.ref a10)).bind fun s13 =>
  (m_p s13 0 t0 5 (.int 0)).bind fun s15 =>
  m_nw s15 (.inr (1, 400)) (fun _ => defaultValue .int) fun a17 s18 =>
  (m_p s18 0 t0 6 (.ref a17)).bind fun s20 =>
  m_nw s20 (.inr (1, 400)) (fun _ => defaultValue .int) fun a22 s23 =>
  (m_p s23 0 t0 7 (.ref a22)).bind fun s25 =>
  (m_p s25 0 t0 8 (.int 0)).bind fun s27 =>
  (m_p s27 0 t0 9 (.int 0)).bind fun s29 =>
  (m_p s29 0 t0 0 (.int (if 65536 < (if p1 < 0 then 0 else p1) then 65536 else (if p1 < 0 then 0 else p1)))).bind fun s31 =>
  some ((), s31)
set_option maxHeartbeats 800000 in
set_option maxRecDepth 100000 in
theorem c_X0_init (l : Launch) (D : va_G) (tc : Nat → ClassId) (b : Nat) (t0 : Nat) (p1 : Int32) (s0 st' : MS) (r : Unit) (h : f_X0_init t0 p1 s0 = some (r, st')) : Met l yX0_init wsX0_init ({ frames := 1, cells := 4, slots := 856, locals := 21 }) (m_PcE D vwCl (m_tys tc) b s0 [.ref t0, .int p1]) (m_Q D vwCl (m_tys tc) b none st') 4 856 (m_A b) := by
  unfold f_X0_init at h
  refine m_metE (cc := cX0_init) (maxL := 2) (ret := none) (by decide) rfl (by first | exact Nat.le_of_ble_eq_true rfl | simp [lg_sl, m_rfc, m_catI, m_catL, m_catA]) ?_
  intro p e s m below meth c ls S hr hlk hnm hK hP hl hS hE
  replace hl : lv_has ls 2 [(0, .ref t0), (1, .int p1)] := by first | exact hl | simpa [lv_args, m_rfc, m_catI, m_catL, m_catA] using hl
  refine lv_aload_n S.1 S.2.1 dX0_init_0 rfl (lv_at hl 0 rfl) ?_
  refine W.objInit S.1 S.2.1 S.2.2.2.1 (S.2.2.2.2 (.methodLink RX0 1 objectInit) (m_mem (by decide +kernel))) (S.2.2.2.2 (.instanceMethod objectInit) (m_mem (by decide +kernel))) (S.2.2.2.2 (.code objectInit ⟨#[0xb1]⟩ 1 none) (m_mem (by decide +kernel))) rfl (by rw [S.2.2.1]; exact hl.1) rfl dX0_init_1 (Nat.le_of_ble_eq_true rfl) (Nat.le_of_ble_eq_true rfl) ?_
  refine W.eq (g2 := F0 m 4 ls []) rfl ?_
  refine lv_aload_n S.1 S.2.1 dX0_init_4 rfl (lv_at hl 0 rfl) ?_
  refine lv_bipush (v := 16) S.1 S.2.1 dX0_init_5 (by decide) ?_
  obtain ⟨a1, s2, e3, h⟩ := m_nw_s h
  refine m_newq (t := 3) (N := 16) S (S.2.2.2.2 (.classLink RX0 9 "RuleHouse2$RuleClass") (m_mem (by decide +kernel))) hE.1 hK hP hS rfl (by decide +kernel) (by decide +kernel) (by decide +kernel) (by decide +kernel) (by decide +kernel) e3 dX0_init_7 (fun H hP hS => ?_)
  obtain ⟨s4, e5, h⟩ := m_bs h
  refine m_putF (ci := 0) (k := 1) (T := TX0) (N := 10) (v := .ref a1) (ty := (.array (.object "RuleHouse2$RuleClass"))) S (inX0 _) tyX0 tX0 nX0 hK hP hS e5 rfl (by decide) (S.2.2.2.2 (.fieldLink RX0 11 "RuleHouse2" "classOfRule" "[LRuleHouse2$RuleClass;") (m_mem (by decide +kernel))) rfl rfl hnm rfl (by decide +kernel) rfl rfl dX0_init_10 (fun H locs hP hS => ?_)
  refine lv_aload_n S.1 S.2.1 dX0_init_13 rfl (lv_at hl 0 rfl) ?_
  refine lv_iconst (v := 0) S.1 S.2.1 dX0_init_14 (by decide) ?_
  obtain ⟨s6, e7, h⟩ := m_bs h
  refine m_put (ci := 0) (k := 2) (T := TX0) (N := 10) (v := .int 0) (ty := .int) S (inX0 _) tyX0 tX0 nX0 hK hP hS e7 rfl (by decide) (S.2.2.2.2 (.fieldLink RX0 15 "RuleHouse2" "ruleCount" "I") (m_mem (by decide +kernel))) rfl rfl (by decide +kernel) rfl rfl dX0_init_15 (fun H locs hP hS => ?_)
  refine lv_aload_n S.1 S.2.1 dX0_init_18 rfl (lv_at hl 0 rfl) ?_
  refine lv_iconst (v := 0) S.1 S.2.1 dX0_init_19 (by decide) ?_
  obtain ⟨s8, e9, h⟩ := m_bs h
  refine m_put (ci := 0) (k := 3) (T := TX0) (N := 10) (v := .int 0) (ty := .int) S (inX0 _) tyX0 tX0 nX0 hK hP hS e9 rfl (by decide) (S.2.2.2.2 (.fieldLink RX0 19 "RuleHouse2" "madeCount" "I") (m_mem (by decide +kernel))) rfl rfl (by decide +kernel) rfl rfl dX0_init_20 (fun H locs hP hS => ?_)
  refine lv_aload_n S.1 S.2.1 dX0_init_23 rfl (lv_at hl 0 rfl) ?_
  refine lv_bipush (v := 40) S.1 S.2.1 dX0_init_24 (by decide) ?_
  obtain ⟨a10, s11, e12, h⟩ := m_nw_s h
  refine m_newq (t := 4) (N := 40) S (S.2.2.2.2 (.classLink RX0 22 "RuleHouse2$Target") (m_mem (by decide +kernel))) hE.2.1 hK hP hS rfl (by decide +kernel) (by decide +kernel) (by decide +kernel) (by decide +kernel) (by decide +kernel) e12 dX0_init_26 (fun H hP hS => ?_)
  obtain ⟨s13, e14, h⟩ := m_bs h
  refine m_putF (ci := 0) (k := 4) (T := TX0) (N := 10) (v := .ref a10) (ty := (.array (.object "RuleHouse2$Target"))) S (inX0 _) tyX0 tX0 nX0 hK hP hS e14 rfl (by decide) (S.2.2.2.2 (.fieldLink RX0 24 "RuleHouse2" "targets" "[LRuleHouse2$Target;") (m_mem (by decide +kernel))) rfl rfl hnm rfl (by decide +kernel) rfl rfl dX0_init_29 (fun H locs hP hS => ?_)
  refine lv_aload_n S.1 S.2.1 dX0_init_32 rfl (lv_at hl 0 rfl) ?_
  refine lv_iconst (v := 0) S.1 S.2.1 dX0_init_33 (by decide) ?_
  obtain ⟨s15, e16, h⟩ := m_bs h
  refine m_put (ci := 0) (k := 5) (T := TX0) (N := 10) (v := .int 0) (ty := .int) S (inX0 _) tyX0 tX0 nX0 hK hP hS e16 rfl (by decide) (S.2.2.2.2 (.fieldLink RX0 28 "RuleHouse2" "targetCount" "I") (m_mem (by decide +kernel))) rfl rfl (by decide +kernel) rfl rfl dX0_init_34 (fun H locs hP hS => ?_)
  refine lv_aload_n S.1 S.2.1 dX0_init_37 rfl (lv_at hl 0 rfl) ?_
  refine lv_sipush (v := 400) S.1 S.2.1 dX0_init_38 (by decide) ?_
  obtain ⟨a17, s18, e19, h⟩ := m_nw_s h
  refine m_newa (t := 1) (N := 400) (i := 400) (atype := .int) (ty := .int) (cA := tc 1) S (S.2.2.2.2 (.arrayClass .int) (m_mem (by decide +kernel))) rfl hK hP hS rfl (by decide +kernel) (by decide +kernel) (by decide +kernel) (by decide +kernel) (by decide +kernel) e19 dX0_init_41 (fun H hP hS => ?_)
  obtain ⟨s20, e21, h⟩ := m_bs h
  refine m_putF (ci := 0) (k := 6) (T := TX0) (N := 10) (v := .ref a17) (ty := (.array .int)) S (inX0 _) tyX0 tX0 nX0 hK hP hS e21 rfl (by decide) (S.2.2.2.2 (.fieldLink RX0 31 "RuleHouse2" "actionTarget" "[I") (m_mem (by decide +kernel))) rfl rfl hnm rfl (by decide +kernel) rfl rfl dX0_init_43 (fun H locs hP hS => ?_)
  refine lv_aload_n S.1 S.2.1 dX0_init_46 rfl (lv_at hl 0 rfl) ?_
  refine lv_sipush (v := 400) S.1 S.2.1 dX0_init_47 (by decide) ?_
  obtain ⟨a22, s23, e24, h⟩ := m_nw_s h
  refine m_newa (t := 1) (N := 400) (i := 400) (atype := .int) (ty := .int) (cA := tc 1) S (S.2.2.2.2 (.arrayClass .int) (m_mem (by decide +kernel))) rfl hK hP hS rfl (by decide +kernel) (by decide +kernel) (by decide +kernel) (by decide +kernel) (by decide +kernel) e24 dX0_init_50 (fun H hP hS => ?_)
  obtain ⟨s25, e26, h⟩ := m_bs h
  refine m_putF (ci := 0) (k := 7) (T := TX0) (N := 10) (v := .ref a22) (ty := (.array .int)) S (inX0 _) tyX0 tX0 nX0 hK hP hS e26 rfl (by decide) (S.2.2.2.2 (.fieldLink RX0 35 "RuleHouse2" "actionNumber" "[I") (m_mem (by decide +kernel))) rfl rfl hnm rfl (by decide +kernel) rfl rfl dX0_init_52 (fun H locs hP hS => ?_)
  refine lv_aload_n S.1 S.2.1 dX0_init_55 rfl (lv_at hl 0 rfl) ?_
  refine lv_iconst (v := 0) S.1 S.2.1 dX0_init_56 (by decide) ?_
  obtain ⟨s27, e28, h⟩ := m_bs h
  refine m_put (ci := 0) (k := 8) (T := TX0) (N := 10) (v := .int 0) (ty := .int) S (inX0 _) tyX0 tX0 nX0 hK hP hS e28 rfl (by decide) (S.2.2.2.2 (.fieldLink RX0 38 "RuleHouse2" "actionCount" "I") (m_mem (by decide +kernel))) rfl rfl (by decide +kernel) rfl rfl dX0_init_57 (fun H locs hP hS => ?_)
  refine lv_aload_n S.1 S.2.1 dX0_init_60 rfl (lv_at hl 0 rfl) ?_
  refine lv_iconst (v := 0) S.1 S.2.1 dX0_init_61 (by decide) ?_
  obtain ⟨s29, e30, h⟩ := m_bs h
  refine m_put (ci := 0) (k := 9) (T := TX0) (N := 10) (v := .int 0) (ty := .int) S (inX0 _) tyX0 tX0 nX0 hK hP hS e30 rfl (by decide) (S.2.2.2.2 (.fieldLink RX0 41 "RuleHouse2" "handleCount" "I") (m_mem (by decide +kernel))) rfl rfl (by decide +kernel) rfl rfl dX0_init_62 (fun H locs hP hS => ?_)
  refine lv_aload_n S.1 S.2.1 dX0_init_65 rfl (lv_at hl 0 rfl) ?_
  refine lv_iload_n S.1 S.2.1 dX0_init_66 rfl (lv_at hl 1 rfl) ?_
  refine lv_iconst (v := 0) S.1 S.2.1 dX0_init_67 (by decide) ?_
  refine va_mmax S.1 S.2.1 (S.2.2.1.trans hl.1.symm) S.2.2.2.1 (S.2.2.2.2 (.methodLink RX0 44 Lib.Math.max.name) (m_mem (by decide +kernel))) (S.2.2.2.2 (.static Lib.Math.max.name) (m_mem (by decide +kernel))) (S.2.2.2.2 (.initialized "java/lang/Math") (m_mem (by decide +kernel))) (S.2.2.2.2 (.code Lib.Math.max.name Lib.Math.max.code 2 (some .int)) (m_mem (by decide +kernel))) (by decide) (by decide) (by decide) (by decide) dX0_init_68 ?_
  refine lv_ldc (v := 65536) S.1 S.2.1 S.2.2.2.1 (S.2.2.2.2 (.constant RX0 50 65536) (m_mem (by decide +kernel))) dX0_init_71 ?_
  refine va_mmin S.1 S.2.1 (S.2.2.1.trans hl.1.symm) S.2.2.2.1 (S.2.2.2.2 (.methodLink RX0 51 Lib.Math.min.name) (m_mem (by decide +kernel))) (S.2.2.2.2 (.static Lib.Math.min.name) (m_mem (by decide +kernel))) (S.2.2.2.2 (.initialized "java/lang/Math") (m_mem (by decide +kernel))) (S.2.2.2.2 (.code Lib.Math.min.name Lib.Math.min.code 2 (some .int)) (m_mem (by decide +kernel))) (by decide) (by decide) (by decide) (by decide) dX0_init_73 ?_
  obtain ⟨s31, e32, h⟩ := m_bs h
  refine m_putF (ci := 0) (k := 0) (T := TX0) (N := 10) (v := .int (if 65536 < (if p1 < 0 then 0 else p1) then 65536 else (if p1 < 0 then 0 else p1))) (ty := .int) S (inX0 _) tyX0 tX0 nX0 hK hP hS e32 rfl (by decide) (S.2.2.2.2 (.fieldLink RX0 54 "RuleHouse2" "stepsAllowed" "I") (m_mem (by decide +kernel))) rfl rfl hnm rfl (by decide +kernel) rfl rfl dX0_init_76 (fun H locs hP hS => ?_)
  obtain ⟨h1, h2⟩ := m_fin h; subst h1; subst h2
  exact m_vret S hr hlk hK hP hS (by decide +kernel) (by decide +kernel) dX0_init_79
end
