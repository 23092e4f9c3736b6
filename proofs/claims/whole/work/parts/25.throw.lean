/-! ===== methods that throw ===== -/
/-- the contract of a method that throws: which cell, and what it leaves -/
def MetT (l : Launch) (y : MethodName) (ws : List Cond) (rm : Room) (Pc : Array Value → State → Prop) (Qt : Array Value → State → Addr → State → Prop) (mc ms : Nat) (free : Addr → Prop) : Prop :=
  MetFree l y (headSpec ws rm) Pc (fun _ _ _ _ _ => True) (fun a st o t => ∃ x, o = .threw x ∧ Qt a st x t ∧ ∃ L, (st.WarmedH t.vm ∧ st.sameButNew ({ t with vm := st.vm } : State) L mc ms) ∧ ∀ q ∈ L, free q.base)
def MTQ (below : List Frame) (Qt : Array Value → State → Addr → State → Prop) (a : Array Value) (s : State) (mc ms : Nat) (free : Addr → Prop) : State → Prop := fun t =>
  ∃ x, t.status = .running ∧ Ended t below (.threw x) ∧ Qt a s x t ∧ ∃ L, (s.WarmedH t.vm ∧ s.sameButNew ({ t with vm := s.vm } : State) L mc ms) ∧ ∀ q ∈ L, free q.base
theorem MetT.ofW {l : Launch} {y : MethodName} {ws ws' : List Cond} {rm : Room} {Pc : Array Value → State → Prop} {Qt : Array Value → State → Addr → State → Prop} {mc ms : Nat} {free : Addr → Prop} {cc : ByteArray} {maxL : Nat} {ret : Option FieldType}
    (hy : plainName y.cls = true) (hw : ws = Cond.code y cc maxL ret :: ws')
    (body : ∀ p e s m args below meth c s₁, BodyLoose p l y (headSpec ws rm) cc maxL ret e s m args below meth c s₁ → c.maxLocals = maxL → Pc args s →
      W p l e (headSpec ws rm).room s m args below meth c s.heap [] 0 0 (MTQ below Qt args s mc ms free) (entryFrame m args maxL)) : MetT l y ws rm Pc Qt mc ms free := by
  refine MetFree.of_bodyS (code := cc) (maxLocals := maxL) (ret := ret) hy ?_ ?_
  · intro args s m h hn
    obtain ⟨meth, c, h1, h2, h3, h4, h5, h6, -, -⟩ := Cond.code_spec hn (atoms_spec (ws := ws) h _ (by rw [hw]; exact List.mem_cons_self))
    exact ⟨meth, c, h1, h2, h3, h4, h5, h6⟩
  · intro p e s m args below meth c s₁ B hml hP _
    have hh0 : s₁.heap = s.heap := by rw [B.state]; rfl
    obtain ⟨t, a1, x, b1, b2, b3, b4⟩ := body p e s m args below meth c s₁ B hml hP s₁ hh0 (Stand.of_body B)
    exact ⟨t, .threw x, a1, b1, b2, x, rfl, b3, b4⟩
/-- the new cell of class cls, thrown; the world has one cell more, that nobody knows -/
def m_QT (D : va_G) (cl : List vw_C) (tys : List (ClassId × FieldType)) (b : Nat) (cls : String) (st : MS) : Array Value → State → Addr → State → Prop := fun _ s0 x t => (∃ cell : Cell, t.heap[x]? = some cell ∧ cell.vm = .none ∧ s0.vm.findClass cls = some cell.cls) ∧ (mw D cl tys b st t.heap ∧ va_K D cl tys t) ∧ va_F (m_A b) s0 t
theorem m_metT {l : Launch} {y : MethodName} {ws ws' : List Cond} {rm : Room} {mc ms : Nat} {cc : ByteArray} {maxL : Nat} {ret : Option FieldType} {D : va_G} {cl : List vw_C} {tys : List (ClassId × FieldType)} {b : Nat} {st st' : MS} {as : List Value} {cls : String}
    (hy : plainName y.cls = true) (hw : ws = Cond.code y cc maxL ret :: ws') (hlen : (lg_sl as).length ≤ maxL)
    (body : ∀ (p : Program) (e : Env) (s : State) (m : MethodId) (below : List Frame) (meth : Method) (c : Code) (ls : Array Slot), CallFix p m c cc maxL s as.toArray ws y.cls → c.exceptionTable.isEmpty = true → meth.locks = false → va_K D cl tys s → mw D cl tys b st s.heap → lv_has ls maxL (lv_args 0 as) → va_S (m_A b) s.heap s.heap [] → m_E b s →
      W p l e rm s m as.toArray below meth c s.heap [] 0 0 (MTQ below (m_QT D cl tys b cls st') as.toArray s mc ms (m_A b)) (F0 m 0 ls [])) : MetT l y ws rm (m_PcE D cl tys b st as) (m_QT D cl tys b cls st') mc ms (m_A b) := by
  refine MetT.ofW (cc := cc) (maxL := maxL) (ret := ret) hy hw ?_
  intro p e s m args below meth c s₁ B hml hv
  obtain ⟨⟨rfl, hP, hK⟩, hE⟩ := hv
  have hts := atoms_spec (ws := ws) B.pre
  have hl := lv_entry as (n := maxL) hlen
  rw [lg_entry_eq]
  exact body p e s m below meth c _ ⟨B.exec, B.bytes, hml, findClass_of_methodNamed B.named, hts⟩ (B.noHandlers (hts _ (by rw [hw]; exact List.mem_cons_self))) B.notSynchronized hK hP hl va_S.rf hE
theorem m_ntr {l : Launch} {e : Env} (h : l.admits e) (hl : l.stackTraces = false) : e.platform.stackTraces = false := by
  have h1 := h.2.2.2.2.1
  rw [h1]
  exact hl
/-- the walk's start is taken anew, at the heap as it now is -/
def m_s1 (s V : State) : State := { s.setVm V.vm with heap := V.heap, slotsUsed := V.slotsUsed }
theorem m_restand {p : Program} {l : Launch} {e : Env} {R : Room} {s : State} {m : MethodId} {args : Array Value} {below : List Frame} {meth : Method} {c : Code} {V : State} {locs : List Loc} {cells slots k n : Nat} (X : Stand p l e R s m args below meth c V locs cells slots) (hc : cells + k ≤ R.cells) (hs : slots + n ≤ R.slots) :
    Stand p l e { frames := R.frames, cells := k, slots := n, locals := R.locals } (m_s1 s V) m args below meth c V [] 0 0 := by
  have Y := X.rebased (Vm.Akin.of_alike X.warmed.alike)
  have hroom : (m_s1 s V).hasRoom e.platform { frames := R.frames, cells := k, slots := n, locals := R.locals } = true := by
    have h := Y.room
    have h1 := X.cellsAbove (n := k) hc
    have h2 := X.slotsAbove (n := n) hs
    have h3 := X.book
    simp only [State.hasRoom, Bool.and_eq_true, decide_eq_true_eq] at h ⊢
    exact ⟨⟨⟨⟨h.1.1.1.1, h.1.1.1.2⟩, h1⟩, h2⟩, h3⟩
  have hsame : (m_s1 s V).sameButNew (V.setVm (m_s1 s V).vm) [] 0 0 := by
    refine ⟨?_, Nat.le_refl _, Nat.le_refl _, ?_, ?_, ?_⟩
    · have h := Y.same.1
      show V = _
      have hV : (V.setVm V.vm).setVm (s.setVm V.vm).vm = V := rfl
      rw [hV] at h
      exact h
    · show V.slotsUsed = V.slotsUsed + ((V.heap.toList.drop V.heap.size).map (·.slots.size)).sum
      rw [List.drop_eq_nil_of_le (by simp)]
      rfl
    · show ((V.heap.toList.drop V.heap.size).map (·.slots.size)).sum ≤ 0
      rw [List.drop_eq_nil_of_le (by simp)]
      exact Nat.le_refl _
    · intro a cell h
      exact ⟨cell, h, rfl, rfl, fun _ _ => rfl⟩
  exact ⟨Y.admits, Y.cas, Y.clock, Y.frames, hroom, Y.hears, Y.method, Y.code, Y.here, Y.tail, State.WarmedH.refl _, Y.limits, Y.bytes, hsame⟩
/-- what has changed since the new start has changed since the old one -/
theorem m_backsame {s V U : State} {locs : List Loc} {cells slots k n : Nat} (h1 : s.sameButNew (V.setVm s.vm) locs cells slots) (h2 : (m_s1 s V).sameButNew ({ U with vm := (m_s1 s V).vm } : State) [] k n) : s.sameButNew ({ U with vm := s.vm } : State) locs (cells + k) (slots + n) := by
  have h3 : (V.setVm s.vm).sameButNew ({ U with vm := s.vm } : State) [] k n := by
    obtain ⟨e1, q2, q3, q4, q5, q6⟩ := h2
    refine ⟨?_, q2, q3, q4, q5, q6⟩
    have e2 := h1.1
    have e3 : ({ U with vm := s.vm } : State) = ({ s.setFrames ({ U with vm := (m_s1 s V).vm } : State).frames with heap := U.heap, slotsUsed := U.slotsUsed } : State) := congrArg (fun z : State => z.setVm s.vm) e1
    have e4 : (V.setVm s.vm).setFrames ({ U with vm := (m_s1 s V).vm } : State).frames = ({ s.setFrames ({ U with vm := (m_s1 s V).vm } : State).frames with heap := V.heap, slotsUsed := V.slotsUsed } : State) := by
      rw [e2]
      show ({ (s.setFrames _).setFrames _ with heap := V.heap, slotsUsed := V.slotsUsed } : State) = _
      rw [State.setFrames_setFrames]
    show ({ U with vm := s.vm } : State) = ({ (V.setVm s.vm).setFrames ({ U with vm := (m_s1 s V).vm } : State).frames with heap := U.heap, slotsUsed := U.slotsUsed } : State)
    rw [e4]
    exact e3
  have h4 := h1.trans h3
  rw [List.append_nil] at h4
  exact h4
set_option maxHeartbeats 4000000 in
/-- new X(text) is made and thrown: the row -/
theorem m_throw {p : Program} {l : Launch} {e : Env} {R : Room} {s : State} {m : MethodId} {args : Array Value} {below : List Frame} {meth : Method} {c : Code} {H : Heap} {locs : List Loc} {cells slots : Nat} {cc : ByteArray} {pc nL b : Nat} {ls : Array Slot} {D : va_G} {cl : List vw_C} {tys : List (ClassId × FieldType)} {st : MS} {w0 : Cond} {own cls tx : String} {ic ix il : Nat}
    (hfl : l.stackTraces = false) (S : CallFix p m c cc nL s args (w0 :: m_tbl) own) (hno : c.exceptionTable.isEmpty = true) (hlk : meth.locks = false) (hK : va_K D cl tys s) (hP : mw D cl tys b st H) (hS : va_S (m_A b) s.heap H locs) (hE : m_E b s)
    (hat : ∀ U : State, m_E b U → ∀ w ∈ Bundle.ownAtoms own ic cls m_xup, w.before args U = true) (htx : ∀ U : State, m_E b U → ∃ q, vk_R own il tx q U) (hcls : Bundle.fit cls = true)
    (hcl : (decide (Cond.classLink own ix cls ∈ lw_tbl) && goodWord (Cond.classLink own ix cls)) = true) (hini : (decide (Cond.initialized cls ∈ lw_tbl) && goodWord (Cond.initialized cls)) = true)
    (hfr : 5 < R.frames) (hlo : 90 ≤ R.locals) (hsz : ls.size = nL) (hcells : cells + 1 ≤ R.cells) (hslots : slots + 6 ≤ R.slots)
    (d1 : decode cc pc = .ok (.new ix, 3)) (d2 : decode cc (pc + 3) = .ok (.dup, 1)) (d3 : decode cc (pc + 4) = .ok (.ldc il, 2)) (d4 : decode cc (pc + 6) = .ok (.invokespecial ic, 3)) (d5 : decode cc (pc + 9) = .ok (.athrow, 1)) :
    W p l e R s m args below meth c H locs cells slots (MTQ below (m_QT D cl tys b cls (st.1 + 1, st.2.1, st.2.2)) args s (cells + 1) (slots + 6) (m_A b)) (F0 m pc ls []) := by
  obtain ⟨hx, hb, hml, hown, hts⟩ := S
  intro T hT X
  have X' := m_restand X hcells hslots
  have hW0 : s.WarmedH (m_s1 s T).vm := X.warmed
  have hE1 : m_E b (m_s1 s T) := hE.to hP hS hT hW0
  have hown1 : (m_s1 s T).vm.findClass own = some m.cls := by rw [hW0.alike.findClass]; exact hown
  have hcl1 : (Cond.classLink own ix cls).before args (m_s1 s T) = true := word_at hW0 (good_of_word (Bool.and_eq_true _ _ |>.mp hcl).2) (hts _ (m_mem hcl))
  have hini1 : (Cond.initialized cls).before args (m_s1 s T) = true := word_at hW0 (good_of_word (Bool.and_eq_true _ _ |>.mp hini).2) (hts _ (m_mem hini))
  have hins1 : (Cond.instantiable cls 6).before args (m_s1 s T) = true := hat _ hE1 _ (by simp [Bundle.ownAtoms])
  have hhs : (m_s1 s T).heap.size = st.1 := by rw [← hP.1, ← hT]; rfl
  have hTs : T.heap.size = st.1 := by rw [hT]; exact hP.1
  obtain ⟨vm₁, cX, kX, hfX, hkX, -, -, X₁, st1⟩ := X'.newCold hx (own := own) (C := cls) (index := ix) (n := 6) hown1 hcl1 hins1 hini1
    (g := F0 m pc ls []) rfl (by rw [hb]; exact d1) (Nat.le_refl _) (Nat.le_refl _)
  generalize hT1 : (T.setVm vm₁).pushCell { cls := cX, slots := kX.instanceTypes.map defaultValue, vm := .none } = T1 at X₁ st1
  have hcellA : T1.heap[T.heap.size]? = some (freshCell cX kX) := by rw [← hT1]; exact State.heap_pushCell_size _ _
  have htr : e.platform.stackTraces = false := m_ntr X.admits hfl
  obtain ⟨q, hq⟩ := htx _ hE1
  have w : W p l e { frames := R.frames, cells := 1, slots := 6, locals := R.locals } (m_s1 s T) m args below meth c T1.heap [] (0 + 1) (0 + 6) (MTQ below (m_QT D cl tys b cls (st.1 + 1, st.2.1, st.2.2)) args s (cells + 1) (slots + 6) (m_A b)) (F0 m (pc + 3) ls [.ref T.heap.size]) := by
    refine lv_dup hx hb d2 rfl ?_
    refine va_ldcS hx hb hown1 hq d3 ?_
    intro T2 hT2 X2
    obtain ⟨U, hsteps, hrun, hend, hWU, hsame, ce, hce, KC⟩ := X2.ctorThrowS hx htr (own := own) (cls := cls) (names := m_xup) (ic := ic) hown1 hcls (by decide) (hat _ hE1) (fun y hy => by cases hy) (cX := cX) (kX := kX) hfX hkX (a := T.heap.size) (by rw [hT2]; exact hcellA) (by rw [hhs, hTs]; exact Nat.le_refl _) (msg := .ref q) rfl
      (g := F0 m (pc + 6) ls [.ref q, .ref T.heap.size, .ref T.heap.size]) rfl (by rw [hml]; exact hsz) rfl rfl (rest := []) rfl (by rw [hb]; exact d4) (by rw [hb]; exact d5) (covers_of_empty hno _) (by show 2 + 3 < R.frames; exact hfr) (by show 2 * 0 + 1 + (13 * (2 + 1) + 42) ≤ R.locals; omega) hlk
    have hkeep : ∀ z : Nat, z < st.1 → U.heap[z]? = H[z]? := by
      intro z hz
      have hlt : z < (m_s1 s T).heap.size := by rw [hhs]; exact hz
      obtain ⟨c', k1, k2, k3, k4⟩ := hsame.2.2.2.2.2 z _ (Array.getElem?_eq_getElem hlt)
      have hsl : c'.slots = ((m_s1 s T).heap[z]'hlt).slots := by
        apply Array.ext_getElem?
        intro i
        exact k4 i (fun h => by cases h)
      have hcc : c' = (m_s1 s T).heap[z]'hlt := by rw [k2, hsl]
      have k1' : U.heap[z]? = some c' := k1
      rw [k1', hcc, ← Array.getElem?_eq_getElem hlt]
      show T.heap[z]? = H[z]?
      rw [hT]
    have hsize : U.heap.size = st.1 + 1 := by
      have g1 : U.heap.size ≤ (m_s1 s T).heap.size + (0 + 1) := hsame.2.2.1
      have g2 : T.heap.size < U.heap.size := (Array.getElem?_eq_some_iff.mp hce).1
      rw [hhs] at g1
      rw [hTs] at g2
      omega
    have hmw : mw D cl tys b (st.1 + 1, st.2.1, st.2.2) U.heap := by
      refine ⟨hsize, Nat.le_trans hP.2.1 (Nat.le_succ _), fun a x ha => ?_, fun a cell hba hac => ?_⟩
      · have h1 := hP.2.2.1 a x ha
        have h2 := h1.2.lt
        rw [hP.1] at h2
        exact ⟨h1.1, h1.2.kept (hkeep a h2)⟩
      · rcases Nat.lt_or_ge a st.1 with h1 | h1
        · rw [hkeep a h1] at hac
          exact hP.2.2.2 a cell hba hac
        · have h2 := (Array.getElem?_eq_some_iff.mp hac).1
          have h3 : a = T.heap.size := by omega
          rw [h3] at hac
          cases hce.symm.trans hac
          rw [KC.vm]; rfl
    refine ⟨U, hsteps, T.heap.size, hrun, hend, ⟨⟨ce, hce, KC.vm, ?_⟩, ⟨hmw, va_K.moved (hW0.trans hWU).alike hK⟩, ?_⟩, locs, ⟨hW0.trans hWU, m_backsame X.same hsame⟩, hS.2.2⟩
    · rw [← hW0.alike.findClass]; exact KC.cls
    · refine ⟨by rw [hsize, ← hP.1]; exact Nat.le_trans hS.1 (Nat.le_succ _), fun z hz1 hz2 => ?_⟩
      have hz3 : z < st.1 := by rw [← hP.1]; exact Nat.lt_of_lt_of_le hz1 hS.1
      rw [hkeep z hz3]
      exact hS.2.1 z hz1 hz2
  obtain ⟨t, a1, b1⟩ := w T1 rfl X₁
  exact ⟨t, st1 t a1, b1⟩
