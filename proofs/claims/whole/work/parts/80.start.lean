theorem m_arrP {args : Array Value} {s : State} {ty : FieldType} (h : (Cond.arrayClass ty).before args s = true) (hp : ∀ C, ty ≠ .object C) : ∃ cA : ClassId, ArrOfT s cA ty ∧ va_RA s cA ty := by
  obtain ⟨c, k, comp, h1, h2, h3⟩ := Cond.arrayClass_spec h
  refine ⟨c, fun n z => ⟨fun q h => (by cases h), k, h2, comp, h3⟩, ?_⟩
  cases ty with
  | object C => exact absurd rfl (hp C)
  | _ => exact h1
theorem m_arrO {args : Array Value} {s : State} {C : String} (h : (Cond.arrayOver (.object C)).before args s = true) : ∃ cA : ClassId, ArrOfT s cA (.object C) ∧ va_RA s cA (.object C) := by
  obtain ⟨comp, c, k, h1, -, h2, h3, h4⟩ := Cond.arrayOver_spec h
  exact ⟨c, fun n z => ⟨fun q h => (by cases h), k, h2, comp, h3⟩, k, comp, h2, h3, h1, h4⟩
set_option maxHeartbeats 4000000 in
set_option maxRecDepth 100000 in
/-- THE LAW, from its entry -/
theorem whole_start {p : Program} {e : Env} {s : State} {m : MethodId} {below : List Frame} {meth : Method} {c : Code} (l : Launch) (hfl : l.stackTraces = false) {b L : Nat} {xs : Nat → Int32} (hL : L ≤ 3073) (C0 : lw_At p s m meth c b L xs) : W p l e room_1 s m #[Value.ref b] below meth c s.heap [] 0 0 (lw_Z below #[Value.ref b] s) (entryFrame m ([Value.ref b] : List Value).toArray 8) := by
  obtain ⟨hx, hb, hr, hml, hown, hts, hX, hbl, hlocks, hgv⟩ := C0
  have htm : ∀ w ∈ Cond.initialized RX0 :: m_tbl, w.before #[Value.ref b] s = true := fun w hw => by
    rcases List.mem_cons.mp hw with rfl | hw
    · exact hts _ (by decide +kernel)
    · exact hts w (List.mem_filter.mp hw).1
  have S : CallFix p m c code 8 s #[Value.ref b] (Cond.initialized RX0 :: m_tbl) RL := ⟨hx, hb, hml, hown, htm⟩
  obtain ⟨c0, iS0, hKn0⟩ := u_known (C := RX0) (T := TX0) (N := 10) (n := 10) htm (inX0 _) (hts (.instantiable RX0 10) (by decide +kernel))
  obtain ⟨c1, iS1, hKn1⟩ := u_known (C := RX1) (T := TX1) (N := 6) (n := 6) htm (inX1 _) (hts (.instantiable RX1 6) (by decide +kernel))
  obtain ⟨c2, iS2, hKn2⟩ := u_known (C := RX2) (T := TX2) (N := 12) (n := 12) htm (inX2 _) (hts (.instantiable RX2 12) (by decide +kernel))
  obtain ⟨c3, iS3, hKn3⟩ := u_known (C := RX3) (T := TX3) (N := 25) (n := 25) htm (inX3 _) (hts (.instantiable RX3 25) (by decide +kernel))
  obtain ⟨dC, dI, hKc⟩ : ∃ (dC : Nat → ClassId) (dI : Nat → Nat → Nat), ∀ (k : Nat) (q : vw_C), vwCl[k]? = some q → u_Kn s q.1 q.2.1 q.2.2 (dC k) (dI k) := by
    refine ⟨fun k => if k = 0 then c0 else if k = 1 then c1 else if k = 2 then c2 else c3, fun k => if k = 0 then iS0 else if k = 1 then iS1 else if k = 2 then iS2 else iS3, ?_⟩
    intro k q hq
    match k, hq with
    | 0, hq => cases hq; exact hKn0
    | 1, hq => cases hq; exact hKn1
    | 2, hq => cases hq; exact hKn2
    | 3, hq => cases hq; exact hKn3
    | k + 4, hq => simp [vwCl] at hq
  have ho1 : (Cond.arrayOver (.object "RuleHouse2$RuleClass")).before #[Value.ref b] s = true := hts _ (by decide +kernel)
  have ho2 : (Cond.arrayOver (.object "RuleHouse2$Target")).before #[Value.ref b] s = true := hts _ (by decide +kernel)
  obtain ⟨aI, hI⟩ := m_arrP (ty := .int) (hts (.arrayClass .int) (by decide +kernel)) (fun C h => by cases h)
  obtain ⟨aZ, hZ⟩ := m_arrP (ty := .boolean) (hts (.arrayClass .boolean) (by decide +kernel)) (fun C h => by cases h)
  obtain ⟨aJ, hJ⟩ := m_arrP (ty := .long) (hts (.arrayClass .long) (by decide +kernel)) (fun C h => by cases h)
  obtain ⟨aR, hR⟩ := m_arrO ho1
  obtain ⟨aT, hT⟩ := m_arrO ho2
  obtain ⟨tc, htc⟩ : ∃ tc : Nat → ClassId, ∀ (k : Nat) (q : ClassId × FieldType), (m_tys tc)[k]? = some q → ArrOfT s q.1 q.2 ∧ va_RA s q.1 q.2 := by
    refine ⟨fun k => if k = 2 ∨ k = 6 then aZ else if k = 3 then aR else if k = 4 then aT else if k = 7 ∨ k = 8 then aJ else aI, ?_⟩
    intro k q hq
    match k, hq with
    | 0, hq => cases hq; exact hI
    | 1, hq => cases hq; exact hI
    | 2, hq => cases hq; exact hZ
    | 3, hq => cases hq; exact hR
    | 4, hq => cases hq; exact hT
    | 5, hq => cases hq; exact hI
    | 6, hq => cases hq; exact hZ
    | 7, hq => cases hq; exact hJ
    | 8, hq => cases hq; exact hJ
    | k + 9, hq => simp [m_tys] at hq
  have hK : va_K (dC, dI) vwCl (m_tys tc) s := ⟨hKc, htc⟩
  have hE : m_E s.heap.size s := m_E_start hts hgv ho1 ho2
  have hP : mw (dC, dI) vwCl (m_tys tc) s.heap.size (s.heap.size, fun _ => none, fun _ _ => .null) s.heap := ⟨rfl, Nat.le_refl _, (fun a x h => by cases h), fun a cell h1 h2 => absurd (Array.getElem?_eq_some_iff.mp h2).1 (Nat.not_lt.mpr h1)⟩
  have hl := lv_entry ([.ref b]) (n := 8) (Nat.le_of_ble_eq_true rfl)
  rw [lg_entry_eq]
  generalize (lg_sl ([.ref b]) ++ List.replicate (8 - (lg_sl ([.ref b])).length) Slot.unset).toArray = ls at hl ⊢
  replace hl : lv_has ls 8 [(0, .ref b)] := hl
  obtain ⟨st', h⟩ := law_math L xs s.heap.size hL
  exact w_L_law hfl (dC, dI) tc S hr hlocks hK hX hbl (Nat.not_le.mpr hbl) rfl hE _ st' h ls hP hl
