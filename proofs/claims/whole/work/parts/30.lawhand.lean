def f_X0_divide (t0 : Nat) (p1 : Int32) (p2 : Int64) (p3 : Int64) (s0 : MS) : Option (Option Int64 × MS) :=
  (m_is s0 0 t0).bind fun _ =>
  m_b (f_X0_classAt t0 p1 s0) fun r1 s2 =>
  m_nn r1
    (some (some 0, s2))
    (fun a5 =>
    (m_is s2 0 t0).bind fun _ =>
    m_b (f_X0_ensureMade t0 (some a5) s2) fun x6 s7 =>
    if x6 = 0 then
      some (some 0, s7)
    else
      (m_gL s7 1 a5 5).bind fun l11 =>
      (m_p s7 1 a5 5 (.long (l11 + 1))).bind fun s13 =>
      if (lg_cmp p3 0) = 0 then
        some (none, (s13.1 + 1, s13.2.1, s13.2.2))
      else
        if (p3 : Int64) = 0 then none else
        some (some (p2 / p3), s13))
def f_X0_handle (t0 : Nat) (p1 : Int32) (s0 : MS) : Option (Option Int32 × MS) :=
  (m_gI s0 0 t0 9).bind fun x1 =>
  m_b (f_X0_isWithin p1 (x1 - 1) s0) fun x3 s4 =>
  if x3 = 0 then
    some (some (-1), s4)
  else
    some (none, (s4.1 + 1, s4.2.1, s4.2.2))
/-! ===== the law's own script, its method 'cell', its two catching methods ===== -/
def m_sc (L : Nat) (xs : Nat → Int32) (i : Int32) : Option Int32 := if 0 ≤ i ∧ i.toNatClampNeg < L then some (xs i.toNatClampNeg) else none
theorem m_sc_s {L : Nat} {xs : Nat → Int32} {i x : Int32} (h : m_sc L xs i = some x) : vp_in i L ∧ xs i.toNatClampNeg = x := by
  unfold m_sc at h
  split at h
  · rename_i h1
    refine ⟨?_, Option.some.inj h⟩
    rintro (h2 | h2)
    · exact absurd h1.1 (Int32.not_le.mpr h2)
    · exact absurd h1.2 (Nat.not_lt.mpr h2)
  · cases h
def m_ov {α β : Type} (o : Option α) (A : α → Option β) (B : Option β) : Option β := match o with
  | some v => A v
  | none => B
section MLAW
variable {p : Program} {l : Launch} {e : Env} {R : Room} {s : State} {m : MethodId} {args : Array Value} {below : List Frame} {meth : Method} {c : Code} {H : Heap} {locs : List Loc} {cells slots : Nat} {Q : State → Prop}
variable {cc : ByteArray} {pc nL b : Nat} {ls : Array Slot} {rest : List Value} {bs L : Nat} {xs : Nat → Int32} {A : Nat → Prop} {H0 : Heap}
theorem m_sld (hexec : p.tables.exec = Jvm.exec) (hb : c.code = cc) (hX : va_X bs L xs s H0) (hbl : bs < H0.size) (hbA : ¬ A bs) (hS : va_S A H0 H locs) {i x : Int32} (hop : m_sc L xs i = some x) (hdg : decode cc pc = .ok (.iaload, 1))
    (kk : W p l e R s m args below meth c H locs cells slots Q (F0 m (pc + 1) ls (.int x :: rest))) : W p l e R s m args below meth c H locs cells slots Q (F0 m pc ls (.int i :: .ref bs :: rest)) := by
  obtain ⟨h1, rfl⟩ := m_sc_s hop
  exact va_sld hexec hb hX hbl hbA hS h1 hdg kk
theorem m_slen (hexec : p.tables.exec = Jvm.exec) (hb : c.code = cc) (hX : va_X bs L xs s H0) (hbl : bs < H0.size) (hbA : ¬ A bs) (hS : va_S A H0 H locs) (hdg : decode cc pc = .ok (.arraylength, 1))
    (kk : W p l e R s m args below meth c H locs cells slots Q (F0 m (pc + 1) ls (.int (nI L) :: rest))) : W p l e R s m args below meth c H locs cells slots Q (F0 m pc ls (.ref bs :: rest)) := va_slen hexec hb hX hbl hbA hS hdg kk
end MLAW
def f_L_cell (L : Nat) (xs : Nat → Int32) (k : Int32) : Option Int32 := if nI L ≤ k then some 0 else m_sc L xs k
set_option maxHeartbeats 4000000 in
set_option maxRecDepth 100000 in
theorem c_L_cell (l : Launch) (bs L : Nat) (xs : Nat → Int32) (k x : Int32) (h : f_L_cell L xs k = some x) : Met l yL_cell wsL_cell ({ frames := 0, cells := 0, slots := 0, locals := 0 }) (va_Pc [.ref bs, .int k] (fun U => bs < U.heap.size ∧ va_X bs L xs U U.heap)) (vp_Si (fun r => r = x)) 0 0 (fun _ => False) := by
  unfold f_L_cell at h
  refine Met.ofW (cc := cL_cell) (maxL := 2) (ret := some .int) (by decide) rfl ?_
  intro p e s m args below meth c s₁ B hml hv
  obtain ⟨rfl, hbl, hX⟩ := hv
  have S : CallFix p m c cL_cell 2 s [Value.ref bs, .int k].toArray wsL_cell RL := ⟨B.exec, B.bytes, hml, findClass_of_methodNamed B.named, atoms_spec (ws := wsL_cell) B.pre⟩
  have hr := B.returns
  have hlocks := B.notSynchronized
  have hl := lv_entry ([.ref bs, .int k]) (n := 2) (Nat.le_of_ble_eq_true rfl)
  rw [lg_entry_eq]
  generalize (lg_sl ([.ref bs, .int k]) ++ List.replicate (2 - (lg_sl ([.ref bs, .int k])).length) Slot.unset).toArray = ls at hl ⊢
  replace hl : lv_has ls 2 [(0, .ref bs), (1, .int k)] := hl
  have hS : va_S (fun _ => False) s.heap s.heap [] := va_S.rf
  refine lv_iload_n S.1 S.2.1 dL_cell_0 rfl (lv_at hl 1 rfl) ?_
  refine lv_aload_n S.1 S.2.1 dL_cell_1 rfl (lv_at hl 0 rfl) ?_
  refine m_slen S.1 S.2.1 hX hbl id hS dL_cell_2 ?_
  refine lv_icmp_ge (tgt := 12) S.1 S.2.1 dL_cell_3 (by decide) (fun c1 => ?_) (fun c1 => ?_)
  · replace h := m_t c1 h
    refine lv_iconst (v := 0) S.1 S.2.1 dL_cell_12 (by decide) ?_
    exact W.iret S.1 S.2.1 hr (fun t ht hW => ⟨0, rfl, Option.some.inj h, ht⟩) hS.2.2 dL_cell_13
  · replace h := m_f c1 h
    refine lv_aload_n S.1 S.2.1 dL_cell_6 rfl (lv_at hl 0 rfl) ?_
    refine lv_iload_n S.1 S.2.1 dL_cell_7 rfl (lv_at hl 1 rfl) ?_
    refine m_sld S.1 S.2.1 hX hbl id hS h dL_cell_8 ?_
    refine lv_goto (tgt := 13) S.1 S.2.1 dL_cell_9 (by decide) ?_
    exact W.iret S.1 S.2.1 hr (fun t ht hW => ⟨x, rfl, rfl, ht⟩) hS.2.2 dL_cell_13
/-- the law calls 'cell' -/
theorem m_lcell {p : Program} {l : Launch} {e : Env} {s : State} {m : MethodId} {args : Array Value} {below : List Frame} {meth : Method} {c : Code} {H : Heap} {locs : List Loc} {cells slots : Nat} {Q : State → Prop} {w0 : Cond} {pc b : Nat} {ls : Array Slot} {rest : List Value} {bs L : Nat} {xs : Nat → Int32}
    (S : CallFix p m c code 8 s args (w0 :: m_tbl) RL) (hX : va_X bs L xs s s.heap) (hbl : bs < s.heap.size) (hbA : ¬ m_A b bs) (hS : va_S (m_A b) s.heap H locs) {k x : Int32} (hop : f_L_cell L xs k = some x) (hsz : ls.size = 8) (hrest : (rest.map fun v => v.category).sum ≤ 8) (hc : cells ≤ 601024) (hs : slots ≤ 7293000) (hdg : decode code pc = .ok (.invokestatic 21, 3))
    (kk : W p l e room_1 s m args below meth c H locs cells slots Q (F0 m (pc + 3) ls (.int x :: rest))) : W p l e room_1 s m args below meth c H locs cells slots Q (F0 m pc ls (.int k :: .ref bs :: rest)) := by
  have hH : H[bs]? = s.heap[bs]? := hS.2.1 bs hbl hbA
  refine vp_callSi (W.runS (As := [.ref bs, .int k]) (rest := rest) S (c_L_cell l bs L xs k x hop) (cwS 2 S.2.2.2.2 (m_wS kL_cell (by decide +kernel)) rfl rfl rfl (by decide +kernel) ⟨by decide +kernel, by decide +kernel⟩) ⟨fun a U g mk q => ⟨q.1, q.2.1, va_X.moved (u := U) (U := U.calling g mk a) (Vm.Alike.refl U.vm) q.2.2⟩, fun U hU hW => ⟨rfl, by rw [hU]; exact Nat.lt_of_lt_of_le hbl hS.1, by rw [hU]; exact va_X.moved hW.alike (hX.kept hH)⟩⟩ rfl rfl hsz rfl (lv_room hrest) hdg ⟨hc, hs⟩) (fun r hr => ?_)
  rw [hr]
  exact kk
