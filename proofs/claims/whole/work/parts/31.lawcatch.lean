/-- a static call of a method with an exception table, on a road where it returns -/
theorem m_runSW {p : Program} {l : Launch} {e : Env} {R : Room} {s : State} {m : MethodId} {args : Array Value} {below : List Frame} {meth : Method} {c : Code} {H : Heap} {locs : List Loc} {cells slots : Nat} {y : MethodName} {bytes cc : ByteArray} {maxL nL mc ms n index : Nat} {ret : Option FieldType} {hh : List (Nat × Nat × Nat × Nat)} {ws : List Cond} {rm : Room} {Pc : Array Value → State → Prop} {Qc : Array Value → State → Outcome → State → Prop} {free : Addr → Prop} {Ts : List Cond} {own : String} {As rest : List Value} {g : JFrame}
    (S : CallFix p m c cc nL s args Ts own) (hM : Met l y ws rm Pc Qc mc ms free) (hd : (parseMethodDescriptor y.desc).map (fun d => d.parameters.length) = some n) (hy : y.cls ≠ "java/lang/invoke/MethodHandle" ∧ y.cls ≠ "java/lang/invoke/VarHandle") (hrc : rm.cells = mc) (hrs : rm.slots = ms) (hR : rm.frames + 1 ≤ R.frames ∧ 8 + (maxL + 11) + rm.locals ≤ R.locals)
    (hws : ∀ w ∈ ws, ∀ (a' : Array Value) (U : State), s.WarmedH U.vm → w.before a' U = true) (hcw : Cond.codeWith y bytes maxL ret hh ∈ ws) (hlink : (Cond.methodLink own index y).before args s = true) (hstat : (Cond.static y).before args s = true) (hini : (Cond.initialized y.cls).before args s = true) (hp : PreS s H Pc As)
    (hg : g.method = m) (hn : As.length = n) (hsize : g.locals.size = nL) (hstack : g.stack = As.reverse ++ rest) (hW : 2 * g.monitorRoom + (rest.map fun v => v.category).sum ≤ 8) (hdg : decode cc g.pc = .ok (.invokestatic index, 3)) (hf : cells + mc ≤ R.cells ∧ slots + ms ≤ R.slots) :
    va_Run p l e R s m args below meth c H locs cells slots mc ms g rest (Qc As.toArray) (free) := by
  have hK : Back l R p e below s args y 3 8 (PreOf R mc ms Pc) (PostOf Qc mc ms free) := va_backW (hh := hh) (bytes := bytes) (maxL := maxL) (ret := ret) hM hp.1 hrc hrs hR.1 hR.2 hws hcw (fun a' U hW => word_at hW (Or.inl (by first | rfl | simp [Cond.onTables, Cond.keeps, Cond.steady])) hini)
  obtain ⟨hx, hb, hml, ho, -⟩ := S
  intro T hT X
  have hcode : (Cond.codeWith y bytes maxL ret hh).before args s = true := by
    have h1 := hws _ hcw args (T.setVm T.vm) X.warmed
    have h2 := hws _ hcw args s (State.WarmedH.refl s)
    exact h2
  obtain ⟨mk, methM, cM, hnamed, hmethM, -, -, -, -, -, -, hsigM⟩ := Cond.codeWith_spec hcode
  have hstatic : methM.isStatic = true := Cond.static_spec hnamed hmethM hstat
  obtain ⟨kP, hkP, -⟩ := className_of_methodNamed hnamed
  have hinitP : kP.init = .initialized := Cond.initialized_spec (findClass_of_methodNamed hnamed) hkP hini
  have hlen : As.length = methM.sig.parameters.length := by
    rw [hsigM] at hd
    exact hn.trans (Option.some.inj hd).symm
  obtain ⟨vm₁, X₁, hstep₁⟩ := X.invokestatic hx ho hlink hnamed hmethM hstatic hkP hinitP hy (g := g) hg (argsL := As) (rest := rest) hlen hstack (by rw [hb]; exact hdg)
  obtain ⟨v, ⟨U', l2, c2, s2⟩, X', ⟨g', mk', t, L, e1, e2, hq, h1, hL, h2, h3⟩, hsteps⟩ := hK m meth c ⟨T.setVm vm₁, locs, cells, slots⟩ { g with stack := rest } (.invokestatic index) mk As.toArray X₁ hg (hsize.trans hml.symm) (by rw [hb]; exact hdg) hW (X₁.named hnamed) ⟨hf.1, hf.2, hp.2 (T.setVm vm₁) hT X₁.warmed⟩
  dsimp only [Pt.U, Pt.locs, Pt.cells, Pt.slots] at X' e1 e2 h1 h2 h3 hsteps
  subst h1; subst h2; subst h3
  exact ⟨v, (T.setVm vm₁).calling g' mk' As.toArray, t, U', L, hT, X', hL, e1, e2, hq, fun target h => hstep₁ _ fun acts => by rw [doInvoke_state]; exact hsteps.trans h⟩
def f_L_divide (p1 : Option Nat) (p2 : Int32) (p3 p4 : Int64) (p5 : Option Nat) (s0 : MS) : Option (Int32 × MS) :=
  p1.bind fun a => (m_is s0 0 a).bind fun _ => m_b (f_X0_divide a p2 p3 p4 s0) fun o s1 =>
  m_ov o (fun v => p5.bind fun q => (m_ap s1 8 q 0 (.long v)).bind fun s2 => some (0, s2)) (some (1, s1))
def f_L_handle (p1 : Option Nat) (p2 : Int32) (p3 : Option Nat) (s0 : MS) : Option (Int32 × MS) :=
  p1.bind fun a => (m_is s0 0 a).bind fun _ => m_b (f_X0_handle a p2 s0) fun o s1 =>
  m_ov o (fun v => p3.bind fun q => (m_ap s1 8 q 0 (.long (v : Int32).toInt64)).bind fun s2 => some (0, s2)) (some (1, s1))
theorem m_metW {l : Launch} {y : MethodName} {ws ws' : List Cond} {rm : Room} {mc ms : Nat} {cc : ByteArray} {maxL : Nat} {ret : Option FieldType} {hh : List (Nat × Nat × Nat × Nat)} {D : va_G} {cl : List vw_C} {tys : List (ClassId × FieldType)} {b : Nat} {st st' : MS} {as : List Value} {v : Option Value}
    (hy : plainName y.cls = true) (hw : ws = Cond.codeWith y cc maxL ret hh :: ws') (hlen : (lg_sl as).length ≤ maxL)
    (body : ∀ (p : Program) (e : Env) (s : State) (m : MethodId) (below : List Frame) (meth : Method) (c : Code) (ls : Array Slot), CallFix p m c cc maxL s as.toArray ws y.cls → meth.sig.returnType = ret → meth.locks = false → c.exceptionTable.toList.map (fun h => (h.startPc, h.endPc, h.handlerPc, h.catchType)) = hh → va_K D cl tys s → mw D cl tys b st s.heap → lv_has ls maxL (lv_args 0 as) → va_S (m_A b) s.heap s.heap [] → m_E b s →
      W p l e rm s m as.toArray below meth c s.heap [] 0 0 (MQ below (m_Q D cl tys b v st') as.toArray s mc ms (m_A b)) (F0 m 0 ls [])) : Met l y ws rm (m_PcE D cl tys b st as) (m_Q D cl tys b v st') mc ms (m_A b) := by
  refine va_MetW (cc := cc) (maxL := maxL) (ret := ret) (hh := hh) hy hw ?_
  intro p e s m args below meth c s₁ B hml hv
  obtain ⟨⟨rfl, hP, hK⟩, hE⟩ := hv
  have hts := atoms_spec (ws := ws) B.pre
  obtain ⟨m9, meth9, c9, hn9, hm9, hc9, -, -, ht9, -, -, -⟩ := Cond.codeWith_spec (hts _ (by rw [hw]; exact List.mem_cons_self))
  cases B.named.symm.trans hn9
  cases B.method.symm.trans hm9
  cases (Stand.of_body B).code.symm.trans hc9
  have hl := lv_entry as (n := maxL) hlen
  rw [lg_entry_eq]
  exact body p e s m below meth c _ ⟨B.exec, B.bytes, hml, findClass_of_methodNamed B.named, hts⟩ B.returns B.notSynchronized ht9 hK hP hl va_S.rf hE
theorem m_tab1 {c : Code} {a b h t : Nat} (hh : c.exceptionTable.toList.map (fun h => (h.startPc, h.endPc, h.handlerPc, h.catchType)) = [(a, b, h, t)]) : ∃ x : ExceptionTableEntry, c.exceptionTable.toList = [x] ∧ x.startPc = a ∧ x.endPc = b ∧ x.handlerPc = h ∧ x.catchType = t := by
  match hl : c.exceptionTable.toList, hh with
  | [], hh => simp at hh
  | [x], hh =>
    simp only [List.map_cons, List.map_nil, List.cons.injEq, Prod.mk.injEq, and_true] at hh
    exact ⟨x, rfl, hh.1, hh.2.1, hh.2.2.1, hh.2.2.2⟩
  | x :: y :: r, hh => simp at hh
theorem m_self {b : Nat} {s : State} (hE : m_E b s) {cls : String} (hm : Cond.castable cls cls ∈ m_xA ++ m_xI) (cX : ClassId) (h : s.vm.findClass cls = some cX) : s.vm.assignable cX cX = true := by
  obtain ⟨c, t, h1, h2, h3⟩ := Cond.castable_spec (hE.2.2.2.1 #[] _ hm)
  cases h.symm.trans h1
  cases h.symm.trans h2
  exact h3
theorem m_ov0 {α β : Type} {A : α → Option β} {B : Option β} {y : β} (h : m_ov none A B = some y) : B = some y := h
theorem m_ov1 {α β : Type} {v : α} {A : α → Option β} {B : Option β} {y : β} (h : m_ov (some v) A B = some y) : A v = some y := h
set_option maxHeartbeats 4000000 in
set_option maxRecDepth 100000 in
theorem c_L_divide (l : Launch) (hfl : l.stackTraces = false) (D : va_G) (tc : Nat → ClassId) (b : Nat) (p1 : Option Nat) (p2 : Int32) (p3 p4 : Int64) (p5 : Option Nat) (s0 st' : MS) (r : Int32) (h : f_L_divide p1 p2 p3 p4 p5 s0 = some (r, st')) : Met l yL_divide wsL_divide ({ frames := 8, cells := 1, slots := 6, locals := 200 }) (m_PcE D vwCl (m_tys tc) b s0 [va_rf p1, .int p2, .long p3, .long p4, va_rf p5]) (m_Q D vwCl (m_tys tc) b (some (.int r)) st') 1 6 (m_A b) := by
  unfold f_L_divide at h
  refine m_metW (cc := cL_divide) (maxL := 8) (ret := some .int) (hh := [(0, 12, 15, 13)]) (by decide) rfl (by first | exact Nat.le_of_ble_eq_true rfl | simp [lg_sl, m_rfc, m_catI, m_catL, m_catA]) ?_
  intro p e s m below meth c ls S hr hlk hht hK hP hl hS hE
  replace hl : lv_has ls 8 [(0, va_rf p1), (1, .int p2), (2, .long p3), (4, .long p4), (6, va_rf p5)] := by first | exact hl | simpa [lv_args, m_rfc, m_catI, m_catL, m_catA] using hl
  obtain ⟨a1, ea, g⟩ := m_bs h; clear h; subst ea; have h := g; clear g
  obtain ⟨_, k1, h⟩ := m_bs h
  obtain ⟨o, s1, e1, h⟩ := m_b_s h
  refine m_aload S.1 S.2.1 dL_divide_0 (lv_at hl 4 rfl) ?_
  refine lv_iconst (v := 0) S.1 S.2.1 dL_divide_2 (by decide) ?_
  refine lv_aload_n S.1 S.2.1 dL_divide_3 rfl (lv_at hl 0 rfl) ?_
  refine lv_iload_n S.1 S.2.1 dL_divide_4 rfl (lv_at hl 1 rfl) ?_
  refine lv_lload_n S.1 S.2.1 dL_divide_5 rfl (lv_at hl 2 rfl) ?_
  refine lv_lload S.1 S.2.1 dL_divide_6 (lv_at hl 3 rfl) ?_
  rcases o with _ | v
  · replace h := m_ov0 h
    obtain ⟨h1, h2⟩ := m_fin h; subst h1; subst h2
    obtain ⟨x, hx1, hx2, hx3, hx4, hx5⟩ := m_tab1 hht
    refine m_callT (As := [.int p2, .long p3, .long p4]) (rest := [.int 0, va_rf p5]) S (c_X0_divide_t l hfl D tc b a1 p2 p3 p4 _ _ e1) (cwV 3 S.2.2.2.2 (m_wV kX0_divide (by decide +kernel)) rfl rfl rfl (by decide +kernel) ⟨by decide +kernel, by decide +kernel⟩) (m_preVE hK hP (m_is_s k1) rfl hE hS) rfl hl.1 rfl (by simp [m_rfc, m_catI]) dL_divide_8 ⟨by decide +kernel, by decide +kernel⟩ hx1 (by simp [covers, hx2, hx3]) (by rw [hx5]; decide) (by rw [hx5]; exact S.2.2.2.2 _ (m_mem (by decide +kernel))) (m_self hE (by decide +kernel)) hS (fun a H locs hP hS => ?_)
    rw [hx4]
    refine lv_astore (i := 7) (lv' := [(7, .ref a), (0, va_rf (some a1)), (1, .int p2), (2, .long p3), (4, .long p4), (6, va_rf p5)]) S.1 S.2.1 dL_divide_15 hl (by decide) (by first | rfl | simp [m_rfc, m_catI, m_catL, m_catA]) (fun ls hl => ?_)
    refine lv_iconst (v := 1) S.1 S.2.1 dL_divide_17 (by decide) ?_
    exact m_iret S hr hlk hK hP hS (by decide +kernel) (by decide +kernel) dL_divide_18
  · replace h := m_ov1 h
    refine m_calll (va_runV (As := [.int p2, .long p3, .long p4]) (rest := [.int 0, va_rf p5]) S (c_X0_divide_r l D tc b a1 p2 p3 p4 _ _ _ e1) (cwV 3 S.2.2.2.2 (m_wV kX0_divide (by decide +kernel)) rfl rfl rfl (by decide +kernel) ⟨by decide +kernel, by decide +kernel⟩) (m_preVE hK hP (m_is_s k1) rfl hE hS) rfl rfl hl.1 rfl (lv_room (by simp [m_rfc, m_catI])) dL_divide_8 ⟨by decide +kernel, by decide +kernel⟩) hS (fun H locs hP hS => ?_)
    obtain ⟨q, ea, g⟩ := m_bs h; clear h; subst ea; have h := g; clear g
    obtain ⟨s2, e2, h⟩ := m_bs h
    obtain ⟨h1, h2⟩ := m_fin h; subst h1; subst h2
    refine m_last (t := 8) S hK hP hS e2 (by decide) rfl dL_divide_11 (fun H locs hP hS => ?_)
    refine lv_goto (tgt := 19) S.1 S.2.1 dL_divide_12 (by decide) ?_
    refine lv_iconst (v := 0) S.1 S.2.1 dL_divide_19 (by decide) ?_
    exact m_iret S hr hlk hK hP hS (by decide +kernel) (by decide +kernel) dL_divide_20
set_option maxHeartbeats 4000000 in
set_option maxRecDepth 100000 in
theorem c_L_handle (l : Launch) (hfl : l.stackTraces = false) (D : va_G) (tc : Nat → ClassId) (b : Nat) (p1 : Option Nat) (p2 : Int32) (p3 : Option Nat) (s0 st' : MS) (r : Int32) (h : f_L_handle p1 p2 p3 s0 = some (r, st')) : Met l yL_handle wsL_handle ({ frames := 8, cells := 1, slots := 6, locals := 200 }) (m_PcE D vwCl (m_tys tc) b s0 [va_rf p1, .int p2, va_rf p3]) (m_Q D vwCl (m_tys tc) b (some (.int r)) st') 1 6 (m_A b) := by
  unfold f_L_handle at h
  refine m_metW (cc := cL_handle) (maxL := 4) (ret := some .int) (hh := [(0, 9, 12, 19)]) (by decide) rfl (by first | exact Nat.le_of_ble_eq_true rfl | simp [lg_sl, m_rfc, m_catI, m_catL, m_catA]) ?_
  intro p e s m below meth c ls S hr hlk hht hK hP hl hS hE
  replace hl : lv_has ls 4 [(0, va_rf p1), (1, .int p2), (2, va_rf p3)] := by first | exact hl | simpa [lv_args, m_rfc, m_catI, m_catL, m_catA] using hl
  obtain ⟨a1, ea, g⟩ := m_bs h; clear h; subst ea; have h := g; clear g
  obtain ⟨_, k1, h⟩ := m_bs h
  obtain ⟨o, s1, e1, h⟩ := m_b_s h
  refine m_aload_n S.1 S.2.1 dL_handle_0 rfl (lv_at hl 2 rfl) ?_
  refine lv_iconst (v := 0) S.1 S.2.1 dL_handle_1 (by decide) ?_
  refine lv_aload_n S.1 S.2.1 dL_handle_2 rfl (lv_at hl 0 rfl) ?_
  refine lv_iload_n S.1 S.2.1 dL_handle_3 rfl (lv_at hl 1 rfl) ?_
  rcases o with _ | v
  · replace h := m_ov0 h
    obtain ⟨h1, h2⟩ := m_fin h; subst h1; subst h2
    obtain ⟨x, hx1, hx2, hx3, hx4, hx5⟩ := m_tab1 hht
    refine m_callT (As := [.int p2]) (rest := [.int 0, va_rf p3]) S (c_X0_handle_t l hfl D tc b a1 p2 _ _ e1) (cwV 1 S.2.2.2.2 (m_wV kX0_handle (by decide +kernel)) rfl rfl rfl (by decide +kernel) ⟨by decide +kernel, by decide +kernel⟩) (m_preVE hK hP (m_is_s k1) rfl hE hS) rfl hl.1 rfl (by simp [m_rfc, m_catI]) dL_handle_4 ⟨by decide +kernel, by decide +kernel⟩ hx1 (by simp [covers, hx2, hx3]) (by rw [hx5]; decide) (by rw [hx5]; exact S.2.2.2.2 _ (m_mem (by decide +kernel))) (m_self hE (by decide +kernel)) hS (fun a H locs hP hS => ?_)
    rw [hx4]
    refine lv_astore_n (i := 3) (lv' := [(3, .ref a), (0, va_rf (some a1)), (1, .int p2), (2, va_rf p3)]) S.1 S.2.1 dL_handle_12 rfl hl (by decide) (by first | rfl | simp [m_rfc, m_catI, m_catL, m_catA]) (fun ls hl => ?_)
    refine lv_iconst (v := 1) S.1 S.2.1 dL_handle_13 (by decide) ?_
    exact m_iret S hr hlk hK hP hS (by decide +kernel) (by decide +kernel) dL_handle_14
  · replace h := m_ov1 h
    refine m_calli (va_runV (As := [.int p2]) (rest := [.int 0, va_rf p3]) S (c_X0_handle_r l D tc b a1 p2 _ _ _ e1) (cwV 1 S.2.2.2.2 (m_wV kX0_handle (by decide +kernel)) rfl rfl rfl (by decide +kernel) ⟨by decide +kernel, by decide +kernel⟩) (m_preVE hK hP (m_is_s k1) rfl hE hS) rfl rfl hl.1 rfl (lv_room (by simp [m_rfc, m_catI])) dL_handle_4 ⟨by decide +kernel, by decide +kernel⟩) hS (fun H locs hP hS => ?_)
    refine lv_i2l S.1 S.2.1 dL_handle_7 rfl ?_
    obtain ⟨q, ea, g⟩ := m_bs h; clear h; subst ea; have h := g; clear g
    obtain ⟨s2, e2, h⟩ := m_bs h
    obtain ⟨h1, h2⟩ := m_fin h; subst h1; subst h2
    refine m_last (t := 8) S hK hP hS e2 (by decide) rfl dL_handle_8 (fun H locs hP hS => ?_)
    refine lv_goto (tgt := 15) S.1 S.2.1 dL_handle_9 (by decide) ?_
    refine lv_iconst (v := 0) S.1 S.2.1 dL_handle_15 (by decide) ?_
    exact m_iret S hr hlk hK hP hS (by decide +kernel) (by decide +kernel) dL_handle_16
