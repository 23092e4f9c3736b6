/-! ===== a call that throws, and the handler of the caller's own that takes it (its table has one entry; its class is linked, cold or warm) ===== -/
theorem m_setfin {V : State} {g₀ g g2 : JFrame} {r : List Frame} {fr : Frame} (vm' : Vm) (hr : V.frames = .java g₀ :: r) : (((V.setTop g).pushFrame fr).setVm vm').setFrames (.java g2 :: V.frames.tail) = (V.setVm vm').setTop g2 := by
  have hr' : (V.setVm vm').frames = .java g₀ :: r := hr
  rw [State.setTop_of_frames _ hr', State.pushFrame, State.setTop_of_frames _ hr, hr, List.tail_cons, State.setFrames_setFrames]
  have h1 : ∀ F : List Frame, (V.setFrames F).setVm vm' = (V.setVm vm').setFrames F := fun F => rfl
  rw [h1, State.setFrames_setFrames]
theorem m_caught {p : Program} {l : Launch} {e : Env} {R : Room} {s : State} {m : MethodId} {args : Array Value} {below : List Frame} {meth : Method} {c : Code} {V : State} {locs : List Loc} {cells slots : Nat} (X : Stand p l e R s m args below meth c V locs cells slots) {own cls : String} (hown : s.vm.findClass own = some m.cls) (pc : Nat) (ls : Array Slot) (rest : List Value) {x : ExceptionTableEntry}
    (htab : c.exceptionTable.toList = [x]) (hx : covers x pc = true) (h0 : x.catchType ≠ 0) (hlink : (Cond.classLink own x.catchType cls).before args s = true) {a : Addr} {cell : Cell} (hcell : V.heap[a]? = some cell) (hobj : cell.vm = .none) (hfc : s.vm.findClass cls = some cell.cls) (hself : s.vm.assignable cell.cls cell.cls = true) :
    ∃ vm', Stand p l e R s m args below meth c (V.setVm vm') locs cells slots ∧ ∀ target, Steps p.tables e below ((V.setVm vm').setTop (F0 m x.handlerPc ls [.ref a])) target → Steps p.tables e below ((V.setTop (F0 m pc ls rest)).pushFrame (.throwing a)) target := by
  have hpl : e.platform.magicAccessors = ({} : Platform).magicAccessors := by rw [X.admits.platform]
  obtain ⟨c', hc', hcl⟩ := Cond.classLink_spec hown hlink e.platform hpl
  cases hfc.symm.trans hc'
  obtain ⟨dk, _, _, kt, hd, _, _, _, _, hkt, _, hopen⟩ := hcl.here
  have hclV : V.vm.ClassLinks e.platform m.cls x.catchType cell.cls := X.warmed.classLinks hcl
  have hW' : s.WarmedH (V.vm.noted m.cls x.catchType (.cls cell.cls)) := X.warmed.noted hd hopen (State.rightAt_cls hcl)
  have hal2 : V.vm.Alike (V.vm.noted m.cls x.catchType (.cls cell.cls)) := (Vm.Alike.refl V.vm).noted _ _ _
  obtain ⟨kt1, hkt1, -⟩ := hW'.alike.2.2 _ _ hkt
  have hfit2 : (V.vm.noted m.cls x.catchType (.cls cell.cls)).assignable cell.cls cell.cls = true := by rw [hW'.alike.assignable]; exact hself
  refine ⟨_, X.noted hW', fun target hrest => ?_⟩
  have hfind : ∀ (Q : Handler → Pre) (E : CtlPost) (d : Bool) (acts : List Action), wp (findHandler (F0 m pc ls rest) a) Q E e d acts ((V.setTop (F0 m pc ls rest)).pushFrame (.throwing a)) ↔ Q (.found x.handlerPc) d acts (((V.setTop (F0 m pc ls rest)).pushFrame (.throwing a)).setVm (V.vm.noted m.cls x.catchType (.cls cell.cls))) := by
    intro Q E d acts
    rw [W.findHandler_eq (meth := meth) (code := c) X.method' X.code, htab]
    simp only [covers] at hx
    obtain ⟨ha, ht⟩ := (resolveClass_links e.toSetting hclV).op (op := VmOp.resolveClass m.cls x.catchType) rfl
    have ho : ∀ k, cell.vm ≠ .statics k := fun k h => by rw [hobj] at h; cases h
    have hhe : ((V.setTop (F0 m pc ls rest)).pushFrame (.throwing a)).heap[a]? = some cell := hcell
    have hvm : ((V.setTop (F0 m pc ls rest)).pushFrame (.throwing a)).vm = V.vm := rfl
    rw [← hvm] at ha ht hkt1 hfit2 ⊢
    simp [findHandler.go, hx, h0, ha, ht, hhe, ho, hkt1, hfit2, VmOp.dirties, VmOp.acts]
  have hthr : (stepThrowing e ((V.setTop (F0 m pc ls rest)).pushFrame (.throwing a)) a (.java (F0 m pc ls rest) :: V.frames.tail)).Is ((((V.setTop (F0 m pc ls rest)).pushFrame (.throwing a)).setVm (V.vm.noted m.cls x.catchType (.cls cell.cls))).setFrames (.java (F0 m x.handlerPc ls [.ref a]) :: V.frames.tail)) [] := by
    simp only [stepThrowing, searchFrame, vmDo]
    generalize hr : Sem.go _ e false [] _ = res
    obtain ⟨as, rfl, ha⟩ := Sem.eq_ok_of hr (a := Handler.found x.handlerPc) (s' := ((V.setTop (F0 m pc ls rest)).pushFrame (.throwing a)).setVm (V.vm.noted m.cls x.catchType (.cls cell.cls))) (acts' := []) (by simp [hfind _ _ _ _])
    exact ⟨rfl, ha⟩
  have hAt : At V (F0 m pc ls rest).method c below := X.here
  obtain ⟨hgo, hw⟩ := hAt.throwing a
  refine Steps.head hgo hw ?_
  rw [stepThread_throwing (frames_entered hAt.top _), hthr.1]
  obtain ⟨g₀, hg0⟩ := Option.isSome_iff_exists.mp hAt.top
  obtain ⟨r, hr⟩ := State.topJava?_eq_some.mp hg0
  rw [m_setfin _ hr]
  exact hrest
/-- invokevirtual of a method that throws, caught here -/
theorem m_callT {p : Program} {l : Launch} {e : Env} {R : Room} {s : State} {m : MethodId} {args : Array Value} {below : List Frame} {meth : Method} {c : Code} {H : Heap} {locs : List Loc} {cells slots : Nat} {Q : State → Prop} {y : MethodName} {bytes cc : ByteArray} {maxL nL mc ms n index : Nat} {ret : Option FieldType} {ws : List Cond} {rm : Room} {Pc : Array Value → State → Prop} {Ts : List Cond} {own C cls : String} {b a0 pc : Nat} {As rest st0 : List Value} {ls : Array Slot} {D : va_G} {cl : List vw_C} {tys : List (ClassId × FieldType)} {st : MS}
    (S : CallFix p m c cc nL s args Ts own) (hM : MetT l y ws rm Pc (m_QT D cl tys b cls st) mc ms (m_A b)) (cw : CallW R s args own C index y bytes maxL ret ws rm mc ms n) (hp : PreV s H C a0 Pc As)
    (hn : As.length = n) (hsize : ls.size = nL) (hstack : st0 = As.reverse ++ .ref a0 :: rest) (hW : (rest.map fun v => v.category).sum ≤ 8) (hdg : decode cc pc = .ok (.invokevirtual index, 3)) (hf : cells + mc ≤ R.cells ∧ slots + ms ≤ R.slots)
    {x : ExceptionTableEntry} (htab : c.exceptionTable.toList = [x]) (hx : covers x pc = true) (h0 : x.catchType ≠ 0) (hlink : (Cond.classLink own x.catchType cls).before args s = true) (hself : ∀ cX, s.vm.findClass cls = some cX → s.vm.assignable cX cX = true)
    (hS : va_S (m_A b) s.heap H locs)
    (kk : ∀ (a : Nat) (H1 : Heap) (locs1 : List Loc), mw D cl tys b st H1 → va_S (m_A b) s.heap H1 locs1 → W p l e R s m args below meth c H1 locs1 (cells + mc) (slots + ms) Q (F0 m x.handlerPc ls [.ref a])) : W p l e R s m args below meth c H locs cells slots Q (F0 m pc ls st0) := by
  intro T hT X
  obtain ⟨⟨hrc, hrs, hfr, hlo, hws, hcw, hcode, hini, hy, hlen, hl⟩, hin, hse⟩ := cw
  obtain ⟨hex, hb, hml, ho, -⟩ := S
  obtain ⟨hbl, ⟨cellB, hcB, hoB, hclB⟩, hPc⟩ := hp
  obtain ⟨mk, methM, hnamed, hmethM, hstM, habM⟩ := Cond.instanceMethod_spec hin
  obtain ⟨methM', cM, hmethM', -, -, -, -, -, -, hsigM⟩ := Cond.code_spec hnamed hcode
  cases hmethM.symm.trans hmethM'
  obtain ⟨c2, r2, m2, q1, q2, q3, q4, kP, hkP, hkPi⟩ := Cond.selects_spec hse
  cases hclB.symm.trans q1
  cases (State.methodFound?_of_named hnamed hy).symm.trans q2
  cases hnamed.symm.trans q3
  have hselP : selectMethod e.platform s.vm cellB.cls mk = .method mk := by rw [Launch.admits_selectMethod X.admits]; exact q4
  obtain ⟨vm₁, X₁, hstep₁⟩ := X.invokevirtual hex ho hl hnamed hmethM hstM hkP hkPi hy (a := a0) (cell := cellB) (by rw [hT]; exact hcB)
    (fun z h => by rw [h] at hoB; cases hoB) hselP hmethM habM hkP hkPi (g := F0 m pc ls st0) rfl (argsL := As) (rest := rest) (hn.trans (hlen _ hsigM)) hstack (by rw [hb]; exact hdg)
  generalize hUe : T.setVm vm₁ = U at X₁ hstep₁
  have hUh : U.heap = H := by rw [← hUe]; exact hT
  have hnU : U.methodNamed? y = some mk := X₁.named hnamed
  obtain ⟨methY, cY, hmY, hcY, -, hlY, -, -, -, -⟩ := Cond.code_spec hnU (hws _ hcw (Value.ref a0 :: As).toArray U X₁.warmed)
  obtain ⟨kY, hkY, -⟩ := className_of_methodNamed hnU
  have hinitY : kY.init = .initialized := Cond.initialized_spec (findClass_of_methodNamed hnU) hkY (word_at (a' := (Value.ref a0 :: As).toArray) X₁.warmed (Or.inl (by first | rfl | simp [Cond.onTables, Cond.keeps, Cond.steady])) hini)
  have hA : At U (F0 m pc ls rest).method c below := X₁.here
  have hWs : ((F0 m pc ls rest).stack.map fun v => v.category).sum ≤ 8 := hW
  have happ : (headSpec ws rm).appliesLoose y e.platform (U.calling (F0 m pc ls rest) mk (Value.ref a0 :: As).toArray) = true :=
    Spec.appliesLoose_calling (g := F0 m pc ls rest) hA (by rw [hb]; exact hdg) hnU hkY hinitY
      (X₁.room_calling (g := F0 m pc ls rest) (R' := rm) (hsize.trans hml.symm) hmY hcY hfr (by show 2 * 0 + _ + _ + _ ≤ _; rw [hlY]; omega) (by rw [hrc]; exact hf.1) (by rw [hrs]; exact hf.2)) (atoms_intro fun w hw => hws w hw _ _ X₁.warmed)
  obtain ⟨mid, hmid⟩ := hA.above
  have hfrm : (U.setTop (F0 m pc ls rest)).frames = (.java (F0 m pc ls rest) :: mid) ++ below := by rw [State.frames_setTop' _ hA.top, hmid]; rfl
  obtain ⟨o, s₂, hsteps, -, hend, xa, rfl, hq, L, ⟨hW₂, hsm⟩, hL⟩ := Steps.callFree hM p X₁.admits X₁.cas X₁.clock (acts := []) hfrm happ (hbl _ _ _ _ (hPc U hUh X₁.warmed)) trivial
  obtain ⟨e2, z2, z3, z4, z5, z6⟩ := id hsm
  rw [State.frames_setTop' _ hA.top] at hend
  have e3 : s₂ = ({ (U.calling (F0 m pc ls rest) mk (Value.ref a0 :: As).toArray).setFrames s₂.frames with heap := s₂.heap, slotsUsed := s₂.slotsUsed } : State).setVm s₂.vm := by
    have : s₂ = ({ s₂ with vm := (U.calling (F0 m pc ls rest) mk (Value.ref a0 :: As).toArray).vm } : State).setVm s₂.vm := rfl
    refine this.trans ?_
    exact congrArg (fun z : State => z.setVm s₂.vm) e2
  have hf₂ : s₂.frames = .throwing xa :: .java (F0 m pc ls rest) :: U.frames.tail := hend
  have hWU : U.WarmedH s₂.vm := hW₂
  obtain ⟨g₀, hg0⟩ := Option.isSome_iff_exists.mp hA.top
  obtain ⟨r, hr⟩ := State.topJava?_eq_some.mp hg0
  generalize hBe : (({ U with heap := s₂.heap, slotsUsed := s₂.slotsUsed } : State).setVm s₂.vm) = B
  have hrB : B.frames = .java g₀ :: r := by rw [← hBe]; exact hr
  have hs₂ : s₂ = (B.setTop (F0 m pc ls rest)).pushFrame (.throwing xa) := by
    refine e3.trans ?_
    rw [hf₂, State.calling_eq hA.top, State.setFrames_setFrames, State.pushFrame, State.frames_setTop _ hrB, State.setTop_of_frames _ hrB, State.setFrames_setFrames, hr, ← hBe]
    rfl
  have hsame : U.sameButNew ({ U with heap := s₂.heap, slotsUsed := s₂.slotsUsed } : State) L mc ms := by
    refine ⟨?_, z2, z3, z4, z5, z6⟩
    obtain ⟨t, ht, -⟩ := State.frames_cons hr
    show ({ U with heap := s₂.heap, slotsUsed := s₂.slotsUsed } : State) = { U.setFrames U.frames with heap := s₂.heap, slotsUsed := s₂.slotsUsed }
    rw [State.setFrames_self ht]
  have XB : Stand p l e R s m args below meth c B (locs ++ L) (cells + mc) (slots + ms) := by
    rw [← hBe]
    exact ⟨X₁.admits, X₁.cas, X₁.clock, X₁.frames, X₁.room, X₁.hears, X₁.method, X₁.code, (X₁.here.setHeapUsed s₂.heap s₂.slotsUsed).setVm hWU.alike, X₁.tail, State.WarmedH.trans X₁.warmed hWU, X₁.limits, X₁.bytes, X₁.same.trans (hsame.setVm s.vm)⟩
  obtain ⟨⟨cell, hc1, hc2, hc3⟩, ⟨hmw, -⟩, hz, hk⟩ := hq
  have hBh : B.heap = s₂.heap := by rw [← hBe]; rfl
  have hfcs : s.vm.findClass cls = some cell.cls := by rw [← X₁.warmed.alike.findClass]; exact hc3
  obtain ⟨vm', X', hc⟩ := m_caught XB ho pc ls rest htab hx h0 hlink (a := xa) (cell := cell) (by rw [hBh]; exact hc1) hc2 hfcs (hself _ hfcs)
  have hz' : H.size ≤ s₂.heap.size := by rw [← hUh]; exact hz
  have hk' : ∀ q : Nat, q < H.size → ¬ m_A b q → s₂.heap[q]? = H[q]? := by rw [← hUh]; exact hk
  obtain ⟨t2, a1, b1⟩ := kk xa s₂.heap (locs ++ L) hmw
    ⟨Nat.le_trans hS.1 hz', fun q h1 h2 => by rw [hk' q (Nat.lt_of_lt_of_le h1 hS.1) h2]; exact hS.2.1 q h1 h2, fun q hq => by
      rcases List.mem_append.mp hq with h | h
      · exact hS.2.2 q h
      · exact hL q h⟩ (B.setVm vm') (by show B.heap = _; exact hBh) X'
  refine ⟨t2, hstep₁ _ fun acts => ?_, b1⟩
  rw [doInvoke_state]
  refine hsteps.trans ?_
  rw [hs₂]
  exact hc t2 a1
