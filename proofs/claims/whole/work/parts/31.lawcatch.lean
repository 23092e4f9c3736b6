/-- a static call of a method with an exception table, on a road where it returns -/
theorem m_runSW {p : Program} {l : Launch} {e : Env} {R : Room} {s : State} {m : MethodId} {args : Array Value} {below : List Frame} {meth : Method} {c : Code} {H : Heap} {locs : List Loc} {cells slots : Nat} {y : MethodName} {bytes cc : ByteArray} {maxL nL mc ms n index : Nat} {ret : Option FieldType} {hh : List (Nat × Nat × Nat × Nat)} {ws : List Cond} {rm : Room} {Pc : Array Value → State → Prop} {Qc : Array Value → State → Outcome → State → Prop} {free : Addr → Prop} {Ts : List Cond} {own : String} {As rest : List Value} {g : JFrame}
    (S : CallFix p m c cc nL s args Ts own) (hM : Met l y ws rm Pc Qc mc ms free) (hd : (parseMethodDescriptor y.desc).map (fun d => d.parameters.length) = some n) (hy : y.cls ≠ "java/lang/invoke/MethodHandle" ∧ y.cls ≠ "java/lang/invoke/VarHandle") (hrc : rm.cells = mc) (hrs : rm.slots = ms) (hR : rm.frames + 1 ≤ R.frames ∧ 8 + (maxL + 11) + rm.locals ≤ R.locals)
    (hws : ∀ w ∈ ws, ∀ (a' : Array Value) (U : State), s.WarmedH U.vm → w.before a' U = true) (hcw : Cond.codeWith y bytes maxL ret hh ∈ ws) (hlink : (Cond.methodLink own index y).before args s = true) (hstat : (Cond.static y).before args s = true) (hini : (Cond.initialized y.cls).before args s = true) (hp : PreS s H Pc As)
    (hg : g.method = m) (hn : As.length = n) (hsize : g.locals.size = nL) (hstack : g.stack = As.reverse ++ rest) (hW : 2 * g.monitorRoom + (rest.map fun v => v.category).sum ≤ 8) (hdg : decode cc g.pc = .ok (.invokestatic index, 3)) (hf : cells + mc ≤ R.cells ∧ slots + ms ≤ R.slots) :
    va_Run p l e R s m args below meth c H locs cells slots mc ms g rest (Qc As.toArray) (free) := by
  have hK : Back l R p e below s args y 3 8 (PreOf R mc ms Pc) (PostOf Qc mc ms free) := va_backW (hh := hh) (bytes := bytes) (maxL := maxL) (ret := ret) hM hp.1 hrc hrs hR.1 hR.2 hws hcw (fun a' U hW => word_at hW (Or.inl (by first | rfl | simp [Cond.onTables, Cond.keeps, Cond.steady])) hini)
  obtain ⟨hx, hb, hml, ho, -⟩ := S
  intro T hT X
  have hcode : (Cond.codeWith y bytes maxL ret hh).before args s = true := by
    have h1 := hws _ hcw args (T.setVm T.vm) X.warmed
    have h2 := hws _ hcw args s (State.WarmedH.refl s)
    exact h2
  obtain ⟨mk, methM, cM, hnamed, hmethM, -, -, -, -, -, -, hsigM⟩ := Cond.codeWith_spec hcode
  have hstatic : methM.isStatic = true := Cond.static_spec hnamed hmethM hstat
  obtain ⟨kP, hkP, -⟩ := className_of_methodNamed hnamed
  have hinitP : kP.init = .initialized := Cond.initialized_spec (findClass_of_methodNamed hnamed) hkP hini
  have hlen : As.length = methM.sig.parameters.length := by
    rw [hsigM] at hd
    exact hn.trans (Option.some.inj hd).symm
  obtain ⟨vm₁, X₁, hstep₁⟩ := X.invokestatic hx ho hlink hnamed hmethM hstatic hkP hinitP hy (g := g) hg (argsL := As) (rest := rest) hlen hstack (by rw [hb]; exact hdg)
  obtain ⟨v, ⟨U', l2, c2, s2⟩, X', ⟨g', mk', t, L, e1, e2, hq, h1, hL, h2, h3⟩, hsteps⟩ := hK m meth c ⟨T.setVm vm₁, locs, cells, slots⟩ { g with stack := rest } (.invokestatic index) mk As.toArray X₁ hg (hsize.trans hml.symm) (by rw [hb]; exact hdg) hW (X₁.named hnamed) ⟨hf.1, hf.2, hp.2 (T.setVm vm₁) hT X₁.warmed⟩
  dsimp only [Pt.U, Pt.locs, Pt.cells, Pt.slots] at X' e1 e2 h1 h2 h3 hsteps
  subst h1; subst h2; subst h3
  exact ⟨v, (T.setVm vm₁).calling g' mk' As.toArray, t, U', L, hT, X', hL, e1, e2, hq, fun target h => hstep₁ _ fun acts => by rw [doInvoke_state]; exact hsteps.trans h⟩
def f_L_divide (p1 : Option Nat) (p2 : Int32) (p3 p4 : Int64) (p5 : Option Nat) (s0 : MS) : Option (Int32 × MS) :=
  p1.bind fun a => (m_is s0 0 a).bind fun _ => m_b (f_X0_divide a p2 p3 p4 s0) fun o s1 =>
  m_ov o (fun v => p5.bind fun q => (m_ap s1 8 q 0 (.long v)).bind fun s2 => some (0, s2)) (some (1, s1))
def f_L_handle (p1 : Option Nat) (p2 : Int32) (p3 : Option Nat) (s0 : MS) : Option (Int32 × MS) :=
  p1.bind fun a => (m_is s0 0 a).bind fun _ => m_b (f_X0_handle a p2 s0) fun o s1 =>
  m_ov o (fun v => p3.bind fun q => (m_ap s1 8 q 0 (.long (v : Int32).toInt64)).bind fun s2 => some (0, s2)) (some (1, s1))
theorem c_L_divide (l : Launch) (D : va_G) (tc : Nat → ClassId) (b : Nat) (p1 : Option Nat) (p2 : Int32) (p3 p4 : Int64) (p5 : Option Nat) (s0 st' : MS) (r : Int32) (h : f_L_divide p1 p2 p3 p4 p5 s0 = some (r, st')) : Met l yL_divide wsL_divide ({ frames := 8, cells := 1, slots := 6, locals := 200 }) (m_PcE D vwCl (m_tys tc) b s0 [va_rf p1, .int p2, .long p3, .long p4, va_rf p5]) (m_Q D vwCl (m_tys tc) b (some (.int r)) st') 1 6 (m_A b) := by
  sorry
theorem c_L_handle (l : Launch) (D : va_G) (tc : Nat → ClassId) (b : Nat) (p1 : Option Nat) (p2 : Int32) (p3 : Option Nat) (s0 st' : MS) (r : Int32) (h : f_L_handle p1 p2 p3 s0 = some (r, st')) : Met l yL_handle wsL_handle ({ frames := 8, cells := 1, slots := 6, locals := 200 }) (m_PcE D vwCl (m_tys tc) b s0 [va_rf p1, .int p2, va_rf p3]) (m_Q D vwCl (m_tys tc) b (some (.int r)) st') 1 6 (m_A b) := by
  sorry
