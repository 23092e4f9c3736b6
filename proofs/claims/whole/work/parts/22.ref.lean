def f_X3_fail_L49 : Nat → Int32 → Nat → Int32 → Int32 → Int32 → Int32 → MS → Option (Unit × MS)
  | 0, _, _, _, _, _, _, _ => none
  | f + 1, q5, q0, q1, q2, q3, q4, s0 =>
    if 3 ≤ q5 then
      some ((), s0)
    else
      (m_gR s0 3 q0 22).bind fun r31 =>
      r31.bind fun a33 =>
      (m_ap s0 6 a33 ((3 * q1) + q5) (.int 0)).bind fun s34 =>
      f_X3_fail_L49 f (q5 + 1) q0 q1 q2 q3 q4 s34
def f_X3_fail (t0 : Nat) (p1 : Int32) (p2 : Int32) (p3 : Int32) (p4 : Int32) (s0 : MS) : Option (Unit × MS) :=
  (m_gR s0 3 t0 14).bind fun r1 =>
  r1.bind fun a3 =>
  (m_ap s0 5 a3 p1 (.int p2)).bind fun s4 =>
  (m_gR s4 3 t0 15).bind fun r6 =>
  r6.bind fun a8 =>
  (m_ap s4 5 a8 p1 (.int p3)).bind fun s9 =>
  (m_gR s9 3 t0 16).bind fun r11 =>
  r11.bind fun a13 =>
  (m_ap s9 5 a13 p1 (.int (p4 + 1))).bind fun s14 =>
  (m_gI s14 3 t0 5).bind fun x16 =>
  (m_gR s14 3 t0 17).bind fun r18 =>
  r18.bind fun a20 =>
  (m_aI s14 5 a20 p1).bind fun x21 =>
  (m_p s14 3 t0 5 (.int (x16 - x21))).bind fun s23 =>
  (m_gR s23 3 t0 17).bind fun r25 =>
  r25.bind fun a27 =>
  (m_ap s23 5 a27 p1 (.int 0)).bind fun s28 =>
  f_X3_fail_L49 64 0 t0 p1 p2 p3 p4 s28
set_option maxHeartbeats 4000000 in
set_option maxRecDepth 100000 in
theorem w_X3_fail_L49 {p : Program} {l : Launch} {e : Env} {s : State} {m : MethodId} {args : Array Value} {below : List Frame} {meth : Method} {c : Code} (D : va_G) (tc : Nat → ClassId) (b : Nat) (S : CallFix p m c cX3_fail 6 s args wsX3_fail RX3) (hr : meth.sig.returnType = none) (hlk : meth.locks = false) (hK : va_K D vwCl (m_tys tc) s) :
    ∀ (f : Nat) (q5 : Int32) (q0 : Nat) (q1 : Int32) (q2 : Int32) (q3 : Int32) (q4 : Int32) (s0 st' : MS) (r : Unit) (h : f_X3_fail_L49 f q5 q0 q1 q2 q3 q4 s0 = some (r, st')) (H : Heap) (locs : List Loc) (ls : Array Slot) (hP : mw D vwCl (m_tys tc) b s0 H) (hS : va_S (m_A b) s.heap H locs) (hl : lv_has ls 6 [(5, .int q5), (0, .ref q0), (1, .int q1), (2, .int q2), (3, .int q3), (4, .int q4)]), W p l e { frames := 0, cells := 0, slots := 0, locals := 0 } s m args below meth c H locs 0 0 (MQ below (m_Q D vwCl (m_tys tc) b none st') args s 0 0 (m_A b)) (F0 m 49 ls []) := by
  intro f
  induction f with
  | zero =>
    intro q5 q0 q1 q2 q3 q4 s0 st' r h
    cases h
  | succ f ih =>
    intro q5 q0 q1 q2 q3 q4 s0 st' r h H locs ls hP hS hl
    rw [f_X3_fail_L49] at h
    refine lv_iload S.1 S.2.1 dX3_fail_49 (lv_at hl 0 rfl) ?_
    refine lv_iconst (v := 3) S.1 S.2.1 dX3_fail_51 (by decide) ?_
    refine lv_icmp_ge (tgt := 73) S.1 S.2.1 dX3_fail_52 (by decide) (fun c30 => ?_) (fun c30 => ?_)
    · replace h := m_t c30 h
      obtain ⟨h1, h2⟩ := m_fin h; subst h1; subst h2
      exact m_vret S hr hlk hK hP hS (by decide +kernel) (by decide +kernel) dX3_fail_73
    · replace h := m_f c30 h
      refine lv_aload_n S.1 S.2.1 dX3_fail_55 rfl (lv_at hl 1 rfl) ?_
      obtain ⟨r31, e32, h⟩ := m_bs h
      refine m_get (ci := 3) (k := 22) (T := TX3) (N := 25) S (inX3 _) hK hP (m_gR_s e32) rfl (by decide) (S.2.2.2.2 (.fieldLink RX3 57 "RuleHouse2Model" "has" "[Z") (m_mem (by decide +kernel))) rfl dX3_fail_56 ?_
      refine lv_iconst (v := 3) S.1 S.2.1 dX3_fail_59 (by decide) ?_
      refine lv_iload_n S.1 S.2.1 dX3_fail_60 rfl (lv_at hl 2 rfl) ?_
      refine lv_imul S.1 S.2.1 dX3_fail_61 ?_
      refine lv_iload S.1 S.2.1 dX3_fail_62 (lv_at hl 0 rfl) ?_
      refine lv_iadd S.1 S.2.1 dX3_fail_64 ?_
      refine lv_iconst (v := 0) S.1 S.2.1 dX3_fail_65 (by decide) ?_
      obtain ⟨a33, ea, g⟩ := m_bs h; clear h; subst ea; have h := g; clear g
      obtain ⟨s34, e35, h⟩ := m_bs h
      refine m_zast (t := 6) S hK hP hS e35 (by decide) rfl (by decide) dX3_fail_66 (fun H locs hP hS => ?_)
      refine lv_iinc (v := q5 + 1) (lv' := [(5, .int (q5 + 1)), (0, .ref q0), (1, .int q1), (2, .int q2), (3, .int q3), (4, .int q4)]) S.1 S.2.1 dX3_fail_67 hl (k := 0) rfl rfl (by decide) (by first | rfl | simp [m_rfc, m_catI, m_catL, m_catA]) (fun ls hl => ?_)
      refine lv_goto (tgt := 49) S.1 S.2.1 dX3_fail_70 (by decide) ?_
      exact ih (q5 + 1) q0 q1 q2 q3 q4 _ _ _ h _ _ _ hP hS (lv_sub hl [0, 1, 2, 3, 4, 5] rfl)
set_option maxHeartbeats 4000000 in
set_option maxRecDepth 100000 in
theorem c_X3_fail (l : Launch) (D : va_G) (tc : Nat → ClassId) (b : Nat) (t0 : Nat) (p1 : Int32) (p2 : Int32) (p3 : Int32) (p4 : Int32) (s0 st' : MS) (r : Unit) (h : f_X3_fail t0 p1 p2 p3 p4 s0 = some (r, st')) : Met l yX3_fail wsX3_fail ({ frames := 0, cells := 0, slots := 0, locals := 0 }) (m_Pc D vwCl (m_tys tc) b s0 [.ref t0, .int p1, .int p2, .int p3, .int p4]) (m_Q D vwCl (m_tys tc) b none st') 0 0 (m_A b) := by
  unfold f_X3_fail at h
  refine m_met (cc := cX3_fail) (maxL := 6) (ret := none) (by decide) rfl (by first | exact Nat.le_of_ble_eq_true rfl | simp [lg_sl, m_rfc, m_catI, m_catL, m_catA]) ?_
  intro p e s m below meth c ls S hr hlk hnm hK hP hl hS
  replace hl : lv_has ls 6 [(0, .ref t0), (1, .int p1), (2, .int p2), (3, .int p3), (4, .int p4)] := by first | exact hl | simpa [lv_args, m_rfc, m_catI, m_catL, m_catA] using hl
  refine lv_aload_n S.1 S.2.1 dX3_fail_0 rfl (lv_at hl 0 rfl) ?_
  obtain ⟨r1, e2, h⟩ := m_bs h
  refine m_get (ci := 3) (k := 14) (T := TX3) (N := 25) S (inX3 _) hK hP (m_gR_s e2) rfl (by decide) (S.2.2.2.2 (.fieldLink RX3 33 "RuleHouse2Model" "failure" "[I") (m_mem (by decide +kernel))) rfl dX3_fail_1 ?_
  refine lv_iload_n S.1 S.2.1 dX3_fail_4 rfl (lv_at hl 1 rfl) ?_
  refine lv_iload_n S.1 S.2.1 dX3_fail_5 rfl (lv_at hl 2 rfl) ?_
  obtain ⟨a3, ea, g⟩ := m_bs h; clear h; subst ea; have h := g; clear g
  obtain ⟨s4, e5, h⟩ := m_bs h
  refine m_iast (t := 5) S hK hP hS e5 (by decide) rfl dX3_fail_6 (fun H locs hP hS => ?_)
  refine lv_aload_n S.1 S.2.1 dX3_fail_7 rfl (lv_at hl 0 rfl) ?_
  obtain ⟨r6, e7, h⟩ := m_bs h
  refine m_get (ci := 3) (k := 15) (T := TX3) (N := 25) S (inX3 _) hK hP (m_gR_s e7) rfl (by decide) (S.2.2.2.2 (.fieldLink RX3 36 "RuleHouse2Model" "bit" "[I") (m_mem (by decide +kernel))) rfl dX3_fail_8 ?_
  refine lv_iload_n S.1 S.2.1 dX3_fail_11 rfl (lv_at hl 1 rfl) ?_
  refine lv_iload_n S.1 S.2.1 dX3_fail_12 rfl (lv_at hl 3 rfl) ?_
  obtain ⟨a8, ea, g⟩ := m_bs h; clear h; subst ea; have h := g; clear g
  obtain ⟨s9, e10, h⟩ := m_bs h
  refine m_iast (t := 5) S hK hP hS e10 (by decide) rfl dX3_fail_13 (fun H locs hP hS => ?_)
  refine lv_aload_n S.1 S.2.1 dX3_fail_14 rfl (lv_at hl 0 rfl) ?_
  obtain ⟨r11, e12, h⟩ := m_bs h
  refine m_get (ci := 3) (k := 16) (T := TX3) (N := 25) S (inX3 _) hK hP (m_gR_s e12) rfl (by decide) (S.2.2.2.2 (.fieldLink RX3 39 "RuleHouse2Model" "began" "[I") (m_mem (by decide +kernel))) rfl dX3_fail_15 ?_
  refine lv_iload_n S.1 S.2.1 dX3_fail_18 rfl (lv_at hl 1 rfl) ?_
  refine lv_iload S.1 S.2.1 dX3_fail_19 (lv_at hl 4 rfl) ?_
  refine lv_iconst (v := 1) S.1 S.2.1 dX3_fail_21 (by decide) ?_
  refine lv_iadd S.1 S.2.1 dX3_fail_22 ?_
  obtain ⟨a13, ea, g⟩ := m_bs h; clear h; subst ea; have h := g; clear g
  obtain ⟨s14, e15, h⟩ := m_bs h
  refine m_iast (t := 5) S hK hP hS e15 (by decide) rfl dX3_fail_23 (fun H locs hP hS => ?_)
  refine lv_aload_n S.1 S.2.1 dX3_fail_24 rfl (lv_at hl 0 rfl) ?_
  refine lv_dup S.1 S.2.1 dX3_fail_25 rfl ?_
  obtain ⟨x16, e17, h⟩ := m_bs h
  refine m_get (ci := 3) (k := 5) (T := TX3) (N := 25) S (inX3 _) hK hP (m_gI_s e17) rfl (by decide) (S.2.2.2.2 (.fieldLink RX3 102 "RuleHouse2Model" "actions" "I") (m_mem (by decide +kernel))) rfl dX3_fail_26 ?_
  refine lv_aload_n S.1 S.2.1 dX3_fail_29 rfl (lv_at hl 0 rfl) ?_
  obtain ⟨r18, e19, h⟩ := m_bs h
  refine m_get (ci := 3) (k := 17) (T := TX3) (N := 25) S (inX3 _) hK hP (m_gR_s e19) rfl (by decide) (S.2.2.2.2 (.fieldLink RX3 42 "RuleHouse2Model" "mine" "[I") (m_mem (by decide +kernel))) rfl dX3_fail_30 ?_
  refine lv_iload_n S.1 S.2.1 dX3_fail_33 rfl (lv_at hl 1 rfl) ?_
  obtain ⟨a20, ea, g⟩ := m_bs h; clear h; subst ea; have h := g; clear g
  obtain ⟨x21, e22, h⟩ := m_bs h
  refine m_iald (t := 5) S hK hP (m_aI_s e22) rfl dX3_fail_34 ?_
  refine lv_isub S.1 S.2.1 dX3_fail_35 ?_
  obtain ⟨s23, e24, h⟩ := m_bs h
  refine m_put (ci := 3) (k := 5) (T := TX3) (N := 25) (v := .int (x16 - x21)) (ty := .int) S (inX3 _) tyX3 tX3 nX3 hK hP hS e24 rfl (by decide) (S.2.2.2.2 (.fieldLink RX3 102 "RuleHouse2Model" "actions" "I") (m_mem (by decide +kernel))) rfl rfl (by decide +kernel) rfl rfl dX3_fail_36 (fun H locs hP hS => ?_)
  refine lv_aload_n S.1 S.2.1 dX3_fail_39 rfl (lv_at hl 0 rfl) ?_
  obtain ⟨r25, e26, h⟩ := m_bs h
  refine m_get (ci := 3) (k := 17) (T := TX3) (N := 25) S (inX3 _) hK hP (m_gR_s e26) rfl (by decide) (S.2.2.2.2 (.fieldLink RX3 42 "RuleHouse2Model" "mine" "[I") (m_mem (by decide +kernel))) rfl dX3_fail_40 ?_
  refine lv_iload_n S.1 S.2.1 dX3_fail_43 rfl (lv_at hl 1 rfl) ?_
  refine lv_iconst (v := 0) S.1 S.2.1 dX3_fail_44 (by decide) ?_
  obtain ⟨a27, ea, g⟩ := m_bs h; clear h; subst ea; have h := g; clear g
  obtain ⟨s28, e29, h⟩ := m_bs h
  refine m_iast (t := 5) S hK hP hS e29 (by decide) rfl dX3_fail_45 (fun H locs hP hS => ?_)
  refine lv_iconst (v := 0) S.1 S.2.1 dX3_fail_46 (by decide) ?_
  refine lv_istore (i := 5) (lv' := [(5, .int 0), (0, .ref t0), (1, .int p1), (2, .int p2), (3, .int p3), (4, .int p4)]) S.1 S.2.1 dX3_fail_47 hl (by decide) (by first | rfl | simp [m_rfc, m_catI, m_catL, m_catA]) (fun ls hl => ?_)
  exact w_X3_fail_L49 D tc b S hr hlk hK 64 0 t0 p1 p2 p3 p4 _ _ _ h _ _ _ hP hS (lv_sub hl [0, 1, 2, 3, 4, 5] rfl)

def f_X3_give (t0 : Nat) (p1 : Int32) (p2 : Int32) (p3 : Int32) (s0 : MS) : Option (Unit × MS) :=
  (m_gR s0 3 t0 20).bind fun r1 =>
  r1.bind fun a3 =>
  (m_ap s0 5 a3 ((3 * p1) + p2) (.int p3)).bind fun s4 =>
  (m_gR s4 3 t0 22).bind fun r6 =>
  r6.bind fun a8 =>
  (m_ap s4 6 a8 ((3 * p1) + p2) (.int 1)).bind fun s9 =>
  some ((), s9)
set_option maxHeartbeats 4000000 in
set_option maxRecDepth 100000 in
theorem c_X3_give (l : Launch) (D : va_G) (tc : Nat → ClassId) (b : Nat) (t0 : Nat) (p1 : Int32) (p2 : Int32) (p3 : Int32) (s0 st' : MS) (r : Unit) (h : f_X3_give t0 p1 p2 p3 s0 = some (r, st')) : Met l yX3_give wsX3_give ({ frames := 0, cells := 0, slots := 0, locals := 0 }) (m_Pc D vwCl (m_tys tc) b s0 [.ref t0, .int p1, .int p2, .int p3]) (m_Q D vwCl (m_tys tc) b none st') 0 0 (m_A b) := by
  unfold f_X3_give at h
  refine m_met (cc := cX3_give) (maxL := 4) (ret := none) (by decide) rfl (by first | exact Nat.le_of_ble_eq_true rfl | simp [lg_sl, m_rfc, m_catI, m_catL, m_catA]) ?_
  intro p e s m below meth c ls S hr hlk hnm hK hP hl hS
  replace hl : lv_has ls 4 [(0, .ref t0), (1, .int p1), (2, .int p2), (3, .int p3)] := by first | exact hl | simpa [lv_args, m_rfc, m_catI, m_catL, m_catA] using hl
  refine lv_aload_n S.1 S.2.1 dX3_give_0 rfl (lv_at hl 0 rfl) ?_
  obtain ⟨r1, e2, h⟩ := m_bs h
  refine m_get (ci := 3) (k := 20) (T := TX3) (N := 25) S (inX3 _) hK hP (m_gR_s e2) rfl (by decide) (S.2.2.2.2 (.fieldLink RX3 51 "RuleHouse2Model" "provider" "[I") (m_mem (by decide +kernel))) rfl dX3_give_1 ?_
  refine lv_iconst (v := 3) S.1 S.2.1 dX3_give_4 (by decide) ?_
  refine lv_iload_n S.1 S.2.1 dX3_give_5 rfl (lv_at hl 1 rfl) ?_
  refine lv_imul S.1 S.2.1 dX3_give_6 ?_
  refine lv_iload_n S.1 S.2.1 dX3_give_7 rfl (lv_at hl 2 rfl) ?_
  refine lv_iadd S.1 S.2.1 dX3_give_8 ?_
  refine lv_iload_n S.1 S.2.1 dX3_give_9 rfl (lv_at hl 3 rfl) ?_
  obtain ⟨a3, ea, g⟩ := m_bs h; clear h; subst ea; have h := g; clear g
  obtain ⟨s4, e5, h⟩ := m_bs h
  refine m_iast (t := 5) S hK hP hS e5 (by decide) rfl dX3_give_10 (fun H locs hP hS => ?_)
  refine lv_aload_n S.1 S.2.1 dX3_give_11 rfl (lv_at hl 0 rfl) ?_
  obtain ⟨r6, e7, h⟩ := m_bs h
  refine m_get (ci := 3) (k := 22) (T := TX3) (N := 25) S (inX3 _) hK hP (m_gR_s e7) rfl (by decide) (S.2.2.2.2 (.fieldLink RX3 57 "RuleHouse2Model" "has" "[Z") (m_mem (by decide +kernel))) rfl dX3_give_12 ?_
  refine lv_iconst (v := 3) S.1 S.2.1 dX3_give_15 (by decide) ?_
  refine lv_iload_n S.1 S.2.1 dX3_give_16 rfl (lv_at hl 1 rfl) ?_
  refine lv_imul S.1 S.2.1 dX3_give_17 ?_
  refine lv_iload_n S.1 S.2.1 dX3_give_18 rfl (lv_at hl 2 rfl) ?_
  refine lv_iadd S.1 S.2.1 dX3_give_19 ?_
  refine lv_iconst (v := 1) S.1 S.2.1 dX3_give_20 (by decide) ?_
  obtain ⟨a8, ea, g⟩ := m_bs h; clear h; subst ea; have h := g; clear g
  obtain ⟨s9, e10, h⟩ := m_bs h
  refine m_zast (t := 6) S hK hP hS e10 (by decide) rfl (by decide) dX3_give_21 (fun H locs hP hS => ?_)
  obtain ⟨h1, h2⟩ := m_fin h; subst h1; subst h2
  exact m_vret S hr hlk hK hP hS (by decide +kernel) (by decide +kernel) dX3_give_22

def f_X3_step (t0 : Nat) (p1 : Int32) (s0 : MS) : Option (Int32 × MS) :=
  (m_gR s0 3 t0 18).bind fun r1 =>
  r1.bind fun a3 =>
  (m_aI s0 5 a3 p1).bind fun x4 =>
  (m_gI s0 3 t0 1).bind fun x6 =>
  if x4 = x6 then
    some (0, s0)
  else
    (m_gR s0 3 t0 18).bind fun r9 =>
    r9.bind fun a11 =>
    (m_aI s0 5 a11 p1).bind fun x12 =>
    (m_ap s0 5 a11 p1 (.int (x12 + 1))).bind fun s14 =>
    some (1, s14)
set_option maxHeartbeats 4000000 in
set_option maxRecDepth 100000 in
theorem c_X3_step (l : Launch) (D : va_G) (tc : Nat → ClassId) (b : Nat) (t0 : Nat) (p1 : Int32) (s0 st' : MS) (r : Int32) (h : f_X3_step t0 p1 s0 = some (r, st')) : Met l yX3_step wsX3_step ({ frames := 0, cells := 0, slots := 0, locals := 0 }) (m_Pc D vwCl (m_tys tc) b s0 [.ref t0, .int p1]) (m_Q D vwCl (m_tys tc) b (some (.int r)) st') 0 0 (m_A b) := by
  unfold f_X3_step at h
  refine m_met (cc := cX3_step) (maxL := 2) (ret := (some .boolean)) (by decide) rfl (by first | exact Nat.le_of_ble_eq_true rfl | simp [lg_sl, m_rfc, m_catI, m_catL, m_catA]) ?_
  intro p e s m below meth c ls S hr hlk hnm hK hP hl hS
  replace hl : lv_has ls 2 [(0, .ref t0), (1, .int p1)] := by first | exact hl | simpa [lv_args, m_rfc, m_catI, m_catL, m_catA] using hl
  refine lv_aload_n S.1 S.2.1 dX3_step_0 rfl (lv_at hl 0 rfl) ?_
  obtain ⟨r1, e2, h⟩ := m_bs h
  refine m_get (ci := 3) (k := 18) (T := TX3) (N := 25) S (inX3 _) hK hP (m_gR_s e2) rfl (by decide) (S.2.2.2.2 (.fieldLink RX3 45 "RuleHouse2Model" "steps" "[I") (m_mem (by decide +kernel))) rfl dX3_step_1 ?_
  refine lv_iload_n S.1 S.2.1 dX3_step_4 rfl (lv_at hl 1 rfl) ?_
  obtain ⟨a3, ea, g⟩ := m_bs h; clear h; subst ea; have h := g; clear g
  obtain ⟨x4, e5, h⟩ := m_bs h
  refine m_iald (t := 5) S hK hP (m_aI_s e5) rfl dX3_step_5 ?_
  refine lv_aload_n S.1 S.2.1 dX3_step_6 rfl (lv_at hl 0 rfl) ?_
  obtain ⟨x6, e7, h⟩ := m_bs h
  refine m_get (ci := 3) (k := 1) (T := TX3) (N := 25) S (inX3 _) hK hP (m_gI_s e7) rfl (by decide) (S.2.2.2.2 (.fieldLink RX3 67 "RuleHouse2Model" "most" "I") (m_mem (by decide +kernel))) rfl dX3_step_7 ?_
  refine lv_icmp_ne (tgt := 15) S.1 S.2.1 dX3_step_10 (by decide) (fun c8 => ?_) (fun c8 => ?_)
  · replace h := m_f c8 h
    refine lv_aload_n S.1 S.2.1 dX3_step_15 rfl (lv_at hl 0 rfl) ?_
    obtain ⟨r9, e10, h⟩ := m_bs h
    refine m_get (ci := 3) (k := 18) (T := TX3) (N := 25) S (inX3 _) hK hP (m_gR_s e10) rfl (by decide) (S.2.2.2.2 (.fieldLink RX3 45 "RuleHouse2Model" "steps" "[I") (m_mem (by decide +kernel))) rfl dX3_step_16 ?_
    refine lv_iload_n S.1 S.2.1 dX3_step_19 rfl (lv_at hl 1 rfl) ?_
    refine lv_dup2_11 S.1 S.2.1 dX3_step_20 rfl (m_rfc _) ?_
    obtain ⟨a11, ea, g⟩ := m_bs h; clear h; subst ea; have h := g; clear g
    obtain ⟨x12, e13, h⟩ := m_bs h
    refine m_iald (t := 5) S hK hP (m_aI_s e13) rfl dX3_step_21 ?_
    refine lv_iconst (v := 1) S.1 S.2.1 dX3_step_22 (by decide) ?_
    refine lv_iadd S.1 S.2.1 dX3_step_23 ?_
    obtain ⟨s14, e15, h⟩ := m_bs h
    refine m_iast (t := 5) S hK hP hS e15 (by decide) rfl dX3_step_24 (fun H locs hP hS => ?_)
    refine lv_iconst (v := 1) S.1 S.2.1 dX3_step_25 (by decide) ?_
    obtain ⟨h1, h2⟩ := m_fin h; subst h1; subst h2
    exact m_zret S hr hlk hK hP hS (by decide) (by decide +kernel) (by decide +kernel) dX3_step_26
  · replace h := m_t c8 h
    refine lv_iconst (v := 0) S.1 S.2.1 dX3_step_13 (by decide) ?_
    obtain ⟨h1, h2⟩ := m_fin h; subst h1; subst h2
    exact m_zret S hr hlk hK hP hS (by decide) (by decide +kernel) (by decide +kernel) dX3_step_14

def f_X3_act_L2 : Nat → Int32 → Nat → Int32 → Int32 → MS → Option (Int32 × MS)
  | 0, _, _, _, _, _ => none
  | f + 1, q3, q0, q1, q2, s0 =>
    if q2 ≤ q3 then
      some (0, s0)
    else
      (m_is s0 3 q0).bind fun _ =>
      m_b (f_X3_step q0 q1 s0) fun x2 s3 =>
      if x2 = 0 then
        some (5, s3)
      else
        (m_gI s3 3 q0 5).bind fun x7 =>
        if x7 = 400 then
          some (7, s3)
        else
          (m_gR s3 3 q0 23).bind fun r10 =>
          (m_gI s3 3 q0 5).bind fun x12 =>
          r10.bind fun a14 =>
          (m_ap s3 5 a14 x12 (.int q1)).bind fun s15 =>
          (m_gR s15 3 q0 24).bind fun r17 =>
          (m_gI s15 3 q0 5).bind fun x19 =>
          (m_gR s15 3 q0 17).bind fun r21 =>
          r21.bind fun a23 =>
          (m_aI s15 5 a23 q1).bind fun x24 =>
          r17.bind fun a26 =>
          (m_ap s15 5 a26 x19 (.int x24)).bind fun s27 =>
          (m_gR s27 3 q0 17).bind fun r29 =>
          r29.bind fun a31 =>
          (m_aI s27 5 a31 q1).bind fun x32 =>
          (m_ap s27 5 a31 q1 (.int (x32 + 1))).bind fun s34 =>
          (m_gI s34 3 q0 5).bind fun x36 =>
          (m_p s34 3 q0 5 (.int (x36 + 1))).bind fun s38 =>
          f_X3_act_L2 f (q3 + 1) q0 q1 q2 s38
def f_X3_act (t0 : Nat) (p1 : Int32) (p2 : Int32) (s0 : MS) : Option (Int32 × MS) :=
  f_X3_act_L2 64 0 t0 p1 p2 s0
set_option maxHeartbeats 4000000 in
set_option maxRecDepth 100000 in
theorem w_X3_act_L2 {p : Program} {l : Launch} {e : Env} {s : State} {m : MethodId} {args : Array Value} {below : List Frame} {meth : Method} {c : Code} (D : va_G) (tc : Nat → ClassId) (b : Nat) (S : CallFix p m c cX3_act 4 s args wsX3_act RX3) (hr : meth.sig.returnType = (some .int)) (hlk : meth.locks = false) (hK : va_K D vwCl (m_tys tc) s) :
    ∀ (f : Nat) (q3 : Int32) (q0 : Nat) (q1 : Int32) (q2 : Int32) (s0 st' : MS) (r : Int32) (h : f_X3_act_L2 f q3 q0 q1 q2 s0 = some (r, st')) (H : Heap) (locs : List Loc) (ls : Array Slot) (hP : mw D vwCl (m_tys tc) b s0 H) (hS : va_S (m_A b) s.heap H locs) (hl : lv_has ls 4 [(3, .int q3), (0, .ref q0), (1, .int q1), (2, .int q2)]), W p l e { frames := 1, cells := 0, slots := 0, locals := 21 } s m args below meth c H locs 0 0 (MQ below (m_Q D vwCl (m_tys tc) b (some (.int r)) st') args s 0 0 (m_A b)) (F0 m 2 ls []) := by
  intro f
  induction f with
  | zero =>
    intro q3 q0 q1 q2 s0 st' r h
    cases h
  | succ f ih =>
    intro q3 q0 q1 q2 s0 st' r h H locs ls hP hS hl
    rw [f_X3_act_L2] at h
    refine lv_iload_n S.1 S.2.1 dX3_act_2 rfl (lv_at hl 0 rfl) ?_
    refine lv_iload_n S.1 S.2.1 dX3_act_3 rfl (lv_at hl 3 rfl) ?_
    refine lv_icmp_ge (tgt := 81) S.1 S.2.1 dX3_act_4 (by decide) (fun c1 => ?_) (fun c1 => ?_)
    · replace h := m_t c1 h
      refine lv_iconst (v := 0) S.1 S.2.1 dX3_act_81 (by decide) ?_
      obtain ⟨h1, h2⟩ := m_fin h; subst h1; subst h2
      exact m_iret S hr hlk hK hP hS (by decide +kernel) (by decide +kernel) dX3_act_82
    · replace h := m_f c1 h
      refine lv_aload_n S.1 S.2.1 dX3_act_7 rfl (lv_at hl 1 rfl) ?_
      refine lv_iload_n S.1 S.2.1 dX3_act_8 rfl (lv_at hl 2 rfl) ?_
      obtain ⟨_, k5, h⟩ := m_bs h
      obtain ⟨x2, s3, e4, h⟩ := m_b_s h
      refine m_calli (va_runV (As := [.int q1]) (rest := []) S (c_X3_step l D tc b q0 q1 _ _ _ e4) (cwV 1 S.2.2.2.2 (m_wV kX3_step (by decide +kernel)) rfl rfl rfl (by decide +kernel) ⟨by decide +kernel, by decide +kernel⟩) (m_preV hK hP (m_is_s k5) rfl) rfl rfl hl.1 rfl (lv_room (by first | decide | simp [m_rfc, m_catI, m_catL, m_catA])) dX3_act_9 ⟨by decide +kernel, by decide +kernel⟩) hS (fun H locs hP hS => ?_)
      refine lv_if_ne (tgt := 17) S.1 S.2.1 dX3_act_12 (by decide) (fun c6 => ?_) (fun c6 => ?_)
      · replace h := m_f c6 h
        refine lv_aload_n S.1 S.2.1 dX3_act_17 rfl (lv_at hl 1 rfl) ?_
        obtain ⟨x7, e8, h⟩ := m_bs h
        refine m_get (ci := 3) (k := 5) (T := TX3) (N := 25) S (inX3 _) hK hP (m_gI_s e8) rfl (by decide) (S.2.2.2.2 (.fieldLink RX3 102 "RuleHouse2Model" "actions" "I") (m_mem (by decide +kernel))) rfl dX3_act_18 ?_
        refine lv_sipush (v := 400) S.1 S.2.1 dX3_act_21 (by decide) ?_
        refine lv_icmp_ne (tgt := 30) S.1 S.2.1 dX3_act_24 (by decide) (fun c9 => ?_) (fun c9 => ?_)
        · replace h := m_f c9 h
          refine lv_aload_n S.1 S.2.1 dX3_act_30 rfl (lv_at hl 1 rfl) ?_
          obtain ⟨r10, e11, h⟩ := m_bs h
          refine m_get (ci := 3) (k := 23) (T := TX3) (N := 25) S (inX3 _) hK hP (m_gR_s e11) rfl (by decide) (S.2.2.2.2 (.fieldLink RX3 60 "RuleHouse2Model" "of" "[I") (m_mem (by decide +kernel))) rfl dX3_act_31 ?_
          refine lv_aload_n S.1 S.2.1 dX3_act_34 rfl (lv_at hl 1 rfl) ?_
          obtain ⟨x12, e13, h⟩ := m_bs h
          refine m_get (ci := 3) (k := 5) (T := TX3) (N := 25) S (inX3 _) hK hP (m_gI_s e13) rfl (by decide) (S.2.2.2.2 (.fieldLink RX3 102 "RuleHouse2Model" "actions" "I") (m_mem (by decide +kernel))) rfl dX3_act_35 ?_
          refine lv_iload_n S.1 S.2.1 dX3_act_38 rfl (lv_at hl 2 rfl) ?_
          obtain ⟨a14, ea, g⟩ := m_bs h; clear h; subst ea; have h := g; clear g
          obtain ⟨s15, e16, h⟩ := m_bs h
          refine m_iast (t := 5) S hK hP hS e16 (by decide) rfl dX3_act_39 (fun H locs hP hS => ?_)
          refine lv_aload_n S.1 S.2.1 dX3_act_40 rfl (lv_at hl 1 rfl) ?_
          obtain ⟨r17, e18, h⟩ := m_bs h
          refine m_get (ci := 3) (k := 24) (T := TX3) (N := 25) S (inX3 _) hK hP (m_gR_s e18) rfl (by decide) (S.2.2.2.2 (.fieldLink RX3 63 "RuleHouse2Model" "number" "[I") (m_mem (by decide +kernel))) rfl dX3_act_41 ?_
          refine lv_aload_n S.1 S.2.1 dX3_act_44 rfl (lv_at hl 1 rfl) ?_
          obtain ⟨x19, e20, h⟩ := m_bs h
          refine m_get (ci := 3) (k := 5) (T := TX3) (N := 25) S (inX3 _) hK hP (m_gI_s e20) rfl (by decide) (S.2.2.2.2 (.fieldLink RX3 102 "RuleHouse2Model" "actions" "I") (m_mem (by decide +kernel))) rfl dX3_act_45 ?_
          refine lv_aload_n S.1 S.2.1 dX3_act_48 rfl (lv_at hl 1 rfl) ?_
          obtain ⟨r21, e22, h⟩ := m_bs h
          refine m_get (ci := 3) (k := 17) (T := TX3) (N := 25) S (inX3 _) hK hP (m_gR_s e22) rfl (by decide) (S.2.2.2.2 (.fieldLink RX3 42 "RuleHouse2Model" "mine" "[I") (m_mem (by decide +kernel))) rfl dX3_act_49 ?_
          refine lv_iload_n S.1 S.2.1 dX3_act_52 rfl (lv_at hl 2 rfl) ?_
          obtain ⟨a23, ea, g⟩ := m_bs h; clear h; subst ea; have h := g; clear g
          obtain ⟨x24, e25, h⟩ := m_bs h
          refine m_iald (t := 5) S hK hP (m_aI_s e25) rfl dX3_act_53 ?_
          obtain ⟨a26, ea, g⟩ := m_bs h; clear h; subst ea; have h := g; clear g
          obtain ⟨s27, e28, h⟩ := m_bs h
          refine m_iast (t := 5) S hK hP hS e28 (by decide) rfl dX3_act_54 (fun H locs hP hS => ?_)
          refine lv_aload_n S.1 S.2.1 dX3_act_55 rfl (lv_at hl 1 rfl) ?_
          obtain ⟨r29, e30, h⟩ := m_bs h
          refine m_get (ci := 3) (k := 17) (T := TX3) (N := 25) S (inX3 _) hK hP (m_gR_s e30) rfl (by decide) (S.2.2.2.2 (.fieldLink RX3 42 "RuleHouse2Model" "mine" "[I") (m_mem (by decide +kernel))) rfl dX3_act_56 ?_
          refine lv_iload_n S.1 S.2.1 dX3_act_59 rfl (lv_at hl 2 rfl) ?_
          refine lv_dup2_11 S.1 S.2.1 dX3_act_60 rfl (m_rfc _) ?_
          obtain ⟨a31, ea, g⟩ := m_bs h; clear h; subst ea; have h := g; clear g
          obtain ⟨x32, e33, h⟩ := m_bs h
          refine m_iald (t := 5) S hK hP (m_aI_s e33) rfl dX3_act_61 ?_
          refine lv_iconst (v := 1) S.1 S.2.1 dX3_act_62 (by decide) ?_
          refine lv_iadd S.1 S.2.1 dX3_act_63 ?_
          obtain ⟨s34, e35, h⟩ := m_bs h
          refine m_iast (t := 5) S hK hP hS e35 (by decide) rfl dX3_act_64 (fun H locs hP hS => ?_)
          refine lv_aload_n S.1 S.2.1 dX3_act_65 rfl (lv_at hl 1 rfl) ?_
          refine lv_dup S.1 S.2.1 dX3_act_66 rfl ?_
          obtain ⟨x36, e37, h⟩ := m_bs h
          refine m_get (ci := 3) (k := 5) (T := TX3) (N := 25) S (inX3 _) hK hP (m_gI_s e37) rfl (by decide) (S.2.2.2.2 (.fieldLink RX3 102 "RuleHouse2Model" "actions" "I") (m_mem (by decide +kernel))) rfl dX3_act_67 ?_
          refine lv_iconst (v := 1) S.1 S.2.1 dX3_act_70 (by decide) ?_
          refine lv_iadd S.1 S.2.1 dX3_act_71 ?_
          obtain ⟨s38, e39, h⟩ := m_bs h
          refine m_put (ci := 3) (k := 5) (T := TX3) (N := 25) (v := .int (x36 + 1)) (ty := .int) S (inX3 _) tyX3 tX3 nX3 hK hP hS e39 rfl (by decide) (S.2.2.2.2 (.fieldLink RX3 102 "RuleHouse2Model" "actions" "I") (m_mem (by decide +kernel))) rfl rfl (by decide +kernel) rfl rfl dX3_act_72 (fun H locs hP hS => ?_)
          refine lv_iinc (v := q3 + 1) (lv' := [(3, .int (q3 + 1)), (0, .ref q0), (1, .int q1), (2, .int q2)]) S.1 S.2.1 dX3_act_75 hl (k := 0) rfl rfl (by decide) (by first | rfl | simp [m_rfc, m_catI, m_catL, m_catA]) (fun ls hl => ?_)
          refine lv_goto (tgt := 2) S.1 S.2.1 dX3_act_78 (by decide) ?_
          exact ih (q3 + 1) q0 q1 q2 _ _ _ h _ _ _ hP hS (lv_sub hl [0, 1, 2, 3] rfl)
        · replace h := m_t c9 h
          refine lv_bipush (v := 7) S.1 S.2.1 dX3_act_27 (by decide) ?_
          obtain ⟨h1, h2⟩ := m_fin h; subst h1; subst h2
          exact m_iret S hr hlk hK hP hS (by decide +kernel) (by decide +kernel) dX3_act_29
      · replace h := m_t c6 h
        refine lv_iconst (v := 5) S.1 S.2.1 dX3_act_15 (by decide) ?_
        obtain ⟨h1, h2⟩ := m_fin h; subst h1; subst h2
        exact m_iret S hr hlk hK hP hS (by decide +kernel) (by decide +kernel) dX3_act_16
set_option maxHeartbeats 4000000 in
set_option maxRecDepth 100000 in
theorem c_X3_act (l : Launch) (D : va_G) (tc : Nat → ClassId) (b : Nat) (t0 : Nat) (p1 : Int32) (p2 : Int32) (s0 st' : MS) (r : Int32) (h : f_X3_act t0 p1 p2 s0 = some (r, st')) : Met l yX3_act wsX3_act ({ frames := 1, cells := 0, slots := 0, locals := 21 }) (m_Pc D vwCl (m_tys tc) b s0 [.ref t0, .int p1, .int p2]) (m_Q D vwCl (m_tys tc) b (some (.int r)) st') 0 0 (m_A b) := by
  unfold f_X3_act at h
  refine m_met (cc := cX3_act) (maxL := 4) (ret := (some .int)) (by decide) rfl (by first | exact Nat.le_of_ble_eq_true rfl | simp [lg_sl, m_rfc, m_catI, m_catL, m_catA]) ?_
  intro p e s m below meth c ls S hr hlk hnm hK hP hl hS
  replace hl : lv_has ls 4 [(0, .ref t0), (1, .int p1), (2, .int p2)] := by first | exact hl | simpa [lv_args, m_rfc, m_catI, m_catL, m_catA] using hl
  refine lv_iconst (v := 0) S.1 S.2.1 dX3_act_0 (by decide) ?_
  refine lv_istore_n (i := 3) (lv' := [(3, .int 0), (0, .ref t0), (1, .int p1), (2, .int p2)]) S.1 S.2.1 dX3_act_1 rfl hl (by decide) (by first | rfl | simp [m_rfc, m_catI, m_catL, m_catA]) (fun ls hl => ?_)
  exact w_X3_act_L2 D tc b S hr hlk hK 64 0 t0 p1 p2 _ _ _ h _ _ _ hP hS (lv_sub hl [0, 1, 2, 3] rfl)

def f_X3_deed (t0 : Nat) (p1 : Int32) (p2 : Int32) (p3 : Int32) (p4 : Int32) (s0 : MS) : Option (Int32 × MS) :=
  (m_gR s0 3 t0 13).bind fun r1 =>
  r1.bind fun a3 =>
  (m_aI s0 5 a3 (4 * p1)).bind fun x4 =>
  (m_gR s0 3 t0 13).bind fun r6 =>
  r6.bind fun a8 =>
  (m_aI s0 5 a8 ((4 * p1) + 1)).bind fun x9 =>
  if p2 = 1 then
    (m_gR s0 3 t0 8).bind fun r12 =>
    (m_gR s0 3 t0 12).bind fun r14 =>
    r14.bind fun a16 =>
    (m_aI s0 5 a16 p1).bind fun x17 =>
    r12.bind fun a19 =>
    (m_aI s0 5 a19 x17).bind fun x20 =>
    if (x20 &&& 1) = 1 then
      some (2, s0)
    else
      some (0, s0)
  else if p2 = 2 then
    (m_is s0 3 t0).bind fun _ =>
    m_b (f_X3_act t0 p1 x4 s0) fun x24 s25 =>
    some (x24, s25)
  else if p2 = 3 then
    if x9 = 0 then
      some (3, s0)
    else
      if x9 = (-1) then
        (m_is s0 3 t0).bind fun _ =>
        m_b (f_X3_give t0 p1 1 (-x4) s0) fun u36 s37 =>
        some (0, s37)
      else
        if (x9 : Int32) = 0 then none else
        (m_is s0 3 t0).bind fun _ =>
        m_b (f_X3_give t0 p1 1 (x4 / x9) s0) fun u32 s33 =>
        some (0, s33)
  else if p2 = 4 then
    if p4 < 0 then
      some (4, s0)
    else
      (m_gR s0 3 t0 22).bind fun r42 =>
      r42.bind fun a44 =>
      (m_aI s0 6 a44 (3 * p4)).bind fun x45 =>
      if x45 = 0 then
        some (4, s0)
      else
        (m_gR s0 3 t0 20).bind fun r48 =>
        r48.bind fun a50 =>
        (m_aI s0 5 a50 (3 * p4)).bind fun x51 =>
        (m_is s0 3 t0).bind fun _ =>
        m_b (f_X3_give t0 p1 0 (x51 + 1) s0) fun u53 s54 =>
        some (0, s54)
  else if p2 = 5 then
    (m_gR s0 3 t0 11).bind fun r58 =>
    r58.bind fun a60 =>
    (m_aL s0 7 a60 p3).bind fun l61 =>
    (m_ap s0 7 a60 p3 (.long (l61 + 1))).bind fun s63 =>
    (m_gR s63 3 t0 11).bind fun r65 =>
    r65.bind fun a67 =>
    (m_aL s63 7 a67 p3).bind fun l68 =>
    (m_is s63 3 t0).bind fun _ =>
    m_b (f_X3_give t0 p1 2 ((l68 : Int64).toInt32) s63) fun u70 s71 =>
    some (0, s71)
  else if p2 = 6 then
    (m_gR s0 3 t0 13).bind fun r75 =>
    r75.bind fun a77 =>
    (m_aI s0 5 a77 ((4 * p1) + 3)).bind fun x78 =>
    if x78 = 1 then
      (m_is s0 3 t0).bind fun _ =>
      m_b (f_X3_give t0 p1 0 (-x4) s0) fun u85 s86 =>
      some (0, s86)
    else
      (m_is s0 3 t0).bind fun _ =>
      m_b (f_X3_give t0 p1 0 x4 s0) fun u81 s82 =>
      some (0, s82)
  else if p2 = 7 then
    (m_gI s0 3 t0 6).bind fun x90 =>
    (m_gI s0 3 t0 6).bind fun x92 =>
    if 40 ≤ x92 then
      (m_p s0 3 t0 6 (.int (x90 + 0))).bind fun s95 =>
      some (0, s95)
    else
      (m_p s0 3 t0 6 (.int (x90 + 1))).bind fun s97 =>
      some (0, s97)
  else some (0, s0)
set_option maxHeartbeats 4000000 in
set_option maxRecDepth 100000 in
theorem c_X3_deed (l : Launch) (D : va_G) (tc : Nat → ClassId) (b : Nat) (t0 : Nat) (p1 : Int32) (p2 : Int32) (p3 : Int32) (p4 : Int32) (s0 st' : MS) (r : Int32) (h : f_X3_deed t0 p1 p2 p3 p4 s0 = some (r, st')) : Met l yX3_deed wsX3_deed ({ frames := 2, cells := 0, slots := 0, locals := 44 }) (m_Pc D vwCl (m_tys tc) b s0 [.ref t0, .int p1, .int p2, .int p3, .int p4]) (m_Q D vwCl (m_tys tc) b (some (.int r)) st') 0 0 (m_A b) := by
  unfold f_X3_deed at h
  refine m_met (cc := cX3_deed) (maxL := 7) (ret := (some .int)) (by decide) rfl (by first | exact Nat.le_of_ble_eq_true rfl | simp [lg_sl, m_rfc, m_catI, m_catL, m_catA]) ?_
  intro p e s m below meth c ls S hr hlk hnm hK hP hl hS
  replace hl : lv_has ls 7 [(0, .ref t0), (1, .int p1), (2, .int p2), (3, .int p3), (4, .int p4)] := by first | exact hl | simpa [lv_args, m_rfc, m_catI, m_catL, m_catA] using hl
  refine lv_aload_n S.1 S.2.1 dX3_deed_0 rfl (lv_at hl 0 rfl) ?_
  obtain ⟨r1, e2, h⟩ := m_bs h
  refine m_get (ci := 3) (k := 13) (T := TX3) (N := 25) S (inX3 _) hK hP (m_gR_s e2) rfl (by decide) (S.2.2.2.2 (.fieldLink RX3 30 "RuleHouse2Model" "attributes" "[I") (m_mem (by decide +kernel))) rfl dX3_deed_1 ?_
  refine lv_iconst (v := 4) S.1 S.2.1 dX3_deed_4 (by decide) ?_
  refine lv_iload_n S.1 S.2.1 dX3_deed_5 rfl (lv_at hl 1 rfl) ?_
  refine lv_imul S.1 S.2.1 dX3_deed_6 ?_
  obtain ⟨a3, ea, g⟩ := m_bs h; clear h; subst ea; have h := g; clear g
  obtain ⟨x4, e5, h⟩ := m_bs h
  refine m_iald (t := 5) S hK hP (m_aI_s e5) rfl dX3_deed_7 ?_
  refine lv_istore (i := 5) (lv' := [(5, .int x4), (0, .ref t0), (1, .int p1), (2, .int p2), (3, .int p3), (4, .int p4)]) S.1 S.2.1 dX3_deed_8 hl (by decide) (by first | rfl | simp [m_rfc, m_catI, m_catL, m_catA]) (fun ls hl => ?_)
  refine lv_aload_n S.1 S.2.1 dX3_deed_10 rfl (lv_at hl 1 rfl) ?_
  obtain ⟨r6, e7, h⟩ := m_bs h
  refine m_get (ci := 3) (k := 13) (T := TX3) (N := 25) S (inX3 _) hK hP (m_gR_s e7) rfl (by decide) (S.2.2.2.2 (.fieldLink RX3 30 "RuleHouse2Model" "attributes" "[I") (m_mem (by decide +kernel))) rfl dX3_deed_11 ?_
  refine lv_iconst (v := 4) S.1 S.2.1 dX3_deed_14 (by decide) ?_
  refine lv_iload_n S.1 S.2.1 dX3_deed_15 rfl (lv_at hl 2 rfl) ?_
  refine lv_imul S.1 S.2.1 dX3_deed_16 ?_
  refine lv_iconst (v := 1) S.1 S.2.1 dX3_deed_17 (by decide) ?_
  refine lv_iadd S.1 S.2.1 dX3_deed_18 ?_
  obtain ⟨a8, ea, g⟩ := m_bs h; clear h; subst ea; have h := g; clear g
  obtain ⟨x9, e10, h⟩ := m_bs h
  refine m_iald (t := 5) S hK hP (m_aI_s e10) rfl dX3_deed_19 ?_
  refine lv_istore (i := 6) (lv' := [(6, .int x9), (5, .int x4), (0, .ref t0), (1, .int p1), (2, .int p2), (3, .int p3), (4, .int p4)]) S.1 S.2.1 dX3_deed_20 hl (by decide) (by first | rfl | simp [m_rfc, m_catI, m_catL, m_catA]) (fun ls hl => ?_)
  refine lv_iload_n S.1 S.2.1 dX3_deed_22 rfl (lv_at hl 4 rfl) ?_
  by_cases c11 : p2 = 1
  · replace h := m_t c11 h
    refine lv_tableIn (tgt := 64) S.1 S.2.1 dX3_deed_23 (by rw [c11]; decide) (by rw [c11]; decide) (by rw [c11]; rfl) (by decide) ?_
    refine lv_aload_n S.1 S.2.1 dX3_deed_64 rfl (lv_at hl 2 rfl) ?_
    obtain ⟨r12, e13, h⟩ := m_bs h
    refine m_get (ci := 3) (k := 8) (T := TX3) (N := 25) S (inX3 _) hK hP (m_gR_s e13) rfl (by decide) (S.2.2.2.2 (.fieldLink RX3 13 "RuleHouse2Model" "does" "[I") (m_mem (by decide +kernel))) rfl dX3_deed_65 ?_
    refine lv_aload_n S.1 S.2.1 dX3_deed_68 rfl (lv_at hl 2 rfl) ?_
    obtain ⟨r14, e15, h⟩ := m_bs h
    refine m_get (ci := 3) (k := 12) (T := TX3) (N := 25) S (inX3 _) hK hP (m_gR_s e15) rfl (by decide) (S.2.2.2.2 (.fieldLink RX3 27 "RuleHouse2Model" "rule" "[I") (m_mem (by decide +kernel))) rfl dX3_deed_69 ?_
    refine lv_iload_n S.1 S.2.1 dX3_deed_72 rfl (lv_at hl 3 rfl) ?_
    obtain ⟨a16, ea, g⟩ := m_bs h; clear h; subst ea; have h := g; clear g
    obtain ⟨x17, e18, h⟩ := m_bs h
    refine m_iald (t := 5) S hK hP (m_aI_s e18) rfl dX3_deed_73 ?_
    obtain ⟨a19, ea, g⟩ := m_bs h; clear h; subst ea; have h := g; clear g
    obtain ⟨x20, e21, h⟩ := m_bs h
    refine m_iald (t := 5) S hK hP (m_aI_s e21) rfl dX3_deed_74 ?_
    refine lv_iconst (v := 1) S.1 S.2.1 dX3_deed_75 (by decide) ?_
    refine lv_iand S.1 S.2.1 dX3_deed_76 ?_
    refine lv_iconst (v := 1) S.1 S.2.1 dX3_deed_77 (by decide) ?_
    refine lv_icmp_ne (tgt := 85) S.1 S.2.1 dX3_deed_78 (by decide) (fun c22 => ?_) (fun c22 => ?_)
    · replace h := m_f c22 h
      refine lv_iconst (v := 0) S.1 S.2.1 dX3_deed_85 (by decide) ?_
      obtain ⟨h1, h2⟩ := m_fin h; subst h1; subst h2
      exact m_iret S hr hlk hK hP hS (by decide +kernel) (by decide +kernel) dX3_deed_86
    · replace h := m_t c22 h
      refine lv_iconst (v := 2) S.1 S.2.1 dX3_deed_81 (by decide) ?_
      refine lv_goto (tgt := 86) S.1 S.2.1 dX3_deed_82 (by decide) ?_
      obtain ⟨h1, h2⟩ := m_fin h; subst h1; subst h2
      exact m_iret S hr hlk hK hP hS (by decide +kernel) (by decide +kernel) dX3_deed_86
  replace h := m_f c11 h
  by_cases c23 : p2 = 2
  · replace h := m_t c23 h
    refine lv_tableIn (tgt := 87) S.1 S.2.1 dX3_deed_23 (by rw [c23]; decide) (by rw [c23]; decide) (by rw [c23]; rfl) (by decide) ?_
    refine lv_aload_n S.1 S.2.1 dX3_deed_87 rfl (lv_at hl 2 rfl) ?_
    refine lv_iload_n S.1 S.2.1 dX3_deed_88 rfl (lv_at hl 3 rfl) ?_
    refine lv_iload S.1 S.2.1 dX3_deed_89 (lv_at hl 1 rfl) ?_
    obtain ⟨_, k27, h⟩ := m_bs h
    obtain ⟨x24, s25, e26, h⟩ := m_b_s h
    refine m_calli (va_runV (As := [.int p1, .int x4]) (rest := []) S (c_X3_act l D tc b t0 p1 x4 _ _ _ e26) (cwV 2 S.2.2.2.2 (m_wV kX3_act (by decide +kernel)) rfl rfl rfl (by decide +kernel) ⟨by decide +kernel, by decide +kernel⟩) (m_preV hK hP (m_is_s k27) rfl) rfl rfl hl.1 rfl (lv_room (by first | decide | simp [m_rfc, m_catI, m_catL, m_catA])) dX3_deed_91 ⟨by decide +kernel, by decide +kernel⟩) hS (fun H locs hP hS => ?_)
    obtain ⟨h1, h2⟩ := m_fin h; subst h1; subst h2
    exact m_iret S hr hlk hK hP hS (by decide +kernel) (by decide +kernel) dX3_deed_94
  replace h := m_f c23 h
  by_cases c28 : p2 = 3
  · replace h := m_t c28 h
    refine lv_tableIn (tgt := 95) S.1 S.2.1 dX3_deed_23 (by rw [c28]; decide) (by rw [c28]; decide) (by rw [c28]; rfl) (by decide) ?_
    refine lv_iload S.1 S.2.1 dX3_deed_95 (lv_at hl 0 rfl) ?_
    refine lv_if_ne (tgt := 102) S.1 S.2.1 dX3_deed_97 (by decide) (fun c29 => ?_) (fun c29 => ?_)
    · replace h := m_f c29 h
      refine lv_aload_n S.1 S.2.1 dX3_deed_102 rfl (lv_at hl 2 rfl) ?_
      refine lv_iload_n S.1 S.2.1 dX3_deed_103 rfl (lv_at hl 3 rfl) ?_
      refine lv_iconst (v := 1) S.1 S.2.1 dX3_deed_104 (by decide) ?_
      refine lv_iload S.1 S.2.1 dX3_deed_105 (lv_at hl 0 rfl) ?_
      refine lv_iconst (v := (-1)) S.1 S.2.1 dX3_deed_107 (by decide) ?_
      refine lv_icmp_ne (tgt := 117) S.1 S.2.1 dX3_deed_108 (by decide) (fun c30 => ?_) (fun c30 => ?_)
      · replace h := m_f c30 h
        refine lv_iload S.1 S.2.1 dX3_deed_117 (lv_at hl 1 rfl) ?_
        refine lv_iload S.1 S.2.1 dX3_deed_119 (lv_at hl 0 rfl) ?_
        by_cases c31 : (x9 : Int32) = 0
        · exact absurd (m_t c31 h) (fun h => by cases h)
        replace h := m_f c31 h
        refine lv_idiv S.1 S.2.1 dX3_deed_121 c31 ?_
        obtain ⟨_, k35, h⟩ := m_bs h
        obtain ⟨u32, s33, e34, h⟩ := m_b_s h
        refine m_callv (va_runV (As := [.int p1, .int 1, .int (x4 / x9)]) (rest := []) S (c_X3_give l D tc b t0 p1 1 (x4 / x9) _ _ _ e34) (cwV 3 S.2.2.2.2 (m_wV kX3_give (by decide +kernel)) rfl rfl rfl (by decide +kernel) ⟨by decide +kernel, by decide +kernel⟩) (m_preV hK hP (m_is_s k35) rfl) rfl rfl hl.1 rfl (lv_room (by first | decide | simp [m_rfc, m_catI, m_catL, m_catA])) dX3_deed_122 ⟨by decide +kernel, by decide +kernel⟩) hS (fun H locs hP hS => ?_)
        refine lv_iconst (v := 0) S.1 S.2.1 dX3_deed_125 (by decide) ?_
        obtain ⟨h1, h2⟩ := m_fin h; subst h1; subst h2
        exact m_iret S hr hlk hK hP hS (by decide +kernel) (by decide +kernel) dX3_deed_126
      · replace h := m_t c30 h
        refine lv_iload S.1 S.2.1 dX3_deed_111 (lv_at hl 1 rfl) ?_
        refine lv_ineg S.1 S.2.1 dX3_deed_113 ?_
        refine lv_goto (tgt := 122) S.1 S.2.1 dX3_deed_114 (by decide) ?_
        obtain ⟨_, k39, h⟩ := m_bs h
        obtain ⟨u36, s37, e38, h⟩ := m_b_s h
        refine m_callv (va_runV (As := [.int p1, .int 1, .int (-x4)]) (rest := []) S (c_X3_give l D tc b t0 p1 1 (-x4) _ _ _ e38) (cwV 3 S.2.2.2.2 (m_wV kX3_give (by decide +kernel)) rfl rfl rfl (by decide +kernel) ⟨by decide +kernel, by decide +kernel⟩) (m_preV hK hP (m_is_s k39) rfl) rfl rfl hl.1 rfl (lv_room (by first | decide | simp [m_rfc, m_catI, m_catL, m_catA])) dX3_deed_122 ⟨by decide +kernel, by decide +kernel⟩) hS (fun H locs hP hS => ?_)
        refine lv_iconst (v := 0) S.1 S.2.1 dX3_deed_125 (by decide) ?_
        obtain ⟨h1, h2⟩ := m_fin h; subst h1; subst h2
        exact m_iret S hr hlk hK hP hS (by decide +kernel) (by decide +kernel) dX3_deed_126
    · replace h := m_t c29 h
      refine lv_iconst (v := 3) S.1 S.2.1 dX3_deed_100 (by decide) ?_
      obtain ⟨h1, h2⟩ := m_fin h; subst h1; subst h2
      exact m_iret S hr hlk hK hP hS (by decide +kernel) (by decide +kernel) dX3_deed_101
  replace h := m_f c28 h
  by_cases c40 : p2 = 4
  · replace h := m_t c40 h
    refine lv_tableIn (tgt := 127) S.1 S.2.1 dX3_deed_23 (by rw [c40]; decide) (by rw [c40]; decide) (by rw [c40]; rfl) (by decide) ?_
    refine lv_iload S.1 S.2.1 dX3_deed_127 (lv_at hl 6 rfl) ?_
    refine lv_if_lt (tgt := 144) S.1 S.2.1 dX3_deed_129 (by decide) (fun c41 => ?_) (fun c41 => ?_)
    · replace h := m_t c41 h
      refine lv_iconst (v := 4) S.1 S.2.1 dX3_deed_144 (by decide) ?_
      obtain ⟨h1, h2⟩ := m_fin h; subst h1; subst h2
      exact m_iret S hr hlk hK hP hS (by decide +kernel) (by decide +kernel) dX3_deed_145
    · replace h := m_f c41 h
      refine lv_aload_n S.1 S.2.1 dX3_deed_132 rfl (lv_at hl 2 rfl) ?_
      obtain ⟨r42, e43, h⟩ := m_bs h
      refine m_get (ci := 3) (k := 22) (T := TX3) (N := 25) S (inX3 _) hK hP (m_gR_s e43) rfl (by decide) (S.2.2.2.2 (.fieldLink RX3 57 "RuleHouse2Model" "has" "[Z") (m_mem (by decide +kernel))) rfl dX3_deed_133 ?_
      refine lv_iconst (v := 3) S.1 S.2.1 dX3_deed_136 (by decide) ?_
      refine lv_iload S.1 S.2.1 dX3_deed_137 (lv_at hl 6 rfl) ?_
      refine lv_imul S.1 S.2.1 dX3_deed_139 ?_
      obtain ⟨a44, ea, g⟩ := m_bs h; clear h; subst ea; have h := g; clear g
      obtain ⟨x45, e46, h⟩ := m_bs h
      refine m_zald (t := 6) S hK hP (m_aI_s e46) rfl dX3_deed_140 ?_
      refine lv_if_ne (tgt := 146) S.1 S.2.1 dX3_deed_141 (by decide) (fun c47 => ?_) (fun c47 => ?_)
      · replace h := m_f c47 h
        refine lv_aload_n S.1 S.2.1 dX3_deed_146 rfl (lv_at hl 2 rfl) ?_
        refine lv_iload_n S.1 S.2.1 dX3_deed_147 rfl (lv_at hl 3 rfl) ?_
        refine lv_iconst (v := 0) S.1 S.2.1 dX3_deed_148 (by decide) ?_
        refine lv_aload_n S.1 S.2.1 dX3_deed_149 rfl (lv_at hl 2 rfl) ?_
        obtain ⟨r48, e49, h⟩ := m_bs h
        refine m_get (ci := 3) (k := 20) (T := TX3) (N := 25) S (inX3 _) hK hP (m_gR_s e49) rfl (by decide) (S.2.2.2.2 (.fieldLink RX3 51 "RuleHouse2Model" "provider" "[I") (m_mem (by decide +kernel))) rfl dX3_deed_150 ?_
        refine lv_iconst (v := 3) S.1 S.2.1 dX3_deed_153 (by decide) ?_
        refine lv_iload S.1 S.2.1 dX3_deed_154 (lv_at hl 6 rfl) ?_
        refine lv_imul S.1 S.2.1 dX3_deed_156 ?_
        obtain ⟨a50, ea, g⟩ := m_bs h; clear h; subst ea; have h := g; clear g
        obtain ⟨x51, e52, h⟩ := m_bs h
        refine m_iald (t := 5) S hK hP (m_aI_s e52) rfl dX3_deed_157 ?_
        refine lv_iconst (v := 1) S.1 S.2.1 dX3_deed_158 (by decide) ?_
        refine lv_iadd S.1 S.2.1 dX3_deed_159 ?_
        obtain ⟨_, k56, h⟩ := m_bs h
        obtain ⟨u53, s54, e55, h⟩ := m_b_s h
        refine m_callv (va_runV (As := [.int p1, .int 0, .int (x51 + 1)]) (rest := []) S (c_X3_give l D tc b t0 p1 0 (x51 + 1) _ _ _ e55) (cwV 3 S.2.2.2.2 (m_wV kX3_give (by decide +kernel)) rfl rfl rfl (by decide +kernel) ⟨by decide +kernel, by decide +kernel⟩) (m_preV hK hP (m_is_s k56) rfl) rfl rfl hl.1 rfl (lv_room (by first | decide | simp [m_rfc, m_catI, m_catL, m_catA])) dX3_deed_160 ⟨by decide +kernel, by decide +kernel⟩) hS (fun H locs hP hS => ?_)
        refine lv_iconst (v := 0) S.1 S.2.1 dX3_deed_163 (by decide) ?_
        obtain ⟨h1, h2⟩ := m_fin h; subst h1; subst h2
        exact m_iret S hr hlk hK hP hS (by decide +kernel) (by decide +kernel) dX3_deed_164
      · replace h := m_t c47 h
        refine lv_iconst (v := 4) S.1 S.2.1 dX3_deed_144 (by decide) ?_
        obtain ⟨h1, h2⟩ := m_fin h; subst h1; subst h2
        exact m_iret S hr hlk hK hP hS (by decide +kernel) (by decide +kernel) dX3_deed_145
  replace h := m_f c40 h
  by_cases c57 : p2 = 5
  · replace h := m_t c57 h
    refine lv_tableIn (tgt := 165) S.1 S.2.1 dX3_deed_23 (by rw [c57]; decide) (by rw [c57]; decide) (by rw [c57]; rfl) (by decide) ?_
    refine lv_aload_n S.1 S.2.1 dX3_deed_165 rfl (lv_at hl 2 rfl) ?_
    obtain ⟨r58, e59, h⟩ := m_bs h
    refine m_get (ci := 3) (k := 11) (T := TX3) (N := 25) S (inX3 _) hK hP (m_gR_s e59) rfl (by decide) (S.2.2.2.2 (.fieldLink RX3 23 "RuleHouse2Model" "cell" "[J") (m_mem (by decide +kernel))) rfl dX3_deed_166 ?_
    refine lv_iload_n S.1 S.2.1 dX3_deed_169 rfl (lv_at hl 5 rfl) ?_
    refine lv_dup2_11 S.1 S.2.1 dX3_deed_170 rfl (m_rfc _) ?_
    obtain ⟨a60, ea, g⟩ := m_bs h; clear h; subst ea; have h := g; clear g
    obtain ⟨l61, e62, h⟩ := m_bs h
    refine m_lald (t := 7) S hK hP (m_aL_s e62) rfl dX3_deed_171 ?_
    refine lv_lconst (v := 1) S.1 S.2.1 dX3_deed_172 (by decide) ?_
    refine lv_ladd S.1 S.2.1 dX3_deed_173 ?_
    obtain ⟨s63, e64, h⟩ := m_bs h
    refine m_last (t := 7) S hK hP hS e64 (by decide) rfl dX3_deed_174 (fun H locs hP hS => ?_)
    refine lv_aload_n S.1 S.2.1 dX3_deed_175 rfl (lv_at hl 2 rfl) ?_
    refine lv_iload_n S.1 S.2.1 dX3_deed_176 rfl (lv_at hl 3 rfl) ?_
    refine lv_iconst (v := 2) S.1 S.2.1 dX3_deed_177 (by decide) ?_
    refine lv_aload_n S.1 S.2.1 dX3_deed_178 rfl (lv_at hl 2 rfl) ?_
    obtain ⟨r65, e66, h⟩ := m_bs h
    refine m_get (ci := 3) (k := 11) (T := TX3) (N := 25) S (inX3 _) hK hP (m_gR_s e66) rfl (by decide) (S.2.2.2.2 (.fieldLink RX3 23 "RuleHouse2Model" "cell" "[J") (m_mem (by decide +kernel))) rfl dX3_deed_179 ?_
    refine lv_iload_n S.1 S.2.1 dX3_deed_182 rfl (lv_at hl 5 rfl) ?_
    obtain ⟨a67, ea, g⟩ := m_bs h; clear h; subst ea; have h := g; clear g
    obtain ⟨l68, e69, h⟩ := m_bs h
    refine m_lald (t := 7) S hK hP (m_aL_s e69) rfl dX3_deed_183 ?_
    refine lv_l2i S.1 S.2.1 dX3_deed_184 rfl ?_
    obtain ⟨_, k73, h⟩ := m_bs h
    obtain ⟨u70, s71, e72, h⟩ := m_b_s h
    refine m_callv (va_runV (As := [.int p1, .int 2, .int ((l68 : Int64).toInt32)]) (rest := []) S (c_X3_give l D tc b t0 p1 2 ((l68 : Int64).toInt32) _ _ _ e72) (cwV 3 S.2.2.2.2 (m_wV kX3_give (by decide +kernel)) rfl rfl rfl (by decide +kernel) ⟨by decide +kernel, by decide +kernel⟩) (m_preV hK hP (m_is_s k73) rfl) rfl rfl hl.1 rfl (lv_room (by first | decide | simp [m_rfc, m_catI, m_catL, m_catA])) dX3_deed_185 ⟨by decide +kernel, by decide +kernel⟩) hS (fun H locs hP hS => ?_)
    refine lv_iconst (v := 0) S.1 S.2.1 dX3_deed_188 (by decide) ?_
    obtain ⟨h1, h2⟩ := m_fin h; subst h1; subst h2
    exact m_iret S hr hlk hK hP hS (by decide +kernel) (by decide +kernel) dX3_deed_189
  replace h := m_f c57 h
  by_cases c74 : p2 = 6
  · replace h := m_t c74 h
    refine lv_tableIn (tgt := 190) S.1 S.2.1 dX3_deed_23 (by rw [c74]; decide) (by rw [c74]; decide) (by rw [c74]; rfl) (by decide) ?_
    refine lv_aload_n S.1 S.2.1 dX3_deed_190 rfl (lv_at hl 2 rfl) ?_
    refine lv_iload_n S.1 S.2.1 dX3_deed_191 rfl (lv_at hl 3 rfl) ?_
    refine lv_iconst (v := 0) S.1 S.2.1 dX3_deed_192 (by decide) ?_
    refine lv_aload_n S.1 S.2.1 dX3_deed_193 rfl (lv_at hl 2 rfl) ?_
    obtain ⟨r75, e76, h⟩ := m_bs h
    refine m_get (ci := 3) (k := 13) (T := TX3) (N := 25) S (inX3 _) hK hP (m_gR_s e76) rfl (by decide) (S.2.2.2.2 (.fieldLink RX3 30 "RuleHouse2Model" "attributes" "[I") (m_mem (by decide +kernel))) rfl dX3_deed_194 ?_
    refine lv_iconst (v := 4) S.1 S.2.1 dX3_deed_197 (by decide) ?_
    refine lv_iload_n S.1 S.2.1 dX3_deed_198 rfl (lv_at hl 3 rfl) ?_
    refine lv_imul S.1 S.2.1 dX3_deed_199 ?_
    refine lv_iconst (v := 3) S.1 S.2.1 dX3_deed_200 (by decide) ?_
    refine lv_iadd S.1 S.2.1 dX3_deed_201 ?_
    obtain ⟨a77, ea, g⟩ := m_bs h; clear h; subst ea; have h := g; clear g
    obtain ⟨x78, e79, h⟩ := m_bs h
    refine m_iald (t := 5) S hK hP (m_aI_s e79) rfl dX3_deed_202 ?_
    refine lv_iconst (v := 1) S.1 S.2.1 dX3_deed_203 (by decide) ?_
    refine lv_icmp_ne (tgt := 213) S.1 S.2.1 dX3_deed_204 (by decide) (fun c80 => ?_) (fun c80 => ?_)
    · replace h := m_f c80 h
      refine lv_iload S.1 S.2.1 dX3_deed_213 (lv_at hl 1 rfl) ?_
      obtain ⟨_, k84, h⟩ := m_bs h
      obtain ⟨u81, s82, e83, h⟩ := m_b_s h
      refine m_callv (va_runV (As := [.int p1, .int 0, .int x4]) (rest := []) S (c_X3_give l D tc b t0 p1 0 x4 _ _ _ e83) (cwV 3 S.2.2.2.2 (m_wV kX3_give (by decide +kernel)) rfl rfl rfl (by decide +kernel) ⟨by decide +kernel, by decide +kernel⟩) (m_preV hK hP (m_is_s k84) rfl) rfl rfl hl.1 rfl (lv_room (by first | decide | simp [m_rfc, m_catI, m_catL, m_catA])) dX3_deed_215 ⟨by decide +kernel, by decide +kernel⟩) hS (fun H locs hP hS => ?_)
      refine lv_iconst (v := 0) S.1 S.2.1 dX3_deed_218 (by decide) ?_
      obtain ⟨h1, h2⟩ := m_fin h; subst h1; subst h2
      exact m_iret S hr hlk hK hP hS (by decide +kernel) (by decide +kernel) dX3_deed_219
    · replace h := m_t c80 h
      refine lv_iload S.1 S.2.1 dX3_deed_207 (lv_at hl 1 rfl) ?_
      refine lv_ineg S.1 S.2.1 dX3_deed_209 ?_
      refine lv_goto (tgt := 215) S.1 S.2.1 dX3_deed_210 (by decide) ?_
      obtain ⟨_, k88, h⟩ := m_bs h
      obtain ⟨u85, s86, e87, h⟩ := m_b_s h
      refine m_callv (va_runV (As := [.int p1, .int 0, .int (-x4)]) (rest := []) S (c_X3_give l D tc b t0 p1 0 (-x4) _ _ _ e87) (cwV 3 S.2.2.2.2 (m_wV kX3_give (by decide +kernel)) rfl rfl rfl (by decide +kernel) ⟨by decide +kernel, by decide +kernel⟩) (m_preV hK hP (m_is_s k88) rfl) rfl rfl hl.1 rfl (lv_room (by first | decide | simp [m_rfc, m_catI, m_catL, m_catA])) dX3_deed_215 ⟨by decide +kernel, by decide +kernel⟩) hS (fun H locs hP hS => ?_)
      refine lv_iconst (v := 0) S.1 S.2.1 dX3_deed_218 (by decide) ?_
      obtain ⟨h1, h2⟩ := m_fin h; subst h1; subst h2
      exact m_iret S hr hlk hK hP hS (by decide +kernel) (by decide +kernel) dX3_deed_219
  replace h := m_f c74 h
  by_cases c89 : p2 = 7
  · replace h := m_t c89 h
    refine lv_tableIn (tgt := 220) S.1 S.2.1 dX3_deed_23 (by rw [c89]; decide) (by rw [c89]; decide) (by rw [c89]; rfl) (by decide) ?_
    refine lv_aload_n S.1 S.2.1 dX3_deed_220 rfl (lv_at hl 2 rfl) ?_
    refine lv_dup S.1 S.2.1 dX3_deed_221 rfl ?_
    obtain ⟨x90, e91, h⟩ := m_bs h
    refine m_get (ci := 3) (k := 6) (T := TX3) (N := 25) S (inX3 _) hK hP (m_gI_s e91) rfl (by decide) (S.2.2.2.2 (.fieldLink RX3 96 "RuleHouse2Model" "handles" "I") (m_mem (by decide +kernel))) rfl dX3_deed_222 ?_
    refine lv_aload_n S.1 S.2.1 dX3_deed_225 rfl (lv_at hl 2 rfl) ?_
    obtain ⟨x92, e93, h⟩ := m_bs h
    refine m_get (ci := 3) (k := 6) (T := TX3) (N := 25) S (inX3 _) hK hP (m_gI_s e93) rfl (by decide) (S.2.2.2.2 (.fieldLink RX3 96 "RuleHouse2Model" "handles" "I") (m_mem (by decide +kernel))) rfl dX3_deed_226 ?_
    refine lv_bipush (v := 40) S.1 S.2.1 dX3_deed_229 (by decide) ?_
    refine lv_icmp_ge (tgt := 238) S.1 S.2.1 dX3_deed_231 (by decide) (fun c94 => ?_) (fun c94 => ?_)
    · replace h := m_t c94 h
      refine lv_iconst (v := 0) S.1 S.2.1 dX3_deed_238 (by decide) ?_
      refine lv_iadd S.1 S.2.1 dX3_deed_239 ?_
      obtain ⟨s95, e96, h⟩ := m_bs h
      refine m_put (ci := 3) (k := 6) (T := TX3) (N := 25) (v := .int (x90 + 0)) (ty := .int) S (inX3 _) tyX3 tX3 nX3 hK hP hS e96 rfl (by decide) (S.2.2.2.2 (.fieldLink RX3 96 "RuleHouse2Model" "handles" "I") (m_mem (by decide +kernel))) rfl rfl (by decide +kernel) rfl rfl dX3_deed_240 (fun H locs hP hS => ?_)
      refine lv_iconst (v := 0) S.1 S.2.1 dX3_deed_243 (by decide) ?_
      obtain ⟨h1, h2⟩ := m_fin h; subst h1; subst h2
      exact m_iret S hr hlk hK hP hS (by decide +kernel) (by decide +kernel) dX3_deed_244
    · replace h := m_f c94 h
      refine lv_iconst (v := 1) S.1 S.2.1 dX3_deed_234 (by decide) ?_
      refine lv_goto (tgt := 239) S.1 S.2.1 dX3_deed_235 (by decide) ?_
      refine lv_iadd S.1 S.2.1 dX3_deed_239 ?_
      obtain ⟨s97, e98, h⟩ := m_bs h
      refine m_put (ci := 3) (k := 6) (T := TX3) (N := 25) (v := .int (x90 + 1)) (ty := .int) S (inX3 _) tyX3 tX3 nX3 hK hP hS e98 rfl (by decide) (S.2.2.2.2 (.fieldLink RX3 96 "RuleHouse2Model" "handles" "I") (m_mem (by decide +kernel))) rfl rfl (by decide +kernel) rfl rfl dX3_deed_240 (fun H locs hP hS => ?_)
      refine lv_iconst (v := 0) S.1 S.2.1 dX3_deed_243 (by decide) ?_
      obtain ⟨h1, h2⟩ := m_fin h; subst h1; subst h2
      exact m_iret S hr hlk hK hP hS (by decide +kernel) (by decide +kernel) dX3_deed_244
  replace h := m_f c89 h
  have nc89 := (⟨lv_neT (a := 1) c11 (by decide), lv_neT (a := 2) c23 (by decide), lv_neT (a := 3) c28 (by decide), lv_neT (a := 4) c40 (by decide), lv_neT (a := 5) c57 (by decide), lv_neT (a := 6) c74 (by decide), lv_neT (a := 7) c89 (by decide)⟩ : ¬ (p2).toInt = 1 ∧ ¬ (p2).toInt = 2 ∧ ¬ (p2).toInt = 3 ∧ ¬ (p2).toInt = 4 ∧ ¬ (p2).toInt = 5 ∧ ¬ (p2).toInt = 6 ∧ ¬ (p2).toInt = 7)
  refine lv_tableOut (tgt := 245) S.1 S.2.1 dX3_deed_23 (by omega) (by decide) ?_
  refine lv_iconst (v := 0) S.1 S.2.1 dX3_deed_245 (by decide) ?_
  obtain ⟨h1, h2⟩ := m_fin h; subst h1; subst h2
  exact m_iret S hr hlk hK hP hS (by decide +kernel) (by decide +kernel) dX3_deed_246

def f_X3_runOne_L58 : Nat → Int32 → Int32 → Int32 → Nat → Int32 → MS → Option (Unit × MS)
  | 0, _, _, _, _, _, _ => none
  | f + 1, q4, q3, q2, q0, q1, s0 =>
    if 8 ≤ q4 then
      some ((), s0)
    else
      (m_gR s0 3 q0 8).bind fun r17 =>
      (m_gR s0 3 q0 12).bind fun r19 =>
      r19.bind fun a21 =>
      (m_aI s0 5 a21 q1).bind fun x22 =>
      r17.bind fun a24 =>
      (m_aI s0 5 a24 x22).bind fun x25 =>
      if ((x25 >>> (q4 &&& 31)) &&& 1) = 0 then
        f_X3_runOne_L58 f (q4 + 1) q3 q2 q0 q1 s0
      else
        (m_is s0 3 q0).bind fun _ =>
        m_b (f_X3_step q0 q1 s0) fun x28 s29 =>
        if x28 = 0 then
          if (5 : Int32) = 0 then
            f_X3_runOne_L58 f (q4 + 1) q3 q2 q0 q1 s29
          else
            (m_is s29 3 q0).bind fun _ =>
            m_b (f_X3_fail q0 q1 5 q4 q1 s29) fun u34 s35 =>
            some ((), s35)
        else
          (m_is s29 3 q0).bind fun _ =>
          m_b (f_X3_deed q0 q1 q4 q2 q3 s29) fun x38 s39 =>
          if x38 = 0 then
            f_X3_runOne_L58 f (q4 + 1) q3 q2 q0 q1 s39
          else
            (m_is s39 3 q0).bind fun _ =>
            m_b (f_X3_fail q0 q1 x38 q4 q1 s39) fun u43 s44 =>
            some ((), s44)
def f_X3_runOne (t0 : Nat) (p1 : Int32) (s0 : MS) : Option (Unit × MS) :=
  (m_gR s0 3 t0 12).bind fun r1 =>
  r1.bind fun a3 =>
  (m_aI s0 5 a3 p1).bind fun x4 =>
  (m_is s0 3 t0).bind fun _ =>
  m_b (f_X3_classOf t0 x4 s0) fun x6 s7 =>
  (m_gR s7 3 t0 13).bind fun r10 =>
  r10.bind fun a12 =>
  (m_aI s7 5 a12 ((4 * p1) + 2)).bind fun x13 =>
  if (x13 - 1) < 0 then
    f_X3_runOne_L58 64 0 (x13 - 1) x6 t0 p1 s7
  else
    (m_gR s7 3 t0 14).bind fun r47 =>
    r47.bind fun a49 =>
    (m_aI s7 5 a49 (x13 - 1)).bind fun x50 =>
    if x50 ≤ 0 then
      f_X3_runOne_L58 64 0 (x13 - 1) x6 t0 p1 s7
    else
      (m_gR s7 3 t0 16).bind fun r53 =>
      r53.bind fun a55 =>
      (m_aI s7 5 a55 (x13 - 1)).bind fun x56 =>
      (m_is s7 3 t0).bind fun _ =>
      m_b (f_X3_fail t0 p1 6 8 (x56 - 1) s7) fun u58 s59 =>
      some ((), s59)
set_option maxHeartbeats 4000000 in
set_option maxRecDepth 100000 in
theorem w_X3_runOne_L58 {p : Program} {l : Launch} {e : Env} {s : State} {m : MethodId} {args : Array Value} {below : List Frame} {meth : Method} {c : Code} (D : va_G) (tc : Nat → ClassId) (b : Nat) (S : CallFix p m c cX3_runOne 6 s args wsX3_runOne RX3) (hr : meth.sig.returnType = none) (hlk : meth.locks = false) (hK : va_K D vwCl (m_tys tc) s) :
    ∀ (f : Nat) (q4 : Int32) (q3 : Int32) (q2 : Int32) (q0 : Nat) (q1 : Int32) (s0 st' : MS) (r : Unit) (h : f_X3_runOne_L58 f q4 q3 q2 q0 q1 s0 = some (r, st')) (H : Heap) (locs : List Loc) (ls : Array Slot) (hP : mw D vwCl (m_tys tc) b s0 H) (hS : va_S (m_A b) s.heap H locs) (hl : lv_has ls 6 [(4, .int q4), (3, .int q3), (2, .int q2), (0, .ref q0), (1, .int q1)]), W p l e { frames := 3, cells := 0, slots := 0, locals := 70 } s m args below meth c H locs 0 0 (MQ below (m_Q D vwCl (m_tys tc) b none st') args s 0 0 (m_A b)) (F0 m 58 ls []) := by
  intro f
  induction f with
  | zero =>
    intro q4 q3 q2 q0 q1 s0 st' r h
    cases h
  | succ f ih =>
    intro q4 q3 q2 q0 q1 s0 st' r h H locs ls hP hS hl
    rw [f_X3_runOne_L58] at h
    refine lv_iload S.1 S.2.1 dX3_runOne_58 (lv_at hl 0 rfl) ?_
    refine lv_bipush (v := 8) S.1 S.2.1 dX3_runOne_60 (by decide) ?_
    refine lv_icmp_ge (tgt := 135) S.1 S.2.1 dX3_runOne_62 (by decide) (fun c16 => ?_) (fun c16 => ?_)
    · replace h := m_t c16 h
      obtain ⟨h1, h2⟩ := m_fin h; subst h1; subst h2
      exact m_vret S hr hlk hK hP hS (by decide +kernel) (by decide +kernel) dX3_runOne_135
    · replace h := m_f c16 h
      refine lv_aload_n S.1 S.2.1 dX3_runOne_65 rfl (lv_at hl 3 rfl) ?_
      obtain ⟨r17, e18, h⟩ := m_bs h
      refine m_get (ci := 3) (k := 8) (T := TX3) (N := 25) S (inX3 _) hK hP (m_gR_s e18) rfl (by decide) (S.2.2.2.2 (.fieldLink RX3 13 "RuleHouse2Model" "does" "[I") (m_mem (by decide +kernel))) rfl dX3_runOne_66 ?_
      refine lv_aload_n S.1 S.2.1 dX3_runOne_69 rfl (lv_at hl 3 rfl) ?_
      obtain ⟨r19, e20, h⟩ := m_bs h
      refine m_get (ci := 3) (k := 12) (T := TX3) (N := 25) S (inX3 _) hK hP (m_gR_s e20) rfl (by decide) (S.2.2.2.2 (.fieldLink RX3 27 "RuleHouse2Model" "rule" "[I") (m_mem (by decide +kernel))) rfl dX3_runOne_70 ?_
      refine lv_iload_n S.1 S.2.1 dX3_runOne_73 rfl (lv_at hl 4 rfl) ?_
      obtain ⟨a21, ea, g⟩ := m_bs h; clear h; subst ea; have h := g; clear g
      obtain ⟨x22, e23, h⟩ := m_bs h
      refine m_iald (t := 5) S hK hP (m_aI_s e23) rfl dX3_runOne_74 ?_
      obtain ⟨a24, ea, g⟩ := m_bs h; clear h; subst ea; have h := g; clear g
      obtain ⟨x25, e26, h⟩ := m_bs h
      refine m_iald (t := 5) S hK hP (m_aI_s e26) rfl dX3_runOne_75 ?_
      refine lv_iload S.1 S.2.1 dX3_runOne_76 (lv_at hl 0 rfl) ?_
      refine lv_ishr S.1 S.2.1 dX3_runOne_78 ?_
      refine lv_iconst (v := 1) S.1 S.2.1 dX3_runOne_79 (by decide) ?_
      refine lv_iand S.1 S.2.1 dX3_runOne_80 ?_
      refine lv_if_ne (tgt := 87) S.1 S.2.1 dX3_runOne_81 (by decide) (fun c27 => ?_) (fun c27 => ?_)
      · replace h := m_f c27 h
        refine lv_aload_n S.1 S.2.1 dX3_runOne_87 rfl (lv_at hl 3 rfl) ?_
        refine lv_iload_n S.1 S.2.1 dX3_runOne_88 rfl (lv_at hl 4 rfl) ?_
        obtain ⟨_, k31, h⟩ := m_bs h
        obtain ⟨x28, s29, e30, h⟩ := m_b_s h
        refine m_calli (va_runV (As := [.int q1]) (rest := []) S (c_X3_step l D tc b q0 q1 _ _ _ e30) (cwV 1 S.2.2.2.2 (m_wV kX3_step (by decide +kernel)) rfl rfl rfl (by decide +kernel) ⟨by decide +kernel, by decide +kernel⟩) (m_preV hK hP (m_is_s k31) rfl) rfl rfl hl.1 rfl (lv_room (by first | decide | simp [m_rfc, m_catI, m_catL, m_catA])) dX3_runOne_89 ⟨by decide +kernel, by decide +kernel⟩) hS (fun H locs hP hS => ?_)
        refine lv_if_eq (tgt := 107) S.1 S.2.1 dX3_runOne_92 (by decide) (fun c32 => ?_) (fun c32 => ?_)
        · replace h := m_t c32 h
          refine lv_iconst (v := 5) S.1 S.2.1 dX3_runOne_107 (by decide) ?_
          refine lv_istore (i := 5) (lv' := [(5, .int 5), (4, .int q4), (3, .int q3), (2, .int q2), (0, .ref q0), (1, .int q1)]) S.1 S.2.1 dX3_runOne_108 hl (by decide) (by first | rfl | simp [m_rfc, m_catI, m_catL, m_catA]) (fun ls hl => ?_)
          refine lv_iload S.1 S.2.1 dX3_runOne_110 (lv_at hl 0 rfl) ?_
          refine lv_if_ne (tgt := 118) S.1 S.2.1 dX3_runOne_112 (by decide) (fun c33 => ?_) (fun c33 => ?_)
          · replace h := m_f c33 h
            refine lv_aload_n S.1 S.2.1 dX3_runOne_118 rfl (lv_at hl 4 rfl) ?_
            refine lv_iload_n S.1 S.2.1 dX3_runOne_119 rfl (lv_at hl 5 rfl) ?_
            refine lv_iload S.1 S.2.1 dX3_runOne_120 (lv_at hl 0 rfl) ?_
            refine lv_iload S.1 S.2.1 dX3_runOne_122 (lv_at hl 1 rfl) ?_
            refine lv_iload_n S.1 S.2.1 dX3_runOne_124 rfl (lv_at hl 5 rfl) ?_
            obtain ⟨_, k37, h⟩ := m_bs h
            obtain ⟨u34, s35, e36, h⟩ := m_b_s h
            refine m_callv (va_runV (As := [.int q1, .int 5, .int q4, .int q1]) (rest := []) S (c_X3_fail l D tc b q0 q1 5 q4 q1 _ _ _ e36) (cwV 4 S.2.2.2.2 (m_wV kX3_fail (by decide +kernel)) rfl rfl rfl (by decide +kernel) ⟨by decide +kernel, by decide +kernel⟩) (m_preV hK hP (m_is_s k37) rfl) rfl rfl hl.1 rfl (lv_room (by first | decide | simp [m_rfc, m_catI, m_catL, m_catA])) dX3_runOne_125 ⟨by decide +kernel, by decide +kernel⟩) hS (fun H locs hP hS => ?_)
            obtain ⟨h1, h2⟩ := m_fin h; subst h1; subst h2
            exact m_vret S hr hlk hK hP hS (by decide +kernel) (by decide +kernel) dX3_runOne_128
          · replace h := m_t c33 h
            refine lv_goto (tgt := 129) S.1 S.2.1 dX3_runOne_115 (by decide) ?_
            refine lv_iinc (v := q4 + 1) (lv' := [(4, .int (q4 + 1)), (5, .int 5), (3, .int q3), (2, .int q2), (0, .ref q0), (1, .int q1)]) S.1 S.2.1 dX3_runOne_129 hl (k := 1) rfl rfl (by decide) (by first | rfl | simp [m_rfc, m_catI, m_catL, m_catA]) (fun ls hl => ?_)
            refine lv_goto (tgt := 58) S.1 S.2.1 dX3_runOne_132 (by decide) ?_
            exact ih (q4 + 1) q3 q2 q0 q1 _ _ _ h _ _ _ hP hS (lv_sub hl [0, 2, 3, 4, 5] rfl)
        · replace h := m_f c32 h
          refine lv_aload_n S.1 S.2.1 dX3_runOne_95 rfl (lv_at hl 3 rfl) ?_
          refine lv_iload_n S.1 S.2.1 dX3_runOne_96 rfl (lv_at hl 4 rfl) ?_
          refine lv_iload S.1 S.2.1 dX3_runOne_97 (lv_at hl 0 rfl) ?_
          refine lv_iload_n S.1 S.2.1 dX3_runOne_99 rfl (lv_at hl 2 rfl) ?_
          refine lv_iload_n S.1 S.2.1 dX3_runOne_100 rfl (lv_at hl 1 rfl) ?_
          obtain ⟨_, k41, h⟩ := m_bs h
          obtain ⟨x38, s39, e40, h⟩ := m_b_s h
          refine m_calli (va_runV (As := [.int q1, .int q4, .int q2, .int q3]) (rest := []) S (c_X3_deed l D tc b q0 q1 q4 q2 q3 _ _ _ e40) (cwV 4 S.2.2.2.2 (m_wV kX3_deed (by decide +kernel)) rfl rfl rfl (by decide +kernel) ⟨by decide +kernel, by decide +kernel⟩) (m_preV hK hP (m_is_s k41) rfl) rfl rfl hl.1 rfl (lv_room (by first | decide | simp [m_rfc, m_catI, m_catL, m_catA])) dX3_runOne_101 ⟨by decide +kernel, by decide +kernel⟩) hS (fun H locs hP hS => ?_)
          refine lv_goto (tgt := 108) S.1 S.2.1 dX3_runOne_104 (by decide) ?_
          refine lv_istore (i := 5) (lv' := [(5, .int x38), (4, .int q4), (3, .int q3), (2, .int q2), (0, .ref q0), (1, .int q1)]) S.1 S.2.1 dX3_runOne_108 hl (by decide) (by first | rfl | simp [m_rfc, m_catI, m_catL, m_catA]) (fun ls hl => ?_)
          refine lv_iload S.1 S.2.1 dX3_runOne_110 (lv_at hl 0 rfl) ?_
          refine lv_if_ne (tgt := 118) S.1 S.2.1 dX3_runOne_112 (by decide) (fun c42 => ?_) (fun c42 => ?_)
          · replace h := m_f c42 h
            refine lv_aload_n S.1 S.2.1 dX3_runOne_118 rfl (lv_at hl 4 rfl) ?_
            refine lv_iload_n S.1 S.2.1 dX3_runOne_119 rfl (lv_at hl 5 rfl) ?_
            refine lv_iload S.1 S.2.1 dX3_runOne_120 (lv_at hl 0 rfl) ?_
            refine lv_iload S.1 S.2.1 dX3_runOne_122 (lv_at hl 1 rfl) ?_
            refine lv_iload_n S.1 S.2.1 dX3_runOne_124 rfl (lv_at hl 5 rfl) ?_
            obtain ⟨_, k46, h⟩ := m_bs h
            obtain ⟨u43, s44, e45, h⟩ := m_b_s h
            refine m_callv (va_runV (As := [.int q1, .int x38, .int q4, .int q1]) (rest := []) S (c_X3_fail l D tc b q0 q1 x38 q4 q1 _ _ _ e45) (cwV 4 S.2.2.2.2 (m_wV kX3_fail (by decide +kernel)) rfl rfl rfl (by decide +kernel) ⟨by decide +kernel, by decide +kernel⟩) (m_preV hK hP (m_is_s k46) rfl) rfl rfl hl.1 rfl (lv_room (by first | decide | simp [m_rfc, m_catI, m_catL, m_catA])) dX3_runOne_125 ⟨by decide +kernel, by decide +kernel⟩) hS (fun H locs hP hS => ?_)
            obtain ⟨h1, h2⟩ := m_fin h; subst h1; subst h2
            exact m_vret S hr hlk hK hP hS (by decide +kernel) (by decide +kernel) dX3_runOne_128
          · replace h := m_t c42 h
            refine lv_goto (tgt := 129) S.1 S.2.1 dX3_runOne_115 (by decide) ?_
            refine lv_iinc (v := q4 + 1) (lv' := [(4, .int (q4 + 1)), (5, .int x38), (3, .int q3), (2, .int q2), (0, .ref q0), (1, .int q1)]) S.1 S.2.1 dX3_runOne_129 hl (k := 1) rfl rfl (by decide) (by first | rfl | simp [m_rfc, m_catI, m_catL, m_catA]) (fun ls hl => ?_)
            refine lv_goto (tgt := 58) S.1 S.2.1 dX3_runOne_132 (by decide) ?_
            exact ih (q4 + 1) q3 q2 q0 q1 _ _ _ h _ _ _ hP hS (lv_sub hl [0, 2, 3, 4, 5] rfl)
      · replace h := m_t c27 h
        refine lv_goto (tgt := 129) S.1 S.2.1 dX3_runOne_84 (by decide) ?_
        refine lv_iinc (v := q4 + 1) (lv' := [(4, .int (q4 + 1)), (3, .int q3), (2, .int q2), (0, .ref q0), (1, .int q1)]) S.1 S.2.1 dX3_runOne_129 hl (k := 0) rfl rfl (by decide) (by first | rfl | simp [m_rfc, m_catI, m_catL, m_catA]) (fun ls hl => ?_)
        refine lv_goto (tgt := 58) S.1 S.2.1 dX3_runOne_132 (by decide) ?_
        exact ih (q4 + 1) q3 q2 q0 q1 _ _ _ h _ _ _ hP hS (lv_sub hl [0, 1, 2, 3, 4] rfl)
set_option maxHeartbeats 4000000 in
set_option maxRecDepth 100000 in
theorem c_X3_runOne (l : Launch) (D : va_G) (tc : Nat → ClassId) (b : Nat) (t0 : Nat) (p1 : Int32) (s0 st' : MS) (r : Unit) (h : f_X3_runOne t0 p1 s0 = some (r, st')) : Met l yX3_runOne wsX3_runOne ({ frames := 3, cells := 0, slots := 0, locals := 70 }) (m_Pc D vwCl (m_tys tc) b s0 [.ref t0, .int p1]) (m_Q D vwCl (m_tys tc) b none st') 0 0 (m_A b) := by
  unfold f_X3_runOne at h
  refine m_met (cc := cX3_runOne) (maxL := 6) (ret := none) (by decide) rfl (by first | exact Nat.le_of_ble_eq_true rfl | simp [lg_sl, m_rfc, m_catI, m_catL, m_catA]) ?_
  intro p e s m below meth c ls S hr hlk hnm hK hP hl hS
  replace hl : lv_has ls 6 [(0, .ref t0), (1, .int p1)] := by first | exact hl | simpa [lv_args, m_rfc, m_catI, m_catL, m_catA] using hl
  refine lv_aload_n S.1 S.2.1 dX3_runOne_0 rfl (lv_at hl 0 rfl) ?_
  refine lv_aload_n S.1 S.2.1 dX3_runOne_1 rfl (lv_at hl 0 rfl) ?_
  obtain ⟨r1, e2, h⟩ := m_bs h
  refine m_get (ci := 3) (k := 12) (T := TX3) (N := 25) S (inX3 _) hK hP (m_gR_s e2) rfl (by decide) (S.2.2.2.2 (.fieldLink RX3 27 "RuleHouse2Model" "rule" "[I") (m_mem (by decide +kernel))) rfl dX3_runOne_2 ?_
  refine lv_iload_n S.1 S.2.1 dX3_runOne_5 rfl (lv_at hl 1 rfl) ?_
  obtain ⟨a3, ea, g⟩ := m_bs h; clear h; subst ea; have h := g; clear g
  obtain ⟨x4, e5, h⟩ := m_bs h
  refine m_iald (t := 5) S hK hP (m_aI_s e5) rfl dX3_runOne_6 ?_
  obtain ⟨_, k9, h⟩ := m_bs h
  obtain ⟨x6, s7, e8, h⟩ := m_b_s h
  refine m_calli (va_runV (As := [.int x4]) (rest := []) S (c_X3_classOf l D tc b t0 x4 _ _ _ e8) (cwV 1 S.2.2.2.2 (m_wV kX3_classOf (by decide +kernel)) rfl rfl rfl (by decide +kernel) ⟨by decide +kernel, by decide +kernel⟩) (m_preV hK hP (m_is_s k9) rfl) rfl rfl hl.1 rfl (lv_room (by first | decide | simp [m_rfc, m_catI, m_catL, m_catA])) dX3_runOne_7 ⟨by decide +kernel, by decide +kernel⟩) hS (fun H locs hP hS => ?_)
  refine lv_istore_n (i := 2) (lv' := [(2, .int x6), (0, .ref t0), (1, .int p1)]) S.1 S.2.1 dX3_runOne_10 rfl hl (by decide) (by first | rfl | simp [m_rfc, m_catI, m_catL, m_catA]) (fun ls hl => ?_)
  refine lv_aload_n S.1 S.2.1 dX3_runOne_11 rfl (lv_at hl 1 rfl) ?_
  obtain ⟨r10, e11, h⟩ := m_bs h
  refine m_get (ci := 3) (k := 13) (T := TX3) (N := 25) S (inX3 _) hK hP (m_gR_s e11) rfl (by decide) (S.2.2.2.2 (.fieldLink RX3 30 "RuleHouse2Model" "attributes" "[I") (m_mem (by decide +kernel))) rfl dX3_runOne_12 ?_
  refine lv_iconst (v := 4) S.1 S.2.1 dX3_runOne_15 (by decide) ?_
  refine lv_iload_n S.1 S.2.1 dX3_runOne_16 rfl (lv_at hl 2 rfl) ?_
  refine lv_imul S.1 S.2.1 dX3_runOne_17 ?_
  refine lv_iconst (v := 2) S.1 S.2.1 dX3_runOne_18 (by decide) ?_
  refine lv_iadd S.1 S.2.1 dX3_runOne_19 ?_
  obtain ⟨a12, ea, g⟩ := m_bs h; clear h; subst ea; have h := g; clear g
  obtain ⟨x13, e14, h⟩ := m_bs h
  refine m_iald (t := 5) S hK hP (m_aI_s e14) rfl dX3_runOne_20 ?_
  refine lv_iconst (v := 1) S.1 S.2.1 dX3_runOne_21 (by decide) ?_
  refine lv_isub S.1 S.2.1 dX3_runOne_22 ?_
  refine lv_istore_n (i := 3) (lv' := [(3, .int (x13 - 1)), (2, .int x6), (0, .ref t0), (1, .int p1)]) S.1 S.2.1 dX3_runOne_23 rfl hl (by decide) (by first | rfl | simp [m_rfc, m_catI, m_catL, m_catA]) (fun ls hl => ?_)
  refine lv_iload_n S.1 S.2.1 dX3_runOne_24 rfl (lv_at hl 0 rfl) ?_
  refine lv_if_lt (tgt := 55) S.1 S.2.1 dX3_runOne_25 (by decide) (fun c15 => ?_) (fun c15 => ?_)
  · replace h := m_t c15 h
    refine lv_iconst (v := 0) S.1 S.2.1 dX3_runOne_55 (by decide) ?_
    refine lv_istore (i := 4) (lv' := [(4, .int 0), (3, .int (x13 - 1)), (2, .int x6), (0, .ref t0), (1, .int p1)]) S.1 S.2.1 dX3_runOne_56 hl (by decide) (by first | rfl | simp [m_rfc, m_catI, m_catL, m_catA]) (fun ls hl => ?_)
    exact w_X3_runOne_L58 D tc b S hr hlk hK 64 0 (x13 - 1) x6 t0 p1 _ _ _ h _ _ _ hP hS (lv_sub hl [0, 1, 2, 3, 4] rfl)
  · replace h := m_f c15 h
    refine lv_aload_n S.1 S.2.1 dX3_runOne_28 rfl (lv_at hl 2 rfl) ?_
    obtain ⟨r47, e48, h⟩ := m_bs h
    refine m_get (ci := 3) (k := 14) (T := TX3) (N := 25) S (inX3 _) hK hP (m_gR_s e48) rfl (by decide) (S.2.2.2.2 (.fieldLink RX3 33 "RuleHouse2Model" "failure" "[I") (m_mem (by decide +kernel))) rfl dX3_runOne_29 ?_
    refine lv_iload_n S.1 S.2.1 dX3_runOne_32 rfl (lv_at hl 0 rfl) ?_
    obtain ⟨a49, ea, g⟩ := m_bs h; clear h; subst ea; have h := g; clear g
    obtain ⟨x50, e51, h⟩ := m_bs h
    refine m_iald (t := 5) S hK hP (m_aI_s e51) rfl dX3_runOne_33 ?_
    refine lv_if_le (tgt := 55) S.1 S.2.1 dX3_runOne_34 (by decide) (fun c52 => ?_) (fun c52 => ?_)
    · replace h := m_t c52 h
      refine lv_iconst (v := 0) S.1 S.2.1 dX3_runOne_55 (by decide) ?_
      refine lv_istore (i := 4) (lv' := [(4, .int 0), (3, .int (x13 - 1)), (2, .int x6), (0, .ref t0), (1, .int p1)]) S.1 S.2.1 dX3_runOne_56 hl (by decide) (by first | rfl | simp [m_rfc, m_catI, m_catL, m_catA]) (fun ls hl => ?_)
      exact w_X3_runOne_L58 D tc b S hr hlk hK 64 0 (x13 - 1) x6 t0 p1 _ _ _ h _ _ _ hP hS (lv_sub hl [0, 1, 2, 3, 4] rfl)
    · replace h := m_f c52 h
      refine lv_aload_n S.1 S.2.1 dX3_runOne_37 rfl (lv_at hl 2 rfl) ?_
      refine lv_iload_n S.1 S.2.1 dX3_runOne_38 rfl (lv_at hl 3 rfl) ?_
      refine lv_bipush (v := 6) S.1 S.2.1 dX3_runOne_39 (by decide) ?_
      refine lv_bipush (v := 8) S.1 S.2.1 dX3_runOne_41 (by decide) ?_
      refine lv_aload_n S.1 S.2.1 dX3_runOne_43 rfl (lv_at hl 2 rfl) ?_
      obtain ⟨r53, e54, h⟩ := m_bs h
      refine m_get (ci := 3) (k := 16) (T := TX3) (N := 25) S (inX3 _) hK hP (m_gR_s e54) rfl (by decide) (S.2.2.2.2 (.fieldLink RX3 39 "RuleHouse2Model" "began" "[I") (m_mem (by decide +kernel))) rfl dX3_runOne_44 ?_
      refine lv_iload_n S.1 S.2.1 dX3_runOne_47 rfl (lv_at hl 0 rfl) ?_
      obtain ⟨a55, ea, g⟩ := m_bs h; clear h; subst ea; have h := g; clear g
      obtain ⟨x56, e57, h⟩ := m_bs h
      refine m_iald (t := 5) S hK hP (m_aI_s e57) rfl dX3_runOne_48 ?_
      refine lv_iconst (v := 1) S.1 S.2.1 dX3_runOne_49 (by decide) ?_
      refine lv_isub S.1 S.2.1 dX3_runOne_50 ?_
      obtain ⟨_, k61, h⟩ := m_bs h
      obtain ⟨u58, s59, e60, h⟩ := m_b_s h
      refine m_callv (va_runV (As := [.int p1, .int 6, .int 8, .int (x56 - 1)]) (rest := []) S (c_X3_fail l D tc b t0 p1 6 8 (x56 - 1) _ _ _ e60) (cwV 4 S.2.2.2.2 (m_wV kX3_fail (by decide +kernel)) rfl rfl rfl (by decide +kernel) ⟨by decide +kernel, by decide +kernel⟩) (m_preV hK hP (m_is_s k61) rfl) rfl rfl hl.1 rfl (lv_room (by first | decide | simp [m_rfc, m_catI, m_catL, m_catA])) dX3_runOne_51 ⟨by decide +kernel, by decide +kernel⟩) hS (fun H locs hP hS => ?_)
      obtain ⟨h1, h2⟩ := m_fin h; subst h1; subst h2
      exact m_vret S hr hlk hK hP hS (by decide +kernel) (by decide +kernel) dX3_runOne_54
