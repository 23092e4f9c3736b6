def f_X3_runChain_L99 : Nat → Int32 → Int32 → Int32 → Int32 → Nat → Int32 → MS → Option (Unit × MS)
  | 0, _, _, _, _, _, _, _ => none
  | f + 1, q5, q4, q3, q2, q0, q1, s0 =>
    if q5 < 0 then
      some ((), s0)
    else
      (m_gR s0 3 q0 14).bind fun r3 =>
      (m_gR s0 3 q0 19).bind fun r5 =>
      r5.bind fun a7 =>
      (m_aI s0 5 a7 q5).bind fun x8 =>
      r3.bind fun a10 =>
      (m_aI s0 5 a10 x8).bind fun x11 =>
      if x11 = 0 then
        (m_gR s0 3 q0 19).bind fun r14 =>
        r14.bind fun a16 =>
        (m_aI s0 5 a16 q5).bind fun x17 =>
        (m_is s0 3 q0).bind fun _ =>
        m_b (f_X3_runOne q0 x17 s0) fun u19 s20 =>
        f_X3_runChain_L99 f (q5 + (-1)) q4 q3 q2 q0 q1 s20
      else
        f_X3_runChain_L99 f (q5 + (-1)) q4 q3 q2 q0 q1 s0
def f_X3_runChain_L7 : Nat → Int32 → Int32 → Int32 → Nat → Int32 → MS → Option (Unit × MS)
  | 0, _, _, _, _, _, _ => none
  | f + 1, q4, q3, q2, q0, q1, s0 =>
    if q4 = 0 then
      f_X3_runChain_L99 64 (q2 - 1) q4 q3 q2 q0 q1 s0
    else
      (m_gR s0 3 q0 21).bind fun r23 =>
      r23.bind fun a25 =>
      (m_ap s0 6 a25 q3 (.int 1)).bind fun s26 =>
      (m_gR s26 3 q0 19).bind fun r28 =>
      r28.bind fun a30 =>
      (m_ap s26 5 a30 q2 (.int q3)).bind fun s31 =>
      (m_gR s31 3 q0 12).bind fun r33 =>
      r33.bind fun a35 =>
      (m_aI s31 5 a35 q3).bind fun x36 =>
      (m_is s31 3 q0).bind fun _ =>
      m_b (f_X3_classOf q0 x36 s31) fun x38 s39 =>
      if x38 = (-1) then
        (m_is s39 3 q0).bind fun _ =>
        m_b (f_X3_fail q0 q3 1 8 q3 s39) fun u55 s56 =>
        f_X3_runChain_L7 f 0 q3 (q2 + 1) q0 q1 s56
      else
        (m_gR s39 3 q0 13).bind fun r43 =>
        r43.bind fun a45 =>
        (m_aI s39 5 a45 ((4 * q3) + 2)).bind fun x46 =>
        if (x46 - 1) < 0 then
          f_X3_runChain_L7 f 0 (x46 - 1) (q2 + 1) q0 q1 s39
        else
          (m_gR s39 3 q0 21).bind fun r49 =>
          r49.bind fun a51 =>
          (m_aI s39 6 a51 (x46 - 1)).bind fun x52 =>
          if x52 = 0 then
            f_X3_runChain_L7 f 1 (x46 - 1) (q2 + 1) q0 q1 s39
          else
            f_X3_runChain_L7 f 0 (x46 - 1) (q2 + 1) q0 q1 s39
def f_X3_runChain (t0 : Nat) (p1 : Int32) (s0 : MS) : Option (Unit × MS) :=
  f_X3_runChain_L7 64 1 p1 0 t0 p1 s0
set_option maxHeartbeats 4000000 in
set_option maxRecDepth 100000 in
theorem w_X3_runChain_L99 {p : Program} {l : Launch} {e : Env} {s : State} {m : MethodId} {args : Array Value} {below : List Frame} {meth : Method} {c : Code} (D : va_G) (tc : Nat → ClassId) (b : Nat) (S : CallFix p m c cX3_runChain 6 s args wsX3_runChain RX3) (hr : meth.sig.returnType = none) (hlk : meth.locks = false) (hK : va_K D vwCl (m_tys tc) s) :
    ∀ (f : Nat) (q5 : Int32) (q4 : Int32) (q3 : Int32) (q2 : Int32) (q0 : Nat) (q1 : Int32) (s0 st' : MS) (r : Unit) (h : f_X3_runChain_L99 f q5 q4 q3 q2 q0 q1 s0 = some (r, st')) (H : Heap) (locs : List Loc) (ls : Array Slot) (hP : mw D vwCl (m_tys tc) b s0 H) (hS : va_S (m_A b) s.heap H locs) (hl : lv_has ls 6 [(5, .int q5), (4, .int q4), (3, .int q3), (2, .int q2), (0, .ref q0), (1, .int q1)]), W p l e { frames := 4, cells := 0, slots := 0, locals := 95 } s m args below meth c H locs 0 0 (MQ below (m_Q D vwCl (m_tys tc) b none st') args s 0 0 (m_A b)) (F0 m 99 ls []) := by
  intro f
  induction f with
  | zero =>
    intro q5 q4 q3 q2 q0 q1 s0 st' r h
    cases h
  | succ f ih =>
    intro q5 q4 q3 q2 q0 q1 s0 st' r h H locs ls hP hS hl
    rw [f_X3_runChain_L99] at h
    refine lv_iload S.1 S.2.1 dX3_runChain_99 (lv_at hl 0 rfl) ?_
    refine lv_if_lt (tgt := 136) S.1 S.2.1 dX3_runChain_101 (by decide) (fun c2 => ?_) (fun c2 => ?_)
    · replace h := m_t c2 h
      obtain ⟨h1, h2⟩ := m_fin h; subst h1; subst h2
      exact m_vret S hr hlk hK hP hS (by decide +kernel) (by decide +kernel) dX3_runChain_136
    · replace h := m_f c2 h
      refine lv_aload_n S.1 S.2.1 dX3_runChain_104 rfl (lv_at hl 4 rfl) ?_
      obtain ⟨r3, e4, h⟩ := m_bs h
      refine m_get (ci := 3) (k := 14) (T := TX3) (N := 25) S (inX3 _) hK hP (m_gR_s e4) rfl (by decide) (S.2.2.2.2 (.fieldLink RX3 33 "RuleHouse2Model" "failure" "[I") (m_mem (by decide +kernel))) rfl dX3_runChain_105 ?_
      refine lv_aload_n S.1 S.2.1 dX3_runChain_108 rfl (lv_at hl 4 rfl) ?_
      obtain ⟨r5, e6, h⟩ := m_bs h
      refine m_get (ci := 3) (k := 19) (T := TX3) (N := 25) S (inX3 _) hK hP (m_gR_s e6) rfl (by decide) (S.2.2.2.2 (.fieldLink RX3 48 "RuleHouse2Model" "chain" "[I") (m_mem (by decide +kernel))) rfl dX3_runChain_109 ?_
      refine lv_iload S.1 S.2.1 dX3_runChain_112 (lv_at hl 0 rfl) ?_
      obtain ⟨a7, ea, g⟩ := m_bs h; clear h; subst ea; have h := g; clear g
      obtain ⟨x8, e9, h⟩ := m_bs h
      refine m_iald (t := 5) S hK hP (m_aI_s e9) rfl dX3_runChain_114 ?_
      obtain ⟨a10, ea, g⟩ := m_bs h; clear h; subst ea; have h := g; clear g
      obtain ⟨x11, e12, h⟩ := m_bs h
      refine m_iald (t := 5) S hK hP (m_aI_s e12) rfl dX3_runChain_115 ?_
      refine lv_if_ne (tgt := 130) S.1 S.2.1 dX3_runChain_116 (by decide) (fun c13 => ?_) (fun c13 => ?_)
      · replace h := m_f c13 h
        refine lv_iinc (v := q5 + (-1)) (lv' := [(5, .int (q5 + (-1))), (4, .int q4), (3, .int q3), (2, .int q2), (0, .ref q0), (1, .int q1)]) S.1 S.2.1 dX3_runChain_130 hl (k := 0) rfl rfl (by decide) (by first | rfl | simp [m_rfc, m_catI, m_catL, m_catA]) (fun ls hl => ?_)
        refine lv_goto (tgt := 99) S.1 S.2.1 dX3_runChain_133 (by decide) ?_
        exact ih (q5 + (-1)) q4 q3 q2 q0 q1 _ _ _ h _ _ _ hP hS (lv_sub hl [0, 1, 2, 3, 4, 5] rfl)
      · replace h := m_t c13 h
        refine lv_aload_n S.1 S.2.1 dX3_runChain_119 rfl (lv_at hl 4 rfl) ?_
        refine lv_aload_n S.1 S.2.1 dX3_runChain_120 rfl (lv_at hl 4 rfl) ?_
        obtain ⟨r14, e15, h⟩ := m_bs h
        refine m_get (ci := 3) (k := 19) (T := TX3) (N := 25) S (inX3 _) hK hP (m_gR_s e15) rfl (by decide) (S.2.2.2.2 (.fieldLink RX3 48 "RuleHouse2Model" "chain" "[I") (m_mem (by decide +kernel))) rfl dX3_runChain_121 ?_
        refine lv_iload S.1 S.2.1 dX3_runChain_124 (lv_at hl 0 rfl) ?_
        obtain ⟨a16, ea, g⟩ := m_bs h; clear h; subst ea; have h := g; clear g
        obtain ⟨x17, e18, h⟩ := m_bs h
        refine m_iald (t := 5) S hK hP (m_aI_s e18) rfl dX3_runChain_126 ?_
        obtain ⟨_, k22, h⟩ := m_bs h
        obtain ⟨u19, s20, e21, h⟩ := m_b_s h
        refine m_callv (va_runV (As := [.int x17]) (rest := []) S (c_X3_runOne l D tc b q0 x17 _ _ _ e21) (cwV 1 S.2.2.2.2 (m_wV kX3_runOne (by decide +kernel)) rfl rfl rfl (by decide +kernel) ⟨by decide +kernel, by decide +kernel⟩) (m_preV hK hP (m_is_s k22) rfl) rfl rfl hl.1 rfl (lv_room (by first | decide | simp [m_rfc, m_catI, m_catL, m_catA])) dX3_runChain_127 ⟨by decide +kernel, by decide +kernel⟩) hS (fun H locs hP hS => ?_)
        refine lv_iinc (v := q5 + (-1)) (lv' := [(5, .int (q5 + (-1))), (4, .int q4), (3, .int q3), (2, .int q2), (0, .ref q0), (1, .int q1)]) S.1 S.2.1 dX3_runChain_130 hl (k := 0) rfl rfl (by decide) (by first | rfl | simp [m_rfc, m_catI, m_catL, m_catA]) (fun ls hl => ?_)
        refine lv_goto (tgt := 99) S.1 S.2.1 dX3_runChain_133 (by decide) ?_
        exact ih (q5 + (-1)) q4 q3 q2 q0 q1 _ _ _ h _ _ _ hP hS (lv_sub hl [0, 1, 2, 3, 4, 5] rfl)
set_option maxHeartbeats 4000000 in
set_option maxRecDepth 100000 in
theorem w_X3_runChain_L7 {p : Program} {l : Launch} {e : Env} {s : State} {m : MethodId} {args : Array Value} {below : List Frame} {meth : Method} {c : Code} (D : va_G) (tc : Nat → ClassId) (b : Nat) (S : CallFix p m c cX3_runChain 6 s args wsX3_runChain RX3) (hr : meth.sig.returnType = none) (hlk : meth.locks = false) (hK : va_K D vwCl (m_tys tc) s) :
    ∀ (f : Nat) (q4 : Int32) (q3 : Int32) (q2 : Int32) (q0 : Nat) (q1 : Int32) (s0 st' : MS) (r : Unit) (h : f_X3_runChain_L7 f q4 q3 q2 q0 q1 s0 = some (r, st')) (H : Heap) (locs : List Loc) (ls : Array Slot) (hP : mw D vwCl (m_tys tc) b s0 H) (hS : va_S (m_A b) s.heap H locs) (hl : lv_has ls 6 [(4, .int q4), (3, .int q3), (2, .int q2), (0, .ref q0), (1, .int q1)]), W p l e { frames := 4, cells := 0, slots := 0, locals := 95 } s m args below meth c H locs 0 0 (MQ below (m_Q D vwCl (m_tys tc) b none st') args s 0 0 (m_A b)) (F0 m 7 ls []) := by
  intro f
  induction f with
  | zero =>
    intro q4 q3 q2 q0 q1 s0 st' r h
    cases h
  | succ f ih =>
    intro q4 q3 q2 q0 q1 s0 st' r h H locs ls hP hS hl
    rw [f_X3_runChain_L7] at h
    refine lv_iload S.1 S.2.1 dX3_runChain_7 (lv_at hl 0 rfl) ?_
    refine lv_if_eq (tgt := 94) S.1 S.2.1 dX3_runChain_9 (by decide) (fun c1 => ?_) (fun c1 => ?_)
    · replace h := m_t c1 h
      refine lv_iload_n S.1 S.2.1 dX3_runChain_94 rfl (lv_at hl 2 rfl) ?_
      refine lv_iconst (v := 1) S.1 S.2.1 dX3_runChain_95 (by decide) ?_
      refine lv_isub S.1 S.2.1 dX3_runChain_96 ?_
      refine lv_istore (i := 5) (lv' := [(5, .int (q2 - 1)), (4, .int q4), (3, .int q3), (2, .int q2), (0, .ref q0), (1, .int q1)]) S.1 S.2.1 dX3_runChain_97 hl (by decide) (by first | rfl | simp [m_rfc, m_catI, m_catL, m_catA]) (fun ls hl => ?_)
      exact w_X3_runChain_L99 D tc b S hr hlk hK 64 (q2 - 1) q4 q3 q2 q0 q1 _ _ _ h _ _ _ hP hS (lv_sub hl [0, 1, 2, 3, 4, 5] rfl)
    · replace h := m_f c1 h
      refine lv_aload_n S.1 S.2.1 dX3_runChain_12 rfl (lv_at hl 3 rfl) ?_
      obtain ⟨r23, e24, h⟩ := m_bs h
      refine m_get (ci := 3) (k := 21) (T := TX3) (N := 25) S (inX3 _) hK hP (m_gR_s e24) rfl (by decide) (S.2.2.2.2 (.fieldLink RX3 54 "RuleHouse2Model" "run" "[Z") (m_mem (by decide +kernel))) rfl dX3_runChain_13 ?_
      refine lv_iload_n S.1 S.2.1 dX3_runChain_16 rfl (lv_at hl 1 rfl) ?_
      refine lv_iconst (v := 1) S.1 S.2.1 dX3_runChain_17 (by decide) ?_
      obtain ⟨a25, ea, g⟩ := m_bs h; clear h; subst ea; have h := g; clear g
      obtain ⟨s26, e27, h⟩ := m_bs h
      refine m_zast (t := 6) S hK hP hS e27 (by decide) rfl (by decide) dX3_runChain_18 (fun H locs hP hS => ?_)
      refine lv_aload_n S.1 S.2.1 dX3_runChain_19 rfl (lv_at hl 3 rfl) ?_
      obtain ⟨r28, e29, h⟩ := m_bs h
      refine m_get (ci := 3) (k := 19) (T := TX3) (N := 25) S (inX3 _) hK hP (m_gR_s e29) rfl (by decide) (S.2.2.2.2 (.fieldLink RX3 48 "RuleHouse2Model" "chain" "[I") (m_mem (by decide +kernel))) rfl dX3_runChain_20 ?_
      refine lv_iload_n S.1 S.2.1 dX3_runChain_23 rfl (lv_at hl 2 rfl) ?_
      refine lv_iload_n S.1 S.2.1 dX3_runChain_24 rfl (lv_at hl 1 rfl) ?_
      obtain ⟨a30, ea, g⟩ := m_bs h; clear h; subst ea; have h := g; clear g
      obtain ⟨s31, e32, h⟩ := m_bs h
      refine m_iast (t := 5) S hK hP hS e32 (by decide) rfl dX3_runChain_25 (fun H locs hP hS => ?_)
      refine lv_iinc (v := q2 + 1) (lv' := [(2, .int (q2 + 1)), (4, .int q4), (3, .int q3), (0, .ref q0), (1, .int q1)]) S.1 S.2.1 dX3_runChain_26 hl (k := 2) rfl rfl (by decide) (by first | rfl | simp [m_rfc, m_catI, m_catL, m_catA]) (fun ls hl => ?_)
      refine lv_aload_n S.1 S.2.1 dX3_runChain_29 rfl (lv_at hl 3 rfl) ?_
      refine lv_aload_n S.1 S.2.1 dX3_runChain_30 rfl (lv_at hl 3 rfl) ?_
      obtain ⟨r33, e34, h⟩ := m_bs h
      refine m_get (ci := 3) (k := 12) (T := TX3) (N := 25) S (inX3 _) hK hP (m_gR_s e34) rfl (by decide) (S.2.2.2.2 (.fieldLink RX3 27 "RuleHouse2Model" "rule" "[I") (m_mem (by decide +kernel))) rfl dX3_runChain_31 ?_
      refine lv_iload_n S.1 S.2.1 dX3_runChain_34 rfl (lv_at hl 2 rfl) ?_
      obtain ⟨a35, ea, g⟩ := m_bs h; clear h; subst ea; have h := g; clear g
      obtain ⟨x36, e37, h⟩ := m_bs h
      refine m_iald (t := 5) S hK hP (m_aI_s e37) rfl dX3_runChain_35 ?_
      obtain ⟨_, k41, h⟩ := m_bs h
      obtain ⟨x38, s39, e40, h⟩ := m_b_s h
      refine m_calli (va_runV (As := [.int x36]) (rest := []) S (c_X3_classOf l D tc b q0 x36 _ _ _ e40) (cwV 1 S.2.2.2.2 (m_wV kX3_classOf (by decide +kernel)) rfl rfl rfl (by decide +kernel) ⟨by decide +kernel, by decide +kernel⟩) (m_preV hK hP (m_is_s k41) rfl) rfl rfl hl.1 rfl (lv_room (by first | decide | simp [m_rfc, m_catI, m_catL, m_catA])) dX3_runChain_36 ⟨by decide +kernel, by decide +kernel⟩) hS (fun H locs hP hS => ?_)
      refine lv_iconst (v := (-1)) S.1 S.2.1 dX3_runChain_39 (by decide) ?_
      refine lv_icmp_ne (tgt := 58) S.1 S.2.1 dX3_runChain_40 (by decide) (fun c42 => ?_) (fun c42 => ?_)
      · replace h := m_f c42 h
        refine lv_aload_n S.1 S.2.1 dX3_runChain_58 rfl (lv_at hl 3 rfl) ?_
        obtain ⟨r43, e44, h⟩ := m_bs h
        refine m_get (ci := 3) (k := 13) (T := TX3) (N := 25) S (inX3 _) hK hP (m_gR_s e44) rfl (by decide) (S.2.2.2.2 (.fieldLink RX3 30 "RuleHouse2Model" "attributes" "[I") (m_mem (by decide +kernel))) rfl dX3_runChain_59 ?_
        refine lv_iconst (v := 4) S.1 S.2.1 dX3_runChain_62 (by decide) ?_
        refine lv_iload_n S.1 S.2.1 dX3_runChain_63 rfl (lv_at hl 2 rfl) ?_
        refine lv_imul S.1 S.2.1 dX3_runChain_64 ?_
        refine lv_iconst (v := 2) S.1 S.2.1 dX3_runChain_65 (by decide) ?_
        refine lv_iadd S.1 S.2.1 dX3_runChain_66 ?_
        obtain ⟨a45, ea, g⟩ := m_bs h; clear h; subst ea; have h := g; clear g
        obtain ⟨x46, e47, h⟩ := m_bs h
        refine m_iald (t := 5) S hK hP (m_aI_s e47) rfl dX3_runChain_67 ?_
        refine lv_iconst (v := 1) S.1 S.2.1 dX3_runChain_68 (by decide) ?_
        refine lv_isub S.1 S.2.1 dX3_runChain_69 ?_
        refine lv_istore_n (i := 3) (lv' := [(3, .int (x46 - 1)), (2, .int (q2 + 1)), (4, .int q4), (0, .ref q0), (1, .int q1)]) S.1 S.2.1 dX3_runChain_70 rfl hl (by decide) (by first | rfl | simp [m_rfc, m_catI, m_catL, m_catA]) (fun ls hl => ?_)
        refine lv_iload_n S.1 S.2.1 dX3_runChain_71 rfl (lv_at hl 0 rfl) ?_
        refine lv_if_lt (tgt := 88) S.1 S.2.1 dX3_runChain_72 (by decide) (fun c48 => ?_) (fun c48 => ?_)
        · replace h := m_t c48 h
          refine lv_iconst (v := 0) S.1 S.2.1 dX3_runChain_88 (by decide) ?_
          refine lv_istore (i := 4) (lv' := [(4, .int 0), (3, .int (x46 - 1)), (2, .int (q2 + 1)), (0, .ref q0), (1, .int q1)]) S.1 S.2.1 dX3_runChain_89 hl (by decide) (by first | rfl | simp [m_rfc, m_catI, m_catL, m_catA]) (fun ls hl => ?_)
          refine lv_goto (tgt := 7) S.1 S.2.1 dX3_runChain_91 (by decide) ?_
          exact ih 0 (x46 - 1) (q2 + 1) q0 q1 _ _ _ h _ _ _ hP hS (lv_sub hl [0, 1, 2, 3, 4] rfl)
        · replace h := m_f c48 h
          refine lv_aload_n S.1 S.2.1 dX3_runChain_75 rfl (lv_at hl 3 rfl) ?_
          obtain ⟨r49, e50, h⟩ := m_bs h
          refine m_get (ci := 3) (k := 21) (T := TX3) (N := 25) S (inX3 _) hK hP (m_gR_s e50) rfl (by decide) (S.2.2.2.2 (.fieldLink RX3 54 "RuleHouse2Model" "run" "[Z") (m_mem (by decide +kernel))) rfl dX3_runChain_76 ?_
          refine lv_iload_n S.1 S.2.1 dX3_runChain_79 rfl (lv_at hl 0 rfl) ?_
          obtain ⟨a51, ea, g⟩ := m_bs h; clear h; subst ea; have h := g; clear g
          obtain ⟨x52, e53, h⟩ := m_bs h
          refine m_zald (t := 6) S hK hP (m_aI_s e53) rfl dX3_runChain_80 ?_
          refine lv_if_ne (tgt := 88) S.1 S.2.1 dX3_runChain_81 (by decide) (fun c54 => ?_) (fun c54 => ?_)
          · replace h := m_f c54 h
            refine lv_iconst (v := 0) S.1 S.2.1 dX3_runChain_88 (by decide) ?_
            refine lv_istore (i := 4) (lv' := [(4, .int 0), (3, .int (x46 - 1)), (2, .int (q2 + 1)), (0, .ref q0), (1, .int q1)]) S.1 S.2.1 dX3_runChain_89 hl (by decide) (by first | rfl | simp [m_rfc, m_catI, m_catL, m_catA]) (fun ls hl => ?_)
            refine lv_goto (tgt := 7) S.1 S.2.1 dX3_runChain_91 (by decide) ?_
            exact ih 0 (x46 - 1) (q2 + 1) q0 q1 _ _ _ h _ _ _ hP hS (lv_sub hl [0, 1, 2, 3, 4] rfl)
          · replace h := m_t c54 h
            refine lv_iconst (v := 1) S.1 S.2.1 dX3_runChain_84 (by decide) ?_
            refine lv_goto (tgt := 89) S.1 S.2.1 dX3_runChain_85 (by decide) ?_
            refine lv_istore (i := 4) (lv' := [(4, .int 1), (3, .int (x46 - 1)), (2, .int (q2 + 1)), (0, .ref q0), (1, .int q1)]) S.1 S.2.1 dX3_runChain_89 hl (by decide) (by first | rfl | simp [m_rfc, m_catI, m_catL, m_catA]) (fun ls hl => ?_)
            refine lv_goto (tgt := 7) S.1 S.2.1 dX3_runChain_91 (by decide) ?_
            exact ih 1 (x46 - 1) (q2 + 1) q0 q1 _ _ _ h _ _ _ hP hS (lv_sub hl [0, 1, 2, 3, 4] rfl)
      · replace h := m_t c42 h
        refine lv_aload_n S.1 S.2.1 dX3_runChain_43 rfl (lv_at hl 3 rfl) ?_
        refine lv_iload_n S.1 S.2.1 dX3_runChain_44 rfl (lv_at hl 2 rfl) ?_
        refine lv_iconst (v := 1) S.1 S.2.1 dX3_runChain_45 (by decide) ?_
        refine lv_bipush (v := 8) S.1 S.2.1 dX3_runChain_46 (by decide) ?_
        refine lv_iload_n S.1 S.2.1 dX3_runChain_48 rfl (lv_at hl 2 rfl) ?_
        obtain ⟨_, k58, h⟩ := m_bs h
        obtain ⟨u55, s56, e57, h⟩ := m_b_s h
        refine m_callv (va_runV (As := [.int q3, .int 1, .int 8, .int q3]) (rest := []) S (c_X3_fail l D tc b q0 q3 1 8 q3 _ _ _ e57) (cwV 4 S.2.2.2.2 (m_wV kX3_fail (by decide +kernel)) rfl rfl rfl (by decide +kernel) ⟨by decide +kernel, by decide +kernel⟩) (m_preV hK hP (m_is_s k58) rfl) rfl rfl hl.1 rfl (lv_room (by first | decide | simp [m_rfc, m_catI, m_catL, m_catA])) dX3_runChain_49 ⟨by decide +kernel, by decide +kernel⟩) hS (fun H locs hP hS => ?_)
        refine lv_iconst (v := 0) S.1 S.2.1 dX3_runChain_52 (by decide) ?_
        refine lv_istore (i := 4) (lv' := [(4, .int 0), (2, .int (q2 + 1)), (3, .int q3), (0, .ref q0), (1, .int q1)]) S.1 S.2.1 dX3_runChain_53 hl (by decide) (by first | rfl | simp [m_rfc, m_catI, m_catL, m_catA]) (fun ls hl => ?_)
        refine lv_goto (tgt := 7) S.1 S.2.1 dX3_runChain_55 (by decide) ?_
        exact ih 0 q3 (q2 + 1) q0 q1 _ _ _ h _ _ _ hP hS (lv_sub hl [0, 2, 1, 3, 4] rfl)
set_option maxHeartbeats 4000000 in
set_option maxRecDepth 100000 in
theorem c_X3_runChain (l : Launch) (D : va_G) (tc : Nat → ClassId) (b : Nat) (t0 : Nat) (p1 : Int32) (s0 st' : MS) (r : Unit) (h : f_X3_runChain t0 p1 s0 = some (r, st')) : Met l yX3_runChain wsX3_runChain ({ frames := 4, cells := 0, slots := 0, locals := 95 }) (m_Pc D vwCl (m_tys tc) b s0 [.ref t0, .int p1]) (m_Q D vwCl (m_tys tc) b none st') 0 0 (m_A b) := by
  unfold f_X3_runChain at h
  refine m_met (cc := cX3_runChain) (maxL := 6) (ret := none) (by decide) rfl (by first | exact Nat.le_of_ble_eq_true rfl | simp [lg_sl, m_rfc, m_catI, m_catL, m_catA]) ?_
  intro p e s m below meth c ls S hr hlk hnm hK hP hl hS
  replace hl : lv_has ls 6 [(0, .ref t0), (1, .int p1)] := by first | exact hl | simpa [lv_args, m_rfc, m_catI, m_catL, m_catA] using hl
  refine lv_iconst (v := 0) S.1 S.2.1 dX3_runChain_0 (by decide) ?_
  refine lv_istore_n (i := 2) (lv' := [(2, .int 0), (0, .ref t0), (1, .int p1)]) S.1 S.2.1 dX3_runChain_1 rfl hl (by decide) (by first | rfl | simp [m_rfc, m_catI, m_catL, m_catA]) (fun ls hl => ?_)
  refine lv_iload_n S.1 S.2.1 dX3_runChain_2 rfl (lv_at hl 2 rfl) ?_
  refine lv_istore_n (i := 3) (lv' := [(3, .int p1), (2, .int 0), (0, .ref t0), (1, .int p1)]) S.1 S.2.1 dX3_runChain_3 rfl hl (by decide) (by first | rfl | simp [m_rfc, m_catI, m_catL, m_catA]) (fun ls hl => ?_)
  refine lv_iconst (v := 1) S.1 S.2.1 dX3_runChain_4 (by decide) ?_
  refine lv_istore (i := 4) (lv' := [(4, .int 1), (3, .int p1), (2, .int 0), (0, .ref t0), (1, .int p1)]) S.1 S.2.1 dX3_runChain_5 hl (by decide) (by first | rfl | simp [m_rfc, m_catI, m_catL, m_catA]) (fun ls hl => ?_)
  exact w_X3_runChain_L7 D tc b S hr hlk hK 64 1 p1 0 t0 p1 _ _ _ h _ _ _ hP hS (lv_sub hl [0, 1, 2, 3, 4] rfl)

def f_X3_run (t0 : Nat) (p1 : Int32) (s0 : MS) : Option (Int32 × MS) :=
  (m_p s0 3 t0 0 (.int 0)).bind fun s1 =>
  (m_is s1 3 t0).bind fun _ =>
  m_b (f_X3_isTarget t0 p1 s1) fun x3 s4 =>
  if x3 = 0 then
    some ((-1), s4)
  else
    (m_gR s4 3 t0 21).bind fun r8 =>
    r8.bind fun a10 =>
    (m_aI s4 6 a10 p1).bind fun x11 =>
    if x11 = 0 then
      (m_is s4 3 t0).bind fun _ =>
      m_b (f_X3_runChain t0 p1 s4) fun u30 s31 =>
      (m_gR s31 3 t0 14).bind fun r34 =>
      r34.bind fun a36 =>
      (m_aI s31 5 a36 p1).bind fun x37 =>
      if x37 ≤ 0 then
        (m_gR s31 3 t0 17).bind fun r40 =>
        r40.bind fun a42 =>
        (m_aI s31 5 a42 p1).bind fun x43 =>
        some (x43, s31)
      else
        (m_gR s31 3 t0 14).bind fun r45 =>
        r45.bind fun a47 =>
        (m_aI s31 5 a47 p1).bind fun x48 =>
        some ((-10) - x48, s31)
    else
      (m_gR s4 3 t0 14).bind fun r14 =>
      r14.bind fun a16 =>
      (m_aI s4 5 a16 p1).bind fun x17 =>
      if x17 ≤ 0 then
        (m_gR s4 3 t0 17).bind fun r20 =>
        r20.bind fun a22 =>
        (m_aI s4 5 a22 p1).bind fun x23 =>
        some (x23, s4)
      else
        (m_gR s4 3 t0 14).bind fun r25 =>
        r25.bind fun a27 =>
        (m_aI s4 5 a27 p1).bind fun x28 =>
        some ((-10) - x28, s4)
set_option maxHeartbeats 4000000 in
set_option maxRecDepth 100000 in
theorem c_X3_run (l : Launch) (D : va_G) (tc : Nat → ClassId) (b : Nat) (t0 : Nat) (p1 : Int32) (s0 st' : MS) (r : Int32) (h : f_X3_run t0 p1 s0 = some (r, st')) : Met l yX3_run wsX3_run ({ frames := 5, cells := 0, slots := 0, locals := 120 }) (m_Pc D vwCl (m_tys tc) b s0 [.ref t0, .int p1]) (m_Q D vwCl (m_tys tc) b (some (.int r)) st') 0 0 (m_A b) := by
  unfold f_X3_run at h
  refine m_met (cc := cX3_run) (maxL := 2) (ret := (some .int)) (by decide) rfl (by first | exact Nat.le_of_ble_eq_true rfl | simp [lg_sl, m_rfc, m_catI, m_catL, m_catA]) ?_
  intro p e s m below meth c ls S hr hlk hnm hK hP hl hS
  replace hl : lv_has ls 2 [(0, .ref t0), (1, .int p1)] := by first | exact hl | simpa [lv_args, m_rfc, m_catI, m_catL, m_catA] using hl
  refine lv_aload_n S.1 S.2.1 dX3_run_0 rfl (lv_at hl 0 rfl) ?_
  refine lv_iconst (v := 0) S.1 S.2.1 dX3_run_1 (by decide) ?_
  obtain ⟨s1, e2, h⟩ := m_bs h
  refine m_put (ci := 3) (k := 0) (T := TX3) (N := 25) (v := .int 0) (ty := .int) S (inX3 _) tyX3 tX3 nX3 hK hP hS e2 rfl (by decide) (S.2.2.2.2 (.fieldLink RX3 71 "RuleHouse2Model" "code" "I") (m_mem (by decide +kernel))) rfl rfl (by decide +kernel) rfl rfl dX3_run_2 (fun H locs hP hS => ?_)
  refine lv_aload_n S.1 S.2.1 dX3_run_5 rfl (lv_at hl 0 rfl) ?_
  refine lv_iload_n S.1 S.2.1 dX3_run_6 rfl (lv_at hl 1 rfl) ?_
  obtain ⟨_, k6, h⟩ := m_bs h
  obtain ⟨x3, s4, e5, h⟩ := m_b_s h
  refine m_calli (va_runV (As := [.int p1]) (rest := []) S (c_X3_isTarget l D tc b t0 p1 _ _ _ e5) (cwV 1 S.2.2.2.2 (m_wV kX3_isTarget (by decide +kernel)) rfl rfl rfl (by decide +kernel) ⟨by decide +kernel, by decide +kernel⟩) (m_preV hK hP (m_is_s k6) rfl) rfl rfl hl.1 rfl (lv_room (by first | decide | simp [m_rfc, m_catI, m_catL, m_catA])) dX3_run_7 ⟨by decide +kernel, by decide +kernel⟩) hS (fun H locs hP hS => ?_)
  refine lv_if_ne (tgt := 15) S.1 S.2.1 dX3_run_10 (by decide) (fun c7 => ?_) (fun c7 => ?_)
  · replace h := m_f c7 h
    refine lv_aload_n S.1 S.2.1 dX3_run_15 rfl (lv_at hl 0 rfl) ?_
    obtain ⟨r8, e9, h⟩ := m_bs h
    refine m_get (ci := 3) (k := 21) (T := TX3) (N := 25) S (inX3 _) hK hP (m_gR_s e9) rfl (by decide) (S.2.2.2.2 (.fieldLink RX3 54 "RuleHouse2Model" "run" "[Z") (m_mem (by decide +kernel))) rfl dX3_run_16 ?_
    refine lv_iload_n S.1 S.2.1 dX3_run_19 rfl (lv_at hl 1 rfl) ?_
    obtain ⟨a10, ea, g⟩ := m_bs h; clear h; subst ea; have h := g; clear g
    obtain ⟨x11, e12, h⟩ := m_bs h
    refine m_zald (t := 6) S hK hP (m_aI_s e12) rfl dX3_run_20 ?_
    refine lv_if_ne (tgt := 29) S.1 S.2.1 dX3_run_21 (by decide) (fun c13 => ?_) (fun c13 => ?_)
    · replace h := m_f c13 h
      refine lv_aload_n S.1 S.2.1 dX3_run_29 rfl (lv_at hl 0 rfl) ?_
      obtain ⟨r14, e15, h⟩ := m_bs h
      refine m_get (ci := 3) (k := 14) (T := TX3) (N := 25) S (inX3 _) hK hP (m_gR_s e15) rfl (by decide) (S.2.2.2.2 (.fieldLink RX3 33 "RuleHouse2Model" "failure" "[I") (m_mem (by decide +kernel))) rfl dX3_run_30 ?_
      refine lv_iload_n S.1 S.2.1 dX3_run_33 rfl (lv_at hl 1 rfl) ?_
      obtain ⟨a16, ea, g⟩ := m_bs h; clear h; subst ea; have h := g; clear g
      obtain ⟨x17, e18, h⟩ := m_bs h
      refine m_iald (t := 5) S hK hP (m_aI_s e18) rfl dX3_run_34 ?_
      refine lv_if_le (tgt := 50) S.1 S.2.1 dX3_run_35 (by decide) (fun c19 => ?_) (fun c19 => ?_)
      · replace h := m_t c19 h
        refine lv_aload_n S.1 S.2.1 dX3_run_50 rfl (lv_at hl 0 rfl) ?_
        obtain ⟨r20, e21, h⟩ := m_bs h
        refine m_get (ci := 3) (k := 17) (T := TX3) (N := 25) S (inX3 _) hK hP (m_gR_s e21) rfl (by decide) (S.2.2.2.2 (.fieldLink RX3 42 "RuleHouse2Model" "mine" "[I") (m_mem (by decide +kernel))) rfl dX3_run_51 ?_
        refine lv_iload_n S.1 S.2.1 dX3_run_54 rfl (lv_at hl 1 rfl) ?_
        obtain ⟨a22, ea, g⟩ := m_bs h; clear h; subst ea; have h := g; clear g
        obtain ⟨x23, e24, h⟩ := m_bs h
        refine m_iald (t := 5) S hK hP (m_aI_s e24) rfl dX3_run_55 ?_
        obtain ⟨h1, h2⟩ := m_fin h; subst h1; subst h2
        exact m_iret S hr hlk hK hP hS (by decide +kernel) (by decide +kernel) dX3_run_56
      · replace h := m_f c19 h
        refine lv_bipush (v := (-10)) S.1 S.2.1 dX3_run_38 (by decide) ?_
        refine lv_aload_n S.1 S.2.1 dX3_run_40 rfl (lv_at hl 0 rfl) ?_
        obtain ⟨r25, e26, h⟩ := m_bs h
        refine m_get (ci := 3) (k := 14) (T := TX3) (N := 25) S (inX3 _) hK hP (m_gR_s e26) rfl (by decide) (S.2.2.2.2 (.fieldLink RX3 33 "RuleHouse2Model" "failure" "[I") (m_mem (by decide +kernel))) rfl dX3_run_41 ?_
        refine lv_iload_n S.1 S.2.1 dX3_run_44 rfl (lv_at hl 1 rfl) ?_
        obtain ⟨a27, ea, g⟩ := m_bs h; clear h; subst ea; have h := g; clear g
        obtain ⟨x28, e29, h⟩ := m_bs h
        refine m_iald (t := 5) S hK hP (m_aI_s e29) rfl dX3_run_45 ?_
        refine lv_isub S.1 S.2.1 dX3_run_46 ?_
        refine lv_goto (tgt := 56) S.1 S.2.1 dX3_run_47 (by decide) ?_
        obtain ⟨h1, h2⟩ := m_fin h; subst h1; subst h2
        exact m_iret S hr hlk hK hP hS (by decide +kernel) (by decide +kernel) dX3_run_56
    · replace h := m_t c13 h
      refine lv_aload_n S.1 S.2.1 dX3_run_24 rfl (lv_at hl 0 rfl) ?_
      refine lv_iload_n S.1 S.2.1 dX3_run_25 rfl (lv_at hl 1 rfl) ?_
      obtain ⟨_, k33, h⟩ := m_bs h
      obtain ⟨u30, s31, e32, h⟩ := m_b_s h
      refine m_callv (va_runV (As := [.int p1]) (rest := []) S (c_X3_runChain l D tc b t0 p1 _ _ _ e32) (cwV 1 S.2.2.2.2 (m_wV kX3_runChain (by decide +kernel)) rfl rfl rfl (by decide +kernel) ⟨by decide +kernel, by decide +kernel⟩) (m_preV hK hP (m_is_s k33) rfl) rfl rfl hl.1 rfl (lv_room (by first | decide | simp [m_rfc, m_catI, m_catL, m_catA])) dX3_run_26 ⟨by decide +kernel, by decide +kernel⟩) hS (fun H locs hP hS => ?_)
      refine lv_aload_n S.1 S.2.1 dX3_run_29 rfl (lv_at hl 0 rfl) ?_
      obtain ⟨r34, e35, h⟩ := m_bs h
      refine m_get (ci := 3) (k := 14) (T := TX3) (N := 25) S (inX3 _) hK hP (m_gR_s e35) rfl (by decide) (S.2.2.2.2 (.fieldLink RX3 33 "RuleHouse2Model" "failure" "[I") (m_mem (by decide +kernel))) rfl dX3_run_30 ?_
      refine lv_iload_n S.1 S.2.1 dX3_run_33 rfl (lv_at hl 1 rfl) ?_
      obtain ⟨a36, ea, g⟩ := m_bs h; clear h; subst ea; have h := g; clear g
      obtain ⟨x37, e38, h⟩ := m_bs h
      refine m_iald (t := 5) S hK hP (m_aI_s e38) rfl dX3_run_34 ?_
      refine lv_if_le (tgt := 50) S.1 S.2.1 dX3_run_35 (by decide) (fun c39 => ?_) (fun c39 => ?_)
      · replace h := m_t c39 h
        refine lv_aload_n S.1 S.2.1 dX3_run_50 rfl (lv_at hl 0 rfl) ?_
        obtain ⟨r40, e41, h⟩ := m_bs h
        refine m_get (ci := 3) (k := 17) (T := TX3) (N := 25) S (inX3 _) hK hP (m_gR_s e41) rfl (by decide) (S.2.2.2.2 (.fieldLink RX3 42 "RuleHouse2Model" "mine" "[I") (m_mem (by decide +kernel))) rfl dX3_run_51 ?_
        refine lv_iload_n S.1 S.2.1 dX3_run_54 rfl (lv_at hl 1 rfl) ?_
        obtain ⟨a42, ea, g⟩ := m_bs h; clear h; subst ea; have h := g; clear g
        obtain ⟨x43, e44, h⟩ := m_bs h
        refine m_iald (t := 5) S hK hP (m_aI_s e44) rfl dX3_run_55 ?_
        obtain ⟨h1, h2⟩ := m_fin h; subst h1; subst h2
        exact m_iret S hr hlk hK hP hS (by decide +kernel) (by decide +kernel) dX3_run_56
      · replace h := m_f c39 h
        refine lv_bipush (v := (-10)) S.1 S.2.1 dX3_run_38 (by decide) ?_
        refine lv_aload_n S.1 S.2.1 dX3_run_40 rfl (lv_at hl 0 rfl) ?_
        obtain ⟨r45, e46, h⟩ := m_bs h
        refine m_get (ci := 3) (k := 14) (T := TX3) (N := 25) S (inX3 _) hK hP (m_gR_s e46) rfl (by decide) (S.2.2.2.2 (.fieldLink RX3 33 "RuleHouse2Model" "failure" "[I") (m_mem (by decide +kernel))) rfl dX3_run_41 ?_
        refine lv_iload_n S.1 S.2.1 dX3_run_44 rfl (lv_at hl 1 rfl) ?_
        obtain ⟨a47, ea, g⟩ := m_bs h; clear h; subst ea; have h := g; clear g
        obtain ⟨x48, e49, h⟩ := m_bs h
        refine m_iald (t := 5) S hK hP (m_aI_s e49) rfl dX3_run_45 ?_
        refine lv_isub S.1 S.2.1 dX3_run_46 ?_
        refine lv_goto (tgt := 56) S.1 S.2.1 dX3_run_47 (by decide) ?_
        obtain ⟨h1, h2⟩ := m_fin h; subst h1; subst h2
        exact m_iret S hr hlk hK hP hS (by decide +kernel) (by decide +kernel) dX3_run_56
  · replace h := m_t c7 h
    refine lv_iconst (v := (-1)) S.1 S.2.1 dX3_run_13 (by decide) ?_
    obtain ⟨h1, h2⟩ := m_fin h; subst h1; subst h2
    exact m_iret S hr hlk hK hP hS (by decide +kernel) (by decide +kernel) dX3_run_14

def f_X3_action (t0 : Nat) (p1 : Int32) (p2 : Int32) (s0 : MS) : Option (Int32 × MS) :=
  (m_p s0 3 t0 0 (.int 0)).bind fun s1 =>
  if p1 < 0 then
    some ((-1), s1)
  else
    (m_gI s1 3 t0 5).bind fun x4 =>
    if p1 < x4 then
      (m_gR s1 3 t0 23).bind fun r7 =>
      r7.bind fun a9 =>
      (m_aI s1 5 a9 p1).bind fun x10 =>
      (m_gR s1 3 t0 12).bind fun r12 =>
      r12.bind fun a14 =>
      (m_aI s1 5 a14 x10).bind fun x15 =>
      if p2 = 0 then
        some (x10, s1)
      else
        if p2 = 1 then
          (m_gR s1 3 t0 24).bind fun r35 =>
          r35.bind fun a37 =>
          (m_aI s1 5 a37 p1).bind fun x38 =>
          some (x38, s1)
        else
          if p2 = 2 then
            (m_gR s1 3 t0 7).bind fun r20 =>
            r20.bind fun a22 =>
            (m_aI s1 5 a22 x15).bind fun x23 =>
            (m_gR s1 3 t0 8).bind fun r25 =>
            r25.bind fun a27 =>
            (m_aI s1 5 a27 x15).bind fun x28 =>
            (m_gR s1 3 t0 24).bind fun r30 =>
            r30.bind fun a32 =>
            (m_aI s1 5 a32 p1).bind fun x33 =>
            some ((((((x23 * 31) + x28) * 31) + x10) * 31) + x33, s1)
          else
            some ((-2), s1)
    else
      some ((-1), s1)
set_option maxHeartbeats 4000000 in
set_option maxRecDepth 100000 in
theorem c_X3_action (l : Launch) (D : va_G) (tc : Nat → ClassId) (b : Nat) (t0 : Nat) (p1 : Int32) (p2 : Int32) (s0 st' : MS) (r : Int32) (h : f_X3_action t0 p1 p2 s0 = some (r, st')) : Met l yX3_action wsX3_action ({ frames := 0, cells := 0, slots := 0, locals := 0 }) (m_Pc D vwCl (m_tys tc) b s0 [.ref t0, .int p1, .int p2]) (m_Q D vwCl (m_tys tc) b (some (.int r)) st') 0 0 (m_A b) := by
  unfold f_X3_action at h
  refine m_met (cc := cX3_action) (maxL := 5) (ret := (some .int)) (by decide) rfl (by first | exact Nat.le_of_ble_eq_true rfl | simp [lg_sl, m_rfc, m_catI, m_catL, m_catA]) ?_
  intro p e s m below meth c ls S hr hlk hnm hK hP hl hS
  replace hl : lv_has ls 5 [(0, .ref t0), (1, .int p1), (2, .int p2)] := by first | exact hl | simpa [lv_args, m_rfc, m_catI, m_catL, m_catA] using hl
  refine lv_aload_n S.1 S.2.1 dX3_action_0 rfl (lv_at hl 0 rfl) ?_
  refine lv_iconst (v := 0) S.1 S.2.1 dX3_action_1 (by decide) ?_
  obtain ⟨s1, e2, h⟩ := m_bs h
  refine m_put (ci := 3) (k := 0) (T := TX3) (N := 25) (v := .int 0) (ty := .int) S (inX3 _) tyX3 tX3 nX3 hK hP hS e2 rfl (by decide) (S.2.2.2.2 (.fieldLink RX3 71 "RuleHouse2Model" "code" "I") (m_mem (by decide +kernel))) rfl rfl (by decide +kernel) rfl rfl dX3_action_2 (fun H locs hP hS => ?_)
  refine lv_iload_n S.1 S.2.1 dX3_action_5 rfl (lv_at hl 1 rfl) ?_
  refine lv_if_lt (tgt := 17) S.1 S.2.1 dX3_action_6 (by decide) (fun c3 => ?_) (fun c3 => ?_)
  · replace h := m_t c3 h
    refine lv_iconst (v := (-1)) S.1 S.2.1 dX3_action_17 (by decide) ?_
    obtain ⟨h1, h2⟩ := m_fin h; subst h1; subst h2
    exact m_iret S hr hlk hK hP hS (by decide +kernel) (by decide +kernel) dX3_action_18
  · replace h := m_f c3 h
    refine lv_iload_n S.1 S.2.1 dX3_action_9 rfl (lv_at hl 1 rfl) ?_
    refine lv_aload_n S.1 S.2.1 dX3_action_10 rfl (lv_at hl 0 rfl) ?_
    obtain ⟨x4, e5, h⟩ := m_bs h
    refine m_get (ci := 3) (k := 5) (T := TX3) (N := 25) S (inX3 _) hK hP (m_gI_s e5) rfl (by decide) (S.2.2.2.2 (.fieldLink RX3 102 "RuleHouse2Model" "actions" "I") (m_mem (by decide +kernel))) rfl dX3_action_11 ?_
    refine lv_icmp_lt (tgt := 19) S.1 S.2.1 dX3_action_14 (by decide) (fun c6 => ?_) (fun c6 => ?_)
    · replace h := m_t c6 h
      refine lv_aload_n S.1 S.2.1 dX3_action_19 rfl (lv_at hl 0 rfl) ?_
      obtain ⟨r7, e8, h⟩ := m_bs h
      refine m_get (ci := 3) (k := 23) (T := TX3) (N := 25) S (inX3 _) hK hP (m_gR_s e8) rfl (by decide) (S.2.2.2.2 (.fieldLink RX3 60 "RuleHouse2Model" "of" "[I") (m_mem (by decide +kernel))) rfl dX3_action_20 ?_
      refine lv_iload_n S.1 S.2.1 dX3_action_23 rfl (lv_at hl 1 rfl) ?_
      obtain ⟨a9, ea, g⟩ := m_bs h; clear h; subst ea; have h := g; clear g
      obtain ⟨x10, e11, h⟩ := m_bs h
      refine m_iald (t := 5) S hK hP (m_aI_s e11) rfl dX3_action_24 ?_
      refine lv_istore_n (i := 3) (lv' := [(3, .int x10), (0, .ref t0), (1, .int p1), (2, .int p2)]) S.1 S.2.1 dX3_action_25 rfl hl (by decide) (by first | rfl | simp [m_rfc, m_catI, m_catL, m_catA]) (fun ls hl => ?_)
      refine lv_aload_n S.1 S.2.1 dX3_action_26 rfl (lv_at hl 1 rfl) ?_
      obtain ⟨r12, e13, h⟩ := m_bs h
      refine m_get (ci := 3) (k := 12) (T := TX3) (N := 25) S (inX3 _) hK hP (m_gR_s e13) rfl (by decide) (S.2.2.2.2 (.fieldLink RX3 27 "RuleHouse2Model" "rule" "[I") (m_mem (by decide +kernel))) rfl dX3_action_27 ?_
      refine lv_iload_n S.1 S.2.1 dX3_action_30 rfl (lv_at hl 0 rfl) ?_
      obtain ⟨a14, ea, g⟩ := m_bs h; clear h; subst ea; have h := g; clear g
      obtain ⟨x15, e16, h⟩ := m_bs h
      refine m_iald (t := 5) S hK hP (m_aI_s e16) rfl dX3_action_31 ?_
      refine lv_istore (i := 4) (lv' := [(4, .int x15), (3, .int x10), (0, .ref t0), (1, .int p1), (2, .int p2)]) S.1 S.2.1 dX3_action_32 hl (by decide) (by first | rfl | simp [m_rfc, m_catI, m_catL, m_catA]) (fun ls hl => ?_)
      refine lv_iload_n S.1 S.2.1 dX3_action_34 rfl (lv_at hl 4 rfl) ?_
      refine lv_if_ne (tgt := 42) S.1 S.2.1 dX3_action_35 (by decide) (fun c17 => ?_) (fun c17 => ?_)
      · replace h := m_f c17 h
        refine lv_iload_n S.1 S.2.1 dX3_action_42 rfl (lv_at hl 4 rfl) ?_
        refine lv_iconst (v := 1) S.1 S.2.1 dX3_action_43 (by decide) ?_
        refine lv_icmp_ne (tgt := 56) S.1 S.2.1 dX3_action_44 (by decide) (fun c18 => ?_) (fun c18 => ?_)
        · replace h := m_f c18 h
          refine lv_iload_n S.1 S.2.1 dX3_action_56 rfl (lv_at hl 4 rfl) ?_
          refine lv_iconst (v := 2) S.1 S.2.1 dX3_action_57 (by decide) ?_
          refine lv_icmp_ne (tgt := 97) S.1 S.2.1 dX3_action_58 (by decide) (fun c19 => ?_) (fun c19 => ?_)
          · replace h := m_f c19 h
            refine lv_bipush (v := (-2)) S.1 S.2.1 dX3_action_97 (by decide) ?_
            obtain ⟨h1, h2⟩ := m_fin h; subst h1; subst h2
            exact m_iret S hr hlk hK hP hS (by decide +kernel) (by decide +kernel) dX3_action_99
          · replace h := m_t c19 h
            refine lv_aload_n S.1 S.2.1 dX3_action_61 rfl (lv_at hl 2 rfl) ?_
            obtain ⟨r20, e21, h⟩ := m_bs h
            refine m_get (ci := 3) (k := 7) (T := TX3) (N := 25) S (inX3 _) hK hP (m_gR_s e21) rfl (by decide) (S.2.2.2.2 (.fieldLink RX3 7 "RuleHouse2Model" "edition" "[I") (m_mem (by decide +kernel))) rfl dX3_action_62 ?_
            refine lv_iload S.1 S.2.1 dX3_action_65 (lv_at hl 0 rfl) ?_
            obtain ⟨a22, ea, g⟩ := m_bs h; clear h; subst ea; have h := g; clear g
            obtain ⟨x23, e24, h⟩ := m_bs h
            refine m_iald (t := 5) S hK hP (m_aI_s e24) rfl dX3_action_67 ?_
            refine lv_bipush (v := 31) S.1 S.2.1 dX3_action_68 (by decide) ?_
            refine lv_imul S.1 S.2.1 dX3_action_70 ?_
            refine lv_aload_n S.1 S.2.1 dX3_action_71 rfl (lv_at hl 2 rfl) ?_
            obtain ⟨r25, e26, h⟩ := m_bs h
            refine m_get (ci := 3) (k := 8) (T := TX3) (N := 25) S (inX3 _) hK hP (m_gR_s e26) rfl (by decide) (S.2.2.2.2 (.fieldLink RX3 13 "RuleHouse2Model" "does" "[I") (m_mem (by decide +kernel))) rfl dX3_action_72 ?_
            refine lv_iload S.1 S.2.1 dX3_action_75 (lv_at hl 0 rfl) ?_
            obtain ⟨a27, ea, g⟩ := m_bs h; clear h; subst ea; have h := g; clear g
            obtain ⟨x28, e29, h⟩ := m_bs h
            refine m_iald (t := 5) S hK hP (m_aI_s e29) rfl dX3_action_77 ?_
            refine lv_iadd S.1 S.2.1 dX3_action_78 ?_
            refine lv_bipush (v := 31) S.1 S.2.1 dX3_action_79 (by decide) ?_
            refine lv_imul S.1 S.2.1 dX3_action_81 ?_
            refine lv_iload_n S.1 S.2.1 dX3_action_82 rfl (lv_at hl 1 rfl) ?_
            refine lv_iadd S.1 S.2.1 dX3_action_83 ?_
            refine lv_bipush (v := 31) S.1 S.2.1 dX3_action_84 (by decide) ?_
            refine lv_imul S.1 S.2.1 dX3_action_86 ?_
            refine lv_aload_n S.1 S.2.1 dX3_action_87 rfl (lv_at hl 2 rfl) ?_
            obtain ⟨r30, e31, h⟩ := m_bs h
            refine m_get (ci := 3) (k := 24) (T := TX3) (N := 25) S (inX3 _) hK hP (m_gR_s e31) rfl (by decide) (S.2.2.2.2 (.fieldLink RX3 63 "RuleHouse2Model" "number" "[I") (m_mem (by decide +kernel))) rfl dX3_action_88 ?_
            refine lv_iload_n S.1 S.2.1 dX3_action_91 rfl (lv_at hl 3 rfl) ?_
            obtain ⟨a32, ea, g⟩ := m_bs h; clear h; subst ea; have h := g; clear g
            obtain ⟨x33, e34, h⟩ := m_bs h
            refine m_iald (t := 5) S hK hP (m_aI_s e34) rfl dX3_action_92 ?_
            refine lv_iadd S.1 S.2.1 dX3_action_93 ?_
            refine lv_goto (tgt := 99) S.1 S.2.1 dX3_action_94 (by decide) ?_
            obtain ⟨h1, h2⟩ := m_fin h; subst h1; subst h2
            exact m_iret S hr hlk hK hP hS (by decide +kernel) (by decide +kernel) dX3_action_99
        · replace h := m_t c18 h
          refine lv_aload_n S.1 S.2.1 dX3_action_47 rfl (lv_at hl 2 rfl) ?_
          obtain ⟨r35, e36, h⟩ := m_bs h
          refine m_get (ci := 3) (k := 24) (T := TX3) (N := 25) S (inX3 _) hK hP (m_gR_s e36) rfl (by decide) (S.2.2.2.2 (.fieldLink RX3 63 "RuleHouse2Model" "number" "[I") (m_mem (by decide +kernel))) rfl dX3_action_48 ?_
          refine lv_iload_n S.1 S.2.1 dX3_action_51 rfl (lv_at hl 3 rfl) ?_
          obtain ⟨a37, ea, g⟩ := m_bs h; clear h; subst ea; have h := g; clear g
          obtain ⟨x38, e39, h⟩ := m_bs h
          refine m_iald (t := 5) S hK hP (m_aI_s e39) rfl dX3_action_52 ?_
          refine lv_goto (tgt := 99) S.1 S.2.1 dX3_action_53 (by decide) ?_
          obtain ⟨h1, h2⟩ := m_fin h; subst h1; subst h2
          exact m_iret S hr hlk hK hP hS (by decide +kernel) (by decide +kernel) dX3_action_99
      · replace h := m_t c17 h
        refine lv_iload_n S.1 S.2.1 dX3_action_38 rfl (lv_at hl 1 rfl) ?_
        refine lv_goto (tgt := 99) S.1 S.2.1 dX3_action_39 (by decide) ?_
        obtain ⟨h1, h2⟩ := m_fin h; subst h1; subst h2
        exact m_iret S hr hlk hK hP hS (by decide +kernel) (by decide +kernel) dX3_action_99
    · replace h := m_f c6 h
      refine lv_iconst (v := (-1)) S.1 S.2.1 dX3_action_17 (by decide) ?_
      obtain ⟨h1, h2⟩ := m_fin h; subst h1; subst h2
      exact m_iret S hr hlk hK hP hS (by decide +kernel) (by decide +kernel) dX3_action_18

def f_X3_provider (t0 : Nat) (p1 : Int32) (p2 : Int32) (s0 : MS) : Option (Int32 × MS) :=
  (m_p s0 3 t0 0 (.int 0)).bind fun s1 =>
  (m_is s1 3 t0).bind fun _ =>
  m_b (f_X3_isTarget t0 p1 s1) fun x3 s4 =>
  if x3 = 0 then
    some (0, s4)
  else
    if p2 < 0 then
      some (0, s4)
    else
      if 3 ≤ p2 then
        some (0, s4)
      else
        (m_gR s4 3 t0 22).bind fun r10 =>
        r10.bind fun a12 =>
        (m_aI s4 6 a12 ((3 * p1) + p2)).bind fun x13 =>
        if x13 = 0 then
          some (0, s4)
        else
          (m_gR s4 3 t0 20).bind fun r16 =>
          r16.bind fun a18 =>
          (m_aI s4 5 a18 ((3 * p1) + p2)).bind fun x19 =>
          some (x19, s4)
set_option maxHeartbeats 4000000 in
set_option maxRecDepth 100000 in
theorem c_X3_provider (l : Launch) (D : va_G) (tc : Nat → ClassId) (b : Nat) (t0 : Nat) (p1 : Int32) (p2 : Int32) (s0 st' : MS) (r : Int32) (h : f_X3_provider t0 p1 p2 s0 = some (r, st')) : Met l yX3_provider wsX3_provider ({ frames := 1, cells := 0, slots := 0, locals := 21 }) (m_Pc D vwCl (m_tys tc) b s0 [.ref t0, .int p1, .int p2]) (m_Q D vwCl (m_tys tc) b (some (.int r)) st') 0 0 (m_A b) := by
  unfold f_X3_provider at h
  refine m_met (cc := cX3_provider) (maxL := 3) (ret := (some .int)) (by decide) rfl (by first | exact Nat.le_of_ble_eq_true rfl | simp [lg_sl, m_rfc, m_catI, m_catL, m_catA]) ?_
  intro p e s m below meth c ls S hr hlk hnm hK hP hl hS
  replace hl : lv_has ls 3 [(0, .ref t0), (1, .int p1), (2, .int p2)] := by first | exact hl | simpa [lv_args, m_rfc, m_catI, m_catL, m_catA] using hl
  refine lv_aload_n S.1 S.2.1 dX3_provider_0 rfl (lv_at hl 0 rfl) ?_
  refine lv_iconst (v := 0) S.1 S.2.1 dX3_provider_1 (by decide) ?_
  obtain ⟨s1, e2, h⟩ := m_bs h
  refine m_put (ci := 3) (k := 0) (T := TX3) (N := 25) (v := .int 0) (ty := .int) S (inX3 _) tyX3 tX3 nX3 hK hP hS e2 rfl (by decide) (S.2.2.2.2 (.fieldLink RX3 71 "RuleHouse2Model" "code" "I") (m_mem (by decide +kernel))) rfl rfl (by decide +kernel) rfl rfl dX3_provider_2 (fun H locs hP hS => ?_)
  refine lv_aload_n S.1 S.2.1 dX3_provider_5 rfl (lv_at hl 0 rfl) ?_
  refine lv_iload_n S.1 S.2.1 dX3_provider_6 rfl (lv_at hl 1 rfl) ?_
  obtain ⟨_, k6, h⟩ := m_bs h
  obtain ⟨x3, s4, e5, h⟩ := m_b_s h
  refine m_calli (va_runV (As := [.int p1]) (rest := []) S (c_X3_isTarget l D tc b t0 p1 _ _ _ e5) (cwV 1 S.2.2.2.2 (m_wV kX3_isTarget (by decide +kernel)) rfl rfl rfl (by decide +kernel) ⟨by decide +kernel, by decide +kernel⟩) (m_preV hK hP (m_is_s k6) rfl) rfl rfl hl.1 rfl (lv_room (by first | decide | simp [m_rfc, m_catI, m_catL, m_catA])) dX3_provider_7 ⟨by decide +kernel, by decide +kernel⟩) hS (fun H locs hP hS => ?_)
  refine lv_if_eq (tgt := 48) S.1 S.2.1 dX3_provider_10 (by decide) (fun c7 => ?_) (fun c7 => ?_)
  · replace h := m_t c7 h
    refine lv_iconst (v := 0) S.1 S.2.1 dX3_provider_48 (by decide) ?_
    obtain ⟨h1, h2⟩ := m_fin h; subst h1; subst h2
    exact m_iret S hr hlk hK hP hS (by decide +kernel) (by decide +kernel) dX3_provider_49
  · replace h := m_f c7 h
    refine lv_iload_n S.1 S.2.1 dX3_provider_13 rfl (lv_at hl 2 rfl) ?_
    refine lv_if_lt (tgt := 48) S.1 S.2.1 dX3_provider_14 (by decide) (fun c8 => ?_) (fun c8 => ?_)
    · replace h := m_t c8 h
      refine lv_iconst (v := 0) S.1 S.2.1 dX3_provider_48 (by decide) ?_
      obtain ⟨h1, h2⟩ := m_fin h; subst h1; subst h2
      exact m_iret S hr hlk hK hP hS (by decide +kernel) (by decide +kernel) dX3_provider_49
    · replace h := m_f c8 h
      refine lv_iload_n S.1 S.2.1 dX3_provider_17 rfl (lv_at hl 2 rfl) ?_
      refine lv_iconst (v := 3) S.1 S.2.1 dX3_provider_18 (by decide) ?_
      refine lv_icmp_ge (tgt := 48) S.1 S.2.1 dX3_provider_19 (by decide) (fun c9 => ?_) (fun c9 => ?_)
      · replace h := m_t c9 h
        refine lv_iconst (v := 0) S.1 S.2.1 dX3_provider_48 (by decide) ?_
        obtain ⟨h1, h2⟩ := m_fin h; subst h1; subst h2
        exact m_iret S hr hlk hK hP hS (by decide +kernel) (by decide +kernel) dX3_provider_49
      · replace h := m_f c9 h
        refine lv_aload_n S.1 S.2.1 dX3_provider_22 rfl (lv_at hl 0 rfl) ?_
        obtain ⟨r10, e11, h⟩ := m_bs h
        refine m_get (ci := 3) (k := 22) (T := TX3) (N := 25) S (inX3 _) hK hP (m_gR_s e11) rfl (by decide) (S.2.2.2.2 (.fieldLink RX3 57 "RuleHouse2Model" "has" "[Z") (m_mem (by decide +kernel))) rfl dX3_provider_23 ?_
        refine lv_iconst (v := 3) S.1 S.2.1 dX3_provider_26 (by decide) ?_
        refine lv_iload_n S.1 S.2.1 dX3_provider_27 rfl (lv_at hl 1 rfl) ?_
        refine lv_imul S.1 S.2.1 dX3_provider_28 ?_
        refine lv_iload_n S.1 S.2.1 dX3_provider_29 rfl (lv_at hl 2 rfl) ?_
        refine lv_iadd S.1 S.2.1 dX3_provider_30 ?_
        obtain ⟨a12, ea, g⟩ := m_bs h; clear h; subst ea; have h := g; clear g
        obtain ⟨x13, e14, h⟩ := m_bs h
        refine m_zald (t := 6) S hK hP (m_aI_s e14) rfl dX3_provider_31 ?_
        refine lv_if_eq (tgt := 48) S.1 S.2.1 dX3_provider_32 (by decide) (fun c15 => ?_) (fun c15 => ?_)
        · replace h := m_t c15 h
          refine lv_iconst (v := 0) S.1 S.2.1 dX3_provider_48 (by decide) ?_
          obtain ⟨h1, h2⟩ := m_fin h; subst h1; subst h2
          exact m_iret S hr hlk hK hP hS (by decide +kernel) (by decide +kernel) dX3_provider_49
        · replace h := m_f c15 h
          refine lv_aload_n S.1 S.2.1 dX3_provider_35 rfl (lv_at hl 0 rfl) ?_
          obtain ⟨r16, e17, h⟩ := m_bs h
          refine m_get (ci := 3) (k := 20) (T := TX3) (N := 25) S (inX3 _) hK hP (m_gR_s e17) rfl (by decide) (S.2.2.2.2 (.fieldLink RX3 51 "RuleHouse2Model" "provider" "[I") (m_mem (by decide +kernel))) rfl dX3_provider_36 ?_
          refine lv_iconst (v := 3) S.1 S.2.1 dX3_provider_39 (by decide) ?_
          refine lv_iload_n S.1 S.2.1 dX3_provider_40 rfl (lv_at hl 1 rfl) ?_
          refine lv_imul S.1 S.2.1 dX3_provider_41 ?_
          refine lv_iload_n S.1 S.2.1 dX3_provider_42 rfl (lv_at hl 2 rfl) ?_
          refine lv_iadd S.1 S.2.1 dX3_provider_43 ?_
          obtain ⟨a18, ea, g⟩ := m_bs h; clear h; subst ea; have h := g; clear g
          obtain ⟨x19, e20, h⟩ := m_bs h
          refine m_iald (t := 5) S hK hP (m_aI_s e20) rfl dX3_provider_44 ?_
          refine lv_goto (tgt := 49) S.1 S.2.1 dX3_provider_45 (by decide) ?_
          obtain ⟨h1, h2⟩ := m_fin h; subst h1; subst h2
          exact m_iret S hr hlk hK hP hS (by decide +kernel) (by decide +kernel) dX3_provider_49

def f_X3_failed (t0 : Nat) (p1 : Int32) (p2 : Int32) (s0 : MS) : Option (Int32 × MS) :=
  (m_p s0 3 t0 0 (.int 0)).bind fun s1 =>
  (m_is s1 3 t0).bind fun _ =>
  m_b (f_X3_isTarget t0 p1 s1) fun x3 s4 =>
  if x3 = 0 then
    some ((-1), s4)
  else
    if p2 < 0 then
      some ((-2), s4)
    else
      if p2 ≤ 2 then
        (m_gR s4 3 t0 21).bind fun r10 =>
        r10.bind fun a12 =>
        (m_aI s4 6 a12 p1).bind fun x13 =>
        if x13 = 0 then
          some ((-3), s4)
        else
          if p2 = 0 then
            (m_gR s4 3 t0 14).bind fun r28 =>
            r28.bind fun a30 =>
            (m_aI s4 5 a30 p1).bind fun x31 =>
            some (x31, s4)
          else
            if p2 = 1 then
              (m_gR s4 3 t0 15).bind fun r23 =>
              r23.bind fun a25 =>
              (m_aI s4 5 a25 p1).bind fun x26 =>
              some (x26, s4)
            else
              (m_gR s4 3 t0 16).bind fun r18 =>
              r18.bind fun a20 =>
              (m_aI s4 5 a20 p1).bind fun x21 =>
              some (x21, s4)
      else
        some ((-2), s4)
set_option maxHeartbeats 4000000 in
set_option maxRecDepth 100000 in
theorem c_X3_failed (l : Launch) (D : va_G) (tc : Nat → ClassId) (b : Nat) (t0 : Nat) (p1 : Int32) (p2 : Int32) (s0 st' : MS) (r : Int32) (h : f_X3_failed t0 p1 p2 s0 = some (r, st')) : Met l yX3_failed wsX3_failed ({ frames := 1, cells := 0, slots := 0, locals := 21 }) (m_Pc D vwCl (m_tys tc) b s0 [.ref t0, .int p1, .int p2]) (m_Q D vwCl (m_tys tc) b (some (.int r)) st') 0 0 (m_A b) := by
  unfold f_X3_failed at h
  refine m_met (cc := cX3_failed) (maxL := 3) (ret := (some .int)) (by decide) rfl (by first | exact Nat.le_of_ble_eq_true rfl | simp [lg_sl, m_rfc, m_catI, m_catL, m_catA]) ?_
  intro p e s m below meth c ls S hr hlk hnm hK hP hl hS
  replace hl : lv_has ls 3 [(0, .ref t0), (1, .int p1), (2, .int p2)] := by first | exact hl | simpa [lv_args, m_rfc, m_catI, m_catL, m_catA] using hl
  refine lv_aload_n S.1 S.2.1 dX3_failed_0 rfl (lv_at hl 0 rfl) ?_
  refine lv_iconst (v := 0) S.1 S.2.1 dX3_failed_1 (by decide) ?_
  obtain ⟨s1, e2, h⟩ := m_bs h
  refine m_put (ci := 3) (k := 0) (T := TX3) (N := 25) (v := .int 0) (ty := .int) S (inX3 _) tyX3 tX3 nX3 hK hP hS e2 rfl (by decide) (S.2.2.2.2 (.fieldLink RX3 71 "RuleHouse2Model" "code" "I") (m_mem (by decide +kernel))) rfl rfl (by decide +kernel) rfl rfl dX3_failed_2 (fun H locs hP hS => ?_)
  refine lv_aload_n S.1 S.2.1 dX3_failed_5 rfl (lv_at hl 0 rfl) ?_
  refine lv_iload_n S.1 S.2.1 dX3_failed_6 rfl (lv_at hl 1 rfl) ?_
  obtain ⟨_, k6, h⟩ := m_bs h
  obtain ⟨x3, s4, e5, h⟩ := m_b_s h
  refine m_calli (va_runV (As := [.int p1]) (rest := []) S (c_X3_isTarget l D tc b t0 p1 _ _ _ e5) (cwV 1 S.2.2.2.2 (m_wV kX3_isTarget (by decide +kernel)) rfl rfl rfl (by decide +kernel) ⟨by decide +kernel, by decide +kernel⟩) (m_preV hK hP (m_is_s k6) rfl) rfl rfl hl.1 rfl (lv_room (by first | decide | simp [m_rfc, m_catI, m_catL, m_catA])) dX3_failed_7 ⟨by decide +kernel, by decide +kernel⟩) hS (fun H locs hP hS => ?_)
  refine lv_if_ne (tgt := 15) S.1 S.2.1 dX3_failed_10 (by decide) (fun c7 => ?_) (fun c7 => ?_)
  · replace h := m_f c7 h
    refine lv_iload_n S.1 S.2.1 dX3_failed_15 rfl (lv_at hl 2 rfl) ?_
    refine lv_if_lt (tgt := 24) S.1 S.2.1 dX3_failed_16 (by decide) (fun c8 => ?_) (fun c8 => ?_)
    · replace h := m_t c8 h
      refine lv_bipush (v := (-2)) S.1 S.2.1 dX3_failed_24 (by decide) ?_
      obtain ⟨h1, h2⟩ := m_fin h; subst h1; subst h2
      exact m_iret S hr hlk hK hP hS (by decide +kernel) (by decide +kernel) dX3_failed_26
    · replace h := m_f c8 h
      refine lv_iload_n S.1 S.2.1 dX3_failed_19 rfl (lv_at hl 2 rfl) ?_
      refine lv_iconst (v := 2) S.1 S.2.1 dX3_failed_20 (by decide) ?_
      refine lv_icmp_le (tgt := 27) S.1 S.2.1 dX3_failed_21 (by decide) (fun c9 => ?_) (fun c9 => ?_)
      · replace h := m_t c9 h
        refine lv_aload_n S.1 S.2.1 dX3_failed_27 rfl (lv_at hl 0 rfl) ?_
        obtain ⟨r10, e11, h⟩ := m_bs h
        refine m_get (ci := 3) (k := 21) (T := TX3) (N := 25) S (inX3 _) hK hP (m_gR_s e11) rfl (by decide) (S.2.2.2.2 (.fieldLink RX3 54 "RuleHouse2Model" "run" "[Z") (m_mem (by decide +kernel))) rfl dX3_failed_28 ?_
        refine lv_iload_n S.1 S.2.1 dX3_failed_31 rfl (lv_at hl 1 rfl) ?_
        obtain ⟨a12, ea, g⟩ := m_bs h; clear h; subst ea; have h := g; clear g
        obtain ⟨x13, e14, h⟩ := m_bs h
        refine m_zald (t := 6) S hK hP (m_aI_s e14) rfl dX3_failed_32 ?_
        refine lv_if_ne (tgt := 39) S.1 S.2.1 dX3_failed_33 (by decide) (fun c15 => ?_) (fun c15 => ?_)
        · replace h := m_f c15 h
          refine lv_iload_n S.1 S.2.1 dX3_failed_39 rfl (lv_at hl 2 rfl) ?_
          refine lv_if_ne (tgt := 52) S.1 S.2.1 dX3_failed_40 (by decide) (fun c16 => ?_) (fun c16 => ?_)
          · replace h := m_f c16 h
            refine lv_iload_n S.1 S.2.1 dX3_failed_52 rfl (lv_at hl 2 rfl) ?_
            refine lv_iconst (v := 1) S.1 S.2.1 dX3_failed_53 (by decide) ?_
            refine lv_icmp_ne (tgt := 66) S.1 S.2.1 dX3_failed_54 (by decide) (fun c17 => ?_) (fun c17 => ?_)
            · replace h := m_f c17 h
              refine lv_aload_n S.1 S.2.1 dX3_failed_66 rfl (lv_at hl 0 rfl) ?_
              obtain ⟨r18, e19, h⟩ := m_bs h
              refine m_get (ci := 3) (k := 16) (T := TX3) (N := 25) S (inX3 _) hK hP (m_gR_s e19) rfl (by decide) (S.2.2.2.2 (.fieldLink RX3 39 "RuleHouse2Model" "began" "[I") (m_mem (by decide +kernel))) rfl dX3_failed_67 ?_
              refine lv_iload_n S.1 S.2.1 dX3_failed_70 rfl (lv_at hl 1 rfl) ?_
              obtain ⟨a20, ea, g⟩ := m_bs h; clear h; subst ea; have h := g; clear g
              obtain ⟨x21, e22, h⟩ := m_bs h
              refine m_iald (t := 5) S hK hP (m_aI_s e22) rfl dX3_failed_71 ?_
              obtain ⟨h1, h2⟩ := m_fin h; subst h1; subst h2
              exact m_iret S hr hlk hK hP hS (by decide +kernel) (by decide +kernel) dX3_failed_72
            · replace h := m_t c17 h
              refine lv_aload_n S.1 S.2.1 dX3_failed_57 rfl (lv_at hl 0 rfl) ?_
              obtain ⟨r23, e24, h⟩ := m_bs h
              refine m_get (ci := 3) (k := 15) (T := TX3) (N := 25) S (inX3 _) hK hP (m_gR_s e24) rfl (by decide) (S.2.2.2.2 (.fieldLink RX3 36 "RuleHouse2Model" "bit" "[I") (m_mem (by decide +kernel))) rfl dX3_failed_58 ?_
              refine lv_iload_n S.1 S.2.1 dX3_failed_61 rfl (lv_at hl 1 rfl) ?_
              obtain ⟨a25, ea, g⟩ := m_bs h; clear h; subst ea; have h := g; clear g
              obtain ⟨x26, e27, h⟩ := m_bs h
              refine m_iald (t := 5) S hK hP (m_aI_s e27) rfl dX3_failed_62 ?_
              refine lv_goto (tgt := 72) S.1 S.2.1 dX3_failed_63 (by decide) ?_
              obtain ⟨h1, h2⟩ := m_fin h; subst h1; subst h2
              exact m_iret S hr hlk hK hP hS (by decide +kernel) (by decide +kernel) dX3_failed_72
          · replace h := m_t c16 h
            refine lv_aload_n S.1 S.2.1 dX3_failed_43 rfl (lv_at hl 0 rfl) ?_
            obtain ⟨r28, e29, h⟩ := m_bs h
            refine m_get (ci := 3) (k := 14) (T := TX3) (N := 25) S (inX3 _) hK hP (m_gR_s e29) rfl (by decide) (S.2.2.2.2 (.fieldLink RX3 33 "RuleHouse2Model" "failure" "[I") (m_mem (by decide +kernel))) rfl dX3_failed_44 ?_
            refine lv_iload_n S.1 S.2.1 dX3_failed_47 rfl (lv_at hl 1 rfl) ?_
            obtain ⟨a30, ea, g⟩ := m_bs h; clear h; subst ea; have h := g; clear g
            obtain ⟨x31, e32, h⟩ := m_bs h
            refine m_iald (t := 5) S hK hP (m_aI_s e32) rfl dX3_failed_48 ?_
            refine lv_goto (tgt := 72) S.1 S.2.1 dX3_failed_49 (by decide) ?_
            obtain ⟨h1, h2⟩ := m_fin h; subst h1; subst h2
            exact m_iret S hr hlk hK hP hS (by decide +kernel) (by decide +kernel) dX3_failed_72
        · replace h := m_t c15 h
          refine lv_bipush (v := (-3)) S.1 S.2.1 dX3_failed_36 (by decide) ?_
          obtain ⟨h1, h2⟩ := m_fin h; subst h1; subst h2
          exact m_iret S hr hlk hK hP hS (by decide +kernel) (by decide +kernel) dX3_failed_38
      · replace h := m_f c9 h
        refine lv_bipush (v := (-2)) S.1 S.2.1 dX3_failed_24 (by decide) ?_
        obtain ⟨h1, h2⟩ := m_fin h; subst h1; subst h2
        exact m_iret S hr hlk hK hP hS (by decide +kernel) (by decide +kernel) dX3_failed_26
  · replace h := m_t c7 h
    refine lv_iconst (v := (-1)) S.1 S.2.1 dX3_failed_13 (by decide) ?_
    obtain ⟨h1, h2⟩ := m_fin h; subst h1; subst h2
    exact m_iret S hr hlk hK hP hS (by decide +kernel) (by decide +kernel) dX3_failed_14
