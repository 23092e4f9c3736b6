def f_X0_divide (t0 : Nat) (p1 : Int32) (p2 : Int64) (p3 : Int64) (s0 : MS) : Option (Option Int64 × MS) :=
  (m_is s0 0 t0).bind fun _ =>
  m_b (f_X0_classAt t0 p1 s0) fun r1 s2 =>
  m_nn r1
    (some (some 0, s2))
    (fun a5 =>
    (m_is s2 0 t0).bind fun _ =>
    m_b (f_X0_ensureMade t0 (some a5) s2) fun x6 s7 =>
    if x6 = 0 then
      some (some 0, s7)
    else
      (m_gL s7 1 a5 5).bind fun l11 =>
      (m_p s7 1 a5 5 (.long (l11 + 1))).bind fun s13 =>
      if (lg_cmp p3 0) = 0 then
        some (none, (s13.1 + 1, s13.2.1, s13.2.2))
      else
        if (p3 : Int64) = 0 then none else
        some (some (p2 / p3), s13))
set_option maxHeartbeats 4000000 in
set_option maxRecDepth 100000 in
theorem c_X0_divide_r (l : Launch) (D : va_G) (tc : Nat → ClassId) (b : Nat) (t0 : Nat) (p1 : Int32) (p2 : Int64) (p3 : Int64) (s0 st' : MS) (r : Int64) (h : f_X0_divide t0 p1 p2 p3 s0 = some (some r, st')) : Met l yX0_divide wsX0_divide ({ frames := 7, cells := 1, slots := 6, locals := 160 }) (m_PcE D vwCl (m_tys tc) b s0 [.ref t0, .int p1, .long p2, .long p3]) (m_Q D vwCl (m_tys tc) b (some (.long r)) st') 1 6 (m_A b) := by
  unfold f_X0_divide at h
  refine m_metE (cc := cX0_divide) (maxL := 7) (ret := (some .long)) (by decide) rfl (by first | exact Nat.le_of_ble_eq_true rfl | simp [lg_sl, m_rfc, m_catI, m_catL, m_catA]) ?_
  intro p e s m below meth c ls S hr hlk hnm hK hP hl hS hE
  replace hl : lv_has ls 7 [(0, .ref t0), (1, .int p1), (2, .long p2), (4, .long p3)] := by first | exact hl | simpa [lv_args, m_rfc, m_catI, m_catL, m_catA] using hl
  refine lv_aload_n S.1 S.2.1 dX0_divide_0 rfl (lv_at hl 0 rfl) ?_
  refine lv_iload_n S.1 S.2.1 dX0_divide_1 rfl (lv_at hl 1 rfl) ?_
  obtain ⟨_, k4, h⟩ := m_bs h
  obtain ⟨r1, s2, e3, h⟩ := m_b_s h
  refine m_callr (va_runV (As := [.int p1]) (rest := []) S (c_X0_classAt l D tc b t0 p1 _ _ _ e3) (cwV 1 S.2.2.2.2 (m_wV kX0_classAt (by decide +kernel)) rfl rfl rfl (by decide +kernel) ⟨by decide +kernel, by decide +kernel⟩) (m_preV hK hP (m_is_s k4) rfl) rfl rfl hl.1 rfl (lv_room (by first | decide | simp [m_rfc, m_catI, m_catL, m_catA])) dX0_divide_2 ⟨by decide +kernel, by decide +kernel⟩) hS (fun H locs hP hS => ?_)
  refine m_astore (i := 6) (lv' := [(6, va_rf r1), (0, .ref t0), (1, .int p1), (2, .long p2), (4, .long p3)]) S.1 S.2.1 dX0_divide_5 hl (by decide) (by first | rfl | simp [m_rfc, m_catI, m_catL, m_catA]) (fun ls hl => ?_)
  refine m_aload S.1 S.2.1 dX0_divide_7 (lv_at hl 0 rfl) ?_
  rcases r1 with _ | a5
  · replace h := m_nn0 h
    refine lv_ifnullN (tgt := 21) S.1 S.2.1 dX0_divide_9 (by decide) ?_
    refine lv_lconst (v := 0) S.1 S.2.1 dX0_divide_21 (by decide) ?_
    obtain ⟨h1, h2⟩ := m_fin h; cases h1; subst h2
    exact m_lret S hr hlk hK hP hS (by decide +kernel) (by decide +kernel) dX0_divide_22
  · replace h := m_nn1 h
    refine lv_ifnull S.1 S.2.1 dX0_divide_9 ?_
    refine lv_aload_n S.1 S.2.1 dX0_divide_12 rfl (lv_at hl 1 rfl) ?_
    refine lv_aload S.1 S.2.1 dX0_divide_13 (lv_at hl 0 rfl) ?_
    obtain ⟨_, k9, h⟩ := m_bs h
    obtain ⟨x6, s7, e8, h⟩ := m_b_s h
    refine m_calli (va_runV (As := [va_rf (some a5)]) (rest := []) S (c_X0_ensureMade l D tc b t0 (some a5) _ _ _ e8) (cwV 1 S.2.2.2.2 (m_wV kX0_ensureMade (by decide +kernel)) rfl rfl rfl (by decide +kernel) ⟨by decide +kernel, by decide +kernel⟩) (m_preV hK hP (m_is_s k9) rfl) rfl rfl hl.1 rfl (lv_room (by first | decide | simp [m_rfc, m_catI, m_catL, m_catA])) dX0_divide_15 ⟨by decide +kernel, by decide +kernel⟩) hS (fun H locs hP hS => ?_)
    refine lv_if_ne (tgt := 23) S.1 S.2.1 dX0_divide_18 (by decide) (fun c10 => ?_) (fun c10 => ?_)
    · replace h := m_f c10 h
      refine lv_aload S.1 S.2.1 dX0_divide_23 (lv_at hl 0 rfl) ?_
      refine lv_dup S.1 S.2.1 dX0_divide_25 rfl ?_
      obtain ⟨l11, e12, h⟩ := m_bs h
      refine m_get (ci := 1) (k := 5) (T := TX1) (N := 6) S (inX1 _) hK hP (m_gL_s e12) rfl (by decide) (S.2.2.2.2 (.fieldLink RX0 128 "RuleHouse2$RuleClass" "cell" "J") (m_mem (by decide +kernel))) rfl dX0_divide_26 ?_
      refine lv_lconst (v := 1) S.1 S.2.1 dX0_divide_29 (by decide) ?_
      refine lv_ladd S.1 S.2.1 dX0_divide_30 ?_
      obtain ⟨s13, e14, h⟩ := m_bs h
      refine m_put (ci := 1) (k := 5) (T := TX1) (N := 6) (v := .long (l11 + 1)) (ty := .long) S (inX1 _) tyX1 tX1 nX1 hK hP hS e14 rfl (by decide) (S.2.2.2.2 (.fieldLink RX0 128 "RuleHouse2$RuleClass" "cell" "J") (m_mem (by decide +kernel))) rfl rfl (by decide +kernel) rfl rfl dX0_divide_31 (fun H locs hP hS => ?_)
      refine lv_lload S.1 S.2.1 dX0_divide_34 (lv_at hl 4 rfl) ?_
      refine lv_lconst (v := 0) S.1 S.2.1 dX0_divide_36 (by decide) ?_
      refine W.lcmp S.1 S.2.1 dX0_divide_37 ?_
      refine lv_if_ne (tgt := 51) S.1 S.2.1 dX0_divide_38 (by decide) (fun c15 => ?_) (fun c15 => ?_)
      · replace h := m_f c15 h
        refine lv_lload_n S.1 S.2.1 dX0_divide_51 rfl (lv_at hl 3 rfl) ?_
        refine lv_lload S.1 S.2.1 dX0_divide_52 (lv_at hl 4 rfl) ?_
        by_cases c16 : (p3 : Int64) = 0
        · exact absurd (m_t c16 h) (fun h => by cases h)
        replace h := m_f c16 h
        refine lv_ldiv S.1 S.2.1 dX0_divide_54 c16 ?_
        obtain ⟨h1, h2⟩ := m_fin h; cases h1; subst h2
        exact m_lret S hr hlk hK hP hS (by decide +kernel) (by decide +kernel) dX0_divide_55
      · replace h := m_t c15 h
        cases (m_fin h).1
    · replace h := m_t c10 h
      refine lv_lconst (v := 0) S.1 S.2.1 dX0_divide_21 (by decide) ?_
      obtain ⟨h1, h2⟩ := m_fin h; cases h1; subst h2
      exact m_lret S hr hlk hK hP hS (by decide +kernel) (by decide +kernel) dX0_divide_22

set_option maxHeartbeats 4000000 in
set_option maxRecDepth 100000 in
theorem c_X0_divide_t (l : Launch) (hfl : l.stackTraces = false) (D : va_G) (tc : Nat → ClassId) (b : Nat) (t0 : Nat) (p1 : Int32) (p2 : Int64) (p3 : Int64) (s0 st' : MS) (h : f_X0_divide t0 p1 p2 p3 s0 = some (none, st')) : MetT l yX0_divide wsX0_divide ({ frames := 7, cells := 1, slots := 6, locals := 160 }) (m_PcE D vwCl (m_tys tc) b s0 [.ref t0, .int p1, .long p2, .long p3]) (m_QT D vwCl (m_tys tc) b "java/lang/ArithmeticException" st') 1 6 (m_A b) := by
  unfold f_X0_divide at h
  refine m_metT (cc := cX0_divide) (maxL := 7) (ret := (some .long)) (by decide) rfl (by first | exact Nat.le_of_ble_eq_true rfl | simp [lg_sl, m_rfc, m_catI, m_catL, m_catA]) ?_
  intro p e s m below meth c ls S hno hlk hK hP hl hS hE
  replace hl : lv_has ls 7 [(0, .ref t0), (1, .int p1), (2, .long p2), (4, .long p3)] := by first | exact hl | simpa [lv_args, m_rfc, m_catI, m_catL, m_catA] using hl
  refine lv_aload_n S.1 S.2.1 dX0_divide_0 rfl (lv_at hl 0 rfl) ?_
  refine lv_iload_n S.1 S.2.1 dX0_divide_1 rfl (lv_at hl 1 rfl) ?_
  obtain ⟨_, k4, h⟩ := m_bs h
  obtain ⟨r1, s2, e3, h⟩ := m_b_s h
  refine m_callr (va_runV (As := [.int p1]) (rest := []) S (c_X0_classAt l D tc b t0 p1 _ _ _ e3) (cwV 1 S.2.2.2.2 (m_wV kX0_classAt (by decide +kernel)) rfl rfl rfl (by decide +kernel) ⟨by decide +kernel, by decide +kernel⟩) (m_preV hK hP (m_is_s k4) rfl) rfl rfl hl.1 rfl (lv_room (by first | decide | simp [m_rfc, m_catI, m_catL, m_catA])) dX0_divide_2 ⟨by decide +kernel, by decide +kernel⟩) hS (fun H locs hP hS => ?_)
  refine m_astore (i := 6) (lv' := [(6, va_rf r1), (0, .ref t0), (1, .int p1), (2, .long p2), (4, .long p3)]) S.1 S.2.1 dX0_divide_5 hl (by decide) (by first | rfl | simp [m_rfc, m_catI, m_catL, m_catA]) (fun ls hl => ?_)
  refine m_aload S.1 S.2.1 dX0_divide_7 (lv_at hl 0 rfl) ?_
  rcases r1 with _ | a5
  · replace h := m_nn0 h
    refine lv_ifnullN (tgt := 21) S.1 S.2.1 dX0_divide_9 (by decide) ?_
    refine lv_lconst (v := 0) S.1 S.2.1 dX0_divide_21 (by decide) ?_
    cases (m_fin h).1
  · replace h := m_nn1 h
    refine lv_ifnull S.1 S.2.1 dX0_divide_9 ?_
    refine lv_aload_n S.1 S.2.1 dX0_divide_12 rfl (lv_at hl 1 rfl) ?_
    refine lv_aload S.1 S.2.1 dX0_divide_13 (lv_at hl 0 rfl) ?_
    obtain ⟨_, k9, h⟩ := m_bs h
    obtain ⟨x6, s7, e8, h⟩ := m_b_s h
    refine m_calli (va_runV (As := [va_rf (some a5)]) (rest := []) S (c_X0_ensureMade l D tc b t0 (some a5) _ _ _ e8) (cwV 1 S.2.2.2.2 (m_wV kX0_ensureMade (by decide +kernel)) rfl rfl rfl (by decide +kernel) ⟨by decide +kernel, by decide +kernel⟩) (m_preV hK hP (m_is_s k9) rfl) rfl rfl hl.1 rfl (lv_room (by first | decide | simp [m_rfc, m_catI, m_catL, m_catA])) dX0_divide_15 ⟨by decide +kernel, by decide +kernel⟩) hS (fun H locs hP hS => ?_)
    refine lv_if_ne (tgt := 23) S.1 S.2.1 dX0_divide_18 (by decide) (fun c10 => ?_) (fun c10 => ?_)
    · replace h := m_f c10 h
      refine lv_aload S.1 S.2.1 dX0_divide_23 (lv_at hl 0 rfl) ?_
      refine lv_dup S.1 S.2.1 dX0_divide_25 rfl ?_
      obtain ⟨l11, e12, h⟩ := m_bs h
      refine m_get (ci := 1) (k := 5) (T := TX1) (N := 6) S (inX1 _) hK hP (m_gL_s e12) rfl (by decide) (S.2.2.2.2 (.fieldLink RX0 128 "RuleHouse2$RuleClass" "cell" "J") (m_mem (by decide +kernel))) rfl dX0_divide_26 ?_
      refine lv_lconst (v := 1) S.1 S.2.1 dX0_divide_29 (by decide) ?_
      refine lv_ladd S.1 S.2.1 dX0_divide_30 ?_
      obtain ⟨s13, e14, h⟩ := m_bs h
      refine m_put (ci := 1) (k := 5) (T := TX1) (N := 6) (v := .long (l11 + 1)) (ty := .long) S (inX1 _) tyX1 tX1 nX1 hK hP hS e14 rfl (by decide) (S.2.2.2.2 (.fieldLink RX0 128 "RuleHouse2$RuleClass" "cell" "J") (m_mem (by decide +kernel))) rfl rfl (by decide +kernel) rfl rfl dX0_divide_31 (fun H locs hP hS => ?_)
      refine lv_lload S.1 S.2.1 dX0_divide_34 (lv_at hl 4 rfl) ?_
      refine lv_lconst (v := 0) S.1 S.2.1 dX0_divide_36 (by decide) ?_
      refine W.lcmp S.1 S.2.1 dX0_divide_37 ?_
      refine lv_if_ne (tgt := 51) S.1 S.2.1 dX0_divide_38 (by decide) (fun c15 => ?_) (fun c15 => ?_)
      · replace h := m_f c15 h
        refine lv_lload_n S.1 S.2.1 dX0_divide_51 rfl (lv_at hl 3 rfl) ?_
        refine lv_lload S.1 S.2.1 dX0_divide_52 (lv_at hl 4 rfl) ?_
        by_cases c16 : (p3 : Int64) = 0
        · exact absurd (m_t c16 h) (fun h => by cases h)
        replace h := m_f c16 h
        refine lv_ldiv S.1 S.2.1 dX0_divide_54 c16 ?_
        cases (m_fin h).1
      · replace h := m_t c15 h
        obtain ⟨h1, h2⟩ := m_fin h; subst h2
        exact m_throw hfl S hno hlk hK hP hS hE (fun U hU w hw => hU.2.2.2.1 _ w (List.mem_append_left _ hw)) (fun U hU => hU.2.2.2.2.1) (by decide) (by decide +kernel) (by decide +kernel) (by decide) (by decide) hl.1 (by decide) (by decide) dX0_divide_41 dX0_divide_44 dX0_divide_45 dX0_divide_47 dX0_divide_50
    · replace h := m_t c10 h
      refine lv_lconst (v := 0) S.1 S.2.1 dX0_divide_21 (by decide) ?_
      cases (m_fin h).1
def f_X0_handle (t0 : Nat) (p1 : Int32) (s0 : MS) : Option (Option Int32 × MS) :=
  (m_gI s0 0 t0 9).bind fun x1 =>
  m_b (f_X0_isWithin p1 (x1 - 1) s0) fun x3 s4 =>
  if x3 = 0 then
    some (some (-1), s4)
  else
    some (none, (s4.1 + 1, s4.2.1, s4.2.2))
set_option maxHeartbeats 4000000 in
set_option maxRecDepth 100000 in
theorem c_X0_handle_r (l : Launch) (D : va_G) (tc : Nat → ClassId) (b : Nat) (t0 : Nat) (p1 : Int32) (s0 st' : MS) (r : Int32) (h : f_X0_handle t0 p1 s0 = some (some r, st')) : Met l yX0_handle wsX0_handle ({ frames := 7, cells := 1, slots := 6, locals := 160 }) (m_PcE D vwCl (m_tys tc) b s0 [.ref t0, .int p1]) (m_Q D vwCl (m_tys tc) b (some (.int r)) st') 1 6 (m_A b) := by
  unfold f_X0_handle at h
  refine m_metE (cc := cX0_handle) (maxL := 2) (ret := (some .int)) (by decide) rfl (by first | exact Nat.le_of_ble_eq_true rfl | simp [lg_sl, m_rfc, m_catI, m_catL, m_catA]) ?_
  intro p e s m below meth c ls S hr hlk hnm hK hP hl hS hE
  replace hl : lv_has ls 2 [(0, .ref t0), (1, .int p1)] := by first | exact hl | simpa [lv_args, m_rfc, m_catI, m_catL, m_catA] using hl
  refine lv_iload_n S.1 S.2.1 dX0_handle_0 rfl (lv_at hl 1 rfl) ?_
  refine lv_aload_n S.1 S.2.1 dX0_handle_1 rfl (lv_at hl 0 rfl) ?_
  obtain ⟨x1, e2, h⟩ := m_bs h
  refine m_get (ci := 0) (k := 9) (T := TX0) (N := 10) S (inX0 _) hK hP (m_gI_s e2) rfl (by decide) (S.2.2.2.2 (.fieldLink RX0 41 "RuleHouse2" "handleCount" "I") (m_mem (by decide +kernel))) rfl dX0_handle_2 ?_
  refine lv_iconst (v := 1) S.1 S.2.1 dX0_handle_5 (by decide) ?_
  refine lv_isub S.1 S.2.1 dX0_handle_6 ?_
  obtain ⟨x3, s4, e5, h⟩ := m_b_s h
  refine m_calli (va_runS (As := [.int p1, .int (x1 - 1)]) (rest := []) S (c_X0_isWithin l D tc b p1 (x1 - 1) _ _ _ e5) (cwS 2 S.2.2.2.2 (m_wS kX0_isWithin (by decide +kernel)) rfl rfl rfl (by decide +kernel) ⟨by decide +kernel, by decide +kernel⟩) (m_preS hK hP) rfl rfl hl.1 rfl (lv_room (by first | decide | simp [m_rfc, m_catI, m_catL, m_catA])) dX0_handle_7 ⟨by decide +kernel, by decide +kernel⟩) hS (fun H locs hP hS => ?_)
  refine lv_if_eq (tgt := 23) S.1 S.2.1 dX0_handle_10 (by decide) (fun c6 => ?_) (fun c6 => ?_)
  · replace h := m_t c6 h
    refine lv_iconst (v := (-1)) S.1 S.2.1 dX0_handle_23 (by decide) ?_
    obtain ⟨h1, h2⟩ := m_fin h; cases h1; subst h2
    exact m_iret S hr hlk hK hP hS (by decide +kernel) (by decide +kernel) dX0_handle_24
  · replace h := m_f c6 h
    cases (m_fin h).1

set_option maxHeartbeats 4000000 in
set_option maxRecDepth 100000 in
theorem c_X0_handle_t (l : Launch) (hfl : l.stackTraces = false) (D : va_G) (tc : Nat → ClassId) (b : Nat) (t0 : Nat) (p1 : Int32) (s0 st' : MS) (h : f_X0_handle t0 p1 s0 = some (none, st')) : MetT l yX0_handle wsX0_handle ({ frames := 7, cells := 1, slots := 6, locals := 160 }) (m_PcE D vwCl (m_tys tc) b s0 [.ref t0, .int p1]) (m_QT D vwCl (m_tys tc) b "java/lang/IllegalStateException" st') 1 6 (m_A b) := by
  unfold f_X0_handle at h
  refine m_metT (cc := cX0_handle) (maxL := 2) (ret := (some .int)) (by decide) rfl (by first | exact Nat.le_of_ble_eq_true rfl | simp [lg_sl, m_rfc, m_catI, m_catL, m_catA]) ?_
  intro p e s m below meth c ls S hno hlk hK hP hl hS hE
  replace hl : lv_has ls 2 [(0, .ref t0), (1, .int p1)] := by first | exact hl | simpa [lv_args, m_rfc, m_catI, m_catL, m_catA] using hl
  refine lv_iload_n S.1 S.2.1 dX0_handle_0 rfl (lv_at hl 1 rfl) ?_
  refine lv_aload_n S.1 S.2.1 dX0_handle_1 rfl (lv_at hl 0 rfl) ?_
  obtain ⟨x1, e2, h⟩ := m_bs h
  refine m_get (ci := 0) (k := 9) (T := TX0) (N := 10) S (inX0 _) hK hP (m_gI_s e2) rfl (by decide) (S.2.2.2.2 (.fieldLink RX0 41 "RuleHouse2" "handleCount" "I") (m_mem (by decide +kernel))) rfl dX0_handle_2 ?_
  refine lv_iconst (v := 1) S.1 S.2.1 dX0_handle_5 (by decide) ?_
  refine lv_isub S.1 S.2.1 dX0_handle_6 ?_
  obtain ⟨x3, s4, e5, h⟩ := m_b_s h
  refine m_calli (va_runS (As := [.int p1, .int (x1 - 1)]) (rest := []) S (c_X0_isWithin l D tc b p1 (x1 - 1) _ _ _ e5) (cwS 2 S.2.2.2.2 (m_wS kX0_isWithin (by decide +kernel)) rfl rfl rfl (by decide +kernel) ⟨by decide +kernel, by decide +kernel⟩) (m_preS hK hP) rfl rfl hl.1 rfl (lv_room (by first | decide | simp [m_rfc, m_catI, m_catL, m_catA])) dX0_handle_7 ⟨by decide +kernel, by decide +kernel⟩) hS (fun H locs hP hS => ?_)
  refine lv_if_eq (tgt := 23) S.1 S.2.1 dX0_handle_10 (by decide) (fun c6 => ?_) (fun c6 => ?_)
  · replace h := m_t c6 h
    refine lv_iconst (v := (-1)) S.1 S.2.1 dX0_handle_23 (by decide) ?_
    cases (m_fin h).1
  · replace h := m_f c6 h
    obtain ⟨h1, h2⟩ := m_fin h; subst h2
    exact m_throw hfl S hno hlk hK hP hS hE (fun U hU w hw => hU.2.2.2.1 _ w (List.mem_append_right _ hw)) (fun U hU => hU.2.2.2.2.2) (by decide) (by decide +kernel) (by decide +kernel) (by decide) (by decide) hl.1 (by decide) (by decide) dX0_handle_13 dX0_handle_16 dX0_handle_17 dX0_handle_19 dX0_handle_22
/-! ===== the law's own script, its method 'cell', its two catching methods ===== -/
def m_sc (L : Nat) (xs : Nat → Int32) (i : Int32) : Option Int32 := if 0 ≤ i ∧ i.toNatClampNeg < L then some (xs i.toNatClampNeg) else none
theorem m_sc_s {L : Nat} {xs : Nat → Int32} {i x : Int32} (h : m_sc L xs i = some x) : vp_in i L ∧ xs i.toNatClampNeg = x := by
  unfold m_sc at h
  split at h
  · rename_i h1
    refine ⟨?_, Option.some.inj h⟩
    rintro (h2 | h2)
    · exact absurd h1.1 (Int32.not_le.mpr h2)
    · exact absurd h1.2 (Nat.not_lt.mpr h2)
  · cases h
def m_ov {α β : Type} (o : Option α) (A : α → Option β) (B : Option β) : Option β := match o with
  | some v => A v
  | none => B
section MLAW
variable {p : Program} {l : Launch} {e : Env} {R : Room} {s : State} {m : MethodId} {args : Array Value} {below : List Frame} {meth : Method} {c : Code} {H : Heap} {locs : List Loc} {cells slots : Nat} {Q : State → Prop}
variable {cc : ByteArray} {pc nL b : Nat} {ls : Array Slot} {rest : List Value} {bs L : Nat} {xs : Nat → Int32} {A : Nat → Prop} {H0 : Heap}
theorem m_sld (hexec : p.tables.exec = Jvm.exec) (hb : c.code = cc) (hX : va_X bs L xs s H0) (hbl : bs < H0.size) (hbA : ¬ A bs) (hS : va_S A H0 H locs) {i x : Int32} (hop : m_sc L xs i = some x) (hdg : decode cc pc = .ok (.iaload, 1))
    (kk : W p l e R s m args below meth c H locs cells slots Q (F0 m (pc + 1) ls (.int x :: rest))) : W p l e R s m args below meth c H locs cells slots Q (F0 m pc ls (.int i :: .ref bs :: rest)) := by
  obtain ⟨h1, rfl⟩ := m_sc_s hop
  exact va_sld hexec hb hX hbl hbA hS h1 hdg kk
theorem m_slen (hexec : p.tables.exec = Jvm.exec) (hb : c.code = cc) (hX : va_X bs L xs s H0) (hbl : bs < H0.size) (hbA : ¬ A bs) (hS : va_S A H0 H locs) (hdg : decode cc pc = .ok (.arraylength, 1))
    (kk : W p l e R s m args below meth c H locs cells slots Q (F0 m (pc + 1) ls (.int (nI L) :: rest))) : W p l e R s m args below meth c H locs cells slots Q (F0 m pc ls (.ref bs :: rest)) := va_slen hexec hb hX hbl hbA hS hdg kk
end MLAW
def f_L_cell (L : Nat) (xs : Nat → Int32) (k : Int32) : Option Int32 := if nI L ≤ k then some 0 else m_sc L xs k
set_option maxHeartbeats 4000000 in
set_option maxRecDepth 100000 in
theorem c_L_cell (l : Launch) (bs L : Nat) (xs : Nat → Int32) (k x : Int32) (h : f_L_cell L xs k = some x) : Met l yL_cell wsL_cell ({ frames := 0, cells := 0, slots := 0, locals := 0 }) (va_Pc [.ref bs, .int k] (fun U => bs < U.heap.size ∧ va_X bs L xs U U.heap)) (vp_Si (fun r => r = x)) 0 0 (fun _ => False) := by
  unfold f_L_cell at h
  refine Met.ofW (cc := cL_cell) (maxL := 2) (ret := some .int) (by decide) rfl ?_
  intro p e s m args below meth c s₁ B hml hv
  obtain ⟨rfl, hbl, hX⟩ := hv
  have S : CallFix p m c cL_cell 2 s [Value.ref bs, .int k].toArray wsL_cell RL := ⟨B.exec, B.bytes, hml, findClass_of_methodNamed B.named, atoms_spec (ws := wsL_cell) B.pre⟩
  have hr := B.returns
  have hlocks := B.notSynchronized
  have hl := lv_entry ([.ref bs, .int k]) (n := 2) (Nat.le_of_ble_eq_true rfl)
  rw [lg_entry_eq]
  generalize (lg_sl ([.ref bs, .int k]) ++ List.replicate (2 - (lg_sl ([.ref bs, .int k])).length) Slot.unset).toArray = ls at hl ⊢
  replace hl : lv_has ls 2 [(0, .ref bs), (1, .int k)] := hl
  have hS : va_S (fun _ => False) s.heap s.heap [] := va_S.rf
  refine lv_iload_n S.1 S.2.1 dL_cell_0 rfl (lv_at hl 1 rfl) ?_
  refine lv_aload_n S.1 S.2.1 dL_cell_1 rfl (lv_at hl 0 rfl) ?_
  refine m_slen S.1 S.2.1 hX hbl id hS dL_cell_2 ?_
  refine lv_icmp_ge (tgt := 12) S.1 S.2.1 dL_cell_3 (by decide) (fun c1 => ?_) (fun c1 => ?_)
  · replace h := m_t c1 h
    refine lv_iconst (v := 0) S.1 S.2.1 dL_cell_12 (by decide) ?_
    exact W.iret S.1 S.2.1 hr (fun t ht hW => ⟨0, rfl, Option.some.inj h, ht⟩) hS.2.2 dL_cell_13
  · replace h := m_f c1 h
    refine lv_aload_n S.1 S.2.1 dL_cell_6 rfl (lv_at hl 0 rfl) ?_
    refine lv_iload_n S.1 S.2.1 dL_cell_7 rfl (lv_at hl 1 rfl) ?_
    refine m_sld S.1 S.2.1 hX hbl id hS h dL_cell_8 ?_
    refine lv_goto (tgt := 13) S.1 S.2.1 dL_cell_9 (by decide) ?_
    exact W.iret S.1 S.2.1 hr (fun t ht hW => ⟨x, rfl, rfl, ht⟩) hS.2.2 dL_cell_13
/-- the law calls 'cell' -/
theorem m_lcell {p : Program} {l : Launch} {e : Env} {s : State} {m : MethodId} {args : Array Value} {below : List Frame} {meth : Method} {c : Code} {H : Heap} {locs : List Loc} {cells slots : Nat} {Q : State → Prop} {w0 : Cond} {pc b : Nat} {ls : Array Slot} {rest : List Value} {bs L : Nat} {xs : Nat → Int32}
    (S : CallFix p m c code 8 s args (w0 :: m_tbl) RL) (hX : va_X bs L xs s s.heap) (hbl : bs < s.heap.size) (hbA : ¬ m_A b bs) (hS : va_S (m_A b) s.heap H locs) {k x : Int32} (hop : f_L_cell L xs k = some x) (hsz : ls.size = 8) (hrest : (rest.map fun v => v.category).sum ≤ 8) (hc : cells ≤ 601024) (hs : slots ≤ 7293000) (hdg : decode code pc = .ok (.invokestatic 21, 3))
    (kk : W p l e room_1 s m args below meth c H locs cells slots Q (F0 m (pc + 3) ls (.int x :: rest))) : W p l e room_1 s m args below meth c H locs cells slots Q (F0 m pc ls (.int k :: .ref bs :: rest)) := by
  have hH : H[bs]? = s.heap[bs]? := hS.2.1 bs hbl hbA
  refine vp_callSi (W.runS (As := [.ref bs, .int k]) (rest := rest) S (c_L_cell l bs L xs k x hop) (cwS 2 S.2.2.2.2 (m_wS kL_cell (by decide +kernel)) rfl rfl rfl (by decide +kernel) ⟨by decide +kernel, by decide +kernel⟩) ⟨fun a U g mk q => ⟨q.1, q.2.1, va_X.moved (u := U) (U := U.calling g mk a) (Vm.Alike.refl U.vm) q.2.2⟩, fun U hU hW => ⟨rfl, by rw [hU]; exact Nat.lt_of_lt_of_le hbl hS.1, by rw [hU]; exact va_X.moved hW.alike (hX.kept hH)⟩⟩ rfl rfl hsz rfl (lv_room hrest) hdg ⟨hc, hs⟩) (fun r hr => ?_)
  rw [hr]
  exact kk
