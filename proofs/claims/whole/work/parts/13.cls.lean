def f_X0_provider (t0 : Nat) (p1 : Int32) (p2 : Int32) (s0 : MS) : Option (Int32 × MS) :=
  (m_is s0 0 t0).bind fun _ =>
  m_b (f_X0_targetAt t0 p1 s0) fun r1 s2 =>
  m_nn r1
    (some (0, s2))
    (fun a5 =>
    m_b (f_X0_isWithin p2 2 s2) fun x6 s7 =>
    if x6 = 0 then
      some (0, s7)
    else
      (m_gR s7 2 a5 4).bind fun r10 =>
      r10.bind fun a12 =>
      (m_aI s7 2 a12 p2).bind fun x13 =>
      if x13 = 0 then
        some (0, s7)
      else
        (m_gR s7 2 a5 3).bind fun r16 =>
        r16.bind fun a18 =>
        (m_aI s7 1 a18 p2).bind fun x19 =>
        some (x19, s7))
set_option maxHeartbeats 4000000 in
set_option maxRecDepth 100000 in
theorem c_X0_provider (l : Launch) (D : va_G) (tc : Nat → ClassId) (b : Nat) (t0 : Nat) (p1 : Int32) (p2 : Int32) (s0 st' : MS) (r : Int32) (h : f_X0_provider t0 p1 p2 s0 = some (r, st')) : Met l yX0_provider wsX0_provider ({ frames := 2, cells := 0, slots := 0, locals := 42 }) (m_Pc D vwCl (m_tys tc) b s0 [.ref t0, .int p1, .int p2]) (m_Q D vwCl (m_tys tc) b (some (.int r)) st') 0 0 (m_A b) := by
  unfold f_X0_provider at h
  refine m_met (cc := cX0_provider) (maxL := 4) (ret := (some .int)) (by decide) rfl (by first | exact Nat.le_of_ble_eq_true rfl | simp [lg_sl, m_rfc, m_catI, m_catL, m_catA]) ?_
  intro p e s m below meth c ls S hr hlk hnm hK hP hl hS
  replace hl : lv_has ls 4 [(0, .ref t0), (1, .int p1), (2, .int p2)] := by first | exact hl | simpa [lv_args, m_rfc, m_catI, m_catL, m_catA] using hl
  refine lv_aload_n S.1 S.2.1 dX0_provider_0 rfl (lv_at hl 0 rfl) ?_
  refine lv_iload_n S.1 S.2.1 dX0_provider_1 rfl (lv_at hl 1 rfl) ?_
  obtain ⟨_, k4, h⟩ := m_bs h
  obtain ⟨r1, s2, e3, h⟩ := m_b_s h
  refine m_callr (va_runV (As := [.int p1]) (rest := []) S (c_X0_targetAt l D tc b t0 p1 _ _ _ e3) (cwV 1 S.2.2.2.2 (m_wV kX0_targetAt (by decide +kernel)) rfl rfl rfl (by decide +kernel) ⟨by decide +kernel, by decide +kernel⟩) (m_preV hK hP (m_is_s k4) rfl) rfl rfl hl.1 rfl (lv_room (by first | decide | simp [m_rfc, m_catI, m_catL, m_catA])) dX0_provider_2 ⟨by decide +kernel, by decide +kernel⟩) hS (fun H locs hP hS => ?_)
  refine m_astore_n (i := 3) (lv' := [(3, va_rf r1), (0, .ref t0), (1, .int p1), (2, .int p2)]) S.1 S.2.1 dX0_provider_5 rfl hl (by decide) (by first | rfl | simp [m_rfc, m_catI, m_catL, m_catA]) (fun ls hl => ?_)
  refine m_aload_n S.1 S.2.1 dX0_provider_6 rfl (lv_at hl 0 rfl) ?_
  rcases r1 with _ | a5
  · replace h := m_nn0 h
    refine lv_ifnullN (tgt := 27) S.1 S.2.1 dX0_provider_7 (by decide) ?_
    refine lv_iconst (v := 0) S.1 S.2.1 dX0_provider_27 (by decide) ?_
    obtain ⟨h1, h2⟩ := m_fin h; subst h1; subst h2
    exact m_iret S hr hlk hK hP hS (by decide +kernel) (by decide +kernel) dX0_provider_28
  · replace h := m_nn1 h
    refine lv_ifnull S.1 S.2.1 dX0_provider_7 ?_
    refine lv_iload_n S.1 S.2.1 dX0_provider_10 rfl (lv_at hl 3 rfl) ?_
    refine lv_iconst (v := 2) S.1 S.2.1 dX0_provider_11 (by decide) ?_
    obtain ⟨x6, s7, e8, h⟩ := m_b_s h
    refine m_calli (va_runS (As := [.int p2, .int 2]) (rest := []) S (c_X0_isWithin l D tc b p2 2 _ _ _ e8) (cwS 2 S.2.2.2.2 (m_wS kX0_isWithin (by decide +kernel)) rfl rfl rfl (by decide +kernel) ⟨by decide +kernel, by decide +kernel⟩) (m_preS hK hP) rfl rfl hl.1 rfl (lv_room (by first | decide | simp [m_rfc, m_catI, m_catL, m_catA])) dX0_provider_12 ⟨by decide +kernel, by decide +kernel⟩) hS (fun H locs hP hS => ?_)
    refine lv_if_eq (tgt := 27) S.1 S.2.1 dX0_provider_15 (by decide) (fun c9 => ?_) (fun c9 => ?_)
    · replace h := m_t c9 h
      refine lv_iconst (v := 0) S.1 S.2.1 dX0_provider_27 (by decide) ?_
      obtain ⟨h1, h2⟩ := m_fin h; subst h1; subst h2
      exact m_iret S hr hlk hK hP hS (by decide +kernel) (by decide +kernel) dX0_provider_28
    · replace h := m_f c9 h
      refine lv_aload_n S.1 S.2.1 dX0_provider_18 rfl (lv_at hl 0 rfl) ?_
      obtain ⟨r10, e11, h⟩ := m_bs h
      refine m_get (ci := 2) (k := 4) (T := TX2) (N := 12) S (inX2 _) hK hP (m_gR_s e11) rfl (by decide) (S.2.2.2.2 (.fieldLink RX0 110 "RuleHouse2$Target" "has" "[Z") (m_mem (by decide +kernel))) rfl dX0_provider_19 ?_
      refine lv_iload_n S.1 S.2.1 dX0_provider_22 rfl (lv_at hl 3 rfl) ?_
      obtain ⟨a12, ea, g⟩ := m_bs h; clear h; subst ea; have h := g; clear g
      obtain ⟨x13, e14, h⟩ := m_bs h
      refine m_zald (t := 2) S hK hP (m_aI_s e14) rfl dX0_provider_23 ?_
      refine lv_if_ne (tgt := 29) S.1 S.2.1 dX0_provider_24 (by decide) (fun c15 => ?_) (fun c15 => ?_)
      · replace h := m_f c15 h
        refine lv_aload_n S.1 S.2.1 dX0_provider_29 rfl (lv_at hl 0 rfl) ?_
        obtain ⟨r16, e17, h⟩ := m_bs h
        refine m_get (ci := 2) (k := 3) (T := TX2) (N := 12) S (inX2 _) hK hP (m_gR_s e17) rfl (by decide) (S.2.2.2.2 (.fieldLink RX0 114 "RuleHouse2$Target" "providers" "[I") (m_mem (by decide +kernel))) rfl dX0_provider_30 ?_
        refine lv_iload_n S.1 S.2.1 dX0_provider_33 rfl (lv_at hl 3 rfl) ?_
        obtain ⟨a18, ea, g⟩ := m_bs h; clear h; subst ea; have h := g; clear g
        obtain ⟨x19, e20, h⟩ := m_bs h
        refine m_iald (t := 1) S hK hP (m_aI_s e20) rfl dX0_provider_34 ?_
        obtain ⟨h1, h2⟩ := m_fin h; subst h1; subst h2
        exact m_iret S hr hlk hK hP hS (by decide +kernel) (by decide +kernel) dX0_provider_35
      · replace h := m_t c15 h
        refine lv_iconst (v := 0) S.1 S.2.1 dX0_provider_27 (by decide) ?_
        obtain ⟨h1, h2⟩ := m_fin h; subst h1; subst h2
        exact m_iret S hr hlk hK hP hS (by decide +kernel) (by decide +kernel) dX0_provider_28

def f_X0_failed (t0 : Nat) (p1 : Int32) (p2 : Int32) (s0 : MS) : Option (Int32 × MS) :=
  (m_is s0 0 t0).bind fun _ =>
  m_b (f_X0_targetAt t0 p1 s0) fun r1 s2 =>
  m_nn r1
    (some ((-1), s2))
    (fun a5 =>
    m_b (f_X0_isWithin p2 2 s2) fun x6 s7 =>
    if x6 = 0 then
      some ((-2), s7)
    else
      (m_gI s7 2 a5 5).bind fun x10 =>
      if x10 = 0 then
        some ((-3), s7)
      else
        (m_gI s7 2 a5 9).bind fun x13 =>
        if x13 = 0 then
          some (0, s7)
        else
          if p2 = 0 then
            (m_gI s7 2 a5 9).bind fun x17 =>
            some (x17, s7)
          else if p2 = 1 then
            (m_gI s7 2 a5 10).bind fun x20 =>
            some (x20, s7)
          else (m_gI s7 2 a5 11).bind fun x22 =>
          some (x22 + 1, s7))
set_option maxHeartbeats 4000000 in
set_option maxRecDepth 100000 in
theorem c_X0_failed (l : Launch) (D : va_G) (tc : Nat → ClassId) (b : Nat) (t0 : Nat) (p1 : Int32) (p2 : Int32) (s0 st' : MS) (r : Int32) (h : f_X0_failed t0 p1 p2 s0 = some (r, st')) : Met l yX0_failed wsX0_failed ({ frames := 2, cells := 0, slots := 0, locals := 42 }) (m_Pc D vwCl (m_tys tc) b s0 [.ref t0, .int p1, .int p2]) (m_Q D vwCl (m_tys tc) b (some (.int r)) st') 0 0 (m_A b) := by
  unfold f_X0_failed at h
  refine m_met (cc := cX0_failed) (maxL := 4) (ret := (some .int)) (by decide) rfl (by first | exact Nat.le_of_ble_eq_true rfl | simp [lg_sl, m_rfc, m_catI, m_catL, m_catA]) ?_
  intro p e s m below meth c ls S hr hlk hnm hK hP hl hS
  replace hl : lv_has ls 4 [(0, .ref t0), (1, .int p1), (2, .int p2)] := by first | exact hl | simpa [lv_args, m_rfc, m_catI, m_catL, m_catA] using hl
  refine lv_aload_n S.1 S.2.1 dX0_failed_0 rfl (lv_at hl 0 rfl) ?_
  refine lv_iload_n S.1 S.2.1 dX0_failed_1 rfl (lv_at hl 1 rfl) ?_
  obtain ⟨_, k4, h⟩ := m_bs h
  obtain ⟨r1, s2, e3, h⟩ := m_b_s h
  refine m_callr (va_runV (As := [.int p1]) (rest := []) S (c_X0_targetAt l D tc b t0 p1 _ _ _ e3) (cwV 1 S.2.2.2.2 (m_wV kX0_targetAt (by decide +kernel)) rfl rfl rfl (by decide +kernel) ⟨by decide +kernel, by decide +kernel⟩) (m_preV hK hP (m_is_s k4) rfl) rfl rfl hl.1 rfl (lv_room (by first | decide | simp [m_rfc, m_catI, m_catL, m_catA])) dX0_failed_2 ⟨by decide +kernel, by decide +kernel⟩) hS (fun H locs hP hS => ?_)
  refine m_astore_n (i := 3) (lv' := [(3, va_rf r1), (0, .ref t0), (1, .int p1), (2, .int p2)]) S.1 S.2.1 dX0_failed_5 rfl hl (by decide) (by first | rfl | simp [m_rfc, m_catI, m_catL, m_catA]) (fun ls hl => ?_)
  refine m_aload_n S.1 S.2.1 dX0_failed_6 rfl (lv_at hl 0 rfl) ?_
  rcases r1 with _ | a5
  · replace h := m_nn0 h
    refine lv_ifnonnullN S.1 S.2.1 dX0_failed_7 ?_
    refine lv_iconst (v := (-1)) S.1 S.2.1 dX0_failed_10 (by decide) ?_
    obtain ⟨h1, h2⟩ := m_fin h; subst h1; subst h2
    exact m_iret S hr hlk hK hP hS (by decide +kernel) (by decide +kernel) dX0_failed_11
  · replace h := m_nn1 h
    refine lv_ifnonnull (tgt := 12) S.1 S.2.1 dX0_failed_7 (by decide) ?_
    refine lv_iload_n S.1 S.2.1 dX0_failed_12 rfl (lv_at hl 3 rfl) ?_
    refine lv_iconst (v := 2) S.1 S.2.1 dX0_failed_13 (by decide) ?_
    obtain ⟨x6, s7, e8, h⟩ := m_b_s h
    refine m_calli (va_runS (As := [.int p2, .int 2]) (rest := []) S (c_X0_isWithin l D tc b p2 2 _ _ _ e8) (cwS 2 S.2.2.2.2 (m_wS kX0_isWithin (by decide +kernel)) rfl rfl rfl (by decide +kernel) ⟨by decide +kernel, by decide +kernel⟩) (m_preS hK hP) rfl rfl hl.1 rfl (lv_room (by first | decide | simp [m_rfc, m_catI, m_catL, m_catA])) dX0_failed_14 ⟨by decide +kernel, by decide +kernel⟩) hS (fun H locs hP hS => ?_)
    refine lv_if_ne (tgt := 23) S.1 S.2.1 dX0_failed_17 (by decide) (fun c9 => ?_) (fun c9 => ?_)
    · replace h := m_f c9 h
      refine lv_aload_n S.1 S.2.1 dX0_failed_23 rfl (lv_at hl 0 rfl) ?_
      obtain ⟨x10, e11, h⟩ := m_bs h
      refine m_get (ci := 2) (k := 5) (T := TX2) (N := 12) S (inX2 _) hK hP (m_gI_s e11) rfl (by decide) (S.2.2.2.2 (.fieldLink RX0 87 "RuleHouse2$Target" "wasRun" "Z") (m_mem (by decide +kernel))) rfl dX0_failed_24 ?_
      refine lv_if_ne (tgt := 33) S.1 S.2.1 dX0_failed_27 (by decide) (fun c12 => ?_) (fun c12 => ?_)
      · replace h := m_f c12 h
        refine lv_aload_n S.1 S.2.1 dX0_failed_33 rfl (lv_at hl 0 rfl) ?_
        obtain ⟨x13, e14, h⟩ := m_bs h
        refine m_get (ci := 2) (k := 9) (T := TX2) (N := 12) S (inX2 _) hK hP (m_gI_s e14) rfl (by decide) (S.2.2.2.2 (.fieldLink RX0 101 "RuleHouse2$Target" "failure" "I") (m_mem (by decide +kernel))) rfl dX0_failed_34 ?_
        refine lv_if_ne (tgt := 42) S.1 S.2.1 dX0_failed_37 (by decide) (fun c15 => ?_) (fun c15 => ?_)
        · replace h := m_f c15 h
          refine lv_iload_n S.1 S.2.1 dX0_failed_42 rfl (lv_at hl 3 rfl) ?_
          by_cases c16 : p2 = 0
          · replace h := m_t c16 h
            refine lv_lookup (off := 25) (tgt := 68) S.1 S.2.1 dX0_failed_43 (by decide) (by rw [c16] <;> rfl) (by decide) ?_
            refine lv_aload_n S.1 S.2.1 dX0_failed_68 rfl (lv_at hl 0 rfl) ?_
            obtain ⟨x17, e18, h⟩ := m_bs h
            refine m_get (ci := 2) (k := 9) (T := TX2) (N := 12) S (inX2 _) hK hP (m_gI_s e18) rfl (by decide) (S.2.2.2.2 (.fieldLink RX0 101 "RuleHouse2$Target" "failure" "I") (m_mem (by decide +kernel))) rfl dX0_failed_69 ?_
            obtain ⟨h1, h2⟩ := m_fin h; subst h1; subst h2
            exact m_iret S hr hlk hK hP hS (by decide +kernel) (by decide +kernel) dX0_failed_72
          replace h := m_f c16 h
          by_cases c19 : p2 = 1
          · replace h := m_t c19 h
            refine lv_lookup (off := 30) (tgt := 73) S.1 S.2.1 dX0_failed_43 (by decide) (by rw [c19] <;> rfl) (by decide) ?_
            refine lv_aload_n S.1 S.2.1 dX0_failed_73 rfl (lv_at hl 0 rfl) ?_
            obtain ⟨x20, e21, h⟩ := m_bs h
            refine m_get (ci := 2) (k := 10) (T := TX2) (N := 12) S (inX2 _) hK hP (m_gI_s e21) rfl (by decide) (S.2.2.2.2 (.fieldLink RX0 117 "RuleHouse2$Target" "failedBit" "I") (m_mem (by decide +kernel))) rfl dX0_failed_74 ?_
            obtain ⟨h1, h2⟩ := m_fin h; subst h1; subst h2
            exact m_iret S hr hlk hK hP hS (by decide +kernel) (by decide +kernel) dX0_failed_77
          replace h := m_f c19 h
          refine lv_lookup (off := 35) (tgt := 78) S.1 S.2.1 dX0_failed_43 (by decide) (by show Op.lookupswitch.offset _ _ _ = _; rw [lv_osw c16 (by decide), lv_osw c19 (by decide)] <;> rfl) (by decide) ?_
          refine lv_aload_n S.1 S.2.1 dX0_failed_78 rfl (lv_at hl 0 rfl) ?_
          obtain ⟨x22, e23, h⟩ := m_bs h
          refine m_get (ci := 2) (k := 11) (T := TX2) (N := 12) S (inX2 _) hK hP (m_gI_s e23) rfl (by decide) (S.2.2.2.2 (.fieldLink RX0 120 "RuleHouse2$Target" "failureBegan" "I") (m_mem (by decide +kernel))) rfl dX0_failed_79 ?_
          refine lv_iconst (v := 1) S.1 S.2.1 dX0_failed_82 (by decide) ?_
          refine lv_iadd S.1 S.2.1 dX0_failed_83 ?_
          obtain ⟨h1, h2⟩ := m_fin h; subst h1; subst h2
          exact m_iret S hr hlk hK hP hS (by decide +kernel) (by decide +kernel) dX0_failed_84
        · replace h := m_t c15 h
          refine lv_iconst (v := 0) S.1 S.2.1 dX0_failed_40 (by decide) ?_
          obtain ⟨h1, h2⟩ := m_fin h; subst h1; subst h2
          exact m_iret S hr hlk hK hP hS (by decide +kernel) (by decide +kernel) dX0_failed_41
      · replace h := m_t c12 h
        refine lv_bipush (v := (-3)) S.1 S.2.1 dX0_failed_30 (by decide) ?_
        obtain ⟨h1, h2⟩ := m_fin h; subst h1; subst h2
        exact m_iret S hr hlk hK hP hS (by decide +kernel) (by decide +kernel) dX0_failed_32
    · replace h := m_t c9 h
      refine lv_bipush (v := (-2)) S.1 S.2.1 dX0_failed_20 (by decide) ?_
      obtain ⟨h1, h2⟩ := m_fin h; subst h1; subst h2
      exact m_iret S hr hlk hK hP hS (by decide +kernel) (by decide +kernel) dX0_failed_22

def f_X0_cell (t0 : Nat) (p1 : Int32) (s0 : MS) : Option (Int64 × MS) :=
  (m_is s0 0 t0).bind fun _ =>
  m_b (f_X0_classAt t0 p1 s0) fun r1 s2 =>
  m_nn r1
    (some ((-1), s2))
    (fun a5 =>
    (m_gI s2 1 a5 3).bind fun x6 =>
    if x6 = 0 then
      some ((-1), s2)
    else
      (m_gL s2 1 a5 5).bind fun l9 =>
      some (l9, s2))
set_option maxHeartbeats 4000000 in
set_option maxRecDepth 100000 in
theorem c_X0_cell (l : Launch) (D : va_G) (tc : Nat → ClassId) (b : Nat) (t0 : Nat) (p1 : Int32) (s0 st' : MS) (r : Int64) (h : f_X0_cell t0 p1 s0 = some (r, st')) : Met l yX0_cell wsX0_cell ({ frames := 2, cells := 0, slots := 0, locals := 42 }) (m_Pc D vwCl (m_tys tc) b s0 [.ref t0, .int p1]) (m_Q D vwCl (m_tys tc) b (some (.long r)) st') 0 0 (m_A b) := by
  unfold f_X0_cell at h
  refine m_met (cc := cX0_cell) (maxL := 3) (ret := (some .long)) (by decide) rfl (by first | exact Nat.le_of_ble_eq_true rfl | simp [lg_sl, m_rfc, m_catI, m_catL, m_catA]) ?_
  intro p e s m below meth c ls S hr hlk hnm hK hP hl hS
  replace hl : lv_has ls 3 [(0, .ref t0), (1, .int p1)] := by first | exact hl | simpa [lv_args, m_rfc, m_catI, m_catL, m_catA] using hl
  refine lv_aload_n S.1 S.2.1 dX0_cell_0 rfl (lv_at hl 0 rfl) ?_
  refine lv_iload_n S.1 S.2.1 dX0_cell_1 rfl (lv_at hl 1 rfl) ?_
  obtain ⟨_, k4, h⟩ := m_bs h
  obtain ⟨r1, s2, e3, h⟩ := m_b_s h
  refine m_callr (va_runV (As := [.int p1]) (rest := []) S (c_X0_classAt l D tc b t0 p1 _ _ _ e3) (cwV 1 S.2.2.2.2 (m_wV kX0_classAt (by decide +kernel)) rfl rfl rfl (by decide +kernel) ⟨by decide +kernel, by decide +kernel⟩) (m_preV hK hP (m_is_s k4) rfl) rfl rfl hl.1 rfl (lv_room (by first | decide | simp [m_rfc, m_catI, m_catL, m_catA])) dX0_cell_2 ⟨by decide +kernel, by decide +kernel⟩) hS (fun H locs hP hS => ?_)
  refine m_astore_n (i := 2) (lv' := [(2, va_rf r1), (0, .ref t0), (1, .int p1)]) S.1 S.2.1 dX0_cell_5 rfl hl (by decide) (by first | rfl | simp [m_rfc, m_catI, m_catL, m_catA]) (fun ls hl => ?_)
  refine m_aload_n S.1 S.2.1 dX0_cell_6 rfl (lv_at hl 0 rfl) ?_
  rcases r1 with _ | a5
  · replace h := m_nn0 h
    refine lv_ifnullN (tgt := 17) S.1 S.2.1 dX0_cell_7 (by decide) ?_
    refine lv_ldc2 (v := (-1)) S.1 S.2.1 S.2.2.2.1 (S.2.2.2.2 (.constantLong RX0 126 (-1)) (m_mem (by decide +kernel))) dX0_cell_17 ?_
    obtain ⟨h1, h2⟩ := m_fin h; subst h1; subst h2
    exact m_lret S hr hlk hK hP hS (by decide +kernel) (by decide +kernel) dX0_cell_20
  · replace h := m_nn1 h
    refine lv_ifnull S.1 S.2.1 dX0_cell_7 ?_
    refine lv_aload_n S.1 S.2.1 dX0_cell_10 rfl (lv_at hl 0 rfl) ?_
    obtain ⟨x6, e7, h⟩ := m_bs h
    refine m_get (ci := 1) (k := 3) (T := TX1) (N := 6) S (inX1 _) hK hP (m_gI_s e7) rfl (by decide) (S.2.2.2.2 (.fieldLink RX0 123 "RuleHouse2$RuleClass" "made" "Z") (m_mem (by decide +kernel))) rfl dX0_cell_11 ?_
    refine lv_if_ne (tgt := 21) S.1 S.2.1 dX0_cell_14 (by decide) (fun c8 => ?_) (fun c8 => ?_)
    · replace h := m_f c8 h
      refine lv_aload_n S.1 S.2.1 dX0_cell_21 rfl (lv_at hl 0 rfl) ?_
      obtain ⟨l9, e10, h⟩ := m_bs h
      refine m_get (ci := 1) (k := 5) (T := TX1) (N := 6) S (inX1 _) hK hP (m_gL_s e10) rfl (by decide) (S.2.2.2.2 (.fieldLink RX0 128 "RuleHouse2$RuleClass" "cell" "J") (m_mem (by decide +kernel))) rfl dX0_cell_22 ?_
      obtain ⟨h1, h2⟩ := m_fin h; subst h1; subst h2
      exact m_lret S hr hlk hK hP hS (by decide +kernel) (by decide +kernel) dX0_cell_25
    · replace h := m_t c8 h
      refine lv_ldc2 (v := (-1)) S.1 S.2.1 S.2.2.2.1 (S.2.2.2.2 (.constantLong RX0 126 (-1)) (m_mem (by decide +kernel))) dX0_cell_17 ?_
      obtain ⟨h1, h2⟩ := m_fin h; subst h1; subst h2
      exact m_lret S hr hlk hK hP hS (by decide +kernel) (by decide +kernel) dX0_cell_20

def f_X0_same (t0 : Nat) (p1 : Int32) (p2 : Int32) (s0 : MS) : Option (Int32 × MS) :=
  (m_is s0 0 t0).bind fun _ =>
  m_b (f_X0_classAt t0 p1 s0) fun r1 s2 =>
  (m_is s2 0 t0).bind fun _ =>
  m_b (f_X0_classAt t0 p2 s2) fun r5 s6 =>
  m_nn r1
    (some (0, s6))
    (fun a9 =>
    m_nn r5
      (some (0, s6))
      (fun a10 =>
      (m_gI s6 1 a10 0).bind fun x11 =>
      (m_gI s6 1 a10 1).bind fun x13 =>
      (m_is s6 1 a9).bind fun _ =>
      m_b (f_X1_isOf a9 x11 x13 s6) fun x15 s16 =>
      if x15 = 0 then
        some (0, s16)
      else
        some (1, s16)))
set_option maxHeartbeats 4000000 in
set_option maxRecDepth 100000 in
theorem c_X0_same (l : Launch) (D : va_G) (tc : Nat → ClassId) (b : Nat) (t0 : Nat) (p1 : Int32) (p2 : Int32) (s0 st' : MS) (r : Int32) (h : f_X0_same t0 p1 p2 s0 = some (r, st')) : Met l yX0_same wsX0_same ({ frames := 2, cells := 0, slots := 0, locals := 42 }) (m_Pc D vwCl (m_tys tc) b s0 [.ref t0, .int p1, .int p2]) (m_Q D vwCl (m_tys tc) b (some (.int r)) st') 0 0 (m_A b) := by
  unfold f_X0_same at h
  refine m_met (cc := cX0_same) (maxL := 5) (ret := (some .boolean)) (by decide) rfl (by first | exact Nat.le_of_ble_eq_true rfl | simp [lg_sl, m_rfc, m_catI, m_catL, m_catA]) ?_
  intro p e s m below meth c ls S hr hlk hnm hK hP hl hS
  replace hl : lv_has ls 5 [(0, .ref t0), (1, .int p1), (2, .int p2)] := by first | exact hl | simpa [lv_args, m_rfc, m_catI, m_catL, m_catA] using hl
  refine lv_aload_n S.1 S.2.1 dX0_same_0 rfl (lv_at hl 0 rfl) ?_
  refine lv_iload_n S.1 S.2.1 dX0_same_1 rfl (lv_at hl 1 rfl) ?_
  obtain ⟨_, k4, h⟩ := m_bs h
  obtain ⟨r1, s2, e3, h⟩ := m_b_s h
  refine m_callr (va_runV (As := [.int p1]) (rest := []) S (c_X0_classAt l D tc b t0 p1 _ _ _ e3) (cwV 1 S.2.2.2.2 (m_wV kX0_classAt (by decide +kernel)) rfl rfl rfl (by decide +kernel) ⟨by decide +kernel, by decide +kernel⟩) (m_preV hK hP (m_is_s k4) rfl) rfl rfl hl.1 rfl (lv_room (by first | decide | simp [m_rfc, m_catI, m_catL, m_catA])) dX0_same_2 ⟨by decide +kernel, by decide +kernel⟩) hS (fun H locs hP hS => ?_)
  refine m_astore_n (i := 3) (lv' := [(3, va_rf r1), (0, .ref t0), (1, .int p1), (2, .int p2)]) S.1 S.2.1 dX0_same_5 rfl hl (by decide) (by first | rfl | simp [m_rfc, m_catI, m_catL, m_catA]) (fun ls hl => ?_)
  refine lv_aload_n S.1 S.2.1 dX0_same_6 rfl (lv_at hl 1 rfl) ?_
  refine lv_iload_n S.1 S.2.1 dX0_same_7 rfl (lv_at hl 3 rfl) ?_
  obtain ⟨_, k8, h⟩ := m_bs h
  obtain ⟨r5, s6, e7, h⟩ := m_b_s h
  refine m_callr (va_runV (As := [.int p2]) (rest := []) S (c_X0_classAt l D tc b t0 p2 _ _ _ e7) (cwV 1 S.2.2.2.2 (m_wV kX0_classAt (by decide +kernel)) rfl rfl rfl (by decide +kernel) ⟨by decide +kernel, by decide +kernel⟩) (m_preV hK hP (m_is_s k8) rfl) rfl rfl hl.1 rfl (lv_room (by first | decide | simp [m_rfc, m_catI, m_catL, m_catA])) dX0_same_8 ⟨by decide +kernel, by decide +kernel⟩) hS (fun H locs hP hS => ?_)
  refine m_astore (i := 4) (lv' := [(4, va_rf r5), (3, va_rf r1), (0, .ref t0), (1, .int p1), (2, .int p2)]) S.1 S.2.1 dX0_same_11 hl (by decide) (by first | rfl | simp [m_rfc, m_catI, m_catL, m_catA]) (fun ls hl => ?_)
  refine m_aload_n S.1 S.2.1 dX0_same_13 rfl (lv_at hl 1 rfl) ?_
  rcases r1 with _ | a9
  · replace h := m_nn0 h
    refine lv_ifnullN (tgt := 43) S.1 S.2.1 dX0_same_14 (by decide) ?_
    refine lv_iconst (v := 0) S.1 S.2.1 dX0_same_43 (by decide) ?_
    obtain ⟨h1, h2⟩ := m_fin h; subst h1; subst h2
    exact m_zret S hr hlk hK hP hS (by decide) (by decide +kernel) (by decide +kernel) dX0_same_44
  · replace h := m_nn1 h
    refine lv_ifnull S.1 S.2.1 dX0_same_14 ?_
    refine m_aload S.1 S.2.1 dX0_same_17 (lv_at hl 0 rfl) ?_
    rcases r5 with _ | a10
    · replace h := m_nn0 h
      refine lv_ifnullN (tgt := 43) S.1 S.2.1 dX0_same_19 (by decide) ?_
      refine lv_iconst (v := 0) S.1 S.2.1 dX0_same_43 (by decide) ?_
      obtain ⟨h1, h2⟩ := m_fin h; subst h1; subst h2
      exact m_zret S hr hlk hK hP hS (by decide) (by decide +kernel) (by decide +kernel) dX0_same_44
    · replace h := m_nn1 h
      refine lv_ifnull S.1 S.2.1 dX0_same_19 ?_
      refine lv_aload_n S.1 S.2.1 dX0_same_22 rfl (lv_at hl 1 rfl) ?_
      refine lv_aload S.1 S.2.1 dX0_same_23 (lv_at hl 0 rfl) ?_
      obtain ⟨x11, e12, h⟩ := m_bs h
      refine m_get (ci := 1) (k := 0) (T := TX1) (N := 6) S (inX1 _) hK hP (m_gI_s e12) rfl (by decide) (S.2.2.2.2 (.fieldLink RX0 132 "RuleHouse2$RuleClass" "edition" "I") (m_mem (by decide +kernel))) rfl dX0_same_25 ?_
      refine lv_aload S.1 S.2.1 dX0_same_28 (lv_at hl 0 rfl) ?_
      obtain ⟨x13, e14, h⟩ := m_bs h
      refine m_get (ci := 1) (k := 1) (T := TX1) (N := 6) S (inX1 _) hK hP (m_gI_s e14) rfl (by decide) (S.2.2.2.2 (.fieldLink RX0 135 "RuleHouse2$RuleClass" "does" "I") (m_mem (by decide +kernel))) rfl dX0_same_30 ?_
      obtain ⟨_, k18, h⟩ := m_bs h
      obtain ⟨x15, s16, e17, h⟩ := m_b_s h
      refine m_calli (va_runV (As := [.int x11, .int x13]) (rest := []) S (c_X1_isOf l D tc b a9 x11 x13 _ _ _ e17) (cwV 2 S.2.2.2.2 (m_wV kX1_isOf (by decide +kernel)) rfl rfl rfl (by decide +kernel) ⟨by decide +kernel, by decide +kernel⟩) (m_preV hK hP (m_is_s k18) rfl) rfl rfl hl.1 rfl (lv_room (by first | decide | simp [m_rfc, m_catI, m_catL, m_catA])) dX0_same_33 ⟨by decide +kernel, by decide +kernel⟩) hS (fun H locs hP hS => ?_)
      refine lv_if_eq (tgt := 43) S.1 S.2.1 dX0_same_36 (by decide) (fun c19 => ?_) (fun c19 => ?_)
      · replace h := m_t c19 h
        refine lv_iconst (v := 0) S.1 S.2.1 dX0_same_43 (by decide) ?_
        obtain ⟨h1, h2⟩ := m_fin h; subst h1; subst h2
        exact m_zret S hr hlk hK hP hS (by decide) (by decide +kernel) (by decide +kernel) dX0_same_44
      · replace h := m_f c19 h
        refine lv_iconst (v := 1) S.1 S.2.1 dX0_same_39 (by decide) ?_
        refine lv_goto (tgt := 44) S.1 S.2.1 dX0_same_40 (by decide) ?_
        obtain ⟨h1, h2⟩ := m_fin h; subst h1; subst h2
        exact m_zret S hr hlk hK hP hS (by decide) (by decide +kernel) (by decide +kernel) dX0_same_44
