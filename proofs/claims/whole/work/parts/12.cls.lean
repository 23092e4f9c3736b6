def f_X0_countInCell (p1 : Option Nat) (s0 : MS) : Option (Int32 × MS) :=
  p1.bind fun a1 =>
  (m_gR s0 2 a1 1).bind fun r2 =>
  r2.bind fun a4 =>
  (m_gL s0 1 a4 5).bind fun l5 =>
  (m_p s0 1 a4 5 (.long (l5 + 1))).bind fun s7 =>
  (m_gR s7 2 a1 1).bind fun r9 =>
  r9.bind fun a11 =>
  (m_gL s7 1 a11 5).bind fun l12 =>
  (m_is s7 2 a1).bind fun _ =>
  m_b (f_X2_give a1 2 ((l12 : Int64).toInt32) s7) fun u14 s15 =>
  some (0, s15)
set_option maxHeartbeats 4000000 in
set_option maxRecDepth 100000 in
theorem c_X0_countInCell (l : Launch) (D : va_G) (tc : Nat → ClassId) (b : Nat) (p1 : Option Nat) (s0 st' : MS) (r : Int32) (h : f_X0_countInCell p1 s0 = some (r, st')) : Met l yX0_countInCell wsX0_countInCell ({ frames := 1, cells := 0, slots := 0, locals := 22 }) (m_Pc D vwCl (m_tys tc) b s0 [va_rf p1]) (m_Q D vwCl (m_tys tc) b (some (.int r)) st') 0 0 (m_A b) := by
  unfold f_X0_countInCell at h
  refine m_met (cc := cX0_countInCell) (maxL := 1) (ret := (some .int)) (by decide) rfl (by first | exact Nat.le_of_ble_eq_true rfl | simp [lg_sl, m_rfc, m_catI, m_catL, m_catA]) ?_
  intro p e s m below meth c ls S hr hlk hnm hK hP hl hS
  replace hl : lv_has ls 1 [(0, va_rf p1)] := by first | exact hl | simpa [lv_args, m_rfc, m_catI, m_catL, m_catA] using hl
  refine m_aload_n S.1 S.2.1 dX0_countInCell_0 rfl (lv_at hl 0 rfl) ?_
  obtain ⟨a1, ea, g⟩ := m_bs h; clear h; subst ea; have h := g; clear g
  obtain ⟨r2, e3, h⟩ := m_bs h
  refine m_get (ci := 2) (k := 1) (T := TX2) (N := 12) S (inX2 _) hK hP (m_gR_s e3) rfl (by decide) (S.2.2.2.2 (.fieldLink RX0 157 "RuleHouse2$Target" "ruleClass" "LRuleHouse2$RuleClass;") (m_mem (by decide +kernel))) rfl dX0_countInCell_1 ?_
  refine lv_dup S.1 S.2.1 dX0_countInCell_4 (m_rfc _) ?_
  obtain ⟨a4, ea, g⟩ := m_bs h; clear h; subst ea; have h := g; clear g
  obtain ⟨l5, e6, h⟩ := m_bs h
  refine m_get (ci := 1) (k := 5) (T := TX1) (N := 6) S (inX1 _) hK hP (m_gL_s e6) rfl (by decide) (S.2.2.2.2 (.fieldLink RX0 128 "RuleHouse2$RuleClass" "cell" "J") (m_mem (by decide +kernel))) rfl dX0_countInCell_5 ?_
  refine lv_lconst (v := 1) S.1 S.2.1 dX0_countInCell_8 (by decide) ?_
  refine lv_ladd S.1 S.2.1 dX0_countInCell_9 ?_
  obtain ⟨s7, e8, h⟩ := m_bs h
  refine m_put (ci := 1) (k := 5) (T := TX1) (N := 6) (v := .long (l5 + 1)) (ty := .long) S (inX1 _) tyX1 tX1 nX1 hK hP hS e8 rfl (by decide) (S.2.2.2.2 (.fieldLink RX0 128 "RuleHouse2$RuleClass" "cell" "J") (m_mem (by decide +kernel))) rfl rfl (by decide +kernel) rfl rfl dX0_countInCell_10 (fun H locs hP hS => ?_)
  refine lv_aload_n S.1 S.2.1 dX0_countInCell_13 rfl (lv_at hl 0 rfl) ?_
  refine lv_iconst (v := 2) S.1 S.2.1 dX0_countInCell_14 (by decide) ?_
  refine lv_aload_n S.1 S.2.1 dX0_countInCell_15 rfl (lv_at hl 0 rfl) ?_
  obtain ⟨r9, e10, h⟩ := m_bs h
  refine m_get (ci := 2) (k := 1) (T := TX2) (N := 12) S (inX2 _) hK hP (m_gR_s e10) rfl (by decide) (S.2.2.2.2 (.fieldLink RX0 157 "RuleHouse2$Target" "ruleClass" "LRuleHouse2$RuleClass;") (m_mem (by decide +kernel))) rfl dX0_countInCell_16 ?_
  obtain ⟨a11, ea, g⟩ := m_bs h; clear h; subst ea; have h := g; clear g
  obtain ⟨l12, e13, h⟩ := m_bs h
  refine m_get (ci := 1) (k := 5) (T := TX1) (N := 6) S (inX1 _) hK hP (m_gL_s e13) rfl (by decide) (S.2.2.2.2 (.fieldLink RX0 128 "RuleHouse2$RuleClass" "cell" "J") (m_mem (by decide +kernel))) rfl dX0_countInCell_19 ?_
  refine lv_l2i S.1 S.2.1 dX0_countInCell_22 rfl ?_
  obtain ⟨_, k17, h⟩ := m_bs h
  obtain ⟨u14, s15, e16, h⟩ := m_b_s h
  refine m_callv (va_runV (As := [.int 2, .int ((l12 : Int64).toInt32)]) (rest := []) S (c_X2_give l D tc b a1 2 ((l12 : Int64).toInt32) _ _ _ e16) (cwV 2 S.2.2.2.2 (m_wV kX2_give (by decide +kernel)) rfl rfl rfl (by decide +kernel) ⟨by decide +kernel, by decide +kernel⟩) (m_preV hK hP (m_is_s k17) rfl) rfl rfl hl.1 rfl (lv_room (by first | decide | simp [m_rfc, m_catI, m_catL, m_catA])) dX0_countInCell_23 ⟨by decide +kernel, by decide +kernel⟩) hS (fun H locs hP hS => ?_)
  refine lv_iconst (v := 0) S.1 S.2.1 dX0_countInCell_26 (by decide) ?_
  obtain ⟨h1, h2⟩ := m_fin h; subst h1; subst h2
  exact m_iret S hr hlk hK hP hS (by decide +kernel) (by decide +kernel) dX0_countInCell_27

def f_X0_giveAmount (p1 : Option Nat) (s0 : MS) : Option (Int32 × MS) :=
  p1.bind fun a1 =>
  (m_gR s0 2 a1 2).bind fun r2 =>
  r2.bind fun a4 =>
  (m_aI s0 1 a4 0).bind fun x5 =>
  (m_gR s0 2 a1 2).bind fun r7 =>
  r7.bind fun a9 =>
  (m_aI s0 1 a9 3).bind fun x10 =>
  if x10 = 1 then
    (m_is s0 2 a1).bind fun _ =>
    m_b (f_X2_give a1 0 (-x5) s0) fun u17 s18 =>
    some (0, s18)
  else
    (m_is s0 2 a1).bind fun _ =>
    m_b (f_X2_give a1 0 x5 s0) fun u13 s14 =>
    some (0, s14)
set_option maxHeartbeats 4000000 in
set_option maxRecDepth 100000 in
theorem c_X0_giveAmount (l : Launch) (D : va_G) (tc : Nat → ClassId) (b : Nat) (p1 : Option Nat) (s0 st' : MS) (r : Int32) (h : f_X0_giveAmount p1 s0 = some (r, st')) : Met l yX0_giveAmount wsX0_giveAmount ({ frames := 1, cells := 0, slots := 0, locals := 22 }) (m_Pc D vwCl (m_tys tc) b s0 [va_rf p1]) (m_Q D vwCl (m_tys tc) b (some (.int r)) st') 0 0 (m_A b) := by
  unfold f_X0_giveAmount at h
  refine m_met (cc := cX0_giveAmount) (maxL := 2) (ret := (some .int)) (by decide) rfl (by first | exact Nat.le_of_ble_eq_true rfl | simp [lg_sl, m_rfc, m_catI, m_catL, m_catA]) ?_
  intro p e s m below meth c ls S hr hlk hnm hK hP hl hS
  replace hl : lv_has ls 2 [(0, va_rf p1)] := by first | exact hl | simpa [lv_args, m_rfc, m_catI, m_catL, m_catA] using hl
  refine m_aload_n S.1 S.2.1 dX0_giveAmount_0 rfl (lv_at hl 0 rfl) ?_
  obtain ⟨a1, ea, g⟩ := m_bs h; clear h; subst ea; have h := g; clear g
  obtain ⟨r2, e3, h⟩ := m_bs h
  refine m_get (ci := 2) (k := 2) (T := TX2) (N := 12) S (inX2 _) hK hP (m_gR_s e3) rfl (by decide) (S.2.2.2.2 (.fieldLink RX0 91 "RuleHouse2$Target" "attributes" "[I") (m_mem (by decide +kernel))) rfl dX0_giveAmount_1 ?_
  refine lv_iconst (v := 0) S.1 S.2.1 dX0_giveAmount_4 (by decide) ?_
  obtain ⟨a4, ea, g⟩ := m_bs h; clear h; subst ea; have h := g; clear g
  obtain ⟨x5, e6, h⟩ := m_bs h
  refine m_iald (t := 1) S hK hP (m_aI_s e6) rfl dX0_giveAmount_5 ?_
  refine lv_istore_n (i := 1) (lv' := [(1, .int x5), (0, .ref a1)]) S.1 S.2.1 dX0_giveAmount_6 rfl hl (by decide) (by first | rfl | simp [m_rfc, m_catI, m_catL, m_catA]) (fun ls hl => ?_)
  refine lv_aload_n S.1 S.2.1 dX0_giveAmount_7 rfl (lv_at hl 1 rfl) ?_
  refine lv_iconst (v := 0) S.1 S.2.1 dX0_giveAmount_8 (by decide) ?_
  refine lv_aload_n S.1 S.2.1 dX0_giveAmount_9 rfl (lv_at hl 1 rfl) ?_
  obtain ⟨r7, e8, h⟩ := m_bs h
  refine m_get (ci := 2) (k := 2) (T := TX2) (N := 12) S (inX2 _) hK hP (m_gR_s e8) rfl (by decide) (S.2.2.2.2 (.fieldLink RX0 91 "RuleHouse2$Target" "attributes" "[I") (m_mem (by decide +kernel))) rfl dX0_giveAmount_10 ?_
  refine lv_iconst (v := 3) S.1 S.2.1 dX0_giveAmount_13 (by decide) ?_
  obtain ⟨a9, ea, g⟩ := m_bs h; clear h; subst ea; have h := g; clear g
  obtain ⟨x10, e11, h⟩ := m_bs h
  refine m_iald (t := 1) S hK hP (m_aI_s e11) rfl dX0_giveAmount_14 ?_
  refine lv_iconst (v := 1) S.1 S.2.1 dX0_giveAmount_15 (by decide) ?_
  refine lv_icmp_ne (tgt := 24) S.1 S.2.1 dX0_giveAmount_16 (by decide) (fun c12 => ?_) (fun c12 => ?_)
  · replace h := m_f c12 h
    refine lv_iload_n S.1 S.2.1 dX0_giveAmount_24 rfl (lv_at hl 0 rfl) ?_
    obtain ⟨_, k16, h⟩ := m_bs h
    obtain ⟨u13, s14, e15, h⟩ := m_b_s h
    refine m_callv (va_runV (As := [.int 0, .int x5]) (rest := []) S (c_X2_give l D tc b a1 0 x5 _ _ _ e15) (cwV 2 S.2.2.2.2 (m_wV kX2_give (by decide +kernel)) rfl rfl rfl (by decide +kernel) ⟨by decide +kernel, by decide +kernel⟩) (m_preV hK hP (m_is_s k16) rfl) rfl rfl hl.1 rfl (lv_room (by first | decide | simp [m_rfc, m_catI, m_catL, m_catA])) dX0_giveAmount_25 ⟨by decide +kernel, by decide +kernel⟩) hS (fun H locs hP hS => ?_)
    refine lv_iconst (v := 0) S.1 S.2.1 dX0_giveAmount_28 (by decide) ?_
    obtain ⟨h1, h2⟩ := m_fin h; subst h1; subst h2
    exact m_iret S hr hlk hK hP hS (by decide +kernel) (by decide +kernel) dX0_giveAmount_29
  · replace h := m_t c12 h
    refine lv_iload_n S.1 S.2.1 dX0_giveAmount_19 rfl (lv_at hl 0 rfl) ?_
    refine lv_ineg S.1 S.2.1 dX0_giveAmount_20 ?_
    refine lv_goto (tgt := 25) S.1 S.2.1 dX0_giveAmount_21 (by decide) ?_
    obtain ⟨_, k20, h⟩ := m_bs h
    obtain ⟨u17, s18, e19, h⟩ := m_b_s h
    refine m_callv (va_runV (As := [.int 0, .int (-x5)]) (rest := []) S (c_X2_give l D tc b a1 0 (-x5) _ _ _ e19) (cwV 2 S.2.2.2.2 (m_wV kX2_give (by decide +kernel)) rfl rfl rfl (by decide +kernel) ⟨by decide +kernel, by decide +kernel⟩) (m_preV hK hP (m_is_s k20) rfl) rfl rfl hl.1 rfl (lv_room (by first | decide | simp [m_rfc, m_catI, m_catL, m_catA])) dX0_giveAmount_25 ⟨by decide +kernel, by decide +kernel⟩) hS (fun H locs hP hS => ?_)
    refine lv_iconst (v := 0) S.1 S.2.1 dX0_giveAmount_28 (by decide) ?_
    obtain ⟨h1, h2⟩ := m_fin h; subst h1; subst h2
    exact m_iret S hr hlk hK hP hS (by decide +kernel) (by decide +kernel) dX0_giveAmount_29

def f_X0_keepHandle (t0 : Nat) (s0 : MS) : Option (Int32 × MS) :=
  (m_gI s0 0 t0 9).bind fun x1 =>
  if 40 ≤ x1 then
    some (0, s0)
  else
    (m_gI s0 0 t0 9).bind fun x4 =>
    (m_p s0 0 t0 9 (.int (x4 + 1))).bind fun s6 =>
    some (0, s6)
set_option maxHeartbeats 4000000 in
set_option maxRecDepth 100000 in
theorem c_X0_keepHandle (l : Launch) (D : va_G) (tc : Nat → ClassId) (b : Nat) (t0 : Nat) (s0 st' : MS) (r : Int32) (h : f_X0_keepHandle t0 s0 = some (r, st')) : Met l yX0_keepHandle wsX0_keepHandle ({ frames := 0, cells := 0, slots := 0, locals := 0 }) (m_Pc D vwCl (m_tys tc) b s0 [.ref t0]) (m_Q D vwCl (m_tys tc) b (some (.int r)) st') 0 0 (m_A b) := by
  unfold f_X0_keepHandle at h
  refine m_met (cc := cX0_keepHandle) (maxL := 1) (ret := (some .int)) (by decide) rfl (by first | exact Nat.le_of_ble_eq_true rfl | simp [lg_sl, m_rfc, m_catI, m_catL, m_catA]) ?_
  intro p e s m below meth c ls S hr hlk hnm hK hP hl hS
  replace hl : lv_has ls 1 [(0, .ref t0)] := by first | exact hl | simpa [lv_args, m_rfc, m_catI, m_catL, m_catA] using hl
  refine lv_aload_n S.1 S.2.1 dX0_keepHandle_0 rfl (lv_at hl 0 rfl) ?_
  obtain ⟨x1, e2, h⟩ := m_bs h
  refine m_get (ci := 0) (k := 9) (T := TX0) (N := 10) S (inX0 _) hK hP (m_gI_s e2) rfl (by decide) (S.2.2.2.2 (.fieldLink RX0 41 "RuleHouse2" "handleCount" "I") (m_mem (by decide +kernel))) rfl dX0_keepHandle_1 ?_
  refine lv_bipush (v := 40) S.1 S.2.1 dX0_keepHandle_4 (by decide) ?_
  refine lv_icmp_ge (tgt := 19) S.1 S.2.1 dX0_keepHandle_6 (by decide) (fun c3 => ?_) (fun c3 => ?_)
  · replace h := m_t c3 h
    refine lv_iconst (v := 0) S.1 S.2.1 dX0_keepHandle_19 (by decide) ?_
    obtain ⟨h1, h2⟩ := m_fin h; subst h1; subst h2
    exact m_iret S hr hlk hK hP hS (by decide +kernel) (by decide +kernel) dX0_keepHandle_20
  · replace h := m_f c3 h
    refine lv_aload_n S.1 S.2.1 dX0_keepHandle_9 rfl (lv_at hl 0 rfl) ?_
    refine lv_dup S.1 S.2.1 dX0_keepHandle_10 rfl ?_
    obtain ⟨x4, e5, h⟩ := m_bs h
    refine m_get (ci := 0) (k := 9) (T := TX0) (N := 10) S (inX0 _) hK hP (m_gI_s e5) rfl (by decide) (S.2.2.2.2 (.fieldLink RX0 41 "RuleHouse2" "handleCount" "I") (m_mem (by decide +kernel))) rfl dX0_keepHandle_11 ?_
    refine lv_iconst (v := 1) S.1 S.2.1 dX0_keepHandle_14 (by decide) ?_
    refine lv_iadd S.1 S.2.1 dX0_keepHandle_15 ?_
    obtain ⟨s6, e7, h⟩ := m_bs h
    refine m_put (ci := 0) (k := 9) (T := TX0) (N := 10) (v := .int (x4 + 1)) (ty := .int) S (inX0 _) tyX0 tX0 nX0 hK hP hS e7 rfl (by decide) (S.2.2.2.2 (.fieldLink RX0 41 "RuleHouse2" "handleCount" "I") (m_mem (by decide +kernel))) rfl rfl (by decide +kernel) rfl rfl dX0_keepHandle_16 (fun H locs hP hS => ?_)
    refine lv_iconst (v := 0) S.1 S.2.1 dX0_keepHandle_19 (by decide) ?_
    obtain ⟨h1, h2⟩ := m_fin h; subst h1; subst h2
    exact m_iret S hr hlk hK hP hS (by decide +kernel) (by decide +kernel) dX0_keepHandle_20

def f_X0_doBit (t0 : Nat) (p1 : Option Nat) (p2 : Option Nat) (p3 : Int32) (s0 : MS) : Option (Int32 × MS) :=
  if p3 = 0 then
    m_b (f_X0_declareOutput p1 s0) fun x2 s3 =>
    some (x2, s3)
  else if p3 = 1 then
    m_b (f_X0_declareOutput p1 s0) fun x6 s7 =>
    some (x6, s7)
  else if p3 = 2 then
    (m_is s0 0 t0).bind fun _ =>
    m_b (f_X0_addActions t0 p1 s0) fun x10 s11 =>
    some (x10, s11)
  else if p3 = 3 then
    m_b (f_X0_giveQuotient p1 s0) fun x15 s16 =>
    some (x15, s16)
  else if p3 = 4 then
    m_b (f_X0_giveOneMore p1 p2 s0) fun x19 s20 =>
    some (x19, s20)
  else if p3 = 5 then
    m_b (f_X0_countInCell p1 s0) fun x23 s24 =>
    some (x23, s24)
  else if p3 = 6 then
    m_b (f_X0_giveAmount p1 s0) fun x27 s28 =>
    some (x27, s28)
  else (m_is s0 0 t0).bind fun _ =>
  m_b (f_X0_keepHandle t0 s0) fun x30 s31 =>
  some (x30, s31)
set_option maxHeartbeats 4000000 in
set_option maxRecDepth 100000 in
theorem c_X0_doBit (l : Launch) (D : va_G) (tc : Nat → ClassId) (b : Nat) (t0 : Nat) (p1 : Option Nat) (p2 : Option Nat) (p3 : Int32) (s0 st' : MS) (r : Int32) (h : f_X0_doBit t0 p1 p2 p3 s0 = some (r, st')) : Met l yX0_doBit wsX0_doBit ({ frames := 2, cells := 0, slots := 0, locals := 44 }) (m_Pc D vwCl (m_tys tc) b s0 [.ref t0, va_rf p1, va_rf p2, .int p3]) (m_Q D vwCl (m_tys tc) b (some (.int r)) st') 0 0 (m_A b) := by
  unfold f_X0_doBit at h
  refine m_met (cc := cX0_doBit) (maxL := 4) (ret := (some .int)) (by decide) rfl (by first | exact Nat.le_of_ble_eq_true rfl | simp [lg_sl, m_rfc, m_catI, m_catL, m_catA]) ?_
  intro p e s m below meth c ls S hr hlk hnm hK hP hl hS
  replace hl : lv_has ls 4 [(0, .ref t0), (1, va_rf p1), (2, va_rf p2), (3, .int p3)] := by first | exact hl | simpa [lv_args, m_rfc, m_catI, m_catL, m_catA] using hl
  refine lv_iload_n S.1 S.2.1 dX0_doBit_0 rfl (lv_at hl 3 rfl) ?_
  by_cases c1 : p3 = 0
  · replace h := m_t c1 h
    refine lv_tableIn (tgt := 44) S.1 S.2.1 dX0_doBit_1 (by rw [c1]; decide) (by rw [c1]; decide) (by rw [c1]; rfl) (by decide) ?_
    refine m_aload_n S.1 S.2.1 dX0_doBit_44 rfl (lv_at hl 1 rfl) ?_
    obtain ⟨x2, s3, e4, h⟩ := m_b_s h
    refine m_calli (va_runS (As := [va_rf p1]) (rest := []) S (c_X0_declareOutput l D tc b p1 _ _ _ e4) (cwS 1 S.2.2.2.2 (m_wS kX0_declareOutput (by decide +kernel)) rfl rfl rfl (by decide +kernel) ⟨by decide +kernel, by decide +kernel⟩) (m_preS hK hP) rfl rfl hl.1 rfl (lv_room (by first | decide | simp [m_rfc, m_catI, m_catL, m_catA])) dX0_doBit_45 ⟨by decide +kernel, by decide +kernel⟩) hS (fun H locs hP hS => ?_)
    obtain ⟨h1, h2⟩ := m_fin h; subst h1; subst h2
    exact m_iret S hr hlk hK hP hS (by decide +kernel) (by decide +kernel) dX0_doBit_48
  replace h := m_f c1 h
  by_cases c5 : p3 = 1
  · replace h := m_t c5 h
    refine lv_tableIn (tgt := 44) S.1 S.2.1 dX0_doBit_1 (by rw [c5]; decide) (by rw [c5]; decide) (by rw [c5]; rfl) (by decide) ?_
    refine m_aload_n S.1 S.2.1 dX0_doBit_44 rfl (lv_at hl 1 rfl) ?_
    obtain ⟨x6, s7, e8, h⟩ := m_b_s h
    refine m_calli (va_runS (As := [va_rf p1]) (rest := []) S (c_X0_declareOutput l D tc b p1 _ _ _ e8) (cwS 1 S.2.2.2.2 (m_wS kX0_declareOutput (by decide +kernel)) rfl rfl rfl (by decide +kernel) ⟨by decide +kernel, by decide +kernel⟩) (m_preS hK hP) rfl rfl hl.1 rfl (lv_room (by first | decide | simp [m_rfc, m_catI, m_catL, m_catA])) dX0_doBit_45 ⟨by decide +kernel, by decide +kernel⟩) hS (fun H locs hP hS => ?_)
    obtain ⟨h1, h2⟩ := m_fin h; subst h1; subst h2
    exact m_iret S hr hlk hK hP hS (by decide +kernel) (by decide +kernel) dX0_doBit_48
  replace h := m_f c5 h
  by_cases c9 : p3 = 2
  · replace h := m_t c9 h
    refine lv_tableIn (tgt := 49) S.1 S.2.1 dX0_doBit_1 (by rw [c9]; decide) (by rw [c9]; decide) (by rw [c9]; rfl) (by decide) ?_
    refine lv_aload_n S.1 S.2.1 dX0_doBit_49 rfl (lv_at hl 0 rfl) ?_
    refine m_aload_n S.1 S.2.1 dX0_doBit_50 rfl (lv_at hl 1 rfl) ?_
    obtain ⟨_, k13, h⟩ := m_bs h
    obtain ⟨x10, s11, e12, h⟩ := m_b_s h
    refine m_calli (va_runV (As := [va_rf p1]) (rest := []) S (c_X0_addActions l D tc b t0 p1 _ _ _ e12) (cwV 1 S.2.2.2.2 (m_wV kX0_addActions (by decide +kernel)) rfl rfl rfl (by decide +kernel) ⟨by decide +kernel, by decide +kernel⟩) (m_preV hK hP (m_is_s k13) rfl) rfl rfl hl.1 rfl (lv_room (by first | decide | simp [m_rfc, m_catI, m_catL, m_catA])) dX0_doBit_51 ⟨by decide +kernel, by decide +kernel⟩) hS (fun H locs hP hS => ?_)
    obtain ⟨h1, h2⟩ := m_fin h; subst h1; subst h2
    exact m_iret S hr hlk hK hP hS (by decide +kernel) (by decide +kernel) dX0_doBit_54
  replace h := m_f c9 h
  by_cases c14 : p3 = 3
  · replace h := m_t c14 h
    refine lv_tableIn (tgt := 55) S.1 S.2.1 dX0_doBit_1 (by rw [c14]; decide) (by rw [c14]; decide) (by rw [c14]; rfl) (by decide) ?_
    refine m_aload_n S.1 S.2.1 dX0_doBit_55 rfl (lv_at hl 1 rfl) ?_
    obtain ⟨x15, s16, e17, h⟩ := m_b_s h
    refine m_calli (va_runS (As := [va_rf p1]) (rest := []) S (c_X0_giveQuotient l D tc b p1 _ _ _ e17) (cwS 1 S.2.2.2.2 (m_wS kX0_giveQuotient (by decide +kernel)) rfl rfl rfl (by decide +kernel) ⟨by decide +kernel, by decide +kernel⟩) (m_preS hK hP) rfl rfl hl.1 rfl (lv_room (by first | decide | simp [m_rfc, m_catI, m_catL, m_catA])) dX0_doBit_56 ⟨by decide +kernel, by decide +kernel⟩) hS (fun H locs hP hS => ?_)
    obtain ⟨h1, h2⟩ := m_fin h; subst h1; subst h2
    exact m_iret S hr hlk hK hP hS (by decide +kernel) (by decide +kernel) dX0_doBit_59
  replace h := m_f c14 h
  by_cases c18 : p3 = 4
  · replace h := m_t c18 h
    refine lv_tableIn (tgt := 60) S.1 S.2.1 dX0_doBit_1 (by rw [c18]; decide) (by rw [c18]; decide) (by rw [c18]; rfl) (by decide) ?_
    refine m_aload_n S.1 S.2.1 dX0_doBit_60 rfl (lv_at hl 1 rfl) ?_
    refine m_aload_n S.1 S.2.1 dX0_doBit_61 rfl (lv_at hl 2 rfl) ?_
    obtain ⟨x19, s20, e21, h⟩ := m_b_s h
    refine m_calli (va_runS (As := [va_rf p1, va_rf p2]) (rest := []) S (c_X0_giveOneMore l D tc b p1 p2 _ _ _ e21) (cwS 2 S.2.2.2.2 (m_wS kX0_giveOneMore (by decide +kernel)) rfl rfl rfl (by decide +kernel) ⟨by decide +kernel, by decide +kernel⟩) (m_preS hK hP) rfl rfl hl.1 rfl (lv_room (by first | decide | simp [m_rfc, m_catI, m_catL, m_catA])) dX0_doBit_62 ⟨by decide +kernel, by decide +kernel⟩) hS (fun H locs hP hS => ?_)
    obtain ⟨h1, h2⟩ := m_fin h; subst h1; subst h2
    exact m_iret S hr hlk hK hP hS (by decide +kernel) (by decide +kernel) dX0_doBit_65
  replace h := m_f c18 h
  by_cases c22 : p3 = 5
  · replace h := m_t c22 h
    refine lv_tableIn (tgt := 66) S.1 S.2.1 dX0_doBit_1 (by rw [c22]; decide) (by rw [c22]; decide) (by rw [c22]; rfl) (by decide) ?_
    refine m_aload_n S.1 S.2.1 dX0_doBit_66 rfl (lv_at hl 1 rfl) ?_
    obtain ⟨x23, s24, e25, h⟩ := m_b_s h
    refine m_calli (va_runS (As := [va_rf p1]) (rest := []) S (c_X0_countInCell l D tc b p1 _ _ _ e25) (cwS 1 S.2.2.2.2 (m_wS kX0_countInCell (by decide +kernel)) rfl rfl rfl (by decide +kernel) ⟨by decide +kernel, by decide +kernel⟩) (m_preS hK hP) rfl rfl hl.1 rfl (lv_room (by first | decide | simp [m_rfc, m_catI, m_catL, m_catA])) dX0_doBit_67 ⟨by decide +kernel, by decide +kernel⟩) hS (fun H locs hP hS => ?_)
    obtain ⟨h1, h2⟩ := m_fin h; subst h1; subst h2
    exact m_iret S hr hlk hK hP hS (by decide +kernel) (by decide +kernel) dX0_doBit_70
  replace h := m_f c22 h
  by_cases c26 : p3 = 6
  · replace h := m_t c26 h
    refine lv_tableIn (tgt := 71) S.1 S.2.1 dX0_doBit_1 (by rw [c26]; decide) (by rw [c26]; decide) (by rw [c26]; rfl) (by decide) ?_
    refine m_aload_n S.1 S.2.1 dX0_doBit_71 rfl (lv_at hl 1 rfl) ?_
    obtain ⟨x27, s28, e29, h⟩ := m_b_s h
    refine m_calli (va_runS (As := [va_rf p1]) (rest := []) S (c_X0_giveAmount l D tc b p1 _ _ _ e29) (cwS 1 S.2.2.2.2 (m_wS kX0_giveAmount (by decide +kernel)) rfl rfl rfl (by decide +kernel) ⟨by decide +kernel, by decide +kernel⟩) (m_preS hK hP) rfl rfl hl.1 rfl (lv_room (by first | decide | simp [m_rfc, m_catI, m_catL, m_catA])) dX0_doBit_72 ⟨by decide +kernel, by decide +kernel⟩) hS (fun H locs hP hS => ?_)
    obtain ⟨h1, h2⟩ := m_fin h; subst h1; subst h2
    exact m_iret S hr hlk hK hP hS (by decide +kernel) (by decide +kernel) dX0_doBit_75
  replace h := m_f c26 h
  have nc26 := (⟨lv_neT (a := 0) c1 (by decide), lv_neT (a := 1) c5 (by decide), lv_neT (a := 2) c9 (by decide), lv_neT (a := 3) c14 (by decide), lv_neT (a := 4) c18 (by decide), lv_neT (a := 5) c22 (by decide), lv_neT (a := 6) c26 (by decide)⟩ : ¬ (p3).toInt = 0 ∧ ¬ (p3).toInt = 1 ∧ ¬ (p3).toInt = 2 ∧ ¬ (p3).toInt = 3 ∧ ¬ (p3).toInt = 4 ∧ ¬ (p3).toInt = 5 ∧ ¬ (p3).toInt = 6)
  refine lv_tableOut (tgt := 76) S.1 S.2.1 dX0_doBit_1 (by omega) (by decide) ?_
  refine lv_aload_n S.1 S.2.1 dX0_doBit_76 rfl (lv_at hl 0 rfl) ?_
  obtain ⟨_, k33, h⟩ := m_bs h
  obtain ⟨x30, s31, e32, h⟩ := m_b_s h
  refine m_calli (va_runV (As := []) (rest := []) S (c_X0_keepHandle l D tc b t0 _ _ _ e32) (cwV 0 S.2.2.2.2 (m_wV kX0_keepHandle (by decide +kernel)) rfl rfl rfl (by decide +kernel) ⟨by decide +kernel, by decide +kernel⟩) (m_preV hK hP (m_is_s k33) rfl) rfl rfl hl.1 rfl (lv_room (by first | decide | simp [m_rfc, m_catI, m_catL, m_catA])) dX0_doBit_77 ⟨by decide +kernel, by decide +kernel⟩) hS (fun H locs hP hS => ?_)
  obtain ⟨h1, h2⟩ := m_fin h; subst h1; subst h2
  exact m_iret S hr hlk hK hP hS (by decide +kernel) (by decide +kernel) dX0_doBit_80

def f_X0_doBits_L8 : Nat → Int32 → Int32 → Nat → (Option Nat) → (Option Nat) → MS → Option (Unit × MS)
  | 0, _, _, _, _, _, _ => none
  | f + 1, q4, q3, q0, q1, q2, s0 =>
    if 8 ≤ q4 then
      some ((), s0)
    else
      q1.bind fun a4 =>
      (m_gR s0 2 a4 1).bind fun r5 =>
      r5.bind fun a7 =>
      (m_gI s0 1 a7 1).bind fun x8 =>
      if ((x8 >>> (q4 &&& 31)) &&& 1) = 0 then
        f_X0_doBits_L8 f (q4 + 1) q3 q0 (some a4) q2 s0
      else
        (m_is s0 0 q0).bind fun _ =>
        m_b (f_X0_takesStep q0 (some a4) s0) fun x11 s12 =>
        if x11 = 0 then
          if (5 : Int32) = 0 then
            f_X0_doBits_L8 f (q4 + 1) q3 q0 (some a4) q2 s12
          else
            (m_p s12 0 q0 8 (.int q3)).bind fun s17 =>
            (m_gI s17 2 a4 0).bind fun x19 =>
            (m_is s17 2 a4).bind fun _ =>
            m_b (f_X2_fail a4 5 q4 x19 s17) fun u21 s22 =>
            some ((), s22)
        else
          (m_is s12 0 q0).bind fun _ =>
          m_b (f_X0_doBit q0 (some a4) q2 q4 s12) fun x25 s26 =>
          if x25 = 0 then
            f_X0_doBits_L8 f (q4 + 1) q3 q0 (some a4) q2 s26
          else
            (m_p s26 0 q0 8 (.int q3)).bind fun s30 =>
            (m_gI s30 2 a4 0).bind fun x32 =>
            (m_is s30 2 a4).bind fun _ =>
            m_b (f_X2_fail a4 x25 q4 x32 s30) fun u34 s35 =>
            some ((), s35)
def f_X0_doBits (t0 : Nat) (p1 : Option Nat) (p2 : Option Nat) (s0 : MS) : Option (Unit × MS) :=
  (m_gI s0 0 t0 8).bind fun x1 =>
  f_X0_doBits_L8 64 0 x1 t0 p1 p2 s0
set_option maxHeartbeats 4000000 in
set_option maxRecDepth 100000 in
theorem w_X0_doBits_L8 {p : Program} {l : Launch} {e : Env} {s : State} {m : MethodId} {args : Array Value} {below : List Frame} {meth : Method} {c : Code} (D : va_G) (tc : Nat → ClassId) (b : Nat) (S : CallFix p m c cX0_doBits 6 s args wsX0_doBits RX0) (hr : meth.sig.returnType = none) (hlk : meth.locks = false) (hK : va_K D vwCl (m_tys tc) s) :
    ∀ (f : Nat) (q4 : Int32) (q3 : Int32) (q0 : Nat) (q1 : Option Nat) (q2 : Option Nat) (s0 st' : MS) (r : Unit) (h : f_X0_doBits_L8 f q4 q3 q0 q1 q2 s0 = some (r, st')) (H : Heap) (locs : List Loc) (ls : Array Slot) (hP : mw D vwCl (m_tys tc) b s0 H) (hS : va_S (m_A b) s.heap H locs) (hl : lv_has ls 6 [(4, .int q4), (3, .int q3), (0, .ref q0), (1, va_rf q1), (2, va_rf q2)]), W p l e { frames := 3, cells := 0, slots := 0, locals := 67 } s m args below meth c H locs 0 0 (MQ below (m_Q D vwCl (m_tys tc) b none st') args s 0 0 (m_A b)) (F0 m 8 ls []) := by
  intro f
  induction f with
  | zero =>
    intro q4 q3 q0 q1 q2 s0 st' r h
    cases h
  | succ f ih =>
    intro q4 q3 q0 q1 q2 s0 st' r h H locs ls hP hS hl
    rw [f_X0_doBits_L8] at h
    refine lv_iload S.1 S.2.1 dX0_doBits_8 (lv_at hl 0 rfl) ?_
    refine lv_bipush (v := 8) S.1 S.2.1 dX0_doBits_10 (by decide) ?_
    refine lv_icmp_ge (tgt := 84) S.1 S.2.1 dX0_doBits_12 (by decide) (fun c3 => ?_) (fun c3 => ?_)
    · replace h := m_t c3 h
      obtain ⟨h1, h2⟩ := m_fin h; subst h1; subst h2
      exact m_vret S hr hlk hK hP hS (by decide +kernel) (by decide +kernel) dX0_doBits_84
    · replace h := m_f c3 h
      refine m_aload_n S.1 S.2.1 dX0_doBits_15 rfl (lv_at hl 3 rfl) ?_
      obtain ⟨a4, ea, g⟩ := m_bs h; clear h; subst ea; have h := g; clear g
      obtain ⟨r5, e6, h⟩ := m_bs h
      refine m_get (ci := 2) (k := 1) (T := TX2) (N := 12) S (inX2 _) hK hP (m_gR_s e6) rfl (by decide) (S.2.2.2.2 (.fieldLink RX0 157 "RuleHouse2$Target" "ruleClass" "LRuleHouse2$RuleClass;") (m_mem (by decide +kernel))) rfl dX0_doBits_16 ?_
      obtain ⟨a7, ea, g⟩ := m_bs h; clear h; subst ea; have h := g; clear g
      obtain ⟨x8, e9, h⟩ := m_bs h
      refine m_get (ci := 1) (k := 1) (T := TX1) (N := 6) S (inX1 _) hK hP (m_gI_s e9) rfl (by decide) (S.2.2.2.2 (.fieldLink RX0 135 "RuleHouse2$RuleClass" "does" "I") (m_mem (by decide +kernel))) rfl dX0_doBits_19 ?_
      refine lv_iload S.1 S.2.1 dX0_doBits_22 (lv_at hl 0 rfl) ?_
      refine lv_ishr S.1 S.2.1 dX0_doBits_24 ?_
      refine lv_iconst (v := 1) S.1 S.2.1 dX0_doBits_25 (by decide) ?_
      refine lv_iand S.1 S.2.1 dX0_doBits_26 ?_
      refine lv_if_ne (tgt := 33) S.1 S.2.1 dX0_doBits_27 (by decide) (fun c10 => ?_) (fun c10 => ?_)
      · replace h := m_f c10 h
        refine lv_aload_n S.1 S.2.1 dX0_doBits_33 rfl (lv_at hl 2 rfl) ?_
        refine lv_aload_n S.1 S.2.1 dX0_doBits_34 rfl (lv_at hl 3 rfl) ?_
        obtain ⟨_, k14, h⟩ := m_bs h
        obtain ⟨x11, s12, e13, h⟩ := m_b_s h
        refine m_calli (va_runV (As := [va_rf (some a4)]) (rest := []) S (c_X0_takesStep l D tc b q0 (some a4) _ _ _ e13) (cwV 1 S.2.2.2.2 (m_wV kX0_takesStep (by decide +kernel)) rfl rfl rfl (by decide +kernel) ⟨by decide +kernel, by decide +kernel⟩) (m_preV hK hP (m_is_s k14) rfl) rfl rfl hl.1 rfl (lv_room (by first | decide | simp [m_rfc, m_catI, m_catL, m_catA])) dX0_doBits_35 ⟨by decide +kernel, by decide +kernel⟩) hS (fun H locs hP hS => ?_)
        refine lv_if_eq (tgt := 52) S.1 S.2.1 dX0_doBits_38 (by decide) (fun c15 => ?_) (fun c15 => ?_)
        · replace h := m_t c15 h
          refine lv_iconst (v := 5) S.1 S.2.1 dX0_doBits_52 (by decide) ?_
          refine lv_istore (i := 5) (lv' := [(5, .int 5), (4, .int q4), (3, .int q3), (0, .ref q0), (1, .ref a4), (2, va_rf q2)]) S.1 S.2.1 dX0_doBits_53 hl (by decide) (by first | rfl | simp [m_rfc, m_catI, m_catL, m_catA]) (fun ls hl => ?_)
          refine lv_iload S.1 S.2.1 dX0_doBits_55 (lv_at hl 0 rfl) ?_
          refine lv_if_eq (tgt := 78) S.1 S.2.1 dX0_doBits_57 (by decide) (fun c16 => ?_) (fun c16 => ?_)
          · replace h := m_t c16 h
            refine lv_iinc (v := q4 + 1) (lv' := [(4, .int (q4 + 1)), (5, .int 5), (3, .int q3), (0, .ref q0), (1, .ref a4), (2, va_rf q2)]) S.1 S.2.1 dX0_doBits_78 hl (k := 1) rfl rfl (by decide) (by first | rfl | simp [m_rfc, m_catI, m_catL, m_catA]) (fun ls hl => ?_)
            refine lv_goto (tgt := 8) S.1 S.2.1 dX0_doBits_81 (by decide) ?_
            exact ih (q4 + 1) q3 q0 (some a4) q2 _ _ _ h _ _ _ hP hS (lv_sub hl [0, 2, 3, 4, 5] rfl)
          · replace h := m_f c16 h
            refine lv_aload_n S.1 S.2.1 dX0_doBits_60 rfl (lv_at hl 3 rfl) ?_
            refine lv_iload_n S.1 S.2.1 dX0_doBits_61 rfl (lv_at hl 2 rfl) ?_
            obtain ⟨s17, e18, h⟩ := m_bs h
            refine m_put (ci := 0) (k := 8) (T := TX0) (N := 10) (v := .int q3) (ty := .int) S (inX0 _) tyX0 tX0 nX0 hK hP hS e18 rfl (by decide) (S.2.2.2.2 (.fieldLink RX0 38 "RuleHouse2" "actionCount" "I") (m_mem (by decide +kernel))) rfl rfl (by decide +kernel) rfl rfl dX0_doBits_62 (fun H locs hP hS => ?_)
            refine lv_aload_n S.1 S.2.1 dX0_doBits_65 rfl (lv_at hl 4 rfl) ?_
            refine lv_iload S.1 S.2.1 dX0_doBits_66 (lv_at hl 0 rfl) ?_
            refine lv_iload S.1 S.2.1 dX0_doBits_68 (lv_at hl 1 rfl) ?_
            refine lv_aload_n S.1 S.2.1 dX0_doBits_70 rfl (lv_at hl 4 rfl) ?_
            obtain ⟨x19, e20, h⟩ := m_bs h
            refine m_get (ci := 2) (k := 0) (T := TX2) (N := 12) S (inX2 _) hK hP (m_gI_s e20) rfl (by decide) (S.2.2.2.2 (.fieldLink RX0 156 "RuleHouse2$Target" "number" "I") (m_mem (by decide +kernel))) rfl dX0_doBits_71 ?_
            obtain ⟨_, k24, h⟩ := m_bs h
            obtain ⟨u21, s22, e23, h⟩ := m_b_s h
            refine m_callv (va_runV (As := [.int 5, .int q4, .int x19]) (rest := []) S (c_X2_fail l D tc b a4 5 q4 x19 _ _ _ e23) (cwV 3 S.2.2.2.2 (m_wV kX2_fail (by decide +kernel)) rfl rfl rfl (by decide +kernel) ⟨by decide +kernel, by decide +kernel⟩) (m_preV hK hP (m_is_s k24) rfl) rfl rfl hl.1 rfl (lv_room (by first | decide | simp [m_rfc, m_catI, m_catL, m_catA])) dX0_doBits_74 ⟨by decide +kernel, by decide +kernel⟩) hS (fun H locs hP hS => ?_)
            obtain ⟨h1, h2⟩ := m_fin h; subst h1; subst h2
            exact m_vret S hr hlk hK hP hS (by decide +kernel) (by decide +kernel) dX0_doBits_77
        · replace h := m_f c15 h
          refine lv_aload_n S.1 S.2.1 dX0_doBits_41 rfl (lv_at hl 2 rfl) ?_
          refine lv_aload_n S.1 S.2.1 dX0_doBits_42 rfl (lv_at hl 3 rfl) ?_
          refine m_aload_n S.1 S.2.1 dX0_doBits_43 rfl (lv_at hl 4 rfl) ?_
          refine lv_iload S.1 S.2.1 dX0_doBits_44 (lv_at hl 0 rfl) ?_
          obtain ⟨_, k28, h⟩ := m_bs h
          obtain ⟨x25, s26, e27, h⟩ := m_b_s h
          refine m_calli (va_runV (As := [va_rf (some a4), va_rf q2, .int q4]) (rest := []) S (c_X0_doBit l D tc b q0 (some a4) q2 q4 _ _ _ e27) (cwV 3 S.2.2.2.2 (m_wV kX0_doBit (by decide +kernel)) rfl rfl rfl (by decide +kernel) ⟨by decide +kernel, by decide +kernel⟩) (m_preV hK hP (m_is_s k28) rfl) rfl rfl hl.1 rfl (lv_room (by first | decide | simp [m_rfc, m_catI, m_catL, m_catA])) dX0_doBits_46 ⟨by decide +kernel, by decide +kernel⟩) hS (fun H locs hP hS => ?_)
          refine lv_goto (tgt := 53) S.1 S.2.1 dX0_doBits_49 (by decide) ?_
          refine lv_istore (i := 5) (lv' := [(5, .int x25), (4, .int q4), (3, .int q3), (0, .ref q0), (1, .ref a4), (2, va_rf q2)]) S.1 S.2.1 dX0_doBits_53 hl (by decide) (by first | rfl | simp [m_rfc, m_catI, m_catL, m_catA]) (fun ls hl => ?_)
          refine lv_iload S.1 S.2.1 dX0_doBits_55 (lv_at hl 0 rfl) ?_
          refine lv_if_eq (tgt := 78) S.1 S.2.1 dX0_doBits_57 (by decide) (fun c29 => ?_) (fun c29 => ?_)
          · replace h := m_t c29 h
            refine lv_iinc (v := q4 + 1) (lv' := [(4, .int (q4 + 1)), (5, .int x25), (3, .int q3), (0, .ref q0), (1, .ref a4), (2, va_rf q2)]) S.1 S.2.1 dX0_doBits_78 hl (k := 1) rfl rfl (by decide) (by first | rfl | simp [m_rfc, m_catI, m_catL, m_catA]) (fun ls hl => ?_)
            refine lv_goto (tgt := 8) S.1 S.2.1 dX0_doBits_81 (by decide) ?_
            exact ih (q4 + 1) q3 q0 (some a4) q2 _ _ _ h _ _ _ hP hS (lv_sub hl [0, 2, 3, 4, 5] rfl)
          · replace h := m_f c29 h
            refine lv_aload_n S.1 S.2.1 dX0_doBits_60 rfl (lv_at hl 3 rfl) ?_
            refine lv_iload_n S.1 S.2.1 dX0_doBits_61 rfl (lv_at hl 2 rfl) ?_
            obtain ⟨s30, e31, h⟩ := m_bs h
            refine m_put (ci := 0) (k := 8) (T := TX0) (N := 10) (v := .int q3) (ty := .int) S (inX0 _) tyX0 tX0 nX0 hK hP hS e31 rfl (by decide) (S.2.2.2.2 (.fieldLink RX0 38 "RuleHouse2" "actionCount" "I") (m_mem (by decide +kernel))) rfl rfl (by decide +kernel) rfl rfl dX0_doBits_62 (fun H locs hP hS => ?_)
            refine lv_aload_n S.1 S.2.1 dX0_doBits_65 rfl (lv_at hl 4 rfl) ?_
            refine lv_iload S.1 S.2.1 dX0_doBits_66 (lv_at hl 0 rfl) ?_
            refine lv_iload S.1 S.2.1 dX0_doBits_68 (lv_at hl 1 rfl) ?_
            refine lv_aload_n S.1 S.2.1 dX0_doBits_70 rfl (lv_at hl 4 rfl) ?_
            obtain ⟨x32, e33, h⟩ := m_bs h
            refine m_get (ci := 2) (k := 0) (T := TX2) (N := 12) S (inX2 _) hK hP (m_gI_s e33) rfl (by decide) (S.2.2.2.2 (.fieldLink RX0 156 "RuleHouse2$Target" "number" "I") (m_mem (by decide +kernel))) rfl dX0_doBits_71 ?_
            obtain ⟨_, k37, h⟩ := m_bs h
            obtain ⟨u34, s35, e36, h⟩ := m_b_s h
            refine m_callv (va_runV (As := [.int x25, .int q4, .int x32]) (rest := []) S (c_X2_fail l D tc b a4 x25 q4 x32 _ _ _ e36) (cwV 3 S.2.2.2.2 (m_wV kX2_fail (by decide +kernel)) rfl rfl rfl (by decide +kernel) ⟨by decide +kernel, by decide +kernel⟩) (m_preV hK hP (m_is_s k37) rfl) rfl rfl hl.1 rfl (lv_room (by first | decide | simp [m_rfc, m_catI, m_catL, m_catA])) dX0_doBits_74 ⟨by decide +kernel, by decide +kernel⟩) hS (fun H locs hP hS => ?_)
            obtain ⟨h1, h2⟩ := m_fin h; subst h1; subst h2
            exact m_vret S hr hlk hK hP hS (by decide +kernel) (by decide +kernel) dX0_doBits_77
      · replace h := m_t c10 h
        refine lv_goto (tgt := 78) S.1 S.2.1 dX0_doBits_30 (by decide) ?_
        refine lv_iinc (v := q4 + 1) (lv' := [(4, .int (q4 + 1)), (3, .int q3), (0, .ref q0), (1, .ref a4), (2, va_rf q2)]) S.1 S.2.1 dX0_doBits_78 hl (k := 0) rfl rfl (by decide) (by first | rfl | simp [m_rfc, m_catI, m_catL, m_catA]) (fun ls hl => ?_)
        refine lv_goto (tgt := 8) S.1 S.2.1 dX0_doBits_81 (by decide) ?_
        exact ih (q4 + 1) q3 q0 (some a4) q2 _ _ _ h _ _ _ hP hS (lv_sub hl [0, 1, 2, 3, 4] rfl)
set_option maxHeartbeats 4000000 in
set_option maxRecDepth 100000 in
theorem c_X0_doBits (l : Launch) (D : va_G) (tc : Nat → ClassId) (b : Nat) (t0 : Nat) (p1 : Option Nat) (p2 : Option Nat) (s0 st' : MS) (r : Unit) (h : f_X0_doBits t0 p1 p2 s0 = some (r, st')) : Met l yX0_doBits wsX0_doBits ({ frames := 3, cells := 0, slots := 0, locals := 67 }) (m_Pc D vwCl (m_tys tc) b s0 [.ref t0, va_rf p1, va_rf p2]) (m_Q D vwCl (m_tys tc) b none st') 0 0 (m_A b) := by
  unfold f_X0_doBits at h
  refine m_met (cc := cX0_doBits) (maxL := 6) (ret := none) (by decide) rfl (by first | exact Nat.le_of_ble_eq_true rfl | simp [lg_sl, m_rfc, m_catI, m_catL, m_catA]) ?_
  intro p e s m below meth c ls S hr hlk hnm hK hP hl hS
  replace hl : lv_has ls 6 [(0, .ref t0), (1, va_rf p1), (2, va_rf p2)] := by first | exact hl | simpa [lv_args, m_rfc, m_catI, m_catL, m_catA] using hl
  refine lv_aload_n S.1 S.2.1 dX0_doBits_0 rfl (lv_at hl 0 rfl) ?_
  obtain ⟨x1, e2, h⟩ := m_bs h
  refine m_get (ci := 0) (k := 8) (T := TX0) (N := 10) S (inX0 _) hK hP (m_gI_s e2) rfl (by decide) (S.2.2.2.2 (.fieldLink RX0 38 "RuleHouse2" "actionCount" "I") (m_mem (by decide +kernel))) rfl dX0_doBits_1 ?_
  refine lv_istore_n (i := 3) (lv' := [(3, .int x1), (0, .ref t0), (1, va_rf p1), (2, va_rf p2)]) S.1 S.2.1 dX0_doBits_4 rfl hl (by decide) (by first | rfl | simp [m_rfc, m_catI, m_catL, m_catA]) (fun ls hl => ?_)
  refine lv_iconst (v := 0) S.1 S.2.1 dX0_doBits_5 (by decide) ?_
  refine lv_istore (i := 4) (lv' := [(4, .int 0), (3, .int x1), (0, .ref t0), (1, va_rf p1), (2, va_rf p2)]) S.1 S.2.1 dX0_doBits_6 hl (by decide) (by first | rfl | simp [m_rfc, m_catI, m_catL, m_catA]) (fun ls hl => ?_)
  exact w_X0_doBits_L8 D tc b S hr hlk hK 64 0 x1 t0 p1 p2 _ _ _ h _ _ _ hP hS (lv_sub hl [0, 1, 2, 3, 4] rfl)

def f_X0_runOnce : Nat → Nat → (Option Nat) → Int32 → MS → Option (Unit × MS)
  | 0, _, _, _, _ => none
  | d + 1, t0, p1, p2, s0 =>
  p1.bind fun a1 =>
  (m_gI s0 2 a1 5).bind fun x2 =>
  if x2 = 0 then
    if p2 < 40 then
      (m_p s0 2 a1 5 (.int 1)).bind fun s6 =>
      (m_gR s6 2 a1 1).bind fun r8 =>
      (m_is s6 0 t0).bind fun _ =>
      m_b (f_X0_ensureMade t0 r8 s6) fun x10 s11 =>
      if x10 = 0 then
        (m_gI s11 2 a1 0).bind fun x46 =>
        (m_is s11 2 a1).bind fun _ =>
        m_b (f_X2_fail a1 1 8 x46 s11) fun u48 s49 =>
        some ((), s49)
      else
        (m_gR s11 2 a1 2).bind fun r15 =>
        r15.bind fun a17 =>
        (m_aI s11 1 a17 2).bind fun x18 =>
        (m_is s11 0 t0).bind fun _ =>
        m_b (f_X0_targetAt t0 (x18 - 1) s11) fun r20 s21 =>
        m_nn r20
          ((m_is s21 0 t0).bind fun _ =>
          m_b (f_X0_doBits t0 (some a1) none s21) fun u25 s26 =>
          some ((), s26))
          (fun a24 =>
          (m_is s21 0 t0).bind fun _ =>
          m_b (f_X0_runOnce d t0 (some a24) (p2 + 1) s21) fun u29 s30 =>
          (m_gI s30 2 a24 9).bind fun x33 =>
          if x33 = 0 then
            (m_is s30 0 t0).bind fun _ =>
            m_b (f_X0_doBits t0 (some a1) (some a24) s30) fun u36 s37 =>
            some ((), s37)
          else
            (m_gI s30 2 a24 11).bind fun x40 =>
            (m_is s30 2 a1).bind fun _ =>
            m_b (f_X2_fail a1 6 8 x40 s30) fun u42 s43 =>
            some ((), s43))
    else
      some ((), s0)
  else
    some ((), s0)
set_option maxHeartbeats 4000000 in
set_option maxRecDepth 100000 in
theorem c_X0_runOnce (l : Launch) (D : va_G) (tc : Nat → ClassId) (b : Nat) : ∀ (d : Nat) (t0 : Nat) (p1 : Option Nat) (p2 : Int32) (s0 st' : MS) (r : Unit) (h : f_X0_runOnce d t0 p1 p2 s0 = some (r, st')), Met l yX0_runOnce wsX0_runOnce ({ frames := d + 4, cells := 0, slots := 0, locals := d * 23 + 92 }) (m_Pc D vwCl (m_tys tc) b s0 [.ref t0, va_rf p1, .int p2]) (m_Q D vwCl (m_tys tc) b none st') 0 0 (m_A b) := by
  intro d
  induction d with
  | zero =>
    intro t0 p1 p2 s0 st' r h
    cases h
  | succ d ih =>
  intro t0 p1 p2 s0 st' r h
  rw [f_X0_runOnce] at h
  refine m_met (cc := cX0_runOnce) (maxL := 4) (ret := none) (by decide) rfl (by first | exact Nat.le_of_ble_eq_true rfl | simp [lg_sl, m_rfc, m_catI, m_catL, m_catA]) ?_
  intro p e s m below meth c ls S hr hlk hnm hK hP hl hS
  replace hl : lv_has ls 4 [(0, .ref t0), (1, va_rf p1), (2, .int p2)] := by first | exact hl | simpa [lv_args, m_rfc, m_catI, m_catL, m_catA] using hl
  refine m_aload_n S.1 S.2.1 dX0_runOnce_0 rfl (lv_at hl 1 rfl) ?_
  obtain ⟨a1, ea, g⟩ := m_bs h; clear h; subst ea; have h := g; clear g
  obtain ⟨x2, e3, h⟩ := m_bs h
  refine m_get (ci := 2) (k := 5) (T := TX2) (N := 12) S (inX2 _) hK hP (m_gI_s e3) rfl (by decide) (S.2.2.2.2 (.fieldLink RX0 87 "RuleHouse2$Target" "wasRun" "Z") (m_mem (by decide +kernel))) rfl dX0_runOnce_1 ?_
  refine lv_if_ne (tgt := 13) S.1 S.2.1 dX0_runOnce_4 (by decide) (fun c4 => ?_) (fun c4 => ?_)
  · replace h := m_f c4 h
    obtain ⟨h1, h2⟩ := m_fin h; subst h1; subst h2
    exact m_vret S hr hlk hK hP hS (by decide +kernel) (by decide +kernel) dX0_runOnce_13
  · replace h := m_t c4 h
    refine lv_iload_n S.1 S.2.1 dX0_runOnce_7 rfl (lv_at hl 2 rfl) ?_
    refine lv_bipush (v := 40) S.1 S.2.1 dX0_runOnce_8 (by decide) ?_
    refine lv_icmp_lt (tgt := 14) S.1 S.2.1 dX0_runOnce_10 (by decide) (fun c5 => ?_) (fun c5 => ?_)
    · replace h := m_t c5 h
      refine lv_aload_n S.1 S.2.1 dX0_runOnce_14 rfl (lv_at hl 1 rfl) ?_
      refine lv_iconst (v := 1) S.1 S.2.1 dX0_runOnce_15 (by decide) ?_
      obtain ⟨s6, e7, h⟩ := m_bs h
      refine m_put (ci := 2) (k := 5) (T := TX2) (N := 12) (v := .int 1) (ty := .boolean) S (inX2 _) tyX2 tX2 nX2 hK hP hS e7 rfl (by decide) (S.2.2.2.2 (.fieldLink RX0 87 "RuleHouse2$Target" "wasRun" "Z") (m_mem (by decide +kernel))) rfl rfl (by decide +kernel) (by decide) rfl dX0_runOnce_16 (fun H locs hP hS => ?_)
      refine lv_aload_n S.1 S.2.1 dX0_runOnce_19 rfl (lv_at hl 0 rfl) ?_
      refine lv_aload_n S.1 S.2.1 dX0_runOnce_20 rfl (lv_at hl 1 rfl) ?_
      obtain ⟨r8, e9, h⟩ := m_bs h
      refine m_get (ci := 2) (k := 1) (T := TX2) (N := 12) S (inX2 _) hK hP (m_gR_s e9) rfl (by decide) (S.2.2.2.2 (.fieldLink RX0 157 "RuleHouse2$Target" "ruleClass" "LRuleHouse2$RuleClass;") (m_mem (by decide +kernel))) rfl dX0_runOnce_21 ?_
      obtain ⟨_, k13, h⟩ := m_bs h
      obtain ⟨x10, s11, e12, h⟩ := m_b_s h
      refine m_calli (va_runV (As := [va_rf r8]) (rest := []) S (c_X0_ensureMade l D tc b t0 r8 _ _ _ e12) (cwV 1 S.2.2.2.2 (m_wV kX0_ensureMade (by decide +kernel)) rfl rfl rfl (by decide +kernel) ⟨by first | exact Nat.le_refl _ | ((try dsimp only); omega), by first | exact Nat.le_refl _ | ((try dsimp only); omega)⟩) (m_preV hK hP (m_is_s k13) rfl) rfl rfl hl.1 rfl (lv_room (by first | decide | simp [m_rfc, m_catI, m_catL, m_catA])) dX0_runOnce_24 ⟨by first | exact Nat.le_refl _ | ((try dsimp only); omega), by first | exact Nat.le_refl _ | ((try dsimp only); omega)⟩) hS (fun H locs hP hS => ?_)
      refine lv_if_ne (tgt := 42) S.1 S.2.1 dX0_runOnce_27 (by decide) (fun c14 => ?_) (fun c14 => ?_)
      · replace h := m_f c14 h
        refine lv_aload_n S.1 S.2.1 dX0_runOnce_42 rfl (lv_at hl 0 rfl) ?_
        refine lv_aload_n S.1 S.2.1 dX0_runOnce_43 rfl (lv_at hl 1 rfl) ?_
        obtain ⟨r15, e16, h⟩ := m_bs h
        refine m_get (ci := 2) (k := 2) (T := TX2) (N := 12) S (inX2 _) hK hP (m_gR_s e16) rfl (by decide) (S.2.2.2.2 (.fieldLink RX0 91 "RuleHouse2$Target" "attributes" "[I") (m_mem (by decide +kernel))) rfl dX0_runOnce_44 ?_
        refine lv_iconst (v := 2) S.1 S.2.1 dX0_runOnce_47 (by decide) ?_
        obtain ⟨a17, ea, g⟩ := m_bs h; clear h; subst ea; have h := g; clear g
        obtain ⟨x18, e19, h⟩ := m_bs h
        refine m_iald (t := 1) S hK hP (m_aI_s e19) rfl dX0_runOnce_48 ?_
        refine lv_iconst (v := 1) S.1 S.2.1 dX0_runOnce_49 (by decide) ?_
        refine lv_isub S.1 S.2.1 dX0_runOnce_50 ?_
        obtain ⟨_, k23, h⟩ := m_bs h
        obtain ⟨r20, s21, e22, h⟩ := m_b_s h
        refine m_callr (va_runV (As := [.int (x18 - 1)]) (rest := []) S (c_X0_targetAt l D tc b t0 (x18 - 1) _ _ _ e22) (cwV 1 S.2.2.2.2 (m_wV kX0_targetAt (by decide +kernel)) rfl rfl rfl (by decide +kernel) ⟨by first | exact Nat.le_refl _ | ((try dsimp only); omega), by first | exact Nat.le_refl _ | ((try dsimp only); omega)⟩) (m_preV hK hP (m_is_s k23) rfl) rfl rfl hl.1 rfl (lv_room (by first | decide | simp [m_rfc, m_catI, m_catL, m_catA])) dX0_runOnce_51 ⟨by first | exact Nat.le_refl _ | ((try dsimp only); omega), by first | exact Nat.le_refl _ | ((try dsimp only); omega)⟩) hS (fun H locs hP hS => ?_)
        refine m_astore_n (i := 3) (lv' := [(3, va_rf r20), (0, .ref t0), (1, .ref a1), (2, .int p2)]) S.1 S.2.1 dX0_runOnce_54 rfl hl (by decide) (by first | rfl | simp [m_rfc, m_catI, m_catL, m_catA]) (fun ls hl => ?_)
        refine m_aload_n S.1 S.2.1 dX0_runOnce_55 rfl (lv_at hl 0 rfl) ?_
        rcases r20 with _ | a24
        · replace h := m_nn0 h
          refine lv_ifnullN (tgt := 87) S.1 S.2.1 dX0_runOnce_56 (by decide) ?_
          refine lv_aload_n S.1 S.2.1 dX0_runOnce_87 rfl (lv_at hl 1 rfl) ?_
          refine lv_aload_n S.1 S.2.1 dX0_runOnce_88 rfl (lv_at hl 2 rfl) ?_
          refine lv_aload_nN S.1 S.2.1 dX0_runOnce_89 rfl (lv_at hl 0 rfl) ?_
          obtain ⟨_, k28, h⟩ := m_bs h
          obtain ⟨u25, s26, e27, h⟩ := m_b_s h
          refine m_callv (va_runV (As := [va_rf (some a1), va_rf none]) (rest := []) S (c_X0_doBits l D tc b t0 (some a1) none _ _ _ e27) (cwV 2 S.2.2.2.2 (m_wV kX0_doBits (by decide +kernel)) rfl rfl rfl (by decide +kernel) ⟨by first | exact Nat.le_refl _ | ((try dsimp only); omega), by first | exact Nat.le_refl _ | ((try dsimp only); omega)⟩) (m_preV hK hP (m_is_s k28) rfl) rfl rfl hl.1 rfl (lv_room (by first | decide | simp [m_rfc, m_catI, m_catL, m_catA])) dX0_runOnce_90 ⟨by first | exact Nat.le_refl _ | ((try dsimp only); omega), by first | exact Nat.le_refl _ | ((try dsimp only); omega)⟩) hS (fun H locs hP hS => ?_)
          obtain ⟨h1, h2⟩ := m_fin h; subst h1; subst h2
          exact m_vret S hr hlk hK hP hS (by decide +kernel) (by decide +kernel) dX0_runOnce_93
        · replace h := m_nn1 h
          refine lv_ifnull S.1 S.2.1 dX0_runOnce_56 ?_
          refine lv_aload_n S.1 S.2.1 dX0_runOnce_59 rfl (lv_at hl 1 rfl) ?_
          refine lv_aload_n S.1 S.2.1 dX0_runOnce_60 rfl (lv_at hl 0 rfl) ?_
          refine lv_iload_n S.1 S.2.1 dX0_runOnce_61 rfl (lv_at hl 3 rfl) ?_
          refine lv_iconst (v := 1) S.1 S.2.1 dX0_runOnce_62 (by decide) ?_
          refine lv_iadd S.1 S.2.1 dX0_runOnce_63 ?_
          obtain ⟨_, k32, h⟩ := m_bs h
          obtain ⟨u29, s30, e31, h⟩ := m_b_s h
          refine m_callv (va_runV (As := [va_rf (some a24), .int (p2 + 1)]) (rest := []) S (ih t0 (some a24) (p2 + 1) _ _ _ e31) (cwV 2 S.2.2.2.2 (m_wV kX0_runOnce (by decide +kernel)) rfl rfl rfl (by decide +kernel) ⟨by first | exact Nat.le_refl _ | ((try dsimp only); omega), by first | exact Nat.le_refl _ | ((try dsimp only); omega)⟩) (m_preV hK hP (m_is_s k32) rfl) rfl rfl hl.1 rfl (lv_room (by first | decide | simp [m_rfc, m_catI, m_catL, m_catA])) dX0_runOnce_64 ⟨by first | exact Nat.le_refl _ | ((try dsimp only); omega), by first | exact Nat.le_refl _ | ((try dsimp only); omega)⟩) hS (fun H locs hP hS => ?_)
          refine lv_aload_n S.1 S.2.1 dX0_runOnce_67 rfl (lv_at hl 0 rfl) ?_
          obtain ⟨x33, e34, h⟩ := m_bs h
          refine m_get (ci := 2) (k := 9) (T := TX2) (N := 12) S (inX2 _) hK hP (m_gI_s e34) rfl (by decide) (S.2.2.2.2 (.fieldLink RX0 101 "RuleHouse2$Target" "failure" "I") (m_mem (by decide +kernel))) rfl dX0_runOnce_68 ?_
          refine lv_if_eq (tgt := 87) S.1 S.2.1 dX0_runOnce_71 (by decide) (fun c35 => ?_) (fun c35 => ?_)
          · replace h := m_t c35 h
            refine lv_aload_n S.1 S.2.1 dX0_runOnce_87 rfl (lv_at hl 1 rfl) ?_
            refine lv_aload_n S.1 S.2.1 dX0_runOnce_88 rfl (lv_at hl 2 rfl) ?_
            refine lv_aload_n S.1 S.2.1 dX0_runOnce_89 rfl (lv_at hl 0 rfl) ?_
            obtain ⟨_, k39, h⟩ := m_bs h
            obtain ⟨u36, s37, e38, h⟩ := m_b_s h
            refine m_callv (va_runV (As := [va_rf (some a1), va_rf (some a24)]) (rest := []) S (c_X0_doBits l D tc b t0 (some a1) (some a24) _ _ _ e38) (cwV 2 S.2.2.2.2 (m_wV kX0_doBits (by decide +kernel)) rfl rfl rfl (by decide +kernel) ⟨by first | exact Nat.le_refl _ | ((try dsimp only); omega), by first | exact Nat.le_refl _ | ((try dsimp only); omega)⟩) (m_preV hK hP (m_is_s k39) rfl) rfl rfl hl.1 rfl (lv_room (by first | decide | simp [m_rfc, m_catI, m_catL, m_catA])) dX0_runOnce_90 ⟨by first | exact Nat.le_refl _ | ((try dsimp only); omega), by first | exact Nat.le_refl _ | ((try dsimp only); omega)⟩) hS (fun H locs hP hS => ?_)
            obtain ⟨h1, h2⟩ := m_fin h; subst h1; subst h2
            exact m_vret S hr hlk hK hP hS (by decide +kernel) (by decide +kernel) dX0_runOnce_93
          · replace h := m_f c35 h
            refine lv_aload_n S.1 S.2.1 dX0_runOnce_74 rfl (lv_at hl 2 rfl) ?_
            refine lv_bipush (v := 6) S.1 S.2.1 dX0_runOnce_75 (by decide) ?_
            refine lv_bipush (v := 8) S.1 S.2.1 dX0_runOnce_77 (by decide) ?_
            refine lv_aload_n S.1 S.2.1 dX0_runOnce_79 rfl (lv_at hl 0 rfl) ?_
            obtain ⟨x40, e41, h⟩ := m_bs h
            refine m_get (ci := 2) (k := 11) (T := TX2) (N := 12) S (inX2 _) hK hP (m_gI_s e41) rfl (by decide) (S.2.2.2.2 (.fieldLink RX0 120 "RuleHouse2$Target" "failureBegan" "I") (m_mem (by decide +kernel))) rfl dX0_runOnce_80 ?_
            obtain ⟨_, k45, h⟩ := m_bs h
            obtain ⟨u42, s43, e44, h⟩ := m_b_s h
            refine m_callv (va_runV (As := [.int 6, .int 8, .int x40]) (rest := []) S (c_X2_fail l D tc b a1 6 8 x40 _ _ _ e44) (cwV 3 S.2.2.2.2 (m_wV kX2_fail (by decide +kernel)) rfl rfl rfl (by decide +kernel) ⟨by first | exact Nat.le_refl _ | ((try dsimp only); omega), by first | exact Nat.le_refl _ | ((try dsimp only); omega)⟩) (m_preV hK hP (m_is_s k45) rfl) rfl rfl hl.1 rfl (lv_room (by first | decide | simp [m_rfc, m_catI, m_catL, m_catA])) dX0_runOnce_83 ⟨by first | exact Nat.le_refl _ | ((try dsimp only); omega), by first | exact Nat.le_refl _ | ((try dsimp only); omega)⟩) hS (fun H locs hP hS => ?_)
            obtain ⟨h1, h2⟩ := m_fin h; subst h1; subst h2
            exact m_vret S hr hlk hK hP hS (by decide +kernel) (by decide +kernel) dX0_runOnce_86
      · replace h := m_t c14 h
        refine lv_aload_n S.1 S.2.1 dX0_runOnce_30 rfl (lv_at hl 1 rfl) ?_
        refine lv_iconst (v := 1) S.1 S.2.1 dX0_runOnce_31 (by decide) ?_
        refine lv_bipush (v := 8) S.1 S.2.1 dX0_runOnce_32 (by decide) ?_
        refine lv_aload_n S.1 S.2.1 dX0_runOnce_34 rfl (lv_at hl 1 rfl) ?_
        obtain ⟨x46, e47, h⟩ := m_bs h
        refine m_get (ci := 2) (k := 0) (T := TX2) (N := 12) S (inX2 _) hK hP (m_gI_s e47) rfl (by decide) (S.2.2.2.2 (.fieldLink RX0 156 "RuleHouse2$Target" "number" "I") (m_mem (by decide +kernel))) rfl dX0_runOnce_35 ?_
        obtain ⟨_, k51, h⟩ := m_bs h
        obtain ⟨u48, s49, e50, h⟩ := m_b_s h
        refine m_callv (va_runV (As := [.int 1, .int 8, .int x46]) (rest := []) S (c_X2_fail l D tc b a1 1 8 x46 _ _ _ e50) (cwV 3 S.2.2.2.2 (m_wV kX2_fail (by decide +kernel)) rfl rfl rfl (by decide +kernel) ⟨by first | exact Nat.le_refl _ | ((try dsimp only); omega), by first | exact Nat.le_refl _ | ((try dsimp only); omega)⟩) (m_preV hK hP (m_is_s k51) rfl) rfl rfl hl.1 rfl (lv_room (by first | decide | simp [m_rfc, m_catI, m_catL, m_catA])) dX0_runOnce_38 ⟨by first | exact Nat.le_refl _ | ((try dsimp only); omega), by first | exact Nat.le_refl _ | ((try dsimp only); omega)⟩) hS (fun H locs hP hS => ?_)
        obtain ⟨h1, h2⟩ := m_fin h; subst h1; subst h2
        exact m_vret S hr hlk hK hP hS (by decide +kernel) (by decide +kernel) dX0_runOnce_41
    · replace h := m_f c5 h
      obtain ⟨h1, h2⟩ := m_fin h; subst h1; subst h2
      exact m_vret S hr hlk hK hP hS (by decide +kernel) (by decide +kernel) dX0_runOnce_13

def f_X0_run (t0 : Nat) (p1 : Int32) (s0 : MS) : Option (Int32 × MS) :=
  (m_is s0 0 t0).bind fun _ =>
  m_b (f_X0_targetAt t0 p1 s0) fun r1 s2 =>
  m_nn r1
    (some ((-1), s2))
    (fun a5 =>
    (m_is s2 0 t0).bind fun _ =>
    m_b (f_X0_runOnce 41 t0 (some a5) 0 s2) fun u6 s7 =>
    (m_gI s7 2 a5 9).bind fun x10 =>
    if x10 = 0 then
      (m_gI s7 2 a5 8).bind fun x15 =>
      some (x15, s7)
    else
      (m_gI s7 2 a5 9).bind fun x13 =>
      some ((-10) - x13, s7))
set_option maxHeartbeats 4000000 in
set_option maxRecDepth 100000 in
theorem c_X0_run (l : Launch) (D : va_G) (tc : Nat → ClassId) (b : Nat) (t0 : Nat) (p1 : Int32) (s0 st' : MS) (r : Int32) (h : f_X0_run t0 p1 s0 = some (r, st')) : Met l yX0_run wsX0_run ({ frames := 46, cells := 0, slots := 0, locals := 1058 }) (m_Pc D vwCl (m_tys tc) b s0 [.ref t0, .int p1]) (m_Q D vwCl (m_tys tc) b (some (.int r)) st') 0 0 (m_A b) := by
  unfold f_X0_run at h
  refine m_met (cc := cX0_run) (maxL := 3) (ret := (some .int)) (by decide) rfl (by first | exact Nat.le_of_ble_eq_true rfl | simp [lg_sl, m_rfc, m_catI, m_catL, m_catA]) ?_
  intro p e s m below meth c ls S hr hlk hnm hK hP hl hS
  replace hl : lv_has ls 3 [(0, .ref t0), (1, .int p1)] := by first | exact hl | simpa [lv_args, m_rfc, m_catI, m_catL, m_catA] using hl
  refine lv_aload_n S.1 S.2.1 dX0_run_0 rfl (lv_at hl 0 rfl) ?_
  refine lv_iload_n S.1 S.2.1 dX0_run_1 rfl (lv_at hl 1 rfl) ?_
  obtain ⟨_, k4, h⟩ := m_bs h
  obtain ⟨r1, s2, e3, h⟩ := m_b_s h
  refine m_callr (va_runV (As := [.int p1]) (rest := []) S (c_X0_targetAt l D tc b t0 p1 _ _ _ e3) (cwV 1 S.2.2.2.2 (m_wV kX0_targetAt (by decide +kernel)) rfl rfl rfl (by decide +kernel) ⟨by decide +kernel, by decide +kernel⟩) (m_preV hK hP (m_is_s k4) rfl) rfl rfl hl.1 rfl (lv_room (by first | decide | simp [m_rfc, m_catI, m_catL, m_catA])) dX0_run_2 ⟨by decide +kernel, by decide +kernel⟩) hS (fun H locs hP hS => ?_)
  refine m_astore_n (i := 2) (lv' := [(2, va_rf r1), (0, .ref t0), (1, .int p1)]) S.1 S.2.1 dX0_run_5 rfl hl (by decide) (by first | rfl | simp [m_rfc, m_catI, m_catL, m_catA]) (fun ls hl => ?_)
  refine m_aload_n S.1 S.2.1 dX0_run_6 rfl (lv_at hl 0 rfl) ?_
  rcases r1 with _ | a5
  · replace h := m_nn0 h
    refine lv_ifnonnullN S.1 S.2.1 dX0_run_7 ?_
    refine lv_iconst (v := (-1)) S.1 S.2.1 dX0_run_10 (by decide) ?_
    obtain ⟨h1, h2⟩ := m_fin h; subst h1; subst h2
    exact m_iret S hr hlk hK hP hS (by decide +kernel) (by decide +kernel) dX0_run_11
  · replace h := m_nn1 h
    refine lv_ifnonnull (tgt := 12) S.1 S.2.1 dX0_run_7 (by decide) ?_
    refine lv_aload_n S.1 S.2.1 dX0_run_12 rfl (lv_at hl 1 rfl) ?_
    refine lv_aload_n S.1 S.2.1 dX0_run_13 rfl (lv_at hl 0 rfl) ?_
    refine lv_iconst (v := 0) S.1 S.2.1 dX0_run_14 (by decide) ?_
    obtain ⟨_, k9, h⟩ := m_bs h
    obtain ⟨u6, s7, e8, h⟩ := m_b_s h
    refine m_callv (va_runV (As := [va_rf (some a5), .int 0]) (rest := []) S (c_X0_runOnce l D tc b 41 t0 (some a5) 0 _ _ _ e8) (cwV 2 S.2.2.2.2 (m_wV kX0_runOnce (by decide +kernel)) rfl rfl rfl (by decide +kernel) ⟨by decide +kernel, by decide +kernel⟩) (m_preV hK hP (m_is_s k9) rfl) rfl rfl hl.1 rfl (lv_room (by first | decide | simp [m_rfc, m_catI, m_catL, m_catA])) dX0_run_15 ⟨by decide +kernel, by decide +kernel⟩) hS (fun H locs hP hS => ?_)
    refine lv_aload_n S.1 S.2.1 dX0_run_18 rfl (lv_at hl 0 rfl) ?_
    obtain ⟨x10, e11, h⟩ := m_bs h
    refine m_get (ci := 2) (k := 9) (T := TX2) (N := 12) S (inX2 _) hK hP (m_gI_s e11) rfl (by decide) (S.2.2.2.2 (.fieldLink RX0 101 "RuleHouse2$Target" "failure" "I") (m_mem (by decide +kernel))) rfl dX0_run_19 ?_
    refine lv_if_ne (tgt := 32) S.1 S.2.1 dX0_run_22 (by decide) (fun c12 => ?_) (fun c12 => ?_)
    · replace h := m_f c12 h
      refine lv_bipush (v := (-10)) S.1 S.2.1 dX0_run_32 (by decide) ?_
      refine lv_aload_n S.1 S.2.1 dX0_run_34 rfl (lv_at hl 0 rfl) ?_
      obtain ⟨x13, e14, h⟩ := m_bs h
      refine m_get (ci := 2) (k := 9) (T := TX2) (N := 12) S (inX2 _) hK hP (m_gI_s e14) rfl (by decide) (S.2.2.2.2 (.fieldLink RX0 101 "RuleHouse2$Target" "failure" "I") (m_mem (by decide +kernel))) rfl dX0_run_35 ?_
      refine lv_isub S.1 S.2.1 dX0_run_38 ?_
      obtain ⟨h1, h2⟩ := m_fin h; subst h1; subst h2
      exact m_iret S hr hlk hK hP hS (by decide +kernel) (by decide +kernel) dX0_run_39
    · replace h := m_t c12 h
      refine lv_aload_n S.1 S.2.1 dX0_run_25 rfl (lv_at hl 0 rfl) ?_
      obtain ⟨x15, e16, h⟩ := m_bs h
      refine m_get (ci := 2) (k := 8) (T := TX2) (N := 12) S (inX2 _) hK hP (m_gI_s e16) rfl (by decide) (S.2.2.2.2 (.fieldLink RX0 104 "RuleHouse2$Target" "actions" "I") (m_mem (by decide +kernel))) rfl dX0_run_26 ?_
      refine lv_goto (tgt := 39) S.1 S.2.1 dX0_run_29 (by decide) ?_
      obtain ⟨h1, h2⟩ := m_fin h; subst h1; subst h2
      exact m_iret S hr hlk hK hP hS (by decide +kernel) (by decide +kernel) dX0_run_39

def f_X0_digest (t0 : Nat) (p1 : Int32) (p2 : Int32) (s0 : MS) : Option (Int32 × MS) :=
  (m_is s0 0 t0).bind fun _ =>
  m_b (f_X0_targetAt t0 p1 s0) fun r1 s2 =>
  m_nn r1
    (some (0, s2))
    (fun a5 =>
    (m_gR s2 2 a5 1).bind fun r6 =>
    r6.bind fun a8 =>
    (m_gI s2 1 a8 0).bind fun x9 =>
    (m_gI s2 1 a8 1).bind fun x11 =>
    some ((((((x9 * 31) + x11) * 31) + p1) * 31) + p2, s2))
set_option maxHeartbeats 4000000 in
set_option maxRecDepth 100000 in
theorem c_X0_digest (l : Launch) (D : va_G) (tc : Nat → ClassId) (b : Nat) (t0 : Nat) (p1 : Int32) (p2 : Int32) (s0 st' : MS) (r : Int32) (h : f_X0_digest t0 p1 p2 s0 = some (r, st')) : Met l yX0_digest wsX0_digest ({ frames := 2, cells := 0, slots := 0, locals := 42 }) (m_Pc D vwCl (m_tys tc) b s0 [.ref t0, .int p1, .int p2]) (m_Q D vwCl (m_tys tc) b (some (.int r)) st') 0 0 (m_A b) := by
  unfold f_X0_digest at h
  refine m_met (cc := cX0_digest) (maxL := 5) (ret := (some .int)) (by decide) rfl (by first | exact Nat.le_of_ble_eq_true rfl | simp [lg_sl, m_rfc, m_catI, m_catL, m_catA]) ?_
  intro p e s m below meth c ls S hr hlk hnm hK hP hl hS
  replace hl : lv_has ls 5 [(0, .ref t0), (1, .int p1), (2, .int p2)] := by first | exact hl | simpa [lv_args, m_rfc, m_catI, m_catL, m_catA] using hl
  refine lv_aload_n S.1 S.2.1 dX0_digest_0 rfl (lv_at hl 0 rfl) ?_
  refine lv_iload_n S.1 S.2.1 dX0_digest_1 rfl (lv_at hl 1 rfl) ?_
  obtain ⟨_, k4, h⟩ := m_bs h
  obtain ⟨r1, s2, e3, h⟩ := m_b_s h
  refine m_callr (va_runV (As := [.int p1]) (rest := []) S (c_X0_targetAt l D tc b t0 p1 _ _ _ e3) (cwV 1 S.2.2.2.2 (m_wV kX0_targetAt (by decide +kernel)) rfl rfl rfl (by decide +kernel) ⟨by decide +kernel, by decide +kernel⟩) (m_preV hK hP (m_is_s k4) rfl) rfl rfl hl.1 rfl (lv_room (by first | decide | simp [m_rfc, m_catI, m_catL, m_catA])) dX0_digest_2 ⟨by decide +kernel, by decide +kernel⟩) hS (fun H locs hP hS => ?_)
  refine m_astore_n (i := 3) (lv' := [(3, va_rf r1), (0, .ref t0), (1, .int p1), (2, .int p2)]) S.1 S.2.1 dX0_digest_5 rfl hl (by decide) (by first | rfl | simp [m_rfc, m_catI, m_catL, m_catA]) (fun ls hl => ?_)
  refine m_aload_n S.1 S.2.1 dX0_digest_6 rfl (lv_at hl 0 rfl) ?_
  rcases r1 with _ | a5
  · replace h := m_nn0 h
    refine lv_ifnonnullN S.1 S.2.1 dX0_digest_7 ?_
    refine lv_iconst (v := 0) S.1 S.2.1 dX0_digest_10 (by decide) ?_
    obtain ⟨h1, h2⟩ := m_fin h; subst h1; subst h2
    exact m_iret S hr hlk hK hP hS (by decide +kernel) (by decide +kernel) dX0_digest_11
  · replace h := m_nn1 h
    refine lv_ifnonnull (tgt := 12) S.1 S.2.1 dX0_digest_7 (by decide) ?_
    refine lv_aload_n S.1 S.2.1 dX0_digest_12 rfl (lv_at hl 0 rfl) ?_
    obtain ⟨r6, e7, h⟩ := m_bs h
    refine m_get (ci := 2) (k := 1) (T := TX2) (N := 12) S (inX2 _) hK hP (m_gR_s e7) rfl (by decide) (S.2.2.2.2 (.fieldLink RX0 157 "RuleHouse2$Target" "ruleClass" "LRuleHouse2$RuleClass;") (m_mem (by decide +kernel))) rfl dX0_digest_13 ?_
    refine m_astore (i := 4) (lv' := [(4, va_rf r6), (3, .ref a5), (0, .ref t0), (1, .int p1), (2, .int p2)]) S.1 S.2.1 dX0_digest_16 hl (by decide) (by first | rfl | simp [m_rfc, m_catI, m_catL, m_catA]) (fun ls hl => ?_)
    refine m_aload S.1 S.2.1 dX0_digest_18 (lv_at hl 0 rfl) ?_
    obtain ⟨a8, ea, g⟩ := m_bs h; clear h; subst ea; have h := g; clear g
    obtain ⟨x9, e10, h⟩ := m_bs h
    refine m_get (ci := 1) (k := 0) (T := TX1) (N := 6) S (inX1 _) hK hP (m_gI_s e10) rfl (by decide) (S.2.2.2.2 (.fieldLink RX0 132 "RuleHouse2$RuleClass" "edition" "I") (m_mem (by decide +kernel))) rfl dX0_digest_20 ?_
    refine lv_bipush (v := 31) S.1 S.2.1 dX0_digest_23 (by decide) ?_
    refine lv_imul S.1 S.2.1 dX0_digest_25 ?_
    refine lv_aload S.1 S.2.1 dX0_digest_26 (lv_at hl 0 rfl) ?_
    obtain ⟨x11, e12, h⟩ := m_bs h
    refine m_get (ci := 1) (k := 1) (T := TX1) (N := 6) S (inX1 _) hK hP (m_gI_s e12) rfl (by decide) (S.2.2.2.2 (.fieldLink RX0 135 "RuleHouse2$RuleClass" "does" "I") (m_mem (by decide +kernel))) rfl dX0_digest_28 ?_
    refine lv_iadd S.1 S.2.1 dX0_digest_31 ?_
    refine lv_bipush (v := 31) S.1 S.2.1 dX0_digest_32 (by decide) ?_
    refine lv_imul S.1 S.2.1 dX0_digest_34 ?_
    refine lv_iload_n S.1 S.2.1 dX0_digest_35 rfl (lv_at hl 3 rfl) ?_
    refine lv_iadd S.1 S.2.1 dX0_digest_36 ?_
    refine lv_bipush (v := 31) S.1 S.2.1 dX0_digest_37 (by decide) ?_
    refine lv_imul S.1 S.2.1 dX0_digest_39 ?_
    refine lv_iload_n S.1 S.2.1 dX0_digest_40 rfl (lv_at hl 4 rfl) ?_
    refine lv_iadd S.1 S.2.1 dX0_digest_41 ?_
    obtain ⟨h1, h2⟩ := m_fin h; subst h1; subst h2
    exact m_iret S hr hlk hK hP hS (by decide +kernel) (by decide +kernel) dX0_digest_42

def f_X0_action (t0 : Nat) (p1 : Int32) (p2 : Int32) (s0 : MS) : Option (Int32 × MS) :=
  (m_gI s0 0 t0 8).bind fun x1 =>
  m_b (f_X0_isWithin p1 (x1 - 1) s0) fun x3 s4 =>
  if x3 = 0 then
    some ((-1), s4)
  else
    if p2 = 0 then
      (m_gR s4 0 t0 6).bind fun r8 =>
      r8.bind fun a10 =>
      (m_aI s4 1 a10 p1).bind fun x11 =>
      some (x11, s4)
    else if p2 = 1 then
      (m_gR s4 0 t0 7).bind fun r14 =>
      r14.bind fun a16 =>
      (m_aI s4 1 a16 p1).bind fun x17 =>
      some (x17, s4)
    else if p2 = 2 then
      (m_gR s4 0 t0 6).bind fun r20 =>
      r20.bind fun a22 =>
      (m_aI s4 1 a22 p1).bind fun x23 =>
      (m_gR s4 0 t0 7).bind fun r25 =>
      r25.bind fun a27 =>
      (m_aI s4 1 a27 p1).bind fun x28 =>
      (m_is s4 0 t0).bind fun _ =>
      m_b (f_X0_digest t0 x23 x28 s4) fun x30 s31 =>
      some (x30, s31)
    else some ((-2), s4)
set_option maxHeartbeats 4000000 in
set_option maxRecDepth 100000 in
theorem c_X0_action (l : Launch) (D : va_G) (tc : Nat → ClassId) (b : Nat) (t0 : Nat) (p1 : Int32) (p2 : Int32) (s0 st' : MS) (r : Int32) (h : f_X0_action t0 p1 p2 s0 = some (r, st')) : Met l yX0_action wsX0_action ({ frames := 3, cells := 0, slots := 0, locals := 66 }) (m_Pc D vwCl (m_tys tc) b s0 [.ref t0, .int p1, .int p2]) (m_Q D vwCl (m_tys tc) b (some (.int r)) st') 0 0 (m_A b) := by
  unfold f_X0_action at h
  refine m_met (cc := cX0_action) (maxL := 3) (ret := (some .int)) (by decide) rfl (by first | exact Nat.le_of_ble_eq_true rfl | simp [lg_sl, m_rfc, m_catI, m_catL, m_catA]) ?_
  intro p e s m below meth c ls S hr hlk hnm hK hP hl hS
  replace hl : lv_has ls 3 [(0, .ref t0), (1, .int p1), (2, .int p2)] := by first | exact hl | simpa [lv_args, m_rfc, m_catI, m_catL, m_catA] using hl
  refine lv_iload_n S.1 S.2.1 dX0_action_0 rfl (lv_at hl 1 rfl) ?_
  refine lv_aload_n S.1 S.2.1 dX0_action_1 rfl (lv_at hl 0 rfl) ?_
  obtain ⟨x1, e2, h⟩ := m_bs h
  refine m_get (ci := 0) (k := 8) (T := TX0) (N := 10) S (inX0 _) hK hP (m_gI_s e2) rfl (by decide) (S.2.2.2.2 (.fieldLink RX0 38 "RuleHouse2" "actionCount" "I") (m_mem (by decide +kernel))) rfl dX0_action_2 ?_
  refine lv_iconst (v := 1) S.1 S.2.1 dX0_action_5 (by decide) ?_
  refine lv_isub S.1 S.2.1 dX0_action_6 ?_
  obtain ⟨x3, s4, e5, h⟩ := m_b_s h
  refine m_calli (va_runS (As := [.int p1, .int (x1 - 1)]) (rest := []) S (c_X0_isWithin l D tc b p1 (x1 - 1) _ _ _ e5) (cwS 2 S.2.2.2.2 (m_wS kX0_isWithin (by decide +kernel)) rfl rfl rfl (by decide +kernel) ⟨by decide +kernel, by decide +kernel⟩) (m_preS hK hP) rfl rfl hl.1 rfl (lv_room (by first | decide | simp [m_rfc, m_catI, m_catL, m_catA])) dX0_action_7 ⟨by decide +kernel, by decide +kernel⟩) hS (fun H locs hP hS => ?_)
  refine lv_if_ne (tgt := 15) S.1 S.2.1 dX0_action_10 (by decide) (fun c6 => ?_) (fun c6 => ?_)
  · replace h := m_f c6 h
    refine lv_iload_n S.1 S.2.1 dX0_action_15 rfl (lv_at hl 2 rfl) ?_
    by_cases c7 : p2 = 0
    · replace h := m_t c7 h
      refine lv_tableIn (tgt := 44) S.1 S.2.1 dX0_action_16 (by rw [c7]; decide) (by rw [c7]; decide) (by rw [c7]; rfl) (by decide) ?_
      refine lv_aload_n S.1 S.2.1 dX0_action_44 rfl (lv_at hl 0 rfl) ?_
      obtain ⟨r8, e9, h⟩ := m_bs h
      refine m_get (ci := 0) (k := 6) (T := TX0) (N := 10) S (inX0 _) hK hP (m_gR_s e9) rfl (by decide) (S.2.2.2.2 (.fieldLink RX0 31 "RuleHouse2" "actionTarget" "[I") (m_mem (by decide +kernel))) rfl dX0_action_45 ?_
      refine lv_iload_n S.1 S.2.1 dX0_action_48 rfl (lv_at hl 1 rfl) ?_
      obtain ⟨a10, ea, g⟩ := m_bs h; clear h; subst ea; have h := g; clear g
      obtain ⟨x11, e12, h⟩ := m_bs h
      refine m_iald (t := 1) S hK hP (m_aI_s e12) rfl dX0_action_49 ?_
      obtain ⟨h1, h2⟩ := m_fin h; subst h1; subst h2
      exact m_iret S hr hlk hK hP hS (by decide +kernel) (by decide +kernel) dX0_action_50
    replace h := m_f c7 h
    by_cases c13 : p2 = 1
    · replace h := m_t c13 h
      refine lv_tableIn (tgt := 51) S.1 S.2.1 dX0_action_16 (by rw [c13]; decide) (by rw [c13]; decide) (by rw [c13]; rfl) (by decide) ?_
      refine lv_aload_n S.1 S.2.1 dX0_action_51 rfl (lv_at hl 0 rfl) ?_
      obtain ⟨r14, e15, h⟩ := m_bs h
      refine m_get (ci := 0) (k := 7) (T := TX0) (N := 10) S (inX0 _) hK hP (m_gR_s e15) rfl (by decide) (S.2.2.2.2 (.fieldLink RX0 35 "RuleHouse2" "actionNumber" "[I") (m_mem (by decide +kernel))) rfl dX0_action_52 ?_
      refine lv_iload_n S.1 S.2.1 dX0_action_55 rfl (lv_at hl 1 rfl) ?_
      obtain ⟨a16, ea, g⟩ := m_bs h; clear h; subst ea; have h := g; clear g
      obtain ⟨x17, e18, h⟩ := m_bs h
      refine m_iald (t := 1) S hK hP (m_aI_s e18) rfl dX0_action_56 ?_
      obtain ⟨h1, h2⟩ := m_fin h; subst h1; subst h2
      exact m_iret S hr hlk hK hP hS (by decide +kernel) (by decide +kernel) dX0_action_57
    replace h := m_f c13 h
    by_cases c19 : p2 = 2
    · replace h := m_t c19 h
      refine lv_tableIn (tgt := 58) S.1 S.2.1 dX0_action_16 (by rw [c19]; decide) (by rw [c19]; decide) (by rw [c19]; rfl) (by decide) ?_
      refine lv_aload_n S.1 S.2.1 dX0_action_58 rfl (lv_at hl 0 rfl) ?_
      refine lv_aload_n S.1 S.2.1 dX0_action_59 rfl (lv_at hl 0 rfl) ?_
      obtain ⟨r20, e21, h⟩ := m_bs h
      refine m_get (ci := 0) (k := 6) (T := TX0) (N := 10) S (inX0 _) hK hP (m_gR_s e21) rfl (by decide) (S.2.2.2.2 (.fieldLink RX0 31 "RuleHouse2" "actionTarget" "[I") (m_mem (by decide +kernel))) rfl dX0_action_60 ?_
      refine lv_iload_n S.1 S.2.1 dX0_action_63 rfl (lv_at hl 1 rfl) ?_
      obtain ⟨a22, ea, g⟩ := m_bs h; clear h; subst ea; have h := g; clear g
      obtain ⟨x23, e24, h⟩ := m_bs h
      refine m_iald (t := 1) S hK hP (m_aI_s e24) rfl dX0_action_64 ?_
      refine lv_aload_n S.1 S.2.1 dX0_action_65 rfl (lv_at hl 0 rfl) ?_
      obtain ⟨r25, e26, h⟩ := m_bs h
      refine m_get (ci := 0) (k := 7) (T := TX0) (N := 10) S (inX0 _) hK hP (m_gR_s e26) rfl (by decide) (S.2.2.2.2 (.fieldLink RX0 35 "RuleHouse2" "actionNumber" "[I") (m_mem (by decide +kernel))) rfl dX0_action_66 ?_
      refine lv_iload_n S.1 S.2.1 dX0_action_69 rfl (lv_at hl 1 rfl) ?_
      obtain ⟨a27, ea, g⟩ := m_bs h; clear h; subst ea; have h := g; clear g
      obtain ⟨x28, e29, h⟩ := m_bs h
      refine m_iald (t := 1) S hK hP (m_aI_s e29) rfl dX0_action_70 ?_
      obtain ⟨_, k33, h⟩ := m_bs h
      obtain ⟨x30, s31, e32, h⟩ := m_b_s h
      refine m_calli (va_runV (As := [.int x23, .int x28]) (rest := []) S (c_X0_digest l D tc b t0 x23 x28 _ _ _ e32) (cwV 2 S.2.2.2.2 (m_wV kX0_digest (by decide +kernel)) rfl rfl rfl (by decide +kernel) ⟨by decide +kernel, by decide +kernel⟩) (m_preV hK hP (m_is_s k33) rfl) rfl rfl hl.1 rfl (lv_room (by first | decide | simp [m_rfc, m_catI, m_catL, m_catA])) dX0_action_71 ⟨by decide +kernel, by decide +kernel⟩) hS (fun H locs hP hS => ?_)
      obtain ⟨h1, h2⟩ := m_fin h; subst h1; subst h2
      exact m_iret S hr hlk hK hP hS (by decide +kernel) (by decide +kernel) dX0_action_74
    replace h := m_f c19 h
    have nc19 := (⟨lv_neT (a := 0) c7 (by decide), lv_neT (a := 1) c13 (by decide), lv_neT (a := 2) c19 (by decide)⟩ : ¬ (p2).toInt = 0 ∧ ¬ (p2).toInt = 1 ∧ ¬ (p2).toInt = 2)
    refine lv_tableOut (tgt := 75) S.1 S.2.1 dX0_action_16 (by omega) (by decide) ?_
    refine lv_bipush (v := (-2)) S.1 S.2.1 dX0_action_75 (by decide) ?_
    obtain ⟨h1, h2⟩ := m_fin h; subst h1; subst h2
    exact m_iret S hr hlk hK hP hS (by decide +kernel) (by decide +kernel) dX0_action_77
  · replace h := m_t c6 h
    refine lv_iconst (v := (-1)) S.1 S.2.1 dX0_action_13 (by decide) ?_
    obtain ⟨h1, h2⟩ := m_fin h; subst h1; subst h2
    exact m_iret S hr hlk hK hP hS (by decide +kernel) (by decide +kernel) dX0_action_14
