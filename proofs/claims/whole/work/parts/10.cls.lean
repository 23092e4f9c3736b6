def f_X0_init (t0 : Nat) (p1 : Int32) (s0 : MS) : Option (Unit × MS) :=
  m_nw s0 (.inr (3, 16)) (fun _ => .null) fun a1 s2 =>
  (m_p s2 0 t0 1 (.ref a1)).bind fun s4 =>
  (m_p s4 0 t0 2 (.int 0)).bind fun s6 =>
  (m_p s6 0 t0 3 (.int 0)).bind fun s8 =>
  m_nw s8 (.inr (4, 40)) (fun _ => .null) fun a10 s11 =>
  (m_p s11 0 t0 4 (.ref a10)).bind fun s13 =>
  (m_p s13 0 t0 5 (.int 0)).bind fun s15 =>
  m_nw s15 (.inr (1, 400)) (fun _ => defaultValue .int) fun a17 s18 =>
  (m_p s18 0 t0 6 (.ref a17)).bind fun s20 =>
  m_nw s20 (.inr (1, 400)) (fun _ => defaultValue .int) fun a22 s23 =>
  (m_p s23 0 t0 7 (.ref a22)).bind fun s25 =>
  (m_p s25 0 t0 8 (.int 0)).bind fun s27 =>
  (m_p s27 0 t0 9 (.int 0)).bind fun s29 =>
  (m_p s29 0 t0 0 (.int (if 65536 < (if p1 < 0 then 0 else p1) then 65536 else (if p1 < 0 then 0 else p1)))).bind fun s31 =>
  some ((), s31)
set_option maxHeartbeats 4000000 in
set_option maxRecDepth 100000 in
theorem c_X0_init (l : Launch) (D : va_G) (tc : Nat → ClassId) (b : Nat) (t0 : Nat) (p1 : Int32) (s0 st' : MS) (r : Unit) (h : f_X0_init t0 p1 s0 = some (r, st')) : Met l yX0_init wsX0_init ({ frames := 1, cells := 4, slots := 856, locals := 21 }) (m_PcE D vwCl (m_tys tc) b s0 [.ref t0, .int p1]) (m_Q D vwCl (m_tys tc) b none st') 4 856 (m_A b) := by
  unfold f_X0_init at h
  refine m_metE (cc := cX0_init) (maxL := 2) (ret := none) (by decide) rfl (by first | exact Nat.le_of_ble_eq_true rfl | simp [lg_sl, m_rfc, m_catI, m_catL, m_catA]) ?_
  intro p e s m below meth c ls S hr hlk hnm hK hP hl hS hE
  replace hl : lv_has ls 2 [(0, .ref t0), (1, .int p1)] := by first | exact hl | simpa [lv_args, m_rfc, m_catI, m_catL, m_catA] using hl
  refine lv_aload_n S.1 S.2.1 dX0_init_0 rfl (lv_at hl 0 rfl) ?_
  refine W.objInit S.1 S.2.1 S.2.2.2.1 (S.2.2.2.2 (.methodLink RX0 1 objectInit) (m_mem (by decide +kernel))) (S.2.2.2.2 (.instanceMethod objectInit) (m_mem (by decide +kernel))) (S.2.2.2.2 (.code objectInit ⟨#[0xb1]⟩ 1 none) (m_mem (by decide +kernel))) rfl (by rw [S.2.2.1]; exact hl.1) rfl dX0_init_1 (Nat.le_of_ble_eq_true rfl) (Nat.le_of_ble_eq_true rfl) ?_
  refine W.eq (g2 := F0 m 4 ls []) rfl ?_
  refine lv_aload_n S.1 S.2.1 dX0_init_4 rfl (lv_at hl 0 rfl) ?_
  refine lv_bipush (v := 16) S.1 S.2.1 dX0_init_5 (by decide) ?_
  obtain ⟨a1, s2, e3, h⟩ := m_nw_s h
  refine m_newq (t := 3) (N := 16) S (S.2.2.2.2 (.classLink RX0 9 "RuleHouse2$RuleClass") (m_mem (by decide +kernel))) hE.1 hK hP hS rfl (by decide +kernel) (by decide +kernel) (by decide +kernel) (by decide +kernel) (by decide +kernel) e3 dX0_init_7 (fun H hP hS => ?_)
  obtain ⟨s4, e5, h⟩ := m_bs h
  refine m_putF (ci := 0) (k := 1) (T := TX0) (N := 10) (v := .ref a1) (ty := (.array (.object "RuleHouse2$RuleClass"))) S (inX0 _) tyX0 tX0 nX0 hK hP hS e5 rfl (by decide) (S.2.2.2.2 (.fieldLink RX0 11 "RuleHouse2" "classOfRule" "[LRuleHouse2$RuleClass;") (m_mem (by decide +kernel))) rfl rfl hnm rfl (by decide +kernel) rfl rfl dX0_init_10 (fun H locs hP hS => ?_)
  refine lv_aload_n S.1 S.2.1 dX0_init_13 rfl (lv_at hl 0 rfl) ?_
  refine lv_iconst (v := 0) S.1 S.2.1 dX0_init_14 (by decide) ?_
  obtain ⟨s6, e7, h⟩ := m_bs h
  refine m_put (ci := 0) (k := 2) (T := TX0) (N := 10) (v := .int 0) (ty := .int) S (inX0 _) tyX0 tX0 nX0 hK hP hS e7 rfl (by decide) (S.2.2.2.2 (.fieldLink RX0 15 "RuleHouse2" "ruleCount" "I") (m_mem (by decide +kernel))) rfl rfl (by decide +kernel) rfl rfl dX0_init_15 (fun H locs hP hS => ?_)
  refine lv_aload_n S.1 S.2.1 dX0_init_18 rfl (lv_at hl 0 rfl) ?_
  refine lv_iconst (v := 0) S.1 S.2.1 dX0_init_19 (by decide) ?_
  obtain ⟨s8, e9, h⟩ := m_bs h
  refine m_put (ci := 0) (k := 3) (T := TX0) (N := 10) (v := .int 0) (ty := .int) S (inX0 _) tyX0 tX0 nX0 hK hP hS e9 rfl (by decide) (S.2.2.2.2 (.fieldLink RX0 19 "RuleHouse2" "madeCount" "I") (m_mem (by decide +kernel))) rfl rfl (by decide +kernel) rfl rfl dX0_init_20 (fun H locs hP hS => ?_)
  refine lv_aload_n S.1 S.2.1 dX0_init_23 rfl (lv_at hl 0 rfl) ?_
  refine lv_bipush (v := 40) S.1 S.2.1 dX0_init_24 (by decide) ?_
  obtain ⟨a10, s11, e12, h⟩ := m_nw_s h
  refine m_newq (t := 4) (N := 40) S (S.2.2.2.2 (.classLink RX0 22 "RuleHouse2$Target") (m_mem (by decide +kernel))) hE.2.1 hK hP hS rfl (by decide +kernel) (by decide +kernel) (by decide +kernel) (by decide +kernel) (by decide +kernel) e12 dX0_init_26 (fun H hP hS => ?_)
  obtain ⟨s13, e14, h⟩ := m_bs h
  refine m_putF (ci := 0) (k := 4) (T := TX0) (N := 10) (v := .ref a10) (ty := (.array (.object "RuleHouse2$Target"))) S (inX0 _) tyX0 tX0 nX0 hK hP hS e14 rfl (by decide) (S.2.2.2.2 (.fieldLink RX0 24 "RuleHouse2" "targets" "[LRuleHouse2$Target;") (m_mem (by decide +kernel))) rfl rfl hnm rfl (by decide +kernel) rfl rfl dX0_init_29 (fun H locs hP hS => ?_)
  refine lv_aload_n S.1 S.2.1 dX0_init_32 rfl (lv_at hl 0 rfl) ?_
  refine lv_iconst (v := 0) S.1 S.2.1 dX0_init_33 (by decide) ?_
  obtain ⟨s15, e16, h⟩ := m_bs h
  refine m_put (ci := 0) (k := 5) (T := TX0) (N := 10) (v := .int 0) (ty := .int) S (inX0 _) tyX0 tX0 nX0 hK hP hS e16 rfl (by decide) (S.2.2.2.2 (.fieldLink RX0 28 "RuleHouse2" "targetCount" "I") (m_mem (by decide +kernel))) rfl rfl (by decide +kernel) rfl rfl dX0_init_34 (fun H locs hP hS => ?_)
  refine lv_aload_n S.1 S.2.1 dX0_init_37 rfl (lv_at hl 0 rfl) ?_
  refine lv_sipush (v := 400) S.1 S.2.1 dX0_init_38 (by decide) ?_
  obtain ⟨a17, s18, e19, h⟩ := m_nw_s h
  refine m_newa (t := 1) (N := 400) (i := 400) (atype := .int) (ty := .int) (cA := tc 1) S (S.2.2.2.2 (.arrayClass .int) (m_mem (by decide +kernel))) rfl hK hP hS rfl (by decide +kernel) (by decide +kernel) (by decide +kernel) (by decide +kernel) (by decide +kernel) e19 dX0_init_41 (fun H hP hS => ?_)
  obtain ⟨s20, e21, h⟩ := m_bs h
  refine m_putF (ci := 0) (k := 6) (T := TX0) (N := 10) (v := .ref a17) (ty := (.array .int)) S (inX0 _) tyX0 tX0 nX0 hK hP hS e21 rfl (by decide) (S.2.2.2.2 (.fieldLink RX0 31 "RuleHouse2" "actionTarget" "[I") (m_mem (by decide +kernel))) rfl rfl hnm rfl (by decide +kernel) rfl rfl dX0_init_43 (fun H locs hP hS => ?_)
  refine lv_aload_n S.1 S.2.1 dX0_init_46 rfl (lv_at hl 0 rfl) ?_
  refine lv_sipush (v := 400) S.1 S.2.1 dX0_init_47 (by decide) ?_
  obtain ⟨a22, s23, e24, h⟩ := m_nw_s h
  refine m_newa (t := 1) (N := 400) (i := 400) (atype := .int) (ty := .int) (cA := tc 1) S (S.2.2.2.2 (.arrayClass .int) (m_mem (by decide +kernel))) rfl hK hP hS rfl (by decide +kernel) (by decide +kernel) (by decide +kernel) (by decide +kernel) (by decide +kernel) e24 dX0_init_50 (fun H hP hS => ?_)
  obtain ⟨s25, e26, h⟩ := m_bs h
  refine m_putF (ci := 0) (k := 7) (T := TX0) (N := 10) (v := .ref a22) (ty := (.array .int)) S (inX0 _) tyX0 tX0 nX0 hK hP hS e26 rfl (by decide) (S.2.2.2.2 (.fieldLink RX0 35 "RuleHouse2" "actionNumber" "[I") (m_mem (by decide +kernel))) rfl rfl hnm rfl (by decide +kernel) rfl rfl dX0_init_52 (fun H locs hP hS => ?_)
  refine lv_aload_n S.1 S.2.1 dX0_init_55 rfl (lv_at hl 0 rfl) ?_
  refine lv_iconst (v := 0) S.1 S.2.1 dX0_init_56 (by decide) ?_
  obtain ⟨s27, e28, h⟩ := m_bs h
  refine m_put (ci := 0) (k := 8) (T := TX0) (N := 10) (v := .int 0) (ty := .int) S (inX0 _) tyX0 tX0 nX0 hK hP hS e28 rfl (by decide) (S.2.2.2.2 (.fieldLink RX0 38 "RuleHouse2" "actionCount" "I") (m_mem (by decide +kernel))) rfl rfl (by decide +kernel) rfl rfl dX0_init_57 (fun H locs hP hS => ?_)
  refine lv_aload_n S.1 S.2.1 dX0_init_60 rfl (lv_at hl 0 rfl) ?_
  refine lv_iconst (v := 0) S.1 S.2.1 dX0_init_61 (by decide) ?_
  obtain ⟨s29, e30, h⟩ := m_bs h
  refine m_put (ci := 0) (k := 9) (T := TX0) (N := 10) (v := .int 0) (ty := .int) S (inX0 _) tyX0 tX0 nX0 hK hP hS e30 rfl (by decide) (S.2.2.2.2 (.fieldLink RX0 41 "RuleHouse2" "handleCount" "I") (m_mem (by decide +kernel))) rfl rfl (by decide +kernel) rfl rfl dX0_init_62 (fun H locs hP hS => ?_)
  refine lv_aload_n S.1 S.2.1 dX0_init_65 rfl (lv_at hl 0 rfl) ?_
  refine lv_iload_n S.1 S.2.1 dX0_init_66 rfl (lv_at hl 1 rfl) ?_
  refine lv_iconst (v := 0) S.1 S.2.1 dX0_init_67 (by decide) ?_
  refine va_mmax S.1 S.2.1 (S.2.2.1.trans hl.1.symm) S.2.2.2.1 (S.2.2.2.2 (.methodLink RX0 44 Lib.Math.max.name) (m_mem (by decide +kernel))) (S.2.2.2.2 (.static Lib.Math.max.name) (m_mem (by decide +kernel))) (S.2.2.2.2 (.initialized "java/lang/Math") (m_mem (by decide +kernel))) (S.2.2.2.2 (.code Lib.Math.max.name Lib.Math.max.code 2 (some .int)) (m_mem (by decide +kernel))) (by decide) (Nat.le_of_ble_eq_true rfl) (by decide +kernel) (by decide +kernel) dX0_init_68 ?_
  refine lv_ldc (v := 65536) S.1 S.2.1 S.2.2.2.1 (S.2.2.2.2 (.constant RX0 50 65536) (m_mem (by decide +kernel))) dX0_init_71 ?_
  refine va_mmin S.1 S.2.1 (S.2.2.1.trans hl.1.symm) S.2.2.2.1 (S.2.2.2.2 (.methodLink RX0 51 Lib.Math.min.name) (m_mem (by decide +kernel))) (S.2.2.2.2 (.static Lib.Math.min.name) (m_mem (by decide +kernel))) (S.2.2.2.2 (.initialized "java/lang/Math") (m_mem (by decide +kernel))) (S.2.2.2.2 (.code Lib.Math.min.name Lib.Math.min.code 2 (some .int)) (m_mem (by decide +kernel))) (by decide) (Nat.le_of_ble_eq_true rfl) (by decide +kernel) (by decide +kernel) dX0_init_73 ?_
  obtain ⟨s31, e32, h⟩ := m_bs h
  refine m_putF (ci := 0) (k := 0) (T := TX0) (N := 10) (v := .int (if 65536 < (if p1 < 0 then 0 else p1) then 65536 else (if p1 < 0 then 0 else p1))) (ty := .int) S (inX0 _) tyX0 tX0 nX0 hK hP hS e32 rfl (by decide) (S.2.2.2.2 (.fieldLink RX0 54 "RuleHouse2" "stepsAllowed" "I") (m_mem (by decide +kernel))) rfl rfl hnm rfl (by decide +kernel) rfl rfl dX0_init_76 (fun H locs hP hS => ?_)
  obtain ⟨h1, h2⟩ := m_fin h; subst h1; subst h2
  exact m_vret S hr hlk hK hP hS (by decide +kernel) (by decide +kernel) dX0_init_79

def f_X0_isWithin (p1 : Int32) (p2 : Int32) (s0 : MS) : Option (Int32 × MS) :=
  if p1 < 0 then
    some (0, s0)
  else
    if p2 < p1 then
      some (0, s0)
    else
      some (1, s0)
set_option maxHeartbeats 4000000 in
set_option maxRecDepth 100000 in
theorem c_X0_isWithin (l : Launch) (D : va_G) (tc : Nat → ClassId) (b : Nat) (p1 : Int32) (p2 : Int32) (s0 st' : MS) (r : Int32) (h : f_X0_isWithin p1 p2 s0 = some (r, st')) : Met l yX0_isWithin wsX0_isWithin ({ frames := 0, cells := 0, slots := 0, locals := 0 }) (m_Pc D vwCl (m_tys tc) b s0 [.int p1, .int p2]) (m_Q D vwCl (m_tys tc) b (some (.int r)) st') 0 0 (m_A b) := by
  unfold f_X0_isWithin at h
  refine m_met (cc := cX0_isWithin) (maxL := 2) (ret := (some .boolean)) (by decide) rfl (by first | exact Nat.le_of_ble_eq_true rfl | simp [lg_sl, m_rfc, m_catI, m_catL, m_catA]) ?_
  intro p e s m below meth c ls S hr hlk hnm hK hP hl hS
  replace hl : lv_has ls 2 [(0, .int p1), (1, .int p2)] := by first | exact hl | simpa [lv_args, m_rfc, m_catI, m_catL, m_catA] using hl
  refine lv_iload_n S.1 S.2.1 dX0_isWithin_0 rfl (lv_at hl 0 rfl) ?_
  refine lv_if_lt (tgt := 13) S.1 S.2.1 dX0_isWithin_1 (by decide) (fun c1 => ?_) (fun c1 => ?_)
  · replace h := m_t c1 h
    refine lv_iconst (v := 0) S.1 S.2.1 dX0_isWithin_13 (by decide) ?_
    obtain ⟨h1, h2⟩ := m_fin h; subst h1; subst h2
    exact m_zret S hr hlk hK hP hS (by decide) (by decide +kernel) (by decide +kernel) dX0_isWithin_14
  · replace h := m_f c1 h
    refine lv_iload_n S.1 S.2.1 dX0_isWithin_4 rfl (lv_at hl 0 rfl) ?_
    refine lv_iload_n S.1 S.2.1 dX0_isWithin_5 rfl (lv_at hl 1 rfl) ?_
    refine lv_icmp_gt (tgt := 13) S.1 S.2.1 dX0_isWithin_6 (by decide) (fun c2 => ?_) (fun c2 => ?_)
    · replace h := m_t c2 h
      refine lv_iconst (v := 0) S.1 S.2.1 dX0_isWithin_13 (by decide) ?_
      obtain ⟨h1, h2⟩ := m_fin h; subst h1; subst h2
      exact m_zret S hr hlk hK hP hS (by decide) (by decide +kernel) (by decide +kernel) dX0_isWithin_14
    · replace h := m_f c2 h
      refine lv_iconst (v := 1) S.1 S.2.1 dX0_isWithin_9 (by decide) ?_
      refine lv_goto (tgt := 14) S.1 S.2.1 dX0_isWithin_10 (by decide) ?_
      obtain ⟨h1, h2⟩ := m_fin h; subst h1; subst h2
      exact m_zret S hr hlk hK hP hS (by decide) (by decide +kernel) (by decide +kernel) dX0_isWithin_14

def f_X0_classAt (t0 : Nat) (p1 : Int32) (s0 : MS) : Option (Option Nat × MS) :=
  (m_gI s0 0 t0 2).bind fun x1 =>
  m_b (f_X0_isWithin p1 (x1 - 1) s0) fun x3 s4 =>
  if x3 = 0 then
    some (none, s4)
  else
    (m_gR s4 0 t0 1).bind fun r7 =>
    r7.bind fun a9 =>
    (m_aR s4 3 a9 p1).bind fun r10 =>
    some (r10, s4)
set_option maxHeartbeats 4000000 in
set_option maxRecDepth 100000 in
theorem c_X0_classAt (l : Launch) (D : va_G) (tc : Nat → ClassId) (b : Nat) (t0 : Nat) (p1 : Int32) (s0 st' : MS) (r : Option Nat) (h : f_X0_classAt t0 p1 s0 = some (r, st')) : Met l yX0_classAt wsX0_classAt ({ frames := 1, cells := 0, slots := 0, locals := 21 }) (m_Pc D vwCl (m_tys tc) b s0 [.ref t0, .int p1]) (m_Q D vwCl (m_tys tc) b (some (va_rf r)) st') 0 0 (m_A b) := by
  unfold f_X0_classAt at h
  refine m_met (cc := cX0_classAt) (maxL := 2) (ret := (some (.object "RuleHouse2$RuleClass"))) (by decide) rfl (by first | exact Nat.le_of_ble_eq_true rfl | simp [lg_sl, m_rfc, m_catI, m_catL, m_catA]) ?_
  intro p e s m below meth c ls S hr hlk hnm hK hP hl hS
  replace hl : lv_has ls 2 [(0, .ref t0), (1, .int p1)] := by first | exact hl | simpa [lv_args, m_rfc, m_catI, m_catL, m_catA] using hl
  refine lv_iload_n S.1 S.2.1 dX0_classAt_0 rfl (lv_at hl 1 rfl) ?_
  refine lv_aload_n S.1 S.2.1 dX0_classAt_1 rfl (lv_at hl 0 rfl) ?_
  obtain ⟨x1, e2, h⟩ := m_bs h
  refine m_get (ci := 0) (k := 2) (T := TX0) (N := 10) S (inX0 _) hK hP (m_gI_s e2) rfl (by decide) (S.2.2.2.2 (.fieldLink RX0 15 "RuleHouse2" "ruleCount" "I") (m_mem (by decide +kernel))) rfl dX0_classAt_2 ?_
  refine lv_iconst (v := 1) S.1 S.2.1 dX0_classAt_5 (by decide) ?_
  refine lv_isub S.1 S.2.1 dX0_classAt_6 ?_
  obtain ⟨x3, s4, e5, h⟩ := m_b_s h
  refine m_calli (va_runS (As := [.int p1, .int (x1 - 1)]) (rest := []) S (c_X0_isWithin l D tc b p1 (x1 - 1) _ _ _ e5) (cwS 2 S.2.2.2.2 (m_wS kX0_isWithin (by decide +kernel)) rfl rfl rfl (by decide +kernel) ⟨by decide +kernel, by decide +kernel⟩) (m_preS hK hP) rfl rfl hl.1 rfl (lv_room (by first | decide | simp [m_rfc, m_catI, m_catL, m_catA])) dX0_classAt_7 ⟨by decide +kernel, by decide +kernel⟩) hS (fun H locs hP hS => ?_)
  refine lv_if_eq (tgt := 22) S.1 S.2.1 dX0_classAt_10 (by decide) (fun c6 => ?_) (fun c6 => ?_)
  · replace h := m_t c6 h
    refine lv_null S.1 S.2.1 dX0_classAt_22 ?_
    obtain ⟨h1, h2⟩ := m_fin h; subst h1; subst h2
    exact m_aret (r := none) S hr hlk hK hP hS (by decide +kernel) (by decide +kernel) dX0_classAt_23
  · replace h := m_f c6 h
    refine lv_aload_n S.1 S.2.1 dX0_classAt_13 rfl (lv_at hl 0 rfl) ?_
    obtain ⟨r7, e8, h⟩ := m_bs h
    refine m_get (ci := 0) (k := 1) (T := TX0) (N := 10) S (inX0 _) hK hP (m_gR_s e8) rfl (by decide) (S.2.2.2.2 (.fieldLink RX0 11 "RuleHouse2" "classOfRule" "[LRuleHouse2$RuleClass;") (m_mem (by decide +kernel))) rfl dX0_classAt_14 ?_
    refine lv_iload_n S.1 S.2.1 dX0_classAt_17 rfl (lv_at hl 1 rfl) ?_
    obtain ⟨a9, ea, g⟩ := m_bs h; clear h; subst ea; have h := g; clear g
    obtain ⟨r10, e11, h⟩ := m_bs h
    refine m_aald (t := 3) S hK hP (m_aR_s e11) rfl dX0_classAt_18 ?_
    refine lv_goto (tgt := 23) S.1 S.2.1 dX0_classAt_19 (by decide) ?_
    obtain ⟨h1, h2⟩ := m_fin h; subst h1; subst h2
    exact m_aret (r := r10) S hr hlk hK hP hS (by decide +kernel) (by decide +kernel) dX0_classAt_23

def f_X1_isOf (t0 : Nat) (p1 : Int32) (p2 : Int32) (s0 : MS) : Option (Int32 × MS) :=
  (m_gI s0 1 t0 0).bind fun x1 =>
  if x1 = p1 then
    (m_gI s0 1 t0 1).bind fun x4 =>
    if x4 = p2 then
      some (1, s0)
    else
      some (0, s0)
  else
    some (0, s0)
set_option maxHeartbeats 4000000 in
set_option maxRecDepth 100000 in
theorem c_X1_isOf (l : Launch) (D : va_G) (tc : Nat → ClassId) (b : Nat) (t0 : Nat) (p1 : Int32) (p2 : Int32) (s0 st' : MS) (r : Int32) (h : f_X1_isOf t0 p1 p2 s0 = some (r, st')) : Met l yX1_isOf wsX1_isOf ({ frames := 0, cells := 0, slots := 0, locals := 0 }) (m_Pc D vwCl (m_tys tc) b s0 [.ref t0, .int p1, .int p2]) (m_Q D vwCl (m_tys tc) b (some (.int r)) st') 0 0 (m_A b) := by
  unfold f_X1_isOf at h
  refine m_met (cc := cX1_isOf) (maxL := 3) (ret := (some .boolean)) (by decide) rfl (by first | exact Nat.le_of_ble_eq_true rfl | simp [lg_sl, m_rfc, m_catI, m_catL, m_catA]) ?_
  intro p e s m below meth c ls S hr hlk hnm hK hP hl hS
  replace hl : lv_has ls 3 [(0, .ref t0), (1, .int p1), (2, .int p2)] := by first | exact hl | simpa [lv_args, m_rfc, m_catI, m_catL, m_catA] using hl
  refine lv_aload_n S.1 S.2.1 dX1_isOf_0 rfl (lv_at hl 0 rfl) ?_
  obtain ⟨x1, e2, h⟩ := m_bs h
  refine m_get (ci := 1) (k := 0) (T := TX1) (N := 6) S (inX1 _) hK hP (m_gI_s e2) rfl (by decide) (S.2.2.2.2 (.fieldLink RX1 23 "RuleHouse2$RuleClass" "edition" "I") (m_mem (by decide +kernel))) rfl dX1_isOf_1 ?_
  refine lv_iload_n S.1 S.2.1 dX1_isOf_4 rfl (lv_at hl 1 rfl) ?_
  refine lv_icmp_ne (tgt := 20) S.1 S.2.1 dX1_isOf_5 (by decide) (fun c3 => ?_) (fun c3 => ?_)
  · replace h := m_f c3 h
    refine lv_iconst (v := 0) S.1 S.2.1 dX1_isOf_20 (by decide) ?_
    obtain ⟨h1, h2⟩ := m_fin h; subst h1; subst h2
    exact m_zret S hr hlk hK hP hS (by decide) (by decide +kernel) (by decide +kernel) dX1_isOf_21
  · replace h := m_t c3 h
    refine lv_aload_n S.1 S.2.1 dX1_isOf_8 rfl (lv_at hl 0 rfl) ?_
    obtain ⟨x4, e5, h⟩ := m_bs h
    refine m_get (ci := 1) (k := 1) (T := TX1) (N := 6) S (inX1 _) hK hP (m_gI_s e5) rfl (by decide) (S.2.2.2.2 (.fieldLink RX1 26 "RuleHouse2$RuleClass" "does" "I") (m_mem (by decide +kernel))) rfl dX1_isOf_9 ?_
    refine lv_iload_n S.1 S.2.1 dX1_isOf_12 rfl (lv_at hl 2 rfl) ?_
    refine lv_icmp_ne (tgt := 20) S.1 S.2.1 dX1_isOf_13 (by decide) (fun c6 => ?_) (fun c6 => ?_)
    · replace h := m_f c6 h
      refine lv_iconst (v := 0) S.1 S.2.1 dX1_isOf_20 (by decide) ?_
      obtain ⟨h1, h2⟩ := m_fin h; subst h1; subst h2
      exact m_zret S hr hlk hK hP hS (by decide) (by decide +kernel) (by decide +kernel) dX1_isOf_21
    · replace h := m_t c6 h
      refine lv_iconst (v := 1) S.1 S.2.1 dX1_isOf_16 (by decide) ?_
      refine lv_goto (tgt := 21) S.1 S.2.1 dX1_isOf_17 (by decide) ?_
      obtain ⟨h1, h2⟩ := m_fin h; subst h1; subst h2
      exact m_zret S hr hlk hK hP hS (by decide) (by decide +kernel) (by decide +kernel) dX1_isOf_21

def f_X0_findClass_L2 : Nat → Int32 → Nat → Int32 → Int32 → MS → Option (Option Nat × MS)
  | 0, _, _, _, _, _ => none
  | f + 1, q3, q0, q1, q2, s0 =>
    (m_gI s0 0 q0 2).bind fun x1 =>
    if x1 ≤ q3 then
      some (none, s0)
    else
      (m_is s0 0 q0).bind fun _ =>
      m_b (f_X0_classAt q0 q3 s0) fun r4 s5 =>
      m_nn r4
        (f_X0_findClass_L2 f (q3 + 1) q0 q1 q2 s5)
        (fun a8 =>
        (m_is s5 1 a8).bind fun _ =>
        m_b (f_X1_isOf a8 q1 q2 s5) fun x9 s10 =>
        if x9 = 0 then
          f_X0_findClass_L2 f (q3 + 1) q0 q1 q2 s10
        else
          some ((some a8), s10))
def f_X0_findClass (t0 : Nat) (p1 : Int32) (p2 : Int32) (s0 : MS) : Option (Option Nat × MS) :=
  f_X0_findClass_L2 64 0 t0 p1 p2 s0
set_option maxHeartbeats 4000000 in
set_option maxRecDepth 100000 in
theorem w_X0_findClass_L2 {p : Program} {l : Launch} {e : Env} {s : State} {m : MethodId} {args : Array Value} {below : List Frame} {meth : Method} {c : Code} (D : va_G) (tc : Nat → ClassId) (b : Nat) (S : CallFix p m c cX0_findClass 5 s args wsX0_findClass RX0) (hr : meth.sig.returnType = (some (.object "RuleHouse2$RuleClass"))) (hlk : meth.locks = false) (hK : va_K D vwCl (m_tys tc) s) :
    ∀ (f : Nat) (q3 : Int32) (q0 : Nat) (q1 : Int32) (q2 : Int32) (s0 st' : MS) (r : Option Nat) (h : f_X0_findClass_L2 f q3 q0 q1 q2 s0 = some (r, st')) (H : Heap) (locs : List Loc) (ls : Array Slot) (hP : mw D vwCl (m_tys tc) b s0 H) (hS : va_S (m_A b) s.heap H locs) (hl : lv_has ls 5 [(3, .int q3), (0, .ref q0), (1, .int q1), (2, .int q2)]), W p l e { frames := 2, cells := 0, slots := 0, locals := 42 } s m args below meth c H locs 0 0 (MQ below (m_Q D vwCl (m_tys tc) b (some (va_rf r)) st') args s 0 0 (m_A b)) (F0 m 2 ls []) := by
  intro f
  induction f with
  | zero =>
    intro q3 q0 q1 q2 s0 st' r h
    cases h
  | succ f ih =>
    intro q3 q0 q1 q2 s0 st' r h H locs ls hP hS hl
    rw [f_X0_findClass_L2] at h
    refine lv_iload_n S.1 S.2.1 dX0_findClass_2 rfl (lv_at hl 0 rfl) ?_
    refine lv_aload_n S.1 S.2.1 dX0_findClass_3 rfl (lv_at hl 1 rfl) ?_
    obtain ⟨x1, e2, h⟩ := m_bs h
    refine m_get (ci := 0) (k := 2) (T := TX0) (N := 10) S (inX0 _) hK hP (m_gI_s e2) rfl (by decide) (S.2.2.2.2 (.fieldLink RX0 15 "RuleHouse2" "ruleCount" "I") (m_mem (by decide +kernel))) rfl dX0_findClass_4 ?_
    refine lv_icmp_ge (tgt := 41) S.1 S.2.1 dX0_findClass_7 (by decide) (fun c3 => ?_) (fun c3 => ?_)
    · replace h := m_t c3 h
      refine lv_null S.1 S.2.1 dX0_findClass_41 ?_
      obtain ⟨h1, h2⟩ := m_fin h; subst h1; subst h2
      exact m_aret (r := none) S hr hlk hK hP hS (by decide +kernel) (by decide +kernel) dX0_findClass_42
    · replace h := m_f c3 h
      refine lv_aload_n S.1 S.2.1 dX0_findClass_10 rfl (lv_at hl 1 rfl) ?_
      refine lv_iload_n S.1 S.2.1 dX0_findClass_11 rfl (lv_at hl 0 rfl) ?_
      obtain ⟨_, k7, h⟩ := m_bs h
      obtain ⟨r4, s5, e6, h⟩ := m_b_s h
      refine m_callr (va_runV (As := [.int q3]) (rest := []) S (c_X0_classAt l D tc b q0 q3 _ _ _ e6) (cwV 1 S.2.2.2.2 (m_wV kX0_classAt (by decide +kernel)) rfl rfl rfl (by decide +kernel) ⟨by decide +kernel, by decide +kernel⟩) (m_preV hK hP (m_is_s k7) rfl) rfl rfl hl.1 rfl (lv_room (by first | decide | simp [m_rfc, m_catI, m_catL, m_catA])) dX0_findClass_12 ⟨by decide +kernel, by decide +kernel⟩) hS (fun H locs hP hS => ?_)
      refine m_astore (i := 4) (lv' := [(4, va_rf r4), (3, .int q3), (0, .ref q0), (1, .int q1), (2, .int q2)]) S.1 S.2.1 dX0_findClass_15 hl (by decide) (by first | rfl | simp [m_rfc, m_catI, m_catL, m_catA]) (fun ls hl => ?_)
      refine m_aload S.1 S.2.1 dX0_findClass_17 (lv_at hl 0 rfl) ?_
      rcases r4 with _ | a8
      · replace h := m_nn0 h
        refine lv_ifnullN (tgt := 35) S.1 S.2.1 dX0_findClass_19 (by decide) ?_
        refine lv_iinc (v := q3 + 1) (lv' := [(3, .int (q3 + 1)), (4, .null), (0, .ref q0), (1, .int q1), (2, .int q2)]) S.1 S.2.1 dX0_findClass_35 hl (k := 1) rfl rfl (by decide) (by first | rfl | simp [m_rfc, m_catI, m_catL, m_catA]) (fun ls hl => ?_)
        refine lv_goto (tgt := 2) S.1 S.2.1 dX0_findClass_38 (by decide) ?_
        exact ih (q3 + 1) q0 q1 q2 _ _ _ h _ _ _ hP hS (lv_sub hl [0, 2, 3, 4] rfl)
      · replace h := m_nn1 h
        refine lv_ifnull S.1 S.2.1 dX0_findClass_19 ?_
        refine lv_aload S.1 S.2.1 dX0_findClass_22 (lv_at hl 0 rfl) ?_
        refine lv_iload_n S.1 S.2.1 dX0_findClass_24 rfl (lv_at hl 3 rfl) ?_
        refine lv_iload_n S.1 S.2.1 dX0_findClass_25 rfl (lv_at hl 4 rfl) ?_
        obtain ⟨_, k12, h⟩ := m_bs h
        obtain ⟨x9, s10, e11, h⟩ := m_b_s h
        refine m_calli (va_runV (As := [.int q1, .int q2]) (rest := []) S (c_X1_isOf l D tc b a8 q1 q2 _ _ _ e11) (cwV 2 S.2.2.2.2 (m_wV kX1_isOf (by decide +kernel)) rfl rfl rfl (by decide +kernel) ⟨by decide +kernel, by decide +kernel⟩) (m_preV hK hP (m_is_s k12) rfl) rfl rfl hl.1 rfl (lv_room (by first | decide | simp [m_rfc, m_catI, m_catL, m_catA])) dX0_findClass_26 ⟨by decide +kernel, by decide +kernel⟩) hS (fun H locs hP hS => ?_)
        refine lv_if_eq (tgt := 35) S.1 S.2.1 dX0_findClass_29 (by decide) (fun c13 => ?_) (fun c13 => ?_)
        · replace h := m_t c13 h
          refine lv_iinc (v := q3 + 1) (lv' := [(3, .int (q3 + 1)), (4, .ref a8), (0, .ref q0), (1, .int q1), (2, .int q2)]) S.1 S.2.1 dX0_findClass_35 hl (k := 1) rfl rfl (by decide) (by first | rfl | simp [m_rfc, m_catI, m_catL, m_catA]) (fun ls hl => ?_)
          refine lv_goto (tgt := 2) S.1 S.2.1 dX0_findClass_38 (by decide) ?_
          exact ih (q3 + 1) q0 q1 q2 _ _ _ h _ _ _ hP hS (lv_sub hl [0, 2, 3, 4] rfl)
        · replace h := m_f c13 h
          refine lv_aload S.1 S.2.1 dX0_findClass_32 (lv_at hl 0 rfl) ?_
          obtain ⟨h1, h2⟩ := m_fin h; subst h1; subst h2
          exact m_aret (r := (some a8)) S hr hlk hK hP hS (by decide +kernel) (by decide +kernel) dX0_findClass_34
set_option maxHeartbeats 4000000 in
set_option maxRecDepth 100000 in
theorem c_X0_findClass (l : Launch) (D : va_G) (tc : Nat → ClassId) (b : Nat) (t0 : Nat) (p1 : Int32) (p2 : Int32) (s0 st' : MS) (r : Option Nat) (h : f_X0_findClass t0 p1 p2 s0 = some (r, st')) : Met l yX0_findClass wsX0_findClass ({ frames := 2, cells := 0, slots := 0, locals := 42 }) (m_Pc D vwCl (m_tys tc) b s0 [.ref t0, .int p1, .int p2]) (m_Q D vwCl (m_tys tc) b (some (va_rf r)) st') 0 0 (m_A b) := by
  unfold f_X0_findClass at h
  refine m_met (cc := cX0_findClass) (maxL := 5) (ret := (some (.object "RuleHouse2$RuleClass"))) (by decide) rfl (by first | exact Nat.le_of_ble_eq_true rfl | simp [lg_sl, m_rfc, m_catI, m_catL, m_catA]) ?_
  intro p e s m below meth c ls S hr hlk hnm hK hP hl hS
  replace hl : lv_has ls 5 [(0, .ref t0), (1, .int p1), (2, .int p2)] := by first | exact hl | simpa [lv_args, m_rfc, m_catI, m_catL, m_catA] using hl
  refine lv_iconst (v := 0) S.1 S.2.1 dX0_findClass_0 (by decide) ?_
  refine lv_istore_n (i := 3) (lv' := [(3, .int 0), (0, .ref t0), (1, .int p1), (2, .int p2)]) S.1 S.2.1 dX0_findClass_1 rfl hl (by decide) (by first | rfl | simp [m_rfc, m_catI, m_catL, m_catA]) (fun ls hl => ?_)
  exact w_X0_findClass_L2 D tc b S hr hlk hK 64 0 t0 p1 p2 _ _ _ h _ _ _ hP hS (lv_sub hl [0, 1, 2, 3] rfl)

def f_X1_init (t0 : Nat) (p1 : Int32) (p2 : Int32) (p3 : Int32) (s0 : MS) : Option (Unit × MS) :=
  (m_p s0 1 t0 3 (.int 0)).bind fun s1 =>
  (m_p s1 1 t0 4 (.int (-1))).bind fun s3 =>
  (m_p s3 1 t0 5 (.long 0)).bind fun s5 =>
  (m_p s5 1 t0 0 (.int p1)).bind fun s7 =>
  (m_p s7 1 t0 1 (.int p2)).bind fun s9 =>
  (m_z p3).bind fun z13 =>
  (m_p s9 1 t0 2 (.int p3)).bind fun s11 =>
  some ((), s11)
set_option maxHeartbeats 4000000 in
set_option maxRecDepth 100000 in
theorem c_X1_init (l : Launch) (D : va_G) (tc : Nat → ClassId) (b : Nat) (t0 : Nat) (p1 : Int32) (p2 : Int32) (p3 : Int32) (s0 st' : MS) (r : Unit) (h : f_X1_init t0 p1 p2 p3 s0 = some (r, st')) : Met l yX1_init wsX1_init ({ frames := 1, cells := 0, slots := 0, locals := 12 }) (m_Pc D vwCl (m_tys tc) b s0 [.ref t0, .int p1, .int p2, .int p3]) (m_Q D vwCl (m_tys tc) b none st') 0 0 (m_A b) := by
  unfold f_X1_init at h
  refine m_met (cc := cX1_init) (maxL := 4) (ret := none) (by decide) rfl (by first | exact Nat.le_of_ble_eq_true rfl | simp [lg_sl, m_rfc, m_catI, m_catL, m_catA]) ?_
  intro p e s m below meth c ls S hr hlk hnm hK hP hl hS
  replace hl : lv_has ls 4 [(0, .ref t0), (1, .int p1), (2, .int p2), (3, .int p3)] := by first | exact hl | simpa [lv_args, m_rfc, m_catI, m_catL, m_catA] using hl
  refine lv_aload_n S.1 S.2.1 dX1_init_0 rfl (lv_at hl 0 rfl) ?_
  refine W.objInit S.1 S.2.1 S.2.2.2.1 (S.2.2.2.2 (.methodLink RX1 3 objectInit) (m_mem (by decide +kernel))) (S.2.2.2.2 (.instanceMethod objectInit) (m_mem (by decide +kernel))) (S.2.2.2.2 (.code objectInit ⟨#[0xb1]⟩ 1 none) (m_mem (by decide +kernel))) rfl (by rw [S.2.2.1]; exact hl.1) rfl dX1_init_1 (Nat.le_of_ble_eq_true rfl) (Nat.le_of_ble_eq_true rfl) ?_
  refine W.eq (g2 := F0 m 4 ls []) rfl ?_
  refine lv_aload_n S.1 S.2.1 dX1_init_4 rfl (lv_at hl 0 rfl) ?_
  refine lv_iconst (v := 0) S.1 S.2.1 dX1_init_5 (by decide) ?_
  obtain ⟨s1, e2, h⟩ := m_bs h
  refine m_put (ci := 1) (k := 3) (T := TX1) (N := 6) (v := .int 0) (ty := .boolean) S (inX1 _) tyX1 tX1 nX1 hK hP hS e2 rfl (by decide) (S.2.2.2.2 (.fieldLink RX1 9 "RuleHouse2$RuleClass" "made" "Z") (m_mem (by decide +kernel))) rfl rfl (by decide +kernel) (by decide) rfl dX1_init_6 (fun H locs hP hS => ?_)
  refine lv_aload_n S.1 S.2.1 dX1_init_9 rfl (lv_at hl 0 rfl) ?_
  refine lv_iconst (v := (-1)) S.1 S.2.1 dX1_init_10 (by decide) ?_
  obtain ⟨s3, e4, h⟩ := m_bs h
  refine m_put (ci := 1) (k := 4) (T := TX1) (N := 6) (v := .int (-1)) (ty := .int) S (inX1 _) tyX1 tX1 nX1 hK hP hS e4 rfl (by decide) (S.2.2.2.2 (.fieldLink RX1 15 "RuleHouse2$RuleClass" "number" "I") (m_mem (by decide +kernel))) rfl rfl (by decide +kernel) rfl rfl dX1_init_11 (fun H locs hP hS => ?_)
  refine lv_aload_n S.1 S.2.1 dX1_init_14 rfl (lv_at hl 0 rfl) ?_
  refine lv_lconst (v := 0) S.1 S.2.1 dX1_init_15 (by decide) ?_
  obtain ⟨s5, e6, h⟩ := m_bs h
  refine m_put (ci := 1) (k := 5) (T := TX1) (N := 6) (v := .long 0) (ty := .long) S (inX1 _) tyX1 tX1 nX1 hK hP hS e6 rfl (by decide) (S.2.2.2.2 (.fieldLink RX1 19 "RuleHouse2$RuleClass" "cell" "J") (m_mem (by decide +kernel))) rfl rfl (by decide +kernel) rfl rfl dX1_init_16 (fun H locs hP hS => ?_)
  refine lv_aload_n S.1 S.2.1 dX1_init_19 rfl (lv_at hl 0 rfl) ?_
  refine lv_iload_n S.1 S.2.1 dX1_init_20 rfl (lv_at hl 1 rfl) ?_
  obtain ⟨s7, e8, h⟩ := m_bs h
  refine m_putF (ci := 1) (k := 0) (T := TX1) (N := 6) (v := .int p1) (ty := .int) S (inX1 _) tyX1 tX1 nX1 hK hP hS e8 rfl (by decide) (S.2.2.2.2 (.fieldLink RX1 23 "RuleHouse2$RuleClass" "edition" "I") (m_mem (by decide +kernel))) rfl rfl hnm rfl (by decide +kernel) rfl rfl dX1_init_21 (fun H locs hP hS => ?_)
  refine lv_aload_n S.1 S.2.1 dX1_init_24 rfl (lv_at hl 0 rfl) ?_
  refine lv_iload_n S.1 S.2.1 dX1_init_25 rfl (lv_at hl 2 rfl) ?_
  obtain ⟨s9, e10, h⟩ := m_bs h
  refine m_putF (ci := 1) (k := 1) (T := TX1) (N := 6) (v := .int p2) (ty := .int) S (inX1 _) tyX1 tX1 nX1 hK hP hS e10 rfl (by decide) (S.2.2.2.2 (.fieldLink RX1 26 "RuleHouse2$RuleClass" "does" "I") (m_mem (by decide +kernel))) rfl rfl hnm rfl (by decide +kernel) rfl rfl dX1_init_26 (fun H locs hP hS => ?_)
  refine lv_aload_n S.1 S.2.1 dX1_init_29 rfl (lv_at hl 0 rfl) ?_
  refine lv_iload_n S.1 S.2.1 dX1_init_30 rfl (lv_at hl 3 rfl) ?_
  obtain ⟨z13, e14, h⟩ := m_bs h
  obtain ⟨hz, ne14⟩ := m_z_s e14; subst hz
  obtain ⟨s11, e12, h⟩ := m_bs h
  refine m_putF (ci := 1) (k := 2) (T := TX1) (N := 6) (v := .int p3) (ty := .boolean) S (inX1 _) tyX1 tX1 nX1 hK hP hS e12 rfl (by decide) (S.2.2.2.2 (.fieldLink RX1 29 "RuleHouse2$RuleClass" "startFails" "Z") (m_mem (by decide +kernel))) rfl rfl hnm rfl (by decide +kernel) ne14.1 ne14.2 dX1_init_31 (fun H locs hP hS => ?_)
  obtain ⟨h1, h2⟩ := m_fin h; subst h1; subst h2
  exact m_vret S hr hlk hK hP hS (by decide +kernel) (by decide +kernel) dX1_init_34

def f_X0_rule (t0 : Nat) (p1 : Int32) (p2 : Int32) (p3 : Int32) (s0 : MS) : Option (Int32 × MS) :=
  m_b (f_X0_isWithin p1 3 s0) fun x1 s2 =>
  if x1 = 0 then
    some ((-2), s2)
  else
    m_b (f_X0_isWithin p2 255 s2) fun x5 s6 =>
    if x5 = 0 then
      some ((-2), s6)
    else
      (m_gI s6 0 t0 2).bind fun x9 =>
      if x9 < 16 then
        (m_is s6 0 t0).bind fun _ =>
        m_b (f_X0_findClass t0 p1 p2 s6) fun r12 s13 =>
        (m_gR s13 0 t0 1).bind fun r16 =>
        (m_gI s13 0 t0 2).bind fun x18 =>
        m_nn r12
          (m_nw s13 (.inl 1) (fun j => defaultValue (tyX1 j)) fun a21 s22 =>
          m_b (f_X1_init a21 p1 p2 p3 s22) fun u24 s25 =>
          r16.bind fun a27 =>
          (m_is s25 1 a21).bind fun _ =>
          (m_ap s25 3 a27 x18 (.ref a21)).bind fun s28 =>
          (m_gI s28 0 t0 2).bind fun x31 =>
          (m_p s28 0 t0 2 (.int (x31 + 1))).bind fun s33 =>
          (m_gI s33 0 t0 2).bind fun x35 =>
          some (x35 - 1, s33))
          (fun a20 =>
          r16.bind fun a37 =>
          (m_is s13 1 a20).bind fun _ =>
          (m_ap s13 3 a37 x18 (.ref a20)).bind fun s38 =>
          (m_gI s38 0 t0 2).bind fun x41 =>
          (m_p s38 0 t0 2 (.int (x41 + 1))).bind fun s43 =>
          (m_gI s43 0 t0 2).bind fun x45 =>
          some (x45 - 1, s43))
      else
        some ((-4), s6)
set_option maxHeartbeats 4000000 in
set_option maxRecDepth 100000 in
theorem c_X0_rule (l : Launch) (D : va_G) (tc : Nat → ClassId) (b : Nat) (t0 : Nat) (p1 : Int32) (p2 : Int32) (p3 : Int32) (s0 st' : MS) (r : Int32) (h : f_X0_rule t0 p1 p2 p3 s0 = some (r, st')) : Met l yX0_rule wsX0_rule ({ frames := 3, cells := 1, slots := 6, locals := 66 }) (m_Pc D vwCl (m_tys tc) b s0 [.ref t0, .int p1, .int p2, .int p3]) (m_Q D vwCl (m_tys tc) b (some (.int r)) st') 1 6 (m_A b) := by
  unfold f_X0_rule at h
  refine m_met (cc := cX0_rule) (maxL := 5) (ret := (some .int)) (by decide) rfl (by first | exact Nat.le_of_ble_eq_true rfl | simp [lg_sl, m_rfc, m_catI, m_catL, m_catA]) ?_
  intro p e s m below meth c ls S hr hlk hnm hK hP hl hS
  replace hl : lv_has ls 5 [(0, .ref t0), (1, .int p1), (2, .int p2), (3, .int p3)] := by first | exact hl | simpa [lv_args, m_rfc, m_catI, m_catL, m_catA] using hl
  refine lv_iload_n S.1 S.2.1 dX0_rule_0 rfl (lv_at hl 1 rfl) ?_
  refine lv_iconst (v := 3) S.1 S.2.1 dX0_rule_1 (by decide) ?_
  obtain ⟨x1, s2, e3, h⟩ := m_b_s h
  refine m_calli (va_runS (As := [.int p1, .int 3]) (rest := []) S (c_X0_isWithin l D tc b p1 3 _ _ _ e3) (cwS 2 S.2.2.2.2 (m_wS kX0_isWithin (by decide +kernel)) rfl rfl rfl (by decide +kernel) ⟨by decide +kernel, by decide +kernel⟩) (m_preS hK hP) rfl rfl hl.1 rfl (lv_room (by first | decide | simp [m_rfc, m_catI, m_catL, m_catA])) dX0_rule_2 ⟨by decide +kernel, by decide +kernel⟩) hS (fun H locs hP hS => ?_)
  refine lv_if_eq (tgt := 18) S.1 S.2.1 dX0_rule_5 (by decide) (fun c4 => ?_) (fun c4 => ?_)
  · replace h := m_t c4 h
    refine lv_bipush (v := (-2)) S.1 S.2.1 dX0_rule_18 (by decide) ?_
    obtain ⟨h1, h2⟩ := m_fin h; subst h1; subst h2
    exact m_iret S hr hlk hK hP hS (by decide +kernel) (by decide +kernel) dX0_rule_20
  · replace h := m_f c4 h
    refine lv_iload_n S.1 S.2.1 dX0_rule_8 rfl (lv_at hl 2 rfl) ?_
    refine lv_sipush (v := 255) S.1 S.2.1 dX0_rule_9 (by decide) ?_
    obtain ⟨x5, s6, e7, h⟩ := m_b_s h
    refine m_calli (va_runS (As := [.int p2, .int 255]) (rest := []) S (c_X0_isWithin l D tc b p2 255 _ _ _ e7) (cwS 2 S.2.2.2.2 (m_wS kX0_isWithin (by decide +kernel)) rfl rfl rfl (by decide +kernel) ⟨by decide +kernel, by decide +kernel⟩) (m_preS hK hP) rfl rfl hl.1 rfl (lv_room (by first | decide | simp [m_rfc, m_catI, m_catL, m_catA])) dX0_rule_12 ⟨by decide +kernel, by decide +kernel⟩) hS (fun H locs hP hS => ?_)
    refine lv_if_ne (tgt := 21) S.1 S.2.1 dX0_rule_15 (by decide) (fun c8 => ?_) (fun c8 => ?_)
    · replace h := m_f c8 h
      refine lv_aload_n S.1 S.2.1 dX0_rule_21 rfl (lv_at hl 0 rfl) ?_
      obtain ⟨x9, e10, h⟩ := m_bs h
      refine m_get (ci := 0) (k := 2) (T := TX0) (N := 10) S (inX0 _) hK hP (m_gI_s e10) rfl (by decide) (S.2.2.2.2 (.fieldLink RX0 15 "RuleHouse2" "ruleCount" "I") (m_mem (by decide +kernel))) rfl dX0_rule_22 ?_
      refine lv_bipush (v := 16) S.1 S.2.1 dX0_rule_25 (by decide) ?_
      refine lv_icmp_lt (tgt := 33) S.1 S.2.1 dX0_rule_27 (by decide) (fun c11 => ?_) (fun c11 => ?_)
      · replace h := m_t c11 h
        refine lv_aload_n S.1 S.2.1 dX0_rule_33 rfl (lv_at hl 0 rfl) ?_
        refine lv_iload_n S.1 S.2.1 dX0_rule_34 rfl (lv_at hl 1 rfl) ?_
        refine lv_iload_n S.1 S.2.1 dX0_rule_35 rfl (lv_at hl 2 rfl) ?_
        obtain ⟨_, k15, h⟩ := m_bs h
        obtain ⟨r12, s13, e14, h⟩ := m_b_s h
        refine m_callr (va_runV (As := [.int p1, .int p2]) (rest := []) S (c_X0_findClass l D tc b t0 p1 p2 _ _ _ e14) (cwV 2 S.2.2.2.2 (m_wV kX0_findClass (by decide +kernel)) rfl rfl rfl (by decide +kernel) ⟨by decide +kernel, by decide +kernel⟩) (m_preV hK hP (m_is_s k15) rfl) rfl rfl hl.1 rfl (lv_room (by first | decide | simp [m_rfc, m_catI, m_catL, m_catA])) dX0_rule_36 ⟨by decide +kernel, by decide +kernel⟩) hS (fun H locs hP hS => ?_)
        refine m_astore (i := 4) (lv' := [(4, va_rf r12), (0, .ref t0), (1, .int p1), (2, .int p2), (3, .int p3)]) S.1 S.2.1 dX0_rule_39 hl (by decide) (by first | rfl | simp [m_rfc, m_catI, m_catL, m_catA]) (fun ls hl => ?_)
        refine lv_aload_n S.1 S.2.1 dX0_rule_41 rfl (lv_at hl 1 rfl) ?_
        obtain ⟨r16, e17, h⟩ := m_bs h
        refine m_get (ci := 0) (k := 1) (T := TX0) (N := 10) S (inX0 _) hK hP (m_gR_s e17) rfl (by decide) (S.2.2.2.2 (.fieldLink RX0 11 "RuleHouse2" "classOfRule" "[LRuleHouse2$RuleClass;") (m_mem (by decide +kernel))) rfl dX0_rule_42 ?_
        refine lv_aload_n S.1 S.2.1 dX0_rule_45 rfl (lv_at hl 1 rfl) ?_
        obtain ⟨x18, e19, h⟩ := m_bs h
        refine m_get (ci := 0) (k := 2) (T := TX0) (N := 10) S (inX0 _) hK hP (m_gI_s e19) rfl (by decide) (S.2.2.2.2 (.fieldLink RX0 15 "RuleHouse2" "ruleCount" "I") (m_mem (by decide +kernel))) rfl dX0_rule_46 ?_
        refine m_aload S.1 S.2.1 dX0_rule_49 (lv_at hl 0 rfl) ?_
        rcases r12 with _ | a20
        · replace h := m_nn0 h
          refine lv_ifnullN (tgt := 59) S.1 S.2.1 dX0_rule_51 (by decide) ?_
          obtain ⟨a21, s22, e23, h⟩ := m_nw_s h
          refine m_new (ci := 1) S (inX1 _) tyX1 tX1 (S.2.2.2.2 (.classLink RX0 9 RX1) (m_mem (by decide +kernel))) (S.2.2.2.2 (.instantiable RX1 6) (m_mem (by decide +kernel))) (S.2.2.2.2 (.initialized RX1) (m_mem (by decide +kernel))) hK hP hS rfl e23 (by decide +kernel) (by decide +kernel) dX0_rule_59 (fun H hP hS => ?_)
          refine lv_dup S.1 S.2.1 dX0_rule_62 rfl ?_
          refine lv_iload_n S.1 S.2.1 dX0_rule_63 rfl (lv_at hl 2 rfl) ?_
          refine lv_iload_n S.1 S.2.1 dX0_rule_64 rfl (lv_at hl 3 rfl) ?_
          refine lv_iload_n S.1 S.2.1 dX0_rule_65 rfl (lv_at hl 4 rfl) ?_
          obtain ⟨u24, s25, e26, h⟩ := m_b_s h
          refine m_callv (va_runI (As := [.int p1, .int p2, .int p3]) (rest := [.ref a21, .int x18, va_rf r16]) S (c_X1_init l D tc b a21 p1 p2 p3 _ _ _ e26) (cwI 3 S.2.2.2.2 (m_wI kX1_init) rfl rfl rfl (S.2.2.2.2 (.initialized RX1) (m_mem (by decide +kernel))) (S.2.2.2.2 (.methodLink RX0 65 yX1_init) (m_mem (by decide +kernel))) (S.2.2.2.2 (.instanceMethod yX1_init) (m_mem (by decide +kernel))) rfl (by decide +kernel) ⟨by decide +kernel, by decide +kernel⟩) (m_preS hK hP) rfl rfl hl.1 rfl (lv_room (by first | decide | simp [m_rfc, m_catI, m_catL, m_catA])) dX0_rule_66 ⟨by decide +kernel, by decide +kernel⟩) hS (fun H locs hP hS => ?_)
          obtain ⟨a27, ea, g⟩ := m_bs h; clear h; subst ea; have h := g; clear g
          obtain ⟨_, k30, h⟩ := m_bs h
          obtain ⟨s28, e29, h⟩ := m_bs h
          refine m_aast (t := 3) S hK hP hS e29 (by decide) (m_is_s k30) rfl rfl dX0_rule_69 (fun H locs hP hS => ?_)
          refine lv_aload_n S.1 S.2.1 dX0_rule_70 rfl (lv_at hl 1 rfl) ?_
          refine lv_dup S.1 S.2.1 dX0_rule_71 rfl ?_
          obtain ⟨x31, e32, h⟩ := m_bs h
          refine m_get (ci := 0) (k := 2) (T := TX0) (N := 10) S (inX0 _) hK hP (m_gI_s e32) rfl (by decide) (S.2.2.2.2 (.fieldLink RX0 15 "RuleHouse2" "ruleCount" "I") (m_mem (by decide +kernel))) rfl dX0_rule_72 ?_
          refine lv_iconst (v := 1) S.1 S.2.1 dX0_rule_75 (by decide) ?_
          refine lv_iadd S.1 S.2.1 dX0_rule_76 ?_
          obtain ⟨s33, e34, h⟩ := m_bs h
          refine m_put (ci := 0) (k := 2) (T := TX0) (N := 10) (v := .int (x31 + 1)) (ty := .int) S (inX0 _) tyX0 tX0 nX0 hK hP hS e34 rfl (by decide) (S.2.2.2.2 (.fieldLink RX0 15 "RuleHouse2" "ruleCount" "I") (m_mem (by decide +kernel))) rfl rfl (by decide +kernel) rfl rfl dX0_rule_77 (fun H locs hP hS => ?_)
          refine lv_aload_n S.1 S.2.1 dX0_rule_80 rfl (lv_at hl 1 rfl) ?_
          obtain ⟨x35, e36, h⟩ := m_bs h
          refine m_get (ci := 0) (k := 2) (T := TX0) (N := 10) S (inX0 _) hK hP (m_gI_s e36) rfl (by decide) (S.2.2.2.2 (.fieldLink RX0 15 "RuleHouse2" "ruleCount" "I") (m_mem (by decide +kernel))) rfl dX0_rule_81 ?_
          refine lv_iconst (v := 1) S.1 S.2.1 dX0_rule_84 (by decide) ?_
          refine lv_isub S.1 S.2.1 dX0_rule_85 ?_
          obtain ⟨h1, h2⟩ := m_fin h; subst h1; subst h2
          exact m_iret S hr hlk hK hP hS (by decide +kernel) (by decide +kernel) dX0_rule_86
        · replace h := m_nn1 h
          refine lv_ifnull S.1 S.2.1 dX0_rule_51 ?_
          refine lv_aload S.1 S.2.1 dX0_rule_54 (lv_at hl 0 rfl) ?_
          refine lv_goto (tgt := 69) S.1 S.2.1 dX0_rule_56 (by decide) ?_
          obtain ⟨a37, ea, g⟩ := m_bs h; clear h; subst ea; have h := g; clear g
          obtain ⟨_, k40, h⟩ := m_bs h
          obtain ⟨s38, e39, h⟩ := m_bs h
          refine m_aast (t := 3) S hK hP hS e39 (by decide) (m_is_s k40) rfl rfl dX0_rule_69 (fun H locs hP hS => ?_)
          refine lv_aload_n S.1 S.2.1 dX0_rule_70 rfl (lv_at hl 1 rfl) ?_
          refine lv_dup S.1 S.2.1 dX0_rule_71 rfl ?_
          obtain ⟨x41, e42, h⟩ := m_bs h
          refine m_get (ci := 0) (k := 2) (T := TX0) (N := 10) S (inX0 _) hK hP (m_gI_s e42) rfl (by decide) (S.2.2.2.2 (.fieldLink RX0 15 "RuleHouse2" "ruleCount" "I") (m_mem (by decide +kernel))) rfl dX0_rule_72 ?_
          refine lv_iconst (v := 1) S.1 S.2.1 dX0_rule_75 (by decide) ?_
          refine lv_iadd S.1 S.2.1 dX0_rule_76 ?_
          obtain ⟨s43, e44, h⟩ := m_bs h
          refine m_put (ci := 0) (k := 2) (T := TX0) (N := 10) (v := .int (x41 + 1)) (ty := .int) S (inX0 _) tyX0 tX0 nX0 hK hP hS e44 rfl (by decide) (S.2.2.2.2 (.fieldLink RX0 15 "RuleHouse2" "ruleCount" "I") (m_mem (by decide +kernel))) rfl rfl (by decide +kernel) rfl rfl dX0_rule_77 (fun H locs hP hS => ?_)
          refine lv_aload_n S.1 S.2.1 dX0_rule_80 rfl (lv_at hl 1 rfl) ?_
          obtain ⟨x45, e46, h⟩ := m_bs h
          refine m_get (ci := 0) (k := 2) (T := TX0) (N := 10) S (inX0 _) hK hP (m_gI_s e46) rfl (by decide) (S.2.2.2.2 (.fieldLink RX0 15 "RuleHouse2" "ruleCount" "I") (m_mem (by decide +kernel))) rfl dX0_rule_81 ?_
          refine lv_iconst (v := 1) S.1 S.2.1 dX0_rule_84 (by decide) ?_
          refine lv_isub S.1 S.2.1 dX0_rule_85 ?_
          obtain ⟨h1, h2⟩ := m_fin h; subst h1; subst h2
          exact m_iret S hr hlk hK hP hS (by decide +kernel) (by decide +kernel) dX0_rule_86
      · replace h := m_f c11 h
        refine lv_bipush (v := (-4)) S.1 S.2.1 dX0_rule_30 (by decide) ?_
        obtain ⟨h1, h2⟩ := m_fin h; subst h1; subst h2
        exact m_iret S hr hlk hK hP hS (by decide +kernel) (by decide +kernel) dX0_rule_32
    · replace h := m_t c8 h
      refine lv_bipush (v := (-2)) S.1 S.2.1 dX0_rule_18 (by decide) ?_
      obtain ⟨h1, h2⟩ := m_fin h; subst h1; subst h2
      exact m_iret S hr hlk hK hP hS (by decide +kernel) (by decide +kernel) dX0_rule_20

def f_X0_ensureMade (t0 : Nat) (p1 : Option Nat) (s0 : MS) : Option (Int32 × MS) :=
  p1.bind fun a1 =>
  (m_gI s0 1 a1 3).bind fun x2 =>
  if x2 = 0 then
    (m_gI s0 1 a1 2).bind fun x9 =>
    if x9 = 0 then
      (m_p s0 1 a1 3 (.int 1)).bind fun s16 =>
      (m_gI s16 0 t0 3).bind fun x18 =>
      (m_p s16 1 a1 4 (.int x18)).bind fun s20 =>
      (m_gI s20 0 t0 3).bind fun x22 =>
      (m_p s20 0 t0 3 (.int (x22 + 1))).bind fun s24 =>
      (m_gI s24 1 a1 3).bind fun x26 =>
      (m_z x26).bind fun z28 =>
      some (z28, s24)
    else
      (m_gI s0 1 a1 3).bind fun x12 =>
      (m_z x12).bind fun z14 =>
      some (z14, s0)
  else
    (m_gI s0 1 a1 3).bind fun x5 =>
    (m_z x5).bind fun z7 =>
    some (z7, s0)
set_option maxHeartbeats 4000000 in
set_option maxRecDepth 100000 in
theorem c_X0_ensureMade (l : Launch) (D : va_G) (tc : Nat → ClassId) (b : Nat) (t0 : Nat) (p1 : Option Nat) (s0 st' : MS) (r : Int32) (h : f_X0_ensureMade t0 p1 s0 = some (r, st')) : Met l yX0_ensureMade wsX0_ensureMade ({ frames := 0, cells := 0, slots := 0, locals := 0 }) (m_Pc D vwCl (m_tys tc) b s0 [.ref t0, va_rf p1]) (m_Q D vwCl (m_tys tc) b (some (.int r)) st') 0 0 (m_A b) := by
  unfold f_X0_ensureMade at h
  refine m_met (cc := cX0_ensureMade) (maxL := 2) (ret := (some .boolean)) (by decide) rfl (by first | exact Nat.le_of_ble_eq_true rfl | simp [lg_sl, m_rfc, m_catI, m_catL, m_catA]) ?_
  intro p e s m below meth c ls S hr hlk hnm hK hP hl hS
  replace hl : lv_has ls 2 [(0, .ref t0), (1, va_rf p1)] := by first | exact hl | simpa [lv_args, m_rfc, m_catI, m_catL, m_catA] using hl
  refine m_aload_n S.1 S.2.1 dX0_ensureMade_0 rfl (lv_at hl 1 rfl) ?_
  obtain ⟨a1, ea, g⟩ := m_bs h; clear h; subst ea; have h := g; clear g
  obtain ⟨x2, e3, h⟩ := m_bs h
  refine m_get (ci := 1) (k := 3) (T := TX1) (N := 6) S (inX1 _) hK hP (m_gI_s e3) rfl (by decide) (S.2.2.2.2 (.fieldLink RX0 123 "RuleHouse2$RuleClass" "made" "Z") (m_mem (by decide +kernel))) rfl dX0_ensureMade_1 ?_
  refine lv_if_ne (tgt := 37) S.1 S.2.1 dX0_ensureMade_4 (by decide) (fun c4 => ?_) (fun c4 => ?_)
  · replace h := m_f c4 h
    refine lv_aload_n S.1 S.2.1 dX0_ensureMade_37 rfl (lv_at hl 1 rfl) ?_
    obtain ⟨x5, e6, h⟩ := m_bs h
    refine m_get (ci := 1) (k := 3) (T := TX1) (N := 6) S (inX1 _) hK hP (m_gI_s e6) rfl (by decide) (S.2.2.2.2 (.fieldLink RX0 123 "RuleHouse2$RuleClass" "made" "Z") (m_mem (by decide +kernel))) rfl dX0_ensureMade_38 ?_
    obtain ⟨z7, e8, h⟩ := m_bs h
    obtain ⟨hz, ne8⟩ := m_z_s e8; subst hz
    obtain ⟨h1, h2⟩ := m_fin h; subst h1; subst h2
    exact m_zret S hr hlk hK hP hS ne8.1 (by decide +kernel) (by decide +kernel) dX0_ensureMade_41
  · replace h := m_t c4 h
    refine lv_aload_n S.1 S.2.1 dX0_ensureMade_7 rfl (lv_at hl 1 rfl) ?_
    obtain ⟨x9, e10, h⟩ := m_bs h
    refine m_get (ci := 1) (k := 2) (T := TX1) (N := 6) S (inX1 _) hK hP (m_gI_s e10) rfl (by decide) (S.2.2.2.2 (.fieldLink RX0 153 "RuleHouse2$RuleClass" "startFails" "Z") (m_mem (by decide +kernel))) rfl dX0_ensureMade_8 ?_
    refine lv_if_ne (tgt := 37) S.1 S.2.1 dX0_ensureMade_11 (by decide) (fun c11 => ?_) (fun c11 => ?_)
    · replace h := m_f c11 h
      refine lv_aload_n S.1 S.2.1 dX0_ensureMade_37 rfl (lv_at hl 1 rfl) ?_
      obtain ⟨x12, e13, h⟩ := m_bs h
      refine m_get (ci := 1) (k := 3) (T := TX1) (N := 6) S (inX1 _) hK hP (m_gI_s e13) rfl (by decide) (S.2.2.2.2 (.fieldLink RX0 123 "RuleHouse2$RuleClass" "made" "Z") (m_mem (by decide +kernel))) rfl dX0_ensureMade_38 ?_
      obtain ⟨z14, e15, h⟩ := m_bs h
      obtain ⟨hz, ne15⟩ := m_z_s e15; subst hz
      obtain ⟨h1, h2⟩ := m_fin h; subst h1; subst h2
      exact m_zret S hr hlk hK hP hS ne15.1 (by decide +kernel) (by decide +kernel) dX0_ensureMade_41
    · replace h := m_t c11 h
      refine lv_aload_n S.1 S.2.1 dX0_ensureMade_14 rfl (lv_at hl 1 rfl) ?_
      refine lv_iconst (v := 1) S.1 S.2.1 dX0_ensureMade_15 (by decide) ?_
      obtain ⟨s16, e17, h⟩ := m_bs h
      refine m_put (ci := 1) (k := 3) (T := TX1) (N := 6) (v := .int 1) (ty := .boolean) S (inX1 _) tyX1 tX1 nX1 hK hP hS e17 rfl (by decide) (S.2.2.2.2 (.fieldLink RX0 123 "RuleHouse2$RuleClass" "made" "Z") (m_mem (by decide +kernel))) rfl rfl (by decide +kernel) (by decide) rfl dX0_ensureMade_16 (fun H locs hP hS => ?_)
      refine lv_aload_n S.1 S.2.1 dX0_ensureMade_19 rfl (lv_at hl 1 rfl) ?_
      refine lv_aload_n S.1 S.2.1 dX0_ensureMade_20 rfl (lv_at hl 0 rfl) ?_
      obtain ⟨x18, e19, h⟩ := m_bs h
      refine m_get (ci := 0) (k := 3) (T := TX0) (N := 10) S (inX0 _) hK hP (m_gI_s e19) rfl (by decide) (S.2.2.2.2 (.fieldLink RX0 19 "RuleHouse2" "madeCount" "I") (m_mem (by decide +kernel))) rfl dX0_ensureMade_21 ?_
      obtain ⟨s20, e21, h⟩ := m_bs h
      refine m_put (ci := 1) (k := 4) (T := TX1) (N := 6) (v := .int x18) (ty := .int) S (inX1 _) tyX1 tX1 nX1 hK hP hS e21 rfl (by decide) (S.2.2.2.2 (.fieldLink RX0 76 "RuleHouse2$RuleClass" "number" "I") (m_mem (by decide +kernel))) rfl rfl (by decide +kernel) rfl rfl dX0_ensureMade_24 (fun H locs hP hS => ?_)
      refine lv_aload_n S.1 S.2.1 dX0_ensureMade_27 rfl (lv_at hl 0 rfl) ?_
      refine lv_dup S.1 S.2.1 dX0_ensureMade_28 rfl ?_
      obtain ⟨x22, e23, h⟩ := m_bs h
      refine m_get (ci := 0) (k := 3) (T := TX0) (N := 10) S (inX0 _) hK hP (m_gI_s e23) rfl (by decide) (S.2.2.2.2 (.fieldLink RX0 19 "RuleHouse2" "madeCount" "I") (m_mem (by decide +kernel))) rfl dX0_ensureMade_29 ?_
      refine lv_iconst (v := 1) S.1 S.2.1 dX0_ensureMade_32 (by decide) ?_
      refine lv_iadd S.1 S.2.1 dX0_ensureMade_33 ?_
      obtain ⟨s24, e25, h⟩ := m_bs h
      refine m_put (ci := 0) (k := 3) (T := TX0) (N := 10) (v := .int (x22 + 1)) (ty := .int) S (inX0 _) tyX0 tX0 nX0 hK hP hS e25 rfl (by decide) (S.2.2.2.2 (.fieldLink RX0 19 "RuleHouse2" "madeCount" "I") (m_mem (by decide +kernel))) rfl rfl (by decide +kernel) rfl rfl dX0_ensureMade_34 (fun H locs hP hS => ?_)
      refine lv_aload_n S.1 S.2.1 dX0_ensureMade_37 rfl (lv_at hl 1 rfl) ?_
      obtain ⟨x26, e27, h⟩ := m_bs h
      refine m_get (ci := 1) (k := 3) (T := TX1) (N := 6) S (inX1 _) hK hP (m_gI_s e27) rfl (by decide) (S.2.2.2.2 (.fieldLink RX0 123 "RuleHouse2$RuleClass" "made" "Z") (m_mem (by decide +kernel))) rfl dX0_ensureMade_38 ?_
      obtain ⟨z28, e29, h⟩ := m_bs h
      obtain ⟨hz, ne29⟩ := m_z_s e29; subst hz
      obtain ⟨h1, h2⟩ := m_fin h; subst h1; subst h2
      exact m_zret S hr hlk hK hP hS ne29.1 (by decide +kernel) (by decide +kernel) dX0_ensureMade_41

def f_X0_make (t0 : Nat) (p1 : Int32) (s0 : MS) : Option (Int32 × MS) :=
  (m_is s0 0 t0).bind fun _ =>
  m_b (f_X0_classAt t0 p1 s0) fun r1 s2 =>
  m_nn r1
    (some ((-1), s2))
    (fun a5 =>
    (m_is s2 0 t0).bind fun _ =>
    m_b (f_X0_ensureMade t0 (some a5) s2) fun x6 s7 =>
    if x6 = 0 then
      some ((-1), s7)
    else
      (m_gI s7 1 a5 4).bind fun x11 =>
      some (x11, s7))
set_option maxHeartbeats 4000000 in
set_option maxRecDepth 100000 in
theorem c_X0_make (l : Launch) (D : va_G) (tc : Nat → ClassId) (b : Nat) (t0 : Nat) (p1 : Int32) (s0 st' : MS) (r : Int32) (h : f_X0_make t0 p1 s0 = some (r, st')) : Met l yX0_make wsX0_make ({ frames := 2, cells := 0, slots := 0, locals := 42 }) (m_Pc D vwCl (m_tys tc) b s0 [.ref t0, .int p1]) (m_Q D vwCl (m_tys tc) b (some (.int r)) st') 0 0 (m_A b) := by
  unfold f_X0_make at h
  refine m_met (cc := cX0_make) (maxL := 3) (ret := (some .int)) (by decide) rfl (by first | exact Nat.le_of_ble_eq_true rfl | simp [lg_sl, m_rfc, m_catI, m_catL, m_catA]) ?_
  intro p e s m below meth c ls S hr hlk hnm hK hP hl hS
  replace hl : lv_has ls 3 [(0, .ref t0), (1, .int p1)] := by first | exact hl | simpa [lv_args, m_rfc, m_catI, m_catL, m_catA] using hl
  refine lv_aload_n S.1 S.2.1 dX0_make_0 rfl (lv_at hl 0 rfl) ?_
  refine lv_iload_n S.1 S.2.1 dX0_make_1 rfl (lv_at hl 1 rfl) ?_
  obtain ⟨_, k4, h⟩ := m_bs h
  obtain ⟨r1, s2, e3, h⟩ := m_b_s h
  refine m_callr (va_runV (As := [.int p1]) (rest := []) S (c_X0_classAt l D tc b t0 p1 _ _ _ e3) (cwV 1 S.2.2.2.2 (m_wV kX0_classAt (by decide +kernel)) rfl rfl rfl (by decide +kernel) ⟨by decide +kernel, by decide +kernel⟩) (m_preV hK hP (m_is_s k4) rfl) rfl rfl hl.1 rfl (lv_room (by first | decide | simp [m_rfc, m_catI, m_catL, m_catA])) dX0_make_2 ⟨by decide +kernel, by decide +kernel⟩) hS (fun H locs hP hS => ?_)
  refine m_astore_n (i := 2) (lv' := [(2, va_rf r1), (0, .ref t0), (1, .int p1)]) S.1 S.2.1 dX0_make_5 rfl hl (by decide) (by first | rfl | simp [m_rfc, m_catI, m_catL, m_catA]) (fun ls hl => ?_)
  refine m_aload_n S.1 S.2.1 dX0_make_6 rfl (lv_at hl 0 rfl) ?_
  rcases r1 with _ | a5
  · replace h := m_nn0 h
    refine lv_ifnullN (tgt := 18) S.1 S.2.1 dX0_make_7 (by decide) ?_
    refine lv_iconst (v := (-1)) S.1 S.2.1 dX0_make_18 (by decide) ?_
    obtain ⟨h1, h2⟩ := m_fin h; subst h1; subst h2
    exact m_iret S hr hlk hK hP hS (by decide +kernel) (by decide +kernel) dX0_make_19
  · replace h := m_nn1 h
    refine lv_ifnull S.1 S.2.1 dX0_make_7 ?_
    refine lv_aload_n S.1 S.2.1 dX0_make_10 rfl (lv_at hl 1 rfl) ?_
    refine lv_aload_n S.1 S.2.1 dX0_make_11 rfl (lv_at hl 0 rfl) ?_
    obtain ⟨_, k9, h⟩ := m_bs h
    obtain ⟨x6, s7, e8, h⟩ := m_b_s h
    refine m_calli (va_runV (As := [va_rf (some a5)]) (rest := []) S (c_X0_ensureMade l D tc b t0 (some a5) _ _ _ e8) (cwV 1 S.2.2.2.2 (m_wV kX0_ensureMade (by decide +kernel)) rfl rfl rfl (by decide +kernel) ⟨by decide +kernel, by decide +kernel⟩) (m_preV hK hP (m_is_s k9) rfl) rfl rfl hl.1 rfl (lv_room (by first | decide | simp [m_rfc, m_catI, m_catL, m_catA])) dX0_make_12 ⟨by decide +kernel, by decide +kernel⟩) hS (fun H locs hP hS => ?_)
    refine lv_if_ne (tgt := 20) S.1 S.2.1 dX0_make_15 (by decide) (fun c10 => ?_) (fun c10 => ?_)
    · replace h := m_f c10 h
      refine lv_aload_n S.1 S.2.1 dX0_make_20 rfl (lv_at hl 0 rfl) ?_
      obtain ⟨x11, e12, h⟩ := m_bs h
      refine m_get (ci := 1) (k := 4) (T := TX1) (N := 6) S (inX1 _) hK hP (m_gI_s e12) rfl (by decide) (S.2.2.2.2 (.fieldLink RX0 76 "RuleHouse2$RuleClass" "number" "I") (m_mem (by decide +kernel))) rfl dX0_make_21 ?_
      obtain ⟨h1, h2⟩ := m_fin h; subst h1; subst h2
      exact m_iret S hr hlk hK hP hS (by decide +kernel) (by decide +kernel) dX0_make_24
    · replace h := m_t c10 h
      refine lv_iconst (v := (-1)) S.1 S.2.1 dX0_make_18 (by decide) ?_
      obtain ⟨h1, h2⟩ := m_fin h; subst h1; subst h2
      exact m_iret S hr hlk hK hP hS (by decide +kernel) (by decide +kernel) dX0_make_19

def f_X0_targetAt (t0 : Nat) (p1 : Int32) (s0 : MS) : Option (Option Nat × MS) :=
  (m_gI s0 0 t0 5).bind fun x1 =>
  m_b (f_X0_isWithin p1 (x1 - 1) s0) fun x3 s4 =>
  if x3 = 0 then
    some (none, s4)
  else
    (m_gR s4 0 t0 4).bind fun r7 =>
    r7.bind fun a9 =>
    (m_aR s4 4 a9 p1).bind fun r10 =>
    some (r10, s4)
set_option maxHeartbeats 4000000 in
set_option maxRecDepth 100000 in
theorem c_X0_targetAt (l : Launch) (D : va_G) (tc : Nat → ClassId) (b : Nat) (t0 : Nat) (p1 : Int32) (s0 st' : MS) (r : Option Nat) (h : f_X0_targetAt t0 p1 s0 = some (r, st')) : Met l yX0_targetAt wsX0_targetAt ({ frames := 1, cells := 0, slots := 0, locals := 21 }) (m_Pc D vwCl (m_tys tc) b s0 [.ref t0, .int p1]) (m_Q D vwCl (m_tys tc) b (some (va_rf r)) st') 0 0 (m_A b) := by
  unfold f_X0_targetAt at h
  refine m_met (cc := cX0_targetAt) (maxL := 2) (ret := (some (.object "RuleHouse2$Target"))) (by decide) rfl (by first | exact Nat.le_of_ble_eq_true rfl | simp [lg_sl, m_rfc, m_catI, m_catL, m_catA]) ?_
  intro p e s m below meth c ls S hr hlk hnm hK hP hl hS
  replace hl : lv_has ls 2 [(0, .ref t0), (1, .int p1)] := by first | exact hl | simpa [lv_args, m_rfc, m_catI, m_catL, m_catA] using hl
  refine lv_iload_n S.1 S.2.1 dX0_targetAt_0 rfl (lv_at hl 1 rfl) ?_
  refine lv_aload_n S.1 S.2.1 dX0_targetAt_1 rfl (lv_at hl 0 rfl) ?_
  obtain ⟨x1, e2, h⟩ := m_bs h
  refine m_get (ci := 0) (k := 5) (T := TX0) (N := 10) S (inX0 _) hK hP (m_gI_s e2) rfl (by decide) (S.2.2.2.2 (.fieldLink RX0 28 "RuleHouse2" "targetCount" "I") (m_mem (by decide +kernel))) rfl dX0_targetAt_2 ?_
  refine lv_iconst (v := 1) S.1 S.2.1 dX0_targetAt_5 (by decide) ?_
  refine lv_isub S.1 S.2.1 dX0_targetAt_6 ?_
  obtain ⟨x3, s4, e5, h⟩ := m_b_s h
  refine m_calli (va_runS (As := [.int p1, .int (x1 - 1)]) (rest := []) S (c_X0_isWithin l D tc b p1 (x1 - 1) _ _ _ e5) (cwS 2 S.2.2.2.2 (m_wS kX0_isWithin (by decide +kernel)) rfl rfl rfl (by decide +kernel) ⟨by decide +kernel, by decide +kernel⟩) (m_preS hK hP) rfl rfl hl.1 rfl (lv_room (by first | decide | simp [m_rfc, m_catI, m_catL, m_catA])) dX0_targetAt_7 ⟨by decide +kernel, by decide +kernel⟩) hS (fun H locs hP hS => ?_)
  refine lv_if_eq (tgt := 22) S.1 S.2.1 dX0_targetAt_10 (by decide) (fun c6 => ?_) (fun c6 => ?_)
  · replace h := m_t c6 h
    refine lv_null S.1 S.2.1 dX0_targetAt_22 ?_
    obtain ⟨h1, h2⟩ := m_fin h; subst h1; subst h2
    exact m_aret (r := none) S hr hlk hK hP hS (by decide +kernel) (by decide +kernel) dX0_targetAt_23
  · replace h := m_f c6 h
    refine lv_aload_n S.1 S.2.1 dX0_targetAt_13 rfl (lv_at hl 0 rfl) ?_
    obtain ⟨r7, e8, h⟩ := m_bs h
    refine m_get (ci := 0) (k := 4) (T := TX0) (N := 10) S (inX0 _) hK hP (m_gR_s e8) rfl (by decide) (S.2.2.2.2 (.fieldLink RX0 24 "RuleHouse2" "targets" "[LRuleHouse2$Target;") (m_mem (by decide +kernel))) rfl dX0_targetAt_14 ?_
    refine lv_iload_n S.1 S.2.1 dX0_targetAt_17 rfl (lv_at hl 1 rfl) ?_
    obtain ⟨a9, ea, g⟩ := m_bs h; clear h; subst ea; have h := g; clear g
    obtain ⟨r10, e11, h⟩ := m_bs h
    refine m_aald (t := 4) S hK hP (m_aR_s e11) rfl dX0_targetAt_18 ?_
    refine lv_goto (tgt := 23) S.1 S.2.1 dX0_targetAt_19 (by decide) ?_
    obtain ⟨h1, h2⟩ := m_fin h; subst h1; subst h2
    exact m_aret (r := r10) S hr hlk hK hP hS (by decide +kernel) (by decide +kernel) dX0_targetAt_23

def f_X0_mayBecome (p1 : Option Nat) (p2 : Int32) (p3 : Int32) (s0 : MS) : Option (Int32 × MS) :=
  if p2 = 0 then
    m_b (f_X0_isWithin p3 20 s0) fun x2 s3 =>
    (m_z x2).bind fun z5 =>
    some (z5, s3)
  else if p2 = 1 then
    some (1, s0)
  else if p2 = 2 then
    p1.bind fun a9 =>
    (m_gI s0 2 a9 0).bind fun x10 =>
    m_b (f_X0_isWithin p3 x10 s0) fun x12 s13 =>
    (m_z x12).bind fun z15 =>
    some (z15, s13)
  else if p2 = 3 then
    m_b (f_X0_isWithin p3 1 s0) fun x18 s19 =>
    (m_z x18).bind fun z21 =>
    some (z21, s19)
  else some (1, s0)
set_option maxHeartbeats 4000000 in
set_option maxRecDepth 100000 in
theorem c_X0_mayBecome (l : Launch) (D : va_G) (tc : Nat → ClassId) (b : Nat) (p1 : Option Nat) (p2 : Int32) (p3 : Int32) (s0 st' : MS) (r : Int32) (h : f_X0_mayBecome p1 p2 p3 s0 = some (r, st')) : Met l yX0_mayBecome wsX0_mayBecome ({ frames := 1, cells := 0, slots := 0, locals := 21 }) (m_Pc D vwCl (m_tys tc) b s0 [va_rf p1, .int p2, .int p3]) (m_Q D vwCl (m_tys tc) b (some (.int r)) st') 0 0 (m_A b) := by
  unfold f_X0_mayBecome at h
  refine m_met (cc := cX0_mayBecome) (maxL := 3) (ret := (some .boolean)) (by decide) rfl (by first | exact Nat.le_of_ble_eq_true rfl | simp [lg_sl, m_rfc, m_catI, m_catL, m_catA]) ?_
  intro p e s m below meth c ls S hr hlk hnm hK hP hl hS
  replace hl : lv_has ls 3 [(0, va_rf p1), (1, .int p2), (2, .int p3)] := by first | exact hl | simpa [lv_args, m_rfc, m_catI, m_catL, m_catA] using hl
  refine lv_iload_n S.1 S.2.1 dX0_mayBecome_0 rfl (lv_at hl 1 rfl) ?_
  by_cases c1 : p2 = 0
  · replace h := m_t c1 h
    refine lv_tableIn (tgt := 32) S.1 S.2.1 dX0_mayBecome_1 (by rw [c1]; decide) (by rw [c1]; decide) (by rw [c1]; rfl) (by decide) ?_
    refine lv_iload_n S.1 S.2.1 dX0_mayBecome_32 rfl (lv_at hl 2 rfl) ?_
    refine lv_bipush (v := 20) S.1 S.2.1 dX0_mayBecome_33 (by decide) ?_
    obtain ⟨x2, s3, e4, h⟩ := m_b_s h
    refine m_calli (va_runS (As := [.int p3, .int 20]) (rest := []) S (c_X0_isWithin l D tc b p3 20 _ _ _ e4) (cwS 2 S.2.2.2.2 (m_wS kX0_isWithin (by decide +kernel)) rfl rfl rfl (by decide +kernel) ⟨by decide +kernel, by decide +kernel⟩) (m_preS hK hP) rfl rfl hl.1 rfl (lv_room (by first | decide | simp [m_rfc, m_catI, m_catL, m_catA])) dX0_mayBecome_35 ⟨by decide +kernel, by decide +kernel⟩) hS (fun H locs hP hS => ?_)
    obtain ⟨z5, e6, h⟩ := m_bs h
    obtain ⟨hz, ne6⟩ := m_z_s e6; subst hz
    obtain ⟨h1, h2⟩ := m_fin h; subst h1; subst h2
    exact m_zret S hr hlk hK hP hS ne6.1 (by decide +kernel) (by decide +kernel) dX0_mayBecome_38
  replace h := m_f c1 h
  by_cases c7 : p2 = 1
  · replace h := m_t c7 h
    refine lv_tableIn (tgt := 54) S.1 S.2.1 dX0_mayBecome_1 (by rw [c7]; decide) (by rw [c7]; decide) (by rw [c7]; rfl) (by decide) ?_
    refine lv_iconst (v := 1) S.1 S.2.1 dX0_mayBecome_54 (by decide) ?_
    obtain ⟨h1, h2⟩ := m_fin h; subst h1; subst h2
    exact m_zret S hr hlk hK hP hS (by decide) (by decide +kernel) (by decide +kernel) dX0_mayBecome_55
  replace h := m_f c7 h
  by_cases c8 : p2 = 2
  · replace h := m_t c8 h
    refine lv_tableIn (tgt := 39) S.1 S.2.1 dX0_mayBecome_1 (by rw [c8]; decide) (by rw [c8]; decide) (by rw [c8]; rfl) (by decide) ?_
    refine lv_iload_n S.1 S.2.1 dX0_mayBecome_39 rfl (lv_at hl 2 rfl) ?_
    refine m_aload_n S.1 S.2.1 dX0_mayBecome_40 rfl (lv_at hl 0 rfl) ?_
    obtain ⟨a9, ea, g⟩ := m_bs h; clear h; subst ea; have h := g; clear g
    obtain ⟨x10, e11, h⟩ := m_bs h
    refine m_get (ci := 2) (k := 0) (T := TX2) (N := 12) S (inX2 _) hK hP (m_gI_s e11) rfl (by decide) (S.2.2.2.2 (.fieldLink RX0 156 "RuleHouse2$Target" "number" "I") (m_mem (by decide +kernel))) rfl dX0_mayBecome_41 ?_
    obtain ⟨x12, s13, e14, h⟩ := m_b_s h
    refine m_calli (va_runS (As := [.int p3, .int x10]) (rest := []) S (c_X0_isWithin l D tc b p3 x10 _ _ _ e14) (cwS 2 S.2.2.2.2 (m_wS kX0_isWithin (by decide +kernel)) rfl rfl rfl (by decide +kernel) ⟨by decide +kernel, by decide +kernel⟩) (m_preS hK hP) rfl rfl hl.1 rfl (lv_room (by first | decide | simp [m_rfc, m_catI, m_catL, m_catA])) dX0_mayBecome_44 ⟨by decide +kernel, by decide +kernel⟩) hS (fun H locs hP hS => ?_)
    obtain ⟨z15, e16, h⟩ := m_bs h
    obtain ⟨hz, ne16⟩ := m_z_s e16; subst hz
    obtain ⟨h1, h2⟩ := m_fin h; subst h1; subst h2
    exact m_zret S hr hlk hK hP hS ne16.1 (by decide +kernel) (by decide +kernel) dX0_mayBecome_47
  replace h := m_f c8 h
  by_cases c17 : p2 = 3
  · replace h := m_t c17 h
    refine lv_tableIn (tgt := 48) S.1 S.2.1 dX0_mayBecome_1 (by rw [c17]; decide) (by rw [c17]; decide) (by rw [c17]; rfl) (by decide) ?_
    refine lv_iload_n S.1 S.2.1 dX0_mayBecome_48 rfl (lv_at hl 2 rfl) ?_
    refine lv_iconst (v := 1) S.1 S.2.1 dX0_mayBecome_49 (by decide) ?_
    obtain ⟨x18, s19, e20, h⟩ := m_b_s h
    refine m_calli (va_runS (As := [.int p3, .int 1]) (rest := []) S (c_X0_isWithin l D tc b p3 1 _ _ _ e20) (cwS 2 S.2.2.2.2 (m_wS kX0_isWithin (by decide +kernel)) rfl rfl rfl (by decide +kernel) ⟨by decide +kernel, by decide +kernel⟩) (m_preS hK hP) rfl rfl hl.1 rfl (lv_room (by first | decide | simp [m_rfc, m_catI, m_catL, m_catA])) dX0_mayBecome_50 ⟨by decide +kernel, by decide +kernel⟩) hS (fun H locs hP hS => ?_)
    obtain ⟨z21, e22, h⟩ := m_bs h
    obtain ⟨hz, ne22⟩ := m_z_s e22; subst hz
    obtain ⟨h1, h2⟩ := m_fin h; subst h1; subst h2
    exact m_zret S hr hlk hK hP hS ne22.1 (by decide +kernel) (by decide +kernel) dX0_mayBecome_53
  replace h := m_f c17 h
  have nc17 := (⟨lv_neT (a := 0) c1 (by decide), lv_neT (a := 1) c7 (by decide), lv_neT (a := 2) c8 (by decide), lv_neT (a := 3) c17 (by decide)⟩ : ¬ (p2).toInt = 0 ∧ ¬ (p2).toInt = 1 ∧ ¬ (p2).toInt = 2 ∧ ¬ (p2).toInt = 3)
  refine lv_tableOut (tgt := 54) S.1 S.2.1 dX0_mayBecome_1 (by omega) (by decide) ?_
  refine lv_iconst (v := 1) S.1 S.2.1 dX0_mayBecome_54 (by decide) ?_
  obtain ⟨h1, h2⟩ := m_fin h; subst h1; subst h2
  exact m_zret S hr hlk hK hP hS (by decide) (by decide +kernel) (by decide +kernel) dX0_mayBecome_55
