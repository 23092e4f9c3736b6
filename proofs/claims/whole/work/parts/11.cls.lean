def f_X0_attribute (t0 : Nat) (p1 : Int32) (p2 : Int32) (p3 : Int32) (s0 : MS) : Option (Int32 × MS) :=
  (m_is s0 0 t0).bind fun _ =>
  m_b (f_X0_targetAt t0 p1 s0) fun r1 s2 =>
  m_nn r1
    (some ((-1), s2))
    (fun a5 =>
    m_b (f_X0_isWithin p2 3 s2) fun x6 s7 =>
    if x6 = 0 then
      some ((-1), s7)
    else
      m_b (f_X0_mayBecome (some a5) p2 p3 s7) fun x10 s11 =>
      if x10 = 0 then
        some ((-2), s11)
      else
        (m_gI s11 2 a5 5).bind fun x14 =>
        if x14 = 0 then
          (m_gR s11 2 a5 2).bind fun r17 =>
          r17.bind fun a19 =>
          (m_aI s11 1 a19 p2).bind fun x20 =>
          (m_gR s11 2 a5 2).bind fun r22 =>
          r22.bind fun a24 =>
          (m_ap s11 1 a24 p2 (.int p3)).bind fun s25 =>
          some (x20, s25)
        else
          some ((-3), s11))
set_option maxHeartbeats 4000000 in
set_option maxRecDepth 100000 in
theorem c_X0_attribute (l : Launch) (D : va_G) (tc : Nat → ClassId) (b : Nat) (t0 : Nat) (p1 : Int32) (p2 : Int32) (p3 : Int32) (s0 st' : MS) (r : Int32) (h : f_X0_attribute t0 p1 p2 p3 s0 = some (r, st')) : Met l yX0_attribute wsX0_attribute ({ frames := 2, cells := 0, slots := 0, locals := 43 }) (m_Pc D vwCl (m_tys tc) b s0 [.ref t0, .int p1, .int p2, .int p3]) (m_Q D vwCl (m_tys tc) b (some (.int r)) st') 0 0 (m_A b) := by
  unfold f_X0_attribute at h
  refine m_met (cc := cX0_attribute) (maxL := 6) (ret := (some .int)) (by decide) rfl (by first | exact Nat.le_of_ble_eq_true rfl | simp [lg_sl, m_rfc, m_catI, m_catL, m_catA]) ?_
  intro p e s m below meth c ls S hr hlk hnm hK hP hl hS
  replace hl : lv_has ls 6 [(0, .ref t0), (1, .int p1), (2, .int p2), (3, .int p3)] := by first | exact hl | simpa [lv_args, m_rfc, m_catI, m_catL, m_catA] using hl
  refine lv_aload_n S.1 S.2.1 dX0_attribute_0 rfl (lv_at hl 0 rfl) ?_
  refine lv_iload_n S.1 S.2.1 dX0_attribute_1 rfl (lv_at hl 1 rfl) ?_
  obtain ⟨_, k4, h⟩ := m_bs h
  obtain ⟨r1, s2, e3, h⟩ := m_b_s h
  refine m_callr (va_runV (As := [.int p1]) (rest := []) S (c_X0_targetAt l D tc b t0 p1 _ _ _ e3) (cwV 1 S.2.2.2.2 (m_wV kX0_targetAt (by decide +kernel)) rfl rfl rfl (by decide +kernel) ⟨by decide +kernel, by decide +kernel⟩) (m_preV hK hP (m_is_s k4) rfl) rfl rfl hl.1 rfl (lv_room (by first | decide | simp [m_rfc, m_catI, m_catL, m_catA])) dX0_attribute_2 ⟨by decide +kernel, by decide +kernel⟩) hS (fun H locs hP hS => ?_)
  refine m_astore (i := 4) (lv' := [(4, va_rf r1), (0, .ref t0), (1, .int p1), (2, .int p2), (3, .int p3)]) S.1 S.2.1 dX0_attribute_5 hl (by decide) (by first | rfl | simp [m_rfc, m_catI, m_catL, m_catA]) (fun ls hl => ?_)
  refine m_aload S.1 S.2.1 dX0_attribute_7 (lv_at hl 0 rfl) ?_
  rcases r1 with _ | a5
  · replace h := m_nn0 h
    refine lv_ifnullN (tgt := 20) S.1 S.2.1 dX0_attribute_9 (by decide) ?_
    refine lv_iconst (v := (-1)) S.1 S.2.1 dX0_attribute_20 (by decide) ?_
    obtain ⟨h1, h2⟩ := m_fin h; subst h1; subst h2
    exact m_iret S hr hlk hK hP hS (by decide +kernel) (by decide +kernel) dX0_attribute_21
  · replace h := m_nn1 h
    refine lv_ifnull S.1 S.2.1 dX0_attribute_9 ?_
    refine lv_iload_n S.1 S.2.1 dX0_attribute_12 rfl (lv_at hl 3 rfl) ?_
    refine lv_iconst (v := 3) S.1 S.2.1 dX0_attribute_13 (by decide) ?_
    obtain ⟨x6, s7, e8, h⟩ := m_b_s h
    refine m_calli (va_runS (As := [.int p2, .int 3]) (rest := []) S (c_X0_isWithin l D tc b p2 3 _ _ _ e8) (cwS 2 S.2.2.2.2 (m_wS kX0_isWithin (by decide +kernel)) rfl rfl rfl (by decide +kernel) ⟨by decide +kernel, by decide +kernel⟩) (m_preS hK hP) rfl rfl hl.1 rfl (lv_room (by first | decide | simp [m_rfc, m_catI, m_catL, m_catA])) dX0_attribute_14 ⟨by decide +kernel, by decide +kernel⟩) hS (fun H locs hP hS => ?_)
    refine lv_if_ne (tgt := 22) S.1 S.2.1 dX0_attribute_17 (by decide) (fun c9 => ?_) (fun c9 => ?_)
    · replace h := m_f c9 h
      refine lv_aload S.1 S.2.1 dX0_attribute_22 (lv_at hl 0 rfl) ?_
      refine lv_iload_n S.1 S.2.1 dX0_attribute_24 rfl (lv_at hl 3 rfl) ?_
      refine lv_iload_n S.1 S.2.1 dX0_attribute_25 rfl (lv_at hl 4 rfl) ?_
      obtain ⟨x10, s11, e12, h⟩ := m_b_s h
      refine m_calli (va_runS (As := [va_rf (some a5), .int p2, .int p3]) (rest := []) S (c_X0_mayBecome l D tc b (some a5) p2 p3 _ _ _ e12) (cwS 3 S.2.2.2.2 (m_wS kX0_mayBecome (by decide +kernel)) rfl rfl rfl (by decide +kernel) ⟨by decide +kernel, by decide +kernel⟩) (m_preS hK hP) rfl rfl hl.1 rfl (lv_room (by first | decide | simp [m_rfc, m_catI, m_catL, m_catA])) dX0_attribute_26 ⟨by decide +kernel, by decide +kernel⟩) hS (fun H locs hP hS => ?_)
      refine lv_if_ne (tgt := 35) S.1 S.2.1 dX0_attribute_29 (by decide) (fun c13 => ?_) (fun c13 => ?_)
      · replace h := m_f c13 h
        refine lv_aload S.1 S.2.1 dX0_attribute_35 (lv_at hl 0 rfl) ?_
        obtain ⟨x14, e15, h⟩ := m_bs h
        refine m_get (ci := 2) (k := 5) (T := TX2) (N := 12) S (inX2 _) hK hP (m_gI_s e15) rfl (by decide) (S.2.2.2.2 (.fieldLink RX0 87 "RuleHouse2$Target" "wasRun" "Z") (m_mem (by decide +kernel))) rfl dX0_attribute_37 ?_
        refine lv_if_eq (tgt := 46) S.1 S.2.1 dX0_attribute_40 (by decide) (fun c16 => ?_) (fun c16 => ?_)
        · replace h := m_t c16 h
          refine lv_aload S.1 S.2.1 dX0_attribute_46 (lv_at hl 0 rfl) ?_
          obtain ⟨r17, e18, h⟩ := m_bs h
          refine m_get (ci := 2) (k := 2) (T := TX2) (N := 12) S (inX2 _) hK hP (m_gR_s e18) rfl (by decide) (S.2.2.2.2 (.fieldLink RX0 91 "RuleHouse2$Target" "attributes" "[I") (m_mem (by decide +kernel))) rfl dX0_attribute_48 ?_
          refine lv_iload_n S.1 S.2.1 dX0_attribute_51 rfl (lv_at hl 3 rfl) ?_
          obtain ⟨a19, ea, g⟩ := m_bs h; clear h; subst ea; have h := g; clear g
          obtain ⟨x20, e21, h⟩ := m_bs h
          refine m_iald (t := 1) S hK hP (m_aI_s e21) rfl dX0_attribute_52 ?_
          refine lv_istore (i := 5) (lv' := [(5, .int x20), (4, .ref a5), (0, .ref t0), (1, .int p1), (2, .int p2), (3, .int p3)]) S.1 S.2.1 dX0_attribute_53 hl (by decide) (by first | rfl | simp [m_rfc, m_catI, m_catL, m_catA]) (fun ls hl => ?_)
          refine lv_aload S.1 S.2.1 dX0_attribute_55 (lv_at hl 1 rfl) ?_
          obtain ⟨r22, e23, h⟩ := m_bs h
          refine m_get (ci := 2) (k := 2) (T := TX2) (N := 12) S (inX2 _) hK hP (m_gR_s e23) rfl (by decide) (S.2.2.2.2 (.fieldLink RX0 91 "RuleHouse2$Target" "attributes" "[I") (m_mem (by decide +kernel))) rfl dX0_attribute_57 ?_
          refine lv_iload_n S.1 S.2.1 dX0_attribute_60 rfl (lv_at hl 4 rfl) ?_
          refine lv_iload_n S.1 S.2.1 dX0_attribute_61 rfl (lv_at hl 5 rfl) ?_
          obtain ⟨a24, ea, g⟩ := m_bs h; clear h; subst ea; have h := g; clear g
          obtain ⟨s25, e26, h⟩ := m_bs h
          refine m_iast (t := 1) S hK hP hS e26 (by decide) rfl dX0_attribute_62 (fun H locs hP hS => ?_)
          refine lv_iload S.1 S.2.1 dX0_attribute_63 (lv_at hl 0 rfl) ?_
          obtain ⟨h1, h2⟩ := m_fin h; subst h1; subst h2
          exact m_iret S hr hlk hK hP hS (by decide +kernel) (by decide +kernel) dX0_attribute_65
        · replace h := m_f c16 h
          refine lv_bipush (v := (-3)) S.1 S.2.1 dX0_attribute_43 (by decide) ?_
          obtain ⟨h1, h2⟩ := m_fin h; subst h1; subst h2
          exact m_iret S hr hlk hK hP hS (by decide +kernel) (by decide +kernel) dX0_attribute_45
      · replace h := m_t c13 h
        refine lv_bipush (v := (-2)) S.1 S.2.1 dX0_attribute_32 (by decide) ?_
        obtain ⟨h1, h2⟩ := m_fin h; subst h1; subst h2
        exact m_iret S hr hlk hK hP hS (by decide +kernel) (by decide +kernel) dX0_attribute_34
    · replace h := m_t c9 h
      refine lv_iconst (v := (-1)) S.1 S.2.1 dX0_attribute_20 (by decide) ?_
      obtain ⟨h1, h2⟩ := m_fin h; subst h1; subst h2
      exact m_iret S hr hlk hK hP hS (by decide +kernel) (by decide +kernel) dX0_attribute_21

def f_X2_init (t0 : Nat) (p1 : Int32) (p2 : Option Nat) (s0 : MS) : Option (Unit × MS) :=
  m_nw s0 (.inr (1, 4)) (fun _ => defaultValue .int) fun a1 s2 =>
  (m_p s2 2 t0 2 (.ref a1)).bind fun s4 =>
  m_nw s4 (.inr (1, 3)) (fun _ => defaultValue .int) fun a6 s7 =>
  (m_p s7 2 t0 3 (.ref a6)).bind fun s9 =>
  m_nw s9 (.inr (2, 3)) (fun _ => defaultValue .boolean) fun a11 s12 =>
  (m_p s12 2 t0 4 (.ref a11)).bind fun s14 =>
  (m_p s14 2 t0 5 (.int 0)).bind fun s16 =>
  (m_p s16 2 t0 6 (.int 0)).bind fun s18 =>
  (m_p s18 2 t0 7 (.int 0)).bind fun s20 =>
  (m_p s20 2 t0 8 (.int 0)).bind fun s22 =>
  (m_p s22 2 t0 9 (.int 0)).bind fun s24 =>
  (m_p s24 2 t0 10 (.int 0)).bind fun s26 =>
  (m_p s26 2 t0 11 (.int 0)).bind fun s28 =>
  (m_p s28 2 t0 0 (.int p1)).bind fun s30 =>
  (m_p s30 2 t0 1 (va_rf p2)).bind fun s32 =>
  some ((), s32)
set_option maxHeartbeats 4000000 in
set_option maxRecDepth 100000 in
theorem c_X2_init (l : Launch) (D : va_G) (tc : Nat → ClassId) (b : Nat) (t0 : Nat) (p1 : Int32) (p2 : Option Nat) (s0 st' : MS) (r : Unit) (h : f_X2_init t0 p1 p2 s0 = some (r, st')) : Met l yX2_init wsX2_init ({ frames := 1, cells := 3, slots := 10, locals := 12 }) (m_Pc D vwCl (m_tys tc) b s0 [.ref t0, .int p1, va_rf p2]) (m_Q D vwCl (m_tys tc) b none st') 3 10 (m_A b) := by
  unfold f_X2_init at h
  refine m_met (cc := cX2_init) (maxL := 3) (ret := none) (by decide) rfl (by first | exact Nat.le_of_ble_eq_true rfl | simp [lg_sl, m_rfc, m_catI, m_catL, m_catA]) ?_
  intro p e s m below meth c ls S hr hlk hnm hK hP hl hS
  replace hl : lv_has ls 3 [(0, .ref t0), (1, .int p1), (2, va_rf p2)] := by first | exact hl | simpa [lv_args, m_rfc, m_catI, m_catL, m_catA] using hl
  refine lv_aload_n S.1 S.2.1 dX2_init_0 rfl (lv_at hl 0 rfl) ?_
  refine W.objInit S.1 S.2.1 S.2.2.2.1 (S.2.2.2.2 (.methodLink RX2 3 objectInit) (m_mem (by decide +kernel))) (S.2.2.2.2 (.instanceMethod objectInit) (m_mem (by decide +kernel))) (S.2.2.2.2 (.code objectInit ⟨#[0xb1]⟩ 1 none) (m_mem (by decide +kernel))) rfl (by rw [S.2.2.1]; exact hl.1) rfl dX2_init_1 (Nat.le_of_ble_eq_true rfl) (Nat.le_of_ble_eq_true rfl) ?_
  refine W.eq (g2 := F0 m 4 ls []) rfl ?_
  refine lv_aload_n S.1 S.2.1 dX2_init_4 rfl (lv_at hl 0 rfl) ?_
  refine lv_iconst (v := 4) S.1 S.2.1 dX2_init_5 (by decide) ?_
  obtain ⟨a1, s2, e3, h⟩ := m_nw_s h
  refine m_newa (t := 1) (N := 4) (i := 4) (atype := .int) (ty := .int) (cA := tc 1) S (S.2.2.2.2 (.arrayClass .int) (m_mem (by decide +kernel))) rfl hK hP hS rfl (by decide +kernel) (by decide +kernel) (by decide +kernel) (by decide +kernel) (by decide +kernel) e3 dX2_init_6 (fun H hP hS => ?_)
  obtain ⟨s4, e5, h⟩ := m_bs h
  refine m_putF (ci := 2) (k := 2) (T := TX2) (N := 12) (v := .ref a1) (ty := (.array .int)) S (inX2 _) tyX2 tX2 nX2 hK hP hS e5 rfl (by decide) (S.2.2.2.2 (.fieldLink RX2 9 "RuleHouse2$Target" "attributes" "[I") (m_mem (by decide +kernel))) rfl rfl hnm rfl (by decide +kernel) rfl rfl dX2_init_8 (fun H locs hP hS => ?_)
  refine lv_aload_n S.1 S.2.1 dX2_init_11 rfl (lv_at hl 0 rfl) ?_
  refine lv_iconst (v := 3) S.1 S.2.1 dX2_init_12 (by decide) ?_
  obtain ⟨a6, s7, e8, h⟩ := m_nw_s h
  refine m_newa (t := 1) (N := 3) (i := 3) (atype := .int) (ty := .int) (cA := tc 1) S (S.2.2.2.2 (.arrayClass .int) (m_mem (by decide +kernel))) rfl hK hP hS rfl (by decide +kernel) (by decide +kernel) (by decide +kernel) (by decide +kernel) (by decide +kernel) e8 dX2_init_13 (fun H hP hS => ?_)
  obtain ⟨s9, e10, h⟩ := m_bs h
  refine m_putF (ci := 2) (k := 3) (T := TX2) (N := 12) (v := .ref a6) (ty := (.array .int)) S (inX2 _) tyX2 tX2 nX2 hK hP hS e10 rfl (by decide) (S.2.2.2.2 (.fieldLink RX2 15 "RuleHouse2$Target" "providers" "[I") (m_mem (by decide +kernel))) rfl rfl hnm rfl (by decide +kernel) rfl rfl dX2_init_15 (fun H locs hP hS => ?_)
  refine lv_aload_n S.1 S.2.1 dX2_init_18 rfl (lv_at hl 0 rfl) ?_
  refine lv_iconst (v := 3) S.1 S.2.1 dX2_init_19 (by decide) ?_
  obtain ⟨a11, s12, e13, h⟩ := m_nw_s h
  refine m_newa (t := 2) (N := 3) (i := 3) (atype := .boolean) (ty := .boolean) (cA := tc 2) S (S.2.2.2.2 (.arrayClass .boolean) (m_mem (by decide +kernel))) rfl hK hP hS rfl (by decide +kernel) (by decide +kernel) (by decide +kernel) (by decide +kernel) (by decide +kernel) e13 dX2_init_20 (fun H hP hS => ?_)
  obtain ⟨s14, e15, h⟩ := m_bs h
  refine m_putF (ci := 2) (k := 4) (T := TX2) (N := 12) (v := .ref a11) (ty := (.array .boolean)) S (inX2 _) tyX2 tX2 nX2 hK hP hS e15 rfl (by decide) (S.2.2.2.2 (.fieldLink RX2 18 "RuleHouse2$Target" "has" "[Z") (m_mem (by decide +kernel))) rfl rfl hnm rfl (by decide +kernel) rfl rfl dX2_init_22 (fun H locs hP hS => ?_)
  refine lv_aload_n S.1 S.2.1 dX2_init_25 rfl (lv_at hl 0 rfl) ?_
  refine lv_iconst (v := 0) S.1 S.2.1 dX2_init_26 (by decide) ?_
  obtain ⟨s16, e17, h⟩ := m_bs h
  refine m_put (ci := 2) (k := 5) (T := TX2) (N := 12) (v := .int 0) (ty := .boolean) S (inX2 _) tyX2 tX2 nX2 hK hP hS e17 rfl (by decide) (S.2.2.2.2 (.fieldLink RX2 22 "RuleHouse2$Target" "wasRun" "Z") (m_mem (by decide +kernel))) rfl rfl (by decide +kernel) (by decide) rfl dX2_init_27 (fun H locs hP hS => ?_)
  refine lv_aload_n S.1 S.2.1 dX2_init_30 rfl (lv_at hl 0 rfl) ?_
  refine lv_iconst (v := 0) S.1 S.2.1 dX2_init_31 (by decide) ?_
  obtain ⟨s18, e19, h⟩ := m_bs h
  refine m_put (ci := 2) (k := 6) (T := TX2) (N := 12) (v := .int 0) (ty := .boolean) S (inX2 _) tyX2 tX2 nX2 hK hP hS e19 rfl (by decide) (S.2.2.2.2 (.fieldLink RX2 26 "RuleHouse2$Target" "outputDeclared" "Z") (m_mem (by decide +kernel))) rfl rfl (by decide +kernel) (by decide) rfl dX2_init_32 (fun H locs hP hS => ?_)
  refine lv_aload_n S.1 S.2.1 dX2_init_35 rfl (lv_at hl 0 rfl) ?_
  refine lv_iconst (v := 0) S.1 S.2.1 dX2_init_36 (by decide) ?_
  obtain ⟨s20, e21, h⟩ := m_bs h
  refine m_put (ci := 2) (k := 7) (T := TX2) (N := 12) (v := .int 0) (ty := .int) S (inX2 _) tyX2 tX2 nX2 hK hP hS e21 rfl (by decide) (S.2.2.2.2 (.fieldLink RX2 29 "RuleHouse2$Target" "steps" "I") (m_mem (by decide +kernel))) rfl rfl (by decide +kernel) rfl rfl dX2_init_37 (fun H locs hP hS => ?_)
  refine lv_aload_n S.1 S.2.1 dX2_init_40 rfl (lv_at hl 0 rfl) ?_
  refine lv_iconst (v := 0) S.1 S.2.1 dX2_init_41 (by decide) ?_
  obtain ⟨s22, e23, h⟩ := m_bs h
  refine m_put (ci := 2) (k := 8) (T := TX2) (N := 12) (v := .int 0) (ty := .int) S (inX2 _) tyX2 tX2 nX2 hK hP hS e23 rfl (by decide) (S.2.2.2.2 (.fieldLink RX2 33 "RuleHouse2$Target" "actions" "I") (m_mem (by decide +kernel))) rfl rfl (by decide +kernel) rfl rfl dX2_init_42 (fun H locs hP hS => ?_)
  refine lv_aload_n S.1 S.2.1 dX2_init_45 rfl (lv_at hl 0 rfl) ?_
  refine lv_iconst (v := 0) S.1 S.2.1 dX2_init_46 (by decide) ?_
  obtain ⟨s24, e25, h⟩ := m_bs h
  refine m_put (ci := 2) (k := 9) (T := TX2) (N := 12) (v := .int 0) (ty := .int) S (inX2 _) tyX2 tX2 nX2 hK hP hS e25 rfl (by decide) (S.2.2.2.2 (.fieldLink RX2 36 "RuleHouse2$Target" "failure" "I") (m_mem (by decide +kernel))) rfl rfl (by decide +kernel) rfl rfl dX2_init_47 (fun H locs hP hS => ?_)
  refine lv_aload_n S.1 S.2.1 dX2_init_50 rfl (lv_at hl 0 rfl) ?_
  refine lv_iconst (v := 0) S.1 S.2.1 dX2_init_51 (by decide) ?_
  obtain ⟨s26, e27, h⟩ := m_bs h
  refine m_put (ci := 2) (k := 10) (T := TX2) (N := 12) (v := .int 0) (ty := .int) S (inX2 _) tyX2 tX2 nX2 hK hP hS e27 rfl (by decide) (S.2.2.2.2 (.fieldLink RX2 39 "RuleHouse2$Target" "failedBit" "I") (m_mem (by decide +kernel))) rfl rfl (by decide +kernel) rfl rfl dX2_init_52 (fun H locs hP hS => ?_)
  refine lv_aload_n S.1 S.2.1 dX2_init_55 rfl (lv_at hl 0 rfl) ?_
  refine lv_iconst (v := 0) S.1 S.2.1 dX2_init_56 (by decide) ?_
  obtain ⟨s28, e29, h⟩ := m_bs h
  refine m_put (ci := 2) (k := 11) (T := TX2) (N := 12) (v := .int 0) (ty := .int) S (inX2 _) tyX2 tX2 nX2 hK hP hS e29 rfl (by decide) (S.2.2.2.2 (.fieldLink RX2 42 "RuleHouse2$Target" "failureBegan" "I") (m_mem (by decide +kernel))) rfl rfl (by decide +kernel) rfl rfl dX2_init_57 (fun H locs hP hS => ?_)
  refine lv_aload_n S.1 S.2.1 dX2_init_60 rfl (lv_at hl 0 rfl) ?_
  refine lv_iload_n S.1 S.2.1 dX2_init_61 rfl (lv_at hl 1 rfl) ?_
  obtain ⟨s30, e31, h⟩ := m_bs h
  refine m_putF (ci := 2) (k := 0) (T := TX2) (N := 12) (v := .int p1) (ty := .int) S (inX2 _) tyX2 tX2 nX2 hK hP hS e31 rfl (by decide) (S.2.2.2.2 (.fieldLink RX2 45 "RuleHouse2$Target" "number" "I") (m_mem (by decide +kernel))) rfl rfl hnm rfl (by decide +kernel) rfl rfl dX2_init_62 (fun H locs hP hS => ?_)
  refine lv_aload_n S.1 S.2.1 dX2_init_65 rfl (lv_at hl 0 rfl) ?_
  refine m_aload_n S.1 S.2.1 dX2_init_66 rfl (lv_at hl 2 rfl) ?_
  obtain ⟨s32, e33, h⟩ := m_bs h
  refine m_putF (ci := 2) (k := 1) (T := TX2) (N := 12) (v := va_rf p2) (ty := (.object "RuleHouse2$RuleClass")) S (inX2 _) tyX2 tX2 nX2 hK hP hS e33 rfl (by decide) (S.2.2.2.2 (.fieldLink RX2 48 "RuleHouse2$Target" "ruleClass" "LRuleHouse2$RuleClass;") (m_mem (by decide +kernel))) rfl rfl hnm rfl (by decide +kernel) (m_rff _ _).1 (m_rff _ _).2 dX2_init_67 (fun H locs hP hS => ?_)
  obtain ⟨h1, h2⟩ := m_fin h; subst h1; subst h2
  exact m_vret S hr hlk hK hP hS (by decide +kernel) (by decide +kernel) dX2_init_70

def f_X0_target (t0 : Nat) (p1 : Int32) (s0 : MS) : Option (Int32 × MS) :=
  (m_is s0 0 t0).bind fun _ =>
  m_b (f_X0_classAt t0 p1 s0) fun r1 s2 =>
  m_nn r1
    (some ((-1), s2))
    (fun a5 =>
    (m_gI s2 0 t0 5).bind fun x6 =>
    if x6 < 40 then
      (m_gR s2 0 t0 4).bind fun r9 =>
      (m_gI s2 0 t0 5).bind fun x11 =>
      m_nw s2 (.inl 2) (fun j => defaultValue (tyX2 j)) fun a13 s14 =>
      (m_gI s14 0 t0 5).bind fun x16 =>
      m_b (f_X2_init a13 x16 (some a5) s14) fun u18 s19 =>
      r9.bind fun a21 =>
      (m_is s19 2 a13).bind fun _ =>
      (m_ap s19 4 a21 x11 (.ref a13)).bind fun s22 =>
      (m_gI s22 0 t0 5).bind fun x25 =>
      (m_p s22 0 t0 5 (.int (x25 + 1))).bind fun s27 =>
      (m_gI s27 0 t0 5).bind fun x29 =>
      some (x29 - 1, s27)
    else
      some ((-4), s2))
set_option maxHeartbeats 4000000 in
set_option maxRecDepth 100000 in
theorem c_X0_target (l : Launch) (D : va_G) (tc : Nat → ClassId) (b : Nat) (t0 : Nat) (p1 : Int32) (s0 st' : MS) (r : Int32) (h : f_X0_target t0 p1 s0 = some (r, st')) : Met l yX0_target wsX0_target ({ frames := 2, cells := 4, slots := 22, locals := 42 }) (m_Pc D vwCl (m_tys tc) b s0 [.ref t0, .int p1]) (m_Q D vwCl (m_tys tc) b (some (.int r)) st') 4 22 (m_A b) := by
  unfold f_X0_target at h
  refine m_met (cc := cX0_target) (maxL := 3) (ret := (some .int)) (by decide) rfl (by first | exact Nat.le_of_ble_eq_true rfl | simp [lg_sl, m_rfc, m_catI, m_catL, m_catA]) ?_
  intro p e s m below meth c ls S hr hlk hnm hK hP hl hS
  replace hl : lv_has ls 3 [(0, .ref t0), (1, .int p1)] := by first | exact hl | simpa [lv_args, m_rfc, m_catI, m_catL, m_catA] using hl
  refine lv_aload_n S.1 S.2.1 dX0_target_0 rfl (lv_at hl 0 rfl) ?_
  refine lv_iload_n S.1 S.2.1 dX0_target_1 rfl (lv_at hl 1 rfl) ?_
  obtain ⟨_, k4, h⟩ := m_bs h
  obtain ⟨r1, s2, e3, h⟩ := m_b_s h
  refine m_callr (va_runV (As := [.int p1]) (rest := []) S (c_X0_classAt l D tc b t0 p1 _ _ _ e3) (cwV 1 S.2.2.2.2 (m_wV kX0_classAt (by decide +kernel)) rfl rfl rfl (by decide +kernel) ⟨by decide +kernel, by decide +kernel⟩) (m_preV hK hP (m_is_s k4) rfl) rfl rfl hl.1 rfl (lv_room (by first | decide | simp [m_rfc, m_catI, m_catL, m_catA])) dX0_target_2 ⟨by decide +kernel, by decide +kernel⟩) hS (fun H locs hP hS => ?_)
  refine m_astore_n (i := 2) (lv' := [(2, va_rf r1), (0, .ref t0), (1, .int p1)]) S.1 S.2.1 dX0_target_5 rfl hl (by decide) (by first | rfl | simp [m_rfc, m_catI, m_catL, m_catA]) (fun ls hl => ?_)
  refine m_aload_n S.1 S.2.1 dX0_target_6 rfl (lv_at hl 0 rfl) ?_
  rcases r1 with _ | a5
  · replace h := m_nn0 h
    refine lv_ifnonnullN S.1 S.2.1 dX0_target_7 ?_
    refine lv_iconst (v := (-1)) S.1 S.2.1 dX0_target_10 (by decide) ?_
    obtain ⟨h1, h2⟩ := m_fin h; subst h1; subst h2
    exact m_iret S hr hlk hK hP hS (by decide +kernel) (by decide +kernel) dX0_target_11
  · replace h := m_nn1 h
    refine lv_ifnonnull (tgt := 12) S.1 S.2.1 dX0_target_7 (by decide) ?_
    refine lv_aload_n S.1 S.2.1 dX0_target_12 rfl (lv_at hl 1 rfl) ?_
    obtain ⟨x6, e7, h⟩ := m_bs h
    refine m_get (ci := 0) (k := 5) (T := TX0) (N := 10) S (inX0 _) hK hP (m_gI_s e7) rfl (by decide) (S.2.2.2.2 (.fieldLink RX0 28 "RuleHouse2" "targetCount" "I") (m_mem (by decide +kernel))) rfl dX0_target_13 ?_
    refine lv_bipush (v := 40) S.1 S.2.1 dX0_target_16 (by decide) ?_
    refine lv_icmp_lt (tgt := 24) S.1 S.2.1 dX0_target_18 (by decide) (fun c8 => ?_) (fun c8 => ?_)
    · replace h := m_t c8 h
      refine lv_aload_n S.1 S.2.1 dX0_target_24 rfl (lv_at hl 1 rfl) ?_
      obtain ⟨r9, e10, h⟩ := m_bs h
      refine m_get (ci := 0) (k := 4) (T := TX0) (N := 10) S (inX0 _) hK hP (m_gR_s e10) rfl (by decide) (S.2.2.2.2 (.fieldLink RX0 24 "RuleHouse2" "targets" "[LRuleHouse2$Target;") (m_mem (by decide +kernel))) rfl dX0_target_25 ?_
      refine lv_aload_n S.1 S.2.1 dX0_target_28 rfl (lv_at hl 1 rfl) ?_
      obtain ⟨x11, e12, h⟩ := m_bs h
      refine m_get (ci := 0) (k := 5) (T := TX0) (N := 10) S (inX0 _) hK hP (m_gI_s e12) rfl (by decide) (S.2.2.2.2 (.fieldLink RX0 28 "RuleHouse2" "targetCount" "I") (m_mem (by decide +kernel))) rfl dX0_target_29 ?_
      obtain ⟨a13, s14, e15, h⟩ := m_nw_s h
      refine m_new (ci := 2) S (inX2 _) tyX2 tX2 (S.2.2.2.2 (.classLink RX0 22 RX2) (m_mem (by decide +kernel))) (S.2.2.2.2 (.instantiable RX2 12) (m_mem (by decide +kernel))) (S.2.2.2.2 (.initialized RX2) (m_mem (by decide +kernel))) hK hP hS rfl e15 (by decide +kernel) (by decide +kernel) dX0_target_32 (fun H hP hS => ?_)
      refine lv_dup S.1 S.2.1 dX0_target_35 rfl ?_
      refine lv_aload_n S.1 S.2.1 dX0_target_36 rfl (lv_at hl 1 rfl) ?_
      obtain ⟨x16, e17, h⟩ := m_bs h
      refine m_get (ci := 0) (k := 5) (T := TX0) (N := 10) S (inX0 _) hK hP (m_gI_s e17) rfl (by decide) (S.2.2.2.2 (.fieldLink RX0 28 "RuleHouse2" "targetCount" "I") (m_mem (by decide +kernel))) rfl dX0_target_37 ?_
      refine lv_aload_n S.1 S.2.1 dX0_target_40 rfl (lv_at hl 0 rfl) ?_
      obtain ⟨u18, s19, e20, h⟩ := m_b_s h
      refine m_callv (va_runI (As := [.int x16, va_rf (some a5)]) (rest := [.ref a13, .int x11, va_rf r9]) S (c_X2_init l D tc b a13 x16 (some a5) _ _ _ e20) (cwI 2 S.2.2.2.2 (m_wI kX2_init) rfl rfl rfl (S.2.2.2.2 (.initialized RX2) (m_mem (by decide +kernel))) (S.2.2.2.2 (.methodLink RX0 94 yX2_init) (m_mem (by decide +kernel))) (S.2.2.2.2 (.instanceMethod yX2_init) (m_mem (by decide +kernel))) rfl (by decide +kernel) ⟨by decide +kernel, by decide +kernel⟩) (m_preS hK hP) rfl rfl hl.1 rfl (lv_room (by first | decide | simp [m_rfc, m_catI, m_catL, m_catA])) dX0_target_41 ⟨by decide +kernel, by decide +kernel⟩) hS (fun H locs hP hS => ?_)
      obtain ⟨a21, ea, g⟩ := m_bs h; clear h; subst ea; have h := g; clear g
      obtain ⟨_, k24, h⟩ := m_bs h
      obtain ⟨s22, e23, h⟩ := m_bs h
      refine m_aast (t := 4) S hK hP hS e23 (by decide) (m_is_s k24) rfl rfl dX0_target_44 (fun H locs hP hS => ?_)
      refine lv_aload_n S.1 S.2.1 dX0_target_45 rfl (lv_at hl 1 rfl) ?_
      refine lv_dup S.1 S.2.1 dX0_target_46 rfl ?_
      obtain ⟨x25, e26, h⟩ := m_bs h
      refine m_get (ci := 0) (k := 5) (T := TX0) (N := 10) S (inX0 _) hK hP (m_gI_s e26) rfl (by decide) (S.2.2.2.2 (.fieldLink RX0 28 "RuleHouse2" "targetCount" "I") (m_mem (by decide +kernel))) rfl dX0_target_47 ?_
      refine lv_iconst (v := 1) S.1 S.2.1 dX0_target_50 (by decide) ?_
      refine lv_iadd S.1 S.2.1 dX0_target_51 ?_
      obtain ⟨s27, e28, h⟩ := m_bs h
      refine m_put (ci := 0) (k := 5) (T := TX0) (N := 10) (v := .int (x25 + 1)) (ty := .int) S (inX0 _) tyX0 tX0 nX0 hK hP hS e28 rfl (by decide) (S.2.2.2.2 (.fieldLink RX0 28 "RuleHouse2" "targetCount" "I") (m_mem (by decide +kernel))) rfl rfl (by decide +kernel) rfl rfl dX0_target_52 (fun H locs hP hS => ?_)
      refine lv_aload_n S.1 S.2.1 dX0_target_55 rfl (lv_at hl 1 rfl) ?_
      obtain ⟨x29, e30, h⟩ := m_bs h
      refine m_get (ci := 0) (k := 5) (T := TX0) (N := 10) S (inX0 _) hK hP (m_gI_s e30) rfl (by decide) (S.2.2.2.2 (.fieldLink RX0 28 "RuleHouse2" "targetCount" "I") (m_mem (by decide +kernel))) rfl dX0_target_56 ?_
      refine lv_iconst (v := 1) S.1 S.2.1 dX0_target_59 (by decide) ?_
      refine lv_isub S.1 S.2.1 dX0_target_60 ?_
      obtain ⟨h1, h2⟩ := m_fin h; subst h1; subst h2
      exact m_iret S hr hlk hK hP hS (by decide +kernel) (by decide +kernel) dX0_target_61
    · replace h := m_f c8 h
      refine lv_bipush (v := (-4)) S.1 S.2.1 dX0_target_21 (by decide) ?_
      obtain ⟨h1, h2⟩ := m_fin h; subst h1; subst h2
      exact m_iret S hr hlk hK hP hS (by decide +kernel) (by decide +kernel) dX0_target_23

def f_X2_fail_L23 : Nat → Int32 → Nat → Int32 → Int32 → Int32 → MS → Option (Unit × MS)
  | 0, _, _, _, _, _, _ => none
  | f + 1, q4, q0, q1, q2, q3, s0 =>
    if 3 ≤ q4 then
      some ((), s0)
    else
      (m_gR s0 2 q0 4).bind fun r10 =>
      r10.bind fun a12 =>
      (m_ap s0 2 a12 q4 (.int 0)).bind fun s13 =>
      f_X2_fail_L23 f (q4 + 1) q0 q1 q2 q3 s13
def f_X2_fail (t0 : Nat) (p1 : Int32) (p2 : Int32) (p3 : Int32) (s0 : MS) : Option (Unit × MS) :=
  (m_p s0 2 t0 9 (.int p1)).bind fun s1 =>
  (m_p s1 2 t0 10 (.int p2)).bind fun s3 =>
  (m_p s3 2 t0 11 (.int p3)).bind fun s5 =>
  (m_p s5 2 t0 8 (.int 0)).bind fun s7 =>
  f_X2_fail_L23 64 0 t0 p1 p2 p3 s7
set_option maxHeartbeats 4000000 in
set_option maxRecDepth 100000 in
theorem w_X2_fail_L23 {p : Program} {l : Launch} {e : Env} {s : State} {m : MethodId} {args : Array Value} {below : List Frame} {meth : Method} {c : Code} (D : va_G) (tc : Nat → ClassId) (b : Nat) (S : CallFix p m c cX2_fail 5 s args wsX2_fail RX2) (hr : meth.sig.returnType = none) (hlk : meth.locks = false) (hK : va_K D vwCl (m_tys tc) s) :
    ∀ (f : Nat) (q4 : Int32) (q0 : Nat) (q1 : Int32) (q2 : Int32) (q3 : Int32) (s0 st' : MS) (r : Unit) (h : f_X2_fail_L23 f q4 q0 q1 q2 q3 s0 = some (r, st')) (H : Heap) (locs : List Loc) (ls : Array Slot) (hP : mw D vwCl (m_tys tc) b s0 H) (hS : va_S (m_A b) s.heap H locs) (hl : lv_has ls 5 [(4, .int q4), (0, .ref q0), (1, .int q1), (2, .int q2), (3, .int q3)]), W p l e { frames := 0, cells := 0, slots := 0, locals := 0 } s m args below meth c H locs 0 0 (MQ below (m_Q D vwCl (m_tys tc) b none st') args s 0 0 (m_A b)) (F0 m 23 ls []) := by
  intro f
  induction f with
  | zero =>
    intro q4 q0 q1 q2 q3 s0 st' r h
    cases h
  | succ f ih =>
    intro q4 q0 q1 q2 q3 s0 st' r h H locs ls hP hS hl
    rw [f_X2_fail_L23] at h
    refine lv_iload S.1 S.2.1 dX2_fail_23 (lv_at hl 0 rfl) ?_
    refine lv_iconst (v := 3) S.1 S.2.1 dX2_fail_25 (by decide) ?_
    refine lv_icmp_ge (tgt := 43) S.1 S.2.1 dX2_fail_26 (by decide) (fun c9 => ?_) (fun c9 => ?_)
    · replace h := m_t c9 h
      obtain ⟨h1, h2⟩ := m_fin h; subst h1; subst h2
      exact m_vret S hr hlk hK hP hS (by decide +kernel) (by decide +kernel) dX2_fail_43
    · replace h := m_f c9 h
      refine lv_aload_n S.1 S.2.1 dX2_fail_29 rfl (lv_at hl 1 rfl) ?_
      obtain ⟨r10, e11, h⟩ := m_bs h
      refine m_get (ci := 2) (k := 4) (T := TX2) (N := 12) S (inX2 _) hK hP (m_gR_s e11) rfl (by decide) (S.2.2.2.2 (.fieldLink RX2 18 "RuleHouse2$Target" "has" "[Z") (m_mem (by decide +kernel))) rfl dX2_fail_30 ?_
      refine lv_iload S.1 S.2.1 dX2_fail_33 (lv_at hl 0 rfl) ?_
      refine lv_iconst (v := 0) S.1 S.2.1 dX2_fail_35 (by decide) ?_
      obtain ⟨a12, ea, g⟩ := m_bs h; clear h; subst ea; have h := g; clear g
      obtain ⟨s13, e14, h⟩ := m_bs h
      refine m_zast (t := 2) S hK hP hS e14 (by decide) rfl (by decide) dX2_fail_36 (fun H locs hP hS => ?_)
      refine lv_iinc (v := q4 + 1) (lv' := [(4, .int (q4 + 1)), (0, .ref q0), (1, .int q1), (2, .int q2), (3, .int q3)]) S.1 S.2.1 dX2_fail_37 hl (k := 0) rfl rfl (by decide) (by first | rfl | simp [m_rfc, m_catI, m_catL, m_catA]) (fun ls hl => ?_)
      refine lv_goto (tgt := 23) S.1 S.2.1 dX2_fail_40 (by decide) ?_
      exact ih (q4 + 1) q0 q1 q2 q3 _ _ _ h _ _ _ hP hS (lv_sub hl [0, 1, 2, 3, 4] rfl)
set_option maxHeartbeats 4000000 in
set_option maxRecDepth 100000 in
theorem c_X2_fail (l : Launch) (D : va_G) (tc : Nat → ClassId) (b : Nat) (t0 : Nat) (p1 : Int32) (p2 : Int32) (p3 : Int32) (s0 st' : MS) (r : Unit) (h : f_X2_fail t0 p1 p2 p3 s0 = some (r, st')) : Met l yX2_fail wsX2_fail ({ frames := 0, cells := 0, slots := 0, locals := 0 }) (m_Pc D vwCl (m_tys tc) b s0 [.ref t0, .int p1, .int p2, .int p3]) (m_Q D vwCl (m_tys tc) b none st') 0 0 (m_A b) := by
  unfold f_X2_fail at h
  refine m_met (cc := cX2_fail) (maxL := 5) (ret := none) (by decide) rfl (by first | exact Nat.le_of_ble_eq_true rfl | simp [lg_sl, m_rfc, m_catI, m_catL, m_catA]) ?_
  intro p e s m below meth c ls S hr hlk hnm hK hP hl hS
  replace hl : lv_has ls 5 [(0, .ref t0), (1, .int p1), (2, .int p2), (3, .int p3)] := by first | exact hl | simpa [lv_args, m_rfc, m_catI, m_catL, m_catA] using hl
  refine lv_aload_n S.1 S.2.1 dX2_fail_0 rfl (lv_at hl 0 rfl) ?_
  refine lv_iload_n S.1 S.2.1 dX2_fail_1 rfl (lv_at hl 1 rfl) ?_
  obtain ⟨s1, e2, h⟩ := m_bs h
  refine m_put (ci := 2) (k := 9) (T := TX2) (N := 12) (v := .int p1) (ty := .int) S (inX2 _) tyX2 tX2 nX2 hK hP hS e2 rfl (by decide) (S.2.2.2.2 (.fieldLink RX2 36 "RuleHouse2$Target" "failure" "I") (m_mem (by decide +kernel))) rfl rfl (by decide +kernel) rfl rfl dX2_fail_2 (fun H locs hP hS => ?_)
  refine lv_aload_n S.1 S.2.1 dX2_fail_5 rfl (lv_at hl 0 rfl) ?_
  refine lv_iload_n S.1 S.2.1 dX2_fail_6 rfl (lv_at hl 2 rfl) ?_
  obtain ⟨s3, e4, h⟩ := m_bs h
  refine m_put (ci := 2) (k := 10) (T := TX2) (N := 12) (v := .int p2) (ty := .int) S (inX2 _) tyX2 tX2 nX2 hK hP hS e4 rfl (by decide) (S.2.2.2.2 (.fieldLink RX2 39 "RuleHouse2$Target" "failedBit" "I") (m_mem (by decide +kernel))) rfl rfl (by decide +kernel) rfl rfl dX2_fail_7 (fun H locs hP hS => ?_)
  refine lv_aload_n S.1 S.2.1 dX2_fail_10 rfl (lv_at hl 0 rfl) ?_
  refine lv_iload_n S.1 S.2.1 dX2_fail_11 rfl (lv_at hl 3 rfl) ?_
  obtain ⟨s5, e6, h⟩ := m_bs h
  refine m_put (ci := 2) (k := 11) (T := TX2) (N := 12) (v := .int p3) (ty := .int) S (inX2 _) tyX2 tX2 nX2 hK hP hS e6 rfl (by decide) (S.2.2.2.2 (.fieldLink RX2 42 "RuleHouse2$Target" "failureBegan" "I") (m_mem (by decide +kernel))) rfl rfl (by decide +kernel) rfl rfl dX2_fail_12 (fun H locs hP hS => ?_)
  refine lv_aload_n S.1 S.2.1 dX2_fail_15 rfl (lv_at hl 0 rfl) ?_
  refine lv_iconst (v := 0) S.1 S.2.1 dX2_fail_16 (by decide) ?_
  obtain ⟨s7, e8, h⟩ := m_bs h
  refine m_put (ci := 2) (k := 8) (T := TX2) (N := 12) (v := .int 0) (ty := .int) S (inX2 _) tyX2 tX2 nX2 hK hP hS e8 rfl (by decide) (S.2.2.2.2 (.fieldLink RX2 33 "RuleHouse2$Target" "actions" "I") (m_mem (by decide +kernel))) rfl rfl (by decide +kernel) rfl rfl dX2_fail_17 (fun H locs hP hS => ?_)
  refine lv_iconst (v := 0) S.1 S.2.1 dX2_fail_20 (by decide) ?_
  refine lv_istore (i := 4) (lv' := [(4, .int 0), (0, .ref t0), (1, .int p1), (2, .int p2), (3, .int p3)]) S.1 S.2.1 dX2_fail_21 hl (by decide) (by first | rfl | simp [m_rfc, m_catI, m_catL, m_catA]) (fun ls hl => ?_)
  exact w_X2_fail_L23 D tc b S hr hlk hK 64 0 t0 p1 p2 p3 _ _ _ h _ _ _ hP hS (lv_sub hl [0, 1, 2, 3, 4] rfl)

def f_X0_takesStep (t0 : Nat) (p1 : Option Nat) (s0 : MS) : Option (Int32 × MS) :=
  p1.bind fun a1 =>
  (m_gI s0 2 a1 7).bind fun x2 =>
  (m_gI s0 0 t0 0).bind fun x4 =>
  if x2 < x4 then
    (m_gI s0 2 a1 7).bind fun x7 =>
    (m_p s0 2 a1 7 (.int (x7 + 1))).bind fun s9 =>
    some (1, s9)
  else
    some (0, s0)
set_option maxHeartbeats 4000000 in
set_option maxRecDepth 100000 in
theorem c_X0_takesStep (l : Launch) (D : va_G) (tc : Nat → ClassId) (b : Nat) (t0 : Nat) (p1 : Option Nat) (s0 st' : MS) (r : Int32) (h : f_X0_takesStep t0 p1 s0 = some (r, st')) : Met l yX0_takesStep wsX0_takesStep ({ frames := 0, cells := 0, slots := 0, locals := 0 }) (m_Pc D vwCl (m_tys tc) b s0 [.ref t0, va_rf p1]) (m_Q D vwCl (m_tys tc) b (some (.int r)) st') 0 0 (m_A b) := by
  unfold f_X0_takesStep at h
  refine m_met (cc := cX0_takesStep) (maxL := 2) (ret := (some .boolean)) (by decide) rfl (by first | exact Nat.le_of_ble_eq_true rfl | simp [lg_sl, m_rfc, m_catI, m_catL, m_catA]) ?_
  intro p e s m below meth c ls S hr hlk hnm hK hP hl hS
  replace hl : lv_has ls 2 [(0, .ref t0), (1, va_rf p1)] := by first | exact hl | simpa [lv_args, m_rfc, m_catI, m_catL, m_catA] using hl
  refine m_aload_n S.1 S.2.1 dX0_takesStep_0 rfl (lv_at hl 1 rfl) ?_
  obtain ⟨a1, ea, g⟩ := m_bs h; clear h; subst ea; have h := g; clear g
  obtain ⟨x2, e3, h⟩ := m_bs h
  refine m_get (ci := 2) (k := 7) (T := TX2) (N := 12) S (inX2 _) hK hP (m_gI_s e3) rfl (by decide) (S.2.2.2.2 (.fieldLink RX0 177 "RuleHouse2$Target" "steps" "I") (m_mem (by decide +kernel))) rfl dX0_takesStep_1 ?_
  refine lv_aload_n S.1 S.2.1 dX0_takesStep_4 rfl (lv_at hl 0 rfl) ?_
  obtain ⟨x4, e5, h⟩ := m_bs h
  refine m_get (ci := 0) (k := 0) (T := TX0) (N := 10) S (inX0 _) hK hP (m_gI_s e5) rfl (by decide) (S.2.2.2.2 (.fieldLink RX0 54 "RuleHouse2" "stepsAllowed" "I") (m_mem (by decide +kernel))) rfl dX0_takesStep_5 ?_
  refine lv_icmp_lt (tgt := 13) S.1 S.2.1 dX0_takesStep_8 (by decide) (fun c6 => ?_) (fun c6 => ?_)
  · replace h := m_t c6 h
    refine lv_aload_n S.1 S.2.1 dX0_takesStep_13 rfl (lv_at hl 1 rfl) ?_
    refine lv_dup S.1 S.2.1 dX0_takesStep_14 rfl ?_
    obtain ⟨x7, e8, h⟩ := m_bs h
    refine m_get (ci := 2) (k := 7) (T := TX2) (N := 12) S (inX2 _) hK hP (m_gI_s e8) rfl (by decide) (S.2.2.2.2 (.fieldLink RX0 177 "RuleHouse2$Target" "steps" "I") (m_mem (by decide +kernel))) rfl dX0_takesStep_15 ?_
    refine lv_iconst (v := 1) S.1 S.2.1 dX0_takesStep_18 (by decide) ?_
    refine lv_iadd S.1 S.2.1 dX0_takesStep_19 ?_
    obtain ⟨s9, e10, h⟩ := m_bs h
    refine m_put (ci := 2) (k := 7) (T := TX2) (N := 12) (v := .int (x7 + 1)) (ty := .int) S (inX2 _) tyX2 tX2 nX2 hK hP hS e10 rfl (by decide) (S.2.2.2.2 (.fieldLink RX0 177 "RuleHouse2$Target" "steps" "I") (m_mem (by decide +kernel))) rfl rfl (by decide +kernel) rfl rfl dX0_takesStep_20 (fun H locs hP hS => ?_)
    refine lv_iconst (v := 1) S.1 S.2.1 dX0_takesStep_23 (by decide) ?_
    obtain ⟨h1, h2⟩ := m_fin h; subst h1; subst h2
    exact m_zret S hr hlk hK hP hS (by decide) (by decide +kernel) (by decide +kernel) dX0_takesStep_24
  · replace h := m_f c6 h
    refine lv_iconst (v := 0) S.1 S.2.1 dX0_takesStep_11 (by decide) ?_
    obtain ⟨h1, h2⟩ := m_fin h; subst h1; subst h2
    exact m_zret S hr hlk hK hP hS (by decide) (by decide +kernel) (by decide +kernel) dX0_takesStep_12

def f_X0_declareOutput (p1 : Option Nat) (s0 : MS) : Option (Int32 × MS) :=
  p1.bind fun a1 =>
  (m_gI s0 2 a1 6).bind fun x2 =>
  if x2 = 0 then
    (m_p s0 2 a1 6 (.int 1)).bind fun s5 =>
    some (0, s5)
  else
    some (2, s0)
set_option maxHeartbeats 4000000 in
set_option maxRecDepth 100000 in
theorem c_X0_declareOutput (l : Launch) (D : va_G) (tc : Nat → ClassId) (b : Nat) (p1 : Option Nat) (s0 st' : MS) (r : Int32) (h : f_X0_declareOutput p1 s0 = some (r, st')) : Met l yX0_declareOutput wsX0_declareOutput ({ frames := 0, cells := 0, slots := 0, locals := 0 }) (m_Pc D vwCl (m_tys tc) b s0 [va_rf p1]) (m_Q D vwCl (m_tys tc) b (some (.int r)) st') 0 0 (m_A b) := by
  unfold f_X0_declareOutput at h
  refine m_met (cc := cX0_declareOutput) (maxL := 1) (ret := (some .int)) (by decide) rfl (by first | exact Nat.le_of_ble_eq_true rfl | simp [lg_sl, m_rfc, m_catI, m_catL, m_catA]) ?_
  intro p e s m below meth c ls S hr hlk hnm hK hP hl hS
  replace hl : lv_has ls 1 [(0, va_rf p1)] := by first | exact hl | simpa [lv_args, m_rfc, m_catI, m_catL, m_catA] using hl
  refine m_aload_n S.1 S.2.1 dX0_declareOutput_0 rfl (lv_at hl 0 rfl) ?_
  obtain ⟨a1, ea, g⟩ := m_bs h; clear h; subst ea; have h := g; clear g
  obtain ⟨x2, e3, h⟩ := m_bs h
  refine m_get (ci := 2) (k := 6) (T := TX2) (N := 12) S (inX2 _) hK hP (m_gI_s e3) rfl (by decide) (S.2.2.2.2 (.fieldLink RX0 204 "RuleHouse2$Target" "outputDeclared" "Z") (m_mem (by decide +kernel))) rfl dX0_declareOutput_1 ?_
  refine lv_if_eq (tgt := 9) S.1 S.2.1 dX0_declareOutput_4 (by decide) (fun c4 => ?_) (fun c4 => ?_)
  · replace h := m_t c4 h
    refine lv_aload_n S.1 S.2.1 dX0_declareOutput_9 rfl (lv_at hl 0 rfl) ?_
    refine lv_iconst (v := 1) S.1 S.2.1 dX0_declareOutput_10 (by decide) ?_
    obtain ⟨s5, e6, h⟩ := m_bs h
    refine m_put (ci := 2) (k := 6) (T := TX2) (N := 12) (v := .int 1) (ty := .boolean) S (inX2 _) tyX2 tX2 nX2 hK hP hS e6 rfl (by decide) (S.2.2.2.2 (.fieldLink RX0 204 "RuleHouse2$Target" "outputDeclared" "Z") (m_mem (by decide +kernel))) rfl rfl (by decide +kernel) (by decide) rfl dX0_declareOutput_11 (fun H locs hP hS => ?_)
    refine lv_iconst (v := 0) S.1 S.2.1 dX0_declareOutput_14 (by decide) ?_
    obtain ⟨h1, h2⟩ := m_fin h; subst h1; subst h2
    exact m_iret S hr hlk hK hP hS (by decide +kernel) (by decide +kernel) dX0_declareOutput_15
  · replace h := m_f c4 h
    refine lv_iconst (v := 2) S.1 S.2.1 dX0_declareOutput_7 (by decide) ?_
    obtain ⟨h1, h2⟩ := m_fin h; subst h1; subst h2
    exact m_iret S hr hlk hK hP hS (by decide +kernel) (by decide +kernel) dX0_declareOutput_8

def f_X0_addActions_L9 : Nat → Int32 → Int32 → Nat → Nat → MS → Option (Int32 × MS)
  | 0, _, _, _, _, _ => none
  | f + 1, q3, q2, q0, q1, s0 =>
    if q2 ≤ q3 then
      some (0, s0)
    else
      (m_is s0 0 q0).bind fun _ =>
      m_b (f_X0_takesStep q0 (some q1) s0) fun x8 s9 =>
      if x8 = 0 then
        some (5, s9)
      else
        (m_gI s9 0 q0 8).bind fun x13 =>
        if x13 < 400 then
          (m_gR s9 0 q0 6).bind fun r16 =>
          (m_gI s9 0 q0 8).bind fun x18 =>
          (m_gI s9 2 q1 0).bind fun x20 =>
          r16.bind fun a22 =>
          (m_ap s9 1 a22 x18 (.int x20)).bind fun s23 =>
          (m_gR s23 0 q0 7).bind fun r25 =>
          (m_gI s23 0 q0 8).bind fun x27 =>
          r25.bind fun a29 =>
          (m_ap s23 1 a29 x27 (.int q3)).bind fun s30 =>
          (m_gI s30 0 q0 8).bind fun x32 =>
          (m_p s30 0 q0 8 (.int (x32 + 1))).bind fun s34 =>
          (m_gI s34 2 q1 8).bind fun x36 =>
          (m_p s34 2 q1 8 (.int (x36 + 1))).bind fun s38 =>
          f_X0_addActions_L9 f (q3 + 1) q2 q0 q1 s38
        else
          some (7, s9)
def f_X0_addActions (t0 : Nat) (p1 : Option Nat) (s0 : MS) : Option (Int32 × MS) :=
  p1.bind fun a1 =>
  (m_gR s0 2 a1 2).bind fun r2 =>
  r2.bind fun a4 =>
  (m_aI s0 1 a4 0).bind fun x5 =>
  f_X0_addActions_L9 64 0 x5 t0 a1 s0
set_option maxHeartbeats 4000000 in
set_option maxRecDepth 100000 in
theorem w_X0_addActions_L9 {p : Program} {l : Launch} {e : Env} {s : State} {m : MethodId} {args : Array Value} {below : List Frame} {meth : Method} {c : Code} (D : va_G) (tc : Nat → ClassId) (b : Nat) (S : CallFix p m c cX0_addActions 4 s args wsX0_addActions RX0) (hr : meth.sig.returnType = (some .int)) (hlk : meth.locks = false) (hK : va_K D vwCl (m_tys tc) s) :
    ∀ (f : Nat) (q3 : Int32) (q2 : Int32) (q0 : Nat) (q1 : Nat) (s0 st' : MS) (r : Int32) (h : f_X0_addActions_L9 f q3 q2 q0 q1 s0 = some (r, st')) (H : Heap) (locs : List Loc) (ls : Array Slot) (hP : mw D vwCl (m_tys tc) b s0 H) (hS : va_S (m_A b) s.heap H locs) (hl : lv_has ls 4 [(3, .int q3), (2, .int q2), (0, .ref q0), (1, .ref q1)]), W p l e { frames := 1, cells := 0, slots := 0, locals := 21 } s m args below meth c H locs 0 0 (MQ below (m_Q D vwCl (m_tys tc) b (some (.int r)) st') args s 0 0 (m_A b)) (F0 m 9 ls []) := by
  intro f
  induction f with
  | zero =>
    intro q3 q2 q0 q1 s0 st' r h
    cases h
  | succ f ih =>
    intro q3 q2 q0 q1 s0 st' r h H locs ls hP hS hl
    rw [f_X0_addActions_L9] at h
    refine lv_iload_n S.1 S.2.1 dX0_addActions_9 rfl (lv_at hl 0 rfl) ?_
    refine lv_iload_n S.1 S.2.1 dX0_addActions_10 rfl (lv_at hl 1 rfl) ?_
    refine lv_icmp_ge (tgt := 86) S.1 S.2.1 dX0_addActions_11 (by decide) (fun c7 => ?_) (fun c7 => ?_)
    · replace h := m_t c7 h
      refine lv_iconst (v := 0) S.1 S.2.1 dX0_addActions_86 (by decide) ?_
      obtain ⟨h1, h2⟩ := m_fin h; subst h1; subst h2
      exact m_iret S hr hlk hK hP hS (by decide +kernel) (by decide +kernel) dX0_addActions_87
    · replace h := m_f c7 h
      refine lv_aload_n S.1 S.2.1 dX0_addActions_14 rfl (lv_at hl 2 rfl) ?_
      refine lv_aload_n S.1 S.2.1 dX0_addActions_15 rfl (lv_at hl 3 rfl) ?_
      obtain ⟨_, k11, h⟩ := m_bs h
      obtain ⟨x8, s9, e10, h⟩ := m_b_s h
      refine m_calli (va_runV (As := [va_rf (some q1)]) (rest := []) S (c_X0_takesStep l D tc b q0 (some q1) _ _ _ e10) (cwV 1 S.2.2.2.2 (m_wV kX0_takesStep (by decide +kernel)) rfl rfl rfl (by decide +kernel) ⟨by decide +kernel, by decide +kernel⟩) (m_preV hK hP (m_is_s k11) rfl) rfl rfl hl.1 rfl (lv_room (by first | decide | simp [m_rfc, m_catI, m_catL, m_catA])) dX0_addActions_16 ⟨by decide +kernel, by decide +kernel⟩) hS (fun H locs hP hS => ?_)
      refine lv_if_ne (tgt := 24) S.1 S.2.1 dX0_addActions_19 (by decide) (fun c12 => ?_) (fun c12 => ?_)
      · replace h := m_f c12 h
        refine lv_aload_n S.1 S.2.1 dX0_addActions_24 rfl (lv_at hl 2 rfl) ?_
        obtain ⟨x13, e14, h⟩ := m_bs h
        refine m_get (ci := 0) (k := 8) (T := TX0) (N := 10) S (inX0 _) hK hP (m_gI_s e14) rfl (by decide) (S.2.2.2.2 (.fieldLink RX0 38 "RuleHouse2" "actionCount" "I") (m_mem (by decide +kernel))) rfl dX0_addActions_25 ?_
        refine lv_sipush (v := 400) S.1 S.2.1 dX0_addActions_28 (by decide) ?_
        refine lv_icmp_lt (tgt := 37) S.1 S.2.1 dX0_addActions_31 (by decide) (fun c15 => ?_) (fun c15 => ?_)
        · replace h := m_t c15 h
          refine lv_aload_n S.1 S.2.1 dX0_addActions_37 rfl (lv_at hl 2 rfl) ?_
          obtain ⟨r16, e17, h⟩ := m_bs h
          refine m_get (ci := 0) (k := 6) (T := TX0) (N := 10) S (inX0 _) hK hP (m_gR_s e17) rfl (by decide) (S.2.2.2.2 (.fieldLink RX0 31 "RuleHouse2" "actionTarget" "[I") (m_mem (by decide +kernel))) rfl dX0_addActions_38 ?_
          refine lv_aload_n S.1 S.2.1 dX0_addActions_41 rfl (lv_at hl 2 rfl) ?_
          obtain ⟨x18, e19, h⟩ := m_bs h
          refine m_get (ci := 0) (k := 8) (T := TX0) (N := 10) S (inX0 _) hK hP (m_gI_s e19) rfl (by decide) (S.2.2.2.2 (.fieldLink RX0 38 "RuleHouse2" "actionCount" "I") (m_mem (by decide +kernel))) rfl dX0_addActions_42 ?_
          refine lv_aload_n S.1 S.2.1 dX0_addActions_45 rfl (lv_at hl 3 rfl) ?_
          obtain ⟨x20, e21, h⟩ := m_bs h
          refine m_get (ci := 2) (k := 0) (T := TX2) (N := 12) S (inX2 _) hK hP (m_gI_s e21) rfl (by decide) (S.2.2.2.2 (.fieldLink RX0 156 "RuleHouse2$Target" "number" "I") (m_mem (by decide +kernel))) rfl dX0_addActions_46 ?_
          obtain ⟨a22, ea, g⟩ := m_bs h; clear h; subst ea; have h := g; clear g
          obtain ⟨s23, e24, h⟩ := m_bs h
          refine m_iast (t := 1) S hK hP hS e24 (by decide) rfl dX0_addActions_49 (fun H locs hP hS => ?_)
          refine lv_aload_n S.1 S.2.1 dX0_addActions_50 rfl (lv_at hl 2 rfl) ?_
          obtain ⟨r25, e26, h⟩ := m_bs h
          refine m_get (ci := 0) (k := 7) (T := TX0) (N := 10) S (inX0 _) hK hP (m_gR_s e26) rfl (by decide) (S.2.2.2.2 (.fieldLink RX0 35 "RuleHouse2" "actionNumber" "[I") (m_mem (by decide +kernel))) rfl dX0_addActions_51 ?_
          refine lv_aload_n S.1 S.2.1 dX0_addActions_54 rfl (lv_at hl 2 rfl) ?_
          obtain ⟨x27, e28, h⟩ := m_bs h
          refine m_get (ci := 0) (k := 8) (T := TX0) (N := 10) S (inX0 _) hK hP (m_gI_s e28) rfl (by decide) (S.2.2.2.2 (.fieldLink RX0 38 "RuleHouse2" "actionCount" "I") (m_mem (by decide +kernel))) rfl dX0_addActions_55 ?_
          refine lv_iload_n S.1 S.2.1 dX0_addActions_58 rfl (lv_at hl 0 rfl) ?_
          obtain ⟨a29, ea, g⟩ := m_bs h; clear h; subst ea; have h := g; clear g
          obtain ⟨s30, e31, h⟩ := m_bs h
          refine m_iast (t := 1) S hK hP hS e31 (by decide) rfl dX0_addActions_59 (fun H locs hP hS => ?_)
          refine lv_aload_n S.1 S.2.1 dX0_addActions_60 rfl (lv_at hl 2 rfl) ?_
          refine lv_dup S.1 S.2.1 dX0_addActions_61 rfl ?_
          obtain ⟨x32, e33, h⟩ := m_bs h
          refine m_get (ci := 0) (k := 8) (T := TX0) (N := 10) S (inX0 _) hK hP (m_gI_s e33) rfl (by decide) (S.2.2.2.2 (.fieldLink RX0 38 "RuleHouse2" "actionCount" "I") (m_mem (by decide +kernel))) rfl dX0_addActions_62 ?_
          refine lv_iconst (v := 1) S.1 S.2.1 dX0_addActions_65 (by decide) ?_
          refine lv_iadd S.1 S.2.1 dX0_addActions_66 ?_
          obtain ⟨s34, e35, h⟩ := m_bs h
          refine m_put (ci := 0) (k := 8) (T := TX0) (N := 10) (v := .int (x32 + 1)) (ty := .int) S (inX0 _) tyX0 tX0 nX0 hK hP hS e35 rfl (by decide) (S.2.2.2.2 (.fieldLink RX0 38 "RuleHouse2" "actionCount" "I") (m_mem (by decide +kernel))) rfl rfl (by decide +kernel) rfl rfl dX0_addActions_67 (fun H locs hP hS => ?_)
          refine lv_aload_n S.1 S.2.1 dX0_addActions_70 rfl (lv_at hl 3 rfl) ?_
          refine lv_dup S.1 S.2.1 dX0_addActions_71 rfl ?_
          obtain ⟨x36, e37, h⟩ := m_bs h
          refine m_get (ci := 2) (k := 8) (T := TX2) (N := 12) S (inX2 _) hK hP (m_gI_s e37) rfl (by decide) (S.2.2.2.2 (.fieldLink RX0 104 "RuleHouse2$Target" "actions" "I") (m_mem (by decide +kernel))) rfl dX0_addActions_72 ?_
          refine lv_iconst (v := 1) S.1 S.2.1 dX0_addActions_75 (by decide) ?_
          refine lv_iadd S.1 S.2.1 dX0_addActions_76 ?_
          obtain ⟨s38, e39, h⟩ := m_bs h
          refine m_put (ci := 2) (k := 8) (T := TX2) (N := 12) (v := .int (x36 + 1)) (ty := .int) S (inX2 _) tyX2 tX2 nX2 hK hP hS e39 rfl (by decide) (S.2.2.2.2 (.fieldLink RX0 104 "RuleHouse2$Target" "actions" "I") (m_mem (by decide +kernel))) rfl rfl (by decide +kernel) rfl rfl dX0_addActions_77 (fun H locs hP hS => ?_)
          refine lv_iinc (v := q3 + 1) (lv' := [(3, .int (q3 + 1)), (2, .int q2), (0, .ref q0), (1, .ref q1)]) S.1 S.2.1 dX0_addActions_80 hl (k := 0) rfl rfl (by decide) (by first | rfl | simp [m_rfc, m_catI, m_catL, m_catA]) (fun ls hl => ?_)
          refine lv_goto (tgt := 9) S.1 S.2.1 dX0_addActions_83 (by decide) ?_
          exact ih (q3 + 1) q2 q0 q1 _ _ _ h _ _ _ hP hS (lv_sub hl [0, 1, 2, 3] rfl)
        · replace h := m_f c15 h
          refine lv_bipush (v := 7) S.1 S.2.1 dX0_addActions_34 (by decide) ?_
          obtain ⟨h1, h2⟩ := m_fin h; subst h1; subst h2
          exact m_iret S hr hlk hK hP hS (by decide +kernel) (by decide +kernel) dX0_addActions_36
      · replace h := m_t c12 h
        refine lv_iconst (v := 5) S.1 S.2.1 dX0_addActions_22 (by decide) ?_
        obtain ⟨h1, h2⟩ := m_fin h; subst h1; subst h2
        exact m_iret S hr hlk hK hP hS (by decide +kernel) (by decide +kernel) dX0_addActions_23
set_option maxHeartbeats 4000000 in
set_option maxRecDepth 100000 in
theorem c_X0_addActions (l : Launch) (D : va_G) (tc : Nat → ClassId) (b : Nat) (t0 : Nat) (p1 : Option Nat) (s0 st' : MS) (r : Int32) (h : f_X0_addActions t0 p1 s0 = some (r, st')) : Met l yX0_addActions wsX0_addActions ({ frames := 1, cells := 0, slots := 0, locals := 21 }) (m_Pc D vwCl (m_tys tc) b s0 [.ref t0, va_rf p1]) (m_Q D vwCl (m_tys tc) b (some (.int r)) st') 0 0 (m_A b) := by
  unfold f_X0_addActions at h
  refine m_met (cc := cX0_addActions) (maxL := 4) (ret := (some .int)) (by decide) rfl (by first | exact Nat.le_of_ble_eq_true rfl | simp [lg_sl, m_rfc, m_catI, m_catL, m_catA]) ?_
  intro p e s m below meth c ls S hr hlk hnm hK hP hl hS
  replace hl : lv_has ls 4 [(0, .ref t0), (1, va_rf p1)] := by first | exact hl | simpa [lv_args, m_rfc, m_catI, m_catL, m_catA] using hl
  refine m_aload_n S.1 S.2.1 dX0_addActions_0 rfl (lv_at hl 1 rfl) ?_
  obtain ⟨a1, ea, g⟩ := m_bs h; clear h; subst ea; have h := g; clear g
  obtain ⟨r2, e3, h⟩ := m_bs h
  refine m_get (ci := 2) (k := 2) (T := TX2) (N := 12) S (inX2 _) hK hP (m_gR_s e3) rfl (by decide) (S.2.2.2.2 (.fieldLink RX0 91 "RuleHouse2$Target" "attributes" "[I") (m_mem (by decide +kernel))) rfl dX0_addActions_1 ?_
  refine lv_iconst (v := 0) S.1 S.2.1 dX0_addActions_4 (by decide) ?_
  obtain ⟨a4, ea, g⟩ := m_bs h; clear h; subst ea; have h := g; clear g
  obtain ⟨x5, e6, h⟩ := m_bs h
  refine m_iald (t := 1) S hK hP (m_aI_s e6) rfl dX0_addActions_5 ?_
  refine lv_istore_n (i := 2) (lv' := [(2, .int x5), (0, .ref t0), (1, .ref a1)]) S.1 S.2.1 dX0_addActions_6 rfl hl (by decide) (by first | rfl | simp [m_rfc, m_catI, m_catL, m_catA]) (fun ls hl => ?_)
  refine lv_iconst (v := 0) S.1 S.2.1 dX0_addActions_7 (by decide) ?_
  refine lv_istore_n (i := 3) (lv' := [(3, .int 0), (2, .int x5), (0, .ref t0), (1, .ref a1)]) S.1 S.2.1 dX0_addActions_8 rfl hl (by decide) (by first | rfl | simp [m_rfc, m_catI, m_catL, m_catA]) (fun ls hl => ?_)
  exact w_X0_addActions_L9 D tc b S hr hlk hK 64 0 x5 t0 a1 _ _ _ h _ _ _ hP hS (lv_sub hl [0, 1, 2, 3] rfl)

def f_X2_give (t0 : Nat) (p1 : Int32) (p2 : Int32) (s0 : MS) : Option (Unit × MS) :=
  (m_gR s0 2 t0 3).bind fun r1 =>
  r1.bind fun a3 =>
  (m_ap s0 1 a3 p1 (.int p2)).bind fun s4 =>
  (m_gR s4 2 t0 4).bind fun r6 =>
  r6.bind fun a8 =>
  (m_ap s4 2 a8 p1 (.int 1)).bind fun s9 =>
  some ((), s9)
set_option maxHeartbeats 4000000 in
set_option maxRecDepth 100000 in
theorem c_X2_give (l : Launch) (D : va_G) (tc : Nat → ClassId) (b : Nat) (t0 : Nat) (p1 : Int32) (p2 : Int32) (s0 st' : MS) (r : Unit) (h : f_X2_give t0 p1 p2 s0 = some (r, st')) : Met l yX2_give wsX2_give ({ frames := 0, cells := 0, slots := 0, locals := 0 }) (m_Pc D vwCl (m_tys tc) b s0 [.ref t0, .int p1, .int p2]) (m_Q D vwCl (m_tys tc) b none st') 0 0 (m_A b) := by
  unfold f_X2_give at h
  refine m_met (cc := cX2_give) (maxL := 3) (ret := none) (by decide) rfl (by first | exact Nat.le_of_ble_eq_true rfl | simp [lg_sl, m_rfc, m_catI, m_catL, m_catA]) ?_
  intro p e s m below meth c ls S hr hlk hnm hK hP hl hS
  replace hl : lv_has ls 3 [(0, .ref t0), (1, .int p1), (2, .int p2)] := by first | exact hl | simpa [lv_args, m_rfc, m_catI, m_catL, m_catA] using hl
  refine lv_aload_n S.1 S.2.1 dX2_give_0 rfl (lv_at hl 0 rfl) ?_
  obtain ⟨r1, e2, h⟩ := m_bs h
  refine m_get (ci := 2) (k := 3) (T := TX2) (N := 12) S (inX2 _) hK hP (m_gR_s e2) rfl (by decide) (S.2.2.2.2 (.fieldLink RX2 15 "RuleHouse2$Target" "providers" "[I") (m_mem (by decide +kernel))) rfl dX2_give_1 ?_
  refine lv_iload_n S.1 S.2.1 dX2_give_4 rfl (lv_at hl 1 rfl) ?_
  refine lv_iload_n S.1 S.2.1 dX2_give_5 rfl (lv_at hl 2 rfl) ?_
  obtain ⟨a3, ea, g⟩ := m_bs h; clear h; subst ea; have h := g; clear g
  obtain ⟨s4, e5, h⟩ := m_bs h
  refine m_iast (t := 1) S hK hP hS e5 (by decide) rfl dX2_give_6 (fun H locs hP hS => ?_)
  refine lv_aload_n S.1 S.2.1 dX2_give_7 rfl (lv_at hl 0 rfl) ?_
  obtain ⟨r6, e7, h⟩ := m_bs h
  refine m_get (ci := 2) (k := 4) (T := TX2) (N := 12) S (inX2 _) hK hP (m_gR_s e7) rfl (by decide) (S.2.2.2.2 (.fieldLink RX2 18 "RuleHouse2$Target" "has" "[Z") (m_mem (by decide +kernel))) rfl dX2_give_8 ?_
  refine lv_iload_n S.1 S.2.1 dX2_give_11 rfl (lv_at hl 1 rfl) ?_
  refine lv_iconst (v := 1) S.1 S.2.1 dX2_give_12 (by decide) ?_
  obtain ⟨a8, ea, g⟩ := m_bs h; clear h; subst ea; have h := g; clear g
  obtain ⟨s9, e10, h⟩ := m_bs h
  refine m_zast (t := 2) S hK hP hS e10 (by decide) rfl (by decide) dX2_give_13 (fun H locs hP hS => ?_)
  obtain ⟨h1, h2⟩ := m_fin h; subst h1; subst h2
  exact m_vret S hr hlk hK hP hS (by decide +kernel) (by decide +kernel) dX2_give_14

def f_X0_giveQuotient (p1 : Option Nat) (s0 : MS) : Option (Int32 × MS) :=
  p1.bind fun a1 =>
  (m_gR s0 2 a1 2).bind fun r2 =>
  r2.bind fun a4 =>
  (m_aI s0 1 a4 1).bind fun x5 =>
  if x5 = 0 then
    some (3, s0)
  else
    (m_gR s0 2 a1 2).bind fun r8 =>
    r8.bind fun a10 =>
    (m_aI s0 1 a10 0).bind fun x11 =>
    if (x5 : Int32) = 0 then none else
    (m_is s0 2 a1).bind fun _ =>
    m_b (f_X2_give a1 1 (x11 / x5) s0) fun u14 s15 =>
    some (0, s15)
set_option maxHeartbeats 4000000 in
set_option maxRecDepth 100000 in
theorem c_X0_giveQuotient (l : Launch) (D : va_G) (tc : Nat → ClassId) (b : Nat) (p1 : Option Nat) (s0 st' : MS) (r : Int32) (h : f_X0_giveQuotient p1 s0 = some (r, st')) : Met l yX0_giveQuotient wsX0_giveQuotient ({ frames := 1, cells := 0, slots := 0, locals := 22 }) (m_Pc D vwCl (m_tys tc) b s0 [va_rf p1]) (m_Q D vwCl (m_tys tc) b (some (.int r)) st') 0 0 (m_A b) := by
  unfold f_X0_giveQuotient at h
  refine m_met (cc := cX0_giveQuotient) (maxL := 2) (ret := (some .int)) (by decide) rfl (by first | exact Nat.le_of_ble_eq_true rfl | simp [lg_sl, m_rfc, m_catI, m_catL, m_catA]) ?_
  intro p e s m below meth c ls S hr hlk hnm hK hP hl hS
  replace hl : lv_has ls 2 [(0, va_rf p1)] := by first | exact hl | simpa [lv_args, m_rfc, m_catI, m_catL, m_catA] using hl
  refine m_aload_n S.1 S.2.1 dX0_giveQuotient_0 rfl (lv_at hl 0 rfl) ?_
  obtain ⟨a1, ea, g⟩ := m_bs h; clear h; subst ea; have h := g; clear g
  obtain ⟨r2, e3, h⟩ := m_bs h
  refine m_get (ci := 2) (k := 2) (T := TX2) (N := 12) S (inX2 _) hK hP (m_gR_s e3) rfl (by decide) (S.2.2.2.2 (.fieldLink RX0 91 "RuleHouse2$Target" "attributes" "[I") (m_mem (by decide +kernel))) rfl dX0_giveQuotient_1 ?_
  refine lv_iconst (v := 1) S.1 S.2.1 dX0_giveQuotient_4 (by decide) ?_
  obtain ⟨a4, ea, g⟩ := m_bs h; clear h; subst ea; have h := g; clear g
  obtain ⟨x5, e6, h⟩ := m_bs h
  refine m_iald (t := 1) S hK hP (m_aI_s e6) rfl dX0_giveQuotient_5 ?_
  refine lv_istore_n (i := 1) (lv' := [(1, .int x5), (0, .ref a1)]) S.1 S.2.1 dX0_giveQuotient_6 rfl hl (by decide) (by first | rfl | simp [m_rfc, m_catI, m_catL, m_catA]) (fun ls hl => ?_)
  refine lv_iload_n S.1 S.2.1 dX0_giveQuotient_7 rfl (lv_at hl 0 rfl) ?_
  refine lv_if_ne (tgt := 13) S.1 S.2.1 dX0_giveQuotient_8 (by decide) (fun c7 => ?_) (fun c7 => ?_)
  · replace h := m_f c7 h
    refine lv_aload_n S.1 S.2.1 dX0_giveQuotient_13 rfl (lv_at hl 1 rfl) ?_
    refine lv_iconst (v := 1) S.1 S.2.1 dX0_giveQuotient_14 (by decide) ?_
    refine lv_aload_n S.1 S.2.1 dX0_giveQuotient_15 rfl (lv_at hl 1 rfl) ?_
    obtain ⟨r8, e9, h⟩ := m_bs h
    refine m_get (ci := 2) (k := 2) (T := TX2) (N := 12) S (inX2 _) hK hP (m_gR_s e9) rfl (by decide) (S.2.2.2.2 (.fieldLink RX0 91 "RuleHouse2$Target" "attributes" "[I") (m_mem (by decide +kernel))) rfl dX0_giveQuotient_16 ?_
    refine lv_iconst (v := 0) S.1 S.2.1 dX0_giveQuotient_19 (by decide) ?_
    obtain ⟨a10, ea, g⟩ := m_bs h; clear h; subst ea; have h := g; clear g
    obtain ⟨x11, e12, h⟩ := m_bs h
    refine m_iald (t := 1) S hK hP (m_aI_s e12) rfl dX0_giveQuotient_20 ?_
    refine lv_iload_n S.1 S.2.1 dX0_giveQuotient_21 rfl (lv_at hl 0 rfl) ?_
    by_cases c13 : (x5 : Int32) = 0
    · exact absurd (m_t c13 h) (fun h => by cases h)
    replace h := m_f c13 h
    refine lv_idiv S.1 S.2.1 dX0_giveQuotient_22 c13 ?_
    obtain ⟨_, k17, h⟩ := m_bs h
    obtain ⟨u14, s15, e16, h⟩ := m_b_s h
    refine m_callv (va_runV (As := [.int 1, .int (x11 / x5)]) (rest := []) S (c_X2_give l D tc b a1 1 (x11 / x5) _ _ _ e16) (cwV 2 S.2.2.2.2 (m_wV kX2_give (by decide +kernel)) rfl rfl rfl (by decide +kernel) ⟨by decide +kernel, by decide +kernel⟩) (m_preV hK hP (m_is_s k17) rfl) rfl rfl hl.1 rfl (lv_room (by first | decide | simp [m_rfc, m_catI, m_catL, m_catA])) dX0_giveQuotient_23 ⟨by decide +kernel, by decide +kernel⟩) hS (fun H locs hP hS => ?_)
    refine lv_iconst (v := 0) S.1 S.2.1 dX0_giveQuotient_26 (by decide) ?_
    obtain ⟨h1, h2⟩ := m_fin h; subst h1; subst h2
    exact m_iret S hr hlk hK hP hS (by decide +kernel) (by decide +kernel) dX0_giveQuotient_27
  · replace h := m_t c7 h
    refine lv_iconst (v := 3) S.1 S.2.1 dX0_giveQuotient_11 (by decide) ?_
    obtain ⟨h1, h2⟩ := m_fin h; subst h1; subst h2
    exact m_iret S hr hlk hK hP hS (by decide +kernel) (by decide +kernel) dX0_giveQuotient_12

def f_X0_giveOneMore (p1 : Option Nat) (p2 : Option Nat) (s0 : MS) : Option (Int32 × MS) :=
  m_nn p2
    (some (4, s0))
    (fun a1 =>
    (m_gR s0 2 a1 4).bind fun r2 =>
    r2.bind fun a4 =>
    (m_aI s0 2 a4 0).bind fun x5 =>
    if x5 = 0 then
      some (4, s0)
    else
      (m_gR s0 2 a1 3).bind fun r8 =>
      r8.bind fun a10 =>
      (m_aI s0 1 a10 0).bind fun x11 =>
      p1.bind fun a13 =>
      (m_is s0 2 a13).bind fun _ =>
      m_b (f_X2_give a13 0 (x11 + 1) s0) fun u14 s15 =>
      some (0, s15))
set_option maxHeartbeats 4000000 in
set_option maxRecDepth 100000 in
theorem c_X0_giveOneMore (l : Launch) (D : va_G) (tc : Nat → ClassId) (b : Nat) (p1 : Option Nat) (p2 : Option Nat) (s0 st' : MS) (r : Int32) (h : f_X0_giveOneMore p1 p2 s0 = some (r, st')) : Met l yX0_giveOneMore wsX0_giveOneMore ({ frames := 1, cells := 0, slots := 0, locals := 22 }) (m_Pc D vwCl (m_tys tc) b s0 [va_rf p1, va_rf p2]) (m_Q D vwCl (m_tys tc) b (some (.int r)) st') 0 0 (m_A b) := by
  unfold f_X0_giveOneMore at h
  refine m_met (cc := cX0_giveOneMore) (maxL := 2) (ret := (some .int)) (by decide) rfl (by first | exact Nat.le_of_ble_eq_true rfl | simp [lg_sl, m_rfc, m_catI, m_catL, m_catA]) ?_
  intro p e s m below meth c ls S hr hlk hnm hK hP hl hS
  replace hl : lv_has ls 2 [(0, va_rf p1), (1, va_rf p2)] := by first | exact hl | simpa [lv_args, m_rfc, m_catI, m_catL, m_catA] using hl
  refine m_aload_n S.1 S.2.1 dX0_giveOneMore_0 rfl (lv_at hl 1 rfl) ?_
  rcases p2 with _ | a1
  · replace h := m_nn0 h
    refine lv_ifnullN (tgt := 13) S.1 S.2.1 dX0_giveOneMore_1 (by decide) ?_
    refine lv_iconst (v := 4) S.1 S.2.1 dX0_giveOneMore_13 (by decide) ?_
    obtain ⟨h1, h2⟩ := m_fin h; subst h1; subst h2
    exact m_iret S hr hlk hK hP hS (by decide +kernel) (by decide +kernel) dX0_giveOneMore_14
  · replace h := m_nn1 h
    refine lv_ifnull S.1 S.2.1 dX0_giveOneMore_1 ?_
    refine lv_aload_n S.1 S.2.1 dX0_giveOneMore_4 rfl (lv_at hl 1 rfl) ?_
    obtain ⟨r2, e3, h⟩ := m_bs h
    refine m_get (ci := 2) (k := 4) (T := TX2) (N := 12) S (inX2 _) hK hP (m_gR_s e3) rfl (by decide) (S.2.2.2.2 (.fieldLink RX0 110 "RuleHouse2$Target" "has" "[Z") (m_mem (by decide +kernel))) rfl dX0_giveOneMore_5 ?_
    refine lv_iconst (v := 0) S.1 S.2.1 dX0_giveOneMore_8 (by decide) ?_
    obtain ⟨a4, ea, g⟩ := m_bs h; clear h; subst ea; have h := g; clear g
    obtain ⟨x5, e6, h⟩ := m_bs h
    refine m_zald (t := 2) S hK hP (m_aI_s e6) rfl dX0_giveOneMore_9 ?_
    refine lv_if_ne (tgt := 15) S.1 S.2.1 dX0_giveOneMore_10 (by decide) (fun c7 => ?_) (fun c7 => ?_)
    · replace h := m_f c7 h
      refine m_aload_n S.1 S.2.1 dX0_giveOneMore_15 rfl (lv_at hl 0 rfl) ?_
      refine lv_iconst (v := 0) S.1 S.2.1 dX0_giveOneMore_16 (by decide) ?_
      refine lv_aload_n S.1 S.2.1 dX0_giveOneMore_17 rfl (lv_at hl 1 rfl) ?_
      obtain ⟨r8, e9, h⟩ := m_bs h
      refine m_get (ci := 2) (k := 3) (T := TX2) (N := 12) S (inX2 _) hK hP (m_gR_s e9) rfl (by decide) (S.2.2.2.2 (.fieldLink RX0 114 "RuleHouse2$Target" "providers" "[I") (m_mem (by decide +kernel))) rfl dX0_giveOneMore_18 ?_
      refine lv_iconst (v := 0) S.1 S.2.1 dX0_giveOneMore_21 (by decide) ?_
      obtain ⟨a10, ea, g⟩ := m_bs h; clear h; subst ea; have h := g; clear g
      obtain ⟨x11, e12, h⟩ := m_bs h
      refine m_iald (t := 1) S hK hP (m_aI_s e12) rfl dX0_giveOneMore_22 ?_
      refine lv_iconst (v := 1) S.1 S.2.1 dX0_giveOneMore_23 (by decide) ?_
      refine lv_iadd S.1 S.2.1 dX0_giveOneMore_24 ?_
      obtain ⟨a13, ea, g⟩ := m_bs h; clear h; subst ea; have h := g; clear g
      obtain ⟨_, k17, h⟩ := m_bs h
      obtain ⟨u14, s15, e16, h⟩ := m_b_s h
      refine m_callv (va_runV (As := [.int 0, .int (x11 + 1)]) (rest := []) S (c_X2_give l D tc b a13 0 (x11 + 1) _ _ _ e16) (cwV 2 S.2.2.2.2 (m_wV kX2_give (by decide +kernel)) rfl rfl rfl (by decide +kernel) ⟨by decide +kernel, by decide +kernel⟩) (m_preV hK hP (m_is_s k17) rfl) rfl rfl hl.1 rfl (lv_room (by first | decide | simp [m_rfc, m_catI, m_catL, m_catA])) dX0_giveOneMore_25 ⟨by decide +kernel, by decide +kernel⟩) hS (fun H locs hP hS => ?_)
      refine lv_iconst (v := 0) S.1 S.2.1 dX0_giveOneMore_28 (by decide) ?_
      obtain ⟨h1, h2⟩ := m_fin h; subst h1; subst h2
      exact m_iret S hr hlk hK hP hS (by decide +kernel) (by decide +kernel) dX0_giveOneMore_29
    · replace h := m_t c7 h
      refine lv_iconst (v := 4) S.1 S.2.1 dX0_giveOneMore_13 (by decide) ?_
      obtain ⟨h1, h2⟩ := m_fin h; subst h1; subst h2
      exact m_iret S hr hlk hK hP hS (by decide +kernel) (by decide +kernel) dX0_giveOneMore_14
