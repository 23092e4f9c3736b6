def f_X3_same (t0 : Nat) (p1 : Int32) (p2 : Int32) (s0 : MS) : Option (Int32 × MS) :=
  (m_p s0 3 t0 0 (.int 0)).bind fun s1 =>
  (m_is s1 3 t0).bind fun _ =>
  m_b (f_X3_isRule t0 p1 s1) fun x3 s4 =>
  if x3 = 0 then
    some (0, s4)
  else
    (m_is s4 3 t0).bind fun _ =>
    m_b (f_X3_isRule t0 p2 s4) fun x8 s9 =>
    if x8 = 0 then
      some (0, s9)
    else
      (m_gR s9 3 t0 7).bind fun r13 =>
      r13.bind fun a15 =>
      (m_aI s9 5 a15 p1).bind fun x16 =>
      (m_gR s9 3 t0 7).bind fun r18 =>
      r18.bind fun a20 =>
      (m_aI s9 5 a20 p2).bind fun x21 =>
      if x16 = x21 then
        (m_gR s9 3 t0 8).bind fun r24 =>
        r24.bind fun a26 =>
        (m_aI s9 5 a26 p1).bind fun x27 =>
        (m_gR s9 3 t0 8).bind fun r29 =>
        r29.bind fun a31 =>
        (m_aI s9 5 a31 p2).bind fun x32 =>
        if x27 = x32 then
          some (1, s9)
        else
          some (0, s9)
      else
        some (0, s9)
set_option maxHeartbeats 4000000 in
set_option maxRecDepth 100000 in
theorem c_X3_same (l : Launch) (D : va_G) (tc : Nat → ClassId) (b : Nat) (t0 : Nat) (p1 : Int32) (p2 : Int32) (s0 st' : MS) (r : Int32) (h : f_X3_same t0 p1 p2 s0 = some (r, st')) : Met l yX3_same wsX3_same ({ frames := 1, cells := 0, slots := 0, locals := 21 }) (m_Pc D vwCl (m_tys tc) b s0 [.ref t0, .int p1, .int p2]) (m_Q D vwCl (m_tys tc) b (some (.int r)) st') 0 0 (m_A b) := by
  unfold f_X3_same at h
  refine m_met (cc := cX3_same) (maxL := 3) (ret := (some .boolean)) (by decide) rfl (by first | exact Nat.le_of_ble_eq_true rfl | simp [lg_sl, m_rfc, m_catI, m_catL, m_catA]) ?_
  intro p e s m below meth c ls S hr hlk hnm hK hP hl hS
  replace hl : lv_has ls 3 [(0, .ref t0), (1, .int p1), (2, .int p2)] := by first | exact hl | simpa [lv_args, m_rfc, m_catI, m_catL, m_catA] using hl
  refine lv_aload_n S.1 S.2.1 dX3_same_0 rfl (lv_at hl 0 rfl) ?_
  refine lv_iconst (v := 0) S.1 S.2.1 dX3_same_1 (by decide) ?_
  obtain ⟨s1, e2, h⟩ := m_bs h
  refine m_put (ci := 3) (k := 0) (T := TX3) (N := 25) (v := .int 0) (ty := .int) S (inX3 _) tyX3 tX3 nX3 hK hP hS e2 rfl (by decide) (S.2.2.2.2 (.fieldLink RX3 71 "RuleHouse2Model" "code" "I") (m_mem (by decide +kernel))) rfl rfl (by decide +kernel) rfl rfl dX3_same_2 (fun H locs hP hS => ?_)
  refine lv_aload_n S.1 S.2.1 dX3_same_5 rfl (lv_at hl 0 rfl) ?_
  refine lv_iload_n S.1 S.2.1 dX3_same_6 rfl (lv_at hl 1 rfl) ?_
  obtain ⟨_, k6, h⟩ := m_bs h
  obtain ⟨x3, s4, e5, h⟩ := m_b_s h
  refine m_calli (va_runV (As := [.int p1]) (rest := []) S (c_X3_isRule l D tc b t0 p1 _ _ _ e5) (cwV 1 S.2.2.2.2 (m_wV kX3_isRule (by decide +kernel)) rfl rfl rfl (by decide +kernel) ⟨by decide +kernel, by decide +kernel⟩) (m_preV hK hP (m_is_s k6) rfl) rfl rfl hl.1 rfl (lv_room (by first | decide | simp [m_rfc, m_catI, m_catL, m_catA])) dX3_same_7 ⟨by decide +kernel, by decide +kernel⟩) hS (fun H locs hP hS => ?_)
  refine lv_if_eq (tgt := 55) S.1 S.2.1 dX3_same_10 (by decide) (fun c7 => ?_) (fun c7 => ?_)
  · replace h := m_t c7 h
    refine lv_iconst (v := 0) S.1 S.2.1 dX3_same_55 (by decide) ?_
    obtain ⟨h1, h2⟩ := m_fin h; subst h1; subst h2
    exact m_zret S hr hlk hK hP hS (by decide) (by decide +kernel) (by decide +kernel) dX3_same_56
  · replace h := m_f c7 h
    refine lv_aload_n S.1 S.2.1 dX3_same_13 rfl (lv_at hl 0 rfl) ?_
    refine lv_iload_n S.1 S.2.1 dX3_same_14 rfl (lv_at hl 2 rfl) ?_
    obtain ⟨_, k11, h⟩ := m_bs h
    obtain ⟨x8, s9, e10, h⟩ := m_b_s h
    refine m_calli (va_runV (As := [.int p2]) (rest := []) S (c_X3_isRule l D tc b t0 p2 _ _ _ e10) (cwV 1 S.2.2.2.2 (m_wV kX3_isRule (by decide +kernel)) rfl rfl rfl (by decide +kernel) ⟨by decide +kernel, by decide +kernel⟩) (m_preV hK hP (m_is_s k11) rfl) rfl rfl hl.1 rfl (lv_room (by first | decide | simp [m_rfc, m_catI, m_catL, m_catA])) dX3_same_15 ⟨by decide +kernel, by decide +kernel⟩) hS (fun H locs hP hS => ?_)
    refine lv_if_eq (tgt := 55) S.1 S.2.1 dX3_same_18 (by decide) (fun c12 => ?_) (fun c12 => ?_)
    · replace h := m_t c12 h
      refine lv_iconst (v := 0) S.1 S.2.1 dX3_same_55 (by decide) ?_
      obtain ⟨h1, h2⟩ := m_fin h; subst h1; subst h2
      exact m_zret S hr hlk hK hP hS (by decide) (by decide +kernel) (by decide +kernel) dX3_same_56
    · replace h := m_f c12 h
      refine lv_aload_n S.1 S.2.1 dX3_same_21 rfl (lv_at hl 0 rfl) ?_
      obtain ⟨r13, e14, h⟩ := m_bs h
      refine m_get (ci := 3) (k := 7) (T := TX3) (N := 25) S (inX3 _) hK hP (m_gR_s e14) rfl (by decide) (S.2.2.2.2 (.fieldLink RX3 7 "RuleHouse2Model" "edition" "[I") (m_mem (by decide +kernel))) rfl dX3_same_22 ?_
      refine lv_iload_n S.1 S.2.1 dX3_same_25 rfl (lv_at hl 1 rfl) ?_
      obtain ⟨a15, ea, g⟩ := m_bs h; clear h; subst ea; have h := g; clear g
      obtain ⟨x16, e17, h⟩ := m_bs h
      refine m_iald (t := 5) S hK hP (m_aI_s e17) rfl dX3_same_26 ?_
      refine lv_aload_n S.1 S.2.1 dX3_same_27 rfl (lv_at hl 0 rfl) ?_
      obtain ⟨r18, e19, h⟩ := m_bs h
      refine m_get (ci := 3) (k := 7) (T := TX3) (N := 25) S (inX3 _) hK hP (m_gR_s e19) rfl (by decide) (S.2.2.2.2 (.fieldLink RX3 7 "RuleHouse2Model" "edition" "[I") (m_mem (by decide +kernel))) rfl dX3_same_28 ?_
      refine lv_iload_n S.1 S.2.1 dX3_same_31 rfl (lv_at hl 2 rfl) ?_
      obtain ⟨a20, ea, g⟩ := m_bs h; clear h; subst ea; have h := g; clear g
      obtain ⟨x21, e22, h⟩ := m_bs h
      refine m_iald (t := 5) S hK hP (m_aI_s e22) rfl dX3_same_32 ?_
      refine lv_icmp_ne (tgt := 55) S.1 S.2.1 dX3_same_33 (by decide) (fun c23 => ?_) (fun c23 => ?_)
      · replace h := m_f c23 h
        refine lv_iconst (v := 0) S.1 S.2.1 dX3_same_55 (by decide) ?_
        obtain ⟨h1, h2⟩ := m_fin h; subst h1; subst h2
        exact m_zret S hr hlk hK hP hS (by decide) (by decide +kernel) (by decide +kernel) dX3_same_56
      · replace h := m_t c23 h
        refine lv_aload_n S.1 S.2.1 dX3_same_36 rfl (lv_at hl 0 rfl) ?_
        obtain ⟨r24, e25, h⟩ := m_bs h
        refine m_get (ci := 3) (k := 8) (T := TX3) (N := 25) S (inX3 _) hK hP (m_gR_s e25) rfl (by decide) (S.2.2.2.2 (.fieldLink RX3 13 "RuleHouse2Model" "does" "[I") (m_mem (by decide +kernel))) rfl dX3_same_37 ?_
        refine lv_iload_n S.1 S.2.1 dX3_same_40 rfl (lv_at hl 1 rfl) ?_
        obtain ⟨a26, ea, g⟩ := m_bs h; clear h; subst ea; have h := g; clear g
        obtain ⟨x27, e28, h⟩ := m_bs h
        refine m_iald (t := 5) S hK hP (m_aI_s e28) rfl dX3_same_41 ?_
        refine lv_aload_n S.1 S.2.1 dX3_same_42 rfl (lv_at hl 0 rfl) ?_
        obtain ⟨r29, e30, h⟩ := m_bs h
        refine m_get (ci := 3) (k := 8) (T := TX3) (N := 25) S (inX3 _) hK hP (m_gR_s e30) rfl (by decide) (S.2.2.2.2 (.fieldLink RX3 13 "RuleHouse2Model" "does" "[I") (m_mem (by decide +kernel))) rfl dX3_same_43 ?_
        refine lv_iload_n S.1 S.2.1 dX3_same_46 rfl (lv_at hl 2 rfl) ?_
        obtain ⟨a31, ea, g⟩ := m_bs h; clear h; subst ea; have h := g; clear g
        obtain ⟨x32, e33, h⟩ := m_bs h
        refine m_iald (t := 5) S hK hP (m_aI_s e33) rfl dX3_same_47 ?_
        refine lv_icmp_ne (tgt := 55) S.1 S.2.1 dX3_same_48 (by decide) (fun c34 => ?_) (fun c34 => ?_)
        · replace h := m_f c34 h
          refine lv_iconst (v := 0) S.1 S.2.1 dX3_same_55 (by decide) ?_
          obtain ⟨h1, h2⟩ := m_fin h; subst h1; subst h2
          exact m_zret S hr hlk hK hP hS (by decide) (by decide +kernel) (by decide +kernel) dX3_same_56
        · replace h := m_t c34 h
          refine lv_iconst (v := 1) S.1 S.2.1 dX3_same_51 (by decide) ?_
          refine lv_goto (tgt := 56) S.1 S.2.1 dX3_same_52 (by decide) ?_
          obtain ⟨h1, h2⟩ := m_fin h; subst h1; subst h2
          exact m_zret S hr hlk hK hP hS (by decide) (by decide +kernel) (by decide +kernel) dX3_same_56

def f_X3_divide (t0 : Nat) (p1 : Int32) (p2 : Int64) (p3 : Int64) (s0 : MS) : Option (Int64 × MS) :=
  (m_p s0 3 t0 0 (.int 0)).bind fun s1 =>
  (m_is s1 3 t0).bind fun _ =>
  m_b (f_X3_isRule t0 p1 s1) fun x3 s4 =>
  if x3 = 0 then
    if ((-1) : Int32) = (-1) then
      some (0, s4)
    else
      (m_gR s4 3 t0 11).bind fun r9 =>
      r9.bind fun a11 =>
      (m_aL s4 7 a11 (-1)).bind fun l12 =>
      (m_ap s4 7 a11 (-1) (.long (l12 + 1))).bind fun s14 =>
      if (lg_cmp p3 0) = 0 then
        (m_p s14 3 t0 0 (.int 1)).bind fun s22 =>
        if (lg_cmp p3 0) = 0 then
          some (0, s22)
        else
          if (lg_cmp p3 (-1)) = 0 then
            some (-p2, s22)
          else
            if (p3 : Int64) = 0 then none else
            some (p2 / p3, s22)
      else
        (m_p s14 3 t0 0 (.int 0)).bind fun s17 =>
        if (lg_cmp p3 0) = 0 then
          some (0, s17)
        else
          if (lg_cmp p3 (-1)) = 0 then
            some (-p2, s17)
          else
            if (p3 : Int64) = 0 then none else
            some (p2 / p3, s17)
  else
    (m_is s4 3 t0).bind fun _ =>
    m_b (f_X3_classOf t0 p1 s4) fun x27 s28 =>
    if x27 = (-1) then
      some (0, s28)
    else
      (m_gR s28 3 t0 11).bind fun r32 =>
      r32.bind fun a34 =>
      (m_aL s28 7 a34 x27).bind fun l35 =>
      (m_ap s28 7 a34 x27 (.long (l35 + 1))).bind fun s37 =>
      if (lg_cmp p3 0) = 0 then
        (m_p s37 3 t0 0 (.int 1)).bind fun s45 =>
        if (lg_cmp p3 0) = 0 then
          some (0, s45)
        else
          if (lg_cmp p3 (-1)) = 0 then
            some (-p2, s45)
          else
            if (p3 : Int64) = 0 then none else
            some (p2 / p3, s45)
      else
        (m_p s37 3 t0 0 (.int 0)).bind fun s40 =>
        if (lg_cmp p3 0) = 0 then
          some (0, s40)
        else
          if (lg_cmp p3 (-1)) = 0 then
            some (-p2, s40)
          else
            if (p3 : Int64) = 0 then none else
            some (p2 / p3, s40)
set_option maxHeartbeats 4000000 in
set_option maxRecDepth 100000 in
theorem c_X3_divide (l : Launch) (D : va_G) (tc : Nat → ClassId) (b : Nat) (t0 : Nat) (p1 : Int32) (p2 : Int64) (p3 : Int64) (s0 st' : MS) (r : Int64) (h : f_X3_divide t0 p1 p2 p3 s0 = some (r, st')) : Met l yX3_divide wsX3_divide ({ frames := 2, cells := 0, slots := 0, locals := 44 }) (m_Pc D vwCl (m_tys tc) b s0 [.ref t0, .int p1, .long p2, .long p3]) (m_Q D vwCl (m_tys tc) b (some (.long r)) st') 0 0 (m_A b) := by
  unfold f_X3_divide at h
  refine m_met (cc := cX3_divide) (maxL := 7) (ret := (some .long)) (by decide) rfl (by first | exact Nat.le_of_ble_eq_true rfl | simp [lg_sl, m_rfc, m_catI, m_catL, m_catA]) ?_
  intro p e s m below meth c ls S hr hlk hnm hK hP hl hS
  replace hl : lv_has ls 7 [(0, .ref t0), (1, .int p1), (2, .long p2), (4, .long p3)] := by first | exact hl | simpa [lv_args, m_rfc, m_catI, m_catL, m_catA] using hl
  refine lv_aload_n S.1 S.2.1 dX3_divide_0 rfl (lv_at hl 0 rfl) ?_
  refine lv_iconst (v := 0) S.1 S.2.1 dX3_divide_1 (by decide) ?_
  obtain ⟨s1, e2, h⟩ := m_bs h
  refine m_put (ci := 3) (k := 0) (T := TX3) (N := 25) (v := .int 0) (ty := .int) S (inX3 _) tyX3 tX3 nX3 hK hP hS e2 rfl (by decide) (S.2.2.2.2 (.fieldLink RX3 71 "RuleHouse2Model" "code" "I") (m_mem (by decide +kernel))) rfl rfl (by decide +kernel) rfl rfl dX3_divide_2 (fun H locs hP hS => ?_)
  refine lv_aload_n S.1 S.2.1 dX3_divide_5 rfl (lv_at hl 0 rfl) ?_
  refine lv_iload_n S.1 S.2.1 dX3_divide_6 rfl (lv_at hl 1 rfl) ?_
  obtain ⟨_, k6, h⟩ := m_bs h
  obtain ⟨x3, s4, e5, h⟩ := m_b_s h
  refine m_calli (va_runV (As := [.int p1]) (rest := []) S (c_X3_isRule l D tc b t0 p1 _ _ _ e5) (cwV 1 S.2.2.2.2 (m_wV kX3_isRule (by decide +kernel)) rfl rfl rfl (by decide +kernel) ⟨by decide +kernel, by decide +kernel⟩) (m_preV hK hP (m_is_s k6) rfl) rfl rfl hl.1 rfl (lv_room (by first | decide | simp [m_rfc, m_catI, m_catL, m_catA])) dX3_divide_7 ⟨by decide +kernel, by decide +kernel⟩) hS (fun H locs hP hS => ?_)
  refine lv_if_eq (tgt := 21) S.1 S.2.1 dX3_divide_10 (by decide) (fun c7 => ?_) (fun c7 => ?_)
  · replace h := m_t c7 h
    refine lv_iconst (v := (-1)) S.1 S.2.1 dX3_divide_21 (by decide) ?_
    refine lv_istore (i := 6) (lv' := [(6, .int (-1)), (0, .ref t0), (1, .int p1), (2, .long p2), (4, .long p3)]) S.1 S.2.1 dX3_divide_22 hl (by decide) (by first | rfl | simp [m_rfc, m_catI, m_catL, m_catA]) (fun ls hl => ?_)
    refine lv_iload S.1 S.2.1 dX3_divide_24 (lv_at hl 0 rfl) ?_
    refine lv_iconst (v := (-1)) S.1 S.2.1 dX3_divide_26 (by decide) ?_
    refine lv_icmp_ne (tgt := 32) S.1 S.2.1 dX3_divide_27 (by decide) (fun c8 => ?_) (fun c8 => ?_)
    · replace h := m_f c8 h
      refine lv_aload_n S.1 S.2.1 dX3_divide_32 rfl (lv_at hl 1 rfl) ?_
      obtain ⟨r9, e10, h⟩ := m_bs h
      refine m_get (ci := 3) (k := 11) (T := TX3) (N := 25) S (inX3 _) hK hP (m_gR_s e10) rfl (by decide) (S.2.2.2.2 (.fieldLink RX3 23 "RuleHouse2Model" "cell" "[J") (m_mem (by decide +kernel))) rfl dX3_divide_33 ?_
      refine lv_iload S.1 S.2.1 dX3_divide_36 (lv_at hl 0 rfl) ?_
      refine lv_dup2_11 S.1 S.2.1 dX3_divide_38 rfl (m_rfc _) ?_
      obtain ⟨a11, ea, g⟩ := m_bs h; clear h; subst ea; have h := g; clear g
      obtain ⟨l12, e13, h⟩ := m_bs h
      refine m_lald (t := 7) S hK hP (m_aL_s e13) rfl dX3_divide_39 ?_
      refine lv_lconst (v := 1) S.1 S.2.1 dX3_divide_40 (by decide) ?_
      refine lv_ladd S.1 S.2.1 dX3_divide_41 ?_
      obtain ⟨s14, e15, h⟩ := m_bs h
      refine m_last (t := 7) S hK hP hS e15 (by decide) rfl dX3_divide_42 (fun H locs hP hS => ?_)
      refine lv_aload_n S.1 S.2.1 dX3_divide_43 rfl (lv_at hl 1 rfl) ?_
      refine lv_lload S.1 S.2.1 dX3_divide_44 (lv_at hl 4 rfl) ?_
      refine lv_lconst (v := 0) S.1 S.2.1 dX3_divide_46 (by decide) ?_
      refine W.lcmp S.1 S.2.1 dX3_divide_47 ?_
      refine lv_if_ne (tgt := 55) S.1 S.2.1 dX3_divide_48 (by decide) (fun c16 => ?_) (fun c16 => ?_)
      · replace h := m_f c16 h
        refine lv_iconst (v := 0) S.1 S.2.1 dX3_divide_55 (by decide) ?_
        obtain ⟨s17, e18, h⟩ := m_bs h
        refine m_put (ci := 3) (k := 0) (T := TX3) (N := 25) (v := .int 0) (ty := .int) S (inX3 _) tyX3 tX3 nX3 hK hP hS e18 rfl (by decide) (S.2.2.2.2 (.fieldLink RX3 71 "RuleHouse2Model" "code" "I") (m_mem (by decide +kernel))) rfl rfl (by decide +kernel) rfl rfl dX3_divide_56 (fun H locs hP hS => ?_)
        refine lv_lload S.1 S.2.1 dX3_divide_59 (lv_at hl 4 rfl) ?_
        refine lv_lconst (v := 0) S.1 S.2.1 dX3_divide_61 (by decide) ?_
        refine W.lcmp S.1 S.2.1 dX3_divide_62 ?_
        refine lv_if_ne (tgt := 70) S.1 S.2.1 dX3_divide_63 (by decide) (fun c19 => ?_) (fun c19 => ?_)
        · replace h := m_f c19 h
          refine lv_lload S.1 S.2.1 dX3_divide_70 (lv_at hl 4 rfl) ?_
          refine lv_ldc2 (v := (-1)) S.1 S.2.1 S.2.2.2.1 (S.2.2.2.2 (.constantLong RX3 94 (-1)) (m_mem (by decide +kernel))) dX3_divide_72 ?_
          refine W.lcmp S.1 S.2.1 dX3_divide_75 ?_
          refine lv_if_ne (tgt := 84) S.1 S.2.1 dX3_divide_76 (by decide) (fun c20 => ?_) (fun c20 => ?_)
          · replace h := m_f c20 h
            refine lv_lload_n S.1 S.2.1 dX3_divide_84 rfl (lv_at hl 3 rfl) ?_
            refine lv_lload S.1 S.2.1 dX3_divide_85 (lv_at hl 4 rfl) ?_
            by_cases c21 : (p3 : Int64) = 0
            · exact absurd (m_t c21 h) (fun h => by cases h)
            replace h := m_f c21 h
            refine lv_ldiv S.1 S.2.1 dX3_divide_87 c21 ?_
            obtain ⟨h1, h2⟩ := m_fin h; subst h1; subst h2
            exact m_lret S hr hlk hK hP hS (by decide +kernel) (by decide +kernel) dX3_divide_88
          · replace h := m_t c20 h
            refine lv_lload_n S.1 S.2.1 dX3_divide_79 rfl (lv_at hl 3 rfl) ?_
            refine lv_lneg S.1 S.2.1 dX3_divide_80 ?_
            refine lv_goto (tgt := 88) S.1 S.2.1 dX3_divide_81 (by decide) ?_
            obtain ⟨h1, h2⟩ := m_fin h; subst h1; subst h2
            exact m_lret S hr hlk hK hP hS (by decide +kernel) (by decide +kernel) dX3_divide_88
        · replace h := m_t c19 h
          refine lv_lconst (v := 0) S.1 S.2.1 dX3_divide_66 (by decide) ?_
          refine lv_goto (tgt := 88) S.1 S.2.1 dX3_divide_67 (by decide) ?_
          obtain ⟨h1, h2⟩ := m_fin h; subst h1; subst h2
          exact m_lret S hr hlk hK hP hS (by decide +kernel) (by decide +kernel) dX3_divide_88
      · replace h := m_t c16 h
        refine lv_iconst (v := 1) S.1 S.2.1 dX3_divide_51 (by decide) ?_
        refine lv_goto (tgt := 56) S.1 S.2.1 dX3_divide_52 (by decide) ?_
        obtain ⟨s22, e23, h⟩ := m_bs h
        refine m_put (ci := 3) (k := 0) (T := TX3) (N := 25) (v := .int 1) (ty := .int) S (inX3 _) tyX3 tX3 nX3 hK hP hS e23 rfl (by decide) (S.2.2.2.2 (.fieldLink RX3 71 "RuleHouse2Model" "code" "I") (m_mem (by decide +kernel))) rfl rfl (by decide +kernel) rfl rfl dX3_divide_56 (fun H locs hP hS => ?_)
        refine lv_lload S.1 S.2.1 dX3_divide_59 (lv_at hl 4 rfl) ?_
        refine lv_lconst (v := 0) S.1 S.2.1 dX3_divide_61 (by decide) ?_
        refine W.lcmp S.1 S.2.1 dX3_divide_62 ?_
        refine lv_if_ne (tgt := 70) S.1 S.2.1 dX3_divide_63 (by decide) (fun c24 => ?_) (fun c24 => ?_)
        · replace h := m_f c24 h
          refine lv_lload S.1 S.2.1 dX3_divide_70 (lv_at hl 4 rfl) ?_
          refine lv_ldc2 (v := (-1)) S.1 S.2.1 S.2.2.2.1 (S.2.2.2.2 (.constantLong RX3 94 (-1)) (m_mem (by decide +kernel))) dX3_divide_72 ?_
          refine W.lcmp S.1 S.2.1 dX3_divide_75 ?_
          refine lv_if_ne (tgt := 84) S.1 S.2.1 dX3_divide_76 (by decide) (fun c25 => ?_) (fun c25 => ?_)
          · replace h := m_f c25 h
            refine lv_lload_n S.1 S.2.1 dX3_divide_84 rfl (lv_at hl 3 rfl) ?_
            refine lv_lload S.1 S.2.1 dX3_divide_85 (lv_at hl 4 rfl) ?_
            by_cases c26 : (p3 : Int64) = 0
            · exact absurd (m_t c26 h) (fun h => by cases h)
            replace h := m_f c26 h
            refine lv_ldiv S.1 S.2.1 dX3_divide_87 c26 ?_
            obtain ⟨h1, h2⟩ := m_fin h; subst h1; subst h2
            exact m_lret S hr hlk hK hP hS (by decide +kernel) (by decide +kernel) dX3_divide_88
          · replace h := m_t c25 h
            refine lv_lload_n S.1 S.2.1 dX3_divide_79 rfl (lv_at hl 3 rfl) ?_
            refine lv_lneg S.1 S.2.1 dX3_divide_80 ?_
            refine lv_goto (tgt := 88) S.1 S.2.1 dX3_divide_81 (by decide) ?_
            obtain ⟨h1, h2⟩ := m_fin h; subst h1; subst h2
            exact m_lret S hr hlk hK hP hS (by decide +kernel) (by decide +kernel) dX3_divide_88
        · replace h := m_t c24 h
          refine lv_lconst (v := 0) S.1 S.2.1 dX3_divide_66 (by decide) ?_
          refine lv_goto (tgt := 88) S.1 S.2.1 dX3_divide_67 (by decide) ?_
          obtain ⟨h1, h2⟩ := m_fin h; subst h1; subst h2
          exact m_lret S hr hlk hK hP hS (by decide +kernel) (by decide +kernel) dX3_divide_88
    · replace h := m_t c8 h
      refine lv_lconst (v := 0) S.1 S.2.1 dX3_divide_30 (by decide) ?_
      obtain ⟨h1, h2⟩ := m_fin h; subst h1; subst h2
      exact m_lret S hr hlk hK hP hS (by decide +kernel) (by decide +kernel) dX3_divide_31
  · replace h := m_f c7 h
    refine lv_aload_n S.1 S.2.1 dX3_divide_13 rfl (lv_at hl 0 rfl) ?_
    refine lv_iload_n S.1 S.2.1 dX3_divide_14 rfl (lv_at hl 1 rfl) ?_
    obtain ⟨_, k30, h⟩ := m_bs h
    obtain ⟨x27, s28, e29, h⟩ := m_b_s h
    refine m_calli (va_runV (As := [.int p1]) (rest := []) S (c_X3_classOf l D tc b t0 p1 _ _ _ e29) (cwV 1 S.2.2.2.2 (m_wV kX3_classOf (by decide +kernel)) rfl rfl rfl (by decide +kernel) ⟨by decide +kernel, by decide +kernel⟩) (m_preV hK hP (m_is_s k30) rfl) rfl rfl hl.1 rfl (lv_room (by first | decide | simp [m_rfc, m_catI, m_catL, m_catA])) dX3_divide_15 ⟨by decide +kernel, by decide +kernel⟩) hS (fun H locs hP hS => ?_)
    refine lv_goto (tgt := 22) S.1 S.2.1 dX3_divide_18 (by decide) ?_
    refine lv_istore (i := 6) (lv' := [(6, .int x27), (0, .ref t0), (1, .int p1), (2, .long p2), (4, .long p3)]) S.1 S.2.1 dX3_divide_22 hl (by decide) (by first | rfl | simp [m_rfc, m_catI, m_catL, m_catA]) (fun ls hl => ?_)
    refine lv_iload S.1 S.2.1 dX3_divide_24 (lv_at hl 0 rfl) ?_
    refine lv_iconst (v := (-1)) S.1 S.2.1 dX3_divide_26 (by decide) ?_
    refine lv_icmp_ne (tgt := 32) S.1 S.2.1 dX3_divide_27 (by decide) (fun c31 => ?_) (fun c31 => ?_)
    · replace h := m_f c31 h
      refine lv_aload_n S.1 S.2.1 dX3_divide_32 rfl (lv_at hl 1 rfl) ?_
      obtain ⟨r32, e33, h⟩ := m_bs h
      refine m_get (ci := 3) (k := 11) (T := TX3) (N := 25) S (inX3 _) hK hP (m_gR_s e33) rfl (by decide) (S.2.2.2.2 (.fieldLink RX3 23 "RuleHouse2Model" "cell" "[J") (m_mem (by decide +kernel))) rfl dX3_divide_33 ?_
      refine lv_iload S.1 S.2.1 dX3_divide_36 (lv_at hl 0 rfl) ?_
      refine lv_dup2_11 S.1 S.2.1 dX3_divide_38 rfl (m_rfc _) ?_
      obtain ⟨a34, ea, g⟩ := m_bs h; clear h; subst ea; have h := g; clear g
      obtain ⟨l35, e36, h⟩ := m_bs h
      refine m_lald (t := 7) S hK hP (m_aL_s e36) rfl dX3_divide_39 ?_
      refine lv_lconst (v := 1) S.1 S.2.1 dX3_divide_40 (by decide) ?_
      refine lv_ladd S.1 S.2.1 dX3_divide_41 ?_
      obtain ⟨s37, e38, h⟩ := m_bs h
      refine m_last (t := 7) S hK hP hS e38 (by decide) rfl dX3_divide_42 (fun H locs hP hS => ?_)
      refine lv_aload_n S.1 S.2.1 dX3_divide_43 rfl (lv_at hl 1 rfl) ?_
      refine lv_lload S.1 S.2.1 dX3_divide_44 (lv_at hl 4 rfl) ?_
      refine lv_lconst (v := 0) S.1 S.2.1 dX3_divide_46 (by decide) ?_
      refine W.lcmp S.1 S.2.1 dX3_divide_47 ?_
      refine lv_if_ne (tgt := 55) S.1 S.2.1 dX3_divide_48 (by decide) (fun c39 => ?_) (fun c39 => ?_)
      · replace h := m_f c39 h
        refine lv_iconst (v := 0) S.1 S.2.1 dX3_divide_55 (by decide) ?_
        obtain ⟨s40, e41, h⟩ := m_bs h
        refine m_put (ci := 3) (k := 0) (T := TX3) (N := 25) (v := .int 0) (ty := .int) S (inX3 _) tyX3 tX3 nX3 hK hP hS e41 rfl (by decide) (S.2.2.2.2 (.fieldLink RX3 71 "RuleHouse2Model" "code" "I") (m_mem (by decide +kernel))) rfl rfl (by decide +kernel) rfl rfl dX3_divide_56 (fun H locs hP hS => ?_)
        refine lv_lload S.1 S.2.1 dX3_divide_59 (lv_at hl 4 rfl) ?_
        refine lv_lconst (v := 0) S.1 S.2.1 dX3_divide_61 (by decide) ?_
        refine W.lcmp S.1 S.2.1 dX3_divide_62 ?_
        refine lv_if_ne (tgt := 70) S.1 S.2.1 dX3_divide_63 (by decide) (fun c42 => ?_) (fun c42 => ?_)
        · replace h := m_f c42 h
          refine lv_lload S.1 S.2.1 dX3_divide_70 (lv_at hl 4 rfl) ?_
          refine lv_ldc2 (v := (-1)) S.1 S.2.1 S.2.2.2.1 (S.2.2.2.2 (.constantLong RX3 94 (-1)) (m_mem (by decide +kernel))) dX3_divide_72 ?_
          refine W.lcmp S.1 S.2.1 dX3_divide_75 ?_
          refine lv_if_ne (tgt := 84) S.1 S.2.1 dX3_divide_76 (by decide) (fun c43 => ?_) (fun c43 => ?_)
          · replace h := m_f c43 h
            refine lv_lload_n S.1 S.2.1 dX3_divide_84 rfl (lv_at hl 3 rfl) ?_
            refine lv_lload S.1 S.2.1 dX3_divide_85 (lv_at hl 4 rfl) ?_
            by_cases c44 : (p3 : Int64) = 0
            · exact absurd (m_t c44 h) (fun h => by cases h)
            replace h := m_f c44 h
            refine lv_ldiv S.1 S.2.1 dX3_divide_87 c44 ?_
            obtain ⟨h1, h2⟩ := m_fin h; subst h1; subst h2
            exact m_lret S hr hlk hK hP hS (by decide +kernel) (by decide +kernel) dX3_divide_88
          · replace h := m_t c43 h
            refine lv_lload_n S.1 S.2.1 dX3_divide_79 rfl (lv_at hl 3 rfl) ?_
            refine lv_lneg S.1 S.2.1 dX3_divide_80 ?_
            refine lv_goto (tgt := 88) S.1 S.2.1 dX3_divide_81 (by decide) ?_
            obtain ⟨h1, h2⟩ := m_fin h; subst h1; subst h2
            exact m_lret S hr hlk hK hP hS (by decide +kernel) (by decide +kernel) dX3_divide_88
        · replace h := m_t c42 h
          refine lv_lconst (v := 0) S.1 S.2.1 dX3_divide_66 (by decide) ?_
          refine lv_goto (tgt := 88) S.1 S.2.1 dX3_divide_67 (by decide) ?_
          obtain ⟨h1, h2⟩ := m_fin h; subst h1; subst h2
          exact m_lret S hr hlk hK hP hS (by decide +kernel) (by decide +kernel) dX3_divide_88
      · replace h := m_t c39 h
        refine lv_iconst (v := 1) S.1 S.2.1 dX3_divide_51 (by decide) ?_
        refine lv_goto (tgt := 56) S.1 S.2.1 dX3_divide_52 (by decide) ?_
        obtain ⟨s45, e46, h⟩ := m_bs h
        refine m_put (ci := 3) (k := 0) (T := TX3) (N := 25) (v := .int 1) (ty := .int) S (inX3 _) tyX3 tX3 nX3 hK hP hS e46 rfl (by decide) (S.2.2.2.2 (.fieldLink RX3 71 "RuleHouse2Model" "code" "I") (m_mem (by decide +kernel))) rfl rfl (by decide +kernel) rfl rfl dX3_divide_56 (fun H locs hP hS => ?_)
        refine lv_lload S.1 S.2.1 dX3_divide_59 (lv_at hl 4 rfl) ?_
        refine lv_lconst (v := 0) S.1 S.2.1 dX3_divide_61 (by decide) ?_
        refine W.lcmp S.1 S.2.1 dX3_divide_62 ?_
        refine lv_if_ne (tgt := 70) S.1 S.2.1 dX3_divide_63 (by decide) (fun c47 => ?_) (fun c47 => ?_)
        · replace h := m_f c47 h
          refine lv_lload S.1 S.2.1 dX3_divide_70 (lv_at hl 4 rfl) ?_
          refine lv_ldc2 (v := (-1)) S.1 S.2.1 S.2.2.2.1 (S.2.2.2.2 (.constantLong RX3 94 (-1)) (m_mem (by decide +kernel))) dX3_divide_72 ?_
          refine W.lcmp S.1 S.2.1 dX3_divide_75 ?_
          refine lv_if_ne (tgt := 84) S.1 S.2.1 dX3_divide_76 (by decide) (fun c48 => ?_) (fun c48 => ?_)
          · replace h := m_f c48 h
            refine lv_lload_n S.1 S.2.1 dX3_divide_84 rfl (lv_at hl 3 rfl) ?_
            refine lv_lload S.1 S.2.1 dX3_divide_85 (lv_at hl 4 rfl) ?_
            by_cases c49 : (p3 : Int64) = 0
            · exact absurd (m_t c49 h) (fun h => by cases h)
            replace h := m_f c49 h
            refine lv_ldiv S.1 S.2.1 dX3_divide_87 c49 ?_
            obtain ⟨h1, h2⟩ := m_fin h; subst h1; subst h2
            exact m_lret S hr hlk hK hP hS (by decide +kernel) (by decide +kernel) dX3_divide_88
          · replace h := m_t c48 h
            refine lv_lload_n S.1 S.2.1 dX3_divide_79 rfl (lv_at hl 3 rfl) ?_
            refine lv_lneg S.1 S.2.1 dX3_divide_80 ?_
            refine lv_goto (tgt := 88) S.1 S.2.1 dX3_divide_81 (by decide) ?_
            obtain ⟨h1, h2⟩ := m_fin h; subst h1; subst h2
            exact m_lret S hr hlk hK hP hS (by decide +kernel) (by decide +kernel) dX3_divide_88
        · replace h := m_t c47 h
          refine lv_lconst (v := 0) S.1 S.2.1 dX3_divide_66 (by decide) ?_
          refine lv_goto (tgt := 88) S.1 S.2.1 dX3_divide_67 (by decide) ?_
          obtain ⟨h1, h2⟩ := m_fin h; subst h1; subst h2
          exact m_lret S hr hlk hK hP hS (by decide +kernel) (by decide +kernel) dX3_divide_88
    · replace h := m_t c31 h
      refine lv_lconst (v := 0) S.1 S.2.1 dX3_divide_30 (by decide) ?_
      obtain ⟨h1, h2⟩ := m_fin h; subst h1; subst h2
      exact m_lret S hr hlk hK hP hS (by decide +kernel) (by decide +kernel) dX3_divide_31

def f_X3_handle (t0 : Nat) (p1 : Int32) (s0 : MS) : Option (Int32 × MS) :=
  if p1 < 0 then
    (m_p s0 3 t0 0 (.int 0)).bind fun s2 =>
    (m_gI s2 3 t0 0).bind fun x4 =>
    if x4 ≤ 0 then
      some ((-1), s2)
    else
      some (0, s2)
  else
    (m_gI s0 3 t0 6).bind fun x7 =>
    if x7 ≤ p1 then
      (m_p s0 3 t0 0 (.int 0)).bind fun s10 =>
      (m_gI s10 3 t0 0).bind fun x12 =>
      if x12 ≤ 0 then
        some ((-1), s10)
      else
        some (0, s10)
    else
      (m_p s0 3 t0 0 (.int 1)).bind fun s15 =>
      (m_gI s15 3 t0 0).bind fun x17 =>
      if x17 ≤ 0 then
        some ((-1), s15)
      else
        some (0, s15)
set_option maxHeartbeats 4000000 in
set_option maxRecDepth 100000 in
theorem c_X3_handle (l : Launch) (D : va_G) (tc : Nat → ClassId) (b : Nat) (t0 : Nat) (p1 : Int32) (s0 st' : MS) (r : Int32) (h : f_X3_handle t0 p1 s0 = some (r, st')) : Met l yX3_handle wsX3_handle ({ frames := 0, cells := 0, slots := 0, locals := 0 }) (m_Pc D vwCl (m_tys tc) b s0 [.ref t0, .int p1]) (m_Q D vwCl (m_tys tc) b (some (.int r)) st') 0 0 (m_A b) := by
  unfold f_X3_handle at h
  refine m_met (cc := cX3_handle) (maxL := 2) (ret := (some .int)) (by decide) rfl (by first | exact Nat.le_of_ble_eq_true rfl | simp [lg_sl, m_rfc, m_catI, m_catL, m_catA]) ?_
  intro p e s m below meth c ls S hr hlk hnm hK hP hl hS
  replace hl : lv_has ls 2 [(0, .ref t0), (1, .int p1)] := by first | exact hl | simpa [lv_args, m_rfc, m_catI, m_catL, m_catA] using hl
  refine lv_aload_n S.1 S.2.1 dX3_handle_0 rfl (lv_at hl 0 rfl) ?_
  refine lv_iload_n S.1 S.2.1 dX3_handle_1 rfl (lv_at hl 1 rfl) ?_
  refine lv_if_lt (tgt := 17) S.1 S.2.1 dX3_handle_2 (by decide) (fun c1 => ?_) (fun c1 => ?_)
  · replace h := m_t c1 h
    refine lv_iconst (v := 0) S.1 S.2.1 dX3_handle_17 (by decide) ?_
    obtain ⟨s2, e3, h⟩ := m_bs h
    refine m_put (ci := 3) (k := 0) (T := TX3) (N := 25) (v := .int 0) (ty := .int) S (inX3 _) tyX3 tX3 nX3 hK hP hS e3 rfl (by decide) (S.2.2.2.2 (.fieldLink RX3 71 "RuleHouse2Model" "code" "I") (m_mem (by decide +kernel))) rfl rfl (by decide +kernel) rfl rfl dX3_handle_18 (fun H locs hP hS => ?_)
    refine lv_aload_n S.1 S.2.1 dX3_handle_21 rfl (lv_at hl 0 rfl) ?_
    obtain ⟨x4, e5, h⟩ := m_bs h
    refine m_get (ci := 3) (k := 0) (T := TX3) (N := 25) S (inX3 _) hK hP (m_gI_s e5) rfl (by decide) (S.2.2.2.2 (.fieldLink RX3 71 "RuleHouse2Model" "code" "I") (m_mem (by decide +kernel))) rfl dX3_handle_22 ?_
    refine lv_if_le (tgt := 32) S.1 S.2.1 dX3_handle_25 (by decide) (fun c6 => ?_) (fun c6 => ?_)
    · replace h := m_t c6 h
      refine lv_iconst (v := (-1)) S.1 S.2.1 dX3_handle_32 (by decide) ?_
      obtain ⟨h1, h2⟩ := m_fin h; subst h1; subst h2
      exact m_iret S hr hlk hK hP hS (by decide +kernel) (by decide +kernel) dX3_handle_33
    · replace h := m_f c6 h
      refine lv_iconst (v := 0) S.1 S.2.1 dX3_handle_28 (by decide) ?_
      refine lv_goto (tgt := 33) S.1 S.2.1 dX3_handle_29 (by decide) ?_
      obtain ⟨h1, h2⟩ := m_fin h; subst h1; subst h2
      exact m_iret S hr hlk hK hP hS (by decide +kernel) (by decide +kernel) dX3_handle_33
  · replace h := m_f c1 h
    refine lv_iload_n S.1 S.2.1 dX3_handle_5 rfl (lv_at hl 1 rfl) ?_
    refine lv_aload_n S.1 S.2.1 dX3_handle_6 rfl (lv_at hl 0 rfl) ?_
    obtain ⟨x7, e8, h⟩ := m_bs h
    refine m_get (ci := 3) (k := 6) (T := TX3) (N := 25) S (inX3 _) hK hP (m_gI_s e8) rfl (by decide) (S.2.2.2.2 (.fieldLink RX3 96 "RuleHouse2Model" "handles" "I") (m_mem (by decide +kernel))) rfl dX3_handle_7 ?_
    refine lv_icmp_ge (tgt := 17) S.1 S.2.1 dX3_handle_10 (by decide) (fun c9 => ?_) (fun c9 => ?_)
    · replace h := m_t c9 h
      refine lv_iconst (v := 0) S.1 S.2.1 dX3_handle_17 (by decide) ?_
      obtain ⟨s10, e11, h⟩ := m_bs h
      refine m_put (ci := 3) (k := 0) (T := TX3) (N := 25) (v := .int 0) (ty := .int) S (inX3 _) tyX3 tX3 nX3 hK hP hS e11 rfl (by decide) (S.2.2.2.2 (.fieldLink RX3 71 "RuleHouse2Model" "code" "I") (m_mem (by decide +kernel))) rfl rfl (by decide +kernel) rfl rfl dX3_handle_18 (fun H locs hP hS => ?_)
      refine lv_aload_n S.1 S.2.1 dX3_handle_21 rfl (lv_at hl 0 rfl) ?_
      obtain ⟨x12, e13, h⟩ := m_bs h
      refine m_get (ci := 3) (k := 0) (T := TX3) (N := 25) S (inX3 _) hK hP (m_gI_s e13) rfl (by decide) (S.2.2.2.2 (.fieldLink RX3 71 "RuleHouse2Model" "code" "I") (m_mem (by decide +kernel))) rfl dX3_handle_22 ?_
      refine lv_if_le (tgt := 32) S.1 S.2.1 dX3_handle_25 (by decide) (fun c14 => ?_) (fun c14 => ?_)
      · replace h := m_t c14 h
        refine lv_iconst (v := (-1)) S.1 S.2.1 dX3_handle_32 (by decide) ?_
        obtain ⟨h1, h2⟩ := m_fin h; subst h1; subst h2
        exact m_iret S hr hlk hK hP hS (by decide +kernel) (by decide +kernel) dX3_handle_33
      · replace h := m_f c14 h
        refine lv_iconst (v := 0) S.1 S.2.1 dX3_handle_28 (by decide) ?_
        refine lv_goto (tgt := 33) S.1 S.2.1 dX3_handle_29 (by decide) ?_
        obtain ⟨h1, h2⟩ := m_fin h; subst h1; subst h2
        exact m_iret S hr hlk hK hP hS (by decide +kernel) (by decide +kernel) dX3_handle_33
    · replace h := m_f c9 h
      refine lv_iconst (v := 1) S.1 S.2.1 dX3_handle_13 (by decide) ?_
      refine lv_goto (tgt := 18) S.1 S.2.1 dX3_handle_14 (by decide) ?_
      obtain ⟨s15, e16, h⟩ := m_bs h
      refine m_put (ci := 3) (k := 0) (T := TX3) (N := 25) (v := .int 1) (ty := .int) S (inX3 _) tyX3 tX3 nX3 hK hP hS e16 rfl (by decide) (S.2.2.2.2 (.fieldLink RX3 71 "RuleHouse2Model" "code" "I") (m_mem (by decide +kernel))) rfl rfl (by decide +kernel) rfl rfl dX3_handle_18 (fun H locs hP hS => ?_)
      refine lv_aload_n S.1 S.2.1 dX3_handle_21 rfl (lv_at hl 0 rfl) ?_
      obtain ⟨x17, e18, h⟩ := m_bs h
      refine m_get (ci := 3) (k := 0) (T := TX3) (N := 25) S (inX3 _) hK hP (m_gI_s e18) rfl (by decide) (S.2.2.2.2 (.fieldLink RX3 71 "RuleHouse2Model" "code" "I") (m_mem (by decide +kernel))) rfl dX3_handle_22 ?_
      refine lv_if_le (tgt := 32) S.1 S.2.1 dX3_handle_25 (by decide) (fun c19 => ?_) (fun c19 => ?_)
      · replace h := m_t c19 h
        refine lv_iconst (v := (-1)) S.1 S.2.1 dX3_handle_32 (by decide) ?_
        obtain ⟨h1, h2⟩ := m_fin h; subst h1; subst h2
        exact m_iret S hr hlk hK hP hS (by decide +kernel) (by decide +kernel) dX3_handle_33
      · replace h := m_f c19 h
        refine lv_iconst (v := 0) S.1 S.2.1 dX3_handle_28 (by decide) ?_
        refine lv_goto (tgt := 33) S.1 S.2.1 dX3_handle_29 (by decide) ?_
        obtain ⟨h1, h2⟩ := m_fin h; subst h1; subst h2
        exact m_iret S hr hlk hK hP hS (by decide +kernel) (by decide +kernel) dX3_handle_33

def f_X3_target (t0 : Nat) (p1 : Int32) (s0 : MS) : Option (Int32 × MS) :=
  (m_p s0 3 t0 0 (.int 0)).bind fun s1 =>
  (m_is s1 3 t0).bind fun _ =>
  m_b (f_X3_isRule t0 p1 s1) fun x3 s4 =>
  if x3 = 0 then
    some ((-1), s4)
  else
    (m_gI s4 3 t0 4).bind fun x8 =>
    if x8 = 40 then
      some ((-4), s4)
    else
      (m_gR s4 3 t0 12).bind fun r11 =>
      (m_gI s4 3 t0 4).bind fun x13 =>
      r11.bind fun a15 =>
      (m_ap s4 5 a15 x13 (.int p1)).bind fun s16 =>
      (m_gI s16 3 t0 4).bind fun x18 =>
      (m_p s16 3 t0 4 (.int (x18 + 1))).bind fun s20 =>
      (m_gI s20 3 t0 4).bind fun x22 =>
      some (x22 - 1, s20)
set_option maxHeartbeats 4000000 in
set_option maxRecDepth 100000 in
theorem c_X3_target (l : Launch) (D : va_G) (tc : Nat → ClassId) (b : Nat) (t0 : Nat) (p1 : Int32) (s0 st' : MS) (r : Int32) (h : f_X3_target t0 p1 s0 = some (r, st')) : Met l yX3_target wsX3_target ({ frames := 1, cells := 0, slots := 0, locals := 21 }) (m_Pc D vwCl (m_tys tc) b s0 [.ref t0, .int p1]) (m_Q D vwCl (m_tys tc) b (some (.int r)) st') 0 0 (m_A b) := by
  unfold f_X3_target at h
  refine m_met (cc := cX3_target) (maxL := 2) (ret := (some .int)) (by decide) rfl (by first | exact Nat.le_of_ble_eq_true rfl | simp [lg_sl, m_rfc, m_catI, m_catL, m_catA]) ?_
  intro p e s m below meth c ls S hr hlk hnm hK hP hl hS
  replace hl : lv_has ls 2 [(0, .ref t0), (1, .int p1)] := by first | exact hl | simpa [lv_args, m_rfc, m_catI, m_catL, m_catA] using hl
  refine lv_aload_n S.1 S.2.1 dX3_target_0 rfl (lv_at hl 0 rfl) ?_
  refine lv_iconst (v := 0) S.1 S.2.1 dX3_target_1 (by decide) ?_
  obtain ⟨s1, e2, h⟩ := m_bs h
  refine m_put (ci := 3) (k := 0) (T := TX3) (N := 25) (v := .int 0) (ty := .int) S (inX3 _) tyX3 tX3 nX3 hK hP hS e2 rfl (by decide) (S.2.2.2.2 (.fieldLink RX3 71 "RuleHouse2Model" "code" "I") (m_mem (by decide +kernel))) rfl rfl (by decide +kernel) rfl rfl dX3_target_2 (fun H locs hP hS => ?_)
  refine lv_aload_n S.1 S.2.1 dX3_target_5 rfl (lv_at hl 0 rfl) ?_
  refine lv_iload_n S.1 S.2.1 dX3_target_6 rfl (lv_at hl 1 rfl) ?_
  obtain ⟨_, k6, h⟩ := m_bs h
  obtain ⟨x3, s4, e5, h⟩ := m_b_s h
  refine m_calli (va_runV (As := [.int p1]) (rest := []) S (c_X3_isRule l D tc b t0 p1 _ _ _ e5) (cwV 1 S.2.2.2.2 (m_wV kX3_isRule (by decide +kernel)) rfl rfl rfl (by decide +kernel) ⟨by decide +kernel, by decide +kernel⟩) (m_preV hK hP (m_is_s k6) rfl) rfl rfl hl.1 rfl (lv_room (by first | decide | simp [m_rfc, m_catI, m_catL, m_catA])) dX3_target_7 ⟨by decide +kernel, by decide +kernel⟩) hS (fun H locs hP hS => ?_)
  refine lv_if_ne (tgt := 15) S.1 S.2.1 dX3_target_10 (by decide) (fun c7 => ?_) (fun c7 => ?_)
  · replace h := m_f c7 h
    refine lv_aload_n S.1 S.2.1 dX3_target_15 rfl (lv_at hl 0 rfl) ?_
    obtain ⟨x8, e9, h⟩ := m_bs h
    refine m_get (ci := 3) (k := 4) (T := TX3) (N := 25) S (inX3 _) hK hP (m_gI_s e9) rfl (by decide) (S.2.2.2.2 (.fieldLink RX3 77 "RuleHouse2Model" "targets" "I") (m_mem (by decide +kernel))) rfl dX3_target_16 ?_
    refine lv_bipush (v := 40) S.1 S.2.1 dX3_target_19 (by decide) ?_
    refine lv_icmp_ne (tgt := 27) S.1 S.2.1 dX3_target_21 (by decide) (fun c10 => ?_) (fun c10 => ?_)
    · replace h := m_f c10 h
      refine lv_aload_n S.1 S.2.1 dX3_target_27 rfl (lv_at hl 0 rfl) ?_
      obtain ⟨r11, e12, h⟩ := m_bs h
      refine m_get (ci := 3) (k := 12) (T := TX3) (N := 25) S (inX3 _) hK hP (m_gR_s e12) rfl (by decide) (S.2.2.2.2 (.fieldLink RX3 27 "RuleHouse2Model" "rule" "[I") (m_mem (by decide +kernel))) rfl dX3_target_28 ?_
      refine lv_aload_n S.1 S.2.1 dX3_target_31 rfl (lv_at hl 0 rfl) ?_
      obtain ⟨x13, e14, h⟩ := m_bs h
      refine m_get (ci := 3) (k := 4) (T := TX3) (N := 25) S (inX3 _) hK hP (m_gI_s e14) rfl (by decide) (S.2.2.2.2 (.fieldLink RX3 77 "RuleHouse2Model" "targets" "I") (m_mem (by decide +kernel))) rfl dX3_target_32 ?_
      refine lv_iload_n S.1 S.2.1 dX3_target_35 rfl (lv_at hl 1 rfl) ?_
      obtain ⟨a15, ea, g⟩ := m_bs h; clear h; subst ea; have h := g; clear g
      obtain ⟨s16, e17, h⟩ := m_bs h
      refine m_iast (t := 5) S hK hP hS e17 (by decide) rfl dX3_target_36 (fun H locs hP hS => ?_)
      refine lv_aload_n S.1 S.2.1 dX3_target_37 rfl (lv_at hl 0 rfl) ?_
      refine lv_dup S.1 S.2.1 dX3_target_38 rfl ?_
      obtain ⟨x18, e19, h⟩ := m_bs h
      refine m_get (ci := 3) (k := 4) (T := TX3) (N := 25) S (inX3 _) hK hP (m_gI_s e19) rfl (by decide) (S.2.2.2.2 (.fieldLink RX3 77 "RuleHouse2Model" "targets" "I") (m_mem (by decide +kernel))) rfl dX3_target_39 ?_
      refine lv_iconst (v := 1) S.1 S.2.1 dX3_target_42 (by decide) ?_
      refine lv_iadd S.1 S.2.1 dX3_target_43 ?_
      obtain ⟨s20, e21, h⟩ := m_bs h
      refine m_put (ci := 3) (k := 4) (T := TX3) (N := 25) (v := .int (x18 + 1)) (ty := .int) S (inX3 _) tyX3 tX3 nX3 hK hP hS e21 rfl (by decide) (S.2.2.2.2 (.fieldLink RX3 77 "RuleHouse2Model" "targets" "I") (m_mem (by decide +kernel))) rfl rfl (by decide +kernel) rfl rfl dX3_target_44 (fun H locs hP hS => ?_)
      refine lv_aload_n S.1 S.2.1 dX3_target_47 rfl (lv_at hl 0 rfl) ?_
      obtain ⟨x22, e23, h⟩ := m_bs h
      refine m_get (ci := 3) (k := 4) (T := TX3) (N := 25) S (inX3 _) hK hP (m_gI_s e23) rfl (by decide) (S.2.2.2.2 (.fieldLink RX3 77 "RuleHouse2Model" "targets" "I") (m_mem (by decide +kernel))) rfl dX3_target_48 ?_
      refine lv_iconst (v := 1) S.1 S.2.1 dX3_target_51 (by decide) ?_
      refine lv_isub S.1 S.2.1 dX3_target_52 ?_
      obtain ⟨h1, h2⟩ := m_fin h; subst h1; subst h2
      exact m_iret S hr hlk hK hP hS (by decide +kernel) (by decide +kernel) dX3_target_53
    · replace h := m_t c10 h
      refine lv_bipush (v := (-4)) S.1 S.2.1 dX3_target_24 (by decide) ?_
      obtain ⟨h1, h2⟩ := m_fin h; subst h1; subst h2
      exact m_iret S hr hlk hK hP hS (by decide +kernel) (by decide +kernel) dX3_target_26
  · replace h := m_t c7 h
    refine lv_iconst (v := (-1)) S.1 S.2.1 dX3_target_13 (by decide) ?_
    obtain ⟨h1, h2⟩ := m_fin h; subst h1; subst h2
    exact m_iret S hr hlk hK hP hS (by decide +kernel) (by decide +kernel) dX3_target_14

def f_X3_attribute (t0 : Nat) (p1 : Int32) (p2 : Int32) (p3 : Int32) (s0 : MS) : Option (Int32 × MS) :=
  (m_p s0 3 t0 0 (.int 0)).bind fun s1 =>
  (m_is s1 3 t0).bind fun _ =>
  m_b (f_X3_isTarget t0 p1 s1) fun x3 s4 =>
  if x3 = 0 then
    some ((-1), s4)
  else
    if p2 < 0 then
      some ((-1), s4)
    else
      if p2 ≤ 3 then
        if p2 = 0 then
          if p2 = 1 then
            (m_gR s4 3 t0 21).bind fun r83 =>
            r83.bind fun a85 =>
            (m_aI s4 6 a85 p1).bind fun x86 =>
            if x86 = 0 then
              (m_gR s4 3 t0 13).bind fun r89 =>
              r89.bind fun a91 =>
              (m_aI s4 5 a91 ((4 * p1) + p2)).bind fun x92 =>
              (m_gR s4 3 t0 13).bind fun r94 =>
              r94.bind fun a96 =>
              (m_ap s4 5 a96 ((4 * p1) + p2) (.int p3)).bind fun s97 =>
              some (x92, s97)
            else
              some ((-3), s4)
          else
            if p3 < 0 then
              some ((-2), s4)
            else
              if p3 ≤ 20 then
                (m_gR s4 3 t0 21).bind fun r101 =>
                r101.bind fun a103 =>
                (m_aI s4 6 a103 p1).bind fun x104 =>
                if x104 = 0 then
                  (m_gR s4 3 t0 13).bind fun r107 =>
                  r107.bind fun a109 =>
                  (m_aI s4 5 a109 ((4 * p1) + p2)).bind fun x110 =>
                  (m_gR s4 3 t0 13).bind fun r112 =>
                  r112.bind fun a114 =>
                  (m_ap s4 5 a114 ((4 * p1) + p2) (.int p3)).bind fun s115 =>
                  some (x110, s115)
                else
                  some ((-3), s4)
              else
                some ((-2), s4)
        else
          if p2 = 2 then
            if p2 = 1 then
              (m_gR s4 3 t0 21).bind fun r48 =>
              r48.bind fun a50 =>
              (m_aI s4 6 a50 p1).bind fun x51 =>
              if x51 = 0 then
                (m_gR s4 3 t0 13).bind fun r54 =>
                r54.bind fun a56 =>
                (m_aI s4 5 a56 ((4 * p1) + p2)).bind fun x57 =>
                (m_gR s4 3 t0 13).bind fun r59 =>
                r59.bind fun a61 =>
                (m_ap s4 5 a61 ((4 * p1) + p2) (.int p3)).bind fun s62 =>
                some (x57, s62)
              else
                some ((-3), s4)
            else
              if p3 < 0 then
                some ((-2), s4)
              else
                if p3 ≤ p1 then
                  (m_gR s4 3 t0 21).bind fun r66 =>
                  r66.bind fun a68 =>
                  (m_aI s4 6 a68 p1).bind fun x69 =>
                  if x69 = 0 then
                    (m_gR s4 3 t0 13).bind fun r72 =>
                    r72.bind fun a74 =>
                    (m_aI s4 5 a74 ((4 * p1) + p2)).bind fun x75 =>
                    (m_gR s4 3 t0 13).bind fun r77 =>
                    r77.bind fun a79 =>
                    (m_ap s4 5 a79 ((4 * p1) + p2) (.int p3)).bind fun s80 =>
                    some (x75, s80)
                  else
                    some ((-3), s4)
                else
                  some ((-2), s4)
          else
            if p2 = 1 then
              (m_gR s4 3 t0 21).bind fun r13 =>
              r13.bind fun a15 =>
              (m_aI s4 6 a15 p1).bind fun x16 =>
              if x16 = 0 then
                (m_gR s4 3 t0 13).bind fun r19 =>
                r19.bind fun a21 =>
                (m_aI s4 5 a21 ((4 * p1) + p2)).bind fun x22 =>
                (m_gR s4 3 t0 13).bind fun r24 =>
                r24.bind fun a26 =>
                (m_ap s4 5 a26 ((4 * p1) + p2) (.int p3)).bind fun s27 =>
                some (x22, s27)
              else
                some ((-3), s4)
            else
              if p3 < 0 then
                some ((-2), s4)
              else
                if p3 ≤ 1 then
                  (m_gR s4 3 t0 21).bind fun r31 =>
                  r31.bind fun a33 =>
                  (m_aI s4 6 a33 p1).bind fun x34 =>
                  if x34 = 0 then
                    (m_gR s4 3 t0 13).bind fun r37 =>
                    r37.bind fun a39 =>
                    (m_aI s4 5 a39 ((4 * p1) + p2)).bind fun x40 =>
                    (m_gR s4 3 t0 13).bind fun r42 =>
                    r42.bind fun a44 =>
                    (m_ap s4 5 a44 ((4 * p1) + p2) (.int p3)).bind fun s45 =>
                    some (x40, s45)
                  else
                    some ((-3), s4)
                else
                  some ((-2), s4)
      else
        some ((-1), s4)
set_option maxHeartbeats 4000000 in
set_option maxRecDepth 100000 in
theorem c_X3_attribute (l : Launch) (D : va_G) (tc : Nat → ClassId) (b : Nat) (t0 : Nat) (p1 : Int32) (p2 : Int32) (p3 : Int32) (s0 st' : MS) (r : Int32) (h : f_X3_attribute t0 p1 p2 p3 s0 = some (r, st')) : Met l yX3_attribute wsX3_attribute ({ frames := 1, cells := 0, slots := 0, locals := 21 }) (m_Pc D vwCl (m_tys tc) b s0 [.ref t0, .int p1, .int p2, .int p3]) (m_Q D vwCl (m_tys tc) b (some (.int r)) st') 0 0 (m_A b) := by
  unfold f_X3_attribute at h
  refine m_met (cc := cX3_attribute) (maxL := 6) (ret := (some .int)) (by decide) rfl (by first | exact Nat.le_of_ble_eq_true rfl | simp [lg_sl, m_rfc, m_catI, m_catL, m_catA]) ?_
  intro p e s m below meth c ls S hr hlk hnm hK hP hl hS
  replace hl : lv_has ls 6 [(0, .ref t0), (1, .int p1), (2, .int p2), (3, .int p3)] := by first | exact hl | simpa [lv_args, m_rfc, m_catI, m_catL, m_catA] using hl
  refine lv_aload_n S.1 S.2.1 dX3_attribute_0 rfl (lv_at hl 0 rfl) ?_
  refine lv_iconst (v := 0) S.1 S.2.1 dX3_attribute_1 (by decide) ?_
  obtain ⟨s1, e2, h⟩ := m_bs h
  refine m_put (ci := 3) (k := 0) (T := TX3) (N := 25) (v := .int 0) (ty := .int) S (inX3 _) tyX3 tX3 nX3 hK hP hS e2 rfl (by decide) (S.2.2.2.2 (.fieldLink RX3 71 "RuleHouse2Model" "code" "I") (m_mem (by decide +kernel))) rfl rfl (by decide +kernel) rfl rfl dX3_attribute_2 (fun H locs hP hS => ?_)
  refine lv_aload_n S.1 S.2.1 dX3_attribute_5 rfl (lv_at hl 0 rfl) ?_
  refine lv_iload_n S.1 S.2.1 dX3_attribute_6 rfl (lv_at hl 1 rfl) ?_
  obtain ⟨_, k6, h⟩ := m_bs h
  obtain ⟨x3, s4, e5, h⟩ := m_b_s h
  refine m_calli (va_runV (As := [.int p1]) (rest := []) S (c_X3_isTarget l D tc b t0 p1 _ _ _ e5) (cwV 1 S.2.2.2.2 (m_wV kX3_isTarget (by decide +kernel)) rfl rfl rfl (by decide +kernel) ⟨by decide +kernel, by decide +kernel⟩) (m_preV hK hP (m_is_s k6) rfl) rfl rfl hl.1 rfl (lv_room (by first | decide | simp [m_rfc, m_catI, m_catL, m_catA])) dX3_attribute_7 ⟨by decide +kernel, by decide +kernel⟩) hS (fun H locs hP hS => ?_)
  refine lv_if_eq (tgt := 22) S.1 S.2.1 dX3_attribute_10 (by decide) (fun c7 => ?_) (fun c7 => ?_)
  · replace h := m_t c7 h
    refine lv_iconst (v := (-1)) S.1 S.2.1 dX3_attribute_22 (by decide) ?_
    obtain ⟨h1, h2⟩ := m_fin h; subst h1; subst h2
    exact m_iret S hr hlk hK hP hS (by decide +kernel) (by decide +kernel) dX3_attribute_23
  · replace h := m_f c7 h
    refine lv_iload_n S.1 S.2.1 dX3_attribute_13 rfl (lv_at hl 2 rfl) ?_
    refine lv_if_lt (tgt := 22) S.1 S.2.1 dX3_attribute_14 (by decide) (fun c8 => ?_) (fun c8 => ?_)
    · replace h := m_t c8 h
      refine lv_iconst (v := (-1)) S.1 S.2.1 dX3_attribute_22 (by decide) ?_
      obtain ⟨h1, h2⟩ := m_fin h; subst h1; subst h2
      exact m_iret S hr hlk hK hP hS (by decide +kernel) (by decide +kernel) dX3_attribute_23
    · replace h := m_f c8 h
      refine lv_iload_n S.1 S.2.1 dX3_attribute_17 rfl (lv_at hl 2 rfl) ?_
      refine lv_iconst (v := 3) S.1 S.2.1 dX3_attribute_18 (by decide) ?_
      refine lv_icmp_le (tgt := 24) S.1 S.2.1 dX3_attribute_19 (by decide) (fun c9 => ?_) (fun c9 => ?_)
      · replace h := m_t c9 h
        refine lv_iload_n S.1 S.2.1 dX3_attribute_24 rfl (lv_at hl 2 rfl) ?_
        refine lv_if_ne (tgt := 33) S.1 S.2.1 dX3_attribute_25 (by decide) (fun c10 => ?_) (fun c10 => ?_)
        · replace h := m_f c10 h
          refine lv_iload_n S.1 S.2.1 dX3_attribute_33 rfl (lv_at hl 2 rfl) ?_
          refine lv_iconst (v := 2) S.1 S.2.1 dX3_attribute_34 (by decide) ?_
          refine lv_icmp_ne (tgt := 42) S.1 S.2.1 dX3_attribute_35 (by decide) (fun c11 => ?_) (fun c11 => ?_)
          · replace h := m_f c11 h
            refine lv_iconst (v := 1) S.1 S.2.1 dX3_attribute_42 (by decide) ?_
            refine lv_istore (i := 4) (lv' := [(4, .int 1), (0, .ref t0), (1, .int p1), (2, .int p2), (3, .int p3)]) S.1 S.2.1 dX3_attribute_43 hl (by decide) (by first | rfl | simp [m_rfc, m_catI, m_catL, m_catA]) (fun ls hl => ?_)
            refine lv_iload_n S.1 S.2.1 dX3_attribute_45 rfl (lv_at hl 3 rfl) ?_
            refine lv_iconst (v := 1) S.1 S.2.1 dX3_attribute_46 (by decide) ?_
            refine lv_icmp_eq (tgt := 63) S.1 S.2.1 dX3_attribute_47 (by decide) (fun c12 => ?_) (fun c12 => ?_)
            · replace h := m_t c12 h
              refine lv_aload_n S.1 S.2.1 dX3_attribute_63 rfl (lv_at hl 1 rfl) ?_
              obtain ⟨r13, e14, h⟩ := m_bs h
              refine m_get (ci := 3) (k := 21) (T := TX3) (N := 25) S (inX3 _) hK hP (m_gR_s e14) rfl (by decide) (S.2.2.2.2 (.fieldLink RX3 54 "RuleHouse2Model" "run" "[Z") (m_mem (by decide +kernel))) rfl dX3_attribute_64 ?_
              refine lv_iload_n S.1 S.2.1 dX3_attribute_67 rfl (lv_at hl 2 rfl) ?_
              obtain ⟨a15, ea, g⟩ := m_bs h; clear h; subst ea; have h := g; clear g
              obtain ⟨x16, e17, h⟩ := m_bs h
              refine m_zald (t := 6) S hK hP (m_aI_s e17) rfl dX3_attribute_68 ?_
              refine lv_if_eq (tgt := 75) S.1 S.2.1 dX3_attribute_69 (by decide) (fun c18 => ?_) (fun c18 => ?_)
              · replace h := m_t c18 h
                refine lv_aload_n S.1 S.2.1 dX3_attribute_75 rfl (lv_at hl 1 rfl) ?_
                obtain ⟨r19, e20, h⟩ := m_bs h
                refine m_get (ci := 3) (k := 13) (T := TX3) (N := 25) S (inX3 _) hK hP (m_gR_s e20) rfl (by decide) (S.2.2.2.2 (.fieldLink RX3 30 "RuleHouse2Model" "attributes" "[I") (m_mem (by decide +kernel))) rfl dX3_attribute_76 ?_
                refine lv_iconst (v := 4) S.1 S.2.1 dX3_attribute_79 (by decide) ?_
                refine lv_iload_n S.1 S.2.1 dX3_attribute_80 rfl (lv_at hl 2 rfl) ?_
                refine lv_imul S.1 S.2.1 dX3_attribute_81 ?_
                refine lv_iload_n S.1 S.2.1 dX3_attribute_82 rfl (lv_at hl 3 rfl) ?_
                refine lv_iadd S.1 S.2.1 dX3_attribute_83 ?_
                obtain ⟨a21, ea, g⟩ := m_bs h; clear h; subst ea; have h := g; clear g
                obtain ⟨x22, e23, h⟩ := m_bs h
                refine m_iald (t := 5) S hK hP (m_aI_s e23) rfl dX3_attribute_84 ?_
                refine lv_istore (i := 5) (lv' := [(5, .int x22), (4, .int 1), (0, .ref t0), (1, .int p1), (2, .int p2), (3, .int p3)]) S.1 S.2.1 dX3_attribute_85 hl (by decide) (by first | rfl | simp [m_rfc, m_catI, m_catL, m_catA]) (fun ls hl => ?_)
                refine lv_aload_n S.1 S.2.1 dX3_attribute_87 rfl (lv_at hl 2 rfl) ?_
                obtain ⟨r24, e25, h⟩ := m_bs h
                refine m_get (ci := 3) (k := 13) (T := TX3) (N := 25) S (inX3 _) hK hP (m_gR_s e25) rfl (by decide) (S.2.2.2.2 (.fieldLink RX3 30 "RuleHouse2Model" "attributes" "[I") (m_mem (by decide +kernel))) rfl dX3_attribute_88 ?_
                refine lv_iconst (v := 4) S.1 S.2.1 dX3_attribute_91 (by decide) ?_
                refine lv_iload_n S.1 S.2.1 dX3_attribute_92 rfl (lv_at hl 3 rfl) ?_
                refine lv_imul S.1 S.2.1 dX3_attribute_93 ?_
                refine lv_iload_n S.1 S.2.1 dX3_attribute_94 rfl (lv_at hl 4 rfl) ?_
                refine lv_iadd S.1 S.2.1 dX3_attribute_95 ?_
                refine lv_iload_n S.1 S.2.1 dX3_attribute_96 rfl (lv_at hl 5 rfl) ?_
                obtain ⟨a26, ea, g⟩ := m_bs h; clear h; subst ea; have h := g; clear g
                obtain ⟨s27, e28, h⟩ := m_bs h
                refine m_iast (t := 5) S hK hP hS e28 (by decide) rfl dX3_attribute_97 (fun H locs hP hS => ?_)
                refine lv_iload S.1 S.2.1 dX3_attribute_98 (lv_at hl 0 rfl) ?_
                obtain ⟨h1, h2⟩ := m_fin h; subst h1; subst h2
                exact m_iret S hr hlk hK hP hS (by decide +kernel) (by decide +kernel) dX3_attribute_100
              · replace h := m_f c18 h
                refine lv_bipush (v := (-3)) S.1 S.2.1 dX3_attribute_72 (by decide) ?_
                obtain ⟨h1, h2⟩ := m_fin h; subst h1; subst h2
                exact m_iret S hr hlk hK hP hS (by decide +kernel) (by decide +kernel) dX3_attribute_74
            · replace h := m_f c12 h
              refine lv_iload_n S.1 S.2.1 dX3_attribute_50 rfl (lv_at hl 4 rfl) ?_
              refine lv_if_lt (tgt := 60) S.1 S.2.1 dX3_attribute_51 (by decide) (fun c29 => ?_) (fun c29 => ?_)
              · replace h := m_t c29 h
                refine lv_bipush (v := (-2)) S.1 S.2.1 dX3_attribute_60 (by decide) ?_
                obtain ⟨h1, h2⟩ := m_fin h; subst h1; subst h2
                exact m_iret S hr hlk hK hP hS (by decide +kernel) (by decide +kernel) dX3_attribute_62
              · replace h := m_f c29 h
                refine lv_iload_n S.1 S.2.1 dX3_attribute_54 rfl (lv_at hl 4 rfl) ?_
                refine lv_iload S.1 S.2.1 dX3_attribute_55 (lv_at hl 0 rfl) ?_
                refine lv_icmp_le (tgt := 63) S.1 S.2.1 dX3_attribute_57 (by decide) (fun c30 => ?_) (fun c30 => ?_)
                · replace h := m_t c30 h
                  refine lv_aload_n S.1 S.2.1 dX3_attribute_63 rfl (lv_at hl 1 rfl) ?_
                  obtain ⟨r31, e32, h⟩ := m_bs h
                  refine m_get (ci := 3) (k := 21) (T := TX3) (N := 25) S (inX3 _) hK hP (m_gR_s e32) rfl (by decide) (S.2.2.2.2 (.fieldLink RX3 54 "RuleHouse2Model" "run" "[Z") (m_mem (by decide +kernel))) rfl dX3_attribute_64 ?_
                  refine lv_iload_n S.1 S.2.1 dX3_attribute_67 rfl (lv_at hl 2 rfl) ?_
                  obtain ⟨a33, ea, g⟩ := m_bs h; clear h; subst ea; have h := g; clear g
                  obtain ⟨x34, e35, h⟩ := m_bs h
                  refine m_zald (t := 6) S hK hP (m_aI_s e35) rfl dX3_attribute_68 ?_
                  refine lv_if_eq (tgt := 75) S.1 S.2.1 dX3_attribute_69 (by decide) (fun c36 => ?_) (fun c36 => ?_)
                  · replace h := m_t c36 h
                    refine lv_aload_n S.1 S.2.1 dX3_attribute_75 rfl (lv_at hl 1 rfl) ?_
                    obtain ⟨r37, e38, h⟩ := m_bs h
                    refine m_get (ci := 3) (k := 13) (T := TX3) (N := 25) S (inX3 _) hK hP (m_gR_s e38) rfl (by decide) (S.2.2.2.2 (.fieldLink RX3 30 "RuleHouse2Model" "attributes" "[I") (m_mem (by decide +kernel))) rfl dX3_attribute_76 ?_
                    refine lv_iconst (v := 4) S.1 S.2.1 dX3_attribute_79 (by decide) ?_
                    refine lv_iload_n S.1 S.2.1 dX3_attribute_80 rfl (lv_at hl 2 rfl) ?_
                    refine lv_imul S.1 S.2.1 dX3_attribute_81 ?_
                    refine lv_iload_n S.1 S.2.1 dX3_attribute_82 rfl (lv_at hl 3 rfl) ?_
                    refine lv_iadd S.1 S.2.1 dX3_attribute_83 ?_
                    obtain ⟨a39, ea, g⟩ := m_bs h; clear h; subst ea; have h := g; clear g
                    obtain ⟨x40, e41, h⟩ := m_bs h
                    refine m_iald (t := 5) S hK hP (m_aI_s e41) rfl dX3_attribute_84 ?_
                    refine lv_istore (i := 5) (lv' := [(5, .int x40), (4, .int 1), (0, .ref t0), (1, .int p1), (2, .int p2), (3, .int p3)]) S.1 S.2.1 dX3_attribute_85 hl (by decide) (by first | rfl | simp [m_rfc, m_catI, m_catL, m_catA]) (fun ls hl => ?_)
                    refine lv_aload_n S.1 S.2.1 dX3_attribute_87 rfl (lv_at hl 2 rfl) ?_
                    obtain ⟨r42, e43, h⟩ := m_bs h
                    refine m_get (ci := 3) (k := 13) (T := TX3) (N := 25) S (inX3 _) hK hP (m_gR_s e43) rfl (by decide) (S.2.2.2.2 (.fieldLink RX3 30 "RuleHouse2Model" "attributes" "[I") (m_mem (by decide +kernel))) rfl dX3_attribute_88 ?_
                    refine lv_iconst (v := 4) S.1 S.2.1 dX3_attribute_91 (by decide) ?_
                    refine lv_iload_n S.1 S.2.1 dX3_attribute_92 rfl (lv_at hl 3 rfl) ?_
                    refine lv_imul S.1 S.2.1 dX3_attribute_93 ?_
                    refine lv_iload_n S.1 S.2.1 dX3_attribute_94 rfl (lv_at hl 4 rfl) ?_
                    refine lv_iadd S.1 S.2.1 dX3_attribute_95 ?_
                    refine lv_iload_n S.1 S.2.1 dX3_attribute_96 rfl (lv_at hl 5 rfl) ?_
                    obtain ⟨a44, ea, g⟩ := m_bs h; clear h; subst ea; have h := g; clear g
                    obtain ⟨s45, e46, h⟩ := m_bs h
                    refine m_iast (t := 5) S hK hP hS e46 (by decide) rfl dX3_attribute_97 (fun H locs hP hS => ?_)
                    refine lv_iload S.1 S.2.1 dX3_attribute_98 (lv_at hl 0 rfl) ?_
                    obtain ⟨h1, h2⟩ := m_fin h; subst h1; subst h2
                    exact m_iret S hr hlk hK hP hS (by decide +kernel) (by decide +kernel) dX3_attribute_100
                  · replace h := m_f c36 h
                    refine lv_bipush (v := (-3)) S.1 S.2.1 dX3_attribute_72 (by decide) ?_
                    obtain ⟨h1, h2⟩ := m_fin h; subst h1; subst h2
                    exact m_iret S hr hlk hK hP hS (by decide +kernel) (by decide +kernel) dX3_attribute_74
                · replace h := m_f c30 h
                  refine lv_bipush (v := (-2)) S.1 S.2.1 dX3_attribute_60 (by decide) ?_
                  obtain ⟨h1, h2⟩ := m_fin h; subst h1; subst h2
                  exact m_iret S hr hlk hK hP hS (by decide +kernel) (by decide +kernel) dX3_attribute_62
          · replace h := m_t c11 h
            refine lv_iload_n S.1 S.2.1 dX3_attribute_38 rfl (lv_at hl 1 rfl) ?_
            refine lv_goto (tgt := 43) S.1 S.2.1 dX3_attribute_39 (by decide) ?_
            refine lv_istore (i := 4) (lv' := [(4, .int p1), (0, .ref t0), (1, .int p1), (2, .int p2), (3, .int p3)]) S.1 S.2.1 dX3_attribute_43 hl (by decide) (by first | rfl | simp [m_rfc, m_catI, m_catL, m_catA]) (fun ls hl => ?_)
            refine lv_iload_n S.1 S.2.1 dX3_attribute_45 rfl (lv_at hl 3 rfl) ?_
            refine lv_iconst (v := 1) S.1 S.2.1 dX3_attribute_46 (by decide) ?_
            refine lv_icmp_eq (tgt := 63) S.1 S.2.1 dX3_attribute_47 (by decide) (fun c47 => ?_) (fun c47 => ?_)
            · replace h := m_t c47 h
              refine lv_aload_n S.1 S.2.1 dX3_attribute_63 rfl (lv_at hl 1 rfl) ?_
              obtain ⟨r48, e49, h⟩ := m_bs h
              refine m_get (ci := 3) (k := 21) (T := TX3) (N := 25) S (inX3 _) hK hP (m_gR_s e49) rfl (by decide) (S.2.2.2.2 (.fieldLink RX3 54 "RuleHouse2Model" "run" "[Z") (m_mem (by decide +kernel))) rfl dX3_attribute_64 ?_
              refine lv_iload_n S.1 S.2.1 dX3_attribute_67 rfl (lv_at hl 2 rfl) ?_
              obtain ⟨a50, ea, g⟩ := m_bs h; clear h; subst ea; have h := g; clear g
              obtain ⟨x51, e52, h⟩ := m_bs h
              refine m_zald (t := 6) S hK hP (m_aI_s e52) rfl dX3_attribute_68 ?_
              refine lv_if_eq (tgt := 75) S.1 S.2.1 dX3_attribute_69 (by decide) (fun c53 => ?_) (fun c53 => ?_)
              · replace h := m_t c53 h
                refine lv_aload_n S.1 S.2.1 dX3_attribute_75 rfl (lv_at hl 1 rfl) ?_
                obtain ⟨r54, e55, h⟩ := m_bs h
                refine m_get (ci := 3) (k := 13) (T := TX3) (N := 25) S (inX3 _) hK hP (m_gR_s e55) rfl (by decide) (S.2.2.2.2 (.fieldLink RX3 30 "RuleHouse2Model" "attributes" "[I") (m_mem (by decide +kernel))) rfl dX3_attribute_76 ?_
                refine lv_iconst (v := 4) S.1 S.2.1 dX3_attribute_79 (by decide) ?_
                refine lv_iload_n S.1 S.2.1 dX3_attribute_80 rfl (lv_at hl 2 rfl) ?_
                refine lv_imul S.1 S.2.1 dX3_attribute_81 ?_
                refine lv_iload_n S.1 S.2.1 dX3_attribute_82 rfl (lv_at hl 3 rfl) ?_
                refine lv_iadd S.1 S.2.1 dX3_attribute_83 ?_
                obtain ⟨a56, ea, g⟩ := m_bs h; clear h; subst ea; have h := g; clear g
                obtain ⟨x57, e58, h⟩ := m_bs h
                refine m_iald (t := 5) S hK hP (m_aI_s e58) rfl dX3_attribute_84 ?_
                refine lv_istore (i := 5) (lv' := [(5, .int x57), (4, .int p1), (0, .ref t0), (1, .int p1), (2, .int p2), (3, .int p3)]) S.1 S.2.1 dX3_attribute_85 hl (by decide) (by first | rfl | simp [m_rfc, m_catI, m_catL, m_catA]) (fun ls hl => ?_)
                refine lv_aload_n S.1 S.2.1 dX3_attribute_87 rfl (lv_at hl 2 rfl) ?_
                obtain ⟨r59, e60, h⟩ := m_bs h
                refine m_get (ci := 3) (k := 13) (T := TX3) (N := 25) S (inX3 _) hK hP (m_gR_s e60) rfl (by decide) (S.2.2.2.2 (.fieldLink RX3 30 "RuleHouse2Model" "attributes" "[I") (m_mem (by decide +kernel))) rfl dX3_attribute_88 ?_
                refine lv_iconst (v := 4) S.1 S.2.1 dX3_attribute_91 (by decide) ?_
                refine lv_iload_n S.1 S.2.1 dX3_attribute_92 rfl (lv_at hl 3 rfl) ?_
                refine lv_imul S.1 S.2.1 dX3_attribute_93 ?_
                refine lv_iload_n S.1 S.2.1 dX3_attribute_94 rfl (lv_at hl 4 rfl) ?_
                refine lv_iadd S.1 S.2.1 dX3_attribute_95 ?_
                refine lv_iload_n S.1 S.2.1 dX3_attribute_96 rfl (lv_at hl 5 rfl) ?_
                obtain ⟨a61, ea, g⟩ := m_bs h; clear h; subst ea; have h := g; clear g
                obtain ⟨s62, e63, h⟩ := m_bs h
                refine m_iast (t := 5) S hK hP hS e63 (by decide) rfl dX3_attribute_97 (fun H locs hP hS => ?_)
                refine lv_iload S.1 S.2.1 dX3_attribute_98 (lv_at hl 0 rfl) ?_
                obtain ⟨h1, h2⟩ := m_fin h; subst h1; subst h2
                exact m_iret S hr hlk hK hP hS (by decide +kernel) (by decide +kernel) dX3_attribute_100
              · replace h := m_f c53 h
                refine lv_bipush (v := (-3)) S.1 S.2.1 dX3_attribute_72 (by decide) ?_
                obtain ⟨h1, h2⟩ := m_fin h; subst h1; subst h2
                exact m_iret S hr hlk hK hP hS (by decide +kernel) (by decide +kernel) dX3_attribute_74
            · replace h := m_f c47 h
              refine lv_iload_n S.1 S.2.1 dX3_attribute_50 rfl (lv_at hl 4 rfl) ?_
              refine lv_if_lt (tgt := 60) S.1 S.2.1 dX3_attribute_51 (by decide) (fun c64 => ?_) (fun c64 => ?_)
              · replace h := m_t c64 h
                refine lv_bipush (v := (-2)) S.1 S.2.1 dX3_attribute_60 (by decide) ?_
                obtain ⟨h1, h2⟩ := m_fin h; subst h1; subst h2
                exact m_iret S hr hlk hK hP hS (by decide +kernel) (by decide +kernel) dX3_attribute_62
              · replace h := m_f c64 h
                refine lv_iload_n S.1 S.2.1 dX3_attribute_54 rfl (lv_at hl 4 rfl) ?_
                refine lv_iload S.1 S.2.1 dX3_attribute_55 (lv_at hl 0 rfl) ?_
                refine lv_icmp_le (tgt := 63) S.1 S.2.1 dX3_attribute_57 (by decide) (fun c65 => ?_) (fun c65 => ?_)
                · replace h := m_t c65 h
                  refine lv_aload_n S.1 S.2.1 dX3_attribute_63 rfl (lv_at hl 1 rfl) ?_
                  obtain ⟨r66, e67, h⟩ := m_bs h
                  refine m_get (ci := 3) (k := 21) (T := TX3) (N := 25) S (inX3 _) hK hP (m_gR_s e67) rfl (by decide) (S.2.2.2.2 (.fieldLink RX3 54 "RuleHouse2Model" "run" "[Z") (m_mem (by decide +kernel))) rfl dX3_attribute_64 ?_
                  refine lv_iload_n S.1 S.2.1 dX3_attribute_67 rfl (lv_at hl 2 rfl) ?_
                  obtain ⟨a68, ea, g⟩ := m_bs h; clear h; subst ea; have h := g; clear g
                  obtain ⟨x69, e70, h⟩ := m_bs h
                  refine m_zald (t := 6) S hK hP (m_aI_s e70) rfl dX3_attribute_68 ?_
                  refine lv_if_eq (tgt := 75) S.1 S.2.1 dX3_attribute_69 (by decide) (fun c71 => ?_) (fun c71 => ?_)
                  · replace h := m_t c71 h
                    refine lv_aload_n S.1 S.2.1 dX3_attribute_75 rfl (lv_at hl 1 rfl) ?_
                    obtain ⟨r72, e73, h⟩ := m_bs h
                    refine m_get (ci := 3) (k := 13) (T := TX3) (N := 25) S (inX3 _) hK hP (m_gR_s e73) rfl (by decide) (S.2.2.2.2 (.fieldLink RX3 30 "RuleHouse2Model" "attributes" "[I") (m_mem (by decide +kernel))) rfl dX3_attribute_76 ?_
                    refine lv_iconst (v := 4) S.1 S.2.1 dX3_attribute_79 (by decide) ?_
                    refine lv_iload_n S.1 S.2.1 dX3_attribute_80 rfl (lv_at hl 2 rfl) ?_
                    refine lv_imul S.1 S.2.1 dX3_attribute_81 ?_
                    refine lv_iload_n S.1 S.2.1 dX3_attribute_82 rfl (lv_at hl 3 rfl) ?_
                    refine lv_iadd S.1 S.2.1 dX3_attribute_83 ?_
                    obtain ⟨a74, ea, g⟩ := m_bs h; clear h; subst ea; have h := g; clear g
                    obtain ⟨x75, e76, h⟩ := m_bs h
                    refine m_iald (t := 5) S hK hP (m_aI_s e76) rfl dX3_attribute_84 ?_
                    refine lv_istore (i := 5) (lv' := [(5, .int x75), (4, .int p1), (0, .ref t0), (1, .int p1), (2, .int p2), (3, .int p3)]) S.1 S.2.1 dX3_attribute_85 hl (by decide) (by first | rfl | simp [m_rfc, m_catI, m_catL, m_catA]) (fun ls hl => ?_)
                    refine lv_aload_n S.1 S.2.1 dX3_attribute_87 rfl (lv_at hl 2 rfl) ?_
                    obtain ⟨r77, e78, h⟩ := m_bs h
                    refine m_get (ci := 3) (k := 13) (T := TX3) (N := 25) S (inX3 _) hK hP (m_gR_s e78) rfl (by decide) (S.2.2.2.2 (.fieldLink RX3 30 "RuleHouse2Model" "attributes" "[I") (m_mem (by decide +kernel))) rfl dX3_attribute_88 ?_
                    refine lv_iconst (v := 4) S.1 S.2.1 dX3_attribute_91 (by decide) ?_
                    refine lv_iload_n S.1 S.2.1 dX3_attribute_92 rfl (lv_at hl 3 rfl) ?_
                    refine lv_imul S.1 S.2.1 dX3_attribute_93 ?_
                    refine lv_iload_n S.1 S.2.1 dX3_attribute_94 rfl (lv_at hl 4 rfl) ?_
                    refine lv_iadd S.1 S.2.1 dX3_attribute_95 ?_
                    refine lv_iload_n S.1 S.2.1 dX3_attribute_96 rfl (lv_at hl 5 rfl) ?_
                    obtain ⟨a79, ea, g⟩ := m_bs h; clear h; subst ea; have h := g; clear g
                    obtain ⟨s80, e81, h⟩ := m_bs h
                    refine m_iast (t := 5) S hK hP hS e81 (by decide) rfl dX3_attribute_97 (fun H locs hP hS => ?_)
                    refine lv_iload S.1 S.2.1 dX3_attribute_98 (lv_at hl 0 rfl) ?_
                    obtain ⟨h1, h2⟩ := m_fin h; subst h1; subst h2
                    exact m_iret S hr hlk hK hP hS (by decide +kernel) (by decide +kernel) dX3_attribute_100
                  · replace h := m_f c71 h
                    refine lv_bipush (v := (-3)) S.1 S.2.1 dX3_attribute_72 (by decide) ?_
                    obtain ⟨h1, h2⟩ := m_fin h; subst h1; subst h2
                    exact m_iret S hr hlk hK hP hS (by decide +kernel) (by decide +kernel) dX3_attribute_74
                · replace h := m_f c65 h
                  refine lv_bipush (v := (-2)) S.1 S.2.1 dX3_attribute_60 (by decide) ?_
                  obtain ⟨h1, h2⟩ := m_fin h; subst h1; subst h2
                  exact m_iret S hr hlk hK hP hS (by decide +kernel) (by decide +kernel) dX3_attribute_62
        · replace h := m_t c10 h
          refine lv_bipush (v := 20) S.1 S.2.1 dX3_attribute_28 (by decide) ?_
          refine lv_goto (tgt := 43) S.1 S.2.1 dX3_attribute_30 (by decide) ?_
          refine lv_istore (i := 4) (lv' := [(4, .int 20), (0, .ref t0), (1, .int p1), (2, .int p2), (3, .int p3)]) S.1 S.2.1 dX3_attribute_43 hl (by decide) (by first | rfl | simp [m_rfc, m_catI, m_catL, m_catA]) (fun ls hl => ?_)
          refine lv_iload_n S.1 S.2.1 dX3_attribute_45 rfl (lv_at hl 3 rfl) ?_
          refine lv_iconst (v := 1) S.1 S.2.1 dX3_attribute_46 (by decide) ?_
          refine lv_icmp_eq (tgt := 63) S.1 S.2.1 dX3_attribute_47 (by decide) (fun c82 => ?_) (fun c82 => ?_)
          · replace h := m_t c82 h
            refine lv_aload_n S.1 S.2.1 dX3_attribute_63 rfl (lv_at hl 1 rfl) ?_
            obtain ⟨r83, e84, h⟩ := m_bs h
            refine m_get (ci := 3) (k := 21) (T := TX3) (N := 25) S (inX3 _) hK hP (m_gR_s e84) rfl (by decide) (S.2.2.2.2 (.fieldLink RX3 54 "RuleHouse2Model" "run" "[Z") (m_mem (by decide +kernel))) rfl dX3_attribute_64 ?_
            refine lv_iload_n S.1 S.2.1 dX3_attribute_67 rfl (lv_at hl 2 rfl) ?_
            obtain ⟨a85, ea, g⟩ := m_bs h; clear h; subst ea; have h := g; clear g
            obtain ⟨x86, e87, h⟩ := m_bs h
            refine m_zald (t := 6) S hK hP (m_aI_s e87) rfl dX3_attribute_68 ?_
            refine lv_if_eq (tgt := 75) S.1 S.2.1 dX3_attribute_69 (by decide) (fun c88 => ?_) (fun c88 => ?_)
            · replace h := m_t c88 h
              refine lv_aload_n S.1 S.2.1 dX3_attribute_75 rfl (lv_at hl 1 rfl) ?_
              obtain ⟨r89, e90, h⟩ := m_bs h
              refine m_get (ci := 3) (k := 13) (T := TX3) (N := 25) S (inX3 _) hK hP (m_gR_s e90) rfl (by decide) (S.2.2.2.2 (.fieldLink RX3 30 "RuleHouse2Model" "attributes" "[I") (m_mem (by decide +kernel))) rfl dX3_attribute_76 ?_
              refine lv_iconst (v := 4) S.1 S.2.1 dX3_attribute_79 (by decide) ?_
              refine lv_iload_n S.1 S.2.1 dX3_attribute_80 rfl (lv_at hl 2 rfl) ?_
              refine lv_imul S.1 S.2.1 dX3_attribute_81 ?_
              refine lv_iload_n S.1 S.2.1 dX3_attribute_82 rfl (lv_at hl 3 rfl) ?_
              refine lv_iadd S.1 S.2.1 dX3_attribute_83 ?_
              obtain ⟨a91, ea, g⟩ := m_bs h; clear h; subst ea; have h := g; clear g
              obtain ⟨x92, e93, h⟩ := m_bs h
              refine m_iald (t := 5) S hK hP (m_aI_s e93) rfl dX3_attribute_84 ?_
              refine lv_istore (i := 5) (lv' := [(5, .int x92), (4, .int 20), (0, .ref t0), (1, .int p1), (2, .int p2), (3, .int p3)]) S.1 S.2.1 dX3_attribute_85 hl (by decide) (by first | rfl | simp [m_rfc, m_catI, m_catL, m_catA]) (fun ls hl => ?_)
              refine lv_aload_n S.1 S.2.1 dX3_attribute_87 rfl (lv_at hl 2 rfl) ?_
              obtain ⟨r94, e95, h⟩ := m_bs h
              refine m_get (ci := 3) (k := 13) (T := TX3) (N := 25) S (inX3 _) hK hP (m_gR_s e95) rfl (by decide) (S.2.2.2.2 (.fieldLink RX3 30 "RuleHouse2Model" "attributes" "[I") (m_mem (by decide +kernel))) rfl dX3_attribute_88 ?_
              refine lv_iconst (v := 4) S.1 S.2.1 dX3_attribute_91 (by decide) ?_
              refine lv_iload_n S.1 S.2.1 dX3_attribute_92 rfl (lv_at hl 3 rfl) ?_
              refine lv_imul S.1 S.2.1 dX3_attribute_93 ?_
              refine lv_iload_n S.1 S.2.1 dX3_attribute_94 rfl (lv_at hl 4 rfl) ?_
              refine lv_iadd S.1 S.2.1 dX3_attribute_95 ?_
              refine lv_iload_n S.1 S.2.1 dX3_attribute_96 rfl (lv_at hl 5 rfl) ?_
              obtain ⟨a96, ea, g⟩ := m_bs h; clear h; subst ea; have h := g; clear g
              obtain ⟨s97, e98, h⟩ := m_bs h
              refine m_iast (t := 5) S hK hP hS e98 (by decide) rfl dX3_attribute_97 (fun H locs hP hS => ?_)
              refine lv_iload S.1 S.2.1 dX3_attribute_98 (lv_at hl 0 rfl) ?_
              obtain ⟨h1, h2⟩ := m_fin h; subst h1; subst h2
              exact m_iret S hr hlk hK hP hS (by decide +kernel) (by decide +kernel) dX3_attribute_100
            · replace h := m_f c88 h
              refine lv_bipush (v := (-3)) S.1 S.2.1 dX3_attribute_72 (by decide) ?_
              obtain ⟨h1, h2⟩ := m_fin h; subst h1; subst h2
              exact m_iret S hr hlk hK hP hS (by decide +kernel) (by decide +kernel) dX3_attribute_74
          · replace h := m_f c82 h
            refine lv_iload_n S.1 S.2.1 dX3_attribute_50 rfl (lv_at hl 4 rfl) ?_
            refine lv_if_lt (tgt := 60) S.1 S.2.1 dX3_attribute_51 (by decide) (fun c99 => ?_) (fun c99 => ?_)
            · replace h := m_t c99 h
              refine lv_bipush (v := (-2)) S.1 S.2.1 dX3_attribute_60 (by decide) ?_
              obtain ⟨h1, h2⟩ := m_fin h; subst h1; subst h2
              exact m_iret S hr hlk hK hP hS (by decide +kernel) (by decide +kernel) dX3_attribute_62
            · replace h := m_f c99 h
              refine lv_iload_n S.1 S.2.1 dX3_attribute_54 rfl (lv_at hl 4 rfl) ?_
              refine lv_iload S.1 S.2.1 dX3_attribute_55 (lv_at hl 0 rfl) ?_
              refine lv_icmp_le (tgt := 63) S.1 S.2.1 dX3_attribute_57 (by decide) (fun c100 => ?_) (fun c100 => ?_)
              · replace h := m_t c100 h
                refine lv_aload_n S.1 S.2.1 dX3_attribute_63 rfl (lv_at hl 1 rfl) ?_
                obtain ⟨r101, e102, h⟩ := m_bs h
                refine m_get (ci := 3) (k := 21) (T := TX3) (N := 25) S (inX3 _) hK hP (m_gR_s e102) rfl (by decide) (S.2.2.2.2 (.fieldLink RX3 54 "RuleHouse2Model" "run" "[Z") (m_mem (by decide +kernel))) rfl dX3_attribute_64 ?_
                refine lv_iload_n S.1 S.2.1 dX3_attribute_67 rfl (lv_at hl 2 rfl) ?_
                obtain ⟨a103, ea, g⟩ := m_bs h; clear h; subst ea; have h := g; clear g
                obtain ⟨x104, e105, h⟩ := m_bs h
                refine m_zald (t := 6) S hK hP (m_aI_s e105) rfl dX3_attribute_68 ?_
                refine lv_if_eq (tgt := 75) S.1 S.2.1 dX3_attribute_69 (by decide) (fun c106 => ?_) (fun c106 => ?_)
                · replace h := m_t c106 h
                  refine lv_aload_n S.1 S.2.1 dX3_attribute_75 rfl (lv_at hl 1 rfl) ?_
                  obtain ⟨r107, e108, h⟩ := m_bs h
                  refine m_get (ci := 3) (k := 13) (T := TX3) (N := 25) S (inX3 _) hK hP (m_gR_s e108) rfl (by decide) (S.2.2.2.2 (.fieldLink RX3 30 "RuleHouse2Model" "attributes" "[I") (m_mem (by decide +kernel))) rfl dX3_attribute_76 ?_
                  refine lv_iconst (v := 4) S.1 S.2.1 dX3_attribute_79 (by decide) ?_
                  refine lv_iload_n S.1 S.2.1 dX3_attribute_80 rfl (lv_at hl 2 rfl) ?_
                  refine lv_imul S.1 S.2.1 dX3_attribute_81 ?_
                  refine lv_iload_n S.1 S.2.1 dX3_attribute_82 rfl (lv_at hl 3 rfl) ?_
                  refine lv_iadd S.1 S.2.1 dX3_attribute_83 ?_
                  obtain ⟨a109, ea, g⟩ := m_bs h; clear h; subst ea; have h := g; clear g
                  obtain ⟨x110, e111, h⟩ := m_bs h
                  refine m_iald (t := 5) S hK hP (m_aI_s e111) rfl dX3_attribute_84 ?_
                  refine lv_istore (i := 5) (lv' := [(5, .int x110), (4, .int 20), (0, .ref t0), (1, .int p1), (2, .int p2), (3, .int p3)]) S.1 S.2.1 dX3_attribute_85 hl (by decide) (by first | rfl | simp [m_rfc, m_catI, m_catL, m_catA]) (fun ls hl => ?_)
                  refine lv_aload_n S.1 S.2.1 dX3_attribute_87 rfl (lv_at hl 2 rfl) ?_
                  obtain ⟨r112, e113, h⟩ := m_bs h
                  refine m_get (ci := 3) (k := 13) (T := TX3) (N := 25) S (inX3 _) hK hP (m_gR_s e113) rfl (by decide) (S.2.2.2.2 (.fieldLink RX3 30 "RuleHouse2Model" "attributes" "[I") (m_mem (by decide +kernel))) rfl dX3_attribute_88 ?_
                  refine lv_iconst (v := 4) S.1 S.2.1 dX3_attribute_91 (by decide) ?_
                  refine lv_iload_n S.1 S.2.1 dX3_attribute_92 rfl (lv_at hl 3 rfl) ?_
                  refine lv_imul S.1 S.2.1 dX3_attribute_93 ?_
                  refine lv_iload_n S.1 S.2.1 dX3_attribute_94 rfl (lv_at hl 4 rfl) ?_
                  refine lv_iadd S.1 S.2.1 dX3_attribute_95 ?_
                  refine lv_iload_n S.1 S.2.1 dX3_attribute_96 rfl (lv_at hl 5 rfl) ?_
                  obtain ⟨a114, ea, g⟩ := m_bs h; clear h; subst ea; have h := g; clear g
                  obtain ⟨s115, e116, h⟩ := m_bs h
                  refine m_iast (t := 5) S hK hP hS e116 (by decide) rfl dX3_attribute_97 (fun H locs hP hS => ?_)
                  refine lv_iload S.1 S.2.1 dX3_attribute_98 (lv_at hl 0 rfl) ?_
                  obtain ⟨h1, h2⟩ := m_fin h; subst h1; subst h2
                  exact m_iret S hr hlk hK hP hS (by decide +kernel) (by decide +kernel) dX3_attribute_100
                · replace h := m_f c106 h
                  refine lv_bipush (v := (-3)) S.1 S.2.1 dX3_attribute_72 (by decide) ?_
                  obtain ⟨h1, h2⟩ := m_fin h; subst h1; subst h2
                  exact m_iret S hr hlk hK hP hS (by decide +kernel) (by decide +kernel) dX3_attribute_74
              · replace h := m_f c100 h
                refine lv_bipush (v := (-2)) S.1 S.2.1 dX3_attribute_60 (by decide) ?_
                obtain ⟨h1, h2⟩ := m_fin h; subst h1; subst h2
                exact m_iret S hr hlk hK hP hS (by decide +kernel) (by decide +kernel) dX3_attribute_62
      · replace h := m_f c9 h
        refine lv_iconst (v := (-1)) S.1 S.2.1 dX3_attribute_22 (by decide) ?_
        obtain ⟨h1, h2⟩ := m_fin h; subst h1; subst h2
        exact m_iret S hr hlk hK hP hS (by decide +kernel) (by decide +kernel) dX3_attribute_23
