def f_X3_init (t0 : Nat) (p1 : Int32) (s0 : MS) : Option (Unit × MS) :=
  m_nw s0 (.inr (5, 16)) (fun _ => defaultValue .int) fun a1 s2 =>
  (m_p s2 3 t0 7 (.ref a1)).bind fun s4 =>
  m_nw s4 (.inr (5, 16)) (fun _ => defaultValue .int) fun a6 s7 =>
  (m_p s7 3 t0 8 (.ref a6)).bind fun s9 =>
  m_nw s9 (.inr (5, 16)) (fun _ => defaultValue .int) fun a11 s12 =>
  (m_p s12 3 t0 9 (.ref a11)).bind fun s14 =>
  m_nw s14 (.inr (6, 16)) (fun _ => defaultValue .boolean) fun a16 s17 =>
  (m_p s17 3 t0 10 (.ref a16)).bind fun s19 =>
  m_nw s19 (.inr (7, 16)) (fun _ => defaultValue .long) fun a21 s22 =>
  (m_p s22 3 t0 11 (.ref a21)).bind fun s24 =>
  m_nw s24 (.inr (5, 40)) (fun _ => defaultValue .int) fun a26 s27 =>
  (m_p s27 3 t0 12 (.ref a26)).bind fun s29 =>
  m_nw s29 (.inr (5, 160)) (fun _ => defaultValue .int) fun a31 s32 =>
  (m_p s32 3 t0 13 (.ref a31)).bind fun s34 =>
  m_nw s34 (.inr (5, 40)) (fun _ => defaultValue .int) fun a36 s37 =>
  (m_p s37 3 t0 14 (.ref a36)).bind fun s39 =>
  m_nw s39 (.inr (5, 40)) (fun _ => defaultValue .int) fun a41 s42 =>
  (m_p s42 3 t0 15 (.ref a41)).bind fun s44 =>
  m_nw s44 (.inr (5, 40)) (fun _ => defaultValue .int) fun a46 s47 =>
  (m_p s47 3 t0 16 (.ref a46)).bind fun s49 =>
  m_nw s49 (.inr (5, 40)) (fun _ => defaultValue .int) fun a51 s52 =>
  (m_p s52 3 t0 17 (.ref a51)).bind fun s54 =>
  m_nw s54 (.inr (5, 40)) (fun _ => defaultValue .int) fun a56 s57 =>
  (m_p s57 3 t0 18 (.ref a56)).bind fun s59 =>
  m_nw s59 (.inr (5, 40)) (fun _ => defaultValue .int) fun a61 s62 =>
  (m_p s62 3 t0 19 (.ref a61)).bind fun s64 =>
  m_nw s64 (.inr (5, 120)) (fun _ => defaultValue .int) fun a66 s67 =>
  (m_p s67 3 t0 20 (.ref a66)).bind fun s69 =>
  m_nw s69 (.inr (6, 40)) (fun _ => defaultValue .boolean) fun a71 s72 =>
  (m_p s72 3 t0 21 (.ref a71)).bind fun s74 =>
  m_nw s74 (.inr (6, 120)) (fun _ => defaultValue .boolean) fun a76 s77 =>
  (m_p s77 3 t0 22 (.ref a76)).bind fun s79 =>
  m_nw s79 (.inr (5, 400)) (fun _ => defaultValue .int) fun a81 s82 =>
  (m_p s82 3 t0 23 (.ref a81)).bind fun s84 =>
  m_nw s84 (.inr (5, 400)) (fun _ => defaultValue .int) fun a86 s87 =>
  (m_p s87 3 t0 24 (.ref a86)).bind fun s89 =>
  if 0 ≤ p1 then
    if p1 ≤ 65536 then
      (m_p s89 3 t0 1 (.int p1)).bind fun s93 =>
      some ((), s93)
    else
      (m_p s89 3 t0 1 (.int 65536)).bind fun s95 =>
      some ((), s95)
  else
    (m_p s89 3 t0 1 (.int 0)).bind fun s97 =>
    some ((), s97)
set_option maxHeartbeats 4000000 in
set_option maxRecDepth 100000 in
theorem c_X3_init (l : Launch) (D : va_G) (tc : Nat → ClassId) (b : Nat) (t0 : Nat) (p1 : Int32) (s0 st' : MS) (r : Unit) (h : f_X3_init t0 p1 s0 = some (r, st')) : Met l yX3_init wsX3_init ({ frames := 1, cells := 18, slots := 1680, locals := 12 }) (m_Pc D vwCl (m_tys tc) b s0 [.ref t0, .int p1]) (m_Q D vwCl (m_tys tc) b none st') 18 1680 (m_A b) := by
  unfold f_X3_init at h
  refine m_met (cc := cX3_init) (maxL := 2) (ret := none) (by decide) rfl (by first | exact Nat.le_of_ble_eq_true rfl | simp [lg_sl, m_rfc, m_catI, m_catL, m_catA]) ?_
  intro p e s m below meth c ls S hr hlk hnm hK hP hl hS
  replace hl : lv_has ls 2 [(0, .ref t0), (1, .int p1)] := by first | exact hl | simpa [lv_args, m_rfc, m_catI, m_catL, m_catA] using hl
  refine lv_aload_n S.1 S.2.1 dX3_init_0 rfl (lv_at hl 0 rfl) ?_
  refine W.objInit S.1 S.2.1 S.2.2.2.1 (S.2.2.2.2 (.methodLink RX3 1 objectInit) (m_mem (by decide +kernel))) (S.2.2.2.2 (.instanceMethod objectInit) (m_mem (by decide +kernel))) (S.2.2.2.2 (.code objectInit ⟨#[0xb1]⟩ 1 none) (m_mem (by decide +kernel))) rfl (by rw [S.2.2.1]; exact hl.1) rfl dX3_init_1 (Nat.le_of_ble_eq_true rfl) (Nat.le_of_ble_eq_true rfl) ?_
  refine W.eq (g2 := F0 m 4 ls []) rfl ?_
  refine lv_aload_n S.1 S.2.1 dX3_init_4 rfl (lv_at hl 0 rfl) ?_
  refine lv_bipush (v := 16) S.1 S.2.1 dX3_init_5 (by decide) ?_
  obtain ⟨a1, s2, e3, h⟩ := m_nw_s h
  refine m_newa (t := 5) (N := 16) (i := 16) (atype := .int) (ty := .int) (cA := tc 5) S (S.2.2.2.2 (.arrayClass .int) (m_mem (by decide +kernel))) rfl hK hP hS rfl (by decide +kernel) (by decide +kernel) (by decide +kernel) (by decide +kernel) (by decide +kernel) e3 dX3_init_7 (fun H hP hS => ?_)
  obtain ⟨s4, e5, h⟩ := m_bs h
  refine m_putF (ci := 3) (k := 7) (T := TX3) (N := 25) (v := .ref a1) (ty := (.array .int)) S (inX3 _) tyX3 tX3 nX3 hK hP hS e5 rfl (by decide) (S.2.2.2.2 (.fieldLink RX3 7 "RuleHouse2Model" "edition" "[I") (m_mem (by decide +kernel))) rfl rfl hnm rfl (by decide +kernel) rfl rfl dX3_init_9 (fun H locs hP hS => ?_)
  refine lv_aload_n S.1 S.2.1 dX3_init_12 rfl (lv_at hl 0 rfl) ?_
  refine lv_bipush (v := 16) S.1 S.2.1 dX3_init_13 (by decide) ?_
  obtain ⟨a6, s7, e8, h⟩ := m_nw_s h
  refine m_newa (t := 5) (N := 16) (i := 16) (atype := .int) (ty := .int) (cA := tc 5) S (S.2.2.2.2 (.arrayClass .int) (m_mem (by decide +kernel))) rfl hK hP hS rfl (by decide +kernel) (by decide +kernel) (by decide +kernel) (by decide +kernel) (by decide +kernel) e8 dX3_init_15 (fun H hP hS => ?_)
  obtain ⟨s9, e10, h⟩ := m_bs h
  refine m_putF (ci := 3) (k := 8) (T := TX3) (N := 25) (v := .ref a6) (ty := (.array .int)) S (inX3 _) tyX3 tX3 nX3 hK hP hS e10 rfl (by decide) (S.2.2.2.2 (.fieldLink RX3 13 "RuleHouse2Model" "does" "[I") (m_mem (by decide +kernel))) rfl rfl hnm rfl (by decide +kernel) rfl rfl dX3_init_17 (fun H locs hP hS => ?_)
  refine lv_aload_n S.1 S.2.1 dX3_init_20 rfl (lv_at hl 0 rfl) ?_
  refine lv_bipush (v := 16) S.1 S.2.1 dX3_init_21 (by decide) ?_
  obtain ⟨a11, s12, e13, h⟩ := m_nw_s h
  refine m_newa (t := 5) (N := 16) (i := 16) (atype := .int) (ty := .int) (cA := tc 5) S (S.2.2.2.2 (.arrayClass .int) (m_mem (by decide +kernel))) rfl hK hP hS rfl (by decide +kernel) (by decide +kernel) (by decide +kernel) (by decide +kernel) (by decide +kernel) e13 dX3_init_23 (fun H hP hS => ?_)
  obtain ⟨s14, e15, h⟩ := m_bs h
  refine m_putF (ci := 3) (k := 9) (T := TX3) (N := 25) (v := .ref a11) (ty := (.array .int)) S (inX3 _) tyX3 tX3 nX3 hK hP hS e15 rfl (by decide) (S.2.2.2.2 (.fieldLink RX3 16 "RuleHouse2Model" "made" "[I") (m_mem (by decide +kernel))) rfl rfl hnm rfl (by decide +kernel) rfl rfl dX3_init_25 (fun H locs hP hS => ?_)
  refine lv_aload_n S.1 S.2.1 dX3_init_28 rfl (lv_at hl 0 rfl) ?_
  refine lv_bipush (v := 16) S.1 S.2.1 dX3_init_29 (by decide) ?_
  obtain ⟨a16, s17, e18, h⟩ := m_nw_s h
  refine m_newa (t := 6) (N := 16) (i := 16) (atype := .boolean) (ty := .boolean) (cA := tc 6) S (S.2.2.2.2 (.arrayClass .boolean) (m_mem (by decide +kernel))) rfl hK hP hS rfl (by decide +kernel) (by decide +kernel) (by decide +kernel) (by decide +kernel) (by decide +kernel) e18 dX3_init_31 (fun H hP hS => ?_)
  obtain ⟨s19, e20, h⟩ := m_bs h
  refine m_putF (ci := 3) (k := 10) (T := TX3) (N := 25) (v := .ref a16) (ty := (.array .boolean)) S (inX3 _) tyX3 tX3 nX3 hK hP hS e20 rfl (by decide) (S.2.2.2.2 (.fieldLink RX3 19 "RuleHouse2Model" "fails" "[Z") (m_mem (by decide +kernel))) rfl rfl hnm rfl (by decide +kernel) rfl rfl dX3_init_33 (fun H locs hP hS => ?_)
  refine lv_aload_n S.1 S.2.1 dX3_init_36 rfl (lv_at hl 0 rfl) ?_
  refine lv_bipush (v := 16) S.1 S.2.1 dX3_init_37 (by decide) ?_
  obtain ⟨a21, s22, e23, h⟩ := m_nw_s h
  refine m_newa (t := 7) (N := 16) (i := 16) (atype := .long) (ty := .long) (cA := tc 7) S (S.2.2.2.2 (.arrayClass .long) (m_mem (by decide +kernel))) rfl hK hP hS rfl (by decide +kernel) (by decide +kernel) (by decide +kernel) (by decide +kernel) (by decide +kernel) e23 dX3_init_39 (fun H hP hS => ?_)
  obtain ⟨s24, e25, h⟩ := m_bs h
  refine m_putF (ci := 3) (k := 11) (T := TX3) (N := 25) (v := .ref a21) (ty := (.array .long)) S (inX3 _) tyX3 tX3 nX3 hK hP hS e25 rfl (by decide) (S.2.2.2.2 (.fieldLink RX3 23 "RuleHouse2Model" "cell" "[J") (m_mem (by decide +kernel))) rfl rfl hnm rfl (by decide +kernel) rfl rfl dX3_init_41 (fun H locs hP hS => ?_)
  refine lv_aload_n S.1 S.2.1 dX3_init_44 rfl (lv_at hl 0 rfl) ?_
  refine lv_bipush (v := 40) S.1 S.2.1 dX3_init_45 (by decide) ?_
  obtain ⟨a26, s27, e28, h⟩ := m_nw_s h
  refine m_newa (t := 5) (N := 40) (i := 40) (atype := .int) (ty := .int) (cA := tc 5) S (S.2.2.2.2 (.arrayClass .int) (m_mem (by decide +kernel))) rfl hK hP hS rfl (by decide +kernel) (by decide +kernel) (by decide +kernel) (by decide +kernel) (by decide +kernel) e28 dX3_init_47 (fun H hP hS => ?_)
  obtain ⟨s29, e30, h⟩ := m_bs h
  refine m_putF (ci := 3) (k := 12) (T := TX3) (N := 25) (v := .ref a26) (ty := (.array .int)) S (inX3 _) tyX3 tX3 nX3 hK hP hS e30 rfl (by decide) (S.2.2.2.2 (.fieldLink RX3 27 "RuleHouse2Model" "rule" "[I") (m_mem (by decide +kernel))) rfl rfl hnm rfl (by decide +kernel) rfl rfl dX3_init_49 (fun H locs hP hS => ?_)
  refine lv_aload_n S.1 S.2.1 dX3_init_52 rfl (lv_at hl 0 rfl) ?_
  refine lv_sipush (v := 160) S.1 S.2.1 dX3_init_53 (by decide) ?_
  obtain ⟨a31, s32, e33, h⟩ := m_nw_s h
  refine m_newa (t := 5) (N := 160) (i := 160) (atype := .int) (ty := .int) (cA := tc 5) S (S.2.2.2.2 (.arrayClass .int) (m_mem (by decide +kernel))) rfl hK hP hS rfl (by decide +kernel) (by decide +kernel) (by decide +kernel) (by decide +kernel) (by decide +kernel) e33 dX3_init_56 (fun H hP hS => ?_)
  obtain ⟨s34, e35, h⟩ := m_bs h
  refine m_putF (ci := 3) (k := 13) (T := TX3) (N := 25) (v := .ref a31) (ty := (.array .int)) S (inX3 _) tyX3 tX3 nX3 hK hP hS e35 rfl (by decide) (S.2.2.2.2 (.fieldLink RX3 30 "RuleHouse2Model" "attributes" "[I") (m_mem (by decide +kernel))) rfl rfl hnm rfl (by decide +kernel) rfl rfl dX3_init_58 (fun H locs hP hS => ?_)
  refine lv_aload_n S.1 S.2.1 dX3_init_61 rfl (lv_at hl 0 rfl) ?_
  refine lv_bipush (v := 40) S.1 S.2.1 dX3_init_62 (by decide) ?_
  obtain ⟨a36, s37, e38, h⟩ := m_nw_s h
  refine m_newa (t := 5) (N := 40) (i := 40) (atype := .int) (ty := .int) (cA := tc 5) S (S.2.2.2.2 (.arrayClass .int) (m_mem (by decide +kernel))) rfl hK hP hS rfl (by decide +kernel) (by decide +kernel) (by decide +kernel) (by decide +kernel) (by decide +kernel) e38 dX3_init_64 (fun H hP hS => ?_)
  obtain ⟨s39, e40, h⟩ := m_bs h
  refine m_putF (ci := 3) (k := 14) (T := TX3) (N := 25) (v := .ref a36) (ty := (.array .int)) S (inX3 _) tyX3 tX3 nX3 hK hP hS e40 rfl (by decide) (S.2.2.2.2 (.fieldLink RX3 33 "RuleHouse2Model" "failure" "[I") (m_mem (by decide +kernel))) rfl rfl hnm rfl (by decide +kernel) rfl rfl dX3_init_66 (fun H locs hP hS => ?_)
  refine lv_aload_n S.1 S.2.1 dX3_init_69 rfl (lv_at hl 0 rfl) ?_
  refine lv_bipush (v := 40) S.1 S.2.1 dX3_init_70 (by decide) ?_
  obtain ⟨a41, s42, e43, h⟩ := m_nw_s h
  refine m_newa (t := 5) (N := 40) (i := 40) (atype := .int) (ty := .int) (cA := tc 5) S (S.2.2.2.2 (.arrayClass .int) (m_mem (by decide +kernel))) rfl hK hP hS rfl (by decide +kernel) (by decide +kernel) (by decide +kernel) (by decide +kernel) (by decide +kernel) e43 dX3_init_72 (fun H hP hS => ?_)
  obtain ⟨s44, e45, h⟩ := m_bs h
  refine m_putF (ci := 3) (k := 15) (T := TX3) (N := 25) (v := .ref a41) (ty := (.array .int)) S (inX3 _) tyX3 tX3 nX3 hK hP hS e45 rfl (by decide) (S.2.2.2.2 (.fieldLink RX3 36 "RuleHouse2Model" "bit" "[I") (m_mem (by decide +kernel))) rfl rfl hnm rfl (by decide +kernel) rfl rfl dX3_init_74 (fun H locs hP hS => ?_)
  refine lv_aload_n S.1 S.2.1 dX3_init_77 rfl (lv_at hl 0 rfl) ?_
  refine lv_bipush (v := 40) S.1 S.2.1 dX3_init_78 (by decide) ?_
  obtain ⟨a46, s47, e48, h⟩ := m_nw_s h
  refine m_newa (t := 5) (N := 40) (i := 40) (atype := .int) (ty := .int) (cA := tc 5) S (S.2.2.2.2 (.arrayClass .int) (m_mem (by decide +kernel))) rfl hK hP hS rfl (by decide +kernel) (by decide +kernel) (by decide +kernel) (by decide +kernel) (by decide +kernel) e48 dX3_init_80 (fun H hP hS => ?_)
  obtain ⟨s49, e50, h⟩ := m_bs h
  refine m_putF (ci := 3) (k := 16) (T := TX3) (N := 25) (v := .ref a46) (ty := (.array .int)) S (inX3 _) tyX3 tX3 nX3 hK hP hS e50 rfl (by decide) (S.2.2.2.2 (.fieldLink RX3 39 "RuleHouse2Model" "began" "[I") (m_mem (by decide +kernel))) rfl rfl hnm rfl (by decide +kernel) rfl rfl dX3_init_82 (fun H locs hP hS => ?_)
  refine lv_aload_n S.1 S.2.1 dX3_init_85 rfl (lv_at hl 0 rfl) ?_
  refine lv_bipush (v := 40) S.1 S.2.1 dX3_init_86 (by decide) ?_
  obtain ⟨a51, s52, e53, h⟩ := m_nw_s h
  refine m_newa (t := 5) (N := 40) (i := 40) (atype := .int) (ty := .int) (cA := tc 5) S (S.2.2.2.2 (.arrayClass .int) (m_mem (by decide +kernel))) rfl hK hP hS rfl (by decide +kernel) (by decide +kernel) (by decide +kernel) (by decide +kernel) (by decide +kernel) e53 dX3_init_88 (fun H hP hS => ?_)
  obtain ⟨s54, e55, h⟩ := m_bs h
  refine m_putF (ci := 3) (k := 17) (T := TX3) (N := 25) (v := .ref a51) (ty := (.array .int)) S (inX3 _) tyX3 tX3 nX3 hK hP hS e55 rfl (by decide) (S.2.2.2.2 (.fieldLink RX3 42 "RuleHouse2Model" "mine" "[I") (m_mem (by decide +kernel))) rfl rfl hnm rfl (by decide +kernel) rfl rfl dX3_init_90 (fun H locs hP hS => ?_)
  refine lv_aload_n S.1 S.2.1 dX3_init_93 rfl (lv_at hl 0 rfl) ?_
  refine lv_bipush (v := 40) S.1 S.2.1 dX3_init_94 (by decide) ?_
  obtain ⟨a56, s57, e58, h⟩ := m_nw_s h
  refine m_newa (t := 5) (N := 40) (i := 40) (atype := .int) (ty := .int) (cA := tc 5) S (S.2.2.2.2 (.arrayClass .int) (m_mem (by decide +kernel))) rfl hK hP hS rfl (by decide +kernel) (by decide +kernel) (by decide +kernel) (by decide +kernel) (by decide +kernel) e58 dX3_init_96 (fun H hP hS => ?_)
  obtain ⟨s59, e60, h⟩ := m_bs h
  refine m_putF (ci := 3) (k := 18) (T := TX3) (N := 25) (v := .ref a56) (ty := (.array .int)) S (inX3 _) tyX3 tX3 nX3 hK hP hS e60 rfl (by decide) (S.2.2.2.2 (.fieldLink RX3 45 "RuleHouse2Model" "steps" "[I") (m_mem (by decide +kernel))) rfl rfl hnm rfl (by decide +kernel) rfl rfl dX3_init_98 (fun H locs hP hS => ?_)
  refine lv_aload_n S.1 S.2.1 dX3_init_101 rfl (lv_at hl 0 rfl) ?_
  refine lv_bipush (v := 40) S.1 S.2.1 dX3_init_102 (by decide) ?_
  obtain ⟨a61, s62, e63, h⟩ := m_nw_s h
  refine m_newa (t := 5) (N := 40) (i := 40) (atype := .int) (ty := .int) (cA := tc 5) S (S.2.2.2.2 (.arrayClass .int) (m_mem (by decide +kernel))) rfl hK hP hS rfl (by decide +kernel) (by decide +kernel) (by decide +kernel) (by decide +kernel) (by decide +kernel) e63 dX3_init_104 (fun H hP hS => ?_)
  obtain ⟨s64, e65, h⟩ := m_bs h
  refine m_putF (ci := 3) (k := 19) (T := TX3) (N := 25) (v := .ref a61) (ty := (.array .int)) S (inX3 _) tyX3 tX3 nX3 hK hP hS e65 rfl (by decide) (S.2.2.2.2 (.fieldLink RX3 48 "RuleHouse2Model" "chain" "[I") (m_mem (by decide +kernel))) rfl rfl hnm rfl (by decide +kernel) rfl rfl dX3_init_106 (fun H locs hP hS => ?_)
  refine lv_aload_n S.1 S.2.1 dX3_init_109 rfl (lv_at hl 0 rfl) ?_
  refine lv_bipush (v := 120) S.1 S.2.1 dX3_init_110 (by decide) ?_
  obtain ⟨a66, s67, e68, h⟩ := m_nw_s h
  refine m_newa (t := 5) (N := 120) (i := 120) (atype := .int) (ty := .int) (cA := tc 5) S (S.2.2.2.2 (.arrayClass .int) (m_mem (by decide +kernel))) rfl hK hP hS rfl (by decide +kernel) (by decide +kernel) (by decide +kernel) (by decide +kernel) (by decide +kernel) e68 dX3_init_112 (fun H hP hS => ?_)
  obtain ⟨s69, e70, h⟩ := m_bs h
  refine m_putF (ci := 3) (k := 20) (T := TX3) (N := 25) (v := .ref a66) (ty := (.array .int)) S (inX3 _) tyX3 tX3 nX3 hK hP hS e70 rfl (by decide) (S.2.2.2.2 (.fieldLink RX3 51 "RuleHouse2Model" "provider" "[I") (m_mem (by decide +kernel))) rfl rfl hnm rfl (by decide +kernel) rfl rfl dX3_init_114 (fun H locs hP hS => ?_)
  refine lv_aload_n S.1 S.2.1 dX3_init_117 rfl (lv_at hl 0 rfl) ?_
  refine lv_bipush (v := 40) S.1 S.2.1 dX3_init_118 (by decide) ?_
  obtain ⟨a71, s72, e73, h⟩ := m_nw_s h
  refine m_newa (t := 6) (N := 40) (i := 40) (atype := .boolean) (ty := .boolean) (cA := tc 6) S (S.2.2.2.2 (.arrayClass .boolean) (m_mem (by decide +kernel))) rfl hK hP hS rfl (by decide +kernel) (by decide +kernel) (by decide +kernel) (by decide +kernel) (by decide +kernel) e73 dX3_init_120 (fun H hP hS => ?_)
  obtain ⟨s74, e75, h⟩ := m_bs h
  refine m_putF (ci := 3) (k := 21) (T := TX3) (N := 25) (v := .ref a71) (ty := (.array .boolean)) S (inX3 _) tyX3 tX3 nX3 hK hP hS e75 rfl (by decide) (S.2.2.2.2 (.fieldLink RX3 54 "RuleHouse2Model" "run" "[Z") (m_mem (by decide +kernel))) rfl rfl hnm rfl (by decide +kernel) rfl rfl dX3_init_122 (fun H locs hP hS => ?_)
  refine lv_aload_n S.1 S.2.1 dX3_init_125 rfl (lv_at hl 0 rfl) ?_
  refine lv_bipush (v := 120) S.1 S.2.1 dX3_init_126 (by decide) ?_
  obtain ⟨a76, s77, e78, h⟩ := m_nw_s h
  refine m_newa (t := 6) (N := 120) (i := 120) (atype := .boolean) (ty := .boolean) (cA := tc 6) S (S.2.2.2.2 (.arrayClass .boolean) (m_mem (by decide +kernel))) rfl hK hP hS rfl (by decide +kernel) (by decide +kernel) (by decide +kernel) (by decide +kernel) (by decide +kernel) e78 dX3_init_128 (fun H hP hS => ?_)
  obtain ⟨s79, e80, h⟩ := m_bs h
  refine m_putF (ci := 3) (k := 22) (T := TX3) (N := 25) (v := .ref a76) (ty := (.array .boolean)) S (inX3 _) tyX3 tX3 nX3 hK hP hS e80 rfl (by decide) (S.2.2.2.2 (.fieldLink RX3 57 "RuleHouse2Model" "has" "[Z") (m_mem (by decide +kernel))) rfl rfl hnm rfl (by decide +kernel) rfl rfl dX3_init_130 (fun H locs hP hS => ?_)
  refine lv_aload_n S.1 S.2.1 dX3_init_133 rfl (lv_at hl 0 rfl) ?_
  refine lv_sipush (v := 400) S.1 S.2.1 dX3_init_134 (by decide) ?_
  obtain ⟨a81, s82, e83, h⟩ := m_nw_s h
  refine m_newa (t := 5) (N := 400) (i := 400) (atype := .int) (ty := .int) (cA := tc 5) S (S.2.2.2.2 (.arrayClass .int) (m_mem (by decide +kernel))) rfl hK hP hS rfl (by decide +kernel) (by decide +kernel) (by decide +kernel) (by decide +kernel) (by decide +kernel) e83 dX3_init_137 (fun H hP hS => ?_)
  obtain ⟨s84, e85, h⟩ := m_bs h
  refine m_putF (ci := 3) (k := 23) (T := TX3) (N := 25) (v := .ref a81) (ty := (.array .int)) S (inX3 _) tyX3 tX3 nX3 hK hP hS e85 rfl (by decide) (S.2.2.2.2 (.fieldLink RX3 60 "RuleHouse2Model" "of" "[I") (m_mem (by decide +kernel))) rfl rfl hnm rfl (by decide +kernel) rfl rfl dX3_init_139 (fun H locs hP hS => ?_)
  refine lv_aload_n S.1 S.2.1 dX3_init_142 rfl (lv_at hl 0 rfl) ?_
  refine lv_sipush (v := 400) S.1 S.2.1 dX3_init_143 (by decide) ?_
  obtain ⟨a86, s87, e88, h⟩ := m_nw_s h
  refine m_newa (t := 5) (N := 400) (i := 400) (atype := .int) (ty := .int) (cA := tc 5) S (S.2.2.2.2 (.arrayClass .int) (m_mem (by decide +kernel))) rfl hK hP hS rfl (by decide +kernel) (by decide +kernel) (by decide +kernel) (by decide +kernel) (by decide +kernel) e88 dX3_init_146 (fun H hP hS => ?_)
  obtain ⟨s89, e90, h⟩ := m_bs h
  refine m_putF (ci := 3) (k := 24) (T := TX3) (N := 25) (v := .ref a86) (ty := (.array .int)) S (inX3 _) tyX3 tX3 nX3 hK hP hS e90 rfl (by decide) (S.2.2.2.2 (.fieldLink RX3 63 "RuleHouse2Model" "number" "[I") (m_mem (by decide +kernel))) rfl rfl hnm rfl (by decide +kernel) rfl rfl dX3_init_148 (fun H locs hP hS => ?_)
  refine lv_aload_n S.1 S.2.1 dX3_init_151 rfl (lv_at hl 0 rfl) ?_
  refine lv_iload_n S.1 S.2.1 dX3_init_152 rfl (lv_at hl 1 rfl) ?_
  refine lv_if_ge (tgt := 160) S.1 S.2.1 dX3_init_153 (by decide) (fun c91 => ?_) (fun c91 => ?_)
  · replace h := m_t c91 h
    refine lv_iload_n S.1 S.2.1 dX3_init_160 rfl (lv_at hl 1 rfl) ?_
    refine lv_ldc (v := 65536) S.1 S.2.1 S.2.2.2.1 (S.2.2.2.2 (.constant RX3 66 65536) (m_mem (by decide +kernel))) dX3_init_161 ?_
    refine lv_icmp_le (tgt := 171) S.1 S.2.1 dX3_init_163 (by decide) (fun c92 => ?_) (fun c92 => ?_)
    · replace h := m_t c92 h
      refine lv_iload_n S.1 S.2.1 dX3_init_171 rfl (lv_at hl 1 rfl) ?_
      obtain ⟨s93, e94, h⟩ := m_bs h
      refine m_putF (ci := 3) (k := 1) (T := TX3) (N := 25) (v := .int p1) (ty := .int) S (inX3 _) tyX3 tX3 nX3 hK hP hS e94 rfl (by decide) (S.2.2.2.2 (.fieldLink RX3 67 "RuleHouse2Model" "most" "I") (m_mem (by decide +kernel))) rfl rfl hnm rfl (by decide +kernel) rfl rfl dX3_init_172 (fun H locs hP hS => ?_)
      obtain ⟨h1, h2⟩ := m_fin h; subst h1; subst h2
      exact m_vret S hr hlk hK hP hS (by decide +kernel) (by decide +kernel) dX3_init_175
    · replace h := m_f c92 h
      refine lv_ldc (v := 65536) S.1 S.2.1 S.2.2.2.1 (S.2.2.2.2 (.constant RX3 66 65536) (m_mem (by decide +kernel))) dX3_init_166 ?_
      refine lv_goto (tgt := 172) S.1 S.2.1 dX3_init_168 (by decide) ?_
      obtain ⟨s95, e96, h⟩ := m_bs h
      refine m_putF (ci := 3) (k := 1) (T := TX3) (N := 25) (v := .int 65536) (ty := .int) S (inX3 _) tyX3 tX3 nX3 hK hP hS e96 rfl (by decide) (S.2.2.2.2 (.fieldLink RX3 67 "RuleHouse2Model" "most" "I") (m_mem (by decide +kernel))) rfl rfl hnm rfl (by decide +kernel) rfl rfl dX3_init_172 (fun H locs hP hS => ?_)
      obtain ⟨h1, h2⟩ := m_fin h; subst h1; subst h2
      exact m_vret S hr hlk hK hP hS (by decide +kernel) (by decide +kernel) dX3_init_175
  · replace h := m_f c91 h
    refine lv_iconst (v := 0) S.1 S.2.1 dX3_init_156 (by decide) ?_
    refine lv_goto (tgt := 172) S.1 S.2.1 dX3_init_157 (by decide) ?_
    obtain ⟨s97, e98, h⟩ := m_bs h
    refine m_putF (ci := 3) (k := 1) (T := TX3) (N := 25) (v := .int 0) (ty := .int) S (inX3 _) tyX3 tX3 nX3 hK hP hS e98 rfl (by decide) (S.2.2.2.2 (.fieldLink RX3 67 "RuleHouse2Model" "most" "I") (m_mem (by decide +kernel))) rfl rfl hnm rfl (by decide +kernel) rfl rfl dX3_init_172 (fun H locs hP hS => ?_)
    obtain ⟨h1, h2⟩ := m_fin h; subst h1; subst h2
    exact m_vret S hr hlk hK hP hS (by decide +kernel) (by decide +kernel) dX3_init_175

def f_X3_thrown (t0 : Nat) (s0 : MS) : Option (Int32 × MS) :=
  (m_gI s0 3 t0 0).bind fun x1 =>
  some (x1, s0)
set_option maxHeartbeats 4000000 in
set_option maxRecDepth 100000 in
theorem c_X3_thrown (l : Launch) (D : va_G) (tc : Nat → ClassId) (b : Nat) (t0 : Nat) (s0 st' : MS) (r : Int32) (h : f_X3_thrown t0 s0 = some (r, st')) : Met l yX3_thrown wsX3_thrown ({ frames := 0, cells := 0, slots := 0, locals := 0 }) (m_Pc D vwCl (m_tys tc) b s0 [.ref t0]) (m_Q D vwCl (m_tys tc) b (some (.int r)) st') 0 0 (m_A b) := by
  unfold f_X3_thrown at h
  refine m_met (cc := cX3_thrown) (maxL := 1) (ret := (some .int)) (by decide) rfl (by first | exact Nat.le_of_ble_eq_true rfl | simp [lg_sl, m_rfc, m_catI, m_catL, m_catA]) ?_
  intro p e s m below meth c ls S hr hlk hnm hK hP hl hS
  replace hl : lv_has ls 1 [(0, .ref t0)] := by first | exact hl | simpa [lv_args, m_rfc, m_catI, m_catL, m_catA] using hl
  refine lv_aload_n S.1 S.2.1 dX3_thrown_0 rfl (lv_at hl 0 rfl) ?_
  obtain ⟨x1, e2, h⟩ := m_bs h
  refine m_get (ci := 3) (k := 0) (T := TX3) (N := 25) S (inX3 _) hK hP (m_gI_s e2) rfl (by decide) (S.2.2.2.2 (.fieldLink RX3 71 "RuleHouse2Model" "code" "I") (m_mem (by decide +kernel))) rfl dX3_thrown_1 ?_
  obtain ⟨h1, h2⟩ := m_fin h; subst h1; subst h2
  exact m_iret S hr hlk hK hP hS (by decide +kernel) (by decide +kernel) dX3_thrown_4

def f_X3_isRule (t0 : Nat) (p1 : Int32) (s0 : MS) : Option (Int32 × MS) :=
  if p1 < 0 then
    some (0, s0)
  else
    (m_gI s0 3 t0 2).bind fun x2 =>
    if x2 ≤ p1 then
      some (0, s0)
    else
      some (1, s0)
set_option maxHeartbeats 4000000 in
set_option maxRecDepth 100000 in
theorem c_X3_isRule (l : Launch) (D : va_G) (tc : Nat → ClassId) (b : Nat) (t0 : Nat) (p1 : Int32) (s0 st' : MS) (r : Int32) (h : f_X3_isRule t0 p1 s0 = some (r, st')) : Met l yX3_isRule wsX3_isRule ({ frames := 0, cells := 0, slots := 0, locals := 0 }) (m_Pc D vwCl (m_tys tc) b s0 [.ref t0, .int p1]) (m_Q D vwCl (m_tys tc) b (some (.int r)) st') 0 0 (m_A b) := by
  unfold f_X3_isRule at h
  refine m_met (cc := cX3_isRule) (maxL := 2) (ret := (some .boolean)) (by decide) rfl (by first | exact Nat.le_of_ble_eq_true rfl | simp [lg_sl, m_rfc, m_catI, m_catL, m_catA]) ?_
  intro p e s m below meth c ls S hr hlk hnm hK hP hl hS
  replace hl : lv_has ls 2 [(0, .ref t0), (1, .int p1)] := by first | exact hl | simpa [lv_args, m_rfc, m_catI, m_catL, m_catA] using hl
  refine lv_iload_n S.1 S.2.1 dX3_isRule_0 rfl (lv_at hl 1 rfl) ?_
  refine lv_if_lt (tgt := 16) S.1 S.2.1 dX3_isRule_1 (by decide) (fun c1 => ?_) (fun c1 => ?_)
  · replace h := m_t c1 h
    refine lv_iconst (v := 0) S.1 S.2.1 dX3_isRule_16 (by decide) ?_
    obtain ⟨h1, h2⟩ := m_fin h; subst h1; subst h2
    exact m_zret S hr hlk hK hP hS (by decide) (by decide +kernel) (by decide +kernel) dX3_isRule_17
  · replace h := m_f c1 h
    refine lv_iload_n S.1 S.2.1 dX3_isRule_4 rfl (lv_at hl 1 rfl) ?_
    refine lv_aload_n S.1 S.2.1 dX3_isRule_5 rfl (lv_at hl 0 rfl) ?_
    obtain ⟨x2, e3, h⟩ := m_bs h
    refine m_get (ci := 3) (k := 2) (T := TX3) (N := 25) S (inX3 _) hK hP (m_gI_s e3) rfl (by decide) (S.2.2.2.2 (.fieldLink RX3 74 "RuleHouse2Model" "rules" "I") (m_mem (by decide +kernel))) rfl dX3_isRule_6 ?_
    refine lv_icmp_ge (tgt := 16) S.1 S.2.1 dX3_isRule_9 (by decide) (fun c4 => ?_) (fun c4 => ?_)
    · replace h := m_t c4 h
      refine lv_iconst (v := 0) S.1 S.2.1 dX3_isRule_16 (by decide) ?_
      obtain ⟨h1, h2⟩ := m_fin h; subst h1; subst h2
      exact m_zret S hr hlk hK hP hS (by decide) (by decide +kernel) (by decide +kernel) dX3_isRule_17
    · replace h := m_f c4 h
      refine lv_iconst (v := 1) S.1 S.2.1 dX3_isRule_12 (by decide) ?_
      refine lv_goto (tgt := 17) S.1 S.2.1 dX3_isRule_13 (by decide) ?_
      obtain ⟨h1, h2⟩ := m_fin h; subst h1; subst h2
      exact m_zret S hr hlk hK hP hS (by decide) (by decide +kernel) (by decide +kernel) dX3_isRule_17

def f_X3_isTarget (t0 : Nat) (p1 : Int32) (s0 : MS) : Option (Int32 × MS) :=
  if p1 < 0 then
    some (0, s0)
  else
    (m_gI s0 3 t0 4).bind fun x2 =>
    if x2 ≤ p1 then
      some (0, s0)
    else
      some (1, s0)
set_option maxHeartbeats 4000000 in
set_option maxRecDepth 100000 in
theorem c_X3_isTarget (l : Launch) (D : va_G) (tc : Nat → ClassId) (b : Nat) (t0 : Nat) (p1 : Int32) (s0 st' : MS) (r : Int32) (h : f_X3_isTarget t0 p1 s0 = some (r, st')) : Met l yX3_isTarget wsX3_isTarget ({ frames := 0, cells := 0, slots := 0, locals := 0 }) (m_Pc D vwCl (m_tys tc) b s0 [.ref t0, .int p1]) (m_Q D vwCl (m_tys tc) b (some (.int r)) st') 0 0 (m_A b) := by
  unfold f_X3_isTarget at h
  refine m_met (cc := cX3_isTarget) (maxL := 2) (ret := (some .boolean)) (by decide) rfl (by first | exact Nat.le_of_ble_eq_true rfl | simp [lg_sl, m_rfc, m_catI, m_catL, m_catA]) ?_
  intro p e s m below meth c ls S hr hlk hnm hK hP hl hS
  replace hl : lv_has ls 2 [(0, .ref t0), (1, .int p1)] := by first | exact hl | simpa [lv_args, m_rfc, m_catI, m_catL, m_catA] using hl
  refine lv_iload_n S.1 S.2.1 dX3_isTarget_0 rfl (lv_at hl 1 rfl) ?_
  refine lv_if_lt (tgt := 16) S.1 S.2.1 dX3_isTarget_1 (by decide) (fun c1 => ?_) (fun c1 => ?_)
  · replace h := m_t c1 h
    refine lv_iconst (v := 0) S.1 S.2.1 dX3_isTarget_16 (by decide) ?_
    obtain ⟨h1, h2⟩ := m_fin h; subst h1; subst h2
    exact m_zret S hr hlk hK hP hS (by decide) (by decide +kernel) (by decide +kernel) dX3_isTarget_17
  · replace h := m_f c1 h
    refine lv_iload_n S.1 S.2.1 dX3_isTarget_4 rfl (lv_at hl 1 rfl) ?_
    refine lv_aload_n S.1 S.2.1 dX3_isTarget_5 rfl (lv_at hl 0 rfl) ?_
    obtain ⟨x2, e3, h⟩ := m_bs h
    refine m_get (ci := 3) (k := 4) (T := TX3) (N := 25) S (inX3 _) hK hP (m_gI_s e3) rfl (by decide) (S.2.2.2.2 (.fieldLink RX3 77 "RuleHouse2Model" "targets" "I") (m_mem (by decide +kernel))) rfl dX3_isTarget_6 ?_
    refine lv_icmp_ge (tgt := 16) S.1 S.2.1 dX3_isTarget_9 (by decide) (fun c4 => ?_) (fun c4 => ?_)
    · replace h := m_t c4 h
      refine lv_iconst (v := 0) S.1 S.2.1 dX3_isTarget_16 (by decide) ?_
      obtain ⟨h1, h2⟩ := m_fin h; subst h1; subst h2
      exact m_zret S hr hlk hK hP hS (by decide) (by decide +kernel) (by decide +kernel) dX3_isTarget_17
    · replace h := m_f c4 h
      refine lv_iconst (v := 1) S.1 S.2.1 dX3_isTarget_12 (by decide) ?_
      refine lv_goto (tgt := 17) S.1 S.2.1 dX3_isTarget_13 (by decide) ?_
      obtain ⟨h1, h2⟩ := m_fin h; subst h1; subst h2
      exact m_zret S hr hlk hK hP hS (by decide) (by decide +kernel) (by decide +kernel) dX3_isTarget_17

def f_X3_rule (t0 : Nat) (p1 : Int32) (p2 : Int32) (p3 : Int32) (s0 : MS) : Option (Int32 × MS) :=
  (m_p s0 3 t0 0 (.int 0)).bind fun s1 =>
  if p1 < 0 then
    some ((-2), s1)
  else
    if 3 < p1 then
      some ((-2), s1)
    else
      if p2 < 0 then
        some ((-2), s1)
      else
        if p2 ≤ 255 then
          (m_gI s1 3 t0 2).bind fun x7 =>
          if x7 = 16 then
            some ((-4), s1)
          else
            (m_gR s1 3 t0 7).bind fun r10 =>
            (m_gI s1 3 t0 2).bind fun x12 =>
            r10.bind fun a14 =>
            (m_ap s1 5 a14 x12 (.int p1)).bind fun s15 =>
            (m_gR s15 3 t0 8).bind fun r17 =>
            (m_gI s15 3 t0 2).bind fun x19 =>
            r17.bind fun a21 =>
            (m_ap s15 5 a21 x19 (.int p2)).bind fun s22 =>
            (m_gR s22 3 t0 10).bind fun r24 =>
            (m_gI s22 3 t0 2).bind fun x26 =>
            r24.bind fun a28 =>
            (m_z p3).bind fun z31 =>
            (m_ap s22 6 a28 x26 (.int p3)).bind fun s29 =>
            (m_gR s29 3 t0 9).bind fun r33 =>
            (m_gI s29 3 t0 2).bind fun x35 =>
            r33.bind fun a37 =>
            (m_ap s29 5 a37 x35 (.int (-1))).bind fun s38 =>
            (m_gI s38 3 t0 2).bind fun x40 =>
            (m_p s38 3 t0 2 (.int (x40 + 1))).bind fun s42 =>
            (m_gI s42 3 t0 2).bind fun x44 =>
            some (x44 - 1, s42)
        else
          some ((-2), s1)
set_option maxHeartbeats 4000000 in
set_option maxRecDepth 100000 in
theorem c_X3_rule (l : Launch) (D : va_G) (tc : Nat → ClassId) (b : Nat) (t0 : Nat) (p1 : Int32) (p2 : Int32) (p3 : Int32) (s0 st' : MS) (r : Int32) (h : f_X3_rule t0 p1 p2 p3 s0 = some (r, st')) : Met l yX3_rule wsX3_rule ({ frames := 0, cells := 0, slots := 0, locals := 0 }) (m_Pc D vwCl (m_tys tc) b s0 [.ref t0, .int p1, .int p2, .int p3]) (m_Q D vwCl (m_tys tc) b (some (.int r)) st') 0 0 (m_A b) := by
  unfold f_X3_rule at h
  refine m_met (cc := cX3_rule) (maxL := 4) (ret := (some .int)) (by decide) rfl (by first | exact Nat.le_of_ble_eq_true rfl | simp [lg_sl, m_rfc, m_catI, m_catL, m_catA]) ?_
  intro p e s m below meth c ls S hr hlk hnm hK hP hl hS
  replace hl : lv_has ls 4 [(0, .ref t0), (1, .int p1), (2, .int p2), (3, .int p3)] := by first | exact hl | simpa [lv_args, m_rfc, m_catI, m_catL, m_catA] using hl
  refine lv_aload_n S.1 S.2.1 dX3_rule_0 rfl (lv_at hl 0 rfl) ?_
  refine lv_iconst (v := 0) S.1 S.2.1 dX3_rule_1 (by decide) ?_
  obtain ⟨s1, e2, h⟩ := m_bs h
  refine m_put (ci := 3) (k := 0) (T := TX3) (N := 25) (v := .int 0) (ty := .int) S (inX3 _) tyX3 tX3 nX3 hK hP hS e2 rfl (by decide) (S.2.2.2.2 (.fieldLink RX3 71 "RuleHouse2Model" "code" "I") (m_mem (by decide +kernel))) rfl rfl (by decide +kernel) rfl rfl dX3_rule_2 (fun H locs hP hS => ?_)
  refine lv_iload_n S.1 S.2.1 dX3_rule_5 rfl (lv_at hl 1 rfl) ?_
  refine lv_if_lt (tgt := 25) S.1 S.2.1 dX3_rule_6 (by decide) (fun c3 => ?_) (fun c3 => ?_)
  · replace h := m_t c3 h
    refine lv_bipush (v := (-2)) S.1 S.2.1 dX3_rule_25 (by decide) ?_
    obtain ⟨h1, h2⟩ := m_fin h; subst h1; subst h2
    exact m_iret S hr hlk hK hP hS (by decide +kernel) (by decide +kernel) dX3_rule_27
  · replace h := m_f c3 h
    refine lv_iload_n S.1 S.2.1 dX3_rule_9 rfl (lv_at hl 1 rfl) ?_
    refine lv_iconst (v := 3) S.1 S.2.1 dX3_rule_10 (by decide) ?_
    refine lv_icmp_gt (tgt := 25) S.1 S.2.1 dX3_rule_11 (by decide) (fun c4 => ?_) (fun c4 => ?_)
    · replace h := m_t c4 h
      refine lv_bipush (v := (-2)) S.1 S.2.1 dX3_rule_25 (by decide) ?_
      obtain ⟨h1, h2⟩ := m_fin h; subst h1; subst h2
      exact m_iret S hr hlk hK hP hS (by decide +kernel) (by decide +kernel) dX3_rule_27
    · replace h := m_f c4 h
      refine lv_iload_n S.1 S.2.1 dX3_rule_14 rfl (lv_at hl 2 rfl) ?_
      refine lv_if_lt (tgt := 25) S.1 S.2.1 dX3_rule_15 (by decide) (fun c5 => ?_) (fun c5 => ?_)
      · replace h := m_t c5 h
        refine lv_bipush (v := (-2)) S.1 S.2.1 dX3_rule_25 (by decide) ?_
        obtain ⟨h1, h2⟩ := m_fin h; subst h1; subst h2
        exact m_iret S hr hlk hK hP hS (by decide +kernel) (by decide +kernel) dX3_rule_27
      · replace h := m_f c5 h
        refine lv_iload_n S.1 S.2.1 dX3_rule_18 rfl (lv_at hl 2 rfl) ?_
        refine lv_sipush (v := 255) S.1 S.2.1 dX3_rule_19 (by decide) ?_
        refine lv_icmp_le (tgt := 28) S.1 S.2.1 dX3_rule_22 (by decide) (fun c6 => ?_) (fun c6 => ?_)
        · replace h := m_t c6 h
          refine lv_aload_n S.1 S.2.1 dX3_rule_28 rfl (lv_at hl 0 rfl) ?_
          obtain ⟨x7, e8, h⟩ := m_bs h
          refine m_get (ci := 3) (k := 2) (T := TX3) (N := 25) S (inX3 _) hK hP (m_gI_s e8) rfl (by decide) (S.2.2.2.2 (.fieldLink RX3 74 "RuleHouse2Model" "rules" "I") (m_mem (by decide +kernel))) rfl dX3_rule_29 ?_
          refine lv_bipush (v := 16) S.1 S.2.1 dX3_rule_32 (by decide) ?_
          refine lv_icmp_ne (tgt := 40) S.1 S.2.1 dX3_rule_34 (by decide) (fun c9 => ?_) (fun c9 => ?_)
          · replace h := m_f c9 h
            refine lv_aload_n S.1 S.2.1 dX3_rule_40 rfl (lv_at hl 0 rfl) ?_
            obtain ⟨r10, e11, h⟩ := m_bs h
            refine m_get (ci := 3) (k := 7) (T := TX3) (N := 25) S (inX3 _) hK hP (m_gR_s e11) rfl (by decide) (S.2.2.2.2 (.fieldLink RX3 7 "RuleHouse2Model" "edition" "[I") (m_mem (by decide +kernel))) rfl dX3_rule_41 ?_
            refine lv_aload_n S.1 S.2.1 dX3_rule_44 rfl (lv_at hl 0 rfl) ?_
            obtain ⟨x12, e13, h⟩ := m_bs h
            refine m_get (ci := 3) (k := 2) (T := TX3) (N := 25) S (inX3 _) hK hP (m_gI_s e13) rfl (by decide) (S.2.2.2.2 (.fieldLink RX3 74 "RuleHouse2Model" "rules" "I") (m_mem (by decide +kernel))) rfl dX3_rule_45 ?_
            refine lv_iload_n S.1 S.2.1 dX3_rule_48 rfl (lv_at hl 1 rfl) ?_
            obtain ⟨a14, ea, g⟩ := m_bs h; clear h; subst ea; have h := g; clear g
            obtain ⟨s15, e16, h⟩ := m_bs h
            refine m_iast (t := 5) S hK hP hS e16 (by decide) rfl dX3_rule_49 (fun H locs hP hS => ?_)
            refine lv_aload_n S.1 S.2.1 dX3_rule_50 rfl (lv_at hl 0 rfl) ?_
            obtain ⟨r17, e18, h⟩ := m_bs h
            refine m_get (ci := 3) (k := 8) (T := TX3) (N := 25) S (inX3 _) hK hP (m_gR_s e18) rfl (by decide) (S.2.2.2.2 (.fieldLink RX3 13 "RuleHouse2Model" "does" "[I") (m_mem (by decide +kernel))) rfl dX3_rule_51 ?_
            refine lv_aload_n S.1 S.2.1 dX3_rule_54 rfl (lv_at hl 0 rfl) ?_
            obtain ⟨x19, e20, h⟩ := m_bs h
            refine m_get (ci := 3) (k := 2) (T := TX3) (N := 25) S (inX3 _) hK hP (m_gI_s e20) rfl (by decide) (S.2.2.2.2 (.fieldLink RX3 74 "RuleHouse2Model" "rules" "I") (m_mem (by decide +kernel))) rfl dX3_rule_55 ?_
            refine lv_iload_n S.1 S.2.1 dX3_rule_58 rfl (lv_at hl 2 rfl) ?_
            obtain ⟨a21, ea, g⟩ := m_bs h; clear h; subst ea; have h := g; clear g
            obtain ⟨s22, e23, h⟩ := m_bs h
            refine m_iast (t := 5) S hK hP hS e23 (by decide) rfl dX3_rule_59 (fun H locs hP hS => ?_)
            refine lv_aload_n S.1 S.2.1 dX3_rule_60 rfl (lv_at hl 0 rfl) ?_
            obtain ⟨r24, e25, h⟩ := m_bs h
            refine m_get (ci := 3) (k := 10) (T := TX3) (N := 25) S (inX3 _) hK hP (m_gR_s e25) rfl (by decide) (S.2.2.2.2 (.fieldLink RX3 19 "RuleHouse2Model" "fails" "[Z") (m_mem (by decide +kernel))) rfl dX3_rule_61 ?_
            refine lv_aload_n S.1 S.2.1 dX3_rule_64 rfl (lv_at hl 0 rfl) ?_
            obtain ⟨x26, e27, h⟩ := m_bs h
            refine m_get (ci := 3) (k := 2) (T := TX3) (N := 25) S (inX3 _) hK hP (m_gI_s e27) rfl (by decide) (S.2.2.2.2 (.fieldLink RX3 74 "RuleHouse2Model" "rules" "I") (m_mem (by decide +kernel))) rfl dX3_rule_65 ?_
            refine lv_iload_n S.1 S.2.1 dX3_rule_68 rfl (lv_at hl 3 rfl) ?_
            obtain ⟨a28, ea, g⟩ := m_bs h; clear h; subst ea; have h := g; clear g
            obtain ⟨z31, e32, h⟩ := m_bs h
            obtain ⟨hz, ne32⟩ := m_z_s e32; subst hz
            obtain ⟨s29, e30, h⟩ := m_bs h
            refine m_zast (t := 6) S hK hP hS e30 (by decide) rfl ne32.1 dX3_rule_69 (fun H locs hP hS => ?_)
            refine lv_aload_n S.1 S.2.1 dX3_rule_70 rfl (lv_at hl 0 rfl) ?_
            obtain ⟨r33, e34, h⟩ := m_bs h
            refine m_get (ci := 3) (k := 9) (T := TX3) (N := 25) S (inX3 _) hK hP (m_gR_s e34) rfl (by decide) (S.2.2.2.2 (.fieldLink RX3 16 "RuleHouse2Model" "made" "[I") (m_mem (by decide +kernel))) rfl dX3_rule_71 ?_
            refine lv_aload_n S.1 S.2.1 dX3_rule_74 rfl (lv_at hl 0 rfl) ?_
            obtain ⟨x35, e36, h⟩ := m_bs h
            refine m_get (ci := 3) (k := 2) (T := TX3) (N := 25) S (inX3 _) hK hP (m_gI_s e36) rfl (by decide) (S.2.2.2.2 (.fieldLink RX3 74 "RuleHouse2Model" "rules" "I") (m_mem (by decide +kernel))) rfl dX3_rule_75 ?_
            refine lv_iconst (v := (-1)) S.1 S.2.1 dX3_rule_78 (by decide) ?_
            obtain ⟨a37, ea, g⟩ := m_bs h; clear h; subst ea; have h := g; clear g
            obtain ⟨s38, e39, h⟩ := m_bs h
            refine m_iast (t := 5) S hK hP hS e39 (by decide) rfl dX3_rule_79 (fun H locs hP hS => ?_)
            refine lv_aload_n S.1 S.2.1 dX3_rule_80 rfl (lv_at hl 0 rfl) ?_
            refine lv_dup S.1 S.2.1 dX3_rule_81 rfl ?_
            obtain ⟨x40, e41, h⟩ := m_bs h
            refine m_get (ci := 3) (k := 2) (T := TX3) (N := 25) S (inX3 _) hK hP (m_gI_s e41) rfl (by decide) (S.2.2.2.2 (.fieldLink RX3 74 "RuleHouse2Model" "rules" "I") (m_mem (by decide +kernel))) rfl dX3_rule_82 ?_
            refine lv_iconst (v := 1) S.1 S.2.1 dX3_rule_85 (by decide) ?_
            refine lv_iadd S.1 S.2.1 dX3_rule_86 ?_
            obtain ⟨s42, e43, h⟩ := m_bs h
            refine m_put (ci := 3) (k := 2) (T := TX3) (N := 25) (v := .int (x40 + 1)) (ty := .int) S (inX3 _) tyX3 tX3 nX3 hK hP hS e43 rfl (by decide) (S.2.2.2.2 (.fieldLink RX3 74 "RuleHouse2Model" "rules" "I") (m_mem (by decide +kernel))) rfl rfl (by decide +kernel) rfl rfl dX3_rule_87 (fun H locs hP hS => ?_)
            refine lv_aload_n S.1 S.2.1 dX3_rule_90 rfl (lv_at hl 0 rfl) ?_
            obtain ⟨x44, e45, h⟩ := m_bs h
            refine m_get (ci := 3) (k := 2) (T := TX3) (N := 25) S (inX3 _) hK hP (m_gI_s e45) rfl (by decide) (S.2.2.2.2 (.fieldLink RX3 74 "RuleHouse2Model" "rules" "I") (m_mem (by decide +kernel))) rfl dX3_rule_91 ?_
            refine lv_iconst (v := 1) S.1 S.2.1 dX3_rule_94 (by decide) ?_
            refine lv_isub S.1 S.2.1 dX3_rule_95 ?_
            obtain ⟨h1, h2⟩ := m_fin h; subst h1; subst h2
            exact m_iret S hr hlk hK hP hS (by decide +kernel) (by decide +kernel) dX3_rule_96
          · replace h := m_t c9 h
            refine lv_bipush (v := (-4)) S.1 S.2.1 dX3_rule_37 (by decide) ?_
            obtain ⟨h1, h2⟩ := m_fin h; subst h1; subst h2
            exact m_iret S hr hlk hK hP hS (by decide +kernel) (by decide +kernel) dX3_rule_39
        · replace h := m_f c6 h
          refine lv_bipush (v := (-2)) S.1 S.2.1 dX3_rule_25 (by decide) ?_
          obtain ⟨h1, h2⟩ := m_fin h; subst h1; subst h2
          exact m_iret S hr hlk hK hP hS (by decide +kernel) (by decide +kernel) dX3_rule_27

def f_X3_firstOf_L2 : Nat → Int32 → Nat → Int32 → MS → Option (Int32 × MS)
  | 0, _, _, _, _ => none
  | f + 1, q2, q0, q1, s0 =>
    (m_gR s0 3 q0 7).bind fun r1 =>
    r1.bind fun a3 =>
    (m_aI s0 5 a3 q2).bind fun x4 =>
    (m_gR s0 3 q0 7).bind fun r6 =>
    r6.bind fun a8 =>
    (m_aI s0 5 a8 q1).bind fun x9 =>
    if x4 = x9 then
      (m_gR s0 3 q0 8).bind fun r12 =>
      r12.bind fun a14 =>
      (m_aI s0 5 a14 q2).bind fun x15 =>
      (m_gR s0 3 q0 8).bind fun r17 =>
      r17.bind fun a19 =>
      (m_aI s0 5 a19 q1).bind fun x20 =>
      if x15 = x20 then
        some (q2, s0)
      else
        f_X3_firstOf_L2 f (q2 + 1) q0 q1 s0
    else
      f_X3_firstOf_L2 f (q2 + 1) q0 q1 s0
def f_X3_firstOf (t0 : Nat) (p1 : Int32) (s0 : MS) : Option (Int32 × MS) :=
  f_X3_firstOf_L2 64 0 t0 p1 s0
set_option maxHeartbeats 4000000 in
set_option maxRecDepth 100000 in
theorem w_X3_firstOf_L2 {p : Program} {l : Launch} {e : Env} {s : State} {m : MethodId} {args : Array Value} {below : List Frame} {meth : Method} {c : Code} (D : va_G) (tc : Nat → ClassId) (b : Nat) (S : CallFix p m c cX3_firstOf 3 s args wsX3_firstOf RX3) (hr : meth.sig.returnType = (some .int)) (hlk : meth.locks = false) (hK : va_K D vwCl (m_tys tc) s) :
    ∀ (f : Nat) (q2 : Int32) (q0 : Nat) (q1 : Int32) (s0 st' : MS) (r : Int32) (h : f_X3_firstOf_L2 f q2 q0 q1 s0 = some (r, st')) (H : Heap) (locs : List Loc) (ls : Array Slot) (hP : mw D vwCl (m_tys tc) b s0 H) (hS : va_S (m_A b) s.heap H locs) (hl : lv_has ls 3 [(2, .int q2), (0, .ref q0), (1, .int q1)]), W p l e { frames := 0, cells := 0, slots := 0, locals := 0 } s m args below meth c H locs 0 0 (MQ below (m_Q D vwCl (m_tys tc) b (some (.int r)) st') args s 0 0 (m_A b)) (F0 m 2 ls []) := by
  intro f
  induction f with
  | zero =>
    intro q2 q0 q1 s0 st' r h
    cases h
  | succ f ih =>
    intro q2 q0 q1 s0 st' r h H locs ls hP hS hl
    rw [f_X3_firstOf_L2] at h
    refine lv_aload_n S.1 S.2.1 dX3_firstOf_2 rfl (lv_at hl 1 rfl) ?_
    obtain ⟨r1, e2, h⟩ := m_bs h
    refine m_get (ci := 3) (k := 7) (T := TX3) (N := 25) S (inX3 _) hK hP (m_gR_s e2) rfl (by decide) (S.2.2.2.2 (.fieldLink RX3 7 "RuleHouse2Model" "edition" "[I") (m_mem (by decide +kernel))) rfl dX3_firstOf_3 ?_
    refine lv_iload_n S.1 S.2.1 dX3_firstOf_6 rfl (lv_at hl 0 rfl) ?_
    obtain ⟨a3, ea, g⟩ := m_bs h; clear h; subst ea; have h := g; clear g
    obtain ⟨x4, e5, h⟩ := m_bs h
    refine m_iald (t := 5) S hK hP (m_aI_s e5) rfl dX3_firstOf_7 ?_
    refine lv_aload_n S.1 S.2.1 dX3_firstOf_8 rfl (lv_at hl 1 rfl) ?_
    obtain ⟨r6, e7, h⟩ := m_bs h
    refine m_get (ci := 3) (k := 7) (T := TX3) (N := 25) S (inX3 _) hK hP (m_gR_s e7) rfl (by decide) (S.2.2.2.2 (.fieldLink RX3 7 "RuleHouse2Model" "edition" "[I") (m_mem (by decide +kernel))) rfl dX3_firstOf_9 ?_
    refine lv_iload_n S.1 S.2.1 dX3_firstOf_12 rfl (lv_at hl 2 rfl) ?_
    obtain ⟨a8, ea, g⟩ := m_bs h; clear h; subst ea; have h := g; clear g
    obtain ⟨x9, e10, h⟩ := m_bs h
    refine m_iald (t := 5) S hK hP (m_aI_s e10) rfl dX3_firstOf_13 ?_
    refine lv_icmp_ne (tgt := 32) S.1 S.2.1 dX3_firstOf_14 (by decide) (fun c11 => ?_) (fun c11 => ?_)
    · replace h := m_f c11 h
      refine lv_iinc (v := q2 + 1) (lv' := [(2, .int (q2 + 1)), (0, .ref q0), (1, .int q1)]) S.1 S.2.1 dX3_firstOf_32 hl (k := 0) rfl rfl (by decide) (by first | rfl | simp [m_rfc, m_catI, m_catL, m_catA]) (fun ls hl => ?_)
      refine lv_goto (tgt := 2) S.1 S.2.1 dX3_firstOf_35 (by decide) ?_
      exact ih (q2 + 1) q0 q1 _ _ _ h _ _ _ hP hS (lv_sub hl [0, 1, 2] rfl)
    · replace h := m_t c11 h
      refine lv_aload_n S.1 S.2.1 dX3_firstOf_17 rfl (lv_at hl 1 rfl) ?_
      obtain ⟨r12, e13, h⟩ := m_bs h
      refine m_get (ci := 3) (k := 8) (T := TX3) (N := 25) S (inX3 _) hK hP (m_gR_s e13) rfl (by decide) (S.2.2.2.2 (.fieldLink RX3 13 "RuleHouse2Model" "does" "[I") (m_mem (by decide +kernel))) rfl dX3_firstOf_18 ?_
      refine lv_iload_n S.1 S.2.1 dX3_firstOf_21 rfl (lv_at hl 0 rfl) ?_
      obtain ⟨a14, ea, g⟩ := m_bs h; clear h; subst ea; have h := g; clear g
      obtain ⟨x15, e16, h⟩ := m_bs h
      refine m_iald (t := 5) S hK hP (m_aI_s e16) rfl dX3_firstOf_22 ?_
      refine lv_aload_n S.1 S.2.1 dX3_firstOf_23 rfl (lv_at hl 1 rfl) ?_
      obtain ⟨r17, e18, h⟩ := m_bs h
      refine m_get (ci := 3) (k := 8) (T := TX3) (N := 25) S (inX3 _) hK hP (m_gR_s e18) rfl (by decide) (S.2.2.2.2 (.fieldLink RX3 13 "RuleHouse2Model" "does" "[I") (m_mem (by decide +kernel))) rfl dX3_firstOf_24 ?_
      refine lv_iload_n S.1 S.2.1 dX3_firstOf_27 rfl (lv_at hl 2 rfl) ?_
      obtain ⟨a19, ea, g⟩ := m_bs h; clear h; subst ea; have h := g; clear g
      obtain ⟨x20, e21, h⟩ := m_bs h
      refine m_iald (t := 5) S hK hP (m_aI_s e21) rfl dX3_firstOf_28 ?_
      refine lv_icmp_eq (tgt := 38) S.1 S.2.1 dX3_firstOf_29 (by decide) (fun c22 => ?_) (fun c22 => ?_)
      · replace h := m_t c22 h
        refine lv_iload_n S.1 S.2.1 dX3_firstOf_38 rfl (lv_at hl 0 rfl) ?_
        obtain ⟨h1, h2⟩ := m_fin h; subst h1; subst h2
        exact m_iret S hr hlk hK hP hS (by decide +kernel) (by decide +kernel) dX3_firstOf_39
      · replace h := m_f c22 h
        refine lv_iinc (v := q2 + 1) (lv' := [(2, .int (q2 + 1)), (0, .ref q0), (1, .int q1)]) S.1 S.2.1 dX3_firstOf_32 hl (k := 0) rfl rfl (by decide) (by first | rfl | simp [m_rfc, m_catI, m_catL, m_catA]) (fun ls hl => ?_)
        refine lv_goto (tgt := 2) S.1 S.2.1 dX3_firstOf_35 (by decide) ?_
        exact ih (q2 + 1) q0 q1 _ _ _ h _ _ _ hP hS (lv_sub hl [0, 1, 2] rfl)
set_option maxHeartbeats 4000000 in
set_option maxRecDepth 100000 in
theorem c_X3_firstOf (l : Launch) (D : va_G) (tc : Nat → ClassId) (b : Nat) (t0 : Nat) (p1 : Int32) (s0 st' : MS) (r : Int32) (h : f_X3_firstOf t0 p1 s0 = some (r, st')) : Met l yX3_firstOf wsX3_firstOf ({ frames := 0, cells := 0, slots := 0, locals := 0 }) (m_Pc D vwCl (m_tys tc) b s0 [.ref t0, .int p1]) (m_Q D vwCl (m_tys tc) b (some (.int r)) st') 0 0 (m_A b) := by
  unfold f_X3_firstOf at h
  refine m_met (cc := cX3_firstOf) (maxL := 3) (ret := (some .int)) (by decide) rfl (by first | exact Nat.le_of_ble_eq_true rfl | simp [lg_sl, m_rfc, m_catI, m_catL, m_catA]) ?_
  intro p e s m below meth c ls S hr hlk hnm hK hP hl hS
  replace hl : lv_has ls 3 [(0, .ref t0), (1, .int p1)] := by first | exact hl | simpa [lv_args, m_rfc, m_catI, m_catL, m_catA] using hl
  refine lv_iconst (v := 0) S.1 S.2.1 dX3_firstOf_0 (by decide) ?_
  refine lv_istore_n (i := 2) (lv' := [(2, .int 0), (0, .ref t0), (1, .int p1)]) S.1 S.2.1 dX3_firstOf_1 rfl hl (by decide) (by first | rfl | simp [m_rfc, m_catI, m_catL, m_catA]) (fun ls hl => ?_)
  exact w_X3_firstOf_L2 D tc b S hr hlk hK 64 0 t0 p1 _ _ _ h _ _ _ hP hS (lv_sub hl [0, 1, 2] rfl)

def f_X3_classOf (t0 : Nat) (p1 : Int32) (s0 : MS) : Option (Int32 × MS) :=
  (m_is s0 3 t0).bind fun _ =>
  m_b (f_X3_firstOf t0 p1 s0) fun x1 s2 =>
  (m_gR s2 3 t0 10).bind fun r5 =>
  r5.bind fun a7 =>
  (m_aI s2 6 a7 x1).bind fun x8 =>
  if x8 = 0 then
    (m_gR s2 3 t0 9).bind fun r11 =>
    r11.bind fun a13 =>
    (m_aI s2 5 a13 x1).bind fun x14 =>
    if x14 = (-1) then
      (m_gR s2 3 t0 9).bind fun r22 =>
      (m_gI s2 3 t0 3).bind fun x24 =>
      r22.bind fun a26 =>
      (m_ap s2 5 a26 x1 (.int x24)).bind fun s27 =>
      (m_gR s27 3 t0 11).bind fun r29 =>
      (m_gI s27 3 t0 3).bind fun x31 =>
      r29.bind fun a33 =>
      (m_ap s27 7 a33 x31 (.long 0)).bind fun s34 =>
      (m_gI s34 3 t0 3).bind fun x36 =>
      (m_p s34 3 t0 3 (.int (x36 + 1))).bind fun s38 =>
      (m_gR s38 3 t0 9).bind fun r40 =>
      r40.bind fun a42 =>
      (m_aI s38 5 a42 x1).bind fun x43 =>
      some (x43, s38)
    else
      (m_gR s2 3 t0 9).bind fun r17 =>
      r17.bind fun a19 =>
      (m_aI s2 5 a19 x1).bind fun x20 =>
      some (x20, s2)
  else
    some ((-1), s2)
set_option maxHeartbeats 4000000 in
set_option maxRecDepth 100000 in
theorem c_X3_classOf (l : Launch) (D : va_G) (tc : Nat → ClassId) (b : Nat) (t0 : Nat) (p1 : Int32) (s0 st' : MS) (r : Int32) (h : f_X3_classOf t0 p1 s0 = some (r, st')) : Met l yX3_classOf wsX3_classOf ({ frames := 1, cells := 0, slots := 0, locals := 22 }) (m_Pc D vwCl (m_tys tc) b s0 [.ref t0, .int p1]) (m_Q D vwCl (m_tys tc) b (some (.int r)) st') 0 0 (m_A b) := by
  unfold f_X3_classOf at h
  refine m_met (cc := cX3_classOf) (maxL := 3) (ret := (some .int)) (by decide) rfl (by first | exact Nat.le_of_ble_eq_true rfl | simp [lg_sl, m_rfc, m_catI, m_catL, m_catA]) ?_
  intro p e s m below meth c ls S hr hlk hnm hK hP hl hS
  replace hl : lv_has ls 3 [(0, .ref t0), (1, .int p1)] := by first | exact hl | simpa [lv_args, m_rfc, m_catI, m_catL, m_catA] using hl
  refine lv_aload_n S.1 S.2.1 dX3_classOf_0 rfl (lv_at hl 0 rfl) ?_
  refine lv_iload_n S.1 S.2.1 dX3_classOf_1 rfl (lv_at hl 1 rfl) ?_
  obtain ⟨_, k4, h⟩ := m_bs h
  obtain ⟨x1, s2, e3, h⟩ := m_b_s h
  refine m_calli (va_runV (As := [.int p1]) (rest := []) S (c_X3_firstOf l D tc b t0 p1 _ _ _ e3) (cwV 1 S.2.2.2.2 (m_wV kX3_firstOf (by decide +kernel)) rfl rfl rfl (by decide +kernel) ⟨by decide +kernel, by decide +kernel⟩) (m_preV hK hP (m_is_s k4) rfl) rfl rfl hl.1 rfl (lv_room (by first | decide | simp [m_rfc, m_catI, m_catL, m_catA])) dX3_classOf_2 ⟨by decide +kernel, by decide +kernel⟩) hS (fun H locs hP hS => ?_)
  refine lv_istore_n (i := 2) (lv' := [(2, .int x1), (0, .ref t0), (1, .int p1)]) S.1 S.2.1 dX3_classOf_5 rfl hl (by decide) (by first | rfl | simp [m_rfc, m_catI, m_catL, m_catA]) (fun ls hl => ?_)
  refine lv_aload_n S.1 S.2.1 dX3_classOf_6 rfl (lv_at hl 1 rfl) ?_
  obtain ⟨r5, e6, h⟩ := m_bs h
  refine m_get (ci := 3) (k := 10) (T := TX3) (N := 25) S (inX3 _) hK hP (m_gR_s e6) rfl (by decide) (S.2.2.2.2 (.fieldLink RX3 19 "RuleHouse2Model" "fails" "[Z") (m_mem (by decide +kernel))) rfl dX3_classOf_7 ?_
  refine lv_iload_n S.1 S.2.1 dX3_classOf_10 rfl (lv_at hl 0 rfl) ?_
  obtain ⟨a7, ea, g⟩ := m_bs h; clear h; subst ea; have h := g; clear g
  obtain ⟨x8, e9, h⟩ := m_bs h
  refine m_zald (t := 6) S hK hP (m_aI_s e9) rfl dX3_classOf_11 ?_
  refine lv_if_eq (tgt := 17) S.1 S.2.1 dX3_classOf_12 (by decide) (fun c10 => ?_) (fun c10 => ?_)
  · replace h := m_t c10 h
    refine lv_aload_n S.1 S.2.1 dX3_classOf_17 rfl (lv_at hl 1 rfl) ?_
    obtain ⟨r11, e12, h⟩ := m_bs h
    refine m_get (ci := 3) (k := 9) (T := TX3) (N := 25) S (inX3 _) hK hP (m_gR_s e12) rfl (by decide) (S.2.2.2.2 (.fieldLink RX3 16 "RuleHouse2Model" "made" "[I") (m_mem (by decide +kernel))) rfl dX3_classOf_18 ?_
    refine lv_iload_n S.1 S.2.1 dX3_classOf_21 rfl (lv_at hl 0 rfl) ?_
    obtain ⟨a13, ea, g⟩ := m_bs h; clear h; subst ea; have h := g; clear g
    obtain ⟨x14, e15, h⟩ := m_bs h
    refine m_iald (t := 5) S hK hP (m_aI_s e15) rfl dX3_classOf_22 ?_
    refine lv_iconst (v := (-1)) S.1 S.2.1 dX3_classOf_23 (by decide) ?_
    refine lv_icmp_ne (tgt := 57) S.1 S.2.1 dX3_classOf_24 (by decide) (fun c16 => ?_) (fun c16 => ?_)
    · replace h := m_f c16 h
      refine lv_aload_n S.1 S.2.1 dX3_classOf_57 rfl (lv_at hl 1 rfl) ?_
      obtain ⟨r17, e18, h⟩ := m_bs h
      refine m_get (ci := 3) (k := 9) (T := TX3) (N := 25) S (inX3 _) hK hP (m_gR_s e18) rfl (by decide) (S.2.2.2.2 (.fieldLink RX3 16 "RuleHouse2Model" "made" "[I") (m_mem (by decide +kernel))) rfl dX3_classOf_58 ?_
      refine lv_iload_n S.1 S.2.1 dX3_classOf_61 rfl (lv_at hl 0 rfl) ?_
      obtain ⟨a19, ea, g⟩ := m_bs h; clear h; subst ea; have h := g; clear g
      obtain ⟨x20, e21, h⟩ := m_bs h
      refine m_iald (t := 5) S hK hP (m_aI_s e21) rfl dX3_classOf_62 ?_
      obtain ⟨h1, h2⟩ := m_fin h; subst h1; subst h2
      exact m_iret S hr hlk hK hP hS (by decide +kernel) (by decide +kernel) dX3_classOf_63
    · replace h := m_t c16 h
      refine lv_aload_n S.1 S.2.1 dX3_classOf_27 rfl (lv_at hl 1 rfl) ?_
      obtain ⟨r22, e23, h⟩ := m_bs h
      refine m_get (ci := 3) (k := 9) (T := TX3) (N := 25) S (inX3 _) hK hP (m_gR_s e23) rfl (by decide) (S.2.2.2.2 (.fieldLink RX3 16 "RuleHouse2Model" "made" "[I") (m_mem (by decide +kernel))) rfl dX3_classOf_28 ?_
      refine lv_iload_n S.1 S.2.1 dX3_classOf_31 rfl (lv_at hl 0 rfl) ?_
      refine lv_aload_n S.1 S.2.1 dX3_classOf_32 rfl (lv_at hl 1 rfl) ?_
      obtain ⟨x24, e25, h⟩ := m_bs h
      refine m_get (ci := 3) (k := 3) (T := TX3) (N := 25) S (inX3 _) hK hP (m_gI_s e25) rfl (by decide) (S.2.2.2.2 (.fieldLink RX3 84 "RuleHouse2Model" "classes" "I") (m_mem (by decide +kernel))) rfl dX3_classOf_33 ?_
      obtain ⟨a26, ea, g⟩ := m_bs h; clear h; subst ea; have h := g; clear g
      obtain ⟨s27, e28, h⟩ := m_bs h
      refine m_iast (t := 5) S hK hP hS e28 (by decide) rfl dX3_classOf_36 (fun H locs hP hS => ?_)
      refine lv_aload_n S.1 S.2.1 dX3_classOf_37 rfl (lv_at hl 1 rfl) ?_
      obtain ⟨r29, e30, h⟩ := m_bs h
      refine m_get (ci := 3) (k := 11) (T := TX3) (N := 25) S (inX3 _) hK hP (m_gR_s e30) rfl (by decide) (S.2.2.2.2 (.fieldLink RX3 23 "RuleHouse2Model" "cell" "[J") (m_mem (by decide +kernel))) rfl dX3_classOf_38 ?_
      refine lv_aload_n S.1 S.2.1 dX3_classOf_41 rfl (lv_at hl 1 rfl) ?_
      obtain ⟨x31, e32, h⟩ := m_bs h
      refine m_get (ci := 3) (k := 3) (T := TX3) (N := 25) S (inX3 _) hK hP (m_gI_s e32) rfl (by decide) (S.2.2.2.2 (.fieldLink RX3 84 "RuleHouse2Model" "classes" "I") (m_mem (by decide +kernel))) rfl dX3_classOf_42 ?_
      refine lv_lconst (v := 0) S.1 S.2.1 dX3_classOf_45 (by decide) ?_
      obtain ⟨a33, ea, g⟩ := m_bs h; clear h; subst ea; have h := g; clear g
      obtain ⟨s34, e35, h⟩ := m_bs h
      refine m_last (t := 7) S hK hP hS e35 (by decide) rfl dX3_classOf_46 (fun H locs hP hS => ?_)
      refine lv_aload_n S.1 S.2.1 dX3_classOf_47 rfl (lv_at hl 1 rfl) ?_
      refine lv_dup S.1 S.2.1 dX3_classOf_48 rfl ?_
      obtain ⟨x36, e37, h⟩ := m_bs h
      refine m_get (ci := 3) (k := 3) (T := TX3) (N := 25) S (inX3 _) hK hP (m_gI_s e37) rfl (by decide) (S.2.2.2.2 (.fieldLink RX3 84 "RuleHouse2Model" "classes" "I") (m_mem (by decide +kernel))) rfl dX3_classOf_49 ?_
      refine lv_iconst (v := 1) S.1 S.2.1 dX3_classOf_52 (by decide) ?_
      refine lv_iadd S.1 S.2.1 dX3_classOf_53 ?_
      obtain ⟨s38, e39, h⟩ := m_bs h
      refine m_put (ci := 3) (k := 3) (T := TX3) (N := 25) (v := .int (x36 + 1)) (ty := .int) S (inX3 _) tyX3 tX3 nX3 hK hP hS e39 rfl (by decide) (S.2.2.2.2 (.fieldLink RX3 84 "RuleHouse2Model" "classes" "I") (m_mem (by decide +kernel))) rfl rfl (by decide +kernel) rfl rfl dX3_classOf_54 (fun H locs hP hS => ?_)
      refine lv_aload_n S.1 S.2.1 dX3_classOf_57 rfl (lv_at hl 1 rfl) ?_
      obtain ⟨r40, e41, h⟩ := m_bs h
      refine m_get (ci := 3) (k := 9) (T := TX3) (N := 25) S (inX3 _) hK hP (m_gR_s e41) rfl (by decide) (S.2.2.2.2 (.fieldLink RX3 16 "RuleHouse2Model" "made" "[I") (m_mem (by decide +kernel))) rfl dX3_classOf_58 ?_
      refine lv_iload_n S.1 S.2.1 dX3_classOf_61 rfl (lv_at hl 0 rfl) ?_
      obtain ⟨a42, ea, g⟩ := m_bs h; clear h; subst ea; have h := g; clear g
      obtain ⟨x43, e44, h⟩ := m_bs h
      refine m_iald (t := 5) S hK hP (m_aI_s e44) rfl dX3_classOf_62 ?_
      obtain ⟨h1, h2⟩ := m_fin h; subst h1; subst h2
      exact m_iret S hr hlk hK hP hS (by decide +kernel) (by decide +kernel) dX3_classOf_63
  · replace h := m_f c10 h
    refine lv_iconst (v := (-1)) S.1 S.2.1 dX3_classOf_15 (by decide) ?_
    obtain ⟨h1, h2⟩ := m_fin h; subst h1; subst h2
    exact m_iret S hr hlk hK hP hS (by decide +kernel) (by decide +kernel) dX3_classOf_16

def f_X3_make (t0 : Nat) (p1 : Int32) (s0 : MS) : Option (Int32 × MS) :=
  (m_p s0 3 t0 0 (.int 0)).bind fun s1 =>
  (m_is s1 3 t0).bind fun _ =>
  m_b (f_X3_isRule t0 p1 s1) fun x3 s4 =>
  if x3 = 0 then
    some ((-1), s4)
  else
    (m_is s4 3 t0).bind fun _ =>
    m_b (f_X3_classOf t0 p1 s4) fun x8 s9 =>
    some (x8, s9)
set_option maxHeartbeats 4000000 in
set_option maxRecDepth 100000 in
theorem c_X3_make (l : Launch) (D : va_G) (tc : Nat → ClassId) (b : Nat) (t0 : Nat) (p1 : Int32) (s0 st' : MS) (r : Int32) (h : f_X3_make t0 p1 s0 = some (r, st')) : Met l yX3_make wsX3_make ({ frames := 2, cells := 0, slots := 0, locals := 44 }) (m_Pc D vwCl (m_tys tc) b s0 [.ref t0, .int p1]) (m_Q D vwCl (m_tys tc) b (some (.int r)) st') 0 0 (m_A b) := by
  unfold f_X3_make at h
  refine m_met (cc := cX3_make) (maxL := 2) (ret := (some .int)) (by decide) rfl (by first | exact Nat.le_of_ble_eq_true rfl | simp [lg_sl, m_rfc, m_catI, m_catL, m_catA]) ?_
  intro p e s m below meth c ls S hr hlk hnm hK hP hl hS
  replace hl : lv_has ls 2 [(0, .ref t0), (1, .int p1)] := by first | exact hl | simpa [lv_args, m_rfc, m_catI, m_catL, m_catA] using hl
  refine lv_aload_n S.1 S.2.1 dX3_make_0 rfl (lv_at hl 0 rfl) ?_
  refine lv_iconst (v := 0) S.1 S.2.1 dX3_make_1 (by decide) ?_
  obtain ⟨s1, e2, h⟩ := m_bs h
  refine m_put (ci := 3) (k := 0) (T := TX3) (N := 25) (v := .int 0) (ty := .int) S (inX3 _) tyX3 tX3 nX3 hK hP hS e2 rfl (by decide) (S.2.2.2.2 (.fieldLink RX3 71 "RuleHouse2Model" "code" "I") (m_mem (by decide +kernel))) rfl rfl (by decide +kernel) rfl rfl dX3_make_2 (fun H locs hP hS => ?_)
  refine lv_aload_n S.1 S.2.1 dX3_make_5 rfl (lv_at hl 0 rfl) ?_
  refine lv_iload_n S.1 S.2.1 dX3_make_6 rfl (lv_at hl 1 rfl) ?_
  obtain ⟨_, k6, h⟩ := m_bs h
  obtain ⟨x3, s4, e5, h⟩ := m_b_s h
  refine m_calli (va_runV (As := [.int p1]) (rest := []) S (c_X3_isRule l D tc b t0 p1 _ _ _ e5) (cwV 1 S.2.2.2.2 (m_wV kX3_isRule (by decide +kernel)) rfl rfl rfl (by decide +kernel) ⟨by decide +kernel, by decide +kernel⟩) (m_preV hK hP (m_is_s k6) rfl) rfl rfl hl.1 rfl (lv_room (by first | decide | simp [m_rfc, m_catI, m_catL, m_catA])) dX3_make_7 ⟨by decide +kernel, by decide +kernel⟩) hS (fun H locs hP hS => ?_)
  refine lv_if_eq (tgt := 21) S.1 S.2.1 dX3_make_10 (by decide) (fun c7 => ?_) (fun c7 => ?_)
  · replace h := m_t c7 h
    refine lv_iconst (v := (-1)) S.1 S.2.1 dX3_make_21 (by decide) ?_
    obtain ⟨h1, h2⟩ := m_fin h; subst h1; subst h2
    exact m_iret S hr hlk hK hP hS (by decide +kernel) (by decide +kernel) dX3_make_22
  · replace h := m_f c7 h
    refine lv_aload_n S.1 S.2.1 dX3_make_13 rfl (lv_at hl 0 rfl) ?_
    refine lv_iload_n S.1 S.2.1 dX3_make_14 rfl (lv_at hl 1 rfl) ?_
    obtain ⟨_, k11, h⟩ := m_bs h
    obtain ⟨x8, s9, e10, h⟩ := m_b_s h
    refine m_calli (va_runV (As := [.int p1]) (rest := []) S (c_X3_classOf l D tc b t0 p1 _ _ _ e10) (cwV 1 S.2.2.2.2 (m_wV kX3_classOf (by decide +kernel)) rfl rfl rfl (by decide +kernel) ⟨by decide +kernel, by decide +kernel⟩) (m_preV hK hP (m_is_s k11) rfl) rfl rfl hl.1 rfl (lv_room (by first | decide | simp [m_rfc, m_catI, m_catL, m_catA])) dX3_make_15 ⟨by decide +kernel, by decide +kernel⟩) hS (fun H locs hP hS => ?_)
    refine lv_goto (tgt := 22) S.1 S.2.1 dX3_make_18 (by decide) ?_
    obtain ⟨h1, h2⟩ := m_fin h; subst h1; subst h2
    exact m_iret S hr hlk hK hP hS (by decide +kernel) (by decide +kernel) dX3_make_22

def f_X3_cell (t0 : Nat) (p1 : Int32) (s0 : MS) : Option (Int64 × MS) :=
  (m_p s0 3 t0 0 (.int 0)).bind fun s1 =>
  (m_is s1 3 t0).bind fun _ =>
  m_b (f_X3_isRule t0 p1 s1) fun x3 s4 =>
  if x3 = 0 then
    if ((-1) : Int32) = (-1) then
      some ((-1), s4)
    else
      (m_gR s4 3 t0 11).bind fun r9 =>
      r9.bind fun a11 =>
      (m_aL s4 7 a11 (-1)).bind fun l12 =>
      some (l12, s4)
  else
    (m_gR s4 3 t0 9).bind fun r14 =>
    (m_is s4 3 t0).bind fun _ =>
    m_b (f_X3_firstOf t0 p1 s4) fun x16 s17 =>
    r14.bind fun a20 =>
    (m_aI s17 5 a20 x16).bind fun x21 =>
    if x21 = (-1) then
      some ((-1), s17)
    else
      (m_gR s17 3 t0 11).bind fun r24 =>
      r24.bind fun a26 =>
      (m_aL s17 7 a26 x21).bind fun l27 =>
      some (l27, s17)
set_option maxHeartbeats 4000000 in
set_option maxRecDepth 100000 in
theorem c_X3_cell (l : Launch) (D : va_G) (tc : Nat → ClassId) (b : Nat) (t0 : Nat) (p1 : Int32) (s0 st' : MS) (r : Int64) (h : f_X3_cell t0 p1 s0 = some (r, st')) : Met l yX3_cell wsX3_cell ({ frames := 1, cells := 0, slots := 0, locals := 22 }) (m_Pc D vwCl (m_tys tc) b s0 [.ref t0, .int p1]) (m_Q D vwCl (m_tys tc) b (some (.long r)) st') 0 0 (m_A b) := by
  unfold f_X3_cell at h
  refine m_met (cc := cX3_cell) (maxL := 3) (ret := (some .long)) (by decide) rfl (by first | exact Nat.le_of_ble_eq_true rfl | simp [lg_sl, m_rfc, m_catI, m_catL, m_catA]) ?_
  intro p e s m below meth c ls S hr hlk hnm hK hP hl hS
  replace hl : lv_has ls 3 [(0, .ref t0), (1, .int p1)] := by first | exact hl | simpa [lv_args, m_rfc, m_catI, m_catL, m_catA] using hl
  refine lv_aload_n S.1 S.2.1 dX3_cell_0 rfl (lv_at hl 0 rfl) ?_
  refine lv_iconst (v := 0) S.1 S.2.1 dX3_cell_1 (by decide) ?_
  obtain ⟨s1, e2, h⟩ := m_bs h
  refine m_put (ci := 3) (k := 0) (T := TX3) (N := 25) (v := .int 0) (ty := .int) S (inX3 _) tyX3 tX3 nX3 hK hP hS e2 rfl (by decide) (S.2.2.2.2 (.fieldLink RX3 71 "RuleHouse2Model" "code" "I") (m_mem (by decide +kernel))) rfl rfl (by decide +kernel) rfl rfl dX3_cell_2 (fun H locs hP hS => ?_)
  refine lv_aload_n S.1 S.2.1 dX3_cell_5 rfl (lv_at hl 0 rfl) ?_
  refine lv_iload_n S.1 S.2.1 dX3_cell_6 rfl (lv_at hl 1 rfl) ?_
  obtain ⟨_, k6, h⟩ := m_bs h
  obtain ⟨x3, s4, e5, h⟩ := m_b_s h
  refine m_calli (va_runV (As := [.int p1]) (rest := []) S (c_X3_isRule l D tc b t0 p1 _ _ _ e5) (cwV 1 S.2.2.2.2 (m_wV kX3_isRule (by decide +kernel)) rfl rfl rfl (by decide +kernel) ⟨by decide +kernel, by decide +kernel⟩) (m_preV hK hP (m_is_s k6) rfl) rfl rfl hl.1 rfl (lv_room (by first | decide | simp [m_rfc, m_catI, m_catL, m_catA])) dX3_cell_7 ⟨by decide +kernel, by decide +kernel⟩) hS (fun H locs hP hS => ?_)
  refine lv_if_eq (tgt := 26) S.1 S.2.1 dX3_cell_10 (by decide) (fun c7 => ?_) (fun c7 => ?_)
  · replace h := m_t c7 h
    refine lv_iconst (v := (-1)) S.1 S.2.1 dX3_cell_26 (by decide) ?_
    refine lv_istore_n (i := 2) (lv' := [(2, .int (-1)), (0, .ref t0), (1, .int p1)]) S.1 S.2.1 dX3_cell_27 rfl hl (by decide) (by first | rfl | simp [m_rfc, m_catI, m_catL, m_catA]) (fun ls hl => ?_)
    refine lv_iload_n S.1 S.2.1 dX3_cell_28 rfl (lv_at hl 0 rfl) ?_
    refine lv_iconst (v := (-1)) S.1 S.2.1 dX3_cell_29 (by decide) ?_
    refine lv_icmp_ne (tgt := 39) S.1 S.2.1 dX3_cell_30 (by decide) (fun c8 => ?_) (fun c8 => ?_)
    · replace h := m_f c8 h
      refine lv_aload_n S.1 S.2.1 dX3_cell_39 rfl (lv_at hl 1 rfl) ?_
      obtain ⟨r9, e10, h⟩ := m_bs h
      refine m_get (ci := 3) (k := 11) (T := TX3) (N := 25) S (inX3 _) hK hP (m_gR_s e10) rfl (by decide) (S.2.2.2.2 (.fieldLink RX3 23 "RuleHouse2Model" "cell" "[J") (m_mem (by decide +kernel))) rfl dX3_cell_40 ?_
      refine lv_iload_n S.1 S.2.1 dX3_cell_43 rfl (lv_at hl 0 rfl) ?_
      obtain ⟨a11, ea, g⟩ := m_bs h; clear h; subst ea; have h := g; clear g
      obtain ⟨l12, e13, h⟩ := m_bs h
      refine m_lald (t := 7) S hK hP (m_aL_s e13) rfl dX3_cell_44 ?_
      obtain ⟨h1, h2⟩ := m_fin h; subst h1; subst h2
      exact m_lret S hr hlk hK hP hS (by decide +kernel) (by decide +kernel) dX3_cell_45
    · replace h := m_t c8 h
      refine lv_ldc2 (v := (-1)) S.1 S.2.1 S.2.2.2.1 (S.2.2.2.2 (.constantLong RX3 94 (-1)) (m_mem (by decide +kernel))) dX3_cell_33 ?_
      refine lv_goto (tgt := 45) S.1 S.2.1 dX3_cell_36 (by decide) ?_
      obtain ⟨h1, h2⟩ := m_fin h; subst h1; subst h2
      exact m_lret S hr hlk hK hP hS (by decide +kernel) (by decide +kernel) dX3_cell_45
  · replace h := m_f c7 h
    refine lv_aload_n S.1 S.2.1 dX3_cell_13 rfl (lv_at hl 0 rfl) ?_
    obtain ⟨r14, e15, h⟩ := m_bs h
    refine m_get (ci := 3) (k := 9) (T := TX3) (N := 25) S (inX3 _) hK hP (m_gR_s e15) rfl (by decide) (S.2.2.2.2 (.fieldLink RX3 16 "RuleHouse2Model" "made" "[I") (m_mem (by decide +kernel))) rfl dX3_cell_14 ?_
    refine lv_aload_n S.1 S.2.1 dX3_cell_17 rfl (lv_at hl 0 rfl) ?_
    refine lv_iload_n S.1 S.2.1 dX3_cell_18 rfl (lv_at hl 1 rfl) ?_
    obtain ⟨_, k19, h⟩ := m_bs h
    obtain ⟨x16, s17, e18, h⟩ := m_b_s h
    refine m_calli (va_runV (As := [.int p1]) (rest := [va_rf r14]) S (c_X3_firstOf l D tc b t0 p1 _ _ _ e18) (cwV 1 S.2.2.2.2 (m_wV kX3_firstOf (by decide +kernel)) rfl rfl rfl (by decide +kernel) ⟨by decide +kernel, by decide +kernel⟩) (m_preV hK hP (m_is_s k19) rfl) rfl rfl hl.1 rfl (lv_room (by first | decide | simp [m_rfc, m_catI, m_catL, m_catA])) dX3_cell_19 ⟨by decide +kernel, by decide +kernel⟩) hS (fun H locs hP hS => ?_)
    obtain ⟨a20, ea, g⟩ := m_bs h; clear h; subst ea; have h := g; clear g
    obtain ⟨x21, e22, h⟩ := m_bs h
    refine m_iald (t := 5) S hK hP (m_aI_s e22) rfl dX3_cell_22 ?_
    refine lv_goto (tgt := 27) S.1 S.2.1 dX3_cell_23 (by decide) ?_
    refine lv_istore_n (i := 2) (lv' := [(2, .int x21), (0, .ref t0), (1, .int p1)]) S.1 S.2.1 dX3_cell_27 rfl hl (by decide) (by first | rfl | simp [m_rfc, m_catI, m_catL, m_catA]) (fun ls hl => ?_)
    refine lv_iload_n S.1 S.2.1 dX3_cell_28 rfl (lv_at hl 0 rfl) ?_
    refine lv_iconst (v := (-1)) S.1 S.2.1 dX3_cell_29 (by decide) ?_
    refine lv_icmp_ne (tgt := 39) S.1 S.2.1 dX3_cell_30 (by decide) (fun c23 => ?_) (fun c23 => ?_)
    · replace h := m_f c23 h
      refine lv_aload_n S.1 S.2.1 dX3_cell_39 rfl (lv_at hl 1 rfl) ?_
      obtain ⟨r24, e25, h⟩ := m_bs h
      refine m_get (ci := 3) (k := 11) (T := TX3) (N := 25) S (inX3 _) hK hP (m_gR_s e25) rfl (by decide) (S.2.2.2.2 (.fieldLink RX3 23 "RuleHouse2Model" "cell" "[J") (m_mem (by decide +kernel))) rfl dX3_cell_40 ?_
      refine lv_iload_n S.1 S.2.1 dX3_cell_43 rfl (lv_at hl 0 rfl) ?_
      obtain ⟨a26, ea, g⟩ := m_bs h; clear h; subst ea; have h := g; clear g
      obtain ⟨l27, e28, h⟩ := m_bs h
      refine m_lald (t := 7) S hK hP (m_aL_s e28) rfl dX3_cell_44 ?_
      obtain ⟨h1, h2⟩ := m_fin h; subst h1; subst h2
      exact m_lret S hr hlk hK hP hS (by decide +kernel) (by decide +kernel) dX3_cell_45
    · replace h := m_t c23 h
      refine lv_ldc2 (v := (-1)) S.1 S.2.1 S.2.2.2.1 (S.2.2.2.2 (.constantLong RX3 94 (-1)) (m_mem (by decide +kernel))) dX3_cell_33 ?_
      refine lv_goto (tgt := 45) S.1 S.2.1 dX3_cell_36 (by decide) ?_
      obtain ⟨h1, h2⟩ := m_fin h; subst h1; subst h2
      exact m_lret S hr hlk hK hP hS (by decide +kernel) (by decide +kernel) dX3_cell_45
