def f_L_law_L33 (L : Nat) (xs : Nat → Int32) : Nat → Int32 → Nat → Nat → Nat → MS → Option (Int32 × MS)
  | 0, _, _, _, _, _ => none
  | f + 1, q4, q3, q2, q1, s0 =>
    if ((nI L) - 6) < q4 then
      some (1, s0)
    else
      (m_sc L xs q4).bind fun x21 =>
      if (x21 &&& 15) = 0 then
        (m_sc L xs (q4 + 1)).bind fun x24 =>
        (m_sc L xs (q4 + 2)).bind fun x26 =>
        (m_sc L xs (q4 + 3)).bind fun x28 =>
        if x28 = 0 then
          (m_is s0 0 q1).bind fun _ =>
          m_b (f_X0_rule q1 x24 x26 0 s0) fun x31 s32 =>
          (m_sc L xs (q4 + 1)).bind fun x35 =>
          (m_sc L xs (q4 + 2)).bind fun x37 =>
          (m_sc L xs (q4 + 3)).bind fun x39 =>
          if x39 = 0 then
            (m_is s32 3 q2).bind fun _ =>
            m_b (f_X3_rule q2 x35 x37 0 s32) fun x42 s43 =>
            if x31 = x42 then
              f_L_law_L33 L xs f (q4 + 6) q3 q2 q1 s43
            else
              some (0, s43)
          else
            (m_is s32 3 q2).bind fun _ =>
            m_b (f_X3_rule q2 x35 x37 1 s32) fun x47 s48 =>
            if x31 = x47 then
              f_L_law_L33 L xs f (q4 + 6) q3 q2 q1 s48
            else
              some (0, s48)
        else
          (m_is s0 0 q1).bind fun _ =>
          m_b (f_X0_rule q1 x24 x26 1 s0) fun x52 s53 =>
          (m_sc L xs (q4 + 1)).bind fun x56 =>
          (m_sc L xs (q4 + 2)).bind fun x58 =>
          (m_sc L xs (q4 + 3)).bind fun x60 =>
          if x60 = 0 then
            (m_is s53 3 q2).bind fun _ =>
            m_b (f_X3_rule q2 x56 x58 0 s53) fun x63 s64 =>
            if x52 = x63 then
              f_L_law_L33 L xs f (q4 + 6) q3 q2 q1 s64
            else
              some (0, s64)
          else
            (m_is s53 3 q2).bind fun _ =>
            m_b (f_X3_rule q2 x56 x58 1 s53) fun x68 s69 =>
            if x52 = x68 then
              f_L_law_L33 L xs f (q4 + 6) q3 q2 q1 s69
            else
              some (0, s69)
      else if (x21 &&& 15) = 1 then
        (m_sc L xs (q4 + 1)).bind fun x74 =>
        (m_is s0 0 q1).bind fun _ =>
        m_b (f_X0_make q1 x74 s0) fun x76 s77 =>
        (m_sc L xs (q4 + 1)).bind fun x80 =>
        (m_is s77 3 q2).bind fun _ =>
        m_b (f_X3_make q2 x80 s77) fun x82 s83 =>
        if x76 = x82 then
          f_L_law_L33 L xs f (q4 + 6) q3 q2 q1 s83
        else
          some (0, s83)
      else if (x21 &&& 15) = 2 then
        (m_sc L xs (q4 + 1)).bind fun x88 =>
        (m_sc L xs (q4 + 2)).bind fun x90 =>
        (m_sc L xs (q4 + 3)).bind fun x92 =>
        (m_is s0 0 q1).bind fun _ =>
        m_b (f_X0_attribute q1 x88 x90 x92 s0) fun x94 s95 =>
        (m_sc L xs (q4 + 1)).bind fun x98 =>
        (m_sc L xs (q4 + 2)).bind fun x100 =>
        (m_sc L xs (q4 + 3)).bind fun x102 =>
        (m_is s95 3 q2).bind fun _ =>
        m_b (f_X3_attribute q2 x98 x100 x102 s95) fun x104 s105 =>
        if x94 = x104 then
          f_L_law_L33 L xs f (q4 + 6) q3 q2 q1 s105
        else
          some (0, s105)
      else if (x21 &&& 15) = 3 then
        (m_sc L xs (q4 + 1)).bind fun x110 =>
        (m_is s0 0 q1).bind fun _ =>
        m_b (f_X0_target q1 x110 s0) fun x112 s113 =>
        (m_sc L xs (q4 + 1)).bind fun x116 =>
        (m_is s113 3 q2).bind fun _ =>
        m_b (f_X3_target q2 x116 s113) fun x118 s119 =>
        if x112 = x118 then
          f_L_law_L33 L xs f (q4 + 6) q3 q2 q1 s119
        else
          some (0, s119)
      else if (x21 &&& 15) = 4 then
        (m_sc L xs (q4 + 1)).bind fun x124 =>
        (m_is s0 0 q1).bind fun _ =>
        m_b (f_X0_run q1 x124 s0) fun x126 s127 =>
        (m_sc L xs (q4 + 1)).bind fun x130 =>
        (m_is s127 3 q2).bind fun _ =>
        m_b (f_X3_run q2 x130 s127) fun x132 s133 =>
        if x126 = x132 then
          f_L_law_L33 L xs f (q4 + 6) q3 q2 q1 s133
        else
          some (0, s133)
      else if (x21 &&& 15) = 5 then
        (m_sc L xs (q4 + 1)).bind fun x138 =>
        (m_sc L xs (q4 + 2)).bind fun x140 =>
        (m_is s0 0 q1).bind fun _ =>
        m_b (f_X0_action q1 x138 x140 s0) fun x142 s143 =>
        (m_sc L xs (q4 + 1)).bind fun x146 =>
        (m_sc L xs (q4 + 2)).bind fun x148 =>
        (m_is s143 3 q2).bind fun _ =>
        m_b (f_X3_action q2 x146 x148 s143) fun x150 s151 =>
        if x142 = x150 then
          f_L_law_L33 L xs f (q4 + 6) q3 q2 q1 s151
        else
          some (0, s151)
      else if (x21 &&& 15) = 6 then
        (m_sc L xs (q4 + 1)).bind fun x156 =>
        (m_sc L xs (q4 + 2)).bind fun x158 =>
        (m_is s0 0 q1).bind fun _ =>
        m_b (f_X0_provider q1 x156 x158 s0) fun x160 s161 =>
        (m_sc L xs (q4 + 1)).bind fun x164 =>
        (m_sc L xs (q4 + 2)).bind fun x166 =>
        (m_is s161 3 q2).bind fun _ =>
        m_b (f_X3_provider q2 x164 x166 s161) fun x168 s169 =>
        if x160 = x168 then
          f_L_law_L33 L xs f (q4 + 6) q3 q2 q1 s169
        else
          some (0, s169)
      else if (x21 &&& 15) = 7 then
        (m_sc L xs (q4 + 1)).bind fun x174 =>
        (m_sc L xs (q4 + 2)).bind fun x176 =>
        (m_is s0 0 q1).bind fun _ =>
        m_b (f_X0_failed q1 x174 x176 s0) fun x178 s179 =>
        (m_sc L xs (q4 + 1)).bind fun x182 =>
        (m_sc L xs (q4 + 2)).bind fun x184 =>
        (m_is s179 3 q2).bind fun _ =>
        m_b (f_X3_failed q2 x182 x184 s179) fun x186 s187 =>
        if x178 = x186 then
          f_L_law_L33 L xs f (q4 + 6) q3 q2 q1 s187
        else
          some (0, s187)
      else if (x21 &&& 15) = 8 then
        (m_sc L xs (q4 + 1)).bind fun x192 =>
        (m_is s0 0 q1).bind fun _ =>
        m_b (f_X0_cell q1 x192 s0) fun l194 s195 =>
        (m_sc L xs (q4 + 1)).bind fun x198 =>
        (m_is s195 3 q2).bind fun _ =>
        m_b (f_X3_cell q2 x198 s195) fun l200 s201 =>
        if (lg_cmp l194 l200) = 0 then
          f_L_law_L33 L xs f (q4 + 6) q3 q2 q1 s201
        else
          some (0, s201)
      else if (x21 &&& 15) = 9 then
        (m_sc L xs (q4 + 1)).bind fun x206 =>
        (m_sc L xs (q4 + 2)).bind fun x208 =>
        (m_is s0 0 q1).bind fun _ =>
        m_b (f_X0_same q1 x206 x208 s0) fun x210 s211 =>
        (m_sc L xs (q4 + 1)).bind fun x214 =>
        (m_sc L xs (q4 + 2)).bind fun x216 =>
        (m_is s211 3 q2).bind fun _ =>
        m_b (f_X3_same q2 x214 x216 s211) fun x218 s219 =>
        if x210 = x218 then
          f_L_law_L33 L xs f (q4 + 6) q3 q2 q1 s219
        else
          some (0, s219)
      else if (x21 &&& 15) = 10 then
        (m_sc L xs (q4 + 1)).bind fun x224 =>
        (m_sc L xs (q4 + 2)).bind fun x226 =>
        (m_sc L xs (q4 + 3)).bind fun x228 =>
        (m_sc L xs (q4 + 4)).bind fun x230 =>
        (m_sc L xs (q4 + 5)).bind fun x232 =>
        m_b (f_L_divide (some q1) x224 ((((x226 : Int32).toInt64) <<< ((32 : Int32).toInt64 &&& 63)) ||| (((x228 : Int32).toInt64) &&& 4294967295)) ((((x230 : Int32).toInt64) <<< ((32 : Int32).toInt64 &&& 63)) ||| (((x232 : Int32).toInt64) &&& 4294967295)) (some q3) s0) fun x234 s235 =>
        (m_sc L xs (q4 + 1)).bind fun x237 =>
        (m_sc L xs (q4 + 2)).bind fun x239 =>
        (m_sc L xs (q4 + 3)).bind fun x241 =>
        (m_sc L xs (q4 + 4)).bind fun x243 =>
        (m_sc L xs (q4 + 5)).bind fun x245 =>
        (m_is s235 3 q2).bind fun _ =>
        m_b (f_X3_divide q2 x237 ((((x239 : Int32).toInt64) <<< ((32 : Int32).toInt64 &&& 63)) ||| (((x241 : Int32).toInt64) &&& 4294967295)) ((((x243 : Int32).toInt64) <<< ((32 : Int32).toInt64 &&& 63)) ||| (((x245 : Int32).toInt64) &&& 4294967295)) s235) fun l247 s248 =>
        (m_is s248 3 q2).bind fun _ =>
        m_b (f_X3_thrown q2 s248) fun x251 s252 =>
        if x251 = x234 then
          if x234 = 0 then
            (m_aL s252 8 q3 0).bind fun l257 =>
            if (lg_cmp l257 l247) = 0 then
              f_L_law_L33 L xs f (q4 + 6) q3 q2 q1 s252
            else
              some (0, s252)
          else
            f_L_law_L33 L xs f (q4 + 6) q3 q2 q1 s252
        else
          some (0, s252)
      else if (x21 &&& 15) = 11 then
        (m_sc L xs (q4 + 1)).bind fun x261 =>
        m_b (f_L_handle (some q1) x261 (some q3) s0) fun x263 s264 =>
        (m_sc L xs (q4 + 1)).bind fun x266 =>
        (m_is s264 3 q2).bind fun _ =>
        m_b (f_X3_handle q2 x266 s264) fun x268 s269 =>
        (m_is s269 3 q2).bind fun _ =>
        m_b (f_X3_thrown q2 s269) fun x272 s273 =>
        if x272 = x263 then
          if x263 = 0 then
            (m_aL s273 8 q3 0).bind fun l278 =>
            if (lg_cmp l278 ((x268 : Int32).toInt64)) = 0 then
              f_L_law_L33 L xs f (q4 + 6) q3 q2 q1 s273
            else
              some (0, s273)
          else
            f_L_law_L33 L xs f (q4 + 6) q3 q2 q1 s273
        else
          some (0, s273)
      else f_L_law_L33 L xs f (q4 + 6) q3 q2 q1 s0
def f_L_law (L : Nat) (xs : Nat → Int32) (s0 : MS) : Option (Int32 × MS) :=
  m_nw s0 (.inl 0) (fun j => defaultValue (tyX0 j)) fun a1 s2 =>
  (f_L_cell L xs 0).bind fun x4 =>
  m_b (f_X0_init a1 x4 s2) fun u6 s7 =>
  m_nw s7 (.inl 3) (fun j => defaultValue (tyX3 j)) fun a9 s10 =>
  (f_L_cell L xs 0).bind fun x12 =>
  m_b (f_X3_init a9 x12 s10) fun u14 s15 =>
  m_nw s15 (.inr (8, 1)) (fun _ => defaultValue .long) fun a17 s18 =>
  f_L_law_L33 L xs 513 1 a17 a9 a1 s18
set_option maxHeartbeats 8000000 in
set_option maxRecDepth 100000 in
theorem w_L_law_L33 {p : Program} {l : Launch} (hfl : l.stackTraces = false) {e : Env} {s : State} {m : MethodId} {below : List Frame} {meth : Method} {c : Code} {w0 : Cond} {bs L b : Nat} {xs : Nat → Int32} (D : va_G) (tc : Nat → ClassId) (S : CallFix p m c code 8 s #[Value.ref bs] (w0 :: m_tbl) RL) (hr : meth.sig.returnType = ret) (hlk : meth.locks = false) (hK : va_K D vwCl (m_tys tc) s) (hX : va_X bs L xs s s.heap) (hbl : bs < s.heap.size) (hbA : ¬ m_A b bs) (hbs : s.heap.size = b) (hE : m_E b s) :
    ∀ (f : Nat) (q4 : Int32) (q3 : Nat) (q2 : Nat) (q1 : Nat) (s0 st' : MS) (r : Int32) (h : f_L_law_L33 L xs f q4 q3 q2 q1 s0 = some (r, st')) (hr1 : r = 1) (cells slots : Nat) (hc : cells + 4 * f ≤ 601024) (hs : slots + 22 * f ≤ 7293000) (H : Heap) (locs : List Loc) (ls : Array Slot) (hP : mw D vwCl (m_tys tc) b s0 H) (hS : va_S (m_A b) s.heap H locs) (hl : lv_has ls 8 [(4, .int q4), (3, .ref q3), (2, .ref q2), (1, .ref q1), (0, .ref bs)]), W p l e room_1 s m #[Value.ref bs] below meth c H locs cells slots (lw_Z below #[Value.ref bs] s) (F0 m 33 ls []) := by
  intro f
  induction f with
  | zero =>
    intro q4 q3 q2 q1 s0 st' r h
    cases h
  | succ f ih =>
    intro q4 q3 q2 q1 s0 st' r h hr1 cells slots hc hs H locs ls hP hS hl
    subst hr1
    rw [f_L_law_L33] at h
    refine lv_iload S.1 S.2.1 dL_law_33 (lv_at hl 0 rfl) ?_
    refine lv_aload_n S.1 S.2.1 dL_law_35 rfl (lv_at hl 4 rfl) ?_
    refine m_slen S.1 S.2.1 hX hbl hbA hS dL_law_36 ?_
    refine lv_bipush (v := 6) S.1 S.2.1 dL_law_37 (by decide) ?_
    refine lv_isub S.1 S.2.1 dL_law_39 ?_
    refine lv_icmp_gt (tgt := 680) S.1 S.2.1 dL_law_40 (by decide) (fun c20 => ?_) (fun c20 => ?_)
    · replace h := m_t c20 h
      refine lv_iconst (v := 1) S.1 S.2.1 dL_law_680 (by decide) ?_
      refine va_forget (fun q hq => by rw [hbs]; exact hS.2.2 q hq) ?_
      refine W.widen (k := 601024) (n := 7293000) (by omega) (by omega) ?_
      exact lw_ret S.1 S.2.1 hr hlk dL_law_681
    · replace h := m_f c20 h
      refine lv_aload_n S.1 S.2.1 dL_law_43 rfl (lv_at hl 4 rfl) ?_
      refine lv_iload S.1 S.2.1 dL_law_44 (lv_at hl 0 rfl) ?_
      obtain ⟨x21, e22, h⟩ := m_bs h
      refine m_sld S.1 S.2.1 hX hbl hbA hS e22 dL_law_46 ?_
      refine lv_bipush (v := 15) S.1 S.2.1 dL_law_47 (by decide) ?_
      refine lv_iand S.1 S.2.1 dL_law_49 ?_
      by_cases c23 : (x21 &&& 15) = 0
      · replace h := m_t c23 h
        refine lv_tableIn (tgt := 112) S.1 S.2.1 dL_law_50 (by rw [c23]; decide) (by rw [c23]; decide) (by rw [c23]; rfl) (by decide) ?_
        refine lv_aload_n S.1 S.2.1 dL_law_112 rfl (lv_at hl 3 rfl) ?_
        refine lv_aload_n S.1 S.2.1 dL_law_113 rfl (lv_at hl 4 rfl) ?_
        refine lv_iload S.1 S.2.1 dL_law_114 (lv_at hl 0 rfl) ?_
        refine lv_iconst (v := 1) S.1 S.2.1 dL_law_116 (by decide) ?_
        refine lv_iadd S.1 S.2.1 dL_law_117 ?_
        obtain ⟨x24, e25, h⟩ := m_bs h
        refine m_sld S.1 S.2.1 hX hbl hbA hS e25 dL_law_118 ?_
        refine lv_aload_n S.1 S.2.1 dL_law_119 rfl (lv_at hl 4 rfl) ?_
        refine lv_iload S.1 S.2.1 dL_law_120 (lv_at hl 0 rfl) ?_
        refine lv_iconst (v := 2) S.1 S.2.1 dL_law_122 (by decide) ?_
        refine lv_iadd S.1 S.2.1 dL_law_123 ?_
        obtain ⟨x26, e27, h⟩ := m_bs h
        refine m_sld S.1 S.2.1 hX hbl hbA hS e27 dL_law_124 ?_
        refine lv_aload_n S.1 S.2.1 dL_law_125 rfl (lv_at hl 4 rfl) ?_
        refine lv_iload S.1 S.2.1 dL_law_126 (lv_at hl 0 rfl) ?_
        refine lv_iconst (v := 3) S.1 S.2.1 dL_law_128 (by decide) ?_
        refine lv_iadd S.1 S.2.1 dL_law_129 ?_
        obtain ⟨x28, e29, h⟩ := m_bs h
        refine m_sld S.1 S.2.1 hX hbl hbA hS e29 dL_law_130 ?_
        refine lv_if_eq (tgt := 138) S.1 S.2.1 dL_law_131 (by decide) (fun c30 => ?_) (fun c30 => ?_)
        · replace h := m_t c30 h
          refine lv_iconst (v := 0) S.1 S.2.1 dL_law_138 (by decide) ?_
          obtain ⟨_, k34, h⟩ := m_bs h
          obtain ⟨x31, s32, e33, h⟩ := m_b_s h
          refine m_calli (va_runV (As := [.int x24, .int x26, .int 0]) (rest := []) S (c_X0_rule l D tc b q1 x24 x26 0 _ _ _ e33) (cwV 3 S.2.2.2.2 (m_wV kX0_rule (by decide +kernel)) rfl rfl rfl (by decide +kernel) ⟨by decide +kernel, by decide +kernel⟩) (m_preV hK hP (m_is_s k34) rfl) rfl rfl hl.1 rfl (lv_room (by first | decide | simp [m_rfc, m_catI, m_catL, m_catA])) dL_law_139 ⟨by show _ ≤ 601024; omega, by show _ ≤ 7293000; omega⟩) hS (fun H locs hP hS => ?_)
          refine lv_aload_n S.1 S.2.1 dL_law_142 rfl (lv_at hl 2 rfl) ?_
          refine lv_aload_n S.1 S.2.1 dL_law_143 rfl (lv_at hl 4 rfl) ?_
          refine lv_iload S.1 S.2.1 dL_law_144 (lv_at hl 0 rfl) ?_
          refine lv_iconst (v := 1) S.1 S.2.1 dL_law_146 (by decide) ?_
          refine lv_iadd S.1 S.2.1 dL_law_147 ?_
          obtain ⟨x35, e36, h⟩ := m_bs h
          refine m_sld S.1 S.2.1 hX hbl hbA hS e36 dL_law_148 ?_
          refine lv_aload_n S.1 S.2.1 dL_law_149 rfl (lv_at hl 4 rfl) ?_
          refine lv_iload S.1 S.2.1 dL_law_150 (lv_at hl 0 rfl) ?_
          refine lv_iconst (v := 2) S.1 S.2.1 dL_law_152 (by decide) ?_
          refine lv_iadd S.1 S.2.1 dL_law_153 ?_
          obtain ⟨x37, e38, h⟩ := m_bs h
          refine m_sld S.1 S.2.1 hX hbl hbA hS e38 dL_law_154 ?_
          refine lv_aload_n S.1 S.2.1 dL_law_155 rfl (lv_at hl 4 rfl) ?_
          refine lv_iload S.1 S.2.1 dL_law_156 (lv_at hl 0 rfl) ?_
          refine lv_iconst (v := 3) S.1 S.2.1 dL_law_158 (by decide) ?_
          refine lv_iadd S.1 S.2.1 dL_law_159 ?_
          obtain ⟨x39, e40, h⟩ := m_bs h
          refine m_sld S.1 S.2.1 hX hbl hbA hS e40 dL_law_160 ?_
          refine lv_if_eq (tgt := 168) S.1 S.2.1 dL_law_161 (by decide) (fun c41 => ?_) (fun c41 => ?_)
          · replace h := m_t c41 h
            refine lv_iconst (v := 0) S.1 S.2.1 dL_law_168 (by decide) ?_
            obtain ⟨_, k45, h⟩ := m_bs h
            obtain ⟨x42, s43, e44, h⟩ := m_b_s h
            refine m_calli (va_runV (As := [.int x35, .int x37, .int 0]) (rest := [.int x31]) S (c_X3_rule l D tc b q2 x35 x37 0 _ _ _ e44) (cwV 3 S.2.2.2.2 (m_wV kX3_rule (by decide +kernel)) rfl rfl rfl (by decide +kernel) ⟨by decide +kernel, by decide +kernel⟩) (m_preV hK hP (m_is_s k45) rfl) rfl rfl hl.1 rfl (lv_room (by first | decide | simp [m_rfc, m_catI, m_catL, m_catA])) dL_law_169 ⟨by show _ ≤ 601024; omega, by show _ ≤ 7293000; omega⟩) hS (fun H locs hP hS => ?_)
            refine lv_icmp_eq (tgt := 674) S.1 S.2.1 dL_law_172 (by decide) (fun c46 => ?_) (fun c46 => ?_)
            · replace h := m_t c46 h
              refine lv_iinc (v := q4 + 6) (lv' := [(4, .int (q4 + 6)), (3, .ref q3), (2, .ref q2), (1, .ref q1), (0, .ref bs)]) S.1 S.2.1 dL_law_674 hl (k := 0) rfl rfl (by decide) (by first | rfl | simp [m_rfc, m_catI, m_catL, m_catA]) (fun ls hl => ?_)
              refine lv_goto (tgt := 33) S.1 S.2.1 dL_law_677 (by decide) ?_
              exact ih (q4 + 6) q3 q2 q1 _ _ _ h rfl _ _ (by omega) (by omega) _ _ _ hP hS (lv_sub hl [0, 1, 2, 3, 4] rfl)
            · replace h := m_f c46 h
              refine lv_iconst (v := 0) S.1 S.2.1 dL_law_175 (by decide) ?_
              exact absurd (m_fin h).1 (by decide)
          · replace h := m_f c41 h
            refine lv_iconst (v := 1) S.1 S.2.1 dL_law_164 (by decide) ?_
            refine lv_goto (tgt := 169) S.1 S.2.1 dL_law_165 (by decide) ?_
            obtain ⟨_, k50, h⟩ := m_bs h
            obtain ⟨x47, s48, e49, h⟩ := m_b_s h
            refine m_calli (va_runV (As := [.int x35, .int x37, .int 1]) (rest := [.int x31]) S (c_X3_rule l D tc b q2 x35 x37 1 _ _ _ e49) (cwV 3 S.2.2.2.2 (m_wV kX3_rule (by decide +kernel)) rfl rfl rfl (by decide +kernel) ⟨by decide +kernel, by decide +kernel⟩) (m_preV hK hP (m_is_s k50) rfl) rfl rfl hl.1 rfl (lv_room (by first | decide | simp [m_rfc, m_catI, m_catL, m_catA])) dL_law_169 ⟨by show _ ≤ 601024; omega, by show _ ≤ 7293000; omega⟩) hS (fun H locs hP hS => ?_)
            refine lv_icmp_eq (tgt := 674) S.1 S.2.1 dL_law_172 (by decide) (fun c51 => ?_) (fun c51 => ?_)
            · replace h := m_t c51 h
              refine lv_iinc (v := q4 + 6) (lv' := [(4, .int (q4 + 6)), (3, .ref q3), (2, .ref q2), (1, .ref q1), (0, .ref bs)]) S.1 S.2.1 dL_law_674 hl (k := 0) rfl rfl (by decide) (by first | rfl | simp [m_rfc, m_catI, m_catL, m_catA]) (fun ls hl => ?_)
              refine lv_goto (tgt := 33) S.1 S.2.1 dL_law_677 (by decide) ?_
              exact ih (q4 + 6) q3 q2 q1 _ _ _ h rfl _ _ (by omega) (by omega) _ _ _ hP hS (lv_sub hl [0, 1, 2, 3, 4] rfl)
            · replace h := m_f c51 h
              refine lv_iconst (v := 0) S.1 S.2.1 dL_law_175 (by decide) ?_
              exact absurd (m_fin h).1 (by decide)
        · replace h := m_f c30 h
          refine lv_iconst (v := 1) S.1 S.2.1 dL_law_134 (by decide) ?_
          refine lv_goto (tgt := 139) S.1 S.2.1 dL_law_135 (by decide) ?_
          obtain ⟨_, k55, h⟩ := m_bs h
          obtain ⟨x52, s53, e54, h⟩ := m_b_s h
          refine m_calli (va_runV (As := [.int x24, .int x26, .int 1]) (rest := []) S (c_X0_rule l D tc b q1 x24 x26 1 _ _ _ e54) (cwV 3 S.2.2.2.2 (m_wV kX0_rule (by decide +kernel)) rfl rfl rfl (by decide +kernel) ⟨by decide +kernel, by decide +kernel⟩) (m_preV hK hP (m_is_s k55) rfl) rfl rfl hl.1 rfl (lv_room (by first | decide | simp [m_rfc, m_catI, m_catL, m_catA])) dL_law_139 ⟨by show _ ≤ 601024; omega, by show _ ≤ 7293000; omega⟩) hS (fun H locs hP hS => ?_)
          refine lv_aload_n S.1 S.2.1 dL_law_142 rfl (lv_at hl 2 rfl) ?_
          refine lv_aload_n S.1 S.2.1 dL_law_143 rfl (lv_at hl 4 rfl) ?_
          refine lv_iload S.1 S.2.1 dL_law_144 (lv_at hl 0 rfl) ?_
          refine lv_iconst (v := 1) S.1 S.2.1 dL_law_146 (by decide) ?_
          refine lv_iadd S.1 S.2.1 dL_law_147 ?_
          obtain ⟨x56, e57, h⟩ := m_bs h
          refine m_sld S.1 S.2.1 hX hbl hbA hS e57 dL_law_148 ?_
          refine lv_aload_n S.1 S.2.1 dL_law_149 rfl (lv_at hl 4 rfl) ?_
          refine lv_iload S.1 S.2.1 dL_law_150 (lv_at hl 0 rfl) ?_
          refine lv_iconst (v := 2) S.1 S.2.1 dL_law_152 (by decide) ?_
          refine lv_iadd S.1 S.2.1 dL_law_153 ?_
          obtain ⟨x58, e59, h⟩ := m_bs h
          refine m_sld S.1 S.2.1 hX hbl hbA hS e59 dL_law_154 ?_
          refine lv_aload_n S.1 S.2.1 dL_law_155 rfl (lv_at hl 4 rfl) ?_
          refine lv_iload S.1 S.2.1 dL_law_156 (lv_at hl 0 rfl) ?_
          refine lv_iconst (v := 3) S.1 S.2.1 dL_law_158 (by decide) ?_
          refine lv_iadd S.1 S.2.1 dL_law_159 ?_
          obtain ⟨x60, e61, h⟩ := m_bs h
          refine m_sld S.1 S.2.1 hX hbl hbA hS e61 dL_law_160 ?_
          refine lv_if_eq (tgt := 168) S.1 S.2.1 dL_law_161 (by decide) (fun c62 => ?_) (fun c62 => ?_)
          · replace h := m_t c62 h
            refine lv_iconst (v := 0) S.1 S.2.1 dL_law_168 (by decide) ?_
            obtain ⟨_, k66, h⟩ := m_bs h
            obtain ⟨x63, s64, e65, h⟩ := m_b_s h
            refine m_calli (va_runV (As := [.int x56, .int x58, .int 0]) (rest := [.int x52]) S (c_X3_rule l D tc b q2 x56 x58 0 _ _ _ e65) (cwV 3 S.2.2.2.2 (m_wV kX3_rule (by decide +kernel)) rfl rfl rfl (by decide +kernel) ⟨by decide +kernel, by decide +kernel⟩) (m_preV hK hP (m_is_s k66) rfl) rfl rfl hl.1 rfl (lv_room (by first | decide | simp [m_rfc, m_catI, m_catL, m_catA])) dL_law_169 ⟨by show _ ≤ 601024; omega, by show _ ≤ 7293000; omega⟩) hS (fun H locs hP hS => ?_)
            refine lv_icmp_eq (tgt := 674) S.1 S.2.1 dL_law_172 (by decide) (fun c67 => ?_) (fun c67 => ?_)
            · replace h := m_t c67 h
              refine lv_iinc (v := q4 + 6) (lv' := [(4, .int (q4 + 6)), (3, .ref q3), (2, .ref q2), (1, .ref q1), (0, .ref bs)]) S.1 S.2.1 dL_law_674 hl (k := 0) rfl rfl (by decide) (by first | rfl | simp [m_rfc, m_catI, m_catL, m_catA]) (fun ls hl => ?_)
              refine lv_goto (tgt := 33) S.1 S.2.1 dL_law_677 (by decide) ?_
              exact ih (q4 + 6) q3 q2 q1 _ _ _ h rfl _ _ (by omega) (by omega) _ _ _ hP hS (lv_sub hl [0, 1, 2, 3, 4] rfl)
            · replace h := m_f c67 h
              refine lv_iconst (v := 0) S.1 S.2.1 dL_law_175 (by decide) ?_
              exact absurd (m_fin h).1 (by decide)
          · replace h := m_f c62 h
            refine lv_iconst (v := 1) S.1 S.2.1 dL_law_164 (by decide) ?_
            refine lv_goto (tgt := 169) S.1 S.2.1 dL_law_165 (by decide) ?_
            obtain ⟨_, k71, h⟩ := m_bs h
            obtain ⟨x68, s69, e70, h⟩ := m_b_s h
            refine m_calli (va_runV (As := [.int x56, .int x58, .int 1]) (rest := [.int x52]) S (c_X3_rule l D tc b q2 x56 x58 1 _ _ _ e70) (cwV 3 S.2.2.2.2 (m_wV kX3_rule (by decide +kernel)) rfl rfl rfl (by decide +kernel) ⟨by decide +kernel, by decide +kernel⟩) (m_preV hK hP (m_is_s k71) rfl) rfl rfl hl.1 rfl (lv_room (by first | decide | simp [m_rfc, m_catI, m_catL, m_catA])) dL_law_169 ⟨by show _ ≤ 601024; omega, by show _ ≤ 7293000; omega⟩) hS (fun H locs hP hS => ?_)
            refine lv_icmp_eq (tgt := 674) S.1 S.2.1 dL_law_172 (by decide) (fun c72 => ?_) (fun c72 => ?_)
            · replace h := m_t c72 h
              refine lv_iinc (v := q4 + 6) (lv' := [(4, .int (q4 + 6)), (3, .ref q3), (2, .ref q2), (1, .ref q1), (0, .ref bs)]) S.1 S.2.1 dL_law_674 hl (k := 0) rfl rfl (by decide) (by first | rfl | simp [m_rfc, m_catI, m_catL, m_catA]) (fun ls hl => ?_)
              refine lv_goto (tgt := 33) S.1 S.2.1 dL_law_677 (by decide) ?_
              exact ih (q4 + 6) q3 q2 q1 _ _ _ h rfl _ _ (by omega) (by omega) _ _ _ hP hS (lv_sub hl [0, 1, 2, 3, 4] rfl)
            · replace h := m_f c72 h
              refine lv_iconst (v := 0) S.1 S.2.1 dL_law_175 (by decide) ?_
              exact absurd (m_fin h).1 (by decide)
      replace h := m_f c23 h
      by_cases c73 : (x21 &&& 15) = 1
      · replace h := m_t c73 h
        refine lv_tableIn (tgt := 177) S.1 S.2.1 dL_law_50 (by rw [c73]; decide) (by rw [c73]; decide) (by rw [c73]; rfl) (by decide) ?_
        refine lv_aload_n S.1 S.2.1 dL_law_177 rfl (lv_at hl 3 rfl) ?_
        refine lv_aload_n S.1 S.2.1 dL_law_178 rfl (lv_at hl 4 rfl) ?_
        refine lv_iload S.1 S.2.1 dL_law_179 (lv_at hl 0 rfl) ?_
        refine lv_iconst (v := 1) S.1 S.2.1 dL_law_181 (by decide) ?_
        refine lv_iadd S.1 S.2.1 dL_law_182 ?_
        obtain ⟨x74, e75, h⟩ := m_bs h
        refine m_sld S.1 S.2.1 hX hbl hbA hS e75 dL_law_183 ?_
        obtain ⟨_, k79, h⟩ := m_bs h
        obtain ⟨x76, s77, e78, h⟩ := m_b_s h
        refine m_calli (va_runV (As := [.int x74]) (rest := []) S (c_X0_make l D tc b q1 x74 _ _ _ e78) (cwV 1 S.2.2.2.2 (m_wV kX0_make (by decide +kernel)) rfl rfl rfl (by decide +kernel) ⟨by decide +kernel, by decide +kernel⟩) (m_preV hK hP (m_is_s k79) rfl) rfl rfl hl.1 rfl (lv_room (by first | decide | simp [m_rfc, m_catI, m_catL, m_catA])) dL_law_184 ⟨by show _ ≤ 601024; omega, by show _ ≤ 7293000; omega⟩) hS (fun H locs hP hS => ?_)
        refine lv_aload_n S.1 S.2.1 dL_law_187 rfl (lv_at hl 2 rfl) ?_
        refine lv_aload_n S.1 S.2.1 dL_law_188 rfl (lv_at hl 4 rfl) ?_
        refine lv_iload S.1 S.2.1 dL_law_189 (lv_at hl 0 rfl) ?_
        refine lv_iconst (v := 1) S.1 S.2.1 dL_law_191 (by decide) ?_
        refine lv_iadd S.1 S.2.1 dL_law_192 ?_
        obtain ⟨x80, e81, h⟩ := m_bs h
        refine m_sld S.1 S.2.1 hX hbl hbA hS e81 dL_law_193 ?_
        obtain ⟨_, k85, h⟩ := m_bs h
        obtain ⟨x82, s83, e84, h⟩ := m_b_s h
        refine m_calli (va_runV (As := [.int x80]) (rest := [.int x76]) S (c_X3_make l D tc b q2 x80 _ _ _ e84) (cwV 1 S.2.2.2.2 (m_wV kX3_make (by decide +kernel)) rfl rfl rfl (by decide +kernel) ⟨by decide +kernel, by decide +kernel⟩) (m_preV hK hP (m_is_s k85) rfl) rfl rfl hl.1 rfl (lv_room (by first | decide | simp [m_rfc, m_catI, m_catL, m_catA])) dL_law_194 ⟨by show _ ≤ 601024; omega, by show _ ≤ 7293000; omega⟩) hS (fun H locs hP hS => ?_)
        refine lv_icmp_eq (tgt := 674) S.1 S.2.1 dL_law_197 (by decide) (fun c86 => ?_) (fun c86 => ?_)
        · replace h := m_t c86 h
          refine lv_iinc (v := q4 + 6) (lv' := [(4, .int (q4 + 6)), (3, .ref q3), (2, .ref q2), (1, .ref q1), (0, .ref bs)]) S.1 S.2.1 dL_law_674 hl (k := 0) rfl rfl (by decide) (by first | rfl | simp [m_rfc, m_catI, m_catL, m_catA]) (fun ls hl => ?_)
          refine lv_goto (tgt := 33) S.1 S.2.1 dL_law_677 (by decide) ?_
          exact ih (q4 + 6) q3 q2 q1 _ _ _ h rfl _ _ (by omega) (by omega) _ _ _ hP hS (lv_sub hl [0, 1, 2, 3, 4] rfl)
        · replace h := m_f c86 h
          refine lv_iconst (v := 0) S.1 S.2.1 dL_law_200 (by decide) ?_
          exact absurd (m_fin h).1 (by decide)
      replace h := m_f c73 h
      by_cases c87 : (x21 &&& 15) = 2
      · replace h := m_t c87 h
        refine lv_tableIn (tgt := 202) S.1 S.2.1 dL_law_50 (by rw [c87]; decide) (by rw [c87]; decide) (by rw [c87]; rfl) (by decide) ?_
        refine lv_aload_n S.1 S.2.1 dL_law_202 rfl (lv_at hl 3 rfl) ?_
        refine lv_aload_n S.1 S.2.1 dL_law_203 rfl (lv_at hl 4 rfl) ?_
        refine lv_iload S.1 S.2.1 dL_law_204 (lv_at hl 0 rfl) ?_
        refine lv_iconst (v := 1) S.1 S.2.1 dL_law_206 (by decide) ?_
        refine lv_iadd S.1 S.2.1 dL_law_207 ?_
        obtain ⟨x88, e89, h⟩ := m_bs h
        refine m_sld S.1 S.2.1 hX hbl hbA hS e89 dL_law_208 ?_
        refine lv_aload_n S.1 S.2.1 dL_law_209 rfl (lv_at hl 4 rfl) ?_
        refine lv_iload S.1 S.2.1 dL_law_210 (lv_at hl 0 rfl) ?_
        refine lv_iconst (v := 2) S.1 S.2.1 dL_law_212 (by decide) ?_
        refine lv_iadd S.1 S.2.1 dL_law_213 ?_
        obtain ⟨x90, e91, h⟩ := m_bs h
        refine m_sld S.1 S.2.1 hX hbl hbA hS e91 dL_law_214 ?_
        refine lv_aload_n S.1 S.2.1 dL_law_215 rfl (lv_at hl 4 rfl) ?_
        refine lv_iload S.1 S.2.1 dL_law_216 (lv_at hl 0 rfl) ?_
        refine lv_iconst (v := 3) S.1 S.2.1 dL_law_218 (by decide) ?_
        refine lv_iadd S.1 S.2.1 dL_law_219 ?_
        obtain ⟨x92, e93, h⟩ := m_bs h
        refine m_sld S.1 S.2.1 hX hbl hbA hS e93 dL_law_220 ?_
        obtain ⟨_, k97, h⟩ := m_bs h
        obtain ⟨x94, s95, e96, h⟩ := m_b_s h
        refine m_calli (va_runV (As := [.int x88, .int x90, .int x92]) (rest := []) S (c_X0_attribute l D tc b q1 x88 x90 x92 _ _ _ e96) (cwV 3 S.2.2.2.2 (m_wV kX0_attribute (by decide +kernel)) rfl rfl rfl (by decide +kernel) ⟨by decide +kernel, by decide +kernel⟩) (m_preV hK hP (m_is_s k97) rfl) rfl rfl hl.1 rfl (lv_room (by first | decide | simp [m_rfc, m_catI, m_catL, m_catA])) dL_law_221 ⟨by show _ ≤ 601024; omega, by show _ ≤ 7293000; omega⟩) hS (fun H locs hP hS => ?_)
        refine lv_aload_n S.1 S.2.1 dL_law_224 rfl (lv_at hl 2 rfl) ?_
        refine lv_aload_n S.1 S.2.1 dL_law_225 rfl (lv_at hl 4 rfl) ?_
        refine lv_iload S.1 S.2.1 dL_law_226 (lv_at hl 0 rfl) ?_
        refine lv_iconst (v := 1) S.1 S.2.1 dL_law_228 (by decide) ?_
        refine lv_iadd S.1 S.2.1 dL_law_229 ?_
        obtain ⟨x98, e99, h⟩ := m_bs h
        refine m_sld S.1 S.2.1 hX hbl hbA hS e99 dL_law_230 ?_
        refine lv_aload_n S.1 S.2.1 dL_law_231 rfl (lv_at hl 4 rfl) ?_
        refine lv_iload S.1 S.2.1 dL_law_232 (lv_at hl 0 rfl) ?_
        refine lv_iconst (v := 2) S.1 S.2.1 dL_law_234 (by decide) ?_
        refine lv_iadd S.1 S.2.1 dL_law_235 ?_
        obtain ⟨x100, e101, h⟩ := m_bs h
        refine m_sld S.1 S.2.1 hX hbl hbA hS e101 dL_law_236 ?_
        refine lv_aload_n S.1 S.2.1 dL_law_237 rfl (lv_at hl 4 rfl) ?_
        refine lv_iload S.1 S.2.1 dL_law_238 (lv_at hl 0 rfl) ?_
        refine lv_iconst (v := 3) S.1 S.2.1 dL_law_240 (by decide) ?_
        refine lv_iadd S.1 S.2.1 dL_law_241 ?_
        obtain ⟨x102, e103, h⟩ := m_bs h
        refine m_sld S.1 S.2.1 hX hbl hbA hS e103 dL_law_242 ?_
        obtain ⟨_, k107, h⟩ := m_bs h
        obtain ⟨x104, s105, e106, h⟩ := m_b_s h
        refine m_calli (va_runV (As := [.int x98, .int x100, .int x102]) (rest := [.int x94]) S (c_X3_attribute l D tc b q2 x98 x100 x102 _ _ _ e106) (cwV 3 S.2.2.2.2 (m_wV kX3_attribute (by decide +kernel)) rfl rfl rfl (by decide +kernel) ⟨by decide +kernel, by decide +kernel⟩) (m_preV hK hP (m_is_s k107) rfl) rfl rfl hl.1 rfl (lv_room (by first | decide | simp [m_rfc, m_catI, m_catL, m_catA])) dL_law_243 ⟨by show _ ≤ 601024; omega, by show _ ≤ 7293000; omega⟩) hS (fun H locs hP hS => ?_)
        refine lv_icmp_eq (tgt := 674) S.1 S.2.1 dL_law_246 (by decide) (fun c108 => ?_) (fun c108 => ?_)
        · replace h := m_t c108 h
          refine lv_iinc (v := q4 + 6) (lv' := [(4, .int (q4 + 6)), (3, .ref q3), (2, .ref q2), (1, .ref q1), (0, .ref bs)]) S.1 S.2.1 dL_law_674 hl (k := 0) rfl rfl (by decide) (by first | rfl | simp [m_rfc, m_catI, m_catL, m_catA]) (fun ls hl => ?_)
          refine lv_goto (tgt := 33) S.1 S.2.1 dL_law_677 (by decide) ?_
          exact ih (q4 + 6) q3 q2 q1 _ _ _ h rfl _ _ (by omega) (by omega) _ _ _ hP hS (lv_sub hl [0, 1, 2, 3, 4] rfl)
        · replace h := m_f c108 h
          refine lv_iconst (v := 0) S.1 S.2.1 dL_law_249 (by decide) ?_
          exact absurd (m_fin h).1 (by decide)
      replace h := m_f c87 h
      by_cases c109 : (x21 &&& 15) = 3
      · replace h := m_t c109 h
        refine lv_tableIn (tgt := 251) S.1 S.2.1 dL_law_50 (by rw [c109]; decide) (by rw [c109]; decide) (by rw [c109]; rfl) (by decide) ?_
        refine lv_aload_n S.1 S.2.1 dL_law_251 rfl (lv_at hl 3 rfl) ?_
        refine lv_aload_n S.1 S.2.1 dL_law_252 rfl (lv_at hl 4 rfl) ?_
        refine lv_iload S.1 S.2.1 dL_law_253 (lv_at hl 0 rfl) ?_
        refine lv_iconst (v := 1) S.1 S.2.1 dL_law_255 (by decide) ?_
        refine lv_iadd S.1 S.2.1 dL_law_256 ?_
        obtain ⟨x110, e111, h⟩ := m_bs h
        refine m_sld S.1 S.2.1 hX hbl hbA hS e111 dL_law_257 ?_
        obtain ⟨_, k115, h⟩ := m_bs h
        obtain ⟨x112, s113, e114, h⟩ := m_b_s h
        refine m_calli (va_runV (As := [.int x110]) (rest := []) S (c_X0_target l D tc b q1 x110 _ _ _ e114) (cwV 1 S.2.2.2.2 (m_wV kX0_target (by decide +kernel)) rfl rfl rfl (by decide +kernel) ⟨by decide +kernel, by decide +kernel⟩) (m_preV hK hP (m_is_s k115) rfl) rfl rfl hl.1 rfl (lv_room (by first | decide | simp [m_rfc, m_catI, m_catL, m_catA])) dL_law_258 ⟨by show _ ≤ 601024; omega, by show _ ≤ 7293000; omega⟩) hS (fun H locs hP hS => ?_)
        refine lv_aload_n S.1 S.2.1 dL_law_261 rfl (lv_at hl 2 rfl) ?_
        refine lv_aload_n S.1 S.2.1 dL_law_262 rfl (lv_at hl 4 rfl) ?_
        refine lv_iload S.1 S.2.1 dL_law_263 (lv_at hl 0 rfl) ?_
        refine lv_iconst (v := 1) S.1 S.2.1 dL_law_265 (by decide) ?_
        refine lv_iadd S.1 S.2.1 dL_law_266 ?_
        obtain ⟨x116, e117, h⟩ := m_bs h
        refine m_sld S.1 S.2.1 hX hbl hbA hS e117 dL_law_267 ?_
        obtain ⟨_, k121, h⟩ := m_bs h
        obtain ⟨x118, s119, e120, h⟩ := m_b_s h
        refine m_calli (va_runV (As := [.int x116]) (rest := [.int x112]) S (c_X3_target l D tc b q2 x116 _ _ _ e120) (cwV 1 S.2.2.2.2 (m_wV kX3_target (by decide +kernel)) rfl rfl rfl (by decide +kernel) ⟨by decide +kernel, by decide +kernel⟩) (m_preV hK hP (m_is_s k121) rfl) rfl rfl hl.1 rfl (lv_room (by first | decide | simp [m_rfc, m_catI, m_catL, m_catA])) dL_law_268 ⟨by show _ ≤ 601024; omega, by show _ ≤ 7293000; omega⟩) hS (fun H locs hP hS => ?_)
        refine lv_icmp_eq (tgt := 674) S.1 S.2.1 dL_law_271 (by decide) (fun c122 => ?_) (fun c122 => ?_)
        · replace h := m_t c122 h
          refine lv_iinc (v := q4 + 6) (lv' := [(4, .int (q4 + 6)), (3, .ref q3), (2, .ref q2), (1, .ref q1), (0, .ref bs)]) S.1 S.2.1 dL_law_674 hl (k := 0) rfl rfl (by decide) (by first | rfl | simp [m_rfc, m_catI, m_catL, m_catA]) (fun ls hl => ?_)
          refine lv_goto (tgt := 33) S.1 S.2.1 dL_law_677 (by decide) ?_
          exact ih (q4 + 6) q3 q2 q1 _ _ _ h rfl _ _ (by omega) (by omega) _ _ _ hP hS (lv_sub hl [0, 1, 2, 3, 4] rfl)
        · replace h := m_f c122 h
          refine lv_iconst (v := 0) S.1 S.2.1 dL_law_274 (by decide) ?_
          exact absurd (m_fin h).1 (by decide)
      replace h := m_f c109 h
      by_cases c123 : (x21 &&& 15) = 4
      · replace h := m_t c123 h
        refine lv_tableIn (tgt := 276) S.1 S.2.1 dL_law_50 (by rw [c123]; decide) (by rw [c123]; decide) (by rw [c123]; rfl) (by decide) ?_
        refine lv_aload_n S.1 S.2.1 dL_law_276 rfl (lv_at hl 3 rfl) ?_
        refine lv_aload_n S.1 S.2.1 dL_law_277 rfl (lv_at hl 4 rfl) ?_
        refine lv_iload S.1 S.2.1 dL_law_278 (lv_at hl 0 rfl) ?_
        refine lv_iconst (v := 1) S.1 S.2.1 dL_law_280 (by decide) ?_
        refine lv_iadd S.1 S.2.1 dL_law_281 ?_
        obtain ⟨x124, e125, h⟩ := m_bs h
        refine m_sld S.1 S.2.1 hX hbl hbA hS e125 dL_law_282 ?_
        obtain ⟨_, k129, h⟩ := m_bs h
        obtain ⟨x126, s127, e128, h⟩ := m_b_s h
        refine m_calli (va_runV (As := [.int x124]) (rest := []) S (c_X0_run l D tc b q1 x124 _ _ _ e128) (cwV 1 S.2.2.2.2 (m_wV kX0_run (by decide +kernel)) rfl rfl rfl (by decide +kernel) ⟨by decide +kernel, by decide +kernel⟩) (m_preV hK hP (m_is_s k129) rfl) rfl rfl hl.1 rfl (lv_room (by first | decide | simp [m_rfc, m_catI, m_catL, m_catA])) dL_law_283 ⟨by show _ ≤ 601024; omega, by show _ ≤ 7293000; omega⟩) hS (fun H locs hP hS => ?_)
        refine lv_aload_n S.1 S.2.1 dL_law_286 rfl (lv_at hl 2 rfl) ?_
        refine lv_aload_n S.1 S.2.1 dL_law_287 rfl (lv_at hl 4 rfl) ?_
        refine lv_iload S.1 S.2.1 dL_law_288 (lv_at hl 0 rfl) ?_
        refine lv_iconst (v := 1) S.1 S.2.1 dL_law_290 (by decide) ?_
        refine lv_iadd S.1 S.2.1 dL_law_291 ?_
        obtain ⟨x130, e131, h⟩ := m_bs h
        refine m_sld S.1 S.2.1 hX hbl hbA hS e131 dL_law_292 ?_
        obtain ⟨_, k135, h⟩ := m_bs h
        obtain ⟨x132, s133, e134, h⟩ := m_b_s h
        refine m_calli (va_runV (As := [.int x130]) (rest := [.int x126]) S (c_X3_run l D tc b q2 x130 _ _ _ e134) (cwV 1 S.2.2.2.2 (m_wV kX3_run (by decide +kernel)) rfl rfl rfl (by decide +kernel) ⟨by decide +kernel, by decide +kernel⟩) (m_preV hK hP (m_is_s k135) rfl) rfl rfl hl.1 rfl (lv_room (by first | decide | simp [m_rfc, m_catI, m_catL, m_catA])) dL_law_293 ⟨by show _ ≤ 601024; omega, by show _ ≤ 7293000; omega⟩) hS (fun H locs hP hS => ?_)
        refine lv_icmp_eq (tgt := 674) S.1 S.2.1 dL_law_296 (by decide) (fun c136 => ?_) (fun c136 => ?_)
        · replace h := m_t c136 h
          refine lv_iinc (v := q4 + 6) (lv' := [(4, .int (q4 + 6)), (3, .ref q3), (2, .ref q2), (1, .ref q1), (0, .ref bs)]) S.1 S.2.1 dL_law_674 hl (k := 0) rfl rfl (by decide) (by first | rfl | simp [m_rfc, m_catI, m_catL, m_catA]) (fun ls hl => ?_)
          refine lv_goto (tgt := 33) S.1 S.2.1 dL_law_677 (by decide) ?_
          exact ih (q4 + 6) q3 q2 q1 _ _ _ h rfl _ _ (by omega) (by omega) _ _ _ hP hS (lv_sub hl [0, 1, 2, 3, 4] rfl)
        · replace h := m_f c136 h
          refine lv_iconst (v := 0) S.1 S.2.1 dL_law_299 (by decide) ?_
          exact absurd (m_fin h).1 (by decide)
      replace h := m_f c123 h
      by_cases c137 : (x21 &&& 15) = 5
      · replace h := m_t c137 h
        refine lv_tableIn (tgt := 301) S.1 S.2.1 dL_law_50 (by rw [c137]; decide) (by rw [c137]; decide) (by rw [c137]; rfl) (by decide) ?_
        refine lv_aload_n S.1 S.2.1 dL_law_301 rfl (lv_at hl 3 rfl) ?_
        refine lv_aload_n S.1 S.2.1 dL_law_302 rfl (lv_at hl 4 rfl) ?_
        refine lv_iload S.1 S.2.1 dL_law_303 (lv_at hl 0 rfl) ?_
        refine lv_iconst (v := 1) S.1 S.2.1 dL_law_305 (by decide) ?_
        refine lv_iadd S.1 S.2.1 dL_law_306 ?_
        obtain ⟨x138, e139, h⟩ := m_bs h
        refine m_sld S.1 S.2.1 hX hbl hbA hS e139 dL_law_307 ?_
        refine lv_aload_n S.1 S.2.1 dL_law_308 rfl (lv_at hl 4 rfl) ?_
        refine lv_iload S.1 S.2.1 dL_law_309 (lv_at hl 0 rfl) ?_
        refine lv_iconst (v := 2) S.1 S.2.1 dL_law_311 (by decide) ?_
        refine lv_iadd S.1 S.2.1 dL_law_312 ?_
        obtain ⟨x140, e141, h⟩ := m_bs h
        refine m_sld S.1 S.2.1 hX hbl hbA hS e141 dL_law_313 ?_
        obtain ⟨_, k145, h⟩ := m_bs h
        obtain ⟨x142, s143, e144, h⟩ := m_b_s h
        refine m_calli (va_runV (As := [.int x138, .int x140]) (rest := []) S (c_X0_action l D tc b q1 x138 x140 _ _ _ e144) (cwV 2 S.2.2.2.2 (m_wV kX0_action (by decide +kernel)) rfl rfl rfl (by decide +kernel) ⟨by decide +kernel, by decide +kernel⟩) (m_preV hK hP (m_is_s k145) rfl) rfl rfl hl.1 rfl (lv_room (by first | decide | simp [m_rfc, m_catI, m_catL, m_catA])) dL_law_314 ⟨by show _ ≤ 601024; omega, by show _ ≤ 7293000; omega⟩) hS (fun H locs hP hS => ?_)
        refine lv_aload_n S.1 S.2.1 dL_law_317 rfl (lv_at hl 2 rfl) ?_
        refine lv_aload_n S.1 S.2.1 dL_law_318 rfl (lv_at hl 4 rfl) ?_
        refine lv_iload S.1 S.2.1 dL_law_319 (lv_at hl 0 rfl) ?_
        refine lv_iconst (v := 1) S.1 S.2.1 dL_law_321 (by decide) ?_
        refine lv_iadd S.1 S.2.1 dL_law_322 ?_
        obtain ⟨x146, e147, h⟩ := m_bs h
        refine m_sld S.1 S.2.1 hX hbl hbA hS e147 dL_law_323 ?_
        refine lv_aload_n S.1 S.2.1 dL_law_324 rfl (lv_at hl 4 rfl) ?_
        refine lv_iload S.1 S.2.1 dL_law_325 (lv_at hl 0 rfl) ?_
        refine lv_iconst (v := 2) S.1 S.2.1 dL_law_327 (by decide) ?_
        refine lv_iadd S.1 S.2.1 dL_law_328 ?_
        obtain ⟨x148, e149, h⟩ := m_bs h
        refine m_sld S.1 S.2.1 hX hbl hbA hS e149 dL_law_329 ?_
        obtain ⟨_, k153, h⟩ := m_bs h
        obtain ⟨x150, s151, e152, h⟩ := m_b_s h
        refine m_calli (va_runV (As := [.int x146, .int x148]) (rest := [.int x142]) S (c_X3_action l D tc b q2 x146 x148 _ _ _ e152) (cwV 2 S.2.2.2.2 (m_wV kX3_action (by decide +kernel)) rfl rfl rfl (by decide +kernel) ⟨by decide +kernel, by decide +kernel⟩) (m_preV hK hP (m_is_s k153) rfl) rfl rfl hl.1 rfl (lv_room (by first | decide | simp [m_rfc, m_catI, m_catL, m_catA])) dL_law_330 ⟨by show _ ≤ 601024; omega, by show _ ≤ 7293000; omega⟩) hS (fun H locs hP hS => ?_)
        refine lv_icmp_eq (tgt := 674) S.1 S.2.1 dL_law_333 (by decide) (fun c154 => ?_) (fun c154 => ?_)
        · replace h := m_t c154 h
          refine lv_iinc (v := q4 + 6) (lv' := [(4, .int (q4 + 6)), (3, .ref q3), (2, .ref q2), (1, .ref q1), (0, .ref bs)]) S.1 S.2.1 dL_law_674 hl (k := 0) rfl rfl (by decide) (by first | rfl | simp [m_rfc, m_catI, m_catL, m_catA]) (fun ls hl => ?_)
          refine lv_goto (tgt := 33) S.1 S.2.1 dL_law_677 (by decide) ?_
          exact ih (q4 + 6) q3 q2 q1 _ _ _ h rfl _ _ (by omega) (by omega) _ _ _ hP hS (lv_sub hl [0, 1, 2, 3, 4] rfl)
        · replace h := m_f c154 h
          refine lv_iconst (v := 0) S.1 S.2.1 dL_law_336 (by decide) ?_
          exact absurd (m_fin h).1 (by decide)
      replace h := m_f c137 h
      by_cases c155 : (x21 &&& 15) = 6
      · replace h := m_t c155 h
        refine lv_tableIn (tgt := 338) S.1 S.2.1 dL_law_50 (by rw [c155]; decide) (by rw [c155]; decide) (by rw [c155]; rfl) (by decide) ?_
        refine lv_aload_n S.1 S.2.1 dL_law_338 rfl (lv_at hl 3 rfl) ?_
        refine lv_aload_n S.1 S.2.1 dL_law_339 rfl (lv_at hl 4 rfl) ?_
        refine lv_iload S.1 S.2.1 dL_law_340 (lv_at hl 0 rfl) ?_
        refine lv_iconst (v := 1) S.1 S.2.1 dL_law_342 (by decide) ?_
        refine lv_iadd S.1 S.2.1 dL_law_343 ?_
        obtain ⟨x156, e157, h⟩ := m_bs h
        refine m_sld S.1 S.2.1 hX hbl hbA hS e157 dL_law_344 ?_
        refine lv_aload_n S.1 S.2.1 dL_law_345 rfl (lv_at hl 4 rfl) ?_
        refine lv_iload S.1 S.2.1 dL_law_346 (lv_at hl 0 rfl) ?_
        refine lv_iconst (v := 2) S.1 S.2.1 dL_law_348 (by decide) ?_
        refine lv_iadd S.1 S.2.1 dL_law_349 ?_
        obtain ⟨x158, e159, h⟩ := m_bs h
        refine m_sld S.1 S.2.1 hX hbl hbA hS e159 dL_law_350 ?_
        obtain ⟨_, k163, h⟩ := m_bs h
        obtain ⟨x160, s161, e162, h⟩ := m_b_s h
        refine m_calli (va_runV (As := [.int x156, .int x158]) (rest := []) S (c_X0_provider l D tc b q1 x156 x158 _ _ _ e162) (cwV 2 S.2.2.2.2 (m_wV kX0_provider (by decide +kernel)) rfl rfl rfl (by decide +kernel) ⟨by decide +kernel, by decide +kernel⟩) (m_preV hK hP (m_is_s k163) rfl) rfl rfl hl.1 rfl (lv_room (by first | decide | simp [m_rfc, m_catI, m_catL, m_catA])) dL_law_351 ⟨by show _ ≤ 601024; omega, by show _ ≤ 7293000; omega⟩) hS (fun H locs hP hS => ?_)
        refine lv_aload_n S.1 S.2.1 dL_law_354 rfl (lv_at hl 2 rfl) ?_
        refine lv_aload_n S.1 S.2.1 dL_law_355 rfl (lv_at hl 4 rfl) ?_
        refine lv_iload S.1 S.2.1 dL_law_356 (lv_at hl 0 rfl) ?_
        refine lv_iconst (v := 1) S.1 S.2.1 dL_law_358 (by decide) ?_
        refine lv_iadd S.1 S.2.1 dL_law_359 ?_
        obtain ⟨x164, e165, h⟩ := m_bs h
        refine m_sld S.1 S.2.1 hX hbl hbA hS e165 dL_law_360 ?_
        refine lv_aload_n S.1 S.2.1 dL_law_361 rfl (lv_at hl 4 rfl) ?_
        refine lv_iload S.1 S.2.1 dL_law_362 (lv_at hl 0 rfl) ?_
        refine lv_iconst (v := 2) S.1 S.2.1 dL_law_364 (by decide) ?_
        refine lv_iadd S.1 S.2.1 dL_law_365 ?_
        obtain ⟨x166, e167, h⟩ := m_bs h
        refine m_sld S.1 S.2.1 hX hbl hbA hS e167 dL_law_366 ?_
        obtain ⟨_, k171, h⟩ := m_bs h
        obtain ⟨x168, s169, e170, h⟩ := m_b_s h
        refine m_calli (va_runV (As := [.int x164, .int x166]) (rest := [.int x160]) S (c_X3_provider l D tc b q2 x164 x166 _ _ _ e170) (cwV 2 S.2.2.2.2 (m_wV kX3_provider (by decide +kernel)) rfl rfl rfl (by decide +kernel) ⟨by decide +kernel, by decide +kernel⟩) (m_preV hK hP (m_is_s k171) rfl) rfl rfl hl.1 rfl (lv_room (by first | decide | simp [m_rfc, m_catI, m_catL, m_catA])) dL_law_367 ⟨by show _ ≤ 601024; omega, by show _ ≤ 7293000; omega⟩) hS (fun H locs hP hS => ?_)
        refine lv_icmp_eq (tgt := 674) S.1 S.2.1 dL_law_370 (by decide) (fun c172 => ?_) (fun c172 => ?_)
        · replace h := m_t c172 h
          refine lv_iinc (v := q4 + 6) (lv' := [(4, .int (q4 + 6)), (3, .ref q3), (2, .ref q2), (1, .ref q1), (0, .ref bs)]) S.1 S.2.1 dL_law_674 hl (k := 0) rfl rfl (by decide) (by first | rfl | simp [m_rfc, m_catI, m_catL, m_catA]) (fun ls hl => ?_)
          refine lv_goto (tgt := 33) S.1 S.2.1 dL_law_677 (by decide) ?_
          exact ih (q4 + 6) q3 q2 q1 _ _ _ h rfl _ _ (by omega) (by omega) _ _ _ hP hS (lv_sub hl [0, 1, 2, 3, 4] rfl)
        · replace h := m_f c172 h
          refine lv_iconst (v := 0) S.1 S.2.1 dL_law_373 (by decide) ?_
          exact absurd (m_fin h).1 (by decide)
      replace h := m_f c155 h
      by_cases c173 : (x21 &&& 15) = 7
      · replace h := m_t c173 h
        refine lv_tableIn (tgt := 375) S.1 S.2.1 dL_law_50 (by rw [c173]; decide) (by rw [c173]; decide) (by rw [c173]; rfl) (by decide) ?_
        refine lv_aload_n S.1 S.2.1 dL_law_375 rfl (lv_at hl 3 rfl) ?_
        refine lv_aload_n S.1 S.2.1 dL_law_376 rfl (lv_at hl 4 rfl) ?_
        refine lv_iload S.1 S.2.1 dL_law_377 (lv_at hl 0 rfl) ?_
        refine lv_iconst (v := 1) S.1 S.2.1 dL_law_379 (by decide) ?_
        refine lv_iadd S.1 S.2.1 dL_law_380 ?_
        obtain ⟨x174, e175, h⟩ := m_bs h
        refine m_sld S.1 S.2.1 hX hbl hbA hS e175 dL_law_381 ?_
        refine lv_aload_n S.1 S.2.1 dL_law_382 rfl (lv_at hl 4 rfl) ?_
        refine lv_iload S.1 S.2.1 dL_law_383 (lv_at hl 0 rfl) ?_
        refine lv_iconst (v := 2) S.1 S.2.1 dL_law_385 (by decide) ?_
        refine lv_iadd S.1 S.2.1 dL_law_386 ?_
        obtain ⟨x176, e177, h⟩ := m_bs h
        refine m_sld S.1 S.2.1 hX hbl hbA hS e177 dL_law_387 ?_
        obtain ⟨_, k181, h⟩ := m_bs h
        obtain ⟨x178, s179, e180, h⟩ := m_b_s h
        refine m_calli (va_runV (As := [.int x174, .int x176]) (rest := []) S (c_X0_failed l D tc b q1 x174 x176 _ _ _ e180) (cwV 2 S.2.2.2.2 (m_wV kX0_failed (by decide +kernel)) rfl rfl rfl (by decide +kernel) ⟨by decide +kernel, by decide +kernel⟩) (m_preV hK hP (m_is_s k181) rfl) rfl rfl hl.1 rfl (lv_room (by first | decide | simp [m_rfc, m_catI, m_catL, m_catA])) dL_law_388 ⟨by show _ ≤ 601024; omega, by show _ ≤ 7293000; omega⟩) hS (fun H locs hP hS => ?_)
        refine lv_aload_n S.1 S.2.1 dL_law_391 rfl (lv_at hl 2 rfl) ?_
        refine lv_aload_n S.1 S.2.1 dL_law_392 rfl (lv_at hl 4 rfl) ?_
        refine lv_iload S.1 S.2.1 dL_law_393 (lv_at hl 0 rfl) ?_
        refine lv_iconst (v := 1) S.1 S.2.1 dL_law_395 (by decide) ?_
        refine lv_iadd S.1 S.2.1 dL_law_396 ?_
        obtain ⟨x182, e183, h⟩ := m_bs h
        refine m_sld S.1 S.2.1 hX hbl hbA hS e183 dL_law_397 ?_
        refine lv_aload_n S.1 S.2.1 dL_law_398 rfl (lv_at hl 4 rfl) ?_
        refine lv_iload S.1 S.2.1 dL_law_399 (lv_at hl 0 rfl) ?_
        refine lv_iconst (v := 2) S.1 S.2.1 dL_law_401 (by decide) ?_
        refine lv_iadd S.1 S.2.1 dL_law_402 ?_
        obtain ⟨x184, e185, h⟩ := m_bs h
        refine m_sld S.1 S.2.1 hX hbl hbA hS e185 dL_law_403 ?_
        obtain ⟨_, k189, h⟩ := m_bs h
        obtain ⟨x186, s187, e188, h⟩ := m_b_s h
        refine m_calli (va_runV (As := [.int x182, .int x184]) (rest := [.int x178]) S (c_X3_failed l D tc b q2 x182 x184 _ _ _ e188) (cwV 2 S.2.2.2.2 (m_wV kX3_failed (by decide +kernel)) rfl rfl rfl (by decide +kernel) ⟨by decide +kernel, by decide +kernel⟩) (m_preV hK hP (m_is_s k189) rfl) rfl rfl hl.1 rfl (lv_room (by first | decide | simp [m_rfc, m_catI, m_catL, m_catA])) dL_law_404 ⟨by show _ ≤ 601024; omega, by show _ ≤ 7293000; omega⟩) hS (fun H locs hP hS => ?_)
        refine lv_icmp_eq (tgt := 674) S.1 S.2.1 dL_law_407 (by decide) (fun c190 => ?_) (fun c190 => ?_)
        · replace h := m_t c190 h
          refine lv_iinc (v := q4 + 6) (lv' := [(4, .int (q4 + 6)), (3, .ref q3), (2, .ref q2), (1, .ref q1), (0, .ref bs)]) S.1 S.2.1 dL_law_674 hl (k := 0) rfl rfl (by decide) (by first | rfl | simp [m_rfc, m_catI, m_catL, m_catA]) (fun ls hl => ?_)
          refine lv_goto (tgt := 33) S.1 S.2.1 dL_law_677 (by decide) ?_
          exact ih (q4 + 6) q3 q2 q1 _ _ _ h rfl _ _ (by omega) (by omega) _ _ _ hP hS (lv_sub hl [0, 1, 2, 3, 4] rfl)
        · replace h := m_f c190 h
          refine lv_iconst (v := 0) S.1 S.2.1 dL_law_410 (by decide) ?_
          exact absurd (m_fin h).1 (by decide)
      replace h := m_f c173 h
      by_cases c191 : (x21 &&& 15) = 8
      · replace h := m_t c191 h
        refine lv_tableIn (tgt := 412) S.1 S.2.1 dL_law_50 (by rw [c191]; decide) (by rw [c191]; decide) (by rw [c191]; rfl) (by decide) ?_
        refine lv_aload_n S.1 S.2.1 dL_law_412 rfl (lv_at hl 3 rfl) ?_
        refine lv_aload_n S.1 S.2.1 dL_law_413 rfl (lv_at hl 4 rfl) ?_
        refine lv_iload S.1 S.2.1 dL_law_414 (lv_at hl 0 rfl) ?_
        refine lv_iconst (v := 1) S.1 S.2.1 dL_law_416 (by decide) ?_
        refine lv_iadd S.1 S.2.1 dL_law_417 ?_
        obtain ⟨x192, e193, h⟩ := m_bs h
        refine m_sld S.1 S.2.1 hX hbl hbA hS e193 dL_law_418 ?_
        obtain ⟨_, k197, h⟩ := m_bs h
        obtain ⟨l194, s195, e196, h⟩ := m_b_s h
        refine m_calll (va_runV (As := [.int x192]) (rest := []) S (c_X0_cell l D tc b q1 x192 _ _ _ e196) (cwV 1 S.2.2.2.2 (m_wV kX0_cell (by decide +kernel)) rfl rfl rfl (by decide +kernel) ⟨by decide +kernel, by decide +kernel⟩) (m_preV hK hP (m_is_s k197) rfl) rfl rfl hl.1 rfl (lv_room (by first | decide | simp [m_rfc, m_catI, m_catL, m_catA])) dL_law_419 ⟨by show _ ≤ 601024; omega, by show _ ≤ 7293000; omega⟩) hS (fun H locs hP hS => ?_)
        refine lv_aload_n S.1 S.2.1 dL_law_422 rfl (lv_at hl 2 rfl) ?_
        refine lv_aload_n S.1 S.2.1 dL_law_423 rfl (lv_at hl 4 rfl) ?_
        refine lv_iload S.1 S.2.1 dL_law_424 (lv_at hl 0 rfl) ?_
        refine lv_iconst (v := 1) S.1 S.2.1 dL_law_426 (by decide) ?_
        refine lv_iadd S.1 S.2.1 dL_law_427 ?_
        obtain ⟨x198, e199, h⟩ := m_bs h
        refine m_sld S.1 S.2.1 hX hbl hbA hS e199 dL_law_428 ?_
        obtain ⟨_, k203, h⟩ := m_bs h
        obtain ⟨l200, s201, e202, h⟩ := m_b_s h
        refine m_calll (va_runV (As := [.int x198]) (rest := [.long l194]) S (c_X3_cell l D tc b q2 x198 _ _ _ e202) (cwV 1 S.2.2.2.2 (m_wV kX3_cell (by decide +kernel)) rfl rfl rfl (by decide +kernel) ⟨by decide +kernel, by decide +kernel⟩) (m_preV hK hP (m_is_s k203) rfl) rfl rfl hl.1 rfl (lv_room (by first | decide | simp [m_rfc, m_catI, m_catL, m_catA])) dL_law_429 ⟨by show _ ≤ 601024; omega, by show _ ≤ 7293000; omega⟩) hS (fun H locs hP hS => ?_)
        refine W.lcmp S.1 S.2.1 dL_law_432 ?_
        refine lv_if_eq (tgt := 674) S.1 S.2.1 dL_law_433 (by decide) (fun c204 => ?_) (fun c204 => ?_)
        · replace h := m_t c204 h
          refine lv_iinc (v := q4 + 6) (lv' := [(4, .int (q4 + 6)), (3, .ref q3), (2, .ref q2), (1, .ref q1), (0, .ref bs)]) S.1 S.2.1 dL_law_674 hl (k := 0) rfl rfl (by decide) (by first | rfl | simp [m_rfc, m_catI, m_catL, m_catA]) (fun ls hl => ?_)
          refine lv_goto (tgt := 33) S.1 S.2.1 dL_law_677 (by decide) ?_
          exact ih (q4 + 6) q3 q2 q1 _ _ _ h rfl _ _ (by omega) (by omega) _ _ _ hP hS (lv_sub hl [0, 1, 2, 3, 4] rfl)
        · replace h := m_f c204 h
          refine lv_iconst (v := 0) S.1 S.2.1 dL_law_436 (by decide) ?_
          exact absurd (m_fin h).1 (by decide)
      replace h := m_f c191 h
      by_cases c205 : (x21 &&& 15) = 9
      · replace h := m_t c205 h
        refine lv_tableIn (tgt := 438) S.1 S.2.1 dL_law_50 (by rw [c205]; decide) (by rw [c205]; decide) (by rw [c205]; rfl) (by decide) ?_
        refine lv_aload_n S.1 S.2.1 dL_law_438 rfl (lv_at hl 3 rfl) ?_
        refine lv_aload_n S.1 S.2.1 dL_law_439 rfl (lv_at hl 4 rfl) ?_
        refine lv_iload S.1 S.2.1 dL_law_440 (lv_at hl 0 rfl) ?_
        refine lv_iconst (v := 1) S.1 S.2.1 dL_law_442 (by decide) ?_
        refine lv_iadd S.1 S.2.1 dL_law_443 ?_
        obtain ⟨x206, e207, h⟩ := m_bs h
        refine m_sld S.1 S.2.1 hX hbl hbA hS e207 dL_law_444 ?_
        refine lv_aload_n S.1 S.2.1 dL_law_445 rfl (lv_at hl 4 rfl) ?_
        refine lv_iload S.1 S.2.1 dL_law_446 (lv_at hl 0 rfl) ?_
        refine lv_iconst (v := 2) S.1 S.2.1 dL_law_448 (by decide) ?_
        refine lv_iadd S.1 S.2.1 dL_law_449 ?_
        obtain ⟨x208, e209, h⟩ := m_bs h
        refine m_sld S.1 S.2.1 hX hbl hbA hS e209 dL_law_450 ?_
        obtain ⟨_, k213, h⟩ := m_bs h
        obtain ⟨x210, s211, e212, h⟩ := m_b_s h
        refine m_calli (va_runV (As := [.int x206, .int x208]) (rest := []) S (c_X0_same l D tc b q1 x206 x208 _ _ _ e212) (cwV 2 S.2.2.2.2 (m_wV kX0_same (by decide +kernel)) rfl rfl rfl (by decide +kernel) ⟨by decide +kernel, by decide +kernel⟩) (m_preV hK hP (m_is_s k213) rfl) rfl rfl hl.1 rfl (lv_room (by first | decide | simp [m_rfc, m_catI, m_catL, m_catA])) dL_law_451 ⟨by show _ ≤ 601024; omega, by show _ ≤ 7293000; omega⟩) hS (fun H locs hP hS => ?_)
        refine lv_aload_n S.1 S.2.1 dL_law_454 rfl (lv_at hl 2 rfl) ?_
        refine lv_aload_n S.1 S.2.1 dL_law_455 rfl (lv_at hl 4 rfl) ?_
        refine lv_iload S.1 S.2.1 dL_law_456 (lv_at hl 0 rfl) ?_
        refine lv_iconst (v := 1) S.1 S.2.1 dL_law_458 (by decide) ?_
        refine lv_iadd S.1 S.2.1 dL_law_459 ?_
        obtain ⟨x214, e215, h⟩ := m_bs h
        refine m_sld S.1 S.2.1 hX hbl hbA hS e215 dL_law_460 ?_
        refine lv_aload_n S.1 S.2.1 dL_law_461 rfl (lv_at hl 4 rfl) ?_
        refine lv_iload S.1 S.2.1 dL_law_462 (lv_at hl 0 rfl) ?_
        refine lv_iconst (v := 2) S.1 S.2.1 dL_law_464 (by decide) ?_
        refine lv_iadd S.1 S.2.1 dL_law_465 ?_
        obtain ⟨x216, e217, h⟩ := m_bs h
        refine m_sld S.1 S.2.1 hX hbl hbA hS e217 dL_law_466 ?_
        obtain ⟨_, k221, h⟩ := m_bs h
        obtain ⟨x218, s219, e220, h⟩ := m_b_s h
        refine m_calli (va_runV (As := [.int x214, .int x216]) (rest := [.int x210]) S (c_X3_same l D tc b q2 x214 x216 _ _ _ e220) (cwV 2 S.2.2.2.2 (m_wV kX3_same (by decide +kernel)) rfl rfl rfl (by decide +kernel) ⟨by decide +kernel, by decide +kernel⟩) (m_preV hK hP (m_is_s k221) rfl) rfl rfl hl.1 rfl (lv_room (by first | decide | simp [m_rfc, m_catI, m_catL, m_catA])) dL_law_467 ⟨by show _ ≤ 601024; omega, by show _ ≤ 7293000; omega⟩) hS (fun H locs hP hS => ?_)
        refine lv_icmp_eq (tgt := 674) S.1 S.2.1 dL_law_470 (by decide) (fun c222 => ?_) (fun c222 => ?_)
        · replace h := m_t c222 h
          refine lv_iinc (v := q4 + 6) (lv' := [(4, .int (q4 + 6)), (3, .ref q3), (2, .ref q2), (1, .ref q1), (0, .ref bs)]) S.1 S.2.1 dL_law_674 hl (k := 0) rfl rfl (by decide) (by first | rfl | simp [m_rfc, m_catI, m_catL, m_catA]) (fun ls hl => ?_)
          refine lv_goto (tgt := 33) S.1 S.2.1 dL_law_677 (by decide) ?_
          exact ih (q4 + 6) q3 q2 q1 _ _ _ h rfl _ _ (by omega) (by omega) _ _ _ hP hS (lv_sub hl [0, 1, 2, 3, 4] rfl)
        · replace h := m_f c222 h
          refine lv_iconst (v := 0) S.1 S.2.1 dL_law_473 (by decide) ?_
          exact absurd (m_fin h).1 (by decide)
      replace h := m_f c205 h
      by_cases c223 : (x21 &&& 15) = 10
      · replace h := m_t c223 h
        refine lv_tableIn (tgt := 475) S.1 S.2.1 dL_law_50 (by rw [c223]; decide) (by rw [c223]; decide) (by rw [c223]; rfl) (by decide) ?_
        refine lv_aload_n S.1 S.2.1 dL_law_475 rfl (lv_at hl 3 rfl) ?_
        refine lv_aload_n S.1 S.2.1 dL_law_476 rfl (lv_at hl 4 rfl) ?_
        refine lv_iload S.1 S.2.1 dL_law_477 (lv_at hl 0 rfl) ?_
        refine lv_iconst (v := 1) S.1 S.2.1 dL_law_479 (by decide) ?_
        refine lv_iadd S.1 S.2.1 dL_law_480 ?_
        obtain ⟨x224, e225, h⟩ := m_bs h
        refine m_sld S.1 S.2.1 hX hbl hbA hS e225 dL_law_481 ?_
        refine lv_aload_n S.1 S.2.1 dL_law_482 rfl (lv_at hl 4 rfl) ?_
        refine lv_iload S.1 S.2.1 dL_law_483 (lv_at hl 0 rfl) ?_
        refine lv_iconst (v := 2) S.1 S.2.1 dL_law_485 (by decide) ?_
        refine lv_iadd S.1 S.2.1 dL_law_486 ?_
        obtain ⟨x226, e227, h⟩ := m_bs h
        refine m_sld S.1 S.2.1 hX hbl hbA hS e227 dL_law_487 ?_
        refine lv_i2l S.1 S.2.1 dL_law_488 rfl ?_
        refine lv_bipush (v := 32) S.1 S.2.1 dL_law_489 (by decide) ?_
        refine lv_lshl S.1 S.2.1 dL_law_491 rfl ?_
        refine lv_aload_n S.1 S.2.1 dL_law_492 rfl (lv_at hl 4 rfl) ?_
        refine lv_iload S.1 S.2.1 dL_law_493 (lv_at hl 0 rfl) ?_
        refine lv_iconst (v := 3) S.1 S.2.1 dL_law_495 (by decide) ?_
        refine lv_iadd S.1 S.2.1 dL_law_496 ?_
        obtain ⟨x228, e229, h⟩ := m_bs h
        refine m_sld S.1 S.2.1 hX hbl hbA hS e229 dL_law_497 ?_
        refine lv_i2l S.1 S.2.1 dL_law_498 rfl ?_
        refine lv_ldc2 (v := 4294967295) S.1 S.2.1 S.2.2.2.1 (S.2.2.2.2 (.constantLong RL 77 4294967295) (m_mem (by decide +kernel))) dL_law_499 ?_
        refine lv_land S.1 S.2.1 dL_law_502 ?_
        refine lv_lor S.1 S.2.1 dL_law_503 ?_
        refine lv_aload_n S.1 S.2.1 dL_law_504 rfl (lv_at hl 4 rfl) ?_
        refine lv_iload S.1 S.2.1 dL_law_505 (lv_at hl 0 rfl) ?_
        refine lv_iconst (v := 4) S.1 S.2.1 dL_law_507 (by decide) ?_
        refine lv_iadd S.1 S.2.1 dL_law_508 ?_
        obtain ⟨x230, e231, h⟩ := m_bs h
        refine m_sld S.1 S.2.1 hX hbl hbA hS e231 dL_law_509 ?_
        refine lv_i2l S.1 S.2.1 dL_law_510 rfl ?_
        refine lv_bipush (v := 32) S.1 S.2.1 dL_law_511 (by decide) ?_
        refine lv_lshl S.1 S.2.1 dL_law_513 rfl ?_
        refine lv_aload_n S.1 S.2.1 dL_law_514 rfl (lv_at hl 4 rfl) ?_
        refine lv_iload S.1 S.2.1 dL_law_515 (lv_at hl 0 rfl) ?_
        refine lv_iconst (v := 5) S.1 S.2.1 dL_law_517 (by decide) ?_
        refine lv_iadd S.1 S.2.1 dL_law_518 ?_
        obtain ⟨x232, e233, h⟩ := m_bs h
        refine m_sld S.1 S.2.1 hX hbl hbA hS e233 dL_law_519 ?_
        refine lv_i2l S.1 S.2.1 dL_law_520 rfl ?_
        refine lv_ldc2 (v := 4294967295) S.1 S.2.1 S.2.2.2.1 (S.2.2.2.2 (.constantLong RL 77 4294967295) (m_mem (by decide +kernel))) dL_law_521 ?_
        refine lv_land S.1 S.2.1 dL_law_524 ?_
        refine lv_lor S.1 S.2.1 dL_law_525 ?_
        refine lv_aload_n S.1 S.2.1 dL_law_526 rfl (lv_at hl 1 rfl) ?_
        obtain ⟨x234, s235, e236, h⟩ := m_b_s h
        refine m_calli (m_runSW (n := 5) (As := [va_rf (some q1), .int x224, .long ((((x226 : Int32).toInt64) <<< ((32 : Int32).toInt64 &&& 63)) ||| (((x228 : Int32).toInt64) &&& 4294967295)), .long ((((x230 : Int32).toInt64) <<< ((32 : Int32).toInt64 &&& 63)) ||| (((x232 : Int32).toInt64) &&& 4294967295)), va_rf (some q3)]) (rest := []) S (c_L_divide l hfl D tc b (some q1) x224 ((((x226 : Int32).toInt64) <<< ((32 : Int32).toInt64 &&& 63)) ||| (((x228 : Int32).toInt64) &&& 4294967295)) ((((x230 : Int32).toInt64) <<< ((32 : Int32).toInt64 &&& 63)) ||| (((x232 : Int32).toInt64) &&& 4294967295)) (some q3) _ _ _ e236) (by decide +kernel) (by decide +kernel) rfl rfl ⟨by decide +kernel, by decide +kernel⟩ (pay_in S.2.2.2.2 (m_wI kL_divide)) List.mem_cons_self (S.2.2.2.2 (.methodLink RL 79 yL_divide) (m_mem (by decide +kernel))) (S.2.2.2.2 (.static yL_divide) (m_mem (by decide +kernel))) (S.2.2.2.2 (.initialized RL) (m_mem (by decide +kernel))) (m_preSE hK hP hE hS) rfl rfl hl.1 rfl (lv_room (by first | decide | simp [m_rfc, m_catI, m_catL, m_catA])) dL_law_527 ⟨by show _ ≤ 601024; omega, by show _ ≤ 7293000; omega⟩) hS (fun H locs hP hS => ?_)
        refine lv_istore (i := 5) (lv' := [(5, .int x234), (4, .int q4), (3, .ref q3), (2, .ref q2), (1, .ref q1), (0, .ref bs)]) S.1 S.2.1 dL_law_530 hl (by decide) (by first | rfl | simp [m_rfc, m_catI, m_catL, m_catA]) (fun ls hl => ?_)
        refine lv_aload_n S.1 S.2.1 dL_law_532 rfl (lv_at hl 3 rfl) ?_
        refine lv_aload_n S.1 S.2.1 dL_law_533 rfl (lv_at hl 5 rfl) ?_
        refine lv_iload S.1 S.2.1 dL_law_534 (lv_at hl 1 rfl) ?_
        refine lv_iconst (v := 1) S.1 S.2.1 dL_law_536 (by decide) ?_
        refine lv_iadd S.1 S.2.1 dL_law_537 ?_
        obtain ⟨x237, e238, h⟩ := m_bs h
        refine m_sld S.1 S.2.1 hX hbl hbA hS e238 dL_law_538 ?_
        refine lv_aload_n S.1 S.2.1 dL_law_539 rfl (lv_at hl 5 rfl) ?_
        refine lv_iload S.1 S.2.1 dL_law_540 (lv_at hl 1 rfl) ?_
        refine lv_iconst (v := 2) S.1 S.2.1 dL_law_542 (by decide) ?_
        refine lv_iadd S.1 S.2.1 dL_law_543 ?_
        obtain ⟨x239, e240, h⟩ := m_bs h
        refine m_sld S.1 S.2.1 hX hbl hbA hS e240 dL_law_544 ?_
        refine lv_i2l S.1 S.2.1 dL_law_545 rfl ?_
        refine lv_bipush (v := 32) S.1 S.2.1 dL_law_546 (by decide) ?_
        refine lv_lshl S.1 S.2.1 dL_law_548 rfl ?_
        refine lv_aload_n S.1 S.2.1 dL_law_549 rfl (lv_at hl 5 rfl) ?_
        refine lv_iload S.1 S.2.1 dL_law_550 (lv_at hl 1 rfl) ?_
        refine lv_iconst (v := 3) S.1 S.2.1 dL_law_552 (by decide) ?_
        refine lv_iadd S.1 S.2.1 dL_law_553 ?_
        obtain ⟨x241, e242, h⟩ := m_bs h
        refine m_sld S.1 S.2.1 hX hbl hbA hS e242 dL_law_554 ?_
        refine lv_i2l S.1 S.2.1 dL_law_555 rfl ?_
        refine lv_ldc2 (v := 4294967295) S.1 S.2.1 S.2.2.2.1 (S.2.2.2.2 (.constantLong RL 77 4294967295) (m_mem (by decide +kernel))) dL_law_556 ?_
        refine lv_land S.1 S.2.1 dL_law_559 ?_
        refine lv_lor S.1 S.2.1 dL_law_560 ?_
        refine lv_aload_n S.1 S.2.1 dL_law_561 rfl (lv_at hl 5 rfl) ?_
        refine lv_iload S.1 S.2.1 dL_law_562 (lv_at hl 1 rfl) ?_
        refine lv_iconst (v := 4) S.1 S.2.1 dL_law_564 (by decide) ?_
        refine lv_iadd S.1 S.2.1 dL_law_565 ?_
        obtain ⟨x243, e244, h⟩ := m_bs h
        refine m_sld S.1 S.2.1 hX hbl hbA hS e244 dL_law_566 ?_
        refine lv_i2l S.1 S.2.1 dL_law_567 rfl ?_
        refine lv_bipush (v := 32) S.1 S.2.1 dL_law_568 (by decide) ?_
        refine lv_lshl S.1 S.2.1 dL_law_570 rfl ?_
        refine lv_aload_n S.1 S.2.1 dL_law_571 rfl (lv_at hl 5 rfl) ?_
        refine lv_iload S.1 S.2.1 dL_law_572 (lv_at hl 1 rfl) ?_
        refine lv_iconst (v := 5) S.1 S.2.1 dL_law_574 (by decide) ?_
        refine lv_iadd S.1 S.2.1 dL_law_575 ?_
        obtain ⟨x245, e246, h⟩ := m_bs h
        refine m_sld S.1 S.2.1 hX hbl hbA hS e246 dL_law_576 ?_
        refine lv_i2l S.1 S.2.1 dL_law_577 rfl ?_
        refine lv_ldc2 (v := 4294967295) S.1 S.2.1 S.2.2.2.1 (S.2.2.2.2 (.constantLong RL 77 4294967295) (m_mem (by decide +kernel))) dL_law_578 ?_
        refine lv_land S.1 S.2.1 dL_law_581 ?_
        refine lv_lor S.1 S.2.1 dL_law_582 ?_
        obtain ⟨_, k250, h⟩ := m_bs h
        obtain ⟨l247, s248, e249, h⟩ := m_b_s h
        refine m_calll (va_runV (As := [.int x237, .long ((((x239 : Int32).toInt64) <<< ((32 : Int32).toInt64 &&& 63)) ||| (((x241 : Int32).toInt64) &&& 4294967295)), .long ((((x243 : Int32).toInt64) <<< ((32 : Int32).toInt64 &&& 63)) ||| (((x245 : Int32).toInt64) &&& 4294967295))]) (rest := []) S (c_X3_divide l D tc b q2 x237 ((((x239 : Int32).toInt64) <<< ((32 : Int32).toInt64 &&& 63)) ||| (((x241 : Int32).toInt64) &&& 4294967295)) ((((x243 : Int32).toInt64) <<< ((32 : Int32).toInt64 &&& 63)) ||| (((x245 : Int32).toInt64) &&& 4294967295)) _ _ _ e249) (cwV 3 S.2.2.2.2 (m_wV kX3_divide (by decide +kernel)) rfl rfl rfl (by decide +kernel) ⟨by decide +kernel, by decide +kernel⟩) (m_preV hK hP (m_is_s k250) rfl) rfl rfl hl.1 rfl (lv_room (by first | decide | simp [m_rfc, m_catI, m_catL, m_catA])) dL_law_583 ⟨by show _ ≤ 601024; omega, by show _ ≤ 7293000; omega⟩) hS (fun H locs hP hS => ?_)
        refine lv_lstore (i := 6) (lv' := [(6, .long l247), (5, .int x234), (4, .int q4), (3, .ref q3), (2, .ref q2), (1, .ref q1), (0, .ref bs)]) S.1 S.2.1 dL_law_586 hl (by decide) (by first | rfl | simp [m_rfc, m_catI, m_catL, m_catA]) (fun ls hl => ?_)
        refine lv_aload_n S.1 S.2.1 dL_law_588 rfl (lv_at hl 4 rfl) ?_
        obtain ⟨_, k254, h⟩ := m_bs h
        obtain ⟨x251, s252, e253, h⟩ := m_b_s h
        refine m_calli (va_runV (As := []) (rest := []) S (c_X3_thrown l D tc b q2 _ _ _ e253) (cwV 0 S.2.2.2.2 (m_wV kX3_thrown (by decide +kernel)) rfl rfl rfl (by decide +kernel) ⟨by decide +kernel, by decide +kernel⟩) (m_preV hK hP (m_is_s k254) rfl) rfl rfl hl.1 rfl (lv_room (by first | decide | simp [m_rfc, m_catI, m_catL, m_catA])) dL_law_589 ⟨by show _ ≤ 601024; omega, by show _ ≤ 7293000; omega⟩) hS (fun H locs hP hS => ?_)
        refine lv_iload S.1 S.2.1 dL_law_592 (lv_at hl 1 rfl) ?_
        refine lv_icmp_eq (tgt := 599) S.1 S.2.1 dL_law_594 (by decide) (fun c255 => ?_) (fun c255 => ?_)
        · replace h := m_t c255 h
          refine lv_iload S.1 S.2.1 dL_law_599 (lv_at hl 1 rfl) ?_
          refine lv_if_ne (tgt := 615) S.1 S.2.1 dL_law_601 (by decide) (fun c256 => ?_) (fun c256 => ?_)
          · replace h := m_f c256 h
            refine lv_goto (tgt := 674) S.1 S.2.1 dL_law_615 (by decide) ?_
            refine lv_iinc (v := q4 + 6) (lv' := [(4, .int (q4 + 6)), (6, .long l247), (5, .int x234), (3, .ref q3), (2, .ref q2), (1, .ref q1), (0, .ref bs)]) S.1 S.2.1 dL_law_674 hl (k := 2) rfl rfl (by decide) (by first | rfl | simp [m_rfc, m_catI, m_catL, m_catA]) (fun ls hl => ?_)
            refine lv_goto (tgt := 33) S.1 S.2.1 dL_law_677 (by decide) ?_
            exact ih (q4 + 6) q3 q2 q1 _ _ _ h rfl _ _ (by omega) (by omega) _ _ _ hP hS (lv_sub hl [0, 3, 4, 5, 6] rfl)
          · replace h := m_t c256 h
            refine lv_aload_n S.1 S.2.1 dL_law_604 rfl (lv_at hl 3 rfl) ?_
            refine lv_iconst (v := 0) S.1 S.2.1 dL_law_605 (by decide) ?_
            obtain ⟨l257, e258, h⟩ := m_bs h
            refine m_lald (t := 8) S hK hP (m_aL_s e258) rfl dL_law_606 ?_
            refine lv_lload S.1 S.2.1 dL_law_607 (lv_at hl 0 rfl) ?_
            refine W.lcmp S.1 S.2.1 dL_law_609 ?_
            refine lv_if_eq (tgt := 615) S.1 S.2.1 dL_law_610 (by decide) (fun c259 => ?_) (fun c259 => ?_)
            · replace h := m_t c259 h
              refine lv_goto (tgt := 674) S.1 S.2.1 dL_law_615 (by decide) ?_
              refine lv_iinc (v := q4 + 6) (lv' := [(4, .int (q4 + 6)), (6, .long l247), (5, .int x234), (3, .ref q3), (2, .ref q2), (1, .ref q1), (0, .ref bs)]) S.1 S.2.1 dL_law_674 hl (k := 2) rfl rfl (by decide) (by first | rfl | simp [m_rfc, m_catI, m_catL, m_catA]) (fun ls hl => ?_)
              refine lv_goto (tgt := 33) S.1 S.2.1 dL_law_677 (by decide) ?_
              exact ih (q4 + 6) q3 q2 q1 _ _ _ h rfl _ _ (by omega) (by omega) _ _ _ hP hS (lv_sub hl [0, 3, 4, 5, 6] rfl)
            · replace h := m_f c259 h
              refine lv_iconst (v := 0) S.1 S.2.1 dL_law_613 (by decide) ?_
              exact absurd (m_fin h).1 (by decide)
        · replace h := m_f c255 h
          refine lv_iconst (v := 0) S.1 S.2.1 dL_law_597 (by decide) ?_
          exact absurd (m_fin h).1 (by decide)
      replace h := m_f c223 h
      by_cases c260 : (x21 &&& 15) = 11
      · replace h := m_t c260 h
        refine lv_tableIn (tgt := 618) S.1 S.2.1 dL_law_50 (by rw [c260]; decide) (by rw [c260]; decide) (by rw [c260]; rfl) (by decide) ?_
        refine lv_aload_n S.1 S.2.1 dL_law_618 rfl (lv_at hl 3 rfl) ?_
        refine lv_aload_n S.1 S.2.1 dL_law_619 rfl (lv_at hl 4 rfl) ?_
        refine lv_iload S.1 S.2.1 dL_law_620 (lv_at hl 0 rfl) ?_
        refine lv_iconst (v := 1) S.1 S.2.1 dL_law_622 (by decide) ?_
        refine lv_iadd S.1 S.2.1 dL_law_623 ?_
        obtain ⟨x261, e262, h⟩ := m_bs h
        refine m_sld S.1 S.2.1 hX hbl hbA hS e262 dL_law_624 ?_
        refine lv_aload_n S.1 S.2.1 dL_law_625 rfl (lv_at hl 1 rfl) ?_
        obtain ⟨x263, s264, e265, h⟩ := m_b_s h
        refine m_calli (m_runSW (n := 3) (As := [va_rf (some q1), .int x261, va_rf (some q3)]) (rest := []) S (c_L_handle l hfl D tc b (some q1) x261 (some q3) _ _ _ e265) (by decide +kernel) (by decide +kernel) rfl rfl ⟨by decide +kernel, by decide +kernel⟩ (pay_in S.2.2.2.2 (m_wI kL_handle)) List.mem_cons_self (S.2.2.2.2 (.methodLink RL 87 yL_handle) (m_mem (by decide +kernel))) (S.2.2.2.2 (.static yL_handle) (m_mem (by decide +kernel))) (S.2.2.2.2 (.initialized RL) (m_mem (by decide +kernel))) (m_preSE hK hP hE hS) rfl rfl hl.1 rfl (lv_room (by first | decide | simp [m_rfc, m_catI, m_catL, m_catA])) dL_law_626 ⟨by show _ ≤ 601024; omega, by show _ ≤ 7293000; omega⟩) hS (fun H locs hP hS => ?_)
        refine lv_istore (i := 5) (lv' := [(5, .int x263), (4, .int q4), (3, .ref q3), (2, .ref q2), (1, .ref q1), (0, .ref bs)]) S.1 S.2.1 dL_law_629 hl (by decide) (by first | rfl | simp [m_rfc, m_catI, m_catL, m_catA]) (fun ls hl => ?_)
        refine lv_aload_n S.1 S.2.1 dL_law_631 rfl (lv_at hl 3 rfl) ?_
        refine lv_aload_n S.1 S.2.1 dL_law_632 rfl (lv_at hl 5 rfl) ?_
        refine lv_iload S.1 S.2.1 dL_law_633 (lv_at hl 1 rfl) ?_
        refine lv_iconst (v := 1) S.1 S.2.1 dL_law_635 (by decide) ?_
        refine lv_iadd S.1 S.2.1 dL_law_636 ?_
        obtain ⟨x266, e267, h⟩ := m_bs h
        refine m_sld S.1 S.2.1 hX hbl hbA hS e267 dL_law_637 ?_
        obtain ⟨_, k271, h⟩ := m_bs h
        obtain ⟨x268, s269, e270, h⟩ := m_b_s h
        refine m_calli (va_runV (As := [.int x266]) (rest := []) S (c_X3_handle l D tc b q2 x266 _ _ _ e270) (cwV 1 S.2.2.2.2 (m_wV kX3_handle (by decide +kernel)) rfl rfl rfl (by decide +kernel) ⟨by decide +kernel, by decide +kernel⟩) (m_preV hK hP (m_is_s k271) rfl) rfl rfl hl.1 rfl (lv_room (by first | decide | simp [m_rfc, m_catI, m_catL, m_catA])) dL_law_638 ⟨by show _ ≤ 601024; omega, by show _ ≤ 7293000; omega⟩) hS (fun H locs hP hS => ?_)
        refine lv_istore (i := 6) (lv' := [(6, .int x268), (5, .int x263), (4, .int q4), (3, .ref q3), (2, .ref q2), (1, .ref q1), (0, .ref bs)]) S.1 S.2.1 dL_law_641 hl (by decide) (by first | rfl | simp [m_rfc, m_catI, m_catL, m_catA]) (fun ls hl => ?_)
        refine lv_aload_n S.1 S.2.1 dL_law_643 rfl (lv_at hl 4 rfl) ?_
        obtain ⟨_, k275, h⟩ := m_bs h
        obtain ⟨x272, s273, e274, h⟩ := m_b_s h
        refine m_calli (va_runV (As := []) (rest := []) S (c_X3_thrown l D tc b q2 _ _ _ e274) (cwV 0 S.2.2.2.2 (m_wV kX3_thrown (by decide +kernel)) rfl rfl rfl (by decide +kernel) ⟨by decide +kernel, by decide +kernel⟩) (m_preV hK hP (m_is_s k275) rfl) rfl rfl hl.1 rfl (lv_room (by first | decide | simp [m_rfc, m_catI, m_catL, m_catA])) dL_law_644 ⟨by show _ ≤ 601024; omega, by show _ ≤ 7293000; omega⟩) hS (fun H locs hP hS => ?_)
        refine lv_iload S.1 S.2.1 dL_law_647 (lv_at hl 1 rfl) ?_
        refine lv_icmp_eq (tgt := 654) S.1 S.2.1 dL_law_649 (by decide) (fun c276 => ?_) (fun c276 => ?_)
        · replace h := m_t c276 h
          refine lv_iload S.1 S.2.1 dL_law_654 (lv_at hl 1 rfl) ?_
          refine lv_if_ne (tgt := 671) S.1 S.2.1 dL_law_656 (by decide) (fun c277 => ?_) (fun c277 => ?_)
          · replace h := m_f c277 h
            refine lv_goto (tgt := 674) S.1 S.2.1 dL_law_671 (by decide) ?_
            refine lv_iinc (v := q4 + 6) (lv' := [(4, .int (q4 + 6)), (6, .int x268), (5, .int x263), (3, .ref q3), (2, .ref q2), (1, .ref q1), (0, .ref bs)]) S.1 S.2.1 dL_law_674 hl (k := 2) rfl rfl (by decide) (by first | rfl | simp [m_rfc, m_catI, m_catL, m_catA]) (fun ls hl => ?_)
            refine lv_goto (tgt := 33) S.1 S.2.1 dL_law_677 (by decide) ?_
            exact ih (q4 + 6) q3 q2 q1 _ _ _ h rfl _ _ (by omega) (by omega) _ _ _ hP hS (lv_sub hl [0, 3, 4, 5, 6] rfl)
          · replace h := m_t c277 h
            refine lv_aload_n S.1 S.2.1 dL_law_659 rfl (lv_at hl 3 rfl) ?_
            refine lv_iconst (v := 0) S.1 S.2.1 dL_law_660 (by decide) ?_
            obtain ⟨l278, e279, h⟩ := m_bs h
            refine m_lald (t := 8) S hK hP (m_aL_s e279) rfl dL_law_661 ?_
            refine lv_iload S.1 S.2.1 dL_law_662 (lv_at hl 0 rfl) ?_
            refine lv_i2l S.1 S.2.1 dL_law_664 rfl ?_
            refine W.lcmp S.1 S.2.1 dL_law_665 ?_
            refine lv_if_eq (tgt := 671) S.1 S.2.1 dL_law_666 (by decide) (fun c280 => ?_) (fun c280 => ?_)
            · replace h := m_t c280 h
              refine lv_goto (tgt := 674) S.1 S.2.1 dL_law_671 (by decide) ?_
              refine lv_iinc (v := q4 + 6) (lv' := [(4, .int (q4 + 6)), (6, .int x268), (5, .int x263), (3, .ref q3), (2, .ref q2), (1, .ref q1), (0, .ref bs)]) S.1 S.2.1 dL_law_674 hl (k := 2) rfl rfl (by decide) (by first | rfl | simp [m_rfc, m_catI, m_catL, m_catA]) (fun ls hl => ?_)
              refine lv_goto (tgt := 33) S.1 S.2.1 dL_law_677 (by decide) ?_
              exact ih (q4 + 6) q3 q2 q1 _ _ _ h rfl _ _ (by omega) (by omega) _ _ _ hP hS (lv_sub hl [0, 3, 4, 5, 6] rfl)
            · replace h := m_f c280 h
              refine lv_iconst (v := 0) S.1 S.2.1 dL_law_669 (by decide) ?_
              exact absurd (m_fin h).1 (by decide)
        · replace h := m_f c276 h
          refine lv_iconst (v := 0) S.1 S.2.1 dL_law_652 (by decide) ?_
          exact absurd (m_fin h).1 (by decide)
      replace h := m_f c260 h
      have nc260 := (⟨lv_neT (a := 0) c23 (by decide), lv_neT (a := 1) c73 (by decide), lv_neT (a := 2) c87 (by decide), lv_neT (a := 3) c109 (by decide), lv_neT (a := 4) c123 (by decide), lv_neT (a := 5) c137 (by decide), lv_neT (a := 6) c155 (by decide), lv_neT (a := 7) c173 (by decide), lv_neT (a := 8) c191 (by decide), lv_neT (a := 9) c205 (by decide), lv_neT (a := 10) c223 (by decide), lv_neT (a := 11) c260 (by decide)⟩ : ¬ ((x21 &&& 15)).toInt = 0 ∧ ¬ ((x21 &&& 15)).toInt = 1 ∧ ¬ ((x21 &&& 15)).toInt = 2 ∧ ¬ ((x21 &&& 15)).toInt = 3 ∧ ¬ ((x21 &&& 15)).toInt = 4 ∧ ¬ ((x21 &&& 15)).toInt = 5 ∧ ¬ ((x21 &&& 15)).toInt = 6 ∧ ¬ ((x21 &&& 15)).toInt = 7 ∧ ¬ ((x21 &&& 15)).toInt = 8 ∧ ¬ ((x21 &&& 15)).toInt = 9 ∧ ¬ ((x21 &&& 15)).toInt = 10 ∧ ¬ ((x21 &&& 15)).toInt = 11)
      refine lv_tableOut (tgt := 674) S.1 S.2.1 dL_law_50 (by omega) (by decide) ?_
      refine lv_iinc (v := q4 + 6) (lv' := [(4, .int (q4 + 6)), (3, .ref q3), (2, .ref q2), (1, .ref q1), (0, .ref bs)]) S.1 S.2.1 dL_law_674 hl (k := 0) rfl rfl (by decide) (by first | rfl | simp [m_rfc, m_catI, m_catL, m_catA]) (fun ls hl => ?_)
      refine lv_goto (tgt := 33) S.1 S.2.1 dL_law_677 (by decide) ?_
      exact ih (q4 + 6) q3 q2 q1 _ _ _ h rfl _ _ (by omega) (by omega) _ _ _ hP hS (lv_sub hl [0, 1, 2, 3, 4] rfl)
set_option maxHeartbeats 8000000 in
set_option maxRecDepth 100000 in
theorem w_L_law {p : Program} {l : Launch} (hfl : l.stackTraces = false) {e : Env} {s : State} {m : MethodId} {below : List Frame} {meth : Method} {c : Code} {w0 : Cond} {bs L b : Nat} {xs : Nat → Int32} (D : va_G) (tc : Nat → ClassId) (S : CallFix p m c code 8 s #[Value.ref bs] (w0 :: m_tbl) RL) (hr : meth.sig.returnType = ret) (hlk : meth.locks = false) (hK : va_K D vwCl (m_tys tc) s) (hX : va_X bs L xs s s.heap) (hbl : bs < s.heap.size) (hbA : ¬ m_A b bs) (hbs : s.heap.size = b) (hE : m_E b s) (s0 st' : MS) (h : f_L_law L xs s0 = some (1, st')) (ls : Array Slot) (hP : mw D vwCl (m_tys tc) b s0 s.heap) (hl : lv_has ls 8 [(0, .ref bs)]) : W p l e room_1 s m #[Value.ref bs] below meth c s.heap [] 0 0 (lw_Z below #[Value.ref bs] s) (F0 m 0 ls []) := by
  have hS : va_S (m_A b) s.heap s.heap [] := va_S.rf
  unfold f_L_law at h
  obtain ⟨a1, s2, e3, h⟩ := m_nw_s h
  refine m_new (ci := 0) S (inX0 _) tyX0 tX0 (S.2.2.2.2 (.classLink RL 8 RX0) (m_mem (by decide +kernel))) (S.2.2.2.2 (.instantiable RX0 10) (m_mem (by decide +kernel))) (S.2.2.2.2 (.initialized RX0) (m_mem (by decide +kernel))) hK hP hS rfl e3 (by show _ ≤ 601024; omega) (by show _ ≤ 7293000; omega) dL_law_0 (fun H hP hS => ?_)
  refine lv_dup S.1 S.2.1 dL_law_3 rfl ?_
  refine lv_aload_n S.1 S.2.1 dL_law_4 rfl (lv_at hl 0 rfl) ?_
  refine lv_iconst (v := 0) S.1 S.2.1 dL_law_5 (by decide) ?_
  obtain ⟨x4, e5, h⟩ := m_bs h
  refine m_lcell S hX hbl hbA hS e5 hl.1 (by first | decide | simp [m_rfc, m_catI, m_catL, m_catA]) (by omega) (by omega) dL_law_6 ?_
  obtain ⟨u6, s7, e8, h⟩ := m_b_s h
  refine m_callv (va_runI (As := [.int x4]) (rest := [.ref a1]) S (c_X0_init l D tc b a1 x4 _ _ _ e8) (cwI 1 S.2.2.2.2 (m_wI kX0_init) rfl rfl rfl (S.2.2.2.2 (.initialized RX0) (m_mem (by decide +kernel))) (S.2.2.2.2 (.methodLink RL 27 yX0_init) (m_mem (by decide +kernel))) (S.2.2.2.2 (.instanceMethod yX0_init) (m_mem (by decide +kernel))) rfl (by decide +kernel) ⟨by decide +kernel, by decide +kernel⟩) (m_preSE hK hP hE hS) rfl rfl hl.1 rfl (lv_room (by first | decide | simp [m_rfc, m_catI, m_catL, m_catA])) dL_law_9 ⟨by show _ ≤ 601024; omega, by show _ ≤ 7293000; omega⟩) hS (fun H locs hP hS => ?_)
  refine lv_astore_n (i := 1) (lv' := [(1, .ref a1), (0, .ref bs)]) S.1 S.2.1 dL_law_12 rfl hl (by decide) (by first | rfl | simp [m_rfc, m_catI, m_catL, m_catA]) (fun ls hl => ?_)
  obtain ⟨a9, s10, e11, h⟩ := m_nw_s h
  refine m_new (ci := 3) S (inX3 _) tyX3 tX3 (S.2.2.2.2 (.classLink RL 30 RX3) (m_mem (by decide +kernel))) (S.2.2.2.2 (.instantiable RX3 25) (m_mem (by decide +kernel))) (S.2.2.2.2 (.initialized RX3) (m_mem (by decide +kernel))) hK hP hS rfl e11 (by show _ ≤ 601024; omega) (by show _ ≤ 7293000; omega) dL_law_13 (fun H hP hS => ?_)
  refine lv_dup S.1 S.2.1 dL_law_16 rfl ?_
  refine lv_aload_n S.1 S.2.1 dL_law_17 rfl (lv_at hl 1 rfl) ?_
  refine lv_iconst (v := 0) S.1 S.2.1 dL_law_18 (by decide) ?_
  obtain ⟨x12, e13, h⟩ := m_bs h
  refine m_lcell S hX hbl hbA hS e13 hl.1 (by first | decide | simp [m_rfc, m_catI, m_catL, m_catA]) (by omega) (by omega) dL_law_19 ?_
  obtain ⟨u14, s15, e16, h⟩ := m_b_s h
  refine m_callv (va_runI (As := [.int x12]) (rest := [.ref a9]) S (c_X3_init l D tc b a9 x12 _ _ _ e16) (cwI 1 S.2.2.2.2 (m_wI kX3_init) rfl rfl rfl (S.2.2.2.2 (.initialized RX3) (m_mem (by decide +kernel))) (S.2.2.2.2 (.methodLink RL 32 yX3_init) (m_mem (by decide +kernel))) (S.2.2.2.2 (.instanceMethod yX3_init) (m_mem (by decide +kernel))) rfl (by decide +kernel) ⟨by decide +kernel, by decide +kernel⟩) (m_preS hK hP) rfl rfl hl.1 rfl (lv_room (by first | decide | simp [m_rfc, m_catI, m_catL, m_catA])) dL_law_22 ⟨by show _ ≤ 601024; omega, by show _ ≤ 7293000; omega⟩) hS (fun H locs hP hS => ?_)
  refine lv_astore_n (i := 2) (lv' := [(2, .ref a9), (1, .ref a1), (0, .ref bs)]) S.1 S.2.1 dL_law_25 rfl hl (by decide) (by first | rfl | simp [m_rfc, m_catI, m_catL, m_catA]) (fun ls hl => ?_)
  refine lv_iconst (v := 1) S.1 S.2.1 dL_law_26 (by decide) ?_
  obtain ⟨a17, s18, e19, h⟩ := m_nw_s h
  refine m_newa (t := 8) (N := 1) (i := 1) (atype := .long) (ty := .long) (cA := tc 8) S (S.2.2.2.2 (.arrayClass .long) (m_mem (by decide +kernel))) rfl hK hP hS rfl (by decide +kernel) (by decide +kernel) (by decide +kernel) (by decide +kernel) (by decide +kernel) e19 dL_law_27 (fun H hP hS => ?_)
  refine lv_astore_n (i := 3) (lv' := [(3, .ref a17), (2, .ref a9), (1, .ref a1), (0, .ref bs)]) S.1 S.2.1 dL_law_29 rfl hl (by decide) (by first | rfl | simp [m_rfc, m_catI, m_catL, m_catA]) (fun ls hl => ?_)
  refine lv_iconst (v := 1) S.1 S.2.1 dL_law_30 (by decide) ?_
  refine lv_istore (i := 4) (lv' := [(4, .int 1), (3, .ref a17), (2, .ref a9), (1, .ref a1), (0, .ref bs)]) S.1 S.2.1 dL_law_31 hl (by decide) (by first | rfl | simp [m_rfc, m_catI, m_catL, m_catA]) (fun ls hl => ?_)
  exact w_L_law_L33 hfl D tc S hr hlk hK hX hbl hbA hbs hE 513 1 a17 a9 a1 _ _ _ h rfl _ _ (by omega) (by omega) _ _ _ hP hS (lv_sub hl [0, 1, 2, 3, 4] rfl)
