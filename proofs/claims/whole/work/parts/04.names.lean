/-! ===== the words that every method's contract takes: the tables' good ones ===== -/
def m_tbl : List Cond := lw_tbl.filter goodWord
theorem m_in {w : Cond} (h : (decide (w ∈ lw_tbl) && goodWord w) = true) : w ∈ m_tbl := by
  rw [Bool.and_eq_true, decide_eq_true_eq] at h
  exact List.mem_filter.mpr h
theorem m_mem {w0 w : Cond} (h : (decide (w ∈ lw_tbl) && goodWord w) = true) : w ∈ w0 :: m_tbl := List.mem_cons_of_mem _ (m_in h)
theorem m_sub {w0 : Cond} {ws : List Cond} (h : ws.all (fun w => decide (w ∈ lw_tbl) && goodWord w) = true) : ∀ w ∈ ws, w ∈ w0 :: m_tbl := fun w hw => m_mem (List.all_eq_true.mp h w hw)
theorem m_gd {w0 : Cond} {ws : List Cond} (h : ws.all (fun w => decide (w ∈ lw_tbl) && goodWord w) = true) : GoodIn (w0 :: m_tbl) ws := fun w hw => by
  have h1 := List.all_eq_true.mp h w hw
  refine ⟨m_mem h1, good_of_word ?_⟩
  rw [Bool.and_eq_true] at h1
  exact h1.2
theorem m_gt {w0 : Cond} : GoodIn (w0 :: m_tbl) m_tbl := fun w hw => ⟨List.mem_cons_of_mem _ hw, good_of_word (List.mem_filter.mp hw).2⟩
theorem m_ga {big a b : List Cond} (ha : GoodIn big a) (hb : GoodIn big b) : GoodIn big (a ++ b) := fun w h => (List.mem_append.mp h).elim (ha w) (hb w)
theorem m_wI {w0 cw : Cond} (h : [cw].all (fun w => decide (w ∈ lw_tbl) && goodWord w) = true) : GoodIn (w0 :: m_tbl) (cw :: m_tbl) := m_ga (a := [cw]) (m_gd h) m_gt
theorem m_wV {w0 cw : Cond} {own C : String} {idx : Nat} {y : MethodName} (h : [cw].all (fun w => decide (w ∈ lw_tbl) && goodWord w) = true) (h2 : ([.methodLink own idx y, .instanceMethod y, .selects C y y, .initialized C] : List Cond).all (fun w => decide (w ∈ lw_tbl) && goodWord w) = true) : GoodIn (w0 :: m_tbl) (wsV own idx C y (cw :: m_tbl)) := m_ga (m_gd h2) (m_wI h)
theorem m_wS {w0 cw : Cond} {own : String} {idx : Nat} {y : MethodName} (h : [cw].all (fun w => decide (w ∈ lw_tbl) && goodWord w) = true) (h2 : ([.methodLink own idx y, .static y, .initialized own] : List Cond).all (fun w => decide (w ∈ lw_tbl) && goodWord w) = true) : GoodIn (w0 :: m_tbl) (wsS own idx y (cw :: m_tbl)) := m_ga (m_gd h2) (m_wI h)
def RX0 : String := "RuleHouse2"
def TX0 : u_T := fun k => match k with
  | 0 => ("RuleHouse2", "stepsAllowed", "I", true)
  | 1 => ("RuleHouse2", "classOfRule", "[LRuleHouse2$RuleClass;", true)
  | 2 => ("RuleHouse2", "ruleCount", "I", false)
  | 3 => ("RuleHouse2", "madeCount", "I", false)
  | 4 => ("RuleHouse2", "targets", "[LRuleHouse2$Target;", true)
  | 5 => ("RuleHouse2", "targetCount", "I", false)
  | 6 => ("RuleHouse2", "actionTarget", "[I", true)
  | 7 => ("RuleHouse2", "actionNumber", "[I", true)
  | 8 => ("RuleHouse2", "actionCount", "I", false)
  | _ => ("RuleHouse2", "handleCount", "I", false)
def tyX0 : Nat → FieldType := fun k => match k with
  | 0 => .int
  | 1 => (.array (.object "RuleHouse2$RuleClass"))
  | 2 => .int
  | 3 => .int
  | 4 => (.array (.object "RuleHouse2$Target"))
  | 5 => .int
  | 6 => (.array .int)
  | 7 => (.array .int)
  | 8 => .int
  | _ => .int
theorem nX0 : ∀ a, a < 10 → ∀ b, b < 10 → a ≠ b → (TX0 a).2.1 ≠ (TX0 b).2.1 := by decide +kernel
theorem tX0 : ∀ k, k < 10 → parseFieldDescriptor (TX0 k).2.2.1 = some (tyX0 k) := by decide +kernel
theorem inX0 (w0 : Cond) : ∀ w ∈ u_ws RX0 TX0 10, w ∈ w0 :: m_tbl := m_sub (by decide +kernel)
def RX1 : String := "RuleHouse2$RuleClass"
def TX1 : u_T := fun k => match k with
  | 0 => ("RuleHouse2$RuleClass", "edition", "I", true)
  | 1 => ("RuleHouse2$RuleClass", "does", "I", true)
  | 2 => ("RuleHouse2$RuleClass", "startFails", "Z", true)
  | 3 => ("RuleHouse2$RuleClass", "made", "Z", false)
  | 4 => ("RuleHouse2$RuleClass", "number", "I", false)
  | _ => ("RuleHouse2$RuleClass", "cell", "J", false)
def tyX1 : Nat → FieldType := fun k => match k with
  | 0 => .int
  | 1 => .int
  | 2 => .boolean
  | 3 => .boolean
  | 4 => .int
  | _ => .long
theorem nX1 : ∀ a, a < 6 → ∀ b, b < 6 → a ≠ b → (TX1 a).2.1 ≠ (TX1 b).2.1 := by decide +kernel
theorem tX1 : ∀ k, k < 6 → parseFieldDescriptor (TX1 k).2.2.1 = some (tyX1 k) := by decide +kernel
theorem inX1 (w0 : Cond) : ∀ w ∈ u_ws RX1 TX1 6, w ∈ w0 :: m_tbl := m_sub (by decide +kernel)
def RX2 : String := "RuleHouse2$Target"
def TX2 : u_T := fun k => match k with
  | 0 => ("RuleHouse2$Target", "number", "I", true)
  | 1 => ("RuleHouse2$Target", "ruleClass", "LRuleHouse2$RuleClass;", true)
  | 2 => ("RuleHouse2$Target", "attributes", "[I", true)
  | 3 => ("RuleHouse2$Target", "providers", "[I", true)
  | 4 => ("RuleHouse2$Target", "has", "[Z", true)
  | 5 => ("RuleHouse2$Target", "wasRun", "Z", false)
  | 6 => ("RuleHouse2$Target", "outputDeclared", "Z", false)
  | 7 => ("RuleHouse2$Target", "steps", "I", false)
  | 8 => ("RuleHouse2$Target", "actions", "I", false)
  | 9 => ("RuleHouse2$Target", "failure", "I", false)
  | 10 => ("RuleHouse2$Target", "failedBit", "I", false)
  | _ => ("RuleHouse2$Target", "failureBegan", "I", false)
def tyX2 : Nat → FieldType := fun k => match k with
  | 0 => .int
  | 1 => (.object "RuleHouse2$RuleClass")
  | 2 => (.array .int)
  | 3 => (.array .int)
  | 4 => (.array .boolean)
  | 5 => .boolean
  | 6 => .boolean
  | 7 => .int
  | 8 => .int
  | 9 => .int
  | 10 => .int
  | _ => .int
theorem nX2 : ∀ a, a < 12 → ∀ b, b < 12 → a ≠ b → (TX2 a).2.1 ≠ (TX2 b).2.1 := by decide +kernel
theorem tX2 : ∀ k, k < 12 → parseFieldDescriptor (TX2 k).2.2.1 = some (tyX2 k) := by decide +kernel
theorem inX2 (w0 : Cond) : ∀ w ∈ u_ws RX2 TX2 12, w ∈ w0 :: m_tbl := m_sub (by decide +kernel)
def RX3 : String := "RuleHouse2Model"
def TX3 : u_T := fun k => match k with
  | 0 => ("RuleHouse2Model", "code", "I", false)
  | 1 => ("RuleHouse2Model", "most", "I", true)
  | 2 => ("RuleHouse2Model", "rules", "I", false)
  | 3 => ("RuleHouse2Model", "classes", "I", false)
  | 4 => ("RuleHouse2Model", "targets", "I", false)
  | 5 => ("RuleHouse2Model", "actions", "I", false)
  | 6 => ("RuleHouse2Model", "handles", "I", false)
  | 7 => ("RuleHouse2Model", "edition", "[I", true)
  | 8 => ("RuleHouse2Model", "does", "[I", true)
  | 9 => ("RuleHouse2Model", "made", "[I", true)
  | 10 => ("RuleHouse2Model", "fails", "[Z", true)
  | 11 => ("RuleHouse2Model", "cell", "[J", true)
  | 12 => ("RuleHouse2Model", "rule", "[I", true)
  | 13 => ("RuleHouse2Model", "attributes", "[I", true)
  | 14 => ("RuleHouse2Model", "failure", "[I", true)
  | 15 => ("RuleHouse2Model", "bit", "[I", true)
  | 16 => ("RuleHouse2Model", "began", "[I", true)
  | 17 => ("RuleHouse2Model", "mine", "[I", true)
  | 18 => ("RuleHouse2Model", "steps", "[I", true)
  | 19 => ("RuleHouse2Model", "chain", "[I", true)
  | 20 => ("RuleHouse2Model", "provider", "[I", true)
  | 21 => ("RuleHouse2Model", "run", "[Z", true)
  | 22 => ("RuleHouse2Model", "has", "[Z", true)
  | 23 => ("RuleHouse2Model", "of", "[I", true)
  | _ => ("RuleHouse2Model", "number", "[I", true)
def tyX3 : Nat → FieldType := fun k => match k with
  | 0 => .int
  | 1 => .int
  | 2 => .int
  | 3 => .int
  | 4 => .int
  | 5 => .int
  | 6 => .int
  | 7 => (.array .int)
  | 8 => (.array .int)
  | 9 => (.array .int)
  | 10 => (.array .boolean)
  | 11 => (.array .long)
  | 12 => (.array .int)
  | 13 => (.array .int)
  | 14 => (.array .int)
  | 15 => (.array .int)
  | 16 => (.array .int)
  | 17 => (.array .int)
  | 18 => (.array .int)
  | 19 => (.array .int)
  | 20 => (.array .int)
  | 21 => (.array .boolean)
  | 22 => (.array .boolean)
  | 23 => (.array .int)
  | _ => (.array .int)
theorem nX3 : ∀ a, a < 25 → ∀ b, b < 25 → a ≠ b → (TX3 a).2.1 ≠ (TX3 b).2.1 := by decide +kernel
theorem tX3 : ∀ k, k < 25 → parseFieldDescriptor (TX3 k).2.2.1 = some (tyX3 k) := by decide +kernel
theorem inX3 (w0 : Cond) : ∀ w ∈ u_ws RX3 TX3 25, w ∈ w0 :: m_tbl := m_sub (by decide +kernel)
def RL : String := "RuleHouse2Law"
abbrev vwCl : List vw_C := [(RX0, TX0, 10), (RX1, TX1, 6), (RX2, TX2, 12), (RX3, TX3, 25)]
def m_tys (tc : Nat → ClassId) : List (ClassId × FieldType) := [(tc 0, .int), (tc 1, .int), (tc 2, .boolean), (tc 3, (.object "RuleHouse2$RuleClass")), (tc 4, (.object "RuleHouse2$Target")), (tc 5, .int), (tc 6, .boolean), (tc 7, .long), (tc 8, .long)]
abbrev cX0_init : ByteArray := prog_1_method_1_code
def yX0_init : MethodName := ⟨RX0, "<init>", "(I)V"⟩
abbrev wX0_init : Cond := .code yX0_init cX0_init 2 none
abbrev wsX0_init : List Cond := wX0_init :: m_tbl
theorem kX0_init : [wX0_init].all (fun w => decide (w ∈ lw_tbl) && goodWord w) = true := by decide +kernel
abbrev cX0_rule : ByteArray := prog_1_method_2_code
def yX0_rule : MethodName := ⟨RX0, "rule", "(IIZ)I"⟩
abbrev wX0_rule : Cond := .code yX0_rule cX0_rule 5 (some .int)
abbrev wsX0_rule : List Cond := wX0_rule :: m_tbl
theorem kX0_rule : [wX0_rule].all (fun w => decide (w ∈ lw_tbl) && goodWord w) = true := by decide +kernel
abbrev cX0_make : ByteArray := prog_1_method_3_code
def yX0_make : MethodName := ⟨RX0, "make", "(I)I"⟩
abbrev wX0_make : Cond := .code yX0_make cX0_make 3 (some .int)
abbrev wsX0_make : List Cond := wX0_make :: m_tbl
theorem kX0_make : [wX0_make].all (fun w => decide (w ∈ lw_tbl) && goodWord w) = true := by decide +kernel
abbrev cX0_attribute : ByteArray := prog_1_method_4_code
def yX0_attribute : MethodName := ⟨RX0, "attribute", "(III)I"⟩
abbrev wX0_attribute : Cond := .code yX0_attribute cX0_attribute 6 (some .int)
abbrev wsX0_attribute : List Cond := wX0_attribute :: m_tbl
theorem kX0_attribute : [wX0_attribute].all (fun w => decide (w ∈ lw_tbl) && goodWord w) = true := by decide +kernel
abbrev cX0_target : ByteArray := prog_1_method_5_code
def yX0_target : MethodName := ⟨RX0, "target", "(I)I"⟩
abbrev wX0_target : Cond := .code yX0_target cX0_target 3 (some .int)
abbrev wsX0_target : List Cond := wX0_target :: m_tbl
theorem kX0_target : [wX0_target].all (fun w => decide (w ∈ lw_tbl) && goodWord w) = true := by decide +kernel
abbrev cX0_run : ByteArray := prog_1_method_6_code
def yX0_run : MethodName := ⟨RX0, "run", "(I)I"⟩
abbrev wX0_run : Cond := .code yX0_run cX0_run 3 (some .int)
abbrev wsX0_run : List Cond := wX0_run :: m_tbl
theorem kX0_run : [wX0_run].all (fun w => decide (w ∈ lw_tbl) && goodWord w) = true := by decide +kernel
abbrev cX0_action : ByteArray := prog_1_method_7_code
def yX0_action : MethodName := ⟨RX0, "action", "(II)I"⟩
abbrev wX0_action : Cond := .code yX0_action cX0_action 3 (some .int)
abbrev wsX0_action : List Cond := wX0_action :: m_tbl
theorem kX0_action : [wX0_action].all (fun w => decide (w ∈ lw_tbl) && goodWord w) = true := by decide +kernel
abbrev cX0_provider : ByteArray := prog_1_method_8_code
def yX0_provider : MethodName := ⟨RX0, "provider", "(II)I"⟩
abbrev wX0_provider : Cond := .code yX0_provider cX0_provider 4 (some .int)
abbrev wsX0_provider : List Cond := wX0_provider :: m_tbl
theorem kX0_provider : [wX0_provider].all (fun w => decide (w ∈ lw_tbl) && goodWord w) = true := by decide +kernel
abbrev cX0_failed : ByteArray := prog_1_method_9_code
def yX0_failed : MethodName := ⟨RX0, "failed", "(II)I"⟩
abbrev wX0_failed : Cond := .code yX0_failed cX0_failed 4 (some .int)
abbrev wsX0_failed : List Cond := wX0_failed :: m_tbl
theorem kX0_failed : [wX0_failed].all (fun w => decide (w ∈ lw_tbl) && goodWord w) = true := by decide +kernel
abbrev cX0_cell : ByteArray := prog_1_method_10_code
def yX0_cell : MethodName := ⟨RX0, "cell", "(I)J"⟩
abbrev wX0_cell : Cond := .code yX0_cell cX0_cell 3 (some .long)
abbrev wsX0_cell : List Cond := wX0_cell :: m_tbl
theorem kX0_cell : [wX0_cell].all (fun w => decide (w ∈ lw_tbl) && goodWord w) = true := by decide +kernel
abbrev cX0_same : ByteArray := prog_1_method_11_code
def yX0_same : MethodName := ⟨RX0, "same", "(II)Z"⟩
abbrev wX0_same : Cond := .code yX0_same cX0_same 5 (some .boolean)
abbrev wsX0_same : List Cond := wX0_same :: m_tbl
theorem kX0_same : [wX0_same].all (fun w => decide (w ∈ lw_tbl) && goodWord w) = true := by decide +kernel
abbrev cX0_divide : ByteArray := prog_1_method_12_code
def yX0_divide : MethodName := ⟨RX0, "divide", "(IJJ)J"⟩
abbrev wX0_divide : Cond := .code yX0_divide cX0_divide 7 (some .long)
abbrev wsX0_divide : List Cond := wX0_divide :: m_tbl
theorem kX0_divide : [wX0_divide].all (fun w => decide (w ∈ lw_tbl) && goodWord w) = true := by decide +kernel
abbrev cX0_handle : ByteArray := prog_1_method_13_code
def yX0_handle : MethodName := ⟨RX0, "handle", "(I)I"⟩
abbrev wX0_handle : Cond := .code yX0_handle cX0_handle 2 (some .int)
abbrev wsX0_handle : List Cond := wX0_handle :: m_tbl
theorem kX0_handle : [wX0_handle].all (fun w => decide (w ∈ lw_tbl) && goodWord w) = true := by decide +kernel
abbrev cX0_isWithin : ByteArray := prog_1_method_14_code
def yX0_isWithin : MethodName := ⟨RX0, "isWithin", "(II)Z"⟩
abbrev wX0_isWithin : Cond := .code yX0_isWithin cX0_isWithin 2 (some .boolean)
abbrev wsX0_isWithin : List Cond := wX0_isWithin :: m_tbl
theorem kX0_isWithin : [wX0_isWithin].all (fun w => decide (w ∈ lw_tbl) && goodWord w) = true := by decide +kernel
abbrev cX0_classAt : ByteArray := prog_1_method_15_code
def yX0_classAt : MethodName := ⟨RX0, "classAt", "(I)LRuleHouse2$RuleClass;"⟩
abbrev wX0_classAt : Cond := .code yX0_classAt cX0_classAt 2 (some (.object "RuleHouse2$RuleClass"))
abbrev wsX0_classAt : List Cond := wX0_classAt :: m_tbl
theorem kX0_classAt : [wX0_classAt].all (fun w => decide (w ∈ lw_tbl) && goodWord w) = true := by decide +kernel
abbrev cX0_targetAt : ByteArray := prog_1_method_16_code
def yX0_targetAt : MethodName := ⟨RX0, "targetAt", "(I)LRuleHouse2$Target;"⟩
abbrev wX0_targetAt : Cond := .code yX0_targetAt cX0_targetAt 2 (some (.object "RuleHouse2$Target"))
abbrev wsX0_targetAt : List Cond := wX0_targetAt :: m_tbl
theorem kX0_targetAt : [wX0_targetAt].all (fun w => decide (w ∈ lw_tbl) && goodWord w) = true := by decide +kernel
abbrev cX0_findClass : ByteArray := prog_1_method_17_code
def yX0_findClass : MethodName := ⟨RX0, "findClass", "(II)LRuleHouse2$RuleClass;"⟩
abbrev wX0_findClass : Cond := .code yX0_findClass cX0_findClass 5 (some (.object "RuleHouse2$RuleClass"))
abbrev wsX0_findClass : List Cond := wX0_findClass :: m_tbl
theorem kX0_findClass : [wX0_findClass].all (fun w => decide (w ∈ lw_tbl) && goodWord w) = true := by decide +kernel
abbrev cX0_ensureMade : ByteArray := prog_1_method_18_code
def yX0_ensureMade : MethodName := ⟨RX0, "ensureMade", "(LRuleHouse2$RuleClass;)Z"⟩
abbrev wX0_ensureMade : Cond := .code yX0_ensureMade cX0_ensureMade 2 (some .boolean)
abbrev wsX0_ensureMade : List Cond := wX0_ensureMade :: m_tbl
theorem kX0_ensureMade : [wX0_ensureMade].all (fun w => decide (w ∈ lw_tbl) && goodWord w) = true := by decide +kernel
abbrev cX0_mayBecome : ByteArray := prog_1_method_19_code
def yX0_mayBecome : MethodName := ⟨RX0, "mayBecome", "(LRuleHouse2$Target;II)Z"⟩
abbrev wX0_mayBecome : Cond := .code yX0_mayBecome cX0_mayBecome 3 (some .boolean)
abbrev wsX0_mayBecome : List Cond := wX0_mayBecome :: m_tbl
theorem kX0_mayBecome : [wX0_mayBecome].all (fun w => decide (w ∈ lw_tbl) && goodWord w) = true := by decide +kernel
abbrev cX0_digest : ByteArray := prog_1_method_20_code
def yX0_digest : MethodName := ⟨RX0, "digest", "(II)I"⟩
abbrev wX0_digest : Cond := .code yX0_digest cX0_digest 5 (some .int)
abbrev wsX0_digest : List Cond := wX0_digest :: m_tbl
theorem kX0_digest : [wX0_digest].all (fun w => decide (w ∈ lw_tbl) && goodWord w) = true := by decide +kernel
abbrev cX0_runOnce : ByteArray := prog_1_method_21_code
def yX0_runOnce : MethodName := ⟨RX0, "runOnce", "(LRuleHouse2$Target;I)V"⟩
abbrev wX0_runOnce : Cond := .code yX0_runOnce cX0_runOnce 4 none
abbrev wsX0_runOnce : List Cond := wX0_runOnce :: m_tbl
theorem kX0_runOnce : [wX0_runOnce].all (fun w => decide (w ∈ lw_tbl) && goodWord w) = true := by decide +kernel
abbrev cX0_doBits : ByteArray := prog_1_method_22_code
def yX0_doBits : MethodName := ⟨RX0, "doBits", "(LRuleHouse2$Target;LRuleHouse2$Target;)V"⟩
abbrev wX0_doBits : Cond := .code yX0_doBits cX0_doBits 6 none
abbrev wsX0_doBits : List Cond := wX0_doBits :: m_tbl
theorem kX0_doBits : [wX0_doBits].all (fun w => decide (w ∈ lw_tbl) && goodWord w) = true := by decide +kernel
abbrev cX0_takesStep : ByteArray := prog_1_method_23_code
def yX0_takesStep : MethodName := ⟨RX0, "takesStep", "(LRuleHouse2$Target;)Z"⟩
abbrev wX0_takesStep : Cond := .code yX0_takesStep cX0_takesStep 2 (some .boolean)
abbrev wsX0_takesStep : List Cond := wX0_takesStep :: m_tbl
theorem kX0_takesStep : [wX0_takesStep].all (fun w => decide (w ∈ lw_tbl) && goodWord w) = true := by decide +kernel
abbrev cX0_doBit : ByteArray := prog_1_method_24_code
def yX0_doBit : MethodName := ⟨RX0, "doBit", "(LRuleHouse2$Target;LRuleHouse2$Target;I)I"⟩
abbrev wX0_doBit : Cond := .code yX0_doBit cX0_doBit 4 (some .int)
abbrev wsX0_doBit : List Cond := wX0_doBit :: m_tbl
theorem kX0_doBit : [wX0_doBit].all (fun w => decide (w ∈ lw_tbl) && goodWord w) = true := by decide +kernel
abbrev cX0_declareOutput : ByteArray := prog_1_method_25_code
def yX0_declareOutput : MethodName := ⟨RX0, "declareOutput", "(LRuleHouse2$Target;)I"⟩
abbrev wX0_declareOutput : Cond := .code yX0_declareOutput cX0_declareOutput 1 (some .int)
abbrev wsX0_declareOutput : List Cond := wX0_declareOutput :: m_tbl
theorem kX0_declareOutput : [wX0_declareOutput].all (fun w => decide (w ∈ lw_tbl) && goodWord w) = true := by decide +kernel
abbrev cX0_addActions : ByteArray := prog_1_method_26_code
def yX0_addActions : MethodName := ⟨RX0, "addActions", "(LRuleHouse2$Target;)I"⟩
abbrev wX0_addActions : Cond := .code yX0_addActions cX0_addActions 4 (some .int)
abbrev wsX0_addActions : List Cond := wX0_addActions :: m_tbl
theorem kX0_addActions : [wX0_addActions].all (fun w => decide (w ∈ lw_tbl) && goodWord w) = true := by decide +kernel
abbrev cX0_giveQuotient : ByteArray := prog_1_method_27_code
def yX0_giveQuotient : MethodName := ⟨RX0, "giveQuotient", "(LRuleHouse2$Target;)I"⟩
abbrev wX0_giveQuotient : Cond := .code yX0_giveQuotient cX0_giveQuotient 2 (some .int)
abbrev wsX0_giveQuotient : List Cond := wX0_giveQuotient :: m_tbl
theorem kX0_giveQuotient : [wX0_giveQuotient].all (fun w => decide (w ∈ lw_tbl) && goodWord w) = true := by decide +kernel
abbrev cX0_giveOneMore : ByteArray := prog_1_method_28_code
def yX0_giveOneMore : MethodName := ⟨RX0, "giveOneMore", "(LRuleHouse2$Target;LRuleHouse2$Target;)I"⟩
abbrev wX0_giveOneMore : Cond := .code yX0_giveOneMore cX0_giveOneMore 2 (some .int)
abbrev wsX0_giveOneMore : List Cond := wX0_giveOneMore :: m_tbl
theorem kX0_giveOneMore : [wX0_giveOneMore].all (fun w => decide (w ∈ lw_tbl) && goodWord w) = true := by decide +kernel
abbrev cX0_countInCell : ByteArray := prog_1_method_29_code
def yX0_countInCell : MethodName := ⟨RX0, "countInCell", "(LRuleHouse2$Target;)I"⟩
abbrev wX0_countInCell : Cond := .code yX0_countInCell cX0_countInCell 1 (some .int)
abbrev wsX0_countInCell : List Cond := wX0_countInCell :: m_tbl
theorem kX0_countInCell : [wX0_countInCell].all (fun w => decide (w ∈ lw_tbl) && goodWord w) = true := by decide +kernel
abbrev cX0_giveAmount : ByteArray := prog_1_method_30_code
def yX0_giveAmount : MethodName := ⟨RX0, "giveAmount", "(LRuleHouse2$Target;)I"⟩
abbrev wX0_giveAmount : Cond := .code yX0_giveAmount cX0_giveAmount 2 (some .int)
abbrev wsX0_giveAmount : List Cond := wX0_giveAmount :: m_tbl
theorem kX0_giveAmount : [wX0_giveAmount].all (fun w => decide (w ∈ lw_tbl) && goodWord w) = true := by decide +kernel
abbrev cX0_keepHandle : ByteArray := prog_1_method_31_code
def yX0_keepHandle : MethodName := ⟨RX0, "keepHandle", "()I"⟩
abbrev wX0_keepHandle : Cond := .code yX0_keepHandle cX0_keepHandle 1 (some .int)
abbrev wsX0_keepHandle : List Cond := wX0_keepHandle :: m_tbl
theorem kX0_keepHandle : [wX0_keepHandle].all (fun w => decide (w ∈ lw_tbl) && goodWord w) = true := by decide +kernel
abbrev cX3_init : ByteArray := prog_5_method_1_code
def yX3_init : MethodName := ⟨RX3, "<init>", "(I)V"⟩
abbrev wX3_init : Cond := .code yX3_init cX3_init 2 none
abbrev wsX3_init : List Cond := wX3_init :: m_tbl
theorem kX3_init : [wX3_init].all (fun w => decide (w ∈ lw_tbl) && goodWord w) = true := by decide +kernel
abbrev cX3_thrown : ByteArray := prog_5_method_2_code
def yX3_thrown : MethodName := ⟨RX3, "thrown", "()I"⟩
abbrev wX3_thrown : Cond := .code yX3_thrown cX3_thrown 1 (some .int)
abbrev wsX3_thrown : List Cond := wX3_thrown :: m_tbl
theorem kX3_thrown : [wX3_thrown].all (fun w => decide (w ∈ lw_tbl) && goodWord w) = true := by decide +kernel
abbrev cX3_isRule : ByteArray := prog_5_method_3_code
def yX3_isRule : MethodName := ⟨RX3, "isRule", "(I)Z"⟩
abbrev wX3_isRule : Cond := .code yX3_isRule cX3_isRule 2 (some .boolean)
abbrev wsX3_isRule : List Cond := wX3_isRule :: m_tbl
theorem kX3_isRule : [wX3_isRule].all (fun w => decide (w ∈ lw_tbl) && goodWord w) = true := by decide +kernel
abbrev cX3_isTarget : ByteArray := prog_5_method_4_code
def yX3_isTarget : MethodName := ⟨RX3, "isTarget", "(I)Z"⟩
abbrev wX3_isTarget : Cond := .code yX3_isTarget cX3_isTarget 2 (some .boolean)
abbrev wsX3_isTarget : List Cond := wX3_isTarget :: m_tbl
theorem kX3_isTarget : [wX3_isTarget].all (fun w => decide (w ∈ lw_tbl) && goodWord w) = true := by decide +kernel
abbrev cX3_rule : ByteArray := prog_5_method_5_code
def yX3_rule : MethodName := ⟨RX3, "rule", "(IIZ)I"⟩
abbrev wX3_rule : Cond := .code yX3_rule cX3_rule 4 (some .int)
abbrev wsX3_rule : List Cond := wX3_rule :: m_tbl
theorem kX3_rule : [wX3_rule].all (fun w => decide (w ∈ lw_tbl) && goodWord w) = true := by decide +kernel
abbrev cX3_firstOf : ByteArray := prog_5_method_6_code
def yX3_firstOf : MethodName := ⟨RX3, "firstOf", "(I)I"⟩
abbrev wX3_firstOf : Cond := .code yX3_firstOf cX3_firstOf 3 (some .int)
abbrev wsX3_firstOf : List Cond := wX3_firstOf :: m_tbl
theorem kX3_firstOf : [wX3_firstOf].all (fun w => decide (w ∈ lw_tbl) && goodWord w) = true := by decide +kernel
abbrev cX3_classOf : ByteArray := prog_5_method_7_code
def yX3_classOf : MethodName := ⟨RX3, "classOf", "(I)I"⟩
abbrev wX3_classOf : Cond := .code yX3_classOf cX3_classOf 3 (some .int)
abbrev wsX3_classOf : List Cond := wX3_classOf :: m_tbl
theorem kX3_classOf : [wX3_classOf].all (fun w => decide (w ∈ lw_tbl) && goodWord w) = true := by decide +kernel
abbrev cX3_make : ByteArray := prog_5_method_8_code
def yX3_make : MethodName := ⟨RX3, "make", "(I)I"⟩
abbrev wX3_make : Cond := .code yX3_make cX3_make 2 (some .int)
abbrev wsX3_make : List Cond := wX3_make :: m_tbl
theorem kX3_make : [wX3_make].all (fun w => decide (w ∈ lw_tbl) && goodWord w) = true := by decide +kernel
abbrev cX3_cell : ByteArray := prog_5_method_9_code
def yX3_cell : MethodName := ⟨RX3, "cell", "(I)J"⟩
abbrev wX3_cell : Cond := .code yX3_cell cX3_cell 3 (some .long)
abbrev wsX3_cell : List Cond := wX3_cell :: m_tbl
theorem kX3_cell : [wX3_cell].all (fun w => decide (w ∈ lw_tbl) && goodWord w) = true := by decide +kernel
abbrev cX3_same : ByteArray := prog_5_method_10_code
def yX3_same : MethodName := ⟨RX3, "same", "(II)Z"⟩
abbrev wX3_same : Cond := .code yX3_same cX3_same 3 (some .boolean)
abbrev wsX3_same : List Cond := wX3_same :: m_tbl
theorem kX3_same : [wX3_same].all (fun w => decide (w ∈ lw_tbl) && goodWord w) = true := by decide +kernel
abbrev cX3_divide : ByteArray := prog_5_method_11_code
def yX3_divide : MethodName := ⟨RX3, "divide", "(IJJ)J"⟩
abbrev wX3_divide : Cond := .code yX3_divide cX3_divide 7 (some .long)
abbrev wsX3_divide : List Cond := wX3_divide :: m_tbl
theorem kX3_divide : [wX3_divide].all (fun w => decide (w ∈ lw_tbl) && goodWord w) = true := by decide +kernel
abbrev cX3_handle : ByteArray := prog_5_method_12_code
def yX3_handle : MethodName := ⟨RX3, "handle", "(I)I"⟩
abbrev wX3_handle : Cond := .code yX3_handle cX3_handle 2 (some .int)
abbrev wsX3_handle : List Cond := wX3_handle :: m_tbl
theorem kX3_handle : [wX3_handle].all (fun w => decide (w ∈ lw_tbl) && goodWord w) = true := by decide +kernel
abbrev cX3_target : ByteArray := prog_5_method_13_code
def yX3_target : MethodName := ⟨RX3, "target", "(I)I"⟩
abbrev wX3_target : Cond := .code yX3_target cX3_target 2 (some .int)
abbrev wsX3_target : List Cond := wX3_target :: m_tbl
theorem kX3_target : [wX3_target].all (fun w => decide (w ∈ lw_tbl) && goodWord w) = true := by decide +kernel
abbrev cX3_attribute : ByteArray := prog_5_method_14_code
def yX3_attribute : MethodName := ⟨RX3, "attribute", "(III)I"⟩
abbrev wX3_attribute : Cond := .code yX3_attribute cX3_attribute 6 (some .int)
abbrev wsX3_attribute : List Cond := wX3_attribute :: m_tbl
theorem kX3_attribute : [wX3_attribute].all (fun w => decide (w ∈ lw_tbl) && goodWord w) = true := by decide +kernel
abbrev cX3_fail : ByteArray := prog_5_method_15_code
def yX3_fail : MethodName := ⟨RX3, "fail", "(IIII)V"⟩
abbrev wX3_fail : Cond := .code yX3_fail cX3_fail 6 none
abbrev wsX3_fail : List Cond := wX3_fail :: m_tbl
theorem kX3_fail : [wX3_fail].all (fun w => decide (w ∈ lw_tbl) && goodWord w) = true := by decide +kernel
abbrev cX3_give : ByteArray := prog_5_method_16_code
def yX3_give : MethodName := ⟨RX3, "give", "(III)V"⟩
abbrev wX3_give : Cond := .code yX3_give cX3_give 4 none
abbrev wsX3_give : List Cond := wX3_give :: m_tbl
theorem kX3_give : [wX3_give].all (fun w => decide (w ∈ lw_tbl) && goodWord w) = true := by decide +kernel
abbrev cX3_step : ByteArray := prog_5_method_17_code
def yX3_step : MethodName := ⟨RX3, "step", "(I)Z"⟩
abbrev wX3_step : Cond := .code yX3_step cX3_step 2 (some .boolean)
abbrev wsX3_step : List Cond := wX3_step :: m_tbl
theorem kX3_step : [wX3_step].all (fun w => decide (w ∈ lw_tbl) && goodWord w) = true := by decide +kernel
abbrev cX3_runChain : ByteArray := prog_5_method_18_code
def yX3_runChain : MethodName := ⟨RX3, "runChain", "(I)V"⟩
abbrev wX3_runChain : Cond := .code yX3_runChain cX3_runChain 6 none
abbrev wsX3_runChain : List Cond := wX3_runChain :: m_tbl
theorem kX3_runChain : [wX3_runChain].all (fun w => decide (w ∈ lw_tbl) && goodWord w) = true := by decide +kernel
abbrev cX3_runOne : ByteArray := prog_5_method_19_code
def yX3_runOne : MethodName := ⟨RX3, "runOne", "(I)V"⟩
abbrev wX3_runOne : Cond := .code yX3_runOne cX3_runOne 6 none
abbrev wsX3_runOne : List Cond := wX3_runOne :: m_tbl
theorem kX3_runOne : [wX3_runOne].all (fun w => decide (w ∈ lw_tbl) && goodWord w) = true := by decide +kernel
abbrev cX3_deed : ByteArray := prog_5_method_20_code
def yX3_deed : MethodName := ⟨RX3, "deed", "(IIII)I"⟩
abbrev wX3_deed : Cond := .code yX3_deed cX3_deed 7 (some .int)
abbrev wsX3_deed : List Cond := wX3_deed :: m_tbl
theorem kX3_deed : [wX3_deed].all (fun w => decide (w ∈ lw_tbl) && goodWord w) = true := by decide +kernel
abbrev cX3_act : ByteArray := prog_5_method_21_code
def yX3_act : MethodName := ⟨RX3, "act", "(II)I"⟩
abbrev wX3_act : Cond := .code yX3_act cX3_act 4 (some .int)
abbrev wsX3_act : List Cond := wX3_act :: m_tbl
theorem kX3_act : [wX3_act].all (fun w => decide (w ∈ lw_tbl) && goodWord w) = true := by decide +kernel
abbrev cX3_run : ByteArray := prog_5_method_22_code
def yX3_run : MethodName := ⟨RX3, "run", "(I)I"⟩
abbrev wX3_run : Cond := .code yX3_run cX3_run 2 (some .int)
abbrev wsX3_run : List Cond := wX3_run :: m_tbl
theorem kX3_run : [wX3_run].all (fun w => decide (w ∈ lw_tbl) && goodWord w) = true := by decide +kernel
abbrev cX3_action : ByteArray := prog_5_method_23_code
def yX3_action : MethodName := ⟨RX3, "action", "(II)I"⟩
abbrev wX3_action : Cond := .code yX3_action cX3_action 5 (some .int)
abbrev wsX3_action : List Cond := wX3_action :: m_tbl
theorem kX3_action : [wX3_action].all (fun w => decide (w ∈ lw_tbl) && goodWord w) = true := by decide +kernel
abbrev cX3_provider : ByteArray := prog_5_method_24_code
def yX3_provider : MethodName := ⟨RX3, "provider", "(II)I"⟩
abbrev wX3_provider : Cond := .code yX3_provider cX3_provider 3 (some .int)
abbrev wsX3_provider : List Cond := wX3_provider :: m_tbl
theorem kX3_provider : [wX3_provider].all (fun w => decide (w ∈ lw_tbl) && goodWord w) = true := by decide +kernel
abbrev cX3_failed : ByteArray := prog_5_method_25_code
def yX3_failed : MethodName := ⟨RX3, "failed", "(II)I"⟩
abbrev wX3_failed : Cond := .code yX3_failed cX3_failed 3 (some .int)
abbrev wsX3_failed : List Cond := wX3_failed :: m_tbl
theorem kX3_failed : [wX3_failed].all (fun w => decide (w ∈ lw_tbl) && goodWord w) = true := by decide +kernel
abbrev cX1_init : ByteArray := prog_2_method_1_code
def yX1_init : MethodName := ⟨RX1, "<init>", "(IIZ)V"⟩
abbrev wX1_init : Cond := .code yX1_init cX1_init 4 none
abbrev wsX1_init : List Cond := wX1_init :: m_tbl
theorem kX1_init : [wX1_init].all (fun w => decide (w ∈ lw_tbl) && goodWord w) = true := by decide +kernel
abbrev cX1_isOf : ByteArray := prog_2_method_2_code
def yX1_isOf : MethodName := ⟨RX1, "isOf", "(II)Z"⟩
abbrev wX1_isOf : Cond := .code yX1_isOf cX1_isOf 3 (some .boolean)
abbrev wsX1_isOf : List Cond := wX1_isOf :: m_tbl
theorem kX1_isOf : [wX1_isOf].all (fun w => decide (w ∈ lw_tbl) && goodWord w) = true := by decide +kernel
abbrev cX2_init : ByteArray := prog_3_method_1_code
def yX2_init : MethodName := ⟨RX2, "<init>", "(ILRuleHouse2$RuleClass;)V"⟩
abbrev wX2_init : Cond := .code yX2_init cX2_init 3 none
abbrev wsX2_init : List Cond := wX2_init :: m_tbl
theorem kX2_init : [wX2_init].all (fun w => decide (w ∈ lw_tbl) && goodWord w) = true := by decide +kernel
abbrev cX2_give : ByteArray := prog_3_method_2_code
def yX2_give : MethodName := ⟨RX2, "give", "(II)V"⟩
abbrev wX2_give : Cond := .code yX2_give cX2_give 3 none
abbrev wsX2_give : List Cond := wX2_give :: m_tbl
theorem kX2_give : [wX2_give].all (fun w => decide (w ∈ lw_tbl) && goodWord w) = true := by decide +kernel
abbrev cX2_fail : ByteArray := prog_3_method_3_code
def yX2_fail : MethodName := ⟨RX2, "fail", "(III)V"⟩
abbrev wX2_fail : Cond := .code yX2_fail cX2_fail 5 none
abbrev wsX2_fail : List Cond := wX2_fail :: m_tbl
theorem kX2_fail : [wX2_fail].all (fun w => decide (w ∈ lw_tbl) && goodWord w) = true := by decide +kernel
abbrev cL_cell : ByteArray := method_2_code
def yL_cell : MethodName := ⟨RL, "cell", "([II)I"⟩
abbrev wL_cell : Cond := .code yL_cell cL_cell 2 (some .int)
abbrev wsL_cell : List Cond := wL_cell :: m_tbl
theorem kL_cell : [wL_cell].all (fun w => decide (w ∈ lw_tbl) && goodWord w) = true := by decide +kernel
abbrev cL_divide : ByteArray := method_3_code
def yL_divide : MethodName := ⟨RL, "divide", "(LRuleHouse2;IJJ[J)I"⟩
abbrev wL_divide : Cond := .codeWith yL_divide cL_divide 8 (some .int) [(0, 12, 15, 13)]
abbrev wsL_divide : List Cond := wL_divide :: m_tbl
theorem kL_divide : [wL_divide].all (fun w => decide (w ∈ lw_tbl) && goodWord w) = true := by decide +kernel
abbrev cL_handle : ByteArray := method_4_code
def yL_handle : MethodName := ⟨RL, "handle", "(LRuleHouse2;I[J)I"⟩
abbrev wL_handle : Cond := .codeWith yL_handle cL_handle 4 (some .int) [(0, 9, 12, 19)]
abbrev wsL_handle : List Cond := wL_handle :: m_tbl
theorem kL_handle : [wL_handle].all (fun w => decide (w ∈ lw_tbl) && goodWord w) = true := by decide +kernel
