theorem m_E_start {args : Array Value} {s : State} {b : Nat} (hts : ∀ w ∈ lw_tbl, w.before args s = true) (hgv : (Jvm.Cond.and given_1 narrow_1).before args s = true) (ho1 : (Cond.arrayOver (.object "RuleHouse2$RuleClass")).before args s = true) (ho2 : (Cond.arrayOver (.object "RuleHouse2$Target")).before args s = true) : m_E b s := ⟨va_AO.of ho1, va_AO.of ho2, trivial⟩
/-- the mathematics: the law's function answers 1 -/
theorem law_math (L : Nat) (xs : Nat → Int32) (n : Nat) (hL : L ≤ 3073) : ∃ st', f_L_law L xs (n, fun _ => none, fun _ _ => .null) = some (1, st') := by
  sorry
