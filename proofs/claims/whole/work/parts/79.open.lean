theorem m_str {args : Array Value} {s : State} {own tx : String} {k : Nat} (h1 : (Cond.stringRef own k tx).before args s = true) (h2 : (Cond.exactly (.string own k) "java/lang/String").before args s = true) : ∃ q, vk_R own k tx q s := by
  obtain ⟨a2, c, cA, kA, q1, -⟩ := Cond.exactly_spec (args := args) (first := s) (o := none) (s := s) (idx := []) h2
  exact ⟨a2, vk_R.of h1 q1⟩
theorem m_E_start {args : Array Value} {s : State} (hts : ∀ w ∈ lw_tbl, w.before args s = true) (hgv : (Jvm.Cond.and given_1 narrow_1).before args s = true) (ho1 : (Cond.arrayOver (.object "RuleHouse2$RuleClass")).before args s = true) (ho2 : (Cond.arrayOver (.object "RuleHouse2$Target")).before args s = true) : m_E s.heap.size s := by
  have hs := flat_of_before _ hgv
  have hat : ∀ (A : Array Value), ∀ w ∈ m_xA ++ m_xI, w.before A s = true := by
    have h0 : ∀ w ∈ m_xA ++ m_xI, w.before args s = true := by
      have hd : (m_xA ++ m_xI).all (fun w => decide (w ∈ lw_tbl) || decide (w = .isRef (.static "java/lang/Throwable" "UNASSIGNED_STACK" "[Ljava/lang/StackTraceElement;")) || decide (w = .isRef (.static "java/lang/Throwable" "SUPPRESSED_SENTINEL" "Ljava/util/List;"))) = true := by decide +kernel
      intro w hw
      have h1 := List.all_eq_true.mp hd w hw
      simp only [Bool.or_eq_true, decide_eq_true_eq] at h1
      rcases h1 with (h1 | h1) | h1
      · exact hts w h1
      · rw [h1]; exact hs _ (by decide +kernel)
      · rw [h1]; exact hs _ (by decide +kernel)
    exact m_xmove (b := s.heap.size) h0 (State.WarmedH.refl s) (fun a cell h1 h2 => absurd (Array.getElem?_eq_some_iff.mp h2).1 (Nat.not_lt.mpr h1)) (fun _ _ => rfl)
  refine ⟨va_AO.of ho1, va_AO.of ho2, ⟨Nat.le_refl _, fun a cell h1 h2 => absurd (Array.getElem?_eq_some_iff.mp h2).1 (Nat.not_lt.mpr h1)⟩, hat, ?_, ?_⟩
  · exact m_str (hts _ (by decide +kernel)) (hs _ (by decide +kernel))
  · exact m_str (hts _ (by decide +kernel)) (hs _ (by decide +kernel))
