section MROW
variable {p : Program} {l : Launch} {e : Env} {R : Room} {s : State} {m : MethodId} {args : Array Value} {below : List Frame} {meth : Method} {c : Code} {H : Heap} {locs : List Loc} {cells slots : Nat} {Q : State → Prop}
variable {cc : ByteArray} {pc nL b : Nat} {ls : Array Slot} {rest : List Value} {D : va_G} {cl : List vw_C} {tys : List (ClassId × FieldType)} {a : Nat} {H0 : Heap} {st st1 : MS} {Ts : List Cond} {own : String}
theorem m_get (S : CallFix p m c cc nL s args Ts own) {ref C : String} {T : u_T} {N ci index k : Nat} {v : Value} (hin : ∀ w ∈ u_ws C T N, w ∈ Ts) (hK : va_K D cl tys s) (hP : mw D cl tys b st H) (hop : st.2.1 a = some (.inl ci) ∧ st.2.2 a k = v) (hc : cl[ci]? = some (C, T, N)) (hkN : k < N) (hlink : (Cond.fieldLink own index ref (T k).2.1 (T k).2.2.1).before args s = true) (hsame : (T k).1 = ref) (hdg : decode cc pc = .ok (.getfield index, 3))
    (kk : W p l e R s m args below meth c H locs cells slots Q (F0 m (pc + 3) ls (v :: rest))) : W p l e R s m args below meth c H locs cells slots Q (F0 m pc ls (.ref a :: rest)) := by
  obtain ⟨hexec, hb, -, hown, hts⟩ := S
  obtain ⟨hk, hv⟩ := hop
  obtain ⟨r, h1, cell, q1, q2, q3, q4⟩ := (hP.2.2.1 a _ hk).2
  have hr : r = (C, T, N) := Option.some.inj (h1.symm.trans hc)
  subst hr
  obtain ⟨hS, hfc, kC, hkC, hkind⟩ := hK.1 ci _ hc
  obtain ⟨cf, kf, fi, f, hi, hsl⟩ := hS k hkN
  refine W.getf hexec hb hown hlink (by rw [← hsame]; exact hi) (u_facts hfc hkC (u_lays hts hin hkN) hi).1 q1 (by rw [q3]; exact fun h => by cases h) (v := v) ?_ rfl rfl hdg kk
  rw [hsl, q4 k hkN]
  exact congrArg some hv
theorem m_put (S : CallFix p m c cc nL s args Ts own) {ref C : String} {T : u_T} {N ci index k : Nat} {v : Value} (hin : ∀ w ∈ u_ws C T N, w ∈ Ts) (ty0 : Nat → FieldType) (hty : ∀ k, k < N → parseFieldDescriptor (T k).2.2.1 = some (ty0 k)) (hnm : ∀ a, a < N → ∀ b, b < N → a ≠ b → (T a).2.1 ≠ (T b).2.1) (hK : va_K D cl tys s) (hP : mw D cl tys b st H) (hS0 : va_S (m_A b) H0 H locs) (hop : m_p st ci a k v = some st1) (hc : cl[ci]? = some (C, T, N)) (hkN : k < N) (hlink : (Cond.fieldLink own index ref (T k).2.1 (T k).2.2.1).before args s = true) (hsame : (T k).1 = ref) (hfin : (T k).2.2.2 = false) {ty : FieldType} (hd : parseFieldDescriptor (T k).2.2.1 = some ty) (hn : narrow ty v = v) (hfit : fits ty v = true)
    (hdg : decode cc pc = .ok (.putfield index, 3)) (kk : ∀ (H1 : Heap) (locs1 : List Loc), mw D cl tys b st1 H1 → va_S (m_A b) H0 H1 locs1 → W p l e R s m args below meth c H1 locs1 cells slots Q (F0 m (pc + 3) ls rest)) : W p l e R s m args below meth c H locs cells slots Q (F0 m pc ls (v :: .ref a :: rest)) := by
  obtain ⟨hexec, hb, -, hown, hts⟩ := S
  obtain ⟨hk, rfl⟩ := m_p_s hop
  have hap := va_apart (own := own) hts hin ty0 hty hnm hK hc
  obtain ⟨r, h1, cell, q1, q2, q3, q4⟩ := (hP.2.2.1 a _ hk).2
  have hr : r = (C, T, N) := Option.some.inj (h1.symm.trans hc)
  subst hr
  obtain ⟨hS, hfc, kC, hkC, hkind⟩ := hK.1 ci _ hc
  obtain ⟨cf, kf, fi, f, hi, hsl⟩ := hS k hkN
  have hlay := hts _ (hin _ (u_in_lay hkN))
  unfold u_lay at hlay
  rw [if_neg (by rw [hfin]; decide)] at hlay
  have hst := (u_facts hfc hkC (u_lays hts hin hkN) hi).1
  have h6 := u_store hfc hkC hkind hlay hi hd hn hfit
  refine W.putK hexec hb (f := f) ⟨hown, hlink, ⟨_, _, _, by rw [← hsame]; exact hi⟩, hst⟩ (by rw [q2]; exact h6) q1 q3 (by rw [hsl]; exact k2_hasslot (q4 k hkN)) rfl rfl hdg fun H' e1 e2 e3 => ?_
  rw [hsl] at e1 ⊢
  exact kk H' _ (hP.set hk ⟨_, hc, ⟨_, e1, q2, q3, t_set q4 hap hkN v⟩⟩ e2 e3) (hS0.put e2 e3 ((hP.2.2.1 a _ hk).1 (fun _ h => by cases h)))
theorem m_putF (S : CallFix p m c cc nL s args Ts own) {ref C : String} {T : u_T} {N ci index k : Nat} {v : Value} (hin : ∀ w ∈ u_ws C T N, w ∈ Ts) (ty0 : Nat → FieldType) (hty : ∀ k, k < N → parseFieldDescriptor (T k).2.2.1 = some (ty0 k)) (hnm : ∀ a, a < N → ∀ b, b < N → a ≠ b → (T a).2.1 ≠ (T b).2.1) (hK : va_K D cl tys s) (hP : mw D cl tys b st H) (hS0 : va_S (m_A b) H0 H locs) (hop : m_p st ci a k v = some st1) (hc : cl[ci]? = some (C, T, N)) (hkN : k < N) (hlink : (Cond.fieldLink own index ref (T k).2.1 (T k).2.2.1).before args s = true) (hsame : (T k).1 = ref) (hfin : (T k).2.2.2 = true) (hin2 : meth.name = "<init>") (hdecl : (T k).1 = own) {ty : FieldType} (hd : parseFieldDescriptor (T k).2.2.1 = some ty) (hn : narrow ty v = v) (hfit : fits ty v = true)
    (hdg : decode cc pc = .ok (.putfield index, 3)) (kk : ∀ (H1 : Heap) (locs1 : List Loc), mw D cl tys b st1 H1 → va_S (m_A b) H0 H1 locs1 → W p l e R s m args below meth c H1 locs1 cells slots Q (F0 m (pc + 3) ls rest)) : W p l e R s m args below meth c H locs cells slots Q (F0 m pc ls (v :: .ref a :: rest)) := by
  obtain ⟨hexec, hb, -, hown, hts⟩ := S
  obtain ⟨hk, rfl⟩ := m_p_s hop
  have hap := va_apart (own := own) hts hin ty0 hty hnm hK hc
  obtain ⟨r, h1, cell, q1, q2, q3, q4⟩ := (hP.2.2.1 a _ hk).2
  have hr : r = (C, T, N) := Option.some.inj (h1.symm.trans hc)
  subst hr
  obtain ⟨hS, hfc, kC, hkC, hkind⟩ := hK.1 ci _ hc
  obtain ⟨cf, kf, fi, f, hi, hsl⟩ := hS k hkN
  have hlay := hts _ (hin _ (u_in_lay hkN))
  unfold u_lay at hlay
  rw [if_pos hfin] at hlay
  have hst := (u_facts hfc hkC (u_lays hts hin hkN) hi).1
  have hcf : m.cls = cf := by
    obtain ⟨_, _, c', _, _, _, -, -, hf', -, -, -, hown2, -⟩ := Cond.laysFinal_spec hlay
    have e1 : c' = cf := by have := hi.symm.trans hf'; simp at this; exact this.1.symm
    rw [hdecl] at hown2
    rw [← e1]; exact Option.some.inj (hown.symm.trans hown2)
  have h6 := u_fits hfc hkC hkind (Or.inr hlay) hi hd hn hfit
  refine W.putFinK hexec hb hown hlink (by rw [← hsame]; exact hi) hst hcf hin2 (by rw [q2]; exact h6) q1 q3 (by rw [hsl]; exact k2_hasslot (q4 k hkN)) rfl rfl hdg fun H' e1 e2 e3 => ?_
  rw [hsl] at e1 ⊢
  exact kk H' _ (hP.set hk ⟨_, hc, ⟨_, e1, q2, q3, t_set q4 hap hkN v⟩⟩ e2 e3) (hS0.put e2 e3 ((hP.2.2.1 a _ hk).1 (fun _ h => by cases h)))
theorem m_new (S : CallFix p m c cc nL s args Ts own) {C : String} {T : u_T} {N ci index : Nat} (hin : ∀ w ∈ u_ws C T N, w ∈ Ts) (ty : Nat → FieldType) (hty : ∀ k, k < N → parseFieldDescriptor (T k).2.2.1 = some (ty k)) (hcl : (Cond.classLink own index C).before args s = true) (hinst : (Cond.instantiable C N).before args s = true) (hini : (Cond.initialized C).before args s = true)
    (hK : va_K D cl tys s) (hP : mw D cl tys b st H) (hS : va_S (m_A b) H0 H locs) (hc : cl[ci]? = some (C, T, N)) {a1 : Nat} (hop : a1 = st.1 ∧ st1 = m_mk st (.inl ci) (fun j => defaultValue (ty j))) (hcells : cells + 1 ≤ R.cells) (hslots : slots + N ≤ R.slots) (hdg : decode cc pc = .ok (.new index, 3))
    (kk : ∀ H1 : Heap, mw D cl tys b st1 H1 → va_S (m_A b) H0 H1 locs →
      W p l e R s m args below meth c H1 locs (cells + 1) (slots + N) Q (F0 m (pc + 3) ls (.ref a1 :: rest))) : W p l e R s m args below meth c H locs cells slots Q (F0 m pc ls rest) := by
  obtain ⟨hexec, hb, -, hown, hts⟩ := S
  obtain ⟨rfl, rfl⟩ := hop
  have hKn := hK.1 ci _ hc
  have hn : H.size = st.1 := hP.1
  refine W.newcK hexec hb hown hcl hinst hini rfl hdg hcells hslots hKn.2.1 hn fun H1 kC hkC e1 z1 o1 => ?_
  exact kk H1 (hP.push ⟨_, hc, u_born ty hts hin hKn hkC e1 hty⟩ z1 o1) (m_Spush hS (by rw [hn]; exact z1) (by rw [hn]; exact o1))
theorem m_newa (S : CallFix p m c cc nL s args Ts own) {atype : ArrayType} (harr : (Cond.arrayClass (newarray.typeOf atype)).before args s = true) {ty : FieldType} (hty : newarray.typeOf atype = ty) (hK : va_K D cl tys s) (hP : mw D cl tys b st H) (hS : va_S (m_A b) H0 H locs) {t : Nat} {cA : ClassId} (ht : tys[t]? = some (cA, ty))
    {i : Int32} {N : Nat} (hi : ¬ i < 0) (hN : i.toNatClampNeg = N) (hbytes : N * componentBytes ty ≤ 536870912) (hcells : cells + 1 ≤ R.cells) (hslots : slots + N ≤ R.slots) {a1 : Nat} (hop : a1 = st.1 ∧ st1 = m_mk st (.inr (t, N)) (fun _ => defaultValue ty)) (hdg : decode cc pc = .ok (.newarray atype, 2))
    (kk : ∀ H1 : Heap, mw D cl tys b st1 H1 → va_S (m_A b) H0 H1 locs →
      W p l e R s m args below meth c H1 locs (cells + 1) (slots + N) Q (F0 m (pc + 2) ls (.ref a1 :: rest))) : W p l e R s m args below meth c H locs cells slots Q (F0 m pc ls (.int i :: rest)) := by
  obtain ⟨hexec, hb, -, hown, hts⟩ := S
  obtain ⟨rfl, rfl⟩ := hop
  subst hty
  have hn : H.size = st.1 := hP.1
  refine va_newaK hexec hb harr rfl hdg rfl hi hN hbytes hcells hslots hn fun H1 cB e1 z1 o1 hAr hNm => ?_
  have hRA := (hK.2 t _ ht).2
  have hcA : cB = cA := by
    have h2 : s.vm.findClass ("[" ++ (newarray.typeOf atype).toString) = some cA := by cases atype <;> exact hRA
    exact Option.some.inj (hNm.symm.trans h2)
  subst hcA
  exact kk H1 (hP.push ⟨_, ht, e1⟩ z1 o1) (m_Spush hS (by rw [hn]; exact z1) (by rw [hn]; exact o1))
theorem m_newq (S : CallFix p m c cc nL s args Ts own) {C : String} {index : Nat} (hclink : (Cond.classLink own index C).before args s = true) (hover : va_AO C s) (hK : va_K D cl tys s) (hP : mw D cl tys b st H) (hS : va_S (m_A b) H0 H locs) {t : Nat} {cA : ClassId} (ht : tys[t]? = some (cA, .object C))
    {i : Int32} {N : Nat} (hi : ¬ i < 0) (hN : i.toNatClampNeg = N) (hbytes : N * 4 ≤ 536870912) (hcells : cells + 1 ≤ R.cells) (hslots : slots + N ≤ R.slots) {a1 : Nat} (hop : a1 = st.1 ∧ st1 = m_mk st (.inr (t, N)) (fun _ => .null)) (hdg : decode cc pc = .ok (.anewarray index, 3))
    (kk : ∀ H1 : Heap, mw D cl tys b st1 H1 → va_S (m_A b) H0 H1 locs →
      W p l e R s m args below meth c H1 locs (cells + 1) (slots + N) Q (F0 m (pc + 3) ls (.ref a1 :: rest))) : W p l e R s m args below meth c H locs cells slots Q (F0 m pc ls (.int i :: rest)) := by
  obtain ⟨hexec, hb, -, hown, hts⟩ := S
  obtain ⟨rfl, rfl⟩ := hop
  subst hN
  have hn : H.size = st.1 := hP.1
  refine W.anew hexec hb hown hclink (va_AO.use hover) rfl hdg rfl hi hbytes hcells hslots fun cB kA comp f1 f2 f3 f4 => ?_
  generalize hH1 : H.push ({ cls := cB, slots := Array.replicate i.toNatClampNeg .null, vm := .none } : Cell) = H1
  have z1 : H1.size = H.size + 1 := by rw [← hH1, Array.size_push]
  have e1 : H1[H.size]? = some (arrV cB i.toNatClampNeg (fun _ => .null)) := by rw [← hH1, Array.getElem?_push_size, ← arrV_new]
  have o1 : ∀ q : Nat, q < H.size → H1[q]? = H[q]? := fun q hq => by rw [← hH1, Array.getElem?_push, if_neg (Nat.ne_of_lt hq)]
  obtain ⟨kA2, comp2, g1, g2, g3, g4⟩ := (hK.2 t _ ht).2
  have hcA : cB = cA := Option.some.inj (f1.symm.trans g4)
  subst hcA
  rw [hn] at z1 e1 o1
  have hg : W p l e R s m args below meth c H1 locs (cells + 1) (slots + i.toNatClampNeg) Q (F0 m (pc + 3) ls (.ref st.1 :: rest)) := kk H1 (hP.push ⟨_, ht, e1⟩ z1 o1) (m_Spush hS (by rw [hn]; exact z1) (by rw [hn]; exact o1))
  rw [← hn] at hg
  exact hg
theorem m_iald (S : CallFix p m c cc nL s args Ts own) (hK : va_K D cl tys s) (hP : mw D cl tys b st H) {t : Nat} {i : Int32} {v : Value} (hop : ∃ N, st.2.1 a = some (.inr (t, N)) ∧ vp_in i N ∧ st.2.2 a i.toNatClampNeg = v) {cA : ClassId} (ht : tys[t]? = some (cA, .int)) (hdg : decode cc pc = .ok (.iaload, 1))
    (kk : W p l e R s m args below meth c H locs cells slots Q (F0 m (pc + 1) ls (v :: rest))) : W p l e R s m args below meth c H locs cells slots Q (F0 m pc ls (.int i :: .ref a :: rest)) := by
  obtain ⟨hexec, hb, -, hown, hts⟩ := S
  obtain ⟨N, hk, hin, hv⟩ := hop
  obtain ⟨r, h1, h2⟩ := (hP.2.2.1 a _ hk).2
  have hr : r = (cA, .int) := Option.some.inj (h1.symm.trans ht)
  subst hr
  have hlt : i.toNatClampNeg < N := Nat.not_le.mp fun q => hin (Or.inr q)
  exact W.iald (v := v) hexec hb h2 ((hK.2 t _ ht).1 N (st.2.2 a)) (fun q => by cases q) (by show ¬ (i < 0 ∨ (arrV _ _ _).slots.size ≤ _); rw [arrV_size]; exact hin) (by show (arrV _ _ _).slots[_]? = _; rw [arrV_read _ _ hlt, hv]) rfl rfl hdg kk
theorem m_zald (S : CallFix p m c cc nL s args Ts own) (hK : va_K D cl tys s) (hP : mw D cl tys b st H) {t : Nat} {i : Int32} {v : Value} (hop : ∃ N, st.2.1 a = some (.inr (t, N)) ∧ vp_in i N ∧ st.2.2 a i.toNatClampNeg = v) {cA : ClassId} (ht : tys[t]? = some (cA, .boolean)) (hdg : decode cc pc = .ok (.baload, 1))
    (kk : W p l e R s m args below meth c H locs cells slots Q (F0 m (pc + 1) ls (v :: rest))) : W p l e R s m args below meth c H locs cells slots Q (F0 m pc ls (.int i :: .ref a :: rest)) := by
  obtain ⟨hexec, hb, -, hown, hts⟩ := S
  obtain ⟨N, hk, hin, hv⟩ := hop
  obtain ⟨r, h1, h2⟩ := (hP.2.2.1 a _ hk).2
  have hr : r = (cA, .boolean) := Option.some.inj (h1.symm.trans ht)
  subst hr
  have hlt : i.toNatClampNeg < N := Nat.not_le.mp fun q => hin (Or.inr q)
  exact W.zald (v := v) hexec hb h2 ((hK.2 t _ ht).1 N (st.2.2 a)) (fun q => by cases q) (by show ¬ (i < 0 ∨ (arrV _ _ _).slots.size ≤ _); rw [arrV_size]; exact hin) (by show (arrV _ _ _).slots[_]? = _; rw [arrV_read _ _ hlt, hv]) rfl rfl hdg kk
theorem m_lald (S : CallFix p m c cc nL s args Ts own) (hK : va_K D cl tys s) (hP : mw D cl tys b st H) {t : Nat} {i : Int32} {v : Value} (hop : ∃ N, st.2.1 a = some (.inr (t, N)) ∧ vp_in i N ∧ st.2.2 a i.toNatClampNeg = v) {cA : ClassId} (ht : tys[t]? = some (cA, .long)) (hdg : decode cc pc = .ok (.laload, 1))
    (kk : W p l e R s m args below meth c H locs cells slots Q (F0 m (pc + 1) ls (v :: rest))) : W p l e R s m args below meth c H locs cells slots Q (F0 m pc ls (.int i :: .ref a :: rest)) := by
  obtain ⟨hexec, hb, -, hown, hts⟩ := S
  obtain ⟨N, hk, hin, hv⟩ := hop
  obtain ⟨r, h1, h2⟩ := (hP.2.2.1 a _ hk).2
  have hr : r = (cA, .long) := Option.some.inj (h1.symm.trans ht)
  subst hr
  have hlt : i.toNatClampNeg < N := Nat.not_le.mp fun q => hin (Or.inr q)
  exact W.lald (v := v) hexec hb h2 ((hK.2 t _ ht).1 N (st.2.2 a)) (fun q => by cases q) (by show ¬ (i < 0 ∨ (arrV _ _ _).slots.size ≤ _); rw [arrV_size]; exact hin) (by show (arrV _ _ _).slots[_]? = _; rw [arrV_read _ _ hlt, hv]) rfl rfl hdg kk
theorem m_aald (S : CallFix p m c cc nL s args Ts own) (hK : va_K D cl tys s) (hP : mw D cl tys b st H) {t : Nat} {i : Int32} {v : Value} (hop : ∃ N, st.2.1 a = some (.inr (t, N)) ∧ vp_in i N ∧ st.2.2 a i.toNatClampNeg = v) {cA : ClassId} {C : String} (ht : tys[t]? = some (cA, .object C)) (hdg : decode cc pc = .ok (.aaload, 1))
    (kk : W p l e R s m args below meth c H locs cells slots Q (F0 m (pc + 1) ls (v :: rest))) : W p l e R s m args below meth c H locs cells slots Q (F0 m pc ls (.int i :: .ref a :: rest)) := by
  obtain ⟨hexec, hb, -, hown, hts⟩ := S
  obtain ⟨N, hk, hin, hv⟩ := hop
  obtain ⟨r, h1, h2⟩ := (hP.2.2.1 a _ hk).2
  have hr : r = (cA, .object C) := Option.some.inj (h1.symm.trans ht)
  subst hr
  have hlt : i.toNatClampNeg < N := Nat.not_le.mp fun q => hin (Or.inr q)
  exact W.aald (v := v) (ty := .object C) hexec hb h2 ((hK.2 t _ ht).1 N (st.2.2 a)) rfl (fun q => by cases q) (by show ¬ (i < 0 ∨ (arrV _ _ _).slots.size ≤ _); rw [arrV_size]; exact hin) (by show (arrV _ _ _).slots[_]? = _; rw [arrV_read _ _ hlt, hv]) rfl rfl hdg kk
theorem m_alen (S : CallFix p m c cc nL s args Ts own) (hK : va_K D cl tys s) (hP : mw D cl tys b st H) {t N : Nat} (hk : st.2.1 a = some (.inr (t, N))) {cA : ClassId} {ty : FieldType} (ht : tys[t]? = some (cA, ty)) (hdg : decode cc pc = .ok (.arraylength, 1))
    (kk : W p l e R s m args below meth c H locs cells slots Q (F0 m (pc + 1) ls (.int (nI N) :: rest))) : W p l e R s m args below meth c H locs cells slots Q (F0 m pc ls (.ref a :: rest)) := by
  obtain ⟨hexec, hb, -, hown, hts⟩ := S
  obtain ⟨r, h1, h2⟩ := (hP.2.2.1 a _ hk).2
  have hr : r = (cA, ty) := Option.some.inj (h1.symm.trans ht)
  subst hr
  exact W.alen (n := nI N) hexec hb h2 ((hK.2 t _ ht).1 N (st.2.2 a)) (by rw [arrV_size] <;> rfl) rfl rfl hdg kk
theorem m_iast (S : CallFix p m c cc nL s args Ts own) (hK : va_K D cl tys s) (hP : mw D cl tys b st H) (hS : va_S (m_A b) H0 H locs) {t : Nat} {i x : Int32} (hop : m_ap st t a i (.int x) = some st1) (ht0 : t ≠ 0) {cA : ClassId} (ht : tys[t]? = some (cA, .int)) (hdg : decode cc pc = .ok (.iastore, 1))
    (kk : ∀ (H1 : Heap) (locs1 : List Loc), mw D cl tys b st1 H1 → va_S (m_A b) H0 H1 locs1 → W p l e R s m args below meth c H1 locs1 cells slots Q (F0 m (pc + 1) ls rest)) : W p l e R s m args below meth c H locs cells slots Q (F0 m pc ls (.int x :: .int i :: .ref a :: rest)) := by
  obtain ⟨hexec, hb, -, hown, hts⟩ := S
  obtain ⟨N, hk, hin, rfl⟩ := m_ap_s hop
  obtain ⟨r, h1, h2⟩ := (hP.2.2.1 a _ hk).2
  have hr : r = (cA, .int) := Option.some.inj (h1.symm.trans ht)
  subst hr
  refine W.iast hexec hb h2 ((hK.2 t _ ht).1 N (st.2.2 a)) (fun q => by cases q) (by show ¬ (i < 0 ∨ (arrV _ _ _).slots.size ≤ _); rw [arrV_size]; exact hin) rfl rfl hdg fun H1 e1 z oq => ?_
  refine kk H1 _ (hP.set hk ⟨_, ht, ?_⟩ z oq) (hS.put z oq ((hP.2.2.1 a _ hk).1 (fun k h => by cases h; exact ht0 rfl)))
  rw [e1, arrV_store]
theorem m_last (S : CallFix p m c cc nL s args Ts own) (hK : va_K D cl tys s) (hP : mw D cl tys b st H) (hS : va_S (m_A b) H0 H locs) {t : Nat} {i : Int32} {x : Int64} (hop : m_ap st t a i (.long x) = some st1) (ht0 : t ≠ 0) {cA : ClassId} (ht : tys[t]? = some (cA, .long)) (hdg : decode cc pc = .ok (.lastore, 1))
    (kk : ∀ (H1 : Heap) (locs1 : List Loc), mw D cl tys b st1 H1 → va_S (m_A b) H0 H1 locs1 → W p l e R s m args below meth c H1 locs1 cells slots Q (F0 m (pc + 1) ls rest)) : W p l e R s m args below meth c H locs cells slots Q (F0 m pc ls (.long x :: .int i :: .ref a :: rest)) := by
  obtain ⟨hexec, hb, -, hown, hts⟩ := S
  obtain ⟨N, hk, hin, rfl⟩ := m_ap_s hop
  obtain ⟨r, h1, h2⟩ := (hP.2.2.1 a _ hk).2
  have hr : r = (cA, .long) := Option.some.inj (h1.symm.trans ht)
  subst hr
  refine W.last hexec hb h2 ((hK.2 t _ ht).1 N (st.2.2 a)) (fun q => by cases q) (by show ¬ (i < 0 ∨ (arrV _ _ _).slots.size ≤ _); rw [arrV_size]; exact hin) rfl rfl hdg fun H1 e1 z oq => ?_
  refine kk H1 _ (hP.set hk ⟨_, ht, ?_⟩ z oq) (hS.put z oq ((hP.2.2.1 a _ hk).1 (fun k h => by cases h; exact ht0 rfl)))
  rw [e1, arrV_store]
theorem m_zast (S : CallFix p m c cc nL s args Ts own) (hK : va_K D cl tys s) (hP : mw D cl tys b st H) (hS : va_S (m_A b) H0 H locs) {t : Nat} {i x : Int32} (hop : m_ap st t a i (.int x) = some st1) (ht0 : t ≠ 0) {cA : ClassId} (ht : tys[t]? = some (cA, .boolean)) (hx : narrow .boolean (.int x) = .int x) (hdg : decode cc pc = .ok (.bastore, 1))
    (kk : ∀ (H1 : Heap) (locs1 : List Loc), mw D cl tys b st1 H1 → va_S (m_A b) H0 H1 locs1 → W p l e R s m args below meth c H1 locs1 cells slots Q (F0 m (pc + 1) ls rest)) : W p l e R s m args below meth c H locs cells slots Q (F0 m pc ls (.int x :: .int i :: .ref a :: rest)) := by
  obtain ⟨hexec, hb, -, hown, hts⟩ := S
  obtain ⟨N, hk, hin, rfl⟩ := m_ap_s hop
  obtain ⟨r, h1, h2⟩ := (hP.2.2.1 a _ hk).2
  have hr : r = (cA, .boolean) := Option.some.inj (h1.symm.trans ht)
  subst hr
  refine W.zast hexec hb h2 ((hK.2 t _ ht).1 N (st.2.2 a)) (fun q => by cases q) (by show ¬ (i < 0 ∨ (arrV _ _ _).slots.size ≤ _); rw [arrV_size]; exact hin) rfl rfl hdg fun H1 e1 z oq => ?_
  refine kk H1 _ (hP.set hk ⟨_, ht, ?_⟩ z oq) (hS.put z oq ((hP.2.2.1 a _ hk).1 (fun k h => by cases h; exact ht0 rfl)))
  rw [e1, hx, arrV_store]
/-- an object of class ci goes into an array of its class -/
theorem m_aast (S : CallFix p m c cc nL s args Ts own) (hK : va_K D cl tys s) (hP : mw D cl tys b st H) (hS : va_S (m_A b) H0 H locs) {t ci v : Nat} {i : Int32} {r0 : vw_C} (hop : m_ap st t a i (.ref v) = some st1) (ht0 : t ≠ 0) (hv : st.2.1 v = some (.inl ci)) (hc : cl[ci]? = some r0) {cA : ClassId} (ht : tys[t]? = some (cA, .object r0.1)) (hdg : decode cc pc = .ok (.aastore, 1))
    (kk : ∀ (H1 : Heap) (locs1 : List Loc), mw D cl tys b st1 H1 → va_S (m_A b) H0 H1 locs1 → W p l e R s m args below meth c H1 locs1 cells slots Q (F0 m (pc + 1) ls rest)) : W p l e R s m args below meth c H locs cells slots Q (F0 m pc ls (.ref v :: .int i :: .ref a :: rest)) := by
  obtain ⟨hexec, hb, -, hown, hts⟩ := S
  obtain ⟨N, hk, hin, rfl⟩ := m_ap_s hop
  obtain ⟨r, h1, h2⟩ := (hP.2.2.1 a _ hk).2
  have hr : r = (cA, .object r0.1) := Option.some.inj (h1.symm.trans ht)
  subst hr
  have hlt : i.toNatClampNeg < N := Nat.not_le.mp fun q => hin (Or.inr q)
  have h0 : ¬ i < 0 := fun q => hin (Or.inl q)
  obtain ⟨r', hr', cellV, g1, g2, g3, -⟩ := (hP.2.2.1 v _ hv).2
  have hcls := (hK.1 ci r0 hc).2
  obtain ⟨kA, comp, k1, k2, k3, -⟩ := (hK.2 t _ ht).2
  have hcomp : comp = D.1 ci := Option.some.inj (k3.symm.trans hcls.1)
  subst hcomp
  obtain ⟨kC, hkC, -⟩ := hcls.2
  refine W.aast hexec hb h2 (fun q h => by cases h) (fun h => by cases h) k1 k2 rfl hkC ⟨h0, by show _ < (arrV _ _ _).slots.size; rw [arrV_size]; exact hlt⟩ g1 (fun q h => by rw [g3] at h; cases h) (by rw [g2]; exact hkC) (by rw [g2]; exact va_assign hcls) rfl rfl hdg fun H1 e1 z oq => ?_
  refine kk H1 _ (hP.set hk ⟨_, ht, ?_⟩ z oq) (hS.put z oq ((hP.2.2.1 a _ hk).1 (fun k h => by cases h; exact ht0 rfl)))
  rw [e1, arrV_store]
theorem m_aload_n (hexec : p.tables.exec = Jvm.exec) (hb : c.code = cc) {k : Fin 4} {i : Nat} {r : Option Nat} (hdg : decode cc pc = .ok (.aload_n k, 1)) (hi : (k : Nat) = i) (hl : ls[i]? = some (.val (va_rf r)))
    (kk : W p l e R s m args below meth c H locs cells slots Q (F0 m (pc + 1) ls (va_rf r :: rest))) : W p l e R s m args below meth c H locs cells slots Q (F0 m pc ls rest) := by
  cases r with
  | none => exact lv_aload_nN hexec hb hdg hi hl kk
  | some x => exact lv_aload_n hexec hb hdg hi hl kk
theorem m_aload (hexec : p.tables.exec = Jvm.exec) (hb : c.code = cc) {i : Nat} {r : Option Nat} (hdg : decode cc pc = .ok (.aload i, 2)) (hl : ls[i]? = some (.val (va_rf r)))
    (kk : W p l e R s m args below meth c H locs cells slots Q (F0 m (pc + 2) ls (va_rf r :: rest))) : W p l e R s m args below meth c H locs cells slots Q (F0 m pc ls rest) := by
  cases r with
  | none => exact lv_aloadN hexec hb hdg hl kk
  | some x => exact lv_aload hexec hb hdg hl kk
theorem m_astore_n (hexec : p.tables.exec = Jvm.exec) (hb : c.code = cc) {k : Fin 4} {i nL : Nat} {r : Option Nat} {lv lv' : List (Nat × Value)} (hdg : decode cc pc = .ok (.astore_n k, 1)) (hi : (k : Nat) = i) (h : lv_has ls nL lv) (hn : i < nL) (hl : (i, va_rf r) :: lv.filter (fun q => !(q.1 == i) && !(q.1 + 1 == i && q.2.category == 2)) = lv')
    (kk : ∀ ls' : Array Slot, lv_has ls' nL lv' → W p l e R s m args below meth c H locs cells slots Q (F0 m (pc + 1) ls' rest)) : W p l e R s m args below meth c H locs cells slots Q (F0 m pc ls (va_rf r :: rest)) := by
  cases r with
  | none => exact lv_astore_nN hexec hb hdg hi h hn hl kk
  | some x => exact lv_astore_n hexec hb hdg hi h hn hl kk
theorem m_astore (hexec : p.tables.exec = Jvm.exec) (hb : c.code = cc) {i nL : Nat} {r : Option Nat} {lv lv' : List (Nat × Value)} (hdg : decode cc pc = .ok (.astore i, 2)) (h : lv_has ls nL lv) (hn : i < nL) (hl : (i, va_rf r) :: lv.filter (fun q => !(q.1 == i) && !(q.1 + 1 == i && q.2.category == 2)) = lv')
    (kk : ∀ ls' : Array Slot, lv_has ls' nL lv' → W p l e R s m args below meth c H locs cells slots Q (F0 m (pc + 2) ls' rest)) : W p l e R s m args below meth c H locs cells slots Q (F0 m pc ls (va_rf r :: rest)) := by
  cases r with
  | none => exact lv_astoreN hexec hb hdg h hn hl kk
  | some x => exact lv_astore hexec hb hdg h hn hl kk
end MROW
/-! contracts: from the world st the method answers v and leaves the world st' -/
def m_Pc (D : va_G) (cl : List vw_C) (tys : List (ClassId × FieldType)) (b : Nat) (st : MS) (as : List Value) : Array Value → State → Prop := fun v U => v = as.toArray ∧ mw D cl tys b st U.heap ∧ va_K D cl tys U
def m_Q (D : va_G) (cl : List vw_C) (tys : List (ClassId × FieldType)) (b : Nat) (v : Option Value) (st : MS) : Array Value → State → Outcome → State → Prop := fun _ s0 o t => o = .returned v ∧ (mw D cl tys b st t.heap ∧ va_K D cl tys t) ∧ va_F (m_A b) s0 t
theorem m_blind {D : va_G} {cl : List vw_C} {tys : List (ClassId × FieldType)} {b : Nat} {st : MS} {as : List Value} : FrameBlind (m_Pc D cl tys b st as) := fun a U g mk q => ⟨q.1, q.2.1, va_K.moved (u := U) (U := U.calling g mk a) (Vm.Alike.refl U.vm) q.2.2⟩
theorem m_preS {s : State} {H : Heap} {D : va_G} {cl : List vw_C} {tys : List (ClassId × FieldType)} {b : Nat} {st : MS} {as : List Value} (hK : va_K D cl tys s) (hP : mw D cl tys b st H) : PreS s H (m_Pc D cl tys b st as) as := ⟨m_blind, fun U hU hW => ⟨rfl, by rw [hU]; exact hP, va_K.moved hW.alike hK⟩⟩
theorem m_preV {s : State} {H : Heap} {D : va_G} {cl : List vw_C} {tys : List (ClassId × FieldType)} {b a ci : Nat} {st : MS} {as : List Value} {r0 : vw_C} (hK : va_K D cl tys s) (hP : mw D cl tys b st H) (hk : st.2.1 a = some (.inl ci)) (hc : cl[ci]? = some r0) : PreV s H r0.1 a (m_Pc D cl tys b st (.ref a :: as)) as := by
  refine ⟨m_blind, ?_, fun U hU hW => ⟨rfl, by rw [hU]; exact hP, va_K.moved hW.alike hK⟩⟩
  obtain ⟨r, h1, cell, g1, g2, g3, -⟩ := (hP.2.2.1 a _ hk).2
  have hr : r = r0 := Option.some.inj (h1.symm.trans hc)
  subst hr
  exact ⟨cell, g1, by rw [g3]; rfl, by rw [g2]; exact (hK.1 ci _ hc).2.1⟩
section MCALL
variable {p : Program} {l : Launch} {e : Env} {R : Room} {s : State} {m : MethodId} {args : Array Value} {below : List Frame} {meth : Method} {c : Code} {H : Heap} {locs : List Loc} {cells slots : Nat} {Q : State → Prop}
variable {pc : Nat} {ls : Array Slot} {rest st0 : List Value} {a : Array Value} {H0 : Heap} {mc ms : Nat} {D : va_G} {cl : List vw_C} {tys : List (ClassId × FieldType)} {b : Nat}
theorem m_call {v : Option Value} {st : MS} (hr : va_Run p l e R s m args below meth c H locs cells slots mc ms (F0 m pc ls st0) rest (m_Q D cl tys b v st a) (m_A b)) (hS : va_S (m_A b) H0 H locs)
    (kk : ∀ (H1 : Heap) (locs1 : List Loc), mw D cl tys b st H1 → va_S (m_A b) H0 H1 locs1 → W p l e R s m args below meth c H1 locs1 (cells + mc) (slots + ms) Q (F0 m (pc + 3) ls (v.toList ++ rest))) : W p l e R s m args below meth c H locs cells slots Q (F0 m pc ls st0) := by
  intro T hT X
  obtain ⟨v', st₀, t, T', L, h0, X', hL, e1, e2, ⟨hv, ⟨hm, hk'⟩, hz, hk⟩, st⟩ := hr T hT X
  cases hv
  rw [h0] at hz hk
  obtain ⟨t2, a1, b1⟩ := kk T'.heap (locs ++ L) (by rw [e1]; exact hm)
    ⟨Nat.le_trans hS.1 (by rw [e1]; exact hz), fun q h1 h2 => by rw [e1, hk q (Nat.lt_of_lt_of_le h1 hS.1) h2]; exact hS.2.1 q h1 h2, fun q hq => by
      rcases List.mem_append.mp hq with h | h
      · exact hS.2.2 q h
      · exact hL q h⟩ T' rfl X'
  exact ⟨t2, st t2 a1, b1⟩
theorem m_calli {v : Int32} {st : MS} (hr : va_Run p l e R s m args below meth c H locs cells slots mc ms (F0 m pc ls st0) rest (m_Q D cl tys b (some (.int v)) st a) (m_A b)) (hS : va_S (m_A b) H0 H locs)
    (kk : ∀ (H1 : Heap) (locs1 : List Loc), mw D cl tys b st H1 → va_S (m_A b) H0 H1 locs1 → W p l e R s m args below meth c H1 locs1 (cells + mc) (slots + ms) Q (F0 m (pc + 3) ls (.int v :: rest))) : W p l e R s m args below meth c H locs cells slots Q (F0 m pc ls st0) := m_call hr hS kk
theorem m_calll {v : Int64} {st : MS} (hr : va_Run p l e R s m args below meth c H locs cells slots mc ms (F0 m pc ls st0) rest (m_Q D cl tys b (some (.long v)) st a) (m_A b)) (hS : va_S (m_A b) H0 H locs)
    (kk : ∀ (H1 : Heap) (locs1 : List Loc), mw D cl tys b st H1 → va_S (m_A b) H0 H1 locs1 → W p l e R s m args below meth c H1 locs1 (cells + mc) (slots + ms) Q (F0 m (pc + 3) ls (.long v :: rest))) : W p l e R s m args below meth c H locs cells slots Q (F0 m pc ls st0) := m_call hr hS kk
theorem m_callr {v : Option Nat} {st : MS} (hr : va_Run p l e R s m args below meth c H locs cells slots mc ms (F0 m pc ls st0) rest (m_Q D cl tys b (some (va_rf v)) st a) (m_A b)) (hS : va_S (m_A b) H0 H locs)
    (kk : ∀ (H1 : Heap) (locs1 : List Loc), mw D cl tys b st H1 → va_S (m_A b) H0 H1 locs1 → W p l e R s m args below meth c H1 locs1 (cells + mc) (slots + ms) Q (F0 m (pc + 3) ls (va_rf v :: rest))) : W p l e R s m args below meth c H locs cells slots Q (F0 m pc ls st0) := m_call hr hS kk
theorem m_callv {st : MS} (hr : va_Run p l e R s m args below meth c H locs cells slots mc ms (F0 m pc ls st0) rest (m_Q D cl tys b none st a) (m_A b)) (hS : va_S (m_A b) H0 H locs)
    (kk : ∀ (H1 : Heap) (locs1 : List Loc), mw D cl tys b st H1 → va_S (m_A b) H0 H1 locs1 → W p l e R s m args below meth c H1 locs1 (cells + mc) (slots + ms) Q (F0 m (pc + 3) ls rest)) : W p l e R s m args below meth c H locs cells slots Q (F0 m pc ls st0) := m_call hr hS kk
end MCALL
/-- a contract out of the walk of the body -/
theorem m_met {l : Launch} {y : MethodName} {ws ws' : List Cond} {rm : Room} {mc ms : Nat} {cc : ByteArray} {maxL : Nat} {ret : Option FieldType} {D : va_G} {cl : List vw_C} {tys : List (ClassId × FieldType)} {b : Nat} {st st' : MS} {as : List Value} {v : Option Value}
    (hy : plainName y.cls = true) (hw : ws = Cond.code y cc maxL ret :: ws') (hlen : (lg_sl as).length ≤ maxL)
    (body : ∀ (p : Program) (e : Env) (s : State) (m : MethodId) (below : List Frame) (meth : Method) (c : Code) (ls : Array Slot), CallFix p m c cc maxL s as.toArray ws y.cls → meth.sig.returnType = ret → meth.locks = false → meth.name = y.name → va_K D cl tys s → mw D cl tys b st s.heap → lv_has ls maxL (lv_args 0 as) → va_S (m_A b) s.heap s.heap [] →
      W p l e rm s m as.toArray below meth c s.heap [] 0 0 (MQ below (m_Q D cl tys b v st') as.toArray s mc ms (m_A b)) (F0 m 0 ls [])) : Met l y ws rm (m_Pc D cl tys b st as) (m_Q D cl tys b v st') mc ms (m_A b) := by
  refine Met.ofW (cc := cc) (maxL := maxL) (ret := ret) hy hw ?_
  intro p e s m args below meth c s₁ B hml hv
  obtain ⟨rfl, hP, hK⟩ := hv
  have hts := atoms_spec (ws := ws) B.pre
  have hl := lv_entry as (n := maxL) hlen
  rw [lg_entry_eq]
  exact body p e s m below meth c _ ⟨B.exec, B.bytes, hml, findClass_of_methodNamed B.named, hts⟩ B.returns B.notSynchronized (name_of_methodNamed B.named B.method).1 hK hP hl va_S.rf
section MRET
variable {p : Program} {l : Launch} {e : Env} {R : Room} {s : State} {m : MethodId} {args : Array Value} {below : List Frame} {meth : Method} {c : Code} {H : Heap} {locs : List Loc} {cells slots : Nat}
variable {cc : ByteArray} {pc nL b mc ms : Nat} {ls : Array Slot} {D : va_G} {cl : List vw_C} {tys : List (ClassId × FieldType)} {st : MS} {Ts : List Cond} {own : String}
theorem m_iret (S : CallFix p m c cc nL s args Ts own) (hr : meth.sig.returnType = some .int) (hlk : meth.locks = false) (hK : va_K D cl tys s) (hP : mw D cl tys b st H) (hS : va_S (m_A b) s.heap H locs) {v : Int32} (hc : cells ≤ mc) (hs : slots ≤ ms) (hdg : decode cc pc = .ok (.ireturn, 1)) :
    W p l e R s m args below meth c H locs cells slots (MQ below (m_Q D cl tys b (some (.int v)) st) args s mc ms (m_A b)) (F0 m pc ls [.int v]) :=
  W.widen hc hs (W.iret S.1 S.2.1 hr (fun t ht hW => ⟨rfl, ⟨by rw [ht]; exact hP, va_K.moved hW.alike hK⟩, hS.F ht⟩) hS.2.2 hdg)
theorem m_zret (S : CallFix p m c cc nL s args Ts own) (hr : meth.sig.returnType = some .boolean) (hlk : meth.locks = false) (hK : va_K D cl tys s) (hP : mw D cl tys b st H) (hS : va_S (m_A b) s.heap H locs) {v : Int32} (hv : narrow .boolean (.int v) = .int v) (hc : cells ≤ mc) (hs : slots ≤ ms) (hdg : decode cc pc = .ok (.ireturn, 1)) :
    W p l e R s m args below meth c H locs cells slots (MQ below (m_Q D cl tys b (some (.int v)) st) args s mc ms (m_A b)) (F0 m pc ls [.int v]) :=
  W.widen hc hs (W.zret S.1 S.2.1 hr hv (fun t ht hW => ⟨rfl, ⟨by rw [ht]; exact hP, va_K.moved hW.alike hK⟩, hS.F ht⟩) hS.2.2 hdg)
theorem m_lret (S : CallFix p m c cc nL s args Ts own) (hr : meth.sig.returnType = some .long) (hlk : meth.locks = false) (hK : va_K D cl tys s) (hP : mw D cl tys b st H) (hS : va_S (m_A b) s.heap H locs) {v : Int64} (hc : cells ≤ mc) (hs : slots ≤ ms) (hdg : decode cc pc = .ok (.lreturn, 1)) :
    W p l e R s m args below meth c H locs cells slots (MQ below (m_Q D cl tys b (some (.long v)) st) args s mc ms (m_A b)) (F0 m pc ls [.long v]) :=
  W.widen hc hs (W.lret S.1 S.2.1 hr (fun t ht hW => ⟨rfl, ⟨by rw [ht]; exact hP, va_K.moved hW.alike hK⟩, hS.F ht⟩) hS.2.2 hdg)
theorem m_vret (S : CallFix p m c cc nL s args Ts own) (hr : meth.sig.returnType = none) (hlk : meth.locks = false) (hK : va_K D cl tys s) (hP : mw D cl tys b st H) (hS : va_S (m_A b) s.heap H locs) (hc : cells ≤ mc) (hs : slots ≤ ms) (hdg : decode cc pc = .ok (.return_, 1)) :
    W p l e R s m args below meth c H locs cells slots (MQ below (m_Q D cl tys b none st) args s mc ms (m_A b)) (F0 m pc ls []) :=
  W.widen hc hs (W.vret S.1 S.2.1 hr (fun t ht hW => ⟨rfl, ⟨by rw [ht]; exact hP, va_K.moved hW.alike hK⟩, hS.F ht⟩) hS.2.2 hdg)
theorem m_aret (S : CallFix p m c cc nL s args Ts own) {C : String} (hr : meth.sig.returnType = some (.object C)) (hlk : meth.locks = false) (hK : va_K D cl tys s) (hP : mw D cl tys b st H) (hS : va_S (m_A b) s.heap H locs) {r : Option Nat} (hc : cells ≤ mc) (hs : slots ≤ ms) (hdg : decode cc pc = .ok (.areturn, 1)) :
    W p l e R s m args below meth c H locs cells slots (MQ below (m_Q D cl tys b (some (va_rf r)) st) args s mc ms (m_A b)) (F0 m pc ls [va_rf r]) :=
  W.widen hc hs (W.aret S.1 S.2.1 hr (Or.inl ⟨_, rfl⟩) (by cases r with | none => exact Or.inl rfl | some a => exact Or.inr ⟨a, rfl⟩) (fun t ht hW => ⟨rfl, ⟨by rw [ht]; exact hP, va_K.moved hW.alike hK⟩, hS.F ht⟩) hS.2.2 hdg)
end MRET
def m_xup : List String := ["java/lang/RuntimeException", "java/lang/Exception"]
def m_xA : List Cond := Bundle.ownAtoms "RuleHouse2" 145 "java/lang/ArithmeticException" m_xup
def m_xI : List Cond := Bundle.ownAtoms "RuleHouse2" 152 "java/lang/IllegalStateException" m_xup
def m_xq (w : Cond) : Bool := match w with
  | .laysStatic .. => true
  | .isRef (.static ..) => true
  | _ => false
theorem m_xA_k : m_xA.all (fun w => goodWord w || (w.onTables && w.faceAtom) || m_xq w) = true := by decide +kernel
theorem m_xI_k : m_xI.all (fun w => goodWord w || (w.onTables && w.faceAtom) || m_xq w) = true := by decide +kernel
theorem x_lays {A A' : Array Value} {s U : State} {b : Nat} {O f d : String} (hl : (Cond.laysStatic O f d).before A s = true) (hal : s.vm.Alike U.vm) (hst : ∀ (a : Nat) (cell : Cell), b ≤ a → s.heap[a]? = some cell → cell.vm.isStatics = false) (hH : ∀ q : Nat, q < b → U.heap[q]? = s.heap[q]?) : (Cond.laysStatic O f d).before A' U = true := by
  obtain ⟨c, k, i, f', a, cell, hc, hi, hst', ha, hcell, hs, hcls, hlt, hty⟩ := Cond.laysStatic_spec hl
  obtain ⟨k', hi', hek⟩ := State.fieldFound?_setVm hal hi
  have hab : a < b := by
    rcases Nat.lt_or_ge a b with h | h
    · exact h
    · rw [hst a cell h hcell] at hs; cases hs
  exact Cond.laysStatic_of (s := U) (by rw [hal.findClass]; exact hc) hi' hst' (by rw [hek]; exact ha) (by rw [hH a hab]; exact hcell) hs hcls hlt (by rw [hek]; exact hty)
theorem x_isref {A A' : Array Value} {s U : State} {b : Nat} {O f d : String} (hl : (Cond.laysStatic O f d).before A s = true) (hr : (Cond.isRef (.static O f d)).before A s = true) (hal : s.vm.Alike U.vm) (hst : ∀ (a : Nat) (cell : Cell), b ≤ a → s.heap[a]? = some cell → cell.vm.isStatics = false) (hH : ∀ q : Nat, q < b → U.heap[q]? = s.heap[q]?) : (Cond.isRef (.static O f d)).before A' U = true := by
  obtain ⟨c, k, i, f', a, cell, hc, hi, hst', ha, hcell, hs, hcls, hlt, hty⟩ := Cond.laysStatic_spec hl
  obtain ⟨u, hu⟩ := Cond.staticRefV hi hst' ha hcell hs hr
  obtain ⟨k', hi0, hek⟩ := State.fieldFound?_setVm hal hi
  have hi' : U.fieldFound? O f d = some (c, k', i, f') := hi0
  have hab : a < b := by
    rcases Nat.lt_or_ge a b with h | h
    · exact h
    · rw [hst a cell h hcell] at hs; cases hs
  have hsta : k'.statics = some a := by rw [hek]; exact ha
  have hcell' : U.heap[a]? = some cell := by rw [hH a hab]; exact hcell
  have he : (Term.static O f d).eval A' U none [] U = cell.slots[f'.slot]? := by
    simp [Term.eval, State.fieldNamed?, hi', hst', hsta, hcell', hs]
  simp only [Cond.before, Cond.holds, Cond.value]
  rw [he, hu]
  obtain ⟨v, hv⟩ := u
  cases v <;> simp [Value.isRef] at hv <;> rfl
def m_xst : List (String × String × String) := [("java/lang/Throwable", "UNASSIGNED_STACK", "[Ljava/lang/StackTraceElement;"), ("java/lang/Throwable", "SUPPRESSED_SENTINEL", "Ljava/util/List;")]
/-- what else holds of the tables and of what lies below b: for the methods that make arrays of objects, or throw -/
def m_E (b : Nat) (U : State) : Prop := va_AO "RuleHouse2$RuleClass" U ∧ va_AO "RuleHouse2$Target" U ∧ (b ≤ U.heap.size ∧ ∀ (a : Nat) (cell : Cell), b ≤ a → U.heap[a]? = some cell → cell.vm.isStatics = false) ∧ (∀ (A : Array Value), ∀ w ∈ m_xA ++ m_xI, w.before A U = true) ∧ (∃ q, vk_R "RuleHouse2" 143 "divided by 0" q U) ∧ ∃ q, vk_R "RuleHouse2" 150 "the call of this handle has ended" q U
theorem m_xmove {A0 : Array Value} {s U : State} {b : Nat} (h : ∀ w ∈ m_xA ++ m_xI, w.before A0 s = true) (hW : s.WarmedH U.vm) (hst : ∀ (a : Nat) (cell : Cell), b ≤ a → s.heap[a]? = some cell → cell.vm.isStatics = false) (hH : ∀ q : Nat, q < b → U.heap[q]? = s.heap[q]?) : ∀ (A : Array Value), ∀ w ∈ m_xA ++ m_xI, w.before A U = true := by
  intro A w hw
  have hk : (goodWord w || (w.onTables && w.faceAtom) || m_xq w) = true := by
    rcases List.mem_append.mp hw with h1 | h1
    · exact List.all_eq_true.mp m_xA_k w h1
    · exact List.all_eq_true.mp m_xI_k w h1
  have h1 := h w hw
  rcases Bool.or_eq_true _ _ |>.mp hk with hk | hk
  · rcases Bool.or_eq_true _ _ |>.mp hk with hk | hk
    · exact word_at hW (good_of_word hk) h1
    · rw [Bool.and_eq_true] at hk
      exact va_tabs hk.1 (rfl : (s.setVm U.vm).vm = U.vm) (Cond.faceAtom_setVm hW.alike w hk.2 h1)
  · have hlay : ∀ O f d, w = .isRef (.static O f d) → (Cond.laysStatic O f d) ∈ m_xA ++ m_xI := by
      have hd : (m_xA ++ m_xI).all (fun w => match w with
        | .isRef (.static O f d) => decide ((O, f, d) ∈ m_xst)
        | _ => true) = true := by decide +kernel
      have hd2 : m_xst.all (fun q => decide (Cond.laysStatic q.1 q.2.1 q.2.2 ∈ m_xA ++ m_xI)) = true := by decide +kernel
      intro O f d e
      have h2 := List.all_eq_true.mp hd w hw
      rw [e] at h2
      have h3 := List.all_eq_true.mp hd2 _ (of_decide_eq_true h2)
      exact of_decide_eq_true h3
    match w, hk, h1, hlay with
    | .laysStatic O f d, _, h1, _ => exact x_lays h1 hW.alike hst hH
    | .isRef (.static O f d), _, h1, hlay => exact x_isref (h _ (hlay O f d rfl)) h1 hW.alike hst hH
theorem m_E.moved {b : Nat} {s U : State} (h : m_E b s) (hW : s.WarmedH U.vm) (hH : ∀ q : Nat, q < b → U.heap[q]? = s.heap[q]?) (hU : b ≤ U.heap.size ∧ ∀ (a : Nat) (cell : Cell), b ≤ a → U.heap[a]? = some cell → cell.vm.isStatics = false) : m_E b U := by
  obtain ⟨h1, h2, h3, h4, ⟨q5, h5⟩, q6, h6⟩ := h
  exact ⟨h1.moved hW.alike, h2.moved hW.alike, hU, m_xmove (h4 #[]) hW h3.2 hH, ⟨q5, h5.warm hW⟩, q6, h6.warm hW⟩
def m_PcE (D : va_G) (cl : List vw_C) (tys : List (ClassId × FieldType)) (b : Nat) (st : MS) (as : List Value) : Array Value → State → Prop := fun v U => m_Pc D cl tys b st as v U ∧ m_E b U
theorem m_blindE {D : va_G} {cl : List vw_C} {tys : List (ClassId × FieldType)} {b : Nat} {st : MS} {as : List Value} : FrameBlind (m_PcE D cl tys b st as) := fun a U g mk q => ⟨m_blind a U g mk q.1, q.2.moved (U := U.calling g mk a) (State.WarmedH.refl U) (fun _ _ => rfl) q.2.2.2.1⟩
theorem m_E.to {s U : State} {H : Heap} {D : va_G} {cl : List vw_C} {tys : List (ClassId × FieldType)} {b : Nat} {st : MS} {locs : List Loc} (hP : mw D cl tys b st H) (hE : m_E b s) (hS : va_S (m_A b) s.heap H locs) (hU : U.heap = H) (hW : s.WarmedH U.vm) : m_E b U :=
  hE.moved hW (fun q hq => by rw [hU]; exact hS.2.1 q (Nat.lt_of_lt_of_le hq hE.2.2.1.1) (Nat.not_le.mpr hq)) ⟨by rw [hU, hP.1]; exact hP.2.1, by rw [hU]; exact hP.2.2.2⟩
theorem m_preSE {s : State} {H : Heap} {D : va_G} {cl : List vw_C} {tys : List (ClassId × FieldType)} {b : Nat} {st : MS} {as : List Value} {locs : List Loc} (hK : va_K D cl tys s) (hP : mw D cl tys b st H) (hE : m_E b s) (hS : va_S (m_A b) s.heap H locs) : PreS s H (m_PcE D cl tys b st as) as := ⟨m_blindE, fun U hU hW => ⟨(m_preS hK hP).2 U hU hW, hE.to hP hS hU hW⟩⟩
theorem m_preVE {s : State} {H : Heap} {D : va_G} {cl : List vw_C} {tys : List (ClassId × FieldType)} {b a ci : Nat} {st : MS} {as : List Value} {r0 : vw_C} {locs : List Loc} (hK : va_K D cl tys s) (hP : mw D cl tys b st H) (hk : st.2.1 a = some (.inl ci)) (hc : cl[ci]? = some r0) (hE : m_E b s) (hS : va_S (m_A b) s.heap H locs) : PreV s H r0.1 a (m_PcE D cl tys b st (.ref a :: as)) as := by
  have h := m_preV (as := as) hK hP hk hc
  exact ⟨m_blindE, h.2.1, fun U hU hW => ⟨h.2.2 U hU hW, hE.to hP hS hU hW⟩⟩
theorem m_metE {l : Launch} {y : MethodName} {ws ws' : List Cond} {rm : Room} {mc ms : Nat} {cc : ByteArray} {maxL : Nat} {ret : Option FieldType} {D : va_G} {cl : List vw_C} {tys : List (ClassId × FieldType)} {b : Nat} {st st' : MS} {as : List Value} {v : Option Value}
    (hy : plainName y.cls = true) (hw : ws = Cond.code y cc maxL ret :: ws') (hlen : (lg_sl as).length ≤ maxL)
    (body : ∀ (p : Program) (e : Env) (s : State) (m : MethodId) (below : List Frame) (meth : Method) (c : Code) (ls : Array Slot), CallFix p m c cc maxL s as.toArray ws y.cls → meth.sig.returnType = ret → meth.locks = false → meth.name = y.name → va_K D cl tys s → mw D cl tys b st s.heap → lv_has ls maxL (lv_args 0 as) → va_S (m_A b) s.heap s.heap [] → m_E b s →
      W p l e rm s m as.toArray below meth c s.heap [] 0 0 (MQ below (m_Q D cl tys b v st') as.toArray s mc ms (m_A b)) (F0 m 0 ls [])) : Met l y ws rm (m_PcE D cl tys b st as) (m_Q D cl tys b v st') mc ms (m_A b) := by
  refine Met.ofW (cc := cc) (maxL := maxL) (ret := ret) hy hw ?_
  intro p e s m args below meth c s₁ B hml hv
  obtain ⟨⟨rfl, hP, hK⟩, hE⟩ := hv
  have hts := atoms_spec (ws := ws) B.pre
  have hl := lv_entry as (n := maxL) hlen
  rw [lg_entry_eq]
  exact body p e s m below meth c _ ⟨B.exec, B.bytes, hml, findClass_of_methodNamed B.named, hts⟩ B.returns B.notSynchronized (name_of_methodNamed B.named B.method).1 hK hP hl va_S.rf hE
