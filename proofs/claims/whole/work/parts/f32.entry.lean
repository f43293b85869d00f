/-! the law's start: all that stands around its entry -/
section
variable {p : Program} {l : Launch} {e : Env} {s : State} {m : MethodId} {below : List Frame} {meth : Method} {c : Code} {b L : Nat} {xs : Nat → Int32}
theorem len_0 {t : Term} {args : Array Value} {a : Nat} {cell : Cell} (ht : t.eval args s none [] s = some (.ref a)) (hc : s.heap[a]? = some cell) (h : (Cond.eq (.length t) (.int 0)).before args s = true) : cell.slots.size = 0 := by
  have hv : (Term.length t).eval args s none [] s = some (.int 0) := by
    cases hv : (Term.length t).eval args s none [] s with
    | none => simp [Cond.before, Cond.holds, Cond.value, hv] at h
    | some w =>
      have hz : (Term.int 0).eval args s none [] s = some (.int 0) := rfl
      simp only [Cond.before, Cond.holds, Cond.value, hv, hz] at h
      cases w <;> simp_all
  obtain ⟨a2, cell2, e1, e2, e3⟩ := Term.length_spec hv
  rw [ht] at e1
  cases e1
  have e4 := (State.arrayAt?_spec e2).1
  rw [hc] at e4
  cases e4
  have hsz : cell.slots.size < 2 ^ 31 := by
    simp only [Term.eval, ht, e2, Option.bind_eq_bind, Option.bind_some] at hv
    by_cases hlt : cell.slots.size < 2147483648
    · exact hlt
    · simp [hlt] at hv
  injection e3 with e3
  have u := Int32.toInt_ofNat_small hsz
  have w : (0 : Int32).toInt = (Int32.ofNat cell.slots.size).toInt := congrArg Int32.toInt e3
  rw [u] at w
  have z : (0 : Int32).toInt = 0 := rfl
  omega
theorem knows_0 {args : Array Value} (htb : ∀ w ∈ TB, w.before args s = true) : ∀ c : Nat, ∃ (cC : ClassId) (iS : Nat → Nat), ∀ q : vw_C, classes[c]? = some q → u_Kn s q.1 q.2.1 q.2.2 cC iS
  | 0 => by
    obtain ⟨cC, iS, h⟩ := u_known (C := R0) (T := T0) (N := 8) (n := 8) htb in0 (htb _ kw_instantiable_RowForge_Engine_8)
    exact ⟨cC, iS, fun q hq => by cases hq; exact h⟩
  | 1 => by
    obtain ⟨cC, iS, h⟩ := u_known (C := R1) (T := T1) (N := 7) (n := 7) htb in1 (htb _ kw_instantiable_RowForge_Evaluator_7)
    exact ⟨cC, iS, fun q hq => by cases hq; exact h⟩
  | 2 => by
    obtain ⟨cC, iS, h⟩ := u_known (C := R2) (T := T2) (N := 5) (n := 5) htb in2 (htb _ kw_instantiable_RowForge_Log_5)
    exact ⟨cC, iS, fun q hq => by cases hq; exact h⟩
  | 3 => by
    obtain ⟨cC, iS, h⟩ := u_known (C := R3) (T := T3) (N := 14) (n := 14) htb in3 (htb _ kw_instantiable_RowForge_Planner_14)
    exact ⟨cC, iS, fun q hq => by cases hq; exact h⟩
  | 4 => by
    obtain ⟨cC, iS, h⟩ := u_known (C := R4) (T := T4) (N := 13) (n := 13) htb in4 (htb _ kw_instantiable_RowForge_Query_13)
    exact ⟨cC, iS, fun q hq => by cases hq; exact h⟩
  | 5 => by
    obtain ⟨cC, iS, h⟩ := u_known (C := R5) (T := T5) (N := 3) (n := 3) htb in5 (htb _ kw_instantiable_RowForge_Relation_3)
    exact ⟨cC, iS, fun q hq => by cases hq; exact h⟩
  | 6 => by
    obtain ⟨cC, iS, h⟩ := u_known (C := R6) (T := T6) (N := 1) (n := 1) htb in6 (htb _ kw_instantiable_RowForge_Rows_1)
    exact ⟨cC, iS, fun q hq => by cases hq; exact h⟩
  | 7 => by
    obtain ⟨cC, iS, h⟩ := u_known (C := R7) (T := T7) (N := 8) (n := 8) htb in7 (htb _ kw_instantiable_RowForge_Schema_8)
    exact ⟨cC, iS, fun q hq => by cases hq; exact h⟩
  | 8 => by
    obtain ⟨cC, iS, h⟩ := u_known (C := R8) (T := T8) (N := 19) (n := 19) htb in8 (htb _ kw_instantiable_RowForge_Transaction_19)
    exact ⟨cC, iS, fun q hq => by cases hq; exact h⟩
  | 9 => by
    obtain ⟨cC, iS, h⟩ := u_known (C := R9) (T := T9) (N := 8) (n := 8) htb in9 (htb _ kw_instantiable_RowForge_Trial_8)
    exact ⟨cC, iS, fun q hq => by cases hq; exact h⟩
  | 10 => by
    obtain ⟨cC, iS, h⟩ := u_known (C := R10) (T := T10) (N := 11) (n := 11) htb in10 (htb _ kw_instantiable_RowForge_11)
    exact ⟨cC, iS, fun q hq => by cases hq; exact h⟩
  | 11 => by
    obtain ⟨cC, iS, h⟩ := u_known (C := R11) (T := T11) (N := 94) (n := 94) htb in11 (htb _ kw_instantiable_RowForgeModel_94)
    exact ⟨cC, iS, fun q hq => by cases hq; exact h⟩
  | 12 => by
    obtain ⟨cC, iS, h⟩ := u_known (C := R12) (T := T12) (N := 3) (n := 3) htb in12 (htb _ kw_instantiable_java_util_ArrayList_3)
    exact ⟨cC, iS, fun q hq => by cases hq; exact h⟩
  | _ + 13 => ⟨0, fun _ => 0, fun q hq => by cases hq⟩
/-- the script's ints -/
def xz (xs : Nat → Int32) : Int → Int := fun k => if 0 ≤ k then (xs k.toNat).toInt else 0
theorem xz_r {k : Int} : inR (xz xs k) := by
  unfold xz
  by_cases h : 0 ≤ k
  · rw [if_pos h]
    exact ⟨Int32.le_toInt _, Int32.toInt_le _⟩
  · rw [if_neg h]
    exact inR0
theorem xz_n {j : Nat} : Int32.ofInt (xz xs (j : Int)) = xs j := by
  unfold xz
  rw [if_pos (Int.natCast_nonneg j), Int.toNat_natCast]
  exact Int32.ofInt_toInt _
theorem Kz_ou {o : Nat} (h : (Kz L o).isSome = true) : ou (Kz L) o := by
  by_cases h1 : o = 49
  · subst h1
    exact Or.inr ⟨L, rfl⟩
  · by_cases h2 : o = 999
    · exact Or.inl h2
    · rw [Kz_o h1 h2] at h
      cases h
theorem Kz_14 {o n : Nat} (h : Kz L o = some (14, n)) : o = 49 ∧ n = L := by
  by_cases h1 : o = 49
  · subst h1
    cases h
    exact ⟨rfl, rfl⟩
  · by_cases h2 : o = 999
    · subst h2
      cases h
    · rw [Kz_o h1 h2] at h
      cases h
theorem wf_0 : WF (Kz L) Pz Jz (Iz (xz xs)) := by
  refine ⟨fun o k => ?_, fun o k => (show inJ 0 from ⟨by decide, by decide⟩), fun o k q hq => (by cases hq), fun o ho => ⟨fun k => ?_, fun k => rfl, fun k => rfl⟩⟩
  · unfold Iz
    by_cases h : o = 49
    · rw [if_pos h]
      exact xz_r
    · rw [if_neg h]
      exact inR0
  · unfold Iz
    rw [if_neg (fun z => by subst z; cases ho)]
theorem af_0 {ad : Nat → Nat} {a : Nat} (ha : a < s.heap.size) : ¬ AF ad (Kz L) s.heap.size a := by
  intro h
  rcases h with ⟨o, h1, h2, -⟩ | h
  · exact h2 (Kz_ou h1)
  · exact absurd ha (Nat.not_lt_of_le h)
theorem start_cx (hst : l.stackTraces = false) (hx : p.tables.exec = Jvm.exec) (hb : c.code = code) (hr : meth.sig.returnType = ret) (hml : c.maxLocals = 7) (hown : s.vm.findClass "RowForgeLaw" = some m.cls) (hts : ∀ w ∈ lw_tbl, w.before #[Value.ref b] s = true) (hX : va_X b L xs s s.heap) (hbl : b < s.heap.size) (hlocks : meth.locks = false) (hgv : (Jvm.Cond.and given_1 narrow_1).before #[Value.ref b] s = true) :
    ∃ (D : GD) (ad : Nat → Nat), CX m_Law_law false room_1 p l s m #[Value.ref b] meth c D ad ad (Kz L) [] s.heap [] (Kz L) Pz Jz (Iz (xz xs)) [(0, vR (some 49))] [] ∧ ad 49 = b := by
  have htb : ∀ w ∈ TB, w.before #[Value.ref b] s = true := fun w hw => hts w (tb_in hw)
  have fl := flat_of_before _ hgv
  obtain ⟨z, cS, cell, kS, he, -, hcell, -, -, -, -⟩ := Cond.exactly_spec (fl _ nr_ex)
  have ha := Cond.arrayOf_spec (fl _ nr_ao) he hcell
  have hl0 := len_0 he hcell (fl _ nr_le)
  have hzl : z < s.heap.size := (Array.getElem?_eq_some_iff.mp hcell).1
  have nzb : z ≠ b := fun q => by
    subst q
    obtain ⟨scr, g1, ⟨-, k1, g3, c1, g4⟩, -⟩ := hX
    obtain ⟨⟨-, k2, g5, c2, g6⟩, -⟩ := ha
    rw [hcell] at g1
    cases g1
    rw [g3] at g5
    cases g5
    rw [g4] at g6
    cases g6
  obtain ⟨cI, kI, pI, i1, i2, i3⟩ := Cond.arrayClass_spec (htb _ kw_arrayClass_int)
  obtain ⟨cZ, kZ, pZ, z1, z2, z3⟩ := Cond.arrayClass_spec (htb _ kw_arrayClass_boolean)
  obtain ⟨cJ, kJ, pJ, j1, j2, j3⟩ := Cond.arrayClass_spec (htb _ kw_arrayClass_long)
  obtain ⟨pR, cR, kR, r1, -, r3, r4, r5⟩ := Cond.arrayOver_spec (hts _ ao_rel)
  obtain ⟨pO, cO, kO, o1, -, o3, o4, o5⟩ := Cond.arrayOver_spec (hts _ ao_obj)
  have Hk := knows_0 htb
  have hK1 : ∀ (c : Nat) (q : vw_C), classes[c]? = some q → u_Kn s q.1 q.2.1 q.2.2 (Classical.choose (Hk c)) (Classical.choose (Classical.choose_spec (Hk c))) := fun c => Classical.choose_spec (Classical.choose_spec (Hk c))
  refine ⟨(fun c => Classical.choose (Hk c), fun c => Classical.choose (Classical.choose_spec (Hk c)), (fun k => if k = 0 then cI else if k = 1 then cZ else if k = 2 then cJ else if k = 3 then cR else cO), z, b, L, xs), fun o => if o = 49 then b else z, ⟨⟨hx, hb, hr, hml, hown, htb, hlocks, (fun e => absurd e (by decide)), hst, ⟨fun q hq => va_Nw.of rfl (hts _ (nb_in q hq)), fun q hq => va_Nw.of rfl (hts _ (nc_in q hq)), fun q hq => va_Nw.of rfl (hts _ (nd_in q hq)), fun q hq => va_Nc.of (fl _ (nn_in q hq)), va_AO.of (hts _ ao_rel), va_AO.of (hts _ ao_obj), va_Mi.of (fl _ nr_mi)⟩, (fun e => by cases e)⟩, ⟨hK1, fun k q hk => ?_⟩, ⟨vx_Zqof (hts _ ls_us) (htb _ kw_initialized_java_lang_Throwable) (fl _ nr_us) (fun a h => af_0 h), vx_Zqof (hts _ ls_ss) (htb _ kw_initialized_java_lang_Throwable) (fl _ nr_ss) (fun a h => af_0 h), va_Zref (hts _ ls_al) (htb _ kw_initialized_java_util_ArrayList) he (fun a h => af_0 h), ⟨⟨cell, hcell, ha.1, ha.2, hl0⟩, hzl, af_0 hzl⟩, hX, hbl, af_0 hbl⟩, wf_0, (fun v hv => nomatch hv), fun q hq => ?_, ⟨List.nodup_nil, ⟨fun o => ⟨(fun h => nomatch h), fun h => absurd (Kz_ou h.1) h.2⟩, ⟨rfl, rfl⟩, fun o n e => ?_, nzb, fun o h1 h2 => absurd (Kz_ou h1) h2⟩, fun k q h => ?_, ⟨fun i j q1 q2 h => ?_, fun k q h => ?_⟩⟩, va_S.rf, fun o ho => ⟨ho, rfl⟩, rfl, rfl⟩, rfl⟩
  · match k, hk with
    | 0, hk => cases hk; exact ⟨fun n f => ⟨fun k h => (by cases h), kI, i2, pI, i3⟩, i1⟩
    | 1, hk => cases hk; exact ⟨fun n f => ⟨fun k h => (by cases h), kZ, z2, pZ, z3⟩, z1⟩
    | 2, hk => cases hk; exact ⟨fun n f => ⟨fun k h => (by cases h), kJ, j2, pJ, j3⟩, j1⟩
    | 3, hk => cases hk; exact ⟨fun n f => ⟨fun k h => (by cases h), kR, r3, pR, r4⟩, kR, pR, r3, r4, r1, r5⟩
    | 4, hk => cases hk; exact ⟨fun n f => ⟨fun k h => (by cases h), kO, o3, pO, o4⟩, kO, pO, o3, o4, o1, o5⟩
    | _ + 5, hk => cases hk
  · rw [List.mem_singleton.mp hq]
    exact fun q hq => by cases hq; rfl
  · obtain ⟨e1, e2⟩ := Kz_14 e
    subst e1
    subst e2
    exact ⟨rfl, rfl, rfl, fun j => xz_n⟩
  · exact nomatch h
  · exact nomatch h
  · exact nomatch h
end
