/-! a method's end, its contract, calls -/
section Ends
variable {M : MD} {x : Bool} {R : Room} {Q : PQ} {K : KT} {P : PT} {J I : IT} {cs n pc : Nat} {L : List (Nat × AV)} {S : List AV}
theorem QN.of {p : Program} {l : Launch} {s : State} {m : MethodId} {args : Array Value} {meth : Method} {c : Code} {D : GD} {ad0 ad : Nat → Nat} {K0 : KT} {dom : List Nat} {H : Heap} {locs : List Loc} {r : Option AV}
    (X : CX M x R p l s m args meth c D ad0 ad K0 dom H locs K P J I L S) (hq : Q (.inl r) K P J I) (hr : ∀ v, r = some v → WFv K v) {a : Array Value} {t : State} (ht : t.heap = H) (hW : s.WarmedH t.vm) : QN Q D ad0 K0 s.heap.size a s (.returned (r.map (cv ad))) t := by
  obtain ⟨x1, x2, x3, x4, x5, x6, x7, x8, x9⟩ := X
  exact ⟨⟨r, K, P, J, I, ad, dom, rfl, hq, x4, hr, x9.1, by rw [ht]; exact x7, va_K.moved hW.alike x2⟩, x8.F ht⟩
theorem VW.iret {z : Int} {ty : FieldType} (d : decode M.2.1 pc = .ok (.ireturn, 1)) (hM : M.2.2.2.1 = some ty) (hn : narrow ty (.int (Int32.ofInt z)) = .int (Int32.ofInt z)) (h1 : cs ≤ R.cells) (h2 : n ≤ R.slots) (hq : Q (.inl (some (vI z))) K P J I) : VW M x R Q K P J I cs n pc L [vI z] := by
  intro p l e s m args below meth c D ad0 ad K0 dom H locs ls X hl
  refine W.widen h1 h2 ?_
  have h : W p l e R s m args below meth c H locs R.cells R.slots (MQ below (QN Q D ad0 K0 s.heap.size) args s R.cells R.slots (AF ad0 K0 s.heap.size)) (F0 m pc ls [.int (Int32.ofInt z)]) :=
    W.zret X.1.1 X.1.2.1 (X.1.2.2.1.trans hM) hn (fun t ht hW => QN.of (r := some (vI z)) X hq (fun v e => by cases e; exact X.2.2.2.2.1.hd) ht hW) X.2.2.2.2.2.2.2.1.2.2 d X.1.2.2.2.2.2.2.1
  unfold QF QFz
  cases x with
  | true => exact vx_ret h
  | false => exact h
theorem VW.lret {z : Int} (d : decode M.2.1 pc = .ok (.lreturn, 1)) (hM : M.2.2.2.1 = some .long) (h1 : cs ≤ R.cells) (h2 : n ≤ R.slots) (hq : Q (.inl (some (vJ z))) K P J I) : VW M x R Q K P J I cs n pc L [vJ z] := by
  intro p l e s m args below meth c D ad0 ad K0 dom H locs ls X hl
  refine W.widen h1 h2 ?_
  have h : W p l e R s m args below meth c H locs R.cells R.slots (MQ below (QN Q D ad0 K0 s.heap.size) args s R.cells R.slots (AF ad0 K0 s.heap.size)) (F0 m pc ls [.long (Int64.ofInt z)]) :=
    W.lret X.1.1 X.1.2.1 (X.1.2.2.1.trans hM) (fun t ht hW => QN.of (r := some (vJ z)) X hq (fun v e => by cases e; exact X.2.2.2.2.1.hd) ht hW) X.2.2.2.2.2.2.2.1.2.2 d X.1.2.2.2.2.2.2.1
  unfold QF QFz
  cases x with
  | true => exact vx_ret h
  | false => exact h
theorem VW.vret (d : decode M.2.1 pc = .ok (.return_, 1)) (hM : M.2.2.2.1 = none) (h1 : cs ≤ R.cells) (h2 : n ≤ R.slots) (hq : Q (.inl none) K P J I) : VW M x R Q K P J I cs n pc L [] := by
  intro p l e s m args below meth c D ad0 ad K0 dom H locs ls X hl
  refine W.widen h1 h2 ?_
  have h : W p l e R s m args below meth c H locs R.cells R.slots (MQ below (QN Q D ad0 K0 s.heap.size) args s R.cells R.slots (AF ad0 K0 s.heap.size)) (F0 m pc ls []) :=
    W.vret X.1.1 X.1.2.1 (X.1.2.2.1.trans hM) (fun t ht hW => QN.of (r := none) X hq (fun v e => by cases e) ht hW) X.2.2.2.2.2.2.2.1.2.2 d X.1.2.2.2.2.2.2.1
  unfold QF QFz
  cases x with
  | true => exact vx_ret h
  | false => exact h
theorem VW.aret {r : Option Nat} {rt : FieldType} (d : decode M.2.1 pc = .ok (.areturn, 1)) (hM : M.2.2.2.1 = some rt) (hrt : (∃ n, rt = .object n) ∨ ∃ t, rt = .array t) (h1 : cs ≤ R.cells) (h2 : n ≤ R.slots) (hq : Q (.inl (some (vR r))) K P J I) : VW M x R Q K P J I cs n pc L [vR r] := by
  intro p l e s m args below meth c D ad0 ad K0 dom H locs ls X hl
  refine W.widen h1 h2 ?_
  have h : W p l e R s m args below meth c H locs R.cells R.slots (MQ below (QN Q D ad0 K0 s.heap.size) args s R.cells R.slots (AF ad0 K0 s.heap.size)) (F0 m pc ls [cv ad (vR r)]) :=
    W.aret X.1.1 X.1.2.1 (X.1.2.2.1.trans hM) hrt (by cases r with | none => exact Or.inl rfl | some q => exact Or.inr ⟨ad q, rfl⟩) (fun t ht hW => QN.of (r := some (vR r)) X hq (fun v e => by cases e; exact X.2.2.2.2.1.hd) ht hW) X.2.2.2.2.2.2.2.1.2.2 d X.1.2.2.2.2.2.2.1
  unfold QF QFz
  cases x with
  | true => exact vx_ret h
  | false => exact h
end Ends
/-- a method's words: its own code, and all good words of the tables -/
def wsM (M : MD) : List Cond := (bif M.2.2.2.2.isEmpty then Cond.code M.1 M.2.1 M.2.2.1 M.2.2.2.1 else Cond.codeWith M.1 M.2.1 M.2.2.1 M.2.2.2.1 M.2.2.2.2) :: TB
def PcM (D : GD) (ad : Nat → Nat) (dom : List Nat) (K : KT) (P : PT) (J I : IT) (as : List AV) (sz : Nat) : Array Value → State → Prop := fun v U =>
  v = (as.map (cv ad)).toArray ∧ U.heap.size = sz ∧ Rep D (AF ad K sz) ad dom K P J I U.heap ∧ va_K (D.1, D.2.1) classes (tysOf D) U ∧ ZF D (AF ad K sz) U U.heap ∧ NW U ∧ EX D ad K
/-- the contract of M at a heap and arguments: it ends with Q; x: it may throw -/
def Sp (M : MD) (x : Bool) (R : Room) (Q : PQ) (K : KT) (P : PT) (J I : IT) (as : List AV) : Prop :=
  ∀ (l : Launch), l.stackTraces = false → ∀ (D : GD) (ad : Nat → Nat) (dom : List Nat) (sz : Nat), WF K P J I → WFs K as →
    match x with
    | true => vx_Met l M.1 (wsM M) R (PcM D ad dom K P J I as sz) (QN Q D ad K sz) (QX Q D ad K sz) R.cells R.slots (AF ad K sz)
    | false => Met l M.1 (wsM M) R (PcM D ad dom K P J I as sz) (QN Q D ad K sz) R.cells R.slots (AF ad K sz)
def la : Nat → List AV → List (Nat × AV)
  | _, [] => []
  | i, v :: vs => (i, v) :: la (bif isJ v then i + 2 else i + 1) vs
def sl : List AV → Nat
  | [] => 0
  | v :: vs => (bif isJ v then 2 else 1) + sl vs
theorem cat_ite (ad : Nat → Nat) (v : AV) {α : Type} (a b : α) : (if (cv ad v).category = 2 then a else b) = bif isJ v then a else b := by
  have h := cv_cat ad v
  cases hj : isJ v with
  | true => rw [hj] at h; rw [if_pos (beq_iff_eq.mp h)]; rfl
  | false => rw [hj] at h; rw [if_neg (fun e => by rw [beq_iff_eq.mpr e] at h; cases h)]; rfl
theorem la_cl (ad : Nat → Nat) (as : List AV) : ∀ i, cl ad (la i as) = lv_args i (as.map (cv ad)) := by
  induction as with
  | nil => intro i; rfl
  | cons v vs ih =>
    intro i
    show (i, cv ad v) :: cl ad (la (bif isJ v then i + 2 else i + 1) vs) = (i, cv ad v) :: lv_args (if (cv ad v).category = 2 then i + 2 else i + 1) (vs.map (cv ad))
    rw [ih, cat_ite]
theorem sl_len (ad : Nat → Nat) (as : List AV) : (lg_sl (as.map (cv ad))).length = sl as := by
  induction as with
  | nil => rfl
  | cons v vs ih =>
    show ((if (cv ad v).category = 2 then [Slot.val (cv ad v), .second] else [.val (cv ad v)]) ++ lg_sl (vs.map (cv ad))).length = _
    rw [List.length_append, ih, cat_ite]
    show _ = (bif isJ v then 2 else 1) + sl vs
    cases isJ v <;> rfl
theorem la_wf {K : KT} {as : List AV} (h : WFs K as) : ∀ i, WFl K (la i as) := by
  induction as with
  | nil => intro i q hq; cases hq
  | cons v vs ih =>
    intro i q hq
    rcases List.mem_cons.mp hq with rfl | hq
    · exact h.hd
    · exact ih h.tl _ q hq
theorem Sp.ofV {M : MD} {x : Bool} {R : Room} {Q : PQ} {K : KT} {P : PT} {J I : IT} {as : List AV} (hy : plainName M.1.cls = true) (hh : x = true ∨ M.2.2.2.2 = []) (hn : Nat.ble (sl as) M.2.2.1 = true) (h : VW M x R Q K P J I 0 0 0 (la 0 as) []) : Sp M x R Q K P J I as := by
  intro l hst D ad dom sz hwf has
  have body : ∀ (p : Program) (e : Env) (s : State) (m : MethodId) (args : Array Value) (below : List Frame) (meth : Method) (c : Code) (s₁ : State), BodyLoose p l M.1 (headSpec (wsM M) R) M.2.1 M.2.2.1 M.2.2.2.1 e s m args below meth c s₁ → c.maxLocals = M.2.2.1 → (x = true → c.exceptionTable.toList = tableOf M.2.2.2.2) → PcM D ad dom K P J I as sz args s →
      W p l e R s m args below meth c s.heap [] 0 0 (QFz x Q D ad K below args s R sz) (entryFrame m args M.2.2.1) := by
    intro p e s m args below meth c s₁ B hml ht hv
    obtain ⟨rfl, hsz, hRep, hK, hZ, hNW, hEX⟩ := hv
    subst hsz
    have hts := atoms_spec (ws := wsM M) B.pre
    have hl := lv_entry (as.map (cv ad)) (n := M.2.2.1) (by rw [sl_len]; exact Nat.le_of_ble_eq_true hn)
    rw [lg_entry_eq]
    rw [← la_cl] at hl
    exact h p l e s m _ below meth c D ad ad K dom s.heap [] _ ⟨⟨B.exec, B.bytes, B.returns, hml, findClass_of_methodNamed B.named, fun w hw => hts w (List.mem_cons_of_mem _ hw), B.notSynchronized, fun e => ((name_of_methodNamed B.named B.method).1).trans e, hst, hNW, ht⟩, hK, hZ, hwf, (fun v hv => nomatch hv), la_wf has 0, hRep, va_S.rf, fun o ho => ⟨ho, rfl⟩, hEX⟩ hl
  cases x with
  | true =>
    show vx_Met _ _ _ _ _ _ _ _ _ _
    cases he : M.2.2.2.2.isEmpty with
    | true =>
      have e0 : M.2.2.2.2 = [] := List.isEmpty_iff.mp he
      refine vx_ofW (cc := M.2.1) (maxL := M.2.2.1) (ret := M.2.2.2.1) (ws' := TB) hy (by unfold wsM; rw [he]; rfl) (fun p e s m args below meth c s₁ B hml ht hv => body p e s m args below meth c s₁ B hml (fun _ => ?_) hv)
      cases hl : c.exceptionTable.toList with
      | nil => rw [e0]; rfl
      | cons a b => exact (ht a (by rw [hl]; exact List.mem_cons_self)).elim
    | false =>
      refine vx_ofWH (cc := M.2.1) (maxL := M.2.2.1) (ret := M.2.2.2.1) (hh := M.2.2.2.2) (ws' := TB) hy (by unfold wsM; rw [he]; rfl) (fun p e s m args below meth c s₁ B hml hv => body p e s m args below meth c s₁ B hml (fun _ => vx_table (x := M.1) (y := M.1) (bytes := M.2.1) (maxL' := M.2.2.1) (ret' := M.2.2.2.1) B (atoms_spec (ws := wsM M) B.pre _ (by unfold wsM; rw [he]; exact List.mem_cons_self))) hv)
  | false =>
    have e0 : M.2.2.2.2 = [] := hh.elim (fun e => by cases e) id
    show Met _ _ _ _ _ _ _ _ _
    exact Met.ofW (cc := M.2.1) (maxL := M.2.2.1) (ret := M.2.2.2.1) (ws' := TB) hy (by unfold wsM; rw [e0]; rfl) (fun p e s m args below meth c s₁ B hml hv => body p e s m args below meth c s₁ B hml (fun q => by cases q) hv)
