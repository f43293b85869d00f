/-! contracts of which the end tells what was made -/
abbrev PE : Type := (Option AV ⊕ String) → KT → PT → IT → IT → Nat → Nat → Prop
/-- what came between two heaps: k cells of n slots at most, and the old ones have their sizes -/
def HC (H H1 : Heap) (k n : Nat) : Prop := H1.size ≤ H.size + k ∧ ((H1.toList.drop H.size).map (·.slots.size)).sum ≤ n ∧ ∀ (a : Nat) (c : Cell), H[a]? = some c → ∃ c', H1[a]? = some c' ∧ c'.slots.size = c.slots.size
theorem HC.of {s t : State} {L : List Loc} {k n : Nat} (h : s.sameButNew ({ t with vm := s.vm } : State) L k n) : HC s.heap t.heap k n := by
  obtain ⟨-, h2, h3, h4, h5, h6⟩ := h
  refine ⟨h3, h5, fun a c hc => ?_⟩
  obtain ⟨c', e1, e2, e3, e4⟩ := h6 a c hc
  exact ⟨c', e1, e3⟩
theorem sz_take {H H1 : Heap} (hz : H.size ≤ H1.size) (h : ∀ (a : Nat) (c : Cell), H[a]? = some c → ∃ c', H1[a]? = some c' ∧ c'.slots.size = c.slots.size) : (H1.toList.map (·.slots.size)).take H.size = H.toList.map (·.slots.size) := by
  refine List.ext_getElem? fun i => ?_
  rw [List.getElem?_take]
  by_cases hi : i < H.size
  · rw [if_pos hi, List.getElem?_map, List.getElem?_map, Array.getElem?_toList, Array.getElem?_toList]
    obtain ⟨c', e1, e2⟩ := h i _ (Array.getElem?_eq_getElem hi)
    rw [e1, Array.getElem?_eq_getElem hi]
    show some c'.slots.size = some _
    rw [e2]
  · rw [if_neg hi]
    symm
    rw [List.getElem?_eq_none_iff, List.length_map, Array.length_toList]
    omega
/-- what was counted behind a call can be counted anew -/
theorem same_lower {s T T' : State} {locs locs' : List Loc} {cells slots mc ms k n : Nat} (h1 : s.sameButNew T locs cells slots) (h2 : s.sameButNew T' locs' (cells + mc) (slots + ms)) (hz : T.heap.size ≤ T'.heap.size) (hc : HC T.heap T'.heap k n) : s.sameButNew T' locs' (cells + k) (slots + n) := by
  obtain ⟨-, a2, a3, a4, a5, -⟩ := h1
  obtain ⟨b1, b2, b3, b4, b5, b6⟩ := h2
  obtain ⟨c1, c2, c3⟩ := hc
  refine ⟨b1, b2, by omega, b4, ?_, b6⟩
  have e := sz_take hz c3
  have e2 : T'.heap.toList.map (·.slots.size) = T.heap.toList.map (·.slots.size) ++ (T'.heap.toList.drop T.heap.size).map (·.slots.size) := by
    rw [← e, List.map_drop, List.take_append_drop]
  have e3 : (T'.heap.toList.drop s.heap.size).map (·.slots.size) = (T.heap.toList.drop s.heap.size).map (·.slots.size) ++ (T'.heap.toList.drop T.heap.size).map (·.slots.size) := by
    rw [List.map_drop, e2, List.drop_append_of_le_length (by rw [List.length_map, Array.length_toList]; omega), List.map_drop, List.map_drop]
  rw [e3, List.sum_append]
  omega
def QNE (Q : PE) (D : GD) (ad0 : Nat → Nat) (K0 : KT) (sz : Nat) : Array Value → State → Outcome → State → Prop := fun a st o t => ∃ k n : Nat, HC st.heap t.heap k n ∧ QN (fun r K P J I => Q r K P J I k n) D ad0 K0 sz a st o t
def QXE (Q : PE) (D : GD) (ad0 : Nat → Nat) (K0 : KT) (sz : Nat) : String → State → State → Prop := fun E st t => ∃ k n : Nat, HC st.heap t.heap k n ∧ QX (fun r K P J I => Q r K P J I k n) D ad0 K0 sz E st t
def QFzE (x : Bool) (Q : PE) (D : GD) (ad0 : Nat → Nat) (K0 : KT) (below : List Frame) (args : Array Value) (s : State) (R : Room) (sz : Nat) : State → Prop :=
  match x with
  | true => vx_MQ below (QNE Q D ad0 K0 sz) (QXE Q D ad0 K0 sz) args s R.cells R.slots (AF ad0 K0 sz)
  | false => MQ below (QNE Q D ad0 K0 sz) args s R.cells R.slots (AF ad0 K0 sz)
abbrev QFE (x : Bool) (Q : PE) (D : GD) (ad0 : Nat → Nat) (K0 : KT) (below : List Frame) (args : Array Value) (s : State) (R : Room) : State → Prop := QFzE x Q D ad0 K0 below args s R s.heap.size
def VE (M : MD) (x : Bool) (R : Room) (Q : PE) (K : KT) (P : PT) (J I : IT) (cs n : Nat) (pc : Nat) (L : List (Nat × AV)) (S : List AV) : Prop :=
  ∀ (p : Program) (l : Launch) (e : Env) (s : State) (m : MethodId) (args : Array Value) (below : List Frame) (meth : Method) (c : Code) (D : GD) (ad0 ad : Nat → Nat) (K0 : KT) (dom : List Nat) (H : Heap) (locs : List Loc) (ls : Array Slot),
    CX M x R p l s m args meth c D ad0 ad K0 dom H locs K P J I L S → lv_has ls M.2.2.1 (cl ad L) →
    W p l e R s m args below meth c H locs cs n (QFE x Q D ad0 K0 below args s R) (F0 m pc ls (S.map (cv ad)))
/-- the contract of M at a heap and arguments: it ends with Q, which knows what was made -/
def SpE (M : MD) (x : Bool) (R : Room) (Q : PE) (K : KT) (P : PT) (J I : IT) (as : List AV) : Prop :=
  ∀ (l : Launch), l.stackTraces = false → ∀ (D : GD) (ad : Nat → Nat) (dom : List Nat) (sz : Nat), WF K P J I → WFs K as →
    match x with
    | true => vx_Met l M.1 (wsM M) R (PcM D ad dom K P J I as sz) (QNE Q D ad K sz) (QXE Q D ad K sz) R.cells R.slots (AF ad K sz)
    | false => Met l M.1 (wsM M) R (PcM D ad dom K P J I as sz) (QNE Q D ad K sz) R.cells R.slots (AF ad K sz)
theorem SpE.ofV {M : MD} {x : Bool} {R : Room} {Q : PE} {K : KT} {P : PT} {J I : IT} {as : List AV} (hy : plainName M.1.cls = true) (hh : x = true ∨ M.2.2.2.2 = []) (hn : Nat.ble (sl as) M.2.2.1 = true) (h : VE M x R Q K P J I 0 0 0 (la 0 as) []) : SpE M x R Q K P J I as := by
  intro l hst D ad dom sz hwf has
  have body : ∀ (p : Program) (e : Env) (s : State) (m : MethodId) (args : Array Value) (below : List Frame) (meth : Method) (c : Code) (s₁ : State), BodyLoose p l M.1 (headSpec (wsM M) R) M.2.1 M.2.2.1 M.2.2.2.1 e s m args below meth c s₁ → c.maxLocals = M.2.2.1 → (x = true → c.exceptionTable.toList = tableOf M.2.2.2.2) → PcM D ad dom K P J I as sz args s →
      W p l e R s m args below meth c s.heap [] 0 0 (QFzE x Q D ad K below args s R sz) (entryFrame m args M.2.2.1) := by
    intro p e s m args below meth c s₁ B hml ht hv
    obtain ⟨rfl, hsz, hRep, hK, hZ, hNW, hEX⟩ := hv
    subst hsz
    have hts := atoms_spec (ws := wsM M) B.pre
    have hl := lv_entry (as.map (cv ad)) (n := M.2.2.1) (by rw [sl_len]; exact Nat.le_of_ble_eq_true hn)
    rw [lg_entry_eq]
    rw [← la_cl] at hl
    exact h p l e s m _ below meth c D ad ad K dom s.heap [] _ ⟨⟨B.exec, B.bytes, B.returns, hml, findClass_of_methodNamed B.named, fun w hw => hts w (List.mem_cons_of_mem _ hw), B.notSynchronized, fun e => ((name_of_methodNamed B.named B.method).1).trans e, hst, hNW, ht⟩, hK, hZ, hwf, (fun v hv => nomatch hv), la_wf has 0, hRep, va_S.rf, fun o ho => ⟨ho, rfl⟩, hEX⟩ hl
  cases x with
  | true =>
    show vx_Met _ _ _ _ _ _ _ _ _ _
    cases he : M.2.2.2.2.isEmpty with
    | true =>
      have e0 : M.2.2.2.2 = [] := List.isEmpty_iff.mp he
      refine vx_ofW (cc := M.2.1) (maxL := M.2.2.1) (ret := M.2.2.2.1) (ws' := TB) hy (by unfold wsM; rw [he]; rfl) (fun p e s m args below meth c s₁ B hml ht hv => body p e s m args below meth c s₁ B hml (fun _ => ?_) hv)
      cases hl : c.exceptionTable.toList with
      | nil => rw [e0]; rfl
      | cons a b => exact (ht a (by rw [hl]; exact List.mem_cons_self)).elim
    | false =>
      refine vx_ofWH (cc := M.2.1) (maxL := M.2.2.1) (ret := M.2.2.2.1) (hh := M.2.2.2.2) (ws' := TB) hy (by unfold wsM; rw [he]; rfl) (fun p e s m args below meth c s₁ B hml hv => body p e s m args below meth c s₁ B hml (fun _ => vx_table (x := M.1) (y := M.1) (bytes := M.2.1) (maxL' := M.2.2.1) (ret' := M.2.2.2.1) B (atoms_spec (ws := wsM M) B.pre _ (by unfold wsM; rw [he]; exact List.mem_cons_self))) hv)
  | false =>
    have e0 : M.2.2.2.2 = [] := hh.elim (fun e => by cases e) id
    show Met _ _ _ _ _ _ _ _ _
    exact Met.ofW (cc := M.2.1) (maxL := M.2.2.1) (ret := M.2.2.2.1) (ws' := TB) hy (by unfold wsM; rw [e0]; rfl) (fun p e s m args below meth c s₁ B hml hv => body p e s m args below meth c s₁ B hml (fun q => by cases q) hv)
/-- a contract of either kind -/
theorem Sp.toE {M : MD} {x : Bool} {R : Room} {Q : PQ} {K : KT} {P : PT} {J I : IT} {as : List AV} (h : Sp M x R Q K P J I as) : SpE M x R (fun r K' P' J' I' k n => Q r K' P' J' I' ∧ k = R.cells ∧ n = R.slots) K P J I as := by
  intro l hst D ad dom sz hwf has
  have h0 := h l hst D ad dom sz hwf has
  have hn : ∀ a st o t L, FrameEnd st o t L R.cells R.slots → QN Q D ad K sz a st o t → QNE (fun r K' P' J' I' k n => Q r K' P' J' I' ∧ k = R.cells ∧ n = R.slots) D ad K sz a st o t := by
    intro a st o t L hF ⟨⟨r, K', P', J', I', ad', dom', q1, q2, q3⟩, q4⟩
    exact ⟨R.cells, R.slots, HC.of hF.2.2, ⟨⟨r, K', P', J', I', ad', dom', q1, ⟨q2, rfl, rfl⟩, q3⟩, q4⟩⟩
  cases x with
  | true =>
    intro p e ha hc hk s m args below hs happ hP _
    obtain ⟨n, o, h1, h2, h3, h4⟩ := (show vx_Met l M.1 (wsM M) R _ _ _ R.cells R.slots _ from h0) p e ha hc hk s m args below hs happ hP trivial
    refine ⟨n, o, h1, h2, h3, ?_⟩
    rcases h4 with ⟨h4, L, h5, h6⟩ | ⟨q, h4, E, ce, L, ⟨⟨K', P', J', I', ad', dom', q2, q3⟩, q4⟩, h6, h7, h8, h9, h10, h11⟩
    · exact Or.inl ⟨hn _ _ _ _ L h5 h4, L, h5, h6⟩
    · exact Or.inr ⟨q, h4, E, ce, L, ⟨R.cells, R.slots, HC.of h10, ⟨K', P', J', I', ad', dom', ⟨q2, rfl, rfl⟩, q3⟩, q4⟩, h6, h7, h8, h9, h10, h11⟩
  | false =>
    intro p e ha hc hk s m args below hs happ hP _
    obtain ⟨n, o, h1, h2, h3, h4, L, h5, h6⟩ := (show Met l M.1 (wsM M) R _ _ R.cells R.slots _ from h0) p e ha hc hk s m args below hs happ hP trivial
    exact ⟨n, o, h1, h2, h3, hn _ _ _ _ L h5 h4, L, h5, h6⟩
theorem SpE.weak {M : MD} {x : Bool} {R : Room} {Q Q' : PE} {K : KT} {P : PT} {J I : IT} {as : List AV} (h : SpE M x R Q K P J I as) (hq : ∀ r K1 P1 J1 I1 k n, Q r K1 P1 J1 I1 k n → Q' r K1 P1 J1 I1 k n) : SpE M x R Q' K P J I as := by
  intro l hst D ad dom sz hwf has
  have h0 := h l hst D ad dom sz hwf has
  have hn : ∀ a st o t, QNE Q D ad K sz a st o t → QNE Q' D ad K sz a st o t := fun a st o t ⟨k, n, hh, ⟨r, K', P', J', I', ad', dom', q1, q2, q3⟩, q4⟩ => ⟨k, n, hh, ⟨r, K', P', J', I', ad', dom', q1, hq _ _ _ _ _ _ _ q2, q3⟩, q4⟩
  cases x with
  | true => exact vx_Met.cons (show vx_Met l M.1 (wsM M) R _ _ _ R.cells R.slots _ from h0) (fun _ _ q => q) (fun a U o t _ q => hn a U o t q) (fun a U E t _ ⟨k, n, hh, ⟨K', P', J', I', ad', dom', q2, q3⟩, q4⟩ => ⟨k, n, hh, ⟨K', P', J', I', ad', dom', hq _ _ _ _ _ _ _ q2, q3⟩, q4⟩) (fun _ q => q)
  | false => exact Met.cons (show Met l M.1 (wsM M) R _ _ R.cells R.slots _ from h0) (fun _ _ q => q) (fun a U o t _ q => hn a U o t q) (fun _ q => q)
theorem SpE.ofSp {M : MD} {x : Bool} {R : Room} {Q : PQ} {Q' : PE} {K : KT} {P : PT} {J I : IT} {as : List AV} (h : Sp M x R Q K P J I as) (hq : ∀ r K1 P1 J1 I1, Q r K1 P1 J1 I1 → Q' r K1 P1 J1 I1 R.cells R.slots) : SpE M x R Q' K P J I as := h.toE.weak (fun r K1 P1 J1 I1 k n ⟨a, b, c⟩ => by subst b; subst c; exact hq _ _ _ _ _ a)
/-- at an end, what was made is known -/
theorem MQ.toE {Q : PE} {D : GD} {ad0 : Nat → Nat} {K0 : KT} {sz : Nat} {below : List Frame} {a : Array Value} {s : State} {cs n C N : Nat} {free : Addr → Prop} {t : State} (h1 : cs ≤ C) (h2 : n ≤ N) (h : MQ below (QN (fun r K P J I => Q r K P J I cs n) D ad0 K0 sz) a s cs n free t) : MQ below (QNE Q D ad0 K0 sz) a s C N free t := by
  obtain ⟨o, a1, a2, a3, L, a4, a5⟩ := h
  exact ⟨o, a1, a2, ⟨cs, n, HC.of a4.2.2, a3⟩, L, ⟨a4.1, a4.2.1, a4.2.2.mono h1 h2⟩, a5⟩
theorem W.mapQ {p : Program} {l : Launch} {e : Env} {R : Room} {s : State} {m : MethodId} {args : Array Value} {below : List Frame} {meth : Method} {c : Code} {H : Heap} {locs : List Loc} {cells slots : Nat} {Q Q' : State → Prop} {g : JFrame} (h : W p l e R s m args below meth c H locs cells slots Q g) (hq : ∀ t, Q t → Q' t) : W p l e R s m args below meth c H locs cells slots Q' g := fun T hT X => by
  obtain ⟨t, a, b⟩ := h T hT X
  exact ⟨t, a, hq t b⟩
section Ends
variable {M : MD} {x : Bool} {R : Room} {Q : PE} {K : KT} {P : PT} {J I : IT} {cs n pc : Nat} {L : List (Nat × AV)} {S : List AV}
theorem VE.iret {z : Int} {ty : FieldType} (d : decode M.2.1 pc = .ok (.ireturn, 1)) (hM : M.2.2.2.1 = some ty) (hn : narrow ty (.int (Int32.ofInt z)) = .int (Int32.ofInt z)) (h1 : cs ≤ R.cells) (h2 : n ≤ R.slots) (hq : Q (.inl (some (vI z))) K P J I cs n) : VE M x R Q K P J I cs n pc L [vI z] := by
  intro p l e s m args below meth c D ad0 ad K0 dom H locs ls X hl
  have h : W p l e R s m args below meth c H locs cs n (MQ below (QN (fun r K P J I => Q r K P J I cs n) D ad0 K0 s.heap.size) args s cs n (AF ad0 K0 s.heap.size)) (F0 m pc ls [.int (Int32.ofInt z)]) :=
    W.zret X.1.1 X.1.2.1 (X.1.2.2.1.trans hM) hn (fun t ht hW => QN.of (Q := fun r K P J I => Q r K P J I cs n) (r := some (vI z)) X hq (fun v e => by cases e; exact X.2.2.2.2.1.hd) ht hW) X.2.2.2.2.2.2.2.1.2.2 d X.1.2.2.2.2.2.2.1
  have h' := h.mapQ (fun t => MQ.toE (Q := Q) h1 h2)
  unfold QFE QFzE
  cases x with
  | true => exact vx_ret h'
  | false => exact h'
theorem VE.vret (d : decode M.2.1 pc = .ok (.return_, 1)) (hM : M.2.2.2.1 = none) (h1 : cs ≤ R.cells) (h2 : n ≤ R.slots) (hq : Q (.inl none) K P J I cs n) : VE M x R Q K P J I cs n pc L [] := by
  intro p l e s m args below meth c D ad0 ad K0 dom H locs ls X hl
  have h : W p l e R s m args below meth c H locs cs n (MQ below (QN (fun r K P J I => Q r K P J I cs n) D ad0 K0 s.heap.size) args s cs n (AF ad0 K0 s.heap.size)) (F0 m pc ls []) :=
    W.vret X.1.1 X.1.2.1 (X.1.2.2.1.trans hM) (fun t ht hW => QN.of (Q := fun r K P J I => Q r K P J I cs n) (r := none) X hq (fun v e => by cases e) ht hW) X.2.2.2.2.2.2.2.1.2.2 d X.1.2.2.2.2.2.2.1
  have h' := h.mapQ (fun t => MQ.toE (Q := Q) h1 h2)
  unfold QFE QFzE
  cases x with
  | true => exact vx_ret h'
  | false => exact h'
theorem VE.aret {r : Option Nat} {rt : FieldType} (d : decode M.2.1 pc = .ok (.areturn, 1)) (hM : M.2.2.2.1 = some rt) (hrt : (∃ n, rt = .object n) ∨ ∃ t, rt = .array t) (h1 : cs ≤ R.cells) (h2 : n ≤ R.slots) (hq : Q (.inl (some (vR r))) K P J I cs n) : VE M x R Q K P J I cs n pc L [vR r] := by
  intro p l e s m args below meth c D ad0 ad K0 dom H locs ls X hl
  have h : W p l e R s m args below meth c H locs cs n (MQ below (QN (fun r K P J I => Q r K P J I cs n) D ad0 K0 s.heap.size) args s cs n (AF ad0 K0 s.heap.size)) (F0 m pc ls [cv ad (vR r)]) :=
    W.aret X.1.1 X.1.2.1 (X.1.2.2.1.trans hM) hrt (by cases r with | none => exact Or.inl rfl | some q => exact Or.inr ⟨ad q, rfl⟩) (fun t ht hW => QN.of (Q := fun r K P J I => Q r K P J I cs n) (r := some (vR r)) X hq (fun v e => by cases e; exact X.2.2.2.2.1.hd) ht hW) X.2.2.2.2.2.2.2.1.2.2 d X.1.2.2.2.2.2.2.1
  have h' := h.mapQ (fun t => MQ.toE (Q := Q) h1 h2)
  unfold QFE QFzE
  cases x with
  | true => exact vx_ret h'
  | false => exact h'
end Ends
section Rules
variable {M : MD} {x : Bool} {R : Room} {Q : PE} {K : KT} {P : PT} {J I : IT} {cs n pc pc' : Nat} {L L' : List (Nat × AV)} {S S' : List AV}
theorem VE.go (k : VE M x R Q K P J I cs n pc' L' S') (f : ∀ {p : Program} {l : Launch} {e : Env} {s : State} {m : MethodId} {args : Array Value} {below : List Frame} {meth : Method} {c : Code} {D : GD} {ad0 ad : Nat → Nat} {K0 : KT} {dom : List Nat} {H : Heap} {locs : List Loc} {ls : Array Slot} {Qf : State → Prop},
      CX M x R p l s m args meth c D ad0 ad K0 dom H locs K P J I L S → lv_has ls M.2.2.1 (cl ad L) →
      (∀ ls', WFs K S' → WFl K L' → lv_has ls' M.2.2.1 (cl ad L') → W p l e R s m args below meth c H locs cs n Qf (F0 m pc' ls' (S'.map (cv ad)))) →
      W p l e R s m args below meth c H locs cs n Qf (F0 m pc ls (S.map (cv ad)))) : VE M x R Q K P J I cs n pc L S := by
  intro p l e s m args below meth c D ad0 ad K0 dom H locs ls X hl
  exact f X hl (fun ls' hS hL hl' => k p l e s m args below meth c D ad0 ad K0 dom H locs ls' (X.re hS hL) hl')
theorem VE.iload_n {i : Fin 4} {z : Int} (d : decode M.2.1 pc = .ok (.iload_n i, 1)) (hp : pc + 1 = pc') (h : lkp L (i : Nat) = some (vI z)) (k : VE M x R Q K P J I cs n pc' L (vI z :: S)) : VE M x R Q K P J I cs n pc L S := by
  subst hp
  exact VE.go k (fun X hl kk => lv_iload_n X.1.1 X.1.2.1 d rfl (lkp_at h hl) (kk _ (WFs.cons (X.2.2.2.2.2.1.at h) X.2.2.2.2.1) X.2.2.2.2.2.1 hl))
theorem VE.iload {i : Nat} {z : Int} (d : decode M.2.1 pc = .ok (.iload i, 2)) (hp : pc + 2 = pc') (h : lkp L i = some (vI z)) (k : VE M x R Q K P J I cs n pc' L (vI z :: S)) : VE M x R Q K P J I cs n pc L S := by
  subst hp
  exact VE.go k (fun X hl kk => lv_iload X.1.1 X.1.2.1 d (lkp_at h hl) (kk _ (WFs.cons (X.2.2.2.2.2.1.at h) X.2.2.2.2.1) X.2.2.2.2.2.1 hl))
theorem VE.lload_n {i : Fin 4} {z : Int} (d : decode M.2.1 pc = .ok (.lload_n i, 1)) (hp : pc + 1 = pc') (h : lkp L (i : Nat) = some (vJ z)) (k : VE M x R Q K P J I cs n pc' L (vJ z :: S)) : VE M x R Q K P J I cs n pc L S := by
  subst hp
  exact VE.go k (fun X hl kk => lv_lload_n X.1.1 X.1.2.1 d rfl (lkp_at h hl) (kk _ (WFs.cons (X.2.2.2.2.2.1.at h) X.2.2.2.2.1) X.2.2.2.2.2.1 hl))
theorem VE.lload {i : Nat} {z : Int} (d : decode M.2.1 pc = .ok (.lload i, 2)) (hp : pc + 2 = pc') (h : lkp L i = some (vJ z)) (k : VE M x R Q K P J I cs n pc' L (vJ z :: S)) : VE M x R Q K P J I cs n pc L S := by
  subst hp
  exact VE.go k (fun X hl kk => lv_lload X.1.1 X.1.2.1 d (lkp_at h hl) (kk _ (WFs.cons (X.2.2.2.2.2.1.at h) X.2.2.2.2.1) X.2.2.2.2.2.1 hl))
theorem VE.aload_n {i : Fin 4} {o : Nat} (d : decode M.2.1 pc = .ok (.aload_n i, 1)) (hp : pc + 1 = pc') (h : lkp L (i : Nat) = some (vR (some o))) (k : VE M x R Q K P J I cs n pc' L (vR (some o) :: S)) : VE M x R Q K P J I cs n pc L S := by
  subst hp
  exact VE.go k (fun X hl kk => lv_aload_n X.1.1 X.1.2.1 d rfl (lkp_at h hl) (kk _ (WFs.cons (X.2.2.2.2.2.1.at h) X.2.2.2.2.1) X.2.2.2.2.2.1 hl))
theorem VE.aload {i : Nat} {o : Nat} (d : decode M.2.1 pc = .ok (.aload i, 2)) (hp : pc + 2 = pc') (h : lkp L i = some (vR (some o))) (k : VE M x R Q K P J I cs n pc' L (vR (some o) :: S)) : VE M x R Q K P J I cs n pc L S := by
  subst hp
  exact VE.go k (fun X hl kk => lv_aload X.1.1 X.1.2.1 d (lkp_at h hl) (kk _ (WFs.cons (X.2.2.2.2.2.1.at h) X.2.2.2.2.1) X.2.2.2.2.2.1 hl))
theorem VE.istore_n {i : Fin 4} {z : Int} (d : decode M.2.1 pc = .ok (.istore_n i, 1)) (hp : pc + 1 = pc') (hi : Nat.ble ((i : Nat) + 1) M.2.2.1 = true) (k : VE M x R Q K P J I cs n pc' (st1 L (i : Nat) (vI z)) S) : VE M x R Q K P J I cs n pc L (vI z :: S) := by
  subst hp
  exact VE.go k (fun {_ _ _ _ _ _ _ _ _ _ _ ad _ _ _ _ _ _} X hl kk => lv_istore_n X.1.1 X.1.2.1 d rfl hl (Nat.le_of_ble_eq_true hi) (st1_cl ad L (i : Nat) (vI z)) (fun ls' hl' => kk ls' X.2.2.2.2.1.tl (X.2.2.2.2.2.1.st1 X.2.2.2.2.1.hd) hl'))
theorem VE.istore {i : Nat} {z : Int} (d : decode M.2.1 pc = .ok (.istore i, 2)) (hp : pc + 2 = pc') (hi : Nat.ble (i + 1) M.2.2.1 = true) (k : VE M x R Q K P J I cs n pc' (st1 L i (vI z)) S) : VE M x R Q K P J I cs n pc L (vI z :: S) := by
  subst hp
  exact VE.go k (fun {_ _ _ _ _ _ _ _ _ _ _ ad _ _ _ _ _ _} X hl kk => lv_istore X.1.1 X.1.2.1 d hl (Nat.le_of_ble_eq_true hi) (st1_cl ad L i (vI z)) (fun ls' hl' => kk ls' X.2.2.2.2.1.tl (X.2.2.2.2.2.1.st1 X.2.2.2.2.1.hd) hl'))
theorem VE.lstore_n {i : Fin 4} {z : Int} (d : decode M.2.1 pc = .ok (.lstore_n i, 1)) (hp : pc + 1 = pc') (hi : Nat.ble ((i : Nat) + 1 + 1) M.2.2.1 = true) (k : VE M x R Q K P J I cs n pc' (st2 L (i : Nat) (vJ z)) S) : VE M x R Q K P J I cs n pc L (vJ z :: S) := by
  subst hp
  exact VE.go k (fun {_ _ _ _ _ _ _ _ _ _ _ ad _ _ _ _ _ _} X hl kk => lv_lstore_n X.1.1 X.1.2.1 d rfl hl (Nat.le_of_ble_eq_true hi) (st2_cl ad L (i : Nat) (vJ z)) (fun ls' hl' => kk ls' X.2.2.2.2.1.tl (X.2.2.2.2.2.1.st2 X.2.2.2.2.1.hd) hl'))
theorem VE.lstore {i : Nat} {z : Int} (d : decode M.2.1 pc = .ok (.lstore i, 2)) (hp : pc + 2 = pc') (hi : Nat.ble (i + 1 + 1) M.2.2.1 = true) (k : VE M x R Q K P J I cs n pc' (st2 L i (vJ z)) S) : VE M x R Q K P J I cs n pc L (vJ z :: S) := by
  subst hp
  exact VE.go k (fun {_ _ _ _ _ _ _ _ _ _ _ ad _ _ _ _ _ _} X hl kk => lv_lstore X.1.1 X.1.2.1 d hl (Nat.le_of_ble_eq_true hi) (st2_cl ad L i (vJ z)) (fun ls' hl' => kk ls' X.2.2.2.2.1.tl (X.2.2.2.2.2.1.st2 X.2.2.2.2.1.hd) hl'))
theorem VE.astore_n {i : Fin 4} {o : Nat} (d : decode M.2.1 pc = .ok (.astore_n i, 1)) (hp : pc + 1 = pc') (hi : Nat.ble ((i : Nat) + 1) M.2.2.1 = true) (k : VE M x R Q K P J I cs n pc' (st1 L (i : Nat) (vR (some o))) S) : VE M x R Q K P J I cs n pc L (vR (some o) :: S) := by
  subst hp
  exact VE.go k (fun {_ _ _ _ _ _ _ _ _ _ _ ad _ _ _ _ _ _} X hl kk => lv_astore_n X.1.1 X.1.2.1 d rfl hl (Nat.le_of_ble_eq_true hi) (st1_cl ad L (i : Nat) (vR (some o))) (fun ls' hl' => kk ls' X.2.2.2.2.1.tl (X.2.2.2.2.2.1.st1 X.2.2.2.2.1.hd) hl'))
theorem VE.astore {i : Nat} {o : Nat} (d : decode M.2.1 pc = .ok (.astore i, 2)) (hp : pc + 2 = pc') (hi : Nat.ble (i + 1) M.2.2.1 = true) (k : VE M x R Q K P J I cs n pc' (st1 L i (vR (some o))) S) : VE M x R Q K P J I cs n pc L (vR (some o) :: S) := by
  subst hp
  exact VE.go k (fun {_ _ _ _ _ _ _ _ _ _ _ ad _ _ _ _ _ _} X hl kk => lv_astore X.1.1 X.1.2.1 d hl (Nat.le_of_ble_eq_true hi) (st1_cl ad L i (vR (some o))) (fun ls' hl' => kk ls' X.2.2.2.2.1.tl (X.2.2.2.2.2.1.st1 X.2.2.2.2.1.hd) hl'))
theorem VE.iconst {z : Int} (d : decode M.2.1 pc = .ok (.iconst z, 1)) (hp : pc + 1 = pc') (hz : inR z) (k : VE M x R Q K P J I cs n pc' L (vI z :: S)) : VE M x R Q K P J I cs n pc L S := by
  subst hp
  exact VE.go k (fun X hl kk => lv_iconst X.1.1 X.1.2.1 d rfl (kk _ (WFs.cons hz X.2.2.2.2.1) X.2.2.2.2.2.1 hl))
theorem VE.bipush {z : Int} (d : decode M.2.1 pc = .ok (.bipush z, 2)) (hp : pc + 2 = pc') (hz : -128 ≤ z ∧ z ≤ 127) (k : VE M x R Q K P J I cs n pc' L (vI z :: S)) : VE M x R Q K P J I cs n pc L S := by
  subst hp
  have e : (Int8.ofInt z).toInt32 = Int32.ofInt z := Int8.toInt32_ofInt (by simpa using hz.1) (by rw [mx8]; exact hz.2)
  exact VE.go k (fun X hl kk => lv_bipush X.1.1 X.1.2.1 d e (kk _ (WFs.cons (show inR z from ⟨by omega, by omega⟩) X.2.2.2.2.1) X.2.2.2.2.2.1 hl))
theorem VE.sipush {z : Int} (d : decode M.2.1 pc = .ok (.sipush z, 3)) (hp : pc + 3 = pc') (hz : -32768 ≤ z ∧ z ≤ 32767) (k : VE M x R Q K P J I cs n pc' L (vI z :: S)) : VE M x R Q K P J I cs n pc L S := by
  subst hp
  have e : (Int16.ofInt z).toInt32 = Int32.ofInt z := Int16.toInt32_ofInt (by simpa using hz.1) (by rw [mx16]; exact hz.2)
  exact VE.go k (fun X hl kk => lv_sipush X.1.1 X.1.2.1 d e (kk _ (WFs.cons (show inR z from ⟨by omega, by omega⟩) X.2.2.2.2.1) X.2.2.2.2.2.1 hl))
theorem VE.ldc {z : Int} {w : Int32} {j : Nat} (d : decode M.2.1 pc = .ok (.ldc j, 2)) (hp : pc + 2 = pc') (hw : Cond.constant M.1.cls j w ∈ TB) (e : w = Int32.ofInt z) (hz : inR z) (k : VE M x R Q K P J I cs n pc' L (vI z :: S)) : VE M x R Q K P J I cs n pc L S := by
  subst hp
  subst e
  exact VE.go k (fun X hl kk => lv_ldc X.1.1 X.1.2.1 X.1.2.2.2.2.1 (X.1.2.2.2.2.2.1 _ hw) d (kk _ (WFs.cons hz X.2.2.2.2.1) X.2.2.2.2.2.1 hl))
theorem VE.ldc2 {z : Int} {w : Int64} {j : Nat} (d : decode M.2.1 pc = .ok (.ldc2_w j, 3)) (hp : pc + 3 = pc') (hw : Cond.constantLong M.1.cls j w ∈ TB) (e : w = Int64.ofInt z) (hz : inJ z) (k : VE M x R Q K P J I cs n pc' L (vJ z :: S)) : VE M x R Q K P J I cs n pc L S := by
  subst hp
  subst e
  exact VE.go k (fun X hl kk => W.ldc2 X.1.1 X.1.2.1 X.1.2.2.2.2.1 (X.1.2.2.2.2.2.1 _ hw) rfl d (kk _ (WFs.cons hz X.2.2.2.2.1) X.2.2.2.2.2.1 hl))
theorem VE.lconst {i : Fin 2} {z : Int} (d : decode M.2.1 pc = .ok (.lconst i, 1)) (hp : pc + 1 = pc') (e : Int64.ofNat (i : Nat) = Int64.ofInt z) (hz : inJ z) (k : VE M x R Q K P J I cs n pc' L (vJ z :: S)) : VE M x R Q K P J I cs n pc L S := by
  subst hp
  exact VE.go k (fun X hl kk => lv_lconst X.1.1 X.1.2.1 d e (kk _ (WFs.cons hz X.2.2.2.2.1) X.2.2.2.2.2.1 hl))
theorem VE.null (d : decode M.2.1 pc = .ok (.aconst_null, 1)) (hp : pc + 1 = pc') (k : VE M x R Q K P J I cs n pc' L (vR none :: S)) : VE M x R Q K P J I cs n pc L S := by
  subst hp
  exact VE.go k (fun X hl kk => lv_null X.1.1 X.1.2.1 d (kk _ (WFs.cons (fun q h => by cases h) X.2.2.2.2.1) X.2.2.2.2.2.1 hl))
theorem VE.iadd {a b : Int} (d : decode M.2.1 pc = .ok (.iadd, 1)) (hp : pc + 1 = pc') (hz : inR (a + b)) (k : VE M x R Q K P J I cs n pc' L (vI (a + b) :: S)) : VE M x R Q K P J I cs n pc L (vI b :: vI a :: S) := by
  subst hp
  exact VE.go k (fun X hl kk => lv_iadd X.1.1 X.1.2.1 d (by have q := kk _ (WFs.cons hz X.2.2.2.2.1.tl.tl) X.2.2.2.2.2.1 hl; simp only [List.map_cons, cv, Int32.ofInt_add] at q; exact q))
theorem VE.iaddW {a b : Int} (d : decode M.2.1 pc = .ok (.iadd, 1)) (hp : pc + 1 = pc') (k : ∀ z : Int, inR z → z = (a + b).bmod 4294967296 → VE M x R Q K P J I cs n pc' L (vI z :: S)) : VE M x R Q K P J I cs n pc L (vI b :: vI a :: S) := by
  subst hp
  have hb : inR ((a + b).bmod 4294967296) := ⟨by have := Int.le_bmod (x := a + b) (m := 4294967296) (by omega); omega, by have := Int.bmod_lt (x := a + b) (m := 4294967296) (by omega); omega⟩
  have e : Int32.ofInt ((a + b).bmod 4294967296) = Int32.ofInt (a + b) := by apply Int32.toInt.inj; simp
  exact VE.go (k _ hb rfl) (fun X hl kk => lv_iadd X.1.1 X.1.2.1 d (by have q := kk _ (WFs.cons hb X.2.2.2.2.1.tl.tl) X.2.2.2.2.2.1 hl; simp only [List.map_cons, cv, e, Int32.ofInt_add] at q; exact q))
theorem VE.isub {a b : Int} (d : decode M.2.1 pc = .ok (.isub, 1)) (hp : pc + 1 = pc') (hz : inR (a - b)) (k : VE M x R Q K P J I cs n pc' L (vI (a - b) :: S)) : VE M x R Q K P J I cs n pc L (vI b :: vI a :: S) := by
  subst hp
  exact VE.go k (fun X hl kk => lv_isub X.1.1 X.1.2.1 d (by have q := kk _ (WFs.cons hz X.2.2.2.2.1.tl.tl) X.2.2.2.2.2.1 hl; simp only [List.map_cons, cv, Int32.ofInt_sub] at q; exact q))
theorem VE.isubW {a b : Int} (d : decode M.2.1 pc = .ok (.isub, 1)) (hp : pc + 1 = pc') (k : ∀ z : Int, inR z → z = (a - b).bmod 4294967296 → VE M x R Q K P J I cs n pc' L (vI z :: S)) : VE M x R Q K P J I cs n pc L (vI b :: vI a :: S) := by
  subst hp
  have hb : inR ((a - b).bmod 4294967296) := ⟨by have := Int.le_bmod (x := a - b) (m := 4294967296) (by omega); omega, by have := Int.bmod_lt (x := a - b) (m := 4294967296) (by omega); omega⟩
  have e : Int32.ofInt ((a - b).bmod 4294967296) = Int32.ofInt (a - b) := by apply Int32.toInt.inj; simp
  exact VE.go (k _ hb rfl) (fun X hl kk => lv_isub X.1.1 X.1.2.1 d (by have q := kk _ (WFs.cons hb X.2.2.2.2.1.tl.tl) X.2.2.2.2.2.1 hl; simp only [List.map_cons, cv, e, Int32.ofInt_sub] at q; exact q))
theorem VE.imul {a b : Int} (d : decode M.2.1 pc = .ok (.imul, 1)) (hp : pc + 1 = pc') (hz : inR (a * b)) (k : VE M x R Q K P J I cs n pc' L (vI (a * b) :: S)) : VE M x R Q K P J I cs n pc L (vI b :: vI a :: S) := by
  subst hp
  exact VE.go k (fun X hl kk => lv_imul X.1.1 X.1.2.1 d (by have q := kk _ (WFs.cons hz X.2.2.2.2.1.tl.tl) X.2.2.2.2.2.1 hl; simp only [List.map_cons, cv, Int32.ofInt_mul] at q; exact q))
theorem VE.imulW {a b : Int} (d : decode M.2.1 pc = .ok (.imul, 1)) (hp : pc + 1 = pc') (k : ∀ z : Int, inR z → z = (a * b).bmod 4294967296 → VE M x R Q K P J I cs n pc' L (vI z :: S)) : VE M x R Q K P J I cs n pc L (vI b :: vI a :: S) := by
  subst hp
  have hb : inR ((a * b).bmod 4294967296) := ⟨by have := Int.le_bmod (x := a * b) (m := 4294967296) (by omega); omega, by have := Int.bmod_lt (x := a * b) (m := 4294967296) (by omega); omega⟩
  have e : Int32.ofInt ((a * b).bmod 4294967296) = Int32.ofInt (a * b) := by apply Int32.toInt.inj; simp
  exact VE.go (k _ hb rfl) (fun X hl kk => lv_imul X.1.1 X.1.2.1 d (by have q := kk _ (WFs.cons hb X.2.2.2.2.1.tl.tl) X.2.2.2.2.2.1 hl; simp only [List.map_cons, cv, e, Int32.ofInt_mul] at q; exact q))
theorem VE.ladd {a b : Int} (d : decode M.2.1 pc = .ok (.ladd, 1)) (hp : pc + 1 = pc') (hz : inJ (a + b)) (k : VE M x R Q K P J I cs n pc' L (vJ (a + b) :: S)) : VE M x R Q K P J I cs n pc L (vJ b :: vJ a :: S) := by
  subst hp
  exact VE.go k (fun X hl kk => lv_ladd X.1.1 X.1.2.1 d (by have q := kk _ (WFs.cons hz X.2.2.2.2.1.tl.tl) X.2.2.2.2.2.1 hl; simp only [List.map_cons, cv, Int64.ofInt_add] at q; exact q))
theorem VE.lmul {a b : Int} (d : decode M.2.1 pc = .ok (.lmul, 1)) (hp : pc + 1 = pc') (hz : inJ (a * b)) (k : VE M x R Q K P J I cs n pc' L (vJ (a * b) :: S)) : VE M x R Q K P J I cs n pc L (vJ b :: vJ a :: S) := by
  subst hp
  exact VE.go k (fun X hl kk => lv_lmul X.1.1 X.1.2.1 d (by have q := kk _ (WFs.cons hz X.2.2.2.2.1.tl.tl) X.2.2.2.2.2.1 hl; simp only [List.map_cons, cv, Int64.ofInt_mul] at q; exact q))
theorem VE.idiv {a b : Int} (d : decode M.2.1 pc = .ok (.idiv, 1)) (hp : pc + 1 = pc') (hb : b ≠ 0) (hz : inR (a.tdiv b)) (k : VE M x R Q K P J I cs n pc' L (vI (a.tdiv b) :: S)) : VE M x R Q K P J I cs n pc L (vI b :: vI a :: S) := by
  subst hp
  refine VE.go k (fun X hl kk => ?_)
  have wb : inR b := X.2.2.2.2.1.hd
  have wa : inR a := X.2.2.2.2.1.tl.hd
  have e := Int32.ofInt_tdiv (a := a) (b := b) (by simpa using wa.1) (by rw [mx32]; exact wa.2) (by simpa using wb.1) (by rw [mx32]; exact wb.2)
  exact lv_idiv X.1.1 X.1.2.1 d (fun z => hb ((i32_eq wb inR0).mp (by rw [z]; rfl))) (by have q := kk _ (WFs.cons hz X.2.2.2.2.1.tl.tl) X.2.2.2.2.2.1 hl; simp only [List.map_cons, cv, e] at q; exact q)
theorem VE.irem {a b : Int} (d : decode M.2.1 pc = .ok (.irem, 1)) (hp : pc + 1 = pc') (hb : b ≠ 0) (hz : inR (a.tmod b)) (k : VE M x R Q K P J I cs n pc' L (vI (a.tmod b) :: S)) : VE M x R Q K P J I cs n pc L (vI b :: vI a :: S) := by
  subst hp
  refine VE.go k (fun X hl kk => ?_)
  have wb : inR b := X.2.2.2.2.1.hd
  have wa : inR a := X.2.2.2.2.1.tl.hd
  have e := Int32.ofInt_tdiv (a := a) (b := b) (by simpa using wa.1) (by rw [mx32]; exact wa.2) (by simpa using wb.1) (by rw [mx32]; exact wb.2)
  have e2 : Int32.ofInt (a.tmod b) = Int32.ofInt a - Int32.ofInt a / Int32.ofInt b * Int32.ofInt b := by rw [Int.tmod_def, Int32.ofInt_sub, Int32.ofInt_mul, e, Int32.mul_comm]
  exact lv_irem X.1.1 X.1.2.1 d (fun z => hb ((i32_eq wb inR0).mp (by rw [z]; rfl))) (by have q := kk _ (WFs.cons hz X.2.2.2.2.1.tl.tl) X.2.2.2.2.2.1 hl; simp only [List.map_cons, cv, e2] at q; exact q)
theorem VE.ldiv {a b : Int} (d : decode M.2.1 pc = .ok (.ldiv, 1)) (hp : pc + 1 = pc') (hb : b ≠ 0) (hz : inJ (a.tdiv b)) (k : VE M x R Q K P J I cs n pc' L (vJ (a.tdiv b) :: S)) : VE M x R Q K P J I cs n pc L (vJ b :: vJ a :: S) := by
  subst hp
  refine VE.go k (fun X hl kk => ?_)
  have wb : inJ b := X.2.2.2.2.1.hd
  have wa : inJ a := X.2.2.2.2.1.tl.hd
  have e := Int64.ofInt_tdiv (a := a) (b := b) (by simpa using wa.1) (by rw [mx64]; exact wa.2) (by simpa using wb.1) (by rw [mx64]; exact wb.2)
  exact lv_ldiv X.1.1 X.1.2.1 d (fun z => hb ((i64_eq wb ⟨by omega, by omega⟩).mp (by rw [z]; rfl))) (by have q := kk _ (WFs.cons hz X.2.2.2.2.1.tl.tl) X.2.2.2.2.2.1 hl; simp only [List.map_cons, cv, e] at q; exact q)
theorem VE.iand {a b z : Int} (d : decode M.2.1 pc = .ok (.iand, 1)) (hp : pc + 1 = pc') (hz : inR z) (e : Int32.ofInt a &&& Int32.ofInt b = Int32.ofInt z) (k : VE M x R Q K P J I cs n pc' L (vI z :: S)) : VE M x R Q K P J I cs n pc L (vI b :: vI a :: S) := by
  subst hp
  exact VE.go k (fun X hl kk => lv_iand X.1.1 X.1.2.1 d (by have q := kk _ (WFs.cons hz X.2.2.2.2.1.tl.tl) X.2.2.2.2.2.1 hl; simp only [List.map_cons, cv, ← e] at q; exact q))
theorem VE.ior {a b z : Int} (d : decode M.2.1 pc = .ok (.ior, 1)) (hp : pc + 1 = pc') (hz : inR z) (e : Int32.ofInt a ||| Int32.ofInt b = Int32.ofInt z) (k : VE M x R Q K P J I cs n pc' L (vI z :: S)) : VE M x R Q K P J I cs n pc L (vI b :: vI a :: S) := by
  subst hp
  exact VE.go k (fun X hl kk => lv_ior X.1.1 X.1.2.1 d (by have q := kk _ (WFs.cons hz X.2.2.2.2.1.tl.tl) X.2.2.2.2.2.1 hl; simp only [List.map_cons, cv, ← e] at q; exact q))
theorem VE.ishl {a b z : Int} (d : decode M.2.1 pc = .ok (.ishl, 1)) (hp : pc + 1 = pc') (hz : inR z) (e : Int32.ofInt a <<< (Int32.ofInt b &&& 31) = Int32.ofInt z) (k : VE M x R Q K P J I cs n pc' L (vI z :: S)) : VE M x R Q K P J I cs n pc L (vI b :: vI a :: S) := by
  subst hp
  exact VE.go k (fun X hl kk => lv_ishl X.1.1 X.1.2.1 d (by have q := kk _ (WFs.cons hz X.2.2.2.2.1.tl.tl) X.2.2.2.2.2.1 hl; simp only [List.map_cons, cv, ← e] at q; exact q))
theorem VE.ishr {a b z : Int} (d : decode M.2.1 pc = .ok (.ishr, 1)) (hp : pc + 1 = pc') (hz : inR z) (e : Int32.ofInt a >>> (Int32.ofInt b &&& 31) = Int32.ofInt z) (k : VE M x R Q K P J I cs n pc' L (vI z :: S)) : VE M x R Q K P J I cs n pc L (vI b :: vI a :: S) := by
  subst hp
  exact VE.go k (fun X hl kk => lv_ishr X.1.1 X.1.2.1 d (by have q := kk _ (WFs.cons hz X.2.2.2.2.1.tl.tl) X.2.2.2.2.2.1 hl; simp only [List.map_cons, cv, ← e] at q; exact q))
theorem VE.iushr {a b z : Int} (d : decode M.2.1 pc = .ok (.iushr, 1)) (hp : pc + 1 = pc') (hz : inR z) (e : ((Int32.ofInt a).toUInt32 >>> ((Int32.ofInt b).toUInt32 &&& Int32.toUInt32 31)).toInt32 = Int32.ofInt z) (k : VE M x R Q K P J I cs n pc' L (vI z :: S)) : VE M x R Q K P J I cs n pc L (vI b :: vI a :: S) := by
  subst hp
  exact VE.go k (fun X hl kk => lv_iushr X.1.1 X.1.2.1 d e (kk _ (WFs.cons hz X.2.2.2.2.1.tl.tl) X.2.2.2.2.2.1 hl))
theorem VE.i2l {a : Int} (d : decode M.2.1 pc = .ok (.i2l, 1)) (hp : pc + 1 = pc') (k : VE M x R Q K P J I cs n pc' L (vJ a :: S)) : VE M x R Q K P J I cs n pc L (vI a :: S) := by
  subst hp
  refine VE.go k (fun X hl kk => ?_)
  have wa : inR a := X.2.2.2.2.1.hd
  exact lv_i2l X.1.1 X.1.2.1 d (Int32.toInt64_ofInt (by simpa using wa.1) (by rw [mx32]; exact wa.2)) (kk _ (WFs.cons (show inJ a from ⟨by have := wa.1; omega, by have := wa.2; omega⟩) X.2.2.2.2.1.tl) X.2.2.2.2.2.1 hl)
theorem VE.l2i {a : Int} (d : decode M.2.1 pc = .ok (.l2i, 1)) (hp : pc + 1 = pc') (hz : inR a) (k : VE M x R Q K P J I cs n pc' L (vI a :: S)) : VE M x R Q K P J I cs n pc L (vJ a :: S) := by
  subst hp
  exact VE.go k (fun X hl kk => lv_l2i X.1.1 X.1.2.1 d Int64.toInt32_ofInt (kk _ (WFs.cons hz X.2.2.2.2.1.tl) X.2.2.2.2.2.1 hl))
theorem VE.lcmp {a b : Int} (d : decode M.2.1 pc = .ok (.lcmp, 1)) (hp : pc + 1 = pc') (k : VE M x R Q K P J I cs n pc' L (vI (if b < a then 1 else if a = b then 0 else -1) :: S)) : VE M x R Q K P J I cs n pc L (vJ b :: vJ a :: S) := by
  subst hp
  refine VE.go k (fun X hl kk => ?_)
  have wb : inJ b := X.2.2.2.2.1.hd
  have wa : inJ a := X.2.2.2.2.1.tl.hd
  have e : lg_cmp (Int64.ofInt a) (Int64.ofInt b) = Int32.ofInt (if b < a then 1 else if a = b then 0 else -1) := by
    unfold lg_cmp
    by_cases h1 : b < a
    · rw [if_pos ((i64_lt wb wa).mpr h1), if_pos h1]; rfl
    · rw [if_neg (fun q => h1 ((i64_lt wb wa).mp q)), if_neg h1]
      by_cases h2 : a = b
      · rw [if_pos ((i64_eq wa wb).mpr h2), if_pos h2]; rfl
      · rw [if_neg (fun q => h2 ((i64_eq wa wb).mp q)), if_neg h2]; rfl
  have hz : inR (if b < a then 1 else if a = b then 0 else -1) := by split; exact ⟨by omega, by omega⟩; split; exact ⟨by omega, by omega⟩; exact ⟨by omega, by omega⟩
  exact W.lcmp X.1.1 X.1.2.1 d (by have q := kk _ (WFs.cons hz X.2.2.2.2.1.tl.tl) X.2.2.2.2.2.1 hl; rw [e]; exact q)
theorem VE.iinc {i : Nat} {a c : Int} (d : decode M.2.1 pc = .ok (.iinc i c, 3)) (hp : pc + 3 = pc') (h : lkp L i = some (vI a)) (hi : Nat.ble (i + 1) M.2.2.1 = true) (hz : inR (a + c)) (k : VE M x R Q K P J I cs n pc' (st1 L i (vI (a + c))) S) : VE M x R Q K P J I cs n pc L S := by
  subst hp
  refine VE.go k (fun {_ _ _ _ _ _ _ _ _ _ _ ad _ _ _ _ _ _} X hl kk => ?_)
  obtain ⟨j, hj⟩ := List.getElem?_of_mem (List.mem_map.mpr ⟨(i, vI a), lkp_mem h, rfl⟩ : (i, cv ad (vI a)) ∈ cl ad L)
  exact lv_iinc (k := j) X.1.1 X.1.2.1 d hl hj (by rw [show cv ad (vI a) = Value.int (Int32.ofInt a) from rfl] at hj; exact (Int32.ofInt_add a c).symm) (Nat.le_of_ble_eq_true hi) (st1_cl ad L i (vI (a + c))) (fun ls' hl' => kk ls' X.2.2.2.2.1 (X.2.2.2.2.2.1.st1 hz) hl')
theorem VE.dup {v : AV} (d : decode M.2.1 pc = .ok (.dup, 1)) (hp : pc + 1 = pc') (hv : isJ v = false) (k : VE M x R Q K P J I cs n pc' L (v :: v :: S)) : VE M x R Q K P J I cs n pc L (v :: S) := by
  subst hp
  exact VE.go k (fun {_ _ _ _ _ _ _ _ _ _ _ ad _ _ _ _ _ _} X hl kk => lv_dup X.1.1 X.1.2.1 d (by rcases lv_cat (cv ad v) with q | q; exact q; have := cv_cat ad v; rw [hv, q] at this; cases this) (kk _ (WFs.cons X.2.2.2.2.1.hd X.2.2.2.2.1) X.2.2.2.2.2.1 hl))
theorem VE.pop {v : AV} (d : decode M.2.1 pc = .ok (.pop, 1)) (hp : pc + 1 = pc') (hv : isJ v = false) (k : VE M x R Q K P J I cs n pc' L S) : VE M x R Q K P J I cs n pc L (v :: S) := by
  subst hp
  exact VE.go k (fun {_ _ _ _ _ _ _ _ _ _ _ ad _ _ _ _ _ _} X hl kk => lv_pop X.1.1 X.1.2.1 d (by rcases lv_cat (cv ad v) with q | q; exact q; have := cv_cat ad v; rw [hv, q] at this; cases this) (kk _ X.2.2.2.2.1.tl X.2.2.2.2.2.1 hl))
theorem VE.dup2 {v w : AV} (d : decode M.2.1 pc = .ok (.dup2, 1)) (hp : pc + 1 = pc') (hv : isJ v = false) (hw : isJ w = false) (k : VE M x R Q K P J I cs n pc' L (v :: w :: v :: w :: S)) : VE M x R Q K P J I cs n pc L (v :: w :: S) := by
  subst hp
  exact VE.go k (fun {_ _ _ _ _ _ _ _ _ _ _ ad _ _ _ _ _ _} X hl kk => lv_dup2_11 X.1.1 X.1.2.1 d (by rcases lv_cat (cv ad v) with q | q; exact q; have := cv_cat ad v; rw [hv, q] at this; cases this) (by rcases lv_cat (cv ad w) with q | q; exact q; have := cv_cat ad w; rw [hw, q] at this; cases this)
    (kk _ (WFs.cons X.2.2.2.2.1.hd (WFs.cons X.2.2.2.2.1.tl.hd X.2.2.2.2.1)) X.2.2.2.2.2.1 hl))
theorem VE.goto {off : Int} (d : decode M.2.1 pc = .ok (.goto off, 3)) (ht : (pc : Int) + off = (pc' : Int)) (k : VE M x R Q K P J I cs n pc' L S) : VE M x R Q K P J I cs n pc L S :=
  VE.go k (fun X hl kk => lv_goto X.1.1 X.1.2.1 d ht (kk _ X.2.2.2.2.1 X.2.2.2.2.2.1 hl))
theorem VE.icmp_eq {a b : Int} {off : Int} {tgt : Nat} (d : decode M.2.1 pc = .ok (.if_icmp .eq off, 3)) (ht : (pc : Int) + off = (tgt : Int)) (hp : pc + 3 = pc') (kt : a = b → VE M x R Q K P J I cs n tgt L S) (kf : a ≠ b → VE M x R Q K P J I cs n pc' L S) : VE M x R Q K P J I cs n pc L (vI b :: vI a :: S) := by
  subst hp
  intro p l e s m args below meth c D ad0 ad K0 dom H locs ls X hl
  have wb : inR b := X.2.2.2.2.1.hd
  have wa : inR a := X.2.2.2.2.1.tl.hd
  refine lv_icmp_eq X.1.1 X.1.2.1 d ht (fun q => kt ((i32_eq wa wb).mp q) p l e s m args below meth c D ad0 ad K0 dom H locs ls (X.re X.2.2.2.2.1.tl.tl X.2.2.2.2.2.1) hl) (fun q => kf (fun z => q ((i32_eq wa wb).mpr z)) p l e s m args below meth c D ad0 ad K0 dom H locs ls (X.re X.2.2.2.2.1.tl.tl X.2.2.2.2.2.1) hl)
theorem VE.if_eq {a : Int} {off : Int} {tgt : Nat} (d : decode M.2.1 pc = .ok (.ifCond .eq off, 3)) (ht : (pc : Int) + off = (tgt : Int)) (hp : pc + 3 = pc') (kt : a = 0 → VE M x R Q K P J I cs n tgt L S) (kf : a ≠ 0 → VE M x R Q K P J I cs n pc' L S) : VE M x R Q K P J I cs n pc L (vI a :: S) := by
  subst hp
  intro p l e s m args below meth c D ad0 ad K0 dom H locs ls X hl
  have wa : inR a := X.2.2.2.2.1.hd
  refine lv_if_eq X.1.1 X.1.2.1 d ht (fun q => kt ((i32_eq wa inR0).mp q) p l e s m args below meth c D ad0 ad K0 dom H locs ls (X.re X.2.2.2.2.1.tl X.2.2.2.2.2.1) hl) (fun q => kf (fun z => q ((i32_eq wa inR0).mpr z)) p l e s m args below meth c D ad0 ad K0 dom H locs ls (X.re X.2.2.2.2.1.tl X.2.2.2.2.2.1) hl)
theorem VE.icmp_ne {a b : Int} {off : Int} {tgt : Nat} (d : decode M.2.1 pc = .ok (.if_icmp .ne off, 3)) (ht : (pc : Int) + off = (tgt : Int)) (hp : pc + 3 = pc') (kt : a ≠ b → VE M x R Q K P J I cs n tgt L S) (kf : a = b → VE M x R Q K P J I cs n pc' L S) : VE M x R Q K P J I cs n pc L (vI b :: vI a :: S) := by
  subst hp
  intro p l e s m args below meth c D ad0 ad K0 dom H locs ls X hl
  have wb : inR b := X.2.2.2.2.1.hd
  have wa : inR a := X.2.2.2.2.1.tl.hd
  refine lv_icmp_ne X.1.1 X.1.2.1 d ht (fun q => kt (fun z => q ((i32_eq wa wb).mpr z)) p l e s m args below meth c D ad0 ad K0 dom H locs ls (X.re X.2.2.2.2.1.tl.tl X.2.2.2.2.2.1) hl) (fun q => kf ((i32_eq wa wb).mp q) p l e s m args below meth c D ad0 ad K0 dom H locs ls (X.re X.2.2.2.2.1.tl.tl X.2.2.2.2.2.1) hl)
theorem VE.if_ne {a : Int} {off : Int} {tgt : Nat} (d : decode M.2.1 pc = .ok (.ifCond .ne off, 3)) (ht : (pc : Int) + off = (tgt : Int)) (hp : pc + 3 = pc') (kt : a ≠ 0 → VE M x R Q K P J I cs n tgt L S) (kf : a = 0 → VE M x R Q K P J I cs n pc' L S) : VE M x R Q K P J I cs n pc L (vI a :: S) := by
  subst hp
  intro p l e s m args below meth c D ad0 ad K0 dom H locs ls X hl
  have wa : inR a := X.2.2.2.2.1.hd
  refine lv_if_ne X.1.1 X.1.2.1 d ht (fun q => kt (fun z => q ((i32_eq wa inR0).mpr z)) p l e s m args below meth c D ad0 ad K0 dom H locs ls (X.re X.2.2.2.2.1.tl X.2.2.2.2.2.1) hl) (fun q => kf ((i32_eq wa inR0).mp q) p l e s m args below meth c D ad0 ad K0 dom H locs ls (X.re X.2.2.2.2.1.tl X.2.2.2.2.2.1) hl)
theorem VE.icmp_lt {a b : Int} {off : Int} {tgt : Nat} (d : decode M.2.1 pc = .ok (.if_icmp .lt off, 3)) (ht : (pc : Int) + off = (tgt : Int)) (hp : pc + 3 = pc') (kt : a < b → VE M x R Q K P J I cs n tgt L S) (kf : b ≤ a → VE M x R Q K P J I cs n pc' L S) : VE M x R Q K P J I cs n pc L (vI b :: vI a :: S) := by
  subst hp
  intro p l e s m args below meth c D ad0 ad K0 dom H locs ls X hl
  have wb : inR b := X.2.2.2.2.1.hd
  have wa : inR a := X.2.2.2.2.1.tl.hd
  refine lv_icmp_lt X.1.1 X.1.2.1 d ht (fun q => kt ((i32_lt wa wb).mp q) p l e s m args below meth c D ad0 ad K0 dom H locs ls (X.re X.2.2.2.2.1.tl.tl X.2.2.2.2.2.1) hl) (fun q => kf (Int.not_lt.mp (fun z => q ((i32_lt wa wb).mpr z))) p l e s m args below meth c D ad0 ad K0 dom H locs ls (X.re X.2.2.2.2.1.tl.tl X.2.2.2.2.2.1) hl)
theorem VE.if_lt {a : Int} {off : Int} {tgt : Nat} (d : decode M.2.1 pc = .ok (.ifCond .lt off, 3)) (ht : (pc : Int) + off = (tgt : Int)) (hp : pc + 3 = pc') (kt : a < 0 → VE M x R Q K P J I cs n tgt L S) (kf : 0 ≤ a → VE M x R Q K P J I cs n pc' L S) : VE M x R Q K P J I cs n pc L (vI a :: S) := by
  subst hp
  intro p l e s m args below meth c D ad0 ad K0 dom H locs ls X hl
  have wa : inR a := X.2.2.2.2.1.hd
  refine lv_if_lt X.1.1 X.1.2.1 d ht (fun q => kt ((i32_lt wa inR0).mp q) p l e s m args below meth c D ad0 ad K0 dom H locs ls (X.re X.2.2.2.2.1.tl X.2.2.2.2.2.1) hl) (fun q => kf (Int.not_lt.mp (fun z => q ((i32_lt wa inR0).mpr z))) p l e s m args below meth c D ad0 ad K0 dom H locs ls (X.re X.2.2.2.2.1.tl X.2.2.2.2.2.1) hl)
theorem VE.icmp_ge {a b : Int} {off : Int} {tgt : Nat} (d : decode M.2.1 pc = .ok (.if_icmp .ge off, 3)) (ht : (pc : Int) + off = (tgt : Int)) (hp : pc + 3 = pc') (kt : b ≤ a → VE M x R Q K P J I cs n tgt L S) (kf : a < b → VE M x R Q K P J I cs n pc' L S) : VE M x R Q K P J I cs n pc L (vI b :: vI a :: S) := by
  subst hp
  intro p l e s m args below meth c D ad0 ad K0 dom H locs ls X hl
  have wb : inR b := X.2.2.2.2.1.hd
  have wa : inR a := X.2.2.2.2.1.tl.hd
  refine lv_icmp_ge X.1.1 X.1.2.1 d ht (fun q => kt ((i32_le wb wa).mp q) p l e s m args below meth c D ad0 ad K0 dom H locs ls (X.re X.2.2.2.2.1.tl.tl X.2.2.2.2.2.1) hl) (fun q => kf (Int.not_le.mp (fun z => q ((i32_le wb wa).mpr z))) p l e s m args below meth c D ad0 ad K0 dom H locs ls (X.re X.2.2.2.2.1.tl.tl X.2.2.2.2.2.1) hl)
theorem VE.if_ge {a : Int} {off : Int} {tgt : Nat} (d : decode M.2.1 pc = .ok (.ifCond .ge off, 3)) (ht : (pc : Int) + off = (tgt : Int)) (hp : pc + 3 = pc') (kt : 0 ≤ a → VE M x R Q K P J I cs n tgt L S) (kf : a < 0 → VE M x R Q K P J I cs n pc' L S) : VE M x R Q K P J I cs n pc L (vI a :: S) := by
  subst hp
  intro p l e s m args below meth c D ad0 ad K0 dom H locs ls X hl
  have wa : inR a := X.2.2.2.2.1.hd
  refine lv_if_ge X.1.1 X.1.2.1 d ht (fun q => kt ((i32_le inR0 wa).mp q) p l e s m args below meth c D ad0 ad K0 dom H locs ls (X.re X.2.2.2.2.1.tl X.2.2.2.2.2.1) hl) (fun q => kf (Int.not_le.mp (fun z => q ((i32_le inR0 wa).mpr z))) p l e s m args below meth c D ad0 ad K0 dom H locs ls (X.re X.2.2.2.2.1.tl X.2.2.2.2.2.1) hl)
theorem VE.icmp_gt {a b : Int} {off : Int} {tgt : Nat} (d : decode M.2.1 pc = .ok (.if_icmp .gt off, 3)) (ht : (pc : Int) + off = (tgt : Int)) (hp : pc + 3 = pc') (kt : b < a → VE M x R Q K P J I cs n tgt L S) (kf : a ≤ b → VE M x R Q K P J I cs n pc' L S) : VE M x R Q K P J I cs n pc L (vI b :: vI a :: S) := by
  subst hp
  intro p l e s m args below meth c D ad0 ad K0 dom H locs ls X hl
  have wb : inR b := X.2.2.2.2.1.hd
  have wa : inR a := X.2.2.2.2.1.tl.hd
  refine lv_icmp_gt X.1.1 X.1.2.1 d ht (fun q => kt ((i32_lt wb wa).mp q) p l e s m args below meth c D ad0 ad K0 dom H locs ls (X.re X.2.2.2.2.1.tl.tl X.2.2.2.2.2.1) hl) (fun q => kf (Int.not_lt.mp (fun z => q ((i32_lt wb wa).mpr z))) p l e s m args below meth c D ad0 ad K0 dom H locs ls (X.re X.2.2.2.2.1.tl.tl X.2.2.2.2.2.1) hl)
theorem VE.if_gt {a : Int} {off : Int} {tgt : Nat} (d : decode M.2.1 pc = .ok (.ifCond .gt off, 3)) (ht : (pc : Int) + off = (tgt : Int)) (hp : pc + 3 = pc') (kt : 0 < a → VE M x R Q K P J I cs n tgt L S) (kf : a ≤ 0 → VE M x R Q K P J I cs n pc' L S) : VE M x R Q K P J I cs n pc L (vI a :: S) := by
  subst hp
  intro p l e s m args below meth c D ad0 ad K0 dom H locs ls X hl
  have wa : inR a := X.2.2.2.2.1.hd
  refine lv_if_gt X.1.1 X.1.2.1 d ht (fun q => kt ((i32_lt inR0 wa).mp q) p l e s m args below meth c D ad0 ad K0 dom H locs ls (X.re X.2.2.2.2.1.tl X.2.2.2.2.2.1) hl) (fun q => kf (Int.not_lt.mp (fun z => q ((i32_lt inR0 wa).mpr z))) p l e s m args below meth c D ad0 ad K0 dom H locs ls (X.re X.2.2.2.2.1.tl X.2.2.2.2.2.1) hl)
theorem VE.icmp_le {a b : Int} {off : Int} {tgt : Nat} (d : decode M.2.1 pc = .ok (.if_icmp .le off, 3)) (ht : (pc : Int) + off = (tgt : Int)) (hp : pc + 3 = pc') (kt : a ≤ b → VE M x R Q K P J I cs n tgt L S) (kf : b < a → VE M x R Q K P J I cs n pc' L S) : VE M x R Q K P J I cs n pc L (vI b :: vI a :: S) := by
  subst hp
  intro p l e s m args below meth c D ad0 ad K0 dom H locs ls X hl
  have wb : inR b := X.2.2.2.2.1.hd
  have wa : inR a := X.2.2.2.2.1.tl.hd
  refine lv_icmp_le X.1.1 X.1.2.1 d ht (fun q => kt ((i32_le wa wb).mp q) p l e s m args below meth c D ad0 ad K0 dom H locs ls (X.re X.2.2.2.2.1.tl.tl X.2.2.2.2.2.1) hl) (fun q => kf (Int.not_le.mp (fun z => q ((i32_le wa wb).mpr z))) p l e s m args below meth c D ad0 ad K0 dom H locs ls (X.re X.2.2.2.2.1.tl.tl X.2.2.2.2.2.1) hl)
theorem VE.if_le {a : Int} {off : Int} {tgt : Nat} (d : decode M.2.1 pc = .ok (.ifCond .le off, 3)) (ht : (pc : Int) + off = (tgt : Int)) (hp : pc + 3 = pc') (kt : a ≤ 0 → VE M x R Q K P J I cs n tgt L S) (kf : 0 < a → VE M x R Q K P J I cs n pc' L S) : VE M x R Q K P J I cs n pc L (vI a :: S) := by
  subst hp
  intro p l e s m args below meth c D ad0 ad K0 dom H locs ls X hl
  have wa : inR a := X.2.2.2.2.1.hd
  refine lv_if_le X.1.1 X.1.2.1 d ht (fun q => kt ((i32_le wa inR0).mp q) p l e s m args below meth c D ad0 ad K0 dom H locs ls (X.re X.2.2.2.2.1.tl X.2.2.2.2.2.1) hl) (fun q => kf (Int.not_le.mp (fun z => q ((i32_le wa inR0).mpr z))) p l e s m args below meth c D ad0 ad K0 dom H locs ls (X.re X.2.2.2.2.1.tl X.2.2.2.2.2.1) hl)
theorem VE.ifnull {o : Nat} {off : Int} (d : decode M.2.1 pc = .ok (.ifnull off, 3)) (hp : pc + 3 = pc') (k : VE M x R Q K P J I cs n pc' L S) : VE M x R Q K P J I cs n pc L (vR (some o) :: S) := by
  subst hp
  exact VE.go k (fun X hl kk => lv_ifnull X.1.1 X.1.2.1 d (kk _ X.2.2.2.2.1.tl X.2.2.2.2.2.1 hl))
theorem VE.ifnullN {off : Int} (d : decode M.2.1 pc = .ok (.ifnull off, 3)) (ht : (pc : Int) + off = (pc' : Int)) (k : VE M x R Q K P J I cs n pc' L S) : VE M x R Q K P J I cs n pc L (vR none :: S) :=
  VE.go k (fun X hl kk => lv_ifnullN X.1.1 X.1.2.1 d ht (kk _ X.2.2.2.2.1.tl X.2.2.2.2.2.1 hl))
theorem VE.ifnonnull {o : Nat} {off : Int} (d : decode M.2.1 pc = .ok (.ifnonnull off, 3)) (ht : (pc : Int) + off = (pc' : Int)) (k : VE M x R Q K P J I cs n pc' L S) : VE M x R Q K P J I cs n pc L (vR (some o) :: S) :=
  VE.go k (fun X hl kk => lv_ifnonnull X.1.1 X.1.2.1 d ht (kk _ X.2.2.2.2.1.tl X.2.2.2.2.2.1 hl))
theorem VE.ifnonnullN {off : Int} (d : decode M.2.1 pc = .ok (.ifnonnull off, 3)) (hp : pc + 3 = pc') (k : VE M x R Q K P J I cs n pc' L S) : VE M x R Q K P J I cs n pc L (vR none :: S) := by
  subst hp
  exact VE.go k (fun X hl kk => lv_ifnonnullN X.1.1 X.1.2.1 d (kk _ X.2.2.2.2.1.tl X.2.2.2.2.2.1 hl))
theorem VE.tsIn {a lo hi dflt : Int} {offs : Array Int} {len tgt : Nat} {off : Int} (d : decode M.2.1 pc = .ok (.tableswitch dflt lo hi offs, len)) (h1 : lo ≤ a) (h2 : a ≤ hi) (ho : offs[(a - lo).toNat]? = some off) (ht : (pc : Int) + off = (tgt : Int)) (k : VE M x R Q K P J I cs n tgt L S) : VE M x R Q K P J I cs n pc L (vI a :: S) := by
  refine VE.go k (fun X hl kk => ?_)
  have wa : inR a := X.2.2.2.2.1.hd
  exact lv_tableIn X.1.1 X.1.2.1 d (by rw [r32 wa]; omega) (by rw [r32 wa]; omega) (by rw [r32 wa]; exact ho) ht (kk _ X.2.2.2.2.1.tl X.2.2.2.2.2.1 hl)
theorem VE.tsOut {a lo hi dflt : Int} {offs : Array Int} {len tgt : Nat} (d : decode M.2.1 pc = .ok (.tableswitch dflt lo hi offs, len)) (h : a < lo ∨ hi < a) (ht : (pc : Int) + dflt = (tgt : Int)) (k : VE M x R Q K P J I cs n tgt L S) : VE M x R Q K P J I cs n pc L (vI a :: S) := by
  refine VE.go k (fun X hl kk => ?_)
  have wa : inR a := X.2.2.2.2.1.hd
  exact lv_tableOut X.1.1 X.1.2.1 d (by rw [r32 wa]; exact h) ht (kk _ X.2.2.2.2.1.tl X.2.2.2.2.2.1 hl)
theorem VE.know (k : WF K P J I → WFs K S → WFl K L → VE M x R Q K P J I cs n pc L S) : VE M x R Q K P J I cs n pc L S := by
  intro p l e s m args below meth c D ad0 ad K0 dom H locs ls X hl
  exact k X.2.2.2.1 X.2.2.2.2.1 X.2.2.2.2.2.1 p l e s m args below meth c D ad0 ad K0 dom H locs ls X hl
end Rules
section Heap
variable {D : GD} {A : Nat → Prop} {ad : Nat → Nat} {dom : List Nat} {K : KT} {P : PT} {J I : IT} {H : Heap}
end Heap
section Rows
variable {M : MD} {x : Bool} {R : Room} {Q : PE} {K : KT} {P : PT} {J I : IT} {cs n pc pc' : Nat} {L : List (Nat × AV)} {S : List AV}
theorem VE.getI {C : String} {T : u_T} {N ci k o n0 j : Nat} (d : decode M.2.1 pc = .ok (.getfield j, 3)) (hp : pc + 3 = pc') (hlk : Cond.fieldLink M.1.cls j (T k).1 (T k).2.1 (T k).2.2.1 ∈ TB) (hin : ∀ w ∈ u_ws C T N, w ∈ TB) (hc : classes[ci]? = some (C, T, N)) (hk : Nat.ble (k + 1) N = true) (hr : isP ci k = false)
    (ho : K o = some (ci, n0)) (kk : VE M x R Q K P J I cs n pc' L (vI (I o (k : Int)) :: S)) : VE M x R Q K P J I cs n pc L (vR (some o) :: S) := by
  subst hp
  intro p l e s m args below meth c D ad0 ad K0 dom H locs ls X hl
  obtain ⟨i, -, hi⟩ := X.2.2.2.2.2.2.1.at ho (ik_c (kn hc).2)
  rw [ce_obj (kn hc).2, (kn hc).1] at hi
  have hk' := Nat.le_of_ble_eq_true hk
  refine va_get (k := k) (v := cv ad (vI (I o (k : Int)))) X.1.1 X.1.2.1 X.1.2.2.2.2.2.1 hin X.1.2.2.2.2.1 X.2.1 X.2.2.2.2.2.2.1.2.2.1 i hi hc hk' (X.1.2.2.2.2.2.1 _ hlk) (fun _ h => h) ((rg_at _ hk').trans (by simp only [hr]; rfl)) d ?_
  exact kk p l e s m args below meth c D ad0 ad K0 dom H locs ls (X.re (WFs.cons (X.2.2.2.1.1 o k) X.2.2.2.2.1.tl) X.2.2.2.2.2.1) hl
theorem VE.getP {C : String} {T : u_T} {N ci k o n0 j : Nat} (d : decode M.2.1 pc = .ok (.getfield j, 3)) (hp : pc + 3 = pc') (hlk : Cond.fieldLink M.1.cls j (T k).1 (T k).2.1 (T k).2.2.1 ∈ TB) (hin : ∀ w ∈ u_ws C T N, w ∈ TB) (hc : classes[ci]? = some (C, T, N)) (hk : Nat.ble (k + 1) N = true) (hr : isP ci k = true)
    (ho : K o = some (ci, n0)) (kk : VE M x R Q K P J I cs n pc' L (vR (P o (k : Int)) :: S)) : VE M x R Q K P J I cs n pc L (vR (some o) :: S) := by
  subst hp
  intro p l e s m args below meth c D ad0 ad K0 dom H locs ls X hl
  obtain ⟨i, -, hi⟩ := X.2.2.2.2.2.2.1.at ho (ik_c (kn hc).2)
  rw [ce_obj (kn hc).2, (kn hc).1] at hi
  have hk' := Nat.le_of_ble_eq_true hk
  refine va_get (k := k) (v := cv ad (vR (P o (k : Int)))) X.1.1 X.1.2.1 X.1.2.2.2.2.2.1 hin X.1.2.2.2.2.1 X.2.1 X.2.2.2.2.2.2.1.2.2.1 i hi hc hk' (X.1.2.2.2.2.2.1 _ hlk) (fun _ h => h) ((rg_at _ hk').trans (by simp only [hr]; rfl)) d ?_
  exact kk p l e s m args below meth c D ad0 ad K0 dom H locs ls (X.re (WFs.cons (X.2.2.2.1.2.2.1 o k) X.2.2.2.2.1.tl) X.2.2.2.2.2.1) hl
theorem VE.putI {C : String} {T : u_T} {N ci k o n0 j : Nat} {ty : Nat → FieldType} {z : Int} (d : decode M.2.1 pc = .ok (.putfield j, 3)) (hp : pc + 3 = pc') (hlk : Cond.fieldLink M.1.cls j (T k).1 (T k).2.1 (T k).2.2.1 ∈ TB) (hin : ∀ w ∈ u_ws C T N, w ∈ TB) (hty : ∀ k, k < N → parseFieldDescriptor (T k).2.2.1 = some (ty k)) (hnm : ∀ a, a < N → ∀ b, b < N → a ≠ b → (T a).2.1 ≠ (T b).2.1)
    (hc : classes[ci]? = some (C, T, N)) (hk : Nat.ble (k + 1) N = true) (hr : isP ci k = false) (hfin : (T k).2.2.2 = false) (ht : ty k = .int)
    (ho : K o = some (ci, n0)) (kk : VE M x R Q K P J (up2 I o k z) cs n pc' L S) : VE M x R Q K P J I cs n pc L (vI z :: vR (some o) :: S) := by
  subst hp
  intro p l e s m args below meth c D ad0 ad K0 dom H locs ls X hl
  obtain ⟨i, hdi, hi⟩ := X.2.2.2.2.2.2.1.at ho (ik_c (kn hc).2)
  have hi0 := hi
  rw [ce_obj (kn hc).2, (kn hc).1] at hi
  have hk' := Nat.le_of_ble_eq_true hk
  have hko : (K o).isSome = true := by rw [ho]; rfl
  have hfit : narrow (ty k) (cv ad (vI z)) = cv ad (vI z) ∧ fits (ty k) (cv ad (vI z)) = true := by
    rw [ht]; exact ⟨rfl, rfl⟩
  refine va_put (k := k) (v := cv ad (vI z)) X.1.1 X.1.2.1 X.1.2.2.2.2.2.1 hin ty hty hnm X.1.2.2.2.2.1 X.2.1 X.2.2.2.2.2.2.1.2.2.1 X.2.2.2.2.2.2.1.2.2.2 X.2.2.2.2.2.2.2.1 i hi hc hk' (X.1.2.2.2.2.2.1 _ hlk) (fun _ h => h) hfin (hty k hk') hfit.1 hfit.2 (by rw [List.length_map, List.length_range]; exact hk') d (fun H1 locs1 hP hD hS => ?_)
  have e1 : ((List.range N).map (fun w => if isP ci w then va_rf ((P o (w : Int)).map ad) else .int (Int32.ofInt (I o (w : Int))))).set k (cv ad (vI z)) = (List.range N).map (fun w => if isP ci w then va_rf ((P o (w : Int)).map ad) else .int (Int32.ofInt ((up2 I o k z) o (w : Int)))) := by
    rw [← rg_set (k := k) (fun w => if isP ci w then va_rf ((P o (w : Int)).map ad) else .int (Int32.ofInt (I o (w : Int)))) (fun w => if isP ci w then va_rf ((P o (w : Int)).map ad) else .int (Int32.ofInt ((up2 I o k z) o (w : Int)))) hk' (fun j hj => by rw [up2_k I o o z (by omega)])]
    congr 1
    simp only [hr, up2_eq]; rfl
  rw [e1] at hP hD
  have hR := X.2.2.2.2.2.2.1.set (P' := P) (J' := J) (I' := up2 I o k z) ho hdi (by rw [ce_obj (kn hc).2, (kn hc).1]) (fun o' ho' k' => up2_o I k k' z ho') (fun _ _ _ => rfl) (fun _ _ _ => rfl) hP hD
  obtain ⟨x1, x2, x3, x4, x5, x6, x7, x8, x9⟩ := X
  exact kk p l e s m args below meth c D ad0 ad K0 dom H1 locs1 ls ⟨x1, x2, x3, x4.upI hko x5.hd, x5.tl.tl, x6, hR, hS, x9⟩ hl
theorem VE.putZ {C : String} {T : u_T} {N ci k o n0 j : Nat} {ty : Nat → FieldType} {z : Int} (d : decode M.2.1 pc = .ok (.putfield j, 3)) (hp : pc + 3 = pc') (hlk : Cond.fieldLink M.1.cls j (T k).1 (T k).2.1 (T k).2.2.1 ∈ TB) (hin : ∀ w ∈ u_ws C T N, w ∈ TB) (hty : ∀ k, k < N → parseFieldDescriptor (T k).2.2.1 = some (ty k)) (hnm : ∀ a, a < N → ∀ b, b < N → a ≠ b → (T a).2.1 ≠ (T b).2.1)
    (hc : classes[ci]? = some (C, T, N)) (hk : Nat.ble (k + 1) N = true) (hr : isP ci k = false) (hfin : (T k).2.2.2 = false) (ht : ty k = .boolean) (hz : z = 0 ∨ z = 1)
    (ho : K o = some (ci, n0)) (kk : VE M x R Q K P J (up2 I o k z) cs n pc' L S) : VE M x R Q K P J I cs n pc L (vI z :: vR (some o) :: S) := by
  subst hp
  intro p l e s m args below meth c D ad0 ad K0 dom H locs ls X hl
  obtain ⟨i, hdi, hi⟩ := X.2.2.2.2.2.2.1.at ho (ik_c (kn hc).2)
  have hi0 := hi
  rw [ce_obj (kn hc).2, (kn hc).1] at hi
  have hk' := Nat.le_of_ble_eq_true hk
  have hko : (K o).isSome = true := by rw [ho]; rfl
  have hfit : narrow (ty k) (cv ad (vI z)) = cv ad (vI z) ∧ fits (ty k) (cv ad (vI z)) = true := by
    rw [ht]; rcases hz with rfl | rfl <;> exact ⟨rfl, rfl⟩
  refine va_put (k := k) (v := cv ad (vI z)) X.1.1 X.1.2.1 X.1.2.2.2.2.2.1 hin ty hty hnm X.1.2.2.2.2.1 X.2.1 X.2.2.2.2.2.2.1.2.2.1 X.2.2.2.2.2.2.1.2.2.2 X.2.2.2.2.2.2.2.1 i hi hc hk' (X.1.2.2.2.2.2.1 _ hlk) (fun _ h => h) hfin (hty k hk') hfit.1 hfit.2 (by rw [List.length_map, List.length_range]; exact hk') d (fun H1 locs1 hP hD hS => ?_)
  have e1 : ((List.range N).map (fun w => if isP ci w then va_rf ((P o (w : Int)).map ad) else .int (Int32.ofInt (I o (w : Int))))).set k (cv ad (vI z)) = (List.range N).map (fun w => if isP ci w then va_rf ((P o (w : Int)).map ad) else .int (Int32.ofInt ((up2 I o k z) o (w : Int)))) := by
    rw [← rg_set (k := k) (fun w => if isP ci w then va_rf ((P o (w : Int)).map ad) else .int (Int32.ofInt (I o (w : Int)))) (fun w => if isP ci w then va_rf ((P o (w : Int)).map ad) else .int (Int32.ofInt ((up2 I o k z) o (w : Int)))) hk' (fun j hj => by rw [up2_k I o o z (by omega)])]
    congr 1
    simp only [hr, up2_eq]; rfl
  rw [e1] at hP hD
  have hR := X.2.2.2.2.2.2.1.set (P' := P) (J' := J) (I' := up2 I o k z) ho hdi (by rw [ce_obj (kn hc).2, (kn hc).1]) (fun o' ho' k' => up2_o I k k' z ho') (fun _ _ _ => rfl) (fun _ _ _ => rfl) hP hD
  obtain ⟨x1, x2, x3, x4, x5, x6, x7, x8, x9⟩ := X
  exact kk p l e s m args below meth c D ad0 ad K0 dom H1 locs1 ls ⟨x1, x2, x3, x4.upI hko x5.hd, x5.tl.tl, x6, hR, hS, x9⟩ hl
theorem VE.putP {C : String} {T : u_T} {N ci k o n0 j : Nat} {ty : Nat → FieldType} {r : Option Nat} (d : decode M.2.1 pc = .ok (.putfield j, 3)) (hp : pc + 3 = pc') (hlk : Cond.fieldLink M.1.cls j (T k).1 (T k).2.1 (T k).2.2.1 ∈ TB) (hin : ∀ w ∈ u_ws C T N, w ∈ TB) (hty : ∀ k, k < N → parseFieldDescriptor (T k).2.2.1 = some (ty k)) (hnm : ∀ a, a < N → ∀ b, b < N → a ≠ b → (T a).2.1 ≠ (T b).2.1)
    (hc : classes[ci]? = some (C, T, N)) (hk : Nat.ble (k + 1) N = true) (hr : isP ci k = true) (hfin : (T k).2.2.2 = false) (ht : (∃ q, ty k = .object q) ∨ ∃ q, ty k = .array q)
    (ho : K o = some (ci, n0)) (kk : VE M x R Q K (up2 P o k r) J I cs n pc' L S) : VE M x R Q K P J I cs n pc L (vR r :: vR (some o) :: S) := by
  subst hp
  intro p l e s m args below meth c D ad0 ad K0 dom H locs ls X hl
  obtain ⟨i, hdi, hi⟩ := X.2.2.2.2.2.2.1.at ho (ik_c (kn hc).2)
  have hi0 := hi
  rw [ce_obj (kn hc).2, (kn hc).1] at hi
  have hk' := Nat.le_of_ble_eq_true hk
  have hko : (K o).isSome = true := by rw [ho]; rfl
  have hfit : narrow (ty k) (cv ad (vR r)) = cv ad (vR r) ∧ fits (ty k) (cv ad (vR r)) = true := by
    rcases ht with ⟨q, ht⟩ | ⟨q, ht⟩ <;> rw [ht] <;> cases r <;> exact ⟨rfl, rfl⟩
  refine va_put (k := k) (v := cv ad (vR r)) X.1.1 X.1.2.1 X.1.2.2.2.2.2.1 hin ty hty hnm X.1.2.2.2.2.1 X.2.1 X.2.2.2.2.2.2.1.2.2.1 X.2.2.2.2.2.2.1.2.2.2 X.2.2.2.2.2.2.2.1 i hi hc hk' (X.1.2.2.2.2.2.1 _ hlk) (fun _ h => h) hfin (hty k hk') hfit.1 hfit.2 (by rw [List.length_map, List.length_range]; exact hk') d (fun H1 locs1 hP hD hS => ?_)
  have e1 : ((List.range N).map (fun w => if isP ci w then va_rf ((P o (w : Int)).map ad) else .int (Int32.ofInt (I o (w : Int))))).set k (cv ad (vR r)) = (List.range N).map (fun w => if isP ci w then va_rf (((up2 P o k r) o (w : Int)).map ad) else .int (Int32.ofInt (I o (w : Int)))) := by
    rw [← rg_set (k := k) (fun w => if isP ci w then va_rf ((P o (w : Int)).map ad) else .int (Int32.ofInt (I o (w : Int)))) (fun w => if isP ci w then va_rf (((up2 P o k r) o (w : Int)).map ad) else .int (Int32.ofInt (I o (w : Int)))) hk' (fun j hj => by rw [up2_k P o o r (by omega)])]
    congr 1
    simp only [hr, up2_eq]; rfl
  rw [e1] at hP hD
  have hR := X.2.2.2.2.2.2.1.set (P' := up2 P o k r) (J' := J) (I' := I) ho hdi (by rw [ce_obj (kn hc).2, (kn hc).1]) (fun _ _ _ => rfl) (fun _ _ _ => rfl) (fun o' ho' k' => up2_o P k k' r ho') hP hD
  obtain ⟨x1, x2, x3, x4, x5, x6, x7, x8, x9⟩ := X
  exact kk p l e s m args below meth c D ad0 ad K0 dom H1 locs1 ls ⟨x1, x2, x3, x4.upP hko x5.hd, x5.tl.tl, x6, hR, hS, x9⟩ hl
theorem VE.putIF {C : String} {T : u_T} {N ci k o n0 j : Nat} {ty : Nat → FieldType} {z : Int} (d : decode M.2.1 pc = .ok (.putfield j, 3)) (hp : pc + 3 = pc') (hlk : Cond.fieldLink M.1.cls j (T k).1 (T k).2.1 (T k).2.2.1 ∈ TB) (hin : ∀ w ∈ u_ws C T N, w ∈ TB) (hty : ∀ k, k < N → parseFieldDescriptor (T k).2.2.1 = some (ty k)) (hnm : ∀ a, a < N → ∀ b, b < N → a ≠ b → (T a).2.1 ≠ (T b).2.1)
    (hc : classes[ci]? = some (C, T, N)) (hk : Nat.ble (k + 1) N = true) (hr : isP ci k = false) (hfin : (T k).2.2.2 = true) (hini : M.1.name = "<init>") (hdl : (T k).1 = M.1.cls) (ht : ty k = .int)
    (ho : K o = some (ci, n0)) (kk : VE M x R Q K P J (up2 I o k z) cs n pc' L S) : VE M x R Q K P J I cs n pc L (vI z :: vR (some o) :: S) := by
  subst hp
  intro p l e s m args below meth c D ad0 ad K0 dom H locs ls X hl
  obtain ⟨i, hdi, hi⟩ := X.2.2.2.2.2.2.1.at ho (ik_c (kn hc).2)
  have hi0 := hi
  rw [ce_obj (kn hc).2, (kn hc).1] at hi
  have hk' := Nat.le_of_ble_eq_true hk
  have hko : (K o).isSome = true := by rw [ho]; rfl
  have hfit : narrow (ty k) (cv ad (vI z)) = cv ad (vI z) ∧ fits (ty k) (cv ad (vI z)) = true := by
    rw [ht]; exact ⟨rfl, rfl⟩
  refine va_putF (k := k) (v := cv ad (vI z)) X.1.1 X.1.2.1 X.1.2.2.2.2.2.1 hin ty hty hnm X.1.2.2.2.2.1 X.2.1 X.2.2.2.2.2.2.1.2.2.1 X.2.2.2.2.2.2.1.2.2.2 X.2.2.2.2.2.2.2.1 i hi hc hk' (X.1.2.2.2.2.2.1 _ hlk) (fun _ h => h) hfin (X.1.2.2.2.2.2.2.2.1 hini) hdl (hty k hk') hfit.1 hfit.2 (by rw [List.length_map, List.length_range]; exact hk') d (fun H1 locs1 hP hD hS => ?_)
  have e1 : ((List.range N).map (fun w => if isP ci w then va_rf ((P o (w : Int)).map ad) else .int (Int32.ofInt (I o (w : Int))))).set k (cv ad (vI z)) = (List.range N).map (fun w => if isP ci w then va_rf ((P o (w : Int)).map ad) else .int (Int32.ofInt ((up2 I o k z) o (w : Int)))) := by
    rw [← rg_set (k := k) (fun w => if isP ci w then va_rf ((P o (w : Int)).map ad) else .int (Int32.ofInt (I o (w : Int)))) (fun w => if isP ci w then va_rf ((P o (w : Int)).map ad) else .int (Int32.ofInt ((up2 I o k z) o (w : Int)))) hk' (fun j hj => by rw [up2_k I o o z (by omega)])]
    congr 1
    simp only [hr, up2_eq]; rfl
  rw [e1] at hP hD
  have hR := X.2.2.2.2.2.2.1.set (P' := P) (J' := J) (I' := up2 I o k z) ho hdi (by rw [ce_obj (kn hc).2, (kn hc).1]) (fun o' ho' k' => up2_o I k k' z ho') (fun _ _ _ => rfl) (fun _ _ _ => rfl) hP hD
  obtain ⟨x1, x2, x3, x4, x5, x6, x7, x8, x9⟩ := X
  exact kk p l e s m args below meth c D ad0 ad K0 dom H1 locs1 ls ⟨x1, x2, x3, x4.upI hko x5.hd, x5.tl.tl, x6, hR, hS, x9⟩ hl
theorem VE.putZF {C : String} {T : u_T} {N ci k o n0 j : Nat} {ty : Nat → FieldType} {z : Int} (d : decode M.2.1 pc = .ok (.putfield j, 3)) (hp : pc + 3 = pc') (hlk : Cond.fieldLink M.1.cls j (T k).1 (T k).2.1 (T k).2.2.1 ∈ TB) (hin : ∀ w ∈ u_ws C T N, w ∈ TB) (hty : ∀ k, k < N → parseFieldDescriptor (T k).2.2.1 = some (ty k)) (hnm : ∀ a, a < N → ∀ b, b < N → a ≠ b → (T a).2.1 ≠ (T b).2.1)
    (hc : classes[ci]? = some (C, T, N)) (hk : Nat.ble (k + 1) N = true) (hr : isP ci k = false) (hfin : (T k).2.2.2 = true) (hini : M.1.name = "<init>") (hdl : (T k).1 = M.1.cls) (ht : ty k = .boolean) (hz : z = 0 ∨ z = 1)
    (ho : K o = some (ci, n0)) (kk : VE M x R Q K P J (up2 I o k z) cs n pc' L S) : VE M x R Q K P J I cs n pc L (vI z :: vR (some o) :: S) := by
  subst hp
  intro p l e s m args below meth c D ad0 ad K0 dom H locs ls X hl
  obtain ⟨i, hdi, hi⟩ := X.2.2.2.2.2.2.1.at ho (ik_c (kn hc).2)
  have hi0 := hi
  rw [ce_obj (kn hc).2, (kn hc).1] at hi
  have hk' := Nat.le_of_ble_eq_true hk
  have hko : (K o).isSome = true := by rw [ho]; rfl
  have hfit : narrow (ty k) (cv ad (vI z)) = cv ad (vI z) ∧ fits (ty k) (cv ad (vI z)) = true := by
    rw [ht]; rcases hz with rfl | rfl <;> exact ⟨rfl, rfl⟩
  refine va_putF (k := k) (v := cv ad (vI z)) X.1.1 X.1.2.1 X.1.2.2.2.2.2.1 hin ty hty hnm X.1.2.2.2.2.1 X.2.1 X.2.2.2.2.2.2.1.2.2.1 X.2.2.2.2.2.2.1.2.2.2 X.2.2.2.2.2.2.2.1 i hi hc hk' (X.1.2.2.2.2.2.1 _ hlk) (fun _ h => h) hfin (X.1.2.2.2.2.2.2.2.1 hini) hdl (hty k hk') hfit.1 hfit.2 (by rw [List.length_map, List.length_range]; exact hk') d (fun H1 locs1 hP hD hS => ?_)
  have e1 : ((List.range N).map (fun w => if isP ci w then va_rf ((P o (w : Int)).map ad) else .int (Int32.ofInt (I o (w : Int))))).set k (cv ad (vI z)) = (List.range N).map (fun w => if isP ci w then va_rf ((P o (w : Int)).map ad) else .int (Int32.ofInt ((up2 I o k z) o (w : Int)))) := by
    rw [← rg_set (k := k) (fun w => if isP ci w then va_rf ((P o (w : Int)).map ad) else .int (Int32.ofInt (I o (w : Int)))) (fun w => if isP ci w then va_rf ((P o (w : Int)).map ad) else .int (Int32.ofInt ((up2 I o k z) o (w : Int)))) hk' (fun j hj => by rw [up2_k I o o z (by omega)])]
    congr 1
    simp only [hr, up2_eq]; rfl
  rw [e1] at hP hD
  have hR := X.2.2.2.2.2.2.1.set (P' := P) (J' := J) (I' := up2 I o k z) ho hdi (by rw [ce_obj (kn hc).2, (kn hc).1]) (fun o' ho' k' => up2_o I k k' z ho') (fun _ _ _ => rfl) (fun _ _ _ => rfl) hP hD
  obtain ⟨x1, x2, x3, x4, x5, x6, x7, x8, x9⟩ := X
  exact kk p l e s m args below meth c D ad0 ad K0 dom H1 locs1 ls ⟨x1, x2, x3, x4.upI hko x5.hd, x5.tl.tl, x6, hR, hS, x9⟩ hl
theorem VE.putPF {C : String} {T : u_T} {N ci k o n0 j : Nat} {ty : Nat → FieldType} {r : Option Nat} (d : decode M.2.1 pc = .ok (.putfield j, 3)) (hp : pc + 3 = pc') (hlk : Cond.fieldLink M.1.cls j (T k).1 (T k).2.1 (T k).2.2.1 ∈ TB) (hin : ∀ w ∈ u_ws C T N, w ∈ TB) (hty : ∀ k, k < N → parseFieldDescriptor (T k).2.2.1 = some (ty k)) (hnm : ∀ a, a < N → ∀ b, b < N → a ≠ b → (T a).2.1 ≠ (T b).2.1)
    (hc : classes[ci]? = some (C, T, N)) (hk : Nat.ble (k + 1) N = true) (hr : isP ci k = true) (hfin : (T k).2.2.2 = true) (hini : M.1.name = "<init>") (hdl : (T k).1 = M.1.cls) (ht : (∃ q, ty k = .object q) ∨ ∃ q, ty k = .array q)
    (ho : K o = some (ci, n0)) (kk : VE M x R Q K (up2 P o k r) J I cs n pc' L S) : VE M x R Q K P J I cs n pc L (vR r :: vR (some o) :: S) := by
  subst hp
  intro p l e s m args below meth c D ad0 ad K0 dom H locs ls X hl
  obtain ⟨i, hdi, hi⟩ := X.2.2.2.2.2.2.1.at ho (ik_c (kn hc).2)
  have hi0 := hi
  rw [ce_obj (kn hc).2, (kn hc).1] at hi
  have hk' := Nat.le_of_ble_eq_true hk
  have hko : (K o).isSome = true := by rw [ho]; rfl
  have hfit : narrow (ty k) (cv ad (vR r)) = cv ad (vR r) ∧ fits (ty k) (cv ad (vR r)) = true := by
    rcases ht with ⟨q, ht⟩ | ⟨q, ht⟩ <;> rw [ht] <;> cases r <;> exact ⟨rfl, rfl⟩
  refine va_putF (k := k) (v := cv ad (vR r)) X.1.1 X.1.2.1 X.1.2.2.2.2.2.1 hin ty hty hnm X.1.2.2.2.2.1 X.2.1 X.2.2.2.2.2.2.1.2.2.1 X.2.2.2.2.2.2.1.2.2.2 X.2.2.2.2.2.2.2.1 i hi hc hk' (X.1.2.2.2.2.2.1 _ hlk) (fun _ h => h) hfin (X.1.2.2.2.2.2.2.2.1 hini) hdl (hty k hk') hfit.1 hfit.2 (by rw [List.length_map, List.length_range]; exact hk') d (fun H1 locs1 hP hD hS => ?_)
  have e1 : ((List.range N).map (fun w => if isP ci w then va_rf ((P o (w : Int)).map ad) else .int (Int32.ofInt (I o (w : Int))))).set k (cv ad (vR r)) = (List.range N).map (fun w => if isP ci w then va_rf (((up2 P o k r) o (w : Int)).map ad) else .int (Int32.ofInt (I o (w : Int)))) := by
    rw [← rg_set (k := k) (fun w => if isP ci w then va_rf ((P o (w : Int)).map ad) else .int (Int32.ofInt (I o (w : Int)))) (fun w => if isP ci w then va_rf (((up2 P o k r) o (w : Int)).map ad) else .int (Int32.ofInt (I o (w : Int)))) hk' (fun j hj => by rw [up2_k P o o r (by omega)])]
    congr 1
    simp only [hr, up2_eq]; rfl
  rw [e1] at hP hD
  have hR := X.2.2.2.2.2.2.1.set (P' := up2 P o k r) (J' := J) (I' := I) ho hdi (by rw [ce_obj (kn hc).2, (kn hc).1]) (fun _ _ _ => rfl) (fun _ _ _ => rfl) (fun o' ho' k' => up2_o P k k' r ho') hP hD
  obtain ⟨x1, x2, x3, x4, x5, x6, x7, x8, x9⟩ := X
  exact kk p l e s m args below meth c D ad0 ad K0 dom H1 locs1 ls ⟨x1, x2, x3, x4.upP hko x5.hd, x5.tl.tl, x6, hR, hS, x9⟩ hl
theorem VE.iald {o N : Nat} {z : Int} (d : decode M.2.1 pc = .ok (.iaload, 1)) (hp : pc + 1 = pc') (ho : K o = some (100, N)) (h0 : 0 ≤ z) (h1 : z < N) (kk : VE M x R Q K P J I cs n pc' L (vI (I o z) :: S)) : VE M x R Q K P J I cs n pc L (vI z :: vR (some o) :: S) := by
  subst hp
  intro p l e s m args below meth c D ad0 ad K0 dom H locs ls X hl
  obtain ⟨i, -, hi⟩ := X.2.2.2.2.2.2.1.at ho (ik_n rfl rfl)
  rw [ce_I] at hi
  have wz : inR z := X.2.2.2.2.1.hd
  have ez : ((Int32.ofInt z).toNatClampNeg : Int) = z := by rw [i32_nat wz]; omega
  refine va_iald X.1.1 X.1.2.1 X.2.1 X.2.2.2.2.2.2.1.2.2.1 i 0 hi rfl (i32_in wz h0 h1) d ?_
  have q := kk p l e s m args below meth c D ad0 ad K0 dom H locs ls (X.re (WFs.cons (X.2.2.2.1.1 o z) X.2.2.2.2.1.tl.tl) X.2.2.2.2.2.1) hl
  rw [ez]
  exact q
theorem VE.zald {o N : Nat} {z : Int} (d : decode M.2.1 pc = .ok (.baload, 1)) (hp : pc + 1 = pc') (ho : K o = some (101, N)) (h0 : 0 ≤ z) (h1 : z < N) (kk : VE M x R Q K P J I cs n pc' L (vI (I o z) :: S)) : VE M x R Q K P J I cs n pc L (vI z :: vR (some o) :: S) := by
  subst hp
  intro p l e s m args below meth c D ad0 ad K0 dom H locs ls X hl
  obtain ⟨i, -, hi⟩ := X.2.2.2.2.2.2.1.at ho (ik_n rfl rfl)
  rw [ce_Z] at hi
  have wz : inR z := X.2.2.2.2.1.hd
  have ez : ((Int32.ofInt z).toNatClampNeg : Int) = z := by rw [i32_nat wz]; omega
  refine va_zald X.1.1 X.1.2.1 X.2.1 X.2.2.2.2.2.2.1.2.2.1 i 1 hi rfl (i32_in wz h0 h1) d ?_
  have q := kk p l e s m args below meth c D ad0 ad K0 dom H locs ls (X.re (WFs.cons (X.2.2.2.1.1 o z) X.2.2.2.2.1.tl.tl) X.2.2.2.2.2.1) hl
  rw [ez]
  exact q
theorem VE.lald {o N : Nat} {z : Int} (d : decode M.2.1 pc = .ok (.laload, 1)) (hp : pc + 1 = pc') (ho : K o = some (102, N)) (h0 : 0 ≤ z) (h1 : z < N) (kk : VE M x R Q K P J I cs n pc' L (vJ (J o z) :: S)) : VE M x R Q K P J I cs n pc L (vI z :: vR (some o) :: S) := by
  subst hp
  intro p l e s m args below meth c D ad0 ad K0 dom H locs ls X hl
  obtain ⟨i, -, hi⟩ := X.2.2.2.2.2.2.1.at ho (ik_n rfl rfl)
  rw [ce_J] at hi
  have wz : inR z := X.2.2.2.2.1.hd
  have ez : ((Int32.ofInt z).toNatClampNeg : Int) = z := by rw [i32_nat wz]; omega
  refine va_lald X.1.1 X.1.2.1 X.2.1 X.2.2.2.2.2.2.1.2.2.1 i 2 hi rfl (i32_in wz h0 h1) d ?_
  have q := kk p l e s m args below meth c D ad0 ad K0 dom H locs ls (X.re (WFs.cons (X.2.2.2.1.2.1 o z) X.2.2.2.2.1.tl.tl) X.2.2.2.2.2.1) hl
  rw [ez]
  exact q
theorem VE.rald {o N : Nat} {z : Int} (d : decode M.2.1 pc = .ok (.aaload, 1)) (hp : pc + 1 = pc') (ho : K o = some (103, N)) (h0 : 0 ≤ z) (h1 : z < N) (kk : VE M x R Q K P J I cs n pc' L (vR (P o z) :: S)) : VE M x R Q K P J I cs n pc L (vI z :: vR (some o) :: S) := by
  subst hp
  intro p l e s m args below meth c D ad0 ad K0 dom H locs ls X hl
  obtain ⟨i, -, hi⟩ := X.2.2.2.2.2.2.1.at ho (ik_n rfl rfl)
  rw [ce_R] at hi
  have wz : inR z := X.2.2.2.2.1.hd
  have ez : ((Int32.ofInt z).toNatClampNeg : Int) = z := by rw [i32_nat wz]; omega
  refine va_aldq X.1.1 X.1.2.1 X.2.1 X.2.2.2.2.2.2.1.2.2.1 i 3 hi rfl (i32_in wz h0 h1) d ?_
  have q := kk p l e s m args below meth c D ad0 ad K0 dom H locs ls (X.re (WFs.cons (X.2.2.2.1.2.2.1 o z) X.2.2.2.2.1.tl.tl) X.2.2.2.2.2.1) hl
  rw [ez]
  exact q
theorem VE.oald {o N : Nat} {z : Int} (d : decode M.2.1 pc = .ok (.aaload, 1)) (hp : pc + 1 = pc') (ho : K o = some (104, N)) (h0 : 0 ≤ z) (h1 : z < N) (kk : VE M x R Q K P J I cs n pc' L (vR (P o z) :: S)) : VE M x R Q K P J I cs n pc L (vI z :: vR (some o) :: S) := by
  subst hp
  intro p l e s m args below meth c D ad0 ad K0 dom H locs ls X hl
  obtain ⟨i, -, hi⟩ := X.2.2.2.2.2.2.1.at ho (ik_o (by omega))
  rw [ce_O] at hi
  have wz : inR z := X.2.2.2.2.1.hd
  have ez : ((Int32.ofInt z).toNatClampNeg : Int) = z := by rw [i32_nat wz]; omega
  refine va_aldq X.1.1 X.1.2.1 X.2.1 X.2.2.2.2.2.2.1.2.2.1 i 4 hi rfl (i32_in wz h0 h1) d ?_
  have q := kk p l e s m args below meth c D ad0 ad K0 dom H locs ls (X.re (WFs.cons (X.2.2.2.1.2.2.1 o z) X.2.2.2.2.1.tl.tl) X.2.2.2.2.2.1) hl
  rw [ez]
  exact q
theorem VE.iast {o N : Nat} {z v : Int} (d : decode M.2.1 pc = .ok (.iastore, 1)) (hp : pc + 1 = pc') (ho : K o = some (100, N)) (h0 : 0 ≤ z) (h1 : z < N) (kk : VE M x R Q K P J (up2 I o z v) cs n pc' L S) : VE M x R Q K P J I cs n pc L (vI v :: vI z :: vR (some o) :: S) := by
  subst hp
  intro p l e s m args below meth c D ad0 ad K0 dom H locs ls X hl
  obtain ⟨i, hdi, hi⟩ := X.2.2.2.2.2.2.1.at ho (ik_n rfl rfl)
  rw [ce_I] at hi
  have hko : (K o).isSome = true := by rw [ho]; rfl
  have wz : inR z := X.2.2.2.2.1.tl.hd
  have ez : (Int32.ofInt z).toNatClampNeg = z.toNat := i32_nat wz
  refine va_iast X.1.1 X.1.2.1 X.2.1 X.2.2.2.2.2.2.1.2.2.1 X.2.2.2.2.2.2.1.2.2.2 X.2.2.2.2.2.2.2.1 i 0 hi rfl (i32_in wz h0 h1) d (fun H1 locs1 hP hD hS => ?_)
  have e1 : upd (fun j => Int32.ofInt (I o (j : Int))) (Int32.ofInt z).toNatClampNeg (Int32.ofInt v) = (fun (j : Nat) => Int32.ofInt (up2 I o z v o (j : Int))) := by
    funext j
    unfold upd
    rw [ez]
    by_cases hj : j = z.toNat
    · rw [if_pos hj, hj, show ((z.toNat : Nat) : Int) = z by omega, up2_eq]
    · rw [if_neg hj, up2_k _ o o v (by omega)]
  rw [e1] at hP hD
  have hR := X.2.2.2.2.2.2.1.set (P' := P) (J' := J) (I' := up2 I o z v) ho hdi (by rw [ce_I]) (fun o' ho' k' => up2_o I z k' v ho') (fun _ _ _ => rfl) (fun _ _ _ => rfl) hP hD
  obtain ⟨x1, x2, x3, x4, x5, x6, x7, x8, x9⟩ := X
  exact kk p l e s m args below meth c D ad0 ad K0 dom H1 locs1 ls ⟨x1, x2, x3, x4.upI hko x5.hd, x5.tl.tl.tl, x6, hR, hS, x9⟩ hl
theorem VE.zast {o N : Nat} {z v : Int} (d : decode M.2.1 pc = .ok (.bastore, 1)) (hp : pc + 1 = pc') (ho : K o = some (101, N)) (h0 : 0 ≤ z) (h1 : z < N) (hv : v = 0 ∨ v = 1) (kk : VE M x R Q K P J (up2 I o z v) cs n pc' L S) : VE M x R Q K P J I cs n pc L (vI v :: vI z :: vR (some o) :: S) := by
  subst hp
  intro p l e s m args below meth c D ad0 ad K0 dom H locs ls X hl
  obtain ⟨i, hdi, hi⟩ := X.2.2.2.2.2.2.1.at ho (ik_n rfl rfl)
  rw [ce_Z] at hi
  have hko : (K o).isSome = true := by rw [ho]; rfl
  have wz : inR z := X.2.2.2.2.1.tl.hd
  have ez : (Int32.ofInt z).toNatClampNeg = z.toNat := i32_nat wz
  refine va_zast X.1.1 X.1.2.1 X.2.1 X.2.2.2.2.2.2.1.2.2.1 X.2.2.2.2.2.2.1.2.2.2 X.2.2.2.2.2.2.2.1 i 1 hi rfl (i32_in wz h0 h1) d (fun H1 locs1 hP hD hS => ?_)
  have e1 : upd (fun j => Int32.ofInt (I o (j : Int))) (Int32.ofInt z).toNatClampNeg (vp_nar .boolean (Int32.ofInt v)) = (fun (j : Nat) => Int32.ofInt (up2 I o z v o (j : Int))) := by
    funext j
    unfold upd
    rw [ez]
    by_cases hj : j = z.toNat
    · rw [if_pos hj, hj, show ((z.toNat : Nat) : Int) = z by omega, up2_eq]; rcases hv with rfl | rfl <;> rfl
    · rw [if_neg hj, up2_k _ o o v (by omega)]
  rw [e1] at hP hD
  have hR := X.2.2.2.2.2.2.1.set (P' := P) (J' := J) (I' := up2 I o z v) ho hdi (by rw [ce_Z]) (fun o' ho' k' => up2_o I z k' v ho') (fun _ _ _ => rfl) (fun _ _ _ => rfl) hP hD
  obtain ⟨x1, x2, x3, x4, x5, x6, x7, x8, x9⟩ := X
  exact kk p l e s m args below meth c D ad0 ad K0 dom H1 locs1 ls ⟨x1, x2, x3, x4.upI hko x5.hd, x5.tl.tl.tl, x6, hR, hS, x9⟩ hl
theorem VE.last {o N : Nat} {z v : Int} (d : decode M.2.1 pc = .ok (.lastore, 1)) (hp : pc + 1 = pc') (ho : K o = some (102, N)) (h0 : 0 ≤ z) (h1 : z < N) (kk : VE M x R Q K P (up2 J o z v) I cs n pc' L S) : VE M x R Q K P J I cs n pc L (vJ v :: vI z :: vR (some o) :: S) := by
  subst hp
  intro p l e s m args below meth c D ad0 ad K0 dom H locs ls X hl
  obtain ⟨i, hdi, hi⟩ := X.2.2.2.2.2.2.1.at ho (ik_n rfl rfl)
  rw [ce_J] at hi
  have hko : (K o).isSome = true := by rw [ho]; rfl
  have wz : inR z := X.2.2.2.2.1.tl.hd
  have ez : (Int32.ofInt z).toNatClampNeg = z.toNat := i32_nat wz
  refine va_last X.1.1 X.1.2.1 X.2.1 X.2.2.2.2.2.2.1.2.2.1 X.2.2.2.2.2.2.1.2.2.2 X.2.2.2.2.2.2.2.1 i 2 hi rfl (i32_in wz h0 h1) d (fun H1 locs1 hP hD hS => ?_)
  have e1 : vp_updL (fun j => Int64.ofInt (J o (j : Int))) (Int32.ofInt z).toNatClampNeg (Int64.ofInt v) = (fun (j : Nat) => Int64.ofInt (up2 J o z v o (j : Int))) := by
    funext j
    unfold vp_updL
    rw [ez]
    by_cases hj : j = z.toNat
    · rw [if_pos hj, hj, show ((z.toNat : Nat) : Int) = z by omega, up2_eq]
    · rw [if_neg hj, up2_k _ o o v (by omega)]
  rw [e1] at hP hD
  have hR := X.2.2.2.2.2.2.1.set (P' := P) (J' := up2 J o z v) (I' := I) ho hdi (by rw [ce_J]) (fun _ _ _ => rfl) (fun o' ho' k' => up2_o J z k' v ho') (fun _ _ _ => rfl) hP hD
  obtain ⟨x1, x2, x3, x4, x5, x6, x7, x8, x9⟩ := X
  exact kk p l e s m args below meth c D ad0 ad K0 dom H1 locs1 ls ⟨x1, x2, x3, x4.upJ hko x5.hd, x5.tl.tl.tl, x6, hR, hS, x9⟩ hl
theorem VE.alen {o N kd : Nat} (d : decode M.2.1 pc = .ok (.arraylength, 1)) (hp : pc + 1 = pc') (ho : K o = some (kd, N)) (hkd : kd = 100 ∨ kd = 101 ∨ kd = 102 ∨ kd = 103 ∨ kd = 104) (hN : (N : Int) ≤ 2147483647) (kk : VE M x R Q K P J I cs n pc' L (vI (N : Int) :: S)) : VE M x R Q K P J I cs n pc L (vR (some o) :: S) := by
  subst hp
  intro p l e s m args below meth c D ad0 ad K0 dom H locs ls X hl
  have q := kk p l e s m args below meth c D ad0 ad K0 dom H locs ls (X.re (WFs.cons (show inR (N : Int) from ⟨by omega, hN⟩) X.2.2.2.2.1.tl) X.2.2.2.2.2.1) hl
  rcases hkd with rfl | rfl | rfl | rfl | rfl
  · obtain ⟨i, -, hi⟩ := X.2.2.2.2.2.2.1.at ho (ik_n rfl rfl)
    rw [ce_I] at hi
    exact va_alen X.1.1 X.1.2.1 X.2.1 X.2.2.2.2.2.2.1.2.2.1 i 0 hi rfl (v := Int32.ofInt (N : Int)) Int32.ofInt_eq_ofNat.symm d q
  · obtain ⟨i, -, hi⟩ := X.2.2.2.2.2.2.1.at ho (ik_n rfl rfl)
    rw [ce_Z] at hi
    exact va_alen X.1.1 X.1.2.1 X.2.1 X.2.2.2.2.2.2.1.2.2.1 i 1 hi rfl (v := Int32.ofInt (N : Int)) Int32.ofInt_eq_ofNat.symm d q
  · obtain ⟨i, -, hi⟩ := X.2.2.2.2.2.2.1.at ho (ik_n rfl rfl)
    rw [ce_J] at hi
    exact va_alen X.1.1 X.1.2.1 X.2.1 X.2.2.2.2.2.2.1.2.2.1 i 2 hi rfl (v := Int32.ofInt (N : Int)) Int32.ofInt_eq_ofNat.symm d q
  · obtain ⟨i, -, hi⟩ := X.2.2.2.2.2.2.1.at ho (ik_n rfl rfl)
    rw [ce_R] at hi
    exact va_alen X.1.1 X.1.2.1 X.2.1 X.2.2.2.2.2.2.1.2.2.1 i 3 hi rfl (v := Int32.ofInt (N : Int)) Int32.ofInt_eq_ofNat.symm d q
  · by_cases e9 : o = 999
    · subst e9
      have hO := X.2.2.2.2.2.2.1.2.1.2
      have u := hO.1.1
      rw [ho] at u
      cases u
      obtain ⟨⟨⟨scr, g1, g2, g3, g4⟩, g5, g6⟩, -⟩ := X.2.2.1.2.2.2
      have ea : cv ad (vR (some 999)) = .ref D.2.2.2.1 := by
        show Value.ref (ad 999) = _
        rw [hO.1.2]
      rw [List.map_cons, ea]
      exact W.alen (n := Int32.ofNat 0) X.1.1 X.1.2.1 (by rw [X.2.2.2.2.2.2.2.1.2.1 _ g5 g6]; exact g1) g2 (by rw [g4] <;> rfl) rfl rfl d q
    obtain ⟨i, -, hi⟩ := X.2.2.2.2.2.2.1.atn ho (fun z => z.elim e9 (fun ⟨n, z⟩ => by rw [ho] at z; cases z))
    rw [ce_O] at hi
    exact va_alen X.1.1 X.1.2.1 X.2.1 X.2.2.2.2.2.2.1.2.2.1 i 4 hi rfl (v := Int32.ofInt (N : Int)) Int32.ofInt_eq_ofNat.symm d q
end Rows
