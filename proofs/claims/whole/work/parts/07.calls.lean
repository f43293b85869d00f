/-! calls -/
theorem AF.sub {D : GD} {A : Nat → Prop} {ad : Nat → Nat} {dom : List Nat} {K : KT} {P : PT} {J I : IT} {H : Heap} {sz : Nat} (h : Rep D A ad dom K P J I H) (hA : ∀ q, sz ≤ q → A q) (hs : sz ≤ H.size) : ∀ q, AF ad K H.size q → A q := by
  intro q hq
  rcases hq with ⟨o, ho, hn, rfl⟩ | hq
  · obtain ⟨kd, e⟩ := Option.isSome_iff_exists.mp ho
    obtain ⟨i, -, hi⟩ := h.atn e hn
    exact h.2.2.2.2 i _ hi
  · exact hA q (Nat.le_trans hs hq)
theorem Rep.weaken {D : GD} {A B : Nat → Prop} {ad : Nat → Nat} {dom : List Nat} {K : KT} {P : PT} {J I : IT} {H : Heap} (h : Rep D A ad dom K P J I H) (hAB : ∀ q, A q → B q) : Rep D B ad dom K P J I H :=
  ⟨h.1, h.2.1, h.2.2.1, h.2.2.2.weaken (fun _ _ _ q => hAB _ q)⟩
theorem Rep.self {D : GD} {A : Nat → Prop} {ad : Nat → Nat} {dom : List Nat} {K : KT} {P : PT} {J I : IT} {H : Heap} (h : Rep D A ad dom K P J I H) (sz : Nat) : Rep D (AF ad K sz) ad dom K P J I H := by
  refine ⟨h.1, h.2.1, h.2.2.1, h.2.2.2.1, fun k q hq => ?_⟩
  unfold wl at hq
  rw [List.getElem?_map] at hq
  cases hd : dom[k]? with
  | none => rw [hd] at hq; cases hq
  | some o =>
    rw [hd] at hq
    cases hq
    exact Or.inl ⟨o, ((h.2.1.1 o).mp (List.mem_of_getElem? hd)).1, ((h.2.1.1 o).mp (List.mem_of_getElem? hd)).2, rfl⟩
theorem ZF.narrow {D : GD} {A B : Nat → Prop} {U : State} {H : Heap} (h : ZF D A U H) (hAB : ∀ q, B q → A q) : ZF D B U H := ⟨h.1.narrow hAB, h.2.1.narrow hAB, h.2.2.1.narrow hAB, ⟨h.2.2.2.1.1, h.2.2.2.1.2.1, fun z => h.2.2.2.1.2.2 (hAB _ z)⟩, h.2.2.2.2.1, h.2.2.2.2.2.1, fun z => h.2.2.2.2.2.2 (hAB _ z)⟩
theorem ZF.kept {D : GD} {A : Nat → Prop} {U : State} {H H1 : Heap} (h : ZF D A U H) (hq : ∀ a : Nat, a < H.size → ¬ A a → H1[a]? = H[a]?) : ZF D A U H1 := by
  obtain ⟨h1, h2, h3, ⟨⟨scr, a1, a2⟩, b1, b2⟩, c1, d1, d2⟩ := h
  have e1 := hq _ b1 b2
  have e2 := hq _ d1 d2
  have lt : ∀ a : Nat, a < H.size → H1[a]? = H[a]? → a < H1.size := fun a z e => by
    rw [Array.getElem?_eq_getElem z] at e
    exact (Array.getElem?_eq_some_iff.mp e).1
  exact ⟨h1.kept hq, h2.kept hq, h3.kept hq, ⟨⟨scr, by rw [e1]; exact a1, a2⟩, lt _ b1 e1, b2⟩, c1.kept e2, lt _ d1 e2, d2⟩
theorem ZF.moved {D : GD} {A : Nat → Prop} {u U : State} {H : Heap} (hvm : u.vm.Alike U.vm) (h : ZF D A u H) : ZF D A U H := by
  obtain ⟨h1, h2, h3, ⟨⟨scr, a1, a2, a3⟩, b⟩, c1, d⟩ := h
  exact ⟨h1.moved hvm, h2.moved hvm, h3.moved hvm, ⟨⟨scr, a1, State.isArrayOf_alike hvm a2, a3⟩, b⟩, c1.moved hvm, d⟩
theorem PcM.blind {D : GD} {ad : Nat → Nat} {dom : List Nat} {K : KT} {P : PT} {J I : IT} {as : List AV} {sz : Nat} : FrameBlind (PcM D ad dom K P J I as sz) := fun a U g mk q => by
  obtain ⟨q0, q1, q2, q3, q4, q5, q6⟩ := q
  exact ⟨q0, q1, q2, va_K.moved (u := U) (U := U.calling g mk a) (Vm.Alike.refl U.vm) q3, ZF.moved (u := U) (U := U.calling g mk a) (Vm.Alike.refl U.vm) q4, NW.same (s := U) (U := U.calling g mk a) rfl q5, q6⟩
theorem Ext.trans {ad0 ad ad' : Nat → Nat} {K0 K K' : KT} (h : Ext ad0 K0 ad K) (h' : Ext ad K ad' K') : Ext ad0 K0 ad' K' := fun o ho => ⟨(h' o (h o ho).1).1, (h' o (h o ho).1).2.trans (h o ho).2⟩
theorem cv_ext {K K' : KT} {ad ad' : Nat → Nat} (h : Ext ad K ad' K') {v : AV} (hv : WFv K v) : cv ad' v = cv ad v ∧ WFv K' v := by
  rcases v with z | r | z
  · exact ⟨rfl, hv⟩
  · cases r with
    | none => exact ⟨rfl, fun q e => by cases e⟩
    | some q =>
      obtain ⟨h1, h2⟩ := h q (hv q rfl)
      exact ⟨by show Value.ref (ad' q) = Value.ref (ad q); rw [h2], fun z e => by cases e; exact h1⟩
  · exact ⟨rfl, hv⟩
theorem cs_ext {K K' : KT} {ad ad' : Nat → Nat} (h : Ext ad K ad' K') {S : List AV} (hS : WFs K S) : S.map (cv ad') = S.map (cv ad) ∧ WFs K' S := ⟨List.map_congr_left (fun v hv => (cv_ext h (hS v hv)).1), fun v hv => (cv_ext h (hS v hv)).2⟩
theorem cl_ext {K K' : KT} {ad ad' : Nat → Nat} (h : Ext ad K ad' K') {L : List (Nat × AV)} (hL : WFl K L) : cl ad' L = cl ad L ∧ WFl K' L := ⟨List.map_congr_left (fun q hq => by show (q.1, cv ad' q.2) = (q.1, cv ad q.2); rw [(cv_ext h (hL q hq)).1]), fun q hq => (cv_ext h (hL q hq)).2⟩
section Calls
variable {M : MD} {x : Bool} {R : Room} {Q : PQ} {K : KT} {P : PT} {J I : IT} {cs n pc pc' : Nat} {L : List (Nat × AV)} {S St : List AV}
variable {p : Program} {l : Launch} {e : Env} {s : State} {m : MethodId} {args : Array Value} {below : List Frame} {meth : Method} {c : Code} {D : GD} {ad0 ad : Nat → Nat} {K0 : KT} {dom : List Nat} {H : Heap} {locs : List Loc} {ls : Array Slot}
theorem CX.sub (X : CX M x R p l s m args meth c D ad0 ad K0 dom H locs K P J I L S) : ∀ q, AF ad K H.size q → AF ad0 K0 s.heap.size q :=
  AF.sub X.2.2.2.2.2.2.1 (fun q h => Or.inr h) X.2.2.2.2.2.2.2.1.1
/-- what the callee finds -/
theorem CX.pre {as : List AV} (X : CX M x R p l s m args meth c D ad0 ad K0 dom H locs K P J I L S) (U : State) (hU : U.heap = H) (hW : s.WarmedH U.vm) : PcM D ad dom K P J I as H.size (as.map (cv ad)).toArray U := by
  have hz : ZF D (AF ad K H.size) s H := (X.2.2.1.kept (fun a h1 h2 => X.2.2.2.2.2.2.2.1.2.1 a h1 h2)).narrow X.sub
  exact ⟨rfl, by rw [hU], by rw [hU]; exact X.2.2.2.2.2.2.1.self H.size, va_K.moved hW.alike X.2.1, by rw [hU]; exact hz.moved hW.alike, X.1.2.2.2.2.2.2.2.2.2.1.warm hW, (X.2.2.2.2.2.2.2.2.1 999 X.2.2.2.2.2.2.2.2.2.1).1, (X.2.2.2.2.2.2.2.2.1 999 X.2.2.2.2.2.2.2.2.2.1).2.trans X.2.2.2.2.2.2.2.2.2.2⟩
/-- behind a call -/
theorem CX.post {K' : KT} {P' : PT} {J' I' : IT} {ad' : Nat → Nat} {dom' : List Nat} {H1 : Heap} {locs1 : List Loc} {r : List AV} (X : CX M x R p l s m args meth c D ad0 ad K0 dom H locs K P J I L St) (hS : WFs K S) (w1 : WF K' P' J' I') (w2 : WFs K' r) (he : Ext ad K ad' K')
    (hR : Rep D (AF ad K H.size) ad' dom' K' P' J' I' H1) (hv : va_S (AF ad0 K0 s.heap.size) s.heap H1 locs1) : CX M x R p l s m args meth c D ad0 ad' K0 dom' H1 locs1 K' P' J' I' L (r ++ S) :=
  ⟨X.1, X.2.1, X.2.2.1, w1, fun v hv => (List.mem_append.mp hv).elim (w2 v) ((cs_ext he hS).2 v), (cl_ext he X.2.2.2.2.2.1).2, hR.weaken X.sub, hv, ⟨X.2.2.2.2.2.2.2.2.1.trans he, X.2.2.2.2.2.2.2.2.2⟩⟩
theorem CX.back {Qy : PQ} {mc ms : Nat} {a : Array Value} {st0 : List Value} {Qf : State → Prop} (X : CX M x R p l s m args meth c D ad0 ad K0 dom H locs K P J I L St) (hl : lv_has ls M.2.2.1 (cl ad L)) (hS : WFs K S)
    (hr : va_Run p l e R s m args below meth c H locs cs n mc ms (F0 m pc ls st0) (S.map (cv ad)) (QN Qy D ad K H.size a) (AF ad K H.size))
    (kk : ∀ (r : Option AV) (K' : KT) (P' : PT) (J' I' : IT) (ad' : Nat → Nat) (dom' : List Nat) (H1 : Heap) (locs1 : List Loc), Qy (.inl r) K' P' J' I' → CX M x R p l s m args meth c D ad0 ad' K0 dom' H1 locs1 K' P' J' I' L (r.toList ++ S) → lv_has ls M.2.2.1 (cl ad' L) →
      W p l e R s m args below meth c H1 locs1 (cs + mc) (n + ms) Qf (F0 m (pc + 3) ls ((r.toList ++ S).map (cv ad')))) :
    W p l e R s m args below meth c H locs cs n Qf (F0 m pc ls st0) := by
  intro T hT hX
  obtain ⟨v, st₀, t, T', Lc, h0, X', hL, e1, e2, ⟨⟨r, K', P', J', I', ad', dom', ho, hq, w1, w2, he, hR, hK⟩, hF⟩, st⟩ := hr T hT hX
  obtain ⟨k1, k2, k3⟩ := vx_keep h0 e1 X.2.2.2.2.2.2.2.1 (fun q _ h => X.sub q h) X.sub hL hF
  have hv : v = r.map (cv ad') := by cases ho; rfl
  have w3 : WFs K' r.toList := fun v hv => w2 v (by cases r with | none => cases hv | some y => simp at hv; rw [hv])
  obtain ⟨t2, a1, b1⟩ := kk r K' P' J' I' ad' dom' T'.heap (locs ++ Lc) hq (X.post hS w1 w3 he (by rw [e1]; exact hR) k3) (by rw [(cl_ext he X.2.2.2.2.2.1).1]; exact hl) T' rfl X'
  have es : v.toList ++ S.map (cv ad) = (r.toList ++ S).map (cv ad') := by
    rw [hv, List.map_append, (cs_ext he hS).1]
    cases r <;> rfl
  exact ⟨t2, st t2 (by rw [es]; exact a1), b1⟩
end Calls
/-- what a call of M asks of the tables -/
def MOK (M : MD) : Prop := Cond.code M.1 M.2.1 M.2.2.1 M.2.2.2.1 ∈ TB ∧ M.2.2.2.2 = [] ∧ Cond.initialized M.1.cls ∈ TB ∧ M.1.cls ≠ "java/lang/invoke/MethodHandle" ∧ M.1.cls ≠ "java/lang/invoke/VarHandle"
abbrev nPar (M : MD) (k : Nat) : Prop := (parseMethodDescriptor M.1.desc).map (fun d => d.parameters.length) = some k
theorem goodTB (M : MD) (h : Cond.code M.1 M.2.1 M.2.2.1 M.2.2.2.1 ∈ TB) (h0 : M.2.2.2.2 = []) : GoodIn TB (wsM M) := by
  intro w hw
  rcases List.mem_cons.mp hw with rfl | hw
  · rw [h0]; exact ⟨h, tb_good _ h⟩
  · exact ⟨hw, tb_good w hw⟩
theorem wsM_eq {M : MD} (h0 : M.2.2.2.2 = []) : wsM M = Cond.code M.1 M.2.1 M.2.2.1 M.2.2.2.1 :: TB := by unfold wsM; rw [h0]; rfl
section CallRows
variable {M My : MD} {x : Bool} {R Ry : Room} {Q Qy : PQ} {K : KT} {P : PT} {J I : IT} {cs n pc pc' j : Nat} {L : List (Nat × AV)} {S St as : List AV}
theorem WFs.app {K : KT} {as S : List AV} (h : WFs K (as.reverse ++ S)) : WFs K as ∧ WFs K S := ⟨fun v hv => h v (List.mem_append_left _ (List.mem_reverse.mpr hv)), fun v hv => h v (List.mem_append_right _ hv)⟩
theorem cats (ad : Nat → Nat) (S : List AV) (h : Nat.ble (sl S) 8 = true) : ((S.map (cv ad)).map fun v => v.category).sum ≤ 8 := by
  have : ((S.map (cv ad)).map fun v => v.category).sum = sl S := by
    induction S with
    | nil => rfl
    | cons v vs ih =>
      have h8 : Nat.ble (sl vs) 8 = true := Nat.ble_eq_true_of_le (by have := Nat.le_of_ble_eq_true h; unfold sl at this; omega)
      show (cv ad v).category + ((vs.map (cv ad)).map fun v => v.category).sum = (bif isJ v then 2 else 1) + sl vs
      rw [ih h8]
      congr 1
      rcases v with z | r | z
      · rfl
      · cases r <;> rfl
      · rfl
  rw [this]
  exact Nat.le_of_ble_eq_true h
/-- o.m(as), the method of o's own class -/
theorem VW.callV {o ci n0 k : Nat} {T : u_T} {N : Nat} (d : decode M.2.1 pc = .ok (.invokevirtual j, 3)) (hp : pc + 3 = pc') (hs : Sp My false Ry Qy K P J I (vR (some o) :: as)) (hst : St = as.reverse ++ vR (some o) :: S) (hm : MOK My) (hnp : nPar My k) (hk : as.length = k) (hi : Cond.instanceMethod My.1 ∈ TB) (hse : Cond.selects My.1.cls My.1 My.1 ∈ TB) (hl : Cond.methodLink M.1.cls j My.1 ∈ TB)
    (hc : classes[ci]? = some (My.1.cls, T, N)) (ho : K o = some (ci, n0)) (h8 : Nat.ble (sl S) 8 = true) (hR1 : Nat.ble (Ry.frames + 1) R.frames = true) (hR2 : Nat.ble (8 + (My.2.2.1 + 11) + Ry.locals) R.locals = true) (hcs : cs + Ry.cells ≤ R.cells) (hn : n + Ry.slots ≤ R.slots)
    (kk : ∀ (r : Option AV) (K' : KT) (P' : PT) (J' I' : IT), Qy (.inl r) K' P' J' I' → VW M x R Q K' P' J' I' (cs + Ry.cells) (n + Ry.slots) pc' L (r.toList ++ S)) : VW M x R Q K P J I cs n pc L St := by
  subst hp
  subst hst
  intro p l e s m args below meth c D ad0 ad K0 dom H locs ls X hll
  obtain ⟨hm1, hm2, hm3, hm4, hm5⟩ := hm
  have hS := X.2.2.2.2.1.app
  have hM : Met l My.1 (wsM My) Ry (PcM D ad dom K P J I (vR (some o) :: as) H.size) (QN Qy D ad K H.size) Ry.cells Ry.slots (AF ad K H.size) := hs l X.1.2.2.2.2.2.2.2.2.1 D ad dom H.size X.2.2.2.1 (WFs.cons hS.2.hd hS.1)
  obtain ⟨i, hdi, hi2⟩ := X.2.2.2.2.2.2.1.at ho (ik_c (kn hc).2)
  rw [ce_obj (kn hc).2] at hi2
  have hrun := va_runV (rest := S.map (cv ad)) (b := ad o) (As := as.map (cv ad)) (g := F0 m pc ls ((as.reverse ++ vR (some o) :: S).map (cv ad))) (locs := locs) (cells := cs) (slots := n) (e := e) (below := below) (meth := meth)
    ⟨X.1.1, X.1.2.1, X.1.2.2.2.1, X.1.2.2.2.2.1, X.1.2.2.2.2.2.1⟩ hM
    (cwV k X.1.2.2.2.2.2.1 (C := My.1.cls) (index := j) (own := M.1.cls) (by
      intro w hw
      unfold wsV at hw
      rcases List.mem_append.mp hw with hw | hw
      · simp only [List.mem_cons, List.not_mem_nil, or_false] at hw
        rcases hw with rfl | rfl | rfl | rfl
        · exact ⟨hl, tb_good _ hl⟩
        · exact ⟨hi, tb_good _ hi⟩
        · exact ⟨hse, tb_good _ hse⟩
        · exact ⟨hm3, tb_good _ hm3⟩
      · exact goodTB My hm1 hm2 w hw) (wsM_eq hm2) rfl rfl ⟨rfl, hm4, hm5, hnp⟩ ⟨Nat.le_of_ble_eq_true hR1, Nat.le_of_ble_eq_true hR2⟩)
    ⟨PcM.blind, va_recv X.2.1 X.2.2.2.2.2.2.1.2.2.1 hc hi2, fun U hU hW => X.pre (as := vR (some o) :: as) U hU hW⟩ rfl (by rw [List.length_map, hk]) hll.1 (by rw [List.map_append, List.map_reverse]; rfl) (lv_room (m := m) (pc := pc) (ls := ls) (rest := []) (cats ad S h8)) d ⟨hcs, hn⟩
  exact X.back hll hS.2.tl hrun (fun r K' P' J' I' ad' dom' H1 locs1 hq CX' hl' => kk r K' P' J' I' hq p l e s m args below meth c D ad0 ad' K0 dom' H1 locs1 ls CX' hl')
/-- C.m(as), in the same class -/
theorem VW.callS {k : Nat} (d : decode M.2.1 pc = .ok (.invokestatic j, 3)) (hp : pc + 3 = pc') (hs : Sp My false Ry Qy K P J I as) (hst : St = as.reverse ++ S) (hm : MOK My) (hnp : nPar My k) (hk : as.length = k) (hi : Cond.static My.1 ∈ TB) (hl : Cond.methodLink M.1.cls j My.1 ∈ TB)
    (h8 : Nat.ble (sl S) 8 = true) (hR1 : Nat.ble (Ry.frames + 1) R.frames = true) (hR2 : Nat.ble (8 + (My.2.2.1 + 11) + Ry.locals) R.locals = true) (hcs : cs + Ry.cells ≤ R.cells) (hn : n + Ry.slots ≤ R.slots)
    (kk : ∀ (r : Option AV) (K' : KT) (P' : PT) (J' I' : IT), Qy (.inl r) K' P' J' I' → VW M x R Q K' P' J' I' (cs + Ry.cells) (n + Ry.slots) pc' L (r.toList ++ S)) : VW M x R Q K P J I cs n pc L St := by
  subst hp
  subst hst
  intro p l e s m args below meth c D ad0 ad K0 dom H locs ls X hll
  obtain ⟨hm1, hm2, hm3, hm4, hm5⟩ := hm
  have hS := X.2.2.2.2.1.app
  have hM : Met l My.1 (wsM My) Ry (PcM D ad dom K P J I as H.size) (QN Qy D ad K H.size) Ry.cells Ry.slots (AF ad K H.size) := hs l X.1.2.2.2.2.2.2.2.2.1 D ad dom H.size X.2.2.2.1 hS.1
  have hts := X.1.2.2.2.2.2.1
  have hrun := va_runS (index := j) (own := M.1.cls) (rest := S.map (cv ad)) (As := as.map (cv ad)) (g := F0 m pc ls ((as.reverse ++ S).map (cv ad))) (locs := locs) (cells := cs) (slots := n) (e := e) (below := below) (meth := meth)
    ⟨X.1.1, X.1.2.1, X.1.2.2.2.1, X.1.2.2.2.2.1, hts⟩ hM
    ⟨callB_of k hts (goodTB My hm1 hm2) (wsM_eq hm2) rfl rfl (hts _ hm3) (hts _ hl) ⟨hm4, hm5, hnp⟩ ⟨Nat.le_of_ble_eq_true hR1, Nat.le_of_ble_eq_true hR2⟩, hts _ hi⟩
    ⟨PcM.blind, fun U hU hW => X.pre (as := as) U hU hW⟩ rfl (by rw [List.length_map, hk]) hll.1 (by rw [List.map_append, List.map_reverse]) (lv_room (m := m) (pc := pc) (ls := ls) (rest := []) (cats ad S h8)) d ⟨hcs, hn⟩
  exact X.back hll hS.2 hrun (fun r K' P' J' I' ad' dom' H1 locs1 hq CX' hl' => kk r K' P' J' I' hq p l e s m args below meth c D ad0 ad' K0 dom' H1 locs1 ls CX' hl')
/-- C.m(as), a nest mate's -/
theorem VW.callSN {k : Nat} {host : String} (d : decode M.2.1 pc = .ok (.invokestatic j, 3)) (hp : pc + 3 = pc') (hs : Sp My false Ry Qy K P J I as) (hst : St = as.reverse ++ S) (hm : MOK My) (hnp : nPar My k) (hk : as.length = k) (hi : Cond.static My.1 ∈ TB) (hl : (M.1.cls, j, My.1, host) ∈ NB)
    (h8 : Nat.ble (sl S) 8 = true) (hR1 : Nat.ble (Ry.frames + 1) R.frames = true) (hR2 : Nat.ble (8 + (My.2.2.1 + 11) + Ry.locals) R.locals = true) (hcs : cs + Ry.cells ≤ R.cells) (hn : n + Ry.slots ≤ R.slots)
    (kk : ∀ (r : Option AV) (K' : KT) (P' : PT) (J' I' : IT), Qy (.inl r) K' P' J' I' → VW M x R Q K' P' J' I' (cs + Ry.cells) (n + Ry.slots) pc' L (r.toList ++ S)) : VW M x R Q K P J I cs n pc L St := by
  subst hp
  subst hst
  intro p l e s m args below meth c D ad0 ad K0 dom H locs ls X hll
  obtain ⟨hm1, hm2, hm3, hm4, hm5⟩ := hm
  have hS := X.2.2.2.2.1.app
  have hM : Met l My.1 (wsM My) Ry (PcM D ad dom K P J I as H.size) (QN Qy D ad K H.size) Ry.cells Ry.slots (AF ad K H.size) := hs l X.1.2.2.2.2.2.2.2.2.1 D ad dom H.size X.2.2.2.1 hS.1
  have hts := X.1.2.2.2.2.2.1
  have hrun := va_runSN (index := j) (own := M.1.cls) (host := host) (rest := S.map (cv ad)) (As := as.map (cv ad)) (g := F0 m pc ls ((as.reverse ++ S).map (cv ad))) (locs := locs) (cells := cs) (slots := n) (e := e) (below := below) (meth := meth)
    ⟨X.1.1, X.1.2.1, X.1.2.2.2.1, X.1.2.2.2.2.1, hts⟩ hM
    ⟨va_cnB k hts (goodTB My hm1 hm2) (wsM_eq hm2) rfl rfl (X.1.2.2.2.2.2.2.2.2.2.1.1 _ hl) (hts _ hm3) ⟨hm4, hm5, hnp⟩ ⟨Nat.le_of_ble_eq_true hR1, Nat.le_of_ble_eq_true hR2⟩, hts _ hi, trivial⟩
    ⟨PcM.blind, fun U hU hW => X.pre (as := as) U hU hW⟩ rfl (by rw [List.length_map, hk]) hll.1 (by rw [List.map_append, List.map_reverse]) (lv_room (m := m) (pc := pc) (ls := ls) (rest := []) (cats ad S h8)) d ⟨hcs, hn⟩
  exact X.back hll hS.2 hrun (fun r K' P' J' I' ad' dom' H1 locs1 hq CX' hl' => kk r K' P' J' I' hq p l e s m args below meth c D ad0 ad' K0 dom' H1 locs1 ls CX' hl')
/-- o.<init>(as) -/
theorem VW.callI {o k : Nat} (d : decode M.2.1 pc = .ok (.invokespecial j, 3)) (hp : pc + 3 = pc') (hs : Sp My false Ry Qy K P J I (vR (some o) :: as)) (hst : St = as.reverse ++ vR (some o) :: S) (hm : MOK My) (hnp : nPar My k) (hk : as.length = k) (hi : Cond.instanceMethod My.1 ∈ TB) (hy : My.1.name = "<init>") (hre : My.2.2.2.1 = none) (hl : Cond.methodLink M.1.cls j My.1 ∈ TB)
    (h8 : Nat.ble (sl S) 8 = true) (hR1 : Nat.ble (Ry.frames + 1) R.frames = true) (hR2 : Nat.ble (8 + (My.2.2.1 + 11) + Ry.locals) R.locals = true) (hcs : cs + Ry.cells ≤ R.cells) (hn : n + Ry.slots ≤ R.slots)
    (kk : ∀ (r : Option AV) (K' : KT) (P' : PT) (J' I' : IT), Qy (.inl r) K' P' J' I' → VW M x R Q K' P' J' I' (cs + Ry.cells) (n + Ry.slots) pc' L (r.toList ++ S)) : VW M x R Q K P J I cs n pc L St := by
  subst hp
  subst hst
  intro p l e s m args below meth c D ad0 ad K0 dom H locs ls X hll
  obtain ⟨hm1, hm2, hm3, hm4, hm5⟩ := hm
  have hS := X.2.2.2.2.1.app
  have hM : Met l My.1 (wsM My) Ry (PcM D ad dom K P J I (vR (some o) :: as) H.size) (QN Qy D ad K H.size) Ry.cells Ry.slots (AF ad K H.size) := hs l X.1.2.2.2.2.2.2.2.2.1 D ad dom H.size X.2.2.2.1 (WFs.cons hS.2.hd hS.1)
  have hts := X.1.2.2.2.2.2.1
  have hrun := va_runI (index := j) (own := M.1.cls) (rest := S.map (cv ad)) (b := ad o) (As := as.map (cv ad)) (g := F0 m pc ls ((as.reverse ++ vR (some o) :: S).map (cv ad))) (locs := locs) (cells := cs) (slots := n) (e := e) (below := below) (meth := meth)
    ⟨X.1.1, X.1.2.1, X.1.2.2.2.1, X.1.2.2.2.2.1, hts⟩ hM
    (cwI k hts (goodTB My hm1 hm2) (by rw [wsM_eq hm2, hre]) rfl rfl (hts _ hm3) (hts _ hl) (hts _ hi) hy ⟨hm4, hm5, hnp⟩ ⟨Nat.le_of_ble_eq_true hR1, Nat.le_of_ble_eq_true hR2⟩)
    ⟨PcM.blind, fun U hU hW => X.pre (as := vR (some o) :: as) U hU hW⟩ rfl (by rw [List.length_map, hk]) hll.1 (by rw [List.map_append, List.map_reverse]; rfl) (lv_room (m := m) (pc := pc) (ls := ls) (rest := []) (cats ad S h8)) d ⟨hcs, hn⟩
  exact X.back hll hS.2.tl hrun (fun r K' P' J' I' ad' dom' H1 locs1 hq CX' hl' => kk r K' P' J' I' hq p l e s m args below meth c D ad0 ad' K0 dom' H1 locs1 ls CX' hl')
/-- o.<init>(as), a nest mate's -/
theorem VW.callIN {o k : Nat} {host : String} (d : decode M.2.1 pc = .ok (.invokespecial j, 3)) (hp : pc + 3 = pc') (hs : Sp My false Ry Qy K P J I (vR (some o) :: as)) (hst : St = as.reverse ++ vR (some o) :: S) (hm : MOK My) (hnp : nPar My k) (hk : as.length = k) (hi : Cond.instanceMethod My.1 ∈ TB) (hy : My.1.name = "<init>") (hre : My.2.2.2.1 = none) (hl : (M.1.cls, j, My.1, host) ∈ NB)
    (h8 : Nat.ble (sl S) 8 = true) (hR1 : Nat.ble (Ry.frames + 1) R.frames = true) (hR2 : Nat.ble (8 + (My.2.2.1 + 11) + Ry.locals) R.locals = true) (hcs : cs + Ry.cells ≤ R.cells) (hn : n + Ry.slots ≤ R.slots)
    (kk : ∀ (r : Option AV) (K' : KT) (P' : PT) (J' I' : IT), Qy (.inl r) K' P' J' I' → VW M x R Q K' P' J' I' (cs + Ry.cells) (n + Ry.slots) pc' L (r.toList ++ S)) : VW M x R Q K P J I cs n pc L St := by
  subst hp
  subst hst
  intro p l e s m args below meth c D ad0 ad K0 dom H locs ls X hll
  obtain ⟨hm1, hm2, hm3, hm4, hm5⟩ := hm
  have hS := X.2.2.2.2.1.app
  have hM : Met l My.1 (wsM My) Ry (PcM D ad dom K P J I (vR (some o) :: as) H.size) (QN Qy D ad K H.size) Ry.cells Ry.slots (AF ad K H.size) := hs l X.1.2.2.2.2.2.2.2.2.1 D ad dom H.size X.2.2.2.1 (WFs.cons hS.2.hd hS.1)
  have hts := X.1.2.2.2.2.2.1
  have hcn := va_cnB (index := j) (own := M.1.cls) (host := host) (R := R) (args := args) k hts (goodTB My hm1 hm2) (wsM_eq hm2) rfl rfl (X.1.2.2.2.2.2.2.2.2.2.1.1 _ hl) (hts _ hm3) ⟨hm4, hm5, hnp⟩ ⟨Nat.le_of_ble_eq_true hR1, Nat.le_of_ble_eq_true hR2⟩
  rw [hre] at hcn
  have hrun := va_runIN (index := j) (own := M.1.cls) (host := host) (rest := S.map (cv ad)) (b := ad o) (As := as.map (cv ad)) (g := F0 m pc ls ((as.reverse ++ vR (some o) :: S).map (cv ad))) (locs := locs) (cells := cs) (slots := n) (e := e) (below := below) (meth := meth)
    ⟨X.1.1, X.1.2.1, X.1.2.2.2.1, X.1.2.2.2.2.1, hts⟩ hM ⟨hcn, hy, hts _ hi⟩
    ⟨PcM.blind, fun U hU hW => X.pre (as := vR (some o) :: as) U hU hW⟩ rfl (by rw [List.length_map, hk]) hll.1 (by rw [List.map_append, List.map_reverse]; rfl) (lv_room (m := m) (pc := pc) (ls := ls) (rest := []) (cats ad S h8)) d ⟨hcs, hn⟩
  exact X.back hll hS.2.tl hrun (fun r K' P' J' I' ad' dom' H1 locs1 hq CX' hl' => kk r K' P' J' I' hq p l e s m args below meth c D ad0 ad' K0 dom' H1 locs1 ls CX' hl')
end CallRows
