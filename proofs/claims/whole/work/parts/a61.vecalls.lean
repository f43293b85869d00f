/-! calls in VE; calls of a SpE -/
section
variable {M : MD} {x : Bool} {R : Room} {K : KT} {P : PT} {J I : IT} {cs n pc pc' : Nat} {L : List (Nat × AV)} {S St : List AV}
variable {p : Program} {l : Launch} {e : Env} {s : State} {m : MethodId} {args : Array Value} {below : List Frame} {meth : Method} {c : Code} {D : GD} {ad0 ad : Nat → Nat} {K0 : KT} {dom : List Nat} {H : Heap} {locs : List Loc} {ls : Array Slot}
theorem CX.backE {Qy : PE} {mc ms : Nat} {a : Array Value} {st0 : List Value} {Qf : State → Prop} (X : CX M x R p l s m args meth c D ad0 ad K0 dom H locs K P J I L St) (hl : lv_has ls M.2.2.1 (cl ad L)) (hS : WFs K S)
    (hr : va_Run p l e R s m args below meth c H locs cs n mc ms (F0 m pc ls st0) (S.map (cv ad)) (QNE Qy D ad K H.size a) (AF ad K H.size))
    (kk : ∀ (k n' : Nat) (r : Option AV) (K' : KT) (P' : PT) (J' I' : IT) (ad' : Nat → Nat) (dom' : List Nat) (H1 : Heap) (locs1 : List Loc), Qy (.inl r) K' P' J' I' k n' → CX M x R p l s m args meth c D ad0 ad' K0 dom' H1 locs1 K' P' J' I' L (r.toList ++ S) → lv_has ls M.2.2.1 (cl ad' L) →
      W p l e R s m args below meth c H1 locs1 (cs + k) (n + n') Qf (F0 m (pc + 3) ls ((r.toList ++ S).map (cv ad')))) :
    W p l e R s m args below meth c H locs cs n Qf (F0 m pc ls st0) := by
  intro T hT hX
  obtain ⟨v, st₀, t, T', Lc, h0, X', hL, e1, e2, ⟨k9, n9, hc, ⟨r, K', P', J', I', ad', dom', ho, hq, w1, w2, he, hR, hK⟩, hF⟩, st⟩ := hr T hT hX
  obtain ⟨k1, k2, k3⟩ := vx_keep h0 e1 X.2.2.2.2.2.2.2.1 (fun q _ h => X.sub q h) X.sub hL hF
  have hv : v = r.map (cv ad') := by cases ho; rfl
  have w3 : WFs K' r.toList := fun v hv => w2 v (by cases r with | none => cases hv | some y => simp at hv; rw [hv])
  have X2 : Stand p l e R s m args below meth c T' (locs ++ Lc) (cs + k9) (n + n9) := { X' with same := same_lower hX.same X'.same (by show T.heap.size ≤ T'.heap.size; rw [hT]; exact k1) (by show HC T.heap T'.heap k9 n9; rw [hT, e1, ← h0]; exact hc) }
  obtain ⟨t2, a1, b1⟩ := kk k9 n9 r K' P' J' I' ad' dom' T'.heap (locs ++ Lc) hq (X.post hS w1 w3 he (by rw [e1]; exact hR) k3) (by rw [(cl_ext he X.2.2.2.2.2.1).1]; exact hl) T' rfl X2
  have es : v.toList ++ S.map (cv ad) = (r.toList ++ S).map (cv ad') := by
    rw [hv, List.map_append, (cs_ext he hS).1]
    cases r <;> rfl
  exact ⟨t2, st t2 (by rw [es]; exact a1), b1⟩
theorem CX.backXE {Qy : PE} {mc ms : Nat} {a : Array Value} {st0 : List Value} {Qf : State → Prop} (X : CX M x R p l s m args meth c D ad0 ad K0 dom H locs K P J I L St) (hl : lv_has ls M.2.2.1 (cl ad L)) (hS : WFs K S)
    (hr : vx_Run p l e R s m args below meth c H locs cs n mc ms (F0 m pc ls st0) (S.map (cv ad)) (QNE Qy D ad K H.size a) (QXE Qy D ad K H.size) (AF ad K H.size))
    (kk : ∀ (k n' : Nat) (r : Option AV) (K' : KT) (P' : PT) (J' I' : IT) (ad' : Nat → Nat) (dom' : List Nat) (H1 : Heap) (locs1 : List Loc), Qy (.inl r) K' P' J' I' k n' → CX M x R p l s m args meth c D ad0 ad' K0 dom' H1 locs1 K' P' J' I' L (r.toList ++ S) → lv_has ls M.2.2.1 (cl ad' L) →
      W p l e R s m args below meth c H1 locs1 (cs + k) (n + n') Qf (F0 m (pc + 3) ls ((r.toList ++ S).map (cv ad'))))
    (kx : ∀ (k n' : Nat) (E : String) (K' : KT) (P' : PT) (J' I' : IT) (ad' : Nat → Nat) (dom' : List Nat) (H1 : Heap) (locs1 : List Loc) (q : Addr) (ce : Cell), Qy (.inr E) K' P' J' I' k n' → CX M x R p l s m args meth c D ad0 ad' K0 dom' H1 locs1 K' P' J' I' L S → lv_has ls M.2.2.1 (cl ad' L) →
      H1[q]? = some ce → ce.vm = .none → s.vm.findClass E = some ce.cls → vx_W p l e R s m args below meth c H1 locs1 (cs + k) (n + n') Qf (F0 m pc ls (S.map (cv ad'))) q) :
    W p l e R s m args below meth c H locs cs n Qf (F0 m pc ls st0) := by
  intro T hT hX
  rcases hr T hT hX with ⟨v, st₀, t, T', Lc, h0, X', hL, e1, e2, ⟨k9, n9, hc, ⟨r, K', P', J', I', ad', dom', ho, hq, w1, w2, he, hR, hK⟩, hF⟩, st⟩ | ⟨q, st₀, t, T', Lc, E, ce, h0, X', hL, e1, e2, ⟨k9, n9, hc, ⟨K', P', J', I', ad', dom', hq, w1, he, hR, hK⟩, hF⟩, hce, hcv, hcl, st⟩
  · obtain ⟨k1, k2, k3⟩ := vx_keep h0 e1 X.2.2.2.2.2.2.2.1 (fun q _ h => X.sub q h) X.sub hL hF
    have hv : v = r.map (cv ad') := by cases ho; rfl
    have w3 : WFs K' r.toList := fun v hv => w2 v (by cases r with | none => cases hv | some y => simp at hv; rw [hv])
    have X2 : Stand p l e R s m args below meth c T' (locs ++ Lc) (cs + k9) (n + n9) := { X' with same := same_lower hX.same X'.same (by show T.heap.size ≤ T'.heap.size; rw [hT]; exact k1) (by show HC T.heap T'.heap k9 n9; rw [hT, e1, ← h0]; exact hc) }
    obtain ⟨t2, a1, b1⟩ := kk k9 n9 r K' P' J' I' ad' dom' T'.heap (locs ++ Lc) hq (X.post hS w1 w3 he (by rw [e1]; exact hR) k3) (by rw [(cl_ext he X.2.2.2.2.2.1).1]; exact hl) T' rfl X2
    have es : v.toList ++ S.map (cv ad) = (r.toList ++ S).map (cv ad') := by
      rw [hv, List.map_append, (cs_ext he hS).1]
      cases r <;> rfl
    exact ⟨t2, st t2 (by rw [es]; exact a1), b1⟩
  · obtain ⟨k1, k2, k3⟩ := vx_keep h0 e1 X.2.2.2.2.2.2.2.1 (fun q _ h => X.sub q h) X.sub hL hF
    have X2 : Stand p l e R s m args below meth c T' (locs ++ Lc) (cs + k9) (n + n9) := { X' with same := same_lower hX.same X'.same (by show T.heap.size ≤ T'.heap.size; rw [hT]; exact k1) (by show HC T.heap T'.heap k9 n9; rw [hT, e1, ← h0]; exact hc) }
    have CX' := X.post (r := []) hS w1 (fun v hv => nomatch hv) he (by rw [e1]; exact hR) k3
    obtain ⟨t2, a1, b1⟩ := kx k9 n9 E K' P' J' I' ad' dom' T'.heap (locs ++ Lc) q ce hq CX' (by rw [(cl_ext he X.2.2.2.2.2.1).1]; exact hl) (by rw [e1]; exact hce) hcv hcl T' rfl X2
    exact ⟨t2, st.trans (by rw [← (cs_ext he hS).1]; exact a1), b1⟩
end
section CallRows
variable {M My : MD} {x : Bool} {R Ry : Room} {Q : PE} {Qy : PQ} {K : KT} {P : PT} {J I : IT} {cs n pc pc' j : Nat} {L : List (Nat × AV)} {S St as : List AV}
theorem VE.callV {o ci n0 k : Nat} {T : u_T} {N : Nat} (d : decode M.2.1 pc = .ok (.invokevirtual j, 3)) (hp : pc + 3 = pc') (hs : Sp My false Ry Qy K P J I (vR (some o) :: as)) (hst : St = as.reverse ++ vR (some o) :: S) (hm : MOK My) (hnp : nPar My k) (hk : as.length = k) (hi : Cond.instanceMethod My.1 ∈ TB) (hse : Cond.selects My.1.cls My.1 My.1 ∈ TB) (hl : Cond.methodLink M.1.cls j My.1 ∈ TB)
    (hc : classes[ci]? = some (My.1.cls, T, N)) (ho : K o = some (ci, n0)) (h8 : Nat.ble (sl S) 8 = true) (hR1 : Nat.ble (Ry.frames + 1) R.frames = true) (hR2 : Nat.ble (8 + (My.2.2.1 + 11) + Ry.locals) R.locals = true) (hcs : cs + Ry.cells ≤ R.cells) (hn : n + Ry.slots ≤ R.slots)
    (kk : ∀ (r : Option AV) (K' : KT) (P' : PT) (J' I' : IT), Qy (.inl r) K' P' J' I' → VE M x R Q K' P' J' I' (cs + Ry.cells) (n + Ry.slots) pc' L (r.toList ++ S)) : VE M x R Q K P J I cs n pc L St := by
  subst hp
  subst hst
  intro p l e s m args below meth c D ad0 ad K0 dom H locs ls X hll
  obtain ⟨hm1, hm2, hm3, hm4, hm5⟩ := hm
  have hS := X.2.2.2.2.1.app
  have hM : Met l My.1 (wsM My) Ry (PcM D ad dom K P J I (vR (some o) :: as) H.size) (QN Qy D ad K H.size) Ry.cells Ry.slots (AF ad K H.size) := hs l X.1.2.2.2.2.2.2.2.2.1 D ad dom H.size X.2.2.2.1 (WFs.cons hS.2.hd hS.1)
  obtain ⟨i, hdi, hi2⟩ := X.2.2.2.2.2.2.1.at ho (ik_c (kn hc).2)
  rw [ce_obj (kn hc).2] at hi2
  have hrun := va_runV (rest := S.map (cv ad)) (b := ad o) (As := as.map (cv ad)) (g := F0 m pc ls ((as.reverse ++ vR (some o) :: S).map (cv ad))) (locs := locs) (cells := cs) (slots := n) (e := e) (below := below) (meth := meth)
    ⟨X.1.1, X.1.2.1, X.1.2.2.2.1, X.1.2.2.2.2.1, X.1.2.2.2.2.2.1⟩ hM
    (cwV k X.1.2.2.2.2.2.1 (C := My.1.cls) (index := j) (own := M.1.cls) (by
      intro w hw
      unfold wsV at hw
      rcases List.mem_append.mp hw with hw | hw
      · simp only [List.mem_cons, List.not_mem_nil, or_false] at hw
        rcases hw with rfl | rfl | rfl | rfl
        · exact ⟨hl, tb_good _ hl⟩
        · exact ⟨hi, tb_good _ hi⟩
        · exact ⟨hse, tb_good _ hse⟩
        · exact ⟨hm3, tb_good _ hm3⟩
      · exact goodTB My hm1 hm2 w hw) (wsM_eq hm2) rfl rfl ⟨rfl, hm4, hm5, hnp⟩ ⟨Nat.le_of_ble_eq_true hR1, Nat.le_of_ble_eq_true hR2⟩)
    ⟨PcM.blind, va_recv X.2.1 X.2.2.2.2.2.2.1.2.2.1 hc hi2, fun U hU hW => X.pre (as := vR (some o) :: as) U hU hW⟩ rfl (by rw [List.length_map, hk]) hll.1 (by rw [List.map_append, List.map_reverse]; rfl) (lv_room (m := m) (pc := pc) (ls := ls) (rest := []) (cats ad S h8)) d ⟨hcs, hn⟩
  exact X.back hll hS.2.tl hrun (fun r K' P' J' I' ad' dom' H1 locs1 hq CX' hl' => kk r K' P' J' I' hq p l e s m args below meth c D ad0 ad' K0 dom' H1 locs1 ls CX' hl')
theorem VE.callS {k : Nat} (d : decode M.2.1 pc = .ok (.invokestatic j, 3)) (hp : pc + 3 = pc') (hs : Sp My false Ry Qy K P J I as) (hst : St = as.reverse ++ S) (hm : MOK My) (hnp : nPar My k) (hk : as.length = k) (hi : Cond.static My.1 ∈ TB) (hl : Cond.methodLink M.1.cls j My.1 ∈ TB)
    (h8 : Nat.ble (sl S) 8 = true) (hR1 : Nat.ble (Ry.frames + 1) R.frames = true) (hR2 : Nat.ble (8 + (My.2.2.1 + 11) + Ry.locals) R.locals = true) (hcs : cs + Ry.cells ≤ R.cells) (hn : n + Ry.slots ≤ R.slots)
    (kk : ∀ (r : Option AV) (K' : KT) (P' : PT) (J' I' : IT), Qy (.inl r) K' P' J' I' → VE M x R Q K' P' J' I' (cs + Ry.cells) (n + Ry.slots) pc' L (r.toList ++ S)) : VE M x R Q K P J I cs n pc L St := by
  subst hp
  subst hst
  intro p l e s m args below meth c D ad0 ad K0 dom H locs ls X hll
  obtain ⟨hm1, hm2, hm3, hm4, hm5⟩ := hm
  have hS := X.2.2.2.2.1.app
  have hM : Met l My.1 (wsM My) Ry (PcM D ad dom K P J I as H.size) (QN Qy D ad K H.size) Ry.cells Ry.slots (AF ad K H.size) := hs l X.1.2.2.2.2.2.2.2.2.1 D ad dom H.size X.2.2.2.1 hS.1
  have hts := X.1.2.2.2.2.2.1
  have hrun := va_runS (index := j) (own := M.1.cls) (rest := S.map (cv ad)) (As := as.map (cv ad)) (g := F0 m pc ls ((as.reverse ++ S).map (cv ad))) (locs := locs) (cells := cs) (slots := n) (e := e) (below := below) (meth := meth)
    ⟨X.1.1, X.1.2.1, X.1.2.2.2.1, X.1.2.2.2.2.1, hts⟩ hM
    ⟨callB_of k hts (goodTB My hm1 hm2) (wsM_eq hm2) rfl rfl (hts _ hm3) (hts _ hl) ⟨hm4, hm5, hnp⟩ ⟨Nat.le_of_ble_eq_true hR1, Nat.le_of_ble_eq_true hR2⟩, hts _ hi⟩
    ⟨PcM.blind, fun U hU hW => X.pre (as := as) U hU hW⟩ rfl (by rw [List.length_map, hk]) hll.1 (by rw [List.map_append, List.map_reverse]) (lv_room (m := m) (pc := pc) (ls := ls) (rest := []) (cats ad S h8)) d ⟨hcs, hn⟩
  exact X.back hll hS.2 hrun (fun r K' P' J' I' ad' dom' H1 locs1 hq CX' hl' => kk r K' P' J' I' hq p l e s m args below meth c D ad0 ad' K0 dom' H1 locs1 ls CX' hl')
theorem VE.callSN {k : Nat} {host : String} (d : decode M.2.1 pc = .ok (.invokestatic j, 3)) (hp : pc + 3 = pc') (hs : Sp My false Ry Qy K P J I as) (hst : St = as.reverse ++ S) (hm : MOK My) (hnp : nPar My k) (hk : as.length = k) (hi : Cond.static My.1 ∈ TB) (hl : (M.1.cls, j, My.1, host) ∈ NB)
    (h8 : Nat.ble (sl S) 8 = true) (hR1 : Nat.ble (Ry.frames + 1) R.frames = true) (hR2 : Nat.ble (8 + (My.2.2.1 + 11) + Ry.locals) R.locals = true) (hcs : cs + Ry.cells ≤ R.cells) (hn : n + Ry.slots ≤ R.slots)
    (kk : ∀ (r : Option AV) (K' : KT) (P' : PT) (J' I' : IT), Qy (.inl r) K' P' J' I' → VE M x R Q K' P' J' I' (cs + Ry.cells) (n + Ry.slots) pc' L (r.toList ++ S)) : VE M x R Q K P J I cs n pc L St := by
  subst hp
  subst hst
  intro p l e s m args below meth c D ad0 ad K0 dom H locs ls X hll
  obtain ⟨hm1, hm2, hm3, hm4, hm5⟩ := hm
  have hS := X.2.2.2.2.1.app
  have hM : Met l My.1 (wsM My) Ry (PcM D ad dom K P J I as H.size) (QN Qy D ad K H.size) Ry.cells Ry.slots (AF ad K H.size) := hs l X.1.2.2.2.2.2.2.2.2.1 D ad dom H.size X.2.2.2.1 hS.1
  have hts := X.1.2.2.2.2.2.1
  have hrun := va_runSN (index := j) (own := M.1.cls) (host := host) (rest := S.map (cv ad)) (As := as.map (cv ad)) (g := F0 m pc ls ((as.reverse ++ S).map (cv ad))) (locs := locs) (cells := cs) (slots := n) (e := e) (below := below) (meth := meth)
    ⟨X.1.1, X.1.2.1, X.1.2.2.2.1, X.1.2.2.2.2.1, hts⟩ hM
    ⟨va_cnB k hts (goodTB My hm1 hm2) (wsM_eq hm2) rfl rfl (X.1.2.2.2.2.2.2.2.2.2.1.1 _ hl) (hts _ hm3) ⟨hm4, hm5, hnp⟩ ⟨Nat.le_of_ble_eq_true hR1, Nat.le_of_ble_eq_true hR2⟩, hts _ hi, trivial⟩
    ⟨PcM.blind, fun U hU hW => X.pre (as := as) U hU hW⟩ rfl (by rw [List.length_map, hk]) hll.1 (by rw [List.map_append, List.map_reverse]) (lv_room (m := m) (pc := pc) (ls := ls) (rest := []) (cats ad S h8)) d ⟨hcs, hn⟩
  exact X.back hll hS.2 hrun (fun r K' P' J' I' ad' dom' H1 locs1 hq CX' hl' => kk r K' P' J' I' hq p l e s m args below meth c D ad0 ad' K0 dom' H1 locs1 ls CX' hl')
theorem VE.callI {o k : Nat} (d : decode M.2.1 pc = .ok (.invokespecial j, 3)) (hp : pc + 3 = pc') (hs : Sp My false Ry Qy K P J I (vR (some o) :: as)) (hst : St = as.reverse ++ vR (some o) :: S) (hm : MOK My) (hnp : nPar My k) (hk : as.length = k) (hi : Cond.instanceMethod My.1 ∈ TB) (hy : My.1.name = "<init>") (hre : My.2.2.2.1 = none) (hl : Cond.methodLink M.1.cls j My.1 ∈ TB)
    (h8 : Nat.ble (sl S) 8 = true) (hR1 : Nat.ble (Ry.frames + 1) R.frames = true) (hR2 : Nat.ble (8 + (My.2.2.1 + 11) + Ry.locals) R.locals = true) (hcs : cs + Ry.cells ≤ R.cells) (hn : n + Ry.slots ≤ R.slots)
    (kk : ∀ (r : Option AV) (K' : KT) (P' : PT) (J' I' : IT), Qy (.inl r) K' P' J' I' → VE M x R Q K' P' J' I' (cs + Ry.cells) (n + Ry.slots) pc' L (r.toList ++ S)) : VE M x R Q K P J I cs n pc L St := by
  subst hp
  subst hst
  intro p l e s m args below meth c D ad0 ad K0 dom H locs ls X hll
  obtain ⟨hm1, hm2, hm3, hm4, hm5⟩ := hm
  have hS := X.2.2.2.2.1.app
  have hM : Met l My.1 (wsM My) Ry (PcM D ad dom K P J I (vR (some o) :: as) H.size) (QN Qy D ad K H.size) Ry.cells Ry.slots (AF ad K H.size) := hs l X.1.2.2.2.2.2.2.2.2.1 D ad dom H.size X.2.2.2.1 (WFs.cons hS.2.hd hS.1)
  have hts := X.1.2.2.2.2.2.1
  have hrun := va_runI (index := j) (own := M.1.cls) (rest := S.map (cv ad)) (b := ad o) (As := as.map (cv ad)) (g := F0 m pc ls ((as.reverse ++ vR (some o) :: S).map (cv ad))) (locs := locs) (cells := cs) (slots := n) (e := e) (below := below) (meth := meth)
    ⟨X.1.1, X.1.2.1, X.1.2.2.2.1, X.1.2.2.2.2.1, hts⟩ hM
    (cwI k hts (goodTB My hm1 hm2) (by rw [wsM_eq hm2, hre]) rfl rfl (hts _ hm3) (hts _ hl) (hts _ hi) hy ⟨hm4, hm5, hnp⟩ ⟨Nat.le_of_ble_eq_true hR1, Nat.le_of_ble_eq_true hR2⟩)
    ⟨PcM.blind, fun U hU hW => X.pre (as := vR (some o) :: as) U hU hW⟩ rfl (by rw [List.length_map, hk]) hll.1 (by rw [List.map_append, List.map_reverse]; rfl) (lv_room (m := m) (pc := pc) (ls := ls) (rest := []) (cats ad S h8)) d ⟨hcs, hn⟩
  exact X.back hll hS.2.tl hrun (fun r K' P' J' I' ad' dom' H1 locs1 hq CX' hl' => kk r K' P' J' I' hq p l e s m args below meth c D ad0 ad' K0 dom' H1 locs1 ls CX' hl')
theorem VE.callIN {o k : Nat} {host : String} (d : decode M.2.1 pc = .ok (.invokespecial j, 3)) (hp : pc + 3 = pc') (hs : Sp My false Ry Qy K P J I (vR (some o) :: as)) (hst : St = as.reverse ++ vR (some o) :: S) (hm : MOK My) (hnp : nPar My k) (hk : as.length = k) (hi : Cond.instanceMethod My.1 ∈ TB) (hy : My.1.name = "<init>") (hre : My.2.2.2.1 = none) (hl : (M.1.cls, j, My.1, host) ∈ NB)
    (h8 : Nat.ble (sl S) 8 = true) (hR1 : Nat.ble (Ry.frames + 1) R.frames = true) (hR2 : Nat.ble (8 + (My.2.2.1 + 11) + Ry.locals) R.locals = true) (hcs : cs + Ry.cells ≤ R.cells) (hn : n + Ry.slots ≤ R.slots)
    (kk : ∀ (r : Option AV) (K' : KT) (P' : PT) (J' I' : IT), Qy (.inl r) K' P' J' I' → VE M x R Q K' P' J' I' (cs + Ry.cells) (n + Ry.slots) pc' L (r.toList ++ S)) : VE M x R Q K P J I cs n pc L St := by
  subst hp
  subst hst
  intro p l e s m args below meth c D ad0 ad K0 dom H locs ls X hll
  obtain ⟨hm1, hm2, hm3, hm4, hm5⟩ := hm
  have hS := X.2.2.2.2.1.app
  have hM : Met l My.1 (wsM My) Ry (PcM D ad dom K P J I (vR (some o) :: as) H.size) (QN Qy D ad K H.size) Ry.cells Ry.slots (AF ad K H.size) := hs l X.1.2.2.2.2.2.2.2.2.1 D ad dom H.size X.2.2.2.1 (WFs.cons hS.2.hd hS.1)
  have hts := X.1.2.2.2.2.2.1
  have hcn := va_cnB (index := j) (own := M.1.cls) (host := host) (R := R) (args := args) k hts (goodTB My hm1 hm2) (wsM_eq hm2) rfl rfl (X.1.2.2.2.2.2.2.2.2.2.1.1 _ hl) (hts _ hm3) ⟨hm4, hm5, hnp⟩ ⟨Nat.le_of_ble_eq_true hR1, Nat.le_of_ble_eq_true hR2⟩
  rw [hre] at hcn
  have hrun := va_runIN (index := j) (own := M.1.cls) (host := host) (rest := S.map (cv ad)) (b := ad o) (As := as.map (cv ad)) (g := F0 m pc ls ((as.reverse ++ vR (some o) :: S).map (cv ad))) (locs := locs) (cells := cs) (slots := n) (e := e) (below := below) (meth := meth)
    ⟨X.1.1, X.1.2.1, X.1.2.2.2.1, X.1.2.2.2.2.1, hts⟩ hM ⟨hcn, hy, hts _ hi⟩
    ⟨PcM.blind, fun U hU hW => X.pre (as := vR (some o) :: as) U hU hW⟩ rfl (by rw [List.length_map, hk]) hll.1 (by rw [List.map_append, List.map_reverse]; rfl) (lv_room (m := m) (pc := pc) (ls := ls) (rest := []) (cats ad S h8)) d ⟨hcs, hn⟩
  exact X.back hll hS.2.tl hrun (fun r K' P' J' I' ad' dom' H1 locs1 hq CX' hl' => kk r K' P' J' I' hq p l e s m args below meth c D ad0 ad' K0 dom' H1 locs1 ls CX' hl')
end CallRows
section CallRowsE
variable {M My : MD} {x : Bool} {R Ry : Room} {Q : PE} {Q0 : PQ} {Qy : PE} {K : KT} {P : PT} {J I : IT} {cs n pc pc' j : Nat} {L : List (Nat × AV)} {S St as : List AV}
theorem VE.callVE {o ci n0 k : Nat} {T : u_T} {N : Nat} (d : decode M.2.1 pc = .ok (.invokevirtual j, 3)) (hp : pc + 3 = pc') (hs : SpE My false Ry Qy K P J I (vR (some o) :: as)) (hst : St = as.reverse ++ vR (some o) :: S) (hm : MOK My) (hnp : nPar My k) (hk : as.length = k) (hi : Cond.instanceMethod My.1 ∈ TB) (hse : Cond.selects My.1.cls My.1 My.1 ∈ TB) (hl : Cond.methodLink M.1.cls j My.1 ∈ TB)
    (hc : classes[ci]? = some (My.1.cls, T, N)) (ho : K o = some (ci, n0)) (h8 : Nat.ble (sl S) 8 = true) (hR1 : Nat.ble (Ry.frames + 1) R.frames = true) (hR2 : Nat.ble (8 + (My.2.2.1 + 11) + Ry.locals) R.locals = true) (hcs : cs + Ry.cells ≤ R.cells) (hn : n + Ry.slots ≤ R.slots)
    (kk : ∀ (k9 n9 : Nat) (r : Option AV) (K' : KT) (P' : PT) (J' I' : IT), Qy (.inl r) K' P' J' I' k9 n9 → VE M x R Q K' P' J' I' (cs + k9) (n + n9) pc' L (r.toList ++ S)) : VE M x R Q K P J I cs n pc L St := by
  subst hp
  subst hst
  intro p l e s m args below meth c D ad0 ad K0 dom H locs ls X hll
  obtain ⟨hm1, hm2, hm3, hm4, hm5⟩ := hm
  have hS := X.2.2.2.2.1.app
  have hM : Met l My.1 (wsM My) Ry (PcM D ad dom K P J I (vR (some o) :: as) H.size) (QNE Qy D ad K H.size) Ry.cells Ry.slots (AF ad K H.size) := hs l X.1.2.2.2.2.2.2.2.2.1 D ad dom H.size X.2.2.2.1 (WFs.cons hS.2.hd hS.1)
  obtain ⟨i, hdi, hi2⟩ := X.2.2.2.2.2.2.1.at ho (ik_c (kn hc).2)
  rw [ce_obj (kn hc).2] at hi2
  have hrun := va_runV (rest := S.map (cv ad)) (b := ad o) (As := as.map (cv ad)) (g := F0 m pc ls ((as.reverse ++ vR (some o) :: S).map (cv ad))) (locs := locs) (cells := cs) (slots := n) (e := e) (below := below) (meth := meth)
    ⟨X.1.1, X.1.2.1, X.1.2.2.2.1, X.1.2.2.2.2.1, X.1.2.2.2.2.2.1⟩ hM
    (cwV k X.1.2.2.2.2.2.1 (C := My.1.cls) (index := j) (own := M.1.cls) (by
      intro w hw
      unfold wsV at hw
      rcases List.mem_append.mp hw with hw | hw
      · simp only [List.mem_cons, List.not_mem_nil, or_false] at hw
        rcases hw with rfl | rfl | rfl | rfl
        · exact ⟨hl, tb_good _ hl⟩
        · exact ⟨hi, tb_good _ hi⟩
        · exact ⟨hse, tb_good _ hse⟩
        · exact ⟨hm3, tb_good _ hm3⟩
      · exact goodTB My hm1 hm2 w hw) (wsM_eq hm2) rfl rfl ⟨rfl, hm4, hm5, hnp⟩ ⟨Nat.le_of_ble_eq_true hR1, Nat.le_of_ble_eq_true hR2⟩)
    ⟨PcM.blind, va_recv X.2.1 X.2.2.2.2.2.2.1.2.2.1 hc hi2, fun U hU hW => X.pre (as := vR (some o) :: as) U hU hW⟩ rfl (by rw [List.length_map, hk]) hll.1 (by rw [List.map_append, List.map_reverse]; rfl) (lv_room (m := m) (pc := pc) (ls := ls) (rest := []) (cats ad S h8)) d ⟨hcs, hn⟩
  exact X.backE hll hS.2.tl hrun (fun k9 n9 r K' P' J' I' ad' dom' H1 locs1 hq CX' hl' => kk k9 n9 r K' P' J' I' hq p l e s m args below meth c D ad0 ad' K0 dom' H1 locs1 ls CX' hl')
theorem VW.callVE {o ci n0 k : Nat} {T : u_T} {N : Nat} (d : decode M.2.1 pc = .ok (.invokevirtual j, 3)) (hp : pc + 3 = pc') (hs : SpE My false Ry Qy K P J I (vR (some o) :: as)) (hst : St = as.reverse ++ vR (some o) :: S) (hm : MOK My) (hnp : nPar My k) (hk : as.length = k) (hi : Cond.instanceMethod My.1 ∈ TB) (hse : Cond.selects My.1.cls My.1 My.1 ∈ TB) (hl : Cond.methodLink M.1.cls j My.1 ∈ TB)
    (hc : classes[ci]? = some (My.1.cls, T, N)) (ho : K o = some (ci, n0)) (h8 : Nat.ble (sl S) 8 = true) (hR1 : Nat.ble (Ry.frames + 1) R.frames = true) (hR2 : Nat.ble (8 + (My.2.2.1 + 11) + Ry.locals) R.locals = true) (hcs : cs + Ry.cells ≤ R.cells) (hn : n + Ry.slots ≤ R.slots)
    (kk : ∀ (k9 n9 : Nat) (r : Option AV) (K' : KT) (P' : PT) (J' I' : IT), Qy (.inl r) K' P' J' I' k9 n9 → VW M x R Q0 K' P' J' I' (cs + k9) (n + n9) pc' L (r.toList ++ S)) : VW M x R Q0 K P J I cs n pc L St := by
  subst hp
  subst hst
  intro p l e s m args below meth c D ad0 ad K0 dom H locs ls X hll
  obtain ⟨hm1, hm2, hm3, hm4, hm5⟩ := hm
  have hS := X.2.2.2.2.1.app
  have hM : Met l My.1 (wsM My) Ry (PcM D ad dom K P J I (vR (some o) :: as) H.size) (QNE Qy D ad K H.size) Ry.cells Ry.slots (AF ad K H.size) := hs l X.1.2.2.2.2.2.2.2.2.1 D ad dom H.size X.2.2.2.1 (WFs.cons hS.2.hd hS.1)
  obtain ⟨i, hdi, hi2⟩ := X.2.2.2.2.2.2.1.at ho (ik_c (kn hc).2)
  rw [ce_obj (kn hc).2] at hi2
  have hrun := va_runV (rest := S.map (cv ad)) (b := ad o) (As := as.map (cv ad)) (g := F0 m pc ls ((as.reverse ++ vR (some o) :: S).map (cv ad))) (locs := locs) (cells := cs) (slots := n) (e := e) (below := below) (meth := meth)
    ⟨X.1.1, X.1.2.1, X.1.2.2.2.1, X.1.2.2.2.2.1, X.1.2.2.2.2.2.1⟩ hM
    (cwV k X.1.2.2.2.2.2.1 (C := My.1.cls) (index := j) (own := M.1.cls) (by
      intro w hw
      unfold wsV at hw
      rcases List.mem_append.mp hw with hw | hw
      · simp only [List.mem_cons, List.not_mem_nil, or_false] at hw
        rcases hw with rfl | rfl | rfl | rfl
        · exact ⟨hl, tb_good _ hl⟩
        · exact ⟨hi, tb_good _ hi⟩
        · exact ⟨hse, tb_good _ hse⟩
        · exact ⟨hm3, tb_good _ hm3⟩
      · exact goodTB My hm1 hm2 w hw) (wsM_eq hm2) rfl rfl ⟨rfl, hm4, hm5, hnp⟩ ⟨Nat.le_of_ble_eq_true hR1, Nat.le_of_ble_eq_true hR2⟩)
    ⟨PcM.blind, va_recv X.2.1 X.2.2.2.2.2.2.1.2.2.1 hc hi2, fun U hU hW => X.pre (as := vR (some o) :: as) U hU hW⟩ rfl (by rw [List.length_map, hk]) hll.1 (by rw [List.map_append, List.map_reverse]; rfl) (lv_room (m := m) (pc := pc) (ls := ls) (rest := []) (cats ad S h8)) d ⟨hcs, hn⟩
  exact X.backE hll hS.2.tl hrun (fun k9 n9 r K' P' J' I' ad' dom' H1 locs1 hq CX' hl' => kk k9 n9 r K' P' J' I' hq p l e s m args below meth c D ad0 ad' K0 dom' H1 locs1 ls CX' hl')
theorem VE.callSE {k : Nat} (d : decode M.2.1 pc = .ok (.invokestatic j, 3)) (hp : pc + 3 = pc') (hs : SpE My false Ry Qy K P J I as) (hst : St = as.reverse ++ S) (hm : MOK My) (hnp : nPar My k) (hk : as.length = k) (hi : Cond.static My.1 ∈ TB) (hl : Cond.methodLink M.1.cls j My.1 ∈ TB)
    (h8 : Nat.ble (sl S) 8 = true) (hR1 : Nat.ble (Ry.frames + 1) R.frames = true) (hR2 : Nat.ble (8 + (My.2.2.1 + 11) + Ry.locals) R.locals = true) (hcs : cs + Ry.cells ≤ R.cells) (hn : n + Ry.slots ≤ R.slots)
    (kk : ∀ (k9 n9 : Nat) (r : Option AV) (K' : KT) (P' : PT) (J' I' : IT), Qy (.inl r) K' P' J' I' k9 n9 → VE M x R Q K' P' J' I' (cs + k9) (n + n9) pc' L (r.toList ++ S)) : VE M x R Q K P J I cs n pc L St := by
  subst hp
  subst hst
  intro p l e s m args below meth c D ad0 ad K0 dom H locs ls X hll
  obtain ⟨hm1, hm2, hm3, hm4, hm5⟩ := hm
  have hS := X.2.2.2.2.1.app
  have hM : Met l My.1 (wsM My) Ry (PcM D ad dom K P J I as H.size) (QNE Qy D ad K H.size) Ry.cells Ry.slots (AF ad K H.size) := hs l X.1.2.2.2.2.2.2.2.2.1 D ad dom H.size X.2.2.2.1 hS.1
  have hts := X.1.2.2.2.2.2.1
  have hrun := va_runS (index := j) (own := M.1.cls) (rest := S.map (cv ad)) (As := as.map (cv ad)) (g := F0 m pc ls ((as.reverse ++ S).map (cv ad))) (locs := locs) (cells := cs) (slots := n) (e := e) (below := below) (meth := meth)
    ⟨X.1.1, X.1.2.1, X.1.2.2.2.1, X.1.2.2.2.2.1, hts⟩ hM
    ⟨callB_of k hts (goodTB My hm1 hm2) (wsM_eq hm2) rfl rfl (hts _ hm3) (hts _ hl) ⟨hm4, hm5, hnp⟩ ⟨Nat.le_of_ble_eq_true hR1, Nat.le_of_ble_eq_true hR2⟩, hts _ hi⟩
    ⟨PcM.blind, fun U hU hW => X.pre (as := as) U hU hW⟩ rfl (by rw [List.length_map, hk]) hll.1 (by rw [List.map_append, List.map_reverse]) (lv_room (m := m) (pc := pc) (ls := ls) (rest := []) (cats ad S h8)) d ⟨hcs, hn⟩
  exact X.backE hll hS.2 hrun (fun k9 n9 r K' P' J' I' ad' dom' H1 locs1 hq CX' hl' => kk k9 n9 r K' P' J' I' hq p l e s m args below meth c D ad0 ad' K0 dom' H1 locs1 ls CX' hl')
theorem VW.callSE {k : Nat} (d : decode M.2.1 pc = .ok (.invokestatic j, 3)) (hp : pc + 3 = pc') (hs : SpE My false Ry Qy K P J I as) (hst : St = as.reverse ++ S) (hm : MOK My) (hnp : nPar My k) (hk : as.length = k) (hi : Cond.static My.1 ∈ TB) (hl : Cond.methodLink M.1.cls j My.1 ∈ TB)
    (h8 : Nat.ble (sl S) 8 = true) (hR1 : Nat.ble (Ry.frames + 1) R.frames = true) (hR2 : Nat.ble (8 + (My.2.2.1 + 11) + Ry.locals) R.locals = true) (hcs : cs + Ry.cells ≤ R.cells) (hn : n + Ry.slots ≤ R.slots)
    (kk : ∀ (k9 n9 : Nat) (r : Option AV) (K' : KT) (P' : PT) (J' I' : IT), Qy (.inl r) K' P' J' I' k9 n9 → VW M x R Q0 K' P' J' I' (cs + k9) (n + n9) pc' L (r.toList ++ S)) : VW M x R Q0 K P J I cs n pc L St := by
  subst hp
  subst hst
  intro p l e s m args below meth c D ad0 ad K0 dom H locs ls X hll
  obtain ⟨hm1, hm2, hm3, hm4, hm5⟩ := hm
  have hS := X.2.2.2.2.1.app
  have hM : Met l My.1 (wsM My) Ry (PcM D ad dom K P J I as H.size) (QNE Qy D ad K H.size) Ry.cells Ry.slots (AF ad K H.size) := hs l X.1.2.2.2.2.2.2.2.2.1 D ad dom H.size X.2.2.2.1 hS.1
  have hts := X.1.2.2.2.2.2.1
  have hrun := va_runS (index := j) (own := M.1.cls) (rest := S.map (cv ad)) (As := as.map (cv ad)) (g := F0 m pc ls ((as.reverse ++ S).map (cv ad))) (locs := locs) (cells := cs) (slots := n) (e := e) (below := below) (meth := meth)
    ⟨X.1.1, X.1.2.1, X.1.2.2.2.1, X.1.2.2.2.2.1, hts⟩ hM
    ⟨callB_of k hts (goodTB My hm1 hm2) (wsM_eq hm2) rfl rfl (hts _ hm3) (hts _ hl) ⟨hm4, hm5, hnp⟩ ⟨Nat.le_of_ble_eq_true hR1, Nat.le_of_ble_eq_true hR2⟩, hts _ hi⟩
    ⟨PcM.blind, fun U hU hW => X.pre (as := as) U hU hW⟩ rfl (by rw [List.length_map, hk]) hll.1 (by rw [List.map_append, List.map_reverse]) (lv_room (m := m) (pc := pc) (ls := ls) (rest := []) (cats ad S h8)) d ⟨hcs, hn⟩
  exact X.backE hll hS.2 hrun (fun k9 n9 r K' P' J' I' ad' dom' H1 locs1 hq CX' hl' => kk k9 n9 r K' P' J' I' hq p l e s m args below meth c D ad0 ad' K0 dom' H1 locs1 ls CX' hl')
end CallRowsE
section CallsX
variable {M : MD} {x : Bool} {R : Room} {Q : PE} {K : KT} {P : PT} {J I : IT} {cs n pc pc' : Nat} {L : List (Nat × AV)} {S St : List AV}
variable {p : Program} {l : Launch} {e : Env} {s : State} {m : MethodId} {args : Array Value} {below : List Frame} {meth : Method} {c : Code} {D : GD} {ad0 ad : Nat → Nat} {K0 : KT} {dom : List Nat} {H : Heap} {locs : List Loc} {ls : Array Slot}
theorem CX.outE {E : String} {q : Addr} {ce : Cell} {rest : List Value} {ls' : Array Slot} (X : CX M true R p l s m args meth c D ad0 ad K0 dom H locs K P J I L S) (hh : M.2.2.2.2 = []) (hq : Q (.inr E) K P J I cs n) (hce : H[q]? = some ce) (hcv : ce.vm = .none) (hcl : s.vm.findClass E = some ce.cls) (h1 : cs ≤ R.cells) (h2 : n ≤ R.slots) :
    vx_W p l e R s m args below meth c H locs cs n (QFE true Q D ad0 K0 below args s R) (F0 m pc ls' rest) q := by
  obtain ⟨x1, x2, x3, x4, x5, x6, x7, x8, x9⟩ := X
  have ht := x1.2.2.2.2.2.2.2.2.2.2 rfl
  rw [hh] at ht
  have h0 : vx_W p l e R s m args below meth c H locs cs n (vx_MQ below (QNE Q D ad0 K0 s.heap.size) (QX (fun r K P J I => Q r K P J I cs n) D ad0 K0 s.heap.size) args s cs n (AF ad0 K0 s.heap.size)) (F0 m pc ls' rest) q := by
    refine vx_out (E := E) (ce := ce) (fun x hx => by rw [ht] at hx; cases hx) x1.2.2.2.2.2.2.1 hce hcv hcl (fun t ht hA => ?_) x8.2.2 (Nat.le_refl _) (Nat.le_refl _)
    exact ⟨⟨K, P, J, I, ad, dom, hq, x4, x9.1, by rw [ht]; exact x7, va_K.moved hA x2⟩, x8.F ht⟩
  intro T hT hX
  obtain ⟨t, a1, o, b1, b2, b3⟩ := h0 T hT hX
  refine ⟨t, a1, o, b1, b2, ?_⟩
  rcases b3 with ⟨c1, Lc, c2, c3⟩ | ⟨q', c1, E', ce', Lc, c2, c3, c4, c5, c6, c7, c8⟩
  · exact Or.inl ⟨c1, Lc, ⟨c2.1, c2.2.1, c2.2.2.mono h1 h2⟩, c3⟩
  · exact Or.inr ⟨q', c1, E', ce', Lc, ⟨cs, n, HC.of c7, c2⟩, c3, c4, c5, c6, c7.mono h1 h2, c8⟩
theorem CX.caughtE {E : String} {q : Addr} {ce : Cell} {rest : List Value} {hpc h2 h3 i : Nat} {z : Int} (X : CX M true R p l s m args meth c D ad0 ad K0 dom H locs K P J I L S) (hl : lv_has ls M.2.2.1 (cl ad L)) (hC : Catch M pc E hpc) (hq : Q (.inl (some (vI z))) K P J I cs n) (hce : H[q]? = some ce) (hcv : ce.vm = .none) (hcl : s.vm.findClass E = some ce.cls) (h1 : cs ≤ R.cells) (h2' : n ≤ R.slots)
    (da : (decode M.2.1 hpc = .ok (.astore i, 2) ∧ h2 = hpc + 2) ∨ (∃ k : Fin 4, (k : Nat) = i ∧ decode M.2.1 hpc = .ok (.astore_n k, 1) ∧ h2 = hpc + 1)) (hi : i < M.2.2.1) (di : decode M.2.1 h2 = .ok (.iconst z, 1)) (hz : inR z) (d3 : decode M.2.1 h3 = .ok (.ireturn, 1)) (e3 : h3 = h2 + 1) (hM : M.2.2.2.1 = some .int) :
    vx_W p l e R s m args below meth c H locs cs n (QFE true Q D ad0 K0 below args s R) (F0 m pc ls rest) q := by
  obtain ⟨pre, suf, y, name, ht, hpre, hcov, hy0, hlk, hcs, rfl⟩ := hC
  have X' := X
  obtain ⟨x1, x2, x3, x4, x5, x6, x7, x8, x9⟩ := X
  have hts := x1.2.2.2.2.2.1
  have hW := x1.2.2.2.2.2.2.2.2.2.1
  have htb := x1.2.2.2.2.2.2.2.2.2.2 rfl
  refine vx_catch (own := M.1.cls) (name := name) (E := E) (ce := ce) x1.2.2.2.2.1 pre y suf (htb.trans ht) (fun w hw => ?_) hcov hy0 (hts _ hlk) (va_Nw.use rfl (hW.2.1 _ hcs)) hce hcv hcl ?_
  · rcases hpre w hw with h | ⟨hz0, nm, h1, h2⟩
    · exact Or.inl h
    · exact Or.inr ⟨hz0, nm, hts _ h1, hW.2.2.2.1 _ h2⟩
  · refine (?_ : W p l e R s m args below meth c H locs cs n _ _)
    have fin : ∀ (ls2 : Array Slot), W p l e R s m args below meth c H locs cs n (QFE true Q D ad0 K0 below args s R) (F0 m h2 ls2 []) := by
      intro ls2
      refine lv_iconst x1.1 x1.2.1 di rfl ?_
      subst e3
      exact vx_ret ((W.zret (Qc := QN (fun r K P J I => Q r K P J I cs n) D ad0 K0 s.heap.size) x1.1 x1.2.1 (x1.2.2.1.trans hM) rfl (fun t ht hWt => QN.of (Q := fun r K P J I => Q r K P J I cs n) (r := some (vI z)) X' hq (fun v ev => by cases ev; exact hz) ht hWt) x8.2.2 d3 x1.2.2.2.2.2.2.1).mapQ (fun t => MQ.toE (Q := Q) h1 h2'))
    rcases da with ⟨da, rfl⟩ | ⟨k, rfl, da, rfl⟩
    · exact lv_astore x1.1 x1.2.1 da hl hi rfl (fun ls2 _ => fin ls2)
    · exact lv_astore_n x1.1 x1.2.1 da rfl hl hi rfl (fun ls2 _ => fin ls2)
end CallsX
section CallRowsX
variable {M My : MD} {R Ry : Room} {Q : PE} {Qy : PQ} {K : KT} {P : PT} {J I : IT} {cs n pc pc' j : Nat} {L : List (Nat × AV)} {S St as : List AV}
def OnXE (M : MD) (Q : PE) (pc : Nat) (E : String) (K : KT) (P : PT) (J I : IT) (cs n : Nat) : Prop := (M.2.2.2.2 = [] ∧ Q (.inr E) K P J I cs n) ∨
  ∃ (hpc h2 h3 i : Nat) (z : Int), Catch M pc E hpc ∧ Q (.inl (some (vI z))) K P J I cs n ∧ ((decode M.2.1 hpc = .ok (.astore i, 2) ∧ h2 = hpc + 2) ∨ (∃ k : Fin 4, (k : Nat) = i ∧ decode M.2.1 hpc = .ok (.astore_n k, 1) ∧ h2 = hpc + 1)) ∧ i < M.2.2.1 ∧ decode M.2.1 h2 = .ok (.iconst z, 1) ∧ inR z ∧ decode M.2.1 h3 = .ok (.ireturn, 1) ∧ h3 = h2 + 1 ∧ M.2.2.2.1 = some .int
theorem VE.callVX {o ci n0 k : Nat} {T : u_T} {N : Nat} (d : decode M.2.1 pc = .ok (.invokevirtual j, 3)) (hp : pc + 3 = pc') (hs : Sp My true Ry Qy K P J I (vR (some o) :: as)) (hst : St = as.reverse ++ vR (some o) :: S) (hm : MOK My) (hnp : nPar My k) (hk : as.length = k) (hi : Cond.instanceMethod My.1 ∈ TB) (hse : Cond.selects My.1.cls My.1 My.1 ∈ TB) (hl : Cond.methodLink M.1.cls j My.1 ∈ TB)
    (hc : classes[ci]? = some (My.1.cls, T, N)) (ho : K o = some (ci, n0)) (h8 : Nat.ble (sl S) 8 = true) (hR1 : Nat.ble (Ry.frames + 1) R.frames = true) (hR2 : Nat.ble (8 + (My.2.2.1 + 11) + Ry.locals) R.locals = true) (hcs : cs + Ry.cells ≤ R.cells) (hn : n + Ry.slots ≤ R.slots)
    (kx : ∀ (E : String) (K' : KT) (P' : PT) (J' I' : IT), Qy (.inr E) K' P' J' I' → OnXE M Q pc E K' P' J' I' (cs + Ry.cells) (n + Ry.slots))
    (kk : ∀ (r : Option AV) (K' : KT) (P' : PT) (J' I' : IT), Qy (.inl r) K' P' J' I' → VE M true R Q K' P' J' I' (cs + Ry.cells) (n + Ry.slots) pc' L (r.toList ++ S)) : VE M true R Q K P J I cs n pc L St := by
  subst hp
  subst hst
  intro p l e s m args below meth c D ad0 ad K0 dom H locs ls X hll
  obtain ⟨hm1, hm2, hm3, hm4, hm5⟩ := hm
  have hS := X.2.2.2.2.1.app
  have hM : vx_Met l My.1 (wsM My) Ry (PcM D ad dom K P J I (vR (some o) :: as) H.size) (QN Qy D ad K H.size) (QX Qy D ad K H.size) Ry.cells Ry.slots (AF ad K H.size) := hs l X.1.2.2.2.2.2.2.2.2.1 D ad dom H.size X.2.2.2.1 (WFs.cons hS.2.hd hS.1)
  obtain ⟨i, hdi, hi2⟩ := X.2.2.2.2.2.2.1.at ho (ik_c (kn hc).2)
  rw [ce_obj (kn hc).2] at hi2
  have hrun := vx_runV (rest := S.map (cv ad)) (b := ad o) (As := as.map (cv ad)) (g := F0 m pc ls ((as.reverse ++ vR (some o) :: S).map (cv ad))) (locs := locs) (cells := cs) (slots := n) (e := e) (below := below) (meth := meth)
    ⟨X.1.1, X.1.2.1, X.1.2.2.2.1, X.1.2.2.2.2.1, X.1.2.2.2.2.2.1⟩ hM
    (cwV k X.1.2.2.2.2.2.1 (C := My.1.cls) (index := j) (own := M.1.cls) (by
      intro w hw
      unfold wsV at hw
      rcases List.mem_append.mp hw with hw | hw
      · simp only [List.mem_cons, List.not_mem_nil, or_false] at hw
        rcases hw with rfl | rfl | rfl | rfl
        · exact ⟨hl, tb_good _ hl⟩
        · exact ⟨hi, tb_good _ hi⟩
        · exact ⟨hse, tb_good _ hse⟩
        · exact ⟨hm3, tb_good _ hm3⟩
      · exact goodTB My hm1 hm2 w hw) (wsM_eq hm2) rfl rfl ⟨rfl, hm4, hm5, hnp⟩ ⟨Nat.le_of_ble_eq_true hR1, Nat.le_of_ble_eq_true hR2⟩)
    ⟨PcM.blind, va_recv X.2.1 X.2.2.2.2.2.2.1.2.2.1 hc hi2, fun U hU hW => X.pre (as := vR (some o) :: as) U hU hW⟩ rfl (by rw [List.length_map, hk]) hll.1 (by rw [List.map_append, List.map_reverse]; rfl) (lv_room (m := m) (pc := pc) (ls := ls) (rest := []) (cats ad S h8)) d ⟨hcs, hn⟩
  refine X.backX hll hS.2.tl hrun (fun r K' P' J' I' ad' dom' H1 locs1 hq CX' hl' => kk r K' P' J' I' hq p l e s m args below meth c D ad0 ad' K0 dom' H1 locs1 ls CX' hl') (fun E K' P' J' I' ad' dom' H1 locs1 q ce hq CX' hl' hce hcv hcl => ?_)
  rcases kx E K' P' J' I' hq with ⟨hh, hQ⟩ | ⟨hpc, h2, h3, i9, z, hC, hQ, da, hi9, di, hz, d3, e3, hM9⟩
  · exact CX'.outE hh hQ hce hcv hcl hcs hn
  · exact CX'.caughtE hl' hC hQ hce hcv hcl hcs hn da hi9 di hz d3 e3 hM9
theorem VE.callSX {k : Nat} (d : decode M.2.1 pc = .ok (.invokestatic j, 3)) (hp : pc + 3 = pc') (hs : Sp My true Ry Qy K P J I as) (hst : St = as.reverse ++ S) (hm : MOK My) (hnp : nPar My k) (hk : as.length = k) (hi : Cond.static My.1 ∈ TB) (hl : Cond.methodLink M.1.cls j My.1 ∈ TB)
    (h8 : Nat.ble (sl S) 8 = true) (hR1 : Nat.ble (Ry.frames + 1) R.frames = true) (hR2 : Nat.ble (8 + (My.2.2.1 + 11) + Ry.locals) R.locals = true) (hcs : cs + Ry.cells ≤ R.cells) (hn : n + Ry.slots ≤ R.slots)
    (kx : ∀ (E : String) (K' : KT) (P' : PT) (J' I' : IT), Qy (.inr E) K' P' J' I' → OnXE M Q pc E K' P' J' I' (cs + Ry.cells) (n + Ry.slots))
    (kk : ∀ (r : Option AV) (K' : KT) (P' : PT) (J' I' : IT), Qy (.inl r) K' P' J' I' → VE M true R Q K' P' J' I' (cs + Ry.cells) (n + Ry.slots) pc' L (r.toList ++ S)) : VE M true R Q K P J I cs n pc L St := by
  subst hp
  subst hst
  intro p l e s m args below meth c D ad0 ad K0 dom H locs ls X hll
  obtain ⟨hm1, hm2, hm3, hm4, hm5⟩ := hm
  have hS := X.2.2.2.2.1.app
  have hM : vx_Met l My.1 (wsM My) Ry (PcM D ad dom K P J I as H.size) (QN Qy D ad K H.size) (QX Qy D ad K H.size) Ry.cells Ry.slots (AF ad K H.size) := hs l X.1.2.2.2.2.2.2.2.2.1 D ad dom H.size X.2.2.2.1 hS.1
  have hts := X.1.2.2.2.2.2.1
  have hrun := vx_runS (index := j) (own := M.1.cls) (rest := S.map (cv ad)) (As := as.map (cv ad)) (g := F0 m pc ls ((as.reverse ++ S).map (cv ad))) (locs := locs) (cells := cs) (slots := n) (e := e) (below := below) (meth := meth)
    ⟨X.1.1, X.1.2.1, X.1.2.2.2.1, X.1.2.2.2.2.1, hts⟩ hM
    ⟨callB_of k hts (goodTB My hm1 hm2) (wsM_eq hm2) rfl rfl (hts _ hm3) (hts _ hl) ⟨hm4, hm5, hnp⟩ ⟨Nat.le_of_ble_eq_true hR1, Nat.le_of_ble_eq_true hR2⟩, hts _ hi⟩
    ⟨PcM.blind, fun U hU hW => X.pre (as := as) U hU hW⟩ rfl (by rw [List.length_map, hk]) hll.1 (by rw [List.map_append, List.map_reverse]) (lv_room (m := m) (pc := pc) (ls := ls) (rest := []) (cats ad S h8)) d ⟨hcs, hn⟩
  refine X.backX hll hS.2 hrun (fun r K' P' J' I' ad' dom' H1 locs1 hq CX' hl' => kk r K' P' J' I' hq p l e s m args below meth c D ad0 ad' K0 dom' H1 locs1 ls CX' hl') (fun E K' P' J' I' ad' dom' H1 locs1 q ce hq CX' hl' hce hcv hcl => ?_)
  rcases kx E K' P' J' I' hq with ⟨hh, hQ⟩ | ⟨hpc, h2, h3, i9, z, hC, hQ, da, hi9, di, hz, d3, e3, hM9⟩
  · exact CX'.outE hh hQ hce hcv hcl hcs hn
  · exact CX'.caughtE hl' hC hQ hce hcv hcl hcs hn da hi9 di hz d3 e3 hM9
end CallRowsX
section CallRowsXE
variable {M My : MD} {R Ry : Room} {Q : PE} {Qy : PE} {K : KT} {P : PT} {J I : IT} {cs n pc pc' j : Nat} {L : List (Nat × AV)} {S St as : List AV}
theorem VE.callVXE {o ci n0 k : Nat} {T : u_T} {N : Nat} (d : decode M.2.1 pc = .ok (.invokevirtual j, 3)) (hp : pc + 3 = pc') (hs : SpE My true Ry Qy K P J I (vR (some o) :: as)) (hst : St = as.reverse ++ vR (some o) :: S) (hm : MOK My) (hnp : nPar My k) (hk : as.length = k) (hi : Cond.instanceMethod My.1 ∈ TB) (hse : Cond.selects My.1.cls My.1 My.1 ∈ TB) (hl : Cond.methodLink M.1.cls j My.1 ∈ TB)
    (hc : classes[ci]? = some (My.1.cls, T, N)) (ho : K o = some (ci, n0)) (h8 : Nat.ble (sl S) 8 = true) (hR1 : Nat.ble (Ry.frames + 1) R.frames = true) (hR2 : Nat.ble (8 + (My.2.2.1 + 11) + Ry.locals) R.locals = true) (hcs : cs + Ry.cells ≤ R.cells) (hn : n + Ry.slots ≤ R.slots)
    (kx : ∀ (k9 n9 : Nat) (E : String) (K' : KT) (P' : PT) (J' I' : IT), Qy (.inr E) K' P' J' I' k9 n9 → OnXE M Q pc E K' P' J' I' (cs + k9) (n + n9) ∧ k9 ≤ Ry.cells ∧ n9 ≤ Ry.slots)
    (kk : ∀ (k9 n9 : Nat) (r : Option AV) (K' : KT) (P' : PT) (J' I' : IT), Qy (.inl r) K' P' J' I' k9 n9 → VE M true R Q K' P' J' I' (cs + k9) (n + n9) pc' L (r.toList ++ S)) : VE M true R Q K P J I cs n pc L St := by
  subst hp
  subst hst
  intro p l e s m args below meth c D ad0 ad K0 dom H locs ls X hll
  obtain ⟨hm1, hm2, hm3, hm4, hm5⟩ := hm
  have hS := X.2.2.2.2.1.app
  have hM : vx_Met l My.1 (wsM My) Ry (PcM D ad dom K P J I (vR (some o) :: as) H.size) (QNE Qy D ad K H.size) (QXE Qy D ad K H.size) Ry.cells Ry.slots (AF ad K H.size) := hs l X.1.2.2.2.2.2.2.2.2.1 D ad dom H.size X.2.2.2.1 (WFs.cons hS.2.hd hS.1)
  obtain ⟨i, hdi, hi2⟩ := X.2.2.2.2.2.2.1.at ho (ik_c (kn hc).2)
  rw [ce_obj (kn hc).2] at hi2
  have hrun := vx_runV (rest := S.map (cv ad)) (b := ad o) (As := as.map (cv ad)) (g := F0 m pc ls ((as.reverse ++ vR (some o) :: S).map (cv ad))) (locs := locs) (cells := cs) (slots := n) (e := e) (below := below) (meth := meth)
    ⟨X.1.1, X.1.2.1, X.1.2.2.2.1, X.1.2.2.2.2.1, X.1.2.2.2.2.2.1⟩ hM
    (cwV k X.1.2.2.2.2.2.1 (C := My.1.cls) (index := j) (own := M.1.cls) (by
      intro w hw
      unfold wsV at hw
      rcases List.mem_append.mp hw with hw | hw
      · simp only [List.mem_cons, List.not_mem_nil, or_false] at hw
        rcases hw with rfl | rfl | rfl | rfl
        · exact ⟨hl, tb_good _ hl⟩
        · exact ⟨hi, tb_good _ hi⟩
        · exact ⟨hse, tb_good _ hse⟩
        · exact ⟨hm3, tb_good _ hm3⟩
      · exact goodTB My hm1 hm2 w hw) (wsM_eq hm2) rfl rfl ⟨rfl, hm4, hm5, hnp⟩ ⟨Nat.le_of_ble_eq_true hR1, Nat.le_of_ble_eq_true hR2⟩)
    ⟨PcM.blind, va_recv X.2.1 X.2.2.2.2.2.2.1.2.2.1 hc hi2, fun U hU hW => X.pre (as := vR (some o) :: as) U hU hW⟩ rfl (by rw [List.length_map, hk]) hll.1 (by rw [List.map_append, List.map_reverse]; rfl) (lv_room (m := m) (pc := pc) (ls := ls) (rest := []) (cats ad S h8)) d ⟨hcs, hn⟩
  refine X.backXE hll hS.2.tl hrun (fun k9 n9 r K' P' J' I' ad' dom' H1 locs1 hq CX' hl' => kk k9 n9 r K' P' J' I' hq p l e s m args below meth c D ad0 ad' K0 dom' H1 locs1 ls CX' hl') (fun k9 n9 E K' P' J' I' ad' dom' H1 locs1 q ce hq CX' hl' hce hcv hcl => ?_)
  obtain ⟨kx1, kx2, kx3⟩ := kx k9 n9 E K' P' J' I' hq
  rcases kx1 with ⟨hh, hQ⟩ | ⟨hpc, h2, h3, i9, z, hC, hQ, da, hi9, di, hz, d3, e3, hM9⟩
  · exact CX'.outE hh hQ hce hcv hcl (by omega) (by omega)
  · exact CX'.caughtE hl' hC hQ hce hcv hcl (by omega) (by omega) da hi9 di hz d3 e3 hM9
theorem VE.callSXE {k : Nat} (d : decode M.2.1 pc = .ok (.invokestatic j, 3)) (hp : pc + 3 = pc') (hs : SpE My true Ry Qy K P J I as) (hst : St = as.reverse ++ S) (hm : MOK My) (hnp : nPar My k) (hk : as.length = k) (hi : Cond.static My.1 ∈ TB) (hl : Cond.methodLink M.1.cls j My.1 ∈ TB)
    (h8 : Nat.ble (sl S) 8 = true) (hR1 : Nat.ble (Ry.frames + 1) R.frames = true) (hR2 : Nat.ble (8 + (My.2.2.1 + 11) + Ry.locals) R.locals = true) (hcs : cs + Ry.cells ≤ R.cells) (hn : n + Ry.slots ≤ R.slots)
    (kx : ∀ (k9 n9 : Nat) (E : String) (K' : KT) (P' : PT) (J' I' : IT), Qy (.inr E) K' P' J' I' k9 n9 → OnXE M Q pc E K' P' J' I' (cs + k9) (n + n9) ∧ k9 ≤ Ry.cells ∧ n9 ≤ Ry.slots)
    (kk : ∀ (k9 n9 : Nat) (r : Option AV) (K' : KT) (P' : PT) (J' I' : IT), Qy (.inl r) K' P' J' I' k9 n9 → VE M true R Q K' P' J' I' (cs + k9) (n + n9) pc' L (r.toList ++ S)) : VE M true R Q K P J I cs n pc L St := by
  subst hp
  subst hst
  intro p l e s m args below meth c D ad0 ad K0 dom H locs ls X hll
  obtain ⟨hm1, hm2, hm3, hm4, hm5⟩ := hm
  have hS := X.2.2.2.2.1.app
  have hM : vx_Met l My.1 (wsM My) Ry (PcM D ad dom K P J I as H.size) (QNE Qy D ad K H.size) (QXE Qy D ad K H.size) Ry.cells Ry.slots (AF ad K H.size) := hs l X.1.2.2.2.2.2.2.2.2.1 D ad dom H.size X.2.2.2.1 hS.1
  have hts := X.1.2.2.2.2.2.1
  have hrun := vx_runS (index := j) (own := M.1.cls) (rest := S.map (cv ad)) (As := as.map (cv ad)) (g := F0 m pc ls ((as.reverse ++ S).map (cv ad))) (locs := locs) (cells := cs) (slots := n) (e := e) (below := below) (meth := meth)
    ⟨X.1.1, X.1.2.1, X.1.2.2.2.1, X.1.2.2.2.2.1, hts⟩ hM
    ⟨callB_of k hts (goodTB My hm1 hm2) (wsM_eq hm2) rfl rfl (hts _ hm3) (hts _ hl) ⟨hm4, hm5, hnp⟩ ⟨Nat.le_of_ble_eq_true hR1, Nat.le_of_ble_eq_true hR2⟩, hts _ hi⟩
    ⟨PcM.blind, fun U hU hW => X.pre (as := as) U hU hW⟩ rfl (by rw [List.length_map, hk]) hll.1 (by rw [List.map_append, List.map_reverse]) (lv_room (m := m) (pc := pc) (ls := ls) (rest := []) (cats ad S h8)) d ⟨hcs, hn⟩
  refine X.backXE hll hS.2 hrun (fun k9 n9 r K' P' J' I' ad' dom' H1 locs1 hq CX' hl' => kk k9 n9 r K' P' J' I' hq p l e s m args below meth c D ad0 ad' K0 dom' H1 locs1 ls CX' hl') (fun k9 n9 E K' P' J' I' ad' dom' H1 locs1 q ce hq CX' hl' hce hcv hcl => ?_)
  obtain ⟨kx1, kx2, kx3⟩ := kx k9 n9 E K' P' J' I' hq
  rcases kx1 with ⟨hh, hQ⟩ | ⟨hpc, h2, h3, i9, z, hC, hQ, da, hi9, di, hz, d3, e3, hM9⟩
  · exact CX'.outE hh hQ hce hcv hcl (by omega) (by omega)
  · exact CX'.caughtE hl' hC hQ hce hcv hcl (by omega) (by omega) da hi9 di hz d3 e3 hM9
end CallRowsXE
section D
variable {M : MD} {x : Bool} {R : Room} {Q : PE} {K : KT} {P : PT} {J I : IT} {cs n pc pc' : Nat} {L : List (Nat × AV)} {S St : List AV}
theorem VE.gI {C : String} {T : u_T} {N ci k o n0 j : Nat} {k' : Int} {z : Int} (d : decode M.2.1 pc = .ok (.getfield j, 3)) (hp : pc + 3 = pc') (hlk : Cond.fieldLink M.1.cls j (T k).1 (T k).2.1 (T k).2.2.1 ∈ TB) (hin : ∀ w ∈ u_ws C T N, w ∈ TB) (hc : classes[ci]? = some (C, T, N)) (hk : Nat.ble (k + 1) N = true) (hr : isP ci k = false) (hk' : (k : Int) = k')
    (ho : K o = some (ci, n0)) (hv : I o k' = z) (kk : VE M x R Q K P J I cs n pc' L (vI z :: S)) : VE M x R Q K P J I cs n pc L (vR (some o) :: S) := by
  subst hv
  subst hk'
  exact VE.getI d hp hlk hin hc hk hr ho kk
theorem VE.gP {C : String} {T : u_T} {N ci k o n0 j : Nat} {k' : Int} {z : Option Nat} (d : decode M.2.1 pc = .ok (.getfield j, 3)) (hp : pc + 3 = pc') (hlk : Cond.fieldLink M.1.cls j (T k).1 (T k).2.1 (T k).2.2.1 ∈ TB) (hin : ∀ w ∈ u_ws C T N, w ∈ TB) (hc : classes[ci]? = some (C, T, N)) (hk : Nat.ble (k + 1) N = true) (hr : isP ci k = true) (hk' : (k : Int) = k')
    (ho : K o = some (ci, n0)) (hv : P o k' = z) (kk : VE M x R Q K P J I cs n pc' L (vR z :: S)) : VE M x R Q K P J I cs n pc L (vR (some o) :: S) := by
  subst hv
  subst hk'
  exact VE.getP d hp hlk hin hc hk hr ho kk
theorem VE.pI {C : String} {T : u_T} {N ci k o n0 j : Nat} {ty : Nat → FieldType} {k' : Int} {z : Int} (d : decode M.2.1 pc = .ok (.putfield j, 3)) (hp : pc + 3 = pc') (hlk : Cond.fieldLink M.1.cls j (T k).1 (T k).2.1 (T k).2.2.1 ∈ TB) (hin : ∀ w ∈ u_ws C T N, w ∈ TB) (hty : ∀ k, k < N → parseFieldDescriptor (T k).2.2.1 = some (ty k)) (hnm : ∀ a, a < N → ∀ b, b < N → a ≠ b → (T a).2.1 ≠ (T b).2.1)
    (hc : classes[ci]? = some (C, T, N)) (hk : Nat.ble (k + 1) N = true) (hr : isP ci k = false) (hk' : (k : Int) = k') (hfin : (T k).2.2.2 = false) (ht : ty k = .int) (ho : K o = some (ci, n0)) (kk : VE M x R Q K P J (up2 I o k' z) cs n pc' L S) : VE M x R Q K P J I cs n pc L (vI z :: vR (some o) :: S) := by
  subst hk'
  exact VE.putI d hp hlk hin hty hnm hc hk hr hfin ht ho kk
theorem VE.pIF {C : String} {T : u_T} {N ci k o n0 j : Nat} {ty : Nat → FieldType} {k' : Int} {z : Int} (d : decode M.2.1 pc = .ok (.putfield j, 3)) (hp : pc + 3 = pc') (hlk : Cond.fieldLink M.1.cls j (T k).1 (T k).2.1 (T k).2.2.1 ∈ TB) (hin : ∀ w ∈ u_ws C T N, w ∈ TB) (hty : ∀ k, k < N → parseFieldDescriptor (T k).2.2.1 = some (ty k)) (hnm : ∀ a, a < N → ∀ b, b < N → a ≠ b → (T a).2.1 ≠ (T b).2.1)
    (hc : classes[ci]? = some (C, T, N)) (hk : Nat.ble (k + 1) N = true) (hr : isP ci k = false) (hk' : (k : Int) = k') (hfin : (T k).2.2.2 = true) (hini : M.1.name = "<init>") (hdl : (T k).1 = M.1.cls) (ht : ty k = .int) (ho : K o = some (ci, n0)) (kk : VE M x R Q K P J (up2 I o k' z) cs n pc' L S) : VE M x R Q K P J I cs n pc L (vI z :: vR (some o) :: S) := by
  subst hk'
  exact VE.putIF d hp hlk hin hty hnm hc hk hr hfin hini hdl ht ho kk
theorem VE.pZ {C : String} {T : u_T} {N ci k o n0 j : Nat} {ty : Nat → FieldType} {k' : Int} {z : Int} (d : decode M.2.1 pc = .ok (.putfield j, 3)) (hp : pc + 3 = pc') (hlk : Cond.fieldLink M.1.cls j (T k).1 (T k).2.1 (T k).2.2.1 ∈ TB) (hin : ∀ w ∈ u_ws C T N, w ∈ TB) (hty : ∀ k, k < N → parseFieldDescriptor (T k).2.2.1 = some (ty k)) (hnm : ∀ a, a < N → ∀ b, b < N → a ≠ b → (T a).2.1 ≠ (T b).2.1)
    (hc : classes[ci]? = some (C, T, N)) (hk : Nat.ble (k + 1) N = true) (hr : isP ci k = false) (hk' : (k : Int) = k') (hfin : (T k).2.2.2 = false) (ht : ty k = .boolean) (hz : z = 0 ∨ z = 1) (ho : K o = some (ci, n0)) (kk : VE M x R Q K P J (up2 I o k' z) cs n pc' L S) : VE M x R Q K P J I cs n pc L (vI z :: vR (some o) :: S) := by
  subst hk'
  exact VE.putZ d hp hlk hin hty hnm hc hk hr hfin ht hz ho kk
theorem VE.pZF {C : String} {T : u_T} {N ci k o n0 j : Nat} {ty : Nat → FieldType} {k' : Int} {z : Int} (d : decode M.2.1 pc = .ok (.putfield j, 3)) (hp : pc + 3 = pc') (hlk : Cond.fieldLink M.1.cls j (T k).1 (T k).2.1 (T k).2.2.1 ∈ TB) (hin : ∀ w ∈ u_ws C T N, w ∈ TB) (hty : ∀ k, k < N → parseFieldDescriptor (T k).2.2.1 = some (ty k)) (hnm : ∀ a, a < N → ∀ b, b < N → a ≠ b → (T a).2.1 ≠ (T b).2.1)
    (hc : classes[ci]? = some (C, T, N)) (hk : Nat.ble (k + 1) N = true) (hr : isP ci k = false) (hk' : (k : Int) = k') (hfin : (T k).2.2.2 = true) (hini : M.1.name = "<init>") (hdl : (T k).1 = M.1.cls) (ht : ty k = .boolean) (hz : z = 0 ∨ z = 1) (ho : K o = some (ci, n0)) (kk : VE M x R Q K P J (up2 I o k' z) cs n pc' L S) : VE M x R Q K P J I cs n pc L (vI z :: vR (some o) :: S) := by
  subst hk'
  exact VE.putZF d hp hlk hin hty hnm hc hk hr hfin hini hdl ht hz ho kk
theorem VE.pP {C : String} {T : u_T} {N ci k o n0 j : Nat} {ty : Nat → FieldType} {k' : Int} {r : Option Nat} (d : decode M.2.1 pc = .ok (.putfield j, 3)) (hp : pc + 3 = pc') (hlk : Cond.fieldLink M.1.cls j (T k).1 (T k).2.1 (T k).2.2.1 ∈ TB) (hin : ∀ w ∈ u_ws C T N, w ∈ TB) (hty : ∀ k, k < N → parseFieldDescriptor (T k).2.2.1 = some (ty k)) (hnm : ∀ a, a < N → ∀ b, b < N → a ≠ b → (T a).2.1 ≠ (T b).2.1)
    (hc : classes[ci]? = some (C, T, N)) (hk : Nat.ble (k + 1) N = true) (hr : isP ci k = true) (hk' : (k : Int) = k') (hfin : (T k).2.2.2 = false) (ht : (∃ q, ty k = .object q) ∨ ∃ q, ty k = .array q) (ho : K o = some (ci, n0)) (kk : VE M x R Q K (up2 P o k' r) J I cs n pc' L S) : VE M x R Q K P J I cs n pc L (vR r :: vR (some o) :: S) := by
  subst hk'
  exact VE.putP d hp hlk hin hty hnm hc hk hr hfin ht ho kk
theorem VE.pPF {C : String} {T : u_T} {N ci k o n0 j : Nat} {ty : Nat → FieldType} {k' : Int} {r : Option Nat} (d : decode M.2.1 pc = .ok (.putfield j, 3)) (hp : pc + 3 = pc') (hlk : Cond.fieldLink M.1.cls j (T k).1 (T k).2.1 (T k).2.2.1 ∈ TB) (hin : ∀ w ∈ u_ws C T N, w ∈ TB) (hty : ∀ k, k < N → parseFieldDescriptor (T k).2.2.1 = some (ty k)) (hnm : ∀ a, a < N → ∀ b, b < N → a ≠ b → (T a).2.1 ≠ (T b).2.1)
    (hc : classes[ci]? = some (C, T, N)) (hk : Nat.ble (k + 1) N = true) (hr : isP ci k = true) (hk' : (k : Int) = k') (hfin : (T k).2.2.2 = true) (hini : M.1.name = "<init>") (hdl : (T k).1 = M.1.cls) (ht : (∃ q, ty k = .object q) ∨ ∃ q, ty k = .array q) (ho : K o = some (ci, n0)) (kk : VE M x R Q K (up2 P o k' r) J I cs n pc' L S) : VE M x R Q K P J I cs n pc L (vR r :: vR (some o) :: S) := by
  subst hk'
  exact VE.putPF d hp hlk hin hty hnm hc hk hr hfin hini hdl ht ho kk
theorem VE.ild {o N : Nat} {z : Int} {v : Int} (d : decode M.2.1 pc = .ok (.iaload, 1)) (hp : pc + 1 = pc') (ho : K o = some (100, N)) (h0 : 0 ≤ z) (h1 : z < N) (hv : I o z = v) (kk : VE M x R Q K P J I cs n pc' L (vI v :: S)) : VE M x R Q K P J I cs n pc L (vI z :: vR (some o) :: S) := by
  subst hv
  exact VE.iald d hp ho h0 h1 kk
theorem VE.zld {o N : Nat} {z : Int} {v : Int} (d : decode M.2.1 pc = .ok (.baload, 1)) (hp : pc + 1 = pc') (ho : K o = some (101, N)) (h0 : 0 ≤ z) (h1 : z < N) (hv : I o z = v) (kk : VE M x R Q K P J I cs n pc' L (vI v :: S)) : VE M x R Q K P J I cs n pc L (vI z :: vR (some o) :: S) := by
  subst hv
  exact VE.zald d hp ho h0 h1 kk
theorem VE.lld {o N : Nat} {z : Int} {v : Int} (d : decode M.2.1 pc = .ok (.laload, 1)) (hp : pc + 1 = pc') (ho : K o = some (102, N)) (h0 : 0 ≤ z) (h1 : z < N) (hv : J o z = v) (kk : VE M x R Q K P J I cs n pc' L (vJ v :: S)) : VE M x R Q K P J I cs n pc L (vI z :: vR (some o) :: S) := by
  subst hv
  exact VE.lald d hp ho h0 h1 kk
theorem VE.rld {o N : Nat} {z : Int} {v : Option Nat} (d : decode M.2.1 pc = .ok (.aaload, 1)) (hp : pc + 1 = pc') (ho : K o = some (103, N)) (h0 : 0 ≤ z) (h1 : z < N) (hv : P o z = v) (kk : VE M x R Q K P J I cs n pc' L (vR v :: S)) : VE M x R Q K P J I cs n pc L (vI z :: vR (some o) :: S) := by
  subst hv
  exact VE.rald d hp ho h0 h1 kk
theorem VE.old {o N : Nat} {z : Int} {v : Option Nat} (d : decode M.2.1 pc = .ok (.aaload, 1)) (hp : pc + 1 = pc') (ho : K o = some (104, N)) (h0 : 0 ≤ z) (h1 : z < N) (hv : P o z = v) (kk : VE M x R Q K P J I cs n pc' L (vR v :: S)) : VE M x R Q K P J I cs n pc L (vI z :: vR (some o) :: S) := by
  subst hv
  exact VE.oald d hp ho h0 h1 kk
end D
section CallD
variable {M My : MD} {x : Bool} {R Ry : Room} {Q : PE} {K K1 : KT} {P P1 : PT} {J I J1 I1 : IT} {cs n pc pc' j : Nat} {L : List (Nat × AV)} {S St as : List AV} {v : Option AV}
theorem VE.cV {o ci n0 k : Nat} {T : u_T} {N : Nat} (d : decode M.2.1 pc = .ok (.invokevirtual j, 3)) (hp : pc + 3 = pc') (hm : MV My k) (hl : Cond.methodLink M.1.cls j My.1 ∈ TB) (hc : classes[ci]? = some (My.1.cls, T, N)) (ho : K o = some (ci, n0)) (h8 : Nat.ble (sl S) 8 = true) (hR1 : Nat.ble (Ry.frames + 1) R.frames = true) (hR2 : Nat.ble (8 + (My.2.2.1 + 11) + Ry.locals) R.locals = true) (hcs : cs + Ry.cells ≤ R.cells) (hn : n + Ry.slots ≤ R.slots) (hs : Sp My false Ry (ex K1 P1 J1 I1 (.inl v)) K P J I (vR (some o) :: as)) (hst : St = as.reverse ++ vR (some o) :: S) (hk : as.length = k)
    (kk : VE M x R Q K1 P1 J1 I1 (cs + Ry.cells) (n + Ry.slots) pc' L (v.toList ++ S)) : VE M x R Q K P J I cs n pc L St :=
  VE.callV d hp hs hst hm.1 hm.2.1 hk hm.2.2.1 hm.2.2.2 hl hc ho h8 hR1 hR2 hcs hn (fun r K' P' J' I' h => by obtain ⟨h1, h2, h3, h4, h5⟩ := h; cases h1; subst h2; subst h3; subst h4; subst h5; exact kk)
theorem VE.cS {k : Nat} (d : decode M.2.1 pc = .ok (.invokestatic j, 3)) (hp : pc + 3 = pc') (hm : MS My k) (hl : Cond.methodLink M.1.cls j My.1 ∈ TB) (h8 : Nat.ble (sl S) 8 = true) (hR1 : Nat.ble (Ry.frames + 1) R.frames = true) (hR2 : Nat.ble (8 + (My.2.2.1 + 11) + Ry.locals) R.locals = true) (hcs : cs + Ry.cells ≤ R.cells) (hn : n + Ry.slots ≤ R.slots) (hs : Sp My false Ry (ex K1 P1 J1 I1 (.inl v)) K P J I as) (hst : St = as.reverse ++ S) (hk : as.length = k)
    (kk : VE M x R Q K1 P1 J1 I1 (cs + Ry.cells) (n + Ry.slots) pc' L (v.toList ++ S)) : VE M x R Q K P J I cs n pc L St :=
  VE.callS d hp hs hst hm.1 hm.2.1 hk hm.2.2 hl h8 hR1 hR2 hcs hn (fun r K' P' J' I' h => by obtain ⟨h1, h2, h3, h4, h5⟩ := h; cases h1; subst h2; subst h3; subst h4; subst h5; exact kk)
theorem VE.cSN {k : Nat} {host : String} (d : decode M.2.1 pc = .ok (.invokestatic j, 3)) (hp : pc + 3 = pc') (hm : MS My k) (hl : (M.1.cls, j, My.1, host) ∈ NB) (h8 : Nat.ble (sl S) 8 = true) (hR1 : Nat.ble (Ry.frames + 1) R.frames = true) (hR2 : Nat.ble (8 + (My.2.2.1 + 11) + Ry.locals) R.locals = true) (hcs : cs + Ry.cells ≤ R.cells) (hn : n + Ry.slots ≤ R.slots) (hs : Sp My false Ry (ex K1 P1 J1 I1 (.inl v)) K P J I as) (hst : St = as.reverse ++ S) (hk : as.length = k)
    (kk : VE M x R Q K1 P1 J1 I1 (cs + Ry.cells) (n + Ry.slots) pc' L (v.toList ++ S)) : VE M x R Q K P J I cs n pc L St :=
  VE.callSN d hp hs hst hm.1 hm.2.1 hk hm.2.2 hl h8 hR1 hR2 hcs hn (fun r K' P' J' I' h => by obtain ⟨h1, h2, h3, h4, h5⟩ := h; cases h1; subst h2; subst h3; subst h4; subst h5; exact kk)
theorem VE.cI {o k : Nat} (d : decode M.2.1 pc = .ok (.invokespecial j, 3)) (hp : pc + 3 = pc') (hm : MI My k) (hl : Cond.methodLink M.1.cls j My.1 ∈ TB) (h8 : Nat.ble (sl S) 8 = true) (hR1 : Nat.ble (Ry.frames + 1) R.frames = true) (hR2 : Nat.ble (8 + (My.2.2.1 + 11) + Ry.locals) R.locals = true) (hcs : cs + Ry.cells ≤ R.cells) (hn : n + Ry.slots ≤ R.slots) (hs : Sp My false Ry (ex K1 P1 J1 I1 (.inl v)) K P J I (vR (some o) :: as)) (hst : St = as.reverse ++ vR (some o) :: S) (hk : as.length = k)
    (kk : VE M x R Q K1 P1 J1 I1 (cs + Ry.cells) (n + Ry.slots) pc' L (v.toList ++ S)) : VE M x R Q K P J I cs n pc L St :=
  VE.callI d hp hs hst hm.1 hm.2.1 hk hm.2.2.1 hm.2.2.2.1 hm.2.2.2.2 hl h8 hR1 hR2 hcs hn (fun r K' P' J' I' h => by obtain ⟨h1, h2, h3, h4, h5⟩ := h; cases h1; subst h2; subst h3; subst h4; subst h5; exact kk)
theorem VE.cIN {o k : Nat} {host : String} (d : decode M.2.1 pc = .ok (.invokespecial j, 3)) (hp : pc + 3 = pc') (hm : MI My k) (hl : (M.1.cls, j, My.1, host) ∈ NB) (h8 : Nat.ble (sl S) 8 = true) (hR1 : Nat.ble (Ry.frames + 1) R.frames = true) (hR2 : Nat.ble (8 + (My.2.2.1 + 11) + Ry.locals) R.locals = true) (hcs : cs + Ry.cells ≤ R.cells) (hn : n + Ry.slots ≤ R.slots) (hs : Sp My false Ry (ex K1 P1 J1 I1 (.inl v)) K P J I (vR (some o) :: as)) (hst : St = as.reverse ++ vR (some o) :: S) (hk : as.length = k)
    (kk : VE M x R Q K1 P1 J1 I1 (cs + Ry.cells) (n + Ry.slots) pc' L (v.toList ++ S)) : VE M x R Q K P J I cs n pc L St :=
  VE.callIN d hp hs hst hm.1 hm.2.1 hk hm.2.2.1 hm.2.2.2.1 hm.2.2.2.2 hl h8 hR1 hR2 hcs hn (fun r K' P' J' I' h => by obtain ⟨h1, h2, h3, h4, h5⟩ := h; cases h1; subst h2; subst h3; subst h4; subst h5; exact kk)
end CallD
theorem VE.loc {M : MD} {x : Bool} {R : Room} {Q : PE} {K : KT} {P : PT} {J I : IT} {cs n pc : Nat} {L L' : List (Nat × AV)} {S : List AV} (h : ∀ q ∈ L', q ∈ L) (k : VE M x R Q K P J I cs n pc L' S) : VE M x R Q K P J I cs n pc L S :=
  VE.go k (fun {_ _ _ _ _ _ _ _ _ _ ad _ _ _ _ _ _ _} X hl kk => kk _ X.2.2.2.2.1 (fun q hq => X.2.2.2.2.2.1 q (h q hq)) ⟨hl.1, hl.2.1, fun q hq => by
    obtain ⟨r, hr, rfl⟩ := List.mem_map.mp hq
    exact hl.2.2 _ (List.mem_map.mpr ⟨r, h r hr, rfl⟩)⟩)
theorem VE.nrm {M : MD} {x : Bool} {R : Room} {Q : PE} {K : KT} {P : PT} {J I : IT} {cs n pc : Nat} {L : List (Nat × AV)} {S : List AV} (k : VE M x R Q K P J I cs n pc (nrmL L) S) : VE M x R Q K P J I cs n pc L S := VE.loc (fun _ h => nrmL_mem h) k
theorem VE.pick {M : MD} {x : Bool} {R : Room} {Q : PE} {K : KT} {P : PT} {J I : IT} {cs n pc : Nat} {L : List (Nat × AV)} {S : List AV} (ks : List Nat) (k : VE M x R Q K P J I cs n pc (pickL L ks) S) : VE M x R Q K P J I cs n pc L S := VE.loc (fun q hq => by
  obtain ⟨i, -, hi⟩ := List.mem_filterMap.mp hq
  cases hv : lkp L i with
  | none => rw [hv] at hi; cases hi
  | some v => rw [hv] at hi; cases hi; exact lkp_mem hv) k
section
variable {M : MD} {x : Bool} {R : Room} {Q : PE} {K : KT} {P : PT} {J I : IT} {cs m pc pc' j : Nat} {L : List (Nat × AV)} {S : List AV}
end
section
variable {K : KT} {P : PT} {J I : IT}
end
section
variable {M : MD} {R : Room} {Q : PE} {K K1 : KT} {P P1 : PT} {J I J1 I1 : IT} {cs n pc pc' j : Nat} {L : List (Nat × AV)} {S St as : List AV} {My : MD} {Ry : Room} {Qy : PQ} {x : Bool}
theorem VE.cVq {o ci n0 k : Nat} {T : u_T} {N : Nat} (d : decode M.2.1 pc = .ok (.invokevirtual j, 3)) (hp : pc + 3 = pc') (hm : MV My k) (hl : Cond.methodLink M.1.cls j My.1 ∈ TB) (hc : classes[ci]? = some (My.1.cls, T, N)) (ho : K o = some (ci, n0)) (h8 : Nat.ble (sl S) 8 = true) (hR1 : Nat.ble (Ry.frames + 1) R.frames = true) (hR2 : Nat.ble (8 + (My.2.2.1 + 11) + Ry.locals) R.locals = true) (hcs : cs + Ry.cells ≤ R.cells) (hn : n + Ry.slots ≤ R.slots) (hs : Sp My false Ry Qy K P J I (vR (some o) :: as)) (hst : St = as.reverse ++ vR (some o) :: S) (hk : as.length = k)
    (kk : ∀ (r : Option AV) (K' : KT) (P' : PT) (J' I' : IT), Qy (.inl r) K' P' J' I' → VE M x R Q K' P' J' I' (cs + Ry.cells) (n + Ry.slots) pc' L (r.toList ++ S)) : VE M x R Q K P J I cs n pc L St :=
  VE.callV d hp hs hst hm.1 hm.2.1 hk hm.2.2.1 hm.2.2.2 hl hc ho h8 hR1 hR2 hcs hn kk
theorem VE.cSq {k : Nat} (d : decode M.2.1 pc = .ok (.invokestatic j, 3)) (hp : pc + 3 = pc') (hm : MS My k) (hl : Cond.methodLink M.1.cls j My.1 ∈ TB) (h8 : Nat.ble (sl S) 8 = true) (hR1 : Nat.ble (Ry.frames + 1) R.frames = true) (hR2 : Nat.ble (8 + (My.2.2.1 + 11) + Ry.locals) R.locals = true) (hcs : cs + Ry.cells ≤ R.cells) (hn : n + Ry.slots ≤ R.slots) (hs : Sp My false Ry Qy K P J I as) (hst : St = as.reverse ++ S) (hk : as.length = k)
    (kk : ∀ (r : Option AV) (K' : KT) (P' : PT) (J' I' : IT), Qy (.inl r) K' P' J' I' → VE M x R Q K' P' J' I' (cs + Ry.cells) (n + Ry.slots) pc' L (r.toList ++ S)) : VE M x R Q K P J I cs n pc L St :=
  VE.callS d hp hs hst hm.1 hm.2.1 hk hm.2.2 hl h8 hR1 hR2 hcs hn kk
theorem VE.cIq {o k : Nat} (d : decode M.2.1 pc = .ok (.invokespecial j, 3)) (hp : pc + 3 = pc') (hm : MI My k) (hl : Cond.methodLink M.1.cls j My.1 ∈ TB) (h8 : Nat.ble (sl S) 8 = true) (hR1 : Nat.ble (Ry.frames + 1) R.frames = true) (hR2 : Nat.ble (8 + (My.2.2.1 + 11) + Ry.locals) R.locals = true) (hcs : cs + Ry.cells ≤ R.cells) (hn : n + Ry.slots ≤ R.slots) (hs : Sp My false Ry Qy K P J I (vR (some o) :: as)) (hst : St = as.reverse ++ vR (some o) :: S) (hk : as.length = k)
    (kk : ∀ (r : Option AV) (K' : KT) (P' : PT) (J' I' : IT), Qy (.inl r) K' P' J' I' → VE M x R Q K' P' J' I' (cs + Ry.cells) (n + Ry.slots) pc' L (r.toList ++ S)) : VE M x R Q K P J I cs n pc L St :=
  VE.callI d hp hs hst hm.1 hm.2.1 hk hm.2.2.1 hm.2.2.2.1 hm.2.2.2.2 hl h8 hR1 hR2 hcs hn kk
end
section
variable {M : MD} {R : Room} {Q : PE} {K K1 : KT} {P P1 : PT} {J I J1 I1 : IT} {cs n pc pc' j : Nat} {L : List (Nat × AV)} {S St as : List AV} {My : MD} {Ry : Room} {Qy : PQ} {x : Bool}
theorem VE.cSNq {k : Nat} {host : String} (d : decode M.2.1 pc = .ok (.invokestatic j, 3)) (hp : pc + 3 = pc') (hm : MS My k) (hl : (M.1.cls, j, My.1, host) ∈ NB) (h8 : Nat.ble (sl S) 8 = true) (hR1 : Nat.ble (Ry.frames + 1) R.frames = true) (hR2 : Nat.ble (8 + (My.2.2.1 + 11) + Ry.locals) R.locals = true) (hcs : cs + Ry.cells ≤ R.cells) (hn : n + Ry.slots ≤ R.slots) (hs : Sp My false Ry Qy K P J I as) (hst : St = as.reverse ++ S) (hk : as.length = k)
    (kk : ∀ (r : Option AV) (K' : KT) (P' : PT) (J' I' : IT), Qy (.inl r) K' P' J' I' → VE M x R Q K' P' J' I' (cs + Ry.cells) (n + Ry.slots) pc' L (r.toList ++ S)) : VE M x R Q K P J I cs n pc L St :=
  VE.callSN d hp hs hst hm.1 hm.2.1 hk hm.2.2 hl h8 hR1 hR2 hcs hn kk
theorem VE.cINq {o k : Nat} {host : String} (d : decode M.2.1 pc = .ok (.invokespecial j, 3)) (hp : pc + 3 = pc') (hm : MI My k) (hl : (M.1.cls, j, My.1, host) ∈ NB) (h8 : Nat.ble (sl S) 8 = true) (hR1 : Nat.ble (Ry.frames + 1) R.frames = true) (hR2 : Nat.ble (8 + (My.2.2.1 + 11) + Ry.locals) R.locals = true) (hcs : cs + Ry.cells ≤ R.cells) (hn : n + Ry.slots ≤ R.slots) (hs : Sp My false Ry Qy K P J I (vR (some o) :: as)) (hst : St = as.reverse ++ vR (some o) :: S) (hk : as.length = k)
    (kk : ∀ (r : Option AV) (K' : KT) (P' : PT) (J' I' : IT), Qy (.inl r) K' P' J' I' → VE M x R Q K' P' J' I' (cs + Ry.cells) (n + Ry.slots) pc' L (r.toList ++ S)) : VE M x R Q K P J I cs n pc L St :=
  VE.callIN d hp hs hst hm.1 hm.2.1 hk hm.2.2.1 hm.2.2.2.1 hm.2.2.2.2 hl h8 hR1 hR2 hcs hn kk
end
section
variable {K : KT} {P : PT} {J I : IT}
end
section Objs
variable {M : MD} {x : Bool} {R : Room} {Q : PE} {K : KT} {P : PT} {J I : IT} {cs n pc pc' : Nat} {L : List (Nat × AV)} {S : List AV}
theorem VE.cast {o ci n0 NN j : Nat} {C : String} {T : u_T} (d : decode M.2.1 pc = .ok (.checkcast j, 3)) (hp : pc + 3 = pc') (hlk : Cond.classLink M.1.cls j C ∈ TB) (hc : classes[ci]? = some (C, T, NN)) (ho : K o = some (ci, n0)) (kk : VE M x R Q K P J I cs n pc' L (vR (some o) :: S)) : VE M x R Q K P J I cs n pc L (vR (some o) :: S) := by
  subst hp
  intro p l e s m args below meth c D ad0 ad K0 dom H locs ls X hl
  obtain ⟨i, -, hi⟩ := X.2.2.2.2.2.2.1.at ho (ik_c (kn hc).2)
  rw [ce_obj (kn hc).2] at hi
  exact va_castS X.1.1 X.1.2.1 X.1.2.2.2.2.1 (X.1.2.2.2.2.2.1 _ hlk) (X.2.1.1 ci _ hc).2 (va_recv X.2.1 X.2.2.2.2.2.2.1.2.2.1 hc hi) d (kk p l e s m args below meth c D ad0 ad K0 dom H locs ls X hl)
end Objs
