/-! what throws, and what catches -/
section CallsX
variable {M : MD} {x : Bool} {R : Room} {Q : PQ} {K : KT} {P : PT} {J I : IT} {cs n pc pc' : Nat} {L : List (Nat × AV)} {S St : List AV}
variable {p : Program} {l : Launch} {e : Env} {s : State} {m : MethodId} {args : Array Value} {below : List Frame} {meth : Method} {c : Code} {D : GD} {ad0 ad : Nat → Nat} {K0 : KT} {dom : List Nat} {H : Heap} {locs : List Loc} {ls : Array Slot}
theorem CX.backX {Qy : PQ} {mc ms : Nat} {a : Array Value} {st0 : List Value} {Qf : State → Prop} (X : CX M x R p l s m args meth c D ad0 ad K0 dom H locs K P J I L St) (hl : lv_has ls M.2.2.1 (cl ad L)) (hS : WFs K S)
    (hr : vx_Run p l e R s m args below meth c H locs cs n mc ms (F0 m pc ls st0) (S.map (cv ad)) (QN Qy D ad K H.size a) (QX Qy D ad K H.size) (AF ad K H.size))
    (kk : ∀ (r : Option AV) (K' : KT) (P' : PT) (J' I' : IT) (ad' : Nat → Nat) (dom' : List Nat) (H1 : Heap) (locs1 : List Loc), Qy (.inl r) K' P' J' I' → CX M x R p l s m args meth c D ad0 ad' K0 dom' H1 locs1 K' P' J' I' L (r.toList ++ S) → lv_has ls M.2.2.1 (cl ad' L) →
      W p l e R s m args below meth c H1 locs1 (cs + mc) (n + ms) Qf (F0 m (pc + 3) ls ((r.toList ++ S).map (cv ad'))))
    (kx : ∀ (E : String) (K' : KT) (P' : PT) (J' I' : IT) (ad' : Nat → Nat) (dom' : List Nat) (H1 : Heap) (locs1 : List Loc) (q : Addr) (ce : Cell), Qy (.inr E) K' P' J' I' → CX M x R p l s m args meth c D ad0 ad' K0 dom' H1 locs1 K' P' J' I' L S → lv_has ls M.2.2.1 (cl ad' L) →
      H1[q]? = some ce → ce.vm = .none → s.vm.findClass E = some ce.cls → vx_W p l e R s m args below meth c H1 locs1 (cs + mc) (n + ms) Qf (F0 m pc ls (S.map (cv ad'))) q) :
    W p l e R s m args below meth c H locs cs n Qf (F0 m pc ls st0) := by
  intro T hT hX
  rcases hr T hT hX with ⟨v, st₀, t, T', Lc, h0, X', hL, e1, e2, ⟨⟨r, K', P', J', I', ad', dom', ho, hq, w1, w2, he, hR, hK⟩, hF⟩, st⟩ | ⟨q, st₀, t, T', Lc, E, ce, h0, X', hL, e1, e2, ⟨⟨K', P', J', I', ad', dom', hq, w1, he, hR, hK⟩, hF⟩, hce, hcv, hcl, st⟩
  · obtain ⟨k1, k2, k3⟩ := vx_keep h0 e1 X.2.2.2.2.2.2.2.1 (fun q _ h => X.sub q h) X.sub hL hF
    have hv : v = r.map (cv ad') := by cases ho; rfl
    have w3 : WFs K' r.toList := fun v hv => w2 v (by cases r with | none => cases hv | some y => simp at hv; rw [hv])
    obtain ⟨t2, a1, b1⟩ := kk r K' P' J' I' ad' dom' T'.heap (locs ++ Lc) hq (X.post hS w1 w3 he (by rw [e1]; exact hR) k3) (by rw [(cl_ext he X.2.2.2.2.2.1).1]; exact hl) T' rfl X'
    have es : v.toList ++ S.map (cv ad) = (r.toList ++ S).map (cv ad') := by
      rw [hv, List.map_append, (cs_ext he hS).1]
      cases r <;> rfl
    exact ⟨t2, st t2 (by rw [es]; exact a1), b1⟩
  · obtain ⟨k1, k2, k3⟩ := vx_keep h0 e1 X.2.2.2.2.2.2.2.1 (fun q _ h => X.sub q h) X.sub hL hF
    have CX' := X.post (r := []) hS w1 (fun v hv => nomatch hv) he (by rw [e1]; exact hR) k3
    obtain ⟨t2, a1, b1⟩ := kx E K' P' J' I' ad' dom' T'.heap (locs ++ Lc) q ce hq CX' (by rw [(cl_ext he X.2.2.2.2.2.1).1]; exact hl) (by rw [e1]; exact hce) hcv hcl T' rfl X'
    exact ⟨t2, st.trans (by rw [← (cs_ext he hS).1]; exact a1), b1⟩
/-- an exception goes on to the caller -/
theorem CX.out {E : String} {q : Addr} {ce : Cell} {rest : List Value} {ls' : Array Slot} (X : CX M true R p l s m args meth c D ad0 ad K0 dom H locs K P J I L S) (hh : M.2.2.2.2 = []) (hq : Q (.inr E) K P J I) (hce : H[q]? = some ce) (hcv : ce.vm = .none) (hcl : s.vm.findClass E = some ce.cls) (h1 : cs ≤ R.cells) (h2 : n ≤ R.slots) :
    vx_W p l e R s m args below meth c H locs cs n (QF true Q D ad0 K0 below args s R) (F0 m pc ls' rest) q := by
  obtain ⟨x1, x2, x3, x4, x5, x6, x7, x8, x9⟩ := X
  have ht := x1.2.2.2.2.2.2.2.2.2.2 rfl
  rw [hh] at ht
  refine vx_out (E := E) (ce := ce) (fun x hx => by rw [ht] at hx; cases hx) x1.2.2.2.2.2.2.1 hce hcv hcl (fun t ht hA => ?_) x8.2.2 h1 h2
  exact ⟨⟨K, P, J, I, ad, dom, hq, x4, x9.1, by rw [ht]; exact x7, va_K.moved hA x2⟩, x8.F ht⟩
/-- a row of the table takes what is thrown at pc -/
def Catch (M : MD) (pc : Nat) (E : String) (hpc : Nat) : Prop := ∃ (pre suf : List ExceptionTableEntry) (x : ExceptionTableEntry) (name : String), tableOf M.2.2.2.2 = pre ++ x :: suf ∧ (∀ z ∈ pre, covers z pc = false ∨ (z.catchType ≠ 0 ∧ ∃ nm : String, Cond.classLink M.1.cls z.catchType nm ∈ TB ∧ (E, nm) ∈ NN)) ∧
  covers x pc = true ∧ x.catchType ≠ 0 ∧ Cond.classLink M.1.cls x.catchType name ∈ TB ∧ (E, name) ∈ NC ∧ x.handlerPc = hpc
/-- .. and answers a number -/
theorem CX.caught {E : String} {q : Addr} {ce : Cell} {rest : List Value} {hpc h2 h3 i : Nat} {z : Int} (X : CX M true R p l s m args meth c D ad0 ad K0 dom H locs K P J I L S) (hl : lv_has ls M.2.2.1 (cl ad L)) (hC : Catch M pc E hpc) (hq : Q (.inl (some (vI z))) K P J I) (hce : H[q]? = some ce) (hcv : ce.vm = .none) (hcl : s.vm.findClass E = some ce.cls) (h1 : cs ≤ R.cells) (h2' : n ≤ R.slots)
    (da : (decode M.2.1 hpc = .ok (.astore i, 2) ∧ h2 = hpc + 2) ∨ (∃ k : Fin 4, (k : Nat) = i ∧ decode M.2.1 hpc = .ok (.astore_n k, 1) ∧ h2 = hpc + 1)) (hi : i < M.2.2.1) (di : decode M.2.1 h2 = .ok (.iconst z, 1)) (hz : inR z) (d3 : decode M.2.1 h3 = .ok (.ireturn, 1)) (e3 : h3 = h2 + 1) (hM : M.2.2.2.1 = some .int) :
    vx_W p l e R s m args below meth c H locs cs n (QF true Q D ad0 K0 below args s R) (F0 m pc ls rest) q := by
  obtain ⟨pre, suf, y, name, ht, hpre, hcov, hy0, hlk, hcs, rfl⟩ := hC
  have X' := X
  obtain ⟨x1, x2, x3, x4, x5, x6, x7, x8, x9⟩ := X
  have hts := x1.2.2.2.2.2.1
  have hW := x1.2.2.2.2.2.2.2.2.2.1
  have htb := x1.2.2.2.2.2.2.2.2.2.2 rfl
  refine vx_catch (own := M.1.cls) (name := name) (E := E) (ce := ce) x1.2.2.2.2.1 pre y suf (htb.trans ht) (fun w hw => ?_) hcov hy0 (hts _ hlk) (va_Nw.use rfl (hW.2.1 _ hcs)) hce hcv hcl ?_
  · rcases hpre w hw with h | ⟨hz0, nm, h1, h2⟩
    · exact Or.inl h
    · exact Or.inr ⟨hz0, nm, hts _ h1, hW.2.2.2.1 _ h2⟩
  · refine W.widen h1 h2' ?_
    have fin : ∀ (ls2 : Array Slot), W p l e R s m args below meth c H locs R.cells R.slots (QF true Q D ad0 K0 below args s R) (F0 m h2 ls2 []) := by
      intro ls2
      refine lv_iconst x1.1 x1.2.1 di rfl ?_
      subst e3
      exact vx_ret (W.zret x1.1 x1.2.1 (x1.2.2.1.trans hM) rfl (fun t ht hWt => QN.of (r := some (vI z)) X' hq (fun v ev => by cases ev; exact hz) ht hWt) x8.2.2 d3 x1.2.2.2.2.2.2.1)
    rcases da with ⟨da, rfl⟩ | ⟨k, rfl, da, rfl⟩
    · exact lv_astore x1.1 x1.2.1 da hl hi rfl (fun ls2 _ => fin ls2)
    · exact lv_astore_n x1.1 x1.2.1 da rfl hl hi rfl (fun ls2 _ => fin ls2)
end CallsX
section CallRowsX
variable {M My : MD} {R Ry : Room} {Q Qy : PQ} {K : KT} {P : PT} {J I : IT} {cs n pc pc' j : Nat} {L : List (Nat × AV)} {S St as : List AV}
/-- what a row of M does with an exception: on to the caller, or caught and told by a number -/
def OnX (M : MD) (Q : PQ) (pc : Nat) (E : String) (K : KT) (P : PT) (J I : IT) : Prop := (M.2.2.2.2 = [] ∧ Q (.inr E) K P J I) ∨
  ∃ (hpc h2 h3 i : Nat) (z : Int), Catch M pc E hpc ∧ Q (.inl (some (vI z))) K P J I ∧ ((decode M.2.1 hpc = .ok (.astore i, 2) ∧ h2 = hpc + 2) ∨ (∃ k : Fin 4, (k : Nat) = i ∧ decode M.2.1 hpc = .ok (.astore_n k, 1) ∧ h2 = hpc + 1)) ∧ i < M.2.2.1 ∧ decode M.2.1 h2 = .ok (.iconst z, 1) ∧ inR z ∧ decode M.2.1 h3 = .ok (.ireturn, 1) ∧ h3 = h2 + 1 ∧ M.2.2.2.1 = some .int
theorem VW.callVX {o ci n0 k : Nat} {T : u_T} {N : Nat} (d : decode M.2.1 pc = .ok (.invokevirtual j, 3)) (hp : pc + 3 = pc') (hs : Sp My true Ry Qy K P J I (vR (some o) :: as)) (hst : St = as.reverse ++ vR (some o) :: S) (hm : MOK My) (hnp : nPar My k) (hk : as.length = k) (hi : Cond.instanceMethod My.1 ∈ TB) (hse : Cond.selects My.1.cls My.1 My.1 ∈ TB) (hl : Cond.methodLink M.1.cls j My.1 ∈ TB)
    (hc : classes[ci]? = some (My.1.cls, T, N)) (ho : K o = some (ci, n0)) (h8 : Nat.ble (sl S) 8 = true) (hR1 : Nat.ble (Ry.frames + 1) R.frames = true) (hR2 : Nat.ble (8 + (My.2.2.1 + 11) + Ry.locals) R.locals = true) (hcs : cs + Ry.cells ≤ R.cells) (hn : n + Ry.slots ≤ R.slots)
    (kx : ∀ (E : String) (K' : KT) (P' : PT) (J' I' : IT), Qy (.inr E) K' P' J' I' → OnX M Q pc E K' P' J' I')
    (kk : ∀ (r : Option AV) (K' : KT) (P' : PT) (J' I' : IT), Qy (.inl r) K' P' J' I' → VW M true R Q K' P' J' I' (cs + Ry.cells) (n + Ry.slots) pc' L (r.toList ++ S)) : VW M true R Q K P J I cs n pc L St := by
  subst hp
  subst hst
  intro p l e s m args below meth c D ad0 ad K0 dom H locs ls X hll
  obtain ⟨hm1, hm2, hm3, hm4, hm5⟩ := hm
  have hS := X.2.2.2.2.1.app
  have hM : vx_Met l My.1 (wsM My) Ry (PcM D ad dom K P J I (vR (some o) :: as) H.size) (QN Qy D ad K H.size) (QX Qy D ad K H.size) Ry.cells Ry.slots (AF ad K H.size) := hs l X.1.2.2.2.2.2.2.2.2.1 D ad dom H.size X.2.2.2.1 (WFs.cons hS.2.hd hS.1)
  obtain ⟨i, hdi, hi2⟩ := X.2.2.2.2.2.2.1.at ho (ik_c (kn hc).2)
  rw [ce_obj (kn hc).2] at hi2
  have hrun := vx_runV (rest := S.map (cv ad)) (b := ad o) (As := as.map (cv ad)) (g := F0 m pc ls ((as.reverse ++ vR (some o) :: S).map (cv ad))) (locs := locs) (cells := cs) (slots := n) (e := e) (below := below) (meth := meth)
    ⟨X.1.1, X.1.2.1, X.1.2.2.2.1, X.1.2.2.2.2.1, X.1.2.2.2.2.2.1⟩ hM
    (cwV k X.1.2.2.2.2.2.1 (C := My.1.cls) (index := j) (own := M.1.cls) (by
      intro w hw
      unfold wsV at hw
      rcases List.mem_append.mp hw with hw | hw
      · simp only [List.mem_cons, List.not_mem_nil, or_false] at hw
        rcases hw with rfl | rfl | rfl | rfl
        · exact ⟨hl, tb_good _ hl⟩
        · exact ⟨hi, tb_good _ hi⟩
        · exact ⟨hse, tb_good _ hse⟩
        · exact ⟨hm3, tb_good _ hm3⟩
      · exact goodTB My hm1 hm2 w hw) (wsM_eq hm2) rfl rfl ⟨rfl, hm4, hm5, hnp⟩ ⟨Nat.le_of_ble_eq_true hR1, Nat.le_of_ble_eq_true hR2⟩)
    ⟨PcM.blind, va_recv X.2.1 X.2.2.2.2.2.2.1.2.2.1 hc hi2, fun U hU hW => X.pre (as := vR (some o) :: as) U hU hW⟩ rfl (by rw [List.length_map, hk]) hll.1 (by rw [List.map_append, List.map_reverse]; rfl) (lv_room (m := m) (pc := pc) (ls := ls) (rest := []) (cats ad S h8)) d ⟨hcs, hn⟩
  refine X.backX hll hS.2.tl hrun (fun r K' P' J' I' ad' dom' H1 locs1 hq CX' hl' => kk r K' P' J' I' hq p l e s m args below meth c D ad0 ad' K0 dom' H1 locs1 ls CX' hl') (fun E K' P' J' I' ad' dom' H1 locs1 q ce hq CX' hl' hce hcv hcl => ?_)
  rcases kx E K' P' J' I' hq with ⟨hh, hQ⟩ | ⟨hpc, h2, h3, i9, z, hC, hQ, da, hi9, di, hz, d3, e3, hM9⟩
  · exact CX'.out hh hQ hce hcv hcl hcs hn
  · exact CX'.caught hl' hC hQ hce hcv hcl hcs hn da hi9 di hz d3 e3 hM9
theorem VW.callSX {k : Nat} (d : decode M.2.1 pc = .ok (.invokestatic j, 3)) (hp : pc + 3 = pc') (hs : Sp My true Ry Qy K P J I as) (hst : St = as.reverse ++ S) (hm : MOK My) (hnp : nPar My k) (hk : as.length = k) (hi : Cond.static My.1 ∈ TB) (hl : Cond.methodLink M.1.cls j My.1 ∈ TB)
    (h8 : Nat.ble (sl S) 8 = true) (hR1 : Nat.ble (Ry.frames + 1) R.frames = true) (hR2 : Nat.ble (8 + (My.2.2.1 + 11) + Ry.locals) R.locals = true) (hcs : cs + Ry.cells ≤ R.cells) (hn : n + Ry.slots ≤ R.slots)
    (kx : ∀ (E : String) (K' : KT) (P' : PT) (J' I' : IT), Qy (.inr E) K' P' J' I' → OnX M Q pc E K' P' J' I')
    (kk : ∀ (r : Option AV) (K' : KT) (P' : PT) (J' I' : IT), Qy (.inl r) K' P' J' I' → VW M true R Q K' P' J' I' (cs + Ry.cells) (n + Ry.slots) pc' L (r.toList ++ S)) : VW M true R Q K P J I cs n pc L St := by
  subst hp
  subst hst
  intro p l e s m args below meth c D ad0 ad K0 dom H locs ls X hll
  obtain ⟨hm1, hm2, hm3, hm4, hm5⟩ := hm
  have hS := X.2.2.2.2.1.app
  have hM : vx_Met l My.1 (wsM My) Ry (PcM D ad dom K P J I as H.size) (QN Qy D ad K H.size) (QX Qy D ad K H.size) Ry.cells Ry.slots (AF ad K H.size) := hs l X.1.2.2.2.2.2.2.2.2.1 D ad dom H.size X.2.2.2.1 hS.1
  have hts := X.1.2.2.2.2.2.1
  have hrun := vx_runS (index := j) (own := M.1.cls) (rest := S.map (cv ad)) (As := as.map (cv ad)) (g := F0 m pc ls ((as.reverse ++ S).map (cv ad))) (locs := locs) (cells := cs) (slots := n) (e := e) (below := below) (meth := meth)
    ⟨X.1.1, X.1.2.1, X.1.2.2.2.1, X.1.2.2.2.2.1, hts⟩ hM
    ⟨callB_of k hts (goodTB My hm1 hm2) (wsM_eq hm2) rfl rfl (hts _ hm3) (hts _ hl) ⟨hm4, hm5, hnp⟩ ⟨Nat.le_of_ble_eq_true hR1, Nat.le_of_ble_eq_true hR2⟩, hts _ hi⟩
    ⟨PcM.blind, fun U hU hW => X.pre (as := as) U hU hW⟩ rfl (by rw [List.length_map, hk]) hll.1 (by rw [List.map_append, List.map_reverse]) (lv_room (m := m) (pc := pc) (ls := ls) (rest := []) (cats ad S h8)) d ⟨hcs, hn⟩
  refine X.backX hll hS.2 hrun (fun r K' P' J' I' ad' dom' H1 locs1 hq CX' hl' => kk r K' P' J' I' hq p l e s m args below meth c D ad0 ad' K0 dom' H1 locs1 ls CX' hl') (fun E K' P' J' I' ad' dom' H1 locs1 q ce hq CX' hl' hce hcv hcl => ?_)
  rcases kx E K' P' J' I' hq with ⟨hh, hQ⟩ | ⟨hpc, h2, h3, i9, z, hC, hQ, da, hi9, di, hz, d3, e3, hM9⟩
  · exact CX'.out hh hQ hce hcv hcl hcs hn
  · exact CX'.caught hl' hC hQ hce hcv hcl hcs hn da hi9 di hz d3 e3 hM9
end CallRowsX
/-- throw new E(), on to the caller -/
def ThrOK (own : String) (ik ic : Nat) (E : String) : Prop := Bundle.fit E = true ∧ Cond.classLink own ik E ∈ TB ∧ Cond.initialized E ∈ TB ∧ (∀ w ∈ (vx_at0 own ic E ["java/lang/RuntimeException", "java/lang/Exception"]).filter goodWord, w ∈ TB) ∧
  (∀ w ∈ (vx_at0 own ic E ["java/lang/RuntimeException", "java/lang/Exception"]).filter (fun w => !goodWord w), (∃ q ∈ ND, w = .declares q) ∨ ∃ q ∈ NC, w = .castable q.1 q.2)
theorem VW.throw0 {M : MD} {R : Room} {Q : PQ} {K : KT} {P : PT} {J I : IT} {cs n pc : Nat} {L : List (Nat × AV)} {S : List AV} {E : String} {ik ic : Nat} (d0 : decode M.2.1 pc = .ok (.new ik, 3)) (d3 : decode M.2.1 (pc + 3) = .ok (.dup, 1)) (d4 : decode M.2.1 (pc + 4) = .ok (.invokespecial ic, 3)) (d7 : decode M.2.1 (pc + 7) = .ok (.athrow, 1))
    (ht : ThrOK M.1.cls ik ic E) (hh : M.2.2.2.2 = []) (hf : 5 < R.frames) (hl0 : sl S + 81 ≤ R.locals) (hc : cs + 1 ≤ R.cells) (hn : n + 6 ≤ R.slots) (hq : Q (.inr E) K P J I) : VW M true R Q K P J I cs n pc L S := by
  intro p l e s m args below meth c D ad0 ad K0 dom H locs ls X hll
  obtain ⟨t1, t2, t3, t4, t5⟩ := ht
  have X' := X
  obtain ⟨x1, x2, x3, x4, x5, x6, x7, x8, x9⟩ := X
  have hts := x1.2.2.2.2.2.1
  have hW := x1.2.2.2.2.2.2.2.2.2.1
  have htb := x1.2.2.2.2.2.2.2.2.2.2 rfl
  rw [hh] at htb
  have hng : ∀ w ∈ (vx_at0 M.1.cls ic E ["java/lang/RuntimeException", "java/lang/Exception"]).filter (fun w => !goodWord w), w.before args s = true ∧ w.onTables = true := fun w hw => by
    rcases t5 w hw with ⟨q, hq, rfl⟩ | ⟨q, hq, rfl⟩
    · exact ⟨va_Nw.use rfl (hW.2.2.1 q hq), rfl⟩
    · exact ⟨va_Nw.use rfl (hW.2.1 q hq), rfl⟩
  have hat : ∀ w ∈ vx_at0 M.1.cls ic E ["java/lang/RuntimeException", "java/lang/Exception"], w.before args s = true ∧ vx_ot w = true := fun w hw => by
    cases hg : goodWord w with
    | true => exact ⟨hts _ (t4 w (List.mem_filter.mpr ⟨hw, hg⟩)), by unfold vx_ot; rw [hg, Bool.or_true]⟩
    | false =>
      obtain ⟨h1, h2⟩ := hng w (List.mem_filter.mpr ⟨hw, by rw [hg]; rfl⟩)
      exact ⟨h1, by unfold vx_ot; rw [h2, Bool.true_or]⟩
  refine vx_throw0 (mc := R.cells) (ms := R.slots) (names := ["java/lang/RuntimeException", "java/lang/Exception"]) x1.1 x1.2.1 x1.2.2.2.2.2.2.2.2.1 x1.2.2.2.2.1 t1 (by decide +kernel) (hts _ t2) (hts _ t3) (fun w hw => (hat w hw).1) ?_ x3.1 x3.2.1 x8 (hll.1.trans x1.2.2.2.1.symm) d0 d3 d4 d7 (fun x hx => by rw [htb] at hx; cases hx) hf ?_ hc hn x1.2.2.2.2.2.2.1 ?_ x8.2.2 hc hn
  · intro w hw
    rcases List.mem_cons.mp hw with rfl | hw
    · rfl
    · rcases List.mem_cons.mp hw with rfl | hw
      · rfl
      · exact (hat w hw).2
  · have : ((S.map (cv ad)).map fun v => v.category).sum = sl S := by
      clear hl0 X' x5
      induction S with
      | nil => rfl
      | cons v vs ih =>
        show (cv ad v).category + ((vs.map (cv ad)).map fun v => v.category).sum = (bif isJ v then 2 else 1) + sl vs
        rw [ih]
        congr 1
        rcases v with z | r | z
        · rfl
        · cases r <;> rfl
        · rfl
    rw [this]
    show sl S + (13 * 3 + 42) ≤ R.locals
    omega
  · intro t hA hz hk
    refine ⟨⟨K, P, J, I, ad, dom, hq, x4, x9.1, ⟨x7.1, x7.2.1, x7.2.2.1.kept (fun k q hq => hk q.1 (x7.2.2.1 k q hq).lt), x7.2.2.2⟩, va_K.moved hA x2⟩, ⟨Nat.le_trans x8.1 hz, fun q h1 h2 => (hk q (Nat.lt_of_lt_of_le h1 x8.1)).trans (x8.2.1 q h1 h2)⟩⟩
theorem tIOO : ThrOK "RowForge" 354 356 "java/lang/IndexOutOfBoundsException" := ⟨by decide +kernel, by decide +kernel, by decide +kernel, by decide +kernel, by decide +kernel⟩
